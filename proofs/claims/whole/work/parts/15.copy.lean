/-- n numbers of a from i on come to b from j on -/
def am_cpy (h : Mem) (a : Nat) (i : Int) (b : Nat) (j n : Int) : Mem := fun c k => if c = b ∧ j ≤ k ∧ k < j + n then h a (i + (k - j)) else h c k
theorem am_cpy_ne {h : Mem} {a b c : Nat} {i j n : Int} (e : c ≠ b) : am_cpy h a i b j n c = h c := by funext k; simp [am_cpy, e]
theorem arrV_eq {c : ClassId} {N : Nat} {f g : Nat → Value} (h : ∀ j, j < N → f j = g j) : arrV c N f = arrV c N g := by
  unfold arrV
  congr 1
  apply congrArg
  funext j
  exact h j.val j.isLt
/-- an array of numbers of its own, as the kit's cell -/
theorem Rp.arrI {G : GX} {H : Heap} {t : Tp} {h : Mem} (hR : Rp G t h H) {a N : Nat} (hk : t.2.1 a = (20, N)) (ha : a < t.1) : ∃ f : Nat → Int32, H[G.1.size + a]? = some (arrV (G.2.2.1 20) N (fun j => .int (f j))) ∧ ∀ j, j < N → (f j).toInt = h a (j : Int) := by
  obtain ⟨cell, q1, q2, q3, q4, q5⟩ := hR.2.2.2.1 a ha
  rw [hk] at q4 q5
  obtain ⟨f, hf⟩ := q4 (Nat.le_refl 20)
  have e20 : am_cls G 20 = G.2.2.1 20 := if_neg (by decide)
  have hx : ∀ j, ∃ x : Int32, j < N → f j = .int x ∧ x.toInt = h a (j : Int) := by
    intro j
    by_cases hj : j < N
    · obtain ⟨v, q6, q7⟩ := q5 j hj
      obtain ⟨x, rfl, hx⟩ := q7.2 (by rw [hk]; rfl)
      refine ⟨x, fun _ => ⟨?_, hx⟩⟩
      rw [show am_pos G (20, N).1 j = j from if_neg (Nat.lt_irrefl 20), hf, show (20, N).2 = N from rfl, arrV_read _ _ hj] at q6
      exact Option.some.inj q6
    · exact ⟨0, fun z => absurd z hj⟩
  refine ⟨fun j => Classical.choose (hx j), ?_, fun j hj => (Classical.choose_spec (hx j) hj).2⟩
  rw [q1, hf]
  show some (arrV (am_cls G 20) N f) = _
  rw [e20]
  exact congrArg some (arrV_eq fun j hj => (Classical.choose_spec (hx j) hj).1)
theorem aw_copy {M : MI} {mc ms : Nat} {Q : Option AV → Tp → Mem → Prop} {pc : Nat} {ls : List (Option AV)} {st : List AV} {t : Tp} {h : Mem} {ck sk idx a b N0 N1 : Nat} {i j n : Int} (hd : decode M.2.1 pc = .ok (.invokestatic idx, 3))
    (hl : Cond.methodLink M.2.2.2.2.1 idx arraycopyName ∈ WS ∧ Cond.native arraycopyName ∈ WS ∧ Cond.static arraycopyName ∈ WS ∧ Cond.initialized "java/lang/System" ∈ WS) (ka : t.2.1 a = (20, N0)) (kb : t.2.1 b = (20, N1)) (ha : a < 1000000) (hb : b < 1000000)
    (h1 : 0 ≤ i) (h2 : 0 ≤ j) (h3 : 0 ≤ n) (h4 : i + n ≤ (N0 : Int)) (h5 : j + n ≤ (N1 : Int)) (hF : 1 ≤ M.2.2.2.2.2.1) (hLo : am_w st + 18 ≤ M.2.2.2.2.2.2)
    (k : AW M mc ms Q (pc + 3) ls st t (am_cpy h a i b j n) ck sk) : AW M mc ms Q pc ls (vI n :: vI j :: vR b :: vI i :: vR a :: st) t h ck sk := by
  intro G p l e R s m args below meth c H locs lsC stC C hR hL hS hq
  obtain ⟨nC, r, rfl, rfl, hS0⟩ := SR.i hS
  obtain ⟨jC, r, rfl, rfl, hS1⟩ := SR.i hS0
  obtain ⟨r, rfl, hS2⟩ := SR.r hS1
  obtain ⟨iC, r, rfl, rfl, hS3⟩ := SR.i hS2
  obtain ⟨r, rfl, hS4⟩ := SR.r hS3
  have hG : GW G s := C.2.2.2.2.2.2.2.2.2.2.2.1
  have hts := C.2.2.2.2.2.1
  have ha2 := hR.lt2 ka (by omega) ha
  have hb2 := hR.lt2 kb (by omega) hb
  obtain ⟨f, hc0, hf⟩ := hR.arrI ka ha2
  obtain ⟨g, hc1, hg⟩ := hR.arrI kb hb2
  rw [← hR.at ha2] at hc0
  rw [← hR.at hb2] at hc1
  intro T hT X
  obtain ⟨-, k0, hk0, cm0, hkk0⟩ := (hG.1.2 0 _ rfl).1 N0 (fun j => .int (f j))
  obtain ⟨kF, kL⟩ : 1 ≤ R.frames ∧ am_w st + 18 ≤ R.locals := by
    obtain ⟨-, -, -, -, -, -, -, kf, kl, -⟩ := id C
    exact ⟨Nat.le_trans hF kf, Nat.le_trans hLo kl⟩
  obtain ⟨vm', X', step⟩ := X.arraycopy C.1 C.2.2.2.2.1 (hts _ hl.1) (hts _ hl.2.1) (hts _ hl.2.2.1) (hts _ hl.2.2.2) (src := rho G a) (dst := rho G b) (cs := arrV (G.2.2.1 20) N0 (fun j => .int (f j))) (cd := arrV (G.2.2.1 20) N1 (fun j => .int (g j))) (srcPos := iC) (destPos := jC) (n := nC) (by rw [hT]; exact hc0) (by rw [hT]; exact hc1)
    (fun _ h => by cases h) (fun _ h => by cases h) (fun h => by cases h) (fun h => by cases h) hk0 hk0 hkk0 hkk0 rfl (fun z => absurd (am0_lt.mp z) (by omega)) (fun z => absurd (am0_lt.mp z) (by omega)) (fun z => absurd (am0_lt.mp z) (by omega))
    (by rw [arrV_size]; omega) (by rw [arrV_size]; omega)
    (fun vm₁ _ i0 hi0 => by
      have e : (arrV (G.2.2.1 20) N0 (fun j => Value.int (f j))).slots.getD (iC.toNatClampNeg + i0) .null = .int (f (iC.toNatClampNeg + i0)) := by
        rw [Array.getD_eq_getD_getElem?, arrV_read _ _ (by rw [i32_clamp] at hi0 ⊢; omega)]
        rfl
      refine ⟨?_, ?_⟩
      · rw [e]; rfl
      · rw [e]; exact trivial)
    (g := F0 m pc lsC (.int nC :: .int jC :: .ref (rho G b) :: .int iC :: .ref (rho G a) :: r)) rfl (by rw [C.2.2.2.1]; exact hL.1) (rest := r) rfl (by rw [C.2.1]; exact hd) kF (by rw [am_w_eq hS4]; show 2 * 0 + _ + (7 + 11) ≤ _; omega)
  have e1 : copied (arrV (G.2.2.1 20) N0 (fun j => .int (f j))) (arrV (G.2.2.1 20) N1 (fun j => .int (g j))) iC jC nC = arrV (G.2.2.1 20) N1 (fun k => .int (va_cpy f g iC.toNatClampNeg jC.toNatClampNeg nC.toNatClampNeg k)) := va_copied (fun z => .int z) _ _ f g (by simp only [i32_clamp]; omega)
  rw [e1] at X' step
  have hl3 : rho G b < H.size := (Array.getElem?_eq_some_iff.mp hc1).1
  have hheap : ((T.setVm vm').setCell (rho G b) (arrV (G.2.2.1 20) N1 (fun k => .int (va_cpy f g iC.toNatClampNeg jC.toNatClampNeg nC.toNatClampNeg k)))).heap = H.setIfInBounds (rho G b) (arrV (G.2.2.1 20) N1 (fun k => .int (va_cpy f g iC.toNatClampNeg jC.toNatClampNeg nC.toNatClampNeg k))) := by rw [← hT]; rfl
  have hR2 : Rp G t (am_cpy h a iC.toInt b jC.toInt nC.toInt) (H.setIfInBounds (rho G b) (arrV (G.2.2.1 20) N1 (fun k => .int (va_cpy f g iC.toNatClampNeg jC.toNatClampNeg nC.toNatClampNeg k)))) := by
    have g1 : (H.setIfInBounds (rho G b) (arrV (G.2.2.1 20) N1 (fun k => .int (va_cpy f g iC.toNatClampNeg jC.toNatClampNeg nC.toNatClampNeg k))))[rho G b]? = some (arrV (G.2.2.1 20) N1 (fun k => .int (va_cpy f g iC.toNatClampNeg jC.toNatClampNeg nC.toNatClampNeg k))) := by simp [Array.getElem?_setIfInBounds, hl3]
    have g3 : ∀ q : Nat, q ≠ rho G b → (H.setIfInBounds (rho G b) (arrV (G.2.2.1 20) N1 (fun k => .int (va_cpy f g iC.toNatClampNeg jC.toNatClampNeg nC.toNatClampNeg k))))[q]? = H[q]? := fun q hq => by simp [Array.getElem?_setIfInBounds, Ne.symm hq]
    rw [hR.at hb2] at g1 g3 ⊢
    have e20 : am_cls G 20 = G.2.2.1 20 := if_neg (by decide)
    refine hR.upd hb2 rfl rfl (fun c hc => ⟨am_cpy_ne hc, rfl⟩) ⟨_, g1, rfl, by rw [kb]; exact e20.symm, fun _ => ⟨_, by rw [kb]; show _ = arrV (am_cls G 20) N1 _; rw [e20]⟩, fun q hq => ?_⟩ (by simp) g3
    rw [kb] at hq ⊢
    have hq2 : q < N1 := hq
    refine ⟨.int (va_cpy f g iC.toNatClampNeg jC.toNatClampNeg nC.toNatClampNeg q), ?_, ⟨fun z => (by rw [kb] at z; cases z), fun _ => ⟨_, rfl, ?_⟩⟩⟩
    · rw [show am_pos G (20, N1).1 q = q from if_neg (Nat.lt_irrefl 20)]
      exact arrV_read _ _ hq2
    · unfold va_cpy am_cpy
      simp only [i32_clamp]
      by_cases hc : jC.toInt.toNat ≤ q ∧ q < jC.toInt.toNat + nC.toInt.toNat
      · rw [if_pos hc, if_pos ⟨trivial, by omega, by omega⟩, hf _ (by omega)]
        congr 1
        omega
      · rw [if_neg hc, if_neg (fun z => hc ⟨by omega, by omega⟩), hg _ hq2]
  obtain ⟨t3, a1, b1⟩ := k G p l e R s m args below meth c _ _ lsC r C hR2 hL hS4 (fun q hq3 => by
    rcases List.mem_append.mp hq3 with h | h
    · exact hq q h
    · obtain ⟨z, -, hz⟩ := List.mem_map.mp h
      rw [← hz]
      show G.1.size ≤ rho G b
      rw [hR.at hb2]
      omega) _ hheap X'
  exact ⟨t3, step t3 a1, b1⟩
