theorem aw_mmax {M : MI} {mc ms : Nat} {Q : Option AV → Tp → Mem → Prop} {pc : Nat} {ls : List (Option AV)} {st : List AV} {t : Tp} {h : Mem} {ck sk idx : Nat} {x y : Int} (hd : decode M.2.1 pc = .ok (.invokestatic idx, 3))
    (hl : Cond.methodLink M.2.2.2.2.1 idx Lib.Math.max.name ∈ WS ∧ Cond.static Lib.Math.max.name ∈ WS ∧ Cond.initialized "java/lang/Math" ∈ WS ∧ Cond.code Lib.Math.max.name Lib.Math.max.code 2 (some .int) ∈ WS) (hF : 1 ≤ M.2.2.2.2.2.1) (hLo : am_w st + 13 ≤ M.2.2.2.2.2.2) (hc : ck ≤ mc) (hs : sk ≤ ms)
    (k : AW M mc ms Q (pc + 3) ls (vI (if x < y then y else x) :: st) t h ck sk) : AW M mc ms Q pc ls (vI y :: vI x :: st) t h ck sk := by
  intro G p l e R s m args below meth c H locs lsC stC C hR hL hS hq
  obtain ⟨b, r1, rfl, rfl, hS1⟩ := SR.i hS
  obtain ⟨a, r2, rfl, rfl, hS2⟩ := SR.i hS1
  have hts := C.2.2.2.2.2.1
  obtain ⟨-, -, -, -, -, -, -, kf, kl, kc, ks, -⟩ := id C
  refine va_mmax C.1 C.2.1 (C.2.2.2.1.trans hL.1.symm) C.2.2.2.2.1 (hts _ hl.1) (hts _ hl.2.1) (hts _ hl.2.2.1) (hts _ hl.2.2.2) (Nat.le_trans hF kf) (by rw [am_w_eq hS2]; omega) (Nat.le_trans hc kc) (Nat.le_trans hs ks) hd (k G p l e R s m args below meth c H locs lsC _ C hR hL ⟨⟨_, rfl, ?_⟩, hS2⟩ hq)
  first | (simp only [am_lt]; split <;> rfl) | (simp only [am_le]; split <;> rfl)
theorem aw_mmin {M : MI} {mc ms : Nat} {Q : Option AV → Tp → Mem → Prop} {pc : Nat} {ls : List (Option AV)} {st : List AV} {t : Tp} {h : Mem} {ck sk idx : Nat} {x y : Int} (hd : decode M.2.1 pc = .ok (.invokestatic idx, 3))
    (hl : Cond.methodLink M.2.2.2.2.1 idx Lib.Math.min.name ∈ WS ∧ Cond.static Lib.Math.min.name ∈ WS ∧ Cond.initialized "java/lang/Math" ∈ WS ∧ Cond.code Lib.Math.min.name Lib.Math.min.code 2 (some .int) ∈ WS) (hF : 1 ≤ M.2.2.2.2.2.1) (hLo : am_w st + 13 ≤ M.2.2.2.2.2.2) (hc : ck ≤ mc) (hs : sk ≤ ms)
    (k : AW M mc ms Q (pc + 3) ls (vI (if y < x then y else x) :: st) t h ck sk) : AW M mc ms Q pc ls (vI y :: vI x :: st) t h ck sk := by
  intro G p l e R s m args below meth c H locs lsC stC C hR hL hS hq
  obtain ⟨b, r1, rfl, rfl, hS1⟩ := SR.i hS
  obtain ⟨a, r2, rfl, rfl, hS2⟩ := SR.i hS1
  have hts := C.2.2.2.2.2.1
  obtain ⟨-, -, -, -, -, -, -, kf, kl, kc, ks, -⟩ := id C
  refine va_mmin C.1 C.2.1 (C.2.2.2.1.trans hL.1.symm) C.2.2.2.2.1 (hts _ hl.1) (hts _ hl.2.1) (hts _ hl.2.2.1) (hts _ hl.2.2.2) (Nat.le_trans hF kf) (by rw [am_w_eq hS2]; omega) (Nat.le_trans hc kc) (Nat.le_trans hs ks) hd (k G p l e R s m args below meth c H locs lsC _ C hR hL ⟨⟨_, rfl, ?_⟩, hS2⟩ hq)
  first | (simp only [am_lt]; split <;> rfl) | (simp only [am_le]; split <;> rfl)
theorem mx_RX4_15 : Cond.methodLink RX4 15 Lib.Math.min.name ∈ WS ∧ Cond.static Lib.Math.min.name ∈ WS ∧ Cond.initialized "java/lang/Math" ∈ WS ∧ Cond.code Lib.Math.min.name Lib.Math.min.code 2 (some .int) ∈ WS := ⟨ws_of 387 (by decide +kernel) rfl, ws_of 388 (by decide +kernel) rfl, ws_of 13 (by decide +kernel) rfl, ws_of 389 (by decide +kernel) rfl⟩
theorem mx_RX6_89 : Cond.methodLink RX6 89 Lib.Math.min.name ∈ WS ∧ Cond.static Lib.Math.min.name ∈ WS ∧ Cond.initialized "java/lang/Math" ∈ WS ∧ Cond.code Lib.Math.min.name Lib.Math.min.code 2 (some .int) ∈ WS := ⟨ws_of 512 (by decide +kernel) rfl, ws_of 388 (by decide +kernel) rfl, ws_of 13 (by decide +kernel) rfl, ws_of 389 (by decide +kernel) rfl⟩
theorem mx_RX6_95 : Cond.methodLink RX6 95 Lib.Math.max.name ∈ WS ∧ Cond.static Lib.Math.max.name ∈ WS ∧ Cond.initialized "java/lang/Math" ∈ WS ∧ Cond.code Lib.Math.max.name Lib.Math.max.code 2 (some .int) ∈ WS := ⟨ws_of 513 (by decide +kernel) rfl, ws_of 477 (by decide +kernel) rfl, ws_of 13 (by decide +kernel) rfl, ws_of 478 (by decide +kernel) rfl⟩
theorem mx_RX7_63 : Cond.methodLink RX7 63 Lib.Math.max.name ∈ WS ∧ Cond.static Lib.Math.max.name ∈ WS ∧ Cond.initialized "java/lang/Math" ∈ WS ∧ Cond.code Lib.Math.max.name Lib.Math.max.code 2 (some .int) ∈ WS := ⟨ws_of 476 (by decide +kernel) rfl, ws_of 477 (by decide +kernel) rfl, ws_of 13 (by decide +kernel) rfl, ws_of 478 (by decide +kernel) rfl⟩
theorem mx_RJ5_138 : Cond.methodLink RJ5 138 Lib.Math.min.name ∈ WS ∧ Cond.static Lib.Math.min.name ∈ WS ∧ Cond.initialized "java/lang/Math" ∈ WS ∧ Cond.code Lib.Math.min.name Lib.Math.min.code 2 (some .int) ∈ WS := ⟨ws_of 751 (by decide +kernel) rfl, ws_of 388 (by decide +kernel) rfl, ws_of 13 (by decide +kernel) rfl, ws_of 389 (by decide +kernel) rfl⟩
theorem mx_RJ7_304 : Cond.methodLink RJ7 304 Lib.Math.min.name ∈ WS ∧ Cond.static Lib.Math.min.name ∈ WS ∧ Cond.initialized "java/lang/Math" ∈ WS ∧ Cond.code Lib.Math.min.name Lib.Math.min.code 2 (some .int) ∈ WS := ⟨ws_of 648 (by decide +kernel) rfl, ws_of 388 (by decide +kernel) rfl, ws_of 13 (by decide +kernel) rfl, ws_of 389 (by decide +kernel) rfl⟩
theorem mx_RJ8_194 : Cond.methodLink RJ8 194 Lib.Math.max.name ∈ WS ∧ Cond.static Lib.Math.max.name ∈ WS ∧ Cond.initialized "java/lang/Math" ∈ WS ∧ Cond.code Lib.Math.max.name Lib.Math.max.code 2 (some .int) ∈ WS := ⟨ws_of 632 (by decide +kernel) rfl, ws_of 477 (by decide +kernel) rfl, ws_of 13 (by decide +kernel) rfl, ws_of 478 (by decide +kernel) rfl⟩
