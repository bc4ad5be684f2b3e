theorem aw_iushrw {M : MI} {mc ms : Nat} {Q : Option AV → Tp → Mem → Prop} {pc : Nat} {ls : List (Option AV)} {st : List AV} {t : Tp} {h : Mem} {ck sk : Nat} {x y : Int} (hd : decode M.2.1 pc = .ok (.iushr, 1)) (k : AW M mc ms Q (pc + 1) ls (vI ((Int32.ofInt x).toUInt32 >>> ((Int32.ofInt y).toUInt32 &&& Int32.toUInt32 31)).toInt32.toInt :: st) t h ck sk) : AW M mc ms Q pc ls (vI y :: vI x :: st) t h ck sk := by
  intro G p l e R s m args below meth c H locs lsC stC C hR hL hS hq
  obtain ⟨b, r1, rfl, rfl, hS1⟩ := SR.i hS
  obtain ⟨a, r2, rfl, rfl, hS2⟩ := SR.i hS1
  exact lv_iushr C.1 C.2.1 hd rfl (k G p l e R s m args below meth c H locs lsC _ C hR hL ⟨⟨_, rfl, by rw [Int32.ofInt_toInt, Int32.ofInt_toInt]⟩, hS2⟩ hq)
/-- a static field that holds v all the while -/
theorem am_gs {M : MI} {mc ms : Nat} {Q : State → Prop} {pc : Nat} {t : Tp} {h : Mem} {G : GX} {p : Program} {l : Launch} {e : Env} {R : Room} {s : State} {m : MethodId} {args : Array Value} {below : List Frame} {meth : Method} {c : Code} {H : Heap} {locs : List Loc} {lsC : Array Slot} {rest : List Value} {ck sk idx : Nat} {cn n d : String} {v : Value} (C : CX M G mc ms p R s m args meth c) (hR : Rp G t h H) (hd : decode M.2.1 pc = .ok (.getstatic idx, 3)) (hl : Cond.fieldLink M.2.2.2.2.1 idx cn n d ∈ WS) (hZ : va_Z cn n d v (am_up1 G) s G.1)
    (kk : W p l e R s m args below meth c H locs ck sk Q (F0 m (pc + 3) lsC (v :: rest))) : W p l e R s m args below meth c H locs ck sk Q (F0 m pc lsC rest) := by
  obtain ⟨cf, kf, fi, f, a, cell, h1, h2, h3, h4, h5, h6, h7, h8⟩ := hZ
  have ha : a < G.1.size := Nat.not_le.mp h8
  exact W.gets C.1 C.2.1 C.2.2.2.2.1 (C.2.2.2.2.2.1 _ hl) h1 h2 h3 h4 (by rw [hR.2.2.1 a ha]; exact h5) (fun e => by rw [e] at h6; cases h6) h7 rfl hd kk
theorem aw_gs_ROMAN_SIGNS {M : MI} {mc ms : Nat} {Q : Option AV → Tp → Mem → Prop} {pc : Nat} {ls : List (Option AV)} {st : List AV} {t : Tp} {h : Mem} {ck sk idx : Nat} (hd : decode M.2.1 pc = .ok (.getstatic idx, 3)) (hl : Cond.fieldLink M.2.2.2.2.1 idx "RefsSettle$Sheet" "ROMAN_SIGNS" "[I" ∈ WS) (k : AW M mc ms Q (pc + 3) ls (vR 1000001 :: st) t h ck sk) : AW M mc ms Q pc ls st t h ck sk := by
  intro G p l e R s m args below meth c H locs lsC stC C hR hL hS hq
  have hG : GW G s := C.2.2.2.2.2.2.2.2.2.2.2.1
  exact am_gs C hR hd hl hG.2.2.1 (k G p l e R s m args below meth c H locs lsC _ C hR hL ⟨rfl, hS⟩ hq)
theorem aw_gs_COMPACT_STRINGS {M : MI} {mc ms : Nat} {Q : Option AV → Tp → Mem → Prop} {pc : Nat} {ls : List (Option AV)} {st : List AV} {t : Tp} {h : Mem} {ck sk idx : Nat} (hd : decode M.2.1 pc = .ok (.getstatic idx, 3)) (hl : Cond.fieldLink M.2.2.2.2.1 idx "java/lang/String" "COMPACT_STRINGS" "Z" ∈ WS) (k : AW M mc ms Q (pc + 3) ls (vI 1 :: st) t h ck sk) : AW M mc ms Q pc ls st t h ck sk := by
  intro G p l e R s m args below meth c H locs lsC stC C hR hL hS hq
  have hG : GW G s := C.2.2.2.2.2.2.2.2.2.2.2.1
  exact am_gs C hR hd hl hG.2.2.2.1 (k G p l e R s m args below meth c H locs lsC _ C hR hL ⟨⟨_, rfl, rfl⟩, hS⟩ hq)
theorem aw_gs_DigitTens {M : MI} {mc ms : Nat} {Q : Option AV → Tp → Mem → Prop} {pc : Nat} {ls : List (Option AV)} {st : List AV} {t : Tp} {h : Mem} {ck sk idx : Nat} (hd : decode M.2.1 pc = .ok (.getstatic idx, 3)) (hl : Cond.fieldLink M.2.2.2.2.1 idx "java/lang/Integer" "DigitTens" "[B" ∈ WS) (k : AW M mc ms Q (pc + 3) ls (vR 1000003 :: st) t h ck sk) : AW M mc ms Q pc ls st t h ck sk := by
  intro G p l e R s m args below meth c H locs lsC stC C hR hL hS hq
  have hG : GW G s := C.2.2.2.2.2.2.2.2.2.2.2.1
  exact am_gs C hR hd hl hG.2.2.2.2.1 (k G p l e R s m args below meth c H locs lsC _ C hR hL ⟨rfl, hS⟩ hq)
theorem aw_gs_DigitOnes {M : MI} {mc ms : Nat} {Q : Option AV → Tp → Mem → Prop} {pc : Nat} {ls : List (Option AV)} {st : List AV} {t : Tp} {h : Mem} {ck sk idx : Nat} (hd : decode M.2.1 pc = .ok (.getstatic idx, 3)) (hl : Cond.fieldLink M.2.2.2.2.1 idx "java/lang/Integer" "DigitOnes" "[B" ∈ WS) (k : AW M mc ms Q (pc + 3) ls (vR 1000002 :: st) t h ck sk) : AW M mc ms Q pc ls st t h ck sk := by
  intro G p l e R s m args below meth c H locs lsC stC C hR hL hS hq
  have hG : GW G s := C.2.2.2.2.2.2.2.2.2.2.2.1
  exact am_gs C hR hd hl hG.2.2.2.2.2.1 (k G p l e R s m args below meth c H locs lsC _ C hR hL ⟨rfl, hS⟩ hq)
theorem aw_gs_SIOOBE_FORMATTER {M : MI} {mc ms : Nat} {Q : Option AV → Tp → Mem → Prop} {pc : Nat} {ls : List (Option AV)} {st : List AV} {t : Tp} {h : Mem} {ck sk idx : Nat} (hd : decode M.2.1 pc = .ok (.getstatic idx, 3)) (hl : Cond.fieldLink M.2.2.2.2.1 idx "jdk/internal/util/Preconditions" "SIOOBE_FORMATTER" "Ljava/util/function/BiFunction;" ∈ WS) (k : ∀ r : Option Nat, AW M mc ms Q (pc + 3) ls (vQ r :: st) t h ck sk) : AW M mc ms Q pc ls st t h ck sk := by
  intro G p l e R s m args below meth c H locs lsC stC C hR hL hS hq
  have hG : GW G s := C.2.2.2.2.2.2.2.2.2.2.2.1
  rcases hG.2.2.2.2.2.2.1 with z | z
  · exact am_gs C hR hd hl z (k none G p l e R s m args below meth c H locs lsC _ C hR hL ⟨rfl, hS⟩ hq)
  · exact am_gs C hR hd hl z (k (some 1000004) G p l e R s m args below meth c H locs lsC _ C hR hL ⟨rfl, hS⟩ hq)
theorem gs_RJ0_1053 : Cond.fieldLink RJ0 1053 "jdk/internal/util/Preconditions" "SIOOBE_FORMATTER" "Ljava/util/function/BiFunction;" ∈ WS := ws_of 677 (by decide +kernel) rfl
theorem gs_RX7_91 : Cond.fieldLink RX7 91 "RefsSettle$Sheet" "ROMAN_SIGNS" "[I" ∈ WS := ws_of 474 (by decide +kernel) rfl
theorem gs_RJ5_18 : Cond.fieldLink RJ5 18 "java/lang/String" "COMPACT_STRINGS" "Z" ∈ WS := ws_of 589 (by decide +kernel) rfl
theorem gs_RJ6_83 : Cond.fieldLink RJ6 83 "java/lang/Integer" "DigitOnes" "[B" ∈ WS := ws_of 716 (by decide +kernel) rfl
theorem gs_RJ6_87 : Cond.fieldLink RJ6 87 "java/lang/Integer" "DigitTens" "[B" ∈ WS := ws_of 718 (by decide +kernel) rfl
theorem gs_RJ2_403 : Cond.fieldLink RJ2 403 "java/lang/Integer" "DigitOnes" "[B" ∈ WS := ws_of 735 (by decide +kernel) rfl
theorem gs_RJ2_407 : Cond.fieldLink RJ2 407 "java/lang/Integer" "DigitTens" "[B" ∈ WS := ws_of 736 (by decide +kernel) rfl
theorem aw_ldc_w {M : MI} {mc ms : Nat} {Q : Option AV → Tp → Mem → Prop} {pc : Nat} {ls : List (Option AV)} {st : List AV} {t : Tp} {h : Mem} {ck sk i : Nat} {v : Int32} {n : Int} (hd : decode M.2.1 pc = .ok (.ldc_w i, 3)) (hw : Cond.constant M.2.2.2.2.1 i v ∈ WS) (hn : v.toInt = n) (k : AW M mc ms Q (pc + 3) ls (vI n :: st) t h ck sk) : AW M mc ms Q pc ls st t h ck sk := by
  intro G p l e R s m args below meth c H locs lsC stC C hR hL hS hq
  exact lv_ldcw C.1 C.2.1 C.2.2.2.2.1 (C.2.2.2.2.2.1 _ hw) hd (k G p l e R s m args below meth c H locs lsC _ C hR hL ⟨⟨_, rfl, hn⟩, hS⟩ hq)
