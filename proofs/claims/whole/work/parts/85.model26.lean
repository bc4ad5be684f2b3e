/-! the reference: fits, edits by draws -/
theorem ifb0 {b : Bool} (h : (if b = true then (1 : Int) else 0) = 0) : b = false := by
  cases b with
  | false => rfl
  | true => exact absurd h (by decide)
theorem ifb1 {b : Bool} (h : ¬ (if b = true then (1 : Int) else 0) = 0) : b = true := by
  cases b with
  | true => rfl
  | false => exact absurd rfl h
section MOQ
variable {e q n L : Nat} {h : Mem} {σ : ST} {V : VW}
set_option maxHeartbeats 4000000 in
theorem l_fitM {Q : Option AV → Tp → Mem → Prop} {it row i w fr hi lo : Int} {N : Nat} {g : Int → Int} (ev : mV h 379 0 = V) (hV : WFv V) (r0 : 0 ≤ V 0 4) (r1 : V 0 4 ≤ 9999) (i0 : 0 ≤ it) (i1 : it < V 0 0) (f0 : 0 ≤ fr) (f1 : fr + N ≤ 320) (hN : N ≤ 12) (hg : ∀ k : Nat, k < N → h 376 (fr + k) = g k)
    (hw : (w = 0 ∧ hi = 5 ∧ lo = 0) ∨ (w = 1 ∧ hi = 20 ∧ lo = -1) ∨ ((w = 2 ∨ w = 3) ∧ hi = 87 ∧ lo = 0))
    (hk : ∀ hh (st su le : Int), F81 h hh → st = (if w < 2 then dset (PW V it g N w) hi (hi - lo).toNat else 0) → su = dsum (PW V it g N w) hi (hi - lo).toNat → le = dlst (PW V it g N w) hi (hi - lo).toNat → AW M_X9_fits 0 0 Q 265 [some (vR 373), some (vI it), some (vI row), some (vI i), some (vI N), some (vI w), some (vI fr), some (vI (5 + 4 * it)), some (vI st), some (vI su), some (vI le), none, none] [] (TT e q n L) hh 0 0) :
    ∀ (m d : Nat) (hh : Mem) (x st su le : Int) (y : Option AV), x = hi - d → x = lo + m → F81 h hh → st = (if w < 2 then dset (PW V it g N w) hi d else 0) → su = dsum (PW V it g N w) hi d → le = dlst (PW V it g N w) hi d → AW M_X9_fits 0 0 Q 119 [some (vR 373), some (vI it), some (vI row), some (vI i), some (vI N), some (vI w), some (vI fr), some (vI (5 + 4 * it)), some (vI st), some (vI su), some (vI le), some (vI x), y] [] (TT e q n L) hh 0 0 := by
  have v2 := hV.2.1
  intro m
  induction m with
  | zero =>
    intro d hh x st su le y hx hx2 hf es eu el
    have ed : (hi - lo).toNat = d := by omega
    rw [ed] at hk
    refine aw_iload dX9_fits_119 rfl ?_
    refine aw_iload dX9_fits_121 rfl ?_
    refine aw_iconst dX9_fits_123 (by decide) (by decide) ?_
    refine aw_icmp_ne 131 dX9_fits_124 rfl (fun c124 => ?_) (fun c124 => ?_)
    · refine aw_iconst dX9_fits_131 (by decide) (by decide) ?_
      refine aw_icmp_le 265 dX9_fits_132 rfl (fun c132 => ?_) (fun c132 => ?_)
      · exact aw_less (by repeat' (first | exact trivial | exact rfl | apply And.intro)) (hk hh st su le hf es eu el)
      · exfalso; omega
    · refine aw_iconst dX9_fits_127 (by decide) (by decide) ?_
      refine aw_goto 132 dX9_fits_128 rfl ?_
      refine aw_icmp_le 265 dX9_fits_132 rfl (fun c132 => ?_) (fun c132 => ?_)
      · exact aw_less (by repeat' (first | exact trivial | exact rfl | apply And.intro)) (hk hh st su le hf es eu el)
      · exfalso; omega
  | succ m ih =>
    intro d hh x st su le y hx hx2 hf es eu el
    have sb := dsum_bd (P := PW V it g N w) (hi := hi) d
    have z := ih (d + 1)
    have ex : hi - (d : Int) = x := by omega
    have no : PW V it g N w x = false → ∀ (hh2 : Mem) (y2 : Option AV), F81 h hh2 → AW M_X9_fits 0 0 Q 259 [some (vR 373), some (vI it), some (vI row), some (vI i), some (vI N), some (vI w), some (vI fr), some (vI (5 + 4 * it)), some (vI st), some (vI su), some (vI le), some (vI x), y2] [] (TT e q n L) hh2 0 0 := by
      intro hp hh2 y2 hf2
      have hp2 : ¬ PW V it g N w (hi - (d : Int)) = true := by rw [ex, hp]; decide
      have a1 : dset (PW V it g N w) hi (d + 1) = dset (PW V it g N w) hi d := if_neg hp2
      have a2 : dsum (PW V it g N w) hi (d + 1) = dsum (PW V it g N w) hi d := if_neg hp2
      have a3 : dlst (PW V it g N w) hi (d + 1) = dlst (PW V it g N w) hi d := if_neg hp2
      refine aw_iinc (ls' := [_, _, _, _, _, _, _, _, _, _, _, _, _]) dX9_fits_259 (by decide) rfl (by omega) (by omega) rfl ?_
      refine aw_goto 119 dX9_fits_262 rfl ?_
      exact z hh2 _ _ _ _ _ (by omega) (by omega) hf2 (by rw [a1]; exact es) (by rw [a2]; exact eu) (by rw [a3]; exact el)
    have ye : PW V it g N w x = true → ∀ (hh2 : Mem) (y2 : Option AV), F81 h hh2 → AW M_X9_fits 0 0 Q 233 [some (vR 373), some (vI it), some (vI row), some (vI i), some (vI N), some (vI w), some (vI fr), some (vI (5 + 4 * it)), some (vI st), some (vI su), some (vI le), some (vI x), y2] [] (TT e q n L) hh2 0 0 := by
      intro hp hh2 y2 hf2
      have hp2 : PW V it g N w (hi - (d : Int)) = true := by rw [ex, hp]
      have a1 : dset (PW V it g N w) hi (d + 1) = ior (dset (PW V it g N w) hi d) (shl1 (hi - (d : Int))) := if_pos hp2
      have a2 : dsum (PW V it g N w) hi (d + 1) = dsum (PW V it g N w) hi d + 1 := if_pos hp2
      have a3 : dlst (PW V it g N w) hi (d + 1) = hi - (d : Int) := if_pos hp2
      rw [ex] at a1 a3
      have s1 : w < 2 → (Int32.ofInt st ||| Int32.ofInt (Int32.ofInt 1 <<< (Int32.ofInt x &&& 31)).toInt).toInt = (if w < 2 then dset (PW V it g N w) hi (d + 1) else 0) := fun hw2 => by
        rw [if_pos hw2] at es ⊢
        rw [a1, es]; rfl
      have s0 : ¬ w < 2 → (Int32.ofInt st ||| Int32.ofInt 0).toInt = (if w < 2 then dset (PW V it g N w) hi (d + 1) else 0) := fun hw2 => by
        rw [if_neg hw2] at es ⊢
        rw [es]; rfl
      refine aw_iload dX9_fits_233 rfl ?_
      refine aw_iload dX9_fits_235 rfl ?_
      refine aw_iconst dX9_fits_237 (by decide) (by decide) ?_
      refine aw_icmp_ge 248 dX9_fits_238 rfl (fun c238 => ?_) (fun c238 => ?_)
      · refine aw_iconst dX9_fits_248 (by decide) (by decide) ?_
        refine aw_iorw dX9_fits_249 ?_
        refine aw_istore (ls' := [_, _, _, _, _, _, _, _, _, _, _, _, _]) dX9_fits_250 (by decide) rfl ?_
        refine aw_iinc (ls' := [_, _, _, _, _, _, _, _, _, _, _, _, _]) dX9_fits_252 (by decide) rfl (by omega) (by omega) rfl ?_
        refine aw_iload dX9_fits_255 rfl ?_
        refine aw_istore (ls' := [_, _, _, _, _, _, _, _, _, _, _, _, _]) dX9_fits_257 (by decide) rfl ?_
        refine aw_iinc (ls' := [_, _, _, _, _, _, _, _, _, _, _, _, _]) dX9_fits_259 (by decide) rfl (by omega) (by omega) rfl ?_
        refine aw_goto 119 dX9_fits_262 rfl ?_
        first | exact z hh2 _ _ _ _ _ (by omega) (by omega) hf2 (s1 (by omega)) (by rw [a2, eu]) (by rw [a3]) | exact z hh2 _ _ _ _ _ (by omega) (by omega) hf2 (s0 (by omega)) (by rw [a2, eu]) (by rw [a3])
      · refine aw_iconst dX9_fits_241 (by decide) (by decide) ?_
        refine aw_iload dX9_fits_242 rfl ?_
        refine aw_ishlw dX9_fits_244 ?_
        refine aw_goto 249 dX9_fits_245 rfl ?_
        refine aw_iorw dX9_fits_249 ?_
        refine aw_istore (ls' := [_, _, _, _, _, _, _, _, _, _, _, _, _]) dX9_fits_250 (by decide) rfl ?_
        refine aw_iinc (ls' := [_, _, _, _, _, _, _, _, _, _, _, _, _]) dX9_fits_252 (by decide) rfl (by omega) (by omega) rfl ?_
        refine aw_iload dX9_fits_255 rfl ?_
        refine aw_istore (ls' := [_, _, _, _, _, _, _, _, _, _, _, _, _]) dX9_fits_257 (by decide) rfl ?_
        refine aw_iinc (ls' := [_, _, _, _, _, _, _, _, _, _, _, _, _]) dX9_fits_259 (by decide) rfl (by omega) (by omega) rfl ?_
        refine aw_goto 119 dX9_fits_262 rfl ?_
        first | exact z hh2 _ _ _ _ _ (by omega) (by omega) hf2 (s1 (by omega)) (by rw [a2, eu]) (by rw [a3]) | exact z hh2 _ _ _ _ _ (by omega) (by omega) hf2 (s0 (by omega)) (by rw [a2, eu]) (by rw [a3])
    have ev2 : mV hh 379 0 = V := by rw [mV_fr (hf 379 (by decide) (by decide))]; exact ev
    have ec : hh 379 3 = V 0 0 := mA_c ev2
    have n1 := mA1 ev2 i0 i1
    have n2 := mA2 ev2 i0 i1
    have wi := hV.2.2.2.2.2.2.2.2 it i0 i1
    have hg2 : ∀ k : Nat, k < N → hh 376 (fr + k) = g k := fun k hk2 => by rw [hf 376 (by decide) (by decide)]; exact hg k hk2
    rcases hw with ⟨w0, h5, l0⟩ | ⟨w0, h5, l0⟩ | ⟨w0, h5, l0⟩
    · subst w0
      have eP : PW V it g N 0 x = (decide (mbn (V 0 0) x (V 2 it)) && cmS (setV V 1 it x) it g N) := rfl
      refine aw_iload dX9_fits_119 rfl ?_
      refine aw_iload dX9_fits_121 rfl ?_
      refine aw_iconst dX9_fits_123 (by decide) (by decide) ?_
      refine aw_icmp_ne 131 dX9_fits_124 rfl (fun c124 => ?_) (fun c124 => ?_)
      · refine aw_iconst dX9_fits_131 (by decide) (by decide) ?_
        refine aw_icmp_le 265 dX9_fits_132 rfl (fun c132 => ?_) (fun c132 => ?_)
        · exfalso; omega
        · refine aw_iload dX9_fits_135 rfl ?_
          refine aw_iconst dX9_fits_137 (by decide) (by decide) ?_
          refine aw_icmp_gt 183 dX9_fits_138 rfl (fun c138 => ?_) (fun c138 => ?_)
          · exfalso; omega
          · refine aw_iload dX9_fits_141 rfl ?_
            refine aw_if_ne 167 dX9_fits_143 rfl (fun c143 => ?_) (fun c143 => ?_)
            · exfalso; omega
            · refine aw_aload_n dX9_fits_146 rfl ?_
              refine aw_iload dX9_fits_147 rfl ?_
              refine aw_aload_n dX9_fits_149 rfl ?_
              refine aw_getR1 dX9_fits_150 fx_RX9_25 (by first | rfl | assumption) (by first | rfl | assumption) ?_
              refine aw_iload dX9_fits_153 rfl ?_
              refine aw_iconst dX9_fits_155 (by decide) (by decide) ?_
              refine aw_iadd dX9_fits_156 (by omega) (by omega) ?_
              refine aw_iaload dX9_fits_157 (by first | rfl | assumption) (by omega) (by omega) ?_
              rw [n2]
              refine aw_v2i dX9_fits_158 vl_RX9_205 (by first | rfl | assumption) (Nat.le_of_ble_eq_true rfl) (Nat.le_of_ble_eq_true rfl) (Nat.le_of_ble_eq_true rfl) (Nat.le_refl _) (Nat.le_refl _) (c_X9_isNumber (by omega) (by omega) (by omega) (by omega)) ?_
              refine aw_ifB_eq 187 dX9_fits_161 rfl (fun c161 => ?_) (fun c161 => ?_)
              · rw [ec] at c161
                refine aw_iconst dX9_fits_187 (by decide) (by decide) ?_
                refine aw_istore (ls' := [_, _, _, _, _, _, _, _, _, _, _, _, _]) dX9_fits_188 (by decide) rfl ?_
                refine aw_iload dX9_fits_190 rfl ?_
                refine aw_if_eq 259 dX9_fits_192 rfl (fun c192 => ?_) (fun c192 => ?_)
                · first | (exfalso; omega) | exact no (by rw [eP, decide_eq_false c161]; rfl) _ _ hf | exact no (by rw [eP, ifb0 c230, Bool.and_false]) _ _ f4
                · refine aw_aload_n dX9_fits_195 rfl ?_
                  refine aw_iload_n dX9_fits_196 rfl ?_
                  refine aw_iload dX9_fits_197 rfl ?_
                  refine aw_iload dX9_fits_199 rfl ?_
                  refine aw_iload dX9_fits_201 rfl ?_
                  refine aw_if_ne 211 dX9_fits_203 rfl (fun c203 => ?_) (fun c203 => ?_)
                  · exfalso; omega
                  · refine aw_iload dX9_fits_206 rfl ?_
                    refine aw_goto 225 dX9_fits_208 rfl ?_
                    refine aw_iload dX9_fits_225 rfl ?_
                    refine aw_v5q dX9_fits_227 vl_RX9_228 (by first | rfl | assumption) (Nat.le_of_ble_eq_true rfl) (Nat.le_of_ble_eq_true rfl) (Nat.le_of_ble_eq_true rfl) (Nat.le_refl _) (Nat.le_refl _) (c_X9_isSeen (W := setV V 1 it x) ev2 v2 (by omega) (by omega) (fun h1 g1 => mV_set (j0 := 1) g1 (by decide) i0 i1 (by omega)) (setV1_wf hV (by omega) (by omega) (fun z => by omega) (fun z => by omega)) (by rw [setV_ne (by omega)]; exact r0) (by rw [setV_ne (by omega)]; exact r1) i0 (by rw [setV_ne (by omega)]; exact i1) f0 f1 hN hg2) ?_
                    intro v t' h3 hq
                    obtain ⟨rfl, rfl, f3⟩ := hq
                    have f4 : F81 h h3 := fun c c1 c2 => by rw [f3 c c1 c2]; exact hf c c1 c2
                    refine aw_if_eq 259 dX9_fits_230 rfl (fun c230 => ?_) (fun c230 => ?_)
                    · first | (exfalso; omega) | exact no (by rw [eP, decide_eq_false c161]; rfl) _ _ hf | exact no (by rw [eP, ifb0 c230, Bool.and_false]) _ _ f4
                    · first | (exfalso; omega) | exact ye (by rw [eP, decide_eq_true c161, ifb1 c230]; rfl) _ _ f4
              · rw [ec] at c161
                have c161' := c161
                unfold mbn at c161'
                refine aw_goto 183 dX9_fits_164 rfl ?_
                refine aw_iconst dX9_fits_183 (by decide) (by decide) ?_
                refine aw_goto 188 dX9_fits_184 rfl ?_
                refine aw_istore (ls' := [_, _, _, _, _, _, _, _, _, _, _, _, _]) dX9_fits_188 (by decide) rfl ?_
                refine aw_iload dX9_fits_190 rfl ?_
                refine aw_if_eq 259 dX9_fits_192 rfl (fun c192 => ?_) (fun c192 => ?_)
                · first | (exfalso; omega) | exact no (by rw [eP, decide_eq_false c161]; rfl) _ _ hf | exact no (by rw [eP, ifb0 c230, Bool.and_false]) _ _ f4
                · refine aw_aload_n dX9_fits_195 rfl ?_
                  refine aw_iload_n dX9_fits_196 rfl ?_
                  refine aw_iload dX9_fits_197 rfl ?_
                  refine aw_iload dX9_fits_199 rfl ?_
                  refine aw_iload dX9_fits_201 rfl ?_
                  refine aw_if_ne 211 dX9_fits_203 rfl (fun c203 => ?_) (fun c203 => ?_)
                  · exfalso; omega
                  · refine aw_iload dX9_fits_206 rfl ?_
                    refine aw_goto 225 dX9_fits_208 rfl ?_
                    refine aw_iload dX9_fits_225 rfl ?_
                    refine aw_v5q dX9_fits_227 vl_RX9_228 (by first | rfl | assumption) (Nat.le_of_ble_eq_true rfl) (Nat.le_of_ble_eq_true rfl) (Nat.le_of_ble_eq_true rfl) (Nat.le_refl _) (Nat.le_refl _) (c_X9_isSeen (W := setV V 1 it x) ev2 v2 (by omega) (by omega) (fun h1 g1 => mV_set (j0 := 1) g1 (by decide) i0 i1 (by omega)) (setV1_wf hV (by omega) (by omega) (fun z => by omega) (fun z => by omega)) (by rw [setV_ne (by omega)]; exact r0) (by rw [setV_ne (by omega)]; exact r1) i0 (by rw [setV_ne (by omega)]; exact i1) f0 f1 hN hg2) ?_
                    intro v t' h3 hq
                    obtain ⟨rfl, rfl, f3⟩ := hq
                    have f4 : F81 h h3 := fun c c1 c2 => by rw [f3 c c1 c2]; exact hf c c1 c2
                    refine aw_if_eq 259 dX9_fits_230 rfl (fun c230 => ?_) (fun c230 => ?_)
                    · first | (exfalso; omega) | exact no (by rw [eP, decide_eq_false c161]; rfl) _ _ hf | exact no (by rw [eP, ifb0 c230, Bool.and_false]) _ _ f4
                    · first | (exfalso; omega) | exact ye (by rw [eP, decide_eq_true c161, ifb1 c230]; rfl) _ _ f4
      · exfalso; omega
    · subst w0
      have eP : PW V it g N 1 x = (decide (mbn (V 0 0) (V 1 it) x) && cmS (setV V 2 it x) it g N) := rfl
      refine aw_iload dX9_fits_119 rfl ?_
      refine aw_iload dX9_fits_121 rfl ?_
      refine aw_iconst dX9_fits_123 (by decide) (by decide) ?_
      refine aw_icmp_ne 131 dX9_fits_124 rfl (fun c124 => ?_) (fun c124 => ?_)
      · exfalso; omega
      · refine aw_iconst dX9_fits_127 (by decide) (by decide) ?_
        refine aw_goto 132 dX9_fits_128 rfl ?_
        refine aw_icmp_le 265 dX9_fits_132 rfl (fun c132 => ?_) (fun c132 => ?_)
        · exfalso; omega
        · refine aw_iload dX9_fits_135 rfl ?_
          refine aw_iconst dX9_fits_137 (by decide) (by decide) ?_
          refine aw_icmp_gt 183 dX9_fits_138 rfl (fun c138 => ?_) (fun c138 => ?_)
          · exfalso; omega
          · refine aw_iload dX9_fits_141 rfl ?_
            refine aw_if_ne 167 dX9_fits_143 rfl (fun c143 => ?_) (fun c143 => ?_)
            · refine aw_aload_n dX9_fits_167 rfl ?_
              refine aw_aload_n dX9_fits_168 rfl ?_
              refine aw_getR1 dX9_fits_169 fx_RX9_25 (by first | rfl | assumption) (by first | rfl | assumption) ?_
              refine aw_iload dX9_fits_172 rfl ?_
              refine aw_iaload dX9_fits_174 (by first | rfl | assumption) (by omega) (by omega) ?_
              rw [n1]
              refine aw_iload dX9_fits_175 rfl ?_
              refine aw_v2i dX9_fits_177 vl_RX9_205 (by first | rfl | assumption) (Nat.le_of_ble_eq_true rfl) (Nat.le_of_ble_eq_true rfl) (Nat.le_of_ble_eq_true rfl) (Nat.le_refl _) (Nat.le_refl _) (c_X9_isNumber (by omega) (by omega) wi.1 wi.2.1) ?_
              refine aw_ifB_eq 187 dX9_fits_180 rfl (fun c180 => ?_) (fun c180 => ?_)
              · rw [ec] at c180
                refine aw_iconst dX9_fits_187 (by decide) (by decide) ?_
                refine aw_istore (ls' := [_, _, _, _, _, _, _, _, _, _, _, _, _]) dX9_fits_188 (by decide) rfl ?_
                refine aw_iload dX9_fits_190 rfl ?_
                refine aw_if_eq 259 dX9_fits_192 rfl (fun c192 => ?_) (fun c192 => ?_)
                · first | (exfalso; omega) | exact no (by rw [eP, decide_eq_false c180]; rfl) _ _ hf | exact no (by rw [eP, ifb0 c230, Bool.and_false]) _ _ f4
                · refine aw_aload_n dX9_fits_195 rfl ?_
                  refine aw_iload_n dX9_fits_196 rfl ?_
                  refine aw_iload dX9_fits_197 rfl ?_
                  refine aw_iload dX9_fits_199 rfl ?_
                  refine aw_iload dX9_fits_201 rfl ?_
                  refine aw_if_ne 211 dX9_fits_203 rfl (fun c203 => ?_) (fun c203 => ?_)
                  · refine aw_iload dX9_fits_211 rfl ?_
                    refine aw_iconst dX9_fits_213 (by decide) (by decide) ?_
                    refine aw_icmp_ne 224 dX9_fits_214 rfl (fun c214 => ?_) (fun c214 => ?_)
                    · exfalso; omega
                    · refine aw_iload dX9_fits_217 rfl ?_
                      refine aw_iconst dX9_fits_219 (by decide) (by decide) ?_
                      refine aw_iadd dX9_fits_220 (by omega) (by omega) ?_
                      refine aw_goto 225 dX9_fits_221 rfl ?_
                      refine aw_iload dX9_fits_225 rfl ?_
                      refine aw_v5q dX9_fits_227 vl_RX9_228 (by first | rfl | assumption) (Nat.le_of_ble_eq_true rfl) (Nat.le_of_ble_eq_true rfl) (Nat.le_of_ble_eq_true rfl) (Nat.le_refl _) (Nat.le_refl _) (c_X9_isSeen (W := setV V 2 it x) ev2 v2 (by omega) (by omega) (fun h1 g1 => mV_set (j0 := 2) g1 (by decide) i0 i1 (by omega)) (setV2_wf hV (fun z => by omega) (fun z => by omega)) (by rw [setV_ne (by omega)]; exact r0) (by rw [setV_ne (by omega)]; exact r1) i0 (by rw [setV_ne (by omega)]; exact i1) f0 f1 hN hg2) ?_
                      intro v t' h3 hq
                      obtain ⟨rfl, rfl, f3⟩ := hq
                      have f4 : F81 h h3 := fun c c1 c2 => by rw [f3 c c1 c2]; exact hf c c1 c2
                      refine aw_if_eq 259 dX9_fits_230 rfl (fun c230 => ?_) (fun c230 => ?_)
                      · first | (exfalso; omega) | exact no (by rw [eP, decide_eq_false c180]; rfl) _ _ hf | exact no (by rw [eP, ifb0 c230, Bool.and_false]) _ _ f4
                      · first | (exfalso; omega) | exact ye (by rw [eP, decide_eq_true c180, ifb1 c230]; rfl) _ _ f4
                  · exfalso; omega
              · rw [ec] at c180
                have c180' := c180
                unfold mbn at c180'
                refine aw_iconst dX9_fits_183 (by decide) (by decide) ?_
                refine aw_goto 188 dX9_fits_184 rfl ?_
                refine aw_istore (ls' := [_, _, _, _, _, _, _, _, _, _, _, _, _]) dX9_fits_188 (by decide) rfl ?_
                refine aw_iload dX9_fits_190 rfl ?_
                refine aw_if_eq 259 dX9_fits_192 rfl (fun c192 => ?_) (fun c192 => ?_)
                · first | (exfalso; omega) | exact no (by rw [eP, decide_eq_false c180]; rfl) _ _ hf | exact no (by rw [eP, ifb0 c230, Bool.and_false]) _ _ f4
                · refine aw_aload_n dX9_fits_195 rfl ?_
                  refine aw_iload_n dX9_fits_196 rfl ?_
                  refine aw_iload dX9_fits_197 rfl ?_
                  refine aw_iload dX9_fits_199 rfl ?_
                  refine aw_iload dX9_fits_201 rfl ?_
                  refine aw_if_ne 211 dX9_fits_203 rfl (fun c203 => ?_) (fun c203 => ?_)
                  · refine aw_iload dX9_fits_211 rfl ?_
                    refine aw_iconst dX9_fits_213 (by decide) (by decide) ?_
                    refine aw_icmp_ne 224 dX9_fits_214 rfl (fun c214 => ?_) (fun c214 => ?_)
                    · exfalso; omega
                    · refine aw_iload dX9_fits_217 rfl ?_
                      refine aw_iconst dX9_fits_219 (by decide) (by decide) ?_
                      refine aw_iadd dX9_fits_220 (by omega) (by omega) ?_
                      refine aw_goto 225 dX9_fits_221 rfl ?_
                      refine aw_iload dX9_fits_225 rfl ?_
                      refine aw_v5q dX9_fits_227 vl_RX9_228 (by first | rfl | assumption) (Nat.le_of_ble_eq_true rfl) (Nat.le_of_ble_eq_true rfl) (Nat.le_of_ble_eq_true rfl) (Nat.le_refl _) (Nat.le_refl _) (c_X9_isSeen (W := setV V 2 it x) ev2 v2 (by omega) (by omega) (fun h1 g1 => mV_set (j0 := 2) g1 (by decide) i0 i1 (by omega)) (setV2_wf hV (fun z => by omega) (fun z => by omega)) (by rw [setV_ne (by omega)]; exact r0) (by rw [setV_ne (by omega)]; exact r1) i0 (by rw [setV_ne (by omega)]; exact i1) f0 f1 hN hg2) ?_
                      intro v t' h3 hq
                      obtain ⟨rfl, rfl, f3⟩ := hq
                      have f4 : F81 h h3 := fun c c1 c2 => by rw [f3 c c1 c2]; exact hf c c1 c2
                      refine aw_if_eq 259 dX9_fits_230 rfl (fun c230 => ?_) (fun c230 => ?_)
                      · first | (exfalso; omega) | exact no (by rw [eP, decide_eq_false c180]; rfl) _ _ hf | exact no (by rw [eP, ifb0 c230, Bool.and_false]) _ _ f4
                      · first | (exfalso; omega) | exact ye (by rw [eP, decide_eq_true c180, ifb1 c230]; rfl) _ _ f4
                  · exfalso; omega
            · exfalso; omega
    · have eP : PW V it g N w x = cmS (setV V 0 3 x) it g N := by
        unfold PW mayB whV
        rw [if_neg (by omega), if_neg (by omega), if_neg (by omega), if_neg (by omega), Bool.true_and]
      refine aw_iload dX9_fits_119 rfl ?_
      refine aw_iload dX9_fits_121 rfl ?_
      refine aw_iconst dX9_fits_123 (by decide) (by decide) ?_
      refine aw_icmp_ne 131 dX9_fits_124 rfl (fun c124 => ?_) (fun c124 => ?_)
      · refine aw_iconst dX9_fits_131 (by decide) (by decide) ?_
        refine aw_icmp_le 265 dX9_fits_132 rfl (fun c132 => ?_) (fun c132 => ?_)
        · exfalso; omega
        · refine aw_iload dX9_fits_135 rfl ?_
          refine aw_iconst dX9_fits_137 (by decide) (by decide) ?_
          refine aw_icmp_gt 183 dX9_fits_138 rfl (fun c138 => ?_) (fun c138 => ?_)
          · refine aw_iconst dX9_fits_183 (by decide) (by decide) ?_
            refine aw_goto 188 dX9_fits_184 rfl ?_
            refine aw_istore (ls' := [_, _, _, _, _, _, _, _, _, _, _, _, _]) dX9_fits_188 (by decide) rfl ?_
            refine aw_iload dX9_fits_190 rfl ?_
            refine aw_if_eq 259 dX9_fits_192 rfl (fun c192 => ?_) (fun c192 => ?_)
            · exfalso; omega
            · refine aw_aload_n dX9_fits_195 rfl ?_
              refine aw_iload_n dX9_fits_196 rfl ?_
              refine aw_iload dX9_fits_197 rfl ?_
              refine aw_iload dX9_fits_199 rfl ?_
              refine aw_iload dX9_fits_201 rfl ?_
              refine aw_if_ne 211 dX9_fits_203 rfl (fun c203 => ?_) (fun c203 => ?_)
              · refine aw_iload dX9_fits_211 rfl ?_
                refine aw_iconst dX9_fits_213 (by decide) (by decide) ?_
                refine aw_icmp_ne 224 dX9_fits_214 rfl (fun c214 => ?_) (fun c214 => ?_)
                · refine aw_iconst dX9_fits_224 (by decide) (by decide) ?_
                  refine aw_iload dX9_fits_225 rfl ?_
                  refine aw_v5q dX9_fits_227 vl_RX9_228 (by first | rfl | assumption) (Nat.le_of_ble_eq_true rfl) (Nat.le_of_ble_eq_true rfl) (Nat.le_of_ble_eq_true rfl) (Nat.le_refl _) (Nat.le_refl _) (c_X9_isSeen (W := setV V 0 3 x) ev2 v2 (by omega) (by omega) (fun h1 g1 => mV_setS (w := 2) g1 (by decide) (by decide)) (setV0_wf hV (by omega) (by omega)) (by rw [setV_ne (by omega)]; exact r0) (by rw [setV_ne (by omega)]; exact r1) i0 (by rw [setV_ne (by omega)]; exact i1) f0 f1 hN hg2) ?_
                  intro v t' h3 hq
                  obtain ⟨rfl, rfl, f3⟩ := hq
                  have f4 : F81 h h3 := fun c c1 c2 => by rw [f3 c c1 c2]; exact hf c c1 c2
                  refine aw_if_eq 259 dX9_fits_230 rfl (fun c230 => ?_) (fun c230 => ?_)
                  · exact no (by rw [eP, ifb0 c230]) _ _ f4
                  · exact ye (by rw [eP, ifb1 c230]) _ _ f4
                · exfalso; omega
              · exfalso; omega
          · exfalso; omega
      · exfalso; omega
set_option maxHeartbeats 4000000 in
theorem c_X9_fits {it r i k w : Int} (hM : MS h σ) (hW : WFst σ) : Sem M_X9_fits [vR 373, vI it, vI r, vI i, vI k, vI w] (TT e q n L) h 0 0 (PM (sp_fits σ it r i k w) h (TT e q n L)) := by
  unfold sp_fits
  have ev : mV h 379 0 = s_liv σ := hM.2.2.2.2.1
  have ec : h 379 3 = s_liv σ 0 0 := mA_c ev
  have ws := wf_sh hW.2.2.2.1
  have wr' := hW.1 r
  have m := hM.1 r
  have tl : ∀ (hi lo : Int) (y : Option AV), ((w = 0 ∧ hi = 5 ∧ lo = 0) ∨ (w = 1 ∧ hi = 20 ∧ lo = -1) ∨ ((w = 2 ∨ w = 3) ∧ hi = 87 ∧ lo = 0)) → 0 ≤ it → it < s_liv σ 0 0 → 0 ≤ r → r < 8 → 0 ≤ i → 1 ≤ k → k ≤ 12 → i + k ≤ 40 → AW M_X9_fits 0 0 (PM (fitv (s_liv σ) it (fun j => s_val σ r (i + j)) k.toNat w, wFnd σ 0) h (TT e q n L)) 119 [some (vR 373), some (vI it), some (vI r), some (vI i), some (vI k), some (vI w), some (vI (40 * r + i)), some (vI (5 + 4 * it)), some (vI 0), some (vI 0), some (vI (-1000000)), some (vI hi), y] [] (TT e q n L) h 0 0 := by
    intro hi lo y hw i0 i1 r0 r1 ii k0 k1 ik
    have hL := wf_liv hW.2.2.2.1 (by omega)
    obtain ⟨N, rfl⟩ : ∃ N : Nat, k = (N : Int) := ⟨k.toNat, by omega⟩
    rw [Int.toNat_natCast]
    have fe := fit_eq (V := s_liv σ) (it := it) (w := w) (g := fun j => s_val σ r (i + j)) (N := N) (by omega) (by omega)
    refine l_fitM (h := h) (V := s_liv σ) (g := fun j => s_val σ r (i + j)) ev hL.1 hL.2.1 hL.2.2.1 i0 i1 (by omega) (by omega) (by omega) (fun x hx => ?_) hw (fun hh st su le hf es eu el => ?_) (hi - lo).toNat 0 h hi 0 0 (-1000000) y (by omega) (by omega) (fun _ _ _ => rfl) (by split <;> rfl) rfl rfl
    · rw [show 40 * r + i + (x : Int) = 40 * r + (i + x) by omega]
      exact (hM.1 r r0 r1).2.2 (i + x) (by omega) (by omega)
    · have fin : ∀ a : Int, a = fitA (PW (s_liv σ) it (fun j => s_val σ r (i + j)) N w) w → PM (fitv (s_liv σ) it (fun j => s_val σ r (i + j)) N w, wFnd σ 0) h (TT e q n L) (some (vI a)) (TT e q n L) (am_up hh 373 4 0) := fun a ha => ⟨am_ri (by rw [ha, fe]), rfl, (hf.sm.ms hM).fnd, fun c hc => by rw [am_up_ne (by omega)]; exact hf c (by omega) (by omega)⟩
      refine aw_aload_n dX9_fits_265 rfl ?_
      refine aw_iload dX9_fits_266 rfl ?_
      refine aw_iconst dX9_fits_268 (by decide) (by decide) ?_
      refine aw_icmp_ge 277 dX9_fits_269 rfl (fun c269 => ?_) (fun c269 => ?_)
      · refine aw_iload dX9_fits_277 rfl ?_
        refine aw_iconst dX9_fits_279 (by decide) (by decide) ?_
        refine aw_icmp_ne 288 dX9_fits_280 rfl (fun c280 => ?_) (fun c280 => ?_)
        · refine aw_iload dX9_fits_288 rfl ?_
          refine aw_v1i dX9_fits_290 vl_RX9_75 (by first | rfl | assumption) (Nat.le_of_ble_eq_true rfl) (Nat.le_of_ble_eq_true rfl) (Nat.le_of_ble_eq_true rfl) (Nat.le_refl _) (Nat.le_refl _) (c_X9_well) ?_
          refine aw_ireturn dX9_fits_293 rfl (Nat.le_refl _) (Nat.le_refl _) ?_
          refine fin _ ?_
          unfold fitA
          rcases hw with ⟨w0, h5, l0⟩ | ⟨w0, h5, l0⟩ | ⟨w0, h5, l0⟩
          · first | (exfalso; omega) | (rw [if_pos w0, es, if_pos (by omega), h5, l0]; rfl)
          · first | (exfalso; omega) | (rw [if_neg (by omega), if_pos w0, es, if_pos (by omega), h5, l0]; rfl)
          · first | (exfalso; omega) | (rw [if_neg (by omega), if_neg (by omega), if_pos (by omega), eu, h5, l0]; rfl) | (rw [if_neg (by omega), if_neg (by omega), if_neg (by omega), el, h5, l0]; rfl)
        · refine aw_iload dX9_fits_283 rfl ?_
          refine aw_goto 290 dX9_fits_285 rfl ?_
          refine aw_v1i dX9_fits_290 vl_RX9_75 (by first | rfl | assumption) (Nat.le_of_ble_eq_true rfl) (Nat.le_of_ble_eq_true rfl) (Nat.le_of_ble_eq_true rfl) (Nat.le_refl _) (Nat.le_refl _) (c_X9_well) ?_
          refine aw_ireturn dX9_fits_293 rfl (Nat.le_refl _) (Nat.le_refl _) ?_
          refine fin _ ?_
          unfold fitA
          rcases hw with ⟨w0, h5, l0⟩ | ⟨w0, h5, l0⟩ | ⟨w0, h5, l0⟩
          · first | (exfalso; omega) | (rw [if_pos w0, es, if_pos (by omega), h5, l0]; rfl)
          · first | (exfalso; omega) | (rw [if_neg (by omega), if_pos w0, es, if_pos (by omega), h5, l0]; rfl)
          · first | (exfalso; omega) | (rw [if_neg (by omega), if_neg (by omega), if_pos (by omega), eu, h5, l0]; rfl) | (rw [if_neg (by omega), if_neg (by omega), if_neg (by omega), el, h5, l0]; rfl)
      · refine aw_iload dX9_fits_272 rfl ?_
        refine aw_goto 290 dX9_fits_274 rfl ?_
        refine aw_v1i dX9_fits_290 vl_RX9_75 (by first | rfl | assumption) (Nat.le_of_ble_eq_true rfl) (Nat.le_of_ble_eq_true rfl) (Nat.le_of_ble_eq_true rfl) (Nat.le_refl _) (Nat.le_refl _) (c_X9_well) ?_
        refine aw_ireturn dX9_fits_293 rfl (Nat.le_refl _) (Nat.le_refl _) ?_
        refine fin _ ?_
        unfold fitA
        rcases hw with ⟨w0, h5, l0⟩ | ⟨w0, h5, l0⟩ | ⟨w0, h5, l0⟩
        · first | (exfalso; omega) | (rw [if_pos w0, es, if_pos (by omega), h5, l0]; rfl)
        · first | (exfalso; omega) | (rw [if_neg (by omega), if_pos w0, es, if_pos (by omega), h5, l0]; rfl)
        · first | (exfalso; omega) | (rw [if_neg (by omega), if_neg (by omega), if_pos (by omega), eu, h5, l0]; rfl) | (rw [if_neg (by omega), if_neg (by omega), if_neg (by omega), el, h5, l0]; rfl)
  refine sem_intro (by decide) rfl (Nat.le_of_ble_eq_true rfl) rfl ?_
  refine aw_aload_n dX9_fits_0 rfl ?_
  refine aw_iload_n dX9_fits_1 rfl ?_
  refine aw_v1i dX9_fits_2 vl_RX9_202 (by first | rfl | assumption) (Nat.le_of_ble_eq_true rfl) (Nat.le_of_ble_eq_true rfl) (Nat.le_of_ble_eq_true rfl) (Nat.le_refl _) (Nat.le_refl _) (c_X9_isItem (by omega) (by omega)) ?_
  refine aw_ifB_eq 36 dX9_fits_5 rfl (fun c5 => ?_) (fun c5 => ?_)
  · refine aw_ldc (n := -1000001) dX9_fits_36 kc_RX9_70 (by decide) ?_
    refine aw_ireturn dX9_fits_38 rfl (Nat.le_refl _) (Nat.le_refl _) ?_
    rw [if_pos (by omega)]
    exact ⟨rfl, rfl, hM, fun _ _ => rfl⟩
  · refine aw_iload_n dX9_fits_8 rfl ?_
    refine aw_s1i dX9_fits_9 sl_RX9_66 (Nat.le_of_ble_eq_true rfl) (Nat.le_of_ble_eq_true rfl) (Nat.le_of_ble_eq_true rfl) (Nat.le_refl _) (Nat.le_refl _) (c_X9_isRow) ?_
    refine aw_ifB_eq 36 dX9_fits_12 rfl (fun c12 => ?_) (fun c12 => ?_)
    · refine aw_ldc (n := -1000001) dX9_fits_36 kc_RX9_70 (by decide) ?_
      refine aw_ireturn dX9_fits_38 rfl (Nat.le_refl _) (Nat.le_refl _) ?_
      rw [if_pos (by omega)]
      exact ⟨rfl, rfl, hM, fun _ _ => rfl⟩
    · refine aw_iload dX9_fits_15 rfl ?_
      refine aw_iconst dX9_fits_17 (by decide) (by decide) ?_
      refine aw_bipush dX9_fits_18 (by decide) (by decide) ?_
      refine aw_s3i dX9_fits_20 sl_RX9_62 (Nat.le_of_ble_eq_true rfl) (Nat.le_of_ble_eq_true rfl) (Nat.le_of_ble_eq_true rfl) (Nat.le_refl _) (Nat.le_refl _) (c_X9_in) ?_
      refine aw_ifB_eq 36 dX9_fits_23 rfl (fun c23 => ?_) (fun c23 => ?_)
      · refine aw_ldc (n := -1000001) dX9_fits_36 kc_RX9_70 (by decide) ?_
        refine aw_ireturn dX9_fits_38 rfl (Nat.le_refl _) (Nat.le_refl _) ?_
        rw [if_pos (by omega)]
        exact ⟨rfl, rfl, hM, fun _ _ => rfl⟩
      · refine aw_iload dX9_fits_26 rfl ?_
        refine aw_iconst dX9_fits_28 (by decide) (by decide) ?_
        refine aw_iconst dX9_fits_29 (by decide) (by decide) ?_
        refine aw_s3i dX9_fits_30 sl_RX9_62 (Nat.le_of_ble_eq_true rfl) (Nat.le_of_ble_eq_true rfl) (Nat.le_of_ble_eq_true rfl) (Nat.le_refl _) (Nat.le_refl _) (c_X9_in) ?_
        refine aw_ifB_ne 39 dX9_fits_33 rfl (fun c33 => ?_) (fun c33 => ?_)
        · have w2 := wr' (by omega) (by omega)
          obtain ⟨m1, m2, m3⟩ := m (by omega) (by omega)
          rw [if_neg (by omega)]
          refine aw_aload_n dX9_fits_39 rfl ?_
          refine aw_iload_n dX9_fits_40 rfl ?_
          refine aw_v1i dX9_fits_41 vl_RX9_78 (by first | rfl | assumption) (Nat.le_of_ble_eq_true rfl) (Nat.le_of_ble_eq_true rfl) (Nat.le_of_ble_eq_true rfl) (Nat.le_refl _) (Nat.le_refl _) (c_X9_isMissing (by omega) (by omega)) ?_
          refine aw_ifB_eq 53 dX9_fits_44 rfl (fun c44 => ?_) (fun c44 => ?_)
          · have e1 : s_lan σ r ≠ -1 := fun y => by
              rw [if_pos y] at m1; omega
            rw [if_neg e1]
            refine aw_aload_n dX9_fits_53 rfl ?_
            refine aw_iload_n dX9_fits_54 rfl ?_
            refine aw_iload_n dX9_fits_55 rfl ?_
            refine aw_iload dX9_fits_56 rfl ?_
            refine aw_v3i dX9_fits_58 vl_RX9_85 (by first | rfl | assumption) (Nat.le_of_ble_eq_true rfl) (Nat.le_of_ble_eq_true rfl) (Nat.le_of_ble_eq_true rfl) (Nat.le_refl _) (Nat.le_refl _) (c_X9_isPart (by omega) (by omega) (by omega) (by omega)) ?_
            refine aw_ifB_ne 70 dX9_fits_61 rfl (fun c61 => ?_) (fun c61 => ?_)
            · rw [if_neg (by omega)]
              refine aw_bipush dX9_fits_70 (by decide) (by decide) ?_
              refine aw_iload_n dX9_fits_72 rfl ?_
              refine aw_imul dX9_fits_73 (by omega) (by omega) ?_
              refine aw_iload_n dX9_fits_74 rfl ?_
              refine aw_iadd dX9_fits_75 (by omega) (by omega) ?_
              refine aw_istore (ls' := [_, _, _, _, _, _, _, _, _, _, _, _, _]) dX9_fits_76 (by decide) rfl ?_
              refine aw_iconst dX9_fits_78 (by decide) (by decide) ?_
              refine aw_iconst dX9_fits_79 (by decide) (by decide) ?_
              refine aw_iload_n dX9_fits_80 rfl ?_
              refine aw_imul dX9_fits_81 (by omega) (by omega) ?_
              refine aw_iadd dX9_fits_82 (by omega) (by omega) ?_
              refine aw_istore (ls' := [_, _, _, _, _, _, _, _, _, _, _, _, _]) dX9_fits_83 (by decide) rfl ?_
              refine aw_iconst dX9_fits_85 (by decide) (by decide) ?_
              refine aw_istore (ls' := [_, _, _, _, _, _, _, _, _, _, _, _, _]) dX9_fits_86 (by decide) rfl ?_
              refine aw_iconst dX9_fits_88 (by decide) (by decide) ?_
              refine aw_istore (ls' := [_, _, _, _, _, _, _, _, _, _, _, _, _]) dX9_fits_89 (by decide) rfl ?_
              refine aw_ldc (n := -1000000) dX9_fits_91 kc_RX9_56 (by decide) ?_
              refine aw_istore (ls' := [_, _, _, _, _, _, _, _, _, _, _, _, _]) dX9_fits_93 (by decide) rfl ?_
              refine aw_iload dX9_fits_95 rfl ?_
              refine aw_if_ne 104 dX9_fits_97 rfl (fun c97 => ?_) (fun c97 => ?_)
              · refine aw_iload dX9_fits_104 rfl ?_
                refine aw_iconst dX9_fits_106 (by decide) (by decide) ?_
                refine aw_icmp_ne 115 dX9_fits_107 rfl (fun c107 => ?_) (fun c107 => ?_)
                · refine aw_bipush dX9_fits_115 (by decide) (by decide) ?_
                  refine aw_istore (ls' := [_, _, _, _, _, _, _, _, _, _, _, _, _]) dX9_fits_117 (by decide) rfl ?_
                  first | exact tl _ 0 _ (by omega) (by omega) (by omega) (by omega) (by omega) (by omega) (by omega) (by omega) (by omega) | exact tl _ (-1) _ (by omega) (by omega) (by omega) (by omega) (by omega) (by omega) (by omega) (by omega) (by omega)
                · refine aw_bipush dX9_fits_110 (by decide) (by decide) ?_
                  refine aw_goto 117 dX9_fits_112 rfl ?_
                  refine aw_istore (ls' := [_, _, _, _, _, _, _, _, _, _, _, _, _]) dX9_fits_117 (by decide) rfl ?_
                  first | exact tl _ 0 _ (by omega) (by omega) (by omega) (by omega) (by omega) (by omega) (by omega) (by omega) (by omega) | exact tl _ (-1) _ (by omega) (by omega) (by omega) (by omega) (by omega) (by omega) (by omega) (by omega) (by omega)
              · refine aw_iconst dX9_fits_100 (by decide) (by decide) ?_
                refine aw_goto 117 dX9_fits_101 rfl ?_
                refine aw_istore (ls' := [_, _, _, _, _, _, _, _, _, _, _, _, _]) dX9_fits_117 (by decide) rfl ?_
                first | exact tl _ 0 _ (by omega) (by omega) (by omega) (by omega) (by omega) (by omega) (by omega) (by omega) (by omega) | exact tl _ (-1) _ (by omega) (by omega) (by omega) (by omega) (by omega) (by omega) (by omega) (by omega) (by omega)
            · refine aw_aload_n dX9_fits_64 rfl ?_
              refine aw_iconst dX9_fits_65 (by decide) (by decide) ?_
              refine aw_v1i dX9_fits_66 vl_RX9_71 (by first | rfl | assumption) (Nat.le_of_ble_eq_true rfl) (Nat.le_of_ble_eq_true rfl) (Nat.le_of_ble_eq_true rfl) (Nat.le_refl _) (Nat.le_refl _) (c_X9_found (by decide) (by decide)) ?_
              refine aw_ireturn dX9_fits_69 rfl (Nat.le_refl _) (Nat.le_refl _) ?_
              rw [if_pos (by omega)]
              exact ⟨rfl, rfl, hM.fnd, fun c hc => am_up_ne (by omega)⟩
          · refine aw_aload_n dX9_fits_47 rfl ?_
            refine aw_iconst dX9_fits_48 (by decide) (by decide) ?_
            refine aw_v1i dX9_fits_49 vl_RX9_71 (by first | rfl | assumption) (Nat.le_of_ble_eq_true rfl) (Nat.le_of_ble_eq_true rfl) (Nat.le_of_ble_eq_true rfl) (Nat.le_refl _) (Nat.le_refl _) (c_X9_found (by decide) (by decide)) ?_
            refine aw_ireturn dX9_fits_52 rfl (Nat.le_refl _) (Nat.le_refl _) ?_
            have e1 : s_lan σ r = -1 := by
              by_cases y : s_lan σ r = -1
              · exact y
              · rw [if_neg y] at m1; omega
            rw [if_pos e1]
            exact ⟨rfl, rfl, hM.fnd, fun c hc => am_up_ne (by omega)⟩
        · refine aw_ldc (n := -1000001) dX9_fits_36 kc_RX9_70 (by decide) ?_
          refine aw_ireturn dX9_fits_38 rfl (Nat.le_refl _) (Nat.le_refl _) ?_
          rw [if_pos (by omega)]
          exact ⟨rfl, rfl, hM, fun _ _ => rfl⟩
end MOQ
