/-! the reference: fits -/
section MOP
variable {e q n L : Nat} {h : Mem} {σ : ST} {V W : VW}
theorem l_seen {Q : Option AV → Tp → Mem → Prop} {it fr p x : Int} {N : Nat} {g : Int → Int} (hV : WFv W) (r0 : 0 ≤ W 0 4) (r1 : W 0 4 ≤ 9999) (i0 : 0 ≤ it) (i1 : it < W 0 0) (f0 : 0 ≤ fr) (f1 : fr + N ≤ 320) (hN : N ≤ 12) (hg : ∀ k : Nat, k < N → h 376 (fr + k) = g k) (hk : ∀ hh, F81 h hh → Q (some (vI (if cmS W it g N = true then 1 else 0))) (TT e q n L) hh) :
    ∀ (m k : Nat) (hh : Mem) (b : Int), k + m = N → F81 h hh → mV hh 381 0 = addR (rndN W k) k → b = (if cmS W it g k = true then 1 else 0) → AW M_X9_isSeen 0 0 Q 28 [some (vR 373), some (vI it), some (vI fr), some (vI N), some (vI p), some (vI x), some (vI b), some (vI k)] [] (TT e q n L) hh 0 0 := by
  have v2 := hV.2.1
  intro m
  induction m with
  | zero =>
    intro k hh b hi hf ev hb
    have ek : k = N := by omega
    subst ek
    subst hb
    refine aw_iload dX9_isSeen_28 rfl ?_
    refine aw_iload_n dX9_isSeen_30 rfl ?_
    refine aw_icmp_ge 85 dX9_isSeen_31 rfl (fun c31 => ?_) (fun c31 => ?_)
    · refine aw_iload dX9_isSeen_85 rfl ?_
      refine aw_zreturn dX9_isSeen_87 rfl (Nat.le_refl _) (Nat.le_refl _) (by split <;> omega) (by split <;> omega) ?_
      exact hk hh hf
    · exfalso; omega
  | succ m ih =>
    intro k hh b hi hf ev hb
    have z := ih (k + 1)
    have er : addR (rndN W k) k 0 4 = W 0 4 + k := by rw [addR_4, rndN_0]
    have wx := addR_wf (r := (k : Int)) (rndN_wf hV k)
    have es1 : cmS W it g (k + 1) = true ↔ (cmS W it g k = true ∧ rndN W (k + 1) 3 it = g k) := by
      show (cmS W it g k && decide _) = true ↔ _
      rw [Bool.and_eq_true, decide_eq_true_eq]
    have hb1 : ¬ b = 0 → cmS W it g k = true := fun y => by
      by_cases w : cmS W it g k = true
      · exact w
      · rw [if_neg w] at hb; exact absurd hb y
    have hb0 : b = 0 → ¬ cmS W it g k = true := fun y w => by rw [if_pos w] at hb; omega
    have eg := hg k (by omega)
    refine aw_iload dX9_isSeen_28 rfl ?_
    refine aw_iload_n dX9_isSeen_30 rfl ?_
    refine aw_icmp_ge 85 dX9_isSeen_31 rfl (fun c31 => ?_) (fun c31 => ?_)
    · exfalso; omega
    · refine aw_aload_n dX9_isSeen_34 rfl ?_
      refine aw_aload_n dX9_isSeen_35 rfl ?_
      refine aw_getR1 dX9_isSeen_36 fx_RX9_31 (by first | rfl | assumption) (by first | rfl | assumption) ?_
      refine aw_v1q dX9_isSeen_39 vl_RX9_182 (by first | rfl | assumption) (Nat.le_of_ble_eq_true rfl) (Nat.le_of_ble_eq_true rfl) (Nat.le_of_ble_eq_true rfl) (Nat.le_refl _) (Nat.le_refl _) (c_X9_rounds (a := 381) rfl (by decide) (by decide) ev wx (by omega) (by omega)) ?_
      intro v t' h2 hq
      obtain ⟨rfl, rfl, g1, g2⟩ := hq
      rw [addR_rnd] at g1
      have f2 : F81 h h2 := fun c c1 c2 => by rw [g2 c c1 c2]; exact hf c c1 c2
      have e3 : h2 381 (5 + 4 * it + 2) = rndN W (k + 1) 3 it := by rw [mA3 g1 i0 (by rw [addR_0]; show it < rndN W (k + 1) 0 0; rw [rndN_0]; exact i1), addRj (by decide)]; rfl
      have e6 : h2 376 (fr + k) = g k := by rw [f2 376 (by decide) (by decide)]; exact eg
      refine aw_pop dX9_isSeen_42 rfl ?_
      refine aw_iload dX9_isSeen_43 rfl ?_
      refine aw_if_eq 76 dX9_isSeen_45 rfl (fun c45 => ?_) (fun c45 => ?_)
      · refine aw_iconst dX9_isSeen_76 (by decide) (by decide) ?_
        refine aw_istore (ls' := [_, _, _, _, _, _, _, _]) dX9_isSeen_77 (by decide) rfl ?_
        refine aw_iinc (ls' := [_, _, _, _, _, _, _, _]) dX9_isSeen_79 (by decide) rfl (by omega) (by omega) rfl ?_
        refine aw_goto 28 dX9_isSeen_82 rfl ?_
        refine z h2 _ (by omega) f2 g1 ?_
        first | exact (if_pos (es1.mpr ⟨hb1 c45, c69⟩)).symm | exact (if_neg (fun w => c69 (es1.mp w).2)).symm | exact (if_neg (fun w => hb0 c45 (es1.mp w).1)).symm
      · refine aw_aload_n dX9_isSeen_48 rfl ?_
        refine aw_getR1 dX9_isSeen_49 fx_RX9_31 (by first | rfl | assumption) (by first | rfl | assumption) ?_
        refine aw_iconst dX9_isSeen_52 (by decide) (by decide) ?_
        refine aw_iconst dX9_isSeen_53 (by decide) (by decide) ?_
        refine aw_iload_n dX9_isSeen_54 rfl ?_
        refine aw_imul dX9_isSeen_55 (by omega) (by omega) ?_
        refine aw_iadd dX9_isSeen_56 (by omega) (by omega) ?_
        refine aw_iconst dX9_isSeen_57 (by decide) (by decide) ?_
        refine aw_iadd dX9_isSeen_58 (by omega) (by omega) ?_
        refine aw_iaload dX9_isSeen_59 (by first | rfl | assumption) (by omega) (by omega) ?_
        rw [e3]
        refine aw_aload_n dX9_isSeen_60 rfl ?_
        refine aw_getR1 dX9_isSeen_61 fx_RX9_16 (by first | rfl | assumption) (by first | rfl | assumption) ?_
        refine aw_iload_n dX9_isSeen_64 rfl ?_
        refine aw_iload dX9_isSeen_65 rfl ?_
        refine aw_iadd dX9_isSeen_67 (by omega) (by omega) ?_
        refine aw_iaload dX9_isSeen_68 (by first | rfl | assumption) (by omega) (by omega) ?_
        rw [e6]
        refine aw_icmp_ne 76 dX9_isSeen_69 rfl (fun c69 => ?_) (fun c69 => ?_)
        · refine aw_iconst dX9_isSeen_76 (by decide) (by decide) ?_
          refine aw_istore (ls' := [_, _, _, _, _, _, _, _]) dX9_isSeen_77 (by decide) rfl ?_
          refine aw_iinc (ls' := [_, _, _, _, _, _, _, _]) dX9_isSeen_79 (by decide) rfl (by omega) (by omega) rfl ?_
          refine aw_goto 28 dX9_isSeen_82 rfl ?_
          refine z h2 _ (by omega) f2 g1 ?_
          first | exact (if_pos (es1.mpr ⟨hb1 c45, c69⟩)).symm | exact (if_neg (fun w => c69 (es1.mp w).2)).symm | exact (if_neg (fun w => hb0 c45 (es1.mp w).1)).symm
        · refine aw_iconst dX9_isSeen_72 (by decide) (by decide) ?_
          refine aw_goto 77 dX9_isSeen_73 rfl ?_
          refine aw_istore (ls' := [_, _, _, _, _, _, _, _]) dX9_isSeen_77 (by decide) rfl ?_
          refine aw_iinc (ls' := [_, _, _, _, _, _, _, _]) dX9_isSeen_79 (by decide) rfl (by omega) (by omega) rfl ?_
          refine aw_goto 28 dX9_isSeen_82 rfl ?_
          refine z h2 _ (by omega) f2 g1 ?_
          first | exact (if_pos (es1.mpr ⟨hb1 c45, c69⟩)).symm | exact (if_neg (fun w => c69 (es1.mp w).2)).symm | exact (if_neg (fun w => hb0 c45 (es1.mp w).1)).symm
theorem c_X9_isSeen {it fr p x : Int} {N : Nat} {g : Int → Int} (ev : mV h 379 0 = V) (v2 : V 0 0 ≤ 12) (p0 : 0 ≤ p) (p1 : p < 53) (hW : ∀ h1 : Mem, mV h1 381 0 = V → mV (am_up h1 381 p x) 381 0 = W) (wW : WFv W) (r0 : 0 ≤ W 0 4) (r1 : W 0 4 ≤ 9999) (i0 : 0 ≤ it) (i1 : it < W 0 0) (f0 : 0 ≤ fr) (f1 : fr + N ≤ 320) (hN : N ≤ 12) (hg : ∀ k : Nat, k < N → h 376 (fr + k) = g k) :
    Sem M_X9_isSeen [vR 373, vI it, vI fr, vI N, vI p, vI x] (TT e q n L) h 0 0 (fun v t' h' => v = some (vI (if cmS W it g N = true then 1 else 0)) ∧ t' = TT e q n L ∧ F81 h h') := by
  refine sem_intro (by decide) rfl (Nat.le_of_ble_eq_true rfl) rfl ?_
  refine aw_aload_n dX9_isSeen_0 rfl ?_
  refine aw_getR1 dX9_isSeen_1 fx_RX9_25 (by first | rfl | assumption) (by first | rfl | assumption) ?_
  refine aw_iconst dX9_isSeen_4 (by decide) (by decide) ?_
  refine aw_aload_n dX9_isSeen_5 rfl ?_
  refine aw_getR1 dX9_isSeen_6 fx_RX9_31 (by first | rfl | assumption) (by first | rfl | assumption) ?_
  refine aw_iconst dX9_isSeen_9 (by decide) (by decide) ?_
  refine aw_s4q dX9_isSeen_10 sl_RX9_145 (Nat.le_of_ble_eq_true rfl) (Nat.le_of_ble_eq_true rfl) (Nat.le_of_ble_eq_true rfl) (Nat.le_refl _) (Nat.le_refl _) (c_X9_copies (Nx := 53) (Ny := 53) rfl rfl (by decide) (by omega) (by omega) (by omega) (by omega) (by decide) (by decide) (by decide)) ?_
  intro v t' h1 hq
  obtain ⟨rfl, rfl, k1, k2, k3⟩ := hq
  have ev1 := hW h1 (ev_copy ev v2 k1)
  refine aw_aload_n dX9_isSeen_13 rfl ?_
  refine aw_getR1 dX9_isSeen_14 fx_RX9_31 (by first | rfl | assumption) (by first | rfl | assumption) ?_
  refine aw_iload dX9_isSeen_17 rfl ?_
  refine aw_iload dX9_isSeen_19 rfl ?_
  refine aw_iastore dX9_isSeen_21 (by first | rfl | assumption) (by omega) (by omega) (by omega) ?_
  refine aw_iconst dX9_isSeen_22 (by decide) (by decide) ?_
  refine aw_istore (ls' := [_, _, _, _, _, _, _, _]) dX9_isSeen_23 (by decide) rfl ?_
  refine aw_iconst dX9_isSeen_25 (by decide) (by decide) ?_
  refine aw_istore (ls' := [_, _, _, _, _, _, _, _]) dX9_isSeen_26 (by decide) rfl ?_
  exact l_seen (h := h) (W := W) wW r0 r1 i0 i1 f0 f1 hN hg (fun hh f => ⟨rfl, rfl, f⟩) N 0 _ 1 (by omega) (fun c c1 c2 => by rw [am_up_ne c1, k3 c c1]) (by show _ = addR W 0; rw [addR_00]; exact ev1) rfl
end MOP
/-! counted downwards -/
def dset (P : Int → Bool) (hi : Int) : Nat → Int
  | 0 => 0
  | d + 1 => if P (hi - d) = true then ior (dset P hi d) (shl1 (hi - d)) else dset P hi d
def dsum (P : Int → Bool) (hi : Int) : Nat → Int
  | 0 => 0
  | d + 1 => if P (hi - d) = true then dsum P hi d + 1 else dsum P hi d
def dlst (P : Int → Bool) (hi : Int) : Nat → Int
  | 0 => -1000000
  | d + 1 => if P (hi - d) = true then hi - d else dlst P hi d
theorem ior_sw {a x y : Int} : ior (ior a x) y = ior (ior a y) x := by
  unfold ior
  rw [Int32.ofInt_toInt, Int32.ofInt_toInt, Int32.or_assoc, Int32.or_comm (Int32.ofInt x), Int32.or_assoc]
theorem dset_top {P : Int → Bool} {hi : Int} : ∀ d : Nat, dset P hi (d + 1) = if P hi = true then ior (dset P (hi - 1) d) (shl1 hi) else dset P (hi - 1) d
  | 0 => by
    show (if P (hi - ((0 : Nat) : Int)) = true then ior 0 (shl1 (hi - ((0 : Nat) : Int))) else 0) = if P hi = true then ior 0 (shl1 hi) else 0
    rw [show hi - ((0 : Nat) : Int) = hi by omega]
  | d + 1 => by
    have e1 : dset P hi (d + 1 + 1) = if P (hi - ((d + 1 : Nat) : Int)) = true then ior (dset P hi (d + 1)) (shl1 (hi - ((d + 1 : Nat) : Int))) else dset P hi (d + 1) := rfl
    have e2 : dset P (hi - 1) (d + 1) = if P (hi - 1 - (d : Int)) = true then ior (dset P (hi - 1) d) (shl1 (hi - 1 - (d : Int))) else dset P (hi - 1) d := rfl
    rw [e1, dset_top d, e2, show hi - ((d + 1 : Nat) : Int) = hi - 1 - (d : Int) by omega]
    by_cases a : P (hi - 1 - (d : Int)) = true
    · by_cases b : P hi = true
      · rw [if_pos a, if_pos b, if_pos a, if_pos b, ior_sw]
      · rw [if_pos a, if_neg b, if_pos a, if_neg b]
    · by_cases b : P hi = true
      · rw [if_neg a, if_pos b, if_neg a, if_pos b]
      · rw [if_neg a, if_neg b, if_neg a, if_neg b]
theorem dset_b {P : Int → Bool} : ∀ n : Nat, dset P ((n : Int) - 1) n = bset (fun k => P (k : Int)) n
  | 0 => rfl
  | n + 1 => by
    rw [dset_top, show ((n + 1 : Nat) : Int) - 1 = (n : Int) by omega, dset_b n]
    rfl
theorem dset_cg {P R : Int → Bool} {hi : Int} : ∀ d : Nat, (∀ v, hi - d < v → v ≤ hi → P v = R v) → dset P hi d = dset R hi d
  | 0, _ => rfl
  | d + 1, h => by
    unfold dset
    rw [h (hi - d) (by omega) (by omega), dset_cg d (fun v v0 v1 => h v (by omega) v1)]
theorem dsum_top {P : Int → Bool} {hi : Int} : ∀ d : Nat, dsum P hi (d + 1) = dsum P (hi - 1) d + (if P hi = true then 1 else 0)
  | 0 => by
    show (if P (hi - ((0 : Nat) : Int)) = true then (0 : Int) + 1 else 0) = 0 + if P hi = true then 1 else 0
    rw [show hi - ((0 : Nat) : Int) = hi by omega]
    split <;> rfl
  | d + 1 => by
    have e1 : dsum P hi (d + 1 + 1) = if P (hi - ((d + 1 : Nat) : Int)) = true then dsum P hi (d + 1) + 1 else dsum P hi (d + 1) := rfl
    have e2 : dsum P (hi - 1) (d + 1) = if P (hi - 1 - (d : Int)) = true then dsum P (hi - 1) d + 1 else dsum P (hi - 1) d := rfl
    rw [e1, dsum_top d, e2, show hi - ((d + 1 : Nat) : Int) = hi - 1 - (d : Int) by omega]
    split <;> split <;> omega
theorem dsum_c {P : Int → Bool} : ∀ n : Nat, dsum P (n : Int) n = cntF P n
  | 0 => rfl
  | n + 1 => by
    rw [dsum_top, show ((n + 1 : Nat) : Int) - 1 = (n : Int) by omega, dsum_c n]
    rfl
theorem dlst_l {P : Int → Bool} {hi : Int} : ∀ d : Nat, dlst P hi d = lstF P d (hi - d + 1)
  | 0 => rfl
  | d + 1 => by
    have e : lstF P (d + 1) (hi - ((d + 1 : Nat) : Int) + 1) = if P (hi - ((d + 1 : Nat) : Int) + 1) = true then hi - ((d + 1 : Nat) : Int) + 1 else lstF P d (hi - ((d + 1 : Nat) : Int) + 1 + 1) := rfl
    rw [e, show hi - ((d + 1 : Nat) : Int) + 1 = hi - (d : Int) by omega, ← dlst_l d]
    rfl
theorem dsum_bd {P : Int → Bool} {hi : Int} : ∀ d : Nat, 0 ≤ dsum P hi d ∧ dsum P hi d ≤ d
  | 0 => by show (0 : Int) ≤ 0 ∧ (0 : Int) ≤ 0; omega
  | d + 1 => by
    have := dsum_bd (P := P) (hi := hi) d
    unfold dsum
    split <;> omega
def mayB (V : VW) (it w v : Int) : Bool := if w = 0 then decide (mbn (V 0 0) v (V 2 it)) else if w = 1 then decide (mbn (V 0 0) (V 1 it) v) else true
def whV (V : VW) (it w v : Int) : VW := if w = 0 then setV V 1 it v else if w = 1 then setV V 2 it v else setV V 0 3 v
def PW (V : VW) (it : Int) (g : Int → Int) (N : Nat) (w : Int) : Int → Bool := fun v => mayB V it w v && cmS (whV V it w v) it g N
def fitA (P : Int → Bool) (w : Int) : Int := if w = 0 then dset P 5 5 else if w = 1 then dset P 20 21 else if w = 2 then dsum P 87 87 else dlst P 87 87
theorem fit_eq {V : VW} {it w : Int} {g : Int → Int} {N : Nat} (w0 : 0 ≤ w) (w1 : w ≤ 3) : fitA (PW V it g N w) w = fitv V it g N w := by
  unfold fitA fitv
  by_cases a0 : w = 0
  · subst a0
    rw [if_pos rfl, if_pos rfl]
    have e1 : dset (fun v => decide (1 ≤ v) && PW V it g N 0 v) 5 6 = bset (kndP V it g N) 6 := by
      refine (dset_b (P := fun v => decide (1 ≤ v) && PW V it g N 0 v) 6).trans (bset_congr _ (fun k hk => ?_))
      show (decide (1 ≤ (k : Int)) && (decide (mbn (V 0 0) (k : Int) (V 2 it)) && cmS (setV V 1 it k) it g N)) = (decide (1 ≤ k ∧ mbn (V 0 0) k (V 2 it)) && cmS (setV V 1 it k) it g N)
      rw [← Bool.and_assoc]
      congr 1
      by_cases y : 1 ≤ k
      · rw [decide_eq_true (show 1 ≤ (k : Int) by omega), Bool.true_and]
        congr 1
        exact propext ⟨fun z => ⟨y, z⟩, fun z => z.2⟩
      · rw [decide_eq_false (show ¬ 1 ≤ (k : Int) by omega), Bool.false_and]
        exact (decide_eq_false (fun z => y z.1)).symm
    rw [← e1]
    have e2 : dset (fun v => decide (1 ≤ v) && PW V it g N 0 v) 5 6 = dset (fun v => decide (1 ≤ v) && PW V it g N 0 v) 5 5 := rfl
    rw [e2]
    exact dset_cg 5 (fun v v0 v1 => by rw [decide_eq_true (show 1 ≤ v by omega), Bool.true_and])
  · rw [if_neg a0, if_neg a0]
    by_cases a1 : w = 1
    · subst a1
      rw [if_pos rfl, if_pos rfl]
      exact (dset_b (P := PW V it g N 1) 21).trans (bset_congr _ (fun k hk => rfl))
    · rw [if_neg a1, if_neg a1]
      have eP : PW V it g N w = fstP V it g N := by
        funext v
        unfold PW mayB whV fstP
        rw [if_neg a0, if_neg a1, if_neg a0, if_neg a1, Bool.true_and]
      rw [eP]
      by_cases a2 : w = 2
      · rw [if_pos a2, if_pos a2]
        exact dsum_c 87
      · rw [if_neg a2, if_neg a2]
        exact dlst_l 87
