/-! the reference reads a tape token by token -/
section SCA
variable {b : Int → Int} {l : Int}
def cAt (b : Int → Int) (l p : Int) : Int := if p < l then b p else -1
def ndF (b : Int → Int) (l : Int) : Nat → Int → Nat
  | 0, _ => 0
  | m + 1, p => if dgtD b l p = true then ndF b l m (p + 1) + 1 else 0
def ndA (b : Int → Int) (l p : Int) : Nat := ndF b l (l - p).toNat p
def tkC (c : Int) : Int := if c < 0 then 0 else if 97 ≤ c ∧ c ≤ 122 then 1 else if c = 44 then 3 else if c = 59 then 4 else 5
def tkN (b : Int → Int) (l p : Int) : Int := if dgtD b l p = true then (if ndA b l p < 3 then 2 else 5) else tkC (cAt b l p)
def vlN (b : Int → Int) (l p : Int) : Int := if dgtD b l p = true then pvl b p (min (ndA b l p) 2) else cAt b l p
def nxN (b : Int → Int) (l p : Int) : Int := if dgtD b l p = true then p + ndA b l p else p + (if cAt b l p < 0 then 0 else 1)
theorem dgt_iff {p : Int} : dgtD b l p = true ↔ (48 ≤ cAt b l p ∧ cAt b l p ≤ 57) := by
  unfold dgtD cAt
  rw [decide_eq_true_eq]
  by_cases y : p < l
  · rw [if_pos y]; exact ⟨fun z => z.2, fun z => ⟨y, z⟩⟩
  · rw [if_neg y]; constructor <;> intro z <;> omega
theorem ndF_le : ∀ (m : Nat) (p : Int), p + m ≤ l → p + ndF b l m p ≤ l
  | 0, p, h => by show p + ((0 : Nat) : Int) ≤ l; omega
  | m + 1, p, h => by
    show p + ((if dgtD b l p = true then ndF b l m (p + 1) + 1 else 0 : Nat) : Int) ≤ l
    split
    · have := ndF_le m (p + 1) (by omega)
      omega
    · omega
theorem nd_3 {p : Int} (hp : p ≤ l) : (ndA b l p < 3 → nd3 b l p = ndA b l p) ∧ (3 ≤ ndA b l p → nd3 b l p = 3) ∧ (dgtD b l p = false → ndA b l p = 0) ∧ (dgtD b l p = true → 1 ≤ ndA b l p) := by
  have no : ∀ x : Int, l ≤ x → dgtD b l x = false := fun x hx => decide_eq_false (by omega)
  have st : ∀ x : Int, x ≤ l → ndF b l (l - x).toNat x = if dgtD b l x = true then ndF b l (l - (x + 1)).toNat (x + 1) + 1 else 0 := fun x hx => by
    by_cases y : x < l
    · rw [show (l - x).toNat = (l - (x + 1)).toNat + 1 by omega]; rfl
    · rw [show (l - x).toNat = 0 by omega, no x (by omega)]; rfl
  have dl : ∀ x : Int, dgtD b l x = true → x < l := fun x hx => (of_decide_eq_true hx).1
  unfold ndA nd3
  rw [st p hp]
  by_cases d0 : dgtD b l p = true
  · have l0 := dl p d0
    rw [if_pos d0, if_pos d0, st (p + 1) (by omega)]
    by_cases d1 : dgtD b l (p + 1) = true
    · have l1 := dl (p + 1) d1
      rw [if_pos d1, if_pos d1, show p + 1 + 1 = p + 2 by omega, st (p + 2) (by omega)]
      by_cases d2 : dgtD b l (p + 2) = true
      · rw [if_pos d2, if_pos d2]
        refine ⟨fun z => by omega, fun _ => rfl, fun z => ?_, fun _ => by omega⟩
        rw [d0] at z; exact absurd z (by decide)
      · rw [if_neg d2, if_neg d2]
        refine ⟨fun _ => rfl, fun z => by omega, fun z => ?_, fun _ => by omega⟩
        rw [d0] at z; exact absurd z (by decide)
    · rw [if_neg d1, if_neg d1]
      refine ⟨fun _ => rfl, fun z => by omega, fun z => ?_, fun _ => by omega⟩
      rw [d0] at z; exact absurd z (by decide)
  · rw [if_neg d0, if_neg d0]
    exact ⟨fun _ => rfl, fun z => by omega, fun _ => rfl, fun z => absurd z d0⟩
theorem nxN_b {p : Int} (h0 : 0 ≤ p) (h1 : p ≤ l) (hb : ∀ j, 0 ≤ j → j < l → 0 ≤ b j ∧ b j ≤ 255) : p ≤ nxN b l p ∧ nxN b l p ≤ l := by
  unfold nxN
  split
  · have := ndF_le (b := b) (l := l) (l - p).toNat p (by omega)
    unfold ndA
    omega
  · unfold cAt
    by_cases y : p < l
    · have := hb p h0 y
      rw [if_pos y, if_neg (by omega)]; omega
    · rw [if_neg y, if_pos (by omega)]; omega
end SCA
def TP (b : Int → Int) (l : Int) (h : Mem) : Prop := h 373 6 = l ∧ ∀ j, 0 ≤ j → j < l → h 378 j = b j
/-- the token at p is read -/
def SCN (b : Int → Int) (l : Int) (h : Mem) (p : Int) : Prop := h 373 9 = nxN b l p ∧ h 373 10 = p ∧ h 373 11 = tkN b l p ∧ h 373 12 = vlN b l p
def FK (h h' : Mem) : Prop := (∀ c, c ≠ 373 → h' c = h c) ∧ ∀ x : Int, x < 9 ∨ 12 < x → h' 373 x = h 373 x
theorem FK.tr {h h1 h2 : Mem} (x : FK h h1) (y : FK h1 h2) : FK h h2 := ⟨fun c hc => (y.1 c hc).trans (x.1 c hc), fun k hk => (y.2 k hk).trans (x.2 k hk)⟩
theorem FK.tp {b : Int → Int} {l : Int} {h h' : Mem} (f : FK h h') (t : TP b l h) : TP b l h' := ⟨by rw [f.2 6 (by omega)]; exact t.1, fun j j0 j1 => by rw [f.1 378 (by decide)]; exact t.2 j j0 j1⟩
section SCB
variable {e q n L : Nat} {h : Mem} {b : Int → Int} {l : Int}
theorem c_X9_byteAt {k : Int} (hT : TP b l h) (h0 : 0 ≤ k) (hl : l ≤ 80) : SemE M_X9_byteAt [vR 373, vI k] (TT e q n L) h (some (vI (cAt b l k))) (TT e q n L) h := by
  have t1 := hT.1
  have t2 := hT.2 k
  unfold cAt
  refine sem_intro (by decide) rfl (Nat.le_of_ble_eq_true rfl) rfl ?_
  refine aw_iload_n dX9_byteAt_0 rfl ?_
  refine aw_aload_n dX9_byteAt_1 rfl ?_
  refine aw_getI dX9_byteAt_2 fx_RX9_88 (by first | rfl | assumption) ?_
  rw [t1]
  refine aw_icmp_ge 17 dX9_byteAt_5 rfl (fun c5 => ?_) (fun c5 => ?_)
  · refine aw_iconst dX9_byteAt_17 (by decide) (by decide) ?_
    refine aw_ireturn dX9_byteAt_18 rfl (Nat.le_refl _) (Nat.le_refl _) ?_
    first | (rw [if_neg (by omega)]; exact ⟨rfl, rfl, rfl⟩) | (rw [if_pos (by omega)]; exact ⟨am_ri (t2 h0 (by omega)), rfl, rfl⟩)
  · refine aw_aload_n dX9_byteAt_8 rfl ?_
    refine aw_getR1 dX9_byteAt_9 fx_RX9_22 (by first | rfl | assumption) (by first | rfl | assumption) ?_
    refine aw_iload_n dX9_byteAt_12 rfl ?_
    refine aw_iaload dX9_byteAt_13 (by first | rfl | assumption) (by omega) (by omega) ?_
    refine aw_goto 18 dX9_byteAt_14 rfl ?_
    refine aw_ireturn dX9_byteAt_18 rfl (Nat.le_refl _) (Nat.le_refl _) ?_
    first | (rw [if_neg (by omega)]; exact ⟨rfl, rfl, rfl⟩) | (rw [if_pos (by omega)]; exact ⟨am_ri (t2 h0 (by omega)), rfl, rfl⟩)
def AD (b : Int → Int) (p : Int) (h hh : Mem) (k : Nat) : Prop := hh 373 9 = p + k ∧ hh 373 10 = p ∧ hh 373 12 = pvl b p (min k 2) ∧ FK h hh
theorem pvl_b2 {p : Int} {k : Nat} (hk : k < 2) (hd : ∀ j : Nat, j < k → dgtD b l (p + j) = true) : 0 ≤ pvl b p k ∧ pvl b p k ≤ 9 := by
  rcases (show k = 0 ∨ k = 1 by omega) with rfl | rfl
  · show (0 : Int) ≤ 0 ∧ (0 : Int) ≤ 9; omega
  · have := of_decide_eq_true (hd 0 (by decide))
    show 0 ≤ 0 * 10 + b (p + (0 : Nat)) - 48 ∧ 0 * 10 + b (p + (0 : Nat)) - 48 ≤ 9
    omega
set_option maxHeartbeats 2000000 in
theorem l_adv {Q : Option AV → Tp → Mem → Prop} {p c : Int} (hT : TP b l h) (p0 : 0 ≤ p) (p1 : p ≤ l) (hl : l ≤ 80) (hk : ∀ hh, AD b p h hh (ndA b l p) → AW M_X9_advances 0 0 Q 112 [some (vR 373), some (vI c)] [] (TT e q n L) hh 0 0) :
    ∀ (m k : Nat) (hh : Mem), m = (l - (p + k)).toNat → p + k ≤ l → k + ndF b l m (p + k) = ndA b l p → (∀ j : Nat, j < k → dgtD b l (p + j) = true) → AD b p h hh k → AW M_X9_advances 0 0 Q 38 [some (vR 373), some (vI c)] [] (TT e q n L) hh 0 0 := by
  have ex : ∀ (k : Nat) (hh : Mem), p + k ≤ l → dgtD b l (p + k) = false → k = ndA b l p → AD b p h hh k → AW M_X9_advances 0 0 Q 38 [some (vR 373), some (vI c)] [] (TT e q n L) hh 0 0 := by
    intro k hh hkl hd hn hA
    subst hn
    have nd : ¬ (48 ≤ cAt b l (p + ndA b l p) ∧ cAt b l (p + ndA b l p) ≤ 57) := fun z => by
      rw [dgt_iff.mpr z] at hd; exact absurd hd (by decide)
    have a1 := hA.1
    refine aw_aload_n dX9_advances_38 rfl ?_
    refine aw_aload_n dX9_advances_39 rfl ?_
    refine aw_getI dX9_advances_40 fx_RX9_92 (by first | rfl | assumption) ?_
    rw [a1]
    refine aw_v1i dX9_advances_43 vl_RX9_98 (by first | rfl | assumption) (Nat.le_of_ble_eq_true rfl) (Nat.le_of_ble_eq_true rfl) (Nat.le_of_ble_eq_true rfl) (Nat.le_refl _) (Nat.le_refl _) (c_X9_byteAt (hA.2.2.2.tp hT) (by omega) hl) ?_
    refine aw_bipush dX9_advances_46 (by decide) (by decide) ?_
    refine aw_bipush dX9_advances_48 (by decide) (by decide) ?_
    refine aw_s3i dX9_advances_50 sl_RX9_62 (Nat.le_of_ble_eq_true rfl) (Nat.le_of_ble_eq_true rfl) (Nat.le_of_ble_eq_true rfl) (Nat.le_refl _) (Nat.le_refl _) (c_X9_in) ?_
    refine aw_ifB_eq 112 dX9_advances_53 rfl (fun c53 => ?_) (fun c53 => ?_)
    · exact hk hh hA
    · exact absurd c53 nd
  intro m
  induction m with
  | zero =>
    intro k hh hm hkl hn hd hA
    exact ex k hh hkl (decide_eq_false (by omega)) (by rw [← hn]; rfl) hA
  | succ m ih =>
    intro k hh hm hkl hn hd hA
    by_cases y : dgtD b l (p + k) = true
    · have yd := dgt_iff.mp y
      have yl := (of_decide_eq_true y).1
      have yb := (of_decide_eq_true y).2
      have a1 := hA.1
      have a2 := hA.2.1
      have a3 := hA.2.2.1
      have hT2 := hA.2.2.2.tp hT
      have en : ndF b l (m + 1) (p + k) = ndF b l m (p + k + 1) + 1 := if_pos y
      have ec : cAt b l (p + k) = b (p + k) := if_pos yl
      have z := ih (k + 1)
      have pb : k < 2 → 0 ≤ pvl b p k ∧ pvl b p k ≤ 9 := fun z => pvl_b2 z hd
      have hd2 : ∀ j : Nat, j < k + 1 → dgtD b l (p + j) = true := fun j hj => by
        by_cases w : j = k
        · subst w; exact y
        · exact hd j (by omega)
      have fin : ∀ v : Int, v = pvl b p (min (k + 1) 2) → AW M_X9_advances 0 0 Q 38 [some (vR 373), some (vI c)] [] (TT e q n L) (am_up (am_up hh 373 12 v) 373 9 (p + k + 1)) 0 0 := by
        intro v hv
        refine z _ (by omega) (by omega) (by rw [show p + ((k + 1 : Nat) : Int) = p + k + 1 by omega]; omega) hd2 ⟨by simp [am_up]; omega, by simp [am_up]; exact a2, by simp [am_up]; exact hv, fun x hx => by rw [am_up_ne hx, am_up_ne hx]; exact hA.2.2.2.1 x hx, fun x hx => ?_⟩
        unfold am_up
        rw [if_neg (by omega), if_neg (by omega)]
        exact hA.2.2.2.2 x hx
      have v1 : k < 2 → 10 * pvl b p k + b (p + k) - 48 = pvl b p (min (k + 1) 2) := fun w => by
        rw [show min (k + 1) 2 = k + 1 by omega]
        show _ = pvl b p k * 10 + b (p + k) - 48
        omega
      have v2 : ¬ k < 2 → pvl b p (min k 2) = pvl b p (min (k + 1) 2) := fun w => by rw [show min (k + 1) 2 = 2 by omega, show min k 2 = 2 by omega]
      have a3' : k < 2 → hh 373 12 = pvl b p k := fun w => by rw [a3, show min k 2 = k by omega]
      refine aw_aload_n dX9_advances_38 rfl ?_
      refine aw_aload_n dX9_advances_39 rfl ?_
      refine aw_getI dX9_advances_40 fx_RX9_92 (by first | rfl | assumption) ?_
      rw [a1]
      refine aw_v1i dX9_advances_43 vl_RX9_98 (by first | rfl | assumption) (Nat.le_of_ble_eq_true rfl) (Nat.le_of_ble_eq_true rfl) (Nat.le_of_ble_eq_true rfl) (Nat.le_refl _) (Nat.le_refl _) (c_X9_byteAt hT2 (by omega) hl) ?_
      refine aw_bipush dX9_advances_46 (by decide) (by decide) ?_
      refine aw_bipush dX9_advances_48 (by decide) (by decide) ?_
      refine aw_s3i dX9_advances_50 sl_RX9_62 (Nat.le_of_ble_eq_true rfl) (Nat.le_of_ble_eq_true rfl) (Nat.le_of_ble_eq_true rfl) (Nat.le_refl _) (Nat.le_refl _) (c_X9_in) ?_
      refine aw_ifB_eq 112 dX9_advances_53 rfl (fun c53 => ?_) (fun c53 => ?_)
      · exact absurd yd c53
      · refine aw_aload_n dX9_advances_56 rfl ?_
        refine aw_aload_n dX9_advances_57 rfl ?_
        refine aw_getI dX9_advances_58 fx_RX9_92 (by first | rfl | assumption) ?_
        rw [a1]
        refine aw_aload_n dX9_advances_61 rfl ?_
        refine aw_getI dX9_advances_62 fx_RX9_95 (by first | rfl | assumption) ?_
        rw [a2]
        refine aw_isub dX9_advances_65 (by omega) (by omega) ?_
        refine aw_iconst dX9_advances_66 (by decide) (by decide) ?_
        refine aw_icmp_ge 92 dX9_advances_67 rfl (fun c67 => ?_) (fun c67 => ?_)
        · refine aw_aload_n dX9_advances_92 rfl ?_
          refine aw_getI dX9_advances_93 fx_RX9_101 (by first | rfl | assumption) ?_
          try rw [a3]
          refine aw_putI dX9_advances_96 fp_RX9_101 (by first | rfl | assumption) ?_
          refine aw_aload_n dX9_advances_99 rfl ?_
          refine aw_dup dX9_advances_100 rfl ?_
          refine aw_getI dX9_advances_101 fx_RX9_92 (by first | rfl | assumption) ?_
          rw [show ∀ v : Int, am_up hh 373 12 v 373 9 = p + k from fun v => by simp [am_up]; exact a1]
          refine aw_iconst dX9_advances_104 (by decide) (by decide) ?_
          refine aw_iadd dX9_advances_105 (by omega) (by omega) ?_
          refine aw_putI dX9_advances_106 fp_RX9_92 (by first | rfl | assumption) ?_
          refine aw_goto 38 dX9_advances_109 rfl ?_
          first | exact fin _ (v1 (by omega)) | exact fin _ (v2 (by omega))
        · refine aw_bipush dX9_advances_70 (by decide) (by decide) ?_
          refine aw_aload_n dX9_advances_72 rfl ?_
          refine aw_getI dX9_advances_73 fx_RX9_101 (by first | rfl | assumption) ?_
          have pb2 := pb (by omega)
          rw [a3' (by omega)]
          refine aw_imul dX9_advances_76 (by omega) (by omega) ?_
          refine aw_aload_n dX9_advances_77 rfl ?_
          refine aw_aload_n dX9_advances_78 rfl ?_
          refine aw_getI dX9_advances_79 fx_RX9_92 (by first | rfl | assumption) ?_
          rw [a1]
          refine aw_v1i dX9_advances_82 vl_RX9_98 (by first | rfl | assumption) (Nat.le_of_ble_eq_true rfl) (Nat.le_of_ble_eq_true rfl) (Nat.le_of_ble_eq_true rfl) (Nat.le_refl _) (Nat.le_refl _) (c_X9_byteAt hT2 (by omega) hl) ?_
          rw [ec]
          refine aw_iadd dX9_advances_85 (by omega) (by omega) ?_
          refine aw_bipush dX9_advances_86 (by decide) (by decide) ?_
          refine aw_isub dX9_advances_88 (by omega) (by omega) ?_
          refine aw_goto 96 dX9_advances_89 rfl ?_
          try rw [a3]
          refine aw_putI dX9_advances_96 fp_RX9_101 (by first | rfl | assumption) ?_
          refine aw_aload_n dX9_advances_99 rfl ?_
          refine aw_dup dX9_advances_100 rfl ?_
          refine aw_getI dX9_advances_101 fx_RX9_92 (by first | rfl | assumption) ?_
          rw [show ∀ v : Int, am_up hh 373 12 v 373 9 = p + k from fun v => by simp [am_up]; exact a1]
          refine aw_iconst dX9_advances_104 (by decide) (by decide) ?_
          refine aw_iadd dX9_advances_105 (by omega) (by omega) ?_
          refine aw_putI dX9_advances_106 fp_RX9_92 (by first | rfl | assumption) ?_
          refine aw_goto 38 dX9_advances_109 rfl ?_
          first | exact fin _ (v1 (by omega)) | exact fin _ (v2 (by omega))
    · have y' : dgtD b l (p + k) = false := by simpa using y
      have en : ndF b l (m + 1) (p + k) = 0 := if_neg y
      exact ex k hh hkl y' (by omega) hA
theorem c_X9_advances {p : Int} (hT : TP b l h) (h9 : h 373 9 = p) (p0 : 0 ≤ p) (p1 : p ≤ l) (hl : l ≤ 80) (hb : ∀ j, 0 ≤ j → j < l → 0 ≤ b j ∧ b j ≤ 255) : Sem M_X9_advances [vR 373] (TT e q n L) h 0 0 (fun v t' h' => v = none ∧ t' = TT e q n L ∧ SCN b l h' p ∧ FK h h') := by
  obtain ⟨h1, hh1⟩ : ∃ h1, h1 = am_up h 373 10 p := ⟨_, rfl⟩
  have f1 : FK h h1 := ⟨fun c hc => by rw [hh1, am_up_ne hc], fun x hx => by rw [hh1]; unfold am_up; rw [if_neg (by omega)]⟩
  have g9 : h1 373 9 = p := by rw [hh1]; simp [am_up]; exact h9
  have cb : -1 ≤ cAt b l p ∧ cAt b l p ≤ 255 := by
    unfold cAt
    by_cases y : p < l
    · have := hb p p0 y; rw [if_pos y]; omega
    · rw [if_neg y]; omega
  have tl : dgtD b l p = true → ∀ (hh : Mem) (c : Int), AD b p h hh (ndA b l p) → AW M_X9_advances 0 0 (fun v t' h' => v = none ∧ t' = TT e q n L ∧ SCN b l h' p ∧ FK h h') 112 [some (vR 373), some (vI c)] [] (TT e q n L) hh 0 0 := by
    intro hd hh c hA
    have a1 := hA.1
    have a2 := hA.2.1
    have nl := ndF_le (b := b) (l := l) (l - p).toNat p (by omega)
    have nl2 : p + ndA b l p ≤ l := nl
    have fin : ∀ tk : Int, tk = tkN b l p → SCN b l (am_up hh 373 11 tk) p ∧ FK h (am_up hh 373 11 tk) := fun tk ht => ⟨⟨by simp [am_up]; rw [a1]; exact (if_pos hd).symm, by simp [am_up]; exact a2, by simp [am_up]; exact ht, by simp [am_up]; rw [hA.2.2.1]; exact (if_pos hd).symm⟩, fun x hx => by rw [am_up_ne hx]; exact hA.2.2.2.1 x hx, fun x hx => by unfold am_up; rw [if_neg (by omega)]; exact hA.2.2.2.2 x hx⟩
    have et : tkN b l p = if ndA b l p < 3 then 2 else 5 := if_pos hd
    refine aw_aload_n dX9_advances_112 rfl ?_
    refine aw_aload_n dX9_advances_113 rfl ?_
    refine aw_getI dX9_advances_114 fx_RX9_92 (by first | rfl | assumption) ?_
    rw [a1]
    refine aw_aload_n dX9_advances_117 rfl ?_
    refine aw_getI dX9_advances_118 fx_RX9_95 (by first | rfl | assumption) ?_
    rw [a2]
    refine aw_isub dX9_advances_121 (by omega) (by omega) ?_
    refine aw_iconst dX9_advances_122 (by decide) (by decide) ?_
    refine aw_icmp_ge 130 dX9_advances_123 rfl (fun c123 => ?_) (fun c123 => ?_)
    · refine aw_iconst dX9_advances_130 (by decide) (by decide) ?_
      refine aw_putI dX9_advances_131 fp_RX9_104 (by first | rfl | assumption) ?_
      refine aw_return dX9_advances_134 rfl (Nat.le_refl _) (Nat.le_refl _) ?_
      first | exact ⟨rfl, rfl, fin _ (by rw [et, if_pos (by omega)])⟩ | exact ⟨rfl, rfl, fin _ (by rw [et, if_neg (by omega)])⟩
    · refine aw_iconst dX9_advances_126 (by decide) (by decide) ?_
      refine aw_goto 131 dX9_advances_127 rfl ?_
      refine aw_putI dX9_advances_131 fp_RX9_104 (by first | rfl | assumption) ?_
      refine aw_return dX9_advances_134 rfl (Nat.le_refl _) (Nat.le_refl _) ?_
      first | exact ⟨rfl, rfl, fin _ (by rw [et, if_pos (by omega)])⟩ | exact ⟨rfl, rfl, fin _ (by rw [et, if_neg (by omega)])⟩
  have fin2 : ¬ dgtD b l p = true → ∀ tk x9 : Int, tk = tkC (cAt b l p) → x9 = p + (if cAt b l p < 0 then 0 else 1) → SCN b l (am_up (am_up (am_up h1 373 12 (cAt b l p)) 373 11 tk) 373 9 x9) p ∧ FK h (am_up (am_up (am_up h1 373 12 (cAt b l p)) 373 11 tk) 373 9 x9) := by
    intro hd tk x9 ht h9'
    refine ⟨⟨by simp [am_up]; rw [h9']; exact (if_neg hd).symm, by simp [am_up]; rw [hh1]; simp [am_up], by simp [am_up]; rw [ht]; exact (if_neg hd).symm, by simp [am_up]; exact (if_neg hd).symm⟩, fun x hx => by rw [am_up_ne hx, am_up_ne hx, am_up_ne hx]; exact f1.1 x hx, fun x hx => by unfold am_up; rw [if_neg (by omega), if_neg (by omega), if_neg (by omega)]; exact f1.2 x hx⟩
  have q9 : ∀ v tk : Int, am_up (am_up h1 373 12 v) 373 11 tk 373 9 = p := fun v tk => by simp [am_up]; exact g9
  have q11 : ∀ v tk : Int, am_up (am_up h1 373 12 v) 373 11 tk 373 11 = tk := fun v tk => by simp [am_up]
  refine sem_intro (by decide) rfl (Nat.le_of_ble_eq_true rfl) rfl ?_
  refine aw_aload_n dX9_advances_0 rfl ?_
  refine aw_aload_n dX9_advances_1 rfl ?_
  refine aw_getI dX9_advances_2 fx_RX9_92 (by first | rfl | assumption) ?_
  rw [h9]
  refine aw_putI dX9_advances_5 fp_RX9_95 (by first | rfl | assumption) ?_
  rw [← hh1]
  refine aw_aload_n dX9_advances_8 rfl ?_
  refine aw_aload_n dX9_advances_9 rfl ?_
  refine aw_getI dX9_advances_10 fx_RX9_92 (by first | rfl | assumption) ?_
  rw [g9]
  refine aw_v1i dX9_advances_13 vl_RX9_98 (by first | rfl | assumption) (Nat.le_of_ble_eq_true rfl) (Nat.le_of_ble_eq_true rfl) (Nat.le_of_ble_eq_true rfl) (Nat.le_refl _) (Nat.le_refl _) (c_X9_byteAt (f1.tp hT) p0 hl) ?_
  refine aw_istore_n (ls' := [_, _]) dX9_advances_16 (by decide) rfl ?_
  refine aw_aload_n dX9_advances_17 rfl ?_
  refine aw_iload_n dX9_advances_18 rfl ?_
  refine aw_putI dX9_advances_19 fp_RX9_101 (by first | rfl | assumption) ?_
  refine aw_iload_n dX9_advances_22 rfl ?_
  refine aw_bipush dX9_advances_23 (by decide) (by decide) ?_
  refine aw_bipush dX9_advances_25 (by decide) (by decide) ?_
  refine aw_s3i dX9_advances_27 sl_RX9_62 (Nat.le_of_ble_eq_true rfl) (Nat.le_of_ble_eq_true rfl) (Nat.le_of_ble_eq_true rfl) (Nat.le_refl _) (Nat.le_refl _) (c_X9_in) ?_
  refine aw_ifB_eq 135 dX9_advances_30 rfl (fun c30 => ?_) (fun c30 => ?_)
  · refine aw_aload_n dX9_advances_135 rfl ?_
    refine aw_iload_n dX9_advances_136 rfl ?_
    refine aw_if_ge 144 dX9_advances_137 rfl (fun c137 => ?_) (fun c137 => ?_)
    · refine aw_iload_n dX9_advances_144 rfl ?_
      refine aw_bipush dX9_advances_145 (by decide) (by decide) ?_
      refine aw_bipush dX9_advances_147 (by decide) (by decide) ?_
      refine aw_s3i dX9_advances_149 sl_RX9_62 (Nat.le_of_ble_eq_true rfl) (Nat.le_of_ble_eq_true rfl) (Nat.le_of_ble_eq_true rfl) (Nat.le_refl _) (Nat.le_refl _) (c_X9_in) ?_
      refine aw_ifB_eq 159 dX9_advances_152 rfl (fun c152 => ?_) (fun c152 => ?_)
      · refine aw_iload_n dX9_advances_159 rfl ?_
        refine aw_bipush dX9_advances_160 (by decide) (by decide) ?_
        refine aw_icmp_ne 169 dX9_advances_162 rfl (fun c162 => ?_) (fun c162 => ?_)
        · refine aw_iload_n dX9_advances_169 rfl ?_
          refine aw_bipush dX9_advances_170 (by decide) (by decide) ?_
          refine aw_icmp_ne 179 dX9_advances_172 rfl (fun c172 => ?_) (fun c172 => ?_)
          · refine aw_iconst dX9_advances_179 (by decide) (by decide) ?_
            refine aw_putI dX9_advances_180 fp_RX9_104 (by first | rfl | assumption) ?_
            refine aw_aload_n dX9_advances_183 rfl ?_
            refine aw_dup dX9_advances_184 rfl ?_
            refine aw_getI dX9_advances_185 fx_RX9_92 (by first | rfl | assumption) ?_
            rw [q9]
            refine aw_aload_n dX9_advances_188 rfl ?_
            refine aw_getI dX9_advances_189 fx_RX9_104 (by first | rfl | assumption) ?_
            rw [q11]
            refine aw_if_ne 199 dX9_advances_192 rfl (fun c192 => ?_) (fun c192 => ?_)
            · refine aw_iconst dX9_advances_199 (by decide) (by decide) ?_
              refine aw_iadd dX9_advances_200 (by omega) (by omega) ?_
              refine aw_putI dX9_advances_201 fp_RX9_92 (by first | rfl | assumption) ?_
              refine aw_return dX9_advances_204 rfl (Nat.le_refl _) (Nat.le_refl _) ?_
              first | (exfalso; omega) | exact ⟨rfl, rfl, fin2 (fun z => c30 (dgt_iff.mp z)) _ _ (by unfold tkC; first | (rw [if_pos (by omega)]; done) | (rw [if_neg (by omega), if_pos (by omega)]; done) | (rw [if_neg (by omega), if_neg (by omega), if_pos (by omega)]; done) | (rw [if_neg (by omega), if_neg (by omega), if_neg (by omega), if_pos (by omega)]; done) | (rw [if_neg (by omega), if_neg (by omega), if_neg (by omega), if_neg (by omega)]; done)) (by first | (rw [if_pos (by omega)]; done) | (rw [if_neg (by omega)]; done))⟩
            · refine aw_iconst dX9_advances_195 (by decide) (by decide) ?_
              refine aw_goto 200 dX9_advances_196 rfl ?_
              refine aw_iadd dX9_advances_200 (by omega) (by omega) ?_
              refine aw_putI dX9_advances_201 fp_RX9_92 (by first | rfl | assumption) ?_
              refine aw_return dX9_advances_204 rfl (Nat.le_refl _) (Nat.le_refl _) ?_
              first | (exfalso; omega) | exact ⟨rfl, rfl, fin2 (fun z => c30 (dgt_iff.mp z)) _ _ (by unfold tkC; first | (rw [if_pos (by omega)]; done) | (rw [if_neg (by omega), if_pos (by omega)]; done) | (rw [if_neg (by omega), if_neg (by omega), if_pos (by omega)]; done) | (rw [if_neg (by omega), if_neg (by omega), if_neg (by omega), if_pos (by omega)]; done) | (rw [if_neg (by omega), if_neg (by omega), if_neg (by omega), if_neg (by omega)]; done)) (by first | (rw [if_pos (by omega)]; done) | (rw [if_neg (by omega)]; done))⟩
          · refine aw_iconst dX9_advances_175 (by decide) (by decide) ?_
            refine aw_goto 180 dX9_advances_176 rfl ?_
            refine aw_putI dX9_advances_180 fp_RX9_104 (by first | rfl | assumption) ?_
            refine aw_aload_n dX9_advances_183 rfl ?_
            refine aw_dup dX9_advances_184 rfl ?_
            refine aw_getI dX9_advances_185 fx_RX9_92 (by first | rfl | assumption) ?_
            rw [q9]
            refine aw_aload_n dX9_advances_188 rfl ?_
            refine aw_getI dX9_advances_189 fx_RX9_104 (by first | rfl | assumption) ?_
            rw [q11]
            refine aw_if_ne 199 dX9_advances_192 rfl (fun c192 => ?_) (fun c192 => ?_)
            · refine aw_iconst dX9_advances_199 (by decide) (by decide) ?_
              refine aw_iadd dX9_advances_200 (by omega) (by omega) ?_
              refine aw_putI dX9_advances_201 fp_RX9_92 (by first | rfl | assumption) ?_
              refine aw_return dX9_advances_204 rfl (Nat.le_refl _) (Nat.le_refl _) ?_
              first | (exfalso; omega) | exact ⟨rfl, rfl, fin2 (fun z => c30 (dgt_iff.mp z)) _ _ (by unfold tkC; first | (rw [if_pos (by omega)]; done) | (rw [if_neg (by omega), if_pos (by omega)]; done) | (rw [if_neg (by omega), if_neg (by omega), if_pos (by omega)]; done) | (rw [if_neg (by omega), if_neg (by omega), if_neg (by omega), if_pos (by omega)]; done) | (rw [if_neg (by omega), if_neg (by omega), if_neg (by omega), if_neg (by omega)]; done)) (by first | (rw [if_pos (by omega)]; done) | (rw [if_neg (by omega)]; done))⟩
            · refine aw_iconst dX9_advances_195 (by decide) (by decide) ?_
              refine aw_goto 200 dX9_advances_196 rfl ?_
              refine aw_iadd dX9_advances_200 (by omega) (by omega) ?_
              refine aw_putI dX9_advances_201 fp_RX9_92 (by first | rfl | assumption) ?_
              refine aw_return dX9_advances_204 rfl (Nat.le_refl _) (Nat.le_refl _) ?_
              first | (exfalso; omega) | exact ⟨rfl, rfl, fin2 (fun z => c30 (dgt_iff.mp z)) _ _ (by unfold tkC; first | (rw [if_pos (by omega)]; done) | (rw [if_neg (by omega), if_pos (by omega)]; done) | (rw [if_neg (by omega), if_neg (by omega), if_pos (by omega)]; done) | (rw [if_neg (by omega), if_neg (by omega), if_neg (by omega), if_pos (by omega)]; done) | (rw [if_neg (by omega), if_neg (by omega), if_neg (by omega), if_neg (by omega)]; done)) (by first | (rw [if_pos (by omega)]; done) | (rw [if_neg (by omega)]; done))⟩
        · refine aw_iconst dX9_advances_165 (by decide) (by decide) ?_
          refine aw_goto 180 dX9_advances_166 rfl ?_
          refine aw_putI dX9_advances_180 fp_RX9_104 (by first | rfl | assumption) ?_
          refine aw_aload_n dX9_advances_183 rfl ?_
          refine aw_dup dX9_advances_184 rfl ?_
          refine aw_getI dX9_advances_185 fx_RX9_92 (by first | rfl | assumption) ?_
          rw [q9]
          refine aw_aload_n dX9_advances_188 rfl ?_
          refine aw_getI dX9_advances_189 fx_RX9_104 (by first | rfl | assumption) ?_
          rw [q11]
          refine aw_if_ne 199 dX9_advances_192 rfl (fun c192 => ?_) (fun c192 => ?_)
          · refine aw_iconst dX9_advances_199 (by decide) (by decide) ?_
            refine aw_iadd dX9_advances_200 (by omega) (by omega) ?_
            refine aw_putI dX9_advances_201 fp_RX9_92 (by first | rfl | assumption) ?_
            refine aw_return dX9_advances_204 rfl (Nat.le_refl _) (Nat.le_refl _) ?_
            first | (exfalso; omega) | exact ⟨rfl, rfl, fin2 (fun z => c30 (dgt_iff.mp z)) _ _ (by unfold tkC; first | (rw [if_pos (by omega)]; done) | (rw [if_neg (by omega), if_pos (by omega)]; done) | (rw [if_neg (by omega), if_neg (by omega), if_pos (by omega)]; done) | (rw [if_neg (by omega), if_neg (by omega), if_neg (by omega), if_pos (by omega)]; done) | (rw [if_neg (by omega), if_neg (by omega), if_neg (by omega), if_neg (by omega)]; done)) (by first | (rw [if_pos (by omega)]; done) | (rw [if_neg (by omega)]; done))⟩
          · refine aw_iconst dX9_advances_195 (by decide) (by decide) ?_
            refine aw_goto 200 dX9_advances_196 rfl ?_
            refine aw_iadd dX9_advances_200 (by omega) (by omega) ?_
            refine aw_putI dX9_advances_201 fp_RX9_92 (by first | rfl | assumption) ?_
            refine aw_return dX9_advances_204 rfl (Nat.le_refl _) (Nat.le_refl _) ?_
            first | (exfalso; omega) | exact ⟨rfl, rfl, fin2 (fun z => c30 (dgt_iff.mp z)) _ _ (by unfold tkC; first | (rw [if_pos (by omega)]; done) | (rw [if_neg (by omega), if_pos (by omega)]; done) | (rw [if_neg (by omega), if_neg (by omega), if_pos (by omega)]; done) | (rw [if_neg (by omega), if_neg (by omega), if_neg (by omega), if_pos (by omega)]; done) | (rw [if_neg (by omega), if_neg (by omega), if_neg (by omega), if_neg (by omega)]; done)) (by first | (rw [if_pos (by omega)]; done) | (rw [if_neg (by omega)]; done))⟩
      · refine aw_iconst dX9_advances_155 (by decide) (by decide) ?_
        refine aw_goto 180 dX9_advances_156 rfl ?_
        refine aw_putI dX9_advances_180 fp_RX9_104 (by first | rfl | assumption) ?_
        refine aw_aload_n dX9_advances_183 rfl ?_
        refine aw_dup dX9_advances_184 rfl ?_
        refine aw_getI dX9_advances_185 fx_RX9_92 (by first | rfl | assumption) ?_
        rw [q9]
        refine aw_aload_n dX9_advances_188 rfl ?_
        refine aw_getI dX9_advances_189 fx_RX9_104 (by first | rfl | assumption) ?_
        rw [q11]
        refine aw_if_ne 199 dX9_advances_192 rfl (fun c192 => ?_) (fun c192 => ?_)
        · refine aw_iconst dX9_advances_199 (by decide) (by decide) ?_
          refine aw_iadd dX9_advances_200 (by omega) (by omega) ?_
          refine aw_putI dX9_advances_201 fp_RX9_92 (by first | rfl | assumption) ?_
          refine aw_return dX9_advances_204 rfl (Nat.le_refl _) (Nat.le_refl _) ?_
          first | (exfalso; omega) | exact ⟨rfl, rfl, fin2 (fun z => c30 (dgt_iff.mp z)) _ _ (by unfold tkC; first | (rw [if_pos (by omega)]; done) | (rw [if_neg (by omega), if_pos (by omega)]; done) | (rw [if_neg (by omega), if_neg (by omega), if_pos (by omega)]; done) | (rw [if_neg (by omega), if_neg (by omega), if_neg (by omega), if_pos (by omega)]; done) | (rw [if_neg (by omega), if_neg (by omega), if_neg (by omega), if_neg (by omega)]; done)) (by first | (rw [if_pos (by omega)]; done) | (rw [if_neg (by omega)]; done))⟩
        · refine aw_iconst dX9_advances_195 (by decide) (by decide) ?_
          refine aw_goto 200 dX9_advances_196 rfl ?_
          refine aw_iadd dX9_advances_200 (by omega) (by omega) ?_
          refine aw_putI dX9_advances_201 fp_RX9_92 (by first | rfl | assumption) ?_
          refine aw_return dX9_advances_204 rfl (Nat.le_refl _) (Nat.le_refl _) ?_
          first | (exfalso; omega) | exact ⟨rfl, rfl, fin2 (fun z => c30 (dgt_iff.mp z)) _ _ (by unfold tkC; first | (rw [if_pos (by omega)]; done) | (rw [if_neg (by omega), if_pos (by omega)]; done) | (rw [if_neg (by omega), if_neg (by omega), if_pos (by omega)]; done) | (rw [if_neg (by omega), if_neg (by omega), if_neg (by omega), if_pos (by omega)]; done) | (rw [if_neg (by omega), if_neg (by omega), if_neg (by omega), if_neg (by omega)]; done)) (by first | (rw [if_pos (by omega)]; done) | (rw [if_neg (by omega)]; done))⟩
    · refine aw_iconst dX9_advances_140 (by decide) (by decide) ?_
      refine aw_goto 180 dX9_advances_141 rfl ?_
      refine aw_putI dX9_advances_180 fp_RX9_104 (by first | rfl | assumption) ?_
      refine aw_aload_n dX9_advances_183 rfl ?_
      refine aw_dup dX9_advances_184 rfl ?_
      refine aw_getI dX9_advances_185 fx_RX9_92 (by first | rfl | assumption) ?_
      rw [q9]
      refine aw_aload_n dX9_advances_188 rfl ?_
      refine aw_getI dX9_advances_189 fx_RX9_104 (by first | rfl | assumption) ?_
      rw [q11]
      refine aw_if_ne 199 dX9_advances_192 rfl (fun c192 => ?_) (fun c192 => ?_)
      · refine aw_iconst dX9_advances_199 (by decide) (by decide) ?_
        refine aw_iadd dX9_advances_200 (by omega) (by omega) ?_
        refine aw_putI dX9_advances_201 fp_RX9_92 (by first | rfl | assumption) ?_
        refine aw_return dX9_advances_204 rfl (Nat.le_refl _) (Nat.le_refl _) ?_
        first | (exfalso; omega) | exact ⟨rfl, rfl, fin2 (fun z => c30 (dgt_iff.mp z)) _ _ (by unfold tkC; first | (rw [if_pos (by omega)]; done) | (rw [if_neg (by omega), if_pos (by omega)]; done) | (rw [if_neg (by omega), if_neg (by omega), if_pos (by omega)]; done) | (rw [if_neg (by omega), if_neg (by omega), if_neg (by omega), if_pos (by omega)]; done) | (rw [if_neg (by omega), if_neg (by omega), if_neg (by omega), if_neg (by omega)]; done)) (by first | (rw [if_pos (by omega)]; done) | (rw [if_neg (by omega)]; done))⟩
      · refine aw_iconst dX9_advances_195 (by decide) (by decide) ?_
        refine aw_goto 200 dX9_advances_196 rfl ?_
        refine aw_iadd dX9_advances_200 (by omega) (by omega) ?_
        refine aw_putI dX9_advances_201 fp_RX9_92 (by first | rfl | assumption) ?_
        refine aw_return dX9_advances_204 rfl (Nat.le_refl _) (Nat.le_refl _) ?_
        first | (exfalso; omega) | exact ⟨rfl, rfl, fin2 (fun z => c30 (dgt_iff.mp z)) _ _ (by unfold tkC; first | (rw [if_pos (by omega)]; done) | (rw [if_neg (by omega), if_pos (by omega)]; done) | (rw [if_neg (by omega), if_neg (by omega), if_pos (by omega)]; done) | (rw [if_neg (by omega), if_neg (by omega), if_neg (by omega), if_pos (by omega)]; done) | (rw [if_neg (by omega), if_neg (by omega), if_neg (by omega), if_neg (by omega)]; done)) (by first | (rw [if_pos (by omega)]; done) | (rw [if_neg (by omega)]; done))⟩
  · refine aw_aload_n dX9_advances_33 rfl ?_
    refine aw_iconst dX9_advances_34 (by decide) (by decide) ?_
    refine aw_putI dX9_advances_35 fp_RX9_101 (by first | rfl | assumption) ?_
    have hd := dgt_iff.mpr c30
    exact l_adv hT p0 p1 hl (fun hh hA => tl hd hh _ hA) (l - p).toNat 0 _ (by omega) (by omega) (by rw [show p + ((0 : Nat) : Int) = p by omega]; show 0 + ndA b l p = _; omega) (fun j hj => absurd hj (Nat.not_lt_zero j)) ⟨by simp [am_up]; exact g9, by simp [am_up]; rw [hh1]; simp [am_up], by simp [am_up]; rfl, fun x hx => by rw [am_up_ne hx, am_up_ne hx]; exact f1.1 x hx, fun x hx => by unfold am_up; rw [if_neg (by omega), if_neg (by omega)]; exact f1.2 x hx⟩
end SCB
