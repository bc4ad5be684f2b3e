/-! the reference: tokens are taken -/
section SCC
variable {b : Int → Int} {l : Int}
/-- where the reading stands, as the program's reader tells it: place and fault -/
def RM (b : Int → Int) (l F0 : Int) (h : Mem) (x : Int × Int) : Prop := TP b l h ∧ (x.2 = 0 → h 373 8 = -1 ∧ h 373 7 = F0 ∧ SCN b l h x.1) ∧ (x.2 ≠ 0 → h 373 8 = x.1 ∧ h 373 7 = x.2) ∧ 0 ≤ x.1 ∧ x.1 ≤ l
def FK2 (h h' : Mem) : Prop := (∀ c, c ≠ 373 → h' c = h c) ∧ ∀ x : Int, x < 7 ∨ 12 < x → h' 373 x = h 373 x
theorem FK2.rf {h : Mem} : FK2 h h := ⟨fun _ _ => rfl, fun _ _ => rfl⟩
theorem FK2.tr {h h1 h2 : Mem} (x : FK2 h h1) (y : FK2 h1 h2) : FK2 h h2 := ⟨fun c hc => (y.1 c hc).trans (x.1 c hc), fun k hk => (y.2 k hk).trans (x.2 k hk)⟩
theorem FK2.tp {h h' : Mem} (f : FK2 h h') (t : TP b l h) : TP b l h' := ⟨by rw [f.2 6 (by omega)]; exact t.1, fun j j0 j1 => by rw [f.1 378 (by decide)]; exact t.2 j j0 j1⟩
theorem FK.k2 {h h' : Mem} (f : FK h h') : FK2 h h' := ⟨f.1, fun x hx => f.2 x (by omega)⟩
def tkS (b : Int → Int) (l is kd : Int) (x : Int × Int) : Int × Int := if x.2 ≠ 0 then x else if is ≠ 0 then (nxN b l x.1, 0) else (x.1, kd)
def tkV (b : Int → Int) (l is : Int) (x : Int × Int) : Int := if x.2 = 0 ∧ is ≠ 0 then vlN b l x.1 else 0
theorem tk_sg {is s : Int} {x : Int × Int} (hs : s < 48 ∨ 57 < s) (s0 : 0 ≤ s) (h : x.2 = 0 → (is ≠ 0 ↔ (x.1 < l ∧ b x.1 = s))) : tkS b l is 1 x = sgS b l s x := by
  unfold tkS sgS
  by_cases y : x.2 = 0
  · have y' : ¬ x.2 ≠ 0 := fun w => w y
    rw [if_neg y', if_neg y']
    have hi := h y
    by_cases z : x.1 < l ∧ b x.1 = s
    · rw [if_pos (hi.mpr z), if_pos z]
      have ec : cAt b l x.1 = s := by unfold cAt; rw [if_pos z.1]; exact z.2
      have nd : ¬ dgtD b l x.1 = true := fun w => by have := dgt_iff.mp w; omega
      unfold nxN
      rw [if_neg nd, ec, if_neg (by omega)]
    · rw [if_neg (fun w => z (hi.mp w)), if_neg z]
  · rw [if_pos y, if_pos y]
theorem tk_iff {p : Int} (hb : ∀ j, 0 ≤ j → j < l → 0 ≤ b j ∧ b j ≤ 255) (p0 : 0 ≤ p) : (tkN b l p = 3 ↔ (p < l ∧ b p = 44)) ∧ (tkN b l p = 4 ↔ (p < l ∧ b p = 59)) ∧ (tkN b l p = 0 ↔ ¬ p < l) ∧ ((tkN b l p = 1) ↔ (p < l ∧ 97 ≤ b p ∧ b p ≤ 122)) ∧ (¬ dgtD b l p = true → p < l → vlN b l p = b p) ∧ (tkN b l p = 1 → ¬ dgtD b l p = true) := by
  unfold tkN vlN
  by_cases d : dgtD b l p = true
  · have := of_decide_eq_true d
    rw [if_pos d, if_pos d]
    refine ⟨?_, ?_, ?_, ?_, fun z => absurd d z, fun z => ?_⟩
    · constructor
      · intro z; split at z <;> omega
      · intro z; omega
    · constructor
      · intro z; split at z <;> omega
      · intro z; omega
    · constructor
      · intro z; split at z <;> omega
      · intro z; omega
    · constructor
      · intro z; split at z <;> omega
      · intro z; omega
    · split at z <;> omega
  · rw [if_neg d, if_neg d]
    unfold tkC cAt
    by_cases y : p < l
    · have := hb p p0 y
      rw [if_pos y, if_neg (by omega)]
      refine ⟨?_, ?_, ?_, ?_, fun _ _ => rfl, fun _ => d⟩
      · constructor
        · intro z; (repeat' split at z) <;> omega
        · intro z; rw [if_neg (by omega), if_pos (by omega)]
      · constructor
        · intro z; (repeat' split at z) <;> omega
        · intro z; rw [if_neg (by omega), if_neg (by omega), if_pos (by omega)]
      · constructor
        · intro z; (repeat' split at z) <;> omega
        · intro z; omega
      · constructor
        · intro z; (repeat' split at z) <;> omega
        · intro z; rw [if_pos (by omega)]
    · rw [if_neg y, if_pos (by omega)]
      exact ⟨⟨fun z => by omega, fun z => by omega⟩, ⟨fun z => by omega, fun z => by omega⟩, ⟨fun _ => y, fun _ => rfl⟩, ⟨fun z => by omega, fun z => by omega⟩, fun _ z => absurd z y, fun _ => d⟩
theorem tk_2 {p : Int} (hp : p ≤ l) : (tkN b l p = 2 → vlN b l p = pvl b p (nd3 b l p) ∧ nxN b l p = p + nd3 b l p ∧ ¬ (nd3 b l p = 0 ∨ nd3 b l p = 3)) ∧ (tkN b l p ≠ 2 → nd3 b l p = 0 ∨ nd3 b l p = 3) := by
  obtain ⟨n1, n2, n3, n4⟩ := nd_3 (b := b) hp
  unfold tkN vlN nxN
  by_cases d : dgtD b l p = true
  · have d1 := n4 d
    rw [if_pos d, if_pos d, if_pos d]
    by_cases y : ndA b l p < 3
    · rw [if_pos y, n1 y, show min (ndA b l p) 2 = ndA b l p by omega]
      exact ⟨fun _ => ⟨rfl, rfl, by omega⟩, fun z => absurd rfl z⟩
    · rw [if_neg y]
      exact ⟨fun z => absurd z (by decide), fun _ => Or.inr (n2 (by omega))⟩
  · rw [if_neg d, if_neg d, if_neg d]
    have e0 := n3 (by simpa using d)
    refine ⟨fun z => ?_, fun _ => Or.inl ?_⟩
    · exfalso
      unfold tkC at z
      (repeat' split at z) <;> omega
    · rw [n1 (by omega), e0]
end SCC
section SCD
variable {e q n L : Nat} {h : Mem} {b : Int → Int} {l F0 : Int} {x : Int × Int}
theorem c_X9_isWell : SemE M_X9_isWell [vR 373] (TT e q n L) h (some (vI (if h 373 8 < 0 then 1 else 0))) (TT e q n L) h := by
  refine sem_intro (by decide) rfl (Nat.le_of_ble_eq_true rfl) rfl ?_
  refine aw_aload_n dX9_isWell_0 rfl ?_
  refine aw_getI dX9_isWell_1 fx_RX9_107 (by first | rfl | assumption) ?_
  refine aw_if_ge 11 dX9_isWell_4 rfl (fun c4 => ?_) (fun c4 => ?_)
  · refine aw_iconst dX9_isWell_11 (by decide) (by decide) ?_
    refine aw_zreturn dX9_isWell_12 rfl (Nat.le_refl _) (Nat.le_refl _) (by first | decide | omega) (by first | decide | omega) ?_
    exact ⟨am_ri (by first | (rw [if_pos (by omega)]; done) | (rw [if_neg (by omega)]; done)), rfl, rfl⟩
  · refine aw_iconst dX9_isWell_7 (by decide) (by decide) ?_
    refine aw_goto 12 dX9_isWell_8 rfl ?_
    refine aw_zreturn dX9_isWell_12 rfl (Nat.le_refl _) (Nat.le_refl _) (by first | decide | omega) (by first | decide | omega) ?_
    exact ⟨am_ri (by first | (rw [if_pos (by omega)]; done) | (rw [if_neg (by omega)]; done)), rfl, rfl⟩
theorem c_X9_takes {is kd : Int} (hR : RM b l F0 h x) (hk : kd ≠ 0) (hl : l ≤ 80) (hb : ∀ j, 0 ≤ j → j < l → 0 ≤ b j ∧ b j ≤ 255) : Sem M_X9_takes [vR 373, vI is, vI kd] (TT e q n L) h 0 0 (fun v t' h' => v = some (vI (tkV b l is x)) ∧ t' = TT e q n L ∧ RM b l F0 h' (tkS b l is kd x) ∧ FK2 h h') := by
  obtain ⟨r1, r2, r3, r4, r5⟩ := id hR
  have nb := nxN_b (b := b) r4 r5 hb
  have w8 : (x.2 = 0 ∧ h 373 8 = -1) ∨ (x.2 ≠ 0 ∧ h 373 8 = x.1) := by
    by_cases y : x.2 = 0
    · exact Or.inl ⟨y, (r2 y).1⟩
    · exact Or.inr ⟨y, (r3 y).1⟩
  refine sem_intro (by decide) rfl (Nat.le_of_ble_eq_true rfl) rfl ?_
  refine aw_aload_n dX9_takes_0 rfl ?_
  refine aw_v0i dX9_takes_1 vl_RX9_110 (by first | rfl | assumption) (Nat.le_of_ble_eq_true rfl) (Nat.le_of_ble_eq_true rfl) (Nat.le_of_ble_eq_true rfl) (Nat.le_refl _) (Nat.le_refl _) (c_X9_isWell) ?_
  refine aw_ifB_ne 9 dX9_takes_4 rfl (fun c4 => ?_) (fun c4 => ?_)
  · have y : x.2 = 0 := by omega
    obtain ⟨s1, s2, s3, s4, s5, s6⟩ := r2 y
    refine aw_iload_n dX9_takes_9 rfl ?_
    refine aw_if_ne 28 dX9_takes_10 rfl (fun c10 => ?_) (fun c10 => ?_)
    · refine aw_aload_n dX9_takes_28 rfl ?_
      refine aw_getI dX9_takes_29 fx_RX9_101 (by first | rfl | assumption) ?_
      rw [s6]
      refine aw_istore_n (ls' := [_, _, _, _]) dX9_takes_32 (by decide) rfl ?_
      refine aw_aload_n dX9_takes_33 rfl ?_
      refine aw_v0q dX9_takes_34 vl_RX9_117 (by first | rfl | assumption) (Nat.le_of_ble_eq_true rfl) (Nat.le_of_ble_eq_true rfl) (Nat.le_of_ble_eq_true rfl) (Nat.le_refl _) (Nat.le_refl _) (c_X9_advances (p := nxN b l x.1) r1 s3 (by omega) nb.2 hl hb) ?_
      intro v t' h1 hq
      obtain ⟨rfl, rfl, f1, f2⟩ := hq
      refine aw_iload_n dX9_takes_37 rfl ?_
      refine aw_ireturn dX9_takes_38 rfl (Nat.le_refl _) (Nat.le_refl _) ?_
      refine ⟨am_ri (if_pos ⟨y, c10⟩).symm, rfl, ?_, f2.k2⟩
      unfold tkS
      rw [if_neg (by omega), if_pos c10]
      exact ⟨f2.tp r1, fun _ => ⟨by rw [f2.2 8 (by omega)]; exact s1, by rw [f2.2 7 (by omega)]; exact s2, f1⟩, fun z => absurd rfl z, by show 0 ≤ nxN b l x.1; omega, nb.2⟩
    · refine aw_aload_n dX9_takes_13 rfl ?_
      refine aw_aload_n dX9_takes_14 rfl ?_
      refine aw_getI dX9_takes_15 fx_RX9_95 (by first | rfl | assumption) ?_
      rw [s4]
      refine aw_putI dX9_takes_18 fp_RX9_107 (by first | rfl | assumption) ?_
      refine aw_aload_n dX9_takes_21 rfl ?_
      refine aw_iload_n dX9_takes_22 rfl ?_
      refine aw_putI dX9_takes_23 fp_RX9_114 (by first | rfl | assumption) ?_
      refine aw_iconst dX9_takes_26 (by decide) (by decide) ?_
      refine aw_ireturn dX9_takes_27 rfl (Nat.le_refl _) (Nat.le_refl _) ?_
      refine ⟨am_ri (if_neg (fun z => z.2 c10)).symm, rfl, ?_, ⟨fun c hc => by rw [am_up_ne hc, am_up_ne hc], fun k hk2 => by unfold am_up; rw [if_neg (by omega), if_neg (by omega)]⟩⟩
      unfold tkS
      rw [if_neg (by omega), if_neg (by omega)]
      exact ⟨⟨by simp [am_up]; exact r1.1, fun j j0 j1 => by rw [am_up_ne (by decide), am_up_ne (by decide)]; exact r1.2 j j0 j1⟩, fun z => absurd z hk, fun _ => ⟨by simp [am_up], by simp [am_up]⟩, r4, r5⟩
  · refine aw_iconst dX9_takes_7 (by decide) (by decide) ?_
    refine aw_ireturn dX9_takes_8 rfl (Nat.le_refl _) (Nat.le_refl _) ?_
    have y : x.2 ≠ 0 := by omega
    exact ⟨am_ri (if_neg (fun z => y z.1)).symm, rfl, by unfold tkS; rw [if_pos y]; exact hR, FK2.rf⟩
theorem c_X9_figure {lo hi : Int} (hR : RM b l F0 h x) (hl : l ≤ 80) (hb : ∀ j, 0 ≤ j → j < l → 0 ≤ b j ∧ b j ≤ 255) : Sem M_X9_figure [vR 373, vI lo, vI hi] (TT e q n L) h 0 0 (fun v t' h' => ∃ y : Int, v = some (vI y) ∧ ((nmS b l lo hi x).2 = 0 → y = nmV b l x) ∧ t' = TT e q n L ∧ RM b l F0 h' (nmS b l lo hi x) ∧ FK2 h h') := by
  obtain ⟨r1, r2, r3, r4, r5⟩ := id hR
  obtain ⟨t1, t2⟩ := tk_2 (b := b) r5
  have w8 : (x.2 = 0 ∧ h 373 8 = -1) ∨ (x.2 ≠ 0 ∧ h 373 8 = x.1) := by
    by_cases y : x.2 = 0
    · exact Or.inl ⟨y, (r2 y).1⟩
    · exact Or.inr ⟨y, (r3 y).1⟩
  have e1 : x.2 = 0 → tkN b l x.1 ≠ 2 → tkS b l 0 1 x = nmS b l lo hi x ∧ (nmS b l lo hi x).2 = 1 := fun y z => by
    have d := t2 z
    have y' : ¬ x.2 ≠ 0 := fun w => w y
    unfold tkS nmS
    rw [if_neg y', if_neg y', if_neg (show ¬ ((0 : Int) ≠ 0) by decide), if_pos d]
    exact ⟨rfl, rfl⟩
  have e2 : ∀ is : Int, (is = if lo ≤ h 373 12 ∧ h 373 12 ≤ hi then 1 else 0) → (x.2 = 0 → tkN b l x.1 = 2) → tkS b l is 2 x = nmS b l lo hi x ∧ ((nmS b l lo hi x).2 = 0 → tkV b l is x = nmV b l x) := fun is hi2 z => by
    by_cases y : x.2 = 0
    · obtain ⟨a1, a2, a3⟩ := t1 (z y)
      obtain ⟨s1, s2, s3, s4, s5, s6⟩ := r2 y
      have ev : nmV b l x = pvl b x.1 (nd3 b l x.1) := if_neg (by omega)
      rw [s6, a1, ← ev] at hi2
      unfold tkS nmS tkV
      have y' : ¬ x.2 ≠ 0 := fun w => w y
      rw [if_neg y', if_neg y', if_neg a3, a2]
      by_cases w : lo ≤ nmV b l x ∧ nmV b l x ≤ hi
      · rw [if_pos w] at hi2
        rw [if_pos (by omega), if_neg (by omega), if_pos ⟨y, by omega⟩, a1, ev]
        exact ⟨rfl, fun _ => rfl⟩
      · rw [if_neg w] at hi2
        rw [if_neg (by omega), if_pos (by omega)]
        exact ⟨rfl, fun u => absurd u (by show ¬ (2 : Int) = 0; decide)⟩
    · unfold tkS nmS
      rw [if_pos y, if_pos y]
      exact ⟨rfl, fun u => absurd u y⟩
  refine sem_intro (by decide) rfl (Nat.le_of_ble_eq_true rfl) rfl ?_
  refine aw_aload_n dX9_figure_0 rfl ?_
  refine aw_v0i dX9_figure_1 vl_RX9_110 (by first | rfl | assumption) (Nat.le_of_ble_eq_true rfl) (Nat.le_of_ble_eq_true rfl) (Nat.le_of_ble_eq_true rfl) (Nat.le_refl _) (Nat.le_refl _) (c_X9_isWell) ?_
  refine aw_ifB_eq 22 dX9_figure_4 rfl (fun c4 => ?_) (fun c4 => ?_)
  · refine aw_aload_n dX9_figure_22 rfl ?_
    refine aw_aload_n dX9_figure_23 rfl ?_
    refine aw_getI dX9_figure_24 fx_RX9_101 (by first | rfl | assumption) ?_
    refine aw_iload_n dX9_figure_27 rfl ?_
    refine aw_iload_n dX9_figure_28 rfl ?_
    refine aw_s3i dX9_figure_29 sl_RX9_62 (Nat.le_of_ble_eq_true rfl) (Nat.le_of_ble_eq_true rfl) (Nat.le_of_ble_eq_true rfl) (Nat.le_refl _) (Nat.le_refl _) (c_X9_in) ?_
    refine aw_iconst dX9_figure_32 (by decide) (by decide) ?_
    refine aw_v2q dX9_figure_33 vl_RX9_120 (by first | rfl | assumption) (Nat.le_of_ble_eq_true rfl) (Nat.le_of_ble_eq_true rfl) (Nat.le_of_ble_eq_true rfl) (Nat.le_refl _) (Nat.le_refl _) (c_X9_takes hR (by decide) hl hb) ?_
    intro v t' h1 hq
    obtain ⟨rfl, rfl, f1, f2⟩ := hq
    refine aw_ireturn dX9_figure_36 rfl (Nat.le_refl _) (Nat.le_refl _) ?_
    obtain ⟨g1, g2⟩ := e2 _ rfl (fun y => by first | (exfalso; omega) | (obtain ⟨s1, s2, s3, s4, s5, s6⟩ := r2 y; rw [← s5]; exact c12))
    rw [g1] at f1
    exact ⟨_, rfl, g2, rfl, f1, f2⟩
  · refine aw_aload_n dX9_figure_7 rfl ?_
    refine aw_getI dX9_figure_8 fx_RX9_104 (by first | rfl | assumption) ?_
    refine aw_iconst dX9_figure_11 (by decide) (by decide) ?_
    refine aw_icmp_eq 22 dX9_figure_12 rfl (fun c12 => ?_) (fun c12 => ?_)
    · refine aw_aload_n dX9_figure_22 rfl ?_
      refine aw_aload_n dX9_figure_23 rfl ?_
      refine aw_getI dX9_figure_24 fx_RX9_101 (by first | rfl | assumption) ?_
      refine aw_iload_n dX9_figure_27 rfl ?_
      refine aw_iload_n dX9_figure_28 rfl ?_
      refine aw_s3i dX9_figure_29 sl_RX9_62 (Nat.le_of_ble_eq_true rfl) (Nat.le_of_ble_eq_true rfl) (Nat.le_of_ble_eq_true rfl) (Nat.le_refl _) (Nat.le_refl _) (c_X9_in) ?_
      refine aw_iconst dX9_figure_32 (by decide) (by decide) ?_
      refine aw_v2q dX9_figure_33 vl_RX9_120 (by first | rfl | assumption) (Nat.le_of_ble_eq_true rfl) (Nat.le_of_ble_eq_true rfl) (Nat.le_of_ble_eq_true rfl) (Nat.le_refl _) (Nat.le_refl _) (c_X9_takes hR (by decide) hl hb) ?_
      intro v t' h1 hq
      obtain ⟨rfl, rfl, f1, f2⟩ := hq
      refine aw_ireturn dX9_figure_36 rfl (Nat.le_refl _) (Nat.le_refl _) ?_
      obtain ⟨g1, g2⟩ := e2 _ rfl (fun y => by first | (exfalso; omega) | (obtain ⟨s1, s2, s3, s4, s5, s6⟩ := r2 y; rw [← s5]; exact c12))
      rw [g1] at f1
      exact ⟨_, rfl, g2, rfl, f1, f2⟩
    · refine aw_aload_n dX9_figure_15 rfl ?_
      refine aw_iconst dX9_figure_16 (by decide) (by decide) ?_
      refine aw_iconst dX9_figure_17 (by decide) (by decide) ?_
      refine aw_v2q dX9_figure_18 vl_RX9_120 (by first | rfl | assumption) (Nat.le_of_ble_eq_true rfl) (Nat.le_of_ble_eq_true rfl) (Nat.le_of_ble_eq_true rfl) (Nat.le_refl _) (Nat.le_refl _) (c_X9_takes hR (by decide) hl hb) ?_
      intro v t' h1 hq
      obtain ⟨rfl, rfl, f1, f2⟩ := hq
      refine aw_ireturn dX9_figure_21 rfl (Nat.le_refl _) (Nat.le_refl _) ?_
      have y : x.2 = 0 := by omega
      obtain ⟨s1, s2, s3, s4, s5, s6⟩ := r2 y
      obtain ⟨g1, g2⟩ := e1 y (by rw [← s5]; exact c12)
      rw [g1] at f1
      exact ⟨_, rfl, fun z => by rw [g2] at z; exact absurd z (by decide), rfl, f1, f2⟩
theorem c_X9_follows {lo hi : Int} (hR : RM b l F0 h x) (hl : l ≤ 80) (hb : ∀ j, 0 ≤ j → j < l → 0 ≤ b j ∧ b j ≤ 255) : Sem M_X9_follows [vR 373, vI lo, vI hi] (TT e q n L) h 0 0 (fun v t' h' => ∃ y : Int, v = some (vI y) ∧ ((nmS b l lo hi (sgS b l 44 x)).2 = 0 → y = nmV b l (sgS b l 44 x)) ∧ t' = TT e q n L ∧ RM b l F0 h' (nmS b l lo hi (sgS b l 44 x)) ∧ FK2 h h') := by
  obtain ⟨r1, r2, r3, r4, r5⟩ := id hR
  have ti := (tk_iff (p := x.1) hb r4).1
  have es : ∀ is : Int, (h 373 11 = 3 ∧ is = 1 ∨ h 373 11 ≠ 3 ∧ is = 0) → tkS b l is 1 x = sgS b l 44 x := fun is hi2 => tk_sg (Or.inl (by decide)) (by decide) (fun y => by
    obtain ⟨s1, s2, s3, s4, s5, s6⟩ := r2 y
    rw [s5] at hi2
    rw [← ti]
    omega)
  refine sem_intro (by decide) rfl (Nat.le_of_ble_eq_true rfl) rfl ?_
  refine aw_aload_n dX9_follows_0 rfl ?_
  refine aw_aload_n dX9_follows_1 rfl ?_
  refine aw_getI dX9_follows_2 fx_RX9_104 (by first | rfl | assumption) ?_
  refine aw_iconst dX9_follows_5 (by decide) (by decide) ?_
  refine aw_icmp_ne 13 dX9_follows_6 rfl (fun c6 => ?_) (fun c6 => ?_)
  · refine aw_iconst dX9_follows_13 (by decide) (by decide) ?_
    refine aw_iconst dX9_follows_14 (by decide) (by decide) ?_
    refine aw_v2q dX9_follows_15 vl_RX9_120 (by first | rfl | assumption) (Nat.le_of_ble_eq_true rfl) (Nat.le_of_ble_eq_true rfl) (Nat.le_of_ble_eq_true rfl) (Nat.le_refl _) (Nat.le_refl _) (c_X9_takes hR (by decide) hl hb) ?_
    intro v t' h1 hq
    obtain ⟨rfl, rfl, f1, f2⟩ := hq
    rw [es _ (by omega)] at f1
    refine aw_pop dX9_follows_18 rfl ?_
    refine aw_aload_n dX9_follows_19 rfl ?_
    refine aw_iload_n dX9_follows_20 rfl ?_
    refine aw_iload_n dX9_follows_21 rfl ?_
    refine aw_v2q dX9_follows_22 vl_RX9_124 (by first | rfl | assumption) (Nat.le_of_ble_eq_true rfl) (Nat.le_of_ble_eq_true rfl) (Nat.le_of_ble_eq_true rfl) (Nat.le_refl _) (Nat.le_refl _) (c_X9_figure f1 hl hb) ?_
    intro v t' h2 hq
    obtain ⟨y, rfl, g1, rfl, g2, g3⟩ := hq
    refine aw_ireturn dX9_follows_25 rfl (Nat.le_refl _) (Nat.le_refl _) ?_
    exact ⟨y, rfl, g1, rfl, g2, f2.tr g3⟩
  · refine aw_iconst dX9_follows_9 (by decide) (by decide) ?_
    refine aw_goto 14 dX9_follows_10 rfl ?_
    refine aw_iconst dX9_follows_14 (by decide) (by decide) ?_
    refine aw_v2q dX9_follows_15 vl_RX9_120 (by first | rfl | assumption) (Nat.le_of_ble_eq_true rfl) (Nat.le_of_ble_eq_true rfl) (Nat.le_of_ble_eq_true rfl) (Nat.le_refl _) (Nat.le_refl _) (c_X9_takes hR (by decide) hl hb) ?_
    intro v t' h1 hq
    obtain ⟨rfl, rfl, f1, f2⟩ := hq
    rw [es _ (by omega)] at f1
    refine aw_pop dX9_follows_18 rfl ?_
    refine aw_aload_n dX9_follows_19 rfl ?_
    refine aw_iload_n dX9_follows_20 rfl ?_
    refine aw_iload_n dX9_follows_21 rfl ?_
    refine aw_v2q dX9_follows_22 vl_RX9_124 (by first | rfl | assumption) (Nat.le_of_ble_eq_true rfl) (Nat.le_of_ble_eq_true rfl) (Nat.le_of_ble_eq_true rfl) (Nat.le_refl _) (Nat.le_refl _) (c_X9_figure f1 hl hb) ?_
    intro v t' h2 hq
    obtain ⟨y, rfl, g1, rfl, g2, g3⟩ := hq
    refine aw_ireturn dX9_follows_25 rfl (Nat.le_refl _) (Nat.le_refl _) ?_
    exact ⟨y, rfl, g1, rfl, g2, f2.tr g3⟩
def muS (is kd : Int) (x : Int × Int) : Int × Int := if x.2 ≠ 0 then x else if is ≠ 0 then x else (x.1, kd)
theorem c_X9_must {is kd : Int} (hR : RM b l F0 h x) (hk : kd ≠ 0) (hl : l ≤ 80) (hb : ∀ j, 0 ≤ j → j < l → 0 ≤ b j ∧ b j ≤ 255) : Sem M_X9_must [vR 373, vI is, vI kd] (TT e q n L) h 0 0 (fun v t' h' => v = none ∧ t' = TT e q n L ∧ RM b l F0 h' (muS is kd x) ∧ FK2 h h') := by
  obtain ⟨r1, r2, r3, r4, r5⟩ := id hR
  have w8 : (x.2 = 0 ∧ h 373 8 = -1) ∨ (x.2 ≠ 0 ∧ h 373 8 = x.1) := by
    by_cases y : x.2 = 0
    · exact Or.inl ⟨y, (r2 y).1⟩
    · exact Or.inr ⟨y, (r3 y).1⟩
  refine sem_intro (by decide) rfl (Nat.le_of_ble_eq_true rfl) rfl ?_
  refine aw_aload_n dX9_must_0 rfl ?_
  refine aw_v0i dX9_must_1 vl_RX9_110 (by first | rfl | assumption) (Nat.le_of_ble_eq_true rfl) (Nat.le_of_ble_eq_true rfl) (Nat.le_of_ble_eq_true rfl) (Nat.le_refl _) (Nat.le_refl _) (c_X9_isWell) ?_
  refine aw_ifB_eq 18 dX9_must_4 rfl (fun c4 => ?_) (fun c4 => ?_)
  · refine aw_return dX9_must_18 rfl (Nat.le_refl _) (Nat.le_refl _) ?_
    exact ⟨rfl, rfl, by unfold muS; rw [if_pos (by omega)]; exact hR, FK2.rf⟩
  · refine aw_iload_n dX9_must_7 rfl ?_
    refine aw_if_ne 18 dX9_must_8 rfl (fun c8 => ?_) (fun c8 => ?_)
    · refine aw_return dX9_must_18 rfl (Nat.le_refl _) (Nat.le_refl _) ?_
      exact ⟨rfl, rfl, by unfold muS; rw [if_neg (by omega), if_pos c8]; exact hR, FK2.rf⟩
    · refine aw_aload_n dX9_must_11 rfl ?_
      refine aw_iconst dX9_must_12 (by decide) (by decide) ?_
      refine aw_iload_n dX9_must_13 rfl ?_
      refine aw_v2q dX9_must_14 vl_RX9_120 (by first | rfl | assumption) (Nat.le_of_ble_eq_true rfl) (Nat.le_of_ble_eq_true rfl) (Nat.le_of_ble_eq_true rfl) (Nat.le_refl _) (Nat.le_refl _) (c_X9_takes hR hk hl hb) ?_
      intro v t' h1 hq
      obtain ⟨rfl, rfl, f1, f2⟩ := hq
      refine aw_pop dX9_must_17 rfl ?_
      refine aw_return dX9_must_18 rfl (Nat.le_refl _) (Nat.le_refl _) ?_
      refine ⟨rfl, rfl, ?_, f2⟩
      unfold tkS at f1
      rw [if_neg (by omega), if_neg (by omega)] at f1
      unfold muS
      rw [if_neg (by omega), if_neg (by omega)]
      exact f1
def kdM (v : Int) : Int := if kdS v = -1000000 then 0 else kdS v
theorem c_X9_kindOf {t : Tp} {v : Int} : SemE M_X9_kindOf [vI v] t h (some (vI (kdM v))) t h := by
  unfold kdM kdS
  refine sem_intro (by decide) rfl (Nat.le_of_ble_eq_true rfl) rfl ?_
  refine aw_iload_n dX9_kindOf_0 rfl ?_
  refine aw_bipush dX9_kindOf_1 (by decide) (by decide) ?_
  refine aw_icmp_ne 10 dX9_kindOf_3 rfl (fun c3 => ?_) (fun c3 => ?_)
  · refine aw_iload_n dX9_kindOf_10 rfl ?_
    refine aw_bipush dX9_kindOf_11 (by decide) (by decide) ?_
    refine aw_icmp_ne 20 dX9_kindOf_13 rfl (fun c13 => ?_) (fun c13 => ?_)
    · refine aw_iload_n dX9_kindOf_20 rfl ?_
      refine aw_bipush dX9_kindOf_21 (by decide) (by decide) ?_
      refine aw_icmp_ne 30 dX9_kindOf_23 rfl (fun c23 => ?_) (fun c23 => ?_)
      · refine aw_iload_n dX9_kindOf_30 rfl ?_
        refine aw_bipush dX9_kindOf_31 (by decide) (by decide) ?_
        refine aw_icmp_ne 40 dX9_kindOf_33 rfl (fun c33 => ?_) (fun c33 => ?_)
        · refine aw_iload_n dX9_kindOf_40 rfl ?_
          refine aw_bipush dX9_kindOf_41 (by decide) (by decide) ?_
          refine aw_icmp_ne 50 dX9_kindOf_43 rfl (fun c43 => ?_) (fun c43 => ?_)
          · refine aw_iconst dX9_kindOf_50 (by decide) (by decide) ?_
            refine aw_ireturn dX9_kindOf_51 rfl (Nat.le_refl _) (Nat.le_refl _) ?_
            refine ⟨am_ri ?_, rfl, rfl⟩
            first | (rw [if_pos (show v = 116 by omega)]; rfl) | (rw [if_neg (show ¬ v = 116 by omega)]; first | (rw [if_pos (show v = 107 by omega)]; rfl) | (rw [if_neg (show ¬ v = 107 by omega)]; first | (rw [if_pos (show v = 114 by omega)]; rfl) | (rw [if_neg (show ¬ v = 114 by omega)]; first | (rw [if_pos (show v = 109 by omega)]; rfl) | (rw [if_neg (show ¬ v = 109 by omega)]; first | (rw [if_pos (show v = 102 by omega)]; rfl) | (rw [if_neg (show ¬ v = 102 by omega)]; rfl)))))
          · refine aw_iconst dX9_kindOf_46 (by decide) (by decide) ?_
            refine aw_goto 51 dX9_kindOf_47 rfl ?_
            refine aw_ireturn dX9_kindOf_51 rfl (Nat.le_refl _) (Nat.le_refl _) ?_
            refine ⟨am_ri ?_, rfl, rfl⟩
            first | (rw [if_pos (show v = 116 by omega)]; rfl) | (rw [if_neg (show ¬ v = 116 by omega)]; first | (rw [if_pos (show v = 107 by omega)]; rfl) | (rw [if_neg (show ¬ v = 107 by omega)]; first | (rw [if_pos (show v = 114 by omega)]; rfl) | (rw [if_neg (show ¬ v = 114 by omega)]; first | (rw [if_pos (show v = 109 by omega)]; rfl) | (rw [if_neg (show ¬ v = 109 by omega)]; first | (rw [if_pos (show v = 102 by omega)]; rfl) | (rw [if_neg (show ¬ v = 102 by omega)]; rfl)))))
        · refine aw_iconst dX9_kindOf_36 (by decide) (by decide) ?_
          refine aw_goto 51 dX9_kindOf_37 rfl ?_
          refine aw_ireturn dX9_kindOf_51 rfl (Nat.le_refl _) (Nat.le_refl _) ?_
          refine ⟨am_ri ?_, rfl, rfl⟩
          first | (rw [if_pos (show v = 116 by omega)]; rfl) | (rw [if_neg (show ¬ v = 116 by omega)]; first | (rw [if_pos (show v = 107 by omega)]; rfl) | (rw [if_neg (show ¬ v = 107 by omega)]; first | (rw [if_pos (show v = 114 by omega)]; rfl) | (rw [if_neg (show ¬ v = 114 by omega)]; first | (rw [if_pos (show v = 109 by omega)]; rfl) | (rw [if_neg (show ¬ v = 109 by omega)]; first | (rw [if_pos (show v = 102 by omega)]; rfl) | (rw [if_neg (show ¬ v = 102 by omega)]; rfl)))))
      · refine aw_iconst dX9_kindOf_26 (by decide) (by decide) ?_
        refine aw_goto 51 dX9_kindOf_27 rfl ?_
        refine aw_ireturn dX9_kindOf_51 rfl (Nat.le_refl _) (Nat.le_refl _) ?_
        refine ⟨am_ri ?_, rfl, rfl⟩
        first | (rw [if_pos (show v = 116 by omega)]; rfl) | (rw [if_neg (show ¬ v = 116 by omega)]; first | (rw [if_pos (show v = 107 by omega)]; rfl) | (rw [if_neg (show ¬ v = 107 by omega)]; first | (rw [if_pos (show v = 114 by omega)]; rfl) | (rw [if_neg (show ¬ v = 114 by omega)]; first | (rw [if_pos (show v = 109 by omega)]; rfl) | (rw [if_neg (show ¬ v = 109 by omega)]; first | (rw [if_pos (show v = 102 by omega)]; rfl) | (rw [if_neg (show ¬ v = 102 by omega)]; rfl)))))
    · refine aw_iconst dX9_kindOf_16 (by decide) (by decide) ?_
      refine aw_goto 51 dX9_kindOf_17 rfl ?_
      refine aw_ireturn dX9_kindOf_51 rfl (Nat.le_refl _) (Nat.le_refl _) ?_
      refine ⟨am_ri ?_, rfl, rfl⟩
      first | (rw [if_pos (show v = 116 by omega)]; rfl) | (rw [if_neg (show ¬ v = 116 by omega)]; first | (rw [if_pos (show v = 107 by omega)]; rfl) | (rw [if_neg (show ¬ v = 107 by omega)]; first | (rw [if_pos (show v = 114 by omega)]; rfl) | (rw [if_neg (show ¬ v = 114 by omega)]; first | (rw [if_pos (show v = 109 by omega)]; rfl) | (rw [if_neg (show ¬ v = 109 by omega)]; first | (rw [if_pos (show v = 102 by omega)]; rfl) | (rw [if_neg (show ¬ v = 102 by omega)]; rfl)))))
  · refine aw_iconst dX9_kindOf_6 (by decide) (by decide) ?_
    refine aw_goto 51 dX9_kindOf_7 rfl ?_
    refine aw_ireturn dX9_kindOf_51 rfl (Nat.le_refl _) (Nat.le_refl _) ?_
    refine ⟨am_ri ?_, rfl, rfl⟩
    first | (rw [if_pos (show v = 116 by omega)]; rfl) | (rw [if_neg (show ¬ v = 116 by omega)]; first | (rw [if_pos (show v = 107 by omega)]; rfl) | (rw [if_neg (show ¬ v = 107 by omega)]; first | (rw [if_pos (show v = 114 by omega)]; rfl) | (rw [if_neg (show ¬ v = 114 by omega)]; first | (rw [if_pos (show v = 109 by omega)]; rfl) | (rw [if_neg (show ¬ v = 109 by omega)]; first | (rw [if_pos (show v = 102 by omega)]; rfl) | (rw [if_neg (show ¬ v = 102 by omega)]; rfl)))))
end SCD
