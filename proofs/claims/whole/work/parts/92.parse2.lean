/-! what is read well is a sheet -/
section PA2
variable {b : Int → Int} {l : Int}
def PV (V : VW) : Prop := ∀ k : Int, 0 ≤ k → k < V 0 0 → 1 ≤ V 1 k ∧ V 1 k ≤ 5 ∧ (V 1 k ≤ 3 → 0 ≤ V 2 k ∧ V 2 k ≤ 11) ∧ (V 1 k = 4 → 1 ≤ V 2 k ∧ V 2 k ≤ 20) ∧ (V 1 k = 5 → V 2 k = 0)
theorem sgS_0 {s : Int} {x : Int × Int} (h : (sgS b l s x).2 = 0) : x.2 = 0 ∧ (sgS b l s x).1 = x.1 + 1 := by
  unfold sgS at h ⊢
  by_cases y : x.2 = 0
  · have y' : ¬ x.2 ≠ 0 := fun w => w y
    rw [if_neg y'] at h ⊢
    by_cases z : x.1 < l ∧ b x.1 = s
    · rw [if_pos z]; exact ⟨y, rfl⟩
    · rw [if_neg z] at h; exact absurd h (by show ¬ (1 : Int) = 0; decide)
  · rw [if_pos y] at h; exact absurd h y
theorem nmS_0 {lo hi : Int} {x : Int × Int} (h : (nmS b l lo hi x).2 = 0) : x.2 = 0 ∧ lo ≤ nmV b l x ∧ nmV b l x ≤ hi ∧ x.1 + 1 ≤ (nmS b l lo hi x).1 := by
  unfold nmS at h ⊢
  by_cases y : x.2 = 0
  · have y' : ¬ x.2 ≠ 0 := fun w => w y
    rw [if_neg y'] at h ⊢
    by_cases z : nd3 b l x.1 = 0 ∨ nd3 b l x.1 = 3
    · rw [if_pos z] at h; exact absurd h (by show ¬ (1 : Int) = 0; decide)
    · rw [if_neg z] at h ⊢
      by_cases w : nmV b l x < lo ∨ hi < nmV b l x
      · rw [if_pos w] at h; exact absurd h (by show ¬ (2 : Int) = 0; decide)
      · rw [if_neg w]
        refine ⟨y, by omega, by omega, ?_⟩
        show x.1 + 1 ≤ x.1 + nd3 b l x.1
        omega
  · rw [if_pos y] at h; exact absurd h y
theorem noS_0 {kd : Int} {x : Int × Int} (h : (noS b l kd x).2 = 0) : x.2 = 0 ∧ x.1 ≤ (noS b l kd x).1 ∧ (kd ≠ 5 → kd = 4 → 1 ≤ noV b l kd x ∧ noV b l kd x ≤ 20) ∧ (kd ≠ 5 → kd ≠ 4 → 0 ≤ noV b l kd x ∧ noV b l kd x ≤ 11) := by
  unfold noS noV at *
  by_cases y : kd = 5
  · rw [if_pos y] at h
    rw [if_pos y, if_pos y]
    exact ⟨h, Int.le_refl _, fun z => absurd y z, fun z => absurd y z⟩
  · rw [if_neg y] at h
    rw [if_neg y, if_neg y]
    by_cases z : kd = 4
    · rw [if_pos z] at h ⊢
      obtain ⟨a, c, d, e⟩ := nmS_0 h
      exact ⟨a, by omega, fun _ _ => ⟨c, d⟩, fun _ w => absurd z w⟩
    · rw [if_neg z] at h ⊢
      obtain ⟨a, c, d, e⟩ := nmS_0 h
      exact ⟨a, by omega, fun _ w => absurd w z, fun _ _ => ⟨c, d⟩⟩
theorem kdS_b2 {c : Int} (h : kdS c ≠ -1000000) : 1 ≤ kdS c ∧ kdS c ≤ 5 ∧ 97 ≤ c ∧ c ≤ 122 := by
  unfold kdS at h ⊢
  by_cases a : c = 116
  · rw [if_pos a]; omega
  · rw [if_neg a] at h ⊢
    by_cases a2 : c = 107
    · rw [if_pos a2]; omega
    · rw [if_neg a2] at h ⊢
      by_cases a3 : c = 114
      · rw [if_pos a3]; omega
      · rw [if_neg a3] at h ⊢
        by_cases a4 : c = 109
        · rw [if_pos a4]; omega
        · rw [if_neg a4] at h ⊢
          by_cases a5 : c = 102
          · rw [if_pos a5]; omega
          · rw [if_neg a5] at h; exact absurd rfl h
/-- one item more -/
def addV (V : VW) (kd nv : Int) : VW := setV (setV (setV V 1 (V 0 0) kd) 2 (V 0 0) nv) 0 0 (V 0 0 + 1)
theorem addV_00 {V : VW} {kd nv : Int} : addV V kd nv 0 0 = V 0 0 + 1 := setV_at
theorem addV_0k {V : VW} {kd nv k : Int} (h : k ≠ 0) : addV V kd nv 0 k = V 0 k := by unfold addV; rw [setV_ne (by omega), setV_ne (by omega), setV_ne (by omega)]
theorem addV_1 {V : VW} {kd nv k : Int} : addV V kd nv 1 k = if k = V 0 0 then kd else V 1 k := by
  unfold addV
  rw [setV_ne (by omega), setV_ne (by omega)]
  by_cases y : k = V 0 0
  · rw [if_pos y, y]; exact setV_at
  · rw [if_neg y, setV_ne (by omega)]
theorem addV_2 {V : VW} {kd nv k : Int} : addV V kd nv 2 k = if k = V 0 0 then nv else V 2 k := by
  unfold addV
  rw [setV_ne (by omega)]
  by_cases y : k = V 0 0
  · rw [if_pos y, y]; exact setV_at
  · rw [if_neg y, setV_ne (by omega), setV_ne (by omega)]
theorem itS_1 {p : Int} {V : VW} (h : kdS (if p < l then b p else 32) = -1000000) : itS b l ((p, 0), V) = ((p, 1), V) := if_pos h
theorem itS_2 {p : Int} {V : VW} (h : kdS (if p < l then b p else 32) ≠ -1000000) (c : 12 ≤ V 0 0) : itS b l ((p, 0), V) = ((p, 3), V) := (if_neg h).trans (if_pos c)
theorem itS_3 {p : Int} {V : VW} (h : kdS (if p < l then b p else 32) ≠ -1000000) (c : ¬ 12 ≤ V 0 0) : itS b l ((p, 0), V) = (sgS b l 59 (noS b l (kdS (if p < l then b p else 32)) (p + 1, 0)), addV V (kdS (if p < l then b p else 32)) (noV b l (kdS (if p < l then b p else 32)) (p + 1, 0))) := (if_neg h).trans (if_neg c)
theorem itS_ok {p : Int} {V : VW} (h0 : 0 ≤ V 0 0) (hP : PV V) (h : (itS b l ((p, 0), V)).1.2 = 0) : PV (itS b l ((p, 0), V)).2 ∧ p + 1 ≤ (itS b l ((p, 0), V)).1.1 ∧ (∀ k, k ≠ 0 → (itS b l ((p, 0), V)).2 0 k = V 0 k) ∧ (itS b l ((p, 0), V)).2 0 0 = V 0 0 + 1 ∧ V 0 0 < 12 := by
  by_cases a : kdS (if p < l then b p else 32) = -1000000
  · rw [itS_1 a] at h; exact absurd h (by show ¬ (1 : Int) = 0; decide)
  · by_cases c : 12 ≤ V 0 0
    · rw [itS_2 a c] at h; exact absurd h (by show ¬ (3 : Int) = 0; decide)
    · rw [itS_3 a c] at h ⊢
      have kb := kdS_b2 a
      generalize kdS (if p < l then b p else 32) = kd at *
      obtain ⟨s1, s2⟩ := sgS_0 h
      obtain ⟨n1, n2, n3, n4⟩ := noS_0 s1
      refine ⟨fun k k0 k1 => ?_, ?_, fun k hk => addV_0k hk, addV_00 (kd := kd) (nv := noV b l kd (p + 1, 0)), by omega⟩
      · dsimp only at k1 ⊢
        rw [addV_1, addV_2]
        rw [addV_00] at k1
        by_cases y : k = V 0 0
        · rw [if_pos y, if_pos y]
          refine ⟨kb.1, kb.2.1, fun z => n4 (by omega) (by omega), fun z => n3 (by omega) z, fun z => by unfold noV; rw [if_pos z]⟩
        · rw [if_neg y, if_neg y]
          exact hP k k0 (by omega)
      · show p + 1 ≤ (sgS b l 59 (noS b l kd (p + 1, 0))).1
        rw [s2]
        have : (p + 1, (0 : Int)).1 ≤ (noS b l kd (p + 1, 0)).1 := n2
        have e : (p + 1, (0 : Int)).1 = p + 1 := rfl
        omega
theorem itN_f {V : VW} {x : Int × Int} (h : x.2 ≠ 0) : ∀ n : Nat, itN b l n (x, V) = (x, V)
  | 0 => rfl
  | n + 1 => if_neg (fun z => h z.1)
theorem itN_ok : ∀ (n : Nat) (p : Int) (V : VW), 0 ≤ V 0 0 → V 0 0 ≤ 12 → PV V → 0 ≤ p → p ≤ l → l - p < n → (itN b l n ((p, 0), V)).1.2 = 0 → PV (itN b l n ((p, 0), V)).2 ∧ (∀ k, k ≠ 0 → (itN b l n ((p, 0), V)).2 0 k = V 0 k) ∧ 1 ≤ (itN b l n ((p, 0), V)).2 0 0 ∧ (itN b l n ((p, 0), V)).2 0 0 ≤ 12
  | 0, p, V, v0, v12, hP, pp, hp, hn, h => absurd hn (by omega)
  | n + 1, p, V, v0, v12, hP, pp, hp, hn, h => by
    have e : itN b l (n + 1) ((p, 0), V) = if (0 : Int) = 0 ∧ (p < l ∨ V 0 0 = 0) then itN b l n (itS b l ((p, 0), V)) else ((p, 0), V) := rfl
    rw [e] at h ⊢
    by_cases c : (0 : Int) = 0 ∧ (p < l ∨ V 0 0 = 0)
    · rw [if_pos c] at h ⊢
      have it : itS b l ((p, 0), V) = ((itS b l ((p, 0), V)).1, (itS b l ((p, 0), V)).2) := rfl
      by_cases f : (itS b l ((p, 0), V)).1.2 = 0
      · obtain ⟨a1, a2, a3, a4, a5⟩ := itS_ok v0 hP f
        have ep : itS b l ((p, 0), V) = (((itS b l ((p, 0), V)).1.1, 0), (itS b l ((p, 0), V)).2) := Prod.ext (Prod.ext rfl f) rfl
        have bd := itS_b (b := b) (l := l) (s := ((p, 0), V))
        rw [ep] at h ⊢
        have bb := bd pp hp v0 v12
        obtain ⟨q1, q2, q3, q4⟩ := itN_ok n _ _ (by rw [a4]; omega) (by rw [a4]; omega) a1 bb.1 bb.2.1 (by omega) h
        exact ⟨q1, fun k hk => by rw [q2 k hk, a3 k hk], q3, q4⟩
      · rw [it, itN_f f] at h
        exact absurd h f
    · rw [if_neg c]
      exact ⟨hP, fun _ _ => rfl, by show 1 ≤ V 0 0; omega, v12⟩
theorem law_ok (h : (lw4 b l).2 = 0) : (4 ≤ nmV b l (lw1 b l) ∧ nmV b l (lw1 b l) ≤ 20) ∧ (1 ≤ nmV b l (lw2 b l) ∧ nmV b l (lw2 b l) ≤ 5) ∧ (1 ≤ nmV b l (lw3 b l) ∧ nmV b l (lw3 b l) ≤ 87) ∧ 1 ≤ (lw4 b l).1 ∧ (lw1 b l).2 = 0 ∧ (nmS b l 4 20 (lw1 b l)).2 = 0 ∧ (lw2 b l).2 = 0 ∧ (nmS b l 1 5 (lw2 b l)).2 = 0 ∧ (lw3 b l).2 = 0 ∧ (nmS b l 1 87 (lw3 b l)).2 = 0 := by
  obtain ⟨a1, a2⟩ := sgS_0 (show (sgS b l 59 (nmS b l 1 87 (lw3 b l))).2 = 0 from h)
  obtain ⟨c1, c2, c3, c4⟩ := nmS_0 a1
  obtain ⟨d1, d2⟩ := sgS_0 (show (sgS b l 44 (nmS b l 1 5 (lw2 b l))).2 = 0 from c1)
  obtain ⟨e1, e2, e3, e4⟩ := nmS_0 d1
  obtain ⟨f1, f2⟩ := sgS_0 (show (sgS b l 44 (nmS b l 4 20 (lw1 b l))).2 = 0 from e1)
  obtain ⟨g1, g2, g3, g4⟩ := nmS_0 f1
  obtain ⟨i1, i2⟩ := sgS_0 (show (sgS b l 119 (0, 0)).2 = 0 from g1)
  have j1 : (lw1 b l).1 = 0 + 1 := i2
  have j2 : (lw2 b l).1 = (nmS b l 4 20 (lw1 b l)).1 + 1 := f2
  have j3 : (lw3 b l).1 = (nmS b l 1 5 (lw2 b l)).1 + 1 := d2
  have j4 : (lw4 b l).1 = (nmS b l 1 87 (lw3 b l)).1 + 1 := a2
  exact ⟨⟨g2, g3⟩, ⟨e2, e3⟩, ⟨c2, c3⟩, by omega, g1, f1, e1, d1, c1, a1⟩
theorem lwV_00 : lwV b l 0 0 = 0 := rfl
theorem ps_0 (h : (psS b l).1.2 = 0) : (lw4 b l).2 = 0 := by
  by_cases y : (lw4 b l).2 = 0
  · exact y
  · exfalso
    have : psS b l = (lw4 b l, lwV b l) := itN_f y l.toNat
    rw [this] at h
    exact y h
theorem ps_ok (l0 : 0 ≤ l) (h : (psS b l).1.2 = 0) : PV (psS b l).2 ∧ (∀ k, k ≠ 0 → (psS b l).2 0 k = lwV b l 0 k) ∧ 1 ≤ (psS b l).2 0 0 ∧ (psS b l).2 0 0 ≤ 12 := by
  have w := ps_0 h
  obtain ⟨-, -, -, w4, -⟩ := law_ok w
  have lb := (lw_b (b := b) l0).2.2.2
  have e : psS b l = itN b l l.toNat (((lw4 b l).1, 0), lwV b l) := by
    exact congrArg (fun z => itN b l l.toNat (z, lwV b l)) (Prod.ext rfl w : lw4 b l = ((lw4 b l).1, 0))
  rw [e] at h ⊢
  exact itN_ok l.toNat _ _ (by rw [lwV_00]; omega) (by rw [lwV_00]; omega) (fun k k0 k1 => by rw [lwV_00] at k1; omega) lb.1 lb.2 (by omega) h
theorem lkS_iff {V : VW} : ∀ n : Nat, lkS V n = true ↔ ∀ i : Nat, i < n → mbn (V 0 0) (V 1 i) (V 2 i)
  | 0 => ⟨fun _ i hi => absurd hi (Nat.not_lt_zero i), fun _ => rfl⟩
  | n + 1 => by
    show (lkS V n && decide (mbn (V 0 0) (V 1 n) (V 2 n))) = true ↔ _
    rw [Bool.and_eq_true, decide_eq_true_eq, lkS_iff n]
    constructor
    · rintro ⟨a, c⟩ i hi
      by_cases e : i = n
      · subst e; exact c
      · exact a i (by omega)
    · intro a
      exact ⟨fun i hi => a i (by omega), a n (by omega)⟩
/-- what is read without a fault is a sheet -/
theorem ps_wf (l0 : 0 ≤ l) (h : psF b l = 0) : WFs (bgn (psS b l).2) ∧ (psS b l).1.2 = 0 ∧ (∀ k : Int, 0 ≤ k → k < (psS b l).2 0 0 → (psS b l).2 1 k = 5 → (psS b l).2 2 k = 0) := by
  have h2 : (psS b l).1.2 = 0 := by
    unfold psF at h
    by_cases y : (psS b l).1.2 = 0
    · exact y
    · rw [if_pos y] at h; exact absurd h y
  have h3 : lkS (psS b l).2 ((psS b l).2 0 0).toNat = true := by
    unfold psF at h
    rw [if_neg (fun y => y h2)] at h
    by_cases y : lkS (psS b l).2 ((psS b l).2 0 0).toNat = true
    · exact y
    · rw [if_neg y] at h; exact absurd h (by decide)
  obtain ⟨p1, p2, p3, p4⟩ := ps_ok l0 h2
  obtain ⟨q1, q2, q3, -⟩ := law_ok (ps_0 h2)
  have k1 : (psS b l).2 0 1 = nmV b l (lw1 b l) := p2 1 (by decide)
  have k2 : (psS b l).2 0 2 = nmV b l (lw2 b l) := p2 2 (by decide)
  have k3 : (psS b l).2 0 3 = nmV b l (lw3 b l) := p2 3 (by decide)
  have k4 : (psS b l).2 0 4 = 0 := p2 4 (by decide)
  have lk := (lkS_iff _).mp h3
  refine ⟨Or.inr ⟨?_, by rw [bgn_0 (by decide) (by decide), k4]; omega, by rw [bgn_0 (by decide) (by decide), k4]; omega, cut_cut _⟩, h2, fun k k0 k5 => (p1 k k0 k5).2.2.2.2⟩
  unfold WFv
  rw [bgn_0 (by decide) (by decide), bgn_0 (by decide) (by decide), bgn_0 (by decide) (by decide), bgn_0 (by decide) (by decide), k1, k2, k3]
  refine ⟨p3, p4, q1.1, q1.2, q2.1, q2.2, q3.1, q3.2, fun i i0 i1 => ?_⟩
  rw [bgn_j (j := 1) (by omega) i0 i1, bgn_j (j := 2) (by omega) i0 i1, bgn_j (j := 3) (by omega) i0 i1, bgn_j (j := 4) (by omega) i0 i1, if_neg (by decide), if_neg (by decide), if_neg (by decide), if_neg (by decide), if_pos rfl, if_neg (by decide), if_pos rfl, k3]
  obtain ⟨o1, o2, o3, o4, o5⟩ := p1 i i0 i1
  have m := lk i.toNat (by omega)
  rw [am_nat i0] at m
  unfold mbn at m
  exact ⟨o1, o2, fun z => by have := o3 z; omega, o4, q3.1, by omega, by omega, by omega⟩
end PA2
