/-! what a sheet is, by numbers alone: V 0: items, width, lines, first, rounds; V 1 kinds; V 2 numbers; V 3 guesses; V 4 frozen -/
abbrev VW : Type := Nat → Int → Int
def cut (V : VW) : VW := fun j k => if j = 0 then (if 0 ≤ k ∧ k < 5 then V 0 k else 0) else if j < 5 ∧ 0 ≤ k ∧ k < V 0 0 then V j k else 0
/-- a sheet of the program -/
def cV (h : Mem) (a : Nat) : VW := cut (fun j k => h (a + j) k)
/-- a sheet of the reference: 53 numbers from o on -/
def mS (h : Mem) (a : Nat) (o : Int) : VW := fun j k => if j = 0 then (if k = 0 then h a (o + 3) else if k = 1 then h a o else if k = 2 then h a (o + 1) else if k = 3 then h a (o + 2) else h a (o + 4)) else h a (o + 5 + 4 * k + ((j : Int) - 1))
def mV (h : Mem) (a : Nat) (o : Int) : VW := cut (mS h a o)
theorem cut_0 {V : VW} {k : Int} (h0 : 0 ≤ k) (h1 : k < 5) : cut V 0 k = V 0 k := by unfold cut; rw [if_pos rfl, if_pos ⟨h0, h1⟩]
theorem cut_j {V : VW} {j : Nat} {k : Int} (hj : j ≠ 0) (hj5 : j < 5) (h0 : 0 ≤ k) (h1 : k < V 0 0) : cut V j k = V j k := by unfold cut; rw [if_neg hj, if_pos ⟨hj5, h0, h1⟩]
theorem cut_eq {V W : VW} (h0 : ∀ k, 0 ≤ k → k < 5 → V 0 k = W 0 k) (h1 : ∀ (j : Nat) (k : Int), j ≠ 0 → j < 5 → 0 ≤ k → k < V 0 0 → V j k = W j k) : cut V = cut W := by
  funext j k
  unfold cut
  have e : V 0 0 = W 0 0 := h0 0 (by omega) (by omega)
  by_cases hj : j = 0
  · rw [if_pos hj, if_pos hj]
    by_cases hk : 0 ≤ k ∧ k < 5
    · rw [if_pos hk, if_pos hk]; exact h0 k hk.1 hk.2
    · rw [if_neg hk, if_neg hk]
  · rw [if_neg hj, if_neg hj, ← e]
    by_cases hk : j < 5 ∧ 0 ≤ k ∧ k < V 0 0
    · rw [if_pos hk, if_pos hk]; exact h1 j k hj hk.1 hk.2.1 hk.2.2
    · rw [if_neg hk, if_neg hk]
theorem cut_cut (V : VW) : cut (cut V) = cut V := cut_eq (fun k h0 h1 => cut_0 h0 h1) (fun j k hj h5 h0 h1 => cut_j hj h5 h0 (by rwa [cut_0 (by omega) (by omega)] at h1))
theorem cV0 {h : Mem} {a : Nat} {k : Int} (h0 : 0 ≤ k) (h1 : k < 5) : cV h a 0 k = h a k := cut_0 h0 h1
theorem cVc {h : Mem} {a : Nat} : cV h a 0 0 = h a 0 := cut_0 (by omega) (by omega)
theorem cVw {h : Mem} {a : Nat} : cV h a 0 1 = h a 1 := cut_0 (by omega) (by omega)
theorem cVl {h : Mem} {a : Nat} : cV h a 0 2 = h a 2 := cut_0 (by omega) (by omega)
theorem cVf {h : Mem} {a : Nat} : cV h a 0 3 = h a 3 := cut_0 (by omega) (by omega)
theorem cVr {h : Mem} {a : Nat} : cV h a 0 4 = h a 4 := cut_0 (by omega) (by omega)
theorem cV1 {h : Mem} {a : Nat} {i : Int} (h0 : 0 ≤ i) (h1 : i < h a 0) : cV h a 1 i = h (a + 1) i := cut_j (by omega) (by omega) h0 h1
theorem cV2 {h : Mem} {a : Nat} {i : Int} (h0 : 0 ≤ i) (h1 : i < h a 0) : cV h a 2 i = h (a + 2) i := cut_j (by omega) (by omega) h0 h1
theorem cV3 {h : Mem} {a : Nat} {i : Int} (h0 : 0 ≤ i) (h1 : i < h a 0) : cV h a 3 i = h (a + 3) i := cut_j (by omega) (by omega) h0 h1
theorem cV4 {h : Mem} {a : Nat} {i : Int} (h0 : 0 ≤ i) (h1 : i < h a 0) : cV h a 4 i = h (a + 4) i := cut_j (by omega) (by omega) h0 h1
theorem mVc {h : Mem} {a : Nat} {o : Int} : mV h a o 0 0 = h a (o + 3) := cut_0 (by omega) (by omega)
theorem mVw {h : Mem} {a : Nat} {o : Int} : mV h a o 0 1 = h a o := cut_0 (by omega) (by omega)
theorem mVl {h : Mem} {a : Nat} {o : Int} : mV h a o 0 2 = h a (o + 1) := cut_0 (by omega) (by omega)
theorem mVf {h : Mem} {a : Nat} {o : Int} : mV h a o 0 3 = h a (o + 2) := cut_0 (by omega) (by omega)
theorem mVr {h : Mem} {a : Nat} {o : Int} : mV h a o 0 4 = h a (o + 4) := cut_0 (by omega) (by omega)
theorem mV1 {h : Mem} {a : Nat} {o i : Int} (h0 : 0 ≤ i) (h1 : i < h a (o + 3)) : mV h a o 1 i = h a (o + 5 + 4 * i) := (cut_j (by omega) (by omega) h0 h1).trans (congrArg (h a) (by omega))
theorem mV2 {h : Mem} {a : Nat} {o i : Int} (h0 : 0 ≤ i) (h1 : i < h a (o + 3)) : mV h a o 2 i = h a (o + 5 + 4 * i + 1) := (cut_j (by omega) (by omega) h0 h1).trans (congrArg (h a) (by omega))
theorem mV3 {h : Mem} {a : Nat} {o i : Int} (h0 : 0 ≤ i) (h1 : i < h a (o + 3)) : mV h a o 3 i = h a (o + 5 + 4 * i + 2) := (cut_j (by omega) (by omega) h0 h1).trans (congrArg (h a) (by omega))
theorem mV4 {h : Mem} {a : Nat} {o i : Int} (h0 : 0 ≤ i) (h1 : i < h a (o + 3)) : mV h a o 4 i = h a (o + 5 + 4 * i + 3) := (cut_j (by omega) (by omega) h0 h1).trans (congrArg (h a) (by omega))
/-- as the document has it, but for the count of rounds -/
def WFv (V : VW) : Prop := 1 ≤ V 0 0 ∧ V 0 0 ≤ 12 ∧ 4 ≤ V 0 1 ∧ V 0 1 ≤ 20 ∧ 1 ≤ V 0 2 ∧ V 0 2 ≤ 5 ∧ 1 ≤ V 0 3 ∧ V 0 3 ≤ 87 ∧ ∀ i, 0 ≤ i → i < V 0 0 → 1 ≤ V 1 i ∧ V 1 i ≤ 5 ∧ (V 1 i ≤ 3 → 0 ≤ V 2 i ∧ V 2 i < V 0 0) ∧ (V 1 i = 4 → 1 ≤ V 2 i ∧ V 2 i ≤ 20) ∧ 1 ≤ V 3 i ∧ V 3 i ≤ 98 ∧ 0 ≤ V 4 i ∧ V 4 i ≤ 20
/-! widths -/
def rs (f : Int) : Int := if f = 9 ∨ f = 4 then 2 else if 4 < f then f - 4 else f
def sgn (kind page : Int) : Int := if kind = 2 then rs (page / 10) + rs (page % 10) else if kind = 3 then (if page < 10 then 1 else 2) + 1 else (if page < 10 then 1 else 2)
def wdg (V : VW) (g : Int → Int) (i : Int) : Int := if V 1 i = 4 then V 2 i else if V 1 i = 5 then 0 else if V 4 i < sgn (V 1 i) (g (V 2 i)) then sgn (V 1 i) (g (V 2 i)) else V 4 i
def wd (V : VW) (i : Int) : Int := wdg V (V 3) i
theorem rs_bd {f : Int} (h0 : 0 ≤ f) (h1 : f ≤ 9) : 0 ≤ rs f ∧ rs f ≤ 4 := by
  unfold rs
  split
  · omega
  · split <;> omega
theorem sgn_bd {k p : Int} (h0 : 0 ≤ p) (h1 : p ≤ 99) : 0 ≤ sgn k p ∧ sgn k p ≤ 8 := by
  unfold sgn
  have a := rs_bd (f := p / 10) (by omega) (by omega)
  have b := rs_bd (f := p % 10) (by omega) (by omega)
  split
  · omega
  · split <;> split <;> omega
theorem wdg_bd {V : VW} {g : Int → Int} {i : Int} (hV : WFv V) (hg : ∀ k, 0 ≤ k → k < V 0 0 → 0 ≤ g k ∧ g k ≤ 99) (h0 : 0 ≤ i) (h1 : i < V 0 0) : 0 ≤ wdg V g i ∧ wdg V g i ≤ 20 := by
  obtain ⟨-, -, -, -, -, -, -, -, hi⟩ := hV
  obtain ⟨k1, k2, k3, k4, k5, k6, k7, k8⟩ := hi i h0 h1
  unfold wdg
  by_cases e4 : V 1 i = 4
  · rw [if_pos e4]
    have := k4 e4
    omega
  · rw [if_neg e4]
    by_cases e5 : V 1 i = 5
    · rw [if_pos e5]; omega
    · rw [if_neg e5]
      have h3 := k3 (by omega)
      have h4 := hg _ h3.1 h3.2
      have h5 := sgn_bd (k := V 1 i) h4.1 h4.2
      split <;> omega
theorem wd_bd {V : VW} {i : Int} (hV : WFv V) (h0 : 0 ≤ i) (h1 : i < V 0 0) : 0 ≤ wd V i ∧ wd V i ≤ 20 := wdg_bd hV (fun k g0 g1 => by
  obtain ⟨-, -, -, -, -, -, -, -, hi⟩ := hV
  obtain ⟨-, -, -, -, k5, k6, -⟩ := hi k g0 g1
  omega) h0 h1
/-! set out: page, line, column ahead of an item; x: how much wider -/
def plc (V : VW) (x : Int → Int) (i : Int) (s : Int × Int × Int) : Int × Int × Int := if V 1 i ≠ 5 ∧ 0 < s.2.2 ∧ V 0 1 < s.2.2 + (wd V i + x i) then (if V 0 2 ≤ s.2.1 + 1 then (s.1 + 1, 0, 0) else (s.1, s.2.1 + 1, 0)) else s
def nxt (V : VW) (x : Int → Int) (i : Int) (s : Int × Int × Int) : Int × Int × Int := if V 1 i = 5 then ((plc V x i s).1 + 1, 0, 0) else ((plc V x i s).1, (plc V x i s).2.1, (plc V x i s).2.2 + (wd V i + x i))
def pst (V : VW) (x : Int → Int) : Nat → Int × Int × Int
  | 0 => (V 0 3, 0, 0)
  | n + 1 => nxt V x (n : Int) (pst V x n)
def stand (V : VW) (x : Int → Int) (i : Int) : Int × Int × Int := plc V x i (pst V x i.toNat)
def zz : Int → Int := fun _ => 0
abbrev pag (V : VW) (i : Int) : Int := (stand V zz i).1
theorem pst_bd {V : VW} {x : Int → Int} (hV : WFv V) (hx : ∀ i, 0 ≤ i → 0 ≤ x i ∧ x i ≤ 1) : ∀ n : Nat, (n : Int) ≤ V 0 0 → V 0 3 ≤ (pst V x n).1 ∧ (pst V x n).1 ≤ V 0 3 + n ∧ (0 < (pst V x n).2.2 → (pst V x n).1 ≤ V 0 3 + n - 1) ∧ 0 ≤ (pst V x n).2.1 ∧ (pst V x n).2.1 < V 0 2 ∧ 0 ≤ (pst V x n).2.2 ∧ (pst V x n).2.2 ≤ 21 * n
  | 0, _ => by
    have := hV.2.2.2.2.1
    simp only [pst]
    omega
  | n + 1, hn => by
    obtain ⟨a1, a2, a3, a4, a5, a6, a7⟩ := pst_bd hV hx n (by omega)
    have hw := wd_bd hV (i := (n : Int)) (by omega) (by omega)
    have hx2 := hx n (by omega)
    have hl := hV.2.2.2.2.1
    show V 0 3 ≤ (nxt V x n (pst V x n)).1 ∧ _
    simp only [pst]
    unfold nxt plc
    split <;> split <;> (try split) <;> simp only [] <;> omega
theorem plc_bd {V : VW} {x : Int → Int} (hV : WFv V) (hx : ∀ i, 0 ≤ i → 0 ≤ x i ∧ x i ≤ 1) {n : Nat} (hn : (n : Int) < V 0 0) : V 0 3 ≤ (plc V x n (pst V x n)).1 ∧ (plc V x n (pst V x n)).1 ≤ V 0 3 + n ∧ 0 ≤ (plc V x n (pst V x n)).2.1 ∧ (plc V x n (pst V x n)).2.1 < V 0 2 ∧ 0 ≤ (plc V x n (pst V x n)).2.2 ∧ (plc V x n (pst V x n)).2.2 ≤ 21 * n := by
  obtain ⟨a1, a2, a3, a4, a5, a6, a7⟩ := pst_bd hV hx n (by omega)
  have hl := hV.2.2.2.2.1
  unfold plc
  split <;> (try split) <;> (try simp only []) <;> omega
theorem pag_bd {V : VW} (hV : WFv V) {i : Int} (h0 : 0 ≤ i) (h1 : i < V 0 0) : 1 ≤ pag V i ∧ pag V i ≤ 98 := by
  have hp := plc_bd (x := zz) hV (fun _ _ => by unfold zz; omega) (n := i.toNat) (by omega)
  obtain ⟨-, c2, -, -, -, -, c3, c4, -⟩ := hV
  unfold pag stand
  rw [am_nat h0] at hp
  omega
theorem pst_congr {V : VW} {x y : Int → Int} : ∀ n : Nat, (∀ i : Nat, i < n → x i = y i) → pst V x n = pst V y n
  | 0, _ => rfl
  | n + 1, h => by
    show nxt V x n _ = nxt V y n _
    rw [pst_congr n (fun i hi => h i (by omega))]
    unfold nxt plc
    rw [h n (by omega)]
theorem stand_congr {V : VW} {x y : Int → Int} {i : Int} (h0 : 0 ≤ i) (h : ∀ k : Int, 0 ≤ k → k ≤ i → x k = y k) : stand V x i = stand V y i := by
  unfold stand
  rw [pst_congr i.toNat (fun k hk => h k (by omega) (by omega))]
  unfold plc
  rw [h i h0 (by omega)]
/-! rounds -/
def rnd (V : VW) : VW := fun j k => if j = 3 ∧ 0 ≤ k ∧ k < V 0 0 then pag V k else V j k
def chg (V : VW) : Nat → Int
  | 0 => 0
  | n + 1 => chg V n + (if V 3 n = pag V n then 0 else 1)
def eqg (f g : Int → Int) : Nat → Bool
  | 0 => true
  | n + 1 => eqg f g n && decide (f n = g n)
def stl (V : VW) : Bool := eqg (V 3) (pag V) (V 0 0).toNat
/-- so many rounds more are counted -/
def addR (V : VW) (r : Int) : VW := fun j k => if j = 0 ∧ k = 4 then V 0 4 + r else V j k
theorem eqg_iff {f g : Int → Int} : ∀ {n : Nat}, eqg f g n = true ↔ ∀ i : Nat, i < n → f i = g i
  | 0 => by simp [eqg]
  | n + 1 => by
    simp only [eqg, Bool.and_eq_true, decide_eq_true_eq, eqg_iff (n := n)]
    constructor
    · rintro ⟨h1, h2⟩ i hi
      by_cases e : i = n
      · rw [e]; exact h2
      · exact h1 i (by omega)
    · intro h
      exact ⟨fun i hi => h i (by omega), h n (by omega)⟩
theorem rnd_wf {V : VW} (hV : WFv V) : WFv (rnd V) := by
  obtain ⟨c1, c2, c3, c4, c5, c6, c7, c8, hi⟩ := id hV
  refine ⟨c1, c2, c3, c4, c5, c6, c7, c8, fun i h0 h1 => ?_⟩
  obtain ⟨k1, k2, k3, k4, k5, k6, k7, k8⟩ := hi i h0 h1
  have e : rnd V 3 i = pag V i := if_pos ⟨rfl, h0, h1⟩
  have hp := pag_bd hV h0 h1
  refine ⟨k1, k2, k3, k4, ?_, ?_, k7, k8⟩ <;> rw [e] <;> omega
