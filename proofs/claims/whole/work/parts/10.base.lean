/-! The plain machine: values are whole numbers and places of cells; a state is a memory of numbers (cell, place), and what shapes and references the cells have. A judgement AW over it gives the kit's W. -/
abbrev AV : Type := (Bool × Int) ⊕ Option Nat
abbrev vI (i : Int) : AV := .inl (false, i)
abbrev vL (i : Int) : AV := .inl (true, i)
abbrev vQ (r : Option Nat) : AV := .inr r
abbrev vR (a : Nat) : AV := .inr (some a)
/-- how many cells there are, each one's kind and size, the references -/
abbrev Tp : Type := Nat × (Nat → Nat × Nat) × (Nat → Int → Option Nat)
abbrev Mem : Type := Nat → Int → Int
/-- the heap at the law's start; numbers of kinds and slots; array kinds; the four given rows: where, shape, contents -/
abbrev GX : Type := Heap × va_G × (Nat → ClassId) × (Nat → Nat) × (Nat → Nat × Nat) × (Nat → Int → Int)
/-- a method: name, code, locals, answer, its owner, frames, words -/
abbrev MI : Type := MethodName × ByteArray × Nat × Option FieldType × String × Nat × Nat
theorem ao_moved {u U : State} (hvm : u.vm.Alike U.vm) (h : (Cond.arrayOver (.array .int)).before #[] u = true) : (Cond.arrayOver (.array .int)).before #[] U = true := by
  have hi : ∀ comp : ClassId, (U.vm.classes.findIdx? fun (x : Class) => match x.kind with | .array component _ => component == comp | _ => false) = (u.vm.classes.findIdx? fun (x : Class) => match x.kind with | .array component _ => component == comp | _ => false) := by
    intro comp
    have hb : U.vm.bare = u.vm.bare := by first | exact hvm.bare_eq | exact hvm.bare_eq.symm
    exact (va_idx_bare U.vm comp).symm.trans ((congrArg (fun v : Vm => v.classes.findIdx? fun (x : Class) => match x.kind with | .array component _ => component == comp | _ => false) hb).trans (va_idx_bare u.vm comp))
  have e1 : ∀ n : String, U.vm.findClass n = u.vm.findClass n := fun n => by rw [hvm.findClass]
  unfold Cond.before Cond.holds at h ⊢
  simp only [Cond.value] at h ⊢
  rw [e1, e1]
  cases hc : u.vm.findClass (FieldType.array .int).toString with
  | none => rw [hc] at h; exact absurd h (by simp)
  | some comp =>
    rw [hc, Option.bind_some] at h
    rw [Option.bind_some]
    refine (congrArg (fun o : Option Nat => (o.bind (fun c => (U.vm.classes[c]?).map fun (k : Class) => match k.kind with | .array _ ty => decide (ty = FieldType.array .int) && decide (u.vm.findClass ("[" ++ (FieldType.array .int).toString) = some c) | _ => false) == some true)) (hi comp)).trans ?_
    cases hx : (u.vm.classes.findIdx? fun (x : Class) => match x.kind with | .array component _ => component == comp | _ => false) with
    | none =>
      have h2 := (congrArg (fun o : Option Nat => (o.bind (fun c => (u.vm.classes[c]?).map fun (k : Class) => match k.kind with | .array _ ty => decide (ty = FieldType.array .int) && decide (u.vm.findClass ("[" ++ (FieldType.array .int).toString) = some c) | _ => false) == some true)) hx).symm.trans h
      exact absurd h2 (by simp)
    | some c =>
      have h2 := (congrArg (fun o : Option Nat => (o.bind (fun c => (u.vm.classes[c]?).map fun (k : Class) => match k.kind with | .array _ ty => decide (ty = FieldType.array .int) && decide (u.vm.findClass ("[" ++ (FieldType.array .int).toString) = some c) | _ => false) == some true)) hx).symm.trans h
      simp only [Option.bind_some] at h2 ⊢
      cases hk : u.vm.classes[c]? with
      | none => rw [hk] at h2; exact absurd h2 (by simp)
      | some k =>
        obtain ⟨k', hk', he⟩ := hvm.2.2 _ _ hk
        rw [hk] at h2
        rw [hk']
        simp only [Option.map_some] at h2 ⊢
        rw [he]
        exact h2
def nlw : List Cond := [Cond.methodLinkNest "RefsSettle" 22 ⟨"RefsSettle$Reader", "<init>", "()V"⟩ "RefsSettle", Cond.methodLinkNest "RefsSettle" 29 ⟨"RefsSettle$Sheet", "<init>", "()V"⟩ "RefsSettle", Cond.methodLinkNest "RefsSettle" 39 ⟨"RefsSettle$Settling", "<init>", "()V"⟩ "RefsSettle", Cond.methodLinkNest "RefsSettle$Settling" 11 ⟨"RefsSettle$Outline", "<init>", "()V"⟩ "RefsSettle", Cond.methodLinkNest "RefsSettle$Foretelling" 11 ⟨"RefsSettle$Outline", "<init>", "()V"⟩ "RefsSettle", Cond.methodLinkNest "RefsSettle$Past" 15 ⟨"RefsSettle$Sheet", "<init>", "()V"⟩ "RefsSettle"]
def XK (U : State) : Prop := (∀ w ∈ nlw, va_Nw w U) ∧ va_AO "RefsSettle$Sheet" U ∧ (Cond.arrayOver (.array .int)).before #[] U = true
theorem XK.warm {s U : State} (hW : s.WarmedH U.vm) (h : XK s) : XK U := by
  refine ⟨fun w hw => ?_, h.2.1.moved hW.alike, ao_moved hW.alike h.2.2⟩
  have h1 := h.1 w hw
  unfold nlw at hw
  simp only [List.mem_cons, List.mem_nil_iff, or_false] at hw
  rcases hw with rfl | rfl | rfl | rfl | rfl | rfl <;> exact va_Nw.warmM hW h1
theorem XK.same {s U : State} (e : s.vm = U.vm) (h : XK s) : XK U := by
  refine ⟨fun w hw => ?_, h.2.1.moved (e ▸ Vm.Alike.refl s.vm), ao_moved (e ▸ Vm.Alike.refl s.vm) h.2.2⟩
  have h1 := h.1 w hw
  unfold nlw at hw
  simp only [List.mem_cons, List.mem_nil_iff, or_false] at hw
  rcases hw with rfl | rfl | rfl | rfl | rfl | rfl <;> exact va_Nw.same rfl e h1
def WS : List Cond := (Cond.selects "java/lang/StringBuilder" yJ5_ensureCapacityInternal_d00df yJ5_ensureCapacityInternal_d00df :: lw_tbl).filter goodWord
def rho (G : GX) (a : Nat) : Nat := if a < 1000000 then G.1.size + a else G.2.2.2.1 a
def am_cls (G : GX) (k : Nat) : ClassId := if k < 20 then G.2.1.1 k else G.2.2.1 k
def am_pos (G : GX) (k j : Nat) : Nat := if k < 20 then G.2.1.2 k j else j
/-- which fields are references -/
def am_isR (k : Nat) (j : Nat) : Bool := match k with
  | 0 => j == 0
  | 1 => decide (j < 2)
  | 2 => decide (j < 5) || j == 6
  | 3 => true
  | 4 => j == 0
  | 5 => j == 0
  | 6 => true
  | 7 => decide (j < 2)
  | 8 => decide (4 < j)
  | 9 => decide (j < 2) || (decide (2 < j) && decide (j < 11))
  | 10 => decide (j < 4) || j == 5 || (decide (12 < j) && decide (j < 16)) || j == 16 || j == 18 || j == 19 || j == 20 || j == 21 || j == 22 || j == 26
  | 23 => true
  | 24 => true
  | _ => false
def cvr (G : GX) (v : AV) (c : Value) : Prop := match v with
  | .inl (false, i) => ∃ x : Int32, c = .int x ∧ x.toInt = i
  | .inl (true, i) => ∃ x : Int64, c = .long x ∧ x.toInt = i
  | .inr r => c = va_rf (r.map (rho G))
def SR (G : GX) : List AV → List Value → Prop
  | [], [] => True
  | v :: vs, c :: cs => cvr G v c ∧ SR G vs cs
  | _, _ => False
def LR (G : GX) (n : Nat) (ls : List (Option AV)) (lsC : Array Slot) : Prop := lsC.size = n ∧ lv_wf lsC ∧ ∀ (i : Nat) (v : AV), ls[i]? = some (some v) → ∃ c, lsC[i]? = some (.val c) ∧ cvr G v c
/-- one slot of a cell -/
def am_sl (G : GX) (t : Tp) (h : Mem) (a : Nat) (j : Nat) (v : Value) : Prop :=
  (am_isR (t.2.1 a).1 j = true → v = va_rf ((t.2.2 a (j : Int)).map (rho G))) ∧ (am_isR (t.2.1 a).1 j = false → ∃ x : Int32, v = .int x ∧ x.toInt = h a (j : Int))
def cok (G : GX) (t : Tp) (h : Mem) (a : Nat) (H : Heap) : Prop :=
  ∃ cell : Cell, H[G.1.size + a]? = some cell ∧ cell.vm = .none ∧ cell.cls = am_cls G (t.2.1 a).1 ∧ (20 ≤ (t.2.1 a).1 → ∃ f, cell = arrV (am_cls G (t.2.1 a).1) (t.2.1 a).2 f) ∧
    ∀ j : Nat, j < (t.2.1 a).2 → ∃ v, cell.slots[am_pos G (t.2.1 a).1 j]? = some v ∧ am_sl G t h a j v
def Rp (G : GX) (t : Tp) (h : Mem) (H : Heap) : Prop :=
  H.size = G.1.size + t.1 ∧ t.1 ≤ 1000000 ∧ (∀ q, q < G.1.size → H[q]? = G.1[q]?) ∧ (∀ a, a < t.1 → cok G t h a H) ∧ (∀ a, t.1 ≤ a → a < 1000000 → (t.2.1 a).1 = 99) ∧ ∀ a, 1000000 ≤ a → h a = G.2.2.2.2.2 a ∧ t.2.1 a = G.2.2.2.2.1 a
/-- the given rows: arrays of numbers below the law's own cells -/
def am_st (G : GX) (U : State) : Prop := ∀ a, 1000000 ≤ a → (G.2.2.2.2.1 a).1 = 99 ∨ ∃ cell : Cell, G.1[G.2.2.2.1 a]? = some cell ∧ cell.vm ≠ .unknown ∧ cell.slots.size = (G.2.2.2.2.1 a).2 ∧
  ((G.2.2.2.2.1 a).1 = 20 ∧ U.isArrayOf cell .int ∨ (G.2.2.2.2.1 a).1 = 21 ∧ U.isArrayOf cell .byte) ∧ ∀ j : Nat, j < (G.2.2.2.2.1 a).2 → ∃ x : Int32, cell.slots[j]? = some (.int x) ∧ x.toInt = G.2.2.2.2.2 a (j : Int)
abbrev am_tys (G : GX) : List (ClassId × FieldType) := [(G.2.2.1 20, .int), (G.2.2.1 21, .byte), (G.2.2.1 22, .boolean), (G.2.2.1 23, .object "RefsSettle$Sheet"), (G.2.2.1 24, .array .int)]
abbrev am_up1 (G : GX) : Nat → Prop := fun q => G.1.size ≤ q
def GW (G : GX) (U : State) : Prop := va_K G.2.1 vwCl (am_tys G) U ∧ am_st G U ∧ va_Z "RefsSettle$Sheet" "ROMAN_SIGNS" "[I" (.ref (G.2.2.2.1 1000001)) (am_up1 G) U G.1 ∧ va_Z "java/lang/String" "COMPACT_STRINGS" "Z" (.int 1) (am_up1 G) U G.1
  ∧ va_Z "java/lang/Integer" "DigitTens" "[B" (.ref (G.2.2.2.1 1000003)) (am_up1 G) U G.1 ∧ va_Z "java/lang/Integer" "DigitOnes" "[B" (.ref (G.2.2.2.1 1000002)) (am_up1 G) U G.1 ∧ (va_Z "jdk/internal/util/Preconditions" "SIOOBE_FORMATTER" "Ljava/util/function/BiFunction;" .null (am_up1 G) U G.1 ∨ va_Z "jdk/internal/util/Preconditions" "SIOOBE_FORMATTER" "Ljava/util/function/BiFunction;" (.ref (G.2.2.2.1 1000004)) (am_up1 G) U G.1) ∧ XK U
def CX (M : MI) (G : GX) (mc ms : Nat) (p : Program) (R : Room) (s : State) (m : MethodId) (args : Array Value) (meth : Method) (c : Code) : Prop :=
  p.tables.exec = Jvm.exec ∧ c.code = M.2.1 ∧ meth.sig.returnType = M.2.2.2.1 ∧ c.maxLocals = M.2.2.1 ∧ s.vm.findClass M.2.2.2.2.1 = some m.cls ∧ (∀ w ∈ WS, w.before args s = true) ∧ meth.locks = false ∧ M.2.2.2.2.2.1 ≤ R.frames ∧ M.2.2.2.2.2.2 ≤ R.locals ∧ mc ≤ R.cells ∧ ms ≤ R.slots ∧ GW G s ∧ meth.name = M.1.name
def QQ (G : GX) (Q : Option AV → Tp → Mem → Prop) : Array Value → State → Outcome → State → Prop := fun _ _ o t => ∃ (v : Option AV) (tt : Tp) (hh : Mem) (vC : Option Value), Q v tt hh ∧ o = .returned vC ∧ SR G v.toList vC.toList ∧ Rp G tt hh t.heap
def AW (M : MI) (mc ms : Nat) (Q : Option AV → Tp → Mem → Prop) (pc : Nat) (ls : List (Option AV)) (st : List AV) (t : Tp) (h : Mem) (ck sk : Nat) : Prop :=
  ∀ (G : GX) (p : Program) (l : Launch) (e : Env) (R : Room) (s : State) (m : MethodId) (args : Array Value) (below : List Frame) (meth : Method) (c : Code) (H : Heap) (locs : List Loc) (lsC : Array Slot) (stC : List Value),
    CX M G mc ms p R s m args meth c → Rp G t h H → LR G M.2.2.1 ls lsC → SR G st stC → (∀ q ∈ locs, G.1.size ≤ q.base) →
    W p l e R s m args below meth c H locs ck sk (MQ below (QQ G Q) args s mc ms (am_up1 G)) (F0 m pc lsC stC)
def PP (G : GX) (as : List AV) (t : Tp) (h : Mem) : Array Value → State → Prop := fun a U => SR G as a.toList ∧ Rp G t h U.heap ∧ GW G U
/-- a method's contract over the plain machine -/
def Sem (M : MI) (as : List AV) (t : Tp) (h : Mem) (mc ms : Nat) (Q : Option AV → Tp → Mem → Prop) : Prop :=
  ∀ (l : Launch) (G : GX), Met l M.1 (Cond.code M.1 M.2.1 M.2.2.1 M.2.2.2.1 :: WS) { frames := M.2.2.2.2.2.1, cells := mc, slots := ms, locals := M.2.2.2.2.2.2 } (PP G as t h) (QQ G Q) mc ms (am_up1 G)
/-! numbers -/
def wr (z : Int) : Int := (Int32.ofInt z).toInt
theorem wr_of {z : Int} (h1 : -2147483648 ≤ z) (h2 : z ≤ 2147483647) : wr z = z := Int32.toInt_ofInt_of_le (by omega) (by omega)
theorem wr_toInt (x : Int32) : wr x.toInt = x.toInt := by unfold wr; rw [Int32.ofInt_toInt]
theorem i32_lo (x : Int32) : -2147483648 ≤ x.toInt := by have := Int32.le_toInt x; simpa using this
theorem i32_hi (x : Int32) : x.toInt ≤ 2147483647 := by
  have h1 := Int32.toInt_lt x
  have h2 : x.toInt < 2147483648 := by simpa using h1
  omega
theorem i32_clamp (x : Int32) : x.toNatClampNeg = x.toInt.toNat := rfl
theorem SR.i {G : GX} {x : Int} {st : List AV} {c : List Value} (h : SR G (vI x :: st) c) : ∃ (y : Int32) (r : List Value), c = .int y :: r ∧ y.toInt = x ∧ SR G st r := by
  cases c with
  | nil => exact h.elim
  | cons a r =>
    obtain ⟨⟨y, e1, e2⟩, h2⟩ := h
    exact ⟨y, r, by rw [e1], e2, h2⟩
theorem SR.l {G : GX} {x : Int} {st : List AV} {c : List Value} (h : SR G (vL x :: st) c) : ∃ (y : Int64) (r : List Value), c = .long y :: r ∧ y.toInt = x ∧ SR G st r := by
  cases c with
  | nil => exact h.elim
  | cons a r =>
    obtain ⟨⟨y, e1, e2⟩, h2⟩ := h
    exact ⟨y, r, by rw [e1], e2, h2⟩
theorem SR.q {G : GX} {x : Option Nat} {st : List AV} {c : List Value} (h : SR G (vQ x :: st) c) : ∃ r : List Value, c = va_rf (x.map (rho G)) :: r ∧ SR G st r := by
  cases c with
  | nil => exact h.elim
  | cons a r => exact ⟨r, by rw [show a = _ from h.1], h.2⟩
theorem SR.r {G : GX} {x : Nat} {st : List AV} {c : List Value} (h : SR G (vR x :: st) c) : ∃ r : List Value, c = .ref (rho G x) :: r ∧ SR G st r := SR.q h
theorem SR.cons {G : GX} {v : AV} {st : List AV} {c : List Value} (h : SR G (v :: st) c) : ∃ (y : Value) (r : List Value), c = y :: r ∧ cvr G v y ∧ SR G st r := by
  cases c with
  | nil => exact h.elim
  | cons a r => exact ⟨a, r, rfl, h.1, h.2⟩
theorem SR.nil {G : GX} {c : List Value} (h : SR G [] c) : c = [] := by
  cases c with
  | nil => rfl
  | cons a r => exact h.elim
theorem SR.app {G : GX} : ∀ {a b : List AV} {x y : List Value}, SR G a x → SR G b y → SR G (a ++ b) (x ++ y)
  | [], b, x, y, h1, h2 => by rw [SR.nil h1]; exact h2
  | v :: a, b, x, y, h1, h2 => by
    obtain ⟨c, r, rfl, h3, h4⟩ := SR.cons h1
    exact ⟨h3, SR.app h4 h2⟩
theorem SR.len {G : GX} : ∀ {a : List AV} {x : List Value}, SR G a x → x.length = a.length
  | [], x, h1 => by rw [SR.nil h1]; rfl
  | v :: a, x, h1 => by
    obtain ⟨c, r, rfl, h3, h4⟩ := SR.cons h1
    simp [SR.len h4]
/-- one number's place is another -/
def am_up (h : Mem) (a : Nat) (k : Int) (v : Int) : Mem := fun b j => if b = a ∧ j = k then v else h b j
def am_upR (r : Nat → Int → Option Nat) (a : Nat) (k : Int) (v : Option Nat) : Nat → Int → Option Nat := fun b j => if b = a ∧ j = k then v else r b j
theorem LR.at {G : GX} {n : Nat} {ls : List (Option AV)} {lsC : Array Slot} (h : LR G n ls lsC) {i : Nat} {v : AV} (hi : ls[i]? = some (some v)) : ∃ c, lsC[i]? = some (.val c) ∧ cvr G v c := h.2.2 i v hi
/-- the locals behind a store: a long at the place ahead is gone -/
def am_is2 (v : Option (Option AV)) : Bool := match v with
  | some (some (.inl (true, _))) => true
  | _ => false
def am_st1 (ls : List (Option AV)) (i : Nat) (v : AV) : List (Option AV) := (if 0 < i ∧ am_is2 ls[i - 1]? = true then ls.set (i - 1) none else ls).set i (some v)
def am_st2 (ls : List (Option AV)) (i : Nat) (v : AV) : List (Option AV) := ((if 0 < i ∧ am_is2 ls[i - 1]? = true then ls.set (i - 1) none else ls).set i (some v)).set (i + 1) none
