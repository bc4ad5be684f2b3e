theorem nlw_in : ∀ w ∈ nlw, w ∈ lw_tbl := fun w hw => List.mem_append_right _ (by
  unfold nlw at hw
  simp only [List.mem_cons, List.mem_nil_iff, or_false] at hw
  rcases hw with rfl | rfl | rfl | rfl | rfl | rfl
  · exact List.mem_of_getElem? (show tables_1[56]? = some _ by decide +kernel)
  · exact List.mem_of_getElem? (show tables_1[77]? = some _ by decide +kernel)
  · exact List.mem_of_getElem? (show tables_1[143]? = some _ by decide +kernel)
  · exact List.mem_of_getElem? (show tables_1[149]? = some _ by decide +kernel)
  · exact List.mem_of_getElem? (show tables_1[204]? = some _ by decide +kernel)
  · exact List.mem_of_getElem? (show tables_1[241]? = some _ by decide +kernel))
theorem sel_priv {y : MethodName} {C : String} {s : State} {args : Array Value} {n : Nat} (hy : y.cls ≠ "java/lang/invoke/MethodHandle" ∧ y.cls ≠ "java/lang/invoke/VarHandle")
    (hins : (Cond.instantiable C n).before args s = true) (hpriv : (Cond.privateMethod y).before args s = true) (hinst : (Cond.instanceMethod y).before args s = true) (hsame : (Cond.sameMethod y.cls y.cls y.name y.desc).before args s = true) :
    (Cond.selects C y y).before args s = true := by
  obtain ⟨c, k, hc, hk, -, hniab, -, -⟩ := Cond.instantiable_spec hins
  have hni : k.isInterface = false := (Bool.or_eq_false_iff.mp hniab).1
  obtain ⟨mk, methM, hnamed, hmethM, -, -⟩ := Cond.instanceMethod_spec hinst
  have hfound : s.methodFound? y.cls y.name y.desc = some mk := State.methodFound?_of_named hnamed hy
  have hsel : selectMethod {} s.vm c mk = .method mk := selectMethod_private hmethM (Cond.privateMethod_at hpriv mk methM hnamed hmethM)
  simp only [Cond.before, Cond.holds, Cond.value, hc, hfound, hnamed, hsel, hk]
  obtain ⟨-, kA, hkA, hiA⟩ := Cond.sameMethod_spec (findClass_of_methodNamed hnamed) hfound hsame
  simp [hkA, hiA]
