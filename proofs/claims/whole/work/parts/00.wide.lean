/-! this claim is read over the whole library -/
theorem wide_0 : True := by
  have _h := @Jvm.Free.Multi.fill_facts
  trivial
