/-! a name of the rest of the library, first of all: the first round on a new machine is then read over the whole library from its first part on -/
theorem wd_0 : True := by
  have _h := @Jvm.Free.Multi.fill_facts
  exact trivial
