/-! a name of the whole library, so that the round is read over it from the first part on -/
theorem pm_first : Jvm.Free.Multi.outerC = Jvm.Free.Multi.outerC := rfl
