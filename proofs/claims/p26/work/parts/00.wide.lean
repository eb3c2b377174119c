/-- the rows are read over the whole library (two-dimensional arrays) -/
theorem q_wide : True := by
  have := @Jvm.Free.Multi.fill_old
  trivial
