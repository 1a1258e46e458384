/-! A name of the whole library, asked for first: every round is read over the whole library from its first part on. -/
theorem wz_wide : True := by
  have := @Jvm.Free.Multi.fill_old
  trivial
