/-! the rows on exceptions and on new T[n][m] need the whole library: its names stand here first -/
theorem lib_a : True := by
  have h1 := @Jvm.Stand.thenCaughtThrough
  have h2 := @Jvm.Stand.multianewarray2F
  trivial
