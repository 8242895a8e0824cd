theorem zz_wide {p : Program} : True := by
  have := @Jvm.Stand.thenCaughtThrough
  trivial
