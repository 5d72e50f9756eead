/-! names of the rest of the library: a round over the short one is read over the whole of it from here on -/
theorem xw_0 : True := by
  have _h := @Jvm.Stand.thenCaughtThrough
  have _g := @Jvm.Stand.outThrough
  trivial
