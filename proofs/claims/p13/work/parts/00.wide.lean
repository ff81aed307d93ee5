/-! names of the library's rest that rows behind this need -/
theorem z_wide1 : True := by
  have _h := @Jvm.Stand.thenCaughtThrough
  trivial
theorem z_wide2 : True := by
  have _h := @Jvm.Stand.outThrough
  trivial
theorem z_wide3 : True := by
  have _h := @Jvm.Stand.caughtThrough
  trivial
