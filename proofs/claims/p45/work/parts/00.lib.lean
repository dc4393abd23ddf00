/-- the whole library is wanted by 60.ptools: asked for at once, so that the parts compile once -/
theorem zz_lib : True := by
  have _h := @Jvm.Stand.multianewarray2F
  trivial
