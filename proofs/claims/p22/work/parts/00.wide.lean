/-- names a row of the whole library: so every round of this claim is a wide one -/
theorem wide_on : True := by
  have _h := @Jvm.Stand.multianewarray2F
  trivial
