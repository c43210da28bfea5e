/-! new T[n][m] -/
theorem m_probe : True := by
  have := @Jvm.Stand.multianewarray2F
  trivial
