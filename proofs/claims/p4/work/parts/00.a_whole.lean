/-! this claim's rows stand on the whole of the library: a row that names a word of its rest, ahead of all others -/
theorem zz_rest : True := by
  have _h := @Jvm.Stand.thenCaughtThrough
  trivial
