/-! a name of the whole library, ahead of all else: BUILD then reads every part over the whole of it from the start -/
theorem ab_wide0 : True := by
  have _h := @Jvm.Free.Multi.fill
  trivial
