/-- the grid's making (part 90) stands on this row of the library: with its name here every round is read over the whole library -/
theorem am_00 : True := by
  have _h := @Stand.multianewarray2F
  trivial
