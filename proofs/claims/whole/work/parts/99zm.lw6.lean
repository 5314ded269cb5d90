/-! the start -/
theorem lw_dummy : True := trivial
