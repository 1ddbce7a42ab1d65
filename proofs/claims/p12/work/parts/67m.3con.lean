/-- nothing more -/
theorem p67m : True := trivial
