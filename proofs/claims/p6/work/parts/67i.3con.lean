/-- nothing more -/
theorem p67i : True := trivial
