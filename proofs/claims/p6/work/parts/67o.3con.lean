/-- nothing more -/
theorem p67o : True := trivial
