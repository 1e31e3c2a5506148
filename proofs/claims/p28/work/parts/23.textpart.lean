theorem bI_or (b : Bool) (h : b = true) : bI (b || false) = bI true := by rw [h]; rfl
