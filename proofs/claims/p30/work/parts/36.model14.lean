/-! THE REFERENCE, reading the text -/
theorem z_01 : ¬ (1 : Int32) = 0 := by decide
