/-! THE CLASS, the best door -/
theorem n4 {k : Nat} (h : k < 2 ^ 31) : ¬ nI k = -4 := fun z => nI_pos h (by rw [z]; decide)
