/-! THE REFERENCE, foretelling: what is begun, tails -/
theorem z_sub1 (x : Int32) : x + Int32.ofInt (-1) = x - nI 1 := by rw [Int32.sub_eq_add_neg, show -(nI 1) = Int32.ofInt (-1) from by decide +kernel]
