/-! THE REFERENCE, foretelling: the answers -/
theorem z_ix2 {a b : Nat} (ha : a < 2 ^ 30) (hb : b < 2 ^ 30) {x : Int32} (hv : ¬ (x < nI a ∨ nI b < x)) : ∃ r, a ≤ r ∧ r ≤ b ∧ x = nI r := by
  have h1 : nI a ≤ x := Int32.not_lt.mp (fun h => hv (Or.inl h))
  have h2 : x ≤ nI b := Int32.not_lt.mp (fun h => hv (Or.inr h))
  have h0 : ¬ x < 0 := fun h => absurd (Int32.lt_of_le_of_lt h1 h) (nI_pos (by omega))
  obtain ⟨j, hj, rfl⟩ := nI_of h0
  exact ⟨j, (nI_leI (by omega) hj).mp h1, (nI_leI hj (by omega)).mp h2, rfl⟩
