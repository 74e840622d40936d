/-! THE CLASS, what is foretold -/
theorem Hs_inv {T : zTT} {R : zRR} {I : zII} {a st nr nd np : Nat} {g : Nat → Int32} (h : z_Hs T R I a st g) (hI : INV nr nd np st g) : ∃ F, z_House T R a ∧ z_HR I a g (fun _ => st) (fun _ => st) ∧ z_P T I R (a + 3) np F ∧ pl F np = planL g np ∧ I a 4 = nI nr ∧ I a 5 = nI nd := by
  obtain ⟨hH, nr', nd', np', F, h1, h2, h3, h4⟩ := h
  obtain ⟨e1, e2, e3⟩ := INV_eq h1 hI
  subst e1 e2 e3
  exact ⟨F, hH, h2, h3, h4, by rw [(HR_sc h2).1]; exact h1.1.1, by rw [(HR_sc h2).2.1]; exact h1.2.1.1⟩
