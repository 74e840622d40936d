/-! THE CLASS, its text: the whole text -/
theorem INV_eq {nr nd np st nr' nd' np' st' : Nat} {g : Nat → Int32} (h : INV nr nd np st g) (h' : INV nr' nd' np' st' g) : nr = nr' ∧ nd = nd' ∧ np = np' := by
  have a := h.1.1.symm.trans h'.1.1
  have b := h.2.1.1.symm.trans h'.2.1.1
  have c := h.2.2.1.1.symm.trans h'.2.2.1.1
  have := h.1.2
  have := h'.1.2
  have := h.2.1.2
  have := h'.2.1.2
  have := h.2.2.1.2
  have := h'.2.2.1.2
  exact ⟨(nI_eq (by omega) (by omega)).mp a, (nI_eq (by omega) (by omega)).mp b, (nI_eq (by omega) (by omega)).mp c⟩
theorem z_n1m : (1000000 : Int32) = nI 1000000 := by decide
theorem z_n1g : (1000000000 : Int32) = nI 1000000000 := by decide
