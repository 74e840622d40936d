/-! THE CLASS, its text at s: cell s, characters at s+1, the entry read at s+2 -/
def z_Sc (T : zTT) (R : zRR) (s : Nat) : Prop := T s = some (.inl 6) ∧ (T (s + 1) = some (.inr (.char, 80)) ∧ R s 0 = some (s + 1)) ∧ T (s + 2) = some (.inl 1) ∧ R s 5 = some (s + 2)
def TXT (tx : Nat → Int32) : Prop := ∀ k, k < 80 → ∃ c, tx k = nI c ∧ c ≤ 126
