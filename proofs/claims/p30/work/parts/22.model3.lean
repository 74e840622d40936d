/-! THE REFERENCE, a step: rooms absorb, what rooms had -/
theorem absN_o (g : Nat → Int32) : ∀ n k, (∀ i, i < n → k ≠ 9 + 6 * i + 2 ∧ k ≠ 9 + 6 * i + 3) → absN g n k = g k
  | 0, _, _ => rfl
  | n + 1, k, h => by
    have h1 := h n (Nat.lt_succ_self n)
    rw [absN, absR, upd_n _ _ h1.2, upd_n _ _ h1.1]
    exact absN_o g n k (fun i hi => h i (Nat.lt_succ_of_lt hi))
theorem oldN_o (g : Nat → Int32) : ∀ n k, (k < 401 ∨ 401 + 32 * n ≤ k) → oldN g n k = g k
  | 0, _, _ => rfl
  | n + 1, k, h => by
    rw [oldN, oldR, if_neg (by omega), if_neg (by omega)]
    exact oldN_o g n k (by omega)
theorem movN_o (g : Nat → Int32) : ∀ n k, k ≠ 6 → (∀ i, i < n → k ≠ 57 + 10 * i + 5) → movN g n k = g k
  | 0, _, _, _ => rfl
  | n + 1, k, h6, h => by
    rw [movN, movR, upd_n _ _ h6, movA, upd_n _ _ (h n (Nat.lt_succ_self n))]
    exact movN_o g n k h6 (fun i hi => h i (Nat.lt_succ_of_lt hi))
