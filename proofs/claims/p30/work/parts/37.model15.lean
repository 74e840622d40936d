/-! THE REFERENCE, the whole text -/
theorem putG_2 {g : Nat → Int32} {np k : Nat} (h : g 2 = nI k) (t kd wh sp mu : Int32) : putG g np t kd wh sp mu 2 = nI (k + 1) := by
  unfold putG
  rw [upd_n _ _ (by decide), putB, upd_s]
  unfold putE
  rw [upd_n _ _ (by omega), upd_n _ _ (by omega), upd_n _ _ (by omega), upd_n _ _ (by omega), upd_n _ _ (by omega), insP, if_neg (by omega), h]
  exact nI_add _ _
