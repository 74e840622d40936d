/-! THE REFERENCE, a step: targets, sounds -/
theorem EOK_w {nr nd st : Nat} {g : Nat → Int32} {k : Nat} (h : EOK nr nd st (ent g k)) : ∃ f kd wh sp mu : Nat, g (321 + 5 * k + 0) = nI f ∧ g (321 + 5 * k + 1) = nI kd ∧ g (321 + 5 * k + 2) = nI wh ∧ g (321 + 5 * k + 3) = nI sp ∧ g (321 + 5 * k + 4) = nI mu ∧ f ≤ 5000 ∧ ((kd = 0 ∧ wh < nr ∧ 1 ≤ sp ∧ sp ≤ 20 ∧ st < f + sp ∧ mu ≤ 1000000) ∨ (kd = 1 ∧ wh < nd ∧ sp = 0 ∧ st ≤ f ∧ mu ≤ 10)) := by
  obtain ⟨f, kd, wh, sp, mu, e, h1, h2⟩ := h
  simp only [ent, Prod.mk.injEq] at e
  exact ⟨f, kd, wh, sp, mu, e.1, e.2.1, e.2.2.1, e.2.2.2.1, e.2.2.2.2, h1, h2⟩
theorem lvs_c (g : Nat → Int32) {i np k w : Nat} (hk : k < np - 1) (hw : w < 5) : lvs g i np (321 + 5 * k + w) = if k < i then g (321 + 5 * k + w) else g (321 + 5 * (k + 1) + w) := by
  simp only [lvs]
  rw [if_neg (by omega)]
  by_cases h : k < i
  · rw [if_pos h, if_neg (by omega)]
  · rw [if_neg h, if_pos (by omega)]
    congr 1
    omega
theorem ent_lvs (g : Nat → Int32) {i np k : Nat} (hk : k < np - 1) : ent (lvs g i np) k = if k < i then ent g k else ent g (k + 1) := by
  unfold ent
  rw [lvs_c g hk (show 0 < 5 by decide), lvs_c g hk (show 1 < 5 by decide), lvs_c g hk (show 2 < 5 by decide), lvs_c g hk (show 3 < 5 by decide), lvs_c g hk (show 4 < 5 by decide)]
  split <;> rfl
theorem lvs_2 (g : Nat → Int32) {i np : Nat} (h : g 2 = nI np) (hp : 0 < np) : lvs g i np 2 = nI (np - 1) := by
  simp only [lvs, if_true, h]
  rw [← nI_pred (np - 1), show np - 1 + 1 = np by omega]
theorem lvs_o (g : Nat → Int32) {i np k : Nat} (h2 : k ≠ 2) (h : k < 321 ∨ 401 ≤ k) (hnp : np ≤ 16) : lvs g i np k = g k := by
  simp only [lvs]
  rw [if_neg h2, if_neg (by omega)]
theorem tgP_o (g : Nat → Int32) {k j wh : Nat} (hw : g (321 + 5 * k + 2) = nI wh) (hwl : wh < 12) (h : j < 57 ∨ 177 ≤ j) : tgP g k j = g j := by
  rw [tgP, gN_of hw (by omega), upd_n _ _ (by omega)]
/-- what the loop of the targets keeps -/
def tgK (nd np : Nat) (g : Nat → Int32) : Prop := g 2 = nI np ∧ np ≤ 16 ∧ ∀ k, k < np → g (321 + 5 * k + 1) = 1 → ∃ wh, g (321 + 5 * k + 2) = nI wh ∧ wh < nd
theorem sndP_o (g : Nat → Int32) {k j wh : Nat} (hw : g (321 + 5 * k + 2) = nI wh) (hwl : wh < 8) (h : j < 9 ∨ 57 ≤ j) : sndP g k j = g j := by
  rw [sndP, gN_of hw (by omega), upd_n _ _ (by omega), upd_n _ _ (by omega)]
def sndK (nr np : Nat) (g : Nat → Int32) : Prop := g 2 = nI np ∧ np ≤ 16 ∧ ∀ k, k < np → g (321 + 5 * k + 1) = 0 → ∃ wh, g (321 + 5 * k + 2) = nI wh ∧ wh < nr
theorem sndQ_o {nr np : Nat} (g : Nat → Int32) {k j : Nat} (hnr : nr ≤ 8) (h : sndK nr np g) (hk : k < np) (hj : j < 9 ∨ 57 ≤ j) : sndQ g k j = g j := by
  unfold sndQ
  split
  next hh =>
    obtain ⟨wh, h1, h2⟩ := h.2.2 k hk hh.1
    exact sndP_o g h1 (by omega) hj
  next => rfl
