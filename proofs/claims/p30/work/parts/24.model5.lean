/-! THE REFERENCE, a step: through doors -/
/-- sides, delay, volume at a door's side -/
theorem INV_side {nr nd np st : Nat} {g : Nat → Int32} (h : INV nr nd np st g) {d s : Nat} (hd : d < nd) (hs : s < 2) : ∃ a, g (57 + 10 * d + s) = nI a ∧ a ≤ 8 ∧ (a < 8 → a < nr ∧ ∃ v, g (9 + 6 * a + 0) = nI v ∧ 10 ≤ v ∧ v ≤ 10000) := by
  obtain ⟨⟨-, hnr⟩, ⟨-, hnd⟩, -, -, hR, hD, -⟩ := h
  obtain ⟨a, b, ar, sp, de, o, t, l, ⟨ha, ha1⟩, ⟨hb, hb1⟩, -⟩ := (hD d (by omega)).1 hd
  rcases (show s = 0 ∨ s = 1 by omega) with rfl | rfl
  · exact ⟨a, ha, by omega, fun _ => ⟨ha1, ((hR a (by omega)).1 ha1).1⟩⟩
  · refine ⟨b, hb, by omega, fun hb8 => ?_⟩
    have hbn : b < nr := by omega
    exact ⟨hbn, ((hR b (by omega)).1 hbn).1⟩
theorem INV_delay {nr nd np st : Nat} {g : Nat → Int32} (h : INV nr nd np st g) {d : Nat} (hd : d < nd) : ∃ de, g (57 + 10 * d + 4) = nI de ∧ de ≤ 5 := by
  obtain ⟨-, ⟨-, hnd⟩, -, -, -, hD, -⟩ := h
  obtain ⟨a, b, ar, sp, de, o, t, l, -, -, -, -, -, hde, -⟩ := (hD d (by omega)).1 hd
  exact ⟨de, hde⟩
theorem sendR_fre {nr nd np st : Nat} {fl g : Nat → Int32} (h : INV nr nd np st g) {k : Nat} (hk : k < 2 * nd) : ∀ j, ¬ fre nr nd j → sendR fl g k j = g j := by
  intro j hj
  obtain ⟨a, h1, h2, h3⟩ := INV_side h (d := k / 2) (s := k % 2) (by omega) (by omega)
  obtain ⟨de, h4, h5⟩ := INV_delay h (d := k / 2) (by omega)
  have hga : gN g (57 + 10 * (k / 2) + k % 2) = a := gN_of h1 (by omega)
  have hgd : gN g (57 + 10 * (k / 2) + 4) = de := gN_of h4 (by omega)
  unfold fre at hj
  have n1 : j ≠ 177 + 12 * (k / 2) + 6 * (k % 2) + de := fun e => hj (Or.inr (Or.inr (Or.inr (Or.inr (Or.inr (Or.inr (Or.inr (Or.inl ⟨k / 2, by omega, by omega, by omega⟩))))))))
  have n2 : j ≠ 57 + 10 * (k / 2) + 8 + k % 2 := fun e => hj (Or.inr (Or.inr (Or.inr (Or.inr (Or.inr (Or.inr (Or.inl ⟨k / 2, by omega, by omega⟩)))))))
  rw [sendR, hgd, upd_n _ _ n1, snd2, upd_n _ _ n2, snd1, hga]
  split
  · rfl
  · have h8 : a < 8 := by omega
    obtain ⟨h6, -⟩ := h3 h8
    rw [upd_n]
    exact fun e => hj (Or.inr (Or.inr (Or.inr (Or.inr (Or.inr (Or.inl ⟨a, h6, by omega, by omega⟩))))))
theorem sendN_fre {nr nd np st : Nat} {fl g : Nat → Int32} (h : INV nr nd np st g) : ∀ m, m ≤ 2 * nd → ∀ j, ¬ fre nr nd j → sendN fl g m j = g j
  | 0, _, _, _ => rfl
  | m + 1, hm, j, hj => by
    have ih := sendN_fre (fl := fl) h m (by omega)
    rw [sendN, sendR_fre (INV_free h ih) (by omega) j hj]
    exact ih j hj
theorem arrR_fre {nr nd np st : Nat} {g : Nat → Int32} (h : INV nr nd np st g) {d s : Nat} (hd : d < nd) (hs : s < 2) : ∀ j, ¬ fre nr nd j → arrR g d s j = g j := by
  intro j hj
  obtain ⟨a, h1, h2, h3⟩ := INV_side h hd (show 1 - s < 2 by omega)
  have hga : gN g (57 + 10 * d + (1 - s)) = a := gN_of h1 (by omega)
  unfold fre at hj
  have n1 : ¬ (177 + 12 * d + 6 * s ≤ j ∧ j ≤ 177 + 12 * d + 6 * s + 5) := fun e => hj (Or.inr (Or.inr (Or.inr (Or.inr (Or.inr (Or.inr (Or.inr (Or.inl ⟨d, hd, by omega, by omega⟩))))))))
  rw [arrR, upd_n _ _ (by omega), arr2, if_neg (by omega), arr1, hga]
  split
  · rw [upd_n]
    exact fun e => hj (Or.inl e)
  · have h8 : a < 8 := by omega
    obtain ⟨h6, -⟩ := h3 h8
    rw [upd_n]
    exact fun e => hj (Or.inr (Or.inr (Or.inr (Or.inr (Or.inr (Or.inl ⟨a, h6, by omega, by omega⟩))))))
theorem arrN_fre {nr nd np st : Nat} {g : Nat → Int32} (h : INV nr nd np st g) : ∀ m, m ≤ 2 * nd → ∀ j, ¬ fre nr nd j → arrN g m j = g j
  | 0, _, _, _ => rfl
  | m + 1, hm, j, hj => by
    have ih := arrN_fre h m (by omega)
    rw [arrN, arrR_fre (INV_free h ih) (by omega) (by omega) j hj]
    exact ih j hj
