/-! cells beyond a row's end may be taken as one likes -/
theorem z_arrV_congr {cA : ClassId} {len : Nat} {V V' : Nat → Value} (h : ∀ k, k < len → V k = V' k) : arrV cA len V = arrV cA len V' := by
  unfold arrV
  congr 1
  apply Array.ext
  · simp
  · intro i h1 h2
    simp only [Array.getElem_ofFn]
    exact h i (by simpa using h1)
theorem z_ext_row {G : zG} {M : zM} {P : zP} {Q : zQ} {n : Nat} {T : zTT} {I : zII} {R : zRR} {k w pc : Nat} {ls : List (Nat × Value)} {st : List Value} {r len : Nat} {ty : FieldType} (f : Nat → Int32) (hT : T r = some (.inr (ty, len))) (h : ∀ j, j < len → f j = I r j) (kk : z_X G M P Q n T (zN I r f) R k w pc ls st) : z_X G M P Q n T I R k w pc ls st := by
  intro p e s m args below meth c H locs L Cx hn hH hS hL
  refine kk p e s m args below meth c H locs L Cx hn ?_ hS hL
  intro a t ht
  by_cases ha : a = r
  · subst ha
    rw [hT] at ht
    cases ht
    obtain ⟨h1, cA, h2, h3⟩ := hH a _ hT
    refine ⟨h1, cA, ?_, h3⟩
    rw [h2, zN_s]
    refine congrArg some (z_arrV_congr (fun j hj => ?_))
    simp only [z_val, h j hj]
  · rw [zN_n _ _ ha]
    exact hH a t ht


