/-! THE ENERGY OF A ROW: sums, what is moved -/
def zsm (f : Nat → Int) : Nat → Int
  | 0 => 0
  | n + 1 => zsm f n + f n
theorem zsm_congr {f h : Nat → Int} : ∀ {n : Nat}, (∀ i, i < n → f i = h i) → zsm f n = zsm h n
  | 0, _ => rfl
  | n + 1, e => by
    rw [zsm, zsm, zsm_congr (fun i hi => e i (by omega)), e n (by omega)]
theorem zsm_upd (f : Nat → Int) (k : Nat) (v : Int) : ∀ n : Nat, zsm (fun i => if i = k then v else f i) n = zsm f n + (if k < n then v - f k else 0)
  | 0 => by simp [zsm]
  | n + 1 => by
    rw [zsm, zsm, zsm_upd f k v n]
    by_cases h : n = k
    · subst h
      rw [if_neg (Nat.lt_irrefl n), if_pos rfl, if_pos (Nat.lt_succ_self n)]
      omega
    · rw [if_neg h]
      by_cases h2 : k < n
      · rw [if_pos h2, if_pos (by omega)]; omega
      · rw [if_neg h2, if_neg (by omega)]; omega
theorem zsm_nn {f : Nat → Int} : ∀ {n : Nat}, (∀ i, i < n → 0 ≤ f i) → 0 ≤ zsm f n
  | 0, _ => Int.le_refl _
  | n + 1, e => by
    rw [zsm]
    have := zsm_nn (f := f) (n := n) (fun i hi => e i (by omega))
    have := e n (by omega)
    omega
theorem zsm_le {f : Nat → Int} : ∀ {n : Nat}, (∀ i, i < n → 0 ≤ f i) → ∀ k, k < n → f k ≤ zsm f n
  | 0, _, k, hk => absurd hk (Nat.not_lt_zero k)
  | n + 1, e, k, hk => by
    rw [zsm]
    have h0 := zsm_nn (f := f) (n := n) (fun i hi => e i (by omega))
    have h1 := e n (by omega)
    by_cases h : k = n
    · subst h; omega
    · have := zsm_le (f := f) (n := n) (fun i hi => e i (by omega)) k (by omega)
      omega
theorem z_ta {a b : Int32} (h1 : -2147483648 ≤ a.toInt + b.toInt) (h2 : a.toInt + b.toInt < 2147483648) : (a + b).toInt = a.toInt + b.toInt := by
  rw [Int32.toInt_add]
  exact Int.bmod_eq_of_le (by omega) (by omega)
theorem z_ts {a b : Int32} (h1 : -2147483648 ≤ a.toInt - b.toInt) (h2 : a.toInt - b.toInt < 2147483648) : (a - b).toInt = a.toInt - b.toInt := by
  rw [Int32.toInt_sub]
  exact Int.bmod_eq_of_le (by omega) (by omega)
abbrev posC (c : Nat) : Prop := c = 4 ∨ (9 ≤ c ∧ c < 57 ∧ ((c - 9) % 6 = 2 ∨ (c - 9) % 6 = 3)) ∨ (177 ≤ c ∧ c < 321)
abbrev gvC (c : Nat) : Prop := 9 ≤ c ∧ c < 57 ∧ (c - 9) % 6 = 4
theorem pos_lt {c : Nat} (h : posC c) : c < 321 := by unfold posC at h; omega
theorem gv_lt {c : Nat} (h : gvC c) : c < 321 := by unfold gvC at h; omega
theorem pos_gv {c : Nat} (h : posC c) : ¬ gvC c := by unfold posC at h; unfold gvC; omega
theorem pos_e {r : Nat} (h : r < 8) : posC (9 + 6 * r + 2) := by unfold posC; omega
theorem pos_a {r : Nat} (h : r < 8) : posC (9 + 6 * r + 3) := by unfold posC; omega
theorem gv_r {r : Nat} (h : r < 8) : gvC (9 + 6 * r + 4) := by unfold gvC; omega
theorem pos_w {c : Nat} (h1 : 177 ≤ c) (h2 : c < 321) : posC c := by unfold posC; omega
theorem pos_4 : posC 4 := by unfold posC; omega
def pF (g : Nat → Int32) (c : Nat) : Int := if posC c then (g c).toInt else 0
def gF (g : Nat → Int32) (c : Nat) : Int := if gvC c then (g c).toInt else 0
theorem pF_p {g : Nat → Int32} {c : Nat} (h : posC c) : pF g c = (g c).toInt := by rw [pF, if_pos h]
theorem pF_n {g : Nat → Int32} {c : Nat} (h : ¬ posC c) : pF g c = 0 := by rw [pF, if_neg h]
theorem gF_p {g : Nat → Int32} {c : Nat} (h : gvC c) : gF g c = (g c).toInt := by rw [gF, if_pos h]
theorem gF_n {g : Nat → Int32} {c : Nat} (h : ¬ gvC c) : gF g c = 0 := by rw [gF, if_neg h]
def psm (g : Nat → Int32) : Int := zsm (pF g) 321
def gsm (g : Nat → Int32) : Int := zsm (gF g) 321
theorem psm_p {g : Nat → Int32} {k : Nat} (v : Int32) (h : posC k) : psm (upd g k v) = psm g + (v.toInt - (g k).toInt) := by
  have e : pF (upd g k v) = fun i => if i = k then v.toInt else pF g i := by
    funext c
    by_cases hc : c = k
    · subst hc; rw [if_pos rfl, pF_p h, upd_s]
    · rw [if_neg hc, pF, pF, upd_n _ _ hc]
  have h2 := zsm_upd (pF g) k v.toInt 321
  rw [if_pos (pos_lt h), pF_p h] at h2
  rw [psm, psm, e, h2]
theorem psm_n {g : Nat → Int32} {k : Nat} (v : Int32) (h : ¬ posC k) : psm (upd g k v) = psm g := zsm_congr (fun c _ => by
  by_cases hc : c = k
  · subst hc; rw [pF_n h, pF_n h]
  · rw [pF, pF, upd_n _ _ hc])
theorem gsm_p {g : Nat → Int32} {k : Nat} (v : Int32) (h : gvC k) : gsm (upd g k v) = gsm g + (v.toInt - (g k).toInt) := by
  have e : gF (upd g k v) = fun i => if i = k then v.toInt else gF g i := by
    funext c
    by_cases hc : c = k
    · subst hc; rw [if_pos rfl, gF_p h, upd_s]
    · rw [if_neg hc, gF, gF, upd_n _ _ hc]
  have h2 := zsm_upd (gF g) k v.toInt 321
  rw [if_pos (gv_lt h), gF_p h] at h2
  rw [gsm, gsm, e, h2]
theorem gsm_n {g : Nat → Int32} {k : Nat} (v : Int32) (h : ¬ gvC k) : gsm (upd g k v) = gsm g := zsm_congr (fun c _ => by
  by_cases hc : c = k
  · subst hc; rw [gF_n h, gF_n h]
  · rw [gF, gF, upd_n _ _ hc])
/-- energies are not below 0, all are given; W is what was given -/
def PB (W : Int) (g : Nat → Int32) : Prop := (∀ c, posC c ∨ gvC c → 0 ≤ (g c).toInt) ∧ psm g = W ∧ gsm g = W ∧ W ≤ 1000000000
theorem PB_le {W : Int} {g : Nat → Int32} (h : PB W g) {c : Nat} (hc : posC c) : 0 ≤ (g c).toInt ∧ (g c).toInt ≤ W := by
  refine ⟨h.1 c (Or.inl hc), ?_⟩
  have := zsm_le (f := pF g) (n := 321) (fun i _ => by
    by_cases hp : posC i
    · rw [pF_p hp]; exact h.1 i (Or.inl hp)
    · rw [pF_n hp]; exact Int.le_refl _) c (pos_lt hc)
  rw [pF_p hc] at this
  have e := h.2.1
  unfold psm at e
  omega
theorem PB_leg {W : Int} {g : Nat → Int32} (h : PB W g) {c : Nat} (hc : gvC c) : 0 ≤ (g c).toInt ∧ (g c).toInt ≤ W := by
  refine ⟨h.1 c (Or.inr hc), ?_⟩
  have := zsm_le (f := gF g) (n := 321) (fun i _ => by
    by_cases hp : gvC i
    · rw [gF_p hp]; exact h.1 i (Or.inr hp)
    · rw [gF_n hp]; exact Int.le_refl _) c (gv_lt hc)
  rw [gF_p hc] at this
  have e := h.2.2.1
  unfold gsm at e
  omega
theorem PB_eq {W : Int} {g h : Nat → Int32} (hP : PB W g) (e : ∀ c, posC c ∨ gvC c → h c = g c) : PB W h := by
  refine ⟨fun c hc => by rw [e c hc]; exact hP.1 c hc, ?_, ?_, hP.2.2.2⟩
  · rw [← hP.2.1]
    exact zsm_congr (fun c _ => by
      by_cases hc : posC c
      · rw [pF_p hc, pF_p hc, e c (Or.inl hc)]
      · rw [pF_n hc, pF_n hc])
  · rw [← hP.2.2.1]
    exact zsm_congr (fun c _ => by
      by_cases hc : gvC c
      · rw [gF_p hc, gF_p hc, e c (Or.inr hc)]
      · rw [gF_n hc, gF_n hc])
/-- energy goes from a to b -/
theorem PB_mv {W : Int} {g : Nat → Int32} (h : PB W g) {a b : Nat} (ha : posC a) (hb : posC b) (hab : a ≠ b) {v : Int32} (h0 : 0 ≤ v.toInt) (h1 : v.toInt ≤ (g a).toInt) : PB W (upd (upd g a (g a - v)) b (g b + v)) ∧ (g a - v).toInt = (g a).toInt - v.toInt ∧ (g b + v).toInt = (g b).toInt + v.toInt := by
  have la := PB_le h ha
  have lb := PB_le h hb
  have lW := h.2.2.2
  have e1 : (g a - v).toInt = (g a).toInt - v.toInt := z_ts (by omega) (by omega)
  have e2 : (g b + v).toInt = (g b).toInt + v.toInt := z_ta (by omega) (by omega)
  refine ⟨⟨fun c hc => ?_, ?_, ?_, lW⟩, e1, e2⟩
  · by_cases c1 : c = b
    · subst c1; rw [upd_s, e2]; omega
    · rw [upd_n _ _ c1]
      by_cases c2 : c = a
      · subst c2; rw [upd_s, e1]; omega
      · rw [upd_n _ _ c2]; exact h.1 c hc
  · rw [psm_p _ hb, psm_p _ ha, upd_n _ _ (Ne.symm hab), e1, e2, h.2.1]; omega
  · rw [gsm_n _ (pos_gv hb), gsm_n _ (pos_gv ha)]; exact h.2.2.1
/-- energy is given: a is a room's energy, b what it was given -/
theorem PB_gv {W : Int} {g : Nat → Int32} (h : PB W g) {a b : Nat} (ha : posC a) (hb : gvC b) {v : Int32} (h0 : 0 ≤ v.toInt) (h1 : W + v.toInt ≤ 1000000000) : PB (W + v.toInt) (upd (upd g a (g a + v)) b (g b + v)) := by
  have la := PB_le h ha
  have lb := PB_leg h hb
  have hab : b ≠ a := fun e => pos_gv ha (e ▸ hb)
  have hbp : ¬ posC b := fun z => pos_gv z hb
  have e1 : (g a + v).toInt = (g a).toInt + v.toInt := z_ta (by omega) (by omega)
  have e2 : (g b + v).toInt = (g b).toInt + v.toInt := z_ta (by omega) (by omega)
  refine ⟨fun c hc => ?_, ?_, ?_, h1⟩
  · by_cases c1 : c = b
    · subst c1; rw [upd_s, e2]; omega
    · rw [upd_n _ _ c1]
      by_cases c2 : c = a
      · subst c2; rw [upd_s, e1]; omega
      · rw [upd_n _ _ c2]; exact h.1 c hc
  · rw [psm_n _ hbp, psm_p _ ha, e1, h.2.1]; omega
  · rw [gsm_p _ hb, gsm_n _ (pos_gv ha), upd_n _ _ hab, e2, h.2.2.1]; omega
/-- what is on its way comes nearer -/
theorem PB_sh {W : Int} {g : Nat → Int32} (h : PB W g) {a : Nat} (h1 : 177 ≤ a) (h2 : a + 5 < 321) (h0 : g a = 0) : PB W (upd (arr2 g a 5) (a + 5) 0) := by
  have p : ∀ k, k < 6 → posC (a + k) := fun k hk => pos_w (by omega) (by omega)
  have e : ∀ c, upd (arr2 g a 5) (a + 5) 0 c = upd (upd (upd (upd (upd (upd g (a + 0) (g (a + 1))) (a + 1) (g (a + 2))) (a + 2) (g (a + 3))) (a + 3) (g (a + 4))) (a + 4) (g (a + 5))) (a + 5) 0 c := by
    intro c
    by_cases c5 : c = a + 5
    · rw [c5, upd_s, upd_s]
    · rw [upd_n _ _ c5, upd_n _ _ c5, arr2]
      by_cases c4 : c = a + 4
      · rw [c4, upd_s, if_pos (by omega)]
      · rw [upd_n _ _ c4]
        by_cases c3 : c = a + 3
        · rw [c3, upd_s, if_pos (by omega)]
        · rw [upd_n _ _ c3]
          by_cases c2 : c = a + 2
          · rw [c2, upd_s, if_pos (by omega)]
          · rw [upd_n _ _ c2]
            by_cases c1 : c = a + 1
            · rw [c1, upd_s, if_pos (by omega)]
            · rw [upd_n _ _ c1]
              by_cases c0 : c = a + 0
              · rw [c0, upd_s, if_pos (by omega)]
              · rw [upd_n _ _ c0, if_neg (by omega)]
  have z0 : (0 : Int32).toInt = 0 := by decide
  have g0 : (g (a + 0)).toInt = 0 := by rw [Nat.add_zero, h0]; exact z0
  refine PB_eq (g := upd (upd (upd (upd (upd (upd g (a + 0) (g (a + 1))) (a + 1) (g (a + 2))) (a + 2) (g (a + 3))) (a + 3) (g (a + 4))) (a + 4) (g (a + 5))) (a + 5) 0) ⟨fun c hc => ?_, ?_, ?_, h.2.2.2⟩ (fun c _ => e c)
  · rw [← e c]
    by_cases c5 : c = a + 5
    · rw [c5, upd_s]; exact Int.le_of_eq z0.symm
    · rw [upd_n _ _ c5, arr2]
      split
      · exact h.1 _ (Or.inl (pos_w (by omega) (by omega)))
      · exact h.1 c hc
  · rw [psm_p _ (p 5 (by decide)), psm_p _ (p 4 (by decide)), psm_p _ (p 3 (by decide)), psm_p _ (p 2 (by decide)), psm_p _ (p 1 (by decide)), psm_p _ (p 0 (by decide))]
    repeat rw [upd_n _ _ (by omega)]
    rw [h.2.1, z0, g0]
    omega
  · rw [gsm_n _ (pos_gv (p 5 (by decide))), gsm_n _ (pos_gv (p 4 (by decide))), gsm_n _ (pos_gv (p 3 (by decide))), gsm_n _ (pos_gv (p 2 (by decide))), gsm_n _ (pos_gv (p 1 (by decide))), gsm_n _ (pos_gv (p 0 (by decide)))]
    exact h.2.2.1

