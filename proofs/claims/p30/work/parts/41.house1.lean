/-! THE CLASS, a house at a (cells a .. a+97): which cell holds which number of the reference's row -/
def zlo (c : Nat) : Nat := if c < 7 then 0 else if c < 9 then 21 else if c < 57 then 22 + 2 * ((c - 9) / 6) else if c < 177 then (if (c - 57) % 10 < 2 then 39 else if (c - 57) % 10 < 8 then 38 else 40) + 5 * ((c - 57) / 10) else if c < 321 then 42 + 5 * ((c - 177) / 12) else 23 + 2 * ((c - 401) / 32)
def zlk (so sw : Nat → Nat) (c : Nat) : Nat := if c < 2 then c + 4 else if c < 7 then c + 3 else if c < 9 then c - 7 else if c < 57 then (c - 9) % 6 else if c < 177 then (if (c - 57) % 10 < 2 then (c - 57) % 10 else if (c - 57) % 10 < 8 then (c - 57) % 10 - 1 else (c - 57) % 10 - 8) else if c < 321 then 2 * ((sw ((c - 177) / 6) + (c - 177) % 6) % 6) + (1 - (c - 177) / 6 % 2) else (so ((c - 401) / 32) + 31 - (c - 401) % 32) % 32
theorem zl_s0 (so sw : Nat → Nat) : (zlo 0 = 0 ∧ zlk so sw 0 = 4) ∧ (zlo 1 = 0 ∧ zlk so sw 1 = 5) ∧ (zlo 3 = 0 ∧ zlk so sw 3 = 6) ∧ (zlo 4 = 0 ∧ zlk so sw 4 = 7) ∧ (zlo 5 = 0 ∧ zlk so sw 5 = 8) ∧ (zlo 6 = 0 ∧ zlk so sw 6 = 9) ∧ (zlo 7 = 21 ∧ zlk so sw 7 = 0) ∧ (zlo 8 = 21 ∧ zlk so sw 8 = 1) := ⟨⟨rfl, rfl⟩, ⟨rfl, rfl⟩, ⟨rfl, rfl⟩, ⟨rfl, rfl⟩, ⟨rfl, rfl⟩, ⟨rfl, rfl⟩, ⟨rfl, rfl⟩, rfl, rfl⟩
theorem zl_r (so sw : Nat → Nat) {r w : Nat} (hr : r < 8) (hw : w < 6) : zlo (9 + 6 * r + w) = 22 + 2 * r ∧ zlk so sw (9 + 6 * r + w) = w := by
  unfold zlo zlk
  rw [if_neg (by omega), if_neg (by omega), if_pos (by omega), if_neg (by omega), if_neg (by omega), if_neg (by omega), if_pos (by omega)]
  omega
theorem zl_d (so sw : Nat → Nat) {d w : Nat} (hd : d < 12) (hw : w < 10) : zlo (57 + 10 * d + w) = (if w < 2 then 39 else if w < 8 then 38 else 40) + 5 * d ∧ zlk so sw (57 + 10 * d + w) = (if w < 2 then w else if w < 8 then w - 1 else w - 8) := by
  have e1 : (57 + 10 * d + w - 57) % 10 = w := by omega
  have e2 : (57 + 10 * d + w - 57) / 10 = d := by omega
  have n2 : ¬ 57 + 10 * d + w < 2 := by omega
  have n7 : ¬ 57 + 10 * d + w < 7 := by omega
  have n9 : ¬ 57 + 10 * d + w < 9 := by omega
  have n57 : ¬ 57 + 10 * d + w < 57 := by omega
  have y : 57 + 10 * d + w < 177 := by omega
  unfold zlo zlk
  rw [e1, e2, if_neg n7, if_neg n9, if_neg n57, if_pos y, if_neg n2, if_neg n7, if_neg n9, if_neg n57, if_pos y]
  exact ⟨rfl, rfl⟩
theorem zl_w (so sw : Nat → Nat) {d s k : Nat} (hd : d < 12) (hs : s < 2) (hk : k < 6) : zlo (177 + 12 * d + 6 * s + k) = 42 + 5 * d ∧ zlk so sw (177 + 12 * d + 6 * s + k) = 2 * ((sw (2 * d + s) + k) % 6) + (1 - s) := by
  have e1 : (177 + 12 * d + 6 * s + k - 177) / 6 = 2 * d + s := by omega
  have e2 : (177 + 12 * d + 6 * s + k - 177) % 6 = k := by omega
  have e3 : (177 + 12 * d + 6 * s + k - 177) / 12 = d := by omega
  unfold zlo zlk
  rw [e1, e2, e3, if_neg (by omega), if_neg (by omega), if_neg (by omega), if_neg (by omega), if_pos (by omega), if_neg (by omega), if_neg (by omega), if_neg (by omega), if_neg (by omega), if_neg (by omega), if_pos (by omega)]
  exact ⟨rfl, by rw [show (2 * d + s) % 2 = s by omega]⟩
theorem zl_o (so sw : Nat → Nat) {i k : Nat} (hi : i < 8) (hk : k < 32) : zlo (401 + 32 * i + k) = 23 + 2 * i ∧ zlk so sw (401 + 32 * i + k) = (so i + 31 - k) % 32 := by
  have e1 : (401 + 32 * i + k - 401) / 32 = i := by omega
  have e2 : (401 + 32 * i + k - 401) % 32 = k := by omega
  unfold zlo zlk
  rw [e1, e2, if_neg (by omega), if_neg (by omega), if_neg (by omega), if_neg (by omega), if_neg (by omega), if_neg (by omega), if_neg (by omega), if_neg (by omega), if_neg (by omega), if_neg (by omega), if_neg (by omega)]
  exact ⟨rfl, rfl⟩
/-- a number of the row is one of these -/
theorem zl_cases {c : Nat} (h1 : sc c) (h2 : c < 657) : c = 0 ∨ c = 1 ∨ c = 3 ∨ c = 4 ∨ c = 5 ∨ c = 6 ∨ c = 7 ∨ c = 8 ∨ (∃ r w, r < 8 ∧ w < 6 ∧ c = 9 + 6 * r + w) ∨ (∃ d w, d < 12 ∧ w < 10 ∧ c = 57 + 10 * d + w) ∨ (∃ d s k, d < 12 ∧ s < 2 ∧ k < 6 ∧ c = 177 + 12 * d + 6 * s + k) ∨ ∃ i k, i < 8 ∧ k < 32 ∧ c = 401 + 32 * i + k := by
  unfold sc at h1
  by_cases a1 : c < 9
  · omega
  · by_cases a2 : c < 57
    · exact Or.inr (Or.inr (Or.inr (Or.inr (Or.inr (Or.inr (Or.inr (Or.inr (Or.inl ⟨(c - 9) / 6, (c - 9) % 6, by omega, by omega, by omega⟩))))))))
    · by_cases a3 : c < 177
      · exact Or.inr (Or.inr (Or.inr (Or.inr (Or.inr (Or.inr (Or.inr (Or.inr (Or.inr (Or.inl ⟨(c - 57) / 10, (c - 57) % 10, by omega, by omega, by omega⟩)))))))))
      · by_cases a4 : c < 321
        · exact Or.inr (Or.inr (Or.inr (Or.inr (Or.inr (Or.inr (Or.inr (Or.inr (Or.inr (Or.inr (Or.inl ⟨(c - 177) / 12, (c - 177) / 6 % 2, (c - 177) % 6, by omega, by omega, by omega, by omega⟩))))))))))
        · exact Or.inr (Or.inr (Or.inr (Or.inr (Or.inr (Or.inr (Or.inr (Or.inr (Or.inr (Or.inr (Or.inr ⟨(c - 401) / 32, (c - 401) % 32, by omega, by omega, by omega⟩))))))))))
theorem zlo_1 {c : Nat} (h : c < 7) : zlo c = 0 := by unfold zlo; rw [if_pos h]
theorem zlo_2 {c : Nat} (h : ¬ c < 7) (h2 : c < 9) : zlo c = 21 := by unfold zlo; rw [if_neg h, if_pos h2]
theorem zlo_3 {c : Nat} (h : ¬ c < 9) (h2 : c < 57) : zlo c = 22 + 2 * ((c - 9) / 6) := by unfold zlo; rw [if_neg (by omega), if_neg h, if_pos h2]
theorem zlo_4 {c : Nat} (h : ¬ c < 57) (h2 : c < 177) : ∃ b, 38 ≤ b ∧ b ≤ 40 ∧ zlo c = b + 5 * ((c - 57) / 10) := by
  have n7 : ¬ c < 7 := by omega
  have n9 : ¬ c < 9 := by omega
  unfold zlo
  rw [if_neg n7, if_neg n9, if_neg h, if_pos h2]
  refine ⟨_, ?_, ?_, rfl⟩
  · split
    · decide
    · split <;> decide
  · split
    · decide
    · split <;> decide
theorem zlo_5 {c : Nat} (h : ¬ c < 177) (h2 : c < 321) : zlo c = 42 + 5 * ((c - 177) / 12) := by unfold zlo; rw [if_neg (by omega), if_neg (by omega), if_neg (by omega), if_neg h, if_pos h2]
theorem zlo_6 {c : Nat} (h : ¬ c < 321) : zlo c = 23 + 2 * ((c - 401) / 32) := by unfold zlo; rw [if_neg (by omega), if_neg (by omega), if_neg (by omega), if_neg (by omega), if_neg h]
/-- which kind a cell is of -/
theorem zlo_k {c : Nat} (h1 : sc c) (h2 : c < 657) : (c < 7 ∧ zlo c = 0) ∨ (7 ≤ c ∧ c < 9 ∧ zlo c = 21) ∨ (9 ≤ c ∧ c < 57 ∧ zlo c = 22 + 2 * ((c - 9) / 6)) ∨ (57 ≤ c ∧ c < 177 ∧ ∃ b, 38 ≤ b ∧ b ≤ 40 ∧ zlo c = b + 5 * ((c - 57) / 10)) ∨ (177 ≤ c ∧ c < 321 ∧ zlo c = 42 + 5 * ((c - 177) / 12)) ∨ (401 ≤ c ∧ zlo c = 23 + 2 * ((c - 401) / 32)) := by
  unfold sc at h1
  by_cases a1 : c < 7
  · exact Or.inl ⟨a1, zlo_1 a1⟩
  · by_cases a2 : c < 9
    · exact Or.inr (Or.inl ⟨by omega, a2, zlo_2 a1 a2⟩)
    · by_cases a3 : c < 57
      · exact Or.inr (Or.inr (Or.inl ⟨by omega, a3, zlo_3 a2 a3⟩))
      · by_cases a4 : c < 177
        · exact Or.inr (Or.inr (Or.inr (Or.inl ⟨by omega, a4, zlo_4 a3 a4⟩)))
        · by_cases a5 : c < 321
          · exact Or.inr (Or.inr (Or.inr (Or.inr (Or.inl ⟨by omega, a5, zlo_5 a4 a5⟩))))
          · exact Or.inr (Or.inr (Or.inr (Or.inr (Or.inr ⟨by omega, zlo_6 a5⟩))))
theorem zlo_lt {c : Nat} (h1 : sc c) (h2 : c < 657) : zlo c < 98 := by
  rcases zlo_k h1 h2 with ⟨g, e⟩ | ⟨g, g2, e⟩ | ⟨g, g2, e⟩ | ⟨g, g2, b, b1, b2, e⟩ | ⟨g, g2, e⟩ | ⟨g, e⟩ <;> rw [e] <;> omega
theorem zlo_np {c : Nat} (h1 : sc c) (h2 : c < 657) : zlo c < 3 ∨ 21 ≤ zlo c := by
  rcases zlo_k h1 h2 with ⟨g, e⟩ | ⟨g, g2, e⟩ | ⟨g, g2, e⟩ | ⟨g, g2, b, b1, b2, e⟩ | ⟨g, g2, e⟩ | ⟨g, e⟩ <;> rw [e] <;> omega
theorem zlk_a (so sw : Nat → Nat) {c : Nat} (h : c < 2) : zlk so sw c = c + 4 := by unfold zlk; rw [if_pos h]
theorem zlk_b (so sw : Nat → Nat) {c : Nat} (h : ¬ c < 2) (h2 : c < 7) : zlk so sw c = c + 3 := by unfold zlk; rw [if_neg h, if_pos h2]
theorem zlk_c (so sw : Nat → Nat) {c : Nat} (h : ¬ c < 7) (h2 : c < 9) : zlk so sw c = c - 7 := by unfold zlk; rw [if_neg (by omega), if_neg h, if_pos h2]
theorem zl_inj (so sw : Nat → Nat) {c c' : Nat} (h1 : sc c) (h2 : c < 657) (h1' : sc c') (h2' : c' < 657) (e : zlo c = zlo c') (ek : zlk so sw c = zlk so sw c') : c = c' := by
  have fam : (c < 7 ∧ c' < 7) ∨ (7 ≤ c ∧ c < 9 ∧ 7 ≤ c' ∧ c' < 9) ∨ (9 ≤ c ∧ c < 57 ∧ 9 ≤ c' ∧ c' < 57 ∧ (c - 9) / 6 = (c' - 9) / 6) ∨ (57 ≤ c ∧ c < 177 ∧ 57 ≤ c' ∧ c' < 177 ∧ (c - 57) / 10 = (c' - 57) / 10) ∨ (177 ≤ c ∧ c < 321 ∧ 177 ≤ c' ∧ c' < 321 ∧ (c - 177) / 12 = (c' - 177) / 12) ∨ (401 ≤ c ∧ 401 ≤ c' ∧ (c - 401) / 32 = (c' - 401) / 32) := by
    rcases zlo_k h1 h2 with ⟨g, f⟩ | ⟨g, g2, f⟩ | ⟨g, g2, f⟩ | ⟨g, g2, b, b1, b2, f⟩ | ⟨g, g2, f⟩ | ⟨g, f⟩ <;> rcases zlo_k h1' h2' with ⟨g', f'⟩ | ⟨g', g2', f'⟩ | ⟨g', g2', f'⟩ | ⟨g', g2', b', b1', b2', f'⟩ | ⟨g', g2', f'⟩ | ⟨g', f'⟩ <;> rw [f, f'] at e <;> omega
  rcases fam with ⟨g, g'⟩ | ⟨g, g2, g', g2'⟩ | ⟨g, g2, g', g2', q⟩ | ⟨g, g2, g', g2', q⟩ | ⟨g, g2, g', g2', q⟩ | ⟨g, g', q⟩
  · unfold sc at h1 h1'
    by_cases a : c < 2
    · rw [zlk_a _ _ a] at ek
      by_cases b : c' < 2
      · rw [zlk_a _ _ b] at ek; omega
      · rw [zlk_b _ _ b g'] at ek; omega
    · rw [zlk_b _ _ a g] at ek
      by_cases b : c' < 2
      · rw [zlk_a _ _ b] at ek; omega
      · rw [zlk_b _ _ b g'] at ek; omega
  · rw [zlk_c _ _ (by omega) g2, zlk_c _ _ (by omega) g2'] at ek
    omega
  · obtain ⟨r, w, hr, hw, rfl⟩ : ∃ r w, r < 8 ∧ w < 6 ∧ c = 9 + 6 * r + w := ⟨(c - 9) / 6, (c - 9) % 6, by omega, by omega, by omega⟩
    obtain ⟨r', w', hr', hw', rfl⟩ : ∃ r w, r < 8 ∧ w < 6 ∧ c' = 9 + 6 * r + w := ⟨(c' - 9) / 6, (c' - 9) % 6, by omega, by omega, by omega⟩
    rw [(zl_r so sw hr hw).2, (zl_r so sw hr' hw').2] at ek
    omega
  · obtain ⟨d, w, hd, hw, rfl⟩ : ∃ r w, r < 12 ∧ w < 10 ∧ c = 57 + 10 * r + w := ⟨(c - 57) / 10, (c - 57) % 10, by omega, by omega, by omega⟩
    obtain ⟨d', w', hd', hw', rfl⟩ : ∃ r w, r < 12 ∧ w < 10 ∧ c' = 57 + 10 * r + w := ⟨(c' - 57) / 10, (c' - 57) % 10, by omega, by omega, by omega⟩
    have hdd : d = d' := by omega
    subst hdd
    rw [(zl_d so sw hd hw).2, (zl_d so sw hd' hw').2] at ek
    rw [(zl_d so sw hd hw).1, (zl_d so sw hd' hw').1] at e
    by_cases a : w < 2
    · rw [if_pos a] at ek e
      by_cases b : w' < 2
      · rw [if_pos b] at ek e; omega
      · rw [if_neg b] at ek e
        by_cases b2 : w' < 8
        · rw [if_pos b2] at ek e; omega
        · rw [if_neg b2] at ek e; omega
    · rw [if_neg a] at ek e
      by_cases a2 : w < 8
      · rw [if_pos a2] at ek e
        by_cases b : w' < 2
        · rw [if_pos b] at ek e; omega
        · rw [if_neg b] at ek e
          by_cases b2 : w' < 8
          · rw [if_pos b2] at ek e; omega
          · rw [if_neg b2] at ek e; omega
      · rw [if_neg a2] at ek e
        by_cases b : w' < 2
        · rw [if_pos b] at ek e; omega
        · rw [if_neg b] at ek e
          by_cases b2 : w' < 8
          · rw [if_pos b2] at ek e; omega
          · rw [if_neg b2] at ek e; omega
  · obtain ⟨d, s, k, hd, hs, hk, rfl⟩ : ∃ d s k, d < 12 ∧ s < 2 ∧ k < 6 ∧ c = 177 + 12 * d + 6 * s + k := ⟨(c - 177) / 12, (c - 177) / 6 % 2, (c - 177) % 6, by omega, by omega, by omega, by omega⟩
    obtain ⟨d', s', k', hd', hs', hk', rfl⟩ : ∃ d s k, d < 12 ∧ s < 2 ∧ k < 6 ∧ c' = 177 + 12 * d + 6 * s + k := ⟨(c' - 177) / 12, (c' - 177) / 6 % 2, (c' - 177) % 6, by omega, by omega, by omega, by omega⟩
    have hdd : d = d' := by omega
    subst hdd
    rw [(zl_w so sw hd hs hk).2, (zl_w so sw hd' hs' hk').2] at ek
    have hss : s = s' := by omega
    subst hss
    generalize sw (2 * d + s) = X at ek
    omega
  · obtain ⟨i, k, hi, hk, rfl⟩ : ∃ i k, i < 8 ∧ k < 32 ∧ c = 401 + 32 * i + k := ⟨(c - 401) / 32, (c - 401) % 32, by omega, by omega, by omega⟩
    obtain ⟨i', k', hi', hk', rfl⟩ : ∃ i k, i < 8 ∧ k < 32 ∧ c' = 401 + 32 * i + k := ⟨(c' - 401) / 32, (c' - 401) % 32, by omega, by omega, by omega⟩
    have hii : i = i' := by omega
    subst hii
    rw [(zl_o so sw hi hk).2, (zl_o so sw hi' hk').2] at ek
    generalize so i = X at ek
    omega
/-- the house's cells hold the row g -/
def z_HR (I : zII) (a : Nat) (g : Nat → Int32) (so sw : Nat → Nat) : Prop := ∀ c, c < 657 → sc c → I (a + zlo c) (zlk so sw c) = g c
theorem HR_w {I : zII} {a : Nat} {g : Nat → Int32} {so sw : Nat → Nat} (h : z_HR I a g so sw) {c q k : Nat} (v : Int32) (h2 : c < 657) (h1 : sc c) (hq : q = a + zlo c) (hk : k = zlk so sw c) : z_HR (zw I q k v) a (upd g c v) so sw := by
  intro c' h2' h1'
  by_cases e : c' = c
  · subst e
    rw [hq, hk, zw_s, upd_s]
  · rw [upd_n _ _ e, ← h c' h2' h1']
    by_cases eq : a + zlo c' = q
    · rw [eq]
      rw [zw_k _ _ (fun z => e (zl_inj so sw h1' h2' h1 h2 (by omega) (by rw [z, hk])))]
    · rw [zw_row _ _ eq]
theorem HR_f {I I' : zII} {a : Nat} {g : Nat → Int32} {so sw : Nat → Nat} (h : z_HR I a g so sw) (hI : ∀ q, a ≤ q → q < a + 98 → (q < a + 3 ∨ a + 21 ≤ q) → I' q = I q) : z_HR I' a g so sw := by
  intro c h2 h1
  rw [hI _ (by omega) (by have := zlo_lt h1 h2; omega) (by have := zlo_np h1 h2; omega)]
  exact h c h2 h1
theorem HR_g {I : zII} {a : Nat} {g g' : Nat → Int32} {so sw : Nat → Nat} (h : z_HR I a g so sw) (hg : ∀ c, c < 657 → sc c → g' c = g c) : z_HR I a g' so sw := fun c h2 h1 => by rw [hg c h2 h1]; exact h c h2 h1
theorem HR_sc {I : zII} {a : Nat} {g : Nat → Int32} {so sw : Nat → Nat} (h : z_HR I a g so sw) : I a 4 = g 0 ∧ I a 5 = g 1 ∧ I a 6 = g 3 ∧ I a 7 = g 4 ∧ I a 8 = g 5 ∧ I a 9 = g 6 ∧ I (a + 21) 0 = g 7 ∧ I (a + 21) 1 = g 8 := ⟨h 0 (by decide) (by unfold sc; omega), h 1 (by decide) (by unfold sc; omega), h 3 (by decide) (by unfold sc; omega), h 4 (by decide) (by unfold sc; omega), h 5 (by decide) (by unfold sc; omega), h 6 (by decide) (by unfold sc; omega), h 7 (by decide) (by unfold sc; omega), h 8 (by decide) (by unfold sc; omega)⟩
theorem HR_room {I : zII} {a : Nat} {g : Nat → Int32} {so sw : Nat → Nat} (h : z_HR I a g so sw) {r w : Nat} (hr : r < 8) (hw : w < 6) : I (a + 22 + 2 * r) w = g (9 + 6 * r + w) := by
  have := h (9 + 6 * r + w) (by omega) (by unfold sc; omega)
  rw [(zl_r so sw hr hw).1, (zl_r so sw hr hw).2] at this
  rw [Nat.add_assoc]
  exact this
theorem HR_side {I : zII} {a : Nat} {g : Nat → Int32} {so sw : Nat → Nat} (h : z_HR I a g so sw) {d w : Nat} (hd : d < 12) (hw : w < 2) : I (a + 38 + 5 * d + 1) w = g (57 + 10 * d + w) := by
  have := h (57 + 10 * d + w) (by omega) (by unfold sc; omega)
  rw [(zl_d so sw hd (by omega)).1, (zl_d so sw hd (by omega)).2, if_pos hw, if_pos hw] at this
  rw [show a + 38 + 5 * d + 1 = a + (39 + 5 * d) by omega]
  exact this
theorem HR_door {I : zII} {a : Nat} {g : Nat → Int32} {so sw : Nat → Nat} (h : z_HR I a g so sw) {d w : Nat} (hd : d < 12) (h1 : 1 ≤ w) (hw : w < 7) : I (a + 38 + 5 * d) w = g (57 + 10 * d + (w + 1)) := by
  have := h (57 + 10 * d + (w + 1)) (by omega) (by unfold sc; omega)
  rw [(zl_d so sw hd (by omega)).1, (zl_d so sw hd (by omega)).2, if_neg (by omega), if_pos (by omega), if_neg (by omega), if_pos (by omega)] at this
  rw [show a + 38 + 5 * d = a + (38 + 5 * d) by omega]
  exact this
theorem HR_gone {I : zII} {a : Nat} {g : Nat → Int32} {so sw : Nat → Nat} (h : z_HR I a g so sw) {d w : Nat} (hd : d < 12) (hw : w < 2) : I (a + 38 + 5 * d + 2) w = g (57 + 10 * d + 8 + w) := by
  have := h (57 + 10 * d + (8 + w)) (by omega) (by unfold sc; omega)
  rw [(zl_d so sw hd (by omega)).1, (zl_d so sw hd (by omega)).2, if_neg (by omega), if_neg (by omega), if_neg (by omega), if_neg (by omega)] at this
  rw [show a + 38 + 5 * d + 2 = a + (40 + 5 * d) by omega, show w = 8 + w - 8 by omega, show 57 + 10 * d + 8 + (8 + w - 8) = 57 + 10 * d + (8 + w) by omega]
  exact this
theorem HR_way {I : zII} {a : Nat} {g : Nat → Int32} {so sw : Nat → Nat} (h : z_HR I a g so sw) {d s k : Nat} (hd : d < 12) (hs : s < 2) (hk : k < 6) : I (a + 38 + 5 * d + 4) (2 * ((sw (2 * d + s) + k) % 6) + (1 - s)) = g (177 + 12 * d + 6 * s + k) := by
  have := h (177 + 12 * d + 6 * s + k) (by omega) (by unfold sc; omega)
  rw [(zl_w so sw hd hs hk).1, (zl_w so sw hd hs hk).2] at this
  rw [show a + 38 + 5 * d + 4 = a + (42 + 5 * d) by omega]
  exact this
theorem HR_old {I : zII} {a : Nat} {g : Nat → Int32} {so sw : Nat → Nat} (h : z_HR I a g so sw) {i k : Nat} (hi : i < 8) (hk : k < 32) : I (a + 22 + 2 * i + 1) ((so i + 31 - k) % 32) = g (401 + 32 * i + k) := by
  have := h (401 + 32 * i + k) (by omega) (by unfold sc; omega)
  rw [(zl_o so sw hi hk).1, (zl_o so sw hi hk).2] at this
  rw [show a + 22 + 2 * i + 1 = a + (23 + 2 * i) by omega]
  exact this


