/-! THE CLASS, a house's cells: single writes, rings that turn -/
theorem upd_self (f : Nat → Int32) (k : Nat) : upd f k (f k) = f := by
  funext j
  by_cases h : j = k
  · subst h; exact upd_s _ _ _
  · exact upd_n _ _ h
theorem HRw_room {I : zII} {a : Nat} {g : Nat → Int32} {so sw : Nat → Nat} (h : z_HR I a g so sw) {r w : Nat} (v : Int32) (hr : r < 8) (hw : w < 6) : z_HR (zw I (a + 22 + 2 * r) w v) a (upd g (9 + 6 * r + w) v) so sw :=
  HR_w h v (by omega) (by unfold sc; omega) (by rw [(zl_r so sw hr hw).1]; omega) (by rw [(zl_r so sw hr hw).2])
theorem HRw_door {I : zII} {a : Nat} {g : Nat → Int32} {so sw : Nat → Nat} (h : z_HR I a g so sw) {d w : Nat} (v : Int32) (hd : d < 12) (h1 : 1 ≤ w) (hw : w < 7) : z_HR (zw I (a + 38 + 5 * d) w v) a (upd g (57 + 10 * d + (w + 1)) v) so sw :=
  HR_w h v (by omega) (by unfold sc; omega) (by rw [(zl_d so sw hd (by omega)).1, if_neg (by omega), if_pos (by omega)]; omega) (by rw [(zl_d so sw hd (by omega)).2, if_neg (by omega), if_pos (by omega)]; omega)
theorem HRw_side {I : zII} {a : Nat} {g : Nat → Int32} {so sw : Nat → Nat} (h : z_HR I a g so sw) {d w : Nat} (v : Int32) (hd : d < 12) (hw : w < 2) : z_HR (zw I (a + 38 + 5 * d + 1) w v) a (upd g (57 + 10 * d + w) v) so sw :=
  HR_w h v (by omega) (by unfold sc; omega) (by rw [(zl_d so sw hd (by omega)).1, if_pos hw]; omega) (by rw [(zl_d so sw hd (by omega)).2, if_pos hw])
theorem HRw_gone {I : zII} {a : Nat} {g : Nat → Int32} {so sw : Nat → Nat} (h : z_HR I a g so sw) {d w : Nat} (v : Int32) (hd : d < 12) (hw : w < 2) : z_HR (zw I (a + 38 + 5 * d + 2) w v) a (upd g (57 + 10 * d + 8 + w) v) so sw := by
  rw [show 57 + 10 * d + 8 + w = 57 + 10 * d + (8 + w) by omega]
  exact HR_w h v (by omega) (by unfold sc; omega) (by rw [(zl_d so sw hd (by omega)).1, if_neg (by omega), if_neg (by omega)]; omega) (by rw [(zl_d so sw hd (by omega)).2, if_neg (by omega), if_neg (by omega)]; omega)
theorem HRw_way {I : zII} {a : Nat} {g : Nat → Int32} {so sw : Nat → Nat} (h : z_HR I a g so sw) {d s k : Nat} (v : Int32) (hd : d < 12) (hs : s < 2) (hk : k < 6) : z_HR (zw I (a + 38 + 5 * d + 4) (2 * ((sw (2 * d + s) + k) % 6) + (1 - s)) v) a (upd g (177 + 12 * d + 6 * s + k) v) so sw :=
  HR_w h v (by omega) (by unfold sc; omega) (by rw [(zl_w so sw hd hs hk).1]; omega) (by rw [(zl_w so sw hd hs hk).2])
theorem HRw_0 {I : zII} {a : Nat} {g : Nat → Int32} {so sw : Nat → Nat} (h : z_HR I a g so sw) (v : Int32) : z_HR (zw I a 4 v) a (upd g 0 v) so sw := HR_w h v (by decide) (by unfold sc; omega) rfl rfl
theorem HRw_1 {I : zII} {a : Nat} {g : Nat → Int32} {so sw : Nat → Nat} (h : z_HR I a g so sw) (v : Int32) : z_HR (zw I a 5 v) a (upd g 1 v) so sw := HR_w h v (by decide) (by unfold sc; omega) rfl rfl
theorem HRw_3 {I : zII} {a : Nat} {g : Nat → Int32} {so sw : Nat → Nat} (h : z_HR I a g so sw) (v : Int32) : z_HR (zw I a 6 v) a (upd g 3 v) so sw := HR_w h v (by decide) (by unfold sc; omega) rfl rfl
theorem HRw_4 {I : zII} {a : Nat} {g : Nat → Int32} {so sw : Nat → Nat} (h : z_HR I a g so sw) (v : Int32) : z_HR (zw I a 7 v) a (upd g 4 v) so sw := HR_w h v (by decide) (by unfold sc; omega) rfl rfl
theorem HRw_5 {I : zII} {a : Nat} {g : Nat → Int32} {so sw : Nat → Nat} (h : z_HR I a g so sw) (v : Int32) : z_HR (zw I a 8 v) a (upd g 5 v) so sw := HR_w h v (by decide) (by unfold sc; omega) rfl rfl
theorem HRw_6 {I : zII} {a : Nat} {g : Nat → Int32} {so sw : Nat → Nat} (h : z_HR I a g so sw) (v : Int32) : z_HR (zw I a 9 v) a (upd g 6 v) so sw := HR_w h v (by decide) (by unfold sc; omega) rfl rfl
theorem HRw_set {I : zII} {a : Nat} {g : Nat → Int32} {so sw : Nat → Nat} (h : z_HR I a g so sw) {w : Nat} (v : Int32) (hw : w < 2) : z_HR (zw I (a + 21) w v) a (upd g (7 + w) v) so sw := by
  rcases (show w = 0 ∨ w = 1 by omega) with rfl | rfl
  · exact HR_w h v (by decide) (by unfold sc; omega) rfl rfl
  · exact HR_w h v (by decide) (by unfold sc; omega) rfl rfl
/-- places depend on the rings' turns of their own room or door alone -/
theorem zlk_ss {so so' sw sw' : Nat → Nat} {c : Nat} (h1 : sc c) (h2 : c < 657) (ho : ∀ i k, i < 8 → k < 32 → c = 401 + 32 * i + k → so i = so' i) (hw : ∀ d s k, d < 12 → s < 2 → k < 6 → c = 177 + 12 * d + 6 * s + k → sw (2 * d + s) = sw' (2 * d + s)) : zlk so sw c = zlk so' sw' c := by
  rcases zl_cases h1 h2 with rfl | rfl | rfl | rfl | rfl | rfl | rfl | rfl | ⟨r, w, q1, q2, rfl⟩ | ⟨d, w, q1, q2, rfl⟩ | ⟨d, s, k, q1, q2, q3, rfl⟩ | ⟨i, k, q1, q2, rfl⟩
  · rfl
  · rfl
  · rfl
  · rfl
  · rfl
  · rfl
  · rfl
  · rfl
  · rw [(zl_r so sw q1 q2).2, (zl_r so' sw' q1 q2).2]
  · rw [(zl_d so sw q1 q2).2, (zl_d so' sw' q1 q2).2]
  · rw [(zl_w so sw q1 q2 q3).2, (zl_w so' sw' q1 q2 q3).2, hw d s k q1 q2 q3 rfl]
  · rw [(zl_o so sw q1 q2).2, (zl_o so' sw' q1 q2).2, ho i k q1 q2 rfl]
/-- where a ring is empty its turn may be any -/
theorem HR_sox {I : zII} {a : Nat} {g : Nat → Int32} {so sw so' sw' : Nat → Nat} (h : z_HR I a g so sw) (ho : ∀ i, i < 8 → so i = so' i ∨ ∀ k, k < 32 → g (401 + 32 * i + k) = 0) (hw : ∀ d s, d < 12 → s < 2 → sw (2 * d + s) = sw' (2 * d + s) ∨ ∀ k, k < 6 → g (177 + 12 * d + 6 * s + k) = 0) : z_HR I a g so' sw' := by
  intro c h2 h1
  by_cases c1 : 401 ≤ c
  · obtain ⟨i, k, q1, q2, rfl⟩ : ∃ i k, i < 8 ∧ k < 32 ∧ c = 401 + 32 * i + k := ⟨(c - 401) / 32, (c - 401) % 32, by omega, by omega, by omega⟩
    rcases ho i q1 with e | e
    · rw [← h _ h2 h1, zlk_ss (so := so') (sw := sw') (so' := so) (sw' := sw) h1 h2 (fun i' k' g1 g2 g3 => by rw [show i' = i by omega]; exact e.symm) (fun d s k g1 g2 g3 g4 => absurd g4 (by omega))]
    · rw [e k q2, (zl_o so' sw' q1 q2).1, (zl_o so' sw' q1 q2).2]
      have hp : (so i + 31 - (so i + 31 - (so' i + 31 - k) % 32) % 32) % 32 = (so' i + 31 - k) % 32 := by
        generalize so i = X
        generalize so' i = Y
        omega
      have := HR_old h q1 (show (so i + 31 - (so' i + 31 - k) % 32) % 32 < 32 from Nat.mod_lt _ (by decide))
      rw [hp, e _ (Nat.mod_lt _ (by decide))] at this
      rw [show a + (23 + 2 * i) = a + 22 + 2 * i + 1 by omega]
      exact this
  · by_cases c2 : 177 ≤ c ∧ c < 321
    · obtain ⟨d, s, k, q1, q2, q3, rfl⟩ : ∃ d s k, d < 12 ∧ s < 2 ∧ k < 6 ∧ c = 177 + 12 * d + 6 * s + k := ⟨(c - 177) / 12, (c - 177) / 6 % 2, (c - 177) % 6, by omega, by omega, by omega, by omega⟩
      rcases hw d s q1 q2 with e | e
      · rw [← h _ h2 h1, zlk_ss (so := so') (sw := sw') (so' := so) (sw' := sw) h1 h2 (fun i' k' g1 g2 g3 => absurd g3 (by omega)) (fun d' s' k' g1 g2 g3 g4 => by rw [show d' = d by omega, show s' = s by omega]; exact e.symm)]
      · rw [e k q3, (zl_w so' sw' q1 q2 q3).1, (zl_w so' sw' q1 q2 q3).2]
        have hp : (sw (2 * d + s) + ((sw' (2 * d + s) + k) % 6 + 6 - sw (2 * d + s) % 6) % 6) % 6 = (sw' (2 * d + s) + k) % 6 := by
          generalize sw (2 * d + s) = X
          generalize sw' (2 * d + s) = Y
          omega
        have := HR_way h q1 q2 (show ((sw' (2 * d + s) + k) % 6 + 6 - sw (2 * d + s) % 6) % 6 < 6 from Nat.mod_lt _ (by decide))
        rw [hp, e _ (Nat.mod_lt _ (by decide))] at this
        rw [show a + (42 + 5 * d) = a + 38 + 5 * d + 4 by omega]
        exact this
    · rw [← h _ h2 h1, zlk_ss (so := so') (sw := sw') (so' := so) (sw' := sw) h1 h2 (fun i' k' g1 g2 g3 => absurd g3 (by omega)) (fun d s k g1 g2 g3 g4 => absurd g4 (by omega))]
/-- a room keeps what it has -/
theorem HR_keep {I : zII} {a : Nat} {g : Nat → Int32} {so sw so' : Nat → Nat} {r st : Nat} (h : z_HR I a g so sw) (hr : r < 8) (hs : so r = st) (hs' : so' r = st + 1) (ho : ∀ i, i ≠ r → so' i = so i) : z_HR (zw I (a + 22 + 2 * r + 1) (st % 32) (I (a + 22 + 2 * r) 2)) a (oldR g r) so' sw := by
  intro c h2 h1
  by_cases hc : 401 + 32 * r ≤ c ∧ c < 433 + 32 * r
  · obtain ⟨k, hk, rfl⟩ : ∃ k, k < 32 ∧ c = 401 + 32 * r + k := ⟨c - (401 + 32 * r), by omega, by omega⟩
    rw [(zl_o so' sw hr hk).1, (zl_o so' sw hr hk).2, hs', show a + (23 + 2 * r) = a + 22 + 2 * r + 1 by omega]
    by_cases k0 : k = 0
    · subst k0
      rw [show (st + 1 + 31 - 0) % 32 = st % 32 by omega, zw_s, oldR, if_pos (Nat.add_zero _)]
      exact HR_room h hr (by decide)
    · rw [zw_k _ _ (by omega), oldR, if_neg (by omega), if_pos (by omega), show 401 + 32 * r + k - 1 = 401 + 32 * r + (k - 1) by omega, ← HR_old h hr (show k - 1 < 32 by omega), hs, show (st + 1 + 31 - k) % 32 = (st + 31 - (k - 1)) % 32 by omega]
  · rw [oldR, if_neg (by omega), if_neg (by omega), ← h c h2 h1, zlk_ss (so := so') (sw := sw) (so' := so) (sw' := sw) h1 h2 (fun i k g1 g2 g3 => ho i (by omega)) (fun _ _ _ _ _ _ _ => rfl), zw_row]
    intro e
    rcases zlo_k h1 h2 with ⟨g, f⟩ | ⟨g, g2, f⟩ | ⟨g, g2, f⟩ | ⟨g, g2, b, b1, b2, f⟩ | ⟨g, g2, f⟩ | ⟨g, f⟩ <;> omega
/-- what is on its way arrives -/
theorem HR_arr {I : zII} {a : Nat} {g : Nat → Int32} {so sw sw' : Nat → Nat} {d s st : Nat} (h : z_HR I a g so sw) (hd : d < 12) (hs : s < 2) (hw : sw (2 * d + s) = st) (hw' : sw' (2 * d + s) = st + 1) (ho : ∀ i, i ≠ 2 * d + s → sw' i = sw i) : z_HR (zw I (a + 38 + 5 * d + 4) (2 * (st % 6) + (1 - s)) 0) a (upd (arr2 g (177 + 12 * d + 6 * s) 5) (177 + 12 * d + 6 * s + 5) 0) so sw' := by
  intro c h2 h1
  by_cases hc : 177 + 12 * d + 6 * s ≤ c ∧ c < 177 + 12 * d + 6 * s + 6
  · obtain ⟨k, hk, rfl⟩ : ∃ k, k < 6 ∧ c = 177 + 12 * d + 6 * s + k := ⟨c - (177 + 12 * d + 6 * s), by omega, by omega⟩
    rw [(zl_w so sw' hd hs hk).1, (zl_w so sw' hd hs hk).2, hw', show a + (42 + 5 * d) = a + 38 + 5 * d + 4 by omega]
    by_cases k5 : k = 5
    · subst k5
      rw [show (st + 1 + 5) % 6 = st % 6 by omega, zw_s, upd_s]
    · rw [zw_k _ _ (by omega), upd_n _ _ (by omega), arr2, if_pos (by omega), Nat.add_assoc (177 + 12 * d + 6 * s) k 1, ← HR_way h hd hs (show k + 1 < 6 by omega), hw, show st + 1 + k = st + (k + 1) by omega]
  · rw [upd_n _ _ (by omega), arr2, if_neg (by omega), ← h c h2 h1, zlk_ss (so := so) (sw := sw') (so' := so) (sw' := sw) h1 h2 (fun _ _ _ _ _ => rfl) (fun d' s' k g1 g2 g3 g4 => ho _ (by omega))]
    by_cases hr : 177 ≤ c ∧ c < 321
    · obtain ⟨d', s', k, q1, q2, q3, rfl⟩ : ∃ d s k, d < 12 ∧ s < 2 ∧ k < 6 ∧ c = 177 + 12 * d + 6 * s + k := ⟨(c - 177) / 12, (c - 177) / 6 % 2, (c - 177) % 6, by omega, by omega, by omega, by omega⟩
      rw [(zl_w so sw q1 q2 q3).1, (zl_w so sw q1 q2 q3).2]
      by_cases e : d' = d
      · subst e
        have : s' ≠ s := fun z => hc (by subst z; omega)
        rw [zw_k _ _ (by omega)]
      · rw [zw_row _ _ (by omega)]
    · rw [zw_row]
      intro e
      rcases zlo_k h1 h2 with ⟨g, f⟩ | ⟨g, g2, f⟩ | ⟨g, g2, f⟩ | ⟨g, g2, b, b1, b2, f⟩ | ⟨g, g2, f⟩ | ⟨g, f⟩ <;> omega
/-- rows of what leaves are no cells of the row -/
theorem HR_l {I I' : zII} {a : Nat} {g : Nat → Int32} {so sw : Nat → Nat} (h : z_HR I a g so sw) (hI : ∀ q, (∀ j, j < 12 → q ≠ a + 38 + 5 * j + 3) → I' q = I q) : z_HR I' a g so sw := by
  intro c h2 h1
  rw [hI]
  · exact h c h2 h1
  · intro j hj e
    rcases zlo_k h1 h2 with ⟨g, f⟩ | ⟨g, g2, f⟩ | ⟨g, g2, f⟩ | ⟨g, g2, b, b1, b2, f⟩ | ⟨g, g2, f⟩ | ⟨g, f⟩ <;> omega
/-- a door is aimed -/
theorem HR_aim {I : zII} {a : Nat} {h : Nat → Int32} {so sw : Nat → Nat} (hG : z_HR I a h so sw) {d : Nat} (hd : d < 12) (x : Int32) (hl : h (57 + 10 * d + 7) = 0 ∨ h (57 + 10 * d + 7) = 1) : z_HR (if I (a + 38 + 5 * d) 6 = 0 then zw I (a + 38 + 5 * d) 5 x else I) a (upd h (57 + 10 * d + 6) (if h (57 + 10 * d + 7) = 1 then h (57 + 10 * d + 6) else x)) so sw := by
  rw [HR_door hG hd (w := 6) (by decide) (by decide)]
  rcases hl with e | e
  · rw [e, if_pos rfl, if_neg (by decide)]
    exact HRw_door hG x hd (w := 5) (by decide) (by decide)
  · rw [e, if_neg (by decide), if_pos rfl, upd_self]
    exact hG
theorem aim_f {I : zII} {d : Nat} {x : Int32} : ∀ q, q ≠ d → (if I d 6 = 0 then zw I d 5 x else I) q = I q := by
  intro q hq
  split
  · exact zw_row _ _ hq
  · rfl


