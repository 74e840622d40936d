/-! THE STEP: what it keeps, what becomes of the plan, as lists -/
def sc (j : Nat) : Prop := j ≠ 2 ∧ (j < 321 ∨ 401 ≤ j)
theorem planL_get (g : Nat → Int32) (np k : Nat) : (planL g np)[k]? = if k < np then some (ent g k) else none := by
  unfold planL
  rw [List.getElem?_map]
  split
  next h => rw [List.getElem?_range h]; rfl
  next h => rw [List.getElem?_eq_none (by rw [List.length_range]; omega)]; rfl
theorem planL_len (g : Nat → Int32) (np : Nat) : (planL g np).length = np := by simp [planL]
theorem planL_congr {g h : Nat → Int32} {np : Nat} (e : ∀ k, k < np → ent g k = ent h k) : planL g np = planL h np := by
  unfold planL
  exact List.map_congr_left (fun k hk => e k (List.mem_range.mp hk))
theorem ent_congr {g h : Nat → Int32} {k : Nat} (e : ∀ j, 321 + 5 * k ≤ j → j < 326 + 5 * k → g j = h j) : ent g k = ent h k := by
  unfold ent
  rw [e (321 + 5 * k + 0) (by omega) (by omega), e (321 + 5 * k + 1) (by omega) (by omega), e (321 + 5 * k + 2) (by omega) (by omega), e (321 + 5 * k + 3) (by omega) (by omega), e (321 + 5 * k + 4) (by omega) (by omega)]
theorem planL_lvs (g : Nat → Int32) {i np : Nat} (hi : i < np) : planL (lvs g i np) (np - 1) = (planL g np).eraseIdx i := by
  apply List.ext_getElem?
  intro k
  rw [planL_get, List.getElem?_eraseIdx, planL_get, planL_get]
  by_cases hk : k < np - 1
  · rw [if_pos hk, ent_lvs g hk]
    by_cases h : k < i
    · rw [if_pos h, if_pos h, if_pos (by omega)]
    · rw [if_neg h, if_neg h, if_pos (by omega)]
  · rw [if_neg hk]
    by_cases h : k < i
    · exfalso; omega
    · rw [if_neg h, if_neg (by omega)]
theorem filter_erase {α : Type} (p : α → Bool) : ∀ (l : List α) (k : Nat) (e : α), l[k]? = some e → p e = false → (l.eraseIdx k).filter p = l.filter p
  | [], k, e, h, _ => by simp at h
  | a :: l, 0, e, h, hp => by
    simp at h
    subst h
    simp [List.eraseIdx, hp]
  | a :: l, k + 1, e, h, hp => by
    simp at h
    have ih := filter_erase p l k e h hp
    simp only [List.eraseIdx_cons_succ, List.filter_cons, ih]
theorem drop_erase {α : Type} : ∀ (l : List α) (k : Nat), (l.eraseIdx k).drop k = l.drop (k + 1)
  | [], k => by simp
  | a :: l, 0 => by simp
  | a :: l, k + 1 => by simp [List.eraseIdx_cons_succ, drop_erase l k]
theorem drop_at {α : Type} : ∀ (l : List α) (k : Nat) (e : α), l[k]? = some e → l.drop k = e :: l.drop (k + 1)
  | [], k, e, h => by simp at h
  | a :: l, 0, e, h => by
    simp at h
    subst h
    simp
  | a :: l, k + 1, e, h => by
    simp at h
    simp only [List.drop_succ_cons]
    exact drop_at l k e h
-- doors' openings and targets
theorem INV_door {nr nd np st : Nat} {g h : Nat → Int32} (hI : INV nr nd np st g) {d v : Nat} (hd : d < nd) (hv : v ≤ 10) (hw : ∀ j, j ≠ 57 + 10 * d + 5 → j ≠ 57 + 10 * d + 6 → h j = g j) (h5 : (h (57 + 10 * d + 5) = nI v ∧ h (57 + 10 * d + 6) = g (57 + 10 * d + 6)) ∨ (h (57 + 10 * d + 6) = nI v ∧ h (57 + 10 * d + 5) = g (57 + 10 * d + 5))) : INV nr nd np st h := by
  obtain ⟨⟨a1, a2⟩, ⟨b1, b2⟩, ⟨c1, c2⟩, d1, e1, f1, p1, p2⟩ := hI
  refine ⟨⟨by rw [hw 0 (by omega) (by omega)]; exact a1, a2⟩, ⟨by rw [hw 1 (by omega) (by omega)]; exact b1, b2⟩, ⟨by rw [hw 2 (by omega) (by omega)]; exact c1, c2⟩, by rw [hw 3 (by omega) (by omega)]; exact d1, ?_, ?_, ?_, ?_⟩
  · intro r hr
    refine ⟨fun hn => ?_, fun hn => ⟨fun w hw2 => ?_, fun k hk => ?_⟩⟩
    · rw [hw (9 + 6 * r + 0) (by omega) (by omega), hw (9 + 6 * r + 5) (by omega) (by omega)]
      exact (e1 r hr).1 hn
    · rw [hw (9 + 6 * r + w) (by omega) (by omega)]
      exact ((e1 r hr).2 hn).1 w hw2
    · rw [hw (401 + 32 * r + k) (by omega) (by omega)]
      exact ((e1 r hr).2 hn).2 k hk
  · intro d2 hd2
    refine ⟨fun hn => ?_, fun hn => ⟨fun w hw2 => ?_, fun k hk => ?_⟩⟩
    · have := (f1 d2 hd2).1 hn
      by_cases e : d2 = d
      · subst e
        obtain ⟨a, b, ar, sp, de, o, t, l, g0, g1, g2, g3, g4, g5, g6, g7, g8⟩ := this
        have q : ∀ w, w < 8 → w ≠ 5 → w ≠ 6 → h (57 + 10 * d2 + w) = g (57 + 10 * d2 + w) := fun w _ _ _ => hw _ (by omega) (by omega)
        unfold DOK
        rw [q 0 (by decide) (by decide) (by decide), q 1 (by decide) (by decide) (by decide), q 2 (by decide) (by decide) (by decide), q 3 (by decide) (by decide) (by decide), q 4 (by decide) (by decide) (by decide), q 7 (by decide) (by decide) (by decide)]
        rcases h5 with ⟨z1, z2⟩ | ⟨z1, z2⟩
        · exact ⟨a, b, ar, sp, de, v, t, l, g0, g1, g2, g3, g4, g5, ⟨z1, hv⟩, ⟨z2.trans g7.1, g7.2⟩, g8⟩
        · exact ⟨a, b, ar, sp, de, o, v, l, g0, g1, g2, g3, g4, g5, ⟨z2.trans g6.1, g6.2⟩, ⟨z1, hv⟩, g8⟩
      · have q : ∀ w, w < 8 → h (57 + 10 * d2 + w) = g (57 + 10 * d2 + w) := fun w _ => hw _ (by omega) (by omega)
        unfold DOK at this ⊢
        rw [q 0 (by omega), q 1 (by omega), q 2 (by omega), q 3 (by omega), q 4 (by omega), q 5 (by omega), q 6 (by omega), q 7 (by omega)]
        exact this
    · rw [hw (57 + 10 * d2 + w) (by omega) (by omega)]
      exact ((f1 d2 hd2).2 hn).1 w hw2
    · rw [hw (177 + 12 * d2 + k) (by omega) (by omega)]
      exact ((f1 d2 hd2).2 hn).2 k hk
  · intro k hk
    rw [ent_congr (fun j h1 h2 => hw j (by omega) (by omega))]
    exact p1 k hk
  · intro k hk
    rw [gN_congr (hw (321 + 5 * k) (by omega) (by omega)), gN_congr (hw (321 + 5 * (k + 1)) (by omega) (by omega))]
    exact p2 k hk
theorem INV_lvs {nr nd np st : Nat} {g : Nat → Int32} (hI : INV nr nd np st g) {i : Nat} (hi : i < np) : INV nr nd (np - 1) st (lvs g i np) := by
  obtain ⟨⟨a1, a2⟩, ⟨b1, b2⟩, ⟨c1, c2⟩, d1, e1, f1, p1, p2⟩ := hI
  have hw : ∀ j, j ≠ 2 → (j < 321 ∨ 401 ≤ j) → lvs g i np j = g j := fun j h1 h2 => lvs_o g h1 h2 c2
  refine ⟨⟨by rw [hw 0 (by omega) (by omega)]; exact a1, a2⟩, ⟨by rw [hw 1 (by omega) (by omega)]; exact b1, b2⟩, ⟨lvs_2 g c1 (by omega), by omega⟩, by rw [hw 3 (by omega) (by omega)]; exact d1, ?_, ?_, ?_, ?_⟩
  · intro r hr
    refine ⟨fun hn => ?_, fun hn => ⟨fun w hw2 => ?_, fun k hk => ?_⟩⟩
    · rw [hw (9 + 6 * r + 0) (by omega) (by omega), hw (9 + 6 * r + 5) (by omega) (by omega)]
      exact (e1 r hr).1 hn
    · rw [hw (9 + 6 * r + w) (by omega) (by omega)]
      exact ((e1 r hr).2 hn).1 w hw2
    · rw [hw (401 + 32 * r + k) (by omega) (by omega)]
      exact ((e1 r hr).2 hn).2 k hk
  · intro d2 hd2
    refine ⟨fun hn => ?_, fun hn => ⟨fun w hw2 => ?_, fun k hk => ?_⟩⟩
    · have := (f1 d2 hd2).1 hn
      have q : ∀ w, w < 8 → lvs g i np (57 + 10 * d2 + w) = g (57 + 10 * d2 + w) := fun w _ => hw _ (by omega) (by omega)
      unfold DOK at this ⊢
      rw [q 0 (by omega), q 1 (by omega), q 2 (by omega), q 3 (by omega), q 4 (by omega), q 5 (by omega), q 6 (by omega), q 7 (by omega)]
      exact this
    · rw [hw (57 + 10 * d2 + w) (by omega) (by omega)]
      exact ((f1 d2 hd2).2 hn).1 w hw2
    · rw [hw (177 + 12 * d2 + k) (by omega) (by omega)]
      exact ((f1 d2 hd2).2 hn).2 k hk
  · intro k hk
    rw [ent_lvs g hk]
    split
    · exact p1 k (by omega)
    · exact p1 (k + 1) (by omega)
  · intro k hk
    have q : ∀ k, k < np - 1 → gN (lvs g i np) (321 + 5 * k) = if k < i then gN g (321 + 5 * k) else gN g (321 + 5 * (k + 1)) := by
      intro k hk
      have := lvs_c g (i := i) (w := 0) hk (by decide)
      unfold gN
      rw [show 321 + 5 * k = 321 + 5 * k + 0 by omega, this]
      split <;> rfl
    rw [q k (by omega), q (k + 1) hk]
    have s1 := p2 k (by omega)
    have s2 := p2 (k + 1) (by omega)
    by_cases h1 : k + 1 < i
    · rw [if_pos h1, if_pos (by omega)]; exact s1
    · rw [if_neg h1]
      by_cases h2 : k < i
      · rw [if_pos h2]; exact Nat.le_trans s1 s2
      · rw [if_neg h2]; exact s2
theorem INV_ent {nr nd np st : Nat} {g : Nat → Int32} (hI : INV nr nd np st g) {k : Nat} (hk : k < np) : ∃ f kd wh sp mu : Nat, g (321 + 5 * k + 0) = nI f ∧ g (321 + 5 * k + 1) = nI kd ∧ g (321 + 5 * k + 2) = nI wh ∧ g (321 + 5 * k + 3) = nI sp ∧ g (321 + 5 * k + 4) = nI mu ∧ f ≤ 5000 ∧ ((kd = 0 ∧ wh < nr ∧ 1 ≤ sp ∧ sp ≤ 20 ∧ st < f + sp ∧ mu ≤ 1000000) ∨ (kd = 1 ∧ wh < nd ∧ sp = 0 ∧ st ≤ f ∧ mu ≤ 10)) := EOK_w (hI.2.2.2.2.2.2.1 k hk)
theorem INV_kd1 {nr nd np st : Nat} {g : Nat → Int32} (hI : INV nr nd np st g) {k : Nat} (hk : k < np) (h1 : g (321 + 5 * k + 1) = 1) : ∃ wh mu : Nat, g (321 + 5 * k + 2) = nI wh ∧ wh < nd ∧ g (321 + 5 * k + 4) = nI mu ∧ mu ≤ 10 := by
  obtain ⟨f, kd, wh, sp, mu, e0, e1, e2, e3, e4, h5, h6⟩ := INV_ent hI hk
  rw [e1, ← zI1] at h1
  have hkd : kd = 1 := (nI_eq (by omega) (by omega)).mp h1
  exact ⟨wh, mu, e2, by omega, e4, by omega⟩
theorem INV_kd0 {nr nd np st : Nat} {g : Nat → Int32} (hI : INV nr nd np st g) {k : Nat} (hk : k < np) (h1 : g (321 + 5 * k + 1) = 0) : ∃ wh : Nat, g (321 + 5 * k + 2) = nI wh ∧ wh < nr := by
  obtain ⟨f, kd, wh, sp, mu, e0, e1, e2, e3, e4, h5, h6⟩ := INV_ent hI hk
  rw [e1, ← nI_0] at h1
  have hkd : kd = 0 := (nI_eq (by omega) (by omega)).mp h1
  exact ⟨wh, e2, by omega⟩
theorem INV_tgK {nr nd np st : Nat} {g : Nat → Int32} (hI : INV nr nd np st g) : tgK nd np g := ⟨hI.2.2.1.1, hI.2.2.1.2, fun k hk h1 => by
  obtain ⟨wh, mu, h2, h3, -⟩ := INV_kd1 hI hk h1
  exact ⟨wh, h2, h3⟩⟩
theorem INV_sndK {nr nd np st : Nat} {g : Nat → Int32} (hI : INV nr nd np st g) : sndK nr np g := ⟨hI.2.2.1.1, hI.2.2.1.2, fun _ hk h1 => INV_kd0 hI hk h1⟩
theorem INV_tgP {nr nd np st : Nat} {g : Nat → Int32} (hI : INV nr nd np st g) {k : Nat} (hk : k < np) (h1 : g (321 + 5 * k + 1) = 1) : INV nr nd np st (tgP g k) := by
  obtain ⟨wh, mu, h2, h3, h4, h5⟩ := INV_kd1 hI hk h1
  have hgw : gN g (321 + 5 * k + 2) = wh := gN_of h2 (by have := hI.2.1.2; omega)
  rw [tgP, hgw]
  by_cases hl : g (57 + 10 * wh + 7) = 1
  · rw [if_pos hl]
    refine INV_free hI (fun j _ => ?_)
    simp only [upd]
    split
    next e => rw [e]
    next => rfl
  · rw [if_neg hl, h4]
    exact INV_door hI h3 h5 (fun j _ hj => upd_n _ _ hj) (Or.inr ⟨upd_s _ _ _, upd_n _ _ (by omega)⟩)
theorem INV_sndQ {nr nd np st : Nat} {g : Nat → Int32} (hI : INV nr nd np st g) {k : Nat} (hk : k < np) : INV nr nd np st (sndQ g k) := by
  unfold sndQ
  split
  next hh =>
    obtain ⟨wh, h2, h3⟩ := INV_kd0 hI hk hh.1
    have hgw : gN g (321 + 5 * k + 2) = wh := gN_of h2 (by have := hI.1.2; omega)
    refine INV_free hI (fun j hj => ?_)
    unfold fre at hj
    have n1 : ¬ (9 + 6 * wh + 1 ≤ j ∧ j ≤ 9 + 6 * wh + 4) := fun e => hj (Or.inr (Or.inr (Or.inr (Or.inr (Or.inr (Or.inl ⟨wh, h3, e.1, e.2⟩))))))
    rw [sndP, hgw, upd_n _ _ (by omega), upd_n _ _ (by omega)]
  next => exact hI


