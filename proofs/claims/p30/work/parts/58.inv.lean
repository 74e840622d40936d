/-! WHAT IS KEPT by what changes the row -/
theorem EOK_mono {nr nd nr' nd' st : Nat} {e : zE} (h : EOK nr nd st e) (h1 : nr ≤ nr') (h2 : nd ≤ nd') : EOK nr' nd' st e := by
  obtain ⟨f, kd, wh, sp, mu, he, hf, hc⟩ := h
  refine ⟨f, kd, wh, sp, mu, he, hf, ?_⟩
  rcases hc with ⟨a, b, c⟩ | ⟨a, b, c⟩
  · exact Or.inl ⟨a, by omega, c⟩
  · exact Or.inr ⟨a, by omega, c⟩
theorem DOK_mono {nr nr' d : Nat} {g : Nat → Int32} (h : DOK nr d g) (h1 : nr ≤ nr') : DOK nr' d g := by
  obtain ⟨a, b, ar, sp, de, o, t, l, q1, q2, q3⟩ := h
  exact ⟨a, b, ar, sp, de, o, t, l, ⟨q1.1, by omega⟩, ⟨q2.1, by omega⟩, q3⟩
theorem DOK_congr {nr d : Nat} {g h : Nat → Int32} (hk : DOK nr d g) (e : ∀ w, w < 8 → h (57 + 10 * d + w) = g (57 + 10 * d + w)) : DOK nr d h := by
  unfold DOK at hk ⊢
  rw [e 0 (by omega), e 1 (by omega), e 2 (by omega), e 3 (by omega), e 4 (by omega), e 5 (by omega), e 6 (by omega), e 7 (by omega)]
  exact hk
/-- one door's numbers alone are others -/
theorem INV_dok {nr nd np st : Nat} {g h : Nat → Int32} (hI : INV nr nd np st g) {d : Nat} (hd : d < nd) (hk : DOK nr d h) (e : ∀ c, c < 57 + 10 * d ∨ 67 + 10 * d ≤ c → h c = g c) : INV nr nd np st h := by
  obtain ⟨⟨a1, a2⟩, ⟨b1, b2⟩, ⟨c1, c2⟩, d1, e1, f1, p1, p2⟩ := hI
  refine ⟨⟨by rw [e 0 (by omega)]; exact a1, a2⟩, ⟨by rw [e 1 (by omega)]; exact b1, b2⟩, ⟨by rw [e 2 (by omega)]; exact c1, c2⟩, by rw [e 3 (by omega)]; exact d1, ?_, ?_, ?_, ?_⟩
  · intro r hr
    refine ⟨fun hn => ?_, fun hn => ⟨fun w hw => ?_, fun k hk => ?_⟩⟩
    · rw [e (9 + 6 * r + 0) (by omega), e (9 + 6 * r + 5) (by omega)]
      exact (e1 r hr).1 hn
    · rw [e (9 + 6 * r + w) (by omega)]
      exact ((e1 r hr).2 hn).1 w hw
    · rw [e (401 + 32 * r + k) (by omega)]
      exact ((e1 r hr).2 hn).2 k hk
  · intro d' hd'
    refine ⟨fun hn => ?_, fun hn => ⟨fun w hw => ?_, fun k hk => ?_⟩⟩
    · by_cases hdd : d' = d
      · subst hdd; exact hk
      · exact DOK_congr ((f1 d' hd').1 hn) (fun w hw => e _ (by omega))
    · rw [e (57 + 10 * d' + w) (by omega)]
      exact ((f1 d' hd').2 hn).1 w hw
    · rw [e (177 + 12 * d' + k) (by omega)]
      exact ((f1 d' hd').2 hn).2 k hk
  · intro k hk
    rw [ent_congr (h := g) (fun j h1 h2 => e j (by omega))]
    exact p1 k hk
  · intro k hk
    rw [gN_congr (e (321 + 5 * k) (by omega)), gN_congr (e (321 + 5 * (k + 1)) (by omega))]
    exact p2 k hk
theorem INV_lock {nr nd np st : Nat} {g : Nat → Int32} (hI : INV nr nd np st g) {d v : Nat} (hd : d < nd) (hv : v ≤ 1) : INV nr nd np st (upd (upd g (57 + 10 * d + 7) (nI v)) (57 + 10 * d + 6) (if nI v = 1 then g (57 + 10 * d + 5) else g (57 + 10 * d + 6))) := by
  have hnd := hI.2.1.2
  refine INV_dok hI hd ?_ (fun c hc => by rw [upd_n _ _ (by omega), upd_n _ _ (by omega)])
  obtain ⟨a, b, ar, sp, de, o, t, l, q1, q2, q3, q4, q5, q6, q7, q8, q9⟩ := (hI.2.2.2.2.2.1 d (by omega)).1 hd
  have e : ∀ w, w < 6 → upd (upd g (57 + 10 * d + 7) (nI v)) (57 + 10 * d + 6) (if nI v = 1 then g (57 + 10 * d + 5) else g (57 + 10 * d + 6)) (57 + 10 * d + w) = g (57 + 10 * d + w) := fun w hw => by rw [upd_n _ _ (by omega), upd_n _ _ (by omega)]
  have e7 : upd (upd g (57 + 10 * d + 7) (nI v)) (57 + 10 * d + 6) (if nI v = 1 then g (57 + 10 * d + 5) else g (57 + 10 * d + 6)) (57 + 10 * d + 7) = nI v := by rw [upd_n _ _ (by omega), upd_s]
  by_cases h1 : nI v = 1
  · refine ⟨a, b, ar, sp, de, o, o, v, ?_, ?_, q3, ?_, ?_, ?_, ?_, ?_, e7, hv⟩
    · rw [e 0 (by omega)]; exact q1
    · rw [e 1 (by omega)]; exact q2
    · rw [e 2 (by omega)]; exact q4
    · rw [e 3 (by omega)]; exact q5
    · rw [e 4 (by omega)]; exact q6
    · rw [e 5 (by omega)]; exact q7
    · rw [upd_s, if_pos h1]; exact q7
  · refine ⟨a, b, ar, sp, de, o, t, v, ?_, ?_, q3, ?_, ?_, ?_, ?_, ?_, e7, hv⟩
    · rw [e 0 (by omega)]; exact q1
    · rw [e 1 (by omega)]; exact q2
    · rw [e 2 (by omega)]; exact q4
    · rw [e 3 (by omega)]; exact q5
    · rw [e 4 (by omega)]; exact q6
    · rw [e 5 (by omega)]; exact q7
    · rw [upd_s, if_neg h1]; exact q8
theorem INV_open {nr nd np st : Nat} {g : Nat → Int32} (hI : INV nr nd np st g) {d t : Nat} (hd : d < nd) (ht : t ≤ 10) : INV nr nd np st (upd g (57 + 10 * d + 6) (nI t)) := INV_door hI hd ht (fun j _ hj => upd_n _ _ hj) (Or.inr ⟨upd_s _ _ _, upd_n _ _ (by omega)⟩)
theorem INV_set {nr nd np st : Nat} {g : Nat → Int32} (hI : INV nr nd np st g) {w : Nat} (hw : w < 2) (v : Int32) : INV nr nd np st (upd g (7 + w) v) := INV_free hI (fun j hj => upd_n _ _ (fun e => hj (by rw [e]; unfold fre; omega)))
/-- a new room's row, as its cells are -/
theorem roomG_e {nr nd np st : Nat} {g : Nat → Int32} (hI : INV nr nd np st g) (hr : nr < 8) (v a : Int32) : ∀ c, roomG g nr v a c = upd (upd (upd (upd g (9 + 6 * nr + 0) v) (9 + 6 * nr + 1) a) (9 + 6 * nr + 5) (g 3)) 0 (nI (nr + 1)) c := by
  intro c
  obtain ⟨z1, z2⟩ := (hI.2.2.2.2.1 nr hr).2 (Nat.le_refl _)
  rw [roomG]
  by_cases c0 : c = 0
  · rw [c0, upd_s, upd_s]
  · rw [upd_n _ _ c0, upd_n _ _ c0, zfG]
    by_cases h : 401 + 32 * nr ≤ c ∧ c < 401 + 32 * nr + 32
    · rw [if_pos h, upd_n _ _ (by omega), upd_n _ _ (by omega), upd_n _ _ (by omega)]
      have := z2 (c - (401 + 32 * nr)) (by omega)
      rw [show 401 + 32 * nr + (c - (401 + 32 * nr)) = c by omega] at this
      exact this.symm
    · rw [if_neg h, roomA]
      by_cases c5 : c = 9 + 6 * nr + 5
      · rw [c5, upd_s, upd_s]
      · rw [upd_n _ _ c5, upd_n _ _ c5]
        by_cases c4 : c = 9 + 6 * nr + 4
        · rw [c4, upd_s, upd_n _ _ (by omega), upd_n _ _ (by omega), z1 4 (by decide)]
        · rw [upd_n _ _ c4]
          by_cases c3 : c = 9 + 6 * nr + 3
          · rw [c3, upd_s, upd_n _ _ (by omega), upd_n _ _ (by omega), z1 3 (by decide)]
          · rw [upd_n _ _ c3]
            by_cases c2 : c = 9 + 6 * nr + 2
            · rw [c2, upd_s, upd_n _ _ (by omega), upd_n _ _ (by omega), z1 2 (by decide)]
            · rw [upd_n _ _ c2]
theorem INV_room {nr nd np st : Nat} {g : Nat → Int32} (hI : INV nr nd np st g) (hr : nr < 8) (hst : st ≤ 6000) {v : Nat} (h1 : 10 ≤ v) (h2 : v ≤ 10000) (a : Int32) : INV (nr + 1) nd np st (roomG g nr (nI v) a) := by
  have hc := roomG_e hI hr (nI v) a
  have ho : ∀ c, c ≠ 0 → (c < 9 + 6 * nr ∨ 15 + 6 * nr ≤ c) → roomG g nr (nI v) a c = g c := fun c h0 h => by rw [hc, upd_n _ _ h0, upd_n _ _ (by omega), upd_n _ _ (by omega), upd_n _ _ (by omega)]
  obtain ⟨⟨a1, a2⟩, ⟨b1, b2⟩, ⟨c1, c2⟩, d1, e1, f1, p1, p2⟩ := hI
  refine ⟨⟨by rw [hc, upd_s], by omega⟩, ⟨by rw [ho 1 (by omega) (by omega)]; exact b1, b2⟩, ⟨by rw [ho 2 (by omega) (by omega)]; exact c1, c2⟩, by rw [ho 3 (by omega) (by omega)]; exact d1, ?_, ?_, ?_, ?_⟩
  · intro r hr2
    refine ⟨fun hn => ?_, fun hn => ⟨fun w hw => ?_, fun k hk => ?_⟩⟩
    · by_cases e : r = nr
      · subst e
        refine ⟨⟨v, ?_, h1, h2⟩, ⟨st, ?_, hst⟩⟩
        · rw [hc, upd_n _ _ (by omega), upd_n _ _ (by omega), upd_n _ _ (by omega), upd_s]
        · rw [hc, upd_n _ _ (by omega), upd_s]; exact d1
      · rw [ho (9 + 6 * r + 0) (by omega) (by omega), ho (9 + 6 * r + 5) (by omega) (by omega)]
        exact (e1 r hr2).1 (by omega)
    · rw [ho (9 + 6 * r + w) (by omega) (by omega)]
      exact ((e1 r hr2).2 (by omega)).1 w hw
    · rw [ho (401 + 32 * r + k) (by omega) (by omega)]
      exact ((e1 r hr2).2 (by omega)).2 k hk
  · intro d hd
    refine ⟨fun hn => DOK_mono (DOK_congr ((f1 d hd).1 hn) (fun w hw => ho _ (by omega) (by omega))) (by omega), fun hn => ⟨fun w hw => ?_, fun k hk => ?_⟩⟩
    · rw [ho (57 + 10 * d + w) (by omega) (by omega)]
      exact ((f1 d hd).2 hn).1 w hw
    · rw [ho (177 + 12 * d + k) (by omega) (by omega)]
      exact ((f1 d hd).2 hn).2 k hk
  · intro k hk
    rw [ent_congr (h := g) (fun j h1 h2 => ho j (by omega) (by omega))]
    exact EOK_mono (p1 k hk) (by omega) (Nat.le_refl _)
  · intro k hk
    rw [gN_congr (ho (321 + 5 * k) (by omega) (by omega)), gN_congr (ho (321 + 5 * (k + 1)) (by omega) (by omega))]
    exact p2 k hk
theorem doorG_e {nr nd np st : Nat} {g : Nat → Int32} (hI : INV nr nd np st g) (hd : nd < 12) (x1 x2 x3 x4 x5 : Int32) : ∀ c, doorG g nd x1 x2 x3 x4 x5 c = upd (upd (upd (upd (upd (upd g (57 + 10 * nd + 0) x1) (57 + 10 * nd + 1) x2) (57 + 10 * nd + 2) x3) (57 + 10 * nd + 3) x4) (57 + 10 * nd + 4) x5) 1 (nI (nd + 1)) c := by
  intro c
  obtain ⟨z1, z2⟩ := (hI.2.2.2.2.2.1 nd hd).2 (Nat.le_refl _)
  rw [doorG]
  by_cases c0 : c = 1
  · rw [c0, upd_s, upd_s]
  · rw [upd_n _ _ c0, upd_n _ _ c0, zfG]
    by_cases h : 177 + 12 * nd ≤ c ∧ c < 177 + 12 * nd + 12
    · rw [if_pos h, upd_n _ _ (by omega), upd_n _ _ (by omega), upd_n _ _ (by omega), upd_n _ _ (by omega), upd_n _ _ (by omega)]
      have := z2 (c - (177 + 12 * nd)) (by omega)
      rw [show 177 + 12 * nd + (c - (177 + 12 * nd)) = c by omega] at this
      exact this.symm
    · rw [if_neg h, doorA]
      by_cases c5 : c = 57 + 10 * nd + 4
      · rw [c5, upd_s, upd_s]
      · rw [upd_n _ _ c5, upd_n _ _ c5]
        by_cases c4 : c = 57 + 10 * nd + 3
        · rw [c4, upd_s, upd_s]
        · rw [upd_n _ _ c4, upd_n _ _ c4]
          by_cases c3 : c = 57 + 10 * nd + 2
          · rw [c3, upd_s, upd_s]
          · rw [upd_n _ _ c3, upd_n _ _ c3]
            by_cases c2 : c = 57 + 10 * nd + 1
            · rw [c2, upd_s, upd_s]
            · rw [upd_n _ _ c2, upd_n _ _ c2]
              by_cases c1 : c = 57 + 10 * nd
              · rw [c1, upd_s, show 57 + 10 * nd = 57 + 10 * nd + 0 from rfl, upd_s]
              · rw [upd_n _ _ c1, upd_n _ _ (show c ≠ 57 + 10 * nd + 0 from c1), zfG]
                by_cases h2 : 57 + 10 * nd ≤ c ∧ c < 57 + 10 * nd + 10
                · rw [if_pos h2]
                  have := z1 (c - (57 + 10 * nd)) (by omega)
                  rw [show 57 + 10 * nd + (c - (57 + 10 * nd)) = c by omega] at this
                  exact this.symm
                · rw [if_neg h2]
theorem INV_newdoor {nr nd np st : Nat} {g : Nat → Int32} (hI : INV nr nd np st g) (hd : nd < 12) {x y ar sp de : Nat} (hx : x < nr) (hy : y < nr ∨ y = 8) (hxy : x ≠ y) (ha : 1 ≤ ar ∧ ar ≤ 1000) (hs : 1 ≤ sp ∧ sp ≤ 10) (hde : de ≤ 5) : INV nr (nd + 1) np st (doorG g nd (nI x) (nI y) (nI ar) (nI sp) (nI de)) := by
  have hc := doorG_e hI hd (nI x) (nI y) (nI ar) (nI sp) (nI de)
  have ho : ∀ c, c ≠ 1 → (c < 57 + 10 * nd ∨ 62 + 10 * nd ≤ c) → doorG g nd (nI x) (nI y) (nI ar) (nI sp) (nI de) c = g c := fun c h0 h => by rw [hc, upd_n _ _ h0, upd_n _ _ (by omega), upd_n _ _ (by omega), upd_n _ _ (by omega), upd_n _ _ (by omega), upd_n _ _ (by omega)]
  obtain ⟨⟨a1, a2⟩, ⟨b1, b2⟩, ⟨c1, c2⟩, d1, e1, f1, p1, p2⟩ := hI
  obtain ⟨z1, z2⟩ := (f1 nd hd).2 (Nat.le_refl _)
  refine ⟨⟨by rw [ho 0 (by omega) (by omega)]; exact a1, a2⟩, ⟨by rw [hc, upd_s], by omega⟩, ⟨by rw [ho 2 (by omega) (by omega)]; exact c1, c2⟩, by rw [ho 3 (by omega) (by omega)]; exact d1, ?_, ?_, ?_, ?_⟩
  · intro r hr2
    refine ⟨fun hn => ?_, fun hn => ⟨fun w hw => ?_, fun k hk => ?_⟩⟩
    · rw [ho (9 + 6 * r + 0) (by omega) (by omega), ho (9 + 6 * r + 5) (by omega) (by omega)]
      exact (e1 r hr2).1 hn
    · rw [ho (9 + 6 * r + w) (by omega) (by omega)]
      exact ((e1 r hr2).2 hn).1 w hw
    · rw [ho (401 + 32 * r + k) (by omega) (by omega)]
      exact ((e1 r hr2).2 hn).2 k hk
  · intro d hd2
    refine ⟨fun hn => ?_, fun hn => ⟨fun w hw => ?_, fun k hk => ?_⟩⟩
    · by_cases e : d = nd
      · subst e
        refine ⟨x, y, ar, sp, de, 0, 0, 0, ⟨?_, hx⟩, ⟨?_, hy⟩, hxy, ⟨?_, ha⟩, ⟨?_, hs⟩, ⟨?_, hde⟩, ⟨?_, by decide⟩, ⟨?_, by decide⟩, ⟨?_, by decide⟩⟩
        · rw [hc, upd_n _ _ (by omega), upd_n _ _ (by omega), upd_n _ _ (by omega), upd_n _ _ (by omega), upd_n _ _ (by omega), upd_s]
        · rw [hc, upd_n _ _ (by omega), upd_n _ _ (by omega), upd_n _ _ (by omega), upd_n _ _ (by omega), upd_s]
        · rw [hc, upd_n _ _ (by omega), upd_n _ _ (by omega), upd_n _ _ (by omega), upd_s]
        · rw [hc, upd_n _ _ (by omega), upd_n _ _ (by omega), upd_s]
        · rw [hc, upd_n _ _ (by omega), upd_s]
        · rw [ho _ (by omega) (by omega), z1 5 (by decide), nI_0]
        · rw [ho _ (by omega) (by omega), z1 6 (by decide), nI_0]
        · rw [ho _ (by omega) (by omega), z1 7 (by decide), nI_0]
      · exact DOK_congr ((f1 d hd2).1 (by omega)) (fun w hw => ho _ (by omega) (by omega))
    · rw [ho (57 + 10 * d + w) (by omega) (by omega)]
      exact ((f1 d hd2).2 (by omega)).1 w hw
    · rw [ho (177 + 12 * d + k) (by omega) (by omega)]
      exact ((f1 d hd2).2 (by omega)).2 k hk
  · intro k hk
    rw [ent_congr (h := g) (fun j h1 h2 => ho j (by omega) (by omega))]
    exact EOK_mono (p1 k hk) (Nat.le_refl _) (by omega)
  · intro k hk
    rw [gN_congr (ho (321 + 5 * k) (by omega) (by omega)), gN_congr (ho (321 + 5 * (k + 1)) (by omega) (by omega))]
    exact p2 k hk
theorem arrN_5 {nr nd np st : Nat} {g : Nat → Int32} (hI : INV nr nd np st g) : ∀ m, m ≤ 2 * nd → arrN g m 5 = g 5 := by
  intro m
  induction m with
  | zero => intro _; rfl
  | succ m ih =>
    intro hm
    have hnd := hI.2.1.2
    have hIm : INV nr nd np st (arrN g m) := INV_free hI (arrN_fre hI m (by omega))
    obtain ⟨b, hb, hb8, -⟩ := INV_side hIm (d := m / 2) (s := 1 - m % 2) (by omega) (by omega)
    have hc : ¬ 5 = (if b = 8 then 4 else 9 + 6 * b + 2) := by split <;> omega
    rw [arrN, arrR_j (b := b) (by omega) (by omega) (gN_of hb (by omega)) hb8, if_neg hc, if_neg (by omega), if_neg (by omega)]
    exact ih (by omega)
theorem sendN_5 (fl g : Nat → Int32) : ∀ m, sendN fl g m 5 = g 5 := by
  intro m
  induction m with
  | zero => rfl
  | succ m ih =>
    rw [sendN, sendR, upd_n _ _ (by omega), snd2, upd_n _ _ (by omega), snd1]
    split
    · exact ih
    · rw [upd_n _ _ (by omega)]
      exact ih
/-- what was told in all is no matter of a step -/
theorem mStep_5 {nr nd np st : Nat} {g : Nat → Int32} (hI : INV nr nd np st g) (hst : st < 100000) : mStep g 5 = g 5 := by
  obtain ⟨np2, np4, ⟨i1, e1, p1⟩, ⟨i2, e2, p2, s2⟩, ⟨i3, e3, p3⟩, ⟨i4, e4, p4, s4⟩, ⟨i5, e5⟩, ⟨i6, e6⟩, ⟨i7, e7⟩, -⟩ := step_facts hI hst
  have sc5 : sc 5 := by unfold sc; omega
  have q1 : mS1 g 5 = g 5 := by rw [e1]; exact oldN_o _ _ _ (by omega)
  have q2 : mS2 g 5 = mS1 g 5 := (s2 5 sc5).trans (aimL_n _ (fun x => by omega) _ _)
  have q3 : mS3 g 5 = mS2 g 5 := by rw [e3]; exact movN_o _ _ _ (by decide) (fun i _ => by omega)
  have q4 : mS4 g 5 = mS3 g 5 := (s4 5 sc5).trans (giveL_n _ (fun x => by omega) _ _)
  have q5 : mS5 g 5 = mS4 g 5 := by rw [e5]; exact absN_o _ _ _ (fun i _ => by omega)
  have q6 : mS6 g 5 = mS5 g 5 := by rw [e6]; exact sendN_5 _ _ _
  have q7 : mS7 g 5 = mS6 g 5 := by rw [e7]; exact arrN_5 i6 _ (Nat.le_refl _)
  have q8 : mStep g 5 = mS7 g 5 := by rw [mStep]; exact upd_n _ _ (by decide)
  rw [q8, q7, q6, q5, q4, q3, q2, q1]


