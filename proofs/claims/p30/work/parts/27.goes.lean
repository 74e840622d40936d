/-! THE REFERENCE, a step whole -/
theorem z_m1 (j : Nat) : nI (j + 1) + Int32.ofInt (-1) = nI j := pk_m1 j
theorem z_end {f sp st : Nat} (h : f + sp = st + 1) : nI f + nI sp - 1 = nI st := by
  rw [nI_add, h]
  exact nI_pred st
theorem z_enE {f sp st wh mu : Nat} (h : f + sp = st + 1) (hst : st < 200000) (hsp : 1 ≤ sp) : enE (nI st) (nI f, nI 0, nI wh, nI sp, nI mu) :=
  ⟨⟨nI_0, nI_nlt (by omega) (by omega), fun z => nI_nlt (Nat.le_refl st) (by omega) ((z_end h) ▸ z)⟩, z_end h⟩
theorem step_facts {nr nd np st : Nat} {g : Nat → Int32} (hI : INV nr nd np st g) (hst : st < 100000) : ∃ np2 np4 : Nat,
    (INV nr nd np st (mS1 g) ∧ mS1 g = oldN g nr ∧ planL (mS1 g) np = planL g np) ∧
    (INV nr nd np2 st (mS2 g) ∧ mS2 g = tgF np 0 (mS1 g) ∧ planL (mS2 g) np2 = (planL g np).filter (keepT (nI st)) ∧ ∀ j, sc j → mS2 g j = aimL (nI st) (mS1 g) (planL g np) j) ∧
    (INV nr nd np2 st (mS3 g) ∧ mS3 g = movN (mS2 g) nd ∧ planL (mS3 g) np2 = planL (mS2 g) np2) ∧
    (INV nr nd np4 st (mS4 g) ∧ mS4 g = sndF np2 0 (mS3 g) ∧ planL (mS4 g) np4 = (planL (mS3 g) np2).filter (keepS (nI st)) ∧ ∀ j, sc j → mS4 g j = giveL (nI st) (mS3 g) (planL (mS3 g) np2) j) ∧
    (INV nr nd np4 st (mS5 g) ∧ mS5 g = absN (mS4 g) nr) ∧
    (INV nr nd np4 st (mS6 g) ∧ mS6 g = sendN (thrG (mS5 g)) (mS5 g) (2 * nd)) ∧
    (INV nr nd np4 st (mS7 g) ∧ mS7 g = arrN (mS6 g) (2 * nd)) ∧
    (INV nr nd np4 (st + 1) (mStep g) ∧ planL (mStep g) np4 = planL (mS4 g) np4) := by
  have hnr := hI.1.2
  have hnd := hI.2.1.2
  have N0 : ∀ {np : Nat} {h : Nat → Int32}, INV nr nd np st h → gN h 0 = nr := fun q => gN_of q.1.1 (by omega)
  have N1 : ∀ {np : Nat} {h : Nat → Int32}, INV nr nd np st h → gN h 1 = nd := fun q => gN_of q.2.1.1 (by omega)
  have N2 : ∀ {np : Nat} {h : Nat → Int32}, INV nr nd np st h → gN h 2 = np := fun q => gN_of q.2.2.1.1 (by have := q.2.2.1.2; omega)
  have e1 : mS1 g = oldN g nr := by rw [mS1, N0 hI]
  have f1 : ∀ j, ¬ fre nr nd j → mS1 g j = g j := by rw [e1]; exact oldN_fre nr (Nat.le_refl _)
  have i1 : INV nr nd np st (mS1 g) := INV_free hI f1
  have p1 : planL (mS1 g) np = planL g np := planL_congr (fun k hk => fre_ent hnr hnd f1 (by have := hI.2.2.1.2; omega))
  have e2 : mS2 g = tgF np 0 (mS1 g) := by rw [mS2, N2 i1]
  obtain ⟨np2, i2, p2, s2⟩ := tgF_spec np 0 np (mS1 g) i1 (Nat.zero_le _) (by omega) (fun j hj => absurd hj (Nat.not_lt_zero j))
  rw [← e2] at i2 p2 s2
  have e3 : mS3 g = movN (mS2 g) nd := by rw [mS3, N1 i2]
  have i3 : INV nr nd np2 st (mS3 g) := by rw [e3]; exact INV_movN i2 nd (Nat.le_refl _)
  have p3 : planL (mS3 g) np2 = planL (mS2 g) np2 := planL_congr (fun k _ => by rw [e3]; exact movN_ent _ _ hnd k)
  have e4 : mS4 g = sndF np2 0 (mS3 g) := by rw [mS4, N2 i3]
  obtain ⟨np4, i4, p4, s4⟩ := sndF_spec np2 0 np2 (mS3 g) i3 (Nat.zero_le _) (by omega) (fun j hj => absurd hj (Nat.not_lt_zero j))
  rw [← e4] at i4 p4 s4
  have e5 : mS5 g = absN (mS4 g) nr := by rw [mS5, N0 i4]
  have f5 : ∀ j, ¬ fre nr nd j → mS5 g j = mS4 g j := by rw [e5]; exact absN_fre (Nat.le_refl _)
  have i5 : INV nr nd np4 st (mS5 g) := INV_free i4 f5
  have e6 : mS6 g = sendN (thrG (mS5 g)) (mS5 g) (2 * nd) := by rw [mS6, N1 i5]
  have f6 : ∀ j, ¬ fre nr nd j → mS6 g j = mS5 g j := by rw [e6]; exact sendN_fre i5 _ (Nat.le_refl _)
  have i6 : INV nr nd np4 st (mS6 g) := INV_free i5 f6
  have e7 : mS7 g = arrN (mS6 g) (2 * nd) := by rw [mS7, N1 i6]
  have f7 : ∀ j, ¬ fre nr nd j → mS7 g j = mS6 g j := by rw [e7]; exact arrN_fre i6 _ (Nat.le_refl _)
  have i7 : INV nr nd np4 st (mS7 g) := INV_free i6 f7
  have h16 : np4 ≤ 16 := i4.2.2.1.2
  have en : ∀ k, k < np4 → ent (mStep g) k = ent (mS4 g) k := fun k hk => by
    rw [mStep, ent_congr (g := upd (mS7 g) 3 (mS7 g 3 + 1)) (h := mS7 g) (fun j h1 h2 => upd_n _ _ (by omega)), fre_ent hnr hnd f7 (by omega), fre_ent hnr hnd f6 (by omega), fre_ent hnr hnd f5 (by omega)]
  have p8 : planL (mStep g) np4 = planL (mS4 g) np4 := planL_congr en
  refine ⟨np2, np4, ⟨i1, e1, p1⟩, ⟨i2, e2, by rw [p2, p1], fun j hj => by rw [s2 j hj, p1]; rfl⟩, ⟨i3, e3, p3⟩, ⟨i4, e4, p4, fun j hj => by rw [s4 j hj]; rfl⟩, ⟨i5, e5⟩, ⟨i6, e6⟩, ⟨i7, e7⟩, ?_, p8⟩
  obtain ⟨⟨a1, a2⟩, ⟨b1, b2⟩, ⟨c1, c2⟩, d1, r1, q1, pl1, pl2⟩ := i7
  have hw : ∀ j, j ≠ 3 → mStep g j = mS7 g j := fun j hj => upd_n _ _ hj
  refine ⟨⟨by rw [hw 0 (by omega)]; exact a1, a2⟩, ⟨by rw [hw 1 (by omega)]; exact b1, b2⟩, ⟨by rw [hw 2 (by omega)]; exact c1, c2⟩, ?_, ?_, ?_, ?_, ?_⟩
  · rw [mStep, upd_s, d1]
    exact nI_1 st
  · intro r hr
    refine ⟨fun hn => ?_, fun hn => ⟨fun w hw2 => ?_, fun k hk => ?_⟩⟩
    · rw [hw (9 + 6 * r + 0) (by omega), hw (9 + 6 * r + 5) (by omega)]
      exact (r1 r hr).1 hn
    · rw [hw (9 + 6 * r + w) (by omega)]
      exact ((r1 r hr).2 hn).1 w hw2
    · rw [hw (401 + 32 * r + k) (by omega)]
      exact ((r1 r hr).2 hn).2 k hk
  · intro d2 hd2
    refine ⟨fun hn => ?_, fun hn => ⟨fun w hw2 => ?_, fun k hk => ?_⟩⟩
    · have := (q1 d2 hd2).1 hn
      have q : ∀ w, w < 8 → mStep g (57 + 10 * d2 + w) = mS7 g (57 + 10 * d2 + w) := fun w _ => hw _ (by omega)
      unfold DOK at this ⊢
      rw [q 0 (by omega), q 1 (by omega), q 2 (by omega), q 3 (by omega), q 4 (by omega), q 5 (by omega), q 6 (by omega), q 7 (by omega)]
      exact this
    · rw [hw (57 + 10 * d2 + w) (by omega)]
      exact ((q1 d2 hd2).2 hn).1 w hw2
    · rw [hw (177 + 12 * d2 + k) (by omega)]
      exact ((q1 d2 hd2).2 hn).2 k hk
  · intro k hk
    rw [en k hk]
    have hin : ent (mS4 g) k ∈ planL (mS4 g) np4 := List.mem_map.mpr ⟨k, List.mem_range.mpr hk, rfl⟩
    rw [p4, p3, p2] at hin
    obtain ⟨hin1, hs⟩ := List.mem_filter.mp hin
    obtain ⟨-, ht⟩ := List.mem_filter.mp hin1
    obtain ⟨f, kd, wh, sp, mu, ee, g1, g2⟩ := i4.2.2.2.2.2.2.1 k hk
    rw [ee] at hs ht ⊢
    refine ⟨f, kd, wh, sp, mu, rfl, g1, ?_⟩
    rcases g2 with ⟨rfl, g3, g4, g5, g6, g7⟩ | ⟨rfl, g3, g4, g5, g6⟩
    · refine Or.inl ⟨rfl, g3, g4, g5, ?_, g7⟩
      rcases Nat.lt_or_ge (st + 1) (f + sp) with z | z
      · exact z
      · exfalso
        have hE : enE (nI st) (nI f, nI 0, nI wh, nI sp, nI mu) := z_enE (by omega) (by omega) g4
        simp only [keepS] at hs
        rw [decide_eq_true hE] at hs
        cases hs
    · refine Or.inr ⟨rfl, g3, g4, ?_, g6⟩
      rcases Nat.lt_or_ge st f with z | z
      · exact z
      · exfalso
        have hfe : f = st := by omega
        subst hfe
        simp only [keepT] at ht
        rw [decide_eq_true (show isTe (nI f) (nI f, nI 1, nI wh, nI sp, nI mu) from ⟨zI1, rfl⟩)] at ht
        cases ht
  · intro k hk
    rw [gN_congr (hw (321 + 5 * k) (by omega)), gN_congr (hw (321 + 5 * (k + 1)) (by omega))]
    exact pl2 k hk
theorem mStep_INV {nr nd np st : Nat} {g : Nat → Int32} (hI : INV nr nd np st g) (hst : st < 100000) : ∃ np', INV nr nd np' (st + 1) (mStep g) := by
  obtain ⟨_, np4, -, -, -, -, -, -, -, h, -⟩ := step_facts hI hst
  exact ⟨np4, h⟩
