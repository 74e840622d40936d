/-! THE REFERENCE, a step whole -/
theorem z_m1 (j : Nat) : nI (j + 1) + Int32.ofInt (-1) = nI j := pk_m1 j
theorem z_end {f sp st : Nat} (h : f + sp = st + 1) : nI f + nI sp - 1 = nI st := by
  rw [nI_add, h]
  exact nI_pred st
theorem z_enE {f sp st wh mu : Nat} (h : f + sp = st + 1) (hst : st < 200000) (hsp : 1 ≤ sp) : enE (nI st) (nI f, nI 0, nI wh, nI sp, nI mu) :=
  ⟨⟨nI_0, nI_nlt (by omega) (by omega), fun z => nI_nlt (Nat.le_refl st) (by omega) ((z_end h) ▸ z)⟩, z_end h⟩
theorem step_facts {nr nd np st : Nat} {g : Nat → Int32} (hI : INV nr nd np st g) (hst : st < 100000) : ∃ np2 np4 : Nat,
    (INV nr nd np st (mS1 g) ∧ mS1 g = oldN g nr ∧ planL (mS1 g) np = planL g np) ∧
    (INV nr nd np2 st (mS2 g) ∧ mS2 g = tgF np 0 (mS1 g) ∧ planL (mS2 g) np2 = (planL g np).filter (keepT (nI st)) ∧ ∀ j, sc j → mS2 g j = aimL (nI st) (mS1 g) (planL g np) j) ∧
    (INV nr nd np2 st (mS3 g) ∧ mS3 g = movN (mS2 g) nd ∧ planL (mS3 g) np2 = planL (mS2 g) np2) ∧
    (INV nr nd np4 st (mS4 g) ∧ mS4 g = sndF np2 0 (mS3 g) ∧ planL (mS4 g) np4 = (planL (mS3 g) np2).filter (keepS (nI st)) ∧ ∀ j, sc j → mS4 g j = giveL (nI st) (mS3 g) (planL (mS3 g) np2) j) ∧
    (INV nr nd np4 st (mS5 g) ∧ mS5 g = absN (mS4 g) nr) ∧
    (INV nr nd np4 st (mS6 g) ∧ mS6 g = sendN (thrG (mS5 g)) (mS5 g) (2 * nd)) ∧
    (INV nr nd np4 st (mS7 g) ∧ mS7 g = arrN (mS6 g) (2 * nd)) ∧
    (INV nr nd np4 (st + 1) (mStep g) ∧ planL (mStep g) np4 = planL (mS4 g) np4) := by
  have hnr := hI.1.2
  have hnd := hI.2.1.2
  have N0 : ∀ {np : Nat} {h : Nat → Int32}, INV nr nd np st h → gN h 0 = nr := fun q => gN_of q.1.1 (by omega)
  have N1 : ∀ {np : Nat} {h : Nat → Int32}, INV nr nd np st h → gN h 1 = nd := fun q => gN_of q.2.1.1 (by omega)
  have N2 : ∀ {np : Nat} {h : Nat → Int32}, INV nr nd np st h → gN h 2 = np := fun q => gN_of q.2.2.1.1 (by have := q.2.2.1.2; omega)
  have e1 : mS1 g = oldN g nr := by rw [mS1, N0 hI]
  have f1 : ∀ j, ¬ fre nr nd j → mS1 g j = g j := by rw [e1]; exact oldN_fre nr (Nat.le_refl _)
  have i1 : INV nr nd np st (mS1 g) := INV_free hI f1
  have p1 : planL (mS1 g) np = planL g np := planL_congr (fun k hk => fre_ent hnr hnd f1 (by have := hI.2.2.1.2; omega))
  have e2 : mS2 g = tgF np 0 (mS1 g) := by rw [mS2, N2 i1]
  obtain ⟨np2, i2, p2, s2⟩ := tgF_spec np 0 np (mS1 g) i1 (Nat.zero_le _) (by omega) (fun j hj => absurd hj (Nat.not_lt_zero j))
  rw [← e2] at i2 p2 s2
  have e3 : mS3 g = movN (mS2 g) nd := by rw [mS3, N1 i2]
  have i3 : INV nr nd np2 st (mS3 g) := by rw [e3]; exact INV_movN i2 nd (Nat.le_refl _)
  have p3 : planL (mS3 g) np2 = planL (mS2 g) np2 := planL_congr (fun k _ => by rw [e3]; exact movN_ent _ _ hnd k)
  have e4 : mS4 g = sndF np2 0 (mS3 g) := by rw [mS4, N2 i3]
  obtain ⟨np4, i4, p4, s4⟩ := sndF_spec np2 0 np2 (mS3 g) i3 (Nat.zero_le _) (by omega) (fun j hj => absurd hj (Nat.not_lt_zero j))
  rw [← e4] at i4 p4 s4
  have e5 : mS5 g = absN (mS4 g) nr := by rw [mS5, N0 i4]
  have f5 : ∀ j, ¬ fre nr nd j → mS5 g j = mS4 g j := by rw [e5]; exact absN_fre (Nat.le_refl _)
  have i5 : INV nr nd np4 st (mS5 g) := INV_free i4 f5
  have e6 : mS6 g = sendN (thrG (mS5 g)) (mS5 g) (2 * nd) := by rw [mS6, N1 i5]
  have f6 : ∀ j, ¬ fre nr nd j → mS6 g j = mS5 g j := by rw [e6]; exact sendN_fre i5 _ (Nat.le_refl _)
  have i6 : INV nr nd np4 st (mS6 g) := INV_free i5 f6
  have e7 : mS7 g = arrN (mS6 g) (2 * nd) := by rw [mS7, N1 i6]
  have f7 : ∀ j, ¬ fre nr nd j → mS7 g j = mS6 g j := by rw [e7]; exact arrN_fre i6 _ (Nat.le_refl _)
  have i7 : INV nr nd np4 st (mS7 g) := INV_free i6 f7
  have h16 : np4 ≤ 16 := i4.2.2.1.2
  have en : ∀ k, k < np4 → ent (mStep g) k = ent (mS4 g) k := fun k hk => by
    rw [mStep, ent_congr (g := upd (mS7 g) 3 (mS7 g 3 + 1)) (h := mS7 g) (fun j h1 h2 => upd_n _ _ (by omega)), fre_ent hnr hnd f7 (by omega), fre_ent hnr hnd f6 (by omega), fre_ent hnr hnd f5 (by omega)]
  have p8 : planL (mStep g) np4 = planL (mS4 g) np4 := planL_congr en
  refine ⟨np2, np4, ⟨i1, e1, p1⟩, ⟨i2, e2, by rw [p2, p1], fun j hj => by rw [s2 j hj, p1]; rfl⟩, ⟨i3, e3, p3⟩, ⟨i4, e4, p4, fun j hj => by rw [s4 j hj]; rfl⟩, ⟨i5, e5⟩, ⟨i6, e6⟩, ⟨i7, e7⟩, ?_, p8⟩
  obtain ⟨⟨a1, a2⟩, ⟨b1, b2⟩, ⟨c1, c2⟩, d1, r1, q1, pl1, pl2⟩ := i7
  have hw : ∀ j, j ≠ 3 → mStep g j = mS7 g j := fun j hj => upd_n _ _ hj
  refine ⟨⟨by rw [hw 0 (by omega)]; exact a1, a2⟩, ⟨by rw [hw 1 (by omega)]; exact b1, b2⟩, ⟨by rw [hw 2 (by omega)]; exact c1, c2⟩, ?_, ?_, ?_, ?_, ?_⟩
  · rw [mStep, upd_s, d1]
    exact nI_1 st
  · intro r hr
    refine ⟨fun hn => ?_, fun hn => ⟨fun w hw2 => ?_, fun k hk => ?_⟩⟩
    · rw [hw (9 + 6 * r + 0) (by omega), hw (9 + 6 * r + 5) (by omega)]
      exact (r1 r hr).1 hn
    · rw [hw (9 + 6 * r + w) (by omega)]
      exact ((r1 r hr).2 hn).1 w hw2
    · rw [hw (401 + 32 * r + k) (by omega)]
      exact ((r1 r hr).2 hn).2 k hk
  · intro d2 hd2
    refine ⟨fun hn => ?_, fun hn => ⟨fun w hw2 => ?_, fun k hk => ?_⟩⟩
    · have := (q1 d2 hd2).1 hn
      have q : ∀ w, w < 8 → mStep g (57 + 10 * d2 + w) = mS7 g (57 + 10 * d2 + w) := fun w _ => hw _ (by omega)
      unfold DOK at this ⊢
      rw [q 0 (by omega), q 1 (by omega), q 2 (by omega), q 3 (by omega), q 4 (by omega), q 5 (by omega), q 6 (by omega), q 7 (by omega)]
      exact this
    · rw [hw (57 + 10 * d2 + w) (by omega)]
      exact ((q1 d2 hd2).2 hn).1 w hw2
    · rw [hw (177 + 12 * d2 + k) (by omega)]
      exact ((q1 d2 hd2).2 hn).2 k hk
  · intro k hk
    rw [en k hk]
    have hin : ent (mS4 g) k ∈ planL (mS4 g) np4 := List.mem_map.mpr ⟨k, List.mem_range.mpr hk, rfl⟩
    rw [p4, p3, p2] at hin
    obtain ⟨hin1, hs⟩ := List.mem_filter.mp hin
    obtain ⟨-, ht⟩ := List.mem_filter.mp hin1
    obtain ⟨f, kd, wh, sp, mu, ee, g1, g2⟩ := i4.2.2.2.2.2.2.1 k hk
    rw [ee] at hs ht ⊢
    refine ⟨f, kd, wh, sp, mu, rfl, g1, ?_⟩
    rcases g2 with ⟨rfl, g3, g4, g5, g6, g7⟩ | ⟨rfl, g3, g4, g5, g6⟩
    · refine Or.inl ⟨rfl, g3, g4, g5, ?_, g7⟩
      rcases Nat.lt_or_ge (st + 1) (f + sp) with z | z
      · exact z
      · exfalso
        have hE : enE (nI st) (nI f, nI 0, nI wh, nI sp, nI mu) := z_enE (by omega) (by omega) g4
        simp only [keepS] at hs
        rw [decide_eq_true hE] at hs
        cases hs
    · refine Or.inr ⟨rfl, g3, g4, ?_, g6⟩
      rcases Nat.lt_or_ge st f with z | z
      · exact z
      · exfalso
        have hfe : f = st := by omega
        subst hfe
        simp only [keepT] at ht
        rw [decide_eq_true (show isTe (nI f) (nI f, nI 1, nI wh, nI sp, nI mu) from ⟨zI1, rfl⟩)] at ht
        cases ht
  · intro k hk
    rw [gN_congr (hw (321 + 5 * k) (by omega)), gN_congr (hw (321 + 5 * (k + 1)) (by omega))]
    exact pl2 k hk
theorem mStep_INV {nr nd np st : Nat} {g : Nat → Int32} (hI : INV nr nd np st g) (hst : st < 100000) : ∃ np', INV nr nd np' (st + 1) (mStep g) := by
  obtain ⟨_, np4, -, -, -, -, -, -, -, h, -⟩ := step_facts hI hst
  exact ⟨np4, h⟩
set_option maxRecDepth 100000 in
set_option maxHeartbeats 4000000 in
theorem c_X8_goes (G : zG) {n : Nat} {T : zTT} {I : zII} {R : zRR} (m r nr nd np st : Nat) (hM : z_Mod T R m) (hT : T r = some (.inr (.int, 657))) (hrf : r ≠ m + 5) (hI : INV nr nd np st (I r)) (hst : st < 100000) : Ct G yX8_goes wsX8_goes (4, 0, 0) [.ref m, .ref r] n T I R (z_rel none n T (fun I' R' => R' = R ∧ z_row2 I r (m + 5) (mStep (I r)) I')) := by
  refine Ct.ofX (M := muX8_goes) (ls := [(0, .ref m), (1, .ref r)]) (by decide +kernel) rfl (by decide) rfl rfl (Nat.le_of_ble_eq_true rfl) ?_
  obtain ⟨np2, np4, ⟨i1, e1, -⟩, ⟨i2, e2, -⟩, ⟨i3, e3, -⟩, ⟨i4, e4, -⟩, ⟨i5, e5⟩, ⟨i6, e6⟩, ⟨i7, e7⟩, -⟩ := step_facts hI hst
  obtain ⟨hTm, -, -, -, -, ⟨hTf, hRf⟩, -⟩ := hM
  have hnr := hI.1.2
  have hnd := hI.2.1.2
  refine z_iconst (q := 1) (v := nI 0) dX8_goes_0 (by rfl) rfl ?_
  refine z_istore_n (q := 2) dX8_goes_1 rfl (by decide) rfl ?_
  have loop : ∀ i, i ≤ nr → ∀ I2, z_row I r (oldN (I r) i) I2 → ∀ ls : List (Nat × Value), lv_pick ls [0, 1, 2] = [(0, .ref m), (1, .ref r), (2, .int (nI i))] → z_X G muX8_goes (4, 0, 0) (z_rel none n T (fun I' R' => R' = R ∧ z_row2 I r (m + 5) (mStep (I r)) I')) n T I2 R 0 0 2 ls [] := by
    refine z_up (N := nr) _ ?_ ?_
    · intro I2 h2 ls hls
      have q0 : I2 r 0 = nI nr := by rw [h2.1, oldN_o _ _ _ (by omega)]; exact hI.1.1
      refine z_pick [0, 1, 2] hls ?_
      refine z_iload_n (q := 3) dX8_goes_2 rfl rfl rfl ?_
      refine z_aload_n (q := 4) dX8_goes_3 rfl rfl rfl ?_
      refine z_iconst (q := 5) (v := nI 0) dX8_goes_4 (by rfl) rfl ?_
      refine z_ialdV (q := 6) _ (by with_reducible assumption) (rfl) (by omega) (by decide) (q0) dX8_goes_5 rfl ?_
      refine z_icmpn_ge (rfl) (rfl) (by omega) (by omega) (tgt := 62) (q := 9) dX8_goes_6 (by decide) rfl (fun _ => ?_) (fun hc => absurd hc (by omega))
      rw [← e1] at h2
      refine z_aload_n (q := 63) dX8_goes_62 rfl rfl rfl ?_
      refine z_invS (q := 66) (c_X8_givesTargets G r nd np hT hnd (by rw [h2.1]; exact INV_tgK i1)) gX8_goes_X8_givesTargets rfl hy_X8_givesTargets rfl rfl rfl rfl (Nat.le_of_ble_eq_true rfl) ⟨Nat.zero_le _, Nat.zero_le _⟩ dX8_goes_63 rfl (z_rnR fun I3 R3 hZ3 => ?_)
      obtain ⟨rfl, h3⟩ := hZ3
      rw [h2.1, ← e2] at h3
      refine z_aload_n (q := 67) dX8_goes_66 rfl rfl rfl ?_
      refine z_invS (q := 70) (c_X8_movesDoors G r nd np2 hT (by rw [h3.1]; exact i2.2.1.1) hnd (by rw [h3.1]; exact i2.2.2.1.1) i2.2.2.1.2) gX8_goes_X8_movesDoors rfl hy_X8_movesDoors rfl rfl rfl rfl (Nat.le_of_ble_eq_true rfl) ⟨Nat.zero_le _, Nat.zero_le _⟩ dX8_goes_67 rfl (z_rnR fun I4 R4 hZ4 => ?_)
      obtain ⟨rfl, h4⟩ := hZ4
      rw [h3.1, ← e3] at h4
      refine z_aload_n (q := 71) dX8_goes_70 rfl rfl rfl ?_
      refine z_invS (q := 74) (c_X8_givesSounds G r nr np2 hT hnr (by rw [h4.1]; exact INV_sndK i3)) gX8_goes_X8_givesSounds rfl hy_X8_givesSounds rfl rfl rfl rfl (Nat.le_of_ble_eq_true rfl) ⟨Nat.zero_le _, Nat.zero_le _⟩ dX8_goes_71 rfl (z_rnR fun I5 R5 hZ5 => ?_)
      obtain ⟨rfl, h5⟩ := hZ5
      rw [h4.1, ← e4] at h5
      refine z_aload_n (q := 75) dX8_goes_74 rfl rfl rfl ?_
      refine z_invS (q := 78) (c_X8_absorbs G r nr hT (by rw [h5.1]; exact i4.1.1) hnr) gX8_goes_X8_absorbs rfl hy_X8_absorbs rfl rfl rfl rfl (Nat.le_of_ble_eq_true rfl) ⟨Nat.zero_le _, Nat.zero_le _⟩ dX8_goes_75 rfl (z_rnR fun I6 R6 hZ6 => ?_)
      obtain ⟨rfl, h6⟩ := hZ6
      rw [h5.1, ← e5] at h6
      refine z_aload_n (q := 79) dX8_goes_78 rfl rfl rfl ?_
      refine z_aload_n (q := 80) dX8_goes_79 rfl rfl rfl ?_
      refine z_getR (q := 83) 8 6 1 54 rfl (by decide) rfl rfl rfl (by with_reducible assumption) (by with_reducible assumption) dX8_goes_80 rfl ?_
      refine z_invS (q := 86) (c_X8_goesThrough G r (m + 5) nr nd np4 st hT hTf hrf (by rw [h6.1]; exact i5)) gX8_goes_X8_goesThrough rfl hy_X8_goesThrough rfl rfl rfl rfl (Nat.le_of_ble_eq_true rfl) ⟨Nat.zero_le _, Nat.zero_le _⟩ dX8_goes_83 rfl (z_rnR fun I7 R7 hZ7 => ?_)
      obtain ⟨rfl, h7⟩ := hZ7
      rw [h6.1, ← e6, ← e7] at h7
      refine z_aload_n (q := 87) dX8_goes_86 rfl rfl rfl ?_
      refine z_iconst (q := 88) (v := nI 3) dX8_goes_87 (by rfl) rfl ?_
      refine z_dup2 (q := 89) dX8_goes_88 rfl rfl rfl ?_
      refine z_iald (q := 90) _ (by with_reducible assumption) (rfl) (by omega) (by decide) dX8_goes_89 rfl ?_
      refine z_iconst (q := 91) (v := nI 1) dX8_goes_90 (by rfl) rfl ?_
      refine z_iadd (q := 92) dX8_goes_91 rfl ?_
      refine z_iast (q := 93) _ (by with_reducible assumption) (rfl) (by omega) (by decide) dX8_goes_92 rfl ?_
      refine z_vret rfl dX8_goes_93 (Nat.zero_le _) (Nat.zero_le _) ⟨rfl, rfl, rfl, rfl, ?_, fun q hq hf => ?_⟩
      · rw [zw_upd, h7.1]
        rfl
      · rw [zw_row _ _ hq, h7.2 q hq hf, h6.2 q hq, h5.2 q hq, h4.2 q hq, h3.2 q hq, h2.2 q hq]
    · intro i hi ih I2 h2 ls hls
      have q0 : I2 r 0 = nI nr := by rw [h2.1, oldN_o _ _ _ (by omega)]; exact hI.1.1
      refine z_pick [0, 1, 2] hls ?_
      refine z_iload_n (q := 3) dX8_goes_2 rfl rfl rfl ?_
      refine z_aload_n (q := 4) dX8_goes_3 rfl rfl rfl ?_
      refine z_iconst (q := 5) (v := nI 0) dX8_goes_4 (by rfl) rfl ?_
      refine z_ialdV (q := 6) _ (by with_reducible assumption) (rfl) (by omega) (by decide) (q0) dX8_goes_5 rfl ?_
      refine z_icmpn_ge (rfl) (rfl) (by omega) (by omega) (tgt := 62) (q := 9) dX8_goes_6 (by decide) rfl (fun hc => absurd hc (by omega)) (fun _ => ?_)
      refine z_sipush (q := 12) (v := nI 401) dX8_goes_9 (by rfl) rfl ?_
      refine z_bipush (q := 14) (v := nI 32) dX8_goes_12 (by rfl) rfl ?_
      refine z_iload_n (q := 15) dX8_goes_14 rfl rfl rfl ?_
      refine z_imulE (q := 16) dX8_goes_15 (pk_mul _ _) rfl ?_
      refine z_iaddE (q := 17) dX8_goes_16 (nI_add _ _) rfl ?_
      refine z_istore_n (q := 18) dX8_goes_17 rfl (by decide) rfl ?_
      refine z_bipush (q := 20) (v := nI 31) dX8_goes_18 (by rfl) rfl ?_
      refine z_istore (q := 22) dX8_goes_20 (by decide) rfl ?_
      have inner : ∀ j, j ≤ 31 → ∀ I3, z_row I r (oldP (oldN (I r) i) i j) I3 → z_X G muX8_goes (4, 0, 0) (z_rel none n T (fun I' R' => R' = R ∧ z_row2 I r (m + 5) (mStep (I r)) I')) n T I3 R 0 0 22 [(0, .ref m), (1, .ref r), (2, .int (nI i)), (3, .int (nI (401 + 32 * i))), (4, .int (nI j))] [] := by
        intro j
        induction j with
        | zero =>
          intro _ I3 h3
          refine z_iload (q := 24) (i := 4) dX8_goes_22 rfl rfl ?_
          refine z_if_le (tgt := 47) (q := 27) dX8_goes_24 (by decide) rfl (fun _ => ?_) (fun hc => False.elim (hc (by decide)))
          refine z_aload_n (q := 48) dX8_goes_47 rfl rfl rfl ?_
          refine z_iload_n (q := 49) dX8_goes_48 rfl rfl rfl ?_
          refine z_aload_n (q := 50) dX8_goes_49 rfl rfl rfl ?_
          refine z_iload_n (q := 51) dX8_goes_50 rfl rfl rfl ?_
          refine z_iconst (q := 52) (v := nI 2) dX8_goes_51 (by rfl) rfl ?_
          refine z_invS (q := 55) (c_X8_inRoom G r i 2 hT (by omega)) gX8_goes_X8_inRoom rfl hy_X8_inRoom rfl rfl rfl rfl (Nat.le_of_ble_eq_true rfl) ⟨Nat.zero_le _, Nat.zero_le _⟩ dX8_goes_52 rfl (z_rv ?_)
          refine z_iast (q := 56) _ (by with_reducible assumption) (rfl) (by omega) (by decide) dX8_goes_55 rfl ?_
          refine z_iinc (q := 59) dX8_goes_56 rfl (nI_add _ 1) (by decide) rfl ?_
          refine z_goto (q := 2) dX8_goes_59 (by decide) ?_
          refine ih _ (z_row_w h3 _ _ ?_) _ rfl
          rw [h3.1]
          exact oldP_e _ _
        | succ j ihj =>
          intro hj I3 h3
          refine z_iload (q := 24) (i := 4) dX8_goes_22 rfl rfl ?_
          refine z_if_le (tgt := 47) (q := 27) dX8_goes_24 (by decide) rfl (fun hc => False.elim (absurd hc (nI_nle (by omega) (by omega)))) (fun _ => ?_)
          refine z_aload_n (q := 28) dX8_goes_27 rfl rfl rfl ?_
          refine z_iload_n (q := 29) dX8_goes_28 rfl rfl rfl ?_
          refine z_iload (q := 31) (i := 4) dX8_goes_29 rfl rfl ?_
          refine z_iaddE (q := 32) dX8_goes_31 (nI_add _ _) rfl ?_
          refine z_aload_n (q := 33) dX8_goes_32 rfl rfl rfl ?_
          refine z_iload_n (q := 34) dX8_goes_33 rfl rfl rfl ?_
          refine z_iload (q := 36) (i := 4) dX8_goes_34 rfl rfl ?_
          refine z_iaddE (q := 37) dX8_goes_36 (nI_add _ _) rfl ?_
          refine z_iconst (q := 38) (v := nI 1) dX8_goes_37 (by rfl) rfl ?_
          refine z_isubE (q := 39) dX8_goes_38 (pk_sub (by omega)) rfl ?_
          refine z_iald (q := 40) _ (by with_reducible assumption) (rfl) (by omega) (by decide) dX8_goes_39 rfl ?_
          refine z_iast (q := 41) _ (by with_reducible assumption) (rfl) (by omega) (by decide) dX8_goes_40 rfl ?_
          refine z_iinc (q := 44) dX8_goes_41 rfl (z_m1 j) (by decide) rfl ?_
          refine z_goto (q := 22) dX8_goes_44 (by decide) ?_
          refine ihj (by omega) _ (z_row_w h3 _ _ ?_)
          rw [h3.1]
          exact oldP_s _ (by omega)
      exact inner 31 (Nat.le_refl _) I2 (by rw [oldP_0]; exact h2)
  exact loop 0 (Nat.zero_le _) I ⟨rfl, fun _ _ => rfl⟩ _ rfl

