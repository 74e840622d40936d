/-! CONSTRUCTORS of the past, the class, the reference -/
def g00 : Nat → Int32 := fun c => if c = 7 then nI 1000000 else if c = 8 then nI 10 else 0
theorem g00_n {c : Nat} (h7 : c ≠ 7) (h8 : c ≠ 8) : g00 c = 0 := by unfold g00; rw [if_neg h7, if_neg h8]
theorem g00_INV : INV 0 0 0 0 g00 := by
  refine ⟨⟨(g00_n (by decide) (by decide)).trans nI_0.symm, by decide⟩, ⟨(g00_n (by decide) (by decide)).trans nI_0.symm, by decide⟩, ⟨(g00_n (by decide) (by decide)).trans nI_0.symm, by decide⟩, (g00_n (by decide) (by decide)).trans nI_0.symm, fun r hr => ⟨fun z => absurd z (Nat.not_lt_zero r), fun _ => ⟨fun w hw => g00_n (by omega) (by omega), fun k hk => g00_n (by omega) (by omega)⟩⟩, fun d hd => ⟨fun z => absurd z (Nat.not_lt_zero d), fun _ => ⟨fun w hw => g00_n (by omega) (by omega), fun k hk => g00_n (by omega) (by omega)⟩⟩, fun k hk => absurd hk (Nat.not_lt_zero k), fun k hk => absurd hk (Nat.not_lt_zero _)⟩
theorem g00_TLD : TLD g00 := ⟨0, (g00_n (by decide) (by decide)).trans nI_0.symm, by decide⟩
theorem hs_Hb {T : zTT} {R : zRR} {I : zII} {a : Nat} (h : hsI a 8 12 T I R) : z_Hb T R I a g00 := by
  obtain ⟨b1, b2, b4, b6, b7, b9, b10, b11, ⟨b12, b13⟩, b14⟩ := h
  have hP := plI_P b11
  refine ⟨0, ⟨⟨b1, b2, b4, b6, b7, b9, b10, hP.1⟩, 0, 0, 0, fun _ => (0, 0, 0, 0, 0), g00_INV, fun c h1 h2 => ?_, hP, rfl⟩, by decide, g00_TLD⟩
  by_cases c7 : c = 7
  · subst c7; exact b12
  by_cases c8 : c = 8
  · subst c8; exact b13
  rw [g00_n c7 c8]
  have hz : a + zlo c ≠ a + 21 := by
    unfold zlo
    repeat' split
    all_goals omega
  have hb : zlo c < 98 := by
    unfold zlo
    repeat' split
    all_goals omega
  rw [b14 _ (by omega) (by omega) hz]
theorem hs_fr {T T' : zTT} {R R' : zRR} {I I' : zII} {a : Nat} (h : hsI a 8 12 T I R) (hf : ∀ q, a ≤ q → q < a + 98 → T' q = T q ∧ I' q = I q ∧ R' q = R q) : hsI a 8 12 T' I' R' :=
  hsI_f h (Or.inr rfl) (fun q q1 q2 => (hf q q1 (by omega)).1) (fun q q1 q2 => (hf q q1 (by omega)).2.1) (fun q q1 q2 _ _ => (hf q q1 (by omega)).2.2) (fun k _ => congrFun (hf (a + 1) (by omega) (by omega)).2.2 k) (fun k _ => congrFun (hf (a + 2) (by omega) (by omega)).2.2 k)
def hiI (h i : Nat) (T : zTT) (I : zII) (R : zRR) : Prop := T h = some (.inl 2) ∧ (T (h + 1) = some (.inr (.object RX3, 4)) ∧ R h 0 = some (h + 1)) ∧ (∀ k, k < i → R (h + 1) k = some (h + 2 + 98 * k) ∧ hsI (h + 2 + 98 * k) 8 12 T I R) ∧ I h = fun _ => 0
theorem hi_fr {T T' : zTT} {R R' : zRR} {I I' : zII} {h : Nat} (hh : hiI h 4 T I R) (hf : ∀ q, h ≤ q → q < h + 394 → T' q = T q ∧ I' q = I q ∧ R' q = R q) : hiI h 4 T' I' R' := by
  obtain ⟨h1, ⟨h2, h3⟩, h4, h5⟩ := hh
  exact ⟨(hf h (by omega) (by omega)).1.trans h1, ⟨(hf _ (by omega) (by omega)).1.trans h2, (congrFun (hf h (by omega) (by omega)).2.2 0).trans h3⟩, fun k hk => ⟨(congrFun (hf _ (by omega) (by omega)).2.2 k).trans (h4 k hk).1, hs_fr (h4 k hk).2 (fun q q1 q2 => hf q (by omega) (by omega))⟩, (hf h (by omega) (by omega)).2.1.trans h5⟩
theorem hi_Hist {T : zTT} {R : zRR} {I : zII} {h : Nat} (hh : hiI h 4 T I R) (p : Nat → Nat → Int32) : z_Hist T R I h p 0 := by
  obtain ⟨h1, h2, h4, h5⟩ := hh
  exact ⟨h1, h2, ⟨by rw [h5]; exact nI_0.symm, by decide⟩, fun k => h + 2 + 98 * k, fun k hk => ⟨(h4 k hk).1, k, hk, rfl⟩, fun j k _ _ e => by have e : h + 2 + 98 * j = h + 2 + 98 * k := e; omega, fun k hk => ⟨g00, hs_Hb (h4 k hk).2, fun z => absurd z (Nat.not_lt_zero k)⟩⟩
def rtI (x : Nat) (T : zTT) (I : zII) (R : zRR) : Prop := z_RT T R x ∧ hsI (x + 1) 8 12 T I R ∧ hsI (x + 99) 8 12 T I R ∧ hiI (x + 197) 4 T I R ∧ I (x + 591) = (fun _ => 0) ∧ I (x + 592) = fun _ => 0
theorem rt_St {T : zTT} {R : zRR} {I : zII} {x : Nat} (h : rtI x T I R) (p : Nat → Nat → Int32) : z_St T R I x g00 p 0 (fun _ => 0) 0 := by
  obtain ⟨h0, h1, h2, h3, h4, h5⟩ := h
  obtain ⟨st, z1, -⟩ := hs_Hb h2
  exact ⟨h0, hs_Hb h1, ⟨st, g00, z1⟩, hi_Hist h3 p, ⟨(congrFun h4 1).trans nI_0.symm, by decide⟩, h5, fun k _ => ⟨0, nI_0.symm, by decide⟩⟩
set_option maxRecDepth 100000 in
set_option maxHeartbeats 4000000 in
theorem c_X2_init (G : zG) {n : Nat} {T : zTT} {I : zII} {R : zRR} (h : Nat) (hn : n = h + 1) (hT : T h = some (.inl 2)) (hI : I h = fun _ => 0) : Ct G yX2_init wsX2_init (4, 393, 3116) [.ref h] n T I R ((fun r n' T' I' R' => r = none ∧ n' = h + 394 ∧ z_nw h T T' I I' R R' ∧ hiI h 4 T' I' R')) := by
  refine Ct.ofX (M := muX2_init) (ls := [(0, .ref h)]) (by decide +kernel) rfl (by decide) rfl rfl (Nat.le_of_ble_eq_true rfl) ?_
  subst hn
  have loop : ∀ d i, i + d = 4 → ∀ T2 I2 R2 n2 k2 w2, n2 = h + 2 + 98 * i → k2 = 1 + 98 * i → w2 = 4 + 778 * i → z_nw h T T2 I I2 R R2 → hiI h i T2 I2 R2 → ∀ ls : List (Nat × Value), lv_pick ls [0, 1] = [(0, .ref h), (1, .int (nI i))] → z_X G muX2_init (4, 393, 3116) (fun r n' T' I' R' => r = none ∧ n' = h + 394 ∧ z_nw h T T' I I' R R' ∧ hiI h 4 T' I' R') n2 T2 I2 R2 k2 w2 14 ls [] := by
    intro d
    induction d with
    | zero =>
      intro i hi T2 I2 R2 n2 k2 w2 hn hk hw hnw hP ls hls
      have hi : i = 4 := hi
      subst hi
      obtain ⟨hTh, ⟨hT1, hR0⟩, hE, hz⟩ := id hP
      refine z_pick [0, 1] hls ?_
      refine z_iload_n (q := 15) dX2_init_14 rfl rfl rfl ?_
      refine z_aload_n (q := 16) dX2_init_15 rfl rfl rfl ?_
      refine z_getR (q := 19) 2 0 5 49 rfl (by decide) rfl rfl rfl (by with_reducible assumption) (by with_reducible assumption) dX2_init_16 rfl ?_
      refine z_alen (q := 20) (by with_reducible assumption) dX2_init_19 rfl ?_
      refine z_icmpn_ge (rfl) (rfl) (by omega) (by omega) (tgt := 42) (q := 23) dX2_init_20 (by decide) rfl (fun _ => ?_) (fun hc => absurd hc (by omega))
      exact z_vret rfl dX2_init_42 (by show _ ≤ 393; omega) (by show _ ≤ 3116; omega) ⟨rfl, by omega, hnw, hP⟩
    | succ d ih =>
      intro i hi T2 I2 R2 n2 k2 w2 hn hk hw hnw hP ls hls
      obtain ⟨hTh, ⟨hT1, hR0⟩, hE, hz⟩ := id hP
      subst hn
      refine z_pick [0, 1] hls ?_
      refine z_iload_n (q := 15) dX2_init_14 rfl rfl rfl ?_
      refine z_aload_n (q := 16) dX2_init_15 rfl rfl rfl ?_
      refine z_getR (q := 19) 2 0 5 49 rfl (by decide) rfl rfl rfl (by with_reducible assumption) (by with_reducible assumption) dX2_init_16 rfl ?_
      refine z_alen (q := 20) (by with_reducible assumption) dX2_init_19 rfl ?_
      refine z_icmpn_ge (rfl) (rfl) (by omega) (by omega) (tgt := 42) (q := 23) dX2_init_20 (by decide) rfl (fun hc => absurd hc (by omega)) (fun _ => ?_)
      have hTn : zN T2 (h + 2 + 98 * i) (some (.inl 3)) (h + 2 + 98 * i) = some (.inl 3) := zN_s _ _ _
      have hIn : zN I2 (h + 2 + 98 * i) (fun _ => 0) (h + 2 + 98 * i) = fun _ => 0 := zN_s _ _ _
      refine z_aload_n (q := 24) dX2_init_23 rfl rfl rfl ?_
      refine z_getR (q := 27) 2 0 5 49 rfl (by decide) rfl rfl rfl (by with_reducible assumption) (by with_reducible assumption) dX2_init_24 rfl ?_
      refine z_iload_n (q := 28) dX2_init_27 rfl rfl rfl ?_
      refine z_new (q := 31) 3 4 6 7 tyX3 tyX3_ok (z_sub [51, 52, 53, 54, 55, 56, 57, 58, 59, 60] rfl) rfl rfl rfl rfl z_def3 (by show _ ≤ 393 ∧ _ ≤ 3116; omega) dX2_init_28 rfl ?_
      refine z_dup (q := 32) dX2_init_31 rfl rfl ?_
      refine z_invI' (q := 35) (i := 8) (j := 9) (l := 7) (c_X3_init G (h + 2 + 98 * i) rfl hTn hIn) gX2_init_X3_init rfl rfl rfl rfl hy_X3_init rfl rfl rfl rfl (Nat.le_of_ble_eq_true rfl) (by show _ + 97 ≤ 393 ∧ _ + 768 ≤ 3116; omega) dX2_init_32 rfl ?_
      rintro r3 n3 T3 I3 R3 ⟨rfl, rfl, h3, hD⟩
      have q3 : ∀ q, q < h + 2 + 98 * i → T3 q = T2 q ∧ I3 q = I2 q ∧ R3 q = R2 q := fun q hq => by
        obtain ⟨x1, x2, x3⟩ := h3 q hq
        exact ⟨x1.trans (zN_n _ _ (by omega)), x2.trans (zN_n _ _ (by omega)), x3.trans (zN_n _ _ (by omega))⟩
      have hT3 : T3 (h + 1) = some (.inr (.object RX3, 4)) := by rw [(q3 _ (by omega)).1]; exact hT1
      have hTd := hD.1
      show z_X G muX2_init (4, 393, 3116) (fun r n' T' I' R' => r = none ∧ n' = h + 394 ∧ z_nw h T T' I I' R R' ∧ hiI h 4 T' I' R') _ T3 I3 R3 _ _ 35 _ [.ref (h + 2 + 98 * i), .int (nI i), .ref (h + 1)]
      refine z_aast (q := 36) (ci := 3) (r := (RX3, _, _)) _ (hT3) rfl (hTd) (rfl) (by omega) (by decide) dX2_init_35 rfl ?_
      refine z_iinc (q := 39) dX2_init_36 rfl (nI_add _ 1) (by decide) rfl ?_
      refine z_goto (q := 14) dX2_init_39 (by decide) ?_
      refine ih (i + 1) (by omega) _ _ _ _ _ _ (by omega) (by show _ + 97 = _; omega) (by show _ + 768 = _; omega) (z_nw_t hnw (c := h) (fun q hq => ⟨(q3 q (by omega)).1, (q3 q (by omega)).2.1, (zw_row _ _ (by omega)).trans (q3 q (by omega)).2.2⟩) (Nat.le_refl _)) ⟨(q3 h (by omega)).1.trans hTh, ⟨hT3, ?_⟩, fun k hk => ?_, (q3 h (by omega)).2.1.trans hz⟩ _ rfl
      · exact (congrFun (zw_row _ _ (by omega)) 0).trans ((congrFun (q3 h (by omega)).2.2 0).trans hR0)
      · by_cases e : k = i
        · subst e; exact ⟨zw_s _ _ _ _, hs_fr hD (fun q q1 q2 => ⟨rfl, rfl, zw_row _ _ (by omega)⟩)⟩
        · exact ⟨(zw_k _ _ e).trans ((congrFun (q3 _ (by omega)).2.2 k).trans (hE k (by omega)).1), hs_fr (hE k (by omega)).2 (fun q q1 q2 => ⟨(q3 q (by omega)).1, (q3 q (by omega)).2.1, (zw_row _ _ (by omega)).trans (q3 q (by omega)).2.2⟩)⟩
  have h1 : zN T (h + 1) (some (.inr (.object RX3, 4))) h = some (.inl 2) := (zN_n _ _ (by omega)).trans hT
  refine z_aload_n (q := 1) dX2_init_0 rfl rfl rfl ?_
  refine z_objInit (q := 4) (i := 1) (j := 2) (l := 3) rfl rfl rfl rfl (Nat.le_of_ble_eq_true rfl) dX2_init_1 rfl ?_
  refine z_aload_n (q := 5) dX2_init_4 rfl rfl rfl ?_
  refine z_iconst (q := 6) (v := nI 4) dX2_init_5 (by rfl) rfl ?_
  refine z_newq (q := 9) (4) 4 rfl (fun _ h => h.2.2.1.2.2.1) (by rfl) (by decide) (by decide) dX2_init_6 rfl ?_
  refine z_putF (q := 12) 2 0 5 49 rfl (by decide) rfl rfl (tyX2_ok 0 (by decide)) rfl rfl rfl rfl rfl (h1) dX2_init_9 rfl ?_
  refine z_iconst (q := 13) (v := nI 0) dX2_init_12 (by rfl) rfl ?_
  refine z_istore_n (q := 14) dX2_init_13 rfl (by decide) rfl ?_
  refine loop 4 0 rfl _ _ _ _ _ _ (by omega) rfl rfl (fun q hq => ⟨zN_n _ _ (by omega), zN_n _ _ (by omega), ?_⟩) ⟨h1, ⟨zN_s _ _ _, zw_s _ _ _ _⟩, fun j hj => absurd hj (Nat.not_lt_zero j), ?_⟩ _ rfl
  · exact (zw_row _ _ (by omega)).trans (zN_n _ _ (by omega))
  · exact (zN_n _ _ (by omega)).trans hI
set_option maxRecDepth 100000 in
set_option maxHeartbeats 4000000 in
theorem c_X7_init (G : zG) {n : Nat} {T : zTT} {I : zII} {R : zRR} (x : Nat) (hn : n = x + 1) (hT : T x = some (.inl 7)) : Ct G yX7_init wsX7_init (5, 594, 4770) [.ref x] n T I R ((fun r n' T' I' R' => r = none ∧ n' = x + 595 ∧ z_nw x T T' I I' R R' ∧ rtI x T' I' R')) := by
  refine Ct.ofX (M := muX7_init) (ls := [(0, .ref x)]) (by decide +kernel) rfl (by decide) rfl rfl (Nat.le_of_ble_eq_true rfl) ?_
  subst hn
  have hT0 : zN T (x + 1) (some (.inl 3)) x = some (.inl 7) := (zN_n _ _ (by omega)).trans hT
  refine z_aload_n (q := 1) dX7_init_0 rfl rfl rfl ?_
  refine z_objInit (q := 4) (i := 1) (j := 2) (l := 3) rfl rfl rfl rfl (Nat.le_of_ble_eq_true rfl) dX7_init_1 rfl ?_
  refine z_aload_n (q := 5) dX7_init_4 rfl rfl rfl ?_
  refine z_new (q := 8) 3 4 5 6 tyX3 tyX3_ok (z_sub [74, 75, 76, 77, 78, 79, 80, 81, 82, 83] rfl) rfl rfl rfl rfl z_def3 (by decide) dX7_init_5 rfl ?_
  refine z_dup (q := 9) dX7_init_8 rfl rfl ?_
  refine z_invI' (q := 12) (i := 21) (j := 22) (l := 6) (c_X3_init G (x + 1) rfl (zN_s _ _ _) (zN_s _ _ _)) gX7_init_X3_init rfl rfl rfl rfl hy_X3_init rfl rfl rfl rfl (Nat.le_of_ble_eq_true rfl) (by decide) dX7_init_9 rfl ?_
  rintro r1 n1 T1 I1 R1 ⟨rfl, rfl, h1, hD1⟩
  have q1 : ∀ q, q < x + 1 → T1 q = T q ∧ I1 q = I q ∧ R1 q = R q := fun q hq => by
    obtain ⟨x1, x2, x3⟩ := h1 q hq
    exact ⟨x1.trans (zN_n _ _ (by omega)), x2.trans (zN_n _ _ (by omega)), x3.trans (zN_n _ _ (by omega))⟩
  have hT1 : T1 x = some (.inl 7) := (q1 x (by omega)).1.trans hT
  show z_X G muX7_init (5, 594, 4770) (fun r n' T' I' R' => r = none ∧ n' = x + 595 ∧ z_nw x T T' I I' R R' ∧ rtI x T' I' R') (x + 1 + 98) T1 I1 R1 _ _ 12 _ [.ref (x + 1), .ref x]
  refine z_putF (q := 15) 7 0 7 84 rfl (by decide) rfl rfl (tyX7_ok 0 (by decide)) rfl rfl rfl rfl rfl (hT1) dX7_init_12 rfl ?_
  refine z_aload_n (q := 16) dX7_init_15 rfl rfl rfl ?_
  refine z_new (q := 19) 3 4 5 6 tyX3 tyX3_ok (z_sub [74, 75, 76, 77, 78, 79, 80, 81, 82, 83] rfl) rfl rfl rfl rfl z_def3 (by decide) dX7_init_16 rfl ?_
  refine z_dup (q := 20) dX7_init_19 rfl rfl ?_
  refine z_invI' (q := 23) (i := 21) (j := 22) (l := 6) (c_X3_init G (x + 99) rfl (zN_s _ _ _) (zN_s _ _ _)) gX7_init_X3_init rfl rfl rfl rfl hy_X3_init rfl rfl rfl rfl (Nat.le_of_ble_eq_true rfl) (by decide) dX7_init_20 rfl ?_
  rintro r2 n2 T2 I2 R2 ⟨rfl, rfl, h2, hD2⟩
  have q2 : ∀ q, q < x + 99 → T2 q = T1 q ∧ I2 q = I1 q ∧ R2 q = zw R1 x 0 (some (x + 1)) q := fun q hq => by
    obtain ⟨x1, x2, x3⟩ := h2 q hq
    exact ⟨x1.trans (zN_n _ _ (by omega)), x2.trans (zN_n _ _ (by omega)), x3.trans (zN_n _ _ (by omega))⟩
  have hT2 : T2 x = some (.inl 7) := (q2 x (by omega)).1.trans hT1
  show z_X G muX7_init (5, 594, 4770) (fun r n' T' I' R' => r = none ∧ n' = x + 595 ∧ z_nw x T T' I I' R R' ∧ rtI x T' I' R') (x + 99 + 98) T2 I2 R2 _ _ 23 _ [.ref (x + 99), .ref x]
  refine z_putF (q := 26) 7 1 8 85 rfl (by decide) rfl rfl (tyX7_ok 1 (by decide)) rfl rfl rfl rfl rfl (hT2) dX7_init_23 rfl ?_
  refine z_aload_n (q := 27) dX7_init_26 rfl rfl rfl ?_
  refine z_new (q := 30) 2 9 10 11 tyX2 tyX2_ok (z_sub [89, 90] rfl) rfl rfl rfl rfl z_def2 (by decide) dX7_init_27 rfl ?_
  refine z_dup (q := 31) dX7_init_30 rfl rfl ?_
  refine z_invI' (q := 34) (i := 60) (j := 61) (l := 11) (c_X2_init G (x + 197) rfl (zN_s _ _ _) (zN_s _ _ _)) gX7_init_X2_init rfl rfl rfl rfl hy_X2_init rfl rfl rfl rfl (Nat.le_of_ble_eq_true rfl) (by decide) dX7_init_31 rfl ?_
  rintro r3 n3 T3 I3 R3 ⟨rfl, rfl, h3, hD3⟩
  have q3 : ∀ q, q < x + 197 → T3 q = T2 q ∧ I3 q = I2 q ∧ R3 q = zw R2 x 1 (some (x + 99)) q := fun q hq => by
    obtain ⟨x1, x2, x3⟩ := h3 q hq
    exact ⟨x1.trans (zN_n _ _ (by omega)), x2.trans (zN_n _ _ (by omega)), x3.trans (zN_n _ _ (by omega))⟩
  have hT3 : T3 x = some (.inl 7) := (q3 x (by omega)).1.trans hT2
  show z_X G muX7_init (5, 594, 4770) (fun r n' T' I' R' => r = none ∧ n' = x + 595 ∧ z_nw x T T' I I' R R' ∧ rtI x T' I' R') (x + 197 + 394) T3 I3 R3 _ _ 34 _ [.ref (x + 197), .ref x]
  refine z_putF (q := 37) 7 2 12 86 rfl (by decide) rfl rfl (tyX7_ok 2 (by decide)) rfl rfl rfl rfl rfl (hT3) dX7_init_34 rfl ?_
  refine z_aload_n (q := 38) dX7_init_37 rfl rfl rfl ?_
  refine z_new (q := 41) 6 13 14 15 tyX6 tyX6_ok (z_sub [91, 92, 93, 94, 95, 96] rfl) rfl rfl rfl rfl z_def6 (by decide) dX7_init_38 rfl ?_
  refine z_dup (q := 42) dX7_init_41 rfl rfl ?_
  refine z_invIN' (q := 45) (j := 67) (l := 15) (c_X6_init G (x + 591) rfl (zN_s _ _ _) (zN_s _ _ _)) gX7_init_X6_init_n28 rfl (fun _ h => h.2.2.2.1) rfl rfl hy_X6_init rfl rfl rfl rfl (Nat.le_of_ble_eq_true rfl) (by decide) dX7_init_42 rfl ?_
  rintro r4 n4 T4 I4 R4 ⟨rfl, rfl, h4, hD4, hz4, hz5⟩
  have q4 : ∀ q, q < x + 591 → T4 q = T3 q ∧ I4 q = I3 q ∧ R4 q = zw R3 x 2 (some (x + 197)) q := fun q hq => by
    obtain ⟨x1, x2, x3⟩ := h4 q hq
    exact ⟨x1.trans (zN_n _ _ (by omega)), x2.trans (zN_n _ _ (by omega)), x3.trans (zN_n _ _ (by omega))⟩
  have hT4 : T4 x = some (.inl 7) := (q4 x (by omega)).1.trans hT3
  show z_X G muX7_init (5, 594, 4770) (fun r n' T' I' R' => r = none ∧ n' = x + 595 ∧ z_nw x T T' I I' R R' ∧ rtI x T' I' R') (x + 591 + 3) T4 I4 R4 _ _ 45 _ [.ref (x + 591), .ref x]
  have hT5 : zN T4 (x + 594) (some (.inl 1)) x = some (.inl 7) := (zN_n _ _ (by omega)).trans hT4
  refine z_putF (q := 48) 7 3 16 87 rfl (by decide) rfl rfl (tyX7_ok 3 (by decide)) rfl rfl rfl rfl rfl (hT4) dX7_init_45 rfl ?_
  refine z_aload_n (q := 49) dX7_init_48 rfl rfl rfl ?_
  refine z_new (q := 52) 1 17 18 19 tyX1 tyX1_ok (z_sub [97, 98, 99, 100, 101] rfl) rfl rfl rfl rfl z_def1 (by decide) dX7_init_49 rfl ?_
  refine z_dup (q := 53) dX7_init_52 rfl rfl ?_
  refine z_invIN' (q := 56) (j := 46) (l := 19) (c_X1_init G (x + 594) (zN_s _ _ _)) gX7_init_X1_init_n35 rfl (fun _ h => h.2.2.2.2.1) rfl rfl hy_X1_init rfl rfl rfl rfl (Nat.le_of_ble_eq_true rfl) (by decide) dX7_init_53 rfl (z_rn ?_)
  refine z_putF (q := 59) 7 4 20 88 rfl (by decide) rfl rfl (tyX7_ok 4 (by decide)) rfl rfl rfl rfl rfl (hT5) dX7_init_56 rfl ?_
  have e4 : ∀ q, q < x + 594 → q ≠ x → zw (zN (zw R4 x 3 (some (x + 591))) (x + 594) (fun _ => none)) x 4 (some (x + 594)) q = R4 q := fun q a1 a2 => (zw_row _ _ a2).trans ((zN_n _ _ (by omega)).trans (zw_row _ _ a2))
  have f3 : ∀ q, q < x + 591 → q ≠ x → R4 q = R3 q := fun q a1 a2 => (q4 q a1).2.2.trans (zw_row _ _ a2)
  have f2 : ∀ q, q < x + 197 → q ≠ x → R3 q = R2 q := fun q a1 a2 => (q3 q a1).2.2.trans (zw_row _ _ a2)
  have f1 : ∀ q, q < x + 99 → q ≠ x → R2 q = R1 q := fun q a1 a2 => (q2 q a1).2.2.trans (zw_row _ _ a2)
  have r0 : R1 x = R x := (q1 x (by omega)).2.2
  have r1 : R2 x = zw R1 x 0 (some (x + 1)) x := (q2 x (by omega)).2.2
  have r2 : R3 x = zw R2 x 1 (some (x + 99)) x := (q3 x (by omega)).2.2
  have r3 : R4 x = zw R3 x 2 (some (x + 197)) x := (q4 x (by omega)).2.2
  have r5 : ∀ k, k ≠ 4 → k ≠ 3 → zw (zN (zw R4 x 3 (some (x + 591))) (x + 594) (fun _ => none)) x 4 (some (x + 594)) x k = R4 x k := fun k a1 a2 => (zw_k _ _ a1).trans ((congrFun (zN_n _ _ (by omega)) k).trans (zw_k _ _ a2))
  have H1 : hsI (x + 1) 8 12 (zN T4 (x + 594) (some (.inl 1))) (zN I4 (x + 594) (fun _ => 0)) (zw (zN (zw R4 x 3 (some (x + 591))) (x + 594) (fun _ => none)) x 4 (some (x + 594))) := hs_fr hD1 (fun q a1 a2 => ⟨(zN_n _ _ (by omega)).trans ((q4 q (by omega)).1.trans ((q3 q (by omega)).1.trans (q2 q (by omega)).1)), (zN_n _ _ (by omega)).trans ((q4 q (by omega)).2.1.trans ((q3 q (by omega)).2.1.trans (q2 q (by omega)).2.1)), (e4 q (by omega) (by omega)).trans ((f3 q (by omega) (by omega)).trans ((f2 q (by omega) (by omega)).trans (f1 q (by omega) (by omega))))⟩)
  have H2 : hsI (x + 99) 8 12 (zN T4 (x + 594) (some (.inl 1))) (zN I4 (x + 594) (fun _ => 0)) (zw (zN (zw R4 x 3 (some (x + 591))) (x + 594) (fun _ => none)) x 4 (some (x + 594))) := hs_fr hD2 (fun q a1 a2 => ⟨(zN_n _ _ (by omega)).trans ((q4 q (by omega)).1.trans (q3 q (by omega)).1), (zN_n _ _ (by omega)).trans ((q4 q (by omega)).2.1.trans (q3 q (by omega)).2.1), (e4 q (by omega) (by omega)).trans ((f3 q (by omega) (by omega)).trans (f2 q (by omega) (by omega)))⟩)
  have H3 : hiI (x + 197) 4 (zN T4 (x + 594) (some (.inl 1))) (zN I4 (x + 594) (fun _ => 0)) (zw (zN (zw R4 x 3 (some (x + 591))) (x + 594) (fun _ => none)) x 4 (some (x + 594))) := hi_fr hD3 (fun q a1 a2 => ⟨(zN_n _ _ (by omega)).trans (q4 q (by omega)).1, (zN_n _ _ (by omega)).trans (q4 q (by omega)).2.1, (e4 q (by omega) (by omega)).trans (f3 q (by omega) (by omega))⟩)
  obtain ⟨c1, ⟨c2, c3⟩, c4, c5⟩ := hD4
  have HS : z_Sc (zN T4 (x + 594) (some (.inl 1))) (zw (zN (zw R4 x 3 (some (x + 591))) (x + 594) (fun _ => none)) x 4 (some (x + 594))) (x + 591) := ⟨(zN_n _ _ (by omega)).trans c1, ⟨(zN_n _ _ (by omega)).trans c2, (congrFun (e4 (x + 591) (by omega) (by omega)) 0).trans c3⟩, (zN_n _ _ (by omega)).trans c4, (congrFun (e4 (x + 591) (by omega) (by omega)) 5).trans c5⟩
  refine z_vret rfl dX7_init_59 (by decide) (by decide) ⟨rfl, rfl, fun q hq => ⟨?_, ?_, ?_⟩, ⟨hT5, ?_, ?_, ?_, ?_, zw_s _ _ _ _, zN_s _ _ _, HS⟩, H1, H2, H3, (zN_n _ _ (by omega)).trans hz4, (zN_n _ _ (by omega)).trans hz5⟩
  · exact (zN_n _ _ (by omega)).trans ((q4 q (by omega)).1.trans ((q3 q (by omega)).1.trans ((q2 q (by omega)).1.trans (q1 q (by omega)).1)))
  · exact (zN_n _ _ (by omega)).trans ((q4 q (by omega)).2.1.trans ((q3 q (by omega)).2.1.trans ((q2 q (by omega)).2.1.trans (q1 q (by omega)).2.1)))
  · exact (e4 q (by omega) (by omega)).trans ((f3 q (by omega) (by omega)).trans ((f2 q (by omega) (by omega)).trans ((f1 q (by omega) (by omega)).trans (q1 q (by omega)).2.2)))
  · exact (r5 0 (by decide) (by decide)).trans ((congrFun r3 0).trans ((zw_k _ _ (by decide)).trans ((congrFun r2 0).trans ((zw_k _ _ (by decide)).trans ((congrFun r1 0).trans (zw_s _ _ _ _))))))
  · exact (r5 1 (by decide) (by decide)).trans ((congrFun r3 1).trans ((zw_k _ _ (by decide)).trans ((congrFun r2 1).trans (zw_s _ _ _ _))))
  · exact (r5 2 (by decide) (by decide)).trans ((congrFun r3 2).trans (zw_s _ _ _ _))
  · exact (zw_k _ _ (by decide)).trans ((congrFun (zN_n _ _ (by omega)) 3).trans (zw_s _ _ _ _))
