/-! CONSTRUCTORS of the plan, the house, the past, the class, the reference -/
def plI (p i : Nat) (T : zTT) (I : zII) (R : zRR) : Prop := T p = some (.inl 4) ∧ T (p + 1) = some (.inr (.object RX1, 16)) ∧ R p 0 = some (p + 1) ∧ (∀ j, j < i → T (p + 2 + j) = some (.inl 1) ∧ R (p + 1) j = some (p + 2 + j)) ∧ ∀ q, p ≤ q → q < p + 2 + i → I q = fun _ => 0
set_option maxRecDepth 100000 in
set_option maxHeartbeats 4000000 in
theorem c_X4_init (G : zG) {n : Nat} {T : zTT} {I : zII} {R : zRR} (p : Nat) (hn : n = p + 1) (hT : T p = some (.inl 4)) (hI : I p = fun _ => 0) : Ct G yX4_init wsX4_init (2, 17, 96) [.ref p] n T I R ((fun r n' T' I' R' => r = none ∧ n' = p + 18 ∧ z_nw p T T' I I' R R' ∧ plI p 16 T' I' R')) := by
  refine Ct.ofX (M := muX4_init) (ls := [(0, .ref p)]) (by decide +kernel) rfl (by decide) rfl rfl (Nat.le_of_ble_eq_true rfl) ?_
  subst hn
  have loop : ∀ d i, i + d = 16 → ∀ T2 I2 R2 n2 k2 w2, n2 = p + 2 + i → k2 = 1 + i → w2 = 16 + 5 * i → z_nw p T T2 I I2 R R2 → plI p i T2 I2 R2 → ∀ ls : List (Nat × Value), lv_pick ls [0, 1] = [(0, .ref p), (1, .int (nI i))] → z_X G muX4_init (2, 17, 96) (fun r n' T' I' R' => r = none ∧ n' = p + 18 ∧ z_nw p T T' I I' R R' ∧ plI p 16 T' I' R') n2 T2 I2 R2 k2 w2 15 ls [] := by
    intro d
    induction d with
    | zero =>
      intro i hi T2 I2 R2 n2 k2 w2 hn hk hw hnw hP ls hls
      have hi : i = 16 := hi
      subst hi
      obtain ⟨hTp, hT1, hR0, hE, hz⟩ := id hP
      refine z_pick [0, 1] hls ?_
      refine z_iload_n (q := 16) dX4_init_15 rfl rfl rfl ?_
      refine z_aload_n (q := 17) dX4_init_16 rfl rfl rfl ?_
      refine z_getR (q := 20) 4 0 5 11 rfl (by decide) rfl rfl rfl (by with_reducible assumption) (by with_reducible assumption) dX4_init_17 rfl ?_
      refine z_alen (q := 21) (by with_reducible assumption) dX4_init_20 rfl ?_
      refine z_icmpn_ge (rfl) (rfl) (by omega) (by omega) (tgt := 43) (q := 24) dX4_init_21 (by decide) rfl (fun _ => ?_) (fun hc => absurd hc (by omega))
      exact z_vret rfl dX4_init_43 (by show _ ≤ 17; omega) (by show _ ≤ 96; omega) ⟨rfl, by omega, hnw, hP⟩
    | succ d ih =>
      intro i hi T2 I2 R2 n2 k2 w2 hn hk hw hnw hP ls hls
      obtain ⟨hTp, hT1, hR0, hE, hz⟩ := id hP
      subst hn
      refine z_pick [0, 1] hls ?_
      refine z_iload_n (q := 16) dX4_init_15 rfl rfl rfl ?_
      refine z_aload_n (q := 17) dX4_init_16 rfl rfl rfl ?_
      refine z_getR (q := 20) 4 0 5 11 rfl (by decide) rfl rfl rfl (by with_reducible assumption) (by with_reducible assumption) dX4_init_17 rfl ?_
      refine z_alen (q := 21) (by with_reducible assumption) dX4_init_20 rfl ?_
      refine z_icmpn_ge (rfl) (rfl) (by omega) (by omega) (tgt := 43) (q := 24) dX4_init_21 (by decide) rfl (fun hc => absurd hc (by omega)) (fun _ => ?_)
      have hTn : zN T2 (p + 2 + i) (some (.inl 1)) (p + 2 + i) = some (.inl 1) := zN_s _ _ _
      have hT1n : zN T2 (p + 2 + i) (some (.inl 1)) (p + 1) = some (.inr (.object RX1, 16)) := (zN_n _ _ (by omega)).trans hT1
      refine z_aload_n (q := 25) dX4_init_24 rfl rfl rfl ?_
      refine z_getR (q := 28) 4 0 5 11 rfl (by decide) rfl rfl rfl (by with_reducible assumption) (by with_reducible assumption) dX4_init_25 rfl ?_
      refine z_iload_n (q := 29) dX4_init_28 rfl rfl rfl ?_
      refine z_new (q := 32) 1 4 6 7 tyX1 tyX1_ok (z_sub [13, 14, 15, 16, 17] rfl) rfl rfl rfl rfl z_def1 (by show _ ≤ 17 ∧ _ ≤ 96; omega) dX4_init_29 rfl ?_
      refine z_dup (q := 33) dX4_init_32 rfl rfl ?_
      refine z_invIN' (q := 36) (j := 8) (l := 7) (c_X1_init G (p + 2 + i) hTn) gX4_init_X1_init_n17 rfl (fun _ h => h.2.2.2.2.2.2.2.1) rfl rfl hy_X1_init rfl rfl rfl rfl (Nat.le_of_ble_eq_true rfl) (by show _ + 0 ≤ 17 ∧ _ + 0 ≤ 96; omega) dX4_init_33 rfl (z_rn ?_)
      refine z_aast (q := 37) (ci := 1) (r := (RX1, _, _)) _ (hT1n) rfl (hTn) (rfl) (by omega) (by decide) dX4_init_36 rfl ?_
      refine z_iinc (q := 40) dX4_init_37 rfl (nI_add _ 1) (by decide) rfl ?_
      refine z_goto (q := 15) dX4_init_40 (by decide) ?_
      refine ih (i + 1) (by omega) _ _ _ _ _ _ (by omega) (by show _ + 0 = _; omega) (by show _ + 0 = _; omega) (z_nw_t hnw (c := p) (fun q hq => ⟨zN_n _ _ (by omega), zN_n _ _ (by omega), ?_⟩) (Nat.le_refl _)) ⟨(zN_n _ _ (by omega)).trans hTp, hT1n, ?_, fun j hj => ⟨?_, ?_⟩, fun q q1 q2 => ?_⟩ _ rfl
      · exact (zw_row _ _ (by omega)).trans (zN_n _ _ (by omega))
      · exact (congrFun ((zw_row _ _ (by omega)).trans (zN_n _ _ (by omega))) 0).trans hR0
      · by_cases e : j = i
        · subst e; exact hTn
        · exact (zN_n _ _ (by omega)).trans (hE j (by omega)).1
      · by_cases e : j = i
        · subst e; exact zw_s _ _ _ _
        · exact (zw_k _ _ e).trans ((congrFun (zN_n _ _ (by omega)) j).trans (hE j (by omega)).2)
      · by_cases e : q = p + 2 + i
        · subst e; exact zN_s _ _ _
        · exact (zN_n _ _ e).trans (hz q q1 (by omega))
  have h1 : zN T (p + 1) (some (.inr (.object RX1, 16))) p = some (.inl 4) := (zN_n _ _ (by omega)).trans hT
  refine z_aload_n (q := 1) dX4_init_0 rfl rfl rfl ?_
  refine z_objInit (q := 4) (i := 1) (j := 2) (l := 3) rfl rfl rfl rfl (Nat.le_of_ble_eq_true rfl) dX4_init_1 rfl ?_
  refine z_aload_n (q := 5) dX4_init_4 rfl rfl rfl ?_
  refine z_bipush (q := 7) (v := nI 16) dX4_init_5 (by rfl) rfl ?_
  refine z_newq (q := 10) (16) 4 rfl (fun _ h => h.2.2.1.2.1) (by rfl) (by decide) (by decide) dX4_init_7 rfl ?_
  refine z_putF (q := 13) 4 0 5 11 rfl (by decide) rfl rfl (tyX4_ok 0 (by decide)) rfl rfl rfl rfl rfl (h1) dX4_init_10 rfl ?_
  refine z_iconst (q := 14) (v := nI 0) dX4_init_13 (by rfl) rfl ?_
  refine z_istore_n (q := 15) dX4_init_14 rfl (by decide) rfl ?_
  refine loop 16 0 rfl _ _ _ _ _ _ (by omega) rfl rfl (fun q hq => ⟨zN_n _ _ (by omega), zN_n _ _ (by omega), ?_⟩) ⟨h1, zN_s _ _ _, zw_s _ _ _ _, fun j hj => absurd hj (Nat.not_lt_zero j), fun q q1 q2 => ?_⟩ _ rfl
  · exact (zw_row _ _ (by omega)).trans (zN_n _ _ (by omega))
  · by_cases e : q = p + 1
    · subst e; exact zN_s _ _ _
    · have : q = p := by omega
      subst this
      exact (zN_n _ _ e).trans hI
theorem plI_P {p : Nat} {T : zTT} {I : zII} {R : zRR} (h : plI p 16 T I R) : z_P T I R p 0 (fun _ => (0, 0, 0, 0, 0)) := by
  obtain ⟨h1, h2, h3, h4, h5⟩ := h
  have he : ∀ k, k < 16 → eAt R p k = p + 2 + k := fun k hk => by unfold eAt; rw [(h4 k hk).2]; rfl
  refine ⟨⟨h1, h2, h3, fun q q1 q2 => ?_⟩, ⟨fun k hk => ⟨?_, ?_, ?_⟩, fun j k hj hk e => ?_⟩, by decide, ?_, fun k hk => ?_, fun k hk => absurd hk (Nat.not_lt_zero k)⟩
  · have := (h4 (q - (p + 2)) (by omega)).1
    rw [show p + 2 + (q - (p + 2)) = q by omega] at this
    exact this
  · rw [he k hk]; exact (h4 k hk).2
  · rw [he k hk]; omega
  · rw [he k hk]; omega
  · rw [he j hj, he k hk] at e; omega
  · rw [h5 p (by omega) (by omega), nI_0]
  · rw [he k hk, h5 _ (by omega) (by omega)]; exact Or.inl rfl
def hsI (a i j : Nat) (T : zTT) (I : zII) (R : zRR) : Prop := T a = some (.inl 3) ∧ (T (a + 1) = some (.inr (.object RX5, 8)) ∧ R a 0 = some (a + 1)) ∧ (T (a + 2) = some (.inr (.object RX0, 12)) ∧ R a 1 = some (a + 2)) ∧ R a 2 = some (a + 3) ∧ (T (a + 21) = some (.inr (.int, 2)) ∧ R a 3 = some (a + 21)) ∧ (∀ k, k < i → R (a + 1) k = some (a + 22 + 2 * k) ∧ z_Room T R (a + 22 + 2 * k)) ∧ (∀ k, k < j → R (a + 2) k = some (a + 38 + 5 * k) ∧ z_Door T R (a + 38 + 5 * k)) ∧ plI (a + 3) 16 T I R ∧ (I (a + 21) 0 = nI 1000000 ∧ I (a + 21) 1 = nI 10) ∧ ∀ q, a ≤ q → q < a + 22 + 2 * i + 5 * j → q ≠ a + 21 → I q = fun _ => 0
theorem plI_f {p i : Nat} {T T' : zTT} {I I' : zII} {R R' : zRR} (h : plI p i T I R) (hi : i ≤ 16) (hT : ∀ q, p ≤ q → q < p + 18 → T' q = T q) (hI : ∀ q, p ≤ q → q < p + 18 → I' q = I q) (hR : ∀ q, p ≤ q → q < p + 18 → R' q = R q) : plI p i T' I' R' := by
  obtain ⟨h1, h2, h3, h4, h5⟩ := h
  exact ⟨by rw [hT p (by omega) (by omega)]; exact h1, by rw [hT (p + 1) (by omega) (by omega)]; exact h2, by rw [hR p (by omega) (by omega)]; exact h3, fun j hj => ⟨by rw [hT _ (by omega) (by omega)]; exact (h4 j hj).1, by rw [hR _ (by omega) (by omega)]; exact (h4 j hj).2⟩, fun q q1 q2 => by rw [hI q q1 (by omega)]; exact h5 q q1 q2⟩
theorem room_f {T T' : zTT} {R R' : zRR} {r : Nat} (h : z_Room T R r) (hT : ∀ q, r ≤ q → q < r + 2 → T' q = T q) (hR : R' r = R r) : z_Room T' R' r := ⟨by rw [hT r (by omega) (by omega)]; exact h.1, by rw [hT _ (by omega) (by omega)]; exact h.2.1, by rw [hR]; exact h.2.2⟩
theorem door_f {T T' : zTT} {R R' : zRR} {r : Nat} (h : z_Door T R r) (hT : ∀ q, r ≤ q → q < r + 5 → T' q = T q) (hR : R' r = R r) : z_Door T' R' r := by
  obtain ⟨a, b, c, d, e, f, g, i, j⟩ := h
  exact ⟨by rw [hT r (by omega) (by omega)]; exact a, by rw [hT _ (by omega) (by omega)]; exact b, by rw [hT _ (by omega) (by omega)]; exact c, by rw [hT _ (by omega) (by omega)]; exact d, by rw [hT _ (by omega) (by omega)]; exact e, by rw [hR]; exact f, by rw [hR]; exact g, by rw [hR]; exact i, by rw [hR]; exact j⟩
/-- what stands stays where its cells do -/
theorem hsI_f {a i j : Nat} {T T' : zTT} {I I' : zII} {R R' : zRR} (h : hsI a i j T I R) (hj : j = 0 ∨ i = 8) (hT : ∀ q, a ≤ q → q < a + 22 + 2 * i + 5 * j → T' q = T q) (hI : ∀ q, a ≤ q → q < a + 22 + 2 * i + 5 * j → I' q = I q) (hR : ∀ q, a ≤ q → q < a + 22 + 2 * i + 5 * j → q ≠ a + 1 → q ≠ a + 2 → R' q = R q) (h1 : ∀ k, k < i → R' (a + 1) k = R (a + 1) k) (h2 : ∀ k, k < j → R' (a + 2) k = R (a + 2) k) : hsI a i j T' I' R' := by
  obtain ⟨b1, ⟨b2, b3⟩, ⟨b4, b5⟩, b6, ⟨b7, b8⟩, b9, b10, b11, ⟨b12, b13⟩, b14⟩ := h
  refine ⟨by rw [hT a (by omega) (by omega)]; exact b1, ⟨by rw [hT _ (by omega) (by omega)]; exact b2, by rw [hR a (by omega) (by omega) (by omega) (by omega)]; exact b3⟩, ⟨by rw [hT _ (by omega) (by omega)]; exact b4, by rw [hR a (by omega) (by omega) (by omega) (by omega)]; exact b5⟩, by rw [hR a (by omega) (by omega) (by omega) (by omega)]; exact b6, ⟨by rw [hT _ (by omega) (by omega)]; exact b7, by rw [hR a (by omega) (by omega) (by omega) (by omega)]; exact b8⟩, fun k hk => ⟨by rw [h1 k hk]; exact (b9 k hk).1, room_f (b9 k hk).2 (fun q q1 q2 => hT q (by omega) (by omega)) (hR _ (by omega) (by omega) (by omega) (by omega))⟩, fun k hk => ⟨by rw [h2 k hk]; exact (b10 k hk).1, door_f (b10 k hk).2 (fun q q1 q2 => hT q (by omega) (by omega)) (hR _ (by omega) (by omega) (by omega) (by omega))⟩, plI_f b11 (by decide) (fun q q1 q2 => hT q (by omega) (by omega)) (fun q q1 q2 => hI q (by omega) (by omega)) (fun q q1 q2 => hR q (by omega) (by omega) (by omega) (by omega)), ⟨by rw [hI _ (by omega) (by omega)]; exact b12, by rw [hI _ (by omega) (by omega)]; exact b13⟩, fun q q1 q2 q3 => by rw [hI q q1 q2]; exact b14 q q1 q2 q3⟩
set_option maxRecDepth 100000 in
set_option maxHeartbeats 4000000 in
theorem c_X3_init (G : zG) {n : Nat} {T : zTT} {I : zII} {R : zRR} (a : Nat) (hn : n = a + 1) (hT : T a = some (.inl 3)) (hI : I a = fun _ => 0) : Ct G yX3_init wsX3_init (3, 97, 768) [.ref a] n T I R ((fun r n' T' I' R' => r = none ∧ n' = a + 98 ∧ z_nw a T T' I I' R R' ∧ hsI a 8 12 T' I' R')) := by
  refine Ct.ofX (M := muX3_init) (ls := [(0, .ref a)]) (by decide +kernel) rfl (by decide) rfl rfl (Nat.le_of_ble_eq_true rfl) ?_
  subst hn
  have loop2 : ∀ d i, i + d = 12 → ∀ T2 I2 R2 n2 k2 w2, n2 = a + 38 + 5 * i → k2 = 37 + 5 * i → w2 = 432 + 28 * i → z_nw a T T2 I I2 R R2 → hsI a 8 i T2 I2 R2 → ∀ ls : List (Nat × Value), lv_pick ls [0, 1] = [(0, .ref a), (1, .int (nI i))] → z_X G muX3_init (3, 97, 768) (fun r n' T' I' R' => r = none ∧ n' = a + 98 ∧ z_nw a T T' I I' R R' ∧ hsI a 8 12 T' I' R') n2 T2 I2 R2 k2 w2 82 ls [] := by
    intro d
    induction d with
    | zero =>
      intro i hi T2 I2 R2 n2 k2 w2 hn hk hw hnw hP ls hls
      have hi : i = 12 := hi
      subst hi
      have hTa2 := hP.1
      obtain ⟨hT2, hR2⟩ := hP.2.2.1
      refine z_pick [0, 1] hls ?_
      refine z_iload_n (q := 83) dX3_init_82 rfl rfl rfl ?_
      refine z_aload_n (q := 84) dX3_init_83 rfl rfl rfl ?_
      refine z_getR (q := 87) 3 1 7 42 rfl (by decide) rfl rfl rfl (by with_reducible assumption) (by with_reducible assumption) dX3_init_84 rfl ?_
      refine z_alen (q := 88) (by with_reducible assumption) dX3_init_87 rfl ?_
      refine z_icmpn_ge (rfl) (rfl) (by omega) (by omega) (tgt := 110) (q := 91) dX3_init_88 (by decide) rfl (fun _ => ?_) (fun hc => absurd hc (by omega))
      exact z_vret rfl dX3_init_110 (by show _ ≤ 97; omega) (by show _ ≤ 768; omega) ⟨rfl, by omega, hnw, hP⟩
    | succ d ih =>
      intro i hi T2 I2 R2 n2 k2 w2 hn hk hw hnw hP ls hls
      have hTa2 := hP.1
      obtain ⟨hT2, hR2⟩ := hP.2.2.1
      subst hn
      refine z_pick [0, 1] hls ?_
      refine z_iload_n (q := 83) dX3_init_82 rfl rfl rfl ?_
      refine z_aload_n (q := 84) dX3_init_83 rfl rfl rfl ?_
      refine z_getR (q := 87) 3 1 7 42 rfl (by decide) rfl rfl rfl (by with_reducible assumption) (by with_reducible assumption) dX3_init_84 rfl ?_
      refine z_alen (q := 88) (by with_reducible assumption) dX3_init_87 rfl ?_
      refine z_icmpn_ge (rfl) (rfl) (by omega) (by omega) (tgt := 110) (q := 91) dX3_init_88 (by decide) rfl (fun hc => absurd hc (by omega)) (fun _ => ?_)
      have hTn : zN T2 (a + 38 + 5 * i) (some (.inl 0)) (a + 38 + 5 * i) = some (.inl 0) := zN_s _ _ _
      have hIn : zN I2 (a + 38 + 5 * i) (fun _ => 0) (a + 38 + 5 * i) = fun _ => 0 := zN_s _ _ _
      refine z_aload_n (q := 92) dX3_init_91 rfl rfl rfl ?_
      refine z_getR (q := 95) 3 1 7 42 rfl (by decide) rfl rfl rfl (by with_reducible assumption) (by with_reducible assumption) dX3_init_92 rfl ?_
      refine z_iload_n (q := 96) dX3_init_95 rfl rfl rfl ?_
      refine z_new (q := 99) 0 6 17 18 tyX0 tyX0_ok (z_sub [60, 61, 62, 63, 64, 65, 66, 67, 68, 69] rfl) rfl rfl rfl rfl z_def0 (by show _ ≤ 97 ∧ _ ≤ 768; omega) dX3_init_96 rfl ?_
      refine z_dup (q := 100) dX3_init_99 rfl rfl ?_
      refine z_invIN' (q := 103) (j := 34) (l := 18) (c_X0_init G (a + 38 + 5 * i) rfl hTn hIn) gX3_init_X0_init_n36 rfl (fun _ h => h.2.2.2.2.2.2.1) rfl rfl hy_X0_init rfl rfl rfl rfl (Nat.le_of_ble_eq_true rfl) (by show _ + 4 ≤ 97 ∧ _ + 18 ≤ 768; omega) dX3_init_100 rfl ?_
      rintro r3 n3 T3 I3 R3 ⟨rfl, rfl, h3, hD, hz⟩
      have q3 : ∀ q, q < a + 38 + 5 * i → T3 q = T2 q ∧ I3 q = I2 q ∧ R3 q = R2 q := fun q hq => by
        obtain ⟨x1, x2, x3⟩ := h3 q hq
        exact ⟨x1.trans (zN_n _ _ (by omega)), x2.trans (zN_n _ _ (by omega)), x3.trans (zN_n _ _ (by omega))⟩
      have hT3 : T3 (a + 2) = some (.inr (.object RX0, 12)) := by rw [(q3 _ (by omega)).1]; exact hT2
      have hTd := hD.1
      show z_X G muX3_init (3, 97, 768) (fun r n' T' I' R' => r = none ∧ n' = a + 98 ∧ z_nw a T T' I I' R R' ∧ hsI a 8 12 T' I' R') _ T3 I3 R3 _ _ 103 _ [.ref (a + 38 + 5 * i), .int (nI i), .ref (a + 2)]
      refine z_aast (q := 104) (ci := 0) (r := (RX0, _, _)) _ (hT3) rfl (hTd) (rfl) (by omega) (by decide) dX3_init_103 rfl ?_
      refine z_iinc (q := 107) dX3_init_104 rfl (nI_add _ 1) (by decide) rfl ?_
      refine z_goto (q := 82) dX3_init_107 (by decide) ?_
      have hh : hsI a 8 i T3 I3 (zw R3 (a + 2) i (some (a + 38 + 5 * i))) := hsI_f hP (Or.inr rfl) (fun q _ q2 => (q3 q (by omega)).1) (fun q _ q2 => (q3 q (by omega)).2.1) (fun q _ q2 _ q4 => by rw [zw_row _ _ q4]; exact (q3 q (by omega)).2.2) (fun k hk => by rw [zw_row _ _ (by omega), (q3 (a + 1) (by omega)).2.2]) (fun k hk => by rw [zw_k _ _ (by omega), (q3 (a + 2) (by omega)).2.2])
      obtain ⟨b1, b2, b3, b4, b5, b6, b7, b8, b9, b10⟩ := hh
      refine ih (i + 1) (by omega) _ _ _ _ _ _ (by omega) (by show _ + 4 = _; omega) (by show _ + 18 = _; omega) (z_nw_t hnw (c := a) (fun q hq => ⟨(q3 q (by omega)).1, (q3 q (by omega)).2.1, (zw_row _ _ (by omega)).trans (q3 q (by omega)).2.2⟩) (Nat.le_refl _)) ⟨b1, b2, b3, b4, b5, b6, fun k hk => ?_, b8, b9, fun q q1 q2 q4 => ?_⟩ _ rfl
      · by_cases e : k = i
        · subst e; exact ⟨zw_s _ _ _ _, door_f hD (fun _ _ _ => rfl) (zw_row _ _ (by omega))⟩
        · exact b7 k (by omega)
      · by_cases e : q < a + 38 + 5 * i
        · exact b10 q q1 (by omega) q4
        · exact hz q (by omega) (by omega)
  have loop1 : ∀ d i, i + d = 8 → ∀ T2 I2 R2 n2 k2 w2, n2 = a + 22 + 2 * i → k2 = 21 + 2 * i → w2 = 120 + 39 * i → z_nw a T T2 I I2 R R2 → hsI a i 0 T2 I2 R2 → ∀ ls : List (Nat × Value), lv_pick ls [0, 1] = [(0, .ref a), (1, .int (nI i))] → z_X G muX3_init (3, 97, 768) (fun r n' T' I' R' => r = none ∧ n' = a + 98 ∧ z_nw a T T' I I' R R' ∧ hsI a 8 12 T' I' R') n2 T2 I2 R2 k2 w2 52 ls [] := by
    intro d
    induction d with
    | zero =>
      intro i hi T2 I2 R2 n2 k2 w2 hn hk hw hnw hP ls hls
      have hi : i = 8 := hi
      subst hi
      have hTa2 := hP.1
      obtain ⟨hT2, hR2⟩ := hP.2.1
      refine z_pick [0, 1] hls ?_
      refine z_iload_n (q := 53) dX3_init_52 rfl rfl rfl ?_
      refine z_aload_n (q := 54) dX3_init_53 rfl rfl rfl ?_
      refine z_getR (q := 57) 3 0 5 41 rfl (by decide) rfl rfl rfl (by with_reducible assumption) (by with_reducible assumption) dX3_init_54 rfl ?_
      refine z_alen (q := 58) (by with_reducible assumption) dX3_init_57 rfl ?_
      refine z_icmpn_ge (rfl) (rfl) (by omega) (by omega) (tgt := 80) (q := 61) dX3_init_58 (by decide) rfl (fun _ => ?_) (fun hc => absurd hc (by omega))
      refine z_iconst (q := 81) (v := nI 0) dX3_init_80 (by rfl) rfl ?_
      refine z_istore_n (q := 82) dX3_init_81 rfl (by decide) rfl ?_
      exact loop2 12 0 rfl T2 I2 R2 n2 k2 w2 (by omega) (by omega) (by omega) hnw hP _ rfl
    | succ d ih =>
      intro i hi T2 I2 R2 n2 k2 w2 hn hk hw hnw hP ls hls
      have hTa2 := hP.1
      obtain ⟨hT2, hR2⟩ := hP.2.1
      subst hn
      refine z_pick [0, 1] hls ?_
      refine z_iload_n (q := 53) dX3_init_52 rfl rfl rfl ?_
      refine z_aload_n (q := 54) dX3_init_53 rfl rfl rfl ?_
      refine z_getR (q := 57) 3 0 5 41 rfl (by decide) rfl rfl rfl (by with_reducible assumption) (by with_reducible assumption) dX3_init_54 rfl ?_
      refine z_alen (q := 58) (by with_reducible assumption) dX3_init_57 rfl ?_
      refine z_icmpn_ge (rfl) (rfl) (by omega) (by omega) (tgt := 80) (q := 61) dX3_init_58 (by decide) rfl (fun hc => absurd hc (by omega)) (fun _ => ?_)
      have hTn : zN T2 (a + 22 + 2 * i) (some (.inl 5)) (a + 22 + 2 * i) = some (.inl 5) := zN_s _ _ _
      have hIn : zN I2 (a + 22 + 2 * i) (fun _ => 0) (a + 22 + 2 * i) = fun _ => 0 := zN_s _ _ _
      refine z_aload_n (q := 62) dX3_init_61 rfl rfl rfl ?_
      refine z_getR (q := 65) 3 0 5 41 rfl (by decide) rfl rfl rfl (by with_reducible assumption) (by with_reducible assumption) dX3_init_62 rfl ?_
      refine z_iload_n (q := 66) dX3_init_65 rfl rfl rfl ?_
      refine z_new (q := 69) 5 4 15 16 tyX5 tyX5_ok (z_sub [53, 54, 55, 56, 57, 58, 59] rfl) rfl rfl rfl rfl z_def5 (by show _ ≤ 97 ∧ _ ≤ 768; omega) dX3_init_66 rfl ?_
      refine z_dup (q := 70) dX3_init_69 rfl rfl ?_
      refine z_invIN' (q := 73) (j := 30) (l := 16) (c_X5_init G (a + 22 + 2 * i) rfl hTn hIn) gX3_init_X5_init_n35 rfl (fun _ h => h.2.2.2.2.2.1) rfl rfl hy_X5_init rfl rfl rfl rfl (Nat.le_of_ble_eq_true rfl) (by show _ + 1 ≤ 97 ∧ _ + 32 ≤ 768; omega) dX3_init_70 rfl ?_
      rintro r3 n3 T3 I3 R3 ⟨rfl, rfl, h3, hD, hz, hz1⟩
      have q3 : ∀ q, q < a + 22 + 2 * i → T3 q = T2 q ∧ I3 q = I2 q ∧ R3 q = R2 q := fun q hq => by
        obtain ⟨x1, x2, x3⟩ := h3 q hq
        exact ⟨x1.trans (zN_n _ _ (by omega)), x2.trans (zN_n _ _ (by omega)), x3.trans (zN_n _ _ (by omega))⟩
      have hT3 : T3 (a + 1) = some (.inr (.object RX5, 8)) := by rw [(q3 _ (by omega)).1]; exact hT2
      have hTd := hD.1
      show z_X G muX3_init (3, 97, 768) (fun r n' T' I' R' => r = none ∧ n' = a + 98 ∧ z_nw a T T' I I' R R' ∧ hsI a 8 12 T' I' R') _ T3 I3 R3 _ _ 73 _ [.ref (a + 22 + 2 * i), .int (nI i), .ref (a + 1)]
      refine z_aast (q := 74) (ci := 5) (r := (RX5, _, _)) _ (hT3) rfl (hTd) (rfl) (by omega) (by decide) dX3_init_73 rfl ?_
      refine z_iinc (q := 77) dX3_init_74 rfl (nI_add _ 1) (by decide) rfl ?_
      refine z_goto (q := 52) dX3_init_77 (by decide) ?_
      have hh : hsI a i 0 T3 I3 (zw R3 (a + 1) i (some (a + 22 + 2 * i))) := hsI_f hP (Or.inl rfl) (fun q _ q2 => (q3 q (by omega)).1) (fun q _ q2 => (q3 q (by omega)).2.1) (fun q _ q2 q4 _ => by rw [zw_row _ _ q4]; exact (q3 q (by omega)).2.2) (fun k hk => by rw [zw_k _ _ (by omega), (q3 (a + 1) (by omega)).2.2]) (fun k hk => absurd hk (Nat.not_lt_zero k))
      obtain ⟨b1, b2, b3, b4, b5, b6, b7, b8, b9, b10⟩ := hh
      refine ih (i + 1) (by omega) _ _ _ _ _ _ (by omega) (by show _ + 1 = _; omega) (by show _ + 32 = _; omega) (z_nw_t hnw (c := a) (fun q hq => ⟨(q3 q (by omega)).1, (q3 q (by omega)).2.1, (zw_row _ _ (by omega)).trans (q3 q (by omega)).2.2⟩) (Nat.le_refl _)) ⟨b1, b2, b3, b4, b5, fun k hk => ?_, fun k hk => absurd hk (Nat.not_lt_zero k), b8, b9, fun q q1 q2 q4 => ?_⟩ _ rfl
      · by_cases e : k = i
        · subst e; exact ⟨zw_s _ _ _ _, room_f hD (fun _ _ _ => rfl) (zw_row _ _ (by omega))⟩
        · exact b6 k (by omega)
      · by_cases e : q < a + 22 + 2 * i
        · exact b10 q q1 (by omega) q4
        · rcases (show q = a + 22 + 2 * i ∨ q = a + 22 + 2 * i + 1 by omega) with rfl | rfl
          · exact hz
          · exact hz1
  refine z_aload_n (q := 1) dX3_init_0 rfl rfl rfl ?_
  refine z_objInit (q := 4) (i := 1) (j := 2) (l := 3) rfl rfl rfl rfl (Nat.le_of_ble_eq_true rfl) dX3_init_1 rfl ?_
  refine z_aload_n (q := 5) dX3_init_4 rfl rfl rfl ?_
  refine z_bipush (q := 7) (v := nI 8) dX3_init_5 (by rfl) rfl ?_
  refine z_newq (q := 10) (8) 4 rfl (fun _ h => h.2.2.1.2.2.2) (by rfl) (by decide) (by decide) dX3_init_7 rfl ?_
  have h1 : zN T (a + 1) (some (.inr (.object RX5, 8))) a = some (.inl 3) := (zN_n _ _ (by omega)).trans hT
  refine z_putF (q := 13) 3 0 5 41 rfl (by decide) rfl rfl (tyX3_ok 0 (by decide)) rfl rfl rfl rfl rfl (h1) dX3_init_10 rfl ?_
  refine z_aload_n (q := 14) dX3_init_13 rfl rfl rfl ?_
  refine z_bipush (q := 16) (v := nI 12) dX3_init_14 (by rfl) rfl ?_
  refine z_newq (q := 19) (12) 6 rfl (fun _ h => h.2.2.1.1) (by rfl) (by decide) (by decide) dX3_init_16 rfl ?_
  have h2 : zN (zN T (a + 1) (some (.inr (.object RX5, 8)))) (a + 1 + 1) (some (.inr (.object RX0, 12))) a = some (.inl 3) := (zN_n _ _ (by omega)).trans h1
  refine z_putF (q := 22) 3 1 7 42 rfl (by decide) rfl rfl (tyX3_ok 1 (by decide)) rfl rfl rfl rfl rfl (h2) dX3_init_19 rfl ?_
  refine z_aload_n (q := 23) dX3_init_22 rfl rfl rfl ?_
  refine z_new (q := 26) 4 8 9 10 tyX4 tyX4_ok (z_sub [51, 52] rfl) rfl rfl rfl rfl z_def4 (by decide) dX3_init_23 rfl ?_
  refine z_dup (q := 27) dX3_init_26 rfl rfl ?_
  refine z_invI' (i := 19) (j := 20) (l := 10) (c_X4_init G (a + 3) rfl (zN_s _ _ _) (zN_s _ _ _)) gX3_init_X4_init rfl rfl rfl rfl hy_X4_init rfl rfl rfl rfl (Nat.le_of_ble_eq_true rfl) (by decide) dX3_init_27 rfl ?_
  rintro r3 n3 T3 I3 R3 ⟨rfl, rfl, h3, hP3⟩
  have q3 : ∀ q, q < a + 3 → T3 q = zN (zN T (a + 1) (some (.inr (.object RX5, 8)))) (a + 2) (some (.inr (.object RX0, 12))) q ∧ I3 q = zN (zN I (a + 1) (fun _ => 0)) (a + 2) (fun _ => 0) q ∧ R3 q = zw (zN (zw (zN R (a + 1) (fun _ => none)) a 0 (some (a + 1))) (a + 2) (fun _ => none)) a 1 (some (a + 2)) q := fun q hq => by
    obtain ⟨x1, x2, x3⟩ := h3 q hq
    exact ⟨x1.trans (zN_n _ _ (by omega)), x2.trans (zN_n _ _ (by omega)), x3.trans (zN_n _ _ (by omega))⟩
  have hT3 : T3 a = some (.inl 3) := (q3 a (by omega)).1.trans h2
  have hT31 : T3 (a + 1) = some (.inr (.object RX5, 8)) := by rw [(q3 _ (by omega)).1, zN_n _ _ (by omega), zN_s]
  have hT32 : T3 (a + 2) = some (.inr (.object RX0, 12)) := by rw [(q3 _ (by omega)).1, zN_s]
  have hR30 : R3 a 0 = some (a + 1) := by rw [(q3 a (by omega)).2.2, zw_k _ _ (by decide), zN_n _ _ (by omega), zw_s]
  have hR31 : R3 a 1 = some (a + 2) := by rw [(q3 a (by omega)).2.2, zw_s]
  have hI3 : I3 a = fun _ => 0 := by rw [(q3 a (by omega)).2.1, zN_n _ _ (by omega), zN_n _ _ (by omega)]; exact hI
  have hI31 : I3 (a + 1) = fun _ => 0 := by rw [(q3 _ (by omega)).2.1, zN_n _ _ (by omega), zN_s]
  have hI32 : I3 (a + 2) = fun _ => 0 := by rw [(q3 _ (by omega)).2.1, zN_s]
  have h3n : z_nw a T T3 I I3 R R3 := fun q hq => ⟨by rw [(q3 q (by omega)).1, zN_n _ _ (by omega), zN_n _ _ (by omega)], by rw [(q3 q (by omega)).2.1, zN_n _ _ (by omega), zN_n _ _ (by omega)], by rw [(q3 q (by omega)).2.2, zw_row _ _ (by omega), zN_n _ _ (by omega), zw_row _ _ (by omega), zN_n _ _ (by omega)]⟩
  show z_X G muX3_init (3, 97, 768) (fun r n' T' I' R' => r = none ∧ n' = a + 98 ∧ z_nw a T T' I I' R R' ∧ hsI a 8 12 T' I' R') (a + 3 + 18) T3 I3 R3 _ _ 30 _ [.ref (a + 3), .ref a]
  refine z_putF (q := 33) 3 2 11 43 rfl (by decide) rfl rfl (tyX3_ok 2 (by decide)) rfl rfl rfl rfl rfl (hT3) dX3_init_30 rfl ?_
  refine z_aload_n (q := 34) dX3_init_33 rfl rfl rfl ?_
  refine z_iconst (q := 35) (v := nI 2) dX3_init_34 (by rfl) rfl ?_
  refine z_newa (q := 37) (atype := .int) (ty := .int) (2) 12 rfl rfl (fun _ _ h => h) (by rfl) (by decide) (fun _ => rfl) (by decide) (by decide) dX3_init_35 rfl ?_
  have h4 : zN T3 (a + 3 + 18) (some (.inr (.int, 2))) (a + 3 + 18) = some (.inr (.int, 2)) := zN_s _ _ _
  have h5 : zN T3 (a + 3 + 18) (some (.inr (.int, 2))) a = some (.inl 3) := (zN_n _ _ (by omega)).trans hT3
  refine z_dup (q := 38) dX3_init_37 rfl rfl ?_
  refine z_iconst (q := 39) (v := nI 0) dX3_init_38 (by rfl) rfl ?_
  refine z_ldc (q := 41) (i := 13) (v := 1000000) rfl dX3_init_39 rfl ?_
  refine z_iast (q := 42) _ (h4) (rfl) (by decide) (by decide) dX3_init_41 rfl ?_
  refine z_dup (q := 43) dX3_init_42 rfl rfl ?_
  refine z_iconst (q := 44) (v := nI 1) dX3_init_43 (by rfl) rfl ?_
  refine z_bipush (q := 46) (v := nI 10) dX3_init_44 (by rfl) rfl ?_
  refine z_iast (q := 47) _ (h4) (rfl) (by decide) (by decide) dX3_init_46 rfl ?_
  refine z_putF (q := 50) 3 3 14 44 rfl (by decide) rfl rfl (tyX3_ok 3 (by decide)) rfl rfl rfl rfl rfl (h5) dX3_init_47 rfl ?_
  refine z_iconst (q := 51) (v := nI 0) dX3_init_50 (by rfl) rfl ?_
  refine z_istore_n (q := 52) dX3_init_51 rfl (by decide) rfl ?_
  refine loop1 8 0 rfl _ _ _ _ _ _ (by omega) rfl rfl ?_ ⟨h5, ⟨?_, ?_⟩, ⟨?_, ?_⟩, ?_, ⟨h4, zw_s _ _ _ _⟩, fun k hk => absurd hk (Nat.not_lt_zero k), fun k hk => absurd hk (Nat.not_lt_zero k), plI_f hP3 (by decide) (fun q q1 q2 => zN_n _ _ (by omega)) (fun q q1 q2 => ?_) (fun q q1 q2 => ?_), ⟨?_, zw_s _ _ _ _⟩, fun q q1 q2 q4 => ?_⟩ _ rfl
  · refine z_nw_t h3n (c := a) (fun q hq => ⟨zN_n _ _ (by omega), ?_, ?_⟩) (Nat.le_refl _)
    · exact (zw_row _ _ (by omega)).trans ((zw_row _ _ (by omega)).trans (zN_n _ _ (by omega)))
    · exact (zw_row _ _ (by omega)).trans ((zN_n _ _ (by omega)).trans (zw_row _ _ (by omega)))
  · exact (zN_n _ _ (by omega)).trans hT31
  · exact (zw_k _ _ (by decide)).trans ((congrFun (zN_n _ _ (by omega)) 0).trans ((zw_k _ _ (by decide)).trans hR30))
  · exact (zN_n _ _ (by omega)).trans hT32
  · exact (zw_k _ _ (by decide)).trans ((congrFun (zN_n _ _ (by omega)) 1).trans ((zw_k _ _ (by decide)).trans hR31))
  · exact (zw_k _ _ (by decide)).trans ((congrFun (zN_n _ _ (by omega)) 2).trans (zw_s _ _ _ _))
  · exact (zw_row _ _ (by omega)).trans ((zw_row _ _ (by omega)).trans (zN_n _ _ (by omega)))
  · exact (zw_row _ _ (by omega)).trans ((zN_n _ _ (by omega)).trans (zw_row _ _ (by omega)))
  · exact (zw_k _ _ (by decide)).trans (zw_s _ _ _ _)
  · refine ((zw_row _ _ (by omega)).trans ((zw_row _ _ (by omega)).trans (zN_n _ _ (by omega)))).trans ?_
    by_cases e : q < a + 3
    · rcases (show q = a ∨ q = a + 1 ∨ q = a + 2 by omega) with rfl | rfl | rfl
      · exact hI3
      · exact hI31
      · exact hI32
    · exact hP3.2.2.2.2 q (by omega) (by omega)


