/-! CONSTRUCTORS -/
/-- cells ahead of b are as they were -/
def z_nw (b : Nat) (T T' : zTT) (I I' : zII) (R R' : zRR) : Prop := ∀ q, q < b → T' q = T q ∧ I' q = I q ∧ R' q = R q
theorem z_nw_t {b c : Nat} {T T' T2 : zTT} {I I' I2 : zII} {R R' R2 : zRR} (h : z_nw b T T' I I' R R') (h2 : z_nw c T' T2 I' I2 R' R2) (hc : b ≤ c) : z_nw b T T2 I I2 R R2 := fun q hq => by
  obtain ⟨a1, a2, a3⟩ := h q hq
  obtain ⟨b1, b2, b3⟩ := h2 q (by omega)
  exact ⟨b1.trans a1, b2.trans a2, b3.trans a3⟩
set_option maxRecDepth 100000 in
set_option maxHeartbeats 4000000 in
theorem c_X1_init (G : zG) {n : Nat} {T : zTT} {I : zII} {R : zRR} (b : Nat) (hT : T b = some (.inl 1)) : Ct G yX1_init wsX1_init (1, 0, 0) [.ref b] n T I R (z_ret none n T I R) := by
  refine Ct.ofX (M := muX1_init) (ls := [(0, .ref b)]) (by decide +kernel) rfl (by decide) rfl rfl (Nat.le_of_ble_eq_true rfl) ?_
  refine z_aload_n (q := 1) dX1_init_0 rfl rfl rfl ?_
  refine z_objInit (q := 4) (i := 1) (j := 2) (l := 3) rfl rfl rfl rfl (Nat.le_of_ble_eq_true rfl) dX1_init_1 rfl ?_
  exact z_vret rfl dX1_init_4 (by decide) (by decide) (⟨rfl, rfl, rfl, rfl, rfl⟩)
set_option maxRecDepth 100000 in
set_option maxHeartbeats 4000000 in
theorem c_X5_init (G : zG) {n : Nat} {T : zTT} {I : zII} {R : zRR} (d : Nat) (hn : n = d + 1) (hT : T d = some (.inl 5)) (hI : I d = fun _ => 0) : Ct G yX5_init wsX5_init (1, 1, 32) [.ref d] n T I R ((fun r n' T' I' R' => r = none ∧ n' = d + 2 ∧ z_nw d T T' I I' R R' ∧ z_Room T' R' d ∧ I' d = (fun _ => 0) ∧ I' (d + 1) = fun _ => 0)) := by
  refine Ct.ofX (M := muX5_init) (ls := [(0, .ref d)]) (by decide +kernel) rfl (by decide) rfl rfl (Nat.le_of_ble_eq_true rfl) ?_
  subst hn
  have h1 : zN T (d + 1) (some (.inr (.int, 32))) d = some (.inl 5) := (zN_n _ _ (by omega)).trans hT
  refine z_aload_n (q := 1) dX5_init_0 rfl rfl rfl ?_
  refine z_objInit (q := 4) (i := 1) (j := 2) (l := 3) rfl rfl rfl rfl (Nat.le_of_ble_eq_true rfl) dX5_init_1 rfl ?_
  refine z_aload_n (q := 5) dX5_init_4 rfl rfl rfl ?_
  refine z_bipush (q := 7) (v := nI 32) dX5_init_5 (by rfl) rfl ?_
  refine z_newa (q := 9) (atype := .int) (ty := .int) (32) 4 rfl rfl (fun _ _ h => h) (by rfl) (by decide) (fun _ => rfl) (by decide) (by decide) dX5_init_7 rfl ?_
  refine z_putF (q := 12) 5 6 5 12 rfl (by decide) rfl rfl (tyX5_ok 6 (by decide)) rfl rfl rfl rfl rfl (h1) dX5_init_9 rfl ?_
  refine z_vret rfl dX5_init_12 (by decide) (by decide) ⟨rfl, rfl, fun q hq => ⟨zN_n _ _ (by omega), zN_n _ _ (by omega), ?_⟩, ⟨h1, zN_s _ _ _, zw_s _ _ _ _⟩, ?_, zN_s _ _ _⟩
  · rw [zw_row _ _ (by omega), zN_n _ _ (by omega)]
  · rw [zN_n _ _ (by omega)]; exact hI
set_option maxRecDepth 100000 in
set_option maxHeartbeats 4000000 in
theorem c_X0_init (G : zG) {n : Nat} {T : zTT} {I : zII} {R : zRR} (d : Nat) (hn : n = d + 1) (hT : T d = some (.inl 0)) (hI : I d = fun _ => 0) : Ct G yX0_init wsX0_init (1, 4, 18) [.ref d] n T I R ((fun r n' T' I' R' => r = none ∧ n' = d + 5 ∧ z_nw d T T' I I' R R' ∧ z_Door T' R' d ∧ ∀ q, d ≤ q → q < d + 5 → I' q = fun _ => 0)) := by
  refine Ct.ofX (M := muX0_init) (ls := [(0, .ref d)]) (by decide +kernel) rfl (by decide) rfl rfl (Nat.le_of_ble_eq_true rfl) ?_
  subst hn
  refine z_aload_n (q := 1) dX0_init_0 rfl rfl rfl ?_
  refine z_objInit (q := 4) (i := 1) (j := 2) (l := 3) rfl rfl rfl rfl (Nat.le_of_ble_eq_true rfl) dX0_init_1 rfl ?_
  refine z_aload_n (q := 5) dX0_init_4 rfl rfl rfl ?_
  refine z_iconst (q := 6) (v := nI 2) dX0_init_5 (by rfl) rfl ?_
  refine z_newa (q := 8) (atype := .int) (ty := .int) (2) 4 rfl rfl (fun _ _ h => h) (by rfl) (by decide) (fun _ => rfl) (by decide) (by decide) dX0_init_6 rfl ?_
  have h1 : zN T (d + 1) (some (.inr (.int, 2))) d = some (.inl 0) := (zN_n _ _ (by omega)).trans hT
  generalize hT1 : zN T (d + 1) (some (.inr (.int, 2))) = T1 at h1
  refine z_putF (q := 11) 0 0 5 9 rfl (by decide) rfl rfl (tyX0_ok 0 (by decide)) rfl rfl rfl rfl rfl (h1) dX0_init_8 rfl ?_
  refine z_aload_n (q := 12) dX0_init_11 rfl rfl rfl ?_
  refine z_iconst (q := 13) (v := nI 2) dX0_init_12 (by rfl) rfl ?_
  refine z_newa (q := 15) (atype := .int) (ty := .int) (2) 4 rfl rfl (fun _ _ h => h) (by rfl) (by decide) (fun _ => rfl) (by decide) (by decide) dX0_init_13 rfl ?_
  have h2 : zN T1 (d + 1 + 1) (some (.inr (.int, 2))) d = some (.inl 0) := (zN_n _ _ (by omega)).trans h1
  generalize hT2 : zN T1 (d + 1 + 1) (some (.inr (.int, 2))) = T2 at h2
  refine z_putF (q := 18) 0 7 6 16 rfl (by decide) rfl rfl (tyX0_ok 7 (by decide)) rfl rfl rfl rfl rfl (h2) dX0_init_15 rfl ?_
  refine z_aload_n (q := 19) dX0_init_18 rfl rfl rfl ?_
  refine z_iconst (q := 20) (v := nI 2) dX0_init_19 (by rfl) rfl ?_
  refine z_newa (q := 22) (atype := .int) (ty := .int) (2) 4 rfl rfl (fun _ _ h => h) (by rfl) (by decide) (fun _ => rfl) (by decide) (by decide) dX0_init_20 rfl ?_
  have h3 : zN T2 (d + 1 + 1 + 1) (some (.inr (.int, 2))) d = some (.inl 0) := (zN_n _ _ (by omega)).trans h2
  generalize hT3 : zN T2 (d + 1 + 1 + 1) (some (.inr (.int, 2))) = T3 at h3
  refine z_putF (q := 25) 0 8 7 17 rfl (by decide) rfl rfl (tyX0_ok 8 (by decide)) rfl rfl rfl rfl rfl (h3) dX0_init_22 rfl ?_
  refine z_aload_n (q := 26) dX0_init_25 rfl rfl rfl ?_
  refine z_bipush (q := 28) (v := nI 12) dX0_init_26 (by rfl) rfl ?_
  refine z_newa (q := 30) (atype := .int) (ty := .int) (12) 4 rfl rfl (fun _ _ h => h) (by rfl) (by decide) (fun _ => rfl) (by decide) (by decide) dX0_init_28 rfl ?_
  have h4 : zN T3 (d + 1 + 1 + 1 + 1) (some (.inr (.int, 12))) d = some (.inl 0) := (zN_n _ _ (by omega)).trans h3
  refine z_putF (q := 33) 0 9 8 18 rfl (by decide) rfl rfl (tyX0_ok 9 (by decide)) rfl rfl rfl rfl rfl (h4) dX0_init_30 rfl ?_
  subst hT1
  subst hT2
  subst hT3
  refine z_vret rfl dX0_init_33 (by decide) (by decide) ⟨rfl, rfl, fun q hq => ⟨?_, ?_, ?_⟩, ⟨h4, ?_, ?_, ?_, zN_s _ _ _, ?_, ?_, ?_, zw_s _ _ _ _⟩, fun q h1 h2 => ?_⟩
  · rw [zN_n _ _ (by omega), zN_n _ _ (by omega), zN_n _ _ (by omega), zN_n _ _ (by omega)]
  · rw [zN_n _ _ (by omega), zN_n _ _ (by omega), zN_n _ _ (by omega), zN_n _ _ (by omega)]
  · rw [zw_row _ _ (by omega), zN_n _ _ (by omega), zw_row _ _ (by omega), zN_n _ _ (by omega), zw_row _ _ (by omega), zN_n _ _ (by omega), zw_row _ _ (by omega), zN_n _ _ (by omega)]
  · rw [zN_n _ _ (by omega), zN_n _ _ (by omega), zN_n _ _ (by omega), zN_s]
  · rw [zN_n _ _ (by omega), zN_n _ _ (by omega)]
    exact zN_s _ _ _
  · rw [zN_n _ _ (by omega)]
    exact zN_s _ _ _
  · rw [zw_k _ _ (by decide), zN_n _ _ (by omega), zw_k _ _ (by decide), zN_n _ _ (by omega), zw_k _ _ (by decide), zN_n _ _ (by omega), zw_s]
  · rw [zw_k _ _ (by decide), zN_n _ _ (by omega), zw_k _ _ (by decide), zN_n _ _ (by omega), zw_s]
  · rw [zw_k _ _ (by decide), zN_n _ _ (by omega), zw_s]
  · rcases (show q = d ∨ q = d + 1 ∨ q = d + 1 + 1 ∨ q = d + 1 + 1 + 1 ∨ q = d + 1 + 1 + 1 + 1 by omega) with rfl | rfl | rfl | rfl | rfl
    · rw [zN_n _ _ (by omega), zN_n _ _ (by omega), zN_n _ _ (by omega), zN_n _ _ (by omega)]; exact hI
    · rw [zN_n _ _ (by omega), zN_n _ _ (by omega), zN_n _ _ (by omega), zN_s]
    · rw [zN_n _ _ (by omega), zN_n _ _ (by omega), zN_s]
    · rw [zN_n _ _ (by omega), zN_s]
    · rw [zN_s]
set_option maxRecDepth 100000 in
set_option maxHeartbeats 4000000 in
theorem c_X6_init (G : zG) {n : Nat} {T : zTT} {I : zII} {R : zRR} (s : Nat) (hn : n = s + 1) (hT : T s = some (.inl 6)) (hI : I s = fun _ => 0) : Ct G yX6_init wsX6_init (2, 2, 85) [.ref s] n T I R ((fun r n' T' I' R' => r = none ∧ n' = s + 3 ∧ z_nw s T T' I I' R R' ∧ z_Sc T' R' s ∧ I' s = (fun _ => 0) ∧ I' (s + 1) = fun _ => 0)) := by
  refine Ct.ofX (M := muX6_init) (ls := [(0, .ref s)]) (by decide +kernel) rfl (by decide) rfl rfl (Nat.le_of_ble_eq_true rfl) ?_
  subst hn
  refine z_aload_n (q := 1) dX6_init_0 rfl rfl rfl ?_
  refine z_objInit (q := 4) (i := 1) (j := 2) (l := 3) rfl rfl rfl rfl (Nat.le_of_ble_eq_true rfl) dX6_init_1 rfl ?_
  refine z_aload_n (q := 5) dX6_init_4 rfl rfl rfl ?_
  refine z_bipush (q := 7) (v := nI 80) dX6_init_5 (by rfl) rfl ?_
  refine z_newa (q := 9) (atype := .char) (ty := .char) (80) 4 rfl rfl (fun _ _ h => h) (by rfl) (by decide) (fun _ => rfl) (by decide) (by decide) dX6_init_7 rfl ?_
  have h1 : zN T (s + 1) (some (.inr (.char, 80))) s = some (.inl 6) := (zN_n _ _ (by omega)).trans hT
  refine z_putF (q := 12) 6 0 5 13 rfl (by decide) rfl rfl (tyX6_ok 0 (by decide)) rfl rfl rfl rfl rfl (h1) dX6_init_9 rfl ?_
  refine z_aload_n (q := 13) dX6_init_12 rfl rfl rfl ?_
  have h2 : zN (zN T (s + 1) (some (.inr (.char, 80)))) (s + 1 + 1) (some (.inl 1)) s = some (.inl 6) := (zN_n _ _ (by omega)).trans h1
  have h3 : zN (zN T (s + 1) (some (.inr (.char, 80)))) (s + 1 + 1) (some (.inl 1)) (s + 1 + 1) = some (.inl 1) := zN_s _ _ _
  refine z_new (q := 16) 1 6 7 8 tyX1 tyX1_ok (z_sub [19, 20, 21, 22, 23] rfl) rfl rfl rfl rfl z_def1 (by decide) dX6_init_13 rfl ?_
  refine z_dup (q := 17) dX6_init_16 rfl rfl ?_
  refine z_invIN' (q := 20) (j := 10) (l := 8) (c_X1_init G (s + 1 + 1) h3) gX6_init_X1_init_n17 rfl (fun _ h => h.2.2.2.2.2.2.2.2.1) rfl rfl hy_X1_init rfl rfl rfl rfl (Nat.le_of_ble_eq_true rfl) (by decide) dX6_init_17 rfl (z_rn ?_)
  refine z_putF (q := 23) 6 5 9 18 rfl (by decide) rfl rfl (tyX6_ok 5 (by decide)) rfl rfl rfl rfl rfl (h2) dX6_init_20 rfl ?_
  refine z_vret rfl dX6_init_23 (by decide) (by decide) ⟨rfl, rfl, fun q hq => ⟨?_, ?_, ?_⟩, ⟨h2, ⟨?_, ?_⟩, h3, zw_s _ _ _ _⟩, ?_, ?_⟩
  · rw [zN_n _ _ (by omega), zN_n _ _ (by omega)]
  · rw [zN_n _ _ (by omega), zN_n _ _ (by omega)]
  · rw [zw_row _ _ (by omega), zN_n _ _ (by omega), zw_row _ _ (by omega), zN_n _ _ (by omega)]
  · rw [zN_n _ _ (by omega), zN_s]
  · rw [zw_k _ _ (by decide), zN_n _ _ (by omega), zw_s]
  · rw [zN_n _ _ (by omega), zN_n _ _ (by omega)]; exact hI
  · rw [zN_n _ _ (by omega), zN_s]


