/-! THE CLASS, a house copied -/
/-- the plan is kept where its cells are -/
theorem z_P_f {T : zTT} {I I' : zII} {R R' : zRR} {p np : Nat} {F : Nat → zE} (h : z_P T I R p np F) (hI : ∀ q, p ≤ q → q < p + 18 → I' q = I q) (hR : ∀ q, p ≤ q → q < p + 18 → R' q = R q) : z_P T I' R' p np F := by
  obtain ⟨p1, p2, p3, p4, p5, p6⟩ := h
  have r1 : R' (p + 1) = R (p + 1) := hR _ (by omega) (by omega)
  have ea : ∀ k, eAt R' p k = eAt R p k := fun k => by unfold eAt; rw [r1]
  have hrow : ∀ k, k < 16 → I' (eAt R p k) = I (eAt R p k) := fun k hk => hI _ (by have := p2.1 k hk; omega) (by have := p2.1 k hk; omega)
  refine ⟨z_PlanR p1 (hR _ (by omega) (by omega)), ⟨fun k hk => by rw [r1, ea]; exact p2.1 k hk, fun j k hj hk e => p2.2 j k hj hk (by rw [ea, ea] at e; exact e)⟩, p3, by rw [hI _ (by omega) (by omega)]; exact p4, fun k hk => by rw [ea, hrow k hk]; exact p5 k hk, fun k hk => ?_⟩
  rw [← p6 k hk, ea]
  unfold entC
  rw [hrow k (by omega)]
/-- cells of two houses, one by one -/
theorem HR_copy {I I' : zII} {a b : Nat} {g : Nat → Int32} {so sw : Nat → Nat} (h : z_HR I b g so sw) (h0 : ∀ k, 4 ≤ k → k < 10 → I' a k = I b k) (hs : ∀ k, k < 2 → I' (a + 21) k = I (b + 21) k) (hr : ∀ j, j < 8 → (∀ k, k < 6 → I' (a + 22 + 2 * j) k = I (b + 22 + 2 * j) k) ∧ ∀ k, k < 32 → I' (a + 22 + 2 * j + 1) k = I (b + 22 + 2 * j + 1) k) (hd : ∀ j, j < 12 → (∀ k, 1 ≤ k → k < 7 → I' (a + 38 + 5 * j) k = I (b + 38 + 5 * j) k) ∧ (∀ k, k < 2 → I' (a + 38 + 5 * j + 1) k = I (b + 38 + 5 * j + 1) k) ∧ (∀ k, k < 2 → I' (a + 38 + 5 * j + 2) k = I (b + 38 + 5 * j + 2) k) ∧ ∀ k, k < 12 → I' (a + 38 + 5 * j + 4) k = I (b + 38 + 5 * j + 4) k) : z_HR I' a g so sw := by
  intro c h2 h1
  rw [← h c h2 h1]
  have Z := zl_s0 so sw
  rcases zl_cases h1 h2 with rfl | rfl | rfl | rfl | rfl | rfl | rfl | rfl | ⟨r, w, q1, q2, rfl⟩ | ⟨d, w, q1, q2, rfl⟩ | ⟨d, s, k, q1, q2, q3, rfl⟩ | ⟨i, k, q1, q2, rfl⟩
  · rw [Z.1.1, Z.1.2]; exact h0 4 (by decide) (by decide)
  · rw [Z.2.1.1, Z.2.1.2]; exact h0 5 (by decide) (by decide)
  · rw [Z.2.2.1.1, Z.2.2.1.2]; exact h0 6 (by decide) (by decide)
  · rw [Z.2.2.2.1.1, Z.2.2.2.1.2]; exact h0 7 (by decide) (by decide)
  · rw [Z.2.2.2.2.1.1, Z.2.2.2.2.1.2]; exact h0 8 (by decide) (by decide)
  · rw [Z.2.2.2.2.2.1.1, Z.2.2.2.2.2.1.2]; exact h0 9 (by decide) (by decide)
  · rw [Z.2.2.2.2.2.2.1.1, Z.2.2.2.2.2.2.1.2]; exact hs 0 (by decide)
  · rw [Z.2.2.2.2.2.2.2.1, Z.2.2.2.2.2.2.2.2]; exact hs 1 (by decide)
  · rw [(zl_r so sw q1 q2).1, (zl_r so sw q1 q2).2, ← Nat.add_assoc, ← Nat.add_assoc]
    exact (hr r q1).1 w q2
  · rw [(zl_d so sw q1 q2).1, (zl_d so sw q1 q2).2]
    obtain ⟨g1, g2, g3, -⟩ := hd d q1
    by_cases w1 : w < 2
    · rw [if_pos w1, if_pos w1, show a + (39 + 5 * d) = a + 38 + 5 * d + 1 by omega, show b + (39 + 5 * d) = b + 38 + 5 * d + 1 by omega]
      exact g2 w w1
    · rw [if_neg w1, if_neg w1]
      by_cases w2 : w < 8
      · rw [if_pos w2, if_pos w2, ← Nat.add_assoc, ← Nat.add_assoc]
        exact g1 (w - 1) (by omega) (by omega)
      · rw [if_neg w2, if_neg w2, show a + (40 + 5 * d) = a + 38 + 5 * d + 2 by omega, show b + (40 + 5 * d) = b + 38 + 5 * d + 2 by omega]
        exact g3 (w - 8) (by omega)
  · rw [(zl_w so sw q1 q2 q3).1, (zl_w so sw q1 q2 q3).2, show a + (42 + 5 * d) = a + 38 + 5 * d + 4 by omega, show b + (42 + 5 * d) = b + 38 + 5 * d + 4 by omega]
    exact (hd d q1).2.2.2 _ (by omega)
  · rw [(zl_o so sw q1 q2).1, (zl_o so sw q1 q2).2, show a + (23 + 2 * i) = a + 22 + 2 * i + 1 by omega, show b + (23 + 2 * i) = b + 22 + 2 * i + 1 by omega]
    exact (hr i q1).2 _ (by omega)
set_option maxRecDepth 100000 in
set_option maxHeartbeats 4000000 in
theorem c_X3_copyFrom (G : zG) {n : Nat} {T : zTT} {I : zII} {R : zRR} (a b np : Nat) (F : Nat → zE) (g : Nat → Int32) (so sw : Nat → Nat) (hA : z_House T R a) (hAr : z_Prm R (a + 3)) (hB : z_House T R b) (hP : z_P T I R (b + 3) np F) (hG : z_HR I b g so sw) (hb : a + 98 ≤ b ∨ b + 98 ≤ a) (hl : ∀ d, d < 12 → I (b + 38 + 5 * d) 6 = 0 ∨ I (b + 38 + 5 * d) 6 = 1) : Ct G yX3_copyFrom wsX3_copyFrom (2, 0, 0) [.ref a, .ref b] n T I R (z_rel none n T (fun I' R' => R' = R ∧ z_HR I' a g so sw ∧ z_P T I' R (a + 3) np F ∧ ∀ q, q < a ∨ a + 98 ≤ q → I' q = I q)) := by
  refine Ct.ofX (M := muX3_copyFrom) (ls := [(0, .ref a), (1, .ref b)]) (by decide +kernel) rfl (by decide) rfl rfl (Nat.le_of_ble_eq_true rfl) ?_
  have hTa := hA.1
  have hTb := hB.1
  obtain ⟨hTar, hRar⟩ := hA.2.1
  obtain ⟨hTbr, hRbr⟩ := hB.2.1
  obtain ⟨hTad, hRad⟩ := hA.2.2.1
  obtain ⟨hTbd, hRbd⟩ := hB.2.2.1
  have hRap := hA.2.2.2.1
  have hRbp := hB.2.2.2.1
  obtain ⟨hTas, hRas⟩ := hA.2.2.2.2.1
  obtain ⟨hTbs, hRbs⟩ := hB.2.2.2.2.1
  have last : ∀ I2, (∀ j, j < 8 → (∀ k, k < 6 → I2 (a + 22 + 2 * j) k = I (b + 22 + 2 * j) k) ∧ ∀ k, k < 32 → I2 (a + 22 + 2 * j + 1) k = I (b + 22 + 2 * j + 1) k) → (∀ j, j < 12 → (∀ k, 1 ≤ k → k < 7 → I2 (a + 38 + 5 * j) k = I (b + 38 + 5 * j) k) ∧ (∀ k, k < 2 → I2 (a + 38 + 5 * j + 1) k = I (b + 38 + 5 * j + 1) k) ∧ (∀ k, k < 2 → I2 (a + 38 + 5 * j + 2) k = I (b + 38 + 5 * j + 2) k) ∧ ∀ k, k < 12 → I2 (a + 38 + 5 * j + 4) k = I (b + 38 + 5 * j + 4) k) → (∀ q, q < a ∨ a + 98 ≤ q → I2 q = I q) → ∀ ls : List (Nat × Value), lv_pick ls [0, 1] = [(0, .ref a), (1, .ref b)] → z_X G muX3_copyFrom (2, 0, 0) (z_rel none n T (fun I' R' => R' = R ∧ z_HR I' a g so sw ∧ z_P T I' R (a + 3) np F ∧ ∀ q, q < a ∨ a + 98 ≤ q → I' q = I q)) n T I2 R 0 0 82 ls [] := by
    intro I2 e1 e2 e3 ls hls
    refine z_pick [0, 1] hls ?_
    have hP2 : z_P T I2 R (b + 3) np F := z_P_f hP (fun q h1 h2 => e3 q (by omega)) (fun _ _ _ => rfl)
    have hTap := hA.2.2.2.2.2.2.2.1
    refine z_aload_n (q := 83) dX3_copyFrom_82 rfl rfl rfl ?_
    refine z_getR (q := 86) 3 2 3 62 rfl (by decide) rfl rfl rfl (by with_reducible assumption) (by with_reducible assumption) dX3_copyFrom_83 rfl ?_
    refine z_aload_n (q := 87) dX3_copyFrom_86 rfl rfl rfl ?_
    refine z_getR (q := 90) 3 2 3 62 rfl (by decide) rfl rfl rfl (by with_reducible assumption) (by with_reducible assumption) dX3_copyFrom_87 rfl ?_
    refine z_invV (q := 93) (c_X4_copyFrom G (a + 3) (b + 3) np F hA.2.2.2.2.2.2.2 hAr hP2 (by omega)) (by with_reducible assumption) rfl gX3_copyFrom_X4_copyFrom rfl hy_X4_copyFrom rfl rfl rfl rfl (Nat.le_of_ble_eq_true rfl) ⟨Nat.zero_le _, Nat.zero_le _⟩ dX3_copyFrom_90 rfl (z_rnR fun I5 R5 hZ5 => ?_)
    obtain ⟨rfl, h5, f5⟩ := hZ5
    refine z_aload_n (q := 94) dX3_copyFrom_93 rfl rfl rfl ?_
    refine z_getR (q := 97) 3 3 4 63 rfl (by decide) rfl rfl rfl (by with_reducible assumption) (by with_reducible assumption) dX3_copyFrom_94 rfl ?_
    refine z_iconst (q := 98) (v := nI 0) dX3_copyFrom_97 (by rfl) rfl ?_
    refine z_aload_n (q := 99) dX3_copyFrom_98 rfl rfl rfl ?_
    refine z_getR (q := 102) 3 3 4 63 rfl (by decide) rfl rfl rfl (by with_reducible assumption) (by with_reducible assumption) dX3_copyFrom_99 rfl ?_
    refine z_iconst (q := 103) (v := nI 0) dX3_copyFrom_102 (by rfl) rfl ?_
    refine z_iconst (q := 104) (v := nI 2) dX3_copyFrom_103 (by rfl) rfl ?_
    refine z_acopy (q := 107) (m := 2) (i := 5) (j := 6) (l := 7) (o := 8) rfl rfl rfl rfl (by with_reducible assumption) (by with_reducible assumption) rfl rfl (rfl) (by decide) (by decide) (by decide) rfl (Nat.le_of_ble_eq_true rfl) dX3_copyFrom_104 rfl ?_
    have g1 : ∀ q, q ≠ a + 21 → zc I5 (b + 21) (a + 21) 2 q = I5 q := fun q hq => zc_row _ hq
    have g2 : ∀ k, k < 2 → zc I5 (b + 21) (a + 21) 2 (a + 21) k = I (b + 21) k := fun k hk => by
      rw [zc, if_pos ⟨rfl, hk⟩, f5 _ (by omega), e3 _ (by omega)]
    generalize zc I5 (b + 21) (a + 21) 2 = I6 at g1 g2 ⊢
    have gb : I6 b = I b := by rw [g1 _ (by omega), f5 _ (by omega), e3 _ (by omega)]
    have hba : b ≠ a := by omega
    have k4 : I6 b 4 = I b 4 := by rw [gb]
    have k5 : zw I6 a 4 (I b 4) b 5 = I b 5 := by rw [zw_row _ _ hba, gb]
    have k6 : zw (zw I6 a 4 (I b 4)) a 5 (I b 5) b 6 = I b 6 := by rw [zw_row _ _ hba, zw_row _ _ hba, gb]
    have k7 : zw (zw (zw I6 a 4 (I b 4)) a 5 (I b 5)) a 6 (I b 6) b 7 = I b 7 := by rw [zw_row _ _ hba, zw_row _ _ hba, zw_row _ _ hba, gb]
    have k8 : zw (zw (zw (zw I6 a 4 (I b 4)) a 5 (I b 5)) a 6 (I b 6)) a 7 (I b 7) b 8 = I b 8 := by rw [zw_row _ _ hba, zw_row _ _ hba, zw_row _ _ hba, zw_row _ _ hba, gb]
    have k9 : zw (zw (zw (zw (zw I6 a 4 (I b 4)) a 5 (I b 5)) a 6 (I b 6)) a 7 (I b 7)) a 8 (I b 8) b 9 = I b 9 := by rw [zw_row _ _ hba, zw_row _ _ hba, zw_row _ _ hba, zw_row _ _ hba, zw_row _ _ hba, gb]
    refine z_aload_n (q := 108) dX3_copyFrom_107 rfl rfl rfl ?_
    refine z_aload_n (q := 109) dX3_copyFrom_108 rfl rfl rfl ?_
    refine z_getV (q := 112) 3 4 9 64 rfl (by decide) rfl rfl rfl (by with_reducible assumption) (k4) dX3_copyFrom_109 rfl ?_
    refine z_put (q := 115) 3 4 9 64 rfl (by decide) rfl rfl (tyX3_ok 4 (by decide)) (rfl) (rfl) rfl (by with_reducible assumption) dX3_copyFrom_112 rfl ?_
    refine z_aload_n (q := 116) dX3_copyFrom_115 rfl rfl rfl ?_
    refine z_aload_n (q := 117) dX3_copyFrom_116 rfl rfl rfl ?_
    refine z_getV (q := 120) 3 5 10 65 rfl (by decide) rfl rfl rfl (by with_reducible assumption) (k5) dX3_copyFrom_117 rfl ?_
    refine z_put (q := 123) 3 5 10 65 rfl (by decide) rfl rfl (tyX3_ok 5 (by decide)) (rfl) (rfl) rfl (by with_reducible assumption) dX3_copyFrom_120 rfl ?_
    refine z_aload_n (q := 124) dX3_copyFrom_123 rfl rfl rfl ?_
    refine z_aload_n (q := 125) dX3_copyFrom_124 rfl rfl rfl ?_
    refine z_getV (q := 128) 3 6 11 66 rfl (by decide) rfl rfl rfl (by with_reducible assumption) (k6) dX3_copyFrom_125 rfl ?_
    refine z_put (q := 131) 3 6 11 66 rfl (by decide) rfl rfl (tyX3_ok 6 (by decide)) (rfl) (rfl) rfl (by with_reducible assumption) dX3_copyFrom_128 rfl ?_
    refine z_aload_n (q := 132) dX3_copyFrom_131 rfl rfl rfl ?_
    refine z_aload_n (q := 133) dX3_copyFrom_132 rfl rfl rfl ?_
    refine z_getV (q := 136) 3 7 12 67 rfl (by decide) rfl rfl rfl (by with_reducible assumption) (k7) dX3_copyFrom_133 rfl ?_
    refine z_put (q := 139) 3 7 12 67 rfl (by decide) rfl rfl (tyX3_ok 7 (by decide)) (rfl) (rfl) rfl (by with_reducible assumption) dX3_copyFrom_136 rfl ?_
    refine z_aload_n (q := 140) dX3_copyFrom_139 rfl rfl rfl ?_
    refine z_aload_n (q := 141) dX3_copyFrom_140 rfl rfl rfl ?_
    refine z_getV (q := 144) 3 8 13 68 rfl (by decide) rfl rfl rfl (by with_reducible assumption) (k8) dX3_copyFrom_141 rfl ?_
    refine z_put (q := 147) 3 8 13 68 rfl (by decide) rfl rfl (tyX3_ok 8 (by decide)) (rfl) (rfl) rfl (by with_reducible assumption) dX3_copyFrom_144 rfl ?_
    refine z_aload_n (q := 148) dX3_copyFrom_147 rfl rfl rfl ?_
    refine z_aload_n (q := 149) dX3_copyFrom_148 rfl rfl rfl ?_
    refine z_getV (q := 152) 3 9 14 69 rfl (by decide) rfl rfl rfl (by with_reducible assumption) (k9) dX3_copyFrom_149 rfl ?_
    refine z_put (q := 155) 3 9 14 69 rfl (by decide) rfl rfl (tyX3_ok 9 (by decide)) (rfl) (rfl) rfl (by with_reducible assumption) dX3_copyFrom_152 rfl ?_
    have row : ∀ q, q ≠ a → (zw (zw (zw (zw (zw (zw I6 a 4 (I b 4)) a 5 (I b 5)) a 6 (I b 6)) a 7 (I b 7)) a 8 (I b 8)) a 9 (I b 9)) q = I6 q := fun q hq => by rw [zw_row _ _ hq, zw_row _ _ hq, zw_row _ _ hq, zw_row _ _ hq, zw_row _ _ hq, zw_row _ _ hq]
    have ow : ∀ k, 4 ≤ k → k < 10 → (zw (zw (zw (zw (zw (zw I6 a 4 (I b 4)) a 5 (I b 5)) a 6 (I b 6)) a 7 (I b 7)) a 8 (I b 8)) a 9 (I b 9)) a k = I b k := fun k h1 h2 => by
      rcases (show k = 4 ∨ k = 5 ∨ k = 6 ∨ k = 7 ∨ k = 8 ∨ k = 9 by omega) with rfl | rfl | rfl | rfl | rfl | rfl <;> simp [zw]
    have tr : ∀ q, q ≠ a → q ≠ a + 21 → q < a + 3 ∨ a + 21 ≤ q → (zw (zw (zw (zw (zw (zw I6 a 4 (I b 4)) a 5 (I b 5)) a 6 (I b 6)) a 7 (I b 7)) a 8 (I b 8)) a 9 (I b 9)) q = I2 q := fun q h1 h2 h3 => by rw [row q h1, g1 q h2, f5 q h3]
    have tp : ∀ q, a + 3 ≤ q → q < a + 21 → (zw (zw (zw (zw (zw (zw I6 a 4 (I b 4)) a 5 (I b 5)) a 6 (I b 6)) a 7 (I b 7)) a 8 (I b 8)) a 9 (I b 9)) q = I5 q := fun q h1 h2 => by rw [row q (by omega), g1 q (by omega)]
    have ts : ∀ k, k < 2 → (zw (zw (zw (zw (zw (zw I6 a 4 (I b 4)) a 5 (I b 5)) a 6 (I b 6)) a 7 (I b 7)) a 8 (I b 8)) a 9 (I b 9)) (a + 21) k = I (b + 21) k := fun k hk => by rw [row _ (by omega)]; exact g2 k hk
    generalize zw (zw (zw (zw (zw (zw I6 a 4 (I b 4)) a 5 (I b 5)) a 6 (I b 6)) a 7 (I b 7)) a 8 (I b 8)) a 9 (I b 9) = I7 at row ow tr tp ts ⊢
    refine z_vret rfl dX3_copyFrom_155 (Nat.zero_le _) (Nat.zero_le _) ⟨rfl, rfl, rfl, rfl, HR_copy hG ow ts (fun j hj => ⟨fun k hk => ?_, fun k hk => ?_⟩) (fun j hj => ⟨fun k h1 h2 => ?_, fun k hk => ?_, fun k hk => ?_, fun k hk => ?_⟩), z_P_f h5 (fun q h1 h2 => tp q h1 (by omega)) (fun _ _ _ => rfl), fun q hq => by rw [tr q (by omega) (by omega) (by omega)]; exact e3 q hq⟩
    · rw [tr _ (by omega) (by omega) (by omega)]; exact (e1 j hj).1 k hk
    · rw [tr _ (by omega) (by omega) (by omega)]; exact (e1 j hj).2 k hk
    · rw [tr _ (by omega) (by omega) (by omega)]; exact (e2 j hj).1 k h1 h2
    · rw [tr _ (by omega) (by omega) (by omega)]; exact (e2 j hj).2.1 k hk
    · rw [tr _ (by omega) (by omega) (by omega)]; exact (e2 j hj).2.2.1 k hk
    · rw [tr _ (by omega) (by omega) (by omega)]; exact (e2 j hj).2.2.2 k hk
  have loop2 : ∀ i, i ≤ 12 → ∀ I2, (∀ j, j < 8 → (∀ k, k < 6 → I2 (a + 22 + 2 * j) k = I (b + 22 + 2 * j) k) ∧ ∀ k, k < 32 → I2 (a + 22 + 2 * j + 1) k = I (b + 22 + 2 * j + 1) k) → (∀ j, j < i → (∀ k, 1 ≤ k → k < 7 → I2 (a + 38 + 5 * j) k = I (b + 38 + 5 * j) k) ∧ (∀ k, k < 2 → I2 (a + 38 + 5 * j + 1) k = I (b + 38 + 5 * j + 1) k) ∧ (∀ k, k < 2 → I2 (a + 38 + 5 * j + 2) k = I (b + 38 + 5 * j + 2) k) ∧ ∀ k, k < 12 → I2 (a + 38 + 5 * j + 4) k = I (b + 38 + 5 * j + 4) k) → (∀ q, q < a ∨ a + 98 ≤ q → I2 q = I q) → ∀ ls : List (Nat × Value), lv_pick ls [0, 1, 2] = [(0, .ref a), (1, .ref b), (2, .int (nI i))] → z_X G muX3_copyFrom (2, 0, 0) (z_rel none n T (fun I' R' => R' = R ∧ z_HR I' a g so sw ∧ z_P T I' R (a + 3) np F ∧ ∀ q, q < a ∨ a + 98 ≤ q → I' q = I q)) n T I2 R 0 0 43 ls [] := by
    refine z_up (N := 12) _ ?_ ?_
    · intro I2 e1 e2 e3 ls hls
      refine z_pick [0, 1, 2] hls ?_
      refine z_iload_n (q := 44) dX3_copyFrom_43 rfl rfl rfl ?_
      refine z_aload_n (q := 45) dX3_copyFrom_44 rfl rfl rfl ?_
      refine z_getR (q := 48) 3 1 2 61 rfl (by decide) rfl rfl rfl (by with_reducible assumption) (by with_reducible assumption) dX3_copyFrom_45 rfl ?_
      refine z_alen (q := 49) (by with_reducible assumption) dX3_copyFrom_48 rfl ?_
      refine z_icmpn_ge (rfl) (rfl) (by omega) (by omega) (tgt := 82) (q := 52) dX3_copyFrom_49 (by decide) rfl (fun _ => ?_) (fun hc => absurd hc (by omega))
      exact last I2 e1 e2 e3 _ rfl
    · intro i hi ih I2 e1 e2 e3 ls hls
      obtain ⟨ha1, ha2⟩ := hA.2.2.2.2.2.2.1 i hi
      obtain ⟨hb1, hb2⟩ := hB.2.2.2.2.2.2.1 i hi
      have hTai := ha2.1
      refine z_pick [0, 1, 2] hls ?_
      refine z_iload_n (q := 44) dX3_copyFrom_43 rfl rfl rfl ?_
      refine z_aload_n (q := 45) dX3_copyFrom_44 rfl rfl rfl ?_
      refine z_getR (q := 48) 3 1 2 61 rfl (by decide) rfl rfl rfl (by with_reducible assumption) (by with_reducible assumption) dX3_copyFrom_45 rfl ?_
      refine z_alen (q := 49) (by with_reducible assumption) dX3_copyFrom_48 rfl ?_
      refine z_icmpn_ge (rfl) (rfl) (by omega) (by omega) (tgt := 82) (q := 52) dX3_copyFrom_49 (by decide) rfl (fun hc => absurd hc (by omega)) (fun _ => ?_)
      refine z_iload_n (q := 53) dX3_copyFrom_52 rfl rfl rfl ?_
      refine z_aload_n (q := 54) dX3_copyFrom_53 rfl rfl rfl ?_
      refine z_getR (q := 57) 3 1 2 61 rfl (by decide) rfl rfl rfl (by with_reducible assumption) (by with_reducible assumption) dX3_copyFrom_54 rfl ?_
      refine z_alen (q := 58) (by with_reducible assumption) dX3_copyFrom_57 rfl ?_
      refine z_icmpn_ge (rfl) (rfl) (by omega) (by omega) (tgt := 82) (q := 61) dX3_copyFrom_58 (by decide) rfl (fun hc => absurd hc (by omega)) (fun _ => ?_)
      refine z_aload_n (q := 62) dX3_copyFrom_61 rfl rfl rfl ?_
      refine z_getR (q := 65) 3 1 2 61 rfl (by decide) rfl rfl rfl (by with_reducible assumption) (by with_reducible assumption) dX3_copyFrom_62 rfl ?_
      refine z_iload_n (q := 66) dX3_copyFrom_65 rfl rfl rfl ?_
      refine z_aald (q := 67) _ (by with_reducible assumption) (rfl) (by omega) (by decide) (by with_reducible assumption) dX3_copyFrom_66 rfl ?_
      refine z_aload_n (q := 68) dX3_copyFrom_67 rfl rfl rfl ?_
      refine z_getR (q := 71) 3 1 2 61 rfl (by decide) rfl rfl rfl (by with_reducible assumption) (by with_reducible assumption) dX3_copyFrom_68 rfl ?_
      refine z_iload_n (q := 72) dX3_copyFrom_71 rfl rfl rfl ?_
      refine z_aald (q := 73) _ (by with_reducible assumption) (rfl) (by omega) (by decide) (by with_reducible assumption) dX3_copyFrom_72 rfl ?_
      refine z_invV (q := 76) (c_X0_copyFrom G (a + 38 + 5 * i) (b + 38 + 5 * i) ha2 hb2 (by omega) (by rw [e3 _ (by omega)]; exact hl i hi)) (by with_reducible assumption) rfl gX3_copyFrom_X0_copyFrom rfl hy_X0_copyFrom rfl rfl rfl rfl (Nat.le_of_ble_eq_true rfl) ⟨Nat.zero_le _, Nat.zero_le _⟩ dX3_copyFrom_73 rfl (z_rnR fun I4 R4 hZ4 => ?_)
      obtain ⟨rfl, f, d1, d2, d3, d4⟩ := hZ4
      refine z_iinc (q := 79) dX3_copyFrom_76 rfl (nI_add _ 1) (by decide) rfl ?_
      refine z_goto (q := 43) dX3_copyFrom_79 (by decide) ?_
      refine ih I4 (fun j hj => ⟨fun k hk => by rw [f _ (by omega)]; exact (e1 j hj).1 k hk, fun k hk => by rw [f _ (by omega)]; exact (e1 j hj).2 k hk⟩) (fun j hj => ?_) (fun q hq => by rw [f q (by omega)]; exact e3 q hq) _ rfl
      by_cases hji : j = i
      · subst hji
        exact ⟨fun k h1 h2 => by rw [d1 k h1 h2, e3 _ (by omega)], fun k hk => by rw [d2 k hk, e3 _ (by omega)], fun k hk => by rw [d3 k hk, e3 _ (by omega)], fun k hk => by rw [d4 k hk, e3 _ (by omega)]⟩
      · obtain ⟨g1, g2, g3, g4⟩ := e2 j (by omega)
        exact ⟨fun k h1 h2 => by rw [f _ (by omega)]; exact g1 k h1 h2, fun k hk => by rw [f _ (by omega)]; exact g2 k hk, fun k hk => by rw [f _ (by omega)]; exact g3 k hk, fun k hk => by rw [f _ (by omega)]; exact g4 k hk⟩
  have loop : ∀ i, i ≤ 8 → ∀ I2, (∀ j, j < i → (∀ k, k < 6 → I2 (a + 22 + 2 * j) k = I (b + 22 + 2 * j) k) ∧ ∀ k, k < 32 → I2 (a + 22 + 2 * j + 1) k = I (b + 22 + 2 * j + 1) k) → (∀ q, q < a ∨ a + 98 ≤ q → I2 q = I q) → z_X G muX3_copyFrom (2, 0, 0) (z_rel none n T (fun I' R' => R' = R ∧ z_HR I' a g so sw ∧ z_P T I' R (a + 3) np F ∧ ∀ q, q < a ∨ a + 98 ≤ q → I' q = I q)) n T I2 R 0 0 2 [(0, .ref a), (1, .ref b), (2, .int (nI i))] [] := by
    refine z_up (N := 8) _ ?_ ?_
    · intro I2 e1 e2
      refine z_iload_n (q := 3) dX3_copyFrom_2 rfl rfl rfl ?_
      refine z_aload_n (q := 4) dX3_copyFrom_3 rfl rfl rfl ?_
      refine z_getR (q := 7) 3 0 1 60 rfl (by decide) rfl rfl rfl (by with_reducible assumption) (by with_reducible assumption) dX3_copyFrom_4 rfl ?_
      refine z_alen (q := 8) (by with_reducible assumption) dX3_copyFrom_7 rfl ?_
      refine z_icmpn_ge (rfl) (rfl) (by omega) (by omega) (tgt := 41) (q := 11) dX3_copyFrom_8 (by decide) rfl (fun _ => ?_) (fun hc => absurd hc (by omega))
      refine z_iconst (q := 42) (v := nI 0) dX3_copyFrom_41 (by rfl) rfl ?_
      refine z_istore_n (q := 43) dX3_copyFrom_42 rfl (by decide) rfl ?_
      exact loop2 0 (Nat.zero_le _) I2 e1 (fun j hj => absurd hj (Nat.not_lt_zero j)) e2 _ rfl
    · intro i hi ih I2 e1 e2
      obtain ⟨ha1, ha2⟩ := hA.2.2.2.2.2.1 i hi
      obtain ⟨hb1, hb2⟩ := hB.2.2.2.2.2.1 i hi
      have hTai := ha2.1
      refine z_iload_n (q := 3) dX3_copyFrom_2 rfl rfl rfl ?_
      refine z_aload_n (q := 4) dX3_copyFrom_3 rfl rfl rfl ?_
      refine z_getR (q := 7) 3 0 1 60 rfl (by decide) rfl rfl rfl (by with_reducible assumption) (by with_reducible assumption) dX3_copyFrom_4 rfl ?_
      refine z_alen (q := 8) (by with_reducible assumption) dX3_copyFrom_7 rfl ?_
      refine z_icmpn_ge (rfl) (rfl) (by omega) (by omega) (tgt := 41) (q := 11) dX3_copyFrom_8 (by decide) rfl (fun hc => absurd hc (by omega)) (fun _ => ?_)
      refine z_iload_n (q := 12) dX3_copyFrom_11 rfl rfl rfl ?_
      refine z_aload_n (q := 13) dX3_copyFrom_12 rfl rfl rfl ?_
      refine z_getR (q := 16) 3 0 1 60 rfl (by decide) rfl rfl rfl (by with_reducible assumption) (by with_reducible assumption) dX3_copyFrom_13 rfl ?_
      refine z_alen (q := 17) (by with_reducible assumption) dX3_copyFrom_16 rfl ?_
      refine z_icmpn_ge (rfl) (rfl) (by omega) (by omega) (tgt := 41) (q := 20) dX3_copyFrom_17 (by decide) rfl (fun hc => absurd hc (by omega)) (fun _ => ?_)
      refine z_aload_n (q := 21) dX3_copyFrom_20 rfl rfl rfl ?_
      refine z_getR (q := 24) 3 0 1 60 rfl (by decide) rfl rfl rfl (by with_reducible assumption) (by with_reducible assumption) dX3_copyFrom_21 rfl ?_
      refine z_iload_n (q := 25) dX3_copyFrom_24 rfl rfl rfl ?_
      refine z_aald (q := 26) _ (by with_reducible assumption) (rfl) (by omega) (by decide) (by with_reducible assumption) dX3_copyFrom_25 rfl ?_
      refine z_aload_n (q := 27) dX3_copyFrom_26 rfl rfl rfl ?_
      refine z_getR (q := 30) 3 0 1 60 rfl (by decide) rfl rfl rfl (by with_reducible assumption) (by with_reducible assumption) dX3_copyFrom_27 rfl ?_
      refine z_iload_n (q := 31) dX3_copyFrom_30 rfl rfl rfl ?_
      refine z_aald (q := 32) _ (by with_reducible assumption) (rfl) (by omega) (by decide) (by with_reducible assumption) dX3_copyFrom_31 rfl ?_
      refine z_invV (q := 35) (c_X5_copyFrom G (a + 22 + 2 * i) (b + 22 + 2 * i) ha2 hb2 (by omega)) (by with_reducible assumption) rfl gX3_copyFrom_X5_copyFrom rfl hy_X5_copyFrom rfl rfl rfl rfl (Nat.le_of_ble_eq_true rfl) ⟨Nat.zero_le _, Nat.zero_le _⟩ dX3_copyFrom_32 rfl (z_rnR fun I4 R4 hZ4 => ?_)
      obtain ⟨rfl, f, d1, d2⟩ := hZ4
      refine z_iinc (q := 38) dX3_copyFrom_35 rfl (nI_add _ 1) (by decide) rfl ?_
      refine z_goto (q := 2) dX3_copyFrom_38 (by decide) ?_
      refine ih I4 (fun j hj => ?_) (fun q hq => by rw [f q (by omega)]; exact e2 q hq)
      by_cases hji : j = i
      · subst hji
        exact ⟨fun k hk => by rw [d1 k hk, e2 _ (by omega)], fun k hk => by rw [d2 k hk, e2 _ (by omega)]⟩
      · exact ⟨fun k hk => by rw [f _ (by omega)]; exact (e1 j (by omega)).1 k hk, fun k hk => by rw [f _ (by omega)]; exact (e1 j (by omega)).2 k hk⟩
  refine z_iconst (q := 1) (v := nI 0) dX3_copyFrom_0 (by rfl) rfl ?_
  refine z_istore_n (q := 2) dX3_copyFrom_1 rfl (by decide) rfl ?_
  exact loop 0 (Nat.zero_le _) I (fun j hj => absurd hj (Nat.not_lt_zero j)) (fun _ _ => rfl)


