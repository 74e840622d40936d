/-! THE REFERENCE, a step: rooms absorb, what rooms had -/
theorem absN_o (g : Nat → Int32) : ∀ n k, (∀ i, i < n → k ≠ 9 + 6 * i + 2 ∧ k ≠ 9 + 6 * i + 3) → absN g n k = g k
  | 0, _, _ => rfl
  | n + 1, k, h => by
    have h1 := h n (Nat.lt_succ_self n)
    rw [absN, absR, upd_n _ _ h1.2, upd_n _ _ h1.1]
    exact absN_o g n k (fun i hi => h i (Nat.lt_succ_of_lt hi))
set_option maxRecDepth 100000 in
set_option maxHeartbeats 4000000 in
theorem c_X8_absorbs (G : zG) {n : Nat} {T : zTT} {I : zII} {R : zRR} (r nr : Nat) (hT : T r = some (.inr (.int, 657))) (h0 : I r 0 = nI nr) (hnr : nr ≤ 8) : Ct G yX8_absorbs wsX8_absorbs (0, 0, 0) [.ref r] n T I R (z_rel none n T (fun I' R' => R' = R ∧ z_row I r (absN (I r) nr) I')) := by
  refine Ct.ofX (M := muX8_absorbs) (ls := [(0, .ref r)]) (by decide +kernel) rfl (by decide) rfl rfl (Nat.le_of_ble_eq_true rfl) ?_
  refine z_iconst (q := 1) (v := nI 0) dX8_absorbs_0 (by rfl) rfl ?_
  refine z_istore_n (q := 2) dX8_absorbs_1 rfl (by decide) rfl ?_
  have loop : ∀ i, i ≤ nr → ∀ I2, z_row I r (absN (I r) i) I2 → ∀ ls : List (Nat × Value), lv_pick ls [0, 1] = [(0, .ref r), (1, .int (nI i))] → z_X G muX8_absorbs (0, 0, 0) (z_rel none n T (fun I' R' => R' = R ∧ z_row I r (absN (I r) nr) I')) n T I2 R 0 0 2 ls [] := by
    refine z_up (N := nr) _ ?_ ?_
    · intro I2 hI ls hls
      have e0 : I2 r 0 = nI nr := by rw [hI.1, absN_o _ _ _ (fun i _ => by omega)]; exact h0
      refine z_pick [0, 1] hls ?_
      refine z_iload_n (q := 3) dX8_absorbs_2 rfl rfl rfl ?_
      refine z_aload_n (q := 4) dX8_absorbs_3 rfl rfl rfl ?_
      refine z_iconst (q := 5) (v := nI 0) dX8_absorbs_4 (by rfl) rfl ?_
      refine z_ialdV (q := 6) _ (by with_reducible assumption) (rfl) (by omega) (by decide) (e0) dX8_absorbs_5 rfl ?_
      refine z_icmpn_ge (rfl) (rfl) (by omega) (by omega) (tgt := 64) (q := 9) dX8_absorbs_6 (by decide) rfl (fun _ => ?_) (fun hc => absurd hc (by omega))
      exact z_vret rfl dX8_absorbs_64 (Nat.zero_le _) (Nat.zero_le _) ⟨rfl, rfl, rfl, rfl, hI⟩
    · intro i hi ih I2 hI ls hls
      have e0 : I2 r 0 = nI nr := by rw [hI.1, absN_o _ _ _ (fun i _ => by omega)]; exact h0
      refine z_pick [0, 1] hls ?_
      refine z_iload_n (q := 3) dX8_absorbs_2 rfl rfl rfl ?_
      refine z_aload_n (q := 4) dX8_absorbs_3 rfl rfl rfl ?_
      refine z_iconst (q := 5) (v := nI 0) dX8_absorbs_4 (by rfl) rfl ?_
      refine z_ialdV (q := 6) _ (by with_reducible assumption) (rfl) (by omega) (by decide) (e0) dX8_absorbs_5 rfl ?_
      refine z_icmpn_ge (rfl) (rfl) (by omega) (by omega) (tgt := 64) (q := 9) dX8_absorbs_6 (by decide) rfl (fun hc => absurd hc (by omega)) (fun _ => ?_)
      refine z_bipush (q := 11) (v := nI 9) dX8_absorbs_9 (by rfl) rfl ?_
      refine z_bipush (q := 13) (v := nI 6) dX8_absorbs_11 (by rfl) rfl ?_
      refine z_iload_n (q := 14) dX8_absorbs_13 rfl rfl rfl ?_
      refine z_imulE (q := 15) dX8_absorbs_14 (pk_mul _ _) rfl ?_
      refine z_iaddE (q := 16) dX8_absorbs_15 (nI_add _ _) rfl ?_
      refine z_istore_n (q := 17) dX8_absorbs_16 rfl (by decide) rfl ?_
      refine z_aload_n (q := 18) dX8_absorbs_17 rfl rfl rfl ?_
      refine z_iload_n (q := 19) dX8_absorbs_18 rfl rfl rfl ?_
      refine z_iconst (q := 20) (v := nI 2) dX8_absorbs_19 (by rfl) rfl ?_
      refine z_iaddE (q := 21) dX8_absorbs_20 (nI_add _ _) rfl ?_
      refine z_iald (q := 22) _ (by with_reducible assumption) (rfl) (by omega) (by decide) dX8_absorbs_21 rfl ?_
      refine z_i2l (q := 23) dX8_absorbs_22 rfl ?_
      refine z_aload_n (q := 24) dX8_absorbs_23 rfl rfl rfl ?_
      refine z_iload_n (q := 25) dX8_absorbs_24 rfl rfl rfl ?_
      refine z_iconst (q := 26) (v := nI 1) dX8_absorbs_25 (by rfl) rfl ?_
      refine z_iaddE (q := 27) dX8_absorbs_26 (nI_add _ _) rfl ?_
      refine z_iald (q := 28) _ (by with_reducible assumption) (rfl) (by omega) (by decide) dX8_absorbs_27 rfl ?_
      refine z_i2l (q := 29) dX8_absorbs_28 rfl ?_
      refine z_lmul (q := 30) dX8_absorbs_29 rfl ?_
      refine z_ldc2 (q := 33) (i := 1) (v := 999) rfl dX8_absorbs_30 rfl ?_
      refine z_ladd (q := 34) dX8_absorbs_33 rfl ?_
      refine z_ldc2 (q := 37) (i := 2) (v := 1000) rfl dX8_absorbs_34 rfl ?_
      refine z_ldiv (q := 38) dX8_absorbs_37 (by decide) rfl ?_
      refine z_l2i (q := 39) dX8_absorbs_38 rfl ?_
      refine z_istore_n (q := 40) dX8_absorbs_39 rfl (by decide) rfl ?_
      refine z_aload_n (q := 41) dX8_absorbs_40 rfl rfl rfl ?_
      refine z_iload_n (q := 42) dX8_absorbs_41 rfl rfl rfl ?_
      refine z_iconst (q := 43) (v := nI 2) dX8_absorbs_42 (by rfl) rfl ?_
      refine z_iaddE (q := 44) dX8_absorbs_43 (nI_add _ _) rfl ?_
      refine z_dup2 (q := 45) dX8_absorbs_44 rfl rfl rfl ?_
      refine z_iald (q := 46) _ (by with_reducible assumption) (rfl) (by omega) (by decide) dX8_absorbs_45 rfl ?_
      refine z_iload_n (q := 47) dX8_absorbs_46 rfl rfl rfl ?_
      refine z_isub (q := 48) dX8_absorbs_47 rfl ?_
      refine z_iast (q := 49) _ (by with_reducible assumption) (rfl) (by omega) (by decide) dX8_absorbs_48 rfl ?_
      refine z_aload_n (q := 50) dX8_absorbs_49 rfl rfl rfl ?_
      refine z_iload_n (q := 51) dX8_absorbs_50 rfl rfl rfl ?_
      refine z_iconst (q := 52) (v := nI 3) dX8_absorbs_51 (by rfl) rfl ?_
      refine z_iaddE (q := 53) dX8_absorbs_52 (nI_add _ _) rfl ?_
      refine z_dup2 (q := 54) dX8_absorbs_53 rfl rfl rfl ?_
      refine z_iald (q := 55) _ (by with_reducible assumption) (rfl) (by omega) (by decide) dX8_absorbs_54 rfl ?_
      refine z_iload_n (q := 56) dX8_absorbs_55 rfl rfl rfl ?_
      refine z_iadd (q := 57) dX8_absorbs_56 rfl ?_
      refine z_iast (q := 58) _ (by with_reducible assumption) (rfl) (by omega) (by decide) dX8_absorbs_57 rfl ?_
      refine z_iinc (q := 61) dX8_absorbs_58 rfl (nI_add _ 1) (by decide) rfl ?_
      refine z_goto (q := 2) dX8_absorbs_61 (by decide) ?_
      refine ih _ (z_row_w (z_row_w hI _ _ rfl) _ _ ?_) _ rfl
      rw [zw_upd, hI.1, upd_n _ _ (show 9 + 6 * i + 3 ≠ 9 + 6 * i + 2 by omega)]
      rfl
  exact loop 0 (Nat.zero_le _) I ⟨rfl, fun _ _ => rfl⟩ _ rfl
theorem oldN_o (g : Nat → Int32) : ∀ n k, (k < 401 ∨ 401 + 32 * n ≤ k) → oldN g n k = g k
  | 0, _, _ => rfl
  | n + 1, k, h => by
    rw [oldN, oldR, if_neg (by omega), if_neg (by omega)]
    exact oldN_o g n k (by omega)
/-- a row moved up by one, down to place j -/
def oldP (g : Nat → Int32) (i j : Nat) : Nat → Int32 := fun k => if 401 + 32 * i + j < k ∧ k < 433 + 32 * i then g (k - 1) else g k
theorem oldP_0 (g : Nat → Int32) (i : Nat) : oldP g i 31 = g := by
  funext k
  simp only [oldP]
  split
  · exfalso; omega
  · rfl
theorem oldP_s (g : Nat → Int32) {i j : Nat} (hj : j < 31) : upd (oldP g i (j + 1)) (401 + 32 * i + (j + 1)) (oldP g i (j + 1) (401 + 32 * i + j)) = oldP g i j := by
  funext k
  simp only [upd, oldP]
  (repeat' split) <;> first | rfl | (exfalso; omega) | (congr 1; omega)
theorem oldP_e (g : Nat → Int32) (i : Nat) : upd (oldP g i 0) (401 + 32 * i) (oldP g i 0 (9 + 6 * i + 2)) = oldR g i := by
  funext k
  simp only [upd, oldP, oldR]
  (repeat' split) <;> first | rfl | (exfalso; omega)
theorem movN_o (g : Nat → Int32) : ∀ n k, k ≠ 6 → (∀ i, i < n → k ≠ 57 + 10 * i + 5) → movN g n k = g k
  | 0, _, _, _ => rfl
  | n + 1, k, h6, h => by
    rw [movN, movR, upd_n _ _ h6, movA, upd_n _ _ (h n (Nat.lt_succ_self n))]
    exact movN_o g n k h6 (fun i hi => h i (Nat.lt_succ_of_lt hi))
set_option maxRecDepth 100000 in
set_option maxHeartbeats 4000000 in
theorem c_X8_movesDoors (G : zG) {n : Nat} {T : zTT} {I : zII} {R : zRR} (r nd np : Nat) (hT : T r = some (.inr (.int, 657))) (h1 : I r 1 = nI nd) (hnd : nd ≤ 12) (h2 : I r 2 = nI np) (hnp : np ≤ 16) : Ct G yX8_movesDoors wsX8_movesDoors (3, 0, 0) [.ref r] n T I R (z_rel none n T (fun I' R' => R' = R ∧ z_row I r (movN (I r) nd) I')) := by
  refine Ct.ofX (M := muX8_movesDoors) (ls := [(0, .ref r)]) (by decide +kernel) rfl (by decide) rfl rfl (Nat.le_of_ble_eq_true rfl) ?_
  refine z_iconst (q := 1) (v := nI 0) dX8_movesDoors_0 (by rfl) rfl ?_
  refine z_istore_n (q := 2) dX8_movesDoors_1 rfl (by decide) rfl ?_
  have loop : ∀ i, i ≤ nd → ∀ I2, z_row I r (movN (I r) i) I2 → ∀ ls : List (Nat × Value), lv_pick ls [0, 1] = [(0, .ref r), (1, .int (nI i))] → z_X G muX8_movesDoors (3, 0, 0) (z_rel none n T (fun I' R' => R' = R ∧ z_row I r (movN (I r) nd) I')) n T I2 R 0 0 2 ls [] := by
    refine z_up (N := nd) _ ?_ ?_
    · intro I2 hI ls hls
      have e1 : I2 r 1 = nI nd := by rw [hI.1, movN_o _ _ _ (by decide) (fun i _ => by omega)]; exact h1
      refine z_pick [0, 1] hls ?_
      refine z_iload_n (q := 3) dX8_movesDoors_2 rfl rfl rfl ?_
      refine z_aload_n (q := 4) dX8_movesDoors_3 rfl rfl rfl ?_
      refine z_iconst (q := 5) (v := nI 1) dX8_movesDoors_4 (by rfl) rfl ?_
      refine z_ialdV (q := 6) _ (by with_reducible assumption) (rfl) (by omega) (by decide) (e1) dX8_movesDoors_5 rfl ?_
      refine z_icmpn_ge (rfl) (rfl) (by omega) (by omega) (tgt := 117) (q := 9) dX8_movesDoors_6 (by decide) rfl (fun _ => ?_) (fun hc => absurd hc (by omega))
      exact z_vret rfl dX8_movesDoors_117 (Nat.zero_le _) (Nat.zero_le _) ⟨rfl, rfl, rfl, rfl, hI⟩
    · intro i hi ih I2 hI ls hls
      have e1 : I2 r 1 = nI nd := by rw [hI.1, movN_o _ _ _ (by decide) (fun i _ => by omega)]; exact h1
      have e2 : I2 r 2 = nI np := by rw [hI.1, movN_o _ _ _ (by decide) (fun i _ => by omega)]; exact h2
      refine z_pick [0, 1] hls ?_
      refine z_iload_n (q := 3) dX8_movesDoors_2 rfl rfl rfl ?_
      refine z_aload_n (q := 4) dX8_movesDoors_3 rfl rfl rfl ?_
      refine z_iconst (q := 5) (v := nI 1) dX8_movesDoors_4 (by rfl) rfl ?_
      refine z_ialdV (q := 6) _ (by with_reducible assumption) (rfl) (by omega) (by decide) (e1) dX8_movesDoors_5 rfl ?_
      refine z_icmpn_ge (rfl) (rfl) (by omega) (by omega) (tgt := 117) (q := 9) dX8_movesDoors_6 (by decide) rfl (fun hc => absurd hc (by omega)) (fun _ => ?_)
      refine z_bipush (q := 11) (v := nI 57) dX8_movesDoors_9 (by rfl) rfl ?_
      refine z_bipush (q := 13) (v := nI 10) dX8_movesDoors_11 (by rfl) rfl ?_
      refine z_iload_n (q := 14) dX8_movesDoors_13 rfl rfl rfl ?_
      refine z_imulE (q := 15) dX8_movesDoors_14 (pk_mul _ _) rfl ?_
      refine z_iaddE (q := 16) dX8_movesDoors_15 (nI_add _ _) rfl ?_
      refine z_istore_n (q := 17) dX8_movesDoors_16 rfl (by decide) rfl ?_
      refine z_aload_n (q := 18) dX8_movesDoors_17 rfl rfl rfl ?_
      refine z_iload_n (q := 19) dX8_movesDoors_18 rfl rfl rfl ?_
      refine z_bipush (q := 21) (v := nI 6) dX8_movesDoors_19 (by rfl) rfl ?_
      refine z_iaddE (q := 22) dX8_movesDoors_21 (nI_add _ _) rfl ?_
      refine z_iald (q := 23) _ (by with_reducible assumption) (rfl) (by omega) (by decide) dX8_movesDoors_22 rfl ?_
      refine z_aload_n (q := 24) dX8_movesDoors_23 rfl rfl rfl ?_
      refine z_iload_n (q := 25) dX8_movesDoors_24 rfl rfl rfl ?_
      refine z_iconst (q := 26) (v := nI 5) dX8_movesDoors_25 (by rfl) rfl ?_
      refine z_iaddE (q := 27) dX8_movesDoors_26 (nI_add _ _) rfl ?_
      refine z_iald (q := 28) _ (by with_reducible assumption) (rfl) (by omega) (by decide) dX8_movesDoors_27 rfl ?_
      refine z_isub (q := 29) dX8_movesDoors_28 rfl ?_
      refine z_istore_n (q := 30) dX8_movesDoors_29 rfl (by decide) rfl ?_
      refine z_aload_n (q := 31) dX8_movesDoors_30 rfl rfl rfl ?_
      refine z_iload_n (q := 32) dX8_movesDoors_31 rfl rfl rfl ?_
      refine z_iconst (q := 33) (v := nI 3) dX8_movesDoors_32 (by rfl) rfl ?_
      refine z_iaddE (q := 34) dX8_movesDoors_33 (nI_add _ _) rfl ?_
      refine z_iald (q := 35) _ (by with_reducible assumption) (rfl) (by omega) (by decide) dX8_movesDoors_34 rfl ?_
      refine z_istore (q := 37) dX8_movesDoors_35 (by decide) rfl ?_
      refine z_iload_n (q := 38) dX8_movesDoors_37 rfl rfl rfl ?_
      refine z_iload (q := 40) (i := 4) dX8_movesDoors_38 rfl rfl ?_
      have join : ∀ gs, gs = mvG (I2 r) i → z_X G muX8_movesDoors (3, 0, 0) (z_rel none n T (fun I' R' => R' = R ∧ z_row I r (movN (I r) nd) I')) n T I2 R 0 0 62 [(0, .ref r), (1, .int (nI i)), (2, .int (nI (57 + 10 * i))), (3, .int (I2 r (57 + 10 * i + 6) - I2 r (57 + 10 * i + 5))), (4, .int (I2 r (57 + 10 * i + 3)))] [.int gs] := by
        intro gs hgs
        refine z_istore (q := 64) dX8_movesDoors_62 (by decide) rfl ?_
        refine z_aload_n (q := 65) dX8_movesDoors_64 rfl rfl rfl ?_
        refine z_iload_n (q := 66) dX8_movesDoors_65 rfl rfl rfl ?_
        refine z_iconst (q := 67) (v := nI 5) dX8_movesDoors_66 (by rfl) rfl ?_
        refine z_iaddE (q := 68) dX8_movesDoors_67 (nI_add _ _) rfl ?_
        refine z_dup2 (q := 69) dX8_movesDoors_68 rfl rfl rfl ?_
        refine z_iald (q := 70) _ (by with_reducible assumption) (rfl) (by omega) (by decide) dX8_movesDoors_69 rfl ?_
        refine z_iload (q := 72) (i := 5) dX8_movesDoors_70 rfl rfl ?_
        refine z_iadd (q := 73) dX8_movesDoors_72 rfl ?_
        refine z_iast (q := 74) _ (by with_reducible assumption) (rfl) (by omega) (by decide) dX8_movesDoors_73 rfl ?_
        have hA : z_row I r (movA (movN (I r) i) i) (zw I2 r (57 + 10 * i + 5) (I2 r (57 + 10 * i + 5) + gs)) := by
          refine z_row_w hI _ _ ?_
          rw [hgs, hI.1]
          rfl
        rw [hI.1] at hgs
        generalize zw I2 r (57 + 10 * i + 5) (I2 r (57 + 10 * i + 5) + gs) = I3 at hA
        have f2 : I3 r 2 = nI np := by rw [hA.1, movA, upd_n _ _ (by omega), ← hI.1]; exact e2
        have f6 : ∀ w, w ≠ 5 → w < 10 → I3 r (57 + 10 * i + w) = movN (I r) i (57 + 10 * i + w) := fun w hw _ => by rw [hA.1, movA, upd_n _ _ (by omega)]
        have hnpN : gN (movN (I r) i) 2 = np := gN_of (by rw [← hI.1]; exact e2) (by omega)
        refine z_aload_n (q := 75) dX8_movesDoors_74 rfl rfl rfl ?_
        refine z_bipush (q := 77) (v := nI 6) dX8_movesDoors_75 (by rfl) rfl ?_
        refine z_dup2 (q := 78) dX8_movesDoors_77 rfl rfl rfl ?_
        refine z_iald (q := 79) _ (by with_reducible assumption) (rfl) (by omega) (by decide) dX8_movesDoors_78 rfl ?_
        refine z_iload (q := 81) (i := 5) dX8_movesDoors_79 rfl rfl ?_
        have join2 : ∀ b, b = (if 0 < mvG (movN (I r) i) i ∧ 0 < hrN (movA (movN (I r) i) i) (movN (I r) i (57 + 10 * i)) np + hrN (movA (movN (I r) i) i) (movN (I r) i (57 + 10 * i + 1)) np then 1 else 0) → z_X G muX8_movesDoors (3, 0, 0) (z_rel none n T (fun I' R' => R' = R ∧ z_row I r (movN (I r) nd) I')) n T I3 R 0 0 109 [(0, .ref r), (1, .int (nI i)), (2, .int (nI (57 + 10 * i))), (3, .int (I2 r (57 + 10 * i + 6) - I2 r (57 + 10 * i + 5))), (4, .int (I2 r (57 + 10 * i + 3))), (5, .int gs)] [.int b, .int (I3 r 6), .int (nI 6), .ref r] := by
          intro b hb
          refine z_iadd (q := 110) dX8_movesDoors_109 rfl ?_
          refine z_iast (q := 111) _ (by with_reducible assumption) (rfl) (by omega) (by decide) dX8_movesDoors_110 rfl ?_
          refine z_iinc (q := 114) dX8_movesDoors_111 rfl (nI_add _ 1) (by decide) rfl ?_
          refine z_goto (q := 2) dX8_movesDoors_114 (by decide) ?_
          refine ih _ (z_row_w hA _ _ ?_) _ rfl
          rw [movN, movR, hnpN, ← hb, ← hA.1]
        refine z_if_le (tgt := 108) (q := 84) dX8_movesDoors_81 (by decide) rfl (fun hc => ?_) (fun hc => ?_)
        · refine z_iconst (q := 109) (v := nI 0) dX8_movesDoors_108 (by rfl) rfl ?_
          refine join2 _ ?_
          rw [if_neg]
          · exact nI_0
          · rw [← hgs]
            exact fun z => absurd z.1 (Int32.not_lt.mpr hc)
        · refine z_aload_n (q := 85) dX8_movesDoors_84 rfl rfl rfl ?_
          refine z_aload_n (q := 86) dX8_movesDoors_85 rfl rfl rfl ?_
          refine z_iload_n (q := 87) dX8_movesDoors_86 rfl rfl rfl ?_
          refine z_iald (q := 88) _ (by with_reducible assumption) (rfl) (by omega) (by decide) dX8_movesDoors_87 rfl ?_
          refine z_invS (q := 91) (c_X8_heardIn G r np _ hT f2 hnp) gX8_movesDoors_X8_heardIn rfl hy_X8_heardIn rfl rfl rfl rfl (Nat.le_of_ble_eq_true rfl) ⟨Nat.zero_le _, Nat.zero_le _⟩ dX8_movesDoors_88 rfl (z_rv ?_)
          refine z_aload_n (q := 92) dX8_movesDoors_91 rfl rfl rfl ?_
          refine z_aload_n (q := 93) dX8_movesDoors_92 rfl rfl rfl ?_
          refine z_iload_n (q := 94) dX8_movesDoors_93 rfl rfl rfl ?_
          refine z_iconst (q := 95) (v := nI 1) dX8_movesDoors_94 (by rfl) rfl ?_
          refine z_iaddE (q := 96) dX8_movesDoors_95 (nI_add _ _) rfl ?_
          refine z_iald (q := 97) _ (by with_reducible assumption) (rfl) (by omega) (by decide) dX8_movesDoors_96 rfl ?_
          refine z_invS (q := 100) (c_X8_heardIn G r np _ hT f2 hnp) gX8_movesDoors_X8_heardIn rfl hy_X8_heardIn rfl rfl rfl rfl (Nat.le_of_ble_eq_true rfl) ⟨Nat.zero_le _, Nat.zero_le _⟩ dX8_movesDoors_97 rfl (z_rv ?_)
          refine z_iadd (q := 101) dX8_movesDoors_100 rfl ?_
          have hc : 0 < mvG (movN (I r) i) i := by rw [← hgs]; exact Int32.not_le.mp hc
          have g0 : I3 r (57 + 10 * i) = movN (I r) i (57 + 10 * i) := f6 0 (by decide) (by decide)
          have hs : hrN (I3 r) (I3 r (57 + 10 * i)) np + hrN (I3 r) (I3 r (57 + 10 * i + 1)) np = hrN (movA (movN (I r) i) i) (movN (I r) i (57 + 10 * i)) np + hrN (movA (movN (I r) i) i) (movN (I r) i (57 + 10 * i + 1)) np := by rw [g0, f6 1 (by decide) (by decide), hA.1]
          rw [hs]
          refine z_if_le (tgt := 108) (q := 104) dX8_movesDoors_101 (by decide) rfl (fun hd => ?_) (fun hd => ?_)
          · refine z_iconst (q := 109) (v := nI 0) dX8_movesDoors_108 (by rfl) rfl ?_
            refine join2 _ ?_
            rw [if_neg]
            · exact nI_0
            · exact fun z => absurd z.2 (Int32.not_lt.mpr hd)
          · refine z_iconst (q := 105) (v := nI 1) dX8_movesDoors_104 (by rfl) rfl ?_
            refine z_goto (q := 109) dX8_movesDoors_105 (by decide) ?_
            refine join2 _ ?_
            rw [if_pos ⟨hc, Int32.not_le.mp hd⟩]
            exact zI1
      refine z_icmp_le (tgt := 48) (q := 43) dX8_movesDoors_40 (by decide) rfl (fun hc => ?_) (fun hc => ?_)
      · refine z_iload_n (q := 49) dX8_movesDoors_48 rfl rfl rfl ?_
        refine z_iload (q := 51) (i := 4) dX8_movesDoors_49 rfl rfl ?_
        refine z_ineg (q := 52) dX8_movesDoors_51 rfl ?_
        refine z_icmp_ge (tgt := 61) (q := 55) dX8_movesDoors_52 (by decide) rfl (fun hd => ?_) (fun hd => ?_)
        · refine z_iload_n (q := 62) dX8_movesDoors_61 rfl rfl rfl ?_
          refine join _ ?_
          rw [mvG, if_neg (Int32.not_lt.mpr hc), if_neg (Int32.not_lt.mpr hd)]
        · refine z_iload (q := 57) (i := 4) dX8_movesDoors_55 rfl rfl ?_
          refine z_ineg (q := 58) dX8_movesDoors_57 rfl ?_
          refine z_goto (q := 62) dX8_movesDoors_58 (by decide) ?_
          refine join _ ?_
          rw [mvG, if_neg (Int32.not_lt.mpr hc), if_pos (Int32.not_le.mp hd)]
      · refine z_iload (q := 45) (i := 4) dX8_movesDoors_43 rfl rfl ?_
        refine z_goto (q := 62) dX8_movesDoors_45 (by decide) ?_
        refine join _ ?_
        rw [mvG, if_pos (Int32.not_le.mp hc)]
  exact loop 0 (Nat.zero_le _) I ⟨rfl, fun _ _ => rfl⟩ _ rfl

