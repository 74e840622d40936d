/-! THE REFERENCE, a step: through doors -/
theorem arr2_0 (g : Nat → Int32) (a : Nat) : arr2 g a 0 = g := by
  funext k
  simp only [arr2]
  split
  · exfalso; omega
  · rfl
theorem arr2_s (g : Nat → Int32) (a j : Nat) : upd (arr2 g a j) (a + j) (arr2 g a j (a + j + 1)) = arr2 g a (j + 1) := by
  funext k
  simp only [upd, arr2]
  (repeat' split) <;> first | rfl | (exfalso; omega) | (congr 1; omega)
set_option maxRecDepth 100000 in
set_option maxHeartbeats 4000000 in
theorem c_X8_arrive (G : zG) {n : Nat} {T : zTT} {I : zII} {R : zRR} (r d s b : Nat) (hT : T r = some (.inr (.int, 657))) (hd : d < 12) (hs : s < 2) (hb : I r (57 + 10 * d + (1 - s)) = nI b) (hb8 : b ≤ 8) : Ct G yX8_arrive wsX8_arrive (1, 0, 0) [.ref r, .int (nI d), .int (nI s)] n T I R (z_rel none n T (fun I' R' => R' = R ∧ z_row I r (arrR (I r) d s) I')) := by
  refine Ct.ofX (M := muX8_arrive) (ls := [(0, .ref r), (1, .int (nI d)), (2, .int (nI s))]) (by decide +kernel) rfl (by decide) rfl rfl (Nat.le_of_ble_eq_true rfl) ?_
  have hgb : gN (I r) (57 + 10 * d + (1 - s)) = b := gN_of hb (by omega)
  refine z_sipush (q := 3) (v := nI 177) dX8_arrive_0 (by rfl) rfl ?_
  refine z_bipush (q := 5) (v := nI 12) dX8_arrive_3 (by rfl) rfl ?_
  refine z_iload_n (q := 6) dX8_arrive_5 rfl rfl rfl ?_
  refine z_imulE (q := 7) dX8_arrive_6 (pk_mul _ _) rfl ?_
  refine z_iaddE (q := 8) dX8_arrive_7 (nI_add _ _) rfl ?_
  refine z_bipush (q := 10) (v := nI 6) dX8_arrive_8 (by rfl) rfl ?_
  refine z_iload_n (q := 11) dX8_arrive_10 rfl rfl rfl ?_
  refine z_imulE (q := 12) dX8_arrive_11 (pk_mul _ _) rfl ?_
  refine z_iaddE (q := 13) dX8_arrive_12 (nI_add _ _) rfl ?_
  refine z_istore_n (q := 14) dX8_arrive_13 rfl (by decide) rfl ?_
  refine z_aload_n (q := 15) dX8_arrive_14 rfl rfl rfl ?_
  refine z_iload_n (q := 16) dX8_arrive_15 rfl rfl rfl ?_
  refine z_iconst (q := 17) (v := nI 1) dX8_arrive_16 (by rfl) rfl ?_
  refine z_iload_n (q := 18) dX8_arrive_17 rfl rfl rfl ?_
  refine z_isubE (q := 19) dX8_arrive_18 (pk_sub (by omega)) rfl ?_
  refine z_invS (q := 22) (c_X8_ofDoor G r d (1 - s) hT (by omega)) gX8_arrive_X8_ofDoor rfl hy_X8_ofDoor rfl rfl rfl rfl (Nat.le_of_ble_eq_true rfl) ⟨Nat.zero_le _, Nat.zero_le _⟩ dX8_arrive_19 rfl (z_rv ?_)
  rw [hb]
  refine z_istore (q := 24) dX8_arrive_22 (by decide) rfl ?_
  refine z_iload (q := 26) (i := 4) dX8_arrive_24 rfl rfl ?_
  refine z_bipush (q := 28) (v := nI 8) dX8_arrive_26 (by rfl) rfl ?_
  have join : ∀ I2, z_row I r (arr1 (I r) d s) I2 → z_X G muX8_arrive (1, 0, 0) (z_rel none n T (fun I' R' => R' = R ∧ z_row I r (arrR (I r) d s) I')) n T I2 R 0 0 61 [(0, .ref r), (1, .int (nI d)), (2, .int (nI s)), (3, .int (nI (177 + 12 * d + 6 * s))), (4, .int (nI b))] [] := by
    intro I2 hI
    refine z_iconst (q := 62) (v := nI 0) dX8_arrive_61 (by rfl) rfl ?_
    refine z_istore (q := 64) dX8_arrive_62 (by decide) rfl ?_
    have loop : ∀ j, j ≤ 5 → ∀ I2, z_row I r (arr2 (arr1 (I r) d s) (177 + 12 * d + 6 * s) j) I2 → z_X G muX8_arrive (1, 0, 0) (z_rel none n T (fun I' R' => R' = R ∧ z_row I r (arrR (I r) d s) I')) n T I2 R 0 0 64 [(0, .ref r), (1, .int (nI d)), (2, .int (nI s)), (3, .int (nI (177 + 12 * d + 6 * s))), (4, .int (nI b)), (5, .int (nI j))] [] := by
      refine z_up (N := 5) _ ?_ ?_
      · intro I2 hI
        refine z_iload (q := 66) (i := 5) dX8_arrive_64 rfl rfl ?_
        refine z_iconst (q := 67) (v := nI 5) dX8_arrive_66 (by rfl) rfl ?_
        refine z_icmpn_ge (rfl) (rfl) (by omega) (by omega) (tgt := 90) (q := 70) dX8_arrive_67 (by decide) rfl (fun _ => ?_) (fun hc => absurd hc (by omega))
        refine z_aload_n (q := 91) dX8_arrive_90 rfl rfl rfl ?_
        refine z_iload_n (q := 92) dX8_arrive_91 rfl rfl rfl ?_
        refine z_iconst (q := 93) (v := nI 5) dX8_arrive_92 (by rfl) rfl ?_
        refine z_iaddE (q := 94) dX8_arrive_93 (nI_add _ _) rfl ?_
        refine z_iconst (q := 95) (v := nI 0) dX8_arrive_94 (by rfl) rfl ?_
        refine z_iast (q := 96) _ (by with_reducible assumption) (rfl) (by omega) (by decide) dX8_arrive_95 rfl ?_
        exact z_vret rfl dX8_arrive_96 (Nat.zero_le _) (Nat.zero_le _) ⟨rfl, rfl, rfl, rfl, z_row_w hI _ _ rfl⟩
      · intro j hj ih I2 hI
        refine z_iload (q := 66) (i := 5) dX8_arrive_64 rfl rfl ?_
        refine z_iconst (q := 67) (v := nI 5) dX8_arrive_66 (by rfl) rfl ?_
        refine z_icmpn_ge (rfl) (rfl) (by omega) (by omega) (tgt := 90) (q := 70) dX8_arrive_67 (by decide) rfl (fun hc => absurd hc (by omega)) (fun _ => ?_)
        refine z_aload_n (q := 71) dX8_arrive_70 rfl rfl rfl ?_
        refine z_iload_n (q := 72) dX8_arrive_71 rfl rfl rfl ?_
        refine z_iload (q := 74) (i := 5) dX8_arrive_72 rfl rfl ?_
        refine z_iaddE (q := 75) dX8_arrive_74 (nI_add _ _) rfl ?_
        refine z_aload_n (q := 76) dX8_arrive_75 rfl rfl rfl ?_
        refine z_iload_n (q := 77) dX8_arrive_76 rfl rfl rfl ?_
        refine z_iload (q := 79) (i := 5) dX8_arrive_77 rfl rfl ?_
        refine z_iaddE (q := 80) dX8_arrive_79 (nI_add _ _) rfl ?_
        refine z_iconst (q := 81) (v := nI 1) dX8_arrive_80 (by rfl) rfl ?_
        refine z_iaddE (q := 82) dX8_arrive_81 (nI_add _ _) rfl ?_
        refine z_iald (q := 83) _ (by with_reducible assumption) (rfl) (by omega) (by decide) dX8_arrive_82 rfl ?_
        refine z_iast (q := 84) _ (by with_reducible assumption) (rfl) (by omega) (by decide) dX8_arrive_83 rfl ?_
        refine z_iinc (q := 87) dX8_arrive_84 rfl (nI_add _ 1) (by decide) rfl ?_
        refine z_goto (q := 64) dX8_arrive_87 (by decide) ?_
        refine ih _ (z_row_w hI _ _ ?_)
        rw [hI.1]
        exact arr2_s _ _ _
    exact loop 0 (by decide) I2 (by rw [arr2_0]; exact hI)
  refine z_icmpn_ne (rfl) (rfl) (by omega) (by omega) (tgt := 43) (q := 31) dX8_arrive_28 (by decide) rfl (fun h28 => ?_) (fun h28 => ?_)
  · refine z_aload_n (q := 44) dX8_arrive_43 rfl rfl rfl ?_
    refine z_bipush (q := 46) (v := nI 9) dX8_arrive_44 (by rfl) rfl ?_
    refine z_bipush (q := 48) (v := nI 6) dX8_arrive_46 (by rfl) rfl ?_
    refine z_iload (q := 50) (i := 4) dX8_arrive_48 rfl rfl ?_
    refine z_imulE (q := 51) dX8_arrive_50 (pk_mul _ _) rfl ?_
    refine z_iaddE (q := 52) dX8_arrive_51 (nI_add _ _) rfl ?_
    refine z_iconst (q := 53) (v := nI 2) dX8_arrive_52 (by rfl) rfl ?_
    refine z_iaddE (q := 54) dX8_arrive_53 (nI_add _ _) rfl ?_
    refine z_dup2 (q := 55) dX8_arrive_54 rfl rfl rfl ?_
    refine z_iald (q := 56) _ (by with_reducible assumption) (rfl) (by omega) (by decide) dX8_arrive_55 rfl ?_
    refine z_aload_n (q := 57) dX8_arrive_56 rfl rfl rfl ?_
    refine z_iload_n (q := 58) dX8_arrive_57 rfl rfl rfl ?_
    refine z_iald (q := 59) _ (by with_reducible assumption) (rfl) (by omega) (by decide) dX8_arrive_58 rfl ?_
    refine z_iadd (q := 60) dX8_arrive_59 rfl ?_
    refine z_iast (q := 61) _ (by with_reducible assumption) (rfl) (by omega) (by decide) dX8_arrive_60 rfl ?_
    refine join _ (z_row_w ⟨rfl, fun _ _ => rfl⟩ _ _ ?_)
    rw [arr1, hgb, if_neg h28]
  · refine z_aload_n (q := 32) dX8_arrive_31 rfl rfl rfl ?_
    refine z_iconst (q := 33) (v := nI 4) dX8_arrive_32 (by rfl) rfl ?_
    refine z_dup2 (q := 34) dX8_arrive_33 rfl rfl rfl ?_
    refine z_iald (q := 35) _ (by with_reducible assumption) (rfl) (by omega) (by decide) dX8_arrive_34 rfl ?_
    refine z_aload_n (q := 36) dX8_arrive_35 rfl rfl rfl ?_
    refine z_iload_n (q := 37) dX8_arrive_36 rfl rfl rfl ?_
    refine z_iald (q := 38) _ (by with_reducible assumption) (rfl) (by omega) (by decide) dX8_arrive_37 rfl ?_
    refine z_iadd (q := 39) dX8_arrive_38 rfl ?_
    refine z_iast (q := 40) _ (by with_reducible assumption) (rfl) (by omega) (by decide) dX8_arrive_39 rfl ?_
    refine z_goto (q := 61) dX8_arrive_40 (by decide) ?_
    refine join _ (z_row_w ⟨rfl, fun _ _ => rfl⟩ _ _ ?_)
    rw [arr1, hgb, if_pos h28]
/-- sides, delay, volume at a door's side -/
theorem INV_side {nr nd np st : Nat} {g : Nat → Int32} (h : INV nr nd np st g) {d s : Nat} (hd : d < nd) (hs : s < 2) : ∃ a, g (57 + 10 * d + s) = nI a ∧ a ≤ 8 ∧ (a < 8 → a < nr ∧ ∃ v, g (9 + 6 * a + 0) = nI v ∧ 10 ≤ v ∧ v ≤ 10000) := by
  obtain ⟨⟨-, hnr⟩, ⟨-, hnd⟩, -, -, hR, hD, -⟩ := h
  obtain ⟨a, b, ar, sp, de, o, t, l, ⟨ha, ha1⟩, ⟨hb, hb1⟩, -⟩ := (hD d (by omega)).1 hd
  rcases (show s = 0 ∨ s = 1 by omega) with rfl | rfl
  · exact ⟨a, ha, by omega, fun _ => ⟨ha1, ((hR a (by omega)).1 ha1).1⟩⟩
  · refine ⟨b, hb, by omega, fun hb8 => ?_⟩
    have hbn : b < nr := by omega
    exact ⟨hbn, ((hR b (by omega)).1 hbn).1⟩
theorem INV_delay {nr nd np st : Nat} {g : Nat → Int32} (h : INV nr nd np st g) {d : Nat} (hd : d < nd) : ∃ de, g (57 + 10 * d + 4) = nI de ∧ de ≤ 5 := by
  obtain ⟨-, ⟨-, hnd⟩, -, -, -, hD, -⟩ := h
  obtain ⟨a, b, ar, sp, de, o, t, l, -, -, -, -, -, hde, -⟩ := (hD d (by omega)).1 hd
  exact ⟨de, hde⟩
theorem sendR_fre {nr nd np st : Nat} {fl g : Nat → Int32} (h : INV nr nd np st g) {k : Nat} (hk : k < 2 * nd) : ∀ j, ¬ fre nr nd j → sendR fl g k j = g j := by
  intro j hj
  obtain ⟨a, h1, h2, h3⟩ := INV_side h (d := k / 2) (s := k % 2) (by omega) (by omega)
  obtain ⟨de, h4, h5⟩ := INV_delay h (d := k / 2) (by omega)
  have hga : gN g (57 + 10 * (k / 2) + k % 2) = a := gN_of h1 (by omega)
  have hgd : gN g (57 + 10 * (k / 2) + 4) = de := gN_of h4 (by omega)
  unfold fre at hj
  have n1 : j ≠ 177 + 12 * (k / 2) + 6 * (k % 2) + de := fun e => hj (Or.inr (Or.inr (Or.inr (Or.inr (Or.inr (Or.inr (Or.inr (Or.inl ⟨k / 2, by omega, by omega, by omega⟩))))))))
  have n2 : j ≠ 57 + 10 * (k / 2) + 8 + k % 2 := fun e => hj (Or.inr (Or.inr (Or.inr (Or.inr (Or.inr (Or.inr (Or.inl ⟨k / 2, by omega, by omega⟩)))))))
  rw [sendR, hgd, upd_n _ _ n1, snd2, upd_n _ _ n2, snd1, hga]
  split
  · rfl
  · have h8 : a < 8 := by omega
    obtain ⟨h6, -⟩ := h3 h8
    rw [upd_n]
    exact fun e => hj (Or.inr (Or.inr (Or.inr (Or.inr (Or.inr (Or.inl ⟨a, h6, by omega, by omega⟩))))))
theorem sendN_fre {nr nd np st : Nat} {fl g : Nat → Int32} (h : INV nr nd np st g) : ∀ m, m ≤ 2 * nd → ∀ j, ¬ fre nr nd j → sendN fl g m j = g j
  | 0, _, _, _ => rfl
  | m + 1, hm, j, hj => by
    have ih := sendN_fre (fl := fl) h m (by omega)
    rw [sendN, sendR_fre (INV_free h ih) (by omega) j hj]
    exact ih j hj
theorem arrR_fre {nr nd np st : Nat} {g : Nat → Int32} (h : INV nr nd np st g) {d s : Nat} (hd : d < nd) (hs : s < 2) : ∀ j, ¬ fre nr nd j → arrR g d s j = g j := by
  intro j hj
  obtain ⟨a, h1, h2, h3⟩ := INV_side h hd (show 1 - s < 2 by omega)
  have hga : gN g (57 + 10 * d + (1 - s)) = a := gN_of h1 (by omega)
  unfold fre at hj
  have n1 : ¬ (177 + 12 * d + 6 * s ≤ j ∧ j ≤ 177 + 12 * d + 6 * s + 5) := fun e => hj (Or.inr (Or.inr (Or.inr (Or.inr (Or.inr (Or.inr (Or.inr (Or.inl ⟨d, hd, by omega, by omega⟩))))))))
  rw [arrR, upd_n _ _ (by omega), arr2, if_neg (by omega), arr1, hga]
  split
  · rw [upd_n]
    exact fun e => hj (Or.inl e)
  · have h8 : a < 8 := by omega
    obtain ⟨h6, -⟩ := h3 h8
    rw [upd_n]
    exact fun e => hj (Or.inr (Or.inr (Or.inr (Or.inr (Or.inr (Or.inl ⟨a, h6, by omega, by omega⟩))))))
theorem arrN_fre {nr nd np st : Nat} {g : Nat → Int32} (h : INV nr nd np st g) : ∀ m, m ≤ 2 * nd → ∀ j, ¬ fre nr nd j → arrN g m j = g j
  | 0, _, _, _ => rfl
  | m + 1, hm, j, hj => by
    have ih := arrN_fre h m (by omega)
    rw [arrN, arrR_fre (INV_free h ih) (by omega) (by omega) j hj]
    exact ih j hj
/-- two rows are known, the others are as they were -/
abbrev z_row2 (I : zII) (r f : Nat) (h : Nat → Int32) (I' : zII) : Prop := I' r = h ∧ ∀ q, q ≠ r → q ≠ f → I' q = I q
set_option maxRecDepth 100000 in
set_option maxHeartbeats 4000000 in
theorem c_X8_goesThrough (G : zG) {n : Nat} {T : zTT} {I : zII} {R : zRR} (r f nr nd np st : Nat) (hT : T r = some (.inr (.int, 657))) (hTf : T f = some (.inr (.int, 24))) (hrf : r ≠ f) (hI : INV nr nd np st (I r)) : Ct G yX8_goesThrough wsX8_goesThrough (2, 0, 0) [.ref r, .ref f] n T I R (z_rel none n T (fun I' R' => R' = R ∧ z_row2 I r f (arrN (sendN (thrG (I r)) (I r) (2 * nd)) (2 * nd)) I')) := by
  refine Ct.ofX (M := muX8_goesThrough) (ls := [(0, .ref r), (1, .ref f)]) (by decide +kernel) rfl (by decide) rfl rfl (Nat.le_of_ble_eq_true rfl) ?_
  have hnd : nd ≤ 12 := hI.2.1.2
  have hnr : nr ≤ 8 := hI.1.2
  have h1 : I r 1 = nI nd := hI.2.1.1
  have nf1 : ¬ fre nr nd 1 := by unfold fre; rintro (q | q | q | q | q | ⟨y, q⟩ | ⟨y, q⟩ | ⟨y, q⟩ | ⟨y, q⟩) <;> omega
  refine z_iconst (q := 1) (v := nI 0) dX8_goesThrough_0 (by rfl) rfl ?_
  refine z_istore_n (q := 2) dX8_goesThrough_1 rfl (by decide) rfl ?_
  have loop3 : ∀ i, i ≤ 2 * nd → ∀ I2, z_row2 I r f (arrN (sendN (thrG (I r)) (I r) (2 * nd)) i) I2 → z_X G muX8_goesThrough (2, 0, 0) (z_rel none n T (fun I' R' => R' = R ∧ z_row2 I r f (arrN (sendN (thrG (I r)) (I r) (2 * nd)) (2 * nd)) I')) n T I2 R 0 0 142 [(0, .ref r), (1, .ref f), (2, .int (nI i))] [] := by
    have hI3 : INV nr nd np st (sendN (thrG (I r)) (I r) (2 * nd)) := INV_free hI (sendN_fre hI _ (Nat.le_refl _))
    refine z_up (N := 2 * nd) _ ?_ ?_
    · intro I2 h2
      have e1 : I2 r 1 = nI nd := by rw [h2.1, arrN_fre hI3 _ (Nat.le_refl _) _ nf1]; exact hI3.2.1.1
      refine z_iload_n (q := 143) dX8_goesThrough_142 rfl rfl rfl ?_
      refine z_iconst (q := 144) (v := nI 2) dX8_goesThrough_143 (by rfl) rfl ?_
      refine z_aload_n (q := 145) dX8_goesThrough_144 rfl rfl rfl ?_
      refine z_iconst (q := 146) (v := nI 1) dX8_goesThrough_145 (by rfl) rfl ?_
      refine z_ialdV (q := 147) _ (by with_reducible assumption) (rfl) (by omega) (by decide) (e1) dX8_goesThrough_146 rfl ?_
      refine z_imulE (q := 148) dX8_goesThrough_147 (pk_mul _ _) rfl ?_
      refine z_icmpn_ge (rfl) (rfl) (by omega) (by omega) (tgt := 167) (q := 151) dX8_goesThrough_148 (by decide) rfl (fun _ => ?_) (fun hc => absurd hc (by omega))
      exact z_vret rfl dX8_goesThrough_167 (Nat.zero_le _) (Nat.zero_le _) ⟨rfl, rfl, rfl, rfl, h2⟩
    · intro i hi ih I2 h2
      have hI4 : INV nr nd np st (I2 r) := by rw [h2.1]; exact INV_free hI3 (arrN_fre hI3 _ (Nat.le_of_lt hi))
      have e1 : I2 r 1 = nI nd := hI4.2.1.1
      obtain ⟨b, hb, hb8, -⟩ := INV_side hI4 (d := i / 2) (s := 1 - i % 2) (by omega) (by omega)
      refine z_iload_n (q := 143) dX8_goesThrough_142 rfl rfl rfl ?_
      refine z_iconst (q := 144) (v := nI 2) dX8_goesThrough_143 (by rfl) rfl ?_
      refine z_aload_n (q := 145) dX8_goesThrough_144 rfl rfl rfl ?_
      refine z_iconst (q := 146) (v := nI 1) dX8_goesThrough_145 (by rfl) rfl ?_
      refine z_ialdV (q := 147) _ (by with_reducible assumption) (rfl) (by omega) (by decide) (e1) dX8_goesThrough_146 rfl ?_
      refine z_imulE (q := 148) dX8_goesThrough_147 (pk_mul _ _) rfl ?_
      refine z_icmpn_ge (rfl) (rfl) (by omega) (by omega) (tgt := 167) (q := 151) dX8_goesThrough_148 (by decide) rfl (fun hc => absurd hc (by omega)) (fun _ => ?_)
      refine z_aload_n (q := 152) dX8_goesThrough_151 rfl rfl rfl ?_
      refine z_iload_n (q := 153) dX8_goesThrough_152 rfl rfl rfl ?_
      refine z_iconst (q := 154) (v := nI 2) dX8_goesThrough_153 (by rfl) rfl ?_
      refine z_idivE (q := 155) dX8_goesThrough_154 (by decide) (pk_div (by omega) (by decide) (by decide)) rfl ?_
      refine z_iload_n (q := 156) dX8_goesThrough_155 rfl rfl rfl ?_
      refine z_iconst (q := 157) (v := nI 2) dX8_goesThrough_156 (by rfl) rfl ?_
      refine z_iremE (q := 158) dX8_goesThrough_157 (by decide) (pk_rem (by omega) (by decide) (by decide)) rfl ?_
      refine z_invS (q := 161) (c_X8_arrive G r (i / 2) (i % 2) b hT (by omega) (by omega) hb hb8) gX8_goesThrough_X8_arrive rfl hy_X8_arrive rfl rfl rfl rfl (Nat.le_of_ble_eq_true rfl) ⟨Nat.zero_le _, Nat.zero_le _⟩ dX8_goesThrough_158 rfl (z_rnR fun I4 R4 hZ => ?_)
      obtain ⟨rfl, hr1, hr2⟩ := hZ
      refine z_iinc (q := 164) dX8_goesThrough_161 rfl (nI_add _ 1) (by decide) rfl ?_
      refine z_goto (q := 142) dX8_goesThrough_164 (by decide) ?_
      refine ih I4 ⟨?_, fun q hq hf => by rw [hr2 q hq]; exact h2.2 q hq hf⟩
      rw [hr1, h2.1]
      rfl
  have loop2 : ∀ i, i ≤ 2 * nd → ∀ I2, z_row2 I r f (sendN (thrG (I r)) (I r) i) I2 → (∀ k, k < 2 * nd → I2 f k = thrG (I r) k) → ∀ ls : List (Nat × Value), lv_pick ls [0, 1, 2] = [(0, .ref r), (1, .ref f), (2, .int (nI i))] → z_X G muX8_goesThrough (2, 0, 0) (z_rel none n T (fun I' R' => R' = R ∧ z_row2 I r f (arrN (sendN (thrG (I r)) (I r) (2 * nd)) (2 * nd)) I')) n T I2 R 0 0 32 ls [] := by
    refine z_up (N := 2 * nd) _ ?_ ?_
    · intro I2 h2 hfl ls hls
      have hI4 : INV nr nd np st (I2 r) := by rw [h2.1]; exact INV_free hI (sendN_fre hI _ (Nat.le_refl _))
      have e1 : I2 r 1 = nI nd := hI4.2.1.1
      refine z_pick [0, 1, 2] hls ?_
      refine z_iload_n (q := 33) dX8_goesThrough_32 rfl rfl rfl ?_
      refine z_iconst (q := 34) (v := nI 2) dX8_goesThrough_33 (by rfl) rfl ?_
      refine z_aload_n (q := 35) dX8_goesThrough_34 rfl rfl rfl ?_
      refine z_iconst (q := 36) (v := nI 1) dX8_goesThrough_35 (by rfl) rfl ?_
      refine z_ialdV (q := 37) _ (by with_reducible assumption) (rfl) (by omega) (by decide) (e1) dX8_goesThrough_36 rfl ?_
      refine z_imulE (q := 38) dX8_goesThrough_37 (pk_mul _ _) rfl ?_
      refine z_icmpn_ge (rfl) (rfl) (by omega) (by omega) (tgt := 140) (q := 41) dX8_goesThrough_38 (by decide) rfl (fun _ => ?_) (fun hc => absurd hc (by omega))
      refine z_iconst (q := 141) (v := nI 0) dX8_goesThrough_140 (by rfl) rfl ?_
      refine z_istore_n (q := 142) dX8_goesThrough_141 rfl (by decide) rfl ?_
      exact loop3 0 (Nat.zero_le _) I2 h2
    · intro i hi ih I2 h2 hfl ls hls
      have hI4 : INV nr nd np st (I2 r) := by rw [h2.1]; exact INV_free hI (sendN_fre hI _ (Nat.le_of_lt hi))
      have e1 : I2 r 1 = nI nd := hI4.2.1.1
      obtain ⟨a, ha, ha8, -⟩ := INV_side hI4 (d := i / 2) (s := i % 2) (by omega) (by omega)
      obtain ⟨de, hde, hde5⟩ := INV_delay hI4 (d := i / 2) (by omega)
      have hga : gN (I2 r) (57 + 10 * (i / 2) + i % 2) = a := gN_of ha (by omega)
      have hgd : gN (I2 r) (57 + 10 * (i / 2) + 4) = de := gN_of hde (by omega)
      refine z_pick [0, 1, 2] hls ?_
      refine z_iload_n (q := 33) dX8_goesThrough_32 rfl rfl rfl ?_
      refine z_iconst (q := 34) (v := nI 2) dX8_goesThrough_33 (by rfl) rfl ?_
      refine z_aload_n (q := 35) dX8_goesThrough_34 rfl rfl rfl ?_
      refine z_iconst (q := 36) (v := nI 1) dX8_goesThrough_35 (by rfl) rfl ?_
      refine z_ialdV (q := 37) _ (by with_reducible assumption) (rfl) (by omega) (by decide) (e1) dX8_goesThrough_36 rfl ?_
      refine z_imulE (q := 38) dX8_goesThrough_37 (pk_mul _ _) rfl ?_
      refine z_icmpn_ge (rfl) (rfl) (by omega) (by omega) (tgt := 140) (q := 41) dX8_goesThrough_38 (by decide) rfl (fun hc => absurd hc (by omega)) (fun _ => ?_)
      refine z_iload_n (q := 42) dX8_goesThrough_41 rfl rfl rfl ?_
      refine z_iconst (q := 43) (v := nI 2) dX8_goesThrough_42 (by rfl) rfl ?_
      refine z_idivE (q := 44) dX8_goesThrough_43 (by decide) (pk_div (by omega) (by decide) (by decide)) rfl ?_
      refine z_istore_n (q := 45) dX8_goesThrough_44 rfl (by decide) rfl ?_
      refine z_iload_n (q := 46) dX8_goesThrough_45 rfl rfl rfl ?_
      refine z_iconst (q := 47) (v := nI 2) dX8_goesThrough_46 (by rfl) rfl ?_
      refine z_iremE (q := 48) dX8_goesThrough_47 (by decide) (pk_rem (by omega) (by decide) (by decide)) rfl ?_
      refine z_istore (q := 50) dX8_goesThrough_48 (by decide) rfl ?_
      refine z_aload_n (q := 51) dX8_goesThrough_50 rfl rfl rfl ?_
      refine z_iload_n (q := 52) dX8_goesThrough_51 rfl rfl rfl ?_
      refine z_iload (q := 54) (i := 4) dX8_goesThrough_52 rfl rfl ?_
      refine z_invS (q := 57) (c_X8_ofDoor G r (i / 2) (i % 2) hT (by omega)) gX8_goesThrough_X8_ofDoor rfl hy_X8_ofDoor rfl rfl rfl rfl (Nat.le_of_ble_eq_true rfl) ⟨Nat.zero_le _, Nat.zero_le _⟩ dX8_goesThrough_54 rfl (z_rv ?_)
      rw [ha]
      refine z_istore (q := 59) dX8_goesThrough_57 (by decide) rfl ?_
      refine z_iload (q := 61) (i := 5) dX8_goesThrough_59 rfl rfl ?_
      refine z_bipush (q := 63) (v := nI 8) dX8_goesThrough_61 (by rfl) rfl ?_
      have join : ∀ I3, z_row2 I r f (snd1 (thrG (I r)) (I2 r) i) I3 → I3 f = I2 f → z_X G muX8_goesThrough (2, 0, 0) (z_rel none n T (fun I' R' => R' = R ∧ z_row2 I r f (arrN (sendN (thrG (I r)) (I r) (2 * nd)) (2 * nd)) I')) n T I3 R 0 0 84 [(0, .ref r), (1, .ref f), (2, .int (nI i)), (3, .int (nI (i / 2))), (4, .int (nI (i % 2))), (5, .int (nI a))] [] := by
        intro I3 h3 hf3
        have hfv : I3 f i = thrG (I r) i := by rw [hf3]; exact hfl i hi
        have hd4 : I3 r (57 + 10 * (i / 2) + 4) = nI de := by
          rw [h3.1, snd1, hga]
          split
          · exact hde
          · rw [upd_n _ _ (by omega)]; exact hde
        refine z_aload_n (q := 85) dX8_goesThrough_84 rfl rfl rfl ?_
        refine z_bipush (q := 87) (v := nI 57) dX8_goesThrough_85 (by rfl) rfl ?_
        refine z_bipush (q := 89) (v := nI 10) dX8_goesThrough_87 (by rfl) rfl ?_
        refine z_iload_n (q := 90) dX8_goesThrough_89 rfl rfl rfl ?_
        refine z_imulE (q := 91) dX8_goesThrough_90 (pk_mul _ _) rfl ?_
        refine z_iaddE (q := 92) dX8_goesThrough_91 (nI_add _ _) rfl ?_
        refine z_bipush (q := 94) (v := nI 8) dX8_goesThrough_92 (by rfl) rfl ?_
        refine z_iaddE (q := 95) dX8_goesThrough_94 (nI_add _ _) rfl ?_
        refine z_iload (q := 97) (i := 4) dX8_goesThrough_95 rfl rfl ?_
        refine z_iaddE (q := 98) dX8_goesThrough_97 (nI_add _ _) rfl ?_
        refine z_dup2 (q := 99) dX8_goesThrough_98 rfl rfl rfl ?_
        refine z_iald (q := 100) _ (by with_reducible assumption) (rfl) (by omega) (by decide) dX8_goesThrough_99 rfl ?_
        refine z_aload_n (q := 101) dX8_goesThrough_100 rfl rfl rfl ?_
        refine z_iload_n (q := 102) dX8_goesThrough_101 rfl rfl rfl ?_
        refine z_iald (q := 103) _ (by with_reducible assumption) (rfl) (by omega) (by decide) dX8_goesThrough_102 rfl ?_
        refine z_iadd (q := 104) dX8_goesThrough_103 rfl ?_
        refine z_iast (q := 105) _ (by with_reducible assumption) (rfl) (by omega) (by decide) dX8_goesThrough_104 rfl ?_
        rw [hfv]
        have h5 : z_row2 I r f (snd2 (thrG (I r)) (I2 r) i) (zw I3 r (57 + 10 * (i / 2) + 8 + i % 2) (I3 r (57 + 10 * (i / 2) + 8 + i % 2) + thrG (I r) i)) := by
          refine ⟨by rw [zw_upd, h3.1]; rfl, fun q hq hf => ?_⟩
          rw [zw_row _ _ hq]
          exact h3.2 q hq hf
        have hf5 : zw I3 r (57 + 10 * (i / 2) + 8 + i % 2) (I3 r (57 + 10 * (i / 2) + 8 + i % 2) + thrG (I r) i) f = I2 f := by rw [zw_row _ _ (Ne.symm hrf)]; exact hf3
        have hd5 : zw I3 r (57 + 10 * (i / 2) + 8 + i % 2) (I3 r (57 + 10 * (i / 2) + 8 + i % 2) + thrG (I r) i) r (57 + 10 * (i / 2) + 4) = nI de := by rw [zw_k _ _ (by omega)]; exact hd4
        generalize zw I3 r (57 + 10 * (i / 2) + 8 + i % 2) (I3 r (57 + 10 * (i / 2) + 8 + i % 2) + thrG (I r) i) = I5 at h5 hf5 hd5
        have hfv5 : I5 f i = thrG (I r) i := by rw [hf5]; exact hfl i hi
        refine z_aload_n (q := 106) dX8_goesThrough_105 rfl rfl rfl ?_
        refine z_sipush (q := 109) (v := nI 177) dX8_goesThrough_106 (by rfl) rfl ?_
        refine z_bipush (q := 111) (v := nI 12) dX8_goesThrough_109 (by rfl) rfl ?_
        refine z_iload_n (q := 112) dX8_goesThrough_111 rfl rfl rfl ?_
        refine z_imulE (q := 113) dX8_goesThrough_112 (pk_mul _ _) rfl ?_
        refine z_iaddE (q := 114) dX8_goesThrough_113 (nI_add _ _) rfl ?_
        refine z_bipush (q := 116) (v := nI 6) dX8_goesThrough_114 (by rfl) rfl ?_
        refine z_iload (q := 118) (i := 4) dX8_goesThrough_116 rfl rfl ?_
        refine z_imulE (q := 119) dX8_goesThrough_118 (pk_mul _ _) rfl ?_
        refine z_iaddE (q := 120) dX8_goesThrough_119 (nI_add _ _) rfl ?_
        refine z_aload_n (q := 121) dX8_goesThrough_120 rfl rfl rfl ?_
        refine z_iload_n (q := 122) dX8_goesThrough_121 rfl rfl rfl ?_
        refine z_iconst (q := 123) (v := nI 4) dX8_goesThrough_122 (by rfl) rfl ?_
        refine z_invS (q := 126) (c_X8_ofDoor G r (i / 2) 4 hT (by omega)) gX8_goesThrough_X8_ofDoor rfl hy_X8_ofDoor rfl rfl rfl rfl (Nat.le_of_ble_eq_true rfl) ⟨Nat.zero_le _, Nat.zero_le _⟩ dX8_goesThrough_123 rfl (z_rv ?_)
        rw [hd5]
        refine z_iaddE (q := 127) dX8_goesThrough_126 (nI_add _ _) rfl ?_
        refine z_dup2 (q := 128) dX8_goesThrough_127 rfl rfl rfl ?_
        refine z_iald (q := 129) _ (by with_reducible assumption) (rfl) (by omega) (by decide) dX8_goesThrough_128 rfl ?_
        refine z_aload_n (q := 130) dX8_goesThrough_129 rfl rfl rfl ?_
        refine z_iload_n (q := 131) dX8_goesThrough_130 rfl rfl rfl ?_
        refine z_iald (q := 132) _ (by with_reducible assumption) (rfl) (by omega) (by decide) dX8_goesThrough_131 rfl ?_
        refine z_iadd (q := 133) dX8_goesThrough_132 rfl ?_
        rw [hfv5]
        refine z_iast (q := 134) _ (by with_reducible assumption) (rfl) (by omega) (by decide) dX8_goesThrough_133 rfl ?_
        refine z_iinc (q := 137) dX8_goesThrough_134 rfl (nI_add _ 1) (by decide) rfl ?_
        refine z_goto (q := 32) dX8_goesThrough_137 (by decide) ?_
        refine ih _ ⟨?_, fun q hq hf => ?_⟩ (fun k hk => ?_) _ rfl
        · rw [zw_upd, h5.1, sendN, sendR, ← h2.1, hgd]
        · rw [zw_row _ _ hq]
          exact h5.2 q hq hf
        · rw [zw_row _ _ (Ne.symm hrf), hf5]
          exact hfl k hk
      refine z_icmpn_eq (rfl) (rfl) (by omega) (by omega) (tgt := 84) (q := 66) dX8_goesThrough_63 (by decide) rfl (fun h63 => ?_) (fun h63 => ?_)
      · refine join I2 ⟨?_, h2.2⟩ rfl
        rw [snd1, hga, if_pos h63]
      · have hfv : I2 f i = thrG (I r) i := hfl i hi
        refine z_aload_n (q := 67) dX8_goesThrough_66 rfl rfl rfl ?_
        refine z_bipush (q := 69) (v := nI 9) dX8_goesThrough_67 (by rfl) rfl ?_
        refine z_bipush (q := 71) (v := nI 6) dX8_goesThrough_69 (by rfl) rfl ?_
        refine z_iload (q := 73) (i := 5) dX8_goesThrough_71 rfl rfl ?_
        refine z_imulE (q := 74) dX8_goesThrough_73 (pk_mul _ _) rfl ?_
        refine z_iaddE (q := 75) dX8_goesThrough_74 (nI_add _ _) rfl ?_
        refine z_iconst (q := 76) (v := nI 2) dX8_goesThrough_75 (by rfl) rfl ?_
        refine z_iaddE (q := 77) dX8_goesThrough_76 (nI_add _ _) rfl ?_
        refine z_dup2 (q := 78) dX8_goesThrough_77 rfl rfl rfl ?_
        refine z_iald (q := 79) _ (by with_reducible assumption) (rfl) (by omega) (by decide) dX8_goesThrough_78 rfl ?_
        refine z_aload_n (q := 80) dX8_goesThrough_79 rfl rfl rfl ?_
        refine z_iload_n (q := 81) dX8_goesThrough_80 rfl rfl rfl ?_
        refine z_iald (q := 82) _ (by with_reducible assumption) (rfl) (by omega) (by decide) dX8_goesThrough_81 rfl ?_
        rw [hfv]
        refine z_isub (q := 83) dX8_goesThrough_82 rfl ?_
        refine z_iast (q := 84) _ (by with_reducible assumption) (rfl) (by omega) (by decide) dX8_goesThrough_83 rfl ?_
        refine join _ ⟨?_, fun q hq hf => ?_⟩ (zw_row _ _ (Ne.symm hrf))
        · rw [zw_upd, snd1, hga, if_neg h63]
        · rw [zw_row _ _ hq]
          exact h2.2 q hq hf
  have loop1 : ∀ i, i ≤ 2 * nd → ∀ I2, z_row2 I r f (I r) I2 → (∀ k, k < i → I2 f k = thrG (I r) k) → z_X G muX8_goesThrough (2, 0, 0) (z_rel none n T (fun I' R' => R' = R ∧ z_row2 I r f (arrN (sendN (thrG (I r)) (I r) (2 * nd)) (2 * nd)) I')) n T I2 R 0 0 2 [(0, .ref r), (1, .ref f), (2, .int (nI i))] [] := by
    refine z_up (N := 2 * nd) _ ?_ ?_
    · intro I2 h2 hfl
      have e1 : I2 r 1 = nI nd := by rw [h2.1]; exact h1
      refine z_iload_n (q := 3) dX8_goesThrough_2 rfl rfl rfl ?_
      refine z_iconst (q := 4) (v := nI 2) dX8_goesThrough_3 (by rfl) rfl ?_
      refine z_aload_n (q := 5) dX8_goesThrough_4 rfl rfl rfl ?_
      refine z_iconst (q := 6) (v := nI 1) dX8_goesThrough_5 (by rfl) rfl ?_
      refine z_ialdV (q := 7) _ (by with_reducible assumption) (rfl) (by omega) (by decide) (e1) dX8_goesThrough_6 rfl ?_
      refine z_imulE (q := 8) dX8_goesThrough_7 (pk_mul _ _) rfl ?_
      refine z_icmpn_ge (rfl) (rfl) (by omega) (by omega) (tgt := 30) (q := 11) dX8_goesThrough_8 (by decide) rfl (fun _ => ?_) (fun hc => absurd hc (by omega))
      refine z_iconst (q := 31) (v := nI 0) dX8_goesThrough_30 (by rfl) rfl ?_
      refine z_istore_n (q := 32) dX8_goesThrough_31 rfl (by decide) rfl ?_
      exact loop2 0 (Nat.zero_le _) I2 h2 hfl _ rfl
    · intro i hi ih I2 h2 hfl
      have e1 : I2 r 1 = nI nd := by rw [h2.1]; exact h1
      have hI4 : INV nr nd np st (I2 r) := by rw [h2.1]; exact hI
      obtain ⟨a, ha, ha8, hv⟩ := INV_side hI4 (d := i / 2) (s := i % 2) (by omega) (by omega)
      refine z_iload_n (q := 3) dX8_goesThrough_2 rfl rfl rfl ?_
      refine z_iconst (q := 4) (v := nI 2) dX8_goesThrough_3 (by rfl) rfl ?_
      refine z_aload_n (q := 5) dX8_goesThrough_4 rfl rfl rfl ?_
      refine z_iconst (q := 6) (v := nI 1) dX8_goesThrough_5 (by rfl) rfl ?_
      refine z_ialdV (q := 7) _ (by with_reducible assumption) (rfl) (by omega) (by decide) (e1) dX8_goesThrough_6 rfl ?_
      refine z_imulE (q := 8) dX8_goesThrough_7 (pk_mul _ _) rfl ?_
      refine z_icmpn_ge (rfl) (rfl) (by omega) (by omega) (tgt := 30) (q := 11) dX8_goesThrough_8 (by decide) rfl (fun hc => absurd hc (by omega)) (fun _ => ?_)
      refine z_aload_n (q := 12) dX8_goesThrough_11 rfl rfl rfl ?_
      refine z_iload_n (q := 13) dX8_goesThrough_12 rfl rfl rfl ?_
      refine z_aload_n (q := 14) dX8_goesThrough_13 rfl rfl rfl ?_
      refine z_iload_n (q := 15) dX8_goesThrough_14 rfl rfl rfl ?_
      refine z_iconst (q := 16) (v := nI 2) dX8_goesThrough_15 (by rfl) rfl ?_
      refine z_idivE (q := 17) dX8_goesThrough_16 (by decide) (pk_div (by omega) (by decide) (by decide)) rfl ?_
      refine z_iload_n (q := 18) dX8_goesThrough_17 rfl rfl rfl ?_
      refine z_iconst (q := 19) (v := nI 2) dX8_goesThrough_18 (by rfl) rfl ?_
      refine z_iremE (q := 20) dX8_goesThrough_19 (by decide) (pk_rem (by omega) (by decide) (by decide)) rfl ?_
      refine z_invS (q := 23) (c_X8_through G r (i / 2) (i % 2) a hT (by omega) (by omega) ha ha8 (fun h => (hv h).2)) gX8_goesThrough_X8_through rfl hy_X8_through rfl rfl rfl rfl (Nat.le_of_ble_eq_true rfl) ⟨Nat.zero_le _, Nat.zero_le _⟩ dX8_goesThrough_20 rfl (z_rv ?_)
      refine z_iast (q := 24) _ (by with_reducible assumption) (rfl) (by omega) (by decide) dX8_goesThrough_23 rfl ?_
      refine z_iinc (q := 27) dX8_goesThrough_24 rfl (nI_add _ 1) (by decide) rfl ?_
      refine z_goto (q := 2) dX8_goesThrough_27 (by decide) ?_
      refine ih _ ⟨by rw [zw_row _ _ hrf]; exact h2.1, fun q hq hf => ?_⟩ (fun k hk => ?_)
      · rw [zw_row _ _ hf]
        exact h2.2 q hq hf
      · by_cases hki : k = i
        · subst hki
          rw [zw_s, h2.1, thrG]
          rw [h2.1] at ha
          rw [gN_of ha (by omega)]
        · rw [zw_k _ _ hki]
          exact hfl k (by omega)
  exact loop1 0 (Nat.zero_le _) I ⟨rfl, fun _ _ _ => rfl⟩ (fun k hk => absurd hk (by omega))

