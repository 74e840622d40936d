/-! THE CLASS, what a house is asked, more -/
theorem absI_e (x : Int32) : absI x = if 0 ≤ x then x else 0 - x := by
  by_cases h : x < 0
  · rw [absI, if_pos h, if_neg (Int32.not_le.mpr h), Int32.zero_sub]
  · rw [absI, if_neg h, if_pos (Int32.not_lt.mp h)]
def rsC (I : zII) (a nr d : Nat) (t : Int32) : Int32 := if ¬ I (a + 38 + 5 * d) 6 = 0 then nI 1 else if I (a + 38 + 5 * d) 5 = t then nI 2 else if I (a + 38 + 5 * d) 4 < t ∧ I (a + 21) 0 < absI (dnC I a nr (I (a + 38 + 5 * d + 1) 0) - dnC I a nr (I (a + 38 + 5 * d + 1) 1)) then nI 3 else nI 0
set_option maxRecDepth 100000 in
set_option maxHeartbeats 4000000 in
theorem c_X3_reasonToRefuse (G : zG) {n : Nat} {T : zTT} {I : zII} {R : zRR} (a d nr : Nat) (t : Int32) (hH : z_House T R a) (hc4 : I a 4 = nI nr) (hnr : nr ≤ 8) (hd : d < 12) : Ct G yX3_reasonToRefuse wsX3_reasonToRefuse (2, 0, 0) [.ref a, .ref (a + 38 + 5 * d), .int t] n T I R (z_ret (some (.int (rsC I a nr d t))) n T I R) := by
  refine Ct.ofX (M := muX3_reasonToRefuse) (ls := [(0, .ref a), (1, .ref (a + 38 + 5 * d)), (2, .int t)]) (by decide +kernel) rfl (by decide) rfl rfl (Nat.le_of_ble_eq_true rfl) ?_
  have hTa := hH.1
  obtain ⟨hTd, hTs, -, -, -, hRs, -⟩ := (hH.2.2.2.2.2.2.1 d hd).2
  obtain ⟨hTse, hRse⟩ := hH.2.2.2.2.1
  refine z_aload_n (q := 1) dX3_reasonToRefuse_0 rfl rfl rfl ?_
  refine z_getI (q := 4) 0 6 1 34 rfl (by decide) rfl rfl rfl (by with_reducible assumption) dX3_reasonToRefuse_1 rfl ?_
  refine z_if_eq (tgt := 9) (q := 7) dX3_reasonToRefuse_4 (by decide) rfl (fun h4 => ?_) (fun h4 => ?_)
  · refine z_aload_n (q := 10) dX3_reasonToRefuse_9 rfl rfl rfl ?_
    refine z_getI (q := 13) 0 5 2 33 rfl (by decide) rfl rfl rfl (by with_reducible assumption) dX3_reasonToRefuse_10 rfl ?_
    refine z_iload_n (q := 14) dX3_reasonToRefuse_13 rfl rfl rfl ?_
    refine z_icmp_ne (tgt := 19) (q := 17) dX3_reasonToRefuse_14 (by decide) rfl (fun h14 => ?_) (fun h14 => ?_)
    · have no : ¬ (I (a + 38 + 5 * d) 4 < t ∧ I (a + 21) 0 < absI (dnC I a nr (I (a + 38 + 5 * d + 1) 0) - dnC I a nr (I (a + 38 + 5 * d + 1) 1))) → ∀ ls, z_X G muX3_reasonToRefuse (2, 0, 0) (z_ret (some (.int (rsC I a nr d t))) n T I R) n T I R 0 0 64 ls [] := by
        intro h ls
        refine z_iconst (q := 65) (v := nI 0) dX3_reasonToRefuse_64 (by rfl) rfl ?_
        exact z_iret rfl dX3_reasonToRefuse_65 (Nat.zero_le _) (Nat.zero_le _) (⟨by rw [rsC, if_neg (fun z => z h4), if_neg h14, if_neg h], rfl, rfl, rfl, rfl⟩)
      refine z_aload_n (q := 20) dX3_reasonToRefuse_19 rfl rfl rfl ?_
      refine z_aload_n (q := 21) dX3_reasonToRefuse_20 rfl rfl rfl ?_
      refine z_getR (q := 24) 0 0 3 28 rfl (by decide) rfl rfl rfl (by with_reducible assumption) (by with_reducible assumption) dX3_reasonToRefuse_21 rfl ?_
      refine z_iconst (q := 25) (v := nI 0) dX3_reasonToRefuse_24 (by rfl) rfl ?_
      refine z_iald (q := 26) _ (by with_reducible assumption) (rfl) (by omega) (by decide) dX3_reasonToRefuse_25 rfl ?_
      refine z_invV (q := 29) (c_X3_densityAt G a nr _ hH hc4 hnr) (by with_reducible assumption) rfl gX3_reasonToRefuse_X3_densityAt rfl hy_X3_densityAt rfl rfl rfl rfl (Nat.le_of_ble_eq_true rfl) ⟨Nat.zero_le _, Nat.zero_le _⟩ dX3_reasonToRefuse_26 rfl (z_rv ?_)
      refine z_aload_n (q := 30) dX3_reasonToRefuse_29 rfl rfl rfl ?_
      refine z_aload_n (q := 31) dX3_reasonToRefuse_30 rfl rfl rfl ?_
      refine z_getR (q := 34) 0 0 3 28 rfl (by decide) rfl rfl rfl (by with_reducible assumption) (by with_reducible assumption) dX3_reasonToRefuse_31 rfl ?_
      refine z_iconst (q := 35) (v := nI 1) dX3_reasonToRefuse_34 (by rfl) rfl ?_
      refine z_iald (q := 36) _ (by with_reducible assumption) (rfl) (by omega) (by decide) dX3_reasonToRefuse_35 rfl ?_
      refine z_invV (q := 39) (c_X3_densityAt G a nr _ hH hc4 hnr) (by with_reducible assumption) rfl gX3_reasonToRefuse_X3_densityAt rfl hy_X3_densityAt rfl rfl rfl rfl (Nat.le_of_ble_eq_true rfl) ⟨Nat.zero_le _, Nat.zero_le _⟩ dX3_reasonToRefuse_36 rfl (z_rv ?_)
      refine z_isub (q := 40) dX3_reasonToRefuse_39 rfl ?_
      refine z_abs (q := 43) (i := 4) (j := 5) (l := 6) (o := 7) rfl rfl rfl rfl rfl (Nat.le_of_ble_eq_true rfl) ⟨Nat.zero_le _, Nat.zero_le _⟩ dX3_reasonToRefuse_40 rfl ?_
      rw [← absI_e]
      refine z_istore_n (q := 44) dX3_reasonToRefuse_43 rfl (by decide) rfl ?_
      refine z_iload_n (q := 45) dX3_reasonToRefuse_44 rfl rfl rfl ?_
      refine z_aload_n (q := 46) dX3_reasonToRefuse_45 rfl rfl rfl ?_
      refine z_getI (q := 49) 0 4 8 32 rfl (by decide) rfl rfl rfl (by with_reducible assumption) dX3_reasonToRefuse_46 rfl ?_
      refine z_icmp_le (tgt := 64) (q := 52) dX3_reasonToRefuse_49 (by decide) rfl (fun h49 => ?_) (fun h49 => ?_)
      · exact no (fun z => absurd z.1 (Int32.not_lt.mpr h49)) _
      · refine z_iload_n (q := 53) dX3_reasonToRefuse_52 rfl rfl rfl ?_
        refine z_aload_n (q := 54) dX3_reasonToRefuse_53 rfl rfl rfl ?_
        refine z_getR (q := 57) 3 3 9 41 rfl (by decide) rfl rfl rfl (by with_reducible assumption) (by with_reducible assumption) dX3_reasonToRefuse_54 rfl ?_
        refine z_iconst (q := 58) (v := nI 0) dX3_reasonToRefuse_57 (by rfl) rfl ?_
        refine z_iald (q := 59) _ (by with_reducible assumption) (rfl) (by omega) (by decide) dX3_reasonToRefuse_58 rfl ?_
        refine z_icmp_le (tgt := 64) (q := 62) dX3_reasonToRefuse_59 (by decide) rfl (fun h59 => ?_) (fun h59 => ?_)
        · exact no (fun z => absurd z.2 (Int32.not_lt.mpr h59)) _
        · refine z_iconst (q := 63) (v := nI 3) dX3_reasonToRefuse_62 (by rfl) rfl ?_
          exact z_iret rfl dX3_reasonToRefuse_63 (Nat.zero_le _) (Nat.zero_le _) (⟨by rw [rsC, if_neg (fun z => z h4), if_neg h14, if_pos ⟨Int32.not_le.mp h49, Int32.not_le.mp h59⟩], rfl, rfl, rfl, rfl⟩)
    · refine z_iconst (q := 18) (v := nI 2) dX3_reasonToRefuse_17 (by rfl) rfl ?_
      exact z_iret rfl dX3_reasonToRefuse_18 (Nat.zero_le _) (Nat.zero_le _) (⟨by rw [rsC, if_neg (fun z => z h4), if_pos h14], rfl, rfl, rfl, rfl⟩)
  · refine z_iconst (q := 8) (v := nI 1) dX3_reasonToRefuse_7 (by rfl) rfl ?_
    exact z_iret rfl dX3_reasonToRefuse_8 (Nat.zero_le _) (Nat.zero_le _) (⟨by rw [rsC, if_pos h4], rfl, rfl, rfl, rfl⟩)
def wgC (I : zII) (a nr d s : Nat) : Int32 := if I (a + 38 + 5 * d + 1) s < 0 ∨ nI nr ≤ I (a + 38 + 5 * d + 1) s then 0 else ((I (a + 22 + 2 * (I (a + 38 + 5 * d + 1) s).toNatClampNeg) 2).toInt64 * (I (a + 38 + 5 * d) 1).toInt64 * (I (a + 38 + 5 * d) 4).toInt64 / (10 * (I (a + 22 + 2 * (I (a + 38 + 5 * d + 1) s).toNatClampNeg) 0).toInt64)).toInt32
set_option maxRecDepth 100000 in
set_option maxHeartbeats 4000000 in
theorem c_X3_wouldGo (G : zG) {n : Nat} {T : zTT} {I : zII} {R : zRR} (a d s nr : Nat) (hH : z_House T R a) (hc4 : I a 4 = nI nr) (hnr : nr ≤ 8) (hd : d < 12) (hs : s < 2) (hv : ∀ r, r < nr → ∃ v, I (a + 22 + 2 * r) 0 = nI v ∧ 10 ≤ v ∧ v ≤ 10000) : Ct G yX3_wouldGo wsX3_wouldGo (1, 0, 0) [.ref a, .ref (a + 38 + 5 * d), .int (nI s)] n T I R (z_ret (some (.int (wgC I a nr d s))) n T I R) := by
  refine Ct.ofX (M := muX3_wouldGo) (ls := [(0, .ref a), (1, .ref (a + 38 + 5 * d)), (2, .int (nI s))]) (by decide +kernel) rfl (by decide) rfl rfl (Nat.le_of_ble_eq_true rfl) ?_
  have hTa := hH.1
  obtain ⟨hTd, hTs, -, -, -, hRs, -⟩ := (hH.2.2.2.2.2.2.1 d hd).2
  have tail : z_X G muX3_wouldGo (1, 0, 0) (z_ret (some (.int (wgC I a nr d s))) n T I R) n T I R 0 0 20 [(0, .ref a), (1, .ref (a + 38 + 5 * d)), (2, .int (nI s))] [.int (I (a + 38 + 5 * d + 1) s), .ref a] := by
    by_cases hx : I (a + 38 + 5 * d + 1) s < 0 ∨ nI nr ≤ I (a + 38 + 5 * d + 1) s
    · refine z_invV (q := 23) (c_X3_roomAt_n G a nr _ hH hc4 hx) (by with_reducible assumption) rfl gX3_wouldGo_X3_roomAt rfl hy_X3_roomAt rfl rfl rfl rfl (Nat.le_of_ble_eq_true rfl) ⟨Nat.zero_le _, Nat.zero_le _⟩ dX3_wouldGo_20 rfl (z_rv ?_)
      refine z_astore_nN (q := 24) dX3_wouldGo_23 rfl (by decide) rfl ?_
      refine z_aload_nN (q := 25) dX3_wouldGo_24 rfl rfl rfl ?_
      refine z_ifnonnullN (q := 28) dX3_wouldGo_25 rfl ?_
      refine z_iconst (q := 29) (v := nI 0) dX3_wouldGo_28 (by rfl) rfl ?_
      refine z_goto (q := 37) dX3_wouldGo_29 (by decide) ?_
      exact z_iret rfl dX3_wouldGo_37 (Nat.zero_le _) (Nat.zero_le _) (⟨by rw [wgC, if_pos hx]; rfl, rfl, rfl, rfl, rfl⟩)
    · obtain ⟨k, hk, hke⟩ : ∃ k, k < nr ∧ I (a + 38 + 5 * d + 1) s = nI k := by
        rcases pk_ix (I (a + 38 + 5 * d + 1) s) (n := nr) (by omega) with h | h | h
        · exact absurd (Or.inl h) hx
        · exact absurd (Or.inr h) hx
        · exact h
      have hRm := (hH.2.2.2.2.2.1 k (by omega)).2
      have hTk := hRm.1
      obtain ⟨v, v0, v1, v2⟩ := hv k hk
      rw [wgC, if_neg hx, hke, nI_clamp (by omega)]
      refine z_invV (q := 23) (c_X3_roomAt_s G a k nr hH hc4 hk hnr) (by with_reducible assumption) rfl gX3_wouldGo_X3_roomAt rfl hy_X3_roomAt rfl rfl rfl rfl (Nat.le_of_ble_eq_true rfl) ⟨Nat.zero_le _, Nat.zero_le _⟩ dX3_wouldGo_20 rfl (z_rv ?_)
      refine z_astore_n (q := 24) dX3_wouldGo_23 rfl (by decide) rfl ?_
      refine z_aload_n (q := 25) dX3_wouldGo_24 rfl rfl rfl ?_
      refine z_ifnonnull (q := 32) dX3_wouldGo_25 (by decide) ?_
      refine z_aload_n (q := 33) dX3_wouldGo_32 rfl rfl rfl ?_
      refine z_aload_n (q := 34) dX3_wouldGo_33 rfl rfl rfl ?_
      refine z_invV (q := 37) (c_X5_shareThrough G (a + 22 + 2 * k) (a + 38 + 5 * d) v hRm hTd v0 v1 v2) (by with_reducible assumption) rfl gX3_wouldGo_X5_shareThrough rfl hy_X5_shareThrough rfl rfl rfl rfl (Nat.le_of_ble_eq_true rfl) ⟨Nat.zero_le _, Nat.zero_le _⟩ dX3_wouldGo_34 rfl (z_rv ?_)
      exact z_iret rfl dX3_wouldGo_37 (Nat.zero_le _) (Nat.zero_le _) (⟨rfl, rfl, rfl, rfl, rfl⟩)
  refine z_aload_n (q := 1) dX3_wouldGo_0 rfl rfl rfl ?_
  refine z_iload_n (q := 2) dX3_wouldGo_1 rfl rfl rfl ?_
  rcases (show s = 0 ∨ s = 1 by omega) with rfl | rfl
  · refine z_if_ne (tgt := 14) (q := 5) dX3_wouldGo_2 (by decide) rfl (fun hc => False.elim (hc rfl)) (fun _ => ?_)
    refine z_aload_n (q := 6) dX3_wouldGo_5 rfl rfl rfl ?_
    refine z_getR (q := 9) 0 0 1 19 rfl (by decide) rfl rfl rfl (by with_reducible assumption) (by with_reducible assumption) dX3_wouldGo_6 rfl ?_
    refine z_iconst (q := 10) (v := nI 0) dX3_wouldGo_9 (by rfl) rfl ?_
    refine z_iald (q := 11) _ (by with_reducible assumption) (rfl) (by omega) (by decide) dX3_wouldGo_10 rfl ?_
    refine z_goto (q := 20) dX3_wouldGo_11 (by decide) ?_
    exact tail
  · refine z_if_ne (tgt := 14) (q := 5) dX3_wouldGo_2 (by decide) rfl (fun _ => ?_) (fun hc => False.elim (absurd hc (by decide)))
    refine z_aload_n (q := 15) dX3_wouldGo_14 rfl rfl rfl ?_
    refine z_getR (q := 18) 0 0 1 19 rfl (by decide) rfl rfl rfl (by with_reducible assumption) (by with_reducible assumption) dX3_wouldGo_15 rfl ?_
    refine z_iconst (q := 19) (v := nI 1) dX3_wouldGo_18 (by rfl) rfl ?_
    refine z_iald (q := 20) _ (by with_reducible assumption) (rfl) (by omega) (by decide) dX3_wouldGo_19 rfl ?_
    exact tail
/-! THE CLASS, a house changes -/
set_option maxRecDepth 100000 in
set_option maxHeartbeats 4000000 in
theorem c_X3_addRoom (G : zG) {n : Nat} {T : zTT} {I : zII} {R : zRR} (a nr : Nat) (v ab : Int32) (hH : z_House T R a) (hc4 : I a 4 = nI nr) (hnr : nr < 8) : Ct G yX3_addRoom wsX3_addRoom (1, 0, 0) [.ref a, .int v, .int ab] n T I R (z_ret (some (.int (nI nr))) n T (zw (zw (zw (zw I (a + 22 + 2 * nr) 0 v) (a + 22 + 2 * nr) 1 ab) (a + 22 + 2 * nr) 5 (I a 6)) a 4 (nI (nr + 1))) R) := by
  refine Ct.ofX (M := muX3_addRoom) (ls := [(0, .ref a), (1, .int v), (2, .int ab)]) (by decide +kernel) rfl (by decide) rfl rfl (Nat.le_of_ble_eq_true rfl) ?_
  have hTa := hH.1
  obtain ⟨hTr, hRr⟩ := hH.2.1
  obtain ⟨hRk, hRm⟩ := hH.2.2.2.2.2.1 nr hnr
  have hTk := hRm.1
  refine z_aload_n (q := 1) dX3_addRoom_0 rfl rfl rfl ?_
  refine z_getV (q := 4) 3 4 1 16 rfl (by decide) rfl rfl rfl (by with_reducible assumption) (hc4) dX3_addRoom_1 rfl ?_
  refine z_if_lt (tgt := 19) (q := 7) dX3_addRoom_4 (by decide) rfl (fun hc => False.elim (nI_pos (n := nr) (by omega) hc)) (fun _ => ?_)
  refine z_aload_n (q := 8) dX3_addRoom_7 rfl rfl rfl ?_
  refine z_getV (q := 11) 3 4 1 16 rfl (by decide) rfl rfl rfl (by with_reducible assumption) (hc4) dX3_addRoom_8 rfl ?_
  refine z_aload_n (q := 12) dX3_addRoom_11 rfl rfl rfl ?_
  refine z_getR (q := 15) 3 0 2 12 rfl (by decide) rfl rfl rfl (by with_reducible assumption) (by with_reducible assumption) dX3_addRoom_12 rfl ?_
  refine z_alen (q := 16) (by with_reducible assumption) dX3_addRoom_15 rfl ?_
  refine z_icmpn_lt (rfl) (rfl) (by omega) (by omega) (tgt := 22) (q := 19) dX3_addRoom_16 (by decide) rfl (fun _ => ?_) (fun hc => absurd hc (by omega))
  refine z_aload_n (q := 23) dX3_addRoom_22 rfl rfl rfl ?_
  refine z_getR (q := 26) 3 0 2 12 rfl (by decide) rfl rfl rfl (by with_reducible assumption) (by with_reducible assumption) dX3_addRoom_23 rfl ?_
  refine z_aload_n (q := 27) dX3_addRoom_26 rfl rfl rfl ?_
  refine z_getV (q := 30) 3 4 1 16 rfl (by decide) rfl rfl rfl (by with_reducible assumption) (hc4) dX3_addRoom_27 rfl ?_
  refine z_aald (q := 31) _ (by with_reducible assumption) (rfl) (by omega) (by decide) (by with_reducible assumption) dX3_addRoom_30 rfl ?_
  refine z_iload_n (q := 32) dX3_addRoom_31 rfl rfl rfl ?_
  refine z_iload_n (q := 33) dX3_addRoom_32 rfl rfl rfl ?_
  refine z_aload_n (q := 34) dX3_addRoom_33 rfl rfl rfl ?_
  refine z_getI (q := 37) 3 6 3 18 rfl (by decide) rfl rfl rfl (by with_reducible assumption) dX3_addRoom_34 rfl ?_
  refine z_invV (q := 40) (c_X5_begin G (a + 22 + 2 * nr) v ab (I a 6) hRm) (by with_reducible assumption) rfl gX3_addRoom_X5_begin rfl hy_X5_begin rfl rfl rfl rfl (Nat.le_of_ble_eq_true rfl) ⟨Nat.zero_le _, Nat.zero_le _⟩ dX3_addRoom_37 rfl (z_rn ?_)
  have e4 : zw (zw (zw I (a + 22 + 2 * nr) 0 v) (a + 22 + 2 * nr) 1 ab) (a + 22 + 2 * nr) 5 (I a 6) a 4 = nI nr := by
    rw [zw_row _ _ (by omega), zw_row _ _ (by omega), zw_row _ _ (by omega)]
    exact hc4
  refine z_aload_n (q := 41) dX3_addRoom_40 rfl rfl rfl ?_
  refine z_dup (q := 42) dX3_addRoom_41 rfl rfl ?_
  refine z_getV (q := 45) 3 4 1 16 rfl (by decide) rfl rfl rfl (by with_reducible assumption) (e4) dX3_addRoom_42 rfl ?_
  refine z_dup_x1 (q := 46) dX3_addRoom_45 rfl rfl rfl ?_
  refine z_iconst (q := 47) (v := nI 1) dX3_addRoom_46 (by rfl) rfl ?_
  refine z_iaddE (q := 48) dX3_addRoom_47 (nI_add _ _) rfl ?_
  refine z_put (q := 51) 3 4 1 16 rfl (by decide) rfl rfl (tyX3_ok 4 (by decide)) (rfl) (rfl) rfl (by with_reducible assumption) dX3_addRoom_48 rfl ?_
  exact z_iret rfl dX3_addRoom_51 (Nat.zero_le _) (Nat.zero_le _) (⟨rfl, rfl, rfl, rfl, rfl⟩)
set_option maxRecDepth 100000 in
set_option maxHeartbeats 4000000 in
theorem c_X3_addDoor (G : zG) {n : Nat} {T : zTT} {I : zII} {R : zRR} (a nd : Nat) (x1 x2 x3 x4 x5 : Int32) (hH : z_House T R a) (hc5 : I a 5 = nI nd) (hnd : nd < 12) : Ct G yX3_addDoor wsX3_addDoor (1, 0, 0) [.ref a, .int x1, .int x2, .int x3, .int x4, .int x5] n T I R (z_ret (some (.int (nI nd))) n T (zw (zw (zw (zw (zw (zw I (a + 38 + 5 * nd + 1) 0 x1) (a + 38 + 5 * nd + 1) 1 x2) (a + 38 + 5 * nd) 1 x3) (a + 38 + 5 * nd) 2 x4) (a + 38 + 5 * nd) 3 x5) a 5 (nI (nd + 1))) R) := by
  refine Ct.ofX (M := muX3_addDoor) (ls := [(0, .ref a), (1, .int x1), (2, .int x2), (3, .int x3), (4, .int x4), (5, .int x5)]) (by decide +kernel) rfl (by decide) rfl rfl (Nat.le_of_ble_eq_true rfl) ?_
  have hTa := hH.1
  obtain ⟨hTr, hRr⟩ := hH.2.2.1
  obtain ⟨hRk, hRm⟩ := hH.2.2.2.2.2.2.1 nd hnd
  have hTk := hRm.1
  refine z_aload_n (q := 1) dX3_addDoor_0 rfl rfl rfl ?_
  refine z_getV (q := 4) 3 5 1 17 rfl (by decide) rfl rfl rfl (by with_reducible assumption) (hc5) dX3_addDoor_1 rfl ?_
  refine z_if_lt (tgt := 19) (q := 7) dX3_addDoor_4 (by decide) rfl (fun hc => False.elim (nI_pos (n := nd) (by omega) hc)) (fun _ => ?_)
  refine z_aload_n (q := 8) dX3_addDoor_7 rfl rfl rfl ?_
  refine z_getV (q := 11) 3 5 1 17 rfl (by decide) rfl rfl rfl (by with_reducible assumption) (hc5) dX3_addDoor_8 rfl ?_
  refine z_aload_n (q := 12) dX3_addDoor_11 rfl rfl rfl ?_
  refine z_getR (q := 15) 3 1 2 13 rfl (by decide) rfl rfl rfl (by with_reducible assumption) (by with_reducible assumption) dX3_addDoor_12 rfl ?_
  refine z_alen (q := 16) (by with_reducible assumption) dX3_addDoor_15 rfl ?_
  refine z_icmpn_lt (rfl) (rfl) (by omega) (by omega) (tgt := 22) (q := 19) dX3_addDoor_16 (by decide) rfl (fun _ => ?_) (fun hc => absurd hc (by omega))
  refine z_aload_n (q := 23) dX3_addDoor_22 rfl rfl rfl ?_
  refine z_getR (q := 26) 3 1 2 13 rfl (by decide) rfl rfl rfl (by with_reducible assumption) (by with_reducible assumption) dX3_addDoor_23 rfl ?_
  refine z_aload_n (q := 27) dX3_addDoor_26 rfl rfl rfl ?_
  refine z_getV (q := 30) 3 5 1 17 rfl (by decide) rfl rfl rfl (by with_reducible assumption) (hc5) dX3_addDoor_27 rfl ?_
  refine z_aald (q := 31) _ (by with_reducible assumption) (rfl) (by omega) (by decide) (by with_reducible assumption) dX3_addDoor_30 rfl ?_
  refine z_astore (q := 33) dX3_addDoor_31 (by decide) rfl ?_
  refine z_aload (q := 35) dX3_addDoor_33 rfl rfl ?_
  refine z_iload_n (q := 36) dX3_addDoor_35 rfl rfl rfl ?_
  refine z_iload_n (q := 37) dX3_addDoor_36 rfl rfl rfl ?_
  refine z_iload_n (q := 38) dX3_addDoor_37 rfl rfl rfl ?_
  refine z_iload (q := 40) (i := 4) dX3_addDoor_38 rfl rfl ?_
  refine z_iload (q := 42) (i := 5) dX3_addDoor_40 rfl rfl ?_
  refine z_invV (q := 45) (c_X0_begin G (a + 38 + 5 * nd) x1 x2 x3 x4 x5 hRm) (by with_reducible assumption) rfl gX3_addDoor_X0_begin rfl hy_X0_begin rfl rfl rfl rfl (Nat.le_of_ble_eq_true rfl) ⟨Nat.zero_le _, Nat.zero_le _⟩ dX3_addDoor_42 rfl (z_rn ?_)
  have e4 : zw (zw (zw (zw (zw I (a + 38 + 5 * nd + 1) 0 x1) (a + 38 + 5 * nd + 1) 1 x2) (a + 38 + 5 * nd) 1 x3) (a + 38 + 5 * nd) 2 x4) (a + 38 + 5 * nd) 3 x5 a 5 = nI nd := by
    rw [zw_row _ _ (by omega), zw_row _ _ (by omega), zw_row _ _ (by omega), zw_row _ _ (by omega), zw_row _ _ (by omega)]
    exact hc5
  refine z_aload_n (q := 46) dX3_addDoor_45 rfl rfl rfl ?_
  refine z_dup (q := 47) dX3_addDoor_46 rfl rfl ?_
  refine z_getV (q := 50) 3 5 1 17 rfl (by decide) rfl rfl rfl (by with_reducible assumption) (e4) dX3_addDoor_47 rfl ?_
  refine z_dup_x1 (q := 51) dX3_addDoor_50 rfl rfl rfl ?_
  refine z_iconst (q := 52) (v := nI 1) dX3_addDoor_51 (by rfl) rfl ?_
  refine z_iaddE (q := 53) dX3_addDoor_52 (nI_add _ _) rfl ?_
  refine z_put (q := 56) 3 5 1 17 rfl (by decide) rfl rfl (tyX3_ok 5 (by decide)) (rfl) (rfl) rfl (by with_reducible assumption) dX3_addDoor_53 rfl ?_
  exact z_iret rfl dX3_addDoor_56 (Nat.zero_le _) (Nat.zero_le _) (⟨rfl, rfl, rfl, rfl, rfl⟩)
def eaC (e : zE) : Int32 := if e.2.1 = nI 0 then e.2.2.2.1 * e.2.2.2.2 else 0
set_option maxRecDepth 100000 in
set_option maxHeartbeats 4000000 in
theorem c_X3_take (G : zG) {n : Nat} {T : zTT} {I : zII} {R : zRR} (a np b pos : Nat) (F : Nat → zE) (hH : z_House T R a) (hP : z_P T I R (a + 3) np F) (hnp : np < 16) (hb : b < a ∨ a + 98 ≤ b) (hTb : T b = some (.inl 1)) (hb01 : I b 0 = 0 ∨ I b 0 = 1) (hpos : pos ≤ np) (h1 : ∀ j, pos ≤ j → j < np → I b 1 < (F j).1) (h2 : 0 < pos → ¬ I b 1 < (F (pos - 1)).1) : Ct G yX3_take wsX3_take (2, 0, 0) [.ref a, .ref b] n T I R (z_rel none n T (fun I' R' => z_P T I' R' (a + 3) (np + 1) (insF F pos (entC I b)) ∧ I' a = upd (I a) 8 (I a 8 + eaC (entC I b)) ∧ (∀ q, q ≠ a → q < a + 3 ∨ a + 21 ≤ q → I' q = I q) ∧ ∀ q, q ≠ a + 4 → R' q = R q)) := by
  refine Ct.ofX (M := muX3_take) (ls := [(0, .ref a), (1, .ref b)]) (by decide +kernel) rfl (by decide) rfl rfl (Nat.le_of_ble_eq_true rfl) ?_
  have hTa := hH.1
  have hTp := hP.1.1
  have hRp := hH.2.2.2.1
  refine z_aload_n (q := 1) dX3_take_0 rfl rfl rfl ?_
  refine z_getR (q := 4) 3 2 1 27 rfl (by decide) rfl rfl rfl (by with_reducible assumption) (by with_reducible assumption) dX3_take_1 rfl ?_
  refine z_aload_n (q := 5) dX3_take_4 rfl rfl rfl ?_
  refine z_invV (q := 8) (c_X4_insert G (a + 3) np b pos F hP hnp (by omega) hTb hb01 hpos h1 h2) (by with_reducible assumption) rfl gX3_take_X4_insert rfl hy_X4_insert rfl rfl rfl rfl (Nat.le_of_ble_eq_true rfl) ⟨Nat.zero_le _, Nat.zero_le _⟩ dX3_take_5 rfl (z_rnR fun I3 R3 hZ3 => ?_)
  obtain ⟨h3, f1, f2⟩ := hZ3
  have eb : I3 b = I b := f1 b (by omega)
  have ea : I3 a = I a := f1 a (by omega)
  refine z_aload_n (q := 9) dX3_take_8 rfl rfl rfl ?_
  refine z_dup (q := 10) dX3_take_9 rfl rfl ?_
  refine z_getI (q := 13) 3 8 2 33 rfl (by decide) rfl rfl rfl (by with_reducible assumption) dX3_take_10 rfl ?_
  refine z_aload_n (q := 14) dX3_take_13 rfl rfl rfl ?_
  refine z_invV (q := 17) (c_X1_allEnergy G b hTb) (by with_reducible assumption) rfl gX3_take_X1_allEnergy rfl hy_X1_allEnergy rfl rfl rfl rfl (Nat.le_of_ble_eq_true rfl) ⟨Nat.zero_le _, Nat.zero_le _⟩ dX3_take_14 rfl (z_rv ?_)
  have hv : (if I3 b 0 = 0 then (0 : Int32) else I3 b 3 * I3 b 4) = eaC (entC I b) := by
    rw [eb, eaC]
    by_cases h : I b 0 = 0
    · rw [if_pos h, if_neg (fun z => z_e01.mp z h)]
    · rw [if_neg h, if_pos (z_e01.mpr h)]
      rfl
  rw [hv, ea]
  refine z_iadd (q := 18) dX3_take_17 rfl ?_
  refine z_put (q := 21) 3 8 2 33 rfl (by decide) rfl rfl (tyX3_ok 8 (by decide)) (rfl) (rfl) rfl (by with_reducible assumption) dX3_take_18 rfl ?_
  refine z_vret rfl dX3_take_21 (Nat.zero_le _) (Nat.zero_le _) ⟨rfl, rfl, rfl, ?_, ?_, fun q q1 q2 => by rw [zw_row _ _ q1]; exact f1 q (by omega), f2⟩
  · obtain ⟨p1, p2, p3, p4, p5, p6⟩ := h3
    have hrow : ∀ k v, k < 16 → zw I3 a 8 v (eAt R3 (a + 3) k) = I3 (eAt R3 (a + 3) k) := fun k v hk => zw_row _ _ (by have := (p2.1 k hk).2.1; omega)
    refine ⟨p1, p2, p3, by rw [zw_row _ _ (by omega)]; exact p4, fun k hk => by rw [hrow k _ hk]; exact p5 k hk, fun k hk => ?_⟩
    rw [← p6 k hk]
    unfold entC
    rw [hrow k _ (by omega)]
  · rw [zw_upd, ea]


