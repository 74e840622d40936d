/-! THE REFERENCE, reading: its cell m, its rows at m+1 (s), m+2 (w), m+3 (past), m+4 (text), m+5 (flows), m+6 (far), m+7 (told) -/
def z_Mod (T : zTT) (R : zRR) (m : Nat) : Prop := T m = some (.inl 8) ∧ (T (m + 1) = some (.inr (.int, 657)) ∧ R m 0 = some (m + 1)) ∧ (T (m + 2) = some (.inr (.int, 657)) ∧ R m 1 = some (m + 2)) ∧ (T (m + 3) = some (.inr (.int, 2628)) ∧ R m 2 = some (m + 3)) ∧ (T (m + 4) = some (.inr (.int, 80)) ∧ R m 4 = some (m + 4)) ∧ (T (m + 5) = some (.inr (.int, 24)) ∧ R m 6 = some (m + 5)) ∧ (T (m + 6) = some (.inr (.int, 9)) ∧ R m 7 = some (m + 6)) ∧ (T (m + 7) = some (.inr (.int, 4)) ∧ R m 9 = some (m + 7))
set_option maxRecDepth 100000 in
set_option maxHeartbeats 4000000 in
theorem c_X8_in (G : zG) {n : Nat} {T : zTT} {I : zII} {R : zRR} (x y z : Int32) : Ct G yX8_in wsX8_in (0, 0, 0) [.int x, .int y, .int z] n T I R (z_ret (some (.int (if x < y ∨ z < x then 0 else 1))) n T I R) := by
  refine Ct.ofX (M := muX8_in) (ls := [(0, .int x), (1, .int y), (2, .int z)]) (by decide +kernel) rfl (by decide) rfl rfl (Nat.le_of_ble_eq_true rfl) ?_
  refine z_iload_n (q := 1) dX8_in_0 rfl rfl rfl ?_
  refine z_iload_n (q := 2) dX8_in_1 rfl rfl rfl ?_
  refine z_icmp_lt (tgt := 14) (q := 5) dX8_in_2 (by decide) rfl (fun h2 => ?_) (fun h2 => ?_)
  · refine z_iconst (q := 15) (v := nI 0) dX8_in_14 (by rfl) rfl ?_
    exact z_zret rfl (by rfl) dX8_in_15 (Nat.zero_le _) (Nat.zero_le _) (⟨by simp_all [nI_0, zI1], rfl, rfl, rfl, rfl⟩)
  · refine z_iload_n (q := 6) dX8_in_5 rfl rfl rfl ?_
    refine z_iload_n (q := 7) dX8_in_6 rfl rfl rfl ?_
    refine z_icmp_gt (tgt := 14) (q := 10) dX8_in_7 (by decide) rfl (fun h7 => ?_) (fun h7 => ?_)
    · refine z_iconst (q := 15) (v := nI 0) dX8_in_14 (by rfl) rfl ?_
      exact z_zret rfl (by rfl) dX8_in_15 (Nat.zero_le _) (Nat.zero_le _) (⟨by simp_all [nI_0, zI1], rfl, rfl, rfl, rfl⟩)
    · refine z_iconst (q := 11) (v := nI 1) dX8_in_10 (by rfl) rfl ?_
      refine z_goto (q := 15) dX8_in_11 (by decide) ?_
      exact z_zret rfl (by rfl) dX8_in_15 (Nat.zero_le _) (Nat.zero_le _) (⟨by simp_all [nI_0, zI1], rfl, rfl, rfl, rfl⟩)
set_option maxRecDepth 100000 in
set_option maxHeartbeats 4000000 in
theorem c_X8_isRoom (G : zG) {n : Nat} {T : zTT} {I : zII} {R : zRR} (m : Nat) (x : Int32) (hM : z_Mod T R m) : Ct G yX8_isRoom wsX8_isRoom (0, 0, 0) [.ref m, .int x] n T I R (z_ret (some (.int (if x < 0 ∨ I (m + 1) 0 ≤ x then 0 else 1))) n T I R) := by
  refine Ct.ofX (M := muX8_isRoom) (ls := [(0, .ref m), (1, .int x)]) (by decide +kernel) rfl (by decide) rfl rfl (Nat.le_of_ble_eq_true rfl) ?_
  obtain ⟨hT, ⟨hT1, hR0⟩, -⟩ := hM
  refine z_iload_n (q := 1) dX8_isRoom_0 rfl rfl rfl ?_
  refine z_if_lt (tgt := 18) (q := 4) dX8_isRoom_1 (by decide) rfl (fun h1 => ?_) (fun h1 => ?_)
  · refine z_iconst (q := 19) (v := nI 0) dX8_isRoom_18 (by rfl) rfl ?_
    exact z_zret rfl (by rfl) dX8_isRoom_19 (Nat.zero_le _) (Nat.zero_le _) (⟨by simp_all [nI_0, zI1], rfl, rfl, rfl, rfl⟩)
  · refine z_iload_n (q := 5) dX8_isRoom_4 rfl rfl rfl ?_
    refine z_aload_n (q := 6) dX8_isRoom_5 rfl rfl rfl ?_
    refine z_getR (q := 9) 8 0 1 2 rfl (by decide) rfl rfl rfl (by with_reducible assumption) (by with_reducible assumption) dX8_isRoom_6 rfl ?_
    refine z_iconst (q := 10) (v := nI 0) dX8_isRoom_9 (by rfl) rfl ?_
    refine z_iald (q := 11) _ (by with_reducible assumption) (rfl) (by omega) (by decide) dX8_isRoom_10 rfl ?_
    refine z_icmp_ge (tgt := 18) (q := 14) dX8_isRoom_11 (by decide) rfl (fun h11 => ?_) (fun h11 => ?_)
    · refine z_iconst (q := 19) (v := nI 0) dX8_isRoom_18 (by rfl) rfl ?_
      exact z_zret rfl (by rfl) dX8_isRoom_19 (Nat.zero_le _) (Nat.zero_le _) (⟨by simp_all [nI_0, zI1], rfl, rfl, rfl, rfl⟩)
    · refine z_iconst (q := 15) (v := nI 1) dX8_isRoom_14 (by rfl) rfl ?_
      refine z_goto (q := 19) dX8_isRoom_15 (by decide) ?_
      exact z_zret rfl (by rfl) dX8_isRoom_19 (Nat.zero_le _) (Nat.zero_le _) (⟨by simp_all [nI_0, zI1], rfl, rfl, rfl, rfl⟩)
set_option maxRecDepth 100000 in
set_option maxHeartbeats 4000000 in
theorem c_X8_isDoor (G : zG) {n : Nat} {T : zTT} {I : zII} {R : zRR} (m : Nat) (x : Int32) (hM : z_Mod T R m) : Ct G yX8_isDoor wsX8_isDoor (0, 0, 0) [.ref m, .int x] n T I R (z_ret (some (.int (if x < 0 ∨ I (m + 1) 1 ≤ x then 0 else 1))) n T I R) := by
  refine Ct.ofX (M := muX8_isDoor) (ls := [(0, .ref m), (1, .int x)]) (by decide +kernel) rfl (by decide) rfl rfl (Nat.le_of_ble_eq_true rfl) ?_
  obtain ⟨hT, ⟨hT1, hR0⟩, -⟩ := hM
  refine z_iload_n (q := 1) dX8_isDoor_0 rfl rfl rfl ?_
  refine z_if_lt (tgt := 18) (q := 4) dX8_isDoor_1 (by decide) rfl (fun h1 => ?_) (fun h1 => ?_)
  · refine z_iconst (q := 19) (v := nI 0) dX8_isDoor_18 (by rfl) rfl ?_
    exact z_zret rfl (by rfl) dX8_isDoor_19 (Nat.zero_le _) (Nat.zero_le _) (⟨by simp_all [nI_0, zI1], rfl, rfl, rfl, rfl⟩)
  · refine z_iload_n (q := 5) dX8_isDoor_4 rfl rfl rfl ?_
    refine z_aload_n (q := 6) dX8_isDoor_5 rfl rfl rfl ?_
    refine z_getR (q := 9) 8 0 1 2 rfl (by decide) rfl rfl rfl (by with_reducible assumption) (by with_reducible assumption) dX8_isDoor_6 rfl ?_
    refine z_iconst (q := 10) (v := nI 1) dX8_isDoor_9 (by rfl) rfl ?_
    refine z_iald (q := 11) _ (by with_reducible assumption) (rfl) (by omega) (by decide) dX8_isDoor_10 rfl ?_
    refine z_icmp_ge (tgt := 18) (q := 14) dX8_isDoor_11 (by decide) rfl (fun h11 => ?_) (fun h11 => ?_)
    · refine z_iconst (q := 19) (v := nI 0) dX8_isDoor_18 (by rfl) rfl ?_
      exact z_zret rfl (by rfl) dX8_isDoor_19 (Nat.zero_le _) (Nat.zero_le _) (⟨by simp_all [nI_0, zI1], rfl, rfl, rfl, rfl⟩)
    · refine z_iconst (q := 15) (v := nI 1) dX8_isDoor_14 (by rfl) rfl ?_
      refine z_goto (q := 19) dX8_isDoor_15 (by decide) ?_
      exact z_zret rfl (by rfl) dX8_isDoor_19 (Nat.zero_le _) (Nat.zero_le _) (⟨by simp_all [nI_0, zI1], rfl, rfl, rfl, rfl⟩)
set_option maxRecDepth 100000 in
set_option maxHeartbeats 4000000 in
theorem c_X8_inRoom (G : zG) {n : Nat} {T : zTT} {I : zII} {R : zRR} (r x w : Nat) (hT : T r = some (.inr (.int, 657))) (h : 9 + 6 * x + w < 657) : Ct G yX8_inRoom wsX8_inRoom (0, 0, 0) [.ref r, .int (nI x), .int (nI w)] n T I R (z_ret (some (.int (I r (9 + 6 * x + w)))) n T I R) := by
  refine Ct.ofX (M := muX8_inRoom) (ls := [(0, .ref r), (1, .int (nI x)), (2, .int (nI w))]) (by decide +kernel) rfl (by decide) rfl rfl (Nat.le_of_ble_eq_true rfl) ?_
  refine z_aload_n (q := 1) dX8_inRoom_0 rfl rfl rfl ?_
  refine z_bipush (q := 3) (v := nI 9) dX8_inRoom_1 (by rfl) rfl ?_
  refine z_bipush (q := 5) (v := nI 6) dX8_inRoom_3 (by rfl) rfl ?_
  refine z_iload_n (q := 6) dX8_inRoom_5 rfl rfl rfl ?_
  refine z_imulE (q := 7) dX8_inRoom_6 (pk_mul _ _) rfl ?_
  refine z_iaddE (q := 8) dX8_inRoom_7 (nI_add _ _) rfl ?_
  refine z_iload_n (q := 9) dX8_inRoom_8 rfl rfl rfl ?_
  refine z_iaddE (q := 10) dX8_inRoom_9 (nI_add _ _) rfl ?_
  refine z_iald (q := 11) _ (by with_reducible assumption) (rfl) (by omega) (by decide) dX8_inRoom_10 rfl ?_
  exact z_iret rfl dX8_inRoom_11 (Nat.zero_le _) (Nat.zero_le _) (⟨rfl, rfl, rfl, rfl, rfl⟩)
set_option maxRecDepth 100000 in
set_option maxHeartbeats 4000000 in
theorem c_X8_ofDoor (G : zG) {n : Nat} {T : zTT} {I : zII} {R : zRR} (r x w : Nat) (hT : T r = some (.inr (.int, 657))) (h : 57 + 10 * x + w < 657) : Ct G yX8_ofDoor wsX8_ofDoor (0, 0, 0) [.ref r, .int (nI x), .int (nI w)] n T I R (z_ret (some (.int (I r (57 + 10 * x + w)))) n T I R) := by
  refine Ct.ofX (M := muX8_ofDoor) (ls := [(0, .ref r), (1, .int (nI x)), (2, .int (nI w))]) (by decide +kernel) rfl (by decide) rfl rfl (Nat.le_of_ble_eq_true rfl) ?_
  refine z_aload_n (q := 1) dX8_ofDoor_0 rfl rfl rfl ?_
  refine z_bipush (q := 3) (v := nI 57) dX8_ofDoor_1 (by rfl) rfl ?_
  refine z_bipush (q := 5) (v := nI 10) dX8_ofDoor_3 (by rfl) rfl ?_
  refine z_iload_n (q := 6) dX8_ofDoor_5 rfl rfl rfl ?_
  refine z_imulE (q := 7) dX8_ofDoor_6 (pk_mul _ _) rfl ?_
  refine z_iaddE (q := 8) dX8_ofDoor_7 (nI_add _ _) rfl ?_
  refine z_iload_n (q := 9) dX8_ofDoor_8 rfl rfl rfl ?_
  refine z_iaddE (q := 10) dX8_ofDoor_9 (nI_add _ _) rfl ?_
  refine z_iald (q := 11) _ (by with_reducible assumption) (rfl) (by omega) (by decide) dX8_ofDoor_10 rfl ?_
  exact z_iret rfl dX8_ofDoor_11 (Nat.zero_le _) (Nat.zero_le _) (⟨rfl, rfl, rfl, rfl, rfl⟩)
set_option maxRecDepth 100000 in
set_option maxHeartbeats 4000000 in
theorem c_X8_entry (G : zG) {n : Nat} {T : zTT} {I : zII} {R : zRR} (r x w : Nat) (hT : T r = some (.inr (.int, 657))) (h : 321 + 5 * x + w < 657) : Ct G yX8_entry wsX8_entry (0, 0, 0) [.ref r, .int (nI x), .int (nI w)] n T I R (z_ret (some (.int (I r (321 + 5 * x + w)))) n T I R) := by
  refine Ct.ofX (M := muX8_entry) (ls := [(0, .ref r), (1, .int (nI x)), (2, .int (nI w))]) (by decide +kernel) rfl (by decide) rfl rfl (Nat.le_of_ble_eq_true rfl) ?_
  refine z_aload_n (q := 1) dX8_entry_0 rfl rfl rfl ?_
  refine z_sipush (q := 4) (v := nI 321) dX8_entry_1 (by rfl) rfl ?_
  refine z_iconst (q := 5) (v := nI 5) dX8_entry_4 (by rfl) rfl ?_
  refine z_iload_n (q := 6) dX8_entry_5 rfl rfl rfl ?_
  refine z_imulE (q := 7) dX8_entry_6 (pk_mul _ _) rfl ?_
  refine z_iaddE (q := 8) dX8_entry_7 (nI_add _ _) rfl ?_
  refine z_iload_n (q := 9) dX8_entry_8 rfl rfl rfl ?_
  refine z_iaddE (q := 10) dX8_entry_9 (nI_add _ _) rfl ?_
  refine z_iald (q := 11) _ (by with_reducible assumption) (rfl) (by omega) (by decide) dX8_entry_10 rfl ?_
  exact z_iret rfl dX8_entry_11 (Nat.zero_le _) (Nat.zero_le _) (⟨rfl, rfl, rfl, rfl, rfl⟩)
set_option maxRecDepth 100000 in
set_option maxHeartbeats 4000000 in
theorem c_X8_sumOf (G : zG) {n : Nat} {T : zTT} {I : zII} {R : zRR} (r w nr : Nat) (hT : T r = some (.inr (.int, 657))) (hw : w < 6) (h0 : I r 0 = nI nr) (hnr : nr ≤ 8) : Ct G yX8_sumOf wsX8_sumOf (1, 0, 0) [.ref r, .int (nI w)] n T I R (z_ret (some (.int (sumI (fun i => I r (9 + 6 * i + w)) nr))) n T I R) := by
  refine Ct.ofX (M := muX8_sumOf) (ls := [(0, .ref r), (1, .int (nI w))]) (by decide +kernel) rfl (by decide) rfl rfl (Nat.le_of_ble_eq_true rfl) ?_
  refine z_iconst (q := 1) (v := nI 0) dX8_sumOf_0 (by rfl) rfl ?_
  refine z_istore_n (q := 2) dX8_sumOf_1 rfl (by decide) rfl ?_
  refine z_iconst (q := 3) (v := nI 0) dX8_sumOf_2 (by rfl) rfl ?_
  refine z_istore_n (q := 4) dX8_sumOf_3 rfl (by decide) rfl ?_
  refine z_up (N := nr) (P := fun i => z_X G muX8_sumOf (1, 0, 0) (z_ret (some (.int (sumI (fun i => I r (9 + 6 * i + w)) nr))) n T I R) n T I R 0 0 4 [(0, .ref r), (1, .int (nI w)), (2, .int (sumI (fun i => I r (9 + 6 * i + w)) i)), (3, .int (nI i))] []) ?_ ?_ 0 (Nat.zero_le _)
  · refine z_iload_n (q := 5) dX8_sumOf_4 rfl rfl rfl ?_
    refine z_aload_n (q := 6) dX8_sumOf_5 rfl rfl rfl ?_
    refine z_iconst (q := 7) (v := nI 0) dX8_sumOf_6 (by rfl) rfl ?_
    refine z_ialdV (q := 8) _ (by with_reducible assumption) (rfl) (by omega) (by decide) (h0) dX8_sumOf_7 rfl ?_
    refine z_icmpn_ge (rfl) (rfl) (by omega) (by omega) (tgt := 26) (q := 11) dX8_sumOf_8 (by decide) rfl (fun _ => ?_) (fun hc => absurd hc (by omega))
    refine z_iload_n (q := 27) dX8_sumOf_26 rfl rfl rfl ?_
    exact z_iret rfl dX8_sumOf_27 (Nat.zero_le _) (Nat.zero_le _) (⟨rfl, rfl, rfl, rfl, rfl⟩)
  · intro i hi ih
    refine z_iload_n (q := 5) dX8_sumOf_4 rfl rfl rfl ?_
    refine z_aload_n (q := 6) dX8_sumOf_5 rfl rfl rfl ?_
    refine z_iconst (q := 7) (v := nI 0) dX8_sumOf_6 (by rfl) rfl ?_
    refine z_ialdV (q := 8) _ (by with_reducible assumption) (rfl) (by omega) (by decide) (h0) dX8_sumOf_7 rfl ?_
    refine z_icmpn_ge (rfl) (rfl) (by omega) (by omega) (tgt := 26) (q := 11) dX8_sumOf_8 (by decide) rfl (fun hc => absurd hc (by omega)) (fun _ => ?_)
    refine z_iload_n (q := 12) dX8_sumOf_11 rfl rfl rfl ?_
    refine z_aload_n (q := 13) dX8_sumOf_12 rfl rfl rfl ?_
    refine z_iload_n (q := 14) dX8_sumOf_13 rfl rfl rfl ?_
    refine z_iload_n (q := 15) dX8_sumOf_14 rfl rfl rfl ?_
    refine z_invS (q := 18) (c_X8_inRoom G r i w hT (by omega)) gX8_sumOf_X8_inRoom rfl hy_X8_inRoom rfl rfl rfl rfl (Nat.le_of_ble_eq_true rfl) ⟨Nat.zero_le _, Nat.zero_le _⟩ dX8_sumOf_15 rfl (z_rv ?_)
    refine z_iadd (q := 19) dX8_sumOf_18 rfl ?_
    refine z_istore_n (q := 20) dX8_sumOf_19 rfl (by decide) rfl ?_
    refine z_iinc (q := 23) dX8_sumOf_20 rfl (nI_add _ 1) (by decide) rfl ?_
    refine z_goto (q := 4) dX8_sumOf_23 (by decide) ?_
    exact ih
set_option maxRecDepth 100000 in
set_option maxHeartbeats 4000000 in
theorem c_X8_onWay (G : zG) {n : Nat} {T : zTT} {I : zII} {R : zRR} (r d : Nat) (hT : T r = some (.inr (.int, 657))) (hd : d < 12) : Ct G yX8_onWay wsX8_onWay (0, 0, 0) [.ref r, .int (nI d)] n T I R (z_ret (some (.int (sumI (fun i => I r (177 + 12 * d + i)) 12))) n T I R) := by
  refine Ct.ofX (M := muX8_onWay) (ls := [(0, .ref r), (1, .int (nI d))]) (by decide +kernel) rfl (by decide) rfl rfl (Nat.le_of_ble_eq_true rfl) ?_
  refine z_iconst (q := 1) (v := nI 0) dX8_onWay_0 (by rfl) rfl ?_
  refine z_istore_n (q := 2) dX8_onWay_1 rfl (by decide) rfl ?_
  refine z_iconst (q := 3) (v := nI 0) dX8_onWay_2 (by rfl) rfl ?_
  refine z_istore_n (q := 4) dX8_onWay_3 rfl (by decide) rfl ?_
  refine z_up (N := 12) (P := fun i => z_X G muX8_onWay (0, 0, 0) (z_ret (some (.int (sumI (fun i => I r (177 + 12 * d + i)) 12))) n T I R) n T I R 0 0 4 [(0, .ref r), (1, .int (nI d)), (2, .int (sumI (fun i => I r (177 + 12 * d + i)) i)), (3, .int (nI i))] []) ?_ ?_ 0 (Nat.zero_le _)
  · refine z_iload_n (q := 5) dX8_onWay_4 rfl rfl rfl ?_
    refine z_bipush (q := 7) (v := nI 12) dX8_onWay_5 (by rfl) rfl ?_
    refine z_icmpn_ge (rfl) (rfl) (by omega) (by omega) (tgt := 31) (q := 10) dX8_onWay_7 (by decide) rfl (fun _ => ?_) (fun hc => absurd hc (by omega))
    refine z_iload_n (q := 32) dX8_onWay_31 rfl rfl rfl ?_
    exact z_iret rfl dX8_onWay_32 (Nat.zero_le _) (Nat.zero_le _) (⟨rfl, rfl, rfl, rfl, rfl⟩)
  · intro i hi ih
    refine z_iload_n (q := 5) dX8_onWay_4 rfl rfl rfl ?_
    refine z_bipush (q := 7) (v := nI 12) dX8_onWay_5 (by rfl) rfl ?_
    refine z_icmpn_ge (rfl) (rfl) (by omega) (by omega) (tgt := 31) (q := 10) dX8_onWay_7 (by decide) rfl (fun hc => absurd hc (by omega)) (fun _ => ?_)
    refine z_iload_n (q := 11) dX8_onWay_10 rfl rfl rfl ?_
    refine z_aload_n (q := 12) dX8_onWay_11 rfl rfl rfl ?_
    refine z_sipush (q := 15) (v := nI 177) dX8_onWay_12 (by rfl) rfl ?_
    refine z_bipush (q := 17) (v := nI 12) dX8_onWay_15 (by rfl) rfl ?_
    refine z_iload_n (q := 18) dX8_onWay_17 rfl rfl rfl ?_
    refine z_imulE (q := 19) dX8_onWay_18 (pk_mul _ _) rfl ?_
    refine z_iaddE (q := 20) dX8_onWay_19 (nI_add _ _) rfl ?_
    refine z_iload_n (q := 21) dX8_onWay_20 rfl rfl rfl ?_
    refine z_iaddE (q := 22) dX8_onWay_21 (nI_add _ _) rfl ?_
    refine z_iald (q := 23) _ (by with_reducible assumption) (rfl) (by omega) (by decide) dX8_onWay_22 rfl ?_
    refine z_iadd (q := 24) dX8_onWay_23 rfl ?_
    refine z_istore_n (q := 25) dX8_onWay_24 rfl (by decide) rfl ?_
    refine z_iinc (q := 28) dX8_onWay_25 rfl (nI_add _ 1) (by decide) rfl ?_
    refine z_goto (q := 4) dX8_onWay_28 (by decide) ?_
    exact ih
set_option maxRecDepth 100000 in
set_option maxHeartbeats 4000000 in
theorem c_X8_allOnWay (G : zG) {n : Nat} {T : zTT} {I : zII} {R : zRR} (r nd : Nat) (hT : T r = some (.inr (.int, 657))) (h1 : I r 1 = nI nd) (hnd : nd ≤ 12) : Ct G yX8_allOnWay wsX8_allOnWay (1, 0, 0) [.ref r] n T I R (z_ret (some (.int (sumI (fun d => sumI (fun i => I r (177 + 12 * d + i)) 12) nd))) n T I R) := by
  refine Ct.ofX (M := muX8_allOnWay) (ls := [(0, .ref r)]) (by decide +kernel) rfl (by decide) rfl rfl (Nat.le_of_ble_eq_true rfl) ?_
  refine z_iconst (q := 1) (v := nI 0) dX8_allOnWay_0 (by rfl) rfl ?_
  refine z_istore_n (q := 2) dX8_allOnWay_1 rfl (by decide) rfl ?_
  refine z_iconst (q := 3) (v := nI 0) dX8_allOnWay_2 (by rfl) rfl ?_
  refine z_istore_n (q := 4) dX8_allOnWay_3 rfl (by decide) rfl ?_
  refine z_up (N := nd) (P := fun i => z_X G muX8_allOnWay (1, 0, 0) (z_ret (some (.int (sumI (fun d => sumI (fun i => I r (177 + 12 * d + i)) 12) nd))) n T I R) n T I R 0 0 4 [(0, .ref r), (1, .int (sumI (fun d => sumI (fun i => I r (177 + 12 * d + i)) 12) i)), (2, .int (nI i))] []) ?_ ?_ 0 (Nat.zero_le _)
  · refine z_iload_n (q := 5) dX8_allOnWay_4 rfl rfl rfl ?_
    refine z_aload_n (q := 6) dX8_allOnWay_5 rfl rfl rfl ?_
    refine z_iconst (q := 7) (v := nI 1) dX8_allOnWay_6 (by rfl) rfl ?_
    refine z_ialdV (q := 8) _ (by with_reducible assumption) (rfl) (by omega) (by decide) (h1) dX8_allOnWay_7 rfl ?_
    refine z_icmpn_ge (rfl) (rfl) (by omega) (by omega) (tgt := 25) (q := 11) dX8_allOnWay_8 (by decide) rfl (fun _ => ?_) (fun hc => absurd hc (by omega))
    refine z_iload_n (q := 26) dX8_allOnWay_25 rfl rfl rfl ?_
    exact z_iret rfl dX8_allOnWay_26 (Nat.zero_le _) (Nat.zero_le _) (⟨rfl, rfl, rfl, rfl, rfl⟩)
  · intro i hi ih
    refine z_iload_n (q := 5) dX8_allOnWay_4 rfl rfl rfl ?_
    refine z_aload_n (q := 6) dX8_allOnWay_5 rfl rfl rfl ?_
    refine z_iconst (q := 7) (v := nI 1) dX8_allOnWay_6 (by rfl) rfl ?_
    refine z_ialdV (q := 8) _ (by with_reducible assumption) (rfl) (by omega) (by decide) (h1) dX8_allOnWay_7 rfl ?_
    refine z_icmpn_ge (rfl) (rfl) (by omega) (by omega) (tgt := 25) (q := 11) dX8_allOnWay_8 (by decide) rfl (fun hc => absurd hc (by omega)) (fun _ => ?_)
    refine z_iload_n (q := 12) dX8_allOnWay_11 rfl rfl rfl ?_
    refine z_aload_n (q := 13) dX8_allOnWay_12 rfl rfl rfl ?_
    refine z_iload_n (q := 14) dX8_allOnWay_13 rfl rfl rfl ?_
    refine z_invS (q := 17) (c_X8_onWay G r i hT (by omega)) gX8_allOnWay_X8_onWay rfl hy_X8_onWay rfl rfl rfl rfl (Nat.le_of_ble_eq_true rfl) ⟨Nat.zero_le _, Nat.zero_le _⟩ dX8_allOnWay_14 rfl (z_rv ?_)
    refine z_iadd (q := 18) dX8_allOnWay_17 rfl ?_
    refine z_istore_n (q := 19) dX8_allOnWay_18 rfl (by decide) rfl ?_
    refine z_iinc (q := 22) dX8_allOnWay_19 rfl (nI_add _ 1) (by decide) rfl ?_
    refine z_goto (q := 4) dX8_allOnWay_22 (by decide) ?_
    exact ih
set_option maxRecDepth 100000 in
set_option maxHeartbeats 4000000 in
theorem c_X8_level (G : zG) {n : Nat} {T : zTT} {I : zII} {R : zRR} (e : Int32) : Ct G yX8_level wsX8_level (0, 0, 0) [.int e] n T I R (z_ret (some (.int (lvl e 31))) n T I R) := by
  refine Ct.ofX (M := muX8_level) (ls := [(0, .int e)]) (by decide +kernel) rfl (by decide) rfl rfl (Nat.le_of_ble_eq_true rfl) ?_
  refine z_bipush (q := 2) (v := (-4)) dX8_level_0 (by rfl) rfl ?_
  refine z_istore_n (q := 3) dX8_level_2 rfl (by decide) rfl ?_
  refine z_iconst (q := 4) (v := nI 0) dX8_level_3 (by rfl) rfl ?_
  refine z_istore_n (q := 5) dX8_level_4 rfl (by decide) rfl ?_
  refine z_up (N := 31) (P := fun i => z_X G muX8_level (0, 0, 0) (z_ret (some (.int (lvl e 31))) n T I R) n T I R 0 0 5 [(0, .int e), (1, .int (lvl e i)), (2, .int (nI i))] []) ?_ ?_ 0 (Nat.zero_le _)
  · refine z_iload_n (q := 6) dX8_level_5 rfl rfl rfl ?_
    refine z_bipush (q := 8) (v := nI 31) dX8_level_6 (by rfl) rfl ?_
    refine z_icmpn_ge (rfl) (rfl) (by omega) (by omega) (tgt := 29) (q := 11) dX8_level_8 (by decide) rfl (fun _ => ?_) (fun hc => absurd hc (by omega))
    refine z_iload_n (q := 30) dX8_level_29 rfl rfl rfl ?_
    exact z_iret rfl dX8_level_30 (Nat.zero_le _) (Nat.zero_le _) (⟨rfl, rfl, rfl, rfl, rfl⟩)
  · intro i hi ih
    refine z_iload_n (q := 6) dX8_level_5 rfl rfl rfl ?_
    refine z_bipush (q := 8) (v := nI 31) dX8_level_6 (by rfl) rfl ?_
    refine z_icmpn_ge (rfl) (rfl) (by omega) (by omega) (tgt := 29) (q := 11) dX8_level_8 (by decide) rfl (fun hc => absurd hc (by omega)) (fun _ => ?_)
    refine z_iload_n (q := 12) dX8_level_11 rfl rfl rfl ?_
    refine z_iload_n (q := 13) dX8_level_12 rfl rfl rfl ?_
    refine z_ishr (q := 14) dX8_level_13 rfl ?_
    refine z_if_le (tgt := 21) (q := 17) dX8_level_14 (by decide) rfl (fun hc => ?_) (fun hc => ?_)
    · refine z_iload_n (q := 22) dX8_level_21 rfl rfl rfl ?_
      refine z_istore_n (q := 23) dX8_level_22 rfl (by decide) rfl ?_
      refine z_iinc (q := 26) dX8_level_23 rfl (nI_add _ 1) (by decide) rfl ?_
      refine z_goto (q := 5) dX8_level_26 (by decide) ?_
      have e1 : lvl e (i + 1) = lvl e i := by rw [lvl, if_pos hc]
      rw [e1] at ih
      exact ih
    · refine z_iload_n (q := 18) dX8_level_17 rfl rfl rfl ?_
      refine z_goto (q := 22) dX8_level_18 (by decide) ?_
      refine z_istore_n (q := 23) dX8_level_22 rfl (by decide) rfl ?_
      refine z_iinc (q := 26) dX8_level_23 rfl (nI_add _ 1) (by decide) rfl ?_
      refine z_goto (q := 5) dX8_level_26 (by decide) ?_
      have e1 : lvl e (i + 1) = nI i := by rw [lvl, if_neg hc]
      rw [e1] at ih
      exact ih
set_option maxRecDepth 100000 in
set_option maxHeartbeats 4000000 in
theorem c_X8_through (G : zG) {n : Nat} {T : zTT} {I : zII} {R : zRR} (r d s a : Nat) (hT : T r = some (.inr (.int, 657))) (hd : d < 12) (hs : s < 2) (ha : I r (57 + 10 * d + s) = nI a) (ha8 : a ≤ 8) (hv : a < 8 → ∃ v, I r (9 + 6 * a + 0) = nI v ∧ 10 ≤ v ∧ v ≤ 10000) : Ct G yX8_through wsX8_through (1, 0, 0) [.ref r, .int (nI d), .int (nI s)] n T I R (z_ret (some (.int (thr (I r) d a))) n T I R) := by
  refine Ct.ofX (M := muX8_through) (ls := [(0, .ref r), (1, .int (nI d)), (2, .int (nI s))]) (by decide +kernel) rfl (by decide) rfl rfl (Nat.le_of_ble_eq_true rfl) ?_
  refine z_aload_n (q := 1) dX8_through_0 rfl rfl rfl ?_
  refine z_iload_n (q := 2) dX8_through_1 rfl rfl rfl ?_
  refine z_iload_n (q := 3) dX8_through_2 rfl rfl rfl ?_
  refine z_invS (q := 6) (c_X8_ofDoor G r d s hT (by omega)) gX8_through_X8_ofDoor rfl hy_X8_ofDoor rfl rfl rfl rfl (Nat.le_of_ble_eq_true rfl) ⟨Nat.zero_le _, Nat.zero_le _⟩ dX8_through_3 rfl (z_rv ?_)
  rw [ha]
  refine z_istore_n (q := 7) dX8_through_6 rfl (by decide) rfl ?_
  refine z_iload_n (q := 8) dX8_through_7 rfl rfl rfl ?_
  refine z_bipush (q := 10) (v := nI 8) dX8_through_8 (by rfl) rfl ?_
  refine z_icmpn_ne (rfl) (rfl) (by omega) (by omega) (tgt := 15) (q := 13) dX8_through_10 (by decide) rfl (fun hc => ?_) (fun hc => ?_)
  · have h8 : a < 8 := by omega
    obtain ⟨v, hv0, hv1, hv2⟩ := hv h8
    have hne : ¬ (10 : Int64) * (I r (9 + 6 * a + 0)).toInt64 = 0 := by rw [hv0]; exact z_vol hv1 hv2
    refine z_aload_n (q := 16) dX8_through_15 rfl rfl rfl ?_
    refine z_iload_n (q := 17) dX8_through_16 rfl rfl rfl ?_
    refine z_iconst (q := 18) (v := nI 2) dX8_through_17 (by rfl) rfl ?_
    refine z_invS (q := 21) (c_X8_inRoom G r a 2 hT (by omega)) gX8_through_X8_inRoom rfl hy_X8_inRoom rfl rfl rfl rfl (Nat.le_of_ble_eq_true rfl) ⟨Nat.zero_le _, Nat.zero_le _⟩ dX8_through_18 rfl (z_rv ?_)
    refine z_i2l (q := 22) dX8_through_21 rfl ?_
    refine z_aload_n (q := 23) dX8_through_22 rfl rfl rfl ?_
    refine z_iload_n (q := 24) dX8_through_23 rfl rfl rfl ?_
    refine z_iconst (q := 25) (v := nI 2) dX8_through_24 (by rfl) rfl ?_
    refine z_invS (q := 28) (c_X8_ofDoor G r d 2 hT (by omega)) gX8_through_X8_ofDoor rfl hy_X8_ofDoor rfl rfl rfl rfl (Nat.le_of_ble_eq_true rfl) ⟨Nat.zero_le _, Nat.zero_le _⟩ dX8_through_25 rfl (z_rv ?_)
    refine z_i2l (q := 29) dX8_through_28 rfl ?_
    refine z_lmul (q := 30) dX8_through_29 rfl ?_
    refine z_aload_n (q := 31) dX8_through_30 rfl rfl rfl ?_
    refine z_iload_n (q := 32) dX8_through_31 rfl rfl rfl ?_
    refine z_iconst (q := 33) (v := nI 5) dX8_through_32 (by rfl) rfl ?_
    refine z_invS (q := 36) (c_X8_ofDoor G r d 5 hT (by omega)) gX8_through_X8_ofDoor rfl hy_X8_ofDoor rfl rfl rfl rfl (Nat.le_of_ble_eq_true rfl) ⟨Nat.zero_le _, Nat.zero_le _⟩ dX8_through_33 rfl (z_rv ?_)
    refine z_i2l (q := 37) dX8_through_36 rfl ?_
    refine z_lmul (q := 38) dX8_through_37 rfl ?_
    refine z_lstore (q := 40) dX8_through_38 (by decide) rfl ?_
    refine z_lload (q := 42) dX8_through_40 rfl rfl ?_
    refine z_ldc2 (q := 45) (i := 1) (v := 10) rfl dX8_through_42 rfl ?_
    refine z_aload_n (q := 46) dX8_through_45 rfl rfl rfl ?_
    refine z_iload_n (q := 47) dX8_through_46 rfl rfl rfl ?_
    refine z_iconst (q := 48) (v := nI 0) dX8_through_47 (by rfl) rfl ?_
    refine z_invS (q := 51) (c_X8_inRoom G r a 0 hT (by omega)) gX8_through_X8_inRoom rfl hy_X8_inRoom rfl rfl rfl rfl (Nat.le_of_ble_eq_true rfl) ⟨Nat.zero_le _, Nat.zero_le _⟩ dX8_through_48 rfl (z_rv ?_)
    refine z_i2l (q := 52) dX8_through_51 rfl ?_
    refine z_lmul (q := 53) dX8_through_52 rfl ?_
    refine z_ldiv (q := 54) dX8_through_53 (hne) rfl ?_
    refine z_l2i (q := 55) dX8_through_54 rfl ?_
    exact z_iret rfl dX8_through_55 (Nat.zero_le _) (Nat.zero_le _) (⟨by simp only [thr, if_neg hc], rfl, rfl, rfl, rfl⟩)
  · refine z_iconst (q := 14) (v := nI 0) dX8_through_13 (by rfl) rfl ?_
    exact z_iret rfl dX8_through_14 (Nat.zero_le _) (Nat.zero_le _) (⟨by simp only [thr, if_pos hc, nI_0], rfl, rfl, rfl, rfl⟩)

