/-! THE CLASS, what a house is asked -/
def z_House (T : zTT) (R : zRR) (a : Nat) : Prop := T a = some (.inl 3) ∧ (T (a + 1) = some (.inr (.object RX5, 8)) ∧ R a 0 = some (a + 1)) ∧ (T (a + 2) = some (.inr (.object RX0, 12)) ∧ R a 1 = some (a + 2)) ∧ R a 2 = some (a + 3) ∧ (T (a + 21) = some (.inr (.int, 2)) ∧ R a 3 = some (a + 21)) ∧ (∀ i, i < 8 → R (a + 1) i = some (a + 22 + 2 * i) ∧ z_Room T R (a + 22 + 2 * i)) ∧ (∀ j, j < 12 → R (a + 2) j = some (a + 38 + 5 * j) ∧ z_Door T R (a + 38 + 5 * j)) ∧ z_Plan T R (a + 3)
theorem z_House_R {T : zTT} {R R' : zRR} {a : Nat} (h : z_House T R a) (hR : ∀ q, a ≤ q → q < a + 98 → q ≠ a + 4 → R' q = R q) : z_House T R' a := by
  obtain ⟨h1, ⟨h2, h3⟩, ⟨h4, h5⟩, h6, ⟨h7, h8⟩, h9, h10, h11⟩ := h
  refine ⟨h1, ⟨h2, by rw [hR a (by omega) (by omega) (by omega)]; exact h3⟩, ⟨h4, by rw [hR a (by omega) (by omega) (by omega)]; exact h5⟩, by rw [hR a (by omega) (by omega) (by omega)]; exact h6, ⟨h7, by rw [hR a (by omega) (by omega) (by omega)]; exact h8⟩, fun i hi => ?_, fun j hj => ?_, z_PlanR h11 (hR _ (by omega) (by omega) (by omega))⟩
  · obtain ⟨q1, q2, q3, q4⟩ := h9 i hi
    exact ⟨by rw [hR _ (by omega) (by omega) (by omega)]; exact q1, q2, q3, by rw [hR _ (by omega) (by omega) (by omega)]; exact q4⟩
  · obtain ⟨q1, q2, q3, q4, q5, q6, q7, q8, q9, q10⟩ := h10 j hj
    have e := hR (a + 38 + 5 * j) (by omega) (by omega) (by omega)
    exact ⟨by rw [hR _ (by omega) (by omega) (by omega)]; exact q1, q2, q3, q4, q5, q6, by rw [e]; exact q7, by rw [e]; exact q8, by rw [e]; exact q9, by rw [e]; exact q10⟩
set_option maxRecDepth 100000 in
set_option maxHeartbeats 4000000 in
theorem c_X3_roomAt_s (G : zG) {n : Nat} {T : zTT} {I : zII} {R : zRR} (a k nk : Nat) (hH : z_House T R a) (hc4 : I a 4 = nI nk) (hk : k < nk) (hnk : nk ≤ 8) : Ct G yX3_roomAt wsX3_roomAt (0, 0, 0) [.ref a, .int (nI k)] n T I R (z_ret (some (.ref (a + 22 + 2 * k))) n T I R) := by
  refine Ct.ofX (M := muX3_roomAt) (ls := [(0, .ref a), (1, .int (nI k))]) (by decide +kernel) rfl (by decide) rfl rfl (Nat.le_of_ble_eq_true rfl) ?_
  have hTa := hH.1
  obtain ⟨hTr, hRr⟩ := hH.2.1
  have hRk := (hH.2.2.2.2.2.1 k (by omega)).1
  refine z_iload_n (q := 1) dX3_roomAt_0 rfl rfl rfl ?_
  refine z_if_lt (tgt := 30) (q := 4) dX3_roomAt_1 (by decide) rfl (fun hc => False.elim (nI_pos (n := k) (by omega) hc)) (fun _ => ?_)
  refine z_iload_n (q := 5) dX3_roomAt_4 rfl rfl rfl ?_
  refine z_aload_n (q := 6) dX3_roomAt_5 rfl rfl rfl ?_
  refine z_getV (q := 9) 3 4 1 7 rfl (by decide) rfl rfl rfl (by with_reducible assumption) (hc4) dX3_roomAt_6 rfl ?_
  refine z_icmpn_ge (rfl) (rfl) (by omega) (by omega) (tgt := 30) (q := 12) dX3_roomAt_9 (by decide) rfl (fun hc => absurd hc (by omega)) (fun _ => ?_)
  refine z_iload_n (q := 13) dX3_roomAt_12 rfl rfl rfl ?_
  refine z_aload_n (q := 14) dX3_roomAt_13 rfl rfl rfl ?_
  refine z_getR (q := 17) 3 0 2 3 rfl (by decide) rfl rfl rfl (by with_reducible assumption) (by with_reducible assumption) dX3_roomAt_14 rfl ?_
  refine z_alen (q := 18) (by with_reducible assumption) dX3_roomAt_17 rfl ?_
  refine z_icmpn_ge (rfl) (rfl) (by omega) (by omega) (tgt := 30) (q := 21) dX3_roomAt_18 (by decide) rfl (fun hc => absurd hc (by omega)) (fun _ => ?_)
  refine z_aload_n (q := 22) dX3_roomAt_21 rfl rfl rfl ?_
  refine z_getR (q := 25) 3 0 2 3 rfl (by decide) rfl rfl rfl (by with_reducible assumption) (by with_reducible assumption) dX3_roomAt_22 rfl ?_
  refine z_iload_n (q := 26) dX3_roomAt_25 rfl rfl rfl ?_
  refine z_aald (q := 27) _ (by with_reducible assumption) (rfl) (by omega) (by decide) (by with_reducible assumption) dX3_roomAt_26 rfl ?_
  refine z_goto (q := 31) dX3_roomAt_27 (by decide) ?_
  exact z_aret rfl dX3_roomAt_31 (Nat.zero_le _) (Nat.zero_le _) (⟨rfl, rfl, rfl, rfl, rfl⟩)
set_option maxRecDepth 100000 in
set_option maxHeartbeats 4000000 in
theorem c_X3_roomAt_n (G : zG) {n : Nat} {T : zTT} {I : zII} {R : zRR} (a nk : Nat) (x : Int32) (hH : z_House T R a) (hc4 : I a 4 = nI nk) (hx : x < 0 ∨ nI nk ≤ x) : Ct G yX3_roomAt wsX3_roomAt (0, 0, 0) [.ref a, .int x] n T I R (z_ret (some .null) n T I R) := by
  refine Ct.ofX (M := muX3_roomAt) (ls := [(0, .ref a), (1, .int x)]) (by decide +kernel) rfl (by decide) rfl rfl (Nat.le_of_ble_eq_true rfl) ?_
  have hTa := hH.1
  have fin : z_X G muX3_roomAt (0, 0, 0) (z_ret (some .null) n T I R) n T I R 0 0 30 [(0, .ref a), (1, .int x)] [] := by
    refine z_null (q := 31) dX3_roomAt_30 rfl ?_
    exact z_aretN rfl dX3_roomAt_31 (Nat.zero_le _) (Nat.zero_le _) (⟨rfl, rfl, rfl, rfl, rfl⟩)
  refine z_iload_n (q := 1) dX3_roomAt_0 rfl rfl rfl ?_
  refine z_if_lt (tgt := 30) (q := 4) dX3_roomAt_1 (by decide) rfl (fun h1 => ?_) (fun h1 => ?_)
  · exact fin
  · refine z_iload_n (q := 5) dX3_roomAt_4 rfl rfl rfl ?_
    refine z_aload_n (q := 6) dX3_roomAt_5 rfl rfl rfl ?_
    refine z_getI (q := 9) 3 4 1 7 rfl (by decide) rfl rfl rfl (by with_reducible assumption) dX3_roomAt_6 rfl ?_
    rw [hc4]
    refine z_icmp_ge (tgt := 30) (q := 12) dX3_roomAt_9 (by decide) rfl (fun _ => ?_) (fun hc => False.elim (absurd (hx.elim (fun z => absurd z h1) id) hc))
    exact fin
set_option maxRecDepth 100000 in
set_option maxHeartbeats 4000000 in
theorem c_X3_doorAt_s (G : zG) {n : Nat} {T : zTT} {I : zII} {R : zRR} (a k nk : Nat) (hH : z_House T R a) (hc4 : I a 5 = nI nk) (hk : k < nk) (hnk : nk ≤ 12) : Ct G yX3_doorAt wsX3_doorAt (0, 0, 0) [.ref a, .int (nI k)] n T I R (z_ret (some (.ref (a + 38 + 5 * k))) n T I R) := by
  refine Ct.ofX (M := muX3_doorAt) (ls := [(0, .ref a), (1, .int (nI k))]) (by decide +kernel) rfl (by decide) rfl rfl (Nat.le_of_ble_eq_true rfl) ?_
  have hTa := hH.1
  obtain ⟨hTr, hRr⟩ := hH.2.2.1
  have hRk := (hH.2.2.2.2.2.2.1 k (by omega)).1
  refine z_iload_n (q := 1) dX3_doorAt_0 rfl rfl rfl ?_
  refine z_if_lt (tgt := 30) (q := 4) dX3_doorAt_1 (by decide) rfl (fun hc => False.elim (nI_pos (n := k) (by omega) hc)) (fun _ => ?_)
  refine z_iload_n (q := 5) dX3_doorAt_4 rfl rfl rfl ?_
  refine z_aload_n (q := 6) dX3_doorAt_5 rfl rfl rfl ?_
  refine z_getV (q := 9) 3 5 1 8 rfl (by decide) rfl rfl rfl (by with_reducible assumption) (hc4) dX3_doorAt_6 rfl ?_
  refine z_icmpn_ge (rfl) (rfl) (by omega) (by omega) (tgt := 30) (q := 12) dX3_doorAt_9 (by decide) rfl (fun hc => absurd hc (by omega)) (fun _ => ?_)
  refine z_iload_n (q := 13) dX3_doorAt_12 rfl rfl rfl ?_
  refine z_aload_n (q := 14) dX3_doorAt_13 rfl rfl rfl ?_
  refine z_getR (q := 17) 3 1 2 4 rfl (by decide) rfl rfl rfl (by with_reducible assumption) (by with_reducible assumption) dX3_doorAt_14 rfl ?_
  refine z_alen (q := 18) (by with_reducible assumption) dX3_doorAt_17 rfl ?_
  refine z_icmpn_ge (rfl) (rfl) (by omega) (by omega) (tgt := 30) (q := 21) dX3_doorAt_18 (by decide) rfl (fun hc => absurd hc (by omega)) (fun _ => ?_)
  refine z_aload_n (q := 22) dX3_doorAt_21 rfl rfl rfl ?_
  refine z_getR (q := 25) 3 1 2 4 rfl (by decide) rfl rfl rfl (by with_reducible assumption) (by with_reducible assumption) dX3_doorAt_22 rfl ?_
  refine z_iload_n (q := 26) dX3_doorAt_25 rfl rfl rfl ?_
  refine z_aald (q := 27) _ (by with_reducible assumption) (rfl) (by omega) (by decide) (by with_reducible assumption) dX3_doorAt_26 rfl ?_
  refine z_goto (q := 31) dX3_doorAt_27 (by decide) ?_
  exact z_aret rfl dX3_doorAt_31 (Nat.zero_le _) (Nat.zero_le _) (⟨rfl, rfl, rfl, rfl, rfl⟩)
set_option maxRecDepth 100000 in
set_option maxHeartbeats 4000000 in
theorem c_X3_doorAt_n (G : zG) {n : Nat} {T : zTT} {I : zII} {R : zRR} (a nk : Nat) (x : Int32) (hH : z_House T R a) (hc4 : I a 5 = nI nk) (hx : x < 0 ∨ nI nk ≤ x) : Ct G yX3_doorAt wsX3_doorAt (0, 0, 0) [.ref a, .int x] n T I R (z_ret (some .null) n T I R) := by
  refine Ct.ofX (M := muX3_doorAt) (ls := [(0, .ref a), (1, .int x)]) (by decide +kernel) rfl (by decide) rfl rfl (Nat.le_of_ble_eq_true rfl) ?_
  have hTa := hH.1
  have fin : z_X G muX3_doorAt (0, 0, 0) (z_ret (some .null) n T I R) n T I R 0 0 30 [(0, .ref a), (1, .int x)] [] := by
    refine z_null (q := 31) dX3_doorAt_30 rfl ?_
    exact z_aretN rfl dX3_doorAt_31 (Nat.zero_le _) (Nat.zero_le _) (⟨rfl, rfl, rfl, rfl, rfl⟩)
  refine z_iload_n (q := 1) dX3_doorAt_0 rfl rfl rfl ?_
  refine z_if_lt (tgt := 30) (q := 4) dX3_doorAt_1 (by decide) rfl (fun h1 => ?_) (fun h1 => ?_)
  · exact fin
  · refine z_iload_n (q := 5) dX3_doorAt_4 rfl rfl rfl ?_
    refine z_aload_n (q := 6) dX3_doorAt_5 rfl rfl rfl ?_
    refine z_getI (q := 9) 3 5 1 8 rfl (by decide) rfl rfl rfl (by with_reducible assumption) dX3_doorAt_6 rfl ?_
    rw [hc4]
    refine z_icmp_ge (tgt := 30) (q := 12) dX3_doorAt_9 (by decide) rfl (fun _ => ?_) (fun hc => False.elim (absurd (hx.elim (fun z => absurd z h1) id) hc))
    exact fin
set_option maxRecDepth 100000 in
set_option maxHeartbeats 4000000 in
theorem c_X3_energyInRooms (G : zG) {n : Nat} {T : zTT} {I : zII} {R : zRR} (a : Nat) (hH : z_House T R a) : Ct G yX3_energyInRooms wsX3_energyInRooms (0, 0, 0) [.ref a] n T I R (z_ret (some (.int (sumI (fun i => I (a + 22 + 2 * i) 2) 8))) n T I R) := by
  refine Ct.ofX (M := muX3_energyInRooms) (ls := [(0, .ref a)]) (by decide +kernel) rfl (by decide) rfl rfl (Nat.le_of_ble_eq_true rfl) ?_
  have hTa := hH.1
  obtain ⟨hTr, hRr⟩ := hH.2.1
  refine z_iconst (q := 1) (v := nI 0) dX3_energyInRooms_0 (by rfl) rfl ?_
  refine z_istore_n (q := 2) dX3_energyInRooms_1 rfl (by decide) rfl ?_
  refine z_aload_n (q := 3) dX3_energyInRooms_2 rfl rfl rfl ?_
  refine z_getR (q := 6) 3 0 1 3 rfl (by decide) rfl rfl rfl (by with_reducible assumption) (by with_reducible assumption) dX3_energyInRooms_3 rfl ?_
  refine z_astore_n (q := 7) dX3_energyInRooms_6 rfl (by decide) rfl ?_
  refine z_aload_n (q := 8) dX3_energyInRooms_7 rfl rfl rfl ?_
  refine z_alen (q := 9) (by with_reducible assumption) dX3_energyInRooms_8 rfl ?_
  refine z_istore_n (q := 10) dX3_energyInRooms_9 rfl (by decide) rfl ?_
  refine z_iconst (q := 11) (v := nI 0) dX3_energyInRooms_10 (by rfl) rfl ?_
  refine z_istore (q := 13) dX3_energyInRooms_11 (by decide) rfl ?_
  have loop : ∀ i, i ≤ 8 → ∀ ls : List (Nat × Value), lv_pick ls [0, 1, 2, 3, 4] = [(0, .ref a), (1, .int (sumI (fun i => I (a + 22 + 2 * i) 2) i)), (2, .ref (a + 1)), (3, .int (nI 8)), (4, .int (nI i))] → z_X G muX3_energyInRooms (0, 0, 0) (z_ret (some (.int (sumI (fun i => I (a + 22 + 2 * i) 2) 8))) n T I R) n T I R 0 0 13 ls [] := by
    refine z_up (N := 8) _ ?_ ?_
    · intro ls hls
      refine z_pick [0, 1, 2, 3, 4] hls ?_
      refine z_iload (q := 15) (i := 4) dX3_energyInRooms_13 rfl rfl ?_
      refine z_iload_n (q := 16) dX3_energyInRooms_15 rfl rfl rfl ?_
      refine z_icmpn_ge (rfl) (rfl) (by omega) (by omega) (tgt := 39) (q := 19) dX3_energyInRooms_16 (by decide) rfl (fun _ => ?_) (fun hc => absurd hc (by omega))
      refine z_iload_n (q := 40) dX3_energyInRooms_39 rfl rfl rfl ?_
      exact z_iret rfl dX3_energyInRooms_40 (Nat.zero_le _) (Nat.zero_le _) (⟨rfl, rfl, rfl, rfl, rfl⟩)
    · intro i hi ih ls hls
      have hRi := (hH.2.2.2.2.2.1 i hi).1
      have hTi := (hH.2.2.2.2.2.1 i hi).2.1
      refine z_pick [0, 1, 2, 3, 4] hls ?_
      refine z_iload (q := 15) (i := 4) dX3_energyInRooms_13 rfl rfl ?_
      refine z_iload_n (q := 16) dX3_energyInRooms_15 rfl rfl rfl ?_
      refine z_icmpn_ge (rfl) (rfl) (by omega) (by omega) (tgt := 39) (q := 19) dX3_energyInRooms_16 (by decide) rfl (fun hc => absurd hc (by omega)) (fun _ => ?_)
      refine z_aload_n (q := 20) dX3_energyInRooms_19 rfl rfl rfl ?_
      refine z_iload (q := 22) (i := 4) dX3_energyInRooms_20 rfl rfl ?_
      refine z_aald (q := 23) _ (by with_reducible assumption) (rfl) (by omega) (by decide) (by with_reducible assumption) dX3_energyInRooms_22 rfl ?_
      refine z_astore (q := 25) dX3_energyInRooms_23 (by decide) rfl ?_
      refine z_iload_n (q := 26) dX3_energyInRooms_25 rfl rfl rfl ?_
      refine z_aload (q := 28) dX3_energyInRooms_26 rfl rfl ?_
      refine z_getI (q := 31) 5 2 2 15 rfl (by decide) rfl rfl rfl (by with_reducible assumption) dX3_energyInRooms_28 rfl ?_
      refine z_iadd (q := 32) dX3_energyInRooms_31 rfl ?_
      refine z_istore_n (q := 33) dX3_energyInRooms_32 rfl (by decide) rfl ?_
      refine z_iinc (q := 36) dX3_energyInRooms_33 rfl (nI_add _ 1) (by decide) rfl ?_
      refine z_goto (q := 13) dX3_energyInRooms_36 (by decide) ?_
      exact ih _ rfl
  exact loop 0 (Nat.zero_le _) _ rfl
set_option maxRecDepth 100000 in
set_option maxHeartbeats 4000000 in
theorem c_X3_energyAbsorbed (G : zG) {n : Nat} {T : zTT} {I : zII} {R : zRR} (a : Nat) (hH : z_House T R a) : Ct G yX3_energyAbsorbed wsX3_energyAbsorbed (0, 0, 0) [.ref a] n T I R (z_ret (some (.int (sumI (fun i => I (a + 22 + 2 * i) 3) 8))) n T I R) := by
  refine Ct.ofX (M := muX3_energyAbsorbed) (ls := [(0, .ref a)]) (by decide +kernel) rfl (by decide) rfl rfl (Nat.le_of_ble_eq_true rfl) ?_
  have hTa := hH.1
  obtain ⟨hTr, hRr⟩ := hH.2.1
  refine z_iconst (q := 1) (v := nI 0) dX3_energyAbsorbed_0 (by rfl) rfl ?_
  refine z_istore_n (q := 2) dX3_energyAbsorbed_1 rfl (by decide) rfl ?_
  refine z_aload_n (q := 3) dX3_energyAbsorbed_2 rfl rfl rfl ?_
  refine z_getR (q := 6) 3 0 1 3 rfl (by decide) rfl rfl rfl (by with_reducible assumption) (by with_reducible assumption) dX3_energyAbsorbed_3 rfl ?_
  refine z_astore_n (q := 7) dX3_energyAbsorbed_6 rfl (by decide) rfl ?_
  refine z_aload_n (q := 8) dX3_energyAbsorbed_7 rfl rfl rfl ?_
  refine z_alen (q := 9) (by with_reducible assumption) dX3_energyAbsorbed_8 rfl ?_
  refine z_istore_n (q := 10) dX3_energyAbsorbed_9 rfl (by decide) rfl ?_
  refine z_iconst (q := 11) (v := nI 0) dX3_energyAbsorbed_10 (by rfl) rfl ?_
  refine z_istore (q := 13) dX3_energyAbsorbed_11 (by decide) rfl ?_
  have loop : ∀ i, i ≤ 8 → ∀ ls : List (Nat × Value), lv_pick ls [0, 1, 2, 3, 4] = [(0, .ref a), (1, .int (sumI (fun i => I (a + 22 + 2 * i) 3) i)), (2, .ref (a + 1)), (3, .int (nI 8)), (4, .int (nI i))] → z_X G muX3_energyAbsorbed (0, 0, 0) (z_ret (some (.int (sumI (fun i => I (a + 22 + 2 * i) 3) 8))) n T I R) n T I R 0 0 13 ls [] := by
    refine z_up (N := 8) _ ?_ ?_
    · intro ls hls
      refine z_pick [0, 1, 2, 3, 4] hls ?_
      refine z_iload (q := 15) (i := 4) dX3_energyAbsorbed_13 rfl rfl ?_
      refine z_iload_n (q := 16) dX3_energyAbsorbed_15 rfl rfl rfl ?_
      refine z_icmpn_ge (rfl) (rfl) (by omega) (by omega) (tgt := 39) (q := 19) dX3_energyAbsorbed_16 (by decide) rfl (fun _ => ?_) (fun hc => absurd hc (by omega))
      refine z_iload_n (q := 40) dX3_energyAbsorbed_39 rfl rfl rfl ?_
      exact z_iret rfl dX3_energyAbsorbed_40 (Nat.zero_le _) (Nat.zero_le _) (⟨rfl, rfl, rfl, rfl, rfl⟩)
    · intro i hi ih ls hls
      have hRi := (hH.2.2.2.2.2.1 i hi).1
      have hTi := (hH.2.2.2.2.2.1 i hi).2.1
      refine z_pick [0, 1, 2, 3, 4] hls ?_
      refine z_iload (q := 15) (i := 4) dX3_energyAbsorbed_13 rfl rfl ?_
      refine z_iload_n (q := 16) dX3_energyAbsorbed_15 rfl rfl rfl ?_
      refine z_icmpn_ge (rfl) (rfl) (by omega) (by omega) (tgt := 39) (q := 19) dX3_energyAbsorbed_16 (by decide) rfl (fun hc => absurd hc (by omega)) (fun _ => ?_)
      refine z_aload_n (q := 20) dX3_energyAbsorbed_19 rfl rfl rfl ?_
      refine z_iload (q := 22) (i := 4) dX3_energyAbsorbed_20 rfl rfl ?_
      refine z_aald (q := 23) _ (by with_reducible assumption) (rfl) (by omega) (by decide) (by with_reducible assumption) dX3_energyAbsorbed_22 rfl ?_
      refine z_astore (q := 25) dX3_energyAbsorbed_23 (by decide) rfl ?_
      refine z_iload_n (q := 26) dX3_energyAbsorbed_25 rfl rfl rfl ?_
      refine z_aload (q := 28) dX3_energyAbsorbed_26 rfl rfl ?_
      refine z_getI (q := 31) 5 3 2 16 rfl (by decide) rfl rfl rfl (by with_reducible assumption) dX3_energyAbsorbed_28 rfl ?_
      refine z_iadd (q := 32) dX3_energyAbsorbed_31 rfl ?_
      refine z_istore_n (q := 33) dX3_energyAbsorbed_32 rfl (by decide) rfl ?_
      refine z_iinc (q := 36) dX3_energyAbsorbed_33 rfl (nI_add _ 1) (by decide) rfl ?_
      refine z_goto (q := 13) dX3_energyAbsorbed_36 (by decide) ?_
      exact ih _ rfl
  exact loop 0 (Nat.zero_le _) _ rfl
set_option maxRecDepth 100000 in
set_option maxHeartbeats 4000000 in
theorem c_X3_energyGiven (G : zG) {n : Nat} {T : zTT} {I : zII} {R : zRR} (a : Nat) (hH : z_House T R a) : Ct G yX3_energyGiven wsX3_energyGiven (0, 0, 0) [.ref a] n T I R (z_ret (some (.int (sumI (fun i => I (a + 22 + 2 * i) 4) 8))) n T I R) := by
  refine Ct.ofX (M := muX3_energyGiven) (ls := [(0, .ref a)]) (by decide +kernel) rfl (by decide) rfl rfl (Nat.le_of_ble_eq_true rfl) ?_
  have hTa := hH.1
  obtain ⟨hTr, hRr⟩ := hH.2.1
  refine z_iconst (q := 1) (v := nI 0) dX3_energyGiven_0 (by rfl) rfl ?_
  refine z_istore_n (q := 2) dX3_energyGiven_1 rfl (by decide) rfl ?_
  refine z_aload_n (q := 3) dX3_energyGiven_2 rfl rfl rfl ?_
  refine z_getR (q := 6) 3 0 1 3 rfl (by decide) rfl rfl rfl (by with_reducible assumption) (by with_reducible assumption) dX3_energyGiven_3 rfl ?_
  refine z_astore_n (q := 7) dX3_energyGiven_6 rfl (by decide) rfl ?_
  refine z_aload_n (q := 8) dX3_energyGiven_7 rfl rfl rfl ?_
  refine z_alen (q := 9) (by with_reducible assumption) dX3_energyGiven_8 rfl ?_
  refine z_istore_n (q := 10) dX3_energyGiven_9 rfl (by decide) rfl ?_
  refine z_iconst (q := 11) (v := nI 0) dX3_energyGiven_10 (by rfl) rfl ?_
  refine z_istore (q := 13) dX3_energyGiven_11 (by decide) rfl ?_
  have loop : ∀ i, i ≤ 8 → ∀ ls : List (Nat × Value), lv_pick ls [0, 1, 2, 3, 4] = [(0, .ref a), (1, .int (sumI (fun i => I (a + 22 + 2 * i) 4) i)), (2, .ref (a + 1)), (3, .int (nI 8)), (4, .int (nI i))] → z_X G muX3_energyGiven (0, 0, 0) (z_ret (some (.int (sumI (fun i => I (a + 22 + 2 * i) 4) 8))) n T I R) n T I R 0 0 13 ls [] := by
    refine z_up (N := 8) _ ?_ ?_
    · intro ls hls
      refine z_pick [0, 1, 2, 3, 4] hls ?_
      refine z_iload (q := 15) (i := 4) dX3_energyGiven_13 rfl rfl ?_
      refine z_iload_n (q := 16) dX3_energyGiven_15 rfl rfl rfl ?_
      refine z_icmpn_ge (rfl) (rfl) (by omega) (by omega) (tgt := 39) (q := 19) dX3_energyGiven_16 (by decide) rfl (fun _ => ?_) (fun hc => absurd hc (by omega))
      refine z_iload_n (q := 40) dX3_energyGiven_39 rfl rfl rfl ?_
      exact z_iret rfl dX3_energyGiven_40 (Nat.zero_le _) (Nat.zero_le _) (⟨rfl, rfl, rfl, rfl, rfl⟩)
    · intro i hi ih ls hls
      have hRi := (hH.2.2.2.2.2.1 i hi).1
      have hTi := (hH.2.2.2.2.2.1 i hi).2.1
      refine z_pick [0, 1, 2, 3, 4] hls ?_
      refine z_iload (q := 15) (i := 4) dX3_energyGiven_13 rfl rfl ?_
      refine z_iload_n (q := 16) dX3_energyGiven_15 rfl rfl rfl ?_
      refine z_icmpn_ge (rfl) (rfl) (by omega) (by omega) (tgt := 39) (q := 19) dX3_energyGiven_16 (by decide) rfl (fun hc => absurd hc (by omega)) (fun _ => ?_)
      refine z_aload_n (q := 20) dX3_energyGiven_19 rfl rfl rfl ?_
      refine z_iload (q := 22) (i := 4) dX3_energyGiven_20 rfl rfl ?_
      refine z_aald (q := 23) _ (by with_reducible assumption) (rfl) (by omega) (by decide) (by with_reducible assumption) dX3_energyGiven_22 rfl ?_
      refine z_astore (q := 25) dX3_energyGiven_23 (by decide) rfl ?_
      refine z_iload_n (q := 26) dX3_energyGiven_25 rfl rfl rfl ?_
      refine z_aload (q := 28) dX3_energyGiven_26 rfl rfl ?_
      refine z_getI (q := 31) 5 4 2 17 rfl (by decide) rfl rfl rfl (by with_reducible assumption) dX3_energyGiven_28 rfl ?_
      refine z_iadd (q := 32) dX3_energyGiven_31 rfl ?_
      refine z_istore_n (q := 33) dX3_energyGiven_32 rfl (by decide) rfl ?_
      refine z_iinc (q := 36) dX3_energyGiven_33 rfl (nI_add _ 1) (by decide) rfl ?_
      refine z_goto (q := 13) dX3_energyGiven_36 (by decide) ?_
      exact ih _ rfl
  exact loop 0 (Nat.zero_le _) _ rfl
set_option maxRecDepth 100000 in
set_option maxHeartbeats 4000000 in
theorem c_X3_energyOnItsWay (G : zG) {n : Nat} {T : zTT} {I : zII} {R : zRR} (a : Nat) (hH : z_House T R a) : Ct G yX3_energyOnItsWay wsX3_energyOnItsWay (1, 0, 0) [.ref a] n T I R (z_ret (some (.int (sumI (fun d => sumI (fun k => I (a + 38 + 5 * d + 4) k) 12) 12))) n T I R) := by
  refine Ct.ofX (M := muX3_energyOnItsWay) (ls := [(0, .ref a)]) (by decide +kernel) rfl (by decide) rfl rfl (Nat.le_of_ble_eq_true rfl) ?_
  have hTa := hH.1
  obtain ⟨hTr, hRr⟩ := hH.2.2.1
  refine z_iconst (q := 1) (v := nI 0) dX3_energyOnItsWay_0 (by rfl) rfl ?_
  refine z_istore_n (q := 2) dX3_energyOnItsWay_1 rfl (by decide) rfl ?_
  refine z_aload_n (q := 3) dX3_energyOnItsWay_2 rfl rfl rfl ?_
  refine z_getR (q := 6) 3 1 1 9 rfl (by decide) rfl rfl rfl (by with_reducible assumption) (by with_reducible assumption) dX3_energyOnItsWay_3 rfl ?_
  refine z_astore_n (q := 7) dX3_energyOnItsWay_6 rfl (by decide) rfl ?_
  refine z_aload_n (q := 8) dX3_energyOnItsWay_7 rfl rfl rfl ?_
  refine z_alen (q := 9) (by with_reducible assumption) dX3_energyOnItsWay_8 rfl ?_
  refine z_istore_n (q := 10) dX3_energyOnItsWay_9 rfl (by decide) rfl ?_
  refine z_iconst (q := 11) (v := nI 0) dX3_energyOnItsWay_10 (by rfl) rfl ?_
  refine z_istore (q := 13) dX3_energyOnItsWay_11 (by decide) rfl ?_
  have loop : ∀ i, i ≤ 12 → ∀ ls : List (Nat × Value), lv_pick ls [0, 1, 2, 3, 4] = [(0, .ref a), (1, .int (sumI (fun d => sumI (fun k => I (a + 38 + 5 * d + 4) k) 12) i)), (2, .ref (a + 2)), (3, .int (nI 12)), (4, .int (nI i))] → z_X G muX3_energyOnItsWay (1, 0, 0) (z_ret (some (.int (sumI (fun d => sumI (fun k => I (a + 38 + 5 * d + 4) k) 12) 12))) n T I R) n T I R 0 0 13 ls [] := by
    refine z_up (N := 12) _ ?_ ?_
    · intro ls hls
      refine z_pick [0, 1, 2, 3, 4] hls ?_
      refine z_iload (q := 15) (i := 4) dX3_energyOnItsWay_13 rfl rfl ?_
      refine z_iload_n (q := 16) dX3_energyOnItsWay_15 rfl rfl rfl ?_
      refine z_icmpn_ge (rfl) (rfl) (by omega) (by omega) (tgt := 39) (q := 19) dX3_energyOnItsWay_16 (by decide) rfl (fun _ => ?_) (fun hc => absurd hc (by omega))
      refine z_iload_n (q := 40) dX3_energyOnItsWay_39 rfl rfl rfl ?_
      exact z_iret rfl dX3_energyOnItsWay_40 (Nat.zero_le _) (Nat.zero_le _) (⟨rfl, rfl, rfl, rfl, rfl⟩)
    · intro i hi ih ls hls
      have hRi := (hH.2.2.2.2.2.2.1 i hi).1
      have hDi := (hH.2.2.2.2.2.2.1 i hi).2
      have hTi := hDi.1
      refine z_pick [0, 1, 2, 3, 4] hls ?_
      refine z_iload (q := 15) (i := 4) dX3_energyOnItsWay_13 rfl rfl ?_
      refine z_iload_n (q := 16) dX3_energyOnItsWay_15 rfl rfl rfl ?_
      refine z_icmpn_ge (rfl) (rfl) (by omega) (by omega) (tgt := 39) (q := 19) dX3_energyOnItsWay_16 (by decide) rfl (fun hc => absurd hc (by omega)) (fun _ => ?_)
      refine z_aload_n (q := 20) dX3_energyOnItsWay_19 rfl rfl rfl ?_
      refine z_iload (q := 22) (i := 4) dX3_energyOnItsWay_20 rfl rfl ?_
      refine z_aald (q := 23) _ (by with_reducible assumption) (rfl) (by omega) (by decide) (by with_reducible assumption) dX3_energyOnItsWay_22 rfl ?_
      refine z_astore (q := 25) dX3_energyOnItsWay_23 (by decide) rfl ?_
      refine z_iload_n (q := 26) dX3_energyOnItsWay_25 rfl rfl rfl ?_
      refine z_aload (q := 28) dX3_energyOnItsWay_26 rfl rfl ?_
      refine z_invV (q := 31) (c_X0_energyOnItsWay G (a + 38 + 5 * i) hDi) (by with_reducible assumption) rfl gX3_energyOnItsWay_X0_energyOnItsWay rfl hy_X0_energyOnItsWay rfl rfl rfl rfl (Nat.le_of_ble_eq_true rfl) ⟨Nat.zero_le _, Nat.zero_le _⟩ dX3_energyOnItsWay_28 rfl (z_rv ?_)
      refine z_iadd (q := 32) dX3_energyOnItsWay_31 rfl ?_
      refine z_istore_n (q := 33) dX3_energyOnItsWay_32 rfl (by decide) rfl ?_
      refine z_iinc (q := 36) dX3_energyOnItsWay_33 rfl (nI_add _ 1) (by decide) rfl ?_
      refine z_goto (q := 13) dX3_energyOnItsWay_36 (by decide) ?_
      exact ih _ rfl
  exact loop 0 (Nat.zero_le _) _ rfl
def atC (I : zII) (a : Nat) (x : Int32) (d : Nat) : Int32 := if I (a + 38 + 5 * d) 1 ≤ 0 then 0 else if I (a + 38 + 5 * d + 1) 0 = x ∨ I (a + 38 + 5 * d + 1) 1 = x then 1 else 0
set_option maxRecDepth 100000 in
set_option maxHeartbeats 4000000 in
theorem c_X3_doorsOf (G : zG) {n : Nat} {T : zTT} {I : zII} {R : zRR} (a : Nat) (x : Int32) (hH : z_House T R a) : Ct G yX3_doorsOf wsX3_doorsOf (1, 0, 0) [.ref a, .int x] n T I R (z_ret (some (.int (sumI (fun d => atC I a x d) 12))) n T I R) := by
  refine Ct.ofX (M := muX3_doorsOf) (ls := [(0, .ref a), (1, .int x)]) (by decide +kernel) rfl (by decide) rfl rfl (Nat.le_of_ble_eq_true rfl) ?_
  have hTa := hH.1
  obtain ⟨hTr, hRr⟩ := hH.2.2.1
  refine z_iconst (q := 1) (v := nI 0) dX3_doorsOf_0 (by rfl) rfl ?_
  refine z_istore_n (q := 2) dX3_doorsOf_1 rfl (by decide) rfl ?_
  refine z_aload_n (q := 3) dX3_doorsOf_2 rfl rfl rfl ?_
  refine z_getR (q := 6) 3 1 1 10 rfl (by decide) rfl rfl rfl (by with_reducible assumption) (by with_reducible assumption) dX3_doorsOf_3 rfl ?_
  refine z_astore_n (q := 7) dX3_doorsOf_6 rfl (by decide) rfl ?_
  refine z_aload_n (q := 8) dX3_doorsOf_7 rfl rfl rfl ?_
  refine z_alen (q := 9) (by with_reducible assumption) dX3_doorsOf_8 rfl ?_
  refine z_istore (q := 11) dX3_doorsOf_9 (by decide) rfl ?_
  refine z_iconst (q := 12) (v := nI 0) dX3_doorsOf_11 (by rfl) rfl ?_
  refine z_istore (q := 14) dX3_doorsOf_12 (by decide) rfl ?_
  have loop : ∀ i, i ≤ 12 → ∀ ls : List (Nat × Value), lv_pick ls [0, 1, 2, 3, 4, 5] = [(0, .ref a), (1, .int x), (2, .int (sumI (fun d => atC I a x d) i)), (3, .ref (a + 2)), (4, .int (nI 12)), (5, .int (nI i))] → z_X G muX3_doorsOf (1, 0, 0) (z_ret (some (.int (sumI (fun d => atC I a x d) 12))) n T I R) n T I R 0 0 14 ls [] := by
    refine z_up (N := 12) _ ?_ ?_
    · intro ls hls
      refine z_pick [0, 1, 2, 3, 4, 5] hls ?_
      refine z_iload (q := 16) (i := 5) dX3_doorsOf_14 rfl rfl ?_
      refine z_iload (q := 18) (i := 4) dX3_doorsOf_16 rfl rfl ?_
      refine z_icmpn_ge (rfl) (rfl) (by omega) (by omega) (tgt := 50) (q := 21) dX3_doorsOf_18 (by decide) rfl (fun _ => ?_) (fun hc => absurd hc (by omega))
      refine z_iload_n (q := 51) dX3_doorsOf_50 rfl rfl rfl ?_
      exact z_iret rfl dX3_doorsOf_51 (Nat.zero_le _) (Nat.zero_le _) (⟨rfl, rfl, rfl, rfl, rfl⟩)
    · intro i hi ih ls hls
      have hRi := (hH.2.2.2.2.2.2.1 i hi).1
      have hDi := (hH.2.2.2.2.2.2.1 i hi).2
      have hTi := hDi.1
      refine z_pick [0, 1, 2, 3, 4, 5] hls ?_
      refine z_iload (q := 16) (i := 5) dX3_doorsOf_14 rfl rfl ?_
      refine z_iload (q := 18) (i := 4) dX3_doorsOf_16 rfl rfl ?_
      refine z_icmpn_ge (rfl) (rfl) (by omega) (by omega) (tgt := 50) (q := 21) dX3_doorsOf_18 (by decide) rfl (fun hc => absurd hc (by omega)) (fun _ => ?_)
      refine z_aload_n (q := 22) dX3_doorsOf_21 rfl rfl rfl ?_
      refine z_iload (q := 24) (i := 5) dX3_doorsOf_22 rfl rfl ?_
      refine z_aald (q := 25) _ (by with_reducible assumption) (rfl) (by omega) (by decide) (by with_reducible assumption) dX3_doorsOf_24 rfl ?_
      refine z_astore (q := 27) dX3_doorsOf_25 (by decide) rfl ?_
      refine z_iload_n (q := 28) dX3_doorsOf_27 rfl rfl rfl ?_
      refine z_aload (q := 30) dX3_doorsOf_28 rfl rfl ?_
      refine z_iload_n (q := 31) dX3_doorsOf_30 rfl rfl rfl ?_
      refine z_invV (q := 34) (c_X0_isAt G (a + 38 + 5 * i) x hDi) (by with_reducible assumption) rfl gX3_doorsOf_X0_isAt rfl hy_X0_isAt rfl rfl rfl rfl (Nat.le_of_ble_eq_true rfl) ⟨Nat.zero_le _, Nat.zero_le _⟩ dX3_doorsOf_31 rfl (z_rv ?_)
      have h01 : atC I a x i = 0 ∨ atC I a x i = 1 := by
        unfold atC
        split
        · exact Or.inl rfl
        · split
          · exact Or.inr rfl
          · exact Or.inl rfl
      show z_X G muX3_doorsOf (1, 0, 0) (z_ret (some (.int (sumI (fun d => atC I a x d) 12))) n T I R) n T I R 0 0 34 _ [.int (atC I a x i), .int (sumI (fun d => atC I a x d) i)]
      by_cases h0 : atC I a x i = 0
      · refine z_if_eq (tgt := 41) (q := 37) dX3_doorsOf_34 (by decide) rfl (fun _ => ?_) (fun hc => False.elim (hc h0))
        refine z_iconst (q := 42) (v := nI 0) dX3_doorsOf_41 (by rfl) rfl ?_
        refine z_iadd (q := 43) dX3_doorsOf_42 rfl ?_
        refine z_istore_n (q := 44) dX3_doorsOf_43 rfl (by decide) rfl ?_
        refine z_iinc (q := 47) dX3_doorsOf_44 rfl (nI_add _ 1) (by decide) rfl ?_
        refine z_goto (q := 14) dX3_doorsOf_47 (by decide) ?_
        refine ih _ ?_
        rw [sumI_s, h0]
        rfl
      · refine z_if_eq (tgt := 41) (q := 37) dX3_doorsOf_34 (by decide) rfl (fun hc => False.elim (h0 hc)) (fun _ => ?_)
        refine z_iconst (q := 38) (v := nI 1) dX3_doorsOf_37 (by rfl) rfl ?_
        refine z_goto (q := 42) dX3_doorsOf_38 (by decide) ?_
        refine z_iadd (q := 43) dX3_doorsOf_42 rfl ?_
        refine z_istore_n (q := 44) dX3_doorsOf_43 rfl (by decide) rfl ?_
        refine z_iinc (q := 47) dX3_doorsOf_44 rfl (nI_add _ 1) (by decide) rfl ?_
        refine z_goto (q := 14) dX3_doorsOf_47 (by decide) ?_
        refine ih _ ?_
        rw [sumI_s, h01.resolve_left h0, ← zI1]
        rfl
  exact loop 0 (Nat.zero_le _) _ rfl
def arC (I : zII) (a : Nat) (x : Int32) (d : Nat) : Int32 := if atC I a x d = 0 then 0 else I (a + 38 + 5 * d) 1
set_option maxRecDepth 100000 in
set_option maxHeartbeats 4000000 in
theorem c_X3_hasWallFor_n (G : zG) {n : Nat} {T : zTT} {I : zII} {R : zRR} (a nr : Nat) (x ar : Int32) (hH : z_House T R a) (hc4 : I a 4 = nI nr) (hx : x < 0 ∨ nI nr ≤ x) : Ct G yX3_hasWallFor wsX3_hasWallFor (1, 0, 0) [.ref a, .int x, .int ar] n T I R (z_ret (some (.int 1)) n T I R) := by
  refine Ct.ofX (M := muX3_hasWallFor) (ls := [(0, .ref a), (1, .int x), (2, .int ar)]) (by decide +kernel) rfl (by decide) rfl rfl (Nat.le_of_ble_eq_true rfl) ?_
  have hTa := hH.1
  refine z_aload_n (q := 1) dX3_hasWallFor_0 rfl rfl rfl ?_
  refine z_iload_n (q := 2) dX3_hasWallFor_1 rfl rfl rfl ?_
  refine z_invV (q := 5) (c_X3_roomAt_n G a nr x hH hc4 hx) (by with_reducible assumption) rfl gX3_hasWallFor_X3_roomAt rfl hy_X3_roomAt rfl rfl rfl rfl (Nat.le_of_ble_eq_true rfl) ⟨Nat.zero_le _, Nat.zero_le _⟩ dX3_hasWallFor_2 rfl (z_rv ?_)
  refine z_astore_nN (q := 6) dX3_hasWallFor_5 rfl (by decide) rfl ?_
  refine z_aload_nN (q := 7) dX3_hasWallFor_6 rfl rfl rfl ?_
  refine z_ifnonnullN (q := 10) dX3_hasWallFor_7 rfl ?_
  refine z_iconst (q := 11) (v := nI 1) dX3_hasWallFor_10 (by rfl) rfl ?_
  exact z_zret rfl (by rfl) dX3_hasWallFor_11 (Nat.zero_le _) (Nat.zero_le _) (⟨by rw [zI1], rfl, rfl, rfl, rfl⟩)
set_option maxRecDepth 100000 in
set_option maxHeartbeats 4000000 in
theorem c_X3_hasWallFor_s (G : zG) {n : Nat} {T : zTT} {I : zII} {R : zRR} (a k nr : Nat) (ar : Int32) (hH : z_House T R a) (hc4 : I a 4 = nI nr) (hk : k < nr) (hnr : nr ≤ 8) : Ct G yX3_hasWallFor wsX3_hasWallFor (1, 0, 0) [.ref a, .int (nI k), .int ar] n T I R (z_ret (some (.int (if I (a + 22 + 2 * k) 0 < ar + sumI (fun d => arC I a (nI k) d) 12 then 0 else 1))) n T I R) := by
  refine Ct.ofX (M := muX3_hasWallFor) (ls := [(0, .ref a), (1, .int (nI k)), (2, .int ar)]) (by decide +kernel) rfl (by decide) rfl rfl (Nat.le_of_ble_eq_true rfl) ?_
  have hTa := hH.1
  obtain ⟨hTr, hRr⟩ := hH.2.2.1
  have hTk := (hH.2.2.2.2.2.1 k (by omega)).2.1
  refine z_aload_n (q := 1) dX3_hasWallFor_0 rfl rfl rfl ?_
  refine z_iload_n (q := 2) dX3_hasWallFor_1 rfl rfl rfl ?_
  refine z_invV (q := 5) (c_X3_roomAt_s G a k nr hH hc4 hk hnr) (by with_reducible assumption) rfl gX3_hasWallFor_X3_roomAt rfl hy_X3_roomAt rfl rfl rfl rfl (Nat.le_of_ble_eq_true rfl) ⟨Nat.zero_le _, Nat.zero_le _⟩ dX3_hasWallFor_2 rfl (z_rv ?_)
  refine z_astore_n (q := 6) dX3_hasWallFor_5 rfl (by decide) rfl ?_
  refine z_aload_n (q := 7) dX3_hasWallFor_6 rfl rfl rfl ?_
  refine z_ifnonnull (q := 12) dX3_hasWallFor_7 (by decide) ?_
  refine z_iload_n (q := 13) dX3_hasWallFor_12 rfl rfl rfl ?_
  refine z_istore (q := 15) dX3_hasWallFor_13 (by decide) rfl ?_
  refine z_aload_n (q := 16) dX3_hasWallFor_15 rfl rfl rfl ?_
  refine z_getR (q := 19) 3 1 1 19 rfl (by decide) rfl rfl rfl (by with_reducible assumption) (by with_reducible assumption) dX3_hasWallFor_16 rfl ?_
  refine z_astore (q := 21) dX3_hasWallFor_19 (by decide) rfl ?_
  refine z_aload (q := 23) dX3_hasWallFor_21 rfl rfl ?_
  refine z_alen (q := 24) (by with_reducible assumption) dX3_hasWallFor_23 rfl ?_
  refine z_istore (q := 26) dX3_hasWallFor_24 (by decide) rfl ?_
  refine z_iconst (q := 27) (v := nI 0) dX3_hasWallFor_26 (by rfl) rfl ?_
  refine z_istore (q := 29) dX3_hasWallFor_27 (by decide) rfl ?_
  have loop : ∀ i, i ≤ 12 → ∀ y, y = ar + sumI (fun d => arC I a (nI k) d) i → ∀ ls : List (Nat × Value), lv_pick ls [0, 1, 2, 3, 4, 5, 6, 7] = [(0, .ref a), (1, .int (nI k)), (2, .int ar), (3, .ref (a + 22 + 2 * k)), (4, .int y), (5, .ref (a + 2)), (6, .int (nI 12)), (7, .int (nI i))] → z_X G muX3_hasWallFor (1, 0, 0) (z_ret (some (.int (if I (a + 22 + 2 * k) 0 < ar + sumI (fun d => arC I a (nI k) d) 12 then 0 else 1))) n T I R) n T I R 0 0 29 ls [] := by
    refine z_up (N := 12) _ ?_ ?_
    · intro y hy ls hls
      refine z_pick [0, 1, 2, 3, 4, 5, 6, 7] hls ?_
      refine z_iload (q := 31) (i := 7) dX3_hasWallFor_29 rfl rfl ?_
      refine z_iload (q := 33) (i := 6) dX3_hasWallFor_31 rfl rfl ?_
      refine z_icmpn_ge (rfl) (rfl) (by omega) (by omega) (tgt := 72) (q := 36) dX3_hasWallFor_33 (by decide) rfl (fun _ => ?_) (fun hc => absurd hc (by omega))
      refine z_iload (q := 74) (i := 4) dX3_hasWallFor_72 rfl rfl ?_
      refine z_aload_n (q := 75) dX3_hasWallFor_74 rfl rfl rfl ?_
      refine z_getI (q := 78) 5 0 3 38 rfl (by decide) rfl rfl rfl (by with_reducible assumption) dX3_hasWallFor_75 rfl ?_
      rw [hy]
      refine z_icmp_gt (tgt := 85) (q := 81) dX3_hasWallFor_78 (by decide) rfl (fun h78 => ?_) (fun h78 => ?_)
      · refine z_iconst (q := 86) (v := nI 0) dX3_hasWallFor_85 (by rfl) rfl ?_
        exact z_zret rfl (by rfl) dX3_hasWallFor_86 (Nat.zero_le _) (Nat.zero_le _) (⟨by rw [if_pos h78]; rfl, rfl, rfl, rfl, rfl⟩)
      · refine z_iconst (q := 82) (v := nI 1) dX3_hasWallFor_81 (by rfl) rfl ?_
        refine z_goto (q := 86) dX3_hasWallFor_82 (by decide) ?_
        exact z_zret rfl (by rfl) dX3_hasWallFor_86 (Nat.zero_le _) (Nat.zero_le _) (⟨by rw [if_neg h78, zI1], rfl, rfl, rfl, rfl⟩)
    · intro i hi ih y hy ls hls
      have hRi := (hH.2.2.2.2.2.2.1 i hi).1
      have hDi := (hH.2.2.2.2.2.2.1 i hi).2
      have hTi := hDi.1
      refine z_pick [0, 1, 2, 3, 4, 5, 6, 7] hls ?_
      refine z_iload (q := 31) (i := 7) dX3_hasWallFor_29 rfl rfl ?_
      refine z_iload (q := 33) (i := 6) dX3_hasWallFor_31 rfl rfl ?_
      refine z_icmpn_ge (rfl) (rfl) (by omega) (by omega) (tgt := 72) (q := 36) dX3_hasWallFor_33 (by decide) rfl (fun hc => absurd hc (by omega)) (fun _ => ?_)
      refine z_aload (q := 38) dX3_hasWallFor_36 rfl rfl ?_
      refine z_iload (q := 40) (i := 7) dX3_hasWallFor_38 rfl rfl ?_
      refine z_aald (q := 41) _ (by with_reducible assumption) (rfl) (by omega) (by decide) (by with_reducible assumption) dX3_hasWallFor_40 rfl ?_
      refine z_astore (q := 43) dX3_hasWallFor_41 (by decide) rfl ?_
      refine z_iload (q := 45) (i := 4) dX3_hasWallFor_43 rfl rfl ?_
      refine z_aload (q := 47) dX3_hasWallFor_45 rfl rfl ?_
      refine z_iload_n (q := 48) dX3_hasWallFor_47 rfl rfl rfl ?_
      refine z_invV (q := 51) (c_X0_isAt G (a + 38 + 5 * i) (nI k) hDi) (by with_reducible assumption) rfl gX3_hasWallFor_X0_isAt rfl hy_X0_isAt rfl rfl rfl rfl (Nat.le_of_ble_eq_true rfl) ⟨Nat.zero_le _, Nat.zero_le _⟩ dX3_hasWallFor_48 rfl (z_rv ?_)
      by_cases h0 : atC I a (nI k) i = 0
      · refine z_if_eq (tgt := 62) (q := 54) dX3_hasWallFor_51 (by decide) rfl (fun _ => ?_) (fun hc => False.elim (hc h0))
        refine z_iconst (q := 63) (v := nI 0) dX3_hasWallFor_62 (by rfl) rfl ?_
        refine z_iadd (q := 64) dX3_hasWallFor_63 rfl ?_
        refine z_istore (q := 66) dX3_hasWallFor_64 (by decide) rfl ?_
        refine z_iinc (q := 69) dX3_hasWallFor_66 rfl (nI_add _ 1) (by decide) rfl ?_
        refine z_goto (q := 29) dX3_hasWallFor_69 (by decide) ?_
        refine ih (y + nI 0) ?_ _ rfl
        rw [sumI_s, arC, if_pos h0, hy, Int32.add_assoc]
        rfl
      · refine z_if_eq (tgt := 62) (q := 54) dX3_hasWallFor_51 (by decide) rfl (fun hc => False.elim (h0 hc)) (fun _ => ?_)
        refine z_aload (q := 56) dX3_hasWallFor_54 rfl rfl ?_
        refine z_getI (q := 59) 0 1 2 29 rfl (by decide) rfl rfl rfl (by with_reducible assumption) dX3_hasWallFor_56 rfl ?_
        refine z_goto (q := 63) dX3_hasWallFor_59 (by decide) ?_
        refine z_iadd (q := 64) dX3_hasWallFor_63 rfl ?_
        refine z_istore (q := 66) dX3_hasWallFor_64 (by decide) rfl ?_
        refine z_iinc (q := 69) dX3_hasWallFor_66 rfl (nI_add _ 1) (by decide) rfl ?_
        refine z_goto (q := 29) dX3_hasWallFor_69 (by decide) ?_
        refine ih (y + I (a + 38 + 5 * i) 1) ?_ _ rfl
        rw [sumI_s, arC, if_neg h0, hy, Int32.add_assoc]
  refine loop 0 (Nat.zero_le _) _ ?_ _ rfl
  rw [sumI_0, Int32.add_zero]
def dnC (I : zII) (a nr : Nat) (x : Int32) : Int32 := if x < 0 ∨ nI nr ≤ x then 0 else if I (a + 22 + 2 * x.toNatClampNeg) 0 ≤ 0 then 0 else I (a + 22 + 2 * x.toNatClampNeg) 2 / I (a + 22 + 2 * x.toNatClampNeg) 0
set_option maxRecDepth 100000 in
set_option maxHeartbeats 4000000 in
theorem c_X3_densityAt (G : zG) {n : Nat} {T : zTT} {I : zII} {R : zRR} (a nr : Nat) (x : Int32) (hH : z_House T R a) (hc4 : I a 4 = nI nr) (hnr : nr ≤ 8) : Ct G yX3_densityAt wsX3_densityAt (1, 0, 0) [.ref a, .int x] n T I R (z_ret (some (.int (dnC I a nr x))) n T I R) := by
  refine Ct.ofX (M := muX3_densityAt) (ls := [(0, .ref a), (1, .int x)]) (by decide +kernel) rfl (by decide) rfl rfl (Nat.le_of_ble_eq_true rfl) ?_
  have hTa := hH.1
  by_cases hx : x < 0 ∨ nI nr ≤ x
  · refine z_aload_n (q := 1) dX3_densityAt_0 rfl rfl rfl ?_
    refine z_iload_n (q := 2) dX3_densityAt_1 rfl rfl rfl ?_
    refine z_invV (q := 5) (c_X3_roomAt_n G a nr x hH hc4 hx) (by with_reducible assumption) rfl gX3_densityAt_X3_roomAt rfl hy_X3_roomAt rfl rfl rfl rfl (Nat.le_of_ble_eq_true rfl) ⟨Nat.zero_le _, Nat.zero_le _⟩ dX3_densityAt_2 rfl (z_rv ?_)
    refine z_astore_nN (q := 6) dX3_densityAt_5 rfl (by decide) rfl ?_
    refine z_aload_nN (q := 7) dX3_densityAt_6 rfl rfl rfl ?_
    refine z_ifnonnullN (q := 10) dX3_densityAt_7 rfl ?_
    refine z_iconst (q := 11) (v := nI 0) dX3_densityAt_10 (by rfl) rfl ?_
    refine z_goto (q := 18) dX3_densityAt_11 (by decide) ?_
    exact z_iret rfl dX3_densityAt_18 (Nat.zero_le _) (Nat.zero_le _) (⟨by rw [dnC, if_pos hx]; rfl, rfl, rfl, rfl, rfl⟩)
  · obtain ⟨k, hk, rfl⟩ : ∃ k, k < nr ∧ x = nI k := by
      rcases pk_ix x (n := nr) (by omega) with h | h | h
      · exact absurd (Or.inl h) hx
      · exact absurd (Or.inr h) hx
      · exact h
    have hRm := (hH.2.2.2.2.2.1 k (by omega)).2
    have hTk := hRm.1
    refine z_aload_n (q := 1) dX3_densityAt_0 rfl rfl rfl ?_
    refine z_iload_n (q := 2) dX3_densityAt_1 rfl rfl rfl ?_
    refine z_invV (q := 5) (c_X3_roomAt_s G a k nr hH hc4 hk hnr) (by with_reducible assumption) rfl gX3_densityAt_X3_roomAt rfl hy_X3_roomAt rfl rfl rfl rfl (Nat.le_of_ble_eq_true rfl) ⟨Nat.zero_le _, Nat.zero_le _⟩ dX3_densityAt_2 rfl (z_rv ?_)
    refine z_astore_n (q := 6) dX3_densityAt_5 rfl (by decide) rfl ?_
    refine z_aload_n (q := 7) dX3_densityAt_6 rfl rfl rfl ?_
    refine z_ifnonnull (q := 14) dX3_densityAt_7 (by decide) ?_
    refine z_aload_n (q := 15) dX3_densityAt_14 rfl rfl rfl ?_
    refine z_invV (q := 18) (c_X5_density G (a + 22 + 2 * k) hRm) (by with_reducible assumption) rfl gX3_densityAt_X5_density rfl hy_X5_density rfl rfl rfl rfl (Nat.le_of_ble_eq_true rfl) ⟨Nat.zero_le _, Nat.zero_le _⟩ dX3_densityAt_15 rfl (z_rv ?_)
    exact z_iret rfl dX3_densityAt_18 (Nat.zero_le _) (Nat.zero_le _) (⟨by rw [dnC, if_neg hx, nI_clamp (by omega)], rfl, rfl, rfl, rfl⟩)
def enC (I : zII) (a nr : Nat) (x : Int32) : Int32 := if x < 0 ∨ nI nr ≤ x then 0 else I (a + 22 + 2 * x.toNatClampNeg) 2
