/-! ENTRY: five numbers in a cell; isSound is 0 or 1 -/
set_option maxRecDepth 100000 in
set_option maxHeartbeats 4000000 in
theorem c_X1_isHeardIn (G : zG) {n : Nat} {T : zTT} {I : zII} {R : zRR} (a : Nat) (x : Int32) (hT : T a = some (.inl 1)) : Ct G yX1_isHeardIn wsX1_isHeardIn (0, 0, 0) [.ref a, .int x] n T I R (z_ret (some (.int (if I a 0 = 0 ∨ x < I a 1 ∨ I a 1 + I a 3 ≤ x then 0 else 1))) n T I R) := by
  refine Ct.ofX (M := muX1_isHeardIn) (ls := [(0, .ref a), (1, .int x)]) (by decide +kernel) rfl (by decide) rfl rfl (Nat.le_of_ble_eq_true rfl) ?_
  refine z_aload_n (q := 1) dX1_isHeardIn_0 rfl rfl rfl ?_
  refine z_getI (q := 4) 1 0 1 4 rfl (by decide) rfl rfl rfl (by with_reducible assumption) dX1_isHeardIn_1 rfl ?_
  refine z_if_eq (tgt := 32) (q := 7) dX1_isHeardIn_4 (by decide) rfl (fun h4 => ?_) (fun h4 => ?_)
  · refine z_iconst (q := 33) (v := nI 0) dX1_isHeardIn_32 (by rfl) rfl ?_
    exact z_zret rfl (by rfl) dX1_isHeardIn_33 (Nat.zero_le _) (Nat.zero_le _) (⟨by simp_all [nI_0, zI1], rfl, rfl, rfl, rfl⟩)
  · refine z_aload_n (q := 8) dX1_isHeardIn_7 rfl rfl rfl ?_
    refine z_getI (q := 11) 1 1 2 5 rfl (by decide) rfl rfl rfl (by with_reducible assumption) dX1_isHeardIn_8 rfl ?_
    refine z_iload_n (q := 12) dX1_isHeardIn_11 rfl rfl rfl ?_
    refine z_icmp_gt (tgt := 32) (q := 15) dX1_isHeardIn_12 (by decide) rfl (fun h12 => ?_) (fun h12 => ?_)
    · refine z_iconst (q := 33) (v := nI 0) dX1_isHeardIn_32 (by rfl) rfl ?_
      exact z_zret rfl (by rfl) dX1_isHeardIn_33 (Nat.zero_le _) (Nat.zero_le _) (⟨by simp_all [nI_0, zI1], rfl, rfl, rfl, rfl⟩)
    · refine z_iload_n (q := 16) dX1_isHeardIn_15 rfl rfl rfl ?_
      refine z_aload_n (q := 17) dX1_isHeardIn_16 rfl rfl rfl ?_
      refine z_getI (q := 20) 1 1 2 5 rfl (by decide) rfl rfl rfl (by with_reducible assumption) dX1_isHeardIn_17 rfl ?_
      refine z_aload_n (q := 21) dX1_isHeardIn_20 rfl rfl rfl ?_
      refine z_getI (q := 24) 1 3 3 7 rfl (by decide) rfl rfl rfl (by with_reducible assumption) dX1_isHeardIn_21 rfl ?_
      refine z_iadd (q := 25) dX1_isHeardIn_24 rfl ?_
      refine z_icmp_ge (tgt := 32) (q := 28) dX1_isHeardIn_25 (by decide) rfl (fun h25 => ?_) (fun h25 => ?_)
      · refine z_iconst (q := 33) (v := nI 0) dX1_isHeardIn_32 (by rfl) rfl ?_
        exact z_zret rfl (by rfl) dX1_isHeardIn_33 (Nat.zero_le _) (Nat.zero_le _) (⟨by simp_all [nI_0, zI1], rfl, rfl, rfl, rfl⟩)
      · refine z_iconst (q := 29) (v := nI 1) dX1_isHeardIn_28 (by rfl) rfl ?_
        refine z_goto (q := 33) dX1_isHeardIn_29 (by decide) ?_
        exact z_zret rfl (by rfl) dX1_isHeardIn_33 (Nat.zero_le _) (Nat.zero_le _) (⟨by simp_all [nI_0, zI1], rfl, rfl, rfl, rfl⟩)
set_option maxRecDepth 100000 in
set_option maxHeartbeats 4000000 in
theorem c_X1_isTargetFor (G : zG) {n : Nat} {T : zTT} {I : zII} {R : zRR} (a : Nat) (x : Int32) (hT : T a = some (.inl 1)) : Ct G yX1_isTargetFor wsX1_isTargetFor (0, 0, 0) [.ref a, .int x] n T I R (z_ret (some (.int (if I a 0 = 0 ∧ I a 1 = x then 1 else 0))) n T I R) := by
  refine Ct.ofX (M := muX1_isTargetFor) (ls := [(0, .ref a), (1, .int x)]) (by decide +kernel) rfl (by decide) rfl rfl (Nat.le_of_ble_eq_true rfl) ?_
  refine z_aload_n (q := 1) dX1_isTargetFor_0 rfl rfl rfl ?_
  refine z_getI (q := 4) 1 0 1 3 rfl (by decide) rfl rfl rfl (by with_reducible assumption) dX1_isTargetFor_1 rfl ?_
  refine z_if_ne (tgt := 19) (q := 7) dX1_isTargetFor_4 (by decide) rfl (fun h4 => ?_) (fun h4 => ?_)
  · refine z_iconst (q := 20) (v := nI 0) dX1_isTargetFor_19 (by rfl) rfl ?_
    exact z_zret rfl (by rfl) dX1_isTargetFor_20 (Nat.zero_le _) (Nat.zero_le _) (⟨by simp_all [nI_0, zI1], rfl, rfl, rfl, rfl⟩)
  · refine z_aload_n (q := 8) dX1_isTargetFor_7 rfl rfl rfl ?_
    refine z_getI (q := 11) 1 1 2 4 rfl (by decide) rfl rfl rfl (by with_reducible assumption) dX1_isTargetFor_8 rfl ?_
    refine z_iload_n (q := 12) dX1_isTargetFor_11 rfl rfl rfl ?_
    refine z_icmp_ne (tgt := 19) (q := 15) dX1_isTargetFor_12 (by decide) rfl (fun h12 => ?_) (fun h12 => ?_)
    · refine z_iconst (q := 20) (v := nI 0) dX1_isTargetFor_19 (by rfl) rfl ?_
      exact z_zret rfl (by rfl) dX1_isTargetFor_20 (Nat.zero_le _) (Nat.zero_le _) (⟨by simp_all [nI_0, zI1], rfl, rfl, rfl, rfl⟩)
    · refine z_iconst (q := 16) (v := nI 1) dX1_isTargetFor_15 (by rfl) rfl ?_
      refine z_goto (q := 20) dX1_isTargetFor_16 (by decide) ?_
      exact z_zret rfl (by rfl) dX1_isTargetFor_20 (Nat.zero_le _) (Nat.zero_le _) (⟨by simp_all [nI_0, zI1], rfl, rfl, rfl, rfl⟩)
set_option maxRecDepth 100000 in
set_option maxHeartbeats 4000000 in
theorem c_X1_endsWith (G : zG) {n : Nat} {T : zTT} {I : zII} {R : zRR} (a : Nat) (x : Int32) (hT : T a = some (.inl 1)) : Ct G yX1_endsWith wsX1_endsWith (0, 0, 0) [.ref a, .int x] n T I R (z_ret (some (.int (if I a 0 = 0 then (if x < I a 1 then 0 else 1) else if x < I a 1 + I a 3 - 1 then 0 else 1))) n T I R) := by
  refine Ct.ofX (M := muX1_endsWith) (ls := [(0, .ref a), (1, .int x)]) (by decide +kernel) rfl (by decide) rfl rfl (Nat.le_of_ble_eq_true rfl) ?_
  refine z_aload_n (q := 1) dX1_endsWith_0 rfl rfl rfl ?_
  refine z_getI (q := 4) 1 0 1 4 rfl (by decide) rfl rfl rfl (by with_reducible assumption) dX1_endsWith_1 rfl ?_
  refine z_if_eq (tgt := 30) (q := 7) dX1_endsWith_4 (by decide) rfl (fun h4 => ?_) (fun h4 => ?_)
  · refine z_aload_n (q := 31) dX1_endsWith_30 rfl rfl rfl ?_
    refine z_getI (q := 34) 1 1 2 5 rfl (by decide) rfl rfl rfl (by with_reducible assumption) dX1_endsWith_31 rfl ?_
    refine z_iload_n (q := 35) dX1_endsWith_34 rfl rfl rfl ?_
    refine z_icmp_gt (tgt := 42) (q := 38) dX1_endsWith_35 (by decide) rfl (fun h35 => ?_) (fun h35 => ?_)
    · refine z_iconst (q := 43) (v := nI 0) dX1_endsWith_42 (by rfl) rfl ?_
      exact z_zret rfl (by rfl) dX1_endsWith_43 (Nat.zero_le _) (Nat.zero_le _) (⟨by simp_all [nI_0, zI1], rfl, rfl, rfl, rfl⟩)
    · refine z_iconst (q := 39) (v := nI 1) dX1_endsWith_38 (by rfl) rfl ?_
      refine z_goto (q := 43) dX1_endsWith_39 (by decide) ?_
      exact z_zret rfl (by rfl) dX1_endsWith_43 (Nat.zero_le _) (Nat.zero_le _) (⟨by simp_all [nI_0, zI1], rfl, rfl, rfl, rfl⟩)
  · refine z_aload_n (q := 8) dX1_endsWith_7 rfl rfl rfl ?_
    refine z_getI (q := 11) 1 1 2 5 rfl (by decide) rfl rfl rfl (by with_reducible assumption) dX1_endsWith_8 rfl ?_
    refine z_aload_n (q := 12) dX1_endsWith_11 rfl rfl rfl ?_
    refine z_getI (q := 15) 1 3 3 7 rfl (by decide) rfl rfl rfl (by with_reducible assumption) dX1_endsWith_12 rfl ?_
    refine z_iadd (q := 16) dX1_endsWith_15 rfl ?_
    refine z_iconst (q := 17) (v := nI 1) dX1_endsWith_16 (by rfl) rfl ?_
    refine z_isub (q := 18) dX1_endsWith_17 rfl ?_
    refine z_iload_n (q := 19) dX1_endsWith_18 rfl rfl rfl ?_
    refine z_icmp_gt (tgt := 26) (q := 22) dX1_endsWith_19 (by decide) rfl (fun h19 => ?_) (fun h19 => ?_)
    · refine z_iconst (q := 27) (v := nI 0) dX1_endsWith_26 (by rfl) rfl ?_
      refine z_goto (q := 43) dX1_endsWith_27 (by decide) ?_
      exact z_zret rfl (by rfl) dX1_endsWith_43 (Nat.zero_le _) (Nat.zero_le _) (⟨by simp_all [nI_0, zI1], rfl, rfl, rfl, rfl⟩)
    · refine z_iconst (q := 23) (v := nI 1) dX1_endsWith_22 (by rfl) rfl ?_
      refine z_goto (q := 43) dX1_endsWith_23 (by decide) ?_
      exact z_zret rfl (by rfl) dX1_endsWith_43 (Nat.zero_le _) (Nat.zero_le _) (⟨by simp_all [nI_0, zI1], rfl, rfl, rfl, rfl⟩)
set_option maxRecDepth 100000 in
set_option maxHeartbeats 4000000 in
theorem c_X1_allEnergy (G : zG) {n : Nat} {T : zTT} {I : zII} {R : zRR} (a : Nat) (hT : T a = some (.inl 1)) : Ct G yX1_allEnergy wsX1_allEnergy (0, 0, 0) [.ref a] n T I R (z_ret (some (.int (if I a 0 = 0 then 0 else I a 3 * I a 4))) n T I R) := by
  refine Ct.ofX (M := muX1_allEnergy) (ls := [(0, .ref a)]) (by decide +kernel) rfl (by decide) rfl rfl (Nat.le_of_ble_eq_true rfl) ?_
  refine z_aload_n (q := 1) dX1_allEnergy_0 rfl rfl rfl ?_
  refine z_getI (q := 4) 1 0 1 4 rfl (by decide) rfl rfl rfl (by with_reducible assumption) dX1_allEnergy_1 rfl ?_
  refine z_if_eq (tgt := 19) (q := 7) dX1_allEnergy_4 (by decide) rfl (fun h4 => ?_) (fun h4 => ?_)
  · refine z_iconst (q := 20) (v := nI 0) dX1_allEnergy_19 (by rfl) rfl ?_
    exact z_iret rfl dX1_allEnergy_20 (Nat.zero_le _) (Nat.zero_le _) (⟨by simp_all [nI_0, zI1], rfl, rfl, rfl, rfl⟩)
  · refine z_aload_n (q := 8) dX1_allEnergy_7 rfl rfl rfl ?_
    refine z_getI (q := 11) 1 3 2 7 rfl (by decide) rfl rfl rfl (by with_reducible assumption) dX1_allEnergy_8 rfl ?_
    refine z_aload_n (q := 12) dX1_allEnergy_11 rfl rfl rfl ?_
    refine z_getI (q := 15) 1 4 3 8 rfl (by decide) rfl rfl rfl (by with_reducible assumption) dX1_allEnergy_12 rfl ?_
    refine z_imul (q := 16) dX1_allEnergy_15 rfl ?_
    refine z_goto (q := 20) dX1_allEnergy_16 (by decide) ?_
    exact z_iret rfl dX1_allEnergy_20 (Nat.zero_le _) (Nat.zero_le _) (⟨by simp_all [nI_0, zI1], rfl, rfl, rfl, rfl⟩)
set_option maxRecDepth 100000 in
set_option maxHeartbeats 4000000 in
theorem c_X1_becomeSound (G : zG) {n : Nat} {T : zTT} {I : zII} {R : zRR} (a : Nat) (x1 x2 x3 x4 : Int32) (hT : T a = some (.inl 1)) : Ct G yX1_becomeSound wsX1_becomeSound (0, 0, 0) [.ref a, .int x1, .int x2, .int x3, .int x4] n T I R (z_ret none n T (zw (zw (zw (zw (zw I a 0 1) a 2 x1) a 1 x2) a 3 x3) a 4 x4) R) := by
  refine Ct.ofX (M := muX1_becomeSound) (ls := [(0, .ref a), (1, .int x1), (2, .int x2), (3, .int x3), (4, .int x4)]) (by decide +kernel) rfl (by decide) rfl rfl (Nat.le_of_ble_eq_true rfl) ?_
  refine z_aload_n (q := 1) dX1_becomeSound_0 rfl rfl rfl ?_
  refine z_iconst (q := 2) (v := nI 1) dX1_becomeSound_1 (by rfl) rfl ?_
  refine z_put (q := 5) 1 0 1 6 rfl (by decide) rfl rfl (tyX1_ok 0 (by decide)) (rfl) (rfl) rfl (by with_reducible assumption) dX1_becomeSound_2 rfl ?_
  refine z_aload_n (q := 6) dX1_becomeSound_5 rfl rfl rfl ?_
  refine z_iload_n (q := 7) dX1_becomeSound_6 rfl rfl rfl ?_
  refine z_put (q := 10) 1 2 2 8 rfl (by decide) rfl rfl (tyX1_ok 2 (by decide)) (rfl) (rfl) rfl (by with_reducible assumption) dX1_becomeSound_7 rfl ?_
  refine z_aload_n (q := 11) dX1_becomeSound_10 rfl rfl rfl ?_
  refine z_iload_n (q := 12) dX1_becomeSound_11 rfl rfl rfl ?_
  refine z_put (q := 15) 1 1 3 7 rfl (by decide) rfl rfl (tyX1_ok 1 (by decide)) (rfl) (rfl) rfl (by with_reducible assumption) dX1_becomeSound_12 rfl ?_
  refine z_aload_n (q := 16) dX1_becomeSound_15 rfl rfl rfl ?_
  refine z_iload_n (q := 17) dX1_becomeSound_16 rfl rfl rfl ?_
  refine z_put (q := 20) 1 3 4 9 rfl (by decide) rfl rfl (tyX1_ok 3 (by decide)) (rfl) (rfl) rfl (by with_reducible assumption) dX1_becomeSound_17 rfl ?_
  refine z_aload_n (q := 21) dX1_becomeSound_20 rfl rfl rfl ?_
  refine z_iload (q := 23) (i := 4) dX1_becomeSound_21 rfl rfl ?_
  refine z_put (q := 26) 1 4 5 10 rfl (by decide) rfl rfl (tyX1_ok 4 (by decide)) (rfl) (rfl) rfl (by with_reducible assumption) dX1_becomeSound_23 rfl ?_
  exact z_vret rfl dX1_becomeSound_26 (Nat.zero_le _) (Nat.zero_le _) (⟨rfl, rfl, rfl, rfl, rfl⟩)
set_option maxRecDepth 100000 in
set_option maxHeartbeats 4000000 in
theorem c_X1_becomeTarget (G : zG) {n : Nat} {T : zTT} {I : zII} {R : zRR} (a : Nat) (x1 x2 x3 : Int32) (hT : T a = some (.inl 1)) : Ct G yX1_becomeTarget wsX1_becomeTarget (0, 0, 0) [.ref a, .int x1, .int x2, .int x3] n T I R (z_ret none n T (zw (zw (zw (zw (zw I a 0 0) a 2 x1) a 1 x2) a 3 0) a 4 x3) R) := by
  refine Ct.ofX (M := muX1_becomeTarget) (ls := [(0, .ref a), (1, .int x1), (2, .int x2), (3, .int x3)]) (by decide +kernel) rfl (by decide) rfl rfl (Nat.le_of_ble_eq_true rfl) ?_
  refine z_aload_n (q := 1) dX1_becomeTarget_0 rfl rfl rfl ?_
  refine z_iconst (q := 2) (v := nI 0) dX1_becomeTarget_1 (by rfl) rfl ?_
  refine z_put (q := 5) 1 0 1 6 rfl (by decide) rfl rfl (tyX1_ok 0 (by decide)) (rfl) (rfl) rfl (by with_reducible assumption) dX1_becomeTarget_2 rfl ?_
  refine z_aload_n (q := 6) dX1_becomeTarget_5 rfl rfl rfl ?_
  refine z_iload_n (q := 7) dX1_becomeTarget_6 rfl rfl rfl ?_
  refine z_put (q := 10) 1 2 2 8 rfl (by decide) rfl rfl (tyX1_ok 2 (by decide)) (rfl) (rfl) rfl (by with_reducible assumption) dX1_becomeTarget_7 rfl ?_
  refine z_aload_n (q := 11) dX1_becomeTarget_10 rfl rfl rfl ?_
  refine z_iload_n (q := 12) dX1_becomeTarget_11 rfl rfl rfl ?_
  refine z_put (q := 15) 1 1 3 7 rfl (by decide) rfl rfl (tyX1_ok 1 (by decide)) (rfl) (rfl) rfl (by with_reducible assumption) dX1_becomeTarget_12 rfl ?_
  refine z_aload_n (q := 16) dX1_becomeTarget_15 rfl rfl rfl ?_
  refine z_iconst (q := 17) (v := nI 0) dX1_becomeTarget_16 (by rfl) rfl ?_
  refine z_put (q := 20) 1 3 4 9 rfl (by decide) rfl rfl (tyX1_ok 3 (by decide)) (rfl) (rfl) rfl (by with_reducible assumption) dX1_becomeTarget_17 rfl ?_
  refine z_aload_n (q := 21) dX1_becomeTarget_20 rfl rfl rfl ?_
  refine z_iload_n (q := 22) dX1_becomeTarget_21 rfl rfl rfl ?_
  refine z_put (q := 25) 1 4 5 10 rfl (by decide) rfl rfl (tyX1_ok 4 (by decide)) (rfl) (rfl) rfl (by with_reducible assumption) dX1_becomeTarget_22 rfl ?_
  exact z_vret rfl dX1_becomeTarget_25 (Nat.zero_le _) (Nat.zero_le _) (⟨rfl, rfl, rfl, rfl, rfl⟩)
theorem z_bn {x : Int32} (h : x = 0 ∨ x = 1) : narrow .boolean (.int x) = .int x := by rcases h with rfl | rfl <;> rfl
theorem z_bf {x : Int32} (h : x = 0 ∨ x = 1) : fits .boolean (.int x) = true := by rcases h with rfl | rfl <;> rfl
set_option maxRecDepth 100000 in
set_option maxHeartbeats 4000000 in
theorem c_X1_copyFrom (G : zG) {n : Nat} {T : zTT} {I : zII} {R : zRR} (a b : Nat) (hT : T a = some (.inl 1)) (hTb : T b = some (.inl 1)) (hb : I b 0 = 0 ∨ I b 0 = 1) : Ct G yX1_copyFrom wsX1_copyFrom (0, 0, 0) [.ref a, .ref b] n T I R (z_ret none n T (fun q k => if q = a ∧ k < 5 then I b k else I q k) R) := by
  refine Ct.ofX (M := muX1_copyFrom) (ls := [(0, .ref a), (1, .ref b)]) (by decide +kernel) rfl (by decide) rfl rfl (Nat.le_of_ble_eq_true rfl) ?_
  refine z_aload_n (q := 1) dX1_copyFrom_0 rfl rfl rfl ?_
  refine z_aload_n (q := 2) dX1_copyFrom_1 rfl rfl rfl ?_
  refine z_getI (q := 5) 1 0 1 6 rfl (by decide) rfl rfl rfl (by with_reducible assumption) dX1_copyFrom_2 rfl ?_
  refine z_put (q := 8) 1 0 1 6 rfl (by decide) rfl rfl (tyX1_ok 0 (by decide)) (z_bn hb) (z_bf hb) rfl (by with_reducible assumption) dX1_copyFrom_5 rfl ?_
  refine z_aload_n (q := 9) dX1_copyFrom_8 rfl rfl rfl ?_
  refine z_aload_n (q := 10) dX1_copyFrom_9 rfl rfl rfl ?_
  refine z_getI (q := 13) 1 1 2 7 rfl (by decide) rfl rfl rfl (by with_reducible assumption) dX1_copyFrom_10 rfl ?_
  refine z_put (q := 16) 1 1 2 7 rfl (by decide) rfl rfl (tyX1_ok 1 (by decide)) (rfl) (rfl) rfl (by with_reducible assumption) dX1_copyFrom_13 rfl ?_
  refine z_aload_n (q := 17) dX1_copyFrom_16 rfl rfl rfl ?_
  refine z_aload_n (q := 18) dX1_copyFrom_17 rfl rfl rfl ?_
  refine z_getI (q := 21) 1 2 3 8 rfl (by decide) rfl rfl rfl (by with_reducible assumption) dX1_copyFrom_18 rfl ?_
  refine z_put (q := 24) 1 2 3 8 rfl (by decide) rfl rfl (tyX1_ok 2 (by decide)) (rfl) (rfl) rfl (by with_reducible assumption) dX1_copyFrom_21 rfl ?_
  refine z_aload_n (q := 25) dX1_copyFrom_24 rfl rfl rfl ?_
  refine z_aload_n (q := 26) dX1_copyFrom_25 rfl rfl rfl ?_
  refine z_getI (q := 29) 1 3 4 9 rfl (by decide) rfl rfl rfl (by with_reducible assumption) dX1_copyFrom_26 rfl ?_
  refine z_put (q := 32) 1 3 4 9 rfl (by decide) rfl rfl (tyX1_ok 3 (by decide)) (rfl) (rfl) rfl (by with_reducible assumption) dX1_copyFrom_29 rfl ?_
  refine z_aload_n (q := 33) dX1_copyFrom_32 rfl rfl rfl ?_
  refine z_aload_n (q := 34) dX1_copyFrom_33 rfl rfl rfl ?_
  refine z_getI (q := 37) 1 4 5 10 rfl (by decide) rfl rfl rfl (by with_reducible assumption) dX1_copyFrom_34 rfl ?_
  refine z_put (q := 40) 1 4 5 10 rfl (by decide) rfl rfl (tyX1_ok 4 (by decide)) (rfl) (rfl) rfl (by with_reducible assumption) dX1_copyFrom_37 rfl ?_
  exact z_vret rfl dX1_copyFrom_40 (Nat.zero_le _) (Nat.zero_le _) (⟨rfl, rfl, rfl, by funext q k; simp only [zw]; by_cases hq : q = a <;> by_cases hba : b = a <;> grind, rfl⟩)


