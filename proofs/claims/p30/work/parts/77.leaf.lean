/-! THE LAW's small methods -/
def lowN (v : Int32) (m : Nat) : Nat := v.toBitVec.toNat % 2 ^ 31 % m
theorem lowN_lt (v : Int32) {m : Nat} (h : 0 < m) : lowN v m < m := Nat.mod_lt _ h
set_option maxRecDepth 100000 in
set_option maxHeartbeats 4000000 in
theorem c_L_low (G : zG) {n : Nat} {T : zTT} {I : zII} {R : zRR} (v : Int32) (m : Nat) (hm : 0 < m) (hm2 : m < 2 ^ 31) : Ct G yL_low wsL_low (0, 0, 0) [.int v, .int (nI m)] n T I R (z_ret (some (.int (nI (lowN v m)))) n T I R) := by
  refine Ct.ofX (M := muL_low) (ls := [(0, .int v), (1, .int (nI m))]) (by decide +kernel) rfl (by decide) rfl rfl (Nat.le_of_ble_eq_true rfl) ?_
  refine z_iload_n (q := 1) dL_low_0 rfl rfl rfl ?_
  refine z_ldc (q := 3) (i := 1) (v := 2147483647) rfl dL_low_1 rfl ?_
  refine z_iand (q := 4) dL_low_3 rfl ?_
  rw [pk_and v 31 (by decide +kernel)]
  refine z_iload_n (q := 5) dL_low_4 rfl rfl rfl ?_
  refine z_iremE (q := 6) dL_low_5 (nI_ne0 hm hm2) (pk_rem (Nat.mod_lt _ (by decide)) hm hm2) rfl ?_
  exact z_iret rfl dL_low_6 (Nat.zero_le _) (Nat.zero_le _) (⟨rfl, rfl, rfl, rfl, rfl⟩)
/-- an entry of the law's plan -/
def entR (P : Nat → Int32) (k : Nat) : zE := (P (5 * k), P (5 * k + 1), P (5 * k + 2), P (5 * k + 3), P (5 * k + 4))
set_option maxRecDepth 100000 in
set_option maxHeartbeats 4000000 in
theorem c_L_heard (G : zG) {n : Nat} {T : zTT} {I : zII} {R : zRR} (ga pa np : Nat) (x : Int32) (hTg : T ga = some (.inr (.int, 9))) (hTp : T pa = some (.inr (.int, 45))) (h2 : I ga 2 = nI np) (hnp : np ≤ 9) : Ct G yL_heard wsL_heard (0, 0, 0) [.ref ga, .ref pa, .int x] n T I R (z_ret (some (.int (hearN (entR (I pa)) x (I ga 3) np))) n T I R) := by
  refine Ct.ofX (M := muL_heard) (ls := [(0, .ref ga), (1, .ref pa), (2, .int x)]) (by decide +kernel) rfl (by decide) rfl rfl (Nat.le_of_ble_eq_true rfl) ?_
  have loop : ∀ i, i ≤ np → ∀ ls : List (Nat × Value), lv_pick ls [0, 1, 2, 3, 4] = [(0, .ref ga), (1, .ref pa), (2, .int x), (3, .int (hearN (entR (I pa)) x (I ga 3) i)), (4, .int (nI i))] → z_X G muL_heard (0, 0, 0) (z_ret (some (.int (hearN (entR (I pa)) x (I ga 3) np))) n T I R) n T I R 0 0 5 ls [] := by
    refine z_up (N := np) _ ?_ ?_
    · intro ls hls
      refine z_pick [0, 1, 2, 3, 4] hls ?_
      refine z_iload (q := 7) (i := 4) dL_heard_5 rfl rfl ?_
      refine z_aload_n (q := 8) dL_heard_7 rfl rfl rfl ?_
      refine z_iconst (q := 9) (v := nI 2) dL_heard_8 (by rfl) rfl ?_
      refine z_ialdV (q := 10) _ (by with_reducible assumption) (rfl) (by omega) (by decide) (h2) dL_heard_9 rfl ?_
      refine z_icmpn_ge (rfl) (rfl) (by omega) (by omega) (tgt := 83) (q := 13) dL_heard_10 (by decide) rfl (fun _ => ?_) (fun hc => absurd hc (by omega))
      refine z_iload_n (q := 84) dL_heard_83 rfl rfl rfl ?_
      exact z_iret rfl dL_heard_84 (Nat.zero_le _) (Nat.zero_le _) (⟨rfl, rfl, rfl, rfl, rfl⟩)
    · intro i hi ih ls hls
      have hn : hearN (entR (I pa)) x (I ga 3) (i + 1) = hearN (entR (I pa)) x (I ga 3) i + if (entR (I pa) i).2.2.1 = x ∧ hcC (I ga 3) (entR (I pa) i) then 1 else 0 := rfl
      have no : ¬ ((entR (I pa) i).2.2.1 = x ∧ hcC (I ga 3) (entR (I pa) i)) → ∀ ls : List (Nat × Value), lv_pick ls [0, 1, 2, 3, 4] = [(0, .ref ga), (1, .ref pa), (2, .int x), (3, .int (hearN (entR (I pa)) x (I ga 3) i)), (4, .int (nI i))] → z_X G muL_heard (0, 0, 0) (z_ret (some (.int (hearN (entR (I pa)) x (I ga 3) np))) n T I R) n T I R 0 0 74 ls [.int (hearN (entR (I pa)) x (I ga 3) i)] := by
        intro hc ls hls
        refine z_pick [0, 1, 2, 3, 4] hls ?_
        refine z_iconst (q := 75) (v := nI 0) dL_heard_74 (by rfl) rfl ?_
        refine z_iadd (q := 76) dL_heard_75 rfl ?_
        refine z_istore_n (q := 77) dL_heard_76 rfl (by decide) rfl ?_
        refine z_iinc (q := 80) dL_heard_77 rfl (nI_add _ 1) (by decide) rfl ?_
        refine z_goto (q := 5) dL_heard_80 (by decide) ?_
        exact ih _ (by rw [hn, if_neg hc]; rfl)
      refine z_pick [0, 1, 2, 3, 4] hls ?_
      refine z_iload (q := 7) (i := 4) dL_heard_5 rfl rfl ?_
      refine z_aload_n (q := 8) dL_heard_7 rfl rfl rfl ?_
      refine z_iconst (q := 9) (v := nI 2) dL_heard_8 (by rfl) rfl ?_
      refine z_ialdV (q := 10) _ (by with_reducible assumption) (rfl) (by omega) (by decide) (h2) dL_heard_9 rfl ?_
      refine z_icmpn_ge (rfl) (rfl) (by omega) (by omega) (tgt := 83) (q := 13) dL_heard_10 (by decide) rfl (fun hc => absurd hc (by omega)) (fun _ => ?_)
      refine z_iload_n (q := 14) dL_heard_13 rfl rfl rfl ?_
      refine z_aload_n (q := 15) dL_heard_14 rfl rfl rfl ?_
      refine z_iconst (q := 16) (v := nI 5) dL_heard_15 (by rfl) rfl ?_
      refine z_iload (q := 18) (i := 4) dL_heard_16 rfl rfl ?_
      refine z_imulE (q := 19) dL_heard_18 (pk_mul _ _) rfl ?_
      refine z_iconst (q := 20) (v := nI 1) dL_heard_19 (by rfl) rfl ?_
      refine z_iaddE (q := 21) dL_heard_20 (nI_add _ _) rfl ?_
      refine z_iald (q := 22) _ (by with_reducible assumption) (rfl) (by omega) (by decide) dL_heard_21 rfl ?_
      refine z_if_ne (tgt := 74) (q := 25) dL_heard_22 (by decide) rfl (fun h22 => ?_) (fun h22 => ?_)
      · exact no (fun z => h22 (z.2.1.trans nI_0)) _ rfl
      · refine z_aload_n (q := 26) dL_heard_25 rfl rfl rfl ?_
        refine z_iconst (q := 27) (v := nI 5) dL_heard_26 (by rfl) rfl ?_
        refine z_iload (q := 29) (i := 4) dL_heard_27 rfl rfl ?_
        refine z_imulE (q := 30) dL_heard_29 (pk_mul _ _) rfl ?_
        refine z_iconst (q := 31) (v := nI 2) dL_heard_30 (by rfl) rfl ?_
        refine z_iaddE (q := 32) dL_heard_31 (nI_add _ _) rfl ?_
        refine z_iald (q := 33) _ (by with_reducible assumption) (rfl) (by omega) (by decide) dL_heard_32 rfl ?_
        refine z_iload_n (q := 34) dL_heard_33 rfl rfl rfl ?_
        refine z_icmp_ne (tgt := 74) (q := 37) dL_heard_34 (by decide) rfl (fun h34 => ?_) (fun h34 => ?_)
        · exact no (fun z => h34 z.1) _ rfl
        · refine z_aload_n (q := 38) dL_heard_37 rfl rfl rfl ?_
          refine z_iconst (q := 39) (v := nI 5) dL_heard_38 (by rfl) rfl ?_
          refine z_iload (q := 41) (i := 4) dL_heard_39 rfl rfl ?_
          refine z_imulE (q := 42) dL_heard_41 (pk_mul _ _) rfl ?_
          refine z_iald (q := 43) _ (by with_reducible assumption) (rfl) (by omega) (by decide) dL_heard_42 rfl ?_
          refine z_aload_n (q := 44) dL_heard_43 rfl rfl rfl ?_
          refine z_iconst (q := 45) (v := nI 3) dL_heard_44 (by rfl) rfl ?_
          refine z_iald (q := 46) _ (by with_reducible assumption) (rfl) (by omega) (by decide) dL_heard_45 rfl ?_
          refine z_icmp_gt (tgt := 74) (q := 49) dL_heard_46 (by decide) rfl (fun h46 => ?_) (fun h46 => ?_)
          · exact no (fun z => z.2.2.1 h46) _ rfl
          · refine z_aload_n (q := 50) dL_heard_49 rfl rfl rfl ?_
            refine z_iconst (q := 51) (v := nI 3) dL_heard_50 (by rfl) rfl ?_
            refine z_iald (q := 52) _ (by with_reducible assumption) (rfl) (by omega) (by decide) dL_heard_51 rfl ?_
            refine z_aload_n (q := 53) dL_heard_52 rfl rfl rfl ?_
            refine z_iconst (q := 54) (v := nI 5) dL_heard_53 (by rfl) rfl ?_
            refine z_iload (q := 56) (i := 4) dL_heard_54 rfl rfl ?_
            refine z_imulE (q := 57) dL_heard_56 (pk_mul _ _) rfl ?_
            refine z_iald (q := 58) _ (by with_reducible assumption) (rfl) (by omega) (by decide) dL_heard_57 rfl ?_
            refine z_aload_n (q := 59) dL_heard_58 rfl rfl rfl ?_
            refine z_iconst (q := 60) (v := nI 5) dL_heard_59 (by rfl) rfl ?_
            refine z_iload (q := 62) (i := 4) dL_heard_60 rfl rfl ?_
            refine z_imulE (q := 63) dL_heard_62 (pk_mul _ _) rfl ?_
            refine z_iconst (q := 64) (v := nI 3) dL_heard_63 (by rfl) rfl ?_
            refine z_iaddE (q := 65) dL_heard_64 (nI_add _ _) rfl ?_
            refine z_iald (q := 66) _ (by with_reducible assumption) (rfl) (by omega) (by decide) dL_heard_65 rfl ?_
            refine z_iadd (q := 67) dL_heard_66 rfl ?_
            refine z_icmp_ge (tgt := 74) (q := 70) dL_heard_67 (by decide) rfl (fun h67 => ?_) (fun h67 => ?_)
            · exact no (fun z => absurd z.2.2.2 (Int32.not_lt.mpr h67)) _ rfl
            · refine z_iconst (q := 71) (v := nI 1) dL_heard_70 (by rfl) rfl ?_
              refine z_goto (q := 75) dL_heard_71 (by decide) ?_
              refine z_iadd (q := 76) dL_heard_75 rfl ?_
              refine z_istore_n (q := 77) dL_heard_76 rfl (by decide) rfl ?_
              refine z_iinc (q := 80) dL_heard_77 rfl (nI_add _ 1) (by decide) rfl ?_
              refine z_goto (q := 5) dL_heard_80 (by decide) ?_
              exact ih _ (by rw [hn, if_pos ⟨h34, h22.trans nI_0.symm, h46, Int32.not_le.mp h67⟩]; rfl)
  refine z_iconst (q := 1) (v := nI 0) dL_heard_0 (by rfl) rfl ?_
  refine z_istore_n (q := 2) dL_heard_1 rfl (by decide) rfl ?_
  refine z_iconst (q := 3) (v := nI 0) dL_heard_2 (by rfl) rfl ?_
  refine z_istore (q := 5) dL_heard_3 (by decide) rfl ?_
  exact loop 0 (Nat.zero_le _) _ rfl
set_option maxRecDepth 100000 in
set_option maxHeartbeats 4000000 in
theorem c_L_onWay (G : zG) {n : Nat} {T : zTT} {I : zII} {R : zRR} (ya d : Nat) (hTy : T ya = some (.inr (.int, 48))) (hd : d < 4) : Ct G yL_onWay wsL_onWay (0, 0, 0) [.ref ya, .int (nI d)] n T I R (z_ret (some (.int (sumI (fun i => I ya (12 * d + i)) 12))) n T I R) := by
  refine Ct.ofX (M := muL_onWay) (ls := [(0, .ref ya), (1, .int (nI d))]) (by decide +kernel) rfl (by decide) rfl rfl (Nat.le_of_ble_eq_true rfl) ?_
  have loop : ∀ i, i ≤ 12 → ∀ ls : List (Nat × Value), lv_pick ls [0, 1, 2, 3] = [(0, .ref ya), (1, .int (nI d)), (2, .int (sumI (fun i => I ya (12 * d + i)) i)), (3, .int (nI i))] → z_X G muL_onWay (0, 0, 0) (z_ret (some (.int (sumI (fun i => I ya (12 * d + i)) 12))) n T I R) n T I R 0 0 4 ls [] := by
    refine z_up (N := 12) _ ?_ ?_
    · intro ls hls
      refine z_pick [0, 1, 2, 3] hls ?_
      refine z_iload_n (q := 5) dL_onWay_4 rfl rfl rfl ?_
      refine z_bipush (q := 7) (v := nI 12) dL_onWay_5 (by rfl) rfl ?_
      refine z_icmpn_ge (rfl) (rfl) (by omega) (by omega) (tgt := 27) (q := 10) dL_onWay_7 (by decide) rfl (fun _ => ?_) (fun hc => absurd hc (by omega))
      refine z_iload_n (q := 28) dL_onWay_27 rfl rfl rfl ?_
      exact z_iret rfl dL_onWay_28 (Nat.zero_le _) (Nat.zero_le _) (⟨rfl, rfl, rfl, rfl, rfl⟩)
    · intro i hi ih ls hls
      refine z_pick [0, 1, 2, 3] hls ?_
      refine z_iload_n (q := 5) dL_onWay_4 rfl rfl rfl ?_
      refine z_bipush (q := 7) (v := nI 12) dL_onWay_5 (by rfl) rfl ?_
      refine z_icmpn_ge (rfl) (rfl) (by omega) (by omega) (tgt := 27) (q := 10) dL_onWay_7 (by decide) rfl (fun hc => absurd hc (by omega)) (fun _ => ?_)
      refine z_iload_n (q := 11) dL_onWay_10 rfl rfl rfl ?_
      refine z_aload_n (q := 12) dL_onWay_11 rfl rfl rfl ?_
      refine z_bipush (q := 14) (v := nI 12) dL_onWay_12 (by rfl) rfl ?_
      refine z_iload_n (q := 15) dL_onWay_14 rfl rfl rfl ?_
      refine z_imulE (q := 16) dL_onWay_15 (pk_mul _ _) rfl ?_
      refine z_iload_n (q := 17) dL_onWay_16 rfl rfl rfl ?_
      refine z_iaddE (q := 18) dL_onWay_17 (nI_add _ _) rfl ?_
      refine z_iald (q := 19) _ (by with_reducible assumption) (rfl) (by omega) (by decide) dL_onWay_18 rfl ?_
      refine z_iadd (q := 20) dL_onWay_19 rfl ?_
      refine z_istore_n (q := 21) dL_onWay_20 rfl (by decide) rfl ?_
      refine z_iinc (q := 24) dL_onWay_21 rfl (nI_add _ 1) (by decide) rfl ?_
      refine z_goto (q := 4) dL_onWay_24 (by decide) ?_
      exact ih _ rfl
  refine z_iconst (q := 1) (v := nI 0) dL_onWay_0 (by rfl) rfl ?_
  refine z_istore_n (q := 2) dL_onWay_1 rfl (by decide) rfl ?_
  refine z_iconst (q := 3) (v := nI 0) dL_onWay_2 (by rfl) rfl ?_
  refine z_istore_n (q := 4) dL_onWay_3 rfl (by decide) rfl ?_
  exact loop 0 (Nat.zero_le _) _ rfl
/-- a row of entries without its i-th -/
def endR (P : Nat → Int32) (i np : Nat) : Nat → Int32 := fun c => if 5 * i ≤ c ∧ c < 5 * np - 5 then P (c + 5) else P c
set_option maxRecDepth 100000 in
set_option maxHeartbeats 4000000 in
theorem c_L_ends (G : zG) {n : Nat} {T : zTT} {I : zII} {R : zRR} (ga pa np i : Nat) (hTg : T ga = some (.inr (.int, 9))) (hTp : T pa = some (.inr (.int, 45))) (hgp : ga ≠ pa) (h2 : I ga 2 = nI np) (hnp : np ≤ 9) (hi : i < np) : Ct G yL_ends wsL_ends (0, 0, 0) [.ref ga, .ref pa, .int (nI i)] n T I R (z_rel none n T (fun I' R' => R' = R ∧ I' ga = upd (I ga) 2 (nI (np - 1)) ∧ I' pa = endR (I pa) i np ∧ ∀ q, q ≠ ga → q ≠ pa → I' q = I q)) := by
  refine Ct.ofX (M := muL_ends) (ls := [(0, .ref ga), (1, .ref pa), (2, .int (nI i))]) (by decide +kernel) rfl (by decide) rfl rfl (Nat.le_of_ble_eq_true rfl) ?_
  have loop : ∀ m, m ≤ 5 * np - 5 → ∀ (I2 : zII), (5 * i ≤ m) → I2 pa = (fun c => if 5 * i ≤ c ∧ c < m then I pa (c + 5) else I pa c) → (∀ q, q ≠ pa → I2 q = I q) → ∀ ls : List (Nat × Value), lv_pick ls [0, 1, 2, 3] = [(0, .ref ga), (1, .ref pa), (2, .int (nI i)), (3, .int (nI m))] → z_X G muL_ends (0, 0, 0) (z_rel none n T (fun I' R' => R' = R ∧ I' ga = upd (I ga) 2 (nI (np - 1)) ∧ I' pa = endR (I pa) i np ∧ ∀ q, q ≠ ga → q ≠ pa → I' q = I q)) n T I2 R 0 0 4 ls [] := by
    refine z_up (N := 5 * np - 5) _ ?_ ?_
    · intro I2 hm hp hf ls hls
      have g2 : I2 ga 2 = nI np := by rw [hf ga hgp]; exact h2
      refine z_pick [0, 1, 2, 3] hls ?_
      refine z_iload_n (q := 5) dL_ends_4 rfl rfl rfl ?_
      refine z_iconst (q := 6) (v := nI 5) dL_ends_5 (by rfl) rfl ?_
      refine z_aload_n (q := 7) dL_ends_6 rfl rfl rfl ?_
      refine z_iconst (q := 8) (v := nI 2) dL_ends_7 (by rfl) rfl ?_
      refine z_ialdV (q := 9) _ (by with_reducible assumption) (rfl) (by omega) (by decide) (g2) dL_ends_8 rfl ?_
      refine z_imulE (q := 10) dL_ends_9 (pk_mul _ _) rfl ?_
      refine z_iconst (q := 11) (v := nI 5) dL_ends_10 (by rfl) rfl ?_
      refine z_isubE (q := 12) dL_ends_11 (pk_sub (by omega)) rfl ?_
      refine z_icmpn_ge (rfl) (rfl) (by omega) (by omega) (tgt := 29) (q := 15) dL_ends_12 (by decide) rfl (fun _ => ?_) (fun hc => absurd hc (by omega))
      refine z_aload_n (q := 30) dL_ends_29 rfl rfl rfl ?_
      refine z_iconst (q := 31) (v := nI 2) dL_ends_30 (by rfl) rfl ?_
      refine z_dup2 (q := 32) dL_ends_31 rfl rfl rfl ?_
      refine z_ialdV (q := 33) _ (by with_reducible assumption) (rfl) (by omega) (by decide) (g2) dL_ends_32 rfl ?_
      refine z_iconst (q := 34) (v := nI 1) dL_ends_33 (by rfl) rfl ?_
      refine z_isubE (q := 35) dL_ends_34 (pk_sub (by omega)) rfl ?_
      refine z_iast (q := 36) _ (by with_reducible assumption) (rfl) (by omega) (by decide) dL_ends_35 rfl ?_
      exact z_vret rfl dL_ends_36 (Nat.zero_le _) (Nat.zero_le _) (⟨rfl, rfl, rfl, rfl, by rw [zw_upd, hf ga hgp], by rw [zw_row _ _ (Ne.symm hgp), hp]; rfl, fun q q1 q2 => by rw [zw_row _ _ q1, hf q q2]⟩)
    · intro m hm ih I2 hm2 hp hf ls hls
      have g2 : I2 ga 2 = nI np := by rw [hf ga hgp]; exact h2
      refine z_pick [0, 1, 2, 3] hls ?_
      refine z_iload_n (q := 5) dL_ends_4 rfl rfl rfl ?_
      refine z_iconst (q := 6) (v := nI 5) dL_ends_5 (by rfl) rfl ?_
      refine z_aload_n (q := 7) dL_ends_6 rfl rfl rfl ?_
      refine z_iconst (q := 8) (v := nI 2) dL_ends_7 (by rfl) rfl ?_
      refine z_ialdV (q := 9) _ (by with_reducible assumption) (rfl) (by omega) (by decide) (g2) dL_ends_8 rfl ?_
      refine z_imulE (q := 10) dL_ends_9 (pk_mul _ _) rfl ?_
      refine z_iconst (q := 11) (v := nI 5) dL_ends_10 (by rfl) rfl ?_
      refine z_isubE (q := 12) dL_ends_11 (pk_sub (by omega)) rfl ?_
      refine z_icmpn_ge (rfl) (rfl) (by omega) (by omega) (tgt := 29) (q := 15) dL_ends_12 (by decide) rfl (fun hc => absurd hc (by omega)) (fun _ => ?_)
      refine z_aload_n (q := 16) dL_ends_15 rfl rfl rfl ?_
      refine z_iload_n (q := 17) dL_ends_16 rfl rfl rfl ?_
      refine z_aload_n (q := 18) dL_ends_17 rfl rfl rfl ?_
      refine z_iload_n (q := 19) dL_ends_18 rfl rfl rfl ?_
      refine z_iconst (q := 20) (v := nI 5) dL_ends_19 (by rfl) rfl ?_
      refine z_iaddE (q := 21) dL_ends_20 (nI_add _ _) rfl ?_
      refine z_iald (q := 22) _ (by with_reducible assumption) (rfl) (by omega) (by decide) dL_ends_21 rfl ?_
      refine z_iast (q := 23) _ (by with_reducible assumption) (rfl) (by omega) (by decide) dL_ends_22 rfl ?_
      refine z_iinc (q := 26) dL_ends_23 rfl (nI_add _ 1) (by decide) rfl ?_
      refine z_goto (q := 4) dL_ends_26 (by decide) ?_
      refine ih _ (by omega) ?_ (fun q hq => by rw [zw_row _ _ hq, hf q hq]) _ rfl
      have hv : I2 pa (m + 5) = I pa (m + 5) := by
        rw [hp]
        exact if_neg (by omega)
      rw [zw_upd, hv, hp]
      funext c
      by_cases e : c = m
      · rw [e, upd_s, if_pos (by omega)]
      · rw [upd_n _ _ e]
        by_cases e2 : 5 * i ≤ c ∧ c < m
        · rw [if_pos e2, if_pos (by omega)]
        · rw [if_neg e2, if_neg (by omega)]
  refine z_iconst (q := 1) (v := nI 5) dL_ends_0 (by rfl) rfl ?_
  refine z_iload_n (q := 2) dL_ends_1 rfl rfl rfl ?_
  refine z_imulE (q := 3) dL_ends_2 (pk_mul _ _) rfl ?_
  refine z_istore_n (q := 4) dL_ends_3 rfl (by decide) rfl ?_
  refine loop (5 * i) (by omega) I (Nat.le_refl _) ?_ (fun _ _ => rfl) _ rfl
  funext c
  rw [if_neg (by omega)]

