/-! THE REFERENCE, a step: sounds heard, leaving, targets -/
set_option maxRecDepth 100000 in
set_option maxHeartbeats 4000000 in
theorem c_X8_isHeard (G : zG) {n : Nat} {T : zTT} {I : zII} {R : zRR} (r k : Nat) (x : Int32) (hT : T r = some (.inr (.int, 657))) (hk : k < 16) : Ct G yX8_isHeard wsX8_isHeard (1, 0, 0) [.ref r, .int (nI k), .int x] n T I R (z_ret (some (.int (if hrd (I r) k x then 1 else 0))) n T I R) := by
  refine Ct.ofX (M := muX8_isHeard) (ls := [(0, .ref r), (1, .int (nI k)), (2, .int x)]) (by decide +kernel) rfl (by decide) rfl rfl (Nat.le_of_ble_eq_true rfl) ?_
  refine z_aload_n (q := 1) dX8_isHeard_0 rfl rfl rfl ?_
  refine z_iload_n (q := 2) dX8_isHeard_1 rfl rfl rfl ?_
  refine z_iconst (q := 3) (v := nI 1) dX8_isHeard_2 (by rfl) rfl ?_
  refine z_invS (q := 6) (c_X8_entry G r k 1 hT (by omega)) gX8_isHeard_X8_entry rfl hy_X8_entry rfl rfl rfl rfl (Nat.le_of_ble_eq_true rfl) ⟨Nat.zero_le _, Nat.zero_le _⟩ dX8_isHeard_3 rfl (z_rv ?_)
  refine z_if_ne (tgt := 23) (q := 9) dX8_isHeard_6 (by decide) rfl (fun h6 => ?_) (fun h6 => ?_)
  · refine z_iconst (q := 24) (v := nI 0) dX8_isHeard_23 (by rfl) rfl ?_
    refine z_istore_n (q := 25) dX8_isHeard_24 rfl (by decide) rfl ?_
    refine z_iload_n (q := 26) dX8_isHeard_25 rfl rfl rfl ?_
    refine z_if_eq (tgt := 63) (q := 29) dX8_isHeard_26 (by decide) rfl (fun h26 => ?_) (fun h26 => ?_)
    · refine z_iconst (q := 64) (v := nI 0) dX8_isHeard_63 (by rfl) rfl ?_
      exact z_zret rfl (by rfl) dX8_isHeard_64 (Nat.zero_le _) (Nat.zero_le _) (⟨by simp_all [nI_0, zI1], rfl, rfl, rfl, rfl⟩)
    · refine z_aload_n (q := 30) dX8_isHeard_29 rfl rfl rfl ?_
      refine z_iconst (q := 31) (v := nI 3) dX8_isHeard_30 (by rfl) rfl ?_
      refine z_iald (q := 32) _ (by with_reducible assumption) (rfl) (by omega) (by decide) dX8_isHeard_31 rfl ?_
      refine z_aload_n (q := 33) dX8_isHeard_32 rfl rfl rfl ?_
      refine z_iload_n (q := 34) dX8_isHeard_33 rfl rfl rfl ?_
      refine z_iconst (q := 35) (v := nI 0) dX8_isHeard_34 (by rfl) rfl ?_
      refine z_invS (q := 38) (c_X8_entry G r k 0 hT (by omega)) gX8_isHeard_X8_entry rfl hy_X8_entry rfl rfl rfl rfl (Nat.le_of_ble_eq_true rfl) ⟨Nat.zero_le _, Nat.zero_le _⟩ dX8_isHeard_35 rfl (z_rv ?_)
      refine z_aload_n (q := 39) dX8_isHeard_38 rfl rfl rfl ?_
      refine z_iload_n (q := 40) dX8_isHeard_39 rfl rfl rfl ?_
      refine z_iconst (q := 41) (v := nI 0) dX8_isHeard_40 (by rfl) rfl ?_
      refine z_invS (q := 44) (c_X8_entry G r k 0 hT (by omega)) gX8_isHeard_X8_entry rfl hy_X8_entry rfl rfl rfl rfl (Nat.le_of_ble_eq_true rfl) ⟨Nat.zero_le _, Nat.zero_le _⟩ dX8_isHeard_41 rfl (z_rv ?_)
      refine z_aload_n (q := 45) dX8_isHeard_44 rfl rfl rfl ?_
      refine z_iload_n (q := 46) dX8_isHeard_45 rfl rfl rfl ?_
      refine z_iconst (q := 47) (v := nI 3) dX8_isHeard_46 (by rfl) rfl ?_
      refine z_invS (q := 50) (c_X8_entry G r k 3 hT (by omega)) gX8_isHeard_X8_entry rfl hy_X8_entry rfl rfl rfl rfl (Nat.le_of_ble_eq_true rfl) ⟨Nat.zero_le _, Nat.zero_le _⟩ dX8_isHeard_47 rfl (z_rv ?_)
      refine z_iadd (q := 51) dX8_isHeard_50 rfl ?_
      refine z_iconst (q := 52) (v := nI 1) dX8_isHeard_51 (by rfl) rfl ?_
      refine z_isub (q := 53) dX8_isHeard_52 rfl ?_
      refine z_invS (q := 56) (c_X8_in G _ _ _) gX8_isHeard_X8_in rfl hy_X8_in rfl rfl rfl rfl (Nat.le_of_ble_eq_true rfl) ⟨Nat.zero_le _, Nat.zero_le _⟩ dX8_isHeard_53 rfl (z_rv ?_)
      refine z_if_eq (tgt := 63) (q := 59) dX8_isHeard_56 (by decide) rfl (fun h56 => ?_) (fun h56 => ?_)
      · refine z_iconst (q := 64) (v := nI 0) dX8_isHeard_63 (by rfl) rfl ?_
        exact z_zret rfl (by rfl) dX8_isHeard_64 (Nat.zero_le _) (Nat.zero_le _) (⟨by simp_all [nI_0, zI1], rfl, rfl, rfl, rfl⟩)
      · refine z_iconst (q := 60) (v := nI 1) dX8_isHeard_59 (by rfl) rfl ?_
        refine z_goto (q := 64) dX8_isHeard_60 (by decide) ?_
        exact z_zret rfl (by rfl) dX8_isHeard_64 (Nat.zero_le _) (Nat.zero_le _) (⟨by simp_all [nI_0, zI1], rfl, rfl, rfl, rfl⟩)
  · refine z_aload_n (q := 10) dX8_isHeard_9 rfl rfl rfl ?_
    refine z_iload_n (q := 11) dX8_isHeard_10 rfl rfl rfl ?_
    refine z_iconst (q := 12) (v := nI 2) dX8_isHeard_11 (by rfl) rfl ?_
    refine z_invS (q := 15) (c_X8_entry G r k 2 hT (by omega)) gX8_isHeard_X8_entry rfl hy_X8_entry rfl rfl rfl rfl (Nat.le_of_ble_eq_true rfl) ⟨Nat.zero_le _, Nat.zero_le _⟩ dX8_isHeard_12 rfl (z_rv ?_)
    refine z_iload_n (q := 16) dX8_isHeard_15 rfl rfl rfl ?_
    refine z_icmp_ne (tgt := 23) (q := 19) dX8_isHeard_16 (by decide) rfl (fun h16 => ?_) (fun h16 => ?_)
    · refine z_iconst (q := 24) (v := nI 0) dX8_isHeard_23 (by rfl) rfl ?_
      refine z_istore_n (q := 25) dX8_isHeard_24 rfl (by decide) rfl ?_
      refine z_iload_n (q := 26) dX8_isHeard_25 rfl rfl rfl ?_
      refine z_if_eq (tgt := 63) (q := 29) dX8_isHeard_26 (by decide) rfl (fun h26 => ?_) (fun h26 => ?_)
      · refine z_iconst (q := 64) (v := nI 0) dX8_isHeard_63 (by rfl) rfl ?_
        exact z_zret rfl (by rfl) dX8_isHeard_64 (Nat.zero_le _) (Nat.zero_le _) (⟨by simp_all [nI_0, zI1], rfl, rfl, rfl, rfl⟩)
      · refine z_aload_n (q := 30) dX8_isHeard_29 rfl rfl rfl ?_
        refine z_iconst (q := 31) (v := nI 3) dX8_isHeard_30 (by rfl) rfl ?_
        refine z_iald (q := 32) _ (by with_reducible assumption) (rfl) (by omega) (by decide) dX8_isHeard_31 rfl ?_
        refine z_aload_n (q := 33) dX8_isHeard_32 rfl rfl rfl ?_
        refine z_iload_n (q := 34) dX8_isHeard_33 rfl rfl rfl ?_
        refine z_iconst (q := 35) (v := nI 0) dX8_isHeard_34 (by rfl) rfl ?_
        refine z_invS (q := 38) (c_X8_entry G r k 0 hT (by omega)) gX8_isHeard_X8_entry rfl hy_X8_entry rfl rfl rfl rfl (Nat.le_of_ble_eq_true rfl) ⟨Nat.zero_le _, Nat.zero_le _⟩ dX8_isHeard_35 rfl (z_rv ?_)
        refine z_aload_n (q := 39) dX8_isHeard_38 rfl rfl rfl ?_
        refine z_iload_n (q := 40) dX8_isHeard_39 rfl rfl rfl ?_
        refine z_iconst (q := 41) (v := nI 0) dX8_isHeard_40 (by rfl) rfl ?_
        refine z_invS (q := 44) (c_X8_entry G r k 0 hT (by omega)) gX8_isHeard_X8_entry rfl hy_X8_entry rfl rfl rfl rfl (Nat.le_of_ble_eq_true rfl) ⟨Nat.zero_le _, Nat.zero_le _⟩ dX8_isHeard_41 rfl (z_rv ?_)
        refine z_aload_n (q := 45) dX8_isHeard_44 rfl rfl rfl ?_
        refine z_iload_n (q := 46) dX8_isHeard_45 rfl rfl rfl ?_
        refine z_iconst (q := 47) (v := nI 3) dX8_isHeard_46 (by rfl) rfl ?_
        refine z_invS (q := 50) (c_X8_entry G r k 3 hT (by omega)) gX8_isHeard_X8_entry rfl hy_X8_entry rfl rfl rfl rfl (Nat.le_of_ble_eq_true rfl) ⟨Nat.zero_le _, Nat.zero_le _⟩ dX8_isHeard_47 rfl (z_rv ?_)
        refine z_iadd (q := 51) dX8_isHeard_50 rfl ?_
        refine z_iconst (q := 52) (v := nI 1) dX8_isHeard_51 (by rfl) rfl ?_
        refine z_isub (q := 53) dX8_isHeard_52 rfl ?_
        refine z_invS (q := 56) (c_X8_in G _ _ _) gX8_isHeard_X8_in rfl hy_X8_in rfl rfl rfl rfl (Nat.le_of_ble_eq_true rfl) ⟨Nat.zero_le _, Nat.zero_le _⟩ dX8_isHeard_53 rfl (z_rv ?_)
        refine z_if_eq (tgt := 63) (q := 59) dX8_isHeard_56 (by decide) rfl (fun h56 => ?_) (fun h56 => ?_)
        · refine z_iconst (q := 64) (v := nI 0) dX8_isHeard_63 (by rfl) rfl ?_
          exact z_zret rfl (by rfl) dX8_isHeard_64 (Nat.zero_le _) (Nat.zero_le _) (⟨by simp_all [nI_0, zI1], rfl, rfl, rfl, rfl⟩)
        · refine z_iconst (q := 60) (v := nI 1) dX8_isHeard_59 (by rfl) rfl ?_
          refine z_goto (q := 64) dX8_isHeard_60 (by decide) ?_
          exact z_zret rfl (by rfl) dX8_isHeard_64 (Nat.zero_le _) (Nat.zero_le _) (⟨by simp_all [nI_0, zI1], rfl, rfl, rfl, rfl⟩)
    · refine z_iconst (q := 20) (v := nI 1) dX8_isHeard_19 (by rfl) rfl ?_
      refine z_goto (q := 24) dX8_isHeard_20 (by decide) ?_
      refine z_istore_n (q := 25) dX8_isHeard_24 rfl (by decide) rfl ?_
      refine z_iload_n (q := 26) dX8_isHeard_25 rfl rfl rfl ?_
      refine z_if_eq (tgt := 63) (q := 29) dX8_isHeard_26 (by decide) rfl (fun h26 => ?_) (fun h26 => ?_)
      · refine z_iconst (q := 64) (v := nI 0) dX8_isHeard_63 (by rfl) rfl ?_
        exact z_zret rfl (by rfl) dX8_isHeard_64 (Nat.zero_le _) (Nat.zero_le _) (⟨by simp_all [nI_0, zI1], rfl, rfl, rfl, rfl⟩)
      · refine z_aload_n (q := 30) dX8_isHeard_29 rfl rfl rfl ?_
        refine z_iconst (q := 31) (v := nI 3) dX8_isHeard_30 (by rfl) rfl ?_
        refine z_iald (q := 32) _ (by with_reducible assumption) (rfl) (by omega) (by decide) dX8_isHeard_31 rfl ?_
        refine z_aload_n (q := 33) dX8_isHeard_32 rfl rfl rfl ?_
        refine z_iload_n (q := 34) dX8_isHeard_33 rfl rfl rfl ?_
        refine z_iconst (q := 35) (v := nI 0) dX8_isHeard_34 (by rfl) rfl ?_
        refine z_invS (q := 38) (c_X8_entry G r k 0 hT (by omega)) gX8_isHeard_X8_entry rfl hy_X8_entry rfl rfl rfl rfl (Nat.le_of_ble_eq_true rfl) ⟨Nat.zero_le _, Nat.zero_le _⟩ dX8_isHeard_35 rfl (z_rv ?_)
        refine z_aload_n (q := 39) dX8_isHeard_38 rfl rfl rfl ?_
        refine z_iload_n (q := 40) dX8_isHeard_39 rfl rfl rfl ?_
        refine z_iconst (q := 41) (v := nI 0) dX8_isHeard_40 (by rfl) rfl ?_
        refine z_invS (q := 44) (c_X8_entry G r k 0 hT (by omega)) gX8_isHeard_X8_entry rfl hy_X8_entry rfl rfl rfl rfl (Nat.le_of_ble_eq_true rfl) ⟨Nat.zero_le _, Nat.zero_le _⟩ dX8_isHeard_41 rfl (z_rv ?_)
        refine z_aload_n (q := 45) dX8_isHeard_44 rfl rfl rfl ?_
        refine z_iload_n (q := 46) dX8_isHeard_45 rfl rfl rfl ?_
        refine z_iconst (q := 47) (v := nI 3) dX8_isHeard_46 (by rfl) rfl ?_
        refine z_invS (q := 50) (c_X8_entry G r k 3 hT (by omega)) gX8_isHeard_X8_entry rfl hy_X8_entry rfl rfl rfl rfl (Nat.le_of_ble_eq_true rfl) ⟨Nat.zero_le _, Nat.zero_le _⟩ dX8_isHeard_47 rfl (z_rv ?_)
        refine z_iadd (q := 51) dX8_isHeard_50 rfl ?_
        refine z_iconst (q := 52) (v := nI 1) dX8_isHeard_51 (by rfl) rfl ?_
        refine z_isub (q := 53) dX8_isHeard_52 rfl ?_
        refine z_invS (q := 56) (c_X8_in G _ _ _) gX8_isHeard_X8_in rfl hy_X8_in rfl rfl rfl rfl (Nat.le_of_ble_eq_true rfl) ⟨Nat.zero_le _, Nat.zero_le _⟩ dX8_isHeard_53 rfl (z_rv ?_)
        refine z_if_eq (tgt := 63) (q := 59) dX8_isHeard_56 (by decide) rfl (fun h56 => ?_) (fun h56 => ?_)
        · refine z_iconst (q := 64) (v := nI 0) dX8_isHeard_63 (by rfl) rfl ?_
          exact z_zret rfl (by rfl) dX8_isHeard_64 (Nat.zero_le _) (Nat.zero_le _) (⟨by simp_all [nI_0, zI1], rfl, rfl, rfl, rfl⟩)
        · refine z_iconst (q := 60) (v := nI 1) dX8_isHeard_59 (by rfl) rfl ?_
          refine z_goto (q := 64) dX8_isHeard_60 (by decide) ?_
          exact z_zret rfl (by rfl) dX8_isHeard_64 (Nat.zero_le _) (Nat.zero_le _) (⟨by simp_all [nI_0, zI1], rfl, rfl, rfl, rfl⟩)
set_option maxRecDepth 100000 in
set_option maxHeartbeats 4000000 in
theorem c_X8_heardIn (G : zG) {n : Nat} {T : zTT} {I : zII} {R : zRR} (r np : Nat) (x : Int32) (hT : T r = some (.inr (.int, 657))) (h2 : I r 2 = nI np) (hnp : np ≤ 16) : Ct G yX8_heardIn wsX8_heardIn (2, 0, 0) [.ref r, .int x] n T I R (z_ret (some (.int (hrN (I r) x np))) n T I R) := by
  refine Ct.ofX (M := muX8_heardIn) (ls := [(0, .ref r), (1, .int x)]) (by decide +kernel) rfl (by decide) rfl rfl (Nat.le_of_ble_eq_true rfl) ?_
  refine z_iconst (q := 1) (v := nI 0) dX8_heardIn_0 (by rfl) rfl ?_
  refine z_istore_n (q := 2) dX8_heardIn_1 rfl (by decide) rfl ?_
  refine z_iconst (q := 3) (v := nI 0) dX8_heardIn_2 (by rfl) rfl ?_
  refine z_istore_n (q := 4) dX8_heardIn_3 rfl (by decide) rfl ?_
  have loop : ∀ i, i ≤ np → z_X G muX8_heardIn (2, 0, 0) (z_ret (some (.int (hrN (I r) x np))) n T I R) n T I R 0 0 4 [(0, .ref r), (1, .int x), (2, .int (hrN (I r) x i)), (3, .int (nI i))] [] := by
    refine z_up (N := np) _ ?_ ?_
    · refine z_iload_n (q := 5) dX8_heardIn_4 rfl rfl rfl ?_
      refine z_aload_n (q := 6) dX8_heardIn_5 rfl rfl rfl ?_
      refine z_iconst (q := 7) (v := nI 2) dX8_heardIn_6 (by rfl) rfl ?_
      refine z_ialdV (q := 8) _ (by with_reducible assumption) (rfl) (by omega) (by decide) (h2) dX8_heardIn_7 rfl ?_
      refine z_icmpn_ge (rfl) (rfl) (by omega) (by omega) (tgt := 34) (q := 11) dX8_heardIn_8 (by decide) rfl (fun _ => ?_) (fun hc => absurd hc (by omega))
      refine z_iload_n (q := 35) dX8_heardIn_34 rfl rfl rfl ?_
      exact z_iret rfl dX8_heardIn_35 (Nat.zero_le _) (Nat.zero_le _) (⟨rfl, rfl, rfl, rfl, rfl⟩)
    · intro i hi ih
      refine z_iload_n (q := 5) dX8_heardIn_4 rfl rfl rfl ?_
      refine z_aload_n (q := 6) dX8_heardIn_5 rfl rfl rfl ?_
      refine z_iconst (q := 7) (v := nI 2) dX8_heardIn_6 (by rfl) rfl ?_
      refine z_ialdV (q := 8) _ (by with_reducible assumption) (rfl) (by omega) (by decide) (h2) dX8_heardIn_7 rfl ?_
      refine z_icmpn_ge (rfl) (rfl) (by omega) (by omega) (tgt := 34) (q := 11) dX8_heardIn_8 (by decide) rfl (fun hc => absurd hc (by omega)) (fun _ => ?_)
      refine z_iload_n (q := 12) dX8_heardIn_11 rfl rfl rfl ?_
      refine z_aload_n (q := 13) dX8_heardIn_12 rfl rfl rfl ?_
      refine z_iload_n (q := 14) dX8_heardIn_13 rfl rfl rfl ?_
      refine z_iload_n (q := 15) dX8_heardIn_14 rfl rfl rfl ?_
      refine z_invS (q := 18) (c_X8_isHeard G r i x hT (by omega)) gX8_heardIn_X8_isHeard rfl hy_X8_isHeard rfl rfl rfl rfl (Nat.le_of_ble_eq_true rfl) ⟨Nat.zero_le _, Nat.zero_le _⟩ dX8_heardIn_15 rfl (z_rv ?_)
      by_cases hh : hrd (I r) i x
      · rw [if_pos hh]
        refine z_if_eq (tgt := 25) (q := 21) dX8_heardIn_18 (by decide) rfl (fun hc => False.elim (absurd hc (by decide))) (fun _ => ?_)
        refine z_iconst (q := 22) (v := nI 1) dX8_heardIn_21 (by rfl) rfl ?_
        refine z_goto (q := 26) dX8_heardIn_22 (by decide) ?_
        refine z_iadd (q := 27) dX8_heardIn_26 rfl ?_
        refine z_istore_n (q := 28) dX8_heardIn_27 rfl (by decide) rfl ?_
        refine z_iinc (q := 31) dX8_heardIn_28 rfl (nI_add _ 1) (by decide) rfl ?_
        refine z_goto (q := 4) dX8_heardIn_31 (by decide) ?_
        have e : hrN (I r) x (i + 1) = hrN (I r) x i + nI 1 := by rw [hrN, sumI_s, if_pos hh, zI1]; rfl
        rw [← e]
        exact ih
      · rw [if_neg hh]
        refine z_if_eq (tgt := 25) (q := 21) dX8_heardIn_18 (by decide) rfl (fun _ => ?_) (fun hc => False.elim (hc rfl))
        refine z_iconst (q := 26) (v := nI 0) dX8_heardIn_25 (by rfl) rfl ?_
        refine z_iadd (q := 27) dX8_heardIn_26 rfl ?_
        refine z_istore_n (q := 28) dX8_heardIn_27 rfl (by decide) rfl ?_
        refine z_iinc (q := 31) dX8_heardIn_28 rfl (nI_add _ 1) (by decide) rfl ?_
        refine z_goto (q := 4) dX8_heardIn_31 (by decide) ?_
        have e : hrN (I r) x (i + 1) = hrN (I r) x i + nI 0 := by rw [hrN, sumI_s, if_neg hh, nI_0]; rfl
        rw [← e]
        exact ih
  exact loop 0 (Nat.zero_le _)
def lvsP (g : Nat → Int32) (i j : Nat) : Nat → Int32 := fun k => if k = 2 then g 2 - 1 else if 321 + 5 * i ≤ k ∧ k < 321 + 5 * i + j then g (k + 5) else g k
theorem lvsP_0 (g : Nat → Int32) (i : Nat) : upd g 2 (g 2 - 1) = lvsP g i 0 := by
  funext k
  simp only [upd, lvsP]
  (repeat' split) <;> first | rfl | (exfalso; omega)
theorem lvsP_s (g : Nat → Int32) (i j : Nat) : upd (lvsP g i j) (321 + 5 * i + j) (lvsP g i j (321 + 5 * i + j + 5)) = lvsP g i (j + 1) := by
  funext k
  simp only [upd, lvsP]
  (repeat' split) <;> first | rfl | (exfalso; omega) | (congr 1; omega)
theorem lvsP_e (g : Nat → Int32) {i np : Nat} (h : i < np) : lvsP g i (5 * (np - 1 - i)) = lvs g i np := by
  funext k
  simp only [lvs, lvsP]
  (repeat' split) <;> first | rfl | (exfalso; omega)
/-- one row is known, the others are as they were -/
abbrev z_row (I : zII) (r : Nat) (h : Nat → Int32) (I' : zII) : Prop := I' r = h ∧ ∀ q, q ≠ r → I' q = I q
theorem z_row_w {I I' : zII} {r : Nat} {h h' : Nat → Int32} (hr : z_row I r h I') (k : Nat) (x : Int32) (e : upd h k x = h') : z_row I r h' (zw I' r k x) := by
  refine ⟨by rw [zw_upd, hr.1]; exact e, fun q hq => ?_⟩
  rw [zw_row _ _ hq]
  exact hr.2 q hq
theorem z_row_t {I I' I2 : zII} {r : Nat} {h h' : Nat → Int32} (hr : z_row I r h I') (h2 : z_row I' r h' I2) : z_row I r h' I2 := ⟨h2.1, fun q hq => (h2.2 q hq).trans (hr.2 q hq)⟩
set_option maxRecDepth 100000 in
set_option maxHeartbeats 4000000 in
theorem c_X8_leaves (G : zG) {n : Nat} {T : zTT} {I : zII} {R : zRR} (r i np : Nat) (hT : T r = some (.inr (.int, 657))) (h2 : I r 2 = nI np) (hnp : np ≤ 16) (hi : i < np) : Ct G yX8_leaves wsX8_leaves (0, 0, 0) [.ref r, .int (nI i)] n T I R (z_rel none n T (fun I' R' => R' = R ∧ z_row I r (lvs (I r) i np) I')) := by
  refine Ct.ofX (M := muX8_leaves) (ls := [(0, .ref r), (1, .int (nI i))]) (by decide +kernel) rfl (by decide) rfl rfl (Nat.le_of_ble_eq_true rfl) ?_
  refine z_aload_n (q := 1) dX8_leaves_0 rfl rfl rfl ?_
  refine z_iconst (q := 2) (v := nI 2) dX8_leaves_1 (by rfl) rfl ?_
  refine z_dup2 (q := 3) dX8_leaves_2 rfl rfl rfl ?_
  refine z_iald (q := 4) _ (by with_reducible assumption) (rfl) (by omega) (by decide) dX8_leaves_3 rfl ?_
  refine z_iconst (q := 5) (v := nI 1) dX8_leaves_4 (by rfl) rfl ?_
  refine z_isub (q := 6) dX8_leaves_5 rfl ?_
  refine z_iast (q := 7) _ (by with_reducible assumption) (rfl) (by omega) (by decide) dX8_leaves_6 rfl ?_
  refine z_sipush (q := 10) (v := nI 321) dX8_leaves_7 (by rfl) rfl ?_
  refine z_iconst (q := 11) (v := nI 5) dX8_leaves_10 (by rfl) rfl ?_
  refine z_iload_n (q := 12) dX8_leaves_11 rfl rfl rfl ?_
  refine z_imulE (q := 13) dX8_leaves_12 (pk_mul _ _) rfl ?_
  refine z_iaddE (q := 14) dX8_leaves_13 (nI_add _ _) rfl ?_
  refine z_istore_n (q := 15) dX8_leaves_14 rfl (by decide) rfl ?_
  have loop : ∀ j, j ≤ 5 * (np - 1 - i) → ∀ I2, z_row I r (lvsP (I r) i j) I2 → z_X G muX8_leaves (0, 0, 0) (z_rel none n T (fun I' R' => R' = R ∧ z_row I r (lvs (I r) i np) I')) n T I2 R 0 0 15 [(0, .ref r), (1, .int (nI i)), (2, .int (nI (321 + 5 * i + j)))] [] := by
    refine z_up (N := 5 * (np - 1 - i)) _ ?_ ?_
    · intro I2 hI
      have e2 : I2 r 2 = nI (np - 1) := by
        rw [hI.1]
        simp only [lvsP, if_true, h2]
        rw [← nI_pred (np - 1), show np - 1 + 1 = np by omega]
      refine z_iload_n (q := 16) dX8_leaves_15 rfl rfl rfl ?_
      refine z_sipush (q := 19) (v := nI 321) dX8_leaves_16 (by rfl) rfl ?_
      refine z_iconst (q := 20) (v := nI 5) dX8_leaves_19 (by rfl) rfl ?_
      refine z_aload_n (q := 21) dX8_leaves_20 rfl rfl rfl ?_
      refine z_iconst (q := 22) (v := nI 2) dX8_leaves_21 (by rfl) rfl ?_
      refine z_ialdV (q := 23) _ (by with_reducible assumption) (rfl) (by omega) (by decide) (e2) dX8_leaves_22 rfl ?_
      refine z_imulE (q := 24) dX8_leaves_23 (pk_mul _ _) rfl ?_
      refine z_iaddE (q := 25) dX8_leaves_24 (nI_add _ _) rfl ?_
      refine z_icmpn_ge (rfl) (rfl) (by omega) (by omega) (tgt := 42) (q := 28) dX8_leaves_25 (by decide) rfl (fun _ => ?_) (fun hc => absurd hc (by omega))
      refine z_vret rfl dX8_leaves_42 (Nat.zero_le _) (Nat.zero_le _) ⟨rfl, rfl, rfl, rfl, ?_⟩
      rw [← lvsP_e _ hi]
      exact hI
    · intro j hj ih I2 hI
      have e2 : I2 r 2 = nI (np - 1) := by
        rw [hI.1]
        simp only [lvsP, if_true, h2]
        rw [← nI_pred (np - 1), show np - 1 + 1 = np by omega]
      refine z_iload_n (q := 16) dX8_leaves_15 rfl rfl rfl ?_
      refine z_sipush (q := 19) (v := nI 321) dX8_leaves_16 (by rfl) rfl ?_
      refine z_iconst (q := 20) (v := nI 5) dX8_leaves_19 (by rfl) rfl ?_
      refine z_aload_n (q := 21) dX8_leaves_20 rfl rfl rfl ?_
      refine z_iconst (q := 22) (v := nI 2) dX8_leaves_21 (by rfl) rfl ?_
      refine z_ialdV (q := 23) _ (by with_reducible assumption) (rfl) (by omega) (by decide) (e2) dX8_leaves_22 rfl ?_
      refine z_imulE (q := 24) dX8_leaves_23 (pk_mul _ _) rfl ?_
      refine z_iaddE (q := 25) dX8_leaves_24 (nI_add _ _) rfl ?_
      refine z_icmpn_ge (rfl) (rfl) (by omega) (by omega) (tgt := 42) (q := 28) dX8_leaves_25 (by decide) rfl (fun hc => absurd hc (by omega)) (fun _ => ?_)
      refine z_aload_n (q := 29) dX8_leaves_28 rfl rfl rfl ?_
      refine z_iload_n (q := 30) dX8_leaves_29 rfl rfl rfl ?_
      refine z_aload_n (q := 31) dX8_leaves_30 rfl rfl rfl ?_
      refine z_iload_n (q := 32) dX8_leaves_31 rfl rfl rfl ?_
      refine z_iconst (q := 33) (v := nI 5) dX8_leaves_32 (by rfl) rfl ?_
      refine z_iaddE (q := 34) dX8_leaves_33 (nI_add _ _) rfl ?_
      refine z_iald (q := 35) _ (by with_reducible assumption) (rfl) (by omega) (by decide) dX8_leaves_34 rfl ?_
      refine z_iast (q := 36) _ (by with_reducible assumption) (rfl) (by omega) (by decide) dX8_leaves_35 rfl ?_
      refine z_iinc (q := 39) dX8_leaves_36 rfl (nI_add _ 1) (by decide) rfl ?_
      refine z_goto (q := 15) dX8_leaves_39 (by decide) ?_
      refine ih _ (z_row_w hI _ _ ?_)
      rw [hI.1]
      exact lvsP_s _ _ _
  refine loop 0 (Nat.zero_le _) _ (z_row_w ⟨rfl, fun _ _ => rfl⟩ _ _ ?_)
  exact lvsP_0 _ _

