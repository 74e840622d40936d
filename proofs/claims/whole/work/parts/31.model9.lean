/-! THE REFERENCE, doors: space, densities, reasons -/
def areas (g : Nat → Int32) (x : Int32) (nd : Nat) : Int32 := sumI (fun d => if g (57 + 10 * d + 0) = x ∨ g (57 + 10 * d + 1) = x then g (57 + 10 * d + 2) else 0) nd
def doorsN (g : Nat → Int32) (x : Int32) (nd : Nat) : Int32 := sumI (fun d => if g (57 + 10 * d + 0) = x ∨ g (57 + 10 * d + 1) = x then 1 else 0) nd
def dens (g : Nat → Int32) (a : Nat) : Int32 := if a = 8 then 0 else g (9 + 6 * a + 2) / g (9 + 6 * a + 0)
def difB (g : Nat → Int32) (d : Nat) : Int32 := dens g (gN g (57 + 10 * d + 0)) - dens g (gN g (57 + 10 * d + 1))
def absI (x : Int32) : Int32 := if x < 0 then -x else x
def rsn (g : Nat → Int32) (d : Nat) (t : Int32) : Int32 := if g (57 + 10 * d + 7) = 1 then 1 else if g (57 + 10 * d + 6) = t then 2 else if g (57 + 10 * d + 5) < t ∧ g 7 < absI (difB g d) then 3 else 0
set_option maxRecDepth 100000 in
set_option maxHeartbeats 4000000 in
theorem c_X8_areasOf (G : zG) {n : Nat} {T : zTT} {I : zII} {R : zRR} (m nd : Nat) (x : Int32) (hM : z_Mod T R m) (h1 : I (m + 1) 1 = nI nd) (hnd : nd ≤ 12) : Ct G yX8_areasOf wsX8_areasOf (1, 0, 0) [.ref m, .int x] n T I R (z_ret (some (.int (areas (I (m + 1)) x nd))) n T I R) := by
  refine Ct.ofX (M := muX8_areasOf) (ls := [(0, .ref m), (1, .int x)]) (by decide +kernel) rfl (by decide) rfl rfl (Nat.le_of_ble_eq_true rfl) ?_
  obtain ⟨hTm, ⟨hTs, hRs⟩, -⟩ := id hM
  refine z_iconst (q := 1) (v := nI 0) dX8_areasOf_0 (by rfl) rfl ?_
  refine z_istore_n (q := 2) dX8_areasOf_1 rfl (by decide) rfl ?_
  refine z_iconst (q := 3) (v := nI 0) dX8_areasOf_2 (by rfl) rfl ?_
  refine z_istore_n (q := 4) dX8_areasOf_3 rfl (by decide) rfl ?_
  refine z_up (N := nd) (P := fun i => z_X G muX8_areasOf (1, 0, 0) (z_ret (some (.int (areas (I (m + 1)) x nd))) n T I R) n T I R 0 0 4 [(0, .ref m), (1, .int x), (2, .int (areas (I (m + 1)) x i)), (3, .int (nI i))] []) ?_ ?_ 0 (Nat.zero_le _)
  · refine z_iload_n (q := 5) dX8_areasOf_4 rfl rfl rfl ?_
    refine z_aload_n (q := 6) dX8_areasOf_5 rfl rfl rfl ?_
    refine z_getR (q := 9) 8 0 1 6 rfl (by decide) rfl rfl rfl (by with_reducible assumption) (by with_reducible assumption) dX8_areasOf_6 rfl ?_
    refine z_iconst (q := 10) (v := nI 1) dX8_areasOf_9 (by rfl) rfl ?_
    refine z_ialdV (q := 11) _ (by with_reducible assumption) (rfl) (by omega) (by decide) (h1) dX8_areasOf_10 rfl ?_
    refine z_icmpn_ge (rfl) (rfl) (by omega) (by omega) (tgt := 62) (q := 14) dX8_areasOf_11 (by decide) rfl (fun _ => ?_) (fun hc => absurd hc (by omega))
    refine z_iload_n (q := 63) dX8_areasOf_62 rfl rfl rfl ?_
    exact z_iret rfl dX8_areasOf_63 (Nat.zero_le _) (Nat.zero_le _) (⟨rfl, rfl, rfl, rfl, rfl⟩)
  · intro i hi ih
    refine z_iload_n (q := 5) dX8_areasOf_4 rfl rfl rfl ?_
    refine z_aload_n (q := 6) dX8_areasOf_5 rfl rfl rfl ?_
    refine z_getR (q := 9) 8 0 1 6 rfl (by decide) rfl rfl rfl (by with_reducible assumption) (by with_reducible assumption) dX8_areasOf_6 rfl ?_
    refine z_iconst (q := 10) (v := nI 1) dX8_areasOf_9 (by rfl) rfl ?_
    refine z_ialdV (q := 11) _ (by with_reducible assumption) (rfl) (by omega) (by decide) (h1) dX8_areasOf_10 rfl ?_
    refine z_icmpn_ge (rfl) (rfl) (by omega) (by omega) (tgt := 62) (q := 14) dX8_areasOf_11 (by decide) rfl (fun hc => absurd hc (by omega)) (fun _ => ?_)
    have fin : ∀ v, v = (if I (m + 1) (57 + 10 * i + 0) = x ∨ I (m + 1) (57 + 10 * i + 1) = x then I (m + 1) (57 + 10 * i + 2) else 0) → z_X G muX8_areasOf (1, 0, 0) (z_ret (some (.int (areas (I (m + 1)) x nd))) n T I R) n T I R 0 0 54 [(0, .ref m), (1, .int x), (2, .int (areas (I (m + 1)) x i)), (3, .int (nI i))] [.int v, .int (areas (I (m + 1)) x i)] := by
      intro v hv
      refine z_iadd (q := 55) dX8_areasOf_54 rfl ?_
      refine z_istore_n (q := 56) dX8_areasOf_55 rfl (by decide) rfl ?_
      refine z_iinc (q := 59) dX8_areasOf_56 rfl (nI_add _ 1) (by decide) rfl ?_
      refine z_goto (q := 4) dX8_areasOf_59 (by decide) ?_
      rw [hv]
      exact ih
    refine z_iload_n (q := 15) dX8_areasOf_14 rfl rfl rfl ?_
    refine z_aload_n (q := 16) dX8_areasOf_15 rfl rfl rfl ?_
    refine z_getR (q := 19) 8 0 1 6 rfl (by decide) rfl rfl rfl (by with_reducible assumption) (by with_reducible assumption) dX8_areasOf_16 rfl ?_
    refine z_iload_n (q := 20) dX8_areasOf_19 rfl rfl rfl ?_
    refine z_iconst (q := 21) (v := nI 0) dX8_areasOf_20 (by rfl) rfl ?_
    refine z_invS (q := 24) (c_X8_ofDoor G (m + 1) i 0 hTs (by omega)) gX8_areasOf_X8_ofDoor rfl hy_X8_ofDoor rfl rfl rfl rfl (Nat.le_of_ble_eq_true rfl) ⟨Nat.zero_le _, Nat.zero_le _⟩ dX8_areasOf_21 rfl (z_rv ?_)
    refine z_iload_n (q := 25) dX8_areasOf_24 rfl rfl rfl ?_
    refine z_icmp_eq (tgt := 41) (q := 28) dX8_areasOf_25 (by decide) rfl (fun hc => ?_) (fun hc => ?_)
    · refine z_aload_n (q := 42) dX8_areasOf_41 rfl rfl rfl ?_
      refine z_getR (q := 45) 8 0 1 6 rfl (by decide) rfl rfl rfl (by with_reducible assumption) (by with_reducible assumption) dX8_areasOf_42 rfl ?_
      refine z_iload_n (q := 46) dX8_areasOf_45 rfl rfl rfl ?_
      refine z_iconst (q := 47) (v := nI 2) dX8_areasOf_46 (by rfl) rfl ?_
      refine z_invS (q := 50) (c_X8_ofDoor G (m + 1) i 2 hTs (by omega)) gX8_areasOf_X8_ofDoor rfl hy_X8_ofDoor rfl rfl rfl rfl (Nat.le_of_ble_eq_true rfl) ⟨Nat.zero_le _, Nat.zero_le _⟩ dX8_areasOf_47 rfl (z_rv ?_)
      refine z_goto (q := 54) dX8_areasOf_50 (by decide) ?_
      exact fin _ (by rw [if_pos (Or.inl hc)])
    · refine z_aload_n (q := 29) dX8_areasOf_28 rfl rfl rfl ?_
      refine z_getR (q := 32) 8 0 1 6 rfl (by decide) rfl rfl rfl (by with_reducible assumption) (by with_reducible assumption) dX8_areasOf_29 rfl ?_
      refine z_iload_n (q := 33) dX8_areasOf_32 rfl rfl rfl ?_
      refine z_iconst (q := 34) (v := nI 1) dX8_areasOf_33 (by rfl) rfl ?_
      refine z_invS (q := 37) (c_X8_ofDoor G (m + 1) i 1 hTs (by omega)) gX8_areasOf_X8_ofDoor rfl hy_X8_ofDoor rfl rfl rfl rfl (Nat.le_of_ble_eq_true rfl) ⟨Nat.zero_le _, Nat.zero_le _⟩ dX8_areasOf_34 rfl (z_rv ?_)
      refine z_iload_n (q := 38) dX8_areasOf_37 rfl rfl rfl ?_
      refine z_icmp_ne (tgt := 53) (q := 41) dX8_areasOf_38 (by decide) rfl (fun hd => ?_) (fun hd => ?_)
      · refine z_iconst (q := 54) (v := nI 0) dX8_areasOf_53 (by rfl) rfl ?_
        exact fin _ (by rw [if_neg (fun q => q.elim hc hd)]; rfl)
      · refine z_aload_n (q := 42) dX8_areasOf_41 rfl rfl rfl ?_
        refine z_getR (q := 45) 8 0 1 6 rfl (by decide) rfl rfl rfl (by with_reducible assumption) (by with_reducible assumption) dX8_areasOf_42 rfl ?_
        refine z_iload_n (q := 46) dX8_areasOf_45 rfl rfl rfl ?_
        refine z_iconst (q := 47) (v := nI 2) dX8_areasOf_46 (by rfl) rfl ?_
        refine z_invS (q := 50) (c_X8_ofDoor G (m + 1) i 2 hTs (by omega)) gX8_areasOf_X8_ofDoor rfl hy_X8_ofDoor rfl rfl rfl rfl (Nat.le_of_ble_eq_true rfl) ⟨Nat.zero_le _, Nat.zero_le _⟩ dX8_areasOf_47 rfl (z_rv ?_)
        refine z_goto (q := 54) dX8_areasOf_50 (by decide) ?_
        exact fin _ (by rw [if_pos (Or.inr hd)])
set_option maxRecDepth 100000 in
set_option maxHeartbeats 4000000 in
theorem c_X8_doorsOf (G : zG) {n : Nat} {T : zTT} {I : zII} {R : zRR} (m nd : Nat) (x : Int32) (hM : z_Mod T R m) (h1 : I (m + 1) 1 = nI nd) (hnd : nd ≤ 12) : Ct G yX8_doorsOf wsX8_doorsOf (1, 0, 0) [.ref m, .int x] n T I R (z_ret (some (.int (doorsN (I (m + 1)) x nd))) n T I R) := by
  refine Ct.ofX (M := muX8_doorsOf) (ls := [(0, .ref m), (1, .int x)]) (by decide +kernel) rfl (by decide) rfl rfl (Nat.le_of_ble_eq_true rfl) ?_
  obtain ⟨hTm, ⟨hTs, hRs⟩, -⟩ := id hM
  refine z_iconst (q := 1) (v := nI 0) dX8_doorsOf_0 (by rfl) rfl ?_
  refine z_istore_n (q := 2) dX8_doorsOf_1 rfl (by decide) rfl ?_
  refine z_iconst (q := 3) (v := nI 0) dX8_doorsOf_2 (by rfl) rfl ?_
  refine z_istore_n (q := 4) dX8_doorsOf_3 rfl (by decide) rfl ?_
  refine z_up (N := nd) (P := fun i => z_X G muX8_doorsOf (1, 0, 0) (z_ret (some (.int (doorsN (I (m + 1)) x nd))) n T I R) n T I R 0 0 4 [(0, .ref m), (1, .int x), (2, .int (doorsN (I (m + 1)) x i)), (3, .int (nI i))] []) ?_ ?_ 0 (Nat.zero_le _)
  · refine z_iload_n (q := 5) dX8_doorsOf_4 rfl rfl rfl ?_
    refine z_aload_n (q := 6) dX8_doorsOf_5 rfl rfl rfl ?_
    refine z_getR (q := 9) 8 0 1 6 rfl (by decide) rfl rfl rfl (by with_reducible assumption) (by with_reducible assumption) dX8_doorsOf_6 rfl ?_
    refine z_iconst (q := 10) (v := nI 1) dX8_doorsOf_9 (by rfl) rfl ?_
    refine z_ialdV (q := 11) _ (by with_reducible assumption) (rfl) (by omega) (by decide) (h1) dX8_doorsOf_10 rfl ?_
    refine z_icmpn_ge (rfl) (rfl) (by omega) (by omega) (tgt := 54) (q := 14) dX8_doorsOf_11 (by decide) rfl (fun _ => ?_) (fun hc => absurd hc (by omega))
    refine z_iload_n (q := 55) dX8_doorsOf_54 rfl rfl rfl ?_
    exact z_iret rfl dX8_doorsOf_55 (Nat.zero_le _) (Nat.zero_le _) (⟨rfl, rfl, rfl, rfl, rfl⟩)
  · intro i hi ih
    refine z_iload_n (q := 5) dX8_doorsOf_4 rfl rfl rfl ?_
    refine z_aload_n (q := 6) dX8_doorsOf_5 rfl rfl rfl ?_
    refine z_getR (q := 9) 8 0 1 6 rfl (by decide) rfl rfl rfl (by with_reducible assumption) (by with_reducible assumption) dX8_doorsOf_6 rfl ?_
    refine z_iconst (q := 10) (v := nI 1) dX8_doorsOf_9 (by rfl) rfl ?_
    refine z_ialdV (q := 11) _ (by with_reducible assumption) (rfl) (by omega) (by decide) (h1) dX8_doorsOf_10 rfl ?_
    refine z_icmpn_ge (rfl) (rfl) (by omega) (by omega) (tgt := 54) (q := 14) dX8_doorsOf_11 (by decide) rfl (fun hc => absurd hc (by omega)) (fun _ => ?_)
    have fin : ∀ v, v = (if I (m + 1) (57 + 10 * i + 0) = x ∨ I (m + 1) (57 + 10 * i + 1) = x then 1 else 0) → z_X G muX8_doorsOf (1, 0, 0) (z_ret (some (.int (doorsN (I (m + 1)) x nd))) n T I R) n T I R 0 0 46 [(0, .ref m), (1, .int x), (2, .int (doorsN (I (m + 1)) x i)), (3, .int (nI i))] [.int v, .int (doorsN (I (m + 1)) x i)] := by
      intro v hv
      refine z_iadd (q := 47) dX8_doorsOf_46 rfl ?_
      refine z_istore_n (q := 48) dX8_doorsOf_47 rfl (by decide) rfl ?_
      refine z_iinc (q := 51) dX8_doorsOf_48 rfl (nI_add _ 1) (by decide) rfl ?_
      refine z_goto (q := 4) dX8_doorsOf_51 (by decide) ?_
      rw [hv]
      exact ih
    refine z_iload_n (q := 15) dX8_doorsOf_14 rfl rfl rfl ?_
    refine z_aload_n (q := 16) dX8_doorsOf_15 rfl rfl rfl ?_
    refine z_getR (q := 19) 8 0 1 6 rfl (by decide) rfl rfl rfl (by with_reducible assumption) (by with_reducible assumption) dX8_doorsOf_16 rfl ?_
    refine z_iload_n (q := 20) dX8_doorsOf_19 rfl rfl rfl ?_
    refine z_iconst (q := 21) (v := nI 0) dX8_doorsOf_20 (by rfl) rfl ?_
    refine z_invS (q := 24) (c_X8_ofDoor G (m + 1) i 0 hTs (by omega)) gX8_doorsOf_X8_ofDoor rfl hy_X8_ofDoor rfl rfl rfl rfl (Nat.le_of_ble_eq_true rfl) ⟨Nat.zero_le _, Nat.zero_le _⟩ dX8_doorsOf_21 rfl (z_rv ?_)
    refine z_iload_n (q := 25) dX8_doorsOf_24 rfl rfl rfl ?_
    refine z_icmp_eq (tgt := 41) (q := 28) dX8_doorsOf_25 (by decide) rfl (fun hc => ?_) (fun hc => ?_)
    · refine z_iconst (q := 42) (v := nI 1) dX8_doorsOf_41 (by rfl) rfl ?_
      refine z_goto (q := 46) dX8_doorsOf_42 (by decide) ?_
      exact fin _ (by rw [if_pos (Or.inl hc), zI1])
    · refine z_aload_n (q := 29) dX8_doorsOf_28 rfl rfl rfl ?_
      refine z_getR (q := 32) 8 0 1 6 rfl (by decide) rfl rfl rfl (by with_reducible assumption) (by with_reducible assumption) dX8_doorsOf_29 rfl ?_
      refine z_iload_n (q := 33) dX8_doorsOf_32 rfl rfl rfl ?_
      refine z_iconst (q := 34) (v := nI 1) dX8_doorsOf_33 (by rfl) rfl ?_
      refine z_invS (q := 37) (c_X8_ofDoor G (m + 1) i 1 hTs (by omega)) gX8_doorsOf_X8_ofDoor rfl hy_X8_ofDoor rfl rfl rfl rfl (Nat.le_of_ble_eq_true rfl) ⟨Nat.zero_le _, Nat.zero_le _⟩ dX8_doorsOf_34 rfl (z_rv ?_)
      refine z_iload_n (q := 38) dX8_doorsOf_37 rfl rfl rfl ?_
      refine z_icmp_ne (tgt := 45) (q := 41) dX8_doorsOf_38 (by decide) rfl (fun hd => ?_) (fun hd => ?_)
      · refine z_iconst (q := 46) (v := nI 0) dX8_doorsOf_45 (by rfl) rfl ?_
        exact fin _ (by rw [if_neg (fun q => q.elim hc hd)]; rfl)
      · refine z_iconst (q := 42) (v := nI 1) dX8_doorsOf_41 (by rfl) rfl ?_
        refine z_goto (q := 46) dX8_doorsOf_42 (by decide) ?_
        exact fin _ (by rw [if_pos (Or.inr hd), zI1])
set_option maxRecDepth 100000 in
set_option maxHeartbeats 4000000 in
theorem c_X8_hasSpace (G : zG) {n : Nat} {T : zTT} {I : zII} {R : zRR} (m nd r : Nat) (a : Int32) (hM : z_Mod T R m) (h1 : I (m + 1) 1 = nI nd) (hnd : nd ≤ 12) (hr : r ≤ 8) : Ct G yX8_hasSpace wsX8_hasSpace (2, 0, 0) [.ref m, .int (nI r), .int a] n T I R (z_ret (some (.int (if r = 8 ∨ ¬ I (m + 1) (9 + 6 * r + 0) < areas (I (m + 1)) (nI r) nd + a then 1 else 0))) n T I R) := by
  refine Ct.ofX (M := muX8_hasSpace) (ls := [(0, .ref m), (1, .int (nI r)), (2, .int a)]) (by decide +kernel) rfl (by decide) rfl rfl (Nat.le_of_ble_eq_true rfl) ?_
  obtain ⟨hTm, ⟨hTs, hRs⟩, -⟩ := id hM
  refine z_iload_n (q := 1) dX8_hasSpace_0 rfl rfl rfl ?_
  refine z_bipush (q := 3) (v := nI 8) dX8_hasSpace_1 (by rfl) rfl ?_
  refine z_icmpn_eq (rfl) (rfl) (by omega) (by omega) (tgt := 25) (q := 6) dX8_hasSpace_3 (by decide) rfl (fun hc => ?_) (fun hc => ?_)
  · refine z_iconst (q := 26) (v := nI 1) dX8_hasSpace_25 (by rfl) rfl ?_
    refine z_goto (q := 30) dX8_hasSpace_26 (by decide) ?_
    exact z_zret rfl (by rfl) dX8_hasSpace_30 (Nat.zero_le _) (Nat.zero_le _) (⟨by rw [if_pos (Or.inl hc), zI1], rfl, rfl, rfl, rfl⟩)
  · refine z_aload_n (q := 7) dX8_hasSpace_6 rfl rfl rfl ?_
    refine z_iload_n (q := 8) dX8_hasSpace_7 rfl rfl rfl ?_
    refine z_invV (q := 11) (c_X8_areasOf G m nd (nI r) hM h1 hnd) (by with_reducible assumption) rfl gX8_hasSpace_X8_areasOf rfl hy_X8_areasOf rfl rfl rfl rfl (Nat.le_of_ble_eq_true rfl) ⟨Nat.zero_le _, Nat.zero_le _⟩ dX8_hasSpace_8 rfl (z_rv ?_)
    refine z_iload_n (q := 12) dX8_hasSpace_11 rfl rfl rfl ?_
    refine z_iadd (q := 13) dX8_hasSpace_12 rfl ?_
    refine z_aload_n (q := 14) dX8_hasSpace_13 rfl rfl rfl ?_
    refine z_getR (q := 17) 8 0 1 13 rfl (by decide) rfl rfl rfl (by with_reducible assumption) (by with_reducible assumption) dX8_hasSpace_14 rfl ?_
    refine z_iload_n (q := 18) dX8_hasSpace_17 rfl rfl rfl ?_
    refine z_iconst (q := 19) (v := nI 0) dX8_hasSpace_18 (by rfl) rfl ?_
    refine z_invS (q := 22) (c_X8_inRoom G (m + 1) r 0 hTs (by omega)) gX8_hasSpace_X8_inRoom rfl hy_X8_inRoom rfl rfl rfl rfl (Nat.le_of_ble_eq_true rfl) ⟨Nat.zero_le _, Nat.zero_le _⟩ dX8_hasSpace_19 rfl (z_rv ?_)
    refine z_icmp_gt (tgt := 29) (q := 25) dX8_hasSpace_22 (by decide) rfl (fun hd => ?_) (fun hd => ?_)
    · refine z_iconst (q := 30) (v := nI 0) dX8_hasSpace_29 (by rfl) rfl ?_
      exact z_zret rfl (by rfl) dX8_hasSpace_30 (Nat.zero_le _) (Nat.zero_le _) (⟨by rw [if_neg (fun q => q.elim hc (fun z => z hd))]; rfl, rfl, rfl, rfl, rfl⟩)
    · refine z_iconst (q := 26) (v := nI 1) dX8_hasSpace_25 (by rfl) rfl ?_
      refine z_goto (q := 30) dX8_hasSpace_26 (by decide) ?_
      exact z_zret rfl (by rfl) dX8_hasSpace_30 (Nat.zero_le _) (Nat.zero_le _) (⟨by rw [if_pos (Or.inr (fun z => hd z)), zI1], rfl, rfl, rfl, rfl⟩)
set_option maxRecDepth 100000 in
set_option maxHeartbeats 4000000 in
theorem c_X8_densityOf (G : zG) {n : Nat} {T : zTT} {I : zII} {R : zRR} (m a : Nat) (hM : z_Mod T R m) (ha8 : a ≤ 8) (hv : a < 8 → ∃ v, I (m + 1) (9 + 6 * a + 0) = nI v ∧ 10 ≤ v ∧ v ≤ 10000) : Ct G yX8_densityOf wsX8_densityOf (1, 0, 0) [.ref m, .int (nI a)] n T I R (z_ret (some (.int (dens (I (m + 1)) a))) n T I R) := by
  refine Ct.ofX (M := muX8_densityOf) (ls := [(0, .ref m), (1, .int (nI a))]) (by decide +kernel) rfl (by decide) rfl rfl (Nat.le_of_ble_eq_true rfl) ?_
  obtain ⟨hTm, ⟨hTs, hRs⟩, -⟩ := id hM
  refine z_iload_n (q := 1) dX8_densityOf_0 rfl rfl rfl ?_
  refine z_bipush (q := 3) (v := nI 8) dX8_densityOf_1 (by rfl) rfl ?_
  refine z_icmpn_ne (rfl) (rfl) (by omega) (by omega) (tgt := 10) (q := 6) dX8_densityOf_3 (by decide) rfl (fun hc => ?_) (fun hc => ?_)
  · obtain ⟨v, hv0, hv1, hv2⟩ := hv (by omega)
    have hne : ¬ I (m + 1) (9 + 6 * a + 0) = 0 := by
      rw [hv0]
      intro q
      have := (nI_eq (a := v) (b := 0) (by omega) (by omega)).mp q
      omega
    refine z_aload_n (q := 11) dX8_densityOf_10 rfl rfl rfl ?_
    refine z_getR (q := 14) 8 0 1 6 rfl (by decide) rfl rfl rfl (by with_reducible assumption) (by with_reducible assumption) dX8_densityOf_11 rfl ?_
    refine z_iload_n (q := 15) dX8_densityOf_14 rfl rfl rfl ?_
    refine z_iconst (q := 16) (v := nI 2) dX8_densityOf_15 (by rfl) rfl ?_
    refine z_invS (q := 19) (c_X8_inRoom G (m + 1) a 2 hTs (by omega)) gX8_densityOf_X8_inRoom rfl hy_X8_inRoom rfl rfl rfl rfl (Nat.le_of_ble_eq_true rfl) ⟨Nat.zero_le _, Nat.zero_le _⟩ dX8_densityOf_16 rfl (z_rv ?_)
    refine z_aload_n (q := 20) dX8_densityOf_19 rfl rfl rfl ?_
    refine z_getR (q := 23) 8 0 1 6 rfl (by decide) rfl rfl rfl (by with_reducible assumption) (by with_reducible assumption) dX8_densityOf_20 rfl ?_
    refine z_iload_n (q := 24) dX8_densityOf_23 rfl rfl rfl ?_
    refine z_iconst (q := 25) (v := nI 0) dX8_densityOf_24 (by rfl) rfl ?_
    refine z_invS (q := 28) (c_X8_inRoom G (m + 1) a 0 hTs (by omega)) gX8_densityOf_X8_inRoom rfl hy_X8_inRoom rfl rfl rfl rfl (Nat.le_of_ble_eq_true rfl) ⟨Nat.zero_le _, Nat.zero_le _⟩ dX8_densityOf_25 rfl (z_rv ?_)
    refine z_idiv (q := 29) dX8_densityOf_28 (hne) rfl ?_
    exact z_iret rfl dX8_densityOf_29 (Nat.zero_le _) (Nat.zero_le _) (⟨by rw [dens, if_neg hc], rfl, rfl, rfl, rfl⟩)
  · refine z_iconst (q := 7) (v := nI 0) dX8_densityOf_6 (by rfl) rfl ?_
    refine z_goto (q := 29) dX8_densityOf_7 (by decide) ?_
    exact z_iret rfl dX8_densityOf_29 (Nat.zero_le _) (Nat.zero_le _) (⟨by rw [dens, if_pos hc]; rfl, rfl, rfl, rfl, rfl⟩)
theorem INV_a {nr nd np st : Nat} {g : Nat → Int32} (hI : INV nr nd np st g) {d : Nat} (hd : d < nd) : (∃ a, g (57 + 10 * d + 0) = nI a ∧ a ≤ 8 ∧ (a < 8 → ∃ v, g (9 + 6 * a + 0) = nI v ∧ 10 ≤ v ∧ v ≤ 10000)) ∧ ∃ b, g (57 + 10 * d + 1) = nI b ∧ b ≤ 8 ∧ (b < 8 → ∃ v, g (9 + 6 * b + 0) = nI v ∧ 10 ≤ v ∧ v ≤ 10000) := by
  have hnd := hI.2.1.2
  have hnr := hI.1.2
  obtain ⟨a, b, -, -, -, -, -, -, ⟨ha, ha2⟩, ⟨hb, hb2⟩, -⟩ := (hI.2.2.2.2.2.1 d (by omega)).1 hd
  exact ⟨⟨a, ha, by omega, fun h => ((hI.2.2.2.2.1 a h).1 ha2).1⟩, ⟨b, hb, by omega, fun h => ((hI.2.2.2.2.1 b h).1 (by omega)).1⟩⟩
set_option maxRecDepth 100000 in
set_option maxHeartbeats 4000000 in
theorem c_X8_reason (G : zG) {n : Nat} {T : zTT} {I : zII} {R : zRR} (m nr nd np st d : Nat) (t : Int32) (hM : z_Mod T R m) (hI : INV nr nd np st (I (m + 1))) (hd : d < nd) : Ct G yX8_reason wsX8_reason (2, 0, 0) [.ref m, .int (nI d), .int t] n T I R (z_ret (some (.int (rsn (I (m + 1)) d t))) n T I R) := by
  refine Ct.ofX (M := muX8_reason) (ls := [(0, .ref m), (1, .int (nI d)), (2, .int t)]) (by decide +kernel) rfl (by decide) rfl rfl (Nat.le_of_ble_eq_true rfl) ?_
  have hnd := hI.2.1.2
  obtain ⟨hTm, ⟨hTs, hRs⟩, -⟩ := id hM
  obtain ⟨⟨a, ha, ha8, hav⟩, ⟨b, hb, hb8, hbv⟩⟩ := INV_a hI hd
  have hga : gN (I (m + 1)) (57 + 10 * d + 0) = a := gN_of ha (by omega)
  have hgb : gN (I (m + 1)) (57 + 10 * d + 1) = b := gN_of hb (by omega)
  refine z_aload_n (q := 1) dX8_reason_0 rfl rfl rfl ?_
  refine z_aload_n (q := 2) dX8_reason_1 rfl rfl rfl ?_
  refine z_getR (q := 5) 8 0 1 13 rfl (by decide) rfl rfl rfl (by with_reducible assumption) (by with_reducible assumption) dX8_reason_2 rfl ?_
  refine z_iload_n (q := 6) dX8_reason_5 rfl rfl rfl ?_
  refine z_iconst (q := 7) (v := nI 0) dX8_reason_6 (by rfl) rfl ?_
  refine z_invS (q := 10) (c_X8_ofDoor G (m + 1) d 0 hTs (by omega)) gX8_reason_X8_ofDoor rfl hy_X8_ofDoor rfl rfl rfl rfl (Nat.le_of_ble_eq_true rfl) ⟨Nat.zero_le _, Nat.zero_le _⟩ dX8_reason_7 rfl (z_rv ?_)
  rw [ha]
  refine z_invV (q := 13) (c_X8_densityOf G m a hM ha8 hav) (by with_reducible assumption) rfl gX8_reason_X8_densityOf rfl hy_X8_densityOf rfl rfl rfl rfl (Nat.le_of_ble_eq_true rfl) ⟨Nat.zero_le _, Nat.zero_le _⟩ dX8_reason_10 rfl (z_rv ?_)
  refine z_aload_n (q := 14) dX8_reason_13 rfl rfl rfl ?_
  refine z_aload_n (q := 15) dX8_reason_14 rfl rfl rfl ?_
  refine z_getR (q := 18) 8 0 1 13 rfl (by decide) rfl rfl rfl (by with_reducible assumption) (by with_reducible assumption) dX8_reason_15 rfl ?_
  refine z_iload_n (q := 19) dX8_reason_18 rfl rfl rfl ?_
  refine z_iconst (q := 20) (v := nI 1) dX8_reason_19 (by rfl) rfl ?_
  refine z_invS (q := 23) (c_X8_ofDoor G (m + 1) d 1 hTs (by omega)) gX8_reason_X8_ofDoor rfl hy_X8_ofDoor rfl rfl rfl rfl (Nat.le_of_ble_eq_true rfl) ⟨Nat.zero_le _, Nat.zero_le _⟩ dX8_reason_20 rfl (z_rv ?_)
  rw [hb]
  refine z_invV (q := 26) (c_X8_densityOf G m b hM hb8 hbv) (by with_reducible assumption) rfl gX8_reason_X8_densityOf rfl hy_X8_densityOf rfl rfl rfl rfl (Nat.le_of_ble_eq_true rfl) ⟨Nat.zero_le _, Nat.zero_le _⟩ dX8_reason_23 rfl (z_rv ?_)
  refine z_isub (q := 27) dX8_reason_26 rfl ?_
  refine z_istore_n (q := 28) dX8_reason_27 rfl (by decide) rfl ?_
  refine z_iload_n (q := 29) dX8_reason_28 rfl rfl rfl ?_
  have hdif : dens (I (m + 1)) a - dens (I (m + 1)) b = difB (I (m + 1)) d := by rw [difB, hga, hgb]
  rw [hdif]
  have join : ∀ v, v = absI (difB (I (m + 1)) d) → ∀ y, z_X G muX8_reason (2, 0, 0) (z_ret (some (.int (rsn (I (m + 1)) d t))) n T I R) n T I R 0 0 38 [(0, .ref m), (1, .int (nI d)), (2, .int t), (3, .int y)] [.int v] := by
    intro v hv y
    refine z_istore_n (q := 39) dX8_reason_38 rfl (by decide) rfl ?_
    refine z_aload_n (q := 40) dX8_reason_39 rfl rfl rfl ?_
    refine z_getR (q := 43) 8 0 1 13 rfl (by decide) rfl rfl rfl (by with_reducible assumption) (by with_reducible assumption) dX8_reason_40 rfl ?_
    refine z_iload_n (q := 44) dX8_reason_43 rfl rfl rfl ?_
    refine z_bipush (q := 46) (v := nI 7) dX8_reason_44 (by rfl) rfl ?_
    refine z_invS (q := 49) (c_X8_ofDoor G (m + 1) d 7 hTs (by omega)) gX8_reason_X8_ofDoor rfl hy_X8_ofDoor rfl rfl rfl rfl (Nat.le_of_ble_eq_true rfl) ⟨Nat.zero_le _, Nat.zero_le _⟩ dX8_reason_46 rfl (z_rv ?_)
    refine z_iconst (q := 50) (v := nI 1) dX8_reason_49 (by rfl) rfl ?_
    refine z_icmp_ne (tgt := 55) (q := 53) dX8_reason_50 (by decide) rfl (fun h50 => ?_) (fun h50 => ?_)
    · refine z_aload_n (q := 56) dX8_reason_55 rfl rfl rfl ?_
      refine z_getR (q := 59) 8 0 1 13 rfl (by decide) rfl rfl rfl (by with_reducible assumption) (by with_reducible assumption) dX8_reason_56 rfl ?_
      refine z_iload_n (q := 60) dX8_reason_59 rfl rfl rfl ?_
      refine z_bipush (q := 62) (v := nI 6) dX8_reason_60 (by rfl) rfl ?_
      refine z_invS (q := 65) (c_X8_ofDoor G (m + 1) d 6 hTs (by omega)) gX8_reason_X8_ofDoor rfl hy_X8_ofDoor rfl rfl rfl rfl (Nat.le_of_ble_eq_true rfl) ⟨Nat.zero_le _, Nat.zero_le _⟩ dX8_reason_62 rfl (z_rv ?_)
      refine z_iload_n (q := 66) dX8_reason_65 rfl rfl rfl ?_
      have h50' : ¬ I (m + 1) (57 + 10 * d + 7) = 1 := fun z => h50 (z.trans zI1.symm)
      refine z_icmp_ne (tgt := 73) (q := 69) dX8_reason_66 (by decide) rfl (fun h66 => ?_) (fun h66 => ?_)
      · have no : ¬ (I (m + 1) (57 + 10 * d + 5) < t ∧ I (m + 1) 7 < absI (difB (I (m + 1)) d)) → z_X G muX8_reason (2, 0, 0) (z_ret (some (.int (rsn (I (m + 1)) d t))) n T I R) n T I R 0 0 101 [(0, .ref m), (1, .int (nI d)), (2, .int t), (3, .int v)] [] := by
          intro hn
          refine z_iconst (q := 102) (v := nI 0) dX8_reason_101 (by rfl) rfl ?_
          exact z_iret rfl dX8_reason_102 (Nat.zero_le _) (Nat.zero_le _) (⟨by rw [rsn, if_neg h50', if_neg h66, if_neg hn]; rfl, rfl, rfl, rfl, rfl⟩)
        refine z_iload_n (q := 74) dX8_reason_73 rfl rfl rfl ?_
        refine z_aload_n (q := 75) dX8_reason_74 rfl rfl rfl ?_
        refine z_getR (q := 78) 8 0 1 13 rfl (by decide) rfl rfl rfl (by with_reducible assumption) (by with_reducible assumption) dX8_reason_75 rfl ?_
        refine z_iload_n (q := 79) dX8_reason_78 rfl rfl rfl ?_
        refine z_iconst (q := 80) (v := nI 5) dX8_reason_79 (by rfl) rfl ?_
        refine z_invS (q := 83) (c_X8_ofDoor G (m + 1) d 5 hTs (by omega)) gX8_reason_X8_ofDoor rfl hy_X8_ofDoor rfl rfl rfl rfl (Nat.le_of_ble_eq_true rfl) ⟨Nat.zero_le _, Nat.zero_le _⟩ dX8_reason_80 rfl (z_rv ?_)
        refine z_icmp_le (tgt := 101) (q := 86) dX8_reason_83 (by decide) rfl (fun h83 => ?_) (fun h83 => ?_)
        · exact no (fun q => absurd q.1 (Int32.not_lt.mpr h83))
        · refine z_iload_n (q := 87) dX8_reason_86 rfl rfl rfl ?_
          refine z_aload_n (q := 88) dX8_reason_87 rfl rfl rfl ?_
          refine z_getR (q := 91) 8 0 1 13 rfl (by decide) rfl rfl rfl (by with_reducible assumption) (by with_reducible assumption) dX8_reason_88 rfl ?_
          refine z_bipush (q := 93) (v := nI 7) dX8_reason_91 (by rfl) rfl ?_
          refine z_iald (q := 94) _ (by with_reducible assumption) (rfl) (by omega) (by decide) dX8_reason_93 rfl ?_
          refine z_icmp_le (tgt := 101) (q := 97) dX8_reason_94 (by decide) rfl (fun h94 => ?_) (fun h94 => ?_)
          · exact no (fun q => absurd q.2 (Int32.not_lt.mpr (by rw [← hv]; exact h94)))
          · refine z_iconst (q := 98) (v := nI 3) dX8_reason_97 (by rfl) rfl ?_
            refine z_goto (q := 102) dX8_reason_98 (by decide) ?_
            have y1 : I (m + 1) (57 + 10 * d + 5) < t ∧ I (m + 1) 7 < absI (difB (I (m + 1)) d) := ⟨Int32.not_le.mp h83, by rw [← hv]; exact Int32.not_le.mp h94⟩
            exact z_iret rfl dX8_reason_102 (Nat.zero_le _) (Nat.zero_le _) (⟨by rw [rsn, if_neg h50', if_neg h66, if_pos y1]; rfl, rfl, rfl, rfl, rfl⟩)
      · refine z_iconst (q := 70) (v := nI 2) dX8_reason_69 (by rfl) rfl ?_
        refine z_goto (q := 102) dX8_reason_70 (by decide) ?_
        exact z_iret rfl dX8_reason_102 (Nat.zero_le _) (Nat.zero_le _) (⟨by rw [rsn, if_neg h50', if_pos h66]; rfl, rfl, rfl, rfl, rfl⟩)
    · refine z_iconst (q := 54) (v := nI 1) dX8_reason_53 (by rfl) rfl ?_
      exact z_iret rfl dX8_reason_54 (Nat.zero_le _) (Nat.zero_le _) (⟨by rw [rsn, if_pos (h50.trans zI1)]; rfl, rfl, rfl, rfl, rfl⟩)
  refine z_if_ge (tgt := 37) (q := 32) dX8_reason_29 (by decide) rfl (fun hc => ?_) (fun hc => ?_)
  · refine z_iload_n (q := 38) dX8_reason_37 rfl rfl rfl ?_
    exact join _ (by rw [absI, if_neg (Int32.not_lt.mpr hc)]) _
  · refine z_iload_n (q := 33) dX8_reason_32 rfl rfl rfl ?_
    refine z_ineg (q := 34) dX8_reason_33 rfl ?_
    refine z_goto (q := 38) dX8_reason_34 (by decide) ?_
    exact join _ (by rw [absI, if_pos (Int32.not_le.mp hc)]) _
def sp_refusal (g : Nat → Int32) (x t : Int32) : Int32 := if x < 0 ∨ g 1 ≤ x then -1 else if t < nI 0 ∨ nI 10 < t then -1 else rsn g x.toNatClampNeg t
set_option maxRecDepth 100000 in
set_option maxHeartbeats 4000000 in
theorem c_X8_refusal (G : zG) {n : Nat} {T : zTT} {I : zII} {R : zRR} (m nr nd np st : Nat) (x t : Int32) (hM : z_Mod T R m) (hI : INV nr nd np st (I (m + 1))) : Ct G yX8_refusal wsX8_refusal (3, 0, 0) [.ref m, .int x, .int t] n T I R (z_ret (some (.int (sp_refusal (I (m + 1)) x t))) n T I R) := by
  refine Ct.ofX (M := muX8_refusal) (ls := [(0, .ref m), (1, .int x), (2, .int t)]) (by decide +kernel) rfl (by decide) rfl rfl (Nat.le_of_ble_eq_true rfl) ?_
  have hTm := hM.1
  have hnd := hI.2.1.2
  have bad : sp_refusal (I (m + 1)) x t = -1 → z_X G muX8_refusal (3, 0, 0) (z_ret (some (.int (sp_refusal (I (m + 1)) x t))) n T I R) n T I R 0 0 18 [(0, .ref m), (1, .int x), (2, .int t)] [] := by
    intro hb
    rw [hb]
    refine z_iconst (q := 19) (v := (-1)) dX8_refusal_18 (by rfl) rfl ?_
    refine z_goto (q := 28) dX8_refusal_19 (by decide) ?_
    exact z_iret rfl dX8_refusal_28 (Nat.zero_le _) (Nat.zero_le _) ⟨rfl, rfl, rfl, rfl, rfl⟩
  refine z_aload_n (q := 1) dX8_refusal_0 rfl rfl rfl ?_
  refine z_iload_n (q := 2) dX8_refusal_1 rfl rfl rfl ?_
  refine z_invV (q := 5) (c_X8_isDoor G m x hM) (by with_reducible assumption) rfl gX8_refusal_X8_isDoor rfl hy_X8_isDoor rfl rfl rfl rfl (Nat.le_of_ble_eq_true rfl) ⟨Nat.zero_le _, Nat.zero_le _⟩ dX8_refusal_2 rfl (z_rv ?_)
  by_cases hv : x < 0 ∨ I (m + 1) 1 ≤ x
  · rw [if_pos hv]
    refine z_if_eq (tgt := 18) (q := 8) dX8_refusal_5 (by decide) rfl (fun _ => ?_) (fun hc => False.elim (hc rfl))
    exact bad (by rw [sp_refusal, if_pos hv])
  rw [if_neg hv]
  refine z_if_eq (tgt := 18) (q := 8) dX8_refusal_5 (by decide) rfl (fun hc => False.elim (absurd hc (by decide))) (fun _ => ?_)
  refine z_iload_n (q := 9) dX8_refusal_8 rfl rfl rfl ?_
  refine z_iconst (q := 10) (v := nI 0) dX8_refusal_9 (by rfl) rfl ?_
  refine z_bipush (q := 12) (v := nI 10) dX8_refusal_10 (by rfl) rfl ?_
  refine z_invS (q := 15) (c_X8_in G t (nI 0) (nI 10)) gX8_refusal_X8_in rfl hy_X8_in rfl rfl rfl rfl (Nat.le_of_ble_eq_true rfl) ⟨Nat.zero_le _, Nat.zero_le _⟩ dX8_refusal_12 rfl (z_rv ?_)
  by_cases hz : t < nI 0 ∨ nI 10 < t
  · rw [if_pos hz]
    refine z_if_ne (tgt := 22) (q := 18) dX8_refusal_15 (by decide) rfl (fun hc => False.elim (hc rfl)) (fun _ => ?_)
    exact bad (by rw [sp_refusal, if_neg hv, if_pos hz])
  rw [if_neg hz]
  refine z_if_ne (tgt := 22) (q := 18) dX8_refusal_15 (by decide) rfl (fun _ => ?_) (fun hc => False.elim (absurd hc (by decide)))
  obtain ⟨d, hd, rfl⟩ := z_ix hI.2.1.1 (by omega) hv
  have e : sp_refusal (I (m + 1)) (nI d) t = rsn (I (m + 1)) d t := by rw [sp_refusal, if_neg hv, if_neg hz, nI_clamp (by omega)]
  rw [e]
  refine z_aload_n (q := 23) dX8_refusal_22 rfl rfl rfl ?_
  refine z_iload_n (q := 24) dX8_refusal_23 rfl rfl rfl ?_
  refine z_iload_n (q := 25) dX8_refusal_24 rfl rfl rfl ?_
  refine z_invV (q := 28) (c_X8_reason G m nr nd np st d t hM hI hd) (by with_reducible assumption) rfl gX8_refusal_X8_reason rfl hy_X8_reason rfl rfl rfl rfl (Nat.le_of_ble_eq_true rfl) ⟨Nat.zero_le _, Nat.zero_le _⟩ dX8_refusal_25 rfl (z_rv ?_)
  exact z_iret rfl dX8_refusal_28 (Nat.zero_le _) (Nat.zero_le _) (⟨rfl, rfl, rfl, rfl, rfl⟩)

