/-! THE REFERENCE, foretelling: the answers -/
def aimD (g : Nat → Int32) (d : Nat) (t : Int32) : Nat → Int32 := upd g (57 + 10 * d + 6) (if g (57 + 10 * d + 7) = 1 then g (57 + 10 * d + 6) else t)
def tailG (room : Nat) (g : Nat → Int32) : Int32 := tailS room (g (9 + 6 * room + 2) / nI 1000) 200 1 g
def plainT (g : Nat → Int32) (room : Nat) : Int32 := tailG room (begN g)
def otherT (g : Nat → Int32) (room d : Nat) (t : Int32) : Int32 := tailG room (aimD (begN g) d t)
theorem INV_aimD {nr nd np st : Nat} {g : Nat → Int32} (hI : INV nr nd np st g) {d t : Nat} (hd : d < nd) (ht : t ≤ 10) : INV nr nd np st (aimD g d (nI t)) := by
  unfold aimD
  by_cases hl : g (57 + 10 * d + 7) = 1
  · rw [if_pos hl]
    refine INV_free hI (fun j _ => ?_)
    simp only [upd]
    split
    next e => rw [e]
    next => rfl
  · rw [if_neg hl]
    exact INV_door hI hd ht (fun j _ hj => upd_n _ _ hj) (Or.inr ⟨upd_s _ _ _, upd_n _ _ (by omega)⟩)
theorem z_ix {nr : Nat} {g : Nat → Int32} {k : Nat} (h0 : g k = nI nr) (hnr : nr < 2 ^ 31) {x : Int32} (hv : ¬ (x < 0 ∨ g k ≤ x)) : ∃ r, r < nr ∧ x = nI r := by
  rcases pk_ix x hnr with h | h | h
  · exact absurd (Or.inl h) hv
  · exact absurd (Or.inr (by rw [h0]; exact h)) hv
  · exact h
theorem z_ix2 {a b : Nat} (ha : a < 2 ^ 30) (hb : b < 2 ^ 30) {x : Int32} (hv : ¬ (x < nI a ∨ nI b < x)) : ∃ r, a ≤ r ∧ r ≤ b ∧ x = nI r := by
  have h1 : nI a ≤ x := Int32.not_lt.mp (fun h => hv (Or.inl h))
  have h2 : x ≤ nI b := Int32.not_lt.mp (fun h => hv (Or.inr h))
  have h0 : ¬ x < 0 := fun h => absurd (Int32.lt_of_le_of_lt h1 h) (nI_pos (by omega))
  obtain ⟨j, hj, rfl⟩ := nI_of h0
  exact ⟨j, (nI_leI (by omega) hj).mp h1, (nI_leI hj (by omega)).mp h2, rfl⟩
set_option maxRecDepth 100000 in
set_option maxHeartbeats 4000000 in
theorem c_X8_plainTail (G : zG) {n : Nat} {T : zTT} {I : zII} {R : zRR} (m room nr nd np st : Nat) (hM : z_Mod T R m) (hr : room < 8) (hI : INV nr nd np st (I (m + 1))) (hst : st < 80000) : Ct G yX8_plainTail wsX8_plainTail (6, 0, 0) [.ref m, .int (nI room)] n T I R (z_rel (some (.int (plainT (I (m + 1)) room))) n T (fun I' R' => R' = R ∧ z_scr m I I')) := by
  refine Ct.ofX (M := muX8_plainTail) (ls := [(0, .ref m), (1, .int (nI room))]) (by decide +kernel) rfl (by decide) rfl rfl (Nat.le_of_ble_eq_true rfl) ?_
  have hTm := hM.1
  obtain ⟨np', hI2, -⟩ := begN_spec hI
  refine z_aload_n (q := 1) dX8_plainTail_0 rfl rfl rfl ?_
  refine z_iconst (q := 2) (v := nI 0) dX8_plainTail_1 (by rfl) rfl ?_
  refine z_invV (q := 5) (c_X8_begins_f G m nr nd np st hM hI) (by with_reducible assumption) rfl gX8_plainTail_X8_begins rfl hy_X8_begins rfl rfl rfl rfl (Nat.le_of_ble_eq_true rfl) ⟨Nat.zero_le _, Nat.zero_le _⟩ dX8_plainTail_2 rfl (z_rnR fun I3 R3 hZ3 => ?_)
  obtain ⟨rfl, h3, hF3⟩ := hZ3
  refine z_aload_n (q := 6) dX8_plainTail_5 rfl rfl rfl ?_
  refine z_iload_n (q := 7) dX8_plainTail_6 rfl rfl rfl ?_
  refine z_invV (q := 10) (c_X8_tailOf G m room nr nd np' st hM hr (by rw [h3]; exact hI2) (by omega)) (by with_reducible assumption) rfl gX8_plainTail_X8_tailOf rfl hy_X8_tailOf rfl rfl rfl rfl (Nat.le_of_ble_eq_true rfl) ⟨Nat.zero_le _, Nat.zero_le _⟩ dX8_plainTail_7 rfl (z_rvR fun I4 R4 hZ4 => ?_)
  obtain ⟨rfl, hF4⟩ := hZ4
  refine z_iret rfl dX8_plainTail_10 (Nat.zero_le _) (Nat.zero_le _) ⟨?_, rfl, rfl, rfl, fun q h1 h2 => by rw [hF4 q h1 h2]; exact hF3 q h1 h2⟩
  rw [h3]
  rfl
set_option maxRecDepth 100000 in
set_option maxHeartbeats 4000000 in
theorem c_X8_otherTail (G : zG) {n : Nat} {T : zTT} {I : zII} {R : zRR} (m room d t nr nd np st : Nat) (hM : z_Mod T R m) (hr : room < 8) (hd : d < nd) (ht : t ≤ 10) (hI : INV nr nd np st (I (m + 1))) (hst : st < 80000) : Ct G yX8_otherTail wsX8_otherTail (6, 0, 0) [.ref m, .int (nI room), .int (nI d), .int (nI t)] n T I R (z_rel (some (.int (otherT (I (m + 1)) room d (nI t)))) n T (fun I' R' => R' = R ∧ z_scr m I I')) := by
  refine Ct.ofX (M := muX8_otherTail) (ls := [(0, .ref m), (1, .int (nI room)), (2, .int (nI d)), (3, .int (nI t))]) (by decide +kernel) rfl (by decide) rfl rfl (Nat.le_of_ble_eq_true rfl) ?_
  have hTm := hM.1
  have hnd := hI.2.1.2
  obtain ⟨-, ⟨hTs, hRs⟩, ⟨hTw, hRw⟩, -⟩ := id hM
  obtain ⟨np', hI2, -⟩ := begN_spec hI
  refine z_aload_n (q := 1) dX8_otherTail_0 rfl rfl rfl ?_
  refine z_iconst (q := 2) (v := nI 0) dX8_otherTail_1 (by rfl) rfl ?_
  refine z_invV (q := 5) (c_X8_begins_f G m nr nd np st hM hI) (by with_reducible assumption) rfl gX8_otherTail_X8_begins rfl hy_X8_begins rfl rfl rfl rfl (Nat.le_of_ble_eq_true rfl) ⟨Nat.zero_le _, Nat.zero_le _⟩ dX8_otherTail_2 rfl (z_rnR fun I3 R3 hZ3 => ?_)
  obtain ⟨rfl, h3, hF3⟩ := hZ3
  refine z_bipush (q := 7) (v := nI 57) dX8_otherTail_5 (by rfl) rfl ?_
  refine z_bipush (q := 9) (v := nI 10) dX8_otherTail_7 (by rfl) rfl ?_
  refine z_iload_n (q := 10) dX8_otherTail_9 rfl rfl rfl ?_
  refine z_imulE (q := 11) dX8_otherTail_10 (pk_mul _ _) rfl ?_
  refine z_iaddE (q := 12) dX8_otherTail_11 (nI_add _ _) rfl ?_
  refine z_istore (q := 14) dX8_otherTail_12 (by decide) rfl ?_
  refine z_aload_n (q := 15) dX8_otherTail_14 rfl rfl rfl ?_
  refine z_getR (q := 18) 8 1 1 63 rfl (by decide) rfl rfl rfl (by with_reducible assumption) (by with_reducible assumption) dX8_otherTail_15 rfl ?_
  refine z_iload (q := 20) (i := 4) dX8_otherTail_18 rfl rfl ?_
  refine z_bipush (q := 22) (v := nI 6) dX8_otherTail_20 (by rfl) rfl ?_
  refine z_iaddE (q := 23) dX8_otherTail_22 (nI_add _ _) rfl ?_
  refine z_aload_n (q := 24) dX8_otherTail_23 rfl rfl rfl ?_
  refine z_getR (q := 27) 8 1 1 63 rfl (by decide) rfl rfl rfl (by with_reducible assumption) (by with_reducible assumption) dX8_otherTail_24 rfl ?_
  refine z_iload (q := 29) (i := 4) dX8_otherTail_27 rfl rfl ?_
  refine z_bipush (q := 31) (v := nI 7) dX8_otherTail_29 (by rfl) rfl ?_
  refine z_iaddE (q := 32) dX8_otherTail_31 (nI_add _ _) rfl ?_
  refine z_iald (q := 33) _ (by with_reducible assumption) (rfl) (by omega) (by decide) dX8_otherTail_32 rfl ?_
  refine z_iconst (q := 34) (v := nI 1) dX8_otherTail_33 (by rfl) rfl ?_
  have join : ∀ v, v = (if I3 (m + 2) (57 + 10 * d + 7) = 1 then I3 (m + 2) (57 + 10 * d + 6) else nI t) → z_X G muX8_otherTail (6, 0, 0) (z_rel (some (.int (otherT (I (m + 1)) room d (nI t)))) n T (fun I' R' => R' = R3 ∧ z_scr m I I')) n T I3 R3 0 0 51 [(0, .ref m), (1, .int (nI room)), (2, .int (nI d)), (3, .int (nI t)), (4, .int (nI (57 + 10 * d)))] [.int v, .int (nI (57 + 10 * d + 6)), .ref (m + 2)] := by
    intro v hv
    refine z_iast (q := 52) _ (by with_reducible assumption) (rfl) (by omega) (by decide) dX8_otherTail_51 rfl ?_
    have hA : zw I3 (m + 2) (57 + 10 * d + 6) v (m + 2) = aimD (begN (I (m + 1))) d (nI t) := by
      rw [zw_upd, hv, h3]
      rfl
    have hF : z_scr m I (zw I3 (m + 2) (57 + 10 * d + 6) v) := fun q h1 h2 => by rw [zw_row _ _ h1]; exact hF3 q h1 h2
    generalize zw I3 (m + 2) (57 + 10 * d + 6) v = I4 at hA hF
    refine z_aload_n (q := 53) dX8_otherTail_52 rfl rfl rfl ?_
    refine z_iload_n (q := 54) dX8_otherTail_53 rfl rfl rfl ?_
    refine z_invV (q := 57) (c_X8_tailOf G m room nr nd np' st hM hr (by rw [hA]; exact INV_aimD hI2 hd ht) (by omega)) (by with_reducible assumption) rfl gX8_otherTail_X8_tailOf rfl hy_X8_tailOf rfl rfl rfl rfl (Nat.le_of_ble_eq_true rfl) ⟨Nat.zero_le _, Nat.zero_le _⟩ dX8_otherTail_54 rfl (z_rvR fun I5 R5 hZ5 => ?_)
    obtain ⟨rfl, hF5⟩ := hZ5
    refine z_iret rfl dX8_otherTail_57 (Nat.zero_le _) (Nat.zero_le _) ⟨?_, rfl, rfl, rfl, fun q h1 h2 => by rw [hF5 q h1 h2]; exact hF q h1 h2⟩
    rw [hA]
    rfl
  refine z_icmp_ne (tgt := 50) (q := 37) dX8_otherTail_34 (by decide) rfl (fun hc => ?_) (fun hc => ?_)
  · refine z_iload_n (q := 51) dX8_otherTail_50 rfl rfl rfl ?_
    exact join _ (by rw [if_neg (fun z => hc (z.trans zI1.symm))])
  · refine z_aload_n (q := 38) dX8_otherTail_37 rfl rfl rfl ?_
    refine z_getR (q := 41) 8 1 1 63 rfl (by decide) rfl rfl rfl (by with_reducible assumption) (by with_reducible assumption) dX8_otherTail_38 rfl ?_
    refine z_iload (q := 43) (i := 4) dX8_otherTail_41 rfl rfl ?_
    refine z_bipush (q := 45) (v := nI 6) dX8_otherTail_43 (by rfl) rfl ?_
    refine z_iaddE (q := 46) dX8_otherTail_45 (nI_add _ _) rfl ?_
    refine z_iald (q := 47) _ (by with_reducible assumption) (rfl) (by omega) (by decide) dX8_otherTail_46 rfl ?_
    refine z_goto (q := 51) dX8_otherTail_47 (by decide) ?_
    exact join _ (by rw [if_pos (hc.trans zI1)])
def tailQ (g : Nat → Int32) (r : Nat) : Int32 := if g (9 + 6 * r + 2) = 0 then -2 else plainT g r
def sp_tail (g : Nat → Int32) (x : Int32) : Int32 := if x < 0 ∨ g 0 ≤ x then -1 else tailQ g x.toNatClampNeg
set_option maxRecDepth 100000 in
set_option maxHeartbeats 4000000 in
theorem c_X8_tail (G : zG) {n : Nat} {T : zTT} {I : zII} {R : zRR} (m nr nd np st : Nat) (x : Int32) (hM : z_Mod T R m) (hI : INV nr nd np st (I (m + 1))) (hst : st < 80000) : Ct G yX8_tail wsX8_tail (7, 0, 0) [.ref m, .int x] n T I R (z_rel (some (.int (sp_tail (I (m + 1)) x))) n T (fun I' R' => R' = R ∧ z_scr m I I')) := by
  refine Ct.ofX (M := muX8_tail) (ls := [(0, .ref m), (1, .int x)]) (by decide +kernel) rfl (by decide) rfl rfl (Nat.le_of_ble_eq_true rfl) ?_
  have hTm := hM.1
  have hnr := hI.1.2
  obtain ⟨-, ⟨hTs, hRs⟩, -⟩ := id hM
  refine z_aload_n (q := 1) dX8_tail_0 rfl rfl rfl ?_
  refine z_iload_n (q := 2) dX8_tail_1 rfl rfl rfl ?_
  refine z_invV (q := 5) (c_X8_isRoom G m x hM) (by with_reducible assumption) rfl gX8_tail_X8_isRoom rfl hy_X8_isRoom rfl rfl rfl rfl (Nat.le_of_ble_eq_true rfl) ⟨Nat.zero_le _, Nat.zero_le _⟩ dX8_tail_2 rfl (z_rv ?_)
  by_cases hv : x < 0 ∨ I (m + 1) 0 ≤ x
  · rw [if_pos hv]
    refine z_if_ne (tgt := 12) (q := 8) dX8_tail_5 (by decide) rfl (fun hc => False.elim (hc rfl)) (fun _ => ?_)
    refine z_iconst (q := 9) (v := (-1)) dX8_tail_8 (by rfl) rfl ?_
    refine z_goto (q := 34) dX8_tail_9 (by decide) ?_
    exact z_iret rfl dX8_tail_34 (Nat.zero_le _) (Nat.zero_le _) ⟨by rw [sp_tail, if_pos hv], rfl, rfl, rfl, fun _ _ _ => rfl⟩
  · rw [if_neg hv]
    refine z_if_ne (tgt := 12) (q := 8) dX8_tail_5 (by decide) rfl (fun _ => ?_) (fun hc => False.elim (absurd hc (by decide)))
    obtain ⟨r, hr, rfl⟩ := z_ix hI.1.1 (by omega) hv
    have hcl : (nI r).toNatClampNeg = r := nI_clamp (by omega)
    refine z_aload_n (q := 13) dX8_tail_12 rfl rfl rfl ?_
    refine z_getR (q := 16) 8 0 1 70 rfl (by decide) rfl rfl rfl (by with_reducible assumption) (by with_reducible assumption) dX8_tail_13 rfl ?_
    refine z_iload_n (q := 17) dX8_tail_16 rfl rfl rfl ?_
    refine z_iconst (q := 18) (v := nI 2) dX8_tail_17 (by rfl) rfl ?_
    refine z_invS (q := 21) (c_X8_inRoom G (m + 1) r 2 hTs (by omega)) gX8_tail_X8_inRoom rfl hy_X8_inRoom rfl rfl rfl rfl (Nat.le_of_ble_eq_true rfl) ⟨Nat.zero_le _, Nat.zero_le _⟩ dX8_tail_18 rfl (z_rv ?_)
    refine z_if_ne (tgt := 29) (q := 24) dX8_tail_21 (by decide) rfl (fun h21 => ?_) (fun h21 => ?_)
    · refine z_aload_n (q := 30) dX8_tail_29 rfl rfl rfl ?_
      refine z_iload_n (q := 31) dX8_tail_30 rfl rfl rfl ?_
      refine z_invV (q := 34) (c_X8_plainTail G m r nr nd np st hM (by omega) hI hst) (by with_reducible assumption) rfl gX8_tail_X8_plainTail rfl hy_X8_plainTail rfl rfl rfl rfl (Nat.le_of_ble_eq_true rfl) ⟨Nat.zero_le _, Nat.zero_le _⟩ dX8_tail_31 rfl (z_rvR fun I3 R3 hZ3 => ?_)
      obtain ⟨rfl, hF3⟩ := hZ3
      exact z_iret rfl dX8_tail_34 (Nat.zero_le _) (Nat.zero_le _) ⟨by rw [sp_tail, if_neg hv, hcl, tailQ, if_neg h21], rfl, rfl, rfl, hF3⟩
    · refine z_bipush (q := 26) (v := (-2)) dX8_tail_24 (by rfl) rfl ?_
      refine z_goto (q := 34) dX8_tail_26 (by decide) ?_
      exact z_iret rfl dX8_tail_34 (Nat.zero_le _) (Nat.zero_le _) ⟨by rw [sp_tail, if_neg hv, hcl, tailQ, if_pos h21], rfl, rfl, rfl, fun _ _ _ => rfl⟩
def tailWQ (g : Nat → Int32) (r d : Nat) (t : Int32) : Int32 := if g (9 + 6 * r + 2) = 0 then -2 else otherT g r d t
def sp_tailWith (g : Nat → Int32) (x y z : Int32) : Int32 := if x < 0 ∨ g 0 ≤ x then -1 else if y < 0 ∨ g 1 ≤ y then -1 else if z < nI 0 ∨ nI 10 < z then -1 else tailWQ g x.toNatClampNeg y.toNatClampNeg z
set_option maxRecDepth 100000 in
set_option maxHeartbeats 4000000 in
theorem c_X8_tailWith (G : zG) {n : Nat} {T : zTT} {I : zII} {R : zRR} (m nr nd np st : Nat) (x y z : Int32) (hM : z_Mod T R m) (hI : INV nr nd np st (I (m + 1))) (hst : st < 80000) : Ct G yX8_tailWith wsX8_tailWith (7, 0, 0) [.ref m, .int x, .int y, .int z] n T I R (z_rel (some (.int (sp_tailWith (I (m + 1)) x y z))) n T (fun I' R' => R' = R ∧ z_scr m I I')) := by
  refine Ct.ofX (M := muX8_tailWith) (ls := [(0, .ref m), (1, .int x), (2, .int y), (3, .int z)]) (by decide +kernel) rfl (by decide) rfl rfl (Nat.le_of_ble_eq_true rfl) ?_
  have hTm := hM.1
  have hnr := hI.1.2
  have hnd := hI.2.1.2
  obtain ⟨-, ⟨hTs, hRs⟩, -⟩ := id hM
  have bad : sp_tailWith (I (m + 1)) x y z = -1 → z_X G muX8_tailWith (7, 0, 0) (z_rel (some (.int (sp_tailWith (I (m + 1)) x y z))) n T (fun I' R' => R' = R ∧ z_scr m I I')) n T I R 0 0 26 [(0, .ref m), (1, .int x), (2, .int y), (3, .int z)] [] := by
    intro hb
    refine z_iconst (q := 27) (v := (-1)) dX8_tailWith_26 (by rfl) rfl ?_
    exact z_iret rfl dX8_tailWith_27 (Nat.zero_le _) (Nat.zero_le _) ⟨by rw [hb], rfl, rfl, rfl, fun _ _ _ => rfl⟩
  refine z_aload_n (q := 1) dX8_tailWith_0 rfl rfl rfl ?_
  refine z_iload_n (q := 2) dX8_tailWith_1 rfl rfl rfl ?_
  refine z_invV (q := 5) (c_X8_isRoom G m x hM) (by with_reducible assumption) rfl gX8_tailWith_X8_isRoom rfl hy_X8_isRoom rfl rfl rfl rfl (Nat.le_of_ble_eq_true rfl) ⟨Nat.zero_le _, Nat.zero_le _⟩ dX8_tailWith_2 rfl (z_rv ?_)
  by_cases hv : x < 0 ∨ I (m + 1) 0 ≤ x
  · rw [if_pos hv]
    refine z_if_eq (tgt := 26) (q := 8) dX8_tailWith_5 (by decide) rfl (fun _ => ?_) (fun hc => False.elim (hc rfl))
    exact bad (by rw [sp_tailWith, if_pos hv])
  rw [if_neg hv]
  refine z_if_eq (tgt := 26) (q := 8) dX8_tailWith_5 (by decide) rfl (fun hc => False.elim (absurd hc (by decide))) (fun _ => ?_)
  refine z_aload_n (q := 9) dX8_tailWith_8 rfl rfl rfl ?_
  refine z_iload_n (q := 10) dX8_tailWith_9 rfl rfl rfl ?_
  refine z_invV (q := 13) (c_X8_isDoor G m y hM) (by with_reducible assumption) rfl gX8_tailWith_X8_isDoor rfl hy_X8_isDoor rfl rfl rfl rfl (Nat.le_of_ble_eq_true rfl) ⟨Nat.zero_le _, Nat.zero_le _⟩ dX8_tailWith_10 rfl (z_rv ?_)
  by_cases hw : y < 0 ∨ I (m + 1) 1 ≤ y
  · rw [if_pos hw]
    refine z_if_eq (tgt := 26) (q := 16) dX8_tailWith_13 (by decide) rfl (fun _ => ?_) (fun hc => False.elim (hc rfl))
    exact bad (by rw [sp_tailWith, if_neg hv, if_pos hw])
  rw [if_neg hw]
  refine z_if_eq (tgt := 26) (q := 16) dX8_tailWith_13 (by decide) rfl (fun hc => False.elim (absurd hc (by decide))) (fun _ => ?_)
  refine z_iload_n (q := 17) dX8_tailWith_16 rfl rfl rfl ?_
  refine z_iconst (q := 18) (v := nI 0) dX8_tailWith_17 (by rfl) rfl ?_
  refine z_bipush (q := 20) (v := nI 10) dX8_tailWith_18 (by rfl) rfl ?_
  refine z_invS (q := 23) (c_X8_in G z (nI 0) (nI 10)) gX8_tailWith_X8_in rfl hy_X8_in rfl rfl rfl rfl (Nat.le_of_ble_eq_true rfl) ⟨Nat.zero_le _, Nat.zero_le _⟩ dX8_tailWith_20 rfl (z_rv ?_)
  by_cases hz : z < nI 0 ∨ nI 10 < z
  · rw [if_pos hz]
    refine z_if_ne (tgt := 28) (q := 26) dX8_tailWith_23 (by decide) rfl (fun hc => False.elim (hc rfl)) (fun _ => ?_)
    exact bad (by rw [sp_tailWith, if_neg hv, if_neg hw, if_pos hz])
  rw [if_neg hz]
  refine z_if_ne (tgt := 28) (q := 26) dX8_tailWith_23 (by decide) rfl (fun _ => ?_) (fun hc => False.elim (absurd hc (by decide)))
  obtain ⟨r, hr, rfl⟩ := z_ix hI.1.1 (by omega) hv
  obtain ⟨d, hd, rfl⟩ := z_ix hI.2.1.1 (by omega) hw
  obtain ⟨t, -, ht, rfl⟩ := z_ix2 (by decide) (by decide) hz
  have e : sp_tailWith (I (m + 1)) (nI r) (nI d) (nI t) = tailWQ (I (m + 1)) r d (nI t) := by rw [sp_tailWith, if_neg hv, if_neg hw, if_neg hz, nI_clamp (by omega), nI_clamp (by omega)]
  rw [e]
  refine z_aload_n (q := 29) dX8_tailWith_28 rfl rfl rfl ?_
  refine z_getR (q := 32) 8 0 1 74 rfl (by decide) rfl rfl rfl (by with_reducible assumption) (by with_reducible assumption) dX8_tailWith_29 rfl ?_
  refine z_iload_n (q := 33) dX8_tailWith_32 rfl rfl rfl ?_
  refine z_iconst (q := 34) (v := nI 2) dX8_tailWith_33 (by rfl) rfl ?_
  refine z_invS (q := 37) (c_X8_inRoom G (m + 1) r 2 hTs (by omega)) gX8_tailWith_X8_inRoom rfl hy_X8_inRoom rfl rfl rfl rfl (Nat.le_of_ble_eq_true rfl) ⟨Nat.zero_le _, Nat.zero_le _⟩ dX8_tailWith_34 rfl (z_rv ?_)
  refine z_if_ne (tgt := 45) (q := 40) dX8_tailWith_37 (by decide) rfl (fun h37 => ?_) (fun h37 => ?_)
  · refine z_aload_n (q := 46) dX8_tailWith_45 rfl rfl rfl ?_
    refine z_iload_n (q := 47) dX8_tailWith_46 rfl rfl rfl ?_
    refine z_iload_n (q := 48) dX8_tailWith_47 rfl rfl rfl ?_
    refine z_iload_n (q := 49) dX8_tailWith_48 rfl rfl rfl ?_
    refine z_invV (q := 52) (c_X8_otherTail G m r d t nr nd np st hM (by omega) hd ht hI hst) (by with_reducible assumption) rfl gX8_tailWith_X8_otherTail rfl hy_X8_otherTail rfl rfl rfl rfl (Nat.le_of_ble_eq_true rfl) ⟨Nat.zero_le _, Nat.zero_le _⟩ dX8_tailWith_49 rfl (z_rvR fun I3 R3 hZ3 => ?_)
    obtain ⟨rfl, hF3⟩ := hZ3
    exact z_iret rfl dX8_tailWith_52 (Nat.zero_le _) (Nat.zero_le _) ⟨by rw [tailWQ, if_neg h37], rfl, rfl, rfl, hF3⟩
  · refine z_bipush (q := 42) (v := (-2)) dX8_tailWith_40 (by rfl) rfl ?_
    refine z_goto (q := 52) dX8_tailWith_42 (by decide) ?_
    exact z_iret rfl dX8_tailWith_52 (Nat.zero_le _) (Nat.zero_le _) ⟨by rw [tailWQ, if_pos h37], rfl, rfl, rfl, fun _ _ _ => rfl⟩
/-- the best door: (the best tail, the door found) behind k tries -/
def bdS (g : Nat → Int32) (room : Nat) : Nat → Int32 × Int32
  | 0 => (plainT g room, -4)
  | k + 1 => if ¬ otherT g room (k / 2) (nI (10 * (k % 2))) = -4 ∧ ((bdS g room k).1 = -4 ∨ otherT g room (k / 2) (nI (10 * (k % 2))) < (bdS g room k).1) then (otherT g room (k / 2) (nI (10 * (k % 2))), nI (100 * (k / 2) + 10 * (k % 2))) else bdS g room k
def bestQ (g : Nat → Int32) (r : Nat) (w : Int32) : Int32 := if g (9 + 6 * r + 2) = 0 then -2 else if (bdS g r (2 * gN g 1)).2 = -4 ∨ w = 0 then (bdS g r (2 * gN g 1)).2 else (bdS g r (2 * gN g 1)).1
def sp_bestDoor (g : Nat → Int32) (x w : Int32) : Int32 := if x < 0 ∨ g 0 ≤ x then -1 else if w < nI 0 ∨ nI 1 < w then -1 else bestQ g x.toNatClampNeg w
set_option maxRecDepth 100000 in
set_option maxHeartbeats 4000000 in
theorem c_X8_bestDoor (G : zG) {n : Nat} {T : zTT} {I : zII} {R : zRR} (m nr nd np st : Nat) (x w : Int32) (hM : z_Mod T R m) (hI : INV nr nd np st (I (m + 1))) (hst : st < 80000) : Ct G yX8_bestDoor wsX8_bestDoor (7, 0, 0) [.ref m, .int x, .int w] n T I R (z_rel (some (.int (sp_bestDoor (I (m + 1)) x w))) n T (fun I' R' => R' = R ∧ z_scr m I I')) := by
  refine Ct.ofX (M := muX8_bestDoor) (ls := [(0, .ref m), (1, .int x), (2, .int w)]) (by decide +kernel) rfl (by decide) rfl rfl (Nat.le_of_ble_eq_true rfl) ?_
  have hTm := hM.1
  have hnr := hI.1.2
  have hnd := hI.2.1.2
  obtain ⟨-, ⟨hTs, hRs⟩, -⟩ := id hM
  have bad : sp_bestDoor (I (m + 1)) x w = -1 → z_X G muX8_bestDoor (7, 0, 0) (z_rel (some (.int (sp_bestDoor (I (m + 1)) x w))) n T (fun I' R' => R' = R ∧ z_scr m I I')) n T I R 0 0 17 [(0, .ref m), (1, .int x), (2, .int w)] [] := by
    intro hb
    refine z_iconst (q := 18) (v := (-1)) dX8_bestDoor_17 (by rfl) rfl ?_
    exact z_iret rfl dX8_bestDoor_18 (Nat.zero_le _) (Nat.zero_le _) ⟨by rw [hb], rfl, rfl, rfl, fun _ _ _ => rfl⟩
  refine z_aload_n (q := 1) dX8_bestDoor_0 rfl rfl rfl ?_
  refine z_iload_n (q := 2) dX8_bestDoor_1 rfl rfl rfl ?_
  refine z_invV (q := 5) (c_X8_isRoom G m x hM) (by with_reducible assumption) rfl gX8_bestDoor_X8_isRoom rfl hy_X8_isRoom rfl rfl rfl rfl (Nat.le_of_ble_eq_true rfl) ⟨Nat.zero_le _, Nat.zero_le _⟩ dX8_bestDoor_2 rfl (z_rv ?_)
  by_cases hv : x < 0 ∨ I (m + 1) 0 ≤ x
  · rw [if_pos hv]
    refine z_if_eq (tgt := 17) (q := 8) dX8_bestDoor_5 (by decide) rfl (fun _ => ?_) (fun hc => False.elim (hc rfl))
    exact bad (by rw [sp_bestDoor, if_pos hv])
  rw [if_neg hv]
  refine z_if_eq (tgt := 17) (q := 8) dX8_bestDoor_5 (by decide) rfl (fun hc => False.elim (absurd hc (by decide))) (fun _ => ?_)
  refine z_iload_n (q := 9) dX8_bestDoor_8 rfl rfl rfl ?_
  refine z_iconst (q := 10) (v := nI 0) dX8_bestDoor_9 (by rfl) rfl ?_
  refine z_iconst (q := 11) (v := nI 1) dX8_bestDoor_10 (by rfl) rfl ?_
  refine z_invS (q := 14) (c_X8_in G w (nI 0) (nI 1)) gX8_bestDoor_X8_in rfl hy_X8_in rfl rfl rfl rfl (Nat.le_of_ble_eq_true rfl) ⟨Nat.zero_le _, Nat.zero_le _⟩ dX8_bestDoor_11 rfl (z_rv ?_)
  by_cases hz : w < nI 0 ∨ nI 1 < w
  · rw [if_pos hz]
    refine z_if_ne (tgt := 19) (q := 17) dX8_bestDoor_14 (by decide) rfl (fun hc => False.elim (hc rfl)) (fun _ => ?_)
    exact bad (by rw [sp_bestDoor, if_neg hv, if_pos hz])
  rw [if_neg hz]
  refine z_if_ne (tgt := 19) (q := 17) dX8_bestDoor_14 (by decide) rfl (fun _ => ?_) (fun hc => False.elim (absurd hc (by decide)))
  obtain ⟨r, hr, rfl⟩ := z_ix hI.1.1 (by omega) hv
  have hgd : gN (I (m + 1)) 1 = nd := gN_of hI.2.1.1 (by omega)
  have e : sp_bestDoor (I (m + 1)) (nI r) w = bestQ (I (m + 1)) r w := by rw [sp_bestDoor, if_neg hv, if_neg hz, nI_clamp (by omega)]
  rw [e]
  refine z_aload_n (q := 20) dX8_bestDoor_19 rfl rfl rfl ?_
  refine z_getR (q := 23) 8 0 1 74 rfl (by decide) rfl rfl rfl (by with_reducible assumption) (by with_reducible assumption) dX8_bestDoor_20 rfl ?_
  refine z_iload_n (q := 24) dX8_bestDoor_23 rfl rfl rfl ?_
  refine z_iconst (q := 25) (v := nI 2) dX8_bestDoor_24 (by rfl) rfl ?_
  refine z_invS (q := 28) (c_X8_inRoom G (m + 1) r 2 hTs (by omega)) gX8_bestDoor_X8_inRoom rfl hy_X8_inRoom rfl rfl rfl rfl (Nat.le_of_ble_eq_true rfl) ⟨Nat.zero_le _, Nat.zero_le _⟩ dX8_bestDoor_25 rfl (z_rv ?_)
  refine z_if_ne (tgt := 34) (q := 31) dX8_bestDoor_28 (by decide) rfl (fun h28 => ?_) (fun h28 => ?_)
  · refine z_aload_n (q := 35) dX8_bestDoor_34 rfl rfl rfl ?_
    refine z_iload_n (q := 36) dX8_bestDoor_35 rfl rfl rfl ?_
    refine z_invV (q := 39) (c_X8_plainTail G m r nr nd np st hM (by omega) hI hst) (by with_reducible assumption) rfl gX8_bestDoor_X8_plainTail rfl hy_X8_plainTail rfl rfl rfl rfl (Nat.le_of_ble_eq_true rfl) ⟨Nat.zero_le _, Nat.zero_le _⟩ dX8_bestDoor_36 rfl (z_rvR fun I3 R3 hZ3 => ?_)
    refine z_istore_n (q := 40) dX8_bestDoor_39 rfl (by decide) rfl ?_
    refine z_bipush (q := 42) (v := (-4)) dX8_bestDoor_40 (by rfl) rfl ?_
    refine z_istore (q := 44) dX8_bestDoor_42 (by decide) rfl ?_
    refine z_iconst (q := 45) (v := nI 0) dX8_bestDoor_44 (by rfl) rfl ?_
    refine z_istore (q := 47) dX8_bestDoor_45 (by decide) rfl ?_
    obtain ⟨rfl, hF3⟩ := hZ3
    have loop : ∀ k, k ≤ 2 * nd → ∀ I2, z_scr m I I2 → ∀ ls : List (Nat × Value), lv_pick ls [0, 1, 2, 3, 4, 5] = [(0, .ref m), (1, .int (nI r)), (2, .int w), (3, .int (bdS (I (m + 1)) r k).1), (4, .int (bdS (I (m + 1)) r k).2), (5, .int (nI k))] → z_X G muX8_bestDoor (7, 0, 0) (z_rel (some (.int (bestQ (I (m + 1)) r w))) n T (fun I' R' => R' = R3 ∧ z_scr m I I')) n T I2 R3 0 0 47 ls [] := by
      refine z_up (N := 2 * nd) _ ?_ ?_
      · intro I2 hF ls hls
        have hs : I2 (m + 1) = I (m + 1) := hF _ (by omega) (by omega)
        have e1 : I2 (m + 1) 1 = nI nd := by rw [hs]; exact hI.2.1.1
        refine z_pick [0, 1, 2, 3, 4, 5] hls ?_
        refine z_iload (q := 49) (i := 5) dX8_bestDoor_47 rfl rfl ?_
        refine z_iconst (q := 50) (v := nI 2) dX8_bestDoor_49 (by rfl) rfl ?_
        refine z_aload_n (q := 51) dX8_bestDoor_50 rfl rfl rfl ?_
        refine z_getR (q := 54) 8 0 1 74 rfl (by decide) rfl rfl rfl (by with_reducible assumption) (by with_reducible assumption) dX8_bestDoor_51 rfl ?_
        refine z_iconst (q := 55) (v := nI 1) dX8_bestDoor_54 (by rfl) rfl ?_
        refine z_ialdV (q := 56) _ (by with_reducible assumption) (rfl) (by omega) (by decide) (e1) dX8_bestDoor_55 rfl ?_
        refine z_imulE (q := 57) dX8_bestDoor_56 (pk_mul _ _) rfl ?_
        refine z_icmpn_ge (rfl) (rfl) (by omega) (by omega) (tgt := 149) (q := 60) dX8_bestDoor_57 (by decide) rfl (fun _ => ?_) (fun hc => absurd hc (by omega))
        refine z_iload (q := 151) (i := 4) dX8_bestDoor_149 rfl rfl ?_
        refine z_bipush (q := 153) (v := (-4)) dX8_bestDoor_151 (by rfl) rfl ?_
        have fin : ∀ v, v = bestQ (I (m + 1)) r w → z_X G muX8_bestDoor (7, 0, 0) (z_rel (some (.int (bestQ (I (m + 1)) r w))) n T (fun I' R' => R' = R3 ∧ z_scr m I I')) n T I2 R3 0 0 166 [(0, .ref m), (1, .int (nI r)), (2, .int w), (3, .int (bdS (I (m + 1)) r (2 * nd)).1), (4, .int (bdS (I (m + 1)) r (2 * nd)).2), (5, .int (nI (2 * nd)))] [.int v] := by
          intro v hv
          exact z_iret rfl dX8_bestDoor_166 (Nat.zero_le _) (Nat.zero_le _) ⟨by rw [hv], rfl, rfl, rfl, hF⟩
        refine z_icmp_eq (tgt := 160) (q := 156) dX8_bestDoor_153 (by decide) rfl (fun h153 => ?_) (fun h153 => ?_)
        · refine z_iload (q := 162) (i := 4) dX8_bestDoor_160 rfl rfl ?_
          refine z_goto (q := 166) dX8_bestDoor_162 (by decide) ?_
          exact fin _ (by rw [bestQ, if_neg h28, hgd, if_pos (Or.inl h153)])
        · refine z_iload_n (q := 157) dX8_bestDoor_156 rfl rfl rfl ?_
          refine z_if_ne (tgt := 165) (q := 160) dX8_bestDoor_157 (by decide) rfl (fun h157 => ?_) (fun h157 => ?_)
          · refine z_iload_n (q := 166) dX8_bestDoor_165 rfl rfl rfl ?_
            exact fin _ (by rw [bestQ, if_neg h28, hgd, if_neg (fun q => q.elim h153 h157)])
          · refine z_iload (q := 162) (i := 4) dX8_bestDoor_160 rfl rfl ?_
            refine z_goto (q := 166) dX8_bestDoor_162 (by decide) ?_
            exact fin _ (by rw [bestQ, if_neg h28, hgd, if_pos (Or.inr h157)])
      · intro k hk ih I2 hF ls hls
        have hs : I2 (m + 1) = I (m + 1) := hF _ (by omega) (by omega)
        have e1 : I2 (m + 1) 1 = nI nd := by rw [hs]; exact hI.2.1.1
        refine z_pick [0, 1, 2, 3, 4, 5] hls ?_
        refine z_iload (q := 49) (i := 5) dX8_bestDoor_47 rfl rfl ?_
        refine z_iconst (q := 50) (v := nI 2) dX8_bestDoor_49 (by rfl) rfl ?_
        refine z_aload_n (q := 51) dX8_bestDoor_50 rfl rfl rfl ?_
        refine z_getR (q := 54) 8 0 1 74 rfl (by decide) rfl rfl rfl (by with_reducible assumption) (by with_reducible assumption) dX8_bestDoor_51 rfl ?_
        refine z_iconst (q := 55) (v := nI 1) dX8_bestDoor_54 (by rfl) rfl ?_
        refine z_ialdV (q := 56) _ (by with_reducible assumption) (rfl) (by omega) (by decide) (e1) dX8_bestDoor_55 rfl ?_
        refine z_imulE (q := 57) dX8_bestDoor_56 (pk_mul _ _) rfl ?_
        refine z_icmpn_ge (rfl) (rfl) (by omega) (by omega) (tgt := 149) (q := 60) dX8_bestDoor_57 (by decide) rfl (fun hc => absurd hc (by omega)) (fun _ => ?_)
        refine z_aload_n (q := 61) dX8_bestDoor_60 rfl rfl rfl ?_
        refine z_iload_n (q := 62) dX8_bestDoor_61 rfl rfl rfl ?_
        refine z_iload (q := 64) (i := 5) dX8_bestDoor_62 rfl rfl ?_
        refine z_iconst (q := 65) (v := nI 2) dX8_bestDoor_64 (by rfl) rfl ?_
        refine z_idivE (q := 66) dX8_bestDoor_65 (by decide) (pk_div (by omega) (by decide) (by decide)) rfl ?_
        refine z_bipush (q := 68) (v := nI 10) dX8_bestDoor_66 (by rfl) rfl ?_
        refine z_iload (q := 70) (i := 5) dX8_bestDoor_68 rfl rfl ?_
        refine z_iconst (q := 71) (v := nI 2) dX8_bestDoor_70 (by rfl) rfl ?_
        refine z_iremE (q := 72) dX8_bestDoor_71 (by decide) (pk_rem (by omega) (by decide) (by decide)) rfl ?_
        refine z_imulE (q := 73) dX8_bestDoor_72 (pk_mul _ _) rfl ?_
        refine z_invV (q := 76) (c_X8_otherTail G m r (k / 2) (10 * (k % 2)) nr nd np st hM (by omega) (by omega) (by omega) (by rw [hs]; exact hI) hst) (by with_reducible assumption) rfl gX8_bestDoor_X8_otherTail rfl hy_X8_otherTail rfl rfl rfl rfl (Nat.le_of_ble_eq_true rfl) ⟨Nat.zero_le _, Nat.zero_le _⟩ dX8_bestDoor_73 rfl (z_rvR fun I4 R4 hZ4 => ?_)
        obtain ⟨rfl, hF4⟩ := hZ4
        rw [hs]
        have hF4 : z_scr m I I4 := fun q h1 h2 => by rw [hF4 q h1 h2]; exact hF q h1 h2
        generalize hits : otherT (I (m + 1)) r (k / 2) (nI (10 * (k % 2))) = its
        refine z_istore (q := 78) dX8_bestDoor_76 (by decide) rfl ?_
        refine z_iload (q := 80) (i := 6) dX8_bestDoor_78 rfl rfl ?_
        refine z_bipush (q := 82) (v := (-4)) dX8_bestDoor_80 (by rfl) rfl ?_
        have join : ∀ b, (b = nI 1 ∧ bdS (I (m + 1)) r (k + 1) = (its, nI (100 * (k / 2) + 10 * (k % 2)))) ∨ (b = nI 0 ∧ bdS (I (m + 1)) r (k + 1) = bdS (I (m + 1)) r k) → z_X G muX8_bestDoor (7, 0, 0) (z_rel (some (.int (bestQ (I (m + 1)) r w))) n T (fun I' R' => R' = R4 ∧ z_scr m I I')) n T I4 R4 0 0 102 [(0, .ref m), (1, .int (nI r)), (2, .int w), (3, .int (bdS (I (m + 1)) r k).1), (4, .int (bdS (I (m + 1)) r k).2), (5, .int (nI k)), (6, .int its)] [.int b] := by
          intro b hb
          rcases hb with ⟨rfl, hb⟩ | ⟨rfl, hb⟩
          · refine z_istore (q := 104) dX8_bestDoor_102 (by decide) rfl ?_
            refine z_iload (q := 106) (i := 7) dX8_bestDoor_104 rfl rfl ?_
            refine z_if_eq (tgt := 114) (q := 109) dX8_bestDoor_106 (by decide) rfl (fun hc => False.elim (absurd hc (by decide))) (fun _ => ?_)
            refine z_iload (q := 111) (i := 6) dX8_bestDoor_109 rfl rfl ?_
            refine z_goto (q := 115) dX8_bestDoor_111 (by decide) ?_
            refine z_istore_n (q := 116) dX8_bestDoor_115 rfl (by decide) rfl ?_
            refine z_iload (q := 118) (i := 7) dX8_bestDoor_116 rfl rfl ?_
            refine z_if_eq (tgt := 139) (q := 121) dX8_bestDoor_118 (by decide) rfl (fun hc => False.elim (absurd hc (by decide))) (fun _ => ?_)
            refine z_bipush (q := 123) (v := nI 100) dX8_bestDoor_121 (by rfl) rfl ?_
            refine z_iload (q := 125) (i := 5) dX8_bestDoor_123 rfl rfl ?_
            refine z_iconst (q := 126) (v := nI 2) dX8_bestDoor_125 (by rfl) rfl ?_
            refine z_idivE (q := 127) dX8_bestDoor_126 (by decide) (pk_div (by omega) (by decide) (by decide)) rfl ?_
            refine z_imulE (q := 128) dX8_bestDoor_127 (pk_mul _ _) rfl ?_
            refine z_bipush (q := 130) (v := nI 10) dX8_bestDoor_128 (by rfl) rfl ?_
            refine z_iload (q := 132) (i := 5) dX8_bestDoor_130 rfl rfl ?_
            refine z_iconst (q := 133) (v := nI 2) dX8_bestDoor_132 (by rfl) rfl ?_
            refine z_iremE (q := 134) dX8_bestDoor_133 (by decide) (pk_rem (by omega) (by decide) (by decide)) rfl ?_
            refine z_imulE (q := 135) dX8_bestDoor_134 (pk_mul _ _) rfl ?_
            refine z_iaddE (q := 136) dX8_bestDoor_135 (nI_add _ _) rfl ?_
            refine z_goto (q := 141) dX8_bestDoor_136 (by decide) ?_
            refine z_istore (q := 143) dX8_bestDoor_141 (by decide) rfl ?_
            refine z_iinc (q := 146) dX8_bestDoor_143 rfl (nI_add _ 1) (by decide) rfl ?_
            refine z_goto (q := 47) dX8_bestDoor_146 (by decide) ?_
            refine ih I4 hF4 _ ?_
            rw [hb]
            rfl
          · refine z_istore (q := 104) dX8_bestDoor_102 (by decide) rfl ?_
            refine z_iload (q := 106) (i := 7) dX8_bestDoor_104 rfl rfl ?_
            refine z_if_eq (tgt := 114) (q := 109) dX8_bestDoor_106 (by decide) rfl (fun _ => ?_) (fun hc => False.elim (hc rfl))
            refine z_iload_n (q := 115) dX8_bestDoor_114 rfl rfl rfl ?_
            refine z_istore_n (q := 116) dX8_bestDoor_115 rfl (by decide) rfl ?_
            refine z_iload (q := 118) (i := 7) dX8_bestDoor_116 rfl rfl ?_
            refine z_if_eq (tgt := 139) (q := 121) dX8_bestDoor_118 (by decide) rfl (fun _ => ?_) (fun hc => False.elim (hc rfl))
            refine z_iload (q := 141) (i := 4) dX8_bestDoor_139 rfl rfl ?_
            refine z_istore (q := 143) dX8_bestDoor_141 (by decide) rfl ?_
            refine z_iinc (q := 146) dX8_bestDoor_143 rfl (nI_add _ 1) (by decide) rfl ?_
            refine z_goto (q := 47) dX8_bestDoor_146 (by decide) ?_
            refine ih I4 hF4 _ ?_
            rw [hb]
            rfl
        have hyes : ¬ its = -4 → ((bdS (I (m + 1)) r k).1 = -4 ∨ its < (bdS (I (m + 1)) r k).1) → bdS (I (m + 1)) r (k + 1) = (its, nI (100 * (k / 2) + 10 * (k % 2))) := fun h1 h2 => by rw [bdS, hits, if_pos ⟨h1, h2⟩]
        have hno : ¬ (¬ its = -4 ∧ ((bdS (I (m + 1)) r k).1 = -4 ∨ its < (bdS (I (m + 1)) r k).1)) → bdS (I (m + 1)) r (k + 1) = bdS (I (m + 1)) r k := fun h1 => by rw [bdS, hits, if_neg h1]
        refine z_icmp_eq (tgt := 101) (q := 85) dX8_bestDoor_82 (by decide) rfl (fun h82 => ?_) (fun h82 => ?_)
        · refine z_iconst (q := 102) (v := nI 0) dX8_bestDoor_101 (by rfl) rfl ?_
          exact join _ (Or.inr ⟨rfl, hno (fun q => q.1 h82)⟩)
        · refine z_iload_n (q := 86) dX8_bestDoor_85 rfl rfl rfl ?_
          refine z_bipush (q := 88) (v := (-4)) dX8_bestDoor_86 (by rfl) rfl ?_
          refine z_icmp_eq (tgt := 97) (q := 91) dX8_bestDoor_88 (by decide) rfl (fun h88 => ?_) (fun h88 => ?_)
          · refine z_iconst (q := 98) (v := nI 1) dX8_bestDoor_97 (by rfl) rfl ?_
            refine z_goto (q := 102) dX8_bestDoor_98 (by decide) ?_
            exact join _ (Or.inl ⟨rfl, hyes h82 (Or.inl h88)⟩)
          · refine z_iload (q := 93) (i := 6) dX8_bestDoor_91 rfl rfl ?_
            refine z_iload_n (q := 94) dX8_bestDoor_93 rfl rfl rfl ?_
            refine z_icmp_ge (tgt := 101) (q := 97) dX8_bestDoor_94 (by decide) rfl (fun h94 => ?_) (fun h94 => ?_)
            · refine z_iconst (q := 102) (v := nI 0) dX8_bestDoor_101 (by rfl) rfl ?_
              exact join _ (Or.inr ⟨rfl, hno (fun q => q.2.elim h88 (fun z => absurd z (Int32.not_lt.mpr h94)))⟩)
            · refine z_iconst (q := 98) (v := nI 1) dX8_bestDoor_97 (by rfl) rfl ?_
              refine z_goto (q := 102) dX8_bestDoor_98 (by decide) ?_
              exact join _ (Or.inl ⟨rfl, hyes h82 (Or.inr (Int32.not_le.mp h94))⟩)
    exact loop 0 (Nat.zero_le _) I3 hF3 _ rfl
  · refine z_bipush (q := 33) (v := (-2)) dX8_bestDoor_31 (by rfl) rfl ?_
    exact z_iret rfl dX8_bestDoor_33 (Nat.zero_le _) (Nat.zero_le _) ⟨by rw [bestQ, if_pos h28], rfl, rfl, rfl, fun _ _ _ => rfl⟩

