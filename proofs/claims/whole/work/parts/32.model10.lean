/-! THE REFERENCE, what is asked: rooms, doors, counts, the plan -/
def roomQ (g : Nat → Int32) (r : Nat) : Nat → Int32
  | 3 => dens g r
  | 4 => lvl (g (9 + 6 * r + 2)) 31
  | 5 => g (9 + 6 * r + 3)
  | 6 => g (9 + 6 * r + 4)
  | 7 => doorsN g (nI r) (gN g 1)
  | 8 => hrN g (nI r) (gN g 2)
  | w => g (9 + 6 * r + w)
def sp_roomOf (g : Nat → Int32) (x w : Int32) : Int32 := if x < 0 ∨ g 0 ≤ x then -1 else if w < nI 0 ∨ nI 8 < w then -1 else roomQ g x.toNatClampNeg w.toNatClampNeg
set_option maxRecDepth 100000 in
set_option maxHeartbeats 4000000 in
theorem c_X8_roomOf (G : zG) {n : Nat} {T : zTT} {I : zII} {R : zRR} (m nr nd np st : Nat) (x w : Int32) (hM : z_Mod T R m) (hI : INV nr nd np st (I (m + 1))) : Ct G yX8_roomOf wsX8_roomOf (3, 0, 0) [.ref m, .int x, .int w] n T I R (z_ret (some (.int (sp_roomOf (I (m + 1)) x w))) n T I R) := by
  refine Ct.ofX (M := muX8_roomOf) (ls := [(0, .ref m), (1, .int x), (2, .int w)]) (by decide +kernel) rfl (by decide) rfl rfl (Nat.le_of_ble_eq_true rfl) ?_
  have hTm := hM.1
  have hnr := hI.1.2
  have hnd := hI.2.1.2
  have hnp := hI.2.2.1.2
  obtain ⟨-, ⟨hTs, hRs⟩, -⟩ := id hM
  have bad : sp_roomOf (I (m + 1)) x w = -1 → z_X G muX8_roomOf (3, 0, 0) (z_ret (some (.int (sp_roomOf (I (m + 1)) x w))) n T I R) n T I R 0 0 18 [(0, .ref m), (1, .int x), (2, .int w)] [] := by
    intro hb
    rw [hb]
    refine z_iconst (q := 19) (v := (-1)) dX8_roomOf_18 (by rfl) rfl ?_
    exact z_iret rfl dX8_roomOf_19 (Nat.zero_le _) (Nat.zero_le _) ⟨rfl, rfl, rfl, rfl, rfl⟩
  refine z_aload_n (q := 1) dX8_roomOf_0 rfl rfl rfl ?_
  refine z_iload_n (q := 2) dX8_roomOf_1 rfl rfl rfl ?_
  refine z_invV (q := 5) (c_X8_isRoom G m x hM) (by with_reducible assumption) rfl gX8_roomOf_X8_isRoom rfl hy_X8_isRoom rfl rfl rfl rfl (Nat.le_of_ble_eq_true rfl) ⟨Nat.zero_le _, Nat.zero_le _⟩ dX8_roomOf_2 rfl (z_rv ?_)
  by_cases hv : x < 0 ∨ I (m + 1) 0 ≤ x
  · rw [if_pos hv]
    refine z_if_eq (tgt := 18) (q := 8) dX8_roomOf_5 (by decide) rfl (fun _ => ?_) (fun hc => False.elim (hc rfl))
    exact bad (by rw [sp_roomOf, if_pos hv])
  rw [if_neg hv]
  refine z_if_eq (tgt := 18) (q := 8) dX8_roomOf_5 (by decide) rfl (fun hc => False.elim (absurd hc (by decide))) (fun _ => ?_)
  refine z_iload_n (q := 9) dX8_roomOf_8 rfl rfl rfl ?_
  refine z_iconst (q := 10) (v := nI 0) dX8_roomOf_9 (by rfl) rfl ?_
  refine z_bipush (q := 12) (v := nI 8) dX8_roomOf_10 (by rfl) rfl ?_
  refine z_invS (q := 15) (c_X8_in G w (nI 0) (nI 8)) gX8_roomOf_X8_in rfl hy_X8_in rfl rfl rfl rfl (Nat.le_of_ble_eq_true rfl) ⟨Nat.zero_le _, Nat.zero_le _⟩ dX8_roomOf_12 rfl (z_rv ?_)
  by_cases hz : w < nI 0 ∨ nI 8 < w
  · rw [if_pos hz]
    refine z_if_ne (tgt := 20) (q := 18) dX8_roomOf_15 (by decide) rfl (fun hc => False.elim (hc rfl)) (fun _ => ?_)
    exact bad (by rw [sp_roomOf, if_neg hv, if_pos hz])
  rw [if_neg hz]
  refine z_if_ne (tgt := 20) (q := 18) dX8_roomOf_15 (by decide) rfl (fun _ => ?_) (fun hc => False.elim (absurd hc (by decide)))
  obtain ⟨r, hr, rfl⟩ := z_ix hI.1.1 (by omega) hv
  obtain ⟨k, -, hk, rfl⟩ := z_ix2 (by decide) (by decide) hz
  have e : sp_roomOf (I (m + 1)) (nI r) (nI k) = roomQ (I (m + 1)) r k := by rw [sp_roomOf, if_neg hv, if_neg hz, nI_clamp (by omega), nI_clamp (by omega)]
  rw [e]
  have hgd : gN (I (m + 1)) 1 = nd := gN_of hI.2.1.1 (by omega)
  have hgp : gN (I (m + 1)) 2 = np := gN_of hI.2.2.1.1 (by omega)
  refine z_iload_n (q := 21) dX8_roomOf_20 rfl rfl rfl ?_
  rcases (show k = 0 ∨ k = 1 ∨ k = 2 ∨ k = 3 ∨ k = 4 ∨ k = 5 ∨ k = 6 ∨ k = 7 ∨ k = 8 by omega) with rfl | rfl | rfl | rfl | rfl | rfl | rfl | rfl | rfl
  · refine z_tableOut (tgt := 106) dX8_roomOf_21 (by decide) (by decide) ?_
    refine z_aload_n (q := 107) dX8_roomOf_106 rfl rfl rfl ?_
    refine z_getR (q := 110) 8 0 1 36 rfl (by decide) rfl rfl rfl (by with_reducible assumption) (by with_reducible assumption) dX8_roomOf_107 rfl ?_
    refine z_iload_n (q := 111) dX8_roomOf_110 rfl rfl rfl ?_
    refine z_iload_n (q := 112) dX8_roomOf_111 rfl rfl rfl ?_
    refine z_invS (q := 115) (c_X8_inRoom G (m + 1) r 0 hTs (by omega)) gX8_roomOf_X8_inRoom rfl hy_X8_inRoom rfl rfl rfl rfl (Nat.le_of_ble_eq_true rfl) ⟨Nat.zero_le _, Nat.zero_le _⟩ dX8_roomOf_112 rfl (z_rv ?_)
    exact z_iret rfl dX8_roomOf_115 (Nat.zero_le _) (Nat.zero_le _) (⟨rfl, rfl, rfl, rfl, rfl⟩)
  · refine z_tableOut (tgt := 106) dX8_roomOf_21 (by decide) (by decide) ?_
    refine z_aload_n (q := 107) dX8_roomOf_106 rfl rfl rfl ?_
    refine z_getR (q := 110) 8 0 1 36 rfl (by decide) rfl rfl rfl (by with_reducible assumption) (by with_reducible assumption) dX8_roomOf_107 rfl ?_
    refine z_iload_n (q := 111) dX8_roomOf_110 rfl rfl rfl ?_
    refine z_iload_n (q := 112) dX8_roomOf_111 rfl rfl rfl ?_
    refine z_invS (q := 115) (c_X8_inRoom G (m + 1) r 1 hTs (by omega)) gX8_roomOf_X8_inRoom rfl hy_X8_inRoom rfl rfl rfl rfl (Nat.le_of_ble_eq_true rfl) ⟨Nat.zero_le _, Nat.zero_le _⟩ dX8_roomOf_112 rfl (z_rv ?_)
    exact z_iret rfl dX8_roomOf_115 (Nat.zero_le _) (Nat.zero_le _) (⟨rfl, rfl, rfl, rfl, rfl⟩)
  · refine z_tableOut (tgt := 106) dX8_roomOf_21 (by decide) (by decide) ?_
    refine z_aload_n (q := 107) dX8_roomOf_106 rfl rfl rfl ?_
    refine z_getR (q := 110) 8 0 1 36 rfl (by decide) rfl rfl rfl (by with_reducible assumption) (by with_reducible assumption) dX8_roomOf_107 rfl ?_
    refine z_iload_n (q := 111) dX8_roomOf_110 rfl rfl rfl ?_
    refine z_iload_n (q := 112) dX8_roomOf_111 rfl rfl rfl ?_
    refine z_invS (q := 115) (c_X8_inRoom G (m + 1) r 2 hTs (by omega)) gX8_roomOf_X8_inRoom rfl hy_X8_inRoom rfl rfl rfl rfl (Nat.le_of_ble_eq_true rfl) ⟨Nat.zero_le _, Nat.zero_le _⟩ dX8_roomOf_112 rfl (z_rv ?_)
    exact z_iret rfl dX8_roomOf_115 (Nat.zero_le _) (Nat.zero_le _) (⟨rfl, rfl, rfl, rfl, rfl⟩)
  · refine z_tableIn (tgt := 60) dX8_roomOf_21 (by decide) (by decide) (by rfl) (by decide) ?_
    refine z_aload_n (q := 61) dX8_roomOf_60 rfl rfl rfl ?_
    refine z_iload_n (q := 62) dX8_roomOf_61 rfl rfl rfl ?_
    refine z_invV (q := 65) (c_X8_densityOf G m r hM (by omega) (fun h => ((hI.2.2.2.2.1 r h).1 hr).1)) (by with_reducible assumption) rfl gX8_roomOf_X8_densityOf rfl hy_X8_densityOf rfl rfl rfl rfl (Nat.le_of_ble_eq_true rfl) ⟨Nat.zero_le _, Nat.zero_le _⟩ dX8_roomOf_62 rfl (z_rv ?_)
    exact z_iret rfl dX8_roomOf_65 (Nat.zero_le _) (Nat.zero_le _) (⟨rfl, rfl, rfl, rfl, rfl⟩)
  · refine z_tableIn (tgt := 66) dX8_roomOf_21 (by decide) (by decide) (by rfl) (by decide) ?_
    refine z_aload_n (q := 67) dX8_roomOf_66 rfl rfl rfl ?_
    refine z_getR (q := 70) 8 0 1 36 rfl (by decide) rfl rfl rfl (by with_reducible assumption) (by with_reducible assumption) dX8_roomOf_67 rfl ?_
    refine z_iload_n (q := 71) dX8_roomOf_70 rfl rfl rfl ?_
    refine z_iconst (q := 72) (v := nI 2) dX8_roomOf_71 (by rfl) rfl ?_
    refine z_invS (q := 75) (c_X8_inRoom G (m + 1) r 2 hTs (by omega)) gX8_roomOf_X8_inRoom rfl hy_X8_inRoom rfl rfl rfl rfl (Nat.le_of_ble_eq_true rfl) ⟨Nat.zero_le _, Nat.zero_le _⟩ dX8_roomOf_72 rfl (z_rv ?_)
    refine z_invS (q := 78) (c_X8_level G _) gX8_roomOf_X8_level rfl hy_X8_level rfl rfl rfl rfl (Nat.le_of_ble_eq_true rfl) ⟨Nat.zero_le _, Nat.zero_le _⟩ dX8_roomOf_75 rfl (z_rv ?_)
    exact z_iret rfl dX8_roomOf_78 (Nat.zero_le _) (Nat.zero_le _) (⟨rfl, rfl, rfl, rfl, rfl⟩)
  · refine z_tableIn (tgt := 79) dX8_roomOf_21 (by decide) (by decide) (by rfl) (by decide) ?_
    refine z_aload_n (q := 80) dX8_roomOf_79 rfl rfl rfl ?_
    refine z_getR (q := 83) 8 0 1 36 rfl (by decide) rfl rfl rfl (by with_reducible assumption) (by with_reducible assumption) dX8_roomOf_80 rfl ?_
    refine z_iload_n (q := 84) dX8_roomOf_83 rfl rfl rfl ?_
    refine z_iload_n (q := 85) dX8_roomOf_84 rfl rfl rfl ?_
    refine z_iconst (q := 86) (v := nI 2) dX8_roomOf_85 (by rfl) rfl ?_
    refine z_isubE (q := 87) dX8_roomOf_86 (pk_sub (by decide)) rfl ?_
    refine z_invS (q := 90) (c_X8_inRoom G (m + 1) r 3 hTs (by omega)) gX8_roomOf_X8_inRoom rfl hy_X8_inRoom rfl rfl rfl rfl (Nat.le_of_ble_eq_true rfl) ⟨Nat.zero_le _, Nat.zero_le _⟩ dX8_roomOf_87 rfl (z_rv ?_)
    exact z_iret rfl dX8_roomOf_90 (Nat.zero_le _) (Nat.zero_le _) (⟨rfl, rfl, rfl, rfl, rfl⟩)
  · refine z_tableIn (tgt := 79) dX8_roomOf_21 (by decide) (by decide) (by rfl) (by decide) ?_
    refine z_aload_n (q := 80) dX8_roomOf_79 rfl rfl rfl ?_
    refine z_getR (q := 83) 8 0 1 36 rfl (by decide) rfl rfl rfl (by with_reducible assumption) (by with_reducible assumption) dX8_roomOf_80 rfl ?_
    refine z_iload_n (q := 84) dX8_roomOf_83 rfl rfl rfl ?_
    refine z_iload_n (q := 85) dX8_roomOf_84 rfl rfl rfl ?_
    refine z_iconst (q := 86) (v := nI 2) dX8_roomOf_85 (by rfl) rfl ?_
    refine z_isubE (q := 87) dX8_roomOf_86 (pk_sub (by decide)) rfl ?_
    refine z_invS (q := 90) (c_X8_inRoom G (m + 1) r 4 hTs (by omega)) gX8_roomOf_X8_inRoom rfl hy_X8_inRoom rfl rfl rfl rfl (Nat.le_of_ble_eq_true rfl) ⟨Nat.zero_le _, Nat.zero_le _⟩ dX8_roomOf_87 rfl (z_rv ?_)
    exact z_iret rfl dX8_roomOf_90 (Nat.zero_le _) (Nat.zero_le _) (⟨rfl, rfl, rfl, rfl, rfl⟩)
  · refine z_tableIn (tgt := 91) dX8_roomOf_21 (by decide) (by decide) (by rfl) (by decide) ?_
    refine z_aload_n (q := 92) dX8_roomOf_91 rfl rfl rfl ?_
    refine z_iload_n (q := 93) dX8_roomOf_92 rfl rfl rfl ?_
    refine z_invV (q := 96) (c_X8_doorsOf G m nd (nI r) hM hI.2.1.1 hnd) (by with_reducible assumption) rfl gX8_roomOf_X8_doorsOf rfl hy_X8_doorsOf rfl rfl rfl rfl (Nat.le_of_ble_eq_true rfl) ⟨Nat.zero_le _, Nat.zero_le _⟩ dX8_roomOf_93 rfl (z_rv ?_)
    exact z_iret rfl dX8_roomOf_96 (Nat.zero_le _) (Nat.zero_le _) (⟨by simp only [roomQ, hgd], rfl, rfl, rfl, rfl⟩)
  · refine z_tableIn (tgt := 97) dX8_roomOf_21 (by decide) (by decide) (by rfl) (by decide) ?_
    refine z_aload_n (q := 98) dX8_roomOf_97 rfl rfl rfl ?_
    refine z_getR (q := 101) 8 0 1 36 rfl (by decide) rfl rfl rfl (by with_reducible assumption) (by with_reducible assumption) dX8_roomOf_98 rfl ?_
    refine z_iload_n (q := 102) dX8_roomOf_101 rfl rfl rfl ?_
    refine z_invS (q := 105) (c_X8_heardIn G (m + 1) np (nI r) hTs hI.2.2.1.1 hnp) gX8_roomOf_X8_heardIn rfl hy_X8_heardIn rfl rfl rfl rfl (Nat.le_of_ble_eq_true rfl) ⟨Nat.zero_le _, Nat.zero_le _⟩ dX8_roomOf_102 rfl (z_rv ?_)
    exact z_iret rfl dX8_roomOf_105 (Nat.zero_le _) (Nat.zero_le _) (⟨by simp only [roomQ, hgp], rfl, rfl, rfl, rfl⟩)
def doorQ (g : Nat → Int32) (d w : Nat) : Int32 := if w < 8 then g (57 + 10 * d + w) else if w = 8 then sumI (fun i => g (177 + 12 * d + i)) 12 else if w < 11 then g (57 + 10 * d + (w - 1)) else thr g d (gN g (57 + 10 * d + (w - 11)))
def sp_doorOf (g : Nat → Int32) (x w : Int32) : Int32 := if x < 0 ∨ g 1 ≤ x then -1 else if w < nI 0 ∨ nI 12 < w then -1 else doorQ g x.toNatClampNeg w.toNatClampNeg
set_option maxRecDepth 100000 in
set_option maxHeartbeats 4000000 in
theorem c_X8_doorOf (G : zG) {n : Nat} {T : zTT} {I : zII} {R : zRR} (m nr nd np st : Nat) (x w : Int32) (hM : z_Mod T R m) (hI : INV nr nd np st (I (m + 1))) : Ct G yX8_doorOf wsX8_doorOf (2, 0, 0) [.ref m, .int x, .int w] n T I R (z_ret (some (.int (sp_doorOf (I (m + 1)) x w))) n T I R) := by
  refine Ct.ofX (M := muX8_doorOf) (ls := [(0, .ref m), (1, .int x), (2, .int w)]) (by decide +kernel) rfl (by decide) rfl rfl (Nat.le_of_ble_eq_true rfl) ?_
  have hTm := hM.1
  have hnd := hI.2.1.2
  obtain ⟨-, ⟨hTs, hRs⟩, -⟩ := id hM
  have bad : sp_doorOf (I (m + 1)) x w = -1 → z_X G muX8_doorOf (2, 0, 0) (z_ret (some (.int (sp_doorOf (I (m + 1)) x w))) n T I R) n T I R 0 0 18 [(0, .ref m), (1, .int x), (2, .int w)] [] := by
    intro hb
    rw [hb]
    refine z_iconst (q := 19) (v := (-1)) dX8_doorOf_18 (by rfl) rfl ?_
    exact z_iret rfl dX8_doorOf_19 (Nat.zero_le _) (Nat.zero_le _) ⟨rfl, rfl, rfl, rfl, rfl⟩
  refine z_aload_n (q := 1) dX8_doorOf_0 rfl rfl rfl ?_
  refine z_iload_n (q := 2) dX8_doorOf_1 rfl rfl rfl ?_
  refine z_invV (q := 5) (c_X8_isDoor G m x hM) (by with_reducible assumption) rfl gX8_doorOf_X8_isDoor rfl hy_X8_isDoor rfl rfl rfl rfl (Nat.le_of_ble_eq_true rfl) ⟨Nat.zero_le _, Nat.zero_le _⟩ dX8_doorOf_2 rfl (z_rv ?_)
  by_cases hv : x < 0 ∨ I (m + 1) 1 ≤ x
  · rw [if_pos hv]
    refine z_if_eq (tgt := 18) (q := 8) dX8_doorOf_5 (by decide) rfl (fun _ => ?_) (fun hc => False.elim (hc rfl))
    exact bad (by rw [sp_doorOf, if_pos hv])
  rw [if_neg hv]
  refine z_if_eq (tgt := 18) (q := 8) dX8_doorOf_5 (by decide) rfl (fun hc => False.elim (absurd hc (by decide))) (fun _ => ?_)
  refine z_iload_n (q := 9) dX8_doorOf_8 rfl rfl rfl ?_
  refine z_iconst (q := 10) (v := nI 0) dX8_doorOf_9 (by rfl) rfl ?_
  refine z_bipush (q := 12) (v := nI 12) dX8_doorOf_10 (by rfl) rfl ?_
  refine z_invS (q := 15) (c_X8_in G w (nI 0) (nI 12)) gX8_doorOf_X8_in rfl hy_X8_in rfl rfl rfl rfl (Nat.le_of_ble_eq_true rfl) ⟨Nat.zero_le _, Nat.zero_le _⟩ dX8_doorOf_12 rfl (z_rv ?_)
  by_cases hz : w < nI 0 ∨ nI 12 < w
  · rw [if_pos hz]
    refine z_if_ne (tgt := 20) (q := 18) dX8_doorOf_15 (by decide) rfl (fun hc => False.elim (hc rfl)) (fun _ => ?_)
    exact bad (by rw [sp_doorOf, if_neg hv, if_pos hz])
  rw [if_neg hz]
  refine z_if_ne (tgt := 20) (q := 18) dX8_doorOf_15 (by decide) rfl (fun _ => ?_) (fun hc => False.elim (absurd hc (by decide)))
  obtain ⟨d, hd, rfl⟩ := z_ix hI.2.1.1 (by omega) hv
  obtain ⟨k, -, hk, rfl⟩ := z_ix2 (by decide) (by decide) hz
  have e : sp_doorOf (I (m + 1)) (nI d) (nI k) = doorQ (I (m + 1)) d k := by rw [sp_doorOf, if_neg hv, if_neg hz, nI_clamp (by omega), nI_clamp (by omega)]
  rw [e]
  refine z_iload_n (q := 21) dX8_doorOf_20 rfl rfl rfl ?_
  refine z_bipush (q := 23) (v := nI 8) dX8_doorOf_21 (by rfl) rfl ?_
  refine z_icmpn_ge (rfl) (rfl) (by omega) (by omega) (tgt := 38) (q := 26) dX8_doorOf_23 (by decide) rfl (fun h23 => ?_) (fun h23 => ?_)
  · refine z_iload_n (q := 39) dX8_doorOf_38 rfl rfl rfl ?_
    refine z_bipush (q := 41) (v := nI 8) dX8_doorOf_39 (by rfl) rfl ?_
    refine z_icmpn_ne (rfl) (rfl) (by omega) (by omega) (tgt := 55) (q := 44) dX8_doorOf_41 (by decide) rfl (fun h41 => ?_) (fun h41 => ?_)
    · refine z_iload_n (q := 56) dX8_doorOf_55 rfl rfl rfl ?_
      refine z_bipush (q := 58) (v := nI 11) dX8_doorOf_56 (by rfl) rfl ?_
      refine z_icmpn_ge (rfl) (rfl) (by omega) (by omega) (tgt := 79) (q := 61) dX8_doorOf_58 (by decide) rfl (fun h58 => ?_) (fun h58 => ?_)
      · obtain ⟨⟨a, ha, ha8, hav⟩, ⟨b, hb, hb8, hbv⟩⟩ := INV_a hI hd
        have e2 : doorQ (I (m + 1)) d k = thr (I (m + 1)) d (gN (I (m + 1)) (57 + 10 * d + (k - 11))) := by rw [doorQ, if_neg (by omega), if_neg (by omega), if_neg (by omega)]
        rw [e2]
        rcases (show k = 11 ∨ k = 12 by omega) with rfl | rfl
        · rw [show gN (I (m + 1)) (57 + 10 * d + (11 - 11)) = a from gN_of ha (by omega)]
          refine z_aload_n (q := 80) dX8_doorOf_79 rfl rfl rfl ?_
          refine z_getR (q := 83) 8 0 1 23 rfl (by decide) rfl rfl rfl (by with_reducible assumption) (by with_reducible assumption) dX8_doorOf_80 rfl ?_
          refine z_iload_n (q := 84) dX8_doorOf_83 rfl rfl rfl ?_
          refine z_iload_n (q := 85) dX8_doorOf_84 rfl rfl rfl ?_
          refine z_bipush (q := 87) (v := nI 11) dX8_doorOf_85 (by rfl) rfl ?_
          refine z_isubE (q := 88) dX8_doorOf_87 (pk_sub (by decide)) rfl ?_
          refine z_invS (q := 91) (c_X8_through G (m + 1) d 0 a hTs (by omega) (by decide) ha ha8 hav) gX8_doorOf_X8_through rfl hy_X8_through rfl rfl rfl rfl (Nat.le_of_ble_eq_true rfl) ⟨Nat.zero_le _, Nat.zero_le _⟩ dX8_doorOf_88 rfl (z_rv ?_)
          exact z_iret rfl dX8_doorOf_91 (Nat.zero_le _) (Nat.zero_le _) (⟨rfl, rfl, rfl, rfl, rfl⟩)
        · rw [show gN (I (m + 1)) (57 + 10 * d + (12 - 11)) = b from gN_of hb (by omega)]
          refine z_aload_n (q := 80) dX8_doorOf_79 rfl rfl rfl ?_
          refine z_getR (q := 83) 8 0 1 23 rfl (by decide) rfl rfl rfl (by with_reducible assumption) (by with_reducible assumption) dX8_doorOf_80 rfl ?_
          refine z_iload_n (q := 84) dX8_doorOf_83 rfl rfl rfl ?_
          refine z_iload_n (q := 85) dX8_doorOf_84 rfl rfl rfl ?_
          refine z_bipush (q := 87) (v := nI 11) dX8_doorOf_85 (by rfl) rfl ?_
          refine z_isubE (q := 88) dX8_doorOf_87 (pk_sub (by decide)) rfl ?_
          refine z_invS (q := 91) (c_X8_through G (m + 1) d 1 b hTs (by omega) (by decide) hb hb8 hbv) gX8_doorOf_X8_through rfl hy_X8_through rfl rfl rfl rfl (Nat.le_of_ble_eq_true rfl) ⟨Nat.zero_le _, Nat.zero_le _⟩ dX8_doorOf_88 rfl (z_rv ?_)
          exact z_iret rfl dX8_doorOf_91 (Nat.zero_le _) (Nat.zero_le _) (⟨rfl, rfl, rfl, rfl, rfl⟩)
      · refine z_aload_n (q := 62) dX8_doorOf_61 rfl rfl rfl ?_
        refine z_getR (q := 65) 8 0 1 23 rfl (by decide) rfl rfl rfl (by with_reducible assumption) (by with_reducible assumption) dX8_doorOf_62 rfl ?_
        refine z_iload_n (q := 66) dX8_doorOf_65 rfl rfl rfl ?_
        refine z_bipush (q := 68) (v := nI 8) dX8_doorOf_66 (by rfl) rfl ?_
        refine z_iload_n (q := 69) dX8_doorOf_68 rfl rfl rfl ?_
        refine z_iaddE (q := 70) dX8_doorOf_69 (nI_add _ _) rfl ?_
        refine z_bipush (q := 72) (v := nI 9) dX8_doorOf_70 (by rfl) rfl ?_
        refine z_isubE (q := 73) dX8_doorOf_72 (pk_sub (by omega)) rfl ?_
        refine z_invS (q := 76) (c_X8_ofDoor G (m + 1) d (8 + k - 9) hTs (by omega)) gX8_doorOf_X8_ofDoor rfl hy_X8_ofDoor rfl rfl rfl rfl (Nat.le_of_ble_eq_true rfl) ⟨Nat.zero_le _, Nat.zero_le _⟩ dX8_doorOf_73 rfl (z_rv ?_)
        refine z_goto (q := 91) dX8_doorOf_76 (by decide) ?_
        exact z_iret rfl dX8_doorOf_91 (Nat.zero_le _) (Nat.zero_le _) (⟨by rw [doorQ, if_neg (by omega), if_neg (by omega), if_pos (by omega), show 8 + k - 9 = k - 1 by omega], rfl, rfl, rfl, rfl⟩)
    · refine z_aload_n (q := 45) dX8_doorOf_44 rfl rfl rfl ?_
      refine z_getR (q := 48) 8 0 1 23 rfl (by decide) rfl rfl rfl (by with_reducible assumption) (by with_reducible assumption) dX8_doorOf_45 rfl ?_
      refine z_iload_n (q := 49) dX8_doorOf_48 rfl rfl rfl ?_
      refine z_invS (q := 52) (c_X8_onWay G (m + 1) d hTs (by omega)) gX8_doorOf_X8_onWay rfl hy_X8_onWay rfl rfl rfl rfl (Nat.le_of_ble_eq_true rfl) ⟨Nat.zero_le _, Nat.zero_le _⟩ dX8_doorOf_49 rfl (z_rv ?_)
      refine z_goto (q := 91) dX8_doorOf_52 (by decide) ?_
      exact z_iret rfl dX8_doorOf_91 (Nat.zero_le _) (Nat.zero_le _) (⟨by rw [doorQ, if_neg (by omega), if_pos (by omega)], rfl, rfl, rfl, rfl⟩)
  · refine z_aload_n (q := 27) dX8_doorOf_26 rfl rfl rfl ?_
    refine z_getR (q := 30) 8 0 1 23 rfl (by decide) rfl rfl rfl (by with_reducible assumption) (by with_reducible assumption) dX8_doorOf_27 rfl ?_
    refine z_iload_n (q := 31) dX8_doorOf_30 rfl rfl rfl ?_
    refine z_iload_n (q := 32) dX8_doorOf_31 rfl rfl rfl ?_
    refine z_invS (q := 35) (c_X8_ofDoor G (m + 1) d k hTs (by omega)) gX8_doorOf_X8_ofDoor rfl hy_X8_ofDoor rfl rfl rfl rfl (Nat.le_of_ble_eq_true rfl) ⟨Nat.zero_le _, Nat.zero_le _⟩ dX8_doorOf_32 rfl (z_rv ?_)
    refine z_goto (q := 91) dX8_doorOf_35 (by decide) ?_
    exact z_iret rfl dX8_doorOf_91 (Nat.zero_le _) (Nat.zero_le _) (⟨by rw [doorQ, if_pos (by omega)], rfl, rfl, rfl, rfl⟩)
def cntQ (g : Nat → Int32) (u y : Int32) : Nat → Int32
  | 0 => g 0
  | 1 => g 1
  | 2 => g 2
  | 3 => g 3
  | 4 => allR g 2
  | 5 => allW g
  | 6 => allR g 3
  | 7 => g 4
  | 8 => allR g 4
  | 9 => g 5
  | 10 => g 6
  | 11 => u
  | 12 => y
  | 20 => g 7
  | 21 => g 8
  | _ => -1
def sp_count (g : Nat → Int32) (u y x : Int32) : Int32 := if x < nI 0 ∨ nI 21 < x then -1 else cntQ g u y x.toNatClampNeg
set_option maxRecDepth 100000 in
set_option maxHeartbeats 4000000 in
theorem c_X8_count (G : zG) {n : Nat} {T : zTT} {I : zII} {R : zRR} (m nr nd np st : Nat) (x : Int32) (hM : z_Mod T R m) (hI : INV nr nd np st (I (m + 1))) : Ct G yX8_count wsX8_count (2, 0, 0) [.ref m, .int x] n T I R (z_ret (some (.int (sp_count (I (m + 1)) (I m 3) (I m 5) x))) n T I R) := by
  refine Ct.ofX (M := muX8_count) (ls := [(0, .ref m), (1, .int x)]) (by decide +kernel) rfl (by decide) rfl rfl (Nat.le_of_ble_eq_true rfl) ?_
  have hTm := hM.1
  have hnr := hI.1.2
  have hnd := hI.2.1.2
  obtain ⟨-, ⟨hTs, hRs⟩, -⟩ := id hM
  have hgr : gN (I (m + 1)) 0 = nr := gN_of hI.1.1 (by omega)
  have hgd : gN (I (m + 1)) 1 = nd := gN_of hI.2.1.1 (by omega)
  refine z_iload_n (q := 1) dX8_count_0 rfl rfl rfl ?_
  by_cases hz : x < nI 0 ∨ nI 21 < x
  · have ho : x.toInt < 0 ∨ 21 < x.toInt := hz.imp (fun h => show x.toInt < (nI 0).toInt from Int32.lt_iff_toInt_lt.mp h) (fun h => by
      have h2 : (nI 21).toInt < x.toInt := Int32.lt_iff_toInt_lt.mp h
      rw [show (nI 21).toInt = 21 from by decide] at h2
      exact h2)
    refine z_tableOut (tgt := 191) dX8_count_1 (ho) (by decide) ?_
    refine z_iconst (q := 192) (v := (-1)) dX8_count_191 (by rfl) rfl ?_
    exact z_iret rfl dX8_count_192 (Nat.zero_le _) (Nat.zero_le _) (⟨by rw [sp_count, if_pos hz], rfl, rfl, rfl, rfl⟩)
  obtain ⟨k, -, hk, rfl⟩ := z_ix2 (by decide) (by decide) hz
  have e : sp_count (I (m + 1)) (I m 3) (I m 5) (nI k) = cntQ (I (m + 1)) (I m 3) (I m 5) k := by rw [sp_count, if_neg hz, nI_clamp (by omega)]
  rw [e]
  rcases (show k = 0 ∨ k = 1 ∨ k = 2 ∨ k = 3 ∨ k = 4 ∨ k = 5 ∨ k = 6 ∨ k = 7 ∨ k = 8 ∨ k = 9 ∨ k = 10 ∨ k = 11 ∨ k = 12 ∨ (k = 13 ∨ k = 14 ∨ k = 15 ∨ k = 16 ∨ k = 17 ∨ k = 18 ∨ k = 19) ∨ k = 20 ∨ k = 21 by omega) with rfl | rfl | rfl | rfl | rfl | rfl | rfl | rfl | rfl | rfl | rfl | rfl | rfl | hk | rfl | rfl
  · refine z_tableIn (tgt := 104) dX8_count_1 (by decide) (by decide) (by rfl) (by decide) ?_
    refine z_aload_n (q := 105) dX8_count_104 rfl rfl rfl ?_
    refine z_getR (q := 108) 8 0 1 17 rfl (by decide) rfl rfl rfl (by with_reducible assumption) (by with_reducible assumption) dX8_count_105 rfl ?_
    refine z_iload_n (q := 109) dX8_count_108 rfl rfl rfl ?_
    refine z_iald (q := 110) _ (by with_reducible assumption) (rfl) (by omega) (by decide) dX8_count_109 rfl ?_
    exact z_iret rfl dX8_count_110 (Nat.zero_le _) (Nat.zero_le _) (⟨rfl, rfl, rfl, rfl, rfl⟩)
  · refine z_tableIn (tgt := 104) dX8_count_1 (by decide) (by decide) (by rfl) (by decide) ?_
    refine z_aload_n (q := 105) dX8_count_104 rfl rfl rfl ?_
    refine z_getR (q := 108) 8 0 1 17 rfl (by decide) rfl rfl rfl (by with_reducible assumption) (by with_reducible assumption) dX8_count_105 rfl ?_
    refine z_iload_n (q := 109) dX8_count_108 rfl rfl rfl ?_
    refine z_iald (q := 110) _ (by with_reducible assumption) (rfl) (by omega) (by decide) dX8_count_109 rfl ?_
    exact z_iret rfl dX8_count_110 (Nat.zero_le _) (Nat.zero_le _) (⟨rfl, rfl, rfl, rfl, rfl⟩)
  · refine z_tableIn (tgt := 104) dX8_count_1 (by decide) (by decide) (by rfl) (by decide) ?_
    refine z_aload_n (q := 105) dX8_count_104 rfl rfl rfl ?_
    refine z_getR (q := 108) 8 0 1 17 rfl (by decide) rfl rfl rfl (by with_reducible assumption) (by with_reducible assumption) dX8_count_105 rfl ?_
    refine z_iload_n (q := 109) dX8_count_108 rfl rfl rfl ?_
    refine z_iald (q := 110) _ (by with_reducible assumption) (rfl) (by omega) (by decide) dX8_count_109 rfl ?_
    exact z_iret rfl dX8_count_110 (Nat.zero_le _) (Nat.zero_le _) (⟨rfl, rfl, rfl, rfl, rfl⟩)
  · refine z_tableIn (tgt := 104) dX8_count_1 (by decide) (by decide) (by rfl) (by decide) ?_
    refine z_aload_n (q := 105) dX8_count_104 rfl rfl rfl ?_
    refine z_getR (q := 108) 8 0 1 17 rfl (by decide) rfl rfl rfl (by with_reducible assumption) (by with_reducible assumption) dX8_count_105 rfl ?_
    refine z_iload_n (q := 109) dX8_count_108 rfl rfl rfl ?_
    refine z_iald (q := 110) _ (by with_reducible assumption) (rfl) (by omega) (by decide) dX8_count_109 rfl ?_
    exact z_iret rfl dX8_count_110 (Nat.zero_le _) (Nat.zero_le _) (⟨rfl, rfl, rfl, rfl, rfl⟩)
  · refine z_tableIn (tgt := 111) dX8_count_1 (by decide) (by decide) (by rfl) (by decide) ?_
    refine z_aload_n (q := 112) dX8_count_111 rfl rfl rfl ?_
    refine z_getR (q := 115) 8 0 1 17 rfl (by decide) rfl rfl rfl (by with_reducible assumption) (by with_reducible assumption) dX8_count_112 rfl ?_
    refine z_iconst (q := 116) (v := nI 2) dX8_count_115 (by rfl) rfl ?_
    refine z_invS (q := 119) (c_X8_sumOf G (m + 1) 2 nr hTs (by decide) hI.1.1 hnr) gX8_count_X8_sumOf rfl hy_X8_sumOf rfl rfl rfl rfl (Nat.le_of_ble_eq_true rfl) ⟨Nat.zero_le _, Nat.zero_le _⟩ dX8_count_116 rfl (z_rv ?_)
    exact z_iret rfl dX8_count_119 (Nat.zero_le _) (Nat.zero_le _) (⟨by simp only [cntQ, allR, hgr], rfl, rfl, rfl, rfl⟩)
  · refine z_tableIn (tgt := 120) dX8_count_1 (by decide) (by decide) (by rfl) (by decide) ?_
    refine z_aload_n (q := 121) dX8_count_120 rfl rfl rfl ?_
    refine z_getR (q := 124) 8 0 1 17 rfl (by decide) rfl rfl rfl (by with_reducible assumption) (by with_reducible assumption) dX8_count_121 rfl ?_
    refine z_invS (q := 127) (c_X8_allOnWay G (m + 1) nd hTs hI.2.1.1 hnd) gX8_count_X8_allOnWay rfl hy_X8_allOnWay rfl rfl rfl rfl (Nat.le_of_ble_eq_true rfl) ⟨Nat.zero_le _, Nat.zero_le _⟩ dX8_count_124 rfl (z_rv ?_)
    exact z_iret rfl dX8_count_127 (Nat.zero_le _) (Nat.zero_le _) (⟨by simp only [cntQ, allW, hgd], rfl, rfl, rfl, rfl⟩)
  · refine z_tableIn (tgt := 128) dX8_count_1 (by decide) (by decide) (by rfl) (by decide) ?_
    refine z_aload_n (q := 129) dX8_count_128 rfl rfl rfl ?_
    refine z_getR (q := 132) 8 0 1 17 rfl (by decide) rfl rfl rfl (by with_reducible assumption) (by with_reducible assumption) dX8_count_129 rfl ?_
    refine z_iconst (q := 133) (v := nI 3) dX8_count_132 (by rfl) rfl ?_
    refine z_invS (q := 136) (c_X8_sumOf G (m + 1) 3 nr hTs (by decide) hI.1.1 hnr) gX8_count_X8_sumOf rfl hy_X8_sumOf rfl rfl rfl rfl (Nat.le_of_ble_eq_true rfl) ⟨Nat.zero_le _, Nat.zero_le _⟩ dX8_count_133 rfl (z_rv ?_)
    exact z_iret rfl dX8_count_136 (Nat.zero_le _) (Nat.zero_le _) (⟨by simp only [cntQ, allR, hgr], rfl, rfl, rfl, rfl⟩)
  · refine z_tableIn (tgt := 137) dX8_count_1 (by decide) (by decide) (by rfl) (by decide) ?_
    refine z_aload_n (q := 138) dX8_count_137 rfl rfl rfl ?_
    refine z_getR (q := 141) 8 0 1 17 rfl (by decide) rfl rfl rfl (by with_reducible assumption) (by with_reducible assumption) dX8_count_138 rfl ?_
    refine z_iconst (q := 142) (v := nI 4) dX8_count_141 (by rfl) rfl ?_
    refine z_iald (q := 143) _ (by with_reducible assumption) (rfl) (by omega) (by decide) dX8_count_142 rfl ?_
    exact z_iret rfl dX8_count_143 (Nat.zero_le _) (Nat.zero_le _) (⟨rfl, rfl, rfl, rfl, rfl⟩)
  · refine z_tableIn (tgt := 144) dX8_count_1 (by decide) (by decide) (by rfl) (by decide) ?_
    refine z_aload_n (q := 145) dX8_count_144 rfl rfl rfl ?_
    refine z_getR (q := 148) 8 0 1 17 rfl (by decide) rfl rfl rfl (by with_reducible assumption) (by with_reducible assumption) dX8_count_145 rfl ?_
    refine z_iconst (q := 149) (v := nI 4) dX8_count_148 (by rfl) rfl ?_
    refine z_invS (q := 152) (c_X8_sumOf G (m + 1) 4 nr hTs (by decide) hI.1.1 hnr) gX8_count_X8_sumOf rfl hy_X8_sumOf rfl rfl rfl rfl (Nat.le_of_ble_eq_true rfl) ⟨Nat.zero_le _, Nat.zero_le _⟩ dX8_count_149 rfl (z_rv ?_)
    exact z_iret rfl dX8_count_152 (Nat.zero_le _) (Nat.zero_le _) (⟨by simp only [cntQ, allR, hgr], rfl, rfl, rfl, rfl⟩)
  · refine z_tableIn (tgt := 153) dX8_count_1 (by decide) (by decide) (by rfl) (by decide) ?_
    refine z_aload_n (q := 154) dX8_count_153 rfl rfl rfl ?_
    refine z_getR (q := 157) 8 0 1 17 rfl (by decide) rfl rfl rfl (by with_reducible assumption) (by with_reducible assumption) dX8_count_154 rfl ?_
    refine z_iconst (q := 158) (v := nI 5) dX8_count_157 (by rfl) rfl ?_
    refine z_iald (q := 159) _ (by with_reducible assumption) (rfl) (by omega) (by decide) dX8_count_158 rfl ?_
    exact z_iret rfl dX8_count_159 (Nat.zero_le _) (Nat.zero_le _) (⟨rfl, rfl, rfl, rfl, rfl⟩)
  · refine z_tableIn (tgt := 160) dX8_count_1 (by decide) (by decide) (by rfl) (by decide) ?_
    refine z_aload_n (q := 161) dX8_count_160 rfl rfl rfl ?_
    refine z_getR (q := 164) 8 0 1 17 rfl (by decide) rfl rfl rfl (by with_reducible assumption) (by with_reducible assumption) dX8_count_161 rfl ?_
    refine z_bipush (q := 166) (v := nI 6) dX8_count_164 (by rfl) rfl ?_
    refine z_iald (q := 167) _ (by with_reducible assumption) (rfl) (by omega) (by decide) dX8_count_166 rfl ?_
    exact z_iret rfl dX8_count_167 (Nat.zero_le _) (Nat.zero_le _) (⟨rfl, rfl, rfl, rfl, rfl⟩)
  · refine z_tableIn (tgt := 168) dX8_count_1 (by decide) (by decide) (by rfl) (by decide) ?_
    refine z_aload_n (q := 169) dX8_count_168 rfl rfl rfl ?_
    refine z_getI (q := 172) 8 3 2 20 rfl (by decide) rfl rfl rfl (by with_reducible assumption) dX8_count_169 rfl ?_
    exact z_iret rfl dX8_count_172 (Nat.zero_le _) (Nat.zero_le _) (⟨rfl, rfl, rfl, rfl, rfl⟩)
  · refine z_tableIn (tgt := 173) dX8_count_1 (by decide) (by decide) (by rfl) (by decide) ?_
    refine z_aload_n (q := 174) dX8_count_173 rfl rfl rfl ?_
    refine z_getI (q := 177) 8 5 3 22 rfl (by decide) rfl rfl rfl (by with_reducible assumption) dX8_count_174 rfl ?_
    exact z_iret rfl dX8_count_177 (Nat.zero_le _) (Nat.zero_le _) (⟨rfl, rfl, rfl, rfl, rfl⟩)
  · have e2 : cntQ (I (m + 1)) (I m 3) (I m 5) k = -1 := by rcases hk with rfl | rfl | rfl | rfl | rfl | rfl | rfl <;> rfl
    rw [e2]
    have fin : z_X G muX8_count (2, 0, 0) (z_ret (some (.int (-1))) n T I R) n T I R 0 0 191 [(0, .ref m), (1, .int (nI k))] [] := by
      refine z_iconst (q := 192) (v := (-1)) dX8_count_191 (by rfl) rfl ?_
      exact z_iret rfl dX8_count_192 (Nat.zero_le _) (Nat.zero_le _) (⟨rfl, rfl, rfl, rfl, rfl⟩)
    rcases hk with rfl | rfl | rfl | rfl | rfl | rfl | rfl
    · refine z_tableIn (tgt := 191) dX8_count_1 (by decide) (by decide) (by rfl) (by decide) ?_
      exact fin
    · refine z_tableIn (tgt := 191) dX8_count_1 (by decide) (by decide) (by rfl) (by decide) ?_
      exact fin
    · refine z_tableIn (tgt := 191) dX8_count_1 (by decide) (by decide) (by rfl) (by decide) ?_
      exact fin
    · refine z_tableIn (tgt := 191) dX8_count_1 (by decide) (by decide) (by rfl) (by decide) ?_
      exact fin
    · refine z_tableIn (tgt := 191) dX8_count_1 (by decide) (by decide) (by rfl) (by decide) ?_
      exact fin
    · refine z_tableIn (tgt := 191) dX8_count_1 (by decide) (by decide) (by rfl) (by decide) ?_
      exact fin
    · refine z_tableIn (tgt := 191) dX8_count_1 (by decide) (by decide) (by rfl) (by decide) ?_
      exact fin
  · refine z_tableIn (tgt := 178) dX8_count_1 (by decide) (by decide) (by rfl) (by decide) ?_
    refine z_aload_n (q := 179) dX8_count_178 rfl rfl rfl ?_
    refine z_getR (q := 182) 8 0 1 17 rfl (by decide) rfl rfl rfl (by with_reducible assumption) (by with_reducible assumption) dX8_count_179 rfl ?_
    refine z_bipush (q := 184) (v := nI 7) dX8_count_182 (by rfl) rfl ?_
    refine z_iload_n (q := 185) dX8_count_184 rfl rfl rfl ?_
    refine z_iaddE (q := 186) dX8_count_185 (nI_add _ _) rfl ?_
    refine z_bipush (q := 188) (v := nI 20) dX8_count_186 (by rfl) rfl ?_
    refine z_isubE (q := 189) dX8_count_188 (pk_sub (by decide)) rfl ?_
    refine z_iald (q := 190) _ (by with_reducible assumption) (rfl) (by omega) (by decide) dX8_count_189 rfl ?_
    exact z_iret rfl dX8_count_190 (Nat.zero_le _) (Nat.zero_le _) (⟨rfl, rfl, rfl, rfl, rfl⟩)
  · refine z_tableIn (tgt := 178) dX8_count_1 (by decide) (by decide) (by rfl) (by decide) ?_
    refine z_aload_n (q := 179) dX8_count_178 rfl rfl rfl ?_
    refine z_getR (q := 182) 8 0 1 17 rfl (by decide) rfl rfl rfl (by with_reducible assumption) (by with_reducible assumption) dX8_count_179 rfl ?_
    refine z_bipush (q := 184) (v := nI 7) dX8_count_182 (by rfl) rfl ?_
    refine z_iload_n (q := 185) dX8_count_184 rfl rfl rfl ?_
    refine z_iaddE (q := 186) dX8_count_185 (nI_add _ _) rfl ?_
    refine z_bipush (q := 188) (v := nI 20) dX8_count_186 (by rfl) rfl ?_
    refine z_isubE (q := 189) dX8_count_188 (pk_sub (by decide)) rfl ?_
    refine z_iald (q := 190) _ (by with_reducible assumption) (rfl) (by omega) (by decide) dX8_count_189 rfl ?_
    exact z_iret rfl dX8_count_190 (Nat.zero_le _) (Nat.zero_le _) (⟨rfl, rfl, rfl, rfl, rfl⟩)
def sp_plan (g : Nat → Int32) (x w : Int32) : Int32 := if x < 0 then -1 else if w < nI 0 ∨ nI 4 < w then -1 else if x < g 2 then g (321 + 5 * x.toNatClampNeg + w.toNatClampNeg) else -4
set_option maxRecDepth 100000 in
set_option maxHeartbeats 4000000 in
theorem c_X8_plan (G : zG) {n : Nat} {T : zTT} {I : zII} {R : zRR} (m nr nd np st : Nat) (x w : Int32) (hM : z_Mod T R m) (hI : INV nr nd np st (I (m + 1))) : Ct G yX8_plan wsX8_plan (1, 0, 0) [.ref m, .int x, .int w] n T I R (z_ret (some (.int (sp_plan (I (m + 1)) x w))) n T I R) := by
  refine Ct.ofX (M := muX8_plan) (ls := [(0, .ref m), (1, .int x), (2, .int w)]) (by decide +kernel) rfl (by decide) rfl rfl (Nat.le_of_ble_eq_true rfl) ?_
  have hTm := hM.1
  have hnp := hI.2.2.1.2
  obtain ⟨-, ⟨hTs, hRs⟩, -⟩ := id hM
  have bad : sp_plan (I (m + 1)) x w = -1 → z_X G muX8_plan (1, 0, 0) (z_ret (some (.int (sp_plan (I (m + 1)) x w))) n T I R) n T I R 0 0 13 [(0, .ref m), (1, .int x), (2, .int w)] [] := by
    intro hb
    rw [hb]
    refine z_iconst (q := 14) (v := (-1)) dX8_plan_13 (by rfl) rfl ?_
    exact z_iret rfl dX8_plan_14 (Nat.zero_le _) (Nat.zero_le _) ⟨rfl, rfl, rfl, rfl, rfl⟩
  refine z_iload_n (q := 1) dX8_plan_0 rfl rfl rfl ?_
  refine z_if_lt (tgt := 13) (q := 4) dX8_plan_1 (by decide) rfl (fun h1 => ?_) (fun h1 => ?_)
  · exact bad (by rw [sp_plan, if_pos h1])
  refine z_iload_n (q := 5) dX8_plan_4 rfl rfl rfl ?_
  refine z_iconst (q := 6) (v := nI 0) dX8_plan_5 (by rfl) rfl ?_
  refine z_iconst (q := 7) (v := nI 4) dX8_plan_6 (by rfl) rfl ?_
  refine z_invS (q := 10) (c_X8_in G w (nI 0) (nI 4)) gX8_plan_X8_in rfl hy_X8_in rfl rfl rfl rfl (Nat.le_of_ble_eq_true rfl) ⟨Nat.zero_le _, Nat.zero_le _⟩ dX8_plan_7 rfl (z_rv ?_)
  by_cases hz : w < nI 0 ∨ nI 4 < w
  · rw [if_pos hz]
    refine z_if_ne (tgt := 15) (q := 13) dX8_plan_10 (by decide) rfl (fun hc => False.elim (hc rfl)) (fun _ => ?_)
    exact bad (by rw [sp_plan, if_neg h1, if_pos hz])
  rw [if_neg hz]
  refine z_if_ne (tgt := 15) (q := 13) dX8_plan_10 (by decide) rfl (fun _ => ?_) (fun hc => False.elim (absurd hc (by decide)))
  refine z_iload_n (q := 16) dX8_plan_15 rfl rfl rfl ?_
  refine z_aload_n (q := 17) dX8_plan_16 rfl rfl rfl ?_
  refine z_getR (q := 20) 8 0 1 9 rfl (by decide) rfl rfl rfl (by with_reducible assumption) (by with_reducible assumption) dX8_plan_17 rfl ?_
  refine z_iconst (q := 21) (v := nI 2) dX8_plan_20 (by rfl) rfl ?_
  refine z_iald (q := 22) _ (by with_reducible assumption) (rfl) (by omega) (by decide) dX8_plan_21 rfl ?_
  refine z_icmp_ge (tgt := 37) (q := 25) dX8_plan_22 (by decide) rfl (fun h22 => ?_) (fun h22 => ?_)
  · refine z_bipush (q := 39) (v := (-4)) dX8_plan_37 (by rfl) rfl ?_
    exact z_iret rfl dX8_plan_39 (Nat.zero_le _) (Nat.zero_le _) (⟨by rw [sp_plan, if_neg h1, if_neg hz, if_neg (Int32.not_lt.mpr h22)], rfl, rfl, rfl, rfl⟩)
  · obtain ⟨r, hr, rfl⟩ := z_ix hI.2.2.1.1 (by omega) (fun q => q.elim h1 h22)
    obtain ⟨k, -, hk, rfl⟩ := z_ix2 (by decide) (by decide) hz
    refine z_aload_n (q := 26) dX8_plan_25 rfl rfl rfl ?_
    refine z_getR (q := 29) 8 0 1 9 rfl (by decide) rfl rfl rfl (by with_reducible assumption) (by with_reducible assumption) dX8_plan_26 rfl ?_
    refine z_iload_n (q := 30) dX8_plan_29 rfl rfl rfl ?_
    refine z_iload_n (q := 31) dX8_plan_30 rfl rfl rfl ?_
    refine z_invS (q := 34) (c_X8_entry G (m + 1) r k hTs (by omega)) gX8_plan_X8_entry rfl hy_X8_entry rfl rfl rfl rfl (Nat.le_of_ble_eq_true rfl) ⟨Nat.zero_le _, Nat.zero_le _⟩ dX8_plan_31 rfl (z_rv ?_)
    refine z_goto (q := 39) dX8_plan_34 (by decide) ?_
    exact z_iret rfl dX8_plan_39 (Nat.zero_le _) (Nat.zero_le _) (⟨by rw [sp_plan, if_neg h1, if_neg hz, if_pos (Int32.not_le.mp h22), nI_clamp (by omega), nI_clamp (by omega)], rfl, rfl, rfl, rfl⟩)

