/-! THE CLASS, what changes it, more -/
set_option maxRecDepth 100000 in
set_option maxHeartbeats 4000000 in
theorem c_X7_door (G : zG) {n : Nat} {T : zTT} {I : zII} {R : zRR} (x pc y : Nat) (g tx : Nat → Int32) (p : Nat → Nat → Int32) (hS : z_St T R I x g p pc tx y) (v w ar sp de : Int32) : Ct G yX7_door wsX7_door (4, 0, 0) [.ref x, .int v, .int w, .int ar, .int sp, .int de] n T I R (z_rel (some (.int (sp_door g v w ar sp de).1)) n T (fun I' R' => z_nx T R' I' x g p pc tx y (sp_door g v w ar sp de).2 ∧ z_fx x I I' R R')) := by
  refine Ct.ofX (M := muX7_door) (ls := [(0, .ref x), (1, .int v), (2, .int w), (3, .int ar), (4, .int sp), (5, .int de)]) (by decide +kernel) rfl (by decide) rfl rfl (Nat.le_of_ble_eq_true rfl) ?_
  have hR := hS.1
  obtain ⟨hTx, hRh, hRa, hRi, hRs, hRt, hTt, hSc⟩ := id hR
  obtain ⟨st, hHs, hst, htl⟩ := id hS.2.1
  obtain ⟨hH, nr, nd, np, F, hI, hG, hP, hF⟩ := id hHs
  have hTh := hH.1
  have hRp := hH.2.2.2.1
  have hTp := hP.1.1
  have hnr := hI.1.2
  have hnd := hI.2.1.2
  have hnp := hI.2.2.1.2
  have c0 : I (x + 1) 4 = nI nr := by rw [(HR_sc hG).1]; exact hI.1.1
  have c1 : I (x + 1) 5 = nI nd := by rw [(HR_sc hG).2.1]; exact hI.2.1.1
  have c3 : I (x + 1) 6 = nI st := by rw [(HR_sc hG).2.2.1]; exact hI.2.2.2.1
  have cs2 : I (x + 1 + 3) 1 = nI np := hP.2.2.2.1
  have h0e : g 0 = nI nr := hI.1.1
  have h1e : g 1 = nI nd := hI.2.1.1
  have h2e : g 2 = nI np := hI.2.2.1.1
  have h3e : g 3 = nI st := hI.2.2.2.1
  have hTi := hS.2.2.2.1.1
  have bad : sp_door g v w ar sp de = (-1, none) → ∀ ls : List (Nat × Value), z_X G muX7_door (4, 0, 0) (z_rel (some (.int (sp_door g v w ar sp de).1)) n T (fun I' R' => z_nx T R' I' x g p pc tx y (sp_door g v w ar sp de).2 ∧ z_fx x I I' R R')) n T I R 0 0 56 ls [] := by
    intro hb ls
    rw [hb]
    refine z_iconst (q := 57) (v := (-1)) dX7_door_56 (by rfl) rfl ?_
    exact z_iret rfl dX7_door_57 (Nat.zero_le _) (Nat.zero_le _) (⟨rfl, rfl, rfl, hS, fun _ _ => ⟨rfl, rfl⟩⟩)
  have bad2 : sp_door g v w ar sp de = (-2, none) → ∀ ls : List (Nat × Value), z_X G muX7_door (4, 0, 0) (z_rel (some (.int (sp_door g v w ar sp de).1)) n T (fun I' R' => z_nx T R' I' x g p pc tx y (sp_door g v w ar sp de).2 ∧ z_fx x I I' R R')) n T I R 0 0 82 ls [] := by
    intro hb ls
    rw [hb]
    refine z_bipush (q := 84) (v := (-2)) dX7_door_82 (by rfl) rfl ?_
    exact z_iret rfl dX7_door_84 (Nat.zero_le _) (Nat.zero_le _) (⟨rfl, rfl, rfl, hS, fun _ _ => ⟨rfl, rfl⟩⟩)
  have bad3 : sp_door g v w ar sp de = (-3, none) → ∀ ls : List (Nat × Value), z_X G muX7_door (4, 0, 0) (z_rel (some (.int (sp_door g v w ar sp de).1)) n T (fun I' R' => z_nx T R' I' x g p pc tx y (sp_door g v w ar sp de).2 ∧ z_fx x I I' R R')) n T I R 0 0 97 ls [] := by
    intro hb ls
    rw [hb]
    refine z_bipush (q := 99) (v := (-3)) dX7_door_97 (by rfl) rfl ?_
    exact z_iret rfl dX7_door_99 (Nat.zero_le _) (Nat.zero_le _) (⟨rfl, rfl, rfl, hS, fun _ _ => ⟨rfl, rfl⟩⟩)
  have hgd : gN g 1 = nd := gN_of h1e (by omega)
  by_cases hx : v < 0 ∨ nI nr ≤ v
  · refine z_aload_n (q := 1) dX7_door_0 rfl rfl rfl ?_
    refine z_getR (q := 4) 7 0 1 110 rfl (by decide) rfl rfl rfl (by with_reducible assumption) (by with_reducible assumption) dX7_door_1 rfl ?_
    refine z_iload_n (q := 5) dX7_door_4 rfl rfl rfl ?_
    refine z_invV (q := 8) (c_X3_roomAt_n G (x + 1) nr v hH c0 hx) (by with_reducible assumption) rfl gX7_door_X3_roomAt rfl hy_X3_roomAt rfl rfl rfl rfl (Nat.le_of_ble_eq_true rfl) ⟨Nat.zero_le _, Nat.zero_le _⟩ dX7_door_5 rfl (z_rv ?_)
    refine z_ifnullN (q := 56) dX7_door_8 (by decide) ?_
    exact bad (by rw [sp_door, if_pos (by rw [h0e]; exact hx)]) _
  obtain ⟨a, han, rfl⟩ : ∃ k, k < nr ∧ v = nI k := by
    rcases pk_ix v (n := nr) (by omega) with z | z | z
    · exact absurd (Or.inl z) hx
    · exact absurd (Or.inr z) hx
    · exact z
  have hvg : ¬ (nI a < 0 ∨ g 0 ≤ nI a) := by rw [h0e]; exact hx
  refine z_aload_n (q := 1) dX7_door_0 rfl rfl rfl ?_
  refine z_getR (q := 4) 7 0 1 110 rfl (by decide) rfl rfl rfl (by with_reducible assumption) (by with_reducible assumption) dX7_door_1 rfl ?_
  refine z_iload_n (q := 5) dX7_door_4 rfl rfl rfl ?_
  refine z_invV (q := 8) (c_X3_roomAt_s G (x + 1) a nr hH c0 han hnr) (by with_reducible assumption) rfl gX7_door_X3_roomAt rfl hy_X3_roomAt rfl rfl rfl rfl (Nat.le_of_ble_eq_true rfl) ⟨Nat.zero_le _, Nat.zero_le _⟩ dX7_door_5 rfl (z_rv ?_)
  refine z_ifnull (q := 11) dX7_door_8 rfl ?_
  refine z_aload_n (q := 12) dX7_door_11 rfl rfl rfl ?_
  refine z_iload_n (q := 13) dX7_door_12 rfl rfl rfl ?_
  refine z_invV (q := 16) (c_X7_isRoomOrOutside G x nr w hR hH c0 hnr) (by with_reducible assumption) rfl gX7_door_X7_isRoomOrOutside rfl hy_X7_isRoomOrOutside rfl rfl rfl rfl (Nat.le_of_ble_eq_true rfl) ⟨Nat.zero_le _, Nat.zero_le _⟩ dX7_door_13 rfl (z_rv ?_)
  by_cases hw : (w < 0 ∨ nI nr ≤ w) ∧ ¬ w = nI 8
  · rw [if_pos hw]
    refine z_if_eq (tgt := 56) (q := 19) dX7_door_16 (by decide) rfl (fun _ => ?_) (fun hc => False.elim (hc rfl))
    exact bad (by rw [sp_door, if_neg hvg, if_pos (by rw [h0e]; exact hw)]) _
  have hwg : ¬ ((w < 0 ∨ g 0 ≤ w) ∧ ¬ w = nI 8) := by rw [h0e]; exact hw
  rw [if_neg hw]
  refine z_if_eq (tgt := 56) (q := 19) dX7_door_16 (by decide) rfl (fun hc => False.elim (z_01 hc)) (fun _ => ?_)
  obtain ⟨b, hb9, hbn, rfl⟩ : ∃ k, k ≤ 8 ∧ (k < nr ∨ k = 8) ∧ w = nI k := by
    by_cases h8 : w = nI 8
    · exact ⟨8, by decide, Or.inr rfl, h8⟩
    · have hx2 : ¬ (w < 0 ∨ nI nr ≤ w) := fun z => hw ⟨z, h8⟩
      rcases pk_ix w (n := nr) (by omega) with z | z | z
      · exact absurd (Or.inl z) hx2
      · exact absurd (Or.inr z) hx2
      · obtain ⟨k, k1, k2⟩ := z
        exact ⟨k, by omega, Or.inl k1, k2⟩
  refine z_iload_n (q := 20) dX7_door_19 rfl rfl rfl ?_
  refine z_iload_n (q := 21) dX7_door_20 rfl rfl rfl ?_
  refine z_icmpn_eq (rfl) (rfl) (by omega) (by omega) (tgt := 56) (q := 24) dX7_door_21 (by decide) rfl (fun hab => ?_) (fun hab => ?_)
  · exact bad (by rw [sp_door, if_neg hvg, if_neg hwg, if_pos (by rw [hab])]) _
  have habg : ¬ nI a = nI b := fun z => hab ((nI_eq (by omega) (by omega)).mp z)
  refine z_iload_n (q := 25) dX7_door_24 rfl rfl rfl ?_
  refine z_iconst (q := 26) (v := nI 1) dX7_door_25 (by rfl) rfl ?_
  refine z_sipush (q := 29) (v := nI 1000) dX7_door_26 (by rfl) rfl ?_
  refine z_invS (q := 32) (c_X7_isWithin G ar (nI 1) (nI 1000)) gX7_door_X7_isWithin rfl hy_X7_isWithin rfl rfl rfl rfl (Nat.le_of_ble_eq_true rfl) ⟨Nat.zero_le _, Nat.zero_le _⟩ dX7_door_29 rfl (z_rv ?_)
  by_cases har : ar < nI 1 ∨ nI 1000 < ar
  · rw [if_pos har]
    refine z_if_eq (tgt := 56) (q := 35) dX7_door_32 (by decide) rfl (fun _ => ?_) (fun hc => False.elim (hc rfl))
    exact bad (by rw [sp_door, if_neg hvg, if_neg hwg, if_neg habg, if_pos har]) _
  rw [if_neg har]
  refine z_if_eq (tgt := 56) (q := 35) dX7_door_32 (by decide) rfl (fun hc => False.elim (absurd hc (by decide))) (fun _ => ?_)
  refine z_iload (q := 37) (i := 4) dX7_door_35 rfl rfl ?_
  refine z_iconst (q := 38) (v := nI 1) dX7_door_37 (by rfl) rfl ?_
  refine z_bipush (q := 40) (v := nI 10) dX7_door_38 (by rfl) rfl ?_
  refine z_invS (q := 43) (c_X7_isWithin G sp (nI 1) (nI 10)) gX7_door_X7_isWithin rfl hy_X7_isWithin rfl rfl rfl rfl (Nat.le_of_ble_eq_true rfl) ⟨Nat.zero_le _, Nat.zero_le _⟩ dX7_door_40 rfl (z_rv ?_)
  by_cases hsp : sp < nI 1 ∨ nI 10 < sp
  · rw [if_pos hsp]
    refine z_if_eq (tgt := 56) (q := 46) dX7_door_43 (by decide) rfl (fun _ => ?_) (fun hc => False.elim (hc rfl))
    exact bad (by rw [sp_door, if_neg hvg, if_neg hwg, if_neg habg, if_neg har, if_pos hsp]) _
  rw [if_neg hsp]
  refine z_if_eq (tgt := 56) (q := 46) dX7_door_43 (by decide) rfl (fun hc => False.elim (absurd hc (by decide))) (fun _ => ?_)
  refine z_iload (q := 48) (i := 5) dX7_door_46 rfl rfl ?_
  refine z_iconst (q := 49) (v := nI 0) dX7_door_48 (by rfl) rfl ?_
  refine z_iconst (q := 50) (v := nI 5) dX7_door_49 (by rfl) rfl ?_
  refine z_invS (q := 53) (c_X7_isWithin G de (nI 0) (nI 5)) gX7_door_X7_isWithin rfl hy_X7_isWithin rfl rfl rfl rfl (Nat.le_of_ble_eq_true rfl) ⟨Nat.zero_le _, Nat.zero_le _⟩ dX7_door_50 rfl (z_rv ?_)
  by_cases hde : de < nI 0 ∨ nI 5 < de
  · rw [if_pos hde]
    refine z_if_ne (tgt := 58) (q := 56) dX7_door_53 (by decide) rfl (fun hc => False.elim (hc rfl)) (fun _ => ?_)
    exact bad (by rw [sp_door, if_neg hvg, if_neg hwg, if_neg habg, if_neg har, if_neg hsp, if_pos hde]) _
  rw [if_neg hde]
  refine z_if_ne (tgt := 58) (q := 56) dX7_door_53 (by decide) rfl (fun _ => ?_) (fun hc => False.elim (absurd hc (by decide)))
  obtain ⟨arn, ar1, ar2, rfl⟩ := z_ix2 (by decide) (by decide) har
  obtain ⟨spn, sp1, sp2, rfl⟩ := z_ix2 (by decide) (by decide) hsp
  obtain ⟨den, -, de2, rfl⟩ := z_ix2 (by decide) (by decide) hde
  have e : sp_door g (nI a) (nI b) (nI arn) (nI spn) (nI den) = doorP g a b (nI arn) (nI spn) (nI den) := by rw [sp_door, if_neg hvg, if_neg hwg, if_neg habg, if_neg har, if_neg hsp, if_neg hde, nI_clamp (by omega), nI_clamp (by omega)]
  rw [e] at bad2 bad3 ⊢
  have wall : ∀ k, k < nr → ((I (x + 1 + 22 + 2 * k) 0 < nI arn + sumI (fun d => arC I (x + 1) (nI k) d) 12) ↔ ¬ spcG g k (nI arn)) := fun k hk => by
    rw [areas_eq hG hI, HR_room hG (by omega) (by decide), spcG, hgd, Int32.add_comm]
    exact ⟨fun z y => y.elim (fun q => by omega) (fun q => q z), fun z => Classical.byContradiction (fun q => z (Or.inr q))⟩
  refine z_aload_n (q := 59) dX7_door_58 rfl rfl rfl ?_
  refine z_getR (q := 62) 7 0 1 110 rfl (by decide) rfl rfl rfl (by with_reducible assumption) (by with_reducible assumption) dX7_door_59 rfl ?_
  refine z_iload_n (q := 63) dX7_door_62 rfl rfl rfl ?_
  refine z_iload_n (q := 64) dX7_door_63 rfl rfl rfl ?_
  refine z_invV (q := 67) (c_X3_hasWallFor_s G (x + 1) a nr (nI arn) hH c0 han hnr) (by with_reducible assumption) rfl gX7_door_X3_hasWallFor rfl hy_X3_hasWallFor rfl rfl rfl rfl (Nat.le_of_ble_eq_true rfl) ⟨Nat.zero_le _, Nat.zero_le _⟩ dX7_door_64 rfl (z_rv ?_)
  by_cases hw1 : I (x + 1 + 22 + 2 * a) 0 < nI arn + sumI (fun d => arC I (x + 1) (nI a) d) 12
  · rw [if_pos hw1]
    refine z_if_eq (tgt := 82) (q := 70) dX7_door_67 (by decide) rfl (fun _ => ?_) (fun hc => False.elim (hc rfl))
    exact bad2 (by rw [doorP, if_pos ((wall a han).mp hw1)]) _
  rw [if_neg hw1]
  refine z_if_eq (tgt := 82) (q := 70) dX7_door_67 (by decide) rfl (fun hc => False.elim (z_01 hc)) (fun _ => ?_)
  have s1 : ¬ ¬ spcG g a (nI arn) := fun z => hw1 ((wall a han).mpr z)
  have go : ¬ ¬ spcG g b (nI arn) → ∀ ls : List (Nat × Value), lv_pick ls [0, 1, 2, 3, 4, 5] = [(0, .ref x), (1, .int (nI a)), (2, .int (nI b)), (3, .int (nI arn)), (4, .int (nI spn)), (5, .int (nI den))] → z_X G muX7_door (4, 0, 0) (z_rel (some (.int (doorP g a b (nI arn) (nI spn) (nI den)).1)) n T (fun I' R' => z_nx T R' I' x g p pc tx y (doorP g a b (nI arn) (nI spn) (nI den)).2 ∧ z_fx x I I' R R')) n T I R 0 0 85 ls [] := by
    intro s2 ls hls
    refine z_pick [0, 1, 2, 3, 4, 5] hls ?_
    refine z_aload_n (q := 86) dX7_door_85 rfl rfl rfl ?_
    refine z_getR (q := 89) 7 0 1 110 rfl (by decide) rfl rfl rfl (by with_reducible assumption) (by with_reducible assumption) dX7_door_86 rfl ?_
    refine z_getV (q := 92) 3 5 2 120 rfl (by decide) rfl rfl rfl (by with_reducible assumption) (c1) dX7_door_89 rfl ?_
    refine z_bipush (q := 94) (v := nI 12) dX7_door_92 (by rfl) rfl ?_
    refine z_icmpn_lt (rfl) (rfl) (by omega) (by omega) (tgt := 100) (q := 97) dX7_door_94 (by decide) rfl (fun h94 => ?_) (fun h94 => ?_)
    rotate_left
    · exact bad3 (by rw [doorP, if_neg s1, if_neg s2, if_pos (by rw [hgd]; omega)]) _
    rw [doorP, if_neg s1, if_neg s2, if_neg (by rw [hgd]; omega), hgd, h1e]
    refine z_aload_n (q := 101) dX7_door_100 rfl rfl rfl ?_
    refine z_getR (q := 104) 7 2 3 112 rfl (by decide) rfl rfl rfl (by with_reducible assumption) (by with_reducible assumption) dX7_door_101 rfl ?_
    refine z_aload_n (q := 105) dX7_door_104 rfl rfl rfl ?_
    refine z_getR (q := 108) 7 0 1 110 rfl (by decide) rfl rfl rfl (by with_reducible assumption) (by with_reducible assumption) dX7_door_105 rfl ?_
    refine z_invV (q := 111) (rec_h G x pc y g tx p hS) (by with_reducible assumption) rfl gX7_door_X2_record rfl hy_X2_record rfl rfl rfl rfl (Nat.le_of_ble_eq_true rfl) ⟨Nat.zero_le _, Nat.zero_le _⟩ dX7_door_108 rfl (z_rnR fun I2 R2 hZ2 => ?_)
    obtain ⟨hS2, f2⟩ := hZ2
    have hHs2 : z_Hs T R2 I2 (x + 1) st g := z_Hs_f hHs (fun q _ _ => (f2 q (by omega)).1) (fun q _ _ => (f2 q (by omega)).2)
    obtain ⟨F2, hH2, hG2, hP2, hF2, d0, d1⟩ := Hs_inv hHs2 hI
    have hTp2 := hP2.1.1
    have hRp2 := hH2.2.2.2.1
    have ps2 : I2 (x + 1 + 3) 1 = nI np := hP2.2.2.2.1
    have hRh2 : R2 x 0 = some (x + 1) := by rw [(f2 x (by omega)).2]; exact hRh
    have hRt2 : R2 x 4 = some (x + 594) := by rw [(f2 x (by omega)).2]; exact hRt
    have hRs2 : R2 x 3 = some (x + 591) := by rw [(f2 x (by omega)).2]; exact hRs
    have hfx : ∀ I3 R3, (∀ q, q < x + 1 ∨ x + 99 ≤ q → I3 q = I2 q ∧ R3 q = R2 q) → z_fx x I I3 R R3 := fun I3 R3 f3 q hq => ⟨(f3 q (by omega)).1.trans (f2 q (by omega)).1, (f3 q (by omega)).2.trans (f2 q (by omega)).2⟩
    refine z_aload_n (q := 112) dX7_door_111 rfl rfl rfl ?_
    refine z_getR (q := 115) 7 0 1 110 rfl (by decide) rfl rfl rfl (by with_reducible assumption) (by with_reducible assumption) dX7_door_112 rfl ?_
    refine z_iload_n (q := 116) dX7_door_115 rfl rfl rfl ?_
    refine z_iload_n (q := 117) dX7_door_116 rfl rfl rfl ?_
    refine z_iload_n (q := 118) dX7_door_117 rfl rfl rfl ?_
    refine z_iload (q := 120) (i := 4) dX7_door_118 rfl rfl ?_
    refine z_iload (q := 122) (i := 5) dX7_door_120 rfl rfl ?_
    refine z_invV (q := 125) (c_X3_addDoor G (x + 1) nd (nI a) (nI b) (nI arn) (nI spn) (nI den) hH2 d1 h94) (by with_reducible assumption) rfl gX7_door_X3_addDoor rfl hy_X3_addDoor rfl rfl rfl rfl (Nat.le_of_ble_eq_true rfl) ⟨Nat.zero_le _, Nat.zero_le _⟩ dX7_door_122 rfl (z_rv ?_)
    have hG3 := HRw_1 (HRw_door (HRw_door (HRw_door (HRw_side (HRw_side hG2 (nI a) h94 (w := 0) (by decide)) (nI b) h94 (w := 1) (by decide)) (nI arn) h94 (w := 1) (by decide) (by decide)) (nI spn) h94 (w := 2) (by decide) (by decide)) (nI den) h94 (w := 3) (by decide) (by decide)) (nI (nd + 1))
    have hf3 : ∀ q, q ≠ x + 1 → q ≠ x + 1 + 38 + 5 * nd → q ≠ x + 1 + 38 + 5 * nd + 1 → zw (zw (zw (zw (zw (zw I2 (x + 1 + 38 + 5 * nd + 1) 0 (nI a)) (x + 1 + 38 + 5 * nd + 1) 1 (nI b)) (x + 1 + 38 + 5 * nd) 1 (nI arn)) (x + 1 + 38 + 5 * nd) 2 (nI spn)) (x + 1 + 38 + 5 * nd) 3 (nI den)) (x + 1) 5 (nI (nd + 1)) q = I2 q := fun q q1 q2 q3 => by rw [zw_row _ _ q1, zw_row _ _ q2, zw_row _ _ q2, zw_row _ _ q2, zw_row _ _ q3, zw_row _ _ q3]
    generalize zw (zw (zw (zw (zw (zw I2 (x + 1 + 38 + 5 * nd + 1) 0 (nI a)) (x + 1 + 38 + 5 * nd + 1) 1 (nI b)) (x + 1 + 38 + 5 * nd) 1 (nI arn)) (x + 1 + 38 + 5 * nd) 2 (nI spn)) (x + 1 + 38 + 5 * nd) 3 (nI den)) (x + 1) 5 (nI (nd + 1)) = I3 at hG3 hf3 ⊢
    have f3 : ∀ q, q < x + 1 ∨ x + 99 ≤ q → I3 q = I2 q ∧ R2 q = R2 q := fun q hq => ⟨hf3 q (by omega) (by omega) (by omega), rfl⟩
    have ho := doorG_e hI h94 (nI a) (nI b) (nI arn) (nI spn) (nI den)
    exact z_iret rfl dX7_door_125 (Nat.zero_le _) (Nat.zero_le _) (⟨rfl, rfl, rfl, St_house hS2 (Hb_mk hI hH2 (INV_newdoor hI h94 han hbn hab ⟨ar1, ar2⟩ ⟨sp1, sp2⟩ de2) (HR_g hG3 (fun c _ _ => ho c)) (z_P_f hP2 (fun q q1 q2 => hf3 q (by omega) (by omega) (by omega)) (fun _ _ _ => rfl)) hF2 (fun c c1 c2 => by rw [ho, upd_n _ _ (by omega), upd_n _ _ (by omega), upd_n _ _ (by omega), upd_n _ _ (by omega), upd_n _ _ (by omega), upd_n _ _ (by omega)]) hst (by rw [ho, upd_n _ _ (by omega), upd_n _ _ (by omega), upd_n _ _ (by omega), upd_n _ _ (by omega), upd_n _ _ (by omega), upd_n _ _ (by omega)]) htl) f3, hfx _ _ f3⟩)
  rcases hbn' : (decide (b < nr)) with _ | _
  · have hb8 : b = 8 := by
      rcases hbn with z | z
      · rw [decide_eq_false_iff_not] at hbn'; exact absurd z hbn'
      · exact z
    refine z_aload_n (q := 71) dX7_door_70 rfl rfl rfl ?_
    refine z_getR (q := 74) 7 0 1 110 rfl (by decide) rfl rfl rfl (by with_reducible assumption) (by with_reducible assumption) dX7_door_71 rfl ?_
    refine z_iload_n (q := 75) dX7_door_74 rfl rfl rfl ?_
    refine z_iload_n (q := 76) dX7_door_75 rfl rfl rfl ?_
    refine z_invV (q := 79) (c_X3_hasWallFor_n G (x + 1) nr (nI b) (nI arn) hH c0 (Or.inr ((nI_leI (by omega) (by omega)).mpr (by omega)))) (by with_reducible assumption) rfl gX7_door_X3_hasWallFor rfl hy_X3_hasWallFor rfl rfl rfl rfl (Nat.le_of_ble_eq_true rfl) ⟨Nat.zero_le _, Nat.zero_le _⟩ dX7_door_76 rfl (z_rv ?_)
    refine z_if_ne (tgt := 85) (q := 82) dX7_door_79 (by decide) rfl (fun _ => ?_) (fun hc => False.elim (z_01 hc))
    exact go (fun z => z (Or.inl hb8)) _ rfl
  · have hbn2 : b < nr := of_decide_eq_true hbn'
    refine z_aload_n (q := 71) dX7_door_70 rfl rfl rfl ?_
    refine z_getR (q := 74) 7 0 1 110 rfl (by decide) rfl rfl rfl (by with_reducible assumption) (by with_reducible assumption) dX7_door_71 rfl ?_
    refine z_iload_n (q := 75) dX7_door_74 rfl rfl rfl ?_
    refine z_iload_n (q := 76) dX7_door_75 rfl rfl rfl ?_
    refine z_invV (q := 79) (c_X3_hasWallFor_s G (x + 1) b nr (nI arn) hH c0 hbn2 hnr) (by with_reducible assumption) rfl gX7_door_X3_hasWallFor rfl hy_X3_hasWallFor rfl rfl rfl rfl (Nat.le_of_ble_eq_true rfl) ⟨Nat.zero_le _, Nat.zero_le _⟩ dX7_door_76 rfl (z_rv ?_)
    by_cases hw2 : I (x + 1 + 22 + 2 * b) 0 < nI arn + sumI (fun d => arC I (x + 1) (nI b) d) 12
    · rw [if_pos hw2]
      refine z_if_ne (tgt := 85) (q := 82) dX7_door_79 (by decide) rfl (fun hc => False.elim (hc rfl)) (fun _ => ?_)
      exact bad2 (by rw [doorP, if_neg s1, if_pos ((wall b hbn2).mp hw2)]) _
    · rw [if_neg hw2]
      refine z_if_ne (tgt := 85) (q := 82) dX7_door_79 (by decide) rfl (fun _ => ?_) (fun hc => False.elim (z_01 hc))
      exact go (fun z => hw2 ((wall b hbn2).mpr z)) _ rfl
theorem can_ix {np : Nat} (hnp : np ≤ 16) {v : Int32} : (v < nI 0 ∨ nI np - nI 1 < v) ↔ (v < 0 ∨ nI np ≤ v) := by
  rw [nI_0, Int32.lt_iff_toInt_lt, Int32.lt_iff_toInt_lt, Int32.le_iff_toInt_le, pk_sub_toInt (by omega) (by decide), nI_toInt (by omega)]
  omega
set_option maxRecDepth 100000 in
set_option maxHeartbeats 4000000 in
theorem c_X7_cancel (G : zG) {n : Nat} {T : zTT} {I : zII} {R : zRR} (x pc y : Nat) (g tx : Nat → Int32) (p : Nat → Nat → Int32) (hS : z_St T R I x g p pc tx y) (v : Int32) : Ct G yX7_cancel wsX7_cancel (4, 0, 0) [.ref x, .int v] n T I R (z_rel (some (.int (sp_cancel g v).1)) n T (fun I' R' => z_nx T R' I' x g p pc tx y (sp_cancel g v).2 ∧ z_fx x I I' R R')) := by
  refine Ct.ofX (M := muX7_cancel) (ls := [(0, .ref x), (1, .int v)]) (by decide +kernel) rfl (by decide) rfl rfl (Nat.le_of_ble_eq_true rfl) ?_
  have hR := hS.1
  obtain ⟨hTx, hRh, hRa, hRi, hRs, hRt, hTt, hSc⟩ := id hR
  obtain ⟨st, hHs, hst, htl⟩ := id hS.2.1
  obtain ⟨hH, nr, nd, np, F, hI, hG, hP, hF⟩ := id hHs
  have hTh := hH.1
  have hRp := hH.2.2.2.1
  have hTp := hP.1.1
  have hnr := hI.1.2
  have hnd := hI.2.1.2
  have hnp := hI.2.2.1.2
  have c0 : I (x + 1) 4 = nI nr := by rw [(HR_sc hG).1]; exact hI.1.1
  have c1 : I (x + 1) 5 = nI nd := by rw [(HR_sc hG).2.1]; exact hI.2.1.1
  have c3 : I (x + 1) 6 = nI st := by rw [(HR_sc hG).2.2.1]; exact hI.2.2.2.1
  have cs2 : I (x + 1 + 3) 1 = nI np := hP.2.2.2.1
  have h0e : g 0 = nI nr := hI.1.1
  have h1e : g 1 = nI nd := hI.2.1.1
  have h2e : g 2 = nI np := hI.2.2.1.1
  have h3e : g 3 = nI st := hI.2.2.2.1
  have hTi := hS.2.2.2.1.1
  have bad : sp_cancel g v = (-1, none) → ∀ ls : List (Nat × Value), z_X G muX7_cancel (4, 0, 0) (z_rel (some (.int (sp_cancel g v).1)) n T (fun I' R' => z_nx T R' I' x g p pc tx y (sp_cancel g v).2 ∧ z_fx x I I' R R')) n T I R 0 0 14 ls [] := by
    intro hb ls
    rw [hb]
    refine z_iconst (q := 15) (v := (-1)) dX7_cancel_14 (by rfl) rfl ?_
    exact z_iret rfl dX7_cancel_15 (Nat.zero_le _) (Nat.zero_le _) (⟨rfl, rfl, rfl, hS, fun _ _ => ⟨rfl, rfl⟩⟩)
  have hgp : gN g 2 = np := gN_of h2e (by omega)
  by_cases hx : v < 0 ∨ nI np ≤ v
  · refine z_aload_n (q := 1) dX7_cancel_0 rfl rfl rfl ?_
    refine z_getR (q := 4) 7 0 1 89 rfl (by decide) rfl rfl rfl (by with_reducible assumption) (by with_reducible assumption) dX7_cancel_1 rfl ?_
    refine z_getR (q := 7) 3 2 2 96 rfl (by decide) rfl rfl rfl (by with_reducible assumption) (by with_reducible assumption) dX7_cancel_4 rfl ?_
    refine z_iload_n (q := 8) dX7_cancel_7 rfl rfl rfl ?_
    refine z_invV (q := 11) (c_X4_entryAt_n G (x + 1 + 3) np v F hP hx) (by with_reducible assumption) rfl gX7_cancel_X4_entryAt rfl hy_X4_entryAt rfl rfl rfl rfl (Nat.le_of_ble_eq_true rfl) ⟨Nat.zero_le _, Nat.zero_le _⟩ dX7_cancel_8 rfl (z_rv ?_)
    refine z_ifnonnullN (q := 14) dX7_cancel_11 rfl ?_
    exact bad (by rw [sp_cancel, h2e, if_pos ((can_ix hnp).mpr hx)]) _
  obtain ⟨k, hk, rfl⟩ : ∃ k, k < np ∧ v = nI k := by
    rcases pk_ix v (n := np) (by omega) with z | z | z
    · exact absurd (Or.inl z) hx
    · exact absurd (Or.inr z) hx
    · exact z
  refine z_aload_n (q := 1) dX7_cancel_0 rfl rfl rfl ?_
  refine z_getR (q := 4) 7 0 1 89 rfl (by decide) rfl rfl rfl (by with_reducible assumption) (by with_reducible assumption) dX7_cancel_1 rfl ?_
  refine z_getR (q := 7) 3 2 2 96 rfl (by decide) rfl rfl rfl (by with_reducible assumption) (by with_reducible assumption) dX7_cancel_4 rfl ?_
  refine z_iload_n (q := 8) dX7_cancel_7 rfl rfl rfl ?_
  refine z_invV (q := 11) (c_X4_entryAt_s G (x + 1 + 3) np k F hP hk) (by with_reducible assumption) rfl gX7_cancel_X4_entryAt rfl hy_X4_entryAt rfl rfl rfl rfl (Nat.le_of_ble_eq_true rfl) ⟨Nat.zero_le _, Nat.zero_le _⟩ dX7_cancel_8 rfl (z_rv ?_)
  refine z_ifnonnull (q := 16) dX7_cancel_11 (by decide) ?_
  rw [sp_cancel, h2e, if_neg (fun z => hx ((can_ix hnp).mp z)), nI_clamp (by omega), hgp]
  refine z_aload_n (q := 17) dX7_cancel_16 rfl rfl rfl ?_
  refine z_getR (q := 20) 7 2 3 91 rfl (by decide) rfl rfl rfl (by with_reducible assumption) (by with_reducible assumption) dX7_cancel_17 rfl ?_
  refine z_aload_n (q := 21) dX7_cancel_20 rfl rfl rfl ?_
  refine z_getR (q := 24) 7 0 1 89 rfl (by decide) rfl rfl rfl (by with_reducible assumption) (by with_reducible assumption) dX7_cancel_21 rfl ?_
  refine z_invV (q := 27) (rec_h G x pc y g tx p hS) (by with_reducible assumption) rfl gX7_cancel_X2_record rfl hy_X2_record rfl rfl rfl rfl (Nat.le_of_ble_eq_true rfl) ⟨Nat.zero_le _, Nat.zero_le _⟩ dX7_cancel_24 rfl (z_rnR fun I2 R2 hZ2 => ?_)
  obtain ⟨hS2, f2⟩ := hZ2
  have hHs2 : z_Hs T R2 I2 (x + 1) st g := z_Hs_f hHs (fun q _ _ => (f2 q (by omega)).1) (fun q _ _ => (f2 q (by omega)).2)
  obtain ⟨F2, hH2, hG2, hP2, hF2, d0, d1⟩ := Hs_inv hHs2 hI
  have hTp2 := hP2.1.1
  have hRp2 := hH2.2.2.2.1
  have ps2 : I2 (x + 1 + 3) 1 = nI np := hP2.2.2.2.1
  have hRh2 : R2 x 0 = some (x + 1) := by rw [(f2 x (by omega)).2]; exact hRh
  have hRt2 : R2 x 4 = some (x + 594) := by rw [(f2 x (by omega)).2]; exact hRt
  have hRs2 : R2 x 3 = some (x + 591) := by rw [(f2 x (by omega)).2]; exact hRs
  have hfx : ∀ I3 R3, (∀ q, q < x + 1 ∨ x + 99 ≤ q → I3 q = I2 q ∧ R3 q = R2 q) → z_fx x I I3 R R3 := fun I3 R3 f3 q hq => ⟨(f3 q (by omega)).1.trans (f2 q (by omega)).1, (f3 q (by omega)).2.trans (f2 q (by omega)).2⟩
  refine z_aload_n (q := 28) dX7_cancel_27 rfl rfl rfl ?_
  refine z_getR (q := 31) 7 0 1 89 rfl (by decide) rfl rfl rfl (by with_reducible assumption) (by with_reducible assumption) dX7_cancel_28 rfl ?_
  refine z_getR (q := 34) 3 2 2 96 rfl (by decide) rfl rfl rfl (by with_reducible assumption) (by with_reducible assumption) dX7_cancel_31 rfl ?_
  refine z_iload_n (q := 35) dX7_cancel_34 rfl rfl rfl ?_
  refine z_invV (q := 38) (c_X4_drop G (x + 1 + 3) np k F2 hP2 hk) (by with_reducible assumption) rfl gX7_cancel_X4_drop rfl hy_X4_drop rfl rfl rfl rfl (Nat.le_of_ble_eq_true rfl) ⟨Nat.zero_le _, Nat.zero_le _⟩ dX7_cancel_35 rfl (z_rnR fun I3 R3 hZ3 => ?_)
  obtain ⟨hP3, f3', r3⟩ := hZ3
  have hRh3 : R3 x 0 = some (x + 1) := by rw [r3 x (by omega)]; exact hRh2
  have hRp3 : R3 (x + 1) 2 = some (x + 1 + 3) := by rw [r3 (x + 1) (by omega)]; exact hRp2
  have ps3 : I3 (x + 1 + 3) 1 = nI (np - 1) := hP3.2.2.2.1
  have f3 : ∀ q, q < x + 1 ∨ x + 99 ≤ q → I3 q = I2 q ∧ R3 q = R2 q := fun q hq => ⟨f3' q (by omega), r3 q (by omega)⟩
  have hIl := INV_lvs hI hk
  have hpl : pl (dropF F2 k) (np - 1) = planL (lvs g k np) (np - 1) := by rw [pl_drop F2 hk, planL_lvs g hk, hF2]
  have hHb : z_Hb T R3 I3 (x + 1) (lvs g k np) := by
    obtain ⟨v, v1, v2⟩ := htl
    exact ⟨st, ⟨z_House_R hH2 (fun q _ _ h => r3 q h), nr, nd, np - 1, _, hIl, HR_g (HR_f hG2 (fun q q1 q2 q3 => f3' q (by omega))) (fun c c1 c2 => lvs_o g c2.1 c2.2 hnp), hP3, hpl⟩, hst, v, by rw [lvs_o g (by decide) (by omega) hnp]; exact v1, v2⟩
  refine z_aload_n (q := 39) dX7_cancel_38 rfl rfl rfl ?_
  refine z_getR (q := 42) 7 0 1 89 rfl (by decide) rfl rfl rfl (by with_reducible assumption) (by with_reducible assumption) dX7_cancel_39 rfl ?_
  refine z_getR (q := 45) 3 2 2 96 rfl (by decide) rfl rfl rfl (by with_reducible assumption) (by with_reducible assumption) dX7_cancel_42 rfl ?_
  refine z_getV (q := 48) 4 1 4 105 rfl (by decide) rfl rfl rfl (by with_reducible assumption) (ps3) dX7_cancel_45 rfl ?_
  exact z_iret rfl dX7_cancel_48 (Nat.zero_le _) (Nat.zero_le _) (⟨by rw [← zI1, pk_sub (by omega)], rfl, rfl, St_house hS2 hHb f3, hfx _ _ f3⟩)
set_option maxRecDepth 100000 in
set_option maxHeartbeats 4000000 in
theorem c_X7_pass (G : zG) {n : Nat} {T : zTT} {I : zII} {R : zRR} (x pc y : Nat) (g tx : Nat → Int32) (p : Nat → Nat → Int32) (hS : z_St T R I x g p pc tx y) (v : Int32) : Ct G yX7_pass wsX7_pass (5, 0, 0) [.ref x, .int v] n T I R (z_rel (some (.int (sp_pass g v).1)) n T (fun I' R' => z_nx T R' I' x g p pc tx y (sp_pass g v).2 ∧ z_fx x I I' R R')) := by
  refine Ct.ofX (M := muX7_pass) (ls := [(0, .ref x), (1, .int v)]) (by decide +kernel) rfl (by decide) rfl rfl (Nat.le_of_ble_eq_true rfl) ?_
  have hR := hS.1
  obtain ⟨hTx, hRh, hRa, hRi, hRs, hRt, hTt, hSc⟩ := id hR
  obtain ⟨st, hHs, hst, htl⟩ := id hS.2.1
  obtain ⟨hH, nr, nd, np, F, hI, hG, hP, hF⟩ := id hHs
  have hTh := hH.1
  have hRp := hH.2.2.2.1
  have hTp := hP.1.1
  have hnr := hI.1.2
  have hnd := hI.2.1.2
  have hnp := hI.2.2.1.2
  have c0 : I (x + 1) 4 = nI nr := by rw [(HR_sc hG).1]; exact hI.1.1
  have c1 : I (x + 1) 5 = nI nd := by rw [(HR_sc hG).2.1]; exact hI.2.1.1
  have c3 : I (x + 1) 6 = nI st := by rw [(HR_sc hG).2.2.1]; exact hI.2.2.2.1
  have cs2 : I (x + 1 + 3) 1 = nI np := hP.2.2.2.1
  have h0e : g 0 = nI nr := hI.1.1
  have h1e : g 1 = nI nd := hI.2.1.1
  have h2e : g 2 = nI np := hI.2.2.1.1
  have h3e : g 3 = nI st := hI.2.2.2.1
  have hTi := hS.2.2.2.1.1
  have bad : sp_pass g v = (-1, none) → ∀ ls : List (Nat × Value), z_X G muX7_pass (5, 0, 0) (z_rel (some (.int (sp_pass g v).1)) n T (fun I' R' => z_nx T R' I' x g p pc tx y (sp_pass g v).2 ∧ z_fx x I I' R R')) n T I R 0 0 10 ls [] := by
    intro hb ls
    rw [hb]
    refine z_iconst (q := 11) (v := (-1)) dX7_pass_10 (by rfl) rfl ?_
    exact z_iret rfl dX7_pass_11 (Nat.zero_le _) (Nat.zero_le _) (⟨rfl, rfl, rfl, hS, fun _ _ => ⟨rfl, rfl⟩⟩)
  have bad2 : sp_pass g v = (-3, none) → ∀ ls : List (Nat × Value), z_X G muX7_pass (5, 0, 0) (z_rel (some (.int (sp_pass g v).1)) n T (fun I' R' => z_nx T R' I' x g p pc tx y (sp_pass g v).2 ∧ z_fx x I I' R R')) n T I R 0 0 27 ls [] := by
    intro hb ls
    rw [hb]
    refine z_bipush (q := 29) (v := (-3)) dX7_pass_27 (by rfl) rfl ?_
    exact z_iret rfl dX7_pass_29 (Nat.zero_le _) (Nat.zero_le _) (⟨rfl, rfl, rfl, hS, fun _ _ => ⟨rfl, rfl⟩⟩)
  refine z_iload_n (q := 1) dX7_pass_0 rfl rfl rfl ?_
  refine z_iconst (q := 2) (v := nI 1) dX7_pass_1 (by rfl) rfl ?_
  refine z_bipush (q := 4) (v := nI 50) dX7_pass_2 (by rfl) rfl ?_
  refine z_invS (q := 7) (c_X7_isWithin G v (nI 1) (nI 50)) gX7_pass_X7_isWithin rfl hy_X7_isWithin rfl rfl rfl rfl (Nat.le_of_ble_eq_true rfl) ⟨Nat.zero_le _, Nat.zero_le _⟩ dX7_pass_4 rfl (z_rv ?_)
  by_cases hv : v < nI 1 ∨ nI 50 < v
  · rw [if_pos hv]
    refine z_if_ne (tgt := 12) (q := 10) dX7_pass_7 (by decide) rfl (fun hc => False.elim (hc rfl)) (fun _ => ?_)
    exact bad (by rw [sp_pass, if_pos hv]) _
  rw [if_neg hv]
  refine z_if_ne (tgt := 12) (q := 10) dX7_pass_7 (by decide) rfl (fun _ => ?_) (fun hc => False.elim (absurd hc (by decide)))
  obtain ⟨k, hk1, hk50, rfl⟩ := z_ix2 (by decide) (by decide) hv
  refine z_aload_n (q := 13) dX7_pass_12 rfl rfl rfl ?_
  refine z_getR (q := 16) 7 0 1 209 rfl (by decide) rfl rfl rfl (by with_reducible assumption) (by with_reducible assumption) dX7_pass_13 rfl ?_
  refine z_getV (q := 19) 3 6 2 220 rfl (by decide) rfl rfl rfl (by with_reducible assumption) (c3) dX7_pass_16 rfl ?_
  refine z_iload_n (q := 20) dX7_pass_19 rfl rfl rfl ?_
  refine z_iaddE (q := 21) dX7_pass_20 (nI_add _ _) rfl ?_
  refine z_sipush (q := 24) (v := nI 5000) dX7_pass_21 (by rfl) rfl ?_
  refine z_icmpn_le (rfl) (rfl) (by omega) (by omega) (tgt := 30) (q := 27) dX7_pass_24 (by decide) rfl (fun h24 => ?_) (fun h24 => ?_)
  rotate_left
  · exact bad2 (by rw [sp_pass, if_neg hv, if_pos (by rw [h3e, nI_add]; exact nI_lt h24 (by omega))]) _
  rw [sp_pass, if_neg hv, if_neg (by rw [h3e, nI_add]; exact nI_nlt h24 (by omega)), nI_clamp (by omega)]
  refine z_aload_n (q := 31) dX7_pass_30 rfl rfl rfl ?_
  refine z_getR (q := 34) 7 2 3 211 rfl (by decide) rfl rfl rfl (by with_reducible assumption) (by with_reducible assumption) dX7_pass_31 rfl ?_
  refine z_aload_n (q := 35) dX7_pass_34 rfl rfl rfl ?_
  refine z_getR (q := 38) 7 0 1 209 rfl (by decide) rfl rfl rfl (by with_reducible assumption) (by with_reducible assumption) dX7_pass_35 rfl ?_
  refine z_invV (q := 41) (rec_h G x pc y g tx p hS) (by with_reducible assumption) rfl gX7_pass_X2_record rfl hy_X2_record rfl rfl rfl rfl (Nat.le_of_ble_eq_true rfl) ⟨Nat.zero_le _, Nat.zero_le _⟩ dX7_pass_38 rfl (z_rnR fun I2 R2 hZ2 => ?_)
  obtain ⟨hS2, f2⟩ := hZ2
  have hHs2 : z_Hs T R2 I2 (x + 1) st g := z_Hs_f hHs (fun q _ _ => (f2 q (by omega)).1) (fun q _ _ => (f2 q (by omega)).2)
  obtain ⟨F2, hH2, hG2, hP2, hF2, d0, d1⟩ := Hs_inv hHs2 hI
  have hTp2 := hP2.1.1
  have hRp2 := hH2.2.2.2.1
  have ps2 : I2 (x + 1 + 3) 1 = nI np := hP2.2.2.2.1
  have hRh2 : R2 x 0 = some (x + 1) := by rw [(f2 x (by omega)).2]; exact hRh
  have hRt2 : R2 x 4 = some (x + 594) := by rw [(f2 x (by omega)).2]; exact hRt
  have hRs2 : R2 x 3 = some (x + 591) := by rw [(f2 x (by omega)).2]; exact hRs
  have hfx : ∀ I3 R3, (∀ q, q < x + 1 ∨ x + 99 ≤ q → I3 q = I2 q ∧ R3 q = R2 q) → z_fx x I I3 R R3 := fun I3 R3 f3 q hq => ⟨(f3 q (by omega)).1.trans (f2 q (by omega)).1, (f3 q (by omega)).2.trans (f2 q (by omega)).2⟩
  have loop : ∀ c i I3 R3 np3, i + c = k → z_Hs T R3 I3 (x + 1) (st + i) (passN g i) → INV nr nd np3 (st + i) (passN g i) → passN g i 5 = g 5 → (∀ q, q < x + 1 ∨ x + 99 ≤ q → I3 q = I2 q ∧ R3 q = R2 q) → ∀ ls : List (Nat × Value), lv_pick ls [0, 1, 2] = [(0, .ref x), (1, .int (nI k)), (2, .int (nI i))] → z_X G muX7_pass (5, 0, 0) (z_rel (some (.int (passN g k 3, some (passN g k)).1)) n T (fun I' R' => z_nx T R' I' x g p pc tx y (passN g k 3, some (passN g k)).2 ∧ z_fx x I I' R R')) n T I3 R3 0 0 43 ls [] := by
    intro c
    induction c with
    | zero =>
      intro i I3 R3 np3 hi hA3 hI3 h5 f3 ls hls
      have hi : i = k := hi
      subst hi
      obtain ⟨F3, hH3, hG3, hP3, hF3, d03, d13⟩ := Hs_inv hA3 hI3
      have hTh3 := hH3.1
      have hRh3 : R3 x 0 = some (x + 1) := by rw [(f3 x (by omega)).2]; exact hRh2
      refine z_pick [0, 1, 2] hls ?_
      refine z_iload_n (q := 44) dX7_pass_43 rfl rfl rfl ?_
      refine z_iload_n (q := 45) dX7_pass_44 rfl rfl rfl ?_
      refine z_icmpn_ge (rfl) (rfl) (by omega) (by omega) (tgt := 61) (q := 48) dX7_pass_45 (by decide) rfl (fun _ => ?_) (fun hc => absurd hc (by omega))
      refine z_aload_n (q := 62) dX7_pass_61 rfl rfl rfl ?_
      refine z_getR (q := 65) 7 0 1 209 rfl (by decide) rfl rfl rfl (by with_reducible assumption) (by with_reducible assumption) dX7_pass_62 rfl ?_
      refine z_getI (q := 68) 3 6 2 220 rfl (by decide) rfl rfl rfl (by with_reducible assumption) dX7_pass_65 rfl ?_
      obtain ⟨v, v1, v2⟩ := htl
      exact z_iret rfl dX7_pass_68 (Nat.zero_le _) (Nat.zero_le _) (⟨by rw [(HR_sc hG3).2.2.1], rfl, rfl, St_house hS2 ⟨st + i, hA3, h24, v, h5.trans v1, v2⟩ f3, hfx _ _ f3⟩)
    | succ c ih =>
      intro i I3 R3 np3 hi hA3 hI3 h5 f3 ls hls
      have hTh3 := hA3.1.1
      have hRh3 : R3 x 0 = some (x + 1) := by rw [(f3 x (by omega)).2]; exact hRh2
      obtain ⟨np4, hI4⟩ := mStep_INV hI3 (by omega)
      have hp : passN g (i + 1) = mStep (passN g i) := rfl
      refine z_pick [0, 1, 2] hls ?_
      refine z_iload_n (q := 44) dX7_pass_43 rfl rfl rfl ?_
      refine z_iload_n (q := 45) dX7_pass_44 rfl rfl rfl ?_
      refine z_icmpn_ge (rfl) (rfl) (by omega) (by omega) (tgt := 61) (q := 48) dX7_pass_45 (by decide) rfl (fun hc => absurd hc (by omega)) (fun _ => ?_)
      refine z_aload_n (q := 49) dX7_pass_48 rfl rfl rfl ?_
      refine z_getR (q := 52) 7 0 1 209 rfl (by decide) rfl rfl rfl (by with_reducible assumption) (by with_reducible assumption) dX7_pass_49 rfl ?_
      refine z_invV (q := 55) (c_X3_goOn G (x + 1) (st + i) (passN g i) hA3 (by omega)) (by with_reducible assumption) rfl gX7_pass_X3_goOn rfl hy_X3_goOn rfl rfl rfl rfl (Nat.le_of_ble_eq_true rfl) ⟨Nat.zero_le _, Nat.zero_le _⟩ dX7_pass_52 rfl (z_rnR fun I4 R4 hZ4 => ?_)
      obtain ⟨hA4, f4, r4⟩ := hZ4
      refine z_iinc (q := 58) dX7_pass_55 rfl (nI_add _ 1) (by decide) rfl ?_
      refine z_goto (q := 43) dX7_pass_58 (by decide) ?_
      exact ih (i + 1) I4 R4 np4 (by omega) hA4 hI4 (by rw [hp, mStep_5 hI3 (by omega)]; exact h5) (fun q hq => ⟨(f4 q (by omega)).trans (f3 q hq).1, (r4 q (by omega)).trans (f3 q hq).2⟩) _ rfl
  refine z_iconst (q := 42) (v := nI 0) dX7_pass_41 (by rfl) rfl ?_
  refine z_istore_n (q := 43) dX7_pass_42 rfl (by decide) rfl ?_
  exact loop k 0 I2 R2 np (by omega) hHs2 hI rfl (fun _ _ => ⟨rfl, rfl⟩) _ rfl
