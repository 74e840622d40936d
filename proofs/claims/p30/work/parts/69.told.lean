/-! THE CLASS, what is told, and the text -/
set_option maxRecDepth 100000 in
set_option maxHeartbeats 4000000 in
theorem c_X7_sound (G : zG) {n : Nat} {T : zTT} {I : zII} {R : zRR} (x pc y : Nat) (g tx : Nat → Int32) (p : Nat → Nat → Int32) (hS : z_St T R I x g p pc tx y) (v t k e : Int32) : Ct G yX7_sound wsX7_sound (4, 0, 0) [.ref x, .int v, .int t, .int k, .int e] n T I R (z_rel (some (.int (sp_sound g v t k e).1)) n T (fun I' R' => z_nx T R' I' x g p pc tx y (sp_sound g v t k e).2 ∧ z_fx x I I' R R')) := by
  refine Ct.ofX (M := muX7_sound) (ls := [(0, .ref x), (1, .int v), (2, .int t), (3, .int k), (4, .int e)]) (by decide +kernel) rfl (by decide) rfl rfl (Nat.le_of_ble_eq_true rfl) ?_
  have hR := hS.1
  obtain ⟨hTx, hRh, hRa, hRi, hRs, hRt, hTt, hSc⟩ := id hR
  obtain ⟨st, hHs, hst, htl⟩ := id hS.2.1
  obtain ⟨hH, nr, nd, np, F, hI, hG, hP, hF⟩ := id hHs
  have hTh := hH.1
  have hRp := hH.2.2.2.1
  have hTp := hP.1.1
  have hnr := hI.1.2
  have hnd := hI.2.1.2
  have hnp := hI.2.2.1.2
  have c0 : I (x + 1) 4 = nI nr := by rw [(HR_sc hG).1]; exact hI.1.1
  have c1 : I (x + 1) 5 = nI nd := by rw [(HR_sc hG).2.1]; exact hI.2.1.1
  have c3 : I (x + 1) 6 = nI st := by rw [(HR_sc hG).2.2.1]; exact hI.2.2.2.1
  have cs2 : I (x + 1 + 3) 1 = nI np := hP.2.2.2.1
  have h0e : g 0 = nI nr := hI.1.1
  have h1e : g 1 = nI nd := hI.2.1.1
  have h2e : g 2 = nI np := hI.2.2.1.1
  have h3e : g 3 = nI st := hI.2.2.2.1
  have hTi := hS.2.2.2.1.1
  have bad : sp_sound g v t k e = (-1, none) → ∀ ls : List (Nat × Value), z_X G muX7_sound (4, 0, 0) (z_rel (some (.int (sp_sound g v t k e).1)) n T (fun I' R' => z_nx T R' I' x g p pc tx y (sp_sound g v t k e).2 ∧ z_fx x I I' R R')) n T I R 0 0 43 ls [] := by
    intro hb ls
    rw [hb]
    refine z_iconst (q := 44) (v := (-1)) dX7_sound_43 (by rfl) rfl ?_
    exact z_iret rfl dX7_sound_44 (Nat.zero_le _) (Nat.zero_le _) (⟨rfl, rfl, rfl, hS, fun _ _ => ⟨rfl, rfl⟩⟩)
  have bad2 : sp_sound g v t k e = (-2, none) → ∀ ls : List (Nat × Value), z_X G muX7_sound (4, 0, 0) (z_rel (some (.int (sp_sound g v t k e).1)) n T (fun I' R' => z_nx T R' I' x g p pc tx y (sp_sound g v t k e).2 ∧ z_fx x I I' R R')) n T I R 0 0 56 ls [] := by
    intro hb ls
    rw [hb]
    refine z_bipush (q := 58) (v := (-2)) dX7_sound_56 (by rfl) rfl ?_
    exact z_iret rfl dX7_sound_58 (Nat.zero_le _) (Nat.zero_le _) (⟨rfl, rfl, rfl, hS, fun _ _ => ⟨rfl, rfl⟩⟩)
  have hgp : gN g 2 = np := gN_of h2e (by omega)
  obtain ⟨v5, v51, v52⟩ := id htl
  by_cases hx : v < 0 ∨ nI nr ≤ v
  · refine z_aload_n (q := 1) dX7_sound_0 rfl rfl rfl ?_
    refine z_getR (q := 4) 7 0 1 115 rfl (by decide) rfl rfl rfl (by with_reducible assumption) (by with_reducible assumption) dX7_sound_1 rfl ?_
    refine z_iload_n (q := 5) dX7_sound_4 rfl rfl rfl ?_
    refine z_invV (q := 8) (c_X3_roomAt_n G (x + 1) nr v hH c0 hx) (by with_reducible assumption) rfl gX7_sound_X3_roomAt rfl hy_X3_roomAt rfl rfl rfl rfl (Nat.le_of_ble_eq_true rfl) ⟨Nat.zero_le _, Nat.zero_le _⟩ dX7_sound_5 rfl (z_rv ?_)
    refine z_ifnullN (q := 43) dX7_sound_8 (by decide) ?_
    exact bad (by rw [sp_sound, if_pos (by rw [h0e]; exact hx)]) _
  obtain ⟨r, hrn, rfl⟩ : ∃ k, k < nr ∧ v = nI k := by
    rcases pk_ix v (n := nr) (by omega) with z | z | z
    · exact absurd (Or.inl z) hx
    · exact absurd (Or.inr z) hx
    · exact z
  have hvg : ¬ (nI r < 0 ∨ g 0 ≤ nI r) := by rw [h0e]; exact hx
  refine z_aload_n (q := 1) dX7_sound_0 rfl rfl rfl ?_
  refine z_getR (q := 4) 7 0 1 115 rfl (by decide) rfl rfl rfl (by with_reducible assumption) (by with_reducible assumption) dX7_sound_1 rfl ?_
  refine z_iload_n (q := 5) dX7_sound_4 rfl rfl rfl ?_
  refine z_invV (q := 8) (c_X3_roomAt_s G (x + 1) r nr hH c0 hrn hnr) (by with_reducible assumption) rfl gX7_sound_X3_roomAt rfl hy_X3_roomAt rfl rfl rfl rfl (Nat.le_of_ble_eq_true rfl) ⟨Nat.zero_le _, Nat.zero_le _⟩ dX7_sound_5 rfl (z_rv ?_)
  refine z_ifnull (q := 11) dX7_sound_8 rfl ?_
  refine z_iload_n (q := 12) dX7_sound_11 rfl rfl rfl ?_
  refine z_iconst (q := 13) (v := nI 0) dX7_sound_12 (by rfl) rfl ?_
  refine z_sipush (q := 16) (v := nI 5000) dX7_sound_13 (by rfl) rfl ?_
  refine z_invS (q := 19) (c_X7_isWithin G t (nI 0) (nI 5000)) gX7_sound_X7_isWithin rfl hy_X7_isWithin rfl rfl rfl rfl (Nat.le_of_ble_eq_true rfl) ⟨Nat.zero_le _, Nat.zero_le _⟩ dX7_sound_16 rfl (z_rv ?_)
  by_cases ht : t < nI 0 ∨ nI 5000 < t
  · rw [if_pos ht]
    refine z_if_eq (tgt := 43) (q := 22) dX7_sound_19 (by decide) rfl (fun _ => ?_) (fun hc => False.elim (hc rfl))
    exact bad (by rw [sp_sound, if_neg hvg, if_pos ht]) _
  rw [if_neg ht]
  refine z_if_eq (tgt := 43) (q := 22) dX7_sound_19 (by decide) rfl (fun hc => False.elim (absurd hc (by decide))) (fun _ => ?_)
  refine z_iload_n (q := 23) dX7_sound_22 rfl rfl rfl ?_
  refine z_iconst (q := 24) (v := nI 1) dX7_sound_23 (by rfl) rfl ?_
  refine z_bipush (q := 26) (v := nI 20) dX7_sound_24 (by rfl) rfl ?_
  refine z_invS (q := 29) (c_X7_isWithin G k (nI 1) (nI 20)) gX7_sound_X7_isWithin rfl hy_X7_isWithin rfl rfl rfl rfl (Nat.le_of_ble_eq_true rfl) ⟨Nat.zero_le _, Nat.zero_le _⟩ dX7_sound_26 rfl (z_rv ?_)
  by_cases hk : k < nI 1 ∨ nI 20 < k
  · rw [if_pos hk]
    refine z_if_eq (tgt := 43) (q := 32) dX7_sound_29 (by decide) rfl (fun _ => ?_) (fun hc => False.elim (hc rfl))
    exact bad (by rw [sp_sound, if_neg hvg, if_neg ht, if_pos hk]) _
  rw [if_neg hk]
  refine z_if_eq (tgt := 43) (q := 32) dX7_sound_29 (by decide) rfl (fun hc => False.elim (absurd hc (by decide))) (fun _ => ?_)
  refine z_iload (q := 34) (i := 4) dX7_sound_32 rfl rfl ?_
  refine z_iconst (q := 35) (v := nI 1) dX7_sound_34 (by rfl) rfl ?_
  refine z_ldc (q := 37) (i := 2) (v := 1000000) rfl dX7_sound_35 rfl ?_
  refine z_invS (q := 40) (c_X7_isWithin G e (nI 1) 1000000) gX7_sound_X7_isWithin rfl hy_X7_isWithin rfl rfl rfl rfl (Nat.le_of_ble_eq_true rfl) ⟨Nat.zero_le _, Nat.zero_le _⟩ dX7_sound_37 rfl (z_rv ?_)
  by_cases he : e < nI 1 ∨ 1000000 < e
  · rw [if_pos he]
    refine z_if_ne (tgt := 45) (q := 43) dX7_sound_40 (by decide) rfl (fun hc => False.elim (hc rfl)) (fun _ => ?_)
    exact bad (by rw [sp_sound, if_neg hvg, if_neg ht, if_neg hk, if_pos he]) _
  rw [if_neg he]
  refine z_if_ne (tgt := 45) (q := 43) dX7_sound_40 (by decide) rfl (fun _ => ?_) (fun hc => False.elim (absurd hc (by decide)))
  have e0 : sp_sound g (nI r) t k e = soundQ g (nI r) t k e := by rw [sp_sound, if_neg hvg, if_neg ht, if_neg hk, if_neg he]
  rw [e0] at bad2 ⊢
  obtain ⟨tn, -, ht5, rfl⟩ := z_ix2 (by decide) (by decide) ht
  obtain ⟨kn, hk1, hk20, rfl⟩ := z_ix2 (by decide) (by decide) hk
  rw [z_n1m] at he
  obtain ⟨en, he1, he6, rfl⟩ := z_ix2 (by decide) (by decide) he
  have hke : kn * en ≤ 20 * 1000000 := Nat.mul_le_mul hk20 he6
  refine z_iload_n (q := 46) dX7_sound_45 rfl rfl rfl ?_
  refine z_aload_n (q := 47) dX7_sound_46 rfl rfl rfl ?_
  refine z_getR (q := 50) 7 0 1 115 rfl (by decide) rfl rfl rfl (by with_reducible assumption) (by with_reducible assumption) dX7_sound_47 rfl ?_
  refine z_getV (q := 53) 3 6 3 126 rfl (by decide) rfl rfl rfl (by with_reducible assumption) (c3) dX7_sound_50 rfl ?_
  refine z_icmpn_ge (rfl) (rfl) (by omega) (by omega) (tgt := 59) (q := 56) dX7_sound_53 (by decide) rfl (fun h53 => ?_) (fun h53 => ?_)
  rotate_left
  · exact bad2 (by rw [soundQ, if_pos (by rw [h3e]; exact nI_lt h53 (by omega))]) _
  have n3 : ¬ nI tn < g 3 := by rw [h3e]; exact nI_nlt h53 (by omega)
  refine z_aload_n (q := 60) dX7_sound_59 rfl rfl rfl ?_
  refine z_getR (q := 63) 7 4 4 119 rfl (by decide) rfl rfl rfl (by with_reducible assumption) (by with_reducible assumption) dX7_sound_60 rfl ?_
  refine z_iload_n (q := 64) dX7_sound_63 rfl rfl rfl ?_
  refine z_iload_n (q := 65) dX7_sound_64 rfl rfl rfl ?_
  refine z_iload_n (q := 66) dX7_sound_65 rfl rfl rfl ?_
  refine z_iload (q := 68) (i := 4) dX7_sound_66 rfl rfl ?_
  refine z_invV (q := 71) (c_X1_becomeSound G (x + 594) (nI r) (nI tn) (nI kn) (nI en) hTt) (by with_reducible assumption) rfl gX7_sound_X1_becomeSound rfl hy_X1_becomeSound rfl rfl rfl rfl (Nat.le_of_ble_eq_true rfl) ⟨Nat.zero_le _, Nat.zero_le _⟩ dX7_sound_68 rfl (z_rn ?_)
  have hJ : ∀ q, q ≠ x + 594 → (zw (zw (zw (zw (zw I (x + 594) 0 1) (x + 594) 2 (nI r)) (x + 594) 1 (nI tn)) (x + 594) 3 (nI kn)) (x + 594) 4 (nI en)) q = I q := fun q hq => by rw [zw_row _ _ hq, zw_row _ _ hq, zw_row _ _ hq, zw_row _ _ hq, zw_row _ _ hq]
  have j0 : (zw (zw (zw (zw (zw I (x + 594) 0 1) (x + 594) 2 (nI r)) (x + 594) 1 (nI tn)) (x + 594) 3 (nI kn)) (x + 594) 4 (nI en)) (x + 594) 0 = 1 := by simp [zw]
  have j3 : (zw (zw (zw (zw (zw I (x + 594) 0 1) (x + 594) 2 (nI r)) (x + 594) 1 (nI tn)) (x + 594) 3 (nI kn)) (x + 594) 4 (nI en)) (x + 594) 3 = nI kn := by simp [zw]
  have j4 : (zw (zw (zw (zw (zw I (x + 594) 0 1) (x + 594) 2 (nI r)) (x + 594) 1 (nI tn)) (x + 594) 3 (nI kn)) (x + 594) 4 (nI en)) (x + 594) 4 = nI en := by simp [zw]
  have jE : entC (zw (zw (zw (zw (zw I (x + 594) 0 1) (x + 594) 2 (nI r)) (x + 594) 1 (nI tn)) (x + 594) 3 (nI kn)) (x + 594) 4 (nI en)) (x + 594) = (nI tn, nI 0, nI r, nI kn, nI en) := by simp [entC, zw]
  generalize (zw (zw (zw (zw (zw I (x + 594) 0 1) (x + 594) 2 (nI r)) (x + 594) 1 (nI tn)) (x + 594) 3 (nI kn)) (x + 594) 4 (nI en)) = J at hJ j0 j3 j4 jE ⊢
  have hSJ : z_St T R J x g p pc tx y := St_scr hS (by rw [hJ _ (by omega)]) (fun q _ _ h3 => hJ q h3)
  have hHsJ : z_Hs T R J (x + 1) st g := z_Hs_f hHs (fun q _ _ => hJ q (by omega)) (fun _ _ _ => rfl)
  have hPJ : z_P T J R (x + 1 + 3) np F := z_P_f hP (fun q _ _ => hJ q (by omega)) (fun _ _ _ => rfl)
  have v5J : J (x + 1) 8 = nI v5 := by rw [hJ _ (by omega), (HR_sc hG).2.2.2.2.1]; exact v51
  have full : soundQ g (nI r) (nI tn) (nI kn) (nI en) = (-3, none) → ∀ ls : List (Nat × Value), z_X G muX7_sound (4, 0, 0) (z_rel (some (.int (soundQ g (nI r) (nI tn) (nI kn) (nI en)).1)) n T (fun I' R' => z_nx T R' I' x g p pc tx y (soundQ g (nI r) (nI tn) (nI kn) (nI en)).2 ∧ z_fx x I I' R R')) n T J R 0 0 104 ls [] := by
    intro hb ls
    rw [hb]
    refine z_bipush (q := 106) (v := (-3)) dX7_sound_104 (by rfl) rfl ?_
    exact z_iret rfl dX7_sound_106 (Nat.zero_le _) (Nat.zero_le _) (⟨rfl, rfl, rfl, hSJ, fun q hq => ⟨hJ q (by omega), rfl⟩⟩)
  refine z_aload_n (q := 72) dX7_sound_71 rfl rfl rfl ?_
  refine z_getR (q := 75) 7 0 1 115 rfl (by decide) rfl rfl rfl (by with_reducible assumption) (by with_reducible assumption) dX7_sound_72 rfl ?_
  refine z_getR (q := 78) 3 2 5 122 rfl (by decide) rfl rfl rfl (by with_reducible assumption) (by with_reducible assumption) dX7_sound_75 rfl ?_
  refine z_invV (q := 81) (c_X4_isFull G (x + 1 + 3) np F hPJ) (by with_reducible assumption) rfl gX7_sound_X4_isFull rfl hy_X4_isFull rfl rfl rfl rfl (Nat.le_of_ble_eq_true rfl) ⟨Nat.zero_le _, Nat.zero_le _⟩ dX7_sound_78 rfl (z_rv ?_)
  by_cases h16 : np = 16
  · rw [if_pos h16]
    refine z_if_ne (tgt := 104) (q := 84) dX7_sound_81 (by decide) rfl (fun _ => ?_) (fun hc => False.elim (z_01 hc))
    exact full (by rw [soundQ, if_neg n3, if_pos (by rw [hgp]; exact h16)]) _
  rw [if_neg h16]
  refine z_if_ne (tgt := 104) (q := 84) dX7_sound_81 (by decide) rfl (fun hc => False.elim (hc rfl)) (fun _ => ?_)
  refine z_aload_n (q := 85) dX7_sound_84 rfl rfl rfl ?_
  refine z_getR (q := 88) 7 0 1 115 rfl (by decide) rfl rfl rfl (by with_reducible assumption) (by with_reducible assumption) dX7_sound_85 rfl ?_
  refine z_getV (q := 91) 3 8 6 128 rfl (by decide) rfl rfl rfl (by with_reducible assumption) (v5J) dX7_sound_88 rfl ?_
  refine z_aload_n (q := 92) dX7_sound_91 rfl rfl rfl ?_
  refine z_getR (q := 95) 7 4 4 119 rfl (by decide) rfl rfl rfl (by with_reducible assumption) (by with_reducible assumption) dX7_sound_92 rfl ?_
  refine z_invV (q := 98) (c_X1_allEnergy G (x + 594) hTt) (by with_reducible assumption) rfl gX7_sound_X1_allEnergy rfl hy_X1_allEnergy rfl rfl rfl rfl (Nat.le_of_ble_eq_true rfl) ⟨Nat.zero_le _, Nat.zero_le _⟩ dX7_sound_95 rfl (z_rv ?_)
  rw [j0, if_neg z_01, j3, j4, pk_mul]
  refine z_iaddE (q := 99) dX7_sound_98 (nI_add _ _) rfl ?_
  refine z_ldc (q := 101) (i := 7) (v := 1000000000) rfl dX7_sound_99 rfl ?_
  have hsum : g 5 + nI kn * nI en = nI (v5 + kn * en) := by rw [v51, pk_mul, nI_add]
  refine z_icmp_le (tgt := 107) (q := 104) dX7_sound_101 (by decide) rfl (fun h101 => ?_) (fun h101 => ?_)
  rotate_left
  · exact full (by rw [soundQ, if_neg n3, if_neg (by rw [hgp]; exact h16), if_pos (by rw [hsum]; exact Int32.not_le.mp h101)]) _
  have hle : v5 + kn * en ≤ 1000000000 := by
    rw [z_n1g, nI_leI (by omega) (by decide)] at h101
    exact h101
  rw [soundQ, if_neg n3, if_neg (by rw [hgp]; exact h16), if_neg (by rw [hsum]; exact Int32.not_lt.mpr h101), hgp]
  refine z_aload_n (q := 108) dX7_sound_107 rfl rfl rfl ?_
  refine z_getR (q := 111) 7 2 8 117 rfl (by decide) rfl rfl rfl (by with_reducible assumption) (by with_reducible assumption) dX7_sound_108 rfl ?_
  refine z_aload_n (q := 112) dX7_sound_111 rfl rfl rfl ?_
  refine z_getR (q := 115) 7 0 1 115 rfl (by decide) rfl rfl rfl (by with_reducible assumption) (by with_reducible assumption) dX7_sound_112 rfl ?_
  refine z_invV (q := 118) (rec_h G x pc y g tx p hSJ) (by with_reducible assumption) rfl gX7_sound_X2_record rfl hy_X2_record rfl rfl rfl rfl (Nat.le_of_ble_eq_true rfl) ⟨Nat.zero_le _, Nat.zero_le _⟩ dX7_sound_115 rfl (z_rnR fun I2 R2 hZ2 => ?_)
  obtain ⟨hS2, f2⟩ := hZ2
  have hHs2 : z_Hs T R2 I2 (x + 1) st g := z_Hs_f hHsJ (fun q _ _ => (f2 q (by omega)).1) (fun q _ _ => (f2 q (by omega)).2)
  obtain ⟨F2, hH2, hG2, hP2, hF2, d0, d1⟩ := Hs_inv hHs2 hI
  have hTp2 := hP2.1.1
  have hRp2 := hH2.2.2.2.1
  have ps2 : I2 (x + 1 + 3) 1 = nI np := hP2.2.2.2.1
  have hRh2 : R2 x 0 = some (x + 1) := by rw [(f2 x (by omega)).2]; exact hRh
  have hRt2 : R2 x 4 = some (x + 594) := by rw [(f2 x (by omega)).2]; exact hRt
  have hRs2 : R2 x 3 = some (x + 591) := by rw [(f2 x (by omega)).2]; exact hRs
  have hfx : ∀ I3 R3, (∀ q, q < x + 1 ∨ x + 99 ≤ q → I3 q = I2 q ∧ R3 q = R2 q) → z_fx x I I3 R R3 := fun I3 R3 f3 q hq => ⟨(f3 q (by omega)).1.trans ((f2 q (by omega)).1.trans (hJ q (by omega))), (f3 q (by omega)).2.trans (f2 q (by omega)).2⟩
  have b0 : I2 (x + 594) = J (x + 594) := (f2 _ (by omega)).1
  have bE : entC I2 (x + 594) = (nI tn, nI 0, nI r, nI kn, nI en) := by
    rw [← jE]
    unfold entC
    rw [b0]
  have hE : EOK nr nd st (nI tn, nI 0, nI r, nI kn, nI en) := ⟨tn, 0, r, kn, en, rfl, ht5, Or.inl ⟨rfl, hrn, hk1, hk20, by omega, he6⟩⟩
  refine z_aload_n (q := 119) dX7_sound_118 rfl rfl rfl ?_
  refine z_getR (q := 122) 7 0 1 115 rfl (by decide) rfl rfl rfl (by with_reducible assumption) (by with_reducible assumption) dX7_sound_119 rfl ?_
  refine z_aload_n (q := 123) dX7_sound_122 rfl rfl rfl ?_
  refine z_getR (q := 126) 7 4 4 119 rfl (by decide) rfl rfl rfl (by with_reducible assumption) (by with_reducible assumption) dX7_sound_123 rfl ?_
  refine z_invV (q := 129) (take_h G (x + 1) (x + 594) st nr nd np F2 g (nI tn) (nI 0) (nI r) (nI kn) (nI en) hH2 hI hG2 hP2 hF2 (by omega) (by omega) hTt (by rw [b0]; exact Or.inr j0) bE hE) (by with_reducible assumption) rfl gX7_sound_X3_take rfl hy_X3_take rfl rfl rfl rfl (Nat.le_of_ble_eq_true rfl) ⟨Nat.zero_le _, Nat.zero_le _⟩ dX7_sound_126 rfl (z_rnR fun I3 R3 hZ3 => ?_)
  obtain ⟨hA3, hI3, f3', r3⟩ := hZ3
  obtain ⟨F3, hH3, hG3, hP3, hF3, d03, d13⟩ := Hs_inv hA3 hI3
  have hTh3 := hH3.1
  have hTp3 := hP3.1.1
  have hRp3 := hH3.2.2.2.1
  have hRh3 : R3 x 0 = some (x + 1) := by rw [r3 x (by omega)]; exact hRh2
  have ps3 : I3 (x + 1 + 3) 1 = nI (np + 1) := hP3.2.2.2.1
  have f3 : ∀ q, q < x + 1 ∨ x + 99 ≤ q → I3 q = I2 q ∧ R3 q = R2 q := fun q hq => ⟨f3' q (by omega), r3 q (by omega)⟩
  refine z_aload_n (q := 130) dX7_sound_129 rfl rfl rfl ?_
  refine z_getR (q := 133) 7 0 1 115 rfl (by decide) rfl rfl rfl (by with_reducible assumption) (by with_reducible assumption) dX7_sound_130 rfl ?_
  refine z_getR (q := 136) 3 2 5 122 rfl (by decide) rfl rfl rfl (by with_reducible assumption) (by with_reducible assumption) dX7_sound_133 rfl ?_
  refine z_getV (q := 139) 4 1 9 131 rfl (by decide) rfl rfl rfl (by with_reducible assumption) (ps3) dX7_sound_136 rfl ?_
  exact z_iret rfl dX7_sound_139 (Nat.zero_le _) (Nat.zero_le _) (⟨by rw [putG_2 h2e], rfl, rfl, St_house hS2 ⟨st, hA3, hst, v5 + kn * en, by rw [putG_5]; exact hsum, hle⟩ f3, hfx _ _ f3⟩)
set_option maxRecDepth 100000 in
set_option maxHeartbeats 4000000 in
theorem c_X7_planDoor (G : zG) {n : Nat} {T : zTT} {I : zII} {R : zRR} (x pc y : Nat) (g tx : Nat → Int32) (p : Nat → Nat → Int32) (hS : z_St T R I x g p pc tx y) (v t k : Int32) : Ct G yX7_planDoor wsX7_planDoor (4, 0, 0) [.ref x, .int v, .int t, .int k] n T I R (z_rel (some (.int (sp_planDoor g v t k).1)) n T (fun I' R' => z_nx T R' I' x g p pc tx y (sp_planDoor g v t k).2 ∧ z_fx x I I' R R')) := by
  refine Ct.ofX (M := muX7_planDoor) (ls := [(0, .ref x), (1, .int v), (2, .int t), (3, .int k)]) (by decide +kernel) rfl (by decide) rfl rfl (Nat.le_of_ble_eq_true rfl) ?_
  have hR := hS.1
  obtain ⟨hTx, hRh, hRa, hRi, hRs, hRt, hTt, hSc⟩ := id hR
  obtain ⟨st, hHs, hst, htl⟩ := id hS.2.1
  obtain ⟨hH, nr, nd, np, F, hI, hG, hP, hF⟩ := id hHs
  have hTh := hH.1
  have hRp := hH.2.2.2.1
  have hTp := hP.1.1
  have hnr := hI.1.2
  have hnd := hI.2.1.2
  have hnp := hI.2.2.1.2
  have c0 : I (x + 1) 4 = nI nr := by rw [(HR_sc hG).1]; exact hI.1.1
  have c1 : I (x + 1) 5 = nI nd := by rw [(HR_sc hG).2.1]; exact hI.2.1.1
  have c3 : I (x + 1) 6 = nI st := by rw [(HR_sc hG).2.2.1]; exact hI.2.2.2.1
  have cs2 : I (x + 1 + 3) 1 = nI np := hP.2.2.2.1
  have h0e : g 0 = nI nr := hI.1.1
  have h1e : g 1 = nI nd := hI.2.1.1
  have h2e : g 2 = nI np := hI.2.2.1.1
  have h3e : g 3 = nI st := hI.2.2.2.1
  have hTi := hS.2.2.2.1.1
  have bad : sp_planDoor g v t k = (-1, none) → ∀ ls : List (Nat × Value), z_X G muX7_planDoor (4, 0, 0) (z_rel (some (.int (sp_planDoor g v t k).1)) n T (fun I' R' => z_nx T R' I' x g p pc tx y (sp_planDoor g v t k).2 ∧ z_fx x I I' R R')) n T I R 0 0 32 ls [] := by
    intro hb ls
    rw [hb]
    refine z_iconst (q := 33) (v := (-1)) dX7_planDoor_32 (by rfl) rfl ?_
    exact z_iret rfl dX7_planDoor_33 (Nat.zero_le _) (Nat.zero_le _) (⟨rfl, rfl, rfl, hS, fun _ _ => ⟨rfl, rfl⟩⟩)
  have bad2 : sp_planDoor g v t k = (-2, none) → ∀ ls : List (Nat × Value), z_X G muX7_planDoor (4, 0, 0) (z_rel (some (.int (sp_planDoor g v t k).1)) n T (fun I' R' => z_nx T R' I' x g p pc tx y (sp_planDoor g v t k).2 ∧ z_fx x I I' R R')) n T I R 0 0 45 ls [] := by
    intro hb ls
    rw [hb]
    refine z_bipush (q := 47) (v := (-2)) dX7_planDoor_45 (by rfl) rfl ?_
    exact z_iret rfl dX7_planDoor_47 (Nat.zero_le _) (Nat.zero_le _) (⟨rfl, rfl, rfl, hS, fun _ _ => ⟨rfl, rfl⟩⟩)
  have bad3 : sp_planDoor g v t k = (-3, none) → ∀ ls : List (Nat × Value), z_X G muX7_planDoor (4, 0, 0) (z_rel (some (.int (sp_planDoor g v t k).1)) n T (fun I' R' => z_nx T R' I' x g p pc tx y (sp_planDoor g v t k).2 ∧ z_fx x I I' R R')) n T I R 0 0 61 ls [] := by
    intro hb ls
    rw [hb]
    refine z_bipush (q := 63) (v := (-3)) dX7_planDoor_61 (by rfl) rfl ?_
    exact z_iret rfl dX7_planDoor_63 (Nat.zero_le _) (Nat.zero_le _) (⟨rfl, rfl, rfl, hS, fun _ _ => ⟨rfl, rfl⟩⟩)
  have hgp : gN g 2 = np := gN_of h2e (by omega)
  obtain ⟨v5, v51, v52⟩ := id htl
  by_cases hx : v < 0 ∨ nI nd ≤ v
  · refine z_aload_n (q := 1) dX7_planDoor_0 rfl rfl rfl ?_
    refine z_getR (q := 4) 7 0 1 111 rfl (by decide) rfl rfl rfl (by with_reducible assumption) (by with_reducible assumption) dX7_planDoor_1 rfl ?_
    refine z_iload_n (q := 5) dX7_planDoor_4 rfl rfl rfl ?_
    refine z_invV (q := 8) (c_X3_doorAt_n G (x + 1) nd v hH c1 hx) (by with_reducible assumption) rfl gX7_planDoor_X3_doorAt rfl hy_X3_doorAt rfl rfl rfl rfl (Nat.le_of_ble_eq_true rfl) ⟨Nat.zero_le _, Nat.zero_le _⟩ dX7_planDoor_5 rfl (z_rv ?_)
    refine z_ifnullN (q := 32) dX7_planDoor_8 (by decide) ?_
    exact bad (by rw [sp_planDoor, if_pos (by rw [h1e]; exact hx)]) _
  obtain ⟨d, hdn, rfl⟩ : ∃ k, k < nd ∧ v = nI k := by
    rcases pk_ix v (n := nd) (by omega) with z | z | z
    · exact absurd (Or.inl z) hx
    · exact absurd (Or.inr z) hx
    · exact z
  have hvg : ¬ (nI d < 0 ∨ g 1 ≤ nI d) := by rw [h1e]; exact hx
  refine z_aload_n (q := 1) dX7_planDoor_0 rfl rfl rfl ?_
  refine z_getR (q := 4) 7 0 1 111 rfl (by decide) rfl rfl rfl (by with_reducible assumption) (by with_reducible assumption) dX7_planDoor_1 rfl ?_
  refine z_iload_n (q := 5) dX7_planDoor_4 rfl rfl rfl ?_
  refine z_invV (q := 8) (c_X3_doorAt_s G (x + 1) d nd hH c1 hdn hnd) (by with_reducible assumption) rfl gX7_planDoor_X3_doorAt rfl hy_X3_doorAt rfl rfl rfl rfl (Nat.le_of_ble_eq_true rfl) ⟨Nat.zero_le _, Nat.zero_le _⟩ dX7_planDoor_5 rfl (z_rv ?_)
  refine z_ifnull (q := 11) dX7_planDoor_8 rfl ?_
  refine z_iload_n (q := 12) dX7_planDoor_11 rfl rfl rfl ?_
  refine z_iconst (q := 13) (v := nI 0) dX7_planDoor_12 (by rfl) rfl ?_
  refine z_sipush (q := 16) (v := nI 5000) dX7_planDoor_13 (by rfl) rfl ?_
  refine z_invS (q := 19) (c_X7_isWithin G t (nI 0) (nI 5000)) gX7_planDoor_X7_isWithin rfl hy_X7_isWithin rfl rfl rfl rfl (Nat.le_of_ble_eq_true rfl) ⟨Nat.zero_le _, Nat.zero_le _⟩ dX7_planDoor_16 rfl (z_rv ?_)
  by_cases ht : t < nI 0 ∨ nI 5000 < t
  · rw [if_pos ht]
    refine z_if_eq (tgt := 32) (q := 22) dX7_planDoor_19 (by decide) rfl (fun _ => ?_) (fun hc => False.elim (hc rfl))
    exact bad (by rw [sp_planDoor, if_neg hvg, if_pos ht]) _
  rw [if_neg ht]
  refine z_if_eq (tgt := 32) (q := 22) dX7_planDoor_19 (by decide) rfl (fun hc => False.elim (absurd hc (by decide))) (fun _ => ?_)
  refine z_iload_n (q := 23) dX7_planDoor_22 rfl rfl rfl ?_
  refine z_iconst (q := 24) (v := nI 0) dX7_planDoor_23 (by rfl) rfl ?_
  refine z_bipush (q := 26) (v := nI 10) dX7_planDoor_24 (by rfl) rfl ?_
  refine z_invS (q := 29) (c_X7_isWithin G k (nI 0) (nI 10)) gX7_planDoor_X7_isWithin rfl hy_X7_isWithin rfl rfl rfl rfl (Nat.le_of_ble_eq_true rfl) ⟨Nat.zero_le _, Nat.zero_le _⟩ dX7_planDoor_26 rfl (z_rv ?_)
  by_cases hk : k < nI 0 ∨ nI 10 < k
  · rw [if_pos hk]
    refine z_if_ne (tgt := 34) (q := 32) dX7_planDoor_29 (by decide) rfl (fun hc => False.elim (hc rfl)) (fun _ => ?_)
    exact bad (by rw [sp_planDoor, if_neg hvg, if_neg ht, if_pos hk]) _
  rw [if_neg hk]
  refine z_if_ne (tgt := 34) (q := 32) dX7_planDoor_29 (by decide) rfl (fun _ => ?_) (fun hc => False.elim (absurd hc (by decide)))
  have e0 : sp_planDoor g (nI d) t k = targQ g (nI d) t k := by rw [sp_planDoor, if_neg hvg, if_neg ht, if_neg hk]
  rw [e0] at bad2 bad3 ⊢
  obtain ⟨tn, -, ht5, rfl⟩ := z_ix2 (by decide) (by decide) ht
  obtain ⟨kn, -, hk10, rfl⟩ := z_ix2 (by decide) (by decide) hk
  refine z_iload_n (q := 35) dX7_planDoor_34 rfl rfl rfl ?_
  refine z_aload_n (q := 36) dX7_planDoor_35 rfl rfl rfl ?_
  refine z_getR (q := 39) 7 0 1 111 rfl (by decide) rfl rfl rfl (by with_reducible assumption) (by with_reducible assumption) dX7_planDoor_36 rfl ?_
  refine z_getV (q := 42) 3 6 2 122 rfl (by decide) rfl rfl rfl (by with_reducible assumption) (c3) dX7_planDoor_39 rfl ?_
  refine z_icmpn_ge (rfl) (rfl) (by omega) (by omega) (tgt := 48) (q := 45) dX7_planDoor_42 (by decide) rfl (fun h42 => ?_) (fun h42 => ?_)
  rotate_left
  · exact bad2 (by rw [targQ, if_pos (by rw [h3e]; exact nI_lt h42 (by omega))]) _
  have n3 : ¬ nI tn < g 3 := by rw [h3e]; exact nI_nlt h42 (by omega)
  refine z_aload_n (q := 49) dX7_planDoor_48 rfl rfl rfl ?_
  refine z_getR (q := 52) 7 0 1 111 rfl (by decide) rfl rfl rfl (by with_reducible assumption) (by with_reducible assumption) dX7_planDoor_49 rfl ?_
  refine z_getR (q := 55) 3 2 3 118 rfl (by decide) rfl rfl rfl (by with_reducible assumption) (by with_reducible assumption) dX7_planDoor_52 rfl ?_
  refine z_invV (q := 58) (c_X4_isFull G (x + 1 + 3) np F hP) (by with_reducible assumption) rfl gX7_planDoor_X4_isFull rfl hy_X4_isFull rfl rfl rfl rfl (Nat.le_of_ble_eq_true rfl) ⟨Nat.zero_le _, Nat.zero_le _⟩ dX7_planDoor_55 rfl (z_rv ?_)
  by_cases h16 : np = 16
  · rw [if_pos h16]
    refine z_if_eq (tgt := 64) (q := 61) dX7_planDoor_58 (by decide) rfl (fun hc => False.elim (z_01 hc)) (fun _ => ?_)
    exact bad3 (by rw [targQ, if_neg n3, if_pos (by rw [hgp]; exact h16)]) _
  rw [if_neg h16]
  refine z_if_eq (tgt := 64) (q := 61) dX7_planDoor_58 (by decide) rfl (fun _ => ?_) (fun hc => False.elim (hc rfl))
  rw [targQ, if_neg n3, if_neg (by rw [hgp]; exact h16), hgp]
  refine z_aload_n (q := 65) dX7_planDoor_64 rfl rfl rfl ?_
  refine z_getR (q := 68) 7 2 4 113 rfl (by decide) rfl rfl rfl (by with_reducible assumption) (by with_reducible assumption) dX7_planDoor_65 rfl ?_
  refine z_aload_n (q := 69) dX7_planDoor_68 rfl rfl rfl ?_
  refine z_getR (q := 72) 7 0 1 111 rfl (by decide) rfl rfl rfl (by with_reducible assumption) (by with_reducible assumption) dX7_planDoor_69 rfl ?_
  refine z_invV (q := 75) (rec_h G x pc y g tx p hS) (by with_reducible assumption) rfl gX7_planDoor_X2_record rfl hy_X2_record rfl rfl rfl rfl (Nat.le_of_ble_eq_true rfl) ⟨Nat.zero_le _, Nat.zero_le _⟩ dX7_planDoor_72 rfl (z_rnR fun I2 R2 hZ2 => ?_)
  obtain ⟨hS2, f2⟩ := hZ2
  have hHs2 : z_Hs T R2 I2 (x + 1) st g := z_Hs_f hHs (fun q _ _ => (f2 q (by omega)).1) (fun q _ _ => (f2 q (by omega)).2)
  obtain ⟨F2, hH2, hG2, hP2, hF2, d0, d1⟩ := Hs_inv hHs2 hI
  have hTp2 := hP2.1.1
  have hRp2 := hH2.2.2.2.1
  have ps2 : I2 (x + 1 + 3) 1 = nI np := hP2.2.2.2.1
  have hRh2 : R2 x 0 = some (x + 1) := by rw [(f2 x (by omega)).2]; exact hRh
  have hRt2 : R2 x 4 = some (x + 594) := by rw [(f2 x (by omega)).2]; exact hRt
  have hRs2 : R2 x 3 = some (x + 591) := by rw [(f2 x (by omega)).2]; exact hRs
  have hfx : ∀ I3 R3, (∀ q, q < x + 1 ∨ x + 99 ≤ q → I3 q = I2 q ∧ R3 q = R2 q) → z_fx x I I3 R R3 := fun I3 R3 f3 q hq => ⟨(f3 q (by omega)).1.trans (f2 q (by omega)).1, (f3 q (by omega)).2.trans (f2 q (by omega)).2⟩
  refine z_aload_n (q := 76) dX7_planDoor_75 rfl rfl rfl ?_
  refine z_getR (q := 79) 7 4 5 115 rfl (by decide) rfl rfl rfl (by with_reducible assumption) (by with_reducible assumption) dX7_planDoor_76 rfl ?_
  refine z_iload_n (q := 80) dX7_planDoor_79 rfl rfl rfl ?_
  refine z_iload_n (q := 81) dX7_planDoor_80 rfl rfl rfl ?_
  refine z_iload_n (q := 82) dX7_planDoor_81 rfl rfl rfl ?_
  refine z_invV (q := 85) (c_X1_becomeTarget G (x + 594) (nI d) (nI tn) (nI kn) hTt) (by with_reducible assumption) rfl gX7_planDoor_X1_becomeTarget rfl hy_X1_becomeTarget rfl rfl rfl rfl (Nat.le_of_ble_eq_true rfl) ⟨Nat.zero_le _, Nat.zero_le _⟩ dX7_planDoor_82 rfl (z_rn ?_)
  have hJ : ∀ q, q ≠ x + 594 → (zw (zw (zw (zw (zw I2 (x + 594) 0 0) (x + 594) 2 (nI d)) (x + 594) 1 (nI tn)) (x + 594) 3 0) (x + 594) 4 (nI kn)) q = I2 q := fun q hq => by rw [zw_row _ _ hq, zw_row _ _ hq, zw_row _ _ hq, zw_row _ _ hq, zw_row _ _ hq]
  have j0 : (zw (zw (zw (zw (zw I2 (x + 594) 0 0) (x + 594) 2 (nI d)) (x + 594) 1 (nI tn)) (x + 594) 3 0) (x + 594) 4 (nI kn)) (x + 594) 0 = 0 := by simp [zw]
  have jE : entC (zw (zw (zw (zw (zw I2 (x + 594) 0 0) (x + 594) 2 (nI d)) (x + 594) 1 (nI tn)) (x + 594) 3 0) (x + 594) 4 (nI kn)) (x + 594) = (nI tn, nI 1, nI d, nI 0, nI kn) := by simp [entC, zw, nI_0]
  generalize (zw (zw (zw (zw (zw I2 (x + 594) 0 0) (x + 594) 2 (nI d)) (x + 594) 1 (nI tn)) (x + 594) 3 0) (x + 594) 4 (nI kn)) = J at hJ j0 jE ⊢
  have hSJ : z_St T R2 J x g (pushP p pc g) (chC pc + 1) tx y := St_scr hS2 (by rw [hJ _ (by omega)]) (fun q _ _ h3 => hJ q h3)
  have hGJ : z_HR J (x + 1) g (fun _ => st) (fun _ => st) := HR_f hG2 (fun q _ _ _ => hJ q (by omega))
  have hPJ : z_P T J R2 (x + 1 + 3) np F2 := z_P_f hP2 (fun q _ _ => hJ q (by omega)) (fun _ _ _ => rfl)
  have hE : EOK nr nd st (nI tn, nI 1, nI d, nI 0, nI kn) := ⟨tn, 1, d, 0, kn, rfl, ht5, Or.inr ⟨rfl, hdn, rfl, by omega, hk10⟩⟩
  refine z_aload_n (q := 86) dX7_planDoor_85 rfl rfl rfl ?_
  refine z_getR (q := 89) 7 0 1 111 rfl (by decide) rfl rfl rfl (by with_reducible assumption) (by with_reducible assumption) dX7_planDoor_86 rfl ?_
  refine z_aload_n (q := 90) dX7_planDoor_89 rfl rfl rfl ?_
  refine z_getR (q := 93) 7 4 5 115 rfl (by decide) rfl rfl rfl (by with_reducible assumption) (by with_reducible assumption) dX7_planDoor_90 rfl ?_
  refine z_invV (q := 96) (take_h G (x + 1) (x + 594) st nr nd np F2 g (nI tn) (nI 1) (nI d) (nI 0) (nI kn) hH2 hI hGJ hPJ hF2 (by omega) (by omega) hTt (Or.inl j0) jE hE) (by with_reducible assumption) rfl gX7_planDoor_X3_take rfl hy_X3_take rfl rfl rfl rfl (Nat.le_of_ble_eq_true rfl) ⟨Nat.zero_le _, Nat.zero_le _⟩ dX7_planDoor_93 rfl (z_rnR fun I3 R3 hZ3 => ?_)
  obtain ⟨hA3, hI3, f3', r3⟩ := hZ3
  obtain ⟨F3, hH3, hG3, hP3, hF3, d03, d13⟩ := Hs_inv hA3 hI3
  have hTp3 := hP3.1.1
  have hRp3 := hH3.2.2.2.1
  have hRh3 : R3 x 0 = some (x + 1) := by rw [r3 x (by omega)]; exact hRh2
  have ps3 : I3 (x + 1 + 3) 1 = nI (np + 1) := hP3.2.2.2.1
  have f3 : ∀ q, q < x + 1 ∨ x + 99 ≤ q → I3 q = J q ∧ R3 q = R2 q := fun q hq => ⟨f3' q (by omega), r3 q (by omega)⟩
  refine z_aload_n (q := 97) dX7_planDoor_96 rfl rfl rfl ?_
  refine z_getR (q := 100) 7 0 1 111 rfl (by decide) rfl rfl rfl (by with_reducible assumption) (by with_reducible assumption) dX7_planDoor_97 rfl ?_
  refine z_getR (q := 103) 3 2 3 118 rfl (by decide) rfl rfl rfl (by with_reducible assumption) (by with_reducible assumption) dX7_planDoor_100 rfl ?_
  refine z_getV (q := 106) 4 1 6 127 rfl (by decide) rfl rfl rfl (by with_reducible assumption) (ps3) dX7_planDoor_103 rfl ?_
  exact z_iret rfl dX7_planDoor_106 (Nat.zero_le _) (Nat.zero_le _) (⟨by rw [putG_2 h2e], rfl, rfl, St_house hSJ ⟨st, hA3, hst, v5, by rw [putG_5, v51, pk_mul, nI_add, Nat.zero_mul]; rfl, v52⟩ f3, fun q hq => ⟨(f3 q (by omega)).1.trans ((hJ q (by omega)).trans (f2 q (by omega)).1), (f3 q (by omega)).2.trans (f2 q (by omega)).2⟩⟩)
