/-! THE CLASS, what is foretold, more -/
set_option maxRecDepth 100000 in
set_option maxHeartbeats 4000000 in
theorem c_X7_rise (G : zG) {n : Nat} {T : zTT} {I : zII} {R : zRR} (x pc y : Nat) (g tx : Nat → Int32) (p : Nat → Nat → Int32) (hS : z_St T R I x g p pc tx y) (v : Int32) : Ct G yX7_rise wsX7_rise (5, 0, 0) [.ref x, .int v] n T I R (z_rel (some (.int (sp_rise g v))) n T (fun I' R' => z_nx T R' I' x g p pc tx y none ∧ z_fx x I I' R R')) := by
  refine Ct.ofX (M := muX7_rise) (ls := [(0, .ref x), (1, .int v)]) (by decide +kernel) rfl (by decide) rfl rfl (Nat.le_of_ble_eq_true rfl) ?_
  have hR := hS.1
  obtain ⟨hTx, hRh, hRa, hRi, hRs, hRt, hTt, hSc⟩ := id hR
  obtain ⟨st, hHs, hst, htl⟩ := id hS.2.1
  obtain ⟨hH, nr, nd, np, F, hI, hG, hP, hF⟩ := id hHs
  have hTh := hH.1
  have hRp := hH.2.2.2.1
  have hTp := hP.1.1
  have hnr := hI.1.2
  have hnd := hI.2.1.2
  have hnp := hI.2.2.1.2
  have c0 : I (x + 1) 4 = nI nr := by rw [(HR_sc hG).1]; exact hI.1.1
  have c1 : I (x + 1) 5 = nI nd := by rw [(HR_sc hG).2.1]; exact hI.2.1.1
  have c3 : I (x + 1) 6 = nI st := by rw [(HR_sc hG).2.2.1]; exact hI.2.2.2.1
  have cs2 : I (x + 1 + 3) 1 = nI np := hP.2.2.2.1
  have h0e : g 0 = nI nr := hI.1.1
  have h1e : g 1 = nI nd := hI.2.1.1
  have h2e : g 2 = nI np := hI.2.2.1.1
  have h3e : g 3 = nI st := hI.2.2.2.1
  obtain ⟨sta, ga, hB⟩ := id hS.2.2.1
  have bad : sp_rise g v = -1 → ∀ ls : List (Nat × Value), z_X G muX7_rise (5, 0, 0) (z_rel (some (.int (sp_rise g v))) n T (fun I' R' => z_nx T R' I' x g p pc tx y none ∧ z_fx x I I' R R')) n T I R 0 0 11 ls [] := by
    intro hb ls
    rw [hb]
    refine z_iconst (q := 12) (v := (-1)) dX7_rise_11 (by rfl) rfl ?_
    exact z_iret rfl dX7_rise_12 (Nat.zero_le _) (Nat.zero_le _) (⟨rfl, rfl, rfl, hS, fun _ _ => ⟨rfl, rfl⟩⟩)
  by_cases hx : v < 0 ∨ nI nr ≤ v
  · refine z_aload_n (q := 1) dX7_rise_0 rfl rfl rfl ?_
    refine z_getR (q := 4) 7 0 1 209 rfl (by decide) rfl rfl rfl (by with_reducible assumption) (by with_reducible assumption) dX7_rise_1 rfl ?_
    refine z_iload_n (q := 5) dX7_rise_4 rfl rfl rfl ?_
    refine z_invV (q := 8) (c_X3_roomAt_n G (x + 1) nr v hH c0 hx) (by with_reducible assumption) rfl gX7_rise_X3_roomAt rfl hy_X3_roomAt rfl rfl rfl rfl (Nat.le_of_ble_eq_true rfl) ⟨Nat.zero_le _, Nat.zero_le _⟩ dX7_rise_5 rfl (z_rv ?_)
    refine z_ifnonnullN (q := 11) dX7_rise_8 rfl ?_
    exact bad (by rw [sp_rise, if_pos (by rw [h0e]; exact hx)]) _
  obtain ⟨r, hrn, rfl⟩ : ∃ k, k < nr ∧ v = nI k := by
    rcases pk_ix v (n := nr) (by omega) with z | z | z
    · exact absurd (Or.inl z) hx
    · exact absurd (Or.inr z) hx
    · exact z
  have hvg : ¬ (nI r < 0 ∨ g 0 ≤ nI r) := by rw [h0e]; exact hx
  have e : sp_rise g (nI r) = rsS r 200 1 (begN g) := by rw [sp_rise, if_neg hvg, nI_clamp (by omega)]
  rw [e]
  have loop : ∀ f i st2 h2 np2 I2 R2, i + f = 201 → st2 ≤ 5000 + i → z_Hs T R2 I2 (x + 99) st2 h2 → INV nr nd np2 st2 h2 → rsS r f i h2 = rsS r 200 1 (begN g) → (∀ q, q < x + 99 ∨ x + 197 ≤ q → I2 q = I q ∧ R2 q = R q) → z_X G muX7_rise (5, 0, 0) (z_rel (some (.int (rsS r 200 1 (begN g)))) n T (fun I' R' => z_nx T R' I' x g p pc tx y none ∧ z_fx x I I' R R')) n T I2 R2 0 0 28 [(0, .ref x), (1, .int (nI r)), (2, .int (h2 (9 + 6 * r + 2))), (3, .int (nI i))] [] := by
    intro f
    induction f with
    | zero =>
      intro i st2 h2 np2 I2 R2 hi hst2 hA2 hI2 hE hf
      refine z_iload_n (q := 29) dX7_rise_28 rfl rfl rfl ?_
      refine z_sipush (q := 32) (v := nI 200) dX7_rise_29 (by rfl) rfl ?_
      refine z_icmpn_gt (rfl) (rfl) (by omega) (by omega) (tgt := 69) (q := 35) dX7_rise_32 (by decide) rfl (fun _ => ?_) (fun hc => absurd hc (by omega))
      refine z_bipush (q := 71) (v := (-4)) dX7_rise_69 (by rfl) rfl ?_
      exact z_iret rfl dX7_rise_71 (Nat.zero_le _) (Nat.zero_le _) (⟨by rw [← hE]; rfl, rfl, rfl, St_ahead hS hA2 hf, fun q hq => hf q (by omega)⟩)
    | succ f ih =>
      intro i st2 h2 np2 I2 R2 hi hst2 hA2 hI2 hE hf
      have hRa2 : R2 x 1 = some (x + 99) := by rw [(hf x (by omega)).2]; exact hRa
      have hTb := hA2.1.1
      obtain ⟨np3, hI3⟩ := mStep_INV hI2 (by omega)
      rw [rsS] at hE
      refine z_iload_n (q := 29) dX7_rise_28 rfl rfl rfl ?_
      refine z_sipush (q := 32) (v := nI 200) dX7_rise_29 (by rfl) rfl ?_
      refine z_icmpn_gt (rfl) (rfl) (by omega) (by omega) (tgt := 69) (q := 35) dX7_rise_32 (by decide) rfl (fun hc => absurd hc (by omega)) (fun _ => ?_)
      refine z_aload_n (q := 36) dX7_rise_35 rfl rfl rfl ?_
      refine z_getR (q := 39) 7 1 2 210 rfl (by decide) rfl rfl rfl (by with_reducible assumption) (by with_reducible assumption) dX7_rise_36 rfl ?_
      refine z_invV (q := 42) (c_X3_goOn G (x + 99) st2 h2 hA2 (by omega)) (by with_reducible assumption) rfl gX7_rise_X3_goOn rfl hy_X3_goOn rfl rfl rfl rfl (Nat.le_of_ble_eq_true rfl) ⟨Nat.zero_le _, Nat.zero_le _⟩ dX7_rise_39 rfl (z_rnR fun I3 R3 hZ3 => ?_)
      obtain ⟨hA3, f3, r3⟩ := hZ3
      have hRa3 : R3 x 1 = some (x + 99) := by rw [r3 x (by omega)]; exact hRa2
      obtain ⟨F3, hH3, hG3, hP3, hF3, c03, c13⟩ := Hs_inv hA3 hI3
      have hf3 : ∀ q, q < x + 99 ∨ x + 197 ≤ q → I3 q = I q ∧ R3 q = R q := fun q hq => ⟨(f3 q (by omega)).trans (hf q hq).1, (r3 q (by omega)).trans (hf q hq).2⟩
      refine z_aload_n (q := 43) dX7_rise_42 rfl rfl rfl ?_
      refine z_getR (q := 46) 7 1 2 210 rfl (by decide) rfl rfl rfl (by with_reducible assumption) (by with_reducible assumption) dX7_rise_43 rfl ?_
      refine z_iload_n (q := 47) dX7_rise_46 rfl rfl rfl ?_
      refine z_invV (q := 50) (c_X3_energyIn G (x + 99) nr (nI r) hH3 c03 hnr) (by with_reducible assumption) rfl gX7_rise_X3_energyIn rfl hy_X3_energyIn rfl rfl rfl rfl (Nat.le_of_ble_eq_true rfl) ⟨Nat.zero_le _, Nat.zero_le _⟩ dX7_rise_47 rfl (z_rv ?_)
      rw [en_eq hG3 hI3 hrn]
      refine z_istore (q := 52) dX7_rise_50 (by decide) rfl ?_
      refine z_iload (q := 54) (i := 4) dX7_rise_52 rfl rfl ?_
      refine z_iload_n (q := 55) dX7_rise_54 rfl rfl rfl ?_
      refine z_icmp_le (tgt := 60) (q := 58) dX7_rise_55 (by decide) rfl (fun h55 => ?_) (fun h55 => ?_)
      · rw [if_pos h55] at hE
        refine z_iload (q := 62) (i := 4) dX7_rise_60 rfl rfl ?_
        refine z_istore_n (q := 63) dX7_rise_62 rfl (by decide) rfl ?_
        refine z_iinc (q := 66) dX7_rise_63 rfl (nI_add _ 1) (by decide) rfl ?_
        refine z_goto (q := 28) dX7_rise_66 (by decide) ?_
        exact z_pick [0, 1, 2, 3] rfl (ih (i + 1) (st2 + 1) (mStep h2) np3 I3 R3 (by omega) (by omega) hA3 hI3 hE hf3)
      · rw [if_neg h55] at hE
        refine z_iload_n (q := 59) dX7_rise_58 rfl rfl rfl ?_
        exact z_iret rfl dX7_rise_59 (Nat.zero_le _) (Nat.zero_le _) (⟨by rw [← hE], rfl, rfl, St_ahead hS hA3 hf3, fun q hq => hf3 q (by omega)⟩)
  refine z_aload_n (q := 1) dX7_rise_0 rfl rfl rfl ?_
  refine z_getR (q := 4) 7 0 1 209 rfl (by decide) rfl rfl rfl (by with_reducible assumption) (by with_reducible assumption) dX7_rise_1 rfl ?_
  refine z_iload_n (q := 5) dX7_rise_4 rfl rfl rfl ?_
  refine z_invV (q := 8) (c_X3_roomAt_s G (x + 1) r nr hH c0 hrn hnr) (by with_reducible assumption) rfl gX7_rise_X3_roomAt rfl hy_X3_roomAt rfl rfl rfl rfl (Nat.le_of_ble_eq_true rfl) ⟨Nat.zero_le _, Nat.zero_le _⟩ dX7_rise_5 rfl (z_rv ?_)
  refine z_ifnonnull (q := 13) dX7_rise_8 (by decide) ?_
  obtain ⟨np2, b1, b2, b3⟩ := begN_spec hI
  refine z_aload_n (q := 14) dX7_rise_13 rfl rfl rfl ?_
  refine z_invV (q := 17) (c_X7_lookAhead G x st sta g ga hR hHs hB) (by with_reducible assumption) rfl gX7_rise_X7_lookAheadWithoutSounds rfl hy_X7_lookAheadWithoutSounds rfl rfl rfl rfl (Nat.le_of_ble_eq_true rfl) ⟨Nat.zero_le _, Nat.zero_le _⟩ dX7_rise_14 rfl (z_rnR fun I2 R2 hZ2 => ?_)
  obtain ⟨hA2, f2⟩ := hZ2
  have hRa2 : R2 x 1 = some (x + 99) := by rw [(f2 x (by omega)).2]; exact hRa
  obtain ⟨F2, hH2, hG2, hP2, hF2, c02, c12⟩ := Hs_inv hA2 b1
  have hTb := hA2.1.1
  refine z_aload_n (q := 18) dX7_rise_17 rfl rfl rfl ?_
  refine z_getR (q := 21) 7 1 2 210 rfl (by decide) rfl rfl rfl (by with_reducible assumption) (by with_reducible assumption) dX7_rise_18 rfl ?_
  refine z_iload_n (q := 22) dX7_rise_21 rfl rfl rfl ?_
  refine z_invV (q := 25) (c_X3_energyIn G (x + 99) nr (nI r) hH2 c02 hnr) (by with_reducible assumption) rfl gX7_rise_X3_energyIn rfl hy_X3_energyIn rfl rfl rfl rfl (Nat.le_of_ble_eq_true rfl) ⟨Nat.zero_le _, Nat.zero_le _⟩ dX7_rise_22 rfl (z_rv ?_)
  rw [en_eq hG2 b1 hrn]
  refine z_istore_n (q := 26) dX7_rise_25 rfl (by decide) rfl ?_
  refine z_iconst (q := 27) (v := nI 1) dX7_rise_26 (by rfl) rfl ?_
  refine z_istore_n (q := 28) dX7_rise_27 rfl (by decide) rfl ?_
  exact loop 200 1 st (begN g) np2 I2 R2 rfl (by omega) hA2 b1 rfl f2
set_option maxRecDepth 100000 in
set_option maxHeartbeats 4000000 in
theorem c_X7_peak (G : zG) {n : Nat} {T : zTT} {I : zII} {R : zRR} (x pc y : Nat) (g tx : Nat → Int32) (p : Nat → Nat → Int32) (hS : z_St T R I x g p pc tx y) (v w : Int32) : Ct G yX7_peak wsX7_peak (5, 0, 0) [.ref x, .int v, .int w] n T I R (z_rel (some (.int (sp_peak g v w))) n T (fun I' R' => z_nx T R' I' x g p pc tx y none ∧ z_fx x I I' R R')) := by
  refine Ct.ofX (M := muX7_peak) (ls := [(0, .ref x), (1, .int v), (2, .int w)]) (by decide +kernel) rfl (by decide) rfl rfl (Nat.le_of_ble_eq_true rfl) ?_
  have hR := hS.1
  obtain ⟨hTx, hRh, hRa, hRi, hRs, hRt, hTt, hSc⟩ := id hR
  obtain ⟨st, hHs, hst, htl⟩ := id hS.2.1
  obtain ⟨hH, nr, nd, np, F, hI, hG, hP, hF⟩ := id hHs
  have hTh := hH.1
  have hRp := hH.2.2.2.1
  have hTp := hP.1.1
  have hnr := hI.1.2
  have hnd := hI.2.1.2
  have hnp := hI.2.2.1.2
  have c0 : I (x + 1) 4 = nI nr := by rw [(HR_sc hG).1]; exact hI.1.1
  have c1 : I (x + 1) 5 = nI nd := by rw [(HR_sc hG).2.1]; exact hI.2.1.1
  have c3 : I (x + 1) 6 = nI st := by rw [(HR_sc hG).2.2.1]; exact hI.2.2.2.1
  have cs2 : I (x + 1 + 3) 1 = nI np := hP.2.2.2.1
  have h0e : g 0 = nI nr := hI.1.1
  have h1e : g 1 = nI nd := hI.2.1.1
  have h2e : g 2 = nI np := hI.2.2.1.1
  have h3e : g 3 = nI st := hI.2.2.2.1
  obtain ⟨sta, ga, hB⟩ := id hS.2.2.1
  have bad : sp_peak g v w = -1 → ∀ ls : List (Nat × Value), z_X G muX7_peak (5, 0, 0) (z_rel (some (.int (sp_peak g v w))) n T (fun I' R' => z_nx T R' I' x g p pc tx y none ∧ z_fx x I I' R R')) n T I R 0 0 20 ls [] := by
    intro hb ls
    rw [hb]
    refine z_iconst (q := 21) (v := (-1)) dX7_peak_20 (by rfl) rfl ?_
    exact z_iret rfl dX7_peak_21 (Nat.zero_le _) (Nat.zero_le _) (⟨rfl, rfl, rfl, hS, fun _ _ => ⟨rfl, rfl⟩⟩)
  by_cases hx : v < 0 ∨ nI nr ≤ v
  · refine z_aload_n (q := 1) dX7_peak_0 rfl rfl rfl ?_
    refine z_getR (q := 4) 7 0 1 202 rfl (by decide) rfl rfl rfl (by with_reducible assumption) (by with_reducible assumption) dX7_peak_1 rfl ?_
    refine z_iload_n (q := 5) dX7_peak_4 rfl rfl rfl ?_
    refine z_invV (q := 8) (c_X3_roomAt_n G (x + 1) nr v hH c0 hx) (by with_reducible assumption) rfl gX7_peak_X3_roomAt rfl hy_X3_roomAt rfl rfl rfl rfl (Nat.le_of_ble_eq_true rfl) ⟨Nat.zero_le _, Nat.zero_le _⟩ dX7_peak_5 rfl (z_rv ?_)
    refine z_ifnullN (q := 20) dX7_peak_8 (by decide) ?_
    exact bad (by rw [sp_peak, if_pos (by rw [h0e]; exact hx)]) _
  obtain ⟨r, hrn, rfl⟩ : ∃ k, k < nr ∧ v = nI k := by
    rcases pk_ix v (n := nr) (by omega) with z | z | z
    · exact absurd (Or.inl z) hx
    · exact absurd (Or.inr z) hx
    · exact z
  have hvg : ¬ (nI r < 0 ∨ g 0 ≤ nI r) := by rw [h0e]; exact hx
  refine z_aload_n (q := 1) dX7_peak_0 rfl rfl rfl ?_
  refine z_getR (q := 4) 7 0 1 202 rfl (by decide) rfl rfl rfl (by with_reducible assumption) (by with_reducible assumption) dX7_peak_1 rfl ?_
  refine z_iload_n (q := 5) dX7_peak_4 rfl rfl rfl ?_
  refine z_invV (q := 8) (c_X3_roomAt_s G (x + 1) r nr hH c0 hrn hnr) (by with_reducible assumption) rfl gX7_peak_X3_roomAt rfl hy_X3_roomAt rfl rfl rfl rfl (Nat.le_of_ble_eq_true rfl) ⟨Nat.zero_le _, Nat.zero_le _⟩ dX7_peak_5 rfl (z_rv ?_)
  refine z_ifnull (q := 11) dX7_peak_8 rfl ?_
  refine z_iload_n (q := 12) dX7_peak_11 rfl rfl rfl ?_
  refine z_iconst (q := 13) (v := nI 0) dX7_peak_12 (by rfl) rfl ?_
  refine z_iconst (q := 14) (v := nI 1) dX7_peak_13 (by rfl) rfl ?_
  refine z_invS (q := 17) (c_X7_isWithin G w (nI 0) (nI 1)) gX7_peak_X7_isWithin rfl hy_X7_isWithin rfl rfl rfl rfl (Nat.le_of_ble_eq_true rfl) ⟨Nat.zero_le _, Nat.zero_le _⟩ dX7_peak_14 rfl (z_rv ?_)
  by_cases hz : w < nI 0 ∨ nI 1 < w
  · rw [if_pos hz]
    refine z_if_ne (tgt := 22) (q := 20) dX7_peak_17 (by decide) rfl (fun hc => False.elim (hc rfl)) (fun _ => ?_)
    exact bad (by rw [sp_peak, if_neg hvg, if_pos hz]) _
  rw [if_neg hz]
  refine z_if_ne (tgt := 22) (q := 20) dX7_peak_17 (by decide) rfl (fun _ => ?_) (fun hc => False.elim (absurd hc (by decide)))
  obtain ⟨k, -, hk1, rfl⟩ := z_ix2 (by decide) (by decide) hz
  have e : sp_peak g (nI r) (nI k) = peakQ g r (nI k) := by rw [sp_peak, if_neg hvg, if_neg hz, nI_clamp (by omega)]
  rw [e]
  have loop : ∀ f i st2 h2 np2 I2 R2 fo mo, i + f = 201 → st2 ≤ 5000 + i → z_Hs T R2 I2 (x + 99) st2 h2 → INV nr nd np2 st2 h2 → pkS r f i h2 fo mo = pkS r 200 1 g (nI 0) (g (9 + 6 * r + 2)) → (∀ q, q < x + 99 ∨ x + 197 ≤ q → I2 q = I q ∧ R2 q = R q) → ∀ ls : List (Nat × Value), lv_pick ls [0, 1, 2, 3, 4, 5] = [(0, .ref x), (1, .int (nI r)), (2, .int (nI k)), (3, .int mo), (4, .int fo), (5, .int (nI i))] → z_X G muX7_peak (5, 0, 0) (z_rel (some (.int (peakQ g r (nI k)))) n T (fun I' R' => z_nx T R' I' x g p pc tx y none ∧ z_fx x I I' R R')) n T I2 R2 0 0 48 ls [] := by
    intro f
    induction f with
    | zero =>
      intro i st2 h2 np2 I2 R2 fo mo hi hst2 hA2 hI2 hE hf ls hls
      rw [pkS] at hE
      refine z_pick [0, 1, 2, 3, 4, 5] hls ?_
      refine z_iload (q := 50) (i := 5) dX7_peak_48 rfl rfl ?_
      refine z_sipush (q := 53) (v := nI 200) dX7_peak_50 (by rfl) rfl ?_
      refine z_icmpn_gt (rfl) (rfl) (by omega) (by omega) (tgt := 92) (q := 56) dX7_peak_53 (by decide) rfl (fun _ => ?_) (fun hc => absurd hc (by omega))
      refine z_iload_n (q := 93) dX7_peak_92 rfl rfl rfl ?_
      rcases (show k = 0 ∨ k = 1 by omega) with rfl | rfl
      · refine z_if_ne (tgt := 101) (q := 96) dX7_peak_93 (by decide) rfl (fun hc => False.elim (hc nI_0)) (fun _ => ?_)
        refine z_iload (q := 98) (i := 4) dX7_peak_96 rfl rfl ?_
        refine z_goto (q := 102) dX7_peak_98 (by decide) ?_
        exact z_iret rfl dX7_peak_102 (Nat.zero_le _) (Nat.zero_le _) (⟨by rw [peakQ, if_pos nI_0, ← hE], rfl, rfl, St_ahead hS hA2 hf, fun q hq => hf q (by omega)⟩)
      · refine z_if_ne (tgt := 101) (q := 96) dX7_peak_93 (by decide) rfl (fun _ => ?_) (fun hc => False.elim (z_n10 hc))
        refine z_iload_n (q := 102) dX7_peak_101 rfl rfl rfl ?_
        exact z_iret rfl dX7_peak_102 (Nat.zero_le _) (Nat.zero_le _) (⟨by rw [peakQ, if_neg z_n10, ← hE], rfl, rfl, St_ahead hS hA2 hf, fun q hq => hf q (by omega)⟩)
    | succ f ih =>
      intro i st2 h2 np2 I2 R2 fo mo hi hst2 hA2 hI2 hE hf ls hls
      have hRa2 : R2 x 1 = some (x + 99) := by rw [(hf x (by omega)).2]; exact hRa
      have hTb := hA2.1.1
      obtain ⟨np3, hI3⟩ := mStep_INV hI2 (by omega)
      rw [pkS] at hE
      refine z_pick [0, 1, 2, 3, 4, 5] hls ?_
      refine z_iload (q := 50) (i := 5) dX7_peak_48 rfl rfl ?_
      refine z_sipush (q := 53) (v := nI 200) dX7_peak_50 (by rfl) rfl ?_
      refine z_icmpn_gt (rfl) (rfl) (by omega) (by omega) (tgt := 92) (q := 56) dX7_peak_53 (by decide) rfl (fun hc => absurd hc (by omega)) (fun _ => ?_)
      refine z_aload_n (q := 57) dX7_peak_56 rfl rfl rfl ?_
      refine z_getR (q := 60) 7 1 2 203 rfl (by decide) rfl rfl rfl (by with_reducible assumption) (by with_reducible assumption) dX7_peak_57 rfl ?_
      refine z_invV (q := 63) (c_X3_goOn G (x + 99) st2 h2 hA2 (by omega)) (by with_reducible assumption) rfl gX7_peak_X3_goOn rfl hy_X3_goOn rfl rfl rfl rfl (Nat.le_of_ble_eq_true rfl) ⟨Nat.zero_le _, Nat.zero_le _⟩ dX7_peak_60 rfl (z_rnR fun I3 R3 hZ3 => ?_)
      obtain ⟨hA3, f3, r3⟩ := hZ3
      have hRa3 : R3 x 1 = some (x + 99) := by rw [r3 x (by omega)]; exact hRa2
      obtain ⟨F3, hH3, hG3, hP3, hF3, c03, c13⟩ := Hs_inv hA3 hI3
      have hf3 : ∀ q, q < x + 99 ∨ x + 197 ≤ q → I3 q = I q ∧ R3 q = R q := fun q hq => ⟨(f3 q (by omega)).trans (hf q hq).1, (r3 q (by omega)).trans (hf q hq).2⟩
      refine z_aload_n (q := 64) dX7_peak_63 rfl rfl rfl ?_
      refine z_getR (q := 67) 7 1 2 203 rfl (by decide) rfl rfl rfl (by with_reducible assumption) (by with_reducible assumption) dX7_peak_64 rfl ?_
      refine z_iload_n (q := 68) dX7_peak_67 rfl rfl rfl ?_
      refine z_invV (q := 71) (c_X3_energyIn G (x + 99) nr (nI r) hH3 c03 hnr) (by with_reducible assumption) rfl gX7_peak_X3_energyIn rfl hy_X3_energyIn rfl rfl rfl rfl (Nat.le_of_ble_eq_true rfl) ⟨Nat.zero_le _, Nat.zero_le _⟩ dX7_peak_68 rfl (z_rv ?_)
      rw [en_eq hG3 hI3 hrn]
      refine z_istore (q := 73) dX7_peak_71 (by decide) rfl ?_
      refine z_iload (q := 75) (i := 6) dX7_peak_73 rfl rfl ?_
      refine z_iload_n (q := 76) dX7_peak_75 rfl rfl rfl ?_
      refine z_icmp_le (tgt := 86) (q := 79) dX7_peak_76 (by decide) rfl (fun h76 => ?_) (fun h76 => ?_)
      · rw [if_pos h76] at hE
        refine z_iinc (q := 89) dX7_peak_86 rfl (nI_add _ 1) (by decide) rfl ?_
        refine z_goto (q := 48) dX7_peak_89 (by decide) ?_
        exact ih (i + 1) (st2 + 1) (mStep h2) np3 I3 R3 _ _ (by omega) (by omega) hA3 hI3 hE hf3 _ rfl
      · rw [if_neg h76] at hE
        refine z_iload (q := 81) (i := 6) dX7_peak_79 rfl rfl ?_
        refine z_istore_n (q := 82) dX7_peak_81 rfl (by decide) rfl ?_
        refine z_iload (q := 84) (i := 5) dX7_peak_82 rfl rfl ?_
        refine z_istore (q := 86) dX7_peak_84 (by decide) rfl ?_
        refine z_iinc (q := 89) dX7_peak_86 rfl (nI_add _ 1) (by decide) rfl ?_
        refine z_goto (q := 48) dX7_peak_89 (by decide) ?_
        exact ih (i + 1) (st2 + 1) (mStep h2) np3 I3 R3 _ _ (by omega) (by omega) hA3 hI3 hE hf3 _ rfl
  have hTb := hB.1.1
  refine z_aload_n (q := 23) dX7_peak_22 rfl rfl rfl ?_
  refine z_getR (q := 26) 7 1 2 203 rfl (by decide) rfl rfl rfl (by with_reducible assumption) (by with_reducible assumption) dX7_peak_23 rfl ?_
  refine z_aload_n (q := 27) dX7_peak_26 rfl rfl rfl ?_
  refine z_getR (q := 30) 7 0 1 202 rfl (by decide) rfl rfl rfl (by with_reducible assumption) (by with_reducible assumption) dX7_peak_27 rfl ?_
  refine z_invV (q := 33) (copy_h G (x + 99) (x + 1) st sta g ga hB hHs (by omega)) (by with_reducible assumption) rfl gX7_peak_X3_copyFrom rfl hy_X3_copyFrom rfl rfl rfl rfl (Nat.le_of_ble_eq_true rfl) ⟨Nat.zero_le _, Nat.zero_le _⟩ dX7_peak_30 rfl (z_rnR fun I2 R2 hZ2 => ?_)
  obtain ⟨hr2, hA2, f2⟩ := hZ2
  rw [hr2]
  obtain ⟨F2, hH2, hG2, hP2, hF2, c02, c12⟩ := Hs_inv hA2 hI
  refine z_aload_n (q := 34) dX7_peak_33 rfl rfl rfl ?_
  refine z_getR (q := 37) 7 1 2 203 rfl (by decide) rfl rfl rfl (by with_reducible assumption) (by with_reducible assumption) dX7_peak_34 rfl ?_
  refine z_iload_n (q := 38) dX7_peak_37 rfl rfl rfl ?_
  refine z_invV (q := 41) (c_X3_energyIn G (x + 99) nr (nI r) hH2 c02 hnr) (by with_reducible assumption) rfl gX7_peak_X3_energyIn rfl hy_X3_energyIn rfl rfl rfl rfl (Nat.le_of_ble_eq_true rfl) ⟨Nat.zero_le _, Nat.zero_le _⟩ dX7_peak_38 rfl (z_rv ?_)
  rw [en_eq hG2 hI hrn]
  refine z_istore_n (q := 42) dX7_peak_41 rfl (by decide) rfl ?_
  refine z_iconst (q := 43) (v := nI 0) dX7_peak_42 (by rfl) rfl ?_
  refine z_istore (q := 45) dX7_peak_43 (by decide) rfl ?_
  refine z_iconst (q := 46) (v := nI 1) dX7_peak_45 (by rfl) rfl ?_
  refine z_istore (q := 48) dX7_peak_46 (by decide) rfl ?_
  exact loop 200 1 st g np I2 R _ _ rfl (by omega) hA2 hI rfl (fun q hq => ⟨f2 q (by omega), rfl⟩) _ rfl
set_option maxRecDepth 100000 in
set_option maxHeartbeats 4000000 in
theorem c_X7_quiet (G : zG) {n : Nat} {T : zTT} {I : zII} {R : zRR} (x pc y : Nat) (g tx : Nat → Int32) (p : Nat → Nat → Int32) (hS : z_St T R I x g p pc tx y) : Ct G yX7_quiet wsX7_quiet (5, 0, 0) [.ref x] n T I R (z_rel (some (.int (sp_quiet g))) n T (fun I' R' => z_nx T R' I' x g p pc tx y none ∧ z_fx x I I' R R')) := by
  refine Ct.ofX (M := muX7_quiet) (ls := [(0, .ref x)]) (by decide +kernel) rfl (by decide) rfl rfl (Nat.le_of_ble_eq_true rfl) ?_
  have hR := hS.1
  obtain ⟨hTx, hRh, hRa, hRi, hRs, hRt, hTt, hSc⟩ := id hR
  obtain ⟨st, hHs, hst, htl⟩ := id hS.2.1
  obtain ⟨hH, nr, nd, np, F, hI, hG, hP, hF⟩ := id hHs
  have hTh := hH.1
  have hRp := hH.2.2.2.1
  have hTp := hP.1.1
  have hnr := hI.1.2
  have hnd := hI.2.1.2
  have hnp := hI.2.2.1.2
  have c0 : I (x + 1) 4 = nI nr := by rw [(HR_sc hG).1]; exact hI.1.1
  have c1 : I (x + 1) 5 = nI nd := by rw [(HR_sc hG).2.1]; exact hI.2.1.1
  have c3 : I (x + 1) 6 = nI st := by rw [(HR_sc hG).2.2.1]; exact hI.2.2.2.1
  have cs2 : I (x + 1 + 3) 1 = nI np := hP.2.2.2.1
  have h0e : g 0 = nI nr := hI.1.1
  have h1e : g 1 = nI nd := hI.2.1.1
  have h2e : g 2 = nI np := hI.2.2.1.1
  have h3e : g 3 = nI st := hI.2.2.2.1
  obtain ⟨sta, ga, hB⟩ := id hS.2.2.1
  have hTb := hB.1.1
  have loop : ∀ f i st2 h2 np2 I2 R2, i + f = 201 → st2 ≤ 5000 + i → z_Hs T R2 I2 (x + 99) st2 h2 → INV nr nd np2 st2 h2 → qtS f i h2 = qtS 201 0 g → (∀ q, q < x + 99 ∨ x + 197 ≤ q → I2 q = I q ∧ R2 q = R q) → z_X G muX7_quiet (5, 0, 0) (z_rel (some (.int (sp_quiet g))) n T (fun I' R' => z_nx T R' I' x g p pc tx y none ∧ z_fx x I I' R R')) n T I2 R2 0 0 13 [(0, .ref x), (1, .int (nI i))] [] := by
    intro f
    induction f with
    | zero =>
      intro i st2 h2 np2 I2 R2 hi hst2 hA2 hI2 hE hf
      refine z_iload_n (q := 14) dX7_quiet_13 rfl rfl rfl ?_
      refine z_sipush (q := 17) (v := nI 200) dX7_quiet_14 (by rfl) rfl ?_
      refine z_icmpn_gt (rfl) (rfl) (by omega) (by omega) (tgt := 45) (q := 20) dX7_quiet_17 (by decide) rfl (fun _ => ?_) (fun hc => absurd hc (by omega))
      refine z_bipush (q := 47) (v := (-4)) dX7_quiet_45 (by rfl) rfl ?_
      exact z_iret rfl dX7_quiet_47 (Nat.zero_le _) (Nat.zero_le _) (⟨by rw [sp_quiet, ← hE]; rfl, rfl, rfl, St_ahead hS hA2 hf, fun q hq => hf q (by omega)⟩)
    | succ f ih =>
      intro i st2 h2 np2 I2 R2 hi hst2 hA2 hI2 hE hf
      have hRa2 : R2 x 1 = some (x + 99) := by rw [(hf x (by omega)).2]; exact hRa
      obtain ⟨F2, hH2, hG2, hP2, hF2, c02, c12⟩ := Hs_inv hA2 hI2
      obtain ⟨np3, hI3⟩ := mStep_INV hI2 (by omega)
      have hnp2 := hI2.2.2.1.2
      have hq : (¬ I2 (x + 99 + 21) 1 < sumI (fun i => I2 (x + 99 + 22 + 2 * i) 2) 8 + sumI (fun d => sumI (fun k => I2 (x + 99 + 38 + 5 * d + 4) k) 12) 12 ∧ hsF F2 np2 = 0) ↔ qtC h2 := by
        rw [allR_eq (st := st2) hG2 hI2 (by decide), allW_eq hG2 hI2, hs_eq hF2 np2 (Nat.le_refl _), (HR_sc hG2).2.2.2.2.2.2.2]
        show _ ↔ ¬ h2 8 < allR h2 2 + allW h2 ∧ hsS h2 (gN h2 2) = 0
        rw [gN_of hI2.2.2.1.1 (by omega)]
      rw [qtS] at hE
      refine z_iload_n (q := 14) dX7_quiet_13 rfl rfl rfl ?_
      refine z_sipush (q := 17) (v := nI 200) dX7_quiet_14 (by rfl) rfl ?_
      refine z_icmpn_gt (rfl) (rfl) (by omega) (by omega) (tgt := 45) (q := 20) dX7_quiet_17 (by decide) rfl (fun hc => absurd hc (by omega)) (fun _ => ?_)
      refine z_aload_n (q := 21) dX7_quiet_20 rfl rfl rfl ?_
      refine z_getR (q := 24) 7 1 1 215 rfl (by decide) rfl rfl rfl (by with_reducible assumption) (by with_reducible assumption) dX7_quiet_21 rfl ?_
      refine z_invV (q := 27) (c_X3_isQuiet G (x + 99) np2 F2 hH2 hP2) (by with_reducible assumption) rfl gX7_quiet_X3_isQuiet rfl hy_X3_isQuiet rfl rfl rfl rfl (Nat.le_of_ble_eq_true rfl) ⟨Nat.zero_le _, Nat.zero_le _⟩ dX7_quiet_24 rfl (z_rv ?_)
      by_cases hc2 : ¬ I2 (x + 99 + 21) 1 < sumI (fun i => I2 (x + 99 + 22 + 2 * i) 2) 8 + sumI (fun d => sumI (fun k => I2 (x + 99 + 38 + 5 * d + 4) k) 12) 12 ∧ hsF F2 np2 = 0
      · rw [if_pos hc2]
        rw [if_pos (hq.mp hc2)] at hE
        refine z_if_eq (tgt := 32) (q := 30) dX7_quiet_27 (by decide) rfl (fun hc => False.elim (z_01 hc)) (fun _ => ?_)
        refine z_iload_n (q := 31) dX7_quiet_30 rfl rfl rfl ?_
        exact z_iret rfl dX7_quiet_31 (Nat.zero_le _) (Nat.zero_le _) (⟨by rw [sp_quiet, ← hE], rfl, rfl, St_ahead hS hA2 hf, fun q hq => hf q (by omega)⟩)
      · rw [if_neg hc2]
        rw [if_neg (fun z => hc2 (hq.mpr z))] at hE
        refine z_if_eq (tgt := 32) (q := 30) dX7_quiet_27 (by decide) rfl (fun _ => ?_) (fun hc => False.elim (hc rfl))
        refine z_aload_n (q := 33) dX7_quiet_32 rfl rfl rfl ?_
        refine z_getR (q := 36) 7 1 1 215 rfl (by decide) rfl rfl rfl (by with_reducible assumption) (by with_reducible assumption) dX7_quiet_33 rfl ?_
        refine z_invV (q := 39) (c_X3_goOn G (x + 99) st2 h2 hA2 (by omega)) (by with_reducible assumption) rfl gX7_quiet_X3_goOn rfl hy_X3_goOn rfl rfl rfl rfl (Nat.le_of_ble_eq_true rfl) ⟨Nat.zero_le _, Nat.zero_le _⟩ dX7_quiet_36 rfl (z_rnR fun I3 R3 hZ3 => ?_)
        obtain ⟨hA3, f3, r3⟩ := hZ3
        refine z_iinc (q := 42) dX7_quiet_39 rfl (nI_add _ 1) (by decide) rfl ?_
        refine z_goto (q := 13) dX7_quiet_42 (by decide) ?_
        exact ih (i + 1) (st2 + 1) (mStep h2) np3 I3 R3 (by omega) (by omega) hA3 hI3 hE (fun q hq => ⟨(f3 q (by omega)).trans (hf q hq).1, (r3 q (by omega)).trans (hf q hq).2⟩)
  refine z_aload_n (q := 1) dX7_quiet_0 rfl rfl rfl ?_
  refine z_getR (q := 4) 7 1 1 215 rfl (by decide) rfl rfl rfl (by with_reducible assumption) (by with_reducible assumption) dX7_quiet_1 rfl ?_
  refine z_aload_n (q := 5) dX7_quiet_4 rfl rfl rfl ?_
  refine z_getR (q := 8) 7 0 2 214 rfl (by decide) rfl rfl rfl (by with_reducible assumption) (by with_reducible assumption) dX7_quiet_5 rfl ?_
  refine z_invV (q := 11) (copy_h G (x + 99) (x + 1) st sta g ga hB hHs (by omega)) (by with_reducible assumption) rfl gX7_quiet_X3_copyFrom rfl hy_X3_copyFrom rfl rfl rfl rfl (Nat.le_of_ble_eq_true rfl) ⟨Nat.zero_le _, Nat.zero_le _⟩ dX7_quiet_8 rfl (z_rnR fun I2 R2 hZ2 => ?_)
  obtain ⟨hr2, hA2, f2⟩ := hZ2
  rw [hr2]
  refine z_iconst (q := 12) (v := nI 0) dX7_quiet_11 (by rfl) rfl ?_
  refine z_istore_n (q := 13) dX7_quiet_12 rfl (by decide) rfl ?_
  exact loop 201 0 st g np I2 R rfl (by omega) hA2 hI rfl (fun q hq => ⟨f2 q (by omega), rfl⟩)

