/-! THE REFERENCE, foretelling: rise, peak, quiet, fell -/
def rsS (room : Nat) : Nat → Nat → (Nat → Int32) → Int32
  | 0, _, _ => -4
  | f + 1, i, g => if mStep g (9 + 6 * room + 2) ≤ g (9 + 6 * room + 2) then rsS room f (i + 1) (mStep g) else nI i
def sp_rise (g : Nat → Int32) (x : Int32) : Int32 := if x < 0 ∨ g 0 ≤ x then -1 else rsS x.toNatClampNeg 200 1 (begN g)
set_option maxRecDepth 100000 in
set_option maxHeartbeats 4000000 in
theorem c_X8_rise (G : zG) {n : Nat} {T : zTT} {I : zII} {R : zRR} (m nr nd np st : Nat) (x : Int32) (hM : z_Mod T R m) (hI : INV nr nd np st (I (m + 1))) (hst : st < 80000) : Ct G yX8_rise wsX8_rise (5, 0, 0) [.ref m, .int x] n T I R (z_rel (some (.int (sp_rise (I (m + 1)) x))) n T (fun I' R' => R' = R ∧ z_scr m I I')) := by
  refine Ct.ofX (M := muX8_rise) (ls := [(0, .ref m), (1, .int x)]) (by decide +kernel) rfl (by decide) rfl rfl (Nat.le_of_ble_eq_true rfl) ?_
  have hTm := hM.1
  have hnr := hI.1.2
  obtain ⟨-, ⟨hTs, hRs⟩, ⟨hTw, hRw⟩, -⟩ := id hM
  refine z_aload_n (q := 1) dX8_rise_0 rfl rfl rfl ?_
  refine z_iload_n (q := 2) dX8_rise_1 rfl rfl rfl ?_
  refine z_invV (q := 5) (c_X8_isRoom G m x hM) (by with_reducible assumption) rfl gX8_rise_X8_isRoom rfl hy_X8_isRoom rfl rfl rfl rfl (Nat.le_of_ble_eq_true rfl) ⟨Nat.zero_le _, Nat.zero_le _⟩ dX8_rise_2 rfl (z_rv ?_)
  by_cases hv : x < 0 ∨ I (m + 1) 0 ≤ x
  · rw [if_pos hv]
    refine z_if_ne (tgt := 10) (q := 8) dX8_rise_5 (by decide) rfl (fun hc => False.elim (hc rfl)) (fun _ => ?_)
    refine z_iconst (q := 9) (v := (-1)) dX8_rise_8 (by rfl) rfl ?_
    exact z_iret rfl dX8_rise_9 (Nat.zero_le _) (Nat.zero_le _) ⟨by rw [sp_rise, if_pos hv], rfl, rfl, rfl, fun _ _ _ => rfl⟩
  rw [if_neg hv]
  refine z_if_ne (tgt := 10) (q := 8) dX8_rise_5 (by decide) rfl (fun _ => ?_) (fun hc => False.elim (absurd hc (by decide)))
  obtain ⟨r, hr, rfl⟩ := z_ix hI.1.1 (by omega) hv
  have e : sp_rise (I (m + 1)) (nI r) = rsS r 200 1 (begN (I (m + 1))) := by rw [sp_rise, if_neg hv, nI_clamp (by omega)]
  rw [e]
  obtain ⟨np', hI2, -⟩ := begN_spec hI
  refine z_aload_n (q := 11) dX8_rise_10 rfl rfl rfl ?_
  refine z_iconst (q := 12) (v := nI 0) dX8_rise_11 (by rfl) rfl ?_
  refine z_invV (q := 15) (c_X8_begins_f G m nr nd np st hM hI) (by with_reducible assumption) rfl gX8_rise_X8_begins rfl hy_X8_begins rfl rfl rfl rfl (Nat.le_of_ble_eq_true rfl) ⟨Nat.zero_le _, Nat.zero_le _⟩ dX8_rise_12 rfl (z_rnR fun I3 R3 hZ3 => ?_)
  obtain ⟨rfl, h3, hF3⟩ := hZ3
  refine z_iconst (q := 16) (v := nI 1) dX8_rise_15 (by rfl) rfl ?_
  refine z_istore_n (q := 17) dX8_rise_16 rfl (by decide) rfl ?_
  have loop : ∀ d i st2 np2 I2, i + d = 201 → st2 < 90000 + i → INV nr nd np2 st2 (I2 (m + 2)) → z_scr m I I2 → rsS r d i (I2 (m + 2)) = rsS r 200 1 (begN (I (m + 1))) → ∀ ls : List (Nat × Value), lv_pick ls [0, 1, 2] = [(0, .ref m), (1, .int (nI r)), (2, .int (nI i))] → z_X G muX8_rise (5, 0, 0) (z_rel (some (.int (rsS r 200 1 (begN (I (m + 1)))))) n T (fun I' R' => R' = R3 ∧ z_scr m I I')) n T I2 R3 0 0 17 ls [] := by
    intro d
    induction d with
    | zero =>
      intro i st2 np2 I2 hd hst2 hI2 hF hE ls hls
      refine z_pick [0, 1, 2] hls ?_
      refine z_iload_n (q := 18) dX8_rise_17 rfl rfl rfl ?_
      refine z_sipush (q := 21) (v := nI 200) dX8_rise_18 (by rfl) rfl ?_
      refine z_icmpn_gt (rfl) (rfl) (by omega) (by omega) (tgt := 63) (q := 24) dX8_rise_21 (by decide) rfl (fun _ => ?_) (fun hc => absurd hc (by omega))
      refine z_bipush (q := 65) (v := (-4)) dX8_rise_63 (by rfl) rfl ?_
      exact z_iret rfl dX8_rise_65 (Nat.zero_le _) (Nat.zero_le _) ⟨by rw [← hE]; rfl, rfl, rfl, rfl, hF⟩
    | succ d ih =>
      intro i st2 np2 I2 hd hst2 hI2 hF hE ls hls
      refine z_pick [0, 1, 2] hls ?_
      refine z_iload_n (q := 18) dX8_rise_17 rfl rfl rfl ?_
      refine z_sipush (q := 21) (v := nI 200) dX8_rise_18 (by rfl) rfl ?_
      refine z_icmpn_gt (rfl) (rfl) (by omega) (by omega) (tgt := 63) (q := 24) dX8_rise_21 (by decide) rfl (fun hc => absurd hc (by omega)) (fun _ => ?_)
      refine z_aload_n (q := 25) dX8_rise_24 rfl rfl rfl ?_
      refine z_getR (q := 28) 8 1 1 63 rfl (by decide) rfl rfl rfl (by with_reducible assumption) (by with_reducible assumption) dX8_rise_25 rfl ?_
      refine z_iload_n (q := 29) dX8_rise_28 rfl rfl rfl ?_
      refine z_iconst (q := 30) (v := nI 2) dX8_rise_29 (by rfl) rfl ?_
      refine z_invS (q := 33) (c_X8_inRoom G (m + 2) r 2 hTw (by omega)) gX8_rise_X8_inRoom rfl hy_X8_inRoom rfl rfl rfl rfl (Nat.le_of_ble_eq_true rfl) ⟨Nat.zero_le _, Nat.zero_le _⟩ dX8_rise_30 rfl (z_rv ?_)
      refine z_istore_n (q := 34) dX8_rise_33 rfl (by decide) rfl ?_
      refine z_aload_n (q := 35) dX8_rise_34 rfl rfl rfl ?_
      refine z_aload_n (q := 36) dX8_rise_35 rfl rfl rfl ?_
      refine z_getR (q := 39) 8 1 1 63 rfl (by decide) rfl rfl rfl (by with_reducible assumption) (by with_reducible assumption) dX8_rise_36 rfl ?_
      refine z_invV (q := 42) (c_X8_goes G m (m + 2) nr nd np2 st2 hM hTw (by omega) hI2 (by omega)) (by with_reducible assumption) rfl gX8_rise_X8_goes rfl hy_X8_goes rfl rfl rfl rfl (Nat.le_of_ble_eq_true rfl) ⟨Nat.zero_le _, Nat.zero_le _⟩ dX8_rise_39 rfl (z_rnR fun I4 R4 hZ4 => ?_)
      obtain ⟨rfl, h4⟩ := hZ4
      obtain ⟨np3, hI4⟩ := mStep_INV hI2 (by omega)
      have hF4 : z_scr m I I4 := fun q h1 h2 => by rw [h4.2 q h1 h2]; exact hF q h1 h2
      rw [rsS] at hE
      refine z_aload_n (q := 43) dX8_rise_42 rfl rfl rfl ?_
      refine z_getR (q := 46) 8 1 1 63 rfl (by decide) rfl rfl rfl (by with_reducible assumption) (by with_reducible assumption) dX8_rise_43 rfl ?_
      refine z_iload_n (q := 47) dX8_rise_46 rfl rfl rfl ?_
      refine z_iconst (q := 48) (v := nI 2) dX8_rise_47 (by rfl) rfl ?_
      refine z_invS (q := 51) (c_X8_inRoom G (m + 2) r 2 hTw (by omega)) gX8_rise_X8_inRoom rfl hy_X8_inRoom rfl rfl rfl rfl (Nat.le_of_ble_eq_true rfl) ⟨Nat.zero_le _, Nat.zero_le _⟩ dX8_rise_48 rfl (z_rv ?_)
      refine z_iload_n (q := 52) dX8_rise_51 rfl rfl rfl ?_
      rw [h4.1]
      refine z_icmp_le (tgt := 57) (q := 55) dX8_rise_52 (by decide) rfl (fun hc => ?_) (fun hc => ?_)
      · rw [if_pos hc] at hE
        refine z_iinc (q := 60) dX8_rise_57 rfl (nI_add _ 1) (by decide) rfl ?_
        refine z_goto (q := 17) dX8_rise_60 (by decide) ?_
        exact ih (i + 1) (st2 + 1) np3 I4 (by omega) (by omega) (by rw [h4.1]; exact hI4) hF4 (by rw [h4.1]; exact hE) _ rfl
      · rw [if_neg hc] at hE
        refine z_iload_n (q := 56) dX8_rise_55 rfl rfl rfl ?_
        exact z_iret rfl dX8_rise_56 (Nat.zero_le _) (Nat.zero_le _) ⟨by rw [← hE], rfl, rfl, rfl, hF4⟩
  exact loop 200 1 st np' I3 (by omega) (by omega) (by rw [h3]; exact hI2) hF3 (by rw [h3]) _ rfl
/-- the peak: (behind how many steps, how much) -/
def pkS (room : Nat) : Nat → Nat → (Nat → Int32) → Int32 → Int32 → Int32 × Int32
  | 0, _, _, fo, mo => (fo, mo)
  | f + 1, i, g, fo, mo => if mStep g (9 + 6 * room + 2) ≤ mo then pkS room f (i + 1) (mStep g) fo mo else pkS room f (i + 1) (mStep g) (nI i) (mStep g (9 + 6 * room + 2))
def peakQ (g : Nat → Int32) (r : Nat) (w : Int32) : Int32 := if w = 0 then (pkS r 200 1 g (nI 0) (g (9 + 6 * r + 2))).1 else (pkS r 200 1 g (nI 0) (g (9 + 6 * r + 2))).2
def sp_peak (g : Nat → Int32) (x w : Int32) : Int32 := if x < 0 ∨ g 0 ≤ x then -1 else if w < nI 0 ∨ nI 1 < w then -1 else peakQ g x.toNatClampNeg w
set_option maxRecDepth 100000 in
set_option maxHeartbeats 4000000 in
theorem c_X8_peak (G : zG) {n : Nat} {T : zTT} {I : zII} {R : zRR} (m nr nd np st : Nat) (x w : Int32) (hM : z_Mod T R m) (hI : INV nr nd np st (I (m + 1))) (hst : st < 80000) : Ct G yX8_peak wsX8_peak (5, 0, 0) [.ref m, .int x, .int w] n T I R (z_rel (some (.int (sp_peak (I (m + 1)) x w))) n T (fun I' R' => R' = R ∧ z_scr m I I')) := by
  refine Ct.ofX (M := muX8_peak) (ls := [(0, .ref m), (1, .int x), (2, .int w)]) (by decide +kernel) rfl (by decide) rfl rfl (Nat.le_of_ble_eq_true rfl) ?_
  have hTm := hM.1
  have hnr := hI.1.2
  obtain ⟨-, ⟨hTs, hRs⟩, ⟨hTw, hRw⟩, -⟩ := id hM
  have bad : sp_peak (I (m + 1)) x w = -1 → z_X G muX8_peak (5, 0, 0) (z_rel (some (.int (sp_peak (I (m + 1)) x w))) n T (fun I' R' => R' = R ∧ z_scr m I I')) n T I R 0 0 17 [(0, .ref m), (1, .int x), (2, .int w)] [] := by
    intro hb
    refine z_iconst (q := 18) (v := (-1)) dX8_peak_17 (by rfl) rfl ?_
    exact z_iret rfl dX8_peak_18 (Nat.zero_le _) (Nat.zero_le _) ⟨by rw [hb], rfl, rfl, rfl, fun _ _ _ => rfl⟩
  refine z_aload_n (q := 1) dX8_peak_0 rfl rfl rfl ?_
  refine z_iload_n (q := 2) dX8_peak_1 rfl rfl rfl ?_
  refine z_invV (q := 5) (c_X8_isRoom G m x hM) (by with_reducible assumption) rfl gX8_peak_X8_isRoom rfl hy_X8_isRoom rfl rfl rfl rfl (Nat.le_of_ble_eq_true rfl) ⟨Nat.zero_le _, Nat.zero_le _⟩ dX8_peak_2 rfl (z_rv ?_)
  by_cases hv : x < 0 ∨ I (m + 1) 0 ≤ x
  · rw [if_pos hv]
    refine z_if_eq (tgt := 17) (q := 8) dX8_peak_5 (by decide) rfl (fun _ => ?_) (fun hc => False.elim (hc rfl))
    exact bad (by rw [sp_peak, if_pos hv])
  rw [if_neg hv]
  refine z_if_eq (tgt := 17) (q := 8) dX8_peak_5 (by decide) rfl (fun hc => False.elim (absurd hc (by decide))) (fun _ => ?_)
  refine z_iload_n (q := 9) dX8_peak_8 rfl rfl rfl ?_
  refine z_iconst (q := 10) (v := nI 0) dX8_peak_9 (by rfl) rfl ?_
  refine z_iconst (q := 11) (v := nI 1) dX8_peak_10 (by rfl) rfl ?_
  refine z_invS (q := 14) (c_X8_in G w (nI 0) (nI 1)) gX8_peak_X8_in rfl hy_X8_in rfl rfl rfl rfl (Nat.le_of_ble_eq_true rfl) ⟨Nat.zero_le _, Nat.zero_le _⟩ dX8_peak_11 rfl (z_rv ?_)
  by_cases hz : w < nI 0 ∨ nI 1 < w
  · rw [if_pos hz]
    refine z_if_ne (tgt := 19) (q := 17) dX8_peak_14 (by decide) rfl (fun hc => False.elim (hc rfl)) (fun _ => ?_)
    exact bad (by rw [sp_peak, if_neg hv, if_pos hz])
  rw [if_neg hz]
  refine z_if_ne (tgt := 19) (q := 17) dX8_peak_14 (by decide) rfl (fun _ => ?_) (fun hc => False.elim (absurd hc (by decide)))
  obtain ⟨r, hr, rfl⟩ := z_ix hI.1.1 (by omega) hv
  have e : sp_peak (I (m + 1)) (nI r) w = peakQ (I (m + 1)) r w := by rw [sp_peak, if_neg hv, if_neg hz, nI_clamp (by omega)]
  rw [e]
  refine z_aload_n (q := 20) dX8_peak_19 rfl rfl rfl ?_
  refine z_iconst (q := 21) (v := nI 1) dX8_peak_20 (by rfl) rfl ?_
  refine z_invV (q := 24) (c_X8_begins_t G m nr nd np st hM hI) (by with_reducible assumption) rfl gX8_peak_X8_begins rfl hy_X8_begins rfl rfl rfl rfl (Nat.le_of_ble_eq_true rfl) ⟨Nat.zero_le _, Nat.zero_le _⟩ dX8_peak_21 rfl (z_rnR fun I3 R3 hZ3 => ?_)
  obtain ⟨rfl, h3, hF3⟩ := hZ3
  refine z_aload_n (q := 25) dX8_peak_24 rfl rfl rfl ?_
  refine z_getR (q := 28) 8 1 1 63 rfl (by decide) rfl rfl rfl (by with_reducible assumption) (by with_reducible assumption) dX8_peak_25 rfl ?_
  refine z_iload_n (q := 29) dX8_peak_28 rfl rfl rfl ?_
  refine z_iconst (q := 30) (v := nI 2) dX8_peak_29 (by rfl) rfl ?_
  refine z_invS (q := 33) (c_X8_inRoom G (m + 2) r 2 hTw (by omega)) gX8_peak_X8_inRoom rfl hy_X8_inRoom rfl rfl rfl rfl (Nat.le_of_ble_eq_true rfl) ⟨Nat.zero_le _, Nat.zero_le _⟩ dX8_peak_30 rfl (z_rv ?_)
  refine z_istore_n (q := 34) dX8_peak_33 rfl (by decide) rfl ?_
  refine z_iconst (q := 35) (v := nI 0) dX8_peak_34 (by rfl) rfl ?_
  refine z_istore (q := 37) dX8_peak_35 (by decide) rfl ?_
  refine z_iconst (q := 38) (v := nI 1) dX8_peak_37 (by rfl) rfl ?_
  refine z_istore (q := 40) dX8_peak_38 (by decide) rfl ?_
  rw [h3]
  generalize hres : pkS r 200 1 (I (m + 1)) (nI 0) (I (m + 1) (9 + 6 * r + 2)) = res
  have hQ : peakQ (I (m + 1)) r w = if w = 0 then res.1 else res.2 := by rw [peakQ, hres]
  rw [hQ]
  have loop : ∀ d i st2 np2 fo mo I2, i + d = 201 → st2 < 90000 + i → INV nr nd np2 st2 (I2 (m + 2)) → z_scr m I I2 → pkS r d i (I2 (m + 2)) fo mo = res → ∀ ls : List (Nat × Value), lv_pick ls [0, 1, 2, 3, 4, 5] = [(0, .ref m), (1, .int (nI r)), (2, .int w), (3, .int mo), (4, .int fo), (5, .int (nI i))] → z_X G muX8_peak (5, 0, 0) (z_rel (some (.int (if w = 0 then res.1 else res.2))) n T (fun I' R' => R' = R3 ∧ z_scr m I I')) n T I2 R3 0 0 40 ls [] := by
    intro d
    induction d with
    | zero =>
      intro i st2 np2 fo mo I2 hd hst2 hI2 hF hE ls hls
      refine z_pick [0, 1, 2, 3, 4, 5] hls ?_
      refine z_iload (q := 42) (i := 5) dX8_peak_40 rfl rfl ?_
      refine z_sipush (q := 45) (v := nI 200) dX8_peak_42 (by rfl) rfl ?_
      refine z_icmpn_gt (rfl) (rfl) (by omega) (by omega) (tgt := 115) (q := 48) dX8_peak_45 (by decide) rfl (fun _ => ?_) (fun hc => absurd hc (by omega))
      refine z_iload_n (q := 116) dX8_peak_115 rfl rfl rfl ?_
      rw [pkS] at hE
      refine z_if_ne (tgt := 124) (q := 119) dX8_peak_116 (by decide) rfl (fun hc => ?_) (fun hc => ?_)
      · refine z_iload_n (q := 125) dX8_peak_124 rfl rfl rfl ?_
        exact z_iret rfl dX8_peak_125 (Nat.zero_le _) (Nat.zero_le _) ⟨by rw [if_neg hc, ← hE], rfl, rfl, rfl, hF⟩
      · refine z_iload (q := 121) (i := 4) dX8_peak_119 rfl rfl ?_
        refine z_goto (q := 125) dX8_peak_121 (by decide) ?_
        exact z_iret rfl dX8_peak_125 (Nat.zero_le _) (Nat.zero_le _) ⟨by rw [if_pos hc, ← hE], rfl, rfl, rfl, hF⟩
    | succ d ih =>
      intro i st2 np2 fo mo I2 hd hst2 hI2 hF hE ls hls
      refine z_pick [0, 1, 2, 3, 4, 5] hls ?_
      refine z_iload (q := 42) (i := 5) dX8_peak_40 rfl rfl ?_
      refine z_sipush (q := 45) (v := nI 200) dX8_peak_42 (by rfl) rfl ?_
      refine z_icmpn_gt (rfl) (rfl) (by omega) (by omega) (tgt := 115) (q := 48) dX8_peak_45 (by decide) rfl (fun hc => absurd hc (by omega)) (fun _ => ?_)
      refine z_aload_n (q := 49) dX8_peak_48 rfl rfl rfl ?_
      refine z_aload_n (q := 50) dX8_peak_49 rfl rfl rfl ?_
      refine z_getR (q := 53) 8 1 1 63 rfl (by decide) rfl rfl rfl (by with_reducible assumption) (by with_reducible assumption) dX8_peak_50 rfl ?_
      refine z_invV (q := 56) (c_X8_goes G m (m + 2) nr nd np2 st2 hM hTw (by omega) hI2 (by omega)) (by with_reducible assumption) rfl gX8_peak_X8_goes rfl hy_X8_goes rfl rfl rfl rfl (Nat.le_of_ble_eq_true rfl) ⟨Nat.zero_le _, Nat.zero_le _⟩ dX8_peak_53 rfl (z_rnR fun I4 R4 hZ4 => ?_)
      obtain ⟨rfl, h4⟩ := hZ4
      obtain ⟨np3, hI4⟩ := mStep_INV hI2 (by omega)
      have hF4 : z_scr m I I4 := fun q h1 h2 => by rw [h4.2 q h1 h2]; exact hF q h1 h2
      rw [pkS] at hE
      refine z_aload_n (q := 57) dX8_peak_56 rfl rfl rfl ?_
      refine z_getR (q := 60) 8 1 1 63 rfl (by decide) rfl rfl rfl (by with_reducible assumption) (by with_reducible assumption) dX8_peak_57 rfl ?_
      refine z_iload_n (q := 61) dX8_peak_60 rfl rfl rfl ?_
      refine z_iconst (q := 62) (v := nI 2) dX8_peak_61 (by rfl) rfl ?_
      refine z_invS (q := 65) (c_X8_inRoom G (m + 2) r 2 hTw (by omega)) gX8_peak_X8_inRoom rfl hy_X8_inRoom rfl rfl rfl rfl (Nat.le_of_ble_eq_true rfl) ⟨Nat.zero_le _, Nat.zero_le _⟩ dX8_peak_62 rfl (z_rv ?_)
      refine z_iload_n (q := 66) dX8_peak_65 rfl rfl rfl ?_
      rw [h4.1]
      refine z_icmp_le (tgt := 73) (q := 69) dX8_peak_66 (by decide) rfl (fun hc => ?_) (fun hc => ?_)
      · rw [if_pos hc] at hE
        refine z_iconst (q := 74) (v := nI 0) dX8_peak_73 (by rfl) rfl ?_
        refine z_istore (q := 76) dX8_peak_74 (by decide) rfl ?_
        refine z_iload (q := 78) (i := 6) dX8_peak_76 rfl rfl ?_
        refine z_if_eq (tgt := 86) (q := 81) dX8_peak_78 (by decide) rfl (fun _ => ?_) (fun hc => False.elim (hc rfl))
        refine z_iload (q := 88) (i := 4) dX8_peak_86 rfl rfl ?_
        refine z_istore (q := 90) dX8_peak_88 (by decide) rfl ?_
        refine z_iload (q := 92) (i := 6) dX8_peak_90 rfl rfl ?_
        refine z_if_eq (tgt := 107) (q := 95) dX8_peak_92 (by decide) rfl (fun _ => ?_) (fun hc => False.elim (hc rfl))
        refine z_iload_n (q := 108) dX8_peak_107 rfl rfl rfl ?_
        refine z_istore_n (q := 109) dX8_peak_108 rfl (by decide) rfl ?_
        refine z_iinc (q := 112) dX8_peak_109 rfl (nI_add _ 1) (by decide) rfl ?_
        refine z_goto (q := 40) dX8_peak_112 (by decide) ?_
        exact ih (i + 1) (st2 + 1) np3 fo mo I4 (by omega) (by omega) (by rw [h4.1]; exact hI4) hF4 (by rw [h4.1]; exact hE) _ rfl
      · rw [if_neg hc] at hE
        refine z_iconst (q := 70) (v := nI 1) dX8_peak_69 (by rfl) rfl ?_
        refine z_goto (q := 74) dX8_peak_70 (by decide) ?_
        refine z_istore (q := 76) dX8_peak_74 (by decide) rfl ?_
        refine z_iload (q := 78) (i := 6) dX8_peak_76 rfl rfl ?_
        refine z_if_eq (tgt := 86) (q := 81) dX8_peak_78 (by decide) rfl (fun hc => False.elim (absurd hc (by decide))) (fun _ => ?_)
        refine z_iload (q := 83) (i := 5) dX8_peak_81 rfl rfl ?_
        refine z_goto (q := 88) dX8_peak_83 (by decide) ?_
        refine z_istore (q := 90) dX8_peak_88 (by decide) rfl ?_
        refine z_iload (q := 92) (i := 6) dX8_peak_90 rfl rfl ?_
        refine z_if_eq (tgt := 107) (q := 95) dX8_peak_92 (by decide) rfl (fun hc => False.elim (absurd hc (by decide))) (fun _ => ?_)
        refine z_aload_n (q := 96) dX8_peak_95 rfl rfl rfl ?_
        refine z_getR (q := 99) 8 1 1 63 rfl (by decide) rfl rfl rfl (by with_reducible assumption) (by with_reducible assumption) dX8_peak_96 rfl ?_
        refine z_iload_n (q := 100) dX8_peak_99 rfl rfl rfl ?_
        refine z_iconst (q := 101) (v := nI 2) dX8_peak_100 (by rfl) rfl ?_
        refine z_invS (q := 104) (c_X8_inRoom G (m + 2) r 2 hTw (by omega)) gX8_peak_X8_inRoom rfl hy_X8_inRoom rfl rfl rfl rfl (Nat.le_of_ble_eq_true rfl) ⟨Nat.zero_le _, Nat.zero_le _⟩ dX8_peak_101 rfl (z_rv ?_)
        refine z_goto (q := 108) dX8_peak_104 (by decide) ?_
        refine z_istore_n (q := 109) dX8_peak_108 rfl (by decide) rfl ?_
        refine z_iinc (q := 112) dX8_peak_109 rfl (nI_add _ 1) (by decide) rfl ?_
        refine z_goto (q := 40) dX8_peak_112 (by decide) ?_
        rw [h4.1]
        exact ih (i + 1) (st2 + 1) np3 _ _ I4 (by omega) (by omega) (by rw [h4.1]; exact hI4) hF4 (by rw [h4.1]; exact hE) _ rfl
  exact loop 200 1 st np _ _ I3 (by omega) (by omega) (by rw [h3]; exact hI) hF3 (by rw [h3]; exact hres) _ rfl
def hsS (g : Nat → Int32) : Nat → Int32
  | 0 => nI 0
  | k + 1 => if ¬ hsS g k = 0 ∨ g (321 + 5 * k + 1) = 0 then nI 1 else nI 0
set_option maxRecDepth 100000 in
set_option maxHeartbeats 4000000 in
theorem c_X8_hasSound (G : zG) {n : Nat} {T : zTT} {I : zII} {R : zRR} (r np : Nat) (hT : T r = some (.inr (.int, 657))) (h2 : I r 2 = nI np) (hnp : np ≤ 16) : Ct G yX8_hasSound wsX8_hasSound (1, 0, 0) [.ref r] n T I R (z_ret (some (.int (hsS (I r) np))) n T I R) := by
  refine Ct.ofX (M := muX8_hasSound) (ls := [(0, .ref r)]) (by decide +kernel) rfl (by decide) rfl rfl (Nat.le_of_ble_eq_true rfl) ?_
  refine z_iconst (q := 1) (v := nI 0) dX8_hasSound_0 (by rfl) rfl ?_
  refine z_istore_n (q := 2) dX8_hasSound_1 rfl (by decide) rfl ?_
  refine z_iconst (q := 3) (v := nI 0) dX8_hasSound_2 (by rfl) rfl ?_
  refine z_istore_n (q := 4) dX8_hasSound_3 rfl (by decide) rfl ?_
  have h01 : ∀ k, hsS (I r) k = nI 0 ∨ hsS (I r) k = nI 1 := fun k => by
    cases k with
    | zero => exact Or.inl rfl
    | succ k =>
      rw [hsS]
      split
      · exact Or.inr rfl
      · exact Or.inl rfl
  have loop : ∀ i, i ≤ np → z_X G muX8_hasSound (1, 0, 0) (z_ret (some (.int (hsS (I r) np))) n T I R) n T I R 0 0 4 [(0, .ref r), (1, .int (hsS (I r) i)), (2, .int (nI i))] [] := by
    refine z_up (N := np) _ ?_ ?_
    · refine z_iload_n (q := 5) dX8_hasSound_4 rfl rfl rfl ?_
      refine z_aload_n (q := 6) dX8_hasSound_5 rfl rfl rfl ?_
      refine z_iconst (q := 7) (v := nI 2) dX8_hasSound_6 (by rfl) rfl ?_
      refine z_ialdV (q := 8) _ (by with_reducible assumption) (rfl) (by omega) (by decide) (h2) dX8_hasSound_7 rfl ?_
      refine z_icmpn_ge (rfl) (rfl) (by omega) (by omega) (tgt := 36) (q := 11) dX8_hasSound_8 (by decide) rfl (fun _ => ?_) (fun hc => absurd hc (by omega))
      refine z_iload_n (q := 37) dX8_hasSound_36 rfl rfl rfl ?_
      refine z_zret rfl ?_ dX8_hasSound_37 (Nat.zero_le _) (Nat.zero_le _) ⟨rfl, rfl, rfl, rfl, rfl⟩
      rcases h01 np with h | h <;> rw [h] <;> rfl
    · intro i hi ih
      refine z_iload_n (q := 5) dX8_hasSound_4 rfl rfl rfl ?_
      refine z_aload_n (q := 6) dX8_hasSound_5 rfl rfl rfl ?_
      refine z_iconst (q := 7) (v := nI 2) dX8_hasSound_6 (by rfl) rfl ?_
      refine z_ialdV (q := 8) _ (by with_reducible assumption) (rfl) (by omega) (by decide) (h2) dX8_hasSound_7 rfl ?_
      refine z_icmpn_ge (rfl) (rfl) (by omega) (by omega) (tgt := 36) (q := 11) dX8_hasSound_8 (by decide) rfl (fun hc => absurd hc (by omega)) (fun _ => ?_)
      refine z_iload_n (q := 12) dX8_hasSound_11 rfl rfl rfl ?_
      refine z_if_ne (tgt := 24) (q := 15) dX8_hasSound_12 (by decide) rfl (fun hc => ?_) (fun hc => ?_)
      · refine z_iconst (q := 25) (v := nI 1) dX8_hasSound_24 (by rfl) rfl ?_
        refine z_goto (q := 29) dX8_hasSound_25 (by decide) ?_
        refine z_istore_n (q := 30) dX8_hasSound_29 rfl (by decide) rfl ?_
        refine z_iinc (q := 33) dX8_hasSound_30 rfl (nI_add _ 1) (by decide) rfl ?_
        refine z_goto (q := 4) dX8_hasSound_33 (by decide) ?_
        have e1 : hsS (I r) (i + 1) = nI 1 := by rw [hsS, if_pos (Or.inl hc)]
        rw [e1] at ih
        exact ih
      · refine z_aload_n (q := 16) dX8_hasSound_15 rfl rfl rfl ?_
        refine z_iload_n (q := 17) dX8_hasSound_16 rfl rfl rfl ?_
        refine z_iconst (q := 18) (v := nI 1) dX8_hasSound_17 (by rfl) rfl ?_
        refine z_invS (q := 21) (c_X8_entry G r i 1 hT (by omega)) gX8_hasSound_X8_entry rfl hy_X8_entry rfl rfl rfl rfl (Nat.le_of_ble_eq_true rfl) ⟨Nat.zero_le _, Nat.zero_le _⟩ dX8_hasSound_18 rfl (z_rv ?_)
        refine z_if_ne (tgt := 28) (q := 24) dX8_hasSound_21 (by decide) rfl (fun hd => ?_) (fun hd => ?_)
        · refine z_iconst (q := 29) (v := nI 0) dX8_hasSound_28 (by rfl) rfl ?_
          refine z_istore_n (q := 30) dX8_hasSound_29 rfl (by decide) rfl ?_
          refine z_iinc (q := 33) dX8_hasSound_30 rfl (nI_add _ 1) (by decide) rfl ?_
          refine z_goto (q := 4) dX8_hasSound_33 (by decide) ?_
          have e1 : hsS (I r) (i + 1) = nI 0 := by rw [hsS, if_neg (fun q => q.elim (fun z => z hc) hd)]
          rw [e1] at ih
          exact ih
        · refine z_iconst (q := 25) (v := nI 1) dX8_hasSound_24 (by rfl) rfl ?_
          refine z_goto (q := 29) dX8_hasSound_25 (by decide) ?_
          refine z_istore_n (q := 30) dX8_hasSound_29 rfl (by decide) rfl ?_
          refine z_iinc (q := 33) dX8_hasSound_30 rfl (nI_add _ 1) (by decide) rfl ?_
          refine z_goto (q := 4) dX8_hasSound_33 (by decide) ?_
          have e1 : hsS (I r) (i + 1) = nI 1 := by rw [hsS, if_pos (Or.inr hd)]
          rw [e1] at ih
          exact ih
  exact loop 0 (Nat.zero_le _)
def allR (g : Nat → Int32) (w : Nat) : Int32 := sumI (fun i => g (9 + 6 * i + w)) (gN g 0)
def allW (g : Nat → Int32) : Int32 := sumI (fun d => sumI (fun i => g (177 + 12 * d + i)) 12) (gN g 1)
abbrev qtC (g : Nat → Int32) : Prop := ¬ g 8 < allR g 2 + allW g ∧ hsS g (gN g 2) = 0
def qtS : Nat → Nat → (Nat → Int32) → Int32
  | 0, _, _ => -4
  | f + 1, i, g => if qtC g then nI i else qtS f (i + 1) (mStep g)
def sp_quiet (g : Nat → Int32) : Int32 := qtS 201 0 g
set_option maxRecDepth 100000 in
set_option maxHeartbeats 4000000 in
theorem c_X8_quiet (G : zG) {n : Nat} {T : zTT} {I : zII} {R : zRR} (m nr nd np st : Nat) (hM : z_Mod T R m) (hI : INV nr nd np st (I (m + 1))) (hst : st < 80000) : Ct G yX8_quiet wsX8_quiet (5, 0, 0) [.ref m] n T I R (z_rel (some (.int (sp_quiet (I (m + 1))))) n T (fun I' R' => R' = R ∧ z_scr m I I')) := by
  refine Ct.ofX (M := muX8_quiet) (ls := [(0, .ref m)]) (by decide +kernel) rfl (by decide) rfl rfl (Nat.le_of_ble_eq_true rfl) ?_
  have hTm := hM.1
  obtain ⟨-, ⟨hTs, hRs⟩, ⟨hTw, hRw⟩, -⟩ := id hM
  refine z_aload_n (q := 1) dX8_quiet_0 rfl rfl rfl ?_
  refine z_iconst (q := 2) (v := nI 1) dX8_quiet_1 (by rfl) rfl ?_
  refine z_invV (q := 5) (c_X8_begins_t G m nr nd np st hM hI) (by with_reducible assumption) rfl gX8_quiet_X8_begins rfl hy_X8_begins rfl rfl rfl rfl (Nat.le_of_ble_eq_true rfl) ⟨Nat.zero_le _, Nat.zero_le _⟩ dX8_quiet_2 rfl (z_rnR fun I3 R3 hZ3 => ?_)
  obtain ⟨rfl, h3, hF3⟩ := hZ3
  refine z_iconst (q := 6) (v := nI 0) dX8_quiet_5 (by rfl) rfl ?_
  refine z_istore_n (q := 7) dX8_quiet_6 rfl (by decide) rfl ?_
  have loop : ∀ d i st2 np2 I2, i + d = 201 → st2 < 90000 + i → INV nr nd np2 st2 (I2 (m + 2)) → z_scr m I I2 → qtS d i (I2 (m + 2)) = sp_quiet (I (m + 1)) → z_X G muX8_quiet (5, 0, 0) (z_rel (some (.int (sp_quiet (I (m + 1))))) n T (fun I' R' => R' = R3 ∧ z_scr m I I')) n T I2 R3 0 0 7 [(0, .ref m), (1, .int (nI i))] [] := by
    intro d
    induction d with
    | zero =>
      intro i st2 np2 I2 hd hst2 hI2 hF hE
      refine z_iload_n (q := 8) dX8_quiet_7 rfl rfl rfl ?_
      refine z_sipush (q := 11) (v := nI 200) dX8_quiet_8 (by rfl) rfl ?_
      refine z_icmpn_gt (rfl) (rfl) (by omega) (by omega) (tgt := 66) (q := 14) dX8_quiet_11 (by decide) rfl (fun _ => ?_) (fun hc => absurd hc (by omega))
      refine z_bipush (q := 68) (v := (-4)) dX8_quiet_66 (by rfl) rfl ?_
      exact z_iret rfl dX8_quiet_68 (Nat.zero_le _) (Nat.zero_le _) ⟨by rw [← hE]; rfl, rfl, rfl, rfl, hF⟩
    | succ d ih =>
      intro i st2 np2 I2 hd hst2 hI2 hF hE
      have hnr := hI2.1.2
      have hnd := hI2.2.1.2
      have hnp := hI2.2.2.1.2
      have g0 : gN (I2 (m + 2)) 0 = nr := gN_of hI2.1.1 (by omega)
      have g1 : gN (I2 (m + 2)) 1 = nd := gN_of hI2.2.1.1 (by omega)
      have g2 : gN (I2 (m + 2)) 2 = np2 := gN_of hI2.2.2.1.1 (by omega)
      have cont : ¬ qtC (I2 (m + 2)) → z_X G muX8_quiet (5, 0, 0) (z_rel (some (.int (sp_quiet (I (m + 1))))) n T (fun I' R' => R' = R3 ∧ z_scr m I I')) n T I2 R3 0 0 52 [(0, .ref m), (1, .int (nI i))] [] := by
        intro hn
        rw [qtS, if_neg hn] at hE
        refine z_aload_n (q := 53) dX8_quiet_52 rfl rfl rfl ?_
        refine z_aload_n (q := 54) dX8_quiet_53 rfl rfl rfl ?_
        refine z_getR (q := 57) 8 1 1 71 rfl (by decide) rfl rfl rfl (by with_reducible assumption) (by with_reducible assumption) dX8_quiet_54 rfl ?_
        refine z_invV (q := 60) (c_X8_goes G m (m + 2) nr nd np2 st2 hM hTw (by omega) hI2 (by omega)) (by with_reducible assumption) rfl gX8_quiet_X8_goes rfl hy_X8_goes rfl rfl rfl rfl (Nat.le_of_ble_eq_true rfl) ⟨Nat.zero_le _, Nat.zero_le _⟩ dX8_quiet_57 rfl (z_rnR fun I4 R4 hZ4 => ?_)
        obtain ⟨rfl, h4⟩ := hZ4
        obtain ⟨np3, hI4⟩ := mStep_INV hI2 (by omega)
        refine z_iinc (q := 63) dX8_quiet_60 rfl (nI_add _ 1) (by decide) rfl ?_
        refine z_goto (q := 7) dX8_quiet_63 (by decide) ?_
        exact ih (i + 1) (st2 + 1) np3 I4 (by omega) (by omega) (by rw [h4.1]; exact hI4) (fun q h1 h2 => by rw [h4.2 q h1 h2]; exact hF q h1 h2) (by rw [h4.1]; exact hE)
      refine z_iload_n (q := 8) dX8_quiet_7 rfl rfl rfl ?_
      refine z_sipush (q := 11) (v := nI 200) dX8_quiet_8 (by rfl) rfl ?_
      refine z_icmpn_gt (rfl) (rfl) (by omega) (by omega) (tgt := 66) (q := 14) dX8_quiet_11 (by decide) rfl (fun hc => absurd hc (by omega)) (fun _ => ?_)
      refine z_aload_n (q := 15) dX8_quiet_14 rfl rfl rfl ?_
      refine z_getR (q := 18) 8 1 1 71 rfl (by decide) rfl rfl rfl (by with_reducible assumption) (by with_reducible assumption) dX8_quiet_15 rfl ?_
      refine z_iconst (q := 19) (v := nI 2) dX8_quiet_18 (by rfl) rfl ?_
      refine z_invS (q := 22) (c_X8_sumOf G (m + 2) 2 nr hTw (by decide) hI2.1.1 hnr) gX8_quiet_X8_sumOf rfl hy_X8_sumOf rfl rfl rfl rfl (Nat.le_of_ble_eq_true rfl) ⟨Nat.zero_le _, Nat.zero_le _⟩ dX8_quiet_19 rfl (z_rv ?_)
      refine z_aload_n (q := 23) dX8_quiet_22 rfl rfl rfl ?_
      refine z_getR (q := 26) 8 1 1 71 rfl (by decide) rfl rfl rfl (by with_reducible assumption) (by with_reducible assumption) dX8_quiet_23 rfl ?_
      refine z_invS (q := 29) (c_X8_allOnWay G (m + 2) nd hTw hI2.2.1.1 hnd) gX8_quiet_X8_allOnWay rfl hy_X8_allOnWay rfl rfl rfl rfl (Nat.le_of_ble_eq_true rfl) ⟨Nat.zero_le _, Nat.zero_le _⟩ dX8_quiet_26 rfl (z_rv ?_)
      refine z_iadd (q := 30) dX8_quiet_29 rfl ?_
      refine z_aload_n (q := 31) dX8_quiet_30 rfl rfl rfl ?_
      refine z_getR (q := 34) 8 1 1 71 rfl (by decide) rfl rfl rfl (by with_reducible assumption) (by with_reducible assumption) dX8_quiet_31 rfl ?_
      refine z_bipush (q := 36) (v := nI 8) dX8_quiet_34 (by rfl) rfl ?_
      refine z_iald (q := 37) _ (by with_reducible assumption) (rfl) (by omega) (by decide) dX8_quiet_36 rfl ?_
      have es : sumI (fun i => I2 (m + 2) (9 + 6 * i + 2)) nr + sumI (fun d => sumI (fun i => I2 (m + 2) (177 + 12 * d + i)) 12) nd = allR (I2 (m + 2)) 2 + allW (I2 (m + 2)) := by rw [allR, allW, g0, g1]
      rw [es]
      refine z_icmp_gt (tgt := 52) (q := 40) dX8_quiet_37 (by decide) rfl (fun hc => ?_) (fun hc => ?_)
      · exact cont (fun q => q.1 hc)
      · refine z_aload_n (q := 41) dX8_quiet_40 rfl rfl rfl ?_
        refine z_getR (q := 44) 8 1 1 71 rfl (by decide) rfl rfl rfl (by with_reducible assumption) (by with_reducible assumption) dX8_quiet_41 rfl ?_
        refine z_invS (q := 47) (c_X8_hasSound G (m + 2) np2 hTw hI2.2.2.1.1 hnp) gX8_quiet_X8_hasSound rfl hy_X8_hasSound rfl rfl rfl rfl (Nat.le_of_ble_eq_true rfl) ⟨Nat.zero_le _, Nat.zero_le _⟩ dX8_quiet_44 rfl (z_rv ?_)
        refine z_if_ne (tgt := 52) (q := 50) dX8_quiet_47 (by decide) rfl (fun hd7 => ?_) (fun hd7 => ?_)
        · exact cont (fun q => hd7 (by rw [← g2]; exact q.2))
        · rw [qtS, if_pos ⟨hc, by rw [g2]; exact hd7⟩] at hE
          refine z_iload_n (q := 51) dX8_quiet_50 rfl rfl rfl ?_
          exact z_iret rfl dX8_quiet_51 (Nat.zero_le _) (Nat.zero_le _) ⟨by rw [← hE], rfl, rfl, rfl, hF⟩
  exact loop 201 0 st np I3 (by omega) (by omega) (by rw [h3]; exact hI) hF3 (by rw [h3]; rfl)
def fellQ (g : Nat → Int32) (r s : Nat) : Int32 := if lvl (g (401 + 32 * r + s - 1)) 31 = -4 ∨ lvl (g (9 + 6 * r + 2)) 31 = -4 then -4 else nI 100 + lvl (g (401 + 32 * r + s - 1)) 31 - lvl (g (9 + 6 * r + 2)) 31
def sp_fell (g : Nat → Int32) (x y : Int32) : Int32 := if x < 0 ∨ g 0 ≤ x then -1 else if y < nI 1 ∨ nI 32 < y then -1 else if g 3 < y ∨ g 3 - y < g (9 + 6 * x.toNatClampNeg + 5) then -2 else fellQ g x.toNatClampNeg y.toNatClampNeg
set_option maxRecDepth 100000 in
set_option maxHeartbeats 4000000 in
theorem c_X8_fell (G : zG) {n : Nat} {T : zTT} {I : zII} {R : zRR} (m nr nd np st : Nat) (x y : Int32) (hM : z_Mod T R m) (hI : INV nr nd np st (I (m + 1))) : Ct G yX8_fell wsX8_fell (1, 0, 0) [.ref m, .int x, .int y] n T I R (z_ret (some (.int (sp_fell (I (m + 1)) x y))) n T I R) := by
  refine Ct.ofX (M := muX8_fell) (ls := [(0, .ref m), (1, .int x), (2, .int y)]) (by decide +kernel) rfl (by decide) rfl rfl (Nat.le_of_ble_eq_true rfl) ?_
  have hTm := hM.1
  have hnr := hI.1.2
  obtain ⟨-, ⟨hTs, hRs⟩, -⟩ := id hM
  have bad : sp_fell (I (m + 1)) x y = -1 → z_X G muX8_fell (1, 0, 0) (z_ret (some (.int (sp_fell (I (m + 1)) x y))) n T I R) n T I R 0 0 18 [(0, .ref m), (1, .int x), (2, .int y)] [] := by
    intro hb
    refine z_iconst (q := 19) (v := (-1)) dX8_fell_18 (by rfl) rfl ?_
    exact z_iret rfl dX8_fell_19 (Nat.zero_le _) (Nat.zero_le _) (⟨by rw [hb], rfl, rfl, rfl, rfl⟩)
  refine z_aload_n (q := 1) dX8_fell_0 rfl rfl rfl ?_
  refine z_iload_n (q := 2) dX8_fell_1 rfl rfl rfl ?_
  refine z_invV (q := 5) (c_X8_isRoom G m x hM) (by with_reducible assumption) rfl gX8_fell_X8_isRoom rfl hy_X8_isRoom rfl rfl rfl rfl (Nat.le_of_ble_eq_true rfl) ⟨Nat.zero_le _, Nat.zero_le _⟩ dX8_fell_2 rfl (z_rv ?_)
  by_cases hv : x < 0 ∨ I (m + 1) 0 ≤ x
  · rw [if_pos hv]
    refine z_if_eq (tgt := 18) (q := 8) dX8_fell_5 (by decide) rfl (fun _ => ?_) (fun hc => False.elim (hc rfl))
    exact bad (by rw [sp_fell, if_pos hv])
  rw [if_neg hv]
  refine z_if_eq (tgt := 18) (q := 8) dX8_fell_5 (by decide) rfl (fun hc => False.elim (absurd hc (by decide))) (fun _ => ?_)
  refine z_iload_n (q := 9) dX8_fell_8 rfl rfl rfl ?_
  refine z_iconst (q := 10) (v := nI 1) dX8_fell_9 (by rfl) rfl ?_
  refine z_bipush (q := 12) (v := nI 32) dX8_fell_10 (by rfl) rfl ?_
  refine z_invS (q := 15) (c_X8_in G y (nI 1) (nI 32)) gX8_fell_X8_in rfl hy_X8_in rfl rfl rfl rfl (Nat.le_of_ble_eq_true rfl) ⟨Nat.zero_le _, Nat.zero_le _⟩ dX8_fell_12 rfl (z_rv ?_)
  by_cases hz : y < nI 1 ∨ nI 32 < y
  · rw [if_pos hz]
    refine z_if_ne (tgt := 20) (q := 18) dX8_fell_15 (by decide) rfl (fun hc => False.elim (hc rfl)) (fun _ => ?_)
    exact bad (by rw [sp_fell, if_neg hv, if_pos hz])
  rw [if_neg hz]
  refine z_if_ne (tgt := 20) (q := 18) dX8_fell_15 (by decide) rfl (fun _ => ?_) (fun hc => False.elim (absurd hc (by decide)))
  obtain ⟨r, hr, rfl⟩ := z_ix hI.1.1 (by omega) hv
  obtain ⟨s, hs1, hs2, rfl⟩ := z_ix2 (by decide) (by decide) hz
  have hcr : (nI r).toNatClampNeg = r := nI_clamp (by omega)
  have hcs : (nI s).toNatClampNeg = s := nI_clamp (by omega)
  have e : sp_fell (I (m + 1)) (nI r) (nI s) = if I (m + 1) 3 < nI s ∨ I (m + 1) 3 - nI s < I (m + 1) (9 + 6 * r + 5) then -2 else fellQ (I (m + 1)) r s := by rw [sp_fell, if_neg hv, if_neg hz, hcr, hcs]
  rw [e]
  refine z_aload_n (q := 21) dX8_fell_20 rfl rfl rfl ?_
  refine z_getR (q := 24) 8 0 1 16 rfl (by decide) rfl rfl rfl (by with_reducible assumption) (by with_reducible assumption) dX8_fell_21 rfl ?_
  refine z_iconst (q := 25) (v := nI 3) dX8_fell_24 (by rfl) rfl ?_
  refine z_iald (q := 26) _ (by with_reducible assumption) (rfl) (by omega) (by decide) dX8_fell_25 rfl ?_
  refine z_iload_n (q := 27) dX8_fell_26 rfl rfl rfl ?_
  refine z_icmp_lt (tgt := 50) (q := 30) dX8_fell_27 (by decide) rfl (fun h27 => ?_) (fun h27 => ?_)
  · refine z_bipush (q := 52) (v := (-2)) dX8_fell_50 (by rfl) rfl ?_
    exact z_iret rfl dX8_fell_52 (Nat.zero_le _) (Nat.zero_le _) (⟨by rw [if_pos (Or.inl h27)], rfl, rfl, rfl, rfl⟩)
  · refine z_aload_n (q := 31) dX8_fell_30 rfl rfl rfl ?_
    refine z_getR (q := 34) 8 0 1 16 rfl (by decide) rfl rfl rfl (by with_reducible assumption) (by with_reducible assumption) dX8_fell_31 rfl ?_
    refine z_iload_n (q := 35) dX8_fell_34 rfl rfl rfl ?_
    refine z_iconst (q := 36) (v := nI 5) dX8_fell_35 (by rfl) rfl ?_
    refine z_invS (q := 39) (c_X8_inRoom G (m + 1) r 5 hTs (by omega)) gX8_fell_X8_inRoom rfl hy_X8_inRoom rfl rfl rfl rfl (Nat.le_of_ble_eq_true rfl) ⟨Nat.zero_le _, Nat.zero_le _⟩ dX8_fell_36 rfl (z_rv ?_)
    refine z_aload_n (q := 40) dX8_fell_39 rfl rfl rfl ?_
    refine z_getR (q := 43) 8 0 1 16 rfl (by decide) rfl rfl rfl (by with_reducible assumption) (by with_reducible assumption) dX8_fell_40 rfl ?_
    refine z_iconst (q := 44) (v := nI 3) dX8_fell_43 (by rfl) rfl ?_
    refine z_iald (q := 45) _ (by with_reducible assumption) (rfl) (by omega) (by decide) dX8_fell_44 rfl ?_
    refine z_iload_n (q := 46) dX8_fell_45 rfl rfl rfl ?_
    refine z_isub (q := 47) dX8_fell_46 rfl ?_
    refine z_icmp_le (tgt := 53) (q := 50) dX8_fell_47 (by decide) rfl (fun h47 => ?_) (fun h47 => ?_)
    · refine z_aload_n (q := 54) dX8_fell_53 rfl rfl rfl ?_
      refine z_getR (q := 57) 8 0 1 16 rfl (by decide) rfl rfl rfl (by with_reducible assumption) (by with_reducible assumption) dX8_fell_54 rfl ?_
      refine z_sipush (q := 60) (v := nI 401) dX8_fell_57 (by rfl) rfl ?_
      refine z_bipush (q := 62) (v := nI 32) dX8_fell_60 (by rfl) rfl ?_
      refine z_iload_n (q := 63) dX8_fell_62 rfl rfl rfl ?_
      refine z_imulE (q := 64) dX8_fell_63 (pk_mul _ _) rfl ?_
      refine z_iaddE (q := 65) dX8_fell_64 (nI_add _ _) rfl ?_
      refine z_iload_n (q := 66) dX8_fell_65 rfl rfl rfl ?_
      refine z_iaddE (q := 67) dX8_fell_66 (nI_add _ _) rfl ?_
      refine z_iconst (q := 68) (v := nI 1) dX8_fell_67 (by rfl) rfl ?_
      refine z_isubE (q := 69) dX8_fell_68 (pk_sub (by omega)) rfl ?_
      refine z_iald (q := 70) _ (by with_reducible assumption) (rfl) (by omega) (by decide) dX8_fell_69 rfl ?_
      refine z_invS (q := 73) (c_X8_level G _) gX8_fell_X8_level rfl hy_X8_level rfl rfl rfl rfl (Nat.le_of_ble_eq_true rfl) ⟨Nat.zero_le _, Nat.zero_le _⟩ dX8_fell_70 rfl (z_rv ?_)
      refine z_istore_n (q := 74) dX8_fell_73 rfl (by decide) rfl ?_
      refine z_aload_n (q := 75) dX8_fell_74 rfl rfl rfl ?_
      refine z_getR (q := 78) 8 0 1 16 rfl (by decide) rfl rfl rfl (by with_reducible assumption) (by with_reducible assumption) dX8_fell_75 rfl ?_
      refine z_iload_n (q := 79) dX8_fell_78 rfl rfl rfl ?_
      refine z_iconst (q := 80) (v := nI 2) dX8_fell_79 (by rfl) rfl ?_
      refine z_invS (q := 83) (c_X8_inRoom G (m + 1) r 2 hTs (by omega)) gX8_fell_X8_inRoom rfl hy_X8_inRoom rfl rfl rfl rfl (Nat.le_of_ble_eq_true rfl) ⟨Nat.zero_le _, Nat.zero_le _⟩ dX8_fell_80 rfl (z_rv ?_)
      refine z_invS (q := 86) (c_X8_level G _) gX8_fell_X8_level rfl hy_X8_level rfl rfl rfl rfl (Nat.le_of_ble_eq_true rfl) ⟨Nat.zero_le _, Nat.zero_le _⟩ dX8_fell_83 rfl (z_rv ?_)
      refine z_istore (q := 88) dX8_fell_86 (by decide) rfl ?_
      refine z_iload_n (q := 89) dX8_fell_88 rfl rfl rfl ?_
      refine z_bipush (q := 91) (v := (-4)) dX8_fell_89 (by rfl) rfl ?_
      rw [if_neg (fun q => q.elim h27 (fun z => absurd z (Int32.not_lt.mpr h47)))]
      refine z_icmp_eq (tgt := 101) (q := 94) dX8_fell_91 (by decide) rfl (fun h91 => ?_) (fun h91 => ?_)
      · refine z_bipush (q := 103) (v := (-4)) dX8_fell_101 (by rfl) rfl ?_
        refine z_goto (q := 113) dX8_fell_103 (by decide) ?_
        exact z_iret rfl dX8_fell_113 (Nat.zero_le _) (Nat.zero_le _) (⟨by rw [fellQ, if_pos (Or.inl h91)], rfl, rfl, rfl, rfl⟩)
      · refine z_iload (q := 96) (i := 4) dX8_fell_94 rfl rfl ?_
        refine z_bipush (q := 98) (v := (-4)) dX8_fell_96 (by rfl) rfl ?_
        refine z_icmp_ne (tgt := 106) (q := 101) dX8_fell_98 (by decide) rfl (fun h98 => ?_) (fun h98 => ?_)
        · refine z_bipush (q := 108) (v := nI 100) dX8_fell_106 (by rfl) rfl ?_
          refine z_iload_n (q := 109) dX8_fell_108 rfl rfl rfl ?_
          refine z_iadd (q := 110) dX8_fell_109 rfl ?_
          refine z_iload (q := 112) (i := 4) dX8_fell_110 rfl rfl ?_
          refine z_isub (q := 113) dX8_fell_112 rfl ?_
          exact z_iret rfl dX8_fell_113 (Nat.zero_le _) (Nat.zero_le _) (⟨by rw [fellQ, if_neg (fun q => q.elim h91 h98)], rfl, rfl, rfl, rfl⟩)
        · refine z_bipush (q := 103) (v := (-4)) dX8_fell_101 (by rfl) rfl ?_
          refine z_goto (q := 113) dX8_fell_103 (by decide) ?_
          exact z_iret rfl dX8_fell_113 (Nat.zero_le _) (Nat.zero_le _) (⟨by rw [fellQ, if_pos (Or.inr h98)], rfl, rfl, rfl, rfl⟩)
    · refine z_bipush (q := 52) (v := (-2)) dX8_fell_50 (by rfl) rfl ?_
      exact z_iret rfl dX8_fell_52 (Nat.zero_le _) (Nat.zero_le _) (⟨by rw [if_pos (Or.inr (Int32.not_le.mp h47))], rfl, rfl, rfl, rfl⟩)

