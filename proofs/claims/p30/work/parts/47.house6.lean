/-! THE CLASS, a house goes on: through doors -/
theorem wg_thr {I : zII} {a nr nd np st : Nat} {g : Nat → Int32} {so sw : Nat → Nat} (hG : z_HR I a g so sw) (hI : INV nr nd np st g) {d s : Nat} (hd : d < nd) (hs : s < 2) : wgC I a nr d s = thr g d (gN g (57 + 10 * d + s)) := by
  have hnr := hI.1.2
  have hnd := hI.2.1.2
  obtain ⟨b, hb, hb8, hbv⟩ := INV_side hI hd hs
  have e : I (a + 38 + 5 * d + 1) s = nI b := by rw [HR_side hG (by omega) hs]; exact hb
  rw [wgC, thr, e, gN_of hb (by omega), nI_clamp (by omega)]
  by_cases h8 : b = 8
  · subst h8
    rw [if_pos (Or.inr ((nI_leI (by omega) (by omega)).mpr (by omega))), if_pos rfl]
  · have hbn := (hbv (by omega)).1
    rw [if_neg h8, if_neg]
    · rw [HR_room hG (by omega) (by decide), HR_room hG (by omega) (by decide), HR_door hG (by omega) (by decide) (by decide), HR_door hG (by omega) (by decide) (by decide)]
    · rintro (z | z)
      · exact nI_pos (n := b) (by omega) z
      · have := (nI_leI (by omega) (by omega)).mp z
        omega
theorem thrG_ds (g : Nat → Int32) {d s : Nat} (hs : s < 2) : thrG g (2 * d + s) = thr g d (gN g (57 + 10 * d + s)) := by
  rw [thrG, show (2 * d + s) / 2 = d by omega, show (2 * d + s) % 2 = s by omega]
theorem snd_n {fl g : Nat → Int32} {k : Nat} (hz : fl k = 0) : sendR fl g k = g := by
  have e1 : snd1 fl g k = g := by
    unfold snd1
    split
    · rfl
    · rw [hz, Int32.sub_zero, upd_self]
  have e2 : snd2 fl g k = g := by
    unfold snd2
    rw [e1, hz, Int32.add_zero, upd_self]
  unfold sendR
  rw [e2, hz, Int32.add_zero, upd_self]
theorem snd_s {fl h : Nat → Int32} {d s b de : Nat} (hs : s < 2) (hd : d < 12) (hb : gN h (57 + 10 * d + s) = b) (hb8 : b < 8) (hde : gN h (57 + 10 * d + 4) = de) (h5 : de ≤ 5) : sendR fl h (2 * d + s) = upd (upd (upd h (9 + 6 * b + 2) (h (9 + 6 * b + 2) - fl (2 * d + s))) (57 + 10 * d + 8 + s) (h (57 + 10 * d + 8 + s) + fl (2 * d + s))) (177 + 12 * d + 6 * s + de) (h (177 + 12 * d + 6 * s + de) + fl (2 * d + s)) := by
  have n8 : ¬ b = 8 := by omega
  have e1 : snd1 fl h (2 * d + s) = upd h (9 + 6 * b + 2) (h (9 + 6 * b + 2) - fl (2 * d + s)) := by
    rw [snd1, show (2 * d + s) / 2 = d by omega, show (2 * d + s) % 2 = s by omega, hb, if_neg n8]
  have e2 : snd2 fl h (2 * d + s) = upd (upd h (9 + 6 * b + 2) (h (9 + 6 * b + 2) - fl (2 * d + s))) (57 + 10 * d + 8 + s) (h (57 + 10 * d + 8 + s) + fl (2 * d + s)) := by
    rw [snd2, e1, show (2 * d + s) / 2 = d by omega, show (2 * d + s) % 2 = s by omega, upd_n h _ (show 57 + 10 * d + 8 + s ≠ 9 + 6 * b + 2 by omega)]
  rw [sendR, e2, show (2 * d + s) / 2 = d by omega, show (2 * d + s) % 2 = s by omega, hde, upd_n _ _ (show 177 + 12 * d + 6 * s + de ≠ 57 + 10 * d + 8 + s by omega), upd_n _ _ (show 177 + 12 * d + 6 * s + de ≠ 9 + 6 * b + 2 by omega)]
theorem nfre_d {nr nd d w : Nat} (hnr : nr ≤ 8) (hnd : nd ≤ 12) (hd : d < 12) (hw : w < 8) : ¬ fre nr nd (57 + 10 * d + w) := by
  unfold fre
  rintro (q | q | q | q | q | ⟨y, q⟩ | ⟨y, q⟩ | ⟨y, q⟩ | ⟨y, q⟩) <;> omega
set_option maxRecDepth 100000 in
set_option maxHeartbeats 4000000 in
theorem c_X3_sendThroughDoors (G : zG) {n : Nat} {T : zTT} {I : zII} {R : zRR} (a nr nd np np2 st : Nat) (F : Nat → zE) (g : Nat → Int32) (so : Nat → Nat) (hH : z_House T R a) (hG : z_HR I a g so (fun _ => st)) (hP : z_P T I R (a + 3) np F) (hI : INV nr nd np2 st g) (hst : st < 90000) : Ct G yX3_sendThroughDoors wsX3_sendThroughDoors (3, 0, 0) [.ref a] n T I R (z_rel none n T (fun I' R' => R' = R ∧ z_HR I' a (sendN (thrG g) g (2 * nd)) so (fun _ => st) ∧ z_P T I' R (a + 3) np F ∧ z_fa a I I')) := by
  refine Ct.ofX (M := muX3_sendThroughDoors) (ls := [(0, .ref a)]) (by decide +kernel) rfl (by decide) rfl rfl (Nat.le_of_ble_eq_true rfl) ?_
  have hTa := hH.1
  obtain ⟨hTad, hRad⟩ := hH.2.2.1
  have hnd := hI.2.1.2
  have hnr := hI.1.2
  have hall : ∀ m, m ≤ 2 * nd → INV nr nd np2 st (sendN (thrG g) g m) := fun m hm => INV_free hI (sendN_fre hI m hm)
  have second : ∀ i, i ≤ nd → ∀ I2, z_HR I2 a (sendN (thrG g) g (2 * i)) so (fun _ => st) → (∀ j s, j < nd → s < 2 → I2 (a + 38 + 5 * j + 3) s = thrG g (2 * j + s)) → z_P T I2 R (a + 3) np F → z_fa a I I2 → ∀ ls : List (Nat × Value), lv_pick ls [0, 1] = [(0, .ref a), (1, .int (nI i))] → z_X G muX3_sendThroughDoors (3, 0, 0) (z_rel none n T (fun I' R' => R' = R ∧ z_HR I' a (sendN (thrG g) g (2 * nd)) so (fun _ => st) ∧ z_P T I' R (a + 3) np F ∧ z_fa a I I')) n T I2 R 0 0 62 ls [] := by
    refine z_up (N := nd) _ ?_ ?_
    · intro I2 hG2 hL2 hP2 f2 ls hls
      have c1 : I2 a 5 = nI nd := by rw [(HR_sc hG2).2.1]; exact (hall _ (by omega)).2.1.1
      refine z_pick [0, 1] hls ?_
      refine z_iload_n (q := 63) dX3_sendThroughDoors_62 rfl rfl rfl ?_
      refine z_aload_n (q := 64) dX3_sendThroughDoors_63 rfl rfl rfl ?_
      refine z_getV (q := 67) 3 5 1 48 rfl (by decide) rfl rfl rfl (by with_reducible assumption) (c1) dX3_sendThroughDoors_64 rfl ?_
      refine z_icmpn_ge (rfl) (rfl) (by omega) (by omega) (tgt := 153) (q := 70) dX3_sendThroughDoors_67 (by decide) rfl (fun _ => ?_) (fun hc => absurd hc (by omega))
      exact z_vret rfl dX3_sendThroughDoors_153 (Nat.zero_le _) (Nat.zero_le _) (⟨rfl, rfl, rfl, rfl, hG2, hP2, f2⟩)
    · intro i hi ih I2 hG2 hL2 hP2 f2 ls hls
      have c1 : I2 a 5 = nI nd := by rw [(HR_sc hG2).2.1]; exact (hall _ (by omega)).2.1.1
      have hRdi := (hH.2.2.2.2.2.2.1 i (by omega)).1
      have hDi := (hH.2.2.2.2.2.2.1 i (by omega)).2
      obtain ⟨hTd, hTd1, hTd2, hTd3, hTd4, hRd0, hRd7, hRd8, hRd9⟩ := id hDi
      have inner : ∀ s, s ≤ 2 → ∀ I3, z_HR I3 a (sendN (thrG g) g (2 * i + s)) so (fun _ => st) → (∀ j s, j < nd → s < 2 → I3 (a + 38 + 5 * j + 3) s = thrG g (2 * j + s)) → z_P T I3 R (a + 3) np F → z_fa a I I3 → ∀ ls : List (Nat × Value), lv_pick ls [0, 1, 2, 3] = [(0, .ref a), (1, .int (nI i)), (2, .ref (a + 38 + 5 * i)), (3, .int (nI s))] → z_X G muX3_sendThroughDoors (3, 0, 0) (z_rel none n T (fun I' R' => R' = R ∧ z_HR I' a (sendN (thrG g) g (2 * nd)) so (fun _ => st) ∧ z_P T I' R (a + 3) np F ∧ z_fa a I I')) n T I3 R 0 0 88 ls [] := by
        refine z_up (N := 2) _ ?_ ?_
        · intro I3 hG3 hL3 hP3 f3 ls hls
          refine z_pick [0, 1, 2, 3] hls ?_
          refine z_iload_n (q := 89) dX3_sendThroughDoors_88 rfl rfl rfl ?_
          refine z_iconst (q := 90) (v := nI 2) dX3_sendThroughDoors_89 (by rfl) rfl ?_
          refine z_icmpn_ge (rfl) (rfl) (by omega) (by omega) (tgt := 147) (q := 93) dX3_sendThroughDoors_90 (by decide) rfl (fun _ => ?_) (fun hc => absurd hc (by omega))
          refine z_iinc (q := 150) dX3_sendThroughDoors_147 rfl (nI_add _ 1) (by decide) rfl ?_
          refine z_goto (q := 62) dX3_sendThroughDoors_150 (by decide) ?_
          exact ih I3 (by rw [show 2 * (i + 1) = 2 * i + 2 by omega]; exact hG3) hL3 hP3 f3 _ rfl
        · intro s hs ihs I3 hG3 hL3 hP3 f3 ls hls
          have hIk := hall (2 * i + s) (by omega)
          have hsn : sendN (thrG g) g (2 * i + (s + 1)) = sendR (thrG g) (sendN (thrG g) g (2 * i + s)) (2 * i + s) := rfl
          have hsd : sendN (thrG g) g (2 * i + s) (57 + 10 * i + s) = g (57 + 10 * i + s) := sendN_fre hI _ (by omega) _ (nfre_d hnr hnd (by omega) (by omega))
          have next : ∀ I4, z_HR I4 a (sendN (thrG g) g (2 * i + (s + 1))) so (fun _ => st) → (∀ j s, j < nd → s < 2 → I4 (a + 38 + 5 * j + 3) s = thrG g (2 * j + s)) → z_P T I4 R (a + 3) np F → z_fa a I I4 → ∀ ls : List (Nat × Value), lv_pick ls [0, 1, 2, 3] = [(0, .ref a), (1, .int (nI i)), (2, .ref (a + 38 + 5 * i)), (3, .int (nI s))] → z_X G muX3_sendThroughDoors (3, 0, 0) (z_rel none n T (fun I' R' => R' = R ∧ z_HR I' a (sendN (thrG g) g (2 * nd)) so (fun _ => st) ∧ z_P T I' R (a + 3) np F ∧ z_fa a I I')) n T I4 R 0 0 141 ls [] := by
            intro I4 hG4 hL4 hP4 f4 ls hls
            refine z_pick [0, 1, 2, 3] hls ?_
            refine z_iinc (q := 144) dX3_sendThroughDoors_141 rfl (nI_add _ 1) (by decide) rfl ?_
            refine z_goto (q := 88) dX3_sendThroughDoors_144 (by decide) ?_
            exact ihs I4 hG4 hL4 hP4 f4 _ rfl
          rw [hsn] at next
          generalize sendN (thrG g) g (2 * i + s) = h at hG3 hIk next hsd
          obtain ⟨b, hb0, hb8, hbv⟩ := INV_side hI hi hs
          obtain ⟨de, hde, hde5⟩ := INV_delay hIk hi
          have hb : h (57 + 10 * i + s) = nI b := hsd.trans hb0
          have hsb : I3 (a + 38 + 5 * i + 1) s = nI b := by rw [HR_side hG3 (by omega) hs]; exact hb
          have c0 : I3 a 4 = nI nr := by rw [(HR_sc hG3).1]; exact hIk.1.1
          have c3 : I3 a 6 = nI st := by rw [(HR_sc hG3).2.2.1]; exact hIk.2.2.2.1
          have hlv : I3 (a + 38 + 5 * i + 3) s = thrG g (2 * i + s) := hL3 i s hi hs
          refine z_pick [0, 1, 2, 3] hls ?_
          by_cases h8 : b = 8
          · refine z_iload_n (q := 89) dX3_sendThroughDoors_88 rfl rfl rfl ?_
            refine z_iconst (q := 90) (v := nI 2) dX3_sendThroughDoors_89 (by rfl) rfl ?_
            refine z_icmpn_ge (rfl) (rfl) (by omega) (by omega) (tgt := 147) (q := 93) dX3_sendThroughDoors_90 (by decide) rfl (fun hc => absurd hc (by omega)) (fun _ => ?_)
            refine z_aload_n (q := 94) dX3_sendThroughDoors_93 rfl rfl rfl ?_
            refine z_aload_n (q := 95) dX3_sendThroughDoors_94 rfl rfl rfl ?_
            refine z_getR (q := 98) 0 0 4 53 rfl (by decide) rfl rfl rfl (by with_reducible assumption) (by with_reducible assumption) dX3_sendThroughDoors_95 rfl ?_
            refine z_iload_n (q := 99) dX3_sendThroughDoors_98 rfl rfl rfl ?_
            refine z_ialdV (q := 100) _ (by with_reducible assumption) (rfl) (by omega) (by decide) (hsb) dX3_sendThroughDoors_99 rfl ?_
            refine z_invV (q := 103) (c_X3_roomAt_n G a nr _ hH c0 (Or.inr ((nI_leI (by omega) (by omega)).mpr (by omega)))) (by with_reducible assumption) rfl gX3_sendThroughDoors_X3_roomAt rfl hy_X3_roomAt rfl rfl rfl rfl (Nat.le_of_ble_eq_true rfl) ⟨Nat.zero_le _, Nat.zero_le _⟩ dX3_sendThroughDoors_100 rfl (z_rv ?_)
            refine z_astoreN (q := 105) dX3_sendThroughDoors_103 (by decide) rfl ?_
            refine z_aloadN (q := 107) dX3_sendThroughDoors_105 rfl rfl ?_
            refine z_ifnullN (q := 141) dX3_sendThroughDoors_107 (by decide) ?_
            refine next I3 ?_ hL3 hP3 f3 _ rfl
            rw [snd_n]
            · exact hG3
            · rw [thrG_ds g hs, gN_of hb0 (by omega), thr, if_pos h8]
          · have hbn : b < nr := (hbv (by omega)).1
            have hRb := (hH.2.2.2.2.2.1 b (by omega)).2
            have hTb := hRb.1
            have hlv2 : zw I3 (a + 22 + 2 * b) 2 (I3 (a + 22 + 2 * b) 2 - thrG g (2 * i + s)) (a + 38 + 5 * i + 3) s = thrG g (2 * i + s) := by rw [zw_row _ _ (by omega)]; exact hlv
            have c3' : zw I3 (a + 22 + 2 * b) 2 (I3 (a + 22 + 2 * b) 2 - thrG g (2 * i + s)) a 6 = nI st := by rw [zw_row _ _ (by omega)]; exact c3
            have hde' : zw I3 (a + 22 + 2 * b) 2 (I3 (a + 22 + 2 * b) 2 - thrG g (2 * i + s)) (a + 38 + 5 * i) 3 = nI de := by rw [zw_row _ _ (by omega), HR_door hG3 (by omega) (by decide) (by decide)]; exact hde
            refine z_iload_n (q := 89) dX3_sendThroughDoors_88 rfl rfl rfl ?_
            refine z_iconst (q := 90) (v := nI 2) dX3_sendThroughDoors_89 (by rfl) rfl ?_
            refine z_icmpn_ge (rfl) (rfl) (by omega) (by omega) (tgt := 147) (q := 93) dX3_sendThroughDoors_90 (by decide) rfl (fun hc => absurd hc (by omega)) (fun _ => ?_)
            refine z_aload_n (q := 94) dX3_sendThroughDoors_93 rfl rfl rfl ?_
            refine z_aload_n (q := 95) dX3_sendThroughDoors_94 rfl rfl rfl ?_
            refine z_getR (q := 98) 0 0 4 53 rfl (by decide) rfl rfl rfl (by with_reducible assumption) (by with_reducible assumption) dX3_sendThroughDoors_95 rfl ?_
            refine z_iload_n (q := 99) dX3_sendThroughDoors_98 rfl rfl rfl ?_
            refine z_ialdV (q := 100) _ (by with_reducible assumption) (rfl) (by omega) (by decide) (hsb) dX3_sendThroughDoors_99 rfl ?_
            refine z_invV (q := 103) (c_X3_roomAt_s G a b nr hH c0 hbn hnr) (by with_reducible assumption) rfl gX3_sendThroughDoors_X3_roomAt rfl hy_X3_roomAt rfl rfl rfl rfl (Nat.le_of_ble_eq_true rfl) ⟨Nat.zero_le _, Nat.zero_le _⟩ dX3_sendThroughDoors_100 rfl (z_rv ?_)
            refine z_astore (q := 105) dX3_sendThroughDoors_103 (by decide) rfl ?_
            refine z_aload (q := 107) dX3_sendThroughDoors_105 rfl rfl ?_
            refine z_ifnull (q := 110) dX3_sendThroughDoors_107 rfl ?_
            refine z_aload (q := 112) dX3_sendThroughDoors_110 rfl rfl ?_
            refine z_dup (q := 113) dX3_sendThroughDoors_112 rfl rfl ?_
            refine z_getI (q := 116) 5 2 5 65 rfl (by decide) rfl rfl rfl (by with_reducible assumption) dX3_sendThroughDoors_113 rfl ?_
            refine z_aload_n (q := 117) dX3_sendThroughDoors_116 rfl rfl rfl ?_
            refine z_getR (q := 120) 0 8 3 61 rfl (by decide) rfl rfl rfl (by with_reducible assumption) (by with_reducible assumption) dX3_sendThroughDoors_117 rfl ?_
            refine z_iload_n (q := 121) dX3_sendThroughDoors_120 rfl rfl rfl ?_
            refine z_ialdV (q := 122) _ (by with_reducible assumption) (rfl) (by omega) (by decide) (hlv) dX3_sendThroughDoors_121 rfl ?_
            refine z_isub (q := 123) dX3_sendThroughDoors_122 rfl ?_
            refine z_put (q := 126) 5 2 5 65 rfl (by decide) rfl rfl (tyX5_ok 2 (by decide)) (rfl) (rfl) rfl (by with_reducible assumption) dX3_sendThroughDoors_123 rfl ?_
            refine z_aload_n (q := 127) dX3_sendThroughDoors_126 rfl rfl rfl ?_
            refine z_aload_n (q := 128) dX3_sendThroughDoors_127 rfl rfl rfl ?_
            refine z_getR (q := 131) 0 8 3 61 rfl (by decide) rfl rfl rfl (by with_reducible assumption) (by with_reducible assumption) dX3_sendThroughDoors_128 rfl ?_
            refine z_iload_n (q := 132) dX3_sendThroughDoors_131 rfl rfl rfl ?_
            refine z_ialdV (q := 133) _ (by with_reducible assumption) (rfl) (by omega) (by decide) (hlv2) dX3_sendThroughDoors_132 rfl ?_
            refine z_iload_n (q := 134) dX3_sendThroughDoors_133 rfl rfl rfl ?_
            refine z_aload_n (q := 135) dX3_sendThroughDoors_134 rfl rfl rfl ?_
            refine z_getV (q := 138) 3 6 6 49 rfl (by decide) rfl rfl rfl (by with_reducible assumption) (c3') dX3_sendThroughDoors_135 rfl ?_
            refine z_invV (q := 141) (c_X0_send G (a + 38 + 5 * i) s st de (thrG g (2 * i + s)) hDi hs (by omega) hde' hde5) (by with_reducible assumption) rfl gX3_sendThroughDoors_X0_send rfl hy_X0_send rfl rfl rfl rfl (Nat.le_of_ble_eq_true rfl) ⟨Nat.zero_le _, Nat.zero_le _⟩ dX3_sendThroughDoors_138 rfl (z_rn ?_)
            have r2 : zw I3 (a + 22 + 2 * b) 2 (I3 (a + 22 + 2 * b) 2 - thrG g (2 * i + s)) (a + 38 + 5 * i + 2) s = h (57 + 10 * i + 8 + s) := by rw [zw_row _ _ (by omega)]; exact HR_gone hG3 (by omega) hs
            have r4 : zw I3 (a + 22 + 2 * b) 2 (I3 (a + 22 + 2 * b) 2 - thrG g (2 * i + s)) (a + 38 + 5 * i + 4) (2 * ((st + de) % 6) + (1 - s)) = h (177 + 12 * i + 6 * s + de) := by rw [zw_row _ _ (by omega)]; exact HR_way hG3 (by omega) hs (by omega)
            rw [r2, r4, HR_room hG3 (by omega) (by decide)]
            refine next _ ?_ (fun j s' hj hs' => ?_) (z_P_f hP3 (fun q _ _ => ?_) (fun _ _ _ => rfl)) (fun q hq => ?_) _ rfl
            · rw [snd_s hs (by omega) (gN_of hb (by omega)) (by omega) (gN_of hde (by omega)) hde5]
              exact HRw_way (HRw_gone (HRw_room hG3 _ (by omega) (by decide)) _ (by omega) hs) _ (by omega) hs (by omega)
            · rw [zw_row _ _ (by omega), zw_row _ _ (by omega), zw_row _ _ (by omega)]
              exact hL3 j s' hj hs'
            · rw [zw_row _ _ (by omega), zw_row _ _ (by omega), zw_row _ _ (by omega)]
            · rw [zw_row _ _ (by omega), zw_row _ _ (by omega), zw_row _ _ (by omega)]
              exact f3 q hq
      refine z_pick [0, 1] hls ?_
      refine z_iload_n (q := 63) dX3_sendThroughDoors_62 rfl rfl rfl ?_
      refine z_aload_n (q := 64) dX3_sendThroughDoors_63 rfl rfl rfl ?_
      refine z_getV (q := 67) 3 5 1 48 rfl (by decide) rfl rfl rfl (by with_reducible assumption) (c1) dX3_sendThroughDoors_64 rfl ?_
      refine z_icmpn_ge (rfl) (rfl) (by omega) (by omega) (tgt := 153) (q := 70) dX3_sendThroughDoors_67 (by decide) rfl (fun hc => absurd hc (by omega)) (fun _ => ?_)
      refine z_iload_n (q := 71) dX3_sendThroughDoors_70 rfl rfl rfl ?_
      refine z_aload_n (q := 72) dX3_sendThroughDoors_71 rfl rfl rfl ?_
      refine z_getR (q := 75) 3 1 2 44 rfl (by decide) rfl rfl rfl (by with_reducible assumption) (by with_reducible assumption) dX3_sendThroughDoors_72 rfl ?_
      refine z_alen (q := 76) (by with_reducible assumption) dX3_sendThroughDoors_75 rfl ?_
      refine z_icmpn_ge (rfl) (rfl) (by omega) (by omega) (tgt := 153) (q := 79) dX3_sendThroughDoors_76 (by decide) rfl (fun hc => absurd hc (by omega)) (fun _ => ?_)
      refine z_aload_n (q := 80) dX3_sendThroughDoors_79 rfl rfl rfl ?_
      refine z_getR (q := 83) 3 1 2 44 rfl (by decide) rfl rfl rfl (by with_reducible assumption) (by with_reducible assumption) dX3_sendThroughDoors_80 rfl ?_
      refine z_iload_n (q := 84) dX3_sendThroughDoors_83 rfl rfl rfl ?_
      refine z_aald (q := 85) _ (by with_reducible assumption) (rfl) (by omega) (by decide) (by with_reducible assumption) dX3_sendThroughDoors_84 rfl ?_
      refine z_astore_n (q := 86) dX3_sendThroughDoors_85 rfl (by decide) rfl ?_
      refine z_iconst (q := 87) (v := nI 0) dX3_sendThroughDoors_86 (by rfl) rfl ?_
      refine z_istore_n (q := 88) dX3_sendThroughDoors_87 rfl (by decide) rfl ?_
      exact inner 0 (by decide) I2 hG2 hL2 hP2 f2 _ rfl
  have first : ∀ i, i ≤ nd → ∀ I2, (∀ j s, j < i → s < 2 → I2 (a + 38 + 5 * j + 3) s = thrG g (2 * j + s)) → (∀ q, (∀ j, j < 12 → q ≠ a + 38 + 5 * j + 3) → I2 q = I q) → ∀ ls : List (Nat × Value), lv_pick ls [0, 1] = [(0, .ref a), (1, .int (nI i))] → z_X G muX3_sendThroughDoors (3, 0, 0) (z_rel none n T (fun I' R' => R' = R ∧ z_HR I' a (sendN (thrG g) g (2 * nd)) so (fun _ => st) ∧ z_P T I' R (a + 3) np F ∧ z_fa a I I')) n T I2 R 0 0 2 ls [] := by
    refine z_up (N := nd) _ ?_ ?_
    · intro I2 hL2 f2 ls hls
      have hG2 := HR_l hG f2
      have c1 : I2 a 5 = nI nd := by rw [(HR_sc hG2).2.1]; exact hI.2.1.1
      refine z_pick [0, 1] hls ?_
      refine z_iload_n (q := 3) dX3_sendThroughDoors_2 rfl rfl rfl ?_
      refine z_aload_n (q := 4) dX3_sendThroughDoors_3 rfl rfl rfl ?_
      refine z_getV (q := 7) 3 5 1 48 rfl (by decide) rfl rfl rfl (by with_reducible assumption) (c1) dX3_sendThroughDoors_4 rfl ?_
      refine z_icmpn_ge (rfl) (rfl) (by omega) (by omega) (tgt := 60) (q := 10) dX3_sendThroughDoors_7 (by decide) rfl (fun _ => ?_) (fun hc => absurd hc (by omega))
      refine z_iconst (q := 61) (v := nI 0) dX3_sendThroughDoors_60 (by rfl) rfl ?_
      refine z_istore_n (q := 62) dX3_sendThroughDoors_61 rfl (by decide) rfl ?_
      exact second 0 (Nat.zero_le _) I2 hG2 hL2 (z_P_f hP (fun q _ _ => f2 q (fun j hj => by omega)) (fun _ _ _ => rfl)) (fun q hq => f2 q (fun j hj => by omega)) _ rfl
    · intro i hi ih I2 hL2 f2 ls hls
      have hG2 := HR_l hG f2
      have c1 : I2 a 5 = nI nd := by rw [(HR_sc hG2).2.1]; exact hI.2.1.1
      have hRdi := (hH.2.2.2.2.2.2.1 i (by omega)).1
      have hDi := (hH.2.2.2.2.2.2.1 i (by omega)).2
      obtain ⟨hTd, hTd1, hTd2, hTd3, hTd4, hRd0, hRd7, hRd8, hRd9⟩ := id hDi
      have inner : ∀ s, s ≤ 2 → ∀ I3, (∀ j s', (j < i ∨ j = i ∧ s' < s) → s' < 2 → I3 (a + 38 + 5 * j + 3) s' = thrG g (2 * j + s')) → (∀ q, (∀ j, j < 12 → q ≠ a + 38 + 5 * j + 3) → I3 q = I q) → ∀ ls : List (Nat × Value), lv_pick ls [0, 1, 2] = [(0, .ref a), (1, .int (nI i)), (2, .int (nI s))] → z_X G muX3_sendThroughDoors (3, 0, 0) (z_rel none n T (fun I' R' => R' = R ∧ z_HR I' a (sendN (thrG g) g (2 * nd)) so (fun _ => st) ∧ z_P T I' R (a + 3) np F ∧ z_fa a I I')) n T I3 R 0 0 21 ls [] := by
        refine z_up (N := 2) _ ?_ ?_
        · intro I3 hL3 f3 ls hls
          refine z_pick [0, 1, 2] hls ?_
          refine z_iload_n (q := 22) dX3_sendThroughDoors_21 rfl rfl rfl ?_
          refine z_iconst (q := 23) (v := nI 2) dX3_sendThroughDoors_22 (by rfl) rfl ?_
          refine z_icmpn_ge (rfl) (rfl) (by omega) (by omega) (tgt := 54) (q := 26) dX3_sendThroughDoors_23 (by decide) rfl (fun _ => ?_) (fun hc => absurd hc (by omega))
          refine z_iinc (q := 57) dX3_sendThroughDoors_54 rfl (nI_add _ 1) (by decide) rfl ?_
          refine z_goto (q := 2) dX3_sendThroughDoors_57 (by decide) ?_
          exact ih I3 (fun j s' hj hs' => hL3 j s' (by omega) hs') f3 _ rfl
        · intro s hs ihs I3 hL3 f3 ls hls
          have hG3 := HR_l hG f3
          have c0 : I3 a 4 = nI nr := by rw [(HR_sc hG3).1]; exact hI.1.1
          have hv : ∀ r, r < nr → ∃ v, I3 (a + 22 + 2 * r) 0 = nI v ∧ 10 ≤ v ∧ v ≤ 10000 := fun r hr => by
            rw [HR_room hG3 (by omega) (by decide)]
            exact ((hI.2.2.2.2.1 r (by omega)).1 hr).1
          refine z_pick [0, 1, 2] hls ?_
          refine z_iload_n (q := 22) dX3_sendThroughDoors_21 rfl rfl rfl ?_
          refine z_iconst (q := 23) (v := nI 2) dX3_sendThroughDoors_22 (by rfl) rfl ?_
          refine z_icmpn_ge (rfl) (rfl) (by omega) (by omega) (tgt := 54) (q := 26) dX3_sendThroughDoors_23 (by decide) rfl (fun hc => absurd hc (by omega)) (fun _ => ?_)
          refine z_aload_n (q := 27) dX3_sendThroughDoors_26 rfl rfl rfl ?_
          refine z_getR (q := 30) 3 1 2 44 rfl (by decide) rfl rfl rfl (by with_reducible assumption) (by with_reducible assumption) dX3_sendThroughDoors_27 rfl ?_
          refine z_iload_n (q := 31) dX3_sendThroughDoors_30 rfl rfl rfl ?_
          refine z_aald (q := 32) _ (by with_reducible assumption) (rfl) (by omega) (by decide) (by with_reducible assumption) dX3_sendThroughDoors_31 rfl ?_
          refine z_getR (q := 35) 0 8 3 61 rfl (by decide) rfl rfl rfl (by with_reducible assumption) (by with_reducible assumption) dX3_sendThroughDoors_32 rfl ?_
          refine z_iload_n (q := 36) dX3_sendThroughDoors_35 rfl rfl rfl ?_
          refine z_aload_n (q := 37) dX3_sendThroughDoors_36 rfl rfl rfl ?_
          refine z_aload_n (q := 38) dX3_sendThroughDoors_37 rfl rfl rfl ?_
          refine z_getR (q := 41) 3 1 2 44 rfl (by decide) rfl rfl rfl (by with_reducible assumption) (by with_reducible assumption) dX3_sendThroughDoors_38 rfl ?_
          refine z_iload_n (q := 42) dX3_sendThroughDoors_41 rfl rfl rfl ?_
          refine z_aald (q := 43) _ (by with_reducible assumption) (rfl) (by omega) (by decide) (by with_reducible assumption) dX3_sendThroughDoors_42 rfl ?_
          refine z_iload_n (q := 44) dX3_sendThroughDoors_43 rfl rfl rfl ?_
          refine z_invV (q := 47) (c_X3_wouldGo G a i s nr hH c0 hnr (by omega) hs hv) (by with_reducible assumption) rfl gX3_sendThroughDoors_X3_wouldGo rfl hy_X3_wouldGo rfl rfl rfl rfl (Nat.le_of_ble_eq_true rfl) ⟨Nat.zero_le _, Nat.zero_le _⟩ dX3_sendThroughDoors_44 rfl (z_rv ?_)
          refine z_iast (q := 48) _ (by with_reducible assumption) (rfl) (by omega) (by decide) dX3_sendThroughDoors_47 rfl ?_
          refine z_iinc (q := 51) dX3_sendThroughDoors_48 rfl (nI_add _ 1) (by decide) rfl ?_
          refine z_goto (q := 21) dX3_sendThroughDoors_51 (by decide) ?_
          rw [wg_thr hG3 hI hi hs, ← thrG_ds g hs]
          refine ihs _ (fun j s' hj hs' => ?_) (fun q hq => (zw_row _ _ (hq i (by omega))).trans (f3 q hq)) _ rfl
          by_cases e : j = i
          · subst e
            by_cases e2 : s' = s
            · subst e2
              rw [zw_s]
            · rw [zw_k _ _ e2]
              exact hL3 j s' (by omega) hs'
          · rw [zw_row _ _ (by omega)]
            exact hL3 j s' (by omega) hs'
      refine z_pick [0, 1] hls ?_
      refine z_iload_n (q := 3) dX3_sendThroughDoors_2 rfl rfl rfl ?_
      refine z_aload_n (q := 4) dX3_sendThroughDoors_3 rfl rfl rfl ?_
      refine z_getV (q := 7) 3 5 1 48 rfl (by decide) rfl rfl rfl (by with_reducible assumption) (c1) dX3_sendThroughDoors_4 rfl ?_
      refine z_icmpn_ge (rfl) (rfl) (by omega) (by omega) (tgt := 60) (q := 10) dX3_sendThroughDoors_7 (by decide) rfl (fun hc => absurd hc (by omega)) (fun _ => ?_)
      refine z_iload_n (q := 11) dX3_sendThroughDoors_10 rfl rfl rfl ?_
      refine z_aload_n (q := 12) dX3_sendThroughDoors_11 rfl rfl rfl ?_
      refine z_getR (q := 15) 3 1 2 44 rfl (by decide) rfl rfl rfl (by with_reducible assumption) (by with_reducible assumption) dX3_sendThroughDoors_12 rfl ?_
      refine z_alen (q := 16) (by with_reducible assumption) dX3_sendThroughDoors_15 rfl ?_
      refine z_icmpn_ge (rfl) (rfl) (by omega) (by omega) (tgt := 60) (q := 19) dX3_sendThroughDoors_16 (by decide) rfl (fun hc => absurd hc (by omega)) (fun _ => ?_)
      refine z_iconst (q := 20) (v := nI 0) dX3_sendThroughDoors_19 (by rfl) rfl ?_
      refine z_istore_n (q := 21) dX3_sendThroughDoors_20 rfl (by decide) rfl ?_
      exact inner 0 (by decide) I2 (fun j s' hj hs' => hL2 j s' (by omega) hs') f2 _ rfl
  refine z_iconst (q := 1) (v := nI 0) dX3_sendThroughDoors_0 (by rfl) rfl ?_
  refine z_istore_n (q := 2) dX3_sendThroughDoors_1 rfl (by decide) rfl ?_
  exact first 0 (Nat.zero_le _) I (fun j _ hj _ => absurd hj (Nat.not_lt_zero j)) (fun _ _ => rfl) _ rfl


