/-! THE CLASS, what it is asked -/
set_option maxRecDepth 100000 in
set_option maxHeartbeats 4000000 in
theorem c_X7_roomOf (G : zG) {n : Nat} {T : zTT} {I : zII} {R : zRR} (x pc y : Nat) (g tx : Nat → Int32) (p : Nat → Nat → Int32) (hS : z_St T R I x g p pc tx y) (v w : Int32) : Ct G yX7_roomOf wsX7_roomOf (2, 0, 0) [.ref x, .int v, .int w] n T I R (z_ret (some (.int (sp_roomOf g v w))) n T I R) := by
  refine Ct.ofX (M := muX7_roomOf) (ls := [(0, .ref x), (1, .int v), (2, .int w)]) (by decide +kernel) rfl (by decide) rfl rfl (Nat.le_of_ble_eq_true rfl) ?_
  have hR := hS.1
  obtain ⟨hTx, hRh, hRa, hRi, hRs, hRt, hTt, hSc⟩ := id hR
  obtain ⟨st, hHs, hst, htl⟩ := id hS.2.1
  obtain ⟨hH, nr, nd, np, F, hI, hG, hP, hF⟩ := id hHs
  have hTh := hH.1
  have hRp := hH.2.2.2.1
  have hTp := hP.1.1
  have hnr := hI.1.2
  have hnd := hI.2.1.2
  have hnp := hI.2.2.1.2
  have c0 : I (x + 1) 4 = nI nr := by rw [(HR_sc hG).1]; exact hI.1.1
  have c1 : I (x + 1) 5 = nI nd := by rw [(HR_sc hG).2.1]; exact hI.2.1.1
  have c3 : I (x + 1) 6 = nI st := by rw [(HR_sc hG).2.2.1]; exact hI.2.2.2.1
  have cs2 : I (x + 1 + 3) 1 = nI np := hP.2.2.2.1
  have h0e : g 0 = nI nr := hI.1.1
  have h1e : g 1 = nI nd := hI.2.1.1
  have h2e : g 2 = nI np := hI.2.2.1.1
  have h3e : g 3 = nI st := hI.2.2.2.1
  have bad : sp_roomOf g v w = -1 → ∀ ls : List (Nat × Value), z_X G muX7_roomOf (2, 0, 0) (z_ret (some (.int (sp_roomOf g v w))) n T I R) n T I R 0 0 13 ls [] := by
    intro hb ls
    rw [hb]
    refine z_iconst (q := 14) (v := (-1)) dX7_roomOf_13 (by rfl) rfl ?_
    exact z_iret rfl dX7_roomOf_14 (Nat.zero_le _) (Nat.zero_le _) (⟨rfl, rfl, rfl, rfl, rfl⟩)
  have bad2 : sp_roomOf g v w = -1 → ∀ ls : List (Nat × Value), z_X G muX7_roomOf (2, 0, 0) (z_ret (some (.int (sp_roomOf g v w))) n T I R) n T I R 0 0 146 ls [] := by
    intro hb ls
    rw [hb]
    refine z_iconst (q := 147) (v := (-1)) dX7_roomOf_146 (by rfl) rfl ?_
    exact z_iret rfl dX7_roomOf_147 (Nat.zero_le _) (Nat.zero_le _) (⟨rfl, rfl, rfl, rfl, rfl⟩)
  by_cases hx : v < 0 ∨ nI nr ≤ v
  · refine z_aload_n (q := 1) dX7_roomOf_0 rfl rfl rfl ?_
    refine z_getR (q := 4) 7 0 1 55 rfl (by decide) rfl rfl rfl (by with_reducible assumption) (by with_reducible assumption) dX7_roomOf_1 rfl ?_
    refine z_iload_n (q := 5) dX7_roomOf_4 rfl rfl rfl ?_
    refine z_invV (q := 8) (c_X3_roomAt_n G (x + 1) nr v hH c0 hx) (by with_reducible assumption) rfl gX7_roomOf_X3_roomAt rfl hy_X3_roomAt rfl rfl rfl rfl (Nat.le_of_ble_eq_true rfl) ⟨Nat.zero_le _, Nat.zero_le _⟩ dX7_roomOf_5 rfl (z_rv ?_)
    refine z_astore_nN (q := 9) dX7_roomOf_8 rfl (by decide) rfl ?_
    refine z_aload_nN (q := 10) dX7_roomOf_9 rfl rfl rfl ?_
    refine z_ifnonnullN (q := 13) dX7_roomOf_10 rfl ?_
    exact bad (by rw [sp_roomOf, if_pos (by rw [h0e]; exact hx)]) _
  obtain ⟨r, hrn, rfl⟩ : ∃ k, k < nr ∧ v = nI k := by
    rcases pk_ix v (n := nr) (by omega) with z | z | z
    · exact absurd (Or.inl z) hx
    · exact absurd (Or.inr z) hx
    · exact z
  have hvg : ¬ (nI r < 0 ∨ g 0 ≤ nI r) := by rw [h0e]; exact hx
  have hRm := (hH.2.2.2.2.2.1 r (by omega)).2
  have hTm := hRm.1
  refine z_aload_n (q := 1) dX7_roomOf_0 rfl rfl rfl ?_
  refine z_getR (q := 4) 7 0 1 55 rfl (by decide) rfl rfl rfl (by with_reducible assumption) (by with_reducible assumption) dX7_roomOf_1 rfl ?_
  refine z_iload_n (q := 5) dX7_roomOf_4 rfl rfl rfl ?_
  refine z_invV (q := 8) (c_X3_roomAt_s G (x + 1) r nr hH c0 hrn hnr) (by with_reducible assumption) rfl gX7_roomOf_X3_roomAt rfl hy_X3_roomAt rfl rfl rfl rfl (Nat.le_of_ble_eq_true rfl) ⟨Nat.zero_le _, Nat.zero_le _⟩ dX7_roomOf_5 rfl (z_rv ?_)
  refine z_astore_n (q := 9) dX7_roomOf_8 rfl (by decide) rfl ?_
  refine z_aload_n (q := 10) dX7_roomOf_9 rfl rfl rfl ?_
  refine z_ifnonnull (q := 15) dX7_roomOf_10 (by decide) ?_
  by_cases hz : w < nI 0 ∨ nI 8 < w
  · have ho : w.toInt < 0 ∨ 8 < w.toInt := hz.imp (fun h => show w.toInt < (nI 0).toInt from Int32.lt_iff_toInt_lt.mp h) (fun h => by
      have h2 : (nI 8).toInt < w.toInt := Int32.lt_iff_toInt_lt.mp h
      rw [show (nI 8).toInt = 8 from by decide] at h2
      exact h2)
    refine z_iload_n (q := 16) dX7_roomOf_15 rfl rfl rfl ?_
    refine z_tableOut (tgt := 146) dX7_roomOf_16 (ho) (by decide) ?_
    exact bad2 (by rw [sp_roomOf, if_neg hvg, if_pos hz]) _
  obtain ⟨k, -, hk, rfl⟩ := z_ix2 (by decide) (by decide) hz
  have e : sp_roomOf g (nI r) (nI k) = roomQ g r k := by rw [sp_roomOf, if_neg hvg, if_neg hz, nI_clamp (by omega), nI_clamp (by omega)]
  rw [e]
  have hq : ∀ w, w < 6 → I (x + 1 + 22 + 2 * r) w = g (9 + 6 * r + w) := fun w hw => HR_room hG (by omega) hw
  refine z_iload_n (q := 16) dX7_roomOf_15 rfl rfl rfl ?_
  rcases (show k = 0 ∨ k = 1 ∨ k = 2 ∨ k = 3 ∨ k = 4 ∨ k = 5 ∨ k = 6 ∨ k = 7 ∨ k = 8 by omega) with rfl | rfl | rfl | rfl | rfl | rfl | rfl | rfl | rfl
  · refine z_tableIn (tgt := 68) dX7_roomOf_16 (by decide) (by decide) (by rfl) (by decide) ?_
    refine z_aload_n (q := 69) dX7_roomOf_68 rfl rfl rfl ?_
    refine z_getI (q := 72) 5 0 2 60 rfl (by decide) rfl rfl rfl (by with_reducible assumption) dX7_roomOf_69 rfl ?_
    exact z_iret rfl dX7_roomOf_72 (Nat.zero_le _) (Nat.zero_le _) (⟨by rw [hq 0 (by decide)]; rfl, rfl, rfl, rfl, rfl⟩)
  · refine z_tableIn (tgt := 73) dX7_roomOf_16 (by decide) (by decide) (by rfl) (by decide) ?_
    refine z_aload_n (q := 74) dX7_roomOf_73 rfl rfl rfl ?_
    refine z_getI (q := 77) 5 1 3 61 rfl (by decide) rfl rfl rfl (by with_reducible assumption) dX7_roomOf_74 rfl ?_
    exact z_iret rfl dX7_roomOf_77 (Nat.zero_le _) (Nat.zero_le _) (⟨by rw [hq 1 (by decide)]; rfl, rfl, rfl, rfl, rfl⟩)
  · refine z_tableIn (tgt := 78) dX7_roomOf_16 (by decide) (by decide) (by rfl) (by decide) ?_
    refine z_aload_n (q := 79) dX7_roomOf_78 rfl rfl rfl ?_
    refine z_getI (q := 82) 5 2 4 62 rfl (by decide) rfl rfl rfl (by with_reducible assumption) dX7_roomOf_79 rfl ?_
    exact z_iret rfl dX7_roomOf_82 (Nat.zero_le _) (Nat.zero_le _) (⟨by rw [hq 2 (by decide)]; rfl, rfl, rfl, rfl, rfl⟩)
  · obtain ⟨v, v1, v2, v3⟩ := ((hI.2.2.2.2.1 r (by omega)).1 hrn).1
    have hv0 : ¬ I (x + 1 + 22 + 2 * r) 0 ≤ 0 := by
      rw [hq 0 (by decide), v1]
      exact Int32.not_le.mpr (by rw [← nI_0]; exact nI_lt (by omega) (by omega))
    refine z_tableIn (tgt := 83) dX7_roomOf_16 (by decide) (by decide) (by rfl) (by decide) ?_
    refine z_aload_n (q := 84) dX7_roomOf_83 rfl rfl rfl ?_
    refine z_invV (q := 87) (c_X5_density G (x + 1 + 22 + 2 * r) hRm) (by with_reducible assumption) rfl gX7_roomOf_X5_density rfl hy_X5_density rfl rfl rfl rfl (Nat.le_of_ble_eq_true rfl) ⟨Nat.zero_le _, Nat.zero_le _⟩ dX7_roomOf_84 rfl (z_rv ?_)
    rw [if_neg hv0, hq 0 (by decide), hq 2 (by decide)]
    exact z_iret rfl dX7_roomOf_87 (Nat.zero_le _) (Nat.zero_le _) (⟨by rw [show roomQ g r 3 = dens g r from rfl, dens, if_neg (by omega)], rfl, rfl, rfl, rfl⟩)
  · refine z_tableIn (tgt := 88) dX7_roomOf_16 (by decide) (by decide) (by rfl) (by decide) ?_
    have hq2 := hq 2 (by decide)
    refine z_aload_n (q := 89) dX7_roomOf_88 rfl rfl rfl ?_
    refine z_getI (q := 92) 5 2 4 62 rfl (by decide) rfl rfl rfl (by with_reducible assumption) dX7_roomOf_89 rfl ?_
    rw [hq2]
    refine z_if_le (tgt := 105) (q := 95) dX7_roomOf_92 (by decide) rfl (fun h92 => ?_) (fun h92 => ?_)
    · refine z_bipush (q := 107) (v := (-4)) dX7_roomOf_105 (by rfl) rfl ?_
      exact z_iret rfl dX7_roomOf_107 (Nat.zero_le _) (Nat.zero_le _) (⟨by rw [show roomQ g r 4 = lvl (g (9 + 6 * r + 2)) 31 from rfl, lvl_np h92], rfl, rfl, rfl, rfl⟩)
    · refine z_aload_n (q := 96) dX7_roomOf_95 rfl rfl rfl ?_
      refine z_getI (q := 99) 5 2 4 62 rfl (by decide) rfl rfl rfl (by with_reducible assumption) dX7_roomOf_96 rfl ?_
      rw [hq2]
      refine z_invS (q := 102) (c_X7_levelOf G (g (9 + 6 * r + 2)) (Int32.not_le.mp h92)) gX7_roomOf_X7_levelOf rfl hy_X7_levelOf rfl rfl rfl rfl (Nat.le_of_ble_eq_true rfl) ⟨Nat.zero_le _, Nat.zero_le _⟩ dX7_roomOf_99 rfl (z_rv ?_)
      refine z_goto (q := 107) dX7_roomOf_102 (by decide) ?_
      exact z_iret rfl dX7_roomOf_107 (Nat.zero_le _) (Nat.zero_le _) (⟨rfl, rfl, rfl, rfl, rfl⟩)
  · refine z_tableIn (tgt := 108) dX7_roomOf_16 (by decide) (by decide) (by rfl) (by decide) ?_
    refine z_aload_n (q := 109) dX7_roomOf_108 rfl rfl rfl ?_
    refine z_getI (q := 112) 5 3 5 63 rfl (by decide) rfl rfl rfl (by with_reducible assumption) dX7_roomOf_109 rfl ?_
    exact z_iret rfl dX7_roomOf_112 (Nat.zero_le _) (Nat.zero_le _) (⟨by rw [hq 3 (by decide)]; rfl, rfl, rfl, rfl, rfl⟩)
  · refine z_tableIn (tgt := 113) dX7_roomOf_16 (by decide) (by decide) (by rfl) (by decide) ?_
    refine z_aload_n (q := 114) dX7_roomOf_113 rfl rfl rfl ?_
    refine z_getI (q := 117) 5 4 6 64 rfl (by decide) rfl rfl rfl (by with_reducible assumption) dX7_roomOf_114 rfl ?_
    exact z_iret rfl dX7_roomOf_117 (Nat.zero_le _) (Nat.zero_le _) (⟨by rw [hq 4 (by decide)]; rfl, rfl, rfl, rfl, rfl⟩)
  · refine z_tableIn (tgt := 118) dX7_roomOf_16 (by decide) (by decide) (by rfl) (by decide) ?_
    refine z_aload_n (q := 119) dX7_roomOf_118 rfl rfl rfl ?_
    refine z_getR (q := 122) 7 0 1 55 rfl (by decide) rfl rfl rfl (by with_reducible assumption) (by with_reducible assumption) dX7_roomOf_119 rfl ?_
    refine z_iload_n (q := 123) dX7_roomOf_122 rfl rfl rfl ?_
    refine z_invV (q := 126) (c_X3_doorsOf G (x + 1) (nI r) hH) (by with_reducible assumption) rfl gX7_roomOf_X3_doorsOf rfl hy_X3_doorsOf rfl rfl rfl rfl (Nat.le_of_ble_eq_true rfl) ⟨Nat.zero_le _, Nat.zero_le _⟩ dX7_roomOf_123 rfl (z_rv ?_)
    exact z_iret rfl dX7_roomOf_126 (Nat.zero_le _) (Nat.zero_le _) (⟨by rw [show roomQ g r 7 = doorsN g (nI r) (gN g 1) from rfl, doors_eq hG hI, gN_of h1e (by omega)], rfl, rfl, rfl, rfl⟩)
  · refine z_tableIn (tgt := 127) dX7_roomOf_16 (by decide) (by decide) (by rfl) (by decide) ?_
    refine z_aload_n (q := 128) dX7_roomOf_127 rfl rfl rfl ?_
    refine z_getR (q := 131) 7 0 1 55 rfl (by decide) rfl rfl rfl (by with_reducible assumption) (by with_reducible assumption) dX7_roomOf_128 rfl ?_
    refine z_getR (q := 134) 3 2 7 69 rfl (by decide) rfl rfl rfl (by with_reducible assumption) (by with_reducible assumption) dX7_roomOf_131 rfl ?_
    refine z_iload_n (q := 135) dX7_roomOf_134 rfl rfl rfl ?_
    refine z_aload_n (q := 136) dX7_roomOf_135 rfl rfl rfl ?_
    refine z_getR (q := 139) 7 0 1 55 rfl (by decide) rfl rfl rfl (by with_reducible assumption) (by with_reducible assumption) dX7_roomOf_136 rfl ?_
    refine z_getV (q := 142) 3 6 8 73 rfl (by decide) rfl rfl rfl (by with_reducible assumption) (c3) dX7_roomOf_139 rfl ?_
    refine z_invV (q := 145) (c_X4_soundsHeard G (x + 1 + 3) np (nI r) (nI st) F hP) (by with_reducible assumption) rfl gX7_roomOf_X4_soundsHeard rfl hy_X4_soundsHeard rfl rfl rfl rfl (Nat.le_of_ble_eq_true rfl) ⟨Nat.zero_le _, Nat.zero_le _⟩ dX7_roomOf_142 rfl (z_rv ?_)
    exact z_iret rfl dX7_roomOf_145 (Nat.zero_le _) (Nat.zero_le _) (⟨by rw [show roomQ g r 8 = hrN g (nI r) (gN g 2) from rfl, hear_eq (by omega) hI hF, gN_of h2e (by omega)], rfl, rfl, rfl, rfl⟩)
set_option maxRecDepth 100000 in
set_option maxHeartbeats 4000000 in
theorem c_X7_doorOf (G : zG) {n : Nat} {T : zTT} {I : zII} {R : zRR} (x pc y : Nat) (g tx : Nat → Int32) (p : Nat → Nat → Int32) (hS : z_St T R I x g p pc tx y) (v w : Int32) : Ct G yX7_doorOf wsX7_doorOf (2, 0, 0) [.ref x, .int v, .int w] n T I R (z_ret (some (.int (sp_doorOf g v w))) n T I R) := by
  refine Ct.ofX (M := muX7_doorOf) (ls := [(0, .ref x), (1, .int v), (2, .int w)]) (by decide +kernel) rfl (by decide) rfl rfl (Nat.le_of_ble_eq_true rfl) ?_
  have hR := hS.1
  obtain ⟨hTx, hRh, hRa, hRi, hRs, hRt, hTt, hSc⟩ := id hR
  obtain ⟨st, hHs, hst, htl⟩ := id hS.2.1
  obtain ⟨hH, nr, nd, np, F, hI, hG, hP, hF⟩ := id hHs
  have hTh := hH.1
  have hRp := hH.2.2.2.1
  have hTp := hP.1.1
  have hnr := hI.1.2
  have hnd := hI.2.1.2
  have hnp := hI.2.2.1.2
  have c0 : I (x + 1) 4 = nI nr := by rw [(HR_sc hG).1]; exact hI.1.1
  have c1 : I (x + 1) 5 = nI nd := by rw [(HR_sc hG).2.1]; exact hI.2.1.1
  have c3 : I (x + 1) 6 = nI st := by rw [(HR_sc hG).2.2.1]; exact hI.2.2.2.1
  have cs2 : I (x + 1 + 3) 1 = nI np := hP.2.2.2.1
  have h0e : g 0 = nI nr := hI.1.1
  have h1e : g 1 = nI nd := hI.2.1.1
  have h2e : g 2 = nI np := hI.2.2.1.1
  have h3e : g 3 = nI st := hI.2.2.2.1
  have bad : sp_doorOf g v w = -1 → ∀ ls : List (Nat × Value), z_X G muX7_doorOf (2, 0, 0) (z_ret (some (.int (sp_doorOf g v w))) n T I R) n T I R 0 0 13 ls [] := by
    intro hb ls
    rw [hb]
    refine z_iconst (q := 14) (v := (-1)) dX7_doorOf_13 (by rfl) rfl ?_
    exact z_iret rfl dX7_doorOf_14 (Nat.zero_le _) (Nat.zero_le _) (⟨rfl, rfl, rfl, rfl, rfl⟩)
  have bad2 : sp_doorOf g v w = -1 → ∀ ls : List (Nat × Value), z_X G muX7_doorOf (2, 0, 0) (z_ret (some (.int (sp_doorOf g v w))) n T I R) n T I R 0 0 175 ls [] := by
    intro hb ls
    rw [hb]
    refine z_iconst (q := 176) (v := (-1)) dX7_doorOf_175 (by rfl) rfl ?_
    exact z_iret rfl dX7_doorOf_176 (Nat.zero_le _) (Nat.zero_le _) (⟨rfl, rfl, rfl, rfl, rfl⟩)
  by_cases hx : v < 0 ∨ nI nd ≤ v
  · refine z_aload_n (q := 1) dX7_doorOf_0 rfl rfl rfl ?_
    refine z_getR (q := 4) 7 0 1 44 rfl (by decide) rfl rfl rfl (by with_reducible assumption) (by with_reducible assumption) dX7_doorOf_1 rfl ?_
    refine z_iload_n (q := 5) dX7_doorOf_4 rfl rfl rfl ?_
    refine z_invV (q := 8) (c_X3_doorAt_n G (x + 1) nd v hH c1 hx) (by with_reducible assumption) rfl gX7_doorOf_X3_doorAt rfl hy_X3_doorAt rfl rfl rfl rfl (Nat.le_of_ble_eq_true rfl) ⟨Nat.zero_le _, Nat.zero_le _⟩ dX7_doorOf_5 rfl (z_rv ?_)
    refine z_astore_nN (q := 9) dX7_doorOf_8 rfl (by decide) rfl ?_
    refine z_aload_nN (q := 10) dX7_doorOf_9 rfl rfl rfl ?_
    refine z_ifnonnullN (q := 13) dX7_doorOf_10 rfl ?_
    exact bad (by rw [sp_doorOf, if_pos (by rw [h1e]; exact hx)]) _
  obtain ⟨d, hdn, rfl⟩ : ∃ k, k < nd ∧ v = nI k := by
    rcases pk_ix v (n := nd) (by omega) with z | z | z
    · exact absurd (Or.inl z) hx
    · exact absurd (Or.inr z) hx
    · exact z
  have hvg : ¬ (nI d < 0 ∨ g 1 ≤ nI d) := by rw [h1e]; exact hx
  have hDm := (hH.2.2.2.2.2.2.1 d (by omega)).2
  obtain ⟨hTd, hTd1, hTd2, hTd3, hTd4, hRd0, hRd7, hRd8, hRd9⟩ := id hDm
  refine z_aload_n (q := 1) dX7_doorOf_0 rfl rfl rfl ?_
  refine z_getR (q := 4) 7 0 1 44 rfl (by decide) rfl rfl rfl (by with_reducible assumption) (by with_reducible assumption) dX7_doorOf_1 rfl ?_
  refine z_iload_n (q := 5) dX7_doorOf_4 rfl rfl rfl ?_
  refine z_invV (q := 8) (c_X3_doorAt_s G (x + 1) d nd hH c1 hdn hnd) (by with_reducible assumption) rfl gX7_doorOf_X3_doorAt rfl hy_X3_doorAt rfl rfl rfl rfl (Nat.le_of_ble_eq_true rfl) ⟨Nat.zero_le _, Nat.zero_le _⟩ dX7_doorOf_5 rfl (z_rv ?_)
  refine z_astore_n (q := 9) dX7_doorOf_8 rfl (by decide) rfl ?_
  refine z_aload_n (q := 10) dX7_doorOf_9 rfl rfl rfl ?_
  refine z_ifnonnull (q := 15) dX7_doorOf_10 (by decide) ?_
  by_cases hz : w < nI 0 ∨ nI 12 < w
  · have ho : w.toInt < 0 ∨ 12 < w.toInt := hz.imp (fun h => show w.toInt < (nI 0).toInt from Int32.lt_iff_toInt_lt.mp h) (fun h => by
      have h2 : (nI 12).toInt < w.toInt := Int32.lt_iff_toInt_lt.mp h
      rw [show (nI 12).toInt = 12 from by decide] at h2
      exact h2)
    refine z_iload_n (q := 16) dX7_doorOf_15 rfl rfl rfl ?_
    refine z_tableOut (tgt := 175) dX7_doorOf_16 (ho) (by decide) ?_
    exact bad2 (by rw [sp_doorOf, if_neg hvg, if_pos hz]) _
  obtain ⟨k, -, hk, rfl⟩ := z_ix2 (by decide) (by decide) hz
  have e : sp_doorOf g (nI d) (nI k) = doorQ g d k := by rw [sp_doorOf, if_neg hvg, if_neg hz, nI_clamp (by omega), nI_clamp (by omega)]
  rw [e]
  have hq : ∀ w, 1 ≤ w → w < 7 → I (x + 1 + 38 + 5 * d) w = g (57 + 10 * d + (w + 1)) := fun w h1 hw => HR_door hG (by omega) h1 hw
  have hs : ∀ w, w < 2 → I (x + 1 + 38 + 5 * d + 1) w = g (57 + 10 * d + w) := fun w hw => HR_side hG (by omega) hw
  have hgo : ∀ w, w < 2 → I (x + 1 + 38 + 5 * d + 2) w = g (57 + 10 * d + 8 + w) := fun w hw => HR_gone hG (by omega) hw
  have hv : ∀ r, r < nr → ∃ v, I (x + 1 + 22 + 2 * r) 0 = nI v ∧ 10 ≤ v ∧ v ≤ 10000 := fun r hr => by
    rw [HR_room hG (by omega) (by decide)]
    exact ((hI.2.2.2.2.1 r (by omega)).1 hr).1
  refine z_iload_n (q := 16) dX7_doorOf_15 rfl rfl rfl ?_
  rcases (show k = 0 ∨ k = 1 ∨ k = 2 ∨ k = 3 ∨ k = 4 ∨ k = 5 ∨ k = 6 ∨ k = 7 ∨ k = 8 ∨ k = 9 ∨ k = 10 ∨ k = 11 ∨ k = 12 by omega) with rfl | rfl | rfl | rfl | rfl | rfl | rfl | rfl | rfl | rfl | rfl | rfl | rfl
  · refine z_tableIn (tgt := 84) dX7_doorOf_16 (by decide) (by decide) (by rfl) (by decide) ?_
    refine z_aload_n (q := 85) dX7_doorOf_84 rfl rfl rfl ?_
    refine z_getR (q := 88) 0 0 2 49 rfl (by decide) rfl rfl rfl (by with_reducible assumption) (by with_reducible assumption) dX7_doorOf_85 rfl ?_
    refine z_iconst (q := 89) (v := nI 0) dX7_doorOf_88 (by rfl) rfl ?_
    refine z_iald (q := 90) _ (by with_reducible assumption) (rfl) (by omega) (by decide) dX7_doorOf_89 rfl ?_
    exact z_iret rfl dX7_doorOf_90 (Nat.zero_le _) (Nat.zero_le _) (⟨by rw [hs 0 (by decide), doorQ, if_pos (by decide)], rfl, rfl, rfl, rfl⟩)
  · refine z_tableIn (tgt := 91) dX7_doorOf_16 (by decide) (by decide) (by rfl) (by decide) ?_
    refine z_aload_n (q := 92) dX7_doorOf_91 rfl rfl rfl ?_
    refine z_getR (q := 95) 0 0 2 49 rfl (by decide) rfl rfl rfl (by with_reducible assumption) (by with_reducible assumption) dX7_doorOf_92 rfl ?_
    refine z_iconst (q := 96) (v := nI 1) dX7_doorOf_95 (by rfl) rfl ?_
    refine z_iald (q := 97) _ (by with_reducible assumption) (rfl) (by omega) (by decide) dX7_doorOf_96 rfl ?_
    exact z_iret rfl dX7_doorOf_97 (Nat.zero_le _) (Nat.zero_le _) (⟨by rw [hs 1 (by decide), doorQ, if_pos (by decide)], rfl, rfl, rfl, rfl⟩)
  · refine z_tableIn (tgt := 98) dX7_doorOf_16 (by decide) (by decide) (by rfl) (by decide) ?_
    refine z_aload_n (q := 99) dX7_doorOf_98 rfl rfl rfl ?_
    refine z_getI (q := 102) 0 1 3 50 rfl (by decide) rfl rfl rfl (by with_reducible assumption) dX7_doorOf_99 rfl ?_
    exact z_iret rfl dX7_doorOf_102 (Nat.zero_le _) (Nat.zero_le _) (⟨by rw [hq 1 (by decide) (by decide), doorQ, if_pos (by decide)], rfl, rfl, rfl, rfl⟩)
  · refine z_tableIn (tgt := 103) dX7_doorOf_16 (by decide) (by decide) (by rfl) (by decide) ?_
    refine z_aload_n (q := 104) dX7_doorOf_103 rfl rfl rfl ?_
    refine z_getI (q := 107) 0 2 4 51 rfl (by decide) rfl rfl rfl (by with_reducible assumption) dX7_doorOf_104 rfl ?_
    exact z_iret rfl dX7_doorOf_107 (Nat.zero_le _) (Nat.zero_le _) (⟨by rw [hq 2 (by decide) (by decide), doorQ, if_pos (by decide)], rfl, rfl, rfl, rfl⟩)
  · refine z_tableIn (tgt := 108) dX7_doorOf_16 (by decide) (by decide) (by rfl) (by decide) ?_
    refine z_aload_n (q := 109) dX7_doorOf_108 rfl rfl rfl ?_
    refine z_getI (q := 112) 0 3 5 52 rfl (by decide) rfl rfl rfl (by with_reducible assumption) dX7_doorOf_109 rfl ?_
    exact z_iret rfl dX7_doorOf_112 (Nat.zero_le _) (Nat.zero_le _) (⟨by rw [hq 3 (by decide) (by decide), doorQ, if_pos (by decide)], rfl, rfl, rfl, rfl⟩)
  · refine z_tableIn (tgt := 113) dX7_doorOf_16 (by decide) (by decide) (by rfl) (by decide) ?_
    refine z_aload_n (q := 114) dX7_doorOf_113 rfl rfl rfl ?_
    refine z_getI (q := 117) 0 4 6 53 rfl (by decide) rfl rfl rfl (by with_reducible assumption) dX7_doorOf_114 rfl ?_
    exact z_iret rfl dX7_doorOf_117 (Nat.zero_le _) (Nat.zero_le _) (⟨by rw [hq 4 (by decide) (by decide), doorQ, if_pos (by decide)], rfl, rfl, rfl, rfl⟩)
  · refine z_tableIn (tgt := 118) dX7_doorOf_16 (by decide) (by decide) (by rfl) (by decide) ?_
    refine z_aload_n (q := 119) dX7_doorOf_118 rfl rfl rfl ?_
    refine z_getI (q := 122) 0 5 7 54 rfl (by decide) rfl rfl rfl (by with_reducible assumption) dX7_doorOf_119 rfl ?_
    exact z_iret rfl dX7_doorOf_122 (Nat.zero_le _) (Nat.zero_le _) (⟨by rw [hq 5 (by decide) (by decide), doorQ, if_pos (by decide)], rfl, rfl, rfl, rfl⟩)
  · obtain ⟨sa, sb, ar, sp, de, o, t, l, -, -, -, -, -, -, -, -, g8⟩ := (hI.2.2.2.2.2.1 d (by omega)).1 hdn
    have e7 : I (x + 1 + 38 + 5 * d) 6 = nI l := by rw [hq 6 (by decide) (by decide)]; exact g8.1
    have e2 : doorQ g d 7 = nI l := by rw [doorQ, if_pos (by decide)]; exact g8.1
    rw [e2]
    refine z_tableIn (tgt := 123) dX7_doorOf_16 (by decide) (by decide) (by rfl) (by decide) ?_
    refine z_aload_n (q := 124) dX7_doorOf_123 rfl rfl rfl ?_
    refine z_getV (q := 127) 0 6 8 55 rfl (by decide) rfl rfl rfl (by with_reducible assumption) (e7) dX7_doorOf_124 rfl ?_
    rcases (show l = 0 ∨ l = 1 by omega) with rfl | rfl
    · refine z_if_eq (tgt := 134) (q := 130) dX7_doorOf_127 (by decide) rfl (fun _ => ?_) (fun hc => False.elim (hc nI_0))
      refine z_iconst (q := 135) (v := nI 0) dX7_doorOf_134 (by rfl) rfl ?_
      exact z_iret rfl dX7_doorOf_135 (Nat.zero_le _) (Nat.zero_le _) (⟨rfl, rfl, rfl, rfl, rfl⟩)
    · refine z_if_eq (tgt := 134) (q := 130) dX7_doorOf_127 (by decide) rfl (fun hc => False.elim (z_n10 hc)) (fun _ => ?_)
      refine z_iconst (q := 131) (v := nI 1) dX7_doorOf_130 (by rfl) rfl ?_
      refine z_goto (q := 135) dX7_doorOf_131 (by decide) ?_
      exact z_iret rfl dX7_doorOf_135 (Nat.zero_le _) (Nat.zero_le _) (⟨rfl, rfl, rfl, rfl, rfl⟩)
  · refine z_tableIn (tgt := 136) dX7_doorOf_16 (by decide) (by decide) (by rfl) (by decide) ?_
    refine z_aload_n (q := 137) dX7_doorOf_136 rfl rfl rfl ?_
    refine z_invV (q := 140) (c_X0_energyOnItsWay G (x + 1 + 38 + 5 * d) hDm) (by with_reducible assumption) rfl gX7_doorOf_X0_energyOnItsWay rfl hy_X0_energyOnItsWay rfl rfl rfl rfl (Nat.le_of_ble_eq_true rfl) ⟨Nat.zero_le _, Nat.zero_le _⟩ dX7_doorOf_137 rfl (z_rv ?_)
    exact z_iret rfl dX7_doorOf_140 (Nat.zero_le _) (Nat.zero_le _) (⟨by rw [doorQ, if_neg (by decide), if_pos rfl, onway_eq hG (by omega)], rfl, rfl, rfl, rfl⟩)
  · refine z_tableIn (tgt := 141) dX7_doorOf_16 (by decide) (by decide) (by rfl) (by decide) ?_
    refine z_aload_n (q := 142) dX7_doorOf_141 rfl rfl rfl ?_
    refine z_getR (q := 145) 0 7 9 56 rfl (by decide) rfl rfl rfl (by with_reducible assumption) (by with_reducible assumption) dX7_doorOf_142 rfl ?_
    refine z_iconst (q := 146) (v := nI 0) dX7_doorOf_145 (by rfl) rfl ?_
    refine z_iald (q := 147) _ (by with_reducible assumption) (rfl) (by omega) (by decide) dX7_doorOf_146 rfl ?_
    exact z_iret rfl dX7_doorOf_147 (Nat.zero_le _) (Nat.zero_le _) (⟨by rw [hgo 0 (by decide), doorQ, if_neg (by decide), if_neg (by decide), if_pos (by decide)], rfl, rfl, rfl, rfl⟩)
  · refine z_tableIn (tgt := 148) dX7_doorOf_16 (by decide) (by decide) (by rfl) (by decide) ?_
    refine z_aload_n (q := 149) dX7_doorOf_148 rfl rfl rfl ?_
    refine z_getR (q := 152) 0 7 9 56 rfl (by decide) rfl rfl rfl (by with_reducible assumption) (by with_reducible assumption) dX7_doorOf_149 rfl ?_
    refine z_iconst (q := 153) (v := nI 1) dX7_doorOf_152 (by rfl) rfl ?_
    refine z_iald (q := 154) _ (by with_reducible assumption) (rfl) (by omega) (by decide) dX7_doorOf_153 rfl ?_
    exact z_iret rfl dX7_doorOf_154 (Nat.zero_le _) (Nat.zero_le _) (⟨by rw [hgo 1 (by decide), doorQ, if_neg (by decide), if_neg (by decide), if_pos (by decide)], rfl, rfl, rfl, rfl⟩)
  · refine z_tableIn (tgt := 155) dX7_doorOf_16 (by decide) (by decide) (by rfl) (by decide) ?_
    refine z_aload_n (q := 156) dX7_doorOf_155 rfl rfl rfl ?_
    refine z_getR (q := 159) 7 0 1 44 rfl (by decide) rfl rfl rfl (by with_reducible assumption) (by with_reducible assumption) dX7_doorOf_156 rfl ?_
    refine z_aload_n (q := 160) dX7_doorOf_159 rfl rfl rfl ?_
    refine z_iconst (q := 161) (v := nI 0) dX7_doorOf_160 (by rfl) rfl ?_
    refine z_invV (q := 164) (c_X3_wouldGo G (x + 1) d 0 nr hH c0 hnr (by omega) (by decide) hv) (by with_reducible assumption) rfl gX7_doorOf_X3_wouldGo rfl hy_X3_wouldGo rfl rfl rfl rfl (Nat.le_of_ble_eq_true rfl) ⟨Nat.zero_le _, Nat.zero_le _⟩ dX7_doorOf_161 rfl (z_rv ?_)
    exact z_iret rfl dX7_doorOf_164 (Nat.zero_le _) (Nat.zero_le _) (⟨by rw [wg_thr hG hI hdn (by decide), doorQ, if_neg (by decide), if_neg (by decide), if_neg (by decide)], rfl, rfl, rfl, rfl⟩)
  · refine z_tableIn (tgt := 165) dX7_doorOf_16 (by decide) (by decide) (by rfl) (by decide) ?_
    refine z_aload_n (q := 166) dX7_doorOf_165 rfl rfl rfl ?_
    refine z_getR (q := 169) 7 0 1 44 rfl (by decide) rfl rfl rfl (by with_reducible assumption) (by with_reducible assumption) dX7_doorOf_166 rfl ?_
    refine z_aload_n (q := 170) dX7_doorOf_169 rfl rfl rfl ?_
    refine z_iconst (q := 171) (v := nI 1) dX7_doorOf_170 (by rfl) rfl ?_
    refine z_invV (q := 174) (c_X3_wouldGo G (x + 1) d 1 nr hH c0 hnr (by omega) (by decide) hv) (by with_reducible assumption) rfl gX7_doorOf_X3_wouldGo rfl hy_X3_wouldGo rfl rfl rfl rfl (Nat.le_of_ble_eq_true rfl) ⟨Nat.zero_le _, Nat.zero_le _⟩ dX7_doorOf_171 rfl (z_rv ?_)
    exact z_iret rfl dX7_doorOf_174 (Nat.zero_le _) (Nat.zero_le _) (⟨by rw [wg_thr hG hI hdn (by decide), doorQ, if_neg (by decide), if_neg (by decide), if_neg (by decide)], rfl, rfl, rfl, rfl⟩)
set_option maxRecDepth 100000 in
set_option maxHeartbeats 4000000 in
theorem c_X7_plan (G : zG) {n : Nat} {T : zTT} {I : zII} {R : zRR} (x pc y : Nat) (g tx : Nat → Int32) (p : Nat → Nat → Int32) (hS : z_St T R I x g p pc tx y) (v w : Int32) : Ct G yX7_plan wsX7_plan (1, 0, 0) [.ref x, .int v, .int w] n T I R (z_ret (some (.int (sp_plan g v w))) n T I R) := by
  refine Ct.ofX (M := muX7_plan) (ls := [(0, .ref x), (1, .int v), (2, .int w)]) (by decide +kernel) rfl (by decide) rfl rfl (Nat.le_of_ble_eq_true rfl) ?_
  have hR := hS.1
  obtain ⟨hTx, hRh, hRa, hRi, hRs, hRt, hTt, hSc⟩ := id hR
  obtain ⟨st, hHs, hst, htl⟩ := id hS.2.1
  obtain ⟨hH, nr, nd, np, F, hI, hG, hP, hF⟩ := id hHs
  have hTh := hH.1
  have hRp := hH.2.2.2.1
  have hTp := hP.1.1
  have hnr := hI.1.2
  have hnd := hI.2.1.2
  have hnp := hI.2.2.1.2
  have c0 : I (x + 1) 4 = nI nr := by rw [(HR_sc hG).1]; exact hI.1.1
  have c1 : I (x + 1) 5 = nI nd := by rw [(HR_sc hG).2.1]; exact hI.2.1.1
  have c3 : I (x + 1) 6 = nI st := by rw [(HR_sc hG).2.2.1]; exact hI.2.2.2.1
  have cs2 : I (x + 1 + 3) 1 = nI np := hP.2.2.2.1
  have h0e : g 0 = nI nr := hI.1.1
  have h1e : g 1 = nI nd := hI.2.1.1
  have h2e : g 2 = nI np := hI.2.2.1.1
  have h3e : g 3 = nI st := hI.2.2.2.1
  have bad : sp_plan g v w = -1 → ∀ ls : List (Nat × Value), z_X G muX7_plan (1, 0, 0) (z_ret (some (.int (sp_plan g v w))) n T I R) n T I R 0 0 13 ls [] := by
    intro hb ls
    rw [hb]
    refine z_iconst (q := 14) (v := (-1)) dX7_plan_13 (by rfl) rfl ?_
    exact z_iret rfl dX7_plan_14 (Nat.zero_le _) (Nat.zero_le _) (⟨rfl, rfl, rfl, rfl, rfl⟩)
  refine z_iload_n (q := 1) dX7_plan_0 rfl rfl rfl ?_
  refine z_if_lt (tgt := 13) (q := 4) dX7_plan_1 (by decide) rfl (fun h1 => ?_) (fun h1 => ?_)
  · exact bad (by rw [sp_plan, if_pos h1]) _
  refine z_iload_n (q := 5) dX7_plan_4 rfl rfl rfl ?_
  refine z_iconst (q := 6) (v := nI 0) dX7_plan_5 (by rfl) rfl ?_
  refine z_iconst (q := 7) (v := nI 4) dX7_plan_6 (by rfl) rfl ?_
  refine z_invS (q := 10) (c_X7_isWithin G w (nI 0) (nI 4)) gX7_plan_X7_isWithin rfl hy_X7_isWithin rfl rfl rfl rfl (Nat.le_of_ble_eq_true rfl) ⟨Nat.zero_le _, Nat.zero_le _⟩ dX7_plan_7 rfl (z_rv ?_)
  by_cases hz : w < nI 0 ∨ nI 4 < w
  · rw [if_pos hz]
    refine z_if_ne (tgt := 15) (q := 13) dX7_plan_10 (by decide) rfl (fun hc => False.elim (hc rfl)) (fun _ => ?_)
    exact bad (by rw [sp_plan, if_neg h1, if_pos hz]) _
  rw [if_neg hz]
  refine z_if_ne (tgt := 15) (q := 13) dX7_plan_10 (by decide) rfl (fun _ => ?_) (fun hc => False.elim (absurd hc (by decide)))
  by_cases hx : v < 0 ∨ nI np ≤ v
  · have hge : nI np ≤ v := hx.elim (fun z => absurd z h1) id
    refine z_aload_n (q := 16) dX7_plan_15 rfl rfl rfl ?_
    refine z_getR (q := 19) 7 0 1 19 rfl (by decide) rfl rfl rfl (by with_reducible assumption) (by with_reducible assumption) dX7_plan_16 rfl ?_
    refine z_getR (q := 22) 3 2 2 26 rfl (by decide) rfl rfl rfl (by with_reducible assumption) (by with_reducible assumption) dX7_plan_19 rfl ?_
    refine z_iload_n (q := 23) dX7_plan_22 rfl rfl rfl ?_
    refine z_invV (q := 26) (c_X4_entryAt_n G (x + 1 + 3) np v F hP hx) (by with_reducible assumption) rfl gX7_plan_X4_entryAt rfl hy_X4_entryAt rfl rfl rfl rfl (Nat.le_of_ble_eq_true rfl) ⟨Nat.zero_le _, Nat.zero_le _⟩ dX7_plan_23 rfl (z_rv ?_)
    refine z_astore_nN (q := 27) dX7_plan_26 rfl (by decide) rfl ?_
    refine z_aload_nN (q := 28) dX7_plan_27 rfl rfl rfl ?_
    refine z_ifnonnullN (q := 31) dX7_plan_28 rfl ?_
    refine z_bipush (q := 33) (v := (-4)) dX7_plan_31 (by rfl) rfl ?_
    exact z_iret rfl dX7_plan_33 (Nat.zero_le _) (Nat.zero_le _) (⟨by rw [sp_plan, if_neg h1, if_neg hz, if_neg (by rw [h2e]; exact Int32.not_lt.mpr hge)], rfl, rfl, rfl, rfl⟩)
  obtain ⟨k, hk, rfl⟩ : ∃ k, k < np ∧ v = nI k := by
    rcases pk_ix v (n := np) (by omega) with z | z | z
    · exact absurd (Or.inl z) hx
    · exact absurd (Or.inr z) hx
    · exact z
  obtain ⟨c, -, hc4, rfl⟩ := z_ix2 (by decide) (by decide) hz
  have hTe := z_eT hP (show k < 16 by omega)
  have hFi : entC I (eAt R (x + 1 + 3) k) = ent g k := (hP.2.2.2.2.2 k hk).trans (pl_ent hF hk)
  have e0 : I (eAt R (x + 1 + 3) k) 1 = g (321 + 5 * k + 0) := congrArg (fun z : zE => z.1) hFi
  have e1 : (if I (eAt R (x + 1 + 3) k) 0 = 0 then nI 1 else nI 0) = g (321 + 5 * k + 1) := congrArg (fun z : zE => z.2.1) hFi
  have e2 : I (eAt R (x + 1 + 3) k) 2 = g (321 + 5 * k + 2) := congrArg (fun z : zE => z.2.2.1) hFi
  have e3 : I (eAt R (x + 1 + 3) k) 3 = g (321 + 5 * k + 3) := congrArg (fun z : zE => z.2.2.2.1) hFi
  have e4 : I (eAt R (x + 1 + 3) k) 4 = g (321 + 5 * k + 4) := congrArg (fun z : zE => z.2.2.2.2) hFi
  have e : sp_plan g (nI k) (nI c) = g (321 + 5 * k + c) := by rw [sp_plan, if_neg h1, if_neg hz, if_pos (by rw [h2e]; exact nI_lt hk (by omega)), nI_clamp (by omega), nI_clamp (by omega)]
  rw [e]
  refine z_aload_n (q := 16) dX7_plan_15 rfl rfl rfl ?_
  refine z_getR (q := 19) 7 0 1 19 rfl (by decide) rfl rfl rfl (by with_reducible assumption) (by with_reducible assumption) dX7_plan_16 rfl ?_
  refine z_getR (q := 22) 3 2 2 26 rfl (by decide) rfl rfl rfl (by with_reducible assumption) (by with_reducible assumption) dX7_plan_19 rfl ?_
  refine z_iload_n (q := 23) dX7_plan_22 rfl rfl rfl ?_
  refine z_invV (q := 26) (c_X4_entryAt_s G (x + 1 + 3) np k F hP hk) (by with_reducible assumption) rfl gX7_plan_X4_entryAt rfl hy_X4_entryAt rfl rfl rfl rfl (Nat.le_of_ble_eq_true rfl) ⟨Nat.zero_le _, Nat.zero_le _⟩ dX7_plan_23 rfl (z_rv ?_)
  refine z_astore_n (q := 27) dX7_plan_26 rfl (by decide) rfl ?_
  refine z_aload_n (q := 28) dX7_plan_27 rfl rfl rfl ?_
  refine z_ifnonnull (q := 34) dX7_plan_28 (by decide) ?_
  refine z_iload_n (q := 35) dX7_plan_34 rfl rfl rfl ?_
  rcases (show c = 0 ∨ c = 1 ∨ c = 2 ∨ c = 3 ∨ c = 4 by omega) with rfl | rfl | rfl | rfl | rfl
  · refine z_tableIn (tgt := 64) dX7_plan_35 (by decide) (by decide) (by rfl) (by decide) ?_
    refine z_aload_n (q := 65) dX7_plan_64 rfl rfl rfl ?_
    refine z_getI (q := 68) 1 1 3 35 rfl (by decide) rfl rfl rfl (by with_reducible assumption) dX7_plan_65 rfl ?_
    exact z_iret rfl dX7_plan_68 (Nat.zero_le _) (Nat.zero_le _) (⟨by rw [e0], rfl, rfl, rfl, rfl⟩)
  · refine z_tableIn (tgt := 69) dX7_plan_35 (by decide) (by decide) (by rfl) (by decide) ?_
    refine z_aload_n (q := 70) dX7_plan_69 rfl rfl rfl ?_
    refine z_getI (q := 73) 1 0 4 34 rfl (by decide) rfl rfl rfl (by with_reducible assumption) dX7_plan_70 rfl ?_
    refine z_if_eq (tgt := 80) (q := 76) dX7_plan_73 (by decide) rfl (fun h73 => ?_) (fun h73 => ?_)
    · rw [if_pos h73] at e1
      refine z_iconst (q := 81) (v := nI 1) dX7_plan_80 (by rfl) rfl ?_
      exact z_iret rfl dX7_plan_81 (Nat.zero_le _) (Nat.zero_le _) (⟨by rw [e1], rfl, rfl, rfl, rfl⟩)
    · rw [if_neg h73] at e1
      refine z_iconst (q := 77) (v := nI 0) dX7_plan_76 (by rfl) rfl ?_
      refine z_goto (q := 81) dX7_plan_77 (by decide) ?_
      exact z_iret rfl dX7_plan_81 (Nat.zero_le _) (Nat.zero_le _) (⟨by rw [e1], rfl, rfl, rfl, rfl⟩)
  · refine z_tableIn (tgt := 82) dX7_plan_35 (by decide) (by decide) (by rfl) (by decide) ?_
    refine z_aload_n (q := 83) dX7_plan_82 rfl rfl rfl ?_
    refine z_getI (q := 86) 1 2 5 36 rfl (by decide) rfl rfl rfl (by with_reducible assumption) dX7_plan_83 rfl ?_
    exact z_iret rfl dX7_plan_86 (Nat.zero_le _) (Nat.zero_le _) (⟨by rw [e2], rfl, rfl, rfl, rfl⟩)
  · refine z_tableIn (tgt := 87) dX7_plan_35 (by decide) (by decide) (by rfl) (by decide) ?_
    refine z_aload_n (q := 88) dX7_plan_87 rfl rfl rfl ?_
    refine z_getI (q := 91) 1 3 6 37 rfl (by decide) rfl rfl rfl (by with_reducible assumption) dX7_plan_88 rfl ?_
    exact z_iret rfl dX7_plan_91 (Nat.zero_le _) (Nat.zero_le _) (⟨by rw [e3], rfl, rfl, rfl, rfl⟩)
  · have ho : (nI 4).toInt < 0 ∨ 3 < (nI 4).toInt := by decide
    refine z_tableOut (tgt := 92) dX7_plan_35 (ho) (by decide) ?_
    refine z_aload_n (q := 93) dX7_plan_92 rfl rfl rfl ?_
    refine z_getI (q := 96) 1 4 7 38 rfl (by decide) rfl rfl rfl (by with_reducible assumption) dX7_plan_93 rfl ?_
    exact z_iret rfl dX7_plan_96 (Nat.zero_le _) (Nat.zero_le _) (⟨by rw [e4], rfl, rfl, rfl, rfl⟩)
set_option maxRecDepth 100000 in
set_option maxHeartbeats 4000000 in
theorem c_X7_count (G : zG) {n : Nat} {T : zTT} {I : zII} {R : zRR} (x pc y : Nat) (g tx : Nat → Int32) (p : Nat → Nat → Int32) (hS : z_St T R I x g p pc tx y) (v : Int32) : Ct G yX7_count wsX7_count (2, 0, 0) [.ref x, .int v] n T I R (z_ret (some (.int (sp_count g (nI pc) (nI y) v))) n T I R) := by
  refine Ct.ofX (M := muX7_count) (ls := [(0, .ref x), (1, .int v)]) (by decide +kernel) rfl (by decide) rfl rfl (Nat.le_of_ble_eq_true rfl) ?_
  have hR := hS.1
  obtain ⟨hTx, hRh, hRa, hRi, hRs, hRt, hTt, hSc⟩ := id hR
  obtain ⟨st, hHs, hst, htl⟩ := id hS.2.1
  obtain ⟨hH, nr, nd, np, F, hI, hG, hP, hF⟩ := id hHs
  have hTh := hH.1
  have hRp := hH.2.2.2.1
  have hTp := hP.1.1
  have hnr := hI.1.2
  have hnd := hI.2.1.2
  have hnp := hI.2.2.1.2
  have c0 : I (x + 1) 4 = nI nr := by rw [(HR_sc hG).1]; exact hI.1.1
  have c1 : I (x + 1) 5 = nI nd := by rw [(HR_sc hG).2.1]; exact hI.2.1.1
  have c3 : I (x + 1) 6 = nI st := by rw [(HR_sc hG).2.2.1]; exact hI.2.2.2.1
  have cs2 : I (x + 1 + 3) 1 = nI np := hP.2.2.2.1
  have h0e : g 0 = nI nr := hI.1.1
  have h1e : g 1 = nI nd := hI.2.1.1
  have h2e : g 2 = nI np := hI.2.2.1.1
  have h3e : g 3 = nI st := hI.2.2.2.1
  have hpc : I (x + 197) 1 = nI pc := hS.2.2.2.1.2.2.1.1
  have hTi := hS.2.2.2.1.1
  have hy : I (x + 591) 1 = nI y := hS.2.2.2.2.1.1
  have hTs := hSc.1
  have hTse := hH.2.2.2.2.1.1
  have hRse := hH.2.2.2.2.1.2
  obtain ⟨s0, s1, s3, s4, s5, s6, s7, s8⟩ := HR_sc hG
  have bad : sp_count g (nI pc) (nI y) v = -1 → ∀ ls : List (Nat × Value), z_X G muX7_count (2, 0, 0) (z_ret (some (.int (sp_count g (nI pc) (nI y) v))) n T I R) n T I R 0 0 231 ls [] := by
    intro hb ls
    rw [hb]
    refine z_iconst (q := 232) (v := (-1)) dX7_count_231 (by rfl) rfl ?_
    exact z_iret rfl dX7_count_232 (Nat.zero_le _) (Nat.zero_le _) (⟨rfl, rfl, rfl, rfl, rfl⟩)
  refine z_iload_n (q := 1) dX7_count_0 rfl rfl rfl ?_
  by_cases hz : v < nI 0 ∨ nI 21 < v
  · have ho : v.toInt < 0 ∨ 21 < v.toInt := hz.imp (fun h => show v.toInt < (nI 0).toInt from Int32.lt_iff_toInt_lt.mp h) (fun h => by
      have h2 : (nI 21).toInt < v.toInt := Int32.lt_iff_toInt_lt.mp h
      rw [show (nI 21).toInt = 21 from by decide] at h2
      exact h2)
    refine z_tableOut (tgt := 231) dX7_count_1 (ho) (by decide) ?_
    exact bad (by rw [sp_count, if_pos hz]) _
  obtain ⟨k, -, hk, rfl⟩ := z_ix2 (by decide) (by decide) hz
  have e : sp_count g (nI pc) (nI y) (nI k) = cntQ g (nI pc) (nI y) k := by rw [sp_count, if_neg hz, nI_clamp (by omega)]
  rw [e] at bad ⊢
  rcases (show k = 0 ∨ k = 1 ∨ k = 2 ∨ k = 3 ∨ k = 4 ∨ k = 5 ∨ k = 6 ∨ k = 7 ∨ k = 8 ∨ k = 9 ∨ k = 10 ∨ k = 11 ∨ k = 12 ∨ k = 13 ∨ k = 14 ∨ k = 15 ∨ k = 16 ∨ k = 17 ∨ k = 18 ∨ k = 19 ∨ k = 20 ∨ k = 21 by omega) with rfl | rfl | rfl | rfl | rfl | rfl | rfl | rfl | rfl | rfl | rfl | rfl | rfl | rfl | rfl | rfl | rfl | rfl | rfl | rfl | rfl | rfl
  · refine z_tableIn (tgt := 104) dX7_count_1 (by decide) (by decide) (by rfl) (by decide) ?_
    refine z_aload_n (q := 105) dX7_count_104 rfl rfl rfl ?_
    refine z_getR (q := 108) 7 0 1 43 rfl (by decide) rfl rfl rfl (by with_reducible assumption) (by with_reducible assumption) dX7_count_105 rfl ?_
    refine z_getI (q := 111) 3 4 2 52 rfl (by decide) rfl rfl rfl (by with_reducible assumption) dX7_count_108 rfl ?_
    exact z_iret rfl dX7_count_111 (Nat.zero_le _) (Nat.zero_le _) (⟨by rw [s0]; rfl, rfl, rfl, rfl, rfl⟩)
  · refine z_tableIn (tgt := 112) dX7_count_1 (by decide) (by decide) (by rfl) (by decide) ?_
    refine z_aload_n (q := 113) dX7_count_112 rfl rfl rfl ?_
    refine z_getR (q := 116) 7 0 1 43 rfl (by decide) rfl rfl rfl (by with_reducible assumption) (by with_reducible assumption) dX7_count_113 rfl ?_
    refine z_getI (q := 119) 3 5 3 53 rfl (by decide) rfl rfl rfl (by with_reducible assumption) dX7_count_116 rfl ?_
    exact z_iret rfl dX7_count_119 (Nat.zero_le _) (Nat.zero_le _) (⟨by rw [s1]; rfl, rfl, rfl, rfl, rfl⟩)
  · refine z_tableIn (tgt := 120) dX7_count_1 (by decide) (by decide) (by rfl) (by decide) ?_
    refine z_aload_n (q := 121) dX7_count_120 rfl rfl rfl ?_
    refine z_getR (q := 124) 7 0 1 43 rfl (by decide) rfl rfl rfl (by with_reducible assumption) (by with_reducible assumption) dX7_count_121 rfl ?_
    refine z_getR (q := 127) 3 2 4 50 rfl (by decide) rfl rfl rfl (by with_reducible assumption) (by with_reducible assumption) dX7_count_124 rfl ?_
    refine z_getV (q := 130) 4 1 5 59 rfl (by decide) rfl rfl rfl (by with_reducible assumption) (cs2) dX7_count_127 rfl ?_
    exact z_iret rfl dX7_count_130 (Nat.zero_le _) (Nat.zero_le _) (⟨by rw [show cntQ g (nI pc) (nI y) 2 = g 2 from rfl, h2e], rfl, rfl, rfl, rfl⟩)
  · refine z_tableIn (tgt := 131) dX7_count_1 (by decide) (by decide) (by rfl) (by decide) ?_
    refine z_aload_n (q := 132) dX7_count_131 rfl rfl rfl ?_
    refine z_getR (q := 135) 7 0 1 43 rfl (by decide) rfl rfl rfl (by with_reducible assumption) (by with_reducible assumption) dX7_count_132 rfl ?_
    refine z_getI (q := 138) 3 6 6 54 rfl (by decide) rfl rfl rfl (by with_reducible assumption) dX7_count_135 rfl ?_
    exact z_iret rfl dX7_count_138 (Nat.zero_le _) (Nat.zero_le _) (⟨by rw [s3]; rfl, rfl, rfl, rfl, rfl⟩)
  · refine z_tableIn (tgt := 139) dX7_count_1 (by decide) (by decide) (by rfl) (by decide) ?_
    refine z_aload_n (q := 140) dX7_count_139 rfl rfl rfl ?_
    refine z_getR (q := 143) 7 0 1 43 rfl (by decide) rfl rfl rfl (by with_reducible assumption) (by with_reducible assumption) dX7_count_140 rfl ?_
    refine z_invV (q := 146) (c_X3_energyInRooms G (x + 1) hH) (by with_reducible assumption) rfl gX7_count_X3_energyInRooms rfl hy_X3_energyInRooms rfl rfl rfl rfl (Nat.le_of_ble_eq_true rfl) ⟨Nat.zero_le _, Nat.zero_le _⟩ dX7_count_143 rfl (z_rv ?_)
    exact z_iret rfl dX7_count_146 (Nat.zero_le _) (Nat.zero_le _) (⟨by rw [allR_eq (st := st) hG hI (by decide)]; rfl, rfl, rfl, rfl, rfl⟩)
  · refine z_tableIn (tgt := 147) dX7_count_1 (by decide) (by decide) (by rfl) (by decide) ?_
    refine z_aload_n (q := 148) dX7_count_147 rfl rfl rfl ?_
    refine z_getR (q := 151) 7 0 1 43 rfl (by decide) rfl rfl rfl (by with_reducible assumption) (by with_reducible assumption) dX7_count_148 rfl ?_
    refine z_invV (q := 154) (c_X3_energyOnItsWay G (x + 1) hH) (by with_reducible assumption) rfl gX7_count_X3_energyOnItsWay rfl hy_X3_energyOnItsWay rfl rfl rfl rfl (Nat.le_of_ble_eq_true rfl) ⟨Nat.zero_le _, Nat.zero_le _⟩ dX7_count_151 rfl (z_rv ?_)
    exact z_iret rfl dX7_count_154 (Nat.zero_le _) (Nat.zero_le _) (⟨by rw [allW_eq hG hI]; rfl, rfl, rfl, rfl, rfl⟩)
  · refine z_tableIn (tgt := 155) dX7_count_1 (by decide) (by decide) (by rfl) (by decide) ?_
    refine z_aload_n (q := 156) dX7_count_155 rfl rfl rfl ?_
    refine z_getR (q := 159) 7 0 1 43 rfl (by decide) rfl rfl rfl (by with_reducible assumption) (by with_reducible assumption) dX7_count_156 rfl ?_
    refine z_invV (q := 162) (c_X3_energyAbsorbed G (x + 1) hH) (by with_reducible assumption) rfl gX7_count_X3_energyAbsorbed rfl hy_X3_energyAbsorbed rfl rfl rfl rfl (Nat.le_of_ble_eq_true rfl) ⟨Nat.zero_le _, Nat.zero_le _⟩ dX7_count_159 rfl (z_rv ?_)
    exact z_iret rfl dX7_count_162 (Nat.zero_le _) (Nat.zero_le _) (⟨by rw [allR_eq (st := st) hG hI (by decide)]; rfl, rfl, rfl, rfl, rfl⟩)
  · refine z_tableIn (tgt := 163) dX7_count_1 (by decide) (by decide) (by rfl) (by decide) ?_
    refine z_aload_n (q := 164) dX7_count_163 rfl rfl rfl ?_
    refine z_getR (q := 167) 7 0 1 43 rfl (by decide) rfl rfl rfl (by with_reducible assumption) (by with_reducible assumption) dX7_count_164 rfl ?_
    refine z_getI (q := 170) 3 7 7 55 rfl (by decide) rfl rfl rfl (by with_reducible assumption) dX7_count_167 rfl ?_
    exact z_iret rfl dX7_count_170 (Nat.zero_le _) (Nat.zero_le _) (⟨by rw [s4]; rfl, rfl, rfl, rfl, rfl⟩)
  · refine z_tableIn (tgt := 171) dX7_count_1 (by decide) (by decide) (by rfl) (by decide) ?_
    refine z_aload_n (q := 172) dX7_count_171 rfl rfl rfl ?_
    refine z_getR (q := 175) 7 0 1 43 rfl (by decide) rfl rfl rfl (by with_reducible assumption) (by with_reducible assumption) dX7_count_172 rfl ?_
    refine z_invV (q := 178) (c_X3_energyGiven G (x + 1) hH) (by with_reducible assumption) rfl gX7_count_X3_energyGiven rfl hy_X3_energyGiven rfl rfl rfl rfl (Nat.le_of_ble_eq_true rfl) ⟨Nat.zero_le _, Nat.zero_le _⟩ dX7_count_175 rfl (z_rv ?_)
    exact z_iret rfl dX7_count_178 (Nat.zero_le _) (Nat.zero_le _) (⟨by rw [allR_eq (st := st) hG hI (by decide)]; rfl, rfl, rfl, rfl, rfl⟩)
  · refine z_tableIn (tgt := 179) dX7_count_1 (by decide) (by decide) (by rfl) (by decide) ?_
    refine z_aload_n (q := 180) dX7_count_179 rfl rfl rfl ?_
    refine z_getR (q := 183) 7 0 1 43 rfl (by decide) rfl rfl rfl (by with_reducible assumption) (by with_reducible assumption) dX7_count_180 rfl ?_
    refine z_getI (q := 186) 3 8 8 56 rfl (by decide) rfl rfl rfl (by with_reducible assumption) dX7_count_183 rfl ?_
    exact z_iret rfl dX7_count_186 (Nat.zero_le _) (Nat.zero_le _) (⟨by rw [s5]; rfl, rfl, rfl, rfl, rfl⟩)
  · refine z_tableIn (tgt := 187) dX7_count_1 (by decide) (by decide) (by rfl) (by decide) ?_
    refine z_aload_n (q := 188) dX7_count_187 rfl rfl rfl ?_
    refine z_getR (q := 191) 7 0 1 43 rfl (by decide) rfl rfl rfl (by with_reducible assumption) (by with_reducible assumption) dX7_count_188 rfl ?_
    refine z_getI (q := 194) 3 9 9 57 rfl (by decide) rfl rfl rfl (by with_reducible assumption) dX7_count_191 rfl ?_
    exact z_iret rfl dX7_count_194 (Nat.zero_le _) (Nat.zero_le _) (⟨by rw [s6]; rfl, rfl, rfl, rfl, rfl⟩)
  · refine z_tableIn (tgt := 195) dX7_count_1 (by decide) (by decide) (by rfl) (by decide) ?_
    refine z_aload_n (q := 196) dX7_count_195 rfl rfl rfl ?_
    refine z_getR (q := 199) 7 2 10 45 rfl (by decide) rfl rfl rfl (by with_reducible assumption) (by with_reducible assumption) dX7_count_196 rfl ?_
    refine z_getV (q := 202) 2 1 11 61 rfl (by decide) rfl rfl rfl (by with_reducible assumption) (hpc) dX7_count_199 rfl ?_
    exact z_iret rfl dX7_count_202 (Nat.zero_le _) (Nat.zero_le _) (⟨rfl, rfl, rfl, rfl, rfl⟩)
  · refine z_tableIn (tgt := 203) dX7_count_1 (by decide) (by decide) (by rfl) (by decide) ?_
    refine z_aload_n (q := 204) dX7_count_203 rfl rfl rfl ?_
    refine z_getR (q := 207) 7 3 12 46 rfl (by decide) rfl rfl rfl (by with_reducible assumption) (by with_reducible assumption) dX7_count_204 rfl ?_
    refine z_getV (q := 210) 6 1 13 63 rfl (by decide) rfl rfl rfl (by with_reducible assumption) (hy) dX7_count_207 rfl ?_
    exact z_iret rfl dX7_count_210 (Nat.zero_le _) (Nat.zero_le _) (⟨rfl, rfl, rfl, rfl, rfl⟩)
  · refine z_tableIn (tgt := 231) dX7_count_1 (by decide) (by decide) (by rfl) (by decide) ?_
    exact bad rfl _
  · refine z_tableIn (tgt := 231) dX7_count_1 (by decide) (by decide) (by rfl) (by decide) ?_
    exact bad rfl _
  · refine z_tableIn (tgt := 231) dX7_count_1 (by decide) (by decide) (by rfl) (by decide) ?_
    exact bad rfl _
  · refine z_tableIn (tgt := 231) dX7_count_1 (by decide) (by decide) (by rfl) (by decide) ?_
    exact bad rfl _
  · refine z_tableIn (tgt := 231) dX7_count_1 (by decide) (by decide) (by rfl) (by decide) ?_
    exact bad rfl _
  · refine z_tableIn (tgt := 231) dX7_count_1 (by decide) (by decide) (by rfl) (by decide) ?_
    exact bad rfl _
  · refine z_tableIn (tgt := 231) dX7_count_1 (by decide) (by decide) (by rfl) (by decide) ?_
    exact bad rfl _
  · refine z_tableIn (tgt := 211) dX7_count_1 (by decide) (by decide) (by rfl) (by decide) ?_
    refine z_aload_n (q := 212) dX7_count_211 rfl rfl rfl ?_
    refine z_getR (q := 215) 7 0 1 43 rfl (by decide) rfl rfl rfl (by with_reducible assumption) (by with_reducible assumption) dX7_count_212 rfl ?_
    refine z_getR (q := 218) 3 3 14 51 rfl (by decide) rfl rfl rfl (by with_reducible assumption) (by with_reducible assumption) dX7_count_215 rfl ?_
    refine z_iconst (q := 219) (v := nI 0) dX7_count_218 (by rfl) rfl ?_
    refine z_iald (q := 220) _ (by with_reducible assumption) (rfl) (by omega) (by decide) dX7_count_219 rfl ?_
    exact z_iret rfl dX7_count_220 (Nat.zero_le _) (Nat.zero_le _) (⟨by rw [s7]; rfl, rfl, rfl, rfl, rfl⟩)
  · refine z_tableIn (tgt := 221) dX7_count_1 (by decide) (by decide) (by rfl) (by decide) ?_
    refine z_aload_n (q := 222) dX7_count_221 rfl rfl rfl ?_
    refine z_getR (q := 225) 7 0 1 43 rfl (by decide) rfl rfl rfl (by with_reducible assumption) (by with_reducible assumption) dX7_count_222 rfl ?_
    refine z_getR (q := 228) 3 3 14 51 rfl (by decide) rfl rfl rfl (by with_reducible assumption) (by with_reducible assumption) dX7_count_225 rfl ?_
    refine z_iconst (q := 229) (v := nI 1) dX7_count_228 (by rfl) rfl ?_
    refine z_iald (q := 230) _ (by with_reducible assumption) (rfl) (by omega) (by decide) dX7_count_229 rfl ?_
    exact z_iret rfl dX7_count_230 (Nat.zero_le _) (Nat.zero_le _) (⟨by rw [s8]; rfl, rfl, rfl, rfl, rfl⟩)
