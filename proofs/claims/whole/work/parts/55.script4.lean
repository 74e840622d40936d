/-! THE CLASS, its text: reasons, the whole text -/
set_option maxRecDepth 100000 in
set_option maxHeartbeats 4000000 in
theorem c_X6_reasonAgainst (G : zG) {n : Nat} {T : zTT} {I : zII} {R : zRR} (s a nr nd np st v cnt en kd : Nat) (av t sv mu : Int32) (F : Nat → zE) (g : Nat → Int32) (so sw : Nat → Nat) (hS : z_Sc T R s) (hH : z_House T R a) (hG : z_HR I a g so sw) (hP : z_P T I R (a + 3) np F) (hI : INV nr nd np st g) (hv : g 5 = nI v) (hkd : kd ≤ 1) (k0 : I (s + 2) 0 = 0 ↔ ¬ kd = 0) (k1 : I (s + 2) 1 = t) (k2 : I (s + 2) 2 = av) (k3 : kd = 0 → I (s + 2) 3 = sv ∧ I (s + 2) 4 = mu) (k4 : ¬ kd = 0 → I (s + 2) 4 = sv) (ht : ¬ t < 0) (hs : ¬ sv < 0) (hcnt : np + cnt ≤ 16) (hen : v + en ≤ 1000000000) : Ct G yX6_reasonAgainst wsX6_reasonAgainst (1, 0, 0) [.ref s, .ref a, .int (nI cnt), .int (nI en)] n T I R (z_ret (some (.int (rsnE g (nI cnt) (nI en) kd av t sv mu))) n T I R) := by
  refine Ct.ofX (M := muX6_reasonAgainst) (ls := [(0, .ref s), (1, .ref a), (2, .int (nI cnt)), (3, .int (nI en))]) (by decide +kernel) rfl (by decide) rfl rfl (Nat.le_of_ble_eq_true rfl) ?_
  obtain ⟨hTs, ⟨hTc, hRc⟩, hTe, hRe⟩ := id hS
  have hTa := hH.1
  have hTp := hP.1.1
  have hRp := hH.2.2.2.1
  have hs2 := hP.2.2.2.1
  have hnr := hI.1.2
  have hnd := hI.2.1.2
  have c0 : I a 4 = nI nr := by rw [(HR_sc hG).1]; exact hI.1.1
  have c1 : I a 5 = nI nd := by rw [(HR_sc hG).2.1]; exact hI.2.1.1
  have c3 : I a 6 = nI st := by rw [(HR_sc hG).2.2.1]; exact hI.2.2.2.1
  have c5 : I a 8 = nI v := by rw [(HR_sc hG).2.2.2.2.1]; exact hv
  have g2e : g 2 = nI np := hI.2.2.1.1
  have g3e : g 3 = nI st := hI.2.2.2.1
  have two : (if kd = 0 then av < 0 ∨ g 0 ≤ av else av < 0 ∨ g 1 ≤ av) → ∀ ls : List (Nat × Value), lv_pick ls [0, 1, 2, 3] = [(0, .ref s), (1, .ref a), (2, .int (nI cnt)), (3, .int (nI en))] → z_X G muX6_reasonAgainst (1, 0, 0) (z_ret (some (.int (rsnE g (nI cnt) (nI en) kd av t sv mu))) n T I R) n T I R 0 0 58 ls [] := by
    intro h ls hls
    refine z_pick [0, 1, 2, 3] hls ?_
    refine z_iconst (q := 59) (v := nI 2) dX6_reasonAgainst_58 (by rfl) rfl ?_
    exact z_iret rfl dX6_reasonAgainst_59 (Nat.zero_le _) (Nat.zero_le _) (⟨by rw [rsnE, if_pos h], rfl, rfl, rfl, rfl⟩)
  have three : ¬ (if kd = 0 then av < 0 ∨ g 0 ≤ av else av < 0 ∨ g 1 ≤ av) → (nI 5000 < t ∨ (if kd = 0 then (sv < nI 1 ∨ nI 20 < sv) ∨ mu < nI 1 ∨ 1000000 < mu else nI 10 < sv)) → ∀ ls : List (Nat × Value), lv_pick ls [0, 1, 2, 3] = [(0, .ref s), (1, .ref a), (2, .int (nI cnt)), (3, .int (nI en))] → z_X G muX6_reasonAgainst (1, 0, 0) (z_ret (some (.int (rsnE g (nI cnt) (nI en) kd av t sv mu))) n T I R) n T I R 0 0 147 ls [] := by
    intro h h2 ls hls
    refine z_pick [0, 1, 2, 3] hls ?_
    refine z_iconst (q := 148) (v := nI 3) dX6_reasonAgainst_147 (by rfl) rfl ?_
    exact z_iret rfl dX6_reasonAgainst_148 (Nat.zero_le _) (Nat.zero_le _) (⟨by rw [rsnE, if_neg h, if_pos h2], rfl, rfl, rfl, rfl⟩)
  have rest : ¬ (if kd = 0 then av < 0 ∨ g 0 ≤ av else av < 0 ∨ g 1 ≤ av) → ¬ (nI 5000 < t ∨ (if kd = 0 then (sv < nI 1 ∨ nI 20 < sv) ∨ mu < nI 1 ∨ 1000000 < mu else nI 10 < sv)) → ∀ ls : List (Nat × Value), lv_pick ls [0, 1, 2, 3] = [(0, .ref s), (1, .ref a), (2, .int (nI cnt)), (3, .int (nI en))] → z_X G muX6_reasonAgainst (1, 0, 0) (z_ret (some (.int (rsnE g (nI cnt) (nI en) kd av t sv mu))) n T I R) n T I R 0 0 149 ls [] := by
    intro h h2 ls hls
    refine z_pick [0, 1, 2, 3] hls ?_
    refine z_aload_n (q := 150) dX6_reasonAgainst_149 rfl rfl rfl ?_
    refine z_getR (q := 153) 6 5 1 42 rfl (by decide) rfl rfl rfl (by with_reducible assumption) (by with_reducible assumption) dX6_reasonAgainst_150 rfl ?_
    refine z_getV (q := 156) 1 1 7 44 rfl (by decide) rfl rfl rfl (by with_reducible assumption) (k1) dX6_reasonAgainst_153 rfl ?_
    refine z_aload_n (q := 157) dX6_reasonAgainst_156 rfl rfl rfl ?_
    refine z_getV (q := 160) 3 6 8 54 rfl (by decide) rfl rfl rfl (by with_reducible assumption) (c3) dX6_reasonAgainst_157 rfl ?_
    refine z_icmp_ge (tgt := 165) (q := 163) dX6_reasonAgainst_160 (by decide) rfl (fun h160 => ?_) (fun h160 => ?_)
    · have n4 : ¬ t < g 3 := by rw [g3e]; exact Int32.not_lt.mpr h160
      refine z_aload_n (q := 166) dX6_reasonAgainst_165 rfl rfl rfl ?_
      refine z_getR (q := 169) 3 2 9 50 rfl (by decide) rfl rfl rfl (by with_reducible assumption) (by with_reducible assumption) dX6_reasonAgainst_166 rfl ?_
      refine z_getV (q := 172) 4 1 10 59 rfl (by decide) rfl rfl rfl (by with_reducible assumption) (hs2) dX6_reasonAgainst_169 rfl ?_
      refine z_iload_n (q := 173) dX6_reasonAgainst_172 rfl rfl rfl ?_
      refine z_iaddE (q := 174) dX6_reasonAgainst_173 (nI_add _ _) rfl ?_
      refine z_bipush (q := 176) (v := nI 16) dX6_reasonAgainst_174 (by rfl) rfl ?_
      refine z_icmpn_lt (rfl) (rfl) (by omega) (by omega) (tgt := 181) (q := 179) dX6_reasonAgainst_176 (by decide) rfl (fun h176 => ?_) (fun h176 => ?_)
      · have n5 : ¬ g 2 + nI cnt = nI 16 := by
          rw [g2e, nI_add, nI_eq (by omega) (by omega)]
          omega
        refine z_aload_n (q := 182) dX6_reasonAgainst_181 rfl rfl rfl ?_
        refine z_getV (q := 185) 3 8 11 56 rfl (by decide) rfl rfl rfl (by with_reducible assumption) (c5) dX6_reasonAgainst_182 rfl ?_
        refine z_iload_n (q := 186) dX6_reasonAgainst_185 rfl rfl rfl ?_
        refine z_iaddE (q := 187) dX6_reasonAgainst_186 (nI_add _ _) rfl ?_
        refine z_aload_n (q := 188) dX6_reasonAgainst_187 rfl rfl rfl ?_
        refine z_getR (q := 191) 6 5 1 42 rfl (by decide) rfl rfl rfl (by with_reducible assumption) (by with_reducible assumption) dX6_reasonAgainst_188 rfl ?_
        refine z_invV (q := 194) (c_X1_allEnergy G (s + 2) hTe) (by with_reducible assumption) rfl gX6_reasonAgainst_X1_allEnergy rfl hy_X1_allEnergy rfl rfl rfl rfl (Nat.le_of_ble_eq_true rfl) ⟨Nat.zero_le _, Nat.zero_le _⟩ dX6_reasonAgainst_191 rfl (z_rv ?_)
        refine z_iadd (q := 195) dX6_reasonAgainst_194 rfl ?_
        refine z_ldc (q := 197) (i := 12) (v := 1000000000) rfl dX6_reasonAgainst_195 rfl ?_
        have e6 : (kd = 0 ∧ 1000000000 < g 5 + nI en + sv * mu) ↔ 1000000000 < nI (v + en) + (if I (s + 2) 0 = 0 then 0 else I (s + 2) 3 * I (s + 2) 4) := by
          by_cases hk : kd = 0
          · rw [if_neg (fun z => k0.mp z hk), (k3 hk).1, (k3 hk).2, hv, nI_add]
            exact ⟨fun z => z.2, fun z => ⟨hk, z⟩⟩
          · rw [if_pos (k0.mpr hk), Int32.add_zero]
            refine ⟨fun z => absurd z.1 hk, fun z => ?_⟩
            have e : (1000000000 : Int32) = nI 1000000000 := by decide
            rw [e] at z
            exact absurd z (nI_nlt hen (by decide))
        refine z_icmp_le (tgt := 203) (q := 200) dX6_reasonAgainst_197 (by decide) rfl (fun h197 => ?_) (fun h197 => ?_)
        · refine z_iconst (q := 204) (v := nI 0) dX6_reasonAgainst_203 (by rfl) rfl ?_
          exact z_iret rfl dX6_reasonAgainst_204 (Nat.zero_le _) (Nat.zero_le _) (⟨by rw [rsnE, if_neg h, if_neg h2, if_neg n4, if_neg n5, if_neg (fun z => Int32.not_lt.mpr h197 (e6.mp z))], rfl, rfl, rfl, rfl⟩)
        · refine z_bipush (q := 202) (v := nI 6) dX6_reasonAgainst_200 (by rfl) rfl ?_
          exact z_iret rfl dX6_reasonAgainst_202 (Nat.zero_le _) (Nat.zero_le _) (⟨by rw [rsnE, if_neg h, if_neg h2, if_neg n4, if_neg n5, if_pos (e6.mpr (Int32.not_le.mp h197))], rfl, rfl, rfl, rfl⟩)
      · have y5 : g 2 + nI cnt = nI 16 := by rw [g2e, nI_add, show np + cnt = 16 by omega]
        refine z_iconst (q := 180) (v := nI 5) dX6_reasonAgainst_179 (by rfl) rfl ?_
        exact z_iret rfl dX6_reasonAgainst_180 (Nat.zero_le _) (Nat.zero_le _) (⟨by rw [rsnE, if_neg h, if_neg h2, if_neg n4, if_pos y5], rfl, rfl, rfl, rfl⟩)
    · have y4 : t < g 3 := by rw [g3e]; exact Int32.not_le.mp h160
      refine z_iconst (q := 164) (v := nI 4) dX6_reasonAgainst_163 (by rfl) rfl ?_
      exact z_iret rfl dX6_reasonAgainst_164 (Nat.zero_le _) (Nat.zero_le _) (⟨by rw [rsnE, if_neg h, if_neg h2, if_pos y4], rfl, rfl, rfl, rfl⟩)
  have step : ¬ (if kd = 0 then av < 0 ∨ g 0 ≤ av else av < 0 ∨ g 1 ≤ av) → ¬ (if kd = 0 then (sv < nI 1 ∨ nI 20 < sv) ∨ mu < nI 1 ∨ 1000000 < mu else nI 10 < sv) → ∀ ls : List (Nat × Value), lv_pick ls [0, 1, 2, 3] = [(0, .ref s), (1, .ref a), (2, .int (nI cnt)), (3, .int (nI en))] → z_X G muX6_reasonAgainst (1, 0, 0) (z_ret (some (.int (rsnE g (nI cnt) (nI en) kd av t sv mu))) n T I R) n T I R 0 0 130 ls [] := by
    intro h h2 ls hls
    refine z_pick [0, 1, 2, 3] hls ?_
    refine z_aload_n (q := 131) dX6_reasonAgainst_130 rfl rfl rfl ?_
    refine z_getR (q := 134) 6 5 1 42 rfl (by decide) rfl rfl rfl (by with_reducible assumption) (by with_reducible assumption) dX6_reasonAgainst_131 rfl ?_
    refine z_getV (q := 137) 1 1 7 44 rfl (by decide) rfl rfl rfl (by with_reducible assumption) (k1) dX6_reasonAgainst_134 rfl ?_
    refine z_iconst (q := 138) (v := nI 0) dX6_reasonAgainst_137 (by rfl) rfl ?_
    refine z_sipush (q := 141) (v := nI 5000) dX6_reasonAgainst_138 (by rfl) rfl ?_
    refine z_invSN (q := 144) (j := 26) (l := 27) (c_X7_isWithin G t (nI 0) (nI 5000)) gX6_reasonAgainst_X7_isWithin_n71 rfl (fun _ h => h.2.2.2.2.2.2.2.2.2) rfl rfl hy_X7_isWithin rfl rfl rfl rfl (Nat.le_of_ble_eq_true rfl) ⟨Nat.zero_le _, Nat.zero_le _⟩ dX6_reasonAgainst_141 rfl (z_rv ?_)
    by_cases h5 : t < nI 0 ∨ nI 5000 < t
    · rw [if_pos h5]
      refine z_if_ne (tgt := 149) (q := 147) dX6_reasonAgainst_144 (by decide) rfl (fun hc => False.elim (hc rfl)) (fun _ => ?_)
      refine three h (Or.inl (h5.elim (fun z => absurd (by rw [nI_0] at z; exact z) ht) id)) _ rfl
    · rw [if_neg h5]
      refine z_if_ne (tgt := 149) (q := 147) dX6_reasonAgainst_144 (by decide) rfl (fun _ => ?_) (fun hc => False.elim (z_01 hc))
      refine rest h (fun z => z.elim (fun y => h5 (Or.inr y)) h2) _ rfl
  refine z_aload_n (q := 1) dX6_reasonAgainst_0 rfl rfl rfl ?_
  refine z_getR (q := 4) 6 5 1 42 rfl (by decide) rfl rfl rfl (by with_reducible assumption) (by with_reducible assumption) dX6_reasonAgainst_1 rfl ?_
  refine z_getI (q := 7) 1 0 2 43 rfl (by decide) rfl rfl rfl (by with_reducible assumption) dX6_reasonAgainst_4 rfl ?_
  by_cases hk : kd = 0
  · have hk0 : ¬ I (s + 2) 0 = 0 := fun z => k0.mp z hk
    obtain ⟨k3a, k3b⟩ := k3 hk
    refine z_if_eq (tgt := 32) (q := 10) dX6_reasonAgainst_7 (by decide) rfl (fun hc => False.elim (hk0 hc)) (fun _ => ?_)
    by_cases hx : av < 0 ∨ nI nr ≤ av
    · refine z_aload_n (q := 11) dX6_reasonAgainst_10 rfl rfl rfl ?_
      refine z_aload_n (q := 12) dX6_reasonAgainst_11 rfl rfl rfl ?_
      refine z_getR (q := 15) 6 5 1 42 rfl (by decide) rfl rfl rfl (by with_reducible assumption) (by with_reducible assumption) dX6_reasonAgainst_12 rfl ?_
      refine z_getV (q := 18) 1 2 3 45 rfl (by decide) rfl rfl rfl (by with_reducible assumption) (k2) dX6_reasonAgainst_15 rfl ?_
      refine z_invV (q := 21) (c_X3_roomAt_n G a nr av hH c0 hx) (by with_reducible assumption) rfl gX6_reasonAgainst_X3_roomAt rfl hy_X3_roomAt rfl rfl rfl rfl (Nat.le_of_ble_eq_true rfl) ⟨Nat.zero_le _, Nat.zero_le _⟩ dX6_reasonAgainst_18 rfl (z_rv ?_)
      refine z_ifnullN (q := 28) dX6_reasonAgainst_21 (by decide) ?_
      refine z_iconst (q := 29) (v := nI 0) dX6_reasonAgainst_28 (by rfl) rfl ?_
      refine z_goto (q := 51) dX6_reasonAgainst_29 (by decide) ?_
      refine z_istore (q := 53) dX6_reasonAgainst_51 (by decide) rfl ?_
      refine z_iload (q := 55) (i := 4) dX6_reasonAgainst_53 rfl rfl ?_
      refine z_if_ne (tgt := 60) (q := 58) dX6_reasonAgainst_55 (by decide) rfl (fun hc => False.elim (hc nI_0)) (fun _ => ?_)
      exact two (by rw [if_pos hk, hI.1.1]; exact hx) _ rfl
    · obtain ⟨k, hkn, hke⟩ : ∃ k, k < nr ∧ av = nI k := by
        rcases pk_ix av (n := nr) (by omega) with z | z | z
        · exact absurd (Or.inl z) hx
        · exact absurd (Or.inr z) hx
        · exact z
      have nx : ¬ (if kd = 0 then av < 0 ∨ g 0 ≤ av else av < 0 ∨ g 1 ≤ av) := by rw [if_pos hk, hI.1.1]; exact hx
      have k2' : I (s + 2) 2 = nI k := k2.trans hke
      refine z_aload_n (q := 11) dX6_reasonAgainst_10 rfl rfl rfl ?_
      refine z_aload_n (q := 12) dX6_reasonAgainst_11 rfl rfl rfl ?_
      refine z_getR (q := 15) 6 5 1 42 rfl (by decide) rfl rfl rfl (by with_reducible assumption) (by with_reducible assumption) dX6_reasonAgainst_12 rfl ?_
      refine z_getV (q := 18) 1 2 3 45 rfl (by decide) rfl rfl rfl (by with_reducible assumption) (k2') dX6_reasonAgainst_15 rfl ?_
      refine z_invV (q := 21) (c_X3_roomAt_s G a k nr hH c0 hkn hnr) (by with_reducible assumption) rfl gX6_reasonAgainst_X3_roomAt rfl hy_X3_roomAt rfl rfl rfl rfl (Nat.le_of_ble_eq_true rfl) ⟨Nat.zero_le _, Nat.zero_le _⟩ dX6_reasonAgainst_18 rfl (z_rv ?_)
      refine z_ifnull (q := 24) dX6_reasonAgainst_21 rfl ?_
      refine z_iconst (q := 25) (v := nI 1) dX6_reasonAgainst_24 (by rfl) rfl ?_
      refine z_goto (q := 51) dX6_reasonAgainst_25 (by decide) ?_
      refine z_istore (q := 53) dX6_reasonAgainst_51 (by decide) rfl ?_
      refine z_iload (q := 55) (i := 4) dX6_reasonAgainst_53 rfl rfl ?_
      refine z_if_ne (tgt := 60) (q := 58) dX6_reasonAgainst_55 (by decide) rfl (fun _ => ?_) (fun hc => False.elim (absurd hc (by decide)))
      refine z_aload_n (q := 61) dX6_reasonAgainst_60 rfl rfl rfl ?_
      refine z_getR (q := 64) 6 5 1 42 rfl (by decide) rfl rfl rfl (by with_reducible assumption) (by with_reducible assumption) dX6_reasonAgainst_61 rfl ?_
      refine z_getI (q := 67) 1 0 2 43 rfl (by decide) rfl rfl rfl (by with_reducible assumption) dX6_reasonAgainst_64 rfl ?_
      refine z_if_eq (tgt := 110) (q := 70) dX6_reasonAgainst_67 (by decide) rfl (fun hc => False.elim (hk0 hc)) (fun _ => ?_)
      have bad : ((sv < nI 1 ∨ nI 20 < sv) ∨ mu < nI 1 ∨ 1000000 < mu) → ∀ ls : List (Nat × Value), lv_pick ls [0, 1, 2, 3] = [(0, .ref s), (1, .ref a), (2, .int (nI cnt)), (3, .int (nI en))] → z_X G muX6_reasonAgainst (1, 0, 0) (z_ret (some (.int (rsnE g (nI cnt) (nI en) kd av t sv mu))) n T I R) n T I R 0 0 106 ls [] := by
        intro hb ls hls
        refine z_pick [0, 1, 2, 3] hls ?_
        refine z_iconst (q := 107) (v := nI 0) dX6_reasonAgainst_106 (by rfl) rfl ?_
        refine z_goto (q := 123) dX6_reasonAgainst_107 (by decide) ?_
        refine z_istore (q := 125) dX6_reasonAgainst_123 (by decide) rfl ?_
        refine z_iload (q := 127) (i := 5) dX6_reasonAgainst_125 rfl rfl ?_
        refine z_if_eq (tgt := 147) (q := 130) dX6_reasonAgainst_127 (by decide) rfl (fun _ => ?_) (fun hc => False.elim (hc nI_0))
        exact three nx (Or.inr (by rw [if_pos hk]; exact hb)) _ rfl
      refine z_aload_n (q := 71) dX6_reasonAgainst_70 rfl rfl rfl ?_
      refine z_getR (q := 74) 6 5 1 42 rfl (by decide) rfl rfl rfl (by with_reducible assumption) (by with_reducible assumption) dX6_reasonAgainst_71 rfl ?_
      refine z_getV (q := 77) 1 3 4 46 rfl (by decide) rfl rfl rfl (by with_reducible assumption) (k3a) dX6_reasonAgainst_74 rfl ?_
      refine z_iconst (q := 78) (v := nI 1) dX6_reasonAgainst_77 (by rfl) rfl ?_
      refine z_bipush (q := 80) (v := nI 20) dX6_reasonAgainst_78 (by rfl) rfl ?_
      refine z_invSN (q := 83) (j := 26) (l := 27) (c_X7_isWithin G sv (nI 1) (nI 20)) gX6_reasonAgainst_X7_isWithin_n71 rfl (fun _ h => h.2.2.2.2.2.2.2.2.2) rfl rfl hy_X7_isWithin rfl rfl rfl rfl (Nat.le_of_ble_eq_true rfl) ⟨Nat.zero_le _, Nat.zero_le _⟩ dX6_reasonAgainst_80 rfl (z_rv ?_)
      by_cases h1 : sv < nI 1 ∨ nI 20 < sv
      · rw [if_pos h1]
        refine z_if_eq (tgt := 106) (q := 86) dX6_reasonAgainst_83 (by decide) rfl (fun _ => ?_) (fun hc => False.elim (hc rfl))
        exact bad (Or.inl h1) _ rfl
      · rw [if_neg h1]
        refine z_if_eq (tgt := 106) (q := 86) dX6_reasonAgainst_83 (by decide) rfl (fun hc => False.elim (z_01 hc)) (fun _ => ?_)
        refine z_aload_n (q := 87) dX6_reasonAgainst_86 rfl rfl rfl ?_
        refine z_getR (q := 90) 6 5 1 42 rfl (by decide) rfl rfl rfl (by with_reducible assumption) (by with_reducible assumption) dX6_reasonAgainst_87 rfl ?_
        refine z_getV (q := 93) 1 4 5 47 rfl (by decide) rfl rfl rfl (by with_reducible assumption) (k3b) dX6_reasonAgainst_90 rfl ?_
        refine z_iconst (q := 94) (v := nI 1) dX6_reasonAgainst_93 (by rfl) rfl ?_
        refine z_ldc (q := 96) (i := 6) (v := 1000000) rfl dX6_reasonAgainst_94 rfl ?_
        refine z_invSN (q := 99) (j := 26) (l := 27) (c_X7_isWithin G mu (nI 1) 1000000) gX6_reasonAgainst_X7_isWithin_n71 rfl (fun _ h => h.2.2.2.2.2.2.2.2.2) rfl rfl hy_X7_isWithin rfl rfl rfl rfl (Nat.le_of_ble_eq_true rfl) ⟨Nat.zero_le _, Nat.zero_le _⟩ dX6_reasonAgainst_96 rfl (z_rv ?_)
        by_cases h2 : mu < nI 1 ∨ 1000000 < mu
        · rw [if_pos h2]
          refine z_if_eq (tgt := 106) (q := 102) dX6_reasonAgainst_99 (by decide) rfl (fun _ => ?_) (fun hc => False.elim (hc rfl))
          exact bad (Or.inr h2) _ rfl
        · rw [if_neg h2]
          refine z_if_eq (tgt := 106) (q := 102) dX6_reasonAgainst_99 (by decide) rfl (fun hc => False.elim (z_01 hc)) (fun _ => ?_)
          refine z_iconst (q := 103) (v := nI 1) dX6_reasonAgainst_102 (by rfl) rfl ?_
          refine z_goto (q := 123) dX6_reasonAgainst_103 (by decide) ?_
          refine z_istore (q := 125) dX6_reasonAgainst_123 (by decide) rfl ?_
          refine z_iload (q := 127) (i := 5) dX6_reasonAgainst_125 rfl rfl ?_
          refine z_if_eq (tgt := 147) (q := 130) dX6_reasonAgainst_127 (by decide) rfl (fun hc => False.elim (absurd hc (by decide))) (fun _ => ?_)
          exact step nx (by rw [if_pos hk]; exact fun z => z.elim h1 h2) _ rfl
  · have hk0 : I (s + 2) 0 = 0 := k0.mpr hk
    have k4a := k4 hk
    refine z_if_eq (tgt := 32) (q := 10) dX6_reasonAgainst_7 (by decide) rfl (fun _ => ?_) (fun hc => False.elim (hc hk0))
    by_cases hx : av < 0 ∨ nI nd ≤ av
    · refine z_aload_n (q := 33) dX6_reasonAgainst_32 rfl rfl rfl ?_
      refine z_aload_n (q := 34) dX6_reasonAgainst_33 rfl rfl rfl ?_
      refine z_getR (q := 37) 6 5 1 42 rfl (by decide) rfl rfl rfl (by with_reducible assumption) (by with_reducible assumption) dX6_reasonAgainst_34 rfl ?_
      refine z_getV (q := 40) 1 2 3 45 rfl (by decide) rfl rfl rfl (by with_reducible assumption) (k2) dX6_reasonAgainst_37 rfl ?_
      refine z_invV (q := 43) (c_X3_doorAt_n G a nd av hH c1 hx) (by with_reducible assumption) rfl gX6_reasonAgainst_X3_doorAt rfl hy_X3_doorAt rfl rfl rfl rfl (Nat.le_of_ble_eq_true rfl) ⟨Nat.zero_le _, Nat.zero_le _⟩ dX6_reasonAgainst_40 rfl (z_rv ?_)
      refine z_ifnullN (q := 50) dX6_reasonAgainst_43 (by decide) ?_
      refine z_iconst (q := 51) (v := nI 0) dX6_reasonAgainst_50 (by rfl) rfl ?_
      refine z_istore (q := 53) dX6_reasonAgainst_51 (by decide) rfl ?_
      refine z_iload (q := 55) (i := 4) dX6_reasonAgainst_53 rfl rfl ?_
      refine z_if_ne (tgt := 60) (q := 58) dX6_reasonAgainst_55 (by decide) rfl (fun hc => False.elim (hc nI_0)) (fun _ => ?_)
      exact two (by rw [if_neg hk, hI.2.1.1]; exact hx) _ rfl
    · obtain ⟨k, hkn, hke⟩ : ∃ k, k < nd ∧ av = nI k := by
        rcases pk_ix av (n := nd) (by omega) with z | z | z
        · exact absurd (Or.inl z) hx
        · exact absurd (Or.inr z) hx
        · exact z
      have nx : ¬ (if kd = 0 then av < 0 ∨ g 0 ≤ av else av < 0 ∨ g 1 ≤ av) := by rw [if_neg hk, hI.2.1.1]; exact hx
      have k2' : I (s + 2) 2 = nI k := k2.trans hke
      refine z_aload_n (q := 33) dX6_reasonAgainst_32 rfl rfl rfl ?_
      refine z_aload_n (q := 34) dX6_reasonAgainst_33 rfl rfl rfl ?_
      refine z_getR (q := 37) 6 5 1 42 rfl (by decide) rfl rfl rfl (by with_reducible assumption) (by with_reducible assumption) dX6_reasonAgainst_34 rfl ?_
      refine z_getV (q := 40) 1 2 3 45 rfl (by decide) rfl rfl rfl (by with_reducible assumption) (k2') dX6_reasonAgainst_37 rfl ?_
      refine z_invV (q := 43) (c_X3_doorAt_s G a k nd hH c1 hkn hnd) (by with_reducible assumption) rfl gX6_reasonAgainst_X3_doorAt rfl hy_X3_doorAt rfl rfl rfl rfl (Nat.le_of_ble_eq_true rfl) ⟨Nat.zero_le _, Nat.zero_le _⟩ dX6_reasonAgainst_40 rfl (z_rv ?_)
      refine z_ifnull (q := 46) dX6_reasonAgainst_43 rfl ?_
      refine z_iconst (q := 47) (v := nI 1) dX6_reasonAgainst_46 (by rfl) rfl ?_
      refine z_goto (q := 51) dX6_reasonAgainst_47 (by decide) ?_
      refine z_istore (q := 53) dX6_reasonAgainst_51 (by decide) rfl ?_
      refine z_iload (q := 55) (i := 4) dX6_reasonAgainst_53 rfl rfl ?_
      refine z_if_ne (tgt := 60) (q := 58) dX6_reasonAgainst_55 (by decide) rfl (fun _ => ?_) (fun hc => False.elim (absurd hc (by decide)))
      refine z_aload_n (q := 61) dX6_reasonAgainst_60 rfl rfl rfl ?_
      refine z_getR (q := 64) 6 5 1 42 rfl (by decide) rfl rfl rfl (by with_reducible assumption) (by with_reducible assumption) dX6_reasonAgainst_61 rfl ?_
      refine z_getI (q := 67) 1 0 2 43 rfl (by decide) rfl rfl rfl (by with_reducible assumption) dX6_reasonAgainst_64 rfl ?_
      refine z_if_eq (tgt := 110) (q := 70) dX6_reasonAgainst_67 (by decide) rfl (fun _ => ?_) (fun hc => False.elim (hc hk0))
      refine z_aload_n (q := 111) dX6_reasonAgainst_110 rfl rfl rfl ?_
      refine z_getR (q := 114) 6 5 1 42 rfl (by decide) rfl rfl rfl (by with_reducible assumption) (by with_reducible assumption) dX6_reasonAgainst_111 rfl ?_
      refine z_getV (q := 117) 1 4 5 47 rfl (by decide) rfl rfl rfl (by with_reducible assumption) (k4a) dX6_reasonAgainst_114 rfl ?_
      refine z_iconst (q := 118) (v := nI 0) dX6_reasonAgainst_117 (by rfl) rfl ?_
      refine z_bipush (q := 120) (v := nI 10) dX6_reasonAgainst_118 (by rfl) rfl ?_
      refine z_invSN (q := 123) (j := 26) (l := 27) (c_X7_isWithin G sv (nI 0) (nI 10)) gX6_reasonAgainst_X7_isWithin_n71 rfl (fun _ h => h.2.2.2.2.2.2.2.2.2) rfl rfl hy_X7_isWithin rfl rfl rfl rfl (Nat.le_of_ble_eq_true rfl) ⟨Nat.zero_le _, Nat.zero_le _⟩ dX6_reasonAgainst_120 rfl (z_rv ?_)
      refine z_istore (q := 125) dX6_reasonAgainst_123 (by decide) rfl ?_
      refine z_iload (q := 127) (i := 5) dX6_reasonAgainst_125 rfl rfl ?_
      by_cases h1 : sv < nI 0 ∨ nI 10 < sv
      · rw [if_pos h1]
        refine z_if_eq (tgt := 147) (q := 130) dX6_reasonAgainst_127 (by decide) rfl (fun _ => ?_) (fun hc => False.elim (hc rfl))
        exact three nx (Or.inr (by rw [if_neg hk]; exact h1.elim (fun z => absurd (by rw [nI_0] at z; exact z) hs) id)) _ rfl
      · rw [if_neg h1]
        refine z_if_eq (tgt := 147) (q := 130) dX6_reasonAgainst_127 (by decide) rfl (fun hc => False.elim (z_01 hc)) (fun _ => ?_)
        exact step nx (by rw [if_neg hk]; exact fun z => h1 (Or.inr z)) _ rfl

