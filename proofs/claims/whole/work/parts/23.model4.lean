/-! THE REFERENCE, a step: targets, sounds -/
theorem EOK_w {nr nd st : Nat} {g : Nat → Int32} {k : Nat} (h : EOK nr nd st (ent g k)) : ∃ f kd wh sp mu : Nat, g (321 + 5 * k + 0) = nI f ∧ g (321 + 5 * k + 1) = nI kd ∧ g (321 + 5 * k + 2) = nI wh ∧ g (321 + 5 * k + 3) = nI sp ∧ g (321 + 5 * k + 4) = nI mu ∧ f ≤ 5000 ∧ ((kd = 0 ∧ wh < nr ∧ 1 ≤ sp ∧ sp ≤ 20 ∧ st < f + sp ∧ mu ≤ 1000000) ∨ (kd = 1 ∧ wh < nd ∧ sp = 0 ∧ st ≤ f ∧ mu ≤ 10)) := by
  obtain ⟨f, kd, wh, sp, mu, e, h1, h2⟩ := h
  simp only [ent, Prod.mk.injEq] at e
  exact ⟨f, kd, wh, sp, mu, e.1, e.2.1, e.2.2.1, e.2.2.2.1, e.2.2.2.2, h1, h2⟩
theorem lvs_c (g : Nat → Int32) {i np k w : Nat} (hk : k < np - 1) (hw : w < 5) : lvs g i np (321 + 5 * k + w) = if k < i then g (321 + 5 * k + w) else g (321 + 5 * (k + 1) + w) := by
  simp only [lvs]
  rw [if_neg (by omega)]
  by_cases h : k < i
  · rw [if_pos h, if_neg (by omega)]
  · rw [if_neg h, if_pos (by omega)]
    congr 1
    omega
theorem ent_lvs (g : Nat → Int32) {i np k : Nat} (hk : k < np - 1) : ent (lvs g i np) k = if k < i then ent g k else ent g (k + 1) := by
  unfold ent
  rw [lvs_c g hk (show 0 < 5 by decide), lvs_c g hk (show 1 < 5 by decide), lvs_c g hk (show 2 < 5 by decide), lvs_c g hk (show 3 < 5 by decide), lvs_c g hk (show 4 < 5 by decide)]
  split <;> rfl
theorem lvs_2 (g : Nat → Int32) {i np : Nat} (h : g 2 = nI np) (hp : 0 < np) : lvs g i np 2 = nI (np - 1) := by
  simp only [lvs, if_true, h]
  rw [← nI_pred (np - 1), show np - 1 + 1 = np by omega]
theorem lvs_o (g : Nat → Int32) {i np k : Nat} (h2 : k ≠ 2) (h : k < 321 ∨ 401 ≤ k) (hnp : np ≤ 16) : lvs g i np k = g k := by
  simp only [lvs]
  rw [if_neg h2, if_neg (by omega)]
theorem tgP_o (g : Nat → Int32) {k j wh : Nat} (hw : g (321 + 5 * k + 2) = nI wh) (hwl : wh < 12) (h : j < 57 ∨ 177 ≤ j) : tgP g k j = g j := by
  rw [tgP, gN_of hw (by omega), upd_n _ _ (by omega)]
/-- what the loop of the targets keeps -/
def tgK (nd np : Nat) (g : Nat → Int32) : Prop := g 2 = nI np ∧ np ≤ 16 ∧ ∀ k, k < np → g (321 + 5 * k + 1) = 1 → ∃ wh, g (321 + 5 * k + 2) = nI wh ∧ wh < nd
theorem tgK_l {nd np : Nat} {g : Nat → Int32} {k wh : Nat} (hnd : nd ≤ 12) (h : tgK nd np g) (hk : k < np) (hw : g (321 + 5 * k + 2) = nI wh) (hwl : wh < nd) : tgK nd (np - 1) (lvs (tgP g k) k np) := by
  obtain ⟨h1, h2, h3⟩ := h
  refine ⟨lvs_2 _ (by rw [tgP_o g hw (by omega) (by omega)]; exact h1) (by omega), by omega, fun j hj hj1 => ?_⟩
  rw [lvs_c _ hj (by decide)] at hj1 ⊢
  split at hj1
  next q =>
    rw [if_pos q]
    rw [tgP_o g hw (by omega) (by omega)] at hj1 ⊢
    exact h3 j (by omega) hj1
  next q =>
    rw [if_neg q]
    rw [tgP_o g hw (by omega) (by omega)] at hj1 ⊢
    exact h3 (j + 1) (by omega) hj1
set_option maxRecDepth 100000 in
set_option maxHeartbeats 4000000 in
theorem c_X8_givesTargets (G : zG) {n : Nat} {T : zTT} {I : zII} {R : zRR} (r nd np : Nat) (hT : T r = some (.inr (.int, 657))) (hnd : nd ≤ 12) (hK : tgK nd np (I r)) : Ct G yX8_givesTargets wsX8_givesTargets (1, 0, 0) [.ref r] n T I R (z_rel none n T (fun I' R' => R' = R ∧ z_row I r (tgF np 0 (I r)) I')) := by
  refine Ct.ofX (M := muX8_givesTargets) (ls := [(0, .ref r)]) (by decide +kernel) rfl (by decide) rfl rfl (Nat.le_of_ble_eq_true rfl) ?_
  refine z_iconst (q := 1) (v := nI 0) dX8_givesTargets_0 (by rfl) rfl ?_
  refine z_istore_n (q := 2) dX8_givesTargets_1 rfl (by decide) rfl ?_
  have loop : ∀ d k np2 I2, k + d = np2 → tgK nd np2 (I2 r) → (∀ q, q ≠ r → I2 q = I q) → tgF d k (I2 r) = tgF np 0 (I r) → ∀ ls : List (Nat × Value), lv_pick ls [0, 1] = [(0, .ref r), (1, .int (nI k))] → z_X G muX8_givesTargets (1, 0, 0) (z_rel none n T (fun I' R' => R' = R ∧ z_row I r (tgF np 0 (I r)) I')) n T I2 R 0 0 2 ls [] := by
    intro d
    induction d with
    | zero =>
      intro k np2 I2 hd hK2 hF hE ls hls
      obtain ⟨e2, hle, -⟩ := id hK2
      refine z_pick [0, 1] hls ?_
      refine z_iload_n (q := 3) dX8_givesTargets_2 rfl rfl rfl ?_
      refine z_aload_n (q := 4) dX8_givesTargets_3 rfl rfl rfl ?_
      refine z_iconst (q := 5) (v := nI 2) dX8_givesTargets_4 (by rfl) rfl ?_
      refine z_ialdV (q := 6) _ (by with_reducible assumption) (rfl) (by omega) (by decide) (e2) dX8_givesTargets_5 rfl ?_
      refine z_icmpn_ge (rfl) (rfl) (by omega) (by omega) (tgt := 89) (q := 9) dX8_givesTargets_6 (by decide) rfl (fun _ => ?_) (fun hc => absurd hc (by omega))
      exact z_vret rfl dX8_givesTargets_89 (Nat.zero_le _) (Nat.zero_le _) ⟨rfl, rfl, rfl, rfl, hE, hF⟩
    | succ d ih =>
      intro k np2 I2 hd hK2 hF hE ls hls
      obtain ⟨e2, hle, hw⟩ := id hK2
      have hg2 : gN (I2 r) 2 = np2 := gN_of e2 (by omega)
      rw [tgF, if_pos (by omega)] at hE
      refine z_pick [0, 1] hls ?_
      refine z_iload_n (q := 3) dX8_givesTargets_2 rfl rfl rfl ?_
      refine z_aload_n (q := 4) dX8_givesTargets_3 rfl rfl rfl ?_
      refine z_iconst (q := 5) (v := nI 2) dX8_givesTargets_4 (by rfl) rfl ?_
      refine z_ialdV (q := 6) _ (by with_reducible assumption) (rfl) (by omega) (by decide) (e2) dX8_givesTargets_5 rfl ?_
      refine z_icmpn_ge (rfl) (rfl) (by omega) (by omega) (tgt := 89) (q := 9) dX8_givesTargets_6 (by decide) rfl (fun hc => absurd hc (by omega)) (fun _ => ?_)
      refine z_aload_n (q := 10) dX8_givesTargets_9 rfl rfl rfl ?_
      refine z_iload_n (q := 11) dX8_givesTargets_10 rfl rfl rfl ?_
      refine z_iconst (q := 12) (v := nI 1) dX8_givesTargets_11 (by rfl) rfl ?_
      refine z_invS (q := 15) (c_X8_entry G r k 1 hT (by omega)) gX8_givesTargets_X8_entry rfl hy_X8_entry rfl rfl rfl rfl (Nat.le_of_ble_eq_true rfl) ⟨Nat.zero_le _, Nat.zero_le _⟩ dX8_givesTargets_12 rfl (z_rv ?_)
      refine z_iconst (q := 16) (v := nI 1) dX8_givesTargets_15 (by rfl) rfl ?_
      refine z_icmp_ne (tgt := 83) (q := 19) dX8_givesTargets_16 (by decide) rfl (fun h16 => ?_) (fun h16 => ?_)
      · refine z_iinc (q := 86) dX8_givesTargets_83 rfl (nI_add _ 1) (by decide) rfl ?_
        refine z_goto (q := 2) dX8_givesTargets_86 (by decide) ?_
        rw [if_neg (fun z => h16 (z.1.trans zI1.symm))] at hE
        exact ih (k + 1) np2 I2 (by omega) hK2 hF hE _ rfl
      · refine z_aload_n (q := 20) dX8_givesTargets_19 rfl rfl rfl ?_
        refine z_iload_n (q := 21) dX8_givesTargets_20 rfl rfl rfl ?_
        refine z_iconst (q := 22) (v := nI 0) dX8_givesTargets_21 (by rfl) rfl ?_
        refine z_invS (q := 25) (c_X8_entry G r k 0 hT (by omega)) gX8_givesTargets_X8_entry rfl hy_X8_entry rfl rfl rfl rfl (Nat.le_of_ble_eq_true rfl) ⟨Nat.zero_le _, Nat.zero_le _⟩ dX8_givesTargets_22 rfl (z_rv ?_)
        refine z_aload_n (q := 26) dX8_givesTargets_25 rfl rfl rfl ?_
        refine z_iconst (q := 27) (v := nI 3) dX8_givesTargets_26 (by rfl) rfl ?_
        refine z_iald (q := 28) _ (by with_reducible assumption) (rfl) (by omega) (by decide) dX8_givesTargets_27 rfl ?_
        refine z_icmp_ne (tgt := 83) (q := 31) dX8_givesTargets_28 (by decide) rfl (fun h28 => ?_) (fun h28 => ?_)
        · refine z_iinc (q := 86) dX8_givesTargets_83 rfl (nI_add _ 1) (by decide) rfl ?_
          refine z_goto (q := 2) dX8_givesTargets_86 (by decide) ?_
          rw [if_neg (fun z => h28 z.2)] at hE
          exact ih (k + 1) np2 I2 (by omega) hK2 hF hE _ rfl
        · rw [if_pos ⟨h16.trans zI1, h28⟩] at hE
          obtain ⟨wh, hwh, hwl⟩ := hw k (by omega) (h16.trans zI1)
          have hgw : gN (I2 r) (321 + 5 * k + 2) = wh := gN_of hwh (by omega)
          refine z_bipush (q := 33) (v := nI 57) dX8_givesTargets_31 (by rfl) rfl ?_
          refine z_bipush (q := 35) (v := nI 10) dX8_givesTargets_33 (by rfl) rfl ?_
          refine z_aload_n (q := 36) dX8_givesTargets_35 rfl rfl rfl ?_
          refine z_iload_n (q := 37) dX8_givesTargets_36 rfl rfl rfl ?_
          refine z_iconst (q := 38) (v := nI 2) dX8_givesTargets_37 (by rfl) rfl ?_
          refine z_invS (q := 41) (c_X8_entry G r k 2 hT (by omega)) gX8_givesTargets_X8_entry rfl hy_X8_entry rfl rfl rfl rfl (Nat.le_of_ble_eq_true rfl) ⟨Nat.zero_le _, Nat.zero_le _⟩ dX8_givesTargets_38 rfl (z_rv ?_)
          rw [hwh]
          refine z_imulE (q := 42) dX8_givesTargets_41 (pk_mul _ _) rfl ?_
          refine z_iaddE (q := 43) dX8_givesTargets_42 (nI_add _ _) rfl ?_
          refine z_istore_n (q := 44) dX8_givesTargets_43 rfl (by decide) rfl ?_
          refine z_aload_n (q := 45) dX8_givesTargets_44 rfl rfl rfl ?_
          refine z_iload_n (q := 46) dX8_givesTargets_45 rfl rfl rfl ?_
          refine z_bipush (q := 48) (v := nI 6) dX8_givesTargets_46 (by rfl) rfl ?_
          refine z_iaddE (q := 49) dX8_givesTargets_48 (nI_add _ _) rfl ?_
          refine z_aload_n (q := 50) dX8_givesTargets_49 rfl rfl rfl ?_
          refine z_iload_n (q := 51) dX8_givesTargets_50 rfl rfl rfl ?_
          refine z_bipush (q := 53) (v := nI 7) dX8_givesTargets_51 (by rfl) rfl ?_
          refine z_iaddE (q := 54) dX8_givesTargets_53 (nI_add _ _) rfl ?_
          refine z_iald (q := 55) _ (by with_reducible assumption) (rfl) (by omega) (by decide) dX8_givesTargets_54 rfl ?_
          refine z_iconst (q := 56) (v := nI 1) dX8_givesTargets_55 (by rfl) rfl ?_
          have join : ∀ v, v = (if I2 r (57 + 10 * wh + 7) = 1 then I2 r (57 + 10 * wh + 6) else I2 r (321 + 5 * k + 4)) → z_X G muX8_givesTargets (1, 0, 0) (z_rel none n T (fun I' R' => R' = R ∧ z_row I r (tgF np 0 (I r)) I')) n T I2 R 0 0 74 [(0, .ref r), (1, .int (nI k)), (2, .int (nI (57 + 10 * wh)))] [.int v, .int (nI (57 + 10 * wh + 6)), .ref r] := by
            intro v hv
            refine z_iast (q := 75) _ (by with_reducible assumption) (rfl) (by omega) (by decide) dX8_givesTargets_74 rfl ?_
            have hR : z_row I2 r (tgP (I2 r) k) (zw I2 r (57 + 10 * wh + 6) v) := by
              refine z_row_w ⟨rfl, fun _ _ => rfl⟩ _ _ ?_
              rw [tgP, hgw, hv]
            generalize zw I2 r (57 + 10 * wh + 6) v = I3 at hR
            refine z_aload_n (q := 76) dX8_givesTargets_75 rfl rfl rfl ?_
            refine z_iload_n (q := 77) dX8_givesTargets_76 rfl rfl rfl ?_
            refine z_invS (q := 80) (c_X8_leaves G r k np2 hT (by rw [hR.1, tgP_o _ hwh (by omega) (by omega)]; exact e2) hle (by omega)) gX8_givesTargets_X8_leaves rfl hy_X8_leaves rfl rfl rfl rfl (Nat.le_of_ble_eq_true rfl) ⟨Nat.zero_le _, Nat.zero_le _⟩ dX8_givesTargets_77 rfl (z_rnR fun I4 R4 hZ => ?_)
            obtain ⟨rfl, hr1, hr2⟩ := hZ
            refine z_goto (q := 2) dX8_givesTargets_80 (by decide) ?_
            rw [hR.1] at hr1
            have hK4 : tgK nd (np2 - 1) (I4 r) := by rw [hr1]; exact tgK_l hnd hK2 (by omega) hwh hwl
            refine ih k (np2 - 1) I4 (by omega) hK4 (fun q hq => by rw [hr2 q hq, hR.2 q hq]; exact hF q hq) ?_ _ rfl
            rw [hr1, ← hE, hg2]
          refine z_icmp_ne (tgt := 68) (q := 59) dX8_givesTargets_56 (by decide) rfl (fun h56 => ?_) (fun h56 => ?_)
          · refine z_aload_n (q := 69) dX8_givesTargets_68 rfl rfl rfl ?_
            refine z_iload_n (q := 70) dX8_givesTargets_69 rfl rfl rfl ?_
            refine z_iconst (q := 71) (v := nI 4) dX8_givesTargets_70 (by rfl) rfl ?_
            refine z_invS (q := 74) (c_X8_entry G r k 4 hT (by omega)) gX8_givesTargets_X8_entry rfl hy_X8_entry rfl rfl rfl rfl (Nat.le_of_ble_eq_true rfl) ⟨Nat.zero_le _, Nat.zero_le _⟩ dX8_givesTargets_71 rfl (z_rv ?_)
            exact join _ (by rw [if_neg (fun z => h56 (z.trans zI1.symm))])
          · refine z_aload_n (q := 60) dX8_givesTargets_59 rfl rfl rfl ?_
            refine z_iload_n (q := 61) dX8_givesTargets_60 rfl rfl rfl ?_
            refine z_bipush (q := 63) (v := nI 6) dX8_givesTargets_61 (by rfl) rfl ?_
            refine z_iaddE (q := 64) dX8_givesTargets_63 (nI_add _ _) rfl ?_
            refine z_iald (q := 65) _ (by with_reducible assumption) (rfl) (by omega) (by decide) dX8_givesTargets_64 rfl ?_
            refine z_goto (q := 74) dX8_givesTargets_65 (by decide) ?_
            exact join _ (by rw [if_pos (h56.trans zI1)])
  exact loop np 0 np I (by omega) hK (fun _ _ => rfl) rfl _ rfl
theorem sndP_o (g : Nat → Int32) {k j wh : Nat} (hw : g (321 + 5 * k + 2) = nI wh) (hwl : wh < 8) (h : j < 9 ∨ 57 ≤ j) : sndP g k j = g j := by
  rw [sndP, gN_of hw (by omega), upd_n _ _ (by omega), upd_n _ _ (by omega)]
def sndK (nr np : Nat) (g : Nat → Int32) : Prop := g 2 = nI np ∧ np ≤ 16 ∧ ∀ k, k < np → g (321 + 5 * k + 1) = 0 → ∃ wh, g (321 + 5 * k + 2) = nI wh ∧ wh < nr
theorem sndQ_o {nr np : Nat} (g : Nat → Int32) {k j : Nat} (hnr : nr ≤ 8) (h : sndK nr np g) (hk : k < np) (hj : j < 9 ∨ 57 ≤ j) : sndQ g k j = g j := by
  unfold sndQ
  split
  next hh =>
    obtain ⟨wh, h1, h2⟩ := h.2.2 k hk hh.1
    exact sndP_o g h1 (by omega) hj
  next => rfl
theorem sndK_q {nr np : Nat} {g : Nat → Int32} {k : Nat} (hnr : nr ≤ 8) (h : sndK nr np g) (hk : k < np) : sndK nr np (sndQ g k) := by
  refine ⟨by rw [sndQ_o g hnr h hk (by omega)]; exact h.1, h.2.1, fun j hj hj1 => ?_⟩
  rw [sndQ_o g hnr h hk (by omega)] at hj1 ⊢
  exact h.2.2 j hj hj1
theorem sndK_l {nr np : Nat} {g : Nat → Int32} {k : Nat} (h : sndK nr np g) (hk : k < np) : sndK nr (np - 1) (lvs g k np) := by
  obtain ⟨h1, h2, h3⟩ := h
  refine ⟨lvs_2 _ h1 (by omega), by omega, fun j hj hj1 => ?_⟩
  rw [lvs_c _ hj (by decide)] at hj1 ⊢
  split at hj1
  next q =>
    rw [if_pos q]
    exact h3 j (by omega) hj1
  next q =>
    rw [if_neg q]
    exact h3 (j + 1) (by omega) hj1
set_option maxRecDepth 100000 in
set_option maxHeartbeats 4000000 in
theorem c_X8_givesSounds (G : zG) {n : Nat} {T : zTT} {I : zII} {R : zRR} (r nr np : Nat) (hT : T r = some (.inr (.int, 657))) (hnr : nr ≤ 8) (hK : sndK nr np (I r)) : Ct G yX8_givesSounds wsX8_givesSounds (2, 0, 0) [.ref r] n T I R (z_rel none n T (fun I' R' => R' = R ∧ z_row I r (sndF np 0 (I r)) I')) := by
  refine Ct.ofX (M := muX8_givesSounds) (ls := [(0, .ref r)]) (by decide +kernel) rfl (by decide) rfl rfl (Nat.le_of_ble_eq_true rfl) ?_
  refine z_iconst (q := 1) (v := nI 0) dX8_givesSounds_0 (by rfl) rfl ?_
  refine z_istore_n (q := 2) dX8_givesSounds_1 rfl (by decide) rfl ?_
  have loop : ∀ d k np2 I2, k + d = np2 → sndK nr np2 (I2 r) → (∀ q, q ≠ r → I2 q = I q) → sndF d k (I2 r) = sndF np 0 (I r) → ∀ ls : List (Nat × Value), lv_pick ls [0, 1] = [(0, .ref r), (1, .int (nI k))] → z_X G muX8_givesSounds (2, 0, 0) (z_rel none n T (fun I' R' => R' = R ∧ z_row I r (sndF np 0 (I r)) I')) n T I2 R 0 0 2 ls [] := by
    intro d
    induction d with
    | zero =>
      intro k np2 I2 hd hK2 hF hE ls hls
      obtain ⟨e2, hle, -⟩ := id hK2
      refine z_pick [0, 1] hls ?_
      refine z_iload_n (q := 3) dX8_givesSounds_2 rfl rfl rfl ?_
      refine z_aload_n (q := 4) dX8_givesSounds_3 rfl rfl rfl ?_
      refine z_iconst (q := 5) (v := nI 2) dX8_givesSounds_4 (by rfl) rfl ?_
      refine z_ialdV (q := 6) _ (by with_reducible assumption) (rfl) (by omega) (by decide) (e2) dX8_givesSounds_5 rfl ?_
      refine z_icmpn_ge (rfl) (rfl) (by omega) (by omega) (tgt := 106) (q := 9) dX8_givesSounds_6 (by decide) rfl (fun _ => ?_) (fun hc => absurd hc (by omega))
      exact z_vret rfl dX8_givesSounds_106 (Nat.zero_le _) (Nat.zero_le _) ⟨rfl, rfl, rfl, rfl, hE, hF⟩
    | succ d ih =>
      intro k np2 I2 hd hK2 hF hE ls hls
      obtain ⟨e2, hle, hw⟩ := id hK2
      have hg2 : gN (I2 r) 2 = np2 := gN_of e2 (by omega)
      rw [sndF, if_pos (by omega)] at hE
      refine z_pick [0, 1] hls ?_
      refine z_iload_n (q := 3) dX8_givesSounds_2 rfl rfl rfl ?_
      refine z_aload_n (q := 4) dX8_givesSounds_3 rfl rfl rfl ?_
      refine z_iconst (q := 5) (v := nI 2) dX8_givesSounds_4 (by rfl) rfl ?_
      refine z_ialdV (q := 6) _ (by with_reducible assumption) (rfl) (by omega) (by decide) (e2) dX8_givesSounds_5 rfl ?_
      refine z_icmpn_ge (rfl) (rfl) (by omega) (by omega) (tgt := 106) (q := 9) dX8_givesSounds_6 (by decide) rfl (fun hc => absurd hc (by omega)) (fun _ => ?_)
      refine z_aload_n (q := 10) dX8_givesSounds_9 rfl rfl rfl ?_
      refine z_iload_n (q := 11) dX8_givesSounds_10 rfl rfl rfl ?_
      refine z_iconst (q := 12) (v := nI 2) dX8_givesSounds_11 (by rfl) rfl ?_
      refine z_invS (q := 15) (c_X8_entry G r k 2 hT (by omega)) gX8_givesSounds_X8_entry rfl hy_X8_entry rfl rfl rfl rfl (Nat.le_of_ble_eq_true rfl) ⟨Nat.zero_le _, Nat.zero_le _⟩ dX8_givesSounds_12 rfl (z_rv ?_)
      refine z_istore_n (q := 16) dX8_givesSounds_15 rfl (by decide) rfl ?_
      refine z_aload_n (q := 17) dX8_givesSounds_16 rfl rfl rfl ?_
      refine z_iload_n (q := 18) dX8_givesSounds_17 rfl rfl rfl ?_
      refine z_iload_n (q := 19) dX8_givesSounds_18 rfl rfl rfl ?_
      refine z_invS (q := 22) (c_X8_isHeard G r k _ hT (by omega)) gX8_givesSounds_X8_isHeard rfl hy_X8_isHeard rfl rfl rfl rfl (Nat.le_of_ble_eq_true rfl) ⟨Nat.zero_le _, Nat.zero_le _⟩ dX8_givesSounds_19 rfl (z_rv ?_)
      refine z_istore_n (q := 23) dX8_givesSounds_22 rfl (by decide) rfl ?_
      have hq : sndK nr np2 (sndQ (I2 r) k) := sndK_q hnr hK2 (by omega)
      by_cases hh : hrd (I2 r) k (I2 r (321 + 5 * k + 2))
      · rw [if_pos hh]
        obtain ⟨wh, hwh, hwl⟩ := hw k (by omega) hh.1
        have hgw : gN (I2 r) (321 + 5 * k + 2) = wh := gN_of hwh (by omega)
        have hQ : sndQ (I2 r) k = sndP (I2 r) k := by rw [sndQ, if_pos hh]
        rw [hwh]
        refine z_iload_n (q := 24) dX8_givesSounds_23 rfl rfl rfl ?_
        refine z_if_eq (tgt := 67) (q := 27) dX8_givesSounds_24 (by decide) rfl (fun hc => False.elim (absurd hc (by decide))) (fun _ => ?_)
        refine z_aload_n (q := 28) dX8_givesSounds_27 rfl rfl rfl ?_
        refine z_bipush (q := 30) (v := nI 9) dX8_givesSounds_28 (by rfl) rfl ?_
        refine z_bipush (q := 32) (v := nI 6) dX8_givesSounds_30 (by rfl) rfl ?_
        refine z_iload_n (q := 33) dX8_givesSounds_32 rfl rfl rfl ?_
        refine z_imulE (q := 34) dX8_givesSounds_33 (pk_mul _ _) rfl ?_
        refine z_iaddE (q := 35) dX8_givesSounds_34 (nI_add _ _) rfl ?_
        refine z_iconst (q := 36) (v := nI 2) dX8_givesSounds_35 (by rfl) rfl ?_
        refine z_iaddE (q := 37) dX8_givesSounds_36 (nI_add _ _) rfl ?_
        refine z_dup2 (q := 38) dX8_givesSounds_37 rfl rfl rfl ?_
        refine z_iald (q := 39) _ (by with_reducible assumption) (rfl) (by omega) (by decide) dX8_givesSounds_38 rfl ?_
        refine z_aload_n (q := 40) dX8_givesSounds_39 rfl rfl rfl ?_
        refine z_iload_n (q := 41) dX8_givesSounds_40 rfl rfl rfl ?_
        refine z_iconst (q := 42) (v := nI 4) dX8_givesSounds_41 (by rfl) rfl ?_
        refine z_invS (q := 45) (c_X8_entry G r k 4 hT (by omega)) gX8_givesSounds_X8_entry rfl hy_X8_entry rfl rfl rfl rfl (Nat.le_of_ble_eq_true rfl) ⟨Nat.zero_le _, Nat.zero_le _⟩ dX8_givesSounds_42 rfl (z_rv ?_)
        refine z_iadd (q := 46) dX8_givesSounds_45 rfl ?_
        refine z_iast (q := 47) _ (by with_reducible assumption) (rfl) (by omega) (by decide) dX8_givesSounds_46 rfl ?_
        refine z_aload_n (q := 48) dX8_givesSounds_47 rfl rfl rfl ?_
        refine z_bipush (q := 50) (v := nI 9) dX8_givesSounds_48 (by rfl) rfl ?_
        refine z_bipush (q := 52) (v := nI 6) dX8_givesSounds_50 (by rfl) rfl ?_
        refine z_iload_n (q := 53) dX8_givesSounds_52 rfl rfl rfl ?_
        refine z_imulE (q := 54) dX8_givesSounds_53 (pk_mul _ _) rfl ?_
        refine z_iaddE (q := 55) dX8_givesSounds_54 (nI_add _ _) rfl ?_
        refine z_iconst (q := 56) (v := nI 4) dX8_givesSounds_55 (by rfl) rfl ?_
        refine z_iaddE (q := 57) dX8_givesSounds_56 (nI_add _ _) rfl ?_
        refine z_dup2 (q := 58) dX8_givesSounds_57 rfl rfl rfl ?_
        refine z_iald (q := 59) _ (by with_reducible assumption) (rfl) (by omega) (by decide) dX8_givesSounds_58 rfl ?_
        refine z_aload_n (q := 60) dX8_givesSounds_59 rfl rfl rfl ?_
        refine z_iload_n (q := 61) dX8_givesSounds_60 rfl rfl rfl ?_
        refine z_iconst (q := 62) (v := nI 4) dX8_givesSounds_61 (by rfl) rfl ?_
        refine z_invS (q := 65) (c_X8_entry G r k 4 hT (by omega)) gX8_givesSounds_X8_entry rfl hy_X8_entry rfl rfl rfl rfl (Nat.le_of_ble_eq_true rfl) ⟨Nat.zero_le _, Nat.zero_le _⟩ dX8_givesSounds_62 rfl (z_rv ?_)
        refine z_iadd (q := 66) dX8_givesSounds_65 rfl ?_
        refine z_iast (q := 67) _ (by with_reducible assumption) (rfl) (by omega) (by decide) dX8_givesSounds_66 rfl ?_
        have hR : z_row I2 r (sndQ (I2 r) k) (zw (zw I2 r (9 + 6 * wh + 2) (I2 r (9 + 6 * wh + 2) + I2 r (321 + 5 * k + 4))) r (9 + 6 * wh + 4) (zw I2 r (9 + 6 * wh + 2) (I2 r (9 + 6 * wh + 2) + I2 r (321 + 5 * k + 4)) r (9 + 6 * wh + 4) + zw I2 r (9 + 6 * wh + 2) (I2 r (9 + 6 * wh + 2) + I2 r (321 + 5 * k + 4)) r (321 + 5 * k + 4))) := by
          refine z_row_w (z_row_w ⟨rfl, fun _ _ => rfl⟩ _ _ rfl) _ _ ?_
          rw [hQ, sndP, hgw, zw_upd, upd_n _ _ (show 9 + 6 * wh + 4 ≠ 9 + 6 * wh + 2 by omega), upd_n _ _ (show 321 + 5 * k + 4 ≠ 9 + 6 * wh + 2 by omega)]
        generalize zw (zw I2 r (9 + 6 * wh + 2) (I2 r (9 + 6 * wh + 2) + I2 r (321 + 5 * k + 4))) r (9 + 6 * wh + 4) (zw I2 r (9 + 6 * wh + 2) (I2 r (9 + 6 * wh + 2) + I2 r (321 + 5 * k + 4)) r (9 + 6 * wh + 4) + zw I2 r (9 + 6 * wh + 2) (I2 r (9 + 6 * wh + 2) + I2 r (321 + 5 * k + 4)) r (321 + 5 * k + 4)) = I3 at hR
        have hc3 : ∀ j, (j < 9 ∨ 57 ≤ j) → I3 r j = I2 r j := fun j hj => by rw [hR.1]; exact sndQ_o _ hnr hK2 (by omega) hj
        refine z_iload_n (q := 68) dX8_givesSounds_67 rfl rfl rfl ?_
        refine z_if_eq (tgt := 100) (q := 71) dX8_givesSounds_68 (by decide) rfl (fun hc => False.elim (absurd hc (by decide))) (fun _ => ?_)
        refine z_aload_n (q := 72) dX8_givesSounds_71 rfl rfl rfl ?_
        refine z_iload_n (q := 73) dX8_givesSounds_72 rfl rfl rfl ?_
        refine z_iconst (q := 74) (v := nI 0) dX8_givesSounds_73 (by rfl) rfl ?_
        refine z_invS (q := 77) (c_X8_entry G r k 0 hT (by omega)) gX8_givesSounds_X8_entry rfl hy_X8_entry rfl rfl rfl rfl (Nat.le_of_ble_eq_true rfl) ⟨Nat.zero_le _, Nat.zero_le _⟩ dX8_givesSounds_74 rfl (z_rv ?_)
        refine z_aload_n (q := 78) dX8_givesSounds_77 rfl rfl rfl ?_
        refine z_iload_n (q := 79) dX8_givesSounds_78 rfl rfl rfl ?_
        refine z_iconst (q := 80) (v := nI 3) dX8_givesSounds_79 (by rfl) rfl ?_
        refine z_invS (q := 83) (c_X8_entry G r k 3 hT (by omega)) gX8_givesSounds_X8_entry rfl hy_X8_entry rfl rfl rfl rfl (Nat.le_of_ble_eq_true rfl) ⟨Nat.zero_le _, Nat.zero_le _⟩ dX8_givesSounds_80 rfl (z_rv ?_)
        refine z_iadd (q := 84) dX8_givesSounds_83 rfl ?_
        refine z_iconst (q := 85) (v := nI 1) dX8_givesSounds_84 (by rfl) rfl ?_
        refine z_isub (q := 86) dX8_givesSounds_85 rfl ?_
        refine z_aload_n (q := 87) dX8_givesSounds_86 rfl rfl rfl ?_
        refine z_iconst (q := 88) (v := nI 3) dX8_givesSounds_87 (by rfl) rfl ?_
        refine z_iald (q := 89) _ (by with_reducible assumption) (rfl) (by omega) (by decide) dX8_givesSounds_88 rfl ?_
        rw [hc3 (321 + 5 * k + 0) (Or.inr (by omega)), hc3 (321 + 5 * k + 3) (Or.inr (by omega)), hc3 3 (Or.inl (by omega)), zI1]
        refine z_icmp_ne (tgt := 100) (q := 92) dX8_givesSounds_89 (by decide) rfl (fun h89 => ?_) (fun h89 => ?_)
        · rw [if_neg (fun z => h89 z.2)] at hE
          refine z_iinc (q := 103) dX8_givesSounds_100 rfl (nI_add _ 1) (by decide) rfl ?_
          refine z_goto (q := 2) dX8_givesSounds_103 (by decide) ?_
          refine ih (k + 1) np2 I3 (by omega) (by rw [hR.1]; exact hq) (fun q hq => by rw [hR.2 q hq]; exact hF q hq) ?_ _ rfl
          rw [hR.1]
          exact hE
        · rw [if_pos ⟨hh, h89⟩] at hE
          refine z_aload_n (q := 93) dX8_givesSounds_92 rfl rfl rfl ?_
          refine z_iload_n (q := 94) dX8_givesSounds_93 rfl rfl rfl ?_
          refine z_invS (q := 97) (c_X8_leaves G r k np2 hT (by rw [hR.1]; exact hq.1) hle (by omega)) gX8_givesSounds_X8_leaves rfl hy_X8_leaves rfl rfl rfl rfl (Nat.le_of_ble_eq_true rfl) ⟨Nat.zero_le _, Nat.zero_le _⟩ dX8_givesSounds_94 rfl (z_rnR fun I4 R4 hZ => ?_)
          obtain ⟨rfl, hr1, hr2⟩ := hZ
          refine z_goto (q := 103) dX8_givesSounds_97 (by decide) ?_
          refine z_goto (q := 2) dX8_givesSounds_103 (by decide) ?_
          rw [hR.1] at hr1
          refine ih k (np2 - 1) I4 (by omega) (by rw [hr1]; exact sndK_l hq (by omega)) (fun q hq => by rw [hr2 q hq, hR.2 q hq]; exact hF q hq) ?_ _ rfl
          rw [hr1, ← hE, hg2]
      · rw [if_neg hh]
        have hQ : sndQ (I2 r) k = I2 r := by rw [sndQ, if_neg hh]
        rw [if_neg (fun z => hh z.1), hQ] at hE
        refine z_iload_n (q := 24) dX8_givesSounds_23 rfl rfl rfl ?_
        refine z_if_eq (tgt := 67) (q := 27) dX8_givesSounds_24 (by decide) rfl (fun _ => ?_) (fun hc => False.elim (hc rfl))
        refine z_iload_n (q := 68) dX8_givesSounds_67 rfl rfl rfl ?_
        refine z_if_eq (tgt := 100) (q := 71) dX8_givesSounds_68 (by decide) rfl (fun _ => ?_) (fun hc => False.elim (hc rfl))
        refine z_iinc (q := 103) dX8_givesSounds_100 rfl (nI_add _ 1) (by decide) rfl ?_
        refine z_goto (q := 2) dX8_givesSounds_103 (by decide) ?_
        exact ih (k + 1) np2 I2 (by omega) hK2 hF hE _ rfl
  exact loop np 0 np I (by omega) hK (fun _ _ => rfl) rfl _ rfl

