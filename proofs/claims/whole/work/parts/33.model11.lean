/-! THE REFERENCE, what is changed: the past, doors, settings, the plan, time -/
def shP (P : Nat → Int32) (i : Nat) : Nat → Int32 := fun k => if k < i then P (k + 657) else P k
def cpP (P g : Nat → Int32) (c i : Nat) : Nat → Int32 := fun k => if 657 * c ≤ k ∧ k < 657 * c + i then g (k - 657 * c) else P k
def chC (pc : Nat) : Nat := if pc = 4 then 3 else pc
def chB (P : Nat → Int32) (pc : Nat) : Nat → Int32 := if pc = 4 then shP P 1971 else P
def chP (P g : Nat → Int32) (pc : Nat) : Nat → Int32 := cpP (chB P pc) g (chC pc) 657
def z_chd (m pc : Nat) (I I' : zII) : Prop := I' (m + 3) = chP (I (m + 3)) (I (m + 1)) pc ∧ I' m = upd (I m) 3 (nI (chC pc + 1)) ∧ ∀ q, q ≠ m → q ≠ m + 3 → I' q = I q
def z_upto (m pc : Nat) (I I' : zII) : Option (Nat → Int32) → Prop
  | none => I' m 3 = I m 3 ∧ I' m 5 = I m 5 ∧ ∀ q, q ≠ m → q ≠ m + 5 → q ≠ m + 7 → I' q = I q
  | some g => I' (m + 1) = g ∧ I' (m + 3) = chP (I (m + 3)) (I (m + 1)) pc ∧ (I' m 3 = nI (chC pc + 1) ∧ I' m 5 = I m 5) ∧ ∀ q, q ≠ m → q ≠ m + 1 → q ≠ m + 3 → q ≠ m + 5 → q ≠ m + 7 → I' q = I q
theorem z_upG {m pc : Nat} {I I3 I' : zII} {g : Nat → Int32} (h3 : z_chd m pc I I3) (h : I' (m + 1) = g) (hF : ∀ q, q ≠ m + 1 → q ≠ m + 5 → I' q = I3 q) : z_upto m pc I I' (some g) := by
  refine ⟨h, ?_, ⟨?_, ?_⟩, fun q h1 h2 h4 h5 h6 => ?_⟩
  · rw [hF _ (by omega) (by omega)]
    exact h3.1
  · rw [hF _ (by omega) (by omega), h3.2.1]
    exact upd_s _ _ _
  · rw [hF _ (by omega) (by omega), h3.2.1]
    exact upd_n _ _ (by decide)
  · rw [hF _ h2 h5]
    exact h3.2.2 _ h1 h4
theorem z_upW {m pc : Nat} {I I3 : zII} {k : Nat} {v : Int32} (h3 : z_chd m pc I I3) : z_upto m pc I (zw I3 (m + 1) k v) (some (upd (I (m + 1)) k v)) := z_upG h3 (by rw [zw_upd, h3.2.2 _ (by omega) (by omega)]) (fun q h1 _ => zw_row _ _ h1)
set_option maxRecDepth 100000 in
set_option maxHeartbeats 4000000 in
theorem c_X8_changes (G : zG) {n : Nat} {T : zTT} {I : zII} {R : zRR} (m pc : Nat) (hM : z_Mod T R m) (hpc : I m 3 = nI pc) (h4 : pc ≤ 4) : Ct G yX8_changes wsX8_changes (0, 0, 0) [.ref m] n T I R (z_rel none n T (fun I' R' => R' = R ∧ z_chd m pc I I')) := by
  refine Ct.ofX (M := muX8_changes) (ls := [(0, .ref m)]) (by decide +kernel) rfl (by decide) rfl rfl (Nat.le_of_ble_eq_true rfl) ?_
  obtain ⟨hTm, ⟨hTs, hRs⟩, -, ⟨hTp, hRp⟩, -⟩ := id hM
  have copy : ∀ c, c ≤ 3 → c = chC pc → ∀ I2, I2 (m + 3) = chB (I (m + 3)) pc → I2 m 3 = nI c → (∀ k, k ≠ 3 → I2 m k = I m k) → (∀ q, q ≠ m → q ≠ m + 3 → I2 q = I q) → ∀ ls : List (Nat × Value), lv_pick ls [0] = [(0, .ref m)] → z_X G muX8_changes (0, 0, 0) (z_rel none n T (fun I' R' => R' = R ∧ z_chd m pc I I')) n T I2 R 0 0 49 ls [] := by
    intro c hc hcp I2 h1 h2 h3 h5 ls hls
    refine z_pick [0] hls ?_
    refine z_iconst (q := 50) (v := nI 0) dX8_changes_49 (by rfl) rfl ?_
    refine z_istore_n (q := 51) dX8_changes_50 rfl (by decide) rfl ?_
    have loop : ∀ i, i ≤ 657 → ∀ I4, I4 (m + 3) = cpP (chB (I (m + 3)) pc) (I (m + 1)) c i → (∀ q, q ≠ m + 3 → I4 q = I2 q) → z_X G muX8_changes (0, 0, 0) (z_rel none n T (fun I' R' => R' = R ∧ z_chd m pc I I')) n T I4 R 0 0 51 [(0, .ref m), (1, .int (nI i))] [] := by
      refine z_up (N := 657) _ ?_ ?_
      · intro I4 e1 e2
        have e3 : I4 m 3 = nI c := by rw [e2 m (by omega)]; exact h2
        refine z_iload_n (q := 52) dX8_changes_51 rfl rfl rfl ?_
        refine z_sipush (q := 55) (v := nI 657) dX8_changes_52 (by rfl) rfl ?_
        refine z_icmpn_ge (rfl) (rfl) (by omega) (by omega) (tgt := 85) (q := 58) dX8_changes_55 (by decide) rfl (fun _ => ?_) (fun hc => absurd hc (by omega))
        refine z_aload_n (q := 86) dX8_changes_85 rfl rfl rfl ?_
        refine z_dup (q := 87) dX8_changes_86 rfl rfl ?_
        refine z_getV (q := 90) 8 3 1 7 rfl (by decide) rfl rfl rfl (by with_reducible assumption) (e3) dX8_changes_87 rfl ?_
        refine z_iconst (q := 91) (v := nI 1) dX8_changes_90 (by rfl) rfl ?_
        refine z_iaddE (q := 92) dX8_changes_91 (nI_add _ _) rfl ?_
        refine z_put (q := 95) 8 3 1 7 rfl (by decide) rfl rfl (tyX8_ok 3 (by decide)) (rfl) (rfl) rfl (by with_reducible assumption) dX8_changes_92 rfl ?_
        refine z_vret rfl dX8_changes_95 (Nat.zero_le _) (Nat.zero_le _) ⟨rfl, rfl, rfl, rfl, ?_, ?_, fun q q1 q2 => ?_⟩
        · rw [zw_row _ _ (by omega), e1, hcp]
          rfl
        · rw [zw_upd, e2 m (by omega), ← hcp]
          funext k
          by_cases hk : k = 3
          · rw [hk, upd_s, upd_s]
          · rw [upd_n _ _ hk, upd_n _ _ hk]
            exact h3 k hk
        · rw [zw_row _ _ q1, e2 q q2]
          exact h5 q q1 q2
      · intro i hi ih I4 e1 e2
        have e3 : I4 m 3 = nI c := by rw [e2 m (by omega)]; exact h2
        refine z_iload_n (q := 52) dX8_changes_51 rfl rfl rfl ?_
        refine z_sipush (q := 55) (v := nI 657) dX8_changes_52 (by rfl) rfl ?_
        refine z_icmpn_ge (rfl) (rfl) (by omega) (by omega) (tgt := 85) (q := 58) dX8_changes_55 (by decide) rfl (fun hc => absurd hc (by omega)) (fun _ => ?_)
        refine z_aload_n (q := 59) dX8_changes_58 rfl rfl rfl ?_
        refine z_getR (q := 62) 8 2 2 6 rfl (by decide) rfl rfl rfl (by with_reducible assumption) (by with_reducible assumption) dX8_changes_59 rfl ?_
        refine z_sipush (q := 65) (v := nI 657) dX8_changes_62 (by rfl) rfl ?_
        refine z_aload_n (q := 66) dX8_changes_65 rfl rfl rfl ?_
        refine z_getV (q := 69) 8 3 1 7 rfl (by decide) rfl rfl rfl (by with_reducible assumption) (e3) dX8_changes_66 rfl ?_
        refine z_imulE (q := 70) dX8_changes_69 (pk_mul _ _) rfl ?_
        refine z_iload_n (q := 71) dX8_changes_70 rfl rfl rfl ?_
        refine z_iaddE (q := 72) dX8_changes_71 (nI_add _ _) rfl ?_
        refine z_aload_n (q := 73) dX8_changes_72 rfl rfl rfl ?_
        refine z_getR (q := 76) 8 0 3 4 rfl (by decide) rfl rfl rfl (by with_reducible assumption) (by with_reducible assumption) dX8_changes_73 rfl ?_
        refine z_iload_n (q := 77) dX8_changes_76 rfl rfl rfl ?_
        refine z_iald (q := 78) _ (by with_reducible assumption) (rfl) (by omega) (by decide) dX8_changes_77 rfl ?_
        refine z_iast (q := 79) _ (by with_reducible assumption) (rfl) (by omega) (by decide) dX8_changes_78 rfl ?_
        refine z_iinc (q := 82) dX8_changes_79 rfl (nI_add _ 1) (by decide) rfl ?_
        refine z_goto (q := 51) dX8_changes_82 (by decide) ?_
        refine ih _ ?_ (fun q hq => ?_)
        · rw [zw_upd, e1]
          funext k
          by_cases hk : k = 657 * c + i
          · rw [hk, upd_s, e2 (m + 1) (by omega), h5 (m + 1) (by omega) (by omega), cpP, if_pos (by omega), show 657 * c + i - 657 * c = i by omega]
          · rw [upd_n _ _ hk]
            unfold cpP
            by_cases h : 657 * c ≤ k ∧ k < 657 * c + i
            · rw [if_pos h, if_pos (by omega)]
            · rw [if_neg h, if_neg (by omega)]
        · rw [zw_row _ _ hq]
          exact e2 q hq
    refine loop 0 (Nat.zero_le _) I2 ?_ (fun _ _ => rfl)
    rw [h1]
    funext k
    unfold cpP
    rw [if_neg (by omega)]
  refine z_aload_n (q := 1) dX8_changes_0 rfl rfl rfl ?_
  refine z_getV (q := 4) 8 3 1 7 rfl (by decide) rfl rfl rfl (by with_reducible assumption) (hpc) dX8_changes_1 rfl ?_
  refine z_iconst (q := 5) (v := nI 4) dX8_changes_4 (by rfl) rfl ?_
  refine z_icmpn_ne (rfl) (rfl) (by omega) (by omega) (tgt := 49) (q := 8) dX8_changes_5 (by decide) rfl (fun hc => ?_) (fun hc => ?_)
  · exact copy pc (by omega) (by rw [chC, if_neg hc]) I (by rw [chB, if_neg hc]) hpc (fun _ _ => rfl) (fun _ _ _ => rfl) _ rfl
  · refine z_iconst (q := 9) (v := nI 0) dX8_changes_8 (by rfl) rfl ?_
    refine z_istore_n (q := 10) dX8_changes_9 rfl (by decide) rfl ?_
    have loop : ∀ i, i ≤ 1971 → ∀ I4, I4 (m + 3) = shP (I (m + 3)) i → (∀ q, q ≠ m + 3 → I4 q = I q) → z_X G muX8_changes (0, 0, 0) (z_rel none n T (fun I' R' => R' = R ∧ z_chd m pc I I')) n T I4 R 0 0 10 [(0, .ref m), (1, .int (nI i))] [] := by
      refine z_up (N := 1971) _ ?_ ?_
      · intro I4 e1 e2
        have e3 : I4 m 3 = nI pc := by rw [e2 m (by omega)]; exact hpc
        refine z_iload_n (q := 11) dX8_changes_10 rfl rfl rfl ?_
        refine z_sipush (q := 14) (v := nI 1971) dX8_changes_11 (by rfl) rfl ?_
        refine z_icmpn_ge (rfl) (rfl) (by omega) (by omega) (tgt := 39) (q := 17) dX8_changes_14 (by decide) rfl (fun _ => ?_) (fun hc => absurd hc (by omega))
        refine z_aload_n (q := 40) dX8_changes_39 rfl rfl rfl ?_
        refine z_dup (q := 41) dX8_changes_40 rfl rfl ?_
        refine z_getV (q := 44) 8 3 1 7 rfl (by decide) rfl rfl rfl (by with_reducible assumption) (e3) dX8_changes_41 rfl ?_
        refine z_iconst (q := 45) (v := nI 1) dX8_changes_44 (by rfl) rfl ?_
        refine z_isubE (q := 46) dX8_changes_45 (pk_sub (by omega)) rfl ?_
        refine z_put (q := 49) 8 3 1 7 rfl (by decide) rfl rfl (tyX8_ok 3 (by decide)) (rfl) (rfl) rfl (by with_reducible assumption) dX8_changes_46 rfl ?_
        refine copy 3 (by omega) (by rw [chC, if_pos hc]) _ ?_ ?_ (fun k hk => ?_) (fun q q1 q2 => ?_) _ rfl
        · rw [zw_row _ _ (by omega), e1, chB, if_pos hc]
        · rw [zw_s, hc]
        · rw [zw_k _ _ hk, e2 m (by omega)]
        · rw [zw_row _ _ q1]
          exact e2 q q2
      · intro i hi ih I4 e1 e2
        refine z_iload_n (q := 11) dX8_changes_10 rfl rfl rfl ?_
        refine z_sipush (q := 14) (v := nI 1971) dX8_changes_11 (by rfl) rfl ?_
        refine z_icmpn_ge (rfl) (rfl) (by omega) (by omega) (tgt := 39) (q := 17) dX8_changes_14 (by decide) rfl (fun hc => absurd hc (by omega)) (fun _ => ?_)
        refine z_aload_n (q := 18) dX8_changes_17 rfl rfl rfl ?_
        refine z_getR (q := 21) 8 2 2 6 rfl (by decide) rfl rfl rfl (by with_reducible assumption) (by with_reducible assumption) dX8_changes_18 rfl ?_
        refine z_iload_n (q := 22) dX8_changes_21 rfl rfl rfl ?_
        refine z_aload_n (q := 23) dX8_changes_22 rfl rfl rfl ?_
        refine z_getR (q := 26) 8 2 2 6 rfl (by decide) rfl rfl rfl (by with_reducible assumption) (by with_reducible assumption) dX8_changes_23 rfl ?_
        refine z_iload_n (q := 27) dX8_changes_26 rfl rfl rfl ?_
        refine z_sipush (q := 30) (v := nI 657) dX8_changes_27 (by rfl) rfl ?_
        refine z_iaddE (q := 31) dX8_changes_30 (nI_add _ _) rfl ?_
        refine z_iald (q := 32) _ (by with_reducible assumption) (rfl) (by omega) (by decide) dX8_changes_31 rfl ?_
        refine z_iast (q := 33) _ (by with_reducible assumption) (rfl) (by omega) (by decide) dX8_changes_32 rfl ?_
        refine z_iinc (q := 36) dX8_changes_33 rfl (nI_add _ 1) (by decide) rfl ?_
        refine z_goto (q := 10) dX8_changes_36 (by decide) ?_
        refine ih _ ?_ (fun q hq => ?_)
        · rw [zw_upd, e1]
          funext k
          by_cases hk : k = i
          · rw [hk, upd_s]
            unfold shP
            rw [if_neg (by omega), if_pos (by omega)]
          · rw [upd_n _ _ hk]
            unfold shP
            by_cases h : k < i
            · rw [if_pos h, if_pos (by omega)]
            · rw [if_neg h, if_neg (by omega)]
        · rw [zw_row _ _ hq]
          exact e2 q hq
    refine loop 0 (Nat.zero_le _) I ?_ (fun _ _ => rfl)
    funext k
    unfold shP
    rw [if_neg (by omega)]
set_option maxRecDepth 100000 in
set_option maxHeartbeats 4000000 in
theorem c_X8_undo (G : zG) {n : Nat} {T : zTT} {I : zII} {R : zRR} (m pc : Nat) (g0 : Nat → Int32) (hM : z_Mod T R m) (hpc : I m 3 = nI pc) (h4 : pc ≤ 4) (hg : 0 < pc → ∀ k, k < 657 → g0 k = I (m + 3) (657 * (pc - 1) + k)) : Ct G yX8_undo wsX8_undo (0, 0, 0) [.ref m] n T I R (z_rel (some (.int (if pc = 0 then -2 else nI (pc - 1)))) n T (fun I' R' => R' = R ∧ I' (m + 1) = (if pc = 0 then I (m + 1) else g0) ∧ I' m = upd (I m) 3 (nI (pc - 1)) ∧ ∀ q, q ≠ m → q ≠ m + 1 → I' q = I q)) := by
  refine Ct.ofX (M := muX8_undo) (ls := [(0, .ref m)]) (by decide +kernel) rfl (by decide) rfl rfl (Nat.le_of_ble_eq_true rfl) ?_
  obtain ⟨hTm, ⟨hTs, hRs⟩, -, ⟨hTp, hRp⟩, -⟩ := id hM
  refine z_aload_n (q := 1) dX8_undo_0 rfl rfl rfl ?_
  refine z_getV (q := 4) 8 3 1 7 rfl (by decide) rfl rfl rfl (by with_reducible assumption) (hpc) dX8_undo_1 rfl ?_
  by_cases hp0 : pc = 0
  · rw [if_pos hp0, if_pos hp0]
    subst hp0
    refine z_if_ne (tgt := 10) (q := 7) dX8_undo_4 (by decide) rfl (fun hc => False.elim (hc rfl)) (fun _ => ?_)
    refine z_bipush (q := 9) (v := (-2)) dX8_undo_7 (by rfl) rfl ?_
    refine z_iret rfl dX8_undo_9 (Nat.zero_le _) (Nat.zero_le _) ⟨rfl, rfl, rfl, rfl, rfl, ?_, fun _ _ _ => rfl⟩
    funext k
    by_cases hk : k = 3
    · rw [hk, upd_s]; exact hpc
    · rw [upd_n _ _ hk]
  · rw [if_neg hp0, if_neg hp0]
    refine z_if_ne (tgt := 10) (q := 7) dX8_undo_4 (by decide) rfl (fun _ => ?_) (fun hc => False.elim (hp0 ((nI_eq (a := pc) (b := 0) (by omega) (by omega)).mp hc)))
    refine z_aload_n (q := 11) dX8_undo_10 rfl rfl rfl ?_
    refine z_dup (q := 12) dX8_undo_11 rfl rfl ?_
    refine z_getV (q := 15) 8 3 1 7 rfl (by decide) rfl rfl rfl (by with_reducible assumption) (hpc) dX8_undo_12 rfl ?_
    refine z_iconst (q := 16) (v := nI 1) dX8_undo_15 (by rfl) rfl ?_
    refine z_isubE (q := 17) dX8_undo_16 (pk_sub (by omega)) rfl ?_
    refine z_put (q := 20) 8 3 1 7 rfl (by decide) rfl rfl (tyX8_ok 3 (by decide)) (rfl) (rfl) rfl (by with_reducible assumption) dX8_undo_17 rfl ?_
    refine z_iconst (q := 21) (v := nI 0) dX8_undo_20 (by rfl) rfl ?_
    refine z_istore_n (q := 22) dX8_undo_21 rfl (by decide) rfl ?_
    have loop : ∀ i, i ≤ 657 → ∀ I4, (∀ k, k < i → g0 k = I4 (m + 1) k) → I4 m = upd (I m) 3 (nI (pc - 1)) → (∀ q, q ≠ m → q ≠ m + 1 → I4 q = I q) → z_X G muX8_undo (0, 0, 0) (z_rel (some (.int (nI (pc - 1)))) n T (fun I' R' => R' = R ∧ I' (m + 1) = g0 ∧ I' m = upd (I m) 3 (nI (pc - 1)) ∧ ∀ q, q ≠ m → q ≠ m + 1 → I' q = I q)) n T I4 R 0 0 22 [(0, .ref m), (1, .int (nI i))] [] := by
      refine z_up (N := 657) _ ?_ ?_
      · intro I4 e1 e2 e3
        refine z_iload_n (q := 23) dX8_undo_22 rfl rfl rfl ?_
        refine z_sipush (q := 26) (v := nI 657) dX8_undo_23 (by rfl) rfl ?_
        refine z_icmpn_ge (rfl) (rfl) (by omega) (by omega) (tgt := 56) (q := 29) dX8_undo_26 (by decide) rfl (fun _ => ?_) (fun hc => absurd hc (by omega))
        refine z_ext_row (r := m + 1) g0 hTs e1 ?_
        have e4 : zN I4 (m + 1) g0 m 3 = nI (pc - 1) := by rw [zN_n _ _ (by omega), e2]; exact upd_s _ _ _
        refine z_aload_n (q := 57) dX8_undo_56 rfl rfl rfl ?_
        refine z_getV (q := 60) 8 3 1 7 rfl (by decide) rfl rfl rfl (by with_reducible assumption) (e4) dX8_undo_57 rfl ?_
        refine z_iret rfl dX8_undo_60 (Nat.zero_le _) (Nat.zero_le _) ⟨rfl, rfl, rfl, rfl, zN_s _ _ _, ?_, fun q q1 q2 => ?_⟩
        · rw [zN_n _ _ (by omega)]
          exact e2
        · rw [zN_n _ _ q2]
          exact e3 q q1 q2
      · intro i hi ih I4 e1 e2 e3
        have e4 : I4 m 3 = nI (pc - 1) := by rw [e2]; exact upd_s _ _ _
        refine z_iload_n (q := 23) dX8_undo_22 rfl rfl rfl ?_
        refine z_sipush (q := 26) (v := nI 657) dX8_undo_23 (by rfl) rfl ?_
        refine z_icmpn_ge (rfl) (rfl) (by omega) (by omega) (tgt := 56) (q := 29) dX8_undo_26 (by decide) rfl (fun hc => absurd hc (by omega)) (fun _ => ?_)
        refine z_aload_n (q := 30) dX8_undo_29 rfl rfl rfl ?_
        refine z_getR (q := 33) 8 0 2 4 rfl (by decide) rfl rfl rfl (by with_reducible assumption) (by with_reducible assumption) dX8_undo_30 rfl ?_
        refine z_iload_n (q := 34) dX8_undo_33 rfl rfl rfl ?_
        refine z_aload_n (q := 35) dX8_undo_34 rfl rfl rfl ?_
        refine z_getR (q := 38) 8 2 3 6 rfl (by decide) rfl rfl rfl (by with_reducible assumption) (by with_reducible assumption) dX8_undo_35 rfl ?_
        refine z_sipush (q := 41) (v := nI 657) dX8_undo_38 (by rfl) rfl ?_
        refine z_aload_n (q := 42) dX8_undo_41 rfl rfl rfl ?_
        refine z_getV (q := 45) 8 3 1 7 rfl (by decide) rfl rfl rfl (by with_reducible assumption) (e4) dX8_undo_42 rfl ?_
        refine z_imulE (q := 46) dX8_undo_45 (pk_mul _ _) rfl ?_
        refine z_iload_n (q := 47) dX8_undo_46 rfl rfl rfl ?_
        refine z_iaddE (q := 48) dX8_undo_47 (nI_add _ _) rfl ?_
        refine z_iald (q := 49) _ (by with_reducible assumption) (rfl) (by omega) (by decide) dX8_undo_48 rfl ?_
        refine z_iast (q := 50) _ (by with_reducible assumption) (rfl) (by omega) (by decide) dX8_undo_49 rfl ?_
        refine z_iinc (q := 53) dX8_undo_50 rfl (nI_add _ 1) (by decide) rfl ?_
        refine z_goto (q := 22) dX8_undo_53 (by decide) ?_
        refine ih _ (fun k hk => ?_) ?_ (fun q q1 q2 => ?_)
        · by_cases hki : k = i
          · rw [hki, zw_s, e3 (m + 3) (by omega) (by omega)]
            exact hg (by omega) i hi
          · rw [zw_k _ _ hki]
            exact e1 k (by omega)
        · rw [zw_row _ _ (by omega)]
          exact e2
        · rw [zw_row _ _ q2]
          exact e3 q q1 q2
    refine loop 0 (Nat.zero_le _) _ (fun k hk => absurd hk (Nat.not_lt_zero k)) ?_ (fun q q1 q2 => ?_)
    · rw [zw_upd]
    · rw [zw_row _ _ q1]
def openQ (g : Nat → Int32) (d : Nat) (t : Int32) : Int32 × Option (Nat → Int32) := if rsn g d t = 0 then (g (57 + 10 * d + 6), some (upd g (57 + 10 * d + 6) t)) else (-2, none)
def sp_open (g : Nat → Int32) (x t : Int32) : Int32 × Option (Nat → Int32) := if x < 0 ∨ g 1 ≤ x then (-1, none) else if t < nI 0 ∨ nI 10 < t then (-1, none) else openQ g x.toNatClampNeg t
set_option maxRecDepth 100000 in
set_option maxHeartbeats 4000000 in
theorem c_X8_open (G : zG) {n : Nat} {T : zTT} {I : zII} {R : zRR} (m nr nd np st pc : Nat) (x t : Int32) (hM : z_Mod T R m) (hI : INV nr nd np st (I (m + 1))) (hpc : I m 3 = nI pc) (h4 : pc ≤ 4) : Ct G yX8_open wsX8_open (3, 0, 0) [.ref m, .int x, .int t] n T I R (z_rel (some (.int (sp_open (I (m + 1)) x t).1)) n T (fun I' R' => R' = R ∧ z_upto m pc I I' (sp_open (I (m + 1)) x t).2)) := by
  refine Ct.ofX (M := muX8_open) (ls := [(0, .ref m), (1, .int x), (2, .int t)]) (by decide +kernel) rfl (by decide) rfl rfl (Nat.le_of_ble_eq_true rfl) ?_
  have hTm := hM.1
  have hnd := hI.2.1.2
  obtain ⟨-, ⟨hTs, hRs⟩, -⟩ := id hM
  have bad : sp_open (I (m + 1)) x t = (-1, none) → z_X G muX8_open (3, 0, 0) (z_rel (some (.int (sp_open (I (m + 1)) x t).1)) n T (fun I' R' => R' = R ∧ z_upto m pc I I' (sp_open (I (m + 1)) x t).2)) n T I R 0 0 18 [(0, .ref m), (1, .int x), (2, .int t)] [] := by
    intro hb
    rw [hb]
    refine z_iconst (q := 19) (v := (-1)) dX8_open_18 (by rfl) rfl ?_
    exact z_iret rfl dX8_open_19 (Nat.zero_le _) (Nat.zero_le _) ⟨rfl, rfl, rfl, rfl, ⟨rfl, rfl, fun _ _ _ _ => rfl⟩⟩
  refine z_aload_n (q := 1) dX8_open_0 rfl rfl rfl ?_
  refine z_iload_n (q := 2) dX8_open_1 rfl rfl rfl ?_
  refine z_invV (q := 5) (c_X8_isDoor G m x hM) (by with_reducible assumption) rfl gX8_open_X8_isDoor rfl hy_X8_isDoor rfl rfl rfl rfl (Nat.le_of_ble_eq_true rfl) ⟨Nat.zero_le _, Nat.zero_le _⟩ dX8_open_2 rfl (z_rv ?_)
  by_cases hv : x < 0 ∨ I (m + 1) 1 ≤ x
  · rw [if_pos hv]
    refine z_if_eq (tgt := 18) (q := 8) dX8_open_5 (by decide) rfl (fun _ => ?_) (fun hc => False.elim (hc rfl))
    exact bad (by rw [sp_open, if_pos hv])
  rw [if_neg hv]
  refine z_if_eq (tgt := 18) (q := 8) dX8_open_5 (by decide) rfl (fun hc => False.elim (absurd hc (by decide))) (fun _ => ?_)
  refine z_iload_n (q := 9) dX8_open_8 rfl rfl rfl ?_
  refine z_iconst (q := 10) (v := nI 0) dX8_open_9 (by rfl) rfl ?_
  refine z_bipush (q := 12) (v := nI 10) dX8_open_10 (by rfl) rfl ?_
  refine z_invS (q := 15) (c_X8_in G t (nI 0) (nI 10)) gX8_open_X8_in rfl hy_X8_in rfl rfl rfl rfl (Nat.le_of_ble_eq_true rfl) ⟨Nat.zero_le _, Nat.zero_le _⟩ dX8_open_12 rfl (z_rv ?_)
  by_cases hz : t < nI 0 ∨ nI 10 < t
  · rw [if_pos hz]
    refine z_if_ne (tgt := 20) (q := 18) dX8_open_15 (by decide) rfl (fun hc => False.elim (hc rfl)) (fun _ => ?_)
    exact bad (by rw [sp_open, if_neg hv, if_pos hz])
  rw [if_neg hz]
  refine z_if_ne (tgt := 20) (q := 18) dX8_open_15 (by decide) rfl (fun _ => ?_) (fun hc => False.elim (absurd hc (by decide)))
  obtain ⟨d, hd, rfl⟩ := z_ix hI.2.1.1 (by omega) hv
  have e : sp_open (I (m + 1)) (nI d) t = openQ (I (m + 1)) d t := by rw [sp_open, if_neg hv, if_neg hz, nI_clamp (by omega)]
  rw [e]
  refine z_aload_n (q := 21) dX8_open_20 rfl rfl rfl ?_
  refine z_iload_n (q := 22) dX8_open_21 rfl rfl rfl ?_
  refine z_iload_n (q := 23) dX8_open_22 rfl rfl rfl ?_
  refine z_invV (q := 26) (c_X8_reason G m nr nd np st d t hM hI hd) (by with_reducible assumption) rfl gX8_open_X8_reason rfl hy_X8_reason rfl rfl rfl rfl (Nat.le_of_ble_eq_true rfl) ⟨Nat.zero_le _, Nat.zero_le _⟩ dX8_open_23 rfl (z_rv ?_)
  refine z_if_eq (tgt := 32) (q := 29) dX8_open_26 (by decide) rfl (fun h26 => ?_) (fun h26 => ?_)
  · rw [openQ, if_pos h26]
    refine z_aload_n (q := 33) dX8_open_32 rfl rfl rfl ?_
    refine z_invV (q := 36) (c_X8_changes G m pc hM hpc h4) (by with_reducible assumption) rfl gX8_open_X8_changes rfl hy_X8_changes rfl rfl rfl rfl (Nat.le_of_ble_eq_true rfl) ⟨Nat.zero_le _, Nat.zero_le _⟩ dX8_open_33 rfl (z_rnR fun I3 R3 hZ3 => ?_)
    obtain ⟨rfl, h3⟩ := hZ3
    refine z_aload_n (q := 37) dX8_open_36 rfl rfl rfl ?_
    refine z_getR (q := 40) 8 0 1 30 rfl (by decide) rfl rfl rfl (by with_reducible assumption) (by with_reducible assumption) dX8_open_37 rfl ?_
    refine z_iload_n (q := 41) dX8_open_40 rfl rfl rfl ?_
    refine z_bipush (q := 43) (v := nI 6) dX8_open_41 (by rfl) rfl ?_
    refine z_invS (q := 46) (c_X8_ofDoor G (m + 1) d 6 hTs (by omega)) gX8_open_X8_ofDoor rfl hy_X8_ofDoor rfl rfl rfl rfl (Nat.le_of_ble_eq_true rfl) ⟨Nat.zero_le _, Nat.zero_le _⟩ dX8_open_43 rfl (z_rv ?_)
    refine z_istore_n (q := 47) dX8_open_46 rfl (by decide) rfl ?_
    refine z_aload_n (q := 48) dX8_open_47 rfl rfl rfl ?_
    refine z_getR (q := 51) 8 0 1 30 rfl (by decide) rfl rfl rfl (by with_reducible assumption) (by with_reducible assumption) dX8_open_48 rfl ?_
    refine z_bipush (q := 53) (v := nI 57) dX8_open_51 (by rfl) rfl ?_
    refine z_bipush (q := 55) (v := nI 10) dX8_open_53 (by rfl) rfl ?_
    refine z_iload_n (q := 56) dX8_open_55 rfl rfl rfl ?_
    refine z_imulE (q := 57) dX8_open_56 (pk_mul _ _) rfl ?_
    refine z_iaddE (q := 58) dX8_open_57 (nI_add _ _) rfl ?_
    refine z_bipush (q := 60) (v := nI 6) dX8_open_58 (by rfl) rfl ?_
    refine z_iaddE (q := 61) dX8_open_60 (nI_add _ _) rfl ?_
    refine z_iload_n (q := 62) dX8_open_61 rfl rfl rfl ?_
    refine z_iast (q := 63) _ (by with_reducible assumption) (rfl) (by omega) (by decide) dX8_open_62 rfl ?_
    refine z_iload_n (q := 64) dX8_open_63 rfl rfl rfl ?_
    exact z_iret rfl dX8_open_64 (Nat.zero_le _) (Nat.zero_le _) ⟨by rw [h3.2.2 (m + 1) (by omega) (by omega)], rfl, rfl, rfl, z_upW h3⟩
  · rw [openQ, if_neg h26]
    refine z_bipush (q := 31) (v := (-2)) dX8_open_29 (by rfl) rfl ?_
    exact z_iret rfl dX8_open_31 (Nat.zero_le _) (Nat.zero_le _) ⟨rfl, rfl, rfl, rfl, rfl, rfl, fun _ _ _ _ => rfl⟩
def setQ (g : Nat → Int32) (w : Nat) (v : Int32) : Int32 × Option (Nat → Int32) := (g (7 + w), some (upd g (7 + w) v))
def sp_set (g : Nat → Int32) (x v : Int32) : Int32 × Option (Nat → Int32) := if x < nI 0 ∨ nI 1 < x then (-1, none) else if v < nI 0 ∨ 1000000 < v then (-1, none) else setQ g x.toNatClampNeg v
set_option maxRecDepth 100000 in
set_option maxHeartbeats 4000000 in
theorem c_X8_set (G : zG) {n : Nat} {T : zTT} {I : zII} {R : zRR} (m pc : Nat) (x v : Int32) (hM : z_Mod T R m) (hpc : I m 3 = nI pc) (h4 : pc ≤ 4) : Ct G yX8_set wsX8_set (1, 0, 0) [.ref m, .int x, .int v] n T I R (z_rel (some (.int (sp_set (I (m + 1)) x v).1)) n T (fun I' R' => R' = R ∧ z_upto m pc I I' (sp_set (I (m + 1)) x v).2)) := by
  refine Ct.ofX (M := muX8_set) (ls := [(0, .ref m), (1, .int x), (2, .int v)]) (by decide +kernel) rfl (by decide) rfl rfl (Nat.le_of_ble_eq_true rfl) ?_
  have hTm := hM.1
  obtain ⟨-, ⟨hTs, hRs⟩, -⟩ := id hM
  have bad : sp_set (I (m + 1)) x v = (-1, none) → z_X G muX8_set (1, 0, 0) (z_rel (some (.int (sp_set (I (m + 1)) x v).1)) n T (fun I' R' => R' = R ∧ z_upto m pc I I' (sp_set (I (m + 1)) x v).2)) n T I R 0 0 19 [(0, .ref m), (1, .int x), (2, .int v)] [] := by
    intro hb
    rw [hb]
    refine z_iconst (q := 20) (v := (-1)) dX8_set_19 (by rfl) rfl ?_
    exact z_iret rfl dX8_set_20 (Nat.zero_le _) (Nat.zero_le _) ⟨rfl, rfl, rfl, rfl, ⟨rfl, rfl, fun _ _ _ _ => rfl⟩⟩
  refine z_iload_n (q := 1) dX8_set_0 rfl rfl rfl ?_
  refine z_iconst (q := 2) (v := nI 0) dX8_set_1 (by rfl) rfl ?_
  refine z_iconst (q := 3) (v := nI 1) dX8_set_2 (by rfl) rfl ?_
  refine z_invS (q := 6) (c_X8_in G x (nI 0) (nI 1)) gX8_set_X8_in rfl hy_X8_in rfl rfl rfl rfl (Nat.le_of_ble_eq_true rfl) ⟨Nat.zero_le _, Nat.zero_le _⟩ dX8_set_3 rfl (z_rv ?_)
  by_cases hv : x < nI 0 ∨ nI 1 < x
  · rw [if_pos hv]
    refine z_if_eq (tgt := 19) (q := 9) dX8_set_6 (by decide) rfl (fun _ => ?_) (fun hc => False.elim (hc rfl))
    exact bad (by rw [sp_set, if_pos hv])
  rw [if_neg hv]
  refine z_if_eq (tgt := 19) (q := 9) dX8_set_6 (by decide) rfl (fun hc => False.elim (absurd hc (by decide))) (fun _ => ?_)
  refine z_iload_n (q := 10) dX8_set_9 rfl rfl rfl ?_
  refine z_iconst (q := 11) (v := nI 0) dX8_set_10 (by rfl) rfl ?_
  refine z_ldc (q := 13) (i := 1) (v := 1000000) rfl dX8_set_11 rfl ?_
  refine z_invS (q := 16) (c_X8_in G v (nI 0) 1000000) gX8_set_X8_in rfl hy_X8_in rfl rfl rfl rfl (Nat.le_of_ble_eq_true rfl) ⟨Nat.zero_le _, Nat.zero_le _⟩ dX8_set_13 rfl (z_rv ?_)
  by_cases hz : v < nI 0 ∨ 1000000 < v
  · rw [if_pos hz]
    refine z_if_ne (tgt := 21) (q := 19) dX8_set_16 (by decide) rfl (fun hc => False.elim (hc rfl)) (fun _ => ?_)
    exact bad (by rw [sp_set, if_neg hv, if_pos hz])
  rw [if_neg hz]
  refine z_if_ne (tgt := 21) (q := 19) dX8_set_16 (by decide) rfl (fun _ => ?_) (fun hc => False.elim (absurd hc (by decide)))
  obtain ⟨k, -, hk, rfl⟩ := z_ix2 (by decide) (by decide) hv
  have e : sp_set (I (m + 1)) (nI k) v = setQ (I (m + 1)) k v := by rw [sp_set, if_neg hv, if_neg hz, nI_clamp (by omega)]
  rw [e]
  refine z_aload_n (q := 22) dX8_set_21 rfl rfl rfl ?_
  refine z_invV (q := 25) (c_X8_changes G m pc hM hpc h4) (by with_reducible assumption) rfl gX8_set_X8_changes rfl hy_X8_changes rfl rfl rfl rfl (Nat.le_of_ble_eq_true rfl) ⟨Nat.zero_le _, Nat.zero_le _⟩ dX8_set_22 rfl (z_rnR fun I3 R3 hZ3 => ?_)
  obtain ⟨rfl, h3⟩ := hZ3
  refine z_aload_n (q := 26) dX8_set_25 rfl rfl rfl ?_
  refine z_getR (q := 29) 8 0 2 13 rfl (by decide) rfl rfl rfl (by with_reducible assumption) (by with_reducible assumption) dX8_set_26 rfl ?_
  refine z_bipush (q := 31) (v := nI 7) dX8_set_29 (by rfl) rfl ?_
  refine z_iload_n (q := 32) dX8_set_31 rfl rfl rfl ?_
  refine z_iaddE (q := 33) dX8_set_32 (nI_add _ _) rfl ?_
  refine z_iald (q := 34) _ (by with_reducible assumption) (rfl) (by omega) (by decide) dX8_set_33 rfl ?_
  refine z_istore_n (q := 35) dX8_set_34 rfl (by decide) rfl ?_
  refine z_aload_n (q := 36) dX8_set_35 rfl rfl rfl ?_
  refine z_getR (q := 39) 8 0 2 13 rfl (by decide) rfl rfl rfl (by with_reducible assumption) (by with_reducible assumption) dX8_set_36 rfl ?_
  refine z_bipush (q := 41) (v := nI 7) dX8_set_39 (by rfl) rfl ?_
  refine z_iload_n (q := 42) dX8_set_41 rfl rfl rfl ?_
  refine z_iaddE (q := 43) dX8_set_42 (nI_add _ _) rfl ?_
  refine z_iload_n (q := 44) dX8_set_43 rfl rfl rfl ?_
  refine z_iast (q := 45) _ (by with_reducible assumption) (rfl) (by omega) (by decide) dX8_set_44 rfl ?_
  refine z_iload_n (q := 46) dX8_set_45 rfl rfl rfl ?_
  exact z_iret rfl dX8_set_46 (Nat.zero_le _) (Nat.zero_le _) ⟨by rw [h3.2.2 (m + 1) (by omega) (by omega)]; rfl, rfl, rfl, rfl, z_upW h3⟩
def lockQ (g : Nat → Int32) (d : Nat) (v : Int32) : Int32 × Option (Nat → Int32) := if g (57 + 10 * d + 7) = v then (-2, none) else (g (57 + 10 * d + 5), some (upd (upd g (57 + 10 * d + 7) v) (57 + 10 * d + 6) (if v = 1 then g (57 + 10 * d + 5) else g (57 + 10 * d + 6))))
def sp_lock (g : Nat → Int32) (x v : Int32) : Int32 × Option (Nat → Int32) := if x < 0 ∨ g 1 ≤ x then (-1, none) else if v < nI 0 ∨ nI 1 < v then (-1, none) else lockQ g x.toNatClampNeg v
set_option maxRecDepth 100000 in
set_option maxHeartbeats 4000000 in
theorem c_X8_lock (G : zG) {n : Nat} {T : zTT} {I : zII} {R : zRR} (m nr nd np st pc : Nat) (x v : Int32) (hM : z_Mod T R m) (hI : INV nr nd np st (I (m + 1))) (hpc : I m 3 = nI pc) (h4 : pc ≤ 4) : Ct G yX8_lock wsX8_lock (1, 0, 0) [.ref m, .int x, .int v] n T I R (z_rel (some (.int (sp_lock (I (m + 1)) x v).1)) n T (fun I' R' => R' = R ∧ z_upto m pc I I' (sp_lock (I (m + 1)) x v).2)) := by
  refine Ct.ofX (M := muX8_lock) (ls := [(0, .ref m), (1, .int x), (2, .int v)]) (by decide +kernel) rfl (by decide) rfl rfl (Nat.le_of_ble_eq_true rfl) ?_
  have hTm := hM.1
  have hnd := hI.2.1.2
  obtain ⟨-, ⟨hTs, hRs⟩, -⟩ := id hM
  have bad : sp_lock (I (m + 1)) x v = (-1, none) → z_X G muX8_lock (1, 0, 0) (z_rel (some (.int (sp_lock (I (m + 1)) x v).1)) n T (fun I' R' => R' = R ∧ z_upto m pc I I' (sp_lock (I (m + 1)) x v).2)) n T I R 0 0 17 [(0, .ref m), (1, .int x), (2, .int v)] [] := by
    intro hb
    rw [hb]
    refine z_iconst (q := 18) (v := (-1)) dX8_lock_17 (by rfl) rfl ?_
    exact z_iret rfl dX8_lock_18 (Nat.zero_le _) (Nat.zero_le _) ⟨rfl, rfl, rfl, rfl, ⟨rfl, rfl, fun _ _ _ _ => rfl⟩⟩
  refine z_aload_n (q := 1) dX8_lock_0 rfl rfl rfl ?_
  refine z_iload_n (q := 2) dX8_lock_1 rfl rfl rfl ?_
  refine z_invV (q := 5) (c_X8_isDoor G m x hM) (by with_reducible assumption) rfl gX8_lock_X8_isDoor rfl hy_X8_isDoor rfl rfl rfl rfl (Nat.le_of_ble_eq_true rfl) ⟨Nat.zero_le _, Nat.zero_le _⟩ dX8_lock_2 rfl (z_rv ?_)
  by_cases hv : x < 0 ∨ I (m + 1) 1 ≤ x
  · rw [if_pos hv]
    refine z_if_eq (tgt := 17) (q := 8) dX8_lock_5 (by decide) rfl (fun _ => ?_) (fun hc => False.elim (hc rfl))
    exact bad (by rw [sp_lock, if_pos hv])
  rw [if_neg hv]
  refine z_if_eq (tgt := 17) (q := 8) dX8_lock_5 (by decide) rfl (fun hc => False.elim (absurd hc (by decide))) (fun _ => ?_)
  refine z_iload_n (q := 9) dX8_lock_8 rfl rfl rfl ?_
  refine z_iconst (q := 10) (v := nI 0) dX8_lock_9 (by rfl) rfl ?_
  refine z_iconst (q := 11) (v := nI 1) dX8_lock_10 (by rfl) rfl ?_
  refine z_invS (q := 14) (c_X8_in G v (nI 0) (nI 1)) gX8_lock_X8_in rfl hy_X8_in rfl rfl rfl rfl (Nat.le_of_ble_eq_true rfl) ⟨Nat.zero_le _, Nat.zero_le _⟩ dX8_lock_11 rfl (z_rv ?_)
  by_cases hz : v < nI 0 ∨ nI 1 < v
  · rw [if_pos hz]
    refine z_if_ne (tgt := 19) (q := 17) dX8_lock_14 (by decide) rfl (fun hc => False.elim (hc rfl)) (fun _ => ?_)
    exact bad (by rw [sp_lock, if_neg hv, if_pos hz])
  rw [if_neg hz]
  refine z_if_ne (tgt := 19) (q := 17) dX8_lock_14 (by decide) rfl (fun _ => ?_) (fun hc => False.elim (absurd hc (by decide)))
  obtain ⟨d, hd, rfl⟩ := z_ix hI.2.1.1 (by omega) hv
  have e : sp_lock (I (m + 1)) (nI d) v = lockQ (I (m + 1)) d v := by rw [sp_lock, if_neg hv, if_neg hz, nI_clamp (by omega)]
  rw [e]
  refine z_bipush (q := 21) (v := nI 57) dX8_lock_19 (by rfl) rfl ?_
  refine z_bipush (q := 23) (v := nI 10) dX8_lock_21 (by rfl) rfl ?_
  refine z_iload_n (q := 24) dX8_lock_23 rfl rfl rfl ?_
  refine z_imulE (q := 25) dX8_lock_24 (pk_mul _ _) rfl ?_
  refine z_iaddE (q := 26) dX8_lock_25 (nI_add _ _) rfl ?_
  refine z_istore_n (q := 27) dX8_lock_26 rfl (by decide) rfl ?_
  refine z_aload_n (q := 28) dX8_lock_27 rfl rfl rfl ?_
  refine z_getR (q := 31) 8 0 1 16 rfl (by decide) rfl rfl rfl (by with_reducible assumption) (by with_reducible assumption) dX8_lock_28 rfl ?_
  refine z_iload_n (q := 32) dX8_lock_31 rfl rfl rfl ?_
  refine z_bipush (q := 34) (v := nI 7) dX8_lock_32 (by rfl) rfl ?_
  refine z_iaddE (q := 35) dX8_lock_34 (nI_add _ _) rfl ?_
  refine z_iald (q := 36) _ (by with_reducible assumption) (rfl) (by omega) (by decide) dX8_lock_35 rfl ?_
  refine z_iload_n (q := 37) dX8_lock_36 rfl rfl rfl ?_
  refine z_icmp_ne (tgt := 43) (q := 40) dX8_lock_37 (by decide) rfl (fun h37 => ?_) (fun h37 => ?_)
  · rw [lockQ, if_neg h37]
    refine z_aload_n (q := 44) dX8_lock_43 rfl rfl rfl ?_
    refine z_invV (q := 47) (c_X8_changes G m pc hM hpc h4) (by with_reducible assumption) rfl gX8_lock_X8_changes rfl hy_X8_changes rfl rfl rfl rfl (Nat.le_of_ble_eq_true rfl) ⟨Nat.zero_le _, Nat.zero_le _⟩ dX8_lock_44 rfl (z_rnR fun I3 R3 hZ3 => ?_)
    obtain ⟨rfl, h3⟩ := hZ3
    have es : I3 (m + 1) = I (m + 1) := h3.2.2 (m + 1) (by omega) (by omega)
    have join : ∀ y, y = (if v = 1 then I (m + 1) (57 + 10 * d + 5) else I (m + 1) (57 + 10 * d + 6)) → z_X G muX8_lock (1, 0, 0) (z_rel (some (.int (I (m + 1) (57 + 10 * d + 5), some (upd (upd (I (m + 1)) (57 + 10 * d + 7) v) (57 + 10 * d + 6) (if v = 1 then I (m + 1) (57 + 10 * d + 5) else I (m + 1) (57 + 10 * d + 6)))).1)) n T (fun I' R' => R' = R3 ∧ z_upto m pc I I' (I (m + 1) (57 + 10 * d + 5), some (upd (upd (I (m + 1)) (57 + 10 * d + 7) v) (57 + 10 * d + 6) (if v = 1 then I (m + 1) (57 + 10 * d + 5) else I (m + 1) (57 + 10 * d + 6)))).2)) n T (zw I3 (m + 1) (57 + 10 * d + 7) v) R3 0 0 90 [(0, .ref m), (1, .int (nI d)), (2, .int v), (3, .int (nI (57 + 10 * d)))] [.int y, .int (nI (57 + 10 * d + 6)), .ref (m + 1)] := by
      intro y hy
      refine z_iast (q := 91) _ (by with_reducible assumption) (rfl) (by omega) (by decide) dX8_lock_90 rfl ?_
      refine z_aload_n (q := 92) dX8_lock_91 rfl rfl rfl ?_
      refine z_getR (q := 95) 8 0 1 16 rfl (by decide) rfl rfl rfl (by with_reducible assumption) (by with_reducible assumption) dX8_lock_92 rfl ?_
      refine z_iload_n (q := 96) dX8_lock_95 rfl rfl rfl ?_
      refine z_iconst (q := 97) (v := nI 5) dX8_lock_96 (by rfl) rfl ?_
      refine z_iaddE (q := 98) dX8_lock_97 (nI_add _ _) rfl ?_
      refine z_iald (q := 99) _ (by with_reducible assumption) (rfl) (by omega) (by decide) dX8_lock_98 rfl ?_
      refine z_iret rfl dX8_lock_99 (Nat.zero_le _) (Nat.zero_le _) ⟨?_, rfl, rfl, rfl, z_upG h3 ?_ (fun q h1 _ => by rw [zw_row _ _ h1, zw_row _ _ h1])⟩
      · rw [zw_k _ _ (by omega), zw_k _ _ (by omega), es]
      · rw [zw_upd, zw_upd, es, hy]
    refine z_aload_n (q := 48) dX8_lock_47 rfl rfl rfl ?_
    refine z_getR (q := 51) 8 0 1 16 rfl (by decide) rfl rfl rfl (by with_reducible assumption) (by with_reducible assumption) dX8_lock_48 rfl ?_
    refine z_iload_n (q := 52) dX8_lock_51 rfl rfl rfl ?_
    refine z_bipush (q := 54) (v := nI 7) dX8_lock_52 (by rfl) rfl ?_
    refine z_iaddE (q := 55) dX8_lock_54 (nI_add _ _) rfl ?_
    refine z_iload_n (q := 56) dX8_lock_55 rfl rfl rfl ?_
    refine z_iast (q := 57) _ (by with_reducible assumption) (rfl) (by omega) (by decide) dX8_lock_56 rfl ?_
    refine z_aload_n (q := 58) dX8_lock_57 rfl rfl rfl ?_
    refine z_getR (q := 61) 8 0 1 16 rfl (by decide) rfl rfl rfl (by with_reducible assumption) (by with_reducible assumption) dX8_lock_58 rfl ?_
    refine z_iload_n (q := 62) dX8_lock_61 rfl rfl rfl ?_
    refine z_bipush (q := 64) (v := nI 6) dX8_lock_62 (by rfl) rfl ?_
    refine z_iaddE (q := 65) dX8_lock_64 (nI_add _ _) rfl ?_
    refine z_iload_n (q := 66) dX8_lock_65 rfl rfl rfl ?_
    refine z_iconst (q := 67) (v := nI 1) dX8_lock_66 (by rfl) rfl ?_
    refine z_icmp_ne (tgt := 81) (q := 70) dX8_lock_67 (by decide) rfl (fun h67 => ?_) (fun h67 => ?_)
    · refine z_aload_n (q := 82) dX8_lock_81 rfl rfl rfl ?_
      refine z_getR (q := 85) 8 0 1 16 rfl (by decide) rfl rfl rfl (by with_reducible assumption) (by with_reducible assumption) dX8_lock_82 rfl ?_
      refine z_iload_n (q := 86) dX8_lock_85 rfl rfl rfl ?_
      refine z_bipush (q := 88) (v := nI 6) dX8_lock_86 (by rfl) rfl ?_
      refine z_iaddE (q := 89) dX8_lock_88 (nI_add _ _) rfl ?_
      refine z_iald (q := 90) _ (by with_reducible assumption) (rfl) (by omega) (by decide) dX8_lock_89 rfl ?_
      refine join _ ?_
      rw [if_neg (fun z => h67 (z.trans zI1.symm)), zw_k _ _ (by omega), es]
    · refine z_aload_n (q := 71) dX8_lock_70 rfl rfl rfl ?_
      refine z_getR (q := 74) 8 0 1 16 rfl (by decide) rfl rfl rfl (by with_reducible assumption) (by with_reducible assumption) dX8_lock_71 rfl ?_
      refine z_iload_n (q := 75) dX8_lock_74 rfl rfl rfl ?_
      refine z_iconst (q := 76) (v := nI 5) dX8_lock_75 (by rfl) rfl ?_
      refine z_iaddE (q := 77) dX8_lock_76 (nI_add _ _) rfl ?_
      refine z_iald (q := 78) _ (by with_reducible assumption) (rfl) (by omega) (by decide) dX8_lock_77 rfl ?_
      refine z_goto (q := 90) dX8_lock_78 (by decide) ?_
      refine join _ ?_
      rw [if_pos (h67.trans zI1), zw_k _ _ (by omega), es]
  · rw [lockQ, if_pos h37]
    refine z_bipush (q := 42) (v := (-2)) dX8_lock_40 (by rfl) rfl ?_
    exact z_iret rfl dX8_lock_42 (Nat.zero_le _) (Nat.zero_le _) ⟨rfl, rfl, rfl, rfl, rfl, rfl, fun _ _ _ _ => rfl⟩
def sp_cancel (g : Nat → Int32) (x : Int32) : Int32 × Option (Nat → Int32) := if x < nI 0 ∨ g 2 - nI 1 < x then (-1, none) else (g 2 - 1, some (lvs g x.toNatClampNeg (gN g 2)))
set_option maxRecDepth 100000 in
set_option maxHeartbeats 4000000 in
theorem c_X8_cancel (G : zG) {n : Nat} {T : zTT} {I : zII} {R : zRR} (m nr nd np st pc : Nat) (x : Int32) (hM : z_Mod T R m) (hI : INV nr nd np st (I (m + 1))) (hpc : I m 3 = nI pc) (h4 : pc ≤ 4) : Ct G yX8_cancel wsX8_cancel (1, 0, 0) [.ref m, .int x] n T I R (z_rel (some (.int (sp_cancel (I (m + 1)) x).1)) n T (fun I' R' => R' = R ∧ z_upto m pc I I' (sp_cancel (I (m + 1)) x).2)) := by
  refine Ct.ofX (M := muX8_cancel) (ls := [(0, .ref m), (1, .int x)]) (by decide +kernel) rfl (by decide) rfl rfl (Nat.le_of_ble_eq_true rfl) ?_
  have hTm := hM.1
  have hnp := hI.2.2.1.2
  obtain ⟨-, ⟨hTs, hRs⟩, -⟩ := id hM
  have bad : sp_cancel (I (m + 1)) x = (-1, none) → z_X G muX8_cancel (1, 0, 0) (z_rel (some (.int (sp_cancel (I (m + 1)) x).1)) n T (fun I' R' => R' = R ∧ z_upto m pc I I' (sp_cancel (I (m + 1)) x).2)) n T I R 0 0 16 [(0, .ref m), (1, .int x)] [] := by
    intro hb
    rw [hb]
    refine z_iconst (q := 17) (v := (-1)) dX8_cancel_16 (by rfl) rfl ?_
    exact z_iret rfl dX8_cancel_17 (Nat.zero_le _) (Nat.zero_le _) ⟨rfl, rfl, rfl, rfl, ⟨rfl, rfl, fun _ _ _ _ => rfl⟩⟩
  refine z_iload_n (q := 1) dX8_cancel_0 rfl rfl rfl ?_
  refine z_iconst (q := 2) (v := nI 0) dX8_cancel_1 (by rfl) rfl ?_
  refine z_aload_n (q := 3) dX8_cancel_2 rfl rfl rfl ?_
  refine z_getR (q := 6) 8 0 1 15 rfl (by decide) rfl rfl rfl (by with_reducible assumption) (by with_reducible assumption) dX8_cancel_3 rfl ?_
  refine z_iconst (q := 7) (v := nI 2) dX8_cancel_6 (by rfl) rfl ?_
  refine z_iald (q := 8) _ (by with_reducible assumption) (rfl) (by omega) (by decide) dX8_cancel_7 rfl ?_
  refine z_iconst (q := 9) (v := nI 1) dX8_cancel_8 (by rfl) rfl ?_
  refine z_isub (q := 10) dX8_cancel_9 rfl ?_
  refine z_invS (q := 13) (c_X8_in G x (nI 0) (I (m + 1) 2 - nI 1)) gX8_cancel_X8_in rfl hy_X8_in rfl rfl rfl rfl (Nat.le_of_ble_eq_true rfl) ⟨Nat.zero_le _, Nat.zero_le _⟩ dX8_cancel_10 rfl (z_rv ?_)
  by_cases hv : x < nI 0 ∨ I (m + 1) 2 - nI 1 < x
  · rw [if_pos hv]
    refine z_if_ne (tgt := 18) (q := 16) dX8_cancel_13 (by decide) rfl (fun hc => False.elim (hc rfl)) (fun _ => ?_)
    exact bad (by rw [sp_cancel, if_pos hv])
  rw [if_neg hv]
  refine z_if_ne (tgt := 18) (q := 16) dX8_cancel_13 (by decide) rfl (fun _ => ?_) (fun hc => False.elim (absurd hc (by decide)))
  have hx : ¬ (x < 0 ∨ I (m + 1) 2 ≤ x) := by
    intro q
    rcases q with q | q
    · exact hv (Or.inl q)
    · apply hv
      right
      rw [hI.2.2.1.1] at q ⊢
      rw [Int32.lt_iff_toInt_lt]
      have q2 := Int32.le_iff_toInt_le.mp q
      cases np with
      | zero =>
        have : (nI 0 - nI 1).toInt = -1 := by decide
        have h0 : (nI 0).toInt = 0 := by decide
        omega
      | succ np =>
        rw [pk_sub (by omega), nI_toInt (by omega)]
        rw [nI_toInt (by omega)] at q2
        omega
  obtain ⟨i, hi, rfl⟩ := z_ix hI.2.2.1.1 (by omega) hx
  have hgp : gN (I (m + 1)) 2 = np := gN_of hI.2.2.1.1 (by omega)
  rw [sp_cancel, if_neg hv, nI_clamp (by omega), hgp]
  refine z_aload_n (q := 19) dX8_cancel_18 rfl rfl rfl ?_
  refine z_invV (q := 22) (c_X8_changes G m pc hM hpc h4) (by with_reducible assumption) rfl gX8_cancel_X8_changes rfl hy_X8_changes rfl rfl rfl rfl (Nat.le_of_ble_eq_true rfl) ⟨Nat.zero_le _, Nat.zero_le _⟩ dX8_cancel_19 rfl (z_rnR fun I3 R3 hZ3 => ?_)
  obtain ⟨rfl, h3⟩ := hZ3
  have es : I3 (m + 1) = I (m + 1) := h3.2.2 (m + 1) (by omega) (by omega)
  refine z_aload_n (q := 23) dX8_cancel_22 rfl rfl rfl ?_
  refine z_getR (q := 26) 8 0 1 15 rfl (by decide) rfl rfl rfl (by with_reducible assumption) (by with_reducible assumption) dX8_cancel_23 rfl ?_
  refine z_iload_n (q := 27) dX8_cancel_26 rfl rfl rfl ?_
  refine z_invS (q := 30) (c_X8_leaves G (m + 1) i np hTs (by rw [es]; exact hI.2.2.1.1) hnp hi) gX8_cancel_X8_leaves rfl hy_X8_leaves rfl rfl rfl rfl (Nat.le_of_ble_eq_true rfl) ⟨Nat.zero_le _, Nat.zero_le _⟩ dX8_cancel_27 rfl (z_rnR fun I5 R5 hZ5 => ?_)
  obtain ⟨rfl, h5⟩ := hZ5
  rw [es] at h5
  refine z_aload_n (q := 31) dX8_cancel_30 rfl rfl rfl ?_
  refine z_getR (q := 34) 8 0 1 15 rfl (by decide) rfl rfl rfl (by with_reducible assumption) (by with_reducible assumption) dX8_cancel_31 rfl ?_
  refine z_iconst (q := 35) (v := nI 2) dX8_cancel_34 (by rfl) rfl ?_
  refine z_iald (q := 36) _ (by with_reducible assumption) (rfl) (by omega) (by decide) dX8_cancel_35 rfl ?_
  refine z_iret rfl dX8_cancel_36 (Nat.zero_le _) (Nat.zero_le _) ⟨?_, rfl, rfl, rfl, z_upG h3 h5.1 (fun q h1 _ => h5.2 q h1)⟩
  rw [h5.1]
  rfl
def passN (g : Nat → Int32) : Nat → (Nat → Int32)
  | 0 => g
  | k + 1 => mStep (passN g k)
theorem passN_INV {nr nd st : Nat} {g : Nat → Int32} : ∀ k {np : Nat}, INV nr nd np st g → st + k ≤ 90000 → ∃ np', INV nr nd np' (st + k) (passN g k) := by
  intro k
  induction k with
  | zero => intro np h _; exact ⟨np, h⟩
  | succ k ih =>
    intro np h hk
    obtain ⟨np2, h2⟩ := ih h (by omega)
    have h3 := mStep_INV h2 (by omega)
    exact h3
def sp_pass (g : Nat → Int32) (x : Int32) : Int32 × Option (Nat → Int32) := if x < nI 1 ∨ nI 50 < x then (-1, none) else if nI 5000 < g 3 + x then (-3, none) else (passN g x.toNatClampNeg 3, some (passN g x.toNatClampNeg))
set_option maxRecDepth 100000 in
set_option maxHeartbeats 4000000 in
theorem c_X8_pass (G : zG) {n : Nat} {T : zTT} {I : zII} {R : zRR} (m nr nd np st pc : Nat) (x : Int32) (hM : z_Mod T R m) (hI : INV nr nd np st (I (m + 1))) (hst : st ≤ 5000) (hpc : I m 3 = nI pc) (h4 : pc ≤ 4) : Ct G yX8_pass wsX8_pass (5, 0, 0) [.ref m, .int x] n T I R (z_rel (some (.int (sp_pass (I (m + 1)) x).1)) n T (fun I' R' => R' = R ∧ z_upto m pc I I' (sp_pass (I (m + 1)) x).2)) := by
  refine Ct.ofX (M := muX8_pass) (ls := [(0, .ref m), (1, .int x)]) (by decide +kernel) rfl (by decide) rfl rfl (Nat.le_of_ble_eq_true rfl) ?_
  have hTm := hM.1
  obtain ⟨-, ⟨hTs, hRs⟩, -⟩ := id hM
  have bad : sp_pass (I (m + 1)) x = (-1, none) → z_X G muX8_pass (5, 0, 0) (z_rel (some (.int (sp_pass (I (m + 1)) x).1)) n T (fun I' R' => R' = R ∧ z_upto m pc I I' (sp_pass (I (m + 1)) x).2)) n T I R 0 0 10 [(0, .ref m), (1, .int x)] [] := by
    intro hb
    rw [hb]
    refine z_iconst (q := 11) (v := (-1)) dX8_pass_10 (by rfl) rfl ?_
    exact z_iret rfl dX8_pass_11 (Nat.zero_le _) (Nat.zero_le _) ⟨rfl, rfl, rfl, rfl, ⟨rfl, rfl, fun _ _ _ _ => rfl⟩⟩
  refine z_iload_n (q := 1) dX8_pass_0 rfl rfl rfl ?_
  refine z_iconst (q := 2) (v := nI 1) dX8_pass_1 (by rfl) rfl ?_
  refine z_bipush (q := 4) (v := nI 50) dX8_pass_2 (by rfl) rfl ?_
  refine z_invS (q := 7) (c_X8_in G x (nI 1) (nI 50)) gX8_pass_X8_in rfl hy_X8_in rfl rfl rfl rfl (Nat.le_of_ble_eq_true rfl) ⟨Nat.zero_le _, Nat.zero_le _⟩ dX8_pass_4 rfl (z_rv ?_)
  by_cases hv : x < nI 1 ∨ nI 50 < x
  · rw [if_pos hv]
    refine z_if_ne (tgt := 12) (q := 10) dX8_pass_7 (by decide) rfl (fun hc => False.elim (hc rfl)) (fun _ => ?_)
    exact bad (by rw [sp_pass, if_pos hv])
  rw [if_neg hv]
  refine z_if_ne (tgt := 12) (q := 10) dX8_pass_7 (by decide) rfl (fun _ => ?_) (fun hc => False.elim (absurd hc (by decide)))
  obtain ⟨k, hk1, hk, rfl⟩ := z_ix2 (by decide) (by decide) hv
  refine z_aload_n (q := 13) dX8_pass_12 rfl rfl rfl ?_
  refine z_getR (q := 16) 8 0 1 59 rfl (by decide) rfl rfl rfl (by with_reducible assumption) (by with_reducible assumption) dX8_pass_13 rfl ?_
  refine z_iconst (q := 17) (v := nI 3) dX8_pass_16 (by rfl) rfl ?_
  refine z_iald (q := 18) _ (by with_reducible assumption) (rfl) (by omega) (by decide) dX8_pass_17 rfl ?_
  refine z_iload_n (q := 19) dX8_pass_18 rfl rfl rfl ?_
  refine z_iadd (q := 20) dX8_pass_19 rfl ?_
  refine z_sipush (q := 23) (v := nI 5000) dX8_pass_20 (by rfl) rfl ?_
  refine z_icmp_le (tgt := 29) (q := 26) dX8_pass_23 (by decide) rfl (fun h23 => ?_) (fun h23 => ?_)
  · rw [sp_pass, if_neg hv, if_neg (Int32.not_lt.mpr h23), nI_clamp (by omega)]
    refine z_aload_n (q := 30) dX8_pass_29 rfl rfl rfl ?_
    refine z_invV (q := 33) (c_X8_changes G m pc hM hpc h4) (by with_reducible assumption) rfl gX8_pass_X8_changes rfl hy_X8_changes rfl rfl rfl rfl (Nat.le_of_ble_eq_true rfl) ⟨Nat.zero_le _, Nat.zero_le _⟩ dX8_pass_30 rfl (z_rnR fun I3 R3 hZ3 => ?_)
    refine z_iconst (q := 34) (v := nI 0) dX8_pass_33 (by rfl) rfl ?_
    refine z_istore_n (q := 35) dX8_pass_34 rfl (by decide) rfl ?_
    obtain ⟨rfl, h3⟩ := hZ3
    have es : I3 (m + 1) = I (m + 1) := h3.2.2 (m + 1) (by omega) (by omega)
    have loop : ∀ i, i ≤ k → ∀ I4, I4 (m + 1) = passN (I (m + 1)) i → (∀ q, q ≠ m + 1 → q ≠ m + 5 → I4 q = I3 q) → z_X G muX8_pass (5, 0, 0) (z_rel (some (.int (passN (I (m + 1)) k 3, some (passN (I (m + 1)) k)).1)) n T (fun I' R' => R' = R3 ∧ z_upto m pc I I' (passN (I (m + 1)) k 3, some (passN (I (m + 1)) k)).2)) n T I4 R3 0 0 35 [(0, .ref m), (1, .int (nI k)), (2, .int (nI i))] [] := by
      refine z_up (N := k) _ ?_ ?_
      · intro I4 e1 e2
        refine z_iload_n (q := 36) dX8_pass_35 rfl rfl rfl ?_
        refine z_iload_n (q := 37) dX8_pass_36 rfl rfl rfl ?_
        refine z_icmpn_ge (rfl) (rfl) (by omega) (by omega) (tgt := 54) (q := 40) dX8_pass_37 (by decide) rfl (fun _ => ?_) (fun hc => absurd hc (by omega))
        refine z_aload_n (q := 55) dX8_pass_54 rfl rfl rfl ?_
        refine z_getR (q := 58) 8 0 1 59 rfl (by decide) rfl rfl rfl (by with_reducible assumption) (by with_reducible assumption) dX8_pass_55 rfl ?_
        refine z_iconst (q := 59) (v := nI 3) dX8_pass_58 (by rfl) rfl ?_
        refine z_iald (q := 60) _ (by with_reducible assumption) (rfl) (by omega) (by decide) dX8_pass_59 rfl ?_
        exact z_iret rfl dX8_pass_60 (Nat.zero_le _) (Nat.zero_le _) ⟨by rw [e1], rfl, rfl, rfl, z_upG h3 e1 e2⟩
      · intro i hi ih I4 e1 e2
        obtain ⟨np', hI4⟩ := passN_INV i hI (by omega)
        refine z_iload_n (q := 36) dX8_pass_35 rfl rfl rfl ?_
        refine z_iload_n (q := 37) dX8_pass_36 rfl rfl rfl ?_
        refine z_icmpn_ge (rfl) (rfl) (by omega) (by omega) (tgt := 54) (q := 40) dX8_pass_37 (by decide) rfl (fun hc => absurd hc (by omega)) (fun _ => ?_)
        refine z_aload_n (q := 41) dX8_pass_40 rfl rfl rfl ?_
        refine z_aload_n (q := 42) dX8_pass_41 rfl rfl rfl ?_
        refine z_getR (q := 45) 8 0 1 59 rfl (by decide) rfl rfl rfl (by with_reducible assumption) (by with_reducible assumption) dX8_pass_42 rfl ?_
        refine z_invV (q := 48) (c_X8_goes G m (m + 1) nr nd np' (st + i) hM hTs (by omega) (by rw [e1]; exact hI4) (by omega)) (by with_reducible assumption) rfl gX8_pass_X8_goes rfl hy_X8_goes rfl rfl rfl rfl (Nat.le_of_ble_eq_true rfl) ⟨Nat.zero_le _, Nat.zero_le _⟩ dX8_pass_45 rfl (z_rnR fun I5 R5 hZ5 => ?_)
        obtain ⟨rfl, h5⟩ := hZ5
        refine z_iinc (q := 51) dX8_pass_48 rfl (nI_add _ 1) (by decide) rfl ?_
        refine z_goto (q := 35) dX8_pass_51 (by decide) ?_
        refine ih I5 ?_ (fun q q1 q2 => ?_)
        · rw [h5.1, e1]
          rfl
        · rw [h5.2 q q1 q2]
          exact e2 q q1 q2
    exact loop 0 (Nat.zero_le _) I3 es (fun _ _ _ => rfl)
  · have e : sp_pass (I (m + 1)) (nI k) = (-3, none) := by rw [sp_pass, if_neg hv, if_pos (Int32.not_le.mp h23)]
    rw [e]
    refine z_bipush (q := 28) (v := (-3)) dX8_pass_26 (by rfl) rfl ?_
    exact z_iret rfl dX8_pass_28 (Nat.zero_le _) (Nat.zero_le _) ⟨rfl, rfl, rfl, rfl, rfl, rfl, fun _ _ _ _ => rfl⟩
/-- the text -/
def sp_type (tx : Nat → Int32) (y : Nat) (x : Int32) : Int32 × Option ((Nat → Int32) × Nat) := if x < nI 32 ∨ nI 126 < x then (-1, none) else if y = 80 then (-3, none) else (nI (y + 1), some (upd tx y x, y + 1))
def z_txt (m : Nat) (I I' : zII) : Option ((Nat → Int32) × Nat) → Prop
  | none => I' = I
  | some (t, y) => I' (m + 4) = t ∧ I' m = upd (I m) 5 (nI y) ∧ ∀ q, q ≠ m → q ≠ m + 4 → I' q = I q
set_option maxRecDepth 100000 in
set_option maxHeartbeats 4000000 in
theorem c_X8_type (G : zG) {n : Nat} {T : zTT} {I : zII} {R : zRR} (m y : Nat) (x : Int32) (hM : z_Mod T R m) (hy : I m 5 = nI y) (hy80 : y ≤ 80) : Ct G yX8_type wsX8_type (1, 0, 0) [.ref m, .int x] n T I R (z_rel (some (.int (sp_type (I (m + 4)) y x).1)) n T (fun I' R' => R' = R ∧ z_txt m I I' (sp_type (I (m + 4)) y x).2)) := by
  refine Ct.ofX (M := muX8_type) (ls := [(0, .ref m), (1, .int x)]) (by decide +kernel) rfl (by decide) rfl rfl (Nat.le_of_ble_eq_true rfl) ?_
  obtain ⟨hTm, -, -, -, ⟨hTt, hRt⟩, -⟩ := id hM
  have bad : sp_type (I (m + 4)) y x = (-1, none) → z_X G muX8_type (1, 0, 0) (z_rel (some (.int (sp_type (I (m + 4)) y x).1)) n T (fun I' R' => R' = R ∧ z_txt m I I' (sp_type (I (m + 4)) y x).2)) n T I R 0 0 11 [(0, .ref m), (1, .int x)] [] := by
    intro hb
    rw [hb]
    refine z_iconst (q := 12) (v := (-1)) dX8_type_11 (by rfl) rfl ?_
    exact z_iret rfl dX8_type_12 (Nat.zero_le _) (Nat.zero_le _) ⟨rfl, rfl, rfl, rfl, rfl⟩
  refine z_iload_n (q := 1) dX8_type_0 rfl rfl rfl ?_
  refine z_bipush (q := 3) (v := nI 32) dX8_type_1 (by rfl) rfl ?_
  refine z_bipush (q := 5) (v := nI 126) dX8_type_3 (by rfl) rfl ?_
  refine z_invS (q := 8) (c_X8_in G x (nI 32) (nI 126)) gX8_type_X8_in rfl hy_X8_in rfl rfl rfl rfl (Nat.le_of_ble_eq_true rfl) ⟨Nat.zero_le _, Nat.zero_le _⟩ dX8_type_5 rfl (z_rv ?_)
  by_cases hv : x < nI 32 ∨ nI 126 < x
  · rw [if_pos hv]
    refine z_if_ne (tgt := 13) (q := 11) dX8_type_8 (by decide) rfl (fun hc => False.elim (hc rfl)) (fun _ => ?_)
    exact bad (by rw [sp_type, if_pos hv])
  rw [if_neg hv]
  refine z_if_ne (tgt := 13) (q := 11) dX8_type_8 (by decide) rfl (fun _ => ?_) (fun hc => False.elim (absurd hc (by decide)))
  refine z_aload_n (q := 14) dX8_type_13 rfl rfl rfl ?_
  refine z_getV (q := 17) 8 5 1 12 rfl (by decide) rfl rfl rfl (by with_reducible assumption) (hy) dX8_type_14 rfl ?_
  refine z_bipush (q := 19) (v := nI 80) dX8_type_17 (by rfl) rfl ?_
  refine z_icmpn_ne (rfl) (rfl) (by omega) (by omega) (tgt := 25) (q := 22) dX8_type_19 (by decide) rfl (fun hc => ?_) (fun hc => ?_)
  · rw [sp_type, if_neg hv, if_neg hc]
    have e5 : zw I (m + 4) y x m 5 = nI y := by rw [zw_row _ _ (by omega)]; exact hy
    refine z_aload_n (q := 26) dX8_type_25 rfl rfl rfl ?_
    refine z_getR (q := 29) 8 4 2 11 rfl (by decide) rfl rfl rfl (by with_reducible assumption) (by with_reducible assumption) dX8_type_26 rfl ?_
    refine z_aload_n (q := 30) dX8_type_29 rfl rfl rfl ?_
    refine z_getV (q := 33) 8 5 1 12 rfl (by decide) rfl rfl rfl (by with_reducible assumption) (hy) dX8_type_30 rfl ?_
    refine z_iload_n (q := 34) dX8_type_33 rfl rfl rfl ?_
    refine z_iast (q := 35) _ (by with_reducible assumption) (rfl) (by omega) (by decide) dX8_type_34 rfl ?_
    refine z_aload_n (q := 36) dX8_type_35 rfl rfl rfl ?_
    refine z_dup (q := 37) dX8_type_36 rfl rfl ?_
    refine z_getV (q := 40) 8 5 1 12 rfl (by decide) rfl rfl rfl (by with_reducible assumption) (e5) dX8_type_37 rfl ?_
    refine z_iconst (q := 41) (v := nI 1) dX8_type_40 (by rfl) rfl ?_
    refine z_iaddE (q := 42) dX8_type_41 (nI_add _ _) rfl ?_
    refine z_put (q := 45) 8 5 1 12 rfl (by decide) rfl rfl (tyX8_ok 5 (by decide)) (rfl) (rfl) rfl (by with_reducible assumption) dX8_type_42 rfl ?_
    refine z_aload_n (q := 46) dX8_type_45 rfl rfl rfl ?_
    refine z_getI (q := 49) 8 5 1 12 rfl (by decide) rfl rfl rfl (by with_reducible assumption) dX8_type_46 rfl ?_
    refine z_iret rfl dX8_type_49 (Nat.zero_le _) (Nat.zero_le _) ⟨by rw [zw_s], rfl, rfl, rfl, ?_, ?_, fun q h1 h2 => ?_⟩
    · rw [zw_row _ _ (by omega), zw_upd]
    · rw [zw_upd, zw_row _ _ (by omega)]
    · rw [zw_row _ _ h1, zw_row _ _ h2]
  · rw [sp_type, if_neg hv, if_pos hc]
    refine z_bipush (q := 24) (v := (-3)) dX8_type_22 (by rfl) rfl ?_
    exact z_iret rfl dX8_type_24 (Nat.zero_le _) (Nat.zero_le _) ⟨rfl, rfl, rfl, rfl, rfl⟩
set_option maxRecDepth 100000 in
set_option maxHeartbeats 4000000 in
theorem c_X8_clearText (G : zG) {n : Nat} {T : zTT} {I : zII} {R : zRR} (m : Nat) (hM : z_Mod T R m) : Ct G yX8_clearText wsX8_clearText (0, 0, 0) [.ref m] n T I R (z_rel (some (.int (I m 5))) n T (fun I' R' => R' = R ∧ z_txt m I I' (some (I (m + 4), 0)))) := by
  refine Ct.ofX (M := muX8_clearText) (ls := [(0, .ref m)]) (by decide +kernel) rfl (by decide) rfl rfl (Nat.le_of_ble_eq_true rfl) ?_
  obtain ⟨hTm, -⟩ := id hM
  refine z_aload_n (q := 1) dX8_clearText_0 rfl rfl rfl ?_
  refine z_getI (q := 4) 8 5 1 7 rfl (by decide) rfl rfl rfl (by with_reducible assumption) dX8_clearText_1 rfl ?_
  refine z_istore_n (q := 5) dX8_clearText_4 rfl (by decide) rfl ?_
  refine z_aload_n (q := 6) dX8_clearText_5 rfl rfl rfl ?_
  refine z_iconst (q := 7) (v := nI 0) dX8_clearText_6 (by rfl) rfl ?_
  refine z_put (q := 10) 8 5 1 7 rfl (by decide) rfl rfl (tyX8_ok 5 (by decide)) (rfl) (rfl) rfl (by with_reducible assumption) dX8_clearText_7 rfl ?_
  refine z_iload_n (q := 11) dX8_clearText_10 rfl rfl rfl ?_
  refine z_iret rfl dX8_clearText_11 (Nat.zero_le _) (Nat.zero_le _) ⟨rfl, rfl, rfl, rfl, ?_, ?_, fun q h1 h2 => ?_⟩
  · rw [zw_row _ _ (by omega)]
  · rw [zw_upd]
  · rw [zw_row _ _ h1]

