/-! THE REFERENCE, the whole text -/
def eQ : Option zR → Nat
  | none => 0
  | some (_, _, _, _, _, q) => q
def eW : Option zR → Int32
  | none => nI 0
  | some (kd, _, _, s, mu, _) => if kd = 0 then s * mu else nI 0
def rdA (g tx : Nat → Int32) (y : Nat) : Nat → Nat → Nat → Int32 → Int32 × Nat × Nat
  | 0, p, cnt, _ => (nI 0, p, cnt)
  | f + 1, p, cnt, en => if p < y then (if rsnR g (nI cnt) en (readE tx y p) = nI 0 then rdA g tx y f (eQ (readE tx y p)) (cnt + 1) (en + eW (readE tx y p)) else (rsnR g (nI cnt) en (readE tx y p), p, cnt)) else (nI 0, p, cnt)
theorem z_rs {A B C : Prop} [Decidable A] [Decidable B] [Decidable C] : ¬ (if A then nI 2 else if B then nI 3 else if C then nI 4 else nI 5) = nI 0 := by
  by_cases a : A
  · rw [if_pos a]; decide
  · rw [if_neg a]
    by_cases b : B
    · rw [if_pos b]; decide
    · rw [if_neg b]
      by_cases c : C
      · rw [if_pos c]; decide
      · rw [if_neg c]; decide
theorem rsnR_ok {g : Nat → Int32} {ah en : Int32} {o : Option zR} (h : rsnR g ah en o = nI 0) : ∃ kd a t s mu q, o = some (kd, a, t, s, mu, q) ∧ ¬ g 2 + ah = nI 16 := by
  cases o with
  | none => exact absurd (show nI 1 = nI 0 from h) (by decide)
  | some e =>
    obtain ⟨kd, a, t, s, mu, q⟩ := e
    refine ⟨kd, a, t, s, mu, q, rfl, fun h5 => ?_⟩
    rw [rsnR, rsnE, if_pos h5] at h
    exact z_rs h
abbrev z_rds (m : Nat) (I I' : zII) (r : Int32 × Nat × Nat) : Prop := (∀ j, j < 8 → I' m j = I m j) ∧ z_frT m I I' ∧ I' m 12 = nI r.2.2 ∧ (¬ r.1 = nI 0 → I' m 11 = nI r.2.1)
set_option maxRecDepth 100000 in
set_option maxHeartbeats 4000000 in
theorem c_X8_reads (G : zG) {n : Nat} {T : zTT} {I : zII} {R : zRR} (m y : Nat) (hM : z_Mod T R m) (hy : I m 5 = nI y) (hy80 : y ≤ 80) : Ct G yX8_reads wsX8_reads (4, 0, 0) [.ref m] n T I R (z_rel (some (.int (rdA (I (m + 1)) (I (m + 4)) y y 0 0 (nI 0)).1)) n T (fun I' R' => R' = R ∧ z_rds m I I' (rdA (I (m + 1)) (I (m + 4)) y y 0 0 (nI 0)))) := by
  refine Ct.ofX (M := muX8_reads) (ls := [(0, .ref m)]) (by decide +kernel) rfl (by decide) rfl rfl (Nat.le_of_ble_eq_true rfl) ?_
  obtain ⟨hTm, ⟨hTs, hRs⟩, -, -, ⟨hTt, hRt⟩, -, -, hTd, hRd⟩ := id hM
  generalize hres : rdA (I (m + 1)) (I (m + 4)) y y 0 0 (nI 0) = res
  have loop : ∀ f p cnt en I4, y ≤ f + p → p ≤ y → rdA (I (m + 1)) (I (m + 4)) y f p cnt en = res → I4 m 8 = nI p → I4 m 12 = nI cnt → (∀ j, j < 8 → I4 m j = I m j) → z_frT m I I4 → ∀ ls : List (Nat × Value), lv_pick ls [0, 1] = [(0, .ref m), (1, .int en)] → z_X G muX8_reads (4, 0, 0) (z_rel (some (.int res.1)) n T (fun I' R' => R' = R ∧ z_rds m I I' res)) n T I4 R 0 0 12 ls [] := by
    intro f
    induction f with
    | zero =>
      intro p cnt en I4 hf hpy hE e8 e12 e1 e2 ls hls
      have e5 : I4 m 5 = nI y := by rw [e1 5 (by decide)]; exact hy
      refine z_pick [0, 1] hls ?_
      refine z_aload_n (q := 13) dX8_reads_12 rfl rfl rfl ?_
      refine z_getV (q := 16) 8 8 1 47 rfl (by decide) rfl rfl rfl (by with_reducible assumption) (e8) dX8_reads_13 rfl ?_
      refine z_aload_n (q := 17) dX8_reads_16 rfl rfl rfl ?_
      refine z_getV (q := 20) 8 5 3 44 rfl (by decide) rfl rfl rfl (by with_reducible assumption) (e5) dX8_reads_17 rfl ?_
      refine z_icmpn_ge (rfl) (rfl) (by omega) (by omega) (tgt := 87) (q := 23) dX8_reads_20 (by decide) rfl (fun _ => ?_) (fun hc => absurd hc (by omega))
      refine z_iconst (q := 88) (v := nI 0) dX8_reads_87 (by rfl) rfl ?_
      rw [rdA] at hE
      subst hE
      exact z_iret rfl dX8_reads_88 (Nat.zero_le _) (Nat.zero_le _) ⟨rfl, rfl, rfl, rfl, e1, e2, e12, fun z => absurd rfl z⟩
    | succ f ih =>
      intro p cnt en I4 hf hpy hE e8 e12 e1 e2 ls hls
      have e5 : I4 m 5 = nI y := by rw [e1 5 (by decide)]; exact hy
      refine z_pick [0, 1] hls ?_
      rw [rdA] at hE
      refine z_aload_n (q := 13) dX8_reads_12 rfl rfl rfl ?_
      refine z_getV (q := 16) 8 8 1 47 rfl (by decide) rfl rfl rfl (by with_reducible assumption) (e8) dX8_reads_13 rfl ?_
      refine z_aload_n (q := 17) dX8_reads_16 rfl rfl rfl ?_
      refine z_getV (q := 20) 8 5 3 44 rfl (by decide) rfl rfl rfl (by with_reducible assumption) (e5) dX8_reads_17 rfl ?_
      refine z_icmpn_ge (rfl) (rfl) (by omega) (by omega) (tgt := 87) (q := 23) dX8_reads_20 (by decide) rfl (fun h20 => ?_) (fun h20 => ?_)
      · refine z_iconst (q := 88) (v := nI 0) dX8_reads_87 (by rfl) rfl ?_
        rw [if_neg (by omega)] at hE
        subst hE
        exact z_iret rfl dX8_reads_88 (Nat.zero_le _) (Nat.zero_le _) ⟨rfl, rfl, rfl, rfl, e1, e2, e12, fun z => absurd rfl z⟩
      · rw [if_pos (by omega)] at hE
        refine z_aload_n (q := 24) dX8_reads_23 rfl rfl rfl ?_
        refine z_aload_n (q := 25) dX8_reads_24 rfl rfl rfl ?_
        refine z_getV (q := 28) 8 8 1 47 rfl (by decide) rfl rfl rfl (by with_reducible assumption) (e8) dX8_reads_25 rfl ?_
        refine z_put (q := 31) 8 11 4 50 rfl (by decide) rfl rfl (tyX8_ok 11 (by decide)) (rfl) (rfl) rfl (by with_reducible assumption) dX8_reads_28 rfl ?_
        have w8 : zw I4 m 11 (nI p) m 8 = nI p := by rw [zw_k _ _ (by decide)]; exact e8
        have w12 : zw I4 m 11 (nI p) m 12 = nI cnt := by rw [zw_k _ _ (by decide)]; exact e12
        have w11 : zw I4 m 11 (nI p) m 11 = nI p := zw_s _ _ _ _
        have w1 : ∀ j, j < 8 → zw I4 m 11 (nI p) m j = I m j := fun j hj => by rw [zw_k _ _ (by omega)]; exact e1 j hj
        have w2 : z_frT m I (zw I4 m 11 (nI p)) := fun r r1 r2 => by rw [zw_row _ _ r1]; exact e2 r r1 r2
        generalize zw I4 m 11 (nI p) = I5 at w8 w12 w11 w1 w2 ⊢
        have w5 : I5 m 5 = nI y := by rw [w1 5 (by decide)]; exact hy
        have w4 : I5 (m + 4) = I (m + 4) := w2 _ (by omega) (by omega)
        have ws : I5 (m + 1) = I (m + 1) := w2 _ (by omega) (by omega)
        refine z_aload_n (q := 32) dX8_reads_31 rfl rfl rfl ?_
        refine z_aload_n (q := 33) dX8_reads_32 rfl rfl rfl ?_
        refine z_getV (q := 36) 8 12 2 51 rfl (by decide) rfl rfl rfl (by with_reducible assumption) (w12) dX8_reads_33 rfl ?_
        refine z_iload_n (q := 37) dX8_reads_36 rfl rfl rfl ?_
        refine z_invV (q := 40) (c_X8_reasonOf G m p y (nI cnt) en hM w5 hy80 w8 hpy) (by with_reducible assumption) rfl gX8_reads_X8_reasonOf rfl hy_X8_reasonOf rfl rfl rfl rfl (Nat.le_of_ble_eq_true rfl) ⟨Nat.zero_le _, Nat.zero_le _⟩ dX8_reads_37 rfl (z_rvR fun I6 R6 hZ6 => ?_)
        obtain ⟨rfl, k1, k2, k3⟩ := hZ6
        rw [w4] at k3
        rw [w4, ws]
        have u1 : ∀ j, j < 8 → I6 m j = I m j := fun j hj => by rw [k1 j (by omega) (by omega)]; exact w1 j hj
        have u2 : z_frT m I I6 := fun r r1 r2 => by rw [k2 r r1 r2]; exact w2 r r1 r2
        have u12 : I6 m 12 = nI cnt := by rw [k1 12 (by decide) (by decide)]; exact w12
        have u11 : I6 m 11 = nI p := by rw [k1 11 (by decide) (by decide)]; exact w11
        refine z_istore_n (q := 41) dX8_reads_40 rfl (by decide) rfl ?_
        refine z_iload_n (q := 42) dX8_reads_41 rfl rfl rfl ?_
        by_cases h0 : rsnR (I (m + 1)) (nI cnt) en (readE (I (m + 4)) y p) = nI 0
        · refine z_if_eq (tgt := 47) (q := 45) dX8_reads_42 (by decide) rfl (fun _ => ?_) (fun hc => False.elim (hc h0))
          rw [if_pos h0] at hE
          obtain ⟨kd, a, t, s, mu, q, ho, -⟩ := rsnR_ok h0
          have hlt := readE_lt ho
          rw [ho] at k3 hE
          obtain ⟨j8, j10, j0, j1, j2, j3⟩ := k3
          refine z_aload_n (q := 48) dX8_reads_47 rfl rfl rfl ?_
          refine z_dup (q := 49) dX8_reads_48 rfl rfl ?_
          refine z_getV (q := 52) 8 12 2 51 rfl (by decide) rfl rfl rfl (by with_reducible assumption) (u12) dX8_reads_49 rfl ?_
          refine z_iconst (q := 53) (v := nI 1) dX8_reads_52 (by rfl) rfl ?_
          refine z_iaddE (q := 54) dX8_reads_53 (nI_add _ _) rfl ?_
          refine z_put (q := 57) 8 12 2 51 rfl (by decide) rfl rfl (tyX8_ok 12 (by decide)) (rfl) (rfl) rfl (by with_reducible assumption) dX8_reads_54 rfl ?_
          have j82 : ∀ ls : List (Nat × Value), lv_pick ls [0, 1] = [(0, .ref m), (1, .int en)] → z_X G muX8_reads (4, 0, 0) (z_rel (some (.int res.1)) n T (fun I' R' => R' = R6 ∧ z_rds m I I' res)) n T (zw I6 m 12 (nI (cnt + 1))) R6 0 0 82 ls [.int (eW (some (kd, a, t, s, mu, q))), .int en] := by
            intro ls hls
            refine z_pick [0, 1] hls ?_
            refine z_iadd (q := 83) dX8_reads_82 rfl ?_
            refine z_istore_n (q := 84) dX8_reads_83 rfl (by decide) rfl ?_
            refine z_goto (q := 12) dX8_reads_84 (by decide) ?_
            refine ih q (cnt + 1) _ _ ?_ ?_ hE ?_ (zw_s _ _ _ _) (fun j hj => by rw [zw_k _ _ (by omega)]; exact u1 j hj) (fun r r1 r2 => by rw [zw_row _ _ r1]; exact u2 r r1 r2) _ rfl
            · have : p < q := hlt.1
              omega
            · exact hlt.2.1
            · rw [zw_k _ _ (by decide)]; exact j8
          have j10' : zw I6 m 12 (nI (cnt + 1)) m 10 = nI kd := by rw [zw_k _ _ (by decide)]; exact j10
          refine z_iload_n (q := 58) dX8_reads_57 rfl rfl rfl ?_
          refine z_aload_n (q := 59) dX8_reads_58 rfl rfl rfl ?_
          refine z_getV (q := 62) 8 10 5 49 rfl (by decide) rfl rfl rfl (by with_reducible assumption) (j10') dX8_reads_59 rfl ?_
          by_cases hk0 : kd = 0
          · refine z_if_ne (tgt := 81) (q := 65) dX8_reads_62 (by decide) rfl (fun hc => False.elim (hc (by rw [hk0]; rfl))) (fun _ => ?_)
            refine z_aload_n (q := 66) dX8_reads_65 rfl rfl rfl ?_
            refine z_getR (q := 69) 8 9 6 48 rfl (by decide) rfl rfl rfl (by with_reducible assumption) (by with_reducible assumption) dX8_reads_66 rfl ?_
            refine z_iconst (q := 70) (v := nI 2) dX8_reads_69 (by rfl) rfl ?_
            refine z_iald (q := 71) _ (by with_reducible assumption) (rfl) (by omega) (by decide) dX8_reads_70 rfl ?_
            refine z_aload_n (q := 72) dX8_reads_71 rfl rfl rfl ?_
            refine z_getR (q := 75) 8 9 6 48 rfl (by decide) rfl rfl rfl (by with_reducible assumption) (by with_reducible assumption) dX8_reads_72 rfl ?_
            refine z_iconst (q := 76) (v := nI 3) dX8_reads_75 (by rfl) rfl ?_
            refine z_iald (q := 77) _ (by with_reducible assumption) (rfl) (by omega) (by decide) dX8_reads_76 rfl ?_
            refine z_imul (q := 78) dX8_reads_77 rfl ?_
            refine z_goto (q := 82) dX8_reads_78 (by decide) ?_
            rw [zw_row _ _ (by omega), j2, j3]
            have e : eW (some (kd, a, t, s, mu, q)) = s * mu := by rw [eW, if_pos hk0]
            rw [e] at j82
            exact j82 _ rfl
          · have hkd : kd ≤ 1 := hlt.2.2
            refine z_if_ne (tgt := 81) (q := 65) dX8_reads_62 (by decide) rfl (fun _ => ?_) (fun hc => False.elim (hk0 ((nI_eq (a := kd) (b := 0) (by omega) (by omega)).mp hc)))
            refine z_iconst (q := 82) (v := nI 0) dX8_reads_81 (by rfl) rfl ?_
            have e : eW (some (kd, a, t, s, mu, q)) = nI 0 := by rw [eW, if_neg hk0]
            rw [e] at j82
            exact j82 _ rfl
        · refine z_if_eq (tgt := 47) (q := 45) dX8_reads_42 (by decide) rfl (fun hc => False.elim (h0 hc)) (fun _ => ?_)
          rw [if_neg h0] at hE
          refine z_iload_n (q := 46) dX8_reads_45 rfl rfl rfl ?_
          subst hE
          exact z_iret rfl dX8_reads_46 (Nat.zero_le _) (Nat.zero_le _) ⟨rfl, rfl, rfl, rfl, u1, u2, u12, fun _ => u11⟩
  refine z_aload_n (q := 1) dX8_reads_0 rfl rfl rfl ?_
  refine z_iconst (q := 2) (v := nI 0) dX8_reads_1 (by rfl) rfl ?_
  refine z_put (q := 5) 8 8 1 47 rfl (by decide) rfl rfl (tyX8_ok 8 (by decide)) (rfl) (rfl) rfl (by with_reducible assumption) dX8_reads_2 rfl ?_
  refine z_aload_n (q := 6) dX8_reads_5 rfl rfl rfl ?_
  refine z_iconst (q := 7) (v := nI 0) dX8_reads_6 (by rfl) rfl ?_
  refine z_put (q := 10) 8 12 2 51 rfl (by decide) rfl rfl (tyX8_ok 12 (by decide)) (rfl) (rfl) rfl (by with_reducible assumption) dX8_reads_7 rfl ?_
  refine z_iconst (q := 11) (v := nI 0) dX8_reads_10 (by rfl) rfl ?_
  refine z_istore_n (q := 12) dX8_reads_11 rfl (by decide) rfl ?_
  refine loop y 0 0 (nI 0) _ (by omega) (by omega) hres ?_ (zw_s _ _ _ _) (fun j hj => by rw [zw_k _ _ (by omega), zw_k _ _ (by omega)]) (fun r r1 r2 => by rw [zw_row _ _ r1, zw_row _ _ r1]) _ rfl
  rw [zw_k _ _ (by decide), zw_s]
def fltQ (r : Int32 × Nat × Nat) (k : Nat) : Int32 := if r.1 = nI 0 then -4 else if k = 0 then nI r.2.1 else r.1
def sp_fault (g tx : Nat → Int32) (y : Nat) (x : Int32) : Int32 := if x < nI 0 ∨ nI 1 < x then -1 else fltQ (rdA g tx y y 0 0 (nI 0)) x.toNatClampNeg
set_option maxRecDepth 100000 in
set_option maxHeartbeats 4000000 in
theorem c_X8_fault (G : zG) {n : Nat} {T : zTT} {I : zII} {R : zRR} (m y : Nat) (x : Int32) (hM : z_Mod T R m) (hy : I m 5 = nI y) (hy80 : y ≤ 80) : Ct G yX8_fault wsX8_fault (5, 0, 0) [.ref m, .int x] n T I R (z_rel (some (.int (sp_fault (I (m + 1)) (I (m + 4)) y x))) n T (fun I' R' => R' = R ∧ z_upto m 0 I I' none)) := by
  refine Ct.ofX (M := muX8_fault) (ls := [(0, .ref m), (1, .int x)]) (by decide +kernel) rfl (by decide) rfl rfl (Nat.le_of_ble_eq_true rfl) ?_
  have hTm := hM.1
  have bad : sp_fault (I (m + 1)) (I (m + 4)) y x = -1 → z_X G muX8_fault (5, 0, 0) (z_rel (some (.int (sp_fault (I (m + 1)) (I (m + 4)) y x))) n T (fun I' R' => R' = R ∧ z_upto m 0 I I' none)) n T I R 0 0 9 [(0, .ref m), (1, .int x)] [] := by
    intro hb
    rw [hb]
    refine z_iconst (q := 10) (v := (-1)) dX8_fault_9 (by rfl) rfl ?_
    exact z_iret rfl dX8_fault_10 (Nat.zero_le _) (Nat.zero_le _) ⟨rfl, rfl, rfl, rfl, ⟨rfl, rfl, fun _ _ _ _ => rfl⟩⟩
  refine z_iload_n (q := 1) dX8_fault_0 rfl rfl rfl ?_
  refine z_iconst (q := 2) (v := nI 0) dX8_fault_1 (by rfl) rfl ?_
  refine z_iconst (q := 3) (v := nI 1) dX8_fault_2 (by rfl) rfl ?_
  refine z_invS (q := 6) (c_X8_in G x (nI 0) (nI 1)) gX8_fault_X8_in rfl hy_X8_in rfl rfl rfl rfl (Nat.le_of_ble_eq_true rfl) ⟨Nat.zero_le _, Nat.zero_le _⟩ dX8_fault_3 rfl (z_rv ?_)
  by_cases hv : x < nI 0 ∨ nI 1 < x
  · rw [if_pos hv]
    refine z_if_ne (tgt := 11) (q := 9) dX8_fault_6 (by decide) rfl (fun hc => False.elim (hc rfl)) (fun _ => ?_)
    exact bad (by rw [sp_fault, if_pos hv])
  rw [if_neg hv]
  refine z_if_ne (tgt := 11) (q := 9) dX8_fault_6 (by decide) rfl (fun _ => ?_) (fun hc => False.elim (absurd hc (by decide)))
  obtain ⟨k, -, hk, rfl⟩ := z_ix2 (by decide) (by decide) hv
  have e : sp_fault (I (m + 1)) (I (m + 4)) y (nI k) = fltQ (rdA (I (m + 1)) (I (m + 4)) y y 0 0 (nI 0)) k := by rw [sp_fault, if_neg hv, nI_clamp (by omega)]
  rw [e]
  refine z_aload_n (q := 12) dX8_fault_11 rfl rfl rfl ?_
  refine z_invV (q := 15) (c_X8_reads G m y hM hy hy80) (by with_reducible assumption) rfl gX8_fault_X8_reads rfl hy_X8_reads rfl rfl rfl rfl (Nat.le_of_ble_eq_true rfl) ⟨Nat.zero_le _, Nat.zero_le _⟩ dX8_fault_12 rfl (z_rvR fun I3 R3 hZ3 => ?_)
  obtain ⟨rfl, k1, k2, k12, k11⟩ := hZ3
  generalize rdA (I (m + 1)) (I (m + 4)) y y 0 0 (nI 0) = res at k12 k11 ⊢
  have hF : z_upto m 0 I I3 none := ⟨k1 3 (by decide), k1 5 (by decide), fun q q1 _ q3 => k2 q q1 q3⟩
  refine z_istore_n (q := 16) dX8_fault_15 rfl (by decide) rfl ?_
  refine z_iload_n (q := 17) dX8_fault_16 rfl rfl rfl ?_
  by_cases h0 : res.1 = nI 0
  · refine z_if_ne (tgt := 25) (q := 20) dX8_fault_17 (by decide) rfl (fun hc => False.elim (hc h0)) (fun _ => ?_)
    refine z_bipush (q := 22) (v := (-4)) dX8_fault_20 (by rfl) rfl ?_
    refine z_goto (q := 37) dX8_fault_22 (by decide) ?_
    exact z_iret rfl dX8_fault_37 (Nat.zero_le _) (Nat.zero_le _) ⟨by rw [fltQ, if_pos h0], rfl, rfl, rfl, hF⟩
  · refine z_if_ne (tgt := 25) (q := 20) dX8_fault_17 (by decide) rfl (fun _ => ?_) (fun hc => False.elim (h0 hc))
    refine z_iload_n (q := 26) dX8_fault_25 rfl rfl rfl ?_
    by_cases hk0 : k = 0
    · refine z_if_ne (tgt := 36) (q := 29) dX8_fault_26 (by decide) rfl (fun hc => False.elim (hc (by rw [hk0]; rfl))) (fun _ => ?_)
      refine z_aload_n (q := 30) dX8_fault_29 rfl rfl rfl ?_
      refine z_getV (q := 33) 8 11 1 54 rfl (by decide) rfl rfl rfl (by with_reducible assumption) (k11 h0) dX8_fault_30 rfl ?_
      refine z_goto (q := 37) dX8_fault_33 (by decide) ?_
      exact z_iret rfl dX8_fault_37 (Nat.zero_le _) (Nat.zero_le _) ⟨by rw [fltQ, if_neg h0, if_pos hk0], rfl, rfl, rfl, hF⟩
    · refine z_if_ne (tgt := 36) (q := 29) dX8_fault_26 (by decide) rfl (fun _ => ?_) (fun hc => False.elim (hk0 ((nI_eq (a := k) (b := 0) (by omega) (by omega)).mp hc)))
      refine z_iload_n (q := 37) dX8_fault_36 rfl rfl rfl ?_
      exact z_iret rfl dX8_fault_37 (Nat.zero_le _) (Nat.zero_le _) ⟨by rw [fltQ, if_neg h0, if_neg hk0], rfl, rfl, rfl, hF⟩
def putR (g : Nat → Int32) : Option zR → (Nat → Int32)
  | none => g
  | some (kd, a, t, s, mu, _) => putG g (gN g 2) t (nI kd) a (if kd = 0 then s else nI 0) (if kd = 0 then mu else s)
def ldF (tx : Nat → Int32) (y : Nat) : Nat → Nat → (Nat → Int32) → (Nat → Int32)
  | 0, _, g => g
  | f + 1, p, g => if p < y then ldF tx y f (eQ (readE tx y p)) (putR g (readE tx y p)) else g
theorem putG_2 {g : Nat → Int32} {np k : Nat} (h : g 2 = nI k) (t kd wh sp mu : Int32) : putG g np t kd wh sp mu 2 = nI (k + 1) := by
  unfold putG
  rw [upd_n _ _ (by decide), putB, upd_s]
  unfold putE
  rw [upd_n _ _ (by omega), upd_n _ _ (by omega), upd_n _ _ (by omega), upd_n _ _ (by omega), upd_n _ _ (by omega), insP, if_neg (by omega), h]
  exact nI_add _ _
def sp_load (g tx : Nat → Int32) (y : Nat) : Int32 × Option (Nat → Int32) := if (rdA g tx y y 0 0 (nI 0)).1 = nI 0 then (nI (rdA g tx y y 0 0 (nI 0)).2.2, some (ldF tx y y 0 g)) else (-2, none)
set_option maxRecDepth 100000 in
set_option maxHeartbeats 4000000 in
theorem c_X8_load (G : zG) {n : Nat} {T : zTT} {I : zII} {R : zRR} (m y nr nd np st pc : Nat) (hM : z_Mod T R m) (hI : INV nr nd np st (I (m + 1))) (hy : I m 5 = nI y) (hy80 : y ≤ 80) (hpc : I m 3 = nI pc) (h4 : pc ≤ 4) : Ct G yX8_load wsX8_load (5, 0, 0) [.ref m] n T I R (z_rel (some (.int (sp_load (I (m + 1)) (I (m + 4)) y).1)) n T (fun I' R' => R' = R ∧ z_upto m pc I I' (sp_load (I (m + 1)) (I (m + 4)) y).2)) := by
  refine Ct.ofX (M := muX8_load) (ls := [(0, .ref m)]) (by decide +kernel) rfl (by decide) rfl rfl (Nat.le_of_ble_eq_true rfl) ?_
  have h2 := hI.2.2.1.1
  have hnp := hI.2.2.1.2
  obtain ⟨hTm, ⟨hTs, hRs⟩, -, -, ⟨hTt, hRt⟩, -, -, hTd, hRd⟩ := id hM
  refine z_aload_n (q := 1) dX8_load_0 rfl rfl rfl ?_
  refine z_invV (q := 4) (c_X8_reads G m y hM hy hy80) (by with_reducible assumption) rfl gX8_load_X8_reads rfl hy_X8_reads rfl rfl rfl rfl (Nat.le_of_ble_eq_true rfl) ⟨Nat.zero_le _, Nat.zero_le _⟩ dX8_load_1 rfl (z_rvR fun I3 R3 hZ3 => ?_)
  obtain ⟨rfl, k1, k2, k12, -⟩ := hZ3
  rw [sp_load]
  generalize hres : rdA (I (m + 1)) (I (m + 4)) y y 0 0 (nI 0) = res at k12 ⊢
  by_cases h0 : res.1 = nI 0
  · rw [if_pos h0]
    refine z_if_eq (tgt := 10) (q := 7) dX8_load_4 (by decide) rfl (fun _ => ?_) (fun hc => False.elim (hc h0))
    have k3 : I3 m 3 = nI pc := by rw [k1 3 (by decide)]; exact hpc
    have ks : I3 (m + 1) = I (m + 1) := k2 _ (by omega) (by omega)
    refine z_aload_n (q := 11) dX8_load_10 rfl rfl rfl ?_
    refine z_invV (q := 14) (c_X8_changes G m pc hM k3 h4) (by with_reducible assumption) rfl gX8_load_X8_changes rfl hy_X8_changes rfl rfl rfl rfl (Nat.le_of_ble_eq_true rfl) ⟨Nat.zero_le _, Nat.zero_le _⟩ dX8_load_11 rfl (z_rnR fun I4 R4 hZ4 => ?_)
    obtain ⟨rfl, c1, c2, c3⟩ := hZ4
    rw [ks, k2 (m + 3) (by omega) (by omega)] at c1
    refine z_aload_n (q := 15) dX8_load_14 rfl rfl rfl ?_
    refine z_iconst (q := 16) (v := nI 0) dX8_load_15 (by rfl) rfl ?_
    refine z_put (q := 19) 8 8 1 64 rfl (by decide) rfl rfl (tyX8_ok 8 (by decide)) (rfl) (rfl) rfl (by with_reducible assumption) dX8_load_16 rfl ?_
    refine z_iconst (q := 20) (v := nI 1) dX8_load_19 (by rfl) rfl ?_
    refine z_istore_n (q := 21) dX8_load_20 rfl (by decide) rfl ?_
    have fin : ∀ I5 (b : Nat), I5 (m + 1) = ldF (I (m + 4)) y y 0 (I (m + 1)) → (∀ j, j ≠ 8 → j ≠ 10 → I5 m j = I4 m j) → (∀ q, q ≠ m → q ≠ m + 1 → q ≠ m + 7 → I5 q = I4 q) → z_X G muX8_load (5, 0, 0) (z_rel (some (.int (nI res.2.2, some (ldF (I (m + 4)) y y 0 (I (m + 1)))).1)) n T (fun I' R' => R' = R4 ∧ z_upto m pc I I' (nI res.2.2, some (ldF (I (m + 4)) y y 0 (I (m + 1)))).2)) n T I5 R4 0 0 103 [(0, .ref m), (1, .int (nI b))] [] := by
      intro I5 b es e1 e2
      have e12 : I5 m 12 = nI res.2.2 := by rw [e1 12 (by decide) (by decide), c2, upd_n _ _ (by decide)]; exact k12
      refine z_aload_n (q := 104) dX8_load_103 rfl rfl rfl ?_
      refine z_getV (q := 107) 8 12 5 68 rfl (by decide) rfl rfl rfl (by with_reducible assumption) (e12) dX8_load_104 rfl ?_
      refine z_iret rfl dX8_load_107 (Nat.zero_le _) (Nat.zero_le _) ⟨rfl, rfl, rfl, rfl, es, ?_, ⟨?_, ?_⟩, fun q q1 q2 q3 q4 q5 => ?_⟩
      · rw [e2 (m + 3) (by omega) (by omega) (by omega)]; exact c1
      · rw [e1 3 (by decide) (by decide), c2]; exact upd_s _ _ _
      · rw [e1 5 (by decide) (by decide), c2, upd_n _ _ (by decide)]; exact k1 5 (by decide)
      · rw [e2 q q1 q2 q5, c3 q q1 q3]; exact k2 q q1 q5
    have loop : ∀ f p cnt en gL I5, y ≤ f + p → p ≤ y → rdA (I (m + 1)) (I (m + 4)) y f p cnt en = res → ldF (I (m + 4)) y f p gL = ldF (I (m + 4)) y y 0 (I (m + 1)) → I5 (m + 1) = gL → gL 2 = nI (np + cnt) → np + cnt ≤ 16 → I5 m 8 = nI p → (∀ j, j ≠ 8 → j ≠ 10 → I5 m j = I4 m j) → (∀ q, q ≠ m → q ≠ m + 1 → q ≠ m + 7 → I5 q = I4 q) → z_X G muX8_load (5, 0, 0) (z_rel (some (.int (nI res.2.2, some (ldF (I (m + 4)) y y 0 (I (m + 1)))).1)) n T (fun I' R' => R' = R4 ∧ z_upto m pc I I' (nI res.2.2, some (ldF (I (m + 4)) y y 0 (I (m + 1)))).2)) n T I5 R4 0 0 21 [(0, .ref m), (1, .int (nI 1))] [] := by
      intro f
      induction f with
      | zero =>
        intro p cnt en gL I5 hf hpy hE hL es g2 hle e8 e1 e2
        have e5 : I5 m 5 = nI y := by rw [e1 5 (by decide) (by decide), c2, upd_n _ _ (by decide), k1 5 (by decide)]; exact hy
        refine z_iload_n (q := 22) dX8_load_21 rfl rfl rfl ?_
        refine z_if_eq (tgt := 103) (q := 25) dX8_load_22 (by decide) rfl (fun hc => False.elim (absurd hc (by decide))) (fun _ => ?_)
        refine z_aload_n (q := 26) dX8_load_25 rfl rfl rfl ?_
        refine z_getV (q := 29) 8 8 1 64 rfl (by decide) rfl rfl rfl (by with_reducible assumption) (e8) dX8_load_26 rfl ?_
        refine z_aload_n (q := 30) dX8_load_29 rfl rfl rfl ?_
        refine z_getV (q := 33) 8 5 2 61 rfl (by decide) rfl rfl rfl (by with_reducible assumption) (e5) dX8_load_30 rfl ?_
        refine z_icmpn_ge (rfl) (rfl) (by omega) (by omega) (tgt := 103) (q := 36) dX8_load_33 (by decide) rfl (fun _ => ?_) (fun hc => absurd hc (by omega))
        exact fin I5 1 (by rw [es, ← hL]; rfl) e1 e2
      | succ f ih =>
        intro p cnt en gL I5 hf hpy hE hL es g2 hle e8 e1 e2
        have e5 : I5 m 5 = nI y := by rw [e1 5 (by decide) (by decide), c2, upd_n _ _ (by decide), k1 5 (by decide)]; exact hy
        have e4 : I5 (m + 4) = I (m + 4) := by rw [e2 _ (by omega) (by omega) (by omega), c3 _ (by omega) (by omega)]; exact k2 _ (by omega) (by omega)
        rw [rdA] at hE
        rw [ldF] at hL
        refine z_iload_n (q := 22) dX8_load_21 rfl rfl rfl ?_
        refine z_if_eq (tgt := 103) (q := 25) dX8_load_22 (by decide) rfl (fun hc => False.elim (absurd hc (by decide))) (fun _ => ?_)
        refine z_aload_n (q := 26) dX8_load_25 rfl rfl rfl ?_
        refine z_getV (q := 29) 8 8 1 64 rfl (by decide) rfl rfl rfl (by with_reducible assumption) (e8) dX8_load_26 rfl ?_
        refine z_aload_n (q := 30) dX8_load_29 rfl rfl rfl ?_
        refine z_getV (q := 33) 8 5 2 61 rfl (by decide) rfl rfl rfl (by with_reducible assumption) (e5) dX8_load_30 rfl ?_
        refine z_icmpn_ge (rfl) (rfl) (by omega) (by omega) (tgt := 103) (q := 36) dX8_load_33 (by decide) rfl (fun h33 => ?_) (fun h33 => ?_)
        · rw [if_neg (by omega)] at hL
          exact fin I5 1 (by rw [es, ← hL]) e1 e2
        · rw [if_pos (by omega)] at hE hL
          have hr : rsnR (I (m + 1)) (nI cnt) en (readE (I (m + 4)) y p) = nI 0 := by
            by_cases hr : rsnR (I (m + 1)) (nI cnt) en (readE (I (m + 4)) y p) = nI 0
            · exact hr
            · rw [if_neg hr] at hE
              rw [← hE] at h0
              exact absurd h0 hr
          rw [if_pos hr] at hE
          obtain ⟨kd, a, t, s, mu, q, ho, h16⟩ := rsnR_ok hr
          have hlt := readE_lt ho
          have hkd : kd ≤ 1 := hlt.2.2
          have hpq : p < q := hlt.1
          have hqy : q ≤ y := hlt.2.1
          have h16' : np + cnt < 16 := by
            rw [h2, nI_add] at h16
            have : ¬ np + cnt = 16 := fun z => h16 (by rw [z])
            omega
          refine z_aload_n (q := 37) dX8_load_36 rfl rfl rfl ?_
          refine z_invV (q := 40) (c_X8_isEntry G m p y hM e5 hy80 e8 hpy) (by with_reducible assumption) rfl gX8_load_X8_isEntry rfl hy_X8_isEntry rfl rfl rfl rfl (Nat.le_of_ble_eq_true rfl) ⟨Nat.zero_le _, Nat.zero_le _⟩ dX8_load_37 rfl (z_rvR fun I6 R6 hZ6 => ?_)
          obtain ⟨rfl, j1, j2, j3⟩ := hZ6
          rw [e4] at j3
          rw [e4]
          rw [ho] at j3 hE hL ⊢
          obtain ⟨j8, j10, d0, d1, d2, d3⟩ := j3
          rw [show (if (some (kd, a, t, s, mu, q)).isSome = true then (1 : Int32) else 0) = nI 1 from zI1.symm]
          have hs6 : I6 (m + 1) = gL := by rw [j2 _ (by omega) (by omega)]; exact es
          have hgn : gN gL 2 = np + cnt := gN_of g2 (by omega)
          have join : ∀ s' mu', s' = (if kd = 0 then s else nI 0) → mu' = (if kd = 0 then mu else s) → z_X G muX8_load (5, 0, 0) (z_rel (some (.int (nI res.2.2, some (ldF (I (m + 4)) y y 0 (I (m + 1)))).1)) n T (fun I' R' => R' = R6 ∧ z_upto m pc I I' (nI res.2.2, some (ldF (I (m + 4)) y y 0 (I (m + 1)))).2)) n T I6 R6 0 0 97 [(0, .ref m), (1, .int (nI 1))] [.int mu', .int s', .int a, .int (nI kd), .int t, .ref m] := by
            intro s' mu' hs' hm'
            refine z_invV (q := 100) (c_X8_puts G m (np + cnt) t (nI kd) a s' mu' hM (by rw [hs6]; exact g2) h16') (by with_reducible assumption) rfl gX8_load_X8_puts rfl hy_X8_puts rfl rfl rfl rfl (Nat.le_of_ble_eq_true rfl) ⟨Nat.zero_le _, Nat.zero_le _⟩ dX8_load_97 rfl (z_rnR fun I7 R7 hZ7 => ?_)
            refine z_goto (q := 21) dX8_load_100 (by decide) ?_
            obtain ⟨rfl, h7⟩ := hZ7
            rw [hs6] at h7
            refine ih q (cnt + 1) _ _ I7 (by omega) hqy hE hL ?_ ?_ (by omega) ?_ (fun j q1 q2 => ?_) (fun r q1 q2 q3 => ?_)
            · rw [h7.1, putR, hgn, ← hs', ← hm']
            · rw [putR, hgn]
              exact putG_2 g2 _ _ _ _ _
            · rw [h7.2 m (by omega)]; exact j8
            · rw [h7.2 m (by omega), j1 j q1 q2]; exact e1 j q1 q2
            · rw [h7.2 r q2, j2 r q1 q3]; exact e2 r q1 q2 q3
          refine z_istore_n (q := 41) dX8_load_40 rfl (by decide) rfl ?_
          refine z_aload_n (q := 42) dX8_load_41 rfl rfl rfl ?_
          refine z_aload_n (q := 43) dX8_load_42 rfl rfl rfl ?_
          refine z_getR (q := 46) 8 9 3 65 rfl (by decide) rfl rfl rfl (by with_reducible assumption) (by with_reducible assumption) dX8_load_43 rfl ?_
          refine z_iconst (q := 47) (v := nI 1) dX8_load_46 (by rfl) rfl ?_
          refine z_iald (q := 48) _ (by with_reducible assumption) (rfl) (by omega) (by decide) dX8_load_47 rfl ?_
          refine z_aload_n (q := 49) dX8_load_48 rfl rfl rfl ?_
          refine z_getV (q := 52) 8 10 4 66 rfl (by decide) rfl rfl rfl (by with_reducible assumption) (j10) dX8_load_49 rfl ?_
          refine z_aload_n (q := 53) dX8_load_52 rfl rfl rfl ?_
          refine z_getR (q := 56) 8 9 3 65 rfl (by decide) rfl rfl rfl (by with_reducible assumption) (by with_reducible assumption) dX8_load_53 rfl ?_
          refine z_iconst (q := 57) (v := nI 0) dX8_load_56 (by rfl) rfl ?_
          refine z_iald (q := 58) _ (by with_reducible assumption) (rfl) (by omega) (by decide) dX8_load_57 rfl ?_
          refine z_aload_n (q := 59) dX8_load_58 rfl rfl rfl ?_
          refine z_getV (q := 62) 8 10 4 66 rfl (by decide) rfl rfl rfl (by with_reducible assumption) (j10) dX8_load_59 rfl ?_
          rw [d0, d1]
          by_cases hk0 : kd = 0
          · refine z_if_ne (tgt := 74) (q := 65) dX8_load_62 (by decide) rfl (fun hc => False.elim (hc (by rw [hk0]; rfl))) (fun _ => ?_)
            refine z_aload_n (q := 66) dX8_load_65 rfl rfl rfl ?_
            refine z_getR (q := 69) 8 9 3 65 rfl (by decide) rfl rfl rfl (by with_reducible assumption) (by with_reducible assumption) dX8_load_66 rfl ?_
            refine z_iconst (q := 70) (v := nI 2) dX8_load_69 (by rfl) rfl ?_
            refine z_iald (q := 71) _ (by with_reducible assumption) (rfl) (by omega) (by decide) dX8_load_70 rfl ?_
            refine z_goto (q := 75) dX8_load_71 (by decide) ?_
            refine z_aload_n (q := 76) dX8_load_75 rfl rfl rfl ?_
            refine z_getV (q := 79) 8 10 4 66 rfl (by decide) rfl rfl rfl (by with_reducible assumption) (j10) dX8_load_76 rfl ?_
            refine z_if_ne (tgt := 91) (q := 82) dX8_load_79 (by decide) rfl (fun hc => False.elim (hc (by rw [hk0]; rfl))) (fun _ => ?_)
            refine z_aload_n (q := 83) dX8_load_82 rfl rfl rfl ?_
            refine z_getR (q := 86) 8 9 3 65 rfl (by decide) rfl rfl rfl (by with_reducible assumption) (by with_reducible assumption) dX8_load_83 rfl ?_
            refine z_iconst (q := 87) (v := nI 3) dX8_load_86 (by rfl) rfl ?_
            refine z_iald (q := 88) _ (by with_reducible assumption) (rfl) (by omega) (by decide) dX8_load_87 rfl ?_
            refine z_goto (q := 97) dX8_load_88 (by decide) ?_
            rw [d2, d3]
            exact join s mu (by rw [if_pos hk0]) (by rw [if_pos hk0])
          · refine z_if_ne (tgt := 74) (q := 65) dX8_load_62 (by decide) rfl (fun _ => ?_) (fun hc => False.elim (hk0 ((nI_eq (a := kd) (b := 0) (by omega) (by omega)).mp hc)))
            refine z_iconst (q := 75) (v := nI 0) dX8_load_74 (by rfl) rfl ?_
            refine z_aload_n (q := 76) dX8_load_75 rfl rfl rfl ?_
            refine z_getV (q := 79) 8 10 4 66 rfl (by decide) rfl rfl rfl (by with_reducible assumption) (j10) dX8_load_76 rfl ?_
            refine z_if_ne (tgt := 91) (q := 82) dX8_load_79 (by decide) rfl (fun _ => ?_) (fun hc => False.elim (hk0 ((nI_eq (a := kd) (b := 0) (by omega) (by omega)).mp hc)))
            refine z_aload_n (q := 92) dX8_load_91 rfl rfl rfl ?_
            refine z_getR (q := 95) 8 9 3 65 rfl (by decide) rfl rfl rfl (by with_reducible assumption) (by with_reducible assumption) dX8_load_92 rfl ?_
            refine z_iconst (q := 96) (v := nI 2) dX8_load_95 (by rfl) rfl ?_
            refine z_iald (q := 97) _ (by with_reducible assumption) (rfl) (by omega) (by decide) dX8_load_96 rfl ?_
            rw [d2]
            exact join (nI 0) s (by rw [if_neg hk0]) (by rw [if_neg hk0])
    refine loop y 0 0 (nI 0) (I (m + 1)) _ (by omega) (by omega) hres rfl ?_ h2 hnp (zw_s _ _ _ _) (fun j q1 q2 => by rw [zw_k _ _ q1]) (fun r q1 q2 q3 => by rw [zw_row _ _ q1])
    rw [zw_row _ _ (by omega), c3 _ (by omega) (by omega)]
    exact ks
  · rw [if_neg h0]
    refine z_if_eq (tgt := 10) (q := 7) dX8_load_4 (by decide) rfl (fun hc => False.elim (h0 hc)) (fun _ => ?_)
    refine z_bipush (q := 9) (v := (-2)) dX8_load_7 (by rfl) rfl ?_
    exact z_iret rfl dX8_load_9 (Nat.zero_le _) (Nat.zero_le _) ⟨rfl, rfl, rfl, rfl, k1 3 (by decide), k1 5 (by decide), fun q q1 _ q3 => k2 q q1 q3⟩

