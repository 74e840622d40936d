/-! THE REFERENCE, reading the text -/
abbrev nxt (tx : Nat → Int32) (y p : Nat) (c : Int32) : Prop := p < y ∧ tx p = c
def numS (tx : Nat → Int32) (y : Nat) : Nat → Nat → Int32 → Nat × Int32
  | 0, p, v => (p, v)
  | f + 1, p, v => if p < y ∧ ¬ (tx p < nI 48 ∨ nI 57 < tx p) then numS tx y f (p + 1) (nI 10 * v + tx p - nI 48) else (p, v)
def numO (tx : Nat → Int32) (y p dg : Nat) (c : Int32) : Option (Int32 × Nat) := if p < (numS tx y dg p (nI 0)).1 ∧ nxt tx y (numS tx y dg p (nI 0)).1 c then some ((numS tx y dg p (nI 0)).2, (numS tx y dg p (nI 0)).1 + 1) else none
theorem numS_ge (tx : Nat → Int32) (y : Nat) : ∀ f p v, p ≤ (numS tx y f p v).1 := by
  intro f
  induction f with
  | zero => intro p v; exact Nat.le_refl _
  | succ f ih =>
    intro p v
    rw [numS]
    split
    · exact Nat.le_trans (Nat.le_succ p) (ih _ _)
    · exact Nat.le_refl _
theorem numO_lt {tx : Nat → Int32} {y p dg : Nat} {c : Int32} {r : Int32 × Nat} (h : numO tx y p dg c = some r) : p < r.2 ∧ r.2 ≤ y := by
  unfold numO at h
  split at h
  next hc =>
    cases h
    exact ⟨by have := hc.1; show p < _ + 1; omega, hc.2.1⟩
  next => cases h
abbrev z_frT (m : Nat) (I I' : zII) : Prop := ∀ q, q ≠ m → q ≠ m + 7 → I' q = I q
set_option maxRecDepth 100000 in
set_option maxHeartbeats 4000000 in
theorem c_X8_isNext (G : zG) {n : Nat} {T : zTT} {I : zII} {R : zRR} (m p y : Nat) (c : Int32) (hM : z_Mod T R m) (hy : I m 5 = nI y) (hy80 : y ≤ 80) (hp : I m 8 = nI p) (hpy : p ≤ y) : Ct G yX8_isNext wsX8_isNext (0, 0, 0) [.ref m, .int c] n T I R (z_rel (some (.int (if nxt (I (m + 4)) y p c then 1 else 0))) n T (fun I' R' => R' = R ∧ I' = zw I m 8 (nI (if nxt (I (m + 4)) y p c then p + 1 else p)))) := by
  refine Ct.ofX (M := muX8_isNext) (ls := [(0, .ref m), (1, .int c)]) (by decide +kernel) rfl (by decide) rfl rfl (Nat.le_of_ble_eq_true rfl) ?_
  obtain ⟨hTm, -, -, -, ⟨hTt, hRt⟩, -⟩ := id hM
  have tail : ∀ ls : List (Nat × Value), lv_pick ls [0, 1] = [(0, .ref m), (1, .int c)] → ∀ b : Nat, b = (if nxt (I (m + 4)) y p c then 1 else 0) → z_X G muX8_isNext (0, 0, 0) (z_rel (some (.int (if nxt (I (m + 4)) y p c then 1 else 0))) n T (fun I' R' => R' = R ∧ I' = zw I m 8 (nI (if nxt (I (m + 4)) y p c then p + 1 else p)))) n T I R 0 0 29 ls [.int (nI b)] := by
    intro ls hls b hb
    refine z_pick [0, 1] hls ?_
    by_cases hn : nxt (I (m + 4)) y p c
    · rw [if_pos hn] at hb
      subst hb
      rw [if_pos hn, if_pos hn]
      refine z_istore_n (q := 30) dX8_isNext_29 rfl (by decide) rfl ?_
      refine z_aload_n (q := 31) dX8_isNext_30 rfl rfl rfl ?_
      refine z_dup (q := 32) dX8_isNext_31 rfl rfl ?_
      refine z_getV (q := 35) 8 8 1 12 rfl (by decide) rfl rfl rfl (by with_reducible assumption) (hp) dX8_isNext_32 rfl ?_
      refine z_iload_n (q := 36) dX8_isNext_35 rfl rfl rfl ?_
      refine z_if_eq (tgt := 43) (q := 39) dX8_isNext_36 (by decide) rfl (fun hc => False.elim (absurd hc (by decide))) (fun _ => ?_)
      refine z_iconst (q := 40) (v := nI 1) dX8_isNext_39 (by rfl) rfl ?_
      refine z_goto (q := 44) dX8_isNext_40 (by decide) ?_
      refine z_iaddE (q := 45) dX8_isNext_44 (nI_add _ _) rfl ?_
      refine z_put (q := 48) 8 8 1 12 rfl (by decide) rfl rfl (tyX8_ok 8 (by decide)) (rfl) (rfl) rfl (by with_reducible assumption) dX8_isNext_45 rfl ?_
      refine z_iload_n (q := 49) dX8_isNext_48 rfl rfl rfl ?_
      exact z_zret rfl (by rfl) dX8_isNext_49 (Nat.zero_le _) (Nat.zero_le _) ⟨rfl, rfl, rfl, rfl, rfl⟩
    · rw [if_neg hn] at hb
      subst hb
      rw [if_neg hn, if_neg hn]
      refine z_istore_n (q := 30) dX8_isNext_29 rfl (by decide) rfl ?_
      refine z_aload_n (q := 31) dX8_isNext_30 rfl rfl rfl ?_
      refine z_dup (q := 32) dX8_isNext_31 rfl rfl ?_
      refine z_getV (q := 35) 8 8 1 12 rfl (by decide) rfl rfl rfl (by with_reducible assumption) (hp) dX8_isNext_32 rfl ?_
      refine z_iload_n (q := 36) dX8_isNext_35 rfl rfl rfl ?_
      refine z_if_eq (tgt := 43) (q := 39) dX8_isNext_36 (by decide) rfl (fun _ => ?_) (fun hc => False.elim (hc rfl))
      refine z_iconst (q := 44) (v := nI 0) dX8_isNext_43 (by rfl) rfl ?_
      refine z_iaddE (q := 45) dX8_isNext_44 (nI_add _ _) rfl ?_
      refine z_put (q := 48) 8 8 1 12 rfl (by decide) rfl rfl (tyX8_ok 8 (by decide)) (rfl) (rfl) rfl (by with_reducible assumption) dX8_isNext_45 rfl ?_
      refine z_iload_n (q := 49) dX8_isNext_48 rfl rfl rfl ?_
      exact z_zret rfl (by rfl) dX8_isNext_49 (Nat.zero_le _) (Nat.zero_le _) ⟨rfl, rfl, rfl, rfl, rfl⟩
  refine z_aload_n (q := 1) dX8_isNext_0 rfl rfl rfl ?_
  refine z_getV (q := 4) 8 8 1 12 rfl (by decide) rfl rfl rfl (by with_reducible assumption) (hp) dX8_isNext_1 rfl ?_
  refine z_aload_n (q := 5) dX8_isNext_4 rfl rfl rfl ?_
  refine z_getV (q := 8) 8 5 2 9 rfl (by decide) rfl rfl rfl (by with_reducible assumption) (hy) dX8_isNext_5 rfl ?_
  refine z_icmpn_ge (rfl) (rfl) (by omega) (by omega) (tgt := 28) (q := 11) dX8_isNext_8 (by decide) rfl (fun hc => ?_) (fun hc => ?_)
  · refine z_iconst (q := 29) (v := nI 0) dX8_isNext_28 (by rfl) rfl ?_
    exact tail _ rfl 0 (by rw [if_neg (fun z => by have := z.1; omega)])
  · refine z_aload_n (q := 12) dX8_isNext_11 rfl rfl rfl ?_
    refine z_getR (q := 15) 8 4 3 8 rfl (by decide) rfl rfl rfl (by with_reducible assumption) (by with_reducible assumption) dX8_isNext_12 rfl ?_
    refine z_aload_n (q := 16) dX8_isNext_15 rfl rfl rfl ?_
    refine z_getV (q := 19) 8 8 1 12 rfl (by decide) rfl rfl rfl (by with_reducible assumption) (hp) dX8_isNext_16 rfl ?_
    refine z_iald (q := 20) _ (by with_reducible assumption) (rfl) (by omega) (by decide) dX8_isNext_19 rfl ?_
    refine z_iload_n (q := 21) dX8_isNext_20 rfl rfl rfl ?_
    refine z_icmp_ne (tgt := 28) (q := 24) dX8_isNext_21 (by decide) rfl (fun hd => ?_) (fun hd => ?_)
    · refine z_iconst (q := 29) (v := nI 0) dX8_isNext_28 (by rfl) rfl ?_
      exact tail _ rfl 0 (by rw [if_neg (fun z => hd z.2)])
    · refine z_iconst (q := 25) (v := nI 1) dX8_isNext_24 (by rfl) rfl ?_
      refine z_goto (q := 29) dX8_isNext_25 (by decide) ?_
      exact tail _ rfl 1 (by rw [if_pos ⟨by omega, hd⟩])
set_option maxRecDepth 100000 in
set_option maxHeartbeats 4000000 in
theorem c_X8_isNumber (G : zG) {n : Nat} {T : zTT} {I : zII} {R : zRR} (m k dg p y : Nat) (c : Int32) (hM : z_Mod T R m) (hy : I m 5 = nI y) (hy80 : y ≤ 80) (hp : I m 8 = nI p) (hpy : p ≤ y) (hk : k < 4) (hdg : dg ≤ 7) : Ct G yX8_isNumber wsX8_isNumber (1, 0, 0) [.ref m, .int (nI k), .int (nI dg), .int c] n T I R (z_rel (some (.int (if (numO (I (m + 4)) y p dg c).isSome then 1 else 0))) n T (fun I' R' => R' = R ∧ (∀ j, j ≠ 8 → I' m j = I m j) ∧ z_frT m I I' ∧ ∃ q v, I' m 8 = nI q ∧ q ≤ y ∧ I' (m + 7) = upd (I (m + 7)) k v ∧ ∀ r, numO (I (m + 4)) y p dg c = some r → r = (v, q))) := by
  refine Ct.ofX (M := muX8_isNumber) (ls := [(0, .ref m), (1, .int (nI k)), (2, .int (nI dg)), (3, .int c)]) (by decide +kernel) rfl (by decide) rfl rfl (Nat.le_of_ble_eq_true rfl) ?_
  obtain ⟨hTm, -, -, -, ⟨hTt, hRt⟩, -, -, hTd, hRd⟩ := id hM
  have no : ∀ q v I4, q ≤ y → numO (I (m + 4)) y p dg c = none → I4 m 8 = nI q → I4 (m + 7) = upd (I (m + 7)) k v → (∀ j, j ≠ 8 → I4 m j = I m j) → z_frT m I I4 → z_X G muX8_isNumber (1, 0, 0) (z_rel (some (.int (if (numO (I (m + 4)) y p dg c).isSome then 1 else 0))) n T (fun I' R' => R' = R ∧ (∀ j, j ≠ 8 → I' m j = I m j) ∧ z_frT m I I' ∧ ∃ q v, I' m 8 = nI q ∧ q ≤ y ∧ I' (m + 7) = upd (I (m + 7)) k v ∧ ∀ r, numO (I (m + 4)) y p dg c = some r → r = (v, q))) n T I4 R 0 0 116 [(0, .ref m), (1, .int (nI k)), (2, .int (nI dg)), (3, .int c), (4, .int (nI p))] [] := by
    intro q v I4 hq hN e1 e2 e3 e4
    rw [hN]
    refine z_iconst (q := 117) (v := nI 0) dX8_isNumber_116 (by rfl) rfl ?_
    exact z_zret rfl (by rfl) dX8_isNumber_117 (Nat.zero_le _) (Nat.zero_le _) ⟨rfl, rfl, rfl, rfl, e3, e4, q, v, e1, hq, e2, fun r hr => by cases hr⟩
  have out : ∀ q v I4, numS (I (m + 4)) y dg p (nI 0) = (q, v) → p ≤ q → q ≤ y → I4 m 8 = nI q → I4 (m + 7) = upd (I (m + 7)) k v → (∀ j, j ≠ 8 → I4 m j = I m j) → z_frT m I I4 → z_X G muX8_isNumber (1, 0, 0) (z_rel (some (.int (if (numO (I (m + 4)) y p dg c).isSome then 1 else 0))) n T (fun I' R' => R' = R ∧ (∀ j, j ≠ 8 → I' m j = I m j) ∧ z_frT m I I' ∧ ∃ q v, I' m 8 = nI q ∧ q ≤ y ∧ I' (m + 7) = upd (I (m + 7)) k v ∧ ∀ r, numO (I (m + 4)) y p dg c = some r → r = (v, q))) n T I4 R 0 0 95 [(0, .ref m), (1, .int (nI k)), (2, .int (nI dg)), (3, .int c), (4, .int (nI p))] [] := by
    intro q v I4 hS hpq hq e1 e2 e3 e4
    have hT4 : I4 (m + 4) = I (m + 4) := e4 _ (by omega) (by omega)
    refine z_aload_n (q := 96) dX8_isNumber_95 rfl rfl rfl ?_
    refine z_getV (q := 99) 8 8 1 21 rfl (by decide) rfl rfl rfl (by with_reducible assumption) (e1) dX8_isNumber_96 rfl ?_
    refine z_iload (q := 101) (i := 4) dX8_isNumber_99 rfl rfl ?_
    refine z_icmpn_le (rfl) (rfl) (by omega) (by omega) (tgt := 116) (q := 104) dX8_isNumber_101 (by decide) rfl (fun h101 => ?_) (fun h101 => ?_)
    · refine no q v I4 hq ?_ e1 e2 e3 e4
      rw [numO, hS, if_neg (fun z => by have := z.1; omega)]
    · refine z_aload_n (q := 105) dX8_isNumber_104 rfl rfl rfl ?_
      refine z_iload_n (q := 106) dX8_isNumber_105 rfl rfl rfl ?_
      refine z_invV (q := 109) (c_X8_isNext G m q y c hM (by rw [e3 5 (by decide)]; exact hy) hy80 e1 hq) (by with_reducible assumption) rfl gX8_isNumber_X8_isNext rfl hy_X8_isNext rfl rfl rfl rfl (Nat.le_of_ble_eq_true rfl) ⟨Nat.zero_le _, Nat.zero_le _⟩ dX8_isNumber_106 rfl (z_rvR fun I5 R5 hZ5 => ?_)
      obtain ⟨rfl, h5⟩ := hZ5
      rw [hT4] at h5 ⊢
      have g1 : ∀ j, j ≠ 8 → I5 m j = I m j := fun j hj => by rw [h5, zw_k _ _ hj]; exact e3 j hj
      have g2 : z_frT m I I5 := fun r r1 r2 => by rw [h5, zw_row _ _ r1]; exact e4 r r1 r2
      have g3 : I5 (m + 7) = upd (I (m + 7)) k v := by rw [h5, zw_row _ _ (by omega)]; exact e2
      by_cases hn : nxt (I (m + 4)) y q c
      · rw [if_pos hn] at h5 ⊢
        have g4 : I5 m 8 = nI (q + 1) := by rw [h5, zw_s]
        have hN : numO (I (m + 4)) y p dg c = some (v, q + 1) := by rw [numO, hS, if_pos ⟨by show p < q; omega, hn⟩]
        refine z_if_eq (tgt := 116) (q := 112) dX8_isNumber_109 (by decide) rfl (fun hc => False.elim (absurd hc (by decide))) (fun _ => ?_)
        refine z_iconst (q := 113) (v := nI 1) dX8_isNumber_112 (by rfl) rfl ?_
        refine z_goto (q := 117) dX8_isNumber_113 (by decide) ?_
        rw [hN]
        exact z_zret rfl (by rfl) dX8_isNumber_117 (Nat.zero_le _) (Nat.zero_le _) ⟨rfl, rfl, rfl, rfl, g1, g2, q + 1, v, g4, hn.1, g3, fun r hr => by cases hr; rfl⟩
      · rw [if_neg hn] at h5 ⊢
        have g4 : I5 m 8 = nI q := by rw [h5, zw_s]
        refine z_if_eq (tgt := 116) (q := 112) dX8_isNumber_109 (by decide) rfl (fun _ => ?_) (fun hc => False.elim (hc rfl))
        refine no q v I5 hq ?_ g4 g3 g1 g2
        rw [numO, hS, if_neg (fun z => hn z.2)]
  refine z_aload_n (q := 1) dX8_isNumber_0 rfl rfl rfl ?_
  refine z_getV (q := 4) 8 8 1 21 rfl (by decide) rfl rfl rfl (by with_reducible assumption) (hp) dX8_isNumber_1 rfl ?_
  refine z_istore (q := 6) dX8_isNumber_4 (by decide) rfl ?_
  refine z_aload_n (q := 7) dX8_isNumber_6 rfl rfl rfl ?_
  refine z_getR (q := 10) 8 9 2 22 rfl (by decide) rfl rfl rfl (by with_reducible assumption) (by with_reducible assumption) dX8_isNumber_7 rfl ?_
  refine z_iload_n (q := 11) dX8_isNumber_10 rfl rfl rfl ?_
  refine z_iconst (q := 12) (v := nI 0) dX8_isNumber_11 (by rfl) rfl ?_
  refine z_iast (q := 13) _ (by with_reducible assumption) (rfl) (by omega) (by decide) dX8_isNumber_12 rfl ?_
  have loop : ∀ f q v I4, f + q = dg + p → p ≤ q → q ≤ y → numS (I (m + 4)) y f q v = numS (I (m + 4)) y dg p (nI 0) → I4 m 8 = nI q → I4 (m + 7) = upd (I (m + 7)) k v → (∀ j, j ≠ 8 → I4 m j = I m j) → z_frT m I I4 → z_X G muX8_isNumber (1, 0, 0) (z_rel (some (.int (if (numO (I (m + 4)) y p dg c).isSome then 1 else 0))) n T (fun I' R' => R' = R ∧ (∀ j, j ≠ 8 → I' m j = I m j) ∧ z_frT m I I' ∧ ∃ q v, I' m 8 = nI q ∧ q ≤ y ∧ I' (m + 7) = upd (I (m + 7)) k v ∧ ∀ r, numO (I (m + 4)) y p dg c = some r → r = (v, q))) n T I4 R 0 0 13 [(0, .ref m), (1, .int (nI k)), (2, .int (nI dg)), (3, .int c), (4, .int (nI p))] [] := by
    intro f
    induction f with
    | zero =>
      intro q v I4 hf hpq hq hS e1 e2 e3 e4
      refine z_aload_n (q := 14) dX8_isNumber_13 rfl rfl rfl ?_
      refine z_getV (q := 17) 8 8 1 21 rfl (by decide) rfl rfl rfl (by with_reducible assumption) (e1) dX8_isNumber_14 rfl ?_
      refine z_iload (q := 19) (i := 4) dX8_isNumber_17 rfl rfl ?_
      refine z_isubE (q := 20) dX8_isNumber_19 (pk_sub (by omega)) rfl ?_
      refine z_iload_n (q := 21) dX8_isNumber_20 rfl rfl rfl ?_
      refine z_icmpn_ge (rfl) (rfl) (by omega) (by omega) (tgt := 95) (q := 24) dX8_isNumber_21 (by decide) rfl (fun _ => ?_) (fun hc => absurd hc (by omega))
      exact out q v I4 hS.symm hpq hq e1 e2 e3 e4
    | succ f ih =>
      intro q v I4 hf hpq hq hS e1 e2 e3 e4
      have hT4 : I4 (m + 4) = I (m + 4) := e4 _ (by omega) (by omega)
      have e5 : I4 m 5 = nI y := by rw [e3 5 (by decide)]; exact hy
      rw [numS] at hS
      refine z_aload_n (q := 14) dX8_isNumber_13 rfl rfl rfl ?_
      refine z_getV (q := 17) 8 8 1 21 rfl (by decide) rfl rfl rfl (by with_reducible assumption) (e1) dX8_isNumber_14 rfl ?_
      refine z_iload (q := 19) (i := 4) dX8_isNumber_17 rfl rfl ?_
      refine z_isubE (q := 20) dX8_isNumber_19 (pk_sub (by omega)) rfl ?_
      refine z_iload_n (q := 21) dX8_isNumber_20 rfl rfl rfl ?_
      refine z_icmpn_ge (rfl) (rfl) (by omega) (by omega) (tgt := 95) (q := 24) dX8_isNumber_21 (by decide) rfl (fun hc => absurd hc (by omega)) (fun _ => ?_)
      refine z_aload_n (q := 25) dX8_isNumber_24 rfl rfl rfl ?_
      refine z_getV (q := 28) 8 8 1 21 rfl (by decide) rfl rfl rfl (by with_reducible assumption) (e1) dX8_isNumber_25 rfl ?_
      refine z_aload_n (q := 29) dX8_isNumber_28 rfl rfl rfl ?_
      refine z_getV (q := 32) 8 5 3 18 rfl (by decide) rfl rfl rfl (by with_reducible assumption) (e5) dX8_isNumber_29 rfl ?_
      refine z_icmpn_ge (rfl) (rfl) (by omega) (by omega) (tgt := 95) (q := 35) dX8_isNumber_32 (by decide) rfl (fun h32 => ?_) (fun h32 => ?_)
      · rw [if_neg (fun z => by have := z.1; omega)] at hS
        exact out q v I4 hS.symm hpq hq e1 e2 e3 e4
      · refine z_aload_n (q := 36) dX8_isNumber_35 rfl rfl rfl ?_
        refine z_getR (q := 39) 8 4 4 17 rfl (by decide) rfl rfl rfl (by with_reducible assumption) (by with_reducible assumption) dX8_isNumber_36 rfl ?_
        refine z_aload_n (q := 40) dX8_isNumber_39 rfl rfl rfl ?_
        refine z_getV (q := 43) 8 8 1 21 rfl (by decide) rfl rfl rfl (by with_reducible assumption) (e1) dX8_isNumber_40 rfl ?_
        refine z_iald (q := 44) _ (by with_reducible assumption) (rfl) (by omega) (by decide) dX8_isNumber_43 rfl ?_
        refine z_bipush (q := 46) (v := nI 48) dX8_isNumber_44 (by rfl) rfl ?_
        refine z_bipush (q := 48) (v := nI 57) dX8_isNumber_46 (by rfl) rfl ?_
        refine z_invS (q := 51) (c_X8_in G (I4 (m + 4) q) (nI 48) (nI 57)) gX8_isNumber_X8_in rfl hy_X8_in rfl rfl rfl rfl (Nat.le_of_ble_eq_true rfl) ⟨Nat.zero_le _, Nat.zero_le _⟩ dX8_isNumber_48 rfl (z_rv ?_)
        rw [hT4]
        by_cases hd : I (m + 4) q < nI 48 ∨ nI 57 < I (m + 4) q
        · rw [if_pos hd]
          refine z_if_eq (tgt := 95) (q := 54) dX8_isNumber_51 (by decide) rfl (fun _ => ?_) (fun hc => False.elim (hc rfl))
          rw [if_neg (fun z => z.2 hd)] at hS
          exact out q v I4 hS.symm hpq hq e1 e2 e3 e4
        · rw [if_neg hd]
          refine z_if_eq (tgt := 95) (q := 54) dX8_isNumber_51 (by decide) rfl (fun hc => False.elim (absurd hc (by decide))) (fun _ => ?_)
          rw [if_pos ⟨by omega, hd⟩] at hS
          refine z_aload_n (q := 55) dX8_isNumber_54 rfl rfl rfl ?_
          refine z_getR (q := 58) 8 9 2 22 rfl (by decide) rfl rfl rfl (by with_reducible assumption) (by with_reducible assumption) dX8_isNumber_55 rfl ?_
          refine z_iload_n (q := 59) dX8_isNumber_58 rfl rfl rfl ?_
          refine z_bipush (q := 61) (v := nI 10) dX8_isNumber_59 (by rfl) rfl ?_
          refine z_aload_n (q := 62) dX8_isNumber_61 rfl rfl rfl ?_
          refine z_getR (q := 65) 8 9 2 22 rfl (by decide) rfl rfl rfl (by with_reducible assumption) (by with_reducible assumption) dX8_isNumber_62 rfl ?_
          refine z_iload_n (q := 66) dX8_isNumber_65 rfl rfl rfl ?_
          refine z_iald (q := 67) _ (by with_reducible assumption) (rfl) (by omega) (by decide) dX8_isNumber_66 rfl ?_
          refine z_imul (q := 68) dX8_isNumber_67 rfl ?_
          refine z_aload_n (q := 69) dX8_isNumber_68 rfl rfl rfl ?_
          refine z_getR (q := 72) 8 4 4 17 rfl (by decide) rfl rfl rfl (by with_reducible assumption) (by with_reducible assumption) dX8_isNumber_69 rfl ?_
          refine z_aload_n (q := 73) dX8_isNumber_72 rfl rfl rfl ?_
          refine z_getV (q := 76) 8 8 1 21 rfl (by decide) rfl rfl rfl (by with_reducible assumption) (e1) dX8_isNumber_73 rfl ?_
          refine z_iald (q := 77) _ (by with_reducible assumption) (rfl) (by omega) (by decide) dX8_isNumber_76 rfl ?_
          refine z_iadd (q := 78) dX8_isNumber_77 rfl ?_
          refine z_bipush (q := 80) (v := nI 48) dX8_isNumber_78 (by rfl) rfl ?_
          refine z_isub (q := 81) dX8_isNumber_80 rfl ?_
          refine z_iast (q := 82) _ (by with_reducible assumption) (rfl) (by omega) (by decide) dX8_isNumber_81 rfl ?_
          have e6 : zw I4 (m + 7) k (nI 10 * I4 (m + 7) k + I4 (m + 4) q - nI 48) m 8 = nI q := by rw [zw_row _ _ (by omega)]; exact e1
          refine z_aload_n (q := 83) dX8_isNumber_82 rfl rfl rfl ?_
          refine z_dup (q := 84) dX8_isNumber_83 rfl rfl ?_
          refine z_getV (q := 87) 8 8 1 21 rfl (by decide) rfl rfl rfl (by with_reducible assumption) (e6) dX8_isNumber_84 rfl ?_
          refine z_iconst (q := 88) (v := nI 1) dX8_isNumber_87 (by rfl) rfl ?_
          refine z_iaddE (q := 89) dX8_isNumber_88 (nI_add _ _) rfl ?_
          refine z_put (q := 92) 8 8 1 21 rfl (by decide) rfl rfl (tyX8_ok 8 (by decide)) (rfl) (rfl) rfl (by with_reducible assumption) dX8_isNumber_89 rfl ?_
          refine z_goto (q := 13) dX8_isNumber_92 (by decide) ?_
          refine ih (q + 1) _ _ (by omega) (by omega) (by omega) hS (zw_s _ _ _ _) ?_ (fun j hj => by rw [zw_k _ _ hj, zw_row _ _ (by omega)]; exact e3 j hj) (fun r r1 r2 => by rw [zw_row _ _ r1, zw_row _ _ r2]; exact e4 r r1 r2)
          rw [zw_row _ _ (by omega), zw_upd, e2, hT4, upd_s]
          funext j
          by_cases hj : j = k
          · rw [hj, upd_s, upd_s]
          · rw [upd_n _ _ hj, upd_n _ _ hj, upd_n _ _ hj]
  refine loop dg p (nI 0) _ rfl (Nat.le_refl _) hpy rfl ?_ ?_ (fun j _ => by rw [zw_row _ _ (by omega)]) (fun r r1 r2 => by rw [zw_row _ _ r2])
  · rw [zw_row _ _ (by omega)]
    exact hp
  · rw [zw_upd]
/-- an entry in the text: kind, place, step, steps, how much, the place behind it -/
abbrev zR : Type := Nat × Int32 × Int32 × Int32 × Int32 × Nat
def rd2 {α : Type} (o : Option (Int32 × Nat)) (f : Int32 → Nat → Option α) : Option α := match o with
  | none => none
  | some r => f r.1 r.2
theorem rd2_s {α : Type} (r : Int32 × Nat) (f : Int32 → Nat → Option α) : rd2 (some r) f = f r.1 r.2 := rfl
theorem z_01 : ¬ (1 : Int32) = 0 := by decide
def rdC (tx : Nat → Int32) (y q : Nat) (a t : Int32) : Option zR := rd2 (numO tx y q 2 (nI 61)) fun s q3 => rd2 (numO tx y q3 7 (nI 59)) fun mu q4 => some (0, a, t, s, mu, q4)
def rdD (tx : Nat → Int32) (y q : Nat) (a t : Int32) : Option zR := rd2 (numO tx y q 2 (nI 59)) fun s q3 => some (1, a, t, s, nI 0, q3)
def rdB (tx : Nat → Int32) (y : Nat) (kd q : Nat) : Option zR := rd2 (numO tx y q 2 (nI 64)) fun a q1 => rd2 (numO tx y q1 4 (if kd = 0 then nI 42 else nI 58)) fun t q2 => if kd = 0 then rdC tx y q2 a t else rdD tx y q2 a t
def readE (tx : Nat → Int32) (y p : Nat) : Option zR := if nxt tx y p (nI 115) then rdB tx y 0 (p + 1) else if nxt tx y p (nI 100) then rdB tx y 1 (p + 1) else none
theorem rdB_lt {tx : Nat → Int32} {y kd q : Nat} {e : zR} (h : rdB tx y kd q = some e) : q < e.2.2.2.2.2 ∧ e.2.2.2.2.2 ≤ y ∧ (kd = 0 → e.1 = 0) ∧ (¬ kd = 0 → e.1 = 1) := by
  unfold rdB at h
  cases h1 : numO tx y q 2 (nI 64) with
  | none => rw [h1] at h; cases h
  | some r1 =>
    rw [h1] at h
    rw [rd2_s] at h
    have l1 := numO_lt h1
    cases h2 : numO tx y r1.2 4 (if kd = 0 then nI 42 else nI 58) with
    | none => rw [h2] at h; cases h
    | some r2 =>
      rw [h2, rd2_s] at h
      have l2 := numO_lt h2
      by_cases hk : kd = 0
      · rw [if_pos hk] at h
        unfold rdC at h
        cases h3 : numO tx y r2.2 2 (nI 61) with
        | none => rw [h3] at h; cases h
        | some r3 =>
          rw [h3] at h
          rw [rd2_s] at h
          have l3 := numO_lt h3
          cases h4 : numO tx y r3.2 7 (nI 59) with
          | none => rw [h4] at h; cases h
          | some r4 =>
            rw [h4] at h
            have l4 := numO_lt h4
            cases h
            exact ⟨by show q < r4.2; omega, l4.2, fun _ => rfl, fun z => absurd hk z⟩
      · rw [if_neg hk] at h
        unfold rdD at h
        cases h3 : numO tx y r2.2 2 (nI 59) with
        | none => rw [h3] at h; cases h
        | some r3 =>
          rw [h3] at h
          have l3 := numO_lt h3
          cases h
          exact ⟨by show q < r3.2; omega, l3.2, fun z => absurd z hk, fun _ => rfl⟩
theorem readE_lt {tx : Nat → Int32} {y p : Nat} {e : zR} (h : readE tx y p = some e) : p < e.2.2.2.2.2 ∧ e.2.2.2.2.2 ≤ y ∧ e.1 ≤ 1 := by
  unfold readE at h
  split at h
  next =>
    have := rdB_lt h
    have h3 := this.2.2.1 rfl
    exact ⟨by omega, by omega, by omega⟩
  next =>
    split at h
    next =>
      have := rdB_lt h
      have h3 := this.2.2.2 (by omega)
      exact ⟨by omega, by omega, by omega⟩
    next => cases h
def z_eok (m : Nat) (I' : zII) : Option zR → Prop
  | none => True
  | some (kd, a, t, s, mu, q) => I' m 8 = nI q ∧ I' m 10 = nI kd ∧ I' (m + 7) 0 = a ∧ I' (m + 7) 1 = t ∧ I' (m + 7) 2 = s ∧ I' (m + 7) 3 = mu
abbrev z_ent (m y p : Nat) (I I' : zII) : Prop := (∀ j, j ≠ 8 → j ≠ 10 → I' m j = I m j) ∧ z_frT m I I' ∧ z_eok m I' (readE (I (m + 4)) y p)
set_option maxRecDepth 100000 in
set_option maxHeartbeats 4000000 in
theorem c_X8_isEntry (G : zG) {n : Nat} {T : zTT} {I : zII} {R : zRR} (m p y : Nat) (hM : z_Mod T R m) (hy : I m 5 = nI y) (hy80 : y ≤ 80) (hp : I m 8 = nI p) (hpy : p ≤ y) : Ct G yX8_isEntry wsX8_isEntry (2, 0, 0) [.ref m] n T I R (z_rel (some (.int (if (readE (I (m + 4)) y p).isSome then 1 else 0))) n T (fun I' R' => R' = R ∧ z_ent m y p I I')) := by
  refine Ct.ofX (M := muX8_isEntry) (ls := [(0, .ref m)]) (by decide +kernel) rfl (by decide) rfl rfl (Nat.le_of_ble_eq_true rfl) ?_
  obtain ⟨hTm, -, -, -, ⟨hTt, hRt⟩, -, -, hTd, hRd⟩ := id hM
  have f140 : ∀ I4, readE (I (m + 4)) y p = none → (∀ j, j ≠ 8 → j ≠ 10 → I4 m j = I m j) → z_frT m I I4 → ∀ ls, z_X G muX8_isEntry (2, 0, 0) (z_rel (some (.int (if (readE (I (m + 4)) y p).isSome then 1 else 0))) n T (fun I' R' => R' = R ∧ z_ent m y p I I')) n T I4 R 0 0 140 ls [] := by
    intro I4 hN e1 e2 ls
    rw [hN]
    refine z_iconst (q := 141) (v := nI 0) dX8_isEntry_140 (by rfl) rfl ?_
    exact z_zret rfl (by rfl) dX8_isEntry_141 (Nat.zero_le _) (Nat.zero_le _) ⟨rfl, rfl, rfl, rfl, e1, e2, by rw [hN]; trivial⟩
  have f79 : ∀ I4, readE (I (m + 4)) y p = none → (∀ j, j ≠ 8 → j ≠ 10 → I4 m j = I m j) → z_frT m I I4 → z_X G muX8_isEntry (2, 0, 0) (z_rel (some (.int (if (readE (I (m + 4)) y p).isSome then 1 else 0))) n T (fun I' R' => R' = R ∧ z_ent m y p I I')) n T I4 R 0 0 79 [(0, .ref m)] [] := by
    intro I4 hN e1 e2
    refine z_iconst (q := 80) (v := nI 0) dX8_isEntry_79 (by rfl) rfl ?_
    refine z_istore_n (q := 81) dX8_isEntry_80 rfl (by decide) rfl ?_
    refine z_aload_n (q := 82) dX8_isEntry_81 rfl rfl rfl ?_
    refine z_getR (q := 85) 8 9 2 27 rfl (by decide) rfl rfl rfl (by with_reducible assumption) (by with_reducible assumption) dX8_isEntry_82 rfl ?_
    refine z_iconst (q := 86) (v := nI 3) dX8_isEntry_85 (by rfl) rfl ?_
    refine z_iconst (q := 87) (v := nI 0) dX8_isEntry_86 (by rfl) rfl ?_
    refine z_iast (q := 88) _ (by with_reducible assumption) (rfl) (by omega) (by decide) dX8_isEntry_87 rfl ?_
    refine z_iload_n (q := 89) dX8_isEntry_88 rfl rfl rfl ?_
    refine z_if_eq (tgt := 140) (q := 92) dX8_isEntry_89 (by decide) rfl (fun _ => ?_) (fun hc => False.elim (hc rfl))
    exact f140 _ hN (fun j h1 h2 => by rw [zw_row _ _ (by omega)]; exact e1 j h1 h2) (fun r r1 r2 => by rw [zw_row _ _ r2]; exact e2 r r1 r2) _
  have main : ∀ kd, kd = 0 ∨ kd = 1 → readE (I (m + 4)) y p = rdB (I (m + 4)) y kd (p + 1) → p < y → ∀ I4, I4 m 8 = nI (p + 1) → I4 m 10 = nI kd → (∀ j, j ≠ 8 → j ≠ 10 → I4 m j = I m j) → z_frT m I I4 → z_X G muX8_isEntry (2, 0, 0) (z_rel (some (.int (if (readE (I (m + 4)) y p).isSome then 1 else 0))) n T (fun I' R' => R' = R ∧ z_ent m y p I I')) n T I4 R 0 0 32 [(0, .ref m)] [] := by
    intro kd hkd hE hpl I4 e8 e10 e1 e2
    have hT4 : I4 (m + 4) = I (m + 4) := e2 _ (by omega) (by omega)
    have e5 : I4 m 5 = nI y := by rw [e1 5 (by decide) (by decide)]; exact hy
    refine z_aload_n (q := 33) dX8_isEntry_32 rfl rfl rfl ?_
    refine z_getV (q := 36) 8 10 1 28 rfl (by decide) rfl rfl rfl (by with_reducible assumption) (e10) dX8_isEntry_33 rfl ?_
    refine z_bipush (q := 38) (v := (-4)) dX8_isEntry_36 (by rfl) rfl ?_
    refine z_icmp_eq (tgt := 79) (q := 41) dX8_isEntry_38 (by decide) rfl (fun hc => False.elim ((by rcases hkd with rfl | rfl <;> exact absurd hc (by decide)))) (fun _ => ?_)
    refine z_aload_n (q := 42) dX8_isEntry_41 rfl rfl rfl ?_
    refine z_iconst (q := 43) (v := nI 0) dX8_isEntry_42 (by rfl) rfl ?_
    refine z_iconst (q := 44) (v := nI 2) dX8_isEntry_43 (by rfl) rfl ?_
    refine z_bipush (q := 46) (v := nI 64) dX8_isEntry_44 (by rfl) rfl ?_
    refine z_invV (q := 49) (c_X8_isNumber G m 0 2 (p + 1) y (nI 64) hM e5 hy80 e8 (by omega) (by decide) (by decide)) (by with_reducible assumption) rfl gX8_isEntry_X8_isNumber rfl hy_X8_isNumber rfl rfl rfl rfl (Nat.le_of_ble_eq_true rfl) ⟨Nat.zero_le _, Nat.zero_le _⟩ dX8_isEntry_46 rfl (z_rvR fun I5 R5 hZ5 => ?_)
    obtain ⟨rfl, k1, k2, q1, v1, k8, kq, k7, kN⟩ := hZ5
    rw [hT4] at kN ⊢
    rw [rdB] at hE
    cases hn1 : numO (I (m + 4)) y (p + 1) 2 (nI 64) with
    | none =>
      rw [hn1] at hE
      refine z_if_eq (tgt := 79) (q := 52) dX8_isEntry_49 (by decide) rfl (fun _ => ?_) (fun hc => False.elim (hc rfl))
      exact f79 I5 hE (fun j h1 h2 => by rw [k1 j h1]; exact e1 j h1 h2) (fun r r1 r2 => by rw [k2 r r1 r2]; exact e2 r r1 r2)
    | some r1 =>
      have hr1 := kN r1 hn1
      subst hr1
      rw [hn1] at hE
      rw [rd2_s] at hE
      refine z_if_eq (tgt := 79) (q := 52) dX8_isEntry_49 (by decide) rfl (fun hc => False.elim (z_01 hc)) (fun _ => ?_)
      have k10 : I5 m 10 = nI kd := by rw [k1 10 (by decide)]; exact e10
      have k5 : I5 m 5 = nI y := by rw [k1 5 (by decide)]; exact e5
      have k4 : I5 (m + 4) = I (m + 4) := by rw [k2 _ (by omega) (by omega)]; exact hT4
      have a69 : z_X G muX8_isEntry (2, 0, 0) (z_rel (some (.int (if (readE (I (m + 4)) y p).isSome then 1 else 0))) n T (fun I' R' => R' = R5 ∧ z_ent m y p I I')) n T I5 R5 0 0 69 [(0, .ref m)] [.int (if kd = 0 then nI 42 else nI 58), .int (nI 4), .int (nI 1), .ref m] := by
        refine z_invV (q := 72) (c_X8_isNumber G m 1 4 q1 y (if kd = 0 then nI 42 else nI 58) hM k5 hy80 k8 kq (by decide) (by decide)) (by with_reducible assumption) rfl gX8_isEntry_X8_isNumber rfl hy_X8_isNumber rfl rfl rfl rfl (Nat.le_of_ble_eq_true rfl) ⟨Nat.zero_le _, Nat.zero_le _⟩ dX8_isEntry_69 rfl (z_rvR fun I6 R6 hZ6 => ?_)
        obtain ⟨rfl, l1, l2, q2, v2, l8, lq, l7, lN⟩ := hZ6
        rw [k4] at lN ⊢
        cases hn2 : numO (I (m + 4)) y q1 4 (if kd = 0 then nI 42 else nI 58) with
        | none =>
          rw [hn2] at hE
          refine z_if_eq (tgt := 79) (q := 75) dX8_isEntry_72 (by decide) rfl (fun _ => ?_) (fun hc => False.elim (hc rfl))
          exact f79 I6 hE (fun j h1 h2 => by rw [l1 j h1, k1 j h1]; exact e1 j h1 h2) (fun r r1 r2 => by rw [l2 r r1 r2, k2 r r1 r2]; exact e2 r r1 r2)
        | some r2 =>
          have hr2 := lN r2 hn2
          subst hr2
          rw [hn2] at hE
          rw [rd2_s] at hE
          have l10 : I6 m 10 = nI kd := by rw [l1 10 (by decide)]; exact k10
          have l5 : I6 m 5 = nI y := by rw [l1 5 (by decide)]; exact k5
          have l4 : I6 (m + 4) = I (m + 4) := by rw [l2 _ (by omega) (by omega)]; exact k4
          have c0 : I6 (m + 7) 0 = v1 := by rw [l7, upd_n _ _ (by decide), k7, upd_s]
          have c1 : I6 (m + 7) 1 = v2 := by rw [l7, upd_s]
          refine z_if_eq (tgt := 79) (q := 75) dX8_isEntry_72 (by decide) rfl (fun hc => False.elim (z_01 hc)) (fun _ => ?_)
          refine z_iconst (q := 76) (v := nI 1) dX8_isEntry_75 (by rfl) rfl ?_
          refine z_goto (q := 80) dX8_isEntry_76 (by decide) ?_
          refine z_istore_n (q := 81) dX8_isEntry_80 rfl (by decide) rfl ?_
          refine z_aload_n (q := 82) dX8_isEntry_81 rfl rfl rfl ?_
          refine z_getR (q := 85) 8 9 2 27 rfl (by decide) rfl rfl rfl (by with_reducible assumption) (by with_reducible assumption) dX8_isEntry_82 rfl ?_
          refine z_iconst (q := 86) (v := nI 3) dX8_isEntry_85 (by rfl) rfl ?_
          refine z_iconst (q := 87) (v := nI 0) dX8_isEntry_86 (by rfl) rfl ?_
          refine z_iast (q := 88) _ (by with_reducible assumption) (rfl) (by omega) (by decide) dX8_isEntry_87 rfl ?_
          refine z_iload_n (q := 89) dX8_isEntry_88 rfl rfl rfl ?_
          refine z_if_eq (tgt := 140) (q := 92) dX8_isEntry_89 (by decide) rfl (fun hc => False.elim (absurd hc (by decide))) (fun _ => ?_)
          have w8 : zw I6 (m + 7) 3 (nI 0) m 8 = nI q2 := by rw [zw_row _ _ (by omega)]; exact l8
          have w10 : zw I6 (m + 7) 3 (nI 0) m 10 = nI kd := by rw [zw_row _ _ (by omega)]; exact l10
          have w5 : zw I6 (m + 7) 3 (nI 0) m 5 = nI y := by rw [zw_row _ _ (by omega)]; exact l5
          have w4 : zw I6 (m + 7) 3 (nI 0) (m + 4) = I (m + 4) := by rw [zw_row _ _ (by omega)]; exact l4
          have w1 : ∀ j, j ≠ 8 → j ≠ 10 → zw I6 (m + 7) 3 (nI 0) m j = I m j := fun j h1 h2 => by rw [zw_row _ _ (by omega), l1 j h1, k1 j h1]; exact e1 j h1 h2
          have w2 : z_frT m I (zw I6 (m + 7) 3 (nI 0)) := fun r r1 r2 => by rw [zw_row _ _ r2, l2 r r1 r2, k2 r r1 r2]; exact e2 r r1 r2
          have d0 : zw I6 (m + 7) 3 (nI 0) (m + 7) 0 = v1 := by rw [zw_k _ _ (by decide)]; exact c0
          have d1 : zw I6 (m + 7) 3 (nI 0) (m + 7) 1 = v2 := by rw [zw_k _ _ (by decide)]; exact c1
          have d3 : zw I6 (m + 7) 3 (nI 0) (m + 7) 3 = nI 0 := zw_s _ _ _ _
          generalize zw I6 (m + 7) 3 (nI 0) = I7 at w8 w10 w5 w4 w1 w2 d0 d1 d3 ⊢
          refine z_aload_n (q := 93) dX8_isEntry_92 rfl rfl rfl ?_
          refine z_getV (q := 96) 8 10 1 28 rfl (by decide) rfl rfl rfl (by with_reducible assumption) (w10) dX8_isEntry_93 rfl ?_
          rcases hkd with rfl | rfl
          · rw [if_pos rfl] at hE
            refine z_if_ne (tgt := 125) (q := 99) dX8_isEntry_96 (by decide) rfl (fun hc => False.elim (hc rfl)) (fun _ => ?_)
            refine z_aload_n (q := 100) dX8_isEntry_99 rfl rfl rfl ?_
            refine z_iconst (q := 101) (v := nI 2) dX8_isEntry_100 (by rfl) rfl ?_
            refine z_iconst (q := 102) (v := nI 2) dX8_isEntry_101 (by rfl) rfl ?_
            refine z_bipush (q := 104) (v := nI 61) dX8_isEntry_102 (by rfl) rfl ?_
            refine z_invV (q := 107) (c_X8_isNumber G m 2 2 q2 y (nI 61) hM w5 hy80 w8 lq (by decide) (by decide)) (by with_reducible assumption) rfl gX8_isEntry_X8_isNumber rfl hy_X8_isNumber rfl rfl rfl rfl (Nat.le_of_ble_eq_true rfl) ⟨Nat.zero_le _, Nat.zero_le _⟩ dX8_isEntry_104 rfl (z_rvR fun I8 R8 hZ8 => ?_)
            obtain ⟨rfl, m1, m2, q3, v3, m8, mq, m7, mN⟩ := hZ8
            rw [w4] at mN ⊢
            rw [rdC] at hE
            cases hn3 : numO (I (m + 4)) y q2 2 (nI 61) with
            | none =>
              rw [hn3] at hE
              refine z_if_eq (tgt := 140) (q := 110) dX8_isEntry_107 (by decide) rfl (fun _ => ?_) (fun hc => False.elim (hc rfl))
              exact f140 I8 hE (fun j h1 h2 => by rw [m1 j h1]; exact w1 j h1 h2) (fun r r1 r2 => by rw [m2 r r1 r2]; exact w2 r r1 r2) _
            | some r3 =>
              have hr3 := mN r3 hn3
              subst hr3
              rw [hn3] at hE
              rw [rd2_s] at hE
              have m5 : I8 m 5 = nI y := by rw [m1 5 (by decide)]; exact w5
              have m4 : I8 (m + 4) = I (m + 4) := by rw [m2 _ (by omega) (by omega)]; exact w4
              refine z_if_eq (tgt := 140) (q := 110) dX8_isEntry_107 (by decide) rfl (fun hc => False.elim (z_01 hc)) (fun _ => ?_)
              refine z_aload_n (q := 111) dX8_isEntry_110 rfl rfl rfl ?_
              refine z_iconst (q := 112) (v := nI 3) dX8_isEntry_111 (by rfl) rfl ?_
              refine z_bipush (q := 114) (v := nI 7) dX8_isEntry_112 (by rfl) rfl ?_
              refine z_bipush (q := 116) (v := nI 59) dX8_isEntry_114 (by rfl) rfl ?_
              refine z_invV (q := 119) (c_X8_isNumber G m 3 7 q3 y (nI 59) hM m5 hy80 m8 mq (by decide) (by decide)) (by with_reducible assumption) rfl gX8_isEntry_X8_isNumber rfl hy_X8_isNumber rfl rfl rfl rfl (Nat.le_of_ble_eq_true rfl) ⟨Nat.zero_le _, Nat.zero_le _⟩ dX8_isEntry_116 rfl (z_rvR fun I9 R9 hZ9 => ?_)
              obtain ⟨rfl, o1, o2, q4, v4, o8, oq, o7, oN⟩ := hZ9
              rw [m4] at oN ⊢
              cases hn4 : numO (I (m + 4)) y q3 7 (nI 59) with
              | none =>
                rw [hn4] at hE
                refine z_if_eq (tgt := 140) (q := 122) dX8_isEntry_119 (by decide) rfl (fun _ => ?_) (fun hc => False.elim (hc rfl))
                exact f140 I9 hE (fun j h1 h2 => by rw [o1 j h1, m1 j h1]; exact w1 j h1 h2) (fun r r1 r2 => by rw [o2 r r1 r2, m2 r r1 r2]; exact w2 r r1 r2) _
              | some r4 =>
                have hr4 := oN r4 hn4
                subst hr4
                rw [hn4] at hE
                refine z_if_eq (tgt := 140) (q := 122) dX8_isEntry_119 (by decide) rfl (fun hc => False.elim (z_01 hc)) (fun _ => ?_)
                refine z_goto (q := 136) dX8_isEntry_122 (by decide) ?_
                refine z_iconst (q := 137) (v := nI 1) dX8_isEntry_136 (by rfl) rfl ?_
                refine z_goto (q := 141) dX8_isEntry_137 (by decide) ?_
                rw [hE]
                refine z_zret rfl (by rfl) dX8_isEntry_141 (Nat.zero_le _) (Nat.zero_le _) ⟨rfl, rfl, rfl, rfl, fun j h1 h2 => by rw [o1 j h1, m1 j h1]; exact w1 j h1 h2, fun r r1 r2 => by rw [o2 r r1 r2, m2 r r1 r2]; exact w2 r r1 r2, ?_⟩
                rw [hE]
                refine ⟨o8, ?_, ?_, ?_, ?_, ?_⟩
                · rw [o1 10 (by decide), m1 10 (by decide)]; exact w10
                · rw [o7, upd_n _ _ (by decide), m7, upd_n _ _ (by decide)]; exact d0
                · rw [o7, upd_n _ _ (by decide), m7, upd_n _ _ (by decide)]; exact d1
                · rw [o7, upd_n _ _ (by decide), m7, upd_s]
                · rw [o7, upd_s]
          · rw [if_neg (by decide)] at hE
            refine z_if_ne (tgt := 125) (q := 99) dX8_isEntry_96 (by decide) rfl (fun _ => ?_) (fun hc => False.elim ((by decide : ¬ (1 : Nat) = 0) (absurd hc (by decide))))
            refine z_aload_n (q := 126) dX8_isEntry_125 rfl rfl rfl ?_
            refine z_iconst (q := 127) (v := nI 2) dX8_isEntry_126 (by rfl) rfl ?_
            refine z_iconst (q := 128) (v := nI 2) dX8_isEntry_127 (by rfl) rfl ?_
            refine z_bipush (q := 130) (v := nI 59) dX8_isEntry_128 (by rfl) rfl ?_
            refine z_invV (q := 133) (c_X8_isNumber G m 2 2 q2 y (nI 59) hM w5 hy80 w8 lq (by decide) (by decide)) (by with_reducible assumption) rfl gX8_isEntry_X8_isNumber rfl hy_X8_isNumber rfl rfl rfl rfl (Nat.le_of_ble_eq_true rfl) ⟨Nat.zero_le _, Nat.zero_le _⟩ dX8_isEntry_130 rfl (z_rvR fun I8 R8 hZ8 => ?_)
            obtain ⟨rfl, m1, m2, q3, v3, m8, mq, m7, mN⟩ := hZ8
            rw [w4] at mN ⊢
            rw [rdD] at hE
            cases hn3 : numO (I (m + 4)) y q2 2 (nI 59) with
            | none =>
              rw [hn3] at hE
              refine z_if_eq (tgt := 140) (q := 136) dX8_isEntry_133 (by decide) rfl (fun _ => ?_) (fun hc => False.elim (hc rfl))
              exact f140 I8 hE (fun j h1 h2 => by rw [m1 j h1]; exact w1 j h1 h2) (fun r r1 r2 => by rw [m2 r r1 r2]; exact w2 r r1 r2) _
            | some r3 =>
              have hr3 := mN r3 hn3
              subst hr3
              rw [hn3] at hE
              refine z_if_eq (tgt := 140) (q := 136) dX8_isEntry_133 (by decide) rfl (fun hc => False.elim (z_01 hc)) (fun _ => ?_)
              refine z_iconst (q := 137) (v := nI 1) dX8_isEntry_136 (by rfl) rfl ?_
              refine z_goto (q := 141) dX8_isEntry_137 (by decide) ?_
              rw [hE]
              refine z_zret rfl (by rfl) dX8_isEntry_141 (Nat.zero_le _) (Nat.zero_le _) ⟨rfl, rfl, rfl, rfl, fun j h1 h2 => by rw [m1 j h1]; exact w1 j h1 h2, fun r r1 r2 => by rw [m2 r r1 r2]; exact w2 r r1 r2, ?_⟩
              rw [hE]
              refine ⟨m8, ?_, ?_, ?_, ?_, ?_⟩
              · rw [m1 10 (by decide)]; exact w10
              · rw [m7, upd_n _ _ (by decide)]; exact d0
              · rw [m7, upd_n _ _ (by decide)]; exact d1
              · rw [m7, upd_s]
              · rw [m7, upd_n _ _ (by decide)]; exact d3
      rcases hkd with rfl | rfl
      · refine z_aload_n (q := 53) dX8_isEntry_52 rfl rfl rfl ?_
        refine z_iconst (q := 54) (v := nI 1) dX8_isEntry_53 (by rfl) rfl ?_
        refine z_iconst (q := 55) (v := nI 4) dX8_isEntry_54 (by rfl) rfl ?_
        refine z_aload_n (q := 56) dX8_isEntry_55 rfl rfl rfl ?_
        refine z_getV (q := 59) 8 10 1 28 rfl (by decide) rfl rfl rfl (by with_reducible assumption) (k10) dX8_isEntry_56 rfl ?_
        refine z_if_ne (tgt := 67) (q := 62) dX8_isEntry_59 (by decide) rfl (fun hc => False.elim (hc rfl)) (fun _ => ?_)
        refine z_bipush (q := 64) (v := nI 42) dX8_isEntry_62 (by rfl) rfl ?_
        refine z_goto (q := 69) dX8_isEntry_64 (by decide) ?_
        exact a69
      · refine z_aload_n (q := 53) dX8_isEntry_52 rfl rfl rfl ?_
        refine z_iconst (q := 54) (v := nI 1) dX8_isEntry_53 (by rfl) rfl ?_
        refine z_iconst (q := 55) (v := nI 4) dX8_isEntry_54 (by rfl) rfl ?_
        refine z_aload_n (q := 56) dX8_isEntry_55 rfl rfl rfl ?_
        refine z_getV (q := 59) 8 10 1 28 rfl (by decide) rfl rfl rfl (by with_reducible assumption) (k10) dX8_isEntry_56 rfl ?_
        refine z_if_ne (tgt := 67) (q := 62) dX8_isEntry_59 (by decide) rfl (fun _ => ?_) (fun hc => False.elim (absurd hc (by decide)))
        refine z_bipush (q := 69) (v := nI 58) dX8_isEntry_67 (by rfl) rfl ?_
        exact a69
  refine z_aload_n (q := 1) dX8_isEntry_0 rfl rfl rfl ?_
  refine z_aload_n (q := 2) dX8_isEntry_1 rfl rfl rfl ?_
  refine z_bipush (q := 4) (v := nI 115) dX8_isEntry_2 (by rfl) rfl ?_
  refine z_invV (q := 7) (c_X8_isNext G m p y (nI 115) hM hy hy80 hp hpy) (by with_reducible assumption) rfl gX8_isEntry_X8_isNext rfl hy_X8_isNext rfl rfl rfl rfl (Nat.le_of_ble_eq_true rfl) ⟨Nat.zero_le _, Nat.zero_le _⟩ dX8_isEntry_4 rfl (z_rvR fun I3 R3 hZ3 => ?_)
  obtain ⟨rfl, h3⟩ := hZ3
  by_cases n1 : nxt (I (m + 4)) y p (nI 115)
  · rw [if_pos n1] at h3 ⊢
    have hE : readE (I (m + 4)) y p = rdB (I (m + 4)) y 0 (p + 1) := by rw [readE, if_pos n1]
    refine z_if_eq (tgt := 14) (q := 10) dX8_isEntry_7 (by decide) rfl (fun hc => False.elim (absurd hc (by decide))) (fun _ => ?_)
    refine z_iconst (q := 11) (v := nI 0) dX8_isEntry_10 (by rfl) rfl ?_
    refine z_goto (q := 29) dX8_isEntry_11 (by decide) ?_
    refine z_put (q := 32) 8 10 1 28 rfl (by decide) rfl rfl (tyX8_ok 10 (by decide)) (rfl) (rfl) rfl (by with_reducible assumption) dX8_isEntry_29 rfl ?_
    refine main 0 (Or.inl rfl) hE n1.1 _ ?_ (zw_s _ _ _ _) (fun j h1 h2 => ?_) (fun r r1 r2 => ?_)
    · rw [zw_k _ _ (by decide), h3, zw_s]
    · rw [zw_k _ _ h2, h3, zw_k _ _ h1]
    · rw [zw_row _ _ r1, h3, zw_row _ _ r1]
  · rw [if_neg n1] at h3 ⊢
    have e8 : I3 m 8 = nI p := by rw [h3, zw_s]
    have e4 : I3 (m + 4) = I (m + 4) := by rw [h3, zw_row _ _ (by omega)]
    refine z_if_eq (tgt := 14) (q := 10) dX8_isEntry_7 (by decide) rfl (fun _ => ?_) (fun hc => False.elim (hc rfl))
    refine z_aload_n (q := 15) dX8_isEntry_14 rfl rfl rfl ?_
    refine z_bipush (q := 17) (v := nI 100) dX8_isEntry_15 (by rfl) rfl ?_
    refine z_invV (q := 20) (c_X8_isNext G m p y (nI 100) hM (by rw [h3, zw_k _ _ (by decide)]; exact hy) hy80 e8 hpy) (by with_reducible assumption) rfl gX8_isEntry_X8_isNext rfl hy_X8_isNext rfl rfl rfl rfl (Nat.le_of_ble_eq_true rfl) ⟨Nat.zero_le _, Nat.zero_le _⟩ dX8_isEntry_17 rfl (z_rvR fun I5 R5 hZ5 => ?_)
    obtain ⟨rfl, h5⟩ := hZ5
    rw [e4] at h5 ⊢
    by_cases n2 : nxt (I (m + 4)) y p (nI 100)
    · rw [if_pos n2] at h5 ⊢
      have hE : readE (I (m + 4)) y p = rdB (I (m + 4)) y 1 (p + 1) := by rw [readE, if_neg n1, if_pos n2]
      refine z_if_eq (tgt := 27) (q := 23) dX8_isEntry_20 (by decide) rfl (fun hc => False.elim (absurd hc (by decide))) (fun _ => ?_)
      refine z_iconst (q := 24) (v := nI 1) dX8_isEntry_23 (by rfl) rfl ?_
      refine z_goto (q := 29) dX8_isEntry_24 (by decide) ?_
      refine z_put (q := 32) 8 10 1 28 rfl (by decide) rfl rfl (tyX8_ok 10 (by decide)) (rfl) (rfl) rfl (by with_reducible assumption) dX8_isEntry_29 rfl ?_
      refine main 1 (Or.inr rfl) hE n2.1 _ ?_ (zw_s _ _ _ _) (fun j h1 h2 => ?_) (fun r r1 r2 => ?_)
      · rw [zw_k _ _ (by decide), h5, zw_s]
      · rw [zw_k _ _ h2, h5, zw_k _ _ h1, h3, zw_k _ _ h1]
      · rw [zw_row _ _ r1, h5, zw_row _ _ r1, h3, zw_row _ _ r1]
    · rw [if_neg n2] at h5 ⊢
      have hE : readE (I (m + 4)) y p = none := by rw [readE, if_neg n1, if_neg n2]
      refine z_if_eq (tgt := 27) (q := 23) dX8_isEntry_20 (by decide) rfl (fun _ => ?_) (fun hc => False.elim (hc rfl))
      refine z_bipush (q := 29) (v := (-4)) dX8_isEntry_27 (by rfl) rfl ?_
      refine z_put (q := 32) 8 10 1 28 rfl (by decide) rfl rfl (tyX8_ok 10 (by decide)) (rfl) (rfl) rfl (by with_reducible assumption) dX8_isEntry_29 rfl ?_
      have e10 : zw I5 m 10 (-4) m 10 = -4 := zw_s _ _ _ _
      refine z_aload_n (q := 33) dX8_isEntry_32 rfl rfl rfl ?_
      refine z_getI (q := 36) 8 10 1 28 rfl (by decide) rfl rfl rfl (by with_reducible assumption) dX8_isEntry_33 rfl ?_
      refine z_bipush (q := 38) (v := (-4)) dX8_isEntry_36 (by rfl) rfl ?_
      refine z_icmp_eq (tgt := 79) (q := 41) dX8_isEntry_38 (by decide) rfl (fun _ => ?_) (fun hc => False.elim (hc e10))
      refine f79 _ hE (fun j h1 h2 => ?_) (fun r r1 r2 => ?_)
      · rw [zw_k _ _ h2, h5, zw_k _ _ h1, h3, zw_k _ _ h1]
      · rw [zw_row _ _ r1, h5, zw_row _ _ r1, h3, zw_row _ _ r1]
/-- the reason against an entry that is read -/
def rsnE (g : Nat → Int32) (ah en : Int32) (kd : Nat) (a t s mu : Int32) : Int32 := if (if kd = 0 then a < 0 ∨ g 0 ≤ a else a < 0 ∨ g 1 ≤ a) then nI 2 else if nI 5000 < t ∨ (if kd = 0 then (s < nI 1 ∨ nI 20 < s) ∨ mu < nI 1 ∨ 1000000 < mu else nI 10 < s) then nI 3 else if t < g 3 then nI 4 else if g 2 + ah = nI 16 then nI 5 else if kd = 0 ∧ 1000000000 < g 5 + en + s * mu then nI 6 else nI 0
def rsnR (g : Nat → Int32) (ah en : Int32) : Option zR → Int32
  | none => nI 1
  | some (kd, a, t, s, mu, _) => rsnE g ah en kd a t s mu
set_option maxRecDepth 100000 in
set_option maxHeartbeats 4000000 in
theorem c_X8_reasonOf (G : zG) {n : Nat} {T : zTT} {I : zII} {R : zRR} (m p y : Nat) (ah en : Int32) (hM : z_Mod T R m) (hy : I m 5 = nI y) (hy80 : y ≤ 80) (hp : I m 8 = nI p) (hpy : p ≤ y) : Ct G yX8_reasonOf wsX8_reasonOf (3, 0, 0) [.ref m, .int ah, .int en] n T I R (z_rel (some (.int (rsnR (I (m + 1)) ah en (readE (I (m + 4)) y p)))) n T (fun I' R' => R' = R ∧ z_ent m y p I I')) := by
  refine Ct.ofX (M := muX8_reasonOf) (ls := [(0, .ref m), (1, .int ah), (2, .int en)]) (by decide +kernel) rfl (by decide) rfl rfl (Nat.le_of_ble_eq_true rfl) ?_
  obtain ⟨hTm, ⟨hTs, hRs⟩, -, -, ⟨hTt, hRt⟩, -, -, hTd, hRd⟩ := id hM
  refine z_aload_n (q := 1) dX8_reasonOf_0 rfl rfl rfl ?_
  refine z_invV (q := 4) (c_X8_isEntry G m p y hM hy hy80 hp hpy) (by with_reducible assumption) rfl gX8_reasonOf_X8_isEntry rfl hy_X8_isEntry rfl rfl rfl rfl (Nat.le_of_ble_eq_true rfl) ⟨Nat.zero_le _, Nat.zero_le _⟩ dX8_reasonOf_1 rfl (z_rvR fun I3 R3 hZ3 => ?_)
  obtain ⟨rfl, h3⟩ := hZ3
  have hq : ∀ r, r ≠ m → r ≠ m + 7 → I3 r = I r := h3.2.1
  cases hE : readE (I (m + 4)) y p with
  | none =>
    refine z_if_ne (tgt := 9) (q := 7) dX8_reasonOf_4 (by decide) rfl (fun hc => False.elim (hc rfl)) (fun _ => ?_)
    refine z_iconst (q := 8) (v := nI 1) dX8_reasonOf_7 (by rfl) rfl ?_
    exact z_iret rfl dX8_reasonOf_8 (Nat.zero_le _) (Nat.zero_le _) ⟨rfl, rfl, rfl, rfl, h3⟩
  | some e =>
    obtain ⟨kd, a, t, s, mu, q⟩ := e
    have hk := h3.2.2
    rw [hE] at hk
    obtain ⟨k8, k10, c0, c1, c2, c3⟩ := hk
    have hkd : kd = 0 ∨ kd = 1 := by
      have h1 : kd ≤ 1 := (readE_lt hE).2.2
      omega
    have es : I3 (m + 1) = I (m + 1) := hq _ (by omega) (by omega)
    refine z_if_ne (tgt := 9) (q := 7) dX8_reasonOf_4 (by decide) rfl (fun _ => ?_) (fun hc => False.elim (z_01 hc))
    have e0 : rsnR (I (m + 1)) ah en (some (kd, a, t, s, mu, q)) = rsnE (I (m + 1)) ah en kd a t s mu := rfl
    rw [e0]
    generalize hv : rsnE (I (m + 1)) ah en kd a t s mu = v
    have main : ∀ sd, sd = (if kd = 0 then 1 else 0) → ¬ (if kd = 0 then a < 0 ∨ I (m + 1) 0 ≤ a else a < 0 ∨ I (m + 1) 1 ≤ a) → z_X G muX8_reasonOf (3, 0, 0) (z_rel (some (.int v)) n T (fun I' R' => R' = R3 ∧ z_ent m y p I I')) n T I3 R3 0 0 57 [(0, .ref m), (1, .int ah), (2, .int en), (3, .int (nI sd))] [] := by
      intro sd hsd n2
      have f117 : (nI 5000 < t ∨ (if kd = 0 then (s < nI 1 ∨ nI 20 < s) ∨ mu < nI 1 ∨ 1000000 < mu else nI 10 < s)) → z_X G muX8_reasonOf (3, 0, 0) (z_rel (some (.int v)) n T (fun I' R' => R' = R3 ∧ z_ent m y p I I')) n T I3 R3 0 0 117 [(0, .ref m), (1, .int ah), (2, .int en), (3, .int (nI sd))] [] := by
        intro h
        refine z_iconst (q := 118) (v := nI 3) dX8_reasonOf_117 (by rfl) rfl ?_
        exact z_iret rfl dX8_reasonOf_118 (Nat.zero_le _) (Nat.zero_le _) ⟨by rw [← hv, rsnE, if_neg n2, if_pos h], rfl, rfl, rfl, h3⟩
      have f189 : ¬ (nI 5000 < t ∨ (if kd = 0 then (s < nI 1 ∨ nI 20 < s) ∨ mu < nI 1 ∨ 1000000 < mu else nI 10 < s)) → ¬ t < I (m + 1) 3 → ¬ I (m + 1) 2 + ah = nI 16 → ¬ (kd = 0 ∧ 1000000000 < I (m + 1) 5 + en + s * mu) → z_X G muX8_reasonOf (3, 0, 0) (z_rel (some (.int v)) n T (fun I' R' => R' = R3 ∧ z_ent m y p I I')) n T I3 R3 0 0 189 [(0, .ref m), (1, .int ah), (2, .int en), (3, .int (nI sd))] [] := by
        intro n3 n4 n5 n6
        refine z_iconst (q := 190) (v := nI 0) dX8_reasonOf_189 (by rfl) rfl ?_
        exact z_iret rfl dX8_reasonOf_190 (Nat.zero_le _) (Nat.zero_le _) ⟨by rw [← hv, rsnE, if_neg n2, if_neg n3, if_neg n4, if_neg n5, if_neg n6], rfl, rfl, rfl, h3⟩
      have f119 : ¬ (nI 5000 < t ∨ (if kd = 0 then (s < nI 1 ∨ nI 20 < s) ∨ mu < nI 1 ∨ 1000000 < mu else nI 10 < s)) → z_X G muX8_reasonOf (3, 0, 0) (z_rel (some (.int v)) n T (fun I' R' => R' = R3 ∧ z_ent m y p I I')) n T I3 R3 0 0 119 [(0, .ref m), (1, .int ah), (2, .int en), (3, .int (nI sd))] [] := by
        intro n3
        refine z_aload_n (q := 120) dX8_reasonOf_119 rfl rfl rfl ?_
        refine z_getR (q := 123) 8 9 2 42 rfl (by decide) rfl rfl rfl (by with_reducible assumption) (by with_reducible assumption) dX8_reasonOf_120 rfl ?_
        refine z_iconst (q := 124) (v := nI 1) dX8_reasonOf_123 (by rfl) rfl ?_
        refine z_iald (q := 125) _ (by with_reducible assumption) (rfl) (by omega) (by decide) dX8_reasonOf_124 rfl ?_
        refine z_aload_n (q := 126) dX8_reasonOf_125 rfl rfl rfl ?_
        refine z_getR (q := 129) 8 0 4 33 rfl (by decide) rfl rfl rfl (by with_reducible assumption) (by with_reducible assumption) dX8_reasonOf_126 rfl ?_
        refine z_iconst (q := 130) (v := nI 3) dX8_reasonOf_129 (by rfl) rfl ?_
        refine z_iald (q := 131) _ (by with_reducible assumption) (rfl) (by omega) (by decide) dX8_reasonOf_130 rfl ?_
        rw [c1, es]
        refine z_icmp_ge (tgt := 136) (q := 134) dX8_reasonOf_131 (by decide) rfl (fun h131 => ?_) (fun h131 => ?_)
        · have n4 : ¬ t < I (m + 1) 3 := Int32.not_lt.mpr h131
          refine z_aload_n (q := 137) dX8_reasonOf_136 rfl rfl rfl ?_
          refine z_getR (q := 140) 8 0 4 33 rfl (by decide) rfl rfl rfl (by with_reducible assumption) (by with_reducible assumption) dX8_reasonOf_137 rfl ?_
          refine z_iconst (q := 141) (v := nI 2) dX8_reasonOf_140 (by rfl) rfl ?_
          refine z_iald (q := 142) _ (by with_reducible assumption) (rfl) (by omega) (by decide) dX8_reasonOf_141 rfl ?_
          refine z_iload_n (q := 143) dX8_reasonOf_142 rfl rfl rfl ?_
          refine z_iadd (q := 144) dX8_reasonOf_143 rfl ?_
          refine z_bipush (q := 146) (v := nI 16) dX8_reasonOf_144 (by rfl) rfl ?_
          rw [es]
          refine z_icmp_ne (tgt := 153) (q := 149) dX8_reasonOf_146 (by decide) rfl (fun h146 => ?_) (fun h146 => ?_)
          · refine z_iload_n (q := 154) dX8_reasonOf_153 rfl rfl rfl ?_
            by_cases hk0 : kd = 0
            · rw [if_pos hk0] at hsd
              subst hsd
              refine z_if_eq (tgt := 189) (q := 157) dX8_reasonOf_154 (by decide) rfl (fun hc => False.elim (absurd hc (by decide))) (fun _ => ?_)
              refine z_aload_n (q := 158) dX8_reasonOf_157 rfl rfl rfl ?_
              refine z_getR (q := 161) 8 0 4 33 rfl (by decide) rfl rfl rfl (by with_reducible assumption) (by with_reducible assumption) dX8_reasonOf_158 rfl ?_
              refine z_iconst (q := 162) (v := nI 5) dX8_reasonOf_161 (by rfl) rfl ?_
              refine z_iald (q := 163) _ (by with_reducible assumption) (rfl) (by omega) (by decide) dX8_reasonOf_162 rfl ?_
              refine z_iload_n (q := 164) dX8_reasonOf_163 rfl rfl rfl ?_
              refine z_iadd (q := 165) dX8_reasonOf_164 rfl ?_
              refine z_aload_n (q := 166) dX8_reasonOf_165 rfl rfl rfl ?_
              refine z_getR (q := 169) 8 9 2 42 rfl (by decide) rfl rfl rfl (by with_reducible assumption) (by with_reducible assumption) dX8_reasonOf_166 rfl ?_
              refine z_iconst (q := 170) (v := nI 2) dX8_reasonOf_169 (by rfl) rfl ?_
              refine z_iald (q := 171) _ (by with_reducible assumption) (rfl) (by omega) (by decide) dX8_reasonOf_170 rfl ?_
              refine z_aload_n (q := 172) dX8_reasonOf_171 rfl rfl rfl ?_
              refine z_getR (q := 175) 8 9 2 42 rfl (by decide) rfl rfl rfl (by with_reducible assumption) (by with_reducible assumption) dX8_reasonOf_172 rfl ?_
              refine z_iconst (q := 176) (v := nI 3) dX8_reasonOf_175 (by rfl) rfl ?_
              refine z_iald (q := 177) _ (by with_reducible assumption) (rfl) (by omega) (by decide) dX8_reasonOf_176 rfl ?_
              refine z_imul (q := 178) dX8_reasonOf_177 rfl ?_
              refine z_iadd (q := 179) dX8_reasonOf_178 rfl ?_
              refine z_ldc (q := 181) (i := 5) (v := 1000000000) rfl dX8_reasonOf_179 rfl ?_
              rw [es, c2, c3]
              refine z_icmp_le (tgt := 189) (q := 184) dX8_reasonOf_181 (by decide) rfl (fun h181 => ?_) (fun h181 => ?_)
              · exact f189 n3 n4 h146 (fun z => absurd z.2 (Int32.not_lt.mpr h181))
              · refine z_bipush (q := 186) (v := nI 6) dX8_reasonOf_184 (by rfl) rfl ?_
                refine z_goto (q := 190) dX8_reasonOf_186 (by decide) ?_
                exact z_iret rfl dX8_reasonOf_190 (Nat.zero_le _) (Nat.zero_le _) ⟨by rw [← hv, rsnE, if_neg n2, if_neg n3, if_neg n4, if_neg h146, if_pos ⟨hk0, Int32.not_le.mp h181⟩], rfl, rfl, rfl, h3⟩
            · rw [if_neg hk0] at hsd
              subst hsd
              refine z_if_eq (tgt := 189) (q := 157) dX8_reasonOf_154 (by decide) rfl (fun _ => ?_) (fun hc => False.elim (hc rfl))
              exact f189 n3 n4 h146 (fun z => hk0 z.1)
          · refine z_iconst (q := 150) (v := nI 5) dX8_reasonOf_149 (by rfl) rfl ?_
            refine z_goto (q := 190) dX8_reasonOf_150 (by decide) ?_
            exact z_iret rfl dX8_reasonOf_190 (Nat.zero_le _) (Nat.zero_le _) ⟨by rw [← hv, rsnE, if_neg n2, if_neg n3, if_neg n4, if_pos h146], rfl, rfl, rfl, h3⟩
        · refine z_iconst (q := 135) (v := nI 4) dX8_reasonOf_134 (by rfl) rfl ?_
          exact z_iret rfl dX8_reasonOf_135 (Nat.zero_le _) (Nat.zero_le _) ⟨by rw [← hv, rsnE, if_neg n2, if_neg n3, if_pos (Int32.not_le.mp h131)], rfl, rfl, rfl, h3⟩
      refine z_aload_n (q := 58) dX8_reasonOf_57 rfl rfl rfl ?_
      refine z_getR (q := 61) 8 9 2 42 rfl (by decide) rfl rfl rfl (by with_reducible assumption) (by with_reducible assumption) dX8_reasonOf_58 rfl ?_
      refine z_iconst (q := 62) (v := nI 1) dX8_reasonOf_61 (by rfl) rfl ?_
      refine z_iald (q := 63) _ (by with_reducible assumption) (rfl) (by omega) (by decide) dX8_reasonOf_62 rfl ?_
      refine z_sipush (q := 66) (v := nI 5000) dX8_reasonOf_63 (by rfl) rfl ?_
      rw [c1]
      refine z_icmp_gt (tgt := 117) (q := 69) dX8_reasonOf_66 (by decide) rfl (fun h66 => ?_) (fun h66 => ?_)
      · exact f117 (Or.inl h66)
      · refine z_iload_n (q := 70) dX8_reasonOf_69 rfl rfl rfl ?_
        by_cases hk0 : kd = 0
        · have hsd2 := hsd
          rw [if_pos hk0] at hsd2
          subst hsd2
          refine z_if_eq (tgt := 106) (q := 73) dX8_reasonOf_70 (by decide) rfl (fun hc => False.elim (absurd hc (by decide))) (fun _ => ?_)
          refine z_aload_n (q := 74) dX8_reasonOf_73 rfl rfl rfl ?_
          refine z_getR (q := 77) 8 9 2 42 rfl (by decide) rfl rfl rfl (by with_reducible assumption) (by with_reducible assumption) dX8_reasonOf_74 rfl ?_
          refine z_iconst (q := 78) (v := nI 2) dX8_reasonOf_77 (by rfl) rfl ?_
          refine z_iald (q := 79) _ (by with_reducible assumption) (rfl) (by omega) (by decide) dX8_reasonOf_78 rfl ?_
          refine z_iconst (q := 80) (v := nI 1) dX8_reasonOf_79 (by rfl) rfl ?_
          refine z_bipush (q := 82) (v := nI 20) dX8_reasonOf_80 (by rfl) rfl ?_
          refine z_invS (q := 85) (c_X8_in G (I3 (m + 7) 2) (nI 1) (nI 20)) gX8_reasonOf_X8_in rfl hy_X8_in rfl rfl rfl rfl (Nat.le_of_ble_eq_true rfl) ⟨Nat.zero_le _, Nat.zero_le _⟩ dX8_reasonOf_82 rfl (z_rv ?_)
          rw [c2]
          by_cases hs : s < nI 1 ∨ nI 20 < s
          · rw [if_pos hs]
            refine z_if_eq (tgt := 117) (q := 88) dX8_reasonOf_85 (by decide) rfl (fun _ => ?_) (fun hc => False.elim (hc rfl))
            exact f117 (Or.inr (by rw [if_pos hk0]; exact Or.inl hs))
          rw [if_neg hs]
          refine z_if_eq (tgt := 117) (q := 88) dX8_reasonOf_85 (by decide) rfl (fun hc => False.elim (absurd hc (by decide))) (fun _ => ?_)
          refine z_aload_n (q := 89) dX8_reasonOf_88 rfl rfl rfl ?_
          refine z_getR (q := 92) 8 9 2 42 rfl (by decide) rfl rfl rfl (by with_reducible assumption) (by with_reducible assumption) dX8_reasonOf_89 rfl ?_
          refine z_iconst (q := 93) (v := nI 3) dX8_reasonOf_92 (by rfl) rfl ?_
          refine z_iald (q := 94) _ (by with_reducible assumption) (rfl) (by omega) (by decide) dX8_reasonOf_93 rfl ?_
          refine z_iconst (q := 95) (v := nI 1) dX8_reasonOf_94 (by rfl) rfl ?_
          refine z_ldc (q := 97) (i := 3) (v := 1000000) rfl dX8_reasonOf_95 rfl ?_
          refine z_invS (q := 100) (c_X8_in G (I3 (m + 7) 3) (nI 1) 1000000) gX8_reasonOf_X8_in rfl hy_X8_in rfl rfl rfl rfl (Nat.le_of_ble_eq_true rfl) ⟨Nat.zero_le _, Nat.zero_le _⟩ dX8_reasonOf_97 rfl (z_rv ?_)
          rw [c3]
          by_cases hm : mu < nI 1 ∨ 1000000 < mu
          · rw [if_pos hm]
            refine z_if_ne (tgt := 119) (q := 103) dX8_reasonOf_100 (by decide) rfl (fun hc => False.elim (hc rfl)) (fun _ => ?_)
            refine z_goto (q := 117) dX8_reasonOf_103 (by decide) ?_
            exact f117 (Or.inr (by rw [if_pos hk0]; exact Or.inr hm))
          · rw [if_neg hm]
            refine z_if_ne (tgt := 119) (q := 103) dX8_reasonOf_100 (by decide) rfl (fun _ => ?_) (fun hc => False.elim (absurd hc (by decide)))
            exact f119 (fun z => z.elim h66 (fun z => by rw [if_pos hk0] at z; exact z.elim hs hm))
        · have hsd2 := hsd
          rw [if_neg hk0] at hsd2
          subst hsd2
          refine z_if_eq (tgt := 106) (q := 73) dX8_reasonOf_70 (by decide) rfl (fun _ => ?_) (fun hc => False.elim (hc rfl))
          refine z_aload_n (q := 107) dX8_reasonOf_106 rfl rfl rfl ?_
          refine z_getR (q := 110) 8 9 2 42 rfl (by decide) rfl rfl rfl (by with_reducible assumption) (by with_reducible assumption) dX8_reasonOf_107 rfl ?_
          refine z_iconst (q := 111) (v := nI 2) dX8_reasonOf_110 (by rfl) rfl ?_
          refine z_iald (q := 112) _ (by with_reducible assumption) (rfl) (by omega) (by decide) dX8_reasonOf_111 rfl ?_
          refine z_bipush (q := 114) (v := nI 10) dX8_reasonOf_112 (by rfl) rfl ?_
          rw [c2]
          refine z_icmp_le (tgt := 119) (q := 117) dX8_reasonOf_114 (by decide) rfl (fun h114 => ?_) (fun h114 => ?_)
          · exact f119 (fun z => z.elim h66 (fun z => by rw [if_neg hk0] at z; exact absurd z (Int32.not_lt.mpr h114)))
          · exact f117 (Or.inr (by rw [if_neg hk0]; exact Int32.not_le.mp h114))
    have f55 : ∀ sd, (if kd = 0 then a < 0 ∨ I (m + 1) 0 ≤ a else a < 0 ∨ I (m + 1) 1 ≤ a) → z_X G muX8_reasonOf (3, 0, 0) (z_rel (some (.int v)) n T (fun I' R' => R' = R3 ∧ z_ent m y p I I')) n T I3 R3 0 0 55 [(0, .ref m), (1, .int ah), (2, .int en), (3, .int (nI sd))] [] := by
      intro sd h
      refine z_iconst (q := 56) (v := nI 2) dX8_reasonOf_55 (by rfl) rfl ?_
      exact z_iret rfl dX8_reasonOf_56 (Nat.zero_le _) (Nat.zero_le _) ⟨by rw [← hv, rsnE, if_pos h], rfl, rfl, rfl, h3⟩
    refine z_aload_n (q := 10) dX8_reasonOf_9 rfl rfl rfl ?_
    refine z_getV (q := 13) 8 10 1 43 rfl (by decide) rfl rfl rfl (by with_reducible assumption) (k10) dX8_reasonOf_10 rfl ?_
    by_cases hk0 : kd = 0
    · refine z_if_ne (tgt := 20) (q := 16) dX8_reasonOf_13 (by decide) rfl (fun hc => False.elim (hc (by rw [hk0]; rfl))) (fun _ => ?_)
      refine z_iconst (q := 17) (v := nI 1) dX8_reasonOf_16 (by rfl) rfl ?_
      refine z_goto (q := 21) dX8_reasonOf_17 (by decide) ?_
      refine z_istore_n (q := 22) dX8_reasonOf_21 rfl (by decide) rfl ?_
      refine z_iload_n (q := 23) dX8_reasonOf_22 rfl rfl rfl ?_
      refine z_if_eq (tgt := 42) (q := 26) dX8_reasonOf_23 (by decide) rfl (fun hc => False.elim (absurd hc (by decide))) (fun _ => ?_)
      refine z_aload_n (q := 27) dX8_reasonOf_26 rfl rfl rfl ?_
      refine z_aload_n (q := 28) dX8_reasonOf_27 rfl rfl rfl ?_
      refine z_getR (q := 31) 8 9 2 42 rfl (by decide) rfl rfl rfl (by with_reducible assumption) (by with_reducible assumption) dX8_reasonOf_28 rfl ?_
      refine z_iconst (q := 32) (v := nI 0) dX8_reasonOf_31 (by rfl) rfl ?_
      refine z_iald (q := 33) _ (by with_reducible assumption) (rfl) (by omega) (by decide) dX8_reasonOf_32 rfl ?_
      refine z_invV (q := 36) (c_X8_isRoom G m (I3 (m + 7) 0) hM) (by with_reducible assumption) rfl gX8_reasonOf_X8_isRoom rfl hy_X8_isRoom rfl rfl rfl rfl (Nat.le_of_ble_eq_true rfl) ⟨Nat.zero_le _, Nat.zero_le _⟩ dX8_reasonOf_33 rfl (z_rv ?_)
      rw [c0, es]
      by_cases ha : a < 0 ∨ I (m + 1) 0 ≤ a
      · rw [if_pos ha]
        refine z_if_ne (tgt := 57) (q := 39) dX8_reasonOf_36 (by decide) rfl (fun hc => False.elim (hc rfl)) (fun _ => ?_)
        refine z_goto (q := 55) dX8_reasonOf_39 (by decide) ?_
        exact f55 1 (by rw [if_pos hk0]; exact ha)
      · rw [if_neg ha]
        refine z_if_ne (tgt := 57) (q := 39) dX8_reasonOf_36 (by decide) rfl (fun _ => ?_) (fun hc => False.elim (absurd hc (by decide)))
        exact main 1 (by rw [if_pos hk0]) (by rw [if_pos hk0]; exact ha)
    · refine z_if_ne (tgt := 20) (q := 16) dX8_reasonOf_13 (by decide) rfl (fun _ => ?_) (fun hc => False.elim (hk0 ((nI_eq (a := kd) (b := 0) (by omega) (by omega)).mp hc)))
      refine z_iconst (q := 21) (v := nI 0) dX8_reasonOf_20 (by rfl) rfl ?_
      refine z_istore_n (q := 22) dX8_reasonOf_21 rfl (by decide) rfl ?_
      refine z_iload_n (q := 23) dX8_reasonOf_22 rfl rfl rfl ?_
      refine z_if_eq (tgt := 42) (q := 26) dX8_reasonOf_23 (by decide) rfl (fun _ => ?_) (fun hc => False.elim (hc rfl))
      refine z_aload_n (q := 43) dX8_reasonOf_42 rfl rfl rfl ?_
      refine z_aload_n (q := 44) dX8_reasonOf_43 rfl rfl rfl ?_
      refine z_getR (q := 47) 8 9 2 42 rfl (by decide) rfl rfl rfl (by with_reducible assumption) (by with_reducible assumption) dX8_reasonOf_44 rfl ?_
      refine z_iconst (q := 48) (v := nI 0) dX8_reasonOf_47 (by rfl) rfl ?_
      refine z_iald (q := 49) _ (by with_reducible assumption) (rfl) (by omega) (by decide) dX8_reasonOf_48 rfl ?_
      refine z_invV (q := 52) (c_X8_isDoor G m (I3 (m + 7) 0) hM) (by with_reducible assumption) rfl gX8_reasonOf_X8_isDoor rfl hy_X8_isDoor rfl rfl rfl rfl (Nat.le_of_ble_eq_true rfl) ⟨Nat.zero_le _, Nat.zero_le _⟩ dX8_reasonOf_49 rfl (z_rv ?_)
      rw [c0, es]
      by_cases ha : a < 0 ∨ I (m + 1) 1 ≤ a
      · rw [if_pos ha]
        refine z_if_ne (tgt := 57) (q := 55) dX8_reasonOf_52 (by decide) rfl (fun hc => False.elim (hc rfl)) (fun _ => ?_)
        exact f55 0 (by rw [if_neg hk0]; exact ha)
      · rw [if_neg ha]
        refine z_if_ne (tgt := 57) (q := 55) dX8_reasonOf_52 (by decide) rfl (fun _ => ?_) (fun hc => False.elim (absurd hc (by decide)))
        exact main 0 (by rw [if_neg hk0]) (by rw [if_neg hk0]; exact ha)

