/-! THE CLASS, its text: entries read, reasons -/
set_option maxRecDepth 100000 in
set_option maxHeartbeats 4000000 in
theorem c_X7_isWithin (G : zG) {n : Nat} {T : zTT} {I : zII} {R : zRR} (x y z : Int32) : Ct G yX7_isWithin wsX7_isWithin (0, 0, 0) [.int x, .int y, .int z] n T I R (z_ret (some (.int (if x < y ∨ z < x then 0 else 1))) n T I R) := by
  refine Ct.ofX (M := muX7_isWithin) (ls := [(0, .int x), (1, .int y), (2, .int z)]) (by decide +kernel) rfl (by decide) rfl rfl (Nat.le_of_ble_eq_true rfl) ?_
  refine z_iload_n (q := 1) dX7_isWithin_0 rfl rfl rfl ?_
  refine z_iload_n (q := 2) dX7_isWithin_1 rfl rfl rfl ?_
  refine z_icmp_lt (tgt := 14) (q := 5) dX7_isWithin_2 (by decide) rfl (fun h2 => ?_) (fun h2 => ?_)
  · refine z_iconst (q := 15) (v := nI 0) dX7_isWithin_14 (by rfl) rfl ?_
    exact z_zret rfl (by rfl) dX7_isWithin_15 (Nat.zero_le _) (Nat.zero_le _) (⟨by simp_all [nI_0, zI1], rfl, rfl, rfl, rfl⟩)
  · refine z_iload_n (q := 6) dX7_isWithin_5 rfl rfl rfl ?_
    refine z_iload_n (q := 7) dX7_isWithin_6 rfl rfl rfl ?_
    refine z_icmp_gt (tgt := 14) (q := 10) dX7_isWithin_7 (by decide) rfl (fun h7 => ?_) (fun h7 => ?_)
    · refine z_iconst (q := 15) (v := nI 0) dX7_isWithin_14 (by rfl) rfl ?_
      exact z_zret rfl (by rfl) dX7_isWithin_15 (Nat.zero_le _) (Nat.zero_le _) (⟨by simp_all [nI_0, zI1], rfl, rfl, rfl, rfl⟩)
    · refine z_iconst (q := 11) (v := nI 1) dX7_isWithin_10 (by rfl) rfl ?_
      refine z_goto (q := 15) dX7_isWithin_11 (by decide) ?_
      exact z_zret rfl (by rfl) dX7_isWithin_15 (Nat.zero_le _) (Nat.zero_le _) (⟨by simp_all [nI_0, zI1], rfl, rfl, rfl, rfl⟩)
theorem z_rdQ_t {s q : Nat} {I J I' : zII} {o : Option zR} (h : z_sp s q I J) (h2 : z_rdQ s J I' o) : z_rdQ s I I' o := ⟨fun j hj => (h2.1 j hj).trans (h.2.1 j hj), fun r r1 r2 => (h2.2.1 r r1 r2).trans (h.2.2 r r1), h2.2.2⟩
theorem z_i01 {c : Prop} [Decidable c] : (if c then (1 : Int32) else 0) = 0 ∨ (if c then (1 : Int32) else 0) = 1 := by
  split
  · exact Or.inr rfl
  · exact Or.inl rfl
set_option maxRecDepth 100000 in
set_option maxHeartbeats 4000000 in
theorem c_X6_readEntry (G : zG) {n : Nat} {T : zTT} {I : zII} {R : zRR} (s p y : Nat) (hS : z_Sc T R s) (hy : I s 1 = nI y) (hy80 : y ≤ 80) (hp : I s 4 = nI p) (hpy : p ≤ y) (ht : TXT (I (s + 1))) : Ct G yX6_readEntry wsX6_readEntry (3, 0, 0) [.ref s] n T I R (z_rel (some (.int (if (readE (I (s + 1)) y p).isSome then 1 else 0))) n T (fun I' R' => R' = R ∧ z_rdQ s I I' (readE (I (s + 1)) y p))) := by
  refine Ct.ofX (M := muX6_readEntry) (ls := [(0, .ref s)]) (by decide +kernel) rfl (by decide) rfl rfl (Nat.le_of_ble_eq_true rfl) ?_
  obtain ⟨hTs, ⟨hTc, hRc⟩, hTe, hRe⟩ := id hS
  have zero : ∀ I4 q, readE (I (s + 1)) y p = none → z_sp s q I I4 → ∀ ls : List (Nat × Value), z_X G muX6_readEntry (3, 0, 0) (z_rel (some (.int (if (readE (I (s + 1)) y p).isSome then 1 else 0))) n T (fun I' R' => R' = R ∧ z_rdQ s I I' (readE (I (s + 1)) y p))) n T I4 R 0 0 34 ls [] := by
    intro I4 q hN h4 ls
    rw [hN]
    refine z_iconst (q := 35) (v := nI 0) dX6_readEntry_34 (by rfl) rfl ?_
    exact z_zret rfl (by rfl) dX6_readEntry_35 (Nat.zero_le _) (Nat.zero_le _) ⟨rfl, rfl, rfl, rfl, h4.2.1, fun r r1 _ => h4.2.2 r r1, trivial⟩
  refine z_aload_n (q := 1) dX6_readEntry_0 rfl rfl rfl ?_
  refine z_bipush (q := 3) (v := nI 115) dX6_readEntry_1 (by rfl) rfl ?_
  refine z_invV (q := 6) (c_X6_readSign G s p y (nI 115) hS hy hy80 hp hpy) (by with_reducible assumption) rfl gX6_readEntry_X6_readSign rfl hy_X6_readSign rfl rfl rfl rfl (Nat.le_of_ble_eq_true rfl) ⟨Nat.zero_le _, Nat.zero_le _⟩ dX6_readEntry_3 rfl (z_rvR fun J0 R0 hZ0 => ?_)
  obtain ⟨hr0, h0⟩ := hZ0
  rw [hr0]
  have hT0 : J0 (s + 1) = I (s + 1) := h0.2.2 _ (by omega)
  have hy0 : J0 s 1 = nI y := by rw [h0.2.1 1 (by decide)]; exact hy
  by_cases hx : nxt (I (s + 1)) y p (nI 115)
  · rw [if_pos hx] at h0 ⊢
    have hE : readE (I (s + 1)) y p = rdB (I (s + 1)) y 0 (p + 1) := by rw [readE, if_pos hx]
    rw [hE]
    refine z_if_eq (tgt := 14) (q := 9) dX6_readEntry_6 (by decide) rfl (fun hc => False.elim (absurd hc (by decide))) (fun _ => ?_)
    refine z_aload_n (q := 10) dX6_readEntry_9 rfl rfl rfl ?_
    refine z_invV (q := 13) (c_X6_readSound G s (p + 1) y hS hy0 hy80 h0.1 hx.1 (by rw [hT0]; exact ht)) (by with_reducible assumption) rfl gX6_readEntry_X6_readSound rfl hy_X6_readSound rfl rfl rfl rfl (Nat.le_of_ble_eq_true rfl) ⟨Nat.zero_le _, Nat.zero_le _⟩ dX6_readEntry_10 rfl (z_rvR fun J1 R1 hZ1 => ?_)
    obtain ⟨hr1, h1⟩ := hZ1
    rw [hT0] at h1 ⊢
    exact z_zret rfl (z_bn z_i01) dX6_readEntry_13 (Nat.zero_le _) (Nat.zero_le _) ⟨rfl, rfl, rfl, hr1, z_rdQ_t h0 h1⟩
  · rw [if_neg hx] at h0 ⊢
    refine z_if_eq (tgt := 14) (q := 9) dX6_readEntry_6 (by decide) rfl (fun _ => ?_) (fun hc => False.elim (hc rfl))
    refine z_aload_n (q := 15) dX6_readEntry_14 rfl rfl rfl ?_
    refine z_bipush (q := 17) (v := nI 100) dX6_readEntry_15 (by rfl) rfl ?_
    refine z_invV (q := 20) (c_X6_readSign G s p y (nI 100) hS hy0 hy80 h0.1 hpy) (by with_reducible assumption) rfl gX6_readEntry_X6_readSign rfl hy_X6_readSign rfl rfl rfl rfl (Nat.le_of_ble_eq_true rfl) ⟨Nat.zero_le _, Nat.zero_le _⟩ dX6_readEntry_17 rfl (z_rvR fun J2 R2 hZ2 => ?_)
    obtain ⟨hr2, h2'⟩ := hZ2
    rw [hr2]
    rw [hT0] at h2' ⊢
    have h2 := z_sp_t h0 h2'
    have hT2 : J2 (s + 1) = I (s + 1) := h2.2.2 _ (by omega)
    have hy2 : J2 s 1 = nI y := by rw [h2.2.1 1 (by decide)]; exact hy
    by_cases hx2 : nxt (I (s + 1)) y p (nI 100)
    · rw [if_pos hx2] at h2 ⊢
      have hE : readE (I (s + 1)) y p = rdB (I (s + 1)) y 1 (p + 1) := by rw [readE, if_neg hx, if_pos hx2]
      refine z_if_eq (tgt := 34) (q := 23) dX6_readEntry_20 (by decide) rfl (fun hc => False.elim (absurd hc (by decide))) (fun _ => ?_)
      refine z_aload_n (q := 24) dX6_readEntry_23 rfl rfl rfl ?_
      refine z_invV (q := 27) (c_X6_readTarget G s (p + 1) y hS hy2 hy80 h2.1 hx2.1 (by rw [hT2]; exact ht)) (by with_reducible assumption) rfl gX6_readEntry_X6_readTarget rfl hy_X6_readTarget rfl rfl rfl rfl (Nat.le_of_ble_eq_true rfl) ⟨Nat.zero_le _, Nat.zero_le _⟩ dX6_readEntry_24 rfl (z_rvR fun J3 R3 hZ3 => ?_)
      obtain ⟨hr3, h3'⟩ := hZ3
      rw [hr3]
      rw [hT2] at h3' ⊢
      have h3 := z_rdQ_t h2 h3'
      rw [hE]
      cases ho : rdB (I (s + 1)) y 1 (p + 1) with
      | none =>
        rw [ho] at h3
        refine z_if_eq (tgt := 34) (q := 30) dX6_readEntry_27 (by decide) rfl (fun _ => ?_) (fun hc => False.elim (hc rfl))
        refine z_iconst (q := 35) (v := nI 0) dX6_readEntry_34 (by rfl) rfl ?_
        exact z_zret rfl (by rfl) dX6_readEntry_35 (Nat.zero_le _) (Nat.zero_le _) ⟨rfl, rfl, rfl, rfl, h3⟩
      | some e =>
        rw [ho] at h3
        refine z_if_eq (tgt := 34) (q := 30) dX6_readEntry_27 (by decide) rfl (fun hc => False.elim (z_01 hc)) (fun _ => ?_)
        refine z_iconst (q := 31) (v := nI 1) dX6_readEntry_30 (by rfl) rfl ?_
        refine z_goto (q := 35) dX6_readEntry_31 (by decide) ?_
        exact z_zret rfl (by rfl) dX6_readEntry_35 (Nat.zero_le _) (Nat.zero_le _) ⟨rfl, rfl, rfl, rfl, h3⟩
    · rw [if_neg hx2] at h2 ⊢
      refine z_if_eq (tgt := 34) (q := 23) dX6_readEntry_20 (by decide) rfl (fun _ => ?_) (fun hc => False.elim (hc rfl))
      exact zero J2 p (by rw [readE, if_neg hx, if_neg hx2]) h2 _
set_option maxRecDepth 100000 in
set_option maxHeartbeats 4000000 in
theorem c_X6_append (G : zG) {n : Nat} {T : zTT} {I : zII} {R : zRR} (s y c : Nat) (hS : z_Sc T R s) (hy : I s 1 = nI y) (hy80 : y < 80) (hc : c ≤ 126) : Ct G yX6_append wsX6_append (0, 0, 0) [.ref s, .int (nI c)] n T I R (z_ret none n T (zw (zw I (s + 1) y (nI c)) s 1 (nI (y + 1))) R) := by
  refine Ct.ofX (M := muX6_append) (ls := [(0, .ref s), (1, .int (nI c))]) (by decide +kernel) rfl (by decide) rfl rfl (Nat.le_of_ble_eq_true rfl) ?_
  obtain ⟨hTs, ⟨hTc, hRc⟩, hTe, hRe⟩ := id hS
  have hy2 : zw I (s + 1) y (nI c) s 1 = nI y := by rw [zw_row _ _ (by omega)]; exact hy
  refine z_aload_n (q := 1) dX6_append_0 rfl rfl rfl ?_
  refine z_getV (q := 4) 6 1 1 4 rfl (by decide) rfl rfl rfl (by with_reducible assumption) (hy) dX6_append_1 rfl ?_
  refine z_if_lt (tgt := 39) (q := 7) dX6_append_4 (by decide) rfl (fun hc => False.elim (nI_pos (n := y) (by omega) hc)) (fun _ => ?_)
  refine z_aload_n (q := 8) dX6_append_7 rfl rfl rfl ?_
  refine z_getV (q := 11) 6 1 1 4 rfl (by decide) rfl rfl rfl (by with_reducible assumption) (hy) dX6_append_8 rfl ?_
  refine z_aload_n (q := 12) dX6_append_11 rfl rfl rfl ?_
  refine z_getR (q := 15) 6 0 2 3 rfl (by decide) rfl rfl rfl (by with_reducible assumption) (by with_reducible assumption) dX6_append_12 rfl ?_
  refine z_alen (q := 16) (by with_reducible assumption) dX6_append_15 rfl ?_
  refine z_icmpn_ge (rfl) (rfl) (by omega) (by omega) (tgt := 39) (q := 19) dX6_append_16 (by decide) rfl (fun hc => absurd hc (by omega)) (fun _ => ?_)
  refine z_aload_n (q := 20) dX6_append_19 rfl rfl rfl ?_
  refine z_getR (q := 23) 6 0 2 3 rfl (by decide) rfl rfl rfl (by with_reducible assumption) (by with_reducible assumption) dX6_append_20 rfl ?_
  refine z_aload_n (q := 24) dX6_append_23 rfl rfl rfl ?_
  refine z_getV (q := 27) 6 1 1 4 rfl (by decide) rfl rfl rfl (by with_reducible assumption) (hy) dX6_append_24 rfl ?_
  refine z_iload_n (q := 28) dX6_append_27 rfl rfl rfl ?_
  refine z_cast (q := 29) _ (by with_reducible assumption) (rfl) (by omega) (by decide) ((pk_charN (by omega)).1) dX6_append_28 rfl ?_
  refine z_aload_n (q := 30) dX6_append_29 rfl rfl rfl ?_
  refine z_dup (q := 31) dX6_append_30 rfl rfl ?_
  refine z_getV (q := 34) 6 1 1 4 rfl (by decide) rfl rfl rfl (by with_reducible assumption) (hy2) dX6_append_31 rfl ?_
  refine z_iconst (q := 35) (v := nI 1) dX6_append_34 (by rfl) rfl ?_
  refine z_iaddE (q := 36) dX6_append_35 (nI_add _ _) rfl ?_
  refine z_put (q := 39) 6 1 1 4 rfl (by decide) rfl rfl (tyX6_ok 1 (by decide)) (rfl) (rfl) rfl (by with_reducible assumption) dX6_append_36 rfl ?_
  exact z_vret rfl dX6_append_39 (Nat.zero_le _) (Nat.zero_le _) (⟨rfl, rfl, rfl, rfl, rfl⟩)
theorem numO_nat {tx : Nat → Int32} {y p d : Nat} {c : Int32} {r : Int32 × Nat} (ht : TXT tx) (hy : y ≤ 80) (hd : d ≤ 7) (h : numO tx y p d c = some r) : ∃ w, r.1 = nI w ∧ w < 10 ^ d := by
  rw [numO_e c ht hy hd] at h
  split at h
  next hc =>
    cases h
    rcases numA_v (p := p) ht hy hd with ⟨h1, -⟩ | ⟨w, h1, h2, -⟩
    · exact absurd (by rw [h1]; decide) hc.1
    · exact ⟨w, h1, h2⟩
  next => cases h
/-- an entry read holds numbers -/
theorem rdB_nat {tx : Nat → Int32} {y kd q : Nat} {e : zR} (ht : TXT tx) (hy : y ≤ 80) (h : rdB tx y kd q = some e) : ∃ a t s mu : Nat, e.2.1 = nI a ∧ e.2.2.1 = nI t ∧ e.2.2.2.1 = nI s ∧ e.2.2.2.2.1 = nI mu ∧ a < 10000000 ∧ t < 10000000 ∧ s < 10000000 ∧ mu < 10000000 := by
  unfold rdB at h
  cases h1 : numO tx y q 2 (nI 64) with
  | none => rw [h1] at h; cases h
  | some r1 =>
    rw [h1, rd2_s] at h
    obtain ⟨a, a1, a2⟩ := numO_nat ht hy (by decide) h1
    cases h2 : numO tx y r1.2 4 (if kd = 0 then nI 42 else nI 58) with
    | none => rw [h2] at h; cases h
    | some r2 =>
      rw [h2, rd2_s] at h
      obtain ⟨t, t1, t2⟩ := numO_nat ht hy (by decide) h2
      by_cases hk : kd = 0
      · rw [if_pos hk] at h
        unfold rdC at h
        cases h3 : numO tx y r2.2 2 (nI 61) with
        | none => rw [h3] at h; cases h
        | some r3 =>
          rw [h3, rd2_s] at h
          obtain ⟨s, s1, s2⟩ := numO_nat ht hy (by decide) h3
          cases h4 : numO tx y r3.2 7 (nI 59) with
          | none => rw [h4] at h; cases h
          | some r4 =>
            rw [h4, rd2_s] at h
            obtain ⟨mu, m1, m2⟩ := numO_nat ht hy (by decide) h4
            cases h
            exact ⟨a, t, s, mu, a1, t1, s1, m1, p10 a2 (by decide), p10 t2 (by decide), p10 s2 (by decide), p10 m2 (by decide)⟩
      · rw [if_neg hk] at h
        unfold rdD at h
        cases h3 : numO tx y r2.2 2 (nI 59) with
        | none => rw [h3] at h; cases h
        | some r3 =>
          rw [h3, rd2_s] at h
          obtain ⟨s, s1, s2⟩ := numO_nat ht hy (by decide) h3
          cases h
          exact ⟨a, t, s, 0, a1, t1, s1, rfl, p10 a2 (by decide), p10 t2 (by decide), p10 s2 (by decide), by decide⟩
theorem readE_nat {tx : Nat → Int32} {y p : Nat} {e : zR} (ht : TXT tx) (hy : y ≤ 80) (h : readE tx y p = some e) : ∃ a t s mu : Nat, e.2.1 = nI a ∧ e.2.2.1 = nI t ∧ e.2.2.2.1 = nI s ∧ e.2.2.2.2.1 = nI mu ∧ a < 10000000 ∧ t < 10000000 ∧ s < 10000000 ∧ mu < 10000000 := by
  unfold readE at h
  split at h
  next => exact rdB_nat ht hy h
  next =>
    split at h
    next => exact rdB_nat ht hy h
    next => cases h

