/-! THE CLASS, its text: entries -/
def eE : zR → zE
  | (kd, a, t, s, mu, _) => (t, (if kd = 0 then nI 0 else nI 1), a, (if kd = 0 then s else nI 0), (if kd = 0 then mu else s))
def z_rde (s : Nat) (I' : zII) : Option zR → Prop
  | none => True
  | some e => I' s 4 = nI e.2.2.2.2.2 ∧ entC I' (s + 2) = eE e ∧ (I' (s + 2) 0 = 0 ∨ I' (s + 2) 0 = 1)
abbrev z_rdQ (s : Nat) (I I' : zII) (o : Option zR) : Prop := (∀ j, j ≠ 4 → I' s j = I s j) ∧ (∀ q, q ≠ s → q ≠ s + 2 → I' q = I q) ∧ z_rde s I' o
set_option maxRecDepth 100000 in
set_option maxHeartbeats 4000000 in
theorem c_X6_readSound (G : zG) {n : Nat} {T : zTT} {I : zII} {R : zRR} (s p y : Nat) (hS : z_Sc T R s) (hy : I s 1 = nI y) (hy80 : y ≤ 80) (hp : I s 4 = nI p) (hpy : p ≤ y) (ht : TXT (I (s + 1))) : Ct G yX6_readSound wsX6_readSound (2, 0, 0) [.ref s] n T I R (z_rel (some (.int (if (rdB (I (s + 1)) y 0 p).isSome then 1 else 0))) n T (fun I' R' => R' = R ∧ z_rdQ s I I' (rdB (I (s + 1)) y 0 p))) := by
  refine Ct.ofX (M := muX6_readSound) (ls := [(0, .ref s)]) (by decide +kernel) rfl (by decide) rfl rfl (Nat.le_of_ble_eq_true rfl) ?_
  obtain ⟨hTs, ⟨hTc, hRc⟩, hTe, hRe⟩ := id hS
  generalize ho : rdB (I (s + 1)) y 0 p = o
  have badE : o = none → ∀ I4 (z va vb vc vd : Int32), z = 0 → (∀ j, j ≠ 4 → I4 s j = I s j) → (∀ q, q ≠ s → I4 q = I q) → ∀ ls : List (Nat × Value), lv_pick ls [0, 1, 2, 3, 4, 5] = [(0, .ref s), (1, .int va), (2, .int z), (3, .int vb), (4, .int vc), (5, .int vd)] → z_X G muX6_readSound (2, 0, 0) (z_rel (some (.int (if o.isSome then 1 else 0))) n T (fun I' R' => R' = R ∧ z_rdQ s I I' o)) n T I4 R 0 0 91 ls [] := by
    intro hN I4 z va vb vc vd hz e1 e2 ls hls
    refine z_pick [0, 1, 2, 3, 4, 5] hls ?_
    refine z_aload_n (q := 92) dX6_readSound_91 rfl rfl rfl ?_
    refine z_getR (q := 95) 6 5 1 33 rfl (by decide) rfl rfl rfl (by with_reducible assumption) (by with_reducible assumption) dX6_readSound_92 rfl ?_
    refine z_iload_n (q := 96) dX6_readSound_95 rfl rfl rfl ?_
    refine z_iload_n (q := 97) dX6_readSound_96 rfl rfl rfl ?_
    refine z_iload (q := 99) (i := 4) dX6_readSound_97 rfl rfl ?_
    refine z_iload (q := 101) (i := 5) dX6_readSound_99 rfl rfl ?_
    refine z_invV (q := 104) (c_X1_becomeSound G (s + 2) va vb vc vd hTe) (by with_reducible assumption) rfl gX6_readSound_X1_becomeSound rfl hy_X1_becomeSound rfl rfl rfl rfl (Nat.le_of_ble_eq_true rfl) ⟨Nat.zero_le _, Nat.zero_le _⟩ dX6_readSound_101 rfl (z_rn ?_)
    refine z_iload_n (q := 105) dX6_readSound_104 rfl rfl rfl ?_
    refine z_if_eq (tgt := 130) (q := 108) dX6_readSound_105 (by decide) rfl (fun _ => ?_) (fun hc => False.elim (hc hz))
    refine z_iconst (q := 131) (v := nI 0) dX6_readSound_130 (by rfl) rfl ?_
    subst hN
    exact z_zret rfl (by rfl) dX6_readSound_131 (Nat.zero_le _) (Nat.zero_le _) ⟨rfl, rfl, rfl, rfl, fun j hj => by rw [zw_row _ _ (by omega), zw_row _ _ (by omega), zw_row _ _ (by omega), zw_row _ _ (by omega), zw_row _ _ (by omega)]; exact e1 j hj, fun q q1 q2 => by rw [zw_row _ _ q2, zw_row _ _ q2, zw_row _ _ q2, zw_row _ _ q2, zw_row _ _ q2]; exact e2 q q1, trivial⟩
  have bad3 : o = none → ∀ I4 q (z va vb vc : Int32), z = 0 → q ≤ y → z_sp s q I I4 → ∀ ls : List (Nat × Value), lv_pick ls [0, 1, 2, 3, 4] = [(0, .ref s), (1, .int va), (2, .int z), (3, .int vb), (4, .int vc)] → z_X G muX6_readSound (2, 0, 0) (z_rel (some (.int (if o.isSome then 1 else 0))) n T (fun I' R' => R' = R ∧ z_rdQ s I I' o)) n T I4 R 0 0 64 ls [] := by
    intro hN I4 q z va vb vc hz hq h4 ls hls
    refine z_pick [0, 1, 2, 3, 4] hls ?_
    have hyI5 : I4 s 1 = nI y := by rw [h4.2.1 1 (by decide)]; exact hy
    have hTI5 : I4 (s + 1) = I (s + 1) := h4.2.2 _ (by omega)
    refine z_aload_n (q := 65) dX6_readSound_64 rfl rfl rfl ?_
    refine z_bipush (q := 67) (v := nI 7) dX6_readSound_65 (by rfl) rfl ?_
    refine z_invV (q := 70) (c_X6_readNumber G s 7 q y hS hyI5 hy80 h4.1 hq (by decide) (by rw [hTI5]; exact ht)) (by with_reducible assumption) rfl gX6_readSound_X6_readNumber rfl hy_X6_readNumber rfl rfl rfl rfl (Nat.le_of_ble_eq_true rfl) ⟨Nat.zero_le _, Nat.zero_le _⟩ dX6_readSound_67 rfl (z_rvR fun I5 RI5 hZI5 => ?_)
    obtain ⟨hrI5, hnI5⟩ := hZI5
    rw [hrI5]
    rw [hTI5] at hnI5 ⊢
    have hI5 := z_sp_t h4 hnI5
    refine z_istore (q := 72) dX6_readSound_70 (by decide) rfl ?_
    refine z_iload_n (q := 73) dX6_readSound_72 rfl rfl rfl ?_
    refine z_if_eq (tgt := 89) (q := 76) dX6_readSound_73 (by decide) rfl (fun _ => ?_) (fun hc => False.elim (hc hz))
    refine z_iconst (q := 90) (v := nI 0) dX6_readSound_89 (by rfl) rfl ?_
    refine z_istore_n (q := 91) dX6_readSound_90 rfl (by decide) rfl ?_
    exact badE hN _ _ _ _ _ _ nI_0 hI5.2.1 hI5.2.2 _ rfl
  have bad2 : o = none → ∀ I4 q (z va vb : Int32), z = 0 → q ≤ y → z_sp s q I I4 → ∀ ls : List (Nat × Value), lv_pick ls [0, 1, 2, 3] = [(0, .ref s), (1, .int va), (2, .int z), (3, .int vb)] → z_X G muX6_readSound (2, 0, 0) (z_rel (some (.int (if o.isSome then 1 else 0))) n T (fun I' R' => R' = R ∧ z_rdQ s I I' o)) n T I4 R 0 0 38 ls [] := by
    intro hN I4 q z va vb hz hq h4 ls hls
    refine z_pick [0, 1, 2, 3] hls ?_
    have hyI5 : I4 s 1 = nI y := by rw [h4.2.1 1 (by decide)]; exact hy
    have hTI5 : I4 (s + 1) = I (s + 1) := h4.2.2 _ (by omega)
    refine z_aload_n (q := 39) dX6_readSound_38 rfl rfl rfl ?_
    refine z_iconst (q := 40) (v := nI 2) dX6_readSound_39 (by rfl) rfl ?_
    refine z_invV (q := 43) (c_X6_readNumber G s 2 q y hS hyI5 hy80 h4.1 hq (by decide) (by rw [hTI5]; exact ht)) (by with_reducible assumption) rfl gX6_readSound_X6_readNumber rfl hy_X6_readNumber rfl rfl rfl rfl (Nat.le_of_ble_eq_true rfl) ⟨Nat.zero_le _, Nat.zero_le _⟩ dX6_readSound_40 rfl (z_rvR fun I5 RI5 hZI5 => ?_)
    obtain ⟨hrI5, hnI5⟩ := hZI5
    rw [hrI5]
    rw [hTI5] at hnI5 ⊢
    have hI5 := z_sp_t h4 hnI5
    refine z_istore (q := 45) dX6_readSound_43 (by decide) rfl ?_
    refine z_iload_n (q := 46) dX6_readSound_45 rfl rfl rfl ?_
    refine z_if_eq (tgt := 62) (q := 49) dX6_readSound_46 (by decide) rfl (fun _ => ?_) (fun hc => False.elim (hc hz))
    refine z_iconst (q := 63) (v := nI 0) dX6_readSound_62 (by rfl) rfl ?_
    refine z_istore_n (q := 64) dX6_readSound_63 rfl (by decide) rfl ?_
    exact bad3 hN _ _ _ _ _ _ nI_0 (numS_le _ _ _ hq) hI5 _ rfl
  have bad1 : o = none → ∀ I4 q (z va : Int32), z = 0 → q ≤ y → z_sp s q I I4 → ∀ ls : List (Nat × Value), lv_pick ls [0, 1, 2] = [(0, .ref s), (1, .int va), (2, .int z)] → z_X G muX6_readSound (2, 0, 0) (z_rel (some (.int (if o.isSome then 1 else 0))) n T (fun I' R' => R' = R ∧ z_rdQ s I I' o)) n T I4 R 0 0 13 ls [] := by
    intro hN I4 q z va hz hq h4 ls hls
    refine z_pick [0, 1, 2] hls ?_
    have hyI5 : I4 s 1 = nI y := by rw [h4.2.1 1 (by decide)]; exact hy
    have hTI5 : I4 (s + 1) = I (s + 1) := h4.2.2 _ (by omega)
    refine z_aload_n (q := 14) dX6_readSound_13 rfl rfl rfl ?_
    refine z_iconst (q := 15) (v := nI 4) dX6_readSound_14 (by rfl) rfl ?_
    refine z_invV (q := 18) (c_X6_readNumber G s 4 q y hS hyI5 hy80 h4.1 hq (by decide) (by rw [hTI5]; exact ht)) (by with_reducible assumption) rfl gX6_readSound_X6_readNumber rfl hy_X6_readNumber rfl rfl rfl rfl (Nat.le_of_ble_eq_true rfl) ⟨Nat.zero_le _, Nat.zero_le _⟩ dX6_readSound_15 rfl (z_rvR fun I5 RI5 hZI5 => ?_)
    obtain ⟨hrI5, hnI5⟩ := hZI5
    rw [hrI5]
    rw [hTI5] at hnI5 ⊢
    have hI5 := z_sp_t h4 hnI5
    refine z_istore_n (q := 19) dX6_readSound_18 rfl (by decide) rfl ?_
    refine z_iload_n (q := 20) dX6_readSound_19 rfl rfl rfl ?_
    refine z_if_eq (tgt := 36) (q := 23) dX6_readSound_20 (by decide) rfl (fun _ => ?_) (fun hc => False.elim (hc hz))
    refine z_iconst (q := 37) (v := nI 0) dX6_readSound_36 (by rfl) rfl ?_
    refine z_istore_n (q := 38) dX6_readSound_37 rfl (by decide) rfl ?_
    exact bad2 hN _ _ _ _ _ nI_0 (numS_le _ _ _ hq) hI5 _ rfl
  have h0 : z_sp s p I I := ⟨hp, fun _ _ => rfl, fun _ _ => rfl⟩
  have hyJ0 : I s 1 = nI y := by rw [h0.2.1 1 (by decide)]; exact hy
  have hTJ0 : I (s + 1) = I (s + 1) := h0.2.2 _ (by omega)
  refine z_aload_n (q := 1) dX6_readSound_0 rfl rfl rfl ?_
  refine z_iconst (q := 2) (v := nI 2) dX6_readSound_1 (by rfl) rfl ?_
  refine z_invV (q := 5) (c_X6_readNumber G s 2 p y hS hyJ0 hy80 h0.1 hpy (by decide) (by rw [hTJ0]; exact ht)) (by with_reducible assumption) rfl gX6_readSound_X6_readNumber rfl hy_X6_readNumber rfl rfl rfl rfl (Nat.le_of_ble_eq_true rfl) ⟨Nat.zero_le _, Nat.zero_le _⟩ dX6_readSound_2 rfl (z_rvR fun J0 RJ0 hZJ0 => ?_)
  obtain ⟨hrJ0, hnJ0⟩ := hZJ0
  rw [hrJ0]
  rw [hTJ0] at hnJ0 ⊢
  have hJ0 := z_sp_t h0 hnJ0
  have hq0 : (numS (I (s + 1)) y 2 p (nI 0)).1 ≤ y := numS_le _ _ _ hpy
  have eo0 := fun c => numO_e (p := p) (d := 2) c ht hy80 (by decide)
  generalize hQ0 : (numS (I (s + 1)) y 2 p (nI 0)).1 = q0 at hJ0 hq0 eo0
  generalize hV0 : numA (I (s + 1)) y 2 p = v0 at eo0 ⊢
  refine z_istore_n (q := 6) dX6_readSound_5 rfl (by decide) rfl ?_
  have hyJ1 : J0 s 1 = nI y := by rw [hJ0.2.1 1 (by decide)]; exact hy
  have hTJ1 : J0 (s + 1) = I (s + 1) := hJ0.2.2 _ (by omega)
  refine z_aload_n (q := 7) dX6_readSound_6 rfl rfl rfl ?_
  refine z_bipush (q := 9) (v := nI 64) dX6_readSound_7 (by rfl) rfl ?_
  refine z_invV (q := 12) (c_X6_readSign G s q0 y (nI 64) hS hyJ1 hy80 hJ0.1 hq0) (by with_reducible assumption) rfl gX6_readSound_X6_readSign rfl hy_X6_readSign rfl rfl rfl rfl (Nat.le_of_ble_eq_true rfl) ⟨Nat.zero_le _, Nat.zero_le _⟩ dX6_readSound_9 rfl (z_rvR fun J1 RJ1 hZJ1 => ?_)
  obtain ⟨hrJ1, hnJ1⟩ := hZJ1
  rw [hrJ1]
  rw [hTJ1] at hnJ1 ⊢
  have hJ1 := z_sp_t hJ0 hnJ1
  by_cases hx0 : nxt (I (s + 1)) y q0 (nI 64)
  · rw [if_pos hx0] at hJ1 ⊢
    refine z_istore_n (q := 13) dX6_readSound_12 rfl (by decide) rfl ?_
    have hyJ2 : J1 s 1 = nI y := by rw [hJ1.2.1 1 (by decide)]; exact hy
    have hTJ2 : J1 (s + 1) = I (s + 1) := hJ1.2.2 _ (by omega)
    refine z_aload_n (q := 14) dX6_readSound_13 rfl rfl rfl ?_
    refine z_iconst (q := 15) (v := nI 4) dX6_readSound_14 (by rfl) rfl ?_
    refine z_invV (q := 18) (c_X6_readNumber G s 4 (q0 + 1) y hS hyJ2 hy80 hJ1.1 hx0.1 (by decide) (by rw [hTJ2]; exact ht)) (by with_reducible assumption) rfl gX6_readSound_X6_readNumber rfl hy_X6_readNumber rfl rfl rfl rfl (Nat.le_of_ble_eq_true rfl) ⟨Nat.zero_le _, Nat.zero_le _⟩ dX6_readSound_15 rfl (z_rvR fun J2 RJ2 hZJ2 => ?_)
    obtain ⟨hrJ2, hnJ2⟩ := hZJ2
    rw [hrJ2]
    rw [hTJ2] at hnJ2 ⊢
    have hJ2 := z_sp_t hJ1 hnJ2
    have hq1 : (numS (I (s + 1)) y 4 (q0 + 1) (nI 0)).1 ≤ y := numS_le _ _ _ hx0.1
    have eo1 := fun c => numO_e (p := (q0 + 1)) (d := 4) c ht hy80 (by decide)
    generalize hQ1 : (numS (I (s + 1)) y 4 (q0 + 1) (nI 0)).1 = q1 at hJ2 hq1 eo1
    generalize hV1 : numA (I (s + 1)) y 4 (q0 + 1) = v1 at eo1 ⊢
    refine z_istore_n (q := 19) dX6_readSound_18 rfl (by decide) rfl ?_
    refine z_iload_n (q := 20) dX6_readSound_19 rfl rfl rfl ?_
    refine z_if_eq (tgt := 36) (q := 23) dX6_readSound_20 (by decide) rfl (fun hc => False.elim (absurd hc (by decide))) (fun _ => ?_)
    have hyJ3 : J2 s 1 = nI y := by rw [hJ2.2.1 1 (by decide)]; exact hy
    have hTJ3 : J2 (s + 1) = I (s + 1) := hJ2.2.2 _ (by omega)
    refine z_aload_n (q := 24) dX6_readSound_23 rfl rfl rfl ?_
    refine z_bipush (q := 26) (v := nI 42) dX6_readSound_24 (by rfl) rfl ?_
    refine z_invV (q := 29) (c_X6_readSign G s q1 y (nI 42) hS hyJ3 hy80 hJ2.1 hq1) (by with_reducible assumption) rfl gX6_readSound_X6_readSign rfl hy_X6_readSign rfl rfl rfl rfl (Nat.le_of_ble_eq_true rfl) ⟨Nat.zero_le _, Nat.zero_le _⟩ dX6_readSound_26 rfl (z_rvR fun J3 RJ3 hZJ3 => ?_)
    obtain ⟨hrJ3, hnJ3⟩ := hZJ3
    rw [hrJ3]
    rw [hTJ3] at hnJ3 ⊢
    have hJ3 := z_sp_t hJ2 hnJ3
    by_cases hx1 : nxt (I (s + 1)) y q1 (nI 42)
    · rw [if_pos hx1] at hJ3 ⊢
      refine z_if_eq (tgt := 36) (q := 32) dX6_readSound_29 (by decide) rfl (fun hc => False.elim (absurd hc (by decide))) (fun _ => ?_)
      refine z_iconst (q := 33) (v := nI 1) dX6_readSound_32 (by rfl) rfl ?_
      refine z_goto (q := 37) dX6_readSound_33 (by decide) ?_
      refine z_istore_n (q := 38) dX6_readSound_37 rfl (by decide) rfl ?_
      have hyJ4 : J3 s 1 = nI y := by rw [hJ3.2.1 1 (by decide)]; exact hy
      have hTJ4 : J3 (s + 1) = I (s + 1) := hJ3.2.2 _ (by omega)
      refine z_aload_n (q := 39) dX6_readSound_38 rfl rfl rfl ?_
      refine z_iconst (q := 40) (v := nI 2) dX6_readSound_39 (by rfl) rfl ?_
      refine z_invV (q := 43) (c_X6_readNumber G s 2 (q1 + 1) y hS hyJ4 hy80 hJ3.1 hx1.1 (by decide) (by rw [hTJ4]; exact ht)) (by with_reducible assumption) rfl gX6_readSound_X6_readNumber rfl hy_X6_readNumber rfl rfl rfl rfl (Nat.le_of_ble_eq_true rfl) ⟨Nat.zero_le _, Nat.zero_le _⟩ dX6_readSound_40 rfl (z_rvR fun J4 RJ4 hZJ4 => ?_)
      obtain ⟨hrJ4, hnJ4⟩ := hZJ4
      rw [hrJ4]
      rw [hTJ4] at hnJ4 ⊢
      have hJ4 := z_sp_t hJ3 hnJ4
      have hq2 : (numS (I (s + 1)) y 2 (q1 + 1) (nI 0)).1 ≤ y := numS_le _ _ _ hx1.1
      have eo2 := fun c => numO_e (p := (q1 + 1)) (d := 2) c ht hy80 (by decide)
      generalize hQ2 : (numS (I (s + 1)) y 2 (q1 + 1) (nI 0)).1 = q2 at hJ4 hq2 eo2
      generalize hV2 : numA (I (s + 1)) y 2 (q1 + 1) = v2 at eo2 ⊢
      refine z_istore (q := 45) dX6_readSound_43 (by decide) rfl ?_
      refine z_iload_n (q := 46) dX6_readSound_45 rfl rfl rfl ?_
      refine z_if_eq (tgt := 62) (q := 49) dX6_readSound_46 (by decide) rfl (fun hc => False.elim (absurd hc (by decide))) (fun _ => ?_)
      have hyJ5 : J4 s 1 = nI y := by rw [hJ4.2.1 1 (by decide)]; exact hy
      have hTJ5 : J4 (s + 1) = I (s + 1) := hJ4.2.2 _ (by omega)
      refine z_aload_n (q := 50) dX6_readSound_49 rfl rfl rfl ?_
      refine z_bipush (q := 52) (v := nI 61) dX6_readSound_50 (by rfl) rfl ?_
      refine z_invV (q := 55) (c_X6_readSign G s q2 y (nI 61) hS hyJ5 hy80 hJ4.1 hq2) (by with_reducible assumption) rfl gX6_readSound_X6_readSign rfl hy_X6_readSign rfl rfl rfl rfl (Nat.le_of_ble_eq_true rfl) ⟨Nat.zero_le _, Nat.zero_le _⟩ dX6_readSound_52 rfl (z_rvR fun J5 RJ5 hZJ5 => ?_)
      obtain ⟨hrJ5, hnJ5⟩ := hZJ5
      rw [hrJ5]
      rw [hTJ5] at hnJ5 ⊢
      have hJ5 := z_sp_t hJ4 hnJ5
      by_cases hx2 : nxt (I (s + 1)) y q2 (nI 61)
      · rw [if_pos hx2] at hJ5 ⊢
        refine z_if_eq (tgt := 62) (q := 58) dX6_readSound_55 (by decide) rfl (fun hc => False.elim (absurd hc (by decide))) (fun _ => ?_)
        refine z_iconst (q := 59) (v := nI 1) dX6_readSound_58 (by rfl) rfl ?_
        refine z_goto (q := 63) dX6_readSound_59 (by decide) ?_
        refine z_istore_n (q := 64) dX6_readSound_63 rfl (by decide) rfl ?_
        have hyJ6 : J5 s 1 = nI y := by rw [hJ5.2.1 1 (by decide)]; exact hy
        have hTJ6 : J5 (s + 1) = I (s + 1) := hJ5.2.2 _ (by omega)
        refine z_aload_n (q := 65) dX6_readSound_64 rfl rfl rfl ?_
        refine z_bipush (q := 67) (v := nI 7) dX6_readSound_65 (by rfl) rfl ?_
        refine z_invV (q := 70) (c_X6_readNumber G s 7 (q2 + 1) y hS hyJ6 hy80 hJ5.1 hx2.1 (by decide) (by rw [hTJ6]; exact ht)) (by with_reducible assumption) rfl gX6_readSound_X6_readNumber rfl hy_X6_readNumber rfl rfl rfl rfl (Nat.le_of_ble_eq_true rfl) ⟨Nat.zero_le _, Nat.zero_le _⟩ dX6_readSound_67 rfl (z_rvR fun J6 RJ6 hZJ6 => ?_)
        obtain ⟨hrJ6, hnJ6⟩ := hZJ6
        rw [hrJ6]
        rw [hTJ6] at hnJ6 ⊢
        have hJ6 := z_sp_t hJ5 hnJ6
        have hq3 : (numS (I (s + 1)) y 7 (q2 + 1) (nI 0)).1 ≤ y := numS_le _ _ _ hx2.1
        have eo3 := fun c => numO_e (p := (q2 + 1)) (d := 7) c ht hy80 (by decide)
        generalize hQ3 : (numS (I (s + 1)) y 7 (q2 + 1) (nI 0)).1 = q3 at hJ6 hq3 eo3
        generalize hV3 : numA (I (s + 1)) y 7 (q2 + 1) = v3 at eo3 ⊢
        refine z_istore (q := 72) dX6_readSound_70 (by decide) rfl ?_
        refine z_iload_n (q := 73) dX6_readSound_72 rfl rfl rfl ?_
        refine z_if_eq (tgt := 89) (q := 76) dX6_readSound_73 (by decide) rfl (fun hc => False.elim (absurd hc (by decide))) (fun _ => ?_)
        have hyJ7 : J6 s 1 = nI y := by rw [hJ6.2.1 1 (by decide)]; exact hy
        have hTJ7 : J6 (s + 1) = I (s + 1) := hJ6.2.2 _ (by omega)
        refine z_aload_n (q := 77) dX6_readSound_76 rfl rfl rfl ?_
        refine z_bipush (q := 79) (v := nI 59) dX6_readSound_77 (by rfl) rfl ?_
        refine z_invV (q := 82) (c_X6_readSign G s q3 y (nI 59) hS hyJ7 hy80 hJ6.1 hq3) (by with_reducible assumption) rfl gX6_readSound_X6_readSign rfl hy_X6_readSign rfl rfl rfl rfl (Nat.le_of_ble_eq_true rfl) ⟨Nat.zero_le _, Nat.zero_le _⟩ dX6_readSound_79 rfl (z_rvR fun J7 RJ7 hZJ7 => ?_)
        obtain ⟨hrJ7, hnJ7⟩ := hZJ7
        rw [hrJ7]
        rw [hTJ7] at hnJ7 ⊢
        have hJ7 := z_sp_t hJ6 hnJ7
        by_cases hx3 : nxt (I (s + 1)) y q3 (nI 59)
        · rw [if_pos hx3] at hJ7 ⊢
          refine z_if_eq (tgt := 89) (q := 85) dX6_readSound_82 (by decide) rfl (fun hc => False.elim (absurd hc (by decide))) (fun _ => ?_)
          refine z_iconst (q := 86) (v := nI 1) dX6_readSound_85 (by rfl) rfl ?_
          refine z_goto (q := 90) dX6_readSound_86 (by decide) ?_
          refine z_istore_n (q := 91) dX6_readSound_90 rfl (by decide) rfl ?_
          refine z_aload_n (q := 92) dX6_readSound_91 rfl rfl rfl ?_
          refine z_getR (q := 95) 6 5 1 33 rfl (by decide) rfl rfl rfl (by with_reducible assumption) (by with_reducible assumption) dX6_readSound_92 rfl ?_
          refine z_iload_n (q := 96) dX6_readSound_95 rfl rfl rfl ?_
          refine z_iload_n (q := 97) dX6_readSound_96 rfl rfl rfl ?_
          refine z_iload (q := 99) (i := 4) dX6_readSound_97 rfl rfl ?_
          refine z_iload (q := 101) (i := 5) dX6_readSound_99 rfl rfl ?_
          refine z_invV (q := 104) (c_X1_becomeSound G (s + 2) v0 v1 v2 v3 hTe) (by with_reducible assumption) rfl gX6_readSound_X1_becomeSound rfl hy_X1_becomeSound rfl rfl rfl rfl (Nat.le_of_ble_eq_true rfl) ⟨Nat.zero_le _, Nat.zero_le _⟩ dX6_readSound_101 rfl (z_rn ?_)
          refine z_iload_n (q := 105) dX6_readSound_104 rfl rfl rfl ?_
          refine z_if_eq (tgt := 130) (q := 108) dX6_readSound_105 (by decide) rfl (fun hc => False.elim (absurd hc (by decide))) (fun _ => ?_)
          have f1 : ∀ j, j ≠ 4 → (zw (zw (zw (zw (zw J7 (s + 2) 0 1) (s + 2) 2 v0) (s + 2) 1 v1) (s + 2) 3 v2) (s + 2) 4 v3) s j = I s j := fun j hj => by rw [zw_row _ _ (by omega), zw_row _ _ (by omega), zw_row _ _ (by omega), zw_row _ _ (by omega), zw_row _ _ (by omega)]; exact hJ7.2.1 j hj
          have f2 : ∀ q, q ≠ s → q ≠ s + 2 → (zw (zw (zw (zw (zw J7 (s + 2) 0 1) (s + 2) 2 v0) (s + 2) 1 v1) (s + 2) 3 v2) (s + 2) 4 v3) q = I q := fun q g1 g2 => by rw [zw_row _ _ g2, zw_row _ _ g2, zw_row _ _ g2, zw_row _ _ g2, zw_row _ _ g2]; exact hJ7.2.2 q g1
          have f3 : (zw (zw (zw (zw (zw J7 (s + 2) 0 1) (s + 2) 2 v0) (s + 2) 1 v1) (s + 2) 3 v2) (s + 2) 4 v3) s 4 = nI (q3 + 1) := by rw [zw_row _ _ (by omega), zw_row _ _ (by omega), zw_row _ _ (by omega), zw_row _ _ (by omega), zw_row _ _ (by omega)]; exact hJ7.1
          have f4 : entC (zw (zw (zw (zw (zw J7 (s + 2) 0 1) (s + 2) 2 v0) (s + 2) 1 v1) (s + 2) 3 v2) (s + 2) 4 v3) (s + 2) = (v1, nI 0, v0, v2, v3) := by simp [entC, zw]
          have f5 : (zw (zw (zw (zw (zw J7 (s + 2) 0 1) (s + 2) 2 v0) (s + 2) 1 v1) (s + 2) 3 v2) (s + 2) 4 v3) (s + 2) 0 = 0 ∨ (zw (zw (zw (zw (zw J7 (s + 2) 0 1) (s + 2) 2 v0) (s + 2) 1 v1) (s + 2) 3 v2) (s + 2) 4 v3) (s + 2) 0 = 1 := by simp [zw]
          generalize (zw (zw (zw (zw (zw J7 (s + 2) 0 1) (s + 2) 2 v0) (s + 2) 1 v1) (s + 2) 3 v2) (s + 2) 4 v3) = I9 at f1 f2 f3 f4 f5 ⊢
          have zero : o = none → ∀ ls : List (Nat × Value), z_X G muX6_readSound (2, 0, 0) (z_rel (some (.int (if o.isSome then 1 else 0))) n T (fun I' R' => R' = R ∧ z_rdQ s I I' o)) n T I9 R 0 0 130 ls [] := by
            intro hN ls
            subst hN
            refine z_iconst (q := 131) (v := nI 0) dX6_readSound_130 (by rfl) rfl ?_
            exact z_zret rfl (by rfl) dX6_readSound_131 (Nat.zero_le _) (Nat.zero_le _) ⟨rfl, rfl, rfl, rfl, f1, f2, trivial⟩
          rw [rdB] at ho
          refine z_iload_n (q := 109) dX6_readSound_108 rfl rfl rfl ?_
          refine z_if_lt (tgt := 130) (q := 112) dX6_readSound_109 (by decide) rfl (fun hn0 => ?_) (fun hn0 => ?_)
          · rw [eo0, if_neg (fun z => z.1 hn0)] at ho
            exact zero ho.symm _
          · rw [eo0, if_pos ⟨hn0, hx0⟩, rd2_s] at ho
            refine z_iload_n (q := 113) dX6_readSound_112 rfl rfl rfl ?_
            refine z_if_lt (tgt := 130) (q := 116) dX6_readSound_113 (by decide) rfl (fun hn1 => ?_) (fun hn1 => ?_)
            · rw [eo1, if_neg (fun z => z.1 hn1)] at ho
              exact zero ho.symm _
            · rw [eo1, if_pos ⟨hn1, hx1⟩, rd2_s] at ho
              rw [if_pos rfl, rdC] at ho
              refine z_iload (q := 118) (i := 4) dX6_readSound_116 rfl rfl ?_
              refine z_if_lt (tgt := 130) (q := 121) dX6_readSound_118 (by decide) rfl (fun hn2 => ?_) (fun hn2 => ?_)
              · rw [eo2, if_neg (fun z => z.1 hn2)] at ho
                exact zero ho.symm _
              · rw [eo2, if_pos ⟨hn2, hx2⟩, rd2_s] at ho
                refine z_iload (q := 123) (i := 5) dX6_readSound_121 rfl rfl ?_
                refine z_if_lt (tgt := 130) (q := 126) dX6_readSound_123 (by decide) rfl (fun hn3 => ?_) (fun hn3 => ?_)
                · rw [eo3, if_neg (fun z => z.1 hn3)] at ho
                  exact zero ho.symm _
                · rw [eo3, if_pos ⟨hn3, hx3⟩, rd2_s] at ho
                  refine z_iconst (q := 127) (v := nI 1) dX6_readSound_126 (by rfl) rfl ?_
                  refine z_goto (q := 131) dX6_readSound_127 (by decide) ?_
                  subst ho
                  exact z_zret rfl (by rfl) dX6_readSound_131 (Nat.zero_le _) (Nat.zero_le _) ⟨rfl, rfl, rfl, rfl, f1, f2, f3, f4, f5⟩
        · rw [if_neg hx3] at hJ7 ⊢
          have hN : o = none := by
            rw [← ho, rdB]
            rw [eo0]
            by_cases hg0 : v0 < 0
            · rw [if_neg (fun z => z.1 hg0)]; rfl
            rw [if_pos ⟨hg0, hx0⟩, rd2_s]
            rw [eo1]
            by_cases hg1 : v1 < 0
            · rw [if_neg (fun z => z.1 hg1)]; rfl
            rw [if_pos ⟨hg1, hx1⟩, rd2_s]
            rw [if_pos rfl, rdC]
            rw [eo2]
            by_cases hg2 : v2 < 0
            · rw [if_neg (fun z => z.1 hg2)]; rfl
            rw [if_pos ⟨hg2, hx2⟩, rd2_s]
            rw [eo3]
            rw [if_neg (fun z => hx3 z.2)]; rfl
          refine z_if_eq (tgt := 89) (q := 85) dX6_readSound_82 (by decide) rfl (fun _ => ?_) (fun hc => False.elim (hc rfl))
          refine z_iconst (q := 90) (v := nI 0) dX6_readSound_89 (by rfl) rfl ?_
          refine z_istore_n (q := 91) dX6_readSound_90 rfl (by decide) rfl ?_
          exact badE hN _ _ _ _ _ _ nI_0 hJ7.2.1 hJ7.2.2 _ rfl
      · rw [if_neg hx2] at hJ5 ⊢
        have hN : o = none := by
          rw [← ho, rdB]
          rw [eo0]
          by_cases hg0 : v0 < 0
          · rw [if_neg (fun z => z.1 hg0)]; rfl
          rw [if_pos ⟨hg0, hx0⟩, rd2_s]
          rw [eo1]
          by_cases hg1 : v1 < 0
          · rw [if_neg (fun z => z.1 hg1)]; rfl
          rw [if_pos ⟨hg1, hx1⟩, rd2_s]
          rw [if_pos rfl, rdC]
          rw [eo2]
          rw [if_neg (fun z => hx2 z.2)]; rfl
        refine z_if_eq (tgt := 62) (q := 58) dX6_readSound_55 (by decide) rfl (fun _ => ?_) (fun hc => False.elim (hc rfl))
        refine z_iconst (q := 63) (v := nI 0) dX6_readSound_62 (by rfl) rfl ?_
        refine z_istore_n (q := 64) dX6_readSound_63 rfl (by decide) rfl ?_
        exact bad3 hN _ _ _ _ _ _ nI_0 hq2 hJ5 _ rfl
    · rw [if_neg hx1] at hJ3 ⊢
      have hN : o = none := by
        rw [← ho, rdB]
        rw [eo0]
        by_cases hg0 : v0 < 0
        · rw [if_neg (fun z => z.1 hg0)]; rfl
        rw [if_pos ⟨hg0, hx0⟩, rd2_s]
        rw [eo1]
        rw [if_neg (fun z => hx1 z.2)]; rfl
      refine z_if_eq (tgt := 36) (q := 32) dX6_readSound_29 (by decide) rfl (fun _ => ?_) (fun hc => False.elim (hc rfl))
      refine z_iconst (q := 37) (v := nI 0) dX6_readSound_36 (by rfl) rfl ?_
      refine z_istore_n (q := 38) dX6_readSound_37 rfl (by decide) rfl ?_
      exact bad2 hN _ _ _ _ _ nI_0 hq1 hJ3 _ rfl
  · rw [if_neg hx0] at hJ1 ⊢
    have hN : o = none := by
      rw [← ho, rdB]
      rw [eo0]
      rw [if_neg (fun z => hx0 z.2)]; rfl
    refine z_istore_n (q := 13) dX6_readSound_12 rfl (by decide) rfl ?_
    exact bad1 hN _ _ _ _ rfl hq0 hJ1 _ rfl
set_option maxRecDepth 100000 in
set_option maxHeartbeats 4000000 in
theorem c_X6_readTarget (G : zG) {n : Nat} {T : zTT} {I : zII} {R : zRR} (s p y : Nat) (hS : z_Sc T R s) (hy : I s 1 = nI y) (hy80 : y ≤ 80) (hp : I s 4 = nI p) (hpy : p ≤ y) (ht : TXT (I (s + 1))) : Ct G yX6_readTarget wsX6_readTarget (2, 0, 0) [.ref s] n T I R (z_rel (some (.int (if (rdB (I (s + 1)) y 1 p).isSome then 1 else 0))) n T (fun I' R' => R' = R ∧ z_rdQ s I I' (rdB (I (s + 1)) y 1 p))) := by
  refine Ct.ofX (M := muX6_readTarget) (ls := [(0, .ref s)]) (by decide +kernel) rfl (by decide) rfl rfl (Nat.le_of_ble_eq_true rfl) ?_
  obtain ⟨hTs, ⟨hTc, hRc⟩, hTe, hRe⟩ := id hS
  generalize ho : rdB (I (s + 1)) y 1 p = o
  have badE : o = none → ∀ I4 (z va vb vc : Int32), z = 0 → (∀ j, j ≠ 4 → I4 s j = I s j) → (∀ q, q ≠ s → I4 q = I q) → ∀ ls : List (Nat × Value), lv_pick ls [0, 1, 2, 3, 4] = [(0, .ref s), (1, .int va), (2, .int z), (3, .int vb), (4, .int vc)] → z_X G muX6_readTarget (2, 0, 0) (z_rel (some (.int (if o.isSome then 1 else 0))) n T (fun I' R' => R' = R ∧ z_rdQ s I I' o)) n T I4 R 0 0 64 ls [] := by
    intro hN I4 z va vb vc hz e1 e2 ls hls
    refine z_pick [0, 1, 2, 3, 4] hls ?_
    refine z_aload_n (q := 65) dX6_readTarget_64 rfl rfl rfl ?_
    refine z_getR (q := 68) 6 5 1 33 rfl (by decide) rfl rfl rfl (by with_reducible assumption) (by with_reducible assumption) dX6_readTarget_65 rfl ?_
    refine z_iload_n (q := 69) dX6_readTarget_68 rfl rfl rfl ?_
    refine z_iload_n (q := 70) dX6_readTarget_69 rfl rfl rfl ?_
    refine z_iload (q := 72) (i := 4) dX6_readTarget_70 rfl rfl ?_
    refine z_invV (q := 75) (c_X1_becomeTarget G (s + 2) va vb vc hTe) (by with_reducible assumption) rfl gX6_readTarget_X1_becomeTarget rfl hy_X1_becomeTarget rfl rfl rfl rfl (Nat.le_of_ble_eq_true rfl) ⟨Nat.zero_le _, Nat.zero_le _⟩ dX6_readTarget_72 rfl (z_rn ?_)
    refine z_iload_n (q := 76) dX6_readTarget_75 rfl rfl rfl ?_
    refine z_if_eq (tgt := 96) (q := 79) dX6_readTarget_76 (by decide) rfl (fun _ => ?_) (fun hc => False.elim (hc hz))
    refine z_iconst (q := 97) (v := nI 0) dX6_readTarget_96 (by rfl) rfl ?_
    subst hN
    exact z_zret rfl (by rfl) dX6_readTarget_97 (Nat.zero_le _) (Nat.zero_le _) ⟨rfl, rfl, rfl, rfl, fun j hj => by rw [zw_row _ _ (by omega), zw_row _ _ (by omega), zw_row _ _ (by omega), zw_row _ _ (by omega), zw_row _ _ (by omega)]; exact e1 j hj, fun q q1 q2 => by rw [zw_row _ _ q2, zw_row _ _ q2, zw_row _ _ q2, zw_row _ _ q2, zw_row _ _ q2]; exact e2 q q1, trivial⟩
  have bad2 : o = none → ∀ I4 q (z va vb : Int32), z = 0 → q ≤ y → z_sp s q I I4 → ∀ ls : List (Nat × Value), lv_pick ls [0, 1, 2, 3] = [(0, .ref s), (1, .int va), (2, .int z), (3, .int vb)] → z_X G muX6_readTarget (2, 0, 0) (z_rel (some (.int (if o.isSome then 1 else 0))) n T (fun I' R' => R' = R ∧ z_rdQ s I I' o)) n T I4 R 0 0 38 ls [] := by
    intro hN I4 q z va vb hz hq h4 ls hls
    refine z_pick [0, 1, 2, 3] hls ?_
    have hyI5 : I4 s 1 = nI y := by rw [h4.2.1 1 (by decide)]; exact hy
    have hTI5 : I4 (s + 1) = I (s + 1) := h4.2.2 _ (by omega)
    refine z_aload_n (q := 39) dX6_readTarget_38 rfl rfl rfl ?_
    refine z_iconst (q := 40) (v := nI 2) dX6_readTarget_39 (by rfl) rfl ?_
    refine z_invV (q := 43) (c_X6_readNumber G s 2 q y hS hyI5 hy80 h4.1 hq (by decide) (by rw [hTI5]; exact ht)) (by with_reducible assumption) rfl gX6_readTarget_X6_readNumber rfl hy_X6_readNumber rfl rfl rfl rfl (Nat.le_of_ble_eq_true rfl) ⟨Nat.zero_le _, Nat.zero_le _⟩ dX6_readTarget_40 rfl (z_rvR fun I5 RI5 hZI5 => ?_)
    obtain ⟨hrI5, hnI5⟩ := hZI5
    rw [hrI5]
    rw [hTI5] at hnI5 ⊢
    have hI5 := z_sp_t h4 hnI5
    refine z_istore (q := 45) dX6_readTarget_43 (by decide) rfl ?_
    refine z_iload_n (q := 46) dX6_readTarget_45 rfl rfl rfl ?_
    refine z_if_eq (tgt := 62) (q := 49) dX6_readTarget_46 (by decide) rfl (fun _ => ?_) (fun hc => False.elim (hc hz))
    refine z_iconst (q := 63) (v := nI 0) dX6_readTarget_62 (by rfl) rfl ?_
    refine z_istore_n (q := 64) dX6_readTarget_63 rfl (by decide) rfl ?_
    exact badE hN _ _ _ _ _ nI_0 hI5.2.1 hI5.2.2 _ rfl
  have bad1 : o = none → ∀ I4 q (z va : Int32), z = 0 → q ≤ y → z_sp s q I I4 → ∀ ls : List (Nat × Value), lv_pick ls [0, 1, 2] = [(0, .ref s), (1, .int va), (2, .int z)] → z_X G muX6_readTarget (2, 0, 0) (z_rel (some (.int (if o.isSome then 1 else 0))) n T (fun I' R' => R' = R ∧ z_rdQ s I I' o)) n T I4 R 0 0 13 ls [] := by
    intro hN I4 q z va hz hq h4 ls hls
    refine z_pick [0, 1, 2] hls ?_
    have hyI5 : I4 s 1 = nI y := by rw [h4.2.1 1 (by decide)]; exact hy
    have hTI5 : I4 (s + 1) = I (s + 1) := h4.2.2 _ (by omega)
    refine z_aload_n (q := 14) dX6_readTarget_13 rfl rfl rfl ?_
    refine z_iconst (q := 15) (v := nI 4) dX6_readTarget_14 (by rfl) rfl ?_
    refine z_invV (q := 18) (c_X6_readNumber G s 4 q y hS hyI5 hy80 h4.1 hq (by decide) (by rw [hTI5]; exact ht)) (by with_reducible assumption) rfl gX6_readTarget_X6_readNumber rfl hy_X6_readNumber rfl rfl rfl rfl (Nat.le_of_ble_eq_true rfl) ⟨Nat.zero_le _, Nat.zero_le _⟩ dX6_readTarget_15 rfl (z_rvR fun I5 RI5 hZI5 => ?_)
    obtain ⟨hrI5, hnI5⟩ := hZI5
    rw [hrI5]
    rw [hTI5] at hnI5 ⊢
    have hI5 := z_sp_t h4 hnI5
    refine z_istore_n (q := 19) dX6_readTarget_18 rfl (by decide) rfl ?_
    refine z_iload_n (q := 20) dX6_readTarget_19 rfl rfl rfl ?_
    refine z_if_eq (tgt := 36) (q := 23) dX6_readTarget_20 (by decide) rfl (fun _ => ?_) (fun hc => False.elim (hc hz))
    refine z_iconst (q := 37) (v := nI 0) dX6_readTarget_36 (by rfl) rfl ?_
    refine z_istore_n (q := 38) dX6_readTarget_37 rfl (by decide) rfl ?_
    exact bad2 hN _ _ _ _ _ nI_0 (numS_le _ _ _ hq) hI5 _ rfl
  have h0 : z_sp s p I I := ⟨hp, fun _ _ => rfl, fun _ _ => rfl⟩
  have hyJ0 : I s 1 = nI y := by rw [h0.2.1 1 (by decide)]; exact hy
  have hTJ0 : I (s + 1) = I (s + 1) := h0.2.2 _ (by omega)
  refine z_aload_n (q := 1) dX6_readTarget_0 rfl rfl rfl ?_
  refine z_iconst (q := 2) (v := nI 2) dX6_readTarget_1 (by rfl) rfl ?_
  refine z_invV (q := 5) (c_X6_readNumber G s 2 p y hS hyJ0 hy80 h0.1 hpy (by decide) (by rw [hTJ0]; exact ht)) (by with_reducible assumption) rfl gX6_readTarget_X6_readNumber rfl hy_X6_readNumber rfl rfl rfl rfl (Nat.le_of_ble_eq_true rfl) ⟨Nat.zero_le _, Nat.zero_le _⟩ dX6_readTarget_2 rfl (z_rvR fun J0 RJ0 hZJ0 => ?_)
  obtain ⟨hrJ0, hnJ0⟩ := hZJ0
  rw [hrJ0]
  rw [hTJ0] at hnJ0 ⊢
  have hJ0 := z_sp_t h0 hnJ0
  have hq0 : (numS (I (s + 1)) y 2 p (nI 0)).1 ≤ y := numS_le _ _ _ hpy
  have eo0 := fun c => numO_e (p := p) (d := 2) c ht hy80 (by decide)
  generalize hQ0 : (numS (I (s + 1)) y 2 p (nI 0)).1 = q0 at hJ0 hq0 eo0
  generalize hV0 : numA (I (s + 1)) y 2 p = v0 at eo0 ⊢
  refine z_istore_n (q := 6) dX6_readTarget_5 rfl (by decide) rfl ?_
  have hyJ1 : J0 s 1 = nI y := by rw [hJ0.2.1 1 (by decide)]; exact hy
  have hTJ1 : J0 (s + 1) = I (s + 1) := hJ0.2.2 _ (by omega)
  refine z_aload_n (q := 7) dX6_readTarget_6 rfl rfl rfl ?_
  refine z_bipush (q := 9) (v := nI 64) dX6_readTarget_7 (by rfl) rfl ?_
  refine z_invV (q := 12) (c_X6_readSign G s q0 y (nI 64) hS hyJ1 hy80 hJ0.1 hq0) (by with_reducible assumption) rfl gX6_readTarget_X6_readSign rfl hy_X6_readSign rfl rfl rfl rfl (Nat.le_of_ble_eq_true rfl) ⟨Nat.zero_le _, Nat.zero_le _⟩ dX6_readTarget_9 rfl (z_rvR fun J1 RJ1 hZJ1 => ?_)
  obtain ⟨hrJ1, hnJ1⟩ := hZJ1
  rw [hrJ1]
  rw [hTJ1] at hnJ1 ⊢
  have hJ1 := z_sp_t hJ0 hnJ1
  by_cases hx0 : nxt (I (s + 1)) y q0 (nI 64)
  · rw [if_pos hx0] at hJ1 ⊢
    refine z_istore_n (q := 13) dX6_readTarget_12 rfl (by decide) rfl ?_
    have hyJ2 : J1 s 1 = nI y := by rw [hJ1.2.1 1 (by decide)]; exact hy
    have hTJ2 : J1 (s + 1) = I (s + 1) := hJ1.2.2 _ (by omega)
    refine z_aload_n (q := 14) dX6_readTarget_13 rfl rfl rfl ?_
    refine z_iconst (q := 15) (v := nI 4) dX6_readTarget_14 (by rfl) rfl ?_
    refine z_invV (q := 18) (c_X6_readNumber G s 4 (q0 + 1) y hS hyJ2 hy80 hJ1.1 hx0.1 (by decide) (by rw [hTJ2]; exact ht)) (by with_reducible assumption) rfl gX6_readTarget_X6_readNumber rfl hy_X6_readNumber rfl rfl rfl rfl (Nat.le_of_ble_eq_true rfl) ⟨Nat.zero_le _, Nat.zero_le _⟩ dX6_readTarget_15 rfl (z_rvR fun J2 RJ2 hZJ2 => ?_)
    obtain ⟨hrJ2, hnJ2⟩ := hZJ2
    rw [hrJ2]
    rw [hTJ2] at hnJ2 ⊢
    have hJ2 := z_sp_t hJ1 hnJ2
    have hq1 : (numS (I (s + 1)) y 4 (q0 + 1) (nI 0)).1 ≤ y := numS_le _ _ _ hx0.1
    have eo1 := fun c => numO_e (p := (q0 + 1)) (d := 4) c ht hy80 (by decide)
    generalize hQ1 : (numS (I (s + 1)) y 4 (q0 + 1) (nI 0)).1 = q1 at hJ2 hq1 eo1
    generalize hV1 : numA (I (s + 1)) y 4 (q0 + 1) = v1 at eo1 ⊢
    refine z_istore_n (q := 19) dX6_readTarget_18 rfl (by decide) rfl ?_
    refine z_iload_n (q := 20) dX6_readTarget_19 rfl rfl rfl ?_
    refine z_if_eq (tgt := 36) (q := 23) dX6_readTarget_20 (by decide) rfl (fun hc => False.elim (absurd hc (by decide))) (fun _ => ?_)
    have hyJ3 : J2 s 1 = nI y := by rw [hJ2.2.1 1 (by decide)]; exact hy
    have hTJ3 : J2 (s + 1) = I (s + 1) := hJ2.2.2 _ (by omega)
    refine z_aload_n (q := 24) dX6_readTarget_23 rfl rfl rfl ?_
    refine z_bipush (q := 26) (v := nI 58) dX6_readTarget_24 (by rfl) rfl ?_
    refine z_invV (q := 29) (c_X6_readSign G s q1 y (nI 58) hS hyJ3 hy80 hJ2.1 hq1) (by with_reducible assumption) rfl gX6_readTarget_X6_readSign rfl hy_X6_readSign rfl rfl rfl rfl (Nat.le_of_ble_eq_true rfl) ⟨Nat.zero_le _, Nat.zero_le _⟩ dX6_readTarget_26 rfl (z_rvR fun J3 RJ3 hZJ3 => ?_)
    obtain ⟨hrJ3, hnJ3⟩ := hZJ3
    rw [hrJ3]
    rw [hTJ3] at hnJ3 ⊢
    have hJ3 := z_sp_t hJ2 hnJ3
    by_cases hx1 : nxt (I (s + 1)) y q1 (nI 58)
    · rw [if_pos hx1] at hJ3 ⊢
      refine z_if_eq (tgt := 36) (q := 32) dX6_readTarget_29 (by decide) rfl (fun hc => False.elim (absurd hc (by decide))) (fun _ => ?_)
      refine z_iconst (q := 33) (v := nI 1) dX6_readTarget_32 (by rfl) rfl ?_
      refine z_goto (q := 37) dX6_readTarget_33 (by decide) ?_
      refine z_istore_n (q := 38) dX6_readTarget_37 rfl (by decide) rfl ?_
      have hyJ4 : J3 s 1 = nI y := by rw [hJ3.2.1 1 (by decide)]; exact hy
      have hTJ4 : J3 (s + 1) = I (s + 1) := hJ3.2.2 _ (by omega)
      refine z_aload_n (q := 39) dX6_readTarget_38 rfl rfl rfl ?_
      refine z_iconst (q := 40) (v := nI 2) dX6_readTarget_39 (by rfl) rfl ?_
      refine z_invV (q := 43) (c_X6_readNumber G s 2 (q1 + 1) y hS hyJ4 hy80 hJ3.1 hx1.1 (by decide) (by rw [hTJ4]; exact ht)) (by with_reducible assumption) rfl gX6_readTarget_X6_readNumber rfl hy_X6_readNumber rfl rfl rfl rfl (Nat.le_of_ble_eq_true rfl) ⟨Nat.zero_le _, Nat.zero_le _⟩ dX6_readTarget_40 rfl (z_rvR fun J4 RJ4 hZJ4 => ?_)
      obtain ⟨hrJ4, hnJ4⟩ := hZJ4
      rw [hrJ4]
      rw [hTJ4] at hnJ4 ⊢
      have hJ4 := z_sp_t hJ3 hnJ4
      have hq2 : (numS (I (s + 1)) y 2 (q1 + 1) (nI 0)).1 ≤ y := numS_le _ _ _ hx1.1
      have eo2 := fun c => numO_e (p := (q1 + 1)) (d := 2) c ht hy80 (by decide)
      generalize hQ2 : (numS (I (s + 1)) y 2 (q1 + 1) (nI 0)).1 = q2 at hJ4 hq2 eo2
      generalize hV2 : numA (I (s + 1)) y 2 (q1 + 1) = v2 at eo2 ⊢
      refine z_istore (q := 45) dX6_readTarget_43 (by decide) rfl ?_
      refine z_iload_n (q := 46) dX6_readTarget_45 rfl rfl rfl ?_
      refine z_if_eq (tgt := 62) (q := 49) dX6_readTarget_46 (by decide) rfl (fun hc => False.elim (absurd hc (by decide))) (fun _ => ?_)
      have hyJ5 : J4 s 1 = nI y := by rw [hJ4.2.1 1 (by decide)]; exact hy
      have hTJ5 : J4 (s + 1) = I (s + 1) := hJ4.2.2 _ (by omega)
      refine z_aload_n (q := 50) dX6_readTarget_49 rfl rfl rfl ?_
      refine z_bipush (q := 52) (v := nI 59) dX6_readTarget_50 (by rfl) rfl ?_
      refine z_invV (q := 55) (c_X6_readSign G s q2 y (nI 59) hS hyJ5 hy80 hJ4.1 hq2) (by with_reducible assumption) rfl gX6_readTarget_X6_readSign rfl hy_X6_readSign rfl rfl rfl rfl (Nat.le_of_ble_eq_true rfl) ⟨Nat.zero_le _, Nat.zero_le _⟩ dX6_readTarget_52 rfl (z_rvR fun J5 RJ5 hZJ5 => ?_)
      obtain ⟨hrJ5, hnJ5⟩ := hZJ5
      rw [hrJ5]
      rw [hTJ5] at hnJ5 ⊢
      have hJ5 := z_sp_t hJ4 hnJ5
      by_cases hx2 : nxt (I (s + 1)) y q2 (nI 59)
      · rw [if_pos hx2] at hJ5 ⊢
        refine z_if_eq (tgt := 62) (q := 58) dX6_readTarget_55 (by decide) rfl (fun hc => False.elim (absurd hc (by decide))) (fun _ => ?_)
        refine z_iconst (q := 59) (v := nI 1) dX6_readTarget_58 (by rfl) rfl ?_
        refine z_goto (q := 63) dX6_readTarget_59 (by decide) ?_
        refine z_istore_n (q := 64) dX6_readTarget_63 rfl (by decide) rfl ?_
        refine z_aload_n (q := 65) dX6_readTarget_64 rfl rfl rfl ?_
        refine z_getR (q := 68) 6 5 1 33 rfl (by decide) rfl rfl rfl (by with_reducible assumption) (by with_reducible assumption) dX6_readTarget_65 rfl ?_
        refine z_iload_n (q := 69) dX6_readTarget_68 rfl rfl rfl ?_
        refine z_iload_n (q := 70) dX6_readTarget_69 rfl rfl rfl ?_
        refine z_iload (q := 72) (i := 4) dX6_readTarget_70 rfl rfl ?_
        refine z_invV (q := 75) (c_X1_becomeTarget G (s + 2) v0 v1 v2 hTe) (by with_reducible assumption) rfl gX6_readTarget_X1_becomeTarget rfl hy_X1_becomeTarget rfl rfl rfl rfl (Nat.le_of_ble_eq_true rfl) ⟨Nat.zero_le _, Nat.zero_le _⟩ dX6_readTarget_72 rfl (z_rn ?_)
        refine z_iload_n (q := 76) dX6_readTarget_75 rfl rfl rfl ?_
        refine z_if_eq (tgt := 96) (q := 79) dX6_readTarget_76 (by decide) rfl (fun hc => False.elim (absurd hc (by decide))) (fun _ => ?_)
        have f1 : ∀ j, j ≠ 4 → (zw (zw (zw (zw (zw J5 (s + 2) 0 0) (s + 2) 2 v0) (s + 2) 1 v1) (s + 2) 3 0) (s + 2) 4 v2) s j = I s j := fun j hj => by rw [zw_row _ _ (by omega), zw_row _ _ (by omega), zw_row _ _ (by omega), zw_row _ _ (by omega), zw_row _ _ (by omega)]; exact hJ5.2.1 j hj
        have f2 : ∀ q, q ≠ s → q ≠ s + 2 → (zw (zw (zw (zw (zw J5 (s + 2) 0 0) (s + 2) 2 v0) (s + 2) 1 v1) (s + 2) 3 0) (s + 2) 4 v2) q = I q := fun q g1 g2 => by rw [zw_row _ _ g2, zw_row _ _ g2, zw_row _ _ g2, zw_row _ _ g2, zw_row _ _ g2]; exact hJ5.2.2 q g1
        have f3 : (zw (zw (zw (zw (zw J5 (s + 2) 0 0) (s + 2) 2 v0) (s + 2) 1 v1) (s + 2) 3 0) (s + 2) 4 v2) s 4 = nI (q2 + 1) := by rw [zw_row _ _ (by omega), zw_row _ _ (by omega), zw_row _ _ (by omega), zw_row _ _ (by omega), zw_row _ _ (by omega)]; exact hJ5.1
        have f4 : entC (zw (zw (zw (zw (zw J5 (s + 2) 0 0) (s + 2) 2 v0) (s + 2) 1 v1) (s + 2) 3 0) (s + 2) 4 v2) (s + 2) = (v1, nI 1, v0, nI 0, v2) := by simp [entC, zw, nI_0]
        have f5 : (zw (zw (zw (zw (zw J5 (s + 2) 0 0) (s + 2) 2 v0) (s + 2) 1 v1) (s + 2) 3 0) (s + 2) 4 v2) (s + 2) 0 = 0 ∨ (zw (zw (zw (zw (zw J5 (s + 2) 0 0) (s + 2) 2 v0) (s + 2) 1 v1) (s + 2) 3 0) (s + 2) 4 v2) (s + 2) 0 = 1 := by simp [zw]
        generalize (zw (zw (zw (zw (zw J5 (s + 2) 0 0) (s + 2) 2 v0) (s + 2) 1 v1) (s + 2) 3 0) (s + 2) 4 v2) = I9 at f1 f2 f3 f4 f5 ⊢
        have zero : o = none → ∀ ls : List (Nat × Value), z_X G muX6_readTarget (2, 0, 0) (z_rel (some (.int (if o.isSome then 1 else 0))) n T (fun I' R' => R' = R ∧ z_rdQ s I I' o)) n T I9 R 0 0 96 ls [] := by
          intro hN ls
          subst hN
          refine z_iconst (q := 97) (v := nI 0) dX6_readTarget_96 (by rfl) rfl ?_
          exact z_zret rfl (by rfl) dX6_readTarget_97 (Nat.zero_le _) (Nat.zero_le _) ⟨rfl, rfl, rfl, rfl, f1, f2, trivial⟩
        rw [rdB] at ho
        refine z_iload_n (q := 80) dX6_readTarget_79 rfl rfl rfl ?_
        refine z_if_lt (tgt := 96) (q := 83) dX6_readTarget_80 (by decide) rfl (fun hn0 => ?_) (fun hn0 => ?_)
        · rw [eo0, if_neg (fun z => z.1 hn0)] at ho
          exact zero ho.symm _
        · rw [eo0, if_pos ⟨hn0, hx0⟩, rd2_s] at ho
          refine z_iload_n (q := 84) dX6_readTarget_83 rfl rfl rfl ?_
          refine z_if_lt (tgt := 96) (q := 87) dX6_readTarget_84 (by decide) rfl (fun hn1 => ?_) (fun hn1 => ?_)
          · rw [eo1, if_neg (fun z => z.1 hn1)] at ho
            exact zero ho.symm _
          · rw [eo1, if_pos ⟨hn1, hx1⟩, rd2_s] at ho
            rw [if_neg (by decide), rdD] at ho
            refine z_iload (q := 89) (i := 4) dX6_readTarget_87 rfl rfl ?_
            refine z_if_lt (tgt := 96) (q := 92) dX6_readTarget_89 (by decide) rfl (fun hn2 => ?_) (fun hn2 => ?_)
            · rw [eo2, if_neg (fun z => z.1 hn2)] at ho
              exact zero ho.symm _
            · rw [eo2, if_pos ⟨hn2, hx2⟩, rd2_s] at ho
              refine z_iconst (q := 93) (v := nI 1) dX6_readTarget_92 (by rfl) rfl ?_
              refine z_goto (q := 97) dX6_readTarget_93 (by decide) ?_
              subst ho
              exact z_zret rfl (by rfl) dX6_readTarget_97 (Nat.zero_le _) (Nat.zero_le _) ⟨rfl, rfl, rfl, rfl, f1, f2, f3, f4, f5⟩
      · rw [if_neg hx2] at hJ5 ⊢
        have hN : o = none := by
          rw [← ho, rdB]
          rw [eo0]
          by_cases hg0 : v0 < 0
          · rw [if_neg (fun z => z.1 hg0)]; rfl
          rw [if_pos ⟨hg0, hx0⟩, rd2_s]
          rw [eo1]
          by_cases hg1 : v1 < 0
          · rw [if_neg (fun z => z.1 hg1)]; rfl
          rw [if_pos ⟨hg1, hx1⟩, rd2_s]
          rw [if_neg (by decide), rdD]
          rw [eo2]
          rw [if_neg (fun z => hx2 z.2)]; rfl
        refine z_if_eq (tgt := 62) (q := 58) dX6_readTarget_55 (by decide) rfl (fun _ => ?_) (fun hc => False.elim (hc rfl))
        refine z_iconst (q := 63) (v := nI 0) dX6_readTarget_62 (by rfl) rfl ?_
        refine z_istore_n (q := 64) dX6_readTarget_63 rfl (by decide) rfl ?_
        exact badE hN _ _ _ _ _ nI_0 hJ5.2.1 hJ5.2.2 _ rfl
    · rw [if_neg hx1] at hJ3 ⊢
      have hN : o = none := by
        rw [← ho, rdB]
        rw [eo0]
        by_cases hg0 : v0 < 0
        · rw [if_neg (fun z => z.1 hg0)]; rfl
        rw [if_pos ⟨hg0, hx0⟩, rd2_s]
        rw [eo1]
        rw [if_neg (fun z => hx1 z.2)]; rfl
      refine z_if_eq (tgt := 36) (q := 32) dX6_readTarget_29 (by decide) rfl (fun _ => ?_) (fun hc => False.elim (hc rfl))
      refine z_iconst (q := 37) (v := nI 0) dX6_readTarget_36 (by rfl) rfl ?_
      refine z_istore_n (q := 38) dX6_readTarget_37 rfl (by decide) rfl ?_
      exact bad2 hN _ _ _ _ _ nI_0 hq1 hJ3 _ rfl
  · rw [if_neg hx0] at hJ1 ⊢
    have hN : o = none := by
      rw [← ho, rdB]
      rw [eo0]
      rw [if_neg (fun z => hx0 z.2)]; rfl
    refine z_istore_n (q := 13) dX6_readTarget_12 rfl (by decide) rfl ?_
    exact bad1 hN _ _ _ _ rfl hq0 hJ1 _ rfl

