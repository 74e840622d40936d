/-! THE CLASS, its text at s: cell s, characters at s+1, the entry read at s+2 -/
def z_Sc (T : zTT) (R : zRR) (s : Nat) : Prop := T s = some (.inl 6) ∧ (T (s + 1) = some (.inr (.char, 80)) ∧ R s 0 = some (s + 1)) ∧ T (s + 2) = some (.inl 1) ∧ R s 5 = some (s + 2)
def TXT (tx : Nat → Int32) : Prop := ∀ k, k < 80 → ∃ c, tx k = nI c ∧ c ≤ 126
/-- the place read up to moves alone -/
def z_sp (s q : Nat) (I I' : zII) : Prop := I' s 4 = nI q ∧ (∀ j, j ≠ 4 → I' s j = I s j) ∧ ∀ r, r ≠ s → I' r = I r
theorem z_sp_t {s q q' : Nat} {I I4 I5 : zII} (h : z_sp s q I I4) (h2 : z_sp s q' I4 I5) : z_sp s q' I I5 := ⟨h2.1, fun j hj => (h2.2.1 j hj).trans (h.2.1 j hj), fun r hr => (h2.2.2 r hr).trans (h.2.2 r hr)⟩
theorem z_sp_w {s q : Nat} {I : zII} : z_sp s q I (zw I s 4 (nI q)) := ⟨zw_s _ _ _ _, fun j hj => zw_k _ _ hj, fun r hr => zw_row _ _ hr⟩
set_option maxRecDepth 100000 in
set_option maxHeartbeats 4000000 in
theorem c_X6_readSign (G : zG) {n : Nat} {T : zTT} {I : zII} {R : zRR} (s p y : Nat) (c : Int32) (hS : z_Sc T R s) (hy : I s 1 = nI y) (hy80 : y ≤ 80) (hp : I s 4 = nI p) (hpy : p ≤ y) : Ct G yX6_readSign wsX6_readSign (0, 0, 0) [.ref s, .int c] n T I R (z_rel (some (.int (if nxt (I (s + 1)) y p c then 1 else 0))) n T (fun I' R' => R' = R ∧ z_sp s (if nxt (I (s + 1)) y p c then p + 1 else p) I I')) := by
  refine Ct.ofX (M := muX6_readSign) (ls := [(0, .ref s), (1, .int c)]) (by decide +kernel) rfl (by decide) rfl rfl (Nat.le_of_ble_eq_true rfl) ?_
  obtain ⟨hTs, ⟨hTc, hRc⟩, -⟩ := hS
  have no : ¬ nxt (I (s + 1)) y p c → ∀ ls : List (Nat × Value), z_X G muX6_readSign (0, 0, 0) (z_rel (some (.int (if nxt (I (s + 1)) y p c then 1 else 0))) n T (fun I' R' => R' = R ∧ z_sp s (if nxt (I (s + 1)) y p c then p + 1 else p) I I')) n T I R 0 0 43 ls [] := by
    intro h ls
    rw [if_neg h, if_neg h]
    refine z_iconst (q := 44) (v := nI 0) dX6_readSign_43 (by rfl) rfl ?_
    exact z_zret rfl (by rfl) dX6_readSign_44 (Nat.zero_le _) (Nat.zero_le _) ⟨rfl, rfl, rfl, rfl, hp, fun _ _ => rfl, fun _ _ => rfl⟩
  refine z_aload_n (q := 1) dX6_readSign_0 rfl rfl rfl ?_
  refine z_getV (q := 4) 6 4 1 8 rfl (by decide) rfl rfl rfl (by with_reducible assumption) (hp) dX6_readSign_1 rfl ?_
  refine z_if_lt (tgt := 43) (q := 7) dX6_readSign_4 (by decide) rfl (fun hc => False.elim (nI_pos (n := p) (by omega) hc)) (fun _ => ?_)
  refine z_aload_n (q := 8) dX6_readSign_7 rfl rfl rfl ?_
  refine z_getV (q := 11) 6 4 1 8 rfl (by decide) rfl rfl rfl (by with_reducible assumption) (hp) dX6_readSign_8 rfl ?_
  refine z_aload_n (q := 12) dX6_readSign_11 rfl rfl rfl ?_
  refine z_getV (q := 15) 6 1 2 5 rfl (by decide) rfl rfl rfl (by with_reducible assumption) (hy) dX6_readSign_12 rfl ?_
  refine z_icmpn_ge (rfl) (rfl) (by omega) (by omega) (tgt := 43) (q := 18) dX6_readSign_15 (by decide) rfl (fun h15 => ?_) (fun h15 => ?_)
  · exact no (fun z => by have := z.1; omega) _
  · refine z_aload_n (q := 19) dX6_readSign_18 rfl rfl rfl ?_
    refine z_getV (q := 22) 6 4 1 8 rfl (by decide) rfl rfl rfl (by with_reducible assumption) (hp) dX6_readSign_19 rfl ?_
    refine z_aload_n (q := 23) dX6_readSign_22 rfl rfl rfl ?_
    refine z_getR (q := 26) 6 0 3 4 rfl (by decide) rfl rfl rfl (by with_reducible assumption) (by with_reducible assumption) dX6_readSign_23 rfl ?_
    refine z_alen (q := 27) (by with_reducible assumption) dX6_readSign_26 rfl ?_
    refine z_icmpn_ge (rfl) (rfl) (by omega) (by omega) (tgt := 43) (q := 30) dX6_readSign_27 (by decide) rfl (fun hc => absurd hc (by omega)) (fun _ => ?_)
    refine z_aload_n (q := 31) dX6_readSign_30 rfl rfl rfl ?_
    refine z_getR (q := 34) 6 0 3 4 rfl (by decide) rfl rfl rfl (by with_reducible assumption) (by with_reducible assumption) dX6_readSign_31 rfl ?_
    refine z_aload_n (q := 35) dX6_readSign_34 rfl rfl rfl ?_
    refine z_getV (q := 38) 6 4 1 8 rfl (by decide) rfl rfl rfl (by with_reducible assumption) (hp) dX6_readSign_35 rfl ?_
    refine z_cald (q := 39) _ (by with_reducible assumption) (rfl) (by omega) (by decide) dX6_readSign_38 rfl ?_
    refine z_iload_n (q := 40) dX6_readSign_39 rfl rfl rfl ?_
    refine z_icmp_eq (tgt := 45) (q := 43) dX6_readSign_40 (by decide) rfl (fun h40 => ?_) (fun h40 => ?_)
    · rw [if_pos ⟨by omega, h40⟩, if_pos ⟨by omega, h40⟩]
      refine z_aload_n (q := 46) dX6_readSign_45 rfl rfl rfl ?_
      refine z_dup (q := 47) dX6_readSign_46 rfl rfl ?_
      refine z_getV (q := 50) 6 4 1 8 rfl (by decide) rfl rfl rfl (by with_reducible assumption) (hp) dX6_readSign_47 rfl ?_
      refine z_iconst (q := 51) (v := nI 1) dX6_readSign_50 (by rfl) rfl ?_
      refine z_iaddE (q := 52) dX6_readSign_51 (nI_add _ _) rfl ?_
      refine z_put (q := 55) 6 4 1 8 rfl (by decide) rfl rfl (tyX6_ok 4 (by decide)) (rfl) (rfl) rfl (by with_reducible assumption) dX6_readSign_52 rfl ?_
      refine z_iconst (q := 56) (v := nI 1) dX6_readSign_55 (by rfl) rfl ?_
      exact z_zret rfl (by rfl) dX6_readSign_56 (Nat.zero_le _) (Nat.zero_le _) ⟨rfl, rfl, rfl, rfl, z_sp_w⟩
    · exact no (fun z => h40 z.2) _
def numA (tx : Nat → Int32) (y d p : Nat) : Int32 := if (numS tx y d p (nI 0)).1 = p then -1 else (numS tx y d p (nI 0)).2
theorem dg_nat {c : Nat} (hc : c ≤ 126) : (¬ (nI c < nI 48 ∨ nI 57 < nI c)) ↔ (48 ≤ c ∧ c ≤ 57) := by
  rw [nI_ltI (by omega) (by omega), nI_ltI (by omega) (by omega)]
  omega
/-- what numbers come to -/
theorem numS_v {tx : Nat → Int32} {y : Nat} (ht : TXT tx) (hy : y ≤ 80) : ∀ f i p w, w < 10 ^ i → f + i ≤ 7 → ∃ w', (numS tx y f p (nI w)).2 = nI w' ∧ w' < 10 ^ (f + i) := by
  intro f
  induction f with
  | zero => intro i p w hw _; exact ⟨w, rfl, by rw [Nat.zero_add]; exact hw⟩
  | succ f ih =>
    intro i p w hw hi
    rw [numS]
    split
    next h =>
      obtain ⟨c, hc, hc2⟩ := ht p (by omega)
      rw [hc] at h ⊢
      have h48 := (dg_nat hc2).mp h.2
      rw [pk_mul, nI_add, pk_sub (by omega)]
      obtain ⟨w', h1, h2⟩ := ih (i + 1) (p + 1) (10 * w + c - 48) (by rw [Nat.pow_succ]; omega) (by omega)
      exact ⟨w', h1, by rw [show f + 1 + i = f + (i + 1) by omega]; exact h2⟩
    next => exact ⟨w, rfl, Nat.lt_of_lt_of_le hw (Nat.pow_le_pow_right (by decide) (by omega))⟩
theorem numA_v {tx : Nat → Int32} {y d p : Nat} (ht : TXT tx) (hy : y ≤ 80) (hd : d ≤ 7) : (numA tx y d p = -1 ∧ (numS tx y d p (nI 0)).1 = p) ∨ ∃ w, numA tx y d p = nI w ∧ w < 10 ^ d ∧ p < (numS tx y d p (nI 0)).1 := by
  unfold numA
  by_cases h : (numS tx y d p (nI 0)).1 = p
  · exact Or.inl ⟨by rw [if_pos h], h⟩
  · obtain ⟨w, h1, h2⟩ := numS_v ht hy d 0 p 0 (by decide) (by omega)
    have := numS_ge tx y d p (nI 0)
    exact Or.inr ⟨w, by rw [if_neg h]; exact h1, h2, by omega⟩
theorem p10 {w d : Nat} (h : w < 10 ^ d) (hd : d ≤ 7) : w < 10000000 := Nat.lt_of_lt_of_le h (Nat.pow_le_pow_right (n := 10) (by decide) hd)
theorem numA_neg {tx : Nat → Int32} {y d p : Nat} (ht : TXT tx) (hy : y ≤ 80) (hd : d ≤ 7) : numA tx y d p < 0 ↔ ¬ p < (numS tx y d p (nI 0)).1 := by
  rcases numA_v (p := p) ht hy hd with ⟨h1, h2⟩ | ⟨w, h1, h2, h3⟩
  · rw [h1, h2]
    exact ⟨fun _ => Nat.lt_irrefl _, fun _ => by decide⟩
  · rw [h1]
    have := p10 h2 hd
    exact ⟨fun z => absurd z (nI_pos (by omega)), fun z => absurd h3 z⟩
theorem numO_e {tx : Nat → Int32} {y d p : Nat} (c : Int32) (ht : TXT tx) (hy : y ≤ 80) (hd : d ≤ 7) : numO tx y p d c = if ¬ numA tx y d p < 0 ∧ nxt tx y (numS tx y d p (nI 0)).1 c then some (numA tx y d p, (numS tx y d p (nI 0)).1 + 1) else none := by
  unfold numO
  by_cases h : p < (numS tx y d p (nI 0)).1
  · have e : numA tx y d p = (numS tx y d p (nI 0)).2 := by rw [numA, if_neg (by omega)]
    have h2 : ¬ numA tx y d p < 0 := fun z => (numA_neg ht hy hd).mp z h
    by_cases h3 : nxt tx y (numS tx y d p (nI 0)).1 c
    · rw [if_pos ⟨h, h3⟩, if_pos ⟨h2, h3⟩, e]
    · rw [if_neg (fun z => h3 z.2), if_neg (fun z => h3 z.2)]
  · rw [if_neg (fun z => h z.1), if_neg (fun z => z.1 ((numA_neg ht hy hd).mpr h))]
theorem numS_le {tx : Nat → Int32} {y : Nat} : ∀ f p v, p ≤ y → (numS tx y f p v).1 ≤ y := by
  intro f
  induction f with
  | zero => intro p v h; exact h
  | succ f ih =>
    intro p v h
    rw [numS]
    split
    next h2 => exact ih _ _ (by omega)
    next => exact h
set_option maxRecDepth 100000 in
set_option maxHeartbeats 4000000 in
theorem c_X6_readNumber (G : zG) {n : Nat} {T : zTT} {I : zII} {R : zRR} (s d p y : Nat) (hS : z_Sc T R s) (hy : I s 1 = nI y) (hy80 : y ≤ 80) (hp : I s 4 = nI p) (hpy : p ≤ y) (hd : d ≤ 7) (ht : TXT (I (s + 1))) : Ct G yX6_readNumber wsX6_readNumber (1, 0, 0) [.ref s, .int (nI d)] n T I R (z_rel (some (.int (numA (I (s + 1)) y d p))) n T (fun I' R' => R' = R ∧ z_sp s (numS (I (s + 1)) y d p (nI 0)).1 I I')) := by
  refine Ct.ofX (M := muX6_readNumber) (ls := [(0, .ref s), (1, .int (nI d))]) (by decide +kernel) rfl (by decide) rfl rfl (Nat.le_of_ble_eq_true rfl) ?_
  obtain ⟨hTs, ⟨hTc, hRc⟩, -⟩ := hS
  generalize hres : numS (I (s + 1)) y d p (nI 0) = res
  have hans : numA (I (s + 1)) y d p = if res.1 = p then -1 else res.2 := by rw [numA, hres]
  rw [hans]
  have hval : ∀ i w : Nat, (if i = 0 then (-1 : Int32) else nI w) = if p + i = p then -1 else nI w := fun i w => by
    by_cases h : i = 0
    · rw [if_pos h, if_pos (by omega)]
    · rw [if_neg h, if_neg (by omega)]
  have fin95 : ∀ i w I4, res = (p + i, nI w) → z_sp s (p + i) I I4 → ∀ ls : List (Nat × Value), lv_pick ls [2] = [(2, .int (if i = 0 then -1 else nI w))] → z_X G muX6_readNumber (1, 0, 0) (z_rel (some (.int (if res.1 = p then -1 else res.2))) n T (fun I' R' => R' = R ∧ z_sp s res.1 I I')) n T I4 R 0 0 95 ls [] := by
    intro i w I4 hE h4 ls hls
    refine z_pick [2] hls ?_
    subst hE
    rw [hval]
    refine z_iload_n (q := 96) dX6_readNumber_95 rfl rfl rfl ?_
    exact z_iret rfl dX6_readNumber_96 (Nat.zero_le _) (Nat.zero_le _) (⟨rfl, rfl, rfl, rfl, h4⟩)
  have fin65 : ∀ i w I4, res = (p + i, nI w) → z_sp s (p + i) I I4 → ∀ ls : List (Nat × Value), lv_pick ls [2] = [(2, .int (if i = 0 then -1 else nI w))] → z_X G muX6_readNumber (1, 0, 0) (z_rel (some (.int (if res.1 = p then -1 else res.2))) n T (fun I' R' => R' = R ∧ z_sp s res.1 I I')) n T I4 R 0 0 65 ls [] := by
    intro i w I4 hE h4 ls hls
    refine z_pick [2] hls ?_
    subst hE
    rw [hval]
    refine z_iload_n (q := 66) dX6_readNumber_65 rfl rfl rfl ?_
    exact z_iret rfl dX6_readNumber_66 (Nat.zero_le _) (Nat.zero_le _) (⟨rfl, rfl, rfl, rfl, h4⟩)
  have loop : ∀ f i w I4, f + i = d → p + i ≤ y → w < 10 ^ i → numS (I (s + 1)) y f (p + i) (nI w) = res → (i = 0 → w = 0) → z_sp s (p + i) I I4 → ∀ ls : List (Nat × Value), lv_pick ls [0, 1, 2, 3] = [(0, .ref s), (1, .int (nI d)), (2, .int (if i = 0 then -1 else nI w)), (3, .int (nI i))] → z_X G muX6_readNumber (1, 0, 0) (z_rel (some (.int (if res.1 = p then -1 else res.2))) n T (fun I' R' => R' = R ∧ z_sp s res.1 I I')) n T I4 R 0 0 4 ls [] := by
    intro f
    induction f with
    | zero =>
      intro i w I4 hf hi hw hE h0 h4 ls hls
      refine z_pick [0, 1, 2, 3] hls ?_
      rw [numS] at hE
      refine z_iload_n (q := 5) dX6_readNumber_4 rfl rfl rfl ?_
      refine z_iload_n (q := 6) dX6_readNumber_5 rfl rfl rfl ?_
      refine z_icmpn_ge (rfl) (rfl) (by omega) (by omega) (tgt := 95) (q := 9) dX6_readNumber_6 (by decide) rfl (fun _ => ?_) (fun hc => absurd hc (by omega))
      exact fin95 i w I4 hE.symm h4 _ rfl
    | succ f ih =>
      intro i w I4 hf hi hw hE h0 h4 ls hls
      have hp4 := h4.1
      have hy4 : I4 s 1 = nI y := by rw [h4.2.1 1 (by decide)]; exact hy
      have hT4 : I4 (s + 1) = I (s + 1) := h4.2.2 _ (by omega)
      rw [numS] at hE
      refine z_pick [0, 1, 2, 3] hls ?_
      refine z_iload_n (q := 5) dX6_readNumber_4 rfl rfl rfl ?_
      refine z_iload_n (q := 6) dX6_readNumber_5 rfl rfl rfl ?_
      refine z_icmpn_ge (rfl) (rfl) (by omega) (by omega) (tgt := 95) (q := 9) dX6_readNumber_6 (by decide) rfl (fun hc => absurd hc (by omega)) (fun _ => ?_)
      refine z_aload_n (q := 10) dX6_readNumber_9 rfl rfl rfl ?_
      refine z_getV (q := 13) 6 4 1 12 rfl (by decide) rfl rfl rfl (by with_reducible assumption) (hp4) dX6_readNumber_10 rfl ?_
      refine z_if_lt (tgt := 95) (q := 16) dX6_readNumber_13 (by decide) rfl (fun hc => False.elim (nI_pos (n := p + i) (by omega) hc)) (fun _ => ?_)
      refine z_aload_n (q := 17) dX6_readNumber_16 rfl rfl rfl ?_
      refine z_getV (q := 20) 6 4 1 12 rfl (by decide) rfl rfl rfl (by with_reducible assumption) (hp4) dX6_readNumber_17 rfl ?_
      refine z_aload_n (q := 21) dX6_readNumber_20 rfl rfl rfl ?_
      refine z_getV (q := 24) 6 1 2 9 rfl (by decide) rfl rfl rfl (by with_reducible assumption) (hy4) dX6_readNumber_21 rfl ?_
      refine z_icmpn_ge (rfl) (rfl) (by omega) (by omega) (tgt := 95) (q := 27) dX6_readNumber_24 (by decide) rfl (fun h24 => ?_) (fun h24 => ?_)
      · rw [if_neg (fun z => by have := z.1; omega)] at hE
        exact fin95 i w I4 hE.symm h4 _ rfl
      · refine z_aload_n (q := 28) dX6_readNumber_27 rfl rfl rfl ?_
        refine z_getV (q := 31) 6 4 1 12 rfl (by decide) rfl rfl rfl (by with_reducible assumption) (hp4) dX6_readNumber_28 rfl ?_
        refine z_aload_n (q := 32) dX6_readNumber_31 rfl rfl rfl ?_
        refine z_getR (q := 35) 6 0 3 8 rfl (by decide) rfl rfl rfl (by with_reducible assumption) (by with_reducible assumption) dX6_readNumber_32 rfl ?_
        refine z_alen (q := 36) (by with_reducible assumption) dX6_readNumber_35 rfl ?_
        refine z_icmpn_ge (rfl) (rfl) (by omega) (by omega) (tgt := 95) (q := 39) dX6_readNumber_36 (by decide) rfl (fun hc => absurd hc (by omega)) (fun _ => ?_)
        refine z_aload_n (q := 40) dX6_readNumber_39 rfl rfl rfl ?_
        refine z_getR (q := 43) 6 0 3 8 rfl (by decide) rfl rfl rfl (by with_reducible assumption) (by with_reducible assumption) dX6_readNumber_40 rfl ?_
        refine z_aload_n (q := 44) dX6_readNumber_43 rfl rfl rfl ?_
        refine z_getV (q := 47) 6 4 1 12 rfl (by decide) rfl rfl rfl (by with_reducible assumption) (hp4) dX6_readNumber_44 rfl ?_
        refine z_cald (q := 48) _ (by with_reducible assumption) (rfl) (by omega) (by decide) dX6_readNumber_47 rfl ?_
        refine z_bipush (q := 50) (v := nI 48) dX6_readNumber_48 (by rfl) rfl ?_
        refine z_isub (q := 51) dX6_readNumber_50 rfl ?_
        refine z_istore (q := 53) dX6_readNumber_51 (by decide) rfl ?_
        obtain ⟨c, hc, hc2⟩ := ht (p + i) (by omega)
        rw [hT4, hc]
        rw [hc] at hE
        by_cases h48 : c < 48
        · rw [if_neg (fun z => by have := (dg_nat hc2).mp z.2; omega)] at hE
          refine z_iload (q := 55) (i := 4) dX6_readNumber_53 rfl rfl ?_
          refine z_if_lt (tgt := 65) (q := 58) dX6_readNumber_55 (by decide) rfl (fun _ => ?_) (fun hc => False.elim (hc (pk_sneg (by omega) h48)))
          exact fin65 i w I4 hE.symm h4 _ rfl
        · rw [pk_sub (show 48 ≤ c by omega)]
          refine z_iload (q := 55) (i := 4) dX6_readNumber_53 rfl rfl ?_
          refine z_if_lt (tgt := 65) (q := 58) dX6_readNumber_55 (by decide) rfl (fun hc => False.elim (nI_pos (n := c - 48) (by omega) hc)) (fun _ => ?_)
          refine z_iload (q := 60) (i := 4) dX6_readNumber_58 rfl rfl ?_
          refine z_bipush (q := 62) (v := nI 9) dX6_readNumber_60 (by rfl) rfl ?_
          refine z_icmpn_le (rfl) (rfl) (by omega) (by omega) (tgt := 67) (q := 65) dX6_readNumber_62 (by decide) rfl (fun h62 => ?_) (fun h62 => ?_)
          · rw [if_pos ⟨by omega, (dg_nat hc2).mpr (by omega)⟩, pk_mul, nI_add, pk_sub (by omega)] at hE
            have hmax : (if (if i = 0 then (-1 : Int32) else nI w) < nI 0 then nI 0 else (if i = 0 then (-1 : Int32) else nI w)) = nI w := by
              by_cases hi0 : i = 0
              · rw [if_pos hi0, if_pos (by decide), h0 hi0]
              · have hw7 := p10 hw (by omega)
                rw [if_neg hi0, if_neg (nI_nlt (Nat.zero_le _) (by omega))]
            refine z_iload_n (q := 68) dX6_readNumber_67 rfl rfl rfl ?_
            refine z_iconst (q := 69) (v := nI 0) dX6_readNumber_68 (by rfl) rfl ?_
            refine z_max (q := 72) (i := 4) (j := 5) (l := 6) (o := 7) rfl rfl rfl rfl rfl (Nat.le_of_ble_eq_true rfl) ⟨Nat.zero_le _, Nat.zero_le _⟩ dX6_readNumber_69 rfl ?_
            rw [hmax]
            refine z_bipush (q := 74) (v := nI 10) dX6_readNumber_72 (by rfl) rfl ?_
            refine z_imulE (q := 75) dX6_readNumber_74 (pk_mul _ _) rfl ?_
            refine z_iload (q := 77) (i := 4) dX6_readNumber_75 rfl rfl ?_
            refine z_iaddE (q := 78) dX6_readNumber_77 (nI_add _ _) rfl ?_
            refine z_istore_n (q := 79) dX6_readNumber_78 rfl (by decide) rfl ?_
            refine z_aload_n (q := 80) dX6_readNumber_79 rfl rfl rfl ?_
            refine z_dup (q := 81) dX6_readNumber_80 rfl rfl ?_
            refine z_getV (q := 84) 6 4 1 12 rfl (by decide) rfl rfl rfl (by with_reducible assumption) (hp4) dX6_readNumber_81 rfl ?_
            refine z_iconst (q := 85) (v := nI 1) dX6_readNumber_84 (by rfl) rfl ?_
            refine z_iaddE (q := 86) dX6_readNumber_85 (nI_add _ _) rfl ?_
            refine z_put (q := 89) 6 4 1 12 rfl (by decide) rfl rfl (tyX6_ok 4 (by decide)) (rfl) (rfl) rfl (by with_reducible assumption) dX6_readNumber_86 rfl ?_
            refine z_iinc (q := 92) dX6_readNumber_89 rfl (nI_add _ 1) (by decide) rfl ?_
            refine z_goto (q := 4) dX6_readNumber_92 (by decide) ?_
            refine ih (i + 1) (w * 10 + (c - 48)) _ (by omega) (by omega) (by rw [Nat.pow_succ]; omega) ?_ (fun z => absurd z (by omega)) (z_sp_t h4 z_sp_w) _ rfl
            rw [show w * 10 + (c - 48) = 10 * w + c - 48 by omega]
            exact hE
          · rw [if_neg (fun z => by have := (dg_nat hc2).mp z.2; omega)] at hE
            exact fin65 i w I4 hE.symm h4 _ rfl
  refine z_iconst (q := 1) (v := (-1)) dX6_readNumber_0 (by rfl) rfl ?_
  refine z_istore_n (q := 2) dX6_readNumber_1 rfl (by decide) rfl ?_
  refine z_iconst (q := 3) (v := nI 0) dX6_readNumber_2 (by rfl) rfl ?_
  refine z_istore_n (q := 4) dX6_readNumber_3 rfl (by decide) rfl ?_
  exact loop d 0 0 I rfl hpy (by decide) hres (fun _ => rfl) ⟨hp, fun _ _ => rfl, fun _ _ => rfl⟩ _ rfl

