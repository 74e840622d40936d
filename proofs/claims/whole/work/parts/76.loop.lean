/-! THE LAW: its loop, its start -/
section LAW
variable {p : Program} {e : Env} {s : State} {m : MethodId} {args : Array Value} {below : List Frame} {meth : Method} {c : Code} {G : zG} {n : Nat} {T : zTT} {I : zII} {R : zRR}
variable {b L0 x d : Nat} {xs : Nat → Int32}
theorem law_step {i : Nat} (hX : va_X b L0 xs s s.heap) (hbl : b < s.heap.size) (hG : G.2.2 = s.heap.size) (hL0 : L0 ≤ 3072) (hm : d = x + 595) (hT7 : T x = some (.inl 7)) (hT8 : T d = some (.inl 8)) (hi : i + 6 ≤ L0) (hS : LSt T x d I R) (kk : ∀ (I' : zII) (R' : zRR), LSt T x d I' R' → z_L p e s m args below meth c G muL (10, 600000, 7302250) QL n T I' R' 603 8847 967 [(0, .ref b), (1, .ref x), (2, .ref d), (3, .int (nI i))] []) : z_L p e s m args below meth c G muL (10, 600000, 7302250) QL n T I R 603 8847 27 [(0, .ref b), (1, .ref x), (2, .ref d), (3, .int (nI i))] [] := by
  refine l_aload_n (q := 28) dL_law_27 rfl rfl rfl ?_
  refine l_iload_n (q := 29) dL_law_28 rfl rfl rfl ?_
  refine l_sld (q := 30) i hX hbl hG rfl (by omega) (by omega) dL_law_29 rfl ?_
  refine l_bipush (q := 32) (v := nI 31) dL_law_30 (by rfl) rfl ?_
  obtain ⟨v, hv, e31⟩ := and31 (xs i)
  refine l_iand (q := 33) dL_law_32 rfl ?_
  rw [e31]
  by_cases h27 : 27 ≤ v
  · exact l_tableOut (tgt := 967) dL_law_33 (Or.inr (by rw [nI_toInt (by omega)]; omega)) (by decide) (kk I R hS)
  by_cases h0 : v = 0
  · subst h0
    exact l_tableIn (tgt := 156) dL_law_33 (by decide) (by decide) (by rfl) (by decide) (law_room hX hbl hG hL0 hi hm hT7 hT8 hS kk)
  by_cases h1 : v = 1
  · subst h1
    exact l_tableIn (tgt := 189) dL_law_33 (by decide) (by decide) (by rfl) (by decide) (law_door hX hbl hG hL0 hi hm hT7 hT8 hS kk)
  by_cases h2 : v = 2
  · subst h2
    exact l_tableIn (tgt := 252) dL_law_33 (by decide) (by decide) (by rfl) (by decide) (law_open hX hbl hG hL0 hi hm hT7 hT8 hS kk)
  by_cases h3 : v = 3
  · subst h3
    exact l_tableIn (tgt := 285) dL_law_33 (by decide) (by decide) (by rfl) (by decide) (law_refusal hX hbl hG hL0 hi hm hT7 hT8 hS kk)
  by_cases h4 : v = 4
  · subst h4
    exact l_tableIn (tgt := 318) dL_law_33 (by decide) (by decide) (by rfl) (by decide) (law_lock hX hbl hG hL0 hi hm hT7 hT8 hS kk)
  by_cases h5 : v = 5
  · subst h5
    exact l_tableIn (tgt := 351) dL_law_33 (by decide) (by decide) (by rfl) (by decide) (law_set hX hbl hG hL0 hi hm hT7 hT8 hS kk)
  by_cases h6 : v = 6
  · subst h6
    exact l_tableIn (tgt := 384) dL_law_33 (by decide) (by decide) (by rfl) (by decide) (law_roomOf hX hbl hG hL0 hi hm hT7 hT8 hS kk)
  by_cases h7 : v = 7
  · subst h7
    exact l_tableIn (tgt := 417) dL_law_33 (by decide) (by decide) (by rfl) (by decide) (law_doorOf hX hbl hG hL0 hi hm hT7 hT8 hS kk)
  by_cases h8 : v = 8
  · subst h8
    exact l_tableIn (tgt := 450) dL_law_33 (by decide) (by decide) (by rfl) (by decide) (law_count hX hbl hG hL0 hi hm hT7 hT8 hS kk)
  by_cases h9 : v = 9
  · subst h9
    exact l_tableIn (tgt := 473) dL_law_33 (by decide) (by decide) (by rfl) (by decide) (law_undo hX hbl hG hL0 hi hm hT7 hT8 hS kk)
  by_cases h10 : v = 10
  · subst h10
    exact l_tableIn (tgt := 486) dL_law_33 (by decide) (by decide) (by rfl) (by decide) (law_sound hX hbl hG hL0 hi hm hT7 hT8 hS kk)
  by_cases h11 : v = 11
  · subst h11
    exact l_tableIn (tgt := 539) dL_law_33 (by decide) (by decide) (by rfl) (by decide) (law_planDoor hX hbl hG hL0 hi hm hT7 hT8 hS kk)
  by_cases h12 : v = 12
  · subst h12
    exact l_tableIn (tgt := 582) dL_law_33 (by decide) (by decide) (by rfl) (by decide) (law_cancel hX hbl hG hL0 hi hm hT7 hT8 hS kk)
  by_cases h13 : v = 13
  · subst h13
    exact l_tableIn (tgt := 605) dL_law_33 (by decide) (by decide) (by rfl) (by decide) (law_plan hX hbl hG hL0 hi hm hT7 hT8 hS kk)
  by_cases h14 : v = 14
  · subst h14
    exact l_tableIn (tgt := 638) dL_law_33 (by decide) (by decide) (by rfl) (by decide) (law_pass hX hbl hG hL0 hi hm hT7 hT8 hS kk)
  by_cases h15 : v = 15
  · subst h15
    exact l_tableIn (tgt := 661) dL_law_33 (by decide) (by decide) (by rfl) (by decide) (law_way hX hbl hG hL0 hi hm hT7 hT8 hS kk)
  by_cases h16 : v = 16
  · subst h16
    exact l_tableIn (tgt := 694) dL_law_33 (by decide) (by decide) (by rfl) (by decide) (law_tail hX hbl hG hL0 hi hm hT7 hT8 hS kk)
  by_cases h17 : v = 17
  · subst h17
    exact l_tableIn (tgt := 717) dL_law_33 (by decide) (by decide) (by rfl) (by decide) (law_tailWith hX hbl hG hL0 hi hm hT7 hT8 hS kk)
  by_cases h18 : v = 18
  · subst h18
    exact l_tableIn (tgt := 760) dL_law_33 (by decide) (by decide) (by rfl) (by decide) (law_bestDoor hX hbl hG hL0 hi hm hT7 hT8 hS kk)
  by_cases h19 : v = 19
  · subst h19
    exact l_tableIn (tgt := 793) dL_law_33 (by decide) (by decide) (by rfl) (by decide) (law_rise hX hbl hG hL0 hi hm hT7 hT8 hS kk)
  by_cases h20 : v = 20
  · subst h20
    exact l_tableIn (tgt := 816) dL_law_33 (by decide) (by decide) (by rfl) (by decide) (law_peak hX hbl hG hL0 hi hm hT7 hT8 hS kk)
  by_cases h21 : v = 21
  · subst h21
    exact l_tableIn (tgt := 849) dL_law_33 (by decide) (by decide) (by rfl) (by decide) (law_quiet hX hbl hG hL0 hi hm hT7 hT8 hS kk)
  by_cases h22 : v = 22
  · subst h22
    exact l_tableIn (tgt := 862) dL_law_33 (by decide) (by decide) (by rfl) (by decide) (law_fell hX hbl hG hL0 hi hm hT7 hT8 hS kk)
  by_cases h23 : v = 23
  · subst h23
    exact l_tableIn (tgt := 895) dL_law_33 (by decide) (by decide) (by rfl) (by decide) (law_type hX hbl hG hL0 hi hm hT7 hT8 hS kk)
  by_cases h24 : v = 24
  · subst h24
    exact l_tableIn (tgt := 918) dL_law_33 (by decide) (by decide) (by rfl) (by decide) (law_clearText hX hbl hG hL0 hi hm hT7 hT8 hS kk)
  by_cases h25 : v = 25
  · subst h25
    exact l_tableIn (tgt := 931) dL_law_33 (by decide) (by decide) (by rfl) (by decide) (law_fault hX hbl hG hL0 hi hm hT7 hT8 hS kk)
  by_cases h26 : v = 26
  · subst h26
    exact l_tableIn (tgt := 954) dL_law_33 (by decide) (by decide) (by rfl) (by decide) (law_load hX hbl hG hL0 hi hm hT7 hT8 hS kk)
  omega
theorem law_loop (hX : va_X b L0 xs s s.heap) (hbl : b < s.heap.size) (hG : G.2.2 = s.heap.size) (hL0 : L0 ≤ 3072) (hm : d = x + 595) (hT7 : T x = some (.inl 7)) (hT8 : T d = some (.inl 8)) : ∀ N i : Nat, L0 ≤ i + N → i ≤ 3078 → ∀ (I : zII) (R : zRR), LSt T x d I R → z_L p e s m args below meth c G muL (10, 600000, 7302250) QL n T I R 603 8847 18 [(0, .ref b), (1, .ref x), (2, .ref d), (3, .int (nI i))] [] := by
  have exit : ∀ i : Nat, L0 < i + 6 → i ≤ 3078 → ∀ (I : zII) (R : zRR), z_L p e s m args below meth c G muL (10, 600000, 7302250) QL n T I R 603 8847 18 [(0, .ref b), (1, .ref x), (2, .ref d), (3, .int (nI i))] [] := by
    intro i hi h3 I R
    refine l_iload_n (q := 19) dL_law_18 rfl rfl rfl ?_
    refine l_aload_n (q := 20) dL_law_19 rfl rfl rfl ?_
    refine l_slen (q := 21) hX hbl hG dL_law_20 rfl ?_
    refine l_bipush (q := 23) (v := nI 6) dL_law_21 (by rfl) rfl ?_
    have hlt : nI L0 - nI 6 < nI i := by
      by_cases h6 : 6 ≤ L0
      · rw [show L0 = (L0 - 6) + 6 by omega, ← nI_add, Int32.add_sub_cancel]
        exact nI_lt (by omega) (by omega)
      · have h0 : nI L0 - nI 6 < nI 0 := by
          rcases (show L0 = 0 ∨ L0 = 1 ∨ L0 = 2 ∨ L0 = 3 ∨ L0 = 4 ∨ L0 = 5 by omega) with h | h | h | h | h | h <;> subst h <;> decide
        exact Int32.lt_of_lt_of_le h0 (nI_le (Nat.zero_le i) (by omega))
    refine l_isubE (q := 24) dL_law_23 rfl rfl ?_
    refine l_icmp_gt (tgt := 973) (q := 27) dL_law_24 (by decide) rfl (fun _ => ?_) (fun h => absurd hlt h)
    refine l_iconst (q := 974) (v := nI 1) dL_law_973 (by rfl) rfl ?_
    exact l_zret rfl rfl dL_law_974 (by decide) (by decide) rfl
  intro N
  induction N with
  | zero =>
    intro i h1 h2 I R hS
    exact exit i (by omega) h2 I R
  | succ N ih =>
    intro i h1 h2 I R hS
    by_cases hi : i + 6 ≤ L0
    · refine l_iload_n (q := 19) dL_law_18 rfl rfl rfl ?_
      refine l_aload_n (q := 20) dL_law_19 rfl rfl rfl ?_
      refine l_slen (q := 21) hX hbl hG dL_law_20 rfl ?_
      refine l_bipush (q := 23) (v := nI 6) dL_law_21 (by rfl) rfl ?_
      refine l_isubE (q := 24) (v := nI (L0 - 6)) dL_law_23 (by rw [show L0 = (L0 - 6) + 6 by omega, ← nI_add, Int32.add_sub_cancel]; rfl) rfl ?_
      refine l_icmpn_gt rfl rfl (by omega) (by omega) (tgt := 973) (q := 27) dL_law_24 (by decide) rfl (fun h => absurd h (by omega)) (fun _ => ?_)
      refine law_step hX hbl hG hL0 hm hT7 hT8 hi hS (fun I' R' hS' => ?_)
      refine l_iinc (v := nI (i + 6)) (q := 970) dL_law_967 rfl (nI_add i 6) (by decide) rfl ?_
      refine l_goto (q := 18) dL_law_970 (by decide) ?_
      exact ih (i + 6) (by omega) (by omega) I' R' hS'
    · exact exit i (by omega) h2 I R
end LAW
