/-! THE CLASS, its text: the whole text -/
theorem INV_eq {nr nd np st nr' nd' np' st' : Nat} {g : Nat → Int32} (h : INV nr nd np st g) (h' : INV nr' nd' np' st' g) : nr = nr' ∧ nd = nd' ∧ np = np' := by
  have a := h.1.1.symm.trans h'.1.1
  have b := h.2.1.1.symm.trans h'.2.1.1
  have c := h.2.2.1.1.symm.trans h'.2.2.1.1
  have := h.1.2
  have := h'.1.2
  have := h.2.1.2
  have := h'.2.1.2
  have := h.2.2.1.2
  have := h'.2.2.1.2
  exact ⟨(nI_eq (by omega) (by omega)).mp a, (nI_eq (by omega) (by omega)).mp b, (nI_eq (by omega) (by omega)).mp c⟩
theorem z_n1m : (1000000 : Int32) = nI 1000000 := by decide
theorem z_n1g : (1000000000 : Int32) = nI 1000000000 := by decide
/-- an entry against which there is no reason fits the plan -/
theorem rsn_ok {nr nd np st v cnt en kd a t s mu : Nat} {g : Nat → Int32} (hI : INV nr nd np st g) (hst : st < 100000) (hv : g 5 = nI v) (hkd : kd ≤ 1) (ha : a < 10000000) (ht : t < 10000000) (hs : s < 10000000) (hm : mu < 10000000) (hcnt : np + cnt ≤ 16) (hen : v + en ≤ 1000000000) (h : rsnE g (nI cnt) (nI en) kd (nI a) (nI t) (nI s) (nI mu) = nI 0) : np + cnt < 16 ∧ EOK nr nd st (nI t, nI kd, nI a, (if kd = 0 then nI s else nI 0), (if kd = 0 then nI mu else nI s)) ∧ ∃ w, (if kd = 0 then nI s * nI mu else nI 0) = nI w ∧ v + en + w ≤ 1000000000 := by
  have hnr := hI.1.2
  have hnd := hI.2.1.2
  rw [rsnE] at h
  by_cases c1 : (if kd = 0 then nI a < 0 ∨ g 0 ≤ nI a else nI a < 0 ∨ g 1 ≤ nI a)
  · rw [if_pos c1] at h; exact absurd h (by decide)
  rw [if_neg c1] at h
  by_cases c2 : nI 5000 < nI t ∨ (if kd = 0 then (nI s < nI 1 ∨ nI 20 < nI s) ∨ nI mu < nI 1 ∨ 1000000 < nI mu else nI 10 < nI s)
  · rw [if_pos c2] at h; exact absurd h (by decide)
  rw [if_neg c2] at h
  by_cases c3 : nI t < g 3
  · rw [if_pos c3] at h; exact absurd h (by decide)
  rw [if_neg c3] at h
  by_cases c4 : g 2 + nI cnt = nI 16
  · rw [if_pos c4] at h; exact absurd h (by decide)
  rw [if_neg c4] at h
  by_cases c5 : kd = 0 ∧ 1000000000 < g 5 + nI en + nI s * nI mu
  · rw [if_pos c5] at h; exact absurd h (by decide)
  have t5 : t ≤ 5000 := by
    have : ¬ nI 5000 < nI t := fun z => c2 (Or.inl z)
    rw [nI_ltI (by omega) (by omega)] at this
    omega
  have tst : st ≤ t := by
    rw [hI.2.2.2.1, nI_ltI (by omega) (by omega)] at c3
    omega
  have hlt : np + cnt < 16 := by
    rw [hI.2.2.1.1, nI_add, nI_eq (by omega) (by omega)] at c4
    omega
  refine ⟨hlt, ?_⟩
  by_cases hk : kd = 0
  · subst hk
    rw [if_pos rfl, if_pos rfl]
    have c2' : ¬ ((nI s < nI 1 ∨ nI 20 < nI s) ∨ nI mu < nI 1 ∨ 1000000 < nI mu) := fun z => c2 (Or.inr (by rw [if_pos rfl]; exact z))
    rw [z_n1m, nI_ltI (by omega) (by omega), nI_ltI (by omega) (by omega), nI_ltI (by omega) (by omega), nI_ltI (by omega) (by omega)] at c2'
    rw [if_pos rfl, hI.1.1, nI_leI (by omega) (by omega)] at c1
    have hsm : s * mu ≤ 20 * 1000000 := Nat.mul_le_mul (by omega) (by omega)
    refine ⟨⟨t, 0, a, s, mu, rfl, t5, Or.inl ⟨rfl, by omega, by omega, by omega, by omega, by omega⟩⟩, s * mu, by rw [if_pos rfl]; exact pk_mul _ _, ?_⟩
    have c5' : ¬ (1000000000 : Int32) < g 5 + nI en + nI s * nI mu := fun z => c5 ⟨rfl, z⟩
    rw [hv, nI_add, pk_mul, nI_add, z_n1g, nI_ltI (by decide) (by omega)] at c5'
    omega
  · have hk1 : kd = 1 := by omega
    subst hk1
    rw [if_neg (by decide), if_neg (by decide)]
    have c2' : ¬ nI 10 < nI s := fun z => c2 (Or.inr (by rw [if_neg (by decide)]; exact z))
    rw [nI_ltI (by omega) (by omega)] at c2'
    rw [if_neg (by decide), hI.2.1.1, nI_leI (by omega) (by omega)] at c1
    exact ⟨⟨t, 1, a, 0, s, rfl, t5, Or.inr ⟨rfl, by omega, rfl, tst, by omega⟩⟩, 0, by rw [if_neg (by decide)], by omega⟩
/-- an entry read, as the cell has it -/
theorem rde_f {s : Nat} {I' : zII} {kd : Nat} {a t sv mu : Int32} {q : Nat} (hk : kd ≤ 1) (h : z_rde s I' (some (kd, a, t, sv, mu, q))) : I' s 4 = nI q ∧ (I' (s + 2) 0 = 0 ↔ ¬ kd = 0) ∧ I' (s + 2) 1 = t ∧ I' (s + 2) 2 = a ∧ (kd = 0 → I' (s + 2) 3 = sv ∧ I' (s + 2) 4 = mu) ∧ (¬ kd = 0 → I' (s + 2) 4 = sv) ∧ (I' (s + 2) 0 = 0 ∨ I' (s + 2) 0 = 1) ∧ entC I' (s + 2) = (t, nI kd, a, (if kd = 0 then sv else nI 0), (if kd = 0 then mu else sv)) := by
  obtain ⟨h1, h2, h3⟩ := h
  have h2 : entC I' (s + 2) = (t, (if kd = 0 then nI 0 else nI 1), a, (if kd = 0 then sv else nI 0), (if kd = 0 then mu else sv)) := h2
  have e0 : (if I' (s + 2) 0 = 0 then nI 1 else nI 0) = (if kd = 0 then nI 0 else nI 1) := congrArg (fun z : zE => z.2.1) h2
  have e1 : I' (s + 2) 1 = t := congrArg (fun z : zE => z.1) h2
  have e2 : I' (s + 2) 2 = a := congrArg (fun z : zE => z.2.2.1) h2
  have e3 : I' (s + 2) 3 = (if kd = 0 then sv else nI 0) := congrArg (fun z : zE => z.2.2.2.1) h2
  have e4 : I' (s + 2) 4 = (if kd = 0 then mu else sv) := congrArg (fun z : zE => z.2.2.2.2) h2
  refine ⟨h1, ?_, e1, e2, fun hk0 => ⟨by rw [e3, if_pos hk0], by rw [e4, if_pos hk0]⟩, fun hk0 => by rw [e4, if_neg hk0], h3, ?_⟩
  · by_cases hk0 : kd = 0
    · rw [if_pos hk0] at e0
      constructor
      · intro z; rw [if_pos z] at e0; exact absurd e0 z_n100
      · intro z; exact absurd hk0 z
    · rw [if_neg hk0] at e0
      constructor
      · intro _; exact hk0
      · intro _
        by_cases z : I' (s + 2) 0 = 0
        · exact z
        · rw [if_neg z] at e0; exact absurd e0.symm z_n100
  · rw [h2]
    by_cases hk0 : kd = 0
    · rw [if_pos hk0, hk0]
    · rw [if_neg hk0, show kd = 1 by omega]
set_option maxRecDepth 100000 in
set_option maxHeartbeats 4000000 in
theorem c_X6_check (G : zG) {n : Nat} {T : zTT} {I : zII} {R : zRR} (s a y st : Nat) (g : Nat → Int32) (hS : z_Sc T R s) (hy : I s 1 = nI y) (hy80 : y ≤ 80) (ht : TXT (I (s + 1))) (hA : z_Hs T R I a st g) (hst : st ≤ 5000) (htl : TLD g) (hd : a + 98 ≤ s ∨ s + 3 ≤ a) : Ct G yX6_check wsX6_check (4, 0, 0) [.ref s, .ref a] n T I R (z_rel none n T (fun I' R' => R' = R ∧ I' s 3 = (rdA g (I (s + 1)) y y 0 0 (nI 0)).1 ∧ (¬ (rdA g (I (s + 1)) y y 0 0 (nI 0)).1 = nI 0 → I' s 2 = nI (rdA g (I (s + 1)) y y 0 0 (nI 0)).2.1) ∧ I' s 1 = I s 1 ∧ ∀ q, q ≠ s → q ≠ s + 2 → I' q = I q)) := by
  refine Ct.ofX (M := muX6_check) (ls := [(0, .ref s), (1, .ref a)]) (by decide +kernel) rfl (by decide) rfl rfl (Nat.le_of_ble_eq_true rfl) ?_
  obtain ⟨hTs, ⟨hTc, hRc⟩, hTe, hRe⟩ := id hS
  obtain ⟨hH, nr, nd, np, F, hI, hG, hP, hF⟩ := hA
  obtain ⟨v, hv, hv9⟩ := htl
  have hnp := hI.2.2.1.2
  generalize hres : rdA g (I (s + 1)) y y 0 0 (nI 0) = res
  have loop : ∀ f p cnt en i I4, y ≤ f + p → p ≤ y → i ≤ p → rdA g (I (s + 1)) y f p cnt (nI en) = res → np + cnt ≤ 16 → v + en ≤ 1000000000 → I4 s 4 = nI p → I4 s 3 = nI 0 → I4 s 1 = I s 1 → (∀ q, q ≠ s → q ≠ s + 2 → I4 q = I q) → ∀ ls : List (Nat × Value), lv_pick ls [0, 1, 2, 3, 4] = [(0, .ref s), (1, .ref a), (2, .int (nI cnt)), (3, .int (nI en)), (4, .int (nI i))] → z_X G muX6_check (4, 0, 0) (z_rel none n T (fun I' R' => R' = R ∧ I' s 3 = res.1 ∧ (¬ res.1 = nI 0 → I' s 2 = nI res.2.1) ∧ I' s 1 = I s 1 ∧ ∀ q, q ≠ s → q ≠ s + 2 → I' q = I q)) n T I4 R 0 0 17 ls [] := by
    intro f
    induction f with
    | zero =>
      intro p cnt en i I4 hf hpy hip hE hcnt hen e4 e3 e1 e2 ls hls
      have e5 : I4 s 1 = nI y := e1.trans hy
      rw [rdA] at hE
      subst hE
      refine z_pick [0, 1, 2, 3, 4] hls ?_
      refine z_iload (q := 19) (i := 4) dX6_check_17 rfl rfl ?_
      refine z_bipush (q := 21) (v := nI 80) dX6_check_19 (by rfl) rfl ?_
      refine z_icmpn_ge (rfl) (rfl) (by omega) (by omega) (tgt := 92) (q := 24) dX6_check_21 (by decide) rfl (fun h21 => ?_) (fun h21 => ?_)
      · exact z_vret rfl dX6_check_92 (Nat.zero_le _) (Nat.zero_le _) (⟨rfl, rfl, rfl, rfl, e3, fun z => absurd rfl z, e1, e2⟩)
      · refine z_aload_n (q := 25) dX6_check_24 rfl rfl rfl ?_
        refine z_getV (q := 28) 6 4 2 85 rfl (by decide) rfl rfl rfl (by with_reducible assumption) (e4) dX6_check_25 rfl ?_
        refine z_aload_n (q := 29) dX6_check_28 rfl rfl rfl ?_
        refine z_getV (q := 32) 6 1 3 82 rfl (by decide) rfl rfl rfl (by with_reducible assumption) (e5) dX6_check_29 rfl ?_
        refine z_icmpn_ge (rfl) (rfl) (by omega) (by omega) (tgt := 92) (q := 35) dX6_check_32 (by decide) rfl (fun _ => ?_) (fun hc => absurd hc (by omega))
        exact z_vret rfl dX6_check_92 (Nat.zero_le _) (Nat.zero_le _) (⟨rfl, rfl, rfl, rfl, e3, fun z => absurd rfl z, e1, e2⟩)
    | succ f ih =>
      intro p cnt en i I4 hf hpy hip hE hcnt hen e4 e3 e1 e2 ls hls
      have e5 : I4 s 1 = nI y := e1.trans hy
      have e6 : I4 (s + 1) = I (s + 1) := e2 _ (by omega) (by omega)
      rw [rdA] at hE
      refine z_pick [0, 1, 2, 3, 4] hls ?_
      refine z_iload (q := 19) (i := 4) dX6_check_17 rfl rfl ?_
      refine z_bipush (q := 21) (v := nI 80) dX6_check_19 (by rfl) rfl ?_
      refine z_icmpn_ge (rfl) (rfl) (by omega) (by omega) (tgt := 92) (q := 24) dX6_check_21 (by decide) rfl (fun h21 => ?_) (fun h21 => ?_)
      · rw [if_neg (by omega)] at hE
        subst hE
        exact z_vret rfl dX6_check_92 (Nat.zero_le _) (Nat.zero_le _) (⟨rfl, rfl, rfl, rfl, e3, fun z => absurd rfl z, e1, e2⟩)
      · refine z_aload_n (q := 25) dX6_check_24 rfl rfl rfl ?_
        refine z_getV (q := 28) 6 4 2 85 rfl (by decide) rfl rfl rfl (by with_reducible assumption) (e4) dX6_check_25 rfl ?_
        refine z_aload_n (q := 29) dX6_check_28 rfl rfl rfl ?_
        refine z_getV (q := 32) 6 1 3 82 rfl (by decide) rfl rfl rfl (by with_reducible assumption) (e5) dX6_check_29 rfl ?_
        refine z_icmpn_ge (rfl) (rfl) (by omega) (by omega) (tgt := 92) (q := 35) dX6_check_32 (by decide) rfl (fun h32 => ?_) (fun h32 => ?_)
        · rw [if_neg (by omega)] at hE
          subst hE
          exact z_vret rfl dX6_check_92 (Nat.zero_le _) (Nat.zero_le _) (⟨rfl, rfl, rfl, rfl, e3, fun z => absurd rfl z, e1, e2⟩)
        · rw [if_pos (by omega)] at hE
          refine z_aload_n (q := 36) dX6_check_35 rfl rfl rfl ?_
          refine z_aload_n (q := 37) dX6_check_36 rfl rfl rfl ?_
          refine z_getV (q := 40) 6 4 2 85 rfl (by decide) rfl rfl rfl (by with_reducible assumption) (e4) dX6_check_37 rfl ?_
          refine z_put (q := 43) 6 2 4 83 rfl (by decide) rfl rfl (tyX6_ok 2 (by decide)) (rfl) (rfl) rfl (by with_reducible assumption) dX6_check_40 rfl ?_
          have w4 : zw I4 s 2 (nI p) s 4 = nI p := by rw [zw_k _ _ (by decide)]; exact e4
          have w1 : zw I4 s 2 (nI p) s 1 = I s 1 := by rw [zw_k _ _ (by decide)]; exact e1
          have w2 : zw I4 s 2 (nI p) s 2 = nI p := zw_s _ _ _ _
          have w0 : ∀ q, q ≠ s → q ≠ s + 2 → zw I4 s 2 (nI p) q = I q := fun q q1 q2 => by rw [zw_row _ _ q1]; exact e2 q q1 q2
          generalize zw I4 s 2 (nI p) = I5 at w4 w1 w2 w0 ⊢
          have w6 : I5 (s + 1) = I (s + 1) := w0 _ (by omega) (by omega)
          refine z_aload_n (q := 44) dX6_check_43 rfl rfl rfl ?_
          refine z_aload_n (q := 45) dX6_check_44 rfl rfl rfl ?_
          refine z_invV (q := 48) (c_X6_readEntry G s p y hS (w1.trans hy) hy80 w4 hpy (by rw [w6]; exact ht)) (by with_reducible assumption) rfl gX6_check_X6_readEntry rfl hy_X6_readEntry rfl rfl rfl rfl (Nat.le_of_ble_eq_true rfl) ⟨Nat.zero_le _, Nat.zero_le _⟩ dX6_check_45 rfl (z_rvR fun I6 R6 hZ6 => ?_)
          obtain ⟨hr6, h6⟩ := hZ6
          rw [hr6]
          rw [w6] at h6 ⊢
          have v1 : I6 s 1 = I s 1 := (h6.1 1 (by decide)).trans w1
          have v2 : I6 s 2 = nI p := (h6.1 2 (by decide)).trans w2
          have v0 : ∀ q, q ≠ s → q ≠ s + 2 → I6 q = I q := fun q q1 q2 => (h6.2.1 q q1 q2).trans (w0 q q1 q2)
          have out : ∀ r : Int32, ¬ r = nI 0 → (r, p, cnt) = res → ∀ ls : List (Nat × Value), z_X G muX6_check (4, 0, 0) (z_rel none n T (fun I' R' => R' = R ∧ I' s 3 = res.1 ∧ (¬ res.1 = nI 0 → I' s 2 = nI res.2.1) ∧ I' s 1 = I s 1 ∧ ∀ q, q ≠ s → q ≠ s + 2 → I' q = I q)) n T (zw I6 s 3 r) R 0 0 72 ls [] := by
            intro r hr hE2 ls
            subst hE2
            exact z_vret rfl dX6_check_72 (Nat.zero_le _) (Nat.zero_le _) (⟨rfl, rfl, rfl, rfl, zw_s _ _ _ _, fun _ => by rw [zw_k _ _ (by decide)]; exact v2, by rw [zw_k _ _ (by decide)]; exact v1, fun q q1 q2 => by rw [zw_row _ _ q1]; exact v0 q q1 q2⟩)
          cases ho : readE (I (s + 1)) y p with
          | none =>
            rw [ho] at hE
            have hr : rsnR g (nI cnt) (nI en) none = nI 1 := rfl
            rw [hr, if_neg z_n100] at hE
            refine z_if_eq (tgt := 61) (q := 51) dX6_check_48 (by decide) rfl (fun _ => ?_) (fun hc => False.elim (hc rfl))
            refine z_iconst (q := 62) (v := nI 1) dX6_check_61 (by rfl) rfl ?_
            refine z_put (q := 65) 6 3 1 84 rfl (by decide) rfl rfl (tyX6_ok 3 (by decide)) (rfl) (rfl) rfl (by with_reducible assumption) dX6_check_62 rfl ?_
            refine z_aload_n (q := 66) dX6_check_65 rfl rfl rfl ?_
            refine z_getI (q := 69) 6 3 1 84 rfl (by decide) rfl rfl rfl (by with_reducible assumption) dX6_check_66 rfl ?_
            rw [zw_s]
            refine z_if_eq (tgt := 73) (q := 72) dX6_check_69 (by decide) rfl (fun hc => False.elim (z_n10 hc)) (fun _ => ?_)
            exact out (nI 1) z_n100 hE _
          | some e =>
            obtain ⟨na, nt, ns, nm, b1, b2, b3, b4, l1, l2, l3, l4⟩ := readE_nat ht hy80 ho
            obtain ⟨q1, q2, hk1⟩ := readE_lt ho
            obtain ⟨kd, av, tv, sv, mv, q⟩ := e
            have b1 : av = nI na := b1
            have b2 : tv = nI nt := b2
            have b3 : sv = nI ns := b3
            have b4 : mv = nI nm := b4
            have q1 : p < q := q1
            have q2 : q ≤ y := q2
            have hk1 : kd ≤ 1 := hk1
            subst b1 b2 b3 b4
            rw [ho] at h6 hE
            have hr : rsnR g (nI cnt) (nI en) (some (kd, nI na, nI nt, nI ns, nI nm, q)) = rsnE g (nI cnt) (nI en) kd (nI na) (nI nt) (nI ns) (nI nm) := rfl
            have hq : eQ (some (kd, nI na, nI nt, nI ns, nI nm, q)) = q := rfl
            have hw : eW (some (kd, nI na, nI nt, nI ns, nI nm, q)) = if kd = 0 then nI ns * nI nm else nI 0 := rfl
            rw [hr, hq, hw] at hE
            obtain ⟨r4, r0, r1, r2, r3, r3', r01, -⟩ := rde_f hk1 h6.2.2
            have hG6 : z_HR I6 a g (fun _ => st) (fun _ => st) := HR_f hG (fun q z1 z2 _ => v0 q (by omega) (by omega))
            have hP6 : z_P T I6 R (a + 3) np F := z_P_f hP (fun q z1 z2 => v0 q (by omega) (by omega)) (fun _ _ _ => rfl)
            refine z_if_eq (tgt := 61) (q := 51) dX6_check_48 (by decide) rfl (fun hc => False.elim (z_01 hc)) (fun _ => ?_)
            refine z_aload_n (q := 52) dX6_check_51 rfl rfl rfl ?_
            refine z_aload_n (q := 53) dX6_check_52 rfl rfl rfl ?_
            refine z_iload_n (q := 54) dX6_check_53 rfl rfl rfl ?_
            refine z_iload_n (q := 55) dX6_check_54 rfl rfl rfl ?_
            refine z_invV (q := 58) (c_X6_reasonAgainst G s a nr nd np st v cnt en kd (nI na) (nI nt) (nI ns) (nI nm) F g _ _ hS hH hG6 hP6 hI hv hk1 r0 r1 r2 r3 r3' (nI_pos (by omega)) (nI_pos (by omega)) hcnt hen) (by with_reducible assumption) rfl gX6_check_X6_reasonAgainst rfl hy_X6_reasonAgainst rfl rfl rfl rfl (Nat.le_of_ble_eq_true rfl) ⟨Nat.zero_le _, Nat.zero_le _⟩ dX6_check_55 rfl (z_rv ?_)
            refine z_goto (q := 62) dX6_check_58 (by decide) ?_
            refine z_put (q := 65) 6 3 1 84 rfl (by decide) rfl rfl (tyX6_ok 3 (by decide)) (rfl) (rfl) rfl (by with_reducible assumption) dX6_check_62 rfl ?_
            refine z_aload_n (q := 66) dX6_check_65 rfl rfl rfl ?_
            refine z_getI (q := 69) 6 3 1 84 rfl (by decide) rfl rfl rfl (by with_reducible assumption) dX6_check_66 rfl ?_
            rw [zw_s]
            by_cases h0 : rsnE g (nI cnt) (nI en) kd (nI na) (nI nt) (nI ns) (nI nm) = nI 0
            · rw [if_pos h0] at hE
              obtain ⟨m1, m2, w, m3, m4⟩ := rsn_ok hI (by omega) hv hk1 l1 l2 l3 l4 hcnt hen h0
              rw [m3, nI_add] at hE
              rw [h0]
              refine z_if_eq (tgt := 73) (q := 72) dX6_check_69 (by decide) rfl (fun _ => ?_) (fun hc => False.elim (hc nI_0))
              have hall : (if zw I6 s 3 (nI 0) (s + 2) 0 = 0 then (0 : Int32) else zw I6 s 3 (nI 0) (s + 2) 3 * zw I6 s 3 (nI 0) (s + 2) 4) = nI w := by
                rw [zw_row _ _ (by omega), ← m3]
                by_cases hk : kd = 0
                · rw [if_pos hk, if_neg (fun z => r0.mp z hk), (r3 hk).1, (r3 hk).2]
                · rw [if_neg hk, if_pos (r0.mpr hk), nI_0]
              refine z_iinc (q := 76) dX6_check_73 rfl (nI_add _ 1) (by decide) rfl ?_
              refine z_iload_n (q := 77) dX6_check_76 rfl rfl rfl ?_
              refine z_aload_n (q := 78) dX6_check_77 rfl rfl rfl ?_
              refine z_getR (q := 81) 6 5 5 86 rfl (by decide) rfl rfl rfl (by with_reducible assumption) (by with_reducible assumption) dX6_check_78 rfl ?_
              refine z_invV (q := 84) (c_X1_allEnergy G (s + 2) hTe) (by with_reducible assumption) rfl gX6_check_X1_allEnergy rfl hy_X1_allEnergy rfl rfl rfl rfl (Nat.le_of_ble_eq_true rfl) ⟨Nat.zero_le _, Nat.zero_le _⟩ dX6_check_81 rfl (z_rv ?_)
              rw [hall]
              refine z_iaddE (q := 85) dX6_check_84 (nI_add _ _) rfl ?_
              refine z_istore_n (q := 86) dX6_check_85 rfl (by decide) rfl ?_
              refine z_iinc (q := 89) dX6_check_86 rfl (nI_add _ 1) (by decide) rfl ?_
              refine z_goto (q := 17) dX6_check_89 (by decide) ?_
              refine ih q (cnt + 1) (en + w) (i + 1) _ (by omega) q2 (by omega) hE (by omega) (by omega) (by rw [zw_k _ _ (by decide)]; exact r4) (zw_s _ _ _ _) (by rw [zw_k _ _ (by decide)]; exact v1) (fun q q1 q2 => by rw [zw_row _ _ q1]; exact v0 q q1 q2) _ rfl
            · rw [if_neg h0] at hE
              refine z_if_eq (tgt := 73) (q := 72) dX6_check_69 (by decide) rfl (fun hc => False.elim (h0 (hc.trans nI_0.symm))) (fun _ => ?_)
              exact out _ h0 hE _
  refine z_iconst (q := 1) (v := nI 0) dX6_check_0 (by rfl) rfl ?_
  refine z_istore_n (q := 2) dX6_check_1 rfl (by decide) rfl ?_
  refine z_iconst (q := 3) (v := nI 0) dX6_check_2 (by rfl) rfl ?_
  refine z_istore_n (q := 4) dX6_check_3 rfl (by decide) rfl ?_
  refine z_aload_n (q := 5) dX6_check_4 rfl rfl rfl ?_
  refine z_iconst (q := 6) (v := nI 0) dX6_check_5 (by rfl) rfl ?_
  refine z_put (q := 9) 6 3 1 84 rfl (by decide) rfl rfl (tyX6_ok 3 (by decide)) (rfl) (rfl) rfl (by with_reducible assumption) dX6_check_6 rfl ?_
  refine z_aload_n (q := 10) dX6_check_9 rfl rfl rfl ?_
  refine z_iconst (q := 11) (v := nI 0) dX6_check_10 (by rfl) rfl ?_
  refine z_put (q := 14) 6 4 2 85 rfl (by decide) rfl rfl (tyX6_ok 4 (by decide)) (rfl) (rfl) rfl (by with_reducible assumption) dX6_check_11 rfl ?_
  refine z_iconst (q := 15) (v := nI 0) dX6_check_14 (by rfl) rfl ?_
  refine z_istore (q := 17) dX6_check_15 (by decide) rfl ?_
  refine loop y 0 0 0 0 _ (by omega) (Nat.zero_le _) (Nat.le_refl _) hres hnp (by omega) (zw_s _ _ _ _) (by rw [zw_k _ _ (by decide), zw_s]) (by rw [zw_k _ _ (by decide), zw_k _ _ (by decide)]) (fun q q1 _ => by rw [zw_row _ _ q1, zw_row _ _ q1]) _ rfl
set_option maxRecDepth 100000 in
set_option maxHeartbeats 4000000 in
theorem c_X6_giveTo (G : zG) {n : Nat} {T : zTT} {I : zII} {R : zRR} (s a y st : Nat) (g : Nat → Int32) (hS : z_Sc T R s) (hy : I s 1 = nI y) (hy80 : y ≤ 80) (ht : TXT (I (s + 1))) (hA : z_Hs T R I a st g) (hst : st ≤ 5000) (htl : TLD g) (hd : a + 98 ≤ s ∨ s + 3 ≤ a) (hok : (rdA g (I (s + 1)) y y 0 0 (nI 0)).1 = nI 0) : Ct G yX6_giveTo wsX6_giveTo (4, 0, 0) [.ref s, .ref a] n T I R (z_rel (some (.int (nI (rdA g (I (s + 1)) y y 0 0 (nI 0)).2.2))) n T (fun I' R' => z_Hs T R' I' a st (ldF (I (s + 1)) y y 0 g) ∧ TLD (ldF (I (s + 1)) y y 0 g) ∧ I' s 1 = I s 1 ∧ (∀ q, q ≠ s → q ≠ s + 2 → q < a ∨ a + 98 ≤ q → I' q = I q) ∧ ∀ q, q ≠ a + 4 → R' q = R q)) := by
  refine Ct.ofX (M := muX6_giveTo) (ls := [(0, .ref s), (1, .ref a)]) (by decide +kernel) rfl (by decide) rfl rfl (Nat.le_of_ble_eq_true rfl) ?_
  obtain ⟨hTs, ⟨hTc, hRc⟩, hTe, hRe⟩ := id hS
  have hA0 := hA
  obtain ⟨hH, nr, nd, np, F, hI, hG, hP, hF⟩ := hA
  obtain ⟨v, hv, hv9⟩ := htl
  have hnp := hI.2.2.1.2
  have hTa := hH.1
  generalize hres : rdA g (I (s + 1)) y y 0 0 (nI 0) = res at hok
  generalize hgZ : ldF (I (s + 1)) y y 0 g = gZ
  have loop : ∀ f p cnt en i gL I4 R4, y ≤ f + p → p ≤ y → i ≤ p → rdA g (I (s + 1)) y f p cnt (nI en) = res → ldF (I (s + 1)) y f p gL = gZ → np + cnt ≤ 16 → v + en ≤ 1000000000 → gL 5 = nI (v + en) → z_Hs T R4 I4 a st gL → INV nr nd (np + cnt) st gL → I4 s 4 = nI p → I4 s 1 = I s 1 → (∀ q, q ≠ s → q ≠ s + 2 → q < a ∨ a + 98 ≤ q → I4 q = I q) → (∀ q, q ≠ a + 4 → R4 q = R q) → ∀ ls : List (Nat × Value), lv_pick ls [0, 1, 2, 3] = [(0, .ref s), (1, .ref a), (2, .int (nI cnt)), (3, .int (nI i))] → z_X G muX6_giveTo (4, 0, 0) (z_rel (some (.int (nI res.2.2))) n T (fun I' R' => z_Hs T R' I' a st gZ ∧ TLD gZ ∧ I' s 1 = I s 1 ∧ (∀ q, q ≠ s → q ≠ s + 2 → q < a ∨ a + 98 ≤ q → I' q = I q) ∧ ∀ q, q ≠ a + 4 → R' q = R q)) n T I4 R4 0 0 9 ls [] := by
    intro f
    induction f with
    | zero =>
      intro p cnt en i gL I4 R4 hf hpy hip hE hL hcnt hen h5 hA4 hI4 e4 e1 e2 eR ls hls
      have e5 : I4 s 1 = nI y := e1.trans hy
      rw [rdA] at hE
      rw [ldF] at hL
      subst hE
      subst hL
      refine z_pick [0, 1, 2, 3] hls ?_
      refine z_iload_n (q := 10) dX6_giveTo_9 rfl rfl rfl ?_
      refine z_bipush (q := 12) (v := nI 80) dX6_giveTo_10 (by rfl) rfl ?_
      refine z_icmpn_ge (rfl) (rfl) (by omega) (by omega) (tgt := 50) (q := 15) dX6_giveTo_12 (by decide) rfl (fun h12 => ?_) (fun h12 => ?_)
      · refine z_iload_n (q := 51) dX6_giveTo_50 rfl rfl rfl ?_
        exact z_iret rfl dX6_giveTo_51 (Nat.zero_le _) (Nat.zero_le _) (⟨rfl, rfl, rfl, hA4, ⟨_, h5, hen⟩, e1, e2, eR⟩)
      · refine z_aload_n (q := 16) dX6_giveTo_15 rfl rfl rfl ?_
        refine z_getV (q := 19) 6 4 1 71 rfl (by decide) rfl rfl rfl (by with_reducible assumption) (e4) dX6_giveTo_16 rfl ?_
        refine z_aload_n (q := 20) dX6_giveTo_19 rfl rfl rfl ?_
        refine z_getV (q := 23) 6 1 2 68 rfl (by decide) rfl rfl rfl (by with_reducible assumption) (e5) dX6_giveTo_20 rfl ?_
        refine z_icmpn_ge (rfl) (rfl) (by omega) (by omega) (tgt := 50) (q := 26) dX6_giveTo_23 (by decide) rfl (fun _ => ?_) (fun hc => absurd hc (by omega))
        refine z_iload_n (q := 51) dX6_giveTo_50 rfl rfl rfl ?_
        exact z_iret rfl dX6_giveTo_51 (Nat.zero_le _) (Nat.zero_le _) (⟨rfl, rfl, rfl, hA4, ⟨_, h5, hen⟩, e1, e2, eR⟩)
    | succ f ih =>
      intro p cnt en i gL I4 R4 hf hpy hip hE hL hcnt hen h5 hA4 hI4 e4 e1 e2 eR ls hls
      have e5 : I4 s 1 = nI y := e1.trans hy
      have e6 : I4 (s + 1) = I (s + 1) := e2 _ (by omega) (by omega) (by omega)
      rw [rdA] at hE
      rw [ldF] at hL
      refine z_pick [0, 1, 2, 3] hls ?_
      refine z_iload_n (q := 10) dX6_giveTo_9 rfl rfl rfl ?_
      refine z_bipush (q := 12) (v := nI 80) dX6_giveTo_10 (by rfl) rfl ?_
      refine z_icmpn_ge (rfl) (rfl) (by omega) (by omega) (tgt := 50) (q := 15) dX6_giveTo_12 (by decide) rfl (fun h12 => ?_) (fun h12 => ?_)
      · rw [if_neg (by omega)] at hE hL
        subst hE
        subst hL
        refine z_iload_n (q := 51) dX6_giveTo_50 rfl rfl rfl ?_
        exact z_iret rfl dX6_giveTo_51 (Nat.zero_le _) (Nat.zero_le _) (⟨rfl, rfl, rfl, hA4, ⟨_, h5, hen⟩, e1, e2, eR⟩)
      · refine z_aload_n (q := 16) dX6_giveTo_15 rfl rfl rfl ?_
        refine z_getV (q := 19) 6 4 1 71 rfl (by decide) rfl rfl rfl (by with_reducible assumption) (e4) dX6_giveTo_16 rfl ?_
        refine z_aload_n (q := 20) dX6_giveTo_19 rfl rfl rfl ?_
        refine z_getV (q := 23) 6 1 2 68 rfl (by decide) rfl rfl rfl (by with_reducible assumption) (e5) dX6_giveTo_20 rfl ?_
        refine z_icmpn_ge (rfl) (rfl) (by omega) (by omega) (tgt := 50) (q := 26) dX6_giveTo_23 (by decide) rfl (fun h23 => ?_) (fun h23 => ?_)
        · rw [if_neg (by omega)] at hE hL
          subst hE
          subst hL
          refine z_iload_n (q := 51) dX6_giveTo_50 rfl rfl rfl ?_
          exact z_iret rfl dX6_giveTo_51 (Nat.zero_le _) (Nat.zero_le _) (⟨rfl, rfl, rfl, hA4, ⟨_, h5, hen⟩, e1, e2, eR⟩)
        · rw [if_pos (by omega)] at hE hL
          have hS4 : z_Sc T R4 s := ⟨hTs, ⟨hTc, by rw [eR s (by omega)]; exact hRc⟩, hTe, by rw [eR s (by omega)]; exact hRe⟩
          have hRe4 := hS4.2.2.2
          have h0 : rsnR g (nI cnt) (nI en) (readE (I (s + 1)) y p) = nI 0 := by
            by_cases z : rsnR g (nI cnt) (nI en) (readE (I (s + 1)) y p) = nI 0
            · exact z
            · rw [if_neg z] at hE
              subst hE
              exact absurd hok z
          rw [if_pos h0] at hE
          refine z_aload_n (q := 27) dX6_giveTo_26 rfl rfl rfl ?_
          refine z_invV (q := 30) (c_X6_readEntry G s p y hS4 e5 hy80 e4 hpy (by rw [e6]; exact ht)) (by with_reducible assumption) rfl gX6_giveTo_X6_readEntry rfl hy_X6_readEntry rfl rfl rfl rfl (Nat.le_of_ble_eq_true rfl) ⟨Nat.zero_le _, Nat.zero_le _⟩ dX6_giveTo_27 rfl (z_rvR fun I6 R6 hZ6 => ?_)
          obtain ⟨hr6, h6⟩ := hZ6
          rw [hr6]
          rw [e6] at h6 ⊢
          have v1 : I6 s 1 = I s 1 := (h6.1 1 (by decide)).trans e1
          have v0 : ∀ q, q ≠ s → q ≠ s + 2 → I6 q = I4 q := fun q q1 q2 => h6.2.1 q q1 q2
          cases ho : readE (I (s + 1)) y p with
          | none =>
            rw [ho] at h0
            exact absurd (show nI 1 = nI 0 from h0) z_n100
          | some e =>
            obtain ⟨na, nt, ns, nm, b1, b2, b3, b4, l1, l2, l3, l4⟩ := readE_nat ht hy80 ho
            obtain ⟨q1, q2, hk1⟩ := readE_lt ho
            obtain ⟨kd, av, tv, sv, mv, q⟩ := e
            have b1 : av = nI na := b1
            have b2 : tv = nI nt := b2
            have b3 : sv = nI ns := b3
            have b4 : mv = nI nm := b4
            have q1 : p < q := q1
            have q2 : q ≤ y := q2
            have hk1 : kd ≤ 1 := hk1
            subst b1 b2 b3 b4
            rw [ho] at h6 hE hL h0
            have h0 : rsnE g (nI cnt) (nI en) kd (nI na) (nI nt) (nI ns) (nI nm) = nI 0 := h0
            have hq : eQ (some (kd, nI na, nI nt, nI ns, nI nm, q)) = q := rfl
            have hw : eW (some (kd, nI na, nI nt, nI ns, nI nm, q)) = if kd = 0 then nI ns * nI nm else nI 0 := rfl
            have hpr : putR gL (some (kd, nI na, nI nt, nI ns, nI nm, q)) = putG gL (np + cnt) (nI nt) (nI kd) (nI na) (if kd = 0 then nI ns else nI 0) (if kd = 0 then nI nm else nI ns) := by
              have : gN gL 2 = np + cnt := gN_of hI4.2.2.1.1 (by omega)
              show putG gL (gN gL 2) _ _ _ _ _ = _
              rw [this]
            rw [hq, hw] at hE
            rw [hq, hpr] at hL
            obtain ⟨r4, r0, r1, r2, r3, r3', r01, rE⟩ := rde_f hk1 h6.2.2
            obtain ⟨m1, m2, w, m3, m4⟩ := rsn_ok hI (by omega) hv hk1 l1 l2 l3 l4 hcnt hen h0
            rw [m3, nI_add] at hE
            obtain ⟨hH6, nr6, nd6, np6, F6, hI6, hG6, hP6, hF6⟩ := z_Hs_f (R' := R4) hA4 (fun q z1 z2 => v0 q (by omega) (by omega)) (fun _ _ _ => rfl)
            obtain ⟨t1, t2, t3⟩ := INV_eq hI6 hI4
            subst t1 t2 t3
            refine z_if_eq (tgt := 50) (q := 33) dX6_giveTo_30 (by decide) rfl (fun hc => False.elim (z_01 hc)) (fun _ => ?_)
            refine z_aload_n (q := 34) dX6_giveTo_33 rfl rfl rfl ?_
            refine z_aload_n (q := 35) dX6_giveTo_34 rfl rfl rfl ?_
            refine z_getR (q := 38) 6 5 3 72 rfl (by decide) rfl rfl rfl (by with_reducible assumption) (hRe4) dX6_giveTo_35 rfl ?_
            refine z_invV (q := 41) (take_h G a (s + 2) st nr6 nd6 (np + cnt) F6 gL (nI nt) (nI kd) (nI na) _ _ hH6 hI4 hG6 hP6 hF6 m1 (by omega) hTe r01 rE m2) (by with_reducible assumption) rfl gX6_giveTo_X3_take rfl hy_X3_take rfl rfl rfl rfl (Nat.le_of_ble_eq_true rfl) ⟨Nat.zero_le _, Nat.zero_le _⟩ dX6_giveTo_38 rfl (z_rnR fun I7 R7 hZ7 => ?_)
            obtain ⟨hA7, hI7, f7, g7⟩ := hZ7
            refine z_iinc (q := 44) dX6_giveTo_41 rfl (nI_add _ 1) (by decide) rfl ?_
            refine z_iinc (q := 47) dX6_giveTo_44 rfl (nI_add _ 1) (by decide) rfl ?_
            refine z_goto (q := 9) dX6_giveTo_47 (by decide) ?_
            refine ih q (cnt + 1) (en + w) (i + 1) _ I7 R7 (by omega) q2 (by omega) hE hL (by omega) (by omega) ?_ hA7 hI7 (by rw [f7 s (by omega)]; exact r4) (by rw [f7 s (by omega)]; exact v1) (fun q q1 q2 q3 => by rw [f7 q q3, v0 q q1 q2]; exact e2 q q1 q2 q3) (fun q hq => (g7 q hq).trans (eR q hq)) _ rfl
            rw [putG_5, h5]
            by_cases hk : kd = 0
            · rw [if_pos hk, if_pos hk]
              rw [if_pos hk] at m3
              rw [m3, nI_add, Nat.add_assoc]
            · rw [if_neg hk, if_neg hk]
              rw [if_neg hk] at m3
              have : w = 0 := ((nI_eq (by decide) (by omega)).mp m3).symm
              rw [pk_mul, nI_add, this, Nat.zero_mul]
              rfl
  refine z_iconst (q := 1) (v := nI 0) dX6_giveTo_0 (by rfl) rfl ?_
  refine z_istore_n (q := 2) dX6_giveTo_1 rfl (by decide) rfl ?_
  refine z_aload_n (q := 3) dX6_giveTo_2 rfl rfl rfl ?_
  refine z_iconst (q := 4) (v := nI 0) dX6_giveTo_3 (by rfl) rfl ?_
  refine z_put (q := 7) 6 4 1 71 rfl (by decide) rfl rfl (tyX6_ok 4 (by decide)) (rfl) (rfl) rfl (by with_reducible assumption) dX6_giveTo_4 rfl ?_
  refine z_iconst (q := 8) (v := nI 0) dX6_giveTo_7 (by rfl) rfl ?_
  refine z_istore_n (q := 9) dX6_giveTo_8 rfl (by decide) rfl ?_
  refine loop y 0 0 0 0 g _ R (by omega) (Nat.zero_le _) (Nat.le_refl _) hres hgZ hnp (by omega) hv (z_Hs_f hA0 (fun q _ _ => zw_row _ _ (by omega)) (fun _ _ _ => rfl)) hI (zw_s _ _ _ _) (zw_k _ _ (by decide)) (fun q q1 _ _ => zw_row _ _ q1) (fun _ _ => rfl) _ rfl

