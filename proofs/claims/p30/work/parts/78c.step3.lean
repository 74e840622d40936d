/-! THE LAW's step: what rooms absorb, what goes and what arrives; the step whole -/
theorem lcmp_n {r : Nat} (h : r < 2 ^ 31) : lg_cmp (lN r) 0 ≤ 0 ↔ r = 0 := by
  have h0 : (0 : Int64) = lN 0 := by decide +kernel
  constructor
  · intro z
    rcases Nat.eq_zero_or_pos r with e | e
    · exact e
    · exfalso
      have h1 : lg_cmp (lN r) 0 = 1 := by
        unfold lg_cmp
        rw [if_pos]
        rw [h0]
        exact (lN_lt (by omega) h).mpr e
      rw [h1] at z
      exact absurd z (by decide)
  · intro e
    subst e
    decide +kernel
set_option maxRecDepth 100000 in
set_option maxHeartbeats 4000000 in
theorem step_abs {G : zG} {Q : zQ} {n : Nat} {T : zTT} {I : zII} {R : zRR} (b nr np : Nat) (W : Int) (s : Nat → Int32) (M : List zE) (hT : LT T b) (hL : LWP I b np s M) (h0 : s 0 = nI nr) (hP : PB W s) (hA : ABS nr s) (h4 : nr ≤ 4) (kk : ∀ I' : zII, LWP I' b np (absN s nr) M → (∀ q, q ≠ b + 1 → I' q = I q) → ∀ ls : List (Nat × Value), lv_pick ls [0, 1, 2, 3, 4, 5] = [(0, .ref b), (1, .ref (b + 1)), (2, .ref (b + 2)), (3, .ref (b + 3)), (4, .ref (b + 4)), (5, .ref (b + 5))] → z_X G muL_step (1, 1, 8) Q n T I' R 0 0 582 ls []) : ∀ ls : List (Nat × Value), lv_pick ls [0, 1, 2, 3, 4, 5] = [(0, .ref b), (1, .ref (b + 1)), (2, .ref (b + 2)), (3, .ref (b + 3)), (4, .ref (b + 4)), (5, .ref (b + 5))] → z_X G muL_step (1, 1, 8) Q n T I R 0 0 487 ls [] := by
  have hTg := hT.1
  have hTr := hT.2.1
  have loop : ∀ i, i ≤ nr → ∀ I2 : zII, LWP I2 b np (absN s i) M → (∀ q, q ≠ b + 1 → I2 q = I q) → ∀ ls : List (Nat × Value), lv_pick ls [0, 1, 2, 3, 4, 5, 6] = [(0, .ref b), (1, .ref (b + 1)), (2, .ref (b + 2)), (3, .ref (b + 3)), (4, .ref (b + 4)), (5, .ref (b + 5)), (6, .int (nI i))] → z_X G muL_step (1, 1, 8) Q n T I2 R 0 0 490 ls [] := by
    refine z_up (N := nr) _ ?_ ?_
    · intro I2 hL2 hf ls hls
      have g0 : I2 b 0 = nI nr := by rw [hf b (by omega), hL.1 0 (by decide) (by decide)]; exact h0
      refine z_pick [0, 1, 2, 3, 4, 5, 6] hls ?_
      refine z_iload (q := 492) (i := 6) dL_step_490 rfl rfl ?_
      refine z_aload_n (q := 493) dL_step_492 rfl rfl rfl ?_
      refine z_iconst (q := 494) (v := nI 0) dL_step_493 (by rfl) rfl ?_
      refine z_ialdV (q := 495) _ (by with_reducible assumption) (rfl) (by omega) (by decide) (g0) dL_step_494 rfl ?_
      refine z_icmpn_ge (rfl) (rfl) (by omega) (by omega) (tgt := 582) (q := 498) dL_step_495 (by decide) rfl (fun _ => ?_) (fun hc => absurd hc (by omega))
      exact kk I2 hL2 hf _ rfl
    · intro i hi ih I2 hL2 hf ls hls
      have g0 : I2 b 0 = nI nr := by rw [hf b (by omega), hL.1 0 (by decide) (by decide)]; exact h0
      have hsn : absN s (i + 1) = absR (absN s i) i := rfl
      rw [hsn] at ih
      obtain ⟨a, ha, ha2⟩ := hA i hi
      obtain ⟨p1, p2, -⟩ := PB_N hP (pos_e (show i < 8 by omega))
      have he1 : absN s i (9 + 6 * i + 2) = nI (gN s (9 + 6 * i + 2)) := by rw [absN_o s i _ (fun j hj => by omega)]; exact p1
      have he2 : absN s i (9 + 6 * i + 1) = nI a := by rw [absN_o s i _ (fun j hj => by omega)]; exact ha
      generalize gN s (9 + 6 * i + 2) = E at he1 p2
      generalize absN s i = h at he1 he2 hL2 ih
      have pE : I2 (b + 1) (6 * i + 2) = nI E := by rw [LW_r hL2 (by omega) (by decide)]; exact he1
      have pa : I2 (b + 1) (6 * i + 1) = nI a := by rw [LW_r hL2 (by omega) (by decide)]; exact he2
      obtain ⟨v1, v2⟩ := absb_v p2 ha2
      have hEa : E * a ≤ 1000000000 * 1000 := Nat.mul_le_mul p2 ha2
      have hmul : (nI E).toInt64 * (nI a).toInt64 = lN (E * a) := by rw [nI_l (by omega), nI_l (by omega), lN_mul]
      have h1000 : (1000 : Int64) = lN 1000 := by decide +kernel
      have hq : lN (E * a) / 1000 = lN (E * a / 1000) := by rw [h1000]; exact pk_lDiv (by omega) (by decide) (by decide)
      have hr : lN (E * a) - lN (E * a / 1000) * 1000 = lN (E * a % 1000) := by rw [← hq, h1000]; exact pk_lRem (by omega) (by decide) (by decide)
      have fin : ∀ v : Nat, (E * a / 1000 + v = (E * a + 999) / 1000) → ∀ ls : List (Nat × Value), lv_pick ls [0, 1, 2, 3, 4, 5, 6, 7] = [(0, .ref b), (1, .ref (b + 1)), (2, .ref (b + 2)), (3, .ref (b + 3)), (4, .ref (b + 4)), (5, .ref (b + 5)), (6, .int (nI i)), (7, .long (lN (E * a)))] → z_X G muL_step (1, 1, 8) Q n T I2 R 0 0 543 ls [.int (nI v), .long (lN (E * a / 1000))] := by
        intro v hv ls hls
        have hv1 : (lN (E * a / 1000) + (nI v).toInt64).toInt32 = nI ((E * a + 999) / 1000) := by rw [nI_l (by omega), lN_add, hv, lN_i]
        refine z_pick [0, 1, 2, 3, 4, 5, 6, 7] hls ?_
        refine z_i2l (q := 544) dL_step_543 rfl ?_
        refine z_ladd (q := 545) dL_step_544 rfl ?_
        refine z_l2i (q := 546) dL_step_545 rfl ?_
        rw [hv1]
        refine z_istore (q := 548) dL_step_546 (by decide) rfl ?_
        refine z_aload_n (q := 549) dL_step_548 rfl rfl rfl ?_
        refine z_bipush (q := 551) (v := nI 6) dL_step_549 (by rfl) rfl ?_
        refine z_iload (q := 553) (i := 6) dL_step_551 rfl rfl ?_
        refine z_imulE (q := 554) dL_step_553 (pk_mul _ _) rfl ?_
        refine z_iconst (q := 555) (v := nI 2) dL_step_554 (by rfl) rfl ?_
        refine z_iaddE (q := 556) dL_step_555 (nI_add _ _) rfl ?_
        refine z_dup2 (q := 557) dL_step_556 rfl rfl rfl ?_
        refine z_ialdV (q := 558) _ (by with_reducible assumption) (rfl) (by omega) (by decide) (pE) dL_step_557 rfl ?_
        refine z_iload (q := 560) (i := 9) dL_step_558 rfl rfl ?_
        refine z_isub (q := 561) dL_step_560 rfl ?_
        have hL3 := LP_r hL2 (c := 6 * i + 2) (nI E - nI ((E * a + 999) / 1000)) (by omega)
        have hf3 : ∀ q, q ≠ b + 1 → zw I2 (b + 1) (6 * i + 2) (nI E - nI ((E * a + 999) / 1000)) q = I q := fun q h1 => by rw [zw_row _ _ h1]; exact hf q h1
        refine z_iast (q := 562) _ (by with_reducible assumption) (rfl) (by omega) (by decide) dL_step_561 rfl ?_
        generalize zw I2 (b + 1) (6 * i + 2) (nI E - nI ((E * a + 999) / 1000)) = I3 at hL3 hf3
        refine z_aload_n (q := 563) dL_step_562 rfl rfl rfl ?_
        refine z_bipush (q := 565) (v := nI 6) dL_step_563 (by rfl) rfl ?_
        refine z_iload (q := 567) (i := 6) dL_step_565 rfl rfl ?_
        refine z_imulE (q := 568) dL_step_567 (pk_mul _ _) rfl ?_
        refine z_iconst (q := 569) (v := nI 3) dL_step_568 (by rfl) rfl ?_
        refine z_iaddE (q := 570) dL_step_569 (nI_add _ _) rfl ?_
        refine z_dup2 (q := 571) dL_step_570 rfl rfl rfl ?_
        refine z_iald (q := 572) _ (by with_reducible assumption) (rfl) (by omega) (by decide) dL_step_571 rfl ?_
        refine z_iload (q := 574) (i := 9) dL_step_572 rfl rfl ?_
        refine z_iadd (q := 575) dL_step_574 rfl ?_
        refine z_iast (q := 576) _ (by with_reducible assumption) (rfl) (by omega) (by decide) dL_step_575 rfl ?_
        refine z_iinc (q := 579) dL_step_576 rfl (nI_add _ 1) (by decide) rfl ?_
        refine z_goto (q := 490) dL_step_579 (by decide) ?_
        refine ih _ ?_ (fun q h1 => by rw [zw_row _ _ h1]; exact hf3 q h1) _ rfl
        have hv3 : I3 (b + 1) (6 * i + 3) = h (9 + 6 * i + 3) := by rw [LW_r hL3 (by omega) (by decide), upd_n _ _ (by omega)]
        have hL4 := LP_r hL3 (c := 6 * i + 3) (I3 (b + 1) (6 * i + 3) + nI ((E * a + 999) / 1000)) (by omega)
        rw [absR, he1, he2, v1]
        rw [hv3, ← Nat.add_assoc, ← Nat.add_assoc] at hL4
        rw [hv3]
        exact hL4
      refine z_pick [0, 1, 2, 3, 4, 5, 6] hls ?_
      refine z_iload (q := 492) (i := 6) dL_step_490 rfl rfl ?_
      refine z_aload_n (q := 493) dL_step_492 rfl rfl rfl ?_
      refine z_iconst (q := 494) (v := nI 0) dL_step_493 (by rfl) rfl ?_
      refine z_ialdV (q := 495) _ (by with_reducible assumption) (rfl) (by omega) (by decide) (g0) dL_step_494 rfl ?_
      refine z_icmpn_ge (rfl) (rfl) (by omega) (by omega) (tgt := 582) (q := 498) dL_step_495 (by decide) rfl (fun hc => absurd hc (by omega)) (fun _ => ?_)
      refine z_aload_n (q := 499) dL_step_498 rfl rfl rfl ?_
      refine z_bipush (q := 501) (v := nI 6) dL_step_499 (by rfl) rfl ?_
      refine z_iload (q := 503) (i := 6) dL_step_501 rfl rfl ?_
      refine z_imulE (q := 504) dL_step_503 (pk_mul _ _) rfl ?_
      refine z_iconst (q := 505) (v := nI 2) dL_step_504 (by rfl) rfl ?_
      refine z_iaddE (q := 506) dL_step_505 (nI_add _ _) rfl ?_
      refine z_ialdV (q := 507) _ (by with_reducible assumption) (rfl) (by omega) (by decide) (pE) dL_step_506 rfl ?_
      refine z_i2l (q := 508) dL_step_507 rfl ?_
      refine z_aload_n (q := 509) dL_step_508 rfl rfl rfl ?_
      refine z_bipush (q := 511) (v := nI 6) dL_step_509 (by rfl) rfl ?_
      refine z_iload (q := 513) (i := 6) dL_step_511 rfl rfl ?_
      refine z_imulE (q := 514) dL_step_513 (pk_mul _ _) rfl ?_
      refine z_iconst (q := 515) (v := nI 1) dL_step_514 (by rfl) rfl ?_
      refine z_iaddE (q := 516) dL_step_515 (nI_add _ _) rfl ?_
      refine z_ialdV (q := 517) _ (by with_reducible assumption) (rfl) (by omega) (by decide) (pa) dL_step_516 rfl ?_
      refine z_i2l (q := 518) dL_step_517 rfl ?_
      refine z_lmul (q := 519) dL_step_518 rfl ?_
      rw [hmul]
      refine z_lstore (q := 521) dL_step_519 (by decide) rfl ?_
      refine z_pick [1, 2, 3, 4, 5, 6, 7, 0] rfl ?_
      refine z_lload (q := 523) dL_step_521 rfl rfl ?_
      refine z_ldc2 (q := 526) (i := 1) (v := 1000) rfl dL_step_523 rfl ?_
      refine z_ldiv (q := 527) dL_step_526 (by decide) rfl ?_
      rw [hq]
      refine z_lload (q := 529) dL_step_527 rfl rfl ?_
      refine z_ldc2 (q := 532) (i := 1) (v := 1000) rfl dL_step_529 rfl ?_
      refine z_lrem (q := 533) dL_step_532 (by decide) rfl ?_
      rw [hq, hr]
      refine z_lconst (q := 534) (v := 0) dL_step_533 (by rfl) rfl ?_
      refine z_lcmp (q := 535) dL_step_534 rfl ?_
      refine z_if_le (tgt := 542) (q := 538) dL_step_535 (by decide) rfl (fun h535 => ?_) (fun h535 => ?_)
      · have hz := (lcmp_n (by omega)).mp h535
        refine z_iconst (q := 543) (v := nI 0) dL_step_542 (by rfl) rfl ?_
        exact fin 0 (by omega) _ rfl
      · have hz : ¬ E * a % 1000 = 0 := fun z => h535 ((lcmp_n (by omega)).mpr z)
        refine z_iconst (q := 539) (v := nI 1) dL_step_538 (by rfl) rfl ?_
        refine z_goto (q := 543) dL_step_539 (by decide) ?_
        exact fin 1 (by omega) _ rfl
  intro ls hls
  refine z_pick [0, 1, 2, 3, 4, 5] hls ?_
  refine z_iconst (q := 488) (v := nI 0) dL_step_487 (by rfl) rfl ?_
  refine z_istore (q := 490) dL_step_488 (by decide) rfl ?_
  exact loop 0 (Nat.zero_le _) I hL (fun _ _ => rfl) _ rfl
set_option maxRecDepth 100000 in
set_option maxHeartbeats 4000000 in
theorem step_went {G : zG} {Q : zQ} {n : Nat} {T : zTT} {I : zII} {R : zRR} (b w nr nd np np2 st : Nat) (W : Int) (s : Nat → Int32) (M : List zE) (hT : LT T b) (hTw : T w = some (.inr (.int, 8))) (hbw : b + 6 ≤ w) (hL : LWP I b np2 s M) (hI : INV nr nd np st s) (hP : PB W s) (h4 : nr ≤ 4) (h4' : nd ≤ 4) (kk : ∀ I' : zII, LWP I' b np2 s M → (∀ k, k < 2 * nd → I' w k = thrG s k) → (∀ q, q ≠ w → I' q = I q) → ∀ ls : List (Nat × Value), lv_pick ls [0, 1, 2, 3, 4, 5, 6] = [(0, .ref b), (1, .ref (b + 1)), (2, .ref (b + 2)), (3, .ref (b + 3)), (4, .ref (b + 4)), (5, .ref (b + 5)), (6, .ref w)] → z_X G muL_step (1, 1, 8) Q n T I' R 1 8 625 ls []) : ∀ ls : List (Nat × Value), lv_pick ls [0, 1, 2, 3, 4, 5, 6] = [(0, .ref b), (1, .ref (b + 1)), (2, .ref (b + 2)), (3, .ref (b + 3)), (4, .ref (b + 4)), (5, .ref (b + 5)), (6, .ref w)] → z_X G muL_step (1, 1, 8) Q n T I R 1 8 588 ls [] := by
  have hTg := hT.1
  have g1 : ∀ I2 : zII, (∀ q, q ≠ w → I2 q = I q) → I2 b 1 = nI nd := fun I2 hf => by
    rw [hf b (by omega), hL.1 1 (by decide) (by decide)]
    exact hI.2.1.1
  have loop : ∀ i, i ≤ 2 * nd → ∀ I2 : zII, (∀ k, k < i → I2 w k = thrG s k) → (∀ q, q ≠ w → I2 q = I q) → ∀ ls : List (Nat × Value), lv_pick ls [0, 1, 2, 3, 4, 5, 6, 7] = [(0, .ref b), (1, .ref (b + 1)), (2, .ref (b + 2)), (3, .ref (b + 3)), (4, .ref (b + 4)), (5, .ref (b + 5)), (6, .ref w), (7, .int (nI i))] → z_X G muL_step (1, 1, 8) Q n T I2 R 1 8 591 ls [] := by
    refine z_up (N := 2 * nd) _ ?_ ?_
    · intro I2 hw hf ls hls
      have hg1 := g1 I2 hf
      refine z_pick [0, 1, 2, 3, 4, 5, 6, 7] hls ?_
      refine z_iload (q := 593) (i := 7) dL_step_591 rfl rfl ?_
      refine z_iconst (q := 594) (v := nI 2) dL_step_593 (by rfl) rfl ?_
      refine z_aload_n (q := 595) dL_step_594 rfl rfl rfl ?_
      refine z_iconst (q := 596) (v := nI 1) dL_step_595 (by rfl) rfl ?_
      refine z_ialdV (q := 597) _ (by with_reducible assumption) (rfl) (by omega) (by decide) (hg1) dL_step_596 rfl ?_
      refine z_imulE (q := 598) dL_step_597 (pk_mul _ _) rfl ?_
      refine z_icmpn_ge (rfl) (rfl) (by omega) (by omega) (tgt := 625) (q := 601) dL_step_598 (by decide) rfl (fun _ => ?_) (fun hc => absurd hc (by omega))
      exact kk I2 (LP_f hL (fun q q1 q2 => hf q (by omega))) hw hf _ rfl
    · intro i hi ih I2 hw hf ls hls
      have hg1 := g1 I2 hf
      have hL2 : LWP I2 b np2 s M := LP_f hL (fun q q1 q2 => hf q (by omega))
      have hdm : 2 * (i / 2) + i % 2 = i := by omega
      have hcall := c_L_flow G (n := n) (T := T) (I := I2) (R := R) b nr nd np np2 st (i / 2) (i % 2) W s hT M hL2 hI hP h4 h4' (by omega) (by omega)
      rw [hdm] at hcall
      refine z_pick [0, 1, 2, 3, 4, 5, 6, 7] hls ?_
      refine z_iload (q := 593) (i := 7) dL_step_591 rfl rfl ?_
      refine z_iconst (q := 594) (v := nI 2) dL_step_593 (by rfl) rfl ?_
      refine z_aload_n (q := 595) dL_step_594 rfl rfl rfl ?_
      refine z_iconst (q := 596) (v := nI 1) dL_step_595 (by rfl) rfl ?_
      refine z_ialdV (q := 597) _ (by with_reducible assumption) (rfl) (by omega) (by decide) (hg1) dL_step_596 rfl ?_
      refine z_imulE (q := 598) dL_step_597 (pk_mul _ _) rfl ?_
      refine z_icmpn_ge (rfl) (rfl) (by omega) (by omega) (tgt := 625) (q := 601) dL_step_598 (by decide) rfl (fun hc => absurd hc (by omega)) (fun _ => ?_)
      refine z_aload (q := 603) dL_step_601 rfl rfl ?_
      refine z_iload (q := 605) (i := 7) dL_step_603 rfl rfl ?_
      refine z_aload_n (q := 606) dL_step_605 rfl rfl rfl ?_
      refine z_aload_n (q := 607) dL_step_606 rfl rfl rfl ?_
      refine z_iload (q := 609) (i := 7) dL_step_607 rfl rfl ?_
      refine z_iconst (q := 610) (v := nI 2) dL_step_609 (by rfl) rfl ?_
      refine z_idivE (q := 611) dL_step_610 (by decide) (pk_div (by omega) (by decide) (by decide)) rfl ?_
      refine z_iload (q := 613) (i := 7) dL_step_611 rfl rfl ?_
      refine z_iconst (q := 614) (v := nI 2) dL_step_613 (by rfl) rfl ?_
      refine z_iremE (q := 615) dL_step_614 (by decide) (pk_rem (by omega) (by decide) (by decide)) rfl ?_
      refine z_invS (q := 618) (hcall) gL_step_L_flow rfl hy_L_flow rfl rfl rfl rfl (Nat.le_of_ble_eq_true rfl) (by decide) dL_step_615 rfl (z_rv ?_)
      refine z_iast (q := 619) _ (by with_reducible assumption) (rfl) (by omega) (by decide) dL_step_618 rfl ?_
      refine z_iinc (q := 622) dL_step_619 rfl (nI_add _ 1) (by decide) rfl ?_
      refine z_goto (q := 591) dL_step_622 (by decide) ?_
      refine ih _ (fun k hk => ?_) (fun q h1 => by rw [zw_row _ _ h1]; exact hf q h1) _ rfl
      by_cases e : k = i
      · rw [e, zw_s]
      · rw [zw_k _ _ e]; exact hw k (by omega)
  intro ls hls
  refine z_pick [0, 1, 2, 3, 4, 5, 6] hls ?_
  refine z_iconst (q := 589) (v := nI 0) dL_step_588 (by rfl) rfl ?_
  refine z_istore (q := 591) dL_step_589 (by decide) rfl ?_
  exact loop 0 (Nat.zero_le _) I (fun k hk => absurd hk (Nat.not_lt_zero k)) (fun _ _ => rfl) _ rfl
theorem send_eq {fl h : Nat → Int32} {k a de : Nat} (hk : k < 24) (ha : gN h (57 + 10 * (k / 2) + k % 2) = a) (ha8 : a ≤ 8) (hde : gN h (57 + 10 * (k / 2) + 4) = de) (h5 : de ≤ 5) (hz : a = 8 → fl k = 0) (c : Nat) : sendR fl h k c = (if a = 8 then upd (upd h (57 + (10 * (k / 2) + 8 + k % 2)) (h (57 + (10 * (k / 2) + 8 + k % 2)) + fl k)) (177 + (6 * k + de)) (h (177 + (6 * k + de)) + fl k) else upd (upd (upd h (57 + (10 * (k / 2) + 8 + k % 2)) (h (57 + (10 * (k / 2) + 8 + k % 2)) + fl k)) (177 + (6 * k + de)) (h (177 + (6 * k + de)) + fl k)) (9 + (6 * a + 2)) (h (9 + (6 * a + 2)) - fl k)) c := by
  by_cases h8 : a = 8
  · have z := hz h8
    rw [if_pos h8, snd_n z, z, Int32.add_zero, Int32.add_zero, upd_self, upd_self]
  · rw [if_neg h8]
    have s1 := snd_s (fl := fl) (h := h) (d := k / 2) (s := k % 2) (b := a) (de := de) (by omega) (by omega) ha (by omega) hde h5
    rw [show 2 * (k / 2) + k % 2 = k by omega] at s1
    rw [s1, show 57 + (10 * (k / 2) + 8 + k % 2) = 57 + 10 * (k / 2) + 8 + k % 2 by omega, show 177 + (6 * k + de) = 177 + 12 * (k / 2) + 6 * (k % 2) + de by omega, show 9 + (6 * a + 2) = 9 + 6 * a + 2 by omega]
    have hg : 57 ≤ 57 + 10 * (k / 2) + 8 + k % 2 ∧ 57 + 10 * (k / 2) + 8 + k % 2 < 177 := by omega
    have hr : 177 ≤ 177 + 12 * (k / 2) + 6 * (k % 2) + de := by omega
    have he : 9 + 6 * a + 2 < 57 := by omega
    generalize 57 + 10 * (k / 2) + 8 + k % 2 = x at hg
    generalize 177 + 12 * (k / 2) + 6 * (k % 2) + de = y at hr
    generalize 9 + 6 * a + 2 = z at he
    by_cases c1 : c = x
    · subst c1
      rw [upd_n _ _ (by omega), upd_s, upd_n _ _ (by omega), upd_n _ _ (by omega), upd_s]
    · by_cases c2 : c = y
      · subst c2
        rw [upd_s, upd_n _ _ (by omega), upd_s]
      · by_cases c3 : c = z
        · subst c3
          rw [upd_n _ _ c2, upd_n _ _ c1, upd_s, upd_s]
        · rw [upd_n _ _ c2, upd_n _ _ c1, upd_n _ _ c3, upd_n _ _ c3, upd_n _ _ c2, upd_n _ _ c1]
set_option maxRecDepth 100000 in
set_option maxHeartbeats 4000000 in
theorem step_shift {G : zG} {Q : zQ} {n : Nat} {T : zTT} {I : zII} {R : zRR} (b w k : Nat) (hT : LT T b) (hk : k < 8) (kk : ∀ I' : zII, I' (b + 3) = (fun c => if c = 6 * k + 5 then 0 else if 6 * k ≤ c ∧ c < 6 * k + 5 then I (b + 3) (c + 1) else I (b + 3) c) → (∀ q, q ≠ b + 3 → I' q = I q) → ∀ ls : List (Nat × Value), lv_pick ls [0, 1, 2, 3, 4, 5, 6, 7] = [(0, .ref b), (1, .ref (b + 1)), (2, .ref (b + 2)), (3, .ref (b + 3)), (4, .ref (b + 4)), (5, .ref (b + 5)), (6, .ref w), (7, .int (nI k))] → z_X G muL_step (1, 1, 8) Q n T I' R 1 8 838 ls []) : ∀ ls : List (Nat × Value), lv_pick ls [0, 1, 2, 3, 4, 5, 6, 7] = [(0, .ref b), (1, .ref (b + 1)), (2, .ref (b + 2)), (3, .ref (b + 3)), (4, .ref (b + 4)), (5, .ref (b + 5)), (6, .ref w), (7, .int (nI k))] → z_X G muL_step (1, 1, 8) Q n T I R 1 8 790 ls [] := by
  have hTy := hT.2.2.2.1
  have loop : ∀ j, j ≤ 6 → ∀ I2 : zII, I2 (b + 3) = (fun c => if c = 6 * k + 5 ∧ j = 6 then 0 else if 6 * k ≤ c ∧ c < 6 * k + j then I (b + 3) (c + 1) else I (b + 3) c) → (∀ q, q ≠ b + 3 → I2 q = I q) → ∀ ls : List (Nat × Value), lv_pick ls [0, 1, 2, 3, 4, 5, 6, 7, 8] = [(0, .ref b), (1, .ref (b + 1)), (2, .ref (b + 2)), (3, .ref (b + 3)), (4, .ref (b + 4)), (5, .ref (b + 5)), (6, .ref w), (7, .int (nI k)), (10, .int (nI j))] → z_X G muL_step (1, 1, 8) Q n T I2 R 1 8 793 ls [] := by
    refine z_up (N := 6) _ ?_ ?_
    · intro I2 hy hf ls hls
      refine z_pick [0, 1, 2, 3, 4, 5, 6, 7, 8] hls ?_
      refine z_iload (q := 795) (i := 10) dL_step_793 rfl rfl ?_
      refine z_bipush (q := 797) (v := nI 6) dL_step_795 (by rfl) rfl ?_
      refine z_icmpn_ge (rfl) (rfl) (by omega) (by omega) (tgt := 838) (q := 800) dL_step_797 (by decide) rfl (fun _ => ?_) (fun hc => absurd hc (by omega))
      refine kk I2 ?_ hf _ rfl
      rw [hy]
      funext c
      by_cases e : c = 6 * k + 5
      · rw [if_pos ⟨e, rfl⟩, if_pos e]
      · rw [if_neg (fun z => e z.1), if_neg e]
        by_cases e2 : 6 * k ≤ c ∧ c < 6 * k + 5
        · rw [if_pos e2, if_pos (by omega)]
        · rw [if_neg e2, if_neg (by omega)]
    · intro j hj ih I2 hy hf ls hls
      have next : ∀ v : Int32, (v = if j = 5 then 0 else I (b + 3) (6 * k + j + 1)) → ∀ ls : List (Nat × Value), lv_pick ls [0, 1, 2, 3, 4, 5, 6, 7, 8] = [(0, .ref b), (1, .ref (b + 1)), (2, .ref (b + 2)), (3, .ref (b + 3)), (4, .ref (b + 4)), (5, .ref (b + 5)), (6, .ref w), (7, .int (nI k)), (10, .int (nI j))] → z_X G muL_step (1, 1, 8) Q n T I2 R 1 8 831 ls [.int v, .int (nI (6 * k + j)), .ref (b + 3)] := by
        intro v hv ls hls
        refine z_pick [0, 1, 2, 3, 4, 5, 6, 7, 8] hls ?_
        refine z_iast (q := 832) _ (by with_reducible assumption) (rfl) (by omega) (by decide) dL_step_831 rfl ?_
        refine z_iinc (q := 835) dL_step_832 rfl (nI_add _ 1) (by decide) rfl ?_
        refine z_goto (q := 793) dL_step_835 (by decide) ?_
        refine ih _ ?_ (fun q h1 => by rw [zw_row _ _ h1]; exact hf q h1) _ rfl
        rw [zw_upd, hy]
        funext c
        by_cases e : c = 6 * k + j
        · rw [e, upd_s, hv]
          by_cases e5 : j = 5
          · rw [if_pos e5, if_pos (by omega)]
          · rw [if_neg e5, if_neg (by omega), if_pos (by omega)]
        · rw [upd_n _ _ e, if_neg (show ¬ (c = 6 * k + 5 ∧ j = 6) by omega), if_neg (show ¬ (c = 6 * k + 5 ∧ j + 1 = 6) by omega)]
          by_cases e2 : 6 * k ≤ c ∧ c < 6 * k + j
          · rw [if_pos e2, if_pos (by omega)]
          · rw [if_neg e2, if_neg (by omega)]
      refine z_pick [0, 1, 2, 3, 4, 5, 6, 7, 8] hls ?_
      refine z_iload (q := 795) (i := 10) dL_step_793 rfl rfl ?_
      refine z_bipush (q := 797) (v := nI 6) dL_step_795 (by rfl) rfl ?_
      refine z_icmpn_ge (rfl) (rfl) (by omega) (by omega) (tgt := 838) (q := 800) dL_step_797 (by decide) rfl (fun hc => absurd hc (by omega)) (fun _ => ?_)
      refine z_aload_n (q := 801) dL_step_800 rfl rfl rfl ?_
      refine z_bipush (q := 803) (v := nI 6) dL_step_801 (by rfl) rfl ?_
      refine z_iload (q := 805) (i := 7) dL_step_803 rfl rfl ?_
      refine z_imulE (q := 806) dL_step_805 (pk_mul _ _) rfl ?_
      refine z_iload (q := 808) (i := 10) dL_step_806 rfl rfl ?_
      refine z_iaddE (q := 809) dL_step_808 (nI_add _ _) rfl ?_
      refine z_iload (q := 811) (i := 10) dL_step_809 rfl rfl ?_
      refine z_iconst (q := 812) (v := nI 5) dL_step_811 (by rfl) rfl ?_
      refine z_icmpn_ge (rfl) (rfl) (by omega) (by omega) (tgt := 830) (q := 815) dL_step_812 (by decide) rfl (fun h812 => ?_) (fun h812 => ?_)
      · refine z_iconst (q := 831) (v := nI 0) dL_step_830 (by rfl) rfl ?_
        exact next _ (by rw [if_pos (by omega)]; rfl) _ rfl
      · have hv : I2 (b + 3) (6 * k + j + 1) = I (b + 3) (6 * k + j + 1) := by
          rw [hy]
          show (if 6 * k + j + 1 = 6 * k + 5 ∧ j = 6 then (0 : Int32) else if 6 * k ≤ 6 * k + j + 1 ∧ 6 * k + j + 1 < 6 * k + j then I (b + 3) (6 * k + j + 1 + 1) else I (b + 3) (6 * k + j + 1)) = _
          rw [if_neg (by omega), if_neg (by omega)]
        refine z_aload_n (q := 816) dL_step_815 rfl rfl rfl ?_
        refine z_bipush (q := 818) (v := nI 6) dL_step_816 (by rfl) rfl ?_
        refine z_iload (q := 820) (i := 7) dL_step_818 rfl rfl ?_
        refine z_imulE (q := 821) dL_step_820 (pk_mul _ _) rfl ?_
        refine z_iload (q := 823) (i := 10) dL_step_821 rfl rfl ?_
        refine z_iaddE (q := 824) dL_step_823 (nI_add _ _) rfl ?_
        refine z_iconst (q := 825) (v := nI 1) dL_step_824 (by rfl) rfl ?_
        refine z_iaddE (q := 826) dL_step_825 (nI_add _ _) rfl ?_
        refine z_ialdV (q := 827) _ (by with_reducible assumption) (rfl) (by omega) (by decide) (hv) dL_step_826 rfl ?_
        refine z_goto (q := 831) dL_step_827 (by decide) ?_
        exact next _ (by rw [if_neg (by omega)]) _ rfl
  intro ls hls
  refine z_pick [0, 1, 2, 3, 4, 5, 6, 7] hls ?_
  refine z_iconst (q := 791) (v := nI 0) dL_step_790 (by rfl) rfl ?_
  refine z_istore (q := 793) dL_step_791 (by decide) rfl ?_
  refine loop 0 (Nat.zero_le _) I ?_ (fun _ _ => rfl) _ rfl
  funext c
  rw [if_neg (by omega), if_neg (by omega)]

