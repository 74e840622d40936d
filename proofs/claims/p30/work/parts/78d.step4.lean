/-! THE LAW's step: what goes and what arrives by turns; the step whole -/
theorem arr1_eq {u : Nat → Int32} {k c : Nat} (hc : gN u (57 + 10 * (k / 2) + (1 - k % 2)) = c) (j : Nat) : arr1 u (k / 2) (k % 2) j = (if c = 8 then upd u 4 (u 4 + u (177 + 6 * k)) else upd u (9 + (6 * c + 2)) (u (9 + (6 * c + 2)) + u (177 + 6 * k))) j := by
  rw [arr1, hc, show 177 + 12 * (k / 2) + 6 * (k % 2) = 177 + 6 * k by omega, ← Nat.add_assoc 9 (6 * c) 2]
theorem LP_shift {I I' : zII} {b np k : Nat} {s : Nat → Int32} {M : List zE} (hL : LWP I b np (arr1 s (k / 2) (k % 2)) M) (hk : k < 8) (h1 : I' (b + 3) = (fun c => if c = 6 * k + 5 then 0 else if 6 * k ≤ c ∧ c < 6 * k + 5 then I (b + 3) (c + 1) else I (b + 3) c)) (hf : ∀ q, q ≠ b + 3 → I' q = I q) : LWP I' b np (arrR s (k / 2) (k % 2)) M := by
  have hr : 177 + 12 * (k / 2) + 6 * (k % 2) = 177 + 6 * k := by omega
  have o : ∀ c, (c < 177 ∨ 177 + 48 ≤ c) → arrR s (k / 2) (k % 2) c = arr1 s (k / 2) (k % 2) c := by
    intro c hc
    rw [arrR, hr, upd_n _ _ (by omega), arr2, if_neg (by omega)]
  unfold LWP
  rw [h1, hf b (by omega), hf (b + 1) (by omega), hf (b + 2) (by omega), hf (b + 4) (by omega)]
  refine ⟨fun c hc hc2 => by rw [o c (by omega)]; exact hL.1 c hc hc2, hL.2.1, fun c hc => by rw [o _ (by omega)]; exact hL.2.2.1 c hc, fun c hc => by rw [o _ (by omega)]; exact hL.2.2.2.1 c hc, fun c hc => ?_, hL.2.2.2.2.2⟩
  show (if c = 6 * k + 5 then (0 : Int32) else if 6 * k ≤ c ∧ c < 6 * k + 5 then I (b + 3) (c + 1) else I (b + 3) c) = _
  rw [arrR, hr]
  by_cases c1 : c = 6 * k + 5
  · rw [if_pos c1, c1, ← Nat.add_assoc, upd_s]
  · rw [if_neg c1, upd_n _ _ (by omega), arr2]
    by_cases c2 : 6 * k ≤ c ∧ c < 6 * k + 5
    · rw [if_pos c2, if_pos (by omega), hL.2.2.2.2.1 _ (by omega), Nat.add_assoc]
    · rw [if_neg c2, if_neg (by omega), hL.2.2.2.2.1 _ hc]
set_option maxRecDepth 100000 in
set_option maxHeartbeats 4000000 in
theorem step_inter {G : zG} {Q : zQ} {n : Nat} {T : zTT} {I : zII} {R : zRR} (b w nr nd np np2 st : Nat) (fl s : Nat → Int32) (M : List zE) (hT : LT T b) (hTw : T w = some (.inr (.int, 8))) (hbw : b + 6 ≤ w) (hL : LWP I b np2 s M) (hI : INV nr nd np st s) (hz : ∀ m, m < 2 * nd → gN s (57 + 10 * (m / 2) + m % 2) = 8 → fl m = 0) (hw : ∀ k, k < 2 * nd → I w k = fl k) (h4 : nr ≤ 4) (h4' : nd ≤ 4) (kk : ∀ I' : zII, LWP I' b np2 (iX fl s (2 * nd)) M → (∀ q, q ≠ b → q ≠ b + 1 → q ≠ b + 2 → q ≠ b + 3 → I' q = I q) → ∀ ls : List (Nat × Value), lv_pick ls [0, 1, 2, 3, 4, 5, 6] = [(0, .ref b), (1, .ref (b + 1)), (2, .ref (b + 2)), (3, .ref (b + 3)), (4, .ref (b + 4)), (5, .ref (b + 5)), (6, .ref w)] → z_X G muL_step (1, 1, 8) Q n T I' R 1 8 844 ls []) : ∀ ls : List (Nat × Value), lv_pick ls [0, 1, 2, 3, 4, 5, 6] = [(0, .ref b), (1, .ref (b + 1)), (2, .ref (b + 2)), (3, .ref (b + 3)), (4, .ref (b + 4)), (5, .ref (b + 5)), (6, .ref w)] → z_X G muL_step (1, 1, 8) Q n T I R 1 8 625 ls [] := by
  have hTg := hT.1
  have hTr := hT.2.1
  have hTd := hT.2.2.1
  have hTy := hT.2.2.2.1
  have loop : ∀ i, i ≤ 2 * nd → ∀ I2 : zII, LWP I2 b np2 (iX fl s i) M → (∀ q, q ≠ b → q ≠ b + 1 → q ≠ b + 2 → q ≠ b + 3 → I2 q = I q) → ∀ ls : List (Nat × Value), lv_pick ls [0, 1, 2, 3, 4, 5, 6, 7] = [(0, .ref b), (1, .ref (b + 1)), (2, .ref (b + 2)), (3, .ref (b + 3)), (4, .ref (b + 4)), (5, .ref (b + 5)), (6, .ref w), (7, .int (nI i))] → z_X G muL_step (1, 1, 8) Q n T I2 R 1 8 628 ls [] := by
    refine z_up (N := 2 * nd) _ ?_ ?_
    · intro I2 hL2 hf ls hls
      have g1 : I2 b 1 = nI nd := by
        rw [hL2.1 1 (by decide) (by decide)]
        exact (iX_INV hI hz (Nat.le_refl _)).1.2.1.1
      refine z_pick [0, 1, 2, 3, 4, 5, 6, 7] hls ?_
      refine z_iload (q := 630) (i := 7) dL_step_628 rfl rfl ?_
      refine z_iconst (q := 631) (v := nI 2) dL_step_630 (by rfl) rfl ?_
      refine z_aload_n (q := 632) dL_step_631 rfl rfl rfl ?_
      refine z_iconst (q := 633) (v := nI 1) dL_step_632 (by rfl) rfl ?_
      refine z_ialdV (q := 634) _ (by with_reducible assumption) (rfl) (by omega) (by decide) (g1) dL_step_633 rfl ?_
      refine z_imulE (q := 635) dL_step_634 (pk_mul _ _) rfl ?_
      refine z_icmpn_ge (rfl) (rfl) (by omega) (by omega) (tgt := 844) (q := 638) dL_step_635 (by decide) rfl (fun _ => ?_) (fun hc => absurd hc (by omega))
      exact kk I2 hL2 hf _ rfl
    · intro k hk ih I2 hL2 hf ls hls
      obtain ⟨hIk, hsame⟩ := iX_INV hI hz (m := k) (by omega)
      have hsn : iX fl s (k + 1) = arrR (sendR fl (iX fl s k) k) (k / 2) (k % 2) := rfl
      have hzk : gN (iX fl s k) (57 + 10 * (k / 2) + k % 2) = 8 → fl k = 0 := fun z => hz k hk (by rw [← z]; exact gN_congr (hsame _ _ (by omega) (by omega)).symm)
      rw [hsn] at ih
      have hwk : I2 w k = fl k := by rw [hf w (by omega) (by omega) (by omega) (by omega)]; exact hw k hk
      generalize iX fl s k = h at hL2 hIk hzk ih
      have g1 : I2 b 1 = nI nd := by rw [hL2.1 1 (by decide) (by decide)]; exact hIk.2.1.1
      obtain ⟨a, ha, ha8, hav⟩ := INV_side hIk (d := k / 2) (s := k % 2) (by omega) (by omega)
      obtain ⟨c, hc, hc8, hcv⟩ := INV_side hIk (d := k / 2) (s := 1 - k % 2) (by omega) (by omega)
      obtain ⟨de, hde, hde5⟩ := INV_delay hIk (d := k / 2) (by omega)
      have hsu := send_eq (fl := fl) (h := h) (k := k) (a := a) (de := de) (by omega) (gN_of ha (by omega)) ha8 (gN_of hde (by omega)) hde5 (fun z => hzk (by rw [← z]; exact gN_of ha (by omega)))
      have hIs : INV nr nd np st (sendR fl h k) := INV_free hIk (sendR_fre hIk hk)
      have hcs : gN (sendR fl h k) (57 + 10 * (k / 2) + (1 - k % 2)) = c := (gN_congr (sendR_fre hIk hk _ (nfre_d (by have := hI.1.2; omega) (by have := hI.2.1.2; omega) (by omega) (by omega)))).trans (gN_of hc (by omega))
      have da : I2 (b + 2) (10 * (k / 2) + k % 2) = nI a := by rw [LW_d hL2 (by omega) (by omega)]; exact ha
      have dc : I2 (b + 2) (10 * (k / 2) + 1 - k % 2) = nI c := by
        rw [show 10 * (k / 2) + 1 - k % 2 = 10 * (k / 2) + (1 - k % 2) by omega, LW_d hL2 (by omega) (by omega)]
        exact hc
      have dd : I2 (b + 2) (10 * (k / 2) + 4) = nI de := by rw [LW_d hL2 (by omega) (by decide)]; exact hde
      -- behind the shift
      have last : ∀ I3 : zII, LWP I3 b np2 (arr1 (sendR fl h k) (k / 2) (k % 2)) M → (∀ q, q ≠ b → q ≠ b + 1 → q ≠ b + 2 → q ≠ b + 3 → I3 q = I q) → ∀ ls : List (Nat × Value), lv_pick ls [0, 1, 2, 3, 4, 5, 6, 7] = [(0, .ref b), (1, .ref (b + 1)), (2, .ref (b + 2)), (3, .ref (b + 3)), (4, .ref (b + 4)), (5, .ref (b + 5)), (6, .ref w), (7, .int (nI k))] → z_X G muL_step (1, 1, 8) Q n T I3 R 1 8 790 ls [] := by
        intro I3 hL3 hf3
        refine step_shift b w k hT (by omega) (fun I4 h1 h2 ls hls => ?_)
        refine z_pick [0, 1, 2, 3, 4, 5, 6, 7] hls ?_
        refine z_iinc (q := 841) dL_step_838 rfl (nI_add _ 1) (by decide) rfl ?_
        refine z_goto (q := 628) dL_step_841 (by decide) ?_
        exact ih I4 (LP_shift hL3 (by omega) h1 h2) (fun q q1 q2 q3 q4 => by rw [h2 q q4]; exact hf3 q q1 q2 q3 q4) _ rfl
      -- what arrives
      have arrive : ∀ I3 : zII, LWP I3 b np2 (sendR fl h k) M → (∀ q, q ≠ b → q ≠ b + 1 → q ≠ b + 2 → q ≠ b + 3 → I3 q = I q) → ∀ ls : List (Nat × Value), lv_pick ls [0, 1, 2, 3, 4, 5, 6, 7, 8, 9] = [(0, .ref b), (1, .ref (b + 1)), (2, .ref (b + 2)), (3, .ref (b + 3)), (4, .ref (b + 4)), (5, .ref (b + 5)), (6, .ref w), (7, .int (nI k)), (8, .int (nI a)), (9, .int (nI c))] → z_X G muL_step (1, 1, 8) Q n T I3 R 1 8 748 ls [] := by
        intro I3 hL3 hf3 ls hls
        have hy : I3 (b + 3) (6 * k) = sendR fl h k (177 + 6 * k) := hL3.2.2.2.2.1 _ (by omega)
        refine z_pick [0, 1, 2, 3, 4, 5, 6, 7, 8, 9] hls ?_
        refine z_iload (q := 750) (i := 9) dL_step_748 rfl rfl ?_
        refine z_bipush (q := 752) (v := nI 8) dL_step_750 (by rfl) rfl ?_
        refine z_icmpn_ge (rfl) (rfl) (by omega) (by omega) (tgt := 777) (q := 755) dL_step_752 (by decide) rfl (fun h752 => ?_) (fun h752 => ?_)
        · refine z_aload_n (q := 778) dL_step_777 rfl rfl rfl ?_
          refine z_iconst (q := 779) (v := nI 4) dL_step_778 (by rfl) rfl ?_
          refine z_dup2 (q := 780) dL_step_779 rfl rfl rfl ?_
          refine z_iald (q := 781) _ (by with_reducible assumption) (rfl) (by omega) (by decide) dL_step_780 rfl ?_
          refine z_aload_n (q := 782) dL_step_781 rfl rfl rfl ?_
          refine z_bipush (q := 784) (v := nI 6) dL_step_782 (by rfl) rfl ?_
          refine z_iload (q := 786) (i := 7) dL_step_784 rfl rfl ?_
          refine z_imulE (q := 787) dL_step_786 (pk_mul _ _) rfl ?_
          refine z_ialdV (q := 788) _ (by with_reducible assumption) (rfl) (by omega) (by decide) (hy) dL_step_787 rfl ?_
          refine z_iadd (q := 789) dL_step_788 rfl ?_
          refine z_iast (q := 790) _ (by with_reducible assumption) (rfl) (by omega) (by decide) dL_step_789 rfl ?_
          refine last _ ?_ (fun q q1 q2 q3 q4 => by rw [zw_row _ _ q1]; exact hf3 q q1 q2 q3 q4) _ rfl
          have h5 := LP_g hL3 (c := 4) (I3 b 4 + sendR fl h k (177 + 6 * k)) (by decide) (by decide)
          refine LP_s h5 (fun j _ _ => ?_)
          rw [arr1_eq hcs, if_pos (by omega), hL3.1 4 (by decide) (by decide)]
        · have hcn : c < nr := (hcv (by omega)).1
          refine z_aload_n (q := 756) dL_step_755 rfl rfl rfl ?_
          refine z_bipush (q := 758) (v := nI 6) dL_step_756 (by rfl) rfl ?_
          refine z_iload (q := 760) (i := 9) dL_step_758 rfl rfl ?_
          refine z_imulE (q := 761) dL_step_760 (pk_mul _ _) rfl ?_
          refine z_iconst (q := 762) (v := nI 2) dL_step_761 (by rfl) rfl ?_
          refine z_iaddE (q := 763) dL_step_762 (nI_add _ _) rfl ?_
          refine z_dup2 (q := 764) dL_step_763 rfl rfl rfl ?_
          refine z_iald (q := 765) _ (by with_reducible assumption) (rfl) (by omega) (by decide) dL_step_764 rfl ?_
          refine z_aload_n (q := 766) dL_step_765 rfl rfl rfl ?_
          refine z_bipush (q := 768) (v := nI 6) dL_step_766 (by rfl) rfl ?_
          refine z_iload (q := 770) (i := 7) dL_step_768 rfl rfl ?_
          refine z_imulE (q := 771) dL_step_770 (pk_mul _ _) rfl ?_
          refine z_ialdV (q := 772) _ (by with_reducible assumption) (rfl) (by omega) (by decide) (hy) dL_step_771 rfl ?_
          refine z_iadd (q := 773) dL_step_772 rfl ?_
          refine z_iast (q := 774) _ (by with_reducible assumption) (rfl) (by omega) (by decide) dL_step_773 rfl ?_
          refine z_goto (q := 790) dL_step_774 (by decide) ?_
          refine last _ ?_ (fun q q1 q2 q3 q4 => by rw [zw_row _ _ q2]; exact hf3 q q1 q2 q3 q4) _ rfl
          have h5 := LP_r hL3 (c := 6 * c + 2) (I3 (b + 1) (6 * c + 2) + sendR fl h k (177 + 6 * k)) (by omega)
          refine LP_s h5 (fun j _ _ => ?_)
          rw [arr1_eq hcs, if_neg (by omega), hL3.2.2.1 _ (by omega)]
      refine z_pick [0, 1, 2, 3, 4, 5, 6, 7] hls ?_
      refine z_iload (q := 630) (i := 7) dL_step_628 rfl rfl ?_
      refine z_iconst (q := 631) (v := nI 2) dL_step_630 (by rfl) rfl ?_
      refine z_aload_n (q := 632) dL_step_631 rfl rfl rfl ?_
      refine z_iconst (q := 633) (v := nI 1) dL_step_632 (by rfl) rfl ?_
      refine z_ialdV (q := 634) _ (by with_reducible assumption) (rfl) (by omega) (by decide) (g1) dL_step_633 rfl ?_
      refine z_imulE (q := 635) dL_step_634 (pk_mul _ _) rfl ?_
      refine z_icmpn_ge (rfl) (rfl) (by omega) (by omega) (tgt := 844) (q := 638) dL_step_635 (by decide) rfl (fun hc => absurd hc (by omega)) (fun _ => ?_)
      refine z_aload_n (q := 639) dL_step_638 rfl rfl rfl ?_
      refine z_bipush (q := 641) (v := nI 10) dL_step_639 (by rfl) rfl ?_
      refine z_iload (q := 643) (i := 7) dL_step_641 rfl rfl ?_
      refine z_iconst (q := 644) (v := nI 2) dL_step_643 (by rfl) rfl ?_
      refine z_idivE (q := 645) dL_step_644 (by decide) (pk_div (by omega) (by decide) (by decide)) rfl ?_
      refine z_imulE (q := 646) dL_step_645 (pk_mul _ _) rfl ?_
      refine z_iload (q := 648) (i := 7) dL_step_646 rfl rfl ?_
      refine z_iconst (q := 649) (v := nI 2) dL_step_648 (by rfl) rfl ?_
      refine z_iremE (q := 650) dL_step_649 (by decide) (pk_rem (by omega) (by decide) (by decide)) rfl ?_
      refine z_iaddE (q := 651) dL_step_650 (nI_add _ _) rfl ?_
      refine z_ialdV (q := 652) _ (by with_reducible assumption) (rfl) (by omega) (by decide) (da) dL_step_651 rfl ?_
      refine z_istore (q := 654) dL_step_652 (by decide) rfl ?_
      refine z_aload_n (q := 655) dL_step_654 rfl rfl rfl ?_
      refine z_bipush (q := 657) (v := nI 10) dL_step_655 (by rfl) rfl ?_
      refine z_iload (q := 659) (i := 7) dL_step_657 rfl rfl ?_
      refine z_iconst (q := 660) (v := nI 2) dL_step_659 (by rfl) rfl ?_
      refine z_idivE (q := 661) dL_step_660 (by decide) (pk_div (by omega) (by decide) (by decide)) rfl ?_
      refine z_imulE (q := 662) dL_step_661 (pk_mul _ _) rfl ?_
      refine z_iconst (q := 663) (v := nI 1) dL_step_662 (by rfl) rfl ?_
      refine z_iaddE (q := 664) dL_step_663 (nI_add _ _) rfl ?_
      refine z_iload (q := 666) (i := 7) dL_step_664 rfl rfl ?_
      refine z_iconst (q := 667) (v := nI 2) dL_step_666 (by rfl) rfl ?_
      refine z_iremE (q := 668) dL_step_667 (by decide) (pk_rem (by omega) (by decide) (by decide)) rfl ?_
      refine z_isubE (q := 669) dL_step_668 (pk_sub (by omega)) rfl ?_
      refine z_ialdV (q := 670) _ (by with_reducible assumption) (rfl) (by omega) (by decide) (dc) dL_step_669 rfl ?_
      refine z_istore (q := 672) dL_step_670 (by decide) rfl ?_
      refine z_aload_n (q := 673) dL_step_672 rfl rfl rfl ?_
      refine z_bipush (q := 675) (v := nI 10) dL_step_673 (by rfl) rfl ?_
      refine z_iload (q := 677) (i := 7) dL_step_675 rfl rfl ?_
      refine z_iconst (q := 678) (v := nI 2) dL_step_677 (by rfl) rfl ?_
      refine z_idivE (q := 679) dL_step_678 (by decide) (pk_div (by omega) (by decide) (by decide)) rfl ?_
      refine z_imulE (q := 680) dL_step_679 (pk_mul _ _) rfl ?_
      refine z_bipush (q := 682) (v := nI 8) dL_step_680 (by rfl) rfl ?_
      refine z_iaddE (q := 683) dL_step_682 (nI_add _ _) rfl ?_
      refine z_iload (q := 685) (i := 7) dL_step_683 rfl rfl ?_
      refine z_iconst (q := 686) (v := nI 2) dL_step_685 (by rfl) rfl ?_
      refine z_iremE (q := 687) dL_step_686 (by decide) (pk_rem (by omega) (by decide) (by decide)) rfl ?_
      refine z_iaddE (q := 688) dL_step_687 (nI_add _ _) rfl ?_
      refine z_dup2 (q := 689) dL_step_688 rfl rfl rfl ?_
      refine z_iald (q := 690) _ (by with_reducible assumption) (rfl) (by omega) (by decide) dL_step_689 rfl ?_
      refine z_aload (q := 692) dL_step_690 rfl rfl ?_
      refine z_iload (q := 694) (i := 7) dL_step_692 rfl rfl ?_
      refine z_ialdV (q := 695) _ (by with_reducible assumption) (rfl) (by omega) (by decide) (hwk) dL_step_694 rfl ?_
      refine z_iadd (q := 696) dL_step_695 rfl ?_
      have hg0 : I2 (b + 2) (10 * (k / 2) + 8 + k % 2) = h (57 + (10 * (k / 2) + 8 + k % 2)) := hL2.2.2.2.1 _ (by omega)
      have hL3 := LP_d hL2 (c := 10 * (k / 2) + 8 + k % 2) (I2 (b + 2) (10 * (k / 2) + 8 + k % 2) + fl k) (by omega)
      have hf3 : ∀ q, q ≠ b → q ≠ b + 1 → q ≠ b + 2 → q ≠ b + 3 → zw I2 (b + 2) (10 * (k / 2) + 8 + k % 2) (I2 (b + 2) (10 * (k / 2) + 8 + k % 2) + fl k) q = I q := fun q q1 q2 q3 q4 => by rw [zw_row _ _ q3]; exact hf q q1 q2 q3 q4
      have dd3 : zw I2 (b + 2) (10 * (k / 2) + 8 + k % 2) (I2 (b + 2) (10 * (k / 2) + 8 + k % 2) + fl k) (b + 2) (10 * (k / 2) + 4) = nI de := by rw [zw_k _ _ (by omega)]; exact dd
      have hwk3 : zw I2 (b + 2) (10 * (k / 2) + 8 + k % 2) (I2 (b + 2) (10 * (k / 2) + 8 + k % 2) + fl k) w k = fl k := by rw [zw_row _ _ (by omega)]; exact hwk
      refine z_iast (q := 697) _ (by with_reducible assumption) (rfl) (by omega) (by decide) dL_step_696 rfl ?_
      generalize zw I2 (b + 2) (10 * (k / 2) + 8 + k % 2) (I2 (b + 2) (10 * (k / 2) + 8 + k % 2) + fl k) = I3 at hL3 hf3 dd3 hwk3
      rw [hg0] at hL3
      refine z_aload_n (q := 698) dL_step_697 rfl rfl rfl ?_
      refine z_bipush (q := 700) (v := nI 6) dL_step_698 (by rfl) rfl ?_
      refine z_iload (q := 702) (i := 7) dL_step_700 rfl rfl ?_
      refine z_imulE (q := 703) dL_step_702 (pk_mul _ _) rfl ?_
      refine z_aload_n (q := 704) dL_step_703 rfl rfl rfl ?_
      refine z_bipush (q := 706) (v := nI 10) dL_step_704 (by rfl) rfl ?_
      refine z_iload (q := 708) (i := 7) dL_step_706 rfl rfl ?_
      refine z_iconst (q := 709) (v := nI 2) dL_step_708 (by rfl) rfl ?_
      refine z_idivE (q := 710) dL_step_709 (by decide) (pk_div (by omega) (by decide) (by decide)) rfl ?_
      refine z_imulE (q := 711) dL_step_710 (pk_mul _ _) rfl ?_
      refine z_iconst (q := 712) (v := nI 4) dL_step_711 (by rfl) rfl ?_
      refine z_iaddE (q := 713) dL_step_712 (nI_add _ _) rfl ?_
      refine z_ialdV (q := 714) _ (by with_reducible assumption) (rfl) (by omega) (by decide) (dd3) dL_step_713 rfl ?_
      refine z_iaddE (q := 715) dL_step_714 (nI_add _ _) rfl ?_
      refine z_dup2 (q := 716) dL_step_715 rfl rfl rfl ?_
      refine z_iald (q := 717) _ (by with_reducible assumption) (rfl) (by omega) (by decide) dL_step_716 rfl ?_
      refine z_aload (q := 719) dL_step_717 rfl rfl ?_
      refine z_iload (q := 721) (i := 7) dL_step_719 rfl rfl ?_
      refine z_ialdV (q := 722) _ (by with_reducible assumption) (rfl) (by omega) (by decide) (hwk3) dL_step_721 rfl ?_
      refine z_iadd (q := 723) dL_step_722 rfl ?_
      have hy0 : I3 (b + 3) (6 * k + de) = h (177 + (6 * k + de)) := by rw [hL3.2.2.2.2.1 _ (by omega), upd_n _ _ (by omega)]
      have hL4 := LP_y hL3 (c := 6 * k + de) (I3 (b + 3) (6 * k + de) + fl k) (by omega)
      have hf4 : ∀ q, q ≠ b → q ≠ b + 1 → q ≠ b + 2 → q ≠ b + 3 → zw I3 (b + 3) (6 * k + de) (I3 (b + 3) (6 * k + de) + fl k) q = I q := fun q q1 q2 q3 q4 => by rw [zw_row _ _ q4]; exact hf3 q q1 q2 q3 q4
      have hwk4 : zw I3 (b + 3) (6 * k + de) (I3 (b + 3) (6 * k + de) + fl k) w k = fl k := by rw [zw_row _ _ (by omega)]; exact hwk3
      refine z_iast (q := 724) _ (by with_reducible assumption) (rfl) (by omega) (by decide) dL_step_723 rfl ?_
      generalize zw I3 (b + 3) (6 * k + de) (I3 (b + 3) (6 * k + de) + fl k) = I4 at hL4 hf4 hwk4
      rw [hy0] at hL4
      refine z_iload (q := 726) (i := 8) dL_step_724 rfl rfl ?_
      refine z_bipush (q := 728) (v := nI 8) dL_step_726 (by rfl) rfl ?_
      refine z_icmpn_ge (rfl) (rfl) (by omega) (by omega) (tgt := 748) (q := 731) dL_step_728 (by decide) rfl (fun h728 => ?_) (fun h728 => ?_)
      · refine arrive I4 (LP_s hL4 (fun j _ _ => ?_)) hf4 _ rfl
        rw [hsu, if_pos (by omega)]
      · have han : a < nr := (hav (by omega)).1
        have he0 : I4 (b + 1) (6 * a + 2) = h (9 + (6 * a + 2)) := by rw [hL4.2.2.1 _ (by omega), upd_n _ _ (by omega), upd_n _ _ (by omega)]
        refine z_aload_n (q := 732) dL_step_731 rfl rfl rfl ?_
        refine z_bipush (q := 734) (v := nI 6) dL_step_732 (by rfl) rfl ?_
        refine z_iload (q := 736) (i := 8) dL_step_734 rfl rfl ?_
        refine z_imulE (q := 737) dL_step_736 (pk_mul _ _) rfl ?_
        refine z_iconst (q := 738) (v := nI 2) dL_step_737 (by rfl) rfl ?_
        refine z_iaddE (q := 739) dL_step_738 (nI_add _ _) rfl ?_
        refine z_dup2 (q := 740) dL_step_739 rfl rfl rfl ?_
        refine z_iald (q := 741) _ (by with_reducible assumption) (rfl) (by omega) (by decide) dL_step_740 rfl ?_
        refine z_aload (q := 743) dL_step_741 rfl rfl ?_
        refine z_iload (q := 745) (i := 7) dL_step_743 rfl rfl ?_
        refine z_ialdV (q := 746) _ (by with_reducible assumption) (rfl) (by omega) (by decide) (hwk4) dL_step_745 rfl ?_
        refine z_isub (q := 747) dL_step_746 rfl ?_
        refine z_iast (q := 748) _ (by with_reducible assumption) (rfl) (by omega) (by decide) dL_step_747 rfl ?_
        have hL5 := LP_r hL4 (c := 6 * a + 2) (I4 (b + 1) (6 * a + 2) - fl k) (by omega)
        refine arrive _ (LP_s hL5 (fun j _ _ => ?_)) (fun q q1 q2 q3 q4 => by rw [zw_row _ _ q2]; exact hf4 q q1 q2 q3 q4) _ rfl
        rw [hsu, if_neg (by omega), he0]
  intro ls hls
  refine z_pick [0, 1, 2, 3, 4, 5, 6] hls ?_
  refine z_iconst (q := 626) (v := nI 0) dL_step_625 (by rfl) rfl ?_
  refine z_istore (q := 628) dL_step_626 (by decide) rfl ?_
  exact loop 0 (Nat.zero_le _) I hL (fun _ _ _ _ _ => rfl) _ rfl
set_option maxRecDepth 100000 in
set_option maxHeartbeats 4000000 in
theorem c_L_step (G : zG) {n : Nat} {T : zTT} {I : zII} {R : zRR} (b nr nd np st Bu : Nat) (W : Int) (g : Nat → Int32) (hT : LT T b) (hL : LWP I b np g (planL g np)) (hH : PH nr nd np st Bu W g) (hst : st < 5000) (hB : Bu ≤ 15800) (hlt : ∀ a t, T a = some t → a < n) : Ct G yL_step wsL_step (1, 1, 8) [.ref b, .ref (b + 1), .ref (b + 2), .ref (b + 3), .ref (b + 4), .ref (b + 5)] n T I R (fun r n' T' I' R' => r = none ∧ n' = n + 1 ∧ T' = T ∧ (∃ (np' : Nat) (W' : Int), PH nr nd np' (st + 1) (Bu + 40) W' (mStep g) ∧ LWP I' b np' (mStep g) (planL (mStep g) np')) ∧ (∀ q, q < b → I' q = I q) ∧ ∀ q, q < b → R' q = R q) := by
  refine Ct.ofX (M := muL_step) (ls := [(0, .ref b), (1, .ref (b + 1)), (2, .ref (b + 2)), (3, .ref (b + 3)), (4, .ref (b + 4)), (5, .ref (b + 5))]) (by decide +kernel) rfl (by decide) rfl rfl (Nat.le_of_ble_eq_true rfl) ?_
  obtain ⟨np', W', hH', b4, b5, a4⟩ := PH_step hH (by omega) hB
  have hI := hH.1
  obtain ⟨h4, h4', h8⟩ := hH.2.1
  obtain ⟨np2, np4, ⟨i1, e1, p1⟩, ⟨i2, e2, p2, s2⟩, ⟨i3, e3, p3⟩, ⟨i4, e4, p4, s4⟩, ⟨i5, e5⟩, ⟨i6, e6⟩, ⟨i7, e7⟩, ⟨i8, p8⟩⟩ := step_facts hI (by omega)
  have hnp4 : np' = np4 := by
    have h1 := hH'.1.2.2.1
    have h2 := i8.2.2.1
    exact (nI_eq (by omega) (by omega)).mp (h1.1.symm.trans h2.1)
  subst hnp4
  have hE : ∀ k, k < np → EOK nr nd st (ent g k) := hI.2.2.2.2.2.2.1
  have hbn : b + 6 ≤ n := by have := hlt _ _ hT.2.2.2.2.2; omega
  have hL1 : LWP I b np (mS1 g) (planL g np) := LP_s hL (fun c hc _ => by rw [e1]; exact oldN_o _ _ _ (by omega))
  -- olds
  refine step_e (T := T) b nr hT (by rw [hL.1 0 (by decide) (by decide)]; exact hI.1.1) h4 (fun Ia fa ls hls => ?_)
  have hLa : LWP Ia b np (mS1 g) (planL g np) := LP_f hL1 (fun q q1 q2 => fa q (by omega))
  -- targets
  refine step_aim b nr nd np st g (mS1 g) hT hLa hI (fun c hc => by rw [e1]; exact oldN_o _ _ _ (by omega)) h4 h4' h8 (by omega) (fun Ib hLb fb ls hls => ?_) ls hls
  have hLb2 : LWP Ib b np (mS2 g) (planL g np) := LP_s hLb (fun c hc hc2 => s2 c (by unfold sc; omega))
  -- doors move
  refine step_move b nr nd np np2 st g (mS2 g) hT hLb2 i2 hE p2 h4 h4' h8 (by omega) (fun Ic hLc fc ls hls => ?_) ls hls
  rw [← e3] at hLc
  -- sounds
  refine step_give b nr nd np st g (mS3 g) hT hLc hE i3.2.2.2.1 h4 h4' h8 (by omega) (fun Id hLd fd ls hls => ?_) ls hls
  have hkeep : (planL g np).filter (keepC (nI st)) = planL (mS4 g) np' := by
    rw [p4, p3, p2, List.filter_filter]
    exact List.filter_congr (fun e he => keepC_e (EOK_in hI he) (by omega))
  have hlen : (planL (mS4 g) np').length = np' := planL_len _ _
  rw [hkeep, hlen] at hLd
  have hLd4 : LWP Id b np' (mS4 g) (planL (mS4 g) np') := by
    refine LP_s hLd (fun c hc hc2 => ?_)
    rw [s4 c (by unfold sc; omega), p3, p2]
    exact (give_filter (nI st) (keepT (nI st)) (planL g np) (mS3 g) (fun e he hk y => keepT_he hk y.1)).symm ▸ rfl
  -- rooms absorb
  refine step_abs b nr np' _ (mS4 g) (planL (mS4 g) np') hT hLd4 i4.1.1 b4 a4 h4 (fun Ie hLe fe ls hls => ?_) ls hls
  rw [← e5] at hLe
  refine z_pick [0, 1, 2, 3, 4, 5] hls ?_
  refine z_bipush (q := 584) (v := nI 8) dL_step_582 (by rfl) rfl ?_
  refine z_newa (q := 586) (atype := .int) (ty := .int) (8) 2 rfl rfl (fun _ _ h => h) (by rfl) (by decide) (fun _ => rfl) (by decide) (by decide) dL_step_584 rfl ?_
  refine z_astore (q := 588) dL_step_586 (by decide) rfl ?_
  refine step_went (I := zN Ie n (fun _ => 0)) b n nr nd np' np' st _ (mS5 g) (planL (mS4 g) np') ⟨zN_lt hlt _ _ _ hT.1, zN_lt hlt _ _ _ hT.2.1, zN_lt hlt _ _ _ hT.2.2.1, zN_lt hlt _ _ _ hT.2.2.2.1, zN_lt hlt _ _ _ hT.2.2.2.2.1, zN_lt hlt _ _ _ hT.2.2.2.2.2⟩ (zN_s _ _ _) hbn (LP_f hLe (fun q q1 q2 => zN_n _ _ (by omega))) i5 b5 h4 h4' (fun If hLf hwf ff ls hls => ?_) _ rfl
  have hz : ∀ m, m < 2 * nd → gN (mS5 g) (57 + 10 * (m / 2) + m % 2) = 8 → thrG (mS5 g) m = 0 := by
    intro m hm hg
    rw [thrG, hg, thr, if_pos rfl]
  refine step_inter b n nr nd np' np' st (thrG (mS5 g)) (mS5 g) (planL (mS4 g) np') ⟨zN_lt hlt _ _ _ hT.1, zN_lt hlt _ _ _ hT.2.1, zN_lt hlt _ _ _ hT.2.2.1, zN_lt hlt _ _ _ hT.2.2.2.1, zN_lt hlt _ _ _ hT.2.2.2.2.1, zN_lt hlt _ _ _ hT.2.2.2.2.2⟩ (zN_s _ _ _) hbn hLf i5 hz hwf h4 h4' (fun Ig hLg fg ls hls => ?_) ls hls
  rw [iX_eq i5 hz _ (Nat.le_refl _), ← e6, ← e7] at hLg
  have g3 : Ig b 3 = nI st := by rw [hLg.1 3 (by decide) (by decide)]; exact i7.2.2.2.1
  have hTg : zN T n (some (.inr (.int, 8))) b = some (.inr (.int, 9)) := zN_lt hlt _ _ _ hT.1
  refine z_pick [0, 1, 2, 3, 4, 5, 6] hls ?_
  refine z_aload_n (q := 845) dL_step_844 rfl rfl rfl ?_
  refine z_iconst (q := 846) (v := nI 3) dL_step_845 (by rfl) rfl ?_
  refine z_dup2 (q := 847) dL_step_846 rfl rfl rfl ?_
  refine z_ialdV (q := 848) _ (by with_reducible assumption) (rfl) (by omega) (by decide) (g3) dL_step_847 rfl ?_
  refine z_iconst (q := 849) (v := nI 1) dL_step_848 (by rfl) rfl ?_
  refine z_iaddE (q := 850) dL_step_849 (nI_add _ _) rfl ?_
  refine z_iast (q := 851) _ (by with_reducible assumption) (rfl) (by omega) (by decide) dL_step_850 rfl ?_
  refine z_forget (T0 := T) (zN_lt hlt _) ?_
  have hfin : LWP (zw Ig b 3 (nI (st + 1))) b np' (mStep g) (planL (mStep g) np') := by
    have h5 := LP_g hLg (c := 3) (nI (st + 1)) (by decide) (by decide)
    rw [p8]
    refine LP_s h5 (fun c _ _ => ?_)
    rw [mStep, show mS7 g 3 = nI st from i7.2.2.2.1, nI_1]
  have hfr : ∀ q, q < b → zw Ig b 3 (nI (st + 1)) q = I q := fun q hq => by
    rw [zw_row _ _ (by omega), fg q (by omega) (by omega) (by omega) (by omega), ff q (by omega), zN_n _ _ (by omega), fe q (by omega), fd q (by omega) (by omega) (by omega), fc q (by omega) (by omega), fb q (by omega), fa q (by omega)]
  exact z_vret rfl dL_step_851 (by decide) (by decide) (⟨rfl, rfl, rfl, ⟨np', W', hH', hfin⟩, hfr, fun q hq => zN_n _ _ (by omega)⟩)

