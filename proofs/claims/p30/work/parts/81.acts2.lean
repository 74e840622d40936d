/-! THE LAW's acts: doors opened, locked, planned; settings; sounds; entries taken away -/
theorem rsn_0 {g : Nat → Int32} {k : Nat} {t : Int32} (h : rsn g k t ≤ 0) : rsn g k t = 0 := by
  revert h
  rw [rsn]
  split
  · intro h; exact absurd h (by decide)
  · split
    · intro h; exact absurd h (by decide)
    · split
      · intro h; exact absurd h (by decide)
      · intro _; rfl
theorem nI_r {a b k : Nat} (ha : a ≤ k) (hb : k ≤ b) (hb2 : b < 2 ^ 31) : ¬ (nI k < nI a ∨ nI b < nI k) := fun y => y.elim (nI_nlt ha (by omega)) (nI_nlt hb (by omega))
theorem nI_i {k n : Nat} (h : k < n) (hn : n < 2 ^ 31) : ¬ (nI k < 0 ∨ nI n ≤ nI k) := fun y => y.elim (nI_pos (n := k) (by omega)) (fun z => by
  have := (nI_leI hn (by omega)).mp z
  omega)
theorem entR_put (P : Nat → Int32) {i np k : Nat} (v0 v1 v2 v3 v4 : Int32) (hk : k ≤ np) : entR (putR P i np v0 v1 v2 v3 v4) k = insF (entR P) i (v0, v1, v2, v3, v4) k := by
  have e : ∀ w, w < 5 → putR P i np v0 v1 v2 v3 v4 (5 * k + w) = if k < i then P (5 * k + w) else if k = i then (if w = 0 then v0 else if w = 1 then v1 else if w = 2 then v2 else if w = 3 then v3 else v4) else P (5 * (k - 1) + w) := by
    intro w hw
    unfold putR
    by_cases h : k < i
    · rw [if_pos h, upd_n _ _ (by omega), upd_n _ _ (by omega), upd_n _ _ (by omega), upd_n _ _ (by omega), upd_n _ _ (by omega), shR, if_neg (by omega)]
    · rw [if_neg h]
      by_cases h2 : k = i
      · rw [if_pos h2, h2]
        rcases (show w = 0 ∨ w = 1 ∨ w = 2 ∨ w = 3 ∨ w = 4 by omega) with rfl | rfl | rfl | rfl | rfl
        · rw [upd_n _ _ (by omega), upd_n _ _ (by omega), upd_n _ _ (by omega), upd_n _ _ (by omega), Nat.add_zero, upd_s]; rfl
        · rw [upd_n _ _ (by omega), upd_n _ _ (by omega), upd_n _ _ (by omega), upd_s]; rfl
        · rw [upd_n _ _ (by omega), upd_n _ _ (by omega), upd_s]; rfl
        · rw [upd_n _ _ (by omega), upd_s]; rfl
        · rw [upd_s]; rfl
      · rw [if_neg h2, upd_n _ _ (by omega), upd_n _ _ (by omega), upd_n _ _ (by omega), upd_n _ _ (by omega), upd_n _ _ (by omega), shR, if_pos (by omega), show 5 * k + w - 5 = 5 * (k - 1) + w by omega]
  have e0 := e 0 (by decide)
  have e1 := e 1 (by decide)
  have e2 := e 2 (by decide)
  have e3 := e 3 (by decide)
  have e4 := e 4 (by decide)
  unfold insF
  by_cases h : k < i
  · rw [if_pos h] at e0 e1 e2 e3 e4 ⊢
    exact Prod.ext e0 (Prod.ext e1 (Prod.ext e2 (Prod.ext e3 e4)))
  · rw [if_neg h] at e0 e1 e2 e3 e4 ⊢
    by_cases h2 : k = i
    · rw [if_pos h2] at e0 e1 e2 e3 e4 ⊢
      exact Prod.ext e0 (Prod.ext e1 (Prod.ext e2 (Prod.ext e3 e4)))
    · rw [if_neg h2] at e0 e1 e2 e3 e4 ⊢
      exact Prod.ext e0 (Prod.ext e1 (Prod.ext e2 (Prod.ext e3 e4)))
theorem LP_put {I I' : zII} {b np : Nat} {g : Nat → Int32} {t kd wh sp mu : Int32} (hL : LWP I b np g (planL g np)) (h8 : np < 16) (h2 : g 2 = nI np) (h1 : I' b = upd (upd (I b) 2 (nI (np + 1))) 5 (I b 5 + sp * mu)) (hp : I' (b + 4) = putR (I (b + 4)) (posF g t np 0) np t kd wh sp mu) (hf : ∀ q, q ≠ b → q ≠ b + 4 → I' q = I q) : LWP I' b (np + 1) (putG g np t kd wh sp mu) (planL (putG g np t kd wh sp mu) (np + 1)) := by
  have ho : ∀ c, c < 321 → c ≠ 2 → c ≠ 5 → putG g np t kd wh sp mu c = g c := fun c a1 a2 a5 => putG_o h8 (by unfold sc; omega) a5
  unfold LWP
  rw [h1, hp, hf (b + 1) (by omega) (by omega), hf (b + 2) (by omega) (by omega), hf (b + 3) (by omega) (by omega)]
  refine ⟨fun c hc hc2 => ?_, by rw [upd_n _ _ (by decide), upd_s], fun c hc => by rw [ho _ (by omega) (by omega) (by omega)]; exact hL.2.2.1 c hc, fun c hc => by rw [ho _ (by omega) (by omega) (by omega)]; exact hL.2.2.2.1 c hc, fun c hc => by rw [ho _ (by omega) (by omega) (by omega)]; exact hL.2.2.2.2.1 c hc, ?_⟩
  · by_cases c5 : c = 5
    · rw [c5, upd_s, putG_5, hL.1 5 (by decide) (by decide)]
    · rw [upd_n _ _ c5, upd_n _ _ hc2, ho c (by omega) hc2 c5]
      exact hL.1 c hc hc2
  · rw [planL_put h8]
    refine pl_cg (fun k hk => ?_)
    rw [entR_put _ _ _ _ _ _ (by omega)]
    unfold insF
    have hq := pos_le g t np
    split
    · exact LW_ent hL (by omega)
    · split
      · rfl
      · exact LW_ent hL (by omega)
set_option maxRecDepth 100000 in
set_option maxHeartbeats 4000000 in
theorem act_none {G : zG} {n : Nat} {T : zTT} {I : zII} {R : zRR} (x b nr nd np st Bu pc v y S2 B2 : Nat) (W : Int) (z : Int32) (g : Nat → Int32) (p : Nat → Nat → Int32) (hb : b = x + 595) (hT : LT T b) (hS : z_St T R I x g p pc (fun _ => 0) 0) (hL : LWP I b np g (planL g np)) (hH : PH nr nd np st Bu W g) (hst : st ≤ 4000) (hv : v < 10000000) (hS2 : st ≤ S2) (hB2 : Bu ≤ B2) (hnd : nd = 0) : ∀ ls : List (Nat × Value), lv_pick ls [0, 1, 2, 3, 4, 5, 6, 7, 8, 9] = [(0, .ref x), (1, .ref b), (2, .ref (b + 1)), (3, .ref (b + 2)), (4, .ref (b + 3)), (5, .ref (b + 4)), (6, .ref (b + 5)), (7, .int z), (8, .int (nI v)), (9, .int (nI y))] → z_X G muL_acts (6, 6, 54) (actQ n T x b S2 B2) n T I R 0 0 692 ls [] := by
  have hTx := hS.1.1
  have hTg := hT.1
  have hTr := hT.2.1
  have hTd := hT.2.2.1
  have hTy := hT.2.2.2.1
  have hTp := hT.2.2.2.2.1
  have hI := hH.1
  obtain ⟨h4, h4', h8⟩ := hH.2.1
  have g0 : I b 0 = nI nr := by rw [hL.1 0 (by decide) (by decide)]; exact hI.1.1
  have g1 : I b 1 = nI nd := by rw [hL.1 1 (by decide) (by decide)]; exact hI.2.1.1
  have g2 : I b 2 = nI np := hL.2.1
  have g3 : I b 3 = nI st := by rw [hL.1 3 (by decide) (by decide)]; exact hI.2.2.2.1
  subst hnd
  have h1 : nI 0 < 0 ∨ g 1 ≤ nI 0 := Or.inr (by rw [hI.2.1.1]; exact nI_le (Nat.le_refl _) (by omega))
  intro ls hls
  refine z_pick [0, 1, 2, 3, 4, 5, 6, 7, 8, 9] hls ?_
  refine z_aload_n (q := 693) dL_acts_692 rfl rfl rfl ?_
  refine z_iconst (q := 694) (v := nI 0) dL_acts_693 (by rfl) rfl ?_
  refine z_iconst (q := 695) (v := nI 1) dL_acts_694 (by rfl) rfl ?_
  refine z_invV (q := 698) (call_none (c_X7_open G x pc 0 g (fun _ => 0) p hS (nI 0) (nI 1)) (if_pos h1)) (by with_reducible assumption) rfl gL_acts_X7_open rfl hy_X7_open rfl rfl rfl rfl (Nat.le_of_ble_eq_true rfl) ⟨Nat.zero_le _, Nat.zero_le _⟩ dL_acts_695 rfl (z_rvR fun I2 R2 hZ => ?_)
  refine z_iconst (q := 699) (v := (-1)) dL_acts_698 (by rfl) rfl ?_
  obtain ⟨hSa, hfa⟩ := hZ
  have hLa := LP_x hb hL hfa
  refine z_icmp_ne (tgt := 729) (q := 702) dL_acts_699 (by decide) rfl (fun hc => False.elim (hc rfl)) (fun _ => ?_)
  refine z_aload_n (q := 703) dL_acts_702 rfl rfl rfl ?_
  refine z_iconst (q := 704) (v := nI 0) dL_acts_703 (by rfl) rfl ?_
  refine z_iconst (q := 705) (v := nI 1) dL_acts_704 (by rfl) rfl ?_
  refine z_invV (q := 708) (call_none (c_X7_lock G x pc 0 g (fun _ => 0) p hSa (nI 0) (nI 1)) (if_pos h1)) (by with_reducible assumption) rfl gL_acts_X7_lock rfl hy_X7_lock rfl rfl rfl rfl (Nat.le_of_ble_eq_true rfl) ⟨Nat.zero_le _, Nat.zero_le _⟩ dL_acts_705 rfl (z_rvR fun I3 R3 hZ => ?_)
  refine z_iconst (q := 709) (v := (-1)) dL_acts_708 (by rfl) rfl ?_
  obtain ⟨hSb, hfb⟩ := hZ
  have hLb := LP_x hb hLa hfb
  refine z_icmp_ne (tgt := 729) (q := 712) dL_acts_709 (by decide) rfl (fun hc => False.elim (hc rfl)) (fun _ => ?_)
  have g3b : I3 b 3 = nI st := by rw [hLb.1 3 (by decide) (by decide)]; exact hI.2.2.2.1
  refine z_aload_n (q := 713) dL_acts_712 rfl rfl rfl ?_
  refine z_iconst (q := 714) (v := nI 0) dL_acts_713 (by rfl) rfl ?_
  refine z_aload_n (q := 715) dL_acts_714 rfl rfl rfl ?_
  refine z_iconst (q := 716) (v := nI 3) dL_acts_715 (by rfl) rfl ?_
  refine z_ialdV (q := 717) _ (by with_reducible assumption) (rfl) (by omega) (by decide) (g3b) dL_acts_716 rfl ?_
  refine z_iconst (q := 718) (v := nI 1) dL_acts_717 (by rfl) rfl ?_
  refine z_invV (q := 721) (call_none (c_X7_planDoor G x pc 0 g (fun _ => 0) p hSb (nI 0) (nI st) (nI 1)) (if_pos h1)) (by with_reducible assumption) rfl gL_acts_X7_planDoor rfl hy_X7_planDoor rfl rfl rfl rfl (Nat.le_of_ble_eq_true rfl) ⟨Nat.zero_le _, Nat.zero_le _⟩ dL_acts_718 rfl (z_rvR fun I4 R4 hZ => ?_)
  refine z_iconst (q := 722) (v := (-1)) dL_acts_721 (by rfl) rfl ?_
  obtain ⟨hSc, hfc⟩ := hZ
  refine z_icmp_ne (tgt := 729) (q := 725) dL_acts_722 (by decide) rfl (fun hc => False.elim (hc rfl)) (fun _ => ?_)
  refine z_iconst (q := 726) (v := nI 1) dL_acts_725 (by rfl) rfl ?_
  refine z_goto (q := 730) dL_acts_726 (by decide) ?_
  exact z_zret rfl (by rfl) dL_acts_730 (by decide) (by decide) (⟨by rw [zI1], Nat.le_refl _, rfl, g, p, pc, nr, 0, np, st, W, hSc, LP_x hb hLb hfc, PH_mono hH hB2, hS2⟩)
set_option maxRecDepth 100000 in
set_option maxHeartbeats 4000000 in
theorem act_open {G : zG} {n : Nat} {T : zTT} {I : zII} {R : zRR} (x b nr nd np st Bu pc v y S2 B2 : Nat) (W : Int) (z : Int32) (g : Nat → Int32) (p : Nat → Nat → Int32) (hb : b = x + 595) (hT : LT T b) (hS : z_St T R I x g p pc (fun _ => 0) 0) (hL : LWP I b np g (planL g np)) (hH : PH nr nd np st Bu W g) (hst : st ≤ 4000) (hv : v < 10000000) (hS2 : st ≤ S2) (hB2 : Bu ≤ B2) {a k t : Nat} (hk : k < nd) (ht : t ≤ 10) : ∀ ls : List (Nat × Value), lv_pick ls [0, 1, 2, 3, 4, 5, 6, 7, 8, 9, 10, 11, 12] = [(0, .ref x), (1, .ref b), (2, .ref (b + 1)), (3, .ref (b + 2)), (4, .ref (b + 3)), (5, .ref (b + 4)), (6, .ref (b + 5)), (7, .int z), (8, .int (nI v)), (9, .int (nI y)), (10, .int (nI a)), (11, .int (nI k)), (12, .int (nI t))] → z_X G muL_acts (6, 6, 54) (actQ n T x b S2 B2) n T I R 0 0 755 ls [] := by
  have hTx := hS.1.1
  have hTg := hT.1
  have hTr := hT.2.1
  have hTd := hT.2.2.1
  have hTy := hT.2.2.2.1
  have hTp := hT.2.2.2.2.1
  have hI := hH.1
  obtain ⟨h4, h4', h8⟩ := hH.2.1
  have g0 : I b 0 = nI nr := by rw [hL.1 0 (by decide) (by decide)]; exact hI.1.1
  have g1 : I b 1 = nI nd := by rw [hL.1 1 (by decide) (by decide)]; exact hI.2.1.1
  have g2 : I b 2 = nI np := hL.2.1
  have g3 : I b 3 = nI st := by rw [hL.1 3 (by decide) (by decide)]; exact hI.2.2.2.1
  obtain ⟨da, dc, ar, sp, de, o, tt, l, ⟨q1, q1'⟩, ⟨q2, q2'⟩, q3, q4, q5, q6, ⟨q7, q7'⟩, ⟨q8, q8'⟩, ⟨q9, q9'⟩⟩ := (hI.2.2.2.2.2.1 k (by omega)).1 hk
  have ho : I (b + 2) (10 * k + 5) = nI o := by rw [LW_d hL (by omega) (by decide)]; exact q7
  have htt : I (b + 2) (10 * k + 6) = nI tt := by rw [LW_d hL (by omega) (by decide)]; exact q8
  have hl : I (b + 2) (10 * k + 7) = nI l := by rw [LW_d hL (by omega) (by decide)]; exact q9
  have hkc : (nI k).toNatClampNeg = k := nI_clamp (by omega)
  have hx1 : ¬ (nI k < 0 ∨ g 1 ≤ nI k) := by rw [hI.2.1.1]; exact nI_i hk (by omega)
  obtain ⟨s7, hs7, hs7'⟩ := hH.2.2.2.2.2.1
  have hsp0 : sp_open g (nI k) (nI t) = openQ g k (nI t) := by rw [sp_open, if_neg hx1, if_neg (nI_r (Nat.zero_le _) ht (by omega)), hkc]
  intro ls hls
  refine z_pick [0, 1, 2, 3, 4, 5, 6, 7, 8, 9, 10, 11, 12] hls ?_
  refine z_aload_n (q := 756) dL_acts_755 rfl rfl rfl ?_
  refine z_bipush (q := 758) (v := nI 10) dL_acts_756 (by rfl) rfl ?_
  refine z_iload (q := 760) (i := 11) dL_acts_758 rfl rfl ?_
  refine z_imulE (q := 761) dL_acts_760 (pk_mul _ _) rfl ?_
  refine z_bipush (q := 763) (v := nI 6) dL_acts_761 (by rfl) rfl ?_
  refine z_iaddE (q := 764) dL_acts_763 (nI_add _ _) rfl ?_
  refine z_ialdV (q := 765) _ (by with_reducible assumption) (rfl) (by omega) (by decide) (htt) dL_acts_764 rfl ?_
  refine z_istore (q := 767) dL_acts_765 (by decide) rfl ?_
  refine z_aload_n (q := 768) dL_acts_767 rfl rfl rfl ?_
  refine z_aload_n (q := 769) dL_acts_768 rfl rfl rfl ?_
  refine z_aload_n (q := 770) dL_acts_769 rfl rfl rfl ?_
  refine z_iload (q := 772) (i := 11) dL_acts_770 rfl rfl ?_
  refine z_iload (q := 774) (i := 12) dL_acts_772 rfl rfl ?_
  refine z_invS (q := 777) (c_L_refused G b nr nd np np st k t s7 g hT (planL g np) hL hI h4 h4' hk ht hs7 hs7') gL_acts_L_refused rfl hy_L_refused rfl rfl rfl rfl (Nat.le_of_ble_eq_true rfl) ⟨Nat.zero_le _, Nat.zero_le _⟩ dL_acts_774 rfl (z_rv ?_)
  refine z_if_le (tgt := 799) (q := 780) dL_acts_777 (by decide) rfl (fun h777 => ?_) (fun h777 => ?_)
  · have h0 := rsn_0 h777
    have hsp : sp_open g (nI k) (nI t) = (nI tt, some (upd g (57 + 10 * k + 6) (nI t))) := by rw [hsp0, openQ, if_pos h0, q8]
    have l1 := LP_d hL (c := 10 * k + 6) (nI t) (by omega)
    have s1 : z_St T R (zw I (b + 2) (10 * k + 6) (nI t)) x g p pc (fun _ => 0) 0 := St_f hS (fun q j1 j2 => ⟨zw_row _ _ (by omega), rfl⟩)
    refine z_aload_n (q := 800) dL_acts_799 rfl rfl rfl ?_
    refine z_bipush (q := 802) (v := nI 10) dL_acts_800 (by rfl) rfl ?_
    refine z_iload (q := 804) (i := 11) dL_acts_802 rfl rfl ?_
    refine z_imulE (q := 805) dL_acts_804 (pk_mul _ _) rfl ?_
    refine z_bipush (q := 807) (v := nI 6) dL_acts_805 (by rfl) rfl ?_
    refine z_iaddE (q := 808) dL_acts_807 (nI_add _ _) rfl ?_
    refine z_iload (q := 810) (i := 12) dL_acts_808 rfl rfl ?_
    refine z_iast (q := 811) _ (by with_reducible assumption) (rfl) (by omega) (by decide) dL_acts_810 rfl ?_
    generalize zw I (b + 2) (10 * k + 6) (nI t) = I1 at l1 s1
    refine z_aload_n (q := 812) dL_acts_811 rfl rfl rfl ?_
    refine z_iload (q := 814) (i := 11) dL_acts_812 rfl rfl ?_
    refine z_iload (q := 816) (i := 12) dL_acts_814 rfl rfl ?_
    refine z_invV (q := 819) (call_some (c_X7_open G x pc 0 g (fun _ => 0) p s1 (nI k) (nI t)) hsp) (by with_reducible assumption) rfl gL_acts_X7_open rfl hy_X7_open rfl rfl rfl rfl (Nat.le_of_ble_eq_true rfl) ⟨Nat.zero_le _, Nat.zero_le _⟩ dL_acts_816 rfl (z_rvR fun I2 R2 hZ => ?_)
    refine z_iload (q := 821) (i := 13) dL_acts_819 rfl rfl ?_
    obtain ⟨hSa, hfa⟩ := hZ
    refine z_icmp_ne (tgt := 828) (q := 824) dL_acts_821 (by decide) rfl (fun hc => False.elim (hc rfl)) (fun _ => ?_)
    refine z_iconst (q := 825) (v := nI 1) dL_acts_824 (by rfl) rfl ?_
    refine z_goto (q := 829) dL_acts_825 (by decide) ?_
    have e : ∀ c, c ≠ 57 + 10 * k + 6 → upd g (57 + 10 * k + 6) (nI t) c = g c := fun c hc => upd_n _ _ hc
    have hp : planL (upd g (57 + 10 * k + 6) (nI t)) np = planL g np := planL_congr (fun j hj => ent_congr (fun i j1 j2 => e i (by omega)))
    have l2 : LWP I2 b np (upd g (57 + 10 * k + 6) (nI t)) (planL (upd g (57 + 10 * k + 6) (nI t)) np) := by
      rw [hp]
      rw [← Nat.add_assoc] at l1
      exact LP_x hb l1 hfa
    exact z_zret rfl (by rfl) dL_acts_829 (by decide) (by decide) (⟨by rw [zI1], Nat.le_refl _, rfl, _, _, _, nr, nd, np, st, W, hSa, l2, PH_mono (PH_alike hH (INV_open hI hk ht) ⟨s7, by rw [e 7 (by omega)]; exact hs7, hs7'⟩ (fun c _ _ hc => e c (hc k (by omega)).1)) hB2, hS2⟩)
  · have h0 : ¬ rsn g k (nI t) = 0 := fun z => h777 (by rw [z]; decide)
    have hsp : sp_open g (nI k) (nI t) = (-2, none) := by rw [hsp0, openQ, if_neg h0]
    refine z_aload_n (q := 781) dL_acts_780 rfl rfl rfl ?_
    refine z_iload (q := 783) (i := 11) dL_acts_781 rfl rfl ?_
    refine z_iload (q := 785) (i := 12) dL_acts_783 rfl rfl ?_
    refine z_invV (q := 788) (call_none (c_X7_open G x pc 0 g (fun _ => 0) p hS (nI k) (nI t)) hsp) (by with_reducible assumption) rfl gL_acts_X7_open rfl hy_X7_open rfl rfl rfl rfl (Nat.le_of_ble_eq_true rfl) ⟨Nat.zero_le _, Nat.zero_le _⟩ dL_acts_785 rfl (z_rvR fun I2 R2 hZ => ?_)
    refine z_bipush (q := 790) (v := (-2)) dL_acts_788 (by rfl) rfl ?_
    obtain ⟨hSa, hfa⟩ := hZ
    refine z_icmp_ne (tgt := 797) (q := 793) dL_acts_790 (by decide) rfl (fun hc => False.elim (hc rfl)) (fun _ => ?_)
    refine z_iconst (q := 794) (v := nI 1) dL_acts_793 (by rfl) rfl ?_
    refine z_goto (q := 798) dL_acts_794 (by decide) ?_
    exact z_zret rfl (by rfl) dL_acts_798 (by decide) (by decide) (⟨by rw [zI1], Nat.le_refl _, rfl, g, p, pc, nr, nd, np, st, W, hSa, LP_x hb hL hfa, PH_mono hH hB2, hS2⟩)
set_option maxRecDepth 100000 in
set_option maxHeartbeats 4000000 in
theorem act_lock {G : zG} {n : Nat} {T : zTT} {I : zII} {R : zRR} (x b nr nd np st Bu pc v y S2 B2 : Nat) (W : Int) (z : Int32) (g : Nat → Int32) (p : Nat → Nat → Int32) (hb : b = x + 595) (hT : LT T b) (hS : z_St T R I x g p pc (fun _ => 0) 0) (hL : LWP I b np g (planL g np)) (hH : PH nr nd np st Bu W g) (hst : st ≤ 4000) (hv : v < 10000000) (hS2 : st ≤ S2) (hB2 : Bu ≤ B2) {a k t : Nat} (hk : k < nd) : ∀ ls : List (Nat × Value), lv_pick ls [0, 1, 2, 3, 4, 5, 6, 7, 8, 9, 10, 11, 12] = [(0, .ref x), (1, .ref b), (2, .ref (b + 1)), (3, .ref (b + 2)), (4, .ref (b + 3)), (5, .ref (b + 4)), (6, .ref (b + 5)), (7, .int z), (8, .int (nI v)), (9, .int (nI y)), (10, .int (nI a)), (11, .int (nI k)), (12, .int (nI t))] → z_X G muL_acts (6, 6, 54) (actQ n T x b S2 B2) n T I R 0 0 837 ls [] := by
  have hTx := hS.1.1
  have hTg := hT.1
  have hTr := hT.2.1
  have hTd := hT.2.2.1
  have hTy := hT.2.2.2.1
  have hTp := hT.2.2.2.2.1
  have hI := hH.1
  obtain ⟨h4, h4', h8⟩ := hH.2.1
  have g0 : I b 0 = nI nr := by rw [hL.1 0 (by decide) (by decide)]; exact hI.1.1
  have g1 : I b 1 = nI nd := by rw [hL.1 1 (by decide) (by decide)]; exact hI.2.1.1
  have g2 : I b 2 = nI np := hL.2.1
  have g3 : I b 3 = nI st := by rw [hL.1 3 (by decide) (by decide)]; exact hI.2.2.2.1
  obtain ⟨da, dc, ar, sp, de, o, tt, l, ⟨q1, q1'⟩, ⟨q2, q2'⟩, q3, q4, q5, q6, ⟨q7, q7'⟩, ⟨q8, q8'⟩, ⟨q9, q9'⟩⟩ := (hI.2.2.2.2.2.1 k (by omega)).1 hk
  have ho : I (b + 2) (10 * k + 5) = nI o := by rw [LW_d hL (by omega) (by decide)]; exact q7
  have htt : I (b + 2) (10 * k + 6) = nI tt := by rw [LW_d hL (by omega) (by decide)]; exact q8
  have hl : I (b + 2) (10 * k + 7) = nI l := by rw [LW_d hL (by omega) (by decide)]; exact q9
  have hkc : (nI k).toNatClampNeg = k := nI_clamp (by omega)
  have hx1 : ¬ (nI k < 0 ∨ g 1 ≤ nI k) := by rw [hI.2.1.1]; exact nI_i hk (by omega)
  obtain ⟨s7, hs7, hs7'⟩ := hH.2.2.2.2.2.1
  have hon : v / 4 % 2 ≤ 1 := by omega
  have hsp0 : sp_lock g (nI k) (nI (v / 4 % 2)) = lockQ g k (nI (v / 4 % 2)) := by rw [sp_lock, if_neg hx1, if_neg (nI_r (Nat.zero_le _) hon (by omega)), hkc]
  intro ls hls
  refine z_pick [0, 1, 2, 3, 4, 5, 6, 7, 8, 9, 10, 11, 12] hls ?_
  refine z_iload (q := 839) (i := 8) dL_acts_837 rfl rfl ?_
  refine z_iconst (q := 840) (v := nI 4) dL_acts_839 (by rfl) rfl ?_
  refine z_idivE (q := 841) dL_acts_840 (by decide) (pk_div (by omega) (by decide) (by decide)) rfl ?_
  refine z_iconst (q := 842) (v := nI 2) dL_acts_841 (by rfl) rfl ?_
  refine z_iremE (q := 843) dL_acts_842 (by decide) (pk_rem (by omega) (by decide) (by decide)) rfl ?_
  refine z_istore (q := 845) dL_acts_843 (by decide) rfl ?_
  refine z_aload_n (q := 846) dL_acts_845 rfl rfl rfl ?_
  refine z_bipush (q := 848) (v := nI 10) dL_acts_846 (by rfl) rfl ?_
  refine z_iload (q := 850) (i := 11) dL_acts_848 rfl rfl ?_
  refine z_imulE (q := 851) dL_acts_850 (pk_mul _ _) rfl ?_
  refine z_bipush (q := 853) (v := nI 7) dL_acts_851 (by rfl) rfl ?_
  refine z_iaddE (q := 854) dL_acts_853 (nI_add _ _) rfl ?_
  refine z_ialdV (q := 855) _ (by with_reducible assumption) (rfl) (by omega) (by decide) (hl) dL_acts_854 rfl ?_
  refine z_iload (q := 857) (i := 13) dL_acts_855 rfl rfl ?_
  generalize v / 4 % 2 = on at hon hsp0
  refine z_icmpn_ne (rfl) (rfl) (by omega) (by omega) (tgt := 879) (q := 860) dL_acts_857 (by decide) rfl (fun h857 => ?_) (fun h857 => ?_)
  · have hsp : sp_lock g (nI k) (nI on) = (nI o, some (upd (upd g (57 + 10 * k + 7) (nI on)) (57 + 10 * k + 6) (if nI on = 1 then g (57 + 10 * k + 5) else g (57 + 10 * k + 6)))) := by
      rw [hsp0, lockQ, q9, if_neg (fun z => h857 ((nI_eq (by omega) (by omega)).mp z)), q7]
    have e : ∀ c, c ≠ 57 + 10 * k + 6 → c ≠ 57 + 10 * k + 7 → upd (upd g (57 + 10 * k + 7) (nI on)) (57 + 10 * k + 6) (if nI on = 1 then g (57 + 10 * k + 5) else g (57 + 10 * k + 6)) c = g c := fun c h1 h2 => by rw [upd_n _ _ h1, upd_n _ _ h2]
    have hp : planL (upd (upd g (57 + 10 * k + 7) (nI on)) (57 + 10 * k + 6) (if nI on = 1 then g (57 + 10 * k + 5) else g (57 + 10 * k + 6))) np = planL g np := planL_congr (fun j hj => ent_congr (fun i j1 j2 => e i (by omega) (by omega)))
    have hI2 := INV_lock hI hk hon
    have hPH := PH_mono (PH_alike hH hI2 ⟨s7, by rw [e 7 (by omega) (by omega)]; exact hs7, hs7'⟩ (fun c _ _ hc => e c (hc k (by omega)).1 (hc k (by omega)).2)) hB2
    have next : ∀ w : Int32, w = (if nI on = 1 then g (57 + 10 * k + 5) else g (57 + 10 * k + 6)) → ∀ ls : List (Nat × Value), lv_pick ls [0, 1, 2, 3, 4, 5, 6, 7, 8, 9, 10, 11, 12, 13] = [(0, .ref x), (1, .ref b), (2, .ref (b + 1)), (3, .ref (b + 2)), (4, .ref (b + 3)), (5, .ref (b + 4)), (6, .ref (b + 5)), (7, .int z), (8, .int (nI v)), (9, .int (nI y)), (10, .int (nI a)), (11, .int (nI k)), (12, .int (nI t)), (13, .int (nI on))] → z_X G muL_acts (6, 6, 54) (actQ n T x b S2 B2) n T (zw I (b + 2) (10 * k + 7) (nI on)) R 0 0 928 ls [.int w, .int (nI (10 * k + 6)), .ref (b + 2)] := by
      intro w hw ls hls
      have l1 := LP_d (LP_d hL (c := 10 * k + 7) (nI on) (by omega)) (c := 10 * k + 6) w (by omega)
      rw [hw] at l1 ⊢
      have s1 : z_St T R (zw (zw I (b + 2) (10 * k + 7) (nI on)) (b + 2) (10 * k + 6) (if nI on = 1 then g (57 + 10 * k + 5) else g (57 + 10 * k + 6))) x g p pc (fun _ => 0) 0 := St_f hS (fun q j1 j2 => ⟨(zw_row _ _ (by omega)).trans (zw_row _ _ (by omega)), rfl⟩)
      have ho1 : zw (zw I (b + 2) (10 * k + 7) (nI on)) (b + 2) (10 * k + 6) (if nI on = 1 then g (57 + 10 * k + 5) else g (57 + 10 * k + 6)) (b + 2) (10 * k + 5) = nI o := by rw [zw_k _ _ (by omega), zw_k _ _ (by omega)]; exact ho
      refine z_pick [0, 1, 2, 3, 4, 5, 6, 7, 8, 9, 10, 11, 12, 13] hls ?_
      refine z_iast (q := 929) _ (by with_reducible assumption) (rfl) (by omega) (by decide) dL_acts_928 rfl ?_
      generalize zw (zw I (b + 2) (10 * k + 7) (nI on)) (b + 2) (10 * k + 6) (if nI on = 1 then g (57 + 10 * k + 5) else g (57 + 10 * k + 6)) = I1 at l1 s1 ho1
      refine z_aload_n (q := 930) dL_acts_929 rfl rfl rfl ?_
      refine z_iload (q := 932) (i := 11) dL_acts_930 rfl rfl ?_
      refine z_iload (q := 934) (i := 13) dL_acts_932 rfl rfl ?_
      refine z_invV (q := 937) (call_some (c_X7_lock G x pc 0 g (fun _ => 0) p s1 (nI k) (nI on)) hsp) (by with_reducible assumption) rfl gL_acts_X7_lock rfl hy_X7_lock rfl rfl rfl rfl (Nat.le_of_ble_eq_true rfl) ⟨Nat.zero_le _, Nat.zero_le _⟩ dL_acts_934 rfl (z_rvR fun I2 R2 hZ => ?_)
      obtain ⟨hSa, hfa⟩ := hZ
      have ho2 : I2 (b + 2) (10 * k + 5) = nI o := by rw [(hfa (b + 2) (Or.inr (by omega))).1]; exact ho1
      refine z_aload_n (q := 938) dL_acts_937 rfl rfl rfl ?_
      refine z_bipush (q := 940) (v := nI 10) dL_acts_938 (by rfl) rfl ?_
      refine z_iload (q := 942) (i := 11) dL_acts_940 rfl rfl ?_
      refine z_imulE (q := 943) dL_acts_942 (pk_mul _ _) rfl ?_
      refine z_iconst (q := 944) (v := nI 5) dL_acts_943 (by rfl) rfl ?_
      refine z_iaddE (q := 945) dL_acts_944 (nI_add _ _) rfl ?_
      refine z_ialdV (q := 946) _ (by with_reducible assumption) (rfl) (by omega) (by decide) (ho2) dL_acts_945 rfl ?_
      refine z_icmp_ne (tgt := 953) (q := 949) dL_acts_946 (by decide) rfl (fun hc => False.elim (hc rfl)) (fun _ => ?_)
      refine z_iconst (q := 950) (v := nI 1) dL_acts_949 (by rfl) rfl ?_
      refine z_goto (q := 954) dL_acts_950 (by decide) ?_
      rw [← Nat.add_assoc, ← Nat.add_assoc] at l1
      have l2 := LP_x hb l1 hfa
      rw [← hp] at l2
      exact z_zret rfl (by rfl) dL_acts_954 (by decide) (by decide) (⟨by rw [zI1], Nat.le_refl _, rfl, _, _, _, nr, nd, np, st, W, hSa, l2, hPH, hS2⟩)
    have ho' : zw I (b + 2) (10 * k + 7) (nI on) (b + 2) (10 * k + 5) = g (57 + 10 * k + 5) := by rw [zw_k _ _ (by omega), LW_d hL (by omega) (by decide)]
    have ht' : zw I (b + 2) (10 * k + 7) (nI on) (b + 2) (10 * k + 6) = g (57 + 10 * k + 6) := by rw [zw_k _ _ (by omega), LW_d hL (by omega) (by decide)]
    refine z_aload_n (q := 880) dL_acts_879 rfl rfl rfl ?_
    refine z_bipush (q := 882) (v := nI 10) dL_acts_880 (by rfl) rfl ?_
    refine z_iload (q := 884) (i := 11) dL_acts_882 rfl rfl ?_
    refine z_imulE (q := 885) dL_acts_884 (pk_mul _ _) rfl ?_
    refine z_bipush (q := 887) (v := nI 7) dL_acts_885 (by rfl) rfl ?_
    refine z_iaddE (q := 888) dL_acts_887 (nI_add _ _) rfl ?_
    refine z_iload (q := 890) (i := 13) dL_acts_888 rfl rfl ?_
    refine z_iast (q := 891) _ (by with_reducible assumption) (rfl) (by omega) (by decide) dL_acts_890 rfl ?_
    refine z_aload_n (q := 892) dL_acts_891 rfl rfl rfl ?_
    refine z_bipush (q := 894) (v := nI 10) dL_acts_892 (by rfl) rfl ?_
    refine z_iload (q := 896) (i := 11) dL_acts_894 rfl rfl ?_
    refine z_imulE (q := 897) dL_acts_896 (pk_mul _ _) rfl ?_
    refine z_bipush (q := 899) (v := nI 6) dL_acts_897 (by rfl) rfl ?_
    refine z_iaddE (q := 900) dL_acts_899 (nI_add _ _) rfl ?_
    refine z_iload (q := 902) (i := 13) dL_acts_900 rfl rfl ?_
    refine z_iconst (q := 903) (v := nI 1) dL_acts_902 (by rfl) rfl ?_
    refine z_icmpn_ne (rfl) (rfl) (by omega) (by omega) (tgt := 918) (q := 906) dL_acts_903 (by decide) rfl (fun h903 => ?_) (fun h903 => ?_)
    · refine z_aload_n (q := 919) dL_acts_918 rfl rfl rfl ?_
      refine z_bipush (q := 921) (v := nI 10) dL_acts_919 (by rfl) rfl ?_
      refine z_iload (q := 923) (i := 11) dL_acts_921 rfl rfl ?_
      refine z_imulE (q := 924) dL_acts_923 (pk_mul _ _) rfl ?_
      refine z_bipush (q := 926) (v := nI 6) dL_acts_924 (by rfl) rfl ?_
      refine z_iaddE (q := 927) dL_acts_926 (nI_add _ _) rfl ?_
      refine z_ialdV (q := 928) _ (by with_reducible assumption) (rfl) (by omega) (by decide) (ht') dL_acts_927 rfl ?_
      exact next _ (by rw [if_neg (fun z => h903 ((nI_eq (by omega) (by omega)).mp (by rw [zI1]; exact z)))]) _ rfl
    · refine z_aload_n (q := 907) dL_acts_906 rfl rfl rfl ?_
      refine z_bipush (q := 909) (v := nI 10) dL_acts_907 (by rfl) rfl ?_
      refine z_iload (q := 911) (i := 11) dL_acts_909 rfl rfl ?_
      refine z_imulE (q := 912) dL_acts_911 (pk_mul _ _) rfl ?_
      refine z_iconst (q := 913) (v := nI 5) dL_acts_912 (by rfl) rfl ?_
      refine z_iaddE (q := 914) dL_acts_913 (nI_add _ _) rfl ?_
      refine z_ialdV (q := 915) _ (by with_reducible assumption) (rfl) (by omega) (by decide) (ho') dL_acts_914 rfl ?_
      refine z_goto (q := 928) dL_acts_915 (by decide) ?_
      exact next _ (by rw [h903, if_pos zI1]) _ rfl
  · have hsp : sp_lock g (nI k) (nI on) = (-2, none) := by rw [hsp0, lockQ, if_pos (by rw [q9, h857])]
    refine z_aload_n (q := 861) dL_acts_860 rfl rfl rfl ?_
    refine z_iload (q := 863) (i := 11) dL_acts_861 rfl rfl ?_
    refine z_iload (q := 865) (i := 13) dL_acts_863 rfl rfl ?_
    refine z_invV (q := 868) (call_none (c_X7_lock G x pc 0 g (fun _ => 0) p hS (nI k) (nI on)) hsp) (by with_reducible assumption) rfl gL_acts_X7_lock rfl hy_X7_lock rfl rfl rfl rfl (Nat.le_of_ble_eq_true rfl) ⟨Nat.zero_le _, Nat.zero_le _⟩ dL_acts_865 rfl (z_rvR fun I2 R2 hZ => ?_)
    refine z_bipush (q := 870) (v := (-2)) dL_acts_868 (by rfl) rfl ?_
    obtain ⟨hSa, hfa⟩ := hZ
    refine z_icmp_ne (tgt := 877) (q := 873) dL_acts_870 (by decide) rfl (fun hc => False.elim (hc rfl)) (fun _ => ?_)
    refine z_iconst (q := 874) (v := nI 1) dL_acts_873 (by rfl) rfl ?_
    refine z_goto (q := 878) dL_acts_874 (by decide) ?_
    exact z_zret rfl (by rfl) dL_acts_878 (by decide) (by decide) (⟨by rw [zI1], Nat.le_refl _, rfl, g, p, pc, nr, nd, np, st, W, hSa, LP_x hb hL hfa, PH_mono hH hB2, hS2⟩)

