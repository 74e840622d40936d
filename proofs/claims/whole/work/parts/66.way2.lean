/-! THE CLASS, the shortest way -/
theorem z_orI (a b : Nat) : nI a ||| nI b = nI (a ||| b) := by
  apply Int32.toBitVec_inj.1
  show BitVec.ofNat 32 a ||| BitVec.ofNat 32 b = BitVec.ofNat 32 (a ||| b)
  apply BitVec.eq_of_getLsbD_eq
  intro i hi
  simp [hi]
theorem bitI {w b : Nat} (hw : w < 512) (hb : b < 9) : (nI w >>> (nI b &&& 31)) &&& nI 1 = nI (if w.testBit b = true then 1 else 0) := by
  have h1 : nI w >>> (nI b &&& 31) = nI (w / 2 ^ b) := by
    rcases (show b = 0 ∨ b = 1 ∨ b = 2 ∨ b = 3 ∨ b = 4 ∨ b = 5 ∨ b = 6 ∨ b = 7 ∨ b = 8 by omega) with rfl | rfl | rfl | rfl | rfl | rfl | rfl | rfl | rfl
    all_goals exact pk_shrN (by omega) _ _ (by decide)
  have h2 : w / 2 ^ b ≤ w := Nat.div_le_self _ _
  rw [h1, pk_andN (n := w / 2 ^ b) (m := nI 1) (by omega) 1 (by decide), Nat.testBit_eq_decide_div_mod_eq, show (2 : Nat) ^ 1 = 2 from rfl]
  by_cases h : w / 2 ^ b % 2 = 1
  · rw [h, if_pos (by decide)]
  · rw [if_neg (by rw [decide_eq_true_eq]; exact h), show w / 2 ^ b % 2 = 0 by omega]
theorem shlI {b : Nat} (hb : b < 9) : nI 1 <<< (nI b &&& 31) = nI (2 ^ b) := by
  rcases (show b = 0 ∨ b = 1 ∨ b = 2 ∨ b = 3 ∨ b = 4 ∨ b = 5 ∨ b = 6 ∨ b = 7 ∨ b = 8 by omega) with rfl | rfl | rfl | rfl | rfl | rfl | rfl | rfl | rfl <;> decide
theorem p2_lt {b : Nat} (hb : b < 9) : 2 ^ b < 512 := Nat.pow_lt_pow_right (a := 2) (n := 9) (by decide) hb
theorem gr_lt {nr nd np st : Nat} {g : Nat → Int32} (hI : INV nr nd np st g) {w : Nat} (hw : w < 512) : ∀ m, m ≤ 12 → gr g w m < 512 := by
  intro m
  induction m with
  | zero => intro _; exact hw
  | succ m ih =>
    intro hm
    have h1 := ih (by omega)
    have hs : ∀ s, s < 2 → gN g (57 + 10 * m + s) < 9 := fun s hs => by
      by_cases hn : m < nd
      · obtain ⟨b, hb, hb8, -⟩ := INV_side hI hn hs
        rw [gN_of hb (by omega)]
        omega
      · rw [gN_of (v := 0) (by rw [((hI.2.2.2.2.2.1 m (by omega)).2 (by omega)).1 s (by omega), nI_0]) (by decide)]
        decide
    have o : ∀ u c, u < 512 → c < 9 → u ||| 2 ^ c < 512 := fun u c h1 h2 => Nat.or_lt_two_pow (n := 9) h1 (p2_lt h2)
    rw [gr, gr1]
    split
    · exact h1
    · split
      · refine o _ _ ?_ (hs 0 (by decide))
        split
        · exact o _ _ h1 (hs 1 (by decide))
        · exact h1
      · split
        · exact o _ _ h1 (hs 1 (by decide))
        · exact h1
theorem wk_lt {nr nd np st : Nat} {g : Nat → Int32} (hI : INV nr nd np st g) {r : Nat} (hr : r < 9) : ∀ k, wk g r k < 512 := by
  intro k
  induction k with
  | zero => exact p2_lt hr
  | succ k ih => exact gr_lt hI ih 12 (Nat.le_refl _)
set_option maxRecDepth 100000 in
set_option maxHeartbeats 4000000 in
theorem c_X3_reached (G : zG) {n : Nat} {T : zTT} {I : zII} {R : zRR} (a nr nd np st w : Nat) (g : Nat → Int32) (so sw : Nat → Nat) (hH : z_House T R a) (hG : z_HR I a g so sw) (hI : INV nr nd np st g) (hw : w < 512) : Ct G yX3_reachedThroughOneMoreDoor wsX3_reachedThroughOneMoreDoor (0, 0, 0) [.ref a, .int (nI w)] n T I R (z_ret (some (.int (nI (gr g w 12)))) n T I R) := by
  refine Ct.ofX (M := muX3_reachedThroughOneMoreDoor) (ls := [(0, .ref a), (1, .int (nI w))]) (by decide +kernel) rfl (by decide) rfl rfl (Nat.le_of_ble_eq_true rfl) ?_
  have hTa := hH.1
  obtain ⟨hTad, hRad⟩ := hH.2.2.1
  have loop : ∀ i, i ≤ 12 → ∀ ls : List (Nat × Value), lv_pick ls [0, 1, 2, 3, 4, 5] = [(0, .ref a), (1, .int (nI w)), (2, .int (nI (gr g w i))), (3, .ref (a + 2)), (4, .int (nI 12)), (5, .int (nI i))] → z_X G muX3_reachedThroughOneMoreDoor (0, 0, 0) (z_ret (some (.int (nI (gr g w 12)))) n T I R) n T I R 0 0 14 ls [] := by
    refine z_up (N := 12) _ ?_ ?_
    · intro ls hls
      refine z_pick [0, 1, 2, 3, 4, 5] hls ?_
      refine z_iload (q := 16) (i := 5) dX3_reachedThroughOneMoreDoor_14 rfl rfl ?_
      refine z_iload (q := 18) (i := 4) dX3_reachedThroughOneMoreDoor_16 rfl rfl ?_
      refine z_icmpn_ge (rfl) (rfl) (by omega) (by omega) (tgt := 108) (q := 21) dX3_reachedThroughOneMoreDoor_18 (by decide) rfl (fun _ => ?_) (fun hc => absurd hc (by omega))
      refine z_iload_n (q := 109) dX3_reachedThroughOneMoreDoor_108 rfl rfl rfl ?_
      exact z_iret rfl dX3_reachedThroughOneMoreDoor_109 (Nat.zero_le _) (Nat.zero_le _) (⟨rfl, rfl, rfl, rfl, rfl⟩)
    · intro i hi ih ls hls
      have hRdi := (hH.2.2.2.2.2.2.1 i (by omega)).1
      have hDi := (hH.2.2.2.2.2.2.1 i (by omega)).2
      obtain ⟨hTd, hTd1, hTd2, hTd3, hTd4, hRd0, hRd7, hRd8, hRd9⟩ := id hDi
      have hsd : ∀ s, s < 2 → ∃ b, I (a + 38 + 5 * i + 1) s = nI b ∧ gN g (57 + 10 * i + s) = b ∧ b < 9 := fun s hs => by
        rw [HR_side hG (by omega) hs]
        by_cases hn : i < nd
        · obtain ⟨b, hb, hb8, -⟩ := INV_side hI hn hs
          exact ⟨b, hb, gN_of hb (by omega), by omega⟩
        · have z : g (57 + 10 * i + s) = nI 0 := by rw [((hI.2.2.2.2.2.1 i (by omega)).2 (by omega)).1 s (by omega), nI_0]
          exact ⟨0, z, gN_of z (by decide), by decide⟩
      obtain ⟨sa, ha, ea, ha9⟩ := hsd 0 (by decide)
      obtain ⟨sb, hb, eb, hb9⟩ := hsd 1 (by decide)
      have hop : I (a + 38 + 5 * i) 4 = g (57 + 10 * i + 5) := HR_door hG (by omega) (by decide) (by decide)
      have next : ∀ ls : List (Nat × Value), lv_pick ls [0, 1, 2, 3, 4, 5] = [(0, .ref a), (1, .int (nI w)), (2, .int (nI (gr g w (i + 1)))), (3, .ref (a + 2)), (4, .int (nI 12)), (5, .int (nI i))] → z_X G muX3_reachedThroughOneMoreDoor (0, 0, 0) (z_ret (some (.int (nI (gr g w 12)))) n T I R) n T I R 0 0 102 ls [] := by
        intro ls hls
        refine z_pick [0, 1, 2, 3, 4, 5] hls ?_
        refine z_iinc (q := 105) dX3_reachedThroughOneMoreDoor_102 rfl (nI_add _ 1) (by decide) rfl ?_
        refine z_goto (q := 14) dX3_reachedThroughOneMoreDoor_105 (by decide) ?_
        exact ih _ rfl
      have hgr : gr g w (i + 1) = gr1 g w i (gr g w i) := rfl
      rw [hgr, gr1, ea, eb] at next
      generalize gr g w i = u at next hls ⊢
      refine z_pick [0, 1, 2, 3, 4, 5] hls ?_
      refine z_iload (q := 16) (i := 5) dX3_reachedThroughOneMoreDoor_14 rfl rfl ?_
      refine z_iload (q := 18) (i := 4) dX3_reachedThroughOneMoreDoor_16 rfl rfl ?_
      refine z_icmpn_ge (rfl) (rfl) (by omega) (by omega) (tgt := 108) (q := 21) dX3_reachedThroughOneMoreDoor_18 (by decide) rfl (fun hc => absurd hc (by omega)) (fun _ => ?_)
      refine z_aload_n (q := 22) dX3_reachedThroughOneMoreDoor_21 rfl rfl rfl ?_
      refine z_iload (q := 24) (i := 5) dX3_reachedThroughOneMoreDoor_22 rfl rfl ?_
      refine z_aald (q := 25) _ (by with_reducible assumption) (rfl) (by omega) (by decide) (by with_reducible assumption) dX3_reachedThroughOneMoreDoor_24 rfl ?_
      refine z_astore (q := 27) dX3_reachedThroughOneMoreDoor_25 (by decide) rfl ?_
      refine z_aload (q := 29) dX3_reachedThroughOneMoreDoor_27 rfl rfl ?_
      refine z_getR (q := 32) 0 0 2 14 rfl (by decide) rfl rfl rfl (by with_reducible assumption) (by with_reducible assumption) dX3_reachedThroughOneMoreDoor_29 rfl ?_
      refine z_iconst (q := 33) (v := nI 0) dX3_reachedThroughOneMoreDoor_32 (by rfl) rfl ?_
      refine z_ialdV (q := 34) _ (by with_reducible assumption) (rfl) (by omega) (by decide) (ha) dX3_reachedThroughOneMoreDoor_33 rfl ?_
      refine z_istore (q := 36) dX3_reachedThroughOneMoreDoor_34 (by decide) rfl ?_
      refine z_aload (q := 38) dX3_reachedThroughOneMoreDoor_36 rfl rfl ?_
      refine z_getR (q := 41) 0 0 2 14 rfl (by decide) rfl rfl rfl (by with_reducible assumption) (by with_reducible assumption) dX3_reachedThroughOneMoreDoor_38 rfl ?_
      refine z_iconst (q := 42) (v := nI 1) dX3_reachedThroughOneMoreDoor_41 (by rfl) rfl ?_
      refine z_ialdV (q := 43) _ (by with_reducible assumption) (rfl) (by omega) (by decide) (hb) dX3_reachedThroughOneMoreDoor_42 rfl ?_
      refine z_istore (q := 45) dX3_reachedThroughOneMoreDoor_43 (by decide) rfl ?_
      refine z_aload (q := 47) dX3_reachedThroughOneMoreDoor_45 rfl rfl ?_
      refine z_getI (q := 50) 0 4 3 18 rfl (by decide) rfl rfl rfl (by with_reducible assumption) dX3_reachedThroughOneMoreDoor_47 rfl ?_
      rw [hop]
      refine z_if_le (tgt := 70) (q := 53) dX3_reachedThroughOneMoreDoor_50 (by decide) rfl (fun h50 => ?_) (fun h50 => ?_)
      · rw [if_pos h50] at next
        refine z_aload (q := 72) dX3_reachedThroughOneMoreDoor_70 rfl rfl ?_
        refine z_getI (q := 75) 0 4 3 18 rfl (by decide) rfl rfl rfl (by with_reducible assumption) dX3_reachedThroughOneMoreDoor_72 rfl ?_
        rw [hop]
        refine z_if_le (tgt := 102) (q := 78) dX3_reachedThroughOneMoreDoor_75 (by decide) rfl (fun _ => ?_) (fun hc => False.elim (hc h50))
        exact next _ rfl
      · rw [if_neg h50] at next
        have second : ∀ u1, (if w.testBit sa = true then u ||| 2 ^ sb else u) = u1 → ∀ ls : List (Nat × Value), lv_pick ls [0, 1, 2, 3, 4, 5, 6, 7, 8] = [(0, .ref a), (1, .int (nI w)), (2, .int (nI u1)), (3, .ref (a + 2)), (4, .int (nI 12)), (5, .int (nI i)), (6, .ref (a + 38 + 5 * i)), (7, .int (nI sa)), (8, .int (nI sb))] → z_X G muX3_reachedThroughOneMoreDoor (0, 0, 0) (z_ret (some (.int (nI (gr g w 12)))) n T I R) n T I R 0 0 70 ls [] := by
          intro u1 hu1 ls hls
          rw [hu1] at next
          refine z_pick [0, 1, 2, 3, 4, 5, 6, 7, 8] hls ?_
          refine z_aload (q := 72) dX3_reachedThroughOneMoreDoor_70 rfl rfl ?_
          refine z_getI (q := 75) 0 4 3 18 rfl (by decide) rfl rfl rfl (by with_reducible assumption) dX3_reachedThroughOneMoreDoor_72 rfl ?_
          rw [hop]
          refine z_if_le (tgt := 102) (q := 78) dX3_reachedThroughOneMoreDoor_75 (by decide) rfl (fun hc => False.elim (h50 hc)) (fun _ => ?_)
          refine z_iload_n (q := 79) dX3_reachedThroughOneMoreDoor_78 rfl rfl rfl ?_
          refine z_iload (q := 81) (i := 8) dX3_reachedThroughOneMoreDoor_79 rfl rfl ?_
          refine z_ishr (q := 82) dX3_reachedThroughOneMoreDoor_81 rfl ?_
          refine z_iconst (q := 83) (v := nI 1) dX3_reachedThroughOneMoreDoor_82 (by rfl) rfl ?_
          refine z_iand (q := 84) dX3_reachedThroughOneMoreDoor_83 rfl ?_
          refine z_iconst (q := 85) (v := nI 1) dX3_reachedThroughOneMoreDoor_84 (by rfl) rfl ?_
          rw [bitI hw hb9]
          by_cases hbb : w.testBit sb = true
          · rw [if_pos hbb]
            refine z_icmp_ne (tgt := 102) (q := 88) dX3_reachedThroughOneMoreDoor_85 (by decide) rfl (fun hc => False.elim (hc rfl)) (fun _ => ?_)
            by_cases h8 : sb = 8
            · rw [if_neg (fun z => z.2 h8)] at next
              refine z_iload (q := 90) (i := 8) dX3_reachedThroughOneMoreDoor_88 rfl rfl ?_
              refine z_bipush (q := 92) (v := nI 8) dX3_reachedThroughOneMoreDoor_90 (by rfl) rfl ?_
              refine z_icmpn_eq (rfl) (rfl) (by omega) (by omega) (tgt := 102) (q := 95) dX3_reachedThroughOneMoreDoor_92 (by decide) rfl (fun _ => ?_) (fun hc => absurd hc (by omega))
              exact next _ rfl
            · rw [if_pos ⟨hbb, h8⟩] at next
              refine z_iload (q := 90) (i := 8) dX3_reachedThroughOneMoreDoor_88 rfl rfl ?_
              refine z_bipush (q := 92) (v := nI 8) dX3_reachedThroughOneMoreDoor_90 (by rfl) rfl ?_
              refine z_icmpn_eq (rfl) (rfl) (by omega) (by omega) (tgt := 102) (q := 95) dX3_reachedThroughOneMoreDoor_92 (by decide) rfl (fun hc => absurd hc (by omega)) (fun _ => ?_)
              refine z_iload_n (q := 96) dX3_reachedThroughOneMoreDoor_95 rfl rfl rfl ?_
              refine z_iconst (q := 97) (v := nI 1) dX3_reachedThroughOneMoreDoor_96 (by rfl) rfl ?_
              refine z_iload (q := 99) (i := 7) dX3_reachedThroughOneMoreDoor_97 rfl rfl ?_
              refine z_ishl (q := 100) dX3_reachedThroughOneMoreDoor_99 rfl ?_
              refine z_ior (q := 101) dX3_reachedThroughOneMoreDoor_100 rfl ?_
              rw [shlI ha9, z_orI]
              refine z_istore_n (q := 102) dX3_reachedThroughOneMoreDoor_101 rfl (by decide) rfl ?_
              exact next _ rfl
          · rw [if_neg hbb]
            rw [if_neg (fun z => hbb z.1)] at next
            refine z_icmp_ne (tgt := 102) (q := 88) dX3_reachedThroughOneMoreDoor_85 (by decide) rfl (fun _ => ?_) (fun hc => False.elim ((show ¬ nI 0 = nI 1 by decide) hc))
            exact next _ rfl
        refine z_iload_n (q := 54) dX3_reachedThroughOneMoreDoor_53 rfl rfl rfl ?_
        refine z_iload (q := 56) (i := 7) dX3_reachedThroughOneMoreDoor_54 rfl rfl ?_
        refine z_ishr (q := 57) dX3_reachedThroughOneMoreDoor_56 rfl ?_
        refine z_iconst (q := 58) (v := nI 1) dX3_reachedThroughOneMoreDoor_57 (by rfl) rfl ?_
        refine z_iand (q := 59) dX3_reachedThroughOneMoreDoor_58 rfl ?_
        refine z_iconst (q := 60) (v := nI 1) dX3_reachedThroughOneMoreDoor_59 (by rfl) rfl ?_
        rw [bitI hw ha9]
        by_cases hba : w.testBit sa = true
        · rw [if_pos hba]
          refine z_icmp_ne (tgt := 70) (q := 63) dX3_reachedThroughOneMoreDoor_60 (by decide) rfl (fun hc => False.elim (hc rfl)) (fun _ => ?_)
          refine z_iload_n (q := 64) dX3_reachedThroughOneMoreDoor_63 rfl rfl rfl ?_
          refine z_iconst (q := 65) (v := nI 1) dX3_reachedThroughOneMoreDoor_64 (by rfl) rfl ?_
          refine z_iload (q := 67) (i := 8) dX3_reachedThroughOneMoreDoor_65 rfl rfl ?_
          refine z_ishl (q := 68) dX3_reachedThroughOneMoreDoor_67 rfl ?_
          refine z_ior (q := 69) dX3_reachedThroughOneMoreDoor_68 rfl ?_
          rw [shlI hb9, z_orI]
          refine z_istore_n (q := 70) dX3_reachedThroughOneMoreDoor_69 rfl (by decide) rfl ?_
          exact second _ (if_pos hba) _ rfl
        · rw [if_neg hba]
          refine z_icmp_ne (tgt := 70) (q := 63) dX3_reachedThroughOneMoreDoor_60 (by decide) rfl (fun _ => ?_) (fun hc => False.elim ((show ¬ nI 0 = nI 1 by decide) hc))
          exact second _ (if_neg hba) _ rfl
  refine z_iload_n (q := 1) dX3_reachedThroughOneMoreDoor_0 rfl rfl rfl ?_
  refine z_istore_n (q := 2) dX3_reachedThroughOneMoreDoor_1 rfl (by decide) rfl ?_
  refine z_aload_n (q := 3) dX3_reachedThroughOneMoreDoor_2 rfl rfl rfl ?_
  refine z_getR (q := 6) 3 1 1 5 rfl (by decide) rfl rfl rfl (by with_reducible assumption) (by with_reducible assumption) dX3_reachedThroughOneMoreDoor_3 rfl ?_
  refine z_astore_n (q := 7) dX3_reachedThroughOneMoreDoor_6 rfl (by decide) rfl ?_
  refine z_aload_n (q := 8) dX3_reachedThroughOneMoreDoor_7 rfl rfl rfl ?_
  refine z_alen (q := 9) (by with_reducible assumption) dX3_reachedThroughOneMoreDoor_8 rfl ?_
  refine z_istore (q := 11) dX3_reachedThroughOneMoreDoor_9 (by decide) rfl ?_
  refine z_iconst (q := 12) (v := nI 0) dX3_reachedThroughOneMoreDoor_11 (by rfl) rfl ?_
  refine z_istore (q := 14) dX3_reachedThroughOneMoreDoor_12 (by decide) rfl ?_
  exact loop 0 (by decide) _ rfl
set_option maxRecDepth 100000 in
set_option maxHeartbeats 4000000 in
theorem c_X7_way (G : zG) {n : Nat} {T : zTT} {I : zII} {R : zRR} (x pc y : Nat) (g tx : Nat → Int32) (p : Nat → Nat → Int32) (hS : z_St T R I x g p pc tx y) (v w : Int32) : Ct G yX7_way wsX7_way (2, 0, 0) [.ref x, .int v, .int w] n T I R (z_ret (some (.int (sp_way g v w))) n T I R) := by
  refine Ct.ofX (M := muX7_way) (ls := [(0, .ref x), (1, .int v), (2, .int w)]) (by decide +kernel) rfl (by decide) rfl rfl (Nat.le_of_ble_eq_true rfl) ?_
  have hR := hS.1
  obtain ⟨hTx, hRh, hRa, hRi, hRs, hRt, hTt, hSc⟩ := id hR
  obtain ⟨st, hHs, hst, htl⟩ := id hS.2.1
  obtain ⟨hH, nr, nd, np, F, hI, hG, hP, hF⟩ := id hHs
  have hTh := hH.1
  have hRp := hH.2.2.2.1
  have hTp := hP.1.1
  have hnr := hI.1.2
  have hnd := hI.2.1.2
  have hnp := hI.2.2.1.2
  have c0 : I (x + 1) 4 = nI nr := by rw [(HR_sc hG).1]; exact hI.1.1
  have c1 : I (x + 1) 5 = nI nd := by rw [(HR_sc hG).2.1]; exact hI.2.1.1
  have c3 : I (x + 1) 6 = nI st := by rw [(HR_sc hG).2.2.1]; exact hI.2.2.2.1
  have cs2 : I (x + 1 + 3) 1 = nI np := hP.2.2.2.1
  have h0e : g 0 = nI nr := hI.1.1
  have h1e : g 1 = nI nd := hI.2.1.1
  have h2e : g 2 = nI np := hI.2.2.1.1
  have h3e : g 3 = nI st := hI.2.2.2.1
  have bad : sp_way g v w = -1 → ∀ ls : List (Nat × Value), z_X G muX7_way (2, 0, 0) (z_ret (some (.int (sp_way g v w))) n T I R) n T I R 0 0 19 ls [] := by
    intro hb ls
    rw [hb]
    refine z_iconst (q := 20) (v := (-1)) dX7_way_19 (by rfl) rfl ?_
    exact z_iret rfl dX7_way_20 (Nat.zero_le _) (Nat.zero_le _) (⟨rfl, rfl, rfl, rfl, rfl⟩)
  by_cases hx : v < 0 ∨ nI nr ≤ v
  · refine z_aload_n (q := 1) dX7_way_0 rfl rfl rfl ?_
    refine z_getR (q := 4) 7 0 1 21 rfl (by decide) rfl rfl rfl (by with_reducible assumption) (by with_reducible assumption) dX7_way_1 rfl ?_
    refine z_iload_n (q := 5) dX7_way_4 rfl rfl rfl ?_
    refine z_invV (q := 8) (c_X3_roomAt_n G (x + 1) nr v hH c0 hx) (by with_reducible assumption) rfl gX7_way_X3_roomAt rfl hy_X3_roomAt rfl rfl rfl rfl (Nat.le_of_ble_eq_true rfl) ⟨Nat.zero_le _, Nat.zero_le _⟩ dX7_way_5 rfl (z_rv ?_)
    refine z_ifnullN (q := 19) dX7_way_8 (by decide) ?_
    exact bad (by rw [sp_way, if_pos (by rw [h0e]; exact hx)]) _
  obtain ⟨r, hrn, rfl⟩ : ∃ k, k < nr ∧ v = nI k := by
    rcases pk_ix v (n := nr) (by omega) with z | z | z
    · exact absurd (Or.inl z) hx
    · exact absurd (Or.inr z) hx
    · exact z
  have hvg : ¬ (nI r < 0 ∨ g 0 ≤ nI r) := by rw [h0e]; exact hx
  refine z_aload_n (q := 1) dX7_way_0 rfl rfl rfl ?_
  refine z_getR (q := 4) 7 0 1 21 rfl (by decide) rfl rfl rfl (by with_reducible assumption) (by with_reducible assumption) dX7_way_1 rfl ?_
  refine z_iload_n (q := 5) dX7_way_4 rfl rfl rfl ?_
  refine z_invV (q := 8) (c_X3_roomAt_s G (x + 1) r nr hH c0 hrn hnr) (by with_reducible assumption) rfl gX7_way_X3_roomAt rfl hy_X3_roomAt rfl rfl rfl rfl (Nat.le_of_ble_eq_true rfl) ⟨Nat.zero_le _, Nat.zero_le _⟩ dX7_way_5 rfl (z_rv ?_)
  refine z_ifnull (q := 11) dX7_way_8 rfl ?_
  refine z_aload_n (q := 12) dX7_way_11 rfl rfl rfl ?_
  refine z_iload_n (q := 13) dX7_way_12 rfl rfl rfl ?_
  refine z_invV (q := 16) (c_X7_isRoomOrOutside G x nr w hR hH c0 hnr) (by with_reducible assumption) rfl gX7_way_X7_isRoomOrOutside rfl hy_X7_isRoomOrOutside rfl rfl rfl rfl (Nat.le_of_ble_eq_true rfl) ⟨Nat.zero_le _, Nat.zero_le _⟩ dX7_way_13 rfl (z_rv ?_)
  by_cases hw : (w < 0 ∨ nI nr ≤ w) ∧ ¬ w = nI 8
  · rw [if_pos hw]
    refine z_if_ne (tgt := 21) (q := 19) dX7_way_16 (by decide) rfl (fun hc => False.elim (hc rfl)) (fun _ => ?_)
    exact bad (by rw [sp_way, if_neg hvg, if_pos (by rw [h0e]; exact hw)]) _
  rw [if_neg hw]
  refine z_if_ne (tgt := 21) (q := 19) dX7_way_16 (by decide) rfl (fun _ => ?_) (fun hc => False.elim (z_01 hc))
  obtain ⟨y1, hy9, rfl⟩ : ∃ k, k < 9 ∧ w = nI k := by
    by_cases h8 : w = nI 8
    · exact ⟨8, by decide, h8⟩
    · have hx2 : ¬ (w < 0 ∨ nI nr ≤ w) := fun z => hw ⟨z, h8⟩
      rcases pk_ix w (n := nr) (by omega) with z | z | z
      · exact absurd (Or.inl z) hx2
      · exact absurd (Or.inr z) hx2
      · obtain ⟨k, k1, k2⟩ := z
        exact ⟨k, by omega, k2⟩
  have e : sp_way g (nI r) (nI y1) = wayC g r y1 9 0 := by rw [sp_way, if_neg hvg, if_neg (by rw [h0e]; exact hw), nI_clamp (by omega), nI_clamp (by omega), way_eq hI (by omega) hy9]
  rw [e]
  have loop : ∀ f k, k + f = 9 → wayC g r y1 f k = wayC g r y1 9 0 → ∀ ls : List (Nat × Value), lv_pick ls [0, 1, 2, 3, 4] = [(0, .ref x), (1, .int (nI r)), (2, .int (nI y1)), (3, .int (nI (wk g r k))), (4, .int (nI k))] → z_X G muX7_way (2, 0, 0) (z_ret (some (.int (wayC g r y1 9 0))) n T I R) n T I R 0 0 28 ls [] := by
    intro f
    induction f with
    | zero =>
      intro k hk hE ls hls
      refine z_pick [0, 1, 2, 3, 4] hls ?_
      refine z_iload (q := 30) (i := 4) dX7_way_28 rfl rfl ?_
      refine z_bipush (q := 32) (v := nI 8) dX7_way_30 (by rfl) rfl ?_
      refine z_icmpn_gt (rfl) (rfl) (by omega) (by omega) (tgt := 62) (q := 35) dX7_way_32 (by decide) rfl (fun _ => ?_) (fun hc => absurd hc (by omega))
      refine z_bipush (q := 64) (v := (-4)) dX7_way_62 (by rfl) rfl ?_
      exact z_iret rfl dX7_way_64 (Nat.zero_le _) (Nat.zero_le _) (⟨by rw [← hE]; rfl, rfl, rfl, rfl, rfl⟩)
    | succ f ih =>
      intro k hk hE ls hls
      have hlt := wk_lt hI (r := r) (by omega) k
      rw [wayC] at hE
      refine z_pick [0, 1, 2, 3, 4] hls ?_
      refine z_iload (q := 30) (i := 4) dX7_way_28 rfl rfl ?_
      refine z_bipush (q := 32) (v := nI 8) dX7_way_30 (by rfl) rfl ?_
      refine z_icmpn_gt (rfl) (rfl) (by omega) (by omega) (tgt := 62) (q := 35) dX7_way_32 (by decide) rfl (fun hc => absurd hc (by omega)) (fun _ => ?_)
      refine z_iload_n (q := 36) dX7_way_35 rfl rfl rfl ?_
      refine z_iload_n (q := 37) dX7_way_36 rfl rfl rfl ?_
      refine z_ishr (q := 38) dX7_way_37 rfl ?_
      refine z_iconst (q := 39) (v := nI 1) dX7_way_38 (by rfl) rfl ?_
      refine z_iand (q := 40) dX7_way_39 rfl ?_
      refine z_iconst (q := 41) (v := nI 1) dX7_way_40 (by rfl) rfl ?_
      rw [bitI hlt hy9]
      by_cases hb : (wk g r k).testBit y1 = true
      · rw [if_pos hb]
        rw [if_pos hb] at hE
        refine z_icmp_ne (tgt := 47) (q := 44) dX7_way_41 (by decide) rfl (fun hc => False.elim (hc rfl)) (fun _ => ?_)
        refine z_iload (q := 46) (i := 4) dX7_way_44 rfl rfl ?_
        exact z_iret rfl dX7_way_46 (Nat.zero_le _) (Nat.zero_le _) (⟨by rw [← hE], rfl, rfl, rfl, rfl⟩)
      · rw [if_neg hb]
        rw [if_neg hb] at hE
        refine z_icmp_ne (tgt := 47) (q := 44) dX7_way_41 (by decide) rfl (fun _ => ?_) (fun hc => False.elim ((show ¬ nI 0 = nI 1 by decide) hc))
        refine z_aload_n (q := 48) dX7_way_47 rfl rfl rfl ?_
        refine z_getR (q := 51) 7 0 1 21 rfl (by decide) rfl rfl rfl (by with_reducible assumption) (by with_reducible assumption) dX7_way_48 rfl ?_
        refine z_iload_n (q := 52) dX7_way_51 rfl rfl rfl ?_
        refine z_invV (q := 55) (c_X3_reached G (x + 1) nr nd np st (wk g r k) g _ _ hH hG hI hlt) (by with_reducible assumption) rfl gX7_way_X3_reachedThroughOneMoreDoor rfl hy_X3_reachedThroughOneMoreDoor rfl rfl rfl rfl (Nat.le_of_ble_eq_true rfl) ⟨Nat.zero_le _, Nat.zero_le _⟩ dX7_way_52 rfl (z_rv ?_)
        refine z_istore_n (q := 56) dX7_way_55 rfl (by decide) rfl ?_
        refine z_iinc (q := 59) dX7_way_56 rfl (nI_add _ 1) (by decide) rfl ?_
        refine z_goto (q := 28) dX7_way_59 (by decide) ?_
        exact ih (k + 1) (by omega) hE _ rfl
  refine z_iconst (q := 22) (v := nI 1) dX7_way_21 (by rfl) rfl ?_
  refine z_iload_n (q := 23) dX7_way_22 rfl rfl rfl ?_
  refine z_ishl (q := 24) dX7_way_23 rfl ?_
  rw [shlI (by omega)]
  refine z_istore_n (q := 25) dX7_way_24 rfl (by decide) rfl ?_
  refine z_iconst (q := 26) (v := nI 0) dX7_way_25 (by rfl) rfl ?_
  refine z_istore (q := 28) dX7_way_26 (by decide) rfl ?_
  exact loop 9 0 rfl rfl _ rfl

