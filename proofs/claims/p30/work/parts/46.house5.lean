/-! THE CLASS, a house goes on: targets, doors, sounds -/
abbrev z_fa (a : Nat) (I I' : zII) : Prop := ∀ q, q < a ∨ a + 98 ≤ q → I' q = I q
theorem fa_w {a : Nat} {I I' : zII} {q0 k : Nat} {v : Int32} (h : z_fa a I I') (hq : a ≤ q0 ∧ q0 < a + 98) : z_fa a I (zw I' q0 k v) := fun q g => (zw_row _ _ (by omega)).trans (h q g)
theorem fa_t {a : Nat} {I I' I2 : zII} (h : z_fa a I I') (h2 : z_fa a I' I2) : z_fa a I I2 := fun q g => (h2 q g).trans (h q g)
theorem pl_s (F : Nat → zE) (n : Nat) : pl F (n + 1) = pl F n ++ [F n] := by simp [pl, List.range_succ]
theorem aimL_s (t : Int32) (g : Nat → Int32) (F : Nat → zE) (i : Nat) : aimL t g (pl F (i + 1)) = aimE t (aimL t g (pl F i)) (F i) := by
  rw [pl_s, aimL, List.foldl_append]
  rfl
theorem giveL_s (t : Int32) (g : Nat → Int32) (F : Nat → zE) (i : Nat) : giveL t g (pl F (i + 1)) = giveE t (giveL t g (pl F i)) (F i) := by
  rw [pl_s, giveL, List.foldl_append]
  rfl
theorem aimL_n (t : Int32) {j : Nat} (hj : ∀ x : Nat, j ≠ 57 + 10 * x + 6) : ∀ (l : List zE) (h : Nat → Int32), aimL t h l j = h j
  | [], _ => rfl
  | e :: l, h => by
    show aimL t (aimE t h e) l j = h j
    rw [aimL_n t hj l, aimE]
    split
    · exact upd_n _ _ (hj _)
    · rfl
theorem giveL_n (t : Int32) {j : Nat} (hj : ∀ x : Nat, j ≠ 9 + 6 * x + 2 ∧ j ≠ 9 + 6 * x + 4) : ∀ (l : List zE) (h : Nat → Int32), giveL t h l j = h j
  | [], _ => rfl
  | e :: l, h => by
    show giveL t (giveE t h e) l j = h j
    rw [giveL_n t hj l, giveE]
    split
    · rw [upd_n _ _ (hj _).2, upd_n _ _ (hj _).1]
    · rfl
theorem z_e00 {I : zII} {a : Nat} : (entC I a).2.1 = nI 1 ↔ I a 0 = 0 := by
  unfold entC
  by_cases h : I a 0 = 0
  · simp [h]
  · simp only [h, if_false, iff_false]
    decide
theorem z_n01 : ¬ nI 0 = 1 := by decide
theorem z_n10 : ¬ nI 1 = 0 := by decide
theorem z_n100 : ¬ nI 1 = nI 0 := by decide
set_option maxRecDepth 100000 in
set_option maxHeartbeats 4000000 in
theorem c_X3_aimPlannedDoors (G : zG) {n : Nat} {T : zTT} {I : zII} {R : zRR} (a nr nd np st : Nat) (F : Nat → zE) (g : Nat → Int32) (so sw : Nat → Nat) (hH : z_House T R a) (hG : z_HR I a g so sw) (hP : z_P T I R (a + 3) np F) (h1 : g 1 = nI nd) (hnd : nd ≤ 12) (h3 : g 3 = nI st) (hE : ∀ k, k < np → EOK nr nd st (F k)) (hl : ∀ d, d < nd → g (57 + 10 * d + 7) = 0 ∨ g (57 + 10 * d + 7) = 1) : Ct G yX3_aimPlannedDoors wsX3_aimPlannedDoors (1, 0, 0) [.ref a] n T I R (z_rel none n T (fun I' R' => R' = R ∧ z_HR I' a (aimL (nI st) g (pl F np)) so sw ∧ z_P T I' R (a + 3) np F ∧ z_fa a I I')) := by
  refine Ct.ofX (M := muX3_aimPlannedDoors) (ls := [(0, .ref a)]) (by decide +kernel) rfl (by decide) rfl rfl (Nat.le_of_ble_eq_true rfl) ?_
  have hTa := hH.1
  have hTp := hP.1.1
  have hRp := hH.2.2.2.1
  have hnp := hP.2.2.1
  refine z_iconst (q := 1) (v := nI 0) dX3_aimPlannedDoors_0 (by rfl) rfl ?_
  refine z_istore_n (q := 2) dX3_aimPlannedDoors_1 rfl (by decide) rfl ?_
  have loop : ∀ i, i ≤ np → ∀ I2, z_HR I2 a (aimL (nI st) g (pl F i)) so sw → z_P T I2 R (a + 3) np F → z_fa a I I2 → ∀ ls : List (Nat × Value), lv_pick ls [0, 1] = [(0, .ref a), (1, .int (nI i))] → z_X G muX3_aimPlannedDoors (1, 0, 0) (z_rel none n T (fun I' R' => R' = R ∧ z_HR I' a (aimL (nI st) g (pl F np)) so sw ∧ z_P T I' R (a + 3) np F ∧ z_fa a I I')) n T I2 R 0 0 2 ls [] := by
    refine z_up (N := np) _ ?_ ?_
    · intro I2 hG2 hP2 f2 ls hls
      have hs2 := hP2.2.2.2.1
      refine z_pick [0, 1] hls ?_
      refine z_iload_n (q := 3) dX3_aimPlannedDoors_2 rfl rfl rfl ?_
      refine z_aload_n (q := 4) dX3_aimPlannedDoors_3 rfl rfl rfl ?_
      refine z_getR (q := 7) 3 2 1 36 rfl (by decide) rfl rfl rfl (by with_reducible assumption) (by with_reducible assumption) dX3_aimPlannedDoors_4 rfl ?_
      refine z_getV (q := 10) 4 1 2 45 rfl (by decide) rfl rfl rfl (by with_reducible assumption) (hs2) dX3_aimPlannedDoors_7 rfl ?_
      refine z_icmpn_ge (rfl) (rfl) (by omega) (by omega) (tgt := 64) (q := 13) dX3_aimPlannedDoors_10 (by decide) rfl (fun _ => ?_) (fun hc => absurd hc (by omega))
      exact z_vret rfl dX3_aimPlannedDoors_64 (Nat.zero_le _) (Nat.zero_le _) (⟨rfl, rfl, rfl, rfl, hG2, hP2, f2⟩)
    · intro i hi ih I2 hG2 hP2 f2 ls hls
      have hs2 := hP2.2.2.2.1
      have hTe := z_eT hP2 (show i < 16 by omega)
      have hFi : entC I2 (eAt R (a + 3) i) = F i := hP2.2.2.2.2.2 i hi
      have c1 : I2 a 5 = nI nd := by rw [(HR_sc hG2).2.1, aimL_n _ (fun x => by omega)]; exact h1
      have c3 : I2 a 6 = nI st := by rw [(HR_sc hG2).2.2.1, aimL_n _ (fun x => by omega)]; exact h3
      refine z_pick [0, 1] hls ?_
      refine z_iload_n (q := 3) dX3_aimPlannedDoors_2 rfl rfl rfl ?_
      refine z_aload_n (q := 4) dX3_aimPlannedDoors_3 rfl rfl rfl ?_
      refine z_getR (q := 7) 3 2 1 36 rfl (by decide) rfl rfl rfl (by with_reducible assumption) (by with_reducible assumption) dX3_aimPlannedDoors_4 rfl ?_
      refine z_getV (q := 10) 4 1 2 45 rfl (by decide) rfl rfl rfl (by with_reducible assumption) (hs2) dX3_aimPlannedDoors_7 rfl ?_
      refine z_icmpn_ge (rfl) (rfl) (by omega) (by omega) (tgt := 64) (q := 13) dX3_aimPlannedDoors_10 (by decide) rfl (fun hc => absurd hc (by omega)) (fun _ => ?_)
      refine z_aload_n (q := 14) dX3_aimPlannedDoors_13 rfl rfl rfl ?_
      refine z_getR (q := 17) 3 2 1 36 rfl (by decide) rfl rfl rfl (by with_reducible assumption) (by with_reducible assumption) dX3_aimPlannedDoors_14 rfl ?_
      refine z_iload_n (q := 18) dX3_aimPlannedDoors_17 rfl rfl rfl ?_
      refine z_invV (q := 21) (c_X4_entryAt_s G (a + 3) np i F hP2 hi) (by with_reducible assumption) rfl gX3_aimPlannedDoors_X4_entryAt rfl hy_X4_entryAt rfl rfl rfl rfl (Nat.le_of_ble_eq_true rfl) ⟨Nat.zero_le _, Nat.zero_le _⟩ dX3_aimPlannedDoors_18 rfl (z_rv ?_)
      refine z_astore_n (q := 22) dX3_aimPlannedDoors_21 rfl (by decide) rfl ?_
      refine z_aload_n (q := 23) dX3_aimPlannedDoors_22 rfl rfl rfl ?_
      refine z_ifnull (q := 26) dX3_aimPlannedDoors_23 rfl ?_
      refine z_aload_n (q := 27) dX3_aimPlannedDoors_26 rfl rfl rfl ?_
      refine z_aload_n (q := 28) dX3_aimPlannedDoors_27 rfl rfl rfl ?_
      refine z_getV (q := 31) 3 6 3 40 rfl (by decide) rfl rfl rfl (by with_reducible assumption) (c3) dX3_aimPlannedDoors_28 rfl ?_
      refine z_invV (q := 34) (c_X1_isTargetFor G (eAt R (a + 3) i) (nI st) hTe) (by with_reducible assumption) rfl gX3_aimPlannedDoors_X1_isTargetFor rfl hy_X1_isTargetFor rfl rfl rfl rfl (Nat.le_of_ble_eq_true rfl) ⟨Nat.zero_le _, Nat.zero_le _⟩ dX3_aimPlannedDoors_31 rfl (z_rv ?_)
      obtain ⟨f, kd, wh, sp, mu, he, hf, hc⟩ := hE i hi
      by_cases hT : I2 (eAt R (a + 3) i) 0 = 0 ∧ I2 (eAt R (a + 3) i) 1 = nI st
      · rw [if_pos hT]
        refine z_if_eq (tgt := 58) (q := 37) dX3_aimPlannedDoors_34 (by decide) rfl (fun hc => False.elim (absurd hc (by decide))) (fun _ => ?_)
        have hte : isTe (nI st) (F i) := by
          refine ⟨?_, ?_⟩
          · rw [← hFi]; exact z_e00.mpr hT.1
          · rw [← hFi]; exact hT.2
        have hkd : kd = 1 := by
          rcases hc with ⟨z, -⟩ | ⟨z, -⟩
          · exfalso
            have := hte.1
            rw [he, z] at this
            exact z_n01 this
          · exact z
        have hwh : wh < nd := by
          rcases hc with ⟨z, -⟩ | ⟨-, z, -⟩
          · omega
          · exact z
        have k2 : I2 (eAt R (a + 3) i) 2 = nI wh := by
          have := congrArg (fun z : zE => z.2.2.1) (hFi.trans he)
          exact this
        have k4 : I2 (eAt R (a + 3) i) 4 = nI mu := by
          have := congrArg (fun z : zE => z.2.2.2.2) (hFi.trans he)
          exact this
        have hDw := (hH.2.2.2.2.2.2.1 wh (by omega)).2
        have hTw := hDw.1
        refine z_aload_n (q := 38) dX3_aimPlannedDoors_37 rfl rfl rfl ?_
        refine z_aload_n (q := 39) dX3_aimPlannedDoors_38 rfl rfl rfl ?_
        refine z_getV (q := 42) 1 2 4 48 rfl (by decide) rfl rfl rfl (by with_reducible assumption) (k2) dX3_aimPlannedDoors_39 rfl ?_
        refine z_invV (q := 45) (c_X3_doorAt_s G a wh nd hH c1 hwh hnd) (by with_reducible assumption) rfl gX3_aimPlannedDoors_X3_doorAt rfl hy_X3_doorAt rfl rfl rfl rfl (Nat.le_of_ble_eq_true rfl) ⟨Nat.zero_le _, Nat.zero_le _⟩ dX3_aimPlannedDoors_42 rfl (z_rv ?_)
        refine z_astore_n (q := 46) dX3_aimPlannedDoors_45 rfl (by decide) rfl ?_
        refine z_aload_n (q := 47) dX3_aimPlannedDoors_46 rfl rfl rfl ?_
        refine z_ifnull (q := 50) dX3_aimPlannedDoors_47 rfl ?_
        refine z_aload_n (q := 51) dX3_aimPlannedDoors_50 rfl rfl rfl ?_
        refine z_aload_n (q := 52) dX3_aimPlannedDoors_51 rfl rfl rfl ?_
        refine z_getV (q := 55) 1 4 5 50 rfl (by decide) rfl rfl rfl (by with_reducible assumption) (k4) dX3_aimPlannedDoors_52 rfl ?_
        refine z_invV (q := 58) (c_X0_aimAt G (a + 38 + 5 * wh) (nI mu) hDw) (by with_reducible assumption) rfl gX3_aimPlannedDoors_X0_aimAt rfl hy_X0_aimAt rfl rfl rfl rfl (Nat.le_of_ble_eq_true rfl) ⟨Nat.zero_le _, Nat.zero_le _⟩ dX3_aimPlannedDoors_55 rfl (z_rn ?_)
        refine z_iinc (q := 61) dX3_aimPlannedDoors_58 rfl (nI_add _ 1) (by decide) rfl ?_
        refine z_goto (q := 2) dX3_aimPlannedDoors_61 (by decide) ?_
        refine ih _ ?_ (z_P_f hP2 (fun q g1 g2 => aim_f q (by omega)) (fun _ _ _ => rfl)) (fun q hq => (aim_f q (by omega)).trans (f2 q hq)) _ rfl
        rw [aimL_s, aimE, if_pos hte, he]
        show z_HR _ a (upd _ (57 + 10 * (nI wh).toNatClampNeg + 6) (if _ = 1 then _ else nI mu)) so sw
        rw [nI_clamp (by omega)]
        exact HR_aim hG2 (by omega) _ (by rw [aimL_n _ (fun x => by omega)]; exact hl wh hwh)
      · rw [if_neg hT]
        refine z_if_eq (tgt := 58) (q := 37) dX3_aimPlannedDoors_34 (by decide) rfl (fun _ => ?_) (fun hc => False.elim (absurd rfl hc))
        refine z_iinc (q := 61) dX3_aimPlannedDoors_58 rfl (nI_add _ 1) (by decide) rfl ?_
        refine z_goto (q := 2) dX3_aimPlannedDoors_61 (by decide) ?_
        refine ih I2 ?_ hP2 f2 _ rfl
        rw [aimL_s, aimE, if_neg]
        · exact hG2
        · intro z
          rw [← hFi] at z
          exact hT ⟨z_e00.mp z.1, z.2⟩
  exact loop 0 (Nat.zero_le _) I hG hP (fun _ _ => rfl) _ rfl
theorem he_nat {f kd wh sp mu st : Nat} (hf : f ≤ 5000) (hs : sp ≤ 20) (h1 : 1 ≤ sp) (hst : st < 100000) : heE (nI st) (nI f, nI kd, nI wh, nI sp, nI mu) ↔ (nI kd = 0 ∧ f ≤ st ∧ st < f + sp) := by
  show (nI kd = 0 ∧ ¬ nI st < nI f ∧ ¬ nI f + nI sp - 1 < nI st) ↔ _
  rw [nI_add, show f + sp = (f + sp - 1) + 1 by omega, nI_pred, nI_ltI (by omega) (by omega), nI_ltI (by omega) (by omega)]
  constructor
  · rintro ⟨a, b, c⟩; exact ⟨a, by omega, by omega⟩
  · rintro ⟨a, b, c⟩; exact ⟨a, by omega, by omega⟩
theorem hc_nat {f kd wh sp mu st : Nat} (hf : f ≤ 5000) (hs : sp ≤ 20) (hst : st < 100000) : hcC (nI st) (nI f, nI kd, nI wh, nI sp, nI mu) ↔ (nI kd = 0 ∧ f ≤ st ∧ st < f + sp) := by
  show (nI kd = nI 0 ∧ ¬ nI st < nI f ∧ nI st < nI f + nI sp) ↔ _
  rw [nI_add, nI_0, nI_ltI (by omega) (by omega), nI_ltI (by omega) (by omega), Nat.not_lt]
theorem EOK_he {nr nd st : Nat} {e : zE} (h : EOK nr nd st e) (hst : st < 100000) : heE (nI st) e ↔ hcC (nI st) e := by
  obtain ⟨f, kd, wh, sp, mu, rfl, hf, hc⟩ := h
  rcases hc with ⟨-, -, h1, h2, -⟩ | ⟨rfl, -⟩
  · rw [he_nat hf h2 h1 hst, hc_nat hf h2 hst]
  · constructor
    · rintro ⟨z, -⟩; exact (z_n10 z).elim
    · rintro ⟨z, -⟩; exact (z_n100 z).elim
theorem hcC_w {I : zII} {a : Nat} {t : Int32} : (if I a 0 = 0 ∨ t < I a 1 ∨ I a 1 + I a 3 ≤ t then (0 : Int32) else 1) = if hcC t (entC I a) then 1 else 0 := by
  by_cases h : I a 0 = 0 ∨ t < I a 1 ∨ I a 1 + I a 3 ≤ t
  · rw [if_pos h, if_neg (fun z => z_hcC.mp z h)]
  · rw [if_neg h, if_pos (z_hcC.mpr h)]
set_option maxRecDepth 100000 in
set_option maxHeartbeats 4000000 in
theorem c_X3_giveSounds (G : zG) {n : Nat} {T : zTT} {I : zII} {R : zRR} (a nr nd np st : Nat) (F : Nat → zE) (g : Nat → Int32) (so sw : Nat → Nat) (hH : z_House T R a) (hG : z_HR I a g so sw) (hP : z_P T I R (a + 3) np F) (h0 : g 0 = nI nr) (hnr : nr ≤ 8) (h3 : g 3 = nI st) (hst : st < 100000) (hE : ∀ k, k < np → EOK nr nd st (F k)) : Ct G yX3_giveSounds wsX3_giveSounds (1, 0, 0) [.ref a] n T I R (z_rel none n T (fun I' R' => R' = R ∧ z_HR I' a (giveL (nI st) g (pl F np)) so sw ∧ z_P T I' R (a + 3) np F ∧ z_fa a I I')) := by
  refine Ct.ofX (M := muX3_giveSounds) (ls := [(0, .ref a)]) (by decide +kernel) rfl (by decide) rfl rfl (Nat.le_of_ble_eq_true rfl) ?_
  have hTa := hH.1
  have hTp := hP.1.1
  have hRp := hH.2.2.2.1
  have hnp := hP.2.2.1
  refine z_iconst (q := 1) (v := nI 0) dX3_giveSounds_0 (by rfl) rfl ?_
  refine z_istore_n (q := 2) dX3_giveSounds_1 rfl (by decide) rfl ?_
  have loop : ∀ i, i ≤ np → ∀ I2, z_HR I2 a (giveL (nI st) g (pl F i)) so sw → z_P T I2 R (a + 3) np F → z_fa a I I2 → ∀ ls : List (Nat × Value), lv_pick ls [0, 1] = [(0, .ref a), (1, .int (nI i))] → z_X G muX3_giveSounds (1, 0, 0) (z_rel none n T (fun I' R' => R' = R ∧ z_HR I' a (giveL (nI st) g (pl F np)) so sw ∧ z_P T I' R (a + 3) np F ∧ z_fa a I I')) n T I2 R 0 0 2 ls [] := by
    refine z_up (N := np) _ ?_ ?_
    · intro I2 hG2 hP2 f2 ls hls
      have hs2 := hP2.2.2.2.1
      refine z_pick [0, 1] hls ?_
      refine z_iload_n (q := 3) dX3_giveSounds_2 rfl rfl rfl ?_
      refine z_aload_n (q := 4) dX3_giveSounds_3 rfl rfl rfl ?_
      refine z_getR (q := 7) 3 2 1 37 rfl (by decide) rfl rfl rfl (by with_reducible assumption) (by with_reducible assumption) dX3_giveSounds_4 rfl ?_
      refine z_getV (q := 10) 4 1 2 46 rfl (by decide) rfl rfl rfl (by with_reducible assumption) (hs2) dX3_giveSounds_7 rfl ?_
      refine z_icmpn_ge (rfl) (rfl) (by omega) (by omega) (tgt := 64) (q := 13) dX3_giveSounds_10 (by decide) rfl (fun _ => ?_) (fun hc => absurd hc (by omega))
      exact z_vret rfl dX3_giveSounds_64 (Nat.zero_le _) (Nat.zero_le _) (⟨rfl, rfl, rfl, rfl, hG2, hP2, f2⟩)
    · intro i hi ih I2 hG2 hP2 f2 ls hls
      have hs2 := hP2.2.2.2.1
      have hTe := z_eT hP2 (show i < 16 by omega)
      have hFi : entC I2 (eAt R (a + 3) i) = F i := hP2.2.2.2.2.2 i hi
      have c0 : I2 a 4 = nI nr := by rw [(HR_sc hG2).1, giveL_n _ (fun x => by omega)]; exact h0
      have c3 : I2 a 6 = nI st := by rw [(HR_sc hG2).2.2.1, giveL_n _ (fun x => by omega)]; exact h3
      refine z_pick [0, 1] hls ?_
      refine z_iload_n (q := 3) dX3_giveSounds_2 rfl rfl rfl ?_
      refine z_aload_n (q := 4) dX3_giveSounds_3 rfl rfl rfl ?_
      refine z_getR (q := 7) 3 2 1 37 rfl (by decide) rfl rfl rfl (by with_reducible assumption) (by with_reducible assumption) dX3_giveSounds_4 rfl ?_
      refine z_getV (q := 10) 4 1 2 46 rfl (by decide) rfl rfl rfl (by with_reducible assumption) (hs2) dX3_giveSounds_7 rfl ?_
      refine z_icmpn_ge (rfl) (rfl) (by omega) (by omega) (tgt := 64) (q := 13) dX3_giveSounds_10 (by decide) rfl (fun hc => absurd hc (by omega)) (fun _ => ?_)
      refine z_aload_n (q := 14) dX3_giveSounds_13 rfl rfl rfl ?_
      refine z_getR (q := 17) 3 2 1 37 rfl (by decide) rfl rfl rfl (by with_reducible assumption) (by with_reducible assumption) dX3_giveSounds_14 rfl ?_
      refine z_iload_n (q := 18) dX3_giveSounds_17 rfl rfl rfl ?_
      refine z_invV (q := 21) (c_X4_entryAt_s G (a + 3) np i F hP2 hi) (by with_reducible assumption) rfl gX3_giveSounds_X4_entryAt rfl hy_X4_entryAt rfl rfl rfl rfl (Nat.le_of_ble_eq_true rfl) ⟨Nat.zero_le _, Nat.zero_le _⟩ dX3_giveSounds_18 rfl (z_rv ?_)
      refine z_astore_n (q := 22) dX3_giveSounds_21 rfl (by decide) rfl ?_
      refine z_aload_n (q := 23) dX3_giveSounds_22 rfl rfl rfl ?_
      refine z_ifnull (q := 26) dX3_giveSounds_23 rfl ?_
      refine z_aload_n (q := 27) dX3_giveSounds_26 rfl rfl rfl ?_
      refine z_aload_n (q := 28) dX3_giveSounds_27 rfl rfl rfl ?_
      refine z_getV (q := 31) 3 6 3 41 rfl (by decide) rfl rfl rfl (by with_reducible assumption) (c3) dX3_giveSounds_28 rfl ?_
      refine z_invV (q := 34) (c_X1_isHeardIn G (eAt R (a + 3) i) (nI st) hTe) (by with_reducible assumption) rfl gX3_giveSounds_X1_isHeardIn rfl hy_X1_isHeardIn rfl rfl rfl rfl (Nat.le_of_ble_eq_true rfl) ⟨Nat.zero_le _, Nat.zero_le _⟩ dX3_giveSounds_31 rfl (z_rv ?_)
      rw [hcC_w, hFi]
      have hEi := hE i hi
      obtain ⟨f, kd, wh, sp, mu, he, hf, hc⟩ := id hEi
      by_cases hT : hcC (nI st) (F i)
      · rw [if_pos hT]
        refine z_if_eq (tgt := 58) (q := 37) dX3_giveSounds_34 (by decide) rfl (fun hc => False.elim (absurd hc (by decide))) (fun _ => ?_)
        have hte : heE (nI st) (F i) := (EOK_he hEi hst).mpr hT
        have hwh : wh < nr := by
          rcases hc with ⟨-, z, -⟩ | ⟨z, -⟩
          · exact z
          · exfalso
            have := hte.1
            rw [he, z] at this
            exact z_n10 this
        have k2 : I2 (eAt R (a + 3) i) 2 = nI wh := by
          have := congrArg (fun z : zE => z.2.2.1) (hFi.trans he)
          exact this
        have k4 : I2 (eAt R (a + 3) i) 4 = nI mu := by
          have := congrArg (fun z : zE => z.2.2.2.2) (hFi.trans he)
          exact this
        have hRw := (hH.2.2.2.2.2.1 wh (by omega)).2
        have hTw := hRw.1
        refine z_aload_n (q := 38) dX3_giveSounds_37 rfl rfl rfl ?_
        refine z_aload_n (q := 39) dX3_giveSounds_38 rfl rfl rfl ?_
        refine z_getV (q := 42) 1 2 4 49 rfl (by decide) rfl rfl rfl (by with_reducible assumption) (k2) dX3_giveSounds_39 rfl ?_
        refine z_invV (q := 45) (c_X3_roomAt_s G a wh nr hH c0 hwh hnr) (by with_reducible assumption) rfl gX3_giveSounds_X3_roomAt rfl hy_X3_roomAt rfl rfl rfl rfl (Nat.le_of_ble_eq_true rfl) ⟨Nat.zero_le _, Nat.zero_le _⟩ dX3_giveSounds_42 rfl (z_rv ?_)
        refine z_astore_n (q := 46) dX3_giveSounds_45 rfl (by decide) rfl ?_
        refine z_aload_n (q := 47) dX3_giveSounds_46 rfl rfl rfl ?_
        refine z_ifnull (q := 50) dX3_giveSounds_47 rfl ?_
        refine z_aload_n (q := 51) dX3_giveSounds_50 rfl rfl rfl ?_
        refine z_aload_n (q := 52) dX3_giveSounds_51 rfl rfl rfl ?_
        refine z_getV (q := 55) 1 4 5 51 rfl (by decide) rfl rfl rfl (by with_reducible assumption) (k4) dX3_giveSounds_52 rfl ?_
        refine z_invV (q := 58) (c_X5_hear G (a + 22 + 2 * wh) (nI mu) hRw) (by with_reducible assumption) rfl gX3_giveSounds_X5_hear rfl hy_X5_hear rfl rfl rfl rfl (Nat.le_of_ble_eq_true rfl) ⟨Nat.zero_le _, Nat.zero_le _⟩ dX3_giveSounds_55 rfl (z_rn ?_)
        refine z_iinc (q := 61) dX3_giveSounds_58 rfl (nI_add _ 1) (by decide) rfl ?_
        refine z_goto (q := 2) dX3_giveSounds_61 (by decide) ?_
        refine ih _ ?_ (z_P_f hP2 (fun q g1 g2 => by rw [zw_row _ _ (by omega), zw_row _ _ (by omega)]) (fun _ _ _ => rfl)) (fa_w (fa_w f2 (by omega)) (by omega)) _ rfl
        rw [giveL_s, giveE, if_pos hte, he]
        show z_HR _ a (upd (upd _ (9 + 6 * (nI wh).toNatClampNeg + 2) (_ + nI mu)) (9 + 6 * (nI wh).toNatClampNeg + 4) (_ + nI mu)) so sw
        rw [nI_clamp (by omega), ← HR_room hG2 (r := wh) (w := 2) (by omega) (by decide), ← HR_room hG2 (r := wh) (w := 4) (by omega) (by decide)]
        exact HRw_room (HRw_room hG2 _ (by omega) (by decide)) _ (by omega) (by decide)
      · rw [if_neg hT]
        refine z_if_eq (tgt := 58) (q := 37) dX3_giveSounds_34 (by decide) rfl (fun _ => ?_) (fun hc => False.elim (absurd rfl hc))
        refine z_iinc (q := 61) dX3_giveSounds_58 rfl (nI_add _ 1) (by decide) rfl ?_
        refine z_goto (q := 2) dX3_giveSounds_61 (by decide) ?_
        refine ih I2 ?_ hP2 f2 _ rfl
        rw [giveL_s, giveE, if_neg (fun z => hT ((EOK_he hEi hst).mp z))]
        exact hG2
  exact loop 0 (Nat.zero_le _) I hG hP (fun _ _ => rfl) _ rfl
theorem mv_cls : ∀ o t sp : Nat, o < 11 → t < 11 → sp < 11 → (if nI t ≤ nI o then (if nI t < nI o - nI sp then nI o - nI sp else nI t) else (if nI o + nI sp < nI t then nI o + nI sp else nI t)) = nI o + (if nI sp < nI t - nI o then nI sp else if nI t - nI o < - nI sp then - nI sp else nI t - nI o) ∧ (nI o < nI o + (if nI sp < nI t - nI o then nI sp else if nI t - nI o < - nI sp then - nI sp else nI t - nI o) ↔ 0 < (if nI sp < nI t - nI o then nI sp else if nI t - nI o < - nI sp then - nI sp else nI t - nI o)) := by
  have h : (List.range 11).all (fun o => (List.range 11).all (fun t => (List.range 11).all (fun sp => decide ((if nI t ≤ nI o then (if nI t < nI o - nI sp then nI o - nI sp else nI t) else (if nI o + nI sp < nI t then nI o + nI sp else nI t)) = nI o + (if nI sp < nI t - nI o then nI sp else if nI t - nI o < - nI sp then - nI sp else nI t - nI o) ∧ (nI o < nI o + (if nI sp < nI t - nI o then nI sp else if nI t - nI o < - nI sp then - nI sp else nI t - nI o) ↔ 0 < (if nI sp < nI t - nI o then nI sp else if nI t - nI o < - nI sp then - nI sp else nI t - nI o)))))) = true := by decide +kernel
  intro o t sp h1 h2 h3
  have a := List.all_eq_true.mp h o (List.mem_range.mpr h1)
  have b := List.all_eq_true.mp a t (List.mem_range.mpr h2)
  have c := List.all_eq_true.mp b sp (List.mem_range.mpr h3)
  exact of_decide_eq_true c
theorem hrN_congr {g h : Nat → Int32} {x : Int32} : ∀ {n : Nat}, g 3 = h 3 → (∀ k, k < n → ent g k = ent h k) → hrN g x n = hrN h x n := by
  intro n h3 he
  unfold hrN
  refine sumI_congr (fun k hk => ?_)
  have e := he k hk
  have e0 : g (321 + 5 * k + 0) = h (321 + 5 * k + 0) := congrArg (fun z : zE => z.1) e
  have e1 : g (321 + 5 * k + 1) = h (321 + 5 * k + 1) := congrArg (fun z : zE => z.2.1) e
  have e2 : g (321 + 5 * k + 2) = h (321 + 5 * k + 2) := congrArg (fun z : zE => z.2.2.1) e
  have e4 : g (321 + 5 * k + 3) = h (321 + 5 * k + 3) := congrArg (fun z : zE => z.2.2.2.1) e
  unfold hrd
  rw [e0, e1, e2, e4, h3]
set_option maxRecDepth 100000 in
set_option maxHeartbeats 4000000 in
theorem c_X3_moveDoors (G : zG) {n : Nat} {T : zTT} {I : zII} {R : zRR} (a nr nd np np2 st : Nat) (F : Nat → zE) (g : Nat → Int32) (so sw : Nat → Nat) (hH : z_House T R a) (hG : z_HR I a g so sw) (hP : z_P T I R (a + 3) np F) (hI : INV nr nd np2 st g) (hh : ∀ x, hearN F x (nI st) np = hrN g x np2) : Ct G yX3_moveDoors wsX3_moveDoors (2, 0, 0) [.ref a] n T I R (z_rel none n T (fun I' R' => R' = R ∧ z_HR I' a (movN g nd) so sw ∧ z_P T I' R (a + 3) np F ∧ z_fa a I I')) := by
  refine Ct.ofX (M := muX3_moveDoors) (ls := [(0, .ref a)]) (by decide +kernel) rfl (by decide) rfl rfl (Nat.le_of_ble_eq_true rfl) ?_
  have hTa := hH.1
  have hTp := hP.1.1
  obtain ⟨hTad, hRad⟩ := hH.2.2.1
  have hRp := hH.2.2.2.1
  have hnd := hI.2.1.2
  refine z_iconst (q := 1) (v := nI 0) dX3_moveDoors_0 (by rfl) rfl ?_
  refine z_istore_n (q := 2) dX3_moveDoors_1 rfl (by decide) rfl ?_
  have loop : ∀ i, i ≤ nd → ∀ I2, z_HR I2 a (movN g i) so sw → z_P T I2 R (a + 3) np F → z_fa a I I2 → ∀ ls : List (Nat × Value), lv_pick ls [0, 1] = [(0, .ref a), (1, .int (nI i))] → z_X G muX3_moveDoors (2, 0, 0) (z_rel none n T (fun I' R' => R' = R ∧ z_HR I' a (movN g nd) so sw ∧ z_P T I' R (a + 3) np F ∧ z_fa a I I')) n T I2 R 0 0 2 ls [] := by
    refine z_up (N := nd) _ ?_ ?_
    · intro I2 hG2 hP2 f2 ls hls
      have c1 : I2 a 5 = nI nd := by rw [(HR_sc hG2).2.1]; exact (INV_movN hI nd (Nat.le_refl _)).2.1.1
      refine z_pick [0, 1] hls ?_
      refine z_iload_n (q := 3) dX3_moveDoors_2 rfl rfl rfl ?_
      refine z_aload_n (q := 4) dX3_moveDoors_3 rfl rfl rfl ?_
      refine z_getV (q := 7) 3 5 1 44 rfl (by decide) rfl rfl rfl (by with_reducible assumption) (c1) dX3_moveDoors_4 rfl ?_
      refine z_icmpn_ge (rfl) (rfl) (by omega) (by omega) (tgt := 97) (q := 10) dX3_moveDoors_7 (by decide) rfl (fun _ => ?_) (fun hc => absurd hc (by omega))
      exact z_vret rfl dX3_moveDoors_97 (Nat.zero_le _) (Nat.zero_le _) (⟨rfl, rfl, rfl, rfl, hG2, hP2, f2⟩)
    · intro i hi ih I2 hG2 hP2 f2 ls hls
      have hIi := INV_movN hI i (Nat.le_of_lt hi)
      generalize hh2 : movN g i = h at hG2 hIi
      have c1 : I2 a 5 = nI nd := by rw [(HR_sc hG2).2.1]; exact hIi.2.1.1
      have hRdi := (hH.2.2.2.2.2.2.1 i (by omega)).1
      have hDi := (hH.2.2.2.2.2.2.1 i (by omega)).2
      have hTd := hDi.1
      have hTd1 := hDi.2.1
      have hRd0 := hDi.2.2.2.2.2.1
      obtain ⟨sa, sb, ar, sp, de, o, t, l, g0, g1, g2', g3', g4', g5', g6', g7', g8'⟩ := (hIi.2.2.2.2.2.1 i (by omega)).1 hi
      have d5 : I2 (a + 38 + 5 * i) 5 = nI t := by rw [HR_door hG2 (by omega) (by decide) (by decide)]; exact g7'.1
      have d4 : I2 (a + 38 + 5 * i) 4 = nI o := by rw [HR_door hG2 (by omega) (by decide) (by decide)]; exact g6'.1
      have d2 : I2 (a + 38 + 5 * i) 2 = nI sp := by rw [HR_door hG2 (by omega) (by decide) (by decide)]; exact g4'.1
      have hmv : mvG h i = (if nI sp < nI t - nI o then nI sp else if nI t - nI o < - nI sp then - nI sp else nI t - nI o) := by rw [mvG, g4'.1, g6'.1, g7'.1]
      obtain ⟨m1, m2⟩ := mv_cls o t sp (by omega) (by omega) (by omega)
      have next : ∀ I3, z_HR I3 a (movN g (i + 1)) so sw → z_P T I3 R (a + 3) np F → z_fa a I I3 → ∀ ls : List (Nat × Value), lv_pick ls [0, 1] = [(0, .ref a), (1, .int (nI i))] → z_X G muX3_moveDoors (2, 0, 0) (z_rel none n T (fun I' R' => R' = R ∧ z_HR I' a (movN g nd) so sw ∧ z_P T I' R (a + 3) np F ∧ z_fa a I I')) n T I3 R 0 0 91 ls [] := by
        intro I3 hG3 hP3 f3 ls hls
        refine z_pick [0, 1] hls ?_
        refine z_iinc (q := 94) dX3_moveDoors_91 rfl (nI_add _ 1) (by decide) rfl ?_
        refine z_goto (q := 2) dX3_moveDoors_94 (by decide) ?_
        exact ih I3 hG3 hP3 f3 _ rfl
      refine z_pick [0, 1] hls ?_
      refine z_iload_n (q := 3) dX3_moveDoors_2 rfl rfl rfl ?_
      refine z_aload_n (q := 4) dX3_moveDoors_3 rfl rfl rfl ?_
      refine z_getV (q := 7) 3 5 1 44 rfl (by decide) rfl rfl rfl (by with_reducible assumption) (c1) dX3_moveDoors_4 rfl ?_
      refine z_icmpn_ge (rfl) (rfl) (by omega) (by omega) (tgt := 97) (q := 10) dX3_moveDoors_7 (by decide) rfl (fun hc => absurd hc (by omega)) (fun _ => ?_)
      refine z_iload_n (q := 11) dX3_moveDoors_10 rfl rfl rfl ?_
      refine z_aload_n (q := 12) dX3_moveDoors_11 rfl rfl rfl ?_
      refine z_getR (q := 15) 3 1 2 40 rfl (by decide) rfl rfl rfl (by with_reducible assumption) (by with_reducible assumption) dX3_moveDoors_12 rfl ?_
      refine z_alen (q := 16) (by with_reducible assumption) dX3_moveDoors_15 rfl ?_
      refine z_icmpn_ge (rfl) (rfl) (by omega) (by omega) (tgt := 97) (q := 19) dX3_moveDoors_16 (by decide) rfl (fun hc => absurd hc (by omega)) (fun _ => ?_)
      refine z_aload_n (q := 20) dX3_moveDoors_19 rfl rfl rfl ?_
      refine z_getR (q := 23) 3 1 2 40 rfl (by decide) rfl rfl rfl (by with_reducible assumption) (by with_reducible assumption) dX3_moveDoors_20 rfl ?_
      refine z_iload_n (q := 24) dX3_moveDoors_23 rfl rfl rfl ?_
      refine z_aald (q := 25) _ (by with_reducible assumption) (rfl) (by omega) (by decide) (by with_reducible assumption) dX3_moveDoors_24 rfl ?_
      refine z_astore_n (q := 26) dX3_moveDoors_25 rfl (by decide) rfl ?_
      refine z_aload_n (q := 27) dX3_moveDoors_26 rfl rfl rfl ?_
      refine z_getV (q := 30) 0 4 3 53 rfl (by decide) rfl rfl rfl (by with_reducible assumption) (d4) dX3_moveDoors_27 rfl ?_
      refine z_istore_n (q := 31) dX3_moveDoors_30 rfl (by decide) rfl ?_
      refine z_aload_n (q := 32) dX3_moveDoors_31 rfl rfl rfl ?_
      refine z_invV (q := 35) (c_X0_move G (a + 38 + 5 * i) hDi) (by with_reducible assumption) rfl gX3_moveDoors_X0_move rfl hy_X0_move rfl rfl rfl rfl (Nat.le_of_ble_eq_true rfl) ⟨Nat.zero_le _, Nat.zero_le _⟩ dX3_moveDoors_32 rfl (z_rn ?_)
      refine z_aload_n (q := 36) dX3_moveDoors_35 rfl rfl rfl ?_
      refine z_getI (q := 39) 0 4 3 53 rfl (by decide) rfl rfl rfl (by with_reducible assumption) dX3_moveDoors_36 rfl ?_
      refine z_iload_n (q := 40) dX3_moveDoors_39 rfl rfl rfl ?_
      rw [d5, d4, d2, m1, ← hmv, zw_s]
      have hG3 : z_HR (zw I2 (a + 38 + 5 * i) 4 (nI o + mvG h i)) a (movA h i) so sw := by
        rw [movA, g6'.1]
        exact HRw_door hG2 _ (by omega) (by decide) (by decide)
      have hP3 : z_P T (zw I2 (a + 38 + 5 * i) 4 (nI o + mvG h i)) R (a + 3) np F := z_P_f hP2 (fun q _ _ => zw_row _ _ (by omega)) (fun _ _ _ => rfl)
      have f3 : z_fa a I (zw I2 (a + 38 + 5 * i) 4 (nI o + mvG h i)) := fa_w f2 (by omega)
      have d0 : zw I2 (a + 38 + 5 * i) 4 (nI o + mvG h i) (a + 38 + 5 * i + 1) 0 = h (57 + 10 * i) := by rw [zw_row _ _ (by omega)]; exact HR_side hG2 (by omega) (by decide)
      have d1 : zw I2 (a + 38 + 5 * i) 4 (nI o + mvG h i) (a + 38 + 5 * i + 1) 1 = h (57 + 10 * i + 1) := by rw [zw_row _ _ (by omega)]; exact HR_side hG2 (by omega) (by decide)
      have c3 : zw I2 (a + 38 + 5 * i) 4 (nI o + mvG h i) a 6 = nI st := by rw [zw_row _ _ (by omega), (HR_sc hG2).2.2.1]; exact hIi.2.2.2.1
      have hg2 : gN h 2 = np2 := gN_of hIi.2.2.1.1 (by have := hIi.2.2.1.2; omega)
      have hnp2 := hIi.2.2.1.2
      have hhr : ∀ x, hearN F x (nI st) np = hrN (movA h i) x (gN h 2) := by
        intro x
        rw [hh x, hg2]
        refine hrN_congr ?_ (fun k hk => ?_)
        · rw [movA, upd_n _ _ (by omega), hIi.2.2.2.1]; exact hI.2.2.2.1
        · rw [← hh2, ← movN_ent g i (by omega) k]
          exact ent_congr (fun j j1 j2 => by rw [movA, upd_n _ _ (by omega)])
      have hs : movN g (i + 1) = upd (movA h i) 6 (movA h i 6 + if 0 < mvG h i ∧ 0 < hearN F (h (57 + 10 * i)) (nI st) np + hearN F (h (57 + 10 * i + 1)) (nI st) np then 1 else 0) := by
        rw [movN, hh2, movR, hhr, hhr]
      have hno : ¬ (0 < mvG h i ∧ 0 < hearN F (h (57 + 10 * i)) (nI st) np + hearN F (h (57 + 10 * i + 1)) (nI st) np) → z_HR (zw I2 (a + 38 + 5 * i) 4 (nI o + mvG h i)) a (movN g (i + 1)) so sw := by
        intro z
        rw [hs, if_neg z, Int32.add_zero, upd_self]
        exact hG3
      rw [← hmv] at m2
      generalize zw I2 (a + 38 + 5 * i) 4 (nI o + mvG h i) = I3 at hG3 hP3 f3 d0 d1 c3 hno ⊢
      refine z_icmp_le (tgt := 91) (q := 43) dX3_moveDoors_40 (by decide) rfl (fun h40 => ?_) (fun h40 => ?_)
      · exact next I3 (hno (fun z => absurd (m2.mpr z.1) (Int32.not_lt.mpr h40))) hP3 f3 _ rfl
      · refine z_aload_n (q := 44) dX3_moveDoors_43 rfl rfl rfl ?_
        refine z_getR (q := 47) 3 2 4 41 rfl (by decide) rfl rfl rfl (by with_reducible assumption) (by with_reducible assumption) dX3_moveDoors_44 rfl ?_
        refine z_aload_n (q := 48) dX3_moveDoors_47 rfl rfl rfl ?_
        refine z_getR (q := 51) 0 0 5 49 rfl (by decide) rfl rfl rfl (by with_reducible assumption) (by with_reducible assumption) dX3_moveDoors_48 rfl ?_
        refine z_iconst (q := 52) (v := nI 0) dX3_moveDoors_51 (by rfl) rfl ?_
        refine z_ialdV (q := 53) _ (by with_reducible assumption) (rfl) (by omega) (by decide) (d0) dX3_moveDoors_52 rfl ?_
        refine z_aload_n (q := 54) dX3_moveDoors_53 rfl rfl rfl ?_
        refine z_getV (q := 57) 3 6 6 45 rfl (by decide) rfl rfl rfl (by with_reducible assumption) (c3) dX3_moveDoors_54 rfl ?_
        refine z_invV (q := 60) (c_X4_soundsHeard G (a + 3) np _ (nI st) F hP3) (by with_reducible assumption) rfl gX3_moveDoors_X4_soundsHeard rfl hy_X4_soundsHeard rfl rfl rfl rfl (Nat.le_of_ble_eq_true rfl) ⟨Nat.zero_le _, Nat.zero_le _⟩ dX3_moveDoors_57 rfl (z_rv ?_)
        refine z_aload_n (q := 61) dX3_moveDoors_60 rfl rfl rfl ?_
        refine z_getR (q := 64) 3 2 4 41 rfl (by decide) rfl rfl rfl (by with_reducible assumption) (by with_reducible assumption) dX3_moveDoors_61 rfl ?_
        refine z_aload_n (q := 65) dX3_moveDoors_64 rfl rfl rfl ?_
        refine z_getR (q := 68) 0 0 5 49 rfl (by decide) rfl rfl rfl (by with_reducible assumption) (by with_reducible assumption) dX3_moveDoors_65 rfl ?_
        refine z_iconst (q := 69) (v := nI 1) dX3_moveDoors_68 (by rfl) rfl ?_
        refine z_ialdV (q := 70) _ (by with_reducible assumption) (rfl) (by omega) (by decide) (d1) dX3_moveDoors_69 rfl ?_
        refine z_aload_n (q := 71) dX3_moveDoors_70 rfl rfl rfl ?_
        refine z_getV (q := 74) 3 6 6 45 rfl (by decide) rfl rfl rfl (by with_reducible assumption) (c3) dX3_moveDoors_71 rfl ?_
        refine z_invV (q := 77) (c_X4_soundsHeard G (a + 3) np _ (nI st) F hP3) (by with_reducible assumption) rfl gX3_moveDoors_X4_soundsHeard rfl hy_X4_soundsHeard rfl rfl rfl rfl (Nat.le_of_ble_eq_true rfl) ⟨Nat.zero_le _, Nat.zero_le _⟩ dX3_moveDoors_74 rfl (z_rv ?_)
        refine z_iadd (q := 78) dX3_moveDoors_77 rfl ?_
        refine z_if_le (tgt := 91) (q := 81) dX3_moveDoors_78 (by decide) rfl (fun h78 => ?_) (fun h78 => ?_)
        · exact next I3 (hno (fun z => absurd z.2 (Int32.not_lt.mpr h78))) hP3 f3 _ rfl
        · refine z_aload_n (q := 82) dX3_moveDoors_81 rfl rfl rfl ?_
          refine z_dup (q := 83) dX3_moveDoors_82 rfl rfl ?_
          refine z_getI (q := 86) 3 9 7 48 rfl (by decide) rfl rfl rfl (by with_reducible assumption) dX3_moveDoors_83 rfl ?_
          refine z_iconst (q := 87) (v := nI 1) dX3_moveDoors_86 (by rfl) rfl ?_
          refine z_iadd (q := 88) dX3_moveDoors_87 rfl ?_
          refine z_put (q := 91) 3 9 7 48 rfl (by decide) rfl rfl (tyX3_ok 9 (by decide)) (rfl) (rfl) rfl (by with_reducible assumption) dX3_moveDoors_88 rfl ?_
          refine next _ ?_ (z_P_f hP3 (fun q _ _ => zw_row _ _ (by omega)) (fun _ _ _ => rfl)) (fa_w f3 (by omega)) _ rfl
          rw [hs, if_pos ⟨m2.mp (Int32.not_le.mp h40), Int32.not_le.mp h78⟩, ← (HR_sc hG3).2.2.2.2.2.1]
          exact HRw_6 hG3 _
  exact loop 0 (Nat.zero_le _) I hG hP (fun _ _ => rfl) _ rfl


