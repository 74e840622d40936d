/-! THE CLASS, a house goes on: what arrives, a step whole -/
theorem arrR_j {h : Nat → Int32} {d s b : Nat} (hd : d < 12) (hs : s < 2) (hb : gN h (57 + 10 * d + (1 - s)) = b) (hb8 : b ≤ 8) (j : Nat) : arrR h d s j = if j = (if b = 8 then 4 else 9 + 6 * b + 2) then h j + h (177 + 12 * d + 6 * s) else if j = 177 + 12 * d + 6 * s + 5 then 0 else if 177 + 12 * d + 6 * s ≤ j ∧ j < 177 + 12 * d + 6 * s + 5 then h (j + 1) else h j := by
  unfold arrR arr2 arr1
  rw [hb]
  by_cases h8 : b = 8
  · rw [if_pos h8, if_pos h8]
    by_cases e : j = 4
    · subst e
      rw [upd_n _ _ (by omega), if_neg (by omega), upd_s, if_pos rfl]
    · rw [if_neg e]
      by_cases e5 : j = 177 + 12 * d + 6 * s + 5
      · rw [if_pos e5, e5, upd_s]
      · rw [if_neg e5, upd_n _ _ e5]
        by_cases e6 : 177 + 12 * d + 6 * s ≤ j ∧ j < 177 + 12 * d + 6 * s + 5
        · rw [if_pos e6, if_pos e6, upd_n _ _ (by omega)]
        · rw [if_neg e6, if_neg e6, upd_n _ _ e]
  · rw [if_neg h8, if_neg h8]
    by_cases e : j = 9 + 6 * b + 2
    · rw [if_pos e, upd_n _ _ (by omega), if_neg (by omega), e, upd_s]
    · rw [if_neg e]
      by_cases e5 : j = 177 + 12 * d + 6 * s + 5
      · rw [if_pos e5, e5, upd_s]
      · rw [if_neg e5, upd_n _ _ e5]
        by_cases e6 : 177 + 12 * d + 6 * s ≤ j ∧ j < 177 + 12 * d + 6 * s + 5
        · rw [if_pos e6, if_pos e6, upd_n _ _ (by omega)]
        · rw [if_neg e6, if_neg e6, upd_n _ _ e]
/-- the energy behind the ring -/
theorem arrR_u {h : Nat → Int32} {d s b : Nat} (hd : d < 12) (hs : s < 2) (hb : gN h (57 + 10 * d + (1 - s)) = b) (hb8 : b ≤ 8) : arrR h d s = upd (upd (arr2 h (177 + 12 * d + 6 * s) 5) (177 + 12 * d + 6 * s + 5) 0) (if b = 8 then 4 else 9 + 6 * b + 2) (upd (arr2 h (177 + 12 * d + 6 * s) 5) (177 + 12 * d + 6 * s + 5) 0 (if b = 8 then 4 else 9 + 6 * b + 2) + h (177 + 12 * d + 6 * s)) := by
  funext j
  rw [arrR_j hd hs hb hb8 j]
  have hc : (if b = 8 then 4 else 9 + 6 * b + 2) < 57 := by split <;> omega
  generalize (if b = 8 then 4 else 9 + 6 * b + 2) = c at hc ⊢
  by_cases e : j = c
  · subst e
    rw [if_pos rfl, upd_s, upd_n _ _ (by omega), arr2, if_neg (by omega)]
  · rw [if_neg e, upd_n _ _ e]
    by_cases e5 : j = 177 + 12 * d + 6 * s + 5
    · rw [if_pos e5, e5, upd_s]
    · rw [if_neg e5, upd_n _ _ e5]
      rfl
theorem arr_comm {h : Nat → Int32} {d a b : Nat} (hd : d < 12) (ha : gN h (57 + 10 * d + 0) = a) (ha8 : a < 8) (hb : gN h (57 + 10 * d + 1) = b) (hb8 : b ≤ 8) (hab : a ≠ b) : arrR (arrR h d 1) d 0 = arrR (arrR h d 0) d 1 := by
  have q1 := arrR_j (h := h) (s := 1) hd (by decide) ha (by omega)
  have q0 := arrR_j (h := h) (s := 0) hd (by decide) hb hb8
  have ca : (if a = 8 then 4 else 9 + 6 * a + 2) = 9 + 6 * a + 2 := if_neg (by omega)
  rw [ca] at q1
  have cb : (if b = 8 then 4 else 9 + 6 * b + 2) < 57 ∧ (if b = 8 then 4 else 9 + 6 * b + 2) ≠ 9 + 6 * a + 2 := by split <;> omega
  have k1 : gN (arrR h d 1) (57 + 10 * d + (1 - 0)) = b := by
    rw [gN_congr (h := h)]
    · exact hb
    · rw [q1, if_neg (by omega), if_neg (by omega), if_neg (by omega)]
  have k0 : gN (arrR h d 0) (57 + 10 * d + (1 - 1)) = a := by
    rw [gN_congr (h := h)]
    · exact ha
    · rw [q0, if_neg (by omega), if_neg (by omega), if_neg (by omega)]
  have p1 := arrR_j (h := arrR h d 1) (s := 0) hd (by decide) k1 hb8
  have p0 := arrR_j (h := arrR h d 0) (s := 1) hd (by decide) k0 (by omega)
  rw [ca] at p0
  generalize (if b = 8 then 4 else 9 + 6 * b + 2) = c at cb q0 p1
  funext j
  rw [p1 j, p0 j, q1 j, q0 j, q1 (j + 1), q0 (j + 1), q1 (177 + 12 * d + 6 * 0), q0 (177 + 12 * d + 6 * 1)]
  by_cases e1 : j = c
  · rw [if_pos e1, if_neg (show ¬ j = 9 + 6 * a + 2 by omega), if_neg (show ¬ j = 9 + 6 * a + 2 by omega), if_pos e1]
    repeat rw [if_neg (by omega)]
  · by_cases e2 : j = 9 + 6 * a + 2
    · rw [if_neg e1, if_pos e2, if_pos e2]
      repeat rw [if_neg (by omega)]
    · rw [if_neg e1, if_neg e2, if_neg e2, if_neg e1]
      by_cases e3 : j = 177 + 12 * d + 6 * 0 + 5
      · rw [if_pos e3, if_neg (by omega), if_neg (by omega), if_pos e3]
      · rw [if_neg e3, if_neg e3]
        by_cases e4 : 177 + 12 * d + 6 * 0 ≤ j ∧ j < 177 + 12 * d + 6 * 0 + 5
        · rw [if_pos e4, if_pos e4]
          repeat rw [if_neg (by omega)]
        · rw [if_neg e4, if_neg e4]
          by_cases e5 : j = 177 + 12 * d + 6 * 1 + 5
          · rw [if_pos e5, if_pos e5]
          · rw [if_neg e5, if_neg e5]
            by_cases e6 : 177 + 12 * d + 6 * 1 ≤ j ∧ j < 177 + 12 * d + 6 * 1 + 5
            · rw [if_pos e6, if_pos e6]
              repeat rw [if_neg (by omega)]
            · rw [if_neg e6, if_neg e6]
def laK (h : Nat → Int32) (i : Nat) : Nat → (Nat → Int32)
  | 0 => h
  | s + 1 => arrR (laK h i s) i (1 - s)
def laW (st i s m : Nat) : Nat := if m < 2 * i ∨ (m = 2 * i + 1 ∧ 1 ≤ s) ∨ (m = 2 * i ∧ 2 ≤ s) then st + 1 else st
set_option maxRecDepth 100000 in
set_option maxHeartbeats 4000000 in
theorem c_X3_letArrive (G : zG) {n : Nat} {T : zTT} {I : zII} {R : zRR} (a nr nd np np2 st : Nat) (F : Nat → zE) (g : Nat → Int32) (so : Nat → Nat) (hH : z_House T R a) (hG : z_HR I a g so (fun _ => st)) (hP : z_P T I R (a + 3) np F) (hI : INV nr nd np2 st g) (hst : st < 90000) : Ct G yX3_letArrive wsX3_letArrive (3, 0, 0) [.ref a] n T I R (z_rel none n T (fun I' R' => R' = R ∧ z_HR I' a (arrN g (2 * nd)) so (fun m => if m < 2 * nd then st + 1 else st) ∧ z_P T I' R (a + 3) np F ∧ z_fa a I I')) := by
  refine Ct.ofX (M := muX3_letArrive) (ls := [(0, .ref a)]) (by decide +kernel) rfl (by decide) rfl rfl (Nat.le_of_ble_eq_true rfl) ?_
  have hTa := hH.1
  obtain ⟨hTad, hRad⟩ := hH.2.2.1
  have hnd := hI.2.1.2
  have hnr := hI.1.2
  have hall : ∀ m, m ≤ 2 * nd → INV nr nd np2 st (arrN g m) := fun m hm => INV_free hI (arrN_fre hI m hm)
  have loop : ∀ i, i ≤ nd → ∀ I2, z_HR I2 a (arrN g (2 * i)) so (fun m => if m < 2 * i then st + 1 else st) → z_P T I2 R (a + 3) np F → z_fa a I I2 → ∀ ls : List (Nat × Value), lv_pick ls [0, 1] = [(0, .ref a), (1, .int (nI i))] → z_X G muX3_letArrive (3, 0, 0) (z_rel none n T (fun I' R' => R' = R ∧ z_HR I' a (arrN g (2 * nd)) so (fun m => if m < 2 * nd then st + 1 else st) ∧ z_P T I' R (a + 3) np F ∧ z_fa a I I')) n T I2 R 0 0 2 ls [] := by
    refine z_up (N := nd) _ ?_ ?_
    · intro I2 hG2 hP2 f2 ls hls
      have c1 : I2 a 5 = nI nd := by rw [(HR_sc hG2).2.1]; exact (hall _ (by omega)).2.1.1
      refine z_pick [0, 1] hls ?_
      refine z_iload_n (q := 3) dX3_letArrive_2 rfl rfl rfl ?_
      refine z_aload_n (q := 4) dX3_letArrive_3 rfl rfl rfl ?_
      refine z_getV (q := 7) 3 5 1 32 rfl (by decide) rfl rfl rfl (by with_reducible assumption) (c1) dX3_letArrive_4 rfl ?_
      refine z_icmpn_ge (rfl) (rfl) (by omega) (by omega) (tgt := 99) (q := 10) dX3_letArrive_7 (by decide) rfl (fun _ => ?_) (fun hc => absurd hc (by omega))
      exact z_vret rfl dX3_letArrive_99 (Nat.zero_le _) (Nat.zero_le _) (⟨rfl, rfl, rfl, rfl, hG2, hP2, f2⟩)
    · intro i hi ih I2 hG2 hP2 f2 ls hls
      have hIi := hall (2 * i) (by omega)
      have hn2 : arrN g (2 * (i + 1)) = arrR (arrR (arrN g (2 * i)) i 0) i 1 := by
        rw [show 2 * (i + 1) = 2 * i + 1 + 1 by omega, arrN, arrN, show (2 * i + 1) / 2 = i by omega, show (2 * i + 1) % 2 = 1 by omega, show 2 * i / 2 = i by omega, show 2 * i % 2 = 0 by omega]
      rw [hn2] at ih
      generalize arrN g (2 * i) = h at hG2 hIi ih
      have c1 : I2 a 5 = nI nd := by rw [(HR_sc hG2).2.1]; exact hIi.2.1.1
      have hRdi := (hH.2.2.2.2.2.2.1 i (by omega)).1
      have hDi := (hH.2.2.2.2.2.2.1 i (by omega)).2
      obtain ⟨hTd, hTd1, hTd2, hTd3, hTd4, hRd0, hRd7, hRd8, hRd9⟩ := id hDi
      obtain ⟨sa, sb, ar, sp, de, o, t, l, g0, g1, gab, -⟩ := (hIi.2.2.2.2.2.1 i (by omega)).1 hi
      have hcomm : laK h i 2 = arrR (arrR h i 0) i 1 := arr_comm (by omega) (gN_of g0.1 (by omega)) (by omega) (gN_of g1.1 (by omega)) (by omega) gab
      rw [← hcomm] at ih
      have hK : ∀ s, s ≤ 2 → ∀ j, ¬ fre nr nd j → laK h i s j = h j := by
        intro s
        induction s with
        | zero => intro _ j _; rfl
        | succ s ihs =>
          intro hs j hj
          rw [laK, arrR_fre (INV_free hIi (ihs (by omega))) hi (by omega) j hj]
          exact ihs (by omega) j hj
      have inner : ∀ s, s ≤ 2 → ∀ I3, z_HR I3 a (laK h i s) so (laW st i s) → z_P T I3 R (a + 3) np F → z_fa a I I3 → ∀ ls : List (Nat × Value), lv_pick ls [0, 1, 2, 3] = [(0, .ref a), (1, .int (nI i)), (2, .ref (a + 38 + 5 * i)), (3, .int (nI s))] → z_X G muX3_letArrive (3, 0, 0) (z_rel none n T (fun I' R' => R' = R ∧ z_HR I' a (arrN g (2 * nd)) so (fun m => if m < 2 * nd then st + 1 else st) ∧ z_P T I' R (a + 3) np F ∧ z_fa a I I')) n T I3 R 0 0 28 ls [] := by
        refine z_up (N := 2) _ ?_ ?_
        · intro I3 hG3 hP3 f3 ls hls
          refine z_pick [0, 1, 2, 3] hls ?_
          refine z_iload_n (q := 29) dX3_letArrive_28 rfl rfl rfl ?_
          refine z_iconst (q := 30) (v := nI 2) dX3_letArrive_29 (by rfl) rfl ?_
          refine z_icmpn_ge (rfl) (rfl) (by omega) (by omega) (tgt := 93) (q := 33) dX3_letArrive_30 (by decide) rfl (fun _ => ?_) (fun hc => absurd hc (by omega))
          refine z_iinc (q := 96) dX3_letArrive_93 rfl (nI_add _ 1) (by decide) rfl ?_
          refine z_goto (q := 2) dX3_letArrive_96 (by decide) ?_
          refine ih I3 ?_ hP3 f3 _ rfl
          have e : laW st i 2 = fun m => if m < 2 * (i + 1) then st + 1 else st := by
            funext m
            unfold laW
            by_cases hm : m < 2 * (i + 1)
            · rw [if_pos hm, if_pos (by omega)]
            · rw [if_neg hm, if_neg (by omega)]
          rw [← e]
          exact hG3
        · intro s hs ihs I3 hG3 hP3 f3 ls hls
          have hIk : INV nr nd np2 st (laK h i s) := INV_free hIi (hK s (by omega))
          have hk : laK h i (s + 1) = arrR (laK h i s) i (1 - s) := rfl
          have next : ∀ I4, z_HR I4 a (laK h i (s + 1)) so (laW st i (s + 1)) → z_P T I4 R (a + 3) np F → z_fa a I I4 → ∀ ls : List (Nat × Value), lv_pick ls [0, 1, 2, 3] = [(0, .ref a), (1, .int (nI i)), (2, .ref (a + 38 + 5 * i)), (3, .int (nI s))] → z_X G muX3_letArrive (3, 0, 0) (z_rel none n T (fun I' R' => R' = R ∧ z_HR I' a (arrN g (2 * nd)) so (fun m => if m < 2 * nd then st + 1 else st) ∧ z_P T I' R (a + 3) np F ∧ z_fa a I I')) n T I4 R 0 0 87 ls [] := by
            intro I4 hG4 hP4 f4 ls hls
            refine z_pick [0, 1, 2, 3] hls ?_
            refine z_iinc (q := 90) dX3_letArrive_87 rfl (nI_add _ 1) (by decide) rfl ?_
            refine z_goto (q := 28) dX3_letArrive_90 (by decide) ?_
            exact ihs I4 hG4 hP4 f4 _ rfl
          rw [hk] at next
          generalize laK h i s = k at hG3 hIk next
          obtain ⟨b, hb, hb8, hbv⟩ := INV_side hIk hi hs
          have hbs : gN k (57 + 10 * i + (1 - (1 - s))) = b := by rw [show 1 - (1 - s) = s by omega]; exact gN_of hb (by omega)
          have w0 : laW st i s (2 * i + (1 - s)) = st := by unfold laW; rw [if_neg (by omega)]
          have w1 : laW st i (s + 1) (2 * i + (1 - s)) = st + 1 := by unfold laW; rw [if_pos (by omega)]
          have wo : ∀ m, m ≠ 2 * i + (1 - s) → laW st i (s + 1) m = laW st i s m := by
            intro m hm
            unfold laW
            by_cases z : m < 2 * i ∨ (m = 2 * i + 1 ∧ 1 ≤ s) ∨ (m = 2 * i ∧ 2 ≤ s)
            · rw [if_pos z, if_pos (by omega)]
            · rw [if_neg z, if_neg (by omega)]
          have hval : I3 (a + 38 + 5 * i + 4) (2 * (st % 6) + s) = k (177 + 12 * i + 6 * (1 - s)) := by
            have := HR_way hG3 (d := i) (s := 1 - s) (k := 0) (by omega) (by omega) (by decide)
            rw [w0, Nat.add_zero, show 1 - (1 - s) = s by omega] at this
            exact this
          have hG4 : z_HR (zw I3 (a + 38 + 5 * i + 4) (2 * (st % 6) + s) 0) a (upd (arr2 k (177 + 12 * i + 6 * (1 - s)) 5) (177 + 12 * i + 6 * (1 - s) + 5) 0) so (laW st i (s + 1)) := by
            have := HR_arr hG3 (d := i) (s := 1 - s) (st := st) (by omega) (by omega) w0 w1 wo
            rw [show 1 - (1 - s) = s by omega] at this
            exact this
          have hP4 : z_P T (zw I3 (a + 38 + 5 * i + 4) (2 * (st % 6) + s) 0) R (a + 3) np F := z_P_f hP3 (fun q _ _ => zw_row _ _ (by omega)) (fun _ _ _ => rfl)
          have f4 : z_fa a I (zw I3 (a + 38 + 5 * i + 4) (2 * (st % 6) + s) 0) := fa_w f3 (by omega)
          have hu := arrR_u (h := k) (d := i) (s := 1 - s) (b := b) (by omega) (by omega) hbs hb8
          have c3 : I3 a 6 = nI st := by rw [(HR_sc hG3).2.2.1]; exact hIk.2.2.2.1
          have c0 : zw I3 (a + 38 + 5 * i + 4) (2 * (st % 6) + s) 0 a 4 = nI nr := by rw [zw_row _ _ (by omega), (HR_sc hG3).1]; exact hIk.1.1
          have hsb : zw I3 (a + 38 + 5 * i + 4) (2 * (st % 6) + s) 0 (a + 38 + 5 * i + 1) s = nI b := by rw [zw_row _ _ (by omega), HR_side hG3 (by omega) hs]; exact hb
          refine z_pick [0, 1, 2, 3] hls ?_
          refine z_iload_n (q := 29) dX3_letArrive_28 rfl rfl rfl ?_
          refine z_iconst (q := 30) (v := nI 2) dX3_letArrive_29 (by rfl) rfl ?_
          refine z_icmpn_ge (rfl) (rfl) (by omega) (by omega) (tgt := 93) (q := 33) dX3_letArrive_30 (by decide) rfl (fun hc => absurd hc (by omega)) (fun _ => ?_)
          refine z_aload_n (q := 34) dX3_letArrive_33 rfl rfl rfl ?_
          refine z_iload_n (q := 35) dX3_letArrive_34 rfl rfl rfl ?_
          refine z_aload_n (q := 36) dX3_letArrive_35 rfl rfl rfl ?_
          refine z_getV (q := 39) 3 6 3 33 rfl (by decide) rfl rfl rfl (by with_reducible assumption) (c3) dX3_letArrive_36 rfl ?_
          refine z_invV (q := 42) (c_X0_takeArrived G (a + 38 + 5 * i) s st hDi hs (by omega)) (by with_reducible assumption) rfl gX3_letArrive_X0_takeArrived rfl hy_X0_takeArrived rfl rfl rfl rfl (Nat.le_of_ble_eq_true rfl) ⟨Nat.zero_le _, Nat.zero_le _⟩ dX3_letArrive_39 rfl (z_rv ?_)
          refine z_istore (q := 44) dX3_letArrive_42 (by decide) rfl ?_
          rw [hval]
          rw [hu] at next
          generalize upd (arr2 k (177 + 12 * i + 6 * (1 - s)) 5) (177 + 12 * i + 6 * (1 - s) + 5) 0 = k2 at hG4 next
          generalize zw I3 (a + 38 + 5 * i + 4) (2 * (st % 6) + s) 0 = I4 at hG4 hP4 f4 c0 hsb ⊢
          by_cases h8 : b = 8
          · rw [if_pos h8] at next
            refine z_aload_n (q := 45) dX3_letArrive_44 rfl rfl rfl ?_
            refine z_aload_n (q := 46) dX3_letArrive_45 rfl rfl rfl ?_
            refine z_getR (q := 49) 0 0 4 37 rfl (by decide) rfl rfl rfl (by with_reducible assumption) (by with_reducible assumption) dX3_letArrive_46 rfl ?_
            refine z_iload_n (q := 50) dX3_letArrive_49 rfl rfl rfl ?_
            refine z_ialdV (q := 51) _ (by with_reducible assumption) (rfl) (by omega) (by decide) (hsb) dX3_letArrive_50 rfl ?_
            refine z_invV (q := 54) (c_X3_roomAt_n G a nr _ hH c0 (Or.inr ((nI_leI (by omega) (by omega)).mpr (by omega)))) (by with_reducible assumption) rfl gX3_letArrive_X3_roomAt rfl hy_X3_roomAt rfl rfl rfl rfl (Nat.le_of_ble_eq_true rfl) ⟨Nat.zero_le _, Nat.zero_le _⟩ dX3_letArrive_51 rfl (z_rv ?_)
            refine z_astoreN (q := 56) dX3_letArrive_54 (by decide) rfl ?_
            refine z_aloadN (q := 58) dX3_letArrive_56 rfl rfl ?_
            refine z_ifnonnullN (q := 61) dX3_letArrive_58 rfl ?_
            refine z_aload_n (q := 62) dX3_letArrive_61 rfl rfl rfl ?_
            refine z_dup (q := 63) dX3_letArrive_62 rfl rfl ?_
            refine z_getI (q := 66) 3 7 5 34 rfl (by decide) rfl rfl rfl (by with_reducible assumption) dX3_letArrive_63 rfl ?_
            refine z_iload (q := 68) (i := 4) dX3_letArrive_66 rfl rfl ?_
            refine z_iadd (q := 69) dX3_letArrive_68 rfl ?_
            refine z_put (q := 72) 3 7 5 34 rfl (by decide) rfl rfl (tyX3_ok 7 (by decide)) (rfl) (rfl) rfl (by with_reducible assumption) dX3_letArrive_69 rfl ?_
            refine z_goto (q := 87) dX3_letArrive_72 (by decide) ?_
            rw [(HR_sc hG4).2.2.2.1]
            exact next _ (HRw_4 hG4 _) (z_P_f hP4 (fun q _ _ => zw_row _ _ (by omega)) (fun _ _ _ => rfl)) (fa_w f4 (by omega)) _ rfl
          · rw [if_neg h8] at next
            have hbn : b < nr := (hbv (by omega)).1
            have hRb := (hH.2.2.2.2.2.1 b (by omega)).2
            have hTb := hRb.1
            refine z_aload_n (q := 45) dX3_letArrive_44 rfl rfl rfl ?_
            refine z_aload_n (q := 46) dX3_letArrive_45 rfl rfl rfl ?_
            refine z_getR (q := 49) 0 0 4 37 rfl (by decide) rfl rfl rfl (by with_reducible assumption) (by with_reducible assumption) dX3_letArrive_46 rfl ?_
            refine z_iload_n (q := 50) dX3_letArrive_49 rfl rfl rfl ?_
            refine z_ialdV (q := 51) _ (by with_reducible assumption) (rfl) (by omega) (by decide) (hsb) dX3_letArrive_50 rfl ?_
            refine z_invV (q := 54) (c_X3_roomAt_s G a b nr hH c0 hbn hnr) (by with_reducible assumption) rfl gX3_letArrive_X3_roomAt rfl hy_X3_roomAt rfl rfl rfl rfl (Nat.le_of_ble_eq_true rfl) ⟨Nat.zero_le _, Nat.zero_le _⟩ dX3_letArrive_51 rfl (z_rv ?_)
            refine z_astore (q := 56) dX3_letArrive_54 (by decide) rfl ?_
            refine z_aload (q := 58) dX3_letArrive_56 rfl rfl ?_
            refine z_ifnonnull (q := 75) dX3_letArrive_58 (by decide) ?_
            refine z_aload (q := 77) dX3_letArrive_75 rfl rfl ?_
            refine z_dup (q := 78) dX3_letArrive_77 rfl rfl ?_
            refine z_getI (q := 81) 5 2 6 49 rfl (by decide) rfl rfl rfl (by with_reducible assumption) dX3_letArrive_78 rfl ?_
            refine z_iload (q := 83) (i := 4) dX3_letArrive_81 rfl rfl ?_
            refine z_iadd (q := 84) dX3_letArrive_83 rfl ?_
            refine z_put (q := 87) 5 2 6 49 rfl (by decide) rfl rfl (tyX5_ok 2 (by decide)) (rfl) (rfl) rfl (by with_reducible assumption) dX3_letArrive_84 rfl ?_
            rw [HR_room hG4 (by omega) (by decide)]
            exact next _ (HRw_room hG4 _ (by omega) (by decide)) (z_P_f hP4 (fun q _ _ => zw_row _ _ (by omega)) (fun _ _ _ => rfl)) (fa_w f4 (by omega)) _ rfl
      refine z_pick [0, 1] hls ?_
      refine z_iload_n (q := 3) dX3_letArrive_2 rfl rfl rfl ?_
      refine z_aload_n (q := 4) dX3_letArrive_3 rfl rfl rfl ?_
      refine z_getV (q := 7) 3 5 1 32 rfl (by decide) rfl rfl rfl (by with_reducible assumption) (c1) dX3_letArrive_4 rfl ?_
      refine z_icmpn_ge (rfl) (rfl) (by omega) (by omega) (tgt := 99) (q := 10) dX3_letArrive_7 (by decide) rfl (fun hc => absurd hc (by omega)) (fun _ => ?_)
      refine z_iload_n (q := 11) dX3_letArrive_10 rfl rfl rfl ?_
      refine z_aload_n (q := 12) dX3_letArrive_11 rfl rfl rfl ?_
      refine z_getR (q := 15) 3 1 2 28 rfl (by decide) rfl rfl rfl (by with_reducible assumption) (by with_reducible assumption) dX3_letArrive_12 rfl ?_
      refine z_alen (q := 16) (by with_reducible assumption) dX3_letArrive_15 rfl ?_
      refine z_icmpn_ge (rfl) (rfl) (by omega) (by omega) (tgt := 99) (q := 19) dX3_letArrive_16 (by decide) rfl (fun hc => absurd hc (by omega)) (fun _ => ?_)
      refine z_aload_n (q := 20) dX3_letArrive_19 rfl rfl rfl ?_
      refine z_getR (q := 23) 3 1 2 28 rfl (by decide) rfl rfl rfl (by with_reducible assumption) (by with_reducible assumption) dX3_letArrive_20 rfl ?_
      refine z_iload_n (q := 24) dX3_letArrive_23 rfl rfl rfl ?_
      refine z_aald (q := 25) _ (by with_reducible assumption) (rfl) (by omega) (by decide) (by with_reducible assumption) dX3_letArrive_24 rfl ?_
      refine z_astore_n (q := 26) dX3_letArrive_25 rfl (by decide) rfl ?_
      refine z_iconst (q := 27) (v := nI 0) dX3_letArrive_26 (by rfl) rfl ?_
      refine z_istore_n (q := 28) dX3_letArrive_27 rfl (by decide) rfl ?_
      refine inner 0 (by decide) I2 ?_ hP2 f2 _ rfl
      have e : laW st i 0 = fun m => if m < 2 * i then st + 1 else st := by
        funext m
        unfold laW
        by_cases hm : m < 2 * i
        · rw [if_pos hm, if_pos (by omega)]
        · rw [if_neg hm, if_neg (by omega)]
      rw [e]
      exact hG2
  refine z_iconst (q := 1) (v := nI 0) dX3_letArrive_0 (by rfl) rfl ?_
  refine z_istore_n (q := 2) dX3_letArrive_1 rfl (by decide) rfl ?_
  refine loop 0 (Nat.zero_le _) I ?_ hP (fun _ _ => rfl) _ rfl
  have e : (fun m => if m < 2 * 0 then st + 1 else st) = fun _ : Nat => st := by
    funext m
    rw [if_neg (by omega)]
  rw [e]
  exact hG


