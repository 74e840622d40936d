/-! THE CLASS, its past -/
theorem Ct.imp {G : zG} {y : MethodName} {ws : List Cond} {P : zP} {As : List Value} {n : Nat} {T : zTT} {I : zII} {R : zRR} {Q Q' : zQ} (h : Ct G y ws P As n T I R Q) (hq : ∀ (r : Option Value) (n' : Nat) (T' : zTT) (I' : zII) (R' : zRR), Q r n' T' I' R' → Q' r n' T' I' R') : Ct G y ws P As n T I R Q' := by
  intro p e ha hc hk s m args below hf happ hP hK
  obtain ⟨k, o, h1, h2, h3, h4⟩ := h p e ha hc hk s m args below hf happ hP hK
  refine ⟨k, o, h1, h2, h3, ?_⟩
  obtain ⟨⟨⟨r, n', T', I', R', a1, a2, a3, a4⟩, a5⟩, a6⟩ := h4
  exact ⟨⟨⟨r, n', T', I', R', a1, a2, a3, hq _ _ _ _ _ a4⟩, a5⟩, a6⟩
theorem Ct.impR {G : zG} {y : MethodName} {ws : List Cond} {P : zP} {As : List Value} {n : Nat} {T : zTT} {I : zII} {R : zRR} {r0 : Option Value} {Z Z' : zII → zRR → Prop} (h : Ct G y ws P As n T I R (z_rel r0 n T Z)) (hq : ∀ (I' : zII) (R' : zRR), Z I' R' → Z' I' R') : Ct G y ws P As n T I R (z_rel r0 n T Z') := h.imp (fun _ _ _ _ _ z => ⟨z.1, z.2.1, z.2.2.1, hq _ _ z.2.2.2⟩)
theorem z_Hs_f {T : zTT} {R R' : zRR} {I I' : zII} {a st : Nat} {g : Nat → Int32} (h : z_Hs T R I a st g) (hI : ∀ q, a ≤ q → q < a + 98 → I' q = I q) (hR : ∀ q, a ≤ q → q < a + 98 → R' q = R q) : z_Hs T R' I' a st g := by
  obtain ⟨hH, nr, nd, np, F, h1, h2, h3, h4⟩ := h
  exact ⟨z_House_R hH (fun q q1 q2 _ => hR q q1 q2), nr, nd, np, F, h1, HR_f h2 (fun q q1 q2 _ => hI q q1 q2), z_P_f h3 (fun q q1 q2 => hI q (by omega) (by omega)) (fun q q1 q2 => hR q (by omega) (by omega)), h4⟩
/-- what was told in all stays below its bound -/
def TLD (g : Nat → Int32) : Prop := ∃ v, g 5 = nI v ∧ v ≤ 1000000000
def z_Hb (T : zTT) (R : zRR) (I : zII) (a : Nat) (g : Nat → Int32) : Prop := ∃ st, z_Hs T R I a st g ∧ st ≤ 5000 ∧ TLD g
theorem z_Hb_f {T : zTT} {R R' : zRR} {I I' : zII} {a : Nat} {g : Nat → Int32} (h : z_Hb T R I a g) (hI : ∀ q, a ≤ q → q < a + 98 → I' q = I q) (hR : ∀ q, a ≤ q → q < a + 98 → R' q = R q) : z_Hb T R' I' a g := by
  obtain ⟨st, h1, h2⟩ := h
  exact ⟨st, z_Hs_f h1 hI hR, h2⟩
theorem copy_h (G : zG) {n : Nat} {T : zTT} {I : zII} {R : zRR} (a b st st' : Nat) (g g' : Nat → Int32) (hA : z_Hs T R I a st' g') (hB : z_Hs T R I b st g) (hd : a + 98 ≤ b ∨ b + 98 ≤ a) : Ct G yX3_copyFrom wsX3_copyFrom (2, 0, 0) [.ref a, .ref b] n T I R (z_rel none n T (fun I' R' => R' = R ∧ z_Hs T R I' a st g ∧ z_fa a I I')) := by
  obtain ⟨hHa, nr', nd', np', F', -, -, hPa, -⟩ := hA
  obtain ⟨hHb, nr, nd, np, F, hI, hG, hP, hF⟩ := hB
  refine (c_X3_copyFrom G a b np F g _ _ hHa hPa.2.1 hHb hP hG hd (fun d hd => ?_)).impR (fun I' R' z => ?_)
  · rw [HR_door hG hd (w := 6) (by decide) (by decide)]
    by_cases hn : d < nd
    · obtain ⟨sa, sb, ar, sp, de, o, t, l, -, -, -, -, -, -, -, -, g8⟩ := (hI.2.2.2.2.2.1 d hd).1 hn
      rcases (show l = 0 ∨ l = 1 by omega) with rfl | rfl
      · exact Or.inl (g8.1.trans nI_0)
      · exact Or.inr (g8.1.trans zI1)
    · exact Or.inl (((hI.2.2.2.2.2.1 d hd).2 (by omega)).1 7 (by decide))
  · obtain ⟨rfl, z1, z2, z3⟩ := z
    exact ⟨rfl, ⟨hHa, nr, nd, np, F, hI, z1, z2, hF⟩, z3⟩
/-- the past at h (cells h .. h+393): pc rows p -/
def z_Hist (T : zTT) (R : zRR) (I : zII) (h : Nat) (p : Nat → Nat → Int32) (pc : Nat) : Prop := T h = some (.inl 2) ∧ (T (h + 1) = some (.inr (.object RX3, 4)) ∧ R h 0 = some (h + 1)) ∧ (I h 1 = nI pc ∧ pc ≤ 4) ∧ ∃ ad : Nat → Nat, (∀ k, k < 4 → R (h + 1) k = some (ad k) ∧ ∃ i, i < 4 ∧ ad k = h + 2 + 98 * i) ∧ (∀ j k, j < 4 → k < 4 → ad j = ad k → j = k) ∧ ∀ k, k < 4 → ∃ g, z_Hb T R I (ad k) g ∧ (k < pc → ∀ c, c < 657 → g c = p k c)
theorem z_Hist_f {T : zTT} {R R' : zRR} {I I' : zII} {h pc : Nat} {p : Nat → Nat → Int32} (hH : z_Hist T R I h p pc) (hI : ∀ q, h ≤ q → q < h + 394 → I' q = I q) (hR : ∀ q, h ≤ q → q < h + 394 → R' q = R q) : z_Hist T R' I' h p pc := by
  obtain ⟨h1, ⟨h2, h3⟩, ⟨h4, h5⟩, ad, h6, h7, h8⟩ := hH
  refine ⟨h1, ⟨h2, by rw [hR h (by omega) (by omega)]; exact h3⟩, ⟨by rw [hI h (by omega) (by omega)]; exact h4, h5⟩, ad, fun k hk => ⟨by rw [hR (h + 1) (by omega) (by omega)]; exact (h6 k hk).1, (h6 k hk).2⟩, h7, fun k hk => ?_⟩
  obtain ⟨g, g1, g2⟩ := h8 k hk
  obtain ⟨i, i1, i2⟩ := (h6 k hk).2
  exact ⟨g, z_Hb_f g1 (fun q _ _ => hI q (by omega) (by omega)) (fun q _ _ => hR q (by omega) (by omega)), g2⟩
def pushP (p : Nat → Nat → Int32) (pc : Nat) (g : Nat → Int32) : Nat → Nat → Int32 := fun k => if k = chC pc then g else if pc = 4 then p (k + 1) else p k
set_option maxRecDepth 100000 in
set_option maxHeartbeats 4000000 in
theorem c_X2_forgetOldest (G : zG) {n : Nat} {T : zTT} {I : zII} {R : zRR} (h : Nat) (ad : Nat → Nat) (hT : T h = some (.inl 2)) (hT1 : T (h + 1) = some (.inr (.object RX3, 4))) (hR0 : R h 0 = some (h + 1)) (had : ∀ k, k < 4 → R (h + 1) k = some (ad k) ∧ T (ad k) = some (.inl 3)) : Ct G yX2_forgetOldest wsX2_forgetOldest (0, 0, 0) [.ref h] n T I R (z_rel none n T (fun I' R' => I' = zw I h 1 (nI 3) ∧ (∀ k, k < 3 → R' (h + 1) k = some (ad (k + 1))) ∧ R' (h + 1) 3 = some (ad 0) ∧ ∀ q, q ≠ h + 1 → R' q = R q)) := by
  refine Ct.ofX (M := muX2_forgetOldest) (ls := [(0, .ref h)]) (by decide +kernel) rfl (by decide) rfl rfl (Nat.le_of_ble_eq_true rfl) ?_
  have h0 := (had 0 (by decide)).1
  refine z_aload_n (q := 1) dX2_forgetOldest_0 rfl rfl rfl ?_
  refine z_getR (q := 4) 2 0 1 3 rfl (by decide) rfl rfl rfl (by with_reducible assumption) (by with_reducible assumption) dX2_forgetOldest_1 rfl ?_
  refine z_iconst (q := 5) (v := nI 0) dX2_forgetOldest_4 (by rfl) rfl ?_
  refine z_aald (q := 6) _ (by with_reducible assumption) (rfl) (by omega) (by decide) (by with_reducible assumption) dX2_forgetOldest_5 rfl ?_
  refine z_astore_n (q := 7) dX2_forgetOldest_6 rfl (by decide) rfl ?_
  refine z_iconst (q := 8) (v := nI 0) dX2_forgetOldest_7 (by rfl) rfl ?_
  refine z_istore_n (q := 9) dX2_forgetOldest_8 rfl (by decide) rfl ?_
  have loop : ∀ i, i ≤ 3 → ∀ R2 : zRR, (∀ j, j < 4 → R2 (h + 1) j = some (ad (if j < i then j + 1 else j))) → (∀ q, q ≠ h + 1 → R2 q = R q) → ∀ ls : List (Nat × Value), lv_pick ls [0, 1, 2] = [(0, .ref h), (1, .ref (ad 0)), (2, .int (nI i))] → z_X G muX2_forgetOldest (0, 0, 0) (z_rel none n T (fun I' R' => I' = zw I h 1 (nI 3) ∧ (∀ k, k < 3 → R' (h + 1) k = some (ad (k + 1))) ∧ R' (h + 1) 3 = some (ad 0) ∧ ∀ q, q ≠ h + 1 → R' q = R q)) n T I R2 0 0 9 ls [] := by
    refine z_up (N := 3) _ ?_ ?_
    · intro R2 e1 e2 ls hls
      have hR02 : R2 h 0 = some (h + 1) := by rw [e2 h (by omega)]; exact hR0
      have hT0 := (had 0 (by decide)).2
      have hRw : zw R2 (h + 1) 3 (some (ad 0)) h 0 = some (h + 1) := by rw [zw_row _ _ (by omega)]; exact hR02
      refine z_pick [0, 1, 2] hls ?_
      refine z_iload_n (q := 10) dX2_forgetOldest_9 rfl rfl rfl ?_
      refine z_iconst (q := 11) (v := nI 1) dX2_forgetOldest_10 (by rfl) rfl ?_
      refine z_iaddE (q := 12) dX2_forgetOldest_11 (nI_add _ _) rfl ?_
      refine z_aload_n (q := 13) dX2_forgetOldest_12 rfl rfl rfl ?_
      refine z_getR (q := 16) 2 0 1 3 rfl (by decide) rfl rfl rfl (by with_reducible assumption) (by with_reducible assumption) dX2_forgetOldest_13 rfl ?_
      refine z_alen (q := 17) (by with_reducible assumption) dX2_forgetOldest_16 rfl ?_
      refine z_icmpn_ge (rfl) (rfl) (by omega) (by omega) (tgt := 40) (q := 20) dX2_forgetOldest_17 (by decide) rfl (fun _ => ?_) (fun hc => absurd hc (by omega))
      refine z_aload_n (q := 41) dX2_forgetOldest_40 rfl rfl rfl ?_
      refine z_getR (q := 44) 2 0 1 3 rfl (by decide) rfl rfl rfl (by with_reducible assumption) (by with_reducible assumption) dX2_forgetOldest_41 rfl ?_
      refine z_aload_n (q := 45) dX2_forgetOldest_44 rfl rfl rfl ?_
      refine z_getR (q := 48) 2 0 1 3 rfl (by decide) rfl rfl rfl (by with_reducible assumption) (by with_reducible assumption) dX2_forgetOldest_45 rfl ?_
      refine z_alen (q := 49) (by with_reducible assumption) dX2_forgetOldest_48 rfl ?_
      refine z_iconst (q := 50) (v := nI 1) dX2_forgetOldest_49 (by rfl) rfl ?_
      refine z_isubE (q := 51) dX2_forgetOldest_50 (pk_sub (by decide)) rfl ?_
      refine z_aload_n (q := 52) dX2_forgetOldest_51 rfl rfl rfl ?_
      refine z_aast (q := 53) (ci := 3) (r := (RX3, _, _)) _ (by with_reducible assumption) rfl (by with_reducible assumption) (rfl) (by decide) (by decide) dX2_forgetOldest_52 rfl ?_
      refine z_aload_n (q := 54) dX2_forgetOldest_53 rfl rfl rfl ?_
      refine z_aload_n (q := 55) dX2_forgetOldest_54 rfl rfl rfl ?_
      refine z_getR (q := 58) 2 0 1 3 rfl (by decide) rfl rfl rfl (by with_reducible assumption) (by with_reducible assumption) dX2_forgetOldest_55 rfl ?_
      refine z_alen (q := 59) (by with_reducible assumption) dX2_forgetOldest_58 rfl ?_
      refine z_iconst (q := 60) (v := nI 1) dX2_forgetOldest_59 (by rfl) rfl ?_
      refine z_isubE (q := 61) dX2_forgetOldest_60 (pk_sub (by decide)) rfl ?_
      refine z_put (q := 64) 2 1 2 4 rfl (by decide) rfl rfl (tyX2_ok 1 (by decide)) (rfl) (rfl) rfl (by with_reducible assumption) dX2_forgetOldest_61 rfl ?_
      refine z_vret rfl dX2_forgetOldest_64 (Nat.zero_le _) (Nat.zero_le _) ⟨rfl, rfl, rfl, rfl, fun k hk => ?_, zw_s _ _ _ _, fun q hq => ?_⟩
      · rw [zw_k _ _ (by omega), e1 k (by omega), if_pos hk]
      · rw [zw_row _ _ hq]; exact e2 q hq
    · intro i hi ih R2 e1 e2 ls hls
      have hR02 : R2 h 0 = some (h + 1) := by rw [e2 h (by omega)]; exact hR0
      have hv : R2 (h + 1) (i + 1) = some (ad (i + 1)) := by rw [e1 (i + 1) (by omega), if_neg (by omega)]
      have hTv := (had (i + 1) (by omega)).2
      refine z_pick [0, 1, 2] hls ?_
      refine z_iload_n (q := 10) dX2_forgetOldest_9 rfl rfl rfl ?_
      refine z_iconst (q := 11) (v := nI 1) dX2_forgetOldest_10 (by rfl) rfl ?_
      refine z_iaddE (q := 12) dX2_forgetOldest_11 (nI_add _ _) rfl ?_
      refine z_aload_n (q := 13) dX2_forgetOldest_12 rfl rfl rfl ?_
      refine z_getR (q := 16) 2 0 1 3 rfl (by decide) rfl rfl rfl (by with_reducible assumption) (by with_reducible assumption) dX2_forgetOldest_13 rfl ?_
      refine z_alen (q := 17) (by with_reducible assumption) dX2_forgetOldest_16 rfl ?_
      refine z_icmpn_ge (rfl) (rfl) (by omega) (by omega) (tgt := 40) (q := 20) dX2_forgetOldest_17 (by decide) rfl (fun hc => absurd hc (by omega)) (fun _ => ?_)
      refine z_aload_n (q := 21) dX2_forgetOldest_20 rfl rfl rfl ?_
      refine z_getR (q := 24) 2 0 1 3 rfl (by decide) rfl rfl rfl (by with_reducible assumption) (by with_reducible assumption) dX2_forgetOldest_21 rfl ?_
      refine z_iload_n (q := 25) dX2_forgetOldest_24 rfl rfl rfl ?_
      refine z_aload_n (q := 26) dX2_forgetOldest_25 rfl rfl rfl ?_
      refine z_getR (q := 29) 2 0 1 3 rfl (by decide) rfl rfl rfl (by with_reducible assumption) (by with_reducible assumption) dX2_forgetOldest_26 rfl ?_
      refine z_iload_n (q := 30) dX2_forgetOldest_29 rfl rfl rfl ?_
      refine z_iconst (q := 31) (v := nI 1) dX2_forgetOldest_30 (by rfl) rfl ?_
      refine z_iaddE (q := 32) dX2_forgetOldest_31 (nI_add _ _) rfl ?_
      refine z_aald (q := 33) _ (by with_reducible assumption) (rfl) (by omega) (by decide) (by with_reducible assumption) dX2_forgetOldest_32 rfl ?_
      refine z_aast (q := 34) (ci := 3) (r := (RX3, _, _)) _ (by with_reducible assumption) rfl (by with_reducible assumption) (rfl) (by omega) (by decide) dX2_forgetOldest_33 rfl ?_
      refine z_iinc (q := 37) dX2_forgetOldest_34 rfl (nI_add _ 1) (by decide) rfl ?_
      refine z_goto (q := 9) dX2_forgetOldest_37 (by decide) ?_
      refine ih _ (fun j hj => ?_) (fun q hq => by rw [zw_row _ _ hq]; exact e2 q hq) _ rfl
      by_cases e : j = i
      · subst e
        rw [zw_s, if_pos (Nat.lt_succ_self j)]
      · rw [zw_k _ _ e, e1 j hj]
        by_cases e3 : j < i
        · rw [if_pos e3, if_pos (by omega)]
        · rw [if_neg e3, if_neg (by omega)]
  exact loop 0 (by decide) R (fun j hj => (had j hj).1) (fun _ _ => rfl) _ rfl


