/-! THE CLASS WHOLE at x (cells x .. x+594): house x+1, what is foretold x+99, the past x+197, the text x+591, the entry told x+594 -/
def z_RT (T : zTT) (R : zRR) (x : Nat) : Prop := T x = some (.inl 7) ∧ R x 0 = some (x + 1) ∧ R x 1 = some (x + 99) ∧ R x 2 = some (x + 197) ∧ R x 3 = some (x + 591) ∧ R x 4 = some (x + 594) ∧ T (x + 594) = some (.inl 1) ∧ z_Sc T R (x + 591)
def z_St (T : zTT) (R : zRR) (I : zII) (x : Nat) (g : Nat → Int32) (p : Nat → Nat → Int32) (pc : Nat) (tx : Nat → Int32) (y : Nat) : Prop := z_RT T R x ∧ z_Hb T R I (x + 1) g ∧ (∃ st' g', z_Hs T R I (x + 99) st' g') ∧ z_Hist T R I (x + 197) p pc ∧ (I (x + 591) 1 = nI y ∧ y ≤ 80) ∧ I (x + 591 + 1) = tx ∧ TXT tx
def z_nx (T : zTT) (R : zRR) (I : zII) (x : Nat) (g : Nat → Int32) (p : Nat → Nat → Int32) (pc : Nat) (tx : Nat → Int32) (y : Nat) : Option (Nat → Int32) → Prop
  | none => z_St T R I x g p pc tx y
  | some g' => z_St T R I x g' (pushP p pc g) (chC pc + 1) tx y
abbrev z_fx (x : Nat) (I I' : zII) (R R' : zRR) : Prop := ∀ q, q < x ∨ x + 595 ≤ q → I' q = I q ∧ R' q = R q
theorem z_RT_R {T : zTT} {R R' : zRR} {x : Nat} (h : z_RT T R x) (h0 : R' x = R x) (h1 : R' (x + 591) = R (x + 591)) : z_RT T R' x := by
  obtain ⟨a, b, c, d, e, f, g, s1, ⟨s2, s3⟩, s4, s5⟩ := h
  exact ⟨a, by rw [h0]; exact b, by rw [h0]; exact c, by rw [h0]; exact d, by rw [h0]; exact e, by rw [h0]; exact f, g, s1, ⟨s2, by rw [h1]; exact s3⟩, s4, by rw [h1]; exact s5⟩
theorem St_hist {T : zTT} {R R' : zRR} {I I' : zII} {x pc pc' y : Nat} {g tx : Nat → Int32} {p p' : Nat → Nat → Int32} (h : z_St T R I x g p pc tx y) (hh : z_Hist T R' I' (x + 197) p' pc') (hf : ∀ q, q < x + 197 ∨ x + 591 ≤ q → I' q = I q ∧ R' q = R q) : z_St T R' I' x g p' pc' tx y := by
  obtain ⟨h1, h2, ⟨st', g', h3⟩, h4, ⟨h5, h6⟩, h7, h8⟩ := h
  refine ⟨z_RT_R h1 (hf x (by omega)).2 (hf (x + 591) (by omega)).2, z_Hb_f h2 (fun q q1 q2 => (hf q (by omega)).1) (fun q q1 q2 => (hf q (by omega)).2), ⟨st', g', z_Hs_f h3 (fun q q1 q2 => (hf q (by omega)).1) (fun q q1 q2 => (hf q (by omega)).2)⟩, hh, ⟨by rw [(hf _ (by omega)).1]; exact h5, h6⟩, by rw [(hf _ (by omega)).1]; exact h7, h8⟩
theorem St_house {T : zTT} {R R' : zRR} {I I' : zII} {x pc y : Nat} {g g2 tx : Nat → Int32} {p : Nat → Nat → Int32} (h : z_St T R I x g p pc tx y) (hh : z_Hb T R' I' (x + 1) g2) (hf : ∀ q, q < x + 1 ∨ x + 99 ≤ q → I' q = I q ∧ R' q = R q) : z_St T R' I' x g2 p pc tx y := by
  obtain ⟨h1, h2, ⟨st', g', h3⟩, h4, ⟨h5, h6⟩, h7, h8⟩ := h
  refine ⟨z_RT_R h1 (hf x (by omega)).2 (hf (x + 591) (by omega)).2, hh, ⟨st', g', z_Hs_f h3 (fun q q1 q2 => (hf q (by omega)).1) (fun q q1 q2 => (hf q (by omega)).2)⟩, z_Hist_f h4 (fun q q1 q2 => (hf q (by omega)).1) (fun q q1 q2 => (hf q (by omega)).2), ⟨by rw [(hf _ (by omega)).1]; exact h5, h6⟩, by rw [(hf _ (by omega)).1]; exact h7, h8⟩
/-- the entry told, and the text's places, are scratch -/
theorem St_scr {T : zTT} {R : zRR} {I I' : zII} {x pc y : Nat} {g tx : Nat → Int32} {p : Nat → Nat → Int32} (h : z_St T R I x g p pc tx y) (h1 : I' (x + 591) 1 = I (x + 591) 1) (hf : ∀ q, q ≠ x + 591 → q ≠ x + 593 → q ≠ x + 594 → I' q = I q) : z_St T R I' x g p pc tx y := by
  obtain ⟨g1, h2, ⟨st', g', h3⟩, h4, ⟨h5, h6⟩, h7, h8⟩ := h
  exact ⟨g1, z_Hb_f h2 (fun q q1 q2 => hf q (by omega) (by omega) (by omega)) (fun _ _ _ => rfl), ⟨st', g', z_Hs_f h3 (fun q q1 q2 => hf q (by omega) (by omega) (by omega)) (fun _ _ _ => rfl)⟩, z_Hist_f h4 (fun q q1 q2 => hf q (by omega) (by omega) (by omega)) (fun _ _ _ => rfl), ⟨h1.trans h5, h6⟩, by rw [hf _ (by omega) (by omega) (by omega)]; exact h7, h8⟩
/-- the state recorded -/
theorem rec_h (G : zG) {n : Nat} {T : zTT} {I : zII} {R : zRR} (x pc y : Nat) (g tx : Nat → Int32) (p : Nat → Nat → Int32) (hS : z_St T R I x g p pc tx y) : Ct G yX2_record wsX2_record (3, 0, 0) [.ref (x + 197), .ref (x + 1)] n T I R (z_rel none n T (fun I' R' => z_St T R' I' x g (pushP p pc g) (chC pc + 1) tx y ∧ (∀ q, q < x + 197 ∨ x + 591 ≤ q → I' q = I q ∧ R' q = R q))) := by
  refine (c_X2_record G (x + 1) (x + 197) pc g p hS.2.1 hS.2.2.2.1 (by omega)).impR (fun I' R' z => ?_)
  obtain ⟨z1, z2⟩ := z
  have hf : ∀ q, q < x + 197 ∨ x + 591 ≤ q → I' q = I q ∧ R' q = R q := fun q hq => z2 q (by omega)
  exact ⟨St_hist hS z1 hf, hf⟩
set_option maxRecDepth 100000 in
set_option maxHeartbeats 4000000 in
theorem c_X7_levelOf (G : zG) {n : Nat} {T : zTT} {I : zII} {R : zRR} (e : Int32) (he : 0 < e) : Ct G yX7_levelOf wsX7_levelOf (0, 0, 0) [.int e] n T I R (z_ret (some (.int (lvl e 31))) n T I R) := by
  refine Ct.ofX (M := muX7_levelOf) (ls := [(0, .int e)]) (by decide +kernel) rfl (by decide) rfl rfl (Nat.le_of_ble_eq_true rfl) ?_
  have l1 : lvl e 1 = nI 0 := by
    rw [lvl, if_neg]
    rw [show nI 0 &&& 31 = (0 : Int32) by decide, Int32.shiftRight_zero]
    exact Int32.not_le.mpr he
  have loop : ∀ d i, i + d = 31 → ∀ ls : List (Nat × Value), lv_pick ls [0, 1, 2] = [(0, .int e), (1, .int (lvl e i)), (2, .int (nI i))] → z_X G muX7_levelOf (0, 0, 0) (z_ret (some (.int (lvl e 31))) n T I R) n T I R 0 0 4 ls [] := by
    intro d
    induction d with
    | zero =>
      intro i hi ls hls
      have hi : i = 31 := hi
      subst hi
      refine z_pick [0, 1, 2] hls ?_
      refine z_iload_n (q := 5) dX7_levelOf_4 rfl rfl rfl ?_
      refine z_bipush (q := 7) (v := nI 31) dX7_levelOf_5 (by rfl) rfl ?_
      refine z_icmpn_ge (rfl) (rfl) (by omega) (by omega) (tgt := 24) (q := 10) dX7_levelOf_7 (by decide) rfl (fun _ => ?_) (fun hc => absurd hc (by omega))
      refine z_iload_n (q := 25) dX7_levelOf_24 rfl rfl rfl ?_
      exact z_iret rfl dX7_levelOf_25 (Nat.zero_le _) (Nat.zero_le _) (⟨rfl, rfl, rfl, rfl, rfl⟩)
    | succ d ih =>
      intro i hi ls hls
      refine z_pick [0, 1, 2] hls ?_
      refine z_iload_n (q := 5) dX7_levelOf_4 rfl rfl rfl ?_
      refine z_bipush (q := 7) (v := nI 31) dX7_levelOf_5 (by rfl) rfl ?_
      refine z_icmpn_ge (rfl) (rfl) (by omega) (by omega) (tgt := 24) (q := 10) dX7_levelOf_7 (by decide) rfl (fun hc => absurd hc (by omega)) (fun _ => ?_)
      refine z_iload_n (q := 11) dX7_levelOf_10 rfl rfl rfl ?_
      refine z_iload_n (q := 12) dX7_levelOf_11 rfl rfl rfl ?_
      refine z_ishr (q := 13) dX7_levelOf_12 rfl ?_
      refine z_if_le (tgt := 18) (q := 16) dX7_levelOf_13 (by decide) rfl (fun h13 => ?_) (fun h13 => ?_)
      · refine z_iinc (q := 21) dX7_levelOf_18 rfl (nI_add _ 1) (by decide) rfl ?_
        refine z_goto (q := 4) dX7_levelOf_21 (by decide) ?_
        exact ih (i + 1) (by omega) _ (by rw [lvl, if_pos h13]; rfl)
      · refine z_iload_n (q := 17) dX7_levelOf_16 rfl rfl rfl ?_
        refine z_istore_n (q := 18) dX7_levelOf_17 rfl (by decide) rfl ?_
        refine z_iinc (q := 21) dX7_levelOf_18 rfl (nI_add _ 1) (by decide) rfl ?_
        refine z_goto (q := 4) dX7_levelOf_21 (by decide) ?_
        exact ih (i + 1) (by omega) _ (by rw [lvl, if_neg h13]; rfl)
  refine z_iconst (q := 1) (v := nI 0) dX7_levelOf_0 (by rfl) rfl ?_
  refine z_istore_n (q := 2) dX7_levelOf_1 rfl (by decide) rfl ?_
  refine z_iconst (q := 3) (v := nI 1) dX7_levelOf_2 (by rfl) rfl ?_
  refine z_istore_n (q := 4) dX7_levelOf_3 rfl (by decide) rfl ?_
  exact loop 30 1 rfl _ (by rw [l1]; rfl)
theorem lvl_np {e : Int32} (he : e ≤ 0) : ∀ k, lvl e k = -4 := by
  intro k
  induction k with
  | zero => rfl
  | succ k ih =>
    rw [lvl, if_pos]
    · exact ih
    · have h1 := pk_shr e (nI k &&& 31) _ rfl
      have h2 : e.toInt ≤ 0 := Int32.le_iff_toInt_le.mp he
      refine Int32.le_iff_toInt_le.mpr ?_
      rw [h1]
      exact Int.shiftRight_le_of_nonpos h2
set_option maxRecDepth 100000 in
set_option maxHeartbeats 4000000 in
theorem c_X7_isRoomOrOutside (G : zG) {n : Nat} {T : zTT} {I : zII} {R : zRR} (x nr : Nat) (v : Int32) (hR : z_RT T R x) (hH : z_House T R (x + 1)) (hc4 : I (x + 1) 4 = nI nr) (hnr : nr ≤ 8) : Ct G yX7_isRoomOrOutside wsX7_isRoomOrOutside (1, 0, 0) [.ref x, .int v] n T I R (z_ret (some (.int (if (v < 0 ∨ nI nr ≤ v) ∧ ¬ v = nI 8 then 0 else 1))) n T I R) := by
  refine Ct.ofX (M := muX7_isRoomOrOutside) (ls := [(0, .ref x), (1, .int v)]) (by decide +kernel) rfl (by decide) rfl rfl (Nat.le_of_ble_eq_true rfl) ?_
  have hTx := hR.1
  have hRx := hR.2.1
  have hTh := hH.1
  have yes : ¬ ((v < 0 ∨ nI nr ≤ v) ∧ ¬ v = nI 8) → ∀ ls : List (Nat × Value), z_X G muX7_isRoomOrOutside (1, 0, 0) (z_ret (some (.int (if (v < 0 ∨ nI nr ≤ v) ∧ ¬ v = nI 8 then 0 else 1))) n T I R) n T I R 0 0 17 ls [] := by
    intro h ls
    rw [if_neg h]
    refine z_iconst (q := 18) (v := nI 1) dX7_isRoomOrOutside_17 (by rfl) rfl ?_
    refine z_goto (q := 22) dX7_isRoomOrOutside_18 (by decide) ?_
    exact z_zret rfl (by rfl) dX7_isRoomOrOutside_22 (Nat.zero_le _) (Nat.zero_le _) ⟨rfl, rfl, rfl, rfl, rfl⟩
  refine z_iload_n (q := 1) dX7_isRoomOrOutside_0 rfl rfl rfl ?_
  refine z_bipush (q := 3) (v := nI 8) dX7_isRoomOrOutside_1 (by rfl) rfl ?_
  refine z_icmp_eq (tgt := 17) (q := 6) dX7_isRoomOrOutside_3 (by decide) rfl (fun h3 => ?_) (fun h3 => ?_)
  · exact yes (fun z => z.2 h3) _
  · by_cases hx : v < 0 ∨ nI nr ≤ v
    · refine z_aload_n (q := 7) dX7_isRoomOrOutside_6 rfl rfl rfl ?_
      refine z_getR (q := 10) 7 0 1 9 rfl (by decide) rfl rfl rfl (by with_reducible assumption) (by with_reducible assumption) dX7_isRoomOrOutside_7 rfl ?_
      refine z_iload_n (q := 11) dX7_isRoomOrOutside_10 rfl rfl rfl ?_
      refine z_invV (q := 14) (c_X3_roomAt_n G (x + 1) nr v hH hc4 hx) (by with_reducible assumption) rfl gX7_isRoomOrOutside_X3_roomAt rfl hy_X3_roomAt rfl rfl rfl rfl (Nat.le_of_ble_eq_true rfl) ⟨Nat.zero_le _, Nat.zero_le _⟩ dX7_isRoomOrOutside_11 rfl (z_rv ?_)
      refine z_ifnullN (q := 21) dX7_isRoomOrOutside_14 (by decide) ?_
      rw [if_pos ⟨hx, h3⟩]
      refine z_iconst (q := 22) (v := nI 0) dX7_isRoomOrOutside_21 (by rfl) rfl ?_
      exact z_zret rfl (by rfl) dX7_isRoomOrOutside_22 (Nat.zero_le _) (Nat.zero_le _) ⟨rfl, rfl, rfl, rfl, rfl⟩
    · obtain ⟨k, hkn, hke⟩ : ∃ k, k < nr ∧ v = nI k := by
        rcases pk_ix v (n := nr) (by omega) with z | z | z
        · exact absurd (Or.inl z) hx
        · exact absurd (Or.inr z) hx
        · exact z
      have hy := yes (fun z => hx z.1)
      subst hke
      refine z_aload_n (q := 7) dX7_isRoomOrOutside_6 rfl rfl rfl ?_
      refine z_getR (q := 10) 7 0 1 9 rfl (by decide) rfl rfl rfl (by with_reducible assumption) (by with_reducible assumption) dX7_isRoomOrOutside_7 rfl ?_
      refine z_iload_n (q := 11) dX7_isRoomOrOutside_10 rfl rfl rfl ?_
      refine z_invV (q := 14) (c_X3_roomAt_s G (x + 1) k nr hH hc4 hkn hnr) (by with_reducible assumption) rfl gX7_isRoomOrOutside_X3_roomAt rfl hy_X3_roomAt rfl rfl rfl rfl (Nat.le_of_ble_eq_true rfl) ⟨Nat.zero_le _, Nat.zero_le _⟩ dX7_isRoomOrOutside_11 rfl (z_rv ?_)
      refine z_ifnull (q := 17) dX7_isRoomOrOutside_14 rfl ?_
      exact hy _


