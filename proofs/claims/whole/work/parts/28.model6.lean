/-! THE REFERENCE, foretelling: what is begun, tails -/
/-- sounds left out, from the last entry on -/
def begF : Nat → (Nat → Int32) → (Nat → Int32)
  | 0, g => g
  | k + 1, g => begF k (if g (321 + 5 * k + 1) = 0 then lvs g k (gN g 2) else g)
def begN (g : Nat → Int32) : Nat → Int32 := begF (gN g 2) g
def keepB (e : zE) : Bool := !decide (e.2.1 = 0)
theorem begF_spec {nr nd st : Nat} : ∀ (k np : Nat) (g : Nat → Int32), INV nr nd np st g → k ≤ np → (∀ j, k ≤ j → j < np → ¬ g (321 + 5 * j + 1) = 0) → ∃ np', INV nr nd np' st (begF k g) ∧ planL (begF k g) np' = (planL g np).filter keepB ∧ ∀ j, sc j → begF k g j = g j := by
  intro k
  induction k with
  | zero =>
    intro np g hI hk hn
    refine ⟨np, hI, ?_, fun j _ => rfl⟩
    rw [List.filter_eq_self.mpr]
    · rfl
    · intro e he
      obtain ⟨i, hi, rfl⟩ := planL_in he
      simp only [keepB]
      rw [decide_eq_false (show ¬ (ent g i).2.1 = 0 from hn i (Nat.zero_le _) hi)]
      rfl
  | succ k ih =>
    intro np g hI hk hn
    have hg2 : gN g 2 = np := gN_of hI.2.2.1.1 (by have := hI.2.2.1.2; omega)
    rw [begF, hg2]
    have hek : (planL g np)[k]? = some (ent g k) := by rw [planL_get, if_pos (by omega)]
    by_cases h0 : g (321 + 5 * k + 1) = 0
    · rw [if_pos h0]
      obtain ⟨np', a1, a2, a3⟩ := ih (np - 1) _ (INV_lvs (i := k) hI (by omega)) (by omega) (fun j h1 h2 => by
        rw [lvs_c g h2 (by decide)]
        rw [if_neg (by omega)]
        exact hn (j + 1) (by omega) (by omega))
      refine ⟨np', a1, ?_, fun j hj => by rw [a3 j hj]; exact lvs_o _ hj.1 hj.2 hI.2.2.1.2⟩
      rw [a2, planL_lvs _ (by omega)]
      refine filter_erase _ _ _ _ hek ?_
      simp only [keepB]
      rw [decide_eq_true (show (ent g k).2.1 = 0 from h0)]
      rfl
    · rw [if_neg h0]
      exact ih np g hI (by omega) (fun j h1 h2 => by
        by_cases e : j = k
        · rw [e]; exact h0
        · exact hn j (by omega) h2)
theorem begN_spec {nr nd np st : Nat} {g : Nat → Int32} (hI : INV nr nd np st g) : ∃ np', INV nr nd np' st (begN g) ∧ planL (begN g) np' = (planL g np).filter keepB ∧ ∀ j, sc j → begN g j = g j := by
  have hg2 : gN g 2 = np := gN_of hI.2.2.1.1 (by have := hI.2.2.1.2; omega)
  rw [begN, hg2]
  exact begF_spec np np g hI (Nat.le_refl _) (fun j h1 h2 => absurd h2 (by omega))
theorem z_sub1 (x : Int32) : x + Int32.ofInt (-1) = x - nI 1 := by rw [Int32.sub_eq_add_neg, show -(nI 1) = Int32.ofInt (-1) from by decide +kernel]
/-- the foretold row alone may be another one; scratch may be anything -/
abbrev z_scr (m : Nat) (I I' : zII) : Prop := ∀ q, q ≠ m + 2 → q ≠ m + 5 → I' q = I q
set_option maxRecDepth 100000 in
set_option maxHeartbeats 4000000 in
theorem c_X8_begins_t (G : zG) {n : Nat} {T : zTT} {I : zII} {R : zRR} (m nr nd np st : Nat) (hM : z_Mod T R m) (hI : INV nr nd np st (I (m + 1))) : Ct G yX8_begins wsX8_begins (1, 0, 0) [.ref m, .int (nI 1)] n T I R (z_rel none n T (fun I' R' => R' = R ∧ I' (m + 2) = I (m + 1) ∧ z_scr m I I')) := by
  refine Ct.ofX (M := muX8_begins) (ls := [(0, .ref m), (1, .int (nI 1))]) (by decide +kernel) rfl (by decide) rfl rfl (Nat.le_of_ble_eq_true rfl) ?_
  obtain ⟨hT, ⟨hTs, hRs⟩, ⟨hTw, hRw⟩, -⟩ := hM
  refine z_iconst (q := 1) (v := nI 0) dX8_begins_0 (by rfl) rfl ?_
  refine z_istore_n (q := 2) dX8_begins_1 rfl (by decide) rfl ?_
  have loop : ∀ i, i ≤ 657 → ∀ I2, (∀ k, k < i → I2 (m + 2) k = I (m + 1) k) → (∀ q, q ≠ m + 2 → I2 q = I q) → z_X G muX8_begins (1, 0, 0) (z_rel none n T (fun I' R' => R' = R ∧ I' (m + 2) = I (m + 1) ∧ z_scr m I I')) n T I2 R 0 0 2 [(0, .ref m), (1, .int (nI 1)), (2, .int (nI i))] [] := by
    refine z_up (N := 657) _ ?_ ?_
    · intro I2 h1 h2
      refine z_iload_n (q := 3) dX8_begins_2 rfl rfl rfl ?_
      refine z_sipush (q := 6) (v := nI 657) dX8_begins_3 (by rfl) rfl ?_
      refine z_icmpn_ge (rfl) (rfl) (by omega) (by omega) (tgt := 27) (q := 9) dX8_begins_6 (by decide) rfl (fun _ => ?_) (fun hc => absurd hc (by omega))
      refine z_ext_row (r := m + 2) (I (m + 1)) hTw (fun j hj => (h1 j hj).symm) ?_
      have e2 : zN I2 (m + 2) (I (m + 1)) (m + 2) 2 = nI np := by rw [zN_s]; exact hI.2.2.1.1
      refine z_aload_n (q := 28) dX8_begins_27 rfl rfl rfl ?_
      refine z_getR (q := 31) 8 1 1 11 rfl (by decide) rfl rfl rfl (by with_reducible assumption) (by with_reducible assumption) dX8_begins_28 rfl ?_
      refine z_iconst (q := 32) (v := nI 2) dX8_begins_31 (by rfl) rfl ?_
      refine z_ialdV (q := 33) _ (by with_reducible assumption) (rfl) (by omega) (by decide) (e2) dX8_begins_32 rfl ?_
      refine z_iconst (q := 34) (v := nI 1) dX8_begins_33 (by rfl) rfl ?_
      refine z_isub (q := 35) dX8_begins_34 rfl ?_
      refine z_istore_n (q := 36) dX8_begins_35 rfl (by decide) rfl ?_
      refine z_iload_n (q := 37) dX8_begins_36 rfl rfl rfl ?_
      have fin : z_X G muX8_begins (1, 0, 0) (z_rel none n T (fun I' R' => R' = R ∧ I' (m + 2) = I (m + 1) ∧ z_scr m I I')) n T (zN I2 (m + 2) (I (m + 1))) R 0 0 70 [(0, .ref m), (1, .int (nI 1)), (2, .int (nI np - nI 1))] [] := by
        refine z_vret rfl dX8_begins_70 (Nat.zero_le _) (Nat.zero_le _) ⟨rfl, rfl, rfl, rfl, zN_s _ _ _, fun q hq hf => ?_⟩
        rw [zN_n _ _ hq]
        exact h2 q hq
      refine z_if_lt (tgt := 70) (q := 40) dX8_begins_37 (by decide) rfl (fun hc => ?_) (fun hc => ?_)
      · exact fin
      · refine z_iload_n (q := 41) dX8_begins_40 rfl rfl rfl ?_
        refine z_if_ne (tgt := 70) (q := 44) dX8_begins_41 (by decide) rfl (fun _ => ?_) (fun hc => False.elim (absurd hc (by decide)))
        exact fin
    · intro i hi ih I2 h1 h2
      refine z_iload_n (q := 3) dX8_begins_2 rfl rfl rfl ?_
      refine z_sipush (q := 6) (v := nI 657) dX8_begins_3 (by rfl) rfl ?_
      refine z_icmpn_ge (rfl) (rfl) (by omega) (by omega) (tgt := 27) (q := 9) dX8_begins_6 (by decide) rfl (fun hc => absurd hc (by omega)) (fun _ => ?_)
      refine z_aload_n (q := 10) dX8_begins_9 rfl rfl rfl ?_
      refine z_getR (q := 13) 8 1 1 11 rfl (by decide) rfl rfl rfl (by with_reducible assumption) (by with_reducible assumption) dX8_begins_10 rfl ?_
      refine z_iload_n (q := 14) dX8_begins_13 rfl rfl rfl ?_
      refine z_aload_n (q := 15) dX8_begins_14 rfl rfl rfl ?_
      refine z_getR (q := 18) 8 0 2 10 rfl (by decide) rfl rfl rfl (by with_reducible assumption) (by with_reducible assumption) dX8_begins_15 rfl ?_
      refine z_iload_n (q := 19) dX8_begins_18 rfl rfl rfl ?_
      refine z_iald (q := 20) _ (by with_reducible assumption) (rfl) (by omega) (by decide) dX8_begins_19 rfl ?_
      refine z_iast (q := 21) _ (by with_reducible assumption) (rfl) (by omega) (by decide) dX8_begins_20 rfl ?_
      refine z_iinc (q := 24) dX8_begins_21 rfl (nI_add _ 1) (by decide) rfl ?_
      refine z_goto (q := 2) dX8_begins_24 (by decide) ?_
      refine ih _ (fun k hk => ?_) (fun q hq => ?_)
      · by_cases hki : k = i
        · subst hki
          rw [zw_s]
          exact congrFun (h2 (m + 1) (by omega)) k
        · rw [zw_k _ _ hki]
          exact h1 k (by omega)
      · rw [zw_row _ _ hq]
        exact h2 q hq
  exact loop 0 (Nat.zero_le _) I (fun k hk => absurd hk (Nat.not_lt_zero k)) (fun _ _ => rfl)
set_option maxRecDepth 100000 in
set_option maxHeartbeats 4000000 in
theorem c_X8_begins_f (G : zG) {n : Nat} {T : zTT} {I : zII} {R : zRR} (m nr nd np st : Nat) (hM : z_Mod T R m) (hI : INV nr nd np st (I (m + 1))) : Ct G yX8_begins wsX8_begins (1, 0, 0) [.ref m, .int (nI 0)] n T I R (z_rel none n T (fun I' R' => R' = R ∧ I' (m + 2) = begN (I (m + 1)) ∧ z_scr m I I')) := by
  refine Ct.ofX (M := muX8_begins) (ls := [(0, .ref m), (1, .int (nI 0))]) (by decide +kernel) rfl (by decide) rfl rfl (Nat.le_of_ble_eq_true rfl) ?_
  obtain ⟨hT, ⟨hTs, hRs⟩, ⟨hTw, hRw⟩, -⟩ := hM
  refine z_iconst (q := 1) (v := nI 0) dX8_begins_0 (by rfl) rfl ?_
  refine z_istore_n (q := 2) dX8_begins_1 rfl (by decide) rfl ?_
  have loop2 : ∀ k np2 I2, k ≤ np2 → INV nr nd np2 st (I2 (m + 2)) → begF k (I2 (m + 2)) = begN (I (m + 1)) → (∀ q, q ≠ m + 2 → I2 q = I q) → ∀ x : Int32, x = nI k - nI 1 → z_X G muX8_begins (1, 0, 0) (z_rel none n T (fun I' R' => R' = R ∧ I' (m + 2) = begN (I (m + 1)) ∧ z_scr m I I')) n T I2 R 0 0 36 [(0, .ref m), (1, .int (nI 0)), (2, .int x)] [] := by
    intro k
    induction k with
    | zero =>
      intro np2 I2 hk hI2 hE hF x hx
      refine z_iload_n (q := 37) dX8_begins_36 rfl rfl rfl ?_
      refine z_if_lt (tgt := 70) (q := 40) dX8_begins_37 (by decide) rfl (fun _ => ?_) (fun hc => False.elim (hc (by rw [hx]; decide)))
      exact z_vret rfl dX8_begins_70 (Nat.zero_le _) (Nat.zero_le _) ⟨rfl, rfl, rfl, rfl, hE, fun q hq _ => hF q hq⟩
    | succ k ih =>
      intro np2 I2 hk hI2 hE hF x hx
      have hle := hI2.2.2.1.2
      have hg2 : gN (I2 (m + 2)) 2 = np2 := gN_of hI2.2.2.1.1 (by omega)
      have hx2 : x = nI k := by rw [hx, pk_sub (by omega)]; rfl
      subst hx2
      rw [begF, hg2] at hE
      refine z_iload_n (q := 37) dX8_begins_36 rfl rfl rfl ?_
      refine z_if_lt (tgt := 70) (q := 40) dX8_begins_37 (by decide) rfl (fun hc => False.elim (nI_pos (n := k) (by omega) hc)) (fun _ => ?_)
      refine z_iload_n (q := 41) dX8_begins_40 rfl rfl rfl ?_
      refine z_if_ne (tgt := 70) (q := 44) dX8_begins_41 (by decide) rfl (fun hc => False.elim (hc rfl)) (fun _ => ?_)
      refine z_aload_n (q := 45) dX8_begins_44 rfl rfl rfl ?_
      refine z_getR (q := 48) 8 1 1 11 rfl (by decide) rfl rfl rfl (by with_reducible assumption) (by with_reducible assumption) dX8_begins_45 rfl ?_
      refine z_iload_n (q := 49) dX8_begins_48 rfl rfl rfl ?_
      refine z_iconst (q := 50) (v := nI 1) dX8_begins_49 (by rfl) rfl ?_
      refine z_invS (q := 53) (c_X8_entry G (m + 2) k 1 hTw (by omega)) gX8_begins_X8_entry rfl hy_X8_entry rfl rfl rfl rfl (Nat.le_of_ble_eq_true rfl) ⟨Nat.zero_le _, Nat.zero_le _⟩ dX8_begins_50 rfl (z_rv ?_)
      refine z_if_ne (tgt := 64) (q := 56) dX8_begins_53 (by decide) rfl (fun h53 => ?_) (fun h53 => ?_)
      · rw [if_neg h53] at hE
        refine z_iinc (q := 67) dX8_begins_64 rfl (z_sub1 _) (by decide) rfl ?_
        refine z_goto (q := 36) dX8_begins_67 (by decide) ?_
        refine ih np2 I2 (by omega) hI2 hE hF _ rfl
      · rw [if_pos h53] at hE
        refine z_aload_n (q := 57) dX8_begins_56 rfl rfl rfl ?_
        refine z_getR (q := 60) 8 1 1 11 rfl (by decide) rfl rfl rfl (by with_reducible assumption) (by with_reducible assumption) dX8_begins_57 rfl ?_
        refine z_iload_n (q := 61) dX8_begins_60 rfl rfl rfl ?_
        refine z_invS (q := 64) (c_X8_leaves G (m + 2) k np2 hTw hI2.2.2.1.1 hle (by omega)) gX8_begins_X8_leaves rfl hy_X8_leaves rfl rfl rfl rfl (Nat.le_of_ble_eq_true rfl) ⟨Nat.zero_le _, Nat.zero_le _⟩ dX8_begins_61 rfl (z_rnR fun I3 R3 hZ3 => ?_)
        obtain ⟨rfl, h3⟩ := hZ3
        refine z_iinc (q := 67) dX8_begins_64 rfl (z_sub1 _) (by decide) rfl ?_
        refine z_goto (q := 36) dX8_begins_67 (by decide) ?_
        refine ih (np2 - 1) I3 (by omega) (by rw [h3.1]; exact INV_lvs hI2 (by omega)) (by rw [h3.1]; exact hE) (fun q hq => by rw [h3.2 q hq]; exact hF q hq) _ rfl
  have loop : ∀ i, i ≤ 657 → ∀ I2, (∀ k, k < i → I2 (m + 2) k = I (m + 1) k) → (∀ q, q ≠ m + 2 → I2 q = I q) → z_X G muX8_begins (1, 0, 0) (z_rel none n T (fun I' R' => R' = R ∧ I' (m + 2) = begN (I (m + 1)) ∧ z_scr m I I')) n T I2 R 0 0 2 [(0, .ref m), (1, .int (nI 0)), (2, .int (nI i))] [] := by
    refine z_up (N := 657) _ ?_ ?_
    · intro I2 h1 h2
      refine z_iload_n (q := 3) dX8_begins_2 rfl rfl rfl ?_
      refine z_sipush (q := 6) (v := nI 657) dX8_begins_3 (by rfl) rfl ?_
      refine z_icmpn_ge (rfl) (rfl) (by omega) (by omega) (tgt := 27) (q := 9) dX8_begins_6 (by decide) rfl (fun _ => ?_) (fun hc => absurd hc (by omega))
      refine z_ext_row (r := m + 2) (I (m + 1)) hTw (fun j hj => (h1 j hj).symm) ?_
      have e2 : zN I2 (m + 2) (I (m + 1)) (m + 2) 2 = nI np := by rw [zN_s]; exact hI.2.2.1.1
      refine z_aload_n (q := 28) dX8_begins_27 rfl rfl rfl ?_
      refine z_getR (q := 31) 8 1 1 11 rfl (by decide) rfl rfl rfl (by with_reducible assumption) (by with_reducible assumption) dX8_begins_28 rfl ?_
      refine z_iconst (q := 32) (v := nI 2) dX8_begins_31 (by rfl) rfl ?_
      refine z_ialdV (q := 33) _ (by with_reducible assumption) (rfl) (by omega) (by decide) (e2) dX8_begins_32 rfl ?_
      refine z_iconst (q := 34) (v := nI 1) dX8_begins_33 (by rfl) rfl ?_
      refine z_isub (q := 35) dX8_begins_34 rfl ?_
      refine z_istore_n (q := 36) dX8_begins_35 rfl (by decide) rfl ?_
      refine loop2 np np _ (Nat.le_refl _) (by rw [zN_s]; exact hI) ?_ (fun q hq => by rw [zN_n _ _ hq]; exact h2 q hq) _ rfl
      rw [zN_s, begN, gN_of hI.2.2.1.1 (by have := hI.2.2.1.2; omega)]
    · intro i hi ih I2 h1 h2
      refine z_iload_n (q := 3) dX8_begins_2 rfl rfl rfl ?_
      refine z_sipush (q := 6) (v := nI 657) dX8_begins_3 (by rfl) rfl ?_
      refine z_icmpn_ge (rfl) (rfl) (by omega) (by omega) (tgt := 27) (q := 9) dX8_begins_6 (by decide) rfl (fun hc => absurd hc (by omega)) (fun _ => ?_)
      refine z_aload_n (q := 10) dX8_begins_9 rfl rfl rfl ?_
      refine z_getR (q := 13) 8 1 1 11 rfl (by decide) rfl rfl rfl (by with_reducible assumption) (by with_reducible assumption) dX8_begins_10 rfl ?_
      refine z_iload_n (q := 14) dX8_begins_13 rfl rfl rfl ?_
      refine z_aload_n (q := 15) dX8_begins_14 rfl rfl rfl ?_
      refine z_getR (q := 18) 8 0 2 10 rfl (by decide) rfl rfl rfl (by with_reducible assumption) (by with_reducible assumption) dX8_begins_15 rfl ?_
      refine z_iload_n (q := 19) dX8_begins_18 rfl rfl rfl ?_
      refine z_iald (q := 20) _ (by with_reducible assumption) (rfl) (by omega) (by decide) dX8_begins_19 rfl ?_
      refine z_iast (q := 21) _ (by with_reducible assumption) (rfl) (by omega) (by decide) dX8_begins_20 rfl ?_
      refine z_iinc (q := 24) dX8_begins_21 rfl (nI_add _ 1) (by decide) rfl ?_
      refine z_goto (q := 2) dX8_begins_24 (by decide) ?_
      refine ih _ (fun k hk => ?_) (fun q hq => ?_)
      · by_cases hki : k = i
        · subst hki
          rw [zw_s]
          exact congrFun (h2 (m + 1) (by omega)) k
        · rw [zw_k _ _ hki]
          exact h1 k (by omega)
      · rw [zw_row _ _ hq]
        exact h2 q hq
  exact loop 0 (Nat.zero_le _) I (fun k hk => absurd hk (Nat.not_lt_zero k)) (fun _ _ => rfl)
/-- the tail by steps -/
def tailS (room : Nat) (due : Int32) : Nat → Nat → (Nat → Int32) → Int32
  | 0, _, _ => -4
  | f + 1, i, g => if mStep g (9 + 6 * room + 2) ≤ due then nI i else tailS room due f (i + 1) (mStep g)
set_option maxRecDepth 100000 in
set_option maxHeartbeats 4000000 in
theorem c_X8_tailOf (G : zG) {n : Nat} {T : zTT} {I : zII} {R : zRR} (m room nr nd np st : Nat) (hM : z_Mod T R m) (hr : room < 8) (hI : INV nr nd np st (I (m + 2))) (hst : st < 90000) : Ct G yX8_tailOf wsX8_tailOf (5, 0, 0) [.ref m, .int (nI room)] n T I R (z_rel (some (.int (tailS room (I (m + 2) (9 + 6 * room + 2) / nI 1000) 200 1 (I (m + 2))))) n T (fun I' R' => R' = R ∧ z_scr m I I')) := by
  refine Ct.ofX (M := muX8_tailOf) (ls := [(0, .ref m), (1, .int (nI room))]) (by decide +kernel) rfl (by decide) rfl rfl (Nat.le_of_ble_eq_true rfl) ?_
  obtain ⟨hT, ⟨hTs, hRs⟩, ⟨hTw, hRw⟩, -⟩ := id hM
  refine z_aload_n (q := 1) dX8_tailOf_0 rfl rfl rfl ?_
  refine z_getR (q := 4) 8 1 1 54 rfl (by decide) rfl rfl rfl (by with_reducible assumption) (by with_reducible assumption) dX8_tailOf_1 rfl ?_
  refine z_iload_n (q := 5) dX8_tailOf_4 rfl rfl rfl ?_
  refine z_iconst (q := 6) (v := nI 2) dX8_tailOf_5 (by rfl) rfl ?_
  refine z_invS (q := 9) (c_X8_inRoom G (m + 2) room 2 hTw (by omega)) gX8_tailOf_X8_inRoom rfl hy_X8_inRoom rfl rfl rfl rfl (Nat.le_of_ble_eq_true rfl) ⟨Nat.zero_le _, Nat.zero_le _⟩ dX8_tailOf_6 rfl (z_rv ?_)
  refine z_sipush (q := 12) (v := nI 1000) dX8_tailOf_9 (by rfl) rfl ?_
  refine z_idiv (q := 13) dX8_tailOf_12 (by decide) rfl ?_
  refine z_istore_n (q := 14) dX8_tailOf_13 rfl (by decide) rfl ?_
  refine z_iconst (q := 15) (v := nI 1) dX8_tailOf_14 (by rfl) rfl ?_
  refine z_istore_n (q := 16) dX8_tailOf_15 rfl (by decide) rfl ?_
  have loop : ∀ d i st2 np2 I2, i + d = 201 → st2 < 90000 + i → INV nr nd np2 st2 (I2 (m + 2)) → z_scr m I I2 → tailS room (I (m + 2) (9 + 6 * room + 2) / nI 1000) d i (I2 (m + 2)) = tailS room (I (m + 2) (9 + 6 * room + 2) / nI 1000) 200 1 (I (m + 2)) → z_X G muX8_tailOf (5, 0, 0) (z_rel (some (.int (tailS room (I (m + 2) (9 + 6 * room + 2) / nI 1000) 200 1 (I (m + 2))))) n T (fun I' R' => R' = R ∧ z_scr m I I')) n T I2 R 0 0 16 [(0, .ref m), (1, .int (nI room)), (2, .int (I (m + 2) (9 + 6 * room + 2) / nI 1000)), (3, .int (nI i))] [] := by
    intro d
    induction d with
    | zero =>
      intro i st2 np2 I2 hd hst2 hI2 hF hE
      refine z_iload_n (q := 17) dX8_tailOf_16 rfl rfl rfl ?_
      refine z_sipush (q := 20) (v := nI 200) dX8_tailOf_17 (by rfl) rfl ?_
      refine z_icmpn_gt (rfl) (rfl) (by omega) (by omega) (tgt := 52) (q := 23) dX8_tailOf_20 (by decide) rfl (fun _ => ?_) (fun hc => absurd hc (by omega))
      refine z_bipush (q := 54) (v := (-4)) dX8_tailOf_52 (by rfl) rfl ?_
      exact z_iret rfl dX8_tailOf_54 (Nat.zero_le _) (Nat.zero_le _) ⟨by rw [← hE]; rfl, rfl, rfl, rfl, hF⟩
    | succ d ih =>
      intro i st2 np2 I2 hd hst2 hI2 hF hE
      refine z_iload_n (q := 17) dX8_tailOf_16 rfl rfl rfl ?_
      refine z_sipush (q := 20) (v := nI 200) dX8_tailOf_17 (by rfl) rfl ?_
      refine z_icmpn_gt (rfl) (rfl) (by omega) (by omega) (tgt := 52) (q := 23) dX8_tailOf_20 (by decide) rfl (fun hc => absurd hc (by omega)) (fun _ => ?_)
      refine z_aload_n (q := 24) dX8_tailOf_23 rfl rfl rfl ?_
      refine z_aload_n (q := 25) dX8_tailOf_24 rfl rfl rfl ?_
      refine z_getR (q := 28) 8 1 1 54 rfl (by decide) rfl rfl rfl (by with_reducible assumption) (by with_reducible assumption) dX8_tailOf_25 rfl ?_
      refine z_invV (q := 31) (c_X8_goes G m (m + 2) nr nd np2 st2 hM hTw (by omega) hI2 (by omega)) (by with_reducible assumption) rfl gX8_tailOf_X8_goes rfl hy_X8_goes rfl rfl rfl rfl (Nat.le_of_ble_eq_true rfl) ⟨Nat.zero_le _, Nat.zero_le _⟩ dX8_tailOf_28 rfl (z_rnR fun I3 R3 hZ3 => ?_)
      obtain ⟨rfl, h3⟩ := hZ3
      obtain ⟨np3, hI3⟩ := mStep_INV hI2 (by omega)
      have hF3 : z_scr m I I3 := fun q h1 h2 => by rw [h3.2 q h1 h2]; exact hF q h1 h2
      rw [tailS] at hE
      refine z_aload_n (q := 32) dX8_tailOf_31 rfl rfl rfl ?_
      refine z_getR (q := 35) 8 1 1 54 rfl (by decide) rfl rfl rfl (by with_reducible assumption) (by with_reducible assumption) dX8_tailOf_32 rfl ?_
      refine z_iload_n (q := 36) dX8_tailOf_35 rfl rfl rfl ?_
      refine z_iconst (q := 37) (v := nI 2) dX8_tailOf_36 (by rfl) rfl ?_
      refine z_invS (q := 40) (c_X8_inRoom G (m + 2) room 2 hTw (by omega)) gX8_tailOf_X8_inRoom rfl hy_X8_inRoom rfl rfl rfl rfl (Nat.le_of_ble_eq_true rfl) ⟨Nat.zero_le _, Nat.zero_le _⟩ dX8_tailOf_37 rfl (z_rv ?_)
      refine z_iload_n (q := 41) dX8_tailOf_40 rfl rfl rfl ?_
      rw [h3.1]
      refine z_icmp_gt (tgt := 46) (q := 44) dX8_tailOf_41 (by decide) rfl (fun hc => ?_) (fun hc => ?_)
      · rw [if_neg (Int32.not_le.mpr hc)] at hE
        refine z_iinc (q := 49) dX8_tailOf_46 rfl (nI_add _ 1) (by decide) rfl ?_
        refine z_goto (q := 16) dX8_tailOf_49 (by decide) ?_
        exact ih (i + 1) (st2 + 1) np3 I3 (by omega) (by omega) (by rw [h3.1]; exact hI3) hF3 (by rw [h3.1]; exact hE)
      · rw [if_pos (Int32.not_lt.mp hc)] at hE
        refine z_iload_n (q := 45) dX8_tailOf_44 rfl rfl rfl ?_
        exact z_iret rfl dX8_tailOf_45 (Nat.zero_le _) (Nat.zero_le _) ⟨by rw [← hE], rfl, rfl, rfl, hF3⟩
  exact loop 200 1 st np I (by omega) (by omega) hI (fun _ _ _ => rfl) rfl

