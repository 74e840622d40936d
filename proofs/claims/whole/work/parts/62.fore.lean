/-! THE CLASS, what is foretold -/
set_option maxRecDepth 100000 in
set_option maxHeartbeats 4000000 in
theorem c_X7_lookAhead (G : zG) {n : Nat} {T : zTT} {I : zII} {R : zRR} (x st st' : Nat) (g g' : Nat → Int32) (hR : z_RT T R x) (hA : z_Hs T R I (x + 1) st g) (hB : z_Hs T R I (x + 99) st' g') : Ct G yX7_lookAheadWithoutSounds wsX7_lookAheadWithoutSounds (3, 0, 0) [.ref x] n T I R (z_rel none n T (fun I' R' => z_Hs T R' I' (x + 99) st (begN g) ∧ (∀ q, q < x + 99 ∨ x + 197 ≤ q → I' q = I q ∧ R' q = R q))) := by
  refine Ct.ofX (M := muX7_lookAheadWithoutSounds) (ls := [(0, .ref x)]) (by decide +kernel) rfl (by decide) rfl rfl (Nat.le_of_ble_eq_true rfl) ?_
  obtain ⟨hTx, hRh, hRa, hRi, hRs, hRt, hTt, hSc⟩ := id hR
  have hTb := hB.1.1
  have hTp := hB.1.2.2.2.2.2.2.2.1
  have hRp := hB.1.2.2.2.1
  refine z_aload_n (q := 1) dX7_lookAheadWithoutSounds_0 rfl rfl rfl ?_
  refine z_getR (q := 4) 7 1 1 82 rfl (by decide) rfl rfl rfl (by with_reducible assumption) (by with_reducible assumption) dX7_lookAheadWithoutSounds_1 rfl ?_
  refine z_aload_n (q := 5) dX7_lookAheadWithoutSounds_4 rfl rfl rfl ?_
  refine z_getR (q := 8) 7 0 2 81 rfl (by decide) rfl rfl rfl (by with_reducible assumption) (by with_reducible assumption) dX7_lookAheadWithoutSounds_5 rfl ?_
  refine z_invV (q := 11) (copy_h G (x + 99) (x + 1) st st' g g' hB hA (by omega)) (by with_reducible assumption) rfl gX7_lookAheadWithoutSounds_X3_copyFrom rfl hy_X3_copyFrom rfl rfl rfl rfl (Nat.le_of_ble_eq_true rfl) ⟨Nat.zero_le _, Nat.zero_le _⟩ dX7_lookAheadWithoutSounds_8 rfl (z_rnR fun I3 R3 hZ3 => ?_)
  obtain ⟨hr3, h3, f3⟩ := hZ3
  rw [hr3]
  obtain ⟨hH, nr, nd, np, F, hI, hG, hP, hF⟩ := h3
  refine z_aload_n (q := 12) dX7_lookAheadWithoutSounds_11 rfl rfl rfl ?_
  refine z_getR (q := 15) 7 1 1 82 rfl (by decide) rfl rfl rfl (by with_reducible assumption) (by with_reducible assumption) dX7_lookAheadWithoutSounds_12 rfl ?_
  refine z_getR (q := 18) 3 2 3 88 rfl (by decide) rfl rfl rfl (by with_reducible assumption) (by with_reducible assumption) dX7_lookAheadWithoutSounds_15 rfl ?_
  refine z_invV (q := 21) (c_X4_dropSounds G (x + 99 + 3) np F hP) (by with_reducible assumption) rfl gX7_lookAheadWithoutSounds_X4_dropSounds rfl hy_X4_dropSounds rfl rfl rfl rfl (Nat.le_of_ble_eq_true rfl) ⟨Nat.zero_le _, Nat.zero_le _⟩ dX7_lookAheadWithoutSounds_18 rfl (z_rnR fun I4 R4 hZ4 => ?_)
  obtain ⟨⟨np', F', hP4, hF4⟩, f4, r4⟩ := hZ4
  obtain ⟨np2, b1, b2, b3⟩ := begN_spec hI
  have hnp : np' = np2 := by
    have : (pl F' np').length = (planL (begN g) np2).length := by rw [hF4, b2, hF]
    rw [pl_len, planL_len] at this
    exact this
  subst hnp
  refine z_vret rfl dX7_lookAheadWithoutSounds_21 (Nat.zero_le _) (Nat.zero_le _) ⟨rfl, rfl, rfl, ⟨z_House_R hH (fun q _ _ h => r4 q h), nr, nd, np', F', b1, ?_, hP4, by rw [hF4, b2, hF]⟩, fun q hq => ⟨by rw [f4 q (by omega)]; exact f3 q (by omega), r4 q (by omega)⟩⟩
  exact HR_g (HR_f hG (fun q q1 q2 q3 => f4 q (by omega))) (fun c c1 c2 => b3 c c2)
/-- a step changes no room's number -/
theorem step_nr {nr nd np st : Nat} {g : Nat → Int32} (hI : INV nr nd np st g) (hst : st < 100000) : ∃ np', INV nr nd np' (st + 1) (mStep g) := mStep_INV hI hst
theorem Hs_inv {T : zTT} {R : zRR} {I : zII} {a st nr nd np : Nat} {g : Nat → Int32} (h : z_Hs T R I a st g) (hI : INV nr nd np st g) : ∃ F, z_House T R a ∧ z_HR I a g (fun _ => st) (fun _ => st) ∧ z_P T I R (a + 3) np F ∧ pl F np = planL g np ∧ I a 4 = nI nr ∧ I a 5 = nI nd := by
  obtain ⟨hH, nr', nd', np', F, h1, h2, h3, h4⟩ := h
  obtain ⟨e1, e2, e3⟩ := INV_eq h1 hI
  subst e1 e2 e3
  exact ⟨F, hH, h2, h3, h4, by rw [(HR_sc h2).1]; exact h1.1.1, by rw [(HR_sc h2).2.1]; exact h1.2.1.1⟩
set_option maxRecDepth 100000 in
set_option maxHeartbeats 4000000 in
theorem c_X7_tailAhead (G : zG) {n : Nat} {T : zTT} {I : zII} {R : zRR} (x st r N nr nd np : Nat) (h : Nat → Int32) (hR : z_RT T R x) (hA : z_Hs T R I (x + 99) st h) (hI : INV nr nd np st h) (hr : r < nr) (hN : N ≤ 200) (hst : st ≤ 5000) : Ct G yX7_tailAhead wsX7_tailAhead (5, 0, 0) [.ref x, .int (nI r), .int (nI N)] n T I R (z_rel (some (.int (tailS r (h (9 + 6 * r + 2) / nI 1000) N 1 h))) n T (fun I' R' => (∃ st' g', z_Hs T R' I' (x + 99) st' g') ∧ (∀ q, q < x + 99 ∨ x + 197 ≤ q → I' q = I q ∧ R' q = R q))) := by
  refine Ct.ofX (M := muX7_tailAhead) (ls := [(0, .ref x), (1, .int (nI r)), (2, .int (nI N))]) (by decide +kernel) rfl (by decide) rfl rfl (Nat.le_of_ble_eq_true rfl) ?_
  obtain ⟨hTx, hRh, hRa, hRi, hRs, hRt, hTt, hSc⟩ := id hR
  have hTb := hA.1.1
  obtain ⟨F, hH, hG, hP, hF, c0, c1⟩ := Hs_inv hA hI
  have hnr := hI.1.2
  generalize hdue : h (9 + 6 * r + 2) / nI 1000 = due
  have loop : ∀ f i st2 h2 np2 I2 R2, i + f = N + 1 → st2 ≤ 5000 + i → z_Hs T R2 I2 (x + 99) st2 h2 → INV nr nd np2 st2 h2 → tailS r due f i h2 = tailS r due N 1 h → (∀ q, q < x + 99 ∨ x + 197 ≤ q → I2 q = I q ∧ R2 q = R q) → z_X G muX7_tailAhead (5, 0, 0) (z_rel (some (.int (tailS r due N 1 h))) n T (fun I' R' => (∃ st' g', z_Hs T R' I' (x + 99) st' g') ∧ (∀ q, q < x + 99 ∨ x + 197 ≤ q → I' q = I q ∧ R' q = R q))) n T I2 R2 0 0 16 [(0, .ref x), (1, .int (nI r)), (2, .int (nI N)), (3, .int due), (4, .int (nI i))] [] := by
    intro f
    induction f with
    | zero =>
      intro i st2 h2 np2 I2 R2 hi hst2 hA2 hI2 hE hf
      refine z_iload (q := 18) (i := 4) dX7_tailAhead_16 rfl rfl ?_
      refine z_iload_n (q := 19) dX7_tailAhead_18 rfl rfl rfl ?_
      refine z_icmpn_gt (rfl) (rfl) (by omega) (by omega) (tgt := 50) (q := 22) dX7_tailAhead_19 (by decide) rfl (fun _ => ?_) (fun hc => absurd hc (by omega))
      refine z_bipush (q := 52) (v := (-4)) dX7_tailAhead_50 (by rfl) rfl ?_
      exact z_iret rfl dX7_tailAhead_52 (Nat.zero_le _) (Nat.zero_le _) (⟨by rw [← hE]; rfl, rfl, rfl, ⟨_, _, hA2⟩, hf⟩)
    | succ f ih =>
      intro i st2 h2 np2 I2 R2 hi hst2 hA2 hI2 hE hf
      have hRa2 : R2 x 1 = some (x + 99) := by rw [(hf x (by omega)).2]; exact hRa
      obtain ⟨np3, hI3⟩ := mStep_INV hI2 (by omega)
      rw [tailS] at hE
      refine z_iload (q := 18) (i := 4) dX7_tailAhead_16 rfl rfl ?_
      refine z_iload_n (q := 19) dX7_tailAhead_18 rfl rfl rfl ?_
      refine z_icmpn_gt (rfl) (rfl) (by omega) (by omega) (tgt := 50) (q := 22) dX7_tailAhead_19 (by decide) rfl (fun hc => absurd hc (by omega)) (fun _ => ?_)
      refine z_aload_n (q := 23) dX7_tailAhead_22 rfl rfl rfl ?_
      refine z_getR (q := 26) 7 1 1 164 rfl (by decide) rfl rfl rfl (by with_reducible assumption) (by with_reducible assumption) dX7_tailAhead_23 rfl ?_
      refine z_invV (q := 29) (c_X3_goOn G (x + 99) st2 h2 hA2 (by omega)) (by with_reducible assumption) rfl gX7_tailAhead_X3_goOn rfl hy_X3_goOn rfl rfl rfl rfl (Nat.le_of_ble_eq_true rfl) ⟨Nat.zero_le _, Nat.zero_le _⟩ dX7_tailAhead_26 rfl (z_rnR fun I3 R3 hZ3 => ?_)
      obtain ⟨hA3, f3, r3⟩ := hZ3
      have hRa3 : R3 x 1 = some (x + 99) := by rw [r3 x (by omega)]; exact hRa2
      obtain ⟨F3, hH3, hG3, hP3, hF3, c03, c13⟩ := Hs_inv hA3 hI3
      have hf3 : ∀ q, q < x + 99 ∨ x + 197 ≤ q → I3 q = I q ∧ R3 q = R q := fun q hq => ⟨(f3 q (by omega)).trans (hf q hq).1, (r3 q (by omega)).trans (hf q hq).2⟩
      refine z_aload_n (q := 30) dX7_tailAhead_29 rfl rfl rfl ?_
      refine z_getR (q := 33) 7 1 1 164 rfl (by decide) rfl rfl rfl (by with_reducible assumption) (by with_reducible assumption) dX7_tailAhead_30 rfl ?_
      refine z_iload_n (q := 34) dX7_tailAhead_33 rfl rfl rfl ?_
      refine z_invV (q := 37) (c_X3_energyIn G (x + 99) nr (nI r) hH3 c03 hnr) (by with_reducible assumption) rfl gX7_tailAhead_X3_energyIn rfl hy_X3_energyIn rfl rfl rfl rfl (Nat.le_of_ble_eq_true rfl) ⟨Nat.zero_le _, Nat.zero_le _⟩ dX7_tailAhead_34 rfl (z_rv ?_)
      refine z_iload_n (q := 38) dX7_tailAhead_37 rfl rfl rfl ?_
      rw [en_eq hG3 hI3 hr]
      refine z_icmp_gt (tgt := 44) (q := 41) dX7_tailAhead_38 (by decide) rfl (fun h38 => ?_) (fun h38 => ?_)
      · rw [if_neg (Int32.not_le.mpr h38)] at hE
        refine z_iinc (q := 47) dX7_tailAhead_44 rfl (nI_add _ 1) (by decide) rfl ?_
        refine z_goto (q := 16) dX7_tailAhead_47 (by decide) ?_
        exact ih (i + 1) (st2 + 1) (mStep h2) np3 I3 R3 (by omega) (by omega) hA3 hI3 hE hf3
      · rw [if_pos (Int32.not_lt.mp h38)] at hE
        refine z_iload (q := 43) (i := 4) dX7_tailAhead_41 rfl rfl ?_
        exact z_iret rfl dX7_tailAhead_43 (Nat.zero_le _) (Nat.zero_le _) (⟨by rw [← hE], rfl, rfl, ⟨_, _, hA3⟩, hf3⟩)
  refine z_aload_n (q := 1) dX7_tailAhead_0 rfl rfl rfl ?_
  refine z_getR (q := 4) 7 1 1 164 rfl (by decide) rfl rfl rfl (by with_reducible assumption) (by with_reducible assumption) dX7_tailAhead_1 rfl ?_
  refine z_iload_n (q := 5) dX7_tailAhead_4 rfl rfl rfl ?_
  refine z_invV (q := 8) (c_X3_energyIn G (x + 99) nr (nI r) hH c0 hnr) (by with_reducible assumption) rfl gX7_tailAhead_X3_energyIn rfl hy_X3_energyIn rfl rfl rfl rfl (Nat.le_of_ble_eq_true rfl) ⟨Nat.zero_le _, Nat.zero_le _⟩ dX7_tailAhead_5 rfl (z_rv ?_)
  rw [en_eq hG hI hr]
  refine z_sipush (q := 11) (v := nI 1000) dX7_tailAhead_8 (by rfl) rfl ?_
  refine z_idiv (q := 12) dX7_tailAhead_11 (by decide) rfl ?_
  rw [hdue]
  refine z_istore_n (q := 13) dX7_tailAhead_12 rfl (by decide) rfl ?_
  refine z_iconst (q := 14) (v := nI 1) dX7_tailAhead_13 (by rfl) rfl ?_
  refine z_istore (q := 16) dX7_tailAhead_14 (by decide) rfl ?_
  exact z_pick [0, 1, 2, 3, 4] rfl (loop N 1 st h np I R (by omega) (by omega) hA hI rfl (fun _ _ => ⟨rfl, rfl⟩))
set_option maxRecDepth 100000 in
set_option maxHeartbeats 4000000 in
theorem c_X7_tailIfAimed (G : zG) {n : Nat} {T : zTT} {I : zII} {R : zRR} (x st st' r d t N nr nd np : Nat) (g g' : Nat → Int32) (hR : z_RT T R x) (hA : z_Hs T R I (x + 1) st g) (hB : z_Hs T R I (x + 99) st' g') (hI : INV nr nd np st g) (hr : r < nr) (hd : d < nd) (ht : t ≤ 10) (hN : N ≤ 200) (hst : st ≤ 5000) : Ct G yX7_tailIfAimed wsX7_tailIfAimed (6, 0, 0) [.ref x, .int (nI r), .int (nI d), .int (nI t), .int (nI N)] n T I R (z_rel (some (.int (tailS r (aimD (begN g) d (nI t) (9 + 6 * r + 2) / nI 1000) N 1 (aimD (begN g) d (nI t))))) n T (fun I' R' => (∃ st' g', z_Hs T R' I' (x + 99) st' g') ∧ (∀ q, q < x + 99 ∨ x + 197 ≤ q → I' q = I q ∧ R' q = R q))) := by
  refine Ct.ofX (M := muX7_tailIfAimed) (ls := [(0, .ref x), (1, .int (nI r)), (2, .int (nI d)), (3, .int (nI t)), (4, .int (nI N))]) (by decide +kernel) rfl (by decide) rfl rfl (Nat.le_of_ble_eq_true rfl) ?_
  obtain ⟨hTx, hRh, hRa, hRi, hRs, hRt, hTt, hSc⟩ := id hR
  have hnd := hI.2.1.2
  obtain ⟨np2, b1, b2, b3⟩ := begN_spec hI
  have b4 := INV_aimD b1 hd ht
  refine z_aload_n (q := 1) dX7_tailIfAimed_0 rfl rfl rfl ?_
  refine z_invV (q := 4) (c_X7_lookAhead G x st st' g g' hR hA hB) (by with_reducible assumption) rfl gX7_tailIfAimed_X7_lookAheadWithoutSounds rfl hy_X7_lookAheadWithoutSounds rfl rfl rfl rfl (Nat.le_of_ble_eq_true rfl) ⟨Nat.zero_le _, Nat.zero_le _⟩ dX7_tailIfAimed_1 rfl (z_rnR fun I2 R2 hZ2 => ?_)
  obtain ⟨hA2, f2⟩ := hZ2
  have hRa2 : R2 x 1 = some (x + 99) := by rw [(f2 x (by omega)).2]; exact hRa
  obtain ⟨F, hH, hG, hP, hF, c0, c1⟩ := Hs_inv hA2 b1
  have hTb := hA2.1.1
  have hDm := (hH.2.2.2.2.2.2.1 d (by omega)).2
  have hTd := hDm.1
  refine z_aload_n (q := 5) dX7_tailIfAimed_4 rfl rfl rfl ?_
  refine z_getR (q := 8) 7 1 1 215 rfl (by decide) rfl rfl rfl (by with_reducible assumption) (by with_reducible assumption) dX7_tailIfAimed_5 rfl ?_
  refine z_iload_n (q := 9) dX7_tailIfAimed_8 rfl rfl rfl ?_
  refine z_invV (q := 12) (c_X3_doorAt_s G (x + 99) d nd hH c1 hd hnd) (by with_reducible assumption) rfl gX7_tailIfAimed_X3_doorAt rfl hy_X3_doorAt rfl rfl rfl rfl (Nat.le_of_ble_eq_true rfl) ⟨Nat.zero_le _, Nat.zero_le _⟩ dX7_tailIfAimed_9 rfl (z_rv ?_)
  refine z_astore (q := 14) dX7_tailIfAimed_12 (by decide) rfl ?_
  refine z_aload (q := 16) dX7_tailIfAimed_14 rfl rfl ?_
  refine z_ifnull (q := 19) dX7_tailIfAimed_16 rfl ?_
  refine z_aload (q := 21) dX7_tailIfAimed_19 rfl rfl ?_
  refine z_iload_n (q := 22) dX7_tailIfAimed_21 rfl rfl rfl ?_
  refine z_invV (q := 25) (c_X0_aimAt G (x + 99 + 38 + 5 * d) (nI t) hDm) (by with_reducible assumption) rfl gX7_tailIfAimed_X0_aimAt rfl hy_X0_aimAt rfl rfl rfl rfl (Nat.le_of_ble_eq_true rfl) ⟨Nat.zero_le _, Nat.zero_le _⟩ dX7_tailIfAimed_22 rfl (z_rn ?_)
  have hl : begN g (57 + 10 * d + 7) = 0 ∨ begN g (57 + 10 * d + 7) = 1 := by
    obtain ⟨sa, sb, ar, sp, de, o, t, l, -, -, -, -, -, -, -, -, g8⟩ := (b1.2.2.2.2.2.1 d (by omega)).1 hd
    rcases (show l = 0 ∨ l = 1 by omega) with rfl | rfl
    · exact Or.inl (g8.1.trans nI_0)
    · exact Or.inr (g8.1.trans zI1)
  have hG3 := HR_aim hG (show d < 12 by omega) (nI t) hl
  have hf3 : ∀ q, q ≠ x + 99 + 38 + 5 * d → (if I2 (x + 99 + 38 + 5 * d) 6 = 0 then zw I2 (x + 99 + 38 + 5 * d) 5 (nI t) else I2) q = I2 q := aim_f
  generalize (if I2 (x + 99 + 38 + 5 * d) 6 = 0 then zw I2 (x + 99 + 38 + 5 * d) 5 (nI t) else I2) = I3 at hG3 hf3 ⊢
  have hA3 : z_Hs T R2 I3 (x + 99) st (aimD (begN g) d (nI t)) := by
    refine ⟨hH, nr, nd, np2, F, b4, hG3, z_P_f hP (fun q q1 q2 => hf3 q (by omega)) (fun _ _ _ => rfl), ?_⟩
    rw [hF]
    exact planL_congr (fun k hk => (ent_congr (fun j j1 j2 => upd_n _ _ (by omega))).symm)
  refine z_aload_n (q := 26) dX7_tailIfAimed_25 rfl rfl rfl ?_
  refine z_iload_n (q := 27) dX7_tailIfAimed_26 rfl rfl rfl ?_
  refine z_iload (q := 29) (i := 4) dX7_tailIfAimed_27 rfl rfl ?_
  refine z_invV (q := 32) (c_X7_tailAhead G x st r N nr nd np2 (aimD (begN g) d (nI t)) (z_RT_R hR (f2 x (by omega)).2 (f2 (x + 591) (by omega)).2) hA3 b4 hr hN hst) (by with_reducible assumption) rfl gX7_tailIfAimed_X7_tailAhead rfl hy_X7_tailAhead rfl rfl rfl rfl (Nat.le_of_ble_eq_true rfl) ⟨Nat.zero_le _, Nat.zero_le _⟩ dX7_tailIfAimed_29 rfl (z_rvR fun I4 R4 hZ4 => ?_)
  obtain ⟨hA4, f4⟩ := hZ4
  exact z_iret rfl dX7_tailIfAimed_32 (Nat.zero_le _) (Nat.zero_le _) (⟨rfl, rfl, rfl, hA4, fun q hq => ⟨(f4 q hq).1.trans ((hf3 q (by omega)).trans (f2 q hq).1), (f4 q hq).2.trans (f2 q hq).2⟩⟩)
set_option maxRecDepth 100000 in
set_option maxHeartbeats 4000000 in
theorem c_X7_tail (G : zG) {n : Nat} {T : zTT} {I : zII} {R : zRR} (x pc y : Nat) (g tx : Nat → Int32) (p : Nat → Nat → Int32) (hS : z_St T R I x g p pc tx y) (v : Int32) : Ct G yX7_tail wsX7_tail (6, 0, 0) [.ref x, .int v] n T I R (z_rel (some (.int (sp_tail g v))) n T (fun I' R' => z_nx T R' I' x g p pc tx y none ∧ z_fx x I I' R R')) := by
  refine Ct.ofX (M := muX7_tail) (ls := [(0, .ref x), (1, .int v)]) (by decide +kernel) rfl (by decide) rfl rfl (Nat.le_of_ble_eq_true rfl) ?_
  have hR := hS.1
  obtain ⟨hTx, hRh, hRa, hRi, hRs, hRt, hTt, hSc⟩ := id hR
  obtain ⟨st, hHs, hst, htl⟩ := id hS.2.1
  obtain ⟨hH, nr, nd, np, F, hI, hG, hP, hF⟩ := id hHs
  have hTh := hH.1
  have hRp := hH.2.2.2.1
  have hTp := hP.1.1
  have hnr := hI.1.2
  have hnd := hI.2.1.2
  have hnp := hI.2.2.1.2
  have c0 : I (x + 1) 4 = nI nr := by rw [(HR_sc hG).1]; exact hI.1.1
  have c1 : I (x + 1) 5 = nI nd := by rw [(HR_sc hG).2.1]; exact hI.2.1.1
  have c3 : I (x + 1) 6 = nI st := by rw [(HR_sc hG).2.2.1]; exact hI.2.2.2.1
  have cs2 : I (x + 1 + 3) 1 = nI np := hP.2.2.2.1
  have h0e : g 0 = nI nr := hI.1.1
  have h1e : g 1 = nI nd := hI.2.1.1
  have h2e : g 2 = nI np := hI.2.2.1.1
  have h3e : g 3 = nI st := hI.2.2.2.1
  obtain ⟨sta, ga, hB⟩ := id hS.2.2.1
  have bad : sp_tail g v = -1 → ∀ ls : List (Nat × Value), z_X G muX7_tail (6, 0, 0) (z_rel (some (.int (sp_tail g v))) n T (fun I' R' => z_nx T R' I' x g p pc tx y none ∧ z_fx x I I' R R')) n T I R 0 0 13 ls [] := by
    intro hb ls
    rw [hb]
    refine z_iconst (q := 14) (v := (-1)) dX7_tail_13 (by rfl) rfl ?_
    exact z_iret rfl dX7_tail_14 (Nat.zero_le _) (Nat.zero_le _) (⟨rfl, rfl, rfl, hS, fun _ _ => ⟨rfl, rfl⟩⟩)
  have bad2 : sp_tail g v = -2 → ∀ ls : List (Nat × Value), z_X G muX7_tail (6, 0, 0) (z_rel (some (.int (sp_tail g v))) n T (fun I' R' => z_nx T R' I' x g p pc tx y none ∧ z_fx x I I' R R')) n T I R 0 0 22 ls [] := by
    intro hb ls
    rw [hb]
    refine z_bipush (q := 24) (v := (-2)) dX7_tail_22 (by rfl) rfl ?_
    exact z_iret rfl dX7_tail_24 (Nat.zero_le _) (Nat.zero_le _) (⟨rfl, rfl, rfl, hS, fun _ _ => ⟨rfl, rfl⟩⟩)
  by_cases hx : v < 0 ∨ nI nr ≤ v
  · refine z_aload_n (q := 1) dX7_tail_0 rfl rfl rfl ?_
    refine z_getR (q := 4) 7 0 1 214 rfl (by decide) rfl rfl rfl (by with_reducible assumption) (by with_reducible assumption) dX7_tail_1 rfl ?_
    refine z_iload_n (q := 5) dX7_tail_4 rfl rfl rfl ?_
    refine z_invV (q := 8) (c_X3_roomAt_n G (x + 1) nr v hH c0 hx) (by with_reducible assumption) rfl gX7_tail_X3_roomAt rfl hy_X3_roomAt rfl rfl rfl rfl (Nat.le_of_ble_eq_true rfl) ⟨Nat.zero_le _, Nat.zero_le _⟩ dX7_tail_5 rfl (z_rv ?_)
    refine z_astore_nN (q := 9) dX7_tail_8 rfl (by decide) rfl ?_
    refine z_aload_nN (q := 10) dX7_tail_9 rfl rfl rfl ?_
    refine z_ifnonnullN (q := 13) dX7_tail_10 rfl ?_
    exact bad (by rw [sp_tail, if_pos (by rw [h0e]; exact hx)]) _
  obtain ⟨r, hrn, rfl⟩ : ∃ k, k < nr ∧ v = nI k := by
    rcases pk_ix v (n := nr) (by omega) with z | z | z
    · exact absurd (Or.inl z) hx
    · exact absurd (Or.inr z) hx
    · exact z
  have hvg : ¬ (nI r < 0 ∨ g 0 ≤ nI r) := by rw [h0e]; exact hx
  have hTm := (hH.2.2.2.2.2.1 r (by omega)).2.1
  have he : I (x + 1 + 22 + 2 * r) 2 = g (9 + 6 * r + 2) := HR_room hG (by omega) (by decide)
  have e : sp_tail g (nI r) = tailQ g r := by rw [sp_tail, if_neg hvg, nI_clamp (by omega)]
  rw [e] at bad2 ⊢
  refine z_aload_n (q := 1) dX7_tail_0 rfl rfl rfl ?_
  refine z_getR (q := 4) 7 0 1 214 rfl (by decide) rfl rfl rfl (by with_reducible assumption) (by with_reducible assumption) dX7_tail_1 rfl ?_
  refine z_iload_n (q := 5) dX7_tail_4 rfl rfl rfl ?_
  refine z_invV (q := 8) (c_X3_roomAt_s G (x + 1) r nr hH c0 hrn hnr) (by with_reducible assumption) rfl gX7_tail_X3_roomAt rfl hy_X3_roomAt rfl rfl rfl rfl (Nat.le_of_ble_eq_true rfl) ⟨Nat.zero_le _, Nat.zero_le _⟩ dX7_tail_5 rfl (z_rv ?_)
  refine z_astore_n (q := 9) dX7_tail_8 rfl (by decide) rfl ?_
  refine z_aload_n (q := 10) dX7_tail_9 rfl rfl rfl ?_
  refine z_ifnonnull (q := 15) dX7_tail_10 (by decide) ?_
  refine z_aload_n (q := 16) dX7_tail_15 rfl rfl rfl ?_
  refine z_getI (q := 19) 5 2 2 221 rfl (by decide) rfl rfl rfl (by with_reducible assumption) dX7_tail_16 rfl ?_
  rw [he]
  refine z_if_ne (tgt := 25) (q := 22) dX7_tail_19 (by decide) rfl (fun h19 => ?_) (fun h19 => ?_)
  · have e2 : tailQ g r = plainT g r := by rw [tailQ, if_neg h19]
    rw [e2]
    obtain ⟨np2, b1, b2, b3⟩ := begN_spec hI
    refine z_aload_n (q := 26) dX7_tail_25 rfl rfl rfl ?_
    refine z_invV (q := 29) (c_X7_lookAhead G x st sta g ga hR hHs hB) (by with_reducible assumption) rfl gX7_tail_X7_lookAheadWithoutSounds rfl hy_X7_lookAheadWithoutSounds rfl rfl rfl rfl (Nat.le_of_ble_eq_true rfl) ⟨Nat.zero_le _, Nat.zero_le _⟩ dX7_tail_26 rfl (z_rnR fun I2 R2 hZ2 => ?_)
    obtain ⟨hA2, f2⟩ := hZ2
    have hR2 := z_RT_R hR (f2 x (by omega)).2 (f2 (x + 591) (by omega)).2
    refine z_aload_n (q := 30) dX7_tail_29 rfl rfl rfl ?_
    refine z_iload_n (q := 31) dX7_tail_30 rfl rfl rfl ?_
    refine z_sipush (q := 34) (v := nI 200) dX7_tail_31 (by rfl) rfl ?_
    refine z_invV (q := 37) (c_X7_tailAhead G x st r 200 nr nd np2 (begN g) hR2 hA2 b1 hrn (by decide) hst) (by with_reducible assumption) rfl gX7_tail_X7_tailAhead rfl hy_X7_tailAhead rfl rfl rfl rfl (Nat.le_of_ble_eq_true rfl) ⟨Nat.zero_le _, Nat.zero_le _⟩ dX7_tail_34 rfl (z_rvR fun I3 R3 hZ3 => ?_)
    obtain ⟨⟨st3, g3, hA3⟩, f3⟩ := hZ3
    have hf : ∀ q, q < x + 99 ∨ x + 197 ≤ q → I3 q = I q ∧ R3 q = R q := fun q hq => ⟨(f3 q hq).1.trans (f2 q hq).1, (f3 q hq).2.trans (f2 q hq).2⟩
    exact z_iret rfl dX7_tail_37 (Nat.zero_le _) (Nat.zero_le _) (⟨rfl, rfl, rfl, St_ahead hS hA3 hf, fun q hq => hf q (by omega)⟩)
  · exact bad2 (by rw [tailQ, if_pos h19]) _
set_option maxRecDepth 100000 in
set_option maxHeartbeats 4000000 in
theorem c_X7_tailWith (G : zG) {n : Nat} {T : zTT} {I : zII} {R : zRR} (x pc y : Nat) (g tx : Nat → Int32) (p : Nat → Nat → Int32) (hS : z_St T R I x g p pc tx y) (v w z : Int32) : Ct G yX7_tailWith wsX7_tailWith (7, 0, 0) [.ref x, .int v, .int w, .int z] n T I R (z_rel (some (.int (sp_tailWith g v w z))) n T (fun I' R' => z_nx T R' I' x g p pc tx y none ∧ z_fx x I I' R R')) := by
  refine Ct.ofX (M := muX7_tailWith) (ls := [(0, .ref x), (1, .int v), (2, .int w), (3, .int z)]) (by decide +kernel) rfl (by decide) rfl rfl (Nat.le_of_ble_eq_true rfl) ?_
  have hR := hS.1
  obtain ⟨hTx, hRh, hRa, hRi, hRs, hRt, hTt, hSc⟩ := id hR
  obtain ⟨st, hHs, hst, htl⟩ := id hS.2.1
  obtain ⟨hH, nr, nd, np, F, hI, hG, hP, hF⟩ := id hHs
  have hTh := hH.1
  have hRp := hH.2.2.2.1
  have hTp := hP.1.1
  have hnr := hI.1.2
  have hnd := hI.2.1.2
  have hnp := hI.2.2.1.2
  have c0 : I (x + 1) 4 = nI nr := by rw [(HR_sc hG).1]; exact hI.1.1
  have c1 : I (x + 1) 5 = nI nd := by rw [(HR_sc hG).2.1]; exact hI.2.1.1
  have c3 : I (x + 1) 6 = nI st := by rw [(HR_sc hG).2.2.1]; exact hI.2.2.2.1
  have cs2 : I (x + 1 + 3) 1 = nI np := hP.2.2.2.1
  have h0e : g 0 = nI nr := hI.1.1
  have h1e : g 1 = nI nd := hI.2.1.1
  have h2e : g 2 = nI np := hI.2.2.1.1
  have h3e : g 3 = nI st := hI.2.2.2.1
  obtain ⟨sta, ga, hB⟩ := id hS.2.2.1
  have bad : sp_tailWith g v w z = -1 → ∀ ls : List (Nat × Value), z_X G muX7_tailWith (7, 0, 0) (z_rel (some (.int (sp_tailWith g v w z))) n T (fun I' R' => z_nx T R' I' x g p pc tx y none ∧ z_fx x I I' R R')) n T I R 0 0 36 ls [] := by
    intro hb ls
    rw [hb]
    refine z_iconst (q := 37) (v := (-1)) dX7_tailWith_36 (by rfl) rfl ?_
    exact z_iret rfl dX7_tailWith_37 (Nat.zero_le _) (Nat.zero_le _) (⟨rfl, rfl, rfl, hS, fun _ _ => ⟨rfl, rfl⟩⟩)
  have bad2 : sp_tailWith g v w z = -2 → ∀ ls : List (Nat × Value), z_X G muX7_tailWith (7, 0, 0) (z_rel (some (.int (sp_tailWith g v w z))) n T (fun I' R' => z_nx T R' I' x g p pc tx y none ∧ z_fx x I I' R R')) n T I R 0 0 46 ls [] := by
    intro hb ls
    rw [hb]
    refine z_bipush (q := 48) (v := (-2)) dX7_tailWith_46 (by rfl) rfl ?_
    exact z_iret rfl dX7_tailWith_48 (Nat.zero_le _) (Nat.zero_le _) (⟨rfl, rfl, rfl, hS, fun _ _ => ⟨rfl, rfl⟩⟩)
  by_cases hx : v < 0 ∨ nI nr ≤ v
  · refine z_aload_n (q := 1) dX7_tailWith_0 rfl rfl rfl ?_
    refine z_getR (q := 4) 7 0 1 223 rfl (by decide) rfl rfl rfl (by with_reducible assumption) (by with_reducible assumption) dX7_tailWith_1 rfl ?_
    refine z_iload_n (q := 5) dX7_tailWith_4 rfl rfl rfl ?_
    refine z_invV (q := 8) (c_X3_roomAt_n G (x + 1) nr v hH c0 hx) (by with_reducible assumption) rfl gX7_tailWith_X3_roomAt rfl hy_X3_roomAt rfl rfl rfl rfl (Nat.le_of_ble_eq_true rfl) ⟨Nat.zero_le _, Nat.zero_le _⟩ dX7_tailWith_5 rfl (z_rv ?_)
    refine z_astoreN (q := 10) dX7_tailWith_8 (by decide) rfl ?_
    refine z_aloadN (q := 12) dX7_tailWith_10 rfl rfl ?_
    refine z_ifnullN (q := 36) dX7_tailWith_12 (by decide) ?_
    exact bad (by rw [sp_tailWith, if_pos (by rw [h0e]; exact hx)]) _
  obtain ⟨r, hrn, rfl⟩ : ∃ k, k < nr ∧ v = nI k := by
    rcases pk_ix v (n := nr) (by omega) with z | z | z
    · exact absurd (Or.inl z) hx
    · exact absurd (Or.inr z) hx
    · exact z
  have hvg : ¬ (nI r < 0 ∨ g 0 ≤ nI r) := by rw [h0e]; exact hx
  have hTm := (hH.2.2.2.2.2.1 r (by omega)).2.1
  have he : I (x + 1 + 22 + 2 * r) 2 = g (9 + 6 * r + 2) := HR_room hG (by omega) (by decide)
  refine z_aload_n (q := 1) dX7_tailWith_0 rfl rfl rfl ?_
  refine z_getR (q := 4) 7 0 1 223 rfl (by decide) rfl rfl rfl (by with_reducible assumption) (by with_reducible assumption) dX7_tailWith_1 rfl ?_
  refine z_iload_n (q := 5) dX7_tailWith_4 rfl rfl rfl ?_
  refine z_invV (q := 8) (c_X3_roomAt_s G (x + 1) r nr hH c0 hrn hnr) (by with_reducible assumption) rfl gX7_tailWith_X3_roomAt rfl hy_X3_roomAt rfl rfl rfl rfl (Nat.le_of_ble_eq_true rfl) ⟨Nat.zero_le _, Nat.zero_le _⟩ dX7_tailWith_5 rfl (z_rv ?_)
  refine z_astore (q := 10) dX7_tailWith_8 (by decide) rfl ?_
  refine z_aload (q := 12) dX7_tailWith_10 rfl rfl ?_
  refine z_ifnull (q := 15) dX7_tailWith_12 rfl ?_
  by_cases hx2 : w < 0 ∨ nI nd ≤ w
  · refine z_aload_n (q := 16) dX7_tailWith_15 rfl rfl rfl ?_
    refine z_getR (q := 19) 7 0 1 223 rfl (by decide) rfl rfl rfl (by with_reducible assumption) (by with_reducible assumption) dX7_tailWith_16 rfl ?_
    refine z_iload_n (q := 20) dX7_tailWith_19 rfl rfl rfl ?_
    refine z_invV (q := 23) (c_X3_doorAt_n G (x + 1) nd w hH c1 hx2) (by with_reducible assumption) rfl gX7_tailWith_X3_doorAt rfl hy_X3_doorAt rfl rfl rfl rfl (Nat.le_of_ble_eq_true rfl) ⟨Nat.zero_le _, Nat.zero_le _⟩ dX7_tailWith_20 rfl (z_rv ?_)
    refine z_ifnullN (q := 36) dX7_tailWith_23 (by decide) ?_
    exact bad (by rw [sp_tailWith, if_neg hvg, if_pos (by rw [h1e]; exact hx2)]) _
  obtain ⟨d, hdn, rfl⟩ : ∃ k, k < nd ∧ w = nI k := by
    rcases pk_ix w (n := nd) (by omega) with z | z | z
    · exact absurd (Or.inl z) hx2
    · exact absurd (Or.inr z) hx2
    · exact z
  have hvd : ¬ (nI d < 0 ∨ g 1 ≤ nI d) := by rw [h1e]; exact hx2
  refine z_aload_n (q := 16) dX7_tailWith_15 rfl rfl rfl ?_
  refine z_getR (q := 19) 7 0 1 223 rfl (by decide) rfl rfl rfl (by with_reducible assumption) (by with_reducible assumption) dX7_tailWith_16 rfl ?_
  refine z_iload_n (q := 20) dX7_tailWith_19 rfl rfl rfl ?_
  refine z_invV (q := 23) (c_X3_doorAt_s G (x + 1) d nd hH c1 hdn hnd) (by with_reducible assumption) rfl gX7_tailWith_X3_doorAt rfl hy_X3_doorAt rfl rfl rfl rfl (Nat.le_of_ble_eq_true rfl) ⟨Nat.zero_le _, Nat.zero_le _⟩ dX7_tailWith_20 rfl (z_rv ?_)
  refine z_ifnull (q := 26) dX7_tailWith_23 rfl ?_
  refine z_iload_n (q := 27) dX7_tailWith_26 rfl rfl rfl ?_
  refine z_iconst (q := 28) (v := nI 0) dX7_tailWith_27 (by rfl) rfl ?_
  refine z_bipush (q := 30) (v := nI 10) dX7_tailWith_28 (by rfl) rfl ?_
  refine z_invS (q := 33) (c_X7_isWithin G z (nI 0) (nI 10)) gX7_tailWith_X7_isWithin rfl hy_X7_isWithin rfl rfl rfl rfl (Nat.le_of_ble_eq_true rfl) ⟨Nat.zero_le _, Nat.zero_le _⟩ dX7_tailWith_30 rfl (z_rv ?_)
  by_cases hz : z < nI 0 ∨ nI 10 < z
  · rw [if_pos hz]
    refine z_if_ne (tgt := 38) (q := 36) dX7_tailWith_33 (by decide) rfl (fun hc => False.elim (hc rfl)) (fun _ => ?_)
    exact bad (by rw [sp_tailWith, if_neg hvg, if_neg hvd, if_pos hz]) _
  rw [if_neg hz]
  refine z_if_ne (tgt := 38) (q := 36) dX7_tailWith_33 (by decide) rfl (fun _ => ?_) (fun hc => False.elim (absurd hc (by decide)))
  obtain ⟨t, -, ht10, rfl⟩ := z_ix2 (by decide) (by decide) hz
  have e : sp_tailWith g (nI r) (nI d) (nI t) = tailWQ g r d (nI t) := by rw [sp_tailWith, if_neg hvg, if_neg hvd, if_neg hz, nI_clamp (by omega), nI_clamp (by omega)]
  rw [e] at bad2 ⊢
  refine z_aload (q := 40) dX7_tailWith_38 rfl rfl ?_
  refine z_getI (q := 43) 5 2 2 230 rfl (by decide) rfl rfl rfl (by with_reducible assumption) dX7_tailWith_40 rfl ?_
  rw [he]
  refine z_if_ne (tgt := 49) (q := 46) dX7_tailWith_43 (by decide) rfl (fun h43 => ?_) (fun h43 => ?_)
  · have e2 : tailWQ g r d (nI t) = otherT g r d (nI t) := by rw [tailWQ, if_neg h43]
    rw [e2]
    refine z_aload_n (q := 50) dX7_tailWith_49 rfl rfl rfl ?_
    refine z_iload_n (q := 51) dX7_tailWith_50 rfl rfl rfl ?_
    refine z_iload_n (q := 52) dX7_tailWith_51 rfl rfl rfl ?_
    refine z_iload_n (q := 53) dX7_tailWith_52 rfl rfl rfl ?_
    refine z_sipush (q := 56) (v := nI 200) dX7_tailWith_53 (by rfl) rfl ?_
    refine z_invV (q := 59) (c_X7_tailIfAimed G x st sta r d t 200 nr nd np g ga hR hHs hB hI hrn hdn ht10 (by decide) hst) (by with_reducible assumption) rfl gX7_tailWith_X7_tailIfAimed rfl hy_X7_tailIfAimed rfl rfl rfl rfl (Nat.le_of_ble_eq_true rfl) ⟨Nat.zero_le _, Nat.zero_le _⟩ dX7_tailWith_56 rfl (z_rvR fun I3 R3 hZ3 => ?_)
    obtain ⟨⟨st3, g3, hA3⟩, hf⟩ := hZ3
    exact z_iret rfl dX7_tailWith_59 (Nat.zero_le _) (Nat.zero_le _) (⟨rfl, rfl, rfl, St_ahead hS hA3 hf, fun q hq => hf q (by omega)⟩)
  · exact bad2 (by rw [tailWQ, if_pos h43]) _

