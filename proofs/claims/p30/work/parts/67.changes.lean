/-! THE CLASS, what changes it -/
theorem Hb_mk {T : zTT} {R' : zRR} {I' : zII} {a nr nd np nr' nd' st : Nat} {F : Nat → zE} {g g' : Nat → Int32} (hI : INV nr nd np st g) (hH : z_House T R' a) (hI' : INV nr' nd' np st g') (hG' : z_HR I' a g' (fun _ => st) (fun _ => st)) (hP' : z_P T I' R' (a + 3) np F) (hF : pl F np = planL g np) (he : ∀ c, 321 ≤ c → c < 401 → g' c = g c) (hst : st ≤ 5000) (h5 : g' 5 = g 5) (ht : TLD g) : z_Hb T R' I' a g' := by
  obtain ⟨v, v1, v2⟩ := ht
  refine ⟨st, ⟨hH, nr', nd', np, F, hI', hG', hP', ?_⟩, hst, v, h5.trans v1, v2⟩
  rw [hF]
  have := hI.2.2.1.2
  exact planL_congr (fun k hk => (ent_congr (fun j j1 j2 => he j (by omega) (by omega))).symm)
set_option maxRecDepth 100000 in
set_option maxHeartbeats 4000000 in
theorem c_X7_open (G : zG) {n : Nat} {T : zTT} {I : zII} {R : zRR} (x pc y : Nat) (g tx : Nat → Int32) (p : Nat → Nat → Int32) (hS : z_St T R I x g p pc tx y) (v t : Int32) : Ct G yX7_open wsX7_open (4, 0, 0) [.ref x, .int v, .int t] n T I R (z_rel (some (.int (sp_open g v t).1)) n T (fun I' R' => z_nx T R' I' x g p pc tx y (sp_open g v t).2 ∧ z_fx x I I' R R')) := by
  refine Ct.ofX (M := muX7_open) (ls := [(0, .ref x), (1, .int v), (2, .int t)]) (by decide +kernel) rfl (by decide) rfl rfl (Nat.le_of_ble_eq_true rfl) ?_
  have hR := hS.1
  obtain ⟨hTx, hRh, hRa, hRi, hRs, hRt, hTt, hSc⟩ := id hR
  obtain ⟨st, hHs, hst, htl⟩ := id hS.2.1
  obtain ⟨hH, nr, nd, np, F, hI, hG, hP, hF⟩ := id hHs
  have hTh := hH.1
  have hRp := hH.2.2.2.1
  have hTp := hP.1.1
  have hnr := hI.1.2
  have hnd := hI.2.1.2
  have hnp := hI.2.2.1.2
  have c0 : I (x + 1) 4 = nI nr := by rw [(HR_sc hG).1]; exact hI.1.1
  have c1 : I (x + 1) 5 = nI nd := by rw [(HR_sc hG).2.1]; exact hI.2.1.1
  have c3 : I (x + 1) 6 = nI st := by rw [(HR_sc hG).2.2.1]; exact hI.2.2.2.1
  have cs2 : I (x + 1 + 3) 1 = nI np := hP.2.2.2.1
  have h0e : g 0 = nI nr := hI.1.1
  have h1e : g 1 = nI nd := hI.2.1.1
  have h2e : g 2 = nI np := hI.2.2.1.1
  have h3e : g 3 = nI st := hI.2.2.2.1
  have hTi := hS.2.2.2.1.1
  have bad : sp_open g v t = (-1, none) → ∀ ls : List (Nat × Value), z_X G muX7_open (4, 0, 0) (z_rel (some (.int (sp_open g v t).1)) n T (fun I' R' => z_nx T R' I' x g p pc tx y (sp_open g v t).2 ∧ z_fx x I I' R R')) n T I R 0 0 23 ls [] := by
    intro hb ls
    rw [hb]
    refine z_iconst (q := 24) (v := (-1)) dX7_open_23 (by rfl) rfl ?_
    exact z_iret rfl dX7_open_24 (Nat.zero_le _) (Nat.zero_le _) (⟨rfl, rfl, rfl, hS, fun _ _ => ⟨rfl, rfl⟩⟩)
  have bad2 : sp_open g v t = (-2, none) → ∀ ls : List (Nat × Value), z_X G muX7_open (4, 0, 0) (z_rel (some (.int (sp_open g v t).1)) n T (fun I' R' => z_nx T R' I' x g p pc tx y (sp_open g v t).2 ∧ z_fx x I I' R R')) n T I R 0 0 37 ls [] := by
    intro hb ls
    rw [hb]
    refine z_bipush (q := 39) (v := (-2)) dX7_open_37 (by rfl) rfl ?_
    exact z_iret rfl dX7_open_39 (Nat.zero_le _) (Nat.zero_le _) (⟨rfl, rfl, rfl, hS, fun _ _ => ⟨rfl, rfl⟩⟩)
  by_cases hx : v < 0 ∨ nI nd ≤ v
  · refine z_aload_n (q := 1) dX7_open_0 rfl rfl rfl ?_
    refine z_getR (q := 4) 7 0 1 115 rfl (by decide) rfl rfl rfl (by with_reducible assumption) (by with_reducible assumption) dX7_open_1 rfl ?_
    refine z_iload_n (q := 5) dX7_open_4 rfl rfl rfl ?_
    refine z_invV (q := 8) (c_X3_doorAt_n G (x + 1) nd v hH c1 hx) (by with_reducible assumption) rfl gX7_open_X3_doorAt rfl hy_X3_doorAt rfl rfl rfl rfl (Nat.le_of_ble_eq_true rfl) ⟨Nat.zero_le _, Nat.zero_le _⟩ dX7_open_5 rfl (z_rv ?_)
    refine z_astore_nN (q := 9) dX7_open_8 rfl (by decide) rfl ?_
    refine z_aload_nN (q := 10) dX7_open_9 rfl rfl rfl ?_
    refine z_ifnullN (q := 23) dX7_open_10 (by decide) ?_
    exact bad (by rw [sp_open, if_pos (by rw [h1e]; exact hx)]) _
  obtain ⟨d, hdn, rfl⟩ : ∃ k, k < nd ∧ v = nI k := by
    rcases pk_ix v (n := nd) (by omega) with z | z | z
    · exact absurd (Or.inl z) hx
    · exact absurd (Or.inr z) hx
    · exact z
  have hvg : ¬ (nI d < 0 ∨ g 1 ≤ nI d) := by rw [h1e]; exact hx
  refine z_aload_n (q := 1) dX7_open_0 rfl rfl rfl ?_
  refine z_getR (q := 4) 7 0 1 115 rfl (by decide) rfl rfl rfl (by with_reducible assumption) (by with_reducible assumption) dX7_open_1 rfl ?_
  refine z_iload_n (q := 5) dX7_open_4 rfl rfl rfl ?_
  refine z_invV (q := 8) (c_X3_doorAt_s G (x + 1) d nd hH c1 hdn hnd) (by with_reducible assumption) rfl gX7_open_X3_doorAt rfl hy_X3_doorAt rfl rfl rfl rfl (Nat.le_of_ble_eq_true rfl) ⟨Nat.zero_le _, Nat.zero_le _⟩ dX7_open_5 rfl (z_rv ?_)
  refine z_astore_n (q := 9) dX7_open_8 rfl (by decide) rfl ?_
  refine z_aload_n (q := 10) dX7_open_9 rfl rfl rfl ?_
  refine z_ifnull (q := 13) dX7_open_10 rfl ?_
  refine z_iload_n (q := 14) dX7_open_13 rfl rfl rfl ?_
  refine z_iconst (q := 15) (v := nI 0) dX7_open_14 (by rfl) rfl ?_
  refine z_bipush (q := 17) (v := nI 10) dX7_open_15 (by rfl) rfl ?_
  refine z_invS (q := 20) (c_X7_isWithin G t (nI 0) (nI 10)) gX7_open_X7_isWithin rfl hy_X7_isWithin rfl rfl rfl rfl (Nat.le_of_ble_eq_true rfl) ⟨Nat.zero_le _, Nat.zero_le _⟩ dX7_open_17 rfl (z_rv ?_)
  by_cases ht : t < nI 0 ∨ nI 10 < t
  · rw [if_pos ht]
    refine z_if_ne (tgt := 25) (q := 23) dX7_open_20 (by decide) rfl (fun hc => False.elim (hc rfl)) (fun _ => ?_)
    exact bad (by rw [sp_open, if_neg hvg, if_pos ht]) _
  rw [if_neg ht]
  refine z_if_ne (tgt := 25) (q := 23) dX7_open_20 (by decide) rfl (fun _ => ?_) (fun hc => False.elim (absurd hc (by decide)))
  obtain ⟨tn, -, ht10, rfl⟩ := z_ix2 (by decide) (by decide) ht
  have e : sp_open g (nI d) (nI tn) = openQ g d (nI tn) := by rw [sp_open, if_neg hvg, if_neg ht, nI_clamp (by omega)]
  rw [e] at bad2 ⊢
  refine z_aload_n (q := 26) dX7_open_25 rfl rfl rfl ?_
  refine z_getR (q := 29) 7 0 1 115 rfl (by decide) rfl rfl rfl (by with_reducible assumption) (by with_reducible assumption) dX7_open_26 rfl ?_
  refine z_aload_n (q := 30) dX7_open_29 rfl rfl rfl ?_
  refine z_iload_n (q := 31) dX7_open_30 rfl rfl rfl ?_
  refine z_invV (q := 34) (c_X3_reasonToRefuse G (x + 1) d nr (nI tn) hH c0 hnr (by omega)) (by with_reducible assumption) rfl gX7_open_X3_reasonToRefuse rfl hy_X3_reasonToRefuse rfl rfl rfl rfl (Nat.le_of_ble_eq_true rfl) ⟨Nat.zero_le _, Nat.zero_le _⟩ dX7_open_31 rfl (z_rv ?_)
  rw [rs_eq hG hI hdn]
  refine z_if_eq (tgt := 40) (q := 37) dX7_open_34 (by decide) rfl (fun h34 => ?_) (fun h34 => ?_)
  rotate_left
  · exact bad2 (by rw [openQ, if_neg h34]) _
  rw [openQ, if_pos h34]
  refine z_aload_n (q := 41) dX7_open_40 rfl rfl rfl ?_
  refine z_getR (q := 44) 7 2 2 117 rfl (by decide) rfl rfl rfl (by with_reducible assumption) (by with_reducible assumption) dX7_open_41 rfl ?_
  refine z_aload_n (q := 45) dX7_open_44 rfl rfl rfl ?_
  refine z_getR (q := 48) 7 0 1 115 rfl (by decide) rfl rfl rfl (by with_reducible assumption) (by with_reducible assumption) dX7_open_45 rfl ?_
  refine z_invV (q := 51) (rec_h G x pc y g tx p hS) (by with_reducible assumption) rfl gX7_open_X2_record rfl hy_X2_record rfl rfl rfl rfl (Nat.le_of_ble_eq_true rfl) ⟨Nat.zero_le _, Nat.zero_le _⟩ dX7_open_48 rfl (z_rnR fun I2 R2 hZ2 => ?_)
  obtain ⟨hS2, f2⟩ := hZ2
  have hHs2 : z_Hs T R2 I2 (x + 1) st g := z_Hs_f hHs (fun q _ _ => (f2 q (by omega)).1) (fun q _ _ => (f2 q (by omega)).2)
  obtain ⟨F2, hH2, hG2, hP2, hF2, d0, d1⟩ := Hs_inv hHs2 hI
  have hTp2 := hP2.1.1
  have hRp2 := hH2.2.2.2.1
  have ps2 : I2 (x + 1 + 3) 1 = nI np := hP2.2.2.2.1
  have hRh2 : R2 x 0 = some (x + 1) := by rw [(f2 x (by omega)).2]; exact hRh
  have hRt2 : R2 x 4 = some (x + 594) := by rw [(f2 x (by omega)).2]; exact hRt
  have hRs2 : R2 x 3 = some (x + 591) := by rw [(f2 x (by omega)).2]; exact hRs
  have hfx : ∀ I3 R3, (∀ q, q < x + 1 ∨ x + 99 ≤ q → I3 q = I2 q ∧ R3 q = R2 q) → z_fx x I I3 R R3 := fun I3 R3 f3 q hq => ⟨(f3 q (by omega)).1.trans (f2 q (by omega)).1, (f3 q (by omega)).2.trans (f2 q (by omega)).2⟩
  have hDm := (hH2.2.2.2.2.2.2.1 d (by omega)).2
  have hTd := hDm.1
  have k5 : I2 (x + 1 + 38 + 5 * d) 5 = g (57 + 10 * d + 6) := HR_door hG2 (by omega) (by decide) (by decide)
  have hl : ¬ g (57 + 10 * d + 7) = 1 := fun z => by rw [rsn, if_pos z] at h34; exact z_01 h34
  have hl2 : g (57 + 10 * d + 7) = 0 ∨ g (57 + 10 * d + 7) = 1 := by
    obtain ⟨sa, sb, ar, sp, de, o, t, l, -, -, -, -, -, -, -, -, g8⟩ := (hI.2.2.2.2.2.1 d (by omega)).1 hdn
    rcases (show l = 0 ∨ l = 1 by omega) with rfl | rfl
    · exact Or.inl (g8.1.trans nI_0)
    · exact Or.inr (g8.1.trans zI1)
  have hG3 := HR_aim hG2 (show d < 12 by omega) (nI tn) hl2
  rw [if_neg hl] at hG3
  have hf3 : ∀ q, q ≠ x + 1 + 38 + 5 * d → (if I2 (x + 1 + 38 + 5 * d) 6 = 0 then zw I2 (x + 1 + 38 + 5 * d) 5 (nI tn) else I2) q = I2 q := aim_f
  refine z_aload_n (q := 52) dX7_open_51 rfl rfl rfl ?_
  refine z_getV (q := 55) 0 5 3 125 rfl (by decide) rfl rfl rfl (by with_reducible assumption) (k5) dX7_open_52 rfl ?_
  refine z_istore (q := 57) dX7_open_55 (by decide) rfl ?_
  refine z_aload_n (q := 58) dX7_open_57 rfl rfl rfl ?_
  refine z_iload_n (q := 59) dX7_open_58 rfl rfl rfl ?_
  refine z_invV (q := 62) (c_X0_aimAt G (x + 1 + 38 + 5 * d) (nI tn) hDm) (by with_reducible assumption) rfl gX7_open_X0_aimAt rfl hy_X0_aimAt rfl rfl rfl rfl (Nat.le_of_ble_eq_true rfl) ⟨Nat.zero_le _, Nat.zero_le _⟩ dX7_open_59 rfl (z_rn ?_)
  generalize (if I2 (x + 1 + 38 + 5 * d) 6 = 0 then zw I2 (x + 1 + 38 + 5 * d) 5 (nI tn) else I2) = I3 at hG3 hf3 ⊢
  have f3 : ∀ q, q < x + 1 ∨ x + 99 ≤ q → I3 q = I2 q ∧ R2 q = R2 q := fun q hq => ⟨hf3 q (by omega), rfl⟩
  refine z_iload (q := 64) (i := 4) dX7_open_62 rfl rfl ?_
  exact z_iret rfl dX7_open_64 (Nat.zero_le _) (Nat.zero_le _) (⟨rfl, rfl, rfl, St_house hS2 (Hb_mk hI hH2 (INV_open hI hdn ht10) hG3 (z_P_f hP2 (fun q q1 q2 => hf3 q (by omega)) (fun _ _ _ => rfl)) hF2 (fun c c1 c2 => upd_n _ _ (by omega)) hst (upd_n _ _ (by omega)) htl) f3, hfx _ _ f3⟩)
set_option maxRecDepth 100000 in
set_option maxHeartbeats 4000000 in
theorem c_X7_lock (G : zG) {n : Nat} {T : zTT} {I : zII} {R : zRR} (x pc y : Nat) (g tx : Nat → Int32) (p : Nat → Nat → Int32) (hS : z_St T R I x g p pc tx y) (v t : Int32) : Ct G yX7_lock wsX7_lock (4, 0, 0) [.ref x, .int v, .int t] n T I R (z_rel (some (.int (sp_lock g v t).1)) n T (fun I' R' => z_nx T R' I' x g p pc tx y (sp_lock g v t).2 ∧ z_fx x I I' R R')) := by
  refine Ct.ofX (M := muX7_lock) (ls := [(0, .ref x), (1, .int v), (2, .int t)]) (by decide +kernel) rfl (by decide) rfl rfl (Nat.le_of_ble_eq_true rfl) ?_
  have hR := hS.1
  obtain ⟨hTx, hRh, hRa, hRi, hRs, hRt, hTt, hSc⟩ := id hR
  obtain ⟨st, hHs, hst, htl⟩ := id hS.2.1
  obtain ⟨hH, nr, nd, np, F, hI, hG, hP, hF⟩ := id hHs
  have hTh := hH.1
  have hRp := hH.2.2.2.1
  have hTp := hP.1.1
  have hnr := hI.1.2
  have hnd := hI.2.1.2
  have hnp := hI.2.2.1.2
  have c0 : I (x + 1) 4 = nI nr := by rw [(HR_sc hG).1]; exact hI.1.1
  have c1 : I (x + 1) 5 = nI nd := by rw [(HR_sc hG).2.1]; exact hI.2.1.1
  have c3 : I (x + 1) 6 = nI st := by rw [(HR_sc hG).2.2.1]; exact hI.2.2.2.1
  have cs2 : I (x + 1 + 3) 1 = nI np := hP.2.2.2.1
  have h0e : g 0 = nI nr := hI.1.1
  have h1e : g 1 = nI nd := hI.2.1.1
  have h2e : g 2 = nI np := hI.2.2.1.1
  have h3e : g 3 = nI st := hI.2.2.2.1
  have hTi := hS.2.2.2.1.1
  have bad : sp_lock g v t = (-1, none) → ∀ ls : List (Nat × Value), z_X G muX7_lock (4, 0, 0) (z_rel (some (.int (sp_lock g v t).1)) n T (fun I' R' => z_nx T R' I' x g p pc tx y (sp_lock g v t).2 ∧ z_fx x I I' R R')) n T I R 0 0 22 ls [] := by
    intro hb ls
    rw [hb]
    refine z_iconst (q := 23) (v := (-1)) dX7_lock_22 (by rfl) rfl ?_
    exact z_iret rfl dX7_lock_23 (Nat.zero_le _) (Nat.zero_le _) (⟨rfl, rfl, rfl, hS, fun _ _ => ⟨rfl, rfl⟩⟩)
  have bad2 : sp_lock g v t = (-2, none) → ∀ ls : List (Nat × Value), z_X G muX7_lock (4, 0, 0) (z_rel (some (.int (sp_lock g v t).1)) n T (fun I' R' => z_nx T R' I' x g p pc tx y (sp_lock g v t).2 ∧ z_fx x I I' R R')) n T I R 0 0 41 ls [] := by
    intro hb ls
    rw [hb]
    refine z_bipush (q := 43) (v := (-2)) dX7_lock_41 (by rfl) rfl ?_
    exact z_iret rfl dX7_lock_43 (Nat.zero_le _) (Nat.zero_le _) (⟨rfl, rfl, rfl, hS, fun _ _ => ⟨rfl, rfl⟩⟩)
  by_cases hx : v < 0 ∨ nI nd ≤ v
  · refine z_aload_n (q := 1) dX7_lock_0 rfl rfl rfl ?_
    refine z_getR (q := 4) 7 0 1 89 rfl (by decide) rfl rfl rfl (by with_reducible assumption) (by with_reducible assumption) dX7_lock_1 rfl ?_
    refine z_iload_n (q := 5) dX7_lock_4 rfl rfl rfl ?_
    refine z_invV (q := 8) (c_X3_doorAt_n G (x + 1) nd v hH c1 hx) (by with_reducible assumption) rfl gX7_lock_X3_doorAt rfl hy_X3_doorAt rfl rfl rfl rfl (Nat.le_of_ble_eq_true rfl) ⟨Nat.zero_le _, Nat.zero_le _⟩ dX7_lock_5 rfl (z_rv ?_)
    refine z_astore_nN (q := 9) dX7_lock_8 rfl (by decide) rfl ?_
    refine z_aload_nN (q := 10) dX7_lock_9 rfl rfl rfl ?_
    refine z_ifnullN (q := 22) dX7_lock_10 (by decide) ?_
    exact bad (by rw [sp_lock, if_pos (by rw [h1e]; exact hx)]) _
  obtain ⟨d, hdn, rfl⟩ : ∃ k, k < nd ∧ v = nI k := by
    rcases pk_ix v (n := nd) (by omega) with z | z | z
    · exact absurd (Or.inl z) hx
    · exact absurd (Or.inr z) hx
    · exact z
  have hvg : ¬ (nI d < 0 ∨ g 1 ≤ nI d) := by rw [h1e]; exact hx
  have hDm0 := (hH.2.2.2.2.2.2.1 d (by omega)).2
  have hTd := hDm0.1
  refine z_aload_n (q := 1) dX7_lock_0 rfl rfl rfl ?_
  refine z_getR (q := 4) 7 0 1 89 rfl (by decide) rfl rfl rfl (by with_reducible assumption) (by with_reducible assumption) dX7_lock_1 rfl ?_
  refine z_iload_n (q := 5) dX7_lock_4 rfl rfl rfl ?_
  refine z_invV (q := 8) (c_X3_doorAt_s G (x + 1) d nd hH c1 hdn hnd) (by with_reducible assumption) rfl gX7_lock_X3_doorAt rfl hy_X3_doorAt rfl rfl rfl rfl (Nat.le_of_ble_eq_true rfl) ⟨Nat.zero_le _, Nat.zero_le _⟩ dX7_lock_5 rfl (z_rv ?_)
  refine z_astore_n (q := 9) dX7_lock_8 rfl (by decide) rfl ?_
  refine z_aload_n (q := 10) dX7_lock_9 rfl rfl rfl ?_
  refine z_ifnull (q := 13) dX7_lock_10 rfl ?_
  refine z_iload_n (q := 14) dX7_lock_13 rfl rfl rfl ?_
  refine z_iconst (q := 15) (v := nI 0) dX7_lock_14 (by rfl) rfl ?_
  refine z_iconst (q := 16) (v := nI 1) dX7_lock_15 (by rfl) rfl ?_
  refine z_invS (q := 19) (c_X7_isWithin G t (nI 0) (nI 1)) gX7_lock_X7_isWithin rfl hy_X7_isWithin rfl rfl rfl rfl (Nat.le_of_ble_eq_true rfl) ⟨Nat.zero_le _, Nat.zero_le _⟩ dX7_lock_16 rfl (z_rv ?_)
  by_cases ht : t < nI 0 ∨ nI 1 < t
  · rw [if_pos ht]
    refine z_if_ne (tgt := 24) (q := 22) dX7_lock_19 (by decide) rfl (fun hc => False.elim (hc rfl)) (fun _ => ?_)
    exact bad (by rw [sp_lock, if_neg hvg, if_pos ht]) _
  rw [if_neg ht]
  refine z_if_ne (tgt := 24) (q := 22) dX7_lock_19 (by decide) rfl (fun _ => ?_) (fun hc => False.elim (absurd hc (by decide)))
  obtain ⟨k, -, hk1, rfl⟩ := z_ix2 (by decide) (by decide) ht
  have e : sp_lock g (nI d) (nI k) = lockQ g d (nI k) := by rw [sp_lock, if_neg hvg, if_neg ht, nI_clamp (by omega)]
  rw [e] at bad2 ⊢
  have k6 : I (x + 1 + 38 + 5 * d) 6 = g (57 + 10 * d + 7) := HR_door hG (by omega) (by decide) (by decide)
  have hIl := INV_lock hI hdn hk1
  have fin : ∀ I3 (R2 : zRR) I2, z_St T R2 I2 x g (pushP p pc g) (chC pc + 1) tx y → (∀ q, q < x + 197 ∨ x + 591 ≤ q → I2 q = I q ∧ R2 q = R q) → (∀ q, q ≠ x + 1 + 38 + 5 * d → I3 q = I2 q) → z_HR I3 (x + 1) (upd (upd g (57 + 10 * d + 7) (nI k)) (57 + 10 * d + 6) (if nI k = 1 then g (57 + 10 * d + 5) else g (57 + 10 * d + 6))) (fun _ => st) (fun _ => st) → ¬ g (57 + 10 * d + 7) = nI k → ∀ ls : List (Nat × Value), lv_pick ls [3] = [(3, .ref (x + 1 + 38 + 5 * d))] → z_X G muX7_lock (4, 0, 0) (z_rel (some (.int (lockQ g d (nI k)).1)) n T (fun I' R' => z_nx T R' I' x g p pc tx y (lockQ g d (nI k)).2 ∧ z_fx x I I' R R')) n T I3 R2 0 0 84 ls [] := by
    intro I3 R2 I2 hS2 f2 hf3 hG3 hne ls hls
    have hHs2 : z_Hs T R2 I2 (x + 1) st g := z_Hs_f hHs (fun q _ _ => (f2 q (by omega)).1) (fun q _ _ => (f2 q (by omega)).2)
    obtain ⟨F2, hH2, hG2, hP2, hF2, d0, d1⟩ := Hs_inv hHs2 hI
    have k4 : I3 (x + 1 + 38 + 5 * d) 4 = g (57 + 10 * d + 5) := by rw [HR_door hG3 (by omega) (by decide) (by decide), upd_n _ _ (by omega), upd_n _ _ (by omega)]
    have f3 : ∀ q, q < x + 1 ∨ x + 99 ≤ q → I3 q = I2 q ∧ R2 q = R2 q := fun q hq => ⟨hf3 q (by omega), rfl⟩
    refine z_pick [3] hls ?_
    rw [lockQ, if_neg hne]
    refine z_aload_n (q := 85) dX7_lock_84 rfl rfl rfl ?_
    refine z_getV (q := 88) 0 4 4 98 rfl (by decide) rfl rfl rfl (by with_reducible assumption) (k4) dX7_lock_85 rfl ?_
    exact z_iret rfl dX7_lock_88 (Nat.zero_le _) (Nat.zero_le _) (⟨rfl, rfl, rfl, St_house hS2 (Hb_mk hI hH2 hIl hG3 (z_P_f hP2 (fun q q1 q2 => hf3 q (by omega)) (fun _ _ _ => rfl)) hF2 (fun c c1 c2 => by rw [upd_n _ _ (by omega), upd_n _ _ (by omega)]) hst (by rw [upd_n _ _ (by omega), upd_n _ _ (by omega)]) htl) f3, fun q hq => ⟨(f3 q (by omega)).1.trans (f2 q (by omega)).1, (f2 q (by omega)).2⟩⟩)
  rcases (show k = 0 ∨ k = 1 by omega) with rfl | rfl
  · refine z_aload_n (q := 25) dX7_lock_24 rfl rfl rfl ?_
    refine z_getV (q := 28) 0 6 2 100 rfl (by decide) rfl rfl rfl (by with_reducible assumption) (k6) dX7_lock_25 rfl ?_
    refine z_iload_n (q := 29) dX7_lock_28 rfl rfl rfl ?_
    refine z_iconst (q := 30) (v := nI 1) dX7_lock_29 (by rfl) rfl ?_
    refine z_icmp_ne (tgt := 37) (q := 33) dX7_lock_30 (by decide) rfl (fun _ => ?_) (fun hc => False.elim ((show ¬ nI 0 = nI 1 by decide) hc))
    refine z_iconst (q := 38) (v := nI 0) dX7_lock_37 (by rfl) rfl ?_
    refine z_icmp_ne (tgt := 44) (q := 41) dX7_lock_38 (by decide) rfl (fun h38 => ?_) (fun h38 => ?_)
    · refine z_aload_n (q := 45) dX7_lock_44 rfl rfl rfl ?_
      refine z_getR (q := 48) 7 2 3 91 rfl (by decide) rfl rfl rfl (by with_reducible assumption) (by with_reducible assumption) dX7_lock_45 rfl ?_
      refine z_aload_n (q := 49) dX7_lock_48 rfl rfl rfl ?_
      refine z_getR (q := 52) 7 0 1 89 rfl (by decide) rfl rfl rfl (by with_reducible assumption) (by with_reducible assumption) dX7_lock_49 rfl ?_
      refine z_invV (q := 55) (rec_h G x pc y g tx p hS) (by with_reducible assumption) rfl gX7_lock_X2_record rfl hy_X2_record rfl rfl rfl rfl (Nat.le_of_ble_eq_true rfl) ⟨Nat.zero_le _, Nat.zero_le _⟩ dX7_lock_52 rfl (z_rnR fun I2 R2 hZ2 => ?_)
      obtain ⟨hS2, f2⟩ := hZ2
      have hHs2 : z_Hs T R2 I2 (x + 1) st g := z_Hs_f hHs (fun q _ _ => (f2 q (by omega)).1) (fun q _ _ => (f2 q (by omega)).2)
      obtain ⟨F2, hH2, hG2, hP2, hF2, d0, d1⟩ := Hs_inv hHs2 hI
      have hTp2 := hP2.1.1
      have hRp2 := hH2.2.2.2.1
      have ps2 : I2 (x + 1 + 3) 1 = nI np := hP2.2.2.2.1
      have hRh2 : R2 x 0 = some (x + 1) := by rw [(f2 x (by omega)).2]; exact hRh
      have hRt2 : R2 x 4 = some (x + 594) := by rw [(f2 x (by omega)).2]; exact hRt
      have hRs2 : R2 x 3 = some (x + 591) := by rw [(f2 x (by omega)).2]; exact hRs
      have hfx : ∀ I3 R3, (∀ q, q < x + 1 ∨ x + 99 ≤ q → I3 q = I2 q ∧ R3 q = R2 q) → z_fx x I I3 R R3 := fun I3 R3 f3 q hq => ⟨(f3 q (by omega)).1.trans (f2 q (by omega)).1, (f3 q (by omega)).2.trans (f2 q (by omega)).2⟩
      have hDm := (hH2.2.2.2.2.2.2.1 d (by omega)).2
      refine z_aload_n (q := 56) dX7_lock_55 rfl rfl rfl ?_
      refine z_iload_n (q := 57) dX7_lock_56 rfl rfl rfl ?_
      refine z_iconst (q := 58) (v := nI 1) dX7_lock_57 (by rfl) rfl ?_
      refine z_icmp_ne (tgt := 65) (q := 61) dX7_lock_58 (by decide) rfl (fun _ => ?_) (fun hc => False.elim ((show ¬ nI 0 = nI 1 by decide) hc))
      refine z_iconst (q := 66) (v := nI 0) dX7_lock_65 (by rfl) rfl ?_
      refine z_put (q := 69) 0 6 2 100 rfl (by decide) rfl rfl (tyX0_ok 6 (by decide)) (rfl) (rfl) rfl (by with_reducible assumption) dX7_lock_66 rfl ?_
      refine z_aload_n (q := 70) dX7_lock_69 rfl rfl rfl ?_
      refine z_getI (q := 73) 0 6 2 100 rfl (by decide) rfl rfl rfl (by with_reducible assumption) dX7_lock_70 rfl ?_
      rw [zw_s]
      refine z_if_eq (tgt := 84) (q := 76) dX7_lock_73 (by decide) rfl (fun _ => ?_) (fun hc => False.elim (hc nI_0))
      refine fin _ R2 I2 hS2 f2 (fun q hq => zw_row _ _ hq) ?_ h38 _ rfl
      rw [if_neg z_n01]
      refine HR_g (HRw_door hG2 (nI 0) (by omega) (w := 6) (by decide) (by decide)) (fun c c1 c2 => ?_)
      by_cases h6 : c = 57 + 10 * d + 6
      · rw [h6, upd_s, upd_n _ _ (by omega)]
      · rw [upd_n _ _ h6]
    · exact bad2 (by rw [lockQ, if_pos h38]) _
  · refine z_aload_n (q := 25) dX7_lock_24 rfl rfl rfl ?_
    refine z_getV (q := 28) 0 6 2 100 rfl (by decide) rfl rfl rfl (by with_reducible assumption) (k6) dX7_lock_25 rfl ?_
    refine z_iload_n (q := 29) dX7_lock_28 rfl rfl rfl ?_
    refine z_iconst (q := 30) (v := nI 1) dX7_lock_29 (by rfl) rfl ?_
    refine z_icmp_ne (tgt := 37) (q := 33) dX7_lock_30 (by decide) rfl (fun hc => False.elim (hc rfl)) (fun _ => ?_)
    refine z_iconst (q := 34) (v := nI 1) dX7_lock_33 (by rfl) rfl ?_
    refine z_goto (q := 38) dX7_lock_34 (by decide) ?_
    refine z_icmp_ne (tgt := 44) (q := 41) dX7_lock_38 (by decide) rfl (fun h38 => ?_) (fun h38 => ?_)
    · refine z_aload_n (q := 45) dX7_lock_44 rfl rfl rfl ?_
      refine z_getR (q := 48) 7 2 3 91 rfl (by decide) rfl rfl rfl (by with_reducible assumption) (by with_reducible assumption) dX7_lock_45 rfl ?_
      refine z_aload_n (q := 49) dX7_lock_48 rfl rfl rfl ?_
      refine z_getR (q := 52) 7 0 1 89 rfl (by decide) rfl rfl rfl (by with_reducible assumption) (by with_reducible assumption) dX7_lock_49 rfl ?_
      refine z_invV (q := 55) (rec_h G x pc y g tx p hS) (by with_reducible assumption) rfl gX7_lock_X2_record rfl hy_X2_record rfl rfl rfl rfl (Nat.le_of_ble_eq_true rfl) ⟨Nat.zero_le _, Nat.zero_le _⟩ dX7_lock_52 rfl (z_rnR fun I2 R2 hZ2 => ?_)
      obtain ⟨hS2, f2⟩ := hZ2
      have hHs2 : z_Hs T R2 I2 (x + 1) st g := z_Hs_f hHs (fun q _ _ => (f2 q (by omega)).1) (fun q _ _ => (f2 q (by omega)).2)
      obtain ⟨F2, hH2, hG2, hP2, hF2, d0, d1⟩ := Hs_inv hHs2 hI
      have hTp2 := hP2.1.1
      have hRp2 := hH2.2.2.2.1
      have ps2 : I2 (x + 1 + 3) 1 = nI np := hP2.2.2.2.1
      have hRh2 : R2 x 0 = some (x + 1) := by rw [(f2 x (by omega)).2]; exact hRh
      have hRt2 : R2 x 4 = some (x + 594) := by rw [(f2 x (by omega)).2]; exact hRt
      have hRs2 : R2 x 3 = some (x + 591) := by rw [(f2 x (by omega)).2]; exact hRs
      have hfx : ∀ I3 R3, (∀ q, q < x + 1 ∨ x + 99 ≤ q → I3 q = I2 q ∧ R3 q = R2 q) → z_fx x I I3 R R3 := fun I3 R3 f3 q hq => ⟨(f3 q (by omega)).1.trans (f2 q (by omega)).1, (f3 q (by omega)).2.trans (f2 q (by omega)).2⟩
      have hDm := (hH2.2.2.2.2.2.2.1 d (by omega)).2
      refine z_aload_n (q := 56) dX7_lock_55 rfl rfl rfl ?_
      refine z_iload_n (q := 57) dX7_lock_56 rfl rfl rfl ?_
      refine z_iconst (q := 58) (v := nI 1) dX7_lock_57 (by rfl) rfl ?_
      refine z_icmp_ne (tgt := 65) (q := 61) dX7_lock_58 (by decide) rfl (fun hc => False.elim (hc rfl)) (fun _ => ?_)
      refine z_iconst (q := 62) (v := nI 1) dX7_lock_61 (by rfl) rfl ?_
      refine z_goto (q := 66) dX7_lock_62 (by decide) ?_
      refine z_put (q := 69) 0 6 2 100 rfl (by decide) rfl rfl (tyX0_ok 6 (by decide)) (rfl) (rfl) rfl (by with_reducible assumption) dX7_lock_66 rfl ?_
      refine z_aload_n (q := 70) dX7_lock_69 rfl rfl rfl ?_
      refine z_getI (q := 73) 0 6 2 100 rfl (by decide) rfl rfl rfl (by with_reducible assumption) dX7_lock_70 rfl ?_
      rw [zw_s]
      refine z_if_eq (tgt := 84) (q := 76) dX7_lock_73 (by decide) rfl (fun hc => False.elim (z_n10 hc)) (fun _ => ?_)
      refine z_aload_n (q := 77) dX7_lock_76 rfl rfl rfl ?_
      refine z_aload_n (q := 78) dX7_lock_77 rfl rfl rfl ?_
      refine z_getI (q := 81) 0 4 4 98 rfl (by decide) rfl rfl rfl (by with_reducible assumption) dX7_lock_78 rfl ?_
      refine z_put (q := 84) 0 5 5 99 rfl (by decide) rfl rfl (tyX0_ok 5 (by decide)) (rfl) (rfl) rfl (by with_reducible assumption) dX7_lock_81 rfl ?_
      refine fin _ R2 I2 hS2 f2 (fun q hq => (zw_row _ _ hq).trans (zw_row _ _ hq)) ?_ h38 _ rfl
      rw [if_pos zI1, zw_k _ _ (show (4 : Nat) ≠ 6 by decide), HR_door hG2 (w := 4) (by omega) (by decide) (by decide)]
      exact HRw_door (HRw_door hG2 (nI 1) (by omega) (w := 6) (by decide) (by decide)) _ (by omega) (w := 5) (by decide) (by decide)
    · exact bad2 (by rw [lockQ, if_pos h38]) _
set_option maxRecDepth 100000 in
set_option maxHeartbeats 4000000 in
theorem c_X7_set (G : zG) {n : Nat} {T : zTT} {I : zII} {R : zRR} (x pc y : Nat) (g tx : Nat → Int32) (p : Nat → Nat → Int32) (hS : z_St T R I x g p pc tx y) (v t : Int32) : Ct G yX7_set wsX7_set (4, 0, 0) [.ref x, .int v, .int t] n T I R (z_rel (some (.int (sp_set g v t).1)) n T (fun I' R' => z_nx T R' I' x g p pc tx y (sp_set g v t).2 ∧ z_fx x I I' R R')) := by
  refine Ct.ofX (M := muX7_set) (ls := [(0, .ref x), (1, .int v), (2, .int t)]) (by decide +kernel) rfl (by decide) rfl rfl (Nat.le_of_ble_eq_true rfl) ?_
  have hR := hS.1
  obtain ⟨hTx, hRh, hRa, hRi, hRs, hRt, hTt, hSc⟩ := id hR
  obtain ⟨st, hHs, hst, htl⟩ := id hS.2.1
  obtain ⟨hH, nr, nd, np, F, hI, hG, hP, hF⟩ := id hHs
  have hTh := hH.1
  have hRp := hH.2.2.2.1
  have hTp := hP.1.1
  have hnr := hI.1.2
  have hnd := hI.2.1.2
  have hnp := hI.2.2.1.2
  have c0 : I (x + 1) 4 = nI nr := by rw [(HR_sc hG).1]; exact hI.1.1
  have c1 : I (x + 1) 5 = nI nd := by rw [(HR_sc hG).2.1]; exact hI.2.1.1
  have c3 : I (x + 1) 6 = nI st := by rw [(HR_sc hG).2.2.1]; exact hI.2.2.2.1
  have cs2 : I (x + 1 + 3) 1 = nI np := hP.2.2.2.1
  have h0e : g 0 = nI nr := hI.1.1
  have h1e : g 1 = nI nd := hI.2.1.1
  have h2e : g 2 = nI np := hI.2.2.1.1
  have h3e : g 3 = nI st := hI.2.2.2.1
  have hTi := hS.2.2.2.1.1
  have hTse := hH.2.2.2.2.1.1
  have bad : sp_set g v t = (-1, none) → ∀ ls : List (Nat × Value), z_X G muX7_set (4, 0, 0) (z_rel (some (.int (sp_set g v t).1)) n T (fun I' R' => z_nx T R' I' x g p pc tx y (sp_set g v t).2 ∧ z_fx x I I' R R')) n T I R 0 0 19 ls [] := by
    intro hb ls
    rw [hb]
    refine z_iconst (q := 20) (v := (-1)) dX7_set_19 (by rfl) rfl ?_
    exact z_iret rfl dX7_set_20 (Nat.zero_le _) (Nat.zero_le _) (⟨rfl, rfl, rfl, hS, fun _ _ => ⟨rfl, rfl⟩⟩)
  refine z_iload_n (q := 1) dX7_set_0 rfl rfl rfl ?_
  refine z_iconst (q := 2) (v := nI 0) dX7_set_1 (by rfl) rfl ?_
  refine z_iconst (q := 3) (v := nI 1) dX7_set_2 (by rfl) rfl ?_
  refine z_invS (q := 6) (c_X7_isWithin G v (nI 0) (nI 1)) gX7_set_X7_isWithin rfl hy_X7_isWithin rfl rfl rfl rfl (Nat.le_of_ble_eq_true rfl) ⟨Nat.zero_le _, Nat.zero_le _⟩ dX7_set_3 rfl (z_rv ?_)
  by_cases hv : v < nI 0 ∨ nI 1 < v
  · rw [if_pos hv]
    refine z_if_eq (tgt := 19) (q := 9) dX7_set_6 (by decide) rfl (fun _ => ?_) (fun hc => False.elim (hc rfl))
    exact bad (by rw [sp_set, if_pos hv]) _
  rw [if_neg hv]
  refine z_if_eq (tgt := 19) (q := 9) dX7_set_6 (by decide) rfl (fun hc => False.elim (absurd hc (by decide))) (fun _ => ?_)
  refine z_iload_n (q := 10) dX7_set_9 rfl rfl rfl ?_
  refine z_iconst (q := 11) (v := nI 0) dX7_set_10 (by rfl) rfl ?_
  refine z_ldc (q := 13) (i := 1) (v := 1000000) rfl dX7_set_11 rfl ?_
  refine z_invS (q := 16) (c_X7_isWithin G t (nI 0) 1000000) gX7_set_X7_isWithin rfl hy_X7_isWithin rfl rfl rfl rfl (Nat.le_of_ble_eq_true rfl) ⟨Nat.zero_le _, Nat.zero_le _⟩ dX7_set_13 rfl (z_rv ?_)
  by_cases ht : t < nI 0 ∨ 1000000 < t
  · rw [if_pos ht]
    refine z_if_ne (tgt := 21) (q := 19) dX7_set_16 (by decide) rfl (fun hc => False.elim (hc rfl)) (fun _ => ?_)
    exact bad (by rw [sp_set, if_neg hv, if_pos ht]) _
  rw [if_neg ht]
  refine z_if_ne (tgt := 21) (q := 19) dX7_set_16 (by decide) rfl (fun _ => ?_) (fun hc => False.elim (absurd hc (by decide)))
  obtain ⟨k, -, hk1, rfl⟩ := z_ix2 (by decide) (by decide) hv
  have e : sp_set g (nI k) t = setQ g k t := by rw [sp_set, if_neg hv, if_neg ht, nI_clamp (by omega)]
  rw [e, setQ]
  refine z_aload_n (q := 22) dX7_set_21 rfl rfl rfl ?_
  refine z_getR (q := 25) 7 2 2 86 rfl (by decide) rfl rfl rfl (by with_reducible assumption) (by with_reducible assumption) dX7_set_22 rfl ?_
  refine z_aload_n (q := 26) dX7_set_25 rfl rfl rfl ?_
  refine z_getR (q := 29) 7 0 3 84 rfl (by decide) rfl rfl rfl (by with_reducible assumption) (by with_reducible assumption) dX7_set_26 rfl ?_
  refine z_invV (q := 32) (rec_h G x pc y g tx p hS) (by with_reducible assumption) rfl gX7_set_X2_record rfl hy_X2_record rfl rfl rfl rfl (Nat.le_of_ble_eq_true rfl) ⟨Nat.zero_le _, Nat.zero_le _⟩ dX7_set_29 rfl (z_rnR fun I2 R2 hZ2 => ?_)
  obtain ⟨hS2, f2⟩ := hZ2
  have hHs2 : z_Hs T R2 I2 (x + 1) st g := z_Hs_f hHs (fun q _ _ => (f2 q (by omega)).1) (fun q _ _ => (f2 q (by omega)).2)
  obtain ⟨F2, hH2, hG2, hP2, hF2, d0, d1⟩ := Hs_inv hHs2 hI
  have hTp2 := hP2.1.1
  have hRp2 := hH2.2.2.2.1
  have ps2 : I2 (x + 1 + 3) 1 = nI np := hP2.2.2.2.1
  have hRh2 : R2 x 0 = some (x + 1) := by rw [(f2 x (by omega)).2]; exact hRh
  have hRt2 : R2 x 4 = some (x + 594) := by rw [(f2 x (by omega)).2]; exact hRt
  have hRs2 : R2 x 3 = some (x + 591) := by rw [(f2 x (by omega)).2]; exact hRs
  have hfx : ∀ I3 R3, (∀ q, q < x + 1 ∨ x + 99 ≤ q → I3 q = I2 q ∧ R3 q = R2 q) → z_fx x I I3 R R3 := fun I3 R3 f3 q hq => ⟨(f3 q (by omega)).1.trans (f2 q (by omega)).1, (f3 q (by omega)).2.trans (f2 q (by omega)).2⟩
  have hRse2 := hH2.2.2.2.2.1.2
  have hq : I2 (x + 1 + 21) k = g (7 + k) := by
    rcases (show k = 0 ∨ k = 1 by omega) with rfl | rfl
    · exact (HR_sc hG2).2.2.2.2.2.2.1
    · exact (HR_sc hG2).2.2.2.2.2.2.2
  refine z_aload_n (q := 33) dX7_set_32 rfl rfl rfl ?_
  refine z_getR (q := 36) 7 0 3 84 rfl (by decide) rfl rfl rfl (by with_reducible assumption) (by with_reducible assumption) dX7_set_33 rfl ?_
  refine z_getR (q := 39) 3 3 4 92 rfl (by decide) rfl rfl rfl (by with_reducible assumption) (by with_reducible assumption) dX7_set_36 rfl ?_
  refine z_iload_n (q := 40) dX7_set_39 rfl rfl rfl ?_
  refine z_ialdV (q := 41) _ (by with_reducible assumption) (rfl) (by omega) (by decide) (hq) dX7_set_40 rfl ?_
  refine z_istore_n (q := 42) dX7_set_41 rfl (by decide) rfl ?_
  refine z_aload_n (q := 43) dX7_set_42 rfl rfl rfl ?_
  refine z_getR (q := 46) 7 0 3 84 rfl (by decide) rfl rfl rfl (by with_reducible assumption) (by with_reducible assumption) dX7_set_43 rfl ?_
  refine z_getR (q := 49) 3 3 4 92 rfl (by decide) rfl rfl rfl (by with_reducible assumption) (by with_reducible assumption) dX7_set_46 rfl ?_
  refine z_iload_n (q := 50) dX7_set_49 rfl rfl rfl ?_
  refine z_iload_n (q := 51) dX7_set_50 rfl rfl rfl ?_
  refine z_iast (q := 52) _ (by with_reducible assumption) (rfl) (by omega) (by decide) dX7_set_51 rfl ?_
  have f3 : ∀ q, q < x + 1 ∨ x + 99 ≤ q → zw I2 (x + 1 + 21) k t q = I2 q ∧ R2 q = R2 q := fun q hq => ⟨zw_row _ _ (by omega), rfl⟩
  have hG3 := HRw_set hG2 t (show k < 2 by omega)
  refine z_iload_n (q := 53) dX7_set_52 rfl rfl rfl ?_
  exact z_iret rfl dX7_set_53 (Nat.zero_le _) (Nat.zero_le _) (⟨rfl, rfl, rfl, St_house hS2 (Hb_mk hI hH2 (INV_set hI (show k < 2 by omega) t) hG3 (z_P_f hP2 (fun q q1 q2 => zw_row _ _ (by omega)) (fun _ _ _ => rfl)) hF2 (fun c c1 c2 => upd_n _ _ (by omega)) hst (upd_n _ _ (by omega)) htl) f3, hfx _ _ f3⟩)
set_option maxRecDepth 100000 in
set_option maxHeartbeats 4000000 in
theorem c_X7_room (G : zG) {n : Nat} {T : zTT} {I : zII} {R : zRR} (x pc y : Nat) (g tx : Nat → Int32) (p : Nat → Nat → Int32) (hS : z_St T R I x g p pc tx y) (v t : Int32) : Ct G yX7_room wsX7_room (4, 0, 0) [.ref x, .int v, .int t] n T I R (z_rel (some (.int (sp_room g v t).1)) n T (fun I' R' => z_nx T R' I' x g p pc tx y (sp_room g v t).2 ∧ z_fx x I I' R R')) := by
  refine Ct.ofX (M := muX7_room) (ls := [(0, .ref x), (1, .int v), (2, .int t)]) (by decide +kernel) rfl (by decide) rfl rfl (Nat.le_of_ble_eq_true rfl) ?_
  have hR := hS.1
  obtain ⟨hTx, hRh, hRa, hRi, hRs, hRt, hTt, hSc⟩ := id hR
  obtain ⟨st, hHs, hst, htl⟩ := id hS.2.1
  obtain ⟨hH, nr, nd, np, F, hI, hG, hP, hF⟩ := id hHs
  have hTh := hH.1
  have hRp := hH.2.2.2.1
  have hTp := hP.1.1
  have hnr := hI.1.2
  have hnd := hI.2.1.2
  have hnp := hI.2.2.1.2
  have c0 : I (x + 1) 4 = nI nr := by rw [(HR_sc hG).1]; exact hI.1.1
  have c1 : I (x + 1) 5 = nI nd := by rw [(HR_sc hG).2.1]; exact hI.2.1.1
  have c3 : I (x + 1) 6 = nI st := by rw [(HR_sc hG).2.2.1]; exact hI.2.2.2.1
  have cs2 : I (x + 1 + 3) 1 = nI np := hP.2.2.2.1
  have h0e : g 0 = nI nr := hI.1.1
  have h1e : g 1 = nI nd := hI.2.1.1
  have h2e : g 2 = nI np := hI.2.2.1.1
  have h3e : g 3 = nI st := hI.2.2.2.1
  have hTi := hS.2.2.2.1.1
  have bad : sp_room g v t = (-1, none) → ∀ ls : List (Nat × Value), z_X G muX7_room (4, 0, 0) (z_rel (some (.int (sp_room g v t).1)) n T (fun I' R' => z_nx T R' I' x g p pc tx y (sp_room g v t).2 ∧ z_fx x I I' R R')) n T I R 0 0 23 ls [] := by
    intro hb ls
    rw [hb]
    refine z_iconst (q := 24) (v := (-1)) dX7_room_23 (by rfl) rfl ?_
    exact z_iret rfl dX7_room_24 (Nat.zero_le _) (Nat.zero_le _) (⟨rfl, rfl, rfl, hS, fun _ _ => ⟨rfl, rfl⟩⟩)
  have bad2 : sp_room g v t = (-3, none) → ∀ ls : List (Nat × Value), z_X G muX7_room (4, 0, 0) (z_rel (some (.int (sp_room g v t).1)) n T (fun I' R' => z_nx T R' I' x g p pc tx y (sp_room g v t).2 ∧ z_fx x I I' R R')) n T I R 0 0 37 ls [] := by
    intro hb ls
    rw [hb]
    refine z_bipush (q := 39) (v := (-3)) dX7_room_37 (by rfl) rfl ?_
    exact z_iret rfl dX7_room_39 (Nat.zero_le _) (Nat.zero_le _) (⟨rfl, rfl, rfl, hS, fun _ _ => ⟨rfl, rfl⟩⟩)
  have hg0 : gN g 0 = nr := gN_of h0e (by omega)
  refine z_iload_n (q := 1) dX7_room_0 rfl rfl rfl ?_
  refine z_bipush (q := 3) (v := nI 10) dX7_room_1 (by rfl) rfl ?_
  refine z_sipush (q := 6) (v := nI 10000) dX7_room_3 (by rfl) rfl ?_
  refine z_invS (q := 9) (c_X7_isWithin G v (nI 10) (nI 10000)) gX7_room_X7_isWithin rfl hy_X7_isWithin rfl rfl rfl rfl (Nat.le_of_ble_eq_true rfl) ⟨Nat.zero_le _, Nat.zero_le _⟩ dX7_room_6 rfl (z_rv ?_)
  by_cases hv : v < nI 10 ∨ nI 10000 < v
  · rw [if_pos hv]
    refine z_if_eq (tgt := 23) (q := 12) dX7_room_9 (by decide) rfl (fun _ => ?_) (fun hc => False.elim (hc rfl))
    exact bad (by rw [sp_room, if_pos hv]) _
  rw [if_neg hv]
  refine z_if_eq (tgt := 23) (q := 12) dX7_room_9 (by decide) rfl (fun hc => False.elim (absurd hc (by decide))) (fun _ => ?_)
  refine z_iload_n (q := 13) dX7_room_12 rfl rfl rfl ?_
  refine z_iconst (q := 14) (v := nI 0) dX7_room_13 (by rfl) rfl ?_
  refine z_sipush (q := 17) (v := nI 1000) dX7_room_14 (by rfl) rfl ?_
  refine z_invS (q := 20) (c_X7_isWithin G t (nI 0) (nI 1000)) gX7_room_X7_isWithin rfl hy_X7_isWithin rfl rfl rfl rfl (Nat.le_of_ble_eq_true rfl) ⟨Nat.zero_le _, Nat.zero_le _⟩ dX7_room_17 rfl (z_rv ?_)
  by_cases ht : t < nI 0 ∨ nI 1000 < t
  · rw [if_pos ht]
    refine z_if_ne (tgt := 25) (q := 23) dX7_room_20 (by decide) rfl (fun hc => False.elim (hc rfl)) (fun _ => ?_)
    exact bad (by rw [sp_room, if_neg hv, if_pos ht]) _
  rw [if_neg ht]
  refine z_if_ne (tgt := 25) (q := 23) dX7_room_20 (by decide) rfl (fun _ => ?_) (fun hc => False.elim (absurd hc (by decide)))
  refine z_aload_n (q := 26) dX7_room_25 rfl rfl rfl ?_
  refine z_getR (q := 29) 7 0 1 91 rfl (by decide) rfl rfl rfl (by with_reducible assumption) (by with_reducible assumption) dX7_room_26 rfl ?_
  refine z_getV (q := 32) 3 4 2 100 rfl (by decide) rfl rfl rfl (by with_reducible assumption) (c0) dX7_room_29 rfl ?_
  refine z_bipush (q := 34) (v := nI 8) dX7_room_32 (by rfl) rfl ?_
  refine z_icmpn_lt (rfl) (rfl) (by omega) (by omega) (tgt := 40) (q := 37) dX7_room_34 (by decide) rfl (fun h34 => ?_) (fun h34 => ?_)
  rotate_left
  · exact bad2 (by rw [sp_room, if_neg hv, if_neg ht, if_pos (by rw [hg0]; omega)]) _
  obtain ⟨vn, hv1, hv2, rfl⟩ := z_ix2 (by decide) (by decide) hv
  rw [sp_room, if_neg hv, if_neg ht, if_neg (by rw [hg0]; omega), hg0, h0e]
  refine z_aload_n (q := 41) dX7_room_40 rfl rfl rfl ?_
  refine z_getR (q := 44) 7 2 3 93 rfl (by decide) rfl rfl rfl (by with_reducible assumption) (by with_reducible assumption) dX7_room_41 rfl ?_
  refine z_aload_n (q := 45) dX7_room_44 rfl rfl rfl ?_
  refine z_getR (q := 48) 7 0 1 91 rfl (by decide) rfl rfl rfl (by with_reducible assumption) (by with_reducible assumption) dX7_room_45 rfl ?_
  refine z_invV (q := 51) (rec_h G x pc y g tx p hS) (by with_reducible assumption) rfl gX7_room_X2_record rfl hy_X2_record rfl rfl rfl rfl (Nat.le_of_ble_eq_true rfl) ⟨Nat.zero_le _, Nat.zero_le _⟩ dX7_room_48 rfl (z_rnR fun I2 R2 hZ2 => ?_)
  obtain ⟨hS2, f2⟩ := hZ2
  have hHs2 : z_Hs T R2 I2 (x + 1) st g := z_Hs_f hHs (fun q _ _ => (f2 q (by omega)).1) (fun q _ _ => (f2 q (by omega)).2)
  obtain ⟨F2, hH2, hG2, hP2, hF2, d0, d1⟩ := Hs_inv hHs2 hI
  have hTp2 := hP2.1.1
  have hRp2 := hH2.2.2.2.1
  have ps2 : I2 (x + 1 + 3) 1 = nI np := hP2.2.2.2.1
  have hRh2 : R2 x 0 = some (x + 1) := by rw [(f2 x (by omega)).2]; exact hRh
  have hRt2 : R2 x 4 = some (x + 594) := by rw [(f2 x (by omega)).2]; exact hRt
  have hRs2 : R2 x 3 = some (x + 591) := by rw [(f2 x (by omega)).2]; exact hRs
  have hfx : ∀ I3 R3, (∀ q, q < x + 1 ∨ x + 99 ≤ q → I3 q = I2 q ∧ R3 q = R2 q) → z_fx x I I3 R R3 := fun I3 R3 f3 q hq => ⟨(f3 q (by omega)).1.trans (f2 q (by omega)).1, (f3 q (by omega)).2.trans (f2 q (by omega)).2⟩
  refine z_aload_n (q := 52) dX7_room_51 rfl rfl rfl ?_
  refine z_getR (q := 55) 7 0 1 91 rfl (by decide) rfl rfl rfl (by with_reducible assumption) (by with_reducible assumption) dX7_room_52 rfl ?_
  refine z_iload_n (q := 56) dX7_room_55 rfl rfl rfl ?_
  refine z_iload_n (q := 57) dX7_room_56 rfl rfl rfl ?_
  refine z_invV (q := 60) (c_X3_addRoom G (x + 1) nr (nI vn) t hH2 d0 h34) (by with_reducible assumption) rfl gX7_room_X3_addRoom rfl hy_X3_addRoom rfl rfl rfl rfl (Nat.le_of_ble_eq_true rfl) ⟨Nat.zero_le _, Nat.zero_le _⟩ dX7_room_57 rfl (z_rv ?_)
  have hG3 := HRw_0 (HRw_room (HRw_room (HRw_room hG2 (nI vn) h34 (w := 0) (by decide)) t h34 (w := 1) (by decide)) (I2 (x + 1) 6) h34 (w := 5) (by decide)) (nI (nr + 1))
  rw [(HR_sc hG2).2.2.1] at hG3 ⊢
  have hf3 : ∀ q, q ≠ x + 1 → q ≠ x + 1 + 22 + 2 * nr → zw (zw (zw (zw I2 (x + 1 + 22 + 2 * nr) 0 (nI vn)) (x + 1 + 22 + 2 * nr) 1 t) (x + 1 + 22 + 2 * nr) 5 (g 3)) (x + 1) 4 (nI (nr + 1)) q = I2 q := fun q q1 q2 => by rw [zw_row _ _ q1, zw_row _ _ q2, zw_row _ _ q2, zw_row _ _ q2]
  generalize zw (zw (zw (zw I2 (x + 1 + 22 + 2 * nr) 0 (nI vn)) (x + 1 + 22 + 2 * nr) 1 t) (x + 1 + 22 + 2 * nr) 5 (g 3)) (x + 1) 4 (nI (nr + 1)) = I3 at hG3 hf3 ⊢
  have f3 : ∀ q, q < x + 1 ∨ x + 99 ≤ q → I3 q = I2 q ∧ R2 q = R2 q := fun q hq => ⟨hf3 q (by omega) (by omega), rfl⟩
  have ho := roomG_e hI h34 (nI vn) t
  exact z_iret rfl dX7_room_60 (Nat.zero_le _) (Nat.zero_le _) (⟨rfl, rfl, rfl, St_house hS2 (Hb_mk hI hH2 (INV_room hI h34 (by omega) hv1 hv2 t) (HR_g hG3 (fun c _ _ => ho c)) (z_P_f hP2 (fun q q1 q2 => hf3 q (by omega) (by omega)) (fun _ _ _ => rfl)) hF2 (fun c c1 c2 => by rw [ho, upd_n _ _ (by omega), upd_n _ _ (by omega), upd_n _ _ (by omega), upd_n _ _ (by omega)]) hst (by rw [ho, upd_n _ _ (by omega), upd_n _ _ (by omega), upd_n _ _ (by omega), upd_n _ _ (by omega)]) htl) f3, hfx _ _ f3⟩)


