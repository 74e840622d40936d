/-! THE CLASS, the best door -/
theorem tailS_cut (r : Nat) (due : Int32) : ∀ f n h, (tailS r due f n h = -4 ∧ ∀ m, m ≤ f → tailS r due m n h = -4) ∨ ∃ k, n ≤ k ∧ k < n + f ∧ tailS r due f n h = nI k ∧ ∀ m, m ≤ f → tailS r due m n h = if k < n + m then nI k else -4 := by
  intro f
  induction f with
  | zero =>
    intro n h
    refine Or.inl ⟨rfl, fun m hm => ?_⟩
    have : m = 0 := by omega
    subst this
    rfl
  | succ f ih =>
    intro n h
    by_cases hc : mStep h (9 + 6 * r + 2) ≤ due
    · refine Or.inr ⟨n, Nat.le_refl _, by omega, by rw [tailS, if_pos hc], fun m hm => ?_⟩
      cases m with
      | zero => rw [if_neg (by omega)]; rfl
      | succ m => rw [tailS, if_pos hc, if_pos (by omega)]
    · rcases ih (n + 1) (mStep h) with ⟨h1, h2⟩ | ⟨k, h1, h2, h3, h4⟩
      · refine Or.inl ⟨by rw [tailS, if_neg hc]; exact h1, fun m hm => ?_⟩
        cases m with
        | zero => rfl
        | succ m => rw [tailS, if_neg hc]; exact h2 m (by omega)
      · refine Or.inr ⟨k, by omega, by omega, by rw [tailS, if_neg hc]; exact h3, fun m hm => ?_⟩
        cases m with
        | zero => rw [if_neg (by omega)]; rfl
        | succ m =>
          rw [tailS, if_neg hc, h4 m (by omega)]
          by_cases z : k < n + 1 + m
          · rw [if_pos z, if_pos (by omega)]
          · rw [if_neg z, if_neg (by omega)]
def bdI (g : Nat → Int32) (r k S : Nat) (fd : Int32) : Prop := (bdS g r k).2 = fd ∧ (((bdS g r k).1 = -4 ∧ S = 201 ∧ fd = -4) ∨ ((bdS g r k).1 = nI S ∧ 1 ≤ S ∧ S ≤ 200)) ∧ (plainT g r = -4 ∨ ∃ pl, plainT g r = nI pl ∧ S ≤ pl ∧ pl ≤ 200)
theorem n4 {k : Nat} (h : k < 2 ^ 31) : ¬ nI k = -4 := fun z => nI_pos h (by rw [z]; decide)
theorem bd_keep {g : Nat → Int32} {r k S : Nat} {fd : Int32} (h : bdI g r k S fd) (hi : otherT g r (k / 2) (nI (10 * (k % 2))) = -4 ∨ ∃ j, otherT g r (k / 2) (nI (10 * (k % 2))) = nI j ∧ S ≤ j ∧ j ≤ 200) : bdI g r (k + 1) S fd := by
  have e : bdS g r (k + 1) = bdS g r k := by
    rw [bdS, if_neg]
    rintro ⟨h1, h2⟩
    rcases hi with h3 | ⟨j, h3, h4, h5⟩
    · exact h1 h3
    · rcases h.2.1 with ⟨b1, b2, -⟩ | ⟨b1, b2, b3⟩
      · omega
      · rcases h2 with h2 | h2
        · exact n4 (by omega) (b1.symm.trans h2)
        · rw [h3, b1, nI_ltI (by omega) (by omega)] at h2
          omega
  unfold bdI
  rw [e]
  exact h
theorem bd_take {g : Nat → Int32} {r k S j : Nat} {fd : Int32} (h : bdI g r k S fd) (hi : otherT g r (k / 2) (nI (10 * (k % 2))) = nI j) (h1 : 1 ≤ j) (h2 : j < S) : bdI g r (k + 1) j (nI (100 * (k / 2) + 10 * (k % 2))) := by
  have hS : S ≤ 201 := by
    rcases h.2.1 with ⟨-, b, -⟩ | ⟨-, -, b⟩ <;> omega
  have e : bdS g r (k + 1) = (nI j, nI (100 * (k / 2) + 10 * (k % 2))) := by
    rw [bdS, if_pos, hi]
    rw [hi]
    refine ⟨n4 (by omega), ?_⟩
    rcases h.2.1 with ⟨b1, b2, -⟩ | ⟨b1, b2, b3⟩
    · exact Or.inl b1
    · exact Or.inr (by rw [b1]; exact nI_lt h2 (by omega))
  unfold bdI
  rw [e]
  refine ⟨rfl, Or.inr ⟨rfl, h1, by omega⟩, ?_⟩
  rcases h.2.2 with h3 | ⟨pl, h3, h4, h5⟩
  · exact Or.inl h3
  · exact Or.inr ⟨pl, h3, by omega, h5⟩
set_option maxRecDepth 100000 in
set_option maxHeartbeats 4000000 in
theorem c_X7_bestDoor (G : zG) {n : Nat} {T : zTT} {I : zII} {R : zRR} (x pc y : Nat) (g tx : Nat → Int32) (p : Nat → Nat → Int32) (hS : z_St T R I x g p pc tx y) (v w : Int32) : Ct G yX7_bestDoor wsX7_bestDoor (7, 0, 0) [.ref x, .int v, .int w] n T I R (z_rel (some (.int (sp_bestDoor g v w))) n T (fun I' R' => z_nx T R' I' x g p pc tx y none ∧ z_fx x I I' R R')) := by
  refine Ct.ofX (M := muX7_bestDoor) (ls := [(0, .ref x), (1, .int v), (2, .int w)]) (by decide +kernel) rfl (by decide) rfl rfl (Nat.le_of_ble_eq_true rfl) ?_
  have hR := hS.1
  obtain ⟨hTx, hRh, hRa, hRi, hRs, hRt, hTt, hSc⟩ := id hR
  obtain ⟨st, hHs, hst, htl⟩ := id hS.2.1
  obtain ⟨hH, nr, nd, np, F, hI, hG, hP, hF⟩ := id hHs
  have hTh := hH.1
  have hRp := hH.2.2.2.1
  have hTp := hP.1.1
  have hnr := hI.1.2
  have hnd := hI.2.1.2
  have hnp := hI.2.2.1.2
  have c0 : I (x + 1) 4 = nI nr := by rw [(HR_sc hG).1]; exact hI.1.1
  have c1 : I (x + 1) 5 = nI nd := by rw [(HR_sc hG).2.1]; exact hI.2.1.1
  have c3 : I (x + 1) 6 = nI st := by rw [(HR_sc hG).2.2.1]; exact hI.2.2.2.1
  have cs2 : I (x + 1 + 3) 1 = nI np := hP.2.2.2.1
  have h0e : g 0 = nI nr := hI.1.1
  have h1e : g 1 = nI nd := hI.2.1.1
  have h2e : g 2 = nI np := hI.2.2.1.1
  have h3e : g 3 = nI st := hI.2.2.2.1
  obtain ⟨sta, ga, hB⟩ := id hS.2.2.1
  have hS0 := hS
  have bad : sp_bestDoor g v w = -1 → ∀ ls : List (Nat × Value), z_X G muX7_bestDoor (7, 0, 0) (z_rel (some (.int (sp_bestDoor g v w))) n T (fun I' R' => z_nx T R' I' x g p pc tx y none ∧ z_fx x I I' R R')) n T I R 0 0 22 ls [] := by
    intro hb ls
    rw [hb]
    refine z_iconst (q := 23) (v := (-1)) dX7_bestDoor_22 (by rfl) rfl ?_
    exact z_iret rfl dX7_bestDoor_23 (Nat.zero_le _) (Nat.zero_le _) (⟨rfl, rfl, rfl, hS, fun _ _ => ⟨rfl, rfl⟩⟩)
  have bad2 : sp_bestDoor g v w = -2 → ∀ ls : List (Nat × Value), z_X G muX7_bestDoor (7, 0, 0) (z_rel (some (.int (sp_bestDoor g v w))) n T (fun I' R' => z_nx T R' I' x g p pc tx y none ∧ z_fx x I I' R R')) n T I R 0 0 31 ls [] := by
    intro hb ls
    rw [hb]
    refine z_bipush (q := 33) (v := (-2)) dX7_bestDoor_31 (by rfl) rfl ?_
    exact z_iret rfl dX7_bestDoor_33 (Nat.zero_le _) (Nat.zero_le _) (⟨rfl, rfl, rfl, hS, fun _ _ => ⟨rfl, rfl⟩⟩)
  by_cases hx : v < 0 ∨ nI nr ≤ v
  · refine z_aload_n (q := 1) dX7_bestDoor_0 rfl rfl rfl ?_
    refine z_getR (q := 4) 7 0 1 230 rfl (by decide) rfl rfl rfl (by with_reducible assumption) (by with_reducible assumption) dX7_bestDoor_1 rfl ?_
    refine z_iload_n (q := 5) dX7_bestDoor_4 rfl rfl rfl ?_
    refine z_invV (q := 8) (c_X3_roomAt_n G (x + 1) nr v hH c0 hx) (by with_reducible assumption) rfl gX7_bestDoor_X3_roomAt rfl hy_X3_roomAt rfl rfl rfl rfl (Nat.le_of_ble_eq_true rfl) ⟨Nat.zero_le _, Nat.zero_le _⟩ dX7_bestDoor_5 rfl (z_rv ?_)
    refine z_astore_nN (q := 9) dX7_bestDoor_8 rfl (by decide) rfl ?_
    refine z_aload_nN (q := 10) dX7_bestDoor_9 rfl rfl rfl ?_
    refine z_ifnullN (q := 22) dX7_bestDoor_10 (by decide) ?_
    exact bad (by rw [sp_bestDoor, if_pos (by rw [h0e]; exact hx)]) _
  obtain ⟨r, hrn, rfl⟩ : ∃ k, k < nr ∧ v = nI k := by
    rcases pk_ix v (n := nr) (by omega) with z | z | z
    · exact absurd (Or.inl z) hx
    · exact absurd (Or.inr z) hx
    · exact z
  have hvg : ¬ (nI r < 0 ∨ g 0 ≤ nI r) := by rw [h0e]; exact hx
  have hTm := (hH.2.2.2.2.2.1 r (by omega)).2.1
  have he : I (x + 1 + 22 + 2 * r) 2 = g (9 + 6 * r + 2) := HR_room hG (by omega) (by decide)
  refine z_aload_n (q := 1) dX7_bestDoor_0 rfl rfl rfl ?_
  refine z_getR (q := 4) 7 0 1 230 rfl (by decide) rfl rfl rfl (by with_reducible assumption) (by with_reducible assumption) dX7_bestDoor_1 rfl ?_
  refine z_iload_n (q := 5) dX7_bestDoor_4 rfl rfl rfl ?_
  refine z_invV (q := 8) (c_X3_roomAt_s G (x + 1) r nr hH c0 hrn hnr) (by with_reducible assumption) rfl gX7_bestDoor_X3_roomAt rfl hy_X3_roomAt rfl rfl rfl rfl (Nat.le_of_ble_eq_true rfl) ⟨Nat.zero_le _, Nat.zero_le _⟩ dX7_bestDoor_5 rfl (z_rv ?_)
  refine z_astore_n (q := 9) dX7_bestDoor_8 rfl (by decide) rfl ?_
  refine z_aload_n (q := 10) dX7_bestDoor_9 rfl rfl rfl ?_
  refine z_ifnull (q := 13) dX7_bestDoor_10 rfl ?_
  refine z_iload_n (q := 14) dX7_bestDoor_13 rfl rfl rfl ?_
  refine z_iconst (q := 15) (v := nI 0) dX7_bestDoor_14 (by rfl) rfl ?_
  refine z_iconst (q := 16) (v := nI 1) dX7_bestDoor_15 (by rfl) rfl ?_
  refine z_invS (q := 19) (c_X7_isWithin G w (nI 0) (nI 1)) gX7_bestDoor_X7_isWithin rfl hy_X7_isWithin rfl rfl rfl rfl (Nat.le_of_ble_eq_true rfl) ⟨Nat.zero_le _, Nat.zero_le _⟩ dX7_bestDoor_16 rfl (z_rv ?_)
  by_cases hz : w < nI 0 ∨ nI 1 < w
  · rw [if_pos hz]
    refine z_if_ne (tgt := 24) (q := 22) dX7_bestDoor_19 (by decide) rfl (fun hc => False.elim (hc rfl)) (fun _ => ?_)
    exact bad (by rw [sp_bestDoor, if_neg hvg, if_pos hz]) _
  rw [if_neg hz]
  refine z_if_ne (tgt := 24) (q := 22) dX7_bestDoor_19 (by decide) rfl (fun _ => ?_) (fun hc => False.elim (absurd hc (by decide)))
  obtain ⟨w1, -, hw1, rfl⟩ := z_ix2 (by decide) (by decide) hz
  have e : sp_bestDoor g (nI r) (nI w1) = bestQ g r (nI w1) := by rw [sp_bestDoor, if_neg hvg, if_neg hz, nI_clamp (by omega)]
  rw [e] at bad2 ⊢
  obtain ⟨np2, b1, b2, b3⟩ := begN_spec hI
  have hgd : gN g 1 = nd := gN_of h1e (by omega)
  refine z_aload_n (q := 25) dX7_bestDoor_24 rfl rfl rfl ?_
  refine z_getI (q := 28) 5 2 2 237 rfl (by decide) rfl rfl rfl (by with_reducible assumption) dX7_bestDoor_25 rfl ?_
  rw [he]
  refine z_if_ne (tgt := 34) (q := 31) dX7_bestDoor_28 (by decide) rfl (fun h28 => ?_) (fun h28 => ?_)
  · have outer : ∀ c d, d + c = nd → ∀ S fd I2 R2 sta2 ga2, bdI g r (2 * d) S fd → z_Hs T R2 I2 (x + 99) sta2 ga2 → (∀ q, q < x + 99 ∨ x + 197 ≤ q → I2 q = I q ∧ R2 q = R q) → ∀ (as : Int32) (ls : List (Nat × Value)), lv_pick ls [0, 1, 2, 3, 4, 5, 6, 7] = [(0, .ref x), (1, .int (nI r)), (2, .int (nI w1)), (3, .ref (x + 1 + 22 + 2 * r)), (4, .int as), (5, .int (nI S)), (6, .int fd), (7, .int (nI d))] → z_X G muX7_bestDoor (7, 0, 0) (z_rel (some (.int (bestQ g r (nI w1)))) n T (fun I' R' => z_nx T R' I' x g p pc tx y none ∧ z_fx x I I' R R')) n T I2 R2 0 0 72 ls [] := by
      intro c
      induction c with
      | zero =>
        intro d hd S fd I2 R2 sta2 ga2 hB2 hA2 hf as ls hls
        have hd : d = nd := hd
        subst hd
        have hRh2 : R2 x 0 = some (x + 1) := by rw [(hf x (by omega)).2]; exact hRh
        have c12 : I2 (x + 1) 5 = nI d := by rw [(hf (x + 1) (by omega)).1]; exact c1
        obtain ⟨q1, q2, q3⟩ := hB2
        have hfin : bestQ g r (nI w1) = if fd = -4 ∨ nI w1 = 0 then fd else (bdS g r (2 * d)).1 := by rw [bestQ, if_neg h28, hgd, q1]
        refine z_pick [0, 1, 2, 3, 4, 5, 6, 7] hls ?_
        refine z_iload (q := 74) (i := 7) dX7_bestDoor_72 rfl rfl ?_
        refine z_aload_n (q := 75) dX7_bestDoor_74 rfl rfl rfl ?_
        refine z_getR (q := 78) 7 0 1 230 rfl (by decide) rfl rfl rfl (by with_reducible assumption) (by with_reducible assumption) dX7_bestDoor_75 rfl ?_
        refine z_getV (q := 81) 3 5 3 247 rfl (by decide) rfl rfl rfl (by with_reducible assumption) (c12) dX7_bestDoor_78 rfl ?_
        refine z_icmpn_ge (rfl) (rfl) (by omega) (by omega) (tgt := 159) (q := 84) dX7_bestDoor_81 (by decide) rfl (fun _ => ?_) (fun hc => absurd hc (by omega))
        refine z_iload (q := 161) (i := 6) dX7_bestDoor_159 rfl rfl ?_
        refine z_bipush (q := 163) (v := (-4)) dX7_bestDoor_161 (by rfl) rfl ?_
        refine z_icmp_ne (tgt := 169) (q := 166) dX7_bestDoor_163 (by decide) rfl (fun h163 => ?_) (fun h163 => ?_)
        · refine z_iload_n (q := 170) dX7_bestDoor_169 rfl rfl rfl ?_
          have hS : (bdS g r (2 * d)).1 = nI S := by
            rcases q2 with ⟨-, -, z⟩ | ⟨z, -⟩
            · exact absurd z h163
            · exact z
          rcases (show w1 = 0 ∨ w1 = 1 by omega) with rfl | rfl
          · refine z_if_ne (tgt := 178) (q := 173) dX7_bestDoor_170 (by decide) rfl (fun hc => False.elim (hc nI_0)) (fun _ => ?_)
            refine z_iload (q := 175) (i := 6) dX7_bestDoor_173 rfl rfl ?_
            refine z_goto (q := 180) dX7_bestDoor_175 (by decide) ?_
            exact z_iret rfl dX7_bestDoor_180 (Nat.zero_le _) (Nat.zero_le _) (⟨by rw [hfin, if_pos (Or.inr nI_0)], rfl, rfl, St_ahead hS0 hA2 hf, fun q hq => hf q (by omega)⟩)
          · refine z_if_ne (tgt := 178) (q := 173) dX7_bestDoor_170 (by decide) rfl (fun _ => ?_) (fun hc => False.elim (z_n10 hc))
            refine z_iload (q := 180) (i := 5) dX7_bestDoor_178 rfl rfl ?_
            exact z_iret rfl dX7_bestDoor_180 (Nat.zero_le _) (Nat.zero_le _) (⟨by rw [hfin, if_neg (fun z => z.elim h163 z_n10), hS], rfl, rfl, St_ahead hS0 hA2 hf, fun q hq => hf q (by omega)⟩)
        · refine z_bipush (q := 168) (v := (-4)) dX7_bestDoor_166 (by rfl) rfl ?_
          exact z_iret rfl dX7_bestDoor_168 (Nat.zero_le _) (Nat.zero_le _) (⟨by rw [hfin, if_pos (Or.inl h163), h163], rfl, rfl, St_ahead hS0 hA2 hf, fun q hq => hf q (by omega)⟩)
      | succ c ih =>
        intro d hd S fd I2 R2 sta2 ga2 hB2 hA2 hf as ls hls
        have hdn : d < nd := by omega
        have inner : ∀ s, s ≤ 2 → ∀ S fd I2 R2 sta2 ga2, bdI g r (2 * d + s) S fd → z_Hs T R2 I2 (x + 99) sta2 ga2 → (∀ q, q < x + 99 ∨ x + 197 ≤ q → I2 q = I q ∧ R2 q = R q) → ∀ (as : Int32) (ls : List (Nat × Value)), lv_pick ls [0, 1, 2, 3, 4, 5, 6, 7, 8] = [(0, .ref x), (1, .int (nI r)), (2, .int (nI w1)), (3, .ref (x + 1 + 22 + 2 * r)), (4, .int as), (5, .int (nI S)), (6, .int fd), (7, .int (nI d)), (8, .int (nI (10 * s)))] → z_X G muX7_bestDoor (7, 0, 0) (z_rel (some (.int (bestQ g r (nI w1)))) n T (fun I' R' => z_nx T R' I' x g p pc tx y none ∧ z_fx x I I' R R')) n T I2 R2 0 0 87 ls [] := by
          refine z_up (N := 2) _ ?_ ?_
          · intro S fd I2 R2 sta2 ga2 hB2 hA2 hf as ls hls
            refine z_pick [0, 1, 2, 3, 4, 5, 6, 7, 8] hls ?_
            refine z_iload (q := 89) (i := 8) dX7_bestDoor_87 rfl rfl ?_
            refine z_bipush (q := 91) (v := nI 10) dX7_bestDoor_89 (by rfl) rfl ?_
            refine z_icmpn_gt (rfl) (rfl) (by omega) (by omega) (tgt := 153) (q := 94) dX7_bestDoor_91 (by decide) rfl (fun _ => ?_) (fun hc => absurd hc (by omega))
            refine z_iinc (q := 156) dX7_bestDoor_153 rfl (nI_add _ 1) (by decide) rfl ?_
            refine z_goto (q := 72) dX7_bestDoor_156 (by decide) ?_
            exact ih (d + 1) (by omega) S fd I2 R2 sta2 ga2 hB2 hA2 hf _ _ rfl
          · intro s hs ihs S fd I2 R2 sta2 ga2 hB2 hA2 hf as ls hls
            have hSB : S ≤ 201 := by
              rcases hB2.2.1 with ⟨-, b, -⟩ | ⟨-, -, b⟩ <;> omega
            have hS1 : 1 ≤ S := by
              rcases hB2.2.1 with ⟨-, b, -⟩ | ⟨-, b, -⟩ <;> omega
            have kd : (2 * d + s) / 2 = d := by omega
            have km : (2 * d + s) % 2 = s := by omega
            have hRh2 : R2 x 0 = some (x + 1) := by rw [(hf x (by omega)).2]; exact hRh
            have hR2 := z_RT_R hR (hf x (by omega)).2 (hf (x + 591) (by omega)).2
            have c12 : I2 (x + 1) 5 = nI nd := by rw [(hf (x + 1) (by omega)).1]; exact c1
            have hHs2 : z_Hs T R2 I2 (x + 1) st g := z_Hs_f hHs (fun q _ _ => (hf q (by omega)).1) (fun q _ _ => (hf q (by omega)).2)
            have hH2 := hHs2.1
            have next : ∀ S fd I3 R3 sta3 ga3, bdI g r (2 * d + s + 1) S fd → z_Hs T R3 I3 (x + 99) sta3 ga3 → (∀ q, q < x + 99 ∨ x + 197 ≤ q → I3 q = I q ∧ R3 q = R q) → ∀ (as : Int32) (ls : List (Nat × Value)), lv_pick ls [0, 1, 2, 3, 4, 5, 6, 7, 8] = [(0, .ref x), (1, .int (nI r)), (2, .int (nI w1)), (3, .ref (x + 1 + 22 + 2 * r)), (4, .int as), (5, .int (nI S)), (6, .int fd), (7, .int (nI d)), (8, .int (nI (10 * s)))] → z_X G muX7_bestDoor (7, 0, 0) (z_rel (some (.int (bestQ g r (nI w1)))) n T (fun I' R' => z_nx T R' I' x g p pc tx y none ∧ z_fx x I I' R R')) n T I3 R3 0 0 147 ls [] := by
              intro S fd I3 R3 sta3 ga3 hB3 hA3 hf3 as ls hls
              refine z_pick [0, 1, 2, 3, 4, 5, 6, 7, 8] hls ?_
              refine z_iinc (q := 150) dX7_bestDoor_147 rfl (nI_add _ 10) (by decide) rfl ?_
              refine z_goto (q := 87) dX7_bestDoor_150 (by decide) ?_
              rw [show 10 * s + 10 = 10 * (s + 1) by omega]
              exact ihs S fd I3 R3 sta3 ga3 hB3 hA3 hf3 _ _ rfl
            refine z_pick [0, 1, 2, 3, 4, 5, 6, 7, 8] hls ?_
            refine z_iload (q := 89) (i := 8) dX7_bestDoor_87 rfl rfl ?_
            refine z_bipush (q := 91) (v := nI 10) dX7_bestDoor_89 (by rfl) rfl ?_
            refine z_icmpn_gt (rfl) (rfl) (by omega) (by omega) (tgt := 153) (q := 94) dX7_bestDoor_91 (by decide) rfl (fun hc => absurd hc (by omega)) (fun _ => ?_)
            refine z_aload_n (q := 95) dX7_bestDoor_94 rfl rfl rfl ?_
            refine z_getR (q := 98) 7 0 1 230 rfl (by decide) rfl rfl rfl (by with_reducible assumption) (by with_reducible assumption) dX7_bestDoor_95 rfl ?_
            refine z_iload (q := 100) (i := 7) dX7_bestDoor_98 rfl rfl ?_
            refine z_iload (q := 102) (i := 8) dX7_bestDoor_100 rfl rfl ?_
            refine z_invV (q := 105) (c_X3_wouldStayAimed G (x + 1) d nd (nI (10 * s)) hH2 c12 hdn hnd) (by with_reducible assumption) rfl gX7_bestDoor_X3_wouldStayAimed rfl hy_X3_wouldStayAimed rfl rfl rfl rfl (Nat.le_of_ble_eq_true rfl) ⟨Nat.zero_le _, Nat.zero_le _⟩ dX7_bestDoor_102 rfl (z_rv ?_)
            have k6 : I2 (x + 1 + 38 + 5 * d) 6 = g (57 + 10 * d + 7) := by rw [(hf _ (by omega)).1]; exact HR_door hG (by omega) (by decide) (by decide)
            have k5 : I2 (x + 1 + 38 + 5 * d) 5 = g (57 + 10 * d + 6) := by rw [(hf _ (by omega)).1]; exact HR_door hG (by omega) (by decide) (by decide)
            rw [k6, k5]
            by_cases hst2 : ¬ g (57 + 10 * d + 7) = 0 ∨ g (57 + 10 * d + 6) = nI (10 * s)
            · rw [if_pos hst2]
              refine z_if_eq (tgt := 111) (q := 108) dX7_bestDoor_105 (by decide) rfl (fun hc => False.elim (z_01 hc)) (fun _ => ?_)
              refine z_goto (q := 147) dX7_bestDoor_108 (by decide) ?_
              have hot : otherT g r d (nI (10 * s)) = plainT g r := by
                have ea : aimD (begN g) d (nI (10 * s)) = begN g := by
                  have e7 : begN g (57 + 10 * d + 7) = g (57 + 10 * d + 7) := b3 _ (by unfold sc; omega)
                  have e6 : begN g (57 + 10 * d + 6) = g (57 + 10 * d + 6) := b3 _ (by unfold sc; omega)
                  obtain ⟨sa, sb, ar, sp, de, o, t, l, -, -, -, -, -, -, -, -, g8⟩ := (hI.2.2.2.2.2.1 d (by omega)).1 hdn
                  rw [aimD]
                  by_cases hl : begN g (57 + 10 * d + 7) = 1
                  · rw [if_pos hl, upd_self]
                  · rw [if_neg hl]
                    rcases hst2 with z | z
                    · exfalso
                      rw [e7, g8.1] at hl
                      rw [g8.1] at z
                      rcases (show l = 0 ∨ l = 1 by omega) with rfl | rfl
                      · exact z nI_0
                      · exact hl zI1
                    · rw [← z, ← e6, upd_self]
                rw [otherT, ea, plainT]
              refine next S fd I2 R2 sta2 ga2 (bd_keep hB2 ?_) hA2 hf _ _ rfl
              rw [kd, km, hot]
              rcases hB2.2.2 with z | ⟨pl, z1, z2, z3⟩
              · exact Or.inl z
              · exact Or.inr ⟨pl, z1, z2, z3⟩
            · rw [if_neg hst2]
              refine z_if_eq (tgt := 111) (q := 108) dX7_bestDoor_105 (by decide) rfl (fun _ => ?_) (fun hc => False.elim (hc rfl))
              refine z_aload_n (q := 112) dX7_bestDoor_111 rfl rfl rfl ?_
              refine z_iload_n (q := 113) dX7_bestDoor_112 rfl rfl rfl ?_
              refine z_iload (q := 115) (i := 7) dX7_bestDoor_113 rfl rfl ?_
              refine z_iload (q := 117) (i := 8) dX7_bestDoor_115 rfl rfl ?_
              refine z_iload (q := 119) (i := 5) dX7_bestDoor_117 rfl rfl ?_
              refine z_iconst (q := 120) (v := nI 1) dX7_bestDoor_119 (by rfl) rfl ?_
              refine z_isubE (q := 121) dX7_bestDoor_120 (pk_sub hS1) rfl ?_
              refine z_invV (q := 124) (c_X7_tailIfAimed G x st sta2 r d (10 * s) (S - 1) nr nd np g ga2 hR2 hHs2 hA2 hI hrn hdn (by omega) (by omega) hst) (by with_reducible assumption) rfl gX7_bestDoor_X7_tailIfAimed rfl hy_X7_tailIfAimed rfl rfl rfl rfl (Nat.le_of_ble_eq_true rfl) ⟨Nat.zero_le _, Nat.zero_le _⟩ dX7_bestDoor_121 rfl (z_rvR fun I3 R3 hZ3 => ?_)
              refine z_istore (q := 126) dX7_bestDoor_124 (by decide) rfl ?_
              obtain ⟨⟨sta3, ga3, hA3⟩, hf3'⟩ := hZ3
              have hf3 : ∀ q, q < x + 99 ∨ x + 197 ≤ q → I3 q = I q ∧ R3 q = R q := fun q hq => ⟨(hf3' q hq).1.trans (hf q hq).1, (hf3' q hq).2.trans (hf q hq).2⟩
              have hot : otherT g r d (nI (10 * s)) = tailS r (aimD (begN g) d (nI (10 * s)) (9 + 6 * r + 2) / nI 1000) 200 1 (aimD (begN g) d (nI (10 * s))) := rfl
              rcases tailS_cut r (aimD (begN g) d (nI (10 * s)) (9 + 6 * r + 2) / nI 1000) 200 1 (aimD (begN g) d (nI (10 * s))) with ⟨z1, z2⟩ | ⟨j, z1, z2, z3, z4⟩
              · rw [z2 (S - 1) (by omega)]
                refine z_iload (q := 128) (i := 9) dX7_bestDoor_126 rfl rfl ?_
                refine z_bipush (q := 130) (v := (-4)) dX7_bestDoor_128 (by rfl) rfl ?_
                refine z_icmp_eq (tgt := 147) (q := 133) dX7_bestDoor_130 (by decide) rfl (fun _ => ?_) (fun hc => False.elim (hc rfl))
                exact next S fd I3 R3 sta3 ga3 (bd_keep hB2 (by rw [kd, km]; exact Or.inl (hot.trans z1))) hA3 hf3 _ _ rfl
              · rw [z4 (S - 1) (by omega)]
                by_cases hj : j < S
                · rw [if_pos (by omega)]
                  refine z_iload (q := 128) (i := 9) dX7_bestDoor_126 rfl rfl ?_
                  refine z_bipush (q := 130) (v := (-4)) dX7_bestDoor_128 (by rfl) rfl ?_
                  refine z_icmp_eq (tgt := 147) (q := 133) dX7_bestDoor_130 (by decide) rfl (fun hc => False.elim (n4 (k := j) (by omega) hc)) (fun _ => ?_)
                  refine z_iload (q := 135) (i := 9) dX7_bestDoor_133 rfl rfl ?_
                  refine z_istore (q := 137) dX7_bestDoor_135 (by decide) rfl ?_
                  refine z_bipush (q := 139) (v := nI 100) dX7_bestDoor_137 (by rfl) rfl ?_
                  refine z_iload (q := 141) (i := 7) dX7_bestDoor_139 rfl rfl ?_
                  refine z_imulE (q := 142) dX7_bestDoor_141 (pk_mul _ _) rfl ?_
                  refine z_iload (q := 144) (i := 8) dX7_bestDoor_142 rfl rfl ?_
                  refine z_iaddE (q := 145) dX7_bestDoor_144 (nI_add _ _) rfl ?_
                  refine z_istore (q := 147) dX7_bestDoor_145 (by decide) rfl ?_
                  exact next j _ I3 R3 sta3 ga3 (bd_take hB2 (by rw [kd, km]; exact hot.trans z3) z1 hj) hA3 hf3 _ _ (by rw [kd, km]; rfl)
                · rw [if_neg (by omega)]
                  refine z_iload (q := 128) (i := 9) dX7_bestDoor_126 rfl rfl ?_
                  refine z_bipush (q := 130) (v := (-4)) dX7_bestDoor_128 (by rfl) rfl ?_
                  refine z_icmp_eq (tgt := 147) (q := 133) dX7_bestDoor_130 (by decide) rfl (fun _ => ?_) (fun hc => False.elim (hc rfl))
                  exact next S fd I3 R3 sta3 ga3 (bd_keep hB2 (by rw [kd, km]; exact Or.inr ⟨j, hot.trans z3, by omega, by omega⟩)) hA3 hf3 _ _ rfl
        have hRh2 : R2 x 0 = some (x + 1) := by rw [(hf x (by omega)).2]; exact hRh
        have c12 : I2 (x + 1) 5 = nI nd := by rw [(hf (x + 1) (by omega)).1]; exact c1
        refine z_pick [0, 1, 2, 3, 4, 5, 6, 7] hls ?_
        refine z_iload (q := 74) (i := 7) dX7_bestDoor_72 rfl rfl ?_
        refine z_aload_n (q := 75) dX7_bestDoor_74 rfl rfl rfl ?_
        refine z_getR (q := 78) 7 0 1 230 rfl (by decide) rfl rfl rfl (by with_reducible assumption) (by with_reducible assumption) dX7_bestDoor_75 rfl ?_
        refine z_getV (q := 81) 3 5 3 247 rfl (by decide) rfl rfl rfl (by with_reducible assumption) (c12) dX7_bestDoor_78 rfl ?_
        refine z_icmpn_ge (rfl) (rfl) (by omega) (by omega) (tgt := 159) (q := 84) dX7_bestDoor_81 (by decide) rfl (fun hc => absurd hc (by omega)) (fun _ => ?_)
        refine z_iconst (q := 85) (v := nI 0) dX7_bestDoor_84 (by rfl) rfl ?_
        refine z_istore (q := 87) dX7_bestDoor_85 (by decide) rfl ?_
        exact inner 0 (by decide) S fd I2 R2 sta2 ga2 hB2 hA2 hf _ _ rfl
    refine z_aload_n (q := 35) dX7_bestDoor_34 rfl rfl rfl ?_
    refine z_invV (q := 38) (c_X7_lookAhead G x st sta g ga hR hHs hB) (by with_reducible assumption) rfl gX7_bestDoor_X7_lookAheadWithoutSounds rfl hy_X7_lookAheadWithoutSounds rfl rfl rfl rfl (Nat.le_of_ble_eq_true rfl) ⟨Nat.zero_le _, Nat.zero_le _⟩ dX7_bestDoor_35 rfl (z_rnR fun I2 R2 hZ2 => ?_)
    obtain ⟨hA2, f2⟩ := hZ2
    have hR2 := z_RT_R hR (f2 x (by omega)).2 (f2 (x + 591) (by omega)).2
    refine z_aload_n (q := 39) dX7_bestDoor_38 rfl rfl rfl ?_
    refine z_iload_n (q := 40) dX7_bestDoor_39 rfl rfl rfl ?_
    refine z_sipush (q := 43) (v := nI 200) dX7_bestDoor_40 (by rfl) rfl ?_
    refine z_invV (q := 46) (c_X7_tailAhead G x st r 200 nr nd np2 (begN g) hR2 hA2 b1 hrn (by decide) hst) (by with_reducible assumption) rfl gX7_bestDoor_X7_tailAhead rfl hy_X7_tailAhead rfl rfl rfl rfl (Nat.le_of_ble_eq_true rfl) ⟨Nat.zero_le _, Nat.zero_le _⟩ dX7_bestDoor_43 rfl (z_rvR fun I3 R3 hZ3 => ?_)
    obtain ⟨⟨sta3, ga3, hA3⟩, f3⟩ := hZ3
    have hf : ∀ q, q < x + 99 ∨ x + 197 ≤ q → I3 q = I q ∧ R3 q = R q := fun q hq => ⟨(f3 q hq).1.trans (f2 q hq).1, (f3 q hq).2.trans (f2 q hq).2⟩
    have hpl : plainT g r = tailS r (begN g (9 + 6 * r + 2) / nI 1000) 200 1 (begN g) := rfl
    have go63 : ∀ S, bdI g r 0 S (-4) → ∀ (as : Int32) (ls : List (Nat × Value)), lv_pick ls [0, 1, 2, 3, 4] = [(0, .ref x), (1, .int (nI r)), (2, .int (nI w1)), (3, .ref (x + 1 + 22 + 2 * r)), (4, .int as)] → z_X G muX7_bestDoor (7, 0, 0) (z_rel (some (.int (bestQ g r (nI w1)))) n T (fun I' R' => z_nx T R' I' x g p pc tx y none ∧ z_fx x I I' R R')) n T I3 R3 0 0 63 ls [.int (nI S)] := by
      intro S hS0 as ls hls
      refine z_pick [0, 1, 2, 3, 4] hls ?_
      refine z_istore (q := 65) dX7_bestDoor_63 (by decide) rfl ?_
      refine z_bipush (q := 67) (v := (-4)) dX7_bestDoor_65 (by rfl) rfl ?_
      refine z_istore (q := 69) dX7_bestDoor_67 (by decide) rfl ?_
      refine z_iconst (q := 70) (v := nI 0) dX7_bestDoor_69 (by rfl) rfl ?_
      refine z_istore (q := 72) dX7_bestDoor_70 (by decide) rfl ?_
      exact outer nd 0 (by omega) S (-4) I3 R3 sta3 ga3 hS0 hA3 hf _ _ rfl
    rw [← hpl]
    rcases tailS_cut r (begN g (9 + 6 * r + 2) / nI 1000) 200 1 (begN g) with ⟨z1, -⟩ | ⟨j, z1, z2, z3, -⟩
    · have hp : plainT g r = -4 := hpl.trans z1
      rw [hp]
      refine z_istore (q := 48) dX7_bestDoor_46 (by decide) rfl ?_
      refine z_iload (q := 50) (i := 4) dX7_bestDoor_48 rfl rfl ?_
      refine z_bipush (q := 52) (v := (-4)) dX7_bestDoor_50 (by rfl) rfl ?_
      refine z_icmp_ne (tgt := 61) (q := 55) dX7_bestDoor_52 (by decide) rfl (fun hc => False.elim (hc rfl)) (fun _ => ?_)
      refine z_sipush (q := 58) (v := nI 201) dX7_bestDoor_55 (by rfl) rfl ?_
      refine z_goto (q := 63) dX7_bestDoor_58 (by decide) ?_
      exact go63 201 ⟨rfl, Or.inl ⟨hp, rfl, rfl⟩, Or.inl hp⟩ _ _ rfl
    · have hp : plainT g r = nI j := hpl.trans z3
      rw [hp]
      refine z_istore (q := 48) dX7_bestDoor_46 (by decide) rfl ?_
      refine z_iload (q := 50) (i := 4) dX7_bestDoor_48 rfl rfl ?_
      refine z_bipush (q := 52) (v := (-4)) dX7_bestDoor_50 (by rfl) rfl ?_
      refine z_icmp_ne (tgt := 61) (q := 55) dX7_bestDoor_52 (by decide) rfl (fun _ => ?_) (fun hc => False.elim (n4 (k := j) (by omega) hc))
      refine z_iload (q := 63) (i := 4) dX7_bestDoor_61 rfl rfl ?_
      exact go63 j ⟨rfl, Or.inr ⟨hp, z1, by omega⟩, Or.inr ⟨j, hp, Nat.le_refl _, by omega⟩⟩ _ _ rfl
  · exact bad2 (by rw [bestQ, if_pos h28]) _

