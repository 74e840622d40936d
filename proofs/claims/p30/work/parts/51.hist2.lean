/-! THE CLASS, its past: recorded, restored -/
abbrev z_fh (h : Nat) (I I' : zII) (R R' : zRR) : Prop := ∀ q, q < h ∨ h + 394 ≤ q → I' q = I q ∧ R' q = R q
set_option maxRecDepth 100000 in
set_option maxHeartbeats 4000000 in
theorem c_X2_record (G : zG) {n : Nat} {T : zTT} {I : zII} {R : zRR} (a h pc : Nat) (g : Nat → Int32) (p : Nat → Nat → Int32) (hA : z_Hb T R I a g) (hHi : z_Hist T R I h p pc) (hd : a + 98 ≤ h ∨ h + 394 ≤ a) : Ct G yX2_record wsX2_record (3, 0, 0) [.ref h, .ref a] n T I R (z_rel none n T (fun I' R' => z_Hist T R' I' h (pushP p pc g) (chC pc + 1) ∧ z_fh h I I' R R')) := by
  refine Ct.ofX (M := muX2_record) (ls := [(0, .ref h), (1, .ref a)]) (by decide +kernel) rfl (by decide) rfl rfl (Nat.le_of_ble_eq_true rfl) ?_
  obtain ⟨hTh, ⟨hTh1, hRh0⟩, ⟨hpc, hpc4⟩, ad, had, hinj, hst⟩ := hHi
  have hTad : ∀ k, k < 4 → T (ad k) = some (.inl 3) := fun k hk => by
    obtain ⟨g', ⟨st, q, -⟩, -⟩ := hst k hk
    exact q.1.1
  have fin : ∀ (c : Nat) (R2 : zRR) (I2 : zII) (ad2 : Nat → Nat), c < 4 → c = chC pc → I2 h 1 = nI c → (∀ q, q ≠ h + 1 → R2 q = R q) → (∀ q, q ≠ h → I2 q = I q) → (∀ k, k < 4 → R2 (h + 1) k = some (ad2 k) ∧ ∃ i, i < 4 ∧ ad2 k = h + 2 + 98 * i) → (∀ j k, j < 4 → k < 4 → ad2 j = ad2 k → j = k) → (∀ k, k < 4 → ∃ g', z_Hb T R I (ad2 k) g' ∧ (k < c → ∀ x, x < 657 → g' x = pushP p pc g k x)) → z_X G muX2_record (3, 0, 0) (z_rel none n T (fun I' R' => z_Hist T R' I' h (pushP p pc g) (chC pc + 1) ∧ z_fh h I I' R R')) n T I2 R2 0 0 16 [(0, .ref h), (1, .ref a)] [] := by
    intro c R2 I2 ad2 hc hcc hI21 eR eI had2 hinj2 hst2
    have hR02 : R2 h 0 = some (h + 1) := by rw [eR h (by omega)]; exact hRh0
    have hadc := (had2 c hc).1
    obtain ⟨ic, hic, hicc⟩ := (had2 c hc).2
    obtain ⟨gc, ⟨stc, hsc, -⟩, -⟩ := hst2 c hc
    obtain ⟨st, hsa, hst5, htl⟩ := hA
    have hsc2 : z_Hs T R2 I2 (ad2 c) stc gc := z_Hs_f hsc (fun q _ _ => eI q (by omega)) (fun q _ _ => eR q (by omega))
    have hsa2 : z_Hs T R2 I2 a st g := z_Hs_f hsa (fun q _ _ => eI q (by omega)) (fun q _ _ => eR q (by omega))
    have hTc := hsc.1.1
    refine z_aload_n (q := 17) dX2_record_16 rfl rfl rfl ?_
    refine z_getV (q := 20) 2 1 1 73 rfl (by decide) rfl rfl rfl (by with_reducible assumption) (hI21) dX2_record_17 rfl ?_
    refine z_if_lt (tgt := 58) (q := 23) dX2_record_20 (by decide) rfl (fun hc => False.elim (nI_pos (n := c) (by omega) hc)) (fun _ => ?_)
    refine z_aload_n (q := 24) dX2_record_23 rfl rfl rfl ?_
    refine z_getV (q := 27) 2 1 1 73 rfl (by decide) rfl rfl rfl (by with_reducible assumption) (hI21) dX2_record_24 rfl ?_
    refine z_aload_n (q := 28) dX2_record_27 rfl rfl rfl ?_
    refine z_getR (q := 31) 2 0 2 72 rfl (by decide) rfl rfl rfl (by with_reducible assumption) (by with_reducible assumption) dX2_record_28 rfl ?_
    refine z_alen (q := 32) (by with_reducible assumption) dX2_record_31 rfl ?_
    refine z_icmpn_ge (rfl) (rfl) (by omega) (by omega) (tgt := 58) (q := 35) dX2_record_32 (by decide) rfl (fun hc => absurd hc (by omega)) (fun _ => ?_)
    refine z_aload_n (q := 36) dX2_record_35 rfl rfl rfl ?_
    refine z_getR (q := 39) 2 0 2 72 rfl (by decide) rfl rfl rfl (by with_reducible assumption) (by with_reducible assumption) dX2_record_36 rfl ?_
    refine z_aload_n (q := 40) dX2_record_39 rfl rfl rfl ?_
    refine z_getV (q := 43) 2 1 1 73 rfl (by decide) rfl rfl rfl (by with_reducible assumption) (hI21) dX2_record_40 rfl ?_
    refine z_aald (q := 44) _ (by with_reducible assumption) (rfl) (by omega) (by decide) (by with_reducible assumption) dX2_record_43 rfl ?_
    refine z_aload_n (q := 45) dX2_record_44 rfl rfl rfl ?_
    refine z_invV (q := 48) (copy_h G (ad2 c) a st stc g gc hsc2 hsa2 (by omega)) (by with_reducible assumption) rfl gX2_record_X3_copyFrom rfl hy_X3_copyFrom rfl rfl rfl rfl (Nat.le_of_ble_eq_true rfl) ⟨Nat.zero_le _, Nat.zero_le _⟩ dX2_record_45 rfl (z_rnR fun I3 R3 hZ3 => ?_)
    obtain ⟨rfl, hs3, f3⟩ := hZ3
    have h31 : I3 h 1 = nI c := by rw [f3 h (by omega)]; exact hI21
    refine z_aload_n (q := 49) dX2_record_48 rfl rfl rfl ?_
    refine z_dup (q := 50) dX2_record_49 rfl rfl ?_
    refine z_getV (q := 53) 2 1 1 73 rfl (by decide) rfl rfl rfl (by with_reducible assumption) (h31) dX2_record_50 rfl ?_
    refine z_iconst (q := 54) (v := nI 1) dX2_record_53 (by rfl) rfl ?_
    refine z_iaddE (q := 55) dX2_record_54 (nI_add _ _) rfl ?_
    refine z_put (q := 58) 2 1 1 73 rfl (by decide) rfl rfl (tyX2_ok 1 (by decide)) (rfl) (rfl) rfl (by with_reducible assumption) dX2_record_55 rfl ?_
    refine z_vret rfl dX2_record_58 (Nat.zero_le _) (Nat.zero_le _) ⟨rfl, rfl, rfl, ⟨hTh, ⟨hTh1, hR02⟩, ⟨by rw [zw_s, hcc], by unfold chC; split <;> omega⟩, ad2, had2, hinj2, fun k hk => ?_⟩, fun q hq => ⟨?_, eR q (by omega)⟩⟩
    · by_cases e : k = c
      · subst e
        refine ⟨g, ⟨st, z_Hs_f hs3 (fun q _ _ => zw_row _ _ (by omega)) (fun _ _ _ => rfl), hst5, htl⟩, fun _ x _ => ?_⟩
        rw [pushP, if_pos hcc]
      · obtain ⟨g', g1, g2⟩ := hst2 k hk
        obtain ⟨ik, hik, hikk⟩ := (had2 k hk).2
        have hne : ad2 k ≠ ad2 c := fun z => e (hinj2 k c hk hc z)
        refine ⟨g', z_Hb_f g1 (fun q _ _ => ?_) (fun q _ _ => eR q (by omega)), fun z x hx => g2 (by omega) x hx⟩
        have hik2 : ik ≠ ic := fun z => hne (by rw [hikk, hicc, z])
        rw [zw_row _ _ (by omega), f3 q (by omega), eI q (by omega)]
    · rw [zw_row _ _ (by omega), f3 q (by omega), eI q (by omega)]
  refine z_aload_n (q := 1) dX2_record_0 rfl rfl rfl ?_
  refine z_getV (q := 4) 2 1 1 73 rfl (by decide) rfl rfl rfl (by with_reducible assumption) (hpc) dX2_record_1 rfl ?_
  refine z_aload_n (q := 5) dX2_record_4 rfl rfl rfl ?_
  refine z_getR (q := 8) 2 0 2 72 rfl (by decide) rfl rfl rfl (by with_reducible assumption) (by with_reducible assumption) dX2_record_5 rfl ?_
  refine z_alen (q := 9) (by with_reducible assumption) dX2_record_8 rfl ?_
  by_cases h4 : pc = 4
  · subst h4
    refine z_icmpn_lt (rfl) (rfl) (by omega) (by omega) (tgt := 16) (q := 12) dX2_record_9 (by decide) rfl (fun hc => absurd hc (by omega)) (fun _ => ?_)
    refine z_aload_n (q := 13) dX2_record_12 rfl rfl rfl ?_
    refine z_invV (q := 16) (c_X2_forgetOldest G h ad hTh hTh1 hRh0 (fun k hk => ⟨(had k hk).1, hTad k hk⟩)) (by with_reducible assumption) rfl gX2_record_X2_forgetOldest rfl hy_X2_forgetOldest rfl rfl rfl rfl (Nat.le_of_ble_eq_true rfl) ⟨Nat.zero_le _, Nat.zero_le _⟩ dX2_record_13 rfl (z_rnR fun I2 R2 hZ2 => ?_)
    obtain ⟨rfl, e1, e2, e3⟩ := hZ2
    refine fin 3 R2 _ (fun k => if k = 3 then ad 0 else ad (k + 1)) (by decide) rfl (zw_s _ _ _ _) e3 (fun q hq => zw_row _ _ hq) (fun k hk => ?_) (fun j k hj hk e => ?_) (fun k hk => ?_)
    · by_cases k3 : k = 3
      · subst k3
        exact ⟨e2, (had 0 (by decide)).2⟩
      · simp only [if_neg k3]
        exact ⟨e1 k (by omega), (had (k + 1) (by omega)).2⟩
    · by_cases j3 : j = 3
      · by_cases k3 : k = 3
        · omega
        · simp only [if_pos j3, if_neg k3] at e
          have := hinj 0 (k + 1) (by omega) (by omega) e
          omega
      · by_cases k3 : k = 3
        · simp only [if_pos k3, if_neg j3] at e
          have := hinj (j + 1) 0 (by omega) (by omega) e
          omega
        · simp only [if_neg k3, if_neg j3] at e
          have := hinj (j + 1) (k + 1) (by omega) (by omega) e
          omega
    · by_cases k3 : k = 3
      · subst k3
        obtain ⟨g', g1, -⟩ := hst 0 (by decide)
        exact ⟨g', g1, fun z => absurd z (by decide)⟩
      · simp only [if_neg k3]
        obtain ⟨g', g1, g2⟩ := hst (k + 1) (by omega)
        refine ⟨g', g1, fun _ x hx => ?_⟩
        rw [pushP, if_neg (show ¬ k = chC 4 from k3), if_pos rfl]
        exact g2 (by omega) x hx
  · have hcc : chC pc = pc := by unfold chC; rw [if_neg h4]
    refine z_icmpn_lt (rfl) (rfl) (by omega) (by omega) (tgt := 16) (q := 12) dX2_record_9 (by decide) rfl (fun _ => ?_) (fun hc => absurd hc (by omega))
    refine fin pc R I ad (by omega) hcc.symm hpc (fun _ _ => rfl) (fun _ _ => rfl) had hinj (fun k hk => ?_)
    obtain ⟨g', g1, g2⟩ := hst k hk
    refine ⟨g', g1, fun z x hx => ?_⟩
    rw [pushP, hcc, if_neg (by omega), if_neg h4]
    exact g2 z x hx
