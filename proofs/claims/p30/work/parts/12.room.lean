/-! the ROOM: its cell r, its row at r+1 (energies) -/
def z_Room (T : zTT) (R : zRR) (r : Nat) : Prop := T r = some (.inl 5) ∧ T (r + 1) = some (.inr (.int, 32)) ∧ R r 6 = some (r + 1)
set_option maxRecDepth 100000 in
set_option maxHeartbeats 4000000 in
theorem c_X5_density (G : zG) {n : Nat} {T : zTT} {I : zII} {R : zRR} (r : Nat) (hD : z_Room T R r) : Ct G yX5_density wsX5_density (0, 0, 0) [.ref r] n T I R (z_ret (some (.int (if I r 0 ≤ 0 then 0 else I r 2 / I r 0))) n T I R) := by
  refine Ct.ofX (M := muX5_density) (ls := [(0, .ref r)]) (by decide +kernel) rfl (by decide) rfl rfl (Nat.le_of_ble_eq_true rfl) ?_
  obtain ⟨hT, hT1, hR6⟩ := hD
  refine z_aload_n (q := 1) dX5_density_0 rfl rfl rfl ?_
  refine z_getI (q := 4) 5 0 1 3 rfl (by decide) rfl rfl rfl (by with_reducible assumption) dX5_density_1 rfl ?_
  refine z_if_le (tgt := 19) (q := 7) dX5_density_4 (by decide) rfl (fun hc => ?_) (fun hc => ?_)
  · refine z_iconst (q := 20) (v := nI 0) dX5_density_19 (by rfl) rfl ?_
    exact z_iret rfl dX5_density_20 (Nat.zero_le _) (Nat.zero_le _) (⟨by simp [*, nI_0], rfl, rfl, rfl, rfl⟩)
  · have hne : ¬ I r 0 = 0 := fun q => hc (by rw [q]; decide)
    refine z_aload_n (q := 8) dX5_density_7 rfl rfl rfl ?_
    refine z_getI (q := 11) 5 2 2 5 rfl (by decide) rfl rfl rfl (by with_reducible assumption) dX5_density_8 rfl ?_
    refine z_aload_n (q := 12) dX5_density_11 rfl rfl rfl ?_
    refine z_getI (q := 15) 5 0 1 3 rfl (by decide) rfl rfl rfl (by with_reducible assumption) dX5_density_12 rfl ?_
    refine z_idiv (q := 16) dX5_density_15 (hne) rfl ?_
    refine z_goto (q := 20) dX5_density_16 (by decide) ?_
    exact z_iret rfl dX5_density_20 (Nat.zero_le _) (Nat.zero_le _) (⟨by simp [*, nI_0], rfl, rfl, rfl, rfl⟩)
set_option maxRecDepth 100000 in
set_option maxHeartbeats 4000000 in
theorem c_X5_keepEnergy (G : zG) {n : Nat} {T : zTT} {I : zII} {R : zRR} (r p : Nat) (hD : z_Room T R r) (hp : p < 100000) : Ct G yX5_keepEnergy wsX5_keepEnergy (1, 0, 0) [.ref r, .int (nI p)] n T I R (z_ret none n T (zw I (r + 1) (p % 32) (I r 2)) R) := by
  refine Ct.ofX (M := muX5_keepEnergy) (ls := [(0, .ref r), (1, .int (nI p))]) (by decide +kernel) rfl (by decide) rfl rfl (Nat.le_of_ble_eq_true rfl) ?_
  obtain ⟨hT, hT1, hR6⟩ := hD
  refine z_aload_n (q := 1) dX5_keepEnergy_0 rfl rfl rfl ?_
  refine z_getR (q := 4) 5 6 1 13 rfl (by decide) rfl rfl rfl (by with_reducible assumption) (by with_reducible assumption) dX5_keepEnergy_1 rfl ?_
  refine z_iload_n (q := 5) dX5_keepEnergy_4 rfl rfl rfl ?_
  refine z_bipush (q := 7) (v := nI 32) dX5_keepEnergy_5 (by rfl) rfl ?_
  refine z_invS (q := 10) (c_floorMod G p 32 (by omega) (by decide) (by decide)) gX5_keepEnergy_J9_floorMod_7cf53 rfl hy_J9_floorMod_7cf53 rfl rfl rfl rfl (Nat.le_of_ble_eq_true rfl) ⟨Nat.zero_le _, Nat.zero_le _⟩ dX5_keepEnergy_7 rfl (z_rv ?_)
  refine z_aload_n (q := 11) dX5_keepEnergy_10 rfl rfl rfl ?_
  refine z_getI (q := 14) 5 2 2 9 rfl (by decide) rfl rfl rfl (by with_reducible assumption) dX5_keepEnergy_11 rfl ?_
  refine z_iast (q := 15) _ (by with_reducible assumption) (rfl) (by omega) (by decide) dX5_keepEnergy_14 rfl ?_
  exact z_vret rfl dX5_keepEnergy_15 (Nat.zero_le _) (Nat.zero_le _) (⟨rfl, rfl, rfl, rfl, rfl⟩)
set_option maxRecDepth 100000 in
set_option maxHeartbeats 4000000 in
theorem c_X5_hear (G : zG) {n : Nat} {T : zTT} {I : zII} {R : zRR} (r : Nat) (x : Int32) (hD : z_Room T R r) : Ct G yX5_hear wsX5_hear (0, 0, 0) [.ref r, .int x] n T I R (z_ret none n T (zw (zw I r 2 (I r 2 + x)) r 4 (I r 4 + x)) R) := by
  refine Ct.ofX (M := muX5_hear) (ls := [(0, .ref r), (1, .int x)]) (by decide +kernel) rfl (by decide) rfl rfl (Nat.le_of_ble_eq_true rfl) ?_
  obtain ⟨hT, hT1, hR6⟩ := hD
  refine z_aload_n (q := 1) dX5_hear_0 rfl rfl rfl ?_
  refine z_dup (q := 2) dX5_hear_1 rfl rfl ?_
  refine z_getI (q := 5) 5 2 1 5 rfl (by decide) rfl rfl rfl (by with_reducible assumption) dX5_hear_2 rfl ?_
  refine z_iload_n (q := 6) dX5_hear_5 rfl rfl rfl ?_
  refine z_iadd (q := 7) dX5_hear_6 rfl ?_
  refine z_put (q := 10) 5 2 1 5 rfl (by decide) rfl rfl (tyX5_ok 2 (by decide)) (rfl) (rfl) rfl (by with_reducible assumption) dX5_hear_7 rfl ?_
  refine z_aload_n (q := 11) dX5_hear_10 rfl rfl rfl ?_
  refine z_dup (q := 12) dX5_hear_11 rfl rfl ?_
  refine z_getI (q := 15) 5 4 2 7 rfl (by decide) rfl rfl rfl (by with_reducible assumption) dX5_hear_12 rfl ?_
  refine z_iload_n (q := 16) dX5_hear_15 rfl rfl rfl ?_
  refine z_iadd (q := 17) dX5_hear_16 rfl ?_
  refine z_put (q := 20) 5 4 2 7 rfl (by decide) rfl rfl (tyX5_ok 4 (by decide)) (rfl) (rfl) rfl (by with_reducible assumption) dX5_hear_17 rfl ?_
  exact z_vret rfl dX5_hear_20 (Nat.zero_le _) (Nat.zero_le _) (⟨rfl, rfl, rfl, by rw [zw_k _ _ (show (4 : Nat) ≠ 2 by decide)], rfl⟩)
set_option maxRecDepth 100000 in
set_option maxHeartbeats 4000000 in
theorem c_X5_absorbShare (G : zG) {n : Nat} {T : zTT} {I : zII} {R : zRR} (r : Nat) (hD : z_Room T R r) : Ct G yX5_absorbShare wsX5_absorbShare (0, 0, 0) [.ref r] n T I R (z_ret none n T (zw (zw I r 2 (I r 2 - absb (I r 2) (I r 1))) r 3 (I r 3 + absb (I r 2) (I r 1))) R) := by
  refine Ct.ofX (M := muX5_absorbShare) (ls := [(0, .ref r)]) (by decide +kernel) rfl (by decide) rfl rfl (Nat.le_of_ble_eq_true rfl) ?_
  obtain ⟨hT, hT1, hR6⟩ := hD
  refine z_aload_n (q := 1) dX5_absorbShare_0 rfl rfl rfl ?_
  refine z_getI (q := 4) 5 2 1 8 rfl (by decide) rfl rfl rfl (by with_reducible assumption) dX5_absorbShare_1 rfl ?_
  refine z_i2l (q := 5) dX5_absorbShare_4 rfl ?_
  refine z_aload_n (q := 6) dX5_absorbShare_5 rfl rfl rfl ?_
  refine z_getI (q := 9) 5 1 2 7 rfl (by decide) rfl rfl rfl (by with_reducible assumption) dX5_absorbShare_6 rfl ?_
  refine z_i2l (q := 10) dX5_absorbShare_9 rfl ?_
  refine z_lmul (q := 11) dX5_absorbShare_10 rfl ?_
  refine z_ldc2 (q := 14) (i := 3) (v := 999) rfl dX5_absorbShare_11 rfl ?_
  refine z_ladd (q := 15) dX5_absorbShare_14 rfl ?_
  refine z_ldc2 (q := 18) (i := 4) (v := 1000) rfl dX5_absorbShare_15 rfl ?_
  refine z_ldiv (q := 19) dX5_absorbShare_18 (by decide) rfl ?_
  refine z_l2i (q := 20) dX5_absorbShare_19 rfl ?_
  refine z_istore_n (q := 21) dX5_absorbShare_20 rfl (by decide) rfl ?_
  refine z_aload_n (q := 22) dX5_absorbShare_21 rfl rfl rfl ?_
  refine z_dup (q := 23) dX5_absorbShare_22 rfl rfl ?_
  refine z_getI (q := 26) 5 2 1 8 rfl (by decide) rfl rfl rfl (by with_reducible assumption) dX5_absorbShare_23 rfl ?_
  refine z_iload_n (q := 27) dX5_absorbShare_26 rfl rfl rfl ?_
  refine z_isub (q := 28) dX5_absorbShare_27 rfl ?_
  refine z_put (q := 31) 5 2 1 8 rfl (by decide) rfl rfl (tyX5_ok 2 (by decide)) (rfl) (rfl) rfl (by with_reducible assumption) dX5_absorbShare_28 rfl ?_
  refine z_aload_n (q := 32) dX5_absorbShare_31 rfl rfl rfl ?_
  refine z_dup (q := 33) dX5_absorbShare_32 rfl rfl ?_
  refine z_getI (q := 36) 5 3 5 9 rfl (by decide) rfl rfl rfl (by with_reducible assumption) dX5_absorbShare_33 rfl ?_
  refine z_iload_n (q := 37) dX5_absorbShare_36 rfl rfl rfl ?_
  refine z_iadd (q := 38) dX5_absorbShare_37 rfl ?_
  refine z_put (q := 41) 5 3 5 9 rfl (by decide) rfl rfl (tyX5_ok 3 (by decide)) (rfl) (rfl) rfl (by with_reducible assumption) dX5_absorbShare_38 rfl ?_
  exact z_vret rfl dX5_absorbShare_41 (Nat.zero_le _) (Nat.zero_le _) (⟨rfl, rfl, rfl, by rw [zw_k _ _ (show (3 : Nat) ≠ 2 by decide)]; rfl, rfl⟩)
set_option maxRecDepth 100000 in
set_option maxHeartbeats 4000000 in
theorem c_X5_shareThrough (G : zG) {n : Nat} {T : zTT} {I : zII} {R : zRR} (r d v : Nat) (hD : z_Room T R r) (hd : T d = some (.inl 0)) (hv : I r 0 = nI v) (h1 : 10 ≤ v) (h2 : v ≤ 10000) : Ct G yX5_shareThrough wsX5_shareThrough (0, 0, 0) [.ref r, .ref d] n T I R (z_ret (some (.int ((I r 2).toInt64 * (I d 1).toInt64 * (I d 4).toInt64 / (10 * (I r 0).toInt64)).toInt32)) n T I R) := by
  refine Ct.ofX (M := muX5_shareThrough) (ls := [(0, .ref r), (1, .ref d)]) (by decide +kernel) rfl (by decide) rfl rfl (Nat.le_of_ble_eq_true rfl) ?_
  obtain ⟨hT, hT1, hR6⟩ := hD
  refine z_aload_n (q := 1) dX5_shareThrough_0 rfl rfl rfl ?_
  refine z_getI (q := 4) 5 0 1 6 rfl (by decide) rfl rfl rfl (by with_reducible assumption) dX5_shareThrough_1 rfl ?_
  refine z_if_gt (tgt := 9) (q := 7) dX5_shareThrough_4 (by decide) rfl (fun _ => ?_) (fun hc => False.elim (hc (by rw [hv]; exact nI_lt (a := 0) (by omega) (by omega))))
  have hne : ¬ (10 : Int64) * (I r 0).toInt64 = 0 := by rw [hv]; exact z_vol h1 h2
  refine z_aload_n (q := 10) dX5_shareThrough_9 rfl rfl rfl ?_
  refine z_getI (q := 13) 5 2 2 8 rfl (by decide) rfl rfl rfl (by with_reducible assumption) dX5_shareThrough_10 rfl ?_
  refine z_i2l (q := 14) dX5_shareThrough_13 rfl ?_
  refine z_aload_n (q := 15) dX5_shareThrough_14 rfl rfl rfl ?_
  refine z_getI (q := 18) 0 1 3 14 rfl (by decide) rfl rfl rfl (by with_reducible assumption) dX5_shareThrough_15 rfl ?_
  refine z_i2l (q := 19) dX5_shareThrough_18 rfl ?_
  refine z_lmul (q := 20) dX5_shareThrough_19 rfl ?_
  refine z_aload_n (q := 21) dX5_shareThrough_20 rfl rfl rfl ?_
  refine z_getI (q := 24) 0 4 4 17 rfl (by decide) rfl rfl rfl (by with_reducible assumption) dX5_shareThrough_21 rfl ?_
  refine z_i2l (q := 25) dX5_shareThrough_24 rfl ?_
  refine z_lmul (q := 26) dX5_shareThrough_25 rfl ?_
  refine z_ldc2 (q := 29) (i := 5) (v := 10) rfl dX5_shareThrough_26 rfl ?_
  refine z_aload_n (q := 30) dX5_shareThrough_29 rfl rfl rfl ?_
  refine z_getI (q := 33) 5 0 1 6 rfl (by decide) rfl rfl rfl (by with_reducible assumption) dX5_shareThrough_30 rfl ?_
  refine z_i2l (q := 34) dX5_shareThrough_33 rfl ?_
  refine z_lmul (q := 35) dX5_shareThrough_34 rfl ?_
  refine z_ldiv (q := 36) dX5_shareThrough_35 (hne) rfl ?_
  refine z_l2i (q := 37) dX5_shareThrough_36 rfl ?_
  exact z_iret rfl dX5_shareThrough_37 (Nat.zero_le _) (Nat.zero_le _) (⟨rfl, rfl, rfl, rfl, rfl⟩)
set_option maxRecDepth 100000 in
set_option maxHeartbeats 4000000 in
theorem c_X5_begin (G : zG) {n : Nat} {T : zTT} {I : zII} {R : zRR} (r : Nat) (x1 x2 x3 : Int32) (hD : z_Room T R r) : Ct G yX5_begin wsX5_begin (0, 0, 0) [.ref r, .int x1, .int x2, .int x3] n T I R (z_ret none n T (zw (zw (zw I r 0 x1) r 1 x2) r 5 x3) R) := by
  refine Ct.ofX (M := muX5_begin) (ls := [(0, .ref r), (1, .int x1), (2, .int x2), (3, .int x3)]) (by decide +kernel) rfl (by decide) rfl rfl (Nat.le_of_ble_eq_true rfl) ?_
  obtain ⟨hT, hT1, hR6⟩ := hD
  refine z_aload_n (q := 1) dX5_begin_0 rfl rfl rfl ?_
  refine z_iload_n (q := 2) dX5_begin_1 rfl rfl rfl ?_
  refine z_put (q := 5) 5 0 1 4 rfl (by decide) rfl rfl (tyX5_ok 0 (by decide)) (rfl) (rfl) rfl (by with_reducible assumption) dX5_begin_2 rfl ?_
  refine z_aload_n (q := 6) dX5_begin_5 rfl rfl rfl ?_
  refine z_iload_n (q := 7) dX5_begin_6 rfl rfl rfl ?_
  refine z_put (q := 10) 5 1 2 5 rfl (by decide) rfl rfl (tyX5_ok 1 (by decide)) (rfl) (rfl) rfl (by with_reducible assumption) dX5_begin_7 rfl ?_
  refine z_aload_n (q := 11) dX5_begin_10 rfl rfl rfl ?_
  refine z_iload_n (q := 12) dX5_begin_11 rfl rfl rfl ?_
  refine z_put (q := 15) 5 5 3 9 rfl (by decide) rfl rfl (tyX5_ok 5 (by decide)) (rfl) (rfl) rfl (by with_reducible assumption) dX5_begin_12 rfl ?_
  exact z_vret rfl dX5_begin_15 (Nat.zero_le _) (Nat.zero_le _) (⟨rfl, rfl, rfl, rfl, rfl⟩)
set_option maxRecDepth 100000 in
set_option maxHeartbeats 4000000 in
theorem c_X5_copyFrom (G : zG) {n : Nat} {T : zTT} {I : zII} {R : zRR} (d b : Nat) (hD : z_Room T R d) (hB : z_Room T R b) (hdis : d + 2 ≤ b ∨ b + 2 ≤ d) : Ct G yX5_copyFrom wsX5_copyFrom (1, 0, 0) [.ref d, .ref b] n T I R (z_rel none n T (fun I' R' => R' = R ∧ (∀ q, (q < d ∨ d + 2 ≤ q) → I' q = I q) ∧ (∀ k, k < 6 → I' d k = I b k) ∧ (∀ k, k < 32 → I' (d + 1) k = I (b + 1) k))) := by
  refine Ct.ofX (M := muX5_copyFrom) (ls := [(0, .ref d), (1, .ref b)]) (by decide +kernel) rfl (by decide) rfl rfl (Nat.le_of_ble_eq_true rfl) ?_
  obtain ⟨hT, hT1, hR6⟩ := hD
  obtain ⟨gT, gT1, gR6⟩ := hB
  have hbd : b ≠ d := by omega
  refine z_aload_n (q := 1) dX5_copyFrom_0 rfl rfl rfl ?_
  refine z_aload_n (q := 2) dX5_copyFrom_1 rfl rfl rfl ?_
  refine z_getI (q := 5) 5 0 1 12 rfl (by decide) rfl rfl rfl (by with_reducible assumption) dX5_copyFrom_2 rfl ?_
  refine z_put (q := 8) 5 0 1 12 rfl (by decide) rfl rfl (tyX5_ok 0 (by decide)) (rfl) (rfl) rfl (by with_reducible assumption) dX5_copyFrom_5 rfl ?_
  refine z_aload_n (q := 9) dX5_copyFrom_8 rfl rfl rfl ?_
  refine z_aload_n (q := 10) dX5_copyFrom_9 rfl rfl rfl ?_
  refine z_getI (q := 13) 5 1 2 13 rfl (by decide) rfl rfl rfl (by with_reducible assumption) dX5_copyFrom_10 rfl ?_
  refine z_put (q := 16) 5 1 2 13 rfl (by decide) rfl rfl (tyX5_ok 1 (by decide)) (rfl) (rfl) rfl (by with_reducible assumption) dX5_copyFrom_13 rfl ?_
  refine z_aload_n (q := 17) dX5_copyFrom_16 rfl rfl rfl ?_
  refine z_aload_n (q := 18) dX5_copyFrom_17 rfl rfl rfl ?_
  refine z_getI (q := 21) 5 2 3 14 rfl (by decide) rfl rfl rfl (by with_reducible assumption) dX5_copyFrom_18 rfl ?_
  refine z_put (q := 24) 5 2 3 14 rfl (by decide) rfl rfl (tyX5_ok 2 (by decide)) (rfl) (rfl) rfl (by with_reducible assumption) dX5_copyFrom_21 rfl ?_
  refine z_aload_n (q := 25) dX5_copyFrom_24 rfl rfl rfl ?_
  refine z_aload_n (q := 26) dX5_copyFrom_25 rfl rfl rfl ?_
  refine z_getI (q := 29) 5 3 4 15 rfl (by decide) rfl rfl rfl (by with_reducible assumption) dX5_copyFrom_26 rfl ?_
  refine z_put (q := 32) 5 3 4 15 rfl (by decide) rfl rfl (tyX5_ok 3 (by decide)) (rfl) (rfl) rfl (by with_reducible assumption) dX5_copyFrom_29 rfl ?_
  refine z_aload_n (q := 33) dX5_copyFrom_32 rfl rfl rfl ?_
  refine z_aload_n (q := 34) dX5_copyFrom_33 rfl rfl rfl ?_
  refine z_getI (q := 37) 5 4 5 16 rfl (by decide) rfl rfl rfl (by with_reducible assumption) dX5_copyFrom_34 rfl ?_
  refine z_put (q := 40) 5 4 5 16 rfl (by decide) rfl rfl (tyX5_ok 4 (by decide)) (rfl) (rfl) rfl (by with_reducible assumption) dX5_copyFrom_37 rfl ?_
  refine z_aload_n (q := 41) dX5_copyFrom_40 rfl rfl rfl ?_
  refine z_aload_n (q := 42) dX5_copyFrom_41 rfl rfl rfl ?_
  refine z_getI (q := 45) 5 5 6 17 rfl (by decide) rfl rfl rfl (by with_reducible assumption) dX5_copyFrom_42 rfl ?_
  refine z_put (q := 48) 5 5 6 17 rfl (by decide) rfl rfl (tyX5_ok 5 (by decide)) (rfl) (rfl) rfl (by with_reducible assumption) dX5_copyFrom_45 rfl ?_
  refine z_aload_n (q := 49) dX5_copyFrom_48 rfl rfl rfl ?_
  refine z_getR (q := 52) 5 6 7 18 rfl (by decide) rfl rfl rfl (by with_reducible assumption) (by with_reducible assumption) dX5_copyFrom_49 rfl ?_
  refine z_iconst (q := 53) (v := nI 0) dX5_copyFrom_52 (by rfl) rfl ?_
  refine z_aload_n (q := 54) dX5_copyFrom_53 rfl rfl rfl ?_
  refine z_getR (q := 57) 5 6 7 18 rfl (by decide) rfl rfl rfl (by with_reducible assumption) (by with_reducible assumption) dX5_copyFrom_54 rfl ?_
  refine z_iconst (q := 58) (v := nI 0) dX5_copyFrom_57 (by rfl) rfl ?_
  refine z_bipush (q := 60) (v := nI 32) dX5_copyFrom_58 (by rfl) rfl ?_
  refine z_acopy (q := 63) (m := 32) (i := 8) (j := 9) (l := 10) (o := 11) rfl rfl rfl rfl (by with_reducible assumption) (by with_reducible assumption) rfl rfl (rfl) (by decide) (by decide) (by decide) rfl (Nat.le_of_ble_eq_true rfl) dX5_copyFrom_60 rfl ?_
  refine z_vret rfl dX5_copyFrom_63 (Nat.zero_le _) (Nat.zero_le _) ⟨rfl, rfl, rfl, rfl, ?_, ?_, ?_⟩
  · intro q hq
    funext k
    have e0 : q ≠ d := by omega
    have e1 : q ≠ d + 1 := by omega
    simp [zw, zc, e0, e1]
  · intro k h2
    rcases (show k = 0 ∨ k = 1 ∨ k = 2 ∨ k = 3 ∨ k = 4 ∨ k = 5 by omega) with rfl | rfl | rfl | rfl | rfl | rfl <;> simp [zw, zc, hbd]
  · intro k hk
    have e1 : b + 1 ≠ d := by omega
    simp [zw, zc, hk, hbd, e1]


