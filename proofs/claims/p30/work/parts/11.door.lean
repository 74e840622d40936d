/-! floorMod, and the DOOR: its cell d, its rows at d+1 (sides), d+2 (gone), d+3 (leaving), d+4 (arriving) -/
set_option maxRecDepth 100000 in
set_option maxHeartbeats 4000000 in
theorem c_floorMod (G : zG) {n : Nat} {T : zTT} {I : zII} {R : zRR} (x y : Nat) (hx : x < 2 ^ 31) (hy0 : 0 < y) (hy : y < 2 ^ 31) : Ct G yJ9_floorMod_7cf53 wsJ9_floorMod_7cf53 (0, 0, 0) [.int (nI x), .int (nI y)] n T I R (z_ret (some (.int (nI (x % y)))) n T I R) := by
  refine Ct.ofX (M := muJ9_floorMod_7cf53) (ls := [(0, .int (nI x)), (1, .int (nI y))]) (by decide +kernel) rfl (by decide) rfl rfl (Nat.le_of_ble_eq_true rfl) ?_
  have hne : ¬ nI y = 0 := nI_ne0 hy0 hy
  refine z_iload_n (q := 1) dJ9_floorMod_7cf53_0 rfl rfl rfl ?_
  refine z_iload_n (q := 2) dJ9_floorMod_7cf53_1 rfl rfl rfl ?_
  refine z_irem (q := 3) dJ9_floorMod_7cf53_2 (hne) rfl ?_
  refine z_istore_n (q := 4) dJ9_floorMod_7cf53_3 rfl (by decide) rfl ?_
  refine z_iload_n (q := 5) dJ9_floorMod_7cf53_4 rfl rfl rfl ?_
  refine z_iload_n (q := 6) dJ9_floorMod_7cf53_5 rfl rfl rfl ?_
  refine z_ixor (q := 7) dJ9_floorMod_7cf53_6 rfl ?_
  refine z_if_ge (tgt := 18) (q := 10) dJ9_floorMod_7cf53_7 (by decide) rfl (fun _ => ?_) (fun hc => False.elim (hc (z_xor0 hx hy)))
  refine z_iload_n (q := 19) dJ9_floorMod_7cf53_18 rfl rfl rfl ?_
  exact z_iret rfl dJ9_floorMod_7cf53_19 (Nat.zero_le _) (Nat.zero_le _) (⟨by rw [pk_rem hx hy0 hy], rfl, rfl, rfl, rfl⟩)
def z_Door (T : zTT) (R : zRR) (d : Nat) : Prop := T d = some (.inl 0) ∧ T (d + 1) = some (.inr (.int, 2)) ∧ T (d + 2) = some (.inr (.int, 2)) ∧ T (d + 3) = some (.inr (.int, 2)) ∧ T (d + 4) = some (.inr (.int, 12)) ∧ R d 0 = some (d + 1) ∧ R d 7 = some (d + 2) ∧ R d 8 = some (d + 3) ∧ R d 9 = some (d + 4)
set_option maxRecDepth 100000 in
set_option maxHeartbeats 4000000 in
theorem c_X0_isAt (G : zG) {n : Nat} {T : zTT} {I : zII} {R : zRR} (d : Nat) (x : Int32) (hD : z_Door T R d) : Ct G yX0_isAt wsX0_isAt (0, 0, 0) [.ref d, .int x] n T I R (z_ret (some (.int (if I d 1 ≤ 0 then 0 else if I (d + 1) 0 = x ∨ I (d + 1) 1 = x then 1 else 0))) n T I R) := by
  refine Ct.ofX (M := muX0_isAt) (ls := [(0, .ref d), (1, .int x)]) (by decide +kernel) rfl (by decide) rfl rfl (Nat.le_of_ble_eq_true rfl) ?_
  obtain ⟨hT, hT1, hT2, hT3, hT4, hR0, hR7, hR8, hR9⟩ := hD
  refine z_aload_n (q := 1) dX0_isAt_0 rfl rfl rfl ?_
  refine z_getI (q := 4) 0 1 1 4 rfl (by decide) rfl rfl rfl (by with_reducible assumption) dX0_isAt_1 rfl ?_
  refine z_if_le (tgt := 31) (q := 7) dX0_isAt_4 (by decide) rfl (fun h4 => ?_) (fun h4 => ?_)
  · refine z_iconst (q := 32) (v := nI 0) dX0_isAt_31 (by rfl) rfl ?_
    exact z_zret rfl (by rfl) dX0_isAt_32 (Nat.zero_le _) (Nat.zero_le _) (⟨by simp_all [nI_0, zI1], rfl, rfl, rfl, rfl⟩)
  · refine z_aload_n (q := 8) dX0_isAt_7 rfl rfl rfl ?_
    refine z_getR (q := 11) 0 0 2 3 rfl (by decide) rfl rfl rfl (by with_reducible assumption) (by with_reducible assumption) dX0_isAt_8 rfl ?_
    refine z_iconst (q := 12) (v := nI 0) dX0_isAt_11 (by rfl) rfl ?_
    refine z_iald (q := 13) _ (by with_reducible assumption) (rfl) (by omega) (by decide) dX0_isAt_12 rfl ?_
    refine z_iload_n (q := 14) dX0_isAt_13 rfl rfl rfl ?_
    refine z_icmp_eq (tgt := 27) (q := 17) dX0_isAt_14 (by decide) rfl (fun h14 => ?_) (fun h14 => ?_)
    · refine z_iconst (q := 28) (v := nI 1) dX0_isAt_27 (by rfl) rfl ?_
      refine z_goto (q := 32) dX0_isAt_28 (by decide) ?_
      exact z_zret rfl (by rfl) dX0_isAt_32 (Nat.zero_le _) (Nat.zero_le _) (⟨by simp_all [nI_0, zI1], rfl, rfl, rfl, rfl⟩)
    · refine z_aload_n (q := 18) dX0_isAt_17 rfl rfl rfl ?_
      refine z_getR (q := 21) 0 0 2 3 rfl (by decide) rfl rfl rfl (by with_reducible assumption) (by with_reducible assumption) dX0_isAt_18 rfl ?_
      refine z_iconst (q := 22) (v := nI 1) dX0_isAt_21 (by rfl) rfl ?_
      refine z_iald (q := 23) _ (by with_reducible assumption) (rfl) (by omega) (by decide) dX0_isAt_22 rfl ?_
      refine z_iload_n (q := 24) dX0_isAt_23 rfl rfl rfl ?_
      refine z_icmp_ne (tgt := 31) (q := 27) dX0_isAt_24 (by decide) rfl (fun h24 => ?_) (fun h24 => ?_)
      · refine z_iconst (q := 32) (v := nI 0) dX0_isAt_31 (by rfl) rfl ?_
        exact z_zret rfl (by rfl) dX0_isAt_32 (Nat.zero_le _) (Nat.zero_le _) (⟨by simp_all [nI_0, zI1], rfl, rfl, rfl, rfl⟩)
      · refine z_iconst (q := 28) (v := nI 1) dX0_isAt_27 (by rfl) rfl ?_
        refine z_goto (q := 32) dX0_isAt_28 (by decide) ?_
        exact z_zret rfl (by rfl) dX0_isAt_32 (Nat.zero_le _) (Nat.zero_le _) (⟨by simp_all [nI_0, zI1], rfl, rfl, rfl, rfl⟩)
set_option maxRecDepth 100000 in
set_option maxHeartbeats 4000000 in
theorem c_X0_aimAt (G : zG) {n : Nat} {T : zTT} {I : zII} {R : zRR} (d : Nat) (x : Int32) (hD : z_Door T R d) : Ct G yX0_aimAt wsX0_aimAt (0, 0, 0) [.ref d, .int x] n T I R (z_ret none n T (if I d 6 = 0 then zw I d 5 x else I) R) := by
  refine Ct.ofX (M := muX0_aimAt) (ls := [(0, .ref d), (1, .int x)]) (by decide +kernel) rfl (by decide) rfl rfl (Nat.le_of_ble_eq_true rfl) ?_
  obtain ⟨hT, hT1, hT2, hT3, hT4, hR0, hR7, hR8, hR9⟩ := hD
  refine z_aload_n (q := 1) dX0_aimAt_0 rfl rfl rfl ?_
  refine z_getI (q := 4) 0 6 1 9 rfl (by decide) rfl rfl rfl (by with_reducible assumption) dX0_aimAt_1 rfl ?_
  refine z_if_ne (tgt := 12) (q := 7) dX0_aimAt_4 (by decide) rfl (fun h4 => ?_) (fun h4 => ?_)
  · exact z_vret rfl dX0_aimAt_12 (Nat.zero_le _) (Nat.zero_le _) (⟨rfl, rfl, rfl, by simp [*], rfl⟩)
  · refine z_aload_n (q := 8) dX0_aimAt_7 rfl rfl rfl ?_
    refine z_iload_n (q := 9) dX0_aimAt_8 rfl rfl rfl ?_
    refine z_put (q := 12) 0 5 2 8 rfl (by decide) rfl rfl (tyX0_ok 5 (by decide)) (rfl) (rfl) rfl (by with_reducible assumption) dX0_aimAt_9 rfl ?_
    exact z_vret rfl dX0_aimAt_12 (Nat.zero_le _) (Nat.zero_le _) (⟨rfl, rfl, rfl, by simp [*], rfl⟩)
set_option maxRecDepth 100000 in
set_option maxHeartbeats 4000000 in
theorem c_X0_move (G : zG) {n : Nat} {T : zTT} {I : zII} {R : zRR} (d : Nat) (hD : z_Door T R d) : Ct G yX0_move wsX0_move (1, 0, 0) [.ref d] n T I R (z_ret none n T (zw I d 4 (if I d 5 ≤ I d 4 then (if I d 5 < I d 4 - I d 2 then I d 4 - I d 2 else I d 5) else (if I d 4 + I d 2 < I d 5 then I d 4 + I d 2 else I d 5))) R) := by
  refine Ct.ofX (M := muX0_move) (ls := [(0, .ref d)]) (by decide +kernel) rfl (by decide) rfl rfl (Nat.le_of_ble_eq_true rfl) ?_
  obtain ⟨hT, hT1, hT2, hT3, hT4, hR0, hR7, hR8, hR9⟩ := hD
  refine z_aload_n (q := 1) dX0_move_0 rfl rfl rfl ?_
  refine z_getI (q := 4) 0 4 1 15 rfl (by decide) rfl rfl rfl (by with_reducible assumption) dX0_move_1 rfl ?_
  refine z_aload_n (q := 5) dX0_move_4 rfl rfl rfl ?_
  refine z_getI (q := 8) 0 5 2 16 rfl (by decide) rfl rfl rfl (by with_reducible assumption) dX0_move_5 rfl ?_
  refine z_icmp_ge (tgt := 34) (q := 11) dX0_move_8 (by decide) rfl (fun h8 => ?_) (fun h8 => ?_)
  · refine z_aload_n (q := 35) dX0_move_34 rfl rfl rfl ?_
    refine z_aload_n (q := 36) dX0_move_35 rfl rfl rfl ?_
    refine z_getI (q := 39) 0 5 2 16 rfl (by decide) rfl rfl rfl (by with_reducible assumption) dX0_move_36 rfl ?_
    refine z_aload_n (q := 40) dX0_move_39 rfl rfl rfl ?_
    refine z_getI (q := 43) 0 4 1 15 rfl (by decide) rfl rfl rfl (by with_reducible assumption) dX0_move_40 rfl ?_
    refine z_aload_n (q := 44) dX0_move_43 rfl rfl rfl ?_
    refine z_getI (q := 47) 0 2 3 13 rfl (by decide) rfl rfl rfl (by with_reducible assumption) dX0_move_44 rfl ?_
    refine z_isub (q := 48) dX0_move_47 rfl ?_
    refine z_max (q := 51) (i := 8) (j := 9) (l := 6) (o := 10) rfl rfl rfl rfl rfl (Nat.le_of_ble_eq_true rfl) ⟨Nat.zero_le _, Nat.zero_le _⟩ dX0_move_48 rfl ?_
    refine z_put (q := 54) 0 4 1 15 rfl (by decide) rfl rfl (tyX0_ok 4 (by decide)) (rfl) (rfl) rfl (by with_reducible assumption) dX0_move_51 rfl ?_
    exact z_vret rfl dX0_move_54 (Nat.zero_le _) (Nat.zero_le _) (⟨rfl, rfl, rfl, by simp [*], rfl⟩)
  · refine z_aload_n (q := 12) dX0_move_11 rfl rfl rfl ?_
    refine z_aload_n (q := 13) dX0_move_12 rfl rfl rfl ?_
    refine z_getI (q := 16) 0 5 2 16 rfl (by decide) rfl rfl rfl (by with_reducible assumption) dX0_move_13 rfl ?_
    refine z_aload_n (q := 17) dX0_move_16 rfl rfl rfl ?_
    refine z_getI (q := 20) 0 4 1 15 rfl (by decide) rfl rfl rfl (by with_reducible assumption) dX0_move_17 rfl ?_
    refine z_aload_n (q := 21) dX0_move_20 rfl rfl rfl ?_
    refine z_getI (q := 24) 0 2 3 13 rfl (by decide) rfl rfl rfl (by with_reducible assumption) dX0_move_21 rfl ?_
    refine z_iadd (q := 25) dX0_move_24 rfl ?_
    refine z_min (q := 28) (i := 4) (j := 5) (l := 6) (o := 7) rfl rfl rfl rfl rfl (Nat.le_of_ble_eq_true rfl) ⟨Nat.zero_le _, Nat.zero_le _⟩ dX0_move_25 rfl ?_
    refine z_put (q := 31) 0 4 1 15 rfl (by decide) rfl rfl (tyX0_ok 4 (by decide)) (rfl) (rfl) rfl (by with_reducible assumption) dX0_move_28 rfl ?_
    refine z_goto (q := 54) dX0_move_31 (by decide) ?_
    exact z_vret rfl dX0_move_54 (Nat.zero_le _) (Nat.zero_le _) (⟨rfl, rfl, rfl, by simp [*], rfl⟩)
set_option maxRecDepth 100000 in
set_option maxHeartbeats 4000000 in
theorem c_X0_placeOf (G : zG) {n : Nat} {T : zTT} {I : zII} {R : zRR} (x s : Nat) (hx : x < 2 ^ 31) (hs : s < 2) : Ct G yX0_placeOf wsX0_placeOf (1, 0, 0) [.int (nI x), .int (nI s)] n T I R (z_ret (some (.int (nI (2 * (x % 6) + s)))) n T I R) := by
  refine Ct.ofX (M := muX0_placeOf) (ls := [(0, .int (nI x)), (1, .int (nI s))]) (by decide +kernel) rfl (by decide) rfl rfl (Nat.le_of_ble_eq_true rfl) ?_
  refine z_iconst (q := 1) (v := nI 2) dX0_placeOf_0 (by rfl) rfl ?_
  refine z_iload_n (q := 2) dX0_placeOf_1 rfl rfl rfl ?_
  refine z_bipush (q := 4) (v := nI 6) dX0_placeOf_2 (by rfl) rfl ?_
  refine z_invS (q := 7) (c_floorMod G x 6 hx (by decide) (by decide)) gX0_placeOf_J9_floorMod_7cf53 rfl hy_J9_floorMod_7cf53 rfl rfl rfl rfl (Nat.le_of_ble_eq_true rfl) ⟨Nat.zero_le _, Nat.zero_le _⟩ dX0_placeOf_4 rfl (z_rv ?_)
  refine z_imulE (q := 8) dX0_placeOf_7 (pk_mul _ _) rfl ?_
  refine z_iload_n (q := 9) dX0_placeOf_8 rfl rfl rfl ?_
  rcases (show s = 0 ∨ s = 1 by omega) with rfl | rfl
  · refine z_if_ne (tgt := 16) (q := 12) dX0_placeOf_9 (by decide) rfl (fun hc => False.elim (hc rfl)) (fun _ => ?_)
    refine z_iconst (q := 13) (v := nI 0) dX0_placeOf_12 (by rfl) rfl ?_
    refine z_goto (q := 17) dX0_placeOf_13 (by decide) ?_
    refine z_iaddE (q := 18) dX0_placeOf_17 (nI_add _ _) rfl ?_
    exact z_iret rfl dX0_placeOf_18 (Nat.zero_le _) (Nat.zero_le _) (⟨rfl, rfl, rfl, rfl, rfl⟩)
  · refine z_if_ne (tgt := 16) (q := 12) dX0_placeOf_9 (by decide) rfl (fun _ => ?_) (fun hc => False.elim (absurd hc (by decide)))
    refine z_iconst (q := 17) (v := nI 1) dX0_placeOf_16 (by rfl) rfl ?_
    refine z_iaddE (q := 18) dX0_placeOf_17 (nI_add _ _) rfl ?_
    exact z_iret rfl dX0_placeOf_18 (Nat.zero_le _) (Nat.zero_le _) (⟨rfl, rfl, rfl, rfl, rfl⟩)
set_option maxRecDepth 100000 in
set_option maxHeartbeats 4000000 in
theorem c_X0_send (G : zG) {n : Nat} {T : zTT} {I : zII} {R : zRR} (d s p de : Nat) (e : Int32) (hD : z_Door T R d) (hs : s < 2) (hp : p < 100000) (hde : I d 3 = nI de) (hde5 : de ≤ 5) : Ct G yX0_send wsX0_send (2, 0, 0) [.ref d, .int e, .int (nI s), .int (nI p)] n T I R (z_ret none n T (zw (zw I (d + 2) s (I (d + 2) s + e)) (d + 4) (2 * ((p + de) % 6) + (1 - s)) (I (d + 4) (2 * ((p + de) % 6) + (1 - s)) + e)) R) := by
  refine Ct.ofX (M := muX0_send) (ls := [(0, .ref d), (1, .int e), (2, .int (nI s)), (3, .int (nI p))]) (by decide +kernel) rfl (by decide) rfl rfl (Nat.le_of_ble_eq_true rfl) ?_
  obtain ⟨hT, hT1, hT2, hT3, hT4, hR0, hR7, hR8, hR9⟩ := hD
  have hde' : zw I (d + 2) s (I (d + 2) s + e) d 3 = nI de := by rw [zw_a _ _ (by omega)]; exact hde
  have hq : ∀ j, zw I (d + 2) s (I (d + 2) s + e) (d + 4) j = I (d + 4) j := fun j => by rw [zw_a _ _ (by omega)]
  rcases (show s = 0 ∨ s = 1 by omega) with rfl | rfl
  · refine z_iload_n (q := 1) dX0_send_0 rfl rfl rfl ?_
    refine z_if_ne (tgt := 8) (q := 4) dX0_send_1 (by decide) rfl (fun hc => False.elim (hc rfl)) (fun _ => ?_)
    refine z_iconst (q := 5) (v := nI 0) dX0_send_4 (by rfl) rfl ?_
    refine z_goto (q := 9) dX0_send_5 (by decide) ?_
    refine z_istore (q := 11) dX0_send_9 (by decide) rfl ?_
    refine z_aload_n (q := 12) dX0_send_11 rfl rfl rfl ?_
    refine z_getR (q := 15) 0 7 1 19 rfl (by decide) rfl rfl rfl (by with_reducible assumption) (by with_reducible assumption) dX0_send_12 rfl ?_
    refine z_iload (q := 17) (i := 4) dX0_send_15 rfl rfl ?_
    refine z_dup2 (q := 18) dX0_send_17 rfl rfl rfl ?_
    refine z_iald (q := 19) _ (by with_reducible assumption) (rfl) (by omega) (by decide) dX0_send_18 rfl ?_
    refine z_iload_n (q := 20) dX0_send_19 rfl rfl rfl ?_
    refine z_iadd (q := 21) dX0_send_20 rfl ?_
    refine z_iast (q := 22) _ (by with_reducible assumption) (rfl) (by omega) (by decide) dX0_send_21 rfl ?_
    refine z_aload_n (q := 23) dX0_send_22 rfl rfl rfl ?_
    refine z_getR (q := 26) 0 9 2 21 rfl (by decide) rfl rfl rfl (by with_reducible assumption) (by with_reducible assumption) dX0_send_23 rfl ?_
    refine z_iload_n (q := 27) dX0_send_26 rfl rfl rfl ?_
    refine z_aload_n (q := 28) dX0_send_27 rfl rfl rfl ?_
    refine z_getV (q := 31) 0 3 3 15 rfl (by decide) rfl rfl rfl (by with_reducible assumption) (hde') dX0_send_28 rfl ?_
    refine z_iaddE (q := 32) dX0_send_31 (nI_add _ _) rfl ?_
    refine z_iconst (q := 33) (v := nI 1) dX0_send_32 (by rfl) rfl ?_
    refine z_iload (q := 35) (i := 4) dX0_send_33 rfl rfl ?_
    refine z_isubE (q := 36) dX0_send_35 (pk_sub (by decide)) rfl ?_
    refine z_invS (q := 39) (c_X0_placeOf G (p + de) 1 (by omega) (by decide)) gX0_send_X0_placeOf rfl hy_X0_placeOf rfl rfl rfl rfl (Nat.le_of_ble_eq_true rfl) ⟨Nat.zero_le _, Nat.zero_le _⟩ dX0_send_36 rfl (z_rv ?_)
    refine z_dup2 (q := 40) dX0_send_39 rfl rfl rfl ?_
    refine z_iald (q := 41) _ (by with_reducible assumption) (rfl) (by omega) (by decide) dX0_send_40 rfl ?_
    refine z_iload_n (q := 42) dX0_send_41 rfl rfl rfl ?_
    refine z_iadd (q := 43) dX0_send_42 rfl ?_
    refine z_iast (q := 44) _ (by with_reducible assumption) (rfl) (by omega) (by decide) dX0_send_43 rfl ?_
    rw [hq]
    exact z_vret rfl dX0_send_44 (Nat.zero_le _) (Nat.zero_le _) (⟨rfl, rfl, rfl, rfl, rfl⟩)
  · refine z_iload_n (q := 1) dX0_send_0 rfl rfl rfl ?_
    refine z_if_ne (tgt := 8) (q := 4) dX0_send_1 (by decide) rfl (fun _ => ?_) (fun hc => False.elim (absurd hc (by decide)))
    refine z_iconst (q := 9) (v := nI 1) dX0_send_8 (by rfl) rfl ?_
    refine z_istore (q := 11) dX0_send_9 (by decide) rfl ?_
    refine z_aload_n (q := 12) dX0_send_11 rfl rfl rfl ?_
    refine z_getR (q := 15) 0 7 1 19 rfl (by decide) rfl rfl rfl (by with_reducible assumption) (by with_reducible assumption) dX0_send_12 rfl ?_
    refine z_iload (q := 17) (i := 4) dX0_send_15 rfl rfl ?_
    refine z_dup2 (q := 18) dX0_send_17 rfl rfl rfl ?_
    refine z_iald (q := 19) _ (by with_reducible assumption) (rfl) (by omega) (by decide) dX0_send_18 rfl ?_
    refine z_iload_n (q := 20) dX0_send_19 rfl rfl rfl ?_
    refine z_iadd (q := 21) dX0_send_20 rfl ?_
    refine z_iast (q := 22) _ (by with_reducible assumption) (rfl) (by omega) (by decide) dX0_send_21 rfl ?_
    refine z_aload_n (q := 23) dX0_send_22 rfl rfl rfl ?_
    refine z_getR (q := 26) 0 9 2 21 rfl (by decide) rfl rfl rfl (by with_reducible assumption) (by with_reducible assumption) dX0_send_23 rfl ?_
    refine z_iload_n (q := 27) dX0_send_26 rfl rfl rfl ?_
    refine z_aload_n (q := 28) dX0_send_27 rfl rfl rfl ?_
    refine z_getV (q := 31) 0 3 3 15 rfl (by decide) rfl rfl rfl (by with_reducible assumption) (hde') dX0_send_28 rfl ?_
    refine z_iaddE (q := 32) dX0_send_31 (nI_add _ _) rfl ?_
    refine z_iconst (q := 33) (v := nI 1) dX0_send_32 (by rfl) rfl ?_
    refine z_iload (q := 35) (i := 4) dX0_send_33 rfl rfl ?_
    refine z_isubE (q := 36) dX0_send_35 (pk_sub (by decide)) rfl ?_
    refine z_invS (q := 39) (c_X0_placeOf G (p + de) 0 (by omega) (by decide)) gX0_send_X0_placeOf rfl hy_X0_placeOf rfl rfl rfl rfl (Nat.le_of_ble_eq_true rfl) ⟨Nat.zero_le _, Nat.zero_le _⟩ dX0_send_36 rfl (z_rv ?_)
    refine z_dup2 (q := 40) dX0_send_39 rfl rfl rfl ?_
    refine z_iald (q := 41) _ (by with_reducible assumption) (rfl) (by omega) (by decide) dX0_send_40 rfl ?_
    refine z_iload_n (q := 42) dX0_send_41 rfl rfl rfl ?_
    refine z_iadd (q := 43) dX0_send_42 rfl ?_
    refine z_iast (q := 44) _ (by with_reducible assumption) (rfl) (by omega) (by decide) dX0_send_43 rfl ?_
    rw [hq]
    exact z_vret rfl dX0_send_44 (Nat.zero_le _) (Nat.zero_le _) (⟨rfl, rfl, rfl, rfl, rfl⟩)
set_option maxRecDepth 100000 in
set_option maxHeartbeats 4000000 in
theorem c_X0_takeArrived (G : zG) {n : Nat} {T : zTT} {I : zII} {R : zRR} (d s p : Nat) (hD : z_Door T R d) (hs : s < 2) (hp : p < 100000) : Ct G yX0_takeArrived wsX0_takeArrived (2, 0, 0) [.ref d, .int (nI s), .int (nI p)] n T I R (z_ret (some (.int (I (d + 4) (2 * (p % 6) + s)))) n T (zw I (d + 4) (2 * (p % 6) + s) 0) R) := by
  refine Ct.ofX (M := muX0_takeArrived) (ls := [(0, .ref d), (1, .int (nI s)), (2, .int (nI p))]) (by decide +kernel) rfl (by decide) rfl rfl (Nat.le_of_ble_eq_true rfl) ?_
  obtain ⟨hT, hT1, hT2, hT3, hT4, hR0, hR7, hR8, hR9⟩ := hD
  refine z_iload_n (q := 1) dX0_takeArrived_0 rfl rfl rfl ?_
  refine z_iload_n (q := 2) dX0_takeArrived_1 rfl rfl rfl ?_
  refine z_invS (q := 5) (c_X0_placeOf G p s (by omega) hs) gX0_takeArrived_X0_placeOf rfl hy_X0_placeOf rfl rfl rfl rfl (Nat.le_of_ble_eq_true rfl) ⟨Nat.zero_le _, Nat.zero_le _⟩ dX0_takeArrived_2 rfl (z_rv ?_)
  refine z_istore_n (q := 6) dX0_takeArrived_5 rfl (by decide) rfl ?_
  refine z_aload_n (q := 7) dX0_takeArrived_6 rfl rfl rfl ?_
  refine z_getR (q := 10) 0 9 1 19 rfl (by decide) rfl rfl rfl (by with_reducible assumption) (by with_reducible assumption) dX0_takeArrived_7 rfl ?_
  refine z_iload_n (q := 11) dX0_takeArrived_10 rfl rfl rfl ?_
  refine z_iald (q := 12) _ (by with_reducible assumption) (rfl) (by omega) (by decide) dX0_takeArrived_11 rfl ?_
  refine z_istore (q := 14) dX0_takeArrived_12 (by decide) rfl ?_
  refine z_aload_n (q := 15) dX0_takeArrived_14 rfl rfl rfl ?_
  refine z_getR (q := 18) 0 9 1 19 rfl (by decide) rfl rfl rfl (by with_reducible assumption) (by with_reducible assumption) dX0_takeArrived_15 rfl ?_
  refine z_iload_n (q := 19) dX0_takeArrived_18 rfl rfl rfl ?_
  refine z_iconst (q := 20) (v := nI 0) dX0_takeArrived_19 (by rfl) rfl ?_
  refine z_iast (q := 21) _ (by with_reducible assumption) (rfl) (by omega) (by decide) dX0_takeArrived_20 rfl ?_
  refine z_iload (q := 23) (i := 4) dX0_takeArrived_21 rfl rfl ?_
  exact z_iret rfl dX0_takeArrived_23 (Nat.zero_le _) (Nat.zero_le _) (⟨rfl, rfl, rfl, rfl, rfl⟩)
set_option maxRecDepth 100000 in
set_option maxHeartbeats 4000000 in
theorem c_X0_energyOnItsWay (G : zG) {n : Nat} {T : zTT} {I : zII} {R : zRR} (d : Nat) (hD : z_Door T R d) : Ct G yX0_energyOnItsWay wsX0_energyOnItsWay (0, 0, 0) [.ref d] n T I R (z_ret (some (.int (sumI (fun k => I (d + 4) k) 12))) n T I R) := by
  refine Ct.ofX (M := muX0_energyOnItsWay) (ls := [(0, .ref d)]) (by decide +kernel) rfl (by decide) rfl rfl (Nat.le_of_ble_eq_true rfl) ?_
  obtain ⟨hT, hT1, hT2, hT3, hT4, hR0, hR7, hR8, hR9⟩ := hD
  refine z_iconst (q := 1) (v := nI 0) dX0_energyOnItsWay_0 (by rfl) rfl ?_
  refine z_istore_n (q := 2) dX0_energyOnItsWay_1 rfl (by decide) rfl ?_
  refine z_aload_n (q := 3) dX0_energyOnItsWay_2 rfl rfl rfl ?_
  refine z_getR (q := 6) 0 9 1 11 rfl (by decide) rfl rfl rfl (by with_reducible assumption) (by with_reducible assumption) dX0_energyOnItsWay_3 rfl ?_
  refine z_astore_n (q := 7) dX0_energyOnItsWay_6 rfl (by decide) rfl ?_
  refine z_aload_n (q := 8) dX0_energyOnItsWay_7 rfl rfl rfl ?_
  refine z_alen (q := 9) (by with_reducible assumption) dX0_energyOnItsWay_8 rfl ?_
  refine z_istore_n (q := 10) dX0_energyOnItsWay_9 rfl (by decide) rfl ?_
  refine z_iconst (q := 11) (v := nI 0) dX0_energyOnItsWay_10 (by rfl) rfl ?_
  refine z_istore (q := 13) dX0_energyOnItsWay_11 (by decide) rfl ?_
  have loop : ∀ i, i ≤ 12 → z_X G muX0_energyOnItsWay (0, 0, 0) (z_ret (some (.int (sumI (fun k => I (d + 4) k) 12))) n T I R) n T I R 0 0 13 [(0, .ref d), (1, .int (sumI (fun k => I (d + 4) k) i)), (2, .ref (d + 4)), (3, .int (nI 12)), (4, .int (nI i))] [] := by
    refine z_up (N := 12) _ ?_ ?_
    · refine z_iload (q := 15) (i := 4) dX0_energyOnItsWay_13 rfl rfl ?_
      refine z_iload_n (q := 16) dX0_energyOnItsWay_15 rfl rfl rfl ?_
      refine z_icmpn_ge (rfl) (rfl) (by omega) (by omega) (tgt := 36) (q := 19) dX0_energyOnItsWay_16 (by decide) rfl (fun _ => ?_) (fun hc => absurd hc (by omega))
      refine z_iload_n (q := 37) dX0_energyOnItsWay_36 rfl rfl rfl ?_
      exact z_iret rfl dX0_energyOnItsWay_37 (Nat.zero_le _) (Nat.zero_le _) (⟨rfl, rfl, rfl, rfl, rfl⟩)
    · intro i hi ih
      refine z_iload (q := 15) (i := 4) dX0_energyOnItsWay_13 rfl rfl ?_
      refine z_iload_n (q := 16) dX0_energyOnItsWay_15 rfl rfl rfl ?_
      refine z_icmpn_ge (rfl) (rfl) (by omega) (by omega) (tgt := 36) (q := 19) dX0_energyOnItsWay_16 (by decide) rfl (fun hc => absurd hc (by omega)) (fun _ => ?_)
      refine z_aload_n (q := 20) dX0_energyOnItsWay_19 rfl rfl rfl ?_
      refine z_iload (q := 22) (i := 4) dX0_energyOnItsWay_20 rfl rfl ?_
      refine z_iald (q := 23) _ (by with_reducible assumption) (rfl) (by omega) (by decide) dX0_energyOnItsWay_22 rfl ?_
      refine z_istore (q := 25) dX0_energyOnItsWay_23 (by decide) rfl ?_
      refine z_iload_n (q := 26) dX0_energyOnItsWay_25 rfl rfl rfl ?_
      refine z_iload (q := 28) (i := 5) dX0_energyOnItsWay_26 rfl rfl ?_
      refine z_iadd (q := 29) dX0_energyOnItsWay_28 rfl ?_
      refine z_istore_n (q := 30) dX0_energyOnItsWay_29 rfl (by decide) rfl ?_
      refine z_iinc (q := 33) dX0_energyOnItsWay_30 rfl (nI_add _ 1) (by decide) rfl ?_
      refine z_goto (q := 13) dX0_energyOnItsWay_33 (by decide) ?_
      exact z_pick [0, 1, 2, 3, 4] rfl ih
  exact loop 0 (by omega)
set_option maxRecDepth 100000 in
set_option maxHeartbeats 4000000 in
theorem c_X0_begin (G : zG) {n : Nat} {T : zTT} {I : zII} {R : zRR} (d : Nat) (x1 x2 x3 x4 x5 : Int32) (hD : z_Door T R d) : Ct G yX0_begin wsX0_begin (0, 0, 0) [.ref d, .int x1, .int x2, .int x3, .int x4, .int x5] n T I R (z_ret none n T (zw (zw (zw (zw (zw I (d + 1) 0 x1) (d + 1) 1 x2) d 1 x3) d 2 x4) d 3 x5) R) := by
  refine Ct.ofX (M := muX0_begin) (ls := [(0, .ref d), (1, .int x1), (2, .int x2), (3, .int x3), (4, .int x4), (5, .int x5)]) (by decide +kernel) rfl (by decide) rfl rfl (Nat.le_of_ble_eq_true rfl) ?_
  obtain ⟨hT, hT1, hT2, hT3, hT4, hR0, hR7, hR8, hR9⟩ := hD
  refine z_aload_n (q := 1) dX0_begin_0 rfl rfl rfl ?_
  refine z_getR (q := 4) 0 0 1 5 rfl (by decide) rfl rfl rfl (by with_reducible assumption) (by with_reducible assumption) dX0_begin_1 rfl ?_
  refine z_iconst (q := 5) (v := nI 0) dX0_begin_4 (by rfl) rfl ?_
  refine z_iload_n (q := 6) dX0_begin_5 rfl rfl rfl ?_
  refine z_iast (q := 7) _ (by with_reducible assumption) (rfl) (by omega) (by decide) dX0_begin_6 rfl ?_
  refine z_aload_n (q := 8) dX0_begin_7 rfl rfl rfl ?_
  refine z_getR (q := 11) 0 0 1 5 rfl (by decide) rfl rfl rfl (by with_reducible assumption) (by with_reducible assumption) dX0_begin_8 rfl ?_
  refine z_iconst (q := 12) (v := nI 1) dX0_begin_11 (by rfl) rfl ?_
  refine z_iload_n (q := 13) dX0_begin_12 rfl rfl rfl ?_
  refine z_iast (q := 14) _ (by with_reducible assumption) (rfl) (by omega) (by decide) dX0_begin_13 rfl ?_
  refine z_aload_n (q := 15) dX0_begin_14 rfl rfl rfl ?_
  refine z_iload_n (q := 16) dX0_begin_15 rfl rfl rfl ?_
  refine z_put (q := 19) 0 1 2 6 rfl (by decide) rfl rfl (tyX0_ok 1 (by decide)) (rfl) (rfl) rfl (by with_reducible assumption) dX0_begin_16 rfl ?_
  refine z_aload_n (q := 20) dX0_begin_19 rfl rfl rfl ?_
  refine z_iload (q := 22) (i := 4) dX0_begin_20 rfl rfl ?_
  refine z_put (q := 25) 0 2 3 7 rfl (by decide) rfl rfl (tyX0_ok 2 (by decide)) (rfl) (rfl) rfl (by with_reducible assumption) dX0_begin_22 rfl ?_
  refine z_aload_n (q := 26) dX0_begin_25 rfl rfl rfl ?_
  refine z_iload (q := 28) (i := 5) dX0_begin_26 rfl rfl ?_
  refine z_put (q := 31) 0 3 4 8 rfl (by decide) rfl rfl (tyX0_ok 3 (by decide)) (rfl) (rfl) rfl (by with_reducible assumption) dX0_begin_28 rfl ?_
  exact z_vret rfl dX0_begin_31 (Nat.zero_le _) (Nat.zero_le _) (⟨rfl, rfl, rfl, rfl, rfl⟩)
set_option maxRecDepth 100000 in
set_option maxHeartbeats 4000000 in
theorem c_X0_copyFrom (G : zG) {n : Nat} {T : zTT} {I : zII} {R : zRR} (d b : Nat) (hD : z_Door T R d) (hB : z_Door T R b) (hdis : d + 5 ≤ b ∨ b + 5 ≤ d) (hb : I b 6 = 0 ∨ I b 6 = 1) : Ct G yX0_copyFrom wsX0_copyFrom (1, 0, 0) [.ref d, .ref b] n T I R (z_rel none n T (fun I' R' => R' = R ∧ (∀ q, (q < d ∨ d + 5 ≤ q) → I' q = I q) ∧ (∀ k, 1 ≤ k → k < 7 → I' d k = I b k) ∧ (∀ k, k < 2 → I' (d + 1) k = I (b + 1) k) ∧ (∀ k, k < 2 → I' (d + 2) k = I (b + 2) k) ∧ (∀ k, k < 12 → I' (d + 4) k = I (b + 4) k))) := by
  refine Ct.ofX (M := muX0_copyFrom) (ls := [(0, .ref d), (1, .ref b)]) (by decide +kernel) rfl (by decide) rfl rfl (Nat.le_of_ble_eq_true rfl) ?_
  obtain ⟨hT, hT1, hT2, hT3, hT4, hR0, hR7, hR8, hR9⟩ := hD
  obtain ⟨gT, gT1, gT2, gT3, gT4, gR0, gR7, gR8, gR9⟩ := hB
  have hbd : b ≠ d := by omega
  have hb6 : (zw (zw (zw (zw (zw I d 1 (I b 1)) d 2 (zw I d 1 (I b 1) b 2)) d 3 (zw (zw I d 1 (I b 1)) d 2 (zw I d 1 (I b 1) b 2) b 3)) d 4 (zw (zw (zw I d 1 (I b 1)) d 2 (zw I d 1 (I b 1) b 2)) d 3 (zw (zw I d 1 (I b 1)) d 2 (zw I d 1 (I b 1) b 2) b 3) b 4)) d 5 (zw (zw (zw (zw I d 1 (I b 1)) d 2 (zw I d 1 (I b 1) b 2)) d 3 (zw (zw I d 1 (I b 1)) d 2 (zw I d 1 (I b 1) b 2) b 3)) d 4 (zw (zw (zw I d 1 (I b 1)) d 2 (zw I d 1 (I b 1) b 2)) d 3 (zw (zw I d 1 (I b 1)) d 2 (zw I d 1 (I b 1) b 2) b 3) b 4) b 5)) b 6 = I b 6 := by simp [zw_a, hbd]
  refine z_aload_n (q := 1) dX0_copyFrom_0 rfl rfl rfl ?_
  refine z_aload_n (q := 2) dX0_copyFrom_1 rfl rfl rfl ?_
  refine z_getI (q := 5) 0 1 1 15 rfl (by decide) rfl rfl rfl (by with_reducible assumption) dX0_copyFrom_2 rfl ?_
  refine z_put (q := 8) 0 1 1 15 rfl (by decide) rfl rfl (tyX0_ok 1 (by decide)) (rfl) (rfl) rfl (by with_reducible assumption) dX0_copyFrom_5 rfl ?_
  refine z_aload_n (q := 9) dX0_copyFrom_8 rfl rfl rfl ?_
  refine z_aload_n (q := 10) dX0_copyFrom_9 rfl rfl rfl ?_
  refine z_getI (q := 13) 0 2 2 16 rfl (by decide) rfl rfl rfl (by with_reducible assumption) dX0_copyFrom_10 rfl ?_
  refine z_put (q := 16) 0 2 2 16 rfl (by decide) rfl rfl (tyX0_ok 2 (by decide)) (rfl) (rfl) rfl (by with_reducible assumption) dX0_copyFrom_13 rfl ?_
  refine z_aload_n (q := 17) dX0_copyFrom_16 rfl rfl rfl ?_
  refine z_aload_n (q := 18) dX0_copyFrom_17 rfl rfl rfl ?_
  refine z_getI (q := 21) 0 3 3 17 rfl (by decide) rfl rfl rfl (by with_reducible assumption) dX0_copyFrom_18 rfl ?_
  refine z_put (q := 24) 0 3 3 17 rfl (by decide) rfl rfl (tyX0_ok 3 (by decide)) (rfl) (rfl) rfl (by with_reducible assumption) dX0_copyFrom_21 rfl ?_
  refine z_aload_n (q := 25) dX0_copyFrom_24 rfl rfl rfl ?_
  refine z_aload_n (q := 26) dX0_copyFrom_25 rfl rfl rfl ?_
  refine z_getI (q := 29) 0 4 4 18 rfl (by decide) rfl rfl rfl (by with_reducible assumption) dX0_copyFrom_26 rfl ?_
  refine z_put (q := 32) 0 4 4 18 rfl (by decide) rfl rfl (tyX0_ok 4 (by decide)) (rfl) (rfl) rfl (by with_reducible assumption) dX0_copyFrom_29 rfl ?_
  refine z_aload_n (q := 33) dX0_copyFrom_32 rfl rfl rfl ?_
  refine z_aload_n (q := 34) dX0_copyFrom_33 rfl rfl rfl ?_
  refine z_getI (q := 37) 0 5 5 19 rfl (by decide) rfl rfl rfl (by with_reducible assumption) dX0_copyFrom_34 rfl ?_
  refine z_put (q := 40) 0 5 5 19 rfl (by decide) rfl rfl (tyX0_ok 5 (by decide)) (rfl) (rfl) rfl (by with_reducible assumption) dX0_copyFrom_37 rfl ?_
  refine z_aload_n (q := 41) dX0_copyFrom_40 rfl rfl rfl ?_
  refine z_aload_n (q := 42) dX0_copyFrom_41 rfl rfl rfl ?_
  refine z_getI (q := 45) 0 6 6 20 rfl (by decide) rfl rfl rfl (by with_reducible assumption) dX0_copyFrom_42 rfl ?_
  refine z_put (q := 48) 0 6 6 20 rfl (by decide) rfl rfl (tyX0_ok 6 (by decide)) (z_bn (by rw [hb6]; exact hb)) (z_bf (by rw [hb6]; exact hb)) rfl (by with_reducible assumption) dX0_copyFrom_45 rfl ?_
  refine z_aload_n (q := 49) dX0_copyFrom_48 rfl rfl rfl ?_
  refine z_getR (q := 52) 0 0 7 14 rfl (by decide) rfl rfl rfl (by with_reducible assumption) (by with_reducible assumption) dX0_copyFrom_49 rfl ?_
  refine z_iconst (q := 53) (v := nI 0) dX0_copyFrom_52 (by rfl) rfl ?_
  refine z_aload_n (q := 54) dX0_copyFrom_53 rfl rfl rfl ?_
  refine z_getR (q := 57) 0 0 7 14 rfl (by decide) rfl rfl rfl (by with_reducible assumption) (by with_reducible assumption) dX0_copyFrom_54 rfl ?_
  refine z_iconst (q := 58) (v := nI 0) dX0_copyFrom_57 (by rfl) rfl ?_
  refine z_iconst (q := 59) (v := nI 2) dX0_copyFrom_58 (by rfl) rfl ?_
  refine z_acopy (q := 62) (m := 2) (i := 8) (j := 9) (l := 10) (o := 11) rfl rfl rfl rfl (by with_reducible assumption) (by with_reducible assumption) rfl rfl (rfl) (by decide) (by decide) (by decide) rfl (Nat.le_of_ble_eq_true rfl) dX0_copyFrom_59 rfl ?_
  refine z_aload_n (q := 63) dX0_copyFrom_62 rfl rfl rfl ?_
  refine z_getR (q := 66) 0 7 12 21 rfl (by decide) rfl rfl rfl (by with_reducible assumption) (by with_reducible assumption) dX0_copyFrom_63 rfl ?_
  refine z_iconst (q := 67) (v := nI 0) dX0_copyFrom_66 (by rfl) rfl ?_
  refine z_aload_n (q := 68) dX0_copyFrom_67 rfl rfl rfl ?_
  refine z_getR (q := 71) 0 7 12 21 rfl (by decide) rfl rfl rfl (by with_reducible assumption) (by with_reducible assumption) dX0_copyFrom_68 rfl ?_
  refine z_iconst (q := 72) (v := nI 0) dX0_copyFrom_71 (by rfl) rfl ?_
  refine z_iconst (q := 73) (v := nI 2) dX0_copyFrom_72 (by rfl) rfl ?_
  refine z_acopy (q := 76) (m := 2) (i := 8) (j := 9) (l := 10) (o := 11) rfl rfl rfl rfl (by with_reducible assumption) (by with_reducible assumption) rfl rfl (rfl) (by decide) (by decide) (by decide) rfl (Nat.le_of_ble_eq_true rfl) dX0_copyFrom_73 rfl ?_
  refine z_aload_n (q := 77) dX0_copyFrom_76 rfl rfl rfl ?_
  refine z_getR (q := 80) 0 9 13 23 rfl (by decide) rfl rfl rfl (by with_reducible assumption) (by with_reducible assumption) dX0_copyFrom_77 rfl ?_
  refine z_iconst (q := 81) (v := nI 0) dX0_copyFrom_80 (by rfl) rfl ?_
  refine z_aload_n (q := 82) dX0_copyFrom_81 rfl rfl rfl ?_
  refine z_getR (q := 85) 0 9 13 23 rfl (by decide) rfl rfl rfl (by with_reducible assumption) (by with_reducible assumption) dX0_copyFrom_82 rfl ?_
  refine z_iconst (q := 86) (v := nI 0) dX0_copyFrom_85 (by rfl) rfl ?_
  refine z_bipush (q := 88) (v := nI 12) dX0_copyFrom_86 (by rfl) rfl ?_
  refine z_acopy (q := 91) (m := 12) (i := 8) (j := 9) (l := 10) (o := 11) rfl rfl rfl rfl (by with_reducible assumption) (by with_reducible assumption) rfl rfl (rfl) (by decide) (by decide) (by decide) rfl (Nat.le_of_ble_eq_true rfl) dX0_copyFrom_88 rfl ?_
  refine z_vret rfl dX0_copyFrom_91 (Nat.zero_le _) (Nat.zero_le _) ⟨rfl, rfl, rfl, rfl, ?_, ?_, ?_, ?_, ?_⟩
  · intro q hq
    funext k
    have e0 : q ≠ d := by omega
    have e1 : q ≠ d + 1 := by omega
    have e2 : q ≠ d + 2 := by omega
    have e4 : q ≠ d + 4 := by omega
    simp [zw, zc, e0, e1, e2, e4]
  · intro k h1 h2
    rcases (show k = 1 ∨ k = 2 ∨ k = 3 ∨ k = 4 ∨ k = 5 ∨ k = 6 by omega) with rfl | rfl | rfl | rfl | rfl | rfl <;> simp [zw, zc, hbd]
  · intro k hk
    have e1 : b + 1 ≠ d := by omega
    have e2 : b + 1 ≠ d + 1 := by omega
    simp [zw, zc, hk, hbd, e1]
  · intro k hk
    have e1 : b + 2 ≠ d := by omega
    have e2 : b + 2 ≠ d + 1 := by omega
    simp [zw, zc, hk, hbd, e1, e2]
  · intro k hk
    have e1 : b + 4 ≠ d := by omega
    have e2 : b + 4 ≠ d + 1 := by omega
    have e3 : b + 4 ≠ d + 2 := by omega
    simp [zw, zc, hk, hbd, e1, e2, e3]


