/-! THE LAW's cell: an int of the script, or another where there is none -/
def cellV (L0 : Nat) (xs : Nat → Int32) (k : Nat) : Int32 := if k < L0 then xs k else nI (40503 * (k + 3))
set_option maxRecDepth 100000 in
set_option maxHeartbeats 4000000 in
theorem c_L_cell (G : zG) {n : Nat} {T : zTT} {I : zII} {R : zRR} {b L0 : Nat} {xs : Nat → Int32} (hL0 : L0 ≤ 260) (k : Nat) (hk : k < 1000) : CtX G yL_cell wsL_cell (0, 0, 0) [.ref b, .int (nI k)] n T I R b L0 xs (z_ret (some (.int (cellV L0 xs k))) n T I R) := by
  refine CtX.ofL (M := muL_cell) (ls := [(0, .ref b), (1, .int (nI k))]) (by decide +kernel) rfl (by decide) rfl rfl (Nat.le_of_ble_eq_true rfl) ?_
  intro p e s m args below meth c hX hb
  refine l_iload_n (q := 1) dL_cell_0 rfl rfl rfl ?_
  refine l_aload_n (q := 2) dL_cell_1 rfl rfl rfl ?_
  refine l_slen (q := 3) hX hb dL_cell_2 rfl ?_
  refine l_icmpn_ge (rfl) (rfl) (by omega) (by omega) (tgt := 12) (q := 6) dL_cell_3 (by decide) rfl (fun h3 => ?_) (fun h3 => ?_)
  · refine l_ldc (q := 14) (i := 1) (v := 40503) rfl dL_cell_12 rfl ?_
    refine l_iload_n (q := 15) dL_cell_14 rfl rfl rfl ?_
    refine l_iconst (q := 16) (v := nI 3) dL_cell_15 (by rfl) rfl ?_
    refine l_iaddE (q := 17) dL_cell_16 (nI_add _ _) rfl ?_
    refine l_imulE (q := 18) dL_cell_17 (pk_mul _ _) rfl ?_
    exact l_iret rfl dL_cell_18 (Nat.zero_le _) (Nat.zero_le _) ⟨by rw [cellV, if_neg (by omega)], rfl, rfl, rfl, rfl⟩
  · refine l_aload_n (q := 7) dL_cell_6 rfl rfl rfl ?_
    refine l_iload_n (q := 8) dL_cell_7 rfl rfl rfl ?_
    refine l_sld (q := 9) k hX hb rfl h3 (by omega) dL_cell_8 rfl ?_
    refine l_goto (q := 18) dL_cell_9 (by decide) ?_
    exact l_iret rfl dL_cell_18 (Nat.zero_le _) (Nat.zero_le _) ⟨by rw [cellV, if_pos h3], rfl, rfl, rfl, rfl⟩

