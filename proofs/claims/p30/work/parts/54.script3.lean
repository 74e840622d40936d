/-! THE CLASS, its text: entries read, reasons -/
set_option maxRecDepth 100000 in
set_option maxHeartbeats 4000000 in
theorem c_X7_isWithin (G : zG) {n : Nat} {T : zTT} {I : zII} {R : zRR} (x y z : Int32) : Ct G yX7_isWithin wsX7_isWithin (0, 0, 0) [.int x, .int y, .int z] n T I R (z_ret (some (.int (if x < y ∨ z < x then 0 else 1))) n T I R) := by
  refine Ct.ofX (M := muX7_isWithin) (ls := [(0, .int x), (1, .int y), (2, .int z)]) (by decide +kernel) rfl (by decide) rfl rfl (Nat.le_of_ble_eq_true rfl) ?_
  refine z_iload_n (q := 1) dX7_isWithin_0 rfl rfl rfl ?_
  refine z_iload_n (q := 2) dX7_isWithin_1 rfl rfl rfl ?_
  refine z_icmp_lt (tgt := 14) (q := 5) dX7_isWithin_2 (by decide) rfl (fun h2 => ?_) (fun h2 => ?_)
  · refine z_iconst (q := 15) (v := nI 0) dX7_isWithin_14 (by rfl) rfl ?_
    exact z_zret rfl (by rfl) dX7_isWithin_15 (Nat.zero_le _) (Nat.zero_le _) (⟨by simp_all [nI_0, zI1], rfl, rfl, rfl, rfl⟩)
  · refine z_iload_n (q := 6) dX7_isWithin_5 rfl rfl rfl ?_
    refine z_iload_n (q := 7) dX7_isWithin_6 rfl rfl rfl ?_
    refine z_icmp_gt (tgt := 14) (q := 10) dX7_isWithin_7 (by decide) rfl (fun h7 => ?_) (fun h7 => ?_)
    · refine z_iconst (q := 15) (v := nI 0) dX7_isWithin_14 (by rfl) rfl ?_
      exact z_zret rfl (by rfl) dX7_isWithin_15 (Nat.zero_le _) (Nat.zero_le _) (⟨by simp_all [nI_0, zI1], rfl, rfl, rfl, rfl⟩)
    · refine z_iconst (q := 11) (v := nI 1) dX7_isWithin_10 (by rfl) rfl ?_
      refine z_goto (q := 15) dX7_isWithin_11 (by decide) ?_
      exact z_zret rfl (by rfl) dX7_isWithin_15 (Nat.zero_le _) (Nat.zero_le _) (⟨by simp_all [nI_0, zI1], rfl, rfl, rfl, rfl⟩)
