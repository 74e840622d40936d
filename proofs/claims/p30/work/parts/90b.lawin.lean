/-! THE LAW: its words stand in the tables -/
theorem inAll {big ws : List Cond} (h : ws.all (fun w => decide (w ∈ big)) = true) : ∀ w ∈ ws, w ∈ big := fun w hw => of_decide_eq_true (List.all_eq_true.mp h w hw)
set_option maxRecDepth 100000 in
theorem sp_step : Cond.code yL_step cL_step 11 none ∈ lw_tbl := List.mem_of_getElem? (i := 486) rfl
set_option maxRecDepth 100000 in
theorem sp_acts : Cond.code yL_acts cL_acts 16 (some .boolean) ∈ lw_tbl := List.mem_of_getElem? (i := 318) rfl
set_option maxRecDepth 100000 in
theorem sp_isSo : Cond.code yL_isSo cL_isSo 14 (some .boolean) ∈ lw_tbl := List.mem_of_getElem? (i := 597) rfl
theorem lwX0_in : ∀ w ∈ u_ws RX0 TX0 10, w ∈ lw_tbl := inAll (by decide +kernel)
theorem lwN0 : ∀ a, a < 10 → ∀ b, b < 10 → a ≠ b → (TX0 a).2.1 ≠ (TX0 b).2.1 := by decide +kernel
theorem lwX1_in : ∀ w ∈ u_ws RX1 TX1 5, w ∈ lw_tbl := inAll (by decide +kernel)
theorem lwN1 : ∀ a, a < 5 → ∀ b, b < 5 → a ≠ b → (TX1 a).2.1 ≠ (TX1 b).2.1 := by decide +kernel
theorem lwX2_in : ∀ w ∈ u_ws RX2 TX2 2, w ∈ lw_tbl := inAll (by decide +kernel)
theorem lwN2 : ∀ a, a < 2 → ∀ b, b < 2 → a ≠ b → (TX2 a).2.1 ≠ (TX2 b).2.1 := by decide +kernel
theorem lwX3_in : ∀ w ∈ u_ws RX3 TX3 10, w ∈ lw_tbl := inAll (by decide +kernel)
theorem lwN3 : ∀ a, a < 10 → ∀ b, b < 10 → a ≠ b → (TX3 a).2.1 ≠ (TX3 b).2.1 := by decide +kernel
theorem lwX4_in : ∀ w ∈ u_ws RX4 TX4 2, w ∈ lw_tbl := inAll (by decide +kernel)
theorem lwN4 : ∀ a, a < 2 → ∀ b, b < 2 → a ≠ b → (TX4 a).2.1 ≠ (TX4 b).2.1 := by decide +kernel
theorem lwX5_in : ∀ w ∈ u_ws RX5 TX5 7, w ∈ lw_tbl := inAll (by decide +kernel)
theorem lwN5 : ∀ a, a < 7 → ∀ b, b < 7 → a ≠ b → (TX5 a).2.1 ≠ (TX5 b).2.1 := by decide +kernel
theorem lwX6_in : ∀ w ∈ u_ws RX6 TX6 6, w ∈ lw_tbl := inAll (by decide +kernel)
theorem lwN6 : ∀ a, a < 6 → ∀ b, b < 6 → a ≠ b → (TX6 a).2.1 ≠ (TX6 b).2.1 := by decide +kernel
theorem lwX7_in : ∀ w ∈ u_ws RX7 TX7 5, w ∈ lw_tbl := inAll (by decide +kernel)
theorem lwN7 : ∀ a, a < 5 → ∀ b, b < 5 → a ≠ b → (TX7 a).2.1 ≠ (TX7 b).2.1 := by decide +kernel
