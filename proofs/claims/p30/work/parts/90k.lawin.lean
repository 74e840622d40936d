/-! THE LAW: its words stand in the tables -/
def wsL_law_r10_q0 : List Cond := [Cond.methodLink RX3 126 yX0_energyOnItsWay, Cond.methodLink RX7 172 yX3_energyAbsorbed, Cond.instanceMethod yX3_energyAbsorbed, Cond.selects RX3 yX3_energyAbsorbed yX3_energyAbsorbed, Cond.code yX3_energyAbsorbed cX3_energyAbsorbed 6 (some .int), Cond.fieldLink RX3 129 "RoomTails$Room" "absorbed" "I", Cond.methodLink RX7 178 yX3_energyGiven, Cond.instanceMethod yX3_energyGiven, Cond.selects RX3 yX3_energyGiven yX3_energyGiven, Cond.code yX3_energyGiven cX3_energyGiven 6 (some .int), Cond.fieldLink RX3 132 "RoomTails$Room" "given" "I", Cond.methodLink RL 101 yL_cell, Cond.static yL_cell, Cond.code yL_cell cL_cell 2 (some .int), Cond.constant RL 7 (40503), Cond.methodLink RL 104 yL_acts, Cond.static yL_acts]
set_option maxRecDepth 20000 in
theorem in_wsL_law_r10_q0 : ∀ w ∈ wsL_law_r10_q0, w ∈ lw_tbl := fun w h => (goodIn_p wsL_law_r10_q0 [292, 296, 310] (by decide +kernel) (by decide +kernel) w h).1
def wsL_law_r10_q2 : List Cond := [Cond.constant RL 25 (10000000), Cond.constant RL 57 (1000001), Cond.methodLink RL 26 yL_low, Cond.static yL_low, Cond.code yL_low cL_low 2 (some .int), Cond.methodLink RL 30 yX7_room]
set_option maxRecDepth 20000 in
theorem in_wsL_law_r10_q2 : ∀ w ∈ wsL_law_r10_q2, w ∈ lw_tbl := fun w h => (goodIn_p wsL_law_r10_q2 [314] (by decide +kernel) (by decide +kernel) w h).1
theorem in_wsL_law_r10 : ∀ w ∈ wsL_law_r10, w ∈ lw_tbl := by
  show ∀ w ∈ (wsL_law_r10_q0 ++ (Cond.code yL_acts cL_acts 16 (some .boolean) :: wsL_law_r10_q2)), w ∈ lw_tbl
  exact (List.forall_mem_append.mpr ⟨in_wsL_law_r10_q0, (List.forall_mem_cons.mpr ⟨sp_acts, in_wsL_law_r10_q2⟩)⟩)
set_option maxRecDepth 20000 in
theorem in_wsL_law_r11 : ∀ w ∈ wsL_law_r11, w ∈ lw_tbl := fun w h => (goodIn_p wsL_law_r11 [323, 327, 331, 335] (by decide +kernel) (by decide +kernel) w h).1
set_option maxRecDepth 20000 in
theorem in_wsL_law_r12 : ∀ w ∈ wsL_law_r12, w ∈ lw_tbl := fun w h => (goodIn_p wsL_law_r12 [339, 346, 351] (by decide +kernel) (by decide +kernel) w h).1
set_option maxRecDepth 20000 in
theorem in_wsL_law_r13 : ∀ w ∈ wsL_law_r13, w ∈ lw_tbl := fun w h => (goodIn_p wsL_law_r13 [355, 360, 364, 368, 376] (by decide +kernel) (by decide +kernel) w h).1
