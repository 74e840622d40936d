/-! THE LAW: its words stand in the tables -/
def wsL_law_r18_q0 : List Cond := [Cond.code yL_ends cL_ends 4 none, Cond.methodLink RL 70 yL_step, Cond.static yL_step]
set_option maxRecDepth 20000 in
theorem in_wsL_law_r18_q0 : ∀ w ∈ wsL_law_r18_q0, w ∈ lw_tbl := fun w h => (goodIn_p wsL_law_r18_q0 [483] (by decide +kernel) (by decide +kernel) w h).1
def wsL_law_r18_q2 : List Cond := [Cond.constantLong RL 19 (1000), Cond.methodLink RL 74 yX7_pass, Cond.instanceMethod yX7_pass, Cond.selects RX7 yX7_pass yX7_pass, Cond.code yX7_pass cX7_pass 3 (some .int), Cond.methodLink RX7 236 yX3_goOn, Cond.instanceMethod yX3_goOn, Cond.selects RX3 yX3_goOn yX3_goOn, Cond.code yX3_goOn cX3_goOn 2 none, Cond.methodLink RX3 152 yX5_keepEnergy, Cond.instanceMethod yX5_keepEnergy, Cond.selects RX5 yX5_keepEnergy yX5_keepEnergy, Cond.code yX5_keepEnergy cX5_keepEnergy 2 none, Cond.methodLink RX5 40 yJ9_floorMod_7cf53, Cond.static yJ9_floorMod_7cf53, Cond.initialized RJ9, Cond.code yJ9_floorMod_7cf53 cJ9_floorMod_7cf53 3 (some .int), Cond.methodLink RX3 156 yX3_aimPlannedDoors, Cond.instanceMethod yX3_aimPlannedDoors, Cond.selects RX3 yX3_aimPlannedDoors yX3_aimPlannedDoors]
set_option maxRecDepth 20000 in
theorem in_wsL_law_r18_q2 : ∀ w ∈ wsL_law_r18_q2, w ∈ lw_tbl := fun w h => (goodIn_p wsL_law_r18_q2 [497, 501, 505, 508] (by decide +kernel) (by decide +kernel) w h).1
theorem in_wsL_law_r18 : ∀ w ∈ wsL_law_r18, w ∈ lw_tbl := by
  show ∀ w ∈ (wsL_law_r18_q0 ++ (Cond.code yL_step cL_step 11 none :: wsL_law_r18_q2)), w ∈ lw_tbl
  exact (List.forall_mem_append.mpr ⟨in_wsL_law_r18_q0, (List.forall_mem_cons.mpr ⟨sp_step, in_wsL_law_r18_q2⟩)⟩)
set_option maxRecDepth 20000 in
theorem in_wsL_law_r19 : ∀ w ∈ wsL_law_r19, w ∈ lw_tbl := fun w h => (goodIn_p wsL_law_r19 [512, 517, 523, 527, 530] (by decide +kernel) (by decide +kernel) w h).1
set_option maxRecDepth 20000 in
theorem in_wsL_law_r20 : ∀ w ∈ wsL_law_r20, w ∈ lw_tbl := fun w h => (goodIn_p wsL_law_r20 [533, 545, 550, 554, 558, 563] (by decide +kernel) (by decide +kernel) w h).1
set_option maxRecDepth 20000 in
theorem in_wsL_law_r21 : ∀ w ∈ wsL_law_r21, w ∈ lw_tbl := fun w h => (goodIn_p wsL_law_r21 [569, 582, 585, 590, 594] (by decide +kernel) (by decide +kernel) w h).1
