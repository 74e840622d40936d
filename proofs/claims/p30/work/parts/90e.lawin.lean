/-! THE LAW: its words stand in the tables -/
set_option maxRecDepth 20000 in
theorem in_wsL_acts_r9 : ∀ w ∈ wsL_acts_r9, w ∈ lw_tbl := fun w h => (goodIn_p wsL_acts_r9 [440, 444, 448, 451, 454, 459] (by decide +kernel) (by decide +kernel) w h).1
set_option maxRecDepth 20000 in
theorem in_wsL_acts_r10 : ∀ w ∈ wsL_acts_r10, w ∈ lw_tbl := fun w h => (goodIn_p wsL_acts_r10 [465, 469, 475, 307, 479] (by decide +kernel) (by decide +kernel) w h).1
def wsL_acts_r11_q0 : List Cond := [Cond.static yL_ends, Cond.code yL_ends cL_ends 4 none, Cond.methodLink RL 70 yL_step, Cond.static yL_step]
set_option maxRecDepth 20000 in
theorem in_wsL_acts_r11_q0 : ∀ w ∈ wsL_acts_r11_q0, w ∈ lw_tbl := fun w h => (goodIn_p wsL_acts_r11_q0 [483] (by decide +kernel) (by decide +kernel) w h).1
def wsL_acts_r11_q2 : List Cond := [Cond.constantLong RL 19 (1000), Cond.methodLink RL 9 yL_heard, Cond.static yL_heard, Cond.code yL_heard cL_heard 5 (some .int), Cond.methodLink RL 21 yL_flow, Cond.static yL_flow, Cond.code yL_flow cL_flow 5 (some .int), Cond.methodLink RL 74 yX7_pass, Cond.instanceMethod yX7_pass, Cond.selects RX7 yX7_pass yX7_pass, Cond.code yX7_pass cX7_pass 3 (some .int), Cond.methodLink RX7 236 yX3_goOn, Cond.instanceMethod yX3_goOn, Cond.selects RX3 yX3_goOn yX3_goOn, Cond.code yX3_goOn cX3_goOn 2 none, Cond.methodLink RX3 152 yX5_keepEnergy, Cond.instanceMethod yX5_keepEnergy, Cond.selects RX5 yX5_keepEnergy yX5_keepEnergy, Cond.code yX5_keepEnergy cX5_keepEnergy 2 none]
set_option maxRecDepth 20000 in
theorem in_wsL_acts_r11_q2 : ∀ w ∈ wsL_acts_r11_q2, w ∈ lw_tbl := fun w h => (goodIn_p wsL_acts_r11_q2 [489, 493, 497, 501, 505] (by decide +kernel) (by decide +kernel) w h).1
theorem in_wsL_acts_r11 : ∀ w ∈ wsL_acts_r11, w ∈ lw_tbl := by
  show ∀ w ∈ (wsL_acts_r11_q0 ++ (Cond.code yL_step cL_step 11 none :: wsL_acts_r11_q2)), w ∈ lw_tbl
  exact (List.forall_mem_append.mpr ⟨in_wsL_acts_r11_q0, (List.forall_mem_cons.mpr ⟨sp_step, in_wsL_acts_r11_q2⟩)⟩)
set_option maxRecDepth 20000 in
theorem in_wsL_acts_r12 : ∀ w ∈ wsL_acts_r12, w ∈ lw_tbl := fun w h => (goodIn_p wsL_acts_r12 [508, 512, 517, 523] (by decide +kernel) (by decide +kernel) w h).1
