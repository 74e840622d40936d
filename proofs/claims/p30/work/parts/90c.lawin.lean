/-! THE LAW: its words stand in the tables -/
set_option maxRecDepth 20000 in
theorem in_wsL_acts_r1 : ∀ w ∈ wsL_acts_r1, w ∈ lw_tbl := fun w h => (goodIn_p wsL_acts_r1 [314, 323, 303] (by decide +kernel) (by decide +kernel) w h).1
set_option maxRecDepth 20000 in
theorem in_wsL_acts_r2 : ∀ w ∈ wsL_acts_r2, w ∈ lw_tbl := fun w h => (goodIn_p wsL_acts_r2 [327, 331, 335] (by decide +kernel) (by decide +kernel) w h).1
set_option maxRecDepth 20000 in
theorem in_wsL_acts_r3 : ∀ w ∈ wsL_acts_r3, w ∈ lw_tbl := fun w h => (goodIn_p wsL_acts_r3 [339, 346] (by decide +kernel) (by decide +kernel) w h).1
set_option maxRecDepth 20000 in
theorem in_wsL_acts_r4 : ∀ w ∈ wsL_acts_r4, w ∈ lw_tbl := fun w h => (goodIn_p wsL_acts_r4 [351, 355] (by decide +kernel) (by decide +kernel) w h).1
