/-! THE LAW: its words stand in the tables -/
set_option maxRecDepth 20000 in
theorem in_wsL_acts_r5 : ∀ w ∈ wsL_acts_r5, w ∈ lw_tbl := fun w h => (goodIn_p wsL_acts_r5 [360, 364, 368, 372, 376, 380] (by decide +kernel) (by decide +kernel) w h).1
set_option maxRecDepth 20000 in
theorem in_wsL_acts_r6 : ∀ w ∈ wsL_acts_r6, w ∈ lw_tbl := fun w h => (goodIn_p wsL_acts_r6 [385, 389, 393, 397, 401] (by decide +kernel) (by decide +kernel) w h).1
set_option maxRecDepth 20000 in
theorem in_wsL_acts_r7 : ∀ w ∈ wsL_acts_r7, w ∈ lw_tbl := fun w h => (goodIn_p wsL_acts_r7 [405, 416, 409, 413, 420] (by decide +kernel) (by decide +kernel) w h).1
set_option maxRecDepth 20000 in
theorem in_wsL_acts_r8 : ∀ w ∈ wsL_acts_r8, w ∈ lw_tbl := fun w h => (goodIn_p wsL_acts_r8 [424, 428, 432, 436] (by decide +kernel) (by decide +kernel) w h).1
