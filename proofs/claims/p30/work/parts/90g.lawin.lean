/-! THE LAW: its words stand in the tables -/
set_option maxRecDepth 20000 in
theorem in_wsL_isSo_r1 : ∀ w ∈ wsL_isSo_r1, w ∈ lw_tbl := fun w h => (goodIn_p wsL_isSo_r1 [601, 372] (by decide +kernel) (by decide +kernel) w h).1
set_option maxRecDepth 20000 in
theorem in_wsL_isSo_r2 : ∀ w ∈ wsL_isSo_r2, w ∈ lw_tbl := fun w h => (goodIn_p wsL_isSo_r2 [413, 605, 609, 385, 537] (by decide +kernel) (by decide +kernel) w h).1
set_option maxRecDepth 20000 in
theorem in_wsL_isSo_r3 : ∀ w ∈ wsL_isSo_r3, w ∈ lw_tbl := fun w h => (goodIn_p wsL_isSo_r3 [541, 613, 489, 616, 620] (by decide +kernel) (by decide +kernel) w h).1
set_option maxRecDepth 20000 in
theorem in_wsL_isSo_r4 : ∀ w ∈ wsL_isSo_r4, w ∈ lw_tbl := fun w h => (goodIn_p wsL_isSo_r4 [401, 288, 573] (by decide +kernel) (by decide +kernel) w h).1
