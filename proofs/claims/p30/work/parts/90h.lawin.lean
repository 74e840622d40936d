/-! THE LAW: its words stand in the tables -/
set_option maxRecDepth 20000 in
theorem in_wsL_isSo_r5 : ∀ w ∈ wsL_isSo_r5, w ∈ lw_tbl := fun w h => (goodIn_p wsL_isSo_r5 [577, 493, 300, 303] (by decide +kernel) (by decide +kernel) w h).1
set_option maxRecDepth 20000 in
theorem in_wsL_isSo_r6 : ∀ w ∈ wsL_isSo_r6, w ∈ lw_tbl := fun w h => (goodIn_p wsL_isSo_r6 [307, 276, 280] (by decide +kernel) (by decide +kernel) w h).1
set_option maxRecDepth 20000 in
theorem in_wsL_isSo_r7 : ∀ w ∈ wsL_isSo_r7, w ∈ lw_tbl := fun w h => (goodIn_p wsL_isSo_r7 [284, 292, 296] (by decide +kernel) (by decide +kernel) w h).1
set_option maxRecDepth 20000 in
theorem in_wsL_law_r1 : ∀ w ∈ wsL_law_r1, w ∈ lw_tbl := fun w h => (goodIn_p wsL_law_r1 [23, 26] (by decide +kernel) (by decide +kernel) w h).1
