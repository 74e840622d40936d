/-! THE LAW: its words stand in the tables -/
set_option maxRecDepth 20000 in
theorem in_wsL_acts_r13 : ∀ w ∈ wsL_acts_r13, w ∈ lw_tbl := fun w h => (goodIn_p wsL_acts_r13 [527, 530, 533, 537, 541, 545] (by decide +kernel) (by decide +kernel) w h).1
set_option maxRecDepth 20000 in
theorem in_wsL_acts_r14 : ∀ w ∈ wsL_acts_r14, w ∈ lw_tbl := fun w h => (goodIn_p wsL_acts_r14 [550, 554, 558, 563, 569] (by decide +kernel) (by decide +kernel) w h).1
set_option maxRecDepth 20000 in
theorem in_wsL_acts_r15 : ∀ w ∈ wsL_acts_r15, w ∈ lw_tbl := fun w h => (goodIn_p wsL_acts_r15 [573, 577, 582, 585, 590] (by decide +kernel) (by decide +kernel) w h).1
set_option maxRecDepth 20000 in
theorem in_wsL_acts_r16 : ∀ w ∈ wsL_acts_r16, w ∈ lw_tbl := fun w h => (goodIn_p wsL_acts_r16 [594] (by decide +kernel) (by decide +kernel) w h).1
