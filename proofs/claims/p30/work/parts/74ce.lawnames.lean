/-! THE LAW: instructions and calls (of claim/NAMES.whole.lean.txt) -/
set_option maxRecDepth 20000 in
theorem ggL_step_L_heard : GoodIn wsL_step wsL_heard := goodIn_r _ [6] (by decide +kernel) (by decide +kernel)
set_option maxRecDepth 20000 in
theorem gL_step_L_heard : GoodIn wsL_step (va_wsS RL 9 yL_heard wsL_heard) := goodIn_app (goodIn_of _ (by decide +kernel)) ggL_step_L_heard
set_option maxRecDepth 20000 in
theorem ggL_step_L_ends : GoodIn wsL_step wsL_ends := goodIn_r _ [9] (by decide +kernel) (by decide +kernel)
set_option maxRecDepth 20000 in
theorem gL_step_L_ends : GoodIn wsL_step (va_wsS RL 15 yL_ends wsL_ends) := goodIn_app (goodIn_of _ (by decide +kernel)) ggL_step_L_ends
set_option maxRecDepth 20000 in
theorem ggL_step_L_flow : GoodIn wsL_step wsL_flow := goodIn_r _ [12] (by decide +kernel) (by decide +kernel)
set_option maxRecDepth 20000 in
theorem gL_step_L_flow : GoodIn wsL_step (va_wsS RL 21 yL_flow wsL_flow) := goodIn_app (goodIn_of _ (by decide +kernel)) ggL_step_L_flow
