/-! THE LAW: instructions and calls (of claim/NAMES.whole.lean.txt) -/
set_option maxRecDepth 20000 in
theorem ggL_isSo_X7_plan : GoodIn wsL_isSo wsX7_plan := goodIn_r _ [110, 6, 12, 111, 112, 113, 114, 115, 116, 117, 4, 118, 119, 120, 121, 46, 122, 48, 49, 158, 159, 160, 161, 162, 170, 171, 172, 173, 174, 175, 176, 177, 178, 179, 192, 193, 194, 195, 196, 190, 191] (by decide +kernel) (by decide +kernel)
set_option maxRecDepth 20000 in
theorem gL_isSo_X7_plan : GoodIn wsL_isSo (wsV RL 90 RX7 yX7_plan wsX7_plan) := goodIn_app (goodIn_of _ (by decide +kernel)) ggL_isSo_X7_plan
set_option maxRecDepth 20000 in
theorem ggL_isSo_X7_count : GoodIn wsL_isSo wsX7_count := goodIn_r _ [126, 6, 127, 128, 12, 129, 13, 130, 131, 132, 133, 134, 135, 136, 137, 138, 139, 140, 17, 141, 20, 142, 143, 144, 145, 146, 35, 147, 87, 88, 39, 89, 90, 148, 149, 150, 151, 152, 153, 154, 155, 156, 157, 158, 159, 160, 161, 162, 170, 171, 172, 173, 174, 175, 176, 177, 178, 179, 190, 191, 197, 198, 199, 200, 201, 202, 203, 204, 163, 164, 165, 166, 167, 168, 169, 180, 181, 182, 183, 184, 185, 186, 187, 188, 189] (by decide +kernel) (by decide +kernel)
set_option maxRecDepth 20000 in
theorem gL_isSo_X7_count : GoodIn wsL_isSo (wsV RL 93 RX7 yX7_count wsX7_count) := goodIn_app (goodIn_of _ (by decide +kernel)) ggL_isSo_X7_count
