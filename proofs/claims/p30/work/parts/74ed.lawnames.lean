/-! THE LAW: instructions and calls (of claim/NAMES.whole.lean.txt) -/
set_option maxRecDepth 20000 in
theorem gL_isSo_L_heard : GoodIn wsL_isSo (va_wsS RL 9 yL_heard wsL_heard) := goodIn_app (goodIn_of _ (by decide +kernel)) ggL_isSo_L_heard
set_option maxRecDepth 20000 in
theorem ggL_isSo_L_onWay : GoodIn wsL_isSo wsL_onWay := goodIn_r _ [68] (by decide +kernel) (by decide +kernel)
set_option maxRecDepth 20000 in
theorem gL_isSo_L_onWay : GoodIn wsL_isSo (va_wsS RL 83 yL_onWay wsL_onWay) := goodIn_app (goodIn_of _ (by decide +kernel)) ggL_isSo_L_onWay
set_option maxRecDepth 20000 in
theorem ggL_isSo_X7_doorOf : GoodIn wsL_isSo wsX7_doorOf := goodIn_r _ [72, 6, 73, 74, 75, 76, 77, 78, 79, 80, 81, 82, 83, 17, 84, 85, 35, 86, 87, 88, 39, 89, 90, 91, 92, 93, 94, 95, 96, 15, 16, 18, 19, 20, 97, 98, 99, 24, 100, 26, 27, 101, 102, 103, 158, 159, 160, 161, 162, 180, 181, 182, 183, 184, 185, 186, 187, 188, 189, 170, 171, 172, 173, 174, 175, 176, 177, 178, 179, 163, 164, 165, 166, 167, 168, 169] (by decide +kernel) (by decide +kernel)
set_option maxRecDepth 20000 in
theorem gL_isSo_X7_doorOf : GoodIn wsL_isSo (wsV RL 87 RX7 yX7_doorOf wsX7_doorOf) := goodIn_app (goodIn_of _ (by decide +kernel)) ggL_isSo_X7_doorOf
set_option maxRecDepth 20000 in
theorem ggL_isSo_L_flow : GoodIn wsL_isSo wsL_flow := goodIn_r _ [106] (by decide +kernel) (by decide +kernel)
set_option maxRecDepth 20000 in
theorem gL_isSo_L_flow : GoodIn wsL_isSo (va_wsS RL 21 yL_flow wsL_flow) := goodIn_app (goodIn_of _ (by decide +kernel)) ggL_isSo_L_flow
set_option maxRecDepth 20000 in
theorem ggL_isSo_X7_plan : GoodIn wsL_isSo wsX7_plan := goodIn_r _ [110, 6, 12, 111, 112, 113, 114, 115, 116, 117, 4, 118, 119, 120, 121, 46, 122, 48, 49, 158, 159, 160, 161, 162, 170, 171, 172, 173, 174, 175, 176, 177, 178, 179, 192, 193, 194, 195, 196, 190, 191] (by decide +kernel) (by decide +kernel)
set_option maxRecDepth 20000 in
theorem gL_isSo_X7_plan : GoodIn wsL_isSo (wsV RL 90 RX7 yX7_plan wsX7_plan) := goodIn_app (goodIn_of _ (by decide +kernel)) ggL_isSo_X7_plan
set_option maxRecDepth 20000 in
theorem ggL_isSo_X7_count : GoodIn wsL_isSo wsX7_count := goodIn_r _ [126, 6, 127, 128, 12, 129, 13, 130, 131, 132, 133, 134, 135, 136, 137, 138, 139, 140, 17, 141, 20, 142, 143, 144, 145, 146, 35, 147, 87, 88, 39, 89, 90, 148, 149, 150, 151, 152, 153, 154, 155, 156, 157, 158, 159, 160, 161, 162, 170, 171, 172, 173, 174, 175, 176, 177, 178, 179, 190, 191, 197, 198, 199, 200, 201, 202, 203, 204, 163, 164, 165, 166, 167, 168, 169, 180, 181, 182, 183, 184, 185, 186, 187, 188, 189] (by decide +kernel) (by decide +kernel)
set_option maxRecDepth 20000 in
theorem gL_isSo_X7_count : GoodIn wsL_isSo (wsV RL 93 RX7 yX7_count wsX7_count) := goodIn_app (goodIn_of _ (by decide +kernel)) ggL_isSo_X7_count
