/-! THE LAW: instructions and calls (of claim/NAMES.whole.lean.txt) -/
set_option maxRecDepth 20000 in
theorem ggL_isSo_X7_roomOf : GoodIn wsL_isSo wsX7_roomOf := goodIn_r _ [5, 6, 7, 8, 9, 10, 11, 12, 13, 14, 15, 16, 17, 18, 19, 20, 21, 22, 23, 24, 25, 26, 27, 28, 29, 4, 30, 31, 32, 33, 34, 35, 36, 37, 38, 39, 40, 41, 42, 43, 44, 45, 46, 47, 48, 49, 50, 51, 52, 53, 54, 55, 56, 57, 58, 158, 159, 160, 161, 162, 163, 164, 165, 166, 167, 168, 169, 170, 171, 172, 173, 174, 175, 176, 177, 178, 179, 180, 181, 182, 183, 184, 185, 186, 187, 188, 189, 190, 191, 192, 193, 194, 195, 196] (by decide +kernel) (by decide +kernel)
set_option maxRecDepth 20000 in
theorem gL_isSo_X7_roomOf : GoodIn wsL_isSo (wsV RL 77 RX7 yX7_roomOf wsX7_roomOf) := goodIn_app (goodIn_of _ (by decide +kernel)) ggL_isSo_X7_roomOf
set_option maxRecDepth 20000 in
theorem ggL_isSo_L_level : GoodIn wsL_isSo wsL_level := goodIn_r _ [62] (by decide +kernel) (by decide +kernel)
set_option maxRecDepth 20000 in
theorem gL_isSo_L_level : GoodIn wsL_isSo (va_wsS RL 80 yL_level wsL_level) := goodIn_app (goodIn_of _ (by decide +kernel)) ggL_isSo_L_level
set_option maxRecDepth 20000 in
theorem ggL_isSo_L_heard : GoodIn wsL_isSo wsL_heard := goodIn_r _ [65] (by decide +kernel) (by decide +kernel)
set_option maxRecDepth 20000 in
theorem gL_isSo_L_heard : GoodIn wsL_isSo (va_wsS RL 9 yL_heard wsL_heard) := goodIn_app (goodIn_of _ (by decide +kernel)) ggL_isSo_L_heard
set_option maxRecDepth 20000 in
theorem ggL_isSo_L_onWay : GoodIn wsL_isSo wsL_onWay := goodIn_r _ [68] (by decide +kernel) (by decide +kernel)
set_option maxRecDepth 20000 in
theorem gL_isSo_L_onWay : GoodIn wsL_isSo (va_wsS RL 83 yL_onWay wsL_onWay) := goodIn_app (goodIn_of _ (by decide +kernel)) ggL_isSo_L_onWay
set_option maxRecDepth 20000 in
theorem ggL_isSo_X7_doorOf : GoodIn wsL_isSo wsX7_doorOf := goodIn_r _ [72, 6, 73, 74, 75, 76, 77, 78, 79, 80, 81, 82, 83, 17, 84, 85, 35, 86, 87, 88, 39, 89, 90, 91, 92, 93, 94, 95, 96, 15, 16, 18, 19, 20, 97, 98, 99, 24, 100, 26, 27, 101, 102, 103, 158, 159, 160, 161, 162, 180, 181, 182, 183, 184, 185, 186, 187, 188, 189, 170, 171, 172, 173, 174, 175, 176, 177, 178, 179, 163, 164, 165, 166, 167, 168, 169] (by decide +kernel) (by decide +kernel)
set_option maxRecDepth 20000 in
theorem gL_isSo_X7_doorOf : GoodIn wsL_isSo (wsV RL 87 RX7 yX7_doorOf wsX7_doorOf) := goodIn_app (goodIn_of _ (by decide +kernel)) ggL_isSo_X7_doorOf
set_option maxRecDepth 20000 in
theorem ggL_isSo_L_flow : GoodIn wsL_isSo wsL_flow := goodIn_r _ [106] (by decide +kernel) (by decide +kernel)
set_option maxRecDepth 20000 in
theorem gL_isSo_L_flow : GoodIn wsL_isSo (va_wsS RL 21 yL_flow wsL_flow) := goodIn_app (goodIn_of _ (by decide +kernel)) ggL_isSo_L_flow
