/-! THE LAW: names -/
set_option maxRecDepth 20000 in
theorem ggL_law_X7_init : GoodIn wsL_law wsX7_init := goodIn_r _ [8, 9, 10, 11, 12, 13, 14, 15, 16, 17, 18, 19, 20, 21, 22, 23, 24, 25, 26, 27, 28, 29, 30, 31, 32, 33, 34, 35, 36, 37, 38, 39, 40, 41, 42, 43, 44, 45, 46, 47, 48, 49, 50, 51, 52, 53, 54, 55, 56, 57, 58, 59, 60, 61, 62, 63, 64, 65, 66, 67, 68, 69, 70, 71, 72, 73, 74, 75, 76, 77, 78, 79, 80, 81, 910, 911, 912, 913, 914, 915, 916, 917, 918, 919, 892, 893, 894, 895, 896, 920, 921, 922, 923, 924, 925, 926, 927, 928, 929, 930, 931, 932, 933, 934, 935, 936, 937, 938, 939, 940, 941, 942, 943, 944, 945, 946, 947, 948, 949, 950, 951] (by decide +kernel) (by decide +kernel)
set_option maxRecDepth 20000 in
theorem gL_law_X7_init : GoodIn wsL_law (wsX7_init) := ggL_law_X7_init
set_option maxRecDepth 20000 in
theorem ggL_law_X8_init : GoodIn wsL_law wsX8_init := goodIn_r _ [84, 85, 10, 11, 41, 86, 87, 88, 89, 90, 91, 92, 93, 897, 898, 899, 900, 901, 902, 903, 904, 905, 906, 907, 908, 909] (by decide +kernel) (by decide +kernel)
set_option maxRecDepth 20000 in
theorem gL_law_X8_init : GoodIn wsL_law (wsX8_init) := ggL_law_X8_init
set_option maxRecDepth 20000 in
theorem ggL_law_X7_room : GoodIn wsL_law wsX7_room := goodIn_r _ [97, 15, 98, 20, 99, 100, 2, 101, 102, 103, 104, 19, 105, 106, 73, 107, 108, 109, 110, 111, 112, 113, 14, 114, 34, 36, 40, 43, 115, 116, 117, 118, 119, 120, 121, 122, 123, 124, 125, 126, 127, 45, 128, 129, 130, 131, 132, 133, 134, 60, 135, 136, 137, 138, 47, 139, 140, 141, 142, 143, 144, 145, 64, 146, 65, 67, 147, 148, 149, 39, 150, 151, 53, 152, 153, 154, 27, 155, 156, 157, 158, 159, 160, 161, 162, 163, 164, 165, 166, 167, 168, 892, 893, 894, 895, 896, 910, 911, 912, 913, 914, 915, 916, 917, 918, 919, 920, 921, 935, 936, 937, 938, 939, 940, 941, 942, 943, 944, 945, 946, 947, 948, 949, 950, 951, 933, 934, 928, 929, 930, 931, 932] (by decide +kernel) (by decide +kernel)
set_option maxRecDepth 20000 in
theorem gL_law_X7_room : GoodIn wsL_law (wsV RL 13 RX7 yX7_room wsX7_room) := goodIn_app (goodIn_of _ (by decide +kernel)) ggL_law_X7_room
set_option maxRecDepth 20000 in
theorem ggL_law_X8_room : GoodIn wsL_law wsX8_room := goodIn_r _ [172, 86, 173, 174, 5, 175, 176, 177, 178, 179, 180, 88, 897, 898, 899, 900, 901, 902, 903, 904, 905, 906, 907, 908, 909] (by decide +kernel) (by decide +kernel)
set_option maxRecDepth 20000 in
theorem gL_law_X8_room : GoodIn wsL_law (wsV RL 17 RX8 yX8_room wsX8_room) := goodIn_app (goodIn_of _ (by decide +kernel)) ggL_law_X8_room
set_option maxRecDepth 20000 in
theorem ggL_law_X7_door : GoodIn wsL_law wsX7_door := goodIn_r _ [184, 15, 185, 20, 186, 187, 188, 14, 189, 119, 34, 190, 191, 192, 2, 193, 99, 100, 101, 194, 195, 196, 197, 36, 198, 199, 200, 201, 202, 203, 47, 204, 140, 64, 102, 103, 104, 19, 105, 106, 73, 107, 108, 109, 110, 111, 112, 113, 114, 40, 43, 115, 116, 117, 118, 120, 121, 122, 123, 124, 125, 126, 127, 45, 128, 129, 130, 131, 132, 133, 134, 60, 135, 136, 137, 138, 139, 141, 142, 143, 144, 145, 146, 65, 67, 147, 148, 149, 39, 150, 151, 53, 152, 153, 154, 27, 155, 156, 157, 158, 159, 160, 205, 206, 207, 208, 209, 210, 211, 212, 892, 893, 894, 895, 896, 910, 911, 912, 913, 914, 915, 916, 917, 918, 919, 942, 943, 944, 945, 946, 947, 948, 949, 950, 951, 935, 936, 937, 938, 939, 940, 941, 920, 921, 933, 934, 928, 929, 930, 931, 932] (by decide +kernel) (by decide +kernel)
set_option maxRecDepth 20000 in
theorem gL_law_X7_door : GoodIn wsL_law (wsV RL 18 RX7 yX7_door wsX7_door) := goodIn_app (goodIn_of _ (by decide +kernel)) ggL_law_X7_door
set_option maxRecDepth 20000 in
theorem ggL_law_X8_door : GoodIn wsL_law wsX8_door := goodIn_r _ [216, 86, 217, 218, 219, 5, 220, 173, 174, 175, 221, 222, 223, 224, 225, 226, 227, 228, 229, 230, 231, 232, 233, 234, 176, 177, 178, 179, 180, 88, 897, 898, 899, 900, 901, 902, 903, 904, 905, 906, 907, 908, 909] (by decide +kernel) (by decide +kernel)
set_option maxRecDepth 20000 in
theorem gL_law_X8_door : GoodIn wsL_law (wsV RL 22 RX8 yX8_door wsX8_door) := goodIn_app (goodIn_of _ (by decide +kernel)) ggL_law_X8_door
set_option maxRecDepth 20000 in
theorem ggL_law_X7_open : GoodIn wsL_law wsX7_open := goodIn_r _ [238, 15, 20, 239, 240, 241, 242, 14, 243, 120, 36, 99, 100, 2, 101, 244, 245, 246, 247, 248, 249, 250, 251, 252, 253, 254, 255, 43, 256, 257, 258, 259, 200, 187, 188, 189, 119, 34, 260, 261, 262, 45, 263, 129, 131, 102, 103, 104, 19, 105, 106, 73, 107, 108, 109, 110, 111, 112, 113, 114, 40, 115, 116, 117, 118, 121, 122, 123, 124, 125, 126, 127, 128, 130, 132, 133, 134, 60, 135, 136, 137, 138, 47, 139, 140, 141, 142, 143, 144, 145, 64, 146, 65, 67, 147, 148, 149, 39, 150, 151, 53, 152, 153, 154, 27, 155, 156, 157, 158, 159, 160, 264, 265, 266, 267, 892, 893, 894, 895, 896, 942, 943, 944, 945, 946, 947, 948, 949, 950, 951, 910, 911, 912, 913, 914, 915, 916, 917, 918, 919, 935, 936, 937, 938, 939, 940, 941, 920, 921, 933, 934, 928, 929, 930, 931, 932] (by decide +kernel) (by decide +kernel)
set_option maxRecDepth 20000 in
theorem gL_law_X7_open : GoodIn wsL_law (wsV RL 23 RX7 yX7_open wsX7_open) := goodIn_app (goodIn_of _ (by decide +kernel)) ggL_law_X7_open
set_option maxRecDepth 20000 in
theorem ggL_law_X8_open : GoodIn wsL_law wsX8_open := goodIn_r _ [271, 86, 272, 273, 274, 5, 275, 173, 174, 175, 276, 277, 278, 279, 229, 230, 231, 280, 281, 282, 283, 232, 233, 234, 176, 177, 178, 179, 180, 88, 897, 898, 899, 900, 901, 902, 903, 904, 905, 906, 907, 908, 909] (by decide +kernel) (by decide +kernel)
set_option maxRecDepth 20000 in
theorem gL_law_X8_open : GoodIn wsL_law (wsV RL 26 RX8 yX8_open wsX8_open) := goodIn_app (goodIn_of _ (by decide +kernel)) ggL_law_X8_open
set_option maxRecDepth 20000 in
theorem ggL_law_X7_refusal : GoodIn wsL_law wsX7_refusal := goodIn_r _ [287, 15, 240, 241, 242, 14, 243, 120, 36, 99, 100, 2, 101, 244, 245, 246, 247, 248, 249, 250, 251, 252, 253, 254, 255, 43, 256, 257, 258, 259, 200, 187, 188, 189, 119, 34, 260, 261, 262, 45, 263, 129, 131, 892, 893, 894, 895, 896, 910, 911, 912, 913, 914, 915, 916, 917, 918, 919, 942, 943, 944, 945, 946, 947, 948, 949, 950, 951, 935, 936, 937, 938, 939, 940, 941] (by decide +kernel) (by decide +kernel)
set_option maxRecDepth 20000 in
theorem gL_law_X7_refusal : GoodIn wsL_law (wsV RL 27 RX7 yX7_refusal wsX7_refusal) := goodIn_app (goodIn_of _ (by decide +kernel)) ggL_law_X7_refusal
set_option maxRecDepth 20000 in
theorem ggL_law_X8_refusal : GoodIn wsL_law wsX8_refusal := goodIn_r _ [291, 272, 273, 274, 5, 275, 86, 173, 174, 175, 276, 277, 278, 279, 229, 230, 231, 280, 281, 282, 283, 232, 233, 234, 897, 898, 899, 900, 901, 902, 903, 904, 905, 906, 907, 908, 909] (by decide +kernel) (by decide +kernel)
set_option maxRecDepth 20000 in
theorem gL_law_X8_refusal : GoodIn wsL_law (wsV RL 30 RX8 yX8_refusal wsX8_refusal) := goodIn_app (goodIn_of _ (by decide +kernel)) ggL_law_X8_refusal
set_option maxRecDepth 20000 in
theorem ggL_law_X7_lock : GoodIn wsL_law wsX7_lock := goodIn_r _ [295, 15, 296, 20, 297, 239, 240, 241, 242, 14, 243, 120, 36, 99, 100, 2, 101, 102, 103, 104, 19, 105, 106, 73, 107, 108, 109, 110, 111, 112, 113, 114, 34, 40, 43, 115, 116, 117, 118, 119, 121, 122, 123, 124, 125, 126, 127, 45, 128, 129, 130, 131, 132, 133, 134, 60, 135, 136, 137, 138, 47, 139, 140, 141, 142, 143, 144, 145, 64, 146, 65, 67, 147, 148, 149, 39, 150, 151, 53, 152, 153, 154, 27, 155, 156, 157, 158, 159, 160, 892, 893, 894, 895, 896, 942, 943, 944, 945, 946, 947, 948, 949, 950, 951, 910, 911, 912, 913, 914, 915, 916, 917, 918, 919, 920, 921, 935, 936, 937, 938, 939, 940, 941, 933, 934, 928, 929, 930, 931, 932] (by decide +kernel) (by decide +kernel)
set_option maxRecDepth 20000 in
theorem gL_law_X7_lock : GoodIn wsL_law (wsV RL 31 RX7 yX7_lock wsX7_lock) := goodIn_app (goodIn_of _ (by decide +kernel)) ggL_law_X7_lock
set_option maxRecDepth 20000 in
theorem ggL_law_X8_lock : GoodIn wsL_law wsX8_lock := goodIn_r _ [301, 86, 272, 273, 274, 5, 275, 173, 174, 175, 176, 177, 178, 179, 180, 88, 897, 898, 899, 900, 901, 902, 903, 904, 905, 906, 907, 908, 909] (by decide +kernel) (by decide +kernel)
set_option maxRecDepth 20000 in
theorem gL_law_X8_lock : GoodIn wsL_law (wsV RL 34 RX8 yX8_lock wsX8_lock) := goodIn_app (goodIn_of _ (by decide +kernel)) ggL_law_X8_lock
set_option maxRecDepth 20000 in
theorem ggL_law_X7_set : GoodIn wsL_law wsX7_set := goodIn_r _ [305, 306, 20, 15, 307, 99, 100, 2, 101, 102, 103, 104, 19, 105, 106, 73, 107, 108, 109, 110, 111, 112, 113, 14, 114, 34, 36, 40, 43, 115, 116, 117, 118, 119, 120, 121, 122, 123, 124, 125, 126, 127, 45, 128, 129, 130, 131, 132, 133, 134, 60, 135, 136, 137, 138, 47, 139, 140, 141, 142, 143, 144, 145, 64, 146, 65, 67, 147, 148, 149, 39, 150, 151, 53, 152, 153, 154, 27, 155, 156, 157, 158, 159, 160, 892, 893, 894, 895, 896, 910, 911, 912, 913, 914, 915, 916, 917, 918, 919, 920, 921, 935, 936, 937, 938, 939, 940, 941, 942, 943, 944, 945, 946, 947, 948, 949, 950, 951, 933, 934, 928, 929, 930, 931, 932] (by decide +kernel) (by decide +kernel)
set_option maxRecDepth 20000 in
theorem gL_law_X7_set : GoodIn wsL_law (wsV RL 35 RX7 yX7_set wsX7_set) := goodIn_app (goodIn_of _ (by decide +kernel)) ggL_law_X7_set
set_option maxRecDepth 20000 in
theorem ggL_law_X8_set : GoodIn wsL_law wsX8_set := goodIn_r _ [311, 93, 86, 173, 174, 5, 175, 176, 177, 178, 179, 180, 88, 897, 898, 899, 900, 901, 902, 903, 904, 905, 906, 907, 908, 909] (by decide +kernel) (by decide +kernel)
set_option maxRecDepth 20000 in
theorem gL_law_X8_set : GoodIn wsL_law (wsV RL 38 RX8 yX8_set wsX8_set) := goodIn_app (goodIn_of _ (by decide +kernel)) ggL_law_X8_set
set_option maxRecDepth 20000 in
theorem ggL_law_X7_roomOf : GoodIn wsL_law wsX7_roomOf := goodIn_r _ [315, 15, 316, 317, 318, 319, 320, 321, 322, 186, 187, 188, 14, 189, 119, 34, 323, 261, 262, 45, 263, 129, 131, 324, 325, 2, 326, 327, 328, 329, 330, 36, 201, 202, 203, 47, 204, 140, 64, 331, 332, 333, 39, 334, 151, 53, 335, 336, 337, 338, 27, 339, 156, 157, 159, 892, 893, 894, 895, 896, 935, 936, 937, 938, 939, 940, 941, 910, 911, 912, 913, 914, 915, 916, 917, 918, 919, 942, 943, 944, 945, 946, 947, 948, 949, 950, 951, 933, 934, 928, 929, 930, 931, 932] (by decide +kernel) (by decide +kernel)
set_option maxRecDepth 20000 in
theorem gL_law_X7_roomOf : GoodIn wsL_law (wsV RL 39 RX7 yX7_roomOf wsX7_roomOf) := goodIn_app (goodIn_of _ (by decide +kernel)) ggL_law_X7_roomOf
set_option maxRecDepth 20000 in
theorem ggL_law_X8_roomOf : GoodIn wsL_law wsX8_roomOf := goodIn_r _ [343, 86, 217, 218, 219, 5, 220, 173, 174, 175, 280, 281, 282, 283, 232, 233, 234, 344, 345, 346, 347, 348, 349, 350, 229, 230, 231, 351, 352, 353, 354, 355, 356, 357, 358, 359, 897, 898, 899, 900, 901, 902, 903, 904, 905, 906, 907, 908, 909] (by decide +kernel) (by decide +kernel)
set_option maxRecDepth 20000 in
theorem gL_law_X8_roomOf : GoodIn wsL_law (wsV RL 42 RX8 yX8_roomOf wsX8_roomOf) := goodIn_app (goodIn_of _ (by decide +kernel)) ggL_law_X8_roomOf
set_option maxRecDepth 20000 in
theorem ggL_law_X7_doorOf : GoodIn wsL_law wsX7_doorOf := goodIn_r _ [363, 15, 364, 365, 366, 367, 297, 239, 296, 368, 240, 241, 242, 14, 243, 120, 36, 369, 370, 371, 47, 372, 67, 373, 374, 375, 376, 250, 200, 187, 188, 189, 119, 34, 377, 378, 379, 45, 380, 129, 131, 381, 382, 383, 892, 893, 894, 895, 896, 942, 943, 944, 945, 946, 947, 948, 949, 950, 951, 910, 911, 912, 913, 914, 915, 916, 917, 918, 919, 935, 936, 937, 938, 939, 940, 941] (by decide +kernel) (by decide +kernel)
set_option maxRecDepth 20000 in
theorem gL_law_X7_doorOf : GoodIn wsL_law (wsV RL 43 RX7 yX7_doorOf wsX7_doorOf) := goodIn_app (goodIn_of _ (by decide +kernel)) ggL_law_X7_doorOf
set_option maxRecDepth 20000 in
theorem ggL_law_X8_doorOf : GoodIn wsL_law wsX8_doorOf := goodIn_r _ [387, 86, 272, 273, 274, 5, 275, 173, 174, 175, 229, 230, 231, 388, 389, 390, 391, 392, 393, 394, 232, 233, 234, 897, 898, 899, 900, 901, 902, 903, 904, 905, 906, 907, 908, 909] (by decide +kernel) (by decide +kernel)
set_option maxRecDepth 20000 in
theorem gL_law_X8_doorOf : GoodIn wsL_law (wsV RL 46 RX8 yX8_doorOf wsX8_doorOf) := goodIn_app (goodIn_of _ (by decide +kernel)) ggL_law_X8_doorOf
set_option maxRecDepth 20000 in
theorem ggL_law_X7_count : GoodIn wsL_law wsX7_count := goodIn_r _ [398, 15, 98, 185, 321, 399, 322, 400, 401, 402, 20, 403, 24, 404, 307, 405, 406, 407, 14, 408, 34, 409, 410, 411, 412, 413, 36, 414, 370, 371, 47, 372, 67, 415, 416, 417, 418, 419, 420, 421, 422, 423, 424, 892, 893, 894, 895, 896, 910, 911, 912, 913, 914, 915, 916, 917, 918, 919, 933, 934, 920, 921, 922, 923, 924, 925, 926, 927, 935, 936, 937, 938, 939, 940, 941, 942, 943, 944, 945, 946, 947, 948, 949, 950, 951] (by decide +kernel) (by decide +kernel)
set_option maxRecDepth 20000 in
theorem gL_law_X7_count : GoodIn wsL_law (wsV RL 47 RX7 yX7_count wsX7_count) := goodIn_app (goodIn_of _ (by decide +kernel)) ggL_law_X7_count
set_option maxRecDepth 20000 in
theorem ggL_law_X8_count : GoodIn wsL_law wsX8_count := goodIn_r _ [428, 86, 180, 429, 430, 431, 5, 432, 232, 233, 234, 433, 434, 435, 388, 389, 390, 897, 898, 899, 900, 901, 902, 903, 904, 905, 906, 907, 908, 909] (by decide +kernel) (by decide +kernel)
set_option maxRecDepth 20000 in
theorem gL_law_X8_count : GoodIn wsL_law (wsV RL 51 RX8 yX8_count wsX8_count) := goodIn_app (goodIn_of _ (by decide +kernel)) ggL_law_X8_count
