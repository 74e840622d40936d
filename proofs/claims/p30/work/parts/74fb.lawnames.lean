/-! THE LAW: instructions and calls (of claim/NAMES.whole.lean.txt) -/
theorem dL_law_286 : decode cL_law 286 = .ok (.iconst (-1), 1) := by decide +kernel
theorem dL_law_287 : decode cL_law 287 = .ok (.iconst 0, 1) := by decide +kernel
theorem dL_law_288 : decode cL_law 288 = .ok (.invokevirtual 90, 3) := by decide +kernel
theorem dL_law_291 : decode cL_law 291 = .ok (.iconst (-1), 1) := by decide +kernel
theorem dL_law_292 : decode cL_law 292 = .ok (.if_icmp .ne 7, 3) := by decide +kernel
theorem dL_law_295 : decode cL_law 295 = .ok (.iconst 1, 1) := by decide +kernel
theorem dL_law_296 : decode cL_law 296 = .ok (.goto 4, 3) := by decide +kernel
theorem dL_law_299 : decode cL_law 299 = .ok (.iconst 0, 1) := by decide +kernel
theorem dL_law_300 : decode cL_law 300 = .ok (.ireturn, 1) := by decide +kernel
set_option maxRecDepth 20000 in
theorem ggL_law_X7_init : GoodIn wsL_law wsX7_init := goodIn_r _ [8, 9, 10, 11, 12, 13, 14, 15, 16, 17, 18, 19, 20, 21, 22, 23, 24, 25, 26, 27, 28, 29, 30, 31, 32, 33, 34, 35, 36, 37, 38, 39, 40, 3, 41, 42, 43, 44, 45, 46, 47, 48, 49, 50, 51, 52, 53, 54, 55, 56, 57, 58, 59, 60, 61, 62, 63, 64, 65, 66, 67, 68, 69, 70, 71, 72, 73, 74, 75, 76, 77, 78, 79, 80, 509, 510, 511, 512, 513, 514, 515, 516, 517, 518, 504, 505, 506, 507, 508, 519, 520, 521, 522, 523, 524, 525, 526, 527, 528, 529, 530, 531, 532, 533, 534, 535, 536, 537, 538, 539, 540, 541, 542, 543, 544, 545, 546, 547, 548, 549, 550] (by decide +kernel) (by decide +kernel)
set_option maxRecDepth 20000 in
theorem gL_law_X7_init : GoodIn wsL_law (wsX7_init) := ggL_law_X7_init
set_option maxRecDepth 20000 in
theorem ggL_law_L_isSo : GoodIn wsL_law wsL_isSo := goodIn_r _ [84, 85, 86, 87, 2, 88, 15, 89, 90, 91, 92, 93, 94, 95, 96, 97, 98, 14, 99, 100, 34, 101, 102, 103, 44, 104, 105, 106, 107, 108, 109, 110, 111, 112, 113, 36, 114, 115, 116, 46, 117, 118, 63, 119, 120, 121, 39, 122, 123, 52, 124, 125, 126, 127, 27, 128, 129, 130, 131, 132, 133, 83, 134, 135, 136, 137, 138, 139, 140, 141, 142, 143, 144, 145, 146, 147, 148, 149, 150, 151, 152, 153, 154, 155, 156, 157, 158, 159, 160, 161, 66, 162, 163, 164, 165, 166, 167, 168, 169, 170, 171, 172, 173, 174, 175, 176, 177, 178, 179, 180, 181, 182, 183, 184, 185, 186, 187, 188, 189, 190, 191, 192, 193, 194, 195, 196, 197, 198, 199, 200, 201, 202, 203, 20, 204, 24, 205, 206, 207, 208, 209, 210, 211, 212, 213, 214, 215, 216, 217, 218, 219, 220, 221, 222, 223, 224, 225, 226, 504, 505, 506, 507, 508, 534, 535, 536, 537, 538, 539, 540, 509, 510, 511, 512, 513, 514, 515, 516, 517, 518, 541, 542, 543, 544, 545, 546, 547, 548, 549, 550, 532, 533, 527, 528, 529, 530, 531, 519, 520, 521, 522, 523, 524, 525, 526] (by decide +kernel) (by decide +kernel)
set_option maxRecDepth 20000 in
theorem gL_law_L_isSo : GoodIn wsL_law (va_wsS RL 97 yL_isSo wsL_isSo) := goodIn_app (goodIn_of _ (by decide +kernel)) ggL_law_L_isSo
set_option maxRecDepth 20000 in
theorem ggL_law_L_cell : GoodIn wsL_law wsL_cell := goodIn_r _ [229, 230] (by decide +kernel) (by decide +kernel)
set_option maxRecDepth 20000 in
theorem gL_law_L_cell : GoodIn wsL_law (va_wsS RL 101 yL_cell wsL_cell) := goodIn_app (goodIn_of _ (by decide +kernel)) ggL_law_L_cell
set_option maxRecDepth 20000 in
theorem ggL_law_L_acts : GoodIn wsL_law wsL_acts := goodIn_r _ [233, 234, 3, 235, 4, 236, 237, 83, 238, 5, 239, 240, 241, 2, 242, 15, 198, 20, 187, 188, 189, 243, 244, 245, 19, 246, 247, 72, 248, 249, 250, 251, 252, 253, 254, 14, 255, 34, 36, 40, 42, 256, 257, 258, 259, 100, 157, 260, 261, 262, 263, 264, 265, 266, 44, 267, 105, 268, 106, 269, 270, 271, 59, 272, 273, 274, 275, 46, 276, 118, 277, 278, 279, 280, 281, 63, 282, 64, 66, 283, 284, 285, 39, 286, 123, 52, 287, 288, 289, 27, 290, 129, 130, 291, 131, 292, 293, 294, 295, 296, 297, 298, 299, 300, 301, 302, 303, 304, 199, 96, 97, 98, 99, 305, 306, 307, 308, 309, 310, 311, 312, 313, 314, 167, 114, 115, 116, 117, 315, 316, 317, 318, 319, 320, 321, 322, 323, 324, 325, 326, 150, 153, 154, 155, 156, 327, 328, 329, 330, 331, 332, 166, 333, 334, 335, 336, 337, 338, 339, 340, 341, 342, 102, 103, 104, 343, 344, 345, 346, 347, 348, 349, 350, 151, 149, 351, 352, 353, 354, 95, 94, 28, 200, 355, 356, 357, 358, 359, 360, 361, 362, 363, 364, 365, 366, 367, 368, 369, 370, 371, 372, 373, 374, 375, 376, 377, 378, 379, 380, 381, 382, 383, 384, 385, 386, 206, 387, 388, 389, 390, 202, 391, 392, 393, 394, 395, 396, 397, 398, 399, 400, 190, 191, 192, 193, 401, 402, 403, 404, 405, 406, 407, 408, 409, 410, 411, 412, 135, 136, 137, 175, 176, 177, 413, 414, 415, 416, 417, 418, 419, 420, 421, 422, 423, 424, 425, 426, 427, 428, 429, 430, 431, 432, 433, 434, 435, 436, 437, 438, 439, 440, 441, 442, 443, 444, 445, 446, 447, 448, 449, 450, 451, 452, 453, 454, 455, 456, 457, 120, 121, 122, 124, 125, 126, 127, 128, 458, 459, 460, 461, 462, 463, 464, 465, 466, 467, 468, 469, 470, 471, 472, 473, 474, 475, 476, 477, 478, 479, 480, 481, 482, 483, 484, 485, 486, 211, 487, 163, 164, 165, 168, 169, 170, 171, 172, 173, 174, 488, 489, 490, 491, 492, 493, 494, 495, 496, 497, 498, 499, 500, 501, 502, 503, 504, 505, 506, 507, 508, 509, 510, 511, 512, 513, 514, 515, 516, 517, 518, 519, 520, 534, 535, 536, 537, 538, 539, 540, 541, 542, 543, 544, 545, 546, 547, 548, 549, 550, 532, 533, 527, 528, 529, 530, 531] (by decide +kernel) (by decide +kernel)
set_option maxRecDepth 20000 in
theorem gL_law_L_acts : GoodIn wsL_law (va_wsS RL 104 yL_acts wsL_acts) := goodIn_app (goodIn_of _ (by decide +kernel)) ggL_law_L_acts
set_option maxRecDepth 20000 in
theorem ggL_law_L_low : GoodIn wsL_law wsL_low := goodIn_r _ [238, 5] (by decide +kernel) (by decide +kernel)
set_option maxRecDepth 20000 in
theorem gL_law_L_low : GoodIn wsL_law (va_wsS RL 26 yL_low wsL_low) := goodIn_app (goodIn_of _ (by decide +kernel)) ggL_law_L_low
set_option maxRecDepth 20000 in
theorem ggL_law_X7_count : GoodIn wsL_law wsX7_count := goodIn_r _ [197, 15, 198, 199, 94, 200, 95, 201, 202, 203, 20, 204, 24, 205, 206, 207, 208, 209, 14, 210, 34, 211, 212, 213, 214, 215, 36, 216, 159, 160, 46, 161, 66, 217, 218, 219, 220, 221, 222, 223, 224, 225, 226, 504, 505, 506, 507, 508, 509, 510, 511, 512, 513, 514, 515, 516, 517, 518, 532, 533, 519, 520, 521, 522, 523, 524, 525, 526, 534, 535, 536, 537, 538, 539, 540, 541, 542, 543, 544, 545, 546, 547, 548, 549, 550] (by decide +kernel) (by decide +kernel)
set_option maxRecDepth 20000 in
theorem gL_law_X7_count : GoodIn wsL_law (wsV RL 93 RX7 yX7_count wsX7_count) := goodIn_app (goodIn_of _ (by decide +kernel)) ggL_law_X7_count
set_option maxRecDepth 20000 in
theorem ggL_law_X7_plan : GoodIn wsL_law wsX7_plan := goodIn_r _ [181, 15, 94, 182, 183, 184, 185, 186, 187, 188, 2, 189, 190, 191, 192, 39, 193, 123, 52, 504, 505, 506, 507, 508, 509, 510, 511, 512, 513, 514, 515, 516, 517, 518, 527, 528, 529, 530, 531, 532, 533] (by decide +kernel) (by decide +kernel)
set_option maxRecDepth 20000 in
theorem gL_law_X7_plan : GoodIn wsL_law (wsV RL 90 RX7 yX7_plan wsX7_plan) := goodIn_app (goodIn_of _ (by decide +kernel)) ggL_law_X7_plan
