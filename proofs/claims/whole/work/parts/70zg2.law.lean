/-! THE LAW: names -/
set_option maxRecDepth 20000 in
theorem ggL_law_X7_rise : GoodIn wsL_law wsX7_rise := goodIn_r _ [729, 15, 16, 186, 187, 188, 14, 189, 119, 34, 664, 665, 666, 2, 667, 321, 668, 112, 113, 114, 36, 40, 43, 115, 116, 117, 118, 120, 121, 122, 123, 124, 125, 126, 127, 45, 128, 129, 130, 131, 132, 133, 134, 60, 135, 136, 137, 138, 47, 139, 140, 141, 142, 143, 144, 145, 64, 146, 65, 67, 147, 148, 149, 39, 150, 151, 53, 152, 153, 154, 27, 155, 156, 157, 158, 159, 160, 669, 670, 671, 672, 673, 508, 501, 502, 503, 591, 505, 506, 507, 678, 679, 680, 681, 409, 200, 533, 534, 535, 536, 537, 538, 539, 540, 541, 542, 543, 544, 545, 546, 547, 548, 549, 550, 551, 552, 553, 554, 555, 556, 557, 241, 242, 243, 558, 265, 266, 267, 559, 560, 561, 562, 255, 250, 563, 564, 565, 566, 567, 568, 253, 569, 570, 571, 572, 573, 332, 333, 334, 335, 336, 337, 338, 339, 574, 575, 576, 577, 578, 579, 580, 581, 582, 583, 584, 585, 586, 587, 588, 589, 590, 592, 593, 594, 595, 596, 597, 598, 599, 600, 601, 602, 603, 374, 375, 376, 377, 378, 379, 380, 381, 382, 383, 604, 605, 606, 607, 608, 609, 610, 611, 612, 613, 614, 615, 616, 617, 618, 619, 892, 893, 894, 895, 896, 910, 911, 912, 913, 914, 915, 916, 917, 918, 919, 935, 936, 937, 938, 939, 940, 941, 942, 943, 944, 945, 946, 947, 948, 949, 950, 951, 933, 934, 928, 929, 930, 931, 932] (by decide +kernel) (by decide +kernel)
set_option maxRecDepth 20000 in
theorem gL_law_X7_rise : GoodIn wsL_law (wsV RL 95 RX7 yX7_rise wsX7_rise) := goodIn_app (goodIn_of _ (by decide +kernel)) ggL_law_X7_rise
set_option maxRecDepth 20000 in
theorem ggL_law_X8_rise : GoodIn wsL_law wsX8_rise := goodIn_r _ [733, 87, 217, 218, 219, 5, 220, 86, 690, 691, 692, 693, 357, 358, 359, 513, 514, 515, 232, 233, 234, 624, 625, 626, 627, 90, 628, 629, 630, 631, 632, 633, 351, 352, 353, 354, 355, 356, 173, 174, 175, 634, 635, 636, 637, 638, 639, 640, 641, 642, 643, 644, 391, 392, 393, 394, 229, 230, 231, 645, 646, 647, 897, 898, 899, 900, 901, 902, 903, 904, 905, 906, 907, 908, 909] (by decide +kernel) (by decide +kernel)
set_option maxRecDepth 20000 in
theorem gL_law_X8_rise : GoodIn wsL_law (wsV RL 98 RX8 yX8_rise wsX8_rise) := goodIn_app (goodIn_of _ (by decide +kernel)) ggL_law_X8_rise
set_option maxRecDepth 20000 in
theorem ggL_law_X7_peak : GoodIn wsL_law wsX7_peak := goodIn_r _ [737, 15, 16, 186, 187, 188, 14, 189, 119, 34, 99, 100, 2, 101, 668, 112, 113, 114, 36, 40, 43, 115, 116, 117, 118, 120, 121, 122, 123, 124, 125, 126, 127, 45, 128, 129, 130, 131, 132, 133, 134, 60, 135, 136, 137, 138, 47, 139, 140, 141, 142, 143, 144, 145, 64, 146, 65, 67, 147, 148, 149, 39, 150, 151, 53, 152, 153, 154, 27, 155, 156, 157, 158, 159, 160, 678, 679, 680, 681, 409, 200, 533, 534, 535, 536, 537, 538, 539, 540, 541, 542, 543, 544, 545, 546, 547, 548, 549, 550, 551, 552, 501, 502, 503, 553, 554, 555, 556, 557, 241, 242, 243, 558, 265, 266, 267, 559, 560, 561, 562, 255, 250, 563, 564, 565, 566, 567, 568, 253, 569, 570, 571, 572, 573, 332, 333, 334, 335, 336, 337, 338, 339, 574, 575, 576, 577, 578, 579, 580, 581, 582, 583, 584, 585, 586, 508, 587, 588, 589, 590, 591, 505, 506, 507, 592, 593, 594, 595, 596, 597, 598, 599, 600, 601, 602, 603, 374, 375, 376, 377, 378, 379, 380, 381, 382, 383, 604, 605, 606, 607, 608, 609, 610, 611, 612, 613, 614, 615, 616, 617, 618, 619, 892, 893, 894, 895, 896, 910, 911, 912, 913, 914, 915, 916, 917, 918, 919, 935, 936, 937, 938, 939, 940, 941, 942, 943, 944, 945, 946, 947, 948, 949, 950, 951, 933, 934, 928, 929, 930, 931, 932] (by decide +kernel) (by decide +kernel)
set_option maxRecDepth 20000 in
theorem gL_law_X7_peak : GoodIn wsL_law (wsV RL 99 RX7 yX7_peak wsX7_peak) := goodIn_app (goodIn_of _ (by decide +kernel)) ggL_law_X7_peak
set_option maxRecDepth 20000 in
theorem ggL_law_X8_peak : GoodIn wsL_law wsX8_peak := goodIn_r _ [741, 87, 217, 218, 219, 5, 220, 86, 173, 174, 175, 690, 691, 692, 693, 357, 358, 359, 513, 514, 515, 232, 233, 234, 624, 625, 626, 627, 90, 628, 629, 630, 631, 632, 633, 351, 352, 353, 354, 355, 356, 634, 635, 636, 637, 638, 639, 640, 641, 642, 643, 644, 391, 392, 393, 394, 229, 230, 231, 645, 646, 647, 897, 898, 899, 900, 901, 902, 903, 904, 905, 906, 907, 908, 909] (by decide +kernel) (by decide +kernel)
set_option maxRecDepth 20000 in
theorem gL_law_X8_peak : GoodIn wsL_law (wsV RL 102 RX8 yX8_peak wsX8_peak) := goodIn_app (goodIn_of _ (by decide +kernel)) ggL_law_X8_peak
set_option maxRecDepth 20000 in
theorem ggL_law_X7_quiet : GoodIn wsL_law wsX7_quiet := goodIn_r _ [745, 16, 15, 668, 112, 113, 14, 114, 34, 36, 40, 43, 115, 116, 117, 118, 119, 120, 121, 122, 123, 124, 125, 126, 127, 45, 128, 129, 130, 131, 132, 133, 134, 60, 135, 136, 137, 138, 47, 139, 140, 141, 142, 143, 144, 145, 64, 146, 65, 67, 147, 148, 149, 39, 150, 151, 53, 152, 153, 154, 27, 155, 156, 157, 158, 159, 160, 746, 747, 748, 749, 750, 406, 407, 408, 409, 751, 411, 412, 413, 414, 370, 371, 372, 752, 753, 754, 755, 673, 533, 534, 535, 536, 537, 538, 539, 540, 541, 542, 543, 544, 545, 546, 547, 548, 549, 550, 551, 552, 501, 502, 503, 553, 554, 555, 556, 557, 241, 242, 243, 558, 265, 266, 267, 559, 560, 561, 562, 255, 250, 563, 564, 565, 566, 567, 568, 253, 569, 570, 571, 572, 573, 332, 333, 334, 335, 336, 337, 338, 339, 574, 575, 576, 577, 578, 200, 187, 188, 189, 579, 580, 581, 582, 583, 584, 585, 586, 508, 587, 588, 589, 590, 591, 505, 506, 507, 592, 593, 594, 595, 596, 597, 598, 599, 600, 601, 602, 603, 374, 375, 376, 377, 378, 379, 380, 381, 382, 383, 604, 605, 606, 607, 608, 609, 610, 611, 612, 613, 614, 615, 616, 617, 618, 619, 892, 893, 894, 895, 896, 910, 911, 912, 913, 914, 915, 916, 917, 918, 919, 935, 936, 937, 938, 939, 940, 941, 942, 943, 944, 945, 946, 947, 948, 949, 950, 951, 933, 934, 928, 929, 930, 931, 932] (by decide +kernel) (by decide +kernel)
set_option maxRecDepth 20000 in
theorem gL_law_X7_quiet : GoodIn wsL_law (wsV RL 103 RX7 yX7_quiet wsX7_quiet) := goodIn_app (goodIn_of _ (by decide +kernel)) ggL_law_X7_quiet
set_option maxRecDepth 20000 in
theorem ggL_law_X8_quiet : GoodIn wsL_law wsX8_quiet := goodIn_r _ [759, 87, 690, 691, 692, 5, 693, 86, 357, 358, 359, 513, 514, 515, 430, 431, 432, 232, 233, 234, 433, 434, 435, 388, 389, 390, 760, 761, 762, 624, 625, 626, 627, 90, 628, 629, 630, 631, 632, 633, 351, 352, 353, 354, 355, 356, 173, 174, 175, 634, 635, 636, 637, 638, 639, 640, 641, 642, 643, 644, 391, 392, 393, 394, 229, 230, 231, 645, 646, 647, 897, 898, 899, 900, 901, 902, 903, 904, 905, 906, 907, 908, 909] (by decide +kernel) (by decide +kernel)
set_option maxRecDepth 20000 in
theorem gL_law_X8_quiet : GoodIn wsL_law (wsV RL 106 RX8 yX8_quiet wsX8_quiet) := goodIn_app (goodIn_of _ (by decide +kernel)) ggL_law_X8_quiet
set_option maxRecDepth 20000 in
theorem ggL_law_X7_fell : GoodIn wsL_law wsX7_fell := goodIn_r _ [766, 15, 322, 767, 318, 186, 187, 188, 14, 189, 119, 34, 99, 100, 2, 101, 768, 769, 770, 45, 771, 60, 541, 542, 543, 544, 324, 325, 326, 892, 893, 894, 895, 896, 910, 911, 912, 913, 914, 915, 916, 917, 918, 919, 935, 936, 937, 938, 939, 940, 941] (by decide +kernel) (by decide +kernel)
set_option maxRecDepth 20000 in
theorem gL_law_X7_fell : GoodIn wsL_law (wsV RL 107 RX7 yX7_fell wsX7_fell) := goodIn_app (goodIn_of _ (by decide +kernel)) ggL_law_X7_fell
set_option maxRecDepth 20000 in
theorem ggL_law_X8_fell : GoodIn wsL_law wsX8_fell := goodIn_r _ [775, 86, 217, 218, 219, 5, 220, 173, 174, 175, 232, 233, 234, 344, 345, 346, 897, 898, 899, 900, 901, 902, 903, 904, 905, 906, 907, 908, 909] (by decide +kernel) (by decide +kernel)
set_option maxRecDepth 20000 in
theorem gL_law_X8_fell : GoodIn wsL_law (wsV RL 110 RX8 yX8_fell wsX8_fell) := goodIn_app (goodIn_of _ (by decide +kernel)) ggL_law_X8_fell
set_option maxRecDepth 20000 in
theorem ggL_law_X7_type : GoodIn wsL_law wsX7_type := goodIn_r _ [779, 24, 404, 99, 100, 2, 101, 780, 781, 782, 23, 783, 784, 79, 892, 893, 894, 895, 896, 922, 923, 924, 925, 926, 927] (by decide +kernel) (by decide +kernel)
set_option maxRecDepth 20000 in
theorem gL_law_X7_type : GoodIn wsL_law (wsV RL 111 RX7 yX7_type wsX7_type) := goodIn_app (goodIn_of _ (by decide +kernel)) ggL_law_X7_type
set_option maxRecDepth 20000 in
theorem ggL_law_X8_type : GoodIn wsL_law wsX8_type := goodIn_r _ [788, 429, 89, 173, 174, 5, 175, 897, 898, 899, 900, 901, 902, 903, 904, 905, 906, 907, 908, 909] (by decide +kernel) (by decide +kernel)
set_option maxRecDepth 20000 in
theorem gL_law_X8_type : GoodIn wsL_law (wsV RL 114 RX8 yX8_type wsX8_type) := goodIn_app (goodIn_of _ (by decide +kernel)) ggL_law_X8_type
set_option maxRecDepth 20000 in
theorem ggL_law_X7_clearText : GoodIn wsL_law wsX7_clearText := goodIn_r _ [792, 24, 404, 892, 893, 894, 895, 896, 922, 923, 924, 925, 926, 927] (by decide +kernel) (by decide +kernel)
set_option maxRecDepth 20000 in
theorem gL_law_X7_clearText : GoodIn wsL_law (wsV RL 115 RX7 yX7_clearText wsX7_clearText) := goodIn_app (goodIn_of _ (by decide +kernel)) ggL_law_X7_clearText
set_option maxRecDepth 20000 in
theorem ggL_law_X8_clearText : GoodIn wsL_law wsX8_clearText := goodIn_r _ [796, 429, 897, 898, 899, 900, 901, 902, 903, 904, 905, 906, 907, 908, 909] (by decide +kernel) (by decide +kernel)
set_option maxRecDepth 20000 in
theorem gL_law_X8_clearText : GoodIn wsL_law (wsV RL 118 RX8 yX8_clearText wsX8_clearText) := goodIn_app (goodIn_of _ (by decide +kernel)) ggL_law_X8_clearText
set_option maxRecDepth 20000 in
theorem ggL_law_X7_fault : GoodIn wsL_law wsX7_fault := goodIn_r _ [800, 24, 15, 801, 802, 99, 100, 2, 101, 803, 804, 805, 23, 806, 807, 808, 784, 809, 81, 810, 811, 812, 813, 814, 815, 816, 817, 79, 818, 819, 820, 821, 822, 823, 824, 825, 826, 571, 253, 572, 827, 454, 455, 27, 456, 156, 158, 157, 159, 160, 828, 829, 830, 831, 832, 489, 490, 491, 833, 834, 835, 836, 837, 838, 839, 840, 841, 842, 843, 844, 845, 846, 847, 848, 187, 188, 14, 189, 119, 34, 849, 241, 242, 243, 120, 36, 850, 462, 463, 464, 892, 893, 894, 895, 896, 922, 923, 924, 925, 926, 927, 928, 929, 930, 931, 932, 910, 911, 912, 913, 914, 915, 916, 917, 918, 919, 933, 934] (by decide +kernel) (by decide +kernel)
set_option maxRecDepth 20000 in
theorem gL_law_X7_fault : GoodIn wsL_law (wsV RL 119 RX7 yX7_fault wsX7_fault) := goodIn_app (goodIn_of _ (by decide +kernel)) ggL_law_X7_fault
set_option maxRecDepth 20000 in
theorem ggL_law_X8_fault : GoodIn wsL_law wsX8_fault := goodIn_r _ [854, 855, 173, 174, 5, 175, 856, 857, 858, 859, 860, 861, 429, 862, 92, 863, 864, 865, 866, 93, 86, 479, 867, 868, 869, 870, 871, 872, 873, 874, 89, 875, 876, 877, 878, 217, 218, 219, 220, 272, 273, 274, 275, 897, 898, 899, 900, 901, 902, 903, 904, 905, 906, 907, 908, 909] (by decide +kernel) (by decide +kernel)
set_option maxRecDepth 20000 in
theorem gL_law_X8_fault : GoodIn wsL_law (wsV RL 122 RX8 yX8_fault wsX8_fault) := goodIn_app (goodIn_of _ (by decide +kernel)) ggL_law_X8_fault
set_option maxRecDepth 20000 in
theorem ggL_law_X7_load : GoodIn wsL_law wsX7_load := goodIn_r _ [882, 24, 15, 801, 20, 803, 804, 805, 23, 806, 807, 808, 784, 809, 81, 810, 811, 812, 813, 814, 815, 816, 817, 79, 818, 819, 820, 821, 822, 823, 824, 825, 826, 571, 253, 572, 827, 454, 455, 27, 456, 156, 158, 157, 159, 160, 828, 829, 830, 831, 832, 489, 490, 491, 833, 834, 835, 836, 837, 838, 839, 840, 841, 842, 843, 844, 845, 846, 847, 848, 187, 188, 14, 189, 119, 34, 849, 241, 242, 243, 120, 36, 100, 2, 101, 850, 462, 463, 464, 102, 103, 104, 19, 105, 106, 73, 107, 108, 109, 110, 111, 112, 113, 114, 40, 43, 115, 116, 117, 118, 121, 122, 123, 124, 125, 126, 127, 45, 128, 129, 130, 131, 132, 133, 134, 60, 135, 136, 137, 138, 47, 139, 140, 141, 142, 143, 144, 145, 64, 146, 65, 67, 147, 148, 149, 39, 150, 151, 53, 152, 153, 154, 155, 883, 884, 885, 886, 887, 466, 467, 468, 469, 470, 471, 472, 473, 474, 892, 893, 894, 895, 896, 922, 923, 924, 925, 926, 927, 928, 929, 930, 931, 932, 910, 911, 912, 913, 914, 915, 916, 917, 918, 919, 933, 934, 920, 921, 935, 936, 937, 938, 939, 940, 941, 942, 943, 944, 945, 946, 947, 948, 949, 950, 951] (by decide +kernel) (by decide +kernel)
set_option maxRecDepth 20000 in
theorem gL_law_X7_load : GoodIn wsL_law (wsV RL 123 RX7 yX7_load wsX7_load) := goodIn_app (goodIn_of _ (by decide +kernel)) ggL_law_X7_load
set_option maxRecDepth 20000 in
theorem ggL_law_X8_load : GoodIn wsL_law wsX8_load := goodIn_r _ [891, 860, 429, 92, 862, 861, 856, 857, 858, 5, 859, 855, 863, 864, 865, 866, 93, 86, 479, 867, 868, 869, 870, 871, 872, 873, 874, 89, 875, 876, 877, 878, 173, 174, 175, 217, 218, 219, 220, 272, 273, 274, 275, 176, 177, 178, 179, 180, 88, 480, 481, 482, 483, 357, 358, 359, 897, 898, 899, 900, 901, 902, 903, 904, 905, 906, 907, 908, 909] (by decide +kernel) (by decide +kernel)
set_option maxRecDepth 20000 in
theorem gL_law_X8_load : GoodIn wsL_law (wsV RL 126 RX8 yX8_load wsX8_load) := goodIn_app (goodIn_of _ (by decide +kernel)) ggL_law_X8_load
