/-! THE LAW: words of its calls -/
set_option maxRecDepth 20000 in
theorem ggL_law_X7_flood : GoodIn wsL_law wsX7_flood := goodIn_r _ [722, 137, 267, 268, 5, 269, 323, 324, 325, 270, 271, 272, 273, 274, 275, 155, 156, 157, 276, 277, 278, 279, 280, 281, 282, 190, 191, 192, 283, 284, 285, 286, 287, 288, 193, 194, 195, 196, 197, 672, 673, 674, 675, 539, 139, 540, 541, 542, 326, 327, 328, 298, 299, 300, 158, 159, 160, 301, 302, 303, 919, 920, 921, 922, 923, 924, 925, 926, 927, 928, 929, 930, 931] (by decide +kernel) (by decide +kernel)
set_option maxRecDepth 20000 in
theorem gL_law_X7_flood : GoodIn wsL_law (wsV RL 138 RX7 yX7_flood wsX7_flood) := goodIn_app (goodIn_of _ (by decide +kernel)) ggL_law_X7_flood
set_option maxRecDepth 20000 in
theorem ggL_law_L_set : GoodIn wsL_law wsL_set := goodIn_ca (goodIn_r _ [725, 165, 726, 727, 728, 2, 729, 171, 172, 30, 21, 730, 524, 525, 644, 645, 646, 29, 647, 648, 370, 649, 650, 651, 652, 653, 654, 655, 656, 81, 657, 658, 659, 20, 660, 47, 48, 50, 91, 92, 93, 102, 103, 104, 105, 94, 95, 661, 662, 663, 46, 664, 54, 55, 57, 125, 126, 127, 665, 431, 666, 667, 731, 527, 528, 529, 530, 531, 532, 533, 912, 913, 914, 915, 916, 917, 918, 952, 953, 954, 934, 935, 936, 937, 938, 939, 940, 941, 942, 943, 944, 945, 957, 958, 959, 960, 961, 962, 963, 964] (by decide +kernel) (by decide +kernel)) (goodIn_sub (fun _ h => List.mem_append_left _ (List.mem_append_left _ (List.mem_append_right _ h))) (by decide +kernel))
set_option maxRecDepth 20000 in
theorem gL_law_L_set : GoodIn wsL_law (va_wsS RL 139 yL_set wsL_set) := goodIn_app (goodIn_of _ (by decide +kernel)) ggL_law_L_set
set_option maxRecDepth 20000 in
theorem ggL_law_X7_set : GoodIn wsL_law wsX7_set := goodIn_r _ [735, 137, 350, 351, 5, 352, 353, 258, 190, 191, 192, 193, 194, 195, 196, 197, 672, 673, 674, 675, 539, 139, 540, 541, 542, 354, 355, 356, 919, 920, 921, 922, 923, 924, 925, 926, 927, 928, 929, 930, 931] (by decide +kernel) (by decide +kernel)
set_option maxRecDepth 20000 in
theorem gL_law_X7_set : GoodIn wsL_law (wsV RL 141 RX7 yX7_set wsX7_set) := goodIn_app (goodIn_of _ (by decide +kernel)) ggL_law_X7_set
set_option maxRecDepth 20000 in
theorem ggL_law_L_undo : GoodIn wsL_law wsL_undo := goodIn_ca (goodIn_r _ [738, 166, 739, 740, 741, 2, 742, 173, 174, 30, 743, 21, 744, 745, 746, 29, 747, 648, 370, 653, 654, 655, 656, 81, 657, 658, 659, 20, 660, 47, 48, 50, 91, 92, 93, 102, 103, 104, 105, 94, 95, 661, 662, 663, 46, 664, 54, 55, 57, 125, 126, 127, 665, 431, 666, 667, 912, 913, 914, 915, 916, 917, 918, 952, 953, 954, 934, 935, 936, 937, 938, 939, 940, 941, 942, 943, 944, 945, 957, 958, 959, 960, 961, 962, 963, 964] (by decide +kernel) (by decide +kernel)) (goodIn_sub (fun _ h => List.mem_append_left _ (List.mem_append_right _ h)) (by decide +kernel))
set_option maxRecDepth 20000 in
theorem gL_law_L_undo : GoodIn wsL_law (va_wsS RL 142 yL_undo wsL_undo) := goodIn_app (goodIn_of _ (by decide +kernel)) ggL_law_L_undo
set_option maxRecDepth 20000 in
theorem ggL_law_X7_undo : GoodIn wsL_law wsX7_undo := goodIn_r _ [751, 539, 139, 137, 193, 194, 195, 5, 196, 197, 540, 541, 542, 919, 920, 921, 922, 923, 924, 925, 926, 927, 928, 929, 930, 931] (by decide +kernel) (by decide +kernel)
set_option maxRecDepth 20000 in
theorem gL_law_X7_undo : GoodIn wsL_law (wsV RL 144 RX7 yX7_undo wsX7_undo) := goodIn_app (goodIn_of _ (by decide +kernel)) ggL_law_X7_undo
set_option maxRecDepth 20000 in
theorem ggL_law_L_why : GoodIn wsL_law wsL_why := goodIn_ca (goodIn_r _ [754, 165, 755, 756, 757, 2, 758, 171, 172, 21, 683, 684, 685, 558, 386, 387, 20, 388, 389, 390, 391, 392, 104, 102, 759, 394, 395, 396, 103, 397, 398, 399, 400, 47, 48, 401, 402, 403, 46, 404, 125, 55, 68, 69, 70, 71, 72, 73, 74, 75, 405, 406, 407, 408, 50, 409, 410, 411, 412, 57, 912, 913, 914, 915, 916, 917, 918, 934, 935, 936, 937, 938, 939, 940, 941, 942, 943, 944, 945, 957, 958, 959, 960, 961, 962, 963, 964] (by decide +kernel) (by decide +kernel)) (goodIn_sub (fun _ h => List.mem_append_left _ (List.mem_append_left _ (List.mem_append_right _ h))) (by decide +kernel))
set_option maxRecDepth 20000 in
theorem gL_law_L_why : GoodIn wsL_law (va_wsS RL 145 yL_why wsL_why) := goodIn_app (goodIn_of _ (by decide +kernel)) ggL_law_L_why
set_option maxRecDepth 20000 in
theorem ggL_law_X7_why : GoodIn wsL_law wsX7_why := goodIn_r _ [763, 694, 137, 190, 191, 5, 192, 193, 194, 195, 196, 197, 267, 268, 269, 270, 271, 272, 273, 274, 275, 155, 156, 157, 276, 277, 278, 279, 280, 281, 282, 283, 284, 285, 286, 287, 288, 919, 920, 921, 922, 923, 924, 925, 926, 927, 928, 929, 930, 931] (by decide +kernel) (by decide +kernel)
set_option maxRecDepth 20000 in
theorem gL_law_X7_why : GoodIn wsL_law (wsV RL 147 RX7 yX7_why wsX7_why) := goodIn_app (goodIn_of _ (by decide +kernel)) ggL_law_X7_why
set_option maxRecDepth 20000 in
theorem ggL_law_L_whyDam : GoodIn wsL_law wsL_whyDam := goodIn_ca (goodIn_r _ [766, 571, 767, 768, 769, 2, 770, 576, 577, 21, 26, 73, 74, 75, 558, 386, 387, 20, 388, 389, 390, 391, 392, 104, 102, 771, 442, 443, 444, 103, 445, 446, 447, 448, 449, 47, 48, 405, 406, 407, 408, 50, 71, 72, 409, 410, 411, 46, 412, 57, 397, 398, 399, 400, 450, 451, 452, 25, 453, 63, 64, 454, 455, 456, 457, 458, 459, 460, 461, 402, 403, 404, 125, 55, 462, 463, 464, 465, 66, 62, 466, 467, 468, 469, 67, 470, 912, 913, 914, 915, 916, 917, 918, 934, 935, 936, 937, 938, 939, 940, 941, 942, 943, 944, 945, 957, 958, 959, 960, 961, 962, 963, 964, 946, 947, 948, 949, 950, 951] (by decide +kernel) (by decide +kernel)) (goodIn_sub (fun _ h => List.mem_append_right _ h) (by decide +kernel))
set_option maxRecDepth 20000 in
theorem gL_law_L_whyDam : GoodIn wsL_law (va_wsS RL 148 yL_whyDam wsL_whyDam) := goodIn_app (goodIn_of _ (by decide +kernel)) ggL_law_L_whyDam
set_option maxRecDepth 20000 in
theorem ggL_law_X7_whyDam : GoodIn wsL_law wsX7_whyDam := goodIn_r _ [775, 137, 279, 280, 5, 281, 282, 190, 191, 192, 193, 194, 195, 196, 197, 267, 268, 269, 308, 309, 310, 311, 312, 313, 314, 283, 284, 285, 155, 156, 157, 315, 316, 317, 318, 142, 273, 274, 275, 276, 277, 278, 286, 287, 288, 919, 920, 921, 922, 923, 924, 925, 926, 927, 928, 929, 930, 931] (by decide +kernel) (by decide +kernel)
set_option maxRecDepth 20000 in
theorem gL_law_X7_whyDam : GoodIn wsL_law (wsV RL 150 RX7 yX7_whyDam wsX7_whyDam) := goodIn_app (goodIn_of _ (by decide +kernel)) ggL_law_X7_whyDam
set_option maxRecDepth 20000 in
theorem ggL_law_L_cheapest : GoodIn wsL_law wsL_cheapest := goodIn_ca (goodIn_ca (goodIn_r _ [778, 571, 165, 779, 780, 781, 2, 782, 576, 577, 171, 172, 21, 26, 783, 583, 584, 585, 586, 398, 399, 20, 400, 47, 48, 784, 494, 495, 25, 496, 63, 459, 497, 460, 498, 587, 402, 403, 46, 404, 125, 55, 785, 509, 510, 511, 64, 67, 466, 467, 468, 469, 512, 513, 514, 515, 491, 71, 72, 516, 517, 518, 519, 62, 786, 787, 788, 789, 912, 913, 914, 915, 916, 917, 918, 957, 958, 959, 960, 961, 962, 963, 964, 934, 935, 936, 937, 938, 939, 940, 941, 942, 943, 944, 945, 946, 947, 948, 949, 950, 951] (by decide +kernel) (by decide +kernel)) (goodIn_sub (fun _ h => List.mem_append_right _ h) (by decide +kernel))) (goodIn_sub (fun _ h => List.mem_append_left _ (List.mem_append_left _ (List.mem_append_right _ h))) (by decide +kernel))
set_option maxRecDepth 20000 in
theorem gL_law_L_cheapest : GoodIn wsL_law (va_wsS RL 151 yL_cheapest wsL_cheapest) := goodIn_app (goodIn_of _ (by decide +kernel)) ggL_law_L_cheapest
set_option maxRecDepth 20000 in
theorem ggL_law_X7_cheapest : GoodIn wsL_law wsX7_cheapest := goodIn_r _ [793, 137, 341, 190, 191, 5, 192, 193, 194, 195, 196, 197, 273, 274, 275, 155, 156, 157, 342, 343, 344, 345, 142, 346, 347, 348, 349, 276, 277, 278, 279, 280, 281, 282, 312, 313, 314, 283, 284, 285, 295, 296, 297, 919, 920, 921, 922, 923, 924, 925, 926, 927, 928, 929, 930, 931] (by decide +kernel) (by decide +kernel)
set_option maxRecDepth 20000 in
theorem gL_law_X7_cheapest : GoodIn wsL_law (wsV RL 153 RX7 yX7_cheapest wsX7_cheapest) := goodIn_app (goodIn_of _ (by decide +kernel)) ggL_law_X7_cheapest
set_option maxRecDepth 20000 in
theorem ggL_law_L_meetsIn : GoodIn wsL_law wsL_meetsIn := goodIn_ca (goodIn_r _ [796, 571, 797, 798, 799, 2, 800, 576, 577, 21, 553, 26, 583, 584, 585, 801, 802, 803, 25, 804, 64, 454, 398, 399, 20, 400, 47, 48, 455, 456, 457, 458, 63, 459, 460, 461, 402, 403, 46, 404, 125, 55, 462, 463, 464, 465, 66, 62, 466, 467, 468, 469, 67, 71, 72, 470, 410, 411, 412, 57, 912, 913, 914, 915, 916, 917, 918, 934, 935, 936, 937, 938, 939, 940, 941, 942, 943, 944, 945, 946, 947, 948, 949, 950, 951, 957, 958, 959, 960, 961, 962, 963, 964] (by decide +kernel) (by decide +kernel)) (goodIn_sub (fun _ h => List.mem_append_right _ h) (by decide +kernel))
set_option maxRecDepth 20000 in
theorem gL_law_L_meetsIn : GoodIn wsL_law (va_wsS RL 154 yL_meetsIn wsL_meetsIn) := goodIn_app (goodIn_of _ (by decide +kernel)) ggL_law_L_meetsIn
set_option maxRecDepth 20000 in
theorem ggL_law_X7_meetsIn : GoodIn wsL_law wsX7_meetsIn := goodIn_r _ [808, 137, 142, 341, 190, 191, 5, 192, 193, 194, 195, 196, 197, 273, 274, 275, 155, 156, 157, 276, 277, 278, 279, 280, 281, 282, 283, 284, 285, 286, 287, 288, 919, 920, 921, 922, 923, 924, 925, 926, 927, 928, 929, 930, 931] (by decide +kernel) (by decide +kernel)
set_option maxRecDepth 20000 in
theorem gL_law_X7_meetsIn : GoodIn wsL_law (wsV RL 156 RX7 yX7_meetsIn wsX7_meetsIn) := goodIn_app (goodIn_of _ (by decide +kernel)) ggL_law_X7_meetsIn
set_option maxRecDepth 20000 in
theorem ggL_law_X6_leastWished : GoodIn wsL_law wsX6_leastWished := goodIn_r _ [812, 26, 21, 813, 814, 815, 25, 816, 497, 64, 65, 498, 63, 493, 494, 495, 496, 459, 460, 461, 402, 403, 46, 404, 125, 55, 462, 463, 464, 465, 66, 62, 466, 467, 468, 469, 67, 71, 2, 72, 666, 667, 507, 424, 425, 426, 54, 912, 913, 914, 915, 916, 917, 918, 934, 935, 936, 937, 938, 939, 940, 941, 942, 943, 944, 945, 946, 947, 948, 949, 950, 951, 957, 958, 959, 960, 961, 962, 963, 964] (by decide +kernel) (by decide +kernel)
set_option maxRecDepth 20000 in
theorem gL_law_X6_leastWished : GoodIn wsL_law (wsV RL 157 RX6 yX6_leastWished wsX6_leastWished) := goodIn_app (goodIn_of _ (by decide +kernel)) ggL_law_X6_leastWished
