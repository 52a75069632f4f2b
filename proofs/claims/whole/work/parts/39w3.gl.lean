/-! THE LAW: words of its calls -/
set_option maxRecDepth 20000 in
theorem ggL_law_X7_playerOf : GoodIn wsL_law wsX7_playerOf := goodIn_r _ [591, 592, 137, 190, 191, 5, 192, 193, 194, 195, 196, 197, 155, 156, 157, 273, 274, 275, 919, 920, 921, 922, 923, 924, 925, 926, 927, 928, 929, 930, 931] (by decide +kernel) (by decide +kernel)
set_option maxRecDepth 20000 in
theorem gL_law_X7_playerOf : GoodIn wsL_law (wsV RL 112 RX7 yX7_playerOf wsX7_playerOf) := goodIn_app (goodIn_of _ (by decide +kernel)) ggL_law_X7_playerOf
set_option maxRecDepth 20000 in
theorem ggL_law_L_cellOf : GoodIn wsL_law wsL_cellOf := goodIn_ca (goodIn_ca (goodIn_r _ [595, 571, 165, 596, 597, 598, 2, 599, 576, 577, 171, 172, 21, 600, 601, 73, 74, 75, 602, 424, 425, 46, 426, 54, 603, 447, 448, 20, 449, 47, 48, 405, 406, 407, 408, 50, 71, 72, 409, 410, 411, 412, 57, 604, 605, 606, 607, 912, 913, 914, 915, 916, 917, 918, 934, 935, 936, 937, 938, 939, 940, 941, 942, 943, 944, 945, 957, 958, 959, 960, 961, 962, 963, 964] (by decide +kernel) (by decide +kernel)) (goodIn_sub (fun _ h => List.mem_append_right _ h) (by decide +kernel))) (goodIn_sub (fun _ h => List.mem_append_left _ (List.mem_append_left _ (List.mem_append_right _ h))) (by decide +kernel))
set_option maxRecDepth 20000 in
theorem gL_law_L_cellOf : GoodIn wsL_law (va_wsS RL 113 yL_cellOf wsL_cellOf) := goodIn_app (goodIn_of _ (by decide +kernel)) ggL_law_L_cellOf
set_option maxRecDepth 20000 in
theorem ggL_law_X7_cellOf : GoodIn wsL_law wsX7_cellOf := goodIn_r _ [611, 612, 137, 279, 280, 5, 281, 282, 190, 191, 192, 193, 194, 195, 196, 197, 295, 296, 297, 283, 284, 285, 919, 920, 921, 922, 923, 924, 925, 926, 927, 928, 929, 930, 931] (by decide +kernel) (by decide +kernel)
set_option maxRecDepth 20000 in
theorem gL_law_X7_cellOf : GoodIn wsL_law (wsV RL 116 RX7 yX7_cellOf wsX7_cellOf) := goodIn_app (goodIn_of _ (by decide +kernel)) ggL_law_X7_cellOf
set_option maxRecDepth 20000 in
theorem ggL_law_L_course : GoodIn wsL_law wsL_course := goodIn_ca (goodIn_r _ [615, 571, 616, 617, 618, 2, 619, 576, 577, 21, 583, 584, 585, 586, 398, 399, 20, 400, 47, 48, 620, 621, 622, 46, 623, 125, 55, 71, 72, 912, 913, 914, 915, 916, 917, 918, 934, 935, 936, 937, 938, 939, 940, 941, 942, 943, 944, 945, 957, 958, 959, 960, 961, 962, 963, 964] (by decide +kernel) (by decide +kernel)) (goodIn_sub (fun _ h => List.mem_append_right _ h) (by decide +kernel))
set_option maxRecDepth 20000 in
theorem gL_law_L_course : GoodIn wsL_law (va_wsS RL 117 yL_course wsL_course) := goodIn_app (goodIn_of _ (by decide +kernel)) ggL_law_L_course
set_option maxRecDepth 20000 in
theorem ggL_law_X7_course : GoodIn wsL_law wsX7_course := goodIn_r _ [627, 137, 190, 191, 5, 192, 155, 156, 157, 193, 194, 195, 196, 197, 919, 920, 921, 922, 923, 924, 925, 926, 927, 928, 929, 930, 931] (by decide +kernel) (by decide +kernel)
set_option maxRecDepth 20000 in
theorem gL_law_X7_course : GoodIn wsL_law (wsV RL 119 RX7 yX7_course wsX7_course) := goodIn_app (goodIn_of _ (by decide +kernel)) ggL_law_X7_course
set_option maxRecDepth 20000 in
theorem ggL_law_L_setting : GoodIn wsL_law wsL_setting := goodIn_ca (goodIn_r _ [630, 165, 631, 632, 633, 2, 634, 171, 172, 21, 635, 531, 532, 20, 533, 91, 92, 912, 913, 914, 915, 916, 917, 918, 934, 935, 936, 937, 938, 939, 940, 941, 942, 943, 944, 945] (by decide +kernel) (by decide +kernel)) (goodIn_sub (fun _ h => List.mem_append_left _ (List.mem_append_left _ (List.mem_append_right _ h))) (by decide +kernel))
set_option maxRecDepth 20000 in
theorem gL_law_L_setting : GoodIn wsL_law (va_wsS RL 120 yL_setting wsL_setting) := goodIn_app (goodIn_of _ (by decide +kernel)) ggL_law_L_setting
set_option maxRecDepth 20000 in
theorem ggL_law_X7_setting : GoodIn wsL_law wsX7_setting := goodIn_r _ [639, 137, 190, 191, 5, 192, 193, 194, 195, 196, 197, 919, 920, 921, 922, 923, 924, 925, 926, 927, 928, 929, 930, 931] (by decide +kernel) (by decide +kernel)
set_option maxRecDepth 20000 in
theorem gL_law_X7_setting : GoodIn wsL_law (wsV RL 122 RX7 yX7_setting wsX7_setting) := goodIn_app (goodIn_of _ (by decide +kernel)) ggL_law_X7_setting
set_option maxRecDepth 20000 in
theorem ggL_law_X6_game : GoodIn wsL_law wsX6_game := goodIn_r _ [643, 30, 21, 550, 644, 645, 646, 29, 647, 648, 370, 649, 650, 651, 652, 653, 654, 655, 656, 81, 657, 658, 659, 20, 660, 47, 48, 50, 91, 92, 93, 102, 103, 104, 105, 94, 95, 661, 662, 663, 46, 664, 54, 55, 57, 125, 126, 127, 665, 431, 666, 2, 667, 380, 99, 100, 101, 106, 107, 108, 109, 110, 111, 112, 113, 114, 115, 116, 117, 118, 119, 120, 121, 122, 123, 124, 128, 129, 130, 131, 71, 72, 912, 913, 914, 915, 916, 917, 918, 934, 935, 936, 937, 938, 939, 940, 941, 942, 943, 944, 945, 952, 953, 954, 957, 958, 959, 960, 961, 962, 963, 964] (by decide +kernel) (by decide +kernel)
set_option maxRecDepth 20000 in
theorem gL_law_X6_game : GoodIn wsL_law (wsV RL 125 RX6 yX6_game wsX6_game) := goodIn_app (goodIn_of _ (by decide +kernel)) ggL_law_X6_game
set_option maxRecDepth 20000 in
theorem ggL_law_X7_game : GoodIn wsL_law wsX7_game := goodIn_r _ [671, 197, 137, 672, 673, 674, 5, 675, 539, 139, 540, 541, 542, 147, 148, 149, 150, 151, 152, 153, 154, 155, 156, 157, 158, 159, 160, 919, 920, 921, 922, 923, 924, 925, 926, 927, 928, 929, 930, 931] (by decide +kernel) (by decide +kernel)
set_option maxRecDepth 20000 in
theorem gL_law_X7_game : GoodIn wsL_law (wsV RL 129 RX7 yX7_game wsX7_game) := goodIn_app (goodIn_of _ (by decide +kernel)) ggL_law_X7_game
set_option maxRecDepth 20000 in
theorem ggL_law_L_step : GoodIn wsL_law wsL_step := goodIn_ca (goodIn_ca (goodIn_r _ [678, 165, 166, 679, 680, 681, 2, 682, 171, 172, 173, 174, 21, 30, 683, 684, 685, 558, 386, 387, 20, 388, 389, 390, 391, 392, 104, 102, 644, 645, 646, 29, 647, 648, 370, 649, 650, 651, 652, 653, 654, 655, 656, 81, 657, 658, 659, 660, 47, 48, 50, 91, 92, 93, 103, 105, 94, 95, 661, 662, 663, 46, 664, 54, 55, 57, 125, 126, 127, 665, 431, 666, 667, 686, 687, 688, 689, 393, 394, 395, 396, 397, 398, 399, 400, 401, 402, 403, 404, 68, 69, 70, 71, 72, 73, 74, 75, 405, 406, 407, 408, 409, 410, 411, 412, 413, 414, 415, 416, 417, 129, 130, 131, 418, 419, 420, 421, 422, 96, 423, 424, 425, 426, 427, 428, 429, 430, 432, 433, 434, 435, 912, 913, 914, 915, 916, 917, 918, 934, 935, 936, 937, 938, 939, 940, 941, 942, 943, 944, 945, 952, 953, 954, 957, 958, 959, 960, 961, 962, 963, 964] (by decide +kernel) (by decide +kernel)) (goodIn_sub (fun _ h => List.mem_append_left _ (List.mem_append_left _ (List.mem_append_right _ h))) (by decide +kernel))) (goodIn_sub (fun _ h => List.mem_append_left _ (List.mem_append_right _ h)) (by decide +kernel))
set_option maxRecDepth 20000 in
theorem gL_law_L_step : GoodIn wsL_law (va_wsS RL 130 yL_step wsL_step) := goodIn_app (goodIn_of _ (by decide +kernel)) ggL_law_L_step
set_option maxRecDepth 20000 in
theorem ggL_law_X7_step : GoodIn wsL_law wsX7_step := goodIn_r _ [693, 694, 137, 190, 191, 5, 192, 267, 268, 269, 193, 194, 195, 196, 197, 672, 673, 674, 675, 539, 139, 540, 541, 542, 289, 290, 291, 270, 271, 272, 273, 274, 275, 155, 156, 157, 276, 277, 278, 279, 280, 281, 282, 283, 284, 285, 286, 287, 288, 152, 153, 154, 158, 159, 160, 292, 293, 294, 295, 296, 297, 298, 299, 300, 301, 302, 303, 919, 920, 921, 922, 923, 924, 925, 926, 927, 928, 929, 930, 931] (by decide +kernel) (by decide +kernel)
set_option maxRecDepth 20000 in
theorem gL_law_X7_step : GoodIn wsL_law (wsV RL 132 RX7 yX7_step wsX7_step) := goodIn_app (goodIn_of _ (by decide +kernel)) ggL_law_X7_step
set_option maxRecDepth 20000 in
theorem ggL_law_L_dam : GoodIn wsL_law wsL_dam := goodIn_ca (goodIn_ca (goodIn_r _ [697, 571, 166, 698, 699, 700, 2, 701, 576, 577, 173, 174, 21, 30, 26, 73, 74, 75, 558, 386, 387, 20, 388, 389, 390, 391, 392, 104, 102, 644, 645, 646, 29, 647, 648, 370, 649, 650, 651, 652, 653, 654, 655, 656, 81, 657, 658, 659, 660, 47, 48, 50, 91, 92, 93, 103, 105, 94, 95, 661, 662, 663, 46, 664, 54, 55, 57, 125, 126, 127, 665, 431, 666, 667, 702, 703, 704, 705, 441, 442, 443, 444, 445, 446, 447, 448, 449, 405, 406, 407, 408, 71, 72, 409, 410, 411, 412, 397, 398, 399, 400, 450, 451, 452, 25, 453, 63, 64, 454, 455, 456, 457, 458, 459, 460, 461, 402, 403, 404, 462, 463, 464, 465, 66, 62, 466, 467, 468, 469, 67, 470, 471, 472, 473, 474, 432, 433, 434, 435, 912, 913, 914, 915, 916, 917, 918, 934, 935, 936, 937, 938, 939, 940, 941, 942, 943, 944, 945, 952, 953, 954, 957, 958, 959, 960, 961, 962, 963, 964, 946, 947, 948, 949, 950, 951] (by decide +kernel) (by decide +kernel)) (goodIn_sub (fun _ h => List.mem_append_right _ h) (by decide +kernel))) (goodIn_sub (fun _ h => List.mem_append_left _ (List.mem_append_right _ h)) (by decide +kernel))
set_option maxRecDepth 20000 in
theorem gL_law_L_dam : GoodIn wsL_law (va_wsS RL 133 yL_dam wsL_dam) := goodIn_app (goodIn_of _ (by decide +kernel)) ggL_law_L_dam
set_option maxRecDepth 20000 in
theorem ggL_law_X7_dam : GoodIn wsL_law wsX7_dam := goodIn_r _ [709, 137, 279, 280, 5, 281, 282, 190, 191, 192, 267, 268, 269, 193, 194, 195, 196, 197, 672, 673, 674, 675, 539, 139, 540, 541, 542, 319, 320, 321, 322, 308, 309, 310, 311, 312, 313, 314, 283, 284, 285, 155, 156, 157, 315, 316, 317, 318, 142, 273, 274, 275, 276, 277, 278, 286, 287, 288, 158, 159, 160, 301, 302, 303, 919, 920, 921, 922, 923, 924, 925, 926, 927, 928, 929, 930, 931] (by decide +kernel) (by decide +kernel)
set_option maxRecDepth 20000 in
theorem gL_law_X7_dam : GoodIn wsL_law (wsV RL 135 RX7 yX7_dam wsX7_dam) := goodIn_app (goodIn_of _ (by decide +kernel)) ggL_law_X7_dam
set_option maxRecDepth 20000 in
theorem ggL_law_L_flood : GoodIn wsL_law wsL_flood := goodIn_ca (goodIn_r _ [712, 166, 713, 714, 715, 2, 716, 173, 174, 21, 30, 717, 480, 481, 20, 482, 385, 386, 387, 388, 389, 390, 391, 392, 104, 102, 393, 394, 395, 396, 103, 397, 398, 399, 400, 47, 48, 401, 402, 403, 46, 404, 125, 55, 68, 69, 70, 71, 72, 73, 74, 75, 405, 406, 407, 408, 50, 409, 410, 411, 412, 57, 644, 645, 646, 29, 647, 648, 370, 649, 650, 651, 652, 653, 654, 655, 656, 81, 657, 658, 659, 660, 91, 92, 93, 105, 94, 95, 661, 662, 663, 664, 54, 126, 127, 665, 431, 666, 667, 718, 484, 485, 486, 427, 428, 429, 430, 432, 433, 434, 435, 912, 913, 914, 915, 916, 917, 918, 934, 935, 936, 937, 938, 939, 940, 941, 942, 943, 944, 945, 957, 958, 959, 960, 961, 962, 963, 964, 952, 953, 954] (by decide +kernel) (by decide +kernel)) (goodIn_sub (fun _ h => List.mem_append_left _ (List.mem_append_right _ h)) (by decide +kernel))
set_option maxRecDepth 20000 in
theorem gL_law_L_flood : GoodIn wsL_law (va_wsS RL 136 yL_flood wsL_flood) := goodIn_app (goodIn_of _ (by decide +kernel)) ggL_law_L_flood
