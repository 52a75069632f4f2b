/-! THE LAW: words of its calls, its rows -/
set_option maxRecDepth 20000 in
theorem ggL_law_X6_init : GoodIn wsL_law wsX6_init := goodIn_r _ [6, 7, 8, 9, 10, 11, 12, 13, 14, 15, 16, 17, 18, 19, 20, 21, 22, 23, 24, 25, 26, 27, 28, 29, 30, 31, 32, 33, 34, 35, 36, 37, 38, 39, 40, 41, 42, 43, 44, 45, 46, 47, 48, 49, 50, 51, 52, 53, 54, 55, 56, 57, 58, 59, 60, 61, 62, 63, 64, 2, 65, 66, 67, 68, 69, 70, 71, 72, 73, 74, 75, 76, 77, 78, 79, 80, 81, 82, 83, 84, 85, 86, 87, 88, 89, 90, 91, 92, 93, 94, 95, 96, 97, 98, 99, 100, 101, 102, 103, 104, 105, 106, 107, 108, 109, 110, 111, 112, 113, 114, 115, 116, 117, 118, 119, 120, 121, 122, 123, 124, 125, 126, 127, 661, 662, 654, 655, 656, 657, 658, 659, 660, 663, 664, 665, 666, 667, 668, 669, 670, 671, 672, 673, 674, 675, 676, 677, 678, 679, 680, 681, 682, 683, 684, 685, 686, 687, 688, 689, 690, 691, 692, 693] (by decide +kernel) (by decide +kernel)
set_option maxRecDepth 20000 in
theorem gL_law_X6_init : GoodIn wsL_law (wsX6_init) := ggL_law_X6_init
set_option maxRecDepth 20000 in
theorem ggL_law_L_cell : GoodIn wsL_law wsL_cell := goodIn_r _ [131, 132, 133] (by decide +kernel) (by decide +kernel)
set_option maxRecDepth 20000 in
theorem gL_law_L_cell : GoodIn wsL_law (va_wsS RL 176 yL_cell wsL_cell) := goodIn_app (goodIn_of _ (by decide +kernel)) ggL_law_L_cell
set_option maxRecDepth 20000 in
theorem gp_law_act_0 : GoodIn wsL_law wsL_act_r1 := goodIn_r _ [137, 138, 139, 130, 140, 141, 142, 143, 144, 145, 146, 147, 148, 149, 150, 2, 151, 152, 153, 154, 155, 13, 156, 157] rfl (by decide +kernel)
set_option maxRecDepth 20000 in
theorem gp_law_act_1 : GoodIn wsL_law wsL_act_r2 := goodIn_r _ [158, 12, 159, 160, 161, 162, 163, 164, 36, 165, 166, 167, 168, 169, 170, 171, 17, 26, 30, 172, 31, 173, 174, 175] rfl (by decide +kernel)
set_option maxRecDepth 20000 in
theorem gp_law_act_2 : GoodIn wsL_law wsL_act_r3 := goodIn_r _ [176, 177, 178, 179, 180, 181, 182, 183, 184, 185, 186, 187, 188, 189, 190, 191, 192, 193, 194, 195, 83, 84, 85, 16] rfl (by decide +kernel)
set_option maxRecDepth 20000 in
theorem gp_law_act_3 : GoodIn wsL_law wsL_act_r4 := goodIn_r _ [86, 87, 88, 89, 90, 91, 43, 92, 93, 44, 94, 95, 96, 97, 46, 98, 99, 100, 101, 102, 103, 104, 105, 106] rfl (by decide +kernel)
set_option maxRecDepth 20000 in
theorem gp_law_act_4 : GoodIn wsL_law wsL_act_r5 := goodIn_r _ [107, 108, 109, 110, 111, 112, 113, 114, 115, 116, 117, 118, 119, 42, 120, 53, 121, 122, 123, 124, 125, 126, 127, 51] rfl (by decide +kernel)
set_option maxRecDepth 20000 in
theorem gp_law_act_5 : GoodIn wsL_law wsL_act_r6 := goodIn_r _ [67, 68, 196, 197, 198, 25, 199, 200, 201, 202, 203, 204, 22, 205, 206, 207, 208, 209, 210, 211, 212, 213, 214, 215] rfl (by decide +kernel)
set_option maxRecDepth 20000 in
theorem gp_law_act_6 : GoodIn wsL_law wsL_act_r7 := goodIn_r _ [216, 217, 218, 219, 220, 221, 222, 223, 224, 225, 226, 227, 228, 229, 230, 231, 232, 233, 234, 64, 65, 66, 69, 70] rfl (by decide +kernel)
set_option maxRecDepth 20000 in
theorem gp_law_act_7 : GoodIn wsL_law wsL_act_r8 := goodIn_r _ [71, 235, 236, 237, 238, 239, 240, 241, 242, 243, 244, 245, 246, 247, 248, 249, 250, 251, 252, 253, 254, 255, 256, 50] rfl (by decide +kernel)
set_option maxRecDepth 20000 in
theorem gp_law_act_8 : GoodIn wsL_law wsL_act_r9 := goodIn_r _ [257, 258, 259, 260, 261, 262, 263, 264, 265, 266, 267, 268, 269, 270, 271, 272, 273, 274, 275, 276, 277, 278, 279, 280] rfl (by decide +kernel)
set_option maxRecDepth 20000 in
theorem gp_law_act_9 : GoodIn wsL_law wsL_act_r10 := goodIn_r _ [281, 282, 21, 283, 59, 60, 284, 285, 286, 287, 288, 289, 290, 291, 292, 293, 294, 295, 62, 58, 296, 297, 298, 299] rfl (by decide +kernel)
set_option maxRecDepth 20000 in
theorem gp_law_act_10 : GoodIn wsL_law wsL_act_r11 := goodIn_r _ [63, 300, 301, 302, 303, 304, 305, 306, 307, 308, 309, 310, 311, 312, 313, 314, 315, 316, 317, 318, 319, 320, 321, 322] rfl (by decide +kernel)
set_option maxRecDepth 20000 in
theorem gp_law_act_11 : GoodIn wsL_law wsL_act_r12 := goodIn_r _ [323, 324, 325, 326, 327, 328, 329, 330, 331, 332, 333, 334, 335, 336, 337, 338, 339, 340, 341, 342, 343, 344, 345, 346] rfl (by decide +kernel)
set_option maxRecDepth 20000 in
theorem gp_law_act_12 : GoodIn wsL_law wsL_act_r13 := goodIn_r _ [347, 348, 349, 350, 351, 352, 353, 354, 355, 356, 357, 358, 359, 360, 361, 362, 363, 364, 365, 366, 367, 368, 369, 370] rfl (by decide +kernel)
set_option maxRecDepth 20000 in
theorem gp_law_act_13 : GoodIn wsL_law wsL_act_r14 := goodIn_r _ [371, 372, 373, 374, 375, 376, 377, 378, 379, 380, 381, 382, 383, 384, 385, 386, 387, 388, 389, 390, 391, 392, 393, 394] rfl (by decide +kernel)
set_option maxRecDepth 20000 in
theorem gp_law_act_14 : GoodIn wsL_law wsL_act_r15 := goodIn_r _ [395, 396, 397, 398, 399, 400, 401, 402, 403, 404, 405, 406, 407, 408, 409, 410, 411, 412, 413, 414, 415, 416, 417, 418] rfl (by decide +kernel)
set_option maxRecDepth 20000 in
theorem gp_law_act_15 : GoodIn wsL_law wsL_act_r16 := goodIn_r _ [419, 420, 421, 422, 423, 424, 425, 426, 427, 428, 429, 430, 431, 432, 433, 434, 435, 436, 437, 438, 439, 440, 441, 442] rfl (by decide +kernel)
set_option maxRecDepth 20000 in
theorem gp_law_act_16 : GoodIn wsL_law wsL_act_r17 := goodIn_r _ [443, 444, 445, 446, 447, 448, 449, 450, 451, 452, 453, 454, 455, 456, 457, 458, 459, 460, 461, 462, 77, 463, 464, 465] rfl (by decide +kernel)
set_option maxRecDepth 20000 in
theorem gp_law_act_17 : GoodIn wsL_law wsL_act_r18 := goodIn_r _ [466, 467, 468, 469, 470, 471, 472, 473, 474, 475, 476, 477, 478, 479, 480, 481, 482, 483, 484, 485, 486, 487, 488, 489] rfl (by decide +kernel)
set_option maxRecDepth 20000 in
theorem gp_law_act_18 : GoodIn wsL_law wsL_act_r19 := goodIn_r _ [490, 491, 492, 493, 494, 495, 496, 497, 498, 499, 500, 501, 502, 503, 504, 505, 506, 507, 508, 509, 510, 511, 512, 513] rfl (by decide +kernel)
set_option maxRecDepth 20000 in
theorem gp_law_act_19 : GoodIn wsL_law wsL_act_r20 := goodIn_r _ [514, 515, 516, 517, 518, 519, 520, 521, 522, 523, 524, 525, 526, 527, 528, 529, 530, 531, 532, 533, 534, 535, 536, 537] rfl (by decide +kernel)
set_option maxRecDepth 20000 in
theorem gp_law_act_20 : GoodIn wsL_law wsL_act_r21 := goodIn_r _ [538, 539, 540, 541, 542, 543, 544, 545, 546, 547, 548, 549, 550, 551, 552, 553, 554, 555, 556, 557, 558, 559, 560, 561] rfl (by decide +kernel)
set_option maxRecDepth 20000 in
theorem gp_law_act_21 : GoodIn wsL_law wsL_act_r22 := goodIn_r _ [562, 563, 564, 565, 566, 567, 568, 569, 570, 571, 572, 573, 574, 575, 576, 577, 578, 579, 580, 581, 582, 583, 584, 585] rfl (by decide +kernel)
set_option maxRecDepth 20000 in
theorem gp_law_act_22 : GoodIn wsL_law wsL_act_r23 := goodIn_r _ [586, 587] rfl (by decide +kernel)
set_option maxRecDepth 20000 in
theorem gp_law_act_h : GoodIn wsL_law [.code yL_act cL_act 4 (some .int)] := goodIn_r _ [136] rfl (by decide +kernel)
set_option maxRecDepth 20000 in
theorem ggL_law_L_act : GoodIn wsL_law wsL_act := (goodIn_ca (goodIn_ca (goodIn_ca (goodIn_ca (goodIn_ca (goodIn_ca (goodIn_ca (goodIn_ca (goodIn_ca (goodIn_ca (goodIn_cons gp_law_act_h (goodIn_app gp_law_act_0 (goodIn_app gp_law_act_1 (goodIn_app gp_law_act_2 (goodIn_app gp_law_act_3 (goodIn_app gp_law_act_4 (goodIn_app gp_law_act_5 (goodIn_app gp_law_act_6 (goodIn_app gp_law_act_7 (goodIn_app gp_law_act_8 (goodIn_app gp_law_act_9 (goodIn_app gp_law_act_10 (goodIn_app gp_law_act_11 (goodIn_app gp_law_act_12 (goodIn_app gp_law_act_13 (goodIn_app gp_law_act_14 (goodIn_app gp_law_act_15 (goodIn_app gp_law_act_16 (goodIn_app gp_law_act_17 (goodIn_app gp_law_act_18 (goodIn_app gp_law_act_19 (goodIn_app gp_law_act_20 (goodIn_app gp_law_act_21 gp_law_act_22))))))))))))))))))))))) (goodIn_sub (fun _ h => (List.mem_append_left _ (List.mem_append_left _ (List.mem_append_left _ (List.mem_append_left _ (List.mem_append_left _ (List.mem_append_left _ (List.mem_append_left _ (List.mem_append_left _ (List.mem_append_left _ (List.mem_append_left _ (List.mem_append_right _ h)))))))))))) (by decide +kernel))) (goodIn_sub (fun _ h => (List.mem_append_left _ (List.mem_append_left _ (List.mem_append_left _ (List.mem_append_left _ (List.mem_append_left _ (List.mem_append_left _ (List.mem_append_left _ (List.mem_append_left _ (List.mem_append_left _ (List.mem_append_right _ h))))))))))) (by decide +kernel))) (goodIn_sub (fun _ h => (List.mem_append_left _ (List.mem_append_left _ (List.mem_append_left _ (List.mem_append_left _ (List.mem_append_left _ (List.mem_append_right _ h))))))) (by decide +kernel))) (goodIn_sub (fun _ h => (List.mem_append_left _ (List.mem_append_left _ (List.mem_append_left _ (List.mem_append_left _ (List.mem_append_left _ (List.mem_append_left _ (List.mem_append_left _ (List.mem_append_left _ (List.mem_append_right _ h)))))))))) (by decide +kernel))) (goodIn_sub (fun _ h => (List.mem_append_left _ (List.mem_append_left _ (List.mem_append_left _ (List.mem_append_left _ (List.mem_append_right _ h)))))) (by decide +kernel))) (goodIn_sub (fun _ h => (List.mem_append_left _ (List.mem_append_left _ (List.mem_append_left _ (List.mem_append_left _ (List.mem_append_left _ (List.mem_append_left _ (List.mem_append_right _ h)))))))) (by decide +kernel))) (goodIn_sub (fun _ h => (List.mem_append_left _ (List.mem_append_left _ (List.mem_append_left _ (List.mem_append_left _ (List.mem_append_left _ (List.mem_append_left _ (List.mem_append_left _ (List.mem_append_right _ h))))))))) (by decide +kernel))) (goodIn_sub (fun _ h => (List.mem_append_left _ (List.mem_append_left _ (List.mem_append_right _ h)))) (by decide +kernel))) (goodIn_sub (fun _ h => (List.mem_append_left _ (List.mem_append_right _ h))) (by decide +kernel))) (goodIn_sub (fun _ h => (List.mem_append_right _ h)) (by decide +kernel)))
set_option maxRecDepth 20000 in
theorem gL_law_L_act : GoodIn wsL_law (va_wsS RL 180 yL_act wsL_act) := goodIn_app (goodIn_of _ (by decide +kernel)) ggL_law_L_act
set_option maxRecDepth 20000 in
theorem gp_law_refuses_0 : GoodIn wsL_law wsL_refuses_r1 := goodIn_r _ [146, 389, 591, 147, 138, 139, 130, 140, 141, 142, 143, 144, 145, 148, 149, 150, 2, 151, 152, 153, 154, 155, 13, 156] rfl (by decide +kernel)
set_option maxRecDepth 20000 in
theorem gp_law_refuses_1 : GoodIn wsL_law wsL_refuses_r2 := goodIn_r _ [157, 158, 12, 159, 160, 161, 162, 163, 164, 36, 165, 166, 167, 168, 169, 170, 171, 17, 26, 30, 172, 31, 173, 174] rfl (by decide +kernel)
set_option maxRecDepth 20000 in
theorem gp_law_refuses_2 : GoodIn wsL_law wsL_refuses_r3 := goodIn_r _ [175, 176, 177, 178, 179, 180, 181, 182, 183, 184, 185, 186, 187, 188, 189, 190, 191, 192, 193, 194, 195, 83, 84, 85] rfl (by decide +kernel)
set_option maxRecDepth 20000 in
theorem gp_law_refuses_3 : GoodIn wsL_law wsL_refuses_r4 := goodIn_r _ [16, 86, 87, 88, 89, 90, 91, 43, 92, 93, 44, 94, 95, 96, 97, 46, 98, 99, 100, 101, 102, 103, 104, 105] rfl (by decide +kernel)
set_option maxRecDepth 20000 in
theorem gp_law_refuses_4 : GoodIn wsL_law wsL_refuses_r5 := goodIn_r _ [106, 107, 108, 109, 110, 111, 112, 113, 114, 115, 116, 117, 118, 119, 42, 120, 53, 121, 122, 123, 124, 125, 126, 127] rfl (by decide +kernel)
set_option maxRecDepth 20000 in
theorem gp_law_refuses_5 : GoodIn wsL_law wsL_refuses_r6 := goodIn_r _ [51, 67, 68, 196, 197, 198, 25, 199, 200, 201, 202, 203, 204, 22, 205, 206, 207, 208, 209, 210, 211, 212, 213, 214] rfl (by decide +kernel)
set_option maxRecDepth 20000 in
theorem gp_law_refuses_6 : GoodIn wsL_law wsL_refuses_r7 := goodIn_r _ [215, 216, 217, 218, 219, 220, 221, 222, 223, 224, 225, 226, 227, 228, 229, 230, 231, 232, 233, 234, 64, 65, 66, 69] rfl (by decide +kernel)
set_option maxRecDepth 20000 in
theorem gp_law_refuses_7 : GoodIn wsL_law wsL_refuses_r8 := goodIn_r _ [70, 71, 235, 236, 237, 238, 239, 240, 241, 242, 243, 244, 245, 246, 247, 248, 249, 250, 251, 252, 253, 254, 255, 256] rfl (by decide +kernel)
set_option maxRecDepth 20000 in
theorem gp_law_refuses_8 : GoodIn wsL_law wsL_refuses_r9 := goodIn_r _ [50, 257, 258, 259, 260, 261, 262, 263, 264, 265, 266, 267, 268, 269, 270, 271, 272, 273, 274, 275, 276, 277, 278, 279] rfl (by decide +kernel)
set_option maxRecDepth 20000 in
theorem gp_law_refuses_9 : GoodIn wsL_law wsL_refuses_r10 := goodIn_r _ [280, 281, 282, 21, 283, 59, 60, 284, 285, 286, 287, 288, 289, 290, 291, 292, 293, 294, 295, 62, 58, 296, 297, 298] rfl (by decide +kernel)
set_option maxRecDepth 20000 in
theorem gp_law_refuses_10 : GoodIn wsL_law wsL_refuses_r11 := goodIn_r _ [299, 63, 300, 301, 302, 303, 304, 305, 306, 307, 308, 309, 310, 311, 312, 313, 314, 315, 316, 317, 318, 319, 320, 321] rfl (by decide +kernel)
set_option maxRecDepth 20000 in
theorem gp_law_refuses_11 : GoodIn wsL_law wsL_refuses_r12 := goodIn_r _ [322, 323, 324, 325, 326, 327, 328, 329, 330, 331, 332, 333, 334, 335, 336, 337, 338, 339, 340, 341, 342, 343, 344, 345] rfl (by decide +kernel)
set_option maxRecDepth 20000 in
theorem gp_law_refuses_12 : GoodIn wsL_law wsL_refuses_r13 := goodIn_r _ [346, 347, 348, 349, 350, 351, 352, 353, 354, 355, 356, 357, 358, 359, 360, 361, 362, 363, 364, 365, 366, 367, 368, 369] rfl (by decide +kernel)
set_option maxRecDepth 20000 in
theorem gp_law_refuses_13 : GoodIn wsL_law wsL_refuses_r14 := goodIn_r _ [370, 371, 372, 373, 374, 375, 376, 377, 378, 379, 380, 381, 382, 383, 384, 385, 386, 387, 388, 390, 391, 392, 393, 394] rfl (by decide +kernel)
set_option maxRecDepth 20000 in
theorem gp_law_refuses_14 : GoodIn wsL_law wsL_refuses_r15 := goodIn_r _ [395, 396, 397, 398, 399, 400, 401, 402, 403, 404, 405, 406, 407, 408, 409, 410, 411, 412, 413, 414, 415, 416, 417, 418] rfl (by decide +kernel)
set_option maxRecDepth 20000 in
theorem gp_law_refuses_15 : GoodIn wsL_law wsL_refuses_r16 := goodIn_r _ [419, 420, 421, 422, 423, 424, 425, 426, 427, 428, 429, 430, 431, 432, 433, 434, 435, 436, 437, 438, 439, 440, 441, 442] rfl (by decide +kernel)
set_option maxRecDepth 20000 in
theorem gp_law_refuses_16 : GoodIn wsL_law wsL_refuses_r17 := goodIn_r _ [443, 444, 445, 446, 447, 448, 449, 450, 451, 452, 453, 454, 455, 456, 457, 458, 459, 460, 461, 462, 77, 463, 464, 465] rfl (by decide +kernel)
set_option maxRecDepth 20000 in
theorem gp_law_refuses_17 : GoodIn wsL_law wsL_refuses_r18 := goodIn_r _ [466, 467, 468, 469, 470, 471, 472, 473, 474, 475, 476, 477, 478, 479, 480, 481, 482, 483, 484, 485, 486, 487, 488, 489] rfl (by decide +kernel)
set_option maxRecDepth 20000 in
theorem gp_law_refuses_18 : GoodIn wsL_law wsL_refuses_r19 := goodIn_r _ [490, 491, 492, 493, 494, 495, 496, 497, 498, 499, 500, 501, 502, 503, 504, 505, 506, 507, 508, 509, 510, 511, 512, 513] rfl (by decide +kernel)
set_option maxRecDepth 20000 in
theorem gp_law_refuses_19 : GoodIn wsL_law wsL_refuses_r20 := goodIn_r _ [514, 515, 516, 517, 518, 519, 520, 521, 522, 523, 524, 525, 526, 527, 528, 529, 530, 531, 532, 533, 534, 535, 536, 537] rfl (by decide +kernel)
set_option maxRecDepth 20000 in
theorem gp_law_refuses_20 : GoodIn wsL_law wsL_refuses_r21 := goodIn_r _ [538, 539, 540, 541, 542, 543, 544, 545, 546, 547, 548, 549, 550, 551, 552, 553, 554, 555, 556, 557, 558, 559, 560, 561] rfl (by decide +kernel)
set_option maxRecDepth 20000 in
theorem gp_law_refuses_21 : GoodIn wsL_law wsL_refuses_r22 := goodIn_r _ [562, 563, 564, 565, 566, 567, 568, 569, 570, 571, 572, 573, 574, 575, 576, 577, 578, 579, 592, 593, 594, 595, 596, 597] rfl (by decide +kernel)
set_option maxRecDepth 20000 in
theorem gp_law_refuses_22 : GoodIn wsL_law wsL_refuses_r23 := goodIn_r _ [598, 18, 599, 600, 601, 602, 603, 604, 605, 606, 607, 608, 609, 610, 611, 612, 613, 614, 615, 616, 617, 618, 619, 620] rfl (by decide +kernel)
set_option maxRecDepth 20000 in
theorem gp_law_refuses_23 : GoodIn wsL_law wsL_refuses_r24 := goodIn_r _ [621, 622, 623, 584, 585, 586, 587] rfl (by decide +kernel)
set_option maxRecDepth 20000 in
theorem gp_law_refuses_h : GoodIn wsL_law [.code yL_refuses cL_refuses 7 (some .boolean)] := goodIn_r _ [590] rfl (by decide +kernel)
set_option maxRecDepth 20000 in
theorem ggL_law_L_refuses : GoodIn wsL_law wsL_refuses := (goodIn_ca (goodIn_ca (goodIn_ca (goodIn_ca (goodIn_ca (goodIn_ca (goodIn_ca (goodIn_ca (goodIn_ca (goodIn_ca (goodIn_cons gp_law_refuses_h (goodIn_app gp_law_refuses_0 (goodIn_app gp_law_refuses_1 (goodIn_app gp_law_refuses_2 (goodIn_app gp_law_refuses_3 (goodIn_app gp_law_refuses_4 (goodIn_app gp_law_refuses_5 (goodIn_app gp_law_refuses_6 (goodIn_app gp_law_refuses_7 (goodIn_app gp_law_refuses_8 (goodIn_app gp_law_refuses_9 (goodIn_app gp_law_refuses_10 (goodIn_app gp_law_refuses_11 (goodIn_app gp_law_refuses_12 (goodIn_app gp_law_refuses_13 (goodIn_app gp_law_refuses_14 (goodIn_app gp_law_refuses_15 (goodIn_app gp_law_refuses_16 (goodIn_app gp_law_refuses_17 (goodIn_app gp_law_refuses_18 (goodIn_app gp_law_refuses_19 (goodIn_app gp_law_refuses_20 (goodIn_app gp_law_refuses_21 (goodIn_app gp_law_refuses_22 gp_law_refuses_23)))))))))))))))))))))))) (goodIn_sub (fun _ h => (List.mem_append_left _ (List.mem_append_left _ (List.mem_append_left _ (List.mem_append_left _ (List.mem_append_left _ (List.mem_append_left _ (List.mem_append_left _ (List.mem_append_left _ (List.mem_append_left _ (List.mem_append_left _ (List.mem_append_right _ h)))))))))))) (by decide +kernel))) (goodIn_sub (fun _ h => (List.mem_append_left _ (List.mem_append_left _ (List.mem_append_left _ (List.mem_append_left _ (List.mem_append_left _ (List.mem_append_left _ (List.mem_append_left _ (List.mem_append_left _ (List.mem_append_left _ (List.mem_append_right _ h))))))))))) (by decide +kernel))) (goodIn_sub (fun _ h => (List.mem_append_left _ (List.mem_append_left _ (List.mem_append_left _ (List.mem_append_left _ (List.mem_append_left _ (List.mem_append_right _ h))))))) (by decide +kernel))) (goodIn_sub (fun _ h => (List.mem_append_left _ (List.mem_append_left _ (List.mem_append_left _ (List.mem_append_left _ (List.mem_append_left _ (List.mem_append_left _ (List.mem_append_left _ (List.mem_append_left _ (List.mem_append_right _ h)))))))))) (by decide +kernel))) (goodIn_sub (fun _ h => (List.mem_append_left _ (List.mem_append_left _ (List.mem_append_left _ (List.mem_append_left _ (List.mem_append_right _ h)))))) (by decide +kernel))) (goodIn_sub (fun _ h => (List.mem_append_left _ (List.mem_append_left _ (List.mem_append_left _ (List.mem_append_left _ (List.mem_append_left _ (List.mem_append_left _ (List.mem_append_right _ h)))))))) (by decide +kernel))) (goodIn_sub (fun _ h => (List.mem_append_left _ (List.mem_append_left _ (List.mem_append_left _ (List.mem_append_left _ (List.mem_append_left _ (List.mem_append_left _ (List.mem_append_left _ (List.mem_append_right _ h))))))))) (by decide +kernel))) (goodIn_sub (fun _ h => (List.mem_append_left _ (List.mem_append_left _ (List.mem_append_right _ h)))) (by decide +kernel))) (goodIn_sub (fun _ h => (List.mem_append_left _ (List.mem_append_right _ h))) (by decide +kernel))) (goodIn_sub (fun _ h => (List.mem_append_right _ h)) (by decide +kernel)))
set_option maxRecDepth 20000 in
theorem gL_law_L_refuses : GoodIn wsL_law (va_wsS RL 184 yL_refuses wsL_refuses) := goodIn_app (goodIn_of _ (by decide +kernel)) ggL_law_L_refuses
set_option maxRecDepth 20000 in
theorem gp_law_alike_0 : GoodIn wsL_law wsL_alike_r1 := goodIn_r _ [611, 612, 130, 613, 144, 146, 614, 615, 616, 2, 617, 152, 153, 18, 17, 372, 375, 413, 396, 414, 572, 464, 465, 16] rfl (by decide +kernel)
set_option maxRecDepth 20000 in
theorem gp_law_alike_1 : GoodIn wsL_law wsL_alike_r2 := goodIn_r _ [466, 43, 44, 46, 87, 88, 89, 98, 99, 100, 101, 90, 91, 467, 468, 469, 42, 470, 50, 51, 53, 121, 122, 123] rfl (by decide +kernel)
set_option maxRecDepth 20000 in
theorem gp_law_alike_2 : GoodIn wsL_law wsL_alike_r3 := goodIn_r _ [471, 261, 472, 473, 618, 107, 108, 109, 110, 619, 111, 112, 620, 621, 622, 623, 22, 380, 216, 217, 218, 219, 220, 221] rfl (by decide +kernel)
set_option maxRecDepth 20000 in
theorem gp_law_alike_3 : GoodIn wsL_law wsL_alike_r4 := goodIn_r _ [222, 210, 95, 96, 97, 102, 103, 104, 105, 106, 113, 114, 115, 116, 117, 118, 119, 120, 124, 125, 126, 127, 67, 68] rfl (by decide +kernel)
set_option maxRecDepth 20000 in
theorem gp_law_alike_4 : GoodIn wsL_law wsL_alike_r5 := goodIn_r _ [496, 310, 311, 312, 215, 223, 224, 225, 226, 227, 228, 229, 230, 231, 232, 233, 234, 64, 65, 66, 69, 70, 71, 235] rfl (by decide +kernel)
set_option maxRecDepth 20000 in
theorem gp_law_alike_5 : GoodIn wsL_law wsL_alike_r6 := goodIn_r _ [236, 237, 238, 239, 240, 241, 242, 497, 314, 315, 316, 257, 258, 259, 260, 262, 263, 264, 265, 485, 486, 487, 488, 271] rfl (by decide +kernel)
set_option maxRecDepth 20000 in
theorem gp_law_alike_6 : GoodIn wsL_law wsL_alike_r7 := goodIn_r _ [272, 273, 274, 275, 276, 277, 278, 279, 280, 281, 282, 21, 283, 59, 60, 284, 285, 286, 287, 288, 289, 290, 291, 292] rfl (by decide +kernel)
set_option maxRecDepth 20000 in
theorem gp_law_alike_7 : GoodIn wsL_law wsL_alike_r8 := goodIn_r _ [293, 294, 295, 62, 58, 296, 297, 298, 299, 63, 300, 301, 302, 303, 304, 474, 475, 476, 477, 243, 244, 245, 246, 247] rfl (by decide +kernel)
set_option maxRecDepth 20000 in
theorem gp_law_alike_8 : GoodIn wsL_law wsL_alike_r9 := goodIn_r _ [248, 249, 250, 251, 252, 92, 253, 254, 255, 256, 317, 318, 319, 320, 321, 322, 323, 324, 325, 326, 327, 328, 329, 330] rfl (by decide +kernel)
set_option maxRecDepth 20000 in
theorem gp_law_alike_9 : GoodIn wsL_law wsL_alike_r10 := goodIn_r _ [331, 332, 333, 334, 335, 336, 337, 338, 339, 340, 341, 342, 343, 344, 345, 346, 347, 348, 349, 584, 585, 586, 587, 627] rfl (by decide +kernel)
set_option maxRecDepth 20000 in
theorem gp_law_alike_10 : GoodIn wsL_law wsL_alike_r11 := goodIn_r _ [628, 629, 630, 631, 632, 633, 634, 61, 138, 139, 140, 141, 142, 143, 145, 147, 148, 149, 150, 151, 154, 155, 13, 156] rfl (by decide +kernel)
set_option maxRecDepth 20000 in
theorem gp_law_alike_11 : GoodIn wsL_law wsL_alike_r12 := goodIn_r _ [157, 158, 12, 159, 160, 161, 162, 163, 164, 36, 165, 166, 167, 168, 169, 170, 171, 26, 30, 172, 31, 173, 174, 175] rfl (by decide +kernel)
set_option maxRecDepth 20000 in
theorem gp_law_alike_12 : GoodIn wsL_law wsL_alike_r13 := goodIn_r _ [176, 177, 178, 179, 180, 181, 182, 183, 184, 185, 186, 187, 188, 189, 190, 191, 192, 193, 194, 195, 83, 84, 85, 86] rfl (by decide +kernel)
set_option maxRecDepth 20000 in
theorem gp_law_alike_13 : GoodIn wsL_law wsL_alike_r14 := goodIn_r _ [93, 94, 196, 197, 198, 25, 199, 200, 201, 202, 203, 204, 205, 206, 207, 208, 209, 211, 212, 213, 214, 266, 267, 268] rfl (by decide +kernel)
set_option maxRecDepth 20000 in
theorem gp_law_alike_14 : GoodIn wsL_law wsL_alike_r15 := goodIn_r _ [269, 270, 305, 306, 307, 308, 309, 313, 350, 351, 352, 353, 354, 355, 356, 357, 358, 359, 360, 361, 362, 363, 364, 365] rfl (by decide +kernel)
set_option maxRecDepth 20000 in
theorem gp_law_alike_15 : GoodIn wsL_law wsL_alike_r16 := goodIn_r _ [366, 367, 368, 369, 370, 371, 373, 374, 376, 377, 378, 379, 381, 382, 383, 384, 385, 386, 387, 388, 389, 390, 391, 392] rfl (by decide +kernel)
set_option maxRecDepth 20000 in
theorem gp_law_alike_16 : GoodIn wsL_law wsL_alike_r17 := goodIn_r _ [393, 394, 395, 397, 398, 399, 400, 401, 402, 403, 404, 405, 406, 407, 408, 409, 410, 411, 412, 415, 416, 417, 418, 419] rfl (by decide +kernel)
set_option maxRecDepth 20000 in
theorem gp_law_alike_17 : GoodIn wsL_law wsL_alike_r18 := goodIn_r _ [420, 421, 422, 423, 424, 425, 426, 427, 428, 429, 430, 431, 432, 433, 434, 435, 436, 437, 438, 439, 440, 441, 442, 443] rfl (by decide +kernel)
set_option maxRecDepth 20000 in
theorem gp_law_alike_18 : GoodIn wsL_law wsL_alike_r19 := goodIn_r _ [444, 445, 446, 447, 448, 449, 450, 451, 452, 453, 454, 455, 456, 457, 458, 459, 460, 461, 462, 77, 463, 478, 479, 480] rfl (by decide +kernel)
set_option maxRecDepth 20000 in
theorem gp_law_alike_19 : GoodIn wsL_law wsL_alike_r20 := goodIn_r _ [481, 482, 483, 484, 489, 490, 491, 492, 493, 494, 495, 498, 499, 500, 501, 502, 503, 504, 505, 506, 507, 508, 509, 510] rfl (by decide +kernel)
set_option maxRecDepth 20000 in
theorem gp_law_alike_20 : GoodIn wsL_law wsL_alike_r21 := goodIn_r _ [511, 512, 513, 514, 515, 516, 517, 518, 519, 520, 521, 522, 523, 524, 525, 526, 527, 528, 529, 530, 531, 532, 533, 534] rfl (by decide +kernel)
set_option maxRecDepth 20000 in
theorem gp_law_alike_21 : GoodIn wsL_law wsL_alike_r22 := goodIn_r _ [535, 536, 537, 538, 539, 540, 541, 542, 543, 544, 545, 546, 547, 548, 549, 550, 551, 552, 553, 554, 555, 556, 557, 558] rfl (by decide +kernel)
set_option maxRecDepth 20000 in
theorem gp_law_alike_22 : GoodIn wsL_law wsL_alike_r23 := goodIn_r _ [559, 560, 561, 562, 563, 564, 565, 566, 567, 568, 569, 570, 571, 573, 574, 575, 576, 577, 578, 579] rfl (by decide +kernel)
set_option maxRecDepth 20000 in
theorem gp_law_alike_h : GoodIn wsL_law [.code yL_alike cL_alike 5 (some .boolean)] := goodIn_r _ [626] rfl (by decide +kernel)
set_option maxRecDepth 20000 in
theorem ggL_law_L_alike : GoodIn wsL_law wsL_alike := (goodIn_ca (goodIn_ca (goodIn_ca (goodIn_ca (goodIn_ca (goodIn_ca (goodIn_ca (goodIn_ca (goodIn_ca (goodIn_ca (goodIn_cons gp_law_alike_h (goodIn_app gp_law_alike_0 (goodIn_app gp_law_alike_1 (goodIn_app gp_law_alike_2 (goodIn_app gp_law_alike_3 (goodIn_app gp_law_alike_4 (goodIn_app gp_law_alike_5 (goodIn_app gp_law_alike_6 (goodIn_app gp_law_alike_7 (goodIn_app gp_law_alike_8 (goodIn_app gp_law_alike_9 (goodIn_app gp_law_alike_10 (goodIn_app gp_law_alike_11 (goodIn_app gp_law_alike_12 (goodIn_app gp_law_alike_13 (goodIn_app gp_law_alike_14 (goodIn_app gp_law_alike_15 (goodIn_app gp_law_alike_16 (goodIn_app gp_law_alike_17 (goodIn_app gp_law_alike_18 (goodIn_app gp_law_alike_19 (goodIn_app gp_law_alike_20 (goodIn_app gp_law_alike_21 gp_law_alike_22))))))))))))))))))))))) (goodIn_sub (fun _ h => (List.mem_append_left _ (List.mem_append_left _ (List.mem_append_left _ (List.mem_append_left _ (List.mem_append_left _ (List.mem_append_left _ (List.mem_append_left _ (List.mem_append_left _ (List.mem_append_left _ (List.mem_append_left _ (List.mem_append_right _ h)))))))))))) (by decide +kernel))) (goodIn_sub (fun _ h => (List.mem_append_left _ (List.mem_append_left _ (List.mem_append_left _ (List.mem_append_left _ (List.mem_append_left _ (List.mem_append_left _ (List.mem_append_left _ (List.mem_append_left _ (List.mem_append_right _ h)))))))))) (by decide +kernel))) (goodIn_sub (fun _ h => (List.mem_append_left _ (List.mem_append_left _ (List.mem_append_left _ (List.mem_append_left _ (List.mem_append_right _ h)))))) (by decide +kernel))) (goodIn_sub (fun _ h => (List.mem_append_left _ (List.mem_append_left _ (List.mem_append_left _ (List.mem_append_left _ (List.mem_append_left _ (List.mem_append_left _ (List.mem_append_left _ (List.mem_append_right _ h))))))))) (by decide +kernel))) (goodIn_sub (fun _ h => (List.mem_append_left _ (List.mem_append_left _ (List.mem_append_left _ (List.mem_append_left _ (List.mem_append_left _ (List.mem_append_left _ (List.mem_append_left _ (List.mem_append_left _ (List.mem_append_left _ (List.mem_append_right _ h))))))))))) (by decide +kernel))) (goodIn_sub (fun _ h => (List.mem_append_left _ (List.mem_append_left _ (List.mem_append_left _ (List.mem_append_left _ (List.mem_append_left _ (List.mem_append_right _ h))))))) (by decide +kernel))) (goodIn_sub (fun _ h => (List.mem_append_left _ (List.mem_append_left _ (List.mem_append_left _ (List.mem_append_left _ (List.mem_append_left _ (List.mem_append_left _ (List.mem_append_right _ h)))))))) (by decide +kernel))) (goodIn_sub (fun _ h => (List.mem_append_left _ (List.mem_append_left _ (List.mem_append_right _ h)))) (by decide +kernel))) (goodIn_sub (fun _ h => (List.mem_append_left _ (List.mem_append_right _ h))) (by decide +kernel))) (goodIn_sub (fun _ h => (List.mem_append_right _ h)) (by decide +kernel)))
set_option maxRecDepth 20000 in
theorem gL_law_L_alike : GoodIn wsL_law (va_wsS RL 188 yL_alike wsL_alike) := goodIn_app (goodIn_of _ (by decide +kernel)) ggL_law_L_alike
set_option maxRecDepth 20000 in
theorem gp_law_holds_0 : GoodIn wsL_law wsL_holds_r1 := goodIn_r _ [138, 139, 130, 140, 141, 142, 143, 144, 145, 146, 147, 148, 149, 150, 2, 151, 152, 153, 154, 155, 13, 156, 157, 158] rfl (by decide +kernel)
set_option maxRecDepth 20000 in
theorem gp_law_holds_1 : GoodIn wsL_law wsL_holds_r2 := goodIn_r _ [12, 159, 160, 161, 162, 163, 164, 36, 165, 166, 167, 168, 169, 170, 171, 17, 26, 30, 172, 31, 173, 174, 175, 176] rfl (by decide +kernel)
set_option maxRecDepth 20000 in
theorem gp_law_holds_2 : GoodIn wsL_law wsL_holds_r3 := goodIn_r _ [177, 178, 179, 180, 181, 182, 183, 184, 185, 186, 187, 188, 189, 190, 191, 192, 193, 194, 195, 83, 84, 85, 16, 86] rfl (by decide +kernel)
set_option maxRecDepth 20000 in
theorem gp_law_holds_3 : GoodIn wsL_law wsL_holds_r4 := goodIn_r _ [87, 88, 89, 90, 91, 43, 92, 93, 44, 94, 95, 96, 97, 46, 98, 99, 100, 101, 102, 103, 104, 105, 106, 107] rfl (by decide +kernel)
set_option maxRecDepth 20000 in
theorem gp_law_holds_4 : GoodIn wsL_law wsL_holds_r5 := goodIn_r _ [108, 109, 110, 111, 112, 113, 114, 115, 116, 117, 118, 119, 42, 120, 53, 121, 122, 123, 124, 125, 126, 127, 51, 67] rfl (by decide +kernel)
set_option maxRecDepth 20000 in
theorem gp_law_holds_5 : GoodIn wsL_law wsL_holds_r6 := goodIn_r _ [68, 196, 197, 198, 25, 199, 200, 201, 202, 203, 204, 22, 205, 206, 207, 208, 209, 210, 211, 212, 213, 214, 215, 216] rfl (by decide +kernel)
set_option maxRecDepth 20000 in
theorem gp_law_holds_6 : GoodIn wsL_law wsL_holds_r7 := goodIn_r _ [217, 218, 219, 220, 221, 222, 223, 224, 225, 226, 227, 228, 229, 230, 231, 232, 233, 234, 64, 65, 66, 69, 70, 71] rfl (by decide +kernel)
set_option maxRecDepth 20000 in
theorem gp_law_holds_7 : GoodIn wsL_law wsL_holds_r8 := goodIn_r _ [235, 236, 237, 238, 239, 240, 241, 242, 243, 244, 245, 246, 247, 248, 249, 250, 251, 252, 253, 254, 255, 256, 50, 257] rfl (by decide +kernel)
set_option maxRecDepth 20000 in
theorem gp_law_holds_8 : GoodIn wsL_law wsL_holds_r9 := goodIn_r _ [258, 259, 260, 261, 262, 263, 264, 265, 266, 267, 268, 269, 270, 271, 272, 273, 274, 275, 276, 277, 278, 279, 280, 281] rfl (by decide +kernel)
set_option maxRecDepth 20000 in
theorem gp_law_holds_9 : GoodIn wsL_law wsL_holds_r10 := goodIn_r _ [282, 21, 283, 59, 60, 284, 285, 286, 287, 288, 289, 290, 291, 292, 293, 294, 295, 62, 58, 296, 297, 298, 299, 63] rfl (by decide +kernel)
set_option maxRecDepth 20000 in
theorem gp_law_holds_10 : GoodIn wsL_law wsL_holds_r11 := goodIn_r _ [300, 301, 302, 303, 304, 305, 306, 307, 308, 309, 310, 311, 312, 313, 314, 315, 316, 317, 318, 319, 320, 321, 322, 323] rfl (by decide +kernel)
set_option maxRecDepth 20000 in
theorem gp_law_holds_11 : GoodIn wsL_law wsL_holds_r12 := goodIn_r _ [324, 325, 326, 327, 328, 329, 330, 331, 332, 333, 334, 335, 336, 337, 338, 339, 340, 341, 342, 343, 344, 345, 346, 347] rfl (by decide +kernel)
set_option maxRecDepth 20000 in
theorem gp_law_holds_12 : GoodIn wsL_law wsL_holds_r13 := goodIn_r _ [348, 349, 350, 351, 352, 353, 354, 355, 356, 357, 358, 359, 360, 361, 362, 363, 364, 365, 366, 367, 368, 369, 370, 371] rfl (by decide +kernel)
set_option maxRecDepth 20000 in
theorem gp_law_holds_13 : GoodIn wsL_law wsL_holds_r14 := goodIn_r _ [372, 373, 374, 375, 376, 377, 378, 379, 380, 381, 382, 383, 384, 385, 386, 387, 388, 389, 390, 391, 392, 393, 394, 395] rfl (by decide +kernel)
set_option maxRecDepth 20000 in
theorem gp_law_holds_14 : GoodIn wsL_law wsL_holds_r15 := goodIn_r _ [396, 397, 398, 399, 400, 401, 402, 403, 404, 405, 406, 407, 408, 409, 410, 411, 412, 413, 414, 415, 416, 417, 418, 419] rfl (by decide +kernel)
set_option maxRecDepth 20000 in
theorem gp_law_holds_15 : GoodIn wsL_law wsL_holds_r16 := goodIn_r _ [420, 421, 422, 423, 424, 425, 426, 427, 428, 429, 430, 431, 432, 433, 434, 435, 436, 437, 438, 439, 440, 441, 442, 443] rfl (by decide +kernel)
set_option maxRecDepth 20000 in
theorem gp_law_holds_16 : GoodIn wsL_law wsL_holds_r17 := goodIn_r _ [444, 445, 446, 447, 448, 449, 450, 451, 452, 453, 454, 455, 456, 457, 458, 459, 460, 461, 462, 77, 463, 464, 465, 466] rfl (by decide +kernel)
set_option maxRecDepth 20000 in
theorem gp_law_holds_17 : GoodIn wsL_law wsL_holds_r18 := goodIn_r _ [467, 468, 469, 470, 471, 472, 473, 474, 475, 476, 477, 478, 479, 480, 481, 482, 483, 484, 485, 486, 487, 488, 489, 490] rfl (by decide +kernel)
set_option maxRecDepth 20000 in
theorem gp_law_holds_18 : GoodIn wsL_law wsL_holds_r19 := goodIn_r _ [491, 492, 493, 494, 495, 496, 497, 498, 499, 500, 501, 502, 503, 504, 505, 506, 507, 508, 509, 510, 511, 512, 513, 514] rfl (by decide +kernel)
set_option maxRecDepth 20000 in
theorem gp_law_holds_19 : GoodIn wsL_law wsL_holds_r20 := goodIn_r _ [515, 516, 517, 518, 519, 520, 521, 522, 523, 524, 525, 526, 527, 528, 529, 530, 531, 532, 533, 534, 535, 536, 537, 538] rfl (by decide +kernel)
set_option maxRecDepth 20000 in
theorem gp_law_holds_20 : GoodIn wsL_law wsL_holds_r21 := goodIn_r _ [539, 540, 541, 542, 543, 544, 545, 546, 547, 548, 549, 550, 551, 552, 553, 554, 555, 556, 557, 558, 559, 560, 561, 562] rfl (by decide +kernel)
set_option maxRecDepth 20000 in
theorem gp_law_holds_21 : GoodIn wsL_law wsL_holds_r22 := goodIn_r _ [563, 564, 565, 566, 567, 568, 569, 570, 571, 572, 573, 574, 575, 576, 577, 578, 579, 638, 639, 640, 627, 628, 629, 630] rfl (by decide +kernel)
set_option maxRecDepth 20000 in
theorem gp_law_holds_22 : GoodIn wsL_law wsL_holds_r23 := goodIn_r _ [631, 632, 633, 634, 61, 584, 585, 586, 587] rfl (by decide +kernel)
set_option maxRecDepth 20000 in
theorem gp_law_holds_h : GoodIn wsL_law [.code yL_holds cL_holds 14 (some .boolean)] := goodIn_r _ [637] rfl (by decide +kernel)
set_option maxRecDepth 20000 in
theorem ggL_law_L_holds : GoodIn wsL_law wsL_holds := (goodIn_ca (goodIn_ca (goodIn_ca (goodIn_ca (goodIn_ca (goodIn_ca (goodIn_ca (goodIn_ca (goodIn_ca (goodIn_ca (goodIn_cons gp_law_holds_h (goodIn_app gp_law_holds_0 (goodIn_app gp_law_holds_1 (goodIn_app gp_law_holds_2 (goodIn_app gp_law_holds_3 (goodIn_app gp_law_holds_4 (goodIn_app gp_law_holds_5 (goodIn_app gp_law_holds_6 (goodIn_app gp_law_holds_7 (goodIn_app gp_law_holds_8 (goodIn_app gp_law_holds_9 (goodIn_app gp_law_holds_10 (goodIn_app gp_law_holds_11 (goodIn_app gp_law_holds_12 (goodIn_app gp_law_holds_13 (goodIn_app gp_law_holds_14 (goodIn_app gp_law_holds_15 (goodIn_app gp_law_holds_16 (goodIn_app gp_law_holds_17 (goodIn_app gp_law_holds_18 (goodIn_app gp_law_holds_19 (goodIn_app gp_law_holds_20 (goodIn_app gp_law_holds_21 gp_law_holds_22))))))))))))))))))))))) (goodIn_sub (fun _ h => (List.mem_append_left _ (List.mem_append_left _ (List.mem_append_left _ (List.mem_append_left _ (List.mem_append_left _ (List.mem_append_left _ (List.mem_append_left _ (List.mem_append_left _ (List.mem_append_left _ (List.mem_append_left _ (List.mem_append_right _ h)))))))))))) (by decide +kernel))) (goodIn_sub (fun _ h => (List.mem_append_left _ (List.mem_append_left _ (List.mem_append_left _ (List.mem_append_left _ (List.mem_append_left _ (List.mem_append_left _ (List.mem_append_left _ (List.mem_append_left _ (List.mem_append_left _ (List.mem_append_right _ h))))))))))) (by decide +kernel))) (goodIn_sub (fun _ h => (List.mem_append_left _ (List.mem_append_left _ (List.mem_append_left _ (List.mem_append_left _ (List.mem_append_left _ (List.mem_append_right _ h))))))) (by decide +kernel))) (goodIn_sub (fun _ h => (List.mem_append_left _ (List.mem_append_left _ (List.mem_append_left _ (List.mem_append_left _ (List.mem_append_left _ (List.mem_append_left _ (List.mem_append_left _ (List.mem_append_left _ (List.mem_append_right _ h)))))))))) (by decide +kernel))) (goodIn_sub (fun _ h => (List.mem_append_left _ (List.mem_append_left _ (List.mem_append_left _ (List.mem_append_left _ (List.mem_append_right _ h)))))) (by decide +kernel))) (goodIn_sub (fun _ h => (List.mem_append_left _ (List.mem_append_left _ (List.mem_append_left _ (List.mem_append_left _ (List.mem_append_left _ (List.mem_append_left _ (List.mem_append_right _ h)))))))) (by decide +kernel))) (goodIn_sub (fun _ h => (List.mem_append_left _ (List.mem_append_left _ (List.mem_append_left _ (List.mem_append_left _ (List.mem_append_left _ (List.mem_append_left _ (List.mem_append_left _ (List.mem_append_right _ h))))))))) (by decide +kernel))) (goodIn_sub (fun _ h => (List.mem_append_left _ (List.mem_append_left _ (List.mem_append_right _ h)))) (by decide +kernel))) (goodIn_sub (fun _ h => (List.mem_append_left _ (List.mem_append_right _ h))) (by decide +kernel))) (goodIn_sub (fun _ h => (List.mem_append_right _ h)) (by decide +kernel)))
set_option maxRecDepth 20000 in
theorem gL_law_L_holds : GoodIn wsL_law (va_wsS RL 192 yL_holds wsL_holds) := goodIn_app (goodIn_of _ (by decide +kernel)) ggL_law_L_holds
set_option maxRecDepth 20000 in
theorem gp_law_steps_0 : GoodIn wsL_law wsL_steps_r1 := goodIn_r _ [644, 138, 139, 130, 140, 141, 142, 143, 144, 145, 146, 147, 148, 149, 150, 2, 151, 152, 153, 154, 155, 13, 156, 157] rfl (by decide +kernel)
set_option maxRecDepth 20000 in
theorem gp_law_steps_1 : GoodIn wsL_law wsL_steps_r2 := goodIn_r _ [158, 12, 159, 160, 161, 162, 163, 164, 36, 165, 166, 167, 168, 169, 170, 171, 17, 26, 30, 172, 31, 173, 174, 175] rfl (by decide +kernel)
set_option maxRecDepth 20000 in
theorem gp_law_steps_2 : GoodIn wsL_law wsL_steps_r3 := goodIn_r _ [176, 177, 178, 179, 180, 181, 182, 183, 184, 185, 186, 187, 188, 189, 190, 191, 192, 193, 194, 195, 83, 84, 85, 16] rfl (by decide +kernel)
set_option maxRecDepth 20000 in
theorem gp_law_steps_3 : GoodIn wsL_law wsL_steps_r4 := goodIn_r _ [86, 87, 88, 89, 90, 91, 43, 92, 93, 44, 94, 95, 96, 97, 46, 98, 99, 100, 101, 102, 103, 104, 105, 106] rfl (by decide +kernel)
set_option maxRecDepth 20000 in
theorem gp_law_steps_4 : GoodIn wsL_law wsL_steps_r5 := goodIn_r _ [107, 108, 109, 110, 111, 112, 113, 114, 115, 116, 117, 118, 119, 42, 120, 53, 121, 122, 123, 124, 125, 126, 127, 51] rfl (by decide +kernel)
set_option maxRecDepth 20000 in
theorem gp_law_steps_5 : GoodIn wsL_law wsL_steps_r6 := goodIn_r _ [67, 68, 196, 197, 198, 25, 199, 200, 201, 202, 203, 204, 22, 205, 206, 207, 208, 209, 210, 211, 212, 213, 214, 215] rfl (by decide +kernel)
set_option maxRecDepth 20000 in
theorem gp_law_steps_6 : GoodIn wsL_law wsL_steps_r7 := goodIn_r _ [216, 217, 218, 219, 220, 221, 222, 223, 224, 225, 226, 227, 228, 229, 230, 231, 232, 233, 234, 64, 65, 66, 69, 70] rfl (by decide +kernel)
set_option maxRecDepth 20000 in
theorem gp_law_steps_7 : GoodIn wsL_law wsL_steps_r8 := goodIn_r _ [71, 235, 236, 237, 238, 239, 240, 241, 242, 243, 244, 245, 246, 247, 248, 249, 250, 251, 252, 253, 254, 255, 256, 50] rfl (by decide +kernel)
set_option maxRecDepth 20000 in
theorem gp_law_steps_8 : GoodIn wsL_law wsL_steps_r9 := goodIn_r _ [257, 258, 259, 260, 261, 262, 263, 264, 265, 266, 267, 268, 269, 270, 271, 272, 273, 274, 275, 276, 277, 278, 279, 280] rfl (by decide +kernel)
set_option maxRecDepth 20000 in
theorem gp_law_steps_9 : GoodIn wsL_law wsL_steps_r10 := goodIn_r _ [281, 282, 21, 283, 59, 60, 284, 285, 286, 287, 288, 289, 290, 291, 292, 293, 294, 295, 62, 58, 296, 297, 298, 299] rfl (by decide +kernel)
set_option maxRecDepth 20000 in
theorem gp_law_steps_10 : GoodIn wsL_law wsL_steps_r11 := goodIn_r _ [63, 300, 301, 302, 303, 304, 305, 306, 307, 308, 309, 310, 311, 312, 313, 314, 315, 316, 317, 318, 319, 320, 321, 322] rfl (by decide +kernel)
set_option maxRecDepth 20000 in
theorem gp_law_steps_11 : GoodIn wsL_law wsL_steps_r12 := goodIn_r _ [323, 324, 325, 326, 327, 328, 329, 330, 331, 332, 333, 334, 335, 336, 337, 338, 339, 340, 341, 342, 343, 344, 345, 346] rfl (by decide +kernel)
set_option maxRecDepth 20000 in
theorem gp_law_steps_12 : GoodIn wsL_law wsL_steps_r13 := goodIn_r _ [347, 348, 349, 350, 351, 352, 353, 354, 355, 356, 357, 358, 359, 360, 361, 362, 363, 364, 365, 366, 367, 368, 369, 370] rfl (by decide +kernel)
set_option maxRecDepth 20000 in
theorem gp_law_steps_13 : GoodIn wsL_law wsL_steps_r14 := goodIn_r _ [371, 372, 373, 374, 375, 376, 377, 378, 379, 380, 381, 382, 383, 384, 385, 386, 387, 388, 389, 390, 391, 392, 393, 394] rfl (by decide +kernel)
set_option maxRecDepth 20000 in
theorem gp_law_steps_14 : GoodIn wsL_law wsL_steps_r15 := goodIn_r _ [395, 396, 397, 398, 399, 400, 401, 402, 403, 404, 405, 406, 407, 408, 409, 410, 411, 412, 413, 414, 415, 416, 417, 418] rfl (by decide +kernel)
set_option maxRecDepth 20000 in
theorem gp_law_steps_15 : GoodIn wsL_law wsL_steps_r16 := goodIn_r _ [419, 420, 421, 422, 423, 424, 425, 426, 427, 428, 429, 430, 431, 432, 433, 434, 435, 436, 437, 438, 439, 440, 441, 442] rfl (by decide +kernel)
set_option maxRecDepth 20000 in
theorem gp_law_steps_16 : GoodIn wsL_law wsL_steps_r17 := goodIn_r _ [443, 444, 445, 446, 447, 448, 449, 450, 451, 452, 453, 454, 455, 456, 457, 458, 459, 460, 461, 462, 77, 463, 464, 465] rfl (by decide +kernel)
set_option maxRecDepth 20000 in
theorem gp_law_steps_17 : GoodIn wsL_law wsL_steps_r18 := goodIn_r _ [466, 467, 468, 469, 470, 471, 472, 473, 474, 475, 476, 477, 478, 479, 480, 481, 482, 483, 484, 485, 486, 487, 488, 489] rfl (by decide +kernel)
set_option maxRecDepth 20000 in
theorem gp_law_steps_18 : GoodIn wsL_law wsL_steps_r19 := goodIn_r _ [490, 491, 492, 493, 494, 495, 496, 497, 498, 499, 500, 501, 502, 503, 504, 505, 506, 507, 508, 509, 510, 511, 512, 513] rfl (by decide +kernel)
set_option maxRecDepth 20000 in
theorem gp_law_steps_19 : GoodIn wsL_law wsL_steps_r20 := goodIn_r _ [514, 515, 516, 517, 518, 519, 520, 521, 522, 523, 524, 525, 526, 527, 528, 529, 530, 531, 532, 533, 534, 535, 536, 537] rfl (by decide +kernel)
set_option maxRecDepth 20000 in
theorem gp_law_steps_20 : GoodIn wsL_law wsL_steps_r21 := goodIn_r _ [538, 539, 540, 541, 542, 543, 544, 545, 546, 547, 548, 549, 550, 551, 552, 553, 554, 555, 556, 557, 558, 559, 560, 561] rfl (by decide +kernel)
set_option maxRecDepth 20000 in
theorem gp_law_steps_21 : GoodIn wsL_law wsL_steps_r22 := goodIn_r _ [562, 563, 564, 565, 566, 567, 568, 569, 570, 571, 572, 573, 574, 575, 576, 577, 578, 579, 584, 585, 586, 587, 638, 639] rfl (by decide +kernel)
set_option maxRecDepth 20000 in
theorem gp_law_steps_22 : GoodIn wsL_law wsL_steps_r23 := goodIn_r _ [640, 645, 646, 647, 648, 649, 650] rfl (by decide +kernel)
set_option maxRecDepth 20000 in
theorem gp_law_steps_h : GoodIn wsL_law [.code yL_steps cL_steps 20 (some .boolean)] := goodIn_r _ [643] rfl (by decide +kernel)
set_option maxRecDepth 20000 in
theorem ggL_law_L_steps : GoodIn wsL_law wsL_steps := (goodIn_ca (goodIn_ca (goodIn_ca (goodIn_ca (goodIn_ca (goodIn_ca (goodIn_ca (goodIn_ca (goodIn_ca (goodIn_ca (goodIn_cons gp_law_steps_h (goodIn_app gp_law_steps_0 (goodIn_app gp_law_steps_1 (goodIn_app gp_law_steps_2 (goodIn_app gp_law_steps_3 (goodIn_app gp_law_steps_4 (goodIn_app gp_law_steps_5 (goodIn_app gp_law_steps_6 (goodIn_app gp_law_steps_7 (goodIn_app gp_law_steps_8 (goodIn_app gp_law_steps_9 (goodIn_app gp_law_steps_10 (goodIn_app gp_law_steps_11 (goodIn_app gp_law_steps_12 (goodIn_app gp_law_steps_13 (goodIn_app gp_law_steps_14 (goodIn_app gp_law_steps_15 (goodIn_app gp_law_steps_16 (goodIn_app gp_law_steps_17 (goodIn_app gp_law_steps_18 (goodIn_app gp_law_steps_19 (goodIn_app gp_law_steps_20 (goodIn_app gp_law_steps_21 gp_law_steps_22))))))))))))))))))))))) (goodIn_sub (fun _ h => (List.mem_append_left _ (List.mem_append_left _ (List.mem_append_left _ (List.mem_append_left _ (List.mem_append_left _ (List.mem_append_left _ (List.mem_append_left _ (List.mem_append_left _ (List.mem_append_left _ (List.mem_append_left _ (List.mem_append_right _ h)))))))))))) (by decide +kernel))) (goodIn_sub (fun _ h => (List.mem_append_left _ (List.mem_append_left _ (List.mem_append_left _ (List.mem_append_left _ (List.mem_append_left _ (List.mem_append_left _ (List.mem_append_left _ (List.mem_append_left _ (List.mem_append_left _ (List.mem_append_right _ h))))))))))) (by decide +kernel))) (goodIn_sub (fun _ h => (List.mem_append_left _ (List.mem_append_left _ (List.mem_append_left _ (List.mem_append_left _ (List.mem_append_left _ (List.mem_append_right _ h))))))) (by decide +kernel))) (goodIn_sub (fun _ h => (List.mem_append_left _ (List.mem_append_left _ (List.mem_append_left _ (List.mem_append_left _ (List.mem_append_left _ (List.mem_append_left _ (List.mem_append_left _ (List.mem_append_left _ (List.mem_append_right _ h)))))))))) (by decide +kernel))) (goodIn_sub (fun _ h => (List.mem_append_left _ (List.mem_append_left _ (List.mem_append_left _ (List.mem_append_left _ (List.mem_append_right _ h)))))) (by decide +kernel))) (goodIn_sub (fun _ h => (List.mem_append_left _ (List.mem_append_left _ (List.mem_append_left _ (List.mem_append_left _ (List.mem_append_left _ (List.mem_append_left _ (List.mem_append_right _ h)))))))) (by decide +kernel))) (goodIn_sub (fun _ h => (List.mem_append_left _ (List.mem_append_left _ (List.mem_append_left _ (List.mem_append_left _ (List.mem_append_left _ (List.mem_append_left _ (List.mem_append_left _ (List.mem_append_right _ h))))))))) (by decide +kernel))) (goodIn_sub (fun _ h => (List.mem_append_left _ (List.mem_append_left _ (List.mem_append_right _ h)))) (by decide +kernel))) (goodIn_sub (fun _ h => (List.mem_append_left _ (List.mem_append_right _ h))) (by decide +kernel))) (goodIn_sub (fun _ h => (List.mem_append_right _ h)) (by decide +kernel)))
set_option maxRecDepth 20000 in
theorem gL_law_L_steps : GoodIn wsL_law (va_wsS RL 195 yL_steps wsL_steps) := goodIn_app (goodIn_of _ (by decide +kernel)) ggL_law_L_steps
set_option maxRecDepth 20000 in
theorem gp_law_builds_0 : GoodIn wsL_law wsL_builds_r1 := goodIn_r _ [138, 139, 130, 140, 141, 142, 143, 144, 145, 146, 147, 148, 149, 150, 2, 151, 152, 153, 154, 155, 13, 156, 157, 158] rfl (by decide +kernel)
set_option maxRecDepth 20000 in
theorem gp_law_builds_1 : GoodIn wsL_law wsL_builds_r2 := goodIn_r _ [12, 159, 160, 161, 162, 163, 164, 36, 165, 166, 167, 168, 169, 170, 171, 17, 26, 30, 172, 31, 173, 174, 175, 176] rfl (by decide +kernel)
set_option maxRecDepth 20000 in
theorem gp_law_builds_2 : GoodIn wsL_law wsL_builds_r3 := goodIn_r _ [177, 178, 179, 180, 181, 182, 183, 184, 185, 186, 187, 188, 189, 190, 191, 192, 193, 194, 195, 83, 84, 85, 16, 86] rfl (by decide +kernel)
set_option maxRecDepth 20000 in
theorem gp_law_builds_3 : GoodIn wsL_law wsL_builds_r4 := goodIn_r _ [87, 88, 89, 90, 91, 43, 92, 93, 44, 94, 95, 96, 97, 46, 98, 99, 100, 101, 102, 103, 104, 105, 106, 107] rfl (by decide +kernel)
set_option maxRecDepth 20000 in
theorem gp_law_builds_4 : GoodIn wsL_law wsL_builds_r5 := goodIn_r _ [108, 109, 110, 111, 112, 113, 114, 115, 116, 117, 118, 119, 42, 120, 53, 121, 122, 123, 124, 125, 126, 127, 51, 67] rfl (by decide +kernel)
set_option maxRecDepth 20000 in
theorem gp_law_builds_5 : GoodIn wsL_law wsL_builds_r6 := goodIn_r _ [68, 196, 197, 198, 25, 199, 200, 201, 202, 203, 204, 22, 205, 206, 207, 208, 209, 210, 211, 212, 213, 214, 215, 216] rfl (by decide +kernel)
set_option maxRecDepth 20000 in
theorem gp_law_builds_6 : GoodIn wsL_law wsL_builds_r7 := goodIn_r _ [217, 218, 219, 220, 221, 222, 223, 224, 225, 226, 227, 228, 229, 230, 231, 232, 233, 234, 64, 65, 66, 69, 70, 71] rfl (by decide +kernel)
set_option maxRecDepth 20000 in
theorem gp_law_builds_7 : GoodIn wsL_law wsL_builds_r8 := goodIn_r _ [235, 236, 237, 238, 239, 240, 241, 242, 243, 244, 245, 246, 247, 248, 249, 250, 251, 252, 253, 254, 255, 256, 50, 257] rfl (by decide +kernel)
set_option maxRecDepth 20000 in
theorem gp_law_builds_8 : GoodIn wsL_law wsL_builds_r9 := goodIn_r _ [258, 259, 260, 261, 262, 263, 264, 265, 266, 267, 268, 269, 270, 271, 272, 273, 274, 275, 276, 277, 278, 279, 280, 281] rfl (by decide +kernel)
set_option maxRecDepth 20000 in
theorem gp_law_builds_9 : GoodIn wsL_law wsL_builds_r10 := goodIn_r _ [282, 21, 283, 59, 60, 284, 285, 286, 287, 288, 289, 290, 291, 292, 293, 294, 295, 62, 58, 296, 297, 298, 299, 63] rfl (by decide +kernel)
set_option maxRecDepth 20000 in
theorem gp_law_builds_10 : GoodIn wsL_law wsL_builds_r11 := goodIn_r _ [300, 301, 302, 303, 304, 305, 306, 307, 308, 309, 310, 311, 312, 313, 314, 315, 316, 317, 318, 319, 320, 321, 322, 323] rfl (by decide +kernel)
set_option maxRecDepth 20000 in
theorem gp_law_builds_11 : GoodIn wsL_law wsL_builds_r12 := goodIn_r _ [324, 325, 326, 327, 328, 329, 330, 331, 332, 333, 334, 335, 336, 337, 338, 339, 340, 341, 342, 343, 344, 345, 346, 347] rfl (by decide +kernel)
set_option maxRecDepth 20000 in
theorem gp_law_builds_12 : GoodIn wsL_law wsL_builds_r13 := goodIn_r _ [348, 349, 350, 351, 352, 353, 354, 355, 356, 357, 358, 359, 360, 361, 362, 363, 364, 365, 366, 367, 368, 369, 370, 371] rfl (by decide +kernel)
set_option maxRecDepth 20000 in
theorem gp_law_builds_13 : GoodIn wsL_law wsL_builds_r14 := goodIn_r _ [372, 373, 374, 375, 376, 377, 378, 379, 380, 381, 382, 383, 384, 385, 386, 387, 388, 389, 390, 391, 392, 393, 394, 395] rfl (by decide +kernel)
set_option maxRecDepth 20000 in
theorem gp_law_builds_14 : GoodIn wsL_law wsL_builds_r15 := goodIn_r _ [396, 397, 398, 399, 400, 401, 402, 403, 404, 405, 406, 407, 408, 409, 410, 411, 412, 413, 414, 415, 416, 417, 418, 419] rfl (by decide +kernel)
set_option maxRecDepth 20000 in
theorem gp_law_builds_15 : GoodIn wsL_law wsL_builds_r16 := goodIn_r _ [420, 421, 422, 423, 424, 425, 426, 427, 428, 429, 430, 431, 432, 433, 434, 435, 436, 437, 438, 439, 440, 441, 442, 443] rfl (by decide +kernel)
set_option maxRecDepth 20000 in
theorem gp_law_builds_16 : GoodIn wsL_law wsL_builds_r17 := goodIn_r _ [444, 445, 446, 447, 448, 449, 450, 451, 452, 453, 454, 455, 456, 457, 458, 459, 460, 461, 462, 77, 463, 464, 465, 466] rfl (by decide +kernel)
set_option maxRecDepth 20000 in
theorem gp_law_builds_17 : GoodIn wsL_law wsL_builds_r18 := goodIn_r _ [467, 468, 469, 470, 471, 472, 473, 474, 475, 476, 477, 478, 479, 480, 481, 482, 483, 484, 485, 486, 487, 488, 489, 490] rfl (by decide +kernel)
set_option maxRecDepth 20000 in
theorem gp_law_builds_18 : GoodIn wsL_law wsL_builds_r19 := goodIn_r _ [491, 492, 493, 494, 495, 496, 497, 498, 499, 500, 501, 502, 503, 504, 505, 506, 507, 508, 509, 510, 511, 512, 513, 514] rfl (by decide +kernel)
set_option maxRecDepth 20000 in
theorem gp_law_builds_19 : GoodIn wsL_law wsL_builds_r20 := goodIn_r _ [515, 516, 517, 518, 519, 520, 521, 522, 523, 524, 525, 526, 527, 528, 529, 530, 531, 532, 533, 534, 535, 536, 537, 538] rfl (by decide +kernel)
set_option maxRecDepth 20000 in
theorem gp_law_builds_20 : GoodIn wsL_law wsL_builds_r21 := goodIn_r _ [539, 540, 541, 542, 543, 544, 545, 546, 547, 548, 549, 550, 551, 552, 553, 554, 555, 556, 557, 558, 559, 560, 561, 562] rfl (by decide +kernel)
set_option maxRecDepth 20000 in
theorem gp_law_builds_21 : GoodIn wsL_law wsL_builds_r22 := goodIn_r _ [563, 564, 565, 566, 567, 568, 569, 570, 571, 572, 573, 574, 575, 576, 577, 578, 579, 645, 646, 647] rfl (by decide +kernel)
set_option maxRecDepth 20000 in
theorem gp_law_builds_h : GoodIn wsL_law [.code yL_builds cL_builds 12 (some .boolean)] := goodIn_r _ [653] rfl (by decide +kernel)
set_option maxRecDepth 20000 in
theorem ggL_law_L_builds : GoodIn wsL_law wsL_builds := (goodIn_ca (goodIn_ca (goodIn_ca (goodIn_ca (goodIn_ca (goodIn_ca (goodIn_ca (goodIn_ca (goodIn_ca (goodIn_ca (goodIn_cons gp_law_builds_h (goodIn_app gp_law_builds_0 (goodIn_app gp_law_builds_1 (goodIn_app gp_law_builds_2 (goodIn_app gp_law_builds_3 (goodIn_app gp_law_builds_4 (goodIn_app gp_law_builds_5 (goodIn_app gp_law_builds_6 (goodIn_app gp_law_builds_7 (goodIn_app gp_law_builds_8 (goodIn_app gp_law_builds_9 (goodIn_app gp_law_builds_10 (goodIn_app gp_law_builds_11 (goodIn_app gp_law_builds_12 (goodIn_app gp_law_builds_13 (goodIn_app gp_law_builds_14 (goodIn_app gp_law_builds_15 (goodIn_app gp_law_builds_16 (goodIn_app gp_law_builds_17 (goodIn_app gp_law_builds_18 (goodIn_app gp_law_builds_19 (goodIn_app gp_law_builds_20 gp_law_builds_21)))))))))))))))))))))) (goodIn_sub (fun _ h => (List.mem_append_left _ (List.mem_append_left _ (List.mem_append_left _ (List.mem_append_left _ (List.mem_append_left _ (List.mem_append_left _ (List.mem_append_left _ (List.mem_append_left _ (List.mem_append_left _ (List.mem_append_left _ (List.mem_append_right _ h)))))))))))) (by decide +kernel))) (goodIn_sub (fun _ h => (List.mem_append_left _ (List.mem_append_left _ (List.mem_append_left _ (List.mem_append_left _ (List.mem_append_left _ (List.mem_append_left _ (List.mem_append_left _ (List.mem_append_left _ (List.mem_append_left _ (List.mem_append_right _ h))))))))))) (by decide +kernel))) (goodIn_sub (fun _ h => (List.mem_append_left _ (List.mem_append_left _ (List.mem_append_left _ (List.mem_append_left _ (List.mem_append_left _ (List.mem_append_right _ h))))))) (by decide +kernel))) (goodIn_sub (fun _ h => (List.mem_append_left _ (List.mem_append_left _ (List.mem_append_left _ (List.mem_append_left _ (List.mem_append_left _ (List.mem_append_left _ (List.mem_append_left _ (List.mem_append_left _ (List.mem_append_right _ h)))))))))) (by decide +kernel))) (goodIn_sub (fun _ h => (List.mem_append_left _ (List.mem_append_left _ (List.mem_append_left _ (List.mem_append_left _ (List.mem_append_right _ h)))))) (by decide +kernel))) (goodIn_sub (fun _ h => (List.mem_append_left _ (List.mem_append_left _ (List.mem_append_left _ (List.mem_append_left _ (List.mem_append_left _ (List.mem_append_left _ (List.mem_append_right _ h)))))))) (by decide +kernel))) (goodIn_sub (fun _ h => (List.mem_append_left _ (List.mem_append_left _ (List.mem_append_left _ (List.mem_append_left _ (List.mem_append_left _ (List.mem_append_left _ (List.mem_append_left _ (List.mem_append_right _ h))))))))) (by decide +kernel))) (goodIn_sub (fun _ h => (List.mem_append_left _ (List.mem_append_left _ (List.mem_append_right _ h)))) (by decide +kernel))) (goodIn_sub (fun _ h => (List.mem_append_left _ (List.mem_append_right _ h))) (by decide +kernel))) (goodIn_sub (fun _ h => (List.mem_append_right _ h)) (by decide +kernel)))
set_option maxRecDepth 20000 in
theorem gL_law_L_builds : GoodIn wsL_law (va_wsS RL 198 yL_builds wsL_builds) := goodIn_app (goodIn_of _ (by decide +kernel)) ggL_law_L_builds
theorem dL_law_0 : decode cL_law 0 = .ok (.new 8, 3) := by decide +kernel
theorem dL_law_3 : decode cL_law 3 = .ok (.dup, 1) := by decide +kernel
theorem dL_law_4 : decode cL_law 4 = .ok (.invokespecial 175, 3) := by decide +kernel
theorem dL_law_7 : decode cL_law 7 = .ok (.astore_n 1, 1) := by decide +kernel
theorem dL_law_8 : decode cL_law 8 = .ok (.new 8, 3) := by decide +kernel
theorem dL_law_11 : decode cL_law 11 = .ok (.dup, 1) := by decide +kernel
theorem dL_law_12 : decode cL_law 12 = .ok (.invokespecial 175, 3) := by decide +kernel
theorem dL_law_15 : decode cL_law 15 = .ok (.astore_n 2, 1) := by decide +kernel
theorem dL_law_16 : decode cL_law 16 = .ok (.bipush 14, 2) := by decide +kernel
theorem dL_law_18 : decode cL_law 18 = .ok (.aload_n 0, 1) := by decide +kernel
theorem dL_law_19 : decode cL_law 19 = .ok (.iconst 0, 1) := by decide +kernel
theorem dL_law_20 : decode cL_law 20 = .ok (.invokestatic 176, 3) := by decide +kernel
theorem dL_law_23 : decode cL_law 23 = .ok (.bipush 27, 2) := by decide +kernel
theorem dL_law_25 : decode cL_law 25 = .ok (.irem, 1) := by decide +kernel
theorem dL_law_26 : decode cL_law 26 = .ok (.iadd, 1) := by decide +kernel
theorem dL_law_27 : decode cL_law 27 = .ok (.istore_n 3, 1) := by decide +kernel
theorem dL_law_28 : decode cL_law 28 = .ok (.iconst 1, 1) := by decide +kernel
theorem dL_law_29 : decode cL_law 29 = .ok (.istore 4, 2) := by decide +kernel
theorem dL_law_31 : decode cL_law 31 = .ok (.iconst 0, 1) := by decide +kernel
theorem dL_law_32 : decode cL_law 32 = .ok (.istore 5, 2) := by decide +kernel
theorem dL_law_34 : decode cL_law 34 = .ok (.iload 5, 2) := by decide +kernel
theorem dL_law_36 : decode cL_law 36 = .ok (.iload_n 3, 1) := by decide +kernel
theorem dL_law_37 : decode cL_law 37 = .ok (.if_icmp .ge 147, 3) := by decide +kernel
theorem dL_law_40 : decode cL_law 40 = .ok (.iload 4, 2) := by decide +kernel
theorem dL_law_42 : decode cL_law 42 = .ok (.ifCond .eq 142, 3) := by decide +kernel
theorem dL_law_45 : decode cL_law 45 = .ok (.aload_n 0, 1) := by decide +kernel
theorem dL_law_46 : decode cL_law 46 = .ok (.iconst 1, 1) := by decide +kernel
theorem dL_law_47 : decode cL_law 47 = .ok (.iload 5, 2) := by decide +kernel
theorem dL_law_49 : decode cL_law 49 = .ok (.iadd, 1) := by decide +kernel
theorem dL_law_50 : decode cL_law 50 = .ok (.invokestatic 176, 3) := by decide +kernel
theorem dL_law_53 : decode cL_law 53 = .ok (.istore 6, 2) := by decide +kernel
theorem dL_law_55 : decode cL_law 55 = .ok (.aload_n 1, 1) := by decide +kernel
theorem dL_law_56 : decode cL_law 56 = .ok (.iload 6, 2) := by decide +kernel
theorem dL_law_58 : decode cL_law 58 = .ok (.invokestatic 180, 3) := by decide +kernel
theorem dL_law_61 : decode cL_law 61 = .ok (.istore 7, 2) := by decide +kernel
theorem dL_law_63 : decode cL_law 63 = .ok (.aload_n 2, 1) := by decide +kernel
theorem dL_law_64 : decode cL_law 64 = .ok (.iload 6, 2) := by decide +kernel
theorem dL_law_66 : decode cL_law 66 = .ok (.ldc 183, 2) := by decide +kernel
theorem dL_law_68 : decode cL_law 68 = .ok (.irem, 1) := by decide +kernel
theorem dL_law_69 : decode cL_law 69 = .ok (.invokestatic 184, 3) := by decide +kernel
theorem dL_law_72 : decode cL_law 72 = .ok (.ifCond .eq 103, 3) := by decide +kernel
theorem dL_law_75 : decode cL_law 75 = .ok (.aload_n 2, 1) := by decide +kernel
theorem dL_law_76 : decode cL_law 76 = .ok (.iload 6, 2) := by decide +kernel
theorem dL_law_78 : decode cL_law 78 = .ok (.invokestatic 180, 3) := by decide +kernel
theorem dL_law_81 : decode cL_law 81 = .ok (.iload 7, 2) := by decide +kernel
theorem dL_law_83 : decode cL_law 83 = .ok (.if_icmp .ne 92, 3) := by decide +kernel
theorem dL_law_86 : decode cL_law 86 = .ok (.aload_n 2, 1) := by decide +kernel
theorem dL_law_87 : decode cL_law 87 = .ok (.iload 6, 2) := by decide +kernel
theorem dL_law_89 : decode cL_law 89 = .ok (.sipush 1000, 3) := by decide +kernel
theorem dL_law_92 : decode cL_law 92 = .ok (.irem, 1) := by decide +kernel
theorem dL_law_93 : decode cL_law 93 = .ok (.invokestatic 184, 3) := by decide +kernel
theorem dL_law_96 : decode cL_law 96 = .ok (.ifCond .eq 79, 3) := by decide +kernel
theorem dL_law_99 : decode cL_law 99 = .ok (.aload_n 1, 1) := by decide +kernel
theorem dL_law_100 : decode cL_law 100 = .ok (.aload_n 2, 1) := by decide +kernel
theorem dL_law_101 : decode cL_law 101 = .ok (.iload 6, 2) := by decide +kernel
theorem dL_law_103 : decode cL_law 103 = .ok (.sipush 5000, 3) := by decide +kernel
theorem dL_law_106 : decode cL_law 106 = .ok (.irem, 1) := by decide +kernel
theorem dL_law_107 : decode cL_law 107 = .ok (.invokestatic 188, 3) := by decide +kernel
theorem dL_law_110 : decode cL_law 110 = .ok (.ifCond .eq 65, 3) := by decide +kernel
theorem dL_law_113 : decode cL_law 113 = .ok (.iload 5, 2) := by decide +kernel
theorem dL_law_115 : decode cL_law 115 = .ok (.iconst 2, 1) := by decide +kernel
theorem dL_law_116 : decode cL_law 116 = .ok (.irem, 1) := by decide +kernel
theorem dL_law_117 : decode cL_law 117 = .ok (.ifCond .ne 17, 3) := by decide +kernel
theorem dL_law_120 : decode cL_law 120 = .ok (.aload_n 1, 1) := by decide +kernel
theorem dL_law_121 : decode cL_law 121 = .ok (.iload 6, 2) := by decide +kernel
theorem dL_law_123 : decode cL_law 123 = .ok (.iconst 3, 1) := by decide +kernel
theorem dL_law_124 : decode cL_law 124 = .ok (.idiv, 1) := by decide +kernel
theorem dL_law_125 : decode cL_law 125 = .ok (.invokestatic 192, 3) := by decide +kernel
theorem dL_law_128 : decode cL_law 128 = .ok (.ifCond .eq 47, 3) := by decide +kernel
theorem dL_law_131 : decode cL_law 131 = .ok (.goto 14, 3) := by decide +kernel
theorem dL_law_134 : decode cL_law 134 = .ok (.aload_n 2, 1) := by decide +kernel
theorem dL_law_135 : decode cL_law 135 = .ok (.iload 6, 2) := by decide +kernel
theorem dL_law_137 : decode cL_law 137 = .ok (.iconst 3, 1) := by decide +kernel
theorem dL_law_138 : decode cL_law 138 = .ok (.idiv, 1) := by decide +kernel
theorem dL_law_139 : decode cL_law 139 = .ok (.invokestatic 192, 3) := by decide +kernel
theorem dL_law_142 : decode cL_law 142 = .ok (.ifCond .eq 33, 3) := by decide +kernel
theorem dL_law_145 : decode cL_law 145 = .ok (.aload_n 1, 1) := by decide +kernel
theorem dL_law_146 : decode cL_law 146 = .ok (.aload_n 2, 1) := by decide +kernel
theorem dL_law_147 : decode cL_law 147 = .ok (.iload 6, 2) := by decide +kernel
theorem dL_law_149 : decode cL_law 149 = .ok (.bipush 7, 2) := by decide +kernel
theorem dL_law_151 : decode cL_law 151 = .ok (.idiv, 1) := by decide +kernel
theorem dL_law_152 : decode cL_law 152 = .ok (.invokestatic 195, 3) := by decide +kernel
theorem dL_law_155 : decode cL_law 155 = .ok (.ifCond .eq 20, 3) := by decide +kernel
theorem dL_law_158 : decode cL_law 158 = .ok (.aload_n 1, 1) := by decide +kernel
theorem dL_law_159 : decode cL_law 159 = .ok (.aload_n 2, 1) := by decide +kernel
theorem dL_law_160 : decode cL_law 160 = .ok (.iload 6, 2) := by decide +kernel
theorem dL_law_162 : decode cL_law 162 = .ok (.bipush 11, 2) := by decide +kernel
theorem dL_law_164 : decode cL_law 164 = .ok (.idiv, 1) := by decide +kernel
theorem dL_law_165 : decode cL_law 165 = .ok (.invokestatic 198, 3) := by decide +kernel
theorem dL_law_168 : decode cL_law 168 = .ok (.ifCond .eq 7, 3) := by decide +kernel
theorem dL_law_171 : decode cL_law 171 = .ok (.iconst 1, 1) := by decide +kernel
theorem dL_law_172 : decode cL_law 172 = .ok (.goto 4, 3) := by decide +kernel
theorem dL_law_175 : decode cL_law 175 = .ok (.iconst 0, 1) := by decide +kernel
theorem dL_law_176 : decode cL_law 176 = .ok (.istore 4, 2) := by decide +kernel
theorem dL_law_178 : decode cL_law 178 = .ok (.iinc 5 1, 3) := by decide +kernel
theorem dL_law_181 : decode cL_law 181 = .ok (.goto (-147), 3) := by decide +kernel
theorem dL_law_184 : decode cL_law 184 = .ok (.iload 4, 2) := by decide +kernel
theorem dL_law_186 : decode cL_law 186 = .ok (.ireturn, 1) := by decide +kernel
