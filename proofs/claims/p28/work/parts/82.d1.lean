/-! alike: its rows -/
set_option maxRecDepth 20000 in
theorem gp_alike_doSimulate_0 : GoodIn wsL_alike wsL_doSimulate_r1 := goodIn_r _ [5, 6, 7, 8, 9, 10, 11, 12, 13, 14, 15, 16, 17, 18, 19, 20, 21, 22, 23, 24, 25, 26, 27, 28] rfl (by decide +kernel)
set_option maxRecDepth 20000 in
theorem gp_alike_doSimulate_1 : GoodIn wsL_alike wsL_doSimulate_r2 := goodIn_r _ [29, 30, 31, 32, 33, 34, 35, 36, 37, 38, 39, 40, 41, 42, 43, 44, 45, 46, 47, 48, 49, 50, 51, 52] rfl (by decide +kernel)
set_option maxRecDepth 20000 in
theorem gp_alike_doSimulate_2 : GoodIn wsL_alike wsL_doSimulate_r3 := goodIn_r _ [53, 54, 55, 56, 57, 58, 59, 60, 61, 62, 63, 64, 65, 66, 67, 68, 69, 70, 71, 72, 73, 74, 75, 76] rfl (by decide +kernel)
set_option maxRecDepth 20000 in
theorem gp_alike_doSimulate_3 : GoodIn wsL_alike wsL_doSimulate_r4 := goodIn_r _ [77, 78, 79, 80, 81, 82, 83, 84, 85, 86, 87, 88, 89, 90, 91, 92, 93, 94, 95, 96, 97, 98, 99, 100] rfl (by decide +kernel)
set_option maxRecDepth 20000 in
theorem gp_alike_doSimulate_4 : GoodIn wsL_alike wsL_doSimulate_r5 := goodIn_r _ [101, 102, 103, 104, 105, 106, 107, 108, 109, 110, 111, 112, 113, 114, 115, 116, 117, 118, 119, 120, 121, 122, 123, 124] rfl (by decide +kernel)
set_option maxRecDepth 20000 in
theorem gp_alike_doSimulate_5 : GoodIn wsL_alike wsL_doSimulate_r6 := goodIn_r _ [125, 126, 127, 128, 129, 130, 131, 132, 133, 134, 135, 136, 137, 138, 139, 140, 141, 142, 143, 144, 145, 146, 147, 148] rfl (by decide +kernel)
set_option maxRecDepth 20000 in
theorem gp_alike_doSimulate_6 : GoodIn wsL_alike wsL_doSimulate_r7 := goodIn_r _ [149, 150, 151, 152, 153, 154, 155, 156, 157, 158, 159, 160, 161, 162, 163, 164, 165, 166, 167, 168, 169, 170, 171, 172] rfl (by decide +kernel)
set_option maxRecDepth 20000 in
theorem gp_alike_doSimulate_7 : GoodIn wsL_alike wsL_doSimulate_r8 := goodIn_r _ [173, 174, 175, 176, 177, 178, 179, 180, 181, 182, 183, 184, 185, 186, 187, 188, 189, 190, 191, 192, 193, 194, 195, 196] rfl (by decide +kernel)
set_option maxRecDepth 20000 in
theorem gp_alike_doSimulate_8 : GoodIn wsL_alike wsL_doSimulate_r9 := goodIn_r _ [197, 198, 199, 200, 201, 202, 203, 204, 205, 206, 207, 208, 209, 210, 211, 212, 213, 214, 215, 216, 217, 218, 219, 220] rfl (by decide +kernel)
set_option maxRecDepth 20000 in
theorem gp_alike_doSimulate_9 : GoodIn wsL_alike wsL_doSimulate_r10 := goodIn_r _ [221, 222, 223, 224, 225, 226, 227, 228, 229, 230, 231, 232, 233, 234, 235] rfl (by decide +kernel)
set_option maxRecDepth 20000 in
theorem gp_alike_doSimulate_h : GoodIn wsL_alike [.codeWith yL_doSimulate cL_doSimulate 5 (some .int) [(0, 6, 7, 13)]] := goodIn_r _ [4] rfl (by decide +kernel)
set_option maxRecDepth 20000 in
theorem ggL_alike_L_doSimulate : GoodIn wsL_alike wsL_doSimulate := (goodIn_ca (goodIn_ca (goodIn_ca (goodIn_ca (goodIn_ca (goodIn_cons gp_alike_doSimulate_h (goodIn_app gp_alike_doSimulate_0 (goodIn_app gp_alike_doSimulate_1 (goodIn_app gp_alike_doSimulate_2 (goodIn_app gp_alike_doSimulate_3 (goodIn_app gp_alike_doSimulate_4 (goodIn_app gp_alike_doSimulate_5 (goodIn_app gp_alike_doSimulate_6 (goodIn_app gp_alike_doSimulate_7 (goodIn_app gp_alike_doSimulate_8 gp_alike_doSimulate_9)))))))))) (goodIn_sub (fun _ h => (List.mem_cons_of_mem _ (List.mem_append_left _ (List.mem_append_left _ (List.mem_append_left _ (List.mem_append_left _ (List.mem_append_left _ (List.mem_append_left _ (List.mem_append_left _ (List.mem_append_left _ (List.mem_append_left _ (List.mem_append_right _ h)))))))))))) (by decide +kernel))) (goodIn_sub (fun _ h => (List.mem_cons_of_mem _ (List.mem_append_left _ (List.mem_append_left _ (List.mem_append_left _ (List.mem_append_left _ (List.mem_append_left _ (List.mem_append_left _ (List.mem_append_left _ (List.mem_append_left _ (List.mem_append_right _ h))))))))))) (by decide +kernel))) (goodIn_sub (fun _ h => (List.mem_cons_of_mem _ (List.mem_append_left _ (List.mem_append_left _ (List.mem_append_left _ (List.mem_append_left _ (List.mem_append_left _ (List.mem_append_left _ (List.mem_append_left _ (List.mem_append_right _ h)))))))))) (by decide +kernel))) (goodIn_sub (fun _ h => (List.mem_cons_of_mem _ (List.mem_append_left _ (List.mem_append_left _ (List.mem_append_left _ (List.mem_append_left _ (List.mem_append_left _ (List.mem_append_left _ (List.mem_append_right _ h))))))))) (by decide +kernel))) (goodIn_sub (fun _ h => (List.mem_cons_of_mem _ (List.mem_append_left _ (List.mem_append_left _ (List.mem_append_right _ h))))) (by decide +kernel)))
set_option maxRecDepth 20000 in
theorem gL_alike_L_doSimulate : GoodIn wsL_alike (va_wsS RL 156 yL_doSimulate wsL_doSimulate) := goodIn_app (goodIn_of _ (by decide +kernel)) ggL_alike_L_doSimulate
set_option maxRecDepth 20000 in
theorem ggL_alike_X6_best : GoodIn wsL_alike wsX6_best := goodIn_r _ [239, 65, 15, 203, 204, 205, 156, 206, 207, 208, 67, 68, 24, 69, 70, 71, 72, 73, 34, 32, 209, 210, 211, 212, 158, 165, 213, 166, 214, 215, 103, 104, 105, 33, 106, 107, 108, 109, 26, 27, 110, 111, 112, 41, 113, 46, 44, 114, 10, 115, 116, 95, 96, 117, 118, 119, 120, 121, 122, 123, 28, 124, 125, 126, 127, 45, 216, 217, 218, 219, 220, 221, 222, 160, 167, 179, 223, 200, 201, 202, 43, 224, 225, 226, 227, 159, 178, 174, 175, 176, 177, 228, 229, 230, 231, 232, 233, 234, 235, 173, 549, 550, 551, 552, 553, 554, 555, 556, 557, 558, 559, 560, 561, 562, 563, 564, 565, 566, 567, 576, 577, 578, 579, 580, 581, 568, 569, 570, 571, 572, 573, 574, 575] (by decide +kernel) (by decide +kernel)
set_option maxRecDepth 20000 in
theorem gL_alike_X6_best : GoodIn wsL_alike (wsV RL 160 RX6 yX6_best wsX6_best) := goodIn_app (goodIn_of _ (by decide +kernel)) ggL_alike_X6_best
set_option maxRecDepth 20000 in
theorem ggL_alike_X6_leastWished : GoodIn wsL_alike wsX6_leastWished := goodIn_r _ [243, 65, 15, 244, 245, 246, 156, 247, 213, 159, 248, 214, 158, 209, 210, 211, 212, 165, 166, 167, 111, 112, 41, 113, 46, 44, 168, 169, 170, 171, 172, 173, 174, 175, 176, 177, 178, 95, 10, 96, 51, 52, 223, 200, 201, 202, 43, 549, 550, 551, 552, 553, 554, 555, 556, 557, 558, 559, 560, 561, 562, 563, 564, 565, 566, 567, 576, 577, 578, 579, 580, 581, 568, 569, 570, 571, 572, 573, 574, 575] (by decide +kernel) (by decide +kernel)
set_option maxRecDepth 20000 in
theorem gL_alike_X6_leastWished : GoodIn wsL_alike (wsV RL 166 RX6 yX6_leastWished wsX6_leastWished) := goodIn_app (goodIn_of _ (by decide +kernel)) ggL_alike_X6_leastWished
set_option maxRecDepth 20000 in
theorem gp_alike_call_0 : GoodIn wsL_alike wsL_call_r1 := goodIn_r _ [252, 253, 3, 254, 5, 255, 6, 256, 257, 258, 259, 10, 260, 12, 13, 261, 262, 263, 264, 265, 266, 267, 268, 269] rfl (by decide +kernel)
set_option maxRecDepth 20000 in
theorem gp_alike_call_1 : GoodIn wsL_alike wsL_call_r2 := goodIn_r _ [270, 271, 272, 273, 274, 275, 276, 277, 278, 279, 280, 281, 15, 282, 283, 284, 285, 286, 287, 288, 289, 290, 291, 292] rfl (by decide +kernel)
set_option maxRecDepth 20000 in
theorem gp_alike_call_2 : GoodIn wsL_alike wsL_call_r3 := goodIn_r _ [293, 294, 295, 296, 297, 298, 299, 300, 301, 302, 303, 304, 305, 306, 307, 308, 309, 310, 311, 24, 312, 29, 30, 31] rfl (by decide +kernel)
set_option maxRecDepth 20000 in
theorem gp_alike_call_3 : GoodIn wsL_alike wsL_call_r4 := goodIn_r _ [36, 37, 26, 198, 313, 27, 314, 75, 76, 77, 28, 32, 33, 34, 35, 78, 79, 80, 81, 82, 54, 55, 56, 57] rfl (by decide +kernel)
set_option maxRecDepth 20000 in
theorem gp_alike_call_4 : GoodIn wsL_alike wsL_call_r5 := goodIn_r _ [59, 60, 83, 84, 85, 86, 87, 88, 89, 41, 90, 45, 46, 47, 48, 91, 92, 93, 94, 44, 95, 96, 315, 316] rfl (by decide +kernel)
set_option maxRecDepth 20000 in
theorem gp_alike_call_5 : GoodIn wsL_alike wsL_call_r6 := goodIn_r _ [317, 318, 319, 320, 321, 322, 323, 324, 65, 325, 326, 327, 328, 329, 74, 330, 331, 332, 333, 101, 67, 68, 69, 70] rfl (by decide +kernel)
set_option maxRecDepth 20000 in
theorem gp_alike_call_6 : GoodIn wsL_alike wsL_call_r7 := goodIn_r _ [71, 72, 73, 102, 103, 104, 105, 106, 107, 108, 109, 110, 111, 112, 113, 114, 115, 116, 117, 118, 119, 120, 121, 122] rfl (by decide +kernel)
set_option maxRecDepth 20000 in
theorem gp_alike_call_7 : GoodIn wsL_alike wsL_call_r8 := goodIn_r _ [123, 124, 125, 126, 127, 188, 189, 190, 191, 192, 193, 194, 195, 196, 197, 199, 200, 201, 202, 43, 132, 133, 134, 135] rfl (by decide +kernel)
set_option maxRecDepth 20000 in
theorem gp_alike_call_8 : GoodIn wsL_alike wsL_call_r9 := goodIn_r _ [50, 136, 137, 138, 139, 334, 335, 336, 337, 338, 144, 145, 146, 147, 148, 149, 150, 151, 152, 153, 154, 155, 156, 157] rfl (by decide +kernel)
set_option maxRecDepth 20000 in
theorem gp_alike_call_9 : GoodIn wsL_alike wsL_call_r10 := goodIn_r _ [158, 159, 160, 161, 162, 163, 164, 165, 166, 167, 168, 169, 170, 171, 172, 173, 174, 175, 176, 177, 178, 179, 180, 181] rfl (by decide +kernel)
set_option maxRecDepth 20000 in
theorem gp_alike_call_10 : GoodIn wsL_alike wsL_call_r11 := goodIn_r _ [182, 183, 339, 340, 341, 342, 343, 98, 99, 100, 344, 129, 130, 131, 203, 204, 205, 206, 207, 208, 209, 210, 211, 212] rfl (by decide +kernel)
set_option maxRecDepth 20000 in
theorem gp_alike_call_11 : GoodIn wsL_alike wsL_call_r12 := goodIn_r _ [213, 214, 215, 216, 217, 218, 219, 220, 221, 222, 223, 224, 225, 226, 227, 228, 229, 230, 231, 232, 233, 234, 235, 345] rfl (by decide +kernel)
set_option maxRecDepth 20000 in
theorem gp_alike_call_12 : GoodIn wsL_alike wsL_call_r13 := goodIn_r _ [346, 347, 348, 349, 350, 351, 352, 353, 354, 355, 356, 357, 358, 359, 360, 361, 362, 363, 364, 365, 366, 16, 367, 368] rfl (by decide +kernel)
set_option maxRecDepth 20000 in
theorem gp_alike_call_13 : GoodIn wsL_alike wsL_call_r14 := goodIn_r _ [17, 369, 370, 371, 372, 66, 373, 374, 375, 376, 377, 378, 379, 380, 381, 382, 383, 384, 385, 386, 387, 19, 388, 389] rfl (by decide +kernel)
set_option maxRecDepth 20000 in
theorem gp_alike_call_14 : GoodIn wsL_alike wsL_call_r15 := goodIn_r _ [390, 391, 392, 393, 394, 395, 396, 397, 398, 399, 400, 401, 402, 403, 18, 20, 404, 405, 406, 407, 408, 409, 410, 411] rfl (by decide +kernel)
set_option maxRecDepth 20000 in
theorem gp_alike_call_15 : GoodIn wsL_alike wsL_call_r16 := goodIn_r _ [412, 413, 414, 415, 416, 417, 418, 419, 420, 421, 422, 423, 424, 425, 426, 427, 428, 429, 430, 431, 432, 433, 434, 435] rfl (by decide +kernel)
set_option maxRecDepth 20000 in
theorem gp_alike_call_16 : GoodIn wsL_alike wsL_call_r17 := goodIn_r _ [436, 437, 438, 439, 440, 441, 442, 443, 444, 445, 446, 447, 448, 449, 450, 451, 452, 453, 22, 23, 25, 38, 39, 40] rfl (by decide +kernel)
set_option maxRecDepth 20000 in
theorem gp_alike_call_17 : GoodIn wsL_alike wsL_call_r18 := goodIn_r _ [42, 49, 51, 52, 184, 185, 186, 187, 454, 455, 456, 457, 458, 459, 460, 140, 141, 142, 143, 461, 462, 463, 464, 465] rfl (by decide +kernel)
set_option maxRecDepth 20000 in
theorem gp_alike_call_18 : GoodIn wsL_alike wsL_call_r19 := goodIn_r _ [466, 467, 97, 128, 468, 469, 470, 471, 472, 473, 474, 475, 476, 477, 478, 479, 480, 481, 482, 483, 484, 485, 486, 487] rfl (by decide +kernel)
set_option maxRecDepth 20000 in
theorem gp_alike_call_19 : GoodIn wsL_alike wsL_call_r20 := goodIn_r _ [488, 489, 490, 491, 492, 493, 494, 495, 496, 497, 498, 499, 500, 501, 502, 503, 504, 505, 506, 507, 508, 509, 510, 511] rfl (by decide +kernel)
set_option maxRecDepth 20000 in
theorem gp_alike_call_20 : GoodIn wsL_alike wsL_call_r21 := goodIn_r _ [512, 513, 514, 515, 516, 517, 518, 519, 520, 521, 522, 523, 524, 525, 526, 527, 528, 529, 530, 531, 532, 533, 534, 535] rfl (by decide +kernel)
set_option maxRecDepth 20000 in
theorem gp_alike_call_21 : GoodIn wsL_alike wsL_call_r22 := goodIn_r _ [536, 537, 538, 539, 540, 541, 21, 542, 543, 544, 545, 546, 547, 548] rfl (by decide +kernel)
set_option maxRecDepth 20000 in
theorem gp_alike_call_h : GoodIn wsL_alike [.code yL_call cL_call 5 (some .int)] := goodIn_r _ [251] rfl (by decide +kernel)
set_option maxRecDepth 20000 in
theorem ggL_alike_L_call : GoodIn wsL_alike wsL_call := (goodIn_ca (goodIn_ca (goodIn_ca (goodIn_ca (goodIn_ca (goodIn_ca (goodIn_ca (goodIn_ca (goodIn_ca (goodIn_ca (goodIn_cons gp_alike_call_h (goodIn_app gp_alike_call_0 (goodIn_app gp_alike_call_1 (goodIn_app gp_alike_call_2 (goodIn_app gp_alike_call_3 (goodIn_app gp_alike_call_4 (goodIn_app gp_alike_call_5 (goodIn_app gp_alike_call_6 (goodIn_app gp_alike_call_7 (goodIn_app gp_alike_call_8 (goodIn_app gp_alike_call_9 (goodIn_app gp_alike_call_10 (goodIn_app gp_alike_call_11 (goodIn_app gp_alike_call_12 (goodIn_app gp_alike_call_13 (goodIn_app gp_alike_call_14 (goodIn_app gp_alike_call_15 (goodIn_app gp_alike_call_16 (goodIn_app gp_alike_call_17 (goodIn_app gp_alike_call_18 (goodIn_app gp_alike_call_19 (goodIn_app gp_alike_call_20 gp_alike_call_21)))))))))))))))))))))) (goodIn_sub (fun _ h => (List.mem_cons_of_mem _ (List.mem_append_left _ (List.mem_append_left _ (List.mem_append_left _ (List.mem_append_left _ (List.mem_append_left _ (List.mem_append_left _ (List.mem_append_left _ (List.mem_append_left _ (List.mem_append_left _ (List.mem_append_right _ h)))))))))))) (by decide +kernel))) (goodIn_sub (fun _ h => (List.mem_cons_of_mem _ (List.mem_append_left _ (List.mem_append_left _ (List.mem_append_left _ (List.mem_append_left _ (List.mem_append_left _ (List.mem_append_right _ h)))))))) (by decide +kernel))) (goodIn_sub (fun _ h => (List.mem_cons_of_mem _ (List.mem_append_left _ (List.mem_append_left _ (List.mem_append_left _ (List.mem_append_left _ (List.mem_append_right _ h))))))) (by decide +kernel))) (goodIn_sub (fun _ h => (List.mem_cons_of_mem _ (List.mem_append_left _ (List.mem_append_left _ (List.mem_append_left _ (List.mem_append_left _ (List.mem_append_left _ (List.mem_append_left _ (List.mem_append_left _ (List.mem_append_left _ (List.mem_append_right _ h))))))))))) (by decide +kernel))) (goodIn_sub (fun _ h => (List.mem_cons_of_mem _ (List.mem_append_left _ (List.mem_append_left _ (List.mem_append_left _ (List.mem_append_left _ (List.mem_append_left _ (List.mem_append_left _ (List.mem_append_left _ (List.mem_append_right _ h)))))))))) (by decide +kernel))) (goodIn_sub (fun _ h => (List.mem_cons_of_mem _ (List.mem_append_left _ (List.mem_append_left _ (List.mem_append_left _ (List.mem_append_right _ h)))))) (by decide +kernel))) (goodIn_sub (fun _ h => (List.mem_cons_of_mem _ (List.mem_append_left _ (List.mem_append_left _ (List.mem_append_left _ (List.mem_append_left _ (List.mem_append_left _ (List.mem_append_left _ (List.mem_append_right _ h))))))))) (by decide +kernel))) (goodIn_sub (fun _ h => (List.mem_cons_of_mem _ (List.mem_append_left _ (List.mem_append_left _ (List.mem_append_right _ h))))) (by decide +kernel))) (goodIn_sub (fun _ h => (List.mem_cons_of_mem _ (List.mem_append_left _ (List.mem_append_right _ h)))) (by decide +kernel))) (goodIn_sub (fun _ h => (List.mem_cons_of_mem _ (List.mem_append_right _ h))) (by decide +kernel)))
set_option maxRecDepth 20000 in
theorem gL_alike_L_call : GoodIn wsL_alike (va_wsS RL 146 yL_call wsL_call) := goodIn_app (goodIn_of _ (by decide +kernel)) ggL_alike_L_call
theorem dL_alike_0 : decode cL_alike 0 = .ok (.aload_n 0, 1) := by decide +kernel
theorem dL_alike_1 : decode cL_alike 1 = .ok (.iload_n 2, 1) := by decide +kernel
theorem dL_alike_2 : decode cL_alike 2 = .ok (.i2l, 1) := by decide +kernel
theorem dL_alike_3 : decode cL_alike 3 = .ok (.iconst 1, 1) := by decide +kernel
theorem dL_alike_4 : decode cL_alike 4 = .ok (.iload_n 2, 1) := by decide +kernel
theorem dL_alike_5 : decode cL_alike 5 = .ok (.bipush 60, 2) := by decide +kernel
theorem dL_alike_7 : decode cL_alike 7 = .ok (.irem, 1) := by decide +kernel
theorem dL_alike_8 : decode cL_alike 8 = .ok (.iadd, 1) := by decide +kernel
theorem dL_alike_9 : decode cL_alike 9 = .ok (.invokestatic 156, 3) := by decide +kernel
theorem dL_alike_12 : decode cL_alike 12 = .ok (.aload_n 1, 1) := by decide +kernel
theorem dL_alike_13 : decode cL_alike 13 = .ok (.iload_n 2, 1) := by decide +kernel
theorem dL_alike_14 : decode cL_alike 14 = .ok (.i2l, 1) := by decide +kernel
theorem dL_alike_15 : decode cL_alike 15 = .ok (.iconst 1, 1) := by decide +kernel
theorem dL_alike_16 : decode cL_alike 16 = .ok (.iload_n 2, 1) := by decide +kernel
theorem dL_alike_17 : decode cL_alike 17 = .ok (.bipush 60, 2) := by decide +kernel
theorem dL_alike_19 : decode cL_alike 19 = .ok (.irem, 1) := by decide +kernel
theorem dL_alike_20 : decode cL_alike 20 = .ok (.iadd, 1) := by decide +kernel
theorem dL_alike_21 : decode cL_alike 21 = .ok (.invokestatic 156, 3) := by decide +kernel
theorem dL_alike_24 : decode cL_alike 24 = .ok (.if_icmp .ne 29, 3) := by decide +kernel
theorem dL_alike_27 : decode cL_alike 27 = .ok (.aload_n 0, 1) := by decide +kernel
theorem dL_alike_28 : decode cL_alike 28 = .ok (.invokevirtual 160, 3) := by decide +kernel
theorem dL_alike_31 : decode cL_alike 31 = .ok (.aload_n 1, 1) := by decide +kernel
theorem dL_alike_32 : decode cL_alike 32 = .ok (.invokevirtual 160, 3) := by decide +kernel
theorem dL_alike_35 : decode cL_alike 35 = .ok (.if_icmp .ne 18, 3) := by decide +kernel
theorem dL_alike_38 : decode cL_alike 38 = .ok (.aload_n 0, 1) := by decide +kernel
theorem dL_alike_39 : decode cL_alike 39 = .ok (.invokevirtual 166, 3) := by decide +kernel
theorem dL_alike_42 : decode cL_alike 42 = .ok (.aload_n 1, 1) := by decide +kernel
theorem dL_alike_43 : decode cL_alike 43 = .ok (.invokevirtual 166, 3) := by decide +kernel
theorem dL_alike_46 : decode cL_alike 46 = .ok (.if_icmp .ne 7, 3) := by decide +kernel
theorem dL_alike_49 : decode cL_alike 49 = .ok (.iconst 1, 1) := by decide +kernel
theorem dL_alike_50 : decode cL_alike 50 = .ok (.goto 4, 3) := by decide +kernel
theorem dL_alike_53 : decode cL_alike 53 = .ok (.iconst 0, 1) := by decide +kernel
theorem dL_alike_54 : decode cL_alike 54 = .ok (.istore_n 3, 1) := by decide +kernel
theorem dL_alike_55 : decode cL_alike 55 = .ok (.iconst 0, 1) := by decide +kernel
theorem dL_alike_56 : decode cL_alike 56 = .ok (.istore 4, 2) := by decide +kernel
theorem dL_alike_58 : decode cL_alike 58 = .ok (.iload 4, 2) := by decide +kernel
theorem dL_alike_60 : decode cL_alike 60 = .ok (.bipush 9, 2) := by decide +kernel
theorem dL_alike_62 : decode cL_alike 62 = .ok (.if_icmp .ge 164, 3) := by decide +kernel
theorem dL_alike_65 : decode cL_alike 65 = .ok (.iload_n 3, 1) := by decide +kernel
theorem dL_alike_66 : decode cL_alike 66 = .ok (.ifCond .eq 160, 3) := by decide +kernel
theorem dL_alike_69 : decode cL_alike 69 = .ok (.aload_n 0, 1) := by decide +kernel
theorem dL_alike_70 : decode cL_alike 70 = .ok (.iconst 2, 1) := by decide +kernel
theorem dL_alike_71 : decode cL_alike 71 = .ok (.iload 4, 2) := by decide +kernel
theorem dL_alike_73 : decode cL_alike 73 = .ok (.iconst 0, 1) := by decide +kernel
theorem dL_alike_74 : decode cL_alike 74 = .ok (.iconst 0, 1) := by decide +kernel
theorem dL_alike_75 : decode cL_alike 75 = .ok (.invokestatic 146, 3) := by decide +kernel
theorem dL_alike_78 : decode cL_alike 78 = .ok (.aload_n 1, 1) := by decide +kernel
theorem dL_alike_79 : decode cL_alike 79 = .ok (.iconst 2, 1) := by decide +kernel
theorem dL_alike_80 : decode cL_alike 80 = .ok (.iload 4, 2) := by decide +kernel
theorem dL_alike_82 : decode cL_alike 82 = .ok (.iconst 0, 1) := by decide +kernel
theorem dL_alike_83 : decode cL_alike 83 = .ok (.iconst 0, 1) := by decide +kernel
theorem dL_alike_84 : decode cL_alike 84 = .ok (.invokestatic 146, 3) := by decide +kernel
theorem dL_alike_87 : decode cL_alike 87 = .ok (.if_icmp .ne 131, 3) := by decide +kernel
theorem dL_alike_90 : decode cL_alike 90 = .ok (.aload_n 0, 1) := by decide +kernel
theorem dL_alike_91 : decode cL_alike 91 = .ok (.iconst 3, 1) := by decide +kernel
theorem dL_alike_92 : decode cL_alike 92 = .ok (.iload 4, 2) := by decide +kernel
theorem dL_alike_94 : decode cL_alike 94 = .ok (.iconst 2, 1) := by decide +kernel
theorem dL_alike_95 : decode cL_alike 95 = .ok (.irem, 1) := by decide +kernel
theorem dL_alike_96 : decode cL_alike 96 = .ok (.iload 4, 2) := by decide +kernel
theorem dL_alike_98 : decode cL_alike 98 = .ok (.iconst 2, 1) := by decide +kernel
theorem dL_alike_99 : decode cL_alike 99 = .ok (.idiv, 1) := by decide +kernel
theorem dL_alike_100 : decode cL_alike 100 = .ok (.iconst 0, 1) := by decide +kernel
theorem dL_alike_101 : decode cL_alike 101 = .ok (.invokestatic 146, 3) := by decide +kernel
theorem dL_alike_104 : decode cL_alike 104 = .ok (.aload_n 1, 1) := by decide +kernel
theorem dL_alike_105 : decode cL_alike 105 = .ok (.iconst 3, 1) := by decide +kernel
theorem dL_alike_106 : decode cL_alike 106 = .ok (.iload 4, 2) := by decide +kernel
theorem dL_alike_108 : decode cL_alike 108 = .ok (.iconst 2, 1) := by decide +kernel
theorem dL_alike_109 : decode cL_alike 109 = .ok (.irem, 1) := by decide +kernel
theorem dL_alike_110 : decode cL_alike 110 = .ok (.iload 4, 2) := by decide +kernel
theorem dL_alike_112 : decode cL_alike 112 = .ok (.iconst 2, 1) := by decide +kernel
theorem dL_alike_113 : decode cL_alike 113 = .ok (.idiv, 1) := by decide +kernel
theorem dL_alike_114 : decode cL_alike 114 = .ok (.iconst 0, 1) := by decide +kernel
theorem dL_alike_115 : decode cL_alike 115 = .ok (.invokestatic 146, 3) := by decide +kernel
theorem dL_alike_118 : decode cL_alike 118 = .ok (.if_icmp .ne 100, 3) := by decide +kernel
theorem dL_alike_121 : decode cL_alike 121 = .ok (.aload_n 0, 1) := by decide +kernel
theorem dL_alike_122 : decode cL_alike 122 = .ok (.iconst 4, 1) := by decide +kernel
theorem dL_alike_123 : decode cL_alike 123 = .ok (.iload 4, 2) := by decide +kernel
theorem dL_alike_125 : decode cL_alike 125 = .ok (.iload_n 2, 1) := by decide +kernel
theorem dL_alike_126 : decode cL_alike 126 = .ok (.bipush 8, 2) := by decide +kernel
theorem dL_alike_128 : decode cL_alike 128 = .ok (.irem, 1) := by decide +kernel
theorem dL_alike_129 : decode cL_alike 129 = .ok (.iconst 2, 1) := by decide +kernel
theorem dL_alike_130 : decode cL_alike 130 = .ok (.invokestatic 146, 3) := by decide +kernel
theorem dL_alike_133 : decode cL_alike 133 = .ok (.aload_n 1, 1) := by decide +kernel
theorem dL_alike_134 : decode cL_alike 134 = .ok (.iconst 4, 1) := by decide +kernel
theorem dL_alike_135 : decode cL_alike 135 = .ok (.iload 4, 2) := by decide +kernel
theorem dL_alike_137 : decode cL_alike 137 = .ok (.iload_n 2, 1) := by decide +kernel
theorem dL_alike_138 : decode cL_alike 138 = .ok (.bipush 8, 2) := by decide +kernel
theorem dL_alike_140 : decode cL_alike 140 = .ok (.irem, 1) := by decide +kernel
theorem dL_alike_141 : decode cL_alike 141 = .ok (.iconst 2, 1) := by decide +kernel
theorem dL_alike_142 : decode cL_alike 142 = .ok (.invokestatic 146, 3) := by decide +kernel
theorem dL_alike_145 : decode cL_alike 145 = .ok (.if_icmp .ne 73, 3) := by decide +kernel
theorem dL_alike_148 : decode cL_alike 148 = .ok (.aload_n 0, 1) := by decide +kernel
theorem dL_alike_149 : decode cL_alike 149 = .ok (.iconst 4, 1) := by decide +kernel
theorem dL_alike_150 : decode cL_alike 150 = .ok (.iload_n 2, 1) := by decide +kernel
theorem dL_alike_151 : decode cL_alike 151 = .ok (.bipush 8, 2) := by decide +kernel
theorem dL_alike_153 : decode cL_alike 153 = .ok (.irem, 1) := by decide +kernel
theorem dL_alike_154 : decode cL_alike 154 = .ok (.iload 4, 2) := by decide +kernel
theorem dL_alike_156 : decode cL_alike 156 = .ok (.iload_n 2, 1) := by decide +kernel
theorem dL_alike_157 : decode cL_alike 157 = .ok (.iconst 4, 1) := by decide +kernel
theorem dL_alike_158 : decode cL_alike 158 = .ok (.irem, 1) := by decide +kernel
theorem dL_alike_159 : decode cL_alike 159 = .ok (.invokestatic 146, 3) := by decide +kernel
theorem dL_alike_162 : decode cL_alike 162 = .ok (.aload_n 1, 1) := by decide +kernel
theorem dL_alike_163 : decode cL_alike 163 = .ok (.iconst 4, 1) := by decide +kernel
theorem dL_alike_164 : decode cL_alike 164 = .ok (.iload_n 2, 1) := by decide +kernel
theorem dL_alike_165 : decode cL_alike 165 = .ok (.bipush 8, 2) := by decide +kernel
theorem dL_alike_167 : decode cL_alike 167 = .ok (.irem, 1) := by decide +kernel
theorem dL_alike_168 : decode cL_alike 168 = .ok (.iload 4, 2) := by decide +kernel
theorem dL_alike_170 : decode cL_alike 170 = .ok (.iload_n 2, 1) := by decide +kernel
theorem dL_alike_171 : decode cL_alike 171 = .ok (.iconst 4, 1) := by decide +kernel
theorem dL_alike_172 : decode cL_alike 172 = .ok (.irem, 1) := by decide +kernel
theorem dL_alike_173 : decode cL_alike 173 = .ok (.invokestatic 146, 3) := by decide +kernel
theorem dL_alike_176 : decode cL_alike 176 = .ok (.if_icmp .ne 42, 3) := by decide +kernel
theorem dL_alike_179 : decode cL_alike 179 = .ok (.aload_n 0, 1) := by decide +kernel
theorem dL_alike_180 : decode cL_alike 180 = .ok (.bipush 13, 2) := by decide +kernel
theorem dL_alike_182 : decode cL_alike 182 = .ok (.iload 4, 2) := by decide +kernel
theorem dL_alike_184 : decode cL_alike 184 = .ok (.iload_n 2, 1) := by decide +kernel
theorem dL_alike_185 : decode cL_alike 185 = .ok (.bipush 8, 2) := by decide +kernel
theorem dL_alike_187 : decode cL_alike 187 = .ok (.idiv, 1) := by decide +kernel
theorem dL_alike_188 : decode cL_alike 188 = .ok (.bipush 8, 2) := by decide +kernel
theorem dL_alike_190 : decode cL_alike 190 = .ok (.irem, 1) := by decide +kernel
theorem dL_alike_191 : decode cL_alike 191 = .ok (.iconst 0, 1) := by decide +kernel
theorem dL_alike_192 : decode cL_alike 192 = .ok (.invokestatic 146, 3) := by decide +kernel
theorem dL_alike_195 : decode cL_alike 195 = .ok (.aload_n 1, 1) := by decide +kernel
theorem dL_alike_196 : decode cL_alike 196 = .ok (.bipush 13, 2) := by decide +kernel
theorem dL_alike_198 : decode cL_alike 198 = .ok (.iload 4, 2) := by decide +kernel
theorem dL_alike_200 : decode cL_alike 200 = .ok (.iload_n 2, 1) := by decide +kernel
theorem dL_alike_201 : decode cL_alike 201 = .ok (.bipush 8, 2) := by decide +kernel
theorem dL_alike_203 : decode cL_alike 203 = .ok (.idiv, 1) := by decide +kernel
theorem dL_alike_204 : decode cL_alike 204 = .ok (.bipush 8, 2) := by decide +kernel
theorem dL_alike_206 : decode cL_alike 206 = .ok (.irem, 1) := by decide +kernel
theorem dL_alike_207 : decode cL_alike 207 = .ok (.iconst 0, 1) := by decide +kernel
theorem dL_alike_208 : decode cL_alike 208 = .ok (.invokestatic 146, 3) := by decide +kernel
theorem dL_alike_211 : decode cL_alike 211 = .ok (.if_icmp .ne 7, 3) := by decide +kernel
theorem dL_alike_214 : decode cL_alike 214 = .ok (.iconst 1, 1) := by decide +kernel
theorem dL_alike_215 : decode cL_alike 215 = .ok (.goto 4, 3) := by decide +kernel
theorem dL_alike_218 : decode cL_alike 218 = .ok (.iconst 0, 1) := by decide +kernel
theorem dL_alike_219 : decode cL_alike 219 = .ok (.istore_n 3, 1) := by decide +kernel
theorem dL_alike_220 : decode cL_alike 220 = .ok (.iinc 4 1, 3) := by decide +kernel
theorem dL_alike_223 : decode cL_alike 223 = .ok (.goto (-165), 3) := by decide +kernel
theorem dL_alike_226 : decode cL_alike 226 = .ok (.iload_n 3, 1) := by decide +kernel
theorem dL_alike_227 : decode cL_alike 227 = .ok (.ireturn, 1) := by decide +kernel
