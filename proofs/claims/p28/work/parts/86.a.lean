/-! holds: its rows -/
set_option maxRecDepth 20000 in
theorem gp_holds_call_0 : GoodIn wsL_holds wsL_call_r1 := goodIn_r _ [5, 6, 3, 7, 8, 9, 10, 11, 12, 13, 14, 15, 16, 17, 18, 19, 20, 21, 22, 23, 24, 25, 26, 27] rfl (by decide +kernel)
set_option maxRecDepth 20000 in
theorem gp_holds_call_1 : GoodIn wsL_holds wsL_call_r2 := goodIn_r _ [28, 29, 30, 31, 32, 33, 34, 35, 36, 37, 38, 39, 40, 41, 42, 43, 44, 45, 46, 47, 48, 49, 50, 51] rfl (by decide +kernel)
set_option maxRecDepth 20000 in
theorem gp_holds_call_2 : GoodIn wsL_holds wsL_call_r3 := goodIn_r _ [52, 53, 54, 55, 56, 57, 58, 59, 60, 61, 62, 63, 64, 65, 66, 67, 68, 69, 70, 71, 72, 73, 74, 75] rfl (by decide +kernel)
set_option maxRecDepth 20000 in
theorem gp_holds_call_3 : GoodIn wsL_holds wsL_call_r4 := goodIn_r _ [76, 77, 78, 79, 80, 81, 82, 83, 84, 85, 86, 87, 88, 89, 90, 91, 92, 93, 94, 95, 96, 97, 98, 99] rfl (by decide +kernel)
set_option maxRecDepth 20000 in
theorem gp_holds_call_4 : GoodIn wsL_holds wsL_call_r5 := goodIn_r _ [100, 101, 102, 103, 104, 105, 106, 107, 108, 109, 110, 111, 112, 113, 114, 115, 116, 117, 118, 119, 120, 121, 122, 123] rfl (by decide +kernel)
set_option maxRecDepth 20000 in
theorem gp_holds_call_5 : GoodIn wsL_holds wsL_call_r6 := goodIn_r _ [124, 125, 126, 127, 128, 129, 130, 131, 132, 133, 134, 135, 136, 137, 138, 139, 140, 141, 142, 143, 144, 145, 146, 147] rfl (by decide +kernel)
set_option maxRecDepth 20000 in
theorem gp_holds_call_6 : GoodIn wsL_holds wsL_call_r7 := goodIn_r _ [148, 149, 150, 151, 152, 153, 154, 155, 156, 157, 158, 159, 160, 161, 162, 163, 164, 165, 166, 167, 168, 169, 170, 171] rfl (by decide +kernel)
set_option maxRecDepth 20000 in
theorem gp_holds_call_7 : GoodIn wsL_holds wsL_call_r8 := goodIn_r _ [172, 173, 174, 175, 176, 177, 178, 179, 180, 181, 182, 183, 184, 185, 186, 187, 188, 189, 190, 191, 192, 193, 194, 195] rfl (by decide +kernel)
set_option maxRecDepth 20000 in
theorem gp_holds_call_8 : GoodIn wsL_holds wsL_call_r9 := goodIn_r _ [196, 197, 198, 199, 200, 201, 202, 203, 204, 205, 206, 207, 208, 209, 210, 211, 212, 213, 214, 215, 216, 217, 218, 219] rfl (by decide +kernel)
set_option maxRecDepth 20000 in
theorem gp_holds_call_9 : GoodIn wsL_holds wsL_call_r10 := goodIn_r _ [220, 221, 222, 223, 224, 225, 226, 227, 228, 229, 230, 231, 232, 233, 234, 235, 236, 237, 238, 239, 240, 241, 242, 243] rfl (by decide +kernel)
set_option maxRecDepth 20000 in
theorem gp_holds_call_10 : GoodIn wsL_holds wsL_call_r11 := goodIn_r _ [244, 245, 246, 247, 248, 249, 250, 251, 252, 253, 254, 255, 256, 257, 258, 259, 260, 261, 262, 263, 264, 265, 266, 267] rfl (by decide +kernel)
set_option maxRecDepth 20000 in
theorem gp_holds_call_11 : GoodIn wsL_holds wsL_call_r12 := goodIn_r _ [268, 269, 270, 271, 272, 273, 274, 275, 276, 277, 278, 279, 280, 281, 282, 283, 284, 285, 286, 287, 288, 289, 290, 291] rfl (by decide +kernel)
set_option maxRecDepth 20000 in
theorem gp_holds_call_12 : GoodIn wsL_holds wsL_call_r13 := goodIn_r _ [292, 293, 294, 295, 296, 297, 298, 299, 300, 301, 302, 303, 304, 305, 306, 307, 308, 309, 310, 311, 312, 313, 314, 315] rfl (by decide +kernel)
set_option maxRecDepth 20000 in
theorem gp_holds_call_13 : GoodIn wsL_holds wsL_call_r14 := goodIn_r _ [316, 317, 318, 319, 320, 321, 322, 323, 324, 325, 326, 327, 328, 329, 330, 331, 332, 333, 334, 335, 336, 337, 338, 339] rfl (by decide +kernel)
set_option maxRecDepth 20000 in
theorem gp_holds_call_14 : GoodIn wsL_holds wsL_call_r15 := goodIn_r _ [340, 341, 342, 343, 344, 345, 346, 347, 348, 349, 350, 351, 352, 353, 354, 355, 356, 357, 358, 359, 360, 361, 362, 363] rfl (by decide +kernel)
set_option maxRecDepth 20000 in
theorem gp_holds_call_15 : GoodIn wsL_holds wsL_call_r16 := goodIn_r _ [364, 365, 366, 367, 368, 369, 370, 371, 372, 373, 374, 375, 376, 377, 378, 379, 380, 381, 382, 383, 384, 385, 386, 387] rfl (by decide +kernel)
set_option maxRecDepth 20000 in
theorem gp_holds_call_16 : GoodIn wsL_holds wsL_call_r17 := goodIn_r _ [388, 389, 390, 391, 392, 393, 394, 395, 396, 397, 398, 399, 400, 401, 402, 403, 404, 405, 406, 407, 408, 409, 410, 411] rfl (by decide +kernel)
set_option maxRecDepth 20000 in
theorem gp_holds_call_17 : GoodIn wsL_holds wsL_call_r18 := goodIn_r _ [412, 413, 414, 415, 416, 417, 418, 419, 420, 421, 422, 423, 424, 425, 426, 427, 428, 429, 430, 431, 432, 433, 434, 435] rfl (by decide +kernel)
set_option maxRecDepth 20000 in
theorem gp_holds_call_18 : GoodIn wsL_holds wsL_call_r19 := goodIn_r _ [436, 437, 438, 439, 440, 441, 442, 443, 444, 445, 446, 447, 448, 449, 450, 451, 452, 453, 454, 455, 456, 457, 458, 459] rfl (by decide +kernel)
set_option maxRecDepth 20000 in
theorem gp_holds_call_19 : GoodIn wsL_holds wsL_call_r20 := goodIn_r _ [460, 461, 462, 463, 464, 465, 466, 467, 468, 469, 470, 471, 472, 473, 474, 475, 476, 477, 478, 479, 480, 481, 482, 483] rfl (by decide +kernel)
set_option maxRecDepth 20000 in
theorem gp_holds_call_20 : GoodIn wsL_holds wsL_call_r21 := goodIn_r _ [484, 485, 486, 487, 488, 489, 490, 491, 492, 493, 494, 495, 496, 497, 498, 499, 500, 501, 502, 503, 504, 505, 506, 507] rfl (by decide +kernel)
set_option maxRecDepth 20000 in
theorem gp_holds_call_21 : GoodIn wsL_holds wsL_call_r22 := goodIn_r _ [508, 509, 510, 511, 512, 513, 514, 515, 516, 517, 518, 519, 520, 521] rfl (by decide +kernel)
set_option maxRecDepth 20000 in
theorem gp_holds_call_h : GoodIn wsL_holds [.code yL_call cL_call 5 (some .int)] := goodIn_r _ [4] rfl (by decide +kernel)
set_option maxRecDepth 20000 in
theorem ggL_holds_L_call : GoodIn wsL_holds wsL_call := (goodIn_ca (goodIn_ca (goodIn_ca (goodIn_ca (goodIn_ca (goodIn_ca (goodIn_ca (goodIn_ca (goodIn_ca (goodIn_ca (goodIn_cons gp_holds_call_h (goodIn_app gp_holds_call_0 (goodIn_app gp_holds_call_1 (goodIn_app gp_holds_call_2 (goodIn_app gp_holds_call_3 (goodIn_app gp_holds_call_4 (goodIn_app gp_holds_call_5 (goodIn_app gp_holds_call_6 (goodIn_app gp_holds_call_7 (goodIn_app gp_holds_call_8 (goodIn_app gp_holds_call_9 (goodIn_app gp_holds_call_10 (goodIn_app gp_holds_call_11 (goodIn_app gp_holds_call_12 (goodIn_app gp_holds_call_13 (goodIn_app gp_holds_call_14 (goodIn_app gp_holds_call_15 (goodIn_app gp_holds_call_16 (goodIn_app gp_holds_call_17 (goodIn_app gp_holds_call_18 (goodIn_app gp_holds_call_19 (goodIn_app gp_holds_call_20 gp_holds_call_21)))))))))))))))))))))) (goodIn_sub (fun _ h => (List.mem_cons_of_mem _ (List.mem_append_left _ (List.mem_append_left _ (List.mem_append_left _ (List.mem_append_left _ (List.mem_append_left _ (List.mem_append_left _ (List.mem_append_left _ (List.mem_append_left _ (List.mem_append_left _ (List.mem_append_right _ h)))))))))))) (by decide +kernel))) (goodIn_sub (fun _ h => (List.mem_cons_of_mem _ (List.mem_append_left _ (List.mem_append_left _ (List.mem_append_left _ (List.mem_append_left _ (List.mem_append_left _ (List.mem_append_left _ (List.mem_append_left _ (List.mem_append_left _ (List.mem_append_right _ h))))))))))) (by decide +kernel))) (goodIn_sub (fun _ h => (List.mem_cons_of_mem _ (List.mem_append_left _ (List.mem_append_left _ (List.mem_append_left _ (List.mem_append_left _ (List.mem_append_left _ (List.mem_append_left _ (List.mem_append_left _ (List.mem_append_right _ h)))))))))) (by decide +kernel))) (goodIn_sub (fun _ h => (List.mem_cons_of_mem _ (List.mem_append_left _ (List.mem_append_left _ (List.mem_append_left _ (List.mem_append_left _ (List.mem_append_left _ (List.mem_append_left _ (List.mem_append_right _ h))))))))) (by decide +kernel))) (goodIn_sub (fun _ h => (List.mem_cons_of_mem _ (List.mem_append_left _ (List.mem_append_left _ (List.mem_append_left _ (List.mem_append_left _ (List.mem_append_left _ (List.mem_append_right _ h)))))))) (by decide +kernel))) (goodIn_sub (fun _ h => (List.mem_cons_of_mem _ (List.mem_append_left _ (List.mem_append_left _ (List.mem_append_left _ (List.mem_append_left _ (List.mem_append_right _ h))))))) (by decide +kernel))) (goodIn_sub (fun _ h => (List.mem_cons_of_mem _ (List.mem_append_left _ (List.mem_append_left _ (List.mem_append_left _ (List.mem_append_right _ h)))))) (by decide +kernel))) (goodIn_sub (fun _ h => (List.mem_cons_of_mem _ (List.mem_append_left _ (List.mem_append_left _ (List.mem_append_right _ h))))) (by decide +kernel))) (goodIn_sub (fun _ h => (List.mem_cons_of_mem _ (List.mem_append_left _ (List.mem_append_right _ h)))) (by decide +kernel))) (goodIn_sub (fun _ h => (List.mem_cons_of_mem _ (List.mem_append_right _ h))) (by decide +kernel)))
set_option maxRecDepth 20000 in
theorem gL_holds_L_call : GoodIn wsL_holds (va_wsS RL 146 yL_call wsL_call) := goodIn_app (goodIn_of _ (by decide +kernel)) ggL_holds_L_call
set_option maxRecDepth 20000 in
theorem ggL_holds_L_to : GoodIn wsL_holds wsL_to := goodIn_r _ [524] (by decide +kernel) (by decide +kernel)
set_option maxRecDepth 20000 in
theorem gL_holds_L_to : GoodIn wsL_holds (va_wsS RL 163 yL_to wsL_to) := goodIn_app (goodIn_of _ (by decide +kernel)) ggL_holds_L_to
set_option maxRecDepth 20000 in
theorem ggL_holds_X6_leastWished : GoodIn wsL_holds wsX6_leastWished := goodIn_r _ [528, 132, 40, 529, 530, 531, 218, 532, 268, 221, 533, 269, 220, 264, 265, 266, 267, 227, 228, 229, 160, 161, 109, 162, 112, 119, 230, 231, 232, 233, 234, 235, 236, 237, 238, 239, 240, 120, 15, 121, 414, 415, 278, 188, 189, 190, 191, 538, 539, 540, 541, 542, 543, 544, 549, 550, 551, 552, 553, 554, 555, 556, 557, 558, 559, 560, 572, 573, 574, 575, 576, 577, 561, 562, 563, 564, 565, 566, 567, 568] (by decide +kernel) (by decide +kernel)
set_option maxRecDepth 20000 in
theorem gL_holds_X6_leastWished : GoodIn wsL_holds (wsV RL 166 RX6 yX6_leastWished wsX6_leastWished) := goodIn_app (goodIn_of _ (by decide +kernel)) ggL_holds_X6_leastWished
set_option maxRecDepth 20000 in
theorem ggL_holds_X6_best : GoodIn wsL_holds wsX6_best := goodIn_r _ [537, 132, 40, 258, 259, 260, 218, 261, 262, 263, 144, 145, 71, 146, 147, 148, 149, 150, 89, 87, 264, 265, 266, 267, 220, 227, 268, 228, 269, 270, 152, 153, 154, 88, 155, 156, 157, 158, 78, 81, 159, 160, 161, 109, 162, 112, 119, 163, 15, 164, 165, 120, 121, 166, 167, 168, 169, 170, 171, 172, 86, 173, 174, 175, 176, 111, 271, 272, 273, 274, 275, 276, 277, 222, 229, 241, 278, 188, 189, 190, 191, 279, 280, 281, 282, 221, 240, 236, 237, 238, 239, 283, 284, 285, 286, 287, 288, 289, 290, 235, 538, 539, 540, 541, 542, 543, 544, 549, 550, 551, 552, 553, 554, 555, 556, 557, 558, 559, 560, 572, 573, 574, 575, 576, 577, 561, 562, 563, 564, 565, 566, 567, 568] (by decide +kernel) (by decide +kernel)
set_option maxRecDepth 20000 in
theorem gL_holds_X6_best : GoodIn wsL_holds (wsV RL 160 RX6 yX6_best wsX6_best) := goodIn_app (goodIn_of _ (by decide +kernel)) ggL_holds_X6_best
theorem dL_holds_0 : decode cL_holds 0 = .ok (.aload_n 0, 1) := by decide +kernel
theorem dL_holds_1 : decode cL_holds 1 = .ok (.iconst 2, 1) := by decide +kernel
theorem dL_holds_2 : decode cL_holds 2 = .ok (.iconst 1, 1) := by decide +kernel
theorem dL_holds_3 : decode cL_holds 3 = .ok (.iconst 0, 1) := by decide +kernel
theorem dL_holds_4 : decode cL_holds 4 = .ok (.iconst 0, 1) := by decide +kernel
theorem dL_holds_5 : decode cL_holds 5 = .ok (.invokestatic 146, 3) := by decide +kernel
theorem dL_holds_8 : decode cL_holds 8 = .ok (.istore_n 2, 1) := by decide +kernel
theorem dL_holds_9 : decode cL_holds 9 = .ok (.aload_n 0, 1) := by decide +kernel
theorem dL_holds_10 : decode cL_holds 10 = .ok (.iconst 2, 1) := by decide +kernel
theorem dL_holds_11 : decode cL_holds 11 = .ok (.iconst 5, 1) := by decide +kernel
theorem dL_holds_12 : decode cL_holds 12 = .ok (.iconst 0, 1) := by decide +kernel
theorem dL_holds_13 : decode cL_holds 13 = .ok (.iconst 0, 1) := by decide +kernel
theorem dL_holds_14 : decode cL_holds 14 = .ok (.invokestatic 146, 3) := by decide +kernel
theorem dL_holds_17 : decode cL_holds 17 = .ok (.istore_n 3, 1) := by decide +kernel
theorem dL_holds_18 : decode cL_holds 18 = .ok (.aload_n 0, 1) := by decide +kernel
theorem dL_holds_19 : decode cL_holds 19 = .ok (.iconst 2, 1) := by decide +kernel
theorem dL_holds_20 : decode cL_holds 20 = .ok (.bipush 6, 2) := by decide +kernel
theorem dL_holds_22 : decode cL_holds 22 = .ok (.iconst 0, 1) := by decide +kernel
theorem dL_holds_23 : decode cL_holds 23 = .ok (.iconst 0, 1) := by decide +kernel
theorem dL_holds_24 : decode cL_holds 24 = .ok (.invokestatic 146, 3) := by decide +kernel
theorem dL_holds_27 : decode cL_holds 27 = .ok (.istore 4, 2) := by decide +kernel
theorem dL_holds_29 : decode cL_holds 29 = .ok (.aload_n 0, 1) := by decide +kernel
theorem dL_holds_30 : decode cL_holds 30 = .ok (.bipush 6, 2) := by decide +kernel
theorem dL_holds_32 : decode cL_holds 32 = .ok (.iconst 0, 1) := by decide +kernel
theorem dL_holds_33 : decode cL_holds 33 = .ok (.iconst 0, 1) := by decide +kernel
theorem dL_holds_34 : decode cL_holds 34 = .ok (.iconst 0, 1) := by decide +kernel
theorem dL_holds_35 : decode cL_holds 35 = .ok (.invokestatic 146, 3) := by decide +kernel
theorem dL_holds_38 : decode cL_holds 38 = .ok (.istore 5, 2) := by decide +kernel
theorem dL_holds_40 : decode cL_holds 40 = .ok (.iconst 0, 1) := by decide +kernel
theorem dL_holds_41 : decode cL_holds 41 = .ok (.istore 6, 2) := by decide +kernel
theorem dL_holds_43 : decode cL_holds 43 = .ok (.iconst 0, 1) := by decide +kernel
theorem dL_holds_44 : decode cL_holds 44 = .ok (.istore 7, 2) := by decide +kernel
theorem dL_holds_46 : decode cL_holds 46 = .ok (.iload_n 2, 1) := by decide +kernel
theorem dL_holds_47 : decode cL_holds 47 = .ok (.ifCond .le 107, 3) := by decide +kernel
theorem dL_holds_50 : decode cL_holds 50 = .ok (.iload_n 2, 1) := by decide +kernel
theorem dL_holds_51 : decode cL_holds 51 = .ok (.iconst 4, 1) := by decide +kernel
theorem dL_holds_52 : decode cL_holds 52 = .ok (.if_icmp .ge 102, 3) := by decide +kernel
theorem dL_holds_55 : decode cL_holds 55 = .ok (.iload_n 3, 1) := by decide +kernel
theorem dL_holds_56 : decode cL_holds 56 = .ok (.iconst (-1), 1) := by decide +kernel
theorem dL_holds_57 : decode cL_holds 57 = .ok (.if_icmp .eq 7, 3) := by decide +kernel
theorem dL_holds_60 : decode cL_holds 60 = .ok (.iconst 1, 1) := by decide +kernel
theorem dL_holds_61 : decode cL_holds 61 = .ok (.goto 4, 3) := by decide +kernel
theorem dL_holds_64 : decode cL_holds 64 = .ok (.iconst 0, 1) := by decide +kernel
theorem dL_holds_65 : decode cL_holds 65 = .ok (.iload_n 2, 1) := by decide +kernel
theorem dL_holds_66 : decode cL_holds 66 = .ok (.iconst 2, 1) := by decide +kernel
theorem dL_holds_67 : decode cL_holds 67 = .ok (.if_icmp .ne 7, 3) := by decide +kernel
theorem dL_holds_70 : decode cL_holds 70 = .ok (.iconst 1, 1) := by decide +kernel
theorem dL_holds_71 : decode cL_holds 71 = .ok (.goto 4, 3) := by decide +kernel
theorem dL_holds_74 : decode cL_holds 74 = .ok (.iconst 0, 1) := by decide +kernel
theorem dL_holds_75 : decode cL_holds 75 = .ok (.if_icmp .ne 79, 3) := by decide +kernel
theorem dL_holds_78 : decode cL_holds 78 = .ok (.iload_n 2, 1) := by decide +kernel
theorem dL_holds_79 : decode cL_holds 79 = .ok (.iconst 2, 1) := by decide +kernel
theorem dL_holds_80 : decode cL_holds 80 = .ok (.if_icmp .eq 9, 3) := by decide +kernel
theorem dL_holds_83 : decode cL_holds 83 = .ok (.iload 4, 2) := by decide +kernel
theorem dL_holds_85 : decode cL_holds 85 = .ok (.iconst (-1), 1) := by decide +kernel
theorem dL_holds_86 : decode cL_holds 86 = .ok (.if_icmp .ne 68, 3) := by decide +kernel
theorem dL_holds_89 : decode cL_holds 89 = .ok (.aload_n 0, 1) := by decide +kernel
theorem dL_holds_90 : decode cL_holds 90 = .ok (.iconst 2, 1) := by decide +kernel
theorem dL_holds_91 : decode cL_holds 91 = .ok (.iconst 2, 1) := by decide +kernel
theorem dL_holds_92 : decode cL_holds 92 = .ok (.iconst 0, 1) := by decide +kernel
theorem dL_holds_93 : decode cL_holds 93 = .ok (.iconst 0, 1) := by decide +kernel
theorem dL_holds_94 : decode cL_holds 94 = .ok (.invokestatic 146, 3) := by decide +kernel
theorem dL_holds_97 : decode cL_holds 97 = .ok (.iconst (-1), 1) := by decide +kernel
theorem dL_holds_98 : decode cL_holds 98 = .ok (.if_icmp .ne 7, 3) := by decide +kernel
theorem dL_holds_101 : decode cL_holds 101 = .ok (.iconst 1, 1) := by decide +kernel
theorem dL_holds_102 : decode cL_holds 102 = .ok (.goto 4, 3) := by decide +kernel
theorem dL_holds_105 : decode cL_holds 105 = .ok (.iconst 0, 1) := by decide +kernel
theorem dL_holds_106 : decode cL_holds 106 = .ok (.iload_n 2, 1) := by decide +kernel
theorem dL_holds_107 : decode cL_holds 107 = .ok (.iconst 1, 1) := by decide +kernel
theorem dL_holds_108 : decode cL_holds 108 = .ok (.if_icmp .eq 7, 3) := by decide +kernel
theorem dL_holds_111 : decode cL_holds 111 = .ok (.iconst 1, 1) := by decide +kernel
theorem dL_holds_112 : decode cL_holds 112 = .ok (.goto 4, 3) := by decide +kernel
theorem dL_holds_115 : decode cL_holds 115 = .ok (.iconst 0, 1) := by decide +kernel
theorem dL_holds_116 : decode cL_holds 116 = .ok (.if_icmp .ne 38, 3) := by decide +kernel
theorem dL_holds_119 : decode cL_holds 119 = .ok (.aload_n 0, 1) := by decide +kernel
theorem dL_holds_120 : decode cL_holds 120 = .ok (.iconst 2, 1) := by decide +kernel
theorem dL_holds_121 : decode cL_holds 121 = .ok (.iconst 3, 1) := by decide +kernel
theorem dL_holds_122 : decode cL_holds 122 = .ok (.iconst 0, 1) := by decide +kernel
theorem dL_holds_123 : decode cL_holds 123 = .ok (.iconst 0, 1) := by decide +kernel
theorem dL_holds_124 : decode cL_holds 124 = .ok (.invokestatic 146, 3) := by decide +kernel
theorem dL_holds_127 : decode cL_holds 127 = .ok (.bipush 80, 2) := by decide +kernel
theorem dL_holds_129 : decode cL_holds 129 = .ok (.if_icmp .gt 25, 3) := by decide +kernel
theorem dL_holds_132 : decode cL_holds 132 = .ok (.iload_n 2, 1) := by decide +kernel
theorem dL_holds_133 : decode cL_holds 133 = .ok (.iconst 3, 1) := by decide +kernel
theorem dL_holds_134 : decode cL_holds 134 = .ok (.if_icmp .ne 16, 3) := by decide +kernel
theorem dL_holds_137 : decode cL_holds 137 = .ok (.aload_n 0, 1) := by decide +kernel
theorem dL_holds_138 : decode cL_holds 138 = .ok (.iconst 2, 1) := by decide +kernel
theorem dL_holds_139 : decode cL_holds 139 = .ok (.iconst 3, 1) := by decide +kernel
theorem dL_holds_140 : decode cL_holds 140 = .ok (.iconst 0, 1) := by decide +kernel
theorem dL_holds_141 : decode cL_holds 141 = .ok (.iconst 0, 1) := by decide +kernel
theorem dL_holds_142 : decode cL_holds 142 = .ok (.invokestatic 146, 3) := by decide +kernel
theorem dL_holds_145 : decode cL_holds 145 = .ok (.bipush 80, 2) := by decide +kernel
theorem dL_holds_147 : decode cL_holds 147 = .ok (.if_icmp .ne 7, 3) := by decide +kernel
theorem dL_holds_150 : decode cL_holds 150 = .ok (.iconst 1, 1) := by decide +kernel
theorem dL_holds_151 : decode cL_holds 151 = .ok (.goto 4, 3) := by decide +kernel
theorem dL_holds_154 : decode cL_holds 154 = .ok (.iconst 0, 1) := by decide +kernel
theorem dL_holds_155 : decode cL_holds 155 = .ok (.istore 8, 2) := by decide +kernel
theorem dL_holds_157 : decode cL_holds 157 = .ok (.iconst 0, 1) := by decide +kernel
theorem dL_holds_158 : decode cL_holds 158 = .ok (.istore 9, 2) := by decide +kernel
theorem dL_holds_160 : decode cL_holds 160 = .ok (.iload 9, 2) := by decide +kernel
theorem dL_holds_162 : decode cL_holds 162 = .ok (.bipush 64, 2) := by decide +kernel
theorem dL_holds_164 : decode cL_holds 164 = .ok (.if_icmp .ge 204, 3) := by decide +kernel
theorem dL_holds_167 : decode cL_holds 167 = .ok (.iload 8, 2) := by decide +kernel
theorem dL_holds_169 : decode cL_holds 169 = .ok (.ifCond .eq 199, 3) := by decide +kernel
theorem dL_holds_172 : decode cL_holds 172 = .ok (.aload_n 0, 1) := by decide +kernel
theorem dL_holds_173 : decode cL_holds 173 = .ok (.iconst 4, 1) := by decide +kernel
theorem dL_holds_174 : decode cL_holds 174 = .ok (.iload 9, 2) := by decide +kernel
theorem dL_holds_176 : decode cL_holds 176 = .ok (.bipush 8, 2) := by decide +kernel
theorem dL_holds_178 : decode cL_holds 178 = .ok (.irem, 1) := by decide +kernel
theorem dL_holds_179 : decode cL_holds 179 = .ok (.iload 9, 2) := by decide +kernel
theorem dL_holds_181 : decode cL_holds 181 = .ok (.bipush 8, 2) := by decide +kernel
theorem dL_holds_183 : decode cL_holds 183 = .ok (.idiv, 1) := by decide +kernel
theorem dL_holds_184 : decode cL_holds 184 = .ok (.iconst 2, 1) := by decide +kernel
theorem dL_holds_185 : decode cL_holds 185 = .ok (.invokestatic 146, 3) := by decide +kernel
theorem dL_holds_188 : decode cL_holds 188 = .ok (.istore 10, 2) := by decide +kernel
theorem dL_holds_190 : decode cL_holds 190 = .ok (.aload_n 0, 1) := by decide +kernel
theorem dL_holds_191 : decode cL_holds 191 = .ok (.iconst 4, 1) := by decide +kernel
theorem dL_holds_192 : decode cL_holds 192 = .ok (.iload 9, 2) := by decide +kernel
theorem dL_holds_194 : decode cL_holds 194 = .ok (.bipush 8, 2) := by decide +kernel
theorem dL_holds_196 : decode cL_holds 196 = .ok (.irem, 1) := by decide +kernel
theorem dL_holds_197 : decode cL_holds 197 = .ok (.iload 9, 2) := by decide +kernel
theorem dL_holds_199 : decode cL_holds 199 = .ok (.bipush 8, 2) := by decide +kernel
theorem dL_holds_201 : decode cL_holds 201 = .ok (.idiv, 1) := by decide +kernel
theorem dL_holds_202 : decode cL_holds 202 = .ok (.iconst 3, 1) := by decide +kernel
theorem dL_holds_203 : decode cL_holds 203 = .ok (.invokestatic 146, 3) := by decide +kernel
theorem dL_holds_206 : decode cL_holds 206 = .ok (.istore 11, 2) := by decide +kernel
theorem dL_holds_208 : decode cL_holds 208 = .ok (.iload 6, 2) := by decide +kernel
theorem dL_holds_210 : decode cL_holds 210 = .ok (.iload 10, 2) := by decide +kernel
theorem dL_holds_212 : decode cL_holds 212 = .ok (.iconst 3, 1) := by decide +kernel
theorem dL_holds_213 : decode cL_holds 213 = .ok (.if_icmp .ne 7, 3) := by decide +kernel
theorem dL_holds_216 : decode cL_holds 216 = .ok (.iconst 2, 1) := by decide +kernel
theorem dL_holds_217 : decode cL_holds 217 = .ok (.goto 20, 3) := by decide +kernel
theorem dL_holds_220 : decode cL_holds 220 = .ok (.iload 10, 2) := by decide +kernel
theorem dL_holds_222 : decode cL_holds 222 = .ok (.iconst 1, 1) := by decide +kernel
theorem dL_holds_223 : decode cL_holds 223 = .ok (.if_icmp .eq 9, 3) := by decide +kernel
theorem dL_holds_226 : decode cL_holds 226 = .ok (.iload 10, 2) := by decide +kernel
theorem dL_holds_228 : decode cL_holds 228 = .ok (.iconst 2, 1) := by decide +kernel
theorem dL_holds_229 : decode cL_holds 229 = .ok (.if_icmp .ne 7, 3) := by decide +kernel
theorem dL_holds_232 : decode cL_holds 232 = .ok (.iconst 1, 1) := by decide +kernel
theorem dL_holds_233 : decode cL_holds 233 = .ok (.goto 4, 3) := by decide +kernel
theorem dL_holds_236 : decode cL_holds 236 = .ok (.iconst 0, 1) := by decide +kernel
theorem dL_holds_237 : decode cL_holds 237 = .ok (.iadd, 1) := by decide +kernel
theorem dL_holds_238 : decode cL_holds 238 = .ok (.istore 6, 2) := by decide +kernel
theorem dL_holds_240 : decode cL_holds 240 = .ok (.iload 7, 2) := by decide +kernel
theorem dL_holds_242 : decode cL_holds 242 = .ok (.iload 10, 2) := by decide +kernel
theorem dL_holds_244 : decode cL_holds 244 = .ok (.iconst 4, 1) := by decide +kernel
theorem dL_holds_245 : decode cL_holds 245 = .ok (.if_icmp .ne 7, 3) := by decide +kernel
theorem dL_holds_248 : decode cL_holds 248 = .ok (.iconst 1, 1) := by decide +kernel
theorem dL_holds_249 : decode cL_holds 249 = .ok (.goto 4, 3) := by decide +kernel
theorem dL_holds_252 : decode cL_holds 252 = .ok (.iconst 0, 1) := by decide +kernel
theorem dL_holds_253 : decode cL_holds 253 = .ok (.iadd, 1) := by decide +kernel
theorem dL_holds_254 : decode cL_holds 254 = .ok (.istore 7, 2) := by decide +kernel
theorem dL_holds_256 : decode cL_holds 256 = .ok (.iload 10, 2) := by decide +kernel
theorem dL_holds_258 : decode cL_holds 258 = .ok (.ifCond .lt 101, 3) := by decide +kernel
theorem dL_holds_261 : decode cL_holds 261 = .ok (.iload 10, 2) := by decide +kernel
theorem dL_holds_263 : decode cL_holds 263 = .ok (.iconst 5, 1) := by decide +kernel
theorem dL_holds_264 : decode cL_holds 264 = .ok (.if_icmp .ge 95, 3) := by decide +kernel
theorem dL_holds_267 : decode cL_holds 267 = .ok (.iload 11, 2) := by decide +kernel
theorem dL_holds_269 : decode cL_holds 269 = .ok (.iconst (-1), 1) := by decide +kernel
theorem dL_holds_270 : decode cL_holds 270 = .ok (.if_icmp .ne 7, 3) := by decide +kernel
theorem dL_holds_273 : decode cL_holds 273 = .ok (.iconst 1, 1) := by decide +kernel
theorem dL_holds_274 : decode cL_holds 274 = .ok (.goto 4, 3) := by decide +kernel
theorem dL_holds_277 : decode cL_holds 277 = .ok (.iconst 0, 1) := by decide +kernel
theorem dL_holds_278 : decode cL_holds 278 = .ok (.iload 10, 2) := by decide +kernel
theorem dL_holds_280 : decode cL_holds 280 = .ok (.iconst 4, 1) := by decide +kernel
theorem dL_holds_281 : decode cL_holds 281 = .ok (.if_icmp .eq 7, 3) := by decide +kernel
theorem dL_holds_284 : decode cL_holds 284 = .ok (.iconst 1, 1) := by decide +kernel
theorem dL_holds_285 : decode cL_holds 285 = .ok (.goto 4, 3) := by decide +kernel
theorem dL_holds_288 : decode cL_holds 288 = .ok (.iconst 0, 1) := by decide +kernel
theorem dL_holds_289 : decode cL_holds 289 = .ok (.if_icmp .ne 70, 3) := by decide +kernel
theorem dL_holds_292 : decode cL_holds 292 = .ok (.iload 11, 2) := by decide +kernel
theorem dL_holds_294 : decode cL_holds 294 = .ok (.bipush 39, 2) := by decide +kernel
theorem dL_holds_296 : decode cL_holds 296 = .ok (.if_icmp .gt 63, 3) := by decide +kernel
theorem dL_holds_299 : decode cL_holds 299 = .ok (.iload 10, 2) := by decide +kernel
theorem dL_holds_301 : decode cL_holds 301 = .ok (.iconst 3, 1) := by decide +kernel
theorem dL_holds_302 : decode cL_holds 302 = .ok (.if_icmp .ne 7, 3) := by decide +kernel
theorem dL_holds_305 : decode cL_holds 305 = .ok (.iconst 1, 1) := by decide +kernel
theorem dL_holds_306 : decode cL_holds 306 = .ok (.goto 4, 3) := by decide +kernel
theorem dL_holds_309 : decode cL_holds 309 = .ok (.iconst 0, 1) := by decide +kernel
theorem dL_holds_310 : decode cL_holds 310 = .ok (.iload 9, 2) := by decide +kernel
theorem dL_holds_312 : decode cL_holds 312 = .ok (.iload_n 3, 1) := by decide +kernel
theorem dL_holds_313 : decode cL_holds 313 = .ok (.if_icmp .ne 7, 3) := by decide +kernel
theorem dL_holds_316 : decode cL_holds 316 = .ok (.iconst 1, 1) := by decide +kernel
theorem dL_holds_317 : decode cL_holds 317 = .ok (.goto 4, 3) := by decide +kernel
theorem dL_holds_320 : decode cL_holds 320 = .ok (.iconst 0, 1) := by decide +kernel
theorem dL_holds_321 : decode cL_holds 321 = .ok (.if_icmp .ne 38, 3) := by decide +kernel
theorem dL_holds_324 : decode cL_holds 324 = .ok (.iload_n 2, 1) := by decide +kernel
theorem dL_holds_325 : decode cL_holds 325 = .ok (.iconst 1, 1) := by decide +kernel
theorem dL_holds_326 : decode cL_holds 326 = .ok (.if_icmp .ne 29, 3) := by decide +kernel
theorem dL_holds_329 : decode cL_holds 329 = .ok (.iload 10, 2) := by decide +kernel
theorem dL_holds_331 : decode cL_holds 331 = .ok (.ifCond .eq 24, 3) := by decide +kernel
theorem dL_holds_334 : decode cL_holds 334 = .ok (.aload_n 0, 1) := by decide +kernel
theorem dL_holds_335 : decode cL_holds 335 = .ok (.bipush 13, 2) := by decide +kernel
theorem dL_holds_337 : decode cL_holds 337 = .ok (.iload 9, 2) := by decide +kernel
theorem dL_holds_339 : decode cL_holds 339 = .ok (.bipush 8, 2) := by decide +kernel
theorem dL_holds_341 : decode cL_holds 341 = .ok (.irem, 1) := by decide +kernel
theorem dL_holds_342 : decode cL_holds 342 = .ok (.iload 9, 2) := by decide +kernel
theorem dL_holds_344 : decode cL_holds 344 = .ok (.bipush 8, 2) := by decide +kernel
theorem dL_holds_346 : decode cL_holds 346 = .ok (.idiv, 1) := by decide +kernel
theorem dL_holds_347 : decode cL_holds 347 = .ok (.iconst 0, 1) := by decide +kernel
theorem dL_holds_348 : decode cL_holds 348 = .ok (.invokestatic 146, 3) := by decide +kernel
theorem dL_holds_351 : decode cL_holds 351 = .ok (.iconst 1, 1) := by decide +kernel
theorem dL_holds_352 : decode cL_holds 352 = .ok (.if_icmp .ne 7, 3) := by decide +kernel
theorem dL_holds_355 : decode cL_holds 355 = .ok (.iconst 1, 1) := by decide +kernel
theorem dL_holds_356 : decode cL_holds 356 = .ok (.goto 4, 3) := by decide +kernel
theorem dL_holds_359 : decode cL_holds 359 = .ok (.iconst 0, 1) := by decide +kernel
theorem dL_holds_360 : decode cL_holds 360 = .ok (.istore 8, 2) := by decide +kernel
theorem dL_holds_362 : decode cL_holds 362 = .ok (.iinc 9 1, 3) := by decide +kernel
theorem dL_holds_365 : decode cL_holds 365 = .ok (.goto (-205), 3) := by decide +kernel
theorem dL_holds_368 : decode cL_holds 368 = .ok (.iconst 0, 1) := by decide +kernel
theorem dL_holds_369 : decode cL_holds 369 = .ok (.istore 9, 2) := by decide +kernel
theorem dL_holds_371 : decode cL_holds 371 = .ok (.iload 9, 2) := by decide +kernel
theorem dL_holds_373 : decode cL_holds 373 = .ok (.iconst 2, 1) := by decide +kernel
theorem dL_holds_374 : decode cL_holds 374 = .ok (.if_icmp .ge 296, 3) := by decide +kernel
theorem dL_holds_377 : decode cL_holds 377 = .ok (.iload 8, 2) := by decide +kernel
theorem dL_holds_379 : decode cL_holds 379 = .ok (.ifCond .eq 291, 3) := by decide +kernel
theorem dL_holds_382 : decode cL_holds 382 = .ok (.aload_n 0, 1) := by decide +kernel
theorem dL_holds_383 : decode cL_holds 383 = .ok (.iconst 3, 1) := by decide +kernel
theorem dL_holds_384 : decode cL_holds 384 = .ok (.iload 9, 2) := by decide +kernel
theorem dL_holds_386 : decode cL_holds 386 = .ok (.iconst 0, 1) := by decide +kernel
theorem dL_holds_387 : decode cL_holds 387 = .ok (.iconst 0, 1) := by decide +kernel
theorem dL_holds_388 : decode cL_holds 388 = .ok (.invokestatic 146, 3) := by decide +kernel
theorem dL_holds_391 : decode cL_holds 391 = .ok (.istore 10, 2) := by decide +kernel
theorem dL_holds_393 : decode cL_holds 393 = .ok (.aload_n 0, 1) := by decide +kernel
theorem dL_holds_394 : decode cL_holds 394 = .ok (.iconst 5, 1) := by decide +kernel
theorem dL_holds_395 : decode cL_holds 395 = .ok (.iload 9, 2) := by decide +kernel
theorem dL_holds_397 : decode cL_holds 397 = .ok (.iconst 0, 1) := by decide +kernel
theorem dL_holds_398 : decode cL_holds 398 = .ok (.iconst 0, 1) := by decide +kernel
theorem dL_holds_399 : decode cL_holds 399 = .ok (.invokestatic 146, 3) := by decide +kernel
theorem dL_holds_402 : decode cL_holds 402 = .ok (.iload 9, 2) := by decide +kernel
theorem dL_holds_404 : decode cL_holds 404 = .ok (.ifCond .ne 7, 3) := by decide +kernel
theorem dL_holds_407 : decode cL_holds 407 = .ok (.iconst 1, 1) := by decide +kernel
theorem dL_holds_408 : decode cL_holds 408 = .ok (.goto 5, 3) := by decide +kernel
theorem dL_holds_411 : decode cL_holds 411 = .ok (.bipush 6, 2) := by decide +kernel
theorem dL_holds_413 : decode cL_holds 413 = .ok (.if_icmp .ne 65, 3) := by decide +kernel
theorem dL_holds_416 : decode cL_holds 416 = .ok (.aload_n 0, 1) := by decide +kernel
theorem dL_holds_417 : decode cL_holds 417 = .ok (.iconst 5, 1) := by decide +kernel
theorem dL_holds_418 : decode cL_holds 418 = .ok (.iload 9, 2) := by decide +kernel
theorem dL_holds_420 : decode cL_holds 420 = .ok (.iload 10, 2) := by decide +kernel
theorem dL_holds_422 : decode cL_holds 422 = .ok (.iconst 1, 1) := by decide +kernel
theorem dL_holds_423 : decode cL_holds 423 = .ok (.isub, 1) := by decide +kernel
theorem dL_holds_424 : decode cL_holds 424 = .ok (.iconst 0, 1) := by decide +kernel
theorem dL_holds_425 : decode cL_holds 425 = .ok (.invokestatic 146, 3) := by decide +kernel
theorem dL_holds_428 : decode cL_holds 428 = .ok (.aload_n 0, 1) := by decide +kernel
theorem dL_holds_429 : decode cL_holds 429 = .ok (.iconst 3, 1) := by decide +kernel
theorem dL_holds_430 : decode cL_holds 430 = .ok (.iload 9, 2) := by decide +kernel
theorem dL_holds_432 : decode cL_holds 432 = .ok (.iconst 1, 1) := by decide +kernel
theorem dL_holds_433 : decode cL_holds 433 = .ok (.iconst 0, 1) := by decide +kernel
theorem dL_holds_434 : decode cL_holds 434 = .ok (.invokestatic 146, 3) := by decide +kernel
theorem dL_holds_437 : decode cL_holds 437 = .ok (.if_icmp .ne 41, 3) := by decide +kernel
theorem dL_holds_440 : decode cL_holds 440 = .ok (.aload_n 0, 1) := by decide +kernel
theorem dL_holds_441 : decode cL_holds 441 = .ok (.iconst 3, 1) := by decide +kernel
theorem dL_holds_442 : decode cL_holds 442 = .ok (.iload 9, 2) := by decide +kernel
theorem dL_holds_444 : decode cL_holds 444 = .ok (.iconst 3, 1) := by decide +kernel
theorem dL_holds_445 : decode cL_holds 445 = .ok (.iconst 0, 1) := by decide +kernel
theorem dL_holds_446 : decode cL_holds 446 = .ok (.invokestatic 146, 3) := by decide +kernel
theorem dL_holds_449 : decode cL_holds 449 = .ok (.iconst 3, 1) := by decide +kernel
theorem dL_holds_450 : decode cL_holds 450 = .ok (.if_icmp .gt 28, 3) := by decide +kernel
theorem dL_holds_453 : decode cL_holds 453 = .ok (.aload_n 0, 1) := by decide +kernel
theorem dL_holds_454 : decode cL_holds 454 = .ok (.iconst 3, 1) := by decide +kernel
theorem dL_holds_455 : decode cL_holds 455 = .ok (.iload 9, 2) := by decide +kernel
theorem dL_holds_457 : decode cL_holds 457 = .ok (.iconst 5, 1) := by decide +kernel
theorem dL_holds_458 : decode cL_holds 458 = .ok (.iconst 0, 1) := by decide +kernel
theorem dL_holds_459 : decode cL_holds 459 = .ok (.invokestatic 146, 3) := by decide +kernel
theorem dL_holds_462 : decode cL_holds 462 = .ok (.aload_n 0, 1) := by decide +kernel
theorem dL_holds_463 : decode cL_holds 463 = .ok (.iconst 3, 1) := by decide +kernel
theorem dL_holds_464 : decode cL_holds 464 = .ok (.iload 9, 2) := by decide +kernel
theorem dL_holds_466 : decode cL_holds 466 = .ok (.iconst 2, 1) := by decide +kernel
theorem dL_holds_467 : decode cL_holds 467 = .ok (.iconst 0, 1) := by decide +kernel
theorem dL_holds_468 : decode cL_holds 468 = .ok (.invokestatic 146, 3) := by decide +kernel
theorem dL_holds_471 : decode cL_holds 471 = .ok (.if_icmp .lt 7, 3) := by decide +kernel
theorem dL_holds_474 : decode cL_holds 474 = .ok (.iconst 1, 1) := by decide +kernel
theorem dL_holds_475 : decode cL_holds 475 = .ok (.goto 4, 3) := by decide +kernel
theorem dL_holds_478 : decode cL_holds 478 = .ok (.iconst 0, 1) := by decide +kernel
theorem dL_holds_479 : decode cL_holds 479 = .ok (.istore 8, 2) := by decide +kernel
theorem dL_holds_481 : decode cL_holds 481 = .ok (.iconst 1, 1) := by decide +kernel
theorem dL_holds_482 : decode cL_holds 482 = .ok (.istore 11, 2) := by decide +kernel
theorem dL_holds_484 : decode cL_holds 484 = .ok (.iload 11, 2) := by decide +kernel
theorem dL_holds_486 : decode cL_holds 486 = .ok (.iload 10, 2) := by decide +kernel
theorem dL_holds_488 : decode cL_holds 488 = .ok (.if_icmp .ge 80, 3) := by decide +kernel
theorem dL_holds_491 : decode cL_holds 491 = .ok (.iload 8, 2) := by decide +kernel
theorem dL_holds_493 : decode cL_holds 493 = .ok (.ifCond .eq 75, 3) := by decide +kernel
theorem dL_holds_496 : decode cL_holds 496 = .ok (.aload_n 0, 1) := by decide +kernel
theorem dL_holds_497 : decode cL_holds 497 = .ok (.iconst 5, 1) := by decide +kernel
theorem dL_holds_498 : decode cL_holds 498 = .ok (.iload 9, 2) := by decide +kernel
theorem dL_holds_500 : decode cL_holds 500 = .ok (.iload 11, 2) := by decide +kernel
theorem dL_holds_502 : decode cL_holds 502 = .ok (.iconst 1, 1) := by decide +kernel
theorem dL_holds_503 : decode cL_holds 503 = .ok (.isub, 1) := by decide +kernel
theorem dL_holds_504 : decode cL_holds 504 = .ok (.iconst 0, 1) := by decide +kernel
theorem dL_holds_505 : decode cL_holds 505 = .ok (.invokestatic 146, 3) := by decide +kernel
theorem dL_holds_508 : decode cL_holds 508 = .ok (.istore 12, 2) := by decide +kernel
theorem dL_holds_510 : decode cL_holds 510 = .ok (.aload_n 0, 1) := by decide +kernel
theorem dL_holds_511 : decode cL_holds 511 = .ok (.iconst 5, 1) := by decide +kernel
theorem dL_holds_512 : decode cL_holds 512 = .ok (.iload 9, 2) := by decide +kernel
theorem dL_holds_514 : decode cL_holds 514 = .ok (.iload 11, 2) := by decide +kernel
theorem dL_holds_516 : decode cL_holds 516 = .ok (.iconst 0, 1) := by decide +kernel
theorem dL_holds_517 : decode cL_holds 517 = .ok (.invokestatic 146, 3) := by decide +kernel
theorem dL_holds_520 : decode cL_holds 520 = .ok (.istore 13, 2) := by decide +kernel
theorem dL_holds_522 : decode cL_holds 522 = .ok (.iload 13, 2) := by decide +kernel
theorem dL_holds_524 : decode cL_holds 524 = .ok (.iload 12, 2) := by decide +kernel
theorem dL_holds_526 : decode cL_holds 526 = .ok (.iconst 0, 1) := by decide +kernel
theorem dL_holds_527 : decode cL_holds 527 = .ok (.invokestatic 163, 3) := by decide +kernel
theorem dL_holds_530 : decode cL_holds 530 = .ok (.if_icmp .eq 25, 3) := by decide +kernel
theorem dL_holds_533 : decode cL_holds 533 = .ok (.iload 13, 2) := by decide +kernel
theorem dL_holds_535 : decode cL_holds 535 = .ok (.iload 12, 2) := by decide +kernel
theorem dL_holds_537 : decode cL_holds 537 = .ok (.iconst 1, 1) := by decide +kernel
theorem dL_holds_538 : decode cL_holds 538 = .ok (.invokestatic 163, 3) := by decide +kernel
theorem dL_holds_541 : decode cL_holds 541 = .ok (.if_icmp .eq 14, 3) := by decide +kernel
theorem dL_holds_544 : decode cL_holds 544 = .ok (.iload 13, 2) := by decide +kernel
theorem dL_holds_546 : decode cL_holds 546 = .ok (.iload 12, 2) := by decide +kernel
theorem dL_holds_548 : decode cL_holds 548 = .ok (.iconst 2, 1) := by decide +kernel
theorem dL_holds_549 : decode cL_holds 549 = .ok (.invokestatic 163, 3) := by decide +kernel
theorem dL_holds_552 : decode cL_holds 552 = .ok (.if_icmp .ne 7, 3) := by decide +kernel
theorem dL_holds_555 : decode cL_holds 555 = .ok (.iconst 1, 1) := by decide +kernel
theorem dL_holds_556 : decode cL_holds 556 = .ok (.goto 4, 3) := by decide +kernel
theorem dL_holds_559 : decode cL_holds 559 = .ok (.iconst 0, 1) := by decide +kernel
theorem dL_holds_560 : decode cL_holds 560 = .ok (.istore 8, 2) := by decide +kernel
theorem dL_holds_562 : decode cL_holds 562 = .ok (.iinc 11 1, 3) := by decide +kernel
theorem dL_holds_565 : decode cL_holds 565 = .ok (.goto (-81), 3) := by decide +kernel
theorem dL_holds_568 : decode cL_holds 568 = .ok (.iload 6, 2) := by decide +kernel
theorem dL_holds_570 : decode cL_holds 570 = .ok (.iload 10, 2) := by decide +kernel
theorem dL_holds_572 : decode cL_holds 572 = .ok (.isub, 1) := by decide +kernel
theorem dL_holds_573 : decode cL_holds 573 = .ok (.istore 6, 2) := by decide +kernel
theorem dL_holds_575 : decode cL_holds 575 = .ok (.aload_n 0, 1) := by decide +kernel
theorem dL_holds_576 : decode cL_holds 576 = .ok (.bipush 14, 2) := by decide +kernel
theorem dL_holds_578 : decode cL_holds 578 = .ok (.iload 9, 2) := by decide +kernel
theorem dL_holds_580 : decode cL_holds 580 = .ok (.iconst 0, 1) := by decide +kernel
theorem dL_holds_581 : decode cL_holds 581 = .ok (.iconst 0, 1) := by decide +kernel
theorem dL_holds_582 : decode cL_holds 582 = .ok (.invokestatic 146, 3) := by decide +kernel
theorem dL_holds_585 : decode cL_holds 585 = .ok (.istore 11, 2) := by decide +kernel
theorem dL_holds_587 : decode cL_holds 587 = .ok (.iload 8, 2) := by decide +kernel
theorem dL_holds_589 : decode cL_holds 589 = .ok (.ifCond .eq 72, 3) := by decide +kernel
theorem dL_holds_592 : decode cL_holds 592 = .ok (.iload 11, 2) := by decide +kernel
theorem dL_holds_594 : decode cL_holds 594 = .ok (.aload_n 0, 1) := by decide +kernel
theorem dL_holds_595 : decode cL_holds 595 = .ok (.bipush 14, 2) := by decide +kernel
theorem dL_holds_597 : decode cL_holds 597 = .ok (.iload 9, 2) := by decide +kernel
theorem dL_holds_599 : decode cL_holds 599 = .ok (.iconst 1, 1) := by decide +kernel
theorem dL_holds_600 : decode cL_holds 600 = .ok (.iconst 0, 1) := by decide +kernel
theorem dL_holds_601 : decode cL_holds 601 = .ok (.invokestatic 146, 3) := by decide +kernel
theorem dL_holds_604 : decode cL_holds 604 = .ok (.if_icmp .ne 57, 3) := by decide +kernel
theorem dL_holds_607 : decode cL_holds 607 = .ok (.aload_n 0, 1) := by decide +kernel
theorem dL_holds_608 : decode cL_holds 608 = .ok (.iconst 3, 1) := by decide +kernel
theorem dL_holds_609 : decode cL_holds 609 = .ok (.iload 9, 2) := by decide +kernel
theorem dL_holds_611 : decode cL_holds 611 = .ok (.iconst 1, 1) := by decide +kernel
theorem dL_holds_612 : decode cL_holds 612 = .ok (.iconst 0, 1) := by decide +kernel
theorem dL_holds_613 : decode cL_holds 613 = .ok (.invokestatic 146, 3) := by decide +kernel
theorem dL_holds_616 : decode cL_holds 616 = .ok (.bipush 56, 2) := by decide +kernel
theorem dL_holds_618 : decode cL_holds 618 = .ok (.if_icmp .lt 8, 3) := by decide +kernel
theorem dL_holds_621 : decode cL_holds 621 = .ok (.iload 11, 2) := by decide +kernel
theorem dL_holds_623 : decode cL_holds 623 = .ok (.ifCond .ne 38, 3) := by decide +kernel
theorem dL_holds_626 : decode cL_holds 626 = .ok (.iload_n 2, 1) := by decide +kernel
theorem dL_holds_627 : decode cL_holds 627 = .ok (.iconst 2, 1) := by decide +kernel
theorem dL_holds_628 : decode cL_holds 628 = .ok (.if_icmp .ne 7, 3) := by decide +kernel
theorem dL_holds_631 : decode cL_holds 631 = .ok (.iconst 1, 1) := by decide +kernel
theorem dL_holds_632 : decode cL_holds 632 = .ok (.goto 4, 3) := by decide +kernel
theorem dL_holds_635 : decode cL_holds 635 = .ok (.iconst 0, 1) := by decide +kernel
theorem dL_holds_636 : decode cL_holds 636 = .ok (.aload_n 0, 1) := by decide +kernel
theorem dL_holds_637 : decode cL_holds 637 = .ok (.bipush 15, 2) := by decide +kernel
theorem dL_holds_639 : decode cL_holds 639 = .ok (.iload 9, 2) := by decide +kernel
theorem dL_holds_641 : decode cL_holds 641 = .ok (.iconst 0, 1) := by decide +kernel
theorem dL_holds_642 : decode cL_holds 642 = .ok (.iconst 0, 1) := by decide +kernel
theorem dL_holds_643 : decode cL_holds 643 = .ok (.invokestatic 146, 3) := by decide +kernel
theorem dL_holds_646 : decode cL_holds 646 = .ok (.ifCond .ne 7, 3) := by decide +kernel
theorem dL_holds_649 : decode cL_holds 649 = .ok (.iconst 1, 1) := by decide +kernel
theorem dL_holds_650 : decode cL_holds 650 = .ok (.goto 4, 3) := by decide +kernel
theorem dL_holds_653 : decode cL_holds 653 = .ok (.iconst 0, 1) := by decide +kernel
theorem dL_holds_654 : decode cL_holds 654 = .ok (.if_icmp .ne 7, 3) := by decide +kernel
theorem dL_holds_657 : decode cL_holds 657 = .ok (.iconst 1, 1) := by decide +kernel
theorem dL_holds_658 : decode cL_holds 658 = .ok (.goto 4, 3) := by decide +kernel
theorem dL_holds_661 : decode cL_holds 661 = .ok (.iconst 0, 1) := by decide +kernel
theorem dL_holds_662 : decode cL_holds 662 = .ok (.istore 8, 2) := by decide +kernel
theorem dL_holds_664 : decode cL_holds 664 = .ok (.iinc 9 1, 3) := by decide +kernel
theorem dL_holds_667 : decode cL_holds 667 = .ok (.goto (-296), 3) := by decide +kernel
theorem dL_holds_670 : decode cL_holds 670 = .ok (.aload_n 0, 1) := by decide +kernel
theorem dL_holds_671 : decode cL_holds 671 = .ok (.invokevirtual 166, 3) := by decide +kernel
theorem dL_holds_674 : decode cL_holds 674 = .ok (.istore 9, 2) := by decide +kernel
theorem dL_holds_676 : decode cL_holds 676 = .ok (.aload_n 0, 1) := by decide +kernel
theorem dL_holds_677 : decode cL_holds 677 = .ok (.invokevirtual 160, 3) := by decide +kernel
theorem dL_holds_680 : decode cL_holds 680 = .ok (.istore 10, 2) := by decide +kernel
theorem dL_holds_682 : decode cL_holds 682 = .ok (.iload_n 1, 1) := by decide +kernel
theorem dL_holds_683 : decode cL_holds 683 = .ok (.bipush 64, 2) := by decide +kernel
theorem dL_holds_685 : decode cL_holds 685 = .ok (.irem, 1) := by decide +kernel
theorem dL_holds_686 : decode cL_holds 686 = .ok (.istore 11, 2) := by decide +kernel
theorem dL_holds_688 : decode cL_holds 688 = .ok (.iload 8, 2) := by decide +kernel
theorem dL_holds_690 : decode cL_holds 690 = .ok (.ifCond .eq 173, 3) := by decide +kernel
theorem dL_holds_693 : decode cL_holds 693 = .ok (.iload 6, 2) := by decide +kernel
theorem dL_holds_695 : decode cL_holds 695 = .ok (.ifCond .ne 168, 3) := by decide +kernel
theorem dL_holds_698 : decode cL_holds 698 = .ok (.iload 7, 2) := by decide +kernel
theorem dL_holds_700 : decode cL_holds 700 = .ok (.aload_n 0, 1) := by decide +kernel
theorem dL_holds_701 : decode cL_holds 701 = .ok (.iconst 2, 1) := by decide +kernel
theorem dL_holds_702 : decode cL_holds 702 = .ok (.iconst 4, 1) := by decide +kernel
theorem dL_holds_703 : decode cL_holds 703 = .ok (.iconst 0, 1) := by decide +kernel
theorem dL_holds_704 : decode cL_holds 704 = .ok (.iconst 0, 1) := by decide +kernel
theorem dL_holds_705 : decode cL_holds 705 = .ok (.invokestatic 146, 3) := by decide +kernel
theorem dL_holds_708 : decode cL_holds 708 = .ok (.if_icmp .ne 155, 3) := by decide +kernel
theorem dL_holds_711 : decode cL_holds 711 = .ok (.iload 5, 2) := by decide +kernel
theorem dL_holds_713 : decode cL_holds 713 = .ok (.ifCond .le 150, 3) := by decide +kernel
theorem dL_holds_716 : decode cL_holds 716 = .ok (.iload 9, 2) := by decide +kernel
theorem dL_holds_718 : decode cL_holds 718 = .ok (.iconst (-1), 1) := by decide +kernel
theorem dL_holds_719 : decode cL_holds 719 = .ok (.if_icmp .eq 22, 3) := by decide +kernel
theorem dL_holds_722 : decode cL_holds 722 = .ok (.aload_n 0, 1) := by decide +kernel
theorem dL_holds_723 : decode cL_holds 723 = .ok (.iconst 4, 1) := by decide +kernel
theorem dL_holds_724 : decode cL_holds 724 = .ok (.iload 9, 2) := by decide +kernel
theorem dL_holds_726 : decode cL_holds 726 = .ok (.bipush 8, 2) := by decide +kernel
theorem dL_holds_728 : decode cL_holds 728 = .ok (.irem, 1) := by decide +kernel
theorem dL_holds_729 : decode cL_holds 729 = .ok (.iload 9, 2) := by decide +kernel
theorem dL_holds_731 : decode cL_holds 731 = .ok (.bipush 8, 2) := by decide +kernel
theorem dL_holds_733 : decode cL_holds 733 = .ok (.idiv, 1) := by decide +kernel
theorem dL_holds_734 : decode cL_holds 734 = .ok (.iconst 2, 1) := by decide +kernel
theorem dL_holds_735 : decode cL_holds 735 = .ok (.invokestatic 146, 3) := by decide +kernel
theorem dL_holds_738 : decode cL_holds 738 = .ok (.ifCond .ne 125, 3) := by decide +kernel
theorem dL_holds_741 : decode cL_holds 741 = .ok (.iload 10, 2) := by decide +kernel
theorem dL_holds_743 : decode cL_holds 743 = .ok (.iconst (-1), 1) := by decide +kernel
theorem dL_holds_744 : decode cL_holds 744 = .ok (.if_icmp .eq 16, 3) := by decide +kernel
theorem dL_holds_747 : decode cL_holds 747 = .ok (.aload_n 0, 1) := by decide +kernel
theorem dL_holds_748 : decode cL_holds 748 = .ok (.bipush 12, 2) := by decide +kernel
theorem dL_holds_750 : decode cL_holds 750 = .ok (.iload 10, 2) := by decide +kernel
theorem dL_holds_752 : decode cL_holds 752 = .ok (.iconst 0, 1) := by decide +kernel
theorem dL_holds_753 : decode cL_holds 753 = .ok (.iconst 0, 1) := by decide +kernel
theorem dL_holds_754 : decode cL_holds 754 = .ok (.invokestatic 146, 3) := by decide +kernel
theorem dL_holds_757 : decode cL_holds 757 = .ok (.ifCond .ne 106, 3) := by decide +kernel
theorem dL_holds_760 : decode cL_holds 760 = .ok (.iload_n 2, 1) := by decide +kernel
theorem dL_holds_761 : decode cL_holds 761 = .ok (.iconst 2, 1) := by decide +kernel
theorem dL_holds_762 : decode cL_holds 762 = .ok (.if_icmp .ne 55, 3) := by decide +kernel
theorem dL_holds_765 : decode cL_holds 765 = .ok (.iload 4, 2) := by decide +kernel
theorem dL_holds_767 : decode cL_holds 767 = .ok (.aload_n 0, 1) := by decide +kernel
theorem dL_holds_768 : decode cL_holds 768 = .ok (.iconst 3, 1) := by decide +kernel
theorem dL_holds_769 : decode cL_holds 769 = .ok (.iconst 0, 1) := by decide +kernel
theorem dL_holds_770 : decode cL_holds 770 = .ok (.iconst 2, 1) := by decide +kernel
theorem dL_holds_771 : decode cL_holds 771 = .ok (.iconst 0, 1) := by decide +kernel
theorem dL_holds_772 : decode cL_holds 772 = .ok (.invokestatic 146, 3) := by decide +kernel
theorem dL_holds_775 : decode cL_holds 775 = .ok (.aload_n 0, 1) := by decide +kernel
theorem dL_holds_776 : decode cL_holds 776 = .ok (.iconst 3, 1) := by decide +kernel
theorem dL_holds_777 : decode cL_holds 777 = .ok (.iconst 1, 1) := by decide +kernel
theorem dL_holds_778 : decode cL_holds 778 = .ok (.iconst 2, 1) := by decide +kernel
theorem dL_holds_779 : decode cL_holds 779 = .ok (.iconst 0, 1) := by decide +kernel
theorem dL_holds_780 : decode cL_holds 780 = .ok (.invokestatic 146, 3) := by decide +kernel
theorem dL_holds_783 : decode cL_holds 783 = .ok (.if_icmp .ge 7, 3) := by decide +kernel
theorem dL_holds_786 : decode cL_holds 786 = .ok (.iconst 0, 1) := by decide +kernel
theorem dL_holds_787 : decode cL_holds 787 = .ok (.goto 27, 3) := by decide +kernel
theorem dL_holds_790 : decode cL_holds 790 = .ok (.aload_n 0, 1) := by decide +kernel
theorem dL_holds_791 : decode cL_holds 791 = .ok (.iconst 3, 1) := by decide +kernel
theorem dL_holds_792 : decode cL_holds 792 = .ok (.iconst 0, 1) := by decide +kernel
theorem dL_holds_793 : decode cL_holds 793 = .ok (.iconst 2, 1) := by decide +kernel
theorem dL_holds_794 : decode cL_holds 794 = .ok (.iconst 0, 1) := by decide +kernel
theorem dL_holds_795 : decode cL_holds 795 = .ok (.invokestatic 146, 3) := by decide +kernel
theorem dL_holds_798 : decode cL_holds 798 = .ok (.aload_n 0, 1) := by decide +kernel
theorem dL_holds_799 : decode cL_holds 799 = .ok (.iconst 3, 1) := by decide +kernel
theorem dL_holds_800 : decode cL_holds 800 = .ok (.iconst 1, 1) := by decide +kernel
theorem dL_holds_801 : decode cL_holds 801 = .ok (.iconst 2, 1) := by decide +kernel
theorem dL_holds_802 : decode cL_holds 802 = .ok (.iconst 0, 1) := by decide +kernel
theorem dL_holds_803 : decode cL_holds 803 = .ok (.invokestatic 146, 3) := by decide +kernel
theorem dL_holds_806 : decode cL_holds 806 = .ok (.if_icmp .le 7, 3) := by decide +kernel
theorem dL_holds_809 : decode cL_holds 809 = .ok (.iconst 1, 1) := by decide +kernel
theorem dL_holds_810 : decode cL_holds 810 = .ok (.goto 4, 3) := by decide +kernel
theorem dL_holds_813 : decode cL_holds 813 = .ok (.iconst (-1), 1) := by decide +kernel
theorem dL_holds_814 : decode cL_holds 814 = .ok (.if_icmp .ne 49, 3) := by decide +kernel
theorem dL_holds_817 : decode cL_holds 817 = .ok (.aload_n 0, 1) := by decide +kernel
theorem dL_holds_818 : decode cL_holds 818 = .ok (.iconst 4, 1) := by decide +kernel
theorem dL_holds_819 : decode cL_holds 819 = .ok (.iload 11, 2) := by decide +kernel
theorem dL_holds_821 : decode cL_holds 821 = .ok (.bipush 8, 2) := by decide +kernel
theorem dL_holds_823 : decode cL_holds 823 = .ok (.irem, 1) := by decide +kernel
theorem dL_holds_824 : decode cL_holds 824 = .ok (.iload 11, 2) := by decide +kernel
theorem dL_holds_826 : decode cL_holds 826 = .ok (.bipush 8, 2) := by decide +kernel
theorem dL_holds_828 : decode cL_holds 828 = .ok (.idiv, 1) := by decide +kernel
theorem dL_holds_829 : decode cL_holds 829 = .ok (.iconst 0, 1) := by decide +kernel
theorem dL_holds_830 : decode cL_holds 830 = .ok (.invokestatic 146, 3) := by decide +kernel
theorem dL_holds_833 : decode cL_holds 833 = .ok (.bipush 10, 2) := by decide +kernel
theorem dL_holds_835 : decode cL_holds 835 = .ok (.if_icmp .ge 28, 3) := by decide +kernel
theorem dL_holds_838 : decode cL_holds 838 = .ok (.aload_n 0, 1) := by decide +kernel
theorem dL_holds_839 : decode cL_holds 839 = .ok (.iconst 4, 1) := by decide +kernel
theorem dL_holds_840 : decode cL_holds 840 = .ok (.iload 11, 2) := by decide +kernel
theorem dL_holds_842 : decode cL_holds 842 = .ok (.bipush 8, 2) := by decide +kernel
theorem dL_holds_844 : decode cL_holds 844 = .ok (.irem, 1) := by decide +kernel
theorem dL_holds_845 : decode cL_holds 845 = .ok (.iload 11, 2) := by decide +kernel
theorem dL_holds_847 : decode cL_holds 847 = .ok (.bipush 8, 2) := by decide +kernel
theorem dL_holds_849 : decode cL_holds 849 = .ok (.idiv, 1) := by decide +kernel
theorem dL_holds_850 : decode cL_holds 850 = .ok (.iconst 1, 1) := by decide +kernel
theorem dL_holds_851 : decode cL_holds 851 = .ok (.invokestatic 146, 3) := by decide +kernel
theorem dL_holds_854 : decode cL_holds 854 = .ok (.bipush 10, 2) := by decide +kernel
theorem dL_holds_856 : decode cL_holds 856 = .ok (.if_icmp .ge 7, 3) := by decide +kernel
theorem dL_holds_859 : decode cL_holds 859 = .ok (.iconst 1, 1) := by decide +kernel
theorem dL_holds_860 : decode cL_holds 860 = .ok (.goto 4, 3) := by decide +kernel
theorem dL_holds_863 : decode cL_holds 863 = .ok (.iconst 0, 1) := by decide +kernel
theorem dL_holds_864 : decode cL_holds 864 = .ok (.ireturn, 1) := by decide +kernel
