/-! THE LAW'S act -/
set_option maxRecDepth 20000 in
theorem gp_act_call_0 : GoodIn wsL_act wsL_call_r1 := goodIn_r _ [6, 7, 4, 8, 9, 10, 11, 12, 13, 14, 15, 16, 17, 18, 19, 20, 21, 22, 23, 24, 25, 26, 27, 28] rfl (by decide +kernel)
set_option maxRecDepth 20000 in
theorem gp_act_call_1 : GoodIn wsL_act wsL_call_r2 := goodIn_r _ [29, 30, 31, 32, 33, 34, 35, 36, 37, 38, 39, 40, 41, 42, 43, 44, 45, 46, 47, 48, 49, 50, 51, 52] rfl (by decide +kernel)
set_option maxRecDepth 20000 in
theorem gp_act_call_2 : GoodIn wsL_act wsL_call_r3 := goodIn_r _ [53, 54, 55, 56, 57, 58, 59, 60, 61, 62, 63, 64, 65, 66, 67, 68, 69, 70, 71, 72, 73, 74, 75, 76] rfl (by decide +kernel)
set_option maxRecDepth 20000 in
theorem gp_act_call_3 : GoodIn wsL_act wsL_call_r4 := goodIn_r _ [77, 78, 79, 80, 81, 82, 83, 84, 85, 86, 87, 88, 89, 90, 91, 92, 93, 94, 95, 96, 97, 98, 99, 100] rfl (by decide +kernel)
set_option maxRecDepth 20000 in
theorem gp_act_call_4 : GoodIn wsL_act wsL_call_r5 := goodIn_r _ [101, 102, 103, 104, 105, 106, 107, 108, 109, 110, 111, 112, 113, 114, 115, 116, 117, 118, 119, 120, 121, 122, 123, 124] rfl (by decide +kernel)
set_option maxRecDepth 20000 in
theorem gp_act_call_5 : GoodIn wsL_act wsL_call_r6 := goodIn_r _ [125, 126, 127, 128, 129, 130, 131, 132, 133, 134, 135, 136, 137, 138, 139, 140, 141, 142, 143, 144, 145, 146, 147, 148] rfl (by decide +kernel)
set_option maxRecDepth 20000 in
theorem gp_act_call_6 : GoodIn wsL_act wsL_call_r7 := goodIn_r _ [149, 150, 151, 152, 153, 154, 155, 156, 157, 158, 159, 160, 161, 162, 163, 164, 165, 166, 167, 168, 169, 170, 171, 172] rfl (by decide +kernel)
set_option maxRecDepth 20000 in
theorem gp_act_call_7 : GoodIn wsL_act wsL_call_r8 := goodIn_r _ [173, 174, 175, 176, 177, 178, 179, 180, 181, 182, 183, 184, 185, 186, 187, 188, 189, 190, 191, 192, 193, 194, 195, 196] rfl (by decide +kernel)
set_option maxRecDepth 20000 in
theorem gp_act_call_8 : GoodIn wsL_act wsL_call_r9 := goodIn_r _ [197, 198, 199, 200, 201, 202, 203, 204, 205, 206, 207, 208, 209, 210, 211, 212, 213, 214, 215, 216, 217, 218, 219, 220] rfl (by decide +kernel)
set_option maxRecDepth 20000 in
theorem gp_act_call_9 : GoodIn wsL_act wsL_call_r10 := goodIn_r _ [221, 222, 223, 224, 225, 226, 227, 228, 229, 230, 231, 232, 233, 234, 235, 236, 237, 238, 239, 240, 241, 242, 243, 244] rfl (by decide +kernel)
set_option maxRecDepth 20000 in
theorem gp_act_call_10 : GoodIn wsL_act wsL_call_r11 := goodIn_r _ [245, 246, 247, 248, 249, 250, 251, 252, 253, 254, 255, 256, 257, 258, 259, 260, 261, 262, 263, 264, 265, 266, 267, 268] rfl (by decide +kernel)
set_option maxRecDepth 20000 in
theorem gp_act_call_11 : GoodIn wsL_act wsL_call_r12 := goodIn_r _ [269, 270, 271, 272, 273, 274, 275, 276, 277, 278, 279, 280, 281, 282, 283, 284, 285, 286, 287, 288, 289, 290, 291, 292] rfl (by decide +kernel)
set_option maxRecDepth 20000 in
theorem gp_act_call_12 : GoodIn wsL_act wsL_call_r13 := goodIn_r _ [293, 294, 295, 296, 297, 298, 299, 300, 301, 302, 303, 304, 305, 306, 307, 308, 309, 310, 311, 312, 313, 314, 315, 316] rfl (by decide +kernel)
set_option maxRecDepth 20000 in
theorem gp_act_call_13 : GoodIn wsL_act wsL_call_r14 := goodIn_r _ [317, 318, 319, 320, 321, 322, 323, 324, 325, 326, 327, 328, 329, 330, 331, 332, 333, 334, 335, 336, 337, 338, 339, 340] rfl (by decide +kernel)
set_option maxRecDepth 20000 in
theorem gp_act_call_14 : GoodIn wsL_act wsL_call_r15 := goodIn_r _ [341, 342, 343, 344, 345, 346, 347, 348, 349, 350, 351, 352, 353, 354, 355, 356, 357, 358, 359, 360, 361, 362, 363, 364] rfl (by decide +kernel)
set_option maxRecDepth 20000 in
theorem gp_act_call_15 : GoodIn wsL_act wsL_call_r16 := goodIn_r _ [365, 366, 367, 368, 369, 370, 371, 372, 373, 374, 375, 376, 377, 378, 379, 380, 381, 382, 383, 384, 385, 386, 387, 388] rfl (by decide +kernel)
set_option maxRecDepth 20000 in
theorem gp_act_call_16 : GoodIn wsL_act wsL_call_r17 := goodIn_r _ [389, 390, 391, 392, 393, 394, 395, 396, 397, 398, 399, 400, 401, 402, 403, 404, 405, 406, 407, 408, 409, 410, 411, 412] rfl (by decide +kernel)
set_option maxRecDepth 20000 in
theorem gp_act_call_17 : GoodIn wsL_act wsL_call_r18 := goodIn_r _ [413, 414, 415, 416, 417, 418, 419, 420, 421, 422, 423, 424, 425, 426, 427, 428, 429, 430, 431, 432, 433, 434, 435, 436] rfl (by decide +kernel)
set_option maxRecDepth 20000 in
theorem gp_act_call_18 : GoodIn wsL_act wsL_call_r19 := goodIn_r _ [437, 438, 439, 440, 441, 442, 443, 444, 445, 446, 447, 448, 449, 450, 451, 452, 453, 454, 455, 456, 457, 458, 459, 460] rfl (by decide +kernel)
set_option maxRecDepth 20000 in
theorem gp_act_call_19 : GoodIn wsL_act wsL_call_r20 := goodIn_r _ [461, 462, 463, 464, 465, 466, 467, 468, 469, 470, 471, 472, 473, 474, 475, 476, 477, 478, 479, 480, 481, 482, 483, 484] rfl (by decide +kernel)
set_option maxRecDepth 20000 in
theorem gp_act_call_20 : GoodIn wsL_act wsL_call_r21 := goodIn_r _ [485, 486, 487, 488, 489, 490, 491, 492, 493, 494, 495, 496, 497, 498, 499, 500, 501, 502, 503, 504, 505, 506, 507, 508] rfl (by decide +kernel)
set_option maxRecDepth 20000 in
theorem gp_act_call_21 : GoodIn wsL_act wsL_call_r22 := goodIn_r _ [509, 510, 511, 512, 513, 514, 515, 516, 517, 518, 519, 520, 521, 522] rfl (by decide +kernel)
set_option maxRecDepth 20000 in
theorem gp_act_call_h : GoodIn wsL_act [.code yL_call cL_call 5 (some .int)] := goodIn_r _ [5] rfl (by decide +kernel)
set_option maxRecDepth 20000 in
theorem ggL_act_L_call : GoodIn wsL_act wsL_call := (goodIn_ca (goodIn_ca (goodIn_ca (goodIn_ca (goodIn_ca (goodIn_ca (goodIn_ca (goodIn_ca (goodIn_ca (goodIn_ca (goodIn_cons gp_act_call_h (goodIn_app gp_act_call_0 (goodIn_app gp_act_call_1 (goodIn_app gp_act_call_2 (goodIn_app gp_act_call_3 (goodIn_app gp_act_call_4 (goodIn_app gp_act_call_5 (goodIn_app gp_act_call_6 (goodIn_app gp_act_call_7 (goodIn_app gp_act_call_8 (goodIn_app gp_act_call_9 (goodIn_app gp_act_call_10 (goodIn_app gp_act_call_11 (goodIn_app gp_act_call_12 (goodIn_app gp_act_call_13 (goodIn_app gp_act_call_14 (goodIn_app gp_act_call_15 (goodIn_app gp_act_call_16 (goodIn_app gp_act_call_17 (goodIn_app gp_act_call_18 (goodIn_app gp_act_call_19 (goodIn_app gp_act_call_20 gp_act_call_21)))))))))))))))))))))) (goodIn_sub (fun _ h => (List.mem_cons_of_mem _ (List.mem_append_left _ (List.mem_append_left _ (List.mem_append_left _ (List.mem_append_left _ (List.mem_append_left _ (List.mem_append_left _ (List.mem_append_left _ (List.mem_append_left _ (List.mem_append_left _ (List.mem_append_right _ h)))))))))))) (by decide +kernel))) (goodIn_sub (fun _ h => (List.mem_cons_of_mem _ (List.mem_append_left _ (List.mem_append_left _ (List.mem_append_left _ (List.mem_append_left _ (List.mem_append_left _ (List.mem_append_left _ (List.mem_append_left _ (List.mem_append_left _ (List.mem_append_right _ h))))))))))) (by decide +kernel))) (goodIn_sub (fun _ h => (List.mem_cons_of_mem _ (List.mem_append_left _ (List.mem_append_left _ (List.mem_append_left _ (List.mem_append_left _ (List.mem_append_left _ (List.mem_append_left _ (List.mem_append_left _ (List.mem_append_right _ h)))))))))) (by decide +kernel))) (goodIn_sub (fun _ h => (List.mem_cons_of_mem _ (List.mem_append_left _ (List.mem_append_left _ (List.mem_append_left _ (List.mem_append_left _ (List.mem_append_left _ (List.mem_append_left _ (List.mem_append_right _ h))))))))) (by decide +kernel))) (goodIn_sub (fun _ h => (List.mem_cons_of_mem _ (List.mem_append_left _ (List.mem_append_left _ (List.mem_append_left _ (List.mem_append_left _ (List.mem_append_left _ (List.mem_append_right _ h)))))))) (by decide +kernel))) (goodIn_sub (fun _ h => (List.mem_cons_of_mem _ (List.mem_append_left _ (List.mem_append_left _ (List.mem_append_left _ (List.mem_append_left _ (List.mem_append_right _ h))))))) (by decide +kernel))) (goodIn_sub (fun _ h => (List.mem_cons_of_mem _ (List.mem_append_left _ (List.mem_append_left _ (List.mem_append_left _ (List.mem_append_right _ h)))))) (by decide +kernel))) (goodIn_sub (fun _ h => (List.mem_cons_of_mem _ (List.mem_append_left _ (List.mem_append_left _ (List.mem_append_right _ h))))) (by decide +kernel))) (goodIn_sub (fun _ h => (List.mem_cons_of_mem _ (List.mem_append_left _ (List.mem_append_right _ h)))) (by decide +kernel))) (goodIn_sub (fun _ h => (List.mem_cons_of_mem _ (List.mem_append_right _ h))) (by decide +kernel)))
set_option maxRecDepth 20000 in
theorem gL_act_L_call : GoodIn wsL_act (va_wsS RL 146 yL_call wsL_call) := goodIn_app (goodIn_of _ (by decide +kernel)) ggL_act_L_call
set_option maxRecDepth 20000 in
theorem ggL_act_X6_game : GoodIn wsL_act wsX6_game := goodIn_r _ [526, 42, 41, 314, 392, 393, 394, 126, 395, 396, 128, 397, 398, 399, 400, 401, 402, 403, 404, 405, 406, 407, 408, 72, 409, 79, 82, 87, 74, 75, 76, 88, 89, 90, 91, 77, 78, 410, 411, 412, 110, 413, 192, 120, 112, 113, 114, 115, 414, 197, 415, 16, 416, 139, 84, 85, 86, 92, 93, 94, 95, 96, 97, 98, 99, 100, 101, 102, 103, 104, 105, 106, 107, 108, 109, 111, 116, 117, 118, 119, 121, 122, 531, 532, 533, 534, 535, 536, 537, 542, 543, 544, 545, 546, 547, 548, 549, 550, 551, 552, 553, 562, 563, 564, 554, 555, 556, 557, 558, 559, 560, 561] (by decide +kernel) (by decide +kernel)
set_option maxRecDepth 20000 in
theorem gL_act_X6_game : GoodIn wsL_act (wsV RL 171 RX6 yX6_game wsX6_game) := goodIn_app (goodIn_of _ (by decide +kernel)) ggL_act_X6_game
set_option maxRecDepth 20000 in
theorem ggL_act_X6_best : GoodIn wsL_act wsX6_best := goodIn_r _ [530, 133, 41, 259, 260, 261, 219, 262, 263, 264, 145, 146, 72, 147, 148, 149, 150, 151, 90, 88, 265, 266, 267, 268, 221, 228, 269, 229, 270, 271, 153, 154, 155, 89, 156, 157, 158, 159, 79, 82, 160, 161, 162, 110, 163, 113, 120, 164, 16, 165, 166, 121, 122, 167, 168, 169, 170, 171, 172, 173, 87, 174, 175, 176, 177, 112, 272, 273, 274, 275, 276, 277, 278, 223, 230, 242, 279, 189, 190, 191, 192, 280, 281, 282, 283, 222, 241, 237, 238, 239, 240, 284, 285, 286, 287, 288, 289, 290, 291, 236, 531, 532, 533, 534, 535, 536, 537, 542, 543, 544, 545, 546, 547, 548, 549, 550, 551, 552, 553, 565, 566, 567, 568, 569, 570, 554, 555, 556, 557, 558, 559, 560, 561] (by decide +kernel) (by decide +kernel)
set_option maxRecDepth 20000 in
theorem gL_act_X6_best : GoodIn wsL_act (wsV RL 160 RX6 yX6_best wsX6_best) := goodIn_app (goodIn_of _ (by decide +kernel)) ggL_act_X6_best
theorem dL_act_0 : decode cL_act 0 = .ok (.iload_n 1, 1) := by decide +kernel
theorem dL_act_1 : decode cL_act 1 = .ok (.bipush 16, 2) := by decide +kernel
theorem dL_act_3 : decode cL_act 3 = .ok (.idiv, 1) := by decide +kernel
theorem dL_act_4 : decode cL_act 4 = .ok (.istore_n 2, 1) := by decide +kernel
theorem dL_act_5 : decode cL_act 5 = .ok (.aload_n 0, 1) := by decide +kernel
theorem dL_act_6 : decode cL_act 6 = .ok (.iconst 2, 1) := by decide +kernel
theorem dL_act_7 : decode cL_act 7 = .ok (.iconst 1, 1) := by decide +kernel
theorem dL_act_8 : decode cL_act 8 = .ok (.iconst 0, 1) := by decide +kernel
theorem dL_act_9 : decode cL_act 9 = .ok (.iconst 0, 1) := by decide +kernel
theorem dL_act_10 : decode cL_act 10 = .ok (.invokestatic 146, 3) := by decide +kernel
theorem dL_act_13 : decode cL_act 13 = .ok (.istore_n 3, 1) := by decide +kernel
theorem dL_act_14 : decode cL_act 14 = .ok (.iload_n 1, 1) := by decide +kernel
theorem dL_act_15 : decode cL_act 15 = .ok (.sipush 128, 3) := by decide +kernel
theorem dL_act_18 : decode cL_act 18 = .ok (.irem, 1) := by decide +kernel
theorem dL_act_19 : decode cL_act 19 = .ok (.bipush 127, 2) := by decide +kernel
theorem dL_act_21 : decode cL_act 21 = .ok (.if_icmp .eq 14, 3) := by decide +kernel
theorem dL_act_24 : decode cL_act 24 = .ok (.iload_n 3, 1) := by decide +kernel
theorem dL_act_25 : decode cL_act 25 = .ok (.iconst 1, 1) := by decide +kernel
theorem dL_act_26 : decode cL_act 26 = .ok (.if_icmp .eq 20, 3) := by decide +kernel
theorem dL_act_29 : decode cL_act 29 = .ok (.iload_n 1, 1) := by decide +kernel
theorem dL_act_30 : decode cL_act 30 = .ok (.iconst 3, 1) := by decide +kernel
theorem dL_act_31 : decode cL_act 31 = .ok (.irem, 1) := by decide +kernel
theorem dL_act_32 : decode cL_act 32 = .ok (.ifCond .le 14, 3) := by decide +kernel
theorem dL_act_35 : decode cL_act 35 = .ok (.aload_n 0, 1) := by decide +kernel
theorem dL_act_36 : decode cL_act 36 = .ok (.iload_n 2, 1) := by decide +kernel
theorem dL_act_37 : decode cL_act 37 = .ok (.i2l, 1) := by decide +kernel
theorem dL_act_38 : decode cL_act 38 = .ok (.ldc2_w 169, 3) := by decide +kernel
theorem dL_act_41 : decode cL_act 41 = .ok (.lmul, 1) := by decide +kernel
theorem dL_act_42 : decode cL_act 42 = .ok (.invokevirtual 171, 3) := by decide +kernel
theorem dL_act_45 : decode cL_act 45 = .ok (.ireturn, 1) := by decide +kernel
theorem dL_act_46 : decode cL_act 46 = .ok (.iload_n 1, 1) := by decide +kernel
theorem dL_act_47 : decode cL_act 47 = .ok (.bipush 16, 2) := by decide +kernel
theorem dL_act_49 : decode cL_act 49 = .ok (.irem, 1) := by decide +kernel
theorem dL_act_50 : decode cL_act 50 = .ok (.tableswitch 187 0 10 #[58, 58, 58, 77, 87, 129, 139, 175, 175, 175, 175], 58) := by decide +kernel
theorem dL_act_108 : decode cL_act 108 = .ok (.aload_n 0, 1) := by decide +kernel
theorem dL_act_109 : decode cL_act 109 = .ok (.bipush 8, 2) := by decide +kernel
theorem dL_act_111 : decode cL_act 111 = .ok (.iload_n 2, 1) := by decide +kernel
theorem dL_act_112 : decode cL_act 112 = .ok (.bipush 8, 2) := by decide +kernel
theorem dL_act_114 : decode cL_act 114 = .ok (.irem, 1) := by decide +kernel
theorem dL_act_115 : decode cL_act 115 = .ok (.iload_n 2, 1) := by decide +kernel
theorem dL_act_116 : decode cL_act 116 = .ok (.bipush 8, 2) := by decide +kernel
theorem dL_act_118 : decode cL_act 118 = .ok (.idiv, 1) := by decide +kernel
theorem dL_act_119 : decode cL_act 119 = .ok (.bipush 8, 2) := by decide +kernel
theorem dL_act_121 : decode cL_act 121 = .ok (.irem, 1) := by decide +kernel
theorem dL_act_122 : decode cL_act 122 = .ok (.iconst 0, 1) := by decide +kernel
theorem dL_act_123 : decode cL_act 123 = .ok (.invokestatic 146, 3) := by decide +kernel
theorem dL_act_126 : decode cL_act 126 = .ok (.ireturn, 1) := by decide +kernel
theorem dL_act_127 : decode cL_act 127 = .ok (.aload_n 0, 1) := by decide +kernel
theorem dL_act_128 : decode cL_act 128 = .ok (.bipush 9, 2) := by decide +kernel
theorem dL_act_130 : decode cL_act 130 = .ok (.iconst 0, 1) := by decide +kernel
theorem dL_act_131 : decode cL_act 131 = .ok (.iconst 0, 1) := by decide +kernel
theorem dL_act_132 : decode cL_act 132 = .ok (.iconst 0, 1) := by decide +kernel
theorem dL_act_133 : decode cL_act 133 = .ok (.invokestatic 146, 3) := by decide +kernel
theorem dL_act_136 : decode cL_act 136 = .ok (.ireturn, 1) := by decide +kernel
theorem dL_act_137 : decode cL_act 137 = .ok (.iload_n 2, 1) := by decide +kernel
theorem dL_act_138 : decode cL_act 138 = .ok (.iconst 2, 1) := by decide +kernel
theorem dL_act_139 : decode cL_act 139 = .ok (.irem, 1) := by decide +kernel
theorem dL_act_140 : decode cL_act 140 = .ok (.ifCond .ne 22, 3) := by decide +kernel
theorem dL_act_143 : decode cL_act 143 = .ok (.aload_n 0, 1) := by decide +kernel
theorem dL_act_144 : decode cL_act 144 = .ok (.bipush 10, 2) := by decide +kernel
theorem dL_act_146 : decode cL_act 146 = .ok (.iconst 0, 1) := by decide +kernel
theorem dL_act_147 : decode cL_act 147 = .ok (.iconst 1, 1) := by decide +kernel
theorem dL_act_148 : decode cL_act 148 = .ok (.iload_n 2, 1) := by decide +kernel
theorem dL_act_149 : decode cL_act 149 = .ok (.iconst 2, 1) := by decide +kernel
theorem dL_act_150 : decode cL_act 150 = .ok (.idiv, 1) := by decide +kernel
theorem dL_act_151 : decode cL_act 151 = .ok (.bipush 40, 2) := by decide +kernel
theorem dL_act_153 : decode cL_act 153 = .ok (.irem, 1) := by decide +kernel
theorem dL_act_154 : decode cL_act 154 = .ok (.iadd, 1) := by decide +kernel
theorem dL_act_155 : decode cL_act 155 = .ok (.iconst 0, 1) := by decide +kernel
theorem dL_act_156 : decode cL_act 156 = .ok (.invokestatic 146, 3) := by decide +kernel
theorem dL_act_159 : decode cL_act 159 = .ok (.goto 19, 3) := by decide +kernel
theorem dL_act_162 : decode cL_act 162 = .ok (.aload_n 0, 1) := by decide +kernel
theorem dL_act_163 : decode cL_act 163 = .ok (.bipush 10, 2) := by decide +kernel
theorem dL_act_165 : decode cL_act 165 = .ok (.iconst 1, 1) := by decide +kernel
theorem dL_act_166 : decode cL_act 166 = .ok (.iconst 1, 1) := by decide +kernel
theorem dL_act_167 : decode cL_act 167 = .ok (.iload_n 2, 1) := by decide +kernel
theorem dL_act_168 : decode cL_act 168 = .ok (.iconst 2, 1) := by decide +kernel
theorem dL_act_169 : decode cL_act 169 = .ok (.idiv, 1) := by decide +kernel
theorem dL_act_170 : decode cL_act 170 = .ok (.bipush 9, 2) := by decide +kernel
theorem dL_act_172 : decode cL_act 172 = .ok (.irem, 1) := by decide +kernel
theorem dL_act_173 : decode cL_act 173 = .ok (.iadd, 1) := by decide +kernel
theorem dL_act_174 : decode cL_act 174 = .ok (.iconst 0, 1) := by decide +kernel
theorem dL_act_175 : decode cL_act 175 = .ok (.invokestatic 146, 3) := by decide +kernel
theorem dL_act_178 : decode cL_act 178 = .ok (.ireturn, 1) := by decide +kernel
theorem dL_act_179 : decode cL_act 179 = .ok (.aload_n 0, 1) := by decide +kernel
theorem dL_act_180 : decode cL_act 180 = .ok (.bipush 11, 2) := by decide +kernel
theorem dL_act_182 : decode cL_act 182 = .ok (.iconst 0, 1) := by decide +kernel
theorem dL_act_183 : decode cL_act 183 = .ok (.iconst 0, 1) := by decide +kernel
theorem dL_act_184 : decode cL_act 184 = .ok (.iconst 0, 1) := by decide +kernel
theorem dL_act_185 : decode cL_act 185 = .ok (.invokestatic 146, 3) := by decide +kernel
theorem dL_act_188 : decode cL_act 188 = .ok (.ireturn, 1) := by decide +kernel
theorem dL_act_189 : decode cL_act 189 = .ok (.iload_n 2, 1) := by decide +kernel
theorem dL_act_190 : decode cL_act 190 = .ok (.iconst 2, 1) := by decide +kernel
theorem dL_act_191 : decode cL_act 191 = .ok (.irem, 1) := by decide +kernel
theorem dL_act_192 : decode cL_act 192 = .ok (.ifCond .ne 19, 3) := by decide +kernel
theorem dL_act_195 : decode cL_act 195 = .ok (.aload_n 0, 1) := by decide +kernel
theorem dL_act_196 : decode cL_act 196 = .ok (.bipush 16, 2) := by decide +kernel
theorem dL_act_198 : decode cL_act 198 = .ok (.iload_n 2, 1) := by decide +kernel
theorem dL_act_199 : decode cL_act 199 = .ok (.iconst 2, 1) := by decide +kernel
theorem dL_act_200 : decode cL_act 200 = .ok (.idiv, 1) := by decide +kernel
theorem dL_act_201 : decode cL_act 201 = .ok (.iconst 2, 1) := by decide +kernel
theorem dL_act_202 : decode cL_act 202 = .ok (.irem, 1) := by decide +kernel
theorem dL_act_203 : decode cL_act 203 = .ok (.iconst 0, 1) := by decide +kernel
theorem dL_act_204 : decode cL_act 204 = .ok (.iconst 0, 1) := by decide +kernel
theorem dL_act_205 : decode cL_act 205 = .ok (.invokestatic 146, 3) := by decide +kernel
theorem dL_act_208 : decode cL_act 208 = .ok (.goto 16, 3) := by decide +kernel
theorem dL_act_211 : decode cL_act 211 = .ok (.aload_n 0, 1) := by decide +kernel
theorem dL_act_212 : decode cL_act 212 = .ok (.bipush 17, 2) := by decide +kernel
theorem dL_act_214 : decode cL_act 214 = .ok (.iload_n 2, 1) := by decide +kernel
theorem dL_act_215 : decode cL_act 215 = .ok (.iconst 2, 1) := by decide +kernel
theorem dL_act_216 : decode cL_act 216 = .ok (.idiv, 1) := by decide +kernel
theorem dL_act_217 : decode cL_act 217 = .ok (.iconst 2, 1) := by decide +kernel
theorem dL_act_218 : decode cL_act 218 = .ok (.irem, 1) := by decide +kernel
theorem dL_act_219 : decode cL_act 219 = .ok (.iconst 0, 1) := by decide +kernel
theorem dL_act_220 : decode cL_act 220 = .ok (.iconst 0, 1) := by decide +kernel
theorem dL_act_221 : decode cL_act 221 = .ok (.invokestatic 146, 3) := by decide +kernel
theorem dL_act_224 : decode cL_act 224 = .ok (.ireturn, 1) := by decide +kernel
theorem dL_act_225 : decode cL_act 225 = .ok (.aload_n 0, 1) := by decide +kernel
theorem dL_act_226 : decode cL_act 226 = .ok (.bipush 7, 2) := by decide +kernel
theorem dL_act_228 : decode cL_act 228 = .ok (.iload_n 2, 1) := by decide +kernel
theorem dL_act_229 : decode cL_act 229 = .ok (.iconst 3, 1) := by decide +kernel
theorem dL_act_230 : decode cL_act 230 = .ok (.irem, 1) := by decide +kernel
theorem dL_act_231 : decode cL_act 231 = .ok (.iconst 0, 1) := by decide +kernel
theorem dL_act_232 : decode cL_act 232 = .ok (.iconst 0, 1) := by decide +kernel
theorem dL_act_233 : decode cL_act 233 = .ok (.invokestatic 146, 3) := by decide +kernel
theorem dL_act_236 : decode cL_act 236 = .ok (.ireturn, 1) := by decide +kernel
theorem dL_act_237 : decode cL_act 237 = .ok (.aload_n 0, 1) := by decide +kernel
theorem dL_act_238 : decode cL_act 238 = .ok (.invokevirtual 160, 3) := by decide +kernel
theorem dL_act_241 : decode cL_act 241 = .ok (.iconst (-1), 1) := by decide +kernel
theorem dL_act_242 : decode cL_act 242 = .ok (.if_icmp .ne 15, 3) := by decide +kernel
theorem dL_act_245 : decode cL_act 245 = .ok (.aload_n 0, 1) := by decide +kernel
theorem dL_act_246 : decode cL_act 246 = .ok (.bipush 9, 2) := by decide +kernel
theorem dL_act_248 : decode cL_act 248 = .ok (.iconst 0, 1) := by decide +kernel
theorem dL_act_249 : decode cL_act 249 = .ok (.iconst 0, 1) := by decide +kernel
theorem dL_act_250 : decode cL_act 250 = .ok (.iconst 0, 1) := by decide +kernel
theorem dL_act_251 : decode cL_act 251 = .ok (.invokestatic 146, 3) := by decide +kernel
theorem dL_act_254 : decode cL_act 254 = .ok (.goto 15, 3) := by decide +kernel
theorem dL_act_257 : decode cL_act 257 = .ok (.aload_n 0, 1) := by decide +kernel
theorem dL_act_258 : decode cL_act 258 = .ok (.bipush 7, 2) := by decide +kernel
theorem dL_act_260 : decode cL_act 260 = .ok (.aload_n 0, 1) := by decide +kernel
theorem dL_act_261 : decode cL_act 261 = .ok (.invokevirtual 160, 3) := by decide +kernel
theorem dL_act_264 : decode cL_act 264 = .ok (.iconst 0, 1) := by decide +kernel
theorem dL_act_265 : decode cL_act 265 = .ok (.iconst 0, 1) := by decide +kernel
theorem dL_act_266 : decode cL_act 266 = .ok (.invokestatic 146, 3) := by decide +kernel
theorem dL_act_269 : decode cL_act 269 = .ok (.ireturn, 1) := by decide +kernel
set_option maxHeartbeats 4000000 in
set_option maxRecDepth 100000 in
theorem c_act (l : Launch) (hst : l.stackTraces = false) (D : va_G) (E : Nat → ClassId) (o : Nat) (S : aT) (X : Nat) (hX : X < 2 ^ 31) : Met l yL_act wsL_act (lRm 9 5 30) (lP D E [.ref o, .int (nI X)] (Ob D E o S) (rA o)) (lQ (fun r H => r = (actR S X).1 ∧ Ob D E o (actR S X).2 H) (rA o)) 5 30 (rA o) := by
  refine Met.ofW (cc := cL_act) (maxL := 4) (ret := (some .int)) (by decide) rfl ?_
  intro p e s m args below meth co s₁ B hml hv
  obtain ⟨rfl, hO, hKX, hZ, hNc⟩ := hv
  have hx := B.exec
  have hb := B.bytes
  have hr := B.returns
  have hts := atoms_spec (ws := wsL_act) B.pre
  have hown : s.vm.findClass RL = some m.cls := findClass_of_methodNamed B.named
  have hlocks := B.notSynchronized
  have hS : va_S (rA o) s.heap s.heap [] := ⟨Nat.le_refl _, fun _ _ _ => rfl, fun _ h => by cases h⟩
  have hl := lv_entry ([.ref o, .int (nI X)]) (n := 4) (Nat.le_of_ble_eq_true rfl)
  rw [lg_entry_eq]
  generalize (lg_sl ([.ref o, .int (nI X)]) ++ List.replicate (4 - (lg_sl ([.ref o, .int (nI X)])).length) Slot.unset).toArray = ls at hl ⊢
  have hl : lv_has ls 4 [(0, .ref o), (1, .int (nI (X)))] := hl
  refine lv_iload_n hx hb dL_act_0 rfl (lv_at hl 1 rfl) ?_
  refine lv_bipush (v := 16) hx hb dL_act_1 (by decide) ?_
  refine w_div (a := X) (d := 16) hx hb rfl (by omega) (by decide) (by decide) dL_act_3 ?_
  refine lv_istore_n (lv' := [(2, .int (nI ((X) / 16))), (0, .ref o), (1, .int (nI (X)))]) hx hb dL_act_4 rfl hl (by decide) rfl (fun ls hl => ?_)
  refine lv_aload_n hx hb dL_act_5 rfl (lv_at hl 1 rfl) ?_
  refine lv_iconst (v := 2) hx hb dL_act_6 (by decide) ?_
  refine lv_iconst (v := 1) hx hb dL_act_7 (by decide) ?_
  refine lv_iconst (v := 0) hx hb dL_act_8 (by decide) ?_
  refine lv_iconst (v := 0) hx hb dL_act_9 (by decide) ?_
  refine l_go (cells' := 1) (slots' := 6) (l_runS (P := Ob D E o S) (As := [.ref o, .int 2, .int 1, .int 0, .int 0]) (rest := []) ⟨hx, hb, hml, hown, hts⟩ (c_call_2 l hst D E o S 1 0 0) (va_cwS 5 hts gL_act_L_call rfl rfl rfl (by decide +kernel) ⟨Nat.le_of_ble_eq_true rfl, Nat.le_of_ble_eq_true rfl⟩) hO hKX (l_Z hZ hS (fun _ h => h)) hNc rfl hl rfl (Nat.le_of_ble_eq_true rfl) dL_act_10 ⟨Nat.le_of_ble_eq_true rfl, Nat.le_of_ble_eq_true rfl⟩) hS (fun _ h => h) ⟨Nat.le_of_ble_eq_true rfl, Nat.le_of_ble_eq_true rfl⟩ (fun r10 H locs hp hq hz hS => ?_)
  obtain ⟨h10, hO⟩ := hp
  have hO : Ob D E o S H := hO
  refine lv_istore_n (lv' := [(3, .int r10), (2, .int (nI ((X) / 16))), (0, .ref o), (1, .int (nI (X)))]) hx hb dL_act_13 rfl hl (by decide) rfl (fun ls hl => ?_)
  refine lv_iload_n hx hb dL_act_14 rfl (lv_at hl 3 rfl) ?_
  refine lv_sipush (v := 128) hx hb dL_act_15 (by decide) ?_
  refine w_rem (a := X) (d := 128) hx hb rfl (by omega) (by decide) (by decide) dL_act_18 ?_
  refine lv_bipush (v := 127) hx hb dL_act_19 (by decide) ?_
  refine lv_icmp_eq (tgt := 35) hx hb dL_act_21 (by decide) (fun c1 => ?_) (fun c1 => ?_)
  · have c1 : X % 128 = 127 := nI_inj (a := X % 128) (b := 127) (by omega) (by decide) c1
    have hf : actR S X = (aG S (gmL X), gT S (gmL X)) := by unfold actR; rw [if_pos c1]
    refine lv_aload_n hx hb dL_act_35 rfl (lv_at hl 2 rfl) ?_
    refine lv_iload_n hx hb dL_act_36 rfl (lv_at hl 1 rfl) ?_
    refine lv_i2l (v := ((nI ((X) / 16)) : Int32).toInt64) hx hb dL_act_37 rfl ?_
    refine lv_ldc2 (v := (4294967437)) hx hb hown (hts (.constantLong RL 169 (4294967437)) (List.mem_of_getElem? (i := 1) (by decide +kernel))) dL_act_38 ?_
    refine lv_lmul hx hb dL_act_41 ?_
    obtain ⟨M, hM, hB⟩ := hO
    refine w_mI (b_runV (As := [.long ((((nI ((X) / 16)) : Int32).toInt64 : Int64) * (4294967437))]) (rest := []) ⟨hx, hb, hml, hown, hts⟩ (c_X6_game l D E o M ((((nI ((X) / 16)) : Int32).toInt64 : Int64) * (4294967437)) (sS_hn hM.1)) (cwV 1 hts gL_act_X6_game rfl rfl rfl (by decide +kernel) ⟨Nat.le_of_ble_eq_true rfl, Nat.le_of_ble_eq_true rfl⟩) hKX.1 (bk_recv hKX.1.1 hB lay_0 rfl) hB rfl hl rfl (Nat.le_of_ble_eq_true rfl) dL_act_42 ⟨Nat.le_of_ble_eq_true rfl, Nat.le_of_ble_eq_true rfl⟩) hS (fun _ h => h) (fun r42 M1 hr H locs hB hq hz hS => ?_)
    obtain ⟨h42, hr2⟩ := hr
    have hcl := game_cl (x := ((((nI ((X) / 16)) : Int32).toInt64 : Int64) * (4294967437))) hM
    rw [← hr2] at hcl
    have h42 := h42.trans hcl.1
    have hO : Ob D E o (gT S ((((nI ((X) / 16)) : Int32).toInt64 : Int64) * (4294967437))) H := ⟨M1, hcl.2, hB⟩
    exact l_iret hx hb hr hlocks hS (ac_end hf h42 hO) ⟨Nat.le_of_ble_eq_true rfl, Nat.le_of_ble_eq_true rfl⟩ dL_act_45
  · refine lv_iload_n hx hb dL_act_24 rfl (lv_at hl 0 rfl) ?_
    refine lv_iconst (v := 1) hx hb dL_act_25 (by decide) ?_
    have c1 : ¬ X % 128 = 127 := fun q => c1 (by rw [q]; rfl)
    refine w_cutP (J := 46) (rest := []) (P0 := actR S X = swR S X) (fun kk => ?_) (fun hsw => ?_)
    · refine lv_icmp_eq (tgt := 46) hx hb dL_act_26 (by decide) (fun c2 => ?_) (fun c2 => ?_)
      · exact kk (by unfold actR; rw [if_neg c1, if_pos ((h10.trans a_ab1).symm.trans c2)])
      · have hp : ¬ S.1 1 = 1 := fun q => c2 (h10.trans (a_ab1.trans q))
        refine lv_iload_n hx hb dL_act_29 rfl (lv_at hl 3 rfl) ?_
        refine lv_iconst (v := 3) hx hb dL_act_30 (by decide) ?_
        refine w_rem (a := X) (d := 3) hx hb rfl (by omega) (by decide) (by decide) dL_act_31 ?_
        refine lv_if_le (tgt := 46) hx hb dL_act_32 (by decide) (fun c3 => ?_) (fun c3 => ?_)
        · exact kk (by unfold actR; rw [if_neg c1, if_neg hp, if_pos (by have := (nI_leI (a := X % 3) (b := 0) (by omega) (by decide)).mp c3; omega)])
        · have hf : actR S X = (aG S (gmL X), gT S (gmL X)) := by unfold actR; rw [if_neg c1, if_neg hp, if_neg (fun q => c3 (by rw [q]; decide))]
          refine lv_aload_n hx hb dL_act_35 rfl (lv_at hl 2 rfl) ?_
          refine lv_iload_n hx hb dL_act_36 rfl (lv_at hl 1 rfl) ?_
          refine lv_i2l (v := ((nI ((X) / 16)) : Int32).toInt64) hx hb dL_act_37 rfl ?_
          refine lv_ldc2 (v := (4294967437)) hx hb hown (hts (.constantLong RL 169 (4294967437)) (List.mem_of_getElem? (i := 1) (by decide +kernel))) dL_act_38 ?_
          refine lv_lmul hx hb dL_act_41 ?_
          obtain ⟨M, hM, hB⟩ := hO
          refine w_mI (b_runV (As := [.long ((((nI ((X) / 16)) : Int32).toInt64 : Int64) * (4294967437))]) (rest := []) ⟨hx, hb, hml, hown, hts⟩ (c_X6_game l D E o M ((((nI ((X) / 16)) : Int32).toInt64 : Int64) * (4294967437)) (sS_hn hM.1)) (cwV 1 hts gL_act_X6_game rfl rfl rfl (by decide +kernel) ⟨Nat.le_of_ble_eq_true rfl, Nat.le_of_ble_eq_true rfl⟩) hKX.1 (bk_recv hKX.1.1 hB lay_0 rfl) hB rfl hl rfl (Nat.le_of_ble_eq_true rfl) dL_act_42 ⟨Nat.le_of_ble_eq_true rfl, Nat.le_of_ble_eq_true rfl⟩) hS (fun _ h => h) (fun r42 M1 hr H locs hB hq hz hS => ?_)
          obtain ⟨h42, hr2⟩ := hr
          have hcl := game_cl (x := ((((nI ((X) / 16)) : Int32).toInt64 : Int64) * (4294967437))) hM
          rw [← hr2] at hcl
          have h42 := h42.trans hcl.1
          have hO : Ob D E o (gT S ((((nI ((X) / 16)) : Int32).toInt64 : Int64) * (4294967437))) H := ⟨M1, hcl.2, hB⟩
          exact l_iret hx hb hr hlocks hS (ac_end hf h42 hO) ⟨Nat.le_of_ble_eq_true rfl, Nat.le_of_ble_eq_true rfl⟩ dL_act_45
    refine lv_iload_n hx hb dL_act_46 rfl (lv_at hl 3 rfl) ?_
    refine lv_bipush (v := 16) hx hb dL_act_47 (by decide) ?_
    refine w_rem (a := X) (d := 16) hx hb rfl (by omega) (by decide) (by decide) dL_act_49 ?_
    rcases (by omega : X % 16 = 0 ∨ X % 16 = 1 ∨ X % 16 = 2 ∨ X % 16 = 3 ∨ X % 16 = 4 ∨ X % 16 = 5 ∨ X % 16 = 6 ∨ X % 16 = 7 ∨ X % 16 = 8 ∨ X % 16 = 9 ∨ X % 16 = 10 ∨ 11 ≤ X % 16) with hv | hv | hv | hv | hv | hv | hv | hv | hv | hv | hv | hv
    · refine b_tabI (tgt := 108) hx hb 0 dL_act_50 (by rw [nI_toInt (by omega), hv]; rfl) (by decide) (by decide) rfl (by decide) ?_
      have hf : actR S X = (aF 8 S (nI (X / 16 % 8)) (nI (X / 16 / 8 % 8)) 0, tF 8 S (nI (X / 16 % 8)) (nI (X / 16 / 8 % 8))) := hsw.trans (by unfold swR; rw [if_pos (by omega)])
      refine lv_aload_n hx hb dL_act_108 rfl (lv_at hl 2 rfl) ?_
      refine lv_bipush (v := 8) hx hb dL_act_109 (by decide) ?_
      refine lv_iload_n hx hb dL_act_111 rfl (lv_at hl 1 rfl) ?_
      refine lv_bipush (v := 8) hx hb dL_act_112 (by decide) ?_
      refine w_rem (a := (X) / 16) (d := 8) hx hb rfl (by omega) (by decide) (by decide) dL_act_114 ?_
      refine lv_iload_n hx hb dL_act_115 rfl (lv_at hl 1 rfl) ?_
      refine lv_bipush (v := 8) hx hb dL_act_116 (by decide) ?_
      refine w_div (a := (X) / 16) (d := 8) hx hb rfl (by omega) (by decide) (by decide) dL_act_118 ?_
      refine lv_bipush (v := 8) hx hb dL_act_119 (by decide) ?_
      refine w_rem (a := ((X) / 16) / 8) (d := 8) hx hb rfl (by omega) (by decide) (by decide) dL_act_121 ?_
      refine lv_iconst (v := 0) hx hb dL_act_122 (by decide) ?_
      refine l_go (cells' := 2) (slots' := 12) (l_runS (P := Ob D E o S) (As := [.ref o, .int 8, .int (nI (((X) / 16) % 8)), .int (nI ((((X) / 16) / 8) % 8)), .int 0]) (rest := []) ⟨hx, hb, hml, hown, hts⟩ (c_call_8 l hst D E o S (nI (((X) / 16) % 8)) (nI ((((X) / 16) / 8) % 8)) 0) (va_cwS 5 hts gL_act_L_call rfl rfl rfl (by decide +kernel) ⟨Nat.le_of_ble_eq_true rfl, Nat.le_of_ble_eq_true rfl⟩) hO hKX (l_Z hZ hS (fun _ h => h)) hNc rfl hl rfl (Nat.le_of_ble_eq_true rfl) dL_act_123 ⟨Nat.le_of_ble_eq_true rfl, Nat.le_of_ble_eq_true rfl⟩) hS (fun _ h => h) ⟨Nat.le_of_ble_eq_true rfl, Nat.le_of_ble_eq_true rfl⟩ (fun r123 H locs hp hq hz hS => ?_)
      obtain ⟨h123, hO⟩ := hp
      exact l_iret hx hb hr hlocks hS (ac_end hf h123 hO) ⟨Nat.le_of_ble_eq_true rfl, Nat.le_of_ble_eq_true rfl⟩ dL_act_126
    · refine b_tabI (tgt := 108) hx hb 1 dL_act_50 (by rw [nI_toInt (by omega), hv]; rfl) (by decide) (by decide) rfl (by decide) ?_
      have hf : actR S X = (aF 8 S (nI (X / 16 % 8)) (nI (X / 16 / 8 % 8)) 0, tF 8 S (nI (X / 16 % 8)) (nI (X / 16 / 8 % 8))) := hsw.trans (by unfold swR; rw [if_pos (by omega)])
      refine lv_aload_n hx hb dL_act_108 rfl (lv_at hl 2 rfl) ?_
      refine lv_bipush (v := 8) hx hb dL_act_109 (by decide) ?_
      refine lv_iload_n hx hb dL_act_111 rfl (lv_at hl 1 rfl) ?_
      refine lv_bipush (v := 8) hx hb dL_act_112 (by decide) ?_
      refine w_rem (a := (X) / 16) (d := 8) hx hb rfl (by omega) (by decide) (by decide) dL_act_114 ?_
      refine lv_iload_n hx hb dL_act_115 rfl (lv_at hl 1 rfl) ?_
      refine lv_bipush (v := 8) hx hb dL_act_116 (by decide) ?_
      refine w_div (a := (X) / 16) (d := 8) hx hb rfl (by omega) (by decide) (by decide) dL_act_118 ?_
      refine lv_bipush (v := 8) hx hb dL_act_119 (by decide) ?_
      refine w_rem (a := ((X) / 16) / 8) (d := 8) hx hb rfl (by omega) (by decide) (by decide) dL_act_121 ?_
      refine lv_iconst (v := 0) hx hb dL_act_122 (by decide) ?_
      refine l_go (cells' := 2) (slots' := 12) (l_runS (P := Ob D E o S) (As := [.ref o, .int 8, .int (nI (((X) / 16) % 8)), .int (nI ((((X) / 16) / 8) % 8)), .int 0]) (rest := []) ⟨hx, hb, hml, hown, hts⟩ (c_call_8 l hst D E o S (nI (((X) / 16) % 8)) (nI ((((X) / 16) / 8) % 8)) 0) (va_cwS 5 hts gL_act_L_call rfl rfl rfl (by decide +kernel) ⟨Nat.le_of_ble_eq_true rfl, Nat.le_of_ble_eq_true rfl⟩) hO hKX (l_Z hZ hS (fun _ h => h)) hNc rfl hl rfl (Nat.le_of_ble_eq_true rfl) dL_act_123 ⟨Nat.le_of_ble_eq_true rfl, Nat.le_of_ble_eq_true rfl⟩) hS (fun _ h => h) ⟨Nat.le_of_ble_eq_true rfl, Nat.le_of_ble_eq_true rfl⟩ (fun r123 H locs hp hq hz hS => ?_)
      obtain ⟨h123, hO⟩ := hp
      exact l_iret hx hb hr hlocks hS (ac_end hf h123 hO) ⟨Nat.le_of_ble_eq_true rfl, Nat.le_of_ble_eq_true rfl⟩ dL_act_126
    · refine b_tabI (tgt := 108) hx hb 2 dL_act_50 (by rw [nI_toInt (by omega), hv]; rfl) (by decide) (by decide) rfl (by decide) ?_
      have hf : actR S X = (aF 8 S (nI (X / 16 % 8)) (nI (X / 16 / 8 % 8)) 0, tF 8 S (nI (X / 16 % 8)) (nI (X / 16 / 8 % 8))) := hsw.trans (by unfold swR; rw [if_pos (by omega)])
      refine lv_aload_n hx hb dL_act_108 rfl (lv_at hl 2 rfl) ?_
      refine lv_bipush (v := 8) hx hb dL_act_109 (by decide) ?_
      refine lv_iload_n hx hb dL_act_111 rfl (lv_at hl 1 rfl) ?_
      refine lv_bipush (v := 8) hx hb dL_act_112 (by decide) ?_
      refine w_rem (a := (X) / 16) (d := 8) hx hb rfl (by omega) (by decide) (by decide) dL_act_114 ?_
      refine lv_iload_n hx hb dL_act_115 rfl (lv_at hl 1 rfl) ?_
      refine lv_bipush (v := 8) hx hb dL_act_116 (by decide) ?_
      refine w_div (a := (X) / 16) (d := 8) hx hb rfl (by omega) (by decide) (by decide) dL_act_118 ?_
      refine lv_bipush (v := 8) hx hb dL_act_119 (by decide) ?_
      refine w_rem (a := ((X) / 16) / 8) (d := 8) hx hb rfl (by omega) (by decide) (by decide) dL_act_121 ?_
      refine lv_iconst (v := 0) hx hb dL_act_122 (by decide) ?_
      refine l_go (cells' := 2) (slots' := 12) (l_runS (P := Ob D E o S) (As := [.ref o, .int 8, .int (nI (((X) / 16) % 8)), .int (nI ((((X) / 16) / 8) % 8)), .int 0]) (rest := []) ⟨hx, hb, hml, hown, hts⟩ (c_call_8 l hst D E o S (nI (((X) / 16) % 8)) (nI ((((X) / 16) / 8) % 8)) 0) (va_cwS 5 hts gL_act_L_call rfl rfl rfl (by decide +kernel) ⟨Nat.le_of_ble_eq_true rfl, Nat.le_of_ble_eq_true rfl⟩) hO hKX (l_Z hZ hS (fun _ h => h)) hNc rfl hl rfl (Nat.le_of_ble_eq_true rfl) dL_act_123 ⟨Nat.le_of_ble_eq_true rfl, Nat.le_of_ble_eq_true rfl⟩) hS (fun _ h => h) ⟨Nat.le_of_ble_eq_true rfl, Nat.le_of_ble_eq_true rfl⟩ (fun r123 H locs hp hq hz hS => ?_)
      obtain ⟨h123, hO⟩ := hp
      exact l_iret hx hb hr hlocks hS (ac_end hf h123 hO) ⟨Nat.le_of_ble_eq_true rfl, Nat.le_of_ble_eq_true rfl⟩ dL_act_126
    · refine b_tabI (tgt := 127) hx hb 3 dL_act_50 (by rw [nI_toInt (by omega), hv]; rfl) (by decide) (by decide) rfl (by decide) ?_
      have hf : actR S X = (aF 9 S 0 0 0, tF 9 S 0 0) := hsw.trans (by unfold swR; rw [if_neg (by omega), if_pos (by omega)])
      refine lv_aload_n hx hb dL_act_127 rfl (lv_at hl 2 rfl) ?_
      refine lv_bipush (v := 9) hx hb dL_act_128 (by decide) ?_
      refine lv_iconst (v := 0) hx hb dL_act_130 (by decide) ?_
      refine lv_iconst (v := 0) hx hb dL_act_131 (by decide) ?_
      refine lv_iconst (v := 0) hx hb dL_act_132 (by decide) ?_
      refine l_go (cells' := 2) (slots' := 12) (l_runS (P := Ob D E o S) (As := [.ref o, .int 9, .int 0, .int 0, .int 0]) (rest := []) ⟨hx, hb, hml, hown, hts⟩ (c_call_9 l hst D E o S 0 0 0) (va_cwS 5 hts gL_act_L_call rfl rfl rfl (by decide +kernel) ⟨Nat.le_of_ble_eq_true rfl, Nat.le_of_ble_eq_true rfl⟩) hO hKX (l_Z hZ hS (fun _ h => h)) hNc rfl hl rfl (Nat.le_of_ble_eq_true rfl) dL_act_133 ⟨Nat.le_of_ble_eq_true rfl, Nat.le_of_ble_eq_true rfl⟩) hS (fun _ h => h) ⟨Nat.le_of_ble_eq_true rfl, Nat.le_of_ble_eq_true rfl⟩ (fun r133 H locs hp hq hz hS => ?_)
      obtain ⟨h133, hO⟩ := hp
      exact l_iret hx hb hr hlocks hS (ac_end hf h133 hO) ⟨Nat.le_of_ble_eq_true rfl, Nat.le_of_ble_eq_true rfl⟩ dL_act_136
    · refine b_tabI (tgt := 137) hx hb 4 dL_act_50 (by rw [nI_toInt (by omega), hv]; rfl) (by decide) (by decide) rfl (by decide) ?_
      refine lv_iload_n hx hb dL_act_137 rfl (lv_at hl 1 rfl) ?_
      refine lv_iconst (v := 2) hx hb dL_act_138 (by decide) ?_
      refine w_rem (a := (X) / 16) (d := 2) hx hb rfl (by omega) (by decide) (by decide) dL_act_139 ?_
      refine lv_if_ne (tgt := 162) hx hb dL_act_140 (by decide) (fun cy => ?_) (fun cy => ?_)
      · have hy : ¬ X / 16 % 2 = 0 := fun q => cy (by rw [q]; rfl)
        have hf : actR S X = (aF 10 S 1 (nI (1 + X / 16 / 2 % 9)) 0, tF 10 S 1 (nI (1 + X / 16 / 2 % 9))) := hsw.trans (by unfold swR; rw [if_neg (by omega), if_neg (by omega), if_pos (by omega), if_neg hy])
        refine lv_aload_n hx hb dL_act_162 rfl (lv_at hl 2 rfl) ?_
        refine lv_bipush (v := 10) hx hb dL_act_163 (by decide) ?_
        refine lv_iconst (v := 1) hx hb dL_act_165 (by decide) ?_
        refine lv_iconst (v := 1) hx hb dL_act_166 (by decide) ?_
        refine lv_iload_n hx hb dL_act_167 rfl (lv_at hl 1 rfl) ?_
        refine lv_iconst (v := 2) hx hb dL_act_168 (by decide) ?_
        refine w_div (a := (X) / 16) (d := 2) hx hb rfl (by omega) (by decide) (by decide) dL_act_169 ?_
        refine lv_bipush (v := 9) hx hb dL_act_170 (by decide) ?_
        refine w_rem (a := ((X) / 16) / 2) (d := 9) hx hb rfl (by omega) (by decide) (by decide) dL_act_172 ?_
        refine w_add (i := 1) (j := (((X) / 16) / 2) % 9) hx hb rfl rfl dL_act_173 ?_
        refine lv_iconst (v := 0) hx hb dL_act_174 (by decide) ?_
        refine l_go (cells' := 2) (slots' := 12) (l_runS (P := Ob D E o S) (As := [.ref o, .int 10, .int 1, .int (nI (1 + (((X) / 16) / 2) % 9)), .int 0]) (rest := []) ⟨hx, hb, hml, hown, hts⟩ (c_call_10 l hst D E o S 1 (nI (1 + (((X) / 16) / 2) % 9)) 0) (va_cwS 5 hts gL_act_L_call rfl rfl rfl (by decide +kernel) ⟨Nat.le_of_ble_eq_true rfl, Nat.le_of_ble_eq_true rfl⟩) hO hKX (l_Z hZ hS (fun _ h => h)) hNc rfl hl rfl (Nat.le_of_ble_eq_true rfl) dL_act_175 ⟨Nat.le_of_ble_eq_true rfl, Nat.le_of_ble_eq_true rfl⟩) hS (fun _ h => h) ⟨Nat.le_of_ble_eq_true rfl, Nat.le_of_ble_eq_true rfl⟩ (fun r175 H locs hp hq hz hS => ?_)
        obtain ⟨h175, hO⟩ := hp
        exact l_iret hx hb hr hlocks hS (ac_end hf h175 hO) ⟨Nat.le_of_ble_eq_true rfl, Nat.le_of_ble_eq_true rfl⟩ dL_act_178
      · have hy : X / 16 % 2 = 0 := nI_inj (a := X / 16 % 2) (b := 0) (by omega) (by decide) cy
        have hf : actR S X = (aF 10 S 0 (nI (1 + X / 16 / 2 % 40)) 0, tF 10 S 0 (nI (1 + X / 16 / 2 % 40))) := hsw.trans (by unfold swR; rw [if_neg (by omega), if_neg (by omega), if_pos (by omega), if_pos hy])
        refine lv_aload_n hx hb dL_act_143 rfl (lv_at hl 2 rfl) ?_
        refine lv_bipush (v := 10) hx hb dL_act_144 (by decide) ?_
        refine lv_iconst (v := 0) hx hb dL_act_146 (by decide) ?_
        refine lv_iconst (v := 1) hx hb dL_act_147 (by decide) ?_
        refine lv_iload_n hx hb dL_act_148 rfl (lv_at hl 1 rfl) ?_
        refine lv_iconst (v := 2) hx hb dL_act_149 (by decide) ?_
        refine w_div (a := (X) / 16) (d := 2) hx hb rfl (by omega) (by decide) (by decide) dL_act_150 ?_
        refine lv_bipush (v := 40) hx hb dL_act_151 (by decide) ?_
        refine w_rem (a := ((X) / 16) / 2) (d := 40) hx hb rfl (by omega) (by decide) (by decide) dL_act_153 ?_
        refine w_add (i := 1) (j := (((X) / 16) / 2) % 40) hx hb rfl rfl dL_act_154 ?_
        refine lv_iconst (v := 0) hx hb dL_act_155 (by decide) ?_
        refine l_go (cells' := 2) (slots' := 12) (l_runS (P := Ob D E o S) (As := [.ref o, .int 10, .int 0, .int (nI (1 + (((X) / 16) / 2) % 40)), .int 0]) (rest := []) ⟨hx, hb, hml, hown, hts⟩ (c_call_10 l hst D E o S 0 (nI (1 + (((X) / 16) / 2) % 40)) 0) (va_cwS 5 hts gL_act_L_call rfl rfl rfl (by decide +kernel) ⟨Nat.le_of_ble_eq_true rfl, Nat.le_of_ble_eq_true rfl⟩) hO hKX (l_Z hZ hS (fun _ h => h)) hNc rfl hl rfl (Nat.le_of_ble_eq_true rfl) dL_act_156 ⟨Nat.le_of_ble_eq_true rfl, Nat.le_of_ble_eq_true rfl⟩) hS (fun _ h => h) ⟨Nat.le_of_ble_eq_true rfl, Nat.le_of_ble_eq_true rfl⟩ (fun r156 H locs hp hq hz hS => ?_)
        obtain ⟨h156, hO⟩ := hp
        refine lv_goto (tgt := 178) hx hb dL_act_159 (by decide) ?_
        exact l_iret hx hb hr hlocks hS (ac_end hf h156 hO) ⟨Nat.le_of_ble_eq_true rfl, Nat.le_of_ble_eq_true rfl⟩ dL_act_178
    · refine b_tabI (tgt := 179) hx hb 5 dL_act_50 (by rw [nI_toInt (by omega), hv]; rfl) (by decide) (by decide) rfl (by decide) ?_
      have hf : actR S X = (aF 11 S 0 0 0, tF 11 S 0 0) := hsw.trans (by unfold swR; rw [if_neg (by omega), if_neg (by omega), if_neg (by omega), if_pos (by omega)])
      refine lv_aload_n hx hb dL_act_179 rfl (lv_at hl 2 rfl) ?_
      refine lv_bipush (v := 11) hx hb dL_act_180 (by decide) ?_
      refine lv_iconst (v := 0) hx hb dL_act_182 (by decide) ?_
      refine lv_iconst (v := 0) hx hb dL_act_183 (by decide) ?_
      refine lv_iconst (v := 0) hx hb dL_act_184 (by decide) ?_
      refine l_go (cells' := 2) (slots' := 12) (l_runS (P := Ob D E o S) (As := [.ref o, .int 11, .int 0, .int 0, .int 0]) (rest := []) ⟨hx, hb, hml, hown, hts⟩ (c_call_11 l hst D E o S 0 0 0) (va_cwS 5 hts gL_act_L_call rfl rfl rfl (by decide +kernel) ⟨Nat.le_of_ble_eq_true rfl, Nat.le_of_ble_eq_true rfl⟩) hO hKX (l_Z hZ hS (fun _ h => h)) hNc rfl hl rfl (Nat.le_of_ble_eq_true rfl) dL_act_185 ⟨Nat.le_of_ble_eq_true rfl, Nat.le_of_ble_eq_true rfl⟩) hS (fun _ h => h) ⟨Nat.le_of_ble_eq_true rfl, Nat.le_of_ble_eq_true rfl⟩ (fun r185 H locs hp hq hz hS => ?_)
      obtain ⟨h185, hO⟩ := hp
      exact l_iret hx hb hr hlocks hS (ac_end hf h185 hO) ⟨Nat.le_of_ble_eq_true rfl, Nat.le_of_ble_eq_true rfl⟩ dL_act_188
    · refine b_tabI (tgt := 189) hx hb 6 dL_act_50 (by rw [nI_toInt (by omega), hv]; rfl) (by decide) (by decide) rfl (by decide) ?_
      refine lv_iload_n hx hb dL_act_189 rfl (lv_at hl 1 rfl) ?_
      refine lv_iconst (v := 2) hx hb dL_act_190 (by decide) ?_
      refine w_rem (a := (X) / 16) (d := 2) hx hb rfl (by omega) (by decide) (by decide) dL_act_191 ?_
      refine lv_if_ne (tgt := 211) hx hb dL_act_192 (by decide) (fun cy => ?_) (fun cy => ?_)
      · have hy : ¬ X / 16 % 2 = 0 := fun q => cy (by rw [q]; rfl)
        have hf : actR S X = (aF 17 S (nI (X / 16 / 2 % 2)) 0 0, tF 17 S (nI (X / 16 / 2 % 2)) 0) := hsw.trans (by unfold swR; rw [if_neg (by omega), if_neg (by omega), if_neg (by omega), if_neg (by omega), if_pos (by omega), if_neg hy])
        refine lv_aload_n hx hb dL_act_211 rfl (lv_at hl 2 rfl) ?_
        refine lv_bipush (v := 17) hx hb dL_act_212 (by decide) ?_
        refine lv_iload_n hx hb dL_act_214 rfl (lv_at hl 1 rfl) ?_
        refine lv_iconst (v := 2) hx hb dL_act_215 (by decide) ?_
        refine w_div (a := (X) / 16) (d := 2) hx hb rfl (by omega) (by decide) (by decide) dL_act_216 ?_
        refine lv_iconst (v := 2) hx hb dL_act_217 (by decide) ?_
        refine w_rem (a := ((X) / 16) / 2) (d := 2) hx hb rfl (by omega) (by decide) (by decide) dL_act_218 ?_
        refine lv_iconst (v := 0) hx hb dL_act_219 (by decide) ?_
        refine lv_iconst (v := 0) hx hb dL_act_220 (by decide) ?_
        refine l_go (cells' := 2) (slots' := 12) (l_runS (P := Ob D E o S) (As := [.ref o, .int 17, .int (nI ((((X) / 16) / 2) % 2)), .int 0, .int 0]) (rest := []) ⟨hx, hb, hml, hown, hts⟩ (c_call_17 l hst D E o S (nI ((((X) / 16) / 2) % 2)) 0 0) (va_cwS 5 hts gL_act_L_call rfl rfl rfl (by decide +kernel) ⟨Nat.le_of_ble_eq_true rfl, Nat.le_of_ble_eq_true rfl⟩) hO hKX (l_Z hZ hS (fun _ h => h)) hNc rfl hl rfl (Nat.le_of_ble_eq_true rfl) dL_act_221 ⟨Nat.le_of_ble_eq_true rfl, Nat.le_of_ble_eq_true rfl⟩) hS (fun _ h => h) ⟨Nat.le_of_ble_eq_true rfl, Nat.le_of_ble_eq_true rfl⟩ (fun r221 H locs hp hq hz hS => ?_)
        obtain ⟨h221, hO⟩ := hp
        exact l_iret hx hb hr hlocks hS (ac_end hf h221 hO) ⟨Nat.le_of_ble_eq_true rfl, Nat.le_of_ble_eq_true rfl⟩ dL_act_224
      · have hy : X / 16 % 2 = 0 := nI_inj (a := X / 16 % 2) (b := 0) (by omega) (by decide) cy
        have hf : actR S X = (aF 16 S (nI (X / 16 / 2 % 2)) 0 0, tF 16 S (nI (X / 16 / 2 % 2)) 0) := hsw.trans (by unfold swR; rw [if_neg (by omega), if_neg (by omega), if_neg (by omega), if_neg (by omega), if_pos (by omega), if_pos hy])
        refine lv_aload_n hx hb dL_act_195 rfl (lv_at hl 2 rfl) ?_
        refine lv_bipush (v := 16) hx hb dL_act_196 (by decide) ?_
        refine lv_iload_n hx hb dL_act_198 rfl (lv_at hl 1 rfl) ?_
        refine lv_iconst (v := 2) hx hb dL_act_199 (by decide) ?_
        refine w_div (a := (X) / 16) (d := 2) hx hb rfl (by omega) (by decide) (by decide) dL_act_200 ?_
        refine lv_iconst (v := 2) hx hb dL_act_201 (by decide) ?_
        refine w_rem (a := ((X) / 16) / 2) (d := 2) hx hb rfl (by omega) (by decide) (by decide) dL_act_202 ?_
        refine lv_iconst (v := 0) hx hb dL_act_203 (by decide) ?_
        refine lv_iconst (v := 0) hx hb dL_act_204 (by decide) ?_
        refine l_go (cells' := 2) (slots' := 12) (l_runS (P := Ob D E o S) (As := [.ref o, .int 16, .int (nI ((((X) / 16) / 2) % 2)), .int 0, .int 0]) (rest := []) ⟨hx, hb, hml, hown, hts⟩ (c_call_16 l hst D E o S (nI ((((X) / 16) / 2) % 2)) 0 0) (va_cwS 5 hts gL_act_L_call rfl rfl rfl (by decide +kernel) ⟨Nat.le_of_ble_eq_true rfl, Nat.le_of_ble_eq_true rfl⟩) hO hKX (l_Z hZ hS (fun _ h => h)) hNc rfl hl rfl (Nat.le_of_ble_eq_true rfl) dL_act_205 ⟨Nat.le_of_ble_eq_true rfl, Nat.le_of_ble_eq_true rfl⟩) hS (fun _ h => h) ⟨Nat.le_of_ble_eq_true rfl, Nat.le_of_ble_eq_true rfl⟩ (fun r205 H locs hp hq hz hS => ?_)
        obtain ⟨h205, hO⟩ := hp
        refine lv_goto (tgt := 224) hx hb dL_act_208 (by decide) ?_
        exact l_iret hx hb hr hlocks hS (ac_end hf h205 hO) ⟨Nat.le_of_ble_eq_true rfl, Nat.le_of_ble_eq_true rfl⟩ dL_act_224
    · refine b_tabI (tgt := 225) hx hb 7 dL_act_50 (by rw [nI_toInt (by omega), hv]; rfl) (by decide) (by decide) rfl (by decide) ?_
      have hf : actR S X = (aF 7 S (nI (X / 16 % 3)) 0 0, tF 7 S (nI (X / 16 % 3)) 0) := hsw.trans (by unfold swR; rw [if_neg (by omega), if_neg (by omega), if_neg (by omega), if_neg (by omega), if_neg (by omega), if_pos (by omega)])
      refine lv_aload_n hx hb dL_act_225 rfl (lv_at hl 2 rfl) ?_
      refine lv_bipush (v := 7) hx hb dL_act_226 (by decide) ?_
      refine lv_iload_n hx hb dL_act_228 rfl (lv_at hl 1 rfl) ?_
      refine lv_iconst (v := 3) hx hb dL_act_229 (by decide) ?_
      refine w_rem (a := (X) / 16) (d := 3) hx hb rfl (by omega) (by decide) (by decide) dL_act_230 ?_
      refine lv_iconst (v := 0) hx hb dL_act_231 (by decide) ?_
      refine lv_iconst (v := 0) hx hb dL_act_232 (by decide) ?_
      refine l_go (cells' := 2) (slots' := 12) (l_runS (P := Ob D E o S) (As := [.ref o, .int 7, .int (nI (((X) / 16) % 3)), .int 0, .int 0]) (rest := []) ⟨hx, hb, hml, hown, hts⟩ (c_call_7 l hst D E o S (nI (((X) / 16) % 3)) 0 0) (va_cwS 5 hts gL_act_L_call rfl rfl rfl (by decide +kernel) ⟨Nat.le_of_ble_eq_true rfl, Nat.le_of_ble_eq_true rfl⟩) hO hKX (l_Z hZ hS (fun _ h => h)) hNc rfl hl rfl (Nat.le_of_ble_eq_true rfl) dL_act_233 ⟨Nat.le_of_ble_eq_true rfl, Nat.le_of_ble_eq_true rfl⟩) hS (fun _ h => h) ⟨Nat.le_of_ble_eq_true rfl, Nat.le_of_ble_eq_true rfl⟩ (fun r233 H locs hp hq hz hS => ?_)
      obtain ⟨h233, hO⟩ := hp
      exact l_iret hx hb hr hlocks hS (ac_end hf h233 hO) ⟨Nat.le_of_ble_eq_true rfl, Nat.le_of_ble_eq_true rfl⟩ dL_act_236
    · refine b_tabI (tgt := 225) hx hb 8 dL_act_50 (by rw [nI_toInt (by omega), hv]; rfl) (by decide) (by decide) rfl (by decide) ?_
      have hf : actR S X = (aF 7 S (nI (X / 16 % 3)) 0 0, tF 7 S (nI (X / 16 % 3)) 0) := hsw.trans (by unfold swR; rw [if_neg (by omega), if_neg (by omega), if_neg (by omega), if_neg (by omega), if_neg (by omega), if_pos (by omega)])
      refine lv_aload_n hx hb dL_act_225 rfl (lv_at hl 2 rfl) ?_
      refine lv_bipush (v := 7) hx hb dL_act_226 (by decide) ?_
      refine lv_iload_n hx hb dL_act_228 rfl (lv_at hl 1 rfl) ?_
      refine lv_iconst (v := 3) hx hb dL_act_229 (by decide) ?_
      refine w_rem (a := (X) / 16) (d := 3) hx hb rfl (by omega) (by decide) (by decide) dL_act_230 ?_
      refine lv_iconst (v := 0) hx hb dL_act_231 (by decide) ?_
      refine lv_iconst (v := 0) hx hb dL_act_232 (by decide) ?_
      refine l_go (cells' := 2) (slots' := 12) (l_runS (P := Ob D E o S) (As := [.ref o, .int 7, .int (nI (((X) / 16) % 3)), .int 0, .int 0]) (rest := []) ⟨hx, hb, hml, hown, hts⟩ (c_call_7 l hst D E o S (nI (((X) / 16) % 3)) 0 0) (va_cwS 5 hts gL_act_L_call rfl rfl rfl (by decide +kernel) ⟨Nat.le_of_ble_eq_true rfl, Nat.le_of_ble_eq_true rfl⟩) hO hKX (l_Z hZ hS (fun _ h => h)) hNc rfl hl rfl (Nat.le_of_ble_eq_true rfl) dL_act_233 ⟨Nat.le_of_ble_eq_true rfl, Nat.le_of_ble_eq_true rfl⟩) hS (fun _ h => h) ⟨Nat.le_of_ble_eq_true rfl, Nat.le_of_ble_eq_true rfl⟩ (fun r233 H locs hp hq hz hS => ?_)
      obtain ⟨h233, hO⟩ := hp
      exact l_iret hx hb hr hlocks hS (ac_end hf h233 hO) ⟨Nat.le_of_ble_eq_true rfl, Nat.le_of_ble_eq_true rfl⟩ dL_act_236
    · refine b_tabI (tgt := 225) hx hb 9 dL_act_50 (by rw [nI_toInt (by omega), hv]; rfl) (by decide) (by decide) rfl (by decide) ?_
      have hf : actR S X = (aF 7 S (nI (X / 16 % 3)) 0 0, tF 7 S (nI (X / 16 % 3)) 0) := hsw.trans (by unfold swR; rw [if_neg (by omega), if_neg (by omega), if_neg (by omega), if_neg (by omega), if_neg (by omega), if_pos (by omega)])
      refine lv_aload_n hx hb dL_act_225 rfl (lv_at hl 2 rfl) ?_
      refine lv_bipush (v := 7) hx hb dL_act_226 (by decide) ?_
      refine lv_iload_n hx hb dL_act_228 rfl (lv_at hl 1 rfl) ?_
      refine lv_iconst (v := 3) hx hb dL_act_229 (by decide) ?_
      refine w_rem (a := (X) / 16) (d := 3) hx hb rfl (by omega) (by decide) (by decide) dL_act_230 ?_
      refine lv_iconst (v := 0) hx hb dL_act_231 (by decide) ?_
      refine lv_iconst (v := 0) hx hb dL_act_232 (by decide) ?_
      refine l_go (cells' := 2) (slots' := 12) (l_runS (P := Ob D E o S) (As := [.ref o, .int 7, .int (nI (((X) / 16) % 3)), .int 0, .int 0]) (rest := []) ⟨hx, hb, hml, hown, hts⟩ (c_call_7 l hst D E o S (nI (((X) / 16) % 3)) 0 0) (va_cwS 5 hts gL_act_L_call rfl rfl rfl (by decide +kernel) ⟨Nat.le_of_ble_eq_true rfl, Nat.le_of_ble_eq_true rfl⟩) hO hKX (l_Z hZ hS (fun _ h => h)) hNc rfl hl rfl (Nat.le_of_ble_eq_true rfl) dL_act_233 ⟨Nat.le_of_ble_eq_true rfl, Nat.le_of_ble_eq_true rfl⟩) hS (fun _ h => h) ⟨Nat.le_of_ble_eq_true rfl, Nat.le_of_ble_eq_true rfl⟩ (fun r233 H locs hp hq hz hS => ?_)
      obtain ⟨h233, hO⟩ := hp
      exact l_iret hx hb hr hlocks hS (ac_end hf h233 hO) ⟨Nat.le_of_ble_eq_true rfl, Nat.le_of_ble_eq_true rfl⟩ dL_act_236
    · refine b_tabI (tgt := 225) hx hb 10 dL_act_50 (by rw [nI_toInt (by omega), hv]; rfl) (by decide) (by decide) rfl (by decide) ?_
      have hf : actR S X = (aF 7 S (nI (X / 16 % 3)) 0 0, tF 7 S (nI (X / 16 % 3)) 0) := hsw.trans (by unfold swR; rw [if_neg (by omega), if_neg (by omega), if_neg (by omega), if_neg (by omega), if_neg (by omega), if_pos (by omega)])
      refine lv_aload_n hx hb dL_act_225 rfl (lv_at hl 2 rfl) ?_
      refine lv_bipush (v := 7) hx hb dL_act_226 (by decide) ?_
      refine lv_iload_n hx hb dL_act_228 rfl (lv_at hl 1 rfl) ?_
      refine lv_iconst (v := 3) hx hb dL_act_229 (by decide) ?_
      refine w_rem (a := (X) / 16) (d := 3) hx hb rfl (by omega) (by decide) (by decide) dL_act_230 ?_
      refine lv_iconst (v := 0) hx hb dL_act_231 (by decide) ?_
      refine lv_iconst (v := 0) hx hb dL_act_232 (by decide) ?_
      refine l_go (cells' := 2) (slots' := 12) (l_runS (P := Ob D E o S) (As := [.ref o, .int 7, .int (nI (((X) / 16) % 3)), .int 0, .int 0]) (rest := []) ⟨hx, hb, hml, hown, hts⟩ (c_call_7 l hst D E o S (nI (((X) / 16) % 3)) 0 0) (va_cwS 5 hts gL_act_L_call rfl rfl rfl (by decide +kernel) ⟨Nat.le_of_ble_eq_true rfl, Nat.le_of_ble_eq_true rfl⟩) hO hKX (l_Z hZ hS (fun _ h => h)) hNc rfl hl rfl (Nat.le_of_ble_eq_true rfl) dL_act_233 ⟨Nat.le_of_ble_eq_true rfl, Nat.le_of_ble_eq_true rfl⟩) hS (fun _ h => h) ⟨Nat.le_of_ble_eq_true rfl, Nat.le_of_ble_eq_true rfl⟩ (fun r233 H locs hp hq hz hS => ?_)
      obtain ⟨h233, hO⟩ := hp
      exact l_iret hx hb hr hlocks hS (ac_end hf h233 hO) ⟨Nat.le_of_ble_eq_true rfl, Nat.le_of_ble_eq_true rfl⟩ dL_act_236
    · refine lv_tableOut (tgt := 237) hx hb dL_act_50 (Or.inr (by rw [nI_toInt (by omega)]; omega)) (by decide) ?_
      refine lv_aload_n hx hb dL_act_237 rfl (lv_at hl 2 rfl) ?_
      obtain ⟨M, hM, hB⟩ := hO
      refine w_mI (b_runV (As := []) (rest := []) ⟨hx, hb, hml, hown, hts⟩ (c_X6_best l D E o M) (cwV 0 hts gL_act_X6_best rfl rfl rfl (by decide +kernel) ⟨Nat.le_of_ble_eq_true rfl, Nat.le_of_ble_eq_true rfl⟩) hKX.1 (bk_recv hKX.1.1 hB lay_0 rfl) hB rfl hl rfl (Nat.le_of_ble_eq_true rfl) dL_act_238 ⟨Nat.le_of_ble_eq_true rfl, Nat.le_of_ble_eq_true rfl⟩) hS (fun _ h => h) (fun r238 M1 hr H locs hB hq hz hS => ?_)
      obtain ⟨h238, hr2⟩ := hr
      have hcl := best_cl hM
      rw [← hr2] at hcl
      have h238 := h238.trans hcl.1
      have hO : Ob D E o S H := ⟨M1, hcl.2, hB⟩
      refine lv_iconst (v := (-1)) hx hb dL_act_241 (by decide) ?_
      refine lv_icmp_ne (tgt := 257) hx hb dL_act_242 (by decide) (fun cb => ?_) (fun cb => ?_)
      · have hf : actR S X = (aF 7 S (aB S) 0 0, tF 7 S (aB S) 0) := hsw.trans (by unfold swR; rw [if_neg (by omega), if_neg (by omega), if_neg (by omega), if_neg (by omega), if_neg (by omega), if_neg (by omega), if_neg (fun q => cb (h238.trans q))])
        refine lv_aload_n hx hb dL_act_257 rfl (lv_at hl 2 rfl) ?_
        refine lv_bipush (v := 7) hx hb dL_act_258 (by decide) ?_
        refine lv_aload_n hx hb dL_act_260 rfl (lv_at hl 2 rfl) ?_
        obtain ⟨M, hM, hB⟩ := hO
        refine w_mI (b_runV (As := []) (rest := [.int 7, .ref o]) ⟨hx, hb, hml, hown, hts⟩ (c_X6_best l D E o M) (cwV 0 hts gL_act_X6_best rfl rfl rfl (by decide +kernel) ⟨Nat.le_of_ble_eq_true rfl, Nat.le_of_ble_eq_true rfl⟩) hKX.1 (bk_recv hKX.1.1 hB lay_0 rfl) hB rfl hl rfl (Nat.le_of_ble_eq_true rfl) dL_act_261 ⟨Nat.le_of_ble_eq_true rfl, Nat.le_of_ble_eq_true rfl⟩) hS (fun _ h => h) (fun r261 M1 hr H locs hB hq hz hS => ?_)
        obtain ⟨h261, hr2⟩ := hr
        have hcl := best_cl hM
        rw [← hr2] at hcl
        have h261 := h261.trans hcl.1
        have hO : Ob D E o S H := ⟨M1, hcl.2, hB⟩
        refine w_eqI (h261) ?_
        refine lv_iconst (v := 0) hx hb dL_act_264 (by decide) ?_
        refine lv_iconst (v := 0) hx hb dL_act_265 (by decide) ?_
        refine l_go (cells' := 2) (slots' := 12) (l_runS (P := Ob D E o S) (As := [.ref o, .int 7, .int (aB S), .int 0, .int 0]) (rest := []) ⟨hx, hb, hml, hown, hts⟩ (c_call_7 l hst D E o S (aB S) 0 0) (va_cwS 5 hts gL_act_L_call rfl rfl rfl (by decide +kernel) ⟨Nat.le_of_ble_eq_true rfl, Nat.le_of_ble_eq_true rfl⟩) hO hKX (l_Z hZ hS (fun _ h => h)) hNc rfl hl rfl (Nat.le_of_ble_eq_true rfl) dL_act_266 ⟨Nat.le_of_ble_eq_true rfl, Nat.le_of_ble_eq_true rfl⟩) hS (fun _ h => h) ⟨Nat.le_of_ble_eq_true rfl, Nat.le_of_ble_eq_true rfl⟩ (fun r266 H locs hp hq hz hS => ?_)
        obtain ⟨h266, hO⟩ := hp
        exact l_iret hx hb hr hlocks hS (ac_end hf h266 hO) ⟨Nat.le_of_ble_eq_true rfl, Nat.le_of_ble_eq_true rfl⟩ dL_act_269
      · have hf : actR S X = (aF 9 S 0 0 0, tF 9 S 0 0) := hsw.trans (by unfold swR; rw [if_neg (by omega), if_neg (by omega), if_neg (by omega), if_neg (by omega), if_neg (by omega), if_neg (by omega), if_pos (h238.symm.trans cb)])
        refine lv_aload_n hx hb dL_act_245 rfl (lv_at hl 2 rfl) ?_
        refine lv_bipush (v := 9) hx hb dL_act_246 (by decide) ?_
        refine lv_iconst (v := 0) hx hb dL_act_248 (by decide) ?_
        refine lv_iconst (v := 0) hx hb dL_act_249 (by decide) ?_
        refine lv_iconst (v := 0) hx hb dL_act_250 (by decide) ?_
        refine l_go (cells' := 2) (slots' := 12) (l_runS (P := Ob D E o S) (As := [.ref o, .int 9, .int 0, .int 0, .int 0]) (rest := []) ⟨hx, hb, hml, hown, hts⟩ (c_call_9 l hst D E o S 0 0 0) (va_cwS 5 hts gL_act_L_call rfl rfl rfl (by decide +kernel) ⟨Nat.le_of_ble_eq_true rfl, Nat.le_of_ble_eq_true rfl⟩) hO hKX (l_Z hZ hS (fun _ h => h)) hNc rfl hl rfl (Nat.le_of_ble_eq_true rfl) dL_act_251 ⟨Nat.le_of_ble_eq_true rfl, Nat.le_of_ble_eq_true rfl⟩) hS (fun _ h => h) ⟨Nat.le_of_ble_eq_true rfl, Nat.le_of_ble_eq_true rfl⟩ (fun r251 H locs hp hq hz hS => ?_)
        obtain ⟨h251, hO⟩ := hp
        refine lv_goto (tgt := 269) hx hb dL_act_254 (by decide) ?_
        exact l_iret hx hb hr hlocks hS (ac_end hf h251 hO) ⟨Nat.le_of_ble_eq_true rfl, Nat.le_of_ble_eq_true rfl⟩ dL_act_269
