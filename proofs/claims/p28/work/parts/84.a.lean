/-! builds: its rows -/
set_option maxRecDepth 20000 in
theorem gp_builds_call_0 : GoodIn wsL_builds wsL_call_r1 := goodIn_r _ [5, 6, 3, 7, 8, 9, 10, 11, 12, 13, 14, 15, 16, 17, 18, 19, 20, 21, 22, 23, 24, 25, 26, 27] rfl (by decide +kernel)
set_option maxRecDepth 20000 in
theorem gp_builds_call_1 : GoodIn wsL_builds wsL_call_r2 := goodIn_r _ [28, 29, 30, 31, 32, 33, 34, 35, 36, 37, 38, 39, 40, 41, 42, 43, 44, 45, 46, 47, 48, 49, 50, 51] rfl (by decide +kernel)
set_option maxRecDepth 20000 in
theorem gp_builds_call_2 : GoodIn wsL_builds wsL_call_r3 := goodIn_r _ [52, 53, 54, 55, 56, 57, 58, 59, 60, 61, 62, 63, 64, 65, 66, 67, 68, 69, 70, 71, 72, 73, 74, 75] rfl (by decide +kernel)
set_option maxRecDepth 20000 in
theorem gp_builds_call_3 : GoodIn wsL_builds wsL_call_r4 := goodIn_r _ [76, 77, 78, 79, 80, 81, 82, 83, 84, 85, 86, 87, 88, 89, 90, 91, 92, 93, 94, 95, 96, 97, 98, 99] rfl (by decide +kernel)
set_option maxRecDepth 20000 in
theorem gp_builds_call_4 : GoodIn wsL_builds wsL_call_r5 := goodIn_r _ [100, 101, 102, 103, 104, 105, 106, 107, 108, 109, 110, 111, 112, 113, 114, 115, 116, 117, 118, 119, 120, 121, 122, 123] rfl (by decide +kernel)
set_option maxRecDepth 20000 in
theorem gp_builds_call_5 : GoodIn wsL_builds wsL_call_r6 := goodIn_r _ [124, 125, 126, 127, 128, 129, 130, 131, 132, 133, 134, 135, 136, 137, 138, 139, 140, 141, 142, 143, 144, 145, 146, 147] rfl (by decide +kernel)
set_option maxRecDepth 20000 in
theorem gp_builds_call_6 : GoodIn wsL_builds wsL_call_r7 := goodIn_r _ [148, 149, 150, 151, 152, 153, 154, 155, 156, 157, 158, 159, 160, 161, 162, 163, 164, 165, 166, 167, 168, 169, 170, 171] rfl (by decide +kernel)
set_option maxRecDepth 20000 in
theorem gp_builds_call_7 : GoodIn wsL_builds wsL_call_r8 := goodIn_r _ [172, 173, 174, 175, 176, 177, 178, 179, 180, 181, 182, 183, 184, 185, 186, 187, 188, 189, 190, 191, 192, 193, 194, 195] rfl (by decide +kernel)
set_option maxRecDepth 20000 in
theorem gp_builds_call_8 : GoodIn wsL_builds wsL_call_r9 := goodIn_r _ [196, 197, 198, 199, 200, 201, 202, 203, 204, 205, 206, 207, 208, 209, 210, 211, 212, 213, 214, 215, 216, 217, 218, 219] rfl (by decide +kernel)
set_option maxRecDepth 20000 in
theorem gp_builds_call_9 : GoodIn wsL_builds wsL_call_r10 := goodIn_r _ [220, 221, 222, 223, 224, 225, 226, 227, 228, 229, 230, 231, 232, 233, 234, 235, 236, 237, 238, 239, 240, 241, 242, 243] rfl (by decide +kernel)
set_option maxRecDepth 20000 in
theorem gp_builds_call_10 : GoodIn wsL_builds wsL_call_r11 := goodIn_r _ [244, 245, 246, 247, 248, 249, 250, 251, 252, 253, 254, 255, 256, 257, 258, 259, 260, 261, 262, 263, 264, 265, 266, 267] rfl (by decide +kernel)
set_option maxRecDepth 20000 in
theorem gp_builds_call_11 : GoodIn wsL_builds wsL_call_r12 := goodIn_r _ [268, 269, 270, 271, 272, 273, 274, 275, 276, 277, 278, 279, 280, 281, 282, 283, 284, 285, 286, 287, 288, 289, 290, 291] rfl (by decide +kernel)
set_option maxRecDepth 20000 in
theorem gp_builds_call_12 : GoodIn wsL_builds wsL_call_r13 := goodIn_r _ [292, 293, 294, 295, 296, 297, 298, 299, 300, 301, 302, 303, 304, 305, 306, 307, 308, 309, 310, 311, 312, 313, 314, 315] rfl (by decide +kernel)
set_option maxRecDepth 20000 in
theorem gp_builds_call_13 : GoodIn wsL_builds wsL_call_r14 := goodIn_r _ [316, 317, 318, 319, 320, 321, 322, 323, 324, 325, 326, 327, 328, 329, 330, 331, 332, 333, 334, 335, 336, 337, 338, 339] rfl (by decide +kernel)
set_option maxRecDepth 20000 in
theorem gp_builds_call_14 : GoodIn wsL_builds wsL_call_r15 := goodIn_r _ [340, 341, 342, 343, 344, 345, 346, 347, 348, 349, 350, 351, 352, 353, 354, 355, 356, 357, 358, 359, 360, 361, 362, 363] rfl (by decide +kernel)
set_option maxRecDepth 20000 in
theorem gp_builds_call_15 : GoodIn wsL_builds wsL_call_r16 := goodIn_r _ [364, 365, 366, 367, 368, 369, 370, 371, 372, 373, 374, 375, 376, 377, 378, 379, 380, 381, 382, 383, 384, 385, 386, 387] rfl (by decide +kernel)
set_option maxRecDepth 20000 in
theorem gp_builds_call_16 : GoodIn wsL_builds wsL_call_r17 := goodIn_r _ [388, 389, 390, 391, 392, 393, 394, 395, 396, 397, 398, 399, 400, 401, 402, 403, 404, 405, 406, 407, 408, 409, 410, 411] rfl (by decide +kernel)
set_option maxRecDepth 20000 in
theorem gp_builds_call_17 : GoodIn wsL_builds wsL_call_r18 := goodIn_r _ [412, 413, 414, 415, 416, 417, 418, 419, 420, 421, 422, 423, 424, 425, 426, 427, 428, 429, 430, 431, 432, 433, 434, 435] rfl (by decide +kernel)
set_option maxRecDepth 20000 in
theorem gp_builds_call_18 : GoodIn wsL_builds wsL_call_r19 := goodIn_r _ [436, 437, 438, 439, 440, 441, 442, 443, 444, 445, 446, 447, 448, 449, 450, 451, 452, 453, 454, 455, 456, 457, 458, 459] rfl (by decide +kernel)
set_option maxRecDepth 20000 in
theorem gp_builds_call_19 : GoodIn wsL_builds wsL_call_r20 := goodIn_r _ [460, 461, 462, 463, 464, 465, 466, 467, 468, 469, 470, 471, 472, 473, 474, 475, 476, 477, 478, 479, 480, 481, 482, 483] rfl (by decide +kernel)
set_option maxRecDepth 20000 in
theorem gp_builds_call_20 : GoodIn wsL_builds wsL_call_r21 := goodIn_r _ [484, 485, 486, 487, 488, 489, 490, 491, 492, 493, 494, 495, 496, 497, 498, 499, 500, 501, 502, 503, 504, 505, 506, 507] rfl (by decide +kernel)
set_option maxRecDepth 20000 in
theorem gp_builds_call_21 : GoodIn wsL_builds wsL_call_r22 := goodIn_r _ [508, 509, 510, 511, 512, 513, 514, 515, 516, 517, 518, 519, 520, 521] rfl (by decide +kernel)
set_option maxRecDepth 20000 in
theorem gp_builds_call_h : GoodIn wsL_builds [.code yL_call cL_call 5 (some .int)] := goodIn_r _ [4] rfl (by decide +kernel)
set_option maxRecDepth 20000 in
theorem ggL_builds_L_call : GoodIn wsL_builds wsL_call := (goodIn_ca (goodIn_ca (goodIn_ca (goodIn_ca (goodIn_ca (goodIn_ca (goodIn_ca (goodIn_ca (goodIn_ca (goodIn_ca (goodIn_cons gp_builds_call_h (goodIn_app gp_builds_call_0 (goodIn_app gp_builds_call_1 (goodIn_app gp_builds_call_2 (goodIn_app gp_builds_call_3 (goodIn_app gp_builds_call_4 (goodIn_app gp_builds_call_5 (goodIn_app gp_builds_call_6 (goodIn_app gp_builds_call_7 (goodIn_app gp_builds_call_8 (goodIn_app gp_builds_call_9 (goodIn_app gp_builds_call_10 (goodIn_app gp_builds_call_11 (goodIn_app gp_builds_call_12 (goodIn_app gp_builds_call_13 (goodIn_app gp_builds_call_14 (goodIn_app gp_builds_call_15 (goodIn_app gp_builds_call_16 (goodIn_app gp_builds_call_17 (goodIn_app gp_builds_call_18 (goodIn_app gp_builds_call_19 (goodIn_app gp_builds_call_20 gp_builds_call_21)))))))))))))))))))))) (goodIn_sub (fun _ h => (List.mem_cons_of_mem _ (List.mem_append_left _ (List.mem_append_left _ (List.mem_append_left _ (List.mem_append_left _ (List.mem_append_left _ (List.mem_append_left _ (List.mem_append_left _ (List.mem_append_left _ (List.mem_append_left _ (List.mem_append_right _ h)))))))))))) (by decide +kernel))) (goodIn_sub (fun _ h => (List.mem_cons_of_mem _ (List.mem_append_left _ (List.mem_append_left _ (List.mem_append_left _ (List.mem_append_left _ (List.mem_append_left _ (List.mem_append_left _ (List.mem_append_left _ (List.mem_append_left _ (List.mem_append_right _ h))))))))))) (by decide +kernel))) (goodIn_sub (fun _ h => (List.mem_cons_of_mem _ (List.mem_append_left _ (List.mem_append_left _ (List.mem_append_left _ (List.mem_append_left _ (List.mem_append_left _ (List.mem_append_left _ (List.mem_append_left _ (List.mem_append_right _ h)))))))))) (by decide +kernel))) (goodIn_sub (fun _ h => (List.mem_cons_of_mem _ (List.mem_append_left _ (List.mem_append_left _ (List.mem_append_left _ (List.mem_append_left _ (List.mem_append_left _ (List.mem_append_left _ (List.mem_append_right _ h))))))))) (by decide +kernel))) (goodIn_sub (fun _ h => (List.mem_cons_of_mem _ (List.mem_append_left _ (List.mem_append_left _ (List.mem_append_left _ (List.mem_append_left _ (List.mem_append_left _ (List.mem_append_right _ h)))))))) (by decide +kernel))) (goodIn_sub (fun _ h => (List.mem_cons_of_mem _ (List.mem_append_left _ (List.mem_append_left _ (List.mem_append_left _ (List.mem_append_left _ (List.mem_append_right _ h))))))) (by decide +kernel))) (goodIn_sub (fun _ h => (List.mem_cons_of_mem _ (List.mem_append_left _ (List.mem_append_left _ (List.mem_append_left _ (List.mem_append_right _ h)))))) (by decide +kernel))) (goodIn_sub (fun _ h => (List.mem_cons_of_mem _ (List.mem_append_left _ (List.mem_append_left _ (List.mem_append_right _ h))))) (by decide +kernel))) (goodIn_sub (fun _ h => (List.mem_cons_of_mem _ (List.mem_append_left _ (List.mem_append_right _ h)))) (by decide +kernel))) (goodIn_sub (fun _ h => (List.mem_cons_of_mem _ (List.mem_append_right _ h))) (by decide +kernel)))
set_option maxRecDepth 20000 in
theorem gL_builds_L_call : GoodIn wsL_builds (va_wsS RL 146 yL_call wsL_call) := goodIn_app (goodIn_of _ (by decide +kernel)) ggL_builds_L_call
set_option maxRecDepth 20000 in
theorem ggL_builds_L_thrown : GoodIn wsL_builds wsL_thrown := goodIn_r _ [524, 330, 10, 11] (by decide +kernel) (by decide +kernel)
set_option maxRecDepth 20000 in
theorem gL_builds_L_thrown : GoodIn wsL_builds (va_wsS RL 202 yL_thrown wsL_thrown) := goodIn_app (goodIn_of _ (by decide +kernel)) ggL_builds_L_thrown
theorem dL_builds_0 : decode cL_builds 0 = .ok (.aload_n 0, 1) := by decide +kernel
theorem dL_builds_1 : decode cL_builds 1 = .ok (.iconst 2, 1) := by decide +kernel
theorem dL_builds_2 : decode cL_builds 2 = .ok (.iconst 1, 1) := by decide +kernel
theorem dL_builds_3 : decode cL_builds 3 = .ok (.iconst 0, 1) := by decide +kernel
theorem dL_builds_4 : decode cL_builds 4 = .ok (.iconst 0, 1) := by decide +kernel
theorem dL_builds_5 : decode cL_builds 5 = .ok (.invokestatic 146, 3) := by decide +kernel
theorem dL_builds_8 : decode cL_builds 8 = .ok (.iconst 1, 1) := by decide +kernel
theorem dL_builds_9 : decode cL_builds 9 = .ok (.if_icmp .eq 5, 3) := by decide +kernel
theorem dL_builds_12 : decode cL_builds 12 = .ok (.iconst 1, 1) := by decide +kernel
theorem dL_builds_13 : decode cL_builds 13 = .ok (.ireturn, 1) := by decide +kernel
theorem dL_builds_14 : decode cL_builds 14 = .ok (.aload_n 0, 1) := by decide +kernel
theorem dL_builds_15 : decode cL_builds 15 = .ok (.iconst 2, 1) := by decide +kernel
theorem dL_builds_16 : decode cL_builds 16 = .ok (.iconst 2, 1) := by decide +kernel
theorem dL_builds_17 : decode cL_builds 17 = .ok (.iconst 0, 1) := by decide +kernel
theorem dL_builds_18 : decode cL_builds 18 = .ok (.iconst 0, 1) := by decide +kernel
theorem dL_builds_19 : decode cL_builds 19 = .ok (.invokestatic 146, 3) := by decide +kernel
theorem dL_builds_22 : decode cL_builds 22 = .ok (.istore_n 3, 1) := by decide +kernel
theorem dL_builds_23 : decode cL_builds 23 = .ok (.iload_n 2, 1) := by decide +kernel
theorem dL_builds_24 : decode cL_builds 24 = .ok (.bipush 8, 2) := by decide +kernel
theorem dL_builds_26 : decode cL_builds 26 = .ok (.irem, 1) := by decide +kernel
theorem dL_builds_27 : decode cL_builds 27 = .ok (.istore 4, 2) := by decide +kernel
theorem dL_builds_29 : decode cL_builds 29 = .ok (.iload_n 2, 1) := by decide +kernel
theorem dL_builds_30 : decode cL_builds 30 = .ok (.bipush 8, 2) := by decide +kernel
theorem dL_builds_32 : decode cL_builds 32 = .ok (.idiv, 1) := by decide +kernel
theorem dL_builds_33 : decode cL_builds 33 = .ok (.bipush 8, 2) := by decide +kernel
theorem dL_builds_35 : decode cL_builds 35 = .ok (.irem, 1) := by decide +kernel
theorem dL_builds_36 : decode cL_builds 36 = .ok (.istore 5, 2) := by decide +kernel
theorem dL_builds_38 : decode cL_builds 38 = .ok (.aload_n 0, 1) := by decide +kernel
theorem dL_builds_39 : decode cL_builds 39 = .ok (.bipush 13, 2) := by decide +kernel
theorem dL_builds_41 : decode cL_builds 41 = .ok (.iload 4, 2) := by decide +kernel
theorem dL_builds_43 : decode cL_builds 43 = .ok (.iload 5, 2) := by decide +kernel
theorem dL_builds_45 : decode cL_builds 45 = .ok (.iconst 0, 1) := by decide +kernel
theorem dL_builds_46 : decode cL_builds 46 = .ok (.invokestatic 146, 3) := by decide +kernel
theorem dL_builds_49 : decode cL_builds 49 = .ok (.istore 6, 2) := by decide +kernel
theorem dL_builds_51 : decode cL_builds 51 = .ok (.aload_n 0, 1) := by decide +kernel
theorem dL_builds_52 : decode cL_builds 52 = .ok (.iconst 3, 1) := by decide +kernel
theorem dL_builds_53 : decode cL_builds 53 = .ok (.iload_n 3, 1) := by decide +kernel
theorem dL_builds_54 : decode cL_builds 54 = .ok (.iconst 3, 1) := by decide +kernel
theorem dL_builds_55 : decode cL_builds 55 = .ok (.iconst 0, 1) := by decide +kernel
theorem dL_builds_56 : decode cL_builds 56 = .ok (.invokestatic 146, 3) := by decide +kernel
theorem dL_builds_59 : decode cL_builds 59 = .ok (.istore 7, 2) := by decide +kernel
theorem dL_builds_61 : decode cL_builds 61 = .ok (.aload_n 0, 1) := by decide +kernel
theorem dL_builds_62 : decode cL_builds 62 = .ok (.iconst 2, 1) := by decide +kernel
theorem dL_builds_63 : decode cL_builds 63 = .ok (.bipush 7, 2) := by decide +kernel
theorem dL_builds_65 : decode cL_builds 65 = .ok (.iconst 0, 1) := by decide +kernel
theorem dL_builds_66 : decode cL_builds 66 = .ok (.iconst 0, 1) := by decide +kernel
theorem dL_builds_67 : decode cL_builds 67 = .ok (.invokestatic 146, 3) := by decide +kernel
theorem dL_builds_70 : decode cL_builds 70 = .ok (.istore 8, 2) := by decide +kernel
theorem dL_builds_72 : decode cL_builds 72 = .ok (.aload_n 0, 1) := by decide +kernel
theorem dL_builds_73 : decode cL_builds 73 = .ok (.iconst 4, 1) := by decide +kernel
theorem dL_builds_74 : decode cL_builds 74 = .ok (.iload 4, 2) := by decide +kernel
theorem dL_builds_76 : decode cL_builds 76 = .ok (.iload 5, 2) := by decide +kernel
theorem dL_builds_78 : decode cL_builds 78 = .ok (.iconst 2, 1) := by decide +kernel
theorem dL_builds_79 : decode cL_builds 79 = .ok (.invokestatic 146, 3) := by decide +kernel
theorem dL_builds_82 : decode cL_builds 82 = .ok (.istore 9, 2) := by decide +kernel
theorem dL_builds_84 : decode cL_builds 84 = .ok (.aload_n 0, 1) := by decide +kernel
theorem dL_builds_85 : decode cL_builds 85 = .ok (.bipush 6, 2) := by decide +kernel
theorem dL_builds_87 : decode cL_builds 87 = .ok (.iconst 0, 1) := by decide +kernel
theorem dL_builds_88 : decode cL_builds 88 = .ok (.iconst 0, 1) := by decide +kernel
theorem dL_builds_89 : decode cL_builds 89 = .ok (.iconst 0, 1) := by decide +kernel
theorem dL_builds_90 : decode cL_builds 90 = .ok (.invokestatic 146, 3) := by decide +kernel
theorem dL_builds_93 : decode cL_builds 93 = .ok (.istore 10, 2) := by decide +kernel
theorem dL_builds_95 : decode cL_builds 95 = .ok (.iload 6, 2) := by decide +kernel
theorem dL_builds_97 : decode cL_builds 97 = .ok (.iconst 1, 1) := by decide +kernel
theorem dL_builds_98 : decode cL_builds 98 = .ok (.if_icmp .ne 7, 3) := by decide +kernel
theorem dL_builds_101 : decode cL_builds 101 = .ok (.iconst 1, 1) := by decide +kernel
theorem dL_builds_102 : decode cL_builds 102 = .ok (.goto 4, 3) := by decide +kernel
theorem dL_builds_105 : decode cL_builds 105 = .ok (.iconst 0, 1) := by decide +kernel
theorem dL_builds_106 : decode cL_builds 106 = .ok (.iload 9, 2) := by decide +kernel
theorem dL_builds_108 : decode cL_builds 108 = .ok (.ifCond .eq 7, 3) := by decide +kernel
theorem dL_builds_111 : decode cL_builds 111 = .ok (.iconst 1, 1) := by decide +kernel
theorem dL_builds_112 : decode cL_builds 112 = .ok (.goto 4, 3) := by decide +kernel
theorem dL_builds_115 : decode cL_builds 115 = .ok (.iconst 0, 1) := by decide +kernel
theorem dL_builds_116 : decode cL_builds 116 = .ok (.if_icmp .ne 129, 3) := by decide +kernel
theorem dL_builds_119 : decode cL_builds 119 = .ok (.iload 6, 2) := by decide +kernel
theorem dL_builds_121 : decode cL_builds 121 = .ok (.iconst 2, 1) := by decide +kernel
theorem dL_builds_122 : decode cL_builds 122 = .ok (.if_icmp .ne 9, 3) := by decide +kernel
theorem dL_builds_125 : decode cL_builds 125 = .ok (.iload 7, 2) := by decide +kernel
theorem dL_builds_127 : decode cL_builds 127 = .ok (.iconst 3, 1) := by decide +kernel
theorem dL_builds_128 : decode cL_builds 128 = .ok (.if_icmp .ne 117, 3) := by decide +kernel
theorem dL_builds_131 : decode cL_builds 131 = .ok (.aload_n 0, 1) := by decide +kernel
theorem dL_builds_132 : decode cL_builds 132 = .ok (.bipush 8, 2) := by decide +kernel
theorem dL_builds_134 : decode cL_builds 134 = .ok (.iload 4, 2) := by decide +kernel
theorem dL_builds_136 : decode cL_builds 136 = .ok (.iload 5, 2) := by decide +kernel
theorem dL_builds_138 : decode cL_builds 138 = .ok (.iconst 0, 1) := by decide +kernel
theorem dL_builds_139 : decode cL_builds 139 = .ok (.invokestatic 146, 3) := by decide +kernel
theorem dL_builds_142 : decode cL_builds 142 = .ok (.iload 6, 2) := by decide +kernel
theorem dL_builds_144 : decode cL_builds 144 = .ok (.if_icmp .ne 101, 3) := by decide +kernel
theorem dL_builds_147 : decode cL_builds 147 = .ok (.aload_n 1, 1) := by decide +kernel
theorem dL_builds_148 : decode cL_builds 148 = .ok (.bipush 8, 2) := by decide +kernel
theorem dL_builds_150 : decode cL_builds 150 = .ok (.iload 4, 2) := by decide +kernel
theorem dL_builds_152 : decode cL_builds 152 = .ok (.iload 5, 2) := by decide +kernel
theorem dL_builds_154 : decode cL_builds 154 = .ok (.iconst 0, 1) := by decide +kernel
theorem dL_builds_155 : decode cL_builds 155 = .ok (.invokestatic 146, 3) := by decide +kernel
theorem dL_builds_158 : decode cL_builds 158 = .ok (.iload 6, 2) := by decide +kernel
theorem dL_builds_160 : decode cL_builds 160 = .ok (.if_icmp .ne 85, 3) := by decide +kernel
theorem dL_builds_163 : decode cL_builds 163 = .ok (.aload_n 0, 1) := by decide +kernel
theorem dL_builds_164 : decode cL_builds 164 = .ok (.iconst 3, 1) := by decide +kernel
theorem dL_builds_165 : decode cL_builds 165 = .ok (.iload_n 3, 1) := by decide +kernel
theorem dL_builds_166 : decode cL_builds 166 = .ok (.iconst 3, 1) := by decide +kernel
theorem dL_builds_167 : decode cL_builds 167 = .ok (.iconst 0, 1) := by decide +kernel
theorem dL_builds_168 : decode cL_builds 168 = .ok (.invokestatic 146, 3) := by decide +kernel
theorem dL_builds_171 : decode cL_builds 171 = .ok (.iload 7, 2) := by decide +kernel
theorem dL_builds_173 : decode cL_builds 173 = .ok (.iload 6, 2) := by decide +kernel
theorem dL_builds_175 : decode cL_builds 175 = .ok (.ifCond .ne 7, 3) := by decide +kernel
theorem dL_builds_178 : decode cL_builds 178 = .ok (.iconst 1, 1) := by decide +kernel
theorem dL_builds_179 : decode cL_builds 179 = .ok (.goto 4, 3) := by decide +kernel
theorem dL_builds_182 : decode cL_builds 182 = .ok (.iconst 0, 1) := by decide +kernel
theorem dL_builds_183 : decode cL_builds 183 = .ok (.iadd, 1) := by decide +kernel
theorem dL_builds_184 : decode cL_builds 184 = .ok (.if_icmp .ne 61, 3) := by decide +kernel
theorem dL_builds_187 : decode cL_builds 187 = .ok (.aload_n 0, 1) := by decide +kernel
theorem dL_builds_188 : decode cL_builds 188 = .ok (.iconst 2, 1) := by decide +kernel
theorem dL_builds_189 : decode cL_builds 189 = .ok (.bipush 7, 2) := by decide +kernel
theorem dL_builds_191 : decode cL_builds 191 = .ok (.iconst 0, 1) := by decide +kernel
theorem dL_builds_192 : decode cL_builds 192 = .ok (.iconst 0, 1) := by decide +kernel
theorem dL_builds_193 : decode cL_builds 193 = .ok (.invokestatic 146, 3) := by decide +kernel
theorem dL_builds_196 : decode cL_builds 196 = .ok (.iload 8, 2) := by decide +kernel
theorem dL_builds_198 : decode cL_builds 198 = .ok (.iload 6, 2) := by decide +kernel
theorem dL_builds_200 : decode cL_builds 200 = .ok (.ifCond .ne 7, 3) := by decide +kernel
theorem dL_builds_203 : decode cL_builds 203 = .ok (.iconst 0, 1) := by decide +kernel
theorem dL_builds_204 : decode cL_builds 204 = .ok (.goto 4, 3) := by decide +kernel
theorem dL_builds_207 : decode cL_builds 207 = .ok (.iconst 1, 1) := by decide +kernel
theorem dL_builds_208 : decode cL_builds 208 = .ok (.iadd, 1) := by decide +kernel
theorem dL_builds_209 : decode cL_builds 209 = .ok (.if_icmp .ne 36, 3) := by decide +kernel
theorem dL_builds_212 : decode cL_builds 212 = .ok (.iload 6, 2) := by decide +kernel
theorem dL_builds_214 : decode cL_builds 214 = .ok (.ifCond .gt 27, 3) := by decide +kernel
theorem dL_builds_217 : decode cL_builds 217 = .ok (.aload_n 0, 1) := by decide +kernel
theorem dL_builds_218 : decode cL_builds 218 = .ok (.iconst 4, 1) := by decide +kernel
theorem dL_builds_219 : decode cL_builds 219 = .ok (.iload 4, 2) := by decide +kernel
theorem dL_builds_221 : decode cL_builds 221 = .ok (.iload 5, 2) := by decide +kernel
theorem dL_builds_223 : decode cL_builds 223 = .ok (.iconst 3, 1) := by decide +kernel
theorem dL_builds_224 : decode cL_builds 224 = .ok (.invokestatic 146, 3) := by decide +kernel
theorem dL_builds_227 : decode cL_builds 227 = .ok (.iload 10, 2) := by decide +kernel
theorem dL_builds_229 : decode cL_builds 229 = .ok (.iconst 1, 1) := by decide +kernel
theorem dL_builds_230 : decode cL_builds 230 = .ok (.if_icmp .ne 7, 3) := by decide +kernel
theorem dL_builds_233 : decode cL_builds 233 = .ok (.iconst (-1), 1) := by decide +kernel
theorem dL_builds_234 : decode cL_builds 234 = .ok (.goto 4, 3) := by decide +kernel
theorem dL_builds_237 : decode cL_builds 237 = .ok (.iconst 1, 1) := by decide +kernel
theorem dL_builds_238 : decode cL_builds 238 = .ok (.if_icmp .ne 7, 3) := by decide +kernel
theorem dL_builds_241 : decode cL_builds 241 = .ok (.iconst 1, 1) := by decide +kernel
theorem dL_builds_242 : decode cL_builds 242 = .ok (.goto 4, 3) := by decide +kernel
theorem dL_builds_245 : decode cL_builds 245 = .ok (.iconst 0, 1) := by decide +kernel
theorem dL_builds_246 : decode cL_builds 246 = .ok (.istore 11, 2) := by decide +kernel
theorem dL_builds_248 : decode cL_builds 248 = .ok (.iload 11, 2) := by decide +kernel
theorem dL_builds_250 : decode cL_builds 250 = .ok (.ifCond .eq 77, 3) := by decide +kernel
theorem dL_builds_253 : decode cL_builds 253 = .ok (.aload_n 0, 1) := by decide +kernel
theorem dL_builds_254 : decode cL_builds 254 = .ok (.bipush 11, 2) := by decide +kernel
theorem dL_builds_256 : decode cL_builds 256 = .ok (.iconst 0, 1) := by decide +kernel
theorem dL_builds_257 : decode cL_builds 257 = .ok (.iconst 0, 1) := by decide +kernel
theorem dL_builds_258 : decode cL_builds 258 = .ok (.iconst 0, 1) := by decide +kernel
theorem dL_builds_259 : decode cL_builds 259 = .ok (.invokestatic 146, 3) := by decide +kernel
theorem dL_builds_262 : decode cL_builds 262 = .ok (.invokestatic 202, 3) := by decide +kernel
theorem dL_builds_265 : decode cL_builds 265 = .ok (.ifCond .ne 62, 3) := by decide +kernel
theorem dL_builds_268 : decode cL_builds 268 = .ok (.aload_n 1, 1) := by decide +kernel
theorem dL_builds_269 : decode cL_builds 269 = .ok (.bipush 11, 2) := by decide +kernel
theorem dL_builds_271 : decode cL_builds 271 = .ok (.iconst 0, 1) := by decide +kernel
theorem dL_builds_272 : decode cL_builds 272 = .ok (.iconst 0, 1) := by decide +kernel
theorem dL_builds_273 : decode cL_builds 273 = .ok (.iconst 0, 1) := by decide +kernel
theorem dL_builds_274 : decode cL_builds 274 = .ok (.invokestatic 146, 3) := by decide +kernel
theorem dL_builds_277 : decode cL_builds 277 = .ok (.invokestatic 202, 3) := by decide +kernel
theorem dL_builds_280 : decode cL_builds 280 = .ok (.ifCond .ne 47, 3) := by decide +kernel
theorem dL_builds_283 : decode cL_builds 283 = .ok (.aload_n 0, 1) := by decide +kernel
theorem dL_builds_284 : decode cL_builds 284 = .ok (.iconst 4, 1) := by decide +kernel
theorem dL_builds_285 : decode cL_builds 285 = .ok (.iload 4, 2) := by decide +kernel
theorem dL_builds_287 : decode cL_builds 287 = .ok (.iload 5, 2) := by decide +kernel
theorem dL_builds_289 : decode cL_builds 289 = .ok (.iconst 2, 1) := by decide +kernel
theorem dL_builds_290 : decode cL_builds 290 = .ok (.invokestatic 146, 3) := by decide +kernel
theorem dL_builds_293 : decode cL_builds 293 = .ok (.iload 9, 2) := by decide +kernel
theorem dL_builds_295 : decode cL_builds 295 = .ok (.if_icmp .ne 32, 3) := by decide +kernel
theorem dL_builds_298 : decode cL_builds 298 = .ok (.aload_n 0, 1) := by decide +kernel
theorem dL_builds_299 : decode cL_builds 299 = .ok (.iconst 3, 1) := by decide +kernel
theorem dL_builds_300 : decode cL_builds 300 = .ok (.iload_n 3, 1) := by decide +kernel
theorem dL_builds_301 : decode cL_builds 301 = .ok (.iconst 3, 1) := by decide +kernel
theorem dL_builds_302 : decode cL_builds 302 = .ok (.iconst 0, 1) := by decide +kernel
theorem dL_builds_303 : decode cL_builds 303 = .ok (.invokestatic 146, 3) := by decide +kernel
theorem dL_builds_306 : decode cL_builds 306 = .ok (.iload 7, 2) := by decide +kernel
theorem dL_builds_308 : decode cL_builds 308 = .ok (.if_icmp .ne 19, 3) := by decide +kernel
theorem dL_builds_311 : decode cL_builds 311 = .ok (.aload_n 0, 1) := by decide +kernel
theorem dL_builds_312 : decode cL_builds 312 = .ok (.iconst 2, 1) := by decide +kernel
theorem dL_builds_313 : decode cL_builds 313 = .ok (.iconst 2, 1) := by decide +kernel
theorem dL_builds_314 : decode cL_builds 314 = .ok (.iconst 0, 1) := by decide +kernel
theorem dL_builds_315 : decode cL_builds 315 = .ok (.iconst 0, 1) := by decide +kernel
theorem dL_builds_316 : decode cL_builds 316 = .ok (.invokestatic 146, 3) := by decide +kernel
theorem dL_builds_319 : decode cL_builds 319 = .ok (.iload_n 3, 1) := by decide +kernel
theorem dL_builds_320 : decode cL_builds 320 = .ok (.if_icmp .ne 7, 3) := by decide +kernel
theorem dL_builds_323 : decode cL_builds 323 = .ok (.iconst 1, 1) := by decide +kernel
theorem dL_builds_324 : decode cL_builds 324 = .ok (.goto 4, 3) := by decide +kernel
theorem dL_builds_327 : decode cL_builds 327 = .ok (.iconst 0, 1) := by decide +kernel
theorem dL_builds_328 : decode cL_builds 328 = .ok (.ireturn, 1) := by decide +kernel
