/-! steps: its rows -/
set_option maxRecDepth 20000 in
theorem gp_steps_call_0 : GoodIn wsL_steps wsL_call_r1 := goodIn_r _ [6, 7, 4, 8, 9, 10, 11, 12, 13, 14, 15, 16, 17, 18, 19, 20, 21, 22, 23, 24, 25, 26, 27, 28] rfl (by decide +kernel)
set_option maxRecDepth 20000 in
theorem gp_steps_call_1 : GoodIn wsL_steps wsL_call_r2 := goodIn_r _ [29, 30, 31, 32, 33, 34, 35, 36, 37, 38, 39, 40, 41, 42, 43, 44, 45, 46, 47, 48, 49, 50, 51, 52] rfl (by decide +kernel)
set_option maxRecDepth 20000 in
theorem gp_steps_call_2 : GoodIn wsL_steps wsL_call_r3 := goodIn_r _ [53, 54, 55, 56, 57, 58, 59, 60, 61, 62, 63, 64, 65, 66, 67, 68, 69, 70, 71, 72, 73, 74, 75, 76] rfl (by decide +kernel)
set_option maxRecDepth 20000 in
theorem gp_steps_call_3 : GoodIn wsL_steps wsL_call_r4 := goodIn_r _ [77, 78, 79, 80, 81, 82, 83, 84, 85, 86, 87, 88, 89, 90, 91, 92, 93, 94, 95, 96, 97, 98, 99, 100] rfl (by decide +kernel)
set_option maxRecDepth 20000 in
theorem gp_steps_call_4 : GoodIn wsL_steps wsL_call_r5 := goodIn_r _ [101, 102, 103, 104, 105, 106, 107, 108, 109, 110, 111, 112, 113, 114, 115, 116, 117, 118, 119, 120, 121, 122, 123, 124] rfl (by decide +kernel)
set_option maxRecDepth 20000 in
theorem gp_steps_call_5 : GoodIn wsL_steps wsL_call_r6 := goodIn_r _ [125, 126, 127, 128, 129, 130, 131, 132, 133, 134, 135, 136, 137, 138, 139, 140, 141, 142, 143, 144, 145, 146, 147, 148] rfl (by decide +kernel)
set_option maxRecDepth 20000 in
theorem gp_steps_call_6 : GoodIn wsL_steps wsL_call_r7 := goodIn_r _ [149, 150, 151, 152, 153, 154, 155, 156, 157, 158, 159, 160, 161, 162, 163, 164, 165, 166, 167, 168, 169, 170, 171, 172] rfl (by decide +kernel)
set_option maxRecDepth 20000 in
theorem gp_steps_call_7 : GoodIn wsL_steps wsL_call_r8 := goodIn_r _ [173, 174, 175, 176, 177, 178, 179, 180, 181, 182, 183, 184, 185, 186, 187, 188, 189, 190, 191, 192, 193, 194, 195, 196] rfl (by decide +kernel)
set_option maxRecDepth 20000 in
theorem gp_steps_call_8 : GoodIn wsL_steps wsL_call_r9 := goodIn_r _ [197, 198, 199, 200, 201, 202, 203, 204, 205, 206, 207, 208, 209, 210, 211, 212, 213, 214, 215, 216, 217, 218, 219, 220] rfl (by decide +kernel)
set_option maxRecDepth 20000 in
theorem gp_steps_call_9 : GoodIn wsL_steps wsL_call_r10 := goodIn_r _ [221, 222, 223, 224, 225, 226, 227, 228, 229, 230, 231, 232, 233, 234, 235, 236, 237, 238, 239, 240, 241, 242, 243, 244] rfl (by decide +kernel)
set_option maxRecDepth 20000 in
theorem gp_steps_call_10 : GoodIn wsL_steps wsL_call_r11 := goodIn_r _ [245, 246, 247, 248, 249, 250, 251, 252, 253, 254, 255, 256, 257, 258, 259, 260, 261, 262, 263, 264, 265, 266, 267, 268] rfl (by decide +kernel)
set_option maxRecDepth 20000 in
theorem gp_steps_call_11 : GoodIn wsL_steps wsL_call_r12 := goodIn_r _ [269, 270, 271, 272, 273, 274, 275, 276, 277, 278, 279, 280, 281, 282, 283, 284, 285, 286, 287, 288, 289, 290, 291, 292] rfl (by decide +kernel)
set_option maxRecDepth 20000 in
theorem gp_steps_call_12 : GoodIn wsL_steps wsL_call_r13 := goodIn_r _ [293, 294, 295, 296, 297, 298, 299, 300, 301, 302, 303, 304, 305, 306, 307, 308, 309, 310, 311, 312, 313, 314, 315, 316] rfl (by decide +kernel)
set_option maxRecDepth 20000 in
theorem gp_steps_call_13 : GoodIn wsL_steps wsL_call_r14 := goodIn_r _ [317, 318, 319, 320, 321, 322, 323, 324, 325, 326, 327, 328, 329, 330, 331, 332, 333, 334, 335, 336, 337, 338, 339, 340] rfl (by decide +kernel)
set_option maxRecDepth 20000 in
theorem gp_steps_call_14 : GoodIn wsL_steps wsL_call_r15 := goodIn_r _ [341, 342, 343, 344, 345, 346, 347, 348, 349, 350, 351, 352, 353, 354, 355, 356, 357, 358, 359, 360, 361, 362, 363, 364] rfl (by decide +kernel)
set_option maxRecDepth 20000 in
theorem gp_steps_call_15 : GoodIn wsL_steps wsL_call_r16 := goodIn_r _ [365, 366, 367, 368, 369, 370, 371, 372, 373, 374, 375, 376, 377, 378, 379, 380, 381, 382, 383, 384, 385, 386, 387, 388] rfl (by decide +kernel)
set_option maxRecDepth 20000 in
theorem gp_steps_call_16 : GoodIn wsL_steps wsL_call_r17 := goodIn_r _ [389, 390, 391, 392, 393, 394, 395, 396, 397, 398, 399, 400, 401, 402, 403, 404, 405, 406, 407, 408, 409, 410, 411, 412] rfl (by decide +kernel)
set_option maxRecDepth 20000 in
theorem gp_steps_call_17 : GoodIn wsL_steps wsL_call_r18 := goodIn_r _ [413, 414, 415, 416, 417, 418, 419, 420, 421, 422, 423, 424, 425, 426, 427, 428, 429, 430, 431, 432, 433, 434, 435, 436] rfl (by decide +kernel)
set_option maxRecDepth 20000 in
theorem gp_steps_call_18 : GoodIn wsL_steps wsL_call_r19 := goodIn_r _ [437, 438, 439, 440, 441, 442, 443, 444, 445, 446, 447, 448, 449, 450, 451, 452, 453, 454, 455, 456, 457, 458, 459, 460] rfl (by decide +kernel)
set_option maxRecDepth 20000 in
theorem gp_steps_call_19 : GoodIn wsL_steps wsL_call_r20 := goodIn_r _ [461, 462, 463, 464, 465, 466, 467, 468, 469, 470, 471, 472, 473, 474, 475, 476, 477, 478, 479, 480, 481, 482, 483, 484] rfl (by decide +kernel)
set_option maxRecDepth 20000 in
theorem gp_steps_call_20 : GoodIn wsL_steps wsL_call_r21 := goodIn_r _ [485, 486, 487, 488, 489, 490, 491, 492, 493, 494, 495, 496, 497, 498, 499, 500, 501, 502, 503, 504, 505, 506, 507, 508] rfl (by decide +kernel)
set_option maxRecDepth 20000 in
theorem gp_steps_call_21 : GoodIn wsL_steps wsL_call_r22 := goodIn_r _ [509, 510, 511, 512, 513, 514, 515, 516, 517, 518, 519, 520, 521, 522] rfl (by decide +kernel)
set_option maxRecDepth 20000 in
theorem gp_steps_call_h : GoodIn wsL_steps [.code yL_call cL_call 5 (some .int)] := goodIn_r _ [5] rfl (by decide +kernel)
set_option maxRecDepth 20000 in
theorem ggL_steps_L_call : GoodIn wsL_steps wsL_call := (goodIn_ca (goodIn_ca (goodIn_ca (goodIn_ca (goodIn_ca (goodIn_ca (goodIn_ca (goodIn_ca (goodIn_ca (goodIn_ca (goodIn_cons gp_steps_call_h (goodIn_app gp_steps_call_0 (goodIn_app gp_steps_call_1 (goodIn_app gp_steps_call_2 (goodIn_app gp_steps_call_3 (goodIn_app gp_steps_call_4 (goodIn_app gp_steps_call_5 (goodIn_app gp_steps_call_6 (goodIn_app gp_steps_call_7 (goodIn_app gp_steps_call_8 (goodIn_app gp_steps_call_9 (goodIn_app gp_steps_call_10 (goodIn_app gp_steps_call_11 (goodIn_app gp_steps_call_12 (goodIn_app gp_steps_call_13 (goodIn_app gp_steps_call_14 (goodIn_app gp_steps_call_15 (goodIn_app gp_steps_call_16 (goodIn_app gp_steps_call_17 (goodIn_app gp_steps_call_18 (goodIn_app gp_steps_call_19 (goodIn_app gp_steps_call_20 gp_steps_call_21)))))))))))))))))))))) (goodIn_sub (fun _ h => (List.mem_cons_of_mem _ (List.mem_append_left _ (List.mem_append_left _ (List.mem_append_left _ (List.mem_append_left _ (List.mem_append_left _ (List.mem_append_left _ (List.mem_append_left _ (List.mem_append_left _ (List.mem_append_left _ (List.mem_append_right _ h)))))))))))) (by decide +kernel))) (goodIn_sub (fun _ h => (List.mem_cons_of_mem _ (List.mem_append_left _ (List.mem_append_left _ (List.mem_append_left _ (List.mem_append_left _ (List.mem_append_left _ (List.mem_append_left _ (List.mem_append_left _ (List.mem_append_left _ (List.mem_append_right _ h))))))))))) (by decide +kernel))) (goodIn_sub (fun _ h => (List.mem_cons_of_mem _ (List.mem_append_left _ (List.mem_append_left _ (List.mem_append_left _ (List.mem_append_left _ (List.mem_append_left _ (List.mem_append_left _ (List.mem_append_left _ (List.mem_append_right _ h)))))))))) (by decide +kernel))) (goodIn_sub (fun _ h => (List.mem_cons_of_mem _ (List.mem_append_left _ (List.mem_append_left _ (List.mem_append_left _ (List.mem_append_left _ (List.mem_append_left _ (List.mem_append_left _ (List.mem_append_right _ h))))))))) (by decide +kernel))) (goodIn_sub (fun _ h => (List.mem_cons_of_mem _ (List.mem_append_left _ (List.mem_append_left _ (List.mem_append_left _ (List.mem_append_left _ (List.mem_append_left _ (List.mem_append_right _ h)))))))) (by decide +kernel))) (goodIn_sub (fun _ h => (List.mem_cons_of_mem _ (List.mem_append_left _ (List.mem_append_left _ (List.mem_append_left _ (List.mem_append_left _ (List.mem_append_right _ h))))))) (by decide +kernel))) (goodIn_sub (fun _ h => (List.mem_cons_of_mem _ (List.mem_append_left _ (List.mem_append_left _ (List.mem_append_left _ (List.mem_append_right _ h)))))) (by decide +kernel))) (goodIn_sub (fun _ h => (List.mem_cons_of_mem _ (List.mem_append_left _ (List.mem_append_left _ (List.mem_append_right _ h))))) (by decide +kernel))) (goodIn_sub (fun _ h => (List.mem_cons_of_mem _ (List.mem_append_left _ (List.mem_append_right _ h)))) (by decide +kernel))) (goodIn_sub (fun _ h => (List.mem_cons_of_mem _ (List.mem_append_right _ h))) (by decide +kernel)))
set_option maxRecDepth 20000 in
theorem gL_steps_L_call : GoodIn wsL_steps (va_wsS RL 146 yL_call wsL_call) := goodIn_app (goodIn_of _ (by decide +kernel)) ggL_steps_L_call
set_option maxRecDepth 20000 in
theorem ggL_steps_X6_best : GoodIn wsL_steps wsX6_best := goodIn_r _ [526, 133, 41, 259, 260, 261, 219, 262, 263, 264, 145, 146, 72, 147, 148, 149, 150, 151, 90, 88, 265, 266, 267, 268, 221, 228, 269, 229, 270, 271, 153, 154, 155, 89, 156, 157, 158, 159, 79, 82, 160, 161, 162, 110, 163, 113, 120, 164, 16, 165, 166, 121, 122, 167, 168, 169, 170, 171, 172, 173, 87, 174, 175, 176, 177, 112, 272, 273, 274, 275, 276, 277, 278, 223, 230, 242, 279, 189, 190, 191, 192, 280, 281, 282, 283, 222, 241, 237, 238, 239, 240, 284, 285, 286, 287, 288, 289, 290, 291, 236, 536, 537, 538, 539, 540, 541, 542, 547, 548, 549, 550, 551, 552, 553, 554, 555, 556, 557, 558, 570, 571, 572, 573, 574, 575, 559, 560, 561, 562, 563, 564, 565, 566] (by decide +kernel) (by decide +kernel)
set_option maxRecDepth 20000 in
theorem gL_steps_X6_best : GoodIn wsL_steps (wsV RL 160 RX6 yX6_best wsX6_best) := goodIn_app (goodIn_of _ (by decide +kernel)) ggL_steps_X6_best
set_option maxRecDepth 20000 in
theorem ggL_steps_L_to : GoodIn wsL_steps wsL_to := goodIn_r _ [529] (by decide +kernel) (by decide +kernel)
set_option maxRecDepth 20000 in
theorem gL_steps_L_to : GoodIn wsL_steps (va_wsS RL 163 yL_to wsL_to) := goodIn_app (goodIn_of _ (by decide +kernel)) ggL_steps_L_to
set_option maxRecDepth 20000 in
theorem ggL_steps_L_thrown : GoodIn wsL_steps wsL_thrown := goodIn_r _ [532, 331, 11, 12] (by decide +kernel) (by decide +kernel)
set_option maxRecDepth 20000 in
theorem gL_steps_L_thrown : GoodIn wsL_steps (va_wsS RL 202 yL_thrown wsL_thrown) := goodIn_app (goodIn_of _ (by decide +kernel)) ggL_steps_L_thrown
set_option maxRecDepth 20000 in
theorem gp_steps_stuck_0 : GoodIn wsL_steps wsL_stuck_r1 := goodIn_r _ [2, 3, 4, 5, 6, 7, 8, 9, 10, 11, 12, 13, 14, 15, 16, 17, 18, 19, 20, 21, 22, 23, 24, 25] rfl (by decide +kernel)
set_option maxRecDepth 20000 in
theorem gp_steps_stuck_1 : GoodIn wsL_steps wsL_stuck_r2 := goodIn_r _ [26, 27, 28, 29, 30, 31, 32, 33, 34, 35, 36, 37, 38, 39, 40, 41, 42, 43, 44, 45, 46, 47, 48, 49] rfl (by decide +kernel)
set_option maxRecDepth 20000 in
theorem gp_steps_stuck_2 : GoodIn wsL_steps wsL_stuck_r3 := goodIn_r _ [50, 51, 52, 53, 54, 55, 56, 57, 58, 59, 60, 61, 62, 63, 64, 65, 66, 67, 68, 69, 70, 71, 72, 73] rfl (by decide +kernel)
set_option maxRecDepth 20000 in
theorem gp_steps_stuck_3 : GoodIn wsL_steps wsL_stuck_r4 := goodIn_r _ [74, 75, 76, 77, 78, 79, 80, 81, 82, 83, 84, 85, 86, 87, 88, 89, 90, 91, 92, 93, 94, 95, 96, 97] rfl (by decide +kernel)
set_option maxRecDepth 20000 in
theorem gp_steps_stuck_4 : GoodIn wsL_steps wsL_stuck_r5 := goodIn_r _ [98, 99, 100, 101, 102, 103, 104, 105, 106, 107, 108, 109, 110, 111, 112, 113, 114, 115, 116, 117, 118, 119, 120, 121] rfl (by decide +kernel)
set_option maxRecDepth 20000 in
theorem gp_steps_stuck_5 : GoodIn wsL_steps wsL_stuck_r6 := goodIn_r _ [122, 123, 124, 125, 126, 127, 128, 129, 130, 131, 132, 133, 134, 135, 136, 137, 138, 139, 140, 141, 142, 143, 144, 145] rfl (by decide +kernel)
set_option maxRecDepth 20000 in
theorem gp_steps_stuck_6 : GoodIn wsL_steps wsL_stuck_r7 := goodIn_r _ [146, 147, 148, 149, 150, 151, 152, 153, 154, 155, 156, 157, 158, 159, 160, 161, 162, 163, 164, 165, 166, 167, 168, 169] rfl (by decide +kernel)
set_option maxRecDepth 20000 in
theorem gp_steps_stuck_7 : GoodIn wsL_steps wsL_stuck_r8 := goodIn_r _ [170, 171, 172, 173, 174, 175, 176, 177, 178, 179, 180, 181, 182, 183, 184, 185, 186, 187, 188, 189, 190, 191, 192, 193] rfl (by decide +kernel)
set_option maxRecDepth 20000 in
theorem gp_steps_stuck_8 : GoodIn wsL_steps wsL_stuck_r9 := goodIn_r _ [194, 195, 196, 197, 198, 199, 200, 201, 202, 203, 204, 205, 206, 207, 208, 209, 210, 211, 212, 213, 214, 215, 216, 217] rfl (by decide +kernel)
set_option maxRecDepth 20000 in
theorem gp_steps_stuck_9 : GoodIn wsL_steps wsL_stuck_r10 := goodIn_r _ [218, 219, 220, 221, 222, 223, 224, 225, 226, 227, 228, 229, 230, 231, 232, 233, 234, 235, 236, 237, 238, 239, 240, 241] rfl (by decide +kernel)
set_option maxRecDepth 20000 in
theorem gp_steps_stuck_10 : GoodIn wsL_steps wsL_stuck_r11 := goodIn_r _ [242, 243, 244, 245, 246, 247, 248, 249, 250, 251, 252, 253, 254, 255, 256, 257, 258, 259, 260, 261, 262, 263, 264, 265] rfl (by decide +kernel)
set_option maxRecDepth 20000 in
theorem gp_steps_stuck_11 : GoodIn wsL_steps wsL_stuck_r12 := goodIn_r _ [266, 267, 268, 269, 270, 271, 272, 273, 274, 275, 276, 277, 278, 279, 280, 281, 282, 283, 284, 285, 286, 287, 288, 289] rfl (by decide +kernel)
set_option maxRecDepth 20000 in
theorem gp_steps_stuck_12 : GoodIn wsL_steps wsL_stuck_r13 := goodIn_r _ [290, 291, 292, 293, 294, 295, 296, 297, 298, 299, 300, 301, 302, 303, 304, 305, 306, 307, 308, 309, 310, 311, 312, 313] rfl (by decide +kernel)
set_option maxRecDepth 20000 in
theorem gp_steps_stuck_13 : GoodIn wsL_steps wsL_stuck_r14 := goodIn_r _ [314, 315, 316, 317, 318, 319, 320, 321, 322, 323, 324, 325, 326, 327, 328, 329, 330, 331, 332, 333, 334, 335, 336, 337] rfl (by decide +kernel)
set_option maxRecDepth 20000 in
theorem gp_steps_stuck_14 : GoodIn wsL_steps wsL_stuck_r15 := goodIn_r _ [338, 339, 340, 341, 342, 343, 344, 345, 346, 347, 348, 349, 350, 351, 352, 353, 354, 355, 356, 357, 358, 359, 360, 361] rfl (by decide +kernel)
set_option maxRecDepth 20000 in
theorem gp_steps_stuck_15 : GoodIn wsL_steps wsL_stuck_r16 := goodIn_r _ [362, 363, 364, 365, 366, 367, 368, 369, 370, 371, 372, 373, 374, 375, 376, 377, 378, 379, 380, 381, 382, 383, 384, 385] rfl (by decide +kernel)
set_option maxRecDepth 20000 in
theorem gp_steps_stuck_16 : GoodIn wsL_steps wsL_stuck_r17 := goodIn_r _ [386, 387, 388, 389, 390, 391, 392, 393, 394, 395, 396, 397, 398, 399, 400, 401, 402, 403, 404, 405, 406, 407, 408, 409] rfl (by decide +kernel)
set_option maxRecDepth 20000 in
theorem gp_steps_stuck_17 : GoodIn wsL_steps wsL_stuck_r18 := goodIn_r _ [410, 411, 412, 413, 414, 415, 416, 417, 418, 419, 420, 421, 422, 423, 424, 425, 426, 427, 428, 429, 430, 431, 432, 433] rfl (by decide +kernel)
set_option maxRecDepth 20000 in
theorem gp_steps_stuck_18 : GoodIn wsL_steps wsL_stuck_r19 := goodIn_r _ [434, 435, 436, 437, 438, 439, 440, 441, 442, 443, 444, 445, 446, 447, 448, 449, 450, 451, 452, 453, 454, 455, 456, 457] rfl (by decide +kernel)
set_option maxRecDepth 20000 in
theorem gp_steps_stuck_19 : GoodIn wsL_steps wsL_stuck_r20 := goodIn_r _ [458, 459, 460, 461, 462, 463, 464, 465, 466, 467, 468, 469, 470, 471, 472, 473, 474, 475, 476, 477, 478, 479, 480, 481] rfl (by decide +kernel)
set_option maxRecDepth 20000 in
theorem gp_steps_stuck_20 : GoodIn wsL_steps wsL_stuck_r21 := goodIn_r _ [482, 483, 484, 485, 486, 487, 488, 489, 490, 491, 492, 493, 494, 495, 496, 497, 498, 499, 500, 501, 502, 503, 504, 505] rfl (by decide +kernel)
set_option maxRecDepth 20000 in
theorem gp_steps_stuck_21 : GoodIn wsL_steps wsL_stuck_r22 := goodIn_r _ [506, 507, 508, 509, 510, 511, 512, 513, 514, 515, 516, 517, 518, 519, 520, 521, 522] rfl (by decide +kernel)
set_option maxRecDepth 20000 in
theorem gp_steps_stuck_h : GoodIn wsL_steps [.code yL_stuck cL_stuck 1 (some .boolean)] := goodIn_r _ [535] rfl (by decide +kernel)
set_option maxRecDepth 20000 in
theorem ggL_steps_L_stuck : GoodIn wsL_steps wsL_stuck := (goodIn_ca (goodIn_ca (goodIn_ca (goodIn_ca (goodIn_ca (goodIn_ca (goodIn_ca (goodIn_ca (goodIn_ca (goodIn_ca (goodIn_cons gp_steps_stuck_h (goodIn_app gp_steps_stuck_0 (goodIn_app gp_steps_stuck_1 (goodIn_app gp_steps_stuck_2 (goodIn_app gp_steps_stuck_3 (goodIn_app gp_steps_stuck_4 (goodIn_app gp_steps_stuck_5 (goodIn_app gp_steps_stuck_6 (goodIn_app gp_steps_stuck_7 (goodIn_app gp_steps_stuck_8 (goodIn_app gp_steps_stuck_9 (goodIn_app gp_steps_stuck_10 (goodIn_app gp_steps_stuck_11 (goodIn_app gp_steps_stuck_12 (goodIn_app gp_steps_stuck_13 (goodIn_app gp_steps_stuck_14 (goodIn_app gp_steps_stuck_15 (goodIn_app gp_steps_stuck_16 (goodIn_app gp_steps_stuck_17 (goodIn_app gp_steps_stuck_18 (goodIn_app gp_steps_stuck_19 (goodIn_app gp_steps_stuck_20 gp_steps_stuck_21)))))))))))))))))))))) (goodIn_sub (fun _ h => (List.mem_cons_of_mem _ (List.mem_append_left _ (List.mem_append_left _ (List.mem_append_left _ (List.mem_append_left _ (List.mem_append_left _ (List.mem_append_left _ (List.mem_append_left _ (List.mem_append_left _ (List.mem_append_left _ (List.mem_append_right _ h)))))))))))) (by decide +kernel))) (goodIn_sub (fun _ h => (List.mem_cons_of_mem _ (List.mem_append_left _ (List.mem_append_left _ (List.mem_append_left _ (List.mem_append_left _ (List.mem_append_left _ (List.mem_append_left _ (List.mem_append_left _ (List.mem_append_left _ (List.mem_append_right _ h))))))))))) (by decide +kernel))) (goodIn_sub (fun _ h => (List.mem_cons_of_mem _ (List.mem_append_left _ (List.mem_append_left _ (List.mem_append_left _ (List.mem_append_left _ (List.mem_append_left _ (List.mem_append_left _ (List.mem_append_left _ (List.mem_append_right _ h)))))))))) (by decide +kernel))) (goodIn_sub (fun _ h => (List.mem_cons_of_mem _ (List.mem_append_left _ (List.mem_append_left _ (List.mem_append_left _ (List.mem_append_left _ (List.mem_append_left _ (List.mem_append_left _ (List.mem_append_right _ h))))))))) (by decide +kernel))) (goodIn_sub (fun _ h => (List.mem_cons_of_mem _ (List.mem_append_left _ (List.mem_append_left _ (List.mem_append_left _ (List.mem_append_left _ (List.mem_append_left _ (List.mem_append_right _ h)))))))) (by decide +kernel))) (goodIn_sub (fun _ h => (List.mem_cons_of_mem _ (List.mem_append_left _ (List.mem_append_left _ (List.mem_append_left _ (List.mem_append_left _ (List.mem_append_right _ h))))))) (by decide +kernel))) (goodIn_sub (fun _ h => (List.mem_cons_of_mem _ (List.mem_append_left _ (List.mem_append_left _ (List.mem_append_left _ (List.mem_append_right _ h)))))) (by decide +kernel))) (goodIn_sub (fun _ h => (List.mem_cons_of_mem _ (List.mem_append_left _ (List.mem_append_left _ (List.mem_append_right _ h))))) (by decide +kernel))) (goodIn_sub (fun _ h => (List.mem_cons_of_mem _ (List.mem_append_left _ (List.mem_append_right _ h)))) (by decide +kernel))) (goodIn_sub (fun _ h => (List.mem_cons_of_mem _ (List.mem_append_right _ h))) (by decide +kernel)))
set_option maxRecDepth 20000 in
theorem gL_steps_L_stuck : GoodIn wsL_steps (va_wsS RL 206 yL_stuck wsL_stuck) := goodIn_app (goodIn_of _ (by decide +kernel)) ggL_steps_L_stuck
theorem dL_steps_0 : decode cL_steps 0 = .ok (.aload_n 0, 1) := by decide +kernel
theorem dL_steps_1 : decode cL_steps 1 = .ok (.iconst 2, 1) := by decide +kernel
theorem dL_steps_2 : decode cL_steps 2 = .ok (.iconst 1, 1) := by decide +kernel
theorem dL_steps_3 : decode cL_steps 3 = .ok (.iconst 0, 1) := by decide +kernel
theorem dL_steps_4 : decode cL_steps 4 = .ok (.iconst 0, 1) := by decide +kernel
theorem dL_steps_5 : decode cL_steps 5 = .ok (.invokestatic 146, 3) := by decide +kernel
theorem dL_steps_8 : decode cL_steps 8 = .ok (.iconst 1, 1) := by decide +kernel
theorem dL_steps_9 : decode cL_steps 9 = .ok (.if_icmp .eq 5, 3) := by decide +kernel
theorem dL_steps_12 : decode cL_steps 12 = .ok (.iconst 1, 1) := by decide +kernel
theorem dL_steps_13 : decode cL_steps 13 = .ok (.ireturn, 1) := by decide +kernel
theorem dL_steps_14 : decode cL_steps 14 = .ok (.aload_n 0, 1) := by decide +kernel
theorem dL_steps_15 : decode cL_steps 15 = .ok (.iconst 2, 1) := by decide +kernel
theorem dL_steps_16 : decode cL_steps 16 = .ok (.iconst 2, 1) := by decide +kernel
theorem dL_steps_17 : decode cL_steps 17 = .ok (.iconst 0, 1) := by decide +kernel
theorem dL_steps_18 : decode cL_steps 18 = .ok (.iconst 0, 1) := by decide +kernel
theorem dL_steps_19 : decode cL_steps 19 = .ok (.invokestatic 146, 3) := by decide +kernel
theorem dL_steps_22 : decode cL_steps 22 = .ok (.istore_n 3, 1) := by decide +kernel
theorem dL_steps_23 : decode cL_steps 23 = .ok (.aload_n 0, 1) := by decide +kernel
theorem dL_steps_24 : decode cL_steps 24 = .ok (.invokevirtual 160, 3) := by decide +kernel
theorem dL_steps_27 : decode cL_steps 27 = .ok (.istore 4, 2) := by decide +kernel
theorem dL_steps_29 : decode cL_steps 29 = .ok (.aload_n 0, 1) := by decide +kernel
theorem dL_steps_30 : decode cL_steps 30 = .ok (.iconst 3, 1) := by decide +kernel
theorem dL_steps_31 : decode cL_steps 31 = .ok (.iload_n 3, 1) := by decide +kernel
theorem dL_steps_32 : decode cL_steps 32 = .ok (.iconst 2, 1) := by decide +kernel
theorem dL_steps_33 : decode cL_steps 33 = .ok (.iconst 0, 1) := by decide +kernel
theorem dL_steps_34 : decode cL_steps 34 = .ok (.invokestatic 146, 3) := by decide +kernel
theorem dL_steps_37 : decode cL_steps 37 = .ok (.istore 5, 2) := by decide +kernel
theorem dL_steps_39 : decode cL_steps 39 = .ok (.aload_n 0, 1) := by decide +kernel
theorem dL_steps_40 : decode cL_steps 40 = .ok (.iconst 3, 1) := by decide +kernel
theorem dL_steps_41 : decode cL_steps 41 = .ok (.iload_n 3, 1) := by decide +kernel
theorem dL_steps_42 : decode cL_steps 42 = .ok (.iconst 1, 1) := by decide +kernel
theorem dL_steps_43 : decode cL_steps 43 = .ok (.iconst 0, 1) := by decide +kernel
theorem dL_steps_44 : decode cL_steps 44 = .ok (.invokestatic 146, 3) := by decide +kernel
theorem dL_steps_47 : decode cL_steps 47 = .ok (.istore 6, 2) := by decide +kernel
theorem dL_steps_49 : decode cL_steps 49 = .ok (.aload_n 0, 1) := by decide +kernel
theorem dL_steps_50 : decode cL_steps 50 = .ok (.iconst 2, 1) := by decide +kernel
theorem dL_steps_51 : decode cL_steps 51 = .ok (.iconst 3, 1) := by decide +kernel
theorem dL_steps_52 : decode cL_steps 52 = .ok (.iconst 0, 1) := by decide +kernel
theorem dL_steps_53 : decode cL_steps 53 = .ok (.iconst 0, 1) := by decide +kernel
theorem dL_steps_54 : decode cL_steps 54 = .ok (.invokestatic 146, 3) := by decide +kernel
theorem dL_steps_57 : decode cL_steps 57 = .ok (.istore 7, 2) := by decide +kernel
theorem dL_steps_59 : decode cL_steps 59 = .ok (.aload_n 0, 1) := by decide +kernel
theorem dL_steps_60 : decode cL_steps 60 = .ok (.iconst 2, 1) := by decide +kernel
theorem dL_steps_61 : decode cL_steps 61 = .ok (.iconst 4, 1) := by decide +kernel
theorem dL_steps_62 : decode cL_steps 62 = .ok (.iconst 0, 1) := by decide +kernel
theorem dL_steps_63 : decode cL_steps 63 = .ok (.iconst 0, 1) := by decide +kernel
theorem dL_steps_64 : decode cL_steps 64 = .ok (.invokestatic 146, 3) := by decide +kernel
theorem dL_steps_67 : decode cL_steps 67 = .ok (.istore 8, 2) := by decide +kernel
theorem dL_steps_69 : decode cL_steps 69 = .ok (.iconst 0, 1) := by decide +kernel
theorem dL_steps_70 : decode cL_steps 70 = .ok (.istore 9, 2) := by decide +kernel
theorem dL_steps_72 : decode cL_steps 72 = .ok (.iconst 1, 1) := by decide +kernel
theorem dL_steps_73 : decode cL_steps 73 = .ok (.istore 10, 2) := by decide +kernel
theorem dL_steps_75 : decode cL_steps 75 = .ok (.iconst 0, 1) := by decide +kernel
theorem dL_steps_76 : decode cL_steps 76 = .ok (.istore 11, 2) := by decide +kernel
theorem dL_steps_78 : decode cL_steps 78 = .ok (.iload 11, 2) := by decide +kernel
theorem dL_steps_80 : decode cL_steps 80 = .ok (.iconst 4, 1) := by decide +kernel
theorem dL_steps_81 : decode cL_steps 81 = .ok (.if_icmp .ge 559, 3) := by decide +kernel
theorem dL_steps_84 : decode cL_steps 84 = .ok (.iload 10, 2) := by decide +kernel
theorem dL_steps_86 : decode cL_steps 86 = .ok (.ifCond .eq 554, 3) := by decide +kernel
theorem dL_steps_89 : decode cL_steps 89 = .ok (.iload 11, 2) := by decide +kernel
theorem dL_steps_91 : decode cL_steps 91 = .ok (.ifCond .ne 8, 3) := by decide +kernel
theorem dL_steps_94 : decode cL_steps 94 = .ok (.iload 4, 2) := by decide +kernel
theorem dL_steps_96 : decode cL_steps 96 = .ok (.goto 7, 3) := by decide +kernel
theorem dL_steps_99 : decode cL_steps 99 = .ok (.iload 11, 2) := by decide +kernel
theorem dL_steps_101 : decode cL_steps 101 = .ok (.iconst 1, 1) := by decide +kernel
theorem dL_steps_102 : decode cL_steps 102 = .ok (.isub, 1) := by decide +kernel
theorem dL_steps_103 : decode cL_steps 103 = .ok (.istore 12, 2) := by decide +kernel
theorem dL_steps_105 : decode cL_steps 105 = .ok (.iload 12, 2) := by decide +kernel
theorem dL_steps_107 : decode cL_steps 107 = .ok (.iconst (-1), 1) := by decide +kernel
theorem dL_steps_108 : decode cL_steps 108 = .ok (.if_icmp .ne 7, 3) := by decide +kernel
theorem dL_steps_111 : decode cL_steps 111 = .ok (.iconst 1, 1) := by decide +kernel
theorem dL_steps_112 : decode cL_steps 112 = .ok (.goto 13, 3) := by decide +kernel
theorem dL_steps_115 : decode cL_steps 115 = .ok (.aload_n 0, 1) := by decide +kernel
theorem dL_steps_116 : decode cL_steps 116 = .ok (.bipush 12, 2) := by decide +kernel
theorem dL_steps_118 : decode cL_steps 118 = .ok (.iload 12, 2) := by decide +kernel
theorem dL_steps_120 : decode cL_steps 120 = .ok (.iconst 0, 1) := by decide +kernel
theorem dL_steps_121 : decode cL_steps 121 = .ok (.iconst 0, 1) := by decide +kernel
theorem dL_steps_122 : decode cL_steps 122 = .ok (.invokestatic 146, 3) := by decide +kernel
theorem dL_steps_125 : decode cL_steps 125 = .ok (.istore 13, 2) := by decide +kernel
theorem dL_steps_127 : decode cL_steps 127 = .ok (.iload 13, 2) := by decide +kernel
theorem dL_steps_129 : decode cL_steps 129 = .ok (.ifCond .ne 419, 3) := by decide +kernel
theorem dL_steps_132 : decode cL_steps 132 = .ok (.iload 6, 2) := by decide +kernel
theorem dL_steps_134 : decode cL_steps 134 = .ok (.iload 12, 2) := by decide +kernel
theorem dL_steps_136 : decode cL_steps 136 = .ok (.invokestatic 163, 3) := by decide +kernel
theorem dL_steps_139 : decode cL_steps 139 = .ok (.istore 14, 2) := by decide +kernel
theorem dL_steps_141 : decode cL_steps 141 = .ok (.aload_n 0, 1) := by decide +kernel
theorem dL_steps_142 : decode cL_steps 142 = .ok (.iconst 4, 1) := by decide +kernel
theorem dL_steps_143 : decode cL_steps 143 = .ok (.iload 14, 2) := by decide +kernel
theorem dL_steps_145 : decode cL_steps 145 = .ok (.bipush 8, 2) := by decide +kernel
theorem dL_steps_147 : decode cL_steps 147 = .ok (.irem, 1) := by decide +kernel
theorem dL_steps_148 : decode cL_steps 148 = .ok (.iload 14, 2) := by decide +kernel
theorem dL_steps_150 : decode cL_steps 150 = .ok (.bipush 8, 2) := by decide +kernel
theorem dL_steps_152 : decode cL_steps 152 = .ok (.idiv, 1) := by decide +kernel
theorem dL_steps_153 : decode cL_steps 153 = .ok (.iload_n 3, 1) := by decide +kernel
theorem dL_steps_154 : decode cL_steps 154 = .ok (.invokestatic 146, 3) := by decide +kernel
theorem dL_steps_157 : decode cL_steps 157 = .ok (.istore 15, 2) := by decide +kernel
theorem dL_steps_159 : decode cL_steps 159 = .ok (.aload_n 0, 1) := by decide +kernel
theorem dL_steps_160 : decode cL_steps 160 = .ok (.iconst 4, 1) := by decide +kernel
theorem dL_steps_161 : decode cL_steps 161 = .ok (.iload 14, 2) := by decide +kernel
theorem dL_steps_163 : decode cL_steps 163 = .ok (.bipush 8, 2) := by decide +kernel
theorem dL_steps_165 : decode cL_steps 165 = .ok (.irem, 1) := by decide +kernel
theorem dL_steps_166 : decode cL_steps 166 = .ok (.iload 14, 2) := by decide +kernel
theorem dL_steps_168 : decode cL_steps 168 = .ok (.bipush 8, 2) := by decide +kernel
theorem dL_steps_170 : decode cL_steps 170 = .ok (.idiv, 1) := by decide +kernel
theorem dL_steps_171 : decode cL_steps 171 = .ok (.iconst 2, 1) := by decide +kernel
theorem dL_steps_172 : decode cL_steps 172 = .ok (.invokestatic 146, 3) := by decide +kernel
theorem dL_steps_175 : decode cL_steps 175 = .ok (.iconst 2, 1) := by decide +kernel
theorem dL_steps_176 : decode cL_steps 176 = .ok (.iload_n 3, 1) := by decide +kernel
theorem dL_steps_177 : decode cL_steps 177 = .ok (.isub, 1) := by decide +kernel
theorem dL_steps_178 : decode cL_steps 178 = .ok (.if_icmp .ne 7, 3) := by decide +kernel
theorem dL_steps_181 : decode cL_steps 181 = .ok (.iconst 1, 1) := by decide +kernel
theorem dL_steps_182 : decode cL_steps 182 = .ok (.goto 4, 3) := by decide +kernel
theorem dL_steps_185 : decode cL_steps 185 = .ok (.iconst 0, 1) := by decide +kernel
theorem dL_steps_186 : decode cL_steps 186 = .ok (.istore 16, 2) := by decide +kernel
theorem dL_steps_188 : decode cL_steps 188 = .ok (.aload_n 0, 1) := by decide +kernel
theorem dL_steps_189 : decode cL_steps 189 = .ok (.bipush 6, 2) := by decide +kernel
theorem dL_steps_191 : decode cL_steps 191 = .ok (.iconst 0, 1) := by decide +kernel
theorem dL_steps_192 : decode cL_steps 192 = .ok (.iconst 0, 1) := by decide +kernel
theorem dL_steps_193 : decode cL_steps 193 = .ok (.iconst 0, 1) := by decide +kernel
theorem dL_steps_194 : decode cL_steps 194 = .ok (.invokestatic 146, 3) := by decide +kernel
theorem dL_steps_197 : decode cL_steps 197 = .ok (.istore 17, 2) := by decide +kernel
theorem dL_steps_199 : decode cL_steps 199 = .ok (.aload_n 0, 1) := by decide +kernel
theorem dL_steps_200 : decode cL_steps 200 = .ok (.bipush 10, 2) := by decide +kernel
theorem dL_steps_202 : decode cL_steps 202 = .ok (.iconst 0, 1) := by decide +kernel
theorem dL_steps_203 : decode cL_steps 203 = .ok (.bipush 40, 2) := by decide +kernel
theorem dL_steps_205 : decode cL_steps 205 = .ok (.iconst 0, 1) := by decide +kernel
theorem dL_steps_206 : decode cL_steps 206 = .ok (.invokestatic 146, 3) := by decide +kernel
theorem dL_steps_209 : decode cL_steps 209 = .ok (.iload 17, 2) := by decide +kernel
theorem dL_steps_211 : decode cL_steps 211 = .ok (.if_icmp .ne 133, 3) := by decide +kernel
theorem dL_steps_214 : decode cL_steps 214 = .ok (.aload_n 1, 1) := by decide +kernel
theorem dL_steps_215 : decode cL_steps 215 = .ok (.bipush 10, 2) := by decide +kernel
theorem dL_steps_217 : decode cL_steps 217 = .ok (.iconst 0, 1) := by decide +kernel
theorem dL_steps_218 : decode cL_steps 218 = .ok (.bipush 40, 2) := by decide +kernel
theorem dL_steps_220 : decode cL_steps 220 = .ok (.iconst 0, 1) := by decide +kernel
theorem dL_steps_221 : decode cL_steps 221 = .ok (.invokestatic 146, 3) := by decide +kernel
theorem dL_steps_224 : decode cL_steps 224 = .ok (.iload 17, 2) := by decide +kernel
theorem dL_steps_226 : decode cL_steps 226 = .ok (.if_icmp .ne 118, 3) := by decide +kernel
theorem dL_steps_229 : decode cL_steps 229 = .ok (.aload_n 0, 1) := by decide +kernel
theorem dL_steps_230 : decode cL_steps 230 = .ok (.bipush 7, 2) := by decide +kernel
theorem dL_steps_232 : decode cL_steps 232 = .ok (.iload 12, 2) := by decide +kernel
theorem dL_steps_234 : decode cL_steps 234 = .ok (.iconst 0, 1) := by decide +kernel
theorem dL_steps_235 : decode cL_steps 235 = .ok (.iconst 0, 1) := by decide +kernel
theorem dL_steps_236 : decode cL_steps 236 = .ok (.invokestatic 146, 3) := by decide +kernel
theorem dL_steps_239 : decode cL_steps 239 = .ok (.ifCond .ne 105, 3) := by decide +kernel
theorem dL_steps_242 : decode cL_steps 242 = .ok (.aload_n 1, 1) := by decide +kernel
theorem dL_steps_243 : decode cL_steps 243 = .ok (.bipush 7, 2) := by decide +kernel
theorem dL_steps_245 : decode cL_steps 245 = .ok (.iload 12, 2) := by decide +kernel
theorem dL_steps_247 : decode cL_steps 247 = .ok (.iconst 0, 1) := by decide +kernel
theorem dL_steps_248 : decode cL_steps 248 = .ok (.iconst 0, 1) := by decide +kernel
theorem dL_steps_249 : decode cL_steps 249 = .ok (.invokestatic 146, 3) := by decide +kernel
theorem dL_steps_252 : decode cL_steps 252 = .ok (.ifCond .ne 92, 3) := by decide +kernel
theorem dL_steps_255 : decode cL_steps 255 = .ok (.aload_n 0, 1) := by decide +kernel
theorem dL_steps_256 : decode cL_steps 256 = .ok (.iconst 3, 1) := by decide +kernel
theorem dL_steps_257 : decode cL_steps 257 = .ok (.iload_n 3, 1) := by decide +kernel
theorem dL_steps_258 : decode cL_steps 258 = .ok (.iconst 1, 1) := by decide +kernel
theorem dL_steps_259 : decode cL_steps 259 = .ok (.iconst 0, 1) := by decide +kernel
theorem dL_steps_260 : decode cL_steps 260 = .ok (.invokestatic 146, 3) := by decide +kernel
theorem dL_steps_263 : decode cL_steps 263 = .ok (.iload 14, 2) := by decide +kernel
theorem dL_steps_265 : decode cL_steps 265 = .ok (.if_icmp .ne 79, 3) := by decide +kernel
theorem dL_steps_268 : decode cL_steps 268 = .ok (.aload_n 0, 1) := by decide +kernel
theorem dL_steps_269 : decode cL_steps 269 = .ok (.iconst 2, 1) := by decide +kernel
theorem dL_steps_270 : decode cL_steps 270 = .ok (.iconst 3, 1) := by decide +kernel
theorem dL_steps_271 : decode cL_steps 271 = .ok (.iconst 0, 1) := by decide +kernel
theorem dL_steps_272 : decode cL_steps 272 = .ok (.iconst 0, 1) := by decide +kernel
theorem dL_steps_273 : decode cL_steps 273 = .ok (.invokestatic 146, 3) := by decide +kernel
theorem dL_steps_276 : decode cL_steps 276 = .ok (.iload 7, 2) := by decide +kernel
theorem dL_steps_278 : decode cL_steps 278 = .ok (.iconst 1, 1) := by decide +kernel
theorem dL_steps_279 : decode cL_steps 279 = .ok (.iadd, 1) := by decide +kernel
theorem dL_steps_280 : decode cL_steps 280 = .ok (.if_icmp .ne 64, 3) := by decide +kernel
theorem dL_steps_283 : decode cL_steps 283 = .ok (.aload_n 0, 1) := by decide +kernel
theorem dL_steps_284 : decode cL_steps 284 = .ok (.iconst 3, 1) := by decide +kernel
theorem dL_steps_285 : decode cL_steps 285 = .ok (.iload_n 3, 1) := by decide +kernel
theorem dL_steps_286 : decode cL_steps 286 = .ok (.iconst 2, 1) := by decide +kernel
theorem dL_steps_287 : decode cL_steps 287 = .ok (.iconst 0, 1) := by decide +kernel
theorem dL_steps_288 : decode cL_steps 288 = .ok (.invokestatic 146, 3) := by decide +kernel
theorem dL_steps_291 : decode cL_steps 291 = .ok (.iload 5, 2) := by decide +kernel
theorem dL_steps_293 : decode cL_steps 293 = .ok (.iload 15, 2) := by decide +kernel
theorem dL_steps_295 : decode cL_steps 295 = .ok (.iload 16, 2) := by decide +kernel
theorem dL_steps_297 : decode cL_steps 297 = .ok (.ifCond .eq 15, 3) := by decide +kernel
theorem dL_steps_300 : decode cL_steps 300 = .ok (.aload_n 0, 1) := by decide +kernel
theorem dL_steps_301 : decode cL_steps 301 = .ok (.bipush 6, 2) := by decide +kernel
theorem dL_steps_303 : decode cL_steps 303 = .ok (.iconst 1, 1) := by decide +kernel
theorem dL_steps_304 : decode cL_steps 304 = .ok (.iconst 0, 1) := by decide +kernel
theorem dL_steps_305 : decode cL_steps 305 = .ok (.iconst 0, 1) := by decide +kernel
theorem dL_steps_306 : decode cL_steps 306 = .ok (.invokestatic 146, 3) := by decide +kernel
theorem dL_steps_309 : decode cL_steps 309 = .ok (.goto 4, 3) := by decide +kernel
theorem dL_steps_312 : decode cL_steps 312 = .ok (.iconst 1, 1) := by decide +kernel
theorem dL_steps_313 : decode cL_steps 313 = .ok (.imul, 1) := by decide +kernel
theorem dL_steps_314 : decode cL_steps 314 = .ok (.iadd, 1) := by decide +kernel
theorem dL_steps_315 : decode cL_steps 315 = .ok (.if_icmp .ne 29, 3) := by decide +kernel
theorem dL_steps_318 : decode cL_steps 318 = .ok (.aload_n 0, 1) := by decide +kernel
theorem dL_steps_319 : decode cL_steps 319 = .ok (.iconst 2, 1) := by decide +kernel
theorem dL_steps_320 : decode cL_steps 320 = .ok (.iconst 1, 1) := by decide +kernel
theorem dL_steps_321 : decode cL_steps 321 = .ok (.iconst 0, 1) := by decide +kernel
theorem dL_steps_322 : decode cL_steps 322 = .ok (.iconst 0, 1) := by decide +kernel
theorem dL_steps_323 : decode cL_steps 323 = .ok (.invokestatic 146, 3) := by decide +kernel
theorem dL_steps_326 : decode cL_steps 326 = .ok (.iconst 2, 1) := by decide +kernel
theorem dL_steps_327 : decode cL_steps 327 = .ok (.if_icmp .ne 7, 3) := by decide +kernel
theorem dL_steps_330 : decode cL_steps 330 = .ok (.iconst 1, 1) := by decide +kernel
theorem dL_steps_331 : decode cL_steps 331 = .ok (.goto 4, 3) := by decide +kernel
theorem dL_steps_334 : decode cL_steps 334 = .ok (.iconst 0, 1) := by decide +kernel
theorem dL_steps_335 : decode cL_steps 335 = .ok (.iload 16, 2) := by decide +kernel
theorem dL_steps_337 : decode cL_steps 337 = .ok (.if_icmp .ne 7, 3) := by decide +kernel
theorem dL_steps_340 : decode cL_steps 340 = .ok (.iconst 1, 1) := by decide +kernel
theorem dL_steps_341 : decode cL_steps 341 = .ok (.goto 4, 3) := by decide +kernel
theorem dL_steps_344 : decode cL_steps 344 = .ok (.iconst 0, 1) := by decide +kernel
theorem dL_steps_345 : decode cL_steps 345 = .ok (.istore 10, 2) := by decide +kernel
theorem dL_steps_347 : decode cL_steps 347 = .ok (.iload 16, 2) := by decide +kernel
theorem dL_steps_349 : decode cL_steps 349 = .ok (.ifCond .eq 7, 3) := by decide +kernel
theorem dL_steps_352 : decode cL_steps 352 = .ok (.iconst 0, 1) := by decide +kernel
theorem dL_steps_353 : decode cL_steps 353 = .ok (.goto 12, 3) := by decide +kernel
theorem dL_steps_356 : decode cL_steps 356 = .ok (.aload_n 0, 1) := by decide +kernel
theorem dL_steps_357 : decode cL_steps 357 = .ok (.bipush 14, 2) := by decide +kernel
theorem dL_steps_359 : decode cL_steps 359 = .ok (.iload_n 3, 1) := by decide +kernel
theorem dL_steps_360 : decode cL_steps 360 = .ok (.iconst 0, 1) := by decide +kernel
theorem dL_steps_361 : decode cL_steps 361 = .ok (.iconst 0, 1) := by decide +kernel
theorem dL_steps_362 : decode cL_steps 362 = .ok (.invokestatic 146, 3) := by decide +kernel
theorem dL_steps_365 : decode cL_steps 365 = .ok (.istore 18, 2) := by decide +kernel
theorem dL_steps_367 : decode cL_steps 367 = .ok (.iload 18, 2) := by decide +kernel
theorem dL_steps_369 : decode cL_steps 369 = .ok (.iconst (-1), 1) := by decide +kernel
theorem dL_steps_370 : decode cL_steps 370 = .ok (.if_icmp .ne 8, 3) := by decide +kernel
theorem dL_steps_373 : decode cL_steps 373 = .ok (.ldc 201, 2) := by decide +kernel
theorem dL_steps_375 : decode cL_steps 375 = .ok (.goto 17, 3) := by decide +kernel
theorem dL_steps_378 : decode cL_steps 378 = .ok (.iload 18, 2) := by decide +kernel
theorem dL_steps_380 : decode cL_steps 380 = .ok (.aload_n 0, 1) := by decide +kernel
theorem dL_steps_381 : decode cL_steps 381 = .ok (.iconst 3, 1) := by decide +kernel
theorem dL_steps_382 : decode cL_steps 382 = .ok (.iload_n 3, 1) := by decide +kernel
theorem dL_steps_383 : decode cL_steps 383 = .ok (.iconst 2, 1) := by decide +kernel
theorem dL_steps_384 : decode cL_steps 384 = .ok (.iconst 0, 1) := by decide +kernel
theorem dL_steps_385 : decode cL_steps 385 = .ok (.invokestatic 146, 3) := by decide +kernel
theorem dL_steps_388 : decode cL_steps 388 = .ok (.iadd, 1) := by decide +kernel
theorem dL_steps_389 : decode cL_steps 389 = .ok (.iload 5, 2) := by decide +kernel
theorem dL_steps_391 : decode cL_steps 391 = .ok (.isub, 1) := by decide +kernel
theorem dL_steps_392 : decode cL_steps 392 = .ok (.istore 19, 2) := by decide +kernel
theorem dL_steps_394 : decode cL_steps 394 = .ok (.iload 10, 2) := by decide +kernel
theorem dL_steps_396 : decode cL_steps 396 = .ok (.ifCond .eq 46, 3) := by decide +kernel
theorem dL_steps_399 : decode cL_steps 399 = .ok (.iload 11, 2) := by decide +kernel
theorem dL_steps_401 : decode cL_steps 401 = .ok (.ifCond .eq 37, 3) := by decide +kernel
theorem dL_steps_404 : decode cL_steps 404 = .ok (.aload_n 0, 1) := by decide +kernel
theorem dL_steps_405 : decode cL_steps 405 = .ok (.iconst 2, 1) := by decide +kernel
theorem dL_steps_406 : decode cL_steps 406 = .ok (.iconst 4, 1) := by decide +kernel
theorem dL_steps_407 : decode cL_steps 407 = .ok (.iconst 0, 1) := by decide +kernel
theorem dL_steps_408 : decode cL_steps 408 = .ok (.iconst 0, 1) := by decide +kernel
theorem dL_steps_409 : decode cL_steps 409 = .ok (.invokestatic 146, 3) := by decide +kernel
theorem dL_steps_412 : decode cL_steps 412 = .ok (.iload 8, 2) := by decide +kernel
theorem dL_steps_414 : decode cL_steps 414 = .ok (.if_icmp .lt 24, 3) := by decide +kernel
theorem dL_steps_417 : decode cL_steps 417 = .ok (.iload 19, 2) := by decide +kernel
theorem dL_steps_419 : decode cL_steps 419 = .ok (.iload 9, 2) := by decide +kernel
theorem dL_steps_421 : decode cL_steps 421 = .ok (.if_icmp .gt 17, 3) := by decide +kernel
theorem dL_steps_424 : decode cL_steps 424 = .ok (.iload 19, 2) := by decide +kernel
theorem dL_steps_426 : decode cL_steps 426 = .ok (.iload 9, 2) := by decide +kernel
theorem dL_steps_428 : decode cL_steps 428 = .ok (.if_icmp .ne 14, 3) := by decide +kernel
theorem dL_steps_431 : decode cL_steps 431 = .ok (.iload 12, 2) := by decide +kernel
theorem dL_steps_433 : decode cL_steps 433 = .ok (.iload 4, 2) := by decide +kernel
theorem dL_steps_435 : decode cL_steps 435 = .ok (.if_icmp .lt 7, 3) := by decide +kernel
theorem dL_steps_438 : decode cL_steps 438 = .ok (.iconst 1, 1) := by decide +kernel
theorem dL_steps_439 : decode cL_steps 439 = .ok (.goto 4, 3) := by decide +kernel
theorem dL_steps_442 : decode cL_steps 442 = .ok (.iconst 0, 1) := by decide +kernel
theorem dL_steps_443 : decode cL_steps 443 = .ok (.istore 10, 2) := by decide +kernel
theorem dL_steps_445 : decode cL_steps 445 = .ok (.iload 11, 2) := by decide +kernel
theorem dL_steps_447 : decode cL_steps 447 = .ok (.ifCond .ne 8, 3) := by decide +kernel
theorem dL_steps_450 : decode cL_steps 450 = .ok (.iload 19, 2) := by decide +kernel
theorem dL_steps_452 : decode cL_steps 452 = .ok (.goto 5, 3) := by decide +kernel
theorem dL_steps_455 : decode cL_steps 455 = .ok (.iload 9, 2) := by decide +kernel
theorem dL_steps_457 : decode cL_steps 457 = .ok (.istore 9, 2) := by decide +kernel
theorem dL_steps_459 : decode cL_steps 459 = .ok (.iload 10, 2) := by decide +kernel
theorem dL_steps_461 : decode cL_steps 461 = .ok (.ifCond .eq 81, 3) := by decide +kernel
theorem dL_steps_464 : decode cL_steps 464 = .ok (.aload_n 0, 1) := by decide +kernel
theorem dL_steps_465 : decode cL_steps 465 = .ok (.bipush 11, 2) := by decide +kernel
theorem dL_steps_467 : decode cL_steps 467 = .ok (.iconst 0, 1) := by decide +kernel
theorem dL_steps_468 : decode cL_steps 468 = .ok (.iconst 0, 1) := by decide +kernel
theorem dL_steps_469 : decode cL_steps 469 = .ok (.iconst 0, 1) := by decide +kernel
theorem dL_steps_470 : decode cL_steps 470 = .ok (.invokestatic 146, 3) := by decide +kernel
theorem dL_steps_473 : decode cL_steps 473 = .ok (.invokestatic 202, 3) := by decide +kernel
theorem dL_steps_476 : decode cL_steps 476 = .ok (.ifCond .ne 66, 3) := by decide +kernel
theorem dL_steps_479 : decode cL_steps 479 = .ok (.aload_n 1, 1) := by decide +kernel
theorem dL_steps_480 : decode cL_steps 480 = .ok (.bipush 11, 2) := by decide +kernel
theorem dL_steps_482 : decode cL_steps 482 = .ok (.iconst 0, 1) := by decide +kernel
theorem dL_steps_483 : decode cL_steps 483 = .ok (.iconst 0, 1) := by decide +kernel
theorem dL_steps_484 : decode cL_steps 484 = .ok (.iconst 0, 1) := by decide +kernel
theorem dL_steps_485 : decode cL_steps 485 = .ok (.invokestatic 146, 3) := by decide +kernel
theorem dL_steps_488 : decode cL_steps 488 = .ok (.invokestatic 202, 3) := by decide +kernel
theorem dL_steps_491 : decode cL_steps 491 = .ok (.ifCond .ne 51, 3) := by decide +kernel
theorem dL_steps_494 : decode cL_steps 494 = .ok (.aload_n 0, 1) := by decide +kernel
theorem dL_steps_495 : decode cL_steps 495 = .ok (.bipush 11, 2) := by decide +kernel
theorem dL_steps_497 : decode cL_steps 497 = .ok (.iconst 0, 1) := by decide +kernel
theorem dL_steps_498 : decode cL_steps 498 = .ok (.iconst 0, 1) := by decide +kernel
theorem dL_steps_499 : decode cL_steps 499 = .ok (.iconst 0, 1) := by decide +kernel
theorem dL_steps_500 : decode cL_steps 500 = .ok (.invokestatic 146, 3) := by decide +kernel
theorem dL_steps_503 : decode cL_steps 503 = .ok (.invokestatic 202, 3) := by decide +kernel
theorem dL_steps_506 : decode cL_steps 506 = .ok (.ifCond .ne 36, 3) := by decide +kernel
theorem dL_steps_509 : decode cL_steps 509 = .ok (.aload_n 1, 1) := by decide +kernel
theorem dL_steps_510 : decode cL_steps 510 = .ok (.bipush 11, 2) := by decide +kernel
theorem dL_steps_512 : decode cL_steps 512 = .ok (.iconst 0, 1) := by decide +kernel
theorem dL_steps_513 : decode cL_steps 513 = .ok (.iconst 0, 1) := by decide +kernel
theorem dL_steps_514 : decode cL_steps 514 = .ok (.iconst 0, 1) := by decide +kernel
theorem dL_steps_515 : decode cL_steps 515 = .ok (.invokestatic 146, 3) := by decide +kernel
theorem dL_steps_518 : decode cL_steps 518 = .ok (.invokestatic 202, 3) := by decide +kernel
theorem dL_steps_521 : decode cL_steps 521 = .ok (.ifCond .ne 21, 3) := by decide +kernel
theorem dL_steps_524 : decode cL_steps 524 = .ok (.aload_n 0, 1) := by decide +kernel
theorem dL_steps_525 : decode cL_steps 525 = .ok (.bipush 6, 2) := by decide +kernel
theorem dL_steps_527 : decode cL_steps 527 = .ok (.iconst 0, 1) := by decide +kernel
theorem dL_steps_528 : decode cL_steps 528 = .ok (.iconst 0, 1) := by decide +kernel
theorem dL_steps_529 : decode cL_steps 529 = .ok (.iconst 0, 1) := by decide +kernel
theorem dL_steps_530 : decode cL_steps 530 = .ok (.invokestatic 146, 3) := by decide +kernel
theorem dL_steps_533 : decode cL_steps 533 = .ok (.iload 17, 2) := by decide +kernel
theorem dL_steps_535 : decode cL_steps 535 = .ok (.if_icmp .ne 7, 3) := by decide +kernel
theorem dL_steps_538 : decode cL_steps 538 = .ok (.iconst 1, 1) := by decide +kernel
theorem dL_steps_539 : decode cL_steps 539 = .ok (.goto 4, 3) := by decide +kernel
theorem dL_steps_542 : decode cL_steps 542 = .ok (.iconst 0, 1) := by decide +kernel
theorem dL_steps_543 : decode cL_steps 543 = .ok (.istore 10, 2) := by decide +kernel
theorem dL_steps_545 : decode cL_steps 545 = .ok (.goto 89, 3) := by decide +kernel
theorem dL_steps_548 : decode cL_steps 548 = .ok (.iload 12, 2) := by decide +kernel
theorem dL_steps_550 : decode cL_steps 550 = .ok (.iconst (-1), 1) := by decide +kernel
theorem dL_steps_551 : decode cL_steps 551 = .ok (.if_icmp .eq 83, 3) := by decide +kernel
theorem dL_steps_554 : decode cL_steps 554 = .ok (.aload_n 0, 1) := by decide +kernel
theorem dL_steps_555 : decode cL_steps 555 = .ok (.bipush 7, 2) := by decide +kernel
theorem dL_steps_557 : decode cL_steps 557 = .ok (.iload 12, 2) := by decide +kernel
theorem dL_steps_559 : decode cL_steps 559 = .ok (.iconst 0, 1) := by decide +kernel
theorem dL_steps_560 : decode cL_steps 560 = .ok (.iconst 0, 1) := by decide +kernel
theorem dL_steps_561 : decode cL_steps 561 = .ok (.invokestatic 146, 3) := by decide +kernel
theorem dL_steps_564 : decode cL_steps 564 = .ok (.iload 13, 2) := by decide +kernel
theorem dL_steps_566 : decode cL_steps 566 = .ok (.if_icmp .ne 65, 3) := by decide +kernel
theorem dL_steps_569 : decode cL_steps 569 = .ok (.aload_n 1, 1) := by decide +kernel
theorem dL_steps_570 : decode cL_steps 570 = .ok (.bipush 7, 2) := by decide +kernel
theorem dL_steps_572 : decode cL_steps 572 = .ok (.iload 12, 2) := by decide +kernel
theorem dL_steps_574 : decode cL_steps 574 = .ok (.iconst 0, 1) := by decide +kernel
theorem dL_steps_575 : decode cL_steps 575 = .ok (.iconst 0, 1) := by decide +kernel
theorem dL_steps_576 : decode cL_steps 576 = .ok (.invokestatic 146, 3) := by decide +kernel
theorem dL_steps_579 : decode cL_steps 579 = .ok (.iload 13, 2) := by decide +kernel
theorem dL_steps_581 : decode cL_steps 581 = .ok (.if_icmp .ne 50, 3) := by decide +kernel
theorem dL_steps_584 : decode cL_steps 584 = .ok (.aload_n 0, 1) := by decide +kernel
theorem dL_steps_585 : decode cL_steps 585 = .ok (.iconst 2, 1) := by decide +kernel
theorem dL_steps_586 : decode cL_steps 586 = .ok (.iconst 3, 1) := by decide +kernel
theorem dL_steps_587 : decode cL_steps 587 = .ok (.iconst 0, 1) := by decide +kernel
theorem dL_steps_588 : decode cL_steps 588 = .ok (.iconst 0, 1) := by decide +kernel
theorem dL_steps_589 : decode cL_steps 589 = .ok (.invokestatic 146, 3) := by decide +kernel
theorem dL_steps_592 : decode cL_steps 592 = .ok (.iload 7, 2) := by decide +kernel
theorem dL_steps_594 : decode cL_steps 594 = .ok (.if_icmp .ne 37, 3) := by decide +kernel
theorem dL_steps_597 : decode cL_steps 597 = .ok (.aload_n 0, 1) := by decide +kernel
theorem dL_steps_598 : decode cL_steps 598 = .ok (.bipush 11, 2) := by decide +kernel
theorem dL_steps_600 : decode cL_steps 600 = .ok (.iconst 0, 1) := by decide +kernel
theorem dL_steps_601 : decode cL_steps 601 = .ok (.iconst 0, 1) := by decide +kernel
theorem dL_steps_602 : decode cL_steps 602 = .ok (.iconst 0, 1) := by decide +kernel
theorem dL_steps_603 : decode cL_steps 603 = .ok (.invokestatic 146, 3) := by decide +kernel
theorem dL_steps_606 : decode cL_steps 606 = .ok (.invokestatic 202, 3) := by decide +kernel
theorem dL_steps_609 : decode cL_steps 609 = .ok (.ifCond .ne 22, 3) := by decide +kernel
theorem dL_steps_612 : decode cL_steps 612 = .ok (.aload_n 1, 1) := by decide +kernel
theorem dL_steps_613 : decode cL_steps 613 = .ok (.bipush 11, 2) := by decide +kernel
theorem dL_steps_615 : decode cL_steps 615 = .ok (.iconst 0, 1) := by decide +kernel
theorem dL_steps_616 : decode cL_steps 616 = .ok (.iconst 0, 1) := by decide +kernel
theorem dL_steps_617 : decode cL_steps 617 = .ok (.iconst 0, 1) := by decide +kernel
theorem dL_steps_618 : decode cL_steps 618 = .ok (.invokestatic 146, 3) := by decide +kernel
theorem dL_steps_621 : decode cL_steps 621 = .ok (.invokestatic 202, 3) := by decide +kernel
theorem dL_steps_624 : decode cL_steps 624 = .ok (.ifCond .ne 7, 3) := by decide +kernel
theorem dL_steps_627 : decode cL_steps 627 = .ok (.iconst 1, 1) := by decide +kernel
theorem dL_steps_628 : decode cL_steps 628 = .ok (.goto 4, 3) := by decide +kernel
theorem dL_steps_631 : decode cL_steps 631 = .ok (.iconst 0, 1) := by decide +kernel
theorem dL_steps_632 : decode cL_steps 632 = .ok (.istore 10, 2) := by decide +kernel
theorem dL_steps_634 : decode cL_steps 634 = .ok (.iinc 11 1, 3) := by decide +kernel
theorem dL_steps_637 : decode cL_steps 637 = .ok (.goto (-559), 3) := by decide +kernel
theorem dL_steps_640 : decode cL_steps 640 = .ok (.iload 10, 2) := by decide +kernel
theorem dL_steps_642 : decode cL_steps 642 = .ok (.ifCond .eq 59, 3) := by decide +kernel
theorem dL_steps_645 : decode cL_steps 645 = .ok (.iload 4, 2) := by decide +kernel
theorem dL_steps_647 : decode cL_steps 647 = .ok (.iconst (-1), 1) := by decide +kernel
theorem dL_steps_648 : decode cL_steps 648 = .ok (.if_icmp .ne 10, 3) := by decide +kernel
theorem dL_steps_651 : decode cL_steps 651 = .ok (.aload_n 0, 1) := by decide +kernel
theorem dL_steps_652 : decode cL_steps 652 = .ok (.invokestatic 206, 3) := by decide +kernel
theorem dL_steps_655 : decode cL_steps 655 = .ok (.ifCond .eq 46, 3) := by decide +kernel
theorem dL_steps_658 : decode cL_steps 658 = .ok (.aload_n 0, 1) := by decide +kernel
theorem dL_steps_659 : decode cL_steps 659 = .ok (.iconst 3, 1) := by decide +kernel
theorem dL_steps_660 : decode cL_steps 660 = .ok (.iload_n 3, 1) := by decide +kernel
theorem dL_steps_661 : decode cL_steps 661 = .ok (.iconst 1, 1) := by decide +kernel
theorem dL_steps_662 : decode cL_steps 662 = .ok (.iconst 0, 1) := by decide +kernel
theorem dL_steps_663 : decode cL_steps 663 = .ok (.invokestatic 146, 3) := by decide +kernel
theorem dL_steps_666 : decode cL_steps 666 = .ok (.iload 6, 2) := by decide +kernel
theorem dL_steps_668 : decode cL_steps 668 = .ok (.if_icmp .ne 33, 3) := by decide +kernel
theorem dL_steps_671 : decode cL_steps 671 = .ok (.aload_n 0, 1) := by decide +kernel
theorem dL_steps_672 : decode cL_steps 672 = .ok (.iconst 3, 1) := by decide +kernel
theorem dL_steps_673 : decode cL_steps 673 = .ok (.iload_n 3, 1) := by decide +kernel
theorem dL_steps_674 : decode cL_steps 674 = .ok (.iconst 2, 1) := by decide +kernel
theorem dL_steps_675 : decode cL_steps 675 = .ok (.iconst 0, 1) := by decide +kernel
theorem dL_steps_676 : decode cL_steps 676 = .ok (.invokestatic 146, 3) := by decide +kernel
theorem dL_steps_679 : decode cL_steps 679 = .ok (.iload 5, 2) := by decide +kernel
theorem dL_steps_681 : decode cL_steps 681 = .ok (.if_icmp .ne 20, 3) := by decide +kernel
theorem dL_steps_684 : decode cL_steps 684 = .ok (.aload_n 0, 1) := by decide +kernel
theorem dL_steps_685 : decode cL_steps 685 = .ok (.iconst 2, 1) := by decide +kernel
theorem dL_steps_686 : decode cL_steps 686 = .ok (.iconst 3, 1) := by decide +kernel
theorem dL_steps_687 : decode cL_steps 687 = .ok (.iconst 0, 1) := by decide +kernel
theorem dL_steps_688 : decode cL_steps 688 = .ok (.iconst 0, 1) := by decide +kernel
theorem dL_steps_689 : decode cL_steps 689 = .ok (.invokestatic 146, 3) := by decide +kernel
theorem dL_steps_692 : decode cL_steps 692 = .ok (.iload 7, 2) := by decide +kernel
theorem dL_steps_694 : decode cL_steps 694 = .ok (.if_icmp .ne 7, 3) := by decide +kernel
theorem dL_steps_697 : decode cL_steps 697 = .ok (.iconst 1, 1) := by decide +kernel
theorem dL_steps_698 : decode cL_steps 698 = .ok (.goto 4, 3) := by decide +kernel
theorem dL_steps_701 : decode cL_steps 701 = .ok (.iconst 0, 1) := by decide +kernel
theorem dL_steps_702 : decode cL_steps 702 = .ok (.ireturn, 1) := by decide +kernel
