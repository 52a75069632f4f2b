/-! THE LAW'S call -/
set_option maxRecDepth 20000 in
theorem ggL_call_L_tryAppend : GoodIn wsL_call wsL_tryAppend := goodIn_ca (goodIn_ca (goodIn_r _ [4, 5, 6, 7, 8, 9, 10, 11, 12, 13, 14, 15, 16, 17, 18, 19, 20, 21, 22, 23, 24, 25, 26, 27, 28, 29, 519, 520, 521, 522, 523, 524, 525, 526, 527] (by decide +kernel) (by decide +kernel)) (goodIn_sub (fun _ h => List.mem_cons_of_mem _ (List.mem_append_left _ (List.mem_append_left _ (List.mem_append_right _ h)))) (by decide +kernel))) (goodIn_sub (fun _ h => List.mem_cons_of_mem _ (List.mem_append_left _ (List.mem_append_right _ h))) (by decide +kernel))
set_option maxRecDepth 20000 in
theorem gL_call_L_tryAppend : GoodIn wsL_call (va_wsS RL 84 yL_tryAppend wsL_tryAppend) := goodIn_app (goodIn_of _ (by decide +kernel)) ggL_call_L_tryAppend
set_option maxRecDepth 20000 in
theorem ggL_call_L_tryLoad : GoodIn wsL_call wsL_tryLoad := goodIn_ca (goodIn_r _ [32, 6, 8, 33, 34, 35, 12, 36, 16, 17, 18, 37, 38, 39, 40, 41, 42, 43, 44, 45, 22, 46, 24, 47, 48, 49, 50, 29, 51, 52, 53, 54, 55, 56, 57, 58, 59, 60, 61, 62, 63, 64, 65, 66, 67, 68, 69, 70, 71, 72, 73, 74, 75, 76, 77, 78, 79, 80, 81, 82, 83, 84, 85, 86, 87, 88, 89, 90, 91, 92, 93, 94, 95, 96, 97, 98, 99, 100, 101, 102, 103, 104, 105, 106, 107, 108, 109, 110, 111, 112, 113, 114, 115, 116, 117, 118, 119, 120, 121, 122, 123, 124, 125, 126, 127, 128, 129, 130, 131, 132, 133, 134, 135, 136, 137, 138, 139, 140, 141, 142, 143, 144, 145, 146, 147, 148, 149, 150, 151, 152, 153, 154, 155, 156, 157, 158, 159, 160, 161, 162, 163, 164, 165, 166, 167, 168, 169, 170, 171, 172, 173, 174, 175, 176, 177, 178, 179, 180, 181, 182, 183, 184, 185, 186, 187, 188, 189, 190, 191, 192, 193, 194, 195, 196, 197, 198, 199, 200, 201, 202, 203, 204, 205, 206, 207, 208, 209, 210, 211, 212, 213, 214, 215, 216, 217, 218, 219, 220, 221, 222, 223, 224, 225, 226, 227, 228, 229, 230, 231, 232, 233, 234, 235, 236, 237, 238, 239, 240, 241, 242, 243, 244, 245, 246, 247, 248, 249, 250, 251, 252, 253, 254, 255, 256, 257, 258, 259, 260, 261, 262, 263, 264, 265, 266, 267, 268, 269, 270, 271, 272, 273, 274, 275, 276, 277, 278, 279, 280, 281, 282, 283, 284, 285, 286, 287, 288, 289, 290, 291, 292, 293, 294, 295, 296, 297, 298, 299, 300, 301, 302, 519, 520, 521, 522, 523, 524, 525, 528, 529, 526, 527, 530, 531, 532, 533, 534, 535, 536, 537, 538, 539, 540, 541, 542, 543, 544, 545, 546, 547, 548, 549, 550, 551, 552, 553, 554, 555, 556, 557, 558] (by decide +kernel) (by decide +kernel)) (goodIn_sub (fun _ h => List.mem_cons_of_mem _ (List.mem_append_left _ (List.mem_append_right _ h))) (by decide +kernel))
set_option maxRecDepth 20000 in
theorem gL_call_L_tryLoad : GoodIn wsL_call (va_wsS RL 90 yL_tryLoad wsL_tryLoad) := goodIn_app (goodIn_of _ (by decide +kernel)) ggL_call_L_tryLoad
set_option maxRecDepth 20000 in
theorem ggL_call_L_tryAbout : GoodIn wsL_call wsL_tryAbout := goodIn_ca (goodIn_r _ [305, 5, 7, 306, 307, 308, 12, 309, 14, 15, 37, 310, 311, 312, 313, 314, 315, 316, 317, 145, 146, 68, 147, 86, 84, 318, 141, 142, 143, 144, 319, 320, 321, 322, 83, 519, 520, 521, 522, 523, 524, 525, 530, 531, 532, 533, 534, 535, 536, 537, 538, 539, 540, 541] (by decide +kernel) (by decide +kernel)) (goodIn_sub (fun _ h => List.mem_cons_of_mem _ (List.mem_append_left _ (List.mem_append_left _ (List.mem_append_right _ h)))) (by decide +kernel))
set_option maxRecDepth 20000 in
theorem gL_call_L_tryAbout : GoodIn wsL_call (va_wsS RL 94 yL_tryAbout wsL_tryAbout) := goodIn_app (goodIn_of _ (by decide +kernel)) ggL_call_L_tryAbout
set_option maxRecDepth 20000 in
theorem ggL_call_L_tryPlayer : GoodIn wsL_call wsL_tryPlayer := goodIn_ca (goodIn_ca (goodIn_r _ [325, 326, 5, 327, 7, 328, 329, 330, 12, 331, 332, 333, 14, 15, 37, 334, 335, 336, 337, 338, 339, 340, 341, 342, 153, 154, 68, 155, 75, 78, 343, 157, 158, 106, 159, 109, 116, 519, 520, 521, 522, 523, 524, 525, 542, 543, 544, 545, 546, 547, 548, 549, 530, 531, 532, 533, 534, 535, 536, 537, 538, 539, 540, 541] (by decide +kernel) (by decide +kernel)) (goodIn_sub (fun _ h => List.mem_cons_of_mem _ (List.mem_append_right _ h)) (by decide +kernel))) (goodIn_sub (fun _ h => List.mem_cons_of_mem _ (List.mem_append_left _ (List.mem_append_left _ (List.mem_append_right _ h)))) (by decide +kernel))
set_option maxRecDepth 20000 in
theorem gL_call_L_tryPlayer : GoodIn wsL_call (va_wsS RL 97 yL_tryPlayer wsL_tryPlayer) := goodIn_app (goodIn_of _ (by decide +kernel)) ggL_call_L_tryPlayer
set_option maxRecDepth 20000 in
theorem ggL_call_L_tryCell : GoodIn wsL_call wsL_tryCell := goodIn_ca (goodIn_ca (goodIn_r _ [346, 326, 5, 327, 7, 347, 348, 349, 12, 350, 332, 333, 14, 15, 37, 351, 352, 163, 164, 165, 353, 185, 186, 106, 187, 188, 354, 209, 210, 68, 211, 75, 78, 166, 167, 168, 169, 83, 117, 118, 170, 171, 172, 173, 108, 355, 356, 357, 358, 519, 520, 521, 522, 523, 524, 525, 530, 531, 532, 533, 534, 535, 536, 537, 538, 539, 540, 541, 542, 543, 544, 545, 546, 547, 548, 549] (by decide +kernel) (by decide +kernel)) (goodIn_sub (fun _ h => List.mem_cons_of_mem _ (List.mem_append_right _ h)) (by decide +kernel))) (goodIn_sub (fun _ h => List.mem_cons_of_mem _ (List.mem_append_left _ (List.mem_append_left _ (List.mem_append_right _ h)))) (by decide +kernel))
set_option maxRecDepth 20000 in
theorem gL_call_L_tryCell : GoodIn wsL_call (va_wsS RL 101 yL_tryCell wsL_tryCell) := goodIn_app (goodIn_of _ (by decide +kernel)) ggL_call_L_tryCell
set_option maxRecDepth 20000 in
theorem ggL_call_L_tryCourse : GoodIn wsL_call wsL_tryCourse := goodIn_ca (goodIn_r _ [361, 326, 327, 362, 363, 364, 12, 365, 332, 333, 37, 339, 340, 341, 342, 153, 154, 68, 155, 75, 78, 366, 367, 368, 106, 369, 109, 116, 117, 118, 519, 520, 521, 522, 523, 524, 525, 530, 531, 532, 533, 534, 535, 536, 537, 538, 539, 540, 541, 542, 543, 544, 545, 546, 547, 548, 549] (by decide +kernel) (by decide +kernel)) (goodIn_sub (fun _ h => List.mem_cons_of_mem _ (List.mem_append_right _ h)) (by decide +kernel))
set_option maxRecDepth 20000 in
theorem gL_call_L_tryCourse : GoodIn wsL_call (va_wsS RL 105 yL_tryCourse wsL_tryCourse) := goodIn_app (goodIn_of _ (by decide +kernel)) ggL_call_L_tryCourse
set_option maxRecDepth 20000 in
theorem ggL_call_L_trySetting : GoodIn wsL_call wsL_trySetting := goodIn_ca (goodIn_r _ [372, 5, 7, 373, 374, 375, 12, 376, 14, 15, 37, 377, 299, 300, 68, 301, 70, 71, 519, 520, 521, 522, 523, 524, 525, 530, 531, 532, 533, 534, 535, 536, 537, 538, 539, 540, 541] (by decide +kernel) (by decide +kernel)) (goodIn_sub (fun _ h => List.mem_cons_of_mem _ (List.mem_append_left _ (List.mem_append_left _ (List.mem_append_right _ h)))) (by decide +kernel))
set_option maxRecDepth 20000 in
theorem gL_call_L_trySetting : GoodIn wsL_call (va_wsS RL 108 yL_trySetting wsL_trySetting) := goodIn_app (goodIn_of _ (by decide +kernel)) ggL_call_L_trySetting
set_option maxRecDepth 20000 in
theorem ggL_call_L_tryStep : GoodIn wsL_call wsL_tryStep := goodIn_ca (goodIn_ca (goodIn_r _ [380, 5, 6, 7, 8, 381, 382, 383, 12, 384, 14, 15, 16, 17, 37, 38, 385, 386, 387, 318, 141, 142, 68, 143, 144, 145, 146, 147, 86, 84, 388, 389, 390, 122, 391, 392, 124, 393, 394, 395, 396, 397, 398, 399, 400, 401, 402, 403, 404, 405, 75, 78, 83, 70, 71, 72, 85, 87, 73, 74, 406, 407, 408, 106, 409, 188, 116, 108, 109, 110, 111, 410, 193, 411, 412, 413, 414, 415, 416, 148, 149, 150, 151, 152, 153, 154, 155, 156, 157, 158, 159, 160, 161, 162, 117, 118, 163, 164, 165, 166, 167, 168, 169, 170, 171, 172, 173, 174, 175, 176, 177, 178, 113, 114, 115, 179, 180, 181, 182, 183, 76, 184, 185, 186, 187, 189, 190, 191, 192, 194, 195, 196, 197, 519, 520, 521, 522, 523, 524, 525, 530, 531, 532, 533, 534, 535, 536, 537, 538, 539, 540, 541, 550, 551, 552, 542, 543, 544, 545, 546, 547, 548, 549] (by decide +kernel) (by decide +kernel)) (goodIn_sub (fun _ h => List.mem_cons_of_mem _ (List.mem_append_left _ (List.mem_append_left _ (List.mem_append_right _ h)))) (by decide +kernel))) (goodIn_sub (fun _ h => List.mem_cons_of_mem _ (List.mem_append_left _ (List.mem_append_right _ h))) (by decide +kernel))
set_option maxRecDepth 20000 in
theorem gL_call_L_tryStep : GoodIn wsL_call (va_wsS RL 111 yL_tryStep wsL_tryStep) := goodIn_app (goodIn_of _ (by decide +kernel)) ggL_call_L_tryStep
set_option maxRecDepth 20000 in
theorem ggL_call_L_tryDam : GoodIn wsL_call wsL_tryDam := goodIn_ca (goodIn_ca (goodIn_r _ [419, 326, 6, 327, 8, 420, 421, 422, 12, 423, 332, 333, 16, 17, 37, 38, 129, 163, 164, 165, 318, 141, 142, 68, 143, 144, 145, 146, 147, 86, 84, 388, 389, 390, 122, 391, 392, 124, 393, 394, 395, 396, 397, 398, 399, 400, 401, 402, 403, 404, 405, 75, 78, 83, 70, 71, 72, 85, 87, 73, 74, 406, 407, 408, 106, 409, 188, 116, 108, 109, 110, 111, 410, 193, 411, 412, 424, 425, 426, 427, 203, 204, 205, 206, 207, 208, 209, 210, 211, 166, 167, 168, 169, 117, 118, 170, 171, 172, 173, 152, 153, 154, 155, 212, 213, 214, 215, 216, 217, 218, 219, 220, 221, 222, 223, 224, 225, 226, 157, 158, 159, 227, 228, 229, 230, 231, 232, 233, 234, 235, 236, 237, 238, 239, 240, 241, 242, 194, 195, 196, 197, 519, 520, 521, 522, 523, 524, 525, 530, 531, 532, 533, 534, 535, 536, 537, 538, 539, 540, 541, 550, 551, 552, 542, 543, 544, 545, 546, 547, 548, 549, 553, 554, 555, 556, 557, 558] (by decide +kernel) (by decide +kernel)) (goodIn_sub (fun _ h => List.mem_cons_of_mem _ (List.mem_append_right _ h)) (by decide +kernel))) (goodIn_sub (fun _ h => List.mem_cons_of_mem _ (List.mem_append_left _ (List.mem_append_right _ h))) (by decide +kernel))
set_option maxRecDepth 20000 in
theorem gL_call_L_tryDam : GoodIn wsL_call (va_wsS RL 114 yL_tryDam wsL_tryDam) := goodIn_app (goodIn_of _ (by decide +kernel)) ggL_call_L_tryDam
set_option maxRecDepth 20000 in
theorem ggL_call_L_tryFlood : GoodIn wsL_call wsL_tryFlood := goodIn_ca (goodIn_r _ [430, 6, 8, 431, 432, 433, 12, 434, 16, 17, 37, 38, 435, 248, 249, 68, 250, 140, 141, 142, 143, 144, 145, 146, 147, 86, 84, 148, 149, 150, 151, 85, 152, 153, 154, 155, 75, 78, 156, 157, 158, 106, 159, 109, 116, 160, 161, 162, 117, 118, 163, 164, 165, 166, 167, 168, 169, 83, 170, 171, 172, 173, 108, 388, 389, 390, 122, 391, 392, 124, 393, 394, 395, 396, 397, 398, 399, 400, 401, 402, 403, 404, 405, 70, 71, 72, 87, 73, 74, 406, 407, 408, 409, 188, 110, 111, 410, 193, 411, 412, 436, 252, 253, 254, 189, 190, 191, 192, 194, 195, 196, 197, 519, 520, 521, 522, 523, 524, 525, 530, 531, 532, 533, 534, 535, 536, 537, 538, 539, 540, 541, 542, 543, 544, 545, 546, 547, 548, 549, 550, 551, 552] (by decide +kernel) (by decide +kernel)) (goodIn_sub (fun _ h => List.mem_cons_of_mem _ (List.mem_append_left _ (List.mem_append_right _ h))) (by decide +kernel))
set_option maxRecDepth 20000 in
theorem gL_call_L_tryFlood : GoodIn wsL_call (va_wsS RL 117 yL_tryFlood wsL_tryFlood) := goodIn_app (goodIn_of _ (by decide +kernel)) ggL_call_L_tryFlood
set_option maxRecDepth 20000 in
theorem ggL_call_L_tryLay : GoodIn wsL_call wsL_tryLay := goodIn_ca (goodIn_r _ [439, 5, 7, 440, 441, 442, 12, 443, 14, 15, 38, 37, 444, 292, 293, 388, 389, 390, 122, 391, 392, 124, 393, 394, 395, 396, 397, 398, 399, 400, 401, 402, 403, 404, 68, 405, 75, 78, 83, 70, 71, 72, 84, 85, 86, 87, 73, 74, 406, 407, 408, 106, 409, 188, 116, 108, 109, 110, 111, 410, 193, 411, 412, 445, 295, 296, 297, 298, 299, 300, 301, 519, 520, 521, 522, 523, 524, 525, 550, 551, 552, 530, 531, 532, 533, 534, 535, 536, 537, 538, 539, 540, 541, 542, 543, 544, 545, 546, 547, 548, 549] (by decide +kernel) (by decide +kernel)) (goodIn_sub (fun _ h => List.mem_cons_of_mem _ (List.mem_append_left _ (List.mem_append_left _ (List.mem_append_right _ h)))) (by decide +kernel))
set_option maxRecDepth 20000 in
theorem gL_call_L_tryLay : GoodIn wsL_call (va_wsS RL 120 yL_tryLay wsL_tryLay) := goodIn_app (goodIn_of _ (by decide +kernel)) ggL_call_L_tryLay
set_option maxRecDepth 20000 in
theorem ggL_call_L_tryUndo : GoodIn wsL_call wsL_tryUndo := goodIn_ca (goodIn_r _ [448, 6, 8, 449, 450, 451, 12, 452, 16, 17, 38, 453, 37, 454, 455, 456, 122, 457, 392, 124, 397, 398, 399, 400, 401, 402, 403, 404, 68, 405, 75, 78, 83, 70, 71, 72, 84, 85, 86, 87, 73, 74, 406, 407, 408, 106, 409, 188, 116, 108, 109, 110, 111, 410, 193, 411, 412, 519, 520, 521, 522, 523, 524, 525, 550, 551, 552, 530, 531, 532, 533, 534, 535, 536, 537, 538, 539, 540, 541, 542, 543, 544, 545, 546, 547, 548, 549] (by decide +kernel) (by decide +kernel)) (goodIn_sub (fun _ h => List.mem_cons_of_mem _ (List.mem_append_left _ (List.mem_append_right _ h))) (by decide +kernel))
set_option maxRecDepth 20000 in
theorem gL_call_L_tryUndo : GoodIn wsL_call (va_wsS RL 123 yL_tryUndo wsL_tryUndo) := goodIn_app (goodIn_of _ (by decide +kernel)) ggL_call_L_tryUndo
set_option maxRecDepth 20000 in
theorem ggL_call_L_tryWhy : GoodIn wsL_call wsL_tryWhy := goodIn_ca (goodIn_r _ [460, 5, 7, 461, 462, 463, 12, 464, 14, 15, 37, 385, 386, 387, 318, 141, 142, 68, 143, 144, 145, 146, 147, 86, 84, 465, 149, 150, 151, 85, 152, 153, 154, 155, 75, 78, 156, 157, 158, 106, 159, 109, 116, 160, 161, 162, 117, 118, 163, 164, 165, 166, 167, 168, 169, 83, 170, 171, 172, 173, 108, 519, 520, 521, 522, 523, 524, 525, 530, 531, 532, 533, 534, 535, 536, 537, 538, 539, 540, 541, 542, 543, 544, 545, 546, 547, 548, 549] (by decide +kernel) (by decide +kernel)) (goodIn_sub (fun _ h => List.mem_cons_of_mem _ (List.mem_append_left _ (List.mem_append_left _ (List.mem_append_right _ h)))) (by decide +kernel))
set_option maxRecDepth 20000 in
theorem gL_call_L_tryWhy : GoodIn wsL_call (va_wsS RL 126 yL_tryWhy wsL_tryWhy) := goodIn_app (goodIn_of _ (by decide +kernel)) ggL_call_L_tryWhy
set_option maxRecDepth 20000 in
theorem ggL_call_L_tryWhyDam : GoodIn wsL_call wsL_tryWhyDam := goodIn_ca (goodIn_r _ [468, 326, 327, 469, 470, 471, 12, 472, 332, 333, 37, 129, 163, 164, 165, 318, 141, 142, 68, 143, 144, 145, 146, 147, 86, 84, 473, 204, 205, 206, 85, 207, 208, 209, 210, 211, 75, 78, 166, 167, 168, 169, 83, 117, 118, 170, 171, 172, 106, 173, 108, 152, 153, 154, 155, 212, 213, 214, 215, 216, 217, 218, 219, 220, 221, 222, 223, 224, 225, 226, 157, 158, 159, 109, 116, 227, 228, 229, 230, 231, 232, 233, 234, 235, 236, 237, 238, 519, 520, 521, 522, 523, 524, 525, 530, 531, 532, 533, 534, 535, 536, 537, 538, 539, 540, 541, 542, 543, 544, 545, 546, 547, 548, 549, 553, 554, 555, 556, 557, 558] (by decide +kernel) (by decide +kernel)) (goodIn_sub (fun _ h => List.mem_cons_of_mem _ (List.mem_append_right _ h)) (by decide +kernel))
set_option maxRecDepth 20000 in
theorem gL_call_L_tryWhyDam : GoodIn wsL_call (va_wsS RL 129 yL_tryWhyDam wsL_tryWhyDam) := goodIn_app (goodIn_of _ (by decide +kernel)) ggL_call_L_tryWhyDam
set_option maxRecDepth 20000 in
theorem ggL_call_L_tryCheap : GoodIn wsL_call wsL_tryCheap := goodIn_ca (goodIn_ca (goodIn_r _ [476, 326, 5, 327, 7, 477, 478, 479, 12, 480, 332, 333, 14, 15, 37, 129, 481, 339, 340, 341, 342, 153, 154, 68, 155, 75, 78, 482, 262, 263, 215, 264, 217, 224, 265, 225, 266, 343, 157, 158, 106, 159, 109, 116, 483, 277, 278, 279, 218, 237, 233, 234, 235, 236, 280, 281, 282, 283, 259, 117, 118, 284, 285, 286, 287, 232, 484, 485, 486, 487, 519, 520, 521, 522, 523, 524, 525, 542, 543, 544, 545, 546, 547, 548, 549, 530, 531, 532, 533, 534, 535, 536, 537, 538, 539, 540, 541, 553, 554, 555, 556, 557, 558] (by decide +kernel) (by decide +kernel)) (goodIn_sub (fun _ h => List.mem_cons_of_mem _ (List.mem_append_right _ h)) (by decide +kernel))) (goodIn_sub (fun _ h => List.mem_cons_of_mem _ (List.mem_append_left _ (List.mem_append_left _ (List.mem_append_right _ h)))) (by decide +kernel))
set_option maxRecDepth 20000 in
theorem gL_call_L_tryCheap : GoodIn wsL_call (va_wsS RL 132 yL_tryCheap wsL_tryCheap) := goodIn_app (goodIn_of _ (by decide +kernel)) ggL_call_L_tryCheap
set_option maxRecDepth 20000 in
theorem ggL_call_L_tryMeets : GoodIn wsL_call wsL_tryMeets := goodIn_ca (goodIn_r _ [490, 326, 327, 491, 492, 493, 12, 494, 332, 333, 37, 313, 129, 339, 340, 341, 495, 496, 497, 215, 498, 218, 219, 153, 154, 68, 155, 75, 78, 220, 221, 222, 223, 217, 224, 225, 226, 157, 158, 106, 159, 109, 116, 227, 228, 229, 230, 231, 232, 233, 234, 235, 236, 237, 117, 118, 238, 171, 172, 173, 108, 519, 520, 521, 522, 523, 524, 525, 530, 531, 532, 533, 534, 535, 536, 537, 538, 539, 540, 541, 553, 554, 555, 556, 557, 558, 542, 543, 544, 545, 546, 547, 548, 549] (by decide +kernel) (by decide +kernel)) (goodIn_sub (fun _ h => List.mem_cons_of_mem _ (List.mem_append_right _ h)) (by decide +kernel))
set_option maxRecDepth 20000 in
theorem gL_call_L_tryMeets : GoodIn wsL_call (va_wsS RL 135 yL_tryMeets wsL_tryMeets) := goodIn_app (goodIn_of _ (by decide +kernel)) ggL_call_L_tryMeets
set_option maxRecDepth 20000 in
theorem ggL_call_L_tryKeep : GoodIn wsL_call wsL_tryKeep := goodIn_ca (goodIn_r _ [501, 326, 327, 502, 503, 504, 12, 505, 332, 333, 506, 37, 40, 312, 507, 508, 509, 510, 39, 41, 511, 403, 404, 68, 405, 75, 78, 83, 70, 71, 72, 84, 85, 86, 87, 73, 74, 406, 407, 408, 106, 409, 188, 116, 108, 109, 110, 111, 410, 193, 411, 412, 528, 529, 519, 520, 521, 522, 523, 524, 525, 530, 531, 532, 533, 534, 535, 536, 537, 538, 539, 540, 541, 542, 543, 544, 545, 546, 547, 548, 549] (by decide +kernel) (by decide +kernel)) (goodIn_sub (fun _ h => List.mem_cons_of_mem _ (List.mem_append_right _ h)) (by decide +kernel))
set_option maxRecDepth 20000 in
theorem gL_call_L_tryKeep : GoodIn wsL_call (va_wsS RL 138 yL_tryKeep wsL_tryKeep) := goodIn_app (goodIn_of _ (by decide +kernel)) ggL_call_L_tryKeep
set_option maxRecDepth 20000 in
theorem ggL_call_L_tryBack : GoodIn wsL_call wsL_tryBack := goodIn_ca (goodIn_ca (goodIn_r _ [514, 326, 6, 327, 8, 515, 516, 517, 12, 518, 332, 333, 16, 17, 40, 37, 506, 38, 312, 507, 508, 509, 510, 39, 41, 511, 403, 404, 68, 405, 75, 78, 83, 70, 71, 72, 84, 85, 86, 87, 73, 74, 406, 407, 408, 106, 409, 188, 116, 108, 109, 110, 111, 410, 193, 411, 412, 119, 120, 121, 122, 123, 124, 528, 529, 519, 520, 521, 522, 523, 524, 525, 530, 531, 532, 533, 534, 535, 536, 537, 538, 539, 540, 541, 542, 543, 544, 545, 546, 547, 548, 549, 550, 551, 552] (by decide +kernel) (by decide +kernel)) (goodIn_sub (fun _ h => List.mem_cons_of_mem _ (List.mem_append_right _ h)) (by decide +kernel))) (goodIn_sub (fun _ h => List.mem_cons_of_mem _ (List.mem_append_left _ (List.mem_append_right _ h))) (by decide +kernel))
set_option maxRecDepth 20000 in
theorem gL_call_L_tryBack : GoodIn wsL_call (va_wsS RL 141 yL_tryBack wsL_tryBack) := goodIn_app (goodIn_of _ (by decide +kernel)) ggL_call_L_tryBack
theorem dL_call_0 : decode cL_call 0 = .ok (.iload_n 1, 1) := by decide +kernel
theorem dL_call_1 : decode cL_call 1 = .ok (.tableswitch 191 0 16 #[83, 89, 94, 100, 107, 116, 123, 129, 135, 142, 147, 154, 159, 165, 172, 179, 185], 83) := by decide +kernel
theorem dL_call_84 : decode cL_call 84 = .ok (.aload_n 0, 1) := by decide +kernel
theorem dL_call_85 : decode cL_call 85 = .ok (.iload_n 2, 1) := by decide +kernel
theorem dL_call_86 : decode cL_call 86 = .ok (.invokestatic 84, 3) := by decide +kernel
theorem dL_call_89 : decode cL_call 89 = .ok (.ireturn, 1) := by decide +kernel
theorem dL_call_90 : decode cL_call 90 = .ok (.aload_n 0, 1) := by decide +kernel
theorem dL_call_91 : decode cL_call 91 = .ok (.invokestatic 90, 3) := by decide +kernel
theorem dL_call_94 : decode cL_call 94 = .ok (.ireturn, 1) := by decide +kernel
theorem dL_call_95 : decode cL_call 95 = .ok (.aload_n 0, 1) := by decide +kernel
theorem dL_call_96 : decode cL_call 96 = .ok (.iload_n 2, 1) := by decide +kernel
theorem dL_call_97 : decode cL_call 97 = .ok (.invokestatic 94, 3) := by decide +kernel
theorem dL_call_100 : decode cL_call 100 = .ok (.ireturn, 1) := by decide +kernel
theorem dL_call_101 : decode cL_call 101 = .ok (.aload_n 0, 1) := by decide +kernel
theorem dL_call_102 : decode cL_call 102 = .ok (.iload_n 2, 1) := by decide +kernel
theorem dL_call_103 : decode cL_call 103 = .ok (.iload_n 3, 1) := by decide +kernel
theorem dL_call_104 : decode cL_call 104 = .ok (.invokestatic 97, 3) := by decide +kernel
theorem dL_call_107 : decode cL_call 107 = .ok (.ireturn, 1) := by decide +kernel
theorem dL_call_108 : decode cL_call 108 = .ok (.aload_n 0, 1) := by decide +kernel
theorem dL_call_109 : decode cL_call 109 = .ok (.iload_n 2, 1) := by decide +kernel
theorem dL_call_110 : decode cL_call 110 = .ok (.iload_n 3, 1) := by decide +kernel
theorem dL_call_111 : decode cL_call 111 = .ok (.iload 4, 2) := by decide +kernel
theorem dL_call_113 : decode cL_call 113 = .ok (.invokestatic 101, 3) := by decide +kernel
theorem dL_call_116 : decode cL_call 116 = .ok (.ireturn, 1) := by decide +kernel
theorem dL_call_117 : decode cL_call 117 = .ok (.aload_n 0, 1) := by decide +kernel
theorem dL_call_118 : decode cL_call 118 = .ok (.iload_n 2, 1) := by decide +kernel
theorem dL_call_119 : decode cL_call 119 = .ok (.iload_n 3, 1) := by decide +kernel
theorem dL_call_120 : decode cL_call 120 = .ok (.invokestatic 105, 3) := by decide +kernel
theorem dL_call_123 : decode cL_call 123 = .ok (.ireturn, 1) := by decide +kernel
theorem dL_call_124 : decode cL_call 124 = .ok (.aload_n 0, 1) := by decide +kernel
theorem dL_call_125 : decode cL_call 125 = .ok (.iload_n 2, 1) := by decide +kernel
theorem dL_call_126 : decode cL_call 126 = .ok (.invokestatic 108, 3) := by decide +kernel
theorem dL_call_129 : decode cL_call 129 = .ok (.ireturn, 1) := by decide +kernel
theorem dL_call_130 : decode cL_call 130 = .ok (.aload_n 0, 1) := by decide +kernel
theorem dL_call_131 : decode cL_call 131 = .ok (.iload_n 2, 1) := by decide +kernel
theorem dL_call_132 : decode cL_call 132 = .ok (.invokestatic 111, 3) := by decide +kernel
theorem dL_call_135 : decode cL_call 135 = .ok (.ireturn, 1) := by decide +kernel
theorem dL_call_136 : decode cL_call 136 = .ok (.aload_n 0, 1) := by decide +kernel
theorem dL_call_137 : decode cL_call 137 = .ok (.iload_n 2, 1) := by decide +kernel
theorem dL_call_138 : decode cL_call 138 = .ok (.iload_n 3, 1) := by decide +kernel
theorem dL_call_139 : decode cL_call 139 = .ok (.invokestatic 114, 3) := by decide +kernel
theorem dL_call_142 : decode cL_call 142 = .ok (.ireturn, 1) := by decide +kernel
theorem dL_call_143 : decode cL_call 143 = .ok (.aload_n 0, 1) := by decide +kernel
theorem dL_call_144 : decode cL_call 144 = .ok (.invokestatic 117, 3) := by decide +kernel
theorem dL_call_147 : decode cL_call 147 = .ok (.ireturn, 1) := by decide +kernel
theorem dL_call_148 : decode cL_call 148 = .ok (.aload_n 0, 1) := by decide +kernel
theorem dL_call_149 : decode cL_call 149 = .ok (.iload_n 2, 1) := by decide +kernel
theorem dL_call_150 : decode cL_call 150 = .ok (.iload_n 3, 1) := by decide +kernel
theorem dL_call_151 : decode cL_call 151 = .ok (.invokestatic 120, 3) := by decide +kernel
theorem dL_call_154 : decode cL_call 154 = .ok (.ireturn, 1) := by decide +kernel
theorem dL_call_155 : decode cL_call 155 = .ok (.aload_n 0, 1) := by decide +kernel
theorem dL_call_156 : decode cL_call 156 = .ok (.invokestatic 123, 3) := by decide +kernel
theorem dL_call_159 : decode cL_call 159 = .ok (.ireturn, 1) := by decide +kernel
theorem dL_call_160 : decode cL_call 160 = .ok (.aload_n 0, 1) := by decide +kernel
theorem dL_call_161 : decode cL_call 161 = .ok (.iload_n 2, 1) := by decide +kernel
theorem dL_call_162 : decode cL_call 162 = .ok (.invokestatic 126, 3) := by decide +kernel
theorem dL_call_165 : decode cL_call 165 = .ok (.ireturn, 1) := by decide +kernel
theorem dL_call_166 : decode cL_call 166 = .ok (.aload_n 0, 1) := by decide +kernel
theorem dL_call_167 : decode cL_call 167 = .ok (.iload_n 2, 1) := by decide +kernel
theorem dL_call_168 : decode cL_call 168 = .ok (.iload_n 3, 1) := by decide +kernel
theorem dL_call_169 : decode cL_call 169 = .ok (.invokestatic 129, 3) := by decide +kernel
theorem dL_call_172 : decode cL_call 172 = .ok (.ireturn, 1) := by decide +kernel
theorem dL_call_173 : decode cL_call 173 = .ok (.aload_n 0, 1) := by decide +kernel
theorem dL_call_174 : decode cL_call 174 = .ok (.iload_n 2, 1) := by decide +kernel
theorem dL_call_175 : decode cL_call 175 = .ok (.iload_n 3, 1) := by decide +kernel
theorem dL_call_176 : decode cL_call 176 = .ok (.invokestatic 132, 3) := by decide +kernel
theorem dL_call_179 : decode cL_call 179 = .ok (.ireturn, 1) := by decide +kernel
theorem dL_call_180 : decode cL_call 180 = .ok (.aload_n 0, 1) := by decide +kernel
theorem dL_call_181 : decode cL_call 181 = .ok (.iload_n 2, 1) := by decide +kernel
theorem dL_call_182 : decode cL_call 182 = .ok (.invokestatic 135, 3) := by decide +kernel
theorem dL_call_185 : decode cL_call 185 = .ok (.ireturn, 1) := by decide +kernel
theorem dL_call_186 : decode cL_call 186 = .ok (.aload_n 0, 1) := by decide +kernel
theorem dL_call_187 : decode cL_call 187 = .ok (.iload_n 2, 1) := by decide +kernel
theorem dL_call_188 : decode cL_call 188 = .ok (.invokestatic 138, 3) := by decide +kernel
theorem dL_call_191 : decode cL_call 191 = .ok (.ireturn, 1) := by decide +kernel
theorem dL_call_192 : decode cL_call 192 = .ok (.aload_n 0, 1) := by decide +kernel
theorem dL_call_193 : decode cL_call 193 = .ok (.iload_n 2, 1) := by decide +kernel
theorem dL_call_194 : decode cL_call 194 = .ok (.invokestatic 141, 3) := by decide +kernel
theorem dL_call_197 : decode cL_call 197 = .ok (.ireturn, 1) := by decide +kernel
theorem c_call_0 (l : Launch) (hst : l.stackTraces = false) (D : va_G) (E : Nat → ClassId) (o : Nat) (S : aT) (a b c : Int32) (h0 : ¬ vp_in a 256) : Met l yL_call wsL_call (lRm 8 1 6) (lP D E [.ref o, .int 0, .int a, .int b, .int c] (Ob D E o S) (rA o)) (lQ (fun r H => r = aF 0 S a b c ∧ Ob D E o (tF 0 S a b) H) (rA o)) 1 6 (rA o) := by
  refine Met.ofW (cc := cL_call) (maxL := 5) (ret := (some .int)) (by decide) rfl ?_
  intro p e s m args below meth co s₁ B hml hv
  obtain ⟨rfl, ⟨M, hM, hB⟩, hKX, hZ, hNc⟩ := hv
  have hx := B.exec
  have hb := B.bytes
  have hr := B.returns
  have hts := atoms_spec (ws := wsL_call) B.pre
  have hown : s.vm.findClass RL = some m.cls := findClass_of_methodNamed B.named
  have hlocks := B.notSynchronized
  have hS : va_S (rA o) s.heap s.heap [] := ⟨Nat.le_refl _, fun _ _ _ => rfl, fun _ h => by cases h⟩
  have hl := lv_entry ([.ref o, .int 0, .int a, .int b, .int c]) (n := 5) (Nat.le_of_ble_eq_true rfl)
  rw [lg_entry_eq]
  generalize (lg_sl ([.ref o, .int 0, .int a, .int b, .int c]) ++ List.replicate (5 - (lg_sl ([.ref o, .int 0, .int a, .int b, .int c])).length) Slot.unset).toArray = ls at hl ⊢
  have hl : lv_has ls 5 [(0, .ref o), (1, .int 0), (2, .int a), (3, .int b), (4, .int c)] := hl
  have hok := ck_0 (a := a) (b := b) (c := c) h0 hM
  refine lv_iload_n hx hb dL_call_0 rfl (lv_at hl 1 rfl) ?_
  refine b_tabI (tgt := 84) hx hb 0 dL_call_1 (by decide) (by decide) (by decide) rfl (by decide) ?_
  refine lv_aload_n hx hb dL_call_84 rfl (lv_at hl 0 rfl) ?_
  refine lv_iload_n hx hb dL_call_85 rfl (lv_at hl 2 rfl) ?_
  refine l_goX (cells' := 1) (slots' := 6) (l_runSX (P := fun H => bk D E LRM o M H) (As := [.ref o, .int a]) (rest := []) ⟨hx, hb, hml, hown, hts⟩ (t_tryAppend l hst D E o M a (by rw [app_no h0]; exact Or.inr (Or.inl rfl))) (vx_cwSW 2 hts gL_call_L_tryAppend rfl rfl rfl (by decide +kernel) ⟨Nat.le_of_ble_eq_true rfl, Nat.le_of_ble_eq_true rfl⟩) hB hKX hZ hNc rfl hl rfl (Nat.le_of_ble_eq_true rfl) dL_call_86 ⟨Nat.le_of_ble_eq_true rfl, Nat.le_of_ble_eq_true rfl⟩) hS (fun _ h => h) ⟨Nat.le_refl _, Nat.le_refl _⟩ (fun r H1 locs hp hq hz hS => ?_)
  exact l_iret hx hb hr hlocks hS ⟨hp.1.trans hok.1, _, hok.2, hp.2⟩ ⟨Nat.le_refl _, Nat.le_refl _⟩ dL_call_89
theorem c_call_2 (l : Launch) (hst : l.stackTraces = false) (D : va_G) (E : Nat → ClassId) (o : Nat) (S : aT) (a b c : Int32) : Met l yL_call wsL_call (lRm 8 1 6) (lP D E [.ref o, .int 2, .int a, .int b, .int c] (Ob D E o S) (rA o)) (lQ (fun r H => r = aF 2 S a b c ∧ Ob D E o (tF 2 S a b) H) (rA o)) 1 6 (rA o) := by
  refine Met.ofW (cc := cL_call) (maxL := 5) (ret := (some .int)) (by decide) rfl ?_
  intro p e s m args below meth co s₁ B hml hv
  obtain ⟨rfl, ⟨M, hM, hB⟩, hKX, hZ, hNc⟩ := hv
  have hx := B.exec
  have hb := B.bytes
  have hr := B.returns
  have hts := atoms_spec (ws := wsL_call) B.pre
  have hown : s.vm.findClass RL = some m.cls := findClass_of_methodNamed B.named
  have hlocks := B.notSynchronized
  have hS : va_S (rA o) s.heap s.heap [] := ⟨Nat.le_refl _, fun _ _ _ => rfl, fun _ h => by cases h⟩
  have hl := lv_entry ([.ref o, .int 2, .int a, .int b, .int c]) (n := 5) (Nat.le_of_ble_eq_true rfl)
  rw [lg_entry_eq]
  generalize (lg_sl ([.ref o, .int 2, .int a, .int b, .int c]) ++ List.replicate (5 - (lg_sl ([.ref o, .int 2, .int a, .int b, .int c])).length) Slot.unset).toArray = ls at hl ⊢
  have hl : lv_has ls 5 [(0, .ref o), (1, .int 2), (2, .int a), (3, .int b), (4, .int c)] := hl
  have hok := ck_2 (a := a) (b := b) (c := c) hM
  refine lv_iload_n hx hb dL_call_0 rfl (lv_at hl 1 rfl) ?_
  refine b_tabI (tgt := 95) hx hb 2 dL_call_1 (by decide) (by decide) (by decide) rfl (by decide) ?_
  refine lv_aload_n hx hb dL_call_95 rfl (lv_at hl 0 rfl) ?_
  refine lv_iload_n hx hb dL_call_96 rfl (lv_at hl 2 rfl) ?_
  refine l_goX (cells' := 1) (slots' := 6) (l_runSX (P := fun H => bk D E LRM o M H) (As := [.ref o, .int a]) (rest := []) ⟨hx, hb, hml, hown, hts⟩ (t_tryAbout l hst D E o M a (okF_1 (ok_about (x1 := a) hM.1) n9_about)) (vx_cwSW 2 hts gL_call_L_tryAbout rfl rfl rfl (by decide +kernel) ⟨Nat.le_of_ble_eq_true rfl, Nat.le_of_ble_eq_true rfl⟩) hB hKX hZ hNc rfl hl rfl (Nat.le_of_ble_eq_true rfl) dL_call_97 ⟨Nat.le_of_ble_eq_true rfl, Nat.le_of_ble_eq_true rfl⟩) hS (fun _ h => h) ⟨Nat.le_refl _, Nat.le_refl _⟩ (fun r H1 locs hp hq hz hS => ?_)
  exact l_iret hx hb hr hlocks hS ⟨hp.1.trans hok.1, _, hok.2, hp.2⟩ ⟨Nat.le_refl _, Nat.le_refl _⟩ dL_call_100
theorem c_call_3 (l : Launch) (hst : l.stackTraces = false) (D : va_G) (E : Nat → ClassId) (o : Nat) (S : aT) (a b c : Int32) : Met l yL_call wsL_call (lRm 8 1 6) (lP D E [.ref o, .int 3, .int a, .int b, .int c] (Ob D E o S) (rA o)) (lQ (fun r H => r = aF 3 S a b c ∧ Ob D E o (tF 3 S a b) H) (rA o)) 1 6 (rA o) := by
  refine Met.ofW (cc := cL_call) (maxL := 5) (ret := (some .int)) (by decide) rfl ?_
  intro p e s m args below meth co s₁ B hml hv
  obtain ⟨rfl, ⟨M, hM, hB⟩, hKX, hZ, hNc⟩ := hv
  have hx := B.exec
  have hb := B.bytes
  have hr := B.returns
  have hts := atoms_spec (ws := wsL_call) B.pre
  have hown : s.vm.findClass RL = some m.cls := findClass_of_methodNamed B.named
  have hlocks := B.notSynchronized
  have hS : va_S (rA o) s.heap s.heap [] := ⟨Nat.le_refl _, fun _ _ _ => rfl, fun _ h => by cases h⟩
  have hl := lv_entry ([.ref o, .int 3, .int a, .int b, .int c]) (n := 5) (Nat.le_of_ble_eq_true rfl)
  rw [lg_entry_eq]
  generalize (lg_sl ([.ref o, .int 3, .int a, .int b, .int c]) ++ List.replicate (5 - (lg_sl ([.ref o, .int 3, .int a, .int b, .int c])).length) Slot.unset).toArray = ls at hl ⊢
  have hl : lv_has ls 5 [(0, .ref o), (1, .int 3), (2, .int a), (3, .int b), (4, .int c)] := hl
  have hok := ck_3 (a := a) (b := b) (c := c) hM
  refine lv_iload_n hx hb dL_call_0 rfl (lv_at hl 1 rfl) ?_
  refine b_tabI (tgt := 101) hx hb 3 dL_call_1 (by decide) (by decide) (by decide) rfl (by decide) ?_
  refine lv_aload_n hx hb dL_call_101 rfl (lv_at hl 0 rfl) ?_
  refine lv_iload_n hx hb dL_call_102 rfl (lv_at hl 2 rfl) ?_
  refine lv_iload_n hx hb dL_call_103 rfl (lv_at hl 3 rfl) ?_
  refine l_goX (cells' := 1) (slots' := 6) (l_runSX (P := fun H => bk D E LRM o M H) (As := [.ref o, .int a, .int b]) (rest := []) ⟨hx, hb, hml, hown, hts⟩ (t_tryPlayer l hst D E o M a b (okF_2 (ok_playerOf (x1 := a) (x2 := b) hM.1))) (vx_cwSW 3 hts gL_call_L_tryPlayer rfl rfl rfl (by decide +kernel) ⟨Nat.le_of_ble_eq_true rfl, Nat.le_of_ble_eq_true rfl⟩) hB hKX hZ hNc rfl hl rfl (Nat.le_of_ble_eq_true rfl) dL_call_104 ⟨Nat.le_of_ble_eq_true rfl, Nat.le_of_ble_eq_true rfl⟩) hS (fun _ h => h) ⟨Nat.le_refl _, Nat.le_refl _⟩ (fun r H1 locs hp hq hz hS => ?_)
  exact l_iret hx hb hr hlocks hS ⟨hp.1.trans hok.1, _, hok.2, hp.2⟩ ⟨Nat.le_refl _, Nat.le_refl _⟩ dL_call_107
theorem c_call_4 (l : Launch) (hst : l.stackTraces = false) (D : va_G) (E : Nat → ClassId) (o : Nat) (S : aT) (a b c : Int32) : Met l yL_call wsL_call (lRm 8 1 6) (lP D E [.ref o, .int 4, .int a, .int b, .int c] (Ob D E o S) (rA o)) (lQ (fun r H => r = aF 4 S a b c ∧ Ob D E o (tF 4 S a b) H) (rA o)) 1 6 (rA o) := by
  refine Met.ofW (cc := cL_call) (maxL := 5) (ret := (some .int)) (by decide) rfl ?_
  intro p e s m args below meth co s₁ B hml hv
  obtain ⟨rfl, ⟨M, hM, hB⟩, hKX, hZ, hNc⟩ := hv
  have hx := B.exec
  have hb := B.bytes
  have hr := B.returns
  have hts := atoms_spec (ws := wsL_call) B.pre
  have hown : s.vm.findClass RL = some m.cls := findClass_of_methodNamed B.named
  have hlocks := B.notSynchronized
  have hS : va_S (rA o) s.heap s.heap [] := ⟨Nat.le_refl _, fun _ _ _ => rfl, fun _ h => by cases h⟩
  have hl := lv_entry ([.ref o, .int 4, .int a, .int b, .int c]) (n := 5) (Nat.le_of_ble_eq_true rfl)
  rw [lg_entry_eq]
  generalize (lg_sl ([.ref o, .int 4, .int a, .int b, .int c]) ++ List.replicate (5 - (lg_sl ([.ref o, .int 4, .int a, .int b, .int c])).length) Slot.unset).toArray = ls at hl ⊢
  have hl : lv_has ls 5 [(0, .ref o), (1, .int 4), (2, .int a), (3, .int b), (4, .int c)] := hl
  have hok := ck_4 (a := a) (b := b) (c := c) hM
  refine lv_iload_n hx hb dL_call_0 rfl (lv_at hl 1 rfl) ?_
  refine b_tabI (tgt := 108) hx hb 4 dL_call_1 (by decide) (by decide) (by decide) rfl (by decide) ?_
  refine lv_aload_n hx hb dL_call_108 rfl (lv_at hl 0 rfl) ?_
  refine lv_iload_n hx hb dL_call_109 rfl (lv_at hl 2 rfl) ?_
  refine lv_iload_n hx hb dL_call_110 rfl (lv_at hl 3 rfl) ?_
  refine lv_iload hx hb dL_call_111 (lv_at hl 4 rfl) ?_
  refine l_goX (cells' := 1) (slots' := 6) (l_runSX (P := fun H => bk D E LRM o M H) (As := [.ref o, .int a, .int b, .int c]) (rest := []) ⟨hx, hb, hml, hown, hts⟩ (t_tryCell l hst D E o M a b c (okF_2 (ok_cellOf (x1 := a) (x2 := b) (x3 := c) hM.1))) (vx_cwSW 4 hts gL_call_L_tryCell rfl rfl rfl (by decide +kernel) ⟨Nat.le_of_ble_eq_true rfl, Nat.le_of_ble_eq_true rfl⟩) hB hKX hZ hNc rfl hl rfl (Nat.le_of_ble_eq_true rfl) dL_call_113 ⟨Nat.le_of_ble_eq_true rfl, Nat.le_of_ble_eq_true rfl⟩) hS (fun _ h => h) ⟨Nat.le_refl _, Nat.le_refl _⟩ (fun r H1 locs hp hq hz hS => ?_)
  exact l_iret hx hb hr hlocks hS ⟨hp.1.trans hok.1, _, hok.2, hp.2⟩ ⟨Nat.le_refl _, Nat.le_refl _⟩ dL_call_116
theorem c_call_5 (l : Launch) (hst : l.stackTraces = false) (D : va_G) (E : Nat → ClassId) (o : Nat) (S : aT) (a b c : Int32) : Met l yL_call wsL_call (lRm 8 1 6) (lP D E [.ref o, .int 5, .int a, .int b, .int c] (Ob D E o S) (rA o)) (lQ (fun r H => r = aF 5 S a b c ∧ Ob D E o (tF 5 S a b) H) (rA o)) 1 6 (rA o) := by
  refine Met.ofW (cc := cL_call) (maxL := 5) (ret := (some .int)) (by decide) rfl ?_
  intro p e s m args below meth co s₁ B hml hv
  obtain ⟨rfl, ⟨M, hM, hB⟩, hKX, hZ, hNc⟩ := hv
  have hx := B.exec
  have hb := B.bytes
  have hr := B.returns
  have hts := atoms_spec (ws := wsL_call) B.pre
  have hown : s.vm.findClass RL = some m.cls := findClass_of_methodNamed B.named
  have hlocks := B.notSynchronized
  have hS : va_S (rA o) s.heap s.heap [] := ⟨Nat.le_refl _, fun _ _ _ => rfl, fun _ h => by cases h⟩
  have hl := lv_entry ([.ref o, .int 5, .int a, .int b, .int c]) (n := 5) (Nat.le_of_ble_eq_true rfl)
  rw [lg_entry_eq]
  generalize (lg_sl ([.ref o, .int 5, .int a, .int b, .int c]) ++ List.replicate (5 - (lg_sl ([.ref o, .int 5, .int a, .int b, .int c])).length) Slot.unset).toArray = ls at hl ⊢
  have hl : lv_has ls 5 [(0, .ref o), (1, .int 5), (2, .int a), (3, .int b), (4, .int c)] := hl
  have hok := ck_5 (a := a) (b := b) (c := c) hM
  refine lv_iload_n hx hb dL_call_0 rfl (lv_at hl 1 rfl) ?_
  refine b_tabI (tgt := 117) hx hb 5 dL_call_1 (by decide) (by decide) (by decide) rfl (by decide) ?_
  refine lv_aload_n hx hb dL_call_117 rfl (lv_at hl 0 rfl) ?_
  refine lv_iload_n hx hb dL_call_118 rfl (lv_at hl 2 rfl) ?_
  refine lv_iload_n hx hb dL_call_119 rfl (lv_at hl 3 rfl) ?_
  refine l_goX (cells' := 1) (slots' := 6) (l_runSX (P := fun H => bk D E LRM o M H) (As := [.ref o, .int a, .int b]) (rest := []) ⟨hx, hb, hml, hown, hts⟩ (t_tryCourse l hst D E o M a b (okF_1 (ok_course (x1 := a) (x2 := b) hM.1) n9_course)) (vx_cwSW 3 hts gL_call_L_tryCourse rfl rfl rfl (by decide +kernel) ⟨Nat.le_of_ble_eq_true rfl, Nat.le_of_ble_eq_true rfl⟩) hB hKX hZ hNc rfl hl rfl (Nat.le_of_ble_eq_true rfl) dL_call_120 ⟨Nat.le_of_ble_eq_true rfl, Nat.le_of_ble_eq_true rfl⟩) hS (fun _ h => h) ⟨Nat.le_refl _, Nat.le_refl _⟩ (fun r H1 locs hp hq hz hS => ?_)
  exact l_iret hx hb hr hlocks hS ⟨hp.1.trans hok.1, _, hok.2, hp.2⟩ ⟨Nat.le_refl _, Nat.le_refl _⟩ dL_call_123
theorem c_call_6 (l : Launch) (hst : l.stackTraces = false) (D : va_G) (E : Nat → ClassId) (o : Nat) (S : aT) (a b c : Int32) : Met l yL_call wsL_call (lRm 8 1 6) (lP D E [.ref o, .int 6, .int a, .int b, .int c] (Ob D E o S) (rA o)) (lQ (fun r H => r = aF 6 S a b c ∧ Ob D E o (tF 6 S a b) H) (rA o)) 1 6 (rA o) := by
  refine Met.ofW (cc := cL_call) (maxL := 5) (ret := (some .int)) (by decide) rfl ?_
  intro p e s m args below meth co s₁ B hml hv
  obtain ⟨rfl, ⟨M, hM, hB⟩, hKX, hZ, hNc⟩ := hv
  have hx := B.exec
  have hb := B.bytes
  have hr := B.returns
  have hts := atoms_spec (ws := wsL_call) B.pre
  have hown : s.vm.findClass RL = some m.cls := findClass_of_methodNamed B.named
  have hlocks := B.notSynchronized
  have hS : va_S (rA o) s.heap s.heap [] := ⟨Nat.le_refl _, fun _ _ _ => rfl, fun _ h => by cases h⟩
  have hl := lv_entry ([.ref o, .int 6, .int a, .int b, .int c]) (n := 5) (Nat.le_of_ble_eq_true rfl)
  rw [lg_entry_eq]
  generalize (lg_sl ([.ref o, .int 6, .int a, .int b, .int c]) ++ List.replicate (5 - (lg_sl ([.ref o, .int 6, .int a, .int b, .int c])).length) Slot.unset).toArray = ls at hl ⊢
  have hl : lv_has ls 5 [(0, .ref o), (1, .int 6), (2, .int a), (3, .int b), (4, .int c)] := hl
  have hok := ck_6 (a := a) (b := b) (c := c) hM
  refine lv_iload_n hx hb dL_call_0 rfl (lv_at hl 1 rfl) ?_
  refine b_tabI (tgt := 124) hx hb 6 dL_call_1 (by decide) (by decide) (by decide) rfl (by decide) ?_
  refine lv_aload_n hx hb dL_call_124 rfl (lv_at hl 0 rfl) ?_
  refine lv_iload_n hx hb dL_call_125 rfl (lv_at hl 2 rfl) ?_
  refine l_goX (cells' := 1) (slots' := 6) (l_runSX (P := fun H => bk D E LRM o M H) (As := [.ref o, .int a]) (rest := []) ⟨hx, hb, hml, hown, hts⟩ (t_trySetting l hst D E o M a (okF_1 (ok_setting (x1 := a) hM.1) n9_setting)) (vx_cwSW 2 hts gL_call_L_trySetting rfl rfl rfl (by decide +kernel) ⟨Nat.le_of_ble_eq_true rfl, Nat.le_of_ble_eq_true rfl⟩) hB hKX hZ hNc rfl hl rfl (Nat.le_of_ble_eq_true rfl) dL_call_126 ⟨Nat.le_of_ble_eq_true rfl, Nat.le_of_ble_eq_true rfl⟩) hS (fun _ h => h) ⟨Nat.le_refl _, Nat.le_refl _⟩ (fun r H1 locs hp hq hz hS => ?_)
  exact l_iret hx hb hr hlocks hS ⟨hp.1.trans hok.1, _, hok.2, hp.2⟩ ⟨Nat.le_refl _, Nat.le_refl _⟩ dL_call_129
theorem c_call_7 (l : Launch) (hst : l.stackTraces = false) (D : va_G) (E : Nat → ClassId) (o : Nat) (S : aT) (a b c : Int32) : Met l yL_call wsL_call (lRm 8 1 6) (lP D E [.ref o, .int 7, .int a, .int b, .int c] (Ob D E o S) (rA o)) (lQ (fun r H => r = aF 7 S a b c ∧ Ob D E o (tF 7 S a b) H) (rA o)) 1 6 (rA o) := by
  refine Met.ofW (cc := cL_call) (maxL := 5) (ret := (some .int)) (by decide) rfl ?_
  intro p e s m args below meth co s₁ B hml hv
  obtain ⟨rfl, ⟨M, hM, hB⟩, hKX, hZ, hNc⟩ := hv
  have hx := B.exec
  have hb := B.bytes
  have hr := B.returns
  have hts := atoms_spec (ws := wsL_call) B.pre
  have hown : s.vm.findClass RL = some m.cls := findClass_of_methodNamed B.named
  have hlocks := B.notSynchronized
  have hS : va_S (rA o) s.heap s.heap [] := ⟨Nat.le_refl _, fun _ _ _ => rfl, fun _ h => by cases h⟩
  have hl := lv_entry ([.ref o, .int 7, .int a, .int b, .int c]) (n := 5) (Nat.le_of_ble_eq_true rfl)
  rw [lg_entry_eq]
  generalize (lg_sl ([.ref o, .int 7, .int a, .int b, .int c]) ++ List.replicate (5 - (lg_sl ([.ref o, .int 7, .int a, .int b, .int c])).length) Slot.unset).toArray = ls at hl ⊢
  have hl : lv_has ls 5 [(0, .ref o), (1, .int 7), (2, .int a), (3, .int b), (4, .int c)] := hl
  have hok := ck_7 (a := a) (b := b) (c := c) hM
  refine lv_iload_n hx hb dL_call_0 rfl (lv_at hl 1 rfl) ?_
  refine b_tabI (tgt := 130) hx hb 7 dL_call_1 (by decide) (by decide) (by decide) rfl (by decide) ?_
  refine lv_aload_n hx hb dL_call_130 rfl (lv_at hl 0 rfl) ?_
  refine lv_iload_n hx hb dL_call_131 rfl (lv_at hl 2 rfl) ?_
  refine l_goX (cells' := 1) (slots' := 6) (l_runSX (P := fun H => bk D E LRM o M H) (As := [.ref o, .int a]) (rest := []) ⟨hx, hb, hml, hown, hts⟩ (t_tryStep l hst D E o M a (sS_hn hM.1) (okF_2 (ok_step (x1 := a) hM.1))) (vx_cwSW 2 hts gL_call_L_tryStep rfl rfl rfl (by decide +kernel) ⟨Nat.le_of_ble_eq_true rfl, Nat.le_of_ble_eq_true rfl⟩) hB hKX hZ hNc rfl hl rfl (Nat.le_of_ble_eq_true rfl) dL_call_132 ⟨Nat.le_of_ble_eq_true rfl, Nat.le_of_ble_eq_true rfl⟩) hS (fun _ h => h) ⟨Nat.le_refl _, Nat.le_refl _⟩ (fun r H1 locs hp hq hz hS => ?_)
  exact l_iret hx hb hr hlocks hS ⟨hp.1.trans hok.1, _, hok.2, hp.2⟩ ⟨Nat.le_refl _, Nat.le_refl _⟩ dL_call_135
theorem c_call_8 (l : Launch) (hst : l.stackTraces = false) (D : va_G) (E : Nat → ClassId) (o : Nat) (S : aT) (a b c : Int32) : Met l yL_call wsL_call (lRm 8 1 6) (lP D E [.ref o, .int 8, .int a, .int b, .int c] (Ob D E o S) (rA o)) (lQ (fun r H => r = aF 8 S a b c ∧ Ob D E o (tF 8 S a b) H) (rA o)) 1 6 (rA o) := by
  refine Met.ofW (cc := cL_call) (maxL := 5) (ret := (some .int)) (by decide) rfl ?_
  intro p e s m args below meth co s₁ B hml hv
  obtain ⟨rfl, ⟨M, hM, hB⟩, hKX, hZ, hNc⟩ := hv
  have hx := B.exec
  have hb := B.bytes
  have hr := B.returns
  have hts := atoms_spec (ws := wsL_call) B.pre
  have hown : s.vm.findClass RL = some m.cls := findClass_of_methodNamed B.named
  have hlocks := B.notSynchronized
  have hS : va_S (rA o) s.heap s.heap [] := ⟨Nat.le_refl _, fun _ _ _ => rfl, fun _ h => by cases h⟩
  have hl := lv_entry ([.ref o, .int 8, .int a, .int b, .int c]) (n := 5) (Nat.le_of_ble_eq_true rfl)
  rw [lg_entry_eq]
  generalize (lg_sl ([.ref o, .int 8, .int a, .int b, .int c]) ++ List.replicate (5 - (lg_sl ([.ref o, .int 8, .int a, .int b, .int c])).length) Slot.unset).toArray = ls at hl ⊢
  have hl : lv_has ls 5 [(0, .ref o), (1, .int 8), (2, .int a), (3, .int b), (4, .int c)] := hl
  have hok := ck_8 (a := a) (b := b) (c := c) hM
  refine lv_iload_n hx hb dL_call_0 rfl (lv_at hl 1 rfl) ?_
  refine b_tabI (tgt := 136) hx hb 8 dL_call_1 (by decide) (by decide) (by decide) rfl (by decide) ?_
  refine lv_aload_n hx hb dL_call_136 rfl (lv_at hl 0 rfl) ?_
  refine lv_iload_n hx hb dL_call_137 rfl (lv_at hl 2 rfl) ?_
  refine lv_iload_n hx hb dL_call_138 rfl (lv_at hl 3 rfl) ?_
  refine l_goX (cells' := 1) (slots' := 6) (l_runSX (P := fun H => bk D E LRM o M H) (As := [.ref o, .int a, .int b]) (rest := []) ⟨hx, hb, hml, hown, hts⟩ (t_tryDam l hst D E o M a b (sS_hn hM.1) (okF_2 (ok_dam (x1 := a) (x2 := b) hM.1))) (vx_cwSW 3 hts gL_call_L_tryDam rfl rfl rfl (by decide +kernel) ⟨Nat.le_of_ble_eq_true rfl, Nat.le_of_ble_eq_true rfl⟩) hB hKX hZ hNc rfl hl rfl (Nat.le_of_ble_eq_true rfl) dL_call_139 ⟨Nat.le_of_ble_eq_true rfl, Nat.le_of_ble_eq_true rfl⟩) hS (fun _ h => h) ⟨Nat.le_refl _, Nat.le_refl _⟩ (fun r H1 locs hp hq hz hS => ?_)
  exact l_iret hx hb hr hlocks hS ⟨hp.1.trans hok.1, _, hok.2, hp.2⟩ ⟨Nat.le_refl _, Nat.le_refl _⟩ dL_call_142
theorem c_call_9 (l : Launch) (hst : l.stackTraces = false) (D : va_G) (E : Nat → ClassId) (o : Nat) (S : aT) (a b c : Int32) : Met l yL_call wsL_call (lRm 8 1 6) (lP D E [.ref o, .int 9, .int a, .int b, .int c] (Ob D E o S) (rA o)) (lQ (fun r H => r = aF 9 S a b c ∧ Ob D E o (tF 9 S a b) H) (rA o)) 1 6 (rA o) := by
  refine Met.ofW (cc := cL_call) (maxL := 5) (ret := (some .int)) (by decide) rfl ?_
  intro p e s m args below meth co s₁ B hml hv
  obtain ⟨rfl, ⟨M, hM, hB⟩, hKX, hZ, hNc⟩ := hv
  have hx := B.exec
  have hb := B.bytes
  have hr := B.returns
  have hts := atoms_spec (ws := wsL_call) B.pre
  have hown : s.vm.findClass RL = some m.cls := findClass_of_methodNamed B.named
  have hlocks := B.notSynchronized
  have hS : va_S (rA o) s.heap s.heap [] := ⟨Nat.le_refl _, fun _ _ _ => rfl, fun _ h => by cases h⟩
  have hl := lv_entry ([.ref o, .int 9, .int a, .int b, .int c]) (n := 5) (Nat.le_of_ble_eq_true rfl)
  rw [lg_entry_eq]
  generalize (lg_sl ([.ref o, .int 9, .int a, .int b, .int c]) ++ List.replicate (5 - (lg_sl ([.ref o, .int 9, .int a, .int b, .int c])).length) Slot.unset).toArray = ls at hl ⊢
  have hl : lv_has ls 5 [(0, .ref o), (1, .int 9), (2, .int a), (3, .int b), (4, .int c)] := hl
  have hok := ck_9 (a := a) (b := b) (c := c) hM
  refine lv_iload_n hx hb dL_call_0 rfl (lv_at hl 1 rfl) ?_
  refine b_tabI (tgt := 143) hx hb 9 dL_call_1 (by decide) (by decide) (by decide) rfl (by decide) ?_
  refine lv_aload_n hx hb dL_call_143 rfl (lv_at hl 0 rfl) ?_
  refine l_goX (cells' := 1) (slots' := 6) (l_runSX (P := fun H => bk D E LRM o M H) (As := [.ref o]) (rest := []) ⟨hx, hb, hml, hown, hts⟩ (t_tryFlood l hst D E o M (sS_hn hM.1) (okF_1 (ok_flood hM.1) n9_flood)) (vx_cwSW 1 hts gL_call_L_tryFlood rfl rfl rfl (by decide +kernel) ⟨Nat.le_of_ble_eq_true rfl, Nat.le_of_ble_eq_true rfl⟩) hB hKX hZ hNc rfl hl rfl (Nat.le_of_ble_eq_true rfl) dL_call_144 ⟨Nat.le_of_ble_eq_true rfl, Nat.le_of_ble_eq_true rfl⟩) hS (fun _ h => h) ⟨Nat.le_refl _, Nat.le_refl _⟩ (fun r H1 locs hp hq hz hS => ?_)
  exact l_iret hx hb hr hlocks hS ⟨hp.1.trans hok.1, _, hok.2, hp.2⟩ ⟨Nat.le_refl _, Nat.le_refl _⟩ dL_call_147
theorem c_call_10 (l : Launch) (hst : l.stackTraces = false) (D : va_G) (E : Nat → ClassId) (o : Nat) (S : aT) (a b c : Int32) : Met l yL_call wsL_call (lRm 8 1 6) (lP D E [.ref o, .int 10, .int a, .int b, .int c] (Ob D E o S) (rA o)) (lQ (fun r H => r = aF 10 S a b c ∧ Ob D E o (tF 10 S a b) H) (rA o)) 1 6 (rA o) := by
  refine Met.ofW (cc := cL_call) (maxL := 5) (ret := (some .int)) (by decide) rfl ?_
  intro p e s m args below meth co s₁ B hml hv
  obtain ⟨rfl, ⟨M, hM, hB⟩, hKX, hZ, hNc⟩ := hv
  have hx := B.exec
  have hb := B.bytes
  have hr := B.returns
  have hts := atoms_spec (ws := wsL_call) B.pre
  have hown : s.vm.findClass RL = some m.cls := findClass_of_methodNamed B.named
  have hlocks := B.notSynchronized
  have hS : va_S (rA o) s.heap s.heap [] := ⟨Nat.le_refl _, fun _ _ _ => rfl, fun _ h => by cases h⟩
  have hl := lv_entry ([.ref o, .int 10, .int a, .int b, .int c]) (n := 5) (Nat.le_of_ble_eq_true rfl)
  rw [lg_entry_eq]
  generalize (lg_sl ([.ref o, .int 10, .int a, .int b, .int c]) ++ List.replicate (5 - (lg_sl ([.ref o, .int 10, .int a, .int b, .int c])).length) Slot.unset).toArray = ls at hl ⊢
  have hl : lv_has ls 5 [(0, .ref o), (1, .int 10), (2, .int a), (3, .int b), (4, .int c)] := hl
  have hok := ck_10 (a := a) (b := b) (c := c) hM
  refine lv_iload_n hx hb dL_call_0 rfl (lv_at hl 1 rfl) ?_
  refine b_tabI (tgt := 148) hx hb 10 dL_call_1 (by decide) (by decide) (by decide) rfl (by decide) ?_
  refine lv_aload_n hx hb dL_call_148 rfl (lv_at hl 0 rfl) ?_
  refine lv_iload_n hx hb dL_call_149 rfl (lv_at hl 2 rfl) ?_
  refine lv_iload_n hx hb dL_call_150 rfl (lv_at hl 3 rfl) ?_
  refine l_goX (cells' := 1) (slots' := 6) (l_runSX (P := fun H => bk D E LRM o M H) (As := [.ref o, .int a, .int b]) (rest := []) ⟨hx, hb, hml, hown, hts⟩ (t_tryLay l hst D E o M a b (sS_hn hM.1) (okF_1 (ok_set (x1 := a) (x2 := b) hM.1) n9_set)) (vx_cwSW 3 hts gL_call_L_tryLay rfl rfl rfl (by decide +kernel) ⟨Nat.le_of_ble_eq_true rfl, Nat.le_of_ble_eq_true rfl⟩) hB hKX hZ hNc rfl hl rfl (Nat.le_of_ble_eq_true rfl) dL_call_151 ⟨Nat.le_of_ble_eq_true rfl, Nat.le_of_ble_eq_true rfl⟩) hS (fun _ h => h) ⟨Nat.le_refl _, Nat.le_refl _⟩ (fun r H1 locs hp hq hz hS => ?_)
  exact l_iret hx hb hr hlocks hS ⟨hp.1.trans hok.1, _, hok.2, hp.2⟩ ⟨Nat.le_refl _, Nat.le_refl _⟩ dL_call_154
theorem c_call_11 (l : Launch) (hst : l.stackTraces = false) (D : va_G) (E : Nat → ClassId) (o : Nat) (S : aT) (a b c : Int32) : Met l yL_call wsL_call (lRm 8 1 6) (lP D E [.ref o, .int 11, .int a, .int b, .int c] (Ob D E o S) (rA o)) (lQ (fun r H => r = aF 11 S a b c ∧ Ob D E o (tF 11 S a b) H) (rA o)) 1 6 (rA o) := by
  refine Met.ofW (cc := cL_call) (maxL := 5) (ret := (some .int)) (by decide) rfl ?_
  intro p e s m args below meth co s₁ B hml hv
  obtain ⟨rfl, ⟨M, hM, hB⟩, hKX, hZ, hNc⟩ := hv
  have hx := B.exec
  have hb := B.bytes
  have hr := B.returns
  have hts := atoms_spec (ws := wsL_call) B.pre
  have hown : s.vm.findClass RL = some m.cls := findClass_of_methodNamed B.named
  have hlocks := B.notSynchronized
  have hS : va_S (rA o) s.heap s.heap [] := ⟨Nat.le_refl _, fun _ _ _ => rfl, fun _ h => by cases h⟩
  have hl := lv_entry ([.ref o, .int 11, .int a, .int b, .int c]) (n := 5) (Nat.le_of_ble_eq_true rfl)
  rw [lg_entry_eq]
  generalize (lg_sl ([.ref o, .int 11, .int a, .int b, .int c]) ++ List.replicate (5 - (lg_sl ([.ref o, .int 11, .int a, .int b, .int c])).length) Slot.unset).toArray = ls at hl ⊢
  have hl : lv_has ls 5 [(0, .ref o), (1, .int 11), (2, .int a), (3, .int b), (4, .int c)] := hl
  have hok := ck_11 (a := a) (b := b) (c := c) hM
  refine lv_iload_n hx hb dL_call_0 rfl (lv_at hl 1 rfl) ?_
  refine b_tabI (tgt := 155) hx hb 11 dL_call_1 (by decide) (by decide) (by decide) rfl (by decide) ?_
  refine lv_aload_n hx hb dL_call_155 rfl (lv_at hl 0 rfl) ?_
  refine l_goX (cells' := 1) (slots' := 6) (l_runSX (P := fun H => bk D E LRM o M H) (As := [.ref o]) (rest := []) ⟨hx, hb, hml, hown, hts⟩ (t_tryUndo l hst D E o M (sS_hn hM.1) (okF_1 (ok_undo hM.1) n9_undo)) (vx_cwSW 1 hts gL_call_L_tryUndo rfl rfl rfl (by decide +kernel) ⟨Nat.le_of_ble_eq_true rfl, Nat.le_of_ble_eq_true rfl⟩) hB hKX hZ hNc rfl hl rfl (Nat.le_of_ble_eq_true rfl) dL_call_156 ⟨Nat.le_of_ble_eq_true rfl, Nat.le_of_ble_eq_true rfl⟩) hS (fun _ h => h) ⟨Nat.le_refl _, Nat.le_refl _⟩ (fun r H1 locs hp hq hz hS => ?_)
  exact l_iret hx hb hr hlocks hS ⟨hp.1.trans hok.1, _, hok.2, hp.2⟩ ⟨Nat.le_refl _, Nat.le_refl _⟩ dL_call_159
theorem c_call_12 (l : Launch) (hst : l.stackTraces = false) (D : va_G) (E : Nat → ClassId) (o : Nat) (S : aT) (a b c : Int32) : Met l yL_call wsL_call (lRm 8 1 6) (lP D E [.ref o, .int 12, .int a, .int b, .int c] (Ob D E o S) (rA o)) (lQ (fun r H => r = aF 12 S a b c ∧ Ob D E o (tF 12 S a b) H) (rA o)) 1 6 (rA o) := by
  refine Met.ofW (cc := cL_call) (maxL := 5) (ret := (some .int)) (by decide) rfl ?_
  intro p e s m args below meth co s₁ B hml hv
  obtain ⟨rfl, ⟨M, hM, hB⟩, hKX, hZ, hNc⟩ := hv
  have hx := B.exec
  have hb := B.bytes
  have hr := B.returns
  have hts := atoms_spec (ws := wsL_call) B.pre
  have hown : s.vm.findClass RL = some m.cls := findClass_of_methodNamed B.named
  have hlocks := B.notSynchronized
  have hS : va_S (rA o) s.heap s.heap [] := ⟨Nat.le_refl _, fun _ _ _ => rfl, fun _ h => by cases h⟩
  have hl := lv_entry ([.ref o, .int 12, .int a, .int b, .int c]) (n := 5) (Nat.le_of_ble_eq_true rfl)
  rw [lg_entry_eq]
  generalize (lg_sl ([.ref o, .int 12, .int a, .int b, .int c]) ++ List.replicate (5 - (lg_sl ([.ref o, .int 12, .int a, .int b, .int c])).length) Slot.unset).toArray = ls at hl ⊢
  have hl : lv_has ls 5 [(0, .ref o), (1, .int 12), (2, .int a), (3, .int b), (4, .int c)] := hl
  have hok := ck_12 (a := a) (b := b) (c := c) hM
  refine lv_iload_n hx hb dL_call_0 rfl (lv_at hl 1 rfl) ?_
  refine b_tabI (tgt := 160) hx hb 12 dL_call_1 (by decide) (by decide) (by decide) rfl (by decide) ?_
  refine lv_aload_n hx hb dL_call_160 rfl (lv_at hl 0 rfl) ?_
  refine lv_iload_n hx hb dL_call_161 rfl (lv_at hl 2 rfl) ?_
  refine l_goX (cells' := 1) (slots' := 6) (l_runSX (P := fun H => bk D E LRM o M H) (As := [.ref o, .int a]) (rest := []) ⟨hx, hb, hml, hown, hts⟩ (t_tryWhy l hst D E o M a (okF_1 (ok_why (x1 := a) hM.1) n9_why)) (vx_cwSW 2 hts gL_call_L_tryWhy rfl rfl rfl (by decide +kernel) ⟨Nat.le_of_ble_eq_true rfl, Nat.le_of_ble_eq_true rfl⟩) hB hKX hZ hNc rfl hl rfl (Nat.le_of_ble_eq_true rfl) dL_call_162 ⟨Nat.le_of_ble_eq_true rfl, Nat.le_of_ble_eq_true rfl⟩) hS (fun _ h => h) ⟨Nat.le_refl _, Nat.le_refl _⟩ (fun r H1 locs hp hq hz hS => ?_)
  exact l_iret hx hb hr hlocks hS ⟨hp.1.trans hok.1, _, hok.2, hp.2⟩ ⟨Nat.le_refl _, Nat.le_refl _⟩ dL_call_165
theorem c_call_13 (l : Launch) (hst : l.stackTraces = false) (D : va_G) (E : Nat → ClassId) (o : Nat) (S : aT) (a b c : Int32) : Met l yL_call wsL_call (lRm 8 1 6) (lP D E [.ref o, .int 13, .int a, .int b, .int c] (Ob D E o S) (rA o)) (lQ (fun r H => r = aF 13 S a b c ∧ Ob D E o (tF 13 S a b) H) (rA o)) 1 6 (rA o) := by
  refine Met.ofW (cc := cL_call) (maxL := 5) (ret := (some .int)) (by decide) rfl ?_
  intro p e s m args below meth co s₁ B hml hv
  obtain ⟨rfl, ⟨M, hM, hB⟩, hKX, hZ, hNc⟩ := hv
  have hx := B.exec
  have hb := B.bytes
  have hr := B.returns
  have hts := atoms_spec (ws := wsL_call) B.pre
  have hown : s.vm.findClass RL = some m.cls := findClass_of_methodNamed B.named
  have hlocks := B.notSynchronized
  have hS : va_S (rA o) s.heap s.heap [] := ⟨Nat.le_refl _, fun _ _ _ => rfl, fun _ h => by cases h⟩
  have hl := lv_entry ([.ref o, .int 13, .int a, .int b, .int c]) (n := 5) (Nat.le_of_ble_eq_true rfl)
  rw [lg_entry_eq]
  generalize (lg_sl ([.ref o, .int 13, .int a, .int b, .int c]) ++ List.replicate (5 - (lg_sl ([.ref o, .int 13, .int a, .int b, .int c])).length) Slot.unset).toArray = ls at hl ⊢
  have hl : lv_has ls 5 [(0, .ref o), (1, .int 13), (2, .int a), (3, .int b), (4, .int c)] := hl
  have hok := ck_13 (a := a) (b := b) (c := c) hM
  refine lv_iload_n hx hb dL_call_0 rfl (lv_at hl 1 rfl) ?_
  refine b_tabI (tgt := 166) hx hb 13 dL_call_1 (by decide) (by decide) (by decide) rfl (by decide) ?_
  refine lv_aload_n hx hb dL_call_166 rfl (lv_at hl 0 rfl) ?_
  refine lv_iload_n hx hb dL_call_167 rfl (lv_at hl 2 rfl) ?_
  refine lv_iload_n hx hb dL_call_168 rfl (lv_at hl 3 rfl) ?_
  refine l_goX (cells' := 1) (slots' := 6) (l_runSX (P := fun H => bk D E LRM o M H) (As := [.ref o, .int a, .int b]) (rest := []) ⟨hx, hb, hml, hown, hts⟩ (t_tryWhyDam l hst D E o M a b (okF_1 (ok_whyDam (x1 := a) (x2 := b) hM.1) n9_whyDam)) (vx_cwSW 3 hts gL_call_L_tryWhyDam rfl rfl rfl (by decide +kernel) ⟨Nat.le_of_ble_eq_true rfl, Nat.le_of_ble_eq_true rfl⟩) hB hKX hZ hNc rfl hl rfl (Nat.le_of_ble_eq_true rfl) dL_call_169 ⟨Nat.le_of_ble_eq_true rfl, Nat.le_of_ble_eq_true rfl⟩) hS (fun _ h => h) ⟨Nat.le_refl _, Nat.le_refl _⟩ (fun r H1 locs hp hq hz hS => ?_)
  exact l_iret hx hb hr hlocks hS ⟨hp.1.trans hok.1, _, hok.2, hp.2⟩ ⟨Nat.le_refl _, Nat.le_refl _⟩ dL_call_172
theorem c_call_14 (l : Launch) (hst : l.stackTraces = false) (D : va_G) (E : Nat → ClassId) (o : Nat) (S : aT) (a b c : Int32) : Met l yL_call wsL_call (lRm 8 1 6) (lP D E [.ref o, .int 14, .int a, .int b, .int c] (Ob D E o S) (rA o)) (lQ (fun r H => r = aF 14 S a b c ∧ Ob D E o (tF 14 S a b) H) (rA o)) 1 6 (rA o) := by
  refine Met.ofW (cc := cL_call) (maxL := 5) (ret := (some .int)) (by decide) rfl ?_
  intro p e s m args below meth co s₁ B hml hv
  obtain ⟨rfl, ⟨M, hM, hB⟩, hKX, hZ, hNc⟩ := hv
  have hx := B.exec
  have hb := B.bytes
  have hr := B.returns
  have hts := atoms_spec (ws := wsL_call) B.pre
  have hown : s.vm.findClass RL = some m.cls := findClass_of_methodNamed B.named
  have hlocks := B.notSynchronized
  have hS : va_S (rA o) s.heap s.heap [] := ⟨Nat.le_refl _, fun _ _ _ => rfl, fun _ h => by cases h⟩
  have hl := lv_entry ([.ref o, .int 14, .int a, .int b, .int c]) (n := 5) (Nat.le_of_ble_eq_true rfl)
  rw [lg_entry_eq]
  generalize (lg_sl ([.ref o, .int 14, .int a, .int b, .int c]) ++ List.replicate (5 - (lg_sl ([.ref o, .int 14, .int a, .int b, .int c])).length) Slot.unset).toArray = ls at hl ⊢
  have hl : lv_has ls 5 [(0, .ref o), (1, .int 14), (2, .int a), (3, .int b), (4, .int c)] := hl
  have hok := ck_14 (a := a) (b := b) (c := c) hM
  refine lv_iload_n hx hb dL_call_0 rfl (lv_at hl 1 rfl) ?_
  refine b_tabI (tgt := 173) hx hb 14 dL_call_1 (by decide) (by decide) (by decide) rfl (by decide) ?_
  refine lv_aload_n hx hb dL_call_173 rfl (lv_at hl 0 rfl) ?_
  refine lv_iload_n hx hb dL_call_174 rfl (lv_at hl 2 rfl) ?_
  refine lv_iload_n hx hb dL_call_175 rfl (lv_at hl 3 rfl) ?_
  refine l_goX (cells' := 1) (slots' := 6) (l_runSX (P := fun H => bk D E LRM o M H) (As := [.ref o, .int a, .int b]) (rest := []) ⟨hx, hb, hml, hown, hts⟩ (t_tryCheap l hst D E o M a b (okF_2 (ok_cheapest (x1 := a) (x2 := b) hM.1))) (vx_cwSW 3 hts gL_call_L_tryCheap rfl rfl rfl (by decide +kernel) ⟨Nat.le_of_ble_eq_true rfl, Nat.le_of_ble_eq_true rfl⟩) hB hKX hZ hNc rfl hl rfl (Nat.le_of_ble_eq_true rfl) dL_call_176 ⟨Nat.le_of_ble_eq_true rfl, Nat.le_of_ble_eq_true rfl⟩) hS (fun _ h => h) ⟨Nat.le_refl _, Nat.le_refl _⟩ (fun r H1 locs hp hq hz hS => ?_)
  exact l_iret hx hb hr hlocks hS ⟨hp.1.trans hok.1, _, hok.2, hp.2⟩ ⟨Nat.le_refl _, Nat.le_refl _⟩ dL_call_179
theorem c_call_15 (l : Launch) (hst : l.stackTraces = false) (D : va_G) (E : Nat → ClassId) (o : Nat) (S : aT) (a b c : Int32) : Met l yL_call wsL_call (lRm 8 1 6) (lP D E [.ref o, .int 15, .int a, .int b, .int c] (Ob D E o S) (rA o)) (lQ (fun r H => r = aF 15 S a b c ∧ Ob D E o (tF 15 S a b) H) (rA o)) 1 6 (rA o) := by
  refine Met.ofW (cc := cL_call) (maxL := 5) (ret := (some .int)) (by decide) rfl ?_
  intro p e s m args below meth co s₁ B hml hv
  obtain ⟨rfl, ⟨M, hM, hB⟩, hKX, hZ, hNc⟩ := hv
  have hx := B.exec
  have hb := B.bytes
  have hr := B.returns
  have hts := atoms_spec (ws := wsL_call) B.pre
  have hown : s.vm.findClass RL = some m.cls := findClass_of_methodNamed B.named
  have hlocks := B.notSynchronized
  have hS : va_S (rA o) s.heap s.heap [] := ⟨Nat.le_refl _, fun _ _ _ => rfl, fun _ h => by cases h⟩
  have hl := lv_entry ([.ref o, .int 15, .int a, .int b, .int c]) (n := 5) (Nat.le_of_ble_eq_true rfl)
  rw [lg_entry_eq]
  generalize (lg_sl ([.ref o, .int 15, .int a, .int b, .int c]) ++ List.replicate (5 - (lg_sl ([.ref o, .int 15, .int a, .int b, .int c])).length) Slot.unset).toArray = ls at hl ⊢
  have hl : lv_has ls 5 [(0, .ref o), (1, .int 15), (2, .int a), (3, .int b), (4, .int c)] := hl
  have hok := ck_15 (a := a) (b := b) (c := c) hM
  refine lv_iload_n hx hb dL_call_0 rfl (lv_at hl 1 rfl) ?_
  refine b_tabI (tgt := 180) hx hb 15 dL_call_1 (by decide) (by decide) (by decide) rfl (by decide) ?_
  refine lv_aload_n hx hb dL_call_180 rfl (lv_at hl 0 rfl) ?_
  refine lv_iload_n hx hb dL_call_181 rfl (lv_at hl 2 rfl) ?_
  refine l_goX (cells' := 1) (slots' := 6) (l_runSX (P := fun H => bk D E LRM o M H) (As := [.ref o, .int a]) (rest := []) ⟨hx, hb, hml, hown, hts⟩ (t_tryMeets l hst D E o M a (okF_1 (ok_meetsIn (x1 := a) hM.1) n9_meetsIn)) (vx_cwSW 2 hts gL_call_L_tryMeets rfl rfl rfl (by decide +kernel) ⟨Nat.le_of_ble_eq_true rfl, Nat.le_of_ble_eq_true rfl⟩) hB hKX hZ hNc rfl hl rfl (Nat.le_of_ble_eq_true rfl) dL_call_182 ⟨Nat.le_of_ble_eq_true rfl, Nat.le_of_ble_eq_true rfl⟩) hS (fun _ h => h) ⟨Nat.le_refl _, Nat.le_refl _⟩ (fun r H1 locs hp hq hz hS => ?_)
  exact l_iret hx hb hr hlocks hS ⟨hp.1.trans hok.1, _, hok.2, hp.2⟩ ⟨Nat.le_refl _, Nat.le_refl _⟩ dL_call_185
theorem c_call_16 (l : Launch) (hst : l.stackTraces = false) (D : va_G) (E : Nat → ClassId) (o : Nat) (S : aT) (a b c : Int32) : Met l yL_call wsL_call (lRm 8 1 6) (lP D E [.ref o, .int 16, .int a, .int b, .int c] (Ob D E o S) (rA o)) (lQ (fun r H => r = aF 16 S a b c ∧ Ob D E o (tF 16 S a b) H) (rA o)) 1 6 (rA o) := by
  refine Met.ofW (cc := cL_call) (maxL := 5) (ret := (some .int)) (by decide) rfl ?_
  intro p e s m args below meth co s₁ B hml hv
  obtain ⟨rfl, ⟨M, hM, hB⟩, hKX, hZ, hNc⟩ := hv
  have hx := B.exec
  have hb := B.bytes
  have hr := B.returns
  have hts := atoms_spec (ws := wsL_call) B.pre
  have hown : s.vm.findClass RL = some m.cls := findClass_of_methodNamed B.named
  have hlocks := B.notSynchronized
  have hS : va_S (rA o) s.heap s.heap [] := ⟨Nat.le_refl _, fun _ _ _ => rfl, fun _ h => by cases h⟩
  have hl := lv_entry ([.ref o, .int 16, .int a, .int b, .int c]) (n := 5) (Nat.le_of_ble_eq_true rfl)
  rw [lg_entry_eq]
  generalize (lg_sl ([.ref o, .int 16, .int a, .int b, .int c]) ++ List.replicate (5 - (lg_sl ([.ref o, .int 16, .int a, .int b, .int c])).length) Slot.unset).toArray = ls at hl ⊢
  have hl : lv_has ls 5 [(0, .ref o), (1, .int 16), (2, .int a), (3, .int b), (4, .int c)] := hl
  have hok := ck_16 (a := a) (b := b) (c := c) hM
  refine lv_iload_n hx hb dL_call_0 rfl (lv_at hl 1 rfl) ?_
  refine b_tabI (tgt := 186) hx hb 16 dL_call_1 (by decide) (by decide) (by decide) rfl (by decide) ?_
  refine lv_aload_n hx hb dL_call_186 rfl (lv_at hl 0 rfl) ?_
  refine lv_iload_n hx hb dL_call_187 rfl (lv_at hl 2 rfl) ?_
  refine l_goX (cells' := 1) (slots' := 6) (l_runSX (P := fun H => bk D E LRM o M H) (As := [.ref o, .int a]) (rest := []) ⟨hx, hb, hml, hown, hts⟩ (t_tryKeep l hst D E o M a (okF_1 (ok_save (x1 := a) hM.1) n9_save)) (vx_cwSW 2 hts gL_call_L_tryKeep rfl rfl rfl (by decide +kernel) ⟨Nat.le_of_ble_eq_true rfl, Nat.le_of_ble_eq_true rfl⟩) hB hKX hZ hNc rfl hl rfl (Nat.le_of_ble_eq_true rfl) dL_call_188 ⟨Nat.le_of_ble_eq_true rfl, Nat.le_of_ble_eq_true rfl⟩) hS (fun _ h => h) ⟨Nat.le_refl _, Nat.le_refl _⟩ (fun r H1 locs hp hq hz hS => ?_)
  exact l_iret hx hb hr hlocks hS ⟨hp.1.trans hok.1, _, hok.2, hp.2⟩ ⟨Nat.le_refl _, Nat.le_refl _⟩ dL_call_191
theorem c_call_17 (l : Launch) (hst : l.stackTraces = false) (D : va_G) (E : Nat → ClassId) (o : Nat) (S : aT) (a b c : Int32) : Met l yL_call wsL_call (lRm 8 1 6) (lP D E [.ref o, .int 17, .int a, .int b, .int c] (Ob D E o S) (rA o)) (lQ (fun r H => r = aF 17 S a b c ∧ Ob D E o (tF 17 S a b) H) (rA o)) 1 6 (rA o) := by
  refine Met.ofW (cc := cL_call) (maxL := 5) (ret := (some .int)) (by decide) rfl ?_
  intro p e s m args below meth co s₁ B hml hv
  obtain ⟨rfl, ⟨M, hM, hB⟩, hKX, hZ, hNc⟩ := hv
  have hx := B.exec
  have hb := B.bytes
  have hr := B.returns
  have hts := atoms_spec (ws := wsL_call) B.pre
  have hown : s.vm.findClass RL = some m.cls := findClass_of_methodNamed B.named
  have hlocks := B.notSynchronized
  have hS : va_S (rA o) s.heap s.heap [] := ⟨Nat.le_refl _, fun _ _ _ => rfl, fun _ h => by cases h⟩
  have hl := lv_entry ([.ref o, .int 17, .int a, .int b, .int c]) (n := 5) (Nat.le_of_ble_eq_true rfl)
  rw [lg_entry_eq]
  generalize (lg_sl ([.ref o, .int 17, .int a, .int b, .int c]) ++ List.replicate (5 - (lg_sl ([.ref o, .int 17, .int a, .int b, .int c])).length) Slot.unset).toArray = ls at hl ⊢
  have hl : lv_has ls 5 [(0, .ref o), (1, .int 17), (2, .int a), (3, .int b), (4, .int c)] := hl
  have hok := ck_17 (a := a) (b := b) (c := c) hM
  refine lv_iload_n hx hb dL_call_0 rfl (lv_at hl 1 rfl) ?_
  refine lv_tableOut (tgt := 192) hx hb dL_call_1 (by decide) (by decide) ?_
  refine lv_aload_n hx hb dL_call_192 rfl (lv_at hl 0 rfl) ?_
  refine lv_iload_n hx hb dL_call_193 rfl (lv_at hl 2 rfl) ?_
  refine l_goX (cells' := 1) (slots' := 6) (l_runSX (P := fun H => bk D E LRM o M H) (As := [.ref o, .int a]) (rest := []) ⟨hx, hb, hml, hown, hts⟩ (t_tryBack l hst D E o M a (okF_2 (ok_restore (x1 := a) hM.1))) (vx_cwSW 2 hts gL_call_L_tryBack rfl rfl rfl (by decide +kernel) ⟨Nat.le_of_ble_eq_true rfl, Nat.le_of_ble_eq_true rfl⟩) hB hKX hZ hNc rfl hl rfl (Nat.le_of_ble_eq_true rfl) dL_call_194 ⟨Nat.le_of_ble_eq_true rfl, Nat.le_of_ble_eq_true rfl⟩) hS (fun _ h => h) ⟨Nat.le_refl _, Nat.le_refl _⟩ (fun r H1 locs hp hq hz hS => ?_)
  exact l_iret hx hb hr hlocks hS ⟨hp.1.trans hok.1, _, hok.2, hp.2⟩ ⟨Nat.le_refl _, Nat.le_refl _⟩ dL_call_197
