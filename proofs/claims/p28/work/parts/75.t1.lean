/-! THE LAW'S TRIES: their rows, their contracts -/
set_option maxRecDepth 20000 in
theorem ggL_doSimulate_X6_simulate : GoodIn wsL_doSimulate wsX6_simulate := goodIn_ca (goodIn_r _ [7, 8, 9, 10, 11, 12, 13, 14, 15, 16, 17, 18, 19, 20, 21, 22, 23, 24, 25, 26, 27, 28, 29, 30, 31, 32, 33, 34, 35, 36, 37, 38, 39, 40, 41, 42, 43, 44, 45, 46, 47, 6, 48, 49, 50, 51, 52, 53, 54, 55, 56, 57, 58, 59, 60, 61, 62, 63, 64, 65, 66, 67, 68, 69, 70, 71, 72, 73, 74, 75, 76, 77, 78, 79, 80, 81, 82, 83, 84, 85, 86, 87, 88, 89, 90, 91, 92, 93, 94, 95, 96, 97, 98, 99, 100, 101, 102, 103, 104, 105, 106, 107, 108, 109, 110, 111, 112, 113, 114, 115, 116, 117, 118, 119, 120, 121, 122, 123, 124, 125, 126, 127, 128, 129, 130, 131, 132, 133, 134, 135, 136, 137, 138, 139, 140, 141, 142, 143, 144, 145, 146, 147, 148, 149, 150, 151, 152, 153, 154, 155, 156, 157, 158, 159, 160, 161, 162, 163, 164, 165, 166, 167, 168, 169, 170, 171, 172, 173, 174, 175, 176, 177, 178, 179, 180, 181, 182, 183, 184, 185, 186, 187, 188, 189, 190, 191, 192, 193, 194, 195, 196, 197, 198, 199, 200, 201, 202, 203, 204, 205, 206, 207, 208, 209, 210, 211, 212, 213, 214, 215, 216, 217, 218, 219, 220, 221, 222, 223, 224, 225, 226, 227, 228, 229, 230, 231, 232, 233, 234, 235, 236, 237, 238, 239, 240, 241, 242, 243, 244, 245, 246, 247, 248, 249, 250, 251, 252, 253, 254, 255, 256, 257, 258, 259, 260, 261, 262, 263, 264] (by decide +kernel) (by decide +kernel)) (goodIn_sub (fun _ h => List.mem_cons_of_mem _ (List.mem_append_right _ h)) (by decide +kernel))
set_option maxRecDepth 20000 in
theorem gL_doSimulate_X6_simulate : GoodIn wsL_doSimulate (wsV RL 16 RX6 yX6_simulate wsX6_simulate) := goodIn_app (goodIn_of _ (by decide +kernel)) ggL_doSimulate_X6_simulate
theorem dL_doSimulate_0 : decode cL_doSimulate 0 = .ok (.aload_n 0, 1) := by decide +kernel
theorem dL_doSimulate_1 : decode cL_doSimulate 1 = .ok (.lload_n 1, 1) := by decide +kernel
theorem dL_doSimulate_2 : decode cL_doSimulate 2 = .ok (.iload_n 3, 1) := by decide +kernel
theorem dL_doSimulate_3 : decode cL_doSimulate 3 = .ok (.invokevirtual 16, 3) := by decide +kernel
theorem dL_doSimulate_6 : decode cL_doSimulate 6 = .ok (.ireturn, 1) := by decide +kernel
theorem dL_doSimulate_7 : decode cL_doSimulate 7 = .ok (.astore 4, 2) := by decide +kernel
theorem dL_doSimulate_9 : decode cL_doSimulate 9 = .ok (.ldc 15, 2) := by decide +kernel
theorem dL_doSimulate_11 : decode cL_doSimulate 11 = .ok (.ireturn, 1) := by decide +kernel
set_option maxRecDepth 20000 in
theorem ggL_tryAppend_X6_append : GoodIn wsL_tryAppend wsX6_append := goodIn_ca (goodIn_ca (goodIn_r _ [9, 10, 11, 12, 13, 14, 15, 16, 17, 18, 19, 20, 21, 22, 23, 24, 25, 26, 27, 28, 29, 30, 31, 32, 33, 34] (by decide +kernel) (by decide +kernel)) (goodIn_sub (fun _ h => List.mem_cons_of_mem _ (List.mem_append_left _ (List.mem_append_right _ h))) (by decide +kernel))) (goodIn_sub (fun _ h => List.mem_cons_of_mem _ (List.mem_append_right _ h)) (by decide +kernel))
set_option maxRecDepth 20000 in
theorem gL_tryAppend_X6_append : GoodIn wsL_tryAppend (wsV RL 20 RX6 yX6_append wsX6_append) := goodIn_app (goodIn_of _ (by decide +kernel)) ggL_tryAppend_X6_append
theorem dL_tryAppend_0 : decode cL_tryAppend 0 = .ok (.aload_n 0, 1) := by decide +kernel
theorem dL_tryAppend_1 : decode cL_tryAppend 1 = .ok (.iload_n 1, 1) := by decide +kernel
theorem dL_tryAppend_2 : decode cL_tryAppend 2 = .ok (.invokevirtual 20, 3) := by decide +kernel
theorem dL_tryAppend_5 : decode cL_tryAppend 5 = .ok (.ireturn, 1) := by decide +kernel
theorem dL_tryAppend_6 : decode cL_tryAppend 6 = .ok (.astore_n 2, 1) := by decide +kernel
theorem dL_tryAppend_7 : decode cL_tryAppend 7 = .ok (.ldc 15, 2) := by decide +kernel
theorem dL_tryAppend_9 : decode cL_tryAppend 9 = .ok (.ireturn, 1) := by decide +kernel
theorem dL_tryAppend_10 : decode cL_tryAppend 10 = .ok (.astore_n 2, 1) := by decide +kernel
theorem dL_tryAppend_11 : decode cL_tryAppend 11 = .ok (.ldc 26, 2) := by decide +kernel
theorem dL_tryAppend_13 : decode cL_tryAppend 13 = .ok (.ireturn, 1) := by decide +kernel
set_option maxRecDepth 20000 in
theorem ggL_tryAbout_X6_about : GoodIn wsL_tryAbout wsX6_about := goodIn_ca (goodIn_r _ [7, 8, 9, 10, 11, 12, 13, 14, 15, 16, 17, 18, 19, 20, 21, 22, 23, 24, 25, 26, 27, 28, 29, 30, 31, 32, 33, 34, 35, 36, 37, 38, 39, 40, 41, 42, 43, 44, 45, 46, 47, 48, 49, 50, 51, 52, 53] (by decide +kernel) (by decide +kernel)) (goodIn_sub (fun _ h => List.mem_cons_of_mem _ (List.mem_append_right _ h)) (by decide +kernel))
set_option maxRecDepth 20000 in
theorem gL_tryAbout_X6_about : GoodIn wsL_tryAbout (wsV RL 31 RX6 yX6_about wsX6_about) := goodIn_app (goodIn_of _ (by decide +kernel)) ggL_tryAbout_X6_about
theorem dL_tryAbout_0 : decode cL_tryAbout 0 = .ok (.aload_n 0, 1) := by decide +kernel
theorem dL_tryAbout_1 : decode cL_tryAbout 1 = .ok (.iload_n 1, 1) := by decide +kernel
theorem dL_tryAbout_2 : decode cL_tryAbout 2 = .ok (.invokevirtual 31, 3) := by decide +kernel
theorem dL_tryAbout_5 : decode cL_tryAbout 5 = .ok (.ireturn, 1) := by decide +kernel
theorem dL_tryAbout_6 : decode cL_tryAbout 6 = .ok (.astore_n 2, 1) := by decide +kernel
theorem dL_tryAbout_7 : decode cL_tryAbout 7 = .ok (.ldc 15, 2) := by decide +kernel
theorem dL_tryAbout_9 : decode cL_tryAbout 9 = .ok (.ireturn, 1) := by decide +kernel
set_option maxRecDepth 20000 in
theorem ggL_tryPlayer_X6_playerOf : GoodIn wsL_tryPlayer wsX6_playerOf := goodIn_ca (goodIn_ca (goodIn_r _ [9, 10, 11, 12, 13, 14, 15, 16, 17, 18, 19, 20, 21, 8, 22, 23, 24, 25, 26, 27, 28, 29, 30, 31, 32, 33, 34, 35, 36, 37, 38, 39, 40, 41, 42, 43, 44, 45, 46, 47, 48, 49, 50, 51, 52, 53, 54, 55, 56, 57, 58, 59, 60, 61, 62, 63] (by decide +kernel) (by decide +kernel)) (goodIn_sub (fun _ h => List.mem_cons_of_mem _ (List.mem_append_left _ (List.mem_append_right _ h))) (by decide +kernel))) (goodIn_sub (fun _ h => List.mem_cons_of_mem _ (List.mem_append_right _ h)) (by decide +kernel))
set_option maxRecDepth 20000 in
theorem gL_tryPlayer_X6_playerOf : GoodIn wsL_tryPlayer (wsV RL 34 RX6 yX6_playerOf wsX6_playerOf) := goodIn_app (goodIn_of _ (by decide +kernel)) ggL_tryPlayer_X6_playerOf
theorem dL_tryPlayer_0 : decode cL_tryPlayer 0 = .ok (.aload_n 0, 1) := by decide +kernel
theorem dL_tryPlayer_1 : decode cL_tryPlayer 1 = .ok (.iload_n 1, 1) := by decide +kernel
theorem dL_tryPlayer_2 : decode cL_tryPlayer 2 = .ok (.iload_n 2, 1) := by decide +kernel
theorem dL_tryPlayer_3 : decode cL_tryPlayer 3 = .ok (.invokevirtual 34, 3) := by decide +kernel
theorem dL_tryPlayer_6 : decode cL_tryPlayer 6 = .ok (.ireturn, 1) := by decide +kernel
theorem dL_tryPlayer_7 : decode cL_tryPlayer 7 = .ok (.astore_n 3, 1) := by decide +kernel
theorem dL_tryPlayer_8 : decode cL_tryPlayer 8 = .ok (.ldc 40, 2) := by decide +kernel
theorem dL_tryPlayer_10 : decode cL_tryPlayer 10 = .ok (.ireturn, 1) := by decide +kernel
theorem dL_tryPlayer_11 : decode cL_tryPlayer 11 = .ok (.astore_n 3, 1) := by decide +kernel
theorem dL_tryPlayer_12 : decode cL_tryPlayer 12 = .ok (.ldc 15, 2) := by decide +kernel
theorem dL_tryPlayer_14 : decode cL_tryPlayer 14 = .ok (.ireturn, 1) := by decide +kernel
set_option maxRecDepth 20000 in
theorem ggL_tryCell_X6_cellOf : GoodIn wsL_tryCell wsX6_cellOf := goodIn_ca (goodIn_ca (goodIn_r _ [9, 10, 11, 12, 13, 14, 15, 16, 17, 18, 8, 19, 20, 21, 22, 23, 24, 25, 26, 27, 28, 29, 30, 31, 32, 33, 34, 35, 36, 37, 38, 39, 40, 41, 42, 43, 44, 45, 46, 47, 48, 49, 50, 51, 52, 53, 54, 55, 56, 57, 58, 59, 60, 61, 62, 63, 64, 65, 66, 67, 68, 69, 70, 71, 72, 73, 74, 75] (by decide +kernel) (by decide +kernel)) (goodIn_sub (fun _ h => List.mem_cons_of_mem _ (List.mem_append_left _ (List.mem_append_right _ h))) (by decide +kernel))) (goodIn_sub (fun _ h => List.mem_cons_of_mem _ (List.mem_append_right _ h)) (by decide +kernel))
set_option maxRecDepth 20000 in
theorem gL_tryCell_X6_cellOf : GoodIn wsL_tryCell (wsV RL 41 RX6 yX6_cellOf wsX6_cellOf) := goodIn_app (goodIn_of _ (by decide +kernel)) ggL_tryCell_X6_cellOf
theorem dL_tryCell_0 : decode cL_tryCell 0 = .ok (.aload_n 0, 1) := by decide +kernel
theorem dL_tryCell_1 : decode cL_tryCell 1 = .ok (.iload_n 1, 1) := by decide +kernel
theorem dL_tryCell_2 : decode cL_tryCell 2 = .ok (.iload_n 2, 1) := by decide +kernel
theorem dL_tryCell_3 : decode cL_tryCell 3 = .ok (.iload_n 3, 1) := by decide +kernel
theorem dL_tryCell_4 : decode cL_tryCell 4 = .ok (.invokevirtual 41, 3) := by decide +kernel
theorem dL_tryCell_7 : decode cL_tryCell 7 = .ok (.ireturn, 1) := by decide +kernel
theorem dL_tryCell_8 : decode cL_tryCell 8 = .ok (.astore 4, 2) := by decide +kernel
theorem dL_tryCell_10 : decode cL_tryCell 10 = .ok (.ldc 40, 2) := by decide +kernel
theorem dL_tryCell_12 : decode cL_tryCell 12 = .ok (.ireturn, 1) := by decide +kernel
theorem dL_tryCell_13 : decode cL_tryCell 13 = .ok (.astore 4, 2) := by decide +kernel
theorem dL_tryCell_15 : decode cL_tryCell 15 = .ok (.ldc 15, 2) := by decide +kernel
theorem dL_tryCell_17 : decode cL_tryCell 17 = .ok (.ireturn, 1) := by decide +kernel
set_option maxRecDepth 20000 in
theorem ggL_tryCourse_X6_course : GoodIn wsL_tryCourse wsX6_course := goodIn_ca (goodIn_r _ [7, 8, 9, 10, 11, 12, 6, 13, 14, 15, 16, 17, 18, 19, 20, 21, 22, 23, 24, 25, 26, 27, 28, 29, 30, 31, 32, 33, 34, 35, 36, 37, 38, 39, 40, 41, 42, 43, 44, 45, 46, 47, 48, 49, 50, 51, 52, 53, 54, 55, 56] (by decide +kernel) (by decide +kernel)) (goodIn_sub (fun _ h => List.mem_cons_of_mem _ (List.mem_append_right _ h)) (by decide +kernel))
set_option maxRecDepth 20000 in
theorem gL_tryCourse_X6_course : GoodIn wsL_tryCourse (wsV RL 45 RX6 yX6_course wsX6_course) := goodIn_app (goodIn_of _ (by decide +kernel)) ggL_tryCourse_X6_course
theorem dL_tryCourse_0 : decode cL_tryCourse 0 = .ok (.aload_n 0, 1) := by decide +kernel
theorem dL_tryCourse_1 : decode cL_tryCourse 1 = .ok (.iload_n 1, 1) := by decide +kernel
theorem dL_tryCourse_2 : decode cL_tryCourse 2 = .ok (.iload_n 2, 1) := by decide +kernel
theorem dL_tryCourse_3 : decode cL_tryCourse 3 = .ok (.invokevirtual 45, 3) := by decide +kernel
theorem dL_tryCourse_6 : decode cL_tryCourse 6 = .ok (.ireturn, 1) := by decide +kernel
theorem dL_tryCourse_7 : decode cL_tryCourse 7 = .ok (.astore_n 3, 1) := by decide +kernel
theorem dL_tryCourse_8 : decode cL_tryCourse 8 = .ok (.ldc 40, 2) := by decide +kernel
theorem dL_tryCourse_10 : decode cL_tryCourse 10 = .ok (.ireturn, 1) := by decide +kernel
set_option maxRecDepth 20000 in
theorem ggL_trySetting_X6_setting : GoodIn wsL_trySetting wsX6_setting := goodIn_ca (goodIn_r _ [7, 8, 9, 10, 11, 12, 13, 14, 15, 16, 17, 18, 19, 20, 21, 22, 23, 24, 25, 26, 27, 28, 29, 30, 31, 32, 33, 34, 35, 36] (by decide +kernel) (by decide +kernel)) (goodIn_sub (fun _ h => List.mem_cons_of_mem _ (List.mem_append_right _ h)) (by decide +kernel))
set_option maxRecDepth 20000 in
theorem gL_trySetting_X6_setting : GoodIn wsL_trySetting (wsV RL 48 RX6 yX6_setting wsX6_setting) := goodIn_app (goodIn_of _ (by decide +kernel)) ggL_trySetting_X6_setting
theorem dL_trySetting_0 : decode cL_trySetting 0 = .ok (.aload_n 0, 1) := by decide +kernel
theorem dL_trySetting_1 : decode cL_trySetting 1 = .ok (.iload_n 1, 1) := by decide +kernel
theorem dL_trySetting_2 : decode cL_trySetting 2 = .ok (.invokevirtual 48, 3) := by decide +kernel
theorem dL_trySetting_5 : decode cL_trySetting 5 = .ok (.ireturn, 1) := by decide +kernel
theorem dL_trySetting_6 : decode cL_trySetting 6 = .ok (.astore_n 2, 1) := by decide +kernel
theorem dL_trySetting_7 : decode cL_trySetting 7 = .ok (.ldc 15, 2) := by decide +kernel
theorem dL_trySetting_9 : decode cL_trySetting 9 = .ok (.ireturn, 1) := by decide +kernel
set_option maxRecDepth 20000 in
theorem ggL_tryStep_X6_step : GoodIn wsL_tryStep wsX6_step := goodIn_ca (goodIn_ca (goodIn_r _ [9, 10, 11, 12, 13, 14, 15, 16, 17, 8, 18, 19, 20, 21, 22, 23, 24, 25, 26, 27, 28, 29, 30, 31, 32, 33, 34, 35, 36, 37, 38, 39, 40, 41, 42, 43, 44, 45, 46, 47, 48, 49, 50, 51, 52, 53, 54, 55, 56, 57, 58, 59, 60, 61, 62, 63, 64, 65, 66, 67, 68, 69, 70, 71, 72, 73, 74, 75, 76, 77, 78, 79, 80, 81, 82, 83, 84, 85, 86, 87, 88, 89, 90, 91, 92, 93, 94, 95, 96, 97, 98, 99, 100, 101, 102, 103, 104, 105, 106, 107, 108, 109, 110, 111, 112, 113, 114, 115, 116, 117, 118, 119, 120, 121, 122, 123, 124, 125, 126, 127, 128, 129, 130, 131, 132, 133, 134, 135, 136, 137, 138, 139, 140, 141, 142, 143, 144, 145, 146, 147, 148, 149, 150, 151, 152, 153, 154, 155, 156, 157, 158, 159, 160, 161, 162] (by decide +kernel) (by decide +kernel)) (goodIn_sub (fun _ h => List.mem_cons_of_mem _ (List.mem_append_left _ (List.mem_append_right _ h))) (by decide +kernel))) (goodIn_sub (fun _ h => List.mem_cons_of_mem _ (List.mem_append_right _ h)) (by decide +kernel))
set_option maxRecDepth 20000 in
theorem gL_tryStep_X6_step : GoodIn wsL_tryStep (wsV RL 51 RX6 yX6_step wsX6_step) := goodIn_app (goodIn_of _ (by decide +kernel)) ggL_tryStep_X6_step
theorem dL_tryStep_0 : decode cL_tryStep 0 = .ok (.aload_n 0, 1) := by decide +kernel
theorem dL_tryStep_1 : decode cL_tryStep 1 = .ok (.iload_n 1, 1) := by decide +kernel
theorem dL_tryStep_2 : decode cL_tryStep 2 = .ok (.invokevirtual 51, 3) := by decide +kernel
theorem dL_tryStep_5 : decode cL_tryStep 5 = .ok (.ireturn, 1) := by decide +kernel
theorem dL_tryStep_6 : decode cL_tryStep 6 = .ok (.astore_n 2, 1) := by decide +kernel
theorem dL_tryStep_7 : decode cL_tryStep 7 = .ok (.ldc 15, 2) := by decide +kernel
theorem dL_tryStep_9 : decode cL_tryStep 9 = .ok (.ireturn, 1) := by decide +kernel
theorem dL_tryStep_10 : decode cL_tryStep 10 = .ok (.astore_n 2, 1) := by decide +kernel
theorem dL_tryStep_11 : decode cL_tryStep 11 = .ok (.ldc 26, 2) := by decide +kernel
theorem dL_tryStep_13 : decode cL_tryStep 13 = .ok (.ireturn, 1) := by decide +kernel
set_option maxRecDepth 20000 in
theorem ggL_tryDam_X6_dam : GoodIn wsL_tryDam wsX6_dam := goodIn_ca (goodIn_ca (goodIn_r _ [9, 10, 11, 12, 13, 14, 15, 16, 17, 18, 8, 19, 20, 21, 22, 23, 24, 25, 26, 27, 28, 29, 30, 31, 32, 33, 34, 35, 36, 37, 38, 39, 40, 41, 42, 43, 44, 45, 46, 47, 48, 49, 50, 51, 52, 53, 54, 55, 56, 57, 58, 59, 60, 61, 62, 63, 64, 65, 66, 67, 68, 69, 70, 71, 72, 73, 74, 75, 76, 77, 78, 79, 80, 81, 82, 83, 84, 85, 86, 87, 88, 89, 90, 91, 92, 93, 94, 95, 96, 97, 98, 99, 100, 101, 102, 103, 104, 105, 106, 107, 108, 109, 110, 111, 112, 113, 114, 115, 116, 117, 118, 119, 120, 121, 122, 123, 124, 125, 126, 127, 128, 129, 130, 131, 132, 133, 134, 135, 136, 137, 138, 139, 140, 141, 142, 143, 144, 145, 146, 147, 148, 149, 150, 151, 152, 153, 154, 155, 156, 157, 158, 159, 160, 161, 162, 163, 164, 165, 166, 167, 168, 169, 170, 171, 172, 173, 174, 175, 176] (by decide +kernel) (by decide +kernel)) (goodIn_sub (fun _ h => List.mem_cons_of_mem _ (List.mem_append_left _ (List.mem_append_right _ h))) (by decide +kernel))) (goodIn_sub (fun _ h => List.mem_cons_of_mem _ (List.mem_append_right _ h)) (by decide +kernel))
set_option maxRecDepth 20000 in
theorem gL_tryDam_X6_dam : GoodIn wsL_tryDam (wsV RL 54 RX6 yX6_dam wsX6_dam) := goodIn_app (goodIn_of _ (by decide +kernel)) ggL_tryDam_X6_dam
theorem dL_tryDam_0 : decode cL_tryDam 0 = .ok (.aload_n 0, 1) := by decide +kernel
theorem dL_tryDam_1 : decode cL_tryDam 1 = .ok (.iload_n 1, 1) := by decide +kernel
theorem dL_tryDam_2 : decode cL_tryDam 2 = .ok (.iload_n 2, 1) := by decide +kernel
theorem dL_tryDam_3 : decode cL_tryDam 3 = .ok (.invokevirtual 54, 3) := by decide +kernel
theorem dL_tryDam_6 : decode cL_tryDam 6 = .ok (.ireturn, 1) := by decide +kernel
theorem dL_tryDam_7 : decode cL_tryDam 7 = .ok (.astore_n 3, 1) := by decide +kernel
theorem dL_tryDam_8 : decode cL_tryDam 8 = .ok (.ldc 40, 2) := by decide +kernel
theorem dL_tryDam_10 : decode cL_tryDam 10 = .ok (.ireturn, 1) := by decide +kernel
theorem dL_tryDam_11 : decode cL_tryDam 11 = .ok (.astore_n 3, 1) := by decide +kernel
theorem dL_tryDam_12 : decode cL_tryDam 12 = .ok (.ldc 26, 2) := by decide +kernel
theorem dL_tryDam_14 : decode cL_tryDam 14 = .ok (.ireturn, 1) := by decide +kernel
set_option maxRecDepth 20000 in
theorem ggL_tryFlood_X6_flood : GoodIn wsL_tryFlood wsX6_flood := goodIn_ca (goodIn_r _ [7, 8, 9, 10, 11, 12, 13, 14, 15, 16, 17, 18, 19, 20, 21, 22, 23, 24, 25, 26, 27, 28, 29, 30, 31, 32, 33, 34, 35, 36, 37, 38, 39, 40, 41, 42, 43, 44, 45, 6, 46, 47, 48, 49, 50, 51, 52, 53, 54, 55, 56, 57, 58, 59, 60, 61, 62, 63, 64, 65, 66, 67, 68, 69, 70, 71, 72, 73, 74, 75, 76, 77, 78, 79, 80, 81, 82, 83, 84, 85, 86, 87, 88, 89, 90, 91, 92, 93, 94, 95, 96, 97, 98, 99, 100, 101, 102, 103, 104, 105, 106, 107, 108, 109, 110, 111, 112, 113, 114, 115, 116, 117, 118, 119, 120, 121, 122, 123, 124, 125, 126, 127, 128, 129, 130, 131, 132, 133, 134, 135, 136, 137, 138, 139, 140, 141] (by decide +kernel) (by decide +kernel)) (goodIn_sub (fun _ h => List.mem_cons_of_mem _ (List.mem_append_right _ h)) (by decide +kernel))
set_option maxRecDepth 20000 in
theorem gL_tryFlood_X6_flood : GoodIn wsL_tryFlood (wsV RL 57 RX6 yX6_flood wsX6_flood) := goodIn_app (goodIn_of _ (by decide +kernel)) ggL_tryFlood_X6_flood
theorem dL_tryFlood_0 : decode cL_tryFlood 0 = .ok (.aload_n 0, 1) := by decide +kernel
theorem dL_tryFlood_1 : decode cL_tryFlood 1 = .ok (.invokevirtual 57, 3) := by decide +kernel
theorem dL_tryFlood_4 : decode cL_tryFlood 4 = .ok (.ireturn, 1) := by decide +kernel
theorem dL_tryFlood_5 : decode cL_tryFlood 5 = .ok (.astore_n 1, 1) := by decide +kernel
theorem dL_tryFlood_6 : decode cL_tryFlood 6 = .ok (.ldc 26, 2) := by decide +kernel
theorem dL_tryFlood_8 : decode cL_tryFlood 8 = .ok (.ireturn, 1) := by decide +kernel
theorem t_doSimulate (l : Launch) (hst : l.stackTraces = false) (D : va_G) (E : Nat → ClassId) (o : Nat) (M : bM) (x1 : Int64) (x2 : Int32) (hc : (f_X6_simulate M x1 x2).1 = 0 ∨ (f_X6_simulate M x1 x2).1 = 1) : vx_Met l yL_doSimulate wsL_doSimulate (rmX 7) (lP D E [.ref o, .long x1, .int x2] (fun H => bk D E LRM o M H) (rA o)) (lQ (fun r H => r = cdF (f_X6_simulate M x1 x2) ∧ bk D E LRM o (f_X6_simulate M x1 x2).2.2 H) (rA o)) xNo 1 6 (rA o) := by
  refine vx_ofWH (cc := cL_doSimulate) (maxL := 5) (ret := some .int) (hh := [(0, 6, 7, 13)]) (by decide) rfl ?_
  intro p e s m args below meth c s₁ B hml hv
  obtain ⟨rfl, hB, hKX, hZ, hNc⟩ := hv
  have hx := B.exec
  have hb := B.bytes
  have hr := B.returns
  have hts := atoms_spec (ws := wsL_doSimulate) B.pre
  have hown : s.vm.findClass RL = some m.cls := findClass_of_methodNamed B.named
  have hlocks := B.notSynchronized
  have hT := ex_one (ex_tab (hh := [(0, 6, 7, 13)]) B (hts _ List.mem_cons_self))
  have hS : va_S (rA o) s.heap s.heap [] := ⟨Nat.le_refl _, fun _ _ _ => rfl, fun _ h => by cases h⟩
  have hl := lv_entry ([.ref o, .long x1, .int x2]) (n := 5) (Nat.le_of_ble_eq_true rfl)
  rw [lg_entry_eq]
  generalize (lg_sl ([.ref o, .long x1, .int x2]) ++ List.replicate (5 - (lg_sl ([.ref o, .long x1, .int x2])).length) Slot.unset).toArray = ls at hl ⊢
  have hl : lv_has ls 5 [(0, .ref o), (1, .long x1), (3, .int x2)] := hl
  have hB : bk D E LRM o M s.heap := hB
  refine lv_aload_n hx hb dL_doSimulate_0 rfl (lv_at hl 0 rfl) ?_
  refine lv_lload_n hx hb dL_doSimulate_1 rfl (lv_at hl 1 rfl) ?_
  refine lv_iload_n hx hb dL_doSimulate_2 rfl (lv_at hl 2 rfl) ?_
  refine h_call (h_runV (As := [.long x1, .int x2]) (rest := []) ⟨hx, hb, hml, hown, hts⟩ (c_X6_simulate l hst D E o M x1 x2) (cwV 2 hts gL_doSimulate_X6_simulate rfl rfl rfl (by decide +kernel) ⟨Nat.le_of_ble_eq_true rfl, Nat.le_of_ble_eq_true rfl⟩) hKX hZ (bk_recv hKX.1.1 hB lay_0 rfl) hB rfl hl rfl (Nat.le_of_ble_eq_true rfl) dL_doSimulate_3 ⟨Nat.le_of_ble_eq_true rfl, Nat.le_of_ble_eq_true rfl⟩) hS (fun _ h => h) (fun en M1 hf H1 locs q9 ce hB hq hS hcell hcv hcl => ?_) (fun r M1 hf H1 locs hB hq hz hS => ?_)
  · obtain ⟨hne, hf⟩ := hf
    rw [hf] at hc ⊢
    rcases hc with hc | hc
    · exact absurd hc hne
    · have hc : en = 1 := hc
      subst hc
      refine h_c1 (en := 1) hown ⟨0, 6, 7, 13⟩ [] hT rfl (by decide) (hts (.classLink RL 13 xIAE) (List.mem_of_getElem? (i := 1) (by decide +kernel))) (cast_of hKX.2.1 (z := xIAE) (by decide)) hcell hcv hcl ?_
      refine lv_astore (lv' := [(4, .ref q9), (0, .ref o), (1, .long x1), (3, .int x2)]) hx hb dL_doSimulate_7 hl (by decide) rfl (fun ls hl => ?_)
      refine lv_ldc (v := (-9999002)) hx hb hown (hts (.constant RL 15 (-9999002)) (List.mem_of_getElem? (i := 2) (by decide +kernel))) dL_doSimulate_9 ?_
      exact xret hx hb hr hlocks hS ⟨rfl, hB⟩ dL_doSimulate_11
  · rw [hf]
    exact xret hx hb hr hlocks hS ⟨rfl, hB⟩ dL_doSimulate_6
theorem t_tryAppend (l : Launch) (hst : l.stackTraces = false) (D : va_G) (E : Nat → ClassId) (o : Nat) (M : bM) (x1 : Int32) (hc : (f_X6_append M x1).1 = 0 ∨ (f_X6_append M x1).1 = 1 ∨ (f_X6_append M x1).1 = 2) : vx_Met l yL_tryAppend wsL_tryAppend (rmX 7) (lP D E [.ref o, .int x1] (fun H => bk D E LRM o M H) (rA o)) (lQ (fun r H => r = cdF (f_X6_append M x1) ∧ bk D E LRM o (f_X6_append M x1).2.2 H) (rA o)) xNo 1 6 (rA o) := by
  refine vx_ofWH (cc := cL_tryAppend) (maxL := 3) (ret := some .int) (hh := [(0, 5, 6, 13), (0, 5, 10, 24)]) (by decide) rfl ?_
  intro p e s m args below meth c s₁ B hml hv
  obtain ⟨rfl, hB, hKX, hZ, hNc⟩ := hv
  have hx := B.exec
  have hb := B.bytes
  have hr := B.returns
  have hts := atoms_spec (ws := wsL_tryAppend) B.pre
  have hown : s.vm.findClass RL = some m.cls := findClass_of_methodNamed B.named
  have hlocks := B.notSynchronized
  have hT := ex_two (ex_tab (hh := [(0, 5, 6, 13), (0, 5, 10, 24)]) B (hts _ List.mem_cons_self))
  have hS : va_S (rA o) s.heap s.heap [] := ⟨Nat.le_refl _, fun _ _ _ => rfl, fun _ h => by cases h⟩
  have hl := lv_entry ([.ref o, .int x1]) (n := 3) (Nat.le_of_ble_eq_true rfl)
  rw [lg_entry_eq]
  generalize (lg_sl ([.ref o, .int x1]) ++ List.replicate (3 - (lg_sl ([.ref o, .int x1])).length) Slot.unset).toArray = ls at hl ⊢
  have hl : lv_has ls 3 [(0, .ref o), (1, .int x1)] := hl
  have hB : bk D E LRM o M s.heap := hB
  refine lv_aload_n hx hb dL_tryAppend_0 rfl (lv_at hl 0 rfl) ?_
  refine lv_iload_n hx hb dL_tryAppend_1 rfl (lv_at hl 1 rfl) ?_
  refine h_call (h_runV (As := [.int x1]) (rest := []) ⟨hx, hb, hml, hown, hts⟩ (c_X6_append l hst D E o M x1) (cwV 1 hts gL_tryAppend_X6_append rfl rfl rfl (by decide +kernel) ⟨Nat.le_of_ble_eq_true rfl, Nat.le_of_ble_eq_true rfl⟩) hKX hZ (bk_recv hKX.1.1 hB lay_0 rfl) hB rfl hl rfl (Nat.le_of_ble_eq_true rfl) dL_tryAppend_2 ⟨Nat.le_of_ble_eq_true rfl, Nat.le_of_ble_eq_true rfl⟩) hS (fun _ h => h) (fun en M1 hf H1 locs q9 ce hB hq hS hcell hcv hcl => ?_) (fun r M1 hf H1 locs hB hq hz hS => ?_)
  · obtain ⟨hne, hf⟩ := hf
    rw [hf] at hc ⊢
    rcases hc with hc | hc | hc
    · exact absurd hc hne
    · have hc : en = 1 := hc
      subst hc
      refine h_c1 (en := 1) hown ⟨0, 5, 6, 13⟩ [⟨0, 5, 10, 24⟩] hT rfl (by decide) (hts (.classLink RL 13 xIAE) (List.mem_of_getElem? (i := 1) (by decide +kernel))) (cast_of hKX.2.1 (z := xIAE) (by decide)) hcell hcv hcl ?_
      refine lv_astore_n (lv' := [(2, .ref q9), (0, .ref o), (1, .int x1)]) hx hb dL_tryAppend_6 rfl hl (by decide) rfl (fun ls hl => ?_)
      refine lv_ldc (v := (-9999002)) hx hb hown (hts (.constant RL 15 (-9999002)) (List.mem_of_getElem? (i := 3) (by decide +kernel))) dL_tryAppend_7 ?_
      exact xret hx hb hr hlocks hS ⟨rfl, hB⟩ dL_tryAppend_9
    · have hc : en = 2 := hc
      subst hc
      refine h_c2 (en := 2) (nm := xIAE) hown ⟨0, 5, 6, 13⟩ ⟨0, 5, 10, 24⟩ [] hT (by decide) (hts (.classLink RL 13 xIAE) (List.mem_of_getElem? (i := 1) (by decide +kernel))) (hNc 0 _ rfl) rfl (by decide) (hts (.classLink RL 24 xISE) (List.mem_of_getElem? (i := 2) (by decide +kernel))) (cast_of hKX.2.1 (z := xISE) (by decide)) hcell hcv hcl ?_
      refine lv_astore_n (lv' := [(2, .ref q9), (0, .ref o), (1, .int x1)]) hx hb dL_tryAppend_10 rfl hl (by decide) rfl (fun ls hl => ?_)
      refine lv_ldc (v := (-9999003)) hx hb hown (hts (.constant RL 26 (-9999003)) (List.mem_of_getElem? (i := 4) (by decide +kernel))) dL_tryAppend_11 ?_
      exact xret hx hb hr hlocks hS ⟨rfl, hB⟩ dL_tryAppend_13
  · rw [hf]
    exact xret hx hb hr hlocks hS ⟨rfl, hB⟩ dL_tryAppend_5
theorem t_tryAbout (l : Launch) (hst : l.stackTraces = false) (D : va_G) (E : Nat → ClassId) (o : Nat) (M : bM) (x1 : Int32) (hc : (f_X6_about M x1).1 = 0 ∨ (f_X6_about M x1).1 = 1) : vx_Met l yL_tryAbout wsL_tryAbout (rmX 7) (lP D E [.ref o, .int x1] (fun H => bk D E LRM o M H) (rA o)) (lQ (fun r H => r = cdF (f_X6_about M x1) ∧ bk D E LRM o (f_X6_about M x1).2.2 H) (rA o)) xNo 1 6 (rA o) := by
  refine vx_ofWH (cc := cL_tryAbout) (maxL := 3) (ret := some .int) (hh := [(0, 5, 6, 13)]) (by decide) rfl ?_
  intro p e s m args below meth c s₁ B hml hv
  obtain ⟨rfl, hB, hKX, hZ, hNc⟩ := hv
  have hx := B.exec
  have hb := B.bytes
  have hr := B.returns
  have hts := atoms_spec (ws := wsL_tryAbout) B.pre
  have hown : s.vm.findClass RL = some m.cls := findClass_of_methodNamed B.named
  have hlocks := B.notSynchronized
  have hT := ex_one (ex_tab (hh := [(0, 5, 6, 13)]) B (hts _ List.mem_cons_self))
  have hS : va_S (rA o) s.heap s.heap [] := ⟨Nat.le_refl _, fun _ _ _ => rfl, fun _ h => by cases h⟩
  have hl := lv_entry ([.ref o, .int x1]) (n := 3) (Nat.le_of_ble_eq_true rfl)
  rw [lg_entry_eq]
  generalize (lg_sl ([.ref o, .int x1]) ++ List.replicate (3 - (lg_sl ([.ref o, .int x1])).length) Slot.unset).toArray = ls at hl ⊢
  have hl : lv_has ls 3 [(0, .ref o), (1, .int x1)] := hl
  have hB : bk D E LRM o M s.heap := hB
  refine lv_aload_n hx hb dL_tryAbout_0 rfl (lv_at hl 0 rfl) ?_
  refine lv_iload_n hx hb dL_tryAbout_1 rfl (lv_at hl 1 rfl) ?_
  refine h_call (h_runV (As := [.int x1]) (rest := []) ⟨hx, hb, hml, hown, hts⟩ (c_X6_about l hst D E o M x1) (cwV 1 hts gL_tryAbout_X6_about rfl rfl rfl (by decide +kernel) ⟨Nat.le_of_ble_eq_true rfl, Nat.le_of_ble_eq_true rfl⟩) hKX hZ (bk_recv hKX.1.1 hB lay_0 rfl) hB rfl hl rfl (Nat.le_of_ble_eq_true rfl) dL_tryAbout_2 ⟨Nat.le_of_ble_eq_true rfl, Nat.le_of_ble_eq_true rfl⟩) hS (fun _ h => h) (fun en M1 hf H1 locs q9 ce hB hq hS hcell hcv hcl => ?_) (fun r M1 hf H1 locs hB hq hz hS => ?_)
  · obtain ⟨hne, hf⟩ := hf
    rw [hf] at hc ⊢
    rcases hc with hc | hc
    · exact absurd hc hne
    · have hc : en = 1 := hc
      subst hc
      refine h_c1 (en := 1) hown ⟨0, 5, 6, 13⟩ [] hT rfl (by decide) (hts (.classLink RL 13 xIAE) (List.mem_of_getElem? (i := 1) (by decide +kernel))) (cast_of hKX.2.1 (z := xIAE) (by decide)) hcell hcv hcl ?_
      refine lv_astore_n (lv' := [(2, .ref q9), (0, .ref o), (1, .int x1)]) hx hb dL_tryAbout_6 rfl hl (by decide) rfl (fun ls hl => ?_)
      refine lv_ldc (v := (-9999002)) hx hb hown (hts (.constant RL 15 (-9999002)) (List.mem_of_getElem? (i := 2) (by decide +kernel))) dL_tryAbout_7 ?_
      exact xret hx hb hr hlocks hS ⟨rfl, hB⟩ dL_tryAbout_9
  · rw [hf]
    exact xret hx hb hr hlocks hS ⟨rfl, hB⟩ dL_tryAbout_5
theorem t_tryPlayer (l : Launch) (hst : l.stackTraces = false) (D : va_G) (E : Nat → ClassId) (o : Nat) (M : bM) (x1 : Int32) (x2 : Int32) (hc : (f_X6_playerOf M x1 x2).1 = 0 ∨ (f_X6_playerOf M x1 x2).1 = 3 ∨ (f_X6_playerOf M x1 x2).1 = 1) : vx_Met l yL_tryPlayer wsL_tryPlayer (rmX 7) (lP D E [.ref o, .int x1, .int x2] (fun H => bk D E LRM o M H) (rA o)) (lQ (fun r H => r = cdF (f_X6_playerOf M x1 x2) ∧ bk D E LRM o (f_X6_playerOf M x1 x2).2.2 H) (rA o)) xNo 1 6 (rA o) := by
  refine vx_ofWH (cc := cL_tryPlayer) (maxL := 4) (ret := some .int) (hh := [(0, 6, 7, 38), (0, 6, 11, 13)]) (by decide) rfl ?_
  intro p e s m args below meth c s₁ B hml hv
  obtain ⟨rfl, hB, hKX, hZ, hNc⟩ := hv
  have hx := B.exec
  have hb := B.bytes
  have hr := B.returns
  have hts := atoms_spec (ws := wsL_tryPlayer) B.pre
  have hown : s.vm.findClass RL = some m.cls := findClass_of_methodNamed B.named
  have hlocks := B.notSynchronized
  have hT := ex_two (ex_tab (hh := [(0, 6, 7, 38), (0, 6, 11, 13)]) B (hts _ List.mem_cons_self))
  have hS : va_S (rA o) s.heap s.heap [] := ⟨Nat.le_refl _, fun _ _ _ => rfl, fun _ h => by cases h⟩
  have hl := lv_entry ([.ref o, .int x1, .int x2]) (n := 4) (Nat.le_of_ble_eq_true rfl)
  rw [lg_entry_eq]
  generalize (lg_sl ([.ref o, .int x1, .int x2]) ++ List.replicate (4 - (lg_sl ([.ref o, .int x1, .int x2])).length) Slot.unset).toArray = ls at hl ⊢
  have hl : lv_has ls 4 [(0, .ref o), (1, .int x1), (2, .int x2)] := hl
  have hB : bk D E LRM o M s.heap := hB
  refine lv_aload_n hx hb dL_tryPlayer_0 rfl (lv_at hl 0 rfl) ?_
  refine lv_iload_n hx hb dL_tryPlayer_1 rfl (lv_at hl 1 rfl) ?_
  refine lv_iload_n hx hb dL_tryPlayer_2 rfl (lv_at hl 2 rfl) ?_
  refine h_call (h_runV (As := [.int x1, .int x2]) (rest := []) ⟨hx, hb, hml, hown, hts⟩ (c_X6_playerOf l hst D E o M x1 x2) (cwV 2 hts gL_tryPlayer_X6_playerOf rfl rfl rfl (by decide +kernel) ⟨Nat.le_of_ble_eq_true rfl, Nat.le_of_ble_eq_true rfl⟩) hKX hZ (bk_recv hKX.1.1 hB lay_0 rfl) hB rfl hl rfl (Nat.le_of_ble_eq_true rfl) dL_tryPlayer_3 ⟨Nat.le_of_ble_eq_true rfl, Nat.le_of_ble_eq_true rfl⟩) hS (fun _ h => h) (fun en M1 hf H1 locs q9 ce hB hq hS hcell hcv hcl => ?_) (fun r M1 hf H1 locs hB hq hz hS => ?_)
  · obtain ⟨hne, hf⟩ := hf
    rw [hf] at hc ⊢
    rcases hc with hc | hc | hc
    · exact absurd hc hne
    · have hc : en = 3 := hc
      subst hc
      refine h_c1 (en := 3) hown ⟨0, 6, 7, 38⟩ [⟨0, 6, 11, 13⟩] hT rfl (by decide) (hts (.classLink RL 38 xIOB) (List.mem_of_getElem? (i := 1) (by decide +kernel))) (cast_of hKX.2.1 (z := xIOB) (by decide)) hcell hcv hcl ?_
      refine lv_astore_n (lv' := [(3, .ref q9), (0, .ref o), (1, .int x1), (2, .int x2)]) hx hb dL_tryPlayer_7 rfl hl (by decide) rfl (fun ls hl => ?_)
      refine lv_ldc (v := (-9999001)) hx hb hown (hts (.constant RL 40 (-9999001)) (List.mem_of_getElem? (i := 3) (by decide +kernel))) dL_tryPlayer_8 ?_
      exact xret hx hb hr hlocks hS ⟨rfl, hB⟩ dL_tryPlayer_10
    · have hc : en = 1 := hc
      subst hc
      refine h_c2 (en := 1) (nm := xIOB) hown ⟨0, 6, 7, 38⟩ ⟨0, 6, 11, 13⟩ [] hT (by decide) (hts (.classLink RL 38 xIOB) (List.mem_of_getElem? (i := 1) (by decide +kernel))) (hNc 1 _ rfl) rfl (by decide) (hts (.classLink RL 13 xIAE) (List.mem_of_getElem? (i := 2) (by decide +kernel))) (cast_of hKX.2.1 (z := xIAE) (by decide)) hcell hcv hcl ?_
      refine lv_astore_n (lv' := [(3, .ref q9), (0, .ref o), (1, .int x1), (2, .int x2)]) hx hb dL_tryPlayer_11 rfl hl (by decide) rfl (fun ls hl => ?_)
      refine lv_ldc (v := (-9999002)) hx hb hown (hts (.constant RL 15 (-9999002)) (List.mem_of_getElem? (i := 4) (by decide +kernel))) dL_tryPlayer_12 ?_
      exact xret hx hb hr hlocks hS ⟨rfl, hB⟩ dL_tryPlayer_14
  · rw [hf]
    exact xret hx hb hr hlocks hS ⟨rfl, hB⟩ dL_tryPlayer_6
theorem t_tryCell (l : Launch) (hst : l.stackTraces = false) (D : va_G) (E : Nat → ClassId) (o : Nat) (M : bM) (x1 : Int32) (x2 : Int32) (x3 : Int32) (hc : (f_X6_cellOf M x1 x2 x3).1 = 0 ∨ (f_X6_cellOf M x1 x2 x3).1 = 3 ∨ (f_X6_cellOf M x1 x2 x3).1 = 1) : vx_Met l yL_tryCell wsL_tryCell (rmX 7) (lP D E [.ref o, .int x1, .int x2, .int x3] (fun H => bk D E LRM o M H) (rA o)) (lQ (fun r H => r = cdF (f_X6_cellOf M x1 x2 x3) ∧ bk D E LRM o (f_X6_cellOf M x1 x2 x3).2.2 H) (rA o)) xNo 1 6 (rA o) := by
  refine vx_ofWH (cc := cL_tryCell) (maxL := 5) (ret := some .int) (hh := [(0, 7, 8, 38), (0, 7, 13, 13)]) (by decide) rfl ?_
  intro p e s m args below meth c s₁ B hml hv
  obtain ⟨rfl, hB, hKX, hZ, hNc⟩ := hv
  have hx := B.exec
  have hb := B.bytes
  have hr := B.returns
  have hts := atoms_spec (ws := wsL_tryCell) B.pre
  have hown : s.vm.findClass RL = some m.cls := findClass_of_methodNamed B.named
  have hlocks := B.notSynchronized
  have hT := ex_two (ex_tab (hh := [(0, 7, 8, 38), (0, 7, 13, 13)]) B (hts _ List.mem_cons_self))
  have hS : va_S (rA o) s.heap s.heap [] := ⟨Nat.le_refl _, fun _ _ _ => rfl, fun _ h => by cases h⟩
  have hl := lv_entry ([.ref o, .int x1, .int x2, .int x3]) (n := 5) (Nat.le_of_ble_eq_true rfl)
  rw [lg_entry_eq]
  generalize (lg_sl ([.ref o, .int x1, .int x2, .int x3]) ++ List.replicate (5 - (lg_sl ([.ref o, .int x1, .int x2, .int x3])).length) Slot.unset).toArray = ls at hl ⊢
  have hl : lv_has ls 5 [(0, .ref o), (1, .int x1), (2, .int x2), (3, .int x3)] := hl
  have hB : bk D E LRM o M s.heap := hB
  refine lv_aload_n hx hb dL_tryCell_0 rfl (lv_at hl 0 rfl) ?_
  refine lv_iload_n hx hb dL_tryCell_1 rfl (lv_at hl 1 rfl) ?_
  refine lv_iload_n hx hb dL_tryCell_2 rfl (lv_at hl 2 rfl) ?_
  refine lv_iload_n hx hb dL_tryCell_3 rfl (lv_at hl 3 rfl) ?_
  refine h_call (h_runV (As := [.int x1, .int x2, .int x3]) (rest := []) ⟨hx, hb, hml, hown, hts⟩ (c_X6_cellOf l hst D E o M x1 x2 x3) (cwV 3 hts gL_tryCell_X6_cellOf rfl rfl rfl (by decide +kernel) ⟨Nat.le_of_ble_eq_true rfl, Nat.le_of_ble_eq_true rfl⟩) hKX hZ (bk_recv hKX.1.1 hB lay_0 rfl) hB rfl hl rfl (Nat.le_of_ble_eq_true rfl) dL_tryCell_4 ⟨Nat.le_of_ble_eq_true rfl, Nat.le_of_ble_eq_true rfl⟩) hS (fun _ h => h) (fun en M1 hf H1 locs q9 ce hB hq hS hcell hcv hcl => ?_) (fun r M1 hf H1 locs hB hq hz hS => ?_)
  · obtain ⟨hne, hf⟩ := hf
    rw [hf] at hc ⊢
    rcases hc with hc | hc | hc
    · exact absurd hc hne
    · have hc : en = 3 := hc
      subst hc
      refine h_c1 (en := 3) hown ⟨0, 7, 8, 38⟩ [⟨0, 7, 13, 13⟩] hT rfl (by decide) (hts (.classLink RL 38 xIOB) (List.mem_of_getElem? (i := 1) (by decide +kernel))) (cast_of hKX.2.1 (z := xIOB) (by decide)) hcell hcv hcl ?_
      refine lv_astore (lv' := [(4, .ref q9), (0, .ref o), (1, .int x1), (2, .int x2), (3, .int x3)]) hx hb dL_tryCell_8 hl (by decide) rfl (fun ls hl => ?_)
      refine lv_ldc (v := (-9999001)) hx hb hown (hts (.constant RL 40 (-9999001)) (List.mem_of_getElem? (i := 3) (by decide +kernel))) dL_tryCell_10 ?_
      exact xret hx hb hr hlocks hS ⟨rfl, hB⟩ dL_tryCell_12
    · have hc : en = 1 := hc
      subst hc
      refine h_c2 (en := 1) (nm := xIOB) hown ⟨0, 7, 8, 38⟩ ⟨0, 7, 13, 13⟩ [] hT (by decide) (hts (.classLink RL 38 xIOB) (List.mem_of_getElem? (i := 1) (by decide +kernel))) (hNc 1 _ rfl) rfl (by decide) (hts (.classLink RL 13 xIAE) (List.mem_of_getElem? (i := 2) (by decide +kernel))) (cast_of hKX.2.1 (z := xIAE) (by decide)) hcell hcv hcl ?_
      refine lv_astore (lv' := [(4, .ref q9), (0, .ref o), (1, .int x1), (2, .int x2), (3, .int x3)]) hx hb dL_tryCell_13 hl (by decide) rfl (fun ls hl => ?_)
      refine lv_ldc (v := (-9999002)) hx hb hown (hts (.constant RL 15 (-9999002)) (List.mem_of_getElem? (i := 4) (by decide +kernel))) dL_tryCell_15 ?_
      exact xret hx hb hr hlocks hS ⟨rfl, hB⟩ dL_tryCell_17
  · rw [hf]
    exact xret hx hb hr hlocks hS ⟨rfl, hB⟩ dL_tryCell_7
theorem t_tryCourse (l : Launch) (hst : l.stackTraces = false) (D : va_G) (E : Nat → ClassId) (o : Nat) (M : bM) (x1 : Int32) (x2 : Int32) (hc : (f_X6_course M x1 x2).1 = 0 ∨ (f_X6_course M x1 x2).1 = 3) : vx_Met l yL_tryCourse wsL_tryCourse (rmX 7) (lP D E [.ref o, .int x1, .int x2] (fun H => bk D E LRM o M H) (rA o)) (lQ (fun r H => r = cdF (f_X6_course M x1 x2) ∧ bk D E LRM o (f_X6_course M x1 x2).2.2 H) (rA o)) xNo 1 6 (rA o) := by
  refine vx_ofWH (cc := cL_tryCourse) (maxL := 4) (ret := some .int) (hh := [(0, 6, 7, 38)]) (by decide) rfl ?_
  intro p e s m args below meth c s₁ B hml hv
  obtain ⟨rfl, hB, hKX, hZ, hNc⟩ := hv
  have hx := B.exec
  have hb := B.bytes
  have hr := B.returns
  have hts := atoms_spec (ws := wsL_tryCourse) B.pre
  have hown : s.vm.findClass RL = some m.cls := findClass_of_methodNamed B.named
  have hlocks := B.notSynchronized
  have hT := ex_one (ex_tab (hh := [(0, 6, 7, 38)]) B (hts _ List.mem_cons_self))
  have hS : va_S (rA o) s.heap s.heap [] := ⟨Nat.le_refl _, fun _ _ _ => rfl, fun _ h => by cases h⟩
  have hl := lv_entry ([.ref o, .int x1, .int x2]) (n := 4) (Nat.le_of_ble_eq_true rfl)
  rw [lg_entry_eq]
  generalize (lg_sl ([.ref o, .int x1, .int x2]) ++ List.replicate (4 - (lg_sl ([.ref o, .int x1, .int x2])).length) Slot.unset).toArray = ls at hl ⊢
  have hl : lv_has ls 4 [(0, .ref o), (1, .int x1), (2, .int x2)] := hl
  have hB : bk D E LRM o M s.heap := hB
  refine lv_aload_n hx hb dL_tryCourse_0 rfl (lv_at hl 0 rfl) ?_
  refine lv_iload_n hx hb dL_tryCourse_1 rfl (lv_at hl 1 rfl) ?_
  refine lv_iload_n hx hb dL_tryCourse_2 rfl (lv_at hl 2 rfl) ?_
  refine h_call (h_runV (As := [.int x1, .int x2]) (rest := []) ⟨hx, hb, hml, hown, hts⟩ (c_X6_course l hst D E o M x1 x2) (cwV 2 hts gL_tryCourse_X6_course rfl rfl rfl (by decide +kernel) ⟨Nat.le_of_ble_eq_true rfl, Nat.le_of_ble_eq_true rfl⟩) hKX hZ (bk_recv hKX.1.1 hB lay_0 rfl) hB rfl hl rfl (Nat.le_of_ble_eq_true rfl) dL_tryCourse_3 ⟨Nat.le_of_ble_eq_true rfl, Nat.le_of_ble_eq_true rfl⟩) hS (fun _ h => h) (fun en M1 hf H1 locs q9 ce hB hq hS hcell hcv hcl => ?_) (fun r M1 hf H1 locs hB hq hz hS => ?_)
  · obtain ⟨hne, hf⟩ := hf
    rw [hf] at hc ⊢
    rcases hc with hc | hc
    · exact absurd hc hne
    · have hc : en = 3 := hc
      subst hc
      refine h_c1 (en := 3) hown ⟨0, 6, 7, 38⟩ [] hT rfl (by decide) (hts (.classLink RL 38 xIOB) (List.mem_of_getElem? (i := 1) (by decide +kernel))) (cast_of hKX.2.1 (z := xIOB) (by decide)) hcell hcv hcl ?_
      refine lv_astore_n (lv' := [(3, .ref q9), (0, .ref o), (1, .int x1), (2, .int x2)]) hx hb dL_tryCourse_7 rfl hl (by decide) rfl (fun ls hl => ?_)
      refine lv_ldc (v := (-9999001)) hx hb hown (hts (.constant RL 40 (-9999001)) (List.mem_of_getElem? (i := 2) (by decide +kernel))) dL_tryCourse_8 ?_
      exact xret hx hb hr hlocks hS ⟨rfl, hB⟩ dL_tryCourse_10
  · rw [hf]
    exact xret hx hb hr hlocks hS ⟨rfl, hB⟩ dL_tryCourse_6
theorem t_trySetting (l : Launch) (hst : l.stackTraces = false) (D : va_G) (E : Nat → ClassId) (o : Nat) (M : bM) (x1 : Int32) (hc : (f_X6_setting M x1).1 = 0 ∨ (f_X6_setting M x1).1 = 1) : vx_Met l yL_trySetting wsL_trySetting (rmX 7) (lP D E [.ref o, .int x1] (fun H => bk D E LRM o M H) (rA o)) (lQ (fun r H => r = cdF (f_X6_setting M x1) ∧ bk D E LRM o (f_X6_setting M x1).2.2 H) (rA o)) xNo 1 6 (rA o) := by
  refine vx_ofWH (cc := cL_trySetting) (maxL := 3) (ret := some .int) (hh := [(0, 5, 6, 13)]) (by decide) rfl ?_
  intro p e s m args below meth c s₁ B hml hv
  obtain ⟨rfl, hB, hKX, hZ, hNc⟩ := hv
  have hx := B.exec
  have hb := B.bytes
  have hr := B.returns
  have hts := atoms_spec (ws := wsL_trySetting) B.pre
  have hown : s.vm.findClass RL = some m.cls := findClass_of_methodNamed B.named
  have hlocks := B.notSynchronized
  have hT := ex_one (ex_tab (hh := [(0, 5, 6, 13)]) B (hts _ List.mem_cons_self))
  have hS : va_S (rA o) s.heap s.heap [] := ⟨Nat.le_refl _, fun _ _ _ => rfl, fun _ h => by cases h⟩
  have hl := lv_entry ([.ref o, .int x1]) (n := 3) (Nat.le_of_ble_eq_true rfl)
  rw [lg_entry_eq]
  generalize (lg_sl ([.ref o, .int x1]) ++ List.replicate (3 - (lg_sl ([.ref o, .int x1])).length) Slot.unset).toArray = ls at hl ⊢
  have hl : lv_has ls 3 [(0, .ref o), (1, .int x1)] := hl
  have hB : bk D E LRM o M s.heap := hB
  refine lv_aload_n hx hb dL_trySetting_0 rfl (lv_at hl 0 rfl) ?_
  refine lv_iload_n hx hb dL_trySetting_1 rfl (lv_at hl 1 rfl) ?_
  refine h_call (h_runV (As := [.int x1]) (rest := []) ⟨hx, hb, hml, hown, hts⟩ (c_X6_setting l hst D E o M x1) (cwV 1 hts gL_trySetting_X6_setting rfl rfl rfl (by decide +kernel) ⟨Nat.le_of_ble_eq_true rfl, Nat.le_of_ble_eq_true rfl⟩) hKX hZ (bk_recv hKX.1.1 hB lay_0 rfl) hB rfl hl rfl (Nat.le_of_ble_eq_true rfl) dL_trySetting_2 ⟨Nat.le_of_ble_eq_true rfl, Nat.le_of_ble_eq_true rfl⟩) hS (fun _ h => h) (fun en M1 hf H1 locs q9 ce hB hq hS hcell hcv hcl => ?_) (fun r M1 hf H1 locs hB hq hz hS => ?_)
  · obtain ⟨hne, hf⟩ := hf
    rw [hf] at hc ⊢
    rcases hc with hc | hc
    · exact absurd hc hne
    · have hc : en = 1 := hc
      subst hc
      refine h_c1 (en := 1) hown ⟨0, 5, 6, 13⟩ [] hT rfl (by decide) (hts (.classLink RL 13 xIAE) (List.mem_of_getElem? (i := 1) (by decide +kernel))) (cast_of hKX.2.1 (z := xIAE) (by decide)) hcell hcv hcl ?_
      refine lv_astore_n (lv' := [(2, .ref q9), (0, .ref o), (1, .int x1)]) hx hb dL_trySetting_6 rfl hl (by decide) rfl (fun ls hl => ?_)
      refine lv_ldc (v := (-9999002)) hx hb hown (hts (.constant RL 15 (-9999002)) (List.mem_of_getElem? (i := 2) (by decide +kernel))) dL_trySetting_7 ?_
      exact xret hx hb hr hlocks hS ⟨rfl, hB⟩ dL_trySetting_9
  · rw [hf]
    exact xret hx hb hr hlocks hS ⟨rfl, hB⟩ dL_trySetting_5
theorem t_tryStep (l : Launch) (hst : l.stackTraces = false) (D : va_G) (E : Nat → ClassId) (o : Nat) (M : bM) (x1 : Int32) (hn : vp_in (M 30 1) 14) (hc : (f_X6_step M x1).1 = 0 ∨ (f_X6_step M x1).1 = 1 ∨ (f_X6_step M x1).1 = 2) : vx_Met l yL_tryStep wsL_tryStep (rmX 7) (lP D E [.ref o, .int x1] (fun H => bk D E LRM o M H) (rA o)) (lQ (fun r H => r = cdF (f_X6_step M x1) ∧ bk D E LRM o (f_X6_step M x1).2.2 H) (rA o)) xNo 1 6 (rA o) := by
  refine vx_ofWH (cc := cL_tryStep) (maxL := 3) (ret := some .int) (hh := [(0, 5, 6, 13), (0, 5, 10, 24)]) (by decide) rfl ?_
  intro p e s m args below meth c s₁ B hml hv
  obtain ⟨rfl, hB, hKX, hZ, hNc⟩ := hv
  have hx := B.exec
  have hb := B.bytes
  have hr := B.returns
  have hts := atoms_spec (ws := wsL_tryStep) B.pre
  have hown : s.vm.findClass RL = some m.cls := findClass_of_methodNamed B.named
  have hlocks := B.notSynchronized
  have hT := ex_two (ex_tab (hh := [(0, 5, 6, 13), (0, 5, 10, 24)]) B (hts _ List.mem_cons_self))
  have hS : va_S (rA o) s.heap s.heap [] := ⟨Nat.le_refl _, fun _ _ _ => rfl, fun _ h => by cases h⟩
  have hl := lv_entry ([.ref o, .int x1]) (n := 3) (Nat.le_of_ble_eq_true rfl)
  rw [lg_entry_eq]
  generalize (lg_sl ([.ref o, .int x1]) ++ List.replicate (3 - (lg_sl ([.ref o, .int x1])).length) Slot.unset).toArray = ls at hl ⊢
  have hl : lv_has ls 3 [(0, .ref o), (1, .int x1)] := hl
  have hB : bk D E LRM o M s.heap := hB
  refine lv_aload_n hx hb dL_tryStep_0 rfl (lv_at hl 0 rfl) ?_
  refine lv_iload_n hx hb dL_tryStep_1 rfl (lv_at hl 1 rfl) ?_
  refine h_call (h_runV (As := [.int x1]) (rest := []) ⟨hx, hb, hml, hown, hts⟩ (c_X6_step l hst D E o M x1 hn) (cwV 1 hts gL_tryStep_X6_step rfl rfl rfl (by decide +kernel) ⟨Nat.le_of_ble_eq_true rfl, Nat.le_of_ble_eq_true rfl⟩) hKX hZ (bk_recv hKX.1.1 hB lay_0 rfl) hB rfl hl rfl (Nat.le_of_ble_eq_true rfl) dL_tryStep_2 ⟨Nat.le_of_ble_eq_true rfl, Nat.le_of_ble_eq_true rfl⟩) hS (fun _ h => h) (fun en M1 hf H1 locs q9 ce hB hq hS hcell hcv hcl => ?_) (fun r M1 hf H1 locs hB hq hz hS => ?_)
  · obtain ⟨hne, hf⟩ := hf
    rw [hf] at hc ⊢
    rcases hc with hc | hc | hc
    · exact absurd hc hne
    · have hc : en = 1 := hc
      subst hc
      refine h_c1 (en := 1) hown ⟨0, 5, 6, 13⟩ [⟨0, 5, 10, 24⟩] hT rfl (by decide) (hts (.classLink RL 13 xIAE) (List.mem_of_getElem? (i := 1) (by decide +kernel))) (cast_of hKX.2.1 (z := xIAE) (by decide)) hcell hcv hcl ?_
      refine lv_astore_n (lv' := [(2, .ref q9), (0, .ref o), (1, .int x1)]) hx hb dL_tryStep_6 rfl hl (by decide) rfl (fun ls hl => ?_)
      refine lv_ldc (v := (-9999002)) hx hb hown (hts (.constant RL 15 (-9999002)) (List.mem_of_getElem? (i := 3) (by decide +kernel))) dL_tryStep_7 ?_
      exact xret hx hb hr hlocks hS ⟨rfl, hB⟩ dL_tryStep_9
    · have hc : en = 2 := hc
      subst hc
      refine h_c2 (en := 2) (nm := xIAE) hown ⟨0, 5, 6, 13⟩ ⟨0, 5, 10, 24⟩ [] hT (by decide) (hts (.classLink RL 13 xIAE) (List.mem_of_getElem? (i := 1) (by decide +kernel))) (hNc 0 _ rfl) rfl (by decide) (hts (.classLink RL 24 xISE) (List.mem_of_getElem? (i := 2) (by decide +kernel))) (cast_of hKX.2.1 (z := xISE) (by decide)) hcell hcv hcl ?_
      refine lv_astore_n (lv' := [(2, .ref q9), (0, .ref o), (1, .int x1)]) hx hb dL_tryStep_10 rfl hl (by decide) rfl (fun ls hl => ?_)
      refine lv_ldc (v := (-9999003)) hx hb hown (hts (.constant RL 26 (-9999003)) (List.mem_of_getElem? (i := 4) (by decide +kernel))) dL_tryStep_11 ?_
      exact xret hx hb hr hlocks hS ⟨rfl, hB⟩ dL_tryStep_13
  · rw [hf]
    exact xret hx hb hr hlocks hS ⟨rfl, hB⟩ dL_tryStep_5
theorem t_tryDam (l : Launch) (hst : l.stackTraces = false) (D : va_G) (E : Nat → ClassId) (o : Nat) (M : bM) (x1 : Int32) (x2 : Int32) (hn : vp_in (M 30 1) 14) (hc : (f_X6_dam M x1 x2).1 = 0 ∨ (f_X6_dam M x1 x2).1 = 3 ∨ (f_X6_dam M x1 x2).1 = 2) : vx_Met l yL_tryDam wsL_tryDam (rmX 7) (lP D E [.ref o, .int x1, .int x2] (fun H => bk D E LRM o M H) (rA o)) (lQ (fun r H => r = cdF (f_X6_dam M x1 x2) ∧ bk D E LRM o (f_X6_dam M x1 x2).2.2 H) (rA o)) xNo 1 6 (rA o) := by
  refine vx_ofWH (cc := cL_tryDam) (maxL := 4) (ret := some .int) (hh := [(0, 6, 7, 38), (0, 6, 11, 24)]) (by decide) rfl ?_
  intro p e s m args below meth c s₁ B hml hv
  obtain ⟨rfl, hB, hKX, hZ, hNc⟩ := hv
  have hx := B.exec
  have hb := B.bytes
  have hr := B.returns
  have hts := atoms_spec (ws := wsL_tryDam) B.pre
  have hown : s.vm.findClass RL = some m.cls := findClass_of_methodNamed B.named
  have hlocks := B.notSynchronized
  have hT := ex_two (ex_tab (hh := [(0, 6, 7, 38), (0, 6, 11, 24)]) B (hts _ List.mem_cons_self))
  have hS : va_S (rA o) s.heap s.heap [] := ⟨Nat.le_refl _, fun _ _ _ => rfl, fun _ h => by cases h⟩
  have hl := lv_entry ([.ref o, .int x1, .int x2]) (n := 4) (Nat.le_of_ble_eq_true rfl)
  rw [lg_entry_eq]
  generalize (lg_sl ([.ref o, .int x1, .int x2]) ++ List.replicate (4 - (lg_sl ([.ref o, .int x1, .int x2])).length) Slot.unset).toArray = ls at hl ⊢
  have hl : lv_has ls 4 [(0, .ref o), (1, .int x1), (2, .int x2)] := hl
  have hB : bk D E LRM o M s.heap := hB
  refine lv_aload_n hx hb dL_tryDam_0 rfl (lv_at hl 0 rfl) ?_
  refine lv_iload_n hx hb dL_tryDam_1 rfl (lv_at hl 1 rfl) ?_
  refine lv_iload_n hx hb dL_tryDam_2 rfl (lv_at hl 2 rfl) ?_
  refine h_call (h_runV (As := [.int x1, .int x2]) (rest := []) ⟨hx, hb, hml, hown, hts⟩ (c_X6_dam l hst D E o M x1 x2 hn) (cwV 2 hts gL_tryDam_X6_dam rfl rfl rfl (by decide +kernel) ⟨Nat.le_of_ble_eq_true rfl, Nat.le_of_ble_eq_true rfl⟩) hKX hZ (bk_recv hKX.1.1 hB lay_0 rfl) hB rfl hl rfl (Nat.le_of_ble_eq_true rfl) dL_tryDam_3 ⟨Nat.le_of_ble_eq_true rfl, Nat.le_of_ble_eq_true rfl⟩) hS (fun _ h => h) (fun en M1 hf H1 locs q9 ce hB hq hS hcell hcv hcl => ?_) (fun r M1 hf H1 locs hB hq hz hS => ?_)
  · obtain ⟨hne, hf⟩ := hf
    rw [hf] at hc ⊢
    rcases hc with hc | hc | hc
    · exact absurd hc hne
    · have hc : en = 3 := hc
      subst hc
      refine h_c1 (en := 3) hown ⟨0, 6, 7, 38⟩ [⟨0, 6, 11, 24⟩] hT rfl (by decide) (hts (.classLink RL 38 xIOB) (List.mem_of_getElem? (i := 1) (by decide +kernel))) (cast_of hKX.2.1 (z := xIOB) (by decide)) hcell hcv hcl ?_
      refine lv_astore_n (lv' := [(3, .ref q9), (0, .ref o), (1, .int x1), (2, .int x2)]) hx hb dL_tryDam_7 rfl hl (by decide) rfl (fun ls hl => ?_)
      refine lv_ldc (v := (-9999001)) hx hb hown (hts (.constant RL 40 (-9999001)) (List.mem_of_getElem? (i := 3) (by decide +kernel))) dL_tryDam_8 ?_
      exact xret hx hb hr hlocks hS ⟨rfl, hB⟩ dL_tryDam_10
    · have hc : en = 2 := hc
      subst hc
      refine h_c2 (en := 2) (nm := xIOB) hown ⟨0, 6, 7, 38⟩ ⟨0, 6, 11, 24⟩ [] hT (by decide) (hts (.classLink RL 38 xIOB) (List.mem_of_getElem? (i := 1) (by decide +kernel))) (hNc 2 _ rfl) rfl (by decide) (hts (.classLink RL 24 xISE) (List.mem_of_getElem? (i := 2) (by decide +kernel))) (cast_of hKX.2.1 (z := xISE) (by decide)) hcell hcv hcl ?_
      refine lv_astore_n (lv' := [(3, .ref q9), (0, .ref o), (1, .int x1), (2, .int x2)]) hx hb dL_tryDam_11 rfl hl (by decide) rfl (fun ls hl => ?_)
      refine lv_ldc (v := (-9999003)) hx hb hown (hts (.constant RL 26 (-9999003)) (List.mem_of_getElem? (i := 4) (by decide +kernel))) dL_tryDam_12 ?_
      exact xret hx hb hr hlocks hS ⟨rfl, hB⟩ dL_tryDam_14
  · rw [hf]
    exact xret hx hb hr hlocks hS ⟨rfl, hB⟩ dL_tryDam_6
theorem t_tryFlood (l : Launch) (hst : l.stackTraces = false) (D : va_G) (E : Nat → ClassId) (o : Nat) (M : bM) (hn : vp_in (M 30 1) 14) (hc : (f_X6_flood M).1 = 0 ∨ (f_X6_flood M).1 = 2) : vx_Met l yL_tryFlood wsL_tryFlood (rmX 7) (lP D E [.ref o] (fun H => bk D E LRM o M H) (rA o)) (lQ (fun r H => r = cdF (f_X6_flood M) ∧ bk D E LRM o (f_X6_flood M).2.2 H) (rA o)) xNo 1 6 (rA o) := by
  refine vx_ofWH (cc := cL_tryFlood) (maxL := 2) (ret := some .int) (hh := [(0, 4, 5, 24)]) (by decide) rfl ?_
  intro p e s m args below meth c s₁ B hml hv
  obtain ⟨rfl, hB, hKX, hZ, hNc⟩ := hv
  have hx := B.exec
  have hb := B.bytes
  have hr := B.returns
  have hts := atoms_spec (ws := wsL_tryFlood) B.pre
  have hown : s.vm.findClass RL = some m.cls := findClass_of_methodNamed B.named
  have hlocks := B.notSynchronized
  have hT := ex_one (ex_tab (hh := [(0, 4, 5, 24)]) B (hts _ List.mem_cons_self))
  have hS : va_S (rA o) s.heap s.heap [] := ⟨Nat.le_refl _, fun _ _ _ => rfl, fun _ h => by cases h⟩
  have hl := lv_entry ([.ref o]) (n := 2) (Nat.le_of_ble_eq_true rfl)
  rw [lg_entry_eq]
  generalize (lg_sl ([.ref o]) ++ List.replicate (2 - (lg_sl ([.ref o])).length) Slot.unset).toArray = ls at hl ⊢
  have hl : lv_has ls 2 [(0, .ref o)] := hl
  have hB : bk D E LRM o M s.heap := hB
  refine lv_aload_n hx hb dL_tryFlood_0 rfl (lv_at hl 0 rfl) ?_
  refine h_call (h_runV (As := []) (rest := []) ⟨hx, hb, hml, hown, hts⟩ (c_X6_flood l hst D E o M hn) (cwV 0 hts gL_tryFlood_X6_flood rfl rfl rfl (by decide +kernel) ⟨Nat.le_of_ble_eq_true rfl, Nat.le_of_ble_eq_true rfl⟩) hKX hZ (bk_recv hKX.1.1 hB lay_0 rfl) hB rfl hl rfl (Nat.le_of_ble_eq_true rfl) dL_tryFlood_1 ⟨Nat.le_of_ble_eq_true rfl, Nat.le_of_ble_eq_true rfl⟩) hS (fun _ h => h) (fun en M1 hf H1 locs q9 ce hB hq hS hcell hcv hcl => ?_) (fun r M1 hf H1 locs hB hq hz hS => ?_)
  · obtain ⟨hne, hf⟩ := hf
    rw [hf] at hc ⊢
    rcases hc with hc | hc
    · exact absurd hc hne
    · have hc : en = 2 := hc
      subst hc
      refine h_c1 (en := 2) hown ⟨0, 4, 5, 24⟩ [] hT rfl (by decide) (hts (.classLink RL 24 xISE) (List.mem_of_getElem? (i := 1) (by decide +kernel))) (cast_of hKX.2.1 (z := xISE) (by decide)) hcell hcv hcl ?_
      refine lv_astore_n (lv' := [(1, .ref q9), (0, .ref o)]) hx hb dL_tryFlood_5 rfl hl (by decide) rfl (fun ls hl => ?_)
      refine lv_ldc (v := (-9999003)) hx hb hown (hts (.constant RL 26 (-9999003)) (List.mem_of_getElem? (i := 2) (by decide +kernel))) dL_tryFlood_6 ?_
      exact xret hx hb hr hlocks hS ⟨rfl, hB⟩ dL_tryFlood_8
  · rw [hf]
    exact xret hx hb hr hlocks hS ⟨rfl, hB⟩ dL_tryFlood_4
