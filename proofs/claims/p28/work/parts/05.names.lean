set_option maxRecDepth 20000 in
theorem ggX6_cellOf_X6_cellAt : GoodIn wsX6_cellOf wsX6_cellAt := goodIn_r _ [11] (by decide +kernel) (by decide +kernel)
set_option maxRecDepth 20000 in
theorem gX6_cellOf_X6_cellAt : GoodIn wsX6_cellOf (va_wsS RX6 168 yX6_cellAt wsX6_cellAt) := goodIn_app (goodIn_of _ (by decide +kernel)) ggX6_cellOf_X6_cellAt
set_option maxRecDepth 20000 in
theorem ggX6_cellOf_X2_costOf : GoodIn wsX6_cellOf wsX2_costOf := goodIn_r _ [16, 17, 60, 61, 62, 63, 64, 65, 66, 67] (by decide +kernel) (by decide +kernel)
set_option maxRecDepth 20000 in
theorem gX6_cellOf_X2_costOf : GoodIn wsX6_cellOf (wsV RX6 178 RX2 yX2_costOf wsX2_costOf) := goodIn_app (goodIn_of _ (by decide +kernel)) ggX6_cellOf_X2_costOf
set_option maxRecDepth 20000 in
theorem ggX6_cellOf_X0_contentOf : GoodIn wsX6_cellOf wsX0_contentOf := goodIn_r _ [22, 23, 24, 25, 26, 27, 21, 28, 29, 30, 10, 31, 32, 33, 34, 15, 35, 36, 48, 49, 50, 51, 52, 53, 54, 55, 56, 57, 58, 59, 60, 61, 62, 63, 64, 65, 66, 67] (by decide +kernel) (by decide +kernel)
set_option maxRecDepth 20000 in
theorem gX6_cellOf_X0_contentOf : GoodIn wsX6_cellOf (wsV RX6 185 RX0 yX0_contentOf wsX0_contentOf) := goodIn_app (goodIn_of _ (by decide +kernel)) ggX6_cellOf_X0_contentOf
set_option maxRecDepth 20000 in
theorem ggX6_cellOf_X0_stoodAt : GoodIn wsX6_cellOf wsX0_stoodAt := goodIn_r _ [40, 29, 30, 10, 31, 48, 49, 50, 51, 52, 53, 54, 55, 56, 57, 58, 59] (by decide +kernel) (by decide +kernel)
set_option maxRecDepth 20000 in
theorem gX6_cellOf_X0_stoodAt : GoodIn wsX6_cellOf (wsV RX6 188 RX0 yX0_stoodAt wsX0_stoodAt) := goodIn_app (goodIn_of _ (by decide +kernel)) ggX6_cellOf_X0_stoodAt
theorem dX6_cellOf_0 : decode cX6_cellOf 0 = .ok (.iload_n 1, 1) := by decide +kernel
theorem dX6_cellOf_1 : decode cX6_cellOf 1 = .ok (.iload_n 2, 1) := by decide +kernel
theorem dX6_cellOf_2 : decode cX6_cellOf 2 = .ok (.invokestatic 168, 3) := by decide +kernel
theorem dX6_cellOf_5 : decode cX6_cellOf 5 = .ok (.istore 4, 2) := by decide +kernel
theorem dX6_cellOf_7 : decode cX6_cellOf 7 = .ok (.iload 4, 2) := by decide +kernel
theorem dX6_cellOf_9 : decode cX6_cellOf 9 = .ok (.iconst (-1), 1) := by decide +kernel
theorem dX6_cellOf_10 : decode cX6_cellOf 10 = .ok (.if_icmp .ne 13, 3) := by decide +kernel
theorem dX6_cellOf_13 : decode cX6_cellOf 13 = .ok (.new 139, 3) := by decide +kernel
theorem dX6_cellOf_16 : decode cX6_cellOf 16 = .ok (.dup, 1) := by decide +kernel
theorem dX6_cellOf_17 : decode cX6_cellOf 17 = .ok (.ldc 172, 2) := by decide +kernel
theorem dX6_cellOf_19 : decode cX6_cellOf 19 = .ok (.invokespecial 143, 3) := by decide +kernel
theorem dX6_cellOf_22 : decode cX6_cellOf 22 = .ok (.athrow, 1) := by decide +kernel
theorem dX6_cellOf_23 : decode cX6_cellOf 23 = .ok (.iload_n 3, 1) := by decide +kernel
theorem dX6_cellOf_24 : decode cX6_cellOf 24 = .ok (.tableswitch 78 0 3 #[32, 45, 58, 68], 32) := by decide +kernel
theorem dX6_cellOf_56 : decode cX6_cellOf 56 = .ok (.aload_n 0, 1) := by decide +kernel
theorem dX6_cellOf_57 : decode cX6_cellOf 57 = .ok (.getfield 19, 3) := by decide +kernel
theorem dX6_cellOf_60 : decode cX6_cellOf 60 = .ok (.getfield 174, 3) := by decide +kernel
theorem dX6_cellOf_63 : decode cX6_cellOf 63 = .ok (.iload 4, 2) := by decide +kernel
theorem dX6_cellOf_65 : decode cX6_cellOf 65 = .ok (.invokevirtual 178, 3) := by decide +kernel
theorem dX6_cellOf_68 : decode cX6_cellOf 68 = .ok (.ireturn, 1) := by decide +kernel
theorem dX6_cellOf_69 : decode cX6_cellOf 69 = .ok (.aload_n 0, 1) := by decide +kernel
theorem dX6_cellOf_70 : decode cX6_cellOf 70 = .ok (.getfield 19, 3) := by decide +kernel
theorem dX6_cellOf_73 : decode cX6_cellOf 73 = .ok (.getfield 182, 3) := by decide +kernel
theorem dX6_cellOf_76 : decode cX6_cellOf 76 = .ok (.iload 4, 2) := by decide +kernel
theorem dX6_cellOf_78 : decode cX6_cellOf 78 = .ok (.invokevirtual 178, 3) := by decide +kernel
theorem dX6_cellOf_81 : decode cX6_cellOf 81 = .ok (.ireturn, 1) := by decide +kernel
theorem dX6_cellOf_82 : decode cX6_cellOf 82 = .ok (.aload_n 0, 1) := by decide +kernel
theorem dX6_cellOf_83 : decode cX6_cellOf 83 = .ok (.getfield 19, 3) := by decide +kernel
theorem dX6_cellOf_86 : decode cX6_cellOf 86 = .ok (.iload 4, 2) := by decide +kernel
theorem dX6_cellOf_88 : decode cX6_cellOf 88 = .ok (.invokevirtual 185, 3) := by decide +kernel
theorem dX6_cellOf_91 : decode cX6_cellOf 91 = .ok (.ireturn, 1) := by decide +kernel
theorem dX6_cellOf_92 : decode cX6_cellOf 92 = .ok (.aload_n 0, 1) := by decide +kernel
theorem dX6_cellOf_93 : decode cX6_cellOf 93 = .ok (.getfield 19, 3) := by decide +kernel
theorem dX6_cellOf_96 : decode cX6_cellOf 96 = .ok (.iload 4, 2) := by decide +kernel
theorem dX6_cellOf_98 : decode cX6_cellOf 98 = .ok (.invokevirtual 188, 3) := by decide +kernel
theorem dX6_cellOf_101 : decode cX6_cellOf 101 = .ok (.ireturn, 1) := by decide +kernel
theorem dX6_cellOf_102 : decode cX6_cellOf 102 = .ok (.new 53, 3) := by decide +kernel
theorem dX6_cellOf_105 : decode cX6_cellOf 105 = .ok (.dup, 1) := by decide +kernel
theorem dX6_cellOf_106 : decode cX6_cellOf 106 = .ok (.ldc 191, 2) := by decide +kernel
theorem dX6_cellOf_108 : decode cX6_cellOf 108 = .ok (.invokespecial 57, 3) := by decide +kernel
theorem dX6_cellOf_111 : decode cX6_cellOf 111 = .ok (.athrow, 1) := by decide +kernel
set_option maxRecDepth 20000 in
theorem ggX6_course_X6_isPlayer : GoodIn wsX6_course wsX6_isPlayer := goodIn_r _ [7] (by decide +kernel) (by decide +kernel)
set_option maxRecDepth 20000 in
theorem gX6_course_X6_isPlayer : GoodIn wsX6_course (va_wsS RX6 136 yX6_isPlayer wsX6_isPlayer) := goodIn_app (goodIn_of _ (by decide +kernel)) ggX6_course_X6_isPlayer
set_option maxRecDepth 20000 in
theorem ggX6_course_X0_sideOf : GoodIn wsX6_course wsX0_sideOf := goodIn_r _ [12, 13, 14, 31, 32, 33, 34, 35, 36, 37, 38, 39, 40, 41, 42] (by decide +kernel) (by decide +kernel)
set_option maxRecDepth 20000 in
theorem gX6_course_X0_sideOf : GoodIn wsX6_course (wsV RX6 144 RX0 yX0_sideOf wsX0_sideOf) := goodIn_app (goodIn_of _ (by decide +kernel)) ggX6_course_X0_sideOf
set_option maxRecDepth 20000 in
theorem ggX6_course_X2_placeAt : GoodIn wsX6_course wsX2_placeAt := goodIn_r _ [19, 20, 21, 22, 6, 23, 43, 44, 45, 46, 47, 48, 49, 50] (by decide +kernel) (by decide +kernel)
set_option maxRecDepth 20000 in
theorem gX6_course_X2_placeAt : GoodIn wsX6_course (wsV RX6 193 RX2 yX2_placeAt wsX2_placeAt) := goodIn_app (goodIn_of _ (by decide +kernel)) ggX6_course_X2_placeAt
theorem dX6_course_0 : decode cX6_course 0 = .ok (.iload_n 1, 1) := by decide +kernel
theorem dX6_course_1 : decode cX6_course 1 = .ok (.invokestatic 136, 3) := by decide +kernel
theorem dX6_course_4 : decode cX6_course 4 = .ok (.ifCond .ne 13, 3) := by decide +kernel
theorem dX6_course_7 : decode cX6_course 7 = .ok (.new 139, 3) := by decide +kernel
theorem dX6_course_10 : decode cX6_course 10 = .ok (.dup, 1) := by decide +kernel
theorem dX6_course_11 : decode cX6_course 11 = .ok (.ldc 141, 2) := by decide +kernel
theorem dX6_course_13 : decode cX6_course 13 = .ok (.invokespecial 143, 3) := by decide +kernel
theorem dX6_course_16 : decode cX6_course 16 = .ok (.athrow, 1) := by decide +kernel
theorem dX6_course_17 : decode cX6_course 17 = .ok (.aload_n 0, 1) := by decide +kernel
theorem dX6_course_18 : decode cX6_course 18 = .ok (.getfield 19, 3) := by decide +kernel
theorem dX6_course_21 : decode cX6_course 21 = .ok (.iload_n 1, 1) := by decide +kernel
theorem dX6_course_22 : decode cX6_course 22 = .ok (.invokevirtual 144, 3) := by decide +kernel
theorem dX6_course_25 : decode cX6_course 25 = .ok (.iload_n 2, 1) := by decide +kernel
theorem dX6_course_26 : decode cX6_course 26 = .ok (.invokevirtual 193, 3) := by decide +kernel
theorem dX6_course_29 : decode cX6_course 29 = .ok (.istore_n 3, 1) := by decide +kernel
theorem dX6_course_30 : decode cX6_course 30 = .ok (.iload_n 3, 1) := by decide +kernel
theorem dX6_course_31 : decode cX6_course 31 = .ok (.iconst (-1), 1) := by decide +kernel
theorem dX6_course_32 : decode cX6_course 32 = .ok (.if_icmp .ne 13, 3) := by decide +kernel
theorem dX6_course_35 : decode cX6_course 35 = .ok (.new 139, 3) := by decide +kernel
theorem dX6_course_38 : decode cX6_course 38 = .ok (.dup, 1) := by decide +kernel
theorem dX6_course_39 : decode cX6_course 39 = .ok (.ldc 196, 2) := by decide +kernel
theorem dX6_course_41 : decode cX6_course 41 = .ok (.invokespecial 143, 3) := by decide +kernel
theorem dX6_course_44 : decode cX6_course 44 = .ok (.athrow, 1) := by decide +kernel
theorem dX6_course_45 : decode cX6_course 45 = .ok (.iload_n 3, 1) := by decide +kernel
theorem dX6_course_46 : decode cX6_course 46 = .ok (.ireturn, 1) := by decide +kernel
set_option maxRecDepth 20000 in
theorem ggX6_setting_X0_settingOf : GoodIn wsX6_setting wsX0_settingOf := goodIn_r _ [8, 9, 10, 18, 19, 20, 21, 22, 23, 24, 25, 26, 27, 28, 29] (by decide +kernel) (by decide +kernel)
set_option maxRecDepth 20000 in
theorem gX6_setting_X0_settingOf : GoodIn wsX6_setting (wsV RX6 200 RX0 yX0_settingOf wsX0_settingOf) := goodIn_app (goodIn_of _ (by decide +kernel)) ggX6_setting_X0_settingOf
theorem dX6_setting_0 : decode cX6_setting 0 = .ok (.iload_n 1, 1) := by decide +kernel
theorem dX6_setting_1 : decode cX6_setting 1 = .ok (.ifCond .eq 18, 3) := by decide +kernel
theorem dX6_setting_4 : decode cX6_setting 4 = .ok (.iload_n 1, 1) := by decide +kernel
theorem dX6_setting_5 : decode cX6_setting 5 = .ok (.iconst 1, 1) := by decide +kernel
theorem dX6_setting_6 : decode cX6_setting 6 = .ok (.if_icmp .eq 13, 3) := by decide +kernel
theorem dX6_setting_9 : decode cX6_setting 9 = .ok (.new 53, 3) := by decide +kernel
theorem dX6_setting_12 : decode cX6_setting 12 = .ok (.dup, 1) := by decide +kernel
theorem dX6_setting_13 : decode cX6_setting 13 = .ok (.ldc 198, 2) := by decide +kernel
theorem dX6_setting_15 : decode cX6_setting 15 = .ok (.invokespecial 57, 3) := by decide +kernel
theorem dX6_setting_18 : decode cX6_setting 18 = .ok (.athrow, 1) := by decide +kernel
theorem dX6_setting_19 : decode cX6_setting 19 = .ok (.aload_n 0, 1) := by decide +kernel
theorem dX6_setting_20 : decode cX6_setting 20 = .ok (.getfield 19, 3) := by decide +kernel
theorem dX6_setting_23 : decode cX6_setting 23 = .ok (.iload_n 1, 1) := by decide +kernel
theorem dX6_setting_24 : decode cX6_setting 24 = .ok (.invokevirtual 200, 3) := by decide +kernel
theorem dX6_setting_27 : decode cX6_setting 27 = .ok (.ireturn, 1) := by decide +kernel
set_option maxRecDepth 20000 in
theorem ggX6_game_X1_remember : GoodIn wsX6_game wsX1_remember := goodIn_r _ [8, 9, 10, 11, 12, 13, 14, 15, 16, 17, 7, 18, 19, 20, 21, 22, 23, 24, 25, 26, 27, 28, 29, 30, 31, 32, 33, 34, 35, 36, 37, 38, 39, 40, 41, 42, 43, 44, 45, 46, 47, 48, 49, 50, 51, 52, 101, 102, 103, 89, 90, 91, 92, 93, 94, 95, 96, 97, 98, 99, 100, 104, 105, 106, 107, 108, 109, 110, 111] (by decide +kernel) (by decide +kernel)
set_option maxRecDepth 20000 in
theorem gX6_game_X1_remember : GoodIn wsX6_game (wsV RX6 203 RX1 yX1_remember wsX1_remember) := goodIn_app (goodIn_of _ (by decide +kernel)) ggX6_game_X1_remember
set_option maxRecDepth 20000 in
theorem ggX6_game_X0_beginGame : GoodIn wsX6_game wsX0_beginGame := goodIn_r _ [56, 27, 25, 26, 30, 31, 32, 33, 34, 57, 58, 59, 23, 60, 61, 62, 51, 63, 64, 65, 66, 67, 68, 69, 70, 71, 72, 73, 74, 40, 75, 44, 45, 46, 47, 76, 77, 78, 79, 43, 80, 81, 89, 90, 91, 92, 93, 94, 95, 96, 97, 98, 99, 100, 104, 105, 106, 107, 108, 109, 110, 111] (by decide +kernel) (by decide +kernel)
set_option maxRecDepth 20000 in
theorem gX6_game_X0_beginGame : GoodIn wsX6_game (wsV RX6 207 RX0 yX0_beginGame wsX0_beginGame) := goodIn_app (goodIn_of _ (by decide +kernel)) ggX6_game_X0_beginGame
theorem dX6_game_0 : decode cX6_game 0 = .ok (.aload_n 0, 1) := by decide +kernel
theorem dX6_game_1 : decode cX6_game 1 = .ok (.getfield 36, 3) := by decide +kernel
theorem dX6_game_4 : decode cX6_game 4 = .ok (.aload_n 0, 1) := by decide +kernel
theorem dX6_game_5 : decode cX6_game 5 = .ok (.getfield 19, 3) := by decide +kernel
theorem dX6_game_8 : decode cX6_game 8 = .ok (.invokevirtual 203, 3) := by decide +kernel
theorem dX6_game_11 : decode cX6_game 11 = .ok (.aload_n 0, 1) := by decide +kernel
theorem dX6_game_12 : decode cX6_game 12 = .ok (.getfield 19, 3) := by decide +kernel
theorem dX6_game_15 : decode cX6_game 15 = .ok (.lload_n 1, 1) := by decide +kernel
theorem dX6_game_16 : decode cX6_game 16 = .ok (.invokevirtual 207, 3) := by decide +kernel
theorem dX6_game_19 : decode cX6_game 19 = .ok (.aload_n 0, 1) := by decide +kernel
theorem dX6_game_20 : decode cX6_game 20 = .ok (.getfield 19, 3) := by decide +kernel
theorem dX6_game_23 : decode cX6_game 23 = .ok (.getfield 104, 3) := by decide +kernel
theorem dX6_game_26 : decode cX6_game 26 = .ok (.ireturn, 1) := by decide +kernel
set_option maxRecDepth 20000 in
theorem ggX6_step_X6_isDirection : GoodIn wsX6_step wsX6_isDirection := goodIn_r _ [10] (by decide +kernel) (by decide +kernel)
set_option maxRecDepth 20000 in
theorem gX6_step_X6_isDirection : GoodIn wsX6_step (va_wsS RX6 211 yX6_isDirection wsX6_isDirection) := goodIn_app (goodIn_of _ (by decide +kernel)) ggX6_step_X6_isDirection
set_option maxRecDepth 20000 in
theorem ggX6_step_X0_isOver : GoodIn wsX6_step wsX0_isOver := goodIn_r _ [15, 16, 17, 18, 14, 19, 20, 21, 132, 133, 134, 135, 136, 137, 138, 139, 140, 141, 142, 143] (by decide +kernel) (by decide +kernel)
set_option maxRecDepth 20000 in
theorem gX6_step_X0_isOver : GoodIn wsX6_step (wsV RX6 110 RX0 yX0_isOver wsX0_isOver) := goodIn_app (goodIn_of _ (by decide +kernel)) ggX6_step_X0_isOver
set_option maxRecDepth 20000 in
theorem ggX6_step_X1_remember : GoodIn wsX6_step wsX1_remember := goodIn_r _ [26, 27, 28, 29, 30, 31, 32, 33, 34, 35, 25, 36, 37, 38, 39, 40, 14, 41, 42, 43, 44, 45, 46, 47, 21, 48, 20, 49, 50, 51, 52, 53, 54, 55, 56, 57, 58, 59, 60, 61, 62, 63, 64, 65, 9, 66, 144, 145, 146, 132, 133, 134, 135, 136, 137, 138, 139, 140, 141, 142, 143, 147, 148, 149, 150, 151, 152, 153, 154] (by decide +kernel) (by decide +kernel)
set_option maxRecDepth 20000 in
theorem gX6_step_X1_remember : GoodIn wsX6_step (wsV RX6 203 RX1 yX1_remember wsX1_remember) := goodIn_app (goodIn_of _ (by decide +kernel)) ggX6_step_X1_remember
set_option maxRecDepth 20000 in
theorem ggX6_step_X0_tryStep : GoodIn wsX6_step wsX0_tryStep := goodIn_r _ [70, 50, 71, 72, 73, 14, 74, 48, 75, 76, 77, 78, 42, 43, 79, 80, 81, 55, 82, 60, 58, 83, 9, 84, 85, 86, 87, 88, 89, 90, 91, 92, 93, 94, 44, 95, 96, 97, 98, 59, 99, 100, 101, 102, 103, 104, 105, 106, 107, 108, 109, 110, 20, 46, 111, 49, 112, 113, 114, 115, 116, 57, 117, 118, 119, 120, 61, 64, 121, 122, 123, 124, 21, 45, 132, 133, 134, 135, 136, 137, 138, 139, 140, 141, 142, 143, 147, 148, 149, 150, 151, 152, 153, 154] (by decide +kernel) (by decide +kernel)
set_option maxRecDepth 20000 in
theorem gX6_step_X0_tryStep : GoodIn wsX6_step (wsV RX6 218 RX0 yX0_tryStep wsX0_tryStep) := goodIn_app (goodIn_of _ (by decide +kernel)) ggX6_step_X0_tryStep
theorem dX6_step_0 : decode cX6_step 0 = .ok (.iload_n 1, 1) := by decide +kernel
theorem dX6_step_1 : decode cX6_step 1 = .ok (.invokestatic 211, 3) := by decide +kernel
theorem dX6_step_4 : decode cX6_step 4 = .ok (.ifCond .ne 13, 3) := by decide +kernel
theorem dX6_step_7 : decode cX6_step 7 = .ok (.new 53, 3) := by decide +kernel
theorem dX6_step_10 : decode cX6_step 10 = .ok (.dup, 1) := by decide +kernel
theorem dX6_step_11 : decode cX6_step 11 = .ok (.ldc 214, 2) := by decide +kernel
theorem dX6_step_13 : decode cX6_step 13 = .ok (.invokespecial 57, 3) := by decide +kernel
theorem dX6_step_16 : decode cX6_step 16 = .ok (.athrow, 1) := by decide +kernel
theorem dX6_step_17 : decode cX6_step 17 = .ok (.aload_n 0, 1) := by decide +kernel
theorem dX6_step_18 : decode cX6_step 18 = .ok (.getfield 19, 3) := by decide +kernel
theorem dX6_step_21 : decode cX6_step 21 = .ok (.invokevirtual 110, 3) := by decide +kernel
theorem dX6_step_24 : decode cX6_step 24 = .ok (.ifCond .eq 13, 3) := by decide +kernel
theorem dX6_step_27 : decode cX6_step 27 = .ok (.new 64, 3) := by decide +kernel
theorem dX6_step_30 : decode cX6_step 30 = .ok (.dup, 1) := by decide +kernel
theorem dX6_step_31 : decode cX6_step 31 = .ok (.ldc 216, 2) := by decide +kernel
theorem dX6_step_33 : decode cX6_step 33 = .ok (.invokespecial 68, 3) := by decide +kernel
theorem dX6_step_36 : decode cX6_step 36 = .ok (.athrow, 1) := by decide +kernel
theorem dX6_step_37 : decode cX6_step 37 = .ok (.aload_n 0, 1) := by decide +kernel
theorem dX6_step_38 : decode cX6_step 38 = .ok (.getfield 36, 3) := by decide +kernel
theorem dX6_step_41 : decode cX6_step 41 = .ok (.aload_n 0, 1) := by decide +kernel
theorem dX6_step_42 : decode cX6_step 42 = .ok (.getfield 19, 3) := by decide +kernel
theorem dX6_step_45 : decode cX6_step 45 = .ok (.invokevirtual 203, 3) := by decide +kernel
theorem dX6_step_48 : decode cX6_step 48 = .ok (.aload_n 0, 1) := by decide +kernel
theorem dX6_step_49 : decode cX6_step 49 = .ok (.getfield 19, 3) := by decide +kernel
theorem dX6_step_52 : decode cX6_step 52 = .ok (.iload_n 1, 1) := by decide +kernel
theorem dX6_step_53 : decode cX6_step 53 = .ok (.invokevirtual 218, 3) := by decide +kernel
theorem dX6_step_56 : decode cX6_step 56 = .ok (.ireturn, 1) := by decide +kernel
set_option maxRecDepth 20000 in
theorem ggX6_dam_X6_cellAt : GoodIn wsX6_dam wsX6_cellAt := goodIn_r _ [11] (by decide +kernel) (by decide +kernel)
set_option maxRecDepth 20000 in
theorem gX6_dam_X6_cellAt : GoodIn wsX6_dam (va_wsS RX6 168 yX6_cellAt wsX6_cellAt) := goodIn_app (goodIn_of _ (by decide +kernel)) ggX6_dam_X6_cellAt
set_option maxRecDepth 20000 in
theorem ggX6_dam_X0_isOver : GoodIn wsX6_dam wsX0_isOver := goodIn_r _ [16, 17, 18, 19, 15, 20, 21, 22, 140, 141, 142, 143, 144, 145, 146, 147, 148, 149, 150, 151] (by decide +kernel) (by decide +kernel)
set_option maxRecDepth 20000 in
theorem gX6_dam_X0_isOver : GoodIn wsX6_dam (wsV RX6 110 RX0 yX0_isOver wsX0_isOver) := goodIn_app (goodIn_of _ (by decide +kernel)) ggX6_dam_X0_isOver
set_option maxRecDepth 20000 in
theorem ggX6_dam_X1_remember : GoodIn wsX6_dam wsX1_remember := goodIn_r _ [27, 28, 29, 30, 31, 32, 33, 34, 35, 36, 26, 37, 38, 39, 40, 41, 15, 42, 43, 44, 45, 46, 47, 48, 22, 49, 21, 50, 51, 52, 53, 54, 55, 56, 57, 58, 59, 60, 61, 62, 63, 64, 65, 66, 10, 67, 152, 153, 154, 140, 141, 142, 143, 144, 145, 146, 147, 148, 149, 150, 151, 155, 156, 157, 158, 159, 160, 161, 162] (by decide +kernel) (by decide +kernel)
set_option maxRecDepth 20000 in
theorem gX6_dam_X1_remember : GoodIn wsX6_dam (wsV RX6 203 RX1 yX1_remember wsX1_remember) := goodIn_app (goodIn_of _ (by decide +kernel)) ggX6_dam_X1_remember
set_option maxRecDepth 20000 in
theorem ggX6_dam_X0_tryDam : GoodIn wsX6_dam wsX0_tryDam := goodIn_r _ [71, 51, 72, 73, 74, 15, 75, 49, 76, 77, 78, 79, 80, 43, 44, 81, 82, 83, 84, 45, 85, 10, 86, 87, 88, 89, 56, 90, 60, 91, 92, 93, 94, 95, 96, 97, 98, 99, 100, 101, 102, 103, 104, 105, 106, 107, 108, 109, 110, 111, 112, 61, 59, 113, 114, 115, 116, 117, 118, 119, 120, 121, 122, 123, 124, 125, 126, 127, 128, 129, 130, 131, 132, 22, 46, 140, 141, 142, 143, 144, 145, 146, 147, 148, 149, 150, 151, 155, 156, 157, 158, 159, 160, 161, 162, 163, 164, 165, 166, 167, 168] (by decide +kernel) (by decide +kernel)
set_option maxRecDepth 20000 in
theorem gX6_dam_X0_tryDam : GoodIn wsX6_dam (wsV RX6 221 RX0 yX0_tryDam wsX0_tryDam) := goodIn_app (goodIn_of _ (by decide +kernel)) ggX6_dam_X0_tryDam
theorem dX6_dam_0 : decode cX6_dam 0 = .ok (.iload_n 1, 1) := by decide +kernel
theorem dX6_dam_1 : decode cX6_dam 1 = .ok (.iload_n 2, 1) := by decide +kernel
theorem dX6_dam_2 : decode cX6_dam 2 = .ok (.invokestatic 168, 3) := by decide +kernel
theorem dX6_dam_5 : decode cX6_dam 5 = .ok (.istore_n 3, 1) := by decide +kernel
theorem dX6_dam_6 : decode cX6_dam 6 = .ok (.iload_n 3, 1) := by decide +kernel
theorem dX6_dam_7 : decode cX6_dam 7 = .ok (.iconst (-1), 1) := by decide +kernel
theorem dX6_dam_8 : decode cX6_dam 8 = .ok (.if_icmp .ne 13, 3) := by decide +kernel
theorem dX6_dam_11 : decode cX6_dam 11 = .ok (.new 139, 3) := by decide +kernel
theorem dX6_dam_14 : decode cX6_dam 14 = .ok (.dup, 1) := by decide +kernel
theorem dX6_dam_15 : decode cX6_dam 15 = .ok (.ldc 172, 2) := by decide +kernel
theorem dX6_dam_17 : decode cX6_dam 17 = .ok (.invokespecial 143, 3) := by decide +kernel
theorem dX6_dam_20 : decode cX6_dam 20 = .ok (.athrow, 1) := by decide +kernel
theorem dX6_dam_21 : decode cX6_dam 21 = .ok (.aload_n 0, 1) := by decide +kernel
theorem dX6_dam_22 : decode cX6_dam 22 = .ok (.getfield 19, 3) := by decide +kernel
theorem dX6_dam_25 : decode cX6_dam 25 = .ok (.invokevirtual 110, 3) := by decide +kernel
theorem dX6_dam_28 : decode cX6_dam 28 = .ok (.ifCond .eq 13, 3) := by decide +kernel
theorem dX6_dam_31 : decode cX6_dam 31 = .ok (.new 64, 3) := by decide +kernel
theorem dX6_dam_34 : decode cX6_dam 34 = .ok (.dup, 1) := by decide +kernel
theorem dX6_dam_35 : decode cX6_dam 35 = .ok (.ldc 216, 2) := by decide +kernel
theorem dX6_dam_37 : decode cX6_dam 37 = .ok (.invokespecial 68, 3) := by decide +kernel
theorem dX6_dam_40 : decode cX6_dam 40 = .ok (.athrow, 1) := by decide +kernel
theorem dX6_dam_41 : decode cX6_dam 41 = .ok (.aload_n 0, 1) := by decide +kernel
theorem dX6_dam_42 : decode cX6_dam 42 = .ok (.getfield 36, 3) := by decide +kernel
theorem dX6_dam_45 : decode cX6_dam 45 = .ok (.aload_n 0, 1) := by decide +kernel
theorem dX6_dam_46 : decode cX6_dam 46 = .ok (.getfield 19, 3) := by decide +kernel
theorem dX6_dam_49 : decode cX6_dam 49 = .ok (.invokevirtual 203, 3) := by decide +kernel
theorem dX6_dam_52 : decode cX6_dam 52 = .ok (.aload_n 0, 1) := by decide +kernel
theorem dX6_dam_53 : decode cX6_dam 53 = .ok (.getfield 19, 3) := by decide +kernel
theorem dX6_dam_56 : decode cX6_dam 56 = .ok (.iload_n 3, 1) := by decide +kernel
theorem dX6_dam_57 : decode cX6_dam 57 = .ok (.aload_n 0, 1) := by decide +kernel
theorem dX6_dam_58 : decode cX6_dam 58 = .ok (.getfield 29, 3) := by decide +kernel
theorem dX6_dam_61 : decode cX6_dam 61 = .ok (.invokevirtual 221, 3) := by decide +kernel
theorem dX6_dam_64 : decode cX6_dam 64 = .ok (.ireturn, 1) := by decide +kernel
set_option maxRecDepth 20000 in
theorem ggX6_flood_X0_canFlood : GoodIn wsX6_flood wsX0_canFlood := goodIn_r _ [9, 10, 11, 12, 8, 13, 14, 15, 16, 17, 18, 19, 20, 21, 22, 23, 24, 25, 26, 27, 28, 29, 30, 31, 32, 33, 34, 35, 36, 37, 38, 39, 40, 41, 42, 43, 44, 45, 46, 47, 48, 49, 50, 51, 52, 53, 54, 55, 56, 113, 114, 115, 116, 117, 118, 119, 120, 121, 122, 123, 124, 125, 126, 127, 128, 129, 130, 131, 132] (by decide +kernel) (by decide +kernel)
set_option maxRecDepth 20000 in
theorem gX6_flood_X0_canFlood : GoodIn wsX6_flood (wsV RX6 225 RX0 yX0_canFlood wsX0_canFlood) := goodIn_app (goodIn_of _ (by decide +kernel)) ggX6_flood_X0_canFlood
set_option maxRecDepth 20000 in
theorem ggX6_flood_X1_remember : GoodIn wsX6_flood wsX1_remember := goodIn_r _ [61, 62, 63, 64, 65, 66, 67, 68, 69, 70, 60, 71, 72, 73, 74, 75, 8, 76, 29, 30, 51, 77, 78, 79, 19, 24, 18, 80, 81, 82, 83, 84, 85, 34, 86, 87, 37, 56, 36, 88, 89, 90, 91, 92, 39, 93, 133, 134, 135, 113, 114, 115, 116, 117, 118, 119, 120, 121, 122, 123, 124, 125, 126, 127, 128, 129, 130, 131, 132] (by decide +kernel) (by decide +kernel)
set_option maxRecDepth 20000 in
theorem gX6_flood_X1_remember : GoodIn wsX6_flood (wsV RX6 203 RX1 yX1_remember wsX1_remember) := goodIn_app (goodIn_of _ (by decide +kernel)) ggX6_flood_X1_remember
set_option maxRecDepth 20000 in
theorem ggX6_flood_X0_washAway : GoodIn wsX6_flood wsX0_washAway := goodIn_r _ [97, 24, 51, 82, 25, 26, 27, 8, 28, 29, 30, 31, 32, 33, 34, 35, 36, 37, 38, 39, 40, 41, 42, 43, 44, 45, 46, 98, 99, 100, 101, 88, 91, 102, 103, 104, 105, 19, 77, 113, 114, 115, 116, 117, 118, 119, 120, 121, 122, 123, 124, 125, 126, 127, 128, 129, 130, 131, 132] (by decide +kernel) (by decide +kernel)
set_option maxRecDepth 20000 in
theorem gX6_flood_X0_washAway : GoodIn wsX6_flood (wsV RX6 230 RX0 yX0_washAway wsX0_washAway) := goodIn_app (goodIn_of _ (by decide +kernel)) ggX6_flood_X0_washAway
theorem dX6_flood_0 : decode cX6_flood 0 = .ok (.aload_n 0, 1) := by decide +kernel
theorem dX6_flood_1 : decode cX6_flood 1 = .ok (.getfield 19, 3) := by decide +kernel
theorem dX6_flood_4 : decode cX6_flood 4 = .ok (.invokevirtual 225, 3) := by decide +kernel
theorem dX6_flood_7 : decode cX6_flood 7 = .ok (.ifCond .ne 13, 3) := by decide +kernel
theorem dX6_flood_10 : decode cX6_flood 10 = .ok (.new 64, 3) := by decide +kernel
theorem dX6_flood_13 : decode cX6_flood 13 = .ok (.dup, 1) := by decide +kernel
theorem dX6_flood_14 : decode cX6_flood 14 = .ok (.ldc 228, 2) := by decide +kernel
theorem dX6_flood_16 : decode cX6_flood 16 = .ok (.invokespecial 68, 3) := by decide +kernel
theorem dX6_flood_19 : decode cX6_flood 19 = .ok (.athrow, 1) := by decide +kernel
theorem dX6_flood_20 : decode cX6_flood 20 = .ok (.aload_n 0, 1) := by decide +kernel
theorem dX6_flood_21 : decode cX6_flood 21 = .ok (.getfield 36, 3) := by decide +kernel
theorem dX6_flood_24 : decode cX6_flood 24 = .ok (.aload_n 0, 1) := by decide +kernel
theorem dX6_flood_25 : decode cX6_flood 25 = .ok (.getfield 19, 3) := by decide +kernel
theorem dX6_flood_28 : decode cX6_flood 28 = .ok (.invokevirtual 203, 3) := by decide +kernel
theorem dX6_flood_31 : decode cX6_flood 31 = .ok (.aload_n 0, 1) := by decide +kernel
theorem dX6_flood_32 : decode cX6_flood 32 = .ok (.getfield 19, 3) := by decide +kernel
theorem dX6_flood_35 : decode cX6_flood 35 = .ok (.invokevirtual 230, 3) := by decide +kernel
theorem dX6_flood_38 : decode cX6_flood 38 = .ok (.ireturn, 1) := by decide +kernel
set_option maxRecDepth 20000 in
theorem ggX6_set_X6_isSettingValue : GoodIn wsX6_set wsX6_isSettingValue := goodIn_r _ [8] (by decide +kernel) (by decide +kernel)
set_option maxRecDepth 20000 in
theorem gX6_set_X6_isSettingValue : GoodIn wsX6_set (va_wsS RX6 233 yX6_isSettingValue wsX6_isSettingValue) := goodIn_app (goodIn_of _ (by decide +kernel)) ggX6_set_X6_isSettingValue
set_option maxRecDepth 20000 in
theorem ggX6_set_X1_remember : GoodIn wsX6_set wsX1_remember := goodIn_r _ [13, 14, 15, 16, 17, 18, 19, 20, 21, 22, 12, 23, 24, 25, 26, 27, 28, 29, 30, 31, 32, 33, 34, 35, 36, 37, 38, 39, 40, 41, 42, 43, 44, 45, 46, 47, 48, 49, 50, 51, 52, 53, 54, 55, 7, 56, 72, 73, 74, 75, 76, 77, 78, 79, 80, 81, 82, 83, 84, 85, 86, 87, 88, 89, 90, 91, 92, 93, 94] (by decide +kernel) (by decide +kernel)
set_option maxRecDepth 20000 in
theorem gX6_set_X1_remember : GoodIn wsX6_set (wsV RX6 203 RX1 yX1_remember wsX1_remember) := goodIn_app (goodIn_of _ (by decide +kernel)) ggX6_set_X1_remember
set_option maxRecDepth 20000 in
theorem ggX6_set_X0_changeSetting : GoodIn wsX6_set wsX0_changeSetting := goodIn_r _ [60, 33, 34, 61, 62, 63, 28, 64, 75, 76, 77, 78, 79, 80, 81, 82, 83, 84, 85, 86] (by decide +kernel) (by decide +kernel)
set_option maxRecDepth 20000 in
theorem gX6_set_X0_changeSetting : GoodIn wsX6_set (wsV RX6 239 RX0 yX0_changeSetting wsX0_changeSetting) := goodIn_app (goodIn_of _ (by decide +kernel)) ggX6_set_X0_changeSetting
theorem dX6_set_0 : decode cX6_set 0 = .ok (.iload_n 1, 1) := by decide +kernel
theorem dX6_set_1 : decode cX6_set 1 = .ok (.iload_n 2, 1) := by decide +kernel
theorem dX6_set_2 : decode cX6_set 2 = .ok (.invokestatic 233, 3) := by decide +kernel
theorem dX6_set_5 : decode cX6_set 5 = .ok (.ifCond .ne 13, 3) := by decide +kernel
theorem dX6_set_8 : decode cX6_set 8 = .ok (.new 53, 3) := by decide +kernel
theorem dX6_set_11 : decode cX6_set 11 = .ok (.dup, 1) := by decide +kernel
theorem dX6_set_12 : decode cX6_set 12 = .ok (.ldc 237, 2) := by decide +kernel
theorem dX6_set_14 : decode cX6_set 14 = .ok (.invokespecial 57, 3) := by decide +kernel
theorem dX6_set_17 : decode cX6_set 17 = .ok (.athrow, 1) := by decide +kernel
theorem dX6_set_18 : decode cX6_set 18 = .ok (.aload_n 0, 1) := by decide +kernel
theorem dX6_set_19 : decode cX6_set 19 = .ok (.getfield 36, 3) := by decide +kernel
theorem dX6_set_22 : decode cX6_set 22 = .ok (.aload_n 0, 1) := by decide +kernel
theorem dX6_set_23 : decode cX6_set 23 = .ok (.getfield 19, 3) := by decide +kernel
theorem dX6_set_26 : decode cX6_set 26 = .ok (.invokevirtual 203, 3) := by decide +kernel
theorem dX6_set_29 : decode cX6_set 29 = .ok (.aload_n 0, 1) := by decide +kernel
theorem dX6_set_30 : decode cX6_set 30 = .ok (.getfield 19, 3) := by decide +kernel
theorem dX6_set_33 : decode cX6_set 33 = .ok (.iload_n 1, 1) := by decide +kernel
theorem dX6_set_34 : decode cX6_set 34 = .ok (.iload_n 2, 1) := by decide +kernel
theorem dX6_set_35 : decode cX6_set 35 = .ok (.invokevirtual 239, 3) := by decide +kernel
theorem dX6_set_38 : decode cX6_set 38 = .ok (.ireturn, 1) := by decide +kernel
set_option maxRecDepth 20000 in
theorem ggX6_undo_X1_takeBack : GoodIn wsX6_undo wsX1_takeBack := goodIn_r _ [10, 11, 12, 13, 14, 15, 9, 16, 17, 18, 19, 20, 21, 22, 23, 24, 25, 26, 27, 28, 29, 30, 31, 32, 33, 34, 35, 36, 37, 38, 39, 40, 41, 42, 43, 44, 45, 46, 47, 48, 49, 50, 58, 59, 60, 61, 62, 63, 64, 65, 66, 67, 68, 69, 70, 71, 72, 73, 74, 75, 76, 77, 78, 79, 80] (by decide +kernel) (by decide +kernel)
set_option maxRecDepth 20000 in
theorem gX6_undo_X1_takeBack : GoodIn wsX6_undo (wsV RX6 247 RX1 yX1_takeBack wsX1_takeBack) := goodIn_app (goodIn_of _ (by decide +kernel)) ggX6_undo_X1_takeBack
theorem dX6_undo_0 : decode cX6_undo 0 = .ok (.aload_n 0, 1) := by decide +kernel
theorem dX6_undo_1 : decode cX6_undo 1 = .ok (.getfield 36, 3) := by decide +kernel
theorem dX6_undo_4 : decode cX6_undo 4 = .ok (.getfield 242, 3) := by decide +kernel
theorem dX6_undo_7 : decode cX6_undo 7 = .ok (.ifCond .gt 13, 3) := by decide +kernel
theorem dX6_undo_10 : decode cX6_undo 10 = .ok (.new 64, 3) := by decide +kernel
theorem dX6_undo_13 : decode cX6_undo 13 = .ok (.dup, 1) := by decide +kernel
theorem dX6_undo_14 : decode cX6_undo 14 = .ok (.ldc 245, 2) := by decide +kernel
theorem dX6_undo_16 : decode cX6_undo 16 = .ok (.invokespecial 68, 3) := by decide +kernel
theorem dX6_undo_19 : decode cX6_undo 19 = .ok (.athrow, 1) := by decide +kernel
theorem dX6_undo_20 : decode cX6_undo 20 = .ok (.aload_n 0, 1) := by decide +kernel
theorem dX6_undo_21 : decode cX6_undo 21 = .ok (.getfield 36, 3) := by decide +kernel
theorem dX6_undo_24 : decode cX6_undo 24 = .ok (.aload_n 0, 1) := by decide +kernel
theorem dX6_undo_25 : decode cX6_undo 25 = .ok (.getfield 19, 3) := by decide +kernel
theorem dX6_undo_28 : decode cX6_undo 28 = .ok (.invokevirtual 247, 3) := by decide +kernel
theorem dX6_undo_31 : decode cX6_undo 31 = .ok (.aload_n 0, 1) := by decide +kernel
theorem dX6_undo_32 : decode cX6_undo 32 = .ok (.getfield 36, 3) := by decide +kernel
theorem dX6_undo_35 : decode cX6_undo 35 = .ok (.getfield 242, 3) := by decide +kernel
theorem dX6_undo_38 : decode cX6_undo 38 = .ok (.ireturn, 1) := by decide +kernel
set_option maxRecDepth 20000 in
theorem ggX6_why_X6_isDirection : GoodIn wsX6_why wsX6_isDirection := goodIn_r _ [7] (by decide +kernel) (by decide +kernel)
set_option maxRecDepth 20000 in
theorem gX6_why_X6_isDirection : GoodIn wsX6_why (va_wsS RX6 211 yX6_isDirection wsX6_isDirection) := goodIn_app (goodIn_of _ (by decide +kernel)) ggX6_why_X6_isDirection
set_option maxRecDepth 20000 in
theorem ggX6_why_X0_isOver : GoodIn wsX6_why wsX0_isOver := goodIn_r _ [12, 13, 14, 15, 11, 16, 17, 18, 62, 63, 64, 65, 66, 67, 68, 69, 70, 71, 72, 73] (by decide +kernel) (by decide +kernel)
set_option maxRecDepth 20000 in
theorem gX6_why_X0_isOver : GoodIn wsX6_why (wsV RX6 110 RX0 yX0_isOver wsX0_isOver) := goodIn_app (goodIn_of _ (by decide +kernel)) ggX6_why_X0_isOver
set_option maxRecDepth 20000 in
theorem ggX6_why_X0_reasonAgainstStep : GoodIn wsX6_why wsX0_reasonAgainstStep := goodIn_r _ [22, 23, 24, 25, 26, 11, 27, 28, 29, 30, 31, 32, 33, 34, 35, 36, 37, 6, 38, 39, 40, 41, 42, 43, 44, 45, 46, 47, 48, 49, 50, 51, 52, 53, 54, 62, 63, 64, 65, 66, 67, 68, 69, 70, 71, 72, 73, 74, 75, 76, 77, 78, 79, 80, 81] (by decide +kernel) (by decide +kernel)
set_option maxRecDepth 20000 in
theorem gX6_why_X0_reasonAgainstStep : GoodIn wsX6_why (wsV RX6 250 RX0 yX0_reasonAgainstStep wsX0_reasonAgainstStep) := goodIn_app (goodIn_of _ (by decide +kernel)) ggX6_why_X0_reasonAgainstStep
theorem dX6_why_0 : decode cX6_why 0 = .ok (.iload_n 1, 1) := by decide +kernel
theorem dX6_why_1 : decode cX6_why 1 = .ok (.invokestatic 211, 3) := by decide +kernel
theorem dX6_why_4 : decode cX6_why 4 = .ok (.ifCond .ne 13, 3) := by decide +kernel
theorem dX6_why_7 : decode cX6_why 7 = .ok (.new 53, 3) := by decide +kernel
theorem dX6_why_10 : decode cX6_why 10 = .ok (.dup, 1) := by decide +kernel
theorem dX6_why_11 : decode cX6_why 11 = .ok (.ldc 214, 2) := by decide +kernel
theorem dX6_why_13 : decode cX6_why 13 = .ok (.invokespecial 57, 3) := by decide +kernel
theorem dX6_why_16 : decode cX6_why 16 = .ok (.athrow, 1) := by decide +kernel
theorem dX6_why_17 : decode cX6_why 17 = .ok (.aload_n 0, 1) := by decide +kernel
theorem dX6_why_18 : decode cX6_why 18 = .ok (.getfield 19, 3) := by decide +kernel
theorem dX6_why_21 : decode cX6_why 21 = .ok (.invokevirtual 110, 3) := by decide +kernel
theorem dX6_why_24 : decode cX6_why 24 = .ok (.ifCond .eq 7, 3) := by decide +kernel
theorem dX6_why_27 : decode cX6_why 27 = .ok (.iconst (-1), 1) := by decide +kernel
theorem dX6_why_28 : decode cX6_why 28 = .ok (.goto 11, 3) := by decide +kernel
theorem dX6_why_31 : decode cX6_why 31 = .ok (.aload_n 0, 1) := by decide +kernel
theorem dX6_why_32 : decode cX6_why 32 = .ok (.getfield 19, 3) := by decide +kernel
theorem dX6_why_35 : decode cX6_why 35 = .ok (.iload_n 1, 1) := by decide +kernel
theorem dX6_why_36 : decode cX6_why 36 = .ok (.invokevirtual 250, 3) := by decide +kernel
theorem dX6_why_39 : decode cX6_why 39 = .ok (.ireturn, 1) := by decide +kernel
set_option maxRecDepth 20000 in
theorem ggX6_whyDam_X6_cellAt : GoodIn wsX6_whyDam wsX6_cellAt := goodIn_r _ [8] (by decide +kernel) (by decide +kernel)
set_option maxRecDepth 20000 in
theorem gX6_whyDam_X6_cellAt : GoodIn wsX6_whyDam (va_wsS RX6 168 yX6_cellAt wsX6_cellAt) := goodIn_app (goodIn_of _ (by decide +kernel)) ggX6_whyDam_X6_cellAt
set_option maxRecDepth 20000 in
theorem ggX6_whyDam_X0_isOver : GoodIn wsX6_whyDam wsX0_isOver := goodIn_r _ [13, 14, 15, 16, 12, 17, 18, 19, 88, 89, 90, 91, 92, 93, 94, 95, 96, 97, 98, 99] (by decide +kernel) (by decide +kernel)
set_option maxRecDepth 20000 in
theorem gX6_whyDam_X0_isOver : GoodIn wsX6_whyDam (wsV RX6 110 RX0 yX0_isOver wsX0_isOver) := goodIn_app (goodIn_of _ (by decide +kernel)) ggX6_whyDam_X0_isOver
set_option maxRecDepth 20000 in
theorem ggX6_whyDam_X0_reasonAgainstDam : GoodIn wsX6_whyDam wsX0_reasonAgainstDam := goodIn_r _ [23, 24, 25, 26, 27, 28, 12, 29, 30, 31, 32, 33, 34, 35, 36, 37, 7, 38, 39, 40, 41, 42, 43, 44, 45, 46, 47, 48, 49, 50, 51, 52, 53, 54, 55, 56, 57, 58, 59, 60, 61, 62, 63, 64, 65, 66, 67, 68, 69, 70, 71, 72, 73, 74, 75, 76, 77, 78, 79, 80, 88, 89, 90, 91, 92, 93, 94, 95, 96, 97, 98, 99, 100, 101, 102, 103, 104, 105, 106, 107, 108, 109, 110, 111, 112, 113] (by decide +kernel) (by decide +kernel)
set_option maxRecDepth 20000 in
theorem gX6_whyDam_X0_reasonAgainstDam : GoodIn wsX6_whyDam (wsV RX6 253 RX0 yX0_reasonAgainstDam wsX0_reasonAgainstDam) := goodIn_app (goodIn_of _ (by decide +kernel)) ggX6_whyDam_X0_reasonAgainstDam
theorem dX6_whyDam_0 : decode cX6_whyDam 0 = .ok (.iload_n 1, 1) := by decide +kernel
theorem dX6_whyDam_1 : decode cX6_whyDam 1 = .ok (.iload_n 2, 1) := by decide +kernel
theorem dX6_whyDam_2 : decode cX6_whyDam 2 = .ok (.invokestatic 168, 3) := by decide +kernel
theorem dX6_whyDam_5 : decode cX6_whyDam 5 = .ok (.istore_n 3, 1) := by decide +kernel
theorem dX6_whyDam_6 : decode cX6_whyDam 6 = .ok (.iload_n 3, 1) := by decide +kernel
theorem dX6_whyDam_7 : decode cX6_whyDam 7 = .ok (.iconst (-1), 1) := by decide +kernel
theorem dX6_whyDam_8 : decode cX6_whyDam 8 = .ok (.if_icmp .ne 13, 3) := by decide +kernel
theorem dX6_whyDam_11 : decode cX6_whyDam 11 = .ok (.new 139, 3) := by decide +kernel
theorem dX6_whyDam_14 : decode cX6_whyDam 14 = .ok (.dup, 1) := by decide +kernel
theorem dX6_whyDam_15 : decode cX6_whyDam 15 = .ok (.ldc 172, 2) := by decide +kernel
theorem dX6_whyDam_17 : decode cX6_whyDam 17 = .ok (.invokespecial 143, 3) := by decide +kernel
theorem dX6_whyDam_20 : decode cX6_whyDam 20 = .ok (.athrow, 1) := by decide +kernel
theorem dX6_whyDam_21 : decode cX6_whyDam 21 = .ok (.aload_n 0, 1) := by decide +kernel
theorem dX6_whyDam_22 : decode cX6_whyDam 22 = .ok (.getfield 19, 3) := by decide +kernel
theorem dX6_whyDam_25 : decode cX6_whyDam 25 = .ok (.invokevirtual 110, 3) := by decide +kernel
theorem dX6_whyDam_28 : decode cX6_whyDam 28 = .ok (.ifCond .eq 7, 3) := by decide +kernel
theorem dX6_whyDam_31 : decode cX6_whyDam 31 = .ok (.iconst (-1), 1) := by decide +kernel
theorem dX6_whyDam_32 : decode cX6_whyDam 32 = .ok (.goto 15, 3) := by decide +kernel
theorem dX6_whyDam_35 : decode cX6_whyDam 35 = .ok (.aload_n 0, 1) := by decide +kernel
theorem dX6_whyDam_36 : decode cX6_whyDam 36 = .ok (.getfield 19, 3) := by decide +kernel
theorem dX6_whyDam_39 : decode cX6_whyDam 39 = .ok (.iload_n 3, 1) := by decide +kernel
theorem dX6_whyDam_40 : decode cX6_whyDam 40 = .ok (.aload_n 0, 1) := by decide +kernel
theorem dX6_whyDam_41 : decode cX6_whyDam 41 = .ok (.getfield 29, 3) := by decide +kernel
theorem dX6_whyDam_44 : decode cX6_whyDam 44 = .ok (.invokevirtual 253, 3) := by decide +kernel
theorem dX6_whyDam_47 : decode cX6_whyDam 47 = .ok (.ireturn, 1) := by decide +kernel
set_option maxRecDepth 20000 in
theorem ggX6_cheapest_X6_isPlayer : GoodIn wsX6_cheapest wsX6_isPlayer := goodIn_r _ [11] (by decide +kernel) (by decide +kernel)
set_option maxRecDepth 20000 in
theorem gX6_cheapest_X6_isPlayer : GoodIn wsX6_cheapest (va_wsS RX6 136 yX6_isPlayer wsX6_isPlayer) := goodIn_app (goodIn_of _ (by decide +kernel)) ggX6_cheapest_X6_isPlayer
set_option maxRecDepth 20000 in
theorem ggX6_cheapest_X0_sideOf : GoodIn wsX6_cheapest wsX0_sideOf := goodIn_r _ [16, 17, 18, 77, 78, 79, 80, 81, 82, 83, 84, 85, 86, 87, 88] (by decide +kernel) (by decide +kernel)
set_option maxRecDepth 20000 in
theorem gX6_cheapest_X0_sideOf : GoodIn wsX6_cheapest (wsV RX6 144 RX0 yX0_sideOf wsX0_sideOf) := goodIn_app (goodIn_of _ (by decide +kernel)) ggX6_cheapest_X0_sideOf
set_option maxRecDepth 20000 in
theorem ggX6_cheapest_X5_openFree : GoodIn wsX6_cheapest wsX5_openFree := goodIn_r _ [23, 24, 25, 26, 27, 28, 89, 90, 91, 92, 93, 94, 77, 78, 79, 80, 81, 82, 83, 84, 85, 86, 87, 88, 69, 70, 71, 72, 73, 74, 75, 76] (by decide +kernel) (by decide +kernel)
set_option maxRecDepth 20000 in
theorem gX6_cheapest_X5_openFree : GoodIn wsX6_cheapest (wsV RX6 258 RX5 yX5_openFree wsX5_openFree) := goodIn_app (goodIn_of _ (by decide +kernel)) ggX6_cheapest_X5_openFree
set_option maxRecDepth 20000 in
theorem ggX6_cheapest_X2_head : GoodIn wsX6_cheapest wsX2_head := goodIn_r _ [33, 34, 35, 69, 70, 71, 72, 73, 74, 75, 76] (by decide +kernel) (by decide +kernel)
set_option maxRecDepth 20000 in
theorem gX6_cheapest_X2_head : GoodIn wsX6_cheapest (wsV RX6 151 RX2 yX2_head wsX2_head) := goodIn_app (goodIn_of _ (by decide +kernel)) ggX6_cheapest_X2_head
set_option maxRecDepth 20000 in
theorem ggX6_cheapest_X5_cheapestCellFirst : GoodIn wsX6_cheapest wsX5_cheapestCellFirst := goodIn_r _ [39, 40, 41, 42, 43, 44, 22, 45, 46, 47, 48, 49, 50, 51, 10, 52, 53, 54, 55, 56, 57, 24, 89, 90, 91, 92, 93, 94] (by decide +kernel) (by decide +kernel)
set_option maxRecDepth 20000 in
theorem gX6_cheapest_X5_cheapestCellFirst : GoodIn wsX6_cheapest (wsV RX6 265 RX5 yX5_cheapestCellFirst wsX5_cheapestCellFirst) := goodIn_app (goodIn_of _ (by decide +kernel)) ggX6_cheapest_X5_cheapestCellFirst
set_option maxRecDepth 20000 in
theorem ggX6_cheapest_X5_cheapestByRounds : GoodIn wsX6_cheapest wsX5_cheapestByRounds := goodIn_r _ [61, 40, 42, 43, 44, 22, 45, 41, 53, 54, 55, 56, 57, 24, 89, 90, 91, 92, 93, 94] (by decide +kernel) (by decide +kernel)
set_option maxRecDepth 20000 in
theorem gX6_cheapest_X5_cheapestByRounds : GoodIn wsX6_cheapest (wsV RX6 269 RX5 yX5_cheapestByRounds wsX5_cheapestByRounds) := goodIn_app (goodIn_of _ (by decide +kernel)) ggX6_cheapest_X5_cheapestByRounds
theorem dX6_cheapest_0 : decode cX6_cheapest 0 = .ok (.iload_n 1, 1) := by decide +kernel
theorem dX6_cheapest_1 : decode cX6_cheapest 1 = .ok (.invokestatic 136, 3) := by decide +kernel
theorem dX6_cheapest_4 : decode cX6_cheapest 4 = .ok (.ifCond .ne 13, 3) := by decide +kernel
theorem dX6_cheapest_7 : decode cX6_cheapest 7 = .ok (.new 139, 3) := by decide +kernel
theorem dX6_cheapest_10 : decode cX6_cheapest 10 = .ok (.dup, 1) := by decide +kernel
theorem dX6_cheapest_11 : decode cX6_cheapest 11 = .ok (.ldc 141, 2) := by decide +kernel
theorem dX6_cheapest_13 : decode cX6_cheapest 13 = .ok (.invokespecial 143, 3) := by decide +kernel
theorem dX6_cheapest_16 : decode cX6_cheapest 16 = .ok (.athrow, 1) := by decide +kernel
theorem dX6_cheapest_17 : decode cX6_cheapest 17 = .ok (.iload_n 2, 1) := by decide +kernel
theorem dX6_cheapest_18 : decode cX6_cheapest 18 = .ok (.ifCond .eq 19, 3) := by decide +kernel
theorem dX6_cheapest_21 : decode cX6_cheapest 21 = .ok (.iload_n 2, 1) := by decide +kernel
theorem dX6_cheapest_22 : decode cX6_cheapest 22 = .ok (.iconst 1, 1) := by decide +kernel
theorem dX6_cheapest_23 : decode cX6_cheapest 23 = .ok (.if_icmp .eq 14, 3) := by decide +kernel
theorem dX6_cheapest_26 : decode cX6_cheapest 26 = .ok (.new 53, 3) := by decide +kernel
theorem dX6_cheapest_29 : decode cX6_cheapest 29 = .ok (.dup, 1) := by decide +kernel
theorem dX6_cheapest_30 : decode cX6_cheapest 30 = .ok (.ldc_w 256, 3) := by decide +kernel
theorem dX6_cheapest_33 : decode cX6_cheapest 33 = .ok (.invokespecial 57, 3) := by decide +kernel
theorem dX6_cheapest_36 : decode cX6_cheapest 36 = .ok (.athrow, 1) := by decide +kernel
theorem dX6_cheapest_37 : decode cX6_cheapest 37 = .ok (.aload_n 0, 1) := by decide +kernel
theorem dX6_cheapest_38 : decode cX6_cheapest 38 = .ok (.getfield 19, 3) := by decide +kernel
theorem dX6_cheapest_41 : decode cX6_cheapest 41 = .ok (.iload_n 1, 1) := by decide +kernel
theorem dX6_cheapest_42 : decode cX6_cheapest 42 = .ok (.invokevirtual 144, 3) := by decide +kernel
theorem dX6_cheapest_45 : decode cX6_cheapest 45 = .ok (.astore_n 3, 1) := by decide +kernel
theorem dX6_cheapest_46 : decode cX6_cheapest 46 = .ok (.aload_n 0, 1) := by decide +kernel
theorem dX6_cheapest_47 : decode cX6_cheapest 47 = .ok (.getfield 29, 3) := by decide +kernel
theorem dX6_cheapest_50 : decode cX6_cheapest 50 = .ok (.aload_n 0, 1) := by decide +kernel
theorem dX6_cheapest_51 : decode cX6_cheapest 51 = .ok (.getfield 19, 3) := by decide +kernel
theorem dX6_cheapest_54 : decode cX6_cheapest 54 = .ok (.invokevirtual 258, 3) := by decide +kernel
theorem dX6_cheapest_57 : decode cX6_cheapest 57 = .ok (.iload_n 2, 1) := by decide +kernel
theorem dX6_cheapest_58 : decode cX6_cheapest 58 = .ok (.ifCond .ne 19, 3) := by decide +kernel
theorem dX6_cheapest_61 : decode cX6_cheapest 61 = .ok (.aload_n 0, 1) := by decide +kernel
theorem dX6_cheapest_62 : decode cX6_cheapest 62 = .ok (.getfield 29, 3) := by decide +kernel
theorem dX6_cheapest_65 : decode cX6_cheapest 65 = .ok (.aload_n 3, 1) := by decide +kernel
theorem dX6_cheapest_66 : decode cX6_cheapest 66 = .ok (.getfield 261, 3) := by decide +kernel
theorem dX6_cheapest_69 : decode cX6_cheapest 69 = .ok (.aload_n 3, 1) := by decide +kernel
theorem dX6_cheapest_70 : decode cX6_cheapest 70 = .ok (.invokevirtual 151, 3) := by decide +kernel
theorem dX6_cheapest_73 : decode cX6_cheapest 73 = .ok (.invokevirtual 265, 3) := by decide +kernel
theorem dX6_cheapest_76 : decode cX6_cheapest 76 = .ok (.ireturn, 1) := by decide +kernel
theorem dX6_cheapest_77 : decode cX6_cheapest 77 = .ok (.aload_n 0, 1) := by decide +kernel
theorem dX6_cheapest_78 : decode cX6_cheapest 78 = .ok (.getfield 29, 3) := by decide +kernel
theorem dX6_cheapest_81 : decode cX6_cheapest 81 = .ok (.aload_n 3, 1) := by decide +kernel
theorem dX6_cheapest_82 : decode cX6_cheapest 82 = .ok (.getfield 261, 3) := by decide +kernel
theorem dX6_cheapest_85 : decode cX6_cheapest 85 = .ok (.aload_n 3, 1) := by decide +kernel
theorem dX6_cheapest_86 : decode cX6_cheapest 86 = .ok (.invokevirtual 151, 3) := by decide +kernel
theorem dX6_cheapest_89 : decode cX6_cheapest 89 = .ok (.invokevirtual 269, 3) := by decide +kernel
theorem dX6_cheapest_92 : decode cX6_cheapest 92 = .ok (.ireturn, 1) := by decide +kernel
set_option maxRecDepth 20000 in
theorem ggX6_meetsIn_X6_isPlayer : GoodIn wsX6_meetsIn wsX6_isPlayer := goodIn_r _ [9] (by decide +kernel) (by decide +kernel)
set_option maxRecDepth 20000 in
theorem gX6_meetsIn_X6_isPlayer : GoodIn wsX6_meetsIn (va_wsS RX6 136 yX6_isPlayer wsX6_isPlayer) := goodIn_app (goodIn_of _ (by decide +kernel)) ggX6_meetsIn_X6_isPlayer
set_option maxRecDepth 20000 in
theorem ggX6_meetsIn_X5_stepsToMeet : GoodIn wsX6_meetsIn wsX5_stepsToMeet := goodIn_r _ [14, 15, 16, 17, 18, 19, 20, 21, 22, 23, 24, 25, 13, 26, 27, 28, 29, 30, 31, 32, 33, 34, 35, 36, 37, 38, 39, 40, 41, 42, 43, 44, 45, 46, 47, 48, 8, 49, 50, 51, 52, 53, 54, 74, 75, 76, 77, 78, 79, 62, 63, 64, 65, 66, 67, 68, 69, 70, 71, 72, 73, 80, 81, 82, 83, 84, 85, 86, 87] (by decide +kernel) (by decide +kernel)
set_option maxRecDepth 20000 in
theorem gX6_meetsIn_X5_stepsToMeet : GoodIn wsX6_meetsIn (wsV RX6 272 RX5 yX5_stepsToMeet wsX5_stepsToMeet) := goodIn_app (goodIn_of _ (by decide +kernel)) ggX6_meetsIn_X5_stepsToMeet
theorem dX6_meetsIn_0 : decode cX6_meetsIn 0 = .ok (.iload_n 1, 1) := by decide +kernel
theorem dX6_meetsIn_1 : decode cX6_meetsIn 1 = .ok (.invokestatic 136, 3) := by decide +kernel
theorem dX6_meetsIn_4 : decode cX6_meetsIn 4 = .ok (.ifCond .ne 13, 3) := by decide +kernel
theorem dX6_meetsIn_7 : decode cX6_meetsIn 7 = .ok (.new 139, 3) := by decide +kernel
theorem dX6_meetsIn_10 : decode cX6_meetsIn 10 = .ok (.dup, 1) := by decide +kernel
theorem dX6_meetsIn_11 : decode cX6_meetsIn 11 = .ok (.ldc 141, 2) := by decide +kernel
theorem dX6_meetsIn_13 : decode cX6_meetsIn 13 = .ok (.invokespecial 143, 3) := by decide +kernel
theorem dX6_meetsIn_16 : decode cX6_meetsIn 16 = .ok (.athrow, 1) := by decide +kernel
theorem dX6_meetsIn_17 : decode cX6_meetsIn 17 = .ok (.aload_n 0, 1) := by decide +kernel
theorem dX6_meetsIn_18 : decode cX6_meetsIn 18 = .ok (.getfield 19, 3) := by decide +kernel
theorem dX6_meetsIn_21 : decode cX6_meetsIn 21 = .ok (.getfield 122, 3) := by decide +kernel
theorem dX6_meetsIn_24 : decode cX6_meetsIn 24 = .ok (.iconst (-1), 1) := by decide +kernel
theorem dX6_meetsIn_25 : decode cX6_meetsIn 25 = .ok (.if_icmp .eq 5, 3) := by decide +kernel
theorem dX6_meetsIn_28 : decode cX6_meetsIn 28 = .ok (.iconst 0, 1) := by decide +kernel
theorem dX6_meetsIn_29 : decode cX6_meetsIn 29 = .ok (.ireturn, 1) := by decide +kernel
theorem dX6_meetsIn_30 : decode cX6_meetsIn 30 = .ok (.aload_n 0, 1) := by decide +kernel
theorem dX6_meetsIn_31 : decode cX6_meetsIn 31 = .ok (.getfield 29, 3) := by decide +kernel
theorem dX6_meetsIn_34 : decode cX6_meetsIn 34 = .ok (.aload_n 0, 1) := by decide +kernel
theorem dX6_meetsIn_35 : decode cX6_meetsIn 35 = .ok (.getfield 19, 3) := by decide +kernel
theorem dX6_meetsIn_38 : decode cX6_meetsIn 38 = .ok (.iload_n 1, 1) := by decide +kernel
theorem dX6_meetsIn_39 : decode cX6_meetsIn 39 = .ok (.invokevirtual 272, 3) := by decide +kernel
theorem dX6_meetsIn_42 : decode cX6_meetsIn 42 = .ok (.ireturn, 1) := by decide +kernel
set_option maxRecDepth 20000 in
theorem ggX6_leastWished_X5_dearestForBoth : GoodIn wsX6_leastWished wsX5_dearestForBoth := goodIn_r _ [7, 8, 9, 10, 11, 12, 13, 14, 15, 6, 16, 17, 18, 19, 20, 21, 22, 23, 24, 25, 26, 27, 28, 29, 30, 31, 32, 33, 34, 35, 36, 37, 38, 39, 40, 41, 42, 43, 44, 45, 46, 54, 55, 56, 57, 58, 59, 60, 61, 62, 63, 64, 65, 66, 67, 68, 69, 70, 71, 72, 73, 74, 75, 76, 77, 78, 79] (by decide +kernel) (by decide +kernel)
set_option maxRecDepth 20000 in
theorem gX6_leastWished_X5_dearestForBoth : GoodIn wsX6_leastWished (wsV RX6 276 RX5 yX5_dearestForBoth wsX5_dearestForBoth) := goodIn_app (goodIn_of _ (by decide +kernel)) ggX6_leastWished_X5_dearestForBoth
theorem dX6_leastWished_0 : decode cX6_leastWished 0 = .ok (.aload_n 0, 1) := by decide +kernel
theorem dX6_leastWished_1 : decode cX6_leastWished 1 = .ok (.getfield 29, 3) := by decide +kernel
theorem dX6_leastWished_4 : decode cX6_leastWished 4 = .ok (.aload_n 0, 1) := by decide +kernel
theorem dX6_leastWished_5 : decode cX6_leastWished 5 = .ok (.getfield 19, 3) := by decide +kernel
theorem dX6_leastWished_8 : decode cX6_leastWished 8 = .ok (.invokevirtual 276, 3) := by decide +kernel
theorem dX6_leastWished_11 : decode cX6_leastWished 11 = .ok (.ireturn, 1) := by decide +kernel
set_option maxRecDepth 20000 in
theorem ggX6_best_X5_bestStep : GoodIn wsX6_best wsX5_bestStep := goodIn_r _ [7, 8, 9, 10, 11, 12, 13, 14, 15, 16, 17, 18, 19, 20, 21, 22, 6, 23, 24, 25, 26, 27, 28, 29, 30, 31, 32, 33, 34, 35, 36, 37, 38, 39, 40, 41, 42, 43, 44, 45, 46, 47, 48, 49, 50, 51, 52, 53, 54, 55, 56, 57, 58, 59, 60, 61, 62, 63, 64, 65, 66, 67, 68, 69, 70, 71, 72, 73, 74, 75, 76, 77, 78, 79, 80, 81, 82, 83, 84, 85, 86, 87, 88, 89, 90, 91, 92, 93, 94, 95, 96, 97, 98, 99, 107, 108, 109, 110, 111, 112, 113, 114, 115, 116, 117, 118, 119, 120, 121, 122, 123, 124, 125, 126, 127, 128, 129, 130, 131, 132] (by decide +kernel) (by decide +kernel)
set_option maxRecDepth 20000 in
theorem gX6_best_X5_bestStep : GoodIn wsX6_best (wsV RX6 280 RX5 yX5_bestStep wsX5_bestStep) := goodIn_app (goodIn_of _ (by decide +kernel)) ggX6_best_X5_bestStep
theorem dX6_best_0 : decode cX6_best 0 = .ok (.aload_n 0, 1) := by decide +kernel
theorem dX6_best_1 : decode cX6_best 1 = .ok (.getfield 29, 3) := by decide +kernel
theorem dX6_best_4 : decode cX6_best 4 = .ok (.aload_n 0, 1) := by decide +kernel
theorem dX6_best_5 : decode cX6_best 5 = .ok (.getfield 19, 3) := by decide +kernel
theorem dX6_best_8 : decode cX6_best 8 = .ok (.invokevirtual 280, 3) := by decide +kernel
theorem dX6_best_11 : decode cX6_best 11 = .ok (.ireturn, 1) := by decide +kernel
set_option maxRecDepth 20000 in
theorem ggX6_runScript_X6_withoutLastGroups : GoodIn wsX6_runScript wsX6_withoutLastGroups := goodIn_r _ [9, 5] (by decide +kernel) (by decide +kernel)
set_option maxRecDepth 20000 in
theorem gX6_runScript_X6_withoutLastGroups : GoodIn wsX6_runScript (va_wsS RX6 287 yX6_withoutLastGroups wsX6_withoutLastGroups) := goodIn_app (goodIn_of _ (by decide +kernel)) ggX6_runScript_X6_withoutLastGroups
set_option maxRecDepth 20000 in
theorem ggX6_runScript_X0_copyFrom : GoodIn wsX6_runScript wsX0_copyFrom := goodIn_r _ [14, 15, 16, 17, 18, 19, 20, 21, 22, 23, 24, 25, 26, 27, 28, 29, 30, 31, 32, 33, 34, 35, 36, 37, 38, 39, 40, 8, 41, 258, 259, 260, 261, 262, 263, 264, 265, 266, 267, 268, 269, 270, 271, 272, 273, 274, 275, 276, 277] (by decide +kernel) (by decide +kernel)
set_option maxRecDepth 20000 in
theorem gX6_runScript_X0_copyFrom : GoodIn wsX6_runScript (wsV RX6 293 RX0 yX0_copyFrom wsX0_copyFrom) := goodIn_app (goodIn_of _ (by decide +kernel)) ggX6_runScript_X0_copyFrom
set_option maxRecDepth 20000 in
theorem ggX6_runScript_X6_doGroup : GoodIn wsX6_runScript wsX6_doGroup := goodIn_r _ [45, 3, 46, 47, 48, 49, 50, 51, 13, 52, 17, 15, 16, 20, 21, 22, 23, 24, 53, 54, 55, 56, 57, 58, 8, 59, 60, 61, 62, 63, 64, 65, 66, 67, 68, 69, 70, 30, 71, 34, 35, 36, 37, 72, 73, 74, 75, 33, 76, 77, 78, 79, 80, 81, 82, 83, 84, 85, 86, 87, 88, 89, 90, 91, 92, 93, 94, 95, 96, 97, 98, 99, 100, 101, 102, 103, 104, 105, 106, 107, 108, 109, 110, 111, 112, 113, 114, 115, 116, 117, 118, 119, 120, 121, 122, 123, 124, 19, 125, 126, 127, 128, 129, 130, 32, 131, 132, 133, 134, 39, 135, 136, 137, 138, 18, 139, 140, 141, 142, 143, 144, 145, 146, 147, 148, 149, 150, 151, 152, 153, 154, 155, 156, 157, 158, 159, 160, 161, 162, 163, 164, 165, 166, 167, 168, 169, 170, 171, 172, 173, 174, 175, 176, 177, 178, 179, 180, 181, 182, 183, 184, 185, 186, 187, 188, 189, 190, 191, 192, 193, 194, 26, 195, 196, 197, 198, 199, 200, 201, 202, 203, 204, 205, 206, 207, 208, 209, 210, 211, 212, 213, 214, 215, 216, 217, 218, 219, 220, 221, 222, 223, 224, 225, 226, 227, 228, 229, 230, 231, 232, 233, 234, 235, 236, 237, 238, 239, 240, 241, 242, 243, 244, 245, 246, 247, 248, 249, 250, 251, 252, 253, 254, 255, 256, 257, 270, 271, 272, 273, 274, 275, 276, 277, 258, 259, 260, 261, 262, 263, 264, 265, 266, 267, 268, 269, 278, 279, 280, 281, 282, 283] (by decide +kernel) (by decide +kernel)
set_option maxRecDepth 20000 in
theorem gX6_runScript_X6_doGroup : GoodIn wsX6_runScript (wsV RX6 298 RX6 yX6_doGroup wsX6_doGroup) := goodIn_app (goodIn_of _ (by decide +kernel)) ggX6_runScript_X6_doGroup
theorem dX6_runScript_0 : decode cX6_runScript 0 = .ok (.iload_n 1, 1) := by decide +kernel
theorem dX6_runScript_1 : decode cX6_runScript 1 = .ok (.iconst 1, 1) := by decide +kernel
theorem dX6_runScript_2 : decode cX6_runScript 2 = .ok (.if_icmp .lt 8, 3) := by decide +kernel
theorem dX6_runScript_5 : decode cX6_runScript 5 = .ok (.iload_n 1, 1) := by decide +kernel
theorem dX6_runScript_6 : decode cX6_runScript 6 = .ok (.iconst 4, 1) := by decide +kernel
theorem dX6_runScript_7 : decode cX6_runScript 7 = .ok (.if_icmp .le 14, 3) := by decide +kernel
theorem dX6_runScript_10 : decode cX6_runScript 10 = .ok (.new 53, 3) := by decide +kernel
theorem dX6_runScript_13 : decode cX6_runScript 13 = .ok (.dup, 1) := by decide +kernel
theorem dX6_runScript_14 : decode cX6_runScript 14 = .ok (.ldc_w 283, 3) := by decide +kernel
theorem dX6_runScript_17 : decode cX6_runScript 17 = .ok (.invokespecial 57, 3) := by decide +kernel
theorem dX6_runScript_20 : decode cX6_runScript 20 = .ok (.athrow, 1) := by decide +kernel
theorem dX6_runScript_21 : decode cX6_runScript 21 = .ok (.lload_n 2, 1) := by decide +kernel
theorem dX6_runScript_22 : decode cX6_runScript 22 = .ok (.lconst 0, 1) := by decide +kernel
theorem dX6_runScript_23 : decode cX6_runScript 23 = .ok (.lcmp, 1) := by decide +kernel
theorem dX6_runScript_24 : decode cX6_runScript 24 = .ok (.ifCond .ge 14, 3) := by decide +kernel
theorem dX6_runScript_27 : decode cX6_runScript 27 = .ok (.new 53, 3) := by decide +kernel
theorem dX6_runScript_30 : decode cX6_runScript 30 = .ok (.dup, 1) := by decide +kernel
theorem dX6_runScript_31 : decode cX6_runScript 31 = .ok (.ldc_w 285, 3) := by decide +kernel
theorem dX6_runScript_34 : decode cX6_runScript 34 = .ok (.invokespecial 57, 3) := by decide +kernel
theorem dX6_runScript_37 : decode cX6_runScript 37 = .ok (.athrow, 1) := by decide +kernel
theorem dX6_runScript_38 : decode cX6_runScript 38 = .ok (.lload_n 2, 1) := by decide +kernel
theorem dX6_runScript_39 : decode cX6_runScript 39 = .ok (.iload_n 1, 1) := by decide +kernel
theorem dX6_runScript_40 : decode cX6_runScript 40 = .ok (.invokestatic 287, 3) := by decide +kernel
theorem dX6_runScript_43 : decode cX6_runScript 43 = .ok (.lconst 0, 1) := by decide +kernel
theorem dX6_runScript_44 : decode cX6_runScript 44 = .ok (.lcmp, 1) := by decide +kernel
theorem dX6_runScript_45 : decode cX6_runScript 45 = .ok (.ifCond .eq 14, 3) := by decide +kernel
theorem dX6_runScript_48 : decode cX6_runScript 48 = .ok (.new 53, 3) := by decide +kernel
theorem dX6_runScript_51 : decode cX6_runScript 51 = .ok (.dup, 1) := by decide +kernel
theorem dX6_runScript_52 : decode cX6_runScript 52 = .ok (.ldc_w 291, 3) := by decide +kernel
theorem dX6_runScript_55 : decode cX6_runScript 55 = .ok (.invokespecial 57, 3) := by decide +kernel
theorem dX6_runScript_58 : decode cX6_runScript 58 = .ok (.athrow, 1) := by decide +kernel
theorem dX6_runScript_59 : decode cX6_runScript 59 = .ok (.aload_n 0, 1) := by decide +kernel
theorem dX6_runScript_60 : decode cX6_runScript 60 = .ok (.getfield 23, 3) := by decide +kernel
theorem dX6_runScript_63 : decode cX6_runScript 63 = .ok (.aload_n 0, 1) := by decide +kernel
theorem dX6_runScript_64 : decode cX6_runScript 64 = .ok (.getfield 19, 3) := by decide +kernel
theorem dX6_runScript_67 : decode cX6_runScript 67 = .ok (.invokevirtual 293, 3) := by decide +kernel
theorem dX6_runScript_70 : decode cX6_runScript 70 = .ok (.iconst 0, 1) := by decide +kernel
theorem dX6_runScript_71 : decode cX6_runScript 71 = .ok (.istore 4, 2) := by decide +kernel
theorem dX6_runScript_73 : decode cX6_runScript 73 = .ok (.iload 4, 2) := by decide +kernel
theorem dX6_runScript_75 : decode cX6_runScript 75 = .ok (.iload_n 1, 1) := by decide +kernel
theorem dX6_runScript_76 : decode cX6_runScript 76 = .ok (.if_icmp .ge 34, 3) := by decide +kernel
theorem dX6_runScript_79 : decode cX6_runScript 79 = .ok (.aload_n 0, 1) := by decide +kernel
theorem dX6_runScript_80 : decode cX6_runScript 80 = .ok (.lload_n 2, 1) := by decide +kernel
theorem dX6_runScript_81 : decode cX6_runScript 81 = .ok (.iload_n 1, 1) := by decide +kernel
theorem dX6_runScript_82 : decode cX6_runScript 82 = .ok (.iconst 1, 1) := by decide +kernel
theorem dX6_runScript_83 : decode cX6_runScript 83 = .ok (.isub, 1) := by decide +kernel
theorem dX6_runScript_84 : decode cX6_runScript 84 = .ok (.iload 4, 2) := by decide +kernel
theorem dX6_runScript_86 : decode cX6_runScript 86 = .ok (.isub, 1) := by decide +kernel
theorem dX6_runScript_87 : decode cX6_runScript 87 = .ok (.invokestatic 287, 3) := by decide +kernel
theorem dX6_runScript_90 : decode cX6_runScript 90 = .ok (.ldc2_w 296, 3) := by decide +kernel
theorem dX6_runScript_93 : decode cX6_runScript 93 = .ok (.lrem, 1) := by decide +kernel
theorem dX6_runScript_94 : decode cX6_runScript 94 = .ok (.l2i, 1) := by decide +kernel
theorem dX6_runScript_95 : decode cX6_runScript 95 = .ok (.invokevirtual 298, 3) := by decide +kernel
theorem dX6_runScript_98 : decode cX6_runScript 98 = .ok (.ifCond .ne 6, 3) := by decide +kernel
theorem dX6_runScript_101 : decode cX6_runScript 101 = .ok (.iload 4, 2) := by decide +kernel
theorem dX6_runScript_103 : decode cX6_runScript 103 = .ok (.ireturn, 1) := by decide +kernel
theorem dX6_runScript_104 : decode cX6_runScript 104 = .ok (.iinc 4 1, 3) := by decide +kernel
theorem dX6_runScript_107 : decode cX6_runScript 107 = .ok (.goto (-34), 3) := by decide +kernel
theorem dX6_runScript_110 : decode cX6_runScript 110 = .ok (.iconst (-1), 1) := by decide +kernel
theorem dX6_runScript_111 : decode cX6_runScript 111 = .ok (.ireturn, 1) := by decide +kernel
set_option maxRecDepth 20000 in
theorem ggX6_simulate_X0_copyFrom : GoodIn wsX6_simulate wsX0_copyFrom := goodIn_r _ [14, 15, 16, 17, 18, 19, 20, 21, 22, 23, 24, 25, 26, 27, 28, 29, 30, 31, 32, 33, 34, 35, 36, 37, 38, 39, 40, 41, 42, 233, 234, 235, 236, 237, 238, 239, 240, 241, 242, 243, 244, 245, 246, 247, 248, 249, 250, 251, 252] (by decide +kernel) (by decide +kernel)
set_option maxRecDepth 20000 in
theorem gX6_simulate_X0_copyFrom : GoodIn wsX6_simulate (wsV RX6 293 RX0 yX0_copyFrom wsX0_copyFrom) := goodIn_app (goodIn_of _ (by decide +kernel)) ggX6_simulate_X0_copyFrom
set_option maxRecDepth 20000 in
theorem ggX6_simulate_X6_nextNumber : GoodIn wsX6_simulate wsX6_nextNumber := goodIn_r _ [45, 46, 47] (by decide +kernel) (by decide +kernel)
set_option maxRecDepth 20000 in
theorem gX6_simulate_X6_nextNumber : GoodIn wsX6_simulate (va_wsS RX6 303 yX6_nextNumber wsX6_nextNumber) := goodIn_app (goodIn_of _ (by decide +kernel)) ggX6_simulate_X6_nextNumber
set_option maxRecDepth 20000 in
theorem ggX6_simulate_X6_drawnFrom : GoodIn wsX6_simulate wsX6_drawnFrom := goodIn_r _ [50] (by decide +kernel) (by decide +kernel)
set_option maxRecDepth 20000 in
theorem gX6_simulate_X6_drawnFrom : GoodIn wsX6_simulate (va_wsS RX6 307 yX6_drawnFrom wsX6_drawnFrom) := goodIn_app (goodIn_of _ (by decide +kernel)) ggX6_simulate_X6_drawnFrom
set_option maxRecDepth 20000 in
theorem ggX6_simulate_X6_simulateTurn : GoodIn wsX6_simulate wsX6_simulateTurn := goodIn_r _ [54, 3, 55, 56, 57, 58, 13, 59, 60, 61, 62, 63, 23, 21, 64, 65, 66, 67, 17, 15, 16, 20, 22, 24, 68, 69, 70, 71, 72, 44, 41, 45, 46, 47, 49, 50, 73, 74, 75, 76, 77, 78, 79, 30, 80, 34, 35, 36, 37, 81, 82, 83, 84, 33, 85, 86, 87, 88, 89, 90, 91, 92, 93, 94, 95, 96, 97, 98, 99, 100, 101, 102, 103, 104, 105, 106, 107, 108, 109, 110, 111, 112, 113, 114, 115, 116, 117, 118, 119, 120, 121, 26, 122, 123, 124, 125, 39, 126, 127, 128, 129, 18, 130, 131, 132, 133, 25, 134, 135, 136, 137, 138, 139, 140, 141, 142, 143, 144, 145, 146, 147, 148, 149, 150, 151, 152, 153, 154, 155, 156, 157, 158, 159, 160, 161, 162, 163, 164, 165, 166, 167, 168, 169, 170, 171, 172, 173, 174, 175, 176, 177, 178, 179, 180, 181, 182, 183, 184, 185, 186, 19, 187, 188, 189, 190, 191, 192, 32, 193, 194, 195, 196, 197, 198, 199, 200, 201, 202, 203, 204, 205, 206, 207, 208, 209, 210, 211, 212, 213, 214, 215, 216, 217, 218, 219, 220, 221, 222, 223, 224, 225, 226, 227, 228, 229, 230, 231, 232, 233, 234, 235, 236, 237, 238, 239, 240, 241, 242, 243, 244, 245, 246, 247, 248, 249, 250, 251, 252, 253, 254, 255, 256, 257, 258] (by decide +kernel) (by decide +kernel)
set_option maxRecDepth 20000 in
theorem gX6_simulate_X6_simulateTurn : GoodIn wsX6_simulate (wsV RX6 311 RX6 yX6_simulateTurn wsX6_simulateTurn) := goodIn_app (goodIn_of _ (by decide +kernel)) ggX6_simulate_X6_simulateTurn
theorem dX6_simulate_0 : decode cX6_simulate 0 = .ok (.iload_n 3, 1) := by decide +kernel
theorem dX6_simulate_1 : decode cX6_simulate 1 = .ok (.iconst 1, 1) := by decide +kernel
theorem dX6_simulate_2 : decode cX6_simulate 2 = .ok (.if_icmp .lt 10, 3) := by decide +kernel
theorem dX6_simulate_5 : decode cX6_simulate 5 = .ok (.iload_n 3, 1) := by decide +kernel
theorem dX6_simulate_6 : decode cX6_simulate 6 = .ok (.sipush 200, 3) := by decide +kernel
theorem dX6_simulate_9 : decode cX6_simulate 9 = .ok (.if_icmp .le 14, 3) := by decide +kernel
theorem dX6_simulate_12 : decode cX6_simulate 12 = .ok (.new 53, 3) := by decide +kernel
theorem dX6_simulate_15 : decode cX6_simulate 15 = .ok (.dup, 1) := by decide +kernel
theorem dX6_simulate_16 : decode cX6_simulate 16 = .ok (.ldc_w 301, 3) := by decide +kernel
theorem dX6_simulate_19 : decode cX6_simulate 19 = .ok (.invokespecial 57, 3) := by decide +kernel
theorem dX6_simulate_22 : decode cX6_simulate 22 = .ok (.athrow, 1) := by decide +kernel
theorem dX6_simulate_23 : decode cX6_simulate 23 = .ok (.aload_n 0, 1) := by decide +kernel
theorem dX6_simulate_24 : decode cX6_simulate 24 = .ok (.getfield 23, 3) := by decide +kernel
theorem dX6_simulate_27 : decode cX6_simulate 27 = .ok (.aload_n 0, 1) := by decide +kernel
theorem dX6_simulate_28 : decode cX6_simulate 28 = .ok (.getfield 19, 3) := by decide +kernel
theorem dX6_simulate_31 : decode cX6_simulate 31 = .ok (.invokevirtual 293, 3) := by decide +kernel
theorem dX6_simulate_34 : decode cX6_simulate 34 = .ok (.aload_n 0, 1) := by decide +kernel
theorem dX6_simulate_35 : decode cX6_simulate 35 = .ok (.getfield 23, 3) := by decide +kernel
theorem dX6_simulate_38 : decode cX6_simulate 38 = .ok (.getfield 104, 3) := by decide +kernel
theorem dX6_simulate_41 : decode cX6_simulate 41 = .ok (.istore 4, 2) := by decide +kernel
theorem dX6_simulate_43 : decode cX6_simulate 43 = .ok (.iconst 0, 1) := by decide +kernel
theorem dX6_simulate_44 : decode cX6_simulate 44 = .ok (.istore 5, 2) := by decide +kernel
theorem dX6_simulate_46 : decode cX6_simulate 46 = .ok (.lload_n 1, 1) := by decide +kernel
theorem dX6_simulate_47 : decode cX6_simulate 47 = .ok (.lstore 6, 2) := by decide +kernel
theorem dX6_simulate_49 : decode cX6_simulate 49 = .ok (.iconst 0, 1) := by decide +kernel
theorem dX6_simulate_50 : decode cX6_simulate 50 = .ok (.istore 8, 2) := by decide +kernel
theorem dX6_simulate_52 : decode cX6_simulate 52 = .ok (.iload 8, 2) := by decide +kernel
theorem dX6_simulate_54 : decode cX6_simulate 54 = .ok (.iload_n 3, 1) := by decide +kernel
theorem dX6_simulate_55 : decode cX6_simulate 55 = .ok (.if_icmp .ge 39, 3) := by decide +kernel
theorem dX6_simulate_58 : decode cX6_simulate 58 = .ok (.lload 6, 2) := by decide +kernel
theorem dX6_simulate_60 : decode cX6_simulate 60 = .ok (.invokestatic 303, 3) := by decide +kernel
theorem dX6_simulate_63 : decode cX6_simulate 63 = .ok (.lstore 6, 2) := by decide +kernel
theorem dX6_simulate_65 : decode cX6_simulate 65 = .ok (.aload_n 0, 1) := by decide +kernel
theorem dX6_simulate_66 : decode cX6_simulate 66 = .ok (.lload 6, 2) := by decide +kernel
theorem dX6_simulate_68 : decode cX6_simulate 68 = .ok (.invokestatic 307, 3) := by decide +kernel
theorem dX6_simulate_71 : decode cX6_simulate 71 = .ok (.invokevirtual 311, 3) := by decide +kernel
theorem dX6_simulate_74 : decode cX6_simulate 74 = .ok (.aload_n 0, 1) := by decide +kernel
theorem dX6_simulate_75 : decode cX6_simulate 75 = .ok (.getfield 23, 3) := by decide +kernel
theorem dX6_simulate_78 : decode cX6_simulate 78 = .ok (.getfield 122, 3) := by decide +kernel
theorem dX6_simulate_81 : decode cX6_simulate 81 = .ok (.iconst (-1), 1) := by decide +kernel
theorem dX6_simulate_82 : decode cX6_simulate 82 = .ok (.if_icmp .eq 6, 3) := by decide +kernel
theorem dX6_simulate_85 : decode cX6_simulate 85 = .ok (.iinc 5 1, 3) := by decide +kernel
theorem dX6_simulate_88 : decode cX6_simulate 88 = .ok (.iinc 8 1, 3) := by decide +kernel
theorem dX6_simulate_91 : decode cX6_simulate 91 = .ok (.goto (-39), 3) := by decide +kernel
theorem dX6_simulate_94 : decode cX6_simulate 94 = .ok (.aload_n 0, 1) := by decide +kernel
theorem dX6_simulate_95 : decode cX6_simulate 95 = .ok (.getfield 23, 3) := by decide +kernel
theorem dX6_simulate_98 : decode cX6_simulate 98 = .ok (.getfield 174, 3) := by decide +kernel
theorem dX6_simulate_101 : decode cX6_simulate 101 = .ok (.getfield 148, 3) := by decide +kernel
theorem dX6_simulate_104 : decode cX6_simulate 104 = .ok (.aload_n 0, 1) := by decide +kernel
theorem dX6_simulate_105 : decode cX6_simulate 105 = .ok (.getfield 23, 3) := by decide +kernel
theorem dX6_simulate_108 : decode cX6_simulate 108 = .ok (.getfield 182, 3) := by decide +kernel
theorem dX6_simulate_111 : decode cX6_simulate 111 = .ok (.getfield 148, 3) := by decide +kernel
theorem dX6_simulate_114 : decode cX6_simulate 114 = .ok (.iadd, 1) := by decide +kernel
theorem dX6_simulate_115 : decode cX6_simulate 115 = .ok (.istore 8, 2) := by decide +kernel
theorem dX6_simulate_117 : decode cX6_simulate 117 = .ok (.sipush 10000, 3) := by decide +kernel
theorem dX6_simulate_120 : decode cX6_simulate 120 = .ok (.aload_n 0, 1) := by decide +kernel
theorem dX6_simulate_121 : decode cX6_simulate 121 = .ok (.getfield 23, 3) := by decide +kernel
theorem dX6_simulate_124 : decode cX6_simulate 124 = .ok (.getfield 104, 3) := by decide +kernel
theorem dX6_simulate_127 : decode cX6_simulate 127 = .ok (.iload 4, 2) := by decide +kernel
theorem dX6_simulate_129 : decode cX6_simulate 129 = .ok (.isub, 1) := by decide +kernel
theorem dX6_simulate_130 : decode cX6_simulate 130 = .ok (.imul, 1) := by decide +kernel
theorem dX6_simulate_131 : decode cX6_simulate 131 = .ok (.bipush 100, 2) := by decide +kernel
theorem dX6_simulate_133 : decode cX6_simulate 133 = .ok (.iload 5, 2) := by decide +kernel
theorem dX6_simulate_135 : decode cX6_simulate 135 = .ok (.imul, 1) := by decide +kernel
theorem dX6_simulate_136 : decode cX6_simulate 136 = .ok (.iadd, 1) := by decide +kernel
theorem dX6_simulate_137 : decode cX6_simulate 137 = .ok (.iload 8, 2) := by decide +kernel
theorem dX6_simulate_139 : decode cX6_simulate 139 = .ok (.iadd, 1) := by decide +kernel
theorem dX6_simulate_140 : decode cX6_simulate 140 = .ok (.ireturn, 1) := by decide +kernel
set_option maxRecDepth 20000 in
theorem ggX6_save_X6_slotOf : GoodIn wsX6_save wsX6_slotOf := goodIn_r _ [11, 12, 13, 48, 49, 50, 51, 52, 53, 54] (by decide +kernel) (by decide +kernel)
set_option maxRecDepth 20000 in
theorem gX6_save_X6_slotOf : GoodIn wsX6_save (wsV RX6 317 RX6 yX6_slotOf wsX6_slotOf) := goodIn_app (goodIn_of _ (by decide +kernel)) ggX6_save_X6_slotOf
set_option maxRecDepth 20000 in
theorem ggX6_save_X0_copyFrom : GoodIn wsX6_save wsX0_copyFrom := goodIn_r _ [18, 19, 20, 21, 22, 23, 24, 25, 26, 27, 28, 29, 30, 31, 32, 33, 34, 35, 36, 37, 38, 39, 40, 41, 42, 43, 44, 10, 45, 55, 56, 57, 58, 59, 60, 61, 62, 63, 64, 65, 66, 67, 68, 69, 70, 71, 72, 73, 74] (by decide +kernel) (by decide +kernel)
set_option maxRecDepth 20000 in
theorem gX6_save_X0_copyFrom : GoodIn wsX6_save (wsV RX6 293 RX0 yX0_copyFrom wsX0_copyFrom) := goodIn_app (goodIn_of _ (by decide +kernel)) ggX6_save_X0_copyFrom
theorem dX6_save_0 : decode cX6_save 0 = .ok (.iload_n 1, 1) := by decide +kernel
theorem dX6_save_1 : decode cX6_save 1 = .ok (.ifCond .eq 19, 3) := by decide +kernel
theorem dX6_save_4 : decode cX6_save 4 = .ok (.iload_n 1, 1) := by decide +kernel
theorem dX6_save_5 : decode cX6_save 5 = .ok (.iconst 1, 1) := by decide +kernel
theorem dX6_save_6 : decode cX6_save 6 = .ok (.if_icmp .eq 14, 3) := by decide +kernel
theorem dX6_save_9 : decode cX6_save 9 = .ok (.new 139, 3) := by decide +kernel
theorem dX6_save_12 : decode cX6_save 12 = .ok (.dup, 1) := by decide +kernel
theorem dX6_save_13 : decode cX6_save 13 = .ok (.ldc_w 315, 3) := by decide +kernel
theorem dX6_save_16 : decode cX6_save 16 = .ok (.invokespecial 143, 3) := by decide +kernel
theorem dX6_save_19 : decode cX6_save 19 = .ok (.athrow, 1) := by decide +kernel
theorem dX6_save_20 : decode cX6_save 20 = .ok (.aload_n 0, 1) := by decide +kernel
theorem dX6_save_21 : decode cX6_save 21 = .ok (.iload_n 1, 1) := by decide +kernel
theorem dX6_save_22 : decode cX6_save 22 = .ok (.invokevirtual 317, 3) := by decide +kernel
theorem dX6_save_25 : decode cX6_save 25 = .ok (.astore_n 2, 1) := by decide +kernel
theorem dX6_save_26 : decode cX6_save 26 = .ok (.aload_n 2, 1) := by decide +kernel
theorem dX6_save_27 : decode cX6_save 27 = .ok (.getfield 321, 3) := by decide +kernel
theorem dX6_save_30 : decode cX6_save 30 = .ok (.aload_n 0, 1) := by decide +kernel
theorem dX6_save_31 : decode cX6_save 31 = .ok (.getfield 19, 3) := by decide +kernel
theorem dX6_save_34 : decode cX6_save 34 = .ok (.invokevirtual 293, 3) := by decide +kernel
theorem dX6_save_37 : decode cX6_save 37 = .ok (.aload_n 2, 1) := by decide +kernel
theorem dX6_save_38 : decode cX6_save 38 = .ok (.iconst 1, 1) := by decide +kernel
theorem dX6_save_39 : decode cX6_save 39 = .ok (.putfield 85, 3) := by decide +kernel
theorem dX6_save_42 : decode cX6_save 42 = .ok (.aload_n 0, 1) := by decide +kernel
theorem dX6_save_43 : decode cX6_save 43 = .ok (.getfield 19, 3) := by decide +kernel
theorem dX6_save_46 : decode cX6_save 46 = .ok (.getfield 116, 3) := by decide +kernel
theorem dX6_save_49 : decode cX6_save 49 = .ok (.ireturn, 1) := by decide +kernel
set_option maxRecDepth 20000 in
theorem ggX6_restore_X6_slotOf : GoodIn wsX6_restore wsX6_slotOf := goodIn_r _ [14, 15, 16, 57, 58, 59, 60, 61, 62, 63] (by decide +kernel) (by decide +kernel)
set_option maxRecDepth 20000 in
theorem gX6_restore_X6_slotOf : GoodIn wsX6_restore (wsV RX6 317 RX6 yX6_slotOf wsX6_slotOf) := goodIn_app (goodIn_of _ (by decide +kernel)) ggX6_restore_X6_slotOf
set_option maxRecDepth 20000 in
theorem ggX6_restore_X0_copyFrom : GoodIn wsX6_restore wsX0_copyFrom := goodIn_r _ [21, 22, 23, 24, 25, 26, 27, 28, 29, 30, 31, 32, 33, 34, 35, 36, 37, 38, 39, 40, 41, 42, 43, 44, 45, 46, 47, 13, 48, 64, 65, 66, 67, 68, 69, 70, 71, 72, 73, 74, 75, 76, 77, 78, 79, 80, 81, 82, 83] (by decide +kernel) (by decide +kernel)
set_option maxRecDepth 20000 in
theorem gX6_restore_X0_copyFrom : GoodIn wsX6_restore (wsV RX6 293 RX0 yX0_copyFrom wsX0_copyFrom) := goodIn_app (goodIn_of _ (by decide +kernel)) ggX6_restore_X0_copyFrom
set_option maxRecDepth 20000 in
theorem ggX6_restore_X1_forgetAll : GoodIn wsX6_restore wsX1_forgetAll := goodIn_r _ [53, 54, 84, 85, 86] (by decide +kernel) (by decide +kernel)
set_option maxRecDepth 20000 in
theorem gX6_restore_X1_forgetAll : GoodIn wsX6_restore (wsV RX6 82 RX1 yX1_forgetAll wsX1_forgetAll) := goodIn_app (goodIn_of _ (by decide +kernel)) ggX6_restore_X1_forgetAll
theorem dX6_restore_0 : decode cX6_restore 0 = .ok (.iload_n 1, 1) := by decide +kernel
theorem dX6_restore_1 : decode cX6_restore 1 = .ok (.ifCond .eq 19, 3) := by decide +kernel
theorem dX6_restore_4 : decode cX6_restore 4 = .ok (.iload_n 1, 1) := by decide +kernel
theorem dX6_restore_5 : decode cX6_restore 5 = .ok (.iconst 1, 1) := by decide +kernel
theorem dX6_restore_6 : decode cX6_restore 6 = .ok (.if_icmp .eq 14, 3) := by decide +kernel
theorem dX6_restore_9 : decode cX6_restore 9 = .ok (.new 139, 3) := by decide +kernel
theorem dX6_restore_12 : decode cX6_restore 12 = .ok (.dup, 1) := by decide +kernel
theorem dX6_restore_13 : decode cX6_restore 13 = .ok (.ldc_w 315, 3) := by decide +kernel
theorem dX6_restore_16 : decode cX6_restore 16 = .ok (.invokespecial 143, 3) := by decide +kernel
theorem dX6_restore_19 : decode cX6_restore 19 = .ok (.athrow, 1) := by decide +kernel
theorem dX6_restore_20 : decode cX6_restore 20 = .ok (.aload_n 0, 1) := by decide +kernel
theorem dX6_restore_21 : decode cX6_restore 21 = .ok (.iload_n 1, 1) := by decide +kernel
theorem dX6_restore_22 : decode cX6_restore 22 = .ok (.invokevirtual 317, 3) := by decide +kernel
theorem dX6_restore_25 : decode cX6_restore 25 = .ok (.astore_n 2, 1) := by decide +kernel
theorem dX6_restore_26 : decode cX6_restore 26 = .ok (.aload_n 2, 1) := by decide +kernel
theorem dX6_restore_27 : decode cX6_restore 27 = .ok (.getfield 85, 3) := by decide +kernel
theorem dX6_restore_30 : decode cX6_restore 30 = .ok (.ifCond .ne 14, 3) := by decide +kernel
theorem dX6_restore_33 : decode cX6_restore 33 = .ok (.new 64, 3) := by decide +kernel
theorem dX6_restore_36 : decode cX6_restore 36 = .ok (.dup, 1) := by decide +kernel
theorem dX6_restore_37 : decode cX6_restore 37 = .ok (.ldc_w 324, 3) := by decide +kernel
theorem dX6_restore_40 : decode cX6_restore 40 = .ok (.invokespecial 68, 3) := by decide +kernel
theorem dX6_restore_43 : decode cX6_restore 43 = .ok (.athrow, 1) := by decide +kernel
theorem dX6_restore_44 : decode cX6_restore 44 = .ok (.aload_n 0, 1) := by decide +kernel
theorem dX6_restore_45 : decode cX6_restore 45 = .ok (.getfield 19, 3) := by decide +kernel
theorem dX6_restore_48 : decode cX6_restore 48 = .ok (.aload_n 2, 1) := by decide +kernel
theorem dX6_restore_49 : decode cX6_restore 49 = .ok (.getfield 321, 3) := by decide +kernel
theorem dX6_restore_52 : decode cX6_restore 52 = .ok (.invokevirtual 293, 3) := by decide +kernel
theorem dX6_restore_55 : decode cX6_restore 55 = .ok (.aload_n 0, 1) := by decide +kernel
theorem dX6_restore_56 : decode cX6_restore 56 = .ok (.getfield 36, 3) := by decide +kernel
theorem dX6_restore_59 : decode cX6_restore 59 = .ok (.invokevirtual 82, 3) := by decide +kernel
theorem dX6_restore_62 : decode cX6_restore 62 = .ok (.aload_n 0, 1) := by decide +kernel
theorem dX6_restore_63 : decode cX6_restore 63 = .ok (.getfield 19, 3) := by decide +kernel
theorem dX6_restore_66 : decode cX6_restore 66 = .ok (.getfield 116, 3) := by decide +kernel
theorem dX6_restore_69 : decode cX6_restore 69 = .ok (.ireturn, 1) := by decide +kernel
set_option maxRecDepth 20000 in
theorem ggX6_doTextCommand_X4_signAt : GoodIn wsX6_doTextCommand wsX4_signAt := goodIn_r _ [8, 9, 10, 242, 243] (by decide +kernel) (by decide +kernel)
set_option maxRecDepth 20000 in
theorem gX6_doTextCommand_X4_signAt : GoodIn wsX6_doTextCommand (wsV RX6 97 RX4 yX4_signAt wsX4_signAt) := goodIn_app (goodIn_of _ (by decide +kernel)) ggX6_doTextCommand_X4_signAt
set_option maxRecDepth 20000 in
theorem ggX6_doTextCommand_X4_numberAt : GoodIn wsX6_doTextCommand wsX4_numberAt := goodIn_r _ [14, 15, 16, 17, 7, 18, 19, 5, 6, 8, 9, 10, 242, 243] (by decide +kernel) (by decide +kernel)
set_option maxRecDepth 20000 in
theorem gX6_doTextCommand_X4_numberAt : GoodIn wsX6_doTextCommand (wsV RX6 326 RX4 yX4_numberAt wsX4_numberAt) := goodIn_app (goodIn_of _ (by decide +kernel)) ggX6_doTextCommand_X4_numberAt
set_option maxRecDepth 20000 in
theorem ggX6_doTextCommand_X0_beginGame : GoodIn wsX6_doTextCommand wsX0_beginGame := goodIn_r _ [24, 25, 26, 27, 28, 29, 30, 31, 32, 33, 34, 35, 23, 36, 37, 38, 39, 40, 41, 42, 43, 44, 45, 46, 47, 48, 49, 50, 51, 52, 53, 54, 55, 56, 57, 58, 59, 60, 61, 62, 63, 64, 244, 245, 246, 247, 248, 249, 250, 251, 252, 253, 254, 255, 256, 257, 258, 259, 260, 261, 262, 263] (by decide +kernel) (by decide +kernel)
set_option maxRecDepth 20000 in
theorem gX6_doTextCommand_X0_beginGame : GoodIn wsX6_doTextCommand (wsV RX6 207 RX0 yX0_beginGame wsX0_beginGame) := goodIn_app (goodIn_of _ (by decide +kernel)) ggX6_doTextCommand_X0_beginGame
set_option maxRecDepth 20000 in
theorem ggX6_doTextCommand_X0_stepIfPossible : GoodIn wsX6_doTextCommand wsX0_stepIfPossible := goodIn_r _ [68, 69, 70, 71, 23, 72, 73, 74, 75, 76, 31, 29, 77, 78, 79, 80, 30, 81, 82, 83, 84, 26, 27, 85, 86, 87, 52, 88, 55, 62, 89, 39, 90, 91, 63, 64, 92, 93, 94, 95, 96, 97, 98, 25, 99, 100, 101, 102, 54, 103, 104, 105, 106, 107, 59, 60, 61, 108, 109, 110, 111, 112, 113, 32, 114, 115, 116, 117, 118, 119, 120, 121, 122, 123, 56, 124, 125, 126, 127, 128, 129, 244, 245, 246, 247, 248, 249, 250, 251, 252, 253, 254, 255, 256, 257, 258, 259, 260, 261, 262, 263] (by decide +kernel) (by decide +kernel)
set_option maxRecDepth 20000 in
theorem gX6_doTextCommand_X0_stepIfPossible : GoodIn wsX6_doTextCommand (wsV RX6 329 RX0 yX0_stepIfPossible wsX0_stepIfPossible) := goodIn_app (goodIn_of _ (by decide +kernel)) ggX6_doTextCommand_X0_stepIfPossible
set_option maxRecDepth 20000 in
theorem ggX6_doTextCommand_X4_digitAt : GoodIn wsX6_doTextCommand wsX4_digitAt := goodIn_r _ [18, 19, 5, 6, 7, 8, 9, 10, 242, 243] (by decide +kernel) (by decide +kernel)
set_option maxRecDepth 20000 in
theorem gX6_doTextCommand_X4_digitAt : GoodIn wsX6_doTextCommand (wsV RX6 332 RX4 yX4_digitAt wsX4_digitAt) := goodIn_app (goodIn_of _ (by decide +kernel)) ggX6_doTextCommand_X4_digitAt
set_option maxRecDepth 20000 in
theorem ggX6_doTextCommand_X6_cellAt : GoodIn wsX6_doTextCommand wsX6_cellAt := goodIn_r _ [94] (by decide +kernel) (by decide +kernel)
set_option maxRecDepth 20000 in
theorem gX6_doTextCommand_X6_cellAt : GoodIn wsX6_doTextCommand (va_wsS RX6 168 yX6_cellAt wsX6_cellAt) := goodIn_app (goodIn_of _ (by decide +kernel)) ggX6_doTextCommand_X6_cellAt
set_option maxRecDepth 20000 in
theorem ggX6_doTextCommand_X0_damIfPossible : GoodIn wsX6_doTextCommand wsX0_damIfPossible := goodIn_r _ [134, 63, 39, 64, 69, 70, 71, 23, 72, 73, 74, 75, 76, 31, 29, 135, 136, 137, 138, 30, 139, 140, 141, 142, 143, 26, 27, 95, 96, 97, 98, 25, 99, 100, 101, 52, 102, 54, 81, 82, 83, 84, 144, 145, 146, 147, 148, 149, 150, 151, 152, 153, 154, 155, 156, 157, 158, 86, 87, 88, 55, 62, 159, 160, 161, 162, 163, 164, 165, 166, 167, 168, 169, 170, 171, 172, 173, 174, 125, 126, 127, 128, 129, 244, 245, 246, 247, 248, 249, 250, 251, 252, 253, 254, 255, 256, 257, 258, 259, 260, 261, 262, 263, 264, 265, 266, 267, 268, 269] (by decide +kernel) (by decide +kernel)
set_option maxRecDepth 20000 in
theorem gX6_doTextCommand_X0_damIfPossible : GoodIn wsX6_doTextCommand (wsV RX6 335 RX0 yX0_damIfPossible wsX0_damIfPossible) := goodIn_app (goodIn_of _ (by decide +kernel)) ggX6_doTextCommand_X0_damIfPossible
set_option maxRecDepth 20000 in
theorem ggX6_doTextCommand_X0_floodIfPossible : GoodIn wsX6_doTextCommand wsX0_floodIfPossible := goodIn_r _ [178, 179, 180, 181, 23, 182, 69, 70, 71, 72, 73, 74, 75, 76, 31, 29, 77, 78, 79, 80, 30, 81, 82, 83, 84, 26, 27, 85, 86, 87, 52, 88, 55, 62, 89, 39, 90, 91, 63, 64, 92, 93, 94, 95, 96, 97, 98, 25, 99, 100, 101, 102, 54, 183, 184, 185, 186, 187, 120, 121, 122, 123, 56, 124, 125, 126, 127, 128, 129, 244, 245, 246, 247, 248, 249, 250, 251, 252, 253, 254, 255, 256, 257, 258, 259, 260, 261, 262, 263] (by decide +kernel) (by decide +kernel)
set_option maxRecDepth 20000 in
theorem gX6_doTextCommand_X0_floodIfPossible : GoodIn wsX6_doTextCommand (wsV RX6 339 RX0 yX0_floodIfPossible wsX0_floodIfPossible) := goodIn_app (goodIn_of _ (by decide +kernel)) ggX6_doTextCommand_X0_floodIfPossible
set_option maxRecDepth 20000 in
theorem ggX6_doTextCommand_X5_bestStep : GoodIn wsX6_doTextCommand wsX5_bestStep := goodIn_r _ [191, 192, 193, 70, 71, 23, 72, 73, 74, 75, 76, 31, 29, 194, 195, 196, 147, 197, 149, 156, 198, 157, 199, 200, 78, 79, 80, 30, 81, 82, 83, 84, 26, 27, 85, 86, 87, 52, 88, 55, 62, 89, 39, 90, 91, 63, 64, 92, 93, 94, 95, 96, 97, 98, 25, 99, 100, 101, 102, 54, 201, 202, 203, 204, 205, 206, 207, 151, 158, 170, 208, 116, 117, 118, 119, 209, 210, 211, 212, 150, 169, 165, 166, 167, 168, 213, 214, 215, 216, 217, 218, 219, 220, 164, 244, 245, 246, 247, 248, 249, 250, 251, 252, 253, 254, 255, 264, 265, 266, 267, 268, 269, 256, 257, 258, 259, 260, 261, 262, 263] (by decide +kernel) (by decide +kernel)
set_option maxRecDepth 20000 in
theorem gX6_doTextCommand_X5_bestStep : GoodIn wsX6_doTextCommand (wsV RX6 280 RX5 yX5_bestStep wsX5_bestStep) := goodIn_app (goodIn_of _ (by decide +kernel)) ggX6_doTextCommand_X5_bestStep
set_option maxRecDepth 20000 in
theorem ggX6_doTextCommand_X0_changeIfPossible : GoodIn wsX6_doTextCommand wsX0_changeIfPossible := goodIn_r _ [224, 225, 39, 226, 227, 228, 229, 23, 230, 129, 112, 231, 232, 233, 234, 244, 245, 246, 247, 248, 249, 250, 251, 252, 253, 254, 255] (by decide +kernel) (by decide +kernel)
set_option maxRecDepth 20000 in
theorem gX6_doTextCommand_X0_changeIfPossible : GoodIn wsX6_doTextCommand (wsV RX6 342 RX0 yX0_changeIfPossible wsX0_changeIfPossible) := goodIn_app (goodIn_of _ (by decide +kernel)) ggX6_doTextCommand_X0_changeIfPossible
theorem dX6_doTextCommand_0 : decode cX6_doTextCommand 0 = .ok (.aload_n 0, 1) := by decide +kernel
theorem dX6_doTextCommand_1 : decode cX6_doTextCommand 1 = .ok (.getfield 10, 3) := by decide +kernel
theorem dX6_doTextCommand_4 : decode cX6_doTextCommand 4 = .ok (.iload_n 1, 1) := by decide +kernel
theorem dX6_doTextCommand_5 : decode cX6_doTextCommand 5 = .ok (.invokevirtual 97, 3) := by decide +kernel
theorem dX6_doTextCommand_8 : decode cX6_doTextCommand 8 = .ok (.tableswitch 243 98 119 #[194, 243, 151, 133, 186, 243, 243, 243, 243, 243, 243, 243, 104, 243, 243, 243, 243, 124, 243, 243, 215, 142], 104) := by decide +kernel
theorem dX6_doTextCommand_112 : decode cX6_doTextCommand 112 = .ok (.aload_n 0, 1) := by decide +kernel
theorem dX6_doTextCommand_113 : decode cX6_doTextCommand 113 = .ok (.getfield 19, 3) := by decide +kernel
theorem dX6_doTextCommand_116 : decode cX6_doTextCommand 116 = .ok (.aload_n 0, 1) := by decide +kernel
theorem dX6_doTextCommand_117 : decode cX6_doTextCommand 117 = .ok (.getfield 10, 3) := by decide +kernel
theorem dX6_doTextCommand_120 : decode cX6_doTextCommand 120 = .ok (.iload_n 1, 1) := by decide +kernel
theorem dX6_doTextCommand_121 : decode cX6_doTextCommand 121 = .ok (.iconst 1, 1) := by decide +kernel
theorem dX6_doTextCommand_122 : decode cX6_doTextCommand 122 = .ok (.iadd, 1) := by decide +kernel
theorem dX6_doTextCommand_123 : decode cX6_doTextCommand 123 = .ok (.invokevirtual 326, 3) := by decide +kernel
theorem dX6_doTextCommand_126 : decode cX6_doTextCommand 126 = .ok (.i2l, 1) := by decide +kernel
theorem dX6_doTextCommand_127 : decode cX6_doTextCommand 127 = .ok (.invokevirtual 207, 3) := by decide +kernel
theorem dX6_doTextCommand_130 : decode cX6_doTextCommand 130 = .ok (.iconst 1, 1) := by decide +kernel
theorem dX6_doTextCommand_131 : decode cX6_doTextCommand 131 = .ok (.ireturn, 1) := by decide +kernel
theorem dX6_doTextCommand_132 : decode cX6_doTextCommand 132 = .ok (.aload_n 0, 1) := by decide +kernel
theorem dX6_doTextCommand_133 : decode cX6_doTextCommand 133 = .ok (.getfield 19, 3) := by decide +kernel
theorem dX6_doTextCommand_136 : decode cX6_doTextCommand 136 = .ok (.iconst 0, 1) := by decide +kernel
theorem dX6_doTextCommand_137 : decode cX6_doTextCommand 137 = .ok (.invokevirtual 329, 3) := by decide +kernel
theorem dX6_doTextCommand_140 : decode cX6_doTextCommand 140 = .ok (.ireturn, 1) := by decide +kernel
theorem dX6_doTextCommand_141 : decode cX6_doTextCommand 141 = .ok (.aload_n 0, 1) := by decide +kernel
theorem dX6_doTextCommand_142 : decode cX6_doTextCommand 142 = .ok (.getfield 19, 3) := by decide +kernel
theorem dX6_doTextCommand_145 : decode cX6_doTextCommand 145 = .ok (.iconst 1, 1) := by decide +kernel
theorem dX6_doTextCommand_146 : decode cX6_doTextCommand 146 = .ok (.invokevirtual 329, 3) := by decide +kernel
theorem dX6_doTextCommand_149 : decode cX6_doTextCommand 149 = .ok (.ireturn, 1) := by decide +kernel
theorem dX6_doTextCommand_150 : decode cX6_doTextCommand 150 = .ok (.aload_n 0, 1) := by decide +kernel
theorem dX6_doTextCommand_151 : decode cX6_doTextCommand 151 = .ok (.getfield 19, 3) := by decide +kernel
theorem dX6_doTextCommand_154 : decode cX6_doTextCommand 154 = .ok (.iconst 2, 1) := by decide +kernel
theorem dX6_doTextCommand_155 : decode cX6_doTextCommand 155 = .ok (.invokevirtual 329, 3) := by decide +kernel
theorem dX6_doTextCommand_158 : decode cX6_doTextCommand 158 = .ok (.ireturn, 1) := by decide +kernel
theorem dX6_doTextCommand_159 : decode cX6_doTextCommand 159 = .ok (.aload_n 0, 1) := by decide +kernel
theorem dX6_doTextCommand_160 : decode cX6_doTextCommand 160 = .ok (.getfield 19, 3) := by decide +kernel
theorem dX6_doTextCommand_163 : decode cX6_doTextCommand 163 = .ok (.aload_n 0, 1) := by decide +kernel
theorem dX6_doTextCommand_164 : decode cX6_doTextCommand 164 = .ok (.getfield 10, 3) := by decide +kernel
theorem dX6_doTextCommand_167 : decode cX6_doTextCommand 167 = .ok (.iload_n 1, 1) := by decide +kernel
theorem dX6_doTextCommand_168 : decode cX6_doTextCommand 168 = .ok (.iconst 1, 1) := by decide +kernel
theorem dX6_doTextCommand_169 : decode cX6_doTextCommand 169 = .ok (.iadd, 1) := by decide +kernel
theorem dX6_doTextCommand_170 : decode cX6_doTextCommand 170 = .ok (.invokevirtual 332, 3) := by decide +kernel
theorem dX6_doTextCommand_173 : decode cX6_doTextCommand 173 = .ok (.aload_n 0, 1) := by decide +kernel
theorem dX6_doTextCommand_174 : decode cX6_doTextCommand 174 = .ok (.getfield 10, 3) := by decide +kernel
theorem dX6_doTextCommand_177 : decode cX6_doTextCommand 177 = .ok (.iload_n 1, 1) := by decide +kernel
theorem dX6_doTextCommand_178 : decode cX6_doTextCommand 178 = .ok (.iconst 2, 1) := by decide +kernel
theorem dX6_doTextCommand_179 : decode cX6_doTextCommand 179 = .ok (.iadd, 1) := by decide +kernel
theorem dX6_doTextCommand_180 : decode cX6_doTextCommand 180 = .ok (.invokevirtual 332, 3) := by decide +kernel
theorem dX6_doTextCommand_183 : decode cX6_doTextCommand 183 = .ok (.invokestatic 168, 3) := by decide +kernel
theorem dX6_doTextCommand_186 : decode cX6_doTextCommand 186 = .ok (.aload_n 0, 1) := by decide +kernel
theorem dX6_doTextCommand_187 : decode cX6_doTextCommand 187 = .ok (.getfield 29, 3) := by decide +kernel
theorem dX6_doTextCommand_190 : decode cX6_doTextCommand 190 = .ok (.invokevirtual 335, 3) := by decide +kernel
theorem dX6_doTextCommand_193 : decode cX6_doTextCommand 193 = .ok (.ireturn, 1) := by decide +kernel
theorem dX6_doTextCommand_194 : decode cX6_doTextCommand 194 = .ok (.aload_n 0, 1) := by decide +kernel
theorem dX6_doTextCommand_195 : decode cX6_doTextCommand 195 = .ok (.getfield 19, 3) := by decide +kernel
theorem dX6_doTextCommand_198 : decode cX6_doTextCommand 198 = .ok (.invokevirtual 339, 3) := by decide +kernel
theorem dX6_doTextCommand_201 : decode cX6_doTextCommand 201 = .ok (.ireturn, 1) := by decide +kernel
theorem dX6_doTextCommand_202 : decode cX6_doTextCommand 202 = .ok (.aload_n 0, 1) := by decide +kernel
theorem dX6_doTextCommand_203 : decode cX6_doTextCommand 203 = .ok (.getfield 19, 3) := by decide +kernel
theorem dX6_doTextCommand_206 : decode cX6_doTextCommand 206 = .ok (.aload_n 0, 1) := by decide +kernel
theorem dX6_doTextCommand_207 : decode cX6_doTextCommand 207 = .ok (.getfield 29, 3) := by decide +kernel
theorem dX6_doTextCommand_210 : decode cX6_doTextCommand 210 = .ok (.aload_n 0, 1) := by decide +kernel
theorem dX6_doTextCommand_211 : decode cX6_doTextCommand 211 = .ok (.getfield 19, 3) := by decide +kernel
theorem dX6_doTextCommand_214 : decode cX6_doTextCommand 214 = .ok (.invokevirtual 280, 3) := by decide +kernel
theorem dX6_doTextCommand_217 : decode cX6_doTextCommand 217 = .ok (.invokevirtual 329, 3) := by decide +kernel
theorem dX6_doTextCommand_220 : decode cX6_doTextCommand 220 = .ok (.pop, 1) := by decide +kernel
theorem dX6_doTextCommand_221 : decode cX6_doTextCommand 221 = .ok (.iconst 1, 1) := by decide +kernel
theorem dX6_doTextCommand_222 : decode cX6_doTextCommand 222 = .ok (.ireturn, 1) := by decide +kernel
theorem dX6_doTextCommand_223 : decode cX6_doTextCommand 223 = .ok (.aload_n 0, 1) := by decide +kernel
theorem dX6_doTextCommand_224 : decode cX6_doTextCommand 224 = .ok (.getfield 19, 3) := by decide +kernel
theorem dX6_doTextCommand_227 : decode cX6_doTextCommand 227 = .ok (.aload_n 0, 1) := by decide +kernel
theorem dX6_doTextCommand_228 : decode cX6_doTextCommand 228 = .ok (.getfield 10, 3) := by decide +kernel
theorem dX6_doTextCommand_231 : decode cX6_doTextCommand 231 = .ok (.iload_n 1, 1) := by decide +kernel
theorem dX6_doTextCommand_232 : decode cX6_doTextCommand 232 = .ok (.iconst 1, 1) := by decide +kernel
theorem dX6_doTextCommand_233 : decode cX6_doTextCommand 233 = .ok (.iadd, 1) := by decide +kernel
theorem dX6_doTextCommand_234 : decode cX6_doTextCommand 234 = .ok (.invokevirtual 332, 3) := by decide +kernel
theorem dX6_doTextCommand_237 : decode cX6_doTextCommand 237 = .ok (.aload_n 0, 1) := by decide +kernel
theorem dX6_doTextCommand_238 : decode cX6_doTextCommand 238 = .ok (.getfield 10, 3) := by decide +kernel
theorem dX6_doTextCommand_241 : decode cX6_doTextCommand 241 = .ok (.iload_n 1, 1) := by decide +kernel
theorem dX6_doTextCommand_242 : decode cX6_doTextCommand 242 = .ok (.iconst 2, 1) := by decide +kernel
theorem dX6_doTextCommand_243 : decode cX6_doTextCommand 243 = .ok (.iadd, 1) := by decide +kernel
theorem dX6_doTextCommand_244 : decode cX6_doTextCommand 244 = .ok (.invokevirtual 326, 3) := by decide +kernel
theorem dX6_doTextCommand_247 : decode cX6_doTextCommand 247 = .ok (.invokevirtual 342, 3) := by decide +kernel
theorem dX6_doTextCommand_250 : decode cX6_doTextCommand 250 = .ok (.ireturn, 1) := by decide +kernel
theorem dX6_doTextCommand_251 : decode cX6_doTextCommand 251 = .ok (.iconst 0, 1) := by decide +kernel
theorem dX6_doTextCommand_252 : decode cX6_doTextCommand 252 = .ok (.ireturn, 1) := by decide +kernel
set_option maxRecDepth 20000 in
theorem ggX6_doGroup_X0_beginGame : GoodIn wsX6_doGroup wsX0_beginGame := goodIn_r _ [9, 10, 11, 12, 13, 14, 15, 16, 17, 18, 19, 20, 8, 21, 22, 23, 24, 25, 26, 27, 28, 29, 30, 31, 32, 33, 34, 35, 36, 37, 38, 39, 40, 41, 42, 43, 44, 45, 46, 47, 48, 49, 243, 244, 245, 246, 247, 248, 249, 250, 251, 252, 253, 254, 235, 236, 237, 238, 239, 240, 241, 242] (by decide +kernel) (by decide +kernel)
set_option maxRecDepth 20000 in
theorem gX6_doGroup_X0_beginGame : GoodIn wsX6_doGroup (wsV RX6 207 RX0 yX0_beginGame wsX0_beginGame) := goodIn_app (goodIn_of _ (by decide +kernel)) ggX6_doGroup_X0_beginGame
set_option maxRecDepth 20000 in
theorem ggX6_doGroup_X0_stepIfPossible : GoodIn wsX6_doGroup wsX0_stepIfPossible := goodIn_r _ [53, 54, 55, 56, 8, 57, 58, 59, 60, 61, 16, 14, 62, 63, 64, 65, 15, 66, 67, 68, 69, 11, 12, 70, 71, 72, 37, 73, 40, 47, 74, 24, 75, 76, 48, 49, 77, 78, 79, 80, 81, 82, 83, 10, 84, 85, 86, 87, 39, 88, 89, 90, 91, 92, 44, 45, 46, 93, 94, 95, 96, 97, 98, 17, 99, 100, 101, 102, 103, 104, 105, 106, 107, 108, 41, 109, 110, 111, 112, 113, 114, 243, 244, 245, 246, 247, 248, 249, 250, 251, 252, 253, 254, 235, 236, 237, 238, 239, 240, 241, 242] (by decide +kernel) (by decide +kernel)
set_option maxRecDepth 20000 in
theorem gX6_doGroup_X0_stepIfPossible : GoodIn wsX6_doGroup (wsV RX6 329 RX0 yX0_stepIfPossible wsX0_stepIfPossible) := goodIn_app (goodIn_of _ (by decide +kernel)) ggX6_doGroup_X0_stepIfPossible
set_option maxRecDepth 20000 in
theorem ggX6_doGroup_X6_cellAt : GoodIn wsX6_doGroup wsX6_cellAt := goodIn_r _ [79] (by decide +kernel) (by decide +kernel)
set_option maxRecDepth 20000 in
theorem gX6_doGroup_X6_cellAt : GoodIn wsX6_doGroup (va_wsS RX6 168 yX6_cellAt wsX6_cellAt) := goodIn_app (goodIn_of _ (by decide +kernel)) ggX6_doGroup_X6_cellAt
set_option maxRecDepth 20000 in
theorem ggX6_doGroup_X0_damIfPossible : GoodIn wsX6_doGroup wsX0_damIfPossible := goodIn_r _ [118, 48, 24, 49, 54, 55, 56, 8, 57, 58, 59, 60, 61, 16, 14, 119, 120, 121, 122, 15, 123, 124, 125, 126, 127, 11, 12, 80, 81, 82, 83, 10, 84, 85, 86, 37, 87, 39, 66, 67, 68, 69, 128, 129, 130, 131, 132, 133, 134, 135, 136, 137, 138, 139, 140, 141, 142, 71, 72, 73, 40, 47, 143, 144, 145, 146, 147, 148, 149, 150, 151, 152, 153, 154, 155, 156, 157, 158, 110, 111, 112, 113, 114, 243, 244, 245, 246, 247, 248, 249, 250, 251, 252, 253, 254, 235, 236, 237, 238, 239, 240, 241, 242, 255, 256, 257, 258, 259, 260] (by decide +kernel) (by decide +kernel)
set_option maxRecDepth 20000 in
theorem gX6_doGroup_X0_damIfPossible : GoodIn wsX6_doGroup (wsV RX6 335 RX0 yX0_damIfPossible wsX0_damIfPossible) := goodIn_app (goodIn_of _ (by decide +kernel)) ggX6_doGroup_X0_damIfPossible
set_option maxRecDepth 20000 in
theorem ggX6_doGroup_X0_floodIfPossible : GoodIn wsX6_doGroup wsX0_floodIfPossible := goodIn_r _ [162, 163, 164, 165, 8, 166, 54, 55, 56, 57, 58, 59, 60, 61, 16, 14, 62, 63, 64, 65, 15, 66, 67, 68, 69, 11, 12, 70, 71, 72, 37, 73, 40, 47, 74, 24, 75, 76, 48, 49, 77, 78, 79, 80, 81, 82, 83, 10, 84, 85, 86, 87, 39, 167, 168, 169, 170, 171, 105, 106, 107, 108, 41, 109, 110, 111, 112, 113, 114, 243, 244, 245, 246, 247, 248, 249, 250, 251, 252, 253, 254, 235, 236, 237, 238, 239, 240, 241, 242] (by decide +kernel) (by decide +kernel)
set_option maxRecDepth 20000 in
theorem gX6_doGroup_X0_floodIfPossible : GoodIn wsX6_doGroup (wsV RX6 339 RX0 yX0_floodIfPossible wsX0_floodIfPossible) := goodIn_app (goodIn_of _ (by decide +kernel)) ggX6_doGroup_X0_floodIfPossible
set_option maxRecDepth 20000 in
theorem ggX6_doGroup_X0_changeIfPossible : GoodIn wsX6_doGroup wsX0_changeIfPossible := goodIn_r _ [175, 176, 24, 177, 178, 179, 180, 8, 181, 114, 97, 182, 183, 184, 185, 243, 244, 245, 246, 247, 248, 249, 250, 251, 252, 253, 254] (by decide +kernel) (by decide +kernel)
set_option maxRecDepth 20000 in
theorem gX6_doGroup_X0_changeIfPossible : GoodIn wsX6_doGroup (wsV RX6 342 RX0 yX0_changeIfPossible wsX0_changeIfPossible) := goodIn_app (goodIn_of _ (by decide +kernel)) ggX6_doGroup_X0_changeIfPossible
set_option maxRecDepth 20000 in
theorem ggX6_doGroup_X6_followBest : GoodIn wsX6_doGroup wsX6_followBest := goodIn_r _ [189, 1, 2, 190, 191, 192, 131, 193, 194, 195, 55, 56, 8, 57, 58, 59, 60, 61, 16, 14, 196, 197, 198, 199, 133, 140, 200, 141, 201, 202, 63, 64, 65, 15, 66, 67, 68, 69, 11, 12, 70, 71, 72, 37, 73, 40, 47, 74, 24, 75, 76, 48, 49, 77, 78, 79, 80, 81, 82, 83, 10, 84, 85, 86, 87, 39, 203, 204, 205, 206, 207, 208, 209, 135, 142, 154, 210, 101, 102, 103, 104, 211, 212, 213, 214, 134, 153, 149, 150, 151, 152, 215, 216, 217, 218, 219, 220, 221, 222, 148, 50, 51, 52, 53, 54, 62, 88, 89, 90, 91, 92, 44, 45, 46, 93, 94, 95, 96, 97, 98, 17, 99, 100, 105, 106, 107, 108, 41, 109, 110, 111, 112, 113, 114, 228, 229, 230, 231, 232, 233, 234, 243, 244, 245, 246, 247, 248, 249, 250, 251, 252, 253, 254, 255, 256, 257, 258, 259, 260, 235, 236, 237, 238, 239, 240, 241, 242] (by decide +kernel) (by decide +kernel)
set_option maxRecDepth 20000 in
theorem gX6_doGroup_X6_followBest : GoodIn wsX6_doGroup (wsV RX6 345 RX6 yX6_followBest wsX6_followBest) := goodIn_app (goodIn_of _ (by decide +kernel)) ggX6_doGroup_X6_followBest
set_option maxRecDepth 20000 in
theorem ggX6_doGroup_X6_isPlayer : GoodIn wsX6_doGroup wsX6_isPlayer := goodIn_r _ [225] (by decide +kernel) (by decide +kernel)
set_option maxRecDepth 20000 in
theorem gX6_doGroup_X6_isPlayer : GoodIn wsX6_doGroup (va_wsS RX6 136 yX6_isPlayer wsX6_isPlayer) := goodIn_app (goodIn_of _ (by decide +kernel)) ggX6_doGroup_X6_isPlayer
set_option maxRecDepth 20000 in
theorem ggX6_doGroup_X0_sideOf : GoodIn wsX6_doGroup wsX0_sideOf := goodIn_r _ [69, 11, 12, 243, 244, 245, 246, 247, 248, 249, 250, 251, 252, 253, 254] (by decide +kernel) (by decide +kernel)
set_option maxRecDepth 20000 in
theorem gX6_doGroup_X0_sideOf : GoodIn wsX6_doGroup (wsV RX6 144 RX0 yX0_sideOf wsX0_sideOf) := goodIn_app (goodIn_of _ (by decide +kernel)) ggX6_doGroup_X0_sideOf
set_option maxRecDepth 20000 in
theorem ggX6_doGroup_X0_phase : GoodIn wsX6_doGroup wsX0_phase := goodIn_r _ [61, 16, 14, 243, 244, 245, 246, 247, 248, 249, 250, 251, 252, 253, 254] (by decide +kernel) (by decide +kernel)
set_option maxRecDepth 20000 in
theorem gX6_doGroup_X0_phase : GoodIn wsX6_doGroup (wsV RX6 107 RX0 yX0_phase wsX0_phase) := goodIn_app (goodIn_of _ (by decide +kernel)) ggX6_doGroup_X0_phase
theorem dX6_doGroup_0 : decode cX6_doGroup 0 = .ok (.iload_n 1, 1) := by decide +kernel
theorem dX6_doGroup_1 : decode cX6_doGroup 1 = .ok (.bipush 100, 2) := by decide +kernel
theorem dX6_doGroup_3 : decode cX6_doGroup 3 = .ok (.idiv, 1) := by decide +kernel
theorem dX6_doGroup_4 : decode cX6_doGroup 4 = .ok (.bipush 10, 2) := by decide +kernel
theorem dX6_doGroup_6 : decode cX6_doGroup 6 = .ok (.irem, 1) := by decide +kernel
theorem dX6_doGroup_7 : decode cX6_doGroup 7 = .ok (.istore_n 2, 1) := by decide +kernel
theorem dX6_doGroup_8 : decode cX6_doGroup 8 = .ok (.iload_n 1, 1) := by decide +kernel
theorem dX6_doGroup_9 : decode cX6_doGroup 9 = .ok (.bipush 10, 2) := by decide +kernel
theorem dX6_doGroup_11 : decode cX6_doGroup 11 = .ok (.idiv, 1) := by decide +kernel
theorem dX6_doGroup_12 : decode cX6_doGroup 12 = .ok (.bipush 10, 2) := by decide +kernel
theorem dX6_doGroup_14 : decode cX6_doGroup 14 = .ok (.irem, 1) := by decide +kernel
theorem dX6_doGroup_15 : decode cX6_doGroup 15 = .ok (.istore_n 3, 1) := by decide +kernel
theorem dX6_doGroup_16 : decode cX6_doGroup 16 = .ok (.iload_n 1, 1) := by decide +kernel
theorem dX6_doGroup_17 : decode cX6_doGroup 17 = .ok (.bipush 10, 2) := by decide +kernel
theorem dX6_doGroup_19 : decode cX6_doGroup 19 = .ok (.irem, 1) := by decide +kernel
theorem dX6_doGroup_20 : decode cX6_doGroup 20 = .ok (.istore 4, 2) := by decide +kernel
theorem dX6_doGroup_22 : decode cX6_doGroup 22 = .ok (.iload_n 1, 1) := by decide +kernel
theorem dX6_doGroup_23 : decode cX6_doGroup 23 = .ok (.bipush 100, 2) := by decide +kernel
theorem dX6_doGroup_25 : decode cX6_doGroup 25 = .ok (.irem, 1) := by decide +kernel
theorem dX6_doGroup_26 : decode cX6_doGroup 26 = .ok (.istore 5, 2) := by decide +kernel
theorem dX6_doGroup_28 : decode cX6_doGroup 28 = .ok (.iload_n 1, 1) := by decide +kernel
theorem dX6_doGroup_29 : decode cX6_doGroup 29 = .ok (.sipush 1000, 3) := by decide +kernel
theorem dX6_doGroup_32 : decode cX6_doGroup 32 = .ok (.idiv, 1) := by decide +kernel
theorem dX6_doGroup_33 : decode cX6_doGroup 33 = .ok (.tableswitch 266 1 9 #[51, 69, 95, 125, 148, 159, 182, 211, 237], 51) := by decide +kernel
theorem dX6_doGroup_84 : decode cX6_doGroup 84 = .ok (.iload_n 2, 1) := by decide +kernel
theorem dX6_doGroup_85 : decode cX6_doGroup 85 = .ok (.ifCond .eq 5, 3) := by decide +kernel
theorem dX6_doGroup_88 : decode cX6_doGroup 88 = .ok (.iconst 0, 1) := by decide +kernel
theorem dX6_doGroup_89 : decode cX6_doGroup 89 = .ok (.ireturn, 1) := by decide +kernel
theorem dX6_doGroup_90 : decode cX6_doGroup 90 = .ok (.aload_n 0, 1) := by decide +kernel
theorem dX6_doGroup_91 : decode cX6_doGroup 91 = .ok (.getfield 23, 3) := by decide +kernel
theorem dX6_doGroup_94 : decode cX6_doGroup 94 = .ok (.iload 5, 2) := by decide +kernel
theorem dX6_doGroup_96 : decode cX6_doGroup 96 = .ok (.i2l, 1) := by decide +kernel
theorem dX6_doGroup_97 : decode cX6_doGroup 97 = .ok (.invokevirtual 207, 3) := by decide +kernel
theorem dX6_doGroup_100 : decode cX6_doGroup 100 = .ok (.iconst 1, 1) := by decide +kernel
theorem dX6_doGroup_101 : decode cX6_doGroup 101 = .ok (.ireturn, 1) := by decide +kernel
theorem dX6_doGroup_102 : decode cX6_doGroup 102 = .ok (.iload_n 2, 1) := by decide +kernel
theorem dX6_doGroup_103 : decode cX6_doGroup 103 = .ok (.ifCond .ne 23, 3) := by decide +kernel
theorem dX6_doGroup_106 : decode cX6_doGroup 106 = .ok (.iload_n 3, 1) := by decide +kernel
theorem dX6_doGroup_107 : decode cX6_doGroup 107 = .ok (.ifCond .ne 19, 3) := by decide +kernel
theorem dX6_doGroup_110 : decode cX6_doGroup 110 = .ok (.aload_n 0, 1) := by decide +kernel
theorem dX6_doGroup_111 : decode cX6_doGroup 111 = .ok (.getfield 23, 3) := by decide +kernel
theorem dX6_doGroup_114 : decode cX6_doGroup 114 = .ok (.iload 4, 2) := by decide +kernel
theorem dX6_doGroup_116 : decode cX6_doGroup 116 = .ok (.invokevirtual 329, 3) := by decide +kernel
theorem dX6_doGroup_119 : decode cX6_doGroup 119 = .ok (.ifCond .eq 7, 3) := by decide +kernel
theorem dX6_doGroup_122 : decode cX6_doGroup 122 = .ok (.iconst 1, 1) := by decide +kernel
theorem dX6_doGroup_123 : decode cX6_doGroup 123 = .ok (.goto 4, 3) := by decide +kernel
theorem dX6_doGroup_126 : decode cX6_doGroup 126 = .ok (.iconst 0, 1) := by decide +kernel
theorem dX6_doGroup_127 : decode cX6_doGroup 127 = .ok (.ireturn, 1) := by decide +kernel
theorem dX6_doGroup_128 : decode cX6_doGroup 128 = .ok (.iload_n 2, 1) := by decide +kernel
theorem dX6_doGroup_129 : decode cX6_doGroup 129 = .ok (.ifCond .ne 27, 3) := by decide +kernel
theorem dX6_doGroup_132 : decode cX6_doGroup 132 = .ok (.aload_n 0, 1) := by decide +kernel
theorem dX6_doGroup_133 : decode cX6_doGroup 133 = .ok (.getfield 23, 3) := by decide +kernel
theorem dX6_doGroup_136 : decode cX6_doGroup 136 = .ok (.iload_n 3, 1) := by decide +kernel
theorem dX6_doGroup_137 : decode cX6_doGroup 137 = .ok (.iload 4, 2) := by decide +kernel
theorem dX6_doGroup_139 : decode cX6_doGroup 139 = .ok (.invokestatic 168, 3) := by decide +kernel
theorem dX6_doGroup_142 : decode cX6_doGroup 142 = .ok (.aload_n 0, 1) := by decide +kernel
theorem dX6_doGroup_143 : decode cX6_doGroup 143 = .ok (.getfield 29, 3) := by decide +kernel
theorem dX6_doGroup_146 : decode cX6_doGroup 146 = .ok (.invokevirtual 335, 3) := by decide +kernel
theorem dX6_doGroup_149 : decode cX6_doGroup 149 = .ok (.ifCond .eq 7, 3) := by decide +kernel
theorem dX6_doGroup_152 : decode cX6_doGroup 152 = .ok (.iconst 1, 1) := by decide +kernel
theorem dX6_doGroup_153 : decode cX6_doGroup 153 = .ok (.goto 4, 3) := by decide +kernel
theorem dX6_doGroup_156 : decode cX6_doGroup 156 = .ok (.iconst 0, 1) := by decide +kernel
theorem dX6_doGroup_157 : decode cX6_doGroup 157 = .ok (.ireturn, 1) := by decide +kernel
theorem dX6_doGroup_158 : decode cX6_doGroup 158 = .ok (.iload_n 1, 1) := by decide +kernel
theorem dX6_doGroup_159 : decode cX6_doGroup 159 = .ok (.sipush 4000, 3) := by decide +kernel
theorem dX6_doGroup_162 : decode cX6_doGroup 162 = .ok (.if_icmp .ne 17, 3) := by decide +kernel
theorem dX6_doGroup_165 : decode cX6_doGroup 165 = .ok (.aload_n 0, 1) := by decide +kernel
theorem dX6_doGroup_166 : decode cX6_doGroup 166 = .ok (.getfield 23, 3) := by decide +kernel
theorem dX6_doGroup_169 : decode cX6_doGroup 169 = .ok (.invokevirtual 339, 3) := by decide +kernel
theorem dX6_doGroup_172 : decode cX6_doGroup 172 = .ok (.ifCond .eq 7, 3) := by decide +kernel
theorem dX6_doGroup_175 : decode cX6_doGroup 175 = .ok (.iconst 1, 1) := by decide +kernel
theorem dX6_doGroup_176 : decode cX6_doGroup 176 = .ok (.goto 4, 3) := by decide +kernel
theorem dX6_doGroup_179 : decode cX6_doGroup 179 = .ok (.iconst 0, 1) := by decide +kernel
theorem dX6_doGroup_180 : decode cX6_doGroup 180 = .ok (.ireturn, 1) := by decide +kernel
theorem dX6_doGroup_181 : decode cX6_doGroup 181 = .ok (.aload_n 0, 1) := by decide +kernel
theorem dX6_doGroup_182 : decode cX6_doGroup 182 = .ok (.getfield 23, 3) := by decide +kernel
theorem dX6_doGroup_185 : decode cX6_doGroup 185 = .ok (.iload_n 2, 1) := by decide +kernel
theorem dX6_doGroup_186 : decode cX6_doGroup 186 = .ok (.iload 5, 2) := by decide +kernel
theorem dX6_doGroup_188 : decode cX6_doGroup 188 = .ok (.invokevirtual 342, 3) := by decide +kernel
theorem dX6_doGroup_191 : decode cX6_doGroup 191 = .ok (.ireturn, 1) := by decide +kernel
theorem dX6_doGroup_192 : decode cX6_doGroup 192 = .ok (.iload_n 2, 1) := by decide +kernel
theorem dX6_doGroup_193 : decode cX6_doGroup 193 = .ok (.ifCond .ne 20, 3) := by decide +kernel
theorem dX6_doGroup_196 : decode cX6_doGroup 196 = .ok (.iload_n 3, 1) := by decide +kernel
theorem dX6_doGroup_197 : decode cX6_doGroup 197 = .ok (.ifCond .ne 16, 3) := by decide +kernel
theorem dX6_doGroup_200 : decode cX6_doGroup 200 = .ok (.aload_n 0, 1) := by decide +kernel
theorem dX6_doGroup_201 : decode cX6_doGroup 201 = .ok (.iload 4, 2) := by decide +kernel
theorem dX6_doGroup_203 : decode cX6_doGroup 203 = .ok (.invokevirtual 345, 3) := by decide +kernel
theorem dX6_doGroup_206 : decode cX6_doGroup 206 = .ok (.ifCond .eq 7, 3) := by decide +kernel
theorem dX6_doGroup_209 : decode cX6_doGroup 209 = .ok (.iconst 1, 1) := by decide +kernel
theorem dX6_doGroup_210 : decode cX6_doGroup 210 = .ok (.goto 4, 3) := by decide +kernel
theorem dX6_doGroup_213 : decode cX6_doGroup 213 = .ok (.iconst 0, 1) := by decide +kernel
theorem dX6_doGroup_214 : decode cX6_doGroup 214 = .ok (.ireturn, 1) := by decide +kernel
theorem dX6_doGroup_215 : decode cX6_doGroup 215 = .ok (.iload_n 2, 1) := by decide +kernel
theorem dX6_doGroup_216 : decode cX6_doGroup 216 = .ok (.invokestatic 136, 3) := by decide +kernel
theorem dX6_doGroup_219 : decode cX6_doGroup 219 = .ok (.ifCond .eq 23, 3) := by decide +kernel
theorem dX6_doGroup_222 : decode cX6_doGroup 222 = .ok (.aload_n 0, 1) := by decide +kernel
theorem dX6_doGroup_223 : decode cX6_doGroup 223 = .ok (.getfield 23, 3) := by decide +kernel
theorem dX6_doGroup_226 : decode cX6_doGroup 226 = .ok (.iload_n 2, 1) := by decide +kernel
theorem dX6_doGroup_227 : decode cX6_doGroup 227 = .ok (.invokevirtual 144, 3) := by decide +kernel
theorem dX6_doGroup_230 : decode cX6_doGroup 230 = .ok (.getfield 154, 3) := by decide +kernel
theorem dX6_doGroup_233 : decode cX6_doGroup 233 = .ok (.iload 5, 2) := by decide +kernel
theorem dX6_doGroup_235 : decode cX6_doGroup 235 = .ok (.if_icmp .gt 7, 3) := by decide +kernel
theorem dX6_doGroup_238 : decode cX6_doGroup 238 = .ok (.iconst 1, 1) := by decide +kernel
theorem dX6_doGroup_239 : decode cX6_doGroup 239 = .ok (.goto 4, 3) := by decide +kernel
theorem dX6_doGroup_242 : decode cX6_doGroup 242 = .ok (.iconst 0, 1) := by decide +kernel
theorem dX6_doGroup_243 : decode cX6_doGroup 243 = .ok (.ireturn, 1) := by decide +kernel
theorem dX6_doGroup_244 : decode cX6_doGroup 244 = .ok (.iload_n 2, 1) := by decide +kernel
theorem dX6_doGroup_245 : decode cX6_doGroup 245 = .ok (.ifCond .ne 23, 3) := by decide +kernel
theorem dX6_doGroup_248 : decode cX6_doGroup 248 = .ok (.iload_n 3, 1) := by decide +kernel
theorem dX6_doGroup_249 : decode cX6_doGroup 249 = .ok (.ifCond .ne 19, 3) := by decide +kernel
theorem dX6_doGroup_252 : decode cX6_doGroup 252 = .ok (.aload_n 0, 1) := by decide +kernel
theorem dX6_doGroup_253 : decode cX6_doGroup 253 = .ok (.getfield 23, 3) := by decide +kernel
theorem dX6_doGroup_256 : decode cX6_doGroup 256 = .ok (.invokevirtual 107, 3) := by decide +kernel
theorem dX6_doGroup_259 : decode cX6_doGroup 259 = .ok (.iload 4, 2) := by decide +kernel
theorem dX6_doGroup_261 : decode cX6_doGroup 261 = .ok (.if_icmp .ne 7, 3) := by decide +kernel
theorem dX6_doGroup_264 : decode cX6_doGroup 264 = .ok (.iconst 1, 1) := by decide +kernel
theorem dX6_doGroup_265 : decode cX6_doGroup 265 = .ok (.goto 4, 3) := by decide +kernel
theorem dX6_doGroup_268 : decode cX6_doGroup 268 = .ok (.iconst 0, 1) := by decide +kernel
theorem dX6_doGroup_269 : decode cX6_doGroup 269 = .ok (.ireturn, 1) := by decide +kernel
theorem dX6_doGroup_270 : decode cX6_doGroup 270 = .ok (.iload_n 2, 1) := by decide +kernel
theorem dX6_doGroup_271 : decode cX6_doGroup 271 = .ok (.invokestatic 136, 3) := by decide +kernel
theorem dX6_doGroup_274 : decode cX6_doGroup 274 = .ok (.ifCond .eq 23, 3) := by decide +kernel
theorem dX6_doGroup_277 : decode cX6_doGroup 277 = .ok (.aload_n 0, 1) := by decide +kernel
theorem dX6_doGroup_278 : decode cX6_doGroup 278 = .ok (.getfield 23, 3) := by decide +kernel
theorem dX6_doGroup_281 : decode cX6_doGroup 281 = .ok (.iload_n 2, 1) := by decide +kernel
theorem dX6_doGroup_282 : decode cX6_doGroup 282 = .ok (.invokevirtual 144, 3) := by decide +kernel
theorem dX6_doGroup_285 : decode cX6_doGroup 285 = .ok (.getfield 148, 3) := by decide +kernel
theorem dX6_doGroup_288 : decode cX6_doGroup 288 = .ok (.iload 5, 2) := by decide +kernel
theorem dX6_doGroup_290 : decode cX6_doGroup 290 = .ok (.if_icmp .lt 7, 3) := by decide +kernel
theorem dX6_doGroup_293 : decode cX6_doGroup 293 = .ok (.iconst 1, 1) := by decide +kernel
theorem dX6_doGroup_294 : decode cX6_doGroup 294 = .ok (.goto 4, 3) := by decide +kernel
theorem dX6_doGroup_297 : decode cX6_doGroup 297 = .ok (.iconst 0, 1) := by decide +kernel
theorem dX6_doGroup_298 : decode cX6_doGroup 298 = .ok (.ireturn, 1) := by decide +kernel
theorem dX6_doGroup_299 : decode cX6_doGroup 299 = .ok (.iconst 0, 1) := by decide +kernel
theorem dX6_doGroup_300 : decode cX6_doGroup 300 = .ok (.ireturn, 1) := by decide +kernel
set_option maxRecDepth 20000 in
theorem ggX6_followBest_X5_bestStep : GoodIn wsX6_followBest wsX5_bestStep := goodIn_r _ [7, 8, 9, 10, 11, 12, 13, 14, 15, 16, 17, 18, 19, 20, 21, 22, 6, 23, 24, 25, 26, 27, 28, 29, 30, 31, 32, 33, 34, 35, 36, 37, 38, 39, 40, 41, 42, 43, 44, 45, 46, 47, 48, 49, 50, 51, 52, 53, 54, 55, 56, 57, 58, 59, 60, 61, 62, 63, 64, 65, 66, 67, 68, 69, 70, 71, 72, 73, 74, 75, 76, 77, 78, 79, 80, 81, 82, 83, 84, 85, 86, 87, 88, 89, 90, 91, 92, 93, 94, 95, 96, 97, 98, 99, 141, 142, 143, 144, 145, 146, 147, 148, 149, 150, 151, 152, 153, 154, 155, 156, 157, 158, 159, 160, 161, 162, 163, 164, 165, 166] (by decide +kernel) (by decide +kernel)
set_option maxRecDepth 20000 in
theorem gX6_followBest_X5_bestStep : GoodIn wsX6_followBest (wsV RX6 280 RX5 yX5_bestStep wsX5_bestStep) := goodIn_app (goodIn_of _ (by decide +kernel)) ggX6_followBest_X5_bestStep
set_option maxRecDepth 20000 in
theorem ggX6_followBest_X0_stepIfPossible : GoodIn wsX6_followBest wsX0_stepIfPossible := goodIn_r _ [103, 104, 10, 11, 12, 13, 14, 15, 16, 17, 18, 19, 105, 30, 31, 32, 33, 34, 35, 36, 37, 38, 39, 40, 41, 42, 43, 44, 45, 46, 47, 48, 49, 50, 51, 52, 53, 54, 55, 56, 57, 58, 59, 60, 61, 62, 63, 64, 65, 106, 107, 108, 109, 110, 111, 112, 113, 114, 115, 116, 117, 118, 119, 120, 121, 122, 77, 78, 79, 80, 123, 124, 125, 126, 127, 128, 129, 130, 131, 132, 133, 141, 142, 143, 144, 145, 146, 147, 148, 149, 150, 151, 152, 159, 160, 161, 162, 163, 164, 165, 166] (by decide +kernel) (by decide +kernel)
set_option maxRecDepth 20000 in
theorem gX6_followBest_X0_stepIfPossible : GoodIn wsX6_followBest (wsV RX6 329 RX0 yX0_stepIfPossible wsX0_stepIfPossible) := goodIn_app (goodIn_of _ (by decide +kernel)) ggX6_followBest_X0_stepIfPossible
theorem dX6_followBest_0 : decode cX6_followBest 0 = .ok (.iconst 0, 1) := by decide +kernel
theorem dX6_followBest_1 : decode cX6_followBest 1 = .ok (.istore_n 2, 1) := by decide +kernel
theorem dX6_followBest_2 : decode cX6_followBest 2 = .ok (.iload_n 2, 1) := by decide +kernel
theorem dX6_followBest_3 : decode cX6_followBest 3 = .ok (.iload_n 1, 1) := by decide +kernel
theorem dX6_followBest_4 : decode cX6_followBest 4 = .ok (.if_icmp .ge 32, 3) := by decide +kernel
theorem dX6_followBest_7 : decode cX6_followBest 7 = .ok (.aload_n 0, 1) := by decide +kernel
theorem dX6_followBest_8 : decode cX6_followBest 8 = .ok (.getfield 23, 3) := by decide +kernel
theorem dX6_followBest_11 : decode cX6_followBest 11 = .ok (.aload_n 0, 1) := by decide +kernel
theorem dX6_followBest_12 : decode cX6_followBest 12 = .ok (.getfield 29, 3) := by decide +kernel
theorem dX6_followBest_15 : decode cX6_followBest 15 = .ok (.aload_n 0, 1) := by decide +kernel
theorem dX6_followBest_16 : decode cX6_followBest 16 = .ok (.getfield 23, 3) := by decide +kernel
theorem dX6_followBest_19 : decode cX6_followBest 19 = .ok (.invokevirtual 280, 3) := by decide +kernel
theorem dX6_followBest_22 : decode cX6_followBest 22 = .ok (.invokevirtual 329, 3) := by decide +kernel
theorem dX6_followBest_25 : decode cX6_followBest 25 = .ok (.ifCond .ne 5, 3) := by decide +kernel
theorem dX6_followBest_28 : decode cX6_followBest 28 = .ok (.iconst 0, 1) := by decide +kernel
theorem dX6_followBest_29 : decode cX6_followBest 29 = .ok (.ireturn, 1) := by decide +kernel
theorem dX6_followBest_30 : decode cX6_followBest 30 = .ok (.iinc 2 1, 3) := by decide +kernel
theorem dX6_followBest_33 : decode cX6_followBest 33 = .ok (.goto (-31), 3) := by decide +kernel
theorem dX6_followBest_36 : decode cX6_followBest 36 = .ok (.iconst 1, 1) := by decide +kernel
theorem dX6_followBest_37 : decode cX6_followBest 37 = .ok (.ireturn, 1) := by decide +kernel
set_option maxRecDepth 20000 in
theorem ggX6_simulateTurn_X0_isOver : GoodIn wsX6_simulateTurn wsX0_isOver := goodIn_r _ [7, 8, 9, 10, 6, 11, 12, 13, 208, 209, 210, 211, 212, 213, 214, 215, 216, 217, 218, 219] (by decide +kernel) (by decide +kernel)
set_option maxRecDepth 20000 in
theorem gX6_simulateTurn_X0_isOver : GoodIn wsX6_simulateTurn (wsV RX6 110 RX0 yX0_isOver wsX0_isOver) := goodIn_app (goodIn_of _ (by decide +kernel)) ggX6_simulateTurn_X0_isOver
set_option maxRecDepth 20000 in
theorem ggX6_simulateTurn_X0_beginGame : GoodIn wsX6_simulateTurn wsX0_beginGame := goodIn_r _ [17, 18, 19, 20, 21, 13, 22, 12, 23, 24, 25, 26, 6, 27, 28, 29, 30, 31, 32, 33, 34, 35, 36, 37, 38, 39, 40, 41, 42, 43, 44, 45, 46, 47, 48, 49, 50, 51, 52, 53, 54, 55, 208, 209, 210, 211, 212, 213, 214, 215, 216, 217, 218, 219, 220, 221, 222, 223, 224, 225, 226, 227] (by decide +kernel) (by decide +kernel)
set_option maxRecDepth 20000 in
theorem gX6_simulateTurn_X0_beginGame : GoodIn wsX6_simulateTurn (wsV RX6 207 RX0 yX0_beginGame wsX0_beginGame) := goodIn_app (goodIn_of _ (by decide +kernel)) ggX6_simulateTurn_X0_beginGame
set_option maxRecDepth 20000 in
theorem ggX6_simulateTurn_X0_canFlood : GoodIn wsX6_simulateTurn wsX0_canFlood := goodIn_r _ [59, 60, 4, 5, 6, 7, 8, 9, 10, 11, 12, 13, 61, 62, 63, 64, 22, 65, 66, 67, 68, 19, 20, 69, 70, 71, 43, 72, 46, 53, 73, 30, 74, 75, 54, 55, 76, 77, 78, 79, 80, 81, 82, 18, 83, 84, 85, 86, 45, 208, 209, 210, 211, 212, 213, 214, 215, 216, 217, 218, 219, 220, 221, 222, 223, 224, 225, 226, 227] (by decide +kernel) (by decide +kernel)
set_option maxRecDepth 20000 in
theorem gX6_simulateTurn_X0_canFlood : GoodIn wsX6_simulateTurn (wsV RX6 225 RX0 yX0_canFlood wsX0_canFlood) := goodIn_app (goodIn_of _ (by decide +kernel)) ggX6_simulateTurn_X0_canFlood
set_option maxRecDepth 20000 in
theorem ggX6_simulateTurn_X0_washAway : GoodIn wsX6_simulateTurn wsX0_washAway := goodIn_r _ [90, 22, 18, 91, 65, 66, 67, 6, 68, 19, 20, 69, 70, 71, 43, 72, 46, 53, 73, 30, 74, 75, 54, 55, 76, 77, 78, 92, 93, 94, 95, 47, 96, 97, 98, 99, 100, 13, 101, 208, 209, 210, 211, 212, 213, 214, 215, 216, 217, 218, 219, 220, 221, 222, 223, 224, 225, 226, 227] (by decide +kernel) (by decide +kernel)
set_option maxRecDepth 20000 in
theorem gX6_simulateTurn_X0_washAway : GoodIn wsX6_simulateTurn (wsV RX6 230 RX0 yX0_washAway wsX0_washAway) := goodIn_app (goodIn_of _ (by decide +kernel)) ggX6_simulateTurn_X0_washAway
set_option maxRecDepth 20000 in
theorem ggX6_simulateTurn_X6_cellAt : GoodIn wsX6_simulateTurn wsX6_cellAt := goodIn_r _ [78] (by decide +kernel) (by decide +kernel)
set_option maxRecDepth 20000 in
theorem gX6_simulateTurn_X6_cellAt : GoodIn wsX6_simulateTurn (va_wsS RX6 168 yX6_cellAt wsX6_cellAt) := goodIn_app (goodIn_of _ (by decide +kernel)) ggX6_simulateTurn_X6_cellAt
set_option maxRecDepth 20000 in
theorem ggX6_simulateTurn_X0_tryDam : GoodIn wsX6_simulateTurn wsX0_tryDam := goodIn_r _ [105, 106, 107, 108, 109, 6, 110, 22, 111, 112, 113, 114, 115, 19, 20, 79, 80, 81, 82, 18, 54, 30, 55, 83, 84, 85, 43, 86, 45, 65, 66, 67, 68, 116, 117, 118, 119, 120, 121, 122, 123, 124, 125, 126, 127, 128, 129, 130, 70, 71, 72, 46, 53, 131, 132, 133, 134, 135, 136, 137, 138, 139, 140, 141, 142, 143, 144, 145, 146, 97, 98, 99, 100, 13, 101, 208, 209, 210, 211, 212, 213, 214, 215, 216, 217, 218, 219, 220, 221, 222, 223, 224, 225, 226, 227, 228, 229, 230, 231, 232, 233] (by decide +kernel) (by decide +kernel)
set_option maxRecDepth 20000 in
theorem gX6_simulateTurn_X0_tryDam : GoodIn wsX6_simulateTurn (wsV RX6 221 RX0 yX0_tryDam wsX0_tryDam) := goodIn_app (goodIn_of _ (by decide +kernel)) ggX6_simulateTurn_X0_tryDam
set_option maxRecDepth 20000 in
theorem ggX6_simulateTurn_X0_tryStep : GoodIn wsX6_simulateTurn wsX0_tryStep := goodIn_r _ [150, 106, 61, 62, 63, 6, 64, 22, 65, 66, 67, 68, 19, 20, 69, 70, 71, 43, 72, 46, 53, 73, 30, 74, 75, 54, 55, 76, 77, 78, 79, 80, 81, 82, 18, 83, 84, 85, 86, 45, 151, 152, 153, 154, 155, 50, 51, 52, 156, 157, 158, 159, 12, 160, 161, 23, 162, 163, 164, 165, 166, 167, 92, 93, 94, 95, 47, 96, 97, 98, 99, 100, 13, 101, 208, 209, 210, 211, 212, 213, 214, 215, 216, 217, 218, 219, 220, 221, 222, 223, 224, 225, 226, 227] (by decide +kernel) (by decide +kernel)
set_option maxRecDepth 20000 in
theorem gX6_simulateTurn_X0_tryStep : GoodIn wsX6_simulateTurn (wsV RX6 218 RX0 yX0_tryStep wsX0_tryStep) := goodIn_app (goodIn_of _ (by decide +kernel)) ggX6_simulateTurn_X0_tryStep
set_option maxRecDepth 20000 in
theorem ggX6_simulateTurn_X5_bestStep : GoodIn wsX6_simulateTurn wsX5_bestStep := goodIn_r _ [171, 172, 173, 4, 5, 6, 7, 8, 9, 10, 11, 12, 13, 174, 175, 176, 119, 177, 121, 128, 178, 129, 179, 180, 62, 63, 64, 22, 65, 66, 67, 68, 19, 20, 69, 70, 71, 43, 72, 46, 53, 73, 30, 74, 75, 54, 55, 76, 77, 78, 79, 80, 81, 82, 18, 83, 84, 85, 86, 45, 181, 182, 183, 184, 185, 186, 187, 123, 130, 142, 188, 164, 165, 166, 167, 189, 190, 191, 192, 122, 141, 137, 138, 139, 140, 193, 194, 195, 196, 197, 198, 199, 200, 136, 208, 209, 210, 211, 212, 213, 214, 215, 216, 217, 218, 219, 228, 229, 230, 231, 232, 233, 220, 221, 222, 223, 224, 225, 226, 227] (by decide +kernel) (by decide +kernel)
set_option maxRecDepth 20000 in
theorem gX6_simulateTurn_X5_bestStep : GoodIn wsX6_simulateTurn (wsV RX6 280 RX5 yX5_bestStep wsX5_bestStep) := goodIn_app (goodIn_of _ (by decide +kernel)) ggX6_simulateTurn_X5_bestStep
theorem dX6_simulateTurn_0 : decode cX6_simulateTurn 0 = .ok (.iload_n 1, 1) := by decide +kernel
theorem dX6_simulateTurn_1 : decode cX6_simulateTurn 1 = .ok (.bipush 8, 2) := by decide +kernel
theorem dX6_simulateTurn_3 : decode cX6_simulateTurn 3 = .ok (.idiv, 1) := by decide +kernel
theorem dX6_simulateTurn_4 : decode cX6_simulateTurn 4 = .ok (.istore_n 2, 1) := by decide +kernel
theorem dX6_simulateTurn_5 : decode cX6_simulateTurn 5 = .ok (.iload_n 1, 1) := by decide +kernel
theorem dX6_simulateTurn_6 : decode cX6_simulateTurn 6 = .ok (.bipush 8, 2) := by decide +kernel
theorem dX6_simulateTurn_8 : decode cX6_simulateTurn 8 = .ok (.irem, 1) := by decide +kernel
theorem dX6_simulateTurn_9 : decode cX6_simulateTurn 9 = .ok (.istore_n 3, 1) := by decide +kernel
theorem dX6_simulateTurn_10 : decode cX6_simulateTurn 10 = .ok (.aload_n 0, 1) := by decide +kernel
theorem dX6_simulateTurn_11 : decode cX6_simulateTurn 11 = .ok (.getfield 23, 3) := by decide +kernel
theorem dX6_simulateTurn_14 : decode cX6_simulateTurn 14 = .ok (.invokevirtual 110, 3) := by decide +kernel
theorem dX6_simulateTurn_17 : decode cX6_simulateTurn 17 = .ok (.ifCond .eq 15, 3) := by decide +kernel
theorem dX6_simulateTurn_20 : decode cX6_simulateTurn 20 = .ok (.aload_n 0, 1) := by decide +kernel
theorem dX6_simulateTurn_21 : decode cX6_simulateTurn 21 = .ok (.getfield 23, 3) := by decide +kernel
theorem dX6_simulateTurn_24 : decode cX6_simulateTurn 24 = .ok (.iload_n 2, 1) := by decide +kernel
theorem dX6_simulateTurn_25 : decode cX6_simulateTurn 25 = .ok (.i2l, 1) := by decide +kernel
theorem dX6_simulateTurn_26 : decode cX6_simulateTurn 26 = .ok (.invokevirtual 207, 3) := by decide +kernel
theorem dX6_simulateTurn_29 : decode cX6_simulateTurn 29 = .ok (.goto 95, 3) := by decide +kernel
theorem dX6_simulateTurn_32 : decode cX6_simulateTurn 32 = .ok (.aload_n 0, 1) := by decide +kernel
theorem dX6_simulateTurn_33 : decode cX6_simulateTurn 33 = .ok (.getfield 23, 3) := by decide +kernel
theorem dX6_simulateTurn_36 : decode cX6_simulateTurn 36 = .ok (.invokevirtual 225, 3) := by decide +kernel
theorem dX6_simulateTurn_39 : decode cX6_simulateTurn 39 = .ok (.ifCond .eq 14, 3) := by decide +kernel
theorem dX6_simulateTurn_42 : decode cX6_simulateTurn 42 = .ok (.aload_n 0, 1) := by decide +kernel
theorem dX6_simulateTurn_43 : decode cX6_simulateTurn 43 = .ok (.getfield 23, 3) := by decide +kernel
theorem dX6_simulateTurn_46 : decode cX6_simulateTurn 46 = .ok (.invokevirtual 230, 3) := by decide +kernel
theorem dX6_simulateTurn_49 : decode cX6_simulateTurn 49 = .ok (.pop, 1) := by decide +kernel
theorem dX6_simulateTurn_50 : decode cX6_simulateTurn 50 = .ok (.goto 74, 3) := by decide +kernel
theorem dX6_simulateTurn_53 : decode cX6_simulateTurn 53 = .ok (.iload_n 3, 1) := by decide +kernel
theorem dX6_simulateTurn_54 : decode cX6_simulateTurn 54 = .ok (.ifCond .ne 32, 3) := by decide +kernel
theorem dX6_simulateTurn_57 : decode cX6_simulateTurn 57 = .ok (.aload_n 0, 1) := by decide +kernel
theorem dX6_simulateTurn_58 : decode cX6_simulateTurn 58 = .ok (.getfield 23, 3) := by decide +kernel
theorem dX6_simulateTurn_61 : decode cX6_simulateTurn 61 = .ok (.iload_n 2, 1) := by decide +kernel
theorem dX6_simulateTurn_62 : decode cX6_simulateTurn 62 = .ok (.bipush 8, 2) := by decide +kernel
theorem dX6_simulateTurn_64 : decode cX6_simulateTurn 64 = .ok (.irem, 1) := by decide +kernel
theorem dX6_simulateTurn_65 : decode cX6_simulateTurn 65 = .ok (.iload_n 2, 1) := by decide +kernel
theorem dX6_simulateTurn_66 : decode cX6_simulateTurn 66 = .ok (.bipush 8, 2) := by decide +kernel
theorem dX6_simulateTurn_68 : decode cX6_simulateTurn 68 = .ok (.idiv, 1) := by decide +kernel
theorem dX6_simulateTurn_69 : decode cX6_simulateTurn 69 = .ok (.bipush 8, 2) := by decide +kernel
theorem dX6_simulateTurn_71 : decode cX6_simulateTurn 71 = .ok (.irem, 1) := by decide +kernel
theorem dX6_simulateTurn_72 : decode cX6_simulateTurn 72 = .ok (.invokestatic 168, 3) := by decide +kernel
theorem dX6_simulateTurn_75 : decode cX6_simulateTurn 75 = .ok (.aload_n 0, 1) := by decide +kernel
theorem dX6_simulateTurn_76 : decode cX6_simulateTurn 76 = .ok (.getfield 29, 3) := by decide +kernel
theorem dX6_simulateTurn_79 : decode cX6_simulateTurn 79 = .ok (.invokevirtual 221, 3) := by decide +kernel
theorem dX6_simulateTurn_82 : decode cX6_simulateTurn 82 = .ok (.pop, 1) := by decide +kernel
theorem dX6_simulateTurn_83 : decode cX6_simulateTurn 83 = .ok (.goto 41, 3) := by decide +kernel
theorem dX6_simulateTurn_86 : decode cX6_simulateTurn 86 = .ok (.iload_n 3, 1) := by decide +kernel
theorem dX6_simulateTurn_87 : decode cX6_simulateTurn 87 = .ok (.iconst 4, 1) := by decide +kernel
theorem dX6_simulateTurn_88 : decode cX6_simulateTurn 88 = .ok (.if_icmp .gt 17, 3) := by decide +kernel
theorem dX6_simulateTurn_91 : decode cX6_simulateTurn 91 = .ok (.aload_n 0, 1) := by decide +kernel
theorem dX6_simulateTurn_92 : decode cX6_simulateTurn 92 = .ok (.getfield 23, 3) := by decide +kernel
theorem dX6_simulateTurn_95 : decode cX6_simulateTurn 95 = .ok (.iload_n 2, 1) := by decide +kernel
theorem dX6_simulateTurn_96 : decode cX6_simulateTurn 96 = .ok (.iconst 3, 1) := by decide +kernel
theorem dX6_simulateTurn_97 : decode cX6_simulateTurn 97 = .ok (.irem, 1) := by decide +kernel
theorem dX6_simulateTurn_98 : decode cX6_simulateTurn 98 = .ok (.invokevirtual 218, 3) := by decide +kernel
theorem dX6_simulateTurn_101 : decode cX6_simulateTurn 101 = .ok (.pop, 1) := by decide +kernel
theorem dX6_simulateTurn_102 : decode cX6_simulateTurn 102 = .ok (.goto 22, 3) := by decide +kernel
theorem dX6_simulateTurn_105 : decode cX6_simulateTurn 105 = .ok (.aload_n 0, 1) := by decide +kernel
theorem dX6_simulateTurn_106 : decode cX6_simulateTurn 106 = .ok (.getfield 23, 3) := by decide +kernel
theorem dX6_simulateTurn_109 : decode cX6_simulateTurn 109 = .ok (.aload_n 0, 1) := by decide +kernel
theorem dX6_simulateTurn_110 : decode cX6_simulateTurn 110 = .ok (.getfield 29, 3) := by decide +kernel
theorem dX6_simulateTurn_113 : decode cX6_simulateTurn 113 = .ok (.aload_n 0, 1) := by decide +kernel
theorem dX6_simulateTurn_114 : decode cX6_simulateTurn 114 = .ok (.getfield 23, 3) := by decide +kernel
theorem dX6_simulateTurn_117 : decode cX6_simulateTurn 117 = .ok (.invokevirtual 280, 3) := by decide +kernel
theorem dX6_simulateTurn_120 : decode cX6_simulateTurn 120 = .ok (.invokevirtual 218, 3) := by decide +kernel
theorem dX6_simulateTurn_123 : decode cX6_simulateTurn 123 = .ok (.pop, 1) := by decide +kernel
theorem dX6_simulateTurn_124 : decode cX6_simulateTurn 124 = .ok (.return_, 1) := by decide +kernel
theorem dX6_slotOf_0 : decode cX6_slotOf 0 = .ok (.iload_n 1, 1) := by decide +kernel
theorem dX6_slotOf_1 : decode cX6_slotOf 1 = .ok (.ifCond .ne 10, 3) := by decide +kernel
theorem dX6_slotOf_4 : decode cX6_slotOf 4 = .ok (.aload_n 0, 1) := by decide +kernel
theorem dX6_slotOf_5 : decode cX6_slotOf 5 = .ok (.getfield 43, 3) := by decide +kernel
theorem dX6_slotOf_8 : decode cX6_slotOf 8 = .ok (.goto 7, 3) := by decide +kernel
theorem dX6_slotOf_11 : decode cX6_slotOf 11 = .ok (.aload_n 0, 1) := by decide +kernel
theorem dX6_slotOf_12 : decode cX6_slotOf 12 = .ok (.getfield 47, 3) := by decide +kernel
theorem dX6_slotOf_15 : decode cX6_slotOf 15 = .ok (.areturn, 1) := by decide +kernel
theorem dX6_withoutLastGroups_0 : decode cX6_withoutLastGroups 0 = .ok (.lload_n 0, 1) := by decide +kernel
theorem dX6_withoutLastGroups_1 : decode cX6_withoutLastGroups 1 = .ok (.lstore_n 3, 1) := by decide +kernel
theorem dX6_withoutLastGroups_2 : decode cX6_withoutLastGroups 2 = .ok (.iconst 0, 1) := by decide +kernel
theorem dX6_withoutLastGroups_3 : decode cX6_withoutLastGroups 3 = .ok (.istore 5, 2) := by decide +kernel
theorem dX6_withoutLastGroups_5 : decode cX6_withoutLastGroups 5 = .ok (.iload 5, 2) := by decide +kernel
theorem dX6_withoutLastGroups_7 : decode cX6_withoutLastGroups 7 = .ok (.iload_n 2, 1) := by decide +kernel
theorem dX6_withoutLastGroups_8 : decode cX6_withoutLastGroups 8 = .ok (.if_icmp .ge 15, 3) := by decide +kernel
theorem dX6_withoutLastGroups_11 : decode cX6_withoutLastGroups 11 = .ok (.lload_n 3, 1) := by decide +kernel
theorem dX6_withoutLastGroups_12 : decode cX6_withoutLastGroups 12 = .ok (.ldc2_w 296, 3) := by decide +kernel
theorem dX6_withoutLastGroups_15 : decode cX6_withoutLastGroups 15 = .ok (.ldiv, 1) := by decide +kernel
theorem dX6_withoutLastGroups_16 : decode cX6_withoutLastGroups 16 = .ok (.lstore_n 3, 1) := by decide +kernel
theorem dX6_withoutLastGroups_17 : decode cX6_withoutLastGroups 17 = .ok (.iinc 5 1, 3) := by decide +kernel
theorem dX6_withoutLastGroups_20 : decode cX6_withoutLastGroups 20 = .ok (.goto (-15), 3) := by decide +kernel
theorem dX6_withoutLastGroups_23 : decode cX6_withoutLastGroups 23 = .ok (.lload_n 3, 1) := by decide +kernel
theorem dX6_withoutLastGroups_24 : decode cX6_withoutLastGroups 24 = .ok (.lreturn, 1) := by decide +kernel
theorem dX6_nextNumber_0 : decode cX6_nextNumber 0 = .ok (.lload_n 0, 1) := by decide +kernel
theorem dX6_nextNumber_1 : decode cX6_nextNumber 1 = .ok (.ldc2_w 348, 3) := by decide +kernel
theorem dX6_nextNumber_4 : decode cX6_nextNumber 4 = .ok (.lmul, 1) := by decide +kernel
theorem dX6_nextNumber_5 : decode cX6_nextNumber 5 = .ok (.ldc2_w 350, 3) := by decide +kernel
theorem dX6_nextNumber_8 : decode cX6_nextNumber 8 = .ok (.ladd, 1) := by decide +kernel
theorem dX6_nextNumber_9 : decode cX6_nextNumber 9 = .ok (.lreturn, 1) := by decide +kernel
theorem dX6_drawnFrom_0 : decode cX6_drawnFrom 0 = .ok (.lload_n 0, 1) := by decide +kernel
theorem dX6_drawnFrom_1 : decode cX6_drawnFrom 1 = .ok (.bipush 33, 2) := by decide +kernel
theorem dX6_drawnFrom_3 : decode cX6_drawnFrom 3 = .ok (.lushr, 1) := by decide +kernel
theorem dX6_drawnFrom_4 : decode cX6_drawnFrom 4 = .ok (.l2i, 1) := by decide +kernel
theorem dX6_drawnFrom_5 : decode cX6_drawnFrom 5 = .ok (.ireturn, 1) := by decide +kernel
theorem dX6_isPlayer_0 : decode cX6_isPlayer 0 = .ok (.iload_n 0, 1) := by decide +kernel
theorem dX6_isPlayer_1 : decode cX6_isPlayer 1 = .ok (.ifCond .eq 8, 3) := by decide +kernel
theorem dX6_isPlayer_4 : decode cX6_isPlayer 4 = .ok (.iload_n 0, 1) := by decide +kernel
theorem dX6_isPlayer_5 : decode cX6_isPlayer 5 = .ok (.iconst 1, 1) := by decide +kernel
theorem dX6_isPlayer_6 : decode cX6_isPlayer 6 = .ok (.if_icmp .ne 7, 3) := by decide +kernel
theorem dX6_isPlayer_9 : decode cX6_isPlayer 9 = .ok (.iconst 1, 1) := by decide +kernel
theorem dX6_isPlayer_10 : decode cX6_isPlayer 10 = .ok (.goto 4, 3) := by decide +kernel
theorem dX6_isPlayer_13 : decode cX6_isPlayer 13 = .ok (.iconst 0, 1) := by decide +kernel
theorem dX6_isPlayer_14 : decode cX6_isPlayer 14 = .ok (.ireturn, 1) := by decide +kernel
theorem dX6_isDirection_0 : decode cX6_isDirection 0 = .ok (.iload_n 0, 1) := by decide +kernel
theorem dX6_isDirection_1 : decode cX6_isDirection 1 = .ok (.ifCond .lt 12, 3) := by decide +kernel
theorem dX6_isDirection_4 : decode cX6_isDirection 4 = .ok (.iload_n 0, 1) := by decide +kernel
theorem dX6_isDirection_5 : decode cX6_isDirection 5 = .ok (.iconst 3, 1) := by decide +kernel
theorem dX6_isDirection_6 : decode cX6_isDirection 6 = .ok (.if_icmp .ge 7, 3) := by decide +kernel
theorem dX6_isDirection_9 : decode cX6_isDirection 9 = .ok (.iconst 1, 1) := by decide +kernel
theorem dX6_isDirection_10 : decode cX6_isDirection 10 = .ok (.goto 4, 3) := by decide +kernel
theorem dX6_isDirection_13 : decode cX6_isDirection 13 = .ok (.iconst 0, 1) := by decide +kernel
theorem dX6_isDirection_14 : decode cX6_isDirection 14 = .ok (.ireturn, 1) := by decide +kernel
theorem dX6_isSettingValue_0 : decode cX6_isSettingValue 0 = .ok (.iload_n 0, 1) := by decide +kernel
theorem dX6_isSettingValue_1 : decode cX6_isSettingValue 1 = .ok (.ifCond .ne 20, 3) := by decide +kernel
theorem dX6_isSettingValue_4 : decode cX6_isSettingValue 4 = .ok (.iload_n 1, 1) := by decide +kernel
theorem dX6_isSettingValue_5 : decode cX6_isSettingValue 5 = .ok (.iconst 1, 1) := by decide +kernel
theorem dX6_isSettingValue_6 : decode cX6_isSettingValue 6 = .ok (.if_icmp .lt 13, 3) := by decide +kernel
theorem dX6_isSettingValue_9 : decode cX6_isSettingValue 9 = .ok (.iload_n 1, 1) := by decide +kernel
theorem dX6_isSettingValue_10 : decode cX6_isSettingValue 10 = .ok (.bipush 40, 2) := by decide +kernel
theorem dX6_isSettingValue_12 : decode cX6_isSettingValue 12 = .ok (.if_icmp .gt 7, 3) := by decide +kernel
theorem dX6_isSettingValue_15 : decode cX6_isSettingValue 15 = .ok (.iconst 1, 1) := by decide +kernel
theorem dX6_isSettingValue_16 : decode cX6_isSettingValue 16 = .ok (.goto 4, 3) := by decide +kernel
theorem dX6_isSettingValue_19 : decode cX6_isSettingValue 19 = .ok (.iconst 0, 1) := by decide +kernel
theorem dX6_isSettingValue_20 : decode cX6_isSettingValue 20 = .ok (.ireturn, 1) := by decide +kernel
theorem dX6_isSettingValue_21 : decode cX6_isSettingValue 21 = .ok (.iload_n 0, 1) := by decide +kernel
theorem dX6_isSettingValue_22 : decode cX6_isSettingValue 22 = .ok (.iconst 1, 1) := by decide +kernel
theorem dX6_isSettingValue_23 : decode cX6_isSettingValue 23 = .ok (.if_icmp .ne 18, 3) := by decide +kernel
theorem dX6_isSettingValue_26 : decode cX6_isSettingValue 26 = .ok (.iload_n 1, 1) := by decide +kernel
theorem dX6_isSettingValue_27 : decode cX6_isSettingValue 27 = .ok (.iconst 1, 1) := by decide +kernel
theorem dX6_isSettingValue_28 : decode cX6_isSettingValue 28 = .ok (.if_icmp .lt 13, 3) := by decide +kernel
theorem dX6_isSettingValue_31 : decode cX6_isSettingValue 31 = .ok (.iload_n 1, 1) := by decide +kernel
theorem dX6_isSettingValue_32 : decode cX6_isSettingValue 32 = .ok (.bipush 9, 2) := by decide +kernel
theorem dX6_isSettingValue_34 : decode cX6_isSettingValue 34 = .ok (.if_icmp .gt 7, 3) := by decide +kernel
theorem dX6_isSettingValue_37 : decode cX6_isSettingValue 37 = .ok (.iconst 1, 1) := by decide +kernel
theorem dX6_isSettingValue_38 : decode cX6_isSettingValue 38 = .ok (.goto 4, 3) := by decide +kernel
theorem dX6_isSettingValue_41 : decode cX6_isSettingValue 41 = .ok (.iconst 0, 1) := by decide +kernel
theorem dX6_isSettingValue_42 : decode cX6_isSettingValue 42 = .ok (.ireturn, 1) := by decide +kernel
theorem dX6_fits_0 : decode cX6_fits 0 = .ok (.iload_n 0, 1) := by decide +kernel
theorem dX6_fits_1 : decode cX6_fits 1 = .ok (.ifCond .lt 13, 3) := by decide +kernel
theorem dX6_fits_4 : decode cX6_fits 4 = .ok (.iload_n 0, 1) := by decide +kernel
theorem dX6_fits_5 : decode cX6_fits 5 = .ok (.bipush 64, 2) := by decide +kernel
theorem dX6_fits_7 : decode cX6_fits 7 = .ok (.if_icmp .ge 7, 3) := by decide +kernel
theorem dX6_fits_10 : decode cX6_fits 10 = .ok (.iconst 1, 1) := by decide +kernel
theorem dX6_fits_11 : decode cX6_fits 11 = .ok (.goto 4, 3) := by decide +kernel
theorem dX6_fits_14 : decode cX6_fits 14 = .ok (.iconst 0, 1) := by decide +kernel
theorem dX6_fits_15 : decode cX6_fits 15 = .ok (.ireturn, 1) := by decide +kernel
theorem dX6_cellAt_0 : decode cX6_cellAt 0 = .ok (.iload_n 0, 1) := by decide +kernel
theorem dX6_cellAt_1 : decode cX6_cellAt 1 = .ok (.ifCond .lt 19, 3) := by decide +kernel
theorem dX6_cellAt_4 : decode cX6_cellAt 4 = .ok (.iload_n 0, 1) := by decide +kernel
theorem dX6_cellAt_5 : decode cX6_cellAt 5 = .ok (.bipush 8, 2) := by decide +kernel
theorem dX6_cellAt_7 : decode cX6_cellAt 7 = .ok (.if_icmp .ge 13, 3) := by decide +kernel
theorem dX6_cellAt_10 : decode cX6_cellAt 10 = .ok (.iload_n 1, 1) := by decide +kernel
theorem dX6_cellAt_11 : decode cX6_cellAt 11 = .ok (.ifCond .lt 9, 3) := by decide +kernel
theorem dX6_cellAt_14 : decode cX6_cellAt 14 = .ok (.iload_n 1, 1) := by decide +kernel
theorem dX6_cellAt_15 : decode cX6_cellAt 15 = .ok (.bipush 8, 2) := by decide +kernel
theorem dX6_cellAt_17 : decode cX6_cellAt 17 = .ok (.if_icmp .lt 5, 3) := by decide +kernel
theorem dX6_cellAt_20 : decode cX6_cellAt 20 = .ok (.iconst (-1), 1) := by decide +kernel
theorem dX6_cellAt_21 : decode cX6_cellAt 21 = .ok (.ireturn, 1) := by decide +kernel
theorem dX6_cellAt_22 : decode cX6_cellAt 22 = .ok (.bipush 8, 2) := by decide +kernel
theorem dX6_cellAt_24 : decode cX6_cellAt 24 = .ok (.iload_n 1, 1) := by decide +kernel
theorem dX6_cellAt_25 : decode cX6_cellAt 25 = .ok (.imul, 1) := by decide +kernel
theorem dX6_cellAt_26 : decode cX6_cellAt 26 = .ok (.iload_n 0, 1) := by decide +kernel
theorem dX6_cellAt_27 : decode cX6_cellAt 27 = .ok (.iadd, 1) := by decide +kernel
theorem dX6_cellAt_28 : decode cX6_cellAt 28 = .ok (.ireturn, 1) := by decide +kernel
