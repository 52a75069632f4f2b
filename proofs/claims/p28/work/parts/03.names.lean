set_option maxRecDepth 20000 in
theorem ggX0_init_X2_init : GoodIn wsX0_init wsX2_init := goodIn_r _ [12, 13, 2, 3, 9, 14, 15, 16, 17, 18, 19, 20, 21, 22, 23, 24, 25] (by decide +kernel) (by decide +kernel)
set_option maxRecDepth 20000 in
theorem gX0_init_X2_init_n11 : GoodIn wsX0_init (wsX2_init) := ggX0_init_X2_init
theorem dX0_init_0 : decode cX0_init 0 = .ok (.aload_n 0, 1) := by decide +kernel
theorem dX0_init_1 : decode cX0_init 1 = .ok (.invokespecial 3, 3) := by decide +kernel
theorem dX0_init_4 : decode cX0_init 4 = .ok (.aload_n 0, 1) := by decide +kernel
theorem dX0_init_5 : decode cX0_init 5 = .ok (.new 9, 3) := by decide +kernel
theorem dX0_init_8 : decode cX0_init 8 = .ok (.dup, 1) := by decide +kernel
theorem dX0_init_9 : decode cX0_init 9 = .ok (.invokespecial 11, 3) := by decide +kernel
theorem dX0_init_12 : decode cX0_init 12 = .ok (.putfield 12, 3) := by decide +kernel
theorem dX0_init_15 : decode cX0_init 15 = .ok (.aload_n 0, 1) := by decide +kernel
theorem dX0_init_16 : decode cX0_init 16 = .ok (.new 9, 3) := by decide +kernel
theorem dX0_init_19 : decode cX0_init 19 = .ok (.dup, 1) := by decide +kernel
theorem dX0_init_20 : decode cX0_init 20 = .ok (.invokespecial 11, 3) := by decide +kernel
theorem dX0_init_23 : decode cX0_init 23 = .ok (.putfield 18, 3) := by decide +kernel
theorem dX0_init_26 : decode cX0_init 26 = .ok (.aload_n 0, 1) := by decide +kernel
theorem dX0_init_27 : decode cX0_init 27 = .ok (.bipush 64, 2) := by decide +kernel
theorem dX0_init_29 : decode cX0_init 29 = .ok (.newarray .int, 2) := by decide +kernel
theorem dX0_init_31 : decode cX0_init 31 = .ok (.putfield 21, 3) := by decide +kernel
theorem dX0_init_34 : decode cX0_init 34 = .ok (.return_, 1) := by decide +kernel
set_option maxRecDepth 20000 in
theorem ggX0_startAnew_X0_beginGame : GoodIn wsX0_startAnew wsX0_beginGame := goodIn_r _ [14, 15, 6, 9, 3, 16, 17, 18, 19, 20, 21, 22, 13, 23, 24, 25, 26, 27, 28, 29, 30, 31, 32, 33, 34, 35, 36, 37, 38, 39, 40, 41, 42, 43, 44, 45, 46, 47, 48, 49, 50, 51, 52, 53, 54, 55, 56, 57, 58, 59, 60, 61, 62, 63, 64, 65, 66, 67, 68, 69, 70, 71] (by decide +kernel) (by decide +kernel)
set_option maxRecDepth 20000 in
theorem gX0_startAnew_X0_beginGame : GoodIn wsX0_startAnew (wsV RX0 47 RX0 yX0_beginGame wsX0_beginGame) := goodIn_app (goodIn_of _ (by decide +kernel)) ggX0_startAnew_X0_beginGame
theorem dX0_startAnew_0 : decode cX0_startAnew 0 = .ok (.aload_n 0, 1) := by decide +kernel
theorem dX0_startAnew_1 : decode cX0_startAnew 1 = .ok (.bipush 20, 2) := by decide +kernel
theorem dX0_startAnew_3 : decode cX0_startAnew 3 = .ok (.putfield 25, 3) := by decide +kernel
theorem dX0_startAnew_6 : decode cX0_startAnew 6 = .ok (.aload_n 0, 1) := by decide +kernel
theorem dX0_startAnew_7 : decode cX0_startAnew 7 = .ok (.iconst 3, 1) := by decide +kernel
theorem dX0_startAnew_8 : decode cX0_startAnew 8 = .ok (.putfield 29, 3) := by decide +kernel
theorem dX0_startAnew_11 : decode cX0_startAnew 11 = .ok (.aload_n 0, 1) := by decide +kernel
theorem dX0_startAnew_12 : decode cX0_startAnew 12 = .ok (.iconst 0, 1) := by decide +kernel
theorem dX0_startAnew_13 : decode cX0_startAnew 13 = .ok (.putfield 32, 3) := by decide +kernel
theorem dX0_startAnew_16 : decode cX0_startAnew 16 = .ok (.aload_n 0, 1) := by decide +kernel
theorem dX0_startAnew_17 : decode cX0_startAnew 17 = .ok (.iconst 0, 1) := by decide +kernel
theorem dX0_startAnew_18 : decode cX0_startAnew 18 = .ok (.putfield 35, 3) := by decide +kernel
theorem dX0_startAnew_21 : decode cX0_startAnew 21 = .ok (.aload_n 0, 1) := by decide +kernel
theorem dX0_startAnew_22 : decode cX0_startAnew 22 = .ok (.iconst 0, 1) := by decide +kernel
theorem dX0_startAnew_23 : decode cX0_startAnew 23 = .ok (.putfield 38, 3) := by decide +kernel
theorem dX0_startAnew_26 : decode cX0_startAnew 26 = .ok (.aload_n 0, 1) := by decide +kernel
theorem dX0_startAnew_27 : decode cX0_startAnew 27 = .ok (.getfield 12, 3) := by decide +kernel
theorem dX0_startAnew_30 : decode cX0_startAnew 30 = .ok (.iconst 0, 1) := by decide +kernel
theorem dX0_startAnew_31 : decode cX0_startAnew 31 = .ok (.putfield 41, 3) := by decide +kernel
theorem dX0_startAnew_34 : decode cX0_startAnew 34 = .ok (.aload_n 0, 1) := by decide +kernel
theorem dX0_startAnew_35 : decode cX0_startAnew 35 = .ok (.getfield 12, 3) := by decide +kernel
theorem dX0_startAnew_38 : decode cX0_startAnew 38 = .ok (.iconst 0, 1) := by decide +kernel
theorem dX0_startAnew_39 : decode cX0_startAnew 39 = .ok (.putfield 44, 3) := by decide +kernel
theorem dX0_startAnew_42 : decode cX0_startAnew 42 = .ok (.aload_n 0, 1) := by decide +kernel
theorem dX0_startAnew_43 : decode cX0_startAnew 43 = .ok (.getfield 18, 3) := by decide +kernel
theorem dX0_startAnew_46 : decode cX0_startAnew 46 = .ok (.iconst 0, 1) := by decide +kernel
theorem dX0_startAnew_47 : decode cX0_startAnew 47 = .ok (.putfield 41, 3) := by decide +kernel
theorem dX0_startAnew_50 : decode cX0_startAnew 50 = .ok (.aload_n 0, 1) := by decide +kernel
theorem dX0_startAnew_51 : decode cX0_startAnew 51 = .ok (.getfield 18, 3) := by decide +kernel
theorem dX0_startAnew_54 : decode cX0_startAnew 54 = .ok (.iconst 0, 1) := by decide +kernel
theorem dX0_startAnew_55 : decode cX0_startAnew 55 = .ok (.putfield 44, 3) := by decide +kernel
theorem dX0_startAnew_58 : decode cX0_startAnew 58 = .ok (.aload_n 0, 1) := by decide +kernel
theorem dX0_startAnew_59 : decode cX0_startAnew 59 = .ok (.lconst 0, 1) := by decide +kernel
theorem dX0_startAnew_60 : decode cX0_startAnew 60 = .ok (.invokevirtual 47, 3) := by decide +kernel
theorem dX0_startAnew_63 : decode cX0_startAnew 63 = .ok (.return_, 1) := by decide +kernel
set_option maxRecDepth 20000 in
theorem ggX0_beginGame_X0_layField : GoodIn wsX0_beginGame wsX0_layField := goodIn_r _ [13, 2, 14, 3, 15, 16, 17, 18, 19, 20, 21, 42, 43, 44, 45, 46, 47, 48, 49, 50, 51, 52, 53, 54, 55, 56, 57, 58, 59, 60, 61] (by decide +kernel) (by decide +kernel)
set_option maxRecDepth 20000 in
theorem gX0_beginGame_X0_layField : GoodIn wsX0_beginGame (wsV RX0 51 RX0 yX0_layField wsX0_layField) := goodIn_app (goodIn_of _ (by decide +kernel)) ggX0_beginGame_X0_layField
set_option maxRecDepth 20000 in
theorem ggX0_beginGame_J7_fill_53178 : GoodIn wsX0_beginGame wsJ7_fill_53178 := goodIn_r _ [25] (by decide +kernel) (by decide +kernel)
set_option maxRecDepth 20000 in
theorem gX0_beginGame_J7_fill_53178 : GoodIn wsX0_beginGame (va_wsS RX0 54 yJ7_fill_53178 wsJ7_fill_53178) := goodIn_app (goodIn_of _ (by decide +kernel)) ggX0_beginGame_J7_fill_53178
set_option maxRecDepth 20000 in
theorem ggX0_beginGame_X2_beginAt : GoodIn wsX0_beginGame wsX2_beginAt := goodIn_r _ [30, 31, 32, 33, 34, 35, 36, 37, 29, 38, 39, 40, 16, 41, 54, 55, 56, 57, 58, 59, 60, 61] (by decide +kernel) (by decide +kernel)
set_option maxRecDepth 20000 in
theorem gX0_beginGame_X2_beginAt : GoodIn wsX0_beginGame (wsV RX0 60 RX2 yX2_beginAt wsX2_beginAt) := goodIn_app (goodIn_of _ (by decide +kernel)) ggX0_beginGame_X2_beginAt
theorem dX0_beginGame_0 : decode cX0_beginGame 0 = .ok (.aload_n 0, 1) := by decide +kernel
theorem dX0_beginGame_1 : decode cX0_beginGame 1 = .ok (.lload_n 1, 1) := by decide +kernel
theorem dX0_beginGame_2 : decode cX0_beginGame 2 = .ok (.invokevirtual 51, 3) := by decide +kernel
theorem dX0_beginGame_5 : decode cX0_beginGame 5 = .ok (.aload_n 0, 1) := by decide +kernel
theorem dX0_beginGame_6 : decode cX0_beginGame 6 = .ok (.getfield 21, 3) := by decide +kernel
theorem dX0_beginGame_9 : decode cX0_beginGame 9 = .ok (.iconst (-1), 1) := by decide +kernel
theorem dX0_beginGame_10 : decode cX0_beginGame 10 = .ok (.invokestatic 54, 3) := by decide +kernel
theorem dX0_beginGame_13 : decode cX0_beginGame 13 = .ok (.aload_n 0, 1) := by decide +kernel
theorem dX0_beginGame_14 : decode cX0_beginGame 14 = .ok (.getfield 12, 3) := by decide +kernel
theorem dX0_beginGame_17 : decode cX0_beginGame 17 = .ok (.iconst 1, 1) := by decide +kernel
theorem dX0_beginGame_18 : decode cX0_beginGame 18 = .ok (.invokevirtual 60, 3) := by decide +kernel
theorem dX0_beginGame_21 : decode cX0_beginGame 21 = .ok (.aload_n 0, 1) := by decide +kernel
theorem dX0_beginGame_22 : decode cX0_beginGame 22 = .ok (.getfield 18, 3) := by decide +kernel
theorem dX0_beginGame_25 : decode cX0_beginGame 25 = .ok (.bipush 6, 2) := by decide +kernel
theorem dX0_beginGame_27 : decode cX0_beginGame 27 = .ok (.invokevirtual 60, 3) := by decide +kernel
theorem dX0_beginGame_30 : decode cX0_beginGame 30 = .ok (.aload_n 0, 1) := by decide +kernel
theorem dX0_beginGame_31 : decode cX0_beginGame 31 = .ok (.dup, 1) := by decide +kernel
theorem dX0_beginGame_32 : decode cX0_beginGame 32 = .ok (.getfield 32, 3) := by decide +kernel
theorem dX0_beginGame_35 : decode cX0_beginGame 35 = .ok (.iconst 1, 1) := by decide +kernel
theorem dX0_beginGame_36 : decode cX0_beginGame 36 = .ok (.iadd, 1) := by decide +kernel
theorem dX0_beginGame_37 : decode cX0_beginGame 37 = .ok (.putfield 32, 3) := by decide +kernel
theorem dX0_beginGame_40 : decode cX0_beginGame 40 = .ok (.aload_n 0, 1) := by decide +kernel
theorem dX0_beginGame_41 : decode cX0_beginGame 41 = .ok (.iconst 0, 1) := by decide +kernel
theorem dX0_beginGame_42 : decode cX0_beginGame 42 = .ok (.putfield 64, 3) := by decide +kernel
theorem dX0_beginGame_45 : decode cX0_beginGame 45 = .ok (.aload_n 0, 1) := by decide +kernel
theorem dX0_beginGame_46 : decode cX0_beginGame 46 = .ok (.iconst 0, 1) := by decide +kernel
theorem dX0_beginGame_47 : decode cX0_beginGame 47 = .ok (.putfield 67, 3) := by decide +kernel
theorem dX0_beginGame_50 : decode cX0_beginGame 50 = .ok (.aload_n 0, 1) := by decide +kernel
theorem dX0_beginGame_51 : decode cX0_beginGame 51 = .ok (.iconst (-1), 1) := by decide +kernel
theorem dX0_beginGame_52 : decode cX0_beginGame 52 = .ok (.putfield 70, 3) := by decide +kernel
theorem dX0_beginGame_55 : decode cX0_beginGame 55 = .ok (.aload_n 0, 1) := by decide +kernel
theorem dX0_beginGame_56 : decode cX0_beginGame 56 = .ok (.iconst (-1), 1) := by decide +kernel
theorem dX0_beginGame_57 : decode cX0_beginGame 57 = .ok (.putfield 73, 3) := by decide +kernel
theorem dX0_beginGame_60 : decode cX0_beginGame 60 = .ok (.return_, 1) := by decide +kernel
set_option maxRecDepth 20000 in
theorem ggX0_layField_X6_nextNumber : GoodIn wsX0_layField wsX6_nextNumber := goodIn_r _ [6, 7, 8] (by decide +kernel) (by decide +kernel)
set_option maxRecDepth 20000 in
theorem gX0_layField_X6_nextNumber_n76 : GoodIn wsX0_layField (wsX6_nextNumber) := ggX0_layField_X6_nextNumber
set_option maxRecDepth 20000 in
theorem ggX0_layField_X6_drawnFrom : GoodIn wsX0_layField wsX6_drawnFrom := goodIn_r _ [10] (by decide +kernel) (by decide +kernel)
set_option maxRecDepth 20000 in
theorem gX0_layField_X6_drawnFrom_n80 : GoodIn wsX0_layField (wsX6_drawnFrom) := ggX0_layField_X6_drawnFrom
theorem dX0_layField_0 : decode cX0_layField 0 = .ok (.lload_n 1, 1) := by decide +kernel
theorem dX0_layField_1 : decode cX0_layField 1 = .ok (.lstore_n 3, 1) := by decide +kernel
theorem dX0_layField_2 : decode cX0_layField 2 = .ok (.iconst 0, 1) := by decide +kernel
theorem dX0_layField_3 : decode cX0_layField 3 = .ok (.istore 5, 2) := by decide +kernel
theorem dX0_layField_5 : decode cX0_layField 5 = .ok (.iload 5, 2) := by decide +kernel
theorem dX0_layField_7 : decode cX0_layField 7 = .ok (.bipush 64, 2) := by decide +kernel
theorem dX0_layField_9 : decode cX0_layField 9 = .ok (.if_icmp .ge 53, 3) := by decide +kernel
theorem dX0_layField_12 : decode cX0_layField 12 = .ok (.lload_n 3, 1) := by decide +kernel
theorem dX0_layField_13 : decode cX0_layField 13 = .ok (.invokestatic 76, 3) := by decide +kernel
theorem dX0_layField_16 : decode cX0_layField 16 = .ok (.lstore_n 3, 1) := by decide +kernel
theorem dX0_layField_17 : decode cX0_layField 17 = .ok (.lload_n 3, 1) := by decide +kernel
theorem dX0_layField_18 : decode cX0_layField 18 = .ok (.invokestatic 80, 3) := by decide +kernel
theorem dX0_layField_21 : decode cX0_layField 21 = .ok (.istore 6, 2) := by decide +kernel
theorem dX0_layField_23 : decode cX0_layField 23 = .ok (.aload_n 0, 1) := by decide +kernel
theorem dX0_layField_24 : decode cX0_layField 24 = .ok (.getfield 12, 3) := by decide +kernel
theorem dX0_layField_27 : decode cX0_layField 27 = .ok (.getfield 84, 3) := by decide +kernel
theorem dX0_layField_30 : decode cX0_layField 30 = .ok (.iload 5, 2) := by decide +kernel
theorem dX0_layField_32 : decode cX0_layField 32 = .ok (.iload 6, 2) := by decide +kernel
theorem dX0_layField_34 : decode cX0_layField 34 = .ok (.bipush 10, 2) := by decide +kernel
theorem dX0_layField_36 : decode cX0_layField 36 = .ok (.irem, 1) := by decide +kernel
theorem dX0_layField_37 : decode cX0_layField 37 = .ok (.iastore, 1) := by decide +kernel
theorem dX0_layField_38 : decode cX0_layField 38 = .ok (.aload_n 0, 1) := by decide +kernel
theorem dX0_layField_39 : decode cX0_layField 39 = .ok (.getfield 18, 3) := by decide +kernel
theorem dX0_layField_42 : decode cX0_layField 42 = .ok (.getfield 84, 3) := by decide +kernel
theorem dX0_layField_45 : decode cX0_layField 45 = .ok (.iload 5, 2) := by decide +kernel
theorem dX0_layField_47 : decode cX0_layField 47 = .ok (.iload 6, 2) := by decide +kernel
theorem dX0_layField_49 : decode cX0_layField 49 = .ok (.bipush 10, 2) := by decide +kernel
theorem dX0_layField_51 : decode cX0_layField 51 = .ok (.idiv, 1) := by decide +kernel
theorem dX0_layField_52 : decode cX0_layField 52 = .ok (.bipush 10, 2) := by decide +kernel
theorem dX0_layField_54 : decode cX0_layField 54 = .ok (.irem, 1) := by decide +kernel
theorem dX0_layField_55 : decode cX0_layField 55 = .ok (.iastore, 1) := by decide +kernel
theorem dX0_layField_56 : decode cX0_layField 56 = .ok (.iinc 5 1, 3) := by decide +kernel
theorem dX0_layField_59 : decode cX0_layField 59 = .ok (.goto (-54), 3) := by decide +kernel
theorem dX0_layField_62 : decode cX0_layField 62 = .ok (.return_, 1) := by decide +kernel
theorem dX0_sideOf_0 : decode cX0_sideOf 0 = .ok (.iload_n 1, 1) := by decide +kernel
theorem dX0_sideOf_1 : decode cX0_sideOf 1 = .ok (.ifCond .ne 10, 3) := by decide +kernel
theorem dX0_sideOf_4 : decode cX0_sideOf 4 = .ok (.aload_n 0, 1) := by decide +kernel
theorem dX0_sideOf_5 : decode cX0_sideOf 5 = .ok (.getfield 12, 3) := by decide +kernel
theorem dX0_sideOf_8 : decode cX0_sideOf 8 = .ok (.goto 7, 3) := by decide +kernel
theorem dX0_sideOf_11 : decode cX0_sideOf 11 = .ok (.aload_n 0, 1) := by decide +kernel
theorem dX0_sideOf_12 : decode cX0_sideOf 12 = .ok (.getfield 18, 3) := by decide +kernel
theorem dX0_sideOf_15 : decode cX0_sideOf 15 = .ok (.areturn, 1) := by decide +kernel
set_option maxRecDepth 20000 in
theorem ggX0_isOver_X0_phase : GoodIn wsX0_isOver wsX0_phase := goodIn_r _ [5, 6, 7, 8, 9, 10, 11, 12, 13, 14, 15, 16, 17, 18, 19] (by decide +kernel) (by decide +kernel)
set_option maxRecDepth 20000 in
theorem gX0_isOver_X0_phase : GoodIn wsX0_isOver (wsV RX0 87 RX0 yX0_phase wsX0_phase) := goodIn_app (goodIn_of _ (by decide +kernel)) ggX0_isOver_X0_phase
theorem dX0_isOver_0 : decode cX0_isOver 0 = .ok (.aload_n 0, 1) := by decide +kernel
theorem dX0_isOver_1 : decode cX0_isOver 1 = .ok (.invokevirtual 87, 3) := by decide +kernel
theorem dX0_isOver_4 : decode cX0_isOver 4 = .ok (.iconst 1, 1) := by decide +kernel
theorem dX0_isOver_5 : decode cX0_isOver 5 = .ok (.if_icmp .eq 7, 3) := by decide +kernel
theorem dX0_isOver_8 : decode cX0_isOver 8 = .ok (.iconst 1, 1) := by decide +kernel
theorem dX0_isOver_9 : decode cX0_isOver 9 = .ok (.goto 4, 3) := by decide +kernel
theorem dX0_isOver_12 : decode cX0_isOver 12 = .ok (.iconst 0, 1) := by decide +kernel
theorem dX0_isOver_13 : decode cX0_isOver 13 = .ok (.ireturn, 1) := by decide +kernel
theorem dX0_phase_0 : decode cX0_phase 0 = .ok (.aload_n 0, 1) := by decide +kernel
theorem dX0_phase_1 : decode cX0_phase 1 = .ok (.getfield 70, 3) := by decide +kernel
theorem dX0_phase_4 : decode cX0_phase 4 = .ok (.iconst (-1), 1) := by decide +kernel
theorem dX0_phase_5 : decode cX0_phase 5 = .ok (.if_icmp .eq 5, 3) := by decide +kernel
theorem dX0_phase_8 : decode cX0_phase 8 = .ok (.iconst 2, 1) := by decide +kernel
theorem dX0_phase_9 : decode cX0_phase 9 = .ok (.ireturn, 1) := by decide +kernel
theorem dX0_phase_10 : decode cX0_phase 10 = .ok (.aload_n 0, 1) := by decide +kernel
theorem dX0_phase_11 : decode cX0_phase 11 = .ok (.getfield 64, 3) := by decide +kernel
theorem dX0_phase_14 : decode cX0_phase 14 = .ok (.bipush 80, 2) := by decide +kernel
theorem dX0_phase_16 : decode cX0_phase 16 = .ok (.if_icmp .lt 7, 3) := by decide +kernel
theorem dX0_phase_19 : decode cX0_phase 19 = .ok (.iconst 3, 1) := by decide +kernel
theorem dX0_phase_20 : decode cX0_phase 20 = .ok (.goto 4, 3) := by decide +kernel
theorem dX0_phase_23 : decode cX0_phase 23 = .ok (.iconst 1, 1) := by decide +kernel
theorem dX0_phase_24 : decode cX0_phase 24 = .ok (.ireturn, 1) := by decide +kernel
set_option maxRecDepth 20000 in
theorem ggX0_hasDam_X6_fits : GoodIn wsX0_hasDam wsX6_fits := goodIn_r _ [4] (by decide +kernel) (by decide +kernel)
set_option maxRecDepth 20000 in
theorem gX0_hasDam_X6_fits_n91 : GoodIn wsX0_hasDam (wsX6_fits) := ggX0_hasDam_X6_fits
theorem dX0_hasDam_0 : decode cX0_hasDam 0 = .ok (.iload_n 1, 1) := by decide +kernel
theorem dX0_hasDam_1 : decode cX0_hasDam 1 = .ok (.invokestatic 91, 3) := by decide +kernel
theorem dX0_hasDam_4 : decode cX0_hasDam 4 = .ok (.ifCond .eq 17, 3) := by decide +kernel
theorem dX0_hasDam_7 : decode cX0_hasDam 7 = .ok (.aload_n 0, 1) := by decide +kernel
theorem dX0_hasDam_8 : decode cX0_hasDam 8 = .ok (.getfield 21, 3) := by decide +kernel
theorem dX0_hasDam_11 : decode cX0_hasDam 11 = .ok (.iload_n 1, 1) := by decide +kernel
theorem dX0_hasDam_12 : decode cX0_hasDam 12 = .ok (.iaload, 1) := by decide +kernel
theorem dX0_hasDam_13 : decode cX0_hasDam 13 = .ok (.iconst (-1), 1) := by decide +kernel
theorem dX0_hasDam_14 : decode cX0_hasDam 14 = .ok (.if_icmp .eq 7, 3) := by decide +kernel
theorem dX0_hasDam_17 : decode cX0_hasDam 17 = .ok (.iconst 1, 1) := by decide +kernel
theorem dX0_hasDam_18 : decode cX0_hasDam 18 = .ok (.goto 4, 3) := by decide +kernel
theorem dX0_hasDam_21 : decode cX0_hasDam 21 = .ok (.iconst 0, 1) := by decide +kernel
theorem dX0_hasDam_22 : decode cX0_hasDam 22 = .ok (.ireturn, 1) := by decide +kernel
set_option maxRecDepth 20000 in
theorem ggX0_stoodAt_X6_fits : GoodIn wsX0_stoodAt wsX6_fits := goodIn_r _ [4] (by decide +kernel) (by decide +kernel)
set_option maxRecDepth 20000 in
theorem gX0_stoodAt_X6_fits_n91 : GoodIn wsX0_stoodAt (wsX6_fits) := ggX0_stoodAt_X6_fits
theorem dX0_stoodAt_0 : decode cX0_stoodAt 0 = .ok (.iload_n 1, 1) := by decide +kernel
theorem dX0_stoodAt_1 : decode cX0_stoodAt 1 = .ok (.invokestatic 91, 3) := by decide +kernel
theorem dX0_stoodAt_4 : decode cX0_stoodAt 4 = .ok (.ifCond .eq 12, 3) := by decide +kernel
theorem dX0_stoodAt_7 : decode cX0_stoodAt 7 = .ok (.aload_n 0, 1) := by decide +kernel
theorem dX0_stoodAt_8 : decode cX0_stoodAt 8 = .ok (.getfield 21, 3) := by decide +kernel
theorem dX0_stoodAt_11 : decode cX0_stoodAt 11 = .ok (.iload_n 1, 1) := by decide +kernel
theorem dX0_stoodAt_12 : decode cX0_stoodAt 12 = .ok (.iaload, 1) := by decide +kernel
theorem dX0_stoodAt_13 : decode cX0_stoodAt 13 = .ok (.goto 4, 3) := by decide +kernel
theorem dX0_stoodAt_16 : decode cX0_stoodAt 16 = .ok (.iconst (-1), 1) := by decide +kernel
theorem dX0_stoodAt_17 : decode cX0_stoodAt 17 = .ok (.ireturn, 1) := by decide +kernel
theorem dX0_countDams_0 : decode cX0_countDams 0 = .ok (.iconst 0, 1) := by decide +kernel
theorem dX0_countDams_1 : decode cX0_countDams 1 = .ok (.istore_n 1, 1) := by decide +kernel
theorem dX0_countDams_2 : decode cX0_countDams 2 = .ok (.iconst 0, 1) := by decide +kernel
theorem dX0_countDams_3 : decode cX0_countDams 3 = .ok (.istore_n 2, 1) := by decide +kernel
theorem dX0_countDams_4 : decode cX0_countDams 4 = .ok (.iload_n 2, 1) := by decide +kernel
theorem dX0_countDams_5 : decode cX0_countDams 5 = .ok (.bipush 64, 2) := by decide +kernel
theorem dX0_countDams_7 : decode cX0_countDams 7 = .ok (.if_icmp .ge 22, 3) := by decide +kernel
theorem dX0_countDams_10 : decode cX0_countDams 10 = .ok (.aload_n 0, 1) := by decide +kernel
theorem dX0_countDams_11 : decode cX0_countDams 11 = .ok (.getfield 21, 3) := by decide +kernel
theorem dX0_countDams_14 : decode cX0_countDams 14 = .ok (.iload_n 2, 1) := by decide +kernel
theorem dX0_countDams_15 : decode cX0_countDams 15 = .ok (.iaload, 1) := by decide +kernel
theorem dX0_countDams_16 : decode cX0_countDams 16 = .ok (.iconst (-1), 1) := by decide +kernel
theorem dX0_countDams_17 : decode cX0_countDams 17 = .ok (.if_icmp .eq 6, 3) := by decide +kernel
theorem dX0_countDams_20 : decode cX0_countDams 20 = .ok (.iinc 1 1, 3) := by decide +kernel
theorem dX0_countDams_23 : decode cX0_countDams 23 = .ok (.iinc 2 1, 3) := by decide +kernel
theorem dX0_countDams_26 : decode cX0_countDams 26 = .ok (.goto (-22), 3) := by decide +kernel
theorem dX0_countDams_29 : decode cX0_countDams 29 = .ok (.iload_n 1, 1) := by decide +kernel
theorem dX0_countDams_30 : decode cX0_countDams 30 = .ok (.ireturn, 1) := by decide +kernel
set_option maxRecDepth 20000 in
theorem ggX0_contentOf_X0_hasDam : GoodIn wsX0_contentOf wsX0_hasDam := goodIn_r _ [7, 8, 9, 10, 11, 18, 19, 20, 21, 22, 23, 24, 25, 26, 27, 28, 29] (by decide +kernel) (by decide +kernel)
set_option maxRecDepth 20000 in
theorem gX0_contentOf_X0_hasDam : GoodIn wsX0_contentOf (wsV RX0 95 RX0 yX0_hasDam wsX0_hasDam) := goodIn_app (goodIn_of _ (by decide +kernel)) ggX0_contentOf_X0_hasDam
set_option maxRecDepth 20000 in
theorem ggX0_contentOf_X2_holds : GoodIn wsX0_contentOf wsX2_holds := goodIn_r _ [16, 17, 9, 10, 11, 30, 31, 32, 33, 34, 35, 36, 37] (by decide +kernel) (by decide +kernel)
set_option maxRecDepth 20000 in
theorem gX0_contentOf_X2_holds : GoodIn wsX0_contentOf (wsV RX0 98 RX2 yX2_holds wsX2_holds) := goodIn_app (goodIn_of _ (by decide +kernel)) ggX0_contentOf_X2_holds
theorem dX0_contentOf_0 : decode cX0_contentOf 0 = .ok (.aload_n 0, 1) := by decide +kernel
theorem dX0_contentOf_1 : decode cX0_contentOf 1 = .ok (.iload_n 1, 1) := by decide +kernel
theorem dX0_contentOf_2 : decode cX0_contentOf 2 = .ok (.invokevirtual 95, 3) := by decide +kernel
theorem dX0_contentOf_5 : decode cX0_contentOf 5 = .ok (.ifCond .eq 5, 3) := by decide +kernel
theorem dX0_contentOf_8 : decode cX0_contentOf 8 = .ok (.iconst 4, 1) := by decide +kernel
theorem dX0_contentOf_9 : decode cX0_contentOf 9 = .ok (.ireturn, 1) := by decide +kernel
theorem dX0_contentOf_10 : decode cX0_contentOf 10 = .ok (.aload_n 0, 1) := by decide +kernel
theorem dX0_contentOf_11 : decode cX0_contentOf 11 = .ok (.getfield 12, 3) := by decide +kernel
theorem dX0_contentOf_14 : decode cX0_contentOf 14 = .ok (.iload_n 1, 1) := by decide +kernel
theorem dX0_contentOf_15 : decode cX0_contentOf 15 = .ok (.invokevirtual 98, 3) := by decide +kernel
theorem dX0_contentOf_18 : decode cX0_contentOf 18 = .ok (.ifCond .eq 7, 3) := by decide +kernel
theorem dX0_contentOf_21 : decode cX0_contentOf 21 = .ok (.iconst 1, 1) := by decide +kernel
theorem dX0_contentOf_22 : decode cX0_contentOf 22 = .ok (.goto 4, 3) := by decide +kernel
theorem dX0_contentOf_25 : decode cX0_contentOf 25 = .ok (.iconst 0, 1) := by decide +kernel
theorem dX0_contentOf_26 : decode cX0_contentOf 26 = .ok (.aload_n 0, 1) := by decide +kernel
theorem dX0_contentOf_27 : decode cX0_contentOf 27 = .ok (.getfield 18, 3) := by decide +kernel
theorem dX0_contentOf_30 : decode cX0_contentOf 30 = .ok (.iload_n 1, 1) := by decide +kernel
theorem dX0_contentOf_31 : decode cX0_contentOf 31 = .ok (.invokevirtual 98, 3) := by decide +kernel
theorem dX0_contentOf_34 : decode cX0_contentOf 34 = .ok (.ifCond .eq 7, 3) := by decide +kernel
theorem dX0_contentOf_37 : decode cX0_contentOf 37 = .ok (.iconst 2, 1) := by decide +kernel
theorem dX0_contentOf_38 : decode cX0_contentOf 38 = .ok (.goto 4, 3) := by decide +kernel
theorem dX0_contentOf_41 : decode cX0_contentOf 41 = .ok (.iconst 0, 1) := by decide +kernel
theorem dX0_contentOf_42 : decode cX0_contentOf 42 = .ok (.iadd, 1) := by decide +kernel
theorem dX0_contentOf_43 : decode cX0_contentOf 43 = .ok (.ireturn, 1) := by decide +kernel
theorem dX0_settingOf_0 : decode cX0_settingOf 0 = .ok (.iload_n 1, 1) := by decide +kernel
theorem dX0_settingOf_1 : decode cX0_settingOf 1 = .ok (.ifCond .ne 10, 3) := by decide +kernel
theorem dX0_settingOf_4 : decode cX0_settingOf 4 = .ok (.aload_n 0, 1) := by decide +kernel
theorem dX0_settingOf_5 : decode cX0_settingOf 5 = .ok (.getfield 25, 3) := by decide +kernel
theorem dX0_settingOf_8 : decode cX0_settingOf 8 = .ok (.goto 7, 3) := by decide +kernel
theorem dX0_settingOf_11 : decode cX0_settingOf 11 = .ok (.aload_n 0, 1) := by decide +kernel
theorem dX0_settingOf_12 : decode cX0_settingOf 12 = .ok (.getfield 29, 3) := by decide +kernel
theorem dX0_settingOf_15 : decode cX0_settingOf 15 = .ok (.ireturn, 1) := by decide +kernel
set_option maxRecDepth 20000 in
theorem ggX0_changeSetting_X0_settingOf : GoodIn wsX0_changeSetting wsX0_settingOf := goodIn_r _ [7, 1, 2, 8, 9, 10, 11, 12, 13, 14, 15, 16, 17, 18, 19] (by decide +kernel) (by decide +kernel)
set_option maxRecDepth 20000 in
theorem gX0_changeSetting_X0_settingOf : GoodIn wsX0_changeSetting (wsV RX0 101 RX0 yX0_settingOf wsX0_settingOf) := goodIn_app (goodIn_of _ (by decide +kernel)) ggX0_changeSetting_X0_settingOf
theorem dX0_changeSetting_0 : decode cX0_changeSetting 0 = .ok (.aload_n 0, 1) := by decide +kernel
theorem dX0_changeSetting_1 : decode cX0_changeSetting 1 = .ok (.iload_n 1, 1) := by decide +kernel
theorem dX0_changeSetting_2 : decode cX0_changeSetting 2 = .ok (.invokevirtual 101, 3) := by decide +kernel
theorem dX0_changeSetting_5 : decode cX0_changeSetting 5 = .ok (.istore_n 3, 1) := by decide +kernel
theorem dX0_changeSetting_6 : decode cX0_changeSetting 6 = .ok (.iload_n 1, 1) := by decide +kernel
theorem dX0_changeSetting_7 : decode cX0_changeSetting 7 = .ok (.ifCond .ne 11, 3) := by decide +kernel
theorem dX0_changeSetting_10 : decode cX0_changeSetting 10 = .ok (.aload_n 0, 1) := by decide +kernel
theorem dX0_changeSetting_11 : decode cX0_changeSetting 11 = .ok (.iload_n 2, 1) := by decide +kernel
theorem dX0_changeSetting_12 : decode cX0_changeSetting 12 = .ok (.putfield 25, 3) := by decide +kernel
theorem dX0_changeSetting_15 : decode cX0_changeSetting 15 = .ok (.goto 8, 3) := by decide +kernel
theorem dX0_changeSetting_18 : decode cX0_changeSetting 18 = .ok (.aload_n 0, 1) := by decide +kernel
theorem dX0_changeSetting_19 : decode cX0_changeSetting 19 = .ok (.iload_n 2, 1) := by decide +kernel
theorem dX0_changeSetting_20 : decode cX0_changeSetting 20 = .ok (.putfield 29, 3) := by decide +kernel
theorem dX0_changeSetting_23 : decode cX0_changeSetting 23 = .ok (.iload_n 3, 1) := by decide +kernel
theorem dX0_changeSetting_24 : decode cX0_changeSetting 24 = .ok (.ireturn, 1) := by decide +kernel
set_option maxRecDepth 20000 in
theorem ggX0_changeIfPossible_X6_isSettingValue : GoodIn wsX0_changeIfPossible wsX6_isSettingValue := goodIn_r _ [3] (by decide +kernel) (by decide +kernel)
set_option maxRecDepth 20000 in
theorem gX0_changeIfPossible_X6_isSettingValue_n105 : GoodIn wsX0_changeIfPossible (wsX6_isSettingValue) := ggX0_changeIfPossible_X6_isSettingValue
set_option maxRecDepth 20000 in
theorem ggX0_changeIfPossible_X0_changeSetting : GoodIn wsX0_changeIfPossible wsX0_changeSetting := goodIn_r _ [8, 9, 10, 11, 12, 13, 7, 14, 15, 16, 17, 18, 19, 20, 21, 22, 23, 24, 25, 26] (by decide +kernel) (by decide +kernel)
set_option maxRecDepth 20000 in
theorem gX0_changeIfPossible_X0_changeSetting : GoodIn wsX0_changeIfPossible (wsV RX0 109 RX0 yX0_changeSetting wsX0_changeSetting) := goodIn_app (goodIn_of _ (by decide +kernel)) ggX0_changeIfPossible_X0_changeSetting
theorem dX0_changeIfPossible_0 : decode cX0_changeIfPossible 0 = .ok (.iload_n 1, 1) := by decide +kernel
theorem dX0_changeIfPossible_1 : decode cX0_changeIfPossible 1 = .ok (.iload_n 2, 1) := by decide +kernel
theorem dX0_changeIfPossible_2 : decode cX0_changeIfPossible 2 = .ok (.invokestatic 105, 3) := by decide +kernel
theorem dX0_changeIfPossible_5 : decode cX0_changeIfPossible 5 = .ok (.ifCond .ne 5, 3) := by decide +kernel
theorem dX0_changeIfPossible_8 : decode cX0_changeIfPossible 8 = .ok (.iconst 0, 1) := by decide +kernel
theorem dX0_changeIfPossible_9 : decode cX0_changeIfPossible 9 = .ok (.ireturn, 1) := by decide +kernel
theorem dX0_changeIfPossible_10 : decode cX0_changeIfPossible 10 = .ok (.aload_n 0, 1) := by decide +kernel
theorem dX0_changeIfPossible_11 : decode cX0_changeIfPossible 11 = .ok (.iload_n 1, 1) := by decide +kernel
theorem dX0_changeIfPossible_12 : decode cX0_changeIfPossible 12 = .ok (.iload_n 2, 1) := by decide +kernel
theorem dX0_changeIfPossible_13 : decode cX0_changeIfPossible 13 = .ok (.invokevirtual 109, 3) := by decide +kernel
theorem dX0_changeIfPossible_16 : decode cX0_changeIfPossible 16 = .ok (.pop, 1) := by decide +kernel
theorem dX0_changeIfPossible_17 : decode cX0_changeIfPossible 17 = .ok (.iconst 1, 1) := by decide +kernel
theorem dX0_changeIfPossible_18 : decode cX0_changeIfPossible 18 = .ok (.ireturn, 1) := by decide +kernel
set_option maxRecDepth 20000 in
theorem ggX0_reasonAgainstStep_X0_sideOf : GoodIn wsX0_reasonAgainstStep wsX0_sideOf := goodIn_r _ [6, 7, 8, 35, 36, 37, 38, 39, 40, 41, 42, 43, 44, 45, 46] (by decide +kernel) (by decide +kernel)
set_option maxRecDepth 20000 in
theorem gX0_reasonAgainstStep_X0_sideOf : GoodIn wsX0_reasonAgainstStep (wsV RX0 113 RX0 yX0_sideOf wsX0_sideOf) := goodIn_app (goodIn_of _ (by decide +kernel)) ggX0_reasonAgainstStep_X0_sideOf
set_option maxRecDepth 20000 in
theorem ggX0_reasonAgainstStep_X2_head : GoodIn wsX0_reasonAgainstStep wsX2_head := goodIn_r _ [13, 14, 15, 47, 48, 49, 50, 51, 52, 53, 54] (by decide +kernel) (by decide +kernel)
set_option maxRecDepth 20000 in
theorem gX0_reasonAgainstStep_X2_head : GoodIn wsX0_reasonAgainstStep (wsV RX0 117 RX2 yX2_head wsX2_head) := goodIn_app (goodIn_of _ (by decide +kernel)) ggX0_reasonAgainstStep_X2_head
set_option maxRecDepth 20000 in
theorem ggX0_reasonAgainstStep_X6_cellBeside : GoodIn wsX0_reasonAgainstStep wsX6_cellBeside := goodIn_r _ [18, 19, 20, 17, 21, 22, 23, 24] (by decide +kernel) (by decide +kernel)
set_option maxRecDepth 20000 in
theorem gX0_reasonAgainstStep_X6_cellBeside_n120 : GoodIn wsX0_reasonAgainstStep (wsX6_cellBeside) := ggX0_reasonAgainstStep_X6_cellBeside
set_option maxRecDepth 20000 in
theorem ggX0_reasonAgainstStep_X0_hasDam : GoodIn wsX0_reasonAgainstStep wsX0_hasDam := goodIn_r _ [28, 29, 20, 17, 21, 35, 36, 37, 38, 39, 40, 41, 42, 43, 44, 45, 46] (by decide +kernel) (by decide +kernel)
set_option maxRecDepth 20000 in
theorem gX0_reasonAgainstStep_X0_hasDam : GoodIn wsX0_reasonAgainstStep (wsV RX0 95 RX0 yX0_hasDam wsX0_hasDam) := goodIn_app (goodIn_of _ (by decide +kernel)) ggX0_reasonAgainstStep_X0_hasDam
set_option maxRecDepth 20000 in
theorem ggX0_reasonAgainstStep_X2_holds : GoodIn wsX0_reasonAgainstStep wsX2_holds := goodIn_r _ [33, 34, 20, 17, 21, 47, 48, 49, 50, 51, 52, 53, 54] (by decide +kernel) (by decide +kernel)
set_option maxRecDepth 20000 in
theorem gX0_reasonAgainstStep_X2_holds : GoodIn wsX0_reasonAgainstStep (wsV RX0 98 RX2 yX2_holds wsX2_holds) := goodIn_app (goodIn_of _ (by decide +kernel)) ggX0_reasonAgainstStep_X2_holds
theorem dX0_reasonAgainstStep_0 : decode cX0_reasonAgainstStep 0 = .ok (.aload_n 0, 1) := by decide +kernel
theorem dX0_reasonAgainstStep_1 : decode cX0_reasonAgainstStep 1 = .ok (.aload_n 0, 1) := by decide +kernel
theorem dX0_reasonAgainstStep_2 : decode cX0_reasonAgainstStep 2 = .ok (.getfield 67, 3) := by decide +kernel
theorem dX0_reasonAgainstStep_5 : decode cX0_reasonAgainstStep 5 = .ok (.invokevirtual 113, 3) := by decide +kernel
theorem dX0_reasonAgainstStep_8 : decode cX0_reasonAgainstStep 8 = .ok (.astore_n 2, 1) := by decide +kernel
theorem dX0_reasonAgainstStep_9 : decode cX0_reasonAgainstStep 9 = .ok (.aload_n 2, 1) := by decide +kernel
theorem dX0_reasonAgainstStep_10 : decode cX0_reasonAgainstStep 10 = .ok (.invokevirtual 117, 3) := by decide +kernel
theorem dX0_reasonAgainstStep_13 : decode cX0_reasonAgainstStep 13 = .ok (.iload_n 1, 1) := by decide +kernel
theorem dX0_reasonAgainstStep_14 : decode cX0_reasonAgainstStep 14 = .ok (.invokestatic 120, 3) := by decide +kernel
theorem dX0_reasonAgainstStep_17 : decode cX0_reasonAgainstStep 17 = .ok (.istore_n 3, 1) := by decide +kernel
theorem dX0_reasonAgainstStep_18 : decode cX0_reasonAgainstStep 18 = .ok (.iload_n 3, 1) := by decide +kernel
theorem dX0_reasonAgainstStep_19 : decode cX0_reasonAgainstStep 19 = .ok (.iconst (-1), 1) := by decide +kernel
theorem dX0_reasonAgainstStep_20 : decode cX0_reasonAgainstStep 20 = .ok (.if_icmp .ne 5, 3) := by decide +kernel
theorem dX0_reasonAgainstStep_23 : decode cX0_reasonAgainstStep 23 = .ok (.iconst 1, 1) := by decide +kernel
theorem dX0_reasonAgainstStep_24 : decode cX0_reasonAgainstStep 24 = .ok (.ireturn, 1) := by decide +kernel
theorem dX0_reasonAgainstStep_25 : decode cX0_reasonAgainstStep 25 = .ok (.aload_n 0, 1) := by decide +kernel
theorem dX0_reasonAgainstStep_26 : decode cX0_reasonAgainstStep 26 = .ok (.iload_n 3, 1) := by decide +kernel
theorem dX0_reasonAgainstStep_27 : decode cX0_reasonAgainstStep 27 = .ok (.invokevirtual 95, 3) := by decide +kernel
theorem dX0_reasonAgainstStep_30 : decode cX0_reasonAgainstStep 30 = .ok (.ifCond .eq 5, 3) := by decide +kernel
theorem dX0_reasonAgainstStep_33 : decode cX0_reasonAgainstStep 33 = .ok (.iconst 2, 1) := by decide +kernel
theorem dX0_reasonAgainstStep_34 : decode cX0_reasonAgainstStep 34 = .ok (.ireturn, 1) := by decide +kernel
theorem dX0_reasonAgainstStep_35 : decode cX0_reasonAgainstStep 35 = .ok (.aload_n 2, 1) := by decide +kernel
theorem dX0_reasonAgainstStep_36 : decode cX0_reasonAgainstStep 36 = .ok (.iload_n 3, 1) := by decide +kernel
theorem dX0_reasonAgainstStep_37 : decode cX0_reasonAgainstStep 37 = .ok (.invokevirtual 98, 3) := by decide +kernel
theorem dX0_reasonAgainstStep_40 : decode cX0_reasonAgainstStep 40 = .ok (.ifCond .eq 7, 3) := by decide +kernel
theorem dX0_reasonAgainstStep_43 : decode cX0_reasonAgainstStep 43 = .ok (.iconst 3, 1) := by decide +kernel
theorem dX0_reasonAgainstStep_44 : decode cX0_reasonAgainstStep 44 = .ok (.goto 4, 3) := by decide +kernel
theorem dX0_reasonAgainstStep_47 : decode cX0_reasonAgainstStep 47 = .ok (.iconst 0, 1) := by decide +kernel
theorem dX0_reasonAgainstStep_48 : decode cX0_reasonAgainstStep 48 = .ok (.ireturn, 1) := by decide +kernel
set_option maxRecDepth 20000 in
theorem ggX0_tryStep_X0_reasonAgainstStep : GoodIn wsX0_tryStep wsX0_reasonAgainstStep := goodIn_r _ [6, 7, 8, 9, 10, 5, 11, 12, 13, 14, 15, 16, 17, 18, 19, 20, 21, 22, 23, 24, 25, 26, 27, 28, 29, 30, 31, 32, 33, 34, 35, 36, 37, 38, 39, 74, 75, 76, 77, 78, 79, 80, 81, 82, 83, 84, 85, 86, 87, 88, 89, 90, 91, 92, 93] (by decide +kernel) (by decide +kernel)
set_option maxRecDepth 20000 in
theorem gX0_tryStep_X0_reasonAgainstStep : GoodIn wsX0_tryStep (wsV RX0 123 RX0 yX0_reasonAgainstStep wsX0_reasonAgainstStep) := goodIn_app (goodIn_of _ (by decide +kernel)) ggX0_tryStep_X0_reasonAgainstStep
set_option maxRecDepth 20000 in
theorem ggX0_tryStep_X0_makeStep : GoodIn wsX0_tryStep wsX0_makeStep := goodIn_r _ [43, 7, 8, 9, 10, 5, 11, 12, 13, 14, 15, 16, 17, 18, 19, 20, 21, 22, 23, 24, 25, 26, 27, 28, 29, 44, 45, 46, 47, 39, 35, 36, 37, 38, 48, 49, 50, 51, 52, 53, 54, 55, 56, 57, 58, 59, 60, 61, 62, 63, 64, 65, 66, 67, 68, 69, 70, 71, 72, 34, 73, 74, 75, 76, 77, 78, 79, 80, 81, 82, 83, 84, 85, 86, 87, 88, 89, 90, 91, 92, 93] (by decide +kernel) (by decide +kernel)
set_option maxRecDepth 20000 in
theorem gX0_tryStep_X0_makeStep : GoodIn wsX0_tryStep (wsV RX0 126 RX0 yX0_makeStep wsX0_makeStep) := goodIn_app (goodIn_of _ (by decide +kernel)) ggX0_tryStep_X0_makeStep
theorem dX0_tryStep_0 : decode cX0_tryStep 0 = .ok (.aload_n 0, 1) := by decide +kernel
theorem dX0_tryStep_1 : decode cX0_tryStep 1 = .ok (.iload_n 1, 1) := by decide +kernel
theorem dX0_tryStep_2 : decode cX0_tryStep 2 = .ok (.invokevirtual 123, 3) := by decide +kernel
theorem dX0_tryStep_5 : decode cX0_tryStep 5 = .ok (.istore_n 2, 1) := by decide +kernel
theorem dX0_tryStep_6 : decode cX0_tryStep 6 = .ok (.iload_n 2, 1) := by decide +kernel
theorem dX0_tryStep_7 : decode cX0_tryStep 7 = .ok (.ifCond .ne 11, 3) := by decide +kernel
theorem dX0_tryStep_10 : decode cX0_tryStep 10 = .ok (.aload_n 0, 1) := by decide +kernel
theorem dX0_tryStep_11 : decode cX0_tryStep 11 = .ok (.iload_n 1, 1) := by decide +kernel
theorem dX0_tryStep_12 : decode cX0_tryStep 12 = .ok (.invokevirtual 126, 3) := by decide +kernel
theorem dX0_tryStep_15 : decode cX0_tryStep 15 = .ok (.goto 13, 3) := by decide +kernel
theorem dX0_tryStep_18 : decode cX0_tryStep 18 = .ok (.aload_n 0, 1) := by decide +kernel
theorem dX0_tryStep_19 : decode cX0_tryStep 19 = .ok (.dup, 1) := by decide +kernel
theorem dX0_tryStep_20 : decode cX0_tryStep 20 = .ok (.getfield 35, 3) := by decide +kernel
theorem dX0_tryStep_23 : decode cX0_tryStep 23 = .ok (.iconst 1, 1) := by decide +kernel
theorem dX0_tryStep_24 : decode cX0_tryStep 24 = .ok (.iadd, 1) := by decide +kernel
theorem dX0_tryStep_25 : decode cX0_tryStep 25 = .ok (.putfield 35, 3) := by decide +kernel
theorem dX0_tryStep_28 : decode cX0_tryStep 28 = .ok (.iload_n 2, 1) := by decide +kernel
theorem dX0_tryStep_29 : decode cX0_tryStep 29 = .ok (.ireturn, 1) := by decide +kernel
set_option maxRecDepth 20000 in
theorem ggX0_stepIfPossible_X0_isOver : GoodIn wsX0_stepIfPossible wsX0_isOver := goodIn_r _ [5, 6, 7, 8, 4, 9, 10, 11, 81, 82, 83, 84, 85, 86, 87, 88, 89, 90, 91, 92] (by decide +kernel) (by decide +kernel)
set_option maxRecDepth 20000 in
theorem gX0_stepIfPossible_X0_isOver : GoodIn wsX0_stepIfPossible (wsV RX0 129 RX0 yX0_isOver wsX0_isOver) := goodIn_app (goodIn_of _ (by decide +kernel)) ggX0_stepIfPossible_X0_isOver
set_option maxRecDepth 20000 in
theorem ggX0_stepIfPossible_X0_reasonAgainstStep : GoodIn wsX0_stepIfPossible wsX0_reasonAgainstStep := goodIn_r _ [15, 16, 17, 18, 19, 4, 20, 21, 22, 23, 24, 25, 26, 27, 28, 29, 30, 31, 32, 33, 34, 35, 36, 37, 38, 39, 40, 41, 42, 43, 44, 45, 46, 47, 48, 81, 82, 83, 84, 85, 86, 87, 88, 89, 90, 91, 92, 93, 94, 95, 96, 97, 98, 99, 100] (by decide +kernel) (by decide +kernel)
set_option maxRecDepth 20000 in
theorem gX0_stepIfPossible_X0_reasonAgainstStep : GoodIn wsX0_stepIfPossible (wsV RX0 123 RX0 yX0_reasonAgainstStep wsX0_reasonAgainstStep) := goodIn_app (goodIn_of _ (by decide +kernel)) ggX0_stepIfPossible_X0_reasonAgainstStep
set_option maxRecDepth 20000 in
theorem ggX0_stepIfPossible_X0_makeStep : GoodIn wsX0_stepIfPossible wsX0_makeStep := goodIn_r _ [52, 16, 17, 18, 19, 4, 20, 21, 22, 23, 24, 25, 26, 27, 28, 29, 30, 31, 32, 33, 34, 35, 36, 37, 38, 53, 54, 55, 56, 48, 44, 45, 46, 47, 57, 58, 59, 60, 10, 61, 62, 63, 64, 65, 66, 67, 68, 69, 70, 71, 72, 73, 74, 75, 76, 77, 78, 79, 11, 43, 80, 81, 82, 83, 84, 85, 86, 87, 88, 89, 90, 91, 92, 93, 94, 95, 96, 97, 98, 99, 100] (by decide +kernel) (by decide +kernel)
set_option maxRecDepth 20000 in
theorem gX0_stepIfPossible_X0_makeStep : GoodIn wsX0_stepIfPossible (wsV RX0 126 RX0 yX0_makeStep wsX0_makeStep) := goodIn_app (goodIn_of _ (by decide +kernel)) ggX0_stepIfPossible_X0_makeStep
theorem dX0_stepIfPossible_0 : decode cX0_stepIfPossible 0 = .ok (.aload_n 0, 1) := by decide +kernel
theorem dX0_stepIfPossible_1 : decode cX0_stepIfPossible 1 = .ok (.invokevirtual 129, 3) := by decide +kernel
theorem dX0_stepIfPossible_4 : decode cX0_stepIfPossible 4 = .ok (.ifCond .ne 11, 3) := by decide +kernel
theorem dX0_stepIfPossible_7 : decode cX0_stepIfPossible 7 = .ok (.aload_n 0, 1) := by decide +kernel
theorem dX0_stepIfPossible_8 : decode cX0_stepIfPossible 8 = .ok (.iload_n 1, 1) := by decide +kernel
theorem dX0_stepIfPossible_9 : decode cX0_stepIfPossible 9 = .ok (.invokevirtual 123, 3) := by decide +kernel
theorem dX0_stepIfPossible_12 : decode cX0_stepIfPossible 12 = .ok (.ifCond .eq 5, 3) := by decide +kernel
theorem dX0_stepIfPossible_15 : decode cX0_stepIfPossible 15 = .ok (.iconst 0, 1) := by decide +kernel
theorem dX0_stepIfPossible_16 : decode cX0_stepIfPossible 16 = .ok (.ireturn, 1) := by decide +kernel
theorem dX0_stepIfPossible_17 : decode cX0_stepIfPossible 17 = .ok (.aload_n 0, 1) := by decide +kernel
theorem dX0_stepIfPossible_18 : decode cX0_stepIfPossible 18 = .ok (.iload_n 1, 1) := by decide +kernel
theorem dX0_stepIfPossible_19 : decode cX0_stepIfPossible 19 = .ok (.invokevirtual 126, 3) := by decide +kernel
theorem dX0_stepIfPossible_22 : decode cX0_stepIfPossible 22 = .ok (.iconst 1, 1) := by decide +kernel
theorem dX0_stepIfPossible_23 : decode cX0_stepIfPossible 23 = .ok (.ireturn, 1) := by decide +kernel
set_option maxRecDepth 20000 in
theorem ggX0_makeStep_X0_sideOf : GoodIn wsX0_makeStep wsX0_sideOf := goodIn_r _ [6, 7, 8, 61, 62, 63, 64, 65, 66, 67, 68, 69, 70, 71, 72] (by decide +kernel) (by decide +kernel)
set_option maxRecDepth 20000 in
theorem gX0_makeStep_X0_sideOf : GoodIn wsX0_makeStep (wsV RX0 113 RX0 yX0_sideOf wsX0_sideOf) := goodIn_app (goodIn_of _ (by decide +kernel)) ggX0_makeStep_X0_sideOf
set_option maxRecDepth 20000 in
theorem ggX0_makeStep_X2_head : GoodIn wsX0_makeStep wsX2_head := goodIn_r _ [13, 14, 15, 73, 74, 75, 76, 77, 78, 79, 80] (by decide +kernel) (by decide +kernel)
set_option maxRecDepth 20000 in
theorem gX0_makeStep_X2_head : GoodIn wsX0_makeStep (wsV RX0 117 RX2 yX2_head wsX2_head) := goodIn_app (goodIn_of _ (by decide +kernel)) ggX0_makeStep_X2_head
set_option maxRecDepth 20000 in
theorem ggX0_makeStep_X6_cellBeside : GoodIn wsX0_makeStep wsX6_cellBeside := goodIn_r _ [18, 19, 20, 17, 21, 22, 23, 24] (by decide +kernel) (by decide +kernel)
set_option maxRecDepth 20000 in
theorem gX0_makeStep_X6_cellBeside_n120 : GoodIn wsX0_makeStep (wsX6_cellBeside) := ggX0_makeStep_X6_cellBeside
set_option maxRecDepth 20000 in
theorem ggX0_makeStep_X2_flowTo : GoodIn wsX0_makeStep wsX2_flowTo := goodIn_r _ [28, 14, 15, 29, 20, 17, 21, 73, 74, 75, 76, 77, 78, 79, 80] (by decide +kernel) (by decide +kernel)
set_option maxRecDepth 20000 in
theorem gX0_makeStep_X2_flowTo : GoodIn wsX0_makeStep (wsV RX0 133 RX2 yX2_flowTo wsX2_flowTo) := goodIn_app (goodIn_of _ (by decide +kernel)) ggX0_makeStep_X2_flowTo
set_option maxRecDepth 20000 in
theorem ggX0_makeStep_X2_holds : GoodIn wsX0_makeStep wsX2_holds := goodIn_r _ [33, 29, 20, 17, 21, 73, 74, 75, 76, 77, 78, 79, 80] (by decide +kernel) (by decide +kernel)
set_option maxRecDepth 20000 in
theorem gX0_makeStep_X2_holds : GoodIn wsX0_makeStep (wsV RX0 98 RX2 yX2_holds wsX2_holds) := goodIn_app (goodIn_of _ (by decide +kernel)) ggX0_makeStep_X2_holds
set_option maxRecDepth 20000 in
theorem ggX0_makeStep_X0_meetAt : GoodIn wsX0_makeStep wsX0_meetAt := goodIn_r _ [37, 38, 7, 39, 8, 40, 41, 42, 43, 44, 45, 12, 46, 47, 48, 49, 50, 51, 52, 53, 61, 62, 63, 64, 65, 66, 67, 68, 69, 70, 71, 72, 73, 74, 75, 76, 77, 78, 79, 80] (by decide +kernel) (by decide +kernel)
set_option maxRecDepth 20000 in
theorem gX0_makeStep_X0_meetAt : GoodIn wsX0_makeStep (wsV RX0 136 RX0 yX0_meetAt wsX0_meetAt) := goodIn_app (goodIn_of _ (by decide +kernel)) ggX0_makeStep_X0_meetAt
set_option maxRecDepth 20000 in
theorem ggX0_makeStep_X2_costOf : GoodIn wsX0_makeStep wsX2_costOf := goodIn_r _ [46, 47, 73, 74, 75, 76, 77, 78, 79, 80] (by decide +kernel) (by decide +kernel)
set_option maxRecDepth 20000 in
theorem gX0_makeStep_X2_costOf : GoodIn wsX0_makeStep (wsV RX0 139 RX2 yX2_costOf wsX2_costOf) := goodIn_app (goodIn_of _ (by decide +kernel)) ggX0_makeStep_X2_costOf
set_option maxRecDepth 20000 in
theorem ggX0_makeStep_X2_pay : GoodIn wsX0_makeStep wsX2_pay := goodIn_r _ [51, 52, 53, 73, 74, 75, 76, 77, 78, 79, 80] (by decide +kernel) (by decide +kernel)
set_option maxRecDepth 20000 in
theorem gX0_makeStep_X2_pay : GoodIn wsX0_makeStep (wsV RX0 142 RX2 yX2_pay wsX2_pay) := goodIn_app (goodIn_of _ (by decide +kernel)) ggX0_makeStep_X2_pay
set_option maxRecDepth 20000 in
theorem ggX0_makeStep_X0_endTurn : GoodIn wsX0_makeStep wsX0_endTurn := goodIn_r _ [57, 58, 1, 59, 60, 61, 62, 63, 64, 65, 66, 67, 68, 69, 70, 71, 72] (by decide +kernel) (by decide +kernel)
set_option maxRecDepth 20000 in
theorem gX0_makeStep_X0_endTurn : GoodIn wsX0_makeStep (wsV RX0 145 RX0 yX0_endTurn wsX0_endTurn) := goodIn_app (goodIn_of _ (by decide +kernel)) ggX0_makeStep_X0_endTurn
theorem dX0_makeStep_0 : decode cX0_makeStep 0 = .ok (.aload_n 0, 1) := by decide +kernel
theorem dX0_makeStep_1 : decode cX0_makeStep 1 = .ok (.aload_n 0, 1) := by decide +kernel
theorem dX0_makeStep_2 : decode cX0_makeStep 2 = .ok (.getfield 67, 3) := by decide +kernel
theorem dX0_makeStep_5 : decode cX0_makeStep 5 = .ok (.invokevirtual 113, 3) := by decide +kernel
theorem dX0_makeStep_8 : decode cX0_makeStep 8 = .ok (.astore_n 2, 1) := by decide +kernel
theorem dX0_makeStep_9 : decode cX0_makeStep 9 = .ok (.aload_n 2, 1) := by decide +kernel
theorem dX0_makeStep_10 : decode cX0_makeStep 10 = .ok (.invokevirtual 117, 3) := by decide +kernel
theorem dX0_makeStep_13 : decode cX0_makeStep 13 = .ok (.iload_n 1, 1) := by decide +kernel
theorem dX0_makeStep_14 : decode cX0_makeStep 14 = .ok (.invokestatic 120, 3) := by decide +kernel
theorem dX0_makeStep_17 : decode cX0_makeStep 17 = .ok (.istore_n 3, 1) := by decide +kernel
theorem dX0_makeStep_18 : decode cX0_makeStep 18 = .ok (.aload_n 2, 1) := by decide +kernel
theorem dX0_makeStep_19 : decode cX0_makeStep 19 = .ok (.iload_n 3, 1) := by decide +kernel
theorem dX0_makeStep_20 : decode cX0_makeStep 20 = .ok (.invokevirtual 133, 3) := by decide +kernel
theorem dX0_makeStep_23 : decode cX0_makeStep 23 = .ok (.aload_n 0, 1) := by decide +kernel
theorem dX0_makeStep_24 : decode cX0_makeStep 24 = .ok (.iconst 1, 1) := by decide +kernel
theorem dX0_makeStep_25 : decode cX0_makeStep 25 = .ok (.aload_n 0, 1) := by decide +kernel
theorem dX0_makeStep_26 : decode cX0_makeStep 26 = .ok (.getfield 67, 3) := by decide +kernel
theorem dX0_makeStep_29 : decode cX0_makeStep 29 = .ok (.isub, 1) := by decide +kernel
theorem dX0_makeStep_30 : decode cX0_makeStep 30 = .ok (.invokevirtual 113, 3) := by decide +kernel
theorem dX0_makeStep_33 : decode cX0_makeStep 33 = .ok (.iload_n 3, 1) := by decide +kernel
theorem dX0_makeStep_34 : decode cX0_makeStep 34 = .ok (.invokevirtual 98, 3) := by decide +kernel
theorem dX0_makeStep_37 : decode cX0_makeStep 37 = .ok (.ifCond .eq 11, 3) := by decide +kernel
theorem dX0_makeStep_40 : decode cX0_makeStep 40 = .ok (.aload_n 0, 1) := by decide +kernel
theorem dX0_makeStep_41 : decode cX0_makeStep 41 = .ok (.iload_n 3, 1) := by decide +kernel
theorem dX0_makeStep_42 : decode cX0_makeStep 42 = .ok (.invokevirtual 136, 3) := by decide +kernel
theorem dX0_makeStep_45 : decode cX0_makeStep 45 = .ok (.goto 12, 3) := by decide +kernel
theorem dX0_makeStep_48 : decode cX0_makeStep 48 = .ok (.aload_n 2, 1) := by decide +kernel
theorem dX0_makeStep_49 : decode cX0_makeStep 49 = .ok (.aload_n 2, 1) := by decide +kernel
theorem dX0_makeStep_50 : decode cX0_makeStep 50 = .ok (.iload_n 3, 1) := by decide +kernel
theorem dX0_makeStep_51 : decode cX0_makeStep 51 = .ok (.invokevirtual 139, 3) := by decide +kernel
theorem dX0_makeStep_54 : decode cX0_makeStep 54 = .ok (.invokevirtual 142, 3) := by decide +kernel
theorem dX0_makeStep_57 : decode cX0_makeStep 57 = .ok (.aload_n 0, 1) := by decide +kernel
theorem dX0_makeStep_58 : decode cX0_makeStep 58 = .ok (.invokevirtual 145, 3) := by decide +kernel
theorem dX0_makeStep_61 : decode cX0_makeStep 61 = .ok (.return_, 1) := by decide +kernel
set_option maxRecDepth 20000 in
theorem ggX0_meetAt_X2_costOf : GoodIn wsX0_meetAt wsX2_costOf := goodIn_r _ [12, 13, 32, 33, 34, 35, 36, 37, 38, 39] (by decide +kernel) (by decide +kernel)
set_option maxRecDepth 20000 in
theorem gX0_meetAt_X2_costOf : GoodIn wsX0_meetAt (wsV RX0 139 RX2 yX2_costOf wsX2_costOf) := goodIn_app (goodIn_of _ (by decide +kernel)) ggX0_meetAt_X2_costOf
set_option maxRecDepth 20000 in
theorem ggX0_meetAt_X2_pay : GoodIn wsX0_meetAt wsX2_pay := goodIn_r _ [17, 18, 19, 32, 33, 34, 35, 36, 37, 38, 39] (by decide +kernel) (by decide +kernel)
set_option maxRecDepth 20000 in
theorem gX0_meetAt_X2_pay : GoodIn wsX0_meetAt (wsV RX0 142 RX2 yX2_pay wsX2_pay) := goodIn_app (goodIn_of _ (by decide +kernel)) ggX0_meetAt_X2_pay
theorem dX0_meetAt_0 : decode cX0_meetAt 0 = .ok (.aload_n 0, 1) := by decide +kernel
theorem dX0_meetAt_1 : decode cX0_meetAt 1 = .ok (.iload_n 1, 1) := by decide +kernel
theorem dX0_meetAt_2 : decode cX0_meetAt 2 = .ok (.putfield 70, 3) := by decide +kernel
theorem dX0_meetAt_5 : decode cX0_meetAt 5 = .ok (.aload_n 0, 1) := by decide +kernel
theorem dX0_meetAt_6 : decode cX0_meetAt 6 = .ok (.getfield 12, 3) := by decide +kernel
theorem dX0_meetAt_9 : decode cX0_meetAt 9 = .ok (.aload_n 0, 1) := by decide +kernel
theorem dX0_meetAt_10 : decode cX0_meetAt 10 = .ok (.getfield 29, 3) := by decide +kernel
theorem dX0_meetAt_13 : decode cX0_meetAt 13 = .ok (.aload_n 0, 1) := by decide +kernel
theorem dX0_meetAt_14 : decode cX0_meetAt 14 = .ok (.getfield 12, 3) := by decide +kernel
theorem dX0_meetAt_17 : decode cX0_meetAt 17 = .ok (.iload_n 1, 1) := by decide +kernel
theorem dX0_meetAt_18 : decode cX0_meetAt 18 = .ok (.invokevirtual 139, 3) := by decide +kernel
theorem dX0_meetAt_21 : decode cX0_meetAt 21 = .ok (.imul, 1) := by decide +kernel
theorem dX0_meetAt_22 : decode cX0_meetAt 22 = .ok (.invokevirtual 142, 3) := by decide +kernel
theorem dX0_meetAt_25 : decode cX0_meetAt 25 = .ok (.aload_n 0, 1) := by decide +kernel
theorem dX0_meetAt_26 : decode cX0_meetAt 26 = .ok (.getfield 18, 3) := by decide +kernel
theorem dX0_meetAt_29 : decode cX0_meetAt 29 = .ok (.aload_n 0, 1) := by decide +kernel
theorem dX0_meetAt_30 : decode cX0_meetAt 30 = .ok (.getfield 29, 3) := by decide +kernel
theorem dX0_meetAt_33 : decode cX0_meetAt 33 = .ok (.aload_n 0, 1) := by decide +kernel
theorem dX0_meetAt_34 : decode cX0_meetAt 34 = .ok (.getfield 18, 3) := by decide +kernel
theorem dX0_meetAt_37 : decode cX0_meetAt 37 = .ok (.iload_n 1, 1) := by decide +kernel
theorem dX0_meetAt_38 : decode cX0_meetAt 38 = .ok (.invokevirtual 139, 3) := by decide +kernel
theorem dX0_meetAt_41 : decode cX0_meetAt 41 = .ok (.imul, 1) := by decide +kernel
theorem dX0_meetAt_42 : decode cX0_meetAt 42 = .ok (.invokevirtual 142, 3) := by decide +kernel
theorem dX0_meetAt_45 : decode cX0_meetAt 45 = .ok (.aload_n 0, 1) := by decide +kernel
theorem dX0_meetAt_46 : decode cX0_meetAt 46 = .ok (.getfield 12, 3) := by decide +kernel
theorem dX0_meetAt_49 : decode cX0_meetAt 49 = .ok (.getfield 148, 3) := by decide +kernel
theorem dX0_meetAt_52 : decode cX0_meetAt 52 = .ok (.aload_n 0, 1) := by decide +kernel
theorem dX0_meetAt_53 : decode cX0_meetAt 53 = .ok (.getfield 18, 3) := by decide +kernel
theorem dX0_meetAt_56 : decode cX0_meetAt 56 = .ok (.getfield 148, 3) := by decide +kernel
theorem dX0_meetAt_59 : decode cX0_meetAt 59 = .ok (.if_icmp .ge 24, 3) := by decide +kernel
theorem dX0_meetAt_62 : decode cX0_meetAt 62 = .ok (.aload_n 0, 1) := by decide +kernel
theorem dX0_meetAt_63 : decode cX0_meetAt 63 = .ok (.iconst 0, 1) := by decide +kernel
theorem dX0_meetAt_64 : decode cX0_meetAt 64 = .ok (.putfield 73, 3) := by decide +kernel
theorem dX0_meetAt_67 : decode cX0_meetAt 67 = .ok (.aload_n 0, 1) := by decide +kernel
theorem dX0_meetAt_68 : decode cX0_meetAt 68 = .ok (.getfield 12, 3) := by decide +kernel
theorem dX0_meetAt_71 : decode cX0_meetAt 71 = .ok (.dup, 1) := by decide +kernel
theorem dX0_meetAt_72 : decode cX0_meetAt 72 = .ok (.getfield 41, 3) := by decide +kernel
theorem dX0_meetAt_75 : decode cX0_meetAt 75 = .ok (.iconst 1, 1) := by decide +kernel
theorem dX0_meetAt_76 : decode cX0_meetAt 76 = .ok (.iadd, 1) := by decide +kernel
theorem dX0_meetAt_77 : decode cX0_meetAt 77 = .ok (.putfield 41, 3) := by decide +kernel
theorem dX0_meetAt_80 : decode cX0_meetAt 80 = .ok (.goto 38, 3) := by decide +kernel
theorem dX0_meetAt_83 : decode cX0_meetAt 83 = .ok (.aload_n 0, 1) := by decide +kernel
theorem dX0_meetAt_84 : decode cX0_meetAt 84 = .ok (.getfield 18, 3) := by decide +kernel
theorem dX0_meetAt_87 : decode cX0_meetAt 87 = .ok (.getfield 148, 3) := by decide +kernel
theorem dX0_meetAt_90 : decode cX0_meetAt 90 = .ok (.aload_n 0, 1) := by decide +kernel
theorem dX0_meetAt_91 : decode cX0_meetAt 91 = .ok (.getfield 12, 3) := by decide +kernel
theorem dX0_meetAt_94 : decode cX0_meetAt 94 = .ok (.getfield 148, 3) := by decide +kernel
theorem dX0_meetAt_97 : decode cX0_meetAt 97 = .ok (.if_icmp .ge 21, 3) := by decide +kernel
theorem dX0_meetAt_100 : decode cX0_meetAt 100 = .ok (.aload_n 0, 1) := by decide +kernel
theorem dX0_meetAt_101 : decode cX0_meetAt 101 = .ok (.iconst 1, 1) := by decide +kernel
theorem dX0_meetAt_102 : decode cX0_meetAt 102 = .ok (.putfield 73, 3) := by decide +kernel
theorem dX0_meetAt_105 : decode cX0_meetAt 105 = .ok (.aload_n 0, 1) := by decide +kernel
theorem dX0_meetAt_106 : decode cX0_meetAt 106 = .ok (.getfield 18, 3) := by decide +kernel
theorem dX0_meetAt_109 : decode cX0_meetAt 109 = .ok (.dup, 1) := by decide +kernel
theorem dX0_meetAt_110 : decode cX0_meetAt 110 = .ok (.getfield 41, 3) := by decide +kernel
theorem dX0_meetAt_113 : decode cX0_meetAt 113 = .ok (.iconst 1, 1) := by decide +kernel
theorem dX0_meetAt_114 : decode cX0_meetAt 114 = .ok (.iadd, 1) := by decide +kernel
theorem dX0_meetAt_115 : decode cX0_meetAt 115 = .ok (.putfield 41, 3) := by decide +kernel
theorem dX0_meetAt_118 : decode cX0_meetAt 118 = .ok (.return_, 1) := by decide +kernel
set_option maxRecDepth 20000 in
theorem ggX0_reasonAgainstDam_X0_contentOf : GoodIn wsX0_reasonAgainstDam wsX0_contentOf := goodIn_r _ [7, 8, 9, 10, 11, 12, 6, 13, 14, 15, 16, 17, 18, 19, 20, 21, 22, 23, 60, 61, 62, 63, 64, 65, 66, 67, 68, 69, 70, 71, 72, 73, 74, 75, 76, 77, 78, 79] (by decide +kernel) (by decide +kernel)
set_option maxRecDepth 20000 in
theorem gX0_reasonAgainstDam_X0_contentOf : GoodIn wsX0_reasonAgainstDam (wsV RX0 151 RX0 yX0_contentOf wsX0_contentOf) := goodIn_app (goodIn_of _ (by decide +kernel)) ggX0_reasonAgainstDam_X0_contentOf
set_option maxRecDepth 20000 in
theorem ggX0_reasonAgainstDam_X0_sideOf : GoodIn wsX0_reasonAgainstDam wsX0_sideOf := goodIn_r _ [27, 8, 9, 60, 61, 62, 63, 64, 65, 66, 67, 68, 69, 70, 71] (by decide +kernel) (by decide +kernel)
set_option maxRecDepth 20000 in
theorem gX0_reasonAgainstDam_X0_sideOf : GoodIn wsX0_reasonAgainstDam (wsV RX0 113 RX0 yX0_sideOf wsX0_sideOf) := goodIn_app (goodIn_of _ (by decide +kernel)) ggX0_reasonAgainstDam_X0_sideOf
set_option maxRecDepth 20000 in
theorem ggX0_reasonAgainstDam_X5_isShutIn : GoodIn wsX0_reasonAgainstDam wsX5_isShutIn := goodIn_r _ [32, 33, 34, 35, 25, 26, 6, 27, 8, 9, 36, 37, 38, 31, 39, 40, 41, 15, 16, 17, 42, 43, 44, 21, 45, 46, 47, 48, 49, 50, 51, 52, 53, 54, 55, 56, 57, 58, 59, 19, 20, 22, 23, 80, 81, 82, 83, 84, 85, 60, 61, 62, 63, 64, 65, 66, 67, 68, 69, 70, 71, 72, 73, 74, 75, 76, 77, 78, 79] (by decide +kernel) (by decide +kernel)
set_option maxRecDepth 20000 in
theorem gX0_reasonAgainstDam_X5_isShutIn : GoodIn wsX0_reasonAgainstDam (wsV RX0 157 RX5 yX5_isShutIn wsX5_isShutIn) := goodIn_app (goodIn_of _ (by decide +kernel)) ggX0_reasonAgainstDam_X5_isShutIn
theorem dX0_reasonAgainstDam_0 : decode cX0_reasonAgainstDam 0 = .ok (.aload_n 0, 1) := by decide +kernel
theorem dX0_reasonAgainstDam_1 : decode cX0_reasonAgainstDam 1 = .ok (.iload_n 1, 1) := by decide +kernel
theorem dX0_reasonAgainstDam_2 : decode cX0_reasonAgainstDam 2 = .ok (.invokevirtual 151, 3) := by decide +kernel
theorem dX0_reasonAgainstDam_5 : decode cX0_reasonAgainstDam 5 = .ok (.ifCond .eq 5, 3) := by decide +kernel
theorem dX0_reasonAgainstDam_8 : decode cX0_reasonAgainstDam 8 = .ok (.iconst 1, 1) := by decide +kernel
theorem dX0_reasonAgainstDam_9 : decode cX0_reasonAgainstDam 9 = .ok (.ireturn, 1) := by decide +kernel
theorem dX0_reasonAgainstDam_10 : decode cX0_reasonAgainstDam 10 = .ok (.aload_n 0, 1) := by decide +kernel
theorem dX0_reasonAgainstDam_11 : decode cX0_reasonAgainstDam 11 = .ok (.aload_n 0, 1) := by decide +kernel
theorem dX0_reasonAgainstDam_12 : decode cX0_reasonAgainstDam 12 = .ok (.getfield 67, 3) := by decide +kernel
theorem dX0_reasonAgainstDam_15 : decode cX0_reasonAgainstDam 15 = .ok (.invokevirtual 113, 3) := by decide +kernel
theorem dX0_reasonAgainstDam_18 : decode cX0_reasonAgainstDam 18 = .ok (.getfield 154, 3) := by decide +kernel
theorem dX0_reasonAgainstDam_21 : decode cX0_reasonAgainstDam 21 = .ok (.iconst 3, 1) := by decide +kernel
theorem dX0_reasonAgainstDam_22 : decode cX0_reasonAgainstDam 22 = .ok (.if_icmp .lt 5, 3) := by decide +kernel
theorem dX0_reasonAgainstDam_25 : decode cX0_reasonAgainstDam 25 = .ok (.iconst 2, 1) := by decide +kernel
theorem dX0_reasonAgainstDam_26 : decode cX0_reasonAgainstDam 26 = .ok (.ireturn, 1) := by decide +kernel
theorem dX0_reasonAgainstDam_27 : decode cX0_reasonAgainstDam 27 = .ok (.aload_n 2, 1) := by decide +kernel
theorem dX0_reasonAgainstDam_28 : decode cX0_reasonAgainstDam 28 = .ok (.aload_n 0, 1) := by decide +kernel
theorem dX0_reasonAgainstDam_29 : decode cX0_reasonAgainstDam 29 = .ok (.iconst 0, 1) := by decide +kernel
theorem dX0_reasonAgainstDam_30 : decode cX0_reasonAgainstDam 30 = .ok (.iload_n 1, 1) := by decide +kernel
theorem dX0_reasonAgainstDam_31 : decode cX0_reasonAgainstDam 31 = .ok (.invokevirtual 157, 3) := by decide +kernel
theorem dX0_reasonAgainstDam_34 : decode cX0_reasonAgainstDam 34 = .ok (.ifCond .ne 13, 3) := by decide +kernel
theorem dX0_reasonAgainstDam_37 : decode cX0_reasonAgainstDam 37 = .ok (.aload_n 2, 1) := by decide +kernel
theorem dX0_reasonAgainstDam_38 : decode cX0_reasonAgainstDam 38 = .ok (.aload_n 0, 1) := by decide +kernel
theorem dX0_reasonAgainstDam_39 : decode cX0_reasonAgainstDam 39 = .ok (.iconst 1, 1) := by decide +kernel
theorem dX0_reasonAgainstDam_40 : decode cX0_reasonAgainstDam 40 = .ok (.iload_n 1, 1) := by decide +kernel
theorem dX0_reasonAgainstDam_41 : decode cX0_reasonAgainstDam 41 = .ok (.invokevirtual 157, 3) := by decide +kernel
theorem dX0_reasonAgainstDam_44 : decode cX0_reasonAgainstDam 44 = .ok (.ifCond .eq 7, 3) := by decide +kernel
theorem dX0_reasonAgainstDam_47 : decode cX0_reasonAgainstDam 47 = .ok (.iconst 3, 1) := by decide +kernel
theorem dX0_reasonAgainstDam_48 : decode cX0_reasonAgainstDam 48 = .ok (.goto 4, 3) := by decide +kernel
theorem dX0_reasonAgainstDam_51 : decode cX0_reasonAgainstDam 51 = .ok (.iconst 0, 1) := by decide +kernel
theorem dX0_reasonAgainstDam_52 : decode cX0_reasonAgainstDam 52 = .ok (.ireturn, 1) := by decide +kernel
set_option maxRecDepth 20000 in
theorem ggX0_tryDam_X0_reasonAgainstDam : GoodIn wsX0_tryDam wsX0_reasonAgainstDam := goodIn_r _ [6, 7, 8, 9, 10, 11, 5, 12, 13, 14, 15, 16, 17, 18, 19, 20, 21, 22, 23, 24, 25, 26, 27, 28, 29, 30, 31, 32, 33, 34, 35, 36, 37, 38, 39, 40, 41, 42, 43, 44, 45, 46, 47, 48, 49, 50, 51, 52, 53, 54, 55, 56, 57, 58, 59, 60, 61, 62, 63, 64, 75, 76, 77, 78, 79, 80, 81, 82, 83, 84, 85, 86, 87, 88, 89, 90, 91, 92, 93, 94, 95, 96, 97, 98, 99, 100] (by decide +kernel) (by decide +kernel)
set_option maxRecDepth 20000 in
theorem gX0_tryDam_X0_reasonAgainstDam : GoodIn wsX0_tryDam (wsV RX0 163 RX0 yX0_reasonAgainstDam wsX0_reasonAgainstDam) := goodIn_app (goodIn_of _ (by decide +kernel)) ggX0_tryDam_X0_reasonAgainstDam
set_option maxRecDepth 20000 in
theorem ggX0_tryDam_X0_buildDam : GoodIn wsX0_tryDam wsX0_buildDam := goodIn_r _ [68, 19, 7, 8, 20, 21, 22, 29, 30, 31, 5, 32, 13, 14, 69, 70, 71, 72, 73, 74, 75, 76, 77, 78, 79, 80, 81, 82, 83, 84, 85, 86, 87, 88, 89, 90, 91, 92, 93, 94] (by decide +kernel) (by decide +kernel)
set_option maxRecDepth 20000 in
theorem gX0_tryDam_X0_buildDam : GoodIn wsX0_tryDam (wsV RX0 167 RX0 yX0_buildDam wsX0_buildDam) := goodIn_app (goodIn_of _ (by decide +kernel)) ggX0_tryDam_X0_buildDam
theorem dX0_tryDam_0 : decode cX0_tryDam 0 = .ok (.aload_n 0, 1) := by decide +kernel
theorem dX0_tryDam_1 : decode cX0_tryDam 1 = .ok (.iload_n 1, 1) := by decide +kernel
theorem dX0_tryDam_2 : decode cX0_tryDam 2 = .ok (.aload_n 2, 1) := by decide +kernel
theorem dX0_tryDam_3 : decode cX0_tryDam 3 = .ok (.invokevirtual 163, 3) := by decide +kernel
theorem dX0_tryDam_6 : decode cX0_tryDam 6 = .ok (.istore_n 3, 1) := by decide +kernel
theorem dX0_tryDam_7 : decode cX0_tryDam 7 = .ok (.iload_n 3, 1) := by decide +kernel
theorem dX0_tryDam_8 : decode cX0_tryDam 8 = .ok (.ifCond .ne 11, 3) := by decide +kernel
theorem dX0_tryDam_11 : decode cX0_tryDam 11 = .ok (.aload_n 0, 1) := by decide +kernel
theorem dX0_tryDam_12 : decode cX0_tryDam 12 = .ok (.iload_n 1, 1) := by decide +kernel
theorem dX0_tryDam_13 : decode cX0_tryDam 13 = .ok (.invokevirtual 167, 3) := by decide +kernel
theorem dX0_tryDam_16 : decode cX0_tryDam 16 = .ok (.goto 13, 3) := by decide +kernel
theorem dX0_tryDam_19 : decode cX0_tryDam 19 = .ok (.aload_n 0, 1) := by decide +kernel
theorem dX0_tryDam_20 : decode cX0_tryDam 20 = .ok (.dup, 1) := by decide +kernel
theorem dX0_tryDam_21 : decode cX0_tryDam 21 = .ok (.getfield 35, 3) := by decide +kernel
theorem dX0_tryDam_24 : decode cX0_tryDam 24 = .ok (.iconst 1, 1) := by decide +kernel
theorem dX0_tryDam_25 : decode cX0_tryDam 25 = .ok (.iadd, 1) := by decide +kernel
theorem dX0_tryDam_26 : decode cX0_tryDam 26 = .ok (.putfield 35, 3) := by decide +kernel
theorem dX0_tryDam_29 : decode cX0_tryDam 29 = .ok (.iload_n 3, 1) := by decide +kernel
theorem dX0_tryDam_30 : decode cX0_tryDam 30 = .ok (.ireturn, 1) := by decide +kernel
set_option maxRecDepth 20000 in
theorem ggX0_damIfPossible_X6_fits : GoodIn wsX0_damIfPossible wsX6_fits := goodIn_r _ [3] (by decide +kernel) (by decide +kernel)
set_option maxRecDepth 20000 in
theorem gX0_damIfPossible_X6_fits_n91 : GoodIn wsX0_damIfPossible (wsX6_fits) := ggX0_damIfPossible_X6_fits
set_option maxRecDepth 20000 in
theorem ggX0_damIfPossible_X0_isOver : GoodIn wsX0_damIfPossible wsX0_isOver := goodIn_r _ [8, 9, 10, 11, 7, 12, 13, 14, 83, 84, 85, 86, 87, 88, 89, 90, 91, 92, 93, 94] (by decide +kernel) (by decide +kernel)
set_option maxRecDepth 20000 in
theorem gX0_damIfPossible_X0_isOver : GoodIn wsX0_damIfPossible (wsV RX0 129 RX0 yX0_isOver wsX0_isOver) := goodIn_app (goodIn_of _ (by decide +kernel)) ggX0_damIfPossible_X0_isOver
set_option maxRecDepth 20000 in
theorem ggX0_damIfPossible_X0_reasonAgainstDam : GoodIn wsX0_damIfPossible wsX0_reasonAgainstDam := goodIn_r _ [18, 19, 20, 21, 22, 23, 7, 24, 25, 26, 27, 28, 29, 30, 31, 1, 2, 3, 32, 33, 34, 35, 36, 37, 38, 39, 40, 41, 42, 43, 44, 45, 46, 47, 48, 49, 50, 51, 52, 53, 54, 55, 56, 57, 58, 59, 60, 61, 62, 63, 64, 65, 66, 67, 68, 69, 70, 71, 72, 73, 83, 84, 85, 86, 87, 88, 89, 90, 91, 92, 93, 94, 95, 96, 97, 98, 99, 100, 101, 102, 103, 104, 105, 106, 107, 108] (by decide +kernel) (by decide +kernel)
set_option maxRecDepth 20000 in
theorem gX0_damIfPossible_X0_reasonAgainstDam : GoodIn wsX0_damIfPossible (wsV RX0 163 RX0 yX0_reasonAgainstDam wsX0_reasonAgainstDam) := goodIn_app (goodIn_of _ (by decide +kernel)) ggX0_damIfPossible_X0_reasonAgainstDam
set_option maxRecDepth 20000 in
theorem ggX0_damIfPossible_X0_buildDam : GoodIn wsX0_damIfPossible wsX0_buildDam := goodIn_r _ [77, 31, 19, 20, 1, 2, 3, 38, 39, 40, 7, 41, 25, 26, 78, 79, 80, 81, 14, 82, 83, 84, 85, 86, 87, 88, 89, 90, 91, 92, 93, 94, 95, 96, 97, 98, 99, 100, 101, 102] (by decide +kernel) (by decide +kernel)
set_option maxRecDepth 20000 in
theorem gX0_damIfPossible_X0_buildDam : GoodIn wsX0_damIfPossible (wsV RX0 167 RX0 yX0_buildDam wsX0_buildDam) := goodIn_app (goodIn_of _ (by decide +kernel)) ggX0_damIfPossible_X0_buildDam
theorem dX0_damIfPossible_0 : decode cX0_damIfPossible 0 = .ok (.iload_n 1, 1) := by decide +kernel
theorem dX0_damIfPossible_1 : decode cX0_damIfPossible 1 = .ok (.invokestatic 91, 3) := by decide +kernel
theorem dX0_damIfPossible_4 : decode cX0_damIfPossible 4 = .ok (.ifCond .eq 19, 3) := by decide +kernel
theorem dX0_damIfPossible_7 : decode cX0_damIfPossible 7 = .ok (.aload_n 0, 1) := by decide +kernel
theorem dX0_damIfPossible_8 : decode cX0_damIfPossible 8 = .ok (.invokevirtual 129, 3) := by decide +kernel
theorem dX0_damIfPossible_11 : decode cX0_damIfPossible 11 = .ok (.ifCond .ne 12, 3) := by decide +kernel
theorem dX0_damIfPossible_14 : decode cX0_damIfPossible 14 = .ok (.aload_n 0, 1) := by decide +kernel
theorem dX0_damIfPossible_15 : decode cX0_damIfPossible 15 = .ok (.iload_n 1, 1) := by decide +kernel
theorem dX0_damIfPossible_16 : decode cX0_damIfPossible 16 = .ok (.aload_n 2, 1) := by decide +kernel
theorem dX0_damIfPossible_17 : decode cX0_damIfPossible 17 = .ok (.invokevirtual 163, 3) := by decide +kernel
theorem dX0_damIfPossible_20 : decode cX0_damIfPossible 20 = .ok (.ifCond .eq 5, 3) := by decide +kernel
theorem dX0_damIfPossible_23 : decode cX0_damIfPossible 23 = .ok (.iconst 0, 1) := by decide +kernel
theorem dX0_damIfPossible_24 : decode cX0_damIfPossible 24 = .ok (.ireturn, 1) := by decide +kernel
theorem dX0_damIfPossible_25 : decode cX0_damIfPossible 25 = .ok (.aload_n 0, 1) := by decide +kernel
theorem dX0_damIfPossible_26 : decode cX0_damIfPossible 26 = .ok (.iload_n 1, 1) := by decide +kernel
theorem dX0_damIfPossible_27 : decode cX0_damIfPossible 27 = .ok (.invokevirtual 167, 3) := by decide +kernel
theorem dX0_damIfPossible_30 : decode cX0_damIfPossible 30 = .ok (.iconst 1, 1) := by decide +kernel
theorem dX0_damIfPossible_31 : decode cX0_damIfPossible 31 = .ok (.ireturn, 1) := by decide +kernel
set_option maxRecDepth 20000 in
theorem ggX0_buildDam_X6_fits : GoodIn wsX0_buildDam wsX6_fits := goodIn_r _ [6] (by decide +kernel) (by decide +kernel)
set_option maxRecDepth 20000 in
theorem gX0_buildDam_X6_fits_n91 : GoodIn wsX0_buildDam (wsX6_fits) := ggX0_buildDam_X6_fits
set_option maxRecDepth 20000 in
theorem ggX0_buildDam_X0_sideOf : GoodIn wsX0_buildDam wsX0_sideOf := goodIn_r _ [11, 12, 13, 20, 21, 22, 23, 24, 25, 26, 27, 28, 29, 30, 31] (by decide +kernel) (by decide +kernel)
set_option maxRecDepth 20000 in
theorem gX0_buildDam_X0_sideOf : GoodIn wsX0_buildDam (wsV RX0 113 RX0 yX0_sideOf wsX0_sideOf) := goodIn_app (goodIn_of _ (by decide +kernel)) ggX0_buildDam_X0_sideOf
set_option maxRecDepth 20000 in
theorem ggX0_buildDam_X0_endTurn : GoodIn wsX0_buildDam wsX0_endTurn := goodIn_r _ [17, 18, 2, 1, 19, 20, 21, 22, 23, 24, 25, 26, 27, 28, 29, 30, 31] (by decide +kernel) (by decide +kernel)
set_option maxRecDepth 20000 in
theorem gX0_buildDam_X0_endTurn : GoodIn wsX0_buildDam (wsV RX0 145 RX0 yX0_endTurn wsX0_endTurn) := goodIn_app (goodIn_of _ (by decide +kernel)) ggX0_buildDam_X0_endTurn
theorem dX0_buildDam_0 : decode cX0_buildDam 0 = .ok (.iload_n 1, 1) := by decide +kernel
theorem dX0_buildDam_1 : decode cX0_buildDam 1 = .ok (.invokestatic 91, 3) := by decide +kernel
theorem dX0_buildDam_4 : decode cX0_buildDam 4 = .ok (.ifCond .eq 10, 3) := by decide +kernel
theorem dX0_buildDam_7 : decode cX0_buildDam 7 = .ok (.aload_n 0, 1) := by decide +kernel
theorem dX0_buildDam_8 : decode cX0_buildDam 8 = .ok (.getfield 21, 3) := by decide +kernel
theorem dX0_buildDam_11 : decode cX0_buildDam 11 = .ok (.iload_n 1, 1) := by decide +kernel
theorem dX0_buildDam_12 : decode cX0_buildDam 12 = .ok (.iconst 0, 1) := by decide +kernel
theorem dX0_buildDam_13 : decode cX0_buildDam 13 = .ok (.iastore, 1) := by decide +kernel
theorem dX0_buildDam_14 : decode cX0_buildDam 14 = .ok (.aload_n 0, 1) := by decide +kernel
theorem dX0_buildDam_15 : decode cX0_buildDam 15 = .ok (.aload_n 0, 1) := by decide +kernel
theorem dX0_buildDam_16 : decode cX0_buildDam 16 = .ok (.getfield 67, 3) := by decide +kernel
theorem dX0_buildDam_19 : decode cX0_buildDam 19 = .ok (.invokevirtual 113, 3) := by decide +kernel
theorem dX0_buildDam_22 : decode cX0_buildDam 22 = .ok (.dup, 1) := by decide +kernel
theorem dX0_buildDam_23 : decode cX0_buildDam 23 = .ok (.getfield 154, 3) := by decide +kernel
theorem dX0_buildDam_26 : decode cX0_buildDam 26 = .ok (.iconst 1, 1) := by decide +kernel
theorem dX0_buildDam_27 : decode cX0_buildDam 27 = .ok (.iadd, 1) := by decide +kernel
theorem dX0_buildDam_28 : decode cX0_buildDam 28 = .ok (.putfield 154, 3) := by decide +kernel
theorem dX0_buildDam_31 : decode cX0_buildDam 31 = .ok (.aload_n 0, 1) := by decide +kernel
theorem dX0_buildDam_32 : decode cX0_buildDam 32 = .ok (.invokevirtual 145, 3) := by decide +kernel
theorem dX0_buildDam_35 : decode cX0_buildDam 35 = .ok (.return_, 1) := by decide +kernel
set_option maxRecDepth 20000 in
theorem ggX0_canFlood_X0_isOver : GoodIn wsX0_canFlood wsX0_isOver := goodIn_r _ [5, 6, 7, 8, 4, 9, 10, 11, 49, 50, 51, 52, 53, 54, 55, 56, 57, 58, 59, 60] (by decide +kernel) (by decide +kernel)
set_option maxRecDepth 20000 in
theorem gX0_canFlood_X0_isOver : GoodIn wsX0_canFlood (wsV RX0 129 RX0 yX0_isOver wsX0_isOver) := goodIn_app (goodIn_of _ (by decide +kernel)) ggX0_canFlood_X0_isOver
set_option maxRecDepth 20000 in
theorem ggX0_canFlood_X0_reasonAgainstStep : GoodIn wsX0_canFlood wsX0_reasonAgainstStep := goodIn_r _ [15, 16, 17, 18, 19, 4, 20, 21, 22, 23, 24, 25, 26, 27, 28, 29, 30, 31, 32, 33, 34, 35, 36, 37, 38, 39, 40, 41, 42, 43, 44, 45, 46, 47, 48, 49, 50, 51, 52, 53, 54, 55, 56, 57, 58, 59, 60, 61, 62, 63, 64, 65, 66, 67, 68] (by decide +kernel) (by decide +kernel)
set_option maxRecDepth 20000 in
theorem gX0_canFlood_X0_reasonAgainstStep : GoodIn wsX0_canFlood (wsV RX0 123 RX0 yX0_reasonAgainstStep wsX0_reasonAgainstStep) := goodIn_app (goodIn_of _ (by decide +kernel)) ggX0_canFlood_X0_reasonAgainstStep
theorem dX0_canFlood_0 : decode cX0_canFlood 0 = .ok (.aload_n 0, 1) := by decide +kernel
theorem dX0_canFlood_1 : decode cX0_canFlood 1 = .ok (.invokevirtual 129, 3) := by decide +kernel
theorem dX0_canFlood_4 : decode cX0_canFlood 4 = .ok (.ifCond .eq 5, 3) := by decide +kernel
theorem dX0_canFlood_7 : decode cX0_canFlood 7 = .ok (.iconst 0, 1) := by decide +kernel
theorem dX0_canFlood_8 : decode cX0_canFlood 8 = .ok (.ireturn, 1) := by decide +kernel
theorem dX0_canFlood_9 : decode cX0_canFlood 9 = .ok (.iconst 0, 1) := by decide +kernel
theorem dX0_canFlood_10 : decode cX0_canFlood 10 = .ok (.istore_n 1, 1) := by decide +kernel
theorem dX0_canFlood_11 : decode cX0_canFlood 11 = .ok (.iload_n 1, 1) := by decide +kernel
theorem dX0_canFlood_12 : decode cX0_canFlood 12 = .ok (.iconst 3, 1) := by decide +kernel
theorem dX0_canFlood_13 : decode cX0_canFlood 13 = .ok (.if_icmp .ge 19, 3) := by decide +kernel
theorem dX0_canFlood_16 : decode cX0_canFlood 16 = .ok (.aload_n 0, 1) := by decide +kernel
theorem dX0_canFlood_17 : decode cX0_canFlood 17 = .ok (.iload_n 1, 1) := by decide +kernel
theorem dX0_canFlood_18 : decode cX0_canFlood 18 = .ok (.invokevirtual 123, 3) := by decide +kernel
theorem dX0_canFlood_21 : decode cX0_canFlood 21 = .ok (.ifCond .ne 5, 3) := by decide +kernel
theorem dX0_canFlood_24 : decode cX0_canFlood 24 = .ok (.iconst 0, 1) := by decide +kernel
theorem dX0_canFlood_25 : decode cX0_canFlood 25 = .ok (.ireturn, 1) := by decide +kernel
theorem dX0_canFlood_26 : decode cX0_canFlood 26 = .ok (.iinc 1 1, 3) := by decide +kernel
theorem dX0_canFlood_29 : decode cX0_canFlood 29 = .ok (.goto (-18), 3) := by decide +kernel
theorem dX0_canFlood_32 : decode cX0_canFlood 32 = .ok (.iconst 1, 1) := by decide +kernel
theorem dX0_canFlood_33 : decode cX0_canFlood 33 = .ok (.ireturn, 1) := by decide +kernel
set_option maxRecDepth 20000 in
theorem ggX0_floodIfPossible_X0_canFlood : GoodIn wsX0_floodIfPossible wsX0_canFlood := goodIn_r _ [5, 6, 7, 8, 4, 9, 10, 11, 12, 13, 14, 15, 16, 17, 18, 19, 20, 21, 22, 23, 24, 25, 26, 27, 28, 29, 30, 31, 32, 33, 34, 35, 36, 37, 38, 39, 40, 41, 42, 43, 44, 45, 46, 47, 48, 49, 50, 51, 52, 69, 70, 71, 72, 73, 74, 75, 76, 77, 78, 79, 80, 81, 82, 83, 84, 85, 86, 87, 88] (by decide +kernel) (by decide +kernel)
set_option maxRecDepth 20000 in
theorem gX0_floodIfPossible_X0_canFlood : GoodIn wsX0_floodIfPossible (wsV RX0 170 RX0 yX0_canFlood wsX0_canFlood) := goodIn_app (goodIn_of _ (by decide +kernel)) ggX0_floodIfPossible_X0_canFlood
set_option maxRecDepth 20000 in
theorem ggX0_floodIfPossible_X0_washAway : GoodIn wsX0_floodIfPossible wsX0_washAway := goodIn_r _ [56, 20, 47, 57, 21, 22, 23, 4, 24, 25, 26, 27, 28, 29, 30, 31, 32, 33, 34, 35, 36, 37, 38, 39, 40, 41, 42, 58, 59, 60, 61, 62, 63, 64, 65, 66, 67, 15, 68, 69, 70, 71, 72, 73, 74, 75, 76, 77, 78, 79, 80, 81, 82, 83, 84, 85, 86, 87, 88] (by decide +kernel) (by decide +kernel)
set_option maxRecDepth 20000 in
theorem gX0_floodIfPossible_X0_washAway : GoodIn wsX0_floodIfPossible (wsV RX0 173 RX0 yX0_washAway wsX0_washAway) := goodIn_app (goodIn_of _ (by decide +kernel)) ggX0_floodIfPossible_X0_washAway
theorem dX0_floodIfPossible_0 : decode cX0_floodIfPossible 0 = .ok (.aload_n 0, 1) := by decide +kernel
theorem dX0_floodIfPossible_1 : decode cX0_floodIfPossible 1 = .ok (.invokevirtual 170, 3) := by decide +kernel
theorem dX0_floodIfPossible_4 : decode cX0_floodIfPossible 4 = .ok (.ifCond .ne 5, 3) := by decide +kernel
theorem dX0_floodIfPossible_7 : decode cX0_floodIfPossible 7 = .ok (.iconst 0, 1) := by decide +kernel
theorem dX0_floodIfPossible_8 : decode cX0_floodIfPossible 8 = .ok (.ireturn, 1) := by decide +kernel
theorem dX0_floodIfPossible_9 : decode cX0_floodIfPossible 9 = .ok (.aload_n 0, 1) := by decide +kernel
theorem dX0_floodIfPossible_10 : decode cX0_floodIfPossible 10 = .ok (.invokevirtual 173, 3) := by decide +kernel
theorem dX0_floodIfPossible_13 : decode cX0_floodIfPossible 13 = .ok (.pop, 1) := by decide +kernel
theorem dX0_floodIfPossible_14 : decode cX0_floodIfPossible 14 = .ok (.iconst 1, 1) := by decide +kernel
theorem dX0_floodIfPossible_15 : decode cX0_floodIfPossible 15 = .ok (.ireturn, 1) := by decide +kernel
set_option maxRecDepth 20000 in
theorem ggX0_washAway_X0_sideOf : GoodIn wsX0_washAway wsX0_sideOf := goodIn_r _ [8, 9, 10, 39, 40, 41, 42, 43, 44, 45, 46, 47, 48, 49, 50] (by decide +kernel) (by decide +kernel)
set_option maxRecDepth 20000 in
theorem gX0_washAway_X0_sideOf : GoodIn wsX0_washAway (wsV RX0 113 RX0 yX0_sideOf wsX0_sideOf) := goodIn_app (goodIn_of _ (by decide +kernel)) ggX0_washAway_X0_sideOf
set_option maxRecDepth 20000 in
theorem ggX0_washAway_X2_head : GoodIn wsX0_washAway wsX2_head := goodIn_r _ [15, 16, 17, 51, 52, 53, 54, 55, 56, 57, 58] (by decide +kernel) (by decide +kernel)
set_option maxRecDepth 20000 in
theorem gX0_washAway_X2_head : GoodIn wsX0_washAway (wsV RX0 117 RX2 yX2_head wsX2_head) := goodIn_app (goodIn_of _ (by decide +kernel)) ggX0_washAway_X2_head
set_option maxRecDepth 20000 in
theorem ggX0_washAway_X6_cellBeside : GoodIn wsX0_washAway wsX6_cellBeside := goodIn_r _ [20, 21, 22, 19, 23, 24, 25, 26] (by decide +kernel) (by decide +kernel)
set_option maxRecDepth 20000 in
theorem gX0_washAway_X6_cellBeside_n120 : GoodIn wsX0_washAway (wsX6_cellBeside) := ggX0_washAway_X6_cellBeside
set_option maxRecDepth 20000 in
theorem ggX0_washAway_X6_fits : GoodIn wsX0_washAway wsX6_fits := goodIn_r _ [23] (by decide +kernel) (by decide +kernel)
set_option maxRecDepth 20000 in
theorem gX0_washAway_X6_fits_n91 : GoodIn wsX0_washAway (wsX6_fits) := ggX0_washAway_X6_fits
set_option maxRecDepth 20000 in
theorem ggX0_washAway_X2_pay : GoodIn wsX0_washAway wsX2_pay := goodIn_r _ [30, 31, 32, 51, 52, 53, 54, 55, 56, 57, 58] (by decide +kernel) (by decide +kernel)
set_option maxRecDepth 20000 in
theorem gX0_washAway_X2_pay : GoodIn wsX0_washAway (wsV RX0 142 RX2 yX2_pay wsX2_pay) := goodIn_app (goodIn_of _ (by decide +kernel)) ggX0_washAway_X2_pay
set_option maxRecDepth 20000 in
theorem ggX0_washAway_X0_endTurn : GoodIn wsX0_washAway wsX0_endTurn := goodIn_r _ [36, 37, 1, 2, 38, 39, 40, 41, 42, 43, 44, 45, 46, 47, 48, 49, 50] (by decide +kernel) (by decide +kernel)
set_option maxRecDepth 20000 in
theorem gX0_washAway_X0_endTurn : GoodIn wsX0_washAway (wsV RX0 145 RX0 yX0_endTurn wsX0_endTurn) := goodIn_app (goodIn_of _ (by decide +kernel)) ggX0_washAway_X0_endTurn
theorem dX0_washAway_0 : decode cX0_washAway 0 = .ok (.aload_n 0, 1) := by decide +kernel
theorem dX0_washAway_1 : decode cX0_washAway 1 = .ok (.aload_n 0, 1) := by decide +kernel
theorem dX0_washAway_2 : decode cX0_washAway 2 = .ok (.getfield 67, 3) := by decide +kernel
theorem dX0_washAway_5 : decode cX0_washAway 5 = .ok (.invokevirtual 113, 3) := by decide +kernel
theorem dX0_washAway_8 : decode cX0_washAway 8 = .ok (.astore_n 1, 1) := by decide +kernel
theorem dX0_washAway_9 : decode cX0_washAway 9 = .ok (.iconst 0, 1) := by decide +kernel
theorem dX0_washAway_10 : decode cX0_washAway 10 = .ok (.istore_n 2, 1) := by decide +kernel
theorem dX0_washAway_11 : decode cX0_washAway 11 = .ok (.iconst 0, 1) := by decide +kernel
theorem dX0_washAway_12 : decode cX0_washAway 12 = .ok (.istore_n 3, 1) := by decide +kernel
theorem dX0_washAway_13 : decode cX0_washAway 13 = .ok (.iload_n 3, 1) := by decide +kernel
theorem dX0_washAway_14 : decode cX0_washAway 14 = .ok (.iconst 3, 1) := by decide +kernel
theorem dX0_washAway_15 : decode cX0_washAway 15 = .ok (.if_icmp .ge 49, 3) := by decide +kernel
theorem dX0_washAway_18 : decode cX0_washAway 18 = .ok (.aload_n 1, 1) := by decide +kernel
theorem dX0_washAway_19 : decode cX0_washAway 19 = .ok (.invokevirtual 117, 3) := by decide +kernel
theorem dX0_washAway_22 : decode cX0_washAway 22 = .ok (.iload_n 3, 1) := by decide +kernel
theorem dX0_washAway_23 : decode cX0_washAway 23 = .ok (.invokestatic 120, 3) := by decide +kernel
theorem dX0_washAway_26 : decode cX0_washAway 26 = .ok (.istore 4, 2) := by decide +kernel
theorem dX0_washAway_28 : decode cX0_washAway 28 = .ok (.iload 4, 2) := by decide +kernel
theorem dX0_washAway_30 : decode cX0_washAway 30 = .ok (.invokestatic 91, 3) := by decide +kernel
theorem dX0_washAway_33 : decode cX0_washAway 33 = .ok (.ifCond .eq 25, 3) := by decide +kernel
theorem dX0_washAway_36 : decode cX0_washAway 36 = .ok (.aload_n 0, 1) := by decide +kernel
theorem dX0_washAway_37 : decode cX0_washAway 37 = .ok (.getfield 21, 3) := by decide +kernel
theorem dX0_washAway_40 : decode cX0_washAway 40 = .ok (.iload 4, 2) := by decide +kernel
theorem dX0_washAway_42 : decode cX0_washAway 42 = .ok (.iaload, 1) := by decide +kernel
theorem dX0_washAway_43 : decode cX0_washAway 43 = .ok (.iconst (-1), 1) := by decide +kernel
theorem dX0_washAway_44 : decode cX0_washAway 44 = .ok (.if_icmp .eq 14, 3) := by decide +kernel
theorem dX0_washAway_47 : decode cX0_washAway 47 = .ok (.aload_n 0, 1) := by decide +kernel
theorem dX0_washAway_48 : decode cX0_washAway 48 = .ok (.getfield 21, 3) := by decide +kernel
theorem dX0_washAway_51 : decode cX0_washAway 51 = .ok (.iload 4, 2) := by decide +kernel
theorem dX0_washAway_53 : decode cX0_washAway 53 = .ok (.iconst (-1), 1) := by decide +kernel
theorem dX0_washAway_54 : decode cX0_washAway 54 = .ok (.iastore, 1) := by decide +kernel
theorem dX0_washAway_55 : decode cX0_washAway 55 = .ok (.iinc 2 1, 3) := by decide +kernel
theorem dX0_washAway_58 : decode cX0_washAway 58 = .ok (.iinc 3 1, 3) := by decide +kernel
theorem dX0_washAway_61 : decode cX0_washAway 61 = .ok (.goto (-48), 3) := by decide +kernel
theorem dX0_washAway_64 : decode cX0_washAway 64 = .ok (.aload_n 1, 1) := by decide +kernel
theorem dX0_washAway_65 : decode cX0_washAway 65 = .ok (.iconst 5, 1) := by decide +kernel
theorem dX0_washAway_66 : decode cX0_washAway 66 = .ok (.invokevirtual 142, 3) := by decide +kernel
theorem dX0_washAway_69 : decode cX0_washAway 69 = .ok (.aload_n 0, 1) := by decide +kernel
theorem dX0_washAway_70 : decode cX0_washAway 70 = .ok (.dup, 1) := by decide +kernel
theorem dX0_washAway_71 : decode cX0_washAway 71 = .ok (.getfield 38, 3) := by decide +kernel
theorem dX0_washAway_74 : decode cX0_washAway 74 = .ok (.iconst 1, 1) := by decide +kernel
theorem dX0_washAway_75 : decode cX0_washAway 75 = .ok (.iadd, 1) := by decide +kernel
theorem dX0_washAway_76 : decode cX0_washAway 76 = .ok (.putfield 38, 3) := by decide +kernel
theorem dX0_washAway_79 : decode cX0_washAway 79 = .ok (.aload_n 0, 1) := by decide +kernel
theorem dX0_washAway_80 : decode cX0_washAway 80 = .ok (.invokevirtual 145, 3) := by decide +kernel
theorem dX0_washAway_83 : decode cX0_washAway 83 = .ok (.iload_n 2, 1) := by decide +kernel
theorem dX0_washAway_84 : decode cX0_washAway 84 = .ok (.ireturn, 1) := by decide +kernel
theorem dX0_endTurn_0 : decode cX0_endTurn 0 = .ok (.aload_n 0, 1) := by decide +kernel
theorem dX0_endTurn_1 : decode cX0_endTurn 1 = .ok (.dup, 1) := by decide +kernel
theorem dX0_endTurn_2 : decode cX0_endTurn 2 = .ok (.getfield 64, 3) := by decide +kernel
theorem dX0_endTurn_5 : decode cX0_endTurn 5 = .ok (.iconst 1, 1) := by decide +kernel
theorem dX0_endTurn_6 : decode cX0_endTurn 6 = .ok (.iadd, 1) := by decide +kernel
theorem dX0_endTurn_7 : decode cX0_endTurn 7 = .ok (.putfield 64, 3) := by decide +kernel
theorem dX0_endTurn_10 : decode cX0_endTurn 10 = .ok (.aload_n 0, 1) := by decide +kernel
theorem dX0_endTurn_11 : decode cX0_endTurn 11 = .ok (.iconst 1, 1) := by decide +kernel
theorem dX0_endTurn_12 : decode cX0_endTurn 12 = .ok (.aload_n 0, 1) := by decide +kernel
theorem dX0_endTurn_13 : decode cX0_endTurn 13 = .ok (.getfield 67, 3) := by decide +kernel
theorem dX0_endTurn_16 : decode cX0_endTurn 16 = .ok (.isub, 1) := by decide +kernel
theorem dX0_endTurn_17 : decode cX0_endTurn 17 = .ok (.putfield 67, 3) := by decide +kernel
theorem dX0_endTurn_20 : decode cX0_endTurn 20 = .ok (.iconst 0, 1) := by decide +kernel
theorem dX0_endTurn_21 : decode cX0_endTurn 21 = .ok (.istore_n 1, 1) := by decide +kernel
theorem dX0_endTurn_22 : decode cX0_endTurn 22 = .ok (.iload_n 1, 1) := by decide +kernel
theorem dX0_endTurn_23 : decode cX0_endTurn 23 = .ok (.bipush 64, 2) := by decide +kernel
theorem dX0_endTurn_25 : decode cX0_endTurn 25 = .ok (.if_icmp .ge 49, 3) := by decide +kernel
theorem dX0_endTurn_28 : decode cX0_endTurn 28 = .ok (.aload_n 0, 1) := by decide +kernel
theorem dX0_endTurn_29 : decode cX0_endTurn 29 = .ok (.getfield 21, 3) := by decide +kernel
theorem dX0_endTurn_32 : decode cX0_endTurn 32 = .ok (.iload_n 1, 1) := by decide +kernel
theorem dX0_endTurn_33 : decode cX0_endTurn 33 = .ok (.iaload, 1) := by decide +kernel
theorem dX0_endTurn_34 : decode cX0_endTurn 34 = .ok (.iconst (-1), 1) := by decide +kernel
theorem dX0_endTurn_35 : decode cX0_endTurn 35 = .ok (.if_icmp .eq 33, 3) := by decide +kernel
theorem dX0_endTurn_38 : decode cX0_endTurn 38 = .ok (.aload_n 0, 1) := by decide +kernel
theorem dX0_endTurn_39 : decode cX0_endTurn 39 = .ok (.getfield 21, 3) := by decide +kernel
theorem dX0_endTurn_42 : decode cX0_endTurn 42 = .ok (.iload_n 1, 1) := by decide +kernel
theorem dX0_endTurn_43 : decode cX0_endTurn 43 = .ok (.dup2, 1) := by decide +kernel
theorem dX0_endTurn_44 : decode cX0_endTurn 44 = .ok (.iaload, 1) := by decide +kernel
theorem dX0_endTurn_45 : decode cX0_endTurn 45 = .ok (.iconst 1, 1) := by decide +kernel
theorem dX0_endTurn_46 : decode cX0_endTurn 46 = .ok (.iadd, 1) := by decide +kernel
theorem dX0_endTurn_47 : decode cX0_endTurn 47 = .ok (.iastore, 1) := by decide +kernel
theorem dX0_endTurn_48 : decode cX0_endTurn 48 = .ok (.aload_n 0, 1) := by decide +kernel
theorem dX0_endTurn_49 : decode cX0_endTurn 49 = .ok (.getfield 21, 3) := by decide +kernel
theorem dX0_endTurn_52 : decode cX0_endTurn 52 = .ok (.iload_n 1, 1) := by decide +kernel
theorem dX0_endTurn_53 : decode cX0_endTurn 53 = .ok (.iaload, 1) := by decide +kernel
theorem dX0_endTurn_54 : decode cX0_endTurn 54 = .ok (.aload_n 0, 1) := by decide +kernel
theorem dX0_endTurn_55 : decode cX0_endTurn 55 = .ok (.getfield 25, 3) := by decide +kernel
theorem dX0_endTurn_58 : decode cX0_endTurn 58 = .ok (.if_icmp .lt 10, 3) := by decide +kernel
theorem dX0_endTurn_61 : decode cX0_endTurn 61 = .ok (.aload_n 0, 1) := by decide +kernel
theorem dX0_endTurn_62 : decode cX0_endTurn 62 = .ok (.getfield 21, 3) := by decide +kernel
theorem dX0_endTurn_65 : decode cX0_endTurn 65 = .ok (.iload_n 1, 1) := by decide +kernel
theorem dX0_endTurn_66 : decode cX0_endTurn 66 = .ok (.iconst (-1), 1) := by decide +kernel
theorem dX0_endTurn_67 : decode cX0_endTurn 67 = .ok (.iastore, 1) := by decide +kernel
theorem dX0_endTurn_68 : decode cX0_endTurn 68 = .ok (.iinc 1 1, 3) := by decide +kernel
theorem dX0_endTurn_71 : decode cX0_endTurn 71 = .ok (.goto (-49), 3) := by decide +kernel
theorem dX0_endTurn_74 : decode cX0_endTurn 74 = .ok (.return_, 1) := by decide +kernel
set_option maxRecDepth 20000 in
theorem ggX0_copyFrom_X2_copyFrom : GoodIn wsX0_copyFrom wsX2_copyFrom := goodIn_r _ [17, 18, 19, 20, 21, 22, 23, 24, 25, 26, 27, 28, 41, 42, 43, 44, 45, 46, 47, 48] (by decide +kernel) (by decide +kernel)
set_option maxRecDepth 20000 in
theorem gX0_copyFrom_X2_copyFrom : GoodIn wsX0_copyFrom (wsV RX0 176 RX2 yX2_copyFrom wsX2_copyFrom) := goodIn_app (goodIn_of _ (by decide +kernel)) ggX0_copyFrom_X2_copyFrom
set_option maxRecDepth 20000 in
theorem ggX0_copyFrom_X6_copyRow : GoodIn wsX0_copyFrom wsX6_copyRow := goodIn_r _ [28] (by decide +kernel) (by decide +kernel)
set_option maxRecDepth 20000 in
theorem gX0_copyFrom_X6_copyRow_n180 : GoodIn wsX0_copyFrom (wsX6_copyRow) := ggX0_copyFrom_X6_copyRow
theorem dX0_copyFrom_0 : decode cX0_copyFrom 0 = .ok (.aload_n 0, 1) := by decide +kernel
theorem dX0_copyFrom_1 : decode cX0_copyFrom 1 = .ok (.getfield 12, 3) := by decide +kernel
theorem dX0_copyFrom_4 : decode cX0_copyFrom 4 = .ok (.aload_n 1, 1) := by decide +kernel
theorem dX0_copyFrom_5 : decode cX0_copyFrom 5 = .ok (.getfield 12, 3) := by decide +kernel
theorem dX0_copyFrom_8 : decode cX0_copyFrom 8 = .ok (.invokevirtual 176, 3) := by decide +kernel
theorem dX0_copyFrom_11 : decode cX0_copyFrom 11 = .ok (.aload_n 0, 1) := by decide +kernel
theorem dX0_copyFrom_12 : decode cX0_copyFrom 12 = .ok (.getfield 18, 3) := by decide +kernel
theorem dX0_copyFrom_15 : decode cX0_copyFrom 15 = .ok (.aload_n 1, 1) := by decide +kernel
theorem dX0_copyFrom_16 : decode cX0_copyFrom 16 = .ok (.getfield 18, 3) := by decide +kernel
theorem dX0_copyFrom_19 : decode cX0_copyFrom 19 = .ok (.invokevirtual 176, 3) := by decide +kernel
theorem dX0_copyFrom_22 : decode cX0_copyFrom 22 = .ok (.aload_n 1, 1) := by decide +kernel
theorem dX0_copyFrom_23 : decode cX0_copyFrom 23 = .ok (.getfield 21, 3) := by decide +kernel
theorem dX0_copyFrom_26 : decode cX0_copyFrom 26 = .ok (.aload_n 0, 1) := by decide +kernel
theorem dX0_copyFrom_27 : decode cX0_copyFrom 27 = .ok (.getfield 21, 3) := by decide +kernel
theorem dX0_copyFrom_30 : decode cX0_copyFrom 30 = .ok (.invokestatic 180, 3) := by decide +kernel
theorem dX0_copyFrom_33 : decode cX0_copyFrom 33 = .ok (.aload_n 0, 1) := by decide +kernel
theorem dX0_copyFrom_34 : decode cX0_copyFrom 34 = .ok (.aload_n 1, 1) := by decide +kernel
theorem dX0_copyFrom_35 : decode cX0_copyFrom 35 = .ok (.getfield 25, 3) := by decide +kernel
theorem dX0_copyFrom_38 : decode cX0_copyFrom 38 = .ok (.putfield 25, 3) := by decide +kernel
theorem dX0_copyFrom_41 : decode cX0_copyFrom 41 = .ok (.aload_n 0, 1) := by decide +kernel
theorem dX0_copyFrom_42 : decode cX0_copyFrom 42 = .ok (.aload_n 1, 1) := by decide +kernel
theorem dX0_copyFrom_43 : decode cX0_copyFrom 43 = .ok (.getfield 29, 3) := by decide +kernel
theorem dX0_copyFrom_46 : decode cX0_copyFrom 46 = .ok (.putfield 29, 3) := by decide +kernel
theorem dX0_copyFrom_49 : decode cX0_copyFrom 49 = .ok (.aload_n 0, 1) := by decide +kernel
theorem dX0_copyFrom_50 : decode cX0_copyFrom 50 = .ok (.aload_n 1, 1) := by decide +kernel
theorem dX0_copyFrom_51 : decode cX0_copyFrom 51 = .ok (.getfield 32, 3) := by decide +kernel
theorem dX0_copyFrom_54 : decode cX0_copyFrom 54 = .ok (.putfield 32, 3) := by decide +kernel
theorem dX0_copyFrom_57 : decode cX0_copyFrom 57 = .ok (.aload_n 0, 1) := by decide +kernel
theorem dX0_copyFrom_58 : decode cX0_copyFrom 58 = .ok (.aload_n 1, 1) := by decide +kernel
theorem dX0_copyFrom_59 : decode cX0_copyFrom 59 = .ok (.getfield 64, 3) := by decide +kernel
theorem dX0_copyFrom_62 : decode cX0_copyFrom 62 = .ok (.putfield 64, 3) := by decide +kernel
theorem dX0_copyFrom_65 : decode cX0_copyFrom 65 = .ok (.aload_n 0, 1) := by decide +kernel
theorem dX0_copyFrom_66 : decode cX0_copyFrom 66 = .ok (.aload_n 1, 1) := by decide +kernel
theorem dX0_copyFrom_67 : decode cX0_copyFrom 67 = .ok (.getfield 67, 3) := by decide +kernel
theorem dX0_copyFrom_70 : decode cX0_copyFrom 70 = .ok (.putfield 67, 3) := by decide +kernel
theorem dX0_copyFrom_73 : decode cX0_copyFrom 73 = .ok (.aload_n 0, 1) := by decide +kernel
theorem dX0_copyFrom_74 : decode cX0_copyFrom 74 = .ok (.aload_n 1, 1) := by decide +kernel
theorem dX0_copyFrom_75 : decode cX0_copyFrom 75 = .ok (.getfield 70, 3) := by decide +kernel
theorem dX0_copyFrom_78 : decode cX0_copyFrom 78 = .ok (.putfield 70, 3) := by decide +kernel
theorem dX0_copyFrom_81 : decode cX0_copyFrom 81 = .ok (.aload_n 0, 1) := by decide +kernel
theorem dX0_copyFrom_82 : decode cX0_copyFrom 82 = .ok (.aload_n 1, 1) := by decide +kernel
theorem dX0_copyFrom_83 : decode cX0_copyFrom 83 = .ok (.getfield 73, 3) := by decide +kernel
theorem dX0_copyFrom_86 : decode cX0_copyFrom 86 = .ok (.putfield 73, 3) := by decide +kernel
theorem dX0_copyFrom_89 : decode cX0_copyFrom 89 = .ok (.aload_n 0, 1) := by decide +kernel
theorem dX0_copyFrom_90 : decode cX0_copyFrom 90 = .ok (.aload_n 1, 1) := by decide +kernel
theorem dX0_copyFrom_91 : decode cX0_copyFrom 91 = .ok (.getfield 35, 3) := by decide +kernel
theorem dX0_copyFrom_94 : decode cX0_copyFrom 94 = .ok (.putfield 35, 3) := by decide +kernel
theorem dX0_copyFrom_97 : decode cX0_copyFrom 97 = .ok (.aload_n 0, 1) := by decide +kernel
theorem dX0_copyFrom_98 : decode cX0_copyFrom 98 = .ok (.aload_n 1, 1) := by decide +kernel
theorem dX0_copyFrom_99 : decode cX0_copyFrom 99 = .ok (.getfield 38, 3) := by decide +kernel
theorem dX0_copyFrom_102 : decode cX0_copyFrom 102 = .ok (.putfield 38, 3) := by decide +kernel
theorem dX0_copyFrom_105 : decode cX0_copyFrom 105 = .ok (.return_, 1) := by decide +kernel
set_option maxRecDepth 20000 in
theorem ggX1_init_X0_init : GoodIn wsX1_init wsX0_init := goodIn_r _ [9, 10, 2, 3, 11, 12, 13, 14, 15, 16, 17, 18, 19, 20, 21, 22, 23, 24, 40, 41, 42, 43, 44, 45, 46, 47, 28, 29, 30, 31, 32, 33, 34, 35, 36, 37, 38, 39] (by decide +kernel) (by decide +kernel)
set_option maxRecDepth 20000 in
theorem gX1_init_X0_init_n17 : GoodIn wsX1_init (wsX0_init) := ggX1_init_X0_init
theorem dX1_init_0 : decode cX1_init 0 = .ok (.aload_n 0, 1) := by decide +kernel
theorem dX1_init_1 : decode cX1_init 1 = .ok (.invokespecial 3, 3) := by decide +kernel
theorem dX1_init_4 : decode cX1_init 4 = .ok (.aload_n 0, 1) := by decide +kernel
theorem dX1_init_5 : decode cX1_init 5 = .ok (.bipush 14, 2) := by decide +kernel
theorem dX1_init_7 : decode cX1_init 7 = .ok (.anewarray 9, 3) := by decide +kernel
theorem dX1_init_10 : decode cX1_init 10 = .ok (.putfield 11, 3) := by decide +kernel
theorem dX1_init_13 : decode cX1_init 13 = .ok (.iconst 0, 1) := by decide +kernel
theorem dX1_init_14 : decode cX1_init 14 = .ok (.istore_n 1, 1) := by decide +kernel
theorem dX1_init_15 : decode cX1_init 15 = .ok (.iload_n 1, 1) := by decide +kernel
theorem dX1_init_16 : decode cX1_init 16 = .ok (.bipush 14, 2) := by decide +kernel
theorem dX1_init_18 : decode cX1_init 18 = .ok (.if_icmp .ge 22, 3) := by decide +kernel
theorem dX1_init_21 : decode cX1_init 21 = .ok (.aload_n 0, 1) := by decide +kernel
theorem dX1_init_22 : decode cX1_init 22 = .ok (.getfield 11, 3) := by decide +kernel
theorem dX1_init_25 : decode cX1_init 25 = .ok (.iload_n 1, 1) := by decide +kernel
theorem dX1_init_26 : decode cX1_init 26 = .ok (.new 9, 3) := by decide +kernel
theorem dX1_init_29 : decode cX1_init 29 = .ok (.dup, 1) := by decide +kernel
theorem dX1_init_30 : decode cX1_init 30 = .ok (.invokespecial 17, 3) := by decide +kernel
theorem dX1_init_33 : decode cX1_init 33 = .ok (.aastore, 1) := by decide +kernel
theorem dX1_init_34 : decode cX1_init 34 = .ok (.iinc 1 1, 3) := by decide +kernel
theorem dX1_init_37 : decode cX1_init 37 = .ok (.goto (-22), 3) := by decide +kernel
theorem dX1_init_40 : decode cX1_init 40 = .ok (.return_, 1) := by decide +kernel
theorem dX1_forgetAll_0 : decode cX1_forgetAll 0 = .ok (.aload_n 0, 1) := by decide +kernel
theorem dX1_forgetAll_1 : decode cX1_forgetAll 1 = .ok (.iconst 0, 1) := by decide +kernel
theorem dX1_forgetAll_2 : decode cX1_forgetAll 2 = .ok (.putfield 18, 3) := by decide +kernel
theorem dX1_forgetAll_5 : decode cX1_forgetAll 5 = .ok (.return_, 1) := by decide +kernel
set_option maxRecDepth 20000 in
theorem ggX1_remember_X1_stateAt : GoodIn wsX1_remember wsX1_stateAt := goodIn_r _ [11, 12, 46, 47, 48] (by decide +kernel) (by decide +kernel)
set_option maxRecDepth 20000 in
theorem gX1_remember_X1_stateAt : GoodIn wsX1_remember (wsV RX1 25 RX1 yX1_stateAt wsX1_stateAt) := goodIn_app (goodIn_of _ (by decide +kernel)) ggX1_remember_X1_stateAt
set_option maxRecDepth 20000 in
theorem ggX1_remember_X0_copyFrom : GoodIn wsX1_remember wsX0_copyFrom := goodIn_r _ [17, 18, 19, 20, 21, 22, 23, 24, 25, 26, 27, 28, 29, 30, 31, 32, 33, 34, 35, 36, 37, 38, 39, 40, 41, 42, 43, 44, 45, 49, 50, 51, 52, 53, 54, 55, 56, 57, 58, 59, 60, 61, 62, 63, 64, 65, 66, 67, 68] (by decide +kernel) (by decide +kernel)
set_option maxRecDepth 20000 in
theorem gX1_remember_X0_copyFrom : GoodIn wsX1_remember (wsV RX1 29 RX0 yX0_copyFrom wsX0_copyFrom) := goodIn_app (goodIn_of _ (by decide +kernel)) ggX1_remember_X0_copyFrom
theorem dX1_remember_0 : decode cX1_remember 0 = .ok (.aload_n 0, 1) := by decide +kernel
theorem dX1_remember_1 : decode cX1_remember 1 = .ok (.aload_n 0, 1) := by decide +kernel
theorem dX1_remember_2 : decode cX1_remember 2 = .ok (.getfield 22, 3) := by decide +kernel
theorem dX1_remember_5 : decode cX1_remember 5 = .ok (.invokevirtual 25, 3) := by decide +kernel
theorem dX1_remember_8 : decode cX1_remember 8 = .ok (.astore_n 2, 1) := by decide +kernel
theorem dX1_remember_9 : decode cX1_remember 9 = .ok (.aload_n 2, 1) := by decide +kernel
theorem dX1_remember_10 : decode cX1_remember 10 = .ok (.ifnull 36, 3) := by decide +kernel
theorem dX1_remember_13 : decode cX1_remember 13 = .ok (.aload_n 2, 1) := by decide +kernel
theorem dX1_remember_14 : decode cX1_remember 14 = .ok (.aload_n 1, 1) := by decide +kernel
theorem dX1_remember_15 : decode cX1_remember 15 = .ok (.invokevirtual 29, 3) := by decide +kernel
theorem dX1_remember_18 : decode cX1_remember 18 = .ok (.aload_n 0, 1) := by decide +kernel
theorem dX1_remember_19 : decode cX1_remember 19 = .ok (.aload_n 0, 1) := by decide +kernel
theorem dX1_remember_20 : decode cX1_remember 20 = .ok (.getfield 22, 3) := by decide +kernel
theorem dX1_remember_23 : decode cX1_remember 23 = .ok (.iconst 1, 1) := by decide +kernel
theorem dX1_remember_24 : decode cX1_remember 24 = .ok (.iadd, 1) := by decide +kernel
theorem dX1_remember_25 : decode cX1_remember 25 = .ok (.bipush 14, 2) := by decide +kernel
theorem dX1_remember_27 : decode cX1_remember 27 = .ok (.irem, 1) := by decide +kernel
theorem dX1_remember_28 : decode cX1_remember 28 = .ok (.putfield 22, 3) := by decide +kernel
theorem dX1_remember_31 : decode cX1_remember 31 = .ok (.aload_n 0, 1) := by decide +kernel
theorem dX1_remember_32 : decode cX1_remember 32 = .ok (.aload_n 0, 1) := by decide +kernel
theorem dX1_remember_33 : decode cX1_remember 33 = .ok (.getfield 18, 3) := by decide +kernel
theorem dX1_remember_36 : decode cX1_remember 36 = .ok (.iconst 1, 1) := by decide +kernel
theorem dX1_remember_37 : decode cX1_remember 37 = .ok (.iadd, 1) := by decide +kernel
theorem dX1_remember_38 : decode cX1_remember 38 = .ok (.bipush 14, 2) := by decide +kernel
theorem dX1_remember_40 : decode cX1_remember 40 = .ok (.invokestatic 33, 3) := by decide +kernel
theorem dX1_remember_43 : decode cX1_remember 43 = .ok (.putfield 18, 3) := by decide +kernel
theorem dX1_remember_46 : decode cX1_remember 46 = .ok (.return_, 1) := by decide +kernel
set_option maxRecDepth 20000 in
theorem ggX1_takeBack_X1_stateAt : GoodIn wsX1_takeBack wsX1_stateAt := goodIn_r _ [7, 8, 42, 43, 44] (by decide +kernel) (by decide +kernel)
set_option maxRecDepth 20000 in
theorem gX1_takeBack_X1_stateAt : GoodIn wsX1_takeBack (wsV RX1 25 RX1 yX1_stateAt wsX1_stateAt) := goodIn_app (goodIn_of _ (by decide +kernel)) ggX1_takeBack_X1_stateAt
set_option maxRecDepth 20000 in
theorem ggX1_takeBack_X0_copyFrom : GoodIn wsX1_takeBack wsX0_copyFrom := goodIn_r _ [13, 14, 15, 16, 17, 18, 19, 20, 21, 22, 23, 24, 25, 26, 27, 28, 29, 30, 31, 32, 33, 34, 35, 36, 37, 38, 39, 40, 41, 45, 46, 47, 48, 49, 50, 51, 52, 53, 54, 55, 56, 57, 58, 59, 60, 61, 62, 63, 64] (by decide +kernel) (by decide +kernel)
set_option maxRecDepth 20000 in
theorem gX1_takeBack_X0_copyFrom : GoodIn wsX1_takeBack (wsV RX1 29 RX0 yX0_copyFrom wsX0_copyFrom) := goodIn_app (goodIn_of _ (by decide +kernel)) ggX1_takeBack_X0_copyFrom
theorem dX1_takeBack_0 : decode cX1_takeBack 0 = .ok (.aload_n 0, 1) := by decide +kernel
theorem dX1_takeBack_1 : decode cX1_takeBack 1 = .ok (.getfield 22, 3) := by decide +kernel
theorem dX1_takeBack_4 : decode cX1_takeBack 4 = .ok (.bipush 14, 2) := by decide +kernel
theorem dX1_takeBack_6 : decode cX1_takeBack 6 = .ok (.iadd, 1) := by decide +kernel
theorem dX1_takeBack_7 : decode cX1_takeBack 7 = .ok (.iconst 1, 1) := by decide +kernel
theorem dX1_takeBack_8 : decode cX1_takeBack 8 = .ok (.isub, 1) := by decide +kernel
theorem dX1_takeBack_9 : decode cX1_takeBack 9 = .ok (.bipush 14, 2) := by decide +kernel
theorem dX1_takeBack_11 : decode cX1_takeBack 11 = .ok (.irem, 1) := by decide +kernel
theorem dX1_takeBack_12 : decode cX1_takeBack 12 = .ok (.istore_n 2, 1) := by decide +kernel
theorem dX1_takeBack_13 : decode cX1_takeBack 13 = .ok (.aload_n 0, 1) := by decide +kernel
theorem dX1_takeBack_14 : decode cX1_takeBack 14 = .ok (.iload_n 2, 1) := by decide +kernel
theorem dX1_takeBack_15 : decode cX1_takeBack 15 = .ok (.invokevirtual 25, 3) := by decide +kernel
theorem dX1_takeBack_18 : decode cX1_takeBack 18 = .ok (.astore_n 3, 1) := by decide +kernel
theorem dX1_takeBack_19 : decode cX1_takeBack 19 = .ok (.aload_n 3, 1) := by decide +kernel
theorem dX1_takeBack_20 : decode cX1_takeBack 20 = .ok (.ifnull 30, 3) := by decide +kernel
theorem dX1_takeBack_23 : decode cX1_takeBack 23 = .ok (.aload_n 0, 1) := by decide +kernel
theorem dX1_takeBack_24 : decode cX1_takeBack 24 = .ok (.getfield 18, 3) := by decide +kernel
theorem dX1_takeBack_27 : decode cX1_takeBack 27 = .ok (.ifCond .le 23, 3) := by decide +kernel
theorem dX1_takeBack_30 : decode cX1_takeBack 30 = .ok (.aload_n 1, 1) := by decide +kernel
theorem dX1_takeBack_31 : decode cX1_takeBack 31 = .ok (.aload_n 3, 1) := by decide +kernel
theorem dX1_takeBack_32 : decode cX1_takeBack 32 = .ok (.invokevirtual 29, 3) := by decide +kernel
theorem dX1_takeBack_35 : decode cX1_takeBack 35 = .ok (.aload_n 0, 1) := by decide +kernel
theorem dX1_takeBack_36 : decode cX1_takeBack 36 = .ok (.iload_n 2, 1) := by decide +kernel
theorem dX1_takeBack_37 : decode cX1_takeBack 37 = .ok (.putfield 22, 3) := by decide +kernel
theorem dX1_takeBack_40 : decode cX1_takeBack 40 = .ok (.aload_n 0, 1) := by decide +kernel
theorem dX1_takeBack_41 : decode cX1_takeBack 41 = .ok (.dup, 1) := by decide +kernel
theorem dX1_takeBack_42 : decode cX1_takeBack 42 = .ok (.getfield 18, 3) := by decide +kernel
theorem dX1_takeBack_45 : decode cX1_takeBack 45 = .ok (.iconst 1, 1) := by decide +kernel
theorem dX1_takeBack_46 : decode cX1_takeBack 46 = .ok (.isub, 1) := by decide +kernel
theorem dX1_takeBack_47 : decode cX1_takeBack 47 = .ok (.putfield 18, 3) := by decide +kernel
theorem dX1_takeBack_50 : decode cX1_takeBack 50 = .ok (.return_, 1) := by decide +kernel
theorem dX1_stateAt_0 : decode cX1_stateAt 0 = .ok (.iload_n 1, 1) := by decide +kernel
theorem dX1_stateAt_1 : decode cX1_stateAt 1 = .ok (.ifCond .lt 18, 3) := by decide +kernel
theorem dX1_stateAt_4 : decode cX1_stateAt 4 = .ok (.iload_n 1, 1) := by decide +kernel
theorem dX1_stateAt_5 : decode cX1_stateAt 5 = .ok (.bipush 14, 2) := by decide +kernel
theorem dX1_stateAt_7 : decode cX1_stateAt 7 = .ok (.if_icmp .ge 12, 3) := by decide +kernel
theorem dX1_stateAt_10 : decode cX1_stateAt 10 = .ok (.aload_n 0, 1) := by decide +kernel
theorem dX1_stateAt_11 : decode cX1_stateAt 11 = .ok (.getfield 11, 3) := by decide +kernel
theorem dX1_stateAt_14 : decode cX1_stateAt 14 = .ok (.iload_n 1, 1) := by decide +kernel
theorem dX1_stateAt_15 : decode cX1_stateAt 15 = .ok (.aaload, 1) := by decide +kernel
theorem dX1_stateAt_16 : decode cX1_stateAt 16 = .ok (.goto 4, 3) := by decide +kernel
theorem dX1_stateAt_19 : decode cX1_stateAt 19 = .ok (.aconst_null, 1) := by decide +kernel
theorem dX1_stateAt_20 : decode cX1_stateAt 20 = .ok (.areturn, 1) := by decide +kernel
theorem dX2_init_0 : decode cX2_init 0 = .ok (.aload_n 0, 1) := by decide +kernel
theorem dX2_init_1 : decode cX2_init 1 = .ok (.invokespecial 3, 3) := by decide +kernel
theorem dX2_init_4 : decode cX2_init 4 = .ok (.aload_n 0, 1) := by decide +kernel
theorem dX2_init_5 : decode cX2_init 5 = .ok (.bipush 64, 2) := by decide +kernel
theorem dX2_init_7 : decode cX2_init 7 = .ok (.newarray .int, 2) := by decide +kernel
theorem dX2_init_9 : decode cX2_init 9 = .ok (.putfield 9, 3) := by decide +kernel
theorem dX2_init_12 : decode cX2_init 12 = .ok (.aload_n 0, 1) := by decide +kernel
theorem dX2_init_13 : decode cX2_init 13 = .ok (.bipush 64, 2) := by decide +kernel
theorem dX2_init_15 : decode cX2_init 15 = .ok (.newarray .int, 2) := by decide +kernel
theorem dX2_init_17 : decode cX2_init 17 = .ok (.putfield 15, 3) := by decide +kernel
theorem dX2_init_20 : decode cX2_init 20 = .ok (.aload_n 0, 1) := by decide +kernel
theorem dX2_init_21 : decode cX2_init 21 = .ok (.bipush 64, 2) := by decide +kernel
theorem dX2_init_23 : decode cX2_init 23 = .ok (.newarray .boolean, 2) := by decide +kernel
theorem dX2_init_25 : decode cX2_init 25 = .ok (.putfield 18, 3) := by decide +kernel
theorem dX2_init_28 : decode cX2_init 28 = .ok (.return_, 1) := by decide +kernel
set_option maxRecDepth 20000 in
theorem ggX2_beginAt_X2_flowTo : GoodIn wsX2_beginAt wsX2_flowTo := goodIn_r _ [9, 2, 10, 1, 11, 12, 13, 14, 15, 16, 17, 18, 19, 20, 21] (by decide +kernel) (by decide +kernel)
set_option maxRecDepth 20000 in
theorem gX2_beginAt_X2_flowTo : GoodIn wsX2_beginAt (wsV RX2 32 RX2 yX2_flowTo wsX2_flowTo) := goodIn_app (goodIn_of _ (by decide +kernel)) ggX2_beginAt_X2_flowTo
theorem dX2_beginAt_0 : decode cX2_beginAt 0 = .ok (.iconst 0, 1) := by decide +kernel
theorem dX2_beginAt_1 : decode cX2_beginAt 1 = .ok (.istore_n 2, 1) := by decide +kernel
theorem dX2_beginAt_2 : decode cX2_beginAt 2 = .ok (.iload_n 2, 1) := by decide +kernel
theorem dX2_beginAt_3 : decode cX2_beginAt 3 = .ok (.bipush 64, 2) := by decide +kernel
theorem dX2_beginAt_5 : decode cX2_beginAt 5 = .ok (.if_icmp .ge 16, 3) := by decide +kernel
theorem dX2_beginAt_8 : decode cX2_beginAt 8 = .ok (.aload_n 0, 1) := by decide +kernel
theorem dX2_beginAt_9 : decode cX2_beginAt 9 = .ok (.getfield 18, 3) := by decide +kernel
theorem dX2_beginAt_12 : decode cX2_beginAt 12 = .ok (.iload_n 2, 1) := by decide +kernel
theorem dX2_beginAt_13 : decode cX2_beginAt 13 = .ok (.iconst 0, 1) := by decide +kernel
theorem dX2_beginAt_14 : decode cX2_beginAt 14 = .ok (.bastore, 1) := by decide +kernel
theorem dX2_beginAt_15 : decode cX2_beginAt 15 = .ok (.iinc 2 1, 3) := by decide +kernel
theorem dX2_beginAt_18 : decode cX2_beginAt 18 = .ok (.goto (-16), 3) := by decide +kernel
theorem dX2_beginAt_21 : decode cX2_beginAt 21 = .ok (.aload_n 0, 1) := by decide +kernel
theorem dX2_beginAt_22 : decode cX2_beginAt 22 = .ok (.iconst 0, 1) := by decide +kernel
theorem dX2_beginAt_23 : decode cX2_beginAt 23 = .ok (.putfield 22, 3) := by decide +kernel
theorem dX2_beginAt_26 : decode cX2_beginAt 26 = .ok (.aload_n 0, 1) := by decide +kernel
theorem dX2_beginAt_27 : decode cX2_beginAt 27 = .ok (.iconst 0, 1) := by decide +kernel
theorem dX2_beginAt_28 : decode cX2_beginAt 28 = .ok (.putfield 26, 3) := by decide +kernel
theorem dX2_beginAt_31 : decode cX2_beginAt 31 = .ok (.aload_n 0, 1) := by decide +kernel
theorem dX2_beginAt_32 : decode cX2_beginAt 32 = .ok (.iconst 0, 1) := by decide +kernel
theorem dX2_beginAt_33 : decode cX2_beginAt 33 = .ok (.putfield 29, 3) := by decide +kernel
theorem dX2_beginAt_36 : decode cX2_beginAt 36 = .ok (.aload_n 0, 1) := by decide +kernel
theorem dX2_beginAt_37 : decode cX2_beginAt 37 = .ok (.iload_n 1, 1) := by decide +kernel
theorem dX2_beginAt_38 : decode cX2_beginAt 38 = .ok (.invokevirtual 32, 3) := by decide +kernel
theorem dX2_beginAt_41 : decode cX2_beginAt 41 = .ok (.return_, 1) := by decide +kernel
set_option maxRecDepth 20000 in
theorem ggX2_flowTo_X6_fits : GoodIn wsX2_flowTo wsX6_fits := goodIn_r _ [6] (by decide +kernel) (by decide +kernel)
set_option maxRecDepth 20000 in
theorem gX2_flowTo_X6_fits_n36 : GoodIn wsX2_flowTo (wsX6_fits) := ggX2_flowTo_X6_fits
theorem dX2_flowTo_0 : decode cX2_flowTo 0 = .ok (.iload_n 1, 1) := by decide +kernel
theorem dX2_flowTo_1 : decode cX2_flowTo 1 = .ok (.invokestatic 36, 3) := by decide +kernel
theorem dX2_flowTo_4 : decode cX2_flowTo 4 = .ok (.ifCond .eq 40, 3) := by decide +kernel
theorem dX2_flowTo_7 : decode cX2_flowTo 7 = .ok (.aload_n 0, 1) := by decide +kernel
theorem dX2_flowTo_8 : decode cX2_flowTo 8 = .ok (.getfield 22, 3) := by decide +kernel
theorem dX2_flowTo_11 : decode cX2_flowTo 11 = .ok (.invokestatic 36, 3) := by decide +kernel
theorem dX2_flowTo_14 : decode cX2_flowTo 14 = .ok (.ifCond .eq 30, 3) := by decide +kernel
theorem dX2_flowTo_17 : decode cX2_flowTo 17 = .ok (.aload_n 0, 1) := by decide +kernel
theorem dX2_flowTo_18 : decode cX2_flowTo 18 = .ok (.getfield 15, 3) := by decide +kernel
theorem dX2_flowTo_21 : decode cX2_flowTo 21 = .ok (.aload_n 0, 1) := by decide +kernel
theorem dX2_flowTo_22 : decode cX2_flowTo 22 = .ok (.getfield 22, 3) := by decide +kernel
theorem dX2_flowTo_25 : decode cX2_flowTo 25 = .ok (.iload_n 1, 1) := by decide +kernel
theorem dX2_flowTo_26 : decode cX2_flowTo 26 = .ok (.iastore, 1) := by decide +kernel
theorem dX2_flowTo_27 : decode cX2_flowTo 27 = .ok (.aload_n 0, 1) := by decide +kernel
theorem dX2_flowTo_28 : decode cX2_flowTo 28 = .ok (.getfield 18, 3) := by decide +kernel
theorem dX2_flowTo_31 : decode cX2_flowTo 31 = .ok (.iload_n 1, 1) := by decide +kernel
theorem dX2_flowTo_32 : decode cX2_flowTo 32 = .ok (.iconst 1, 1) := by decide +kernel
theorem dX2_flowTo_33 : decode cX2_flowTo 33 = .ok (.bastore, 1) := by decide +kernel
theorem dX2_flowTo_34 : decode cX2_flowTo 34 = .ok (.aload_n 0, 1) := by decide +kernel
theorem dX2_flowTo_35 : decode cX2_flowTo 35 = .ok (.dup, 1) := by decide +kernel
theorem dX2_flowTo_36 : decode cX2_flowTo 36 = .ok (.getfield 22, 3) := by decide +kernel
theorem dX2_flowTo_39 : decode cX2_flowTo 39 = .ok (.iconst 1, 1) := by decide +kernel
theorem dX2_flowTo_40 : decode cX2_flowTo 40 = .ok (.iadd, 1) := by decide +kernel
theorem dX2_flowTo_41 : decode cX2_flowTo 41 = .ok (.putfield 22, 3) := by decide +kernel
theorem dX2_flowTo_44 : decode cX2_flowTo 44 = .ok (.return_, 1) := by decide +kernel
theorem dX2_pay_0 : decode cX2_pay 0 = .ok (.aload_n 0, 1) := by decide +kernel
theorem dX2_pay_1 : decode cX2_pay 1 = .ok (.dup, 1) := by decide +kernel
theorem dX2_pay_2 : decode cX2_pay 2 = .ok (.getfield 26, 3) := by decide +kernel
theorem dX2_pay_5 : decode cX2_pay 5 = .ok (.iload_n 1, 1) := by decide +kernel
theorem dX2_pay_6 : decode cX2_pay 6 = .ok (.iadd, 1) := by decide +kernel
theorem dX2_pay_7 : decode cX2_pay 7 = .ok (.putfield 26, 3) := by decide +kernel
theorem dX2_pay_10 : decode cX2_pay 10 = .ok (.aload_n 0, 1) := by decide +kernel
theorem dX2_pay_11 : decode cX2_pay 11 = .ok (.dup, 1) := by decide +kernel
theorem dX2_pay_12 : decode cX2_pay 12 = .ok (.getfield 40, 3) := by decide +kernel
theorem dX2_pay_15 : decode cX2_pay 15 = .ok (.iload_n 1, 1) := by decide +kernel
theorem dX2_pay_16 : decode cX2_pay 16 = .ok (.iadd, 1) := by decide +kernel
theorem dX2_pay_17 : decode cX2_pay 17 = .ok (.putfield 40, 3) := by decide +kernel
theorem dX2_pay_20 : decode cX2_pay 20 = .ok (.return_, 1) := by decide +kernel
theorem dX2_head_0 : decode cX2_head 0 = .ok (.aload_n 0, 1) := by decide +kernel
theorem dX2_head_1 : decode cX2_head 1 = .ok (.getfield 22, 3) := by decide +kernel
theorem dX2_head_4 : decode cX2_head 4 = .ok (.ifCond .le 26, 3) := by decide +kernel
theorem dX2_head_7 : decode cX2_head 7 = .ok (.aload_n 0, 1) := by decide +kernel
theorem dX2_head_8 : decode cX2_head 8 = .ok (.getfield 22, 3) := by decide +kernel
theorem dX2_head_11 : decode cX2_head 11 = .ok (.bipush 64, 2) := by decide +kernel
theorem dX2_head_13 : decode cX2_head 13 = .ok (.if_icmp .gt 17, 3) := by decide +kernel
theorem dX2_head_16 : decode cX2_head 16 = .ok (.aload_n 0, 1) := by decide +kernel
theorem dX2_head_17 : decode cX2_head 17 = .ok (.getfield 15, 3) := by decide +kernel
theorem dX2_head_20 : decode cX2_head 20 = .ok (.aload_n 0, 1) := by decide +kernel
theorem dX2_head_21 : decode cX2_head 21 = .ok (.getfield 22, 3) := by decide +kernel
theorem dX2_head_24 : decode cX2_head 24 = .ok (.iconst 1, 1) := by decide +kernel
theorem dX2_head_25 : decode cX2_head 25 = .ok (.isub, 1) := by decide +kernel
theorem dX2_head_26 : decode cX2_head 26 = .ok (.iaload, 1) := by decide +kernel
theorem dX2_head_27 : decode cX2_head 27 = .ok (.goto 4, 3) := by decide +kernel
theorem dX2_head_30 : decode cX2_head 30 = .ok (.iconst (-1), 1) := by decide +kernel
theorem dX2_head_31 : decode cX2_head 31 = .ok (.ireturn, 1) := by decide +kernel
set_option maxRecDepth 20000 in
theorem ggX2_placeAt_X6_fits : GoodIn wsX2_placeAt wsX6_fits := goodIn_r _ [5] (by decide +kernel) (by decide +kernel)
set_option maxRecDepth 20000 in
theorem gX2_placeAt_X6_fits_n36 : GoodIn wsX2_placeAt (wsX6_fits) := ggX2_placeAt_X6_fits
theorem dX2_placeAt_0 : decode cX2_placeAt 0 = .ok (.iload_n 1, 1) := by decide +kernel
theorem dX2_placeAt_1 : decode cX2_placeAt 1 = .ok (.aload_n 0, 1) := by decide +kernel
theorem dX2_placeAt_2 : decode cX2_placeAt 2 = .ok (.getfield 22, 3) := by decide +kernel
theorem dX2_placeAt_5 : decode cX2_placeAt 5 = .ok (.if_icmp .ge 19, 3) := by decide +kernel
theorem dX2_placeAt_8 : decode cX2_placeAt 8 = .ok (.iload_n 1, 1) := by decide +kernel
theorem dX2_placeAt_9 : decode cX2_placeAt 9 = .ok (.invokestatic 36, 3) := by decide +kernel
theorem dX2_placeAt_12 : decode cX2_placeAt 12 = .ok (.ifCond .eq 12, 3) := by decide +kernel
theorem dX2_placeAt_15 : decode cX2_placeAt 15 = .ok (.aload_n 0, 1) := by decide +kernel
theorem dX2_placeAt_16 : decode cX2_placeAt 16 = .ok (.getfield 15, 3) := by decide +kernel
theorem dX2_placeAt_19 : decode cX2_placeAt 19 = .ok (.iload_n 1, 1) := by decide +kernel
theorem dX2_placeAt_20 : decode cX2_placeAt 20 = .ok (.iaload, 1) := by decide +kernel
theorem dX2_placeAt_21 : decode cX2_placeAt 21 = .ok (.goto 4, 3) := by decide +kernel
theorem dX2_placeAt_24 : decode cX2_placeAt 24 = .ok (.iconst (-1), 1) := by decide +kernel
theorem dX2_placeAt_25 : decode cX2_placeAt 25 = .ok (.ireturn, 1) := by decide +kernel
set_option maxRecDepth 20000 in
theorem ggX2_holds_X6_fits : GoodIn wsX2_holds wsX6_fits := goodIn_r _ [4] (by decide +kernel) (by decide +kernel)
set_option maxRecDepth 20000 in
theorem gX2_holds_X6_fits_n36 : GoodIn wsX2_holds (wsX6_fits) := ggX2_holds_X6_fits
theorem dX2_holds_0 : decode cX2_holds 0 = .ok (.iload_n 1, 1) := by decide +kernel
theorem dX2_holds_1 : decode cX2_holds 1 = .ok (.invokestatic 36, 3) := by decide +kernel
theorem dX2_holds_4 : decode cX2_holds 4 = .ok (.ifCond .eq 16, 3) := by decide +kernel
theorem dX2_holds_7 : decode cX2_holds 7 = .ok (.aload_n 0, 1) := by decide +kernel
theorem dX2_holds_8 : decode cX2_holds 8 = .ok (.getfield 18, 3) := by decide +kernel
theorem dX2_holds_11 : decode cX2_holds 11 = .ok (.iload_n 1, 1) := by decide +kernel
theorem dX2_holds_12 : decode cX2_holds 12 = .ok (.baload, 1) := by decide +kernel
theorem dX2_holds_13 : decode cX2_holds 13 = .ok (.ifCond .eq 7, 3) := by decide +kernel
theorem dX2_holds_16 : decode cX2_holds 16 = .ok (.iconst 1, 1) := by decide +kernel
theorem dX2_holds_17 : decode cX2_holds 17 = .ok (.goto 4, 3) := by decide +kernel
theorem dX2_holds_20 : decode cX2_holds 20 = .ok (.iconst 0, 1) := by decide +kernel
theorem dX2_holds_21 : decode cX2_holds 21 = .ok (.ireturn, 1) := by decide +kernel
theorem dX2_costOf_0 : decode cX2_costOf 0 = .ok (.iload_n 1, 1) := by decide +kernel
theorem dX2_costOf_1 : decode cX2_costOf 1 = .ok (.ifCond .lt 18, 3) := by decide +kernel
theorem dX2_costOf_4 : decode cX2_costOf 4 = .ok (.iload_n 1, 1) := by decide +kernel
theorem dX2_costOf_5 : decode cX2_costOf 5 = .ok (.bipush 64, 2) := by decide +kernel
theorem dX2_costOf_7 : decode cX2_costOf 7 = .ok (.if_icmp .ge 12, 3) := by decide +kernel
theorem dX2_costOf_10 : decode cX2_costOf 10 = .ok (.aload_n 0, 1) := by decide +kernel
theorem dX2_costOf_11 : decode cX2_costOf 11 = .ok (.getfield 9, 3) := by decide +kernel
theorem dX2_costOf_14 : decode cX2_costOf 14 = .ok (.iload_n 1, 1) := by decide +kernel
theorem dX2_costOf_15 : decode cX2_costOf 15 = .ok (.iaload, 1) := by decide +kernel
theorem dX2_costOf_16 : decode cX2_costOf 16 = .ok (.goto 4, 3) := by decide +kernel
theorem dX2_costOf_19 : decode cX2_costOf 19 = .ok (.iconst 0, 1) := by decide +kernel
theorem dX2_costOf_20 : decode cX2_costOf 20 = .ok (.ireturn, 1) := by decide +kernel
set_option maxRecDepth 20000 in
theorem ggX2_copyFrom_X6_copyRow : GoodIn wsX2_copyFrom wsX6_copyRow := goodIn_r _ [11] (by decide +kernel) (by decide +kernel)
set_option maxRecDepth 20000 in
theorem gX2_copyFrom_X6_copyRow_n43 : GoodIn wsX2_copyFrom (wsX6_copyRow) := ggX2_copyFrom_X6_copyRow
theorem dX2_copyFrom_0 : decode cX2_copyFrom 0 = .ok (.aload_n 1, 1) := by decide +kernel
theorem dX2_copyFrom_1 : decode cX2_copyFrom 1 = .ok (.getfield 9, 3) := by decide +kernel
theorem dX2_copyFrom_4 : decode cX2_copyFrom 4 = .ok (.aload_n 0, 1) := by decide +kernel
theorem dX2_copyFrom_5 : decode cX2_copyFrom 5 = .ok (.getfield 9, 3) := by decide +kernel
theorem dX2_copyFrom_8 : decode cX2_copyFrom 8 = .ok (.invokestatic 43, 3) := by decide +kernel
theorem dX2_copyFrom_11 : decode cX2_copyFrom 11 = .ok (.aload_n 1, 1) := by decide +kernel
theorem dX2_copyFrom_12 : decode cX2_copyFrom 12 = .ok (.getfield 15, 3) := by decide +kernel
theorem dX2_copyFrom_15 : decode cX2_copyFrom 15 = .ok (.aload_n 0, 1) := by decide +kernel
theorem dX2_copyFrom_16 : decode cX2_copyFrom 16 = .ok (.getfield 15, 3) := by decide +kernel
theorem dX2_copyFrom_19 : decode cX2_copyFrom 19 = .ok (.invokestatic 43, 3) := by decide +kernel
theorem dX2_copyFrom_22 : decode cX2_copyFrom 22 = .ok (.iconst 0, 1) := by decide +kernel
theorem dX2_copyFrom_23 : decode cX2_copyFrom 23 = .ok (.istore_n 2, 1) := by decide +kernel
theorem dX2_copyFrom_24 : decode cX2_copyFrom 24 = .ok (.iload_n 2, 1) := by decide +kernel
theorem dX2_copyFrom_25 : decode cX2_copyFrom 25 = .ok (.bipush 64, 2) := by decide +kernel
theorem dX2_copyFrom_27 : decode cX2_copyFrom 27 = .ok (.if_icmp .ge 21, 3) := by decide +kernel
theorem dX2_copyFrom_30 : decode cX2_copyFrom 30 = .ok (.aload_n 0, 1) := by decide +kernel
theorem dX2_copyFrom_31 : decode cX2_copyFrom 31 = .ok (.getfield 18, 3) := by decide +kernel
theorem dX2_copyFrom_34 : decode cX2_copyFrom 34 = .ok (.iload_n 2, 1) := by decide +kernel
theorem dX2_copyFrom_35 : decode cX2_copyFrom 35 = .ok (.aload_n 1, 1) := by decide +kernel
theorem dX2_copyFrom_36 : decode cX2_copyFrom 36 = .ok (.getfield 18, 3) := by decide +kernel
theorem dX2_copyFrom_39 : decode cX2_copyFrom 39 = .ok (.iload_n 2, 1) := by decide +kernel
theorem dX2_copyFrom_40 : decode cX2_copyFrom 40 = .ok (.baload, 1) := by decide +kernel
theorem dX2_copyFrom_41 : decode cX2_copyFrom 41 = .ok (.bastore, 1) := by decide +kernel
theorem dX2_copyFrom_42 : decode cX2_copyFrom 42 = .ok (.iinc 2 1, 3) := by decide +kernel
theorem dX2_copyFrom_45 : decode cX2_copyFrom 45 = .ok (.goto (-21), 3) := by decide +kernel
theorem dX2_copyFrom_48 : decode cX2_copyFrom 48 = .ok (.aload_n 0, 1) := by decide +kernel
theorem dX2_copyFrom_49 : decode cX2_copyFrom 49 = .ok (.aload_n 1, 1) := by decide +kernel
theorem dX2_copyFrom_50 : decode cX2_copyFrom 50 = .ok (.getfield 22, 3) := by decide +kernel
theorem dX2_copyFrom_53 : decode cX2_copyFrom 53 = .ok (.putfield 22, 3) := by decide +kernel
theorem dX2_copyFrom_56 : decode cX2_copyFrom 56 = .ok (.aload_n 0, 1) := by decide +kernel
theorem dX2_copyFrom_57 : decode cX2_copyFrom 57 = .ok (.aload_n 1, 1) := by decide +kernel
theorem dX2_copyFrom_58 : decode cX2_copyFrom 58 = .ok (.getfield 26, 3) := by decide +kernel
theorem dX2_copyFrom_61 : decode cX2_copyFrom 61 = .ok (.putfield 26, 3) := by decide +kernel
theorem dX2_copyFrom_64 : decode cX2_copyFrom 64 = .ok (.aload_n 0, 1) := by decide +kernel
theorem dX2_copyFrom_65 : decode cX2_copyFrom 65 = .ok (.aload_n 1, 1) := by decide +kernel
theorem dX2_copyFrom_66 : decode cX2_copyFrom 66 = .ok (.getfield 29, 3) := by decide +kernel
theorem dX2_copyFrom_69 : decode cX2_copyFrom 69 = .ok (.putfield 29, 3) := by decide +kernel
theorem dX2_copyFrom_72 : decode cX2_copyFrom 72 = .ok (.aload_n 0, 1) := by decide +kernel
theorem dX2_copyFrom_73 : decode cX2_copyFrom 73 = .ok (.aload_n 1, 1) := by decide +kernel
theorem dX2_copyFrom_74 : decode cX2_copyFrom 74 = .ok (.getfield 47, 3) := by decide +kernel
theorem dX2_copyFrom_77 : decode cX2_copyFrom 77 = .ok (.putfield 47, 3) := by decide +kernel
theorem dX2_copyFrom_80 : decode cX2_copyFrom 80 = .ok (.aload_n 0, 1) := by decide +kernel
theorem dX2_copyFrom_81 : decode cX2_copyFrom 81 = .ok (.aload_n 1, 1) := by decide +kernel
theorem dX2_copyFrom_82 : decode cX2_copyFrom 82 = .ok (.getfield 40, 3) := by decide +kernel
theorem dX2_copyFrom_85 : decode cX2_copyFrom 85 = .ok (.putfield 40, 3) := by decide +kernel
theorem dX2_copyFrom_88 : decode cX2_copyFrom 88 = .ok (.return_, 1) := by decide +kernel
set_option maxRecDepth 20000 in
theorem ggX3_init_X0_init : GoodIn wsX3_init wsX0_init := goodIn_r _ [9, 10, 2, 3, 11, 12, 13, 14, 15, 16, 17, 18, 19, 20, 21, 22, 23, 24, 39, 40, 41, 42, 43, 44, 45, 46, 25, 26, 27, 28, 29, 30, 31, 32, 33, 34, 35, 36] (by decide +kernel) (by decide +kernel)
set_option maxRecDepth 20000 in
theorem gX3_init_X0_init_n9 : GoodIn wsX3_init (wsX0_init) := ggX3_init_X0_init
theorem dX3_init_0 : decode cX3_init 0 = .ok (.aload_n 0, 1) := by decide +kernel
theorem dX3_init_1 : decode cX3_init 1 = .ok (.invokespecial 1, 3) := by decide +kernel
theorem dX3_init_4 : decode cX3_init 4 = .ok (.aload_n 0, 1) := by decide +kernel
theorem dX3_init_5 : decode cX3_init 5 = .ok (.new 7, 3) := by decide +kernel
theorem dX3_init_8 : decode cX3_init 8 = .ok (.dup, 1) := by decide +kernel
theorem dX3_init_9 : decode cX3_init 9 = .ok (.invokespecial 9, 3) := by decide +kernel
theorem dX3_init_12 : decode cX3_init 12 = .ok (.putfield 10, 3) := by decide +kernel
theorem dX3_init_15 : decode cX3_init 15 = .ok (.return_, 1) := by decide +kernel
theorem dX4_init_0 : decode cX4_init 0 = .ok (.aload_n 0, 1) := by decide +kernel
theorem dX4_init_1 : decode cX4_init 1 = .ok (.invokespecial 3, 3) := by decide +kernel
theorem dX4_init_4 : decode cX4_init 4 = .ok (.aload_n 0, 1) := by decide +kernel
theorem dX4_init_5 : decode cX4_init 5 = .ok (.bipush 120, 2) := by decide +kernel
theorem dX4_init_7 : decode cX4_init 7 = .ok (.newarray .char, 2) := by decide +kernel
theorem dX4_init_9 : decode cX4_init 9 = .ok (.putfield 9, 3) := by decide +kernel
theorem dX4_init_12 : decode cX4_init 12 = .ok (.return_, 1) := by decide +kernel
theorem dX4_isFull_0 : decode cX4_isFull 0 = .ok (.aload_n 0, 1) := by decide +kernel
theorem dX4_isFull_1 : decode cX4_isFull 1 = .ok (.getfield 15, 3) := by decide +kernel
theorem dX4_isFull_4 : decode cX4_isFull 4 = .ok (.bipush 120, 2) := by decide +kernel
theorem dX4_isFull_6 : decode cX4_isFull 6 = .ok (.if_icmp .lt 7, 3) := by decide +kernel
theorem dX4_isFull_9 : decode cX4_isFull 9 = .ok (.iconst 1, 1) := by decide +kernel
theorem dX4_isFull_10 : decode cX4_isFull 10 = .ok (.goto 4, 3) := by decide +kernel
theorem dX4_isFull_13 : decode cX4_isFull 13 = .ok (.iconst 0, 1) := by decide +kernel
theorem dX4_isFull_14 : decode cX4_isFull 14 = .ok (.ireturn, 1) := by decide +kernel
theorem dX4_add_0 : decode cX4_add 0 = .ok (.aload_n 0, 1) := by decide +kernel
theorem dX4_add_1 : decode cX4_add 1 = .ok (.getfield 15, 3) := by decide +kernel
theorem dX4_add_4 : decode cX4_add 4 = .ok (.ifCond .lt 32, 3) := by decide +kernel
theorem dX4_add_7 : decode cX4_add 7 = .ok (.aload_n 0, 1) := by decide +kernel
theorem dX4_add_8 : decode cX4_add 8 = .ok (.getfield 15, 3) := by decide +kernel
theorem dX4_add_11 : decode cX4_add 11 = .ok (.bipush 120, 2) := by decide +kernel
theorem dX4_add_13 : decode cX4_add 13 = .ok (.if_icmp .ge 23, 3) := by decide +kernel
theorem dX4_add_16 : decode cX4_add 16 = .ok (.aload_n 0, 1) := by decide +kernel
theorem dX4_add_17 : decode cX4_add 17 = .ok (.getfield 9, 3) := by decide +kernel
theorem dX4_add_20 : decode cX4_add 20 = .ok (.aload_n 0, 1) := by decide +kernel
theorem dX4_add_21 : decode cX4_add 21 = .ok (.getfield 15, 3) := by decide +kernel
theorem dX4_add_24 : decode cX4_add 24 = .ok (.iload_n 1, 1) := by decide +kernel
theorem dX4_add_25 : decode cX4_add 25 = .ok (.castore, 1) := by decide +kernel
theorem dX4_add_26 : decode cX4_add 26 = .ok (.aload_n 0, 1) := by decide +kernel
theorem dX4_add_27 : decode cX4_add 27 = .ok (.dup, 1) := by decide +kernel
theorem dX4_add_28 : decode cX4_add 28 = .ok (.getfield 15, 3) := by decide +kernel
theorem dX4_add_31 : decode cX4_add 31 = .ok (.iconst 1, 1) := by decide +kernel
theorem dX4_add_32 : decode cX4_add 32 = .ok (.iadd, 1) := by decide +kernel
theorem dX4_add_33 : decode cX4_add 33 = .ok (.putfield 15, 3) := by decide +kernel
theorem dX4_add_36 : decode cX4_add 36 = .ok (.aload_n 0, 1) := by decide +kernel
theorem dX4_add_37 : decode cX4_add 37 = .ok (.getfield 15, 3) := by decide +kernel
theorem dX4_add_40 : decode cX4_add 40 = .ok (.ireturn, 1) := by decide +kernel
theorem dX4_signAt_0 : decode cX4_signAt 0 = .ok (.iload_n 1, 1) := by decide +kernel
theorem dX4_signAt_1 : decode cX4_signAt 1 = .ok (.ifCond .lt 26, 3) := by decide +kernel
theorem dX4_signAt_4 : decode cX4_signAt 4 = .ok (.iload_n 1, 1) := by decide +kernel
theorem dX4_signAt_5 : decode cX4_signAt 5 = .ok (.aload_n 0, 1) := by decide +kernel
theorem dX4_signAt_6 : decode cX4_signAt 6 = .ok (.getfield 15, 3) := by decide +kernel
theorem dX4_signAt_9 : decode cX4_signAt 9 = .ok (.if_icmp .ge 18, 3) := by decide +kernel
theorem dX4_signAt_12 : decode cX4_signAt 12 = .ok (.iload_n 1, 1) := by decide +kernel
theorem dX4_signAt_13 : decode cX4_signAt 13 = .ok (.bipush 120, 2) := by decide +kernel
theorem dX4_signAt_15 : decode cX4_signAt 15 = .ok (.if_icmp .ge 12, 3) := by decide +kernel
theorem dX4_signAt_18 : decode cX4_signAt 18 = .ok (.aload_n 0, 1) := by decide +kernel
theorem dX4_signAt_19 : decode cX4_signAt 19 = .ok (.getfield 9, 3) := by decide +kernel
theorem dX4_signAt_22 : decode cX4_signAt 22 = .ok (.iload_n 1, 1) := by decide +kernel
theorem dX4_signAt_23 : decode cX4_signAt 23 = .ok (.caload, 1) := by decide +kernel
theorem dX4_signAt_24 : decode cX4_signAt 24 = .ok (.goto 4, 3) := by decide +kernel
theorem dX4_signAt_27 : decode cX4_signAt 27 = .ok (.iconst 0, 1) := by decide +kernel
theorem dX4_signAt_28 : decode cX4_signAt 28 = .ok (.ireturn, 1) := by decide +kernel
