set_option maxRecDepth 20000 in
theorem ggX6_cellBeside_X6_fits : GoodIn wsX6_cellBeside wsX6_fits := goodIn_r _ [4] (by decide +kernel) (by decide +kernel)
set_option maxRecDepth 20000 in
theorem gX6_cellBeside_X6_fits : GoodIn wsX6_cellBeside (va_wsS RX6 352 yX6_fits wsX6_fits) := goodIn_app (goodIn_of _ (by decide +kernel)) ggX6_cellBeside_X6_fits
set_option maxRecDepth 20000 in
theorem ggX6_cellBeside_X6_cellAt : GoodIn wsX6_cellBeside wsX6_cellAt := goodIn_r _ [7] (by decide +kernel) (by decide +kernel)
set_option maxRecDepth 20000 in
theorem gX6_cellBeside_X6_cellAt : GoodIn wsX6_cellBeside (va_wsS RX6 168 yX6_cellAt wsX6_cellAt) := goodIn_app (goodIn_of _ (by decide +kernel)) ggX6_cellBeside_X6_cellAt
theorem dX6_cellBeside_0 : decode cX6_cellBeside 0 = .ok (.iload_n 0, 1) := by decide +kernel
theorem dX6_cellBeside_1 : decode cX6_cellBeside 1 = .ok (.invokestatic 352, 3) := by decide +kernel
theorem dX6_cellBeside_4 : decode cX6_cellBeside 4 = .ok (.ifCond .ne 5, 3) := by decide +kernel
theorem dX6_cellBeside_7 : decode cX6_cellBeside 7 = .ok (.iconst (-1), 1) := by decide +kernel
theorem dX6_cellBeside_8 : decode cX6_cellBeside 8 = .ok (.ireturn, 1) := by decide +kernel
theorem dX6_cellBeside_9 : decode cX6_cellBeside 9 = .ok (.iload_n 0, 1) := by decide +kernel
theorem dX6_cellBeside_10 : decode cX6_cellBeside 10 = .ok (.bipush 8, 2) := by decide +kernel
theorem dX6_cellBeside_12 : decode cX6_cellBeside 12 = .ok (.irem, 1) := by decide +kernel
theorem dX6_cellBeside_13 : decode cX6_cellBeside 13 = .ok (.istore_n 2, 1) := by decide +kernel
theorem dX6_cellBeside_14 : decode cX6_cellBeside 14 = .ok (.iload_n 0, 1) := by decide +kernel
theorem dX6_cellBeside_15 : decode cX6_cellBeside 15 = .ok (.bipush 8, 2) := by decide +kernel
theorem dX6_cellBeside_17 : decode cX6_cellBeside 17 = .ok (.idiv, 1) := by decide +kernel
theorem dX6_cellBeside_18 : decode cX6_cellBeside 18 = .ok (.istore_n 3, 1) := by decide +kernel
theorem dX6_cellBeside_19 : decode cX6_cellBeside 19 = .ok (.iload_n 1, 1) := by decide +kernel
theorem dX6_cellBeside_20 : decode cX6_cellBeside 20 = .ok (.tableswitch 52 0 2 #[28, 36, 44], 28) := by decide +kernel
theorem dX6_cellBeside_48 : decode cX6_cellBeside 48 = .ok (.iload_n 2, 1) := by decide +kernel
theorem dX6_cellBeside_49 : decode cX6_cellBeside 49 = .ok (.iload_n 3, 1) := by decide +kernel
theorem dX6_cellBeside_50 : decode cX6_cellBeside 50 = .ok (.iconst 1, 1) := by decide +kernel
theorem dX6_cellBeside_51 : decode cX6_cellBeside 51 = .ok (.iadd, 1) := by decide +kernel
theorem dX6_cellBeside_52 : decode cX6_cellBeside 52 = .ok (.invokestatic 168, 3) := by decide +kernel
theorem dX6_cellBeside_55 : decode cX6_cellBeside 55 = .ok (.ireturn, 1) := by decide +kernel
theorem dX6_cellBeside_56 : decode cX6_cellBeside 56 = .ok (.iload_n 2, 1) := by decide +kernel
theorem dX6_cellBeside_57 : decode cX6_cellBeside 57 = .ok (.iconst 1, 1) := by decide +kernel
theorem dX6_cellBeside_58 : decode cX6_cellBeside 58 = .ok (.iadd, 1) := by decide +kernel
theorem dX6_cellBeside_59 : decode cX6_cellBeside 59 = .ok (.iload_n 3, 1) := by decide +kernel
theorem dX6_cellBeside_60 : decode cX6_cellBeside 60 = .ok (.invokestatic 168, 3) := by decide +kernel
theorem dX6_cellBeside_63 : decode cX6_cellBeside 63 = .ok (.ireturn, 1) := by decide +kernel
theorem dX6_cellBeside_64 : decode cX6_cellBeside 64 = .ok (.iload_n 2, 1) := by decide +kernel
theorem dX6_cellBeside_65 : decode cX6_cellBeside 65 = .ok (.iconst 1, 1) := by decide +kernel
theorem dX6_cellBeside_66 : decode cX6_cellBeside 66 = .ok (.isub, 1) := by decide +kernel
theorem dX6_cellBeside_67 : decode cX6_cellBeside 67 = .ok (.iload_n 3, 1) := by decide +kernel
theorem dX6_cellBeside_68 : decode cX6_cellBeside 68 = .ok (.invokestatic 168, 3) := by decide +kernel
theorem dX6_cellBeside_71 : decode cX6_cellBeside 71 = .ok (.ireturn, 1) := by decide +kernel
theorem dX6_cellBeside_72 : decode cX6_cellBeside 72 = .ok (.iconst (-1), 1) := by decide +kernel
theorem dX6_cellBeside_73 : decode cX6_cellBeside 73 = .ok (.ireturn, 1) := by decide +kernel
theorem dX6_copyRow_0 : decode cX6_copyRow 0 = .ok (.iconst 0, 1) := by decide +kernel
theorem dX6_copyRow_1 : decode cX6_copyRow 1 = .ok (.istore_n 2, 1) := by decide +kernel
theorem dX6_copyRow_2 : decode cX6_copyRow 2 = .ok (.iload_n 2, 1) := by decide +kernel
theorem dX6_copyRow_3 : decode cX6_copyRow 3 = .ok (.aload_n 0, 1) := by decide +kernel
theorem dX6_copyRow_4 : decode cX6_copyRow 4 = .ok (.arraylength, 1) := by decide +kernel
theorem dX6_copyRow_5 : decode cX6_copyRow 5 = .ok (.if_icmp .ge 21, 3) := by decide +kernel
theorem dX6_copyRow_8 : decode cX6_copyRow 8 = .ok (.iload_n 2, 1) := by decide +kernel
theorem dX6_copyRow_9 : decode cX6_copyRow 9 = .ok (.aload_n 1, 1) := by decide +kernel
theorem dX6_copyRow_10 : decode cX6_copyRow 10 = .ok (.arraylength, 1) := by decide +kernel
theorem dX6_copyRow_11 : decode cX6_copyRow 11 = .ok (.if_icmp .ge 15, 3) := by decide +kernel
theorem dX6_copyRow_14 : decode cX6_copyRow 14 = .ok (.aload_n 1, 1) := by decide +kernel
theorem dX6_copyRow_15 : decode cX6_copyRow 15 = .ok (.iload_n 2, 1) := by decide +kernel
theorem dX6_copyRow_16 : decode cX6_copyRow 16 = .ok (.aload_n 0, 1) := by decide +kernel
theorem dX6_copyRow_17 : decode cX6_copyRow 17 = .ok (.iload_n 2, 1) := by decide +kernel
theorem dX6_copyRow_18 : decode cX6_copyRow 18 = .ok (.iaload, 1) := by decide +kernel
theorem dX6_copyRow_19 : decode cX6_copyRow 19 = .ok (.iastore, 1) := by decide +kernel
theorem dX6_copyRow_20 : decode cX6_copyRow 20 = .ok (.iinc 2 1, 3) := by decide +kernel
theorem dX6_copyRow_23 : decode cX6_copyRow 23 = .ok (.goto (-21), 3) := by decide +kernel
theorem dX6_copyRow_26 : decode cX6_copyRow 26 = .ok (.return_, 1) := by decide +kernel
theorem dJ9_min_7cf53_0 : decode cJ9_min_7cf53 0 = .ok (.iload_n 0, 1) := by decide +kernel
theorem dJ9_min_7cf53_1 : decode cJ9_min_7cf53 1 = .ok (.iload_n 1, 1) := by decide +kernel
theorem dJ9_min_7cf53_2 : decode cJ9_min_7cf53 2 = .ok (.if_icmp .gt 7, 3) := by decide +kernel
theorem dJ9_min_7cf53_5 : decode cJ9_min_7cf53 5 = .ok (.iload_n 0, 1) := by decide +kernel
theorem dJ9_min_7cf53_6 : decode cJ9_min_7cf53 6 = .ok (.goto 4, 3) := by decide +kernel
theorem dJ9_min_7cf53_9 : decode cJ9_min_7cf53 9 = .ok (.iload_n 1, 1) := by decide +kernel
theorem dJ9_min_7cf53_10 : decode cJ9_min_7cf53 10 = .ok (.ireturn, 1) := by decide +kernel
theorem dJ7_fill_53178_0 : decode cJ7_fill_53178 0 = .ok (.iconst 0, 1) := by decide +kernel
theorem dJ7_fill_53178_1 : decode cJ7_fill_53178 1 = .ok (.istore_n 2, 1) := by decide +kernel
theorem dJ7_fill_53178_2 : decode cJ7_fill_53178 2 = .ok (.aload_n 0, 1) := by decide +kernel
theorem dJ7_fill_53178_3 : decode cJ7_fill_53178 3 = .ok (.arraylength, 1) := by decide +kernel
theorem dJ7_fill_53178_4 : decode cJ7_fill_53178 4 = .ok (.istore_n 3, 1) := by decide +kernel
theorem dJ7_fill_53178_5 : decode cJ7_fill_53178 5 = .ok (.iload_n 2, 1) := by decide +kernel
theorem dJ7_fill_53178_6 : decode cJ7_fill_53178 6 = .ok (.iload_n 3, 1) := by decide +kernel
theorem dJ7_fill_53178_7 : decode cJ7_fill_53178 7 = .ok (.if_icmp .ge 13, 3) := by decide +kernel
theorem dJ7_fill_53178_10 : decode cJ7_fill_53178 10 = .ok (.aload_n 0, 1) := by decide +kernel
theorem dJ7_fill_53178_11 : decode cJ7_fill_53178 11 = .ok (.iload_n 2, 1) := by decide +kernel
theorem dJ7_fill_53178_12 : decode cJ7_fill_53178 12 = .ok (.iload_n 1, 1) := by decide +kernel
theorem dJ7_fill_53178_13 : decode cJ7_fill_53178 13 = .ok (.iastore, 1) := by decide +kernel
theorem dJ7_fill_53178_14 : decode cJ7_fill_53178 14 = .ok (.iinc 2 1, 3) := by decide +kernel
theorem dJ7_fill_53178_17 : decode cJ7_fill_53178 17 = .ok (.goto (-12), 3) := by decide +kernel
theorem dJ7_fill_53178_20 : decode cJ7_fill_53178 20 = .ok (.return_, 1) := by decide +kernel
abbrev vwCl : List vw_C := [(RX0, TX0, 12), (RX1, TX1, 3), (RX2, TX2, 8), (RX3, TX3, 2), (RX4, TX4, 2), (RX5, TX5, 6), (RX6, TX6, 7)]
