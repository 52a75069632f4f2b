set_option maxRecDepth 20000 in
theorem ggX4_digitAt_X4_signAt : GoodIn wsX4_digitAt wsX4_signAt := goodIn_r _ [5, 6, 7, 8, 9] (by decide +kernel) (by decide +kernel)
set_option maxRecDepth 20000 in
theorem gX4_digitAt_X4_signAt : GoodIn wsX4_digitAt (wsV RX4 19 RX4 yX4_signAt wsX4_signAt) := goodIn_app (goodIn_of _ (by decide +kernel)) ggX4_digitAt_X4_signAt
theorem dX4_digitAt_0 : decode cX4_digitAt 0 = .ok (.aload_n 0, 1) := by decide +kernel
theorem dX4_digitAt_1 : decode cX4_digitAt 1 = .ok (.iload_n 1, 1) := by decide +kernel
theorem dX4_digitAt_2 : decode cX4_digitAt 2 = .ok (.invokevirtual 19, 3) := by decide +kernel
theorem dX4_digitAt_5 : decode cX4_digitAt 5 = .ok (.bipush 48, 2) := by decide +kernel
theorem dX4_digitAt_7 : decode cX4_digitAt 7 = .ok (.isub, 1) := by decide +kernel
theorem dX4_digitAt_8 : decode cX4_digitAt 8 = .ok (.ireturn, 1) := by decide +kernel
set_option maxRecDepth 20000 in
theorem ggX4_numberAt_X4_digitAt : GoodIn wsX4_numberAt wsX4_digitAt := goodIn_r _ [5, 6, 7, 8, 4, 9, 10, 11, 12, 13] (by decide +kernel) (by decide +kernel)
set_option maxRecDepth 20000 in
theorem gX4_numberAt_X4_digitAt : GoodIn wsX4_numberAt (wsV RX4 23 RX4 yX4_digitAt wsX4_digitAt) := goodIn_app (goodIn_of _ (by decide +kernel)) ggX4_numberAt_X4_digitAt
theorem dX4_numberAt_0 : decode cX4_numberAt 0 = .ok (.bipush 10, 2) := by decide +kernel
theorem dX4_numberAt_2 : decode cX4_numberAt 2 = .ok (.aload_n 0, 1) := by decide +kernel
theorem dX4_numberAt_3 : decode cX4_numberAt 3 = .ok (.iload_n 1, 1) := by decide +kernel
theorem dX4_numberAt_4 : decode cX4_numberAt 4 = .ok (.invokevirtual 23, 3) := by decide +kernel
theorem dX4_numberAt_7 : decode cX4_numberAt 7 = .ok (.imul, 1) := by decide +kernel
theorem dX4_numberAt_8 : decode cX4_numberAt 8 = .ok (.aload_n 0, 1) := by decide +kernel
theorem dX4_numberAt_9 : decode cX4_numberAt 9 = .ok (.iload_n 1, 1) := by decide +kernel
theorem dX4_numberAt_10 : decode cX4_numberAt 10 = .ok (.iconst 1, 1) := by decide +kernel
theorem dX4_numberAt_11 : decode cX4_numberAt 11 = .ok (.iadd, 1) := by decide +kernel
theorem dX4_numberAt_12 : decode cX4_numberAt 12 = .ok (.invokevirtual 23, 3) := by decide +kernel
theorem dX4_numberAt_15 : decode cX4_numberAt 15 = .ok (.iadd, 1) := by decide +kernel
theorem dX4_numberAt_16 : decode cX4_numberAt 16 = .ok (.ireturn, 1) := by decide +kernel
set_option maxRecDepth 20000 in
theorem ggX4_firstError_X4_signAt : GoodIn wsX4_firstError wsX4_signAt := goodIn_r _ [6, 1, 7, 22, 23] (by decide +kernel) (by decide +kernel)
set_option maxRecDepth 20000 in
theorem gX4_firstError_X4_signAt : GoodIn wsX4_firstError (wsV RX4 19 RX4 yX4_signAt wsX4_signAt) := goodIn_app (goodIn_of _ (by decide +kernel)) ggX4_firstError_X4_signAt
set_option maxRecDepth 20000 in
theorem ggX4_firstError_X4_sizeOf : GoodIn wsX4_firstError wsX4_sizeOf := goodIn_r _ [10] (by decide +kernel) (by decide +kernel)
set_option maxRecDepth 20000 in
theorem gX4_firstError_X4_sizeOf : GoodIn wsX4_firstError (va_wsS RX4 27 yX4_sizeOf wsX4_sizeOf) := goodIn_app (goodIn_of _ (by decide +kernel)) ggX4_firstError_X4_sizeOf
set_option maxRecDepth 20000 in
theorem ggX4_firstError_X4_isDigitAllowed : GoodIn wsX4_firstError wsX4_isDigitAllowed := goodIn_r _ [14, 15, 16, 17, 5, 18, 2, 3, 4, 6, 1, 7, 19, 20, 21, 22, 23] (by decide +kernel) (by decide +kernel)
set_option maxRecDepth 20000 in
theorem gX4_firstError_X4_isDigitAllowed : GoodIn wsX4_firstError (wsV RX4 31 RX4 yX4_isDigitAllowed wsX4_isDigitAllowed) := goodIn_app (goodIn_of _ (by decide +kernel)) ggX4_firstError_X4_isDigitAllowed
theorem dX4_firstError_0 : decode cX4_firstError 0 = .ok (.aload_n 0, 1) := by decide +kernel
theorem dX4_firstError_1 : decode cX4_firstError 1 = .ok (.iconst 0, 1) := by decide +kernel
theorem dX4_firstError_2 : decode cX4_firstError 2 = .ok (.invokevirtual 19, 3) := by decide +kernel
theorem dX4_firstError_5 : decode cX4_firstError 5 = .ok (.bipush 87, 2) := by decide +kernel
theorem dX4_firstError_7 : decode cX4_firstError 7 = .ok (.if_icmp .eq 5, 3) := by decide +kernel
theorem dX4_firstError_10 : decode cX4_firstError 10 = .ok (.iconst 0, 1) := by decide +kernel
theorem dX4_firstError_11 : decode cX4_firstError 11 = .ok (.ireturn, 1) := by decide +kernel
theorem dX4_firstError_12 : decode cX4_firstError 12 = .ok (.iconst 1, 1) := by decide +kernel
theorem dX4_firstError_13 : decode cX4_firstError 13 = .ok (.istore_n 1, 1) := by decide +kernel
theorem dX4_firstError_14 : decode cX4_firstError 14 = .ok (.iconst 0, 1) := by decide +kernel
theorem dX4_firstError_15 : decode cX4_firstError 15 = .ok (.istore_n 2, 1) := by decide +kernel
theorem dX4_firstError_16 : decode cX4_firstError 16 = .ok (.iload_n 2, 1) := by decide +kernel
theorem dX4_firstError_17 : decode cX4_firstError 17 = .ok (.bipush 120, 2) := by decide +kernel
theorem dX4_firstError_19 : decode cX4_firstError 19 = .ok (.if_icmp .ge 82, 3) := by decide +kernel
theorem dX4_firstError_22 : decode cX4_firstError 22 = .ok (.iload_n 1, 1) := by decide +kernel
theorem dX4_firstError_23 : decode cX4_firstError 23 = .ok (.aload_n 0, 1) := by decide +kernel
theorem dX4_firstError_24 : decode cX4_firstError 24 = .ok (.getfield 15, 3) := by decide +kernel
theorem dX4_firstError_27 : decode cX4_firstError 27 = .ok (.if_icmp .ge 74, 3) := by decide +kernel
theorem dX4_firstError_30 : decode cX4_firstError 30 = .ok (.aload_n 0, 1) := by decide +kernel
theorem dX4_firstError_31 : decode cX4_firstError 31 = .ok (.iload_n 1, 1) := by decide +kernel
theorem dX4_firstError_32 : decode cX4_firstError 32 = .ok (.invokevirtual 19, 3) := by decide +kernel
theorem dX4_firstError_35 : decode cX4_firstError 35 = .ok (.invokestatic 27, 3) := by decide +kernel
theorem dX4_firstError_38 : decode cX4_firstError 38 = .ok (.istore_n 3, 1) := by decide +kernel
theorem dX4_firstError_39 : decode cX4_firstError 39 = .ok (.iload_n 3, 1) := by decide +kernel
theorem dX4_firstError_40 : decode cX4_firstError 40 = .ok (.ifCond .ne 5, 3) := by decide +kernel
theorem dX4_firstError_43 : decode cX4_firstError 43 = .ok (.iload_n 1, 1) := by decide +kernel
theorem dX4_firstError_44 : decode cX4_firstError 44 = .ok (.ireturn, 1) := by decide +kernel
theorem dX4_firstError_45 : decode cX4_firstError 45 = .ok (.iconst 1, 1) := by decide +kernel
theorem dX4_firstError_46 : decode cX4_firstError 46 = .ok (.istore 4, 2) := by decide +kernel
theorem dX4_firstError_48 : decode cX4_firstError 48 = .ok (.iload 4, 2) := by decide +kernel
theorem dX4_firstError_50 : decode cX4_firstError 50 = .ok (.iload_n 3, 1) := by decide +kernel
theorem dX4_firstError_51 : decode cX4_firstError 51 = .ok (.if_icmp .ge 40, 3) := by decide +kernel
theorem dX4_firstError_54 : decode cX4_firstError 54 = .ok (.iload_n 1, 1) := by decide +kernel
theorem dX4_firstError_55 : decode cX4_firstError 55 = .ok (.iload 4, 2) := by decide +kernel
theorem dX4_firstError_57 : decode cX4_firstError 57 = .ok (.iadd, 1) := by decide +kernel
theorem dX4_firstError_58 : decode cX4_firstError 58 = .ok (.aload_n 0, 1) := by decide +kernel
theorem dX4_firstError_59 : decode cX4_firstError 59 = .ok (.getfield 15, 3) := by decide +kernel
theorem dX4_firstError_62 : decode cX4_firstError 62 = .ok (.if_icmp .lt 8, 3) := by decide +kernel
theorem dX4_firstError_65 : decode cX4_firstError 65 = .ok (.aload_n 0, 1) := by decide +kernel
theorem dX4_firstError_66 : decode cX4_firstError 66 = .ok (.getfield 15, 3) := by decide +kernel
theorem dX4_firstError_69 : decode cX4_firstError 69 = .ok (.ireturn, 1) := by decide +kernel
theorem dX4_firstError_70 : decode cX4_firstError 70 = .ok (.aload_n 0, 1) := by decide +kernel
theorem dX4_firstError_71 : decode cX4_firstError 71 = .ok (.iload_n 1, 1) := by decide +kernel
theorem dX4_firstError_72 : decode cX4_firstError 72 = .ok (.iload 4, 2) := by decide +kernel
theorem dX4_firstError_74 : decode cX4_firstError 74 = .ok (.invokevirtual 31, 3) := by decide +kernel
theorem dX4_firstError_77 : decode cX4_firstError 77 = .ok (.ifCond .ne 8, 3) := by decide +kernel
theorem dX4_firstError_80 : decode cX4_firstError 80 = .ok (.iload_n 1, 1) := by decide +kernel
theorem dX4_firstError_81 : decode cX4_firstError 81 = .ok (.iload 4, 2) := by decide +kernel
theorem dX4_firstError_83 : decode cX4_firstError 83 = .ok (.iadd, 1) := by decide +kernel
theorem dX4_firstError_84 : decode cX4_firstError 84 = .ok (.ireturn, 1) := by decide +kernel
theorem dX4_firstError_85 : decode cX4_firstError 85 = .ok (.iinc 4 1, 3) := by decide +kernel
theorem dX4_firstError_88 : decode cX4_firstError 88 = .ok (.goto (-40), 3) := by decide +kernel
theorem dX4_firstError_91 : decode cX4_firstError 91 = .ok (.iload_n 1, 1) := by decide +kernel
theorem dX4_firstError_92 : decode cX4_firstError 92 = .ok (.iload_n 3, 1) := by decide +kernel
theorem dX4_firstError_93 : decode cX4_firstError 93 = .ok (.iadd, 1) := by decide +kernel
theorem dX4_firstError_94 : decode cX4_firstError 94 = .ok (.istore_n 1, 1) := by decide +kernel
theorem dX4_firstError_95 : decode cX4_firstError 95 = .ok (.iinc 2 1, 3) := by decide +kernel
theorem dX4_firstError_98 : decode cX4_firstError 98 = .ok (.goto (-82), 3) := by decide +kernel
theorem dX4_firstError_101 : decode cX4_firstError 101 = .ok (.iconst (-1), 1) := by decide +kernel
theorem dX4_firstError_102 : decode cX4_firstError 102 = .ok (.ireturn, 1) := by decide +kernel
theorem dX4_sizeOf_0 : decode cX4_sizeOf 0 = .ok (.iload_n 0, 1) := by decide +kernel
theorem dX4_sizeOf_1 : decode cX4_sizeOf 1 = .ok (.tableswitch 109 98 119 #[103, 109, 105, 103, 103, 109, 109, 109, 109, 109, 109, 109, 105, 109, 109, 109, 109, 103, 109, 109, 107, 103], 103) := by decide +kernel
theorem dX4_sizeOf_104 : decode cX4_sizeOf 104 = .ok (.iconst 1, 1) := by decide +kernel
theorem dX4_sizeOf_105 : decode cX4_sizeOf 105 = .ok (.ireturn, 1) := by decide +kernel
theorem dX4_sizeOf_106 : decode cX4_sizeOf 106 = .ok (.iconst 3, 1) := by decide +kernel
theorem dX4_sizeOf_107 : decode cX4_sizeOf 107 = .ok (.ireturn, 1) := by decide +kernel
theorem dX4_sizeOf_108 : decode cX4_sizeOf 108 = .ok (.iconst 4, 1) := by decide +kernel
theorem dX4_sizeOf_109 : decode cX4_sizeOf 109 = .ok (.ireturn, 1) := by decide +kernel
theorem dX4_sizeOf_110 : decode cX4_sizeOf 110 = .ok (.iconst 0, 1) := by decide +kernel
theorem dX4_sizeOf_111 : decode cX4_sizeOf 111 = .ok (.ireturn, 1) := by decide +kernel
set_option maxRecDepth 20000 in
theorem ggX4_isDigitAllowed_X4_digitAt : GoodIn wsX4_isDigitAllowed wsX4_digitAt := goodIn_r _ [5, 6, 7, 8, 4, 9, 10, 11, 15, 16] (by decide +kernel) (by decide +kernel)
set_option maxRecDepth 20000 in
theorem gX4_isDigitAllowed_X4_digitAt : GoodIn wsX4_isDigitAllowed (wsV RX4 23 RX4 yX4_digitAt wsX4_digitAt) := goodIn_app (goodIn_of _ (by decide +kernel)) ggX4_isDigitAllowed_X4_digitAt
set_option maxRecDepth 20000 in
theorem ggX4_isDigitAllowed_X4_signAt : GoodIn wsX4_isDigitAllowed wsX4_signAt := goodIn_r _ [9, 10, 11, 15, 16] (by decide +kernel) (by decide +kernel)
set_option maxRecDepth 20000 in
theorem gX4_isDigitAllowed_X4_signAt : GoodIn wsX4_isDigitAllowed (wsV RX4 19 RX4 yX4_signAt wsX4_signAt) := goodIn_app (goodIn_of _ (by decide +kernel)) ggX4_isDigitAllowed_X4_signAt
set_option maxRecDepth 20000 in
theorem ggX4_isDigitAllowed_X4_isDigitOfSetting : GoodIn wsX4_isDigitAllowed wsX4_isDigitOfSetting := goodIn_r _ [14] (by decide +kernel) (by decide +kernel)
set_option maxRecDepth 20000 in
theorem gX4_isDigitAllowed_X4_isDigitOfSetting : GoodIn wsX4_isDigitAllowed (va_wsS RX4 35 yX4_isDigitOfSetting wsX4_isDigitOfSetting) := goodIn_app (goodIn_of _ (by decide +kernel)) ggX4_isDigitAllowed_X4_isDigitOfSetting
theorem dX4_isDigitAllowed_0 : decode cX4_isDigitAllowed 0 = .ok (.aload_n 0, 1) := by decide +kernel
theorem dX4_isDigitAllowed_1 : decode cX4_isDigitAllowed 1 = .ok (.iload_n 1, 1) := by decide +kernel
theorem dX4_isDigitAllowed_2 : decode cX4_isDigitAllowed 2 = .ok (.iload_n 2, 1) := by decide +kernel
theorem dX4_isDigitAllowed_3 : decode cX4_isDigitAllowed 3 = .ok (.iadd, 1) := by decide +kernel
theorem dX4_isDigitAllowed_4 : decode cX4_isDigitAllowed 4 = .ok (.invokevirtual 23, 3) := by decide +kernel
theorem dX4_isDigitAllowed_7 : decode cX4_isDigitAllowed 7 = .ok (.istore_n 3, 1) := by decide +kernel
theorem dX4_isDigitAllowed_8 : decode cX4_isDigitAllowed 8 = .ok (.iload_n 3, 1) := by decide +kernel
theorem dX4_isDigitAllowed_9 : decode cX4_isDigitAllowed 9 = .ok (.ifCond .lt 9, 3) := by decide +kernel
theorem dX4_isDigitAllowed_12 : decode cX4_isDigitAllowed 12 = .ok (.iload_n 3, 1) := by decide +kernel
theorem dX4_isDigitAllowed_13 : decode cX4_isDigitAllowed 13 = .ok (.bipush 9, 2) := by decide +kernel
theorem dX4_isDigitAllowed_15 : decode cX4_isDigitAllowed 15 = .ok (.if_icmp .le 5, 3) := by decide +kernel
theorem dX4_isDigitAllowed_18 : decode cX4_isDigitAllowed 18 = .ok (.iconst 0, 1) := by decide +kernel
theorem dX4_isDigitAllowed_19 : decode cX4_isDigitAllowed 19 = .ok (.ireturn, 1) := by decide +kernel
theorem dX4_isDigitAllowed_20 : decode cX4_isDigitAllowed 20 = .ok (.aload_n 0, 1) := by decide +kernel
theorem dX4_isDigitAllowed_21 : decode cX4_isDigitAllowed 21 = .ok (.iload_n 1, 1) := by decide +kernel
theorem dX4_isDigitAllowed_22 : decode cX4_isDigitAllowed 22 = .ok (.invokevirtual 19, 3) := by decide +kernel
theorem dX4_isDigitAllowed_25 : decode cX4_isDigitAllowed 25 = .ok (.lookupswitch 64 #[(100, 37), (110, 35), (118, 49)], 35) := by decide +kernel
theorem dX4_isDigitAllowed_60 : decode cX4_isDigitAllowed 60 = .ok (.iconst 1, 1) := by decide +kernel
theorem dX4_isDigitAllowed_61 : decode cX4_isDigitAllowed 61 = .ok (.ireturn, 1) := by decide +kernel
theorem dX4_isDigitAllowed_62 : decode cX4_isDigitAllowed 62 = .ok (.iload_n 3, 1) := by decide +kernel
theorem dX4_isDigitAllowed_63 : decode cX4_isDigitAllowed 63 = .ok (.bipush 8, 2) := by decide +kernel
theorem dX4_isDigitAllowed_65 : decode cX4_isDigitAllowed 65 = .ok (.if_icmp .ge 7, 3) := by decide +kernel
theorem dX4_isDigitAllowed_68 : decode cX4_isDigitAllowed 68 = .ok (.iconst 1, 1) := by decide +kernel
theorem dX4_isDigitAllowed_69 : decode cX4_isDigitAllowed 69 = .ok (.goto 4, 3) := by decide +kernel
theorem dX4_isDigitAllowed_72 : decode cX4_isDigitAllowed 72 = .ok (.iconst 0, 1) := by decide +kernel
theorem dX4_isDigitAllowed_73 : decode cX4_isDigitAllowed 73 = .ok (.ireturn, 1) := by decide +kernel
theorem dX4_isDigitAllowed_74 : decode cX4_isDigitAllowed 74 = .ok (.iload_n 2, 1) := by decide +kernel
theorem dX4_isDigitAllowed_75 : decode cX4_isDigitAllowed 75 = .ok (.iload_n 3, 1) := by decide +kernel
theorem dX4_isDigitAllowed_76 : decode cX4_isDigitAllowed 76 = .ok (.aload_n 0, 1) := by decide +kernel
theorem dX4_isDigitAllowed_77 : decode cX4_isDigitAllowed 77 = .ok (.iload_n 1, 1) := by decide +kernel
theorem dX4_isDigitAllowed_78 : decode cX4_isDigitAllowed 78 = .ok (.iload_n 2, 1) := by decide +kernel
theorem dX4_isDigitAllowed_79 : decode cX4_isDigitAllowed 79 = .ok (.iadd, 1) := by decide +kernel
theorem dX4_isDigitAllowed_80 : decode cX4_isDigitAllowed 80 = .ok (.iconst 1, 1) := by decide +kernel
theorem dX4_isDigitAllowed_81 : decode cX4_isDigitAllowed 81 = .ok (.isub, 1) := by decide +kernel
theorem dX4_isDigitAllowed_82 : decode cX4_isDigitAllowed 82 = .ok (.invokevirtual 23, 3) := by decide +kernel
theorem dX4_isDigitAllowed_85 : decode cX4_isDigitAllowed 85 = .ok (.invokestatic 35, 3) := by decide +kernel
theorem dX4_isDigitAllowed_88 : decode cX4_isDigitAllowed 88 = .ok (.ireturn, 1) := by decide +kernel
theorem dX4_isDigitAllowed_89 : decode cX4_isDigitAllowed 89 = .ok (.iconst 0, 1) := by decide +kernel
theorem dX4_isDigitAllowed_90 : decode cX4_isDigitAllowed 90 = .ok (.ireturn, 1) := by decide +kernel
theorem dX4_isDigitOfSetting_0 : decode cX4_isDigitOfSetting 0 = .ok (.iload_n 0, 1) := by decide +kernel
theorem dX4_isDigitOfSetting_1 : decode cX4_isDigitOfSetting 1 = .ok (.iconst 1, 1) := by decide +kernel
theorem dX4_isDigitOfSetting_2 : decode cX4_isDigitOfSetting 2 = .ok (.if_icmp .ne 14, 3) := by decide +kernel
theorem dX4_isDigitOfSetting_5 : decode cX4_isDigitOfSetting 5 = .ok (.iload_n 1, 1) := by decide +kernel
theorem dX4_isDigitOfSetting_6 : decode cX4_isDigitOfSetting 6 = .ok (.iconst 1, 1) := by decide +kernel
theorem dX4_isDigitOfSetting_7 : decode cX4_isDigitOfSetting 7 = .ok (.if_icmp .gt 7, 3) := by decide +kernel
theorem dX4_isDigitOfSetting_10 : decode cX4_isDigitOfSetting 10 = .ok (.iconst 1, 1) := by decide +kernel
theorem dX4_isDigitOfSetting_11 : decode cX4_isDigitOfSetting 11 = .ok (.goto 4, 3) := by decide +kernel
theorem dX4_isDigitOfSetting_14 : decode cX4_isDigitOfSetting 14 = .ok (.iconst 0, 1) := by decide +kernel
theorem dX4_isDigitOfSetting_15 : decode cX4_isDigitOfSetting 15 = .ok (.ireturn, 1) := by decide +kernel
theorem dX4_isDigitOfSetting_16 : decode cX4_isDigitOfSetting 16 = .ok (.iload_n 0, 1) := by decide +kernel
theorem dX4_isDigitOfSetting_17 : decode cX4_isDigitOfSetting 17 = .ok (.iconst 2, 1) := by decide +kernel
theorem dX4_isDigitOfSetting_18 : decode cX4_isDigitOfSetting 18 = .ok (.if_icmp .ne 14, 3) := by decide +kernel
theorem dX4_isDigitOfSetting_21 : decode cX4_isDigitOfSetting 21 = .ok (.iload_n 1, 1) := by decide +kernel
theorem dX4_isDigitOfSetting_22 : decode cX4_isDigitOfSetting 22 = .ok (.iconst 4, 1) := by decide +kernel
theorem dX4_isDigitOfSetting_23 : decode cX4_isDigitOfSetting 23 = .ok (.if_icmp .gt 7, 3) := by decide +kernel
theorem dX4_isDigitOfSetting_26 : decode cX4_isDigitOfSetting 26 = .ok (.iconst 1, 1) := by decide +kernel
theorem dX4_isDigitOfSetting_27 : decode cX4_isDigitOfSetting 27 = .ok (.goto 4, 3) := by decide +kernel
theorem dX4_isDigitOfSetting_30 : decode cX4_isDigitOfSetting 30 = .ok (.iconst 0, 1) := by decide +kernel
theorem dX4_isDigitOfSetting_31 : decode cX4_isDigitOfSetting 31 = .ok (.ireturn, 1) := by decide +kernel
theorem dX4_isDigitOfSetting_32 : decode cX4_isDigitOfSetting 32 = .ok (.iload_n 2, 1) := by decide +kernel
theorem dX4_isDigitOfSetting_33 : decode cX4_isDigitOfSetting 33 = .ok (.ifCond .ne 13, 3) := by decide +kernel
theorem dX4_isDigitOfSetting_36 : decode cX4_isDigitOfSetting 36 = .ok (.iload_n 1, 1) := by decide +kernel
theorem dX4_isDigitOfSetting_37 : decode cX4_isDigitOfSetting 37 = .ok (.ifCond .le 7, 3) := by decide +kernel
theorem dX4_isDigitOfSetting_40 : decode cX4_isDigitOfSetting 40 = .ok (.iconst 1, 1) := by decide +kernel
theorem dX4_isDigitOfSetting_41 : decode cX4_isDigitOfSetting 41 = .ok (.goto 4, 3) := by decide +kernel
theorem dX4_isDigitOfSetting_44 : decode cX4_isDigitOfSetting 44 = .ok (.iconst 0, 1) := by decide +kernel
theorem dX4_isDigitOfSetting_45 : decode cX4_isDigitOfSetting 45 = .ok (.ireturn, 1) := by decide +kernel
theorem dX4_isDigitOfSetting_46 : decode cX4_isDigitOfSetting 46 = .ok (.iload_n 2, 1) := by decide +kernel
theorem dX4_isDigitOfSetting_47 : decode cX4_isDigitOfSetting 47 = .ok (.iconst 4, 1) := by decide +kernel
theorem dX4_isDigitOfSetting_48 : decode cX4_isDigitOfSetting 48 = .ok (.if_icmp .lt 7, 3) := by decide +kernel
theorem dX4_isDigitOfSetting_51 : decode cX4_isDigitOfSetting 51 = .ok (.iload_n 1, 1) := by decide +kernel
theorem dX4_isDigitOfSetting_52 : decode cX4_isDigitOfSetting 52 = .ok (.ifCond .ne 7, 3) := by decide +kernel
theorem dX4_isDigitOfSetting_55 : decode cX4_isDigitOfSetting 55 = .ok (.iconst 1, 1) := by decide +kernel
theorem dX4_isDigitOfSetting_56 : decode cX4_isDigitOfSetting 56 = .ok (.goto 4, 3) := by decide +kernel
theorem dX4_isDigitOfSetting_59 : decode cX4_isDigitOfSetting 59 = .ok (.iconst 0, 1) := by decide +kernel
theorem dX4_isDigitOfSetting_60 : decode cX4_isDigitOfSetting 60 = .ok (.ireturn, 1) := by decide +kernel
set_option maxRecDepth 20000 in
theorem ggX5_init_X6_cellBeside : GoodIn wsX5_init wsX6_cellBeside := goodIn_r _ [14, 15, 16, 13, 17, 18, 19, 20] (by decide +kernel) (by decide +kernel)
set_option maxRecDepth 20000 in
theorem gX5_init_X6_cellBeside_n31 : GoodIn wsX5_init (wsX6_cellBeside) := ggX5_init_X6_cellBeside
theorem dX5_init_0 : decode cX5_init 0 = .ok (.aload_n 0, 1) := by decide +kernel
theorem dX5_init_1 : decode cX5_init 1 = .ok (.invokespecial 3, 3) := by decide +kernel
theorem dX5_init_4 : decode cX5_init 4 = .ok (.aload_n 0, 1) := by decide +kernel
theorem dX5_init_5 : decode cX5_init 5 = .ok (.sipush 192, 3) := by decide +kernel
theorem dX5_init_8 : decode cX5_init 8 = .ok (.newarray .int, 2) := by decide +kernel
theorem dX5_init_10 : decode cX5_init 10 = .ok (.putfield 9, 3) := by decide +kernel
theorem dX5_init_13 : decode cX5_init 13 = .ok (.aload_n 0, 1) := by decide +kernel
theorem dX5_init_14 : decode cX5_init 14 = .ok (.bipush 64, 2) := by decide +kernel
theorem dX5_init_16 : decode cX5_init 16 = .ok (.newarray .boolean, 2) := by decide +kernel
theorem dX5_init_18 : decode cX5_init 18 = .ok (.putfield 15, 3) := by decide +kernel
theorem dX5_init_21 : decode cX5_init 21 = .ok (.aload_n 0, 1) := by decide +kernel
theorem dX5_init_22 : decode cX5_init 22 = .ok (.bipush 64, 2) := by decide +kernel
theorem dX5_init_24 : decode cX5_init 24 = .ok (.newarray .int, 2) := by decide +kernel
theorem dX5_init_26 : decode cX5_init 26 = .ok (.putfield 19, 3) := by decide +kernel
theorem dX5_init_29 : decode cX5_init 29 = .ok (.aload_n 0, 1) := by decide +kernel
theorem dX5_init_30 : decode cX5_init 30 = .ok (.bipush 64, 2) := by decide +kernel
theorem dX5_init_32 : decode cX5_init 32 = .ok (.newarray .int, 2) := by decide +kernel
theorem dX5_init_34 : decode cX5_init 34 = .ok (.putfield 22, 3) := by decide +kernel
theorem dX5_init_37 : decode cX5_init 37 = .ok (.aload_n 0, 1) := by decide +kernel
theorem dX5_init_38 : decode cX5_init 38 = .ok (.bipush 64, 2) := by decide +kernel
theorem dX5_init_40 : decode cX5_init 40 = .ok (.newarray .int, 2) := by decide +kernel
theorem dX5_init_42 : decode cX5_init 42 = .ok (.putfield 25, 3) := by decide +kernel
theorem dX5_init_45 : decode cX5_init 45 = .ok (.aload_n 0, 1) := by decide +kernel
theorem dX5_init_46 : decode cX5_init 46 = .ok (.bipush 64, 2) := by decide +kernel
theorem dX5_init_48 : decode cX5_init 48 = .ok (.newarray .boolean, 2) := by decide +kernel
theorem dX5_init_50 : decode cX5_init 50 = .ok (.putfield 28, 3) := by decide +kernel
theorem dX5_init_53 : decode cX5_init 53 = .ok (.iconst 0, 1) := by decide +kernel
theorem dX5_init_54 : decode cX5_init 54 = .ok (.istore_n 1, 1) := by decide +kernel
theorem dX5_init_55 : decode cX5_init 55 = .ok (.iload_n 1, 1) := by decide +kernel
theorem dX5_init_56 : decode cX5_init 56 = .ok (.sipush 192, 3) := by decide +kernel
theorem dX5_init_59 : decode cX5_init 59 = .ok (.if_icmp .ge 24, 3) := by decide +kernel
theorem dX5_init_62 : decode cX5_init 62 = .ok (.aload_n 0, 1) := by decide +kernel
theorem dX5_init_63 : decode cX5_init 63 = .ok (.getfield 9, 3) := by decide +kernel
theorem dX5_init_66 : decode cX5_init 66 = .ok (.iload_n 1, 1) := by decide +kernel
theorem dX5_init_67 : decode cX5_init 67 = .ok (.iload_n 1, 1) := by decide +kernel
theorem dX5_init_68 : decode cX5_init 68 = .ok (.iconst 3, 1) := by decide +kernel
theorem dX5_init_69 : decode cX5_init 69 = .ok (.idiv, 1) := by decide +kernel
theorem dX5_init_70 : decode cX5_init 70 = .ok (.iload_n 1, 1) := by decide +kernel
theorem dX5_init_71 : decode cX5_init 71 = .ok (.iconst 3, 1) := by decide +kernel
theorem dX5_init_72 : decode cX5_init 72 = .ok (.irem, 1) := by decide +kernel
theorem dX5_init_73 : decode cX5_init 73 = .ok (.invokestatic 31, 3) := by decide +kernel
theorem dX5_init_76 : decode cX5_init 76 = .ok (.iastore, 1) := by decide +kernel
theorem dX5_init_77 : decode cX5_init 77 = .ok (.iinc 1 1, 3) := by decide +kernel
theorem dX5_init_80 : decode cX5_init 80 = .ok (.goto (-25), 3) := by decide +kernel
theorem dX5_init_83 : decode cX5_init 83 = .ok (.return_, 1) := by decide +kernel
theorem dX5_openFree_0 : decode cX5_openFree 0 = .ok (.iconst 0, 1) := by decide +kernel
theorem dX5_openFree_1 : decode cX5_openFree 1 = .ok (.istore_n 2, 1) := by decide +kernel
theorem dX5_openFree_2 : decode cX5_openFree 2 = .ok (.iload_n 2, 1) := by decide +kernel
theorem dX5_openFree_3 : decode cX5_openFree 3 = .ok (.bipush 64, 2) := by decide +kernel
theorem dX5_openFree_5 : decode cX5_openFree 5 = .ok (.if_icmp .ge 54, 3) := by decide +kernel
theorem dX5_openFree_8 : decode cX5_openFree 8 = .ok (.aload_n 0, 1) := by decide +kernel
theorem dX5_openFree_9 : decode cX5_openFree 9 = .ok (.getfield 15, 3) := by decide +kernel
theorem dX5_openFree_12 : decode cX5_openFree 12 = .ok (.iload_n 2, 1) := by decide +kernel
theorem dX5_openFree_13 : decode cX5_openFree 13 = .ok (.aload_n 1, 1) := by decide +kernel
theorem dX5_openFree_14 : decode cX5_openFree 14 = .ok (.getfield 35, 3) := by decide +kernel
theorem dX5_openFree_17 : decode cX5_openFree 17 = .ok (.iload_n 2, 1) := by decide +kernel
theorem dX5_openFree_18 : decode cX5_openFree 18 = .ok (.iaload, 1) := by decide +kernel
theorem dX5_openFree_19 : decode cX5_openFree 19 = .ok (.iconst (-1), 1) := by decide +kernel
theorem dX5_openFree_20 : decode cX5_openFree 20 = .ok (.if_icmp .ne 31, 3) := by decide +kernel
theorem dX5_openFree_23 : decode cX5_openFree 23 = .ok (.aload_n 1, 1) := by decide +kernel
theorem dX5_openFree_24 : decode cX5_openFree 24 = .ok (.getfield 40, 3) := by decide +kernel
theorem dX5_openFree_27 : decode cX5_openFree 27 = .ok (.getfield 44, 3) := by decide +kernel
theorem dX5_openFree_30 : decode cX5_openFree 30 = .ok (.iload_n 2, 1) := by decide +kernel
theorem dX5_openFree_31 : decode cX5_openFree 31 = .ok (.baload, 1) := by decide +kernel
theorem dX5_openFree_32 : decode cX5_openFree 32 = .ok (.ifCond .ne 19, 3) := by decide +kernel
theorem dX5_openFree_35 : decode cX5_openFree 35 = .ok (.aload_n 1, 1) := by decide +kernel
theorem dX5_openFree_36 : decode cX5_openFree 36 = .ok (.getfield 49, 3) := by decide +kernel
theorem dX5_openFree_39 : decode cX5_openFree 39 = .ok (.getfield 44, 3) := by decide +kernel
theorem dX5_openFree_42 : decode cX5_openFree 42 = .ok (.iload_n 2, 1) := by decide +kernel
theorem dX5_openFree_43 : decode cX5_openFree 43 = .ok (.baload, 1) := by decide +kernel
theorem dX5_openFree_44 : decode cX5_openFree 44 = .ok (.ifCond .ne 7, 3) := by decide +kernel
theorem dX5_openFree_47 : decode cX5_openFree 47 = .ok (.iconst 1, 1) := by decide +kernel
theorem dX5_openFree_48 : decode cX5_openFree 48 = .ok (.goto 4, 3) := by decide +kernel
theorem dX5_openFree_51 : decode cX5_openFree 51 = .ok (.iconst 0, 1) := by decide +kernel
theorem dX5_openFree_52 : decode cX5_openFree 52 = .ok (.bastore, 1) := by decide +kernel
theorem dX5_openFree_53 : decode cX5_openFree 53 = .ok (.iinc 2 1, 3) := by decide +kernel
theorem dX5_openFree_56 : decode cX5_openFree 56 = .ok (.goto (-54), 3) := by decide +kernel
theorem dX5_openFree_59 : decode cX5_openFree 59 = .ok (.return_, 1) := by decide +kernel
theorem dX5_openBesides_0 : decode cX5_openBesides 0 = .ok (.iconst 0, 1) := by decide +kernel
theorem dX5_openBesides_1 : decode cX5_openBesides 1 = .ok (.istore_n 3, 1) := by decide +kernel
theorem dX5_openBesides_2 : decode cX5_openBesides 2 = .ok (.iload_n 3, 1) := by decide +kernel
theorem dX5_openBesides_3 : decode cX5_openBesides 3 = .ok (.bipush 64, 2) := by decide +kernel
theorem dX5_openBesides_5 : decode cX5_openBesides 5 = .ok (.if_icmp .ge 39, 3) := by decide +kernel
theorem dX5_openBesides_8 : decode cX5_openBesides 8 = .ok (.aload_n 0, 1) := by decide +kernel
theorem dX5_openBesides_9 : decode cX5_openBesides 9 = .ok (.getfield 15, 3) := by decide +kernel
theorem dX5_openBesides_12 : decode cX5_openBesides 12 = .ok (.iload_n 3, 1) := by decide +kernel
theorem dX5_openBesides_13 : decode cX5_openBesides 13 = .ok (.aload_n 1, 1) := by decide +kernel
theorem dX5_openBesides_14 : decode cX5_openBesides 14 = .ok (.getfield 35, 3) := by decide +kernel
theorem dX5_openBesides_17 : decode cX5_openBesides 17 = .ok (.iload_n 3, 1) := by decide +kernel
theorem dX5_openBesides_18 : decode cX5_openBesides 18 = .ok (.iaload, 1) := by decide +kernel
theorem dX5_openBesides_19 : decode cX5_openBesides 19 = .ok (.iconst (-1), 1) := by decide +kernel
theorem dX5_openBesides_20 : decode cX5_openBesides 20 = .ok (.if_icmp .ne 16, 3) := by decide +kernel
theorem dX5_openBesides_23 : decode cX5_openBesides 23 = .ok (.aload_n 2, 1) := by decide +kernel
theorem dX5_openBesides_24 : decode cX5_openBesides 24 = .ok (.getfield 44, 3) := by decide +kernel
theorem dX5_openBesides_27 : decode cX5_openBesides 27 = .ok (.iload_n 3, 1) := by decide +kernel
theorem dX5_openBesides_28 : decode cX5_openBesides 28 = .ok (.baload, 1) := by decide +kernel
theorem dX5_openBesides_29 : decode cX5_openBesides 29 = .ok (.ifCond .ne 7, 3) := by decide +kernel
theorem dX5_openBesides_32 : decode cX5_openBesides 32 = .ok (.iconst 1, 1) := by decide +kernel
theorem dX5_openBesides_33 : decode cX5_openBesides 33 = .ok (.goto 4, 3) := by decide +kernel
theorem dX5_openBesides_36 : decode cX5_openBesides 36 = .ok (.iconst 0, 1) := by decide +kernel
theorem dX5_openBesides_37 : decode cX5_openBesides 37 = .ok (.bastore, 1) := by decide +kernel
theorem dX5_openBesides_38 : decode cX5_openBesides 38 = .ok (.iinc 3 1, 3) := by decide +kernel
theorem dX5_openBesides_41 : decode cX5_openBesides 41 = .ok (.goto (-39), 3) := by decide +kernel
theorem dX5_openBesides_44 : decode cX5_openBesides 44 = .ok (.return_, 1) := by decide +kernel
theorem dX5_beginFrom_0 : decode cX5_beginFrom 0 = .ok (.iconst 0, 1) := by decide +kernel
theorem dX5_beginFrom_1 : decode cX5_beginFrom 1 = .ok (.istore_n 2, 1) := by decide +kernel
theorem dX5_beginFrom_2 : decode cX5_beginFrom 2 = .ok (.iload_n 2, 1) := by decide +kernel
theorem dX5_beginFrom_3 : decode cX5_beginFrom 3 = .ok (.bipush 64, 2) := by decide +kernel
theorem dX5_beginFrom_5 : decode cX5_beginFrom 5 = .ok (.if_icmp .ge 32, 3) := by decide +kernel
theorem dX5_beginFrom_8 : decode cX5_beginFrom 8 = .ok (.aload_n 0, 1) := by decide +kernel
theorem dX5_beginFrom_9 : decode cX5_beginFrom 9 = .ok (.getfield 19, 3) := by decide +kernel
theorem dX5_beginFrom_12 : decode cX5_beginFrom 12 = .ok (.iload_n 2, 1) := by decide +kernel
theorem dX5_beginFrom_13 : decode cX5_beginFrom 13 = .ok (.iload_n 2, 1) := by decide +kernel
theorem dX5_beginFrom_14 : decode cX5_beginFrom 14 = .ok (.iload_n 1, 1) := by decide +kernel
theorem dX5_beginFrom_15 : decode cX5_beginFrom 15 = .ok (.if_icmp .ne 7, 3) := by decide +kernel
theorem dX5_beginFrom_18 : decode cX5_beginFrom 18 = .ok (.iconst 0, 1) := by decide +kernel
theorem dX5_beginFrom_19 : decode cX5_beginFrom 19 = .ok (.goto 4, 3) := by decide +kernel
theorem dX5_beginFrom_22 : decode cX5_beginFrom 22 = .ok (.iconst (-1), 1) := by decide +kernel
theorem dX5_beginFrom_23 : decode cX5_beginFrom 23 = .ok (.iastore, 1) := by decide +kernel
theorem dX5_beginFrom_24 : decode cX5_beginFrom 24 = .ok (.aload_n 0, 1) := by decide +kernel
theorem dX5_beginFrom_25 : decode cX5_beginFrom 25 = .ok (.getfield 28, 3) := by decide +kernel
theorem dX5_beginFrom_28 : decode cX5_beginFrom 28 = .ok (.iload_n 2, 1) := by decide +kernel
theorem dX5_beginFrom_29 : decode cX5_beginFrom 29 = .ok (.iconst 0, 1) := by decide +kernel
theorem dX5_beginFrom_30 : decode cX5_beginFrom 30 = .ok (.bastore, 1) := by decide +kernel
theorem dX5_beginFrom_31 : decode cX5_beginFrom 31 = .ok (.iinc 2 1, 3) := by decide +kernel
theorem dX5_beginFrom_34 : decode cX5_beginFrom 34 = .ok (.goto (-32), 3) := by decide +kernel
theorem dX5_beginFrom_37 : decode cX5_beginFrom 37 = .ok (.return_, 1) := by decide +kernel
set_option maxRecDepth 20000 in
theorem ggX5_spreadFrom_X5_beginFrom : GoodIn wsX5_spreadFrom wsX5_beginFrom := goodIn_r _ [9, 4, 10, 14, 15, 16, 17, 18, 19] (by decide +kernel) (by decide +kernel)
set_option maxRecDepth 20000 in
theorem gX5_spreadFrom_X5_beginFrom : GoodIn wsX5_spreadFrom (wsV RX5 52 RX5 yX5_beginFrom wsX5_beginFrom) := goodIn_app (goodIn_of _ (by decide +kernel)) ggX5_spreadFrom_X5_beginFrom
set_option maxRecDepth 20000 in
theorem ggX5_spreadFrom_X6_fits : GoodIn wsX5_spreadFrom wsX6_fits := goodIn_r _ [13] (by decide +kernel) (by decide +kernel)
set_option maxRecDepth 20000 in
theorem gX5_spreadFrom_X6_fits_n56 : GoodIn wsX5_spreadFrom (wsX6_fits) := ggX5_spreadFrom_X6_fits
theorem dX5_spreadFrom_0 : decode cX5_spreadFrom 0 = .ok (.aload_n 0, 1) := by decide +kernel
theorem dX5_spreadFrom_1 : decode cX5_spreadFrom 1 = .ok (.iload_n 1, 1) := by decide +kernel
theorem dX5_spreadFrom_2 : decode cX5_spreadFrom 2 = .ok (.invokevirtual 52, 3) := by decide +kernel
theorem dX5_spreadFrom_5 : decode cX5_spreadFrom 5 = .ok (.aload_n 0, 1) := by decide +kernel
theorem dX5_spreadFrom_6 : decode cX5_spreadFrom 6 = .ok (.getfield 25, 3) := by decide +kernel
theorem dX5_spreadFrom_9 : decode cX5_spreadFrom 9 = .ok (.iconst 0, 1) := by decide +kernel
theorem dX5_spreadFrom_10 : decode cX5_spreadFrom 10 = .ok (.iload_n 1, 1) := by decide +kernel
theorem dX5_spreadFrom_11 : decode cX5_spreadFrom 11 = .ok (.iastore, 1) := by decide +kernel
theorem dX5_spreadFrom_12 : decode cX5_spreadFrom 12 = .ok (.iconst 1, 1) := by decide +kernel
theorem dX5_spreadFrom_13 : decode cX5_spreadFrom 13 = .ok (.istore_n 2, 1) := by decide +kernel
theorem dX5_spreadFrom_14 : decode cX5_spreadFrom 14 = .ok (.iconst 0, 1) := by decide +kernel
theorem dX5_spreadFrom_15 : decode cX5_spreadFrom 15 = .ok (.istore_n 3, 1) := by decide +kernel
theorem dX5_spreadFrom_16 : decode cX5_spreadFrom 16 = .ok (.iload_n 3, 1) := by decide +kernel
theorem dX5_spreadFrom_17 : decode cX5_spreadFrom 17 = .ok (.iload_n 2, 1) := by decide +kernel
theorem dX5_spreadFrom_18 : decode cX5_spreadFrom 18 = .ok (.if_icmp .ge 122, 3) := by decide +kernel
theorem dX5_spreadFrom_21 : decode cX5_spreadFrom 21 = .ok (.iload_n 3, 1) := by decide +kernel
theorem dX5_spreadFrom_22 : decode cX5_spreadFrom 22 = .ok (.bipush 64, 2) := by decide +kernel
theorem dX5_spreadFrom_24 : decode cX5_spreadFrom 24 = .ok (.if_icmp .ge 116, 3) := by decide +kernel
theorem dX5_spreadFrom_27 : decode cX5_spreadFrom 27 = .ok (.aload_n 0, 1) := by decide +kernel
theorem dX5_spreadFrom_28 : decode cX5_spreadFrom 28 = .ok (.getfield 25, 3) := by decide +kernel
theorem dX5_spreadFrom_31 : decode cX5_spreadFrom 31 = .ok (.iload_n 3, 1) := by decide +kernel
theorem dX5_spreadFrom_32 : decode cX5_spreadFrom 32 = .ok (.iaload, 1) := by decide +kernel
theorem dX5_spreadFrom_33 : decode cX5_spreadFrom 33 = .ok (.istore 4, 2) := by decide +kernel
theorem dX5_spreadFrom_35 : decode cX5_spreadFrom 35 = .ok (.iconst 0, 1) := by decide +kernel
theorem dX5_spreadFrom_36 : decode cX5_spreadFrom 36 = .ok (.istore 5, 2) := by decide +kernel
theorem dX5_spreadFrom_38 : decode cX5_spreadFrom 38 = .ok (.iload 4, 2) := by decide +kernel
theorem dX5_spreadFrom_40 : decode cX5_spreadFrom 40 = .ok (.invokestatic 56, 3) := by decide +kernel
theorem dX5_spreadFrom_43 : decode cX5_spreadFrom 43 = .ok (.ifCond .eq 91, 3) := by decide +kernel
theorem dX5_spreadFrom_46 : decode cX5_spreadFrom 46 = .ok (.iload 5, 2) := by decide +kernel
theorem dX5_spreadFrom_48 : decode cX5_spreadFrom 48 = .ok (.iconst 3, 1) := by decide +kernel
theorem dX5_spreadFrom_49 : decode cX5_spreadFrom 49 = .ok (.if_icmp .ge 85, 3) := by decide +kernel
theorem dX5_spreadFrom_52 : decode cX5_spreadFrom 52 = .ok (.aload_n 0, 1) := by decide +kernel
theorem dX5_spreadFrom_53 : decode cX5_spreadFrom 53 = .ok (.getfield 9, 3) := by decide +kernel
theorem dX5_spreadFrom_56 : decode cX5_spreadFrom 56 = .ok (.iload 4, 2) := by decide +kernel
theorem dX5_spreadFrom_58 : decode cX5_spreadFrom 58 = .ok (.iconst 3, 1) := by decide +kernel
theorem dX5_spreadFrom_59 : decode cX5_spreadFrom 59 = .ok (.imul, 1) := by decide +kernel
theorem dX5_spreadFrom_60 : decode cX5_spreadFrom 60 = .ok (.iload 5, 2) := by decide +kernel
theorem dX5_spreadFrom_62 : decode cX5_spreadFrom 62 = .ok (.iadd, 1) := by decide +kernel
theorem dX5_spreadFrom_63 : decode cX5_spreadFrom 63 = .ok (.iaload, 1) := by decide +kernel
theorem dX5_spreadFrom_64 : decode cX5_spreadFrom 64 = .ok (.istore 6, 2) := by decide +kernel
theorem dX5_spreadFrom_66 : decode cX5_spreadFrom 66 = .ok (.iload 6, 2) := by decide +kernel
theorem dX5_spreadFrom_68 : decode cX5_spreadFrom 68 = .ok (.invokestatic 56, 3) := by decide +kernel
theorem dX5_spreadFrom_71 : decode cX5_spreadFrom 71 = .ok (.ifCond .eq 57, 3) := by decide +kernel
theorem dX5_spreadFrom_74 : decode cX5_spreadFrom 74 = .ok (.aload_n 0, 1) := by decide +kernel
theorem dX5_spreadFrom_75 : decode cX5_spreadFrom 75 = .ok (.getfield 15, 3) := by decide +kernel
theorem dX5_spreadFrom_78 : decode cX5_spreadFrom 78 = .ok (.iload 6, 2) := by decide +kernel
theorem dX5_spreadFrom_80 : decode cX5_spreadFrom 80 = .ok (.baload, 1) := by decide +kernel
theorem dX5_spreadFrom_81 : decode cX5_spreadFrom 81 = .ok (.ifCond .eq 47, 3) := by decide +kernel
theorem dX5_spreadFrom_84 : decode cX5_spreadFrom 84 = .ok (.aload_n 0, 1) := by decide +kernel
theorem dX5_spreadFrom_85 : decode cX5_spreadFrom 85 = .ok (.getfield 19, 3) := by decide +kernel
theorem dX5_spreadFrom_88 : decode cX5_spreadFrom 88 = .ok (.iload 6, 2) := by decide +kernel
theorem dX5_spreadFrom_90 : decode cX5_spreadFrom 90 = .ok (.iaload, 1) := by decide +kernel
theorem dX5_spreadFrom_91 : decode cX5_spreadFrom 91 = .ok (.iconst (-1), 1) := by decide +kernel
theorem dX5_spreadFrom_92 : decode cX5_spreadFrom 92 = .ok (.if_icmp .ne 36, 3) := by decide +kernel
theorem dX5_spreadFrom_95 : decode cX5_spreadFrom 95 = .ok (.iload_n 2, 1) := by decide +kernel
theorem dX5_spreadFrom_96 : decode cX5_spreadFrom 96 = .ok (.bipush 64, 2) := by decide +kernel
theorem dX5_spreadFrom_98 : decode cX5_spreadFrom 98 = .ok (.if_icmp .ge 30, 3) := by decide +kernel
theorem dX5_spreadFrom_101 : decode cX5_spreadFrom 101 = .ok (.aload_n 0, 1) := by decide +kernel
theorem dX5_spreadFrom_102 : decode cX5_spreadFrom 102 = .ok (.getfield 19, 3) := by decide +kernel
theorem dX5_spreadFrom_105 : decode cX5_spreadFrom 105 = .ok (.iload 6, 2) := by decide +kernel
theorem dX5_spreadFrom_107 : decode cX5_spreadFrom 107 = .ok (.aload_n 0, 1) := by decide +kernel
theorem dX5_spreadFrom_108 : decode cX5_spreadFrom 108 = .ok (.getfield 19, 3) := by decide +kernel
theorem dX5_spreadFrom_111 : decode cX5_spreadFrom 111 = .ok (.iload 4, 2) := by decide +kernel
theorem dX5_spreadFrom_113 : decode cX5_spreadFrom 113 = .ok (.iaload, 1) := by decide +kernel
theorem dX5_spreadFrom_114 : decode cX5_spreadFrom 114 = .ok (.iconst 1, 1) := by decide +kernel
theorem dX5_spreadFrom_115 : decode cX5_spreadFrom 115 = .ok (.iadd, 1) := by decide +kernel
theorem dX5_spreadFrom_116 : decode cX5_spreadFrom 116 = .ok (.iastore, 1) := by decide +kernel
theorem dX5_spreadFrom_117 : decode cX5_spreadFrom 117 = .ok (.aload_n 0, 1) := by decide +kernel
theorem dX5_spreadFrom_118 : decode cX5_spreadFrom 118 = .ok (.getfield 25, 3) := by decide +kernel
theorem dX5_spreadFrom_121 : decode cX5_spreadFrom 121 = .ok (.iload_n 2, 1) := by decide +kernel
theorem dX5_spreadFrom_122 : decode cX5_spreadFrom 122 = .ok (.iload 6, 2) := by decide +kernel
theorem dX5_spreadFrom_124 : decode cX5_spreadFrom 124 = .ok (.iastore, 1) := by decide +kernel
theorem dX5_spreadFrom_125 : decode cX5_spreadFrom 125 = .ok (.iinc 2 1, 3) := by decide +kernel
theorem dX5_spreadFrom_128 : decode cX5_spreadFrom 128 = .ok (.iinc 5 1, 3) := by decide +kernel
theorem dX5_spreadFrom_131 : decode cX5_spreadFrom 131 = .ok (.goto (-93), 3) := by decide +kernel
theorem dX5_spreadFrom_134 : decode cX5_spreadFrom 134 = .ok (.iinc 3 1, 3) := by decide +kernel
theorem dX5_spreadFrom_137 : decode cX5_spreadFrom 137 = .ok (.goto (-121), 3) := by decide +kernel
theorem dX5_spreadFrom_140 : decode cX5_spreadFrom 140 = .ok (.return_, 1) := by decide +kernel
set_option maxRecDepth 20000 in
theorem ggX5_isShutIn_X0_sideOf : GoodIn wsX5_isShutIn wsX0_sideOf := goodIn_r _ [7, 8, 9, 49, 50, 51, 52, 53, 54, 55, 56, 57, 58, 59, 60] (by decide +kernel) (by decide +kernel)
set_option maxRecDepth 20000 in
theorem gX5_isShutIn_X0_sideOf : GoodIn wsX5_isShutIn (wsV RX5 60 RX0 yX0_sideOf wsX0_sideOf) := goodIn_app (goodIn_of _ (by decide +kernel)) ggX5_isShutIn_X0_sideOf
set_option maxRecDepth 20000 in
theorem ggX5_isShutIn_X5_openBesides : GoodIn wsX5_isShutIn wsX5_openBesides := goodIn_r _ [14, 1, 15, 16, 43, 44, 45, 46, 47, 48, 49, 50, 51, 52, 53, 54, 55, 56, 57, 58, 59, 60, 61, 62, 63, 64, 65, 66, 67, 68] (by decide +kernel) (by decide +kernel)
set_option maxRecDepth 20000 in
theorem gX5_isShutIn_X5_openBesides : GoodIn wsX5_isShutIn (wsV RX5 64 RX5 yX5_openBesides wsX5_openBesides) := goodIn_app (goodIn_of _ (by decide +kernel)) ggX5_isShutIn_X5_openBesides
set_option maxRecDepth 20000 in
theorem ggX5_isShutIn_X6_fits : GoodIn wsX5_isShutIn wsX6_fits := goodIn_r _ [19] (by decide +kernel) (by decide +kernel)
set_option maxRecDepth 20000 in
theorem gX5_isShutIn_X6_fits_n56 : GoodIn wsX5_isShutIn (wsX6_fits) := ggX5_isShutIn_X6_fits
set_option maxRecDepth 20000 in
theorem ggX5_isShutIn_X2_head : GoodIn wsX5_isShutIn wsX2_head := goodIn_r _ [24, 25, 26, 61, 62, 63, 64, 65, 66, 67, 68] (by decide +kernel) (by decide +kernel)
set_option maxRecDepth 20000 in
theorem gX5_isShutIn_X2_head : GoodIn wsX5_isShutIn (wsV RX5 68 RX2 yX2_head wsX2_head) := goodIn_app (goodIn_of _ (by decide +kernel)) ggX5_isShutIn_X2_head
set_option maxRecDepth 20000 in
theorem ggX5_isShutIn_X5_spreadFrom : GoodIn wsX5_isShutIn wsX5_spreadFrom := goodIn_r _ [30, 31, 32, 1, 2, 33, 34, 35, 13, 36, 37, 17, 18, 19, 43, 44, 45, 46, 47, 48] (by decide +kernel) (by decide +kernel)
set_option maxRecDepth 20000 in
theorem gX5_isShutIn_X5_spreadFrom : GoodIn wsX5_isShutIn (wsV RX5 72 RX5 yX5_spreadFrom wsX5_spreadFrom) := goodIn_app (goodIn_of _ (by decide +kernel)) ggX5_isShutIn_X5_spreadFrom
set_option maxRecDepth 20000 in
theorem ggX5_isShutIn_X2_holds : GoodIn wsX5_isShutIn wsX2_holds := goodIn_r _ [41, 42, 17, 18, 19, 61, 62, 63, 64, 65, 66, 67, 68] (by decide +kernel) (by decide +kernel)
set_option maxRecDepth 20000 in
theorem gX5_isShutIn_X2_holds : GoodIn wsX5_isShutIn (wsV RX5 75 RX2 yX2_holds wsX2_holds) := goodIn_app (goodIn_of _ (by decide +kernel)) ggX5_isShutIn_X2_holds
theorem dX5_isShutIn_0 : decode cX5_isShutIn 0 = .ok (.aload_n 1, 1) := by decide +kernel
theorem dX5_isShutIn_1 : decode cX5_isShutIn 1 = .ok (.iload_n 2, 1) := by decide +kernel
theorem dX5_isShutIn_2 : decode cX5_isShutIn 2 = .ok (.invokevirtual 60, 3) := by decide +kernel
theorem dX5_isShutIn_5 : decode cX5_isShutIn 5 = .ok (.astore 4, 2) := by decide +kernel
theorem dX5_isShutIn_7 : decode cX5_isShutIn 7 = .ok (.aload_n 1, 1) := by decide +kernel
theorem dX5_isShutIn_8 : decode cX5_isShutIn 8 = .ok (.iconst 1, 1) := by decide +kernel
theorem dX5_isShutIn_9 : decode cX5_isShutIn 9 = .ok (.iload_n 2, 1) := by decide +kernel
theorem dX5_isShutIn_10 : decode cX5_isShutIn 10 = .ok (.isub, 1) := by decide +kernel
theorem dX5_isShutIn_11 : decode cX5_isShutIn 11 = .ok (.invokevirtual 60, 3) := by decide +kernel
theorem dX5_isShutIn_14 : decode cX5_isShutIn 14 = .ok (.astore 5, 2) := by decide +kernel
theorem dX5_isShutIn_16 : decode cX5_isShutIn 16 = .ok (.aload_n 0, 1) := by decide +kernel
theorem dX5_isShutIn_17 : decode cX5_isShutIn 17 = .ok (.aload_n 1, 1) := by decide +kernel
theorem dX5_isShutIn_18 : decode cX5_isShutIn 18 = .ok (.aload 4, 2) := by decide +kernel
theorem dX5_isShutIn_20 : decode cX5_isShutIn 20 = .ok (.invokevirtual 64, 3) := by decide +kernel
theorem dX5_isShutIn_23 : decode cX5_isShutIn 23 = .ok (.iload_n 3, 1) := by decide +kernel
theorem dX5_isShutIn_24 : decode cX5_isShutIn 24 = .ok (.invokestatic 56, 3) := by decide +kernel
theorem dX5_isShutIn_27 : decode cX5_isShutIn 27 = .ok (.ifCond .eq 10, 3) := by decide +kernel
theorem dX5_isShutIn_30 : decode cX5_isShutIn 30 = .ok (.aload_n 0, 1) := by decide +kernel
theorem dX5_isShutIn_31 : decode cX5_isShutIn 31 = .ok (.getfield 15, 3) := by decide +kernel
theorem dX5_isShutIn_34 : decode cX5_isShutIn 34 = .ok (.iload_n 3, 1) := by decide +kernel
theorem dX5_isShutIn_35 : decode cX5_isShutIn 35 = .ok (.iconst 0, 1) := by decide +kernel
theorem dX5_isShutIn_36 : decode cX5_isShutIn 36 = .ok (.bastore, 1) := by decide +kernel
theorem dX5_isShutIn_37 : decode cX5_isShutIn 37 = .ok (.aload_n 0, 1) := by decide +kernel
theorem dX5_isShutIn_38 : decode cX5_isShutIn 38 = .ok (.aload 4, 2) := by decide +kernel
theorem dX5_isShutIn_40 : decode cX5_isShutIn 40 = .ok (.invokevirtual 68, 3) := by decide +kernel
theorem dX5_isShutIn_43 : decode cX5_isShutIn 43 = .ok (.invokevirtual 72, 3) := by decide +kernel
theorem dX5_isShutIn_46 : decode cX5_isShutIn 46 = .ok (.iconst 0, 1) := by decide +kernel
theorem dX5_isShutIn_47 : decode cX5_isShutIn 47 = .ok (.istore 6, 2) := by decide +kernel
theorem dX5_isShutIn_49 : decode cX5_isShutIn 49 = .ok (.iload 6, 2) := by decide +kernel
theorem dX5_isShutIn_51 : decode cX5_isShutIn 51 = .ok (.bipush 64, 2) := by decide +kernel
theorem dX5_isShutIn_53 : decode cX5_isShutIn 53 = .ok (.if_icmp .ge 42, 3) := by decide +kernel
theorem dX5_isShutIn_56 : decode cX5_isShutIn 56 = .ok (.aload_n 0, 1) := by decide +kernel
theorem dX5_isShutIn_57 : decode cX5_isShutIn 57 = .ok (.getfield 19, 3) := by decide +kernel
theorem dX5_isShutIn_60 : decode cX5_isShutIn 60 = .ok (.iload 6, 2) := by decide +kernel
theorem dX5_isShutIn_62 : decode cX5_isShutIn 62 = .ok (.iaload, 1) := by decide +kernel
theorem dX5_isShutIn_63 : decode cX5_isShutIn 63 = .ok (.iconst (-1), 1) := by decide +kernel
theorem dX5_isShutIn_64 : decode cX5_isShutIn 64 = .ok (.if_icmp .eq 25, 3) := by decide +kernel
theorem dX5_isShutIn_67 : decode cX5_isShutIn 67 = .ok (.iload 6, 2) := by decide +kernel
theorem dX5_isShutIn_69 : decode cX5_isShutIn 69 = .ok (.bipush 8, 2) := by decide +kernel
theorem dX5_isShutIn_71 : decode cX5_isShutIn 71 = .ok (.idiv, 1) := by decide +kernel
theorem dX5_isShutIn_72 : decode cX5_isShutIn 72 = .ok (.bipush 7, 2) := by decide +kernel
theorem dX5_isShutIn_74 : decode cX5_isShutIn 74 = .ok (.if_icmp .eq 13, 3) := by decide +kernel
theorem dX5_isShutIn_77 : decode cX5_isShutIn 77 = .ok (.aload 5, 2) := by decide +kernel
theorem dX5_isShutIn_79 : decode cX5_isShutIn 79 = .ok (.iload 6, 2) := by decide +kernel
theorem dX5_isShutIn_81 : decode cX5_isShutIn 81 = .ok (.invokevirtual 75, 3) := by decide +kernel
theorem dX5_isShutIn_84 : decode cX5_isShutIn 84 = .ok (.ifCond .eq 5, 3) := by decide +kernel
theorem dX5_isShutIn_87 : decode cX5_isShutIn 87 = .ok (.iconst 0, 1) := by decide +kernel
theorem dX5_isShutIn_88 : decode cX5_isShutIn 88 = .ok (.ireturn, 1) := by decide +kernel
theorem dX5_isShutIn_89 : decode cX5_isShutIn 89 = .ok (.iinc 6 1, 3) := by decide +kernel
theorem dX5_isShutIn_92 : decode cX5_isShutIn 92 = .ok (.goto (-43), 3) := by decide +kernel
theorem dX5_isShutIn_95 : decode cX5_isShutIn 95 = .ok (.iconst 1, 1) := by decide +kernel
theorem dX5_isShutIn_96 : decode cX5_isShutIn 96 = .ok (.ireturn, 1) := by decide +kernel
set_option maxRecDepth 20000 in
theorem ggX5_stepsToMeet_X0_sideOf : GoodIn wsX5_stepsToMeet wsX0_sideOf := goodIn_r _ [6, 7, 8, 49, 50, 51, 52, 53, 54, 55, 56, 57, 58, 59, 60] (by decide +kernel) (by decide +kernel)
set_option maxRecDepth 20000 in
theorem gX5_stepsToMeet_X0_sideOf : GoodIn wsX5_stepsToMeet (wsV RX5 60 RX0 yX0_sideOf wsX0_sideOf) := goodIn_app (goodIn_of _ (by decide +kernel)) ggX5_stepsToMeet_X0_sideOf
set_option maxRecDepth 20000 in
theorem ggX5_stepsToMeet_X5_openBesides : GoodIn wsX5_stepsToMeet wsX5_openBesides := goodIn_r _ [13, 14, 15, 16, 43, 44, 45, 46, 47, 48, 49, 50, 51, 52, 53, 54, 55, 56, 57, 58, 59, 60, 61, 62, 63, 64, 65, 66, 67, 68] (by decide +kernel) (by decide +kernel)
set_option maxRecDepth 20000 in
theorem gX5_stepsToMeet_X5_openBesides : GoodIn wsX5_stepsToMeet (wsV RX5 64 RX5 yX5_openBesides wsX5_openBesides) := goodIn_app (goodIn_of _ (by decide +kernel)) ggX5_stepsToMeet_X5_openBesides
set_option maxRecDepth 20000 in
theorem ggX5_stepsToMeet_X2_head : GoodIn wsX5_stepsToMeet wsX2_head := goodIn_r _ [21, 22, 23, 61, 62, 63, 64, 65, 66, 67, 68] (by decide +kernel) (by decide +kernel)
set_option maxRecDepth 20000 in
theorem gX5_stepsToMeet_X2_head : GoodIn wsX5_stepsToMeet (wsV RX5 68 RX2 yX2_head wsX2_head) := goodIn_app (goodIn_of _ (by decide +kernel)) ggX5_stepsToMeet_X2_head
set_option maxRecDepth 20000 in
theorem ggX5_stepsToMeet_X5_spreadFrom : GoodIn wsX5_stepsToMeet wsX5_spreadFrom := goodIn_r _ [27, 28, 29, 14, 1, 30, 31, 32, 12, 33, 34, 35, 36, 37, 43, 44, 45, 46, 47, 48] (by decide +kernel) (by decide +kernel)
set_option maxRecDepth 20000 in
theorem gX5_stepsToMeet_X5_spreadFrom : GoodIn wsX5_stepsToMeet (wsV RX5 72 RX5 yX5_spreadFrom wsX5_spreadFrom) := goodIn_app (goodIn_of _ (by decide +kernel)) ggX5_stepsToMeet_X5_spreadFrom
set_option maxRecDepth 20000 in
theorem ggX5_stepsToMeet_X2_holds : GoodIn wsX5_stepsToMeet wsX2_holds := goodIn_r _ [41, 42, 35, 36, 37, 61, 62, 63, 64, 65, 66, 67, 68] (by decide +kernel) (by decide +kernel)
set_option maxRecDepth 20000 in
theorem gX5_stepsToMeet_X2_holds : GoodIn wsX5_stepsToMeet (wsV RX5 75 RX2 yX2_holds wsX2_holds) := goodIn_app (goodIn_of _ (by decide +kernel)) ggX5_stepsToMeet_X2_holds
theorem dX5_stepsToMeet_0 : decode cX5_stepsToMeet 0 = .ok (.aload_n 1, 1) := by decide +kernel
theorem dX5_stepsToMeet_1 : decode cX5_stepsToMeet 1 = .ok (.iload_n 2, 1) := by decide +kernel
theorem dX5_stepsToMeet_2 : decode cX5_stepsToMeet 2 = .ok (.invokevirtual 60, 3) := by decide +kernel
theorem dX5_stepsToMeet_5 : decode cX5_stepsToMeet 5 = .ok (.astore_n 3, 1) := by decide +kernel
theorem dX5_stepsToMeet_6 : decode cX5_stepsToMeet 6 = .ok (.aload_n 1, 1) := by decide +kernel
theorem dX5_stepsToMeet_7 : decode cX5_stepsToMeet 7 = .ok (.iconst 1, 1) := by decide +kernel
theorem dX5_stepsToMeet_8 : decode cX5_stepsToMeet 8 = .ok (.iload_n 2, 1) := by decide +kernel
theorem dX5_stepsToMeet_9 : decode cX5_stepsToMeet 9 = .ok (.isub, 1) := by decide +kernel
theorem dX5_stepsToMeet_10 : decode cX5_stepsToMeet 10 = .ok (.invokevirtual 60, 3) := by decide +kernel
theorem dX5_stepsToMeet_13 : decode cX5_stepsToMeet 13 = .ok (.astore 4, 2) := by decide +kernel
theorem dX5_stepsToMeet_15 : decode cX5_stepsToMeet 15 = .ok (.aload_n 0, 1) := by decide +kernel
theorem dX5_stepsToMeet_16 : decode cX5_stepsToMeet 16 = .ok (.aload_n 1, 1) := by decide +kernel
theorem dX5_stepsToMeet_17 : decode cX5_stepsToMeet 17 = .ok (.aload_n 3, 1) := by decide +kernel
theorem dX5_stepsToMeet_18 : decode cX5_stepsToMeet 18 = .ok (.invokevirtual 64, 3) := by decide +kernel
theorem dX5_stepsToMeet_21 : decode cX5_stepsToMeet 21 = .ok (.aload_n 0, 1) := by decide +kernel
theorem dX5_stepsToMeet_22 : decode cX5_stepsToMeet 22 = .ok (.aload_n 3, 1) := by decide +kernel
theorem dX5_stepsToMeet_23 : decode cX5_stepsToMeet 23 = .ok (.invokevirtual 68, 3) := by decide +kernel
theorem dX5_stepsToMeet_26 : decode cX5_stepsToMeet 26 = .ok (.invokevirtual 72, 3) := by decide +kernel
theorem dX5_stepsToMeet_29 : decode cX5_stepsToMeet 29 = .ok (.iconst (-1), 1) := by decide +kernel
theorem dX5_stepsToMeet_30 : decode cX5_stepsToMeet 30 = .ok (.istore 5, 2) := by decide +kernel
theorem dX5_stepsToMeet_32 : decode cX5_stepsToMeet 32 = .ok (.iconst 0, 1) := by decide +kernel
theorem dX5_stepsToMeet_33 : decode cX5_stepsToMeet 33 = .ok (.istore 6, 2) := by decide +kernel
theorem dX5_stepsToMeet_35 : decode cX5_stepsToMeet 35 = .ok (.iload 6, 2) := by decide +kernel
theorem dX5_stepsToMeet_37 : decode cX5_stepsToMeet 37 = .ok (.bipush 64, 2) := by decide +kernel
theorem dX5_stepsToMeet_39 : decode cX5_stepsToMeet 39 = .ok (.if_icmp .ge 57, 3) := by decide +kernel
theorem dX5_stepsToMeet_42 : decode cX5_stepsToMeet 42 = .ok (.aload 4, 2) := by decide +kernel
theorem dX5_stepsToMeet_44 : decode cX5_stepsToMeet 44 = .ok (.iload 6, 2) := by decide +kernel
theorem dX5_stepsToMeet_46 : decode cX5_stepsToMeet 46 = .ok (.invokevirtual 75, 3) := by decide +kernel
theorem dX5_stepsToMeet_49 : decode cX5_stepsToMeet 49 = .ok (.ifCond .eq 41, 3) := by decide +kernel
theorem dX5_stepsToMeet_52 : decode cX5_stepsToMeet 52 = .ok (.aload_n 0, 1) := by decide +kernel
theorem dX5_stepsToMeet_53 : decode cX5_stepsToMeet 53 = .ok (.getfield 19, 3) := by decide +kernel
theorem dX5_stepsToMeet_56 : decode cX5_stepsToMeet 56 = .ok (.iload 6, 2) := by decide +kernel
theorem dX5_stepsToMeet_58 : decode cX5_stepsToMeet 58 = .ok (.iaload, 1) := by decide +kernel
theorem dX5_stepsToMeet_59 : decode cX5_stepsToMeet 59 = .ok (.iconst (-1), 1) := by decide +kernel
theorem dX5_stepsToMeet_60 : decode cX5_stepsToMeet 60 = .ok (.if_icmp .eq 30, 3) := by decide +kernel
theorem dX5_stepsToMeet_63 : decode cX5_stepsToMeet 63 = .ok (.iload 5, 2) := by decide +kernel
theorem dX5_stepsToMeet_65 : decode cX5_stepsToMeet 65 = .ok (.iconst (-1), 1) := by decide +kernel
theorem dX5_stepsToMeet_66 : decode cX5_stepsToMeet 66 = .ok (.if_icmp .eq 15, 3) := by decide +kernel
theorem dX5_stepsToMeet_69 : decode cX5_stepsToMeet 69 = .ok (.aload_n 0, 1) := by decide +kernel
theorem dX5_stepsToMeet_70 : decode cX5_stepsToMeet 70 = .ok (.getfield 19, 3) := by decide +kernel
theorem dX5_stepsToMeet_73 : decode cX5_stepsToMeet 73 = .ok (.iload 6, 2) := by decide +kernel
theorem dX5_stepsToMeet_75 : decode cX5_stepsToMeet 75 = .ok (.iaload, 1) := by decide +kernel
theorem dX5_stepsToMeet_76 : decode cX5_stepsToMeet 76 = .ok (.iload 5, 2) := by decide +kernel
theorem dX5_stepsToMeet_78 : decode cX5_stepsToMeet 78 = .ok (.if_icmp .ge 12, 3) := by decide +kernel
theorem dX5_stepsToMeet_81 : decode cX5_stepsToMeet 81 = .ok (.aload_n 0, 1) := by decide +kernel
theorem dX5_stepsToMeet_82 : decode cX5_stepsToMeet 82 = .ok (.getfield 19, 3) := by decide +kernel
theorem dX5_stepsToMeet_85 : decode cX5_stepsToMeet 85 = .ok (.iload 6, 2) := by decide +kernel
theorem dX5_stepsToMeet_87 : decode cX5_stepsToMeet 87 = .ok (.iaload, 1) := by decide +kernel
theorem dX5_stepsToMeet_88 : decode cX5_stepsToMeet 88 = .ok (.istore 5, 2) := by decide +kernel
theorem dX5_stepsToMeet_90 : decode cX5_stepsToMeet 90 = .ok (.iinc 6 1, 3) := by decide +kernel
theorem dX5_stepsToMeet_93 : decode cX5_stepsToMeet 93 = .ok (.goto (-58), 3) := by decide +kernel
theorem dX5_stepsToMeet_96 : decode cX5_stepsToMeet 96 = .ok (.iload 5, 2) := by decide +kernel
theorem dX5_stepsToMeet_98 : decode cX5_stepsToMeet 98 = .ok (.ireturn, 1) := by decide +kernel
set_option maxRecDepth 20000 in
theorem ggX5_dearestForBoth_X5_openFree : GoodIn wsX5_dearestForBoth wsX5_openFree := goodIn_r _ [10, 5, 11, 1, 12, 4, 53, 54, 55, 56, 57, 58, 41, 42, 43, 44, 45, 46, 47, 48, 49, 50, 51, 52, 59, 60, 61, 62, 63, 64, 65, 66] (by decide +kernel) (by decide +kernel)
set_option maxRecDepth 20000 in
theorem gX5_dearestForBoth_X5_openFree : GoodIn wsX5_dearestForBoth (wsV RX5 78 RX5 yX5_openFree wsX5_openFree) := goodIn_app (goodIn_of _ (by decide +kernel)) ggX5_dearestForBoth_X5_openFree
set_option maxRecDepth 20000 in
theorem ggX5_dearestForBoth_X2_head : GoodIn wsX5_dearestForBoth wsX2_head := goodIn_r _ [17, 18, 19, 59, 60, 61, 62, 63, 64, 65, 66] (by decide +kernel) (by decide +kernel)
set_option maxRecDepth 20000 in
theorem gX5_dearestForBoth_X2_head : GoodIn wsX5_dearestForBoth (wsV RX5 68 RX2 yX2_head wsX2_head) := goodIn_app (goodIn_of _ (by decide +kernel)) ggX5_dearestForBoth_X2_head
set_option maxRecDepth 20000 in
theorem ggX5_dearestForBoth_X5_spreadFrom : GoodIn wsX5_dearestForBoth wsX5_spreadFrom := goodIn_r _ [23, 24, 25, 5, 2, 26, 27, 28, 9, 29, 30, 31, 32, 33, 53, 54, 55, 56, 57, 58] (by decide +kernel) (by decide +kernel)
set_option maxRecDepth 20000 in
theorem gX5_dearestForBoth_X5_spreadFrom : GoodIn wsX5_dearestForBoth (wsV RX5 72 RX5 yX5_spreadFrom wsX5_spreadFrom) := goodIn_app (goodIn_of _ (by decide +kernel)) ggX5_dearestForBoth_X5_spreadFrom
set_option maxRecDepth 20000 in
theorem ggX5_dearestForBoth_X6_copyRow : GoodIn wsX5_dearestForBoth wsX6_copyRow := goodIn_r _ [35] (by decide +kernel) (by decide +kernel)
set_option maxRecDepth 20000 in
theorem gX5_dearestForBoth_X6_copyRow_n82 : GoodIn wsX5_dearestForBoth (wsX6_copyRow) := ggX5_dearestForBoth_X6_copyRow
set_option maxRecDepth 20000 in
theorem ggX5_dearestForBoth_X2_costOf : GoodIn wsX5_dearestForBoth wsX2_costOf := goodIn_r _ [39, 40, 59, 60, 61, 62, 63, 64, 65, 66] (by decide +kernel) (by decide +kernel)
set_option maxRecDepth 20000 in
theorem gX5_dearestForBoth_X2_costOf : GoodIn wsX5_dearestForBoth (wsV RX5 86 RX2 yX2_costOf wsX2_costOf) := goodIn_app (goodIn_of _ (by decide +kernel)) ggX5_dearestForBoth_X2_costOf
theorem dX5_dearestForBoth_0 : decode cX5_dearestForBoth 0 = .ok (.aload_n 0, 1) := by decide +kernel
theorem dX5_dearestForBoth_1 : decode cX5_dearestForBoth 1 = .ok (.aload_n 1, 1) := by decide +kernel
theorem dX5_dearestForBoth_2 : decode cX5_dearestForBoth 2 = .ok (.invokevirtual 78, 3) := by decide +kernel
theorem dX5_dearestForBoth_5 : decode cX5_dearestForBoth 5 = .ok (.aload_n 0, 1) := by decide +kernel
theorem dX5_dearestForBoth_6 : decode cX5_dearestForBoth 6 = .ok (.aload_n 1, 1) := by decide +kernel
theorem dX5_dearestForBoth_7 : decode cX5_dearestForBoth 7 = .ok (.getfield 40, 3) := by decide +kernel
theorem dX5_dearestForBoth_10 : decode cX5_dearestForBoth 10 = .ok (.invokevirtual 68, 3) := by decide +kernel
theorem dX5_dearestForBoth_13 : decode cX5_dearestForBoth 13 = .ok (.invokevirtual 72, 3) := by decide +kernel
theorem dX5_dearestForBoth_16 : decode cX5_dearestForBoth 16 = .ok (.aload_n 0, 1) := by decide +kernel
theorem dX5_dearestForBoth_17 : decode cX5_dearestForBoth 17 = .ok (.getfield 19, 3) := by decide +kernel
theorem dX5_dearestForBoth_20 : decode cX5_dearestForBoth 20 = .ok (.aload_n 0, 1) := by decide +kernel
theorem dX5_dearestForBoth_21 : decode cX5_dearestForBoth 21 = .ok (.getfield 22, 3) := by decide +kernel
theorem dX5_dearestForBoth_24 : decode cX5_dearestForBoth 24 = .ok (.invokestatic 82, 3) := by decide +kernel
theorem dX5_dearestForBoth_27 : decode cX5_dearestForBoth 27 = .ok (.aload_n 0, 1) := by decide +kernel
theorem dX5_dearestForBoth_28 : decode cX5_dearestForBoth 28 = .ok (.aload_n 1, 1) := by decide +kernel
theorem dX5_dearestForBoth_29 : decode cX5_dearestForBoth 29 = .ok (.getfield 49, 3) := by decide +kernel
theorem dX5_dearestForBoth_32 : decode cX5_dearestForBoth 32 = .ok (.invokevirtual 68, 3) := by decide +kernel
theorem dX5_dearestForBoth_35 : decode cX5_dearestForBoth 35 = .ok (.invokevirtual 72, 3) := by decide +kernel
theorem dX5_dearestForBoth_38 : decode cX5_dearestForBoth 38 = .ok (.iconst (-1), 1) := by decide +kernel
theorem dX5_dearestForBoth_39 : decode cX5_dearestForBoth 39 = .ok (.istore_n 2, 1) := by decide +kernel
theorem dX5_dearestForBoth_40 : decode cX5_dearestForBoth 40 = .ok (.iconst (-1), 1) := by decide +kernel
theorem dX5_dearestForBoth_41 : decode cX5_dearestForBoth 41 = .ok (.istore_n 3, 1) := by decide +kernel
theorem dX5_dearestForBoth_42 : decode cX5_dearestForBoth 42 = .ok (.iconst 0, 1) := by decide +kernel
theorem dX5_dearestForBoth_43 : decode cX5_dearestForBoth 43 = .ok (.istore 4, 2) := by decide +kernel
theorem dX5_dearestForBoth_45 : decode cX5_dearestForBoth 45 = .ok (.iload 4, 2) := by decide +kernel
theorem dX5_dearestForBoth_47 : decode cX5_dearestForBoth 47 = .ok (.bipush 64, 2) := by decide +kernel
theorem dX5_dearestForBoth_49 : decode cX5_dearestForBoth 49 = .ok (.if_icmp .ge 74, 3) := by decide +kernel
theorem dX5_dearestForBoth_52 : decode cX5_dearestForBoth 52 = .ok (.aload_n 1, 1) := by decide +kernel
theorem dX5_dearestForBoth_53 : decode cX5_dearestForBoth 53 = .ok (.getfield 40, 3) := by decide +kernel
theorem dX5_dearestForBoth_56 : decode cX5_dearestForBoth 56 = .ok (.iload 4, 2) := by decide +kernel
theorem dX5_dearestForBoth_58 : decode cX5_dearestForBoth 58 = .ok (.invokevirtual 86, 3) := by decide +kernel
theorem dX5_dearestForBoth_61 : decode cX5_dearestForBoth 61 = .ok (.aload_n 1, 1) := by decide +kernel
theorem dX5_dearestForBoth_62 : decode cX5_dearestForBoth 62 = .ok (.getfield 49, 3) := by decide +kernel
theorem dX5_dearestForBoth_65 : decode cX5_dearestForBoth 65 = .ok (.iload 4, 2) := by decide +kernel
theorem dX5_dearestForBoth_67 : decode cX5_dearestForBoth 67 = .ok (.invokevirtual 86, 3) := by decide +kernel
theorem dX5_dearestForBoth_70 : decode cX5_dearestForBoth 70 = .ok (.iadd, 1) := by decide +kernel
theorem dX5_dearestForBoth_71 : decode cX5_dearestForBoth 71 = .ok (.istore 5, 2) := by decide +kernel
theorem dX5_dearestForBoth_73 : decode cX5_dearestForBoth 73 = .ok (.aload_n 0, 1) := by decide +kernel
theorem dX5_dearestForBoth_74 : decode cX5_dearestForBoth 74 = .ok (.getfield 15, 3) := by decide +kernel
theorem dX5_dearestForBoth_77 : decode cX5_dearestForBoth 77 = .ok (.iload 4, 2) := by decide +kernel
theorem dX5_dearestForBoth_79 : decode cX5_dearestForBoth 79 = .ok (.baload, 1) := by decide +kernel
theorem dX5_dearestForBoth_80 : decode cX5_dearestForBoth 80 = .ok (.ifCond .eq 37, 3) := by decide +kernel
theorem dX5_dearestForBoth_83 : decode cX5_dearestForBoth 83 = .ok (.aload_n 0, 1) := by decide +kernel
theorem dX5_dearestForBoth_84 : decode cX5_dearestForBoth 84 = .ok (.getfield 22, 3) := by decide +kernel
theorem dX5_dearestForBoth_87 : decode cX5_dearestForBoth 87 = .ok (.iload 4, 2) := by decide +kernel
theorem dX5_dearestForBoth_89 : decode cX5_dearestForBoth 89 = .ok (.iaload, 1) := by decide +kernel
theorem dX5_dearestForBoth_90 : decode cX5_dearestForBoth 90 = .ok (.iconst (-1), 1) := by decide +kernel
theorem dX5_dearestForBoth_91 : decode cX5_dearestForBoth 91 = .ok (.if_icmp .eq 26, 3) := by decide +kernel
theorem dX5_dearestForBoth_94 : decode cX5_dearestForBoth 94 = .ok (.aload_n 0, 1) := by decide +kernel
theorem dX5_dearestForBoth_95 : decode cX5_dearestForBoth 95 = .ok (.getfield 19, 3) := by decide +kernel
theorem dX5_dearestForBoth_98 : decode cX5_dearestForBoth 98 = .ok (.iload 4, 2) := by decide +kernel
theorem dX5_dearestForBoth_100 : decode cX5_dearestForBoth 100 = .ok (.iaload, 1) := by decide +kernel
theorem dX5_dearestForBoth_101 : decode cX5_dearestForBoth 101 = .ok (.iconst (-1), 1) := by decide +kernel
theorem dX5_dearestForBoth_102 : decode cX5_dearestForBoth 102 = .ok (.if_icmp .eq 15, 3) := by decide +kernel
theorem dX5_dearestForBoth_105 : decode cX5_dearestForBoth 105 = .ok (.iload 5, 2) := by decide +kernel
theorem dX5_dearestForBoth_107 : decode cX5_dearestForBoth 107 = .ok (.iload_n 3, 1) := by decide +kernel
theorem dX5_dearestForBoth_108 : decode cX5_dearestForBoth 108 = .ok (.if_icmp .le 9, 3) := by decide +kernel
theorem dX5_dearestForBoth_111 : decode cX5_dearestForBoth 111 = .ok (.iload 4, 2) := by decide +kernel
theorem dX5_dearestForBoth_113 : decode cX5_dearestForBoth 113 = .ok (.istore_n 2, 1) := by decide +kernel
theorem dX5_dearestForBoth_114 : decode cX5_dearestForBoth 114 = .ok (.iload 5, 2) := by decide +kernel
theorem dX5_dearestForBoth_116 : decode cX5_dearestForBoth 116 = .ok (.istore_n 3, 1) := by decide +kernel
theorem dX5_dearestForBoth_117 : decode cX5_dearestForBoth 117 = .ok (.iinc 4 1, 3) := by decide +kernel
theorem dX5_dearestForBoth_120 : decode cX5_dearestForBoth 120 = .ok (.goto (-75), 3) := by decide +kernel
theorem dX5_dearestForBoth_123 : decode cX5_dearestForBoth 123 = .ok (.iload_n 2, 1) := by decide +kernel
theorem dX5_dearestForBoth_124 : decode cX5_dearestForBoth 124 = .ok (.ireturn, 1) := by decide +kernel
set_option maxRecDepth 20000 in
theorem ggX5_bestStep_X0_isOver : GoodIn wsX5_bestStep wsX0_isOver := goodIn_r _ [6, 7, 8, 9, 5, 10, 11, 12, 94, 95, 96, 97, 98, 99, 100, 101, 102, 103, 104, 105] (by decide +kernel) (by decide +kernel)
set_option maxRecDepth 20000 in
theorem gX5_bestStep_X0_isOver : GoodIn wsX5_bestStep (wsV RX5 90 RX0 yX0_isOver wsX0_isOver) := goodIn_app (goodIn_of _ (by decide +kernel)) ggX5_bestStep_X0_isOver
set_option maxRecDepth 20000 in
theorem ggX5_bestStep_X5_openFree : GoodIn wsX5_bestStep wsX5_openFree := goodIn_r _ [17, 18, 19, 20, 21, 22, 106, 107, 108, 109, 110, 111, 94, 95, 96, 97, 98, 99, 100, 101, 102, 103, 104, 105, 112, 113, 114, 115, 116, 117, 118, 119] (by decide +kernel) (by decide +kernel)
set_option maxRecDepth 20000 in
theorem gX5_bestStep_X5_openFree : GoodIn wsX5_bestStep (wsV RX5 78 RX5 yX5_openFree wsX5_openFree) := goodIn_app (goodIn_of _ (by decide +kernel)) ggX5_bestStep_X5_openFree
set_option maxRecDepth 20000 in
theorem ggX5_bestStep_X0_reasonAgainstStep : GoodIn wsX5_bestStep wsX0_reasonAgainstStep := goodIn_r _ [26, 27, 28, 29, 30, 5, 31, 32, 33, 34, 35, 36, 37, 38, 39, 40, 41, 42, 43, 44, 45, 46, 47, 48, 49, 50, 51, 52, 53, 54, 55, 56, 57, 58, 59, 94, 95, 96, 97, 98, 99, 100, 101, 102, 103, 104, 105, 112, 113, 114, 115, 116, 117, 118, 119] (by decide +kernel) (by decide +kernel)
set_option maxRecDepth 20000 in
theorem gX5_bestStep_X0_reasonAgainstStep : GoodIn wsX5_bestStep (wsV RX5 95 RX0 yX0_reasonAgainstStep wsX0_reasonAgainstStep) := goodIn_app (goodIn_of _ (by decide +kernel)) ggX5_bestStep_X0_reasonAgainstStep
set_option maxRecDepth 20000 in
theorem ggX5_bestStep_X5_priceOfStep : GoodIn wsX5_bestStep wsX5_priceOfStep := goodIn_r _ [63, 64, 65, 66, 1, 67, 29, 30, 5, 31, 32, 33, 68, 35, 36, 37, 38, 39, 40, 41, 42, 43, 44, 45, 46, 47, 48, 49, 69, 56, 57, 58, 59, 70, 71, 72, 73, 74, 75, 76, 77, 16, 78, 79, 80, 81, 82, 83, 84, 85, 86, 87, 88, 89, 90, 91, 92, 93, 18, 94, 95, 96, 97, 98, 99, 100, 101, 102, 103, 104, 105, 112, 113, 114, 115, 116, 117, 118, 119, 106, 107, 108, 109, 110, 111] (by decide +kernel) (by decide +kernel)
set_option maxRecDepth 20000 in
theorem gX5_bestStep_X5_priceOfStep : GoodIn wsX5_bestStep (wsV RX5 98 RX5 yX5_priceOfStep wsX5_priceOfStep) := goodIn_app (goodIn_of _ (by decide +kernel)) ggX5_bestStep_X5_priceOfStep
theorem dX5_bestStep_0 : decode cX5_bestStep 0 = .ok (.aload_n 1, 1) := by decide +kernel
theorem dX5_bestStep_1 : decode cX5_bestStep 1 = .ok (.invokevirtual 90, 3) := by decide +kernel
theorem dX5_bestStep_4 : decode cX5_bestStep 4 = .ok (.ifCond .eq 5, 3) := by decide +kernel
theorem dX5_bestStep_7 : decode cX5_bestStep 7 = .ok (.iconst (-1), 1) := by decide +kernel
theorem dX5_bestStep_8 : decode cX5_bestStep 8 = .ok (.ireturn, 1) := by decide +kernel
theorem dX5_bestStep_9 : decode cX5_bestStep 9 = .ok (.aload_n 0, 1) := by decide +kernel
theorem dX5_bestStep_10 : decode cX5_bestStep 10 = .ok (.aload_n 1, 1) := by decide +kernel
theorem dX5_bestStep_11 : decode cX5_bestStep 11 = .ok (.invokevirtual 78, 3) := by decide +kernel
theorem dX5_bestStep_14 : decode cX5_bestStep 14 = .ok (.iconst (-1), 1) := by decide +kernel
theorem dX5_bestStep_15 : decode cX5_bestStep 15 = .ok (.istore_n 2, 1) := by decide +kernel
theorem dX5_bestStep_16 : decode cX5_bestStep 16 = .ok (.ldc 94, 2) := by decide +kernel
theorem dX5_bestStep_18 : decode cX5_bestStep 18 = .ok (.istore_n 3, 1) := by decide +kernel
theorem dX5_bestStep_19 : decode cX5_bestStep 19 = .ok (.iconst 0, 1) := by decide +kernel
theorem dX5_bestStep_20 : decode cX5_bestStep 20 = .ok (.istore 4, 2) := by decide +kernel
theorem dX5_bestStep_22 : decode cX5_bestStep 22 = .ok (.iload 4, 2) := by decide +kernel
theorem dX5_bestStep_24 : decode cX5_bestStep 24 = .ok (.iconst 3, 1) := by decide +kernel
theorem dX5_bestStep_25 : decode cX5_bestStep 25 = .ok (.if_icmp .ge 44, 3) := by decide +kernel
theorem dX5_bestStep_28 : decode cX5_bestStep 28 = .ok (.aload_n 1, 1) := by decide +kernel
theorem dX5_bestStep_29 : decode cX5_bestStep 29 = .ok (.iload 4, 2) := by decide +kernel
theorem dX5_bestStep_31 : decode cX5_bestStep 31 = .ok (.invokevirtual 95, 3) := by decide +kernel
theorem dX5_bestStep_34 : decode cX5_bestStep 34 = .ok (.ifCond .ne 29, 3) := by decide +kernel
theorem dX5_bestStep_37 : decode cX5_bestStep 37 = .ok (.aload_n 0, 1) := by decide +kernel
theorem dX5_bestStep_38 : decode cX5_bestStep 38 = .ok (.aload_n 1, 1) := by decide +kernel
theorem dX5_bestStep_39 : decode cX5_bestStep 39 = .ok (.iload 4, 2) := by decide +kernel
theorem dX5_bestStep_41 : decode cX5_bestStep 41 = .ok (.invokevirtual 98, 3) := by decide +kernel
theorem dX5_bestStep_44 : decode cX5_bestStep 44 = .ok (.istore 5, 2) := by decide +kernel
theorem dX5_bestStep_46 : decode cX5_bestStep 46 = .ok (.iload_n 2, 1) := by decide +kernel
theorem dX5_bestStep_47 : decode cX5_bestStep 47 = .ok (.iconst (-1), 1) := by decide +kernel
theorem dX5_bestStep_48 : decode cX5_bestStep 48 = .ok (.if_icmp .eq 9, 3) := by decide +kernel
theorem dX5_bestStep_51 : decode cX5_bestStep 51 = .ok (.iload 5, 2) := by decide +kernel
theorem dX5_bestStep_53 : decode cX5_bestStep 53 = .ok (.iload_n 3, 1) := by decide +kernel
theorem dX5_bestStep_54 : decode cX5_bestStep 54 = .ok (.if_icmp .ge 9, 3) := by decide +kernel
theorem dX5_bestStep_57 : decode cX5_bestStep 57 = .ok (.iload 4, 2) := by decide +kernel
theorem dX5_bestStep_59 : decode cX5_bestStep 59 = .ok (.istore_n 2, 1) := by decide +kernel
theorem dX5_bestStep_60 : decode cX5_bestStep 60 = .ok (.iload 5, 2) := by decide +kernel
theorem dX5_bestStep_62 : decode cX5_bestStep 62 = .ok (.istore_n 3, 1) := by decide +kernel
theorem dX5_bestStep_63 : decode cX5_bestStep 63 = .ok (.iinc 4 1, 3) := by decide +kernel
theorem dX5_bestStep_66 : decode cX5_bestStep 66 = .ok (.goto (-44), 3) := by decide +kernel
theorem dX5_bestStep_69 : decode cX5_bestStep 69 = .ok (.iload_n 2, 1) := by decide +kernel
theorem dX5_bestStep_70 : decode cX5_bestStep 70 = .ok (.ireturn, 1) := by decide +kernel
set_option maxRecDepth 20000 in
theorem ggX5_priceOfStep_X0_sideOf : GoodIn wsX5_priceOfStep wsX0_sideOf := goodIn_r _ [9, 10, 11, 59, 60, 61, 62, 63, 64, 65, 66, 67, 68, 69, 70] (by decide +kernel) (by decide +kernel)
set_option maxRecDepth 20000 in
theorem gX5_priceOfStep_X0_sideOf : GoodIn wsX5_priceOfStep (wsV RX5 60 RX0 yX0_sideOf wsX0_sideOf) := goodIn_app (goodIn_of _ (by decide +kernel)) ggX5_priceOfStep_X0_sideOf
set_option maxRecDepth 20000 in
theorem ggX5_priceOfStep_X2_head : GoodIn wsX5_priceOfStep wsX2_head := goodIn_r _ [16, 17, 18, 71, 72, 73, 74, 75, 76, 77, 78] (by decide +kernel) (by decide +kernel)
set_option maxRecDepth 20000 in
theorem gX5_priceOfStep_X2_head : GoodIn wsX5_priceOfStep (wsV RX5 68 RX2 yX2_head wsX2_head) := goodIn_app (goodIn_of _ (by decide +kernel)) ggX5_priceOfStep_X2_head
set_option maxRecDepth 20000 in
theorem ggX5_priceOfStep_X6_cellBeside : GoodIn wsX5_priceOfStep wsX6_cellBeside := goodIn_r _ [21, 22, 23, 20, 24, 25, 26, 27] (by decide +kernel) (by decide +kernel)
set_option maxRecDepth 20000 in
theorem gX5_priceOfStep_X6_cellBeside_n31 : GoodIn wsX5_priceOfStep (wsX6_cellBeside) := ggX5_priceOfStep_X6_cellBeside
set_option maxRecDepth 20000 in
theorem ggX5_priceOfStep_X2_holds : GoodIn wsX5_priceOfStep wsX2_holds := goodIn_r _ [31, 32, 23, 20, 24, 71, 72, 73, 74, 75, 76, 77, 78] (by decide +kernel) (by decide +kernel)
set_option maxRecDepth 20000 in
theorem gX5_priceOfStep_X2_holds : GoodIn wsX5_priceOfStep (wsV RX5 75 RX2 yX2_holds wsX2_holds) := goodIn_app (goodIn_of _ (by decide +kernel)) ggX5_priceOfStep_X2_holds
set_option maxRecDepth 20000 in
theorem ggX5_priceOfStep_X2_costOf : GoodIn wsX5_priceOfStep wsX2_costOf := goodIn_r _ [36, 37, 71, 72, 73, 74, 75, 76, 77, 78] (by decide +kernel) (by decide +kernel)
set_option maxRecDepth 20000 in
theorem gX5_priceOfStep_X2_costOf : GoodIn wsX5_priceOfStep (wsV RX5 86 RX2 yX2_costOf wsX2_costOf) := goodIn_app (goodIn_of _ (by decide +kernel)) ggX5_priceOfStep_X2_costOf
set_option maxRecDepth 20000 in
theorem ggX5_priceOfStep_X5_cheapestCellFirst : GoodIn wsX5_priceOfStep wsX5_cheapestCellFirst := goodIn_r _ [42, 43, 44, 45, 46, 47, 41, 48, 49, 50, 51, 52, 4, 23, 20, 24, 53, 54, 55, 56, 57, 58, 79, 80, 81, 82, 83, 84] (by decide +kernel) (by decide +kernel)
set_option maxRecDepth 20000 in
theorem gX5_priceOfStep_X5_cheapestCellFirst : GoodIn wsX5_priceOfStep (wsV RX5 112 RX5 yX5_cheapestCellFirst wsX5_cheapestCellFirst) := goodIn_app (goodIn_of _ (by decide +kernel)) ggX5_priceOfStep_X5_cheapestCellFirst
theorem dX5_priceOfStep_0 : decode cX5_priceOfStep 0 = .ok (.aload_n 1, 1) := by decide +kernel
theorem dX5_priceOfStep_1 : decode cX5_priceOfStep 1 = .ok (.aload_n 1, 1) := by decide +kernel
theorem dX5_priceOfStep_2 : decode cX5_priceOfStep 2 = .ok (.getfield 102, 3) := by decide +kernel
theorem dX5_priceOfStep_5 : decode cX5_priceOfStep 5 = .ok (.invokevirtual 60, 3) := by decide +kernel
theorem dX5_priceOfStep_8 : decode cX5_priceOfStep 8 = .ok (.astore_n 3, 1) := by decide +kernel
theorem dX5_priceOfStep_9 : decode cX5_priceOfStep 9 = .ok (.aload_n 3, 1) := by decide +kernel
theorem dX5_priceOfStep_10 : decode cX5_priceOfStep 10 = .ok (.invokevirtual 68, 3) := by decide +kernel
theorem dX5_priceOfStep_13 : decode cX5_priceOfStep 13 = .ok (.iload_n 2, 1) := by decide +kernel
theorem dX5_priceOfStep_14 : decode cX5_priceOfStep 14 = .ok (.invokestatic 31, 3) := by decide +kernel
theorem dX5_priceOfStep_17 : decode cX5_priceOfStep 17 = .ok (.istore 4, 2) := by decide +kernel
theorem dX5_priceOfStep_19 : decode cX5_priceOfStep 19 = .ok (.aload_n 1, 1) := by decide +kernel
theorem dX5_priceOfStep_20 : decode cX5_priceOfStep 20 = .ok (.iconst 1, 1) := by decide +kernel
theorem dX5_priceOfStep_21 : decode cX5_priceOfStep 21 = .ok (.aload_n 1, 1) := by decide +kernel
theorem dX5_priceOfStep_22 : decode cX5_priceOfStep 22 = .ok (.getfield 102, 3) := by decide +kernel
theorem dX5_priceOfStep_25 : decode cX5_priceOfStep 25 = .ok (.isub, 1) := by decide +kernel
theorem dX5_priceOfStep_26 : decode cX5_priceOfStep 26 = .ok (.invokevirtual 60, 3) := by decide +kernel
theorem dX5_priceOfStep_29 : decode cX5_priceOfStep 29 = .ok (.iload 4, 2) := by decide +kernel
theorem dX5_priceOfStep_31 : decode cX5_priceOfStep 31 = .ok (.invokevirtual 75, 3) := by decide +kernel
theorem dX5_priceOfStep_34 : decode cX5_priceOfStep 34 = .ok (.ifCond .eq 15, 3) := by decide +kernel
theorem dX5_priceOfStep_37 : decode cX5_priceOfStep 37 = .ok (.aload_n 1, 1) := by decide +kernel
theorem dX5_priceOfStep_38 : decode cX5_priceOfStep 38 = .ok (.getfield 106, 3) := by decide +kernel
theorem dX5_priceOfStep_41 : decode cX5_priceOfStep 41 = .ok (.aload_n 3, 1) := by decide +kernel
theorem dX5_priceOfStep_42 : decode cX5_priceOfStep 42 = .ok (.iload 4, 2) := by decide +kernel
theorem dX5_priceOfStep_44 : decode cX5_priceOfStep 44 = .ok (.invokevirtual 86, 3) := by decide +kernel
theorem dX5_priceOfStep_47 : decode cX5_priceOfStep 47 = .ok (.imul, 1) := by decide +kernel
theorem dX5_priceOfStep_48 : decode cX5_priceOfStep 48 = .ok (.ireturn, 1) := by decide +kernel
theorem dX5_priceOfStep_49 : decode cX5_priceOfStep 49 = .ok (.aload_n 0, 1) := by decide +kernel
theorem dX5_priceOfStep_50 : decode cX5_priceOfStep 50 = .ok (.aload_n 3, 1) := by decide +kernel
theorem dX5_priceOfStep_51 : decode cX5_priceOfStep 51 = .ok (.getfield 109, 3) := by decide +kernel
theorem dX5_priceOfStep_54 : decode cX5_priceOfStep 54 = .ok (.iload 4, 2) := by decide +kernel
theorem dX5_priceOfStep_56 : decode cX5_priceOfStep 56 = .ok (.invokevirtual 112, 3) := by decide +kernel
theorem dX5_priceOfStep_59 : decode cX5_priceOfStep 59 = .ok (.istore 5, 2) := by decide +kernel
theorem dX5_priceOfStep_61 : decode cX5_priceOfStep 61 = .ok (.iload 5, 2) := by decide +kernel
theorem dX5_priceOfStep_63 : decode cX5_priceOfStep 63 = .ok (.iconst (-1), 1) := by decide +kernel
theorem dX5_priceOfStep_64 : decode cX5_priceOfStep 64 = .ok (.if_icmp .ne 8, 3) := by decide +kernel
theorem dX5_priceOfStep_67 : decode cX5_priceOfStep 67 = .ok (.ldc 94, 2) := by decide +kernel
theorem dX5_priceOfStep_69 : decode cX5_priceOfStep 69 = .ok (.goto 12, 3) := by decide +kernel
theorem dX5_priceOfStep_72 : decode cX5_priceOfStep 72 = .ok (.aload_n 3, 1) := by decide +kernel
theorem dX5_priceOfStep_73 : decode cX5_priceOfStep 73 = .ok (.iload 4, 2) := by decide +kernel
theorem dX5_priceOfStep_75 : decode cX5_priceOfStep 75 = .ok (.invokevirtual 86, 3) := by decide +kernel
theorem dX5_priceOfStep_78 : decode cX5_priceOfStep 78 = .ok (.iload 5, 2) := by decide +kernel
theorem dX5_priceOfStep_80 : decode cX5_priceOfStep 80 = .ok (.iadd, 1) := by decide +kernel
theorem dX5_priceOfStep_81 : decode cX5_priceOfStep 81 = .ok (.ireturn, 1) := by decide +kernel
set_option maxRecDepth 20000 in
theorem ggX5_cheapestCellFirst_X5_beginFrom : GoodIn wsX5_cheapestCellFirst wsX5_beginFrom := goodIn_r _ [7, 1, 2, 22, 23, 24, 25, 26, 27] (by decide +kernel) (by decide +kernel)
set_option maxRecDepth 20000 in
theorem gX5_cheapestCellFirst_X5_beginFrom : GoodIn wsX5_cheapestCellFirst (wsV RX5 52 RX5 yX5_beginFrom wsX5_beginFrom) := goodIn_app (goodIn_of _ (by decide +kernel)) ggX5_cheapestCellFirst_X5_beginFrom
set_option maxRecDepth 20000 in
theorem ggX5_cheapestCellFirst_X5_cheapestUnsettled : GoodIn wsX5_cheapestCellFirst wsX5_cheapestUnsettled := goodIn_r _ [11, 12, 1, 2, 22, 23, 24, 25, 26, 27] (by decide +kernel) (by decide +kernel)
set_option maxRecDepth 20000 in
theorem gX5_cheapestCellFirst_X5_cheapestUnsettled : GoodIn wsX5_cheapestCellFirst (wsV RX5 116 RX5 yX5_cheapestUnsettled wsX5_cheapestUnsettled) := goodIn_app (goodIn_of _ (by decide +kernel)) ggX5_cheapestCellFirst_X5_cheapestUnsettled
set_option maxRecDepth 20000 in
theorem ggX5_cheapestCellFirst_X6_fits : GoodIn wsX5_cheapestCellFirst wsX6_fits := goodIn_r _ [15] (by decide +kernel) (by decide +kernel)
set_option maxRecDepth 20000 in
theorem gX5_cheapestCellFirst_X6_fits_n56 : GoodIn wsX5_cheapestCellFirst (wsX6_fits) := ggX5_cheapestCellFirst_X6_fits
set_option maxRecDepth 20000 in
theorem ggX5_cheapestCellFirst_X5_cheapenBeside : GoodIn wsX5_cheapestCellFirst wsX5_cheapenBeside := goodIn_r _ [19, 20, 21, 1, 22, 23, 24, 25, 26, 27] (by decide +kernel) (by decide +kernel)
set_option maxRecDepth 20000 in
theorem gX5_cheapestCellFirst_X5_cheapenBeside : GoodIn wsX5_cheapestCellFirst (wsV RX5 119 RX5 yX5_cheapenBeside wsX5_cheapenBeside) := goodIn_app (goodIn_of _ (by decide +kernel)) ggX5_cheapestCellFirst_X5_cheapenBeside
theorem dX5_cheapestCellFirst_0 : decode cX5_cheapestCellFirst 0 = .ok (.aload_n 0, 1) := by decide +kernel
theorem dX5_cheapestCellFirst_1 : decode cX5_cheapestCellFirst 1 = .ok (.iload_n 2, 1) := by decide +kernel
theorem dX5_cheapestCellFirst_2 : decode cX5_cheapestCellFirst 2 = .ok (.invokevirtual 52, 3) := by decide +kernel
theorem dX5_cheapestCellFirst_5 : decode cX5_cheapestCellFirst 5 = .ok (.iconst 0, 1) := by decide +kernel
theorem dX5_cheapestCellFirst_6 : decode cX5_cheapestCellFirst 6 = .ok (.istore_n 3, 1) := by decide +kernel
theorem dX5_cheapestCellFirst_7 : decode cX5_cheapestCellFirst 7 = .ok (.iload_n 3, 1) := by decide +kernel
theorem dX5_cheapestCellFirst_8 : decode cX5_cheapestCellFirst 8 = .ok (.bipush 64, 2) := by decide +kernel
theorem dX5_cheapestCellFirst_10 : decode cX5_cheapestCellFirst 10 = .ok (.if_icmp .ge 59, 3) := by decide +kernel
theorem dX5_cheapestCellFirst_13 : decode cX5_cheapestCellFirst 13 = .ok (.aload_n 0, 1) := by decide +kernel
theorem dX5_cheapestCellFirst_14 : decode cX5_cheapestCellFirst 14 = .ok (.invokevirtual 116, 3) := by decide +kernel
theorem dX5_cheapestCellFirst_17 : decode cX5_cheapestCellFirst 17 = .ok (.istore 4, 2) := by decide +kernel
theorem dX5_cheapestCellFirst_19 : decode cX5_cheapestCellFirst 19 = .ok (.iload 4, 2) := by decide +kernel
theorem dX5_cheapestCellFirst_21 : decode cX5_cheapestCellFirst 21 = .ok (.invokestatic 56, 3) := by decide +kernel
theorem dX5_cheapestCellFirst_24 : decode cX5_cheapestCellFirst 24 = .ok (.ifCond .ne 5, 3) := by decide +kernel
theorem dX5_cheapestCellFirst_27 : decode cX5_cheapestCellFirst 27 = .ok (.iconst (-1), 1) := by decide +kernel
theorem dX5_cheapestCellFirst_28 : decode cX5_cheapestCellFirst 28 = .ok (.ireturn, 1) := by decide +kernel
theorem dX5_cheapestCellFirst_29 : decode cX5_cheapestCellFirst 29 = .ok (.iload 4, 2) := by decide +kernel
theorem dX5_cheapestCellFirst_31 : decode cX5_cheapestCellFirst 31 = .ok (.bipush 8, 2) := by decide +kernel
theorem dX5_cheapestCellFirst_33 : decode cX5_cheapestCellFirst 33 = .ok (.idiv, 1) := by decide +kernel
theorem dX5_cheapestCellFirst_34 : decode cX5_cheapestCellFirst 34 = .ok (.bipush 7, 2) := by decide +kernel
theorem dX5_cheapestCellFirst_36 : decode cX5_cheapestCellFirst 36 = .ok (.if_icmp .ne 11, 3) := by decide +kernel
theorem dX5_cheapestCellFirst_39 : decode cX5_cheapestCellFirst 39 = .ok (.aload_n 0, 1) := by decide +kernel
theorem dX5_cheapestCellFirst_40 : decode cX5_cheapestCellFirst 40 = .ok (.getfield 19, 3) := by decide +kernel
theorem dX5_cheapestCellFirst_43 : decode cX5_cheapestCellFirst 43 = .ok (.iload 4, 2) := by decide +kernel
theorem dX5_cheapestCellFirst_45 : decode cX5_cheapestCellFirst 45 = .ok (.iaload, 1) := by decide +kernel
theorem dX5_cheapestCellFirst_46 : decode cX5_cheapestCellFirst 46 = .ok (.ireturn, 1) := by decide +kernel
theorem dX5_cheapestCellFirst_47 : decode cX5_cheapestCellFirst 47 = .ok (.aload_n 0, 1) := by decide +kernel
theorem dX5_cheapestCellFirst_48 : decode cX5_cheapestCellFirst 48 = .ok (.getfield 28, 3) := by decide +kernel
theorem dX5_cheapestCellFirst_51 : decode cX5_cheapestCellFirst 51 = .ok (.iload 4, 2) := by decide +kernel
theorem dX5_cheapestCellFirst_53 : decode cX5_cheapestCellFirst 53 = .ok (.iconst 1, 1) := by decide +kernel
theorem dX5_cheapestCellFirst_54 : decode cX5_cheapestCellFirst 54 = .ok (.bastore, 1) := by decide +kernel
theorem dX5_cheapestCellFirst_55 : decode cX5_cheapestCellFirst 55 = .ok (.aload_n 0, 1) := by decide +kernel
theorem dX5_cheapestCellFirst_56 : decode cX5_cheapestCellFirst 56 = .ok (.aload_n 1, 1) := by decide +kernel
theorem dX5_cheapestCellFirst_57 : decode cX5_cheapestCellFirst 57 = .ok (.iload 4, 2) := by decide +kernel
theorem dX5_cheapestCellFirst_59 : decode cX5_cheapestCellFirst 59 = .ok (.invokevirtual 119, 3) := by decide +kernel
theorem dX5_cheapestCellFirst_62 : decode cX5_cheapestCellFirst 62 = .ok (.pop, 1) := by decide +kernel
theorem dX5_cheapestCellFirst_63 : decode cX5_cheapestCellFirst 63 = .ok (.iinc 3 1, 3) := by decide +kernel
theorem dX5_cheapestCellFirst_66 : decode cX5_cheapestCellFirst 66 = .ok (.goto (-59), 3) := by decide +kernel
theorem dX5_cheapestCellFirst_69 : decode cX5_cheapestCellFirst 69 = .ok (.iconst (-1), 1) := by decide +kernel
theorem dX5_cheapestCellFirst_70 : decode cX5_cheapestCellFirst 70 = .ok (.ireturn, 1) := by decide +kernel
theorem dX5_cheapestUnsettled_0 : decode cX5_cheapestUnsettled 0 = .ok (.iconst (-1), 1) := by decide +kernel
theorem dX5_cheapestUnsettled_1 : decode cX5_cheapestUnsettled 1 = .ok (.istore_n 1, 1) := by decide +kernel
theorem dX5_cheapestUnsettled_2 : decode cX5_cheapestUnsettled 2 = .ok (.ldc 94, 2) := by decide +kernel
theorem dX5_cheapestUnsettled_4 : decode cX5_cheapestUnsettled 4 = .ok (.istore_n 2, 1) := by decide +kernel
theorem dX5_cheapestUnsettled_5 : decode cX5_cheapestUnsettled 5 = .ok (.iconst 0, 1) := by decide +kernel
theorem dX5_cheapestUnsettled_6 : decode cX5_cheapestUnsettled 6 = .ok (.istore_n 3, 1) := by decide +kernel
theorem dX5_cheapestUnsettled_7 : decode cX5_cheapestUnsettled 7 = .ok (.iload_n 3, 1) := by decide +kernel
theorem dX5_cheapestUnsettled_8 : decode cX5_cheapestUnsettled 8 = .ok (.bipush 64, 2) := by decide +kernel
theorem dX5_cheapestUnsettled_10 : decode cX5_cheapestUnsettled 10 = .ok (.if_icmp .ge 47, 3) := by decide +kernel
theorem dX5_cheapestUnsettled_13 : decode cX5_cheapestUnsettled 13 = .ok (.aload_n 0, 1) := by decide +kernel
theorem dX5_cheapestUnsettled_14 : decode cX5_cheapestUnsettled 14 = .ok (.getfield 19, 3) := by decide +kernel
theorem dX5_cheapestUnsettled_17 : decode cX5_cheapestUnsettled 17 = .ok (.iload_n 3, 1) := by decide +kernel
theorem dX5_cheapestUnsettled_18 : decode cX5_cheapestUnsettled 18 = .ok (.iaload, 1) := by decide +kernel
theorem dX5_cheapestUnsettled_19 : decode cX5_cheapestUnsettled 19 = .ok (.iconst (-1), 1) := by decide +kernel
theorem dX5_cheapestUnsettled_20 : decode cX5_cheapestUnsettled 20 = .ok (.if_icmp .eq 31, 3) := by decide +kernel
theorem dX5_cheapestUnsettled_23 : decode cX5_cheapestUnsettled 23 = .ok (.aload_n 0, 1) := by decide +kernel
theorem dX5_cheapestUnsettled_24 : decode cX5_cheapestUnsettled 24 = .ok (.getfield 28, 3) := by decide +kernel
theorem dX5_cheapestUnsettled_27 : decode cX5_cheapestUnsettled 27 = .ok (.iload_n 3, 1) := by decide +kernel
theorem dX5_cheapestUnsettled_28 : decode cX5_cheapestUnsettled 28 = .ok (.baload, 1) := by decide +kernel
theorem dX5_cheapestUnsettled_29 : decode cX5_cheapestUnsettled 29 = .ok (.ifCond .ne 22, 3) := by decide +kernel
theorem dX5_cheapestUnsettled_32 : decode cX5_cheapestUnsettled 32 = .ok (.aload_n 0, 1) := by decide +kernel
theorem dX5_cheapestUnsettled_33 : decode cX5_cheapestUnsettled 33 = .ok (.getfield 19, 3) := by decide +kernel
theorem dX5_cheapestUnsettled_36 : decode cX5_cheapestUnsettled 36 = .ok (.iload_n 3, 1) := by decide +kernel
theorem dX5_cheapestUnsettled_37 : decode cX5_cheapestUnsettled 37 = .ok (.iaload, 1) := by decide +kernel
theorem dX5_cheapestUnsettled_38 : decode cX5_cheapestUnsettled 38 = .ok (.iload_n 2, 1) := by decide +kernel
theorem dX5_cheapestUnsettled_39 : decode cX5_cheapestUnsettled 39 = .ok (.if_icmp .ge 12, 3) := by decide +kernel
theorem dX5_cheapestUnsettled_42 : decode cX5_cheapestUnsettled 42 = .ok (.iload_n 3, 1) := by decide +kernel
theorem dX5_cheapestUnsettled_43 : decode cX5_cheapestUnsettled 43 = .ok (.istore_n 1, 1) := by decide +kernel
theorem dX5_cheapestUnsettled_44 : decode cX5_cheapestUnsettled 44 = .ok (.aload_n 0, 1) := by decide +kernel
theorem dX5_cheapestUnsettled_45 : decode cX5_cheapestUnsettled 45 = .ok (.getfield 19, 3) := by decide +kernel
theorem dX5_cheapestUnsettled_48 : decode cX5_cheapestUnsettled 48 = .ok (.iload_n 3, 1) := by decide +kernel
theorem dX5_cheapestUnsettled_49 : decode cX5_cheapestUnsettled 49 = .ok (.iaload, 1) := by decide +kernel
theorem dX5_cheapestUnsettled_50 : decode cX5_cheapestUnsettled 50 = .ok (.istore_n 2, 1) := by decide +kernel
theorem dX5_cheapestUnsettled_51 : decode cX5_cheapestUnsettled 51 = .ok (.iinc 3 1, 3) := by decide +kernel
theorem dX5_cheapestUnsettled_54 : decode cX5_cheapestUnsettled 54 = .ok (.goto (-47), 3) := by decide +kernel
theorem dX5_cheapestUnsettled_57 : decode cX5_cheapestUnsettled 57 = .ok (.iload_n 1, 1) := by decide +kernel
theorem dX5_cheapestUnsettled_58 : decode cX5_cheapestUnsettled 58 = .ok (.ireturn, 1) := by decide +kernel
set_option maxRecDepth 20000 in
theorem ggX5_cheapestByRounds_X5_beginFrom : GoodIn wsX5_cheapestByRounds wsX5_beginFrom := goodIn_r _ [6, 1, 7, 14, 15, 16, 17, 18, 19] (by decide +kernel) (by decide +kernel)
set_option maxRecDepth 20000 in
theorem gX5_cheapestByRounds_X5_beginFrom : GoodIn wsX5_cheapestByRounds (wsV RX5 52 RX5 yX5_beginFrom wsX5_beginFrom) := goodIn_app (goodIn_of _ (by decide +kernel)) ggX5_cheapestByRounds_X5_beginFrom
set_option maxRecDepth 20000 in
theorem ggX5_cheapestByRounds_X5_cheapenBeside : GoodIn wsX5_cheapestByRounds wsX5_cheapenBeside := goodIn_r _ [11, 12, 13, 1, 14, 15, 16, 17, 18, 19] (by decide +kernel) (by decide +kernel)
set_option maxRecDepth 20000 in
theorem gX5_cheapestByRounds_X5_cheapenBeside : GoodIn wsX5_cheapestByRounds (wsV RX5 119 RX5 yX5_cheapenBeside wsX5_cheapenBeside) := goodIn_app (goodIn_of _ (by decide +kernel)) ggX5_cheapestByRounds_X5_cheapenBeside
theorem dX5_cheapestByRounds_0 : decode cX5_cheapestByRounds 0 = .ok (.aload_n 0, 1) := by decide +kernel
theorem dX5_cheapestByRounds_1 : decode cX5_cheapestByRounds 1 = .ok (.iload_n 2, 1) := by decide +kernel
theorem dX5_cheapestByRounds_2 : decode cX5_cheapestByRounds 2 = .ok (.invokevirtual 52, 3) := by decide +kernel
theorem dX5_cheapestByRounds_5 : decode cX5_cheapestByRounds 5 = .ok (.iconst 1, 1) := by decide +kernel
theorem dX5_cheapestByRounds_6 : decode cX5_cheapestByRounds 6 = .ok (.istore_n 3, 1) := by decide +kernel
theorem dX5_cheapestByRounds_7 : decode cX5_cheapestByRounds 7 = .ok (.iconst 0, 1) := by decide +kernel
theorem dX5_cheapestByRounds_8 : decode cX5_cheapestByRounds 8 = .ok (.istore 4, 2) := by decide +kernel
theorem dX5_cheapestByRounds_10 : decode cX5_cheapestByRounds 10 = .ok (.iload 4, 2) := by decide +kernel
theorem dX5_cheapestByRounds_12 : decode cX5_cheapestByRounds 12 = .ok (.bipush 64, 2) := by decide +kernel
theorem dX5_cheapestByRounds_14 : decode cX5_cheapestByRounds 14 = .ok (.if_icmp .ge 54, 3) := by decide +kernel
theorem dX5_cheapestByRounds_17 : decode cX5_cheapestByRounds 17 = .ok (.iload_n 3, 1) := by decide +kernel
theorem dX5_cheapestByRounds_18 : decode cX5_cheapestByRounds 18 = .ok (.ifCond .eq 50, 3) := by decide +kernel
theorem dX5_cheapestByRounds_21 : decode cX5_cheapestByRounds 21 = .ok (.iconst 0, 1) := by decide +kernel
theorem dX5_cheapestByRounds_22 : decode cX5_cheapestByRounds 22 = .ok (.istore_n 3, 1) := by decide +kernel
theorem dX5_cheapestByRounds_23 : decode cX5_cheapestByRounds 23 = .ok (.iconst 0, 1) := by decide +kernel
theorem dX5_cheapestByRounds_24 : decode cX5_cheapestByRounds 24 = .ok (.istore 5, 2) := by decide +kernel
theorem dX5_cheapestByRounds_26 : decode cX5_cheapestByRounds 26 = .ok (.iload 5, 2) := by decide +kernel
theorem dX5_cheapestByRounds_28 : decode cX5_cheapestByRounds 28 = .ok (.bipush 64, 2) := by decide +kernel
theorem dX5_cheapestByRounds_30 : decode cX5_cheapestByRounds 30 = .ok (.if_icmp .ge 32, 3) := by decide +kernel
theorem dX5_cheapestByRounds_33 : decode cX5_cheapestByRounds 33 = .ok (.aload_n 0, 1) := by decide +kernel
theorem dX5_cheapestByRounds_34 : decode cX5_cheapestByRounds 34 = .ok (.getfield 19, 3) := by decide +kernel
theorem dX5_cheapestByRounds_37 : decode cX5_cheapestByRounds 37 = .ok (.iload 5, 2) := by decide +kernel
theorem dX5_cheapestByRounds_39 : decode cX5_cheapestByRounds 39 = .ok (.iaload, 1) := by decide +kernel
theorem dX5_cheapestByRounds_40 : decode cX5_cheapestByRounds 40 = .ok (.iconst (-1), 1) := by decide +kernel
theorem dX5_cheapestByRounds_41 : decode cX5_cheapestByRounds 41 = .ok (.if_icmp .eq 15, 3) := by decide +kernel
theorem dX5_cheapestByRounds_44 : decode cX5_cheapestByRounds 44 = .ok (.aload_n 0, 1) := by decide +kernel
theorem dX5_cheapestByRounds_45 : decode cX5_cheapestByRounds 45 = .ok (.aload_n 1, 1) := by decide +kernel
theorem dX5_cheapestByRounds_46 : decode cX5_cheapestByRounds 46 = .ok (.iload 5, 2) := by decide +kernel
theorem dX5_cheapestByRounds_48 : decode cX5_cheapestByRounds 48 = .ok (.invokevirtual 119, 3) := by decide +kernel
theorem dX5_cheapestByRounds_51 : decode cX5_cheapestByRounds 51 = .ok (.ifCond .eq 5, 3) := by decide +kernel
theorem dX5_cheapestByRounds_54 : decode cX5_cheapestByRounds 54 = .ok (.iconst 1, 1) := by decide +kernel
theorem dX5_cheapestByRounds_55 : decode cX5_cheapestByRounds 55 = .ok (.istore_n 3, 1) := by decide +kernel
theorem dX5_cheapestByRounds_56 : decode cX5_cheapestByRounds 56 = .ok (.iinc 5 1, 3) := by decide +kernel
theorem dX5_cheapestByRounds_59 : decode cX5_cheapestByRounds 59 = .ok (.goto (-33), 3) := by decide +kernel
theorem dX5_cheapestByRounds_62 : decode cX5_cheapestByRounds 62 = .ok (.iinc 4 1, 3) := by decide +kernel
theorem dX5_cheapestByRounds_65 : decode cX5_cheapestByRounds 65 = .ok (.goto (-55), 3) := by decide +kernel
theorem dX5_cheapestByRounds_68 : decode cX5_cheapestByRounds 68 = .ok (.iconst (-1), 1) := by decide +kernel
theorem dX5_cheapestByRounds_69 : decode cX5_cheapestByRounds 69 = .ok (.istore 4, 2) := by decide +kernel
theorem dX5_cheapestByRounds_71 : decode cX5_cheapestByRounds 71 = .ok (.bipush 56, 2) := by decide +kernel
theorem dX5_cheapestByRounds_73 : decode cX5_cheapestByRounds 73 = .ok (.istore 5, 2) := by decide +kernel
theorem dX5_cheapestByRounds_75 : decode cX5_cheapestByRounds 75 = .ok (.iload 5, 2) := by decide +kernel
theorem dX5_cheapestByRounds_77 : decode cX5_cheapestByRounds 77 = .ok (.bipush 64, 2) := by decide +kernel
theorem dX5_cheapestByRounds_79 : decode cX5_cheapestByRounds 79 = .ok (.if_icmp .ge 47, 3) := by decide +kernel
theorem dX5_cheapestByRounds_82 : decode cX5_cheapestByRounds 82 = .ok (.aload_n 0, 1) := by decide +kernel
theorem dX5_cheapestByRounds_83 : decode cX5_cheapestByRounds 83 = .ok (.getfield 19, 3) := by decide +kernel
theorem dX5_cheapestByRounds_86 : decode cX5_cheapestByRounds 86 = .ok (.iload 5, 2) := by decide +kernel
theorem dX5_cheapestByRounds_88 : decode cX5_cheapestByRounds 88 = .ok (.iaload, 1) := by decide +kernel
theorem dX5_cheapestByRounds_89 : decode cX5_cheapestByRounds 89 = .ok (.iconst (-1), 1) := by decide +kernel
theorem dX5_cheapestByRounds_90 : decode cX5_cheapestByRounds 90 = .ok (.if_icmp .eq 30, 3) := by decide +kernel
theorem dX5_cheapestByRounds_93 : decode cX5_cheapestByRounds 93 = .ok (.iload 4, 2) := by decide +kernel
theorem dX5_cheapestByRounds_95 : decode cX5_cheapestByRounds 95 = .ok (.iconst (-1), 1) := by decide +kernel
theorem dX5_cheapestByRounds_96 : decode cX5_cheapestByRounds 96 = .ok (.if_icmp .eq 15, 3) := by decide +kernel
theorem dX5_cheapestByRounds_99 : decode cX5_cheapestByRounds 99 = .ok (.aload_n 0, 1) := by decide +kernel
theorem dX5_cheapestByRounds_100 : decode cX5_cheapestByRounds 100 = .ok (.getfield 19, 3) := by decide +kernel
theorem dX5_cheapestByRounds_103 : decode cX5_cheapestByRounds 103 = .ok (.iload 5, 2) := by decide +kernel
theorem dX5_cheapestByRounds_105 : decode cX5_cheapestByRounds 105 = .ok (.iaload, 1) := by decide +kernel
theorem dX5_cheapestByRounds_106 : decode cX5_cheapestByRounds 106 = .ok (.iload 4, 2) := by decide +kernel
theorem dX5_cheapestByRounds_108 : decode cX5_cheapestByRounds 108 = .ok (.if_icmp .ge 12, 3) := by decide +kernel
theorem dX5_cheapestByRounds_111 : decode cX5_cheapestByRounds 111 = .ok (.aload_n 0, 1) := by decide +kernel
theorem dX5_cheapestByRounds_112 : decode cX5_cheapestByRounds 112 = .ok (.getfield 19, 3) := by decide +kernel
theorem dX5_cheapestByRounds_115 : decode cX5_cheapestByRounds 115 = .ok (.iload 5, 2) := by decide +kernel
theorem dX5_cheapestByRounds_117 : decode cX5_cheapestByRounds 117 = .ok (.iaload, 1) := by decide +kernel
theorem dX5_cheapestByRounds_118 : decode cX5_cheapestByRounds 118 = .ok (.istore 4, 2) := by decide +kernel
theorem dX5_cheapestByRounds_120 : decode cX5_cheapestByRounds 120 = .ok (.iinc 5 1, 3) := by decide +kernel
theorem dX5_cheapestByRounds_123 : decode cX5_cheapestByRounds 123 = .ok (.goto (-48), 3) := by decide +kernel
theorem dX5_cheapestByRounds_126 : decode cX5_cheapestByRounds 126 = .ok (.iload 4, 2) := by decide +kernel
theorem dX5_cheapestByRounds_128 : decode cX5_cheapestByRounds 128 = .ok (.ireturn, 1) := by decide +kernel
theorem dX5_cheapenBeside_0 : decode cX5_cheapenBeside 0 = .ok (.iconst 0, 1) := by decide +kernel
theorem dX5_cheapenBeside_1 : decode cX5_cheapenBeside 1 = .ok (.istore_n 3, 1) := by decide +kernel
theorem dX5_cheapenBeside_2 : decode cX5_cheapenBeside 2 = .ok (.iload_n 2, 1) := by decide +kernel
theorem dX5_cheapenBeside_3 : decode cX5_cheapenBeside 3 = .ok (.ifCond .lt 9, 3) := by decide +kernel
theorem dX5_cheapenBeside_6 : decode cX5_cheapenBeside 6 = .ok (.iload_n 2, 1) := by decide +kernel
theorem dX5_cheapenBeside_7 : decode cX5_cheapenBeside 7 = .ok (.bipush 64, 2) := by decide +kernel
theorem dX5_cheapenBeside_9 : decode cX5_cheapenBeside 9 = .ok (.if_icmp .lt 5, 3) := by decide +kernel
theorem dX5_cheapenBeside_12 : decode cX5_cheapenBeside 12 = .ok (.iconst 0, 1) := by decide +kernel
theorem dX5_cheapenBeside_13 : decode cX5_cheapenBeside 13 = .ok (.ireturn, 1) := by decide +kernel
theorem dX5_cheapenBeside_14 : decode cX5_cheapenBeside 14 = .ok (.iconst 0, 1) := by decide +kernel
theorem dX5_cheapenBeside_15 : decode cX5_cheapenBeside 15 = .ok (.istore 4, 2) := by decide +kernel
theorem dX5_cheapenBeside_17 : decode cX5_cheapenBeside 17 = .ok (.iload 4, 2) := by decide +kernel
theorem dX5_cheapenBeside_19 : decode cX5_cheapenBeside 19 = .ok (.iconst 3, 1) := by decide +kernel
theorem dX5_cheapenBeside_20 : decode cX5_cheapenBeside 20 = .ok (.if_icmp .ge 98, 3) := by decide +kernel
theorem dX5_cheapenBeside_23 : decode cX5_cheapenBeside 23 = .ok (.aload_n 0, 1) := by decide +kernel
theorem dX5_cheapenBeside_24 : decode cX5_cheapenBeside 24 = .ok (.getfield 9, 3) := by decide +kernel
theorem dX5_cheapenBeside_27 : decode cX5_cheapenBeside 27 = .ok (.iload_n 2, 1) := by decide +kernel
theorem dX5_cheapenBeside_28 : decode cX5_cheapenBeside 28 = .ok (.iconst 3, 1) := by decide +kernel
theorem dX5_cheapenBeside_29 : decode cX5_cheapenBeside 29 = .ok (.imul, 1) := by decide +kernel
theorem dX5_cheapenBeside_30 : decode cX5_cheapenBeside 30 = .ok (.iload 4, 2) := by decide +kernel
theorem dX5_cheapenBeside_32 : decode cX5_cheapenBeside 32 = .ok (.iadd, 1) := by decide +kernel
theorem dX5_cheapenBeside_33 : decode cX5_cheapenBeside 33 = .ok (.iaload, 1) := by decide +kernel
theorem dX5_cheapenBeside_34 : decode cX5_cheapenBeside 34 = .ok (.istore 5, 2) := by decide +kernel
theorem dX5_cheapenBeside_36 : decode cX5_cheapenBeside 36 = .ok (.iload 5, 2) := by decide +kernel
theorem dX5_cheapenBeside_38 : decode cX5_cheapenBeside 38 = .ok (.ifCond .lt 74, 3) := by decide +kernel
theorem dX5_cheapenBeside_41 : decode cX5_cheapenBeside 41 = .ok (.iload 5, 2) := by decide +kernel
theorem dX5_cheapenBeside_43 : decode cX5_cheapenBeside 43 = .ok (.bipush 64, 2) := by decide +kernel
theorem dX5_cheapenBeside_45 : decode cX5_cheapenBeside 45 = .ok (.if_icmp .ge 67, 3) := by decide +kernel
theorem dX5_cheapenBeside_48 : decode cX5_cheapenBeside 48 = .ok (.iload 5, 2) := by decide +kernel
theorem dX5_cheapenBeside_50 : decode cX5_cheapenBeside 50 = .ok (.aload_n 1, 1) := by decide +kernel
theorem dX5_cheapenBeside_51 : decode cX5_cheapenBeside 51 = .ok (.arraylength, 1) := by decide +kernel
theorem dX5_cheapenBeside_52 : decode cX5_cheapenBeside 52 = .ok (.if_icmp .ge 60, 3) := by decide +kernel
theorem dX5_cheapenBeside_55 : decode cX5_cheapenBeside 55 = .ok (.aload_n 0, 1) := by decide +kernel
theorem dX5_cheapenBeside_56 : decode cX5_cheapenBeside 56 = .ok (.getfield 15, 3) := by decide +kernel
theorem dX5_cheapenBeside_59 : decode cX5_cheapenBeside 59 = .ok (.iload 5, 2) := by decide +kernel
theorem dX5_cheapenBeside_61 : decode cX5_cheapenBeside 61 = .ok (.baload, 1) := by decide +kernel
theorem dX5_cheapenBeside_62 : decode cX5_cheapenBeside 62 = .ok (.ifCond .eq 50, 3) := by decide +kernel
theorem dX5_cheapenBeside_65 : decode cX5_cheapenBeside 65 = .ok (.aload_n 0, 1) := by decide +kernel
theorem dX5_cheapenBeside_66 : decode cX5_cheapenBeside 66 = .ok (.getfield 19, 3) := by decide +kernel
theorem dX5_cheapenBeside_69 : decode cX5_cheapenBeside 69 = .ok (.iload_n 2, 1) := by decide +kernel
theorem dX5_cheapenBeside_70 : decode cX5_cheapenBeside 70 = .ok (.iaload, 1) := by decide +kernel
theorem dX5_cheapenBeside_71 : decode cX5_cheapenBeside 71 = .ok (.aload_n 1, 1) := by decide +kernel
theorem dX5_cheapenBeside_72 : decode cX5_cheapenBeside 72 = .ok (.iload 5, 2) := by decide +kernel
theorem dX5_cheapenBeside_74 : decode cX5_cheapenBeside 74 = .ok (.iaload, 1) := by decide +kernel
theorem dX5_cheapenBeside_75 : decode cX5_cheapenBeside 75 = .ok (.iadd, 1) := by decide +kernel
theorem dX5_cheapenBeside_76 : decode cX5_cheapenBeside 76 = .ok (.istore 6, 2) := by decide +kernel
theorem dX5_cheapenBeside_78 : decode cX5_cheapenBeside 78 = .ok (.aload_n 0, 1) := by decide +kernel
theorem dX5_cheapenBeside_79 : decode cX5_cheapenBeside 79 = .ok (.getfield 19, 3) := by decide +kernel
theorem dX5_cheapenBeside_82 : decode cX5_cheapenBeside 82 = .ok (.iload 5, 2) := by decide +kernel
theorem dX5_cheapenBeside_84 : decode cX5_cheapenBeside 84 = .ok (.iaload, 1) := by decide +kernel
theorem dX5_cheapenBeside_85 : decode cX5_cheapenBeside 85 = .ok (.iconst (-1), 1) := by decide +kernel
theorem dX5_cheapenBeside_86 : decode cX5_cheapenBeside 86 = .ok (.if_icmp .eq 15, 3) := by decide +kernel
theorem dX5_cheapenBeside_89 : decode cX5_cheapenBeside 89 = .ok (.iload 6, 2) := by decide +kernel
theorem dX5_cheapenBeside_91 : decode cX5_cheapenBeside 91 = .ok (.aload_n 0, 1) := by decide +kernel
theorem dX5_cheapenBeside_92 : decode cX5_cheapenBeside 92 = .ok (.getfield 19, 3) := by decide +kernel
theorem dX5_cheapenBeside_95 : decode cX5_cheapenBeside 95 = .ok (.iload 5, 2) := by decide +kernel
theorem dX5_cheapenBeside_97 : decode cX5_cheapenBeside 97 = .ok (.iaload, 1) := by decide +kernel
theorem dX5_cheapenBeside_98 : decode cX5_cheapenBeside 98 = .ok (.if_icmp .ge 14, 3) := by decide +kernel
theorem dX5_cheapenBeside_101 : decode cX5_cheapenBeside 101 = .ok (.aload_n 0, 1) := by decide +kernel
theorem dX5_cheapenBeside_102 : decode cX5_cheapenBeside 102 = .ok (.getfield 19, 3) := by decide +kernel
theorem dX5_cheapenBeside_105 : decode cX5_cheapenBeside 105 = .ok (.iload 5, 2) := by decide +kernel
theorem dX5_cheapenBeside_107 : decode cX5_cheapenBeside 107 = .ok (.iload 6, 2) := by decide +kernel
theorem dX5_cheapenBeside_109 : decode cX5_cheapenBeside 109 = .ok (.iastore, 1) := by decide +kernel
theorem dX5_cheapenBeside_110 : decode cX5_cheapenBeside 110 = .ok (.iconst 1, 1) := by decide +kernel
theorem dX5_cheapenBeside_111 : decode cX5_cheapenBeside 111 = .ok (.istore_n 3, 1) := by decide +kernel
theorem dX5_cheapenBeside_112 : decode cX5_cheapenBeside 112 = .ok (.iinc 4 1, 3) := by decide +kernel
theorem dX5_cheapenBeside_115 : decode cX5_cheapenBeside 115 = .ok (.goto (-98), 3) := by decide +kernel
theorem dX5_cheapenBeside_118 : decode cX5_cheapenBeside 118 = .ok (.iload_n 3, 1) := by decide +kernel
theorem dX5_cheapenBeside_119 : decode cX5_cheapenBeside 119 = .ok (.ireturn, 1) := by decide +kernel
set_option maxRecDepth 20000 in
theorem ggX6_init_X4_init : GoodIn wsX6_init wsX4_init := goodIn_r _ [27, 28, 2, 3, 29, 30, 123, 124] (by decide +kernel) (by decide +kernel)
set_option maxRecDepth 20000 in
theorem gX6_init_X4_init_n9 : GoodIn wsX6_init (wsX4_init) := ggX6_init_X4_init
set_option maxRecDepth 20000 in
theorem ggX6_init_X0_init : GoodIn wsX6_init wsX0_init := goodIn_r _ [32, 33, 2, 3, 34, 35, 36, 37, 38, 39, 40, 41, 42, 43, 44, 45, 46, 47, 155, 156, 157, 158, 159, 160, 161, 162, 132, 133, 134, 135, 136, 137, 138, 139, 140, 141, 142, 143] (by decide +kernel) (by decide +kernel)
set_option maxRecDepth 20000 in
theorem gX6_init_X0_init_n18 : GoodIn wsX6_init (wsX0_init) := ggX6_init_X0_init
set_option maxRecDepth 20000 in
theorem ggX6_init_X5_init : GoodIn wsX6_init wsX5_init := goodIn_r _ [50, 51, 2, 3, 39, 52, 46, 53, 54, 55, 56, 57, 58, 59, 60, 61, 62, 63, 64, 65, 66, 144, 145, 146, 147, 148, 149] (by decide +kernel) (by decide +kernel)
set_option maxRecDepth 20000 in
theorem gX6_init_X5_init : GoodIn wsX6_init (wsX5_init) := ggX6_init_X5_init
set_option maxRecDepth 20000 in
theorem ggX6_init_X1_init : GoodIn wsX6_init wsX1_init := goodIn_r _ [69, 70, 2, 3, 71, 72, 9, 10, 31, 32, 33, 34, 35, 36, 37, 38, 39, 40, 41, 42, 43, 44, 45, 46, 47, 150, 151, 152, 132, 133, 134, 135, 136, 137, 138, 139, 140, 141, 142, 143, 155, 156, 157, 158, 159, 160, 161, 162] (by decide +kernel) (by decide +kernel)
set_option maxRecDepth 20000 in
theorem gX6_init_X1_init : GoodIn wsX6_init (wsX1_init) := ggX6_init_X1_init
set_option maxRecDepth 20000 in
theorem ggX6_init_X3_init : GoodIn wsX6_init wsX3_init := goodIn_r _ [74, 75, 2, 3, 76, 9, 10, 77, 31, 32, 33, 34, 35, 36, 37, 38, 39, 40, 41, 42, 43, 44, 45, 46, 47, 132, 133, 134, 135, 136, 137, 138, 139, 140, 141, 142, 143, 153, 154, 155, 156, 157, 158, 159, 160, 161, 162] (by decide +kernel) (by decide +kernel)
set_option maxRecDepth 20000 in
theorem gX6_init_X3_init_n42 : GoodIn wsX6_init (wsX3_init) := ggX6_init_X3_init
set_option maxRecDepth 20000 in
theorem ggX6_init_X0_startAnew : GoodIn wsX6_init wsX0_startAnew := goodIn_r _ [81, 82, 83, 84, 85, 86, 37, 87, 88, 38, 89, 90, 91, 10, 92, 40, 93, 94, 95, 96, 97, 98, 99, 100, 101, 102, 59, 103, 104, 105, 106, 107, 108, 109, 110, 111, 112, 113, 114, 36, 115, 47, 116, 117, 118, 119, 120, 121, 122, 45, 62, 63, 132, 133, 134, 135, 136, 137, 138, 139, 140, 141, 142, 143, 155, 156, 157, 158, 159, 160, 161, 162] (by decide +kernel) (by decide +kernel)
set_option maxRecDepth 20000 in
theorem gX6_init_X0_startAnew : GoodIn wsX6_init (wsV RX6 50 RX0 yX0_startAnew wsX0_startAnew) := goodIn_app (goodIn_of _ (by decide +kernel)) ggX6_init_X0_startAnew
theorem dX6_init_0 : decode cX6_init 0 = .ok (.aload_n 0, 1) := by decide +kernel
theorem dX6_init_1 : decode cX6_init 1 = .ok (.invokespecial 1, 3) := by decide +kernel
theorem dX6_init_4 : decode cX6_init 4 = .ok (.aload_n 0, 1) := by decide +kernel
theorem dX6_init_5 : decode cX6_init 5 = .ok (.new 7, 3) := by decide +kernel
theorem dX6_init_8 : decode cX6_init 8 = .ok (.dup, 1) := by decide +kernel
theorem dX6_init_9 : decode cX6_init 9 = .ok (.invokespecial 9, 3) := by decide +kernel
theorem dX6_init_12 : decode cX6_init 12 = .ok (.putfield 10, 3) := by decide +kernel
theorem dX6_init_15 : decode cX6_init 15 = .ok (.aload_n 0, 1) := by decide +kernel
theorem dX6_init_16 : decode cX6_init 16 = .ok (.new 16, 3) := by decide +kernel
theorem dX6_init_19 : decode cX6_init 19 = .ok (.dup, 1) := by decide +kernel
theorem dX6_init_20 : decode cX6_init 20 = .ok (.invokespecial 18, 3) := by decide +kernel
theorem dX6_init_23 : decode cX6_init 23 = .ok (.putfield 19, 3) := by decide +kernel
theorem dX6_init_26 : decode cX6_init 26 = .ok (.aload_n 0, 1) := by decide +kernel
theorem dX6_init_27 : decode cX6_init 27 = .ok (.new 16, 3) := by decide +kernel
theorem dX6_init_30 : decode cX6_init 30 = .ok (.dup, 1) := by decide +kernel
theorem dX6_init_31 : decode cX6_init 31 = .ok (.invokespecial 18, 3) := by decide +kernel
theorem dX6_init_34 : decode cX6_init 34 = .ok (.putfield 23, 3) := by decide +kernel
theorem dX6_init_37 : decode cX6_init 37 = .ok (.aload_n 0, 1) := by decide +kernel
theorem dX6_init_38 : decode cX6_init 38 = .ok (.new 26, 3) := by decide +kernel
theorem dX6_init_41 : decode cX6_init 41 = .ok (.dup, 1) := by decide +kernel
theorem dX6_init_42 : decode cX6_init 42 = .ok (.invokespecial 28, 3) := by decide +kernel
theorem dX6_init_45 : decode cX6_init 45 = .ok (.putfield 29, 3) := by decide +kernel
theorem dX6_init_48 : decode cX6_init 48 = .ok (.aload_n 0, 1) := by decide +kernel
theorem dX6_init_49 : decode cX6_init 49 = .ok (.new 33, 3) := by decide +kernel
theorem dX6_init_52 : decode cX6_init 52 = .ok (.dup, 1) := by decide +kernel
theorem dX6_init_53 : decode cX6_init 53 = .ok (.invokespecial 35, 3) := by decide +kernel
theorem dX6_init_56 : decode cX6_init 56 = .ok (.putfield 36, 3) := by decide +kernel
theorem dX6_init_59 : decode cX6_init 59 = .ok (.aload_n 0, 1) := by decide +kernel
theorem dX6_init_60 : decode cX6_init 60 = .ok (.new 40, 3) := by decide +kernel
theorem dX6_init_63 : decode cX6_init 63 = .ok (.dup, 1) := by decide +kernel
theorem dX6_init_64 : decode cX6_init 64 = .ok (.invokespecial 42, 3) := by decide +kernel
theorem dX6_init_67 : decode cX6_init 67 = .ok (.putfield 43, 3) := by decide +kernel
theorem dX6_init_70 : decode cX6_init 70 = .ok (.aload_n 0, 1) := by decide +kernel
theorem dX6_init_71 : decode cX6_init 71 = .ok (.new 40, 3) := by decide +kernel
theorem dX6_init_74 : decode cX6_init 74 = .ok (.dup, 1) := by decide +kernel
theorem dX6_init_75 : decode cX6_init 75 = .ok (.invokespecial 42, 3) := by decide +kernel
theorem dX6_init_78 : decode cX6_init 78 = .ok (.putfield 47, 3) := by decide +kernel
theorem dX6_init_81 : decode cX6_init 81 = .ok (.aload_n 0, 1) := by decide +kernel
theorem dX6_init_82 : decode cX6_init 82 = .ok (.getfield 19, 3) := by decide +kernel
theorem dX6_init_85 : decode cX6_init 85 = .ok (.invokevirtual 50, 3) := by decide +kernel
theorem dX6_init_88 : decode cX6_init 88 = .ok (.return_, 1) := by decide +kernel
set_option maxRecDepth 20000 in
theorem ggX6_append_X4_isFull : GoodIn wsX6_append wsX4_isFull := goodIn_r _ [10, 11, 24, 25] (by decide +kernel) (by decide +kernel)
set_option maxRecDepth 20000 in
theorem gX6_append_X4_isFull : GoodIn wsX6_append (wsV RX6 60 RX4 yX4_isFull wsX4_isFull) := goodIn_app (goodIn_of _ (by decide +kernel)) ggX6_append_X4_isFull
set_option maxRecDepth 20000 in
theorem ggX6_append_X4_add : GoodIn wsX6_append wsX4_add := goodIn_r _ [15, 11, 16, 24, 25] (by decide +kernel) (by decide +kernel)
set_option maxRecDepth 20000 in
theorem gX6_append_X4_add : GoodIn wsX6_append (wsV RX6 69 RX4 yX4_add wsX4_add) := goodIn_app (goodIn_of _ (by decide +kernel)) ggX6_append_X4_add
theorem dX6_append_0 : decode cX6_append 0 = .ok (.iload_n 1, 1) := by decide +kernel
theorem dX6_append_1 : decode cX6_append 1 = .ok (.ifCond .lt 10, 3) := by decide +kernel
theorem dX6_append_4 : decode cX6_append 4 = .ok (.iload_n 1, 1) := by decide +kernel
theorem dX6_append_5 : decode cX6_append 5 = .ok (.sipush 255, 3) := by decide +kernel
theorem dX6_append_8 : decode cX6_append 8 = .ok (.if_icmp .le 13, 3) := by decide +kernel
theorem dX6_append_11 : decode cX6_append 11 = .ok (.new 53, 3) := by decide +kernel
theorem dX6_append_14 : decode cX6_append 14 = .ok (.dup, 1) := by decide +kernel
theorem dX6_append_15 : decode cX6_append 15 = .ok (.ldc 55, 2) := by decide +kernel
theorem dX6_append_17 : decode cX6_append 17 = .ok (.invokespecial 57, 3) := by decide +kernel
theorem dX6_append_20 : decode cX6_append 20 = .ok (.athrow, 1) := by decide +kernel
theorem dX6_append_21 : decode cX6_append 21 = .ok (.aload_n 0, 1) := by decide +kernel
theorem dX6_append_22 : decode cX6_append 22 = .ok (.getfield 10, 3) := by decide +kernel
theorem dX6_append_25 : decode cX6_append 25 = .ok (.invokevirtual 60, 3) := by decide +kernel
theorem dX6_append_28 : decode cX6_append 28 = .ok (.ifCond .eq 13, 3) := by decide +kernel
theorem dX6_append_31 : decode cX6_append 31 = .ok (.new 64, 3) := by decide +kernel
theorem dX6_append_34 : decode cX6_append 34 = .ok (.dup, 1) := by decide +kernel
theorem dX6_append_35 : decode cX6_append 35 = .ok (.ldc 66, 2) := by decide +kernel
theorem dX6_append_37 : decode cX6_append 37 = .ok (.invokespecial 68, 3) := by decide +kernel
theorem dX6_append_40 : decode cX6_append 40 = .ok (.athrow, 1) := by decide +kernel
theorem dX6_append_41 : decode cX6_append 41 = .ok (.aload_n 0, 1) := by decide +kernel
theorem dX6_append_42 : decode cX6_append 42 = .ok (.getfield 10, 3) := by decide +kernel
theorem dX6_append_45 : decode cX6_append 45 = .ok (.iload_n 1, 1) := by decide +kernel
theorem dX6_append_46 : decode cX6_append 46 = .ok (.i2c, 1) := by decide +kernel
theorem dX6_append_47 : decode cX6_append 47 = .ok (.invokevirtual 69, 3) := by decide +kernel
theorem dX6_append_50 : decode cX6_append 50 = .ok (.ireturn, 1) := by decide +kernel
set_option maxRecDepth 20000 in
theorem ggX6_load_X4_firstError : GoodIn wsX6_load wsX4_firstError := goodIn_r _ [14, 15, 16, 17, 18, 13, 19, 20, 21, 22, 23, 24, 25, 26, 27, 28, 29, 30, 31, 32, 33, 34, 283, 284] (by decide +kernel) (by decide +kernel)
set_option maxRecDepth 20000 in
theorem gX6_load_X4_firstError : GoodIn wsX6_load (wsV RX6 77 RX4 yX4_firstError wsX4_firstError) := goodIn_app (goodIn_of _ (by decide +kernel)) ggX6_load_X4_firstError
set_option maxRecDepth 20000 in
theorem ggX6_load_X0_startAnew : GoodIn wsX6_load wsX0_startAnew := goodIn_r _ [39, 40, 41, 42, 43, 44, 45, 46, 47, 48, 49, 50, 51, 38, 52, 53, 54, 55, 56, 57, 58, 59, 60, 61, 62, 63, 64, 65, 66, 67, 68, 69, 70, 71, 72, 73, 74, 75, 76, 77, 78, 79, 80, 81, 82, 83, 84, 85, 86, 87, 88, 89, 285, 286, 287, 288, 289, 290, 291, 292, 293, 294, 295, 296, 297, 298, 299, 300, 301, 302, 303, 304] (by decide +kernel) (by decide +kernel)
set_option maxRecDepth 20000 in
theorem gX6_load_X0_startAnew : GoodIn wsX6_load (wsV RX6 50 RX0 yX0_startAnew wsX0_startAnew) := goodIn_app (goodIn_of _ (by decide +kernel)) ggX6_load_X0_startAnew
set_option maxRecDepth 20000 in
theorem ggX6_load_X1_forgetAll : GoodIn wsX6_load wsX1_forgetAll := goodIn_r _ [94, 95, 305, 306, 307] (by decide +kernel) (by decide +kernel)
set_option maxRecDepth 20000 in
theorem gX6_load_X1_forgetAll : GoodIn wsX6_load (wsV RX6 82 RX1 yX1_forgetAll wsX1_forgetAll) := goodIn_app (goodIn_of _ (by decide +kernel)) ggX6_load_X1_forgetAll
set_option maxRecDepth 20000 in
theorem ggX6_load_X6_doTextCommand : GoodIn wsX6_load wsX6_doTextCommand := goodIn_r _ [99, 3, 4, 100, 101, 17, 18, 13, 19, 15, 20, 102, 103, 104, 105, 28, 29, 30, 31, 16, 106, 50, 51, 38, 52, 53, 45, 48, 42, 54, 55, 56, 57, 58, 59, 60, 61, 62, 63, 64, 65, 66, 67, 68, 69, 70, 71, 72, 73, 74, 75, 76, 77, 78, 79, 80, 81, 82, 83, 84, 85, 86, 87, 88, 89, 107, 108, 109, 110, 111, 112, 113, 114, 115, 116, 117, 118, 119, 120, 121, 122, 123, 124, 125, 126, 127, 128, 129, 130, 131, 132, 133, 134, 135, 136, 137, 138, 139, 140, 141, 142, 143, 144, 145, 146, 147, 148, 149, 150, 151, 152, 153, 41, 154, 46, 155, 156, 157, 158, 159, 160, 161, 162, 163, 164, 165, 166, 167, 168, 40, 169, 170, 171, 172, 173, 174, 175, 176, 177, 178, 179, 180, 181, 182, 183, 184, 185, 186, 187, 188, 189, 190, 191, 192, 193, 194, 195, 196, 197, 198, 199, 200, 201, 202, 203, 204, 205, 206, 207, 208, 209, 210, 211, 212, 213, 214, 215, 216, 217, 218, 219, 220, 221, 222, 223, 224, 225, 44, 226, 227, 228, 229, 230, 231, 232, 233, 234, 235, 236, 237, 238, 239, 240, 241, 242, 243, 244, 245, 246, 247, 248, 249, 250, 251, 252, 253, 254, 255, 256, 257, 258, 259, 260, 261, 262, 263, 264, 265, 266, 267, 268, 269, 270, 271, 272, 274, 275, 276, 277, 278, 279, 280, 283, 284, 285, 286, 287, 288, 289, 290, 291, 292, 293, 294, 295, 296, 297, 298, 299, 300, 301, 302, 303, 304, 308, 309, 310, 311, 312, 313] (by decide +kernel) (by decide +kernel)
set_option maxRecDepth 20000 in
theorem gX6_load_X6_doTextCommand : GoodIn wsX6_load (wsV RX6 93 RX6 yX6_doTextCommand wsX6_doTextCommand) := goodIn_app (goodIn_of _ (by decide +kernel)) ggX6_load_X6_doTextCommand
set_option maxRecDepth 20000 in
theorem ggX6_load_X4_signAt : GoodIn wsX6_load wsX4_signAt := goodIn_r _ [19, 15, 20, 283, 284] (by decide +kernel) (by decide +kernel)
set_option maxRecDepth 20000 in
theorem gX6_load_X4_signAt : GoodIn wsX6_load (wsV RX6 97 RX4 yX4_signAt wsX4_signAt) := goodIn_app (goodIn_of _ (by decide +kernel)) ggX6_load_X4_signAt
set_option maxRecDepth 20000 in
theorem ggX6_load_X4_sizeOf : GoodIn wsX6_load wsX4_sizeOf := goodIn_r _ [23] (by decide +kernel) (by decide +kernel)
set_option maxRecDepth 20000 in
theorem gX6_load_X4_sizeOf : GoodIn wsX6_load (va_wsS RX6 101 yX4_sizeOf wsX4_sizeOf) := goodIn_app (goodIn_of _ (by decide +kernel)) ggX6_load_X4_sizeOf
theorem dX6_load_0 : decode cX6_load 0 = .ok (.aload_n 0, 1) := by decide +kernel
theorem dX6_load_1 : decode cX6_load 1 = .ok (.getfield 10, 3) := by decide +kernel
theorem dX6_load_4 : decode cX6_load 4 = .ok (.invokevirtual 77, 3) := by decide +kernel
theorem dX6_load_7 : decode cX6_load 7 = .ok (.iconst (-1), 1) := by decide +kernel
theorem dX6_load_8 : decode cX6_load 8 = .ok (.if_icmp .eq 13, 3) := by decide +kernel
theorem dX6_load_11 : decode cX6_load 11 = .ok (.new 64, 3) := by decide +kernel
theorem dX6_load_14 : decode cX6_load 14 = .ok (.dup, 1) := by decide +kernel
theorem dX6_load_15 : decode cX6_load 15 = .ok (.ldc 80, 2) := by decide +kernel
theorem dX6_load_17 : decode cX6_load 17 = .ok (.invokespecial 68, 3) := by decide +kernel
theorem dX6_load_20 : decode cX6_load 20 = .ok (.athrow, 1) := by decide +kernel
theorem dX6_load_21 : decode cX6_load 21 = .ok (.aload_n 0, 1) := by decide +kernel
theorem dX6_load_22 : decode cX6_load 22 = .ok (.getfield 19, 3) := by decide +kernel
theorem dX6_load_25 : decode cX6_load 25 = .ok (.invokevirtual 50, 3) := by decide +kernel
theorem dX6_load_28 : decode cX6_load 28 = .ok (.aload_n 0, 1) := by decide +kernel
theorem dX6_load_29 : decode cX6_load 29 = .ok (.getfield 36, 3) := by decide +kernel
theorem dX6_load_32 : decode cX6_load 32 = .ok (.invokevirtual 82, 3) := by decide +kernel
theorem dX6_load_35 : decode cX6_load 35 = .ok (.aload_n 0, 1) := by decide +kernel
theorem dX6_load_36 : decode cX6_load 36 = .ok (.getfield 43, 3) := by decide +kernel
theorem dX6_load_39 : decode cX6_load 39 = .ok (.iconst 0, 1) := by decide +kernel
theorem dX6_load_40 : decode cX6_load 40 = .ok (.putfield 85, 3) := by decide +kernel
theorem dX6_load_43 : decode cX6_load 43 = .ok (.aload_n 0, 1) := by decide +kernel
theorem dX6_load_44 : decode cX6_load 44 = .ok (.getfield 47, 3) := by decide +kernel
theorem dX6_load_47 : decode cX6_load 47 = .ok (.iconst 0, 1) := by decide +kernel
theorem dX6_load_48 : decode cX6_load 48 = .ok (.putfield 85, 3) := by decide +kernel
theorem dX6_load_51 : decode cX6_load 51 = .ok (.iconst 0, 1) := by decide +kernel
theorem dX6_load_52 : decode cX6_load 52 = .ok (.istore_n 1, 1) := by decide +kernel
theorem dX6_load_53 : decode cX6_load 53 = .ok (.iconst 1, 1) := by decide +kernel
theorem dX6_load_54 : decode cX6_load 54 = .ok (.istore_n 2, 1) := by decide +kernel
theorem dX6_load_55 : decode cX6_load 55 = .ok (.iconst 0, 1) := by decide +kernel
theorem dX6_load_56 : decode cX6_load 56 = .ok (.istore_n 3, 1) := by decide +kernel
theorem dX6_load_57 : decode cX6_load 57 = .ok (.iload_n 3, 1) := by decide +kernel
theorem dX6_load_58 : decode cX6_load 58 = .ok (.bipush 120, 2) := by decide +kernel
theorem dX6_load_60 : decode cX6_load 60 = .ok (.if_icmp .ge 45, 3) := by decide +kernel
theorem dX6_load_63 : decode cX6_load 63 = .ok (.iload_n 2, 1) := by decide +kernel
theorem dX6_load_64 : decode cX6_load 64 = .ok (.aload_n 0, 1) := by decide +kernel
theorem dX6_load_65 : decode cX6_load 65 = .ok (.getfield 10, 3) := by decide +kernel
theorem dX6_load_68 : decode cX6_load 68 = .ok (.getfield 89, 3) := by decide +kernel
theorem dX6_load_71 : decode cX6_load 71 = .ok (.if_icmp .ge 34, 3) := by decide +kernel
theorem dX6_load_74 : decode cX6_load 74 = .ok (.aload_n 0, 1) := by decide +kernel
theorem dX6_load_75 : decode cX6_load 75 = .ok (.iload_n 2, 1) := by decide +kernel
theorem dX6_load_76 : decode cX6_load 76 = .ok (.invokevirtual 93, 3) := by decide +kernel
theorem dX6_load_79 : decode cX6_load 79 = .ok (.ifCond .ne 6, 3) := by decide +kernel
theorem dX6_load_82 : decode cX6_load 82 = .ok (.iinc 1 1, 3) := by decide +kernel
theorem dX6_load_85 : decode cX6_load 85 = .ok (.iload_n 2, 1) := by decide +kernel
theorem dX6_load_86 : decode cX6_load 86 = .ok (.aload_n 0, 1) := by decide +kernel
theorem dX6_load_87 : decode cX6_load 87 = .ok (.getfield 10, 3) := by decide +kernel
theorem dX6_load_90 : decode cX6_load 90 = .ok (.iload_n 2, 1) := by decide +kernel
theorem dX6_load_91 : decode cX6_load 91 = .ok (.invokevirtual 97, 3) := by decide +kernel
theorem dX6_load_94 : decode cX6_load 94 = .ok (.invokestatic 101, 3) := by decide +kernel
theorem dX6_load_97 : decode cX6_load 97 = .ok (.iadd, 1) := by decide +kernel
theorem dX6_load_98 : decode cX6_load 98 = .ok (.istore_n 2, 1) := by decide +kernel
theorem dX6_load_99 : decode cX6_load 99 = .ok (.iinc 3 1, 3) := by decide +kernel
theorem dX6_load_102 : decode cX6_load 102 = .ok (.goto (-45), 3) := by decide +kernel
theorem dX6_load_105 : decode cX6_load 105 = .ok (.iload_n 1, 1) := by decide +kernel
theorem dX6_load_106 : decode cX6_load 106 = .ok (.ireturn, 1) := by decide +kernel
set_option maxRecDepth 20000 in
theorem ggX6_about_X0_phase : GoodIn wsX6_about wsX0_phase := goodIn_r _ [15, 16, 17, 35, 36, 37, 38, 39, 40, 41, 42, 43, 44, 45, 46] (by decide +kernel) (by decide +kernel)
set_option maxRecDepth 20000 in
theorem gX6_about_X0_phase : GoodIn wsX6_about (wsV RX6 107 RX0 yX0_phase wsX0_phase) := goodIn_app (goodIn_of _ (by decide +kernel)) ggX6_about_X0_phase
set_option maxRecDepth 20000 in
theorem ggX6_about_X0_isOver : GoodIn wsX6_about wsX0_isOver := goodIn_r _ [21, 22, 12, 13, 14, 15, 16, 17, 35, 36, 37, 38, 39, 40, 41, 42, 43, 44, 45, 46] (by decide +kernel) (by decide +kernel)
set_option maxRecDepth 20000 in
theorem gX6_about_X0_isOver : GoodIn wsX6_about (wsV RX6 110 RX0 yX0_isOver wsX0_isOver) := goodIn_app (goodIn_of _ (by decide +kernel)) ggX6_about_X0_isOver
set_option maxRecDepth 20000 in
theorem ggX6_about_X0_countDams : GoodIn wsX6_about wsX0_countDams := goodIn_r _ [26, 27, 35, 36, 37, 38, 39, 40, 41, 42, 43, 44, 45, 46] (by decide +kernel) (by decide +kernel)
set_option maxRecDepth 20000 in
theorem gX6_about_X0_countDams : GoodIn wsX6_about (wsV RX6 119 RX0 yX0_countDams wsX0_countDams) := goodIn_app (goodIn_of _ (by decide +kernel)) ggX6_about_X0_countDams
theorem dX6_about_0 : decode cX6_about 0 = .ok (.iload_n 1, 1) := by decide +kernel
theorem dX6_about_1 : decode cX6_about 1 = .ok (.tableswitch 137 0 8 #[51, 59, 67, 89, 97, 105, 113, 121, 129], 51) := by decide +kernel
theorem dX6_about_52 : decode cX6_about 52 = .ok (.aload_n 0, 1) := by decide +kernel
theorem dX6_about_53 : decode cX6_about 53 = .ok (.getfield 19, 3) := by decide +kernel
theorem dX6_about_56 : decode cX6_about 56 = .ok (.getfield 104, 3) := by decide +kernel
theorem dX6_about_59 : decode cX6_about 59 = .ok (.ireturn, 1) := by decide +kernel
theorem dX6_about_60 : decode cX6_about 60 = .ok (.aload_n 0, 1) := by decide +kernel
theorem dX6_about_61 : decode cX6_about 61 = .ok (.getfield 19, 3) := by decide +kernel
theorem dX6_about_64 : decode cX6_about 64 = .ok (.invokevirtual 107, 3) := by decide +kernel
theorem dX6_about_67 : decode cX6_about 67 = .ok (.ireturn, 1) := by decide +kernel
theorem dX6_about_68 : decode cX6_about 68 = .ok (.aload_n 0, 1) := by decide +kernel
theorem dX6_about_69 : decode cX6_about 69 = .ok (.getfield 19, 3) := by decide +kernel
theorem dX6_about_72 : decode cX6_about 72 = .ok (.invokevirtual 110, 3) := by decide +kernel
theorem dX6_about_75 : decode cX6_about 75 = .ok (.ifCond .eq 7, 3) := by decide +kernel
theorem dX6_about_78 : decode cX6_about 78 = .ok (.iconst (-1), 1) := by decide +kernel
theorem dX6_about_79 : decode cX6_about 79 = .ok (.goto 10, 3) := by decide +kernel
theorem dX6_about_82 : decode cX6_about 82 = .ok (.aload_n 0, 1) := by decide +kernel
theorem dX6_about_83 : decode cX6_about 83 = .ok (.getfield 19, 3) := by decide +kernel
theorem dX6_about_86 : decode cX6_about 86 = .ok (.getfield 113, 3) := by decide +kernel
theorem dX6_about_89 : decode cX6_about 89 = .ok (.ireturn, 1) := by decide +kernel
theorem dX6_about_90 : decode cX6_about 90 = .ok (.aload_n 0, 1) := by decide +kernel
theorem dX6_about_91 : decode cX6_about 91 = .ok (.getfield 19, 3) := by decide +kernel
theorem dX6_about_94 : decode cX6_about 94 = .ok (.getfield 116, 3) := by decide +kernel
theorem dX6_about_97 : decode cX6_about 97 = .ok (.ireturn, 1) := by decide +kernel
theorem dX6_about_98 : decode cX6_about 98 = .ok (.aload_n 0, 1) := by decide +kernel
theorem dX6_about_99 : decode cX6_about 99 = .ok (.getfield 19, 3) := by decide +kernel
theorem dX6_about_102 : decode cX6_about 102 = .ok (.invokevirtual 119, 3) := by decide +kernel
theorem dX6_about_105 : decode cX6_about 105 = .ok (.ireturn, 1) := by decide +kernel
theorem dX6_about_106 : decode cX6_about 106 = .ok (.aload_n 0, 1) := by decide +kernel
theorem dX6_about_107 : decode cX6_about 107 = .ok (.getfield 19, 3) := by decide +kernel
theorem dX6_about_110 : decode cX6_about 110 = .ok (.getfield 122, 3) := by decide +kernel
theorem dX6_about_113 : decode cX6_about 113 = .ok (.ireturn, 1) := by decide +kernel
theorem dX6_about_114 : decode cX6_about 114 = .ok (.aload_n 0, 1) := by decide +kernel
theorem dX6_about_115 : decode cX6_about 115 = .ok (.getfield 19, 3) := by decide +kernel
theorem dX6_about_118 : decode cX6_about 118 = .ok (.getfield 125, 3) := by decide +kernel
theorem dX6_about_121 : decode cX6_about 121 = .ok (.ireturn, 1) := by decide +kernel
theorem dX6_about_122 : decode cX6_about 122 = .ok (.aload_n 0, 1) := by decide +kernel
theorem dX6_about_123 : decode cX6_about 123 = .ok (.getfield 19, 3) := by decide +kernel
theorem dX6_about_126 : decode cX6_about 126 = .ok (.getfield 128, 3) := by decide +kernel
theorem dX6_about_129 : decode cX6_about 129 = .ok (.ireturn, 1) := by decide +kernel
theorem dX6_about_130 : decode cX6_about 130 = .ok (.aload_n 0, 1) := by decide +kernel
theorem dX6_about_131 : decode cX6_about 131 = .ok (.getfield 19, 3) := by decide +kernel
theorem dX6_about_134 : decode cX6_about 134 = .ok (.getfield 131, 3) := by decide +kernel
theorem dX6_about_137 : decode cX6_about 137 = .ok (.ireturn, 1) := by decide +kernel
theorem dX6_about_138 : decode cX6_about 138 = .ok (.new 53, 3) := by decide +kernel
theorem dX6_about_141 : decode cX6_about 141 = .ok (.dup, 1) := by decide +kernel
theorem dX6_about_142 : decode cX6_about 142 = .ok (.ldc 134, 2) := by decide +kernel
theorem dX6_about_144 : decode cX6_about 144 = .ok (.invokespecial 57, 3) := by decide +kernel
theorem dX6_about_147 : decode cX6_about 147 = .ok (.athrow, 1) := by decide +kernel
set_option maxRecDepth 20000 in
theorem ggX6_playerOf_X6_isPlayer : GoodIn wsX6_playerOf wsX6_isPlayer := goodIn_r _ [14] (by decide +kernel) (by decide +kernel)
set_option maxRecDepth 20000 in
theorem gX6_playerOf_X6_isPlayer : GoodIn wsX6_playerOf (va_wsS RX6 136 yX6_isPlayer wsX6_isPlayer) := goodIn_app (goodIn_of _ (by decide +kernel)) ggX6_playerOf_X6_isPlayer
set_option maxRecDepth 20000 in
theorem ggX6_playerOf_X0_sideOf : GoodIn wsX6_playerOf wsX0_sideOf := goodIn_r _ [19, 20, 21, 44, 45, 46, 47, 48, 49, 50, 51, 52, 53, 54, 55] (by decide +kernel) (by decide +kernel)
set_option maxRecDepth 20000 in
theorem gX6_playerOf_X0_sideOf : GoodIn wsX6_playerOf (wsV RX6 144 RX0 yX0_sideOf wsX0_sideOf) := goodIn_app (goodIn_of _ (by decide +kernel)) ggX6_playerOf_X0_sideOf
set_option maxRecDepth 20000 in
theorem ggX6_playerOf_X2_head : GoodIn wsX6_playerOf wsX2_head := goodIn_r _ [26, 27, 28, 36, 37, 38, 39, 40, 41, 42, 43] (by decide +kernel) (by decide +kernel)
set_option maxRecDepth 20000 in
theorem gX6_playerOf_X2_head : GoodIn wsX6_playerOf (wsV RX6 151 RX2 yX2_head wsX2_head) := goodIn_app (goodIn_of _ (by decide +kernel)) ggX6_playerOf_X2_head
theorem dX6_playerOf_0 : decode cX6_playerOf 0 = .ok (.iload_n 1, 1) := by decide +kernel
theorem dX6_playerOf_1 : decode cX6_playerOf 1 = .ok (.invokestatic 136, 3) := by decide +kernel
theorem dX6_playerOf_4 : decode cX6_playerOf 4 = .ok (.ifCond .ne 13, 3) := by decide +kernel
theorem dX6_playerOf_7 : decode cX6_playerOf 7 = .ok (.new 139, 3) := by decide +kernel
theorem dX6_playerOf_10 : decode cX6_playerOf 10 = .ok (.dup, 1) := by decide +kernel
theorem dX6_playerOf_11 : decode cX6_playerOf 11 = .ok (.ldc 141, 2) := by decide +kernel
theorem dX6_playerOf_13 : decode cX6_playerOf 13 = .ok (.invokespecial 143, 3) := by decide +kernel
theorem dX6_playerOf_16 : decode cX6_playerOf 16 = .ok (.athrow, 1) := by decide +kernel
theorem dX6_playerOf_17 : decode cX6_playerOf 17 = .ok (.aload_n 0, 1) := by decide +kernel
theorem dX6_playerOf_18 : decode cX6_playerOf 18 = .ok (.getfield 19, 3) := by decide +kernel
theorem dX6_playerOf_21 : decode cX6_playerOf 21 = .ok (.iload_n 1, 1) := by decide +kernel
theorem dX6_playerOf_22 : decode cX6_playerOf 22 = .ok (.invokevirtual 144, 3) := by decide +kernel
theorem dX6_playerOf_25 : decode cX6_playerOf 25 = .ok (.astore_n 3, 1) := by decide +kernel
theorem dX6_playerOf_26 : decode cX6_playerOf 26 = .ok (.iload_n 2, 1) := by decide +kernel
theorem dX6_playerOf_27 : decode cX6_playerOf 27 = .ok (.tableswitch 67 0 5 #[37, 42, 47, 52, 57, 62], 37) := by decide +kernel
theorem dX6_playerOf_64 : decode cX6_playerOf 64 = .ok (.aload_n 3, 1) := by decide +kernel
theorem dX6_playerOf_65 : decode cX6_playerOf 65 = .ok (.getfield 148, 3) := by decide +kernel
theorem dX6_playerOf_68 : decode cX6_playerOf 68 = .ok (.ireturn, 1) := by decide +kernel
theorem dX6_playerOf_69 : decode cX6_playerOf 69 = .ok (.aload_n 3, 1) := by decide +kernel
theorem dX6_playerOf_70 : decode cX6_playerOf 70 = .ok (.invokevirtual 151, 3) := by decide +kernel
theorem dX6_playerOf_73 : decode cX6_playerOf 73 = .ok (.ireturn, 1) := by decide +kernel
theorem dX6_playerOf_74 : decode cX6_playerOf 74 = .ok (.aload_n 3, 1) := by decide +kernel
theorem dX6_playerOf_75 : decode cX6_playerOf 75 = .ok (.getfield 154, 3) := by decide +kernel
theorem dX6_playerOf_78 : decode cX6_playerOf 78 = .ok (.ireturn, 1) := by decide +kernel
theorem dX6_playerOf_79 : decode cX6_playerOf 79 = .ok (.aload_n 3, 1) := by decide +kernel
theorem dX6_playerOf_80 : decode cX6_playerOf 80 = .ok (.getfield 157, 3) := by decide +kernel
theorem dX6_playerOf_83 : decode cX6_playerOf 83 = .ok (.ireturn, 1) := by decide +kernel
theorem dX6_playerOf_84 : decode cX6_playerOf 84 = .ok (.aload_n 3, 1) := by decide +kernel
theorem dX6_playerOf_85 : decode cX6_playerOf 85 = .ok (.getfield 160, 3) := by decide +kernel
theorem dX6_playerOf_88 : decode cX6_playerOf 88 = .ok (.ireturn, 1) := by decide +kernel
theorem dX6_playerOf_89 : decode cX6_playerOf 89 = .ok (.aload_n 3, 1) := by decide +kernel
theorem dX6_playerOf_90 : decode cX6_playerOf 90 = .ok (.getfield 163, 3) := by decide +kernel
theorem dX6_playerOf_93 : decode cX6_playerOf 93 = .ok (.ireturn, 1) := by decide +kernel
theorem dX6_playerOf_94 : decode cX6_playerOf 94 = .ok (.new 53, 3) := by decide +kernel
theorem dX6_playerOf_97 : decode cX6_playerOf 97 = .ok (.dup, 1) := by decide +kernel
theorem dX6_playerOf_98 : decode cX6_playerOf 98 = .ok (.ldc 166, 2) := by decide +kernel
theorem dX6_playerOf_100 : decode cX6_playerOf 100 = .ok (.invokespecial 57, 3) := by decide +kernel
theorem dX6_playerOf_103 : decode cX6_playerOf 103 = .ok (.athrow, 1) := by decide +kernel
