theorem dX7_init_0 : decode cX7_init 0 = .ok (.aload_n 0, 1) := by decide +kernel
theorem dX7_init_1 : decode cX7_init 1 = .ok (.invokespecial 1, 3) := by decide +kernel
theorem dX7_init_4 : decode cX7_init 4 = .ok (.aload_n 0, 1) := by decide +kernel
theorem dX7_init_5 : decode cX7_init 5 = .ok (.bipush 120, 2) := by decide +kernel
theorem dX7_init_7 : decode cX7_init 7 = .ok (.newarray .int, 2) := by decide +kernel
theorem dX7_init_9 : decode cX7_init 9 = .ok (.putfield 7, 3) := by decide +kernel
theorem dX7_init_12 : decode cX7_init 12 = .ok (.aload_n 0, 1) := by decide +kernel
theorem dX7_init_13 : decode cX7_init 13 = .ok (.sipush 404, 3) := by decide +kernel
theorem dX7_init_16 : decode cX7_init 16 = .ok (.newarray .int, 2) := by decide +kernel
theorem dX7_init_18 : decode cX7_init 18 = .ok (.putfield 13, 3) := by decide +kernel
theorem dX7_init_21 : decode cX7_init 21 = .ok (.aload_n 0, 1) := by decide +kernel
theorem dX7_init_22 : decode cX7_init 22 = .ok (.sipush 404, 3) := by decide +kernel
theorem dX7_init_25 : decode cX7_init 25 = .ok (.newarray .int, 2) := by decide +kernel
theorem dX7_init_27 : decode cX7_init 27 = .ok (.putfield 16, 3) := by decide +kernel
theorem dX7_init_30 : decode cX7_init 30 = .ok (.aload_n 0, 1) := by decide +kernel
theorem dX7_init_31 : decode cX7_init 31 = .ok (.sipush 5656, 3) := by decide +kernel
theorem dX7_init_34 : decode cX7_init 34 = .ok (.newarray .int, 2) := by decide +kernel
theorem dX7_init_36 : decode cX7_init 36 = .ok (.putfield 19, 3) := by decide +kernel
theorem dX7_init_39 : decode cX7_init 39 = .ok (.aload_n 0, 1) := by decide +kernel
theorem dX7_init_40 : decode cX7_init 40 = .ok (.sipush 808, 3) := by decide +kernel
theorem dX7_init_43 : decode cX7_init 43 = .ok (.newarray .int, 2) := by decide +kernel
theorem dX7_init_45 : decode cX7_init 45 = .ok (.putfield 22, 3) := by decide +kernel
theorem dX7_init_48 : decode cX7_init 48 = .ok (.aload_n 0, 1) := by decide +kernel
theorem dX7_init_49 : decode cX7_init 49 = .ok (.iconst 2, 1) := by decide +kernel
theorem dX7_init_50 : decode cX7_init 50 = .ok (.newarray .boolean, 2) := by decide +kernel
theorem dX7_init_52 : decode cX7_init 52 = .ok (.putfield 25, 3) := by decide +kernel
theorem dX7_init_55 : decode cX7_init 55 = .ok (.aload_n 0, 1) := by decide +kernel
theorem dX7_init_56 : decode cX7_init 56 = .ok (.bipush 64, 2) := by decide +kernel
theorem dX7_init_58 : decode cX7_init 58 = .ok (.newarray .int, 2) := by decide +kernel
theorem dX7_init_60 : decode cX7_init 60 = .ok (.putfield 29, 3) := by decide +kernel
theorem dX7_init_63 : decode cX7_init 63 = .ok (.aload_n 0, 1) := by decide +kernel
theorem dX7_init_64 : decode cX7_init 64 = .ok (.bipush 64, 2) := by decide +kernel
theorem dX7_init_66 : decode cX7_init 66 = .ok (.newarray .int, 2) := by decide +kernel
theorem dX7_init_68 : decode cX7_init 68 = .ok (.putfield 32, 3) := by decide +kernel
theorem dX7_init_71 : decode cX7_init 71 = .ok (.aload_n 0, 1) := by decide +kernel
theorem dX7_init_72 : decode cX7_init 72 = .ok (.getfield 13, 3) := by decide +kernel
theorem dX7_init_75 : decode cX7_init 75 = .ok (.invokestatic 35, 3) := by decide +kernel
theorem dX7_init_78 : decode cX7_init 78 = .ok (.return_, 1) := by decide +kernel
theorem dX7_thrown_0 : decode cX7_thrown 0 = .ok (.aload_n 0, 1) := by decide +kernel
theorem dX7_thrown_1 : decode cX7_thrown 1 = .ok (.getfield 39, 3) := by decide +kernel
theorem dX7_thrown_4 : decode cX7_thrown 4 = .ok (.ireturn, 1) := by decide +kernel
theorem dX7_refused_0 : decode cX7_refused 0 = .ok (.aload_n 0, 1) := by decide +kernel
theorem dX7_refused_1 : decode cX7_refused 1 = .ok (.iload_n 1, 1) := by decide +kernel
theorem dX7_refused_2 : decode cX7_refused 2 = .ok (.putfield 39, 3) := by decide +kernel
theorem dX7_refused_5 : decode cX7_refused 5 = .ok (.iload_n 1, 1) := by decide +kernel
theorem dX7_refused_6 : decode cX7_refused 6 = .ok (.ifCond .le 7, 3) := by decide +kernel
theorem dX7_refused_9 : decode cX7_refused 9 = .ok (.iconst 1, 1) := by decide +kernel
theorem dX7_refused_10 : decode cX7_refused 10 = .ok (.goto 4, 3) := by decide +kernel
theorem dX7_refused_13 : decode cX7_refused 13 = .ok (.iconst 0, 1) := by decide +kernel
theorem dX7_refused_14 : decode cX7_refused 14 = .ok (.ireturn, 1) := by decide +kernel
theorem dX7_in_0 : decode cX7_in 0 = .ok (.lload_n 0, 1) := by decide +kernel
theorem dX7_in_1 : decode cX7_in 1 = .ok (.lload_n 2, 1) := by decide +kernel
theorem dX7_in_2 : decode cX7_in 2 = .ok (.lcmp, 1) := by decide +kernel
theorem dX7_in_3 : decode cX7_in 3 = .ok (.ifCond .lt 14, 3) := by decide +kernel
theorem dX7_in_6 : decode cX7_in 6 = .ok (.lload_n 0, 1) := by decide +kernel
theorem dX7_in_7 : decode cX7_in 7 = .ok (.lload 4, 2) := by decide +kernel
theorem dX7_in_9 : decode cX7_in 9 = .ok (.lcmp, 1) := by decide +kernel
theorem dX7_in_10 : decode cX7_in 10 = .ok (.ifCond .gt 7, 3) := by decide +kernel
theorem dX7_in_13 : decode cX7_in 13 = .ok (.iconst 1, 1) := by decide +kernel
theorem dX7_in_14 : decode cX7_in 14 = .ok (.goto 4, 3) := by decide +kernel
theorem dX7_in_17 : decode cX7_in 17 = .ok (.iconst 0, 1) := by decide +kernel
theorem dX7_in_18 : decode cX7_in 18 = .ok (.ireturn, 1) := by decide +kernel
theorem dX7_copyState_0 : decode cX7_copyState 0 = .ok (.iconst 0, 1) := by decide +kernel
theorem dX7_copyState_1 : decode cX7_copyState 1 = .ok (.istore 4, 2) := by decide +kernel
theorem dX7_copyState_3 : decode cX7_copyState 3 = .ok (.iload 4, 2) := by decide +kernel
theorem dX7_copyState_5 : decode cX7_copyState 5 = .ok (.sipush 404, 3) := by decide +kernel
theorem dX7_copyState_8 : decode cX7_copyState 8 = .ok (.if_icmp .ge 21, 3) := by decide +kernel
theorem dX7_copyState_11 : decode cX7_copyState 11 = .ok (.aload_n 2, 1) := by decide +kernel
theorem dX7_copyState_12 : decode cX7_copyState 12 = .ok (.iload_n 3, 1) := by decide +kernel
theorem dX7_copyState_13 : decode cX7_copyState 13 = .ok (.iload 4, 2) := by decide +kernel
theorem dX7_copyState_15 : decode cX7_copyState 15 = .ok (.iadd, 1) := by decide +kernel
theorem dX7_copyState_16 : decode cX7_copyState 16 = .ok (.aload_n 0, 1) := by decide +kernel
theorem dX7_copyState_17 : decode cX7_copyState 17 = .ok (.iload_n 1, 1) := by decide +kernel
theorem dX7_copyState_18 : decode cX7_copyState 18 = .ok (.iload 4, 2) := by decide +kernel
theorem dX7_copyState_20 : decode cX7_copyState 20 = .ok (.iadd, 1) := by decide +kernel
theorem dX7_copyState_21 : decode cX7_copyState 21 = .ok (.iaload, 1) := by decide +kernel
theorem dX7_copyState_22 : decode cX7_copyState 22 = .ok (.iastore, 1) := by decide +kernel
theorem dX7_copyState_23 : decode cX7_copyState 23 = .ok (.iinc 4 1, 3) := by decide +kernel
theorem dX7_copyState_26 : decode cX7_copyState 26 = .ok (.goto (-23), 3) := by decide +kernel
theorem dX7_copyState_29 : decode cX7_copyState 29 = .ok (.return_, 1) := by decide +kernel
set_option maxRecDepth 20000 in
theorem ggX7_clear_X7_gameOn : GoodIn wsX7_clear wsX7_gameOn := goodIn_r _ [4, 5, 6, 7, 8, 3, 9, 10, 11, 12, 13, 14, 15] (by decide +kernel) (by decide +kernel)
set_option maxRecDepth 20000 in
theorem gX7_clear_X7_gameOn : GoodIn wsX7_clear (va_wsS RX7 43 yX7_gameOn wsX7_gameOn) := goodIn_app (goodIn_of _ (by decide +kernel)) ggX7_clear_X7_gameOn
theorem dX7_clear_0 : decode cX7_clear 0 = .ok (.iconst 0, 1) := by decide +kernel
theorem dX7_clear_1 : decode cX7_clear 1 = .ok (.istore_n 1, 1) := by decide +kernel
theorem dX7_clear_2 : decode cX7_clear 2 = .ok (.iload_n 1, 1) := by decide +kernel
theorem dX7_clear_3 : decode cX7_clear 3 = .ok (.sipush 404, 3) := by decide +kernel
theorem dX7_clear_6 : decode cX7_clear 6 = .ok (.if_icmp .ge 13, 3) := by decide +kernel
theorem dX7_clear_9 : decode cX7_clear 9 = .ok (.aload_n 0, 1) := by decide +kernel
theorem dX7_clear_10 : decode cX7_clear 10 = .ok (.iload_n 1, 1) := by decide +kernel
theorem dX7_clear_11 : decode cX7_clear 11 = .ok (.iconst 0, 1) := by decide +kernel
theorem dX7_clear_12 : decode cX7_clear 12 = .ok (.iastore, 1) := by decide +kernel
theorem dX7_clear_13 : decode cX7_clear 13 = .ok (.iinc 1 1, 3) := by decide +kernel
theorem dX7_clear_16 : decode cX7_clear 16 = .ok (.goto (-14), 3) := by decide +kernel
theorem dX7_clear_19 : decode cX7_clear 19 = .ok (.aload_n 0, 1) := by decide +kernel
theorem dX7_clear_20 : decode cX7_clear 20 = .ok (.bipush 8, 2) := by decide +kernel
theorem dX7_clear_22 : decode cX7_clear 22 = .ok (.bipush 20, 2) := by decide +kernel
theorem dX7_clear_24 : decode cX7_clear 24 = .ok (.iastore, 1) := by decide +kernel
theorem dX7_clear_25 : decode cX7_clear 25 = .ok (.aload_n 0, 1) := by decide +kernel
theorem dX7_clear_26 : decode cX7_clear 26 = .ok (.bipush 9, 2) := by decide +kernel
theorem dX7_clear_28 : decode cX7_clear 28 = .ok (.iconst 3, 1) := by decide +kernel
theorem dX7_clear_29 : decode cX7_clear 29 = .ok (.iastore, 1) := by decide +kernel
theorem dX7_clear_30 : decode cX7_clear 30 = .ok (.aload_n 0, 1) := by decide +kernel
theorem dX7_clear_31 : decode cX7_clear 31 = .ok (.lconst 0, 1) := by decide +kernel
theorem dX7_clear_32 : decode cX7_clear 32 = .ok (.invokestatic 43, 3) := by decide +kernel
theorem dX7_clear_35 : decode cX7_clear 35 = .ok (.pop, 1) := by decide +kernel
theorem dX7_clear_36 : decode cX7_clear 36 = .ok (.return_, 1) := by decide +kernel
theorem dX7_of_0 : decode cX7_of 0 = .ok (.aload_n 0, 1) := by decide +kernel
theorem dX7_of_1 : decode cX7_of 1 = .ok (.bipush 10, 2) := by decide +kernel
theorem dX7_of_3 : decode cX7_of 3 = .ok (.iconst 5, 1) := by decide +kernel
theorem dX7_of_4 : decode cX7_of 4 = .ok (.iload_n 1, 1) := by decide +kernel
theorem dX7_of_5 : decode cX7_of 5 = .ok (.imul, 1) := by decide +kernel
theorem dX7_of_6 : decode cX7_of 6 = .ok (.iadd, 1) := by decide +kernel
theorem dX7_of_7 : decode cX7_of 7 = .ok (.iload_n 2, 1) := by decide +kernel
theorem dX7_of_8 : decode cX7_of 8 = .ok (.iadd, 1) := by decide +kernel
theorem dX7_of_9 : decode cX7_of 9 = .ok (.iaload, 1) := by decide +kernel
theorem dX7_of_10 : decode cX7_of 10 = .ok (.ireturn, 1) := by decide +kernel
theorem dX7_add_0 : decode cX7_add 0 = .ok (.aload_n 0, 1) := by decide +kernel
theorem dX7_add_1 : decode cX7_add 1 = .ok (.bipush 10, 2) := by decide +kernel
theorem dX7_add_3 : decode cX7_add 3 = .ok (.iconst 5, 1) := by decide +kernel
theorem dX7_add_4 : decode cX7_add 4 = .ok (.iload_n 1, 1) := by decide +kernel
theorem dX7_add_5 : decode cX7_add 5 = .ok (.imul, 1) := by decide +kernel
theorem dX7_add_6 : decode cX7_add 6 = .ok (.iadd, 1) := by decide +kernel
theorem dX7_add_7 : decode cX7_add 7 = .ok (.iload_n 2, 1) := by decide +kernel
theorem dX7_add_8 : decode cX7_add 8 = .ok (.iadd, 1) := by decide +kernel
theorem dX7_add_9 : decode cX7_add 9 = .ok (.dup2, 1) := by decide +kernel
theorem dX7_add_10 : decode cX7_add 10 = .ok (.iaload, 1) := by decide +kernel
theorem dX7_add_11 : decode cX7_add 11 = .ok (.iload_n 3, 1) := by decide +kernel
theorem dX7_add_12 : decode cX7_add 12 = .ok (.iadd, 1) := by decide +kernel
theorem dX7_add_13 : decode cX7_add 13 = .ok (.iastore, 1) := by decide +kernel
theorem dX7_add_14 : decode cX7_add 14 = .ok (.return_, 1) := by decide +kernel
set_option maxRecDepth 20000 in
theorem ggX7_head_X7_of : GoodIn wsX7_head wsX7_of := goodIn_r _ [4] (by decide +kernel) (by decide +kernel)
set_option maxRecDepth 20000 in
theorem gX7_head_X7_of : GoodIn wsX7_head (va_wsS RX7 47 yX7_of wsX7_of) := goodIn_app (goodIn_of _ (by decide +kernel)) ggX7_head_X7_of
theorem dX7_head_0 : decode cX7_head 0 = .ok (.aload_n 0, 1) := by decide +kernel
theorem dX7_head_1 : decode cX7_head 1 = .ok (.sipush 276, 3) := by decide +kernel
theorem dX7_head_4 : decode cX7_head 4 = .ok (.bipush 64, 2) := by decide +kernel
theorem dX7_head_6 : decode cX7_head 6 = .ok (.iload_n 1, 1) := by decide +kernel
theorem dX7_head_7 : decode cX7_head 7 = .ok (.imul, 1) := by decide +kernel
theorem dX7_head_8 : decode cX7_head 8 = .ok (.iadd, 1) := by decide +kernel
theorem dX7_head_9 : decode cX7_head 9 = .ok (.aload_n 0, 1) := by decide +kernel
theorem dX7_head_10 : decode cX7_head 10 = .ok (.iload_n 1, 1) := by decide +kernel
theorem dX7_head_11 : decode cX7_head 11 = .ok (.iconst 4, 1) := by decide +kernel
theorem dX7_head_12 : decode cX7_head 12 = .ok (.invokestatic 47, 3) := by decide +kernel
theorem dX7_head_15 : decode cX7_head 15 = .ok (.iadd, 1) := by decide +kernel
theorem dX7_head_16 : decode cX7_head 16 = .ok (.iconst 1, 1) := by decide +kernel
theorem dX7_head_17 : decode cX7_head 17 = .ok (.isub, 1) := by decide +kernel
theorem dX7_head_18 : decode cX7_head 18 = .ok (.iaload, 1) := by decide +kernel
theorem dX7_head_19 : decode cX7_head 19 = .ok (.ireturn, 1) := by decide +kernel
theorem dX7_cost_0 : decode cX7_cost 0 = .ok (.aload_n 0, 1) := by decide +kernel
theorem dX7_cost_1 : decode cX7_cost 1 = .ok (.bipush 20, 2) := by decide +kernel
theorem dX7_cost_3 : decode cX7_cost 3 = .ok (.bipush 64, 2) := by decide +kernel
theorem dX7_cost_5 : decode cX7_cost 5 = .ok (.iload_n 1, 1) := by decide +kernel
theorem dX7_cost_6 : decode cX7_cost 6 = .ok (.imul, 1) := by decide +kernel
theorem dX7_cost_7 : decode cX7_cost 7 = .ok (.iadd, 1) := by decide +kernel
theorem dX7_cost_8 : decode cX7_cost 8 = .ok (.iload_n 2, 1) := by decide +kernel
theorem dX7_cost_9 : decode cX7_cost 9 = .ok (.iadd, 1) := by decide +kernel
theorem dX7_cost_10 : decode cX7_cost 10 = .ok (.iaload, 1) := by decide +kernel
theorem dX7_cost_11 : decode cX7_cost 11 = .ok (.ireturn, 1) := by decide +kernel
theorem dX7_isDam_0 : decode cX7_isDam 0 = .ok (.aload_n 0, 1) := by decide +kernel
theorem dX7_isDam_1 : decode cX7_isDam 1 = .ok (.sipush 148, 3) := by decide +kernel
theorem dX7_isDam_4 : decode cX7_isDam 4 = .ok (.iload_n 1, 1) := by decide +kernel
theorem dX7_isDam_5 : decode cX7_isDam 5 = .ok (.iadd, 1) := by decide +kernel
theorem dX7_isDam_6 : decode cX7_isDam 6 = .ok (.iaload, 1) := by decide +kernel
theorem dX7_isDam_7 : decode cX7_isDam 7 = .ok (.iconst (-1), 1) := by decide +kernel
theorem dX7_isDam_8 : decode cX7_isDam 8 = .ok (.if_icmp .eq 7, 3) := by decide +kernel
theorem dX7_isDam_11 : decode cX7_isDam 11 = .ok (.iconst 1, 1) := by decide +kernel
theorem dX7_isDam_12 : decode cX7_isDam 12 = .ok (.goto 4, 3) := by decide +kernel
theorem dX7_isDam_15 : decode cX7_isDam 15 = .ok (.iconst 0, 1) := by decide +kernel
theorem dX7_isDam_16 : decode cX7_isDam 16 = .ok (.ireturn, 1) := by decide +kernel
theorem dX7_isRiver_0 : decode cX7_isRiver 0 = .ok (.aload_n 0, 1) := by decide +kernel
theorem dX7_isRiver_1 : decode cX7_isRiver 1 = .ok (.sipush 212, 3) := by decide +kernel
theorem dX7_isRiver_4 : decode cX7_isRiver 4 = .ok (.iload_n 2, 1) := by decide +kernel
theorem dX7_isRiver_5 : decode cX7_isRiver 5 = .ok (.iadd, 1) := by decide +kernel
theorem dX7_isRiver_6 : decode cX7_isRiver 6 = .ok (.iaload, 1) := by decide +kernel
theorem dX7_isRiver_7 : decode cX7_isRiver 7 = .ok (.iload_n 1, 1) := by decide +kernel
theorem dX7_isRiver_8 : decode cX7_isRiver 8 = .ok (.ishr, 1) := by decide +kernel
theorem dX7_isRiver_9 : decode cX7_isRiver 9 = .ok (.iconst 1, 1) := by decide +kernel
theorem dX7_isRiver_10 : decode cX7_isRiver 10 = .ok (.iand, 1) := by decide +kernel
theorem dX7_isRiver_11 : decode cX7_isRiver 11 = .ok (.iconst 1, 1) := by decide +kernel
theorem dX7_isRiver_12 : decode cX7_isRiver 12 = .ok (.if_icmp .ne 7, 3) := by decide +kernel
theorem dX7_isRiver_15 : decode cX7_isRiver 15 = .ok (.iconst 1, 1) := by decide +kernel
theorem dX7_isRiver_16 : decode cX7_isRiver 16 = .ok (.goto 4, 3) := by decide +kernel
theorem dX7_isRiver_19 : decode cX7_isRiver 19 = .ok (.iconst 0, 1) := by decide +kernel
theorem dX7_isRiver_20 : decode cX7_isRiver 20 = .ok (.ireturn, 1) := by decide +kernel
set_option maxRecDepth 20000 in
theorem ggX7_isBare_X7_isDam : GoodIn wsX7_isBare wsX7_isDam := goodIn_r _ [4] (by decide +kernel) (by decide +kernel)
set_option maxRecDepth 20000 in
theorem gX7_isBare_X7_isDam : GoodIn wsX7_isBare (va_wsS RX7 51 yX7_isDam wsX7_isDam) := goodIn_app (goodIn_of _ (by decide +kernel)) ggX7_isBare_X7_isDam
theorem dX7_isBare_0 : decode cX7_isBare 0 = .ok (.aload_n 0, 1) := by decide +kernel
theorem dX7_isBare_1 : decode cX7_isBare 1 = .ok (.iload_n 1, 1) := by decide +kernel
theorem dX7_isBare_2 : decode cX7_isBare 2 = .ok (.invokestatic 51, 3) := by decide +kernel
theorem dX7_isBare_5 : decode cX7_isBare 5 = .ok (.ifCond .ne 17, 3) := by decide +kernel
theorem dX7_isBare_8 : decode cX7_isBare 8 = .ok (.aload_n 0, 1) := by decide +kernel
theorem dX7_isBare_9 : decode cX7_isBare 9 = .ok (.sipush 212, 3) := by decide +kernel
theorem dX7_isBare_12 : decode cX7_isBare 12 = .ok (.iload_n 1, 1) := by decide +kernel
theorem dX7_isBare_13 : decode cX7_isBare 13 = .ok (.iadd, 1) := by decide +kernel
theorem dX7_isBare_14 : decode cX7_isBare 14 = .ok (.iaload, 1) := by decide +kernel
theorem dX7_isBare_15 : decode cX7_isBare 15 = .ok (.ifCond .ne 7, 3) := by decide +kernel
theorem dX7_isBare_18 : decode cX7_isBare 18 = .ok (.iconst 1, 1) := by decide +kernel
theorem dX7_isBare_19 : decode cX7_isBare 19 = .ok (.goto 4, 3) := by decide +kernel
theorem dX7_isBare_22 : decode cX7_isBare 22 = .ok (.iconst 0, 1) := by decide +kernel
theorem dX7_isBare_23 : decode cX7_isBare 23 = .ok (.ireturn, 1) := by decide +kernel
theorem dX7_isUnderWay_0 : decode cX7_isUnderWay 0 = .ok (.aload_n 0, 1) := by decide +kernel
theorem dX7_isUnderWay_1 : decode cX7_isUnderWay 1 = .ok (.iconst 1, 1) := by decide +kernel
theorem dX7_isUnderWay_2 : decode cX7_isUnderWay 2 = .ok (.iaload, 1) := by decide +kernel
theorem dX7_isUnderWay_3 : decode cX7_isUnderWay 3 = .ok (.iconst 1, 1) := by decide +kernel
theorem dX7_isUnderWay_4 : decode cX7_isUnderWay 4 = .ok (.if_icmp .ne 7, 3) := by decide +kernel
theorem dX7_isUnderWay_7 : decode cX7_isUnderWay 7 = .ok (.iconst 1, 1) := by decide +kernel
theorem dX7_isUnderWay_8 : decode cX7_isUnderWay 8 = .ok (.goto 4, 3) := by decide +kernel
theorem dX7_isUnderWay_11 : decode cX7_isUnderWay 11 = .ok (.iconst 0, 1) := by decide +kernel
theorem dX7_isUnderWay_12 : decode cX7_isUnderWay 12 = .ok (.ireturn, 1) := by decide +kernel
set_option maxRecDepth 20000 in
theorem ggX7_isCell_X7_in : GoodIn wsX7_isCell wsX7_in := goodIn_r _ [5] (by decide +kernel) (by decide +kernel)
set_option maxRecDepth 20000 in
theorem gX7_isCell_X7_in : GoodIn wsX7_isCell (va_wsS RX7 57 yX7_in wsX7_in) := goodIn_app (goodIn_of _ (by decide +kernel)) ggX7_isCell_X7_in
theorem dX7_isCell_0 : decode cX7_isCell 0 = .ok (.iload_n 0, 1) := by decide +kernel
theorem dX7_isCell_1 : decode cX7_isCell 1 = .ok (.i2l, 1) := by decide +kernel
theorem dX7_isCell_2 : decode cX7_isCell 2 = .ok (.lconst 0, 1) := by decide +kernel
theorem dX7_isCell_3 : decode cX7_isCell 3 = .ok (.ldc2_w 55, 3) := by decide +kernel
theorem dX7_isCell_6 : decode cX7_isCell 6 = .ok (.invokestatic 57, 3) := by decide +kernel
theorem dX7_isCell_9 : decode cX7_isCell 9 = .ok (.ifCond .eq 19, 3) := by decide +kernel
theorem dX7_isCell_12 : decode cX7_isCell 12 = .ok (.iload_n 1, 1) := by decide +kernel
theorem dX7_isCell_13 : decode cX7_isCell 13 = .ok (.i2l, 1) := by decide +kernel
theorem dX7_isCell_14 : decode cX7_isCell 14 = .ok (.lconst 0, 1) := by decide +kernel
theorem dX7_isCell_15 : decode cX7_isCell 15 = .ok (.ldc2_w 55, 3) := by decide +kernel
theorem dX7_isCell_18 : decode cX7_isCell 18 = .ok (.invokestatic 57, 3) := by decide +kernel
theorem dX7_isCell_21 : decode cX7_isCell 21 = .ok (.ifCond .eq 7, 3) := by decide +kernel
theorem dX7_isCell_24 : decode cX7_isCell 24 = .ok (.iconst 1, 1) := by decide +kernel
theorem dX7_isCell_25 : decode cX7_isCell 25 = .ok (.goto 4, 3) := by decide +kernel
theorem dX7_isCell_28 : decode cX7_isCell 28 = .ok (.iconst 0, 1) := by decide +kernel
theorem dX7_isCell_29 : decode cX7_isCell 29 = .ok (.ireturn, 1) := by decide +kernel
set_option maxRecDepth 20000 in
theorem ggX7_isSetting_X7_in : GoodIn wsX7_isSetting wsX7_in := goodIn_r _ [6] (by decide +kernel) (by decide +kernel)
set_option maxRecDepth 20000 in
theorem gX7_isSetting_X7_in : GoodIn wsX7_isSetting (va_wsS RX7 57 yX7_in wsX7_in) := goodIn_app (goodIn_of _ (by decide +kernel)) ggX7_isSetting_X7_in
theorem dX7_isSetting_0 : decode cX7_isSetting 0 = .ok (.iload_n 0, 1) := by decide +kernel
theorem dX7_isSetting_1 : decode cX7_isSetting 1 = .ok (.ifCond .ne 15, 3) := by decide +kernel
theorem dX7_isSetting_4 : decode cX7_isSetting 4 = .ok (.iload_n 1, 1) := by decide +kernel
theorem dX7_isSetting_5 : decode cX7_isSetting 5 = .ok (.i2l, 1) := by decide +kernel
theorem dX7_isSetting_6 : decode cX7_isSetting 6 = .ok (.lconst 1, 1) := by decide +kernel
theorem dX7_isSetting_7 : decode cX7_isSetting 7 = .ok (.ldc2_w 61, 3) := by decide +kernel
theorem dX7_isSetting_10 : decode cX7_isSetting 10 = .ok (.invokestatic 57, 3) := by decide +kernel
theorem dX7_isSetting_13 : decode cX7_isSetting 13 = .ok (.ifCond .ne 20, 3) := by decide +kernel
theorem dX7_isSetting_16 : decode cX7_isSetting 16 = .ok (.iload_n 0, 1) := by decide +kernel
theorem dX7_isSetting_17 : decode cX7_isSetting 17 = .ok (.iconst 1, 1) := by decide +kernel
theorem dX7_isSetting_18 : decode cX7_isSetting 18 = .ok (.if_icmp .ne 19, 3) := by decide +kernel
theorem dX7_isSetting_21 : decode cX7_isSetting 21 = .ok (.iload_n 1, 1) := by decide +kernel
theorem dX7_isSetting_22 : decode cX7_isSetting 22 = .ok (.i2l, 1) := by decide +kernel
theorem dX7_isSetting_23 : decode cX7_isSetting 23 = .ok (.lconst 1, 1) := by decide +kernel
theorem dX7_isSetting_24 : decode cX7_isSetting 24 = .ok (.ldc2_w 63, 3) := by decide +kernel
theorem dX7_isSetting_27 : decode cX7_isSetting 27 = .ok (.invokestatic 57, 3) := by decide +kernel
theorem dX7_isSetting_30 : decode cX7_isSetting 30 = .ok (.ifCond .eq 7, 3) := by decide +kernel
theorem dX7_isSetting_33 : decode cX7_isSetting 33 = .ok (.iconst 1, 1) := by decide +kernel
theorem dX7_isSetting_34 : decode cX7_isSetting 34 = .ok (.goto 4, 3) := by decide +kernel
theorem dX7_isSetting_37 : decode cX7_isSetting 37 = .ok (.iconst 0, 1) := by decide +kernel
theorem dX7_isSetting_38 : decode cX7_isSetting 38 = .ok (.ireturn, 1) := by decide +kernel
set_option maxRecDepth 20000 in
theorem ggX7_stepFrom_X7_isCell : GoodIn wsX7_stepFrom wsX7_isCell := goodIn_r _ [4, 5, 6, 7, 3, 8] (by decide +kernel) (by decide +kernel)
set_option maxRecDepth 20000 in
theorem gX7_stepFrom_X7_isCell : GoodIn wsX7_stepFrom (va_wsS RX7 65 yX7_isCell wsX7_isCell) := goodIn_app (goodIn_of _ (by decide +kernel)) ggX7_stepFrom_X7_isCell
theorem dX7_stepFrom_0 : decode cX7_stepFrom 0 = .ok (.iload_n 0, 1) := by decide +kernel
theorem dX7_stepFrom_1 : decode cX7_stepFrom 1 = .ok (.bipush 8, 2) := by decide +kernel
theorem dX7_stepFrom_3 : decode cX7_stepFrom 3 = .ok (.irem, 1) := by decide +kernel
theorem dX7_stepFrom_4 : decode cX7_stepFrom 4 = .ok (.iload_n 1, 1) := by decide +kernel
theorem dX7_stepFrom_5 : decode cX7_stepFrom 5 = .ok (.iconst 1, 1) := by decide +kernel
theorem dX7_stepFrom_6 : decode cX7_stepFrom 6 = .ok (.if_icmp .ne 7, 3) := by decide +kernel
theorem dX7_stepFrom_9 : decode cX7_stepFrom 9 = .ok (.iconst 1, 1) := by decide +kernel
theorem dX7_stepFrom_10 : decode cX7_stepFrom 10 = .ok (.goto 13, 3) := by decide +kernel
theorem dX7_stepFrom_13 : decode cX7_stepFrom 13 = .ok (.iload_n 1, 1) := by decide +kernel
theorem dX7_stepFrom_14 : decode cX7_stepFrom 14 = .ok (.iconst 2, 1) := by decide +kernel
theorem dX7_stepFrom_15 : decode cX7_stepFrom 15 = .ok (.if_icmp .ne 7, 3) := by decide +kernel
theorem dX7_stepFrom_18 : decode cX7_stepFrom 18 = .ok (.iconst (-1), 1) := by decide +kernel
theorem dX7_stepFrom_19 : decode cX7_stepFrom 19 = .ok (.goto 4, 3) := by decide +kernel
theorem dX7_stepFrom_22 : decode cX7_stepFrom 22 = .ok (.iconst 0, 1) := by decide +kernel
theorem dX7_stepFrom_23 : decode cX7_stepFrom 23 = .ok (.iadd, 1) := by decide +kernel
theorem dX7_stepFrom_24 : decode cX7_stepFrom 24 = .ok (.istore_n 2, 1) := by decide +kernel
theorem dX7_stepFrom_25 : decode cX7_stepFrom 25 = .ok (.iload_n 0, 1) := by decide +kernel
theorem dX7_stepFrom_26 : decode cX7_stepFrom 26 = .ok (.bipush 8, 2) := by decide +kernel
theorem dX7_stepFrom_28 : decode cX7_stepFrom 28 = .ok (.idiv, 1) := by decide +kernel
theorem dX7_stepFrom_29 : decode cX7_stepFrom 29 = .ok (.iload_n 1, 1) := by decide +kernel
theorem dX7_stepFrom_30 : decode cX7_stepFrom 30 = .ok (.ifCond .ne 7, 3) := by decide +kernel
theorem dX7_stepFrom_33 : decode cX7_stepFrom 33 = .ok (.iconst 1, 1) := by decide +kernel
theorem dX7_stepFrom_34 : decode cX7_stepFrom 34 = .ok (.goto 4, 3) := by decide +kernel
theorem dX7_stepFrom_37 : decode cX7_stepFrom 37 = .ok (.iconst 0, 1) := by decide +kernel
theorem dX7_stepFrom_38 : decode cX7_stepFrom 38 = .ok (.iadd, 1) := by decide +kernel
theorem dX7_stepFrom_39 : decode cX7_stepFrom 39 = .ok (.istore_n 3, 1) := by decide +kernel
theorem dX7_stepFrom_40 : decode cX7_stepFrom 40 = .ok (.iload_n 2, 1) := by decide +kernel
theorem dX7_stepFrom_41 : decode cX7_stepFrom 41 = .ok (.iload_n 3, 1) := by decide +kernel
theorem dX7_stepFrom_42 : decode cX7_stepFrom 42 = .ok (.invokestatic 65, 3) := by decide +kernel
theorem dX7_stepFrom_45 : decode cX7_stepFrom 45 = .ok (.ifCond .eq 12, 3) := by decide +kernel
theorem dX7_stepFrom_48 : decode cX7_stepFrom 48 = .ok (.bipush 8, 2) := by decide +kernel
theorem dX7_stepFrom_50 : decode cX7_stepFrom 50 = .ok (.iload_n 3, 1) := by decide +kernel
theorem dX7_stepFrom_51 : decode cX7_stepFrom 51 = .ok (.imul, 1) := by decide +kernel
theorem dX7_stepFrom_52 : decode cX7_stepFrom 52 = .ok (.iload_n 2, 1) := by decide +kernel
theorem dX7_stepFrom_53 : decode cX7_stepFrom 53 = .ok (.iadd, 1) := by decide +kernel
theorem dX7_stepFrom_54 : decode cX7_stepFrom 54 = .ok (.goto 4, 3) := by decide +kernel
theorem dX7_stepFrom_57 : decode cX7_stepFrom 57 = .ok (.iconst (-1), 1) := by decide +kernel
theorem dX7_stepFrom_58 : decode cX7_stepFrom 58 = .ok (.ireturn, 1) := by decide +kernel
set_option maxRecDepth 20000 in
theorem ggX7_flows_X7_of : GoodIn wsX7_flows wsX7_of := goodIn_r _ [4] (by decide +kernel) (by decide +kernel)
set_option maxRecDepth 20000 in
theorem gX7_flows_X7_of : GoodIn wsX7_flows (va_wsS RX7 47 yX7_of wsX7_of) := goodIn_app (goodIn_of _ (by decide +kernel)) ggX7_flows_X7_of
set_option maxRecDepth 20000 in
theorem ggX7_flows_X7_add : GoodIn wsX7_flows wsX7_add := goodIn_r _ [7] (by decide +kernel) (by decide +kernel)
set_option maxRecDepth 20000 in
theorem gX7_flows_X7_add : GoodIn wsX7_flows (va_wsS RX7 69 yX7_add wsX7_add) := goodIn_app (goodIn_of _ (by decide +kernel)) ggX7_flows_X7_add
theorem dX7_flows_0 : decode cX7_flows 0 = .ok (.aload_n 0, 1) := by decide +kernel
theorem dX7_flows_1 : decode cX7_flows 1 = .ok (.sipush 276, 3) := by decide +kernel
theorem dX7_flows_4 : decode cX7_flows 4 = .ok (.bipush 64, 2) := by decide +kernel
theorem dX7_flows_6 : decode cX7_flows 6 = .ok (.iload_n 1, 1) := by decide +kernel
theorem dX7_flows_7 : decode cX7_flows 7 = .ok (.imul, 1) := by decide +kernel
theorem dX7_flows_8 : decode cX7_flows 8 = .ok (.iadd, 1) := by decide +kernel
theorem dX7_flows_9 : decode cX7_flows 9 = .ok (.aload_n 0, 1) := by decide +kernel
theorem dX7_flows_10 : decode cX7_flows 10 = .ok (.iload_n 1, 1) := by decide +kernel
theorem dX7_flows_11 : decode cX7_flows 11 = .ok (.iconst 4, 1) := by decide +kernel
theorem dX7_flows_12 : decode cX7_flows 12 = .ok (.invokestatic 47, 3) := by decide +kernel
theorem dX7_flows_15 : decode cX7_flows 15 = .ok (.iadd, 1) := by decide +kernel
theorem dX7_flows_16 : decode cX7_flows 16 = .ok (.iload_n 2, 1) := by decide +kernel
theorem dX7_flows_17 : decode cX7_flows 17 = .ok (.iastore, 1) := by decide +kernel
theorem dX7_flows_18 : decode cX7_flows 18 = .ok (.aload_n 0, 1) := by decide +kernel
theorem dX7_flows_19 : decode cX7_flows 19 = .ok (.iload_n 1, 1) := by decide +kernel
theorem dX7_flows_20 : decode cX7_flows 20 = .ok (.iconst 4, 1) := by decide +kernel
theorem dX7_flows_21 : decode cX7_flows 21 = .ok (.iconst 1, 1) := by decide +kernel
theorem dX7_flows_22 : decode cX7_flows 22 = .ok (.invokestatic 69, 3) := by decide +kernel
theorem dX7_flows_25 : decode cX7_flows 25 = .ok (.aload_n 0, 1) := by decide +kernel
theorem dX7_flows_26 : decode cX7_flows 26 = .ok (.sipush 212, 3) := by decide +kernel
theorem dX7_flows_29 : decode cX7_flows 29 = .ok (.iload_n 2, 1) := by decide +kernel
theorem dX7_flows_30 : decode cX7_flows 30 = .ok (.iadd, 1) := by decide +kernel
theorem dX7_flows_31 : decode cX7_flows 31 = .ok (.dup2, 1) := by decide +kernel
theorem dX7_flows_32 : decode cX7_flows 32 = .ok (.iaload, 1) := by decide +kernel
theorem dX7_flows_33 : decode cX7_flows 33 = .ok (.iconst 1, 1) := by decide +kernel
theorem dX7_flows_34 : decode cX7_flows 34 = .ok (.iload_n 1, 1) := by decide +kernel
theorem dX7_flows_35 : decode cX7_flows 35 = .ok (.ishl, 1) := by decide +kernel
theorem dX7_flows_36 : decode cX7_flows 36 = .ok (.ior, 1) := by decide +kernel
theorem dX7_flows_37 : decode cX7_flows 37 = .ok (.iastore, 1) := by decide +kernel
theorem dX7_flows_38 : decode cX7_flows 38 = .ok (.return_, 1) := by decide +kernel
set_option maxRecDepth 20000 in
theorem ggX7_gameOn_X7_flows : GoodIn wsX7_gameOn wsX7_flows := goodIn_r _ [6, 7, 8, 5, 9, 10, 11, 12] (by decide +kernel) (by decide +kernel)
set_option maxRecDepth 20000 in
theorem gX7_gameOn_X7_flows : GoodIn wsX7_gameOn (va_wsS RX7 77 yX7_flows wsX7_flows) := goodIn_app (goodIn_of _ (by decide +kernel)) ggX7_gameOn_X7_flows
theorem dX7_gameOn_0 : decode cX7_gameOn 0 = .ok (.lload_n 1, 1) := by decide +kernel
theorem dX7_gameOn_1 : decode cX7_gameOn 1 = .ok (.lstore_n 3, 1) := by decide +kernel
theorem dX7_gameOn_2 : decode cX7_gameOn 2 = .ok (.iconst 0, 1) := by decide +kernel
theorem dX7_gameOn_3 : decode cX7_gameOn 3 = .ok (.istore 5, 2) := by decide +kernel
theorem dX7_gameOn_5 : decode cX7_gameOn 5 = .ok (.iload 5, 2) := by decide +kernel
theorem dX7_gameOn_7 : decode cX7_gameOn 7 = .ok (.bipush 64, 2) := by decide +kernel
theorem dX7_gameOn_9 : decode cX7_gameOn 9 = .ok (.if_icmp .ge 89, 3) := by decide +kernel
theorem dX7_gameOn_12 : decode cX7_gameOn 12 = .ok (.lload_n 3, 1) := by decide +kernel
theorem dX7_gameOn_13 : decode cX7_gameOn 13 = .ok (.ldc2_w 73, 3) := by decide +kernel
theorem dX7_gameOn_16 : decode cX7_gameOn 16 = .ok (.lmul, 1) := by decide +kernel
theorem dX7_gameOn_17 : decode cX7_gameOn 17 = .ok (.ldc2_w 75, 3) := by decide +kernel
theorem dX7_gameOn_20 : decode cX7_gameOn 20 = .ok (.ladd, 1) := by decide +kernel
theorem dX7_gameOn_21 : decode cX7_gameOn 21 = .ok (.lstore_n 3, 1) := by decide +kernel
theorem dX7_gameOn_22 : decode cX7_gameOn 22 = .ok (.lload_n 3, 1) := by decide +kernel
theorem dX7_gameOn_23 : decode cX7_gameOn 23 = .ok (.bipush 33, 2) := by decide +kernel
theorem dX7_gameOn_25 : decode cX7_gameOn 25 = .ok (.lushr, 1) := by decide +kernel
theorem dX7_gameOn_26 : decode cX7_gameOn 26 = .ok (.l2i, 1) := by decide +kernel
theorem dX7_gameOn_27 : decode cX7_gameOn 27 = .ok (.istore 6, 2) := by decide +kernel
theorem dX7_gameOn_29 : decode cX7_gameOn 29 = .ok (.aload_n 0, 1) := by decide +kernel
theorem dX7_gameOn_30 : decode cX7_gameOn 30 = .ok (.bipush 20, 2) := by decide +kernel
theorem dX7_gameOn_32 : decode cX7_gameOn 32 = .ok (.iload 5, 2) := by decide +kernel
theorem dX7_gameOn_34 : decode cX7_gameOn 34 = .ok (.iadd, 1) := by decide +kernel
theorem dX7_gameOn_35 : decode cX7_gameOn 35 = .ok (.iload 6, 2) := by decide +kernel
theorem dX7_gameOn_37 : decode cX7_gameOn 37 = .ok (.bipush 10, 2) := by decide +kernel
theorem dX7_gameOn_39 : decode cX7_gameOn 39 = .ok (.irem, 1) := by decide +kernel
theorem dX7_gameOn_40 : decode cX7_gameOn 40 = .ok (.iastore, 1) := by decide +kernel
theorem dX7_gameOn_41 : decode cX7_gameOn 41 = .ok (.aload_n 0, 1) := by decide +kernel
theorem dX7_gameOn_42 : decode cX7_gameOn 42 = .ok (.bipush 84, 2) := by decide +kernel
theorem dX7_gameOn_44 : decode cX7_gameOn 44 = .ok (.iload 5, 2) := by decide +kernel
theorem dX7_gameOn_46 : decode cX7_gameOn 46 = .ok (.iadd, 1) := by decide +kernel
theorem dX7_gameOn_47 : decode cX7_gameOn 47 = .ok (.iload 6, 2) := by decide +kernel
theorem dX7_gameOn_49 : decode cX7_gameOn 49 = .ok (.bipush 10, 2) := by decide +kernel
theorem dX7_gameOn_51 : decode cX7_gameOn 51 = .ok (.idiv, 1) := by decide +kernel
theorem dX7_gameOn_52 : decode cX7_gameOn 52 = .ok (.bipush 10, 2) := by decide +kernel
theorem dX7_gameOn_54 : decode cX7_gameOn 54 = .ok (.irem, 1) := by decide +kernel
theorem dX7_gameOn_55 : decode cX7_gameOn 55 = .ok (.iastore, 1) := by decide +kernel
theorem dX7_gameOn_56 : decode cX7_gameOn 56 = .ok (.aload_n 0, 1) := by decide +kernel
theorem dX7_gameOn_57 : decode cX7_gameOn 57 = .ok (.sipush 148, 3) := by decide +kernel
theorem dX7_gameOn_60 : decode cX7_gameOn 60 = .ok (.iload 5, 2) := by decide +kernel
theorem dX7_gameOn_62 : decode cX7_gameOn 62 = .ok (.iadd, 1) := by decide +kernel
theorem dX7_gameOn_63 : decode cX7_gameOn 63 = .ok (.iconst (-1), 1) := by decide +kernel
theorem dX7_gameOn_64 : decode cX7_gameOn 64 = .ok (.iastore, 1) := by decide +kernel
theorem dX7_gameOn_65 : decode cX7_gameOn 65 = .ok (.aload_n 0, 1) := by decide +kernel
theorem dX7_gameOn_66 : decode cX7_gameOn 66 = .ok (.sipush 212, 3) := by decide +kernel
theorem dX7_gameOn_69 : decode cX7_gameOn 69 = .ok (.iload 5, 2) := by decide +kernel
theorem dX7_gameOn_71 : decode cX7_gameOn 71 = .ok (.iadd, 1) := by decide +kernel
theorem dX7_gameOn_72 : decode cX7_gameOn 72 = .ok (.iconst 0, 1) := by decide +kernel
theorem dX7_gameOn_73 : decode cX7_gameOn 73 = .ok (.iastore, 1) := by decide +kernel
theorem dX7_gameOn_74 : decode cX7_gameOn 74 = .ok (.aload_n 0, 1) := by decide +kernel
theorem dX7_gameOn_75 : decode cX7_gameOn 75 = .ok (.sipush 276, 3) := by decide +kernel
theorem dX7_gameOn_78 : decode cX7_gameOn 78 = .ok (.iload 5, 2) := by decide +kernel
theorem dX7_gameOn_80 : decode cX7_gameOn 80 = .ok (.iadd, 1) := by decide +kernel
theorem dX7_gameOn_81 : decode cX7_gameOn 81 = .ok (.iconst 0, 1) := by decide +kernel
theorem dX7_gameOn_82 : decode cX7_gameOn 82 = .ok (.iastore, 1) := by decide +kernel
theorem dX7_gameOn_83 : decode cX7_gameOn 83 = .ok (.aload_n 0, 1) := by decide +kernel
theorem dX7_gameOn_84 : decode cX7_gameOn 84 = .ok (.sipush 340, 3) := by decide +kernel
theorem dX7_gameOn_87 : decode cX7_gameOn 87 = .ok (.iload 5, 2) := by decide +kernel
theorem dX7_gameOn_89 : decode cX7_gameOn 89 = .ok (.iadd, 1) := by decide +kernel
theorem dX7_gameOn_90 : decode cX7_gameOn 90 = .ok (.iconst 0, 1) := by decide +kernel
theorem dX7_gameOn_91 : decode cX7_gameOn 91 = .ok (.iastore, 1) := by decide +kernel
theorem dX7_gameOn_92 : decode cX7_gameOn 92 = .ok (.iinc 5 1, 3) := by decide +kernel
theorem dX7_gameOn_95 : decode cX7_gameOn 95 = .ok (.goto (-90), 3) := by decide +kernel
theorem dX7_gameOn_98 : decode cX7_gameOn 98 = .ok (.iconst 0, 1) := by decide +kernel
theorem dX7_gameOn_99 : decode cX7_gameOn 99 = .ok (.istore 5, 2) := by decide +kernel
theorem dX7_gameOn_101 : decode cX7_gameOn 101 = .ok (.iload 5, 2) := by decide +kernel
theorem dX7_gameOn_103 : decode cX7_gameOn 103 = .ok (.iconst 2, 1) := by decide +kernel
theorem dX7_gameOn_104 : decode cX7_gameOn 104 = .ok (.if_icmp .ge 62, 3) := by decide +kernel
theorem dX7_gameOn_107 : decode cX7_gameOn 107 = .ok (.aload_n 0, 1) := by decide +kernel
theorem dX7_gameOn_108 : decode cX7_gameOn 108 = .ok (.bipush 10, 2) := by decide +kernel
theorem dX7_gameOn_110 : decode cX7_gameOn 110 = .ok (.iconst 5, 1) := by decide +kernel
theorem dX7_gameOn_111 : decode cX7_gameOn 111 = .ok (.iload 5, 2) := by decide +kernel
theorem dX7_gameOn_113 : decode cX7_gameOn 113 = .ok (.imul, 1) := by decide +kernel
theorem dX7_gameOn_114 : decode cX7_gameOn 114 = .ok (.iadd, 1) := by decide +kernel
theorem dX7_gameOn_115 : decode cX7_gameOn 115 = .ok (.iconst 0, 1) := by decide +kernel
theorem dX7_gameOn_116 : decode cX7_gameOn 116 = .ok (.iadd, 1) := by decide +kernel
theorem dX7_gameOn_117 : decode cX7_gameOn 117 = .ok (.iconst 0, 1) := by decide +kernel
theorem dX7_gameOn_118 : decode cX7_gameOn 118 = .ok (.iastore, 1) := by decide +kernel
theorem dX7_gameOn_119 : decode cX7_gameOn 119 = .ok (.aload_n 0, 1) := by decide +kernel
theorem dX7_gameOn_120 : decode cX7_gameOn 120 = .ok (.bipush 10, 2) := by decide +kernel
theorem dX7_gameOn_122 : decode cX7_gameOn 122 = .ok (.iconst 5, 1) := by decide +kernel
theorem dX7_gameOn_123 : decode cX7_gameOn 123 = .ok (.iload 5, 2) := by decide +kernel
theorem dX7_gameOn_125 : decode cX7_gameOn 125 = .ok (.imul, 1) := by decide +kernel
theorem dX7_gameOn_126 : decode cX7_gameOn 126 = .ok (.iadd, 1) := by decide +kernel
theorem dX7_gameOn_127 : decode cX7_gameOn 127 = .ok (.iconst 1, 1) := by decide +kernel
theorem dX7_gameOn_128 : decode cX7_gameOn 128 = .ok (.iadd, 1) := by decide +kernel
theorem dX7_gameOn_129 : decode cX7_gameOn 129 = .ok (.iconst 0, 1) := by decide +kernel
theorem dX7_gameOn_130 : decode cX7_gameOn 130 = .ok (.iastore, 1) := by decide +kernel
theorem dX7_gameOn_131 : decode cX7_gameOn 131 = .ok (.aload_n 0, 1) := by decide +kernel
theorem dX7_gameOn_132 : decode cX7_gameOn 132 = .ok (.bipush 10, 2) := by decide +kernel
theorem dX7_gameOn_134 : decode cX7_gameOn 134 = .ok (.iconst 5, 1) := by decide +kernel
theorem dX7_gameOn_135 : decode cX7_gameOn 135 = .ok (.iload 5, 2) := by decide +kernel
theorem dX7_gameOn_137 : decode cX7_gameOn 137 = .ok (.imul, 1) := by decide +kernel
theorem dX7_gameOn_138 : decode cX7_gameOn 138 = .ok (.iadd, 1) := by decide +kernel
theorem dX7_gameOn_139 : decode cX7_gameOn 139 = .ok (.iconst 4, 1) := by decide +kernel
theorem dX7_gameOn_140 : decode cX7_gameOn 140 = .ok (.iadd, 1) := by decide +kernel
theorem dX7_gameOn_141 : decode cX7_gameOn 141 = .ok (.iconst 0, 1) := by decide +kernel
theorem dX7_gameOn_142 : decode cX7_gameOn 142 = .ok (.iastore, 1) := by decide +kernel
theorem dX7_gameOn_143 : decode cX7_gameOn 143 = .ok (.aload_n 0, 1) := by decide +kernel
theorem dX7_gameOn_144 : decode cX7_gameOn 144 = .ok (.iload 5, 2) := by decide +kernel
theorem dX7_gameOn_146 : decode cX7_gameOn 146 = .ok (.iload 5, 2) := by decide +kernel
theorem dX7_gameOn_148 : decode cX7_gameOn 148 = .ok (.ifCond .ne 7, 3) := by decide +kernel
theorem dX7_gameOn_151 : decode cX7_gameOn 151 = .ok (.iconst 1, 1) := by decide +kernel
theorem dX7_gameOn_152 : decode cX7_gameOn 152 = .ok (.goto 5, 3) := by decide +kernel
theorem dX7_gameOn_155 : decode cX7_gameOn 155 = .ok (.bipush 6, 2) := by decide +kernel
theorem dX7_gameOn_157 : decode cX7_gameOn 157 = .ok (.invokestatic 77, 3) := by decide +kernel
theorem dX7_gameOn_160 : decode cX7_gameOn 160 = .ok (.iinc 5 1, 3) := by decide +kernel
theorem dX7_gameOn_163 : decode cX7_gameOn 163 = .ok (.goto (-62), 3) := by decide +kernel
theorem dX7_gameOn_166 : decode cX7_gameOn 166 = .ok (.aload_n 0, 1) := by decide +kernel
theorem dX7_gameOn_167 : decode cX7_gameOn 167 = .ok (.iconst 0, 1) := by decide +kernel
theorem dX7_gameOn_168 : decode cX7_gameOn 168 = .ok (.dup2, 1) := by decide +kernel
theorem dX7_gameOn_169 : decode cX7_gameOn 169 = .ok (.iaload, 1) := by decide +kernel
theorem dX7_gameOn_170 : decode cX7_gameOn 170 = .ok (.iconst 1, 1) := by decide +kernel
theorem dX7_gameOn_171 : decode cX7_gameOn 171 = .ok (.iadd, 1) := by decide +kernel
theorem dX7_gameOn_172 : decode cX7_gameOn 172 = .ok (.iastore, 1) := by decide +kernel
theorem dX7_gameOn_173 : decode cX7_gameOn 173 = .ok (.aload_n 0, 1) := by decide +kernel
theorem dX7_gameOn_174 : decode cX7_gameOn 174 = .ok (.iconst 1, 1) := by decide +kernel
theorem dX7_gameOn_175 : decode cX7_gameOn 175 = .ok (.iconst 1, 1) := by decide +kernel
theorem dX7_gameOn_176 : decode cX7_gameOn 176 = .ok (.iastore, 1) := by decide +kernel
theorem dX7_gameOn_177 : decode cX7_gameOn 177 = .ok (.aload_n 0, 1) := by decide +kernel
theorem dX7_gameOn_178 : decode cX7_gameOn 178 = .ok (.iconst 2, 1) := by decide +kernel
theorem dX7_gameOn_179 : decode cX7_gameOn 179 = .ok (.iconst 0, 1) := by decide +kernel
theorem dX7_gameOn_180 : decode cX7_gameOn 180 = .ok (.iastore, 1) := by decide +kernel
theorem dX7_gameOn_181 : decode cX7_gameOn 181 = .ok (.aload_n 0, 1) := by decide +kernel
theorem dX7_gameOn_182 : decode cX7_gameOn 182 = .ok (.iconst 3, 1) := by decide +kernel
theorem dX7_gameOn_183 : decode cX7_gameOn 183 = .ok (.iconst 0, 1) := by decide +kernel
theorem dX7_gameOn_184 : decode cX7_gameOn 184 = .ok (.iastore, 1) := by decide +kernel
theorem dX7_gameOn_185 : decode cX7_gameOn 185 = .ok (.aload_n 0, 1) := by decide +kernel
theorem dX7_gameOn_186 : decode cX7_gameOn 186 = .ok (.iconst 4, 1) := by decide +kernel
theorem dX7_gameOn_187 : decode cX7_gameOn 187 = .ok (.iconst (-1), 1) := by decide +kernel
theorem dX7_gameOn_188 : decode cX7_gameOn 188 = .ok (.iastore, 1) := by decide +kernel
theorem dX7_gameOn_189 : decode cX7_gameOn 189 = .ok (.aload_n 0, 1) := by decide +kernel
theorem dX7_gameOn_190 : decode cX7_gameOn 190 = .ok (.iconst 5, 1) := by decide +kernel
theorem dX7_gameOn_191 : decode cX7_gameOn 191 = .ok (.iconst (-1), 1) := by decide +kernel
theorem dX7_gameOn_192 : decode cX7_gameOn 192 = .ok (.iastore, 1) := by decide +kernel
theorem dX7_gameOn_193 : decode cX7_gameOn 193 = .ok (.aload_n 0, 1) := by decide +kernel
theorem dX7_gameOn_194 : decode cX7_gameOn 194 = .ok (.iconst 0, 1) := by decide +kernel
theorem dX7_gameOn_195 : decode cX7_gameOn 195 = .ok (.iaload, 1) := by decide +kernel
theorem dX7_gameOn_196 : decode cX7_gameOn 196 = .ok (.ireturn, 1) := by decide +kernel
set_option maxRecDepth 20000 in
theorem ggX7_pays_X7_add : GoodIn wsX7_pays wsX7_add := goodIn_r _ [4] (by decide +kernel) (by decide +kernel)
set_option maxRecDepth 20000 in
theorem gX7_pays_X7_add : GoodIn wsX7_pays (va_wsS RX7 69 yX7_add wsX7_add) := goodIn_app (goodIn_of _ (by decide +kernel)) ggX7_pays_X7_add
theorem dX7_pays_0 : decode cX7_pays 0 = .ok (.aload_n 0, 1) := by decide +kernel
theorem dX7_pays_1 : decode cX7_pays 1 = .ok (.iload_n 1, 1) := by decide +kernel
theorem dX7_pays_2 : decode cX7_pays 2 = .ok (.iconst 0, 1) := by decide +kernel
theorem dX7_pays_3 : decode cX7_pays 3 = .ok (.iload_n 2, 1) := by decide +kernel
theorem dX7_pays_4 : decode cX7_pays 4 = .ok (.invokestatic 69, 3) := by decide +kernel
theorem dX7_pays_7 : decode cX7_pays 7 = .ok (.aload_n 0, 1) := by decide +kernel
theorem dX7_pays_8 : decode cX7_pays 8 = .ok (.iload_n 1, 1) := by decide +kernel
theorem dX7_pays_9 : decode cX7_pays 9 = .ok (.iconst 3, 1) := by decide +kernel
theorem dX7_pays_10 : decode cX7_pays 10 = .ok (.iload_n 2, 1) := by decide +kernel
theorem dX7_pays_11 : decode cX7_pays 11 = .ok (.invokestatic 69, 3) := by decide +kernel
theorem dX7_pays_14 : decode cX7_pays 14 = .ok (.return_, 1) := by decide +kernel
set_option maxRecDepth 20000 in
theorem ggX7_turnEnds_X7_isDam : GoodIn wsX7_turnEnds wsX7_isDam := goodIn_r _ [4] (by decide +kernel) (by decide +kernel)
set_option maxRecDepth 20000 in
theorem gX7_turnEnds_X7_isDam : GoodIn wsX7_turnEnds (va_wsS RX7 51 yX7_isDam wsX7_isDam) := goodIn_app (goodIn_of _ (by decide +kernel)) ggX7_turnEnds_X7_isDam
set_option maxRecDepth 20000 in
theorem ggX7_turnEnds_X7_isUnderWay : GoodIn wsX7_turnEnds wsX7_isUnderWay := goodIn_r _ [7] (by decide +kernel) (by decide +kernel)
set_option maxRecDepth 20000 in
theorem gX7_turnEnds_X7_isUnderWay : GoodIn wsX7_turnEnds (va_wsS RX7 81 yX7_isUnderWay wsX7_isUnderWay) := goodIn_app (goodIn_of _ (by decide +kernel)) ggX7_turnEnds_X7_isUnderWay
theorem dX7_turnEnds_0 : decode cX7_turnEnds 0 = .ok (.aload_n 0, 1) := by decide +kernel
theorem dX7_turnEnds_1 : decode cX7_turnEnds 1 = .ok (.iconst 3, 1) := by decide +kernel
theorem dX7_turnEnds_2 : decode cX7_turnEnds 2 = .ok (.dup2, 1) := by decide +kernel
theorem dX7_turnEnds_3 : decode cX7_turnEnds 3 = .ok (.iaload, 1) := by decide +kernel
theorem dX7_turnEnds_4 : decode cX7_turnEnds 4 = .ok (.iconst 1, 1) := by decide +kernel
theorem dX7_turnEnds_5 : decode cX7_turnEnds 5 = .ok (.iadd, 1) := by decide +kernel
theorem dX7_turnEnds_6 : decode cX7_turnEnds 6 = .ok (.iastore, 1) := by decide +kernel
theorem dX7_turnEnds_7 : decode cX7_turnEnds 7 = .ok (.iconst 0, 1) := by decide +kernel
theorem dX7_turnEnds_8 : decode cX7_turnEnds 8 = .ok (.istore_n 1, 1) := by decide +kernel
theorem dX7_turnEnds_9 : decode cX7_turnEnds 9 = .ok (.iload_n 1, 1) := by decide +kernel
theorem dX7_turnEnds_10 : decode cX7_turnEnds 10 = .ok (.bipush 64, 2) := by decide +kernel
theorem dX7_turnEnds_12 : decode cX7_turnEnds 12 = .ok (.if_icmp .ge 60, 3) := by decide +kernel
theorem dX7_turnEnds_15 : decode cX7_turnEnds 15 = .ok (.aload_n 0, 1) := by decide +kernel
theorem dX7_turnEnds_16 : decode cX7_turnEnds 16 = .ok (.iload_n 1, 1) := by decide +kernel
theorem dX7_turnEnds_17 : decode cX7_turnEnds 17 = .ok (.invokestatic 51, 3) := by decide +kernel
theorem dX7_turnEnds_20 : decode cX7_turnEnds 20 = .ok (.ifCond .eq 46, 3) := by decide +kernel
theorem dX7_turnEnds_23 : decode cX7_turnEnds 23 = .ok (.aload_n 0, 1) := by decide +kernel
theorem dX7_turnEnds_24 : decode cX7_turnEnds 24 = .ok (.sipush 148, 3) := by decide +kernel
theorem dX7_turnEnds_27 : decode cX7_turnEnds 27 = .ok (.iload_n 1, 1) := by decide +kernel
theorem dX7_turnEnds_28 : decode cX7_turnEnds 28 = .ok (.iadd, 1) := by decide +kernel
theorem dX7_turnEnds_29 : decode cX7_turnEnds 29 = .ok (.dup2, 1) := by decide +kernel
theorem dX7_turnEnds_30 : decode cX7_turnEnds 30 = .ok (.iaload, 1) := by decide +kernel
theorem dX7_turnEnds_31 : decode cX7_turnEnds 31 = .ok (.iconst 1, 1) := by decide +kernel
theorem dX7_turnEnds_32 : decode cX7_turnEnds 32 = .ok (.iadd, 1) := by decide +kernel
theorem dX7_turnEnds_33 : decode cX7_turnEnds 33 = .ok (.iastore, 1) := by decide +kernel
theorem dX7_turnEnds_34 : decode cX7_turnEnds 34 = .ok (.aload_n 0, 1) := by decide +kernel
theorem dX7_turnEnds_35 : decode cX7_turnEnds 35 = .ok (.sipush 148, 3) := by decide +kernel
theorem dX7_turnEnds_38 : decode cX7_turnEnds 38 = .ok (.iload_n 1, 1) := by decide +kernel
theorem dX7_turnEnds_39 : decode cX7_turnEnds 39 = .ok (.iadd, 1) := by decide +kernel
theorem dX7_turnEnds_40 : decode cX7_turnEnds 40 = .ok (.aload_n 0, 1) := by decide +kernel
theorem dX7_turnEnds_41 : decode cX7_turnEnds 41 = .ok (.sipush 148, 3) := by decide +kernel
theorem dX7_turnEnds_44 : decode cX7_turnEnds 44 = .ok (.iload_n 1, 1) := by decide +kernel
theorem dX7_turnEnds_45 : decode cX7_turnEnds 45 = .ok (.iadd, 1) := by decide +kernel
theorem dX7_turnEnds_46 : decode cX7_turnEnds 46 = .ok (.iaload, 1) := by decide +kernel
theorem dX7_turnEnds_47 : decode cX7_turnEnds 47 = .ok (.aload_n 0, 1) := by decide +kernel
theorem dX7_turnEnds_48 : decode cX7_turnEnds 48 = .ok (.bipush 8, 2) := by decide +kernel
theorem dX7_turnEnds_50 : decode cX7_turnEnds 50 = .ok (.iaload, 1) := by decide +kernel
theorem dX7_turnEnds_51 : decode cX7_turnEnds 51 = .ok (.if_icmp .lt 7, 3) := by decide +kernel
theorem dX7_turnEnds_54 : decode cX7_turnEnds 54 = .ok (.iconst (-1), 1) := by decide +kernel
theorem dX7_turnEnds_55 : decode cX7_turnEnds 55 = .ok (.goto 10, 3) := by decide +kernel
theorem dX7_turnEnds_58 : decode cX7_turnEnds 58 = .ok (.aload_n 0, 1) := by decide +kernel
theorem dX7_turnEnds_59 : decode cX7_turnEnds 59 = .ok (.sipush 148, 3) := by decide +kernel
theorem dX7_turnEnds_62 : decode cX7_turnEnds 62 = .ok (.iload_n 1, 1) := by decide +kernel
theorem dX7_turnEnds_63 : decode cX7_turnEnds 63 = .ok (.iadd, 1) := by decide +kernel
theorem dX7_turnEnds_64 : decode cX7_turnEnds 64 = .ok (.iaload, 1) := by decide +kernel
theorem dX7_turnEnds_65 : decode cX7_turnEnds 65 = .ok (.iastore, 1) := by decide +kernel
theorem dX7_turnEnds_66 : decode cX7_turnEnds 66 = .ok (.iinc 1 1, 3) := by decide +kernel
theorem dX7_turnEnds_69 : decode cX7_turnEnds 69 = .ok (.goto (-60), 3) := by decide +kernel
theorem dX7_turnEnds_72 : decode cX7_turnEnds 72 = .ok (.aload_n 0, 1) := by decide +kernel
theorem dX7_turnEnds_73 : decode cX7_turnEnds 73 = .ok (.iconst 2, 1) := by decide +kernel
theorem dX7_turnEnds_74 : decode cX7_turnEnds 74 = .ok (.iconst 1, 1) := by decide +kernel
theorem dX7_turnEnds_75 : decode cX7_turnEnds 75 = .ok (.aload_n 0, 1) := by decide +kernel
theorem dX7_turnEnds_76 : decode cX7_turnEnds 76 = .ok (.iconst 2, 1) := by decide +kernel
theorem dX7_turnEnds_77 : decode cX7_turnEnds 77 = .ok (.iaload, 1) := by decide +kernel
theorem dX7_turnEnds_78 : decode cX7_turnEnds 78 = .ok (.isub, 1) := by decide +kernel
theorem dX7_turnEnds_79 : decode cX7_turnEnds 79 = .ok (.iastore, 1) := by decide +kernel
theorem dX7_turnEnds_80 : decode cX7_turnEnds 80 = .ok (.aload_n 0, 1) := by decide +kernel
theorem dX7_turnEnds_81 : decode cX7_turnEnds 81 = .ok (.iconst 1, 1) := by decide +kernel
theorem dX7_turnEnds_82 : decode cX7_turnEnds 82 = .ok (.aload_n 0, 1) := by decide +kernel
theorem dX7_turnEnds_83 : decode cX7_turnEnds 83 = .ok (.invokestatic 81, 3) := by decide +kernel
theorem dX7_turnEnds_86 : decode cX7_turnEnds 86 = .ok (.ifCond .eq 15, 3) := by decide +kernel
theorem dX7_turnEnds_89 : decode cX7_turnEnds 89 = .ok (.aload_n 0, 1) := by decide +kernel
theorem dX7_turnEnds_90 : decode cX7_turnEnds 90 = .ok (.iconst 3, 1) := by decide +kernel
theorem dX7_turnEnds_91 : decode cX7_turnEnds 91 = .ok (.iaload, 1) := by decide +kernel
theorem dX7_turnEnds_92 : decode cX7_turnEnds 92 = .ok (.bipush 80, 2) := by decide +kernel
theorem dX7_turnEnds_94 : decode cX7_turnEnds 94 = .ok (.if_icmp .ne 7, 3) := by decide +kernel
theorem dX7_turnEnds_97 : decode cX7_turnEnds 97 = .ok (.iconst 3, 1) := by decide +kernel
theorem dX7_turnEnds_98 : decode cX7_turnEnds 98 = .ok (.goto 6, 3) := by decide +kernel
theorem dX7_turnEnds_101 : decode cX7_turnEnds 101 = .ok (.aload_n 0, 1) := by decide +kernel
theorem dX7_turnEnds_102 : decode cX7_turnEnds 102 = .ok (.iconst 1, 1) := by decide +kernel
theorem dX7_turnEnds_103 : decode cX7_turnEnds 103 = .ok (.iaload, 1) := by decide +kernel
theorem dX7_turnEnds_104 : decode cX7_turnEnds 104 = .ok (.iastore, 1) := by decide +kernel
theorem dX7_turnEnds_105 : decode cX7_turnEnds 105 = .ok (.return_, 1) := by decide +kernel
set_option maxRecDepth 20000 in
theorem ggX7_meet_X7_cost : GoodIn wsX7_meet wsX7_cost := goodIn_r _ [4] (by decide +kernel) (by decide +kernel)
set_option maxRecDepth 20000 in
theorem gX7_meet_X7_cost : GoodIn wsX7_meet (va_wsS RX7 85 yX7_cost wsX7_cost) := goodIn_app (goodIn_of _ (by decide +kernel)) ggX7_meet_X7_cost
set_option maxRecDepth 20000 in
theorem ggX7_meet_X7_pays : GoodIn wsX7_meet wsX7_pays := goodIn_r _ [7, 8, 9, 3, 10] (by decide +kernel) (by decide +kernel)
set_option maxRecDepth 20000 in
theorem gX7_meet_X7_pays : GoodIn wsX7_meet (va_wsS RX7 88 yX7_pays wsX7_pays) := goodIn_app (goodIn_of _ (by decide +kernel)) ggX7_meet_X7_pays
set_option maxRecDepth 20000 in
theorem ggX7_meet_X7_of : GoodIn wsX7_meet wsX7_of := goodIn_r _ [13] (by decide +kernel) (by decide +kernel)
set_option maxRecDepth 20000 in
theorem gX7_meet_X7_of : GoodIn wsX7_meet (va_wsS RX7 47 yX7_of wsX7_of) := goodIn_app (goodIn_of _ (by decide +kernel)) ggX7_meet_X7_of
set_option maxRecDepth 20000 in
theorem ggX7_meet_X7_add : GoodIn wsX7_meet wsX7_add := goodIn_r _ [10] (by decide +kernel) (by decide +kernel)
set_option maxRecDepth 20000 in
theorem gX7_meet_X7_add : GoodIn wsX7_meet (va_wsS RX7 69 yX7_add wsX7_add) := goodIn_app (goodIn_of _ (by decide +kernel)) ggX7_meet_X7_add
theorem dX7_meet_0 : decode cX7_meet 0 = .ok (.iconst 0, 1) := by decide +kernel
theorem dX7_meet_1 : decode cX7_meet 1 = .ok (.istore_n 2, 1) := by decide +kernel
theorem dX7_meet_2 : decode cX7_meet 2 = .ok (.iload_n 2, 1) := by decide +kernel
theorem dX7_meet_3 : decode cX7_meet 3 = .ok (.iconst 2, 1) := by decide +kernel
theorem dX7_meet_4 : decode cX7_meet 4 = .ok (.if_icmp .ge 25, 3) := by decide +kernel
theorem dX7_meet_7 : decode cX7_meet 7 = .ok (.aload_n 0, 1) := by decide +kernel
theorem dX7_meet_8 : decode cX7_meet 8 = .ok (.iload_n 2, 1) := by decide +kernel
theorem dX7_meet_9 : decode cX7_meet 9 = .ok (.aload_n 0, 1) := by decide +kernel
theorem dX7_meet_10 : decode cX7_meet 10 = .ok (.bipush 9, 2) := by decide +kernel
theorem dX7_meet_12 : decode cX7_meet 12 = .ok (.iaload, 1) := by decide +kernel
theorem dX7_meet_13 : decode cX7_meet 13 = .ok (.aload_n 0, 1) := by decide +kernel
theorem dX7_meet_14 : decode cX7_meet 14 = .ok (.iload_n 2, 1) := by decide +kernel
theorem dX7_meet_15 : decode cX7_meet 15 = .ok (.iload_n 1, 1) := by decide +kernel
theorem dX7_meet_16 : decode cX7_meet 16 = .ok (.invokestatic 85, 3) := by decide +kernel
theorem dX7_meet_19 : decode cX7_meet 19 = .ok (.imul, 1) := by decide +kernel
theorem dX7_meet_20 : decode cX7_meet 20 = .ok (.invokestatic 88, 3) := by decide +kernel
theorem dX7_meet_23 : decode cX7_meet 23 = .ok (.iinc 2 1, 3) := by decide +kernel
theorem dX7_meet_26 : decode cX7_meet 26 = .ok (.goto (-24), 3) := by decide +kernel
theorem dX7_meet_29 : decode cX7_meet 29 = .ok (.aload_n 0, 1) := by decide +kernel
theorem dX7_meet_30 : decode cX7_meet 30 = .ok (.iconst 1, 1) := by decide +kernel
theorem dX7_meet_31 : decode cX7_meet 31 = .ok (.iconst 2, 1) := by decide +kernel
theorem dX7_meet_32 : decode cX7_meet 32 = .ok (.iastore, 1) := by decide +kernel
theorem dX7_meet_33 : decode cX7_meet 33 = .ok (.aload_n 0, 1) := by decide +kernel
theorem dX7_meet_34 : decode cX7_meet 34 = .ok (.iconst 4, 1) := by decide +kernel
theorem dX7_meet_35 : decode cX7_meet 35 = .ok (.iload_n 1, 1) := by decide +kernel
theorem dX7_meet_36 : decode cX7_meet 36 = .ok (.iastore, 1) := by decide +kernel
theorem dX7_meet_37 : decode cX7_meet 37 = .ok (.aload_n 0, 1) := by decide +kernel
theorem dX7_meet_38 : decode cX7_meet 38 = .ok (.iconst 0, 1) := by decide +kernel
theorem dX7_meet_39 : decode cX7_meet 39 = .ok (.iconst 0, 1) := by decide +kernel
theorem dX7_meet_40 : decode cX7_meet 40 = .ok (.invokestatic 47, 3) := by decide +kernel
theorem dX7_meet_43 : decode cX7_meet 43 = .ok (.aload_n 0, 1) := by decide +kernel
theorem dX7_meet_44 : decode cX7_meet 44 = .ok (.iconst 1, 1) := by decide +kernel
theorem dX7_meet_45 : decode cX7_meet 45 = .ok (.iconst 0, 1) := by decide +kernel
theorem dX7_meet_46 : decode cX7_meet 46 = .ok (.invokestatic 47, 3) := by decide +kernel
theorem dX7_meet_49 : decode cX7_meet 49 = .ok (.isub, 1) := by decide +kernel
theorem dX7_meet_50 : decode cX7_meet 50 = .ok (.istore_n 2, 1) := by decide +kernel
theorem dX7_meet_51 : decode cX7_meet 51 = .ok (.aload_n 0, 1) := by decide +kernel
theorem dX7_meet_52 : decode cX7_meet 52 = .ok (.iconst 5, 1) := by decide +kernel
theorem dX7_meet_53 : decode cX7_meet 53 = .ok (.iload_n 2, 1) := by decide +kernel
theorem dX7_meet_54 : decode cX7_meet 54 = .ok (.ifCond .ge 7, 3) := by decide +kernel
theorem dX7_meet_57 : decode cX7_meet 57 = .ok (.iconst 0, 1) := by decide +kernel
theorem dX7_meet_58 : decode cX7_meet 58 = .ok (.goto 12, 3) := by decide +kernel
theorem dX7_meet_61 : decode cX7_meet 61 = .ok (.iload_n 2, 1) := by decide +kernel
theorem dX7_meet_62 : decode cX7_meet 62 = .ok (.ifCond .le 7, 3) := by decide +kernel
theorem dX7_meet_65 : decode cX7_meet 65 = .ok (.iconst 1, 1) := by decide +kernel
theorem dX7_meet_66 : decode cX7_meet 66 = .ok (.goto 4, 3) := by decide +kernel
theorem dX7_meet_69 : decode cX7_meet 69 = .ok (.iconst (-1), 1) := by decide +kernel
theorem dX7_meet_70 : decode cX7_meet 70 = .ok (.iastore, 1) := by decide +kernel
theorem dX7_meet_71 : decode cX7_meet 71 = .ok (.iload_n 2, 1) := by decide +kernel
theorem dX7_meet_72 : decode cX7_meet 72 = .ok (.ifCond .eq 12, 3) := by decide +kernel
theorem dX7_meet_75 : decode cX7_meet 75 = .ok (.aload_n 0, 1) := by decide +kernel
theorem dX7_meet_76 : decode cX7_meet 76 = .ok (.aload_n 0, 1) := by decide +kernel
theorem dX7_meet_77 : decode cX7_meet 77 = .ok (.iconst 5, 1) := by decide +kernel
theorem dX7_meet_78 : decode cX7_meet 78 = .ok (.iaload, 1) := by decide +kernel
theorem dX7_meet_79 : decode cX7_meet 79 = .ok (.iconst 2, 1) := by decide +kernel
theorem dX7_meet_80 : decode cX7_meet 80 = .ok (.iconst 1, 1) := by decide +kernel
theorem dX7_meet_81 : decode cX7_meet 81 = .ok (.invokestatic 69, 3) := by decide +kernel
theorem dX7_meet_84 : decode cX7_meet 84 = .ok (.return_, 1) := by decide +kernel
set_option maxRecDepth 20000 in
theorem ggX7_reason_X7_head : GoodIn wsX7_reason wsX7_head := goodIn_r _ [4, 5, 6, 3, 7] (by decide +kernel) (by decide +kernel)
set_option maxRecDepth 20000 in
theorem gX7_reason_X7_head : GoodIn wsX7_reason (va_wsS RX7 91 yX7_head wsX7_head) := goodIn_app (goodIn_of _ (by decide +kernel)) ggX7_reason_X7_head
set_option maxRecDepth 20000 in
theorem ggX7_reason_X7_stepFrom : GoodIn wsX7_reason wsX7_stepFrom := goodIn_r _ [10, 11, 12, 3, 13, 14, 15, 16, 17] (by decide +kernel) (by decide +kernel)
set_option maxRecDepth 20000 in
theorem gX7_reason_X7_stepFrom : GoodIn wsX7_reason (va_wsS RX7 95 yX7_stepFrom wsX7_stepFrom) := goodIn_app (goodIn_of _ (by decide +kernel)) ggX7_reason_X7_stepFrom
set_option maxRecDepth 20000 in
theorem ggX7_reason_X7_isDam : GoodIn wsX7_reason wsX7_isDam := goodIn_r _ [20] (by decide +kernel) (by decide +kernel)
set_option maxRecDepth 20000 in
theorem gX7_reason_X7_isDam : GoodIn wsX7_reason (va_wsS RX7 51 yX7_isDam wsX7_isDam) := goodIn_app (goodIn_of _ (by decide +kernel)) ggX7_reason_X7_isDam
set_option maxRecDepth 20000 in
theorem ggX7_reason_X7_isRiver : GoodIn wsX7_reason wsX7_isRiver := goodIn_r _ [23] (by decide +kernel) (by decide +kernel)
set_option maxRecDepth 20000 in
theorem gX7_reason_X7_isRiver : GoodIn wsX7_reason (va_wsS RX7 99 yX7_isRiver wsX7_isRiver) := goodIn_app (goodIn_of _ (by decide +kernel)) ggX7_reason_X7_isRiver
theorem dX7_reason_0 : decode cX7_reason 0 = .ok (.aload_n 0, 1) := by decide +kernel
theorem dX7_reason_1 : decode cX7_reason 1 = .ok (.iconst 2, 1) := by decide +kernel
theorem dX7_reason_2 : decode cX7_reason 2 = .ok (.iaload, 1) := by decide +kernel
theorem dX7_reason_3 : decode cX7_reason 3 = .ok (.istore_n 2, 1) := by decide +kernel
theorem dX7_reason_4 : decode cX7_reason 4 = .ok (.aload_n 0, 1) := by decide +kernel
theorem dX7_reason_5 : decode cX7_reason 5 = .ok (.iload_n 2, 1) := by decide +kernel
theorem dX7_reason_6 : decode cX7_reason 6 = .ok (.invokestatic 91, 3) := by decide +kernel
theorem dX7_reason_9 : decode cX7_reason 9 = .ok (.iload_n 1, 1) := by decide +kernel
theorem dX7_reason_10 : decode cX7_reason 10 = .ok (.invokestatic 95, 3) := by decide +kernel
theorem dX7_reason_13 : decode cX7_reason 13 = .ok (.istore_n 3, 1) := by decide +kernel
theorem dX7_reason_14 : decode cX7_reason 14 = .ok (.iload_n 3, 1) := by decide +kernel
theorem dX7_reason_15 : decode cX7_reason 15 = .ok (.iconst (-1), 1) := by decide +kernel
theorem dX7_reason_16 : decode cX7_reason 16 = .ok (.if_icmp .ne 7, 3) := by decide +kernel
theorem dX7_reason_19 : decode cX7_reason 19 = .ok (.iconst 1, 1) := by decide +kernel
theorem dX7_reason_20 : decode cX7_reason 20 = .ok (.goto 29, 3) := by decide +kernel
theorem dX7_reason_23 : decode cX7_reason 23 = .ok (.aload_n 0, 1) := by decide +kernel
theorem dX7_reason_24 : decode cX7_reason 24 = .ok (.iload_n 3, 1) := by decide +kernel
theorem dX7_reason_25 : decode cX7_reason 25 = .ok (.invokestatic 51, 3) := by decide +kernel
theorem dX7_reason_28 : decode cX7_reason 28 = .ok (.ifCond .eq 7, 3) := by decide +kernel
theorem dX7_reason_31 : decode cX7_reason 31 = .ok (.iconst 2, 1) := by decide +kernel
theorem dX7_reason_32 : decode cX7_reason 32 = .ok (.goto 17, 3) := by decide +kernel
theorem dX7_reason_35 : decode cX7_reason 35 = .ok (.aload_n 0, 1) := by decide +kernel
theorem dX7_reason_36 : decode cX7_reason 36 = .ok (.iload_n 2, 1) := by decide +kernel
theorem dX7_reason_37 : decode cX7_reason 37 = .ok (.iload_n 3, 1) := by decide +kernel
theorem dX7_reason_38 : decode cX7_reason 38 = .ok (.invokestatic 99, 3) := by decide +kernel
theorem dX7_reason_41 : decode cX7_reason 41 = .ok (.ifCond .eq 7, 3) := by decide +kernel
theorem dX7_reason_44 : decode cX7_reason 44 = .ok (.iconst 3, 1) := by decide +kernel
theorem dX7_reason_45 : decode cX7_reason 45 = .ok (.goto 4, 3) := by decide +kernel
theorem dX7_reason_48 : decode cX7_reason 48 = .ok (.iconst 0, 1) := by decide +kernel
theorem dX7_reason_49 : decode cX7_reason 49 = .ok (.ireturn, 1) := by decide +kernel
set_option maxRecDepth 20000 in
theorem ggX7_canStep_X7_reason : GoodIn wsX7_canStep wsX7_reason := goodIn_r _ [4, 5, 6, 3, 7, 8, 9, 10, 11, 12, 13, 14, 15, 16, 17, 18, 19, 20, 21, 22, 23, 24, 25, 26] (by decide +kernel) (by decide +kernel)
set_option maxRecDepth 20000 in
theorem gX7_canStep_X7_reason : GoodIn wsX7_canStep (va_wsS RX7 103 yX7_reason wsX7_reason) := goodIn_app (goodIn_of _ (by decide +kernel)) ggX7_canStep_X7_reason
theorem dX7_canStep_0 : decode cX7_canStep 0 = .ok (.aload_n 0, 1) := by decide +kernel
theorem dX7_canStep_1 : decode cX7_canStep 1 = .ok (.iconst 0, 1) := by decide +kernel
theorem dX7_canStep_2 : decode cX7_canStep 2 = .ok (.invokestatic 103, 3) := by decide +kernel
theorem dX7_canStep_5 : decode cX7_canStep 5 = .ok (.ifCond .eq 19, 3) := by decide +kernel
theorem dX7_canStep_8 : decode cX7_canStep 8 = .ok (.aload_n 0, 1) := by decide +kernel
theorem dX7_canStep_9 : decode cX7_canStep 9 = .ok (.iconst 1, 1) := by decide +kernel
theorem dX7_canStep_10 : decode cX7_canStep 10 = .ok (.invokestatic 103, 3) := by decide +kernel
theorem dX7_canStep_13 : decode cX7_canStep 13 = .ok (.ifCond .eq 11, 3) := by decide +kernel
theorem dX7_canStep_16 : decode cX7_canStep 16 = .ok (.aload_n 0, 1) := by decide +kernel
theorem dX7_canStep_17 : decode cX7_canStep 17 = .ok (.iconst 2, 1) := by decide +kernel
theorem dX7_canStep_18 : decode cX7_canStep 18 = .ok (.invokestatic 103, 3) := by decide +kernel
theorem dX7_canStep_21 : decode cX7_canStep 21 = .ok (.ifCond .ne 7, 3) := by decide +kernel
theorem dX7_canStep_24 : decode cX7_canStep 24 = .ok (.iconst 1, 1) := by decide +kernel
theorem dX7_canStep_25 : decode cX7_canStep 25 = .ok (.goto 4, 3) := by decide +kernel
theorem dX7_canStep_28 : decode cX7_canStep 28 = .ok (.iconst 0, 1) := by decide +kernel
theorem dX7_canStep_29 : decode cX7_canStep 29 = .ok (.ireturn, 1) := by decide +kernel
set_option maxRecDepth 20000 in
theorem ggX7_stepOn_X7_reason : GoodIn wsX7_stepOn wsX7_reason := goodIn_r _ [4, 5, 6, 3, 7, 8, 9, 10, 11, 12, 13, 14, 15, 16, 17, 18, 19, 20, 21, 22, 23, 24, 25, 26] (by decide +kernel) (by decide +kernel)
set_option maxRecDepth 20000 in
theorem gX7_stepOn_X7_reason : GoodIn wsX7_stepOn (va_wsS RX7 103 yX7_reason wsX7_reason) := goodIn_app (goodIn_of _ (by decide +kernel)) ggX7_stepOn_X7_reason
set_option maxRecDepth 20000 in
theorem ggX7_stepOn_X7_head : GoodIn wsX7_stepOn wsX7_head := goodIn_r _ [7, 8, 9, 3, 10] (by decide +kernel) (by decide +kernel)
set_option maxRecDepth 20000 in
theorem gX7_stepOn_X7_head : GoodIn wsX7_stepOn (va_wsS RX7 91 yX7_head wsX7_head) := goodIn_app (goodIn_of _ (by decide +kernel)) ggX7_stepOn_X7_head
set_option maxRecDepth 20000 in
theorem ggX7_stepOn_X7_stepFrom : GoodIn wsX7_stepOn wsX7_stepFrom := goodIn_r _ [13, 14, 15, 3, 16, 17, 18, 19, 20] (by decide +kernel) (by decide +kernel)
set_option maxRecDepth 20000 in
theorem gX7_stepOn_X7_stepFrom : GoodIn wsX7_stepOn (va_wsS RX7 95 yX7_stepFrom wsX7_stepFrom) := goodIn_app (goodIn_of _ (by decide +kernel)) ggX7_stepOn_X7_stepFrom
set_option maxRecDepth 20000 in
theorem ggX7_stepOn_X7_isRiver : GoodIn wsX7_stepOn wsX7_isRiver := goodIn_r _ [26] (by decide +kernel) (by decide +kernel)
set_option maxRecDepth 20000 in
theorem gX7_stepOn_X7_isRiver : GoodIn wsX7_stepOn (va_wsS RX7 99 yX7_isRiver wsX7_isRiver) := goodIn_app (goodIn_of _ (by decide +kernel)) ggX7_stepOn_X7_isRiver
set_option maxRecDepth 20000 in
theorem ggX7_stepOn_X7_flows : GoodIn wsX7_stepOn wsX7_flows := goodIn_r _ [29, 8, 9, 3, 10, 30, 31, 32] (by decide +kernel) (by decide +kernel)
set_option maxRecDepth 20000 in
theorem gX7_stepOn_X7_flows : GoodIn wsX7_stepOn (va_wsS RX7 77 yX7_flows wsX7_flows) := goodIn_app (goodIn_of _ (by decide +kernel)) ggX7_stepOn_X7_flows
set_option maxRecDepth 20000 in
theorem ggX7_stepOn_X7_meet : GoodIn wsX7_stepOn wsX7_meet := goodIn_r _ [35, 36, 37, 3, 38, 39, 40, 41, 30, 31, 32, 8, 9, 10] (by decide +kernel) (by decide +kernel)
set_option maxRecDepth 20000 in
theorem gX7_stepOn_X7_meet : GoodIn wsX7_stepOn (va_wsS RX7 106 yX7_meet wsX7_meet) := goodIn_app (goodIn_of _ (by decide +kernel)) ggX7_stepOn_X7_meet
set_option maxRecDepth 20000 in
theorem ggX7_stepOn_X7_cost : GoodIn wsX7_stepOn wsX7_cost := goodIn_r _ [38] (by decide +kernel) (by decide +kernel)
set_option maxRecDepth 20000 in
theorem gX7_stepOn_X7_cost : GoodIn wsX7_stepOn (va_wsS RX7 85 yX7_cost wsX7_cost) := goodIn_app (goodIn_of _ (by decide +kernel)) ggX7_stepOn_X7_cost
set_option maxRecDepth 20000 in
theorem ggX7_stepOn_X7_pays : GoodIn wsX7_stepOn wsX7_pays := goodIn_r _ [41, 30, 31, 3, 32] (by decide +kernel) (by decide +kernel)
set_option maxRecDepth 20000 in
theorem gX7_stepOn_X7_pays : GoodIn wsX7_stepOn (va_wsS RX7 88 yX7_pays wsX7_pays) := goodIn_app (goodIn_of _ (by decide +kernel)) ggX7_stepOn_X7_pays
set_option maxRecDepth 20000 in
theorem ggX7_stepOn_X7_turnEnds : GoodIn wsX7_stepOn wsX7_turnEnds := goodIn_r _ [44, 21, 22, 3, 23, 45, 46, 47] (by decide +kernel) (by decide +kernel)
set_option maxRecDepth 20000 in
theorem gX7_stepOn_X7_turnEnds : GoodIn wsX7_stepOn (va_wsS RX7 110 yX7_turnEnds wsX7_turnEnds) := goodIn_app (goodIn_of _ (by decide +kernel)) ggX7_stepOn_X7_turnEnds
theorem dX7_stepOn_0 : decode cX7_stepOn 0 = .ok (.aload_n 0, 1) := by decide +kernel
theorem dX7_stepOn_1 : decode cX7_stepOn 1 = .ok (.iload_n 1, 1) := by decide +kernel
theorem dX7_stepOn_2 : decode cX7_stepOn 2 = .ok (.invokestatic 103, 3) := by decide +kernel
theorem dX7_stepOn_5 : decode cX7_stepOn 5 = .ok (.istore_n 2, 1) := by decide +kernel
theorem dX7_stepOn_6 : decode cX7_stepOn 6 = .ok (.iload_n 2, 1) := by decide +kernel
theorem dX7_stepOn_7 : decode cX7_stepOn 7 = .ok (.ifCond .le 13, 3) := by decide +kernel
theorem dX7_stepOn_10 : decode cX7_stepOn 10 = .ok (.aload_n 0, 1) := by decide +kernel
theorem dX7_stepOn_11 : decode cX7_stepOn 11 = .ok (.bipush 6, 2) := by decide +kernel
theorem dX7_stepOn_13 : decode cX7_stepOn 13 = .ok (.dup2, 1) := by decide +kernel
theorem dX7_stepOn_14 : decode cX7_stepOn 14 = .ok (.iaload, 1) := by decide +kernel
theorem dX7_stepOn_15 : decode cX7_stepOn 15 = .ok (.iconst 1, 1) := by decide +kernel
theorem dX7_stepOn_16 : decode cX7_stepOn 16 = .ok (.iadd, 1) := by decide +kernel
theorem dX7_stepOn_17 : decode cX7_stepOn 17 = .ok (.iastore, 1) := by decide +kernel
theorem dX7_stepOn_18 : decode cX7_stepOn 18 = .ok (.iload_n 2, 1) := by decide +kernel
theorem dX7_stepOn_19 : decode cX7_stepOn 19 = .ok (.ireturn, 1) := by decide +kernel
theorem dX7_stepOn_20 : decode cX7_stepOn 20 = .ok (.aload_n 0, 1) := by decide +kernel
theorem dX7_stepOn_21 : decode cX7_stepOn 21 = .ok (.iconst 2, 1) := by decide +kernel
theorem dX7_stepOn_22 : decode cX7_stepOn 22 = .ok (.iaload, 1) := by decide +kernel
theorem dX7_stepOn_23 : decode cX7_stepOn 23 = .ok (.istore_n 3, 1) := by decide +kernel
theorem dX7_stepOn_24 : decode cX7_stepOn 24 = .ok (.aload_n 0, 1) := by decide +kernel
theorem dX7_stepOn_25 : decode cX7_stepOn 25 = .ok (.iload_n 3, 1) := by decide +kernel
theorem dX7_stepOn_26 : decode cX7_stepOn 26 = .ok (.invokestatic 91, 3) := by decide +kernel
theorem dX7_stepOn_29 : decode cX7_stepOn 29 = .ok (.iload_n 1, 1) := by decide +kernel
theorem dX7_stepOn_30 : decode cX7_stepOn 30 = .ok (.invokestatic 95, 3) := by decide +kernel
theorem dX7_stepOn_33 : decode cX7_stepOn 33 = .ok (.istore 4, 2) := by decide +kernel
theorem dX7_stepOn_35 : decode cX7_stepOn 35 = .ok (.aload_n 0, 1) := by decide +kernel
theorem dX7_stepOn_36 : decode cX7_stepOn 36 = .ok (.iconst 1, 1) := by decide +kernel
theorem dX7_stepOn_37 : decode cX7_stepOn 37 = .ok (.iload_n 3, 1) := by decide +kernel
theorem dX7_stepOn_38 : decode cX7_stepOn 38 = .ok (.isub, 1) := by decide +kernel
theorem dX7_stepOn_39 : decode cX7_stepOn 39 = .ok (.iload 4, 2) := by decide +kernel
theorem dX7_stepOn_41 : decode cX7_stepOn 41 = .ok (.invokestatic 99, 3) := by decide +kernel
theorem dX7_stepOn_44 : decode cX7_stepOn 44 = .ok (.istore 5, 2) := by decide +kernel
theorem dX7_stepOn_46 : decode cX7_stepOn 46 = .ok (.aload_n 0, 1) := by decide +kernel
theorem dX7_stepOn_47 : decode cX7_stepOn 47 = .ok (.iload_n 3, 1) := by decide +kernel
theorem dX7_stepOn_48 : decode cX7_stepOn 48 = .ok (.iload 4, 2) := by decide +kernel
theorem dX7_stepOn_50 : decode cX7_stepOn 50 = .ok (.invokestatic 77, 3) := by decide +kernel
theorem dX7_stepOn_53 : decode cX7_stepOn 53 = .ok (.iload 5, 2) := by decide +kernel
theorem dX7_stepOn_55 : decode cX7_stepOn 55 = .ok (.ifCond .eq 12, 3) := by decide +kernel
theorem dX7_stepOn_58 : decode cX7_stepOn 58 = .ok (.aload_n 0, 1) := by decide +kernel
theorem dX7_stepOn_59 : decode cX7_stepOn 59 = .ok (.iload 4, 2) := by decide +kernel
theorem dX7_stepOn_61 : decode cX7_stepOn 61 = .ok (.invokestatic 106, 3) := by decide +kernel
theorem dX7_stepOn_64 : decode cX7_stepOn 64 = .ok (.goto 15, 3) := by decide +kernel
theorem dX7_stepOn_67 : decode cX7_stepOn 67 = .ok (.aload_n 0, 1) := by decide +kernel
theorem dX7_stepOn_68 : decode cX7_stepOn 68 = .ok (.iload_n 3, 1) := by decide +kernel
theorem dX7_stepOn_69 : decode cX7_stepOn 69 = .ok (.aload_n 0, 1) := by decide +kernel
theorem dX7_stepOn_70 : decode cX7_stepOn 70 = .ok (.iload_n 3, 1) := by decide +kernel
theorem dX7_stepOn_71 : decode cX7_stepOn 71 = .ok (.iload 4, 2) := by decide +kernel
theorem dX7_stepOn_73 : decode cX7_stepOn 73 = .ok (.invokestatic 85, 3) := by decide +kernel
theorem dX7_stepOn_76 : decode cX7_stepOn 76 = .ok (.invokestatic 88, 3) := by decide +kernel
theorem dX7_stepOn_79 : decode cX7_stepOn 79 = .ok (.aload_n 0, 1) := by decide +kernel
theorem dX7_stepOn_80 : decode cX7_stepOn 80 = .ok (.invokestatic 110, 3) := by decide +kernel
theorem dX7_stepOn_83 : decode cX7_stepOn 83 = .ok (.iconst 0, 1) := by decide +kernel
theorem dX7_stepOn_84 : decode cX7_stepOn 84 = .ok (.ireturn, 1) := by decide +kernel
set_option maxRecDepth 20000 in
theorem ggX7_isOpen_X7_head : GoodIn wsX7_isOpen wsX7_head := goodIn_r _ [5, 6, 7, 4, 8] (by decide +kernel) (by decide +kernel)
set_option maxRecDepth 20000 in
theorem gX7_isOpen_X7_head : GoodIn wsX7_isOpen (va_wsS RX7 91 yX7_head wsX7_head) := goodIn_app (goodIn_of _ (by decide +kernel)) ggX7_isOpen_X7_head
set_option maxRecDepth 20000 in
theorem ggX7_isOpen_X7_stepFrom : GoodIn wsX7_isOpen wsX7_stepFrom := goodIn_r _ [11, 12, 13, 4, 14, 15, 16, 17, 18] (by decide +kernel) (by decide +kernel)
set_option maxRecDepth 20000 in
theorem gX7_isOpen_X7_stepFrom : GoodIn wsX7_isOpen (va_wsS RX7 95 yX7_stepFrom wsX7_stepFrom) := goodIn_app (goodIn_of _ (by decide +kernel)) ggX7_isOpen_X7_stepFrom
set_option maxRecDepth 20000 in
theorem ggX7_isOpen_X7_isDam : GoodIn wsX7_isOpen wsX7_isDam := goodIn_r _ [21] (by decide +kernel) (by decide +kernel)
set_option maxRecDepth 20000 in
theorem gX7_isOpen_X7_isDam : GoodIn wsX7_isOpen (va_wsS RX7 51 yX7_isDam wsX7_isDam) := goodIn_app (goodIn_of _ (by decide +kernel)) ggX7_isOpen_X7_isDam
set_option maxRecDepth 20000 in
theorem ggX7_isOpen_X7_isRiver : GoodIn wsX7_isOpen wsX7_isRiver := goodIn_r _ [24] (by decide +kernel) (by decide +kernel)
set_option maxRecDepth 20000 in
theorem gX7_isOpen_X7_isRiver : GoodIn wsX7_isOpen (va_wsS RX7 99 yX7_isRiver wsX7_isRiver) := goodIn_app (goodIn_of _ (by decide +kernel)) ggX7_isOpen_X7_isRiver
theorem dX7_isOpen_0 : decode cX7_isOpen 0 = .ok (.iconst 0, 1) := by decide +kernel
theorem dX7_isOpen_1 : decode cX7_isOpen 1 = .ok (.istore_n 3, 1) := by decide +kernel
theorem dX7_isOpen_2 : decode cX7_isOpen 2 = .ok (.iload_n 3, 1) := by decide +kernel
theorem dX7_isOpen_3 : decode cX7_isOpen 3 = .ok (.bipush 64, 2) := by decide +kernel
theorem dX7_isOpen_5 : decode cX7_isOpen 5 = .ok (.if_icmp .ge 16, 3) := by decide +kernel
theorem dX7_isOpen_8 : decode cX7_isOpen 8 = .ok (.aload_n 0, 1) := by decide +kernel
theorem dX7_isOpen_9 : decode cX7_isOpen 9 = .ok (.getfield 29, 3) := by decide +kernel
theorem dX7_isOpen_12 : decode cX7_isOpen 12 = .ok (.iload_n 3, 1) := by decide +kernel
theorem dX7_isOpen_13 : decode cX7_isOpen 13 = .ok (.iconst 0, 1) := by decide +kernel
theorem dX7_isOpen_14 : decode cX7_isOpen 14 = .ok (.iastore, 1) := by decide +kernel
theorem dX7_isOpen_15 : decode cX7_isOpen 15 = .ok (.iinc 3 1, 3) := by decide +kernel
theorem dX7_isOpen_18 : decode cX7_isOpen 18 = .ok (.goto (-16), 3) := by decide +kernel
theorem dX7_isOpen_21 : decode cX7_isOpen 21 = .ok (.aload_n 0, 1) := by decide +kernel
theorem dX7_isOpen_22 : decode cX7_isOpen 22 = .ok (.getfield 29, 3) := by decide +kernel
theorem dX7_isOpen_25 : decode cX7_isOpen 25 = .ok (.aload_n 1, 1) := by decide +kernel
theorem dX7_isOpen_26 : decode cX7_isOpen 26 = .ok (.iload_n 2, 1) := by decide +kernel
theorem dX7_isOpen_27 : decode cX7_isOpen 27 = .ok (.invokestatic 91, 3) := by decide +kernel
theorem dX7_isOpen_30 : decode cX7_isOpen 30 = .ok (.iconst 1, 1) := by decide +kernel
theorem dX7_isOpen_31 : decode cX7_isOpen 31 = .ok (.iastore, 1) := by decide +kernel
theorem dX7_isOpen_32 : decode cX7_isOpen 32 = .ok (.aload_n 1, 1) := by decide +kernel
theorem dX7_isOpen_33 : decode cX7_isOpen 33 = .ok (.iload_n 2, 1) := by decide +kernel
theorem dX7_isOpen_34 : decode cX7_isOpen 34 = .ok (.invokestatic 91, 3) := by decide +kernel
theorem dX7_isOpen_37 : decode cX7_isOpen 37 = .ok (.bipush 8, 2) := by decide +kernel
theorem dX7_isOpen_39 : decode cX7_isOpen 39 = .ok (.idiv, 1) := by decide +kernel
theorem dX7_isOpen_40 : decode cX7_isOpen 40 = .ok (.bipush 7, 2) := by decide +kernel
theorem dX7_isOpen_42 : decode cX7_isOpen 42 = .ok (.if_icmp .ne 7, 3) := by decide +kernel
theorem dX7_isOpen_45 : decode cX7_isOpen 45 = .ok (.iconst 1, 1) := by decide +kernel
theorem dX7_isOpen_46 : decode cX7_isOpen 46 = .ok (.goto 4, 3) := by decide +kernel
theorem dX7_isOpen_49 : decode cX7_isOpen 49 = .ok (.iconst 0, 1) := by decide +kernel
theorem dX7_isOpen_50 : decode cX7_isOpen 50 = .ok (.istore_n 3, 1) := by decide +kernel
theorem dX7_isOpen_51 : decode cX7_isOpen 51 = .ok (.iconst 0, 1) := by decide +kernel
theorem dX7_isOpen_52 : decode cX7_isOpen 52 = .ok (.istore 4, 2) := by decide +kernel
theorem dX7_isOpen_54 : decode cX7_isOpen 54 = .ok (.iload 4, 2) := by decide +kernel
theorem dX7_isOpen_56 : decode cX7_isOpen 56 = .ok (.bipush 64, 2) := by decide +kernel
theorem dX7_isOpen_58 : decode cX7_isOpen 58 = .ok (.if_icmp .ge 121, 3) := by decide +kernel
theorem dX7_isOpen_61 : decode cX7_isOpen 61 = .ok (.iload_n 3, 1) := by decide +kernel
theorem dX7_isOpen_62 : decode cX7_isOpen 62 = .ok (.ifCond .ne 117, 3) := by decide +kernel
theorem dX7_isOpen_65 : decode cX7_isOpen 65 = .ok (.iconst 0, 1) := by decide +kernel
theorem dX7_isOpen_66 : decode cX7_isOpen 66 = .ok (.istore 5, 2) := by decide +kernel
theorem dX7_isOpen_68 : decode cX7_isOpen 68 = .ok (.iload 5, 2) := by decide +kernel
theorem dX7_isOpen_70 : decode cX7_isOpen 70 = .ok (.sipush 192, 3) := by decide +kernel
theorem dX7_isOpen_73 : decode cX7_isOpen 73 = .ok (.if_icmp .ge 100, 3) := by decide +kernel
theorem dX7_isOpen_76 : decode cX7_isOpen 76 = .ok (.iload_n 3, 1) := by decide +kernel
theorem dX7_isOpen_77 : decode cX7_isOpen 77 = .ok (.ifCond .ne 96, 3) := by decide +kernel
theorem dX7_isOpen_80 : decode cX7_isOpen 80 = .ok (.iload 5, 2) := by decide +kernel
theorem dX7_isOpen_82 : decode cX7_isOpen 82 = .ok (.iconst 3, 1) := by decide +kernel
theorem dX7_isOpen_83 : decode cX7_isOpen 83 = .ok (.idiv, 1) := by decide +kernel
theorem dX7_isOpen_84 : decode cX7_isOpen 84 = .ok (.iload 5, 2) := by decide +kernel
theorem dX7_isOpen_86 : decode cX7_isOpen 86 = .ok (.iconst 3, 1) := by decide +kernel
theorem dX7_isOpen_87 : decode cX7_isOpen 87 = .ok (.irem, 1) := by decide +kernel
theorem dX7_isOpen_88 : decode cX7_isOpen 88 = .ok (.invokestatic 95, 3) := by decide +kernel
theorem dX7_isOpen_91 : decode cX7_isOpen 91 = .ok (.istore 6, 2) := by decide +kernel
theorem dX7_isOpen_93 : decode cX7_isOpen 93 = .ok (.aload_n 0, 1) := by decide +kernel
theorem dX7_isOpen_94 : decode cX7_isOpen 94 = .ok (.getfield 29, 3) := by decide +kernel
theorem dX7_isOpen_97 : decode cX7_isOpen 97 = .ok (.iload 5, 2) := by decide +kernel
theorem dX7_isOpen_99 : decode cX7_isOpen 99 = .ok (.iconst 3, 1) := by decide +kernel
theorem dX7_isOpen_100 : decode cX7_isOpen 100 = .ok (.idiv, 1) := by decide +kernel
theorem dX7_isOpen_101 : decode cX7_isOpen 101 = .ok (.iaload, 1) := by decide +kernel
theorem dX7_isOpen_102 : decode cX7_isOpen 102 = .ok (.iconst 1, 1) := by decide +kernel
theorem dX7_isOpen_103 : decode cX7_isOpen 103 = .ok (.if_icmp .ne 64, 3) := by decide +kernel
theorem dX7_isOpen_106 : decode cX7_isOpen 106 = .ok (.iload 6, 2) := by decide +kernel
theorem dX7_isOpen_108 : decode cX7_isOpen 108 = .ok (.iconst (-1), 1) := by decide +kernel
theorem dX7_isOpen_109 : decode cX7_isOpen 109 = .ok (.if_icmp .eq 58, 3) := by decide +kernel
theorem dX7_isOpen_112 : decode cX7_isOpen 112 = .ok (.aload_n 1, 1) := by decide +kernel
theorem dX7_isOpen_113 : decode cX7_isOpen 113 = .ok (.iload 6, 2) := by decide +kernel
theorem dX7_isOpen_115 : decode cX7_isOpen 115 = .ok (.invokestatic 51, 3) := by decide +kernel
theorem dX7_isOpen_118 : decode cX7_isOpen 118 = .ok (.ifCond .ne 49, 3) := by decide +kernel
theorem dX7_isOpen_121 : decode cX7_isOpen 121 = .ok (.aload_n 1, 1) := by decide +kernel
theorem dX7_isOpen_122 : decode cX7_isOpen 122 = .ok (.iload_n 2, 1) := by decide +kernel
theorem dX7_isOpen_123 : decode cX7_isOpen 123 = .ok (.iload 6, 2) := by decide +kernel
theorem dX7_isOpen_125 : decode cX7_isOpen 125 = .ok (.invokestatic 99, 3) := by decide +kernel
theorem dX7_isOpen_128 : decode cX7_isOpen 128 = .ok (.ifCond .ne 39, 3) := by decide +kernel
theorem dX7_isOpen_131 : decode cX7_isOpen 131 = .ok (.aload_n 0, 1) := by decide +kernel
theorem dX7_isOpen_132 : decode cX7_isOpen 132 = .ok (.getfield 29, 3) := by decide +kernel
theorem dX7_isOpen_135 : decode cX7_isOpen 135 = .ok (.iload 6, 2) := by decide +kernel
theorem dX7_isOpen_137 : decode cX7_isOpen 137 = .ok (.iconst 1, 1) := by decide +kernel
theorem dX7_isOpen_138 : decode cX7_isOpen 138 = .ok (.iastore, 1) := by decide +kernel
theorem dX7_isOpen_139 : decode cX7_isOpen 139 = .ok (.iload 6, 2) := by decide +kernel
theorem dX7_isOpen_141 : decode cX7_isOpen 141 = .ok (.bipush 8, 2) := by decide +kernel
theorem dX7_isOpen_143 : decode cX7_isOpen 143 = .ok (.idiv, 1) := by decide +kernel
theorem dX7_isOpen_144 : decode cX7_isOpen 144 = .ok (.bipush 7, 2) := by decide +kernel
theorem dX7_isOpen_146 : decode cX7_isOpen 146 = .ok (.if_icmp .eq 15, 3) := by decide +kernel
theorem dX7_isOpen_149 : decode cX7_isOpen 149 = .ok (.aload_n 1, 1) := by decide +kernel
theorem dX7_isOpen_150 : decode cX7_isOpen 150 = .ok (.iconst 1, 1) := by decide +kernel
theorem dX7_isOpen_151 : decode cX7_isOpen 151 = .ok (.iload_n 2, 1) := by decide +kernel
theorem dX7_isOpen_152 : decode cX7_isOpen 152 = .ok (.isub, 1) := by decide +kernel
theorem dX7_isOpen_153 : decode cX7_isOpen 153 = .ok (.iload 6, 2) := by decide +kernel
theorem dX7_isOpen_155 : decode cX7_isOpen 155 = .ok (.invokestatic 99, 3) := by decide +kernel
theorem dX7_isOpen_158 : decode cX7_isOpen 158 = .ok (.ifCond .eq 7, 3) := by decide +kernel
theorem dX7_isOpen_161 : decode cX7_isOpen 161 = .ok (.iconst 1, 1) := by decide +kernel
theorem dX7_isOpen_162 : decode cX7_isOpen 162 = .ok (.goto 4, 3) := by decide +kernel
theorem dX7_isOpen_165 : decode cX7_isOpen 165 = .ok (.iconst 0, 1) := by decide +kernel
theorem dX7_isOpen_166 : decode cX7_isOpen 166 = .ok (.istore_n 3, 1) := by decide +kernel
theorem dX7_isOpen_167 : decode cX7_isOpen 167 = .ok (.iinc 5 1, 3) := by decide +kernel
theorem dX7_isOpen_170 : decode cX7_isOpen 170 = .ok (.goto (-102), 3) := by decide +kernel
theorem dX7_isOpen_173 : decode cX7_isOpen 173 = .ok (.iinc 4 1, 3) := by decide +kernel
theorem dX7_isOpen_176 : decode cX7_isOpen 176 = .ok (.goto (-122), 3) := by decide +kernel
theorem dX7_isOpen_179 : decode cX7_isOpen 179 = .ok (.iload_n 3, 1) := by decide +kernel
theorem dX7_isOpen_180 : decode cX7_isOpen 180 = .ok (.ireturn, 1) := by decide +kernel
set_option maxRecDepth 20000 in
theorem ggX7_damReason_X7_isBare : GoodIn wsX7_damReason wsX7_isBare := goodIn_r _ [4, 5, 6, 3, 7] (by decide +kernel) (by decide +kernel)
set_option maxRecDepth 20000 in
theorem gX7_damReason_X7_isBare : GoodIn wsX7_damReason (va_wsS RX7 113 yX7_isBare wsX7_isBare) := goodIn_app (goodIn_of _ (by decide +kernel)) ggX7_damReason_X7_isBare
set_option maxRecDepth 20000 in
theorem ggX7_damReason_X7_of : GoodIn wsX7_damReason wsX7_of := goodIn_r _ [10] (by decide +kernel) (by decide +kernel)
set_option maxRecDepth 20000 in
theorem gX7_damReason_X7_of : GoodIn wsX7_damReason (va_wsS RX7 47 yX7_of wsX7_of) := goodIn_app (goodIn_of _ (by decide +kernel)) ggX7_damReason_X7_of
set_option maxRecDepth 20000 in
theorem ggX7_damReason_X7_isOpen : GoodIn wsX7_damReason wsX7_isOpen := goodIn_r _ [14, 15, 16, 17, 3, 18, 8, 9, 10, 19, 20, 21, 22, 23, 24, 25, 26, 27, 28, 5, 6, 7, 29, 30, 31, 32, 33, 34, 35, 36, 37, 38, 39, 40, 41, 42, 43, 44] (by decide +kernel) (by decide +kernel)
set_option maxRecDepth 20000 in
theorem gX7_damReason_X7_isOpen : GoodIn wsX7_damReason (wsV RX7 116 RX7 yX7_isOpen wsX7_isOpen) := goodIn_app (goodIn_of _ (by decide +kernel)) ggX7_damReason_X7_isOpen
theorem dX7_damReason_0 : decode cX7_damReason 0 = .ok (.aload_n 1, 1) := by decide +kernel
theorem dX7_damReason_1 : decode cX7_damReason 1 = .ok (.iload_n 2, 1) := by decide +kernel
theorem dX7_damReason_2 : decode cX7_damReason 2 = .ok (.invokestatic 113, 3) := by decide +kernel
theorem dX7_damReason_5 : decode cX7_damReason 5 = .ok (.ifCond .ne 5, 3) := by decide +kernel
theorem dX7_damReason_8 : decode cX7_damReason 8 = .ok (.iconst 1, 1) := by decide +kernel
theorem dX7_damReason_9 : decode cX7_damReason 9 = .ok (.ireturn, 1) := by decide +kernel
theorem dX7_damReason_10 : decode cX7_damReason 10 = .ok (.aload_n 1, 1) := by decide +kernel
theorem dX7_damReason_11 : decode cX7_damReason 11 = .ok (.aload_n 1, 1) := by decide +kernel
theorem dX7_damReason_12 : decode cX7_damReason 12 = .ok (.iconst 2, 1) := by decide +kernel
theorem dX7_damReason_13 : decode cX7_damReason 13 = .ok (.iaload, 1) := by decide +kernel
theorem dX7_damReason_14 : decode cX7_damReason 14 = .ok (.iconst 1, 1) := by decide +kernel
theorem dX7_damReason_15 : decode cX7_damReason 15 = .ok (.invokestatic 47, 3) := by decide +kernel
theorem dX7_damReason_18 : decode cX7_damReason 18 = .ok (.iconst 3, 1) := by decide +kernel
theorem dX7_damReason_19 : decode cX7_damReason 19 = .ok (.if_icmp .ne 5, 3) := by decide +kernel
theorem dX7_damReason_22 : decode cX7_damReason 22 = .ok (.iconst 2, 1) := by decide +kernel
theorem dX7_damReason_23 : decode cX7_damReason 23 = .ok (.ireturn, 1) := by decide +kernel
theorem dX7_damReason_24 : decode cX7_damReason 24 = .ok (.aload_n 1, 1) := by decide +kernel
theorem dX7_damReason_25 : decode cX7_damReason 25 = .ok (.sipush 148, 3) := by decide +kernel
theorem dX7_damReason_28 : decode cX7_damReason 28 = .ok (.iload_n 2, 1) := by decide +kernel
theorem dX7_damReason_29 : decode cX7_damReason 29 = .ok (.iadd, 1) := by decide +kernel
theorem dX7_damReason_30 : decode cX7_damReason 30 = .ok (.iconst 0, 1) := by decide +kernel
theorem dX7_damReason_31 : decode cX7_damReason 31 = .ok (.iastore, 1) := by decide +kernel
theorem dX7_damReason_32 : decode cX7_damReason 32 = .ok (.aload_n 0, 1) := by decide +kernel
theorem dX7_damReason_33 : decode cX7_damReason 33 = .ok (.aload_n 1, 1) := by decide +kernel
theorem dX7_damReason_34 : decode cX7_damReason 34 = .ok (.iconst 0, 1) := by decide +kernel
theorem dX7_damReason_35 : decode cX7_damReason 35 = .ok (.invokevirtual 116, 3) := by decide +kernel
theorem dX7_damReason_38 : decode cX7_damReason 38 = .ok (.ifCond .eq 16, 3) := by decide +kernel
theorem dX7_damReason_41 : decode cX7_damReason 41 = .ok (.aload_n 0, 1) := by decide +kernel
theorem dX7_damReason_42 : decode cX7_damReason 42 = .ok (.aload_n 1, 1) := by decide +kernel
theorem dX7_damReason_43 : decode cX7_damReason 43 = .ok (.iconst 1, 1) := by decide +kernel
theorem dX7_damReason_44 : decode cX7_damReason 44 = .ok (.invokevirtual 116, 3) := by decide +kernel
theorem dX7_damReason_47 : decode cX7_damReason 47 = .ok (.ifCond .eq 7, 3) := by decide +kernel
theorem dX7_damReason_50 : decode cX7_damReason 50 = .ok (.iconst 1, 1) := by decide +kernel
theorem dX7_damReason_51 : decode cX7_damReason 51 = .ok (.goto 4, 3) := by decide +kernel
theorem dX7_damReason_54 : decode cX7_damReason 54 = .ok (.iconst 0, 1) := by decide +kernel
theorem dX7_damReason_55 : decode cX7_damReason 55 = .ok (.istore_n 3, 1) := by decide +kernel
theorem dX7_damReason_56 : decode cX7_damReason 56 = .ok (.aload_n 1, 1) := by decide +kernel
theorem dX7_damReason_57 : decode cX7_damReason 57 = .ok (.sipush 148, 3) := by decide +kernel
theorem dX7_damReason_60 : decode cX7_damReason 60 = .ok (.iload_n 2, 1) := by decide +kernel
theorem dX7_damReason_61 : decode cX7_damReason 61 = .ok (.iadd, 1) := by decide +kernel
theorem dX7_damReason_62 : decode cX7_damReason 62 = .ok (.iconst (-1), 1) := by decide +kernel
theorem dX7_damReason_63 : decode cX7_damReason 63 = .ok (.iastore, 1) := by decide +kernel
theorem dX7_damReason_64 : decode cX7_damReason 64 = .ok (.iload_n 3, 1) := by decide +kernel
theorem dX7_damReason_65 : decode cX7_damReason 65 = .ok (.ifCond .eq 7, 3) := by decide +kernel
theorem dX7_damReason_68 : decode cX7_damReason 68 = .ok (.iconst 0, 1) := by decide +kernel
theorem dX7_damReason_69 : decode cX7_damReason 69 = .ok (.goto 4, 3) := by decide +kernel
theorem dX7_damReason_72 : decode cX7_damReason 72 = .ok (.iconst 3, 1) := by decide +kernel
theorem dX7_damReason_73 : decode cX7_damReason 73 = .ok (.ireturn, 1) := by decide +kernel
set_option maxRecDepth 20000 in
theorem ggX7_damOn_X7_damReason : GoodIn wsX7_damOn wsX7_damReason := goodIn_r _ [5, 6, 7, 4, 8, 9, 10, 11, 12, 13, 14, 15, 16, 17, 18, 19, 20, 21, 22, 23, 24, 25, 26, 27, 28, 29, 30, 31, 32, 33, 34, 35, 45, 46, 47, 48, 49, 50, 51, 52, 53, 54, 55, 56, 57] (by decide +kernel) (by decide +kernel)
set_option maxRecDepth 20000 in
theorem gX7_damOn_X7_damReason : GoodIn wsX7_damOn (wsV RX7 119 RX7 yX7_damReason wsX7_damReason) := goodIn_app (goodIn_of _ (by decide +kernel)) ggX7_damOn_X7_damReason
set_option maxRecDepth 20000 in
theorem ggX7_damOn_X7_add : GoodIn wsX7_damOn wsX7_add := goodIn_r _ [38] (by decide +kernel) (by decide +kernel)
set_option maxRecDepth 20000 in
theorem gX7_damOn_X7_add : GoodIn wsX7_damOn (va_wsS RX7 69 yX7_add wsX7_add) := goodIn_app (goodIn_of _ (by decide +kernel)) ggX7_damOn_X7_add
set_option maxRecDepth 20000 in
theorem ggX7_damOn_X7_turnEnds : GoodIn wsX7_damOn wsX7_turnEnds := goodIn_r _ [41, 9, 10, 4, 11, 42, 43, 44] (by decide +kernel) (by decide +kernel)
set_option maxRecDepth 20000 in
theorem gX7_damOn_X7_turnEnds : GoodIn wsX7_damOn (va_wsS RX7 110 yX7_turnEnds wsX7_turnEnds) := goodIn_app (goodIn_of _ (by decide +kernel)) ggX7_damOn_X7_turnEnds
theorem dX7_damOn_0 : decode cX7_damOn 0 = .ok (.aload_n 0, 1) := by decide +kernel
theorem dX7_damOn_1 : decode cX7_damOn 1 = .ok (.aload_n 1, 1) := by decide +kernel
theorem dX7_damOn_2 : decode cX7_damOn 2 = .ok (.iload_n 2, 1) := by decide +kernel
theorem dX7_damOn_3 : decode cX7_damOn 3 = .ok (.invokevirtual 119, 3) := by decide +kernel
theorem dX7_damOn_6 : decode cX7_damOn 6 = .ok (.istore_n 3, 1) := by decide +kernel
theorem dX7_damOn_7 : decode cX7_damOn 7 = .ok (.iload_n 3, 1) := by decide +kernel
theorem dX7_damOn_8 : decode cX7_damOn 8 = .ok (.ifCond .le 13, 3) := by decide +kernel
theorem dX7_damOn_11 : decode cX7_damOn 11 = .ok (.aload_n 1, 1) := by decide +kernel
theorem dX7_damOn_12 : decode cX7_damOn 12 = .ok (.bipush 6, 2) := by decide +kernel
theorem dX7_damOn_14 : decode cX7_damOn 14 = .ok (.dup2, 1) := by decide +kernel
theorem dX7_damOn_15 : decode cX7_damOn 15 = .ok (.iaload, 1) := by decide +kernel
theorem dX7_damOn_16 : decode cX7_damOn 16 = .ok (.iconst 1, 1) := by decide +kernel
theorem dX7_damOn_17 : decode cX7_damOn 17 = .ok (.iadd, 1) := by decide +kernel
theorem dX7_damOn_18 : decode cX7_damOn 18 = .ok (.iastore, 1) := by decide +kernel
theorem dX7_damOn_19 : decode cX7_damOn 19 = .ok (.iload_n 3, 1) := by decide +kernel
theorem dX7_damOn_20 : decode cX7_damOn 20 = .ok (.ireturn, 1) := by decide +kernel
theorem dX7_damOn_21 : decode cX7_damOn 21 = .ok (.aload_n 1, 1) := by decide +kernel
theorem dX7_damOn_22 : decode cX7_damOn 22 = .ok (.sipush 148, 3) := by decide +kernel
theorem dX7_damOn_25 : decode cX7_damOn 25 = .ok (.iload_n 2, 1) := by decide +kernel
theorem dX7_damOn_26 : decode cX7_damOn 26 = .ok (.iadd, 1) := by decide +kernel
theorem dX7_damOn_27 : decode cX7_damOn 27 = .ok (.iconst 0, 1) := by decide +kernel
theorem dX7_damOn_28 : decode cX7_damOn 28 = .ok (.iastore, 1) := by decide +kernel
theorem dX7_damOn_29 : decode cX7_damOn 29 = .ok (.aload_n 1, 1) := by decide +kernel
theorem dX7_damOn_30 : decode cX7_damOn 30 = .ok (.aload_n 1, 1) := by decide +kernel
theorem dX7_damOn_31 : decode cX7_damOn 31 = .ok (.iconst 2, 1) := by decide +kernel
theorem dX7_damOn_32 : decode cX7_damOn 32 = .ok (.iaload, 1) := by decide +kernel
theorem dX7_damOn_33 : decode cX7_damOn 33 = .ok (.iconst 1, 1) := by decide +kernel
theorem dX7_damOn_34 : decode cX7_damOn 34 = .ok (.iconst 1, 1) := by decide +kernel
theorem dX7_damOn_35 : decode cX7_damOn 35 = .ok (.invokestatic 69, 3) := by decide +kernel
theorem dX7_damOn_38 : decode cX7_damOn 38 = .ok (.aload_n 1, 1) := by decide +kernel
theorem dX7_damOn_39 : decode cX7_damOn 39 = .ok (.invokestatic 110, 3) := by decide +kernel
theorem dX7_damOn_42 : decode cX7_damOn 42 = .ok (.iconst 0, 1) := by decide +kernel
theorem dX7_damOn_43 : decode cX7_damOn 43 = .ok (.ireturn, 1) := by decide +kernel
set_option maxRecDepth 20000 in
theorem ggX7_floodOn_X7_head : GoodIn wsX7_floodOn wsX7_head := goodIn_r _ [4, 5, 6, 3, 7] (by decide +kernel) (by decide +kernel)
set_option maxRecDepth 20000 in
theorem gX7_floodOn_X7_head : GoodIn wsX7_floodOn (va_wsS RX7 91 yX7_head wsX7_head) := goodIn_app (goodIn_of _ (by decide +kernel)) ggX7_floodOn_X7_head
set_option maxRecDepth 20000 in
theorem ggX7_floodOn_X7_stepFrom : GoodIn wsX7_floodOn wsX7_stepFrom := goodIn_r _ [10, 11, 12, 3, 13, 14, 15, 16, 17] (by decide +kernel) (by decide +kernel)
set_option maxRecDepth 20000 in
theorem gX7_floodOn_X7_stepFrom : GoodIn wsX7_floodOn (va_wsS RX7 95 yX7_stepFrom wsX7_stepFrom) := goodIn_app (goodIn_of _ (by decide +kernel)) ggX7_floodOn_X7_stepFrom
set_option maxRecDepth 20000 in
theorem ggX7_floodOn_X7_isDam : GoodIn wsX7_floodOn wsX7_isDam := goodIn_r _ [20] (by decide +kernel) (by decide +kernel)
set_option maxRecDepth 20000 in
theorem gX7_floodOn_X7_isDam : GoodIn wsX7_floodOn (va_wsS RX7 51 yX7_isDam wsX7_isDam) := goodIn_app (goodIn_of _ (by decide +kernel)) ggX7_floodOn_X7_isDam
set_option maxRecDepth 20000 in
theorem ggX7_floodOn_X7_pays : GoodIn wsX7_floodOn wsX7_pays := goodIn_r _ [23, 24, 25, 3, 26] (by decide +kernel) (by decide +kernel)
set_option maxRecDepth 20000 in
theorem gX7_floodOn_X7_pays : GoodIn wsX7_floodOn (va_wsS RX7 88 yX7_pays wsX7_pays) := goodIn_app (goodIn_of _ (by decide +kernel)) ggX7_floodOn_X7_pays
set_option maxRecDepth 20000 in
theorem ggX7_floodOn_X7_turnEnds : GoodIn wsX7_floodOn wsX7_turnEnds := goodIn_r _ [29, 18, 19, 3, 20, 30, 31, 32] (by decide +kernel) (by decide +kernel)
set_option maxRecDepth 20000 in
theorem gX7_floodOn_X7_turnEnds : GoodIn wsX7_floodOn (va_wsS RX7 110 yX7_turnEnds wsX7_turnEnds) := goodIn_app (goodIn_of _ (by decide +kernel)) ggX7_floodOn_X7_turnEnds
theorem dX7_floodOn_0 : decode cX7_floodOn 0 = .ok (.iconst 0, 1) := by decide +kernel
theorem dX7_floodOn_1 : decode cX7_floodOn 1 = .ok (.istore_n 1, 1) := by decide +kernel
theorem dX7_floodOn_2 : decode cX7_floodOn 2 = .ok (.iconst 0, 1) := by decide +kernel
theorem dX7_floodOn_3 : decode cX7_floodOn 3 = .ok (.istore_n 2, 1) := by decide +kernel
theorem dX7_floodOn_4 : decode cX7_floodOn 4 = .ok (.iload_n 2, 1) := by decide +kernel
theorem dX7_floodOn_5 : decode cX7_floodOn 5 = .ok (.iconst 3, 1) := by decide +kernel
theorem dX7_floodOn_6 : decode cX7_floodOn 6 = .ok (.if_icmp .ge 45, 3) := by decide +kernel
theorem dX7_floodOn_9 : decode cX7_floodOn 9 = .ok (.aload_n 0, 1) := by decide +kernel
theorem dX7_floodOn_10 : decode cX7_floodOn 10 = .ok (.aload_n 0, 1) := by decide +kernel
theorem dX7_floodOn_11 : decode cX7_floodOn 11 = .ok (.iconst 2, 1) := by decide +kernel
theorem dX7_floodOn_12 : decode cX7_floodOn 12 = .ok (.iaload, 1) := by decide +kernel
theorem dX7_floodOn_13 : decode cX7_floodOn 13 = .ok (.invokestatic 91, 3) := by decide +kernel
theorem dX7_floodOn_16 : decode cX7_floodOn 16 = .ok (.iload_n 2, 1) := by decide +kernel
theorem dX7_floodOn_17 : decode cX7_floodOn 17 = .ok (.invokestatic 95, 3) := by decide +kernel
theorem dX7_floodOn_20 : decode cX7_floodOn 20 = .ok (.istore_n 3, 1) := by decide +kernel
theorem dX7_floodOn_21 : decode cX7_floodOn 21 = .ok (.iload_n 3, 1) := by decide +kernel
theorem dX7_floodOn_22 : decode cX7_floodOn 22 = .ok (.iconst (-1), 1) := by decide +kernel
theorem dX7_floodOn_23 : decode cX7_floodOn 23 = .ok (.if_icmp .eq 22, 3) := by decide +kernel
theorem dX7_floodOn_26 : decode cX7_floodOn 26 = .ok (.aload_n 0, 1) := by decide +kernel
theorem dX7_floodOn_27 : decode cX7_floodOn 27 = .ok (.iload_n 3, 1) := by decide +kernel
theorem dX7_floodOn_28 : decode cX7_floodOn 28 = .ok (.invokestatic 51, 3) := by decide +kernel
theorem dX7_floodOn_31 : decode cX7_floodOn 31 = .ok (.ifCond .eq 14, 3) := by decide +kernel
theorem dX7_floodOn_34 : decode cX7_floodOn 34 = .ok (.aload_n 0, 1) := by decide +kernel
theorem dX7_floodOn_35 : decode cX7_floodOn 35 = .ok (.sipush 148, 3) := by decide +kernel
theorem dX7_floodOn_38 : decode cX7_floodOn 38 = .ok (.iload_n 3, 1) := by decide +kernel
theorem dX7_floodOn_39 : decode cX7_floodOn 39 = .ok (.iadd, 1) := by decide +kernel
theorem dX7_floodOn_40 : decode cX7_floodOn 40 = .ok (.iconst (-1), 1) := by decide +kernel
theorem dX7_floodOn_41 : decode cX7_floodOn 41 = .ok (.iastore, 1) := by decide +kernel
theorem dX7_floodOn_42 : decode cX7_floodOn 42 = .ok (.iinc 1 1, 3) := by decide +kernel
theorem dX7_floodOn_45 : decode cX7_floodOn 45 = .ok (.iinc 2 1, 3) := by decide +kernel
theorem dX7_floodOn_48 : decode cX7_floodOn 48 = .ok (.goto (-44), 3) := by decide +kernel
theorem dX7_floodOn_51 : decode cX7_floodOn 51 = .ok (.aload_n 0, 1) := by decide +kernel
theorem dX7_floodOn_52 : decode cX7_floodOn 52 = .ok (.aload_n 0, 1) := by decide +kernel
theorem dX7_floodOn_53 : decode cX7_floodOn 53 = .ok (.iconst 2, 1) := by decide +kernel
theorem dX7_floodOn_54 : decode cX7_floodOn 54 = .ok (.iaload, 1) := by decide +kernel
theorem dX7_floodOn_55 : decode cX7_floodOn 55 = .ok (.iconst 5, 1) := by decide +kernel
theorem dX7_floodOn_56 : decode cX7_floodOn 56 = .ok (.invokestatic 88, 3) := by decide +kernel
theorem dX7_floodOn_59 : decode cX7_floodOn 59 = .ok (.aload_n 0, 1) := by decide +kernel
theorem dX7_floodOn_60 : decode cX7_floodOn 60 = .ok (.bipush 7, 2) := by decide +kernel
theorem dX7_floodOn_62 : decode cX7_floodOn 62 = .ok (.dup2, 1) := by decide +kernel
theorem dX7_floodOn_63 : decode cX7_floodOn 63 = .ok (.iaload, 1) := by decide +kernel
theorem dX7_floodOn_64 : decode cX7_floodOn 64 = .ok (.iconst 1, 1) := by decide +kernel
theorem dX7_floodOn_65 : decode cX7_floodOn 65 = .ok (.iadd, 1) := by decide +kernel
theorem dX7_floodOn_66 : decode cX7_floodOn 66 = .ok (.iastore, 1) := by decide +kernel
theorem dX7_floodOn_67 : decode cX7_floodOn 67 = .ok (.aload_n 0, 1) := by decide +kernel
theorem dX7_floodOn_68 : decode cX7_floodOn 68 = .ok (.invokestatic 110, 3) := by decide +kernel
theorem dX7_floodOn_71 : decode cX7_floodOn 71 = .ok (.iload_n 1, 1) := by decide +kernel
theorem dX7_floodOn_72 : decode cX7_floodOn 72 = .ok (.ireturn, 1) := by decide +kernel
theorem dX7_change_0 : decode cX7_change 0 = .ok (.aload_n 0, 1) := by decide +kernel
theorem dX7_change_1 : decode cX7_change 1 = .ok (.bipush 8, 2) := by decide +kernel
theorem dX7_change_3 : decode cX7_change 3 = .ok (.iload_n 1, 1) := by decide +kernel
theorem dX7_change_4 : decode cX7_change 4 = .ok (.iadd, 1) := by decide +kernel
theorem dX7_change_5 : decode cX7_change 5 = .ok (.iaload, 1) := by decide +kernel
theorem dX7_change_6 : decode cX7_change 6 = .ok (.istore_n 3, 1) := by decide +kernel
theorem dX7_change_7 : decode cX7_change 7 = .ok (.aload_n 0, 1) := by decide +kernel
theorem dX7_change_8 : decode cX7_change 8 = .ok (.bipush 8, 2) := by decide +kernel
theorem dX7_change_10 : decode cX7_change 10 = .ok (.iload_n 1, 1) := by decide +kernel
theorem dX7_change_11 : decode cX7_change 11 = .ok (.iadd, 1) := by decide +kernel
theorem dX7_change_12 : decode cX7_change 12 = .ok (.iload_n 2, 1) := by decide +kernel
theorem dX7_change_13 : decode cX7_change 13 = .ok (.iastore, 1) := by decide +kernel
theorem dX7_change_14 : decode cX7_change 14 = .ok (.iload_n 3, 1) := by decide +kernel
theorem dX7_change_15 : decode cX7_change 15 = .ok (.ireturn, 1) := by decide +kernel
set_option maxRecDepth 20000 in
theorem ggX7_measure_X7_stepFrom : GoodIn wsX7_measure wsX7_stepFrom := goodIn_r _ [6, 7, 8, 5, 9, 10, 11, 12, 13] (by decide +kernel) (by decide +kernel)
set_option maxRecDepth 20000 in
theorem gX7_measure_X7_stepFrom : GoodIn wsX7_measure (va_wsS RX7 95 yX7_stepFrom wsX7_stepFrom) := goodIn_app (goodIn_of _ (by decide +kernel)) ggX7_measure_X7_stepFrom
set_option maxRecDepth 20000 in
theorem ggX7_measure_X7_isBare : GoodIn wsX7_measure wsX7_isBare := goodIn_r _ [16, 17, 18, 5, 19] (by decide +kernel) (by decide +kernel)
set_option maxRecDepth 20000 in
theorem gX7_measure_X7_isBare : GoodIn wsX7_measure (va_wsS RX7 113 yX7_isBare wsX7_isBare) := goodIn_app (goodIn_of _ (by decide +kernel)) ggX7_measure_X7_isBare
set_option maxRecDepth 20000 in
theorem ggX7_measure_X7_cost : GoodIn wsX7_measure wsX7_cost := goodIn_r _ [22] (by decide +kernel) (by decide +kernel)
set_option maxRecDepth 20000 in
theorem gX7_measure_X7_cost : GoodIn wsX7_measure (va_wsS RX7 85 yX7_cost wsX7_cost) := goodIn_app (goodIn_of _ (by decide +kernel)) ggX7_measure_X7_cost
theorem dX7_measure_0 : decode cX7_measure 0 = .ok (.iconst 0, 1) := by decide +kernel
theorem dX7_measure_1 : decode cX7_measure 1 = .ok (.istore 4, 2) := by decide +kernel
theorem dX7_measure_3 : decode cX7_measure 3 = .ok (.iload 4, 2) := by decide +kernel
theorem dX7_measure_5 : decode cX7_measure 5 = .ok (.bipush 64, 2) := by decide +kernel
theorem dX7_measure_7 : decode cX7_measure 7 = .ok (.if_icmp .ge 28, 3) := by decide +kernel
theorem dX7_measure_10 : decode cX7_measure 10 = .ok (.aload_n 0, 1) := by decide +kernel
theorem dX7_measure_11 : decode cX7_measure 11 = .ok (.getfield 29, 3) := by decide +kernel
theorem dX7_measure_14 : decode cX7_measure 14 = .ok (.iload 4, 2) := by decide +kernel
theorem dX7_measure_16 : decode cX7_measure 16 = .ok (.iload 4, 2) := by decide +kernel
theorem dX7_measure_18 : decode cX7_measure 18 = .ok (.iload_n 3, 1) := by decide +kernel
theorem dX7_measure_19 : decode cX7_measure 19 = .ok (.if_icmp .ne 7, 3) := by decide +kernel
theorem dX7_measure_22 : decode cX7_measure 22 = .ok (.iconst 0, 1) := by decide +kernel
theorem dX7_measure_23 : decode cX7_measure 23 = .ok (.goto 5, 3) := by decide +kernel
theorem dX7_measure_26 : decode cX7_measure 26 = .ok (.ldc 122, 2) := by decide +kernel
theorem dX7_measure_28 : decode cX7_measure 28 = .ok (.iastore, 1) := by decide +kernel
theorem dX7_measure_29 : decode cX7_measure 29 = .ok (.iinc 4 1, 3) := by decide +kernel
theorem dX7_measure_32 : decode cX7_measure 32 = .ok (.goto (-29), 3) := by decide +kernel
theorem dX7_measure_35 : decode cX7_measure 35 = .ok (.iconst 1, 1) := by decide +kernel
theorem dX7_measure_36 : decode cX7_measure 36 = .ok (.istore 4, 2) := by decide +kernel
theorem dX7_measure_38 : decode cX7_measure 38 = .ok (.iload 4, 2) := by decide +kernel
theorem dX7_measure_40 : decode cX7_measure 40 = .ok (.ifCond .eq 122, 3) := by decide +kernel
theorem dX7_measure_43 : decode cX7_measure 43 = .ok (.iconst 0, 1) := by decide +kernel
theorem dX7_measure_44 : decode cX7_measure 44 = .ok (.istore 4, 2) := by decide +kernel
theorem dX7_measure_46 : decode cX7_measure 46 = .ok (.iconst 0, 1) := by decide +kernel
theorem dX7_measure_47 : decode cX7_measure 47 = .ok (.istore 5, 2) := by decide +kernel
theorem dX7_measure_49 : decode cX7_measure 49 = .ok (.iload 5, 2) := by decide +kernel
theorem dX7_measure_51 : decode cX7_measure 51 = .ok (.sipush 192, 3) := by decide +kernel
theorem dX7_measure_54 : decode cX7_measure 54 = .ok (.if_icmp .ge 105, 3) := by decide +kernel
theorem dX7_measure_57 : decode cX7_measure 57 = .ok (.iload 5, 2) := by decide +kernel
theorem dX7_measure_59 : decode cX7_measure 59 = .ok (.iconst 3, 1) := by decide +kernel
theorem dX7_measure_60 : decode cX7_measure 60 = .ok (.idiv, 1) := by decide +kernel
theorem dX7_measure_61 : decode cX7_measure 61 = .ok (.iload 5, 2) := by decide +kernel
theorem dX7_measure_63 : decode cX7_measure 63 = .ok (.iconst 3, 1) := by decide +kernel
theorem dX7_measure_64 : decode cX7_measure 64 = .ok (.irem, 1) := by decide +kernel
theorem dX7_measure_65 : decode cX7_measure 65 = .ok (.invokestatic 95, 3) := by decide +kernel
theorem dX7_measure_68 : decode cX7_measure 68 = .ok (.istore 6, 2) := by decide +kernel
theorem dX7_measure_70 : decode cX7_measure 70 = .ok (.aload_n 0, 1) := by decide +kernel
theorem dX7_measure_71 : decode cX7_measure 71 = .ok (.getfield 29, 3) := by decide +kernel
theorem dX7_measure_74 : decode cX7_measure 74 = .ok (.iload 5, 2) := by decide +kernel
theorem dX7_measure_76 : decode cX7_measure 76 = .ok (.iconst 3, 1) := by decide +kernel
theorem dX7_measure_77 : decode cX7_measure 77 = .ok (.idiv, 1) := by decide +kernel
theorem dX7_measure_78 : decode cX7_measure 78 = .ok (.iaload, 1) := by decide +kernel
theorem dX7_measure_79 : decode cX7_measure 79 = .ok (.ldc 122, 2) := by decide +kernel
theorem dX7_measure_81 : decode cX7_measure 81 = .ok (.if_icmp .ge 72, 3) := by decide +kernel
theorem dX7_measure_84 : decode cX7_measure 84 = .ok (.iload 6, 2) := by decide +kernel
theorem dX7_measure_86 : decode cX7_measure 86 = .ok (.iconst (-1), 1) := by decide +kernel
theorem dX7_measure_87 : decode cX7_measure 87 = .ok (.if_icmp .eq 66, 3) := by decide +kernel
theorem dX7_measure_90 : decode cX7_measure 90 = .ok (.aload_n 1, 1) := by decide +kernel
theorem dX7_measure_91 : decode cX7_measure 91 = .ok (.iload 6, 2) := by decide +kernel
theorem dX7_measure_93 : decode cX7_measure 93 = .ok (.invokestatic 113, 3) := by decide +kernel
theorem dX7_measure_96 : decode cX7_measure 96 = .ok (.ifCond .eq 57, 3) := by decide +kernel
theorem dX7_measure_99 : decode cX7_measure 99 = .ok (.aload_n 0, 1) := by decide +kernel
theorem dX7_measure_100 : decode cX7_measure 100 = .ok (.getfield 29, 3) := by decide +kernel
theorem dX7_measure_103 : decode cX7_measure 103 = .ok (.iload 5, 2) := by decide +kernel
theorem dX7_measure_105 : decode cX7_measure 105 = .ok (.iconst 3, 1) := by decide +kernel
theorem dX7_measure_106 : decode cX7_measure 106 = .ok (.idiv, 1) := by decide +kernel
theorem dX7_measure_107 : decode cX7_measure 107 = .ok (.iaload, 1) := by decide +kernel
theorem dX7_measure_108 : decode cX7_measure 108 = .ok (.aload_n 1, 1) := by decide +kernel
theorem dX7_measure_109 : decode cX7_measure 109 = .ok (.iload_n 2, 1) := by decide +kernel
theorem dX7_measure_110 : decode cX7_measure 110 = .ok (.iload 6, 2) := by decide +kernel
theorem dX7_measure_112 : decode cX7_measure 112 = .ok (.invokestatic 85, 3) := by decide +kernel
theorem dX7_measure_115 : decode cX7_measure 115 = .ok (.iadd, 1) := by decide +kernel
theorem dX7_measure_116 : decode cX7_measure 116 = .ok (.aload_n 0, 1) := by decide +kernel
theorem dX7_measure_117 : decode cX7_measure 117 = .ok (.getfield 29, 3) := by decide +kernel
theorem dX7_measure_120 : decode cX7_measure 120 = .ok (.iload 6, 2) := by decide +kernel
theorem dX7_measure_122 : decode cX7_measure 122 = .ok (.iaload, 1) := by decide +kernel
theorem dX7_measure_123 : decode cX7_measure 123 = .ok (.if_icmp .ge 30, 3) := by decide +kernel
theorem dX7_measure_126 : decode cX7_measure 126 = .ok (.aload_n 0, 1) := by decide +kernel
theorem dX7_measure_127 : decode cX7_measure 127 = .ok (.getfield 29, 3) := by decide +kernel
theorem dX7_measure_130 : decode cX7_measure 130 = .ok (.iload 6, 2) := by decide +kernel
theorem dX7_measure_132 : decode cX7_measure 132 = .ok (.aload_n 0, 1) := by decide +kernel
theorem dX7_measure_133 : decode cX7_measure 133 = .ok (.getfield 29, 3) := by decide +kernel
theorem dX7_measure_136 : decode cX7_measure 136 = .ok (.iload 5, 2) := by decide +kernel
theorem dX7_measure_138 : decode cX7_measure 138 = .ok (.iconst 3, 1) := by decide +kernel
theorem dX7_measure_139 : decode cX7_measure 139 = .ok (.idiv, 1) := by decide +kernel
theorem dX7_measure_140 : decode cX7_measure 140 = .ok (.iaload, 1) := by decide +kernel
theorem dX7_measure_141 : decode cX7_measure 141 = .ok (.aload_n 1, 1) := by decide +kernel
theorem dX7_measure_142 : decode cX7_measure 142 = .ok (.iload_n 2, 1) := by decide +kernel
theorem dX7_measure_143 : decode cX7_measure 143 = .ok (.iload 6, 2) := by decide +kernel
theorem dX7_measure_145 : decode cX7_measure 145 = .ok (.invokestatic 85, 3) := by decide +kernel
theorem dX7_measure_148 : decode cX7_measure 148 = .ok (.iadd, 1) := by decide +kernel
theorem dX7_measure_149 : decode cX7_measure 149 = .ok (.iastore, 1) := by decide +kernel
theorem dX7_measure_150 : decode cX7_measure 150 = .ok (.iconst 1, 1) := by decide +kernel
theorem dX7_measure_151 : decode cX7_measure 151 = .ok (.istore 4, 2) := by decide +kernel
theorem dX7_measure_153 : decode cX7_measure 153 = .ok (.iinc 5 1, 3) := by decide +kernel
theorem dX7_measure_156 : decode cX7_measure 156 = .ok (.goto (-107), 3) := by decide +kernel
theorem dX7_measure_159 : decode cX7_measure 159 = .ok (.goto (-121), 3) := by decide +kernel
theorem dX7_measure_162 : decode cX7_measure 162 = .ok (.return_, 1) := by decide +kernel
set_option maxRecDepth 20000 in
theorem ggX7_cheapestFrom_X7_measure : GoodIn wsX7_cheapestFrom wsX7_measure := goodIn_r _ [7, 2, 1, 8, 9, 6, 10, 11, 12, 13, 14, 15, 16, 17, 18, 19, 20, 21, 22, 23, 24, 25, 26, 27, 28, 29, 30, 31, 32, 33, 34, 35, 36, 37, 38, 39] (by decide +kernel) (by decide +kernel)
set_option maxRecDepth 20000 in
theorem gX7_cheapestFrom_X7_measure : GoodIn wsX7_cheapestFrom (wsV RX7 123 RX7 yX7_measure wsX7_measure) := goodIn_app (goodIn_of _ (by decide +kernel)) ggX7_cheapestFrom_X7_measure
theorem dX7_cheapestFrom_0 : decode cX7_cheapestFrom 0 = .ok (.aload_n 0, 1) := by decide +kernel
theorem dX7_cheapestFrom_1 : decode cX7_cheapestFrom 1 = .ok (.aload_n 1, 1) := by decide +kernel
theorem dX7_cheapestFrom_2 : decode cX7_cheapestFrom 2 = .ok (.iload_n 2, 1) := by decide +kernel
theorem dX7_cheapestFrom_3 : decode cX7_cheapestFrom 3 = .ok (.iload_n 3, 1) := by decide +kernel
theorem dX7_cheapestFrom_4 : decode cX7_cheapestFrom 4 = .ok (.invokevirtual 123, 3) := by decide +kernel
theorem dX7_cheapestFrom_7 : decode cX7_cheapestFrom 7 = .ok (.ldc 122, 2) := by decide +kernel
theorem dX7_cheapestFrom_9 : decode cX7_cheapestFrom 9 = .ok (.istore 4, 2) := by decide +kernel
theorem dX7_cheapestFrom_11 : decode cX7_cheapestFrom 11 = .ok (.bipush 56, 2) := by decide +kernel
theorem dX7_cheapestFrom_13 : decode cX7_cheapestFrom 13 = .ok (.istore 5, 2) := by decide +kernel
theorem dX7_cheapestFrom_15 : decode cX7_cheapestFrom 15 = .ok (.iload 5, 2) := by decide +kernel
theorem dX7_cheapestFrom_17 : decode cX7_cheapestFrom 17 = .ok (.bipush 64, 2) := by decide +kernel
theorem dX7_cheapestFrom_19 : decode cX7_cheapestFrom 19 = .ok (.if_icmp .ge 35, 3) := by decide +kernel
theorem dX7_cheapestFrom_22 : decode cX7_cheapestFrom 22 = .ok (.aload_n 0, 1) := by decide +kernel
theorem dX7_cheapestFrom_23 : decode cX7_cheapestFrom 23 = .ok (.getfield 29, 3) := by decide +kernel
theorem dX7_cheapestFrom_26 : decode cX7_cheapestFrom 26 = .ok (.iload 5, 2) := by decide +kernel
theorem dX7_cheapestFrom_28 : decode cX7_cheapestFrom 28 = .ok (.iaload, 1) := by decide +kernel
theorem dX7_cheapestFrom_29 : decode cX7_cheapestFrom 29 = .ok (.iload 4, 2) := by decide +kernel
theorem dX7_cheapestFrom_31 : decode cX7_cheapestFrom 31 = .ok (.if_icmp .ge 13, 3) := by decide +kernel
theorem dX7_cheapestFrom_34 : decode cX7_cheapestFrom 34 = .ok (.aload_n 0, 1) := by decide +kernel
theorem dX7_cheapestFrom_35 : decode cX7_cheapestFrom 35 = .ok (.getfield 29, 3) := by decide +kernel
theorem dX7_cheapestFrom_38 : decode cX7_cheapestFrom 38 = .ok (.iload 5, 2) := by decide +kernel
theorem dX7_cheapestFrom_40 : decode cX7_cheapestFrom 40 = .ok (.iaload, 1) := by decide +kernel
theorem dX7_cheapestFrom_41 : decode cX7_cheapestFrom 41 = .ok (.goto 5, 3) := by decide +kernel
theorem dX7_cheapestFrom_44 : decode cX7_cheapestFrom 44 = .ok (.iload 4, 2) := by decide +kernel
theorem dX7_cheapestFrom_46 : decode cX7_cheapestFrom 46 = .ok (.istore 4, 2) := by decide +kernel
theorem dX7_cheapestFrom_48 : decode cX7_cheapestFrom 48 = .ok (.iinc 5 1, 3) := by decide +kernel
theorem dX7_cheapestFrom_51 : decode cX7_cheapestFrom 51 = .ok (.goto (-36), 3) := by decide +kernel
theorem dX7_cheapestFrom_54 : decode cX7_cheapestFrom 54 = .ok (.iload 4, 2) := by decide +kernel
theorem dX7_cheapestFrom_56 : decode cX7_cheapestFrom 56 = .ok (.ireturn, 1) := by decide +kernel
set_option maxRecDepth 20000 in
theorem ggX7_worth_X7_head : GoodIn wsX7_worth wsX7_head := goodIn_r _ [5, 6, 7, 4, 8] (by decide +kernel) (by decide +kernel)
set_option maxRecDepth 20000 in
theorem gX7_worth_X7_head : GoodIn wsX7_worth (va_wsS RX7 91 yX7_head wsX7_head) := goodIn_app (goodIn_of _ (by decide +kernel)) ggX7_worth_X7_head
set_option maxRecDepth 20000 in
theorem ggX7_worth_X7_stepFrom : GoodIn wsX7_worth wsX7_stepFrom := goodIn_r _ [11, 12, 13, 4, 14, 15, 16, 17, 18] (by decide +kernel) (by decide +kernel)
set_option maxRecDepth 20000 in
theorem gX7_worth_X7_stepFrom : GoodIn wsX7_worth (va_wsS RX7 95 yX7_stepFrom wsX7_stepFrom) := goodIn_app (goodIn_of _ (by decide +kernel)) ggX7_worth_X7_stepFrom
set_option maxRecDepth 20000 in
theorem ggX7_worth_X7_isRiver : GoodIn wsX7_worth wsX7_isRiver := goodIn_r _ [21] (by decide +kernel) (by decide +kernel)
set_option maxRecDepth 20000 in
theorem gX7_worth_X7_isRiver : GoodIn wsX7_worth (va_wsS RX7 99 yX7_isRiver wsX7_isRiver) := goodIn_app (goodIn_of _ (by decide +kernel)) ggX7_worth_X7_isRiver
set_option maxRecDepth 20000 in
theorem ggX7_worth_X7_cost : GoodIn wsX7_worth wsX7_cost := goodIn_r _ [24] (by decide +kernel) (by decide +kernel)
set_option maxRecDepth 20000 in
theorem gX7_worth_X7_cost : GoodIn wsX7_worth (va_wsS RX7 85 yX7_cost wsX7_cost) := goodIn_app (goodIn_of _ (by decide +kernel)) ggX7_worth_X7_cost
set_option maxRecDepth 20000 in
theorem ggX7_worth_X7_cheapestFrom : GoodIn wsX7_worth wsX7_cheapestFrom := goodIn_r _ [28, 1, 29, 30, 31, 32, 4, 33, 9, 10, 11, 12, 13, 14, 15, 16, 17, 18, 34, 35, 36, 37, 38, 39, 22, 23, 24, 40, 41, 42, 43, 44, 45, 46, 47, 48, 49, 50, 51, 52] (by decide +kernel) (by decide +kernel)
set_option maxRecDepth 20000 in
theorem gX7_worth_X7_cheapestFrom : GoodIn wsX7_worth (wsV RX7 126 RX7 yX7_cheapestFrom wsX7_cheapestFrom) := goodIn_app (goodIn_of _ (by decide +kernel)) ggX7_worth_X7_cheapestFrom
theorem dX7_worth_0 : decode cX7_worth 0 = .ok (.aload_n 1, 1) := by decide +kernel
theorem dX7_worth_1 : decode cX7_worth 1 = .ok (.iconst 2, 1) := by decide +kernel
theorem dX7_worth_2 : decode cX7_worth 2 = .ok (.iaload, 1) := by decide +kernel
theorem dX7_worth_3 : decode cX7_worth 3 = .ok (.istore_n 3, 1) := by decide +kernel
theorem dX7_worth_4 : decode cX7_worth 4 = .ok (.aload_n 1, 1) := by decide +kernel
theorem dX7_worth_5 : decode cX7_worth 5 = .ok (.iload_n 3, 1) := by decide +kernel
theorem dX7_worth_6 : decode cX7_worth 6 = .ok (.invokestatic 91, 3) := by decide +kernel
theorem dX7_worth_9 : decode cX7_worth 9 = .ok (.iload_n 2, 1) := by decide +kernel
theorem dX7_worth_10 : decode cX7_worth 10 = .ok (.invokestatic 95, 3) := by decide +kernel
theorem dX7_worth_13 : decode cX7_worth 13 = .ok (.istore 4, 2) := by decide +kernel
theorem dX7_worth_15 : decode cX7_worth 15 = .ok (.aload_n 1, 1) := by decide +kernel
theorem dX7_worth_16 : decode cX7_worth 16 = .ok (.iconst 1, 1) := by decide +kernel
theorem dX7_worth_17 : decode cX7_worth 17 = .ok (.iload_n 3, 1) := by decide +kernel
theorem dX7_worth_18 : decode cX7_worth 18 = .ok (.isub, 1) := by decide +kernel
theorem dX7_worth_19 : decode cX7_worth 19 = .ok (.iload 4, 2) := by decide +kernel
theorem dX7_worth_21 : decode cX7_worth 21 = .ok (.invokestatic 99, 3) := by decide +kernel
theorem dX7_worth_24 : decode cX7_worth 24 = .ok (.ifCond .eq 16, 3) := by decide +kernel
theorem dX7_worth_27 : decode cX7_worth 27 = .ok (.aload_n 1, 1) := by decide +kernel
theorem dX7_worth_28 : decode cX7_worth 28 = .ok (.bipush 9, 2) := by decide +kernel
theorem dX7_worth_30 : decode cX7_worth 30 = .ok (.iaload, 1) := by decide +kernel
theorem dX7_worth_31 : decode cX7_worth 31 = .ok (.aload_n 1, 1) := by decide +kernel
theorem dX7_worth_32 : decode cX7_worth 32 = .ok (.iload_n 3, 1) := by decide +kernel
theorem dX7_worth_33 : decode cX7_worth 33 = .ok (.iload 4, 2) := by decide +kernel
theorem dX7_worth_35 : decode cX7_worth 35 = .ok (.invokestatic 85, 3) := by decide +kernel
theorem dX7_worth_38 : decode cX7_worth 38 = .ok (.imul, 1) := by decide +kernel
theorem dX7_worth_39 : decode cX7_worth 39 = .ok (.ireturn, 1) := by decide +kernel
theorem dX7_worth_40 : decode cX7_worth 40 = .ok (.aload_n 0, 1) := by decide +kernel
theorem dX7_worth_41 : decode cX7_worth 41 = .ok (.aload_n 1, 1) := by decide +kernel
theorem dX7_worth_42 : decode cX7_worth 42 = .ok (.iload_n 3, 1) := by decide +kernel
theorem dX7_worth_43 : decode cX7_worth 43 = .ok (.iload 4, 2) := by decide +kernel
theorem dX7_worth_45 : decode cX7_worth 45 = .ok (.invokevirtual 126, 3) := by decide +kernel
theorem dX7_worth_48 : decode cX7_worth 48 = .ok (.istore 5, 2) := by decide +kernel
theorem dX7_worth_50 : decode cX7_worth 50 = .ok (.iload 5, 2) := by decide +kernel
theorem dX7_worth_52 : decode cX7_worth 52 = .ok (.ldc 122, 2) := by decide +kernel
theorem dX7_worth_54 : decode cX7_worth 54 = .ok (.if_icmp .ne 8, 3) := by decide +kernel
theorem dX7_worth_57 : decode cX7_worth 57 = .ok (.ldc 122, 2) := by decide +kernel
theorem dX7_worth_59 : decode cX7_worth 59 = .ok (.goto 13, 3) := by decide +kernel
theorem dX7_worth_62 : decode cX7_worth 62 = .ok (.aload_n 1, 1) := by decide +kernel
theorem dX7_worth_63 : decode cX7_worth 63 = .ok (.iload_n 3, 1) := by decide +kernel
theorem dX7_worth_64 : decode cX7_worth 64 = .ok (.iload 4, 2) := by decide +kernel
theorem dX7_worth_66 : decode cX7_worth 66 = .ok (.invokestatic 85, 3) := by decide +kernel
theorem dX7_worth_69 : decode cX7_worth 69 = .ok (.iload 5, 2) := by decide +kernel
theorem dX7_worth_71 : decode cX7_worth 71 = .ok (.iadd, 1) := by decide +kernel
theorem dX7_worth_72 : decode cX7_worth 72 = .ok (.ireturn, 1) := by decide +kernel
set_option maxRecDepth 20000 in
theorem ggX7_bestOf_X7_isUnderWay : GoodIn wsX7_bestOf wsX7_isUnderWay := goodIn_r _ [4] (by decide +kernel) (by decide +kernel)
set_option maxRecDepth 20000 in
theorem gX7_bestOf_X7_isUnderWay : GoodIn wsX7_bestOf (va_wsS RX7 81 yX7_isUnderWay wsX7_isUnderWay) := goodIn_app (goodIn_of _ (by decide +kernel)) ggX7_bestOf_X7_isUnderWay
set_option maxRecDepth 20000 in
theorem ggX7_bestOf_X7_reason : GoodIn wsX7_bestOf wsX7_reason := goodIn_r _ [7, 8, 9, 3, 10, 11, 12, 13, 14, 15, 16, 17, 18, 19, 20, 21, 22, 23, 24, 25, 26, 27, 28, 29] (by decide +kernel) (by decide +kernel)
set_option maxRecDepth 20000 in
theorem gX7_bestOf_X7_reason : GoodIn wsX7_bestOf (va_wsS RX7 103 yX7_reason wsX7_reason) := goodIn_app (goodIn_of _ (by decide +kernel)) ggX7_bestOf_X7_reason
set_option maxRecDepth 20000 in
theorem ggX7_bestOf_X7_worth : GoodIn wsX7_bestOf wsX7_worth := goodIn_r _ [33, 34, 8, 9, 3, 10, 11, 12, 13, 14, 15, 16, 17, 18, 19, 20, 21, 22, 23, 27, 28, 29, 35, 36, 37, 38, 39, 40, 41, 42, 43, 44, 45, 46, 47, 48, 49, 24, 25, 26, 50, 51, 52, 53, 54, 55, 56, 57, 58, 59, 60, 61, 62] (by decide +kernel) (by decide +kernel)
set_option maxRecDepth 20000 in
theorem gX7_bestOf_X7_worth : GoodIn wsX7_bestOf (wsV RX7 129 RX7 yX7_worth wsX7_worth) := goodIn_app (goodIn_of _ (by decide +kernel)) ggX7_bestOf_X7_worth
theorem dX7_bestOf_0 : decode cX7_bestOf 0 = .ok (.iconst (-1), 1) := by decide +kernel
theorem dX7_bestOf_1 : decode cX7_bestOf 1 = .ok (.istore_n 2, 1) := by decide +kernel
theorem dX7_bestOf_2 : decode cX7_bestOf 2 = .ok (.iconst 0, 1) := by decide +kernel
theorem dX7_bestOf_3 : decode cX7_bestOf 3 = .ok (.istore_n 3, 1) := by decide +kernel
theorem dX7_bestOf_4 : decode cX7_bestOf 4 = .ok (.iconst 0, 1) := by decide +kernel
theorem dX7_bestOf_5 : decode cX7_bestOf 5 = .ok (.istore 4, 2) := by decide +kernel
theorem dX7_bestOf_7 : decode cX7_bestOf 7 = .ok (.iload 4, 2) := by decide +kernel
theorem dX7_bestOf_9 : decode cX7_bestOf 9 = .ok (.iconst 3, 1) := by decide +kernel
theorem dX7_bestOf_10 : decode cX7_bestOf 10 = .ok (.if_icmp .ge 76, 3) := by decide +kernel
theorem dX7_bestOf_13 : decode cX7_bestOf 13 = .ok (.aload_n 1, 1) := by decide +kernel
theorem dX7_bestOf_14 : decode cX7_bestOf 14 = .ok (.invokestatic 81, 3) := by decide +kernel
theorem dX7_bestOf_17 : decode cX7_bestOf 17 = .ok (.ifCond .eq 69, 3) := by decide +kernel
theorem dX7_bestOf_20 : decode cX7_bestOf 20 = .ok (.aload_n 1, 1) := by decide +kernel
theorem dX7_bestOf_21 : decode cX7_bestOf 21 = .ok (.iload 4, 2) := by decide +kernel
theorem dX7_bestOf_23 : decode cX7_bestOf 23 = .ok (.invokestatic 103, 3) := by decide +kernel
theorem dX7_bestOf_26 : decode cX7_bestOf 26 = .ok (.ifCond .ne 54, 3) := by decide +kernel
theorem dX7_bestOf_29 : decode cX7_bestOf 29 = .ok (.aload_n 0, 1) := by decide +kernel
theorem dX7_bestOf_30 : decode cX7_bestOf 30 = .ok (.aload_n 1, 1) := by decide +kernel
theorem dX7_bestOf_31 : decode cX7_bestOf 31 = .ok (.iload 4, 2) := by decide +kernel
theorem dX7_bestOf_33 : decode cX7_bestOf 33 = .ok (.invokevirtual 129, 3) := by decide +kernel
theorem dX7_bestOf_36 : decode cX7_bestOf 36 = .ok (.istore 5, 2) := by decide +kernel
theorem dX7_bestOf_38 : decode cX7_bestOf 38 = .ok (.iload_n 2, 1) := by decide +kernel
theorem dX7_bestOf_39 : decode cX7_bestOf 39 = .ok (.iconst (-1), 1) := by decide +kernel
theorem dX7_bestOf_40 : decode cX7_bestOf 40 = .ok (.if_icmp .eq 9, 3) := by decide +kernel
theorem dX7_bestOf_43 : decode cX7_bestOf 43 = .ok (.iload 5, 2) := by decide +kernel
theorem dX7_bestOf_45 : decode cX7_bestOf 45 = .ok (.iload_n 3, 1) := by decide +kernel
theorem dX7_bestOf_46 : decode cX7_bestOf 46 = .ok (.if_icmp .ge 7, 3) := by decide +kernel
theorem dX7_bestOf_49 : decode cX7_bestOf 49 = .ok (.iconst 1, 1) := by decide +kernel
theorem dX7_bestOf_50 : decode cX7_bestOf 50 = .ok (.goto 4, 3) := by decide +kernel
theorem dX7_bestOf_53 : decode cX7_bestOf 53 = .ok (.iconst 0, 1) := by decide +kernel
theorem dX7_bestOf_54 : decode cX7_bestOf 54 = .ok (.istore 6, 2) := by decide +kernel
theorem dX7_bestOf_56 : decode cX7_bestOf 56 = .ok (.iload 6, 2) := by decide +kernel
theorem dX7_bestOf_58 : decode cX7_bestOf 58 = .ok (.ifCond .eq 8, 3) := by decide +kernel
theorem dX7_bestOf_61 : decode cX7_bestOf 61 = .ok (.iload 4, 2) := by decide +kernel
theorem dX7_bestOf_63 : decode cX7_bestOf 63 = .ok (.goto 4, 3) := by decide +kernel
theorem dX7_bestOf_66 : decode cX7_bestOf 66 = .ok (.iload_n 2, 1) := by decide +kernel
theorem dX7_bestOf_67 : decode cX7_bestOf 67 = .ok (.istore_n 2, 1) := by decide +kernel
theorem dX7_bestOf_68 : decode cX7_bestOf 68 = .ok (.iload 6, 2) := by decide +kernel
theorem dX7_bestOf_70 : decode cX7_bestOf 70 = .ok (.ifCond .eq 8, 3) := by decide +kernel
theorem dX7_bestOf_73 : decode cX7_bestOf 73 = .ok (.iload 5, 2) := by decide +kernel
theorem dX7_bestOf_75 : decode cX7_bestOf 75 = .ok (.goto 4, 3) := by decide +kernel
theorem dX7_bestOf_78 : decode cX7_bestOf 78 = .ok (.iload_n 3, 1) := by decide +kernel
theorem dX7_bestOf_79 : decode cX7_bestOf 79 = .ok (.istore_n 3, 1) := by decide +kernel
theorem dX7_bestOf_80 : decode cX7_bestOf 80 = .ok (.iinc 4 1, 3) := by decide +kernel
theorem dX7_bestOf_83 : decode cX7_bestOf 83 = .ok (.goto (-76), 3) := by decide +kernel
theorem dX7_bestOf_86 : decode cX7_bestOf 86 = .ok (.iload_n 2, 1) := by decide +kernel
theorem dX7_bestOf_87 : decode cX7_bestOf 87 = .ok (.ireturn, 1) := by decide +kernel
set_option maxRecDepth 20000 in
theorem ggX7_append_X7_in : GoodIn wsX7_append wsX7_in := goodIn_r _ [7] (by decide +kernel) (by decide +kernel)
set_option maxRecDepth 20000 in
theorem gX7_append_X7_in : GoodIn wsX7_append (va_wsS RX7 57 yX7_in wsX7_in) := goodIn_app (goodIn_of _ (by decide +kernel)) ggX7_append_X7_in
set_option maxRecDepth 20000 in
theorem ggX7_append_X7_refused : GoodIn wsX7_append wsX7_refused := goodIn_r _ [11, 12, 13, 14, 15, 16, 17, 18, 19, 20, 21, 22, 23, 24, 25] (by decide +kernel) (by decide +kernel)
set_option maxRecDepth 20000 in
theorem gX7_append_X7_refused : GoodIn wsX7_append (wsV RX7 137 RX7 yX7_refused wsX7_refused) := goodIn_app (goodIn_of _ (by decide +kernel)) ggX7_append_X7_refused
theorem dX7_append_0 : decode cX7_append 0 = .ok (.aload_n 0, 1) := by decide +kernel
theorem dX7_append_1 : decode cX7_append 1 = .ok (.iload_n 1, 1) := by decide +kernel
theorem dX7_append_2 : decode cX7_append 2 = .ok (.i2l, 1) := by decide +kernel
theorem dX7_append_3 : decode cX7_append 3 = .ok (.lconst 0, 1) := by decide +kernel
theorem dX7_append_4 : decode cX7_append 4 = .ok (.ldc2_w 132, 3) := by decide +kernel
theorem dX7_append_7 : decode cX7_append 7 = .ok (.invokestatic 57, 3) := by decide +kernel
theorem dX7_append_10 : decode cX7_append 10 = .ok (.ifCond .ne 7, 3) := by decide +kernel
theorem dX7_append_13 : decode cX7_append 13 = .ok (.iconst 1, 1) := by decide +kernel
theorem dX7_append_14 : decode cX7_append 14 = .ok (.goto 17, 3) := by decide +kernel
theorem dX7_append_17 : decode cX7_append 17 = .ok (.aload_n 0, 1) := by decide +kernel
theorem dX7_append_18 : decode cX7_append 18 = .ok (.getfield 134, 3) := by decide +kernel
theorem dX7_append_21 : decode cX7_append 21 = .ok (.bipush 120, 2) := by decide +kernel
theorem dX7_append_23 : decode cX7_append 23 = .ok (.if_icmp .ne 7, 3) := by decide +kernel
theorem dX7_append_26 : decode cX7_append 26 = .ok (.iconst 2, 1) := by decide +kernel
theorem dX7_append_27 : decode cX7_append 27 = .ok (.goto 4, 3) := by decide +kernel
theorem dX7_append_30 : decode cX7_append 30 = .ok (.iconst 0, 1) := by decide +kernel
theorem dX7_append_31 : decode cX7_append 31 = .ok (.invokevirtual 137, 3) := by decide +kernel
theorem dX7_append_34 : decode cX7_append 34 = .ok (.ifCond .eq 5, 3) := by decide +kernel
theorem dX7_append_37 : decode cX7_append 37 = .ok (.iconst 0, 1) := by decide +kernel
theorem dX7_append_38 : decode cX7_append 38 = .ok (.ireturn, 1) := by decide +kernel
theorem dX7_append_39 : decode cX7_append 39 = .ok (.aload_n 0, 1) := by decide +kernel
theorem dX7_append_40 : decode cX7_append 40 = .ok (.getfield 7, 3) := by decide +kernel
theorem dX7_append_43 : decode cX7_append 43 = .ok (.aload_n 0, 1) := by decide +kernel
theorem dX7_append_44 : decode cX7_append 44 = .ok (.getfield 134, 3) := by decide +kernel
theorem dX7_append_47 : decode cX7_append 47 = .ok (.iload_n 1, 1) := by decide +kernel
theorem dX7_append_48 : decode cX7_append 48 = .ok (.iastore, 1) := by decide +kernel
theorem dX7_append_49 : decode cX7_append 49 = .ok (.aload_n 0, 1) := by decide +kernel
theorem dX7_append_50 : decode cX7_append 50 = .ok (.dup, 1) := by decide +kernel
theorem dX7_append_51 : decode cX7_append 51 = .ok (.getfield 134, 3) := by decide +kernel
theorem dX7_append_54 : decode cX7_append 54 = .ok (.iconst 1, 1) := by decide +kernel
theorem dX7_append_55 : decode cX7_append 55 = .ok (.iadd, 1) := by decide +kernel
theorem dX7_append_56 : decode cX7_append 56 = .ok (.putfield 134, 3) := by decide +kernel
theorem dX7_append_59 : decode cX7_append 59 = .ok (.aload_n 0, 1) := by decide +kernel
theorem dX7_append_60 : decode cX7_append 60 = .ok (.getfield 134, 3) := by decide +kernel
theorem dX7_append_63 : decode cX7_append 63 = .ok (.ireturn, 1) := by decide +kernel
theorem dX7_clearText_0 : decode cX7_clearText 0 = .ok (.aload_n 0, 1) := by decide +kernel
theorem dX7_clearText_1 : decode cX7_clearText 1 = .ok (.iconst 0, 1) := by decide +kernel
theorem dX7_clearText_2 : decode cX7_clearText 2 = .ok (.putfield 39, 3) := by decide +kernel
theorem dX7_clearText_5 : decode cX7_clearText 5 = .ok (.aload_n 0, 1) := by decide +kernel
theorem dX7_clearText_6 : decode cX7_clearText 6 = .ok (.getfield 134, 3) := by decide +kernel
theorem dX7_clearText_9 : decode cX7_clearText 9 = .ok (.istore_n 1, 1) := by decide +kernel
theorem dX7_clearText_10 : decode cX7_clearText 10 = .ok (.aload_n 0, 1) := by decide +kernel
theorem dX7_clearText_11 : decode cX7_clearText 11 = .ok (.iconst 0, 1) := by decide +kernel
theorem dX7_clearText_12 : decode cX7_clearText 12 = .ok (.putfield 134, 3) := by decide +kernel
theorem dX7_clearText_15 : decode cX7_clearText 15 = .ok (.iload_n 1, 1) := by decide +kernel
theorem dX7_clearText_16 : decode cX7_clearText 16 = .ok (.ireturn, 1) := by decide +kernel
set_option maxRecDepth 20000 in
theorem ggX7_figures_X7_in : GoodIn wsX7_figures wsX7_in := goodIn_r _ [8] (by decide +kernel) (by decide +kernel)
set_option maxRecDepth 20000 in
theorem gX7_figures_X7_in : GoodIn wsX7_figures (va_wsS RX7 57 yX7_in wsX7_in) := goodIn_app (goodIn_of _ (by decide +kernel)) ggX7_figures_X7_in
theorem dX7_figures_0 : decode cX7_figures 0 = .ok (.iconst 0, 1) := by decide +kernel
theorem dX7_figures_1 : decode cX7_figures 1 = .ok (.istore 5, 2) := by decide +kernel
theorem dX7_figures_3 : decode cX7_figures 3 = .ok (.iload_n 2, 1) := by decide +kernel
theorem dX7_figures_4 : decode cX7_figures 4 = .ok (.iconst 2, 1) := by decide +kernel
theorem dX7_figures_5 : decode cX7_figures 5 = .ok (.if_icmp .ne 8, 3) := by decide +kernel
theorem dX7_figures_8 : decode cX7_figures 8 = .ok (.bipush 10, 2) := by decide +kernel
theorem dX7_figures_10 : decode cX7_figures 10 = .ok (.goto 4, 3) := by decide +kernel
theorem dX7_figures_13 : decode cX7_figures 13 = .ok (.iconst 1, 1) := by decide +kernel
theorem dX7_figures_14 : decode cX7_figures 14 = .ok (.istore 6, 2) := by decide +kernel
theorem dX7_figures_16 : decode cX7_figures 16 = .ok (.iload 6, 2) := by decide +kernel
theorem dX7_figures_18 : decode cX7_figures 18 = .ok (.ifCond .le 104, 3) := by decide +kernel
theorem dX7_figures_21 : decode cX7_figures 21 = .ok (.iload_n 1, 1) := by decide +kernel
theorem dX7_figures_22 : decode cX7_figures 22 = .ok (.iconst (-1), 1) := by decide +kernel
theorem dX7_figures_23 : decode cX7_figures 23 = .ok (.if_icmp .eq 99, 3) := by decide +kernel
theorem dX7_figures_26 : decode cX7_figures 26 = .ok (.aload_n 0, 1) := by decide +kernel
theorem dX7_figures_27 : decode cX7_figures 27 = .ok (.getfield 141, 3) := by decide +kernel
theorem dX7_figures_30 : decode cX7_figures 30 = .ok (.aload_n 0, 1) := by decide +kernel
theorem dX7_figures_31 : decode cX7_figures 31 = .ok (.getfield 134, 3) := by decide +kernel
theorem dX7_figures_34 : decode cX7_figures 34 = .ok (.if_icmp .ge 18, 3) := by decide +kernel
theorem dX7_figures_37 : decode cX7_figures 37 = .ok (.aload_n 0, 1) := by decide +kernel
theorem dX7_figures_38 : decode cX7_figures 38 = .ok (.getfield 7, 3) := by decide +kernel
theorem dX7_figures_41 : decode cX7_figures 41 = .ok (.aload_n 0, 1) := by decide +kernel
theorem dX7_figures_42 : decode cX7_figures 42 = .ok (.getfield 141, 3) := by decide +kernel
theorem dX7_figures_45 : decode cX7_figures 45 = .ok (.iaload, 1) := by decide +kernel
theorem dX7_figures_46 : decode cX7_figures 46 = .ok (.bipush 48, 2) := by decide +kernel
theorem dX7_figures_48 : decode cX7_figures 48 = .ok (.isub, 1) := by decide +kernel
theorem dX7_figures_49 : decode cX7_figures 49 = .ok (.goto 4, 3) := by decide +kernel
theorem dX7_figures_52 : decode cX7_figures 52 = .ok (.iconst (-1), 1) := by decide +kernel
theorem dX7_figures_53 : decode cX7_figures 53 = .ok (.istore 7, 2) := by decide +kernel
theorem dX7_figures_55 : decode cX7_figures 55 = .ok (.iload 5, 2) := by decide +kernel
theorem dX7_figures_57 : decode cX7_figures 57 = .ok (.iload 7, 2) := by decide +kernel
theorem dX7_figures_59 : decode cX7_figures 59 = .ok (.iload 6, 2) := by decide +kernel
theorem dX7_figures_61 : decode cX7_figures 61 = .ok (.imul, 1) := by decide +kernel
theorem dX7_figures_62 : decode cX7_figures 62 = .ok (.iadd, 1) := by decide +kernel
theorem dX7_figures_63 : decode cX7_figures 63 = .ok (.istore 8, 2) := by decide +kernel
theorem dX7_figures_65 : decode cX7_figures 65 = .ok (.iload 7, 2) := by decide +kernel
theorem dX7_figures_67 : decode cX7_figures 67 = .ok (.i2l, 1) := by decide +kernel
theorem dX7_figures_68 : decode cX7_figures 68 = .ok (.lconst 0, 1) := by decide +kernel
theorem dX7_figures_69 : decode cX7_figures 69 = .ok (.ldc2_w 63, 3) := by decide +kernel
theorem dX7_figures_72 : decode cX7_figures 72 = .ok (.invokestatic 57, 3) := by decide +kernel
theorem dX7_figures_75 : decode cX7_figures 75 = .ok (.ifCond .eq 21, 3) := by decide +kernel
theorem dX7_figures_78 : decode cX7_figures 78 = .ok (.iload 8, 2) := by decide +kernel
theorem dX7_figures_80 : decode cX7_figures 80 = .ok (.iload 4, 2) := by decide +kernel
theorem dX7_figures_82 : decode cX7_figures 82 = .ok (.if_icmp .gt 14, 3) := by decide +kernel
theorem dX7_figures_85 : decode cX7_figures 85 = .ok (.iload 8, 2) := by decide +kernel
theorem dX7_figures_87 : decode cX7_figures 87 = .ok (.iload 6, 2) := by decide +kernel
theorem dX7_figures_89 : decode cX7_figures 89 = .ok (.iadd, 1) := by decide +kernel
theorem dX7_figures_90 : decode cX7_figures 90 = .ok (.iconst 1, 1) := by decide +kernel
theorem dX7_figures_91 : decode cX7_figures 91 = .ok (.isub, 1) := by decide +kernel
theorem dX7_figures_92 : decode cX7_figures 92 = .ok (.iload_n 3, 1) := by decide +kernel
theorem dX7_figures_93 : decode cX7_figures 93 = .ok (.if_icmp .ge 5, 3) := by decide +kernel
theorem dX7_figures_96 : decode cX7_figures 96 = .ok (.iconst (-1), 1) := by decide +kernel
theorem dX7_figures_97 : decode cX7_figures 97 = .ok (.ireturn, 1) := by decide +kernel
theorem dX7_figures_98 : decode cX7_figures 98 = .ok (.iload 8, 2) := by decide +kernel
theorem dX7_figures_100 : decode cX7_figures 100 = .ok (.istore 5, 2) := by decide +kernel
theorem dX7_figures_102 : decode cX7_figures 102 = .ok (.aload_n 0, 1) := by decide +kernel
theorem dX7_figures_103 : decode cX7_figures 103 = .ok (.dup, 1) := by decide +kernel
theorem dX7_figures_104 : decode cX7_figures 104 = .ok (.getfield 141, 3) := by decide +kernel
theorem dX7_figures_107 : decode cX7_figures 107 = .ok (.iconst 1, 1) := by decide +kernel
theorem dX7_figures_108 : decode cX7_figures 108 = .ok (.iadd, 1) := by decide +kernel
theorem dX7_figures_109 : decode cX7_figures 109 = .ok (.putfield 141, 3) := by decide +kernel
theorem dX7_figures_112 : decode cX7_figures 112 = .ok (.iload 6, 2) := by decide +kernel
theorem dX7_figures_114 : decode cX7_figures 114 = .ok (.bipush 10, 2) := by decide +kernel
theorem dX7_figures_116 : decode cX7_figures 116 = .ok (.idiv, 1) := by decide +kernel
theorem dX7_figures_117 : decode cX7_figures 117 = .ok (.istore 6, 2) := by decide +kernel
theorem dX7_figures_119 : decode cX7_figures 119 = .ok (.goto (-103), 3) := by decide +kernel
theorem dX7_figures_122 : decode cX7_figures 122 = .ok (.iload_n 1, 1) := by decide +kernel
theorem dX7_figures_123 : decode cX7_figures 123 = .ok (.iconst (-1), 1) := by decide +kernel
theorem dX7_figures_124 : decode cX7_figures 124 = .ok (.if_icmp .ne 7, 3) := by decide +kernel
theorem dX7_figures_127 : decode cX7_figures 127 = .ok (.iconst (-1), 1) := by decide +kernel
theorem dX7_figures_128 : decode cX7_figures 128 = .ok (.goto 5, 3) := by decide +kernel
theorem dX7_figures_131 : decode cX7_figures 131 = .ok (.iload 5, 2) := by decide +kernel
theorem dX7_figures_133 : decode cX7_figures 133 = .ok (.ireturn, 1) := by decide +kernel
theorem dX7_done_0 : decode cX7_done 0 = .ok (.aload_n 0, 1) := by decide +kernel
theorem dX7_done_1 : decode cX7_done 1 = .ok (.dup, 1) := by decide +kernel
theorem dX7_done_2 : decode cX7_done 2 = .ok (.getfield 144, 3) := by decide +kernel
theorem dX7_done_5 : decode cX7_done 5 = .ok (.iload_n 1, 1) := by decide +kernel
theorem dX7_done_6 : decode cX7_done 6 = .ok (.ifCond .eq 7, 3) := by decide +kernel
theorem dX7_done_9 : decode cX7_done 9 = .ok (.iconst 0, 1) := by decide +kernel
theorem dX7_done_10 : decode cX7_done 10 = .ok (.goto 4, 3) := by decide +kernel
theorem dX7_done_13 : decode cX7_done 13 = .ok (.iconst 1, 1) := by decide +kernel
theorem dX7_done_14 : decode cX7_done 14 = .ok (.iadd, 1) := by decide +kernel
theorem dX7_done_15 : decode cX7_done 15 = .ok (.putfield 144, 3) := by decide +kernel
theorem dX7_done_18 : decode cX7_done 18 = .ok (.iconst 1, 1) := by decide +kernel
theorem dX7_done_19 : decode cX7_done 19 = .ok (.ireturn, 1) := by decide +kernel
set_option maxRecDepth 20000 in
theorem ggX7_readStep_X7_isUnderWay : GoodIn wsX7_readStep wsX7_isUnderWay := goodIn_r _ [4] (by decide +kernel) (by decide +kernel)
set_option maxRecDepth 20000 in
theorem gX7_readStep_X7_isUnderWay : GoodIn wsX7_readStep (va_wsS RX7 81 yX7_isUnderWay wsX7_isUnderWay) := goodIn_app (goodIn_of _ (by decide +kernel)) ggX7_readStep_X7_isUnderWay
set_option maxRecDepth 20000 in
theorem ggX7_readStep_X7_reason : GoodIn wsX7_readStep wsX7_reason := goodIn_r _ [7, 8, 9, 3, 10, 11, 12, 13, 14, 15, 16, 17, 18, 19, 20, 21, 22, 23, 24, 25, 26, 27, 28, 29] (by decide +kernel) (by decide +kernel)
set_option maxRecDepth 20000 in
theorem gX7_readStep_X7_reason : GoodIn wsX7_readStep (va_wsS RX7 103 yX7_reason wsX7_reason) := goodIn_app (goodIn_of _ (by decide +kernel)) ggX7_readStep_X7_reason
set_option maxRecDepth 20000 in
theorem ggX7_readStep_X7_stepOn : GoodIn wsX7_readStep wsX7_stepOn := goodIn_r _ [32, 5, 6, 3, 7, 8, 9, 10, 11, 12, 13, 14, 15, 16, 17, 18, 19, 20, 21, 22, 23, 24, 25, 26, 27, 28, 29, 33, 34, 35, 36, 37, 38, 39, 40, 41, 42, 43, 44, 45, 46, 47, 48, 49, 50, 1, 2, 4] (by decide +kernel) (by decide +kernel)
set_option maxRecDepth 20000 in
theorem gX7_readStep_X7_stepOn : GoodIn wsX7_readStep (va_wsS RX7 147 yX7_stepOn wsX7_stepOn) := goodIn_app (goodIn_of _ (by decide +kernel)) ggX7_readStep_X7_stepOn
set_option maxRecDepth 20000 in
theorem ggX7_readStep_X7_done : GoodIn wsX7_readStep wsX7_done := goodIn_r _ [54, 55, 56, 57, 58, 59, 60, 61, 62, 63, 64, 65, 66, 67, 68] (by decide +kernel) (by decide +kernel)
set_option maxRecDepth 20000 in
theorem gX7_readStep_X7_done : GoodIn wsX7_readStep (wsV RX7 150 RX7 yX7_done wsX7_done) := goodIn_app (goodIn_of _ (by decide +kernel)) ggX7_readStep_X7_done
theorem dX7_readStep_0 : decode cX7_readStep 0 = .ok (.aload_n 0, 1) := by decide +kernel
theorem dX7_readStep_1 : decode cX7_readStep 1 = .ok (.aload_n 1, 1) := by decide +kernel
theorem dX7_readStep_2 : decode cX7_readStep 2 = .ok (.invokestatic 81, 3) := by decide +kernel
theorem dX7_readStep_5 : decode cX7_readStep 5 = .ok (.ifCond .eq 23, 3) := by decide +kernel
theorem dX7_readStep_8 : decode cX7_readStep 8 = .ok (.aload_n 1, 1) := by decide +kernel
theorem dX7_readStep_9 : decode cX7_readStep 9 = .ok (.iload_n 2, 1) := by decide +kernel
theorem dX7_readStep_10 : decode cX7_readStep 10 = .ok (.invokestatic 103, 3) := by decide +kernel
theorem dX7_readStep_13 : decode cX7_readStep 13 = .ok (.ifCond .ne 15, 3) := by decide +kernel
theorem dX7_readStep_16 : decode cX7_readStep 16 = .ok (.aload_n 1, 1) := by decide +kernel
theorem dX7_readStep_17 : decode cX7_readStep 17 = .ok (.iload_n 2, 1) := by decide +kernel
theorem dX7_readStep_18 : decode cX7_readStep 18 = .ok (.invokestatic 147, 3) := by decide +kernel
theorem dX7_readStep_21 : decode cX7_readStep 21 = .ok (.ifCond .ne 7, 3) := by decide +kernel
theorem dX7_readStep_24 : decode cX7_readStep 24 = .ok (.iconst 1, 1) := by decide +kernel
theorem dX7_readStep_25 : decode cX7_readStep 25 = .ok (.goto 4, 3) := by decide +kernel
theorem dX7_readStep_28 : decode cX7_readStep 28 = .ok (.iconst 0, 1) := by decide +kernel
theorem dX7_readStep_29 : decode cX7_readStep 29 = .ok (.invokevirtual 150, 3) := by decide +kernel
theorem dX7_readStep_32 : decode cX7_readStep 32 = .ok (.ireturn, 1) := by decide +kernel
set_option maxRecDepth 20000 in
theorem ggX7_readBest_X7_bestOf : GoodIn wsX7_readBest wsX7_bestOf := goodIn_r _ [5, 6, 7, 4, 8, 9, 10, 11, 12, 13, 14, 15, 16, 17, 18, 19, 20, 21, 22, 23, 24, 25, 26, 27, 28, 29, 30, 31, 32, 33, 34, 35, 36, 37, 38, 39, 40, 41, 42, 43, 44, 45, 46, 47, 48, 49, 50, 51, 52, 53, 72, 73, 74, 75, 76, 77, 78, 79, 80, 81, 82, 83, 84] (by decide +kernel) (by decide +kernel)
set_option maxRecDepth 20000 in
theorem gX7_readBest_X7_bestOf : GoodIn wsX7_readBest (wsV RX7 154 RX7 yX7_bestOf wsX7_bestOf) := goodIn_app (goodIn_of _ (by decide +kernel)) ggX7_readBest_X7_bestOf
set_option maxRecDepth 20000 in
theorem ggX7_readBest_X7_stepOn : GoodIn wsX7_readBest wsX7_stepOn := goodIn_r _ [56, 9, 10, 4, 11, 12, 13, 14, 15, 16, 17, 18, 19, 20, 21, 22, 23, 24, 25, 26, 27, 28, 29, 30, 31, 32, 33, 57, 58, 59, 60, 61, 62, 63, 64, 65, 39, 40, 41, 66, 67, 68, 69, 70, 71, 6, 7, 8] (by decide +kernel) (by decide +kernel)
set_option maxRecDepth 20000 in
theorem gX7_readBest_X7_stepOn : GoodIn wsX7_readBest (va_wsS RX7 147 yX7_stepOn wsX7_stepOn) := goodIn_app (goodIn_of _ (by decide +kernel)) ggX7_readBest_X7_stepOn
theorem dX7_readBest_0 : decode cX7_readBest 0 = .ok (.aload_n 0, 1) := by decide +kernel
theorem dX7_readBest_1 : decode cX7_readBest 1 = .ok (.aload_n 1, 1) := by decide +kernel
theorem dX7_readBest_2 : decode cX7_readBest 2 = .ok (.invokevirtual 154, 3) := by decide +kernel
theorem dX7_readBest_5 : decode cX7_readBest 5 = .ok (.istore_n 2, 1) := by decide +kernel
theorem dX7_readBest_6 : decode cX7_readBest 6 = .ok (.iload_n 2, 1) := by decide +kernel
theorem dX7_readBest_7 : decode cX7_readBest 7 = .ok (.iconst (-1), 1) := by decide +kernel
theorem dX7_readBest_8 : decode cX7_readBest 8 = .ok (.if_icmp .eq 9, 3) := by decide +kernel
theorem dX7_readBest_11 : decode cX7_readBest 11 = .ok (.aload_n 1, 1) := by decide +kernel
theorem dX7_readBest_12 : decode cX7_readBest 12 = .ok (.iload_n 2, 1) := by decide +kernel
theorem dX7_readBest_13 : decode cX7_readBest 13 = .ok (.invokestatic 147, 3) := by decide +kernel
theorem dX7_readBest_16 : decode cX7_readBest 16 = .ok (.pop, 1) := by decide +kernel
theorem dX7_readBest_17 : decode cX7_readBest 17 = .ok (.iconst 1, 1) := by decide +kernel
theorem dX7_readBest_18 : decode cX7_readBest 18 = .ok (.ireturn, 1) := by decide +kernel
set_option maxRecDepth 20000 in
theorem ggX7_readDam_X7_figures : GoodIn wsX7_readDam wsX7_figures := goodIn_r _ [5, 6, 7, 8, 9, 10, 11, 4, 12, 62, 63, 64, 65, 66, 67, 68, 69, 70, 71, 72, 73, 74] (by decide +kernel) (by decide +kernel)
set_option maxRecDepth 20000 in
theorem gX7_readDam_X7_figures : GoodIn wsX7_readDam (wsV RX7 158 RX7 yX7_figures wsX7_figures) := goodIn_app (goodIn_of _ (by decide +kernel)) ggX7_readDam_X7_figures
set_option maxRecDepth 20000 in
theorem ggX7_readDam_X7_isUnderWay : GoodIn wsX7_readDam wsX7_isUnderWay := goodIn_r _ [15] (by decide +kernel) (by decide +kernel)
set_option maxRecDepth 20000 in
theorem gX7_readDam_X7_isUnderWay : GoodIn wsX7_readDam (va_wsS RX7 81 yX7_isUnderWay wsX7_isUnderWay) := goodIn_app (goodIn_of _ (by decide +kernel)) ggX7_readDam_X7_isUnderWay
set_option maxRecDepth 20000 in
theorem ggX7_readDam_X7_damReason : GoodIn wsX7_readDam wsX7_damReason := goodIn_r _ [19, 20, 21, 4, 22, 23, 24, 25, 26, 27, 28, 29, 30, 31, 32, 33, 34, 35, 36, 37, 38, 39, 40, 41, 42, 43, 10, 11, 12, 44, 45, 46, 62, 63, 64, 65, 66, 67, 68, 69, 70, 71, 72, 73, 74] (by decide +kernel) (by decide +kernel)
set_option maxRecDepth 20000 in
theorem gX7_readDam_X7_damReason : GoodIn wsX7_readDam (wsV RX7 119 RX7 yX7_damReason wsX7_damReason) := goodIn_app (goodIn_of _ (by decide +kernel)) ggX7_readDam_X7_damReason
set_option maxRecDepth 20000 in
theorem ggX7_readDam_X7_damOn : GoodIn wsX7_readDam wsX7_damOn := goodIn_r _ [50, 16, 17, 18, 4, 19, 20, 21, 22, 23, 24, 25, 26, 27, 28, 29, 30, 31, 32, 33, 34, 35, 36, 37, 38, 39, 40, 41, 42, 43, 10, 11, 12, 44, 45, 46, 51, 52, 53, 54, 55, 56, 13, 14, 15, 62, 63, 64, 65, 66, 67, 68, 69, 70, 71, 72, 73, 74] (by decide +kernel) (by decide +kernel)
set_option maxRecDepth 20000 in
theorem gX7_readDam_X7_damOn : GoodIn wsX7_readDam (wsV RX7 162 RX7 yX7_damOn wsX7_damOn) := goodIn_app (goodIn_of _ (by decide +kernel)) ggX7_readDam_X7_damOn
set_option maxRecDepth 20000 in
theorem ggX7_readDam_X7_done : GoodIn wsX7_readDam wsX7_done := goodIn_r _ [60, 61, 62, 63, 64, 65, 66, 67, 68, 69, 70, 71, 72, 73, 74] (by decide +kernel) (by decide +kernel)
set_option maxRecDepth 20000 in
theorem gX7_readDam_X7_done : GoodIn wsX7_readDam (wsV RX7 150 RX7 yX7_done wsX7_done) := goodIn_app (goodIn_of _ (by decide +kernel)) ggX7_readDam_X7_done
theorem dX7_readDam_0 : decode cX7_readDam 0 = .ok (.aload_n 0, 1) := by decide +kernel
theorem dX7_readDam_1 : decode cX7_readDam 1 = .ok (.iconst 0, 1) := by decide +kernel
theorem dX7_readDam_2 : decode cX7_readDam 2 = .ok (.iconst 1, 1) := by decide +kernel
theorem dX7_readDam_3 : decode cX7_readDam 3 = .ok (.iconst 0, 1) := by decide +kernel
theorem dX7_readDam_4 : decode cX7_readDam 4 = .ok (.bipush 7, 2) := by decide +kernel
theorem dX7_readDam_6 : decode cX7_readDam 6 = .ok (.invokevirtual 158, 3) := by decide +kernel
theorem dX7_readDam_9 : decode cX7_readDam 9 = .ok (.istore_n 2, 1) := by decide +kernel
theorem dX7_readDam_10 : decode cX7_readDam 10 = .ok (.aload_n 0, 1) := by decide +kernel
theorem dX7_readDam_11 : decode cX7_readDam 11 = .ok (.iload_n 2, 1) := by decide +kernel
theorem dX7_readDam_12 : decode cX7_readDam 12 = .ok (.iconst 1, 1) := by decide +kernel
theorem dX7_readDam_13 : decode cX7_readDam 13 = .ok (.iconst 0, 1) := by decide +kernel
theorem dX7_readDam_14 : decode cX7_readDam 14 = .ok (.bipush 7, 2) := by decide +kernel
theorem dX7_readDam_16 : decode cX7_readDam 16 = .ok (.invokevirtual 158, 3) := by decide +kernel
theorem dX7_readDam_19 : decode cX7_readDam 19 = .ok (.istore_n 3, 1) := by decide +kernel
theorem dX7_readDam_20 : decode cX7_readDam 20 = .ok (.iload_n 3, 1) := by decide +kernel
theorem dX7_readDam_21 : decode cX7_readDam 21 = .ok (.iconst (-1), 1) := by decide +kernel
theorem dX7_readDam_22 : decode cX7_readDam 22 = .ok (.if_icmp .eq 54, 3) := by decide +kernel
theorem dX7_readDam_25 : decode cX7_readDam 25 = .ok (.aload_n 0, 1) := by decide +kernel
theorem dX7_readDam_26 : decode cX7_readDam 26 = .ok (.aload_n 1, 1) := by decide +kernel
theorem dX7_readDam_27 : decode cX7_readDam 27 = .ok (.invokestatic 81, 3) := by decide +kernel
theorem dX7_readDam_30 : decode cX7_readDam 30 = .ok (.ifCond .eq 35, 3) := by decide +kernel
theorem dX7_readDam_33 : decode cX7_readDam 33 = .ok (.aload_n 0, 1) := by decide +kernel
theorem dX7_readDam_34 : decode cX7_readDam 34 = .ok (.aload_n 1, 1) := by decide +kernel
theorem dX7_readDam_35 : decode cX7_readDam 35 = .ok (.bipush 8, 2) := by decide +kernel
theorem dX7_readDam_37 : decode cX7_readDam 37 = .ok (.iload_n 3, 1) := by decide +kernel
theorem dX7_readDam_38 : decode cX7_readDam 38 = .ok (.imul, 1) := by decide +kernel
theorem dX7_readDam_39 : decode cX7_readDam 39 = .ok (.iload_n 2, 1) := by decide +kernel
theorem dX7_readDam_40 : decode cX7_readDam 40 = .ok (.iadd, 1) := by decide +kernel
theorem dX7_readDam_41 : decode cX7_readDam 41 = .ok (.invokevirtual 119, 3) := by decide +kernel
theorem dX7_readDam_44 : decode cX7_readDam 44 = .ok (.ifCond .ne 21, 3) := by decide +kernel
theorem dX7_readDam_47 : decode cX7_readDam 47 = .ok (.aload_n 0, 1) := by decide +kernel
theorem dX7_readDam_48 : decode cX7_readDam 48 = .ok (.aload_n 1, 1) := by decide +kernel
theorem dX7_readDam_49 : decode cX7_readDam 49 = .ok (.bipush 8, 2) := by decide +kernel
theorem dX7_readDam_51 : decode cX7_readDam 51 = .ok (.iload_n 3, 1) := by decide +kernel
theorem dX7_readDam_52 : decode cX7_readDam 52 = .ok (.imul, 1) := by decide +kernel
theorem dX7_readDam_53 : decode cX7_readDam 53 = .ok (.iload_n 2, 1) := by decide +kernel
theorem dX7_readDam_54 : decode cX7_readDam 54 = .ok (.iadd, 1) := by decide +kernel
theorem dX7_readDam_55 : decode cX7_readDam 55 = .ok (.invokevirtual 162, 3) := by decide +kernel
theorem dX7_readDam_58 : decode cX7_readDam 58 = .ok (.ifCond .ne 7, 3) := by decide +kernel
theorem dX7_readDam_61 : decode cX7_readDam 61 = .ok (.iconst 1, 1) := by decide +kernel
theorem dX7_readDam_62 : decode cX7_readDam 62 = .ok (.goto 4, 3) := by decide +kernel
theorem dX7_readDam_65 : decode cX7_readDam 65 = .ok (.iconst 0, 1) := by decide +kernel
theorem dX7_readDam_66 : decode cX7_readDam 66 = .ok (.invokevirtual 150, 3) := by decide +kernel
theorem dX7_readDam_69 : decode cX7_readDam 69 = .ok (.ifCond .eq 7, 3) := by decide +kernel
theorem dX7_readDam_72 : decode cX7_readDam 72 = .ok (.iconst 1, 1) := by decide +kernel
theorem dX7_readDam_73 : decode cX7_readDam 73 = .ok (.goto 4, 3) := by decide +kernel
theorem dX7_readDam_76 : decode cX7_readDam 76 = .ok (.iconst 0, 1) := by decide +kernel
theorem dX7_readDam_77 : decode cX7_readDam 77 = .ok (.ireturn, 1) := by decide +kernel
set_option maxRecDepth 20000 in
theorem ggX7_readCommand_X7_figures : GoodIn wsX7_readCommand wsX7_figures := goodIn_r _ [7, 2, 8, 1, 9, 10, 11, 6, 12, 127, 128, 129, 130, 131, 132, 133, 134, 135, 136, 137, 138, 139] (by decide +kernel) (by decide +kernel)
set_option maxRecDepth 20000 in
theorem gX7_readCommand_X7_figures : GoodIn wsX7_readCommand (wsV RX7 158 RX7 yX7_figures wsX7_figures) := goodIn_app (goodIn_of _ (by decide +kernel)) ggX7_readCommand_X7_figures
set_option maxRecDepth 20000 in
theorem ggX7_readCommand_X7_gameOn : GoodIn wsX7_readCommand wsX7_gameOn := goodIn_r _ [15, 16, 17, 18, 19, 6, 20, 21, 22, 23, 24, 25, 26] (by decide +kernel) (by decide +kernel)
set_option maxRecDepth 20000 in
theorem gX7_readCommand_X7_gameOn : GoodIn wsX7_readCommand (va_wsS RX7 43 yX7_gameOn wsX7_gameOn) := goodIn_app (goodIn_of _ (by decide +kernel)) ggX7_readCommand_X7_gameOn
set_option maxRecDepth 20000 in
theorem ggX7_readCommand_X7_done : GoodIn wsX7_readCommand wsX7_done := goodIn_r _ [30, 31, 127, 128, 129, 130, 131, 132, 133, 134, 135, 136, 137, 138, 139] (by decide +kernel) (by decide +kernel)
set_option maxRecDepth 20000 in
theorem gX7_readCommand_X7_done : GoodIn wsX7_readCommand (wsV RX7 150 RX7 yX7_done wsX7_done) := goodIn_app (goodIn_of _ (by decide +kernel)) ggX7_readCommand_X7_done
set_option maxRecDepth 20000 in
theorem ggX7_readCommand_X7_readStep : GoodIn wsX7_readCommand wsX7_readStep := goodIn_r _ [35, 36, 37, 6, 38, 39, 40, 41, 42, 43, 44, 21, 22, 23, 45, 46, 47, 48, 49, 50, 51, 10, 11, 12, 52, 53, 54, 55, 56, 57, 58, 59, 60, 18, 19, 20, 24, 25, 26, 61, 62, 63, 64, 65, 66, 67, 68, 69, 70, 71, 72, 27, 28, 29, 30, 31, 127, 128, 129, 130, 131, 132, 133, 134, 135, 136, 137, 138, 139] (by decide +kernel) (by decide +kernel)
set_option maxRecDepth 20000 in
theorem gX7_readCommand_X7_readStep : GoodIn wsX7_readCommand (wsV RX7 165 RX7 yX7_readStep wsX7_readStep) := goodIn_app (goodIn_of _ (by decide +kernel)) ggX7_readCommand_X7_readStep
set_option maxRecDepth 20000 in
theorem ggX7_readCommand_X7_readDam : GoodIn wsX7_readCommand wsX7_readDam := goodIn_r _ [76, 3, 4, 5, 6, 7, 2, 8, 1, 9, 10, 11, 12, 36, 37, 38, 77, 78, 79, 80, 81, 82, 83, 52, 53, 54, 21, 22, 23, 84, 85, 86, 87, 88, 42, 43, 44, 45, 46, 47, 48, 49, 50, 51, 55, 56, 57, 89, 90, 91, 92, 24, 25, 26, 70, 71, 72, 27, 28, 29, 30, 31, 127, 128, 129, 130, 131, 132, 133, 134, 135, 136, 137, 138, 139] (by decide +kernel) (by decide +kernel)
set_option maxRecDepth 20000 in
theorem gX7_readCommand_X7_readDam : GoodIn wsX7_readCommand (wsV RX7 168 RX7 yX7_readDam wsX7_readDam) := goodIn_app (goodIn_of _ (by decide +kernel)) ggX7_readCommand_X7_readDam
set_option maxRecDepth 20000 in
theorem ggX7_readCommand_X7_isUnderWay : GoodIn wsX7_readCommand wsX7_isUnderWay := goodIn_r _ [38] (by decide +kernel) (by decide +kernel)
set_option maxRecDepth 20000 in
theorem gX7_readCommand_X7_isUnderWay : GoodIn wsX7_readCommand (va_wsS RX7 81 yX7_isUnderWay wsX7_isUnderWay) := goodIn_app (goodIn_of _ (by decide +kernel)) ggX7_readCommand_X7_isUnderWay
set_option maxRecDepth 20000 in
theorem ggX7_readCommand_X7_canStep : GoodIn wsX7_readCommand wsX7_canStep := goodIn_r _ [95, 39, 40, 6, 41, 42, 43, 44, 21, 22, 23, 45, 46, 47, 48, 49, 50, 51, 10, 11, 12, 52, 53, 54, 55, 56, 57] (by decide +kernel) (by decide +kernel)
set_option maxRecDepth 20000 in
theorem gX7_readCommand_X7_canStep : GoodIn wsX7_readCommand (va_wsS RX7 171 yX7_canStep wsX7_canStep) := goodIn_app (goodIn_of _ (by decide +kernel)) ggX7_readCommand_X7_canStep
set_option maxRecDepth 20000 in
theorem ggX7_readCommand_X7_floodOn : GoodIn wsX7_readCommand wsX7_floodOn := goodIn_r _ [98, 42, 43, 6, 44, 21, 22, 23, 45, 46, 47, 48, 49, 50, 51, 10, 11, 12, 52, 53, 54, 67, 68, 69, 24, 25, 26, 70, 71, 72, 36, 37, 38] (by decide +kernel) (by decide +kernel)
set_option maxRecDepth 20000 in
theorem gX7_readCommand_X7_floodOn : GoodIn wsX7_readCommand (va_wsS RX7 174 yX7_floodOn wsX7_floodOn) := goodIn_app (goodIn_of _ (by decide +kernel)) ggX7_readCommand_X7_floodOn
set_option maxRecDepth 20000 in
theorem ggX7_readCommand_X7_readBest : GoodIn wsX7_readCommand wsX7_readBest := goodIn_r _ [102, 103, 104, 105, 6, 106, 36, 37, 38, 39, 40, 41, 42, 43, 44, 21, 22, 23, 45, 46, 47, 48, 49, 50, 51, 10, 11, 12, 52, 53, 54, 55, 56, 57, 107, 108, 109, 110, 111, 64, 65, 66, 112, 113, 114, 115, 88, 116, 117, 118, 119, 81, 82, 83, 58, 59, 60, 18, 19, 20, 24, 25, 26, 61, 62, 63, 67, 68, 69, 70, 71, 72, 127, 128, 129, 130, 131, 132, 133, 134, 135, 136, 137, 138, 139] (by decide +kernel) (by decide +kernel)
set_option maxRecDepth 20000 in
theorem gX7_readCommand_X7_readBest : GoodIn wsX7_readCommand (wsV RX7 177 RX7 yX7_readBest wsX7_readBest) := goodIn_app (goodIn_of _ (by decide +kernel)) ggX7_readCommand_X7_readBest
set_option maxRecDepth 20000 in
theorem ggX7_readCommand_X7_isSetting : GoodIn wsX7_readCommand wsX7_isSetting := goodIn_r _ [122, 123, 9, 10, 11, 6, 12] (by decide +kernel) (by decide +kernel)
set_option maxRecDepth 20000 in
theorem gX7_readCommand_X7_isSetting : GoodIn wsX7_readCommand (va_wsS RX7 180 yX7_isSetting wsX7_isSetting) := goodIn_app (goodIn_of _ (by decide +kernel)) ggX7_readCommand_X7_isSetting
set_option maxRecDepth 20000 in
theorem ggX7_readCommand_X7_change : GoodIn wsX7_readCommand wsX7_change := goodIn_r _ [126] (by decide +kernel) (by decide +kernel)
set_option maxRecDepth 20000 in
theorem gX7_readCommand_X7_change : GoodIn wsX7_readCommand (va_wsS RX7 183 yX7_change wsX7_change) := goodIn_app (goodIn_of _ (by decide +kernel)) ggX7_readCommand_X7_change
theorem dX7_readCommand_0 : decode cX7_readCommand 0 = .ok (.aload_n 0, 1) := by decide +kernel
theorem dX7_readCommand_1 : decode cX7_readCommand 1 = .ok (.getfield 7, 3) := by decide +kernel
theorem dX7_readCommand_4 : decode cX7_readCommand 4 = .ok (.aload_n 0, 1) := by decide +kernel
theorem dX7_readCommand_5 : decode cX7_readCommand 5 = .ok (.getfield 141, 3) := by decide +kernel
theorem dX7_readCommand_8 : decode cX7_readCommand 8 = .ok (.iaload, 1) := by decide +kernel
theorem dX7_readCommand_9 : decode cX7_readCommand 9 = .ok (.istore_n 2, 1) := by decide +kernel
theorem dX7_readCommand_10 : decode cX7_readCommand 10 = .ok (.aload_n 0, 1) := by decide +kernel
theorem dX7_readCommand_11 : decode cX7_readCommand 11 = .ok (.dup, 1) := by decide +kernel
theorem dX7_readCommand_12 : decode cX7_readCommand 12 = .ok (.getfield 141, 3) := by decide +kernel
theorem dX7_readCommand_15 : decode cX7_readCommand 15 = .ok (.iconst 1, 1) := by decide +kernel
theorem dX7_readCommand_16 : decode cX7_readCommand 16 = .ok (.iadd, 1) := by decide +kernel
theorem dX7_readCommand_17 : decode cX7_readCommand 17 = .ok (.putfield 141, 3) := by decide +kernel
theorem dX7_readCommand_20 : decode cX7_readCommand 20 = .ok (.iload_n 2, 1) := by decide +kernel
theorem dX7_readCommand_21 : decode cX7_readCommand 21 = .ok (.tableswitch 272 98 119 #[203, 272, 166, 152, 172, 272, 272, 272, 272, 272, 272, 272, 103, 272, 272, 272, 272, 145, 272, 272, 209, 159], 103) := by decide +kernel
theorem dX7_readCommand_124 : decode cX7_readCommand 124 = .ok (.aload_n 0, 1) := by decide +kernel
theorem dX7_readCommand_125 : decode cX7_readCommand 125 = .ok (.iconst 0, 1) := by decide +kernel
theorem dX7_readCommand_126 : decode cX7_readCommand 126 = .ok (.iconst 2, 1) := by decide +kernel
theorem dX7_readCommand_127 : decode cX7_readCommand 127 = .ok (.iconst 0, 1) := by decide +kernel
theorem dX7_readCommand_128 : decode cX7_readCommand 128 = .ok (.bipush 99, 2) := by decide +kernel
theorem dX7_readCommand_130 : decode cX7_readCommand 130 = .ok (.invokevirtual 158, 3) := by decide +kernel
theorem dX7_readCommand_133 : decode cX7_readCommand 133 = .ok (.istore_n 3, 1) := by decide +kernel
theorem dX7_readCommand_134 : decode cX7_readCommand 134 = .ok (.iload_n 3, 1) := by decide +kernel
theorem dX7_readCommand_135 : decode cX7_readCommand 135 = .ok (.iconst (-1), 1) := by decide +kernel
theorem dX7_readCommand_136 : decode cX7_readCommand 136 = .ok (.if_icmp .eq 28, 3) := by decide +kernel
theorem dX7_readCommand_139 : decode cX7_readCommand 139 = .ok (.aload_n 0, 1) := by decide +kernel
theorem dX7_readCommand_140 : decode cX7_readCommand 140 = .ok (.aload_n 1, 1) := by decide +kernel
theorem dX7_readCommand_141 : decode cX7_readCommand 141 = .ok (.iload_n 3, 1) := by decide +kernel
theorem dX7_readCommand_142 : decode cX7_readCommand 142 = .ok (.i2l, 1) := by decide +kernel
theorem dX7_readCommand_143 : decode cX7_readCommand 143 = .ok (.invokestatic 43, 3) := by decide +kernel
theorem dX7_readCommand_146 : decode cX7_readCommand 146 = .ok (.ifCond .le 7, 3) := by decide +kernel
theorem dX7_readCommand_149 : decode cX7_readCommand 149 = .ok (.iconst 1, 1) := by decide +kernel
theorem dX7_readCommand_150 : decode cX7_readCommand 150 = .ok (.goto 4, 3) := by decide +kernel
theorem dX7_readCommand_153 : decode cX7_readCommand 153 = .ok (.iconst 0, 1) := by decide +kernel
theorem dX7_readCommand_154 : decode cX7_readCommand 154 = .ok (.invokevirtual 150, 3) := by decide +kernel
theorem dX7_readCommand_157 : decode cX7_readCommand 157 = .ok (.ifCond .eq 7, 3) := by decide +kernel
theorem dX7_readCommand_160 : decode cX7_readCommand 160 = .ok (.iconst 1, 1) := by decide +kernel
theorem dX7_readCommand_161 : decode cX7_readCommand 161 = .ok (.goto 4, 3) := by decide +kernel
theorem dX7_readCommand_164 : decode cX7_readCommand 164 = .ok (.iconst 0, 1) := by decide +kernel
theorem dX7_readCommand_165 : decode cX7_readCommand 165 = .ok (.ireturn, 1) := by decide +kernel
theorem dX7_readCommand_166 : decode cX7_readCommand 166 = .ok (.aload_n 0, 1) := by decide +kernel
theorem dX7_readCommand_167 : decode cX7_readCommand 167 = .ok (.aload_n 1, 1) := by decide +kernel
theorem dX7_readCommand_168 : decode cX7_readCommand 168 = .ok (.iconst 0, 1) := by decide +kernel
theorem dX7_readCommand_169 : decode cX7_readCommand 169 = .ok (.invokevirtual 165, 3) := by decide +kernel
theorem dX7_readCommand_172 : decode cX7_readCommand 172 = .ok (.ireturn, 1) := by decide +kernel
theorem dX7_readCommand_173 : decode cX7_readCommand 173 = .ok (.aload_n 0, 1) := by decide +kernel
theorem dX7_readCommand_174 : decode cX7_readCommand 174 = .ok (.aload_n 1, 1) := by decide +kernel
theorem dX7_readCommand_175 : decode cX7_readCommand 175 = .ok (.iconst 1, 1) := by decide +kernel
theorem dX7_readCommand_176 : decode cX7_readCommand 176 = .ok (.invokevirtual 165, 3) := by decide +kernel
theorem dX7_readCommand_179 : decode cX7_readCommand 179 = .ok (.ireturn, 1) := by decide +kernel
theorem dX7_readCommand_180 : decode cX7_readCommand 180 = .ok (.aload_n 0, 1) := by decide +kernel
theorem dX7_readCommand_181 : decode cX7_readCommand 181 = .ok (.aload_n 1, 1) := by decide +kernel
theorem dX7_readCommand_182 : decode cX7_readCommand 182 = .ok (.iconst 2, 1) := by decide +kernel
theorem dX7_readCommand_183 : decode cX7_readCommand 183 = .ok (.invokevirtual 165, 3) := by decide +kernel
theorem dX7_readCommand_186 : decode cX7_readCommand 186 = .ok (.ireturn, 1) := by decide +kernel
theorem dX7_readCommand_187 : decode cX7_readCommand 187 = .ok (.aload_n 0, 1) := by decide +kernel
theorem dX7_readCommand_188 : decode cX7_readCommand 188 = .ok (.aload_n 1, 1) := by decide +kernel
theorem dX7_readCommand_189 : decode cX7_readCommand 189 = .ok (.invokevirtual 168, 3) := by decide +kernel
theorem dX7_readCommand_192 : decode cX7_readCommand 192 = .ok (.ireturn, 1) := by decide +kernel
theorem dX7_readCommand_193 : decode cX7_readCommand 193 = .ok (.aload_n 0, 1) := by decide +kernel
theorem dX7_readCommand_194 : decode cX7_readCommand 194 = .ok (.aload_n 1, 1) := by decide +kernel
theorem dX7_readCommand_195 : decode cX7_readCommand 195 = .ok (.invokestatic 81, 3) := by decide +kernel
theorem dX7_readCommand_198 : decode cX7_readCommand 198 = .ok (.ifCond .eq 21, 3) := by decide +kernel
theorem dX7_readCommand_201 : decode cX7_readCommand 201 = .ok (.aload_n 1, 1) := by decide +kernel
theorem dX7_readCommand_202 : decode cX7_readCommand 202 = .ok (.invokestatic 171, 3) := by decide +kernel
theorem dX7_readCommand_205 : decode cX7_readCommand 205 = .ok (.ifCond .ne 14, 3) := by decide +kernel
theorem dX7_readCommand_208 : decode cX7_readCommand 208 = .ok (.aload_n 1, 1) := by decide +kernel
theorem dX7_readCommand_209 : decode cX7_readCommand 209 = .ok (.invokestatic 174, 3) := by decide +kernel
theorem dX7_readCommand_212 : decode cX7_readCommand 212 = .ok (.ifCond .lt 7, 3) := by decide +kernel
theorem dX7_readCommand_215 : decode cX7_readCommand 215 = .ok (.iconst 1, 1) := by decide +kernel
theorem dX7_readCommand_216 : decode cX7_readCommand 216 = .ok (.goto 4, 3) := by decide +kernel
theorem dX7_readCommand_219 : decode cX7_readCommand 219 = .ok (.iconst 0, 1) := by decide +kernel
theorem dX7_readCommand_220 : decode cX7_readCommand 220 = .ok (.invokevirtual 150, 3) := by decide +kernel
theorem dX7_readCommand_223 : decode cX7_readCommand 223 = .ok (.ireturn, 1) := by decide +kernel
theorem dX7_readCommand_224 : decode cX7_readCommand 224 = .ok (.aload_n 0, 1) := by decide +kernel
theorem dX7_readCommand_225 : decode cX7_readCommand 225 = .ok (.aload_n 1, 1) := by decide +kernel
theorem dX7_readCommand_226 : decode cX7_readCommand 226 = .ok (.invokevirtual 177, 3) := by decide +kernel
theorem dX7_readCommand_229 : decode cX7_readCommand 229 = .ok (.ireturn, 1) := by decide +kernel
