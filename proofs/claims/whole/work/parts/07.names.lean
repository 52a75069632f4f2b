theorem dX7_readCommand_230 : decode cX7_readCommand 230 = .ok (.aload_n 0, 1) := by decide +kernel
theorem dX7_readCommand_231 : decode cX7_readCommand 231 = .ok (.iconst 0, 1) := by decide +kernel
theorem dX7_readCommand_232 : decode cX7_readCommand 232 = .ok (.iconst 1, 1) := by decide +kernel
theorem dX7_readCommand_233 : decode cX7_readCommand 233 = .ok (.iconst 0, 1) := by decide +kernel
theorem dX7_readCommand_234 : decode cX7_readCommand 234 = .ok (.iconst 1, 1) := by decide +kernel
theorem dX7_readCommand_235 : decode cX7_readCommand 235 = .ok (.invokevirtual 158, 3) := by decide +kernel
theorem dX7_readCommand_238 : decode cX7_readCommand 238 = .ok (.istore_n 3, 1) := by decide +kernel
theorem dX7_readCommand_239 : decode cX7_readCommand 239 = .ok (.aload_n 0, 1) := by decide +kernel
theorem dX7_readCommand_240 : decode cX7_readCommand 240 = .ok (.iload_n 3, 1) := by decide +kernel
theorem dX7_readCommand_241 : decode cX7_readCommand 241 = .ok (.iconst 2, 1) := by decide +kernel
theorem dX7_readCommand_242 : decode cX7_readCommand 242 = .ok (.iconst 1, 1) := by decide +kernel
theorem dX7_readCommand_243 : decode cX7_readCommand 243 = .ok (.bipush 40, 2) := by decide +kernel
theorem dX7_readCommand_245 : decode cX7_readCommand 245 = .ok (.invokevirtual 158, 3) := by decide +kernel
theorem dX7_readCommand_248 : decode cX7_readCommand 248 = .ok (.istore 4, 2) := by decide +kernel
theorem dX7_readCommand_250 : decode cX7_readCommand 250 = .ok (.iload 4, 2) := by decide +kernel
theorem dX7_readCommand_252 : decode cX7_readCommand 252 = .ok (.iconst (-1), 1) := by decide +kernel
theorem dX7_readCommand_253 : decode cX7_readCommand 253 = .ok (.if_icmp .eq 38, 3) := by decide +kernel
theorem dX7_readCommand_256 : decode cX7_readCommand 256 = .ok (.aload_n 0, 1) := by decide +kernel
theorem dX7_readCommand_257 : decode cX7_readCommand 257 = .ok (.iload_n 3, 1) := by decide +kernel
theorem dX7_readCommand_258 : decode cX7_readCommand 258 = .ok (.iload 4, 2) := by decide +kernel
theorem dX7_readCommand_260 : decode cX7_readCommand 260 = .ok (.invokestatic 180, 3) := by decide +kernel
theorem dX7_readCommand_263 : decode cX7_readCommand 263 = .ok (.ifCond .eq 17, 3) := by decide +kernel
theorem dX7_readCommand_266 : decode cX7_readCommand 266 = .ok (.aload_n 1, 1) := by decide +kernel
theorem dX7_readCommand_267 : decode cX7_readCommand 267 = .ok (.iload_n 3, 1) := by decide +kernel
theorem dX7_readCommand_268 : decode cX7_readCommand 268 = .ok (.iload 4, 2) := by decide +kernel
theorem dX7_readCommand_270 : decode cX7_readCommand 270 = .ok (.invokestatic 183, 3) := by decide +kernel
theorem dX7_readCommand_273 : decode cX7_readCommand 273 = .ok (.ifCond .lt 7, 3) := by decide +kernel
theorem dX7_readCommand_276 : decode cX7_readCommand 276 = .ok (.iconst 1, 1) := by decide +kernel
theorem dX7_readCommand_277 : decode cX7_readCommand 277 = .ok (.goto 4, 3) := by decide +kernel
theorem dX7_readCommand_280 : decode cX7_readCommand 280 = .ok (.iconst 0, 1) := by decide +kernel
theorem dX7_readCommand_281 : decode cX7_readCommand 281 = .ok (.invokevirtual 150, 3) := by decide +kernel
theorem dX7_readCommand_284 : decode cX7_readCommand 284 = .ok (.ifCond .eq 7, 3) := by decide +kernel
theorem dX7_readCommand_287 : decode cX7_readCommand 287 = .ok (.iconst 1, 1) := by decide +kernel
theorem dX7_readCommand_288 : decode cX7_readCommand 288 = .ok (.goto 4, 3) := by decide +kernel
theorem dX7_readCommand_291 : decode cX7_readCommand 291 = .ok (.iconst 0, 1) := by decide +kernel
theorem dX7_readCommand_292 : decode cX7_readCommand 292 = .ok (.ireturn, 1) := by decide +kernel
theorem dX7_readCommand_293 : decode cX7_readCommand 293 = .ok (.aload_n 0, 1) := by decide +kernel
theorem dX7_readCommand_294 : decode cX7_readCommand 294 = .ok (.dup, 1) := by decide +kernel
theorem dX7_readCommand_295 : decode cX7_readCommand 295 = .ok (.getfield 141, 3) := by decide +kernel
theorem dX7_readCommand_298 : decode cX7_readCommand 298 = .ok (.iconst 1, 1) := by decide +kernel
theorem dX7_readCommand_299 : decode cX7_readCommand 299 = .ok (.isub, 1) := by decide +kernel
theorem dX7_readCommand_300 : decode cX7_readCommand 300 = .ok (.putfield 141, 3) := by decide +kernel
theorem dX7_readCommand_303 : decode cX7_readCommand 303 = .ok (.iconst 0, 1) := by decide +kernel
theorem dX7_readCommand_304 : decode cX7_readCommand 304 = .ok (.ireturn, 1) := by decide +kernel
set_option maxRecDepth 20000 in
theorem ggX7_readText_X7_clear : GoodIn wsX7_readText wsX7_clear := goodIn_r _ [8, 9, 10, 7, 11, 12, 13, 14, 15, 16, 17, 18, 19, 20, 21, 22] (by decide +kernel) (by decide +kernel)
set_option maxRecDepth 20000 in
theorem gX7_readText_X7_clear : GoodIn wsX7_readText (va_wsS RX7 35 yX7_clear wsX7_clear) := goodIn_app (goodIn_of _ (by decide +kernel)) ggX7_readText_X7_clear
set_option maxRecDepth 20000 in
theorem ggX7_readText_X7_readCommand : GoodIn wsX7_readText wsX7_readCommand := goodIn_r _ [26, 4, 2, 27, 28, 29, 7, 30, 3, 31, 32, 33, 34, 9, 10, 11, 12, 13, 14, 15, 16, 17, 18, 19, 20, 21, 22, 35, 36, 37, 38, 1, 39, 40, 41, 42, 43, 44, 45, 46, 47, 48, 49, 50, 51, 52, 53, 54, 55, 56, 57, 58, 59, 60, 61, 62, 63, 64, 65, 66, 67, 68, 69, 70, 71, 72, 73, 74, 75, 76, 77, 78, 79, 80, 81, 82, 83, 84, 85, 86, 87, 88, 89, 90, 91, 92, 93, 94, 95, 96, 97, 98, 99, 100, 101, 102, 103, 104, 105, 106, 107, 108, 109, 110, 111, 112, 113, 114, 115, 116, 117, 118, 119, 120, 121, 122, 123, 124, 125, 126, 127, 128, 129, 130, 131, 132, 133, 134, 135, 136, 137, 138, 139, 140, 141, 142, 143, 144, 145, 146] (by decide +kernel) (by decide +kernel)
set_option maxRecDepth 20000 in
theorem gX7_readText_X7_readCommand : GoodIn wsX7_readText (wsV RX7 186 RX7 yX7_readCommand wsX7_readCommand) := goodIn_app (goodIn_of _ (by decide +kernel)) ggX7_readText_X7_readCommand
theorem dX7_readText_0 : decode cX7_readText 0 = .ok (.aload_n 1, 1) := by decide +kernel
theorem dX7_readText_1 : decode cX7_readText 1 = .ok (.invokestatic 35, 3) := by decide +kernel
theorem dX7_readText_4 : decode cX7_readText 4 = .ok (.aload_n 0, 1) := by decide +kernel
theorem dX7_readText_5 : decode cX7_readText 5 = .ok (.iconst 0, 1) := by decide +kernel
theorem dX7_readText_6 : decode cX7_readText 6 = .ok (.putfield 144, 3) := by decide +kernel
theorem dX7_readText_9 : decode cX7_readText 9 = .ok (.aload_n 0, 1) := by decide +kernel
theorem dX7_readText_10 : decode cX7_readText 10 = .ok (.iconst 0, 1) := by decide +kernel
theorem dX7_readText_11 : decode cX7_readText 11 = .ok (.putfield 141, 3) := by decide +kernel
theorem dX7_readText_14 : decode cX7_readText 14 = .ok (.aload_n 0, 1) := by decide +kernel
theorem dX7_readText_15 : decode cX7_readText 15 = .ok (.getfield 134, 3) := by decide +kernel
theorem dX7_readText_18 : decode cX7_readText 18 = .ok (.ifCond .eq 14, 3) := by decide +kernel
theorem dX7_readText_21 : decode cX7_readText 21 = .ok (.aload_n 0, 1) := by decide +kernel
theorem dX7_readText_22 : decode cX7_readText 22 = .ok (.getfield 7, 3) := by decide +kernel
theorem dX7_readText_25 : decode cX7_readText 25 = .ok (.iconst 0, 1) := by decide +kernel
theorem dX7_readText_26 : decode cX7_readText 26 = .ok (.iaload, 1) := by decide +kernel
theorem dX7_readText_27 : decode cX7_readText 27 = .ok (.bipush 87, 2) := by decide +kernel
theorem dX7_readText_29 : decode cX7_readText 29 = .ok (.if_icmp .eq 5, 3) := by decide +kernel
theorem dX7_readText_32 : decode cX7_readText 32 = .ok (.iconst 0, 1) := by decide +kernel
theorem dX7_readText_33 : decode cX7_readText 33 = .ok (.ireturn, 1) := by decide +kernel
theorem dX7_readText_34 : decode cX7_readText 34 = .ok (.aload_n 0, 1) := by decide +kernel
theorem dX7_readText_35 : decode cX7_readText 35 = .ok (.iconst 1, 1) := by decide +kernel
theorem dX7_readText_36 : decode cX7_readText 36 = .ok (.putfield 141, 3) := by decide +kernel
theorem dX7_readText_39 : decode cX7_readText 39 = .ok (.aload_n 0, 1) := by decide +kernel
theorem dX7_readText_40 : decode cX7_readText 40 = .ok (.getfield 141, 3) := by decide +kernel
theorem dX7_readText_43 : decode cX7_readText 43 = .ok (.aload_n 0, 1) := by decide +kernel
theorem dX7_readText_44 : decode cX7_readText 44 = .ok (.getfield 134, 3) := by decide +kernel
theorem dX7_readText_47 : decode cX7_readText 47 = .ok (.if_icmp .ge 16, 3) := by decide +kernel
theorem dX7_readText_50 : decode cX7_readText 50 = .ok (.aload_n 0, 1) := by decide +kernel
theorem dX7_readText_51 : decode cX7_readText 51 = .ok (.aload_n 1, 1) := by decide +kernel
theorem dX7_readText_52 : decode cX7_readText 52 = .ok (.invokevirtual 186, 3) := by decide +kernel
theorem dX7_readText_55 : decode cX7_readText 55 = .ok (.ifCond .ne (-16), 3) := by decide +kernel
theorem dX7_readText_58 : decode cX7_readText 58 = .ok (.aload_n 0, 1) := by decide +kernel
theorem dX7_readText_59 : decode cX7_readText 59 = .ok (.getfield 141, 3) := by decide +kernel
theorem dX7_readText_62 : decode cX7_readText 62 = .ok (.ireturn, 1) := by decide +kernel
theorem dX7_readText_63 : decode cX7_readText 63 = .ok (.iconst (-1), 1) := by decide +kernel
theorem dX7_readText_64 : decode cX7_readText 64 = .ok (.ireturn, 1) := by decide +kernel
set_option maxRecDepth 20000 in
theorem ggX7_errorPosition_X7_readText : GoodIn wsX7_errorPosition wsX7_readText := goodIn_r _ [7, 8, 9, 10, 11, 12, 13, 6, 14, 15, 16, 17, 18, 19, 20, 21, 22, 23, 24, 25, 26, 27, 28, 29, 30, 31, 32, 33, 34, 35, 36, 37, 38, 39, 40, 41, 42, 43, 44, 45, 46, 47, 48, 49, 50, 51, 52, 53, 54, 55, 56, 57, 58, 59, 60, 61, 62, 63, 64, 65, 66, 67, 68, 69, 70, 71, 72, 73, 74, 75, 76, 77, 78, 79, 80, 81, 82, 83, 84, 85, 86, 87, 88, 89, 90, 91, 92, 93, 94, 95, 96, 97, 98, 99, 100, 101, 102, 103, 104, 105, 106, 107, 108, 109, 110, 111, 112, 113, 114, 115, 116, 117, 118, 119, 120, 121, 122, 123, 124, 125, 126, 127, 128, 129, 130, 131, 132, 133, 134, 135, 136, 137, 138, 139, 140, 141, 142, 143, 144, 145, 146, 147, 148, 149, 150, 151, 152] (by decide +kernel) (by decide +kernel)
set_option maxRecDepth 20000 in
theorem gX7_errorPosition_X7_readText : GoodIn wsX7_errorPosition (wsV RX7 189 RX7 yX7_readText wsX7_readText) := goodIn_app (goodIn_of _ (by decide +kernel)) ggX7_errorPosition_X7_readText
theorem dX7_errorPosition_0 : decode cX7_errorPosition 0 = .ok (.aload_n 0, 1) := by decide +kernel
theorem dX7_errorPosition_1 : decode cX7_errorPosition 1 = .ok (.iconst 0, 1) := by decide +kernel
theorem dX7_errorPosition_2 : decode cX7_errorPosition 2 = .ok (.putfield 39, 3) := by decide +kernel
theorem dX7_errorPosition_5 : decode cX7_errorPosition 5 = .ok (.aload_n 0, 1) := by decide +kernel
theorem dX7_errorPosition_6 : decode cX7_errorPosition 6 = .ok (.aload_n 0, 1) := by decide +kernel
theorem dX7_errorPosition_7 : decode cX7_errorPosition 7 = .ok (.getfield 16, 3) := by decide +kernel
theorem dX7_errorPosition_10 : decode cX7_errorPosition 10 = .ok (.invokevirtual 189, 3) := by decide +kernel
theorem dX7_errorPosition_13 : decode cX7_errorPosition 13 = .ok (.ireturn, 1) := by decide +kernel
set_option maxRecDepth 20000 in
theorem ggX7_load_X7_readText : GoodIn wsX7_load wsX7_readText := goodIn_r _ [10, 5, 11, 12, 13, 14, 15, 9, 16, 17, 18, 19, 20, 21, 22, 23, 24, 25, 26, 27, 28, 29, 30, 31, 32, 33, 34, 35, 36, 37, 38, 39, 40, 41, 42, 43, 44, 45, 46, 47, 48, 49, 50, 51, 52, 53, 54, 55, 56, 57, 58, 59, 60, 61, 62, 63, 64, 65, 66, 67, 68, 69, 70, 71, 72, 73, 74, 75, 76, 77, 78, 79, 80, 81, 82, 83, 84, 85, 86, 87, 88, 89, 90, 91, 92, 93, 94, 95, 96, 97, 98, 99, 100, 101, 102, 103, 104, 105, 106, 107, 108, 109, 110, 111, 112, 113, 114, 115, 116, 117, 118, 119, 120, 121, 122, 123, 124, 125, 126, 127, 128, 129, 130, 131, 132, 133, 134, 135, 136, 137, 138, 139, 140, 141, 150, 151, 152, 153, 154, 155, 156, 157, 158, 159, 160, 161, 162] (by decide +kernel) (by decide +kernel)
set_option maxRecDepth 20000 in
theorem gX7_load_X7_readText : GoodIn wsX7_load (wsV RX7 189 RX7 yX7_readText wsX7_readText) := goodIn_app (goodIn_of _ (by decide +kernel)) ggX7_load_X7_readText
set_option maxRecDepth 20000 in
theorem ggX7_load_X7_refused : GoodIn wsX7_load wsX7_refused := goodIn_r _ [145, 146, 150, 151, 152, 153, 154, 155, 156, 157, 158, 159, 160, 161, 162] (by decide +kernel) (by decide +kernel)
set_option maxRecDepth 20000 in
theorem gX7_load_X7_refused : GoodIn wsX7_load (wsV RX7 137 RX7 yX7_refused wsX7_refused) := goodIn_app (goodIn_of _ (by decide +kernel)) ggX7_load_X7_refused
set_option maxRecDepth 20000 in
theorem ggX7_load_X7_copyState : GoodIn wsX7_load wsX7_copyState := goodIn_r _ [149] (by decide +kernel) (by decide +kernel)
set_option maxRecDepth 20000 in
theorem gX7_load_X7_copyState : GoodIn wsX7_load (va_wsS RX7 192 yX7_copyState wsX7_copyState) := goodIn_app (goodIn_of _ (by decide +kernel)) ggX7_load_X7_copyState
theorem dX7_load_0 : decode cX7_load 0 = .ok (.aload_n 0, 1) := by decide +kernel
theorem dX7_load_1 : decode cX7_load 1 = .ok (.aload_n 0, 1) := by decide +kernel
theorem dX7_load_2 : decode cX7_load 2 = .ok (.aload_n 0, 1) := by decide +kernel
theorem dX7_load_3 : decode cX7_load 3 = .ok (.getfield 16, 3) := by decide +kernel
theorem dX7_load_6 : decode cX7_load 6 = .ok (.invokevirtual 189, 3) := by decide +kernel
theorem dX7_load_9 : decode cX7_load 9 = .ok (.iconst (-1), 1) := by decide +kernel
theorem dX7_load_10 : decode cX7_load 10 = .ok (.if_icmp .ne 7, 3) := by decide +kernel
theorem dX7_load_13 : decode cX7_load 13 = .ok (.iconst 0, 1) := by decide +kernel
theorem dX7_load_14 : decode cX7_load 14 = .ok (.goto 4, 3) := by decide +kernel
theorem dX7_load_17 : decode cX7_load 17 = .ok (.iconst 1, 1) := by decide +kernel
theorem dX7_load_18 : decode cX7_load 18 = .ok (.invokevirtual 137, 3) := by decide +kernel
theorem dX7_load_21 : decode cX7_load 21 = .ok (.ifCond .eq 5, 3) := by decide +kernel
theorem dX7_load_24 : decode cX7_load 24 = .ok (.iconst 0, 1) := by decide +kernel
theorem dX7_load_25 : decode cX7_load 25 = .ok (.ireturn, 1) := by decide +kernel
theorem dX7_load_26 : decode cX7_load 26 = .ok (.aload_n 0, 1) := by decide +kernel
theorem dX7_load_27 : decode cX7_load 27 = .ok (.getfield 16, 3) := by decide +kernel
theorem dX7_load_30 : decode cX7_load 30 = .ok (.iconst 0, 1) := by decide +kernel
theorem dX7_load_31 : decode cX7_load 31 = .ok (.aload_n 0, 1) := by decide +kernel
theorem dX7_load_32 : decode cX7_load 32 = .ok (.getfield 13, 3) := by decide +kernel
theorem dX7_load_35 : decode cX7_load 35 = .ok (.iconst 0, 1) := by decide +kernel
theorem dX7_load_36 : decode cX7_load 36 = .ok (.invokestatic 192, 3) := by decide +kernel
theorem dX7_load_39 : decode cX7_load 39 = .ok (.aload_n 0, 1) := by decide +kernel
theorem dX7_load_40 : decode cX7_load 40 = .ok (.iconst 0, 1) := by decide +kernel
theorem dX7_load_41 : decode cX7_load 41 = .ok (.putfield 196, 3) := by decide +kernel
theorem dX7_load_44 : decode cX7_load 44 = .ok (.aload_n 0, 1) := by decide +kernel
theorem dX7_load_45 : decode cX7_load 45 = .ok (.getfield 25, 3) := by decide +kernel
theorem dX7_load_48 : decode cX7_load 48 = .ok (.iconst 0, 1) := by decide +kernel
theorem dX7_load_49 : decode cX7_load 49 = .ok (.iconst 0, 1) := by decide +kernel
theorem dX7_load_50 : decode cX7_load 50 = .ok (.bastore, 1) := by decide +kernel
theorem dX7_load_51 : decode cX7_load 51 = .ok (.aload_n 0, 1) := by decide +kernel
theorem dX7_load_52 : decode cX7_load 52 = .ok (.getfield 25, 3) := by decide +kernel
theorem dX7_load_55 : decode cX7_load 55 = .ok (.iconst 1, 1) := by decide +kernel
theorem dX7_load_56 : decode cX7_load 56 = .ok (.iconst 0, 1) := by decide +kernel
theorem dX7_load_57 : decode cX7_load 57 = .ok (.bastore, 1) := by decide +kernel
theorem dX7_load_58 : decode cX7_load 58 = .ok (.aload_n 0, 1) := by decide +kernel
theorem dX7_load_59 : decode cX7_load 59 = .ok (.getfield 144, 3) := by decide +kernel
theorem dX7_load_62 : decode cX7_load 62 = .ok (.ireturn, 1) := by decide +kernel
set_option maxRecDepth 20000 in
theorem ggX7_about_X7_in : GoodIn wsX7_about wsX7_in := goodIn_r _ [6] (by decide +kernel) (by decide +kernel)
set_option maxRecDepth 20000 in
theorem gX7_about_X7_in : GoodIn wsX7_about (va_wsS RX7 57 yX7_in wsX7_in) := goodIn_app (goodIn_of _ (by decide +kernel)) ggX7_about_X7_in
set_option maxRecDepth 20000 in
theorem ggX7_about_X7_refused : GoodIn wsX7_about wsX7_refused := goodIn_r _ [10, 11, 18, 19, 20, 21, 22, 23, 24, 25, 26, 27, 28, 29, 30] (by decide +kernel) (by decide +kernel)
set_option maxRecDepth 20000 in
theorem gX7_about_X7_refused : GoodIn wsX7_about (wsV RX7 137 RX7 yX7_refused wsX7_refused) := goodIn_app (goodIn_of _ (by decide +kernel)) ggX7_about_X7_refused
set_option maxRecDepth 20000 in
theorem ggX7_about_X7_isDam : GoodIn wsX7_about wsX7_isDam := goodIn_r _ [14] (by decide +kernel) (by decide +kernel)
set_option maxRecDepth 20000 in
theorem gX7_about_X7_isDam : GoodIn wsX7_about (va_wsS RX7 51 yX7_isDam wsX7_isDam) := goodIn_app (goodIn_of _ (by decide +kernel)) ggX7_about_X7_isDam
set_option maxRecDepth 20000 in
theorem ggX7_about_X7_isUnderWay : GoodIn wsX7_about wsX7_isUnderWay := goodIn_r _ [17] (by decide +kernel) (by decide +kernel)
set_option maxRecDepth 20000 in
theorem gX7_about_X7_isUnderWay : GoodIn wsX7_about (va_wsS RX7 81 yX7_isUnderWay wsX7_isUnderWay) := goodIn_app (goodIn_of _ (by decide +kernel)) ggX7_about_X7_isUnderWay
theorem dX7_about_0 : decode cX7_about 0 = .ok (.aload_n 0, 1) := by decide +kernel
theorem dX7_about_1 : decode cX7_about 1 = .ok (.iload_n 1, 1) := by decide +kernel
theorem dX7_about_2 : decode cX7_about 2 = .ok (.i2l, 1) := by decide +kernel
theorem dX7_about_3 : decode cX7_about 3 = .ok (.lconst 0, 1) := by decide +kernel
theorem dX7_about_4 : decode cX7_about 4 = .ok (.ldc2_w 199, 3) := by decide +kernel
theorem dX7_about_7 : decode cX7_about 7 = .ok (.invokestatic 57, 3) := by decide +kernel
theorem dX7_about_10 : decode cX7_about 10 = .ok (.ifCond .eq 7, 3) := by decide +kernel
theorem dX7_about_13 : decode cX7_about 13 = .ok (.iconst 0, 1) := by decide +kernel
theorem dX7_about_14 : decode cX7_about 14 = .ok (.goto 4, 3) := by decide +kernel
theorem dX7_about_17 : decode cX7_about 17 = .ok (.iconst 1, 1) := by decide +kernel
theorem dX7_about_18 : decode cX7_about 18 = .ok (.invokevirtual 137, 3) := by decide +kernel
theorem dX7_about_21 : decode cX7_about 21 = .ok (.ifCond .eq 5, 3) := by decide +kernel
theorem dX7_about_24 : decode cX7_about 24 = .ok (.iconst 0, 1) := by decide +kernel
theorem dX7_about_25 : decode cX7_about 25 = .ok (.ireturn, 1) := by decide +kernel
theorem dX7_about_26 : decode cX7_about 26 = .ok (.iconst 0, 1) := by decide +kernel
theorem dX7_about_27 : decode cX7_about 27 = .ok (.istore_n 2, 1) := by decide +kernel
theorem dX7_about_28 : decode cX7_about 28 = .ok (.iconst 0, 1) := by decide +kernel
theorem dX7_about_29 : decode cX7_about 29 = .ok (.istore_n 3, 1) := by decide +kernel
theorem dX7_about_30 : decode cX7_about 30 = .ok (.iload_n 3, 1) := by decide +kernel
theorem dX7_about_31 : decode cX7_about 31 = .ok (.bipush 64, 2) := by decide +kernel
theorem dX7_about_33 : decode cX7_about 33 = .ok (.if_icmp .ge 28, 3) := by decide +kernel
theorem dX7_about_36 : decode cX7_about 36 = .ok (.iload_n 2, 1) := by decide +kernel
theorem dX7_about_37 : decode cX7_about 37 = .ok (.aload_n 0, 1) := by decide +kernel
theorem dX7_about_38 : decode cX7_about 38 = .ok (.getfield 13, 3) := by decide +kernel
theorem dX7_about_41 : decode cX7_about 41 = .ok (.iload_n 3, 1) := by decide +kernel
theorem dX7_about_42 : decode cX7_about 42 = .ok (.invokestatic 51, 3) := by decide +kernel
theorem dX7_about_45 : decode cX7_about 45 = .ok (.ifCond .eq 7, 3) := by decide +kernel
theorem dX7_about_48 : decode cX7_about 48 = .ok (.iconst 1, 1) := by decide +kernel
theorem dX7_about_49 : decode cX7_about 49 = .ok (.goto 4, 3) := by decide +kernel
theorem dX7_about_52 : decode cX7_about 52 = .ok (.iconst 0, 1) := by decide +kernel
theorem dX7_about_53 : decode cX7_about 53 = .ok (.iadd, 1) := by decide +kernel
theorem dX7_about_54 : decode cX7_about 54 = .ok (.istore_n 2, 1) := by decide +kernel
theorem dX7_about_55 : decode cX7_about 55 = .ok (.iinc 3 1, 3) := by decide +kernel
theorem dX7_about_58 : decode cX7_about 58 = .ok (.goto (-28), 3) := by decide +kernel
theorem dX7_about_61 : decode cX7_about 61 = .ok (.iload_n 1, 1) := by decide +kernel
theorem dX7_about_62 : decode cX7_about 62 = .ok (.tableswitch 74 2 8 #[42, 74, 63, 65, 65, 65, 65], 42) := by decide +kernel
theorem dX7_about_104 : decode cX7_about 104 = .ok (.aload_n 0, 1) := by decide +kernel
theorem dX7_about_105 : decode cX7_about 105 = .ok (.getfield 13, 3) := by decide +kernel
theorem dX7_about_108 : decode cX7_about 108 = .ok (.invokestatic 81, 3) := by decide +kernel
theorem dX7_about_111 : decode cX7_about 111 = .ok (.ifCond .eq 12, 3) := by decide +kernel
theorem dX7_about_114 : decode cX7_about 114 = .ok (.aload_n 0, 1) := by decide +kernel
theorem dX7_about_115 : decode cX7_about 115 = .ok (.getfield 13, 3) := by decide +kernel
theorem dX7_about_118 : decode cX7_about 118 = .ok (.iconst 2, 1) := by decide +kernel
theorem dX7_about_119 : decode cX7_about 119 = .ok (.iaload, 1) := by decide +kernel
theorem dX7_about_120 : decode cX7_about 120 = .ok (.goto 4, 3) := by decide +kernel
theorem dX7_about_123 : decode cX7_about 123 = .ok (.iconst (-1), 1) := by decide +kernel
theorem dX7_about_124 : decode cX7_about 124 = .ok (.ireturn, 1) := by decide +kernel
theorem dX7_about_125 : decode cX7_about 125 = .ok (.iload_n 2, 1) := by decide +kernel
theorem dX7_about_126 : decode cX7_about 126 = .ok (.ireturn, 1) := by decide +kernel
theorem dX7_about_127 : decode cX7_about 127 = .ok (.aload_n 0, 1) := by decide +kernel
theorem dX7_about_128 : decode cX7_about 128 = .ok (.getfield 13, 3) := by decide +kernel
theorem dX7_about_131 : decode cX7_about 131 = .ok (.iload_n 1, 1) := by decide +kernel
theorem dX7_about_132 : decode cX7_about 132 = .ok (.iconst 1, 1) := by decide +kernel
theorem dX7_about_133 : decode cX7_about 133 = .ok (.isub, 1) := by decide +kernel
theorem dX7_about_134 : decode cX7_about 134 = .ok (.iaload, 1) := by decide +kernel
theorem dX7_about_135 : decode cX7_about 135 = .ok (.ireturn, 1) := by decide +kernel
theorem dX7_about_136 : decode cX7_about 136 = .ok (.aload_n 0, 1) := by decide +kernel
theorem dX7_about_137 : decode cX7_about 137 = .ok (.getfield 13, 3) := by decide +kernel
theorem dX7_about_140 : decode cX7_about 140 = .ok (.iload_n 1, 1) := by decide +kernel
theorem dX7_about_141 : decode cX7_about 141 = .ok (.iaload, 1) := by decide +kernel
theorem dX7_about_142 : decode cX7_about 142 = .ok (.ireturn, 1) := by decide +kernel
set_option maxRecDepth 20000 in
theorem ggX7_playerOf_X7_in : GoodIn wsX7_playerOf wsX7_in := goodIn_r _ [6] (by decide +kernel) (by decide +kernel)
set_option maxRecDepth 20000 in
theorem gX7_playerOf_X7_in : GoodIn wsX7_playerOf (va_wsS RX7 57 yX7_in wsX7_in) := goodIn_app (goodIn_of _ (by decide +kernel)) ggX7_playerOf_X7_in
set_option maxRecDepth 20000 in
theorem ggX7_playerOf_X7_refused : GoodIn wsX7_playerOf wsX7_refused := goodIn_r _ [10, 11, 18, 19, 20, 21, 22, 23, 24, 25, 26, 27, 28, 29, 30] (by decide +kernel) (by decide +kernel)
set_option maxRecDepth 20000 in
theorem gX7_playerOf_X7_refused : GoodIn wsX7_playerOf (wsV RX7 137 RX7 yX7_refused wsX7_refused) := goodIn_app (goodIn_of _ (by decide +kernel)) ggX7_playerOf_X7_refused
set_option maxRecDepth 20000 in
theorem ggX7_playerOf_X7_of : GoodIn wsX7_playerOf wsX7_of := goodIn_r _ [14] (by decide +kernel) (by decide +kernel)
set_option maxRecDepth 20000 in
theorem gX7_playerOf_X7_of : GoodIn wsX7_playerOf (va_wsS RX7 47 yX7_of wsX7_of) := goodIn_app (goodIn_of _ (by decide +kernel)) ggX7_playerOf_X7_of
set_option maxRecDepth 20000 in
theorem ggX7_playerOf_X7_head : GoodIn wsX7_playerOf wsX7_head := goodIn_r _ [17, 12, 13, 5, 14] (by decide +kernel) (by decide +kernel)
set_option maxRecDepth 20000 in
theorem gX7_playerOf_X7_head : GoodIn wsX7_playerOf (va_wsS RX7 91 yX7_head wsX7_head) := goodIn_app (goodIn_of _ (by decide +kernel)) ggX7_playerOf_X7_head
theorem dX7_playerOf_0 : decode cX7_playerOf 0 = .ok (.aload_n 0, 1) := by decide +kernel
theorem dX7_playerOf_1 : decode cX7_playerOf 1 = .ok (.iload_n 1, 1) := by decide +kernel
theorem dX7_playerOf_2 : decode cX7_playerOf 2 = .ok (.i2l, 1) := by decide +kernel
theorem dX7_playerOf_3 : decode cX7_playerOf 3 = .ok (.lconst 0, 1) := by decide +kernel
theorem dX7_playerOf_4 : decode cX7_playerOf 4 = .ok (.lconst 1, 1) := by decide +kernel
theorem dX7_playerOf_5 : decode cX7_playerOf 5 = .ok (.invokestatic 57, 3) := by decide +kernel
theorem dX7_playerOf_8 : decode cX7_playerOf 8 = .ok (.ifCond .ne 7, 3) := by decide +kernel
theorem dX7_playerOf_11 : decode cX7_playerOf 11 = .ok (.iconst 1, 1) := by decide +kernel
theorem dX7_playerOf_12 : decode cX7_playerOf 12 = .ok (.goto 20, 3) := by decide +kernel
theorem dX7_playerOf_15 : decode cX7_playerOf 15 = .ok (.iload_n 2, 1) := by decide +kernel
theorem dX7_playerOf_16 : decode cX7_playerOf 16 = .ok (.i2l, 1) := by decide +kernel
theorem dX7_playerOf_17 : decode cX7_playerOf 17 = .ok (.lconst 0, 1) := by decide +kernel
theorem dX7_playerOf_18 : decode cX7_playerOf 18 = .ok (.ldc2_w 201, 3) := by decide +kernel
theorem dX7_playerOf_21 : decode cX7_playerOf 21 = .ok (.invokestatic 57, 3) := by decide +kernel
theorem dX7_playerOf_24 : decode cX7_playerOf 24 = .ok (.ifCond .eq 7, 3) := by decide +kernel
theorem dX7_playerOf_27 : decode cX7_playerOf 27 = .ok (.iconst 0, 1) := by decide +kernel
theorem dX7_playerOf_28 : decode cX7_playerOf 28 = .ok (.goto 4, 3) := by decide +kernel
theorem dX7_playerOf_31 : decode cX7_playerOf 31 = .ok (.iconst 2, 1) := by decide +kernel
theorem dX7_playerOf_32 : decode cX7_playerOf 32 = .ok (.invokevirtual 137, 3) := by decide +kernel
theorem dX7_playerOf_35 : decode cX7_playerOf 35 = .ok (.ifCond .eq 5, 3) := by decide +kernel
theorem dX7_playerOf_38 : decode cX7_playerOf 38 = .ok (.iconst 0, 1) := by decide +kernel
theorem dX7_playerOf_39 : decode cX7_playerOf 39 = .ok (.ireturn, 1) := by decide +kernel
theorem dX7_playerOf_40 : decode cX7_playerOf 40 = .ok (.iload_n 2, 1) := by decide +kernel
theorem dX7_playerOf_41 : decode cX7_playerOf 41 = .ok (.lookupswitch 64 #[(0, 35), (1, 45), (5, 54)], 35) := by decide +kernel
theorem dX7_playerOf_76 : decode cX7_playerOf 76 = .ok (.aload_n 0, 1) := by decide +kernel
theorem dX7_playerOf_77 : decode cX7_playerOf 77 = .ok (.getfield 13, 3) := by decide +kernel
theorem dX7_playerOf_80 : decode cX7_playerOf 80 = .ok (.iload_n 1, 1) := by decide +kernel
theorem dX7_playerOf_81 : decode cX7_playerOf 81 = .ok (.iconst 4, 1) := by decide +kernel
theorem dX7_playerOf_82 : decode cX7_playerOf 82 = .ok (.invokestatic 47, 3) := by decide +kernel
theorem dX7_playerOf_85 : decode cX7_playerOf 85 = .ok (.ireturn, 1) := by decide +kernel
theorem dX7_playerOf_86 : decode cX7_playerOf 86 = .ok (.aload_n 0, 1) := by decide +kernel
theorem dX7_playerOf_87 : decode cX7_playerOf 87 = .ok (.getfield 13, 3) := by decide +kernel
theorem dX7_playerOf_90 : decode cX7_playerOf 90 = .ok (.iload_n 1, 1) := by decide +kernel
theorem dX7_playerOf_91 : decode cX7_playerOf 91 = .ok (.invokestatic 91, 3) := by decide +kernel
theorem dX7_playerOf_94 : decode cX7_playerOf 94 = .ok (.ireturn, 1) := by decide +kernel
theorem dX7_playerOf_95 : decode cX7_playerOf 95 = .ok (.aload_n 0, 1) := by decide +kernel
theorem dX7_playerOf_96 : decode cX7_playerOf 96 = .ok (.getfield 13, 3) := by decide +kernel
theorem dX7_playerOf_99 : decode cX7_playerOf 99 = .ok (.iload_n 1, 1) := by decide +kernel
theorem dX7_playerOf_100 : decode cX7_playerOf 100 = .ok (.iconst 3, 1) := by decide +kernel
theorem dX7_playerOf_101 : decode cX7_playerOf 101 = .ok (.invokestatic 47, 3) := by decide +kernel
theorem dX7_playerOf_104 : decode cX7_playerOf 104 = .ok (.ireturn, 1) := by decide +kernel
theorem dX7_playerOf_105 : decode cX7_playerOf 105 = .ok (.aload_n 0, 1) := by decide +kernel
theorem dX7_playerOf_106 : decode cX7_playerOf 106 = .ok (.getfield 13, 3) := by decide +kernel
theorem dX7_playerOf_109 : decode cX7_playerOf 109 = .ok (.iload_n 1, 1) := by decide +kernel
theorem dX7_playerOf_110 : decode cX7_playerOf 110 = .ok (.iload_n 2, 1) := by decide +kernel
theorem dX7_playerOf_111 : decode cX7_playerOf 111 = .ok (.iconst 2, 1) := by decide +kernel
theorem dX7_playerOf_112 : decode cX7_playerOf 112 = .ok (.isub, 1) := by decide +kernel
theorem dX7_playerOf_113 : decode cX7_playerOf 113 = .ok (.invokestatic 47, 3) := by decide +kernel
theorem dX7_playerOf_116 : decode cX7_playerOf 116 = .ok (.ireturn, 1) := by decide +kernel
set_option maxRecDepth 20000 in
theorem ggX7_cellOf_X7_isCell : GoodIn wsX7_cellOf wsX7_isCell := goodIn_r _ [6, 7, 8, 9, 5, 10] (by decide +kernel) (by decide +kernel)
set_option maxRecDepth 20000 in
theorem gX7_cellOf_X7_isCell : GoodIn wsX7_cellOf (va_wsS RX7 65 yX7_isCell wsX7_isCell) := goodIn_app (goodIn_of _ (by decide +kernel)) ggX7_cellOf_X7_isCell
set_option maxRecDepth 20000 in
theorem ggX7_cellOf_X7_in : GoodIn wsX7_cellOf wsX7_in := goodIn_r _ [10] (by decide +kernel) (by decide +kernel)
set_option maxRecDepth 20000 in
theorem gX7_cellOf_X7_in : GoodIn wsX7_cellOf (va_wsS RX7 57 yX7_in wsX7_in) := goodIn_app (goodIn_of _ (by decide +kernel)) ggX7_cellOf_X7_in
set_option maxRecDepth 20000 in
theorem ggX7_cellOf_X7_refused : GoodIn wsX7_cellOf wsX7_refused := goodIn_r _ [14, 15, 22, 23, 24, 25, 26, 27, 28, 29, 30, 31, 32, 33, 34] (by decide +kernel) (by decide +kernel)
set_option maxRecDepth 20000 in
theorem gX7_cellOf_X7_refused : GoodIn wsX7_cellOf (wsV RX7 137 RX7 yX7_refused wsX7_refused) := goodIn_app (goodIn_of _ (by decide +kernel)) ggX7_cellOf_X7_refused
set_option maxRecDepth 20000 in
theorem ggX7_cellOf_X7_cost : GoodIn wsX7_cellOf wsX7_cost := goodIn_r _ [18] (by decide +kernel) (by decide +kernel)
set_option maxRecDepth 20000 in
theorem gX7_cellOf_X7_cost : GoodIn wsX7_cellOf (va_wsS RX7 85 yX7_cost wsX7_cost) := goodIn_app (goodIn_of _ (by decide +kernel)) ggX7_cellOf_X7_cost
set_option maxRecDepth 20000 in
theorem ggX7_cellOf_X7_isDam : GoodIn wsX7_cellOf wsX7_isDam := goodIn_r _ [21] (by decide +kernel) (by decide +kernel)
set_option maxRecDepth 20000 in
theorem gX7_cellOf_X7_isDam : GoodIn wsX7_cellOf (va_wsS RX7 51 yX7_isDam wsX7_isDam) := goodIn_app (goodIn_of _ (by decide +kernel)) ggX7_cellOf_X7_isDam
theorem dX7_cellOf_0 : decode cX7_cellOf 0 = .ok (.aload_n 0, 1) := by decide +kernel
theorem dX7_cellOf_1 : decode cX7_cellOf 1 = .ok (.iload_n 1, 1) := by decide +kernel
theorem dX7_cellOf_2 : decode cX7_cellOf 2 = .ok (.iload_n 2, 1) := by decide +kernel
theorem dX7_cellOf_3 : decode cX7_cellOf 3 = .ok (.invokestatic 65, 3) := by decide +kernel
theorem dX7_cellOf_6 : decode cX7_cellOf 6 = .ok (.ifCond .ne 7, 3) := by decide +kernel
theorem dX7_cellOf_9 : decode cX7_cellOf 9 = .ok (.iconst 1, 1) := by decide +kernel
theorem dX7_cellOf_10 : decode cX7_cellOf 10 = .ok (.goto 20, 3) := by decide +kernel
theorem dX7_cellOf_13 : decode cX7_cellOf 13 = .ok (.iload_n 3, 1) := by decide +kernel
theorem dX7_cellOf_14 : decode cX7_cellOf 14 = .ok (.i2l, 1) := by decide +kernel
theorem dX7_cellOf_15 : decode cX7_cellOf 15 = .ok (.lconst 0, 1) := by decide +kernel
theorem dX7_cellOf_16 : decode cX7_cellOf 16 = .ok (.ldc2_w 203, 3) := by decide +kernel
theorem dX7_cellOf_19 : decode cX7_cellOf 19 = .ok (.invokestatic 57, 3) := by decide +kernel
theorem dX7_cellOf_22 : decode cX7_cellOf 22 = .ok (.ifCond .eq 7, 3) := by decide +kernel
theorem dX7_cellOf_25 : decode cX7_cellOf 25 = .ok (.iconst 0, 1) := by decide +kernel
theorem dX7_cellOf_26 : decode cX7_cellOf 26 = .ok (.goto 4, 3) := by decide +kernel
theorem dX7_cellOf_29 : decode cX7_cellOf 29 = .ok (.iconst 2, 1) := by decide +kernel
theorem dX7_cellOf_30 : decode cX7_cellOf 30 = .ok (.invokevirtual 137, 3) := by decide +kernel
theorem dX7_cellOf_33 : decode cX7_cellOf 33 = .ok (.ifCond .eq 5, 3) := by decide +kernel
theorem dX7_cellOf_36 : decode cX7_cellOf 36 = .ok (.iconst 0, 1) := by decide +kernel
theorem dX7_cellOf_37 : decode cX7_cellOf 37 = .ok (.ireturn, 1) := by decide +kernel
theorem dX7_cellOf_38 : decode cX7_cellOf 38 = .ok (.bipush 8, 2) := by decide +kernel
theorem dX7_cellOf_40 : decode cX7_cellOf 40 = .ok (.iload_n 2, 1) := by decide +kernel
theorem dX7_cellOf_41 : decode cX7_cellOf 41 = .ok (.imul, 1) := by decide +kernel
theorem dX7_cellOf_42 : decode cX7_cellOf 42 = .ok (.iload_n 1, 1) := by decide +kernel
theorem dX7_cellOf_43 : decode cX7_cellOf 43 = .ok (.iadd, 1) := by decide +kernel
theorem dX7_cellOf_44 : decode cX7_cellOf 44 = .ok (.istore 4, 2) := by decide +kernel
theorem dX7_cellOf_46 : decode cX7_cellOf 46 = .ok (.iload_n 3, 1) := by decide +kernel
theorem dX7_cellOf_47 : decode cX7_cellOf 47 = .ok (.iconst 2, 1) := by decide +kernel
theorem dX7_cellOf_48 : decode cX7_cellOf 48 = .ok (.if_icmp .ge 16, 3) := by decide +kernel
theorem dX7_cellOf_51 : decode cX7_cellOf 51 = .ok (.aload_n 0, 1) := by decide +kernel
theorem dX7_cellOf_52 : decode cX7_cellOf 52 = .ok (.getfield 13, 3) := by decide +kernel
theorem dX7_cellOf_55 : decode cX7_cellOf 55 = .ok (.iload_n 3, 1) := by decide +kernel
theorem dX7_cellOf_56 : decode cX7_cellOf 56 = .ok (.iload 4, 2) := by decide +kernel
theorem dX7_cellOf_58 : decode cX7_cellOf 58 = .ok (.invokestatic 85, 3) := by decide +kernel
theorem dX7_cellOf_61 : decode cX7_cellOf 61 = .ok (.goto 49, 3) := by decide +kernel
theorem dX7_cellOf_64 : decode cX7_cellOf 64 = .ok (.iload_n 3, 1) := by decide +kernel
theorem dX7_cellOf_65 : decode cX7_cellOf 65 = .ok (.iconst 3, 1) := by decide +kernel
theorem dX7_cellOf_66 : decode cX7_cellOf 66 = .ok (.if_icmp .ne 17, 3) := by decide +kernel
theorem dX7_cellOf_69 : decode cX7_cellOf 69 = .ok (.aload_n 0, 1) := by decide +kernel
theorem dX7_cellOf_70 : decode cX7_cellOf 70 = .ok (.getfield 13, 3) := by decide +kernel
theorem dX7_cellOf_73 : decode cX7_cellOf 73 = .ok (.sipush 148, 3) := by decide +kernel
theorem dX7_cellOf_76 : decode cX7_cellOf 76 = .ok (.iload 4, 2) := by decide +kernel
theorem dX7_cellOf_78 : decode cX7_cellOf 78 = .ok (.iadd, 1) := by decide +kernel
theorem dX7_cellOf_79 : decode cX7_cellOf 79 = .ok (.iaload, 1) := by decide +kernel
theorem dX7_cellOf_80 : decode cX7_cellOf 80 = .ok (.goto 30, 3) := by decide +kernel
theorem dX7_cellOf_83 : decode cX7_cellOf 83 = .ok (.aload_n 0, 1) := by decide +kernel
theorem dX7_cellOf_84 : decode cX7_cellOf 84 = .ok (.getfield 13, 3) := by decide +kernel
theorem dX7_cellOf_87 : decode cX7_cellOf 87 = .ok (.iload 4, 2) := by decide +kernel
theorem dX7_cellOf_89 : decode cX7_cellOf 89 = .ok (.invokestatic 51, 3) := by decide +kernel
theorem dX7_cellOf_92 : decode cX7_cellOf 92 = .ok (.ifCond .eq 7, 3) := by decide +kernel
theorem dX7_cellOf_95 : decode cX7_cellOf 95 = .ok (.iconst 4, 1) := by decide +kernel
theorem dX7_cellOf_96 : decode cX7_cellOf 96 = .ok (.goto 14, 3) := by decide +kernel
theorem dX7_cellOf_99 : decode cX7_cellOf 99 = .ok (.aload_n 0, 1) := by decide +kernel
theorem dX7_cellOf_100 : decode cX7_cellOf 100 = .ok (.getfield 13, 3) := by decide +kernel
theorem dX7_cellOf_103 : decode cX7_cellOf 103 = .ok (.sipush 212, 3) := by decide +kernel
theorem dX7_cellOf_106 : decode cX7_cellOf 106 = .ok (.iload 4, 2) := by decide +kernel
theorem dX7_cellOf_108 : decode cX7_cellOf 108 = .ok (.iadd, 1) := by decide +kernel
theorem dX7_cellOf_109 : decode cX7_cellOf 109 = .ok (.iaload, 1) := by decide +kernel
theorem dX7_cellOf_110 : decode cX7_cellOf 110 = .ok (.ireturn, 1) := by decide +kernel
set_option maxRecDepth 20000 in
theorem ggX7_course_X7_in : GoodIn wsX7_course wsX7_in := goodIn_r _ [5] (by decide +kernel) (by decide +kernel)
set_option maxRecDepth 20000 in
theorem gX7_course_X7_in : GoodIn wsX7_course (va_wsS RX7 57 yX7_in wsX7_in) := goodIn_app (goodIn_of _ (by decide +kernel)) ggX7_course_X7_in
set_option maxRecDepth 20000 in
theorem ggX7_course_X7_of : GoodIn wsX7_course wsX7_of := goodIn_r _ [8] (by decide +kernel) (by decide +kernel)
set_option maxRecDepth 20000 in
theorem gX7_course_X7_of : GoodIn wsX7_course (va_wsS RX7 47 yX7_of wsX7_of) := goodIn_app (goodIn_of _ (by decide +kernel)) ggX7_course_X7_of
set_option maxRecDepth 20000 in
theorem ggX7_course_X7_refused : GoodIn wsX7_course wsX7_refused := goodIn_r _ [12, 13, 14, 15, 16, 17, 18, 19, 20, 21, 22, 23, 24, 25, 26] (by decide +kernel) (by decide +kernel)
set_option maxRecDepth 20000 in
theorem gX7_course_X7_refused : GoodIn wsX7_course (wsV RX7 137 RX7 yX7_refused wsX7_refused) := goodIn_app (goodIn_of _ (by decide +kernel)) ggX7_course_X7_refused
theorem dX7_course_0 : decode cX7_course 0 = .ok (.aload_n 0, 1) := by decide +kernel
theorem dX7_course_1 : decode cX7_course 1 = .ok (.iload_n 1, 1) := by decide +kernel
theorem dX7_course_2 : decode cX7_course 2 = .ok (.i2l, 1) := by decide +kernel
theorem dX7_course_3 : decode cX7_course 3 = .ok (.lconst 0, 1) := by decide +kernel
theorem dX7_course_4 : decode cX7_course 4 = .ok (.lconst 1, 1) := by decide +kernel
theorem dX7_course_5 : decode cX7_course 5 = .ok (.invokestatic 57, 3) := by decide +kernel
theorem dX7_course_8 : decode cX7_course 8 = .ok (.ifCond .eq 30, 3) := by decide +kernel
theorem dX7_course_11 : decode cX7_course 11 = .ok (.iload_n 2, 1) := by decide +kernel
theorem dX7_course_12 : decode cX7_course 12 = .ok (.i2l, 1) := by decide +kernel
theorem dX7_course_13 : decode cX7_course 13 = .ok (.lconst 0, 1) := by decide +kernel
theorem dX7_course_14 : decode cX7_course 14 = .ok (.aload_n 0, 1) := by decide +kernel
theorem dX7_course_15 : decode cX7_course 15 = .ok (.getfield 13, 3) := by decide +kernel
theorem dX7_course_18 : decode cX7_course 18 = .ok (.iload_n 1, 1) := by decide +kernel
theorem dX7_course_19 : decode cX7_course 19 = .ok (.iconst 1, 1) := by decide +kernel
theorem dX7_course_20 : decode cX7_course 20 = .ok (.iand, 1) := by decide +kernel
theorem dX7_course_21 : decode cX7_course 21 = .ok (.iconst 4, 1) := by decide +kernel
theorem dX7_course_22 : decode cX7_course 22 = .ok (.invokestatic 47, 3) := by decide +kernel
theorem dX7_course_25 : decode cX7_course 25 = .ok (.iconst 1, 1) := by decide +kernel
theorem dX7_course_26 : decode cX7_course 26 = .ok (.isub, 1) := by decide +kernel
theorem dX7_course_27 : decode cX7_course 27 = .ok (.i2l, 1) := by decide +kernel
theorem dX7_course_28 : decode cX7_course 28 = .ok (.invokestatic 57, 3) := by decide +kernel
theorem dX7_course_31 : decode cX7_course 31 = .ok (.ifCond .eq 7, 3) := by decide +kernel
theorem dX7_course_34 : decode cX7_course 34 = .ok (.iconst 0, 1) := by decide +kernel
theorem dX7_course_35 : decode cX7_course 35 = .ok (.goto 4, 3) := by decide +kernel
theorem dX7_course_38 : decode cX7_course 38 = .ok (.iconst 1, 1) := by decide +kernel
theorem dX7_course_39 : decode cX7_course 39 = .ok (.invokevirtual 137, 3) := by decide +kernel
theorem dX7_course_42 : decode cX7_course 42 = .ok (.ifCond .eq 5, 3) := by decide +kernel
theorem dX7_course_45 : decode cX7_course 45 = .ok (.iconst 0, 1) := by decide +kernel
theorem dX7_course_46 : decode cX7_course 46 = .ok (.ireturn, 1) := by decide +kernel
theorem dX7_course_47 : decode cX7_course 47 = .ok (.aload_n 0, 1) := by decide +kernel
theorem dX7_course_48 : decode cX7_course 48 = .ok (.getfield 13, 3) := by decide +kernel
theorem dX7_course_51 : decode cX7_course 51 = .ok (.sipush 276, 3) := by decide +kernel
theorem dX7_course_54 : decode cX7_course 54 = .ok (.bipush 64, 2) := by decide +kernel
theorem dX7_course_56 : decode cX7_course 56 = .ok (.iload_n 1, 1) := by decide +kernel
theorem dX7_course_57 : decode cX7_course 57 = .ok (.imul, 1) := by decide +kernel
theorem dX7_course_58 : decode cX7_course 58 = .ok (.iadd, 1) := by decide +kernel
theorem dX7_course_59 : decode cX7_course 59 = .ok (.iload_n 2, 1) := by decide +kernel
theorem dX7_course_60 : decode cX7_course 60 = .ok (.iadd, 1) := by decide +kernel
theorem dX7_course_61 : decode cX7_course 61 = .ok (.iaload, 1) := by decide +kernel
theorem dX7_course_62 : decode cX7_course 62 = .ok (.ireturn, 1) := by decide +kernel
set_option maxRecDepth 20000 in
theorem ggX7_setting_X7_in : GoodIn wsX7_setting wsX7_in := goodIn_r _ [5] (by decide +kernel) (by decide +kernel)
set_option maxRecDepth 20000 in
theorem gX7_setting_X7_in : GoodIn wsX7_setting (va_wsS RX7 57 yX7_in wsX7_in) := goodIn_app (goodIn_of _ (by decide +kernel)) ggX7_setting_X7_in
set_option maxRecDepth 20000 in
theorem ggX7_setting_X7_refused : GoodIn wsX7_setting wsX7_refused := goodIn_r _ [9, 10, 11, 12, 13, 14, 15, 16, 17, 18, 19, 20, 21, 22, 23] (by decide +kernel) (by decide +kernel)
set_option maxRecDepth 20000 in
theorem gX7_setting_X7_refused : GoodIn wsX7_setting (wsV RX7 137 RX7 yX7_refused wsX7_refused) := goodIn_app (goodIn_of _ (by decide +kernel)) ggX7_setting_X7_refused
theorem dX7_setting_0 : decode cX7_setting 0 = .ok (.aload_n 0, 1) := by decide +kernel
theorem dX7_setting_1 : decode cX7_setting 1 = .ok (.iload_n 1, 1) := by decide +kernel
theorem dX7_setting_2 : decode cX7_setting 2 = .ok (.i2l, 1) := by decide +kernel
theorem dX7_setting_3 : decode cX7_setting 3 = .ok (.lconst 0, 1) := by decide +kernel
theorem dX7_setting_4 : decode cX7_setting 4 = .ok (.lconst 1, 1) := by decide +kernel
theorem dX7_setting_5 : decode cX7_setting 5 = .ok (.invokestatic 57, 3) := by decide +kernel
theorem dX7_setting_8 : decode cX7_setting 8 = .ok (.ifCond .eq 7, 3) := by decide +kernel
theorem dX7_setting_11 : decode cX7_setting 11 = .ok (.iconst 0, 1) := by decide +kernel
theorem dX7_setting_12 : decode cX7_setting 12 = .ok (.goto 4, 3) := by decide +kernel
theorem dX7_setting_15 : decode cX7_setting 15 = .ok (.iconst 1, 1) := by decide +kernel
theorem dX7_setting_16 : decode cX7_setting 16 = .ok (.invokevirtual 137, 3) := by decide +kernel
theorem dX7_setting_19 : decode cX7_setting 19 = .ok (.ifCond .eq 5, 3) := by decide +kernel
theorem dX7_setting_22 : decode cX7_setting 22 = .ok (.iconst 0, 1) := by decide +kernel
theorem dX7_setting_23 : decode cX7_setting 23 = .ok (.ireturn, 1) := by decide +kernel
theorem dX7_setting_24 : decode cX7_setting 24 = .ok (.aload_n 0, 1) := by decide +kernel
theorem dX7_setting_25 : decode cX7_setting 25 = .ok (.getfield 13, 3) := by decide +kernel
theorem dX7_setting_28 : decode cX7_setting 28 = .ok (.bipush 8, 2) := by decide +kernel
theorem dX7_setting_30 : decode cX7_setting 30 = .ok (.iload_n 1, 1) := by decide +kernel
theorem dX7_setting_31 : decode cX7_setting 31 = .ok (.iadd, 1) := by decide +kernel
theorem dX7_setting_32 : decode cX7_setting 32 = .ok (.iaload, 1) := by decide +kernel
theorem dX7_setting_33 : decode cX7_setting 33 = .ok (.ireturn, 1) := by decide +kernel
set_option maxRecDepth 20000 in
theorem ggX7_remember_X7_copyState : GoodIn wsX7_remember wsX7_copyState := goodIn_r _ [7] (by decide +kernel) (by decide +kernel)
set_option maxRecDepth 20000 in
theorem gX7_remember_X7_copyState : GoodIn wsX7_remember (va_wsS RX7 192 yX7_copyState wsX7_copyState) := goodIn_app (goodIn_of _ (by decide +kernel)) ggX7_remember_X7_copyState
theorem dX7_remember_0 : decode cX7_remember 0 = .ok (.aload_n 0, 1) := by decide +kernel
theorem dX7_remember_1 : decode cX7_remember 1 = .ok (.getfield 196, 3) := by decide +kernel
theorem dX7_remember_4 : decode cX7_remember 4 = .ok (.bipush 14, 2) := by decide +kernel
theorem dX7_remember_6 : decode cX7_remember 6 = .ok (.if_icmp .ne 44, 3) := by decide +kernel
theorem dX7_remember_9 : decode cX7_remember 9 = .ok (.iconst 0, 1) := by decide +kernel
theorem dX7_remember_10 : decode cX7_remember 10 = .ok (.istore_n 1, 1) := by decide +kernel
theorem dX7_remember_11 : decode cX7_remember 11 = .ok (.iload_n 1, 1) := by decide +kernel
theorem dX7_remember_12 : decode cX7_remember 12 = .ok (.sipush 5252, 3) := by decide +kernel
theorem dX7_remember_15 : decode cX7_remember 15 = .ok (.if_icmp .ge 25, 3) := by decide +kernel
theorem dX7_remember_18 : decode cX7_remember 18 = .ok (.aload_n 0, 1) := by decide +kernel
theorem dX7_remember_19 : decode cX7_remember 19 = .ok (.getfield 19, 3) := by decide +kernel
theorem dX7_remember_22 : decode cX7_remember 22 = .ok (.iload_n 1, 1) := by decide +kernel
theorem dX7_remember_23 : decode cX7_remember 23 = .ok (.aload_n 0, 1) := by decide +kernel
theorem dX7_remember_24 : decode cX7_remember 24 = .ok (.getfield 19, 3) := by decide +kernel
theorem dX7_remember_27 : decode cX7_remember 27 = .ok (.iload_n 1, 1) := by decide +kernel
theorem dX7_remember_28 : decode cX7_remember 28 = .ok (.sipush 404, 3) := by decide +kernel
theorem dX7_remember_31 : decode cX7_remember 31 = .ok (.iadd, 1) := by decide +kernel
theorem dX7_remember_32 : decode cX7_remember 32 = .ok (.iaload, 1) := by decide +kernel
theorem dX7_remember_33 : decode cX7_remember 33 = .ok (.iastore, 1) := by decide +kernel
theorem dX7_remember_34 : decode cX7_remember 34 = .ok (.iinc 1 1, 3) := by decide +kernel
theorem dX7_remember_37 : decode cX7_remember 37 = .ok (.goto (-26), 3) := by decide +kernel
theorem dX7_remember_40 : decode cX7_remember 40 = .ok (.aload_n 0, 1) := by decide +kernel
theorem dX7_remember_41 : decode cX7_remember 41 = .ok (.dup, 1) := by decide +kernel
theorem dX7_remember_42 : decode cX7_remember 42 = .ok (.getfield 196, 3) := by decide +kernel
theorem dX7_remember_45 : decode cX7_remember 45 = .ok (.iconst 1, 1) := by decide +kernel
theorem dX7_remember_46 : decode cX7_remember 46 = .ok (.isub, 1) := by decide +kernel
theorem dX7_remember_47 : decode cX7_remember 47 = .ok (.putfield 196, 3) := by decide +kernel
theorem dX7_remember_50 : decode cX7_remember 50 = .ok (.aload_n 0, 1) := by decide +kernel
theorem dX7_remember_51 : decode cX7_remember 51 = .ok (.getfield 13, 3) := by decide +kernel
theorem dX7_remember_54 : decode cX7_remember 54 = .ok (.iconst 0, 1) := by decide +kernel
theorem dX7_remember_55 : decode cX7_remember 55 = .ok (.aload_n 0, 1) := by decide +kernel
theorem dX7_remember_56 : decode cX7_remember 56 = .ok (.getfield 19, 3) := by decide +kernel
theorem dX7_remember_59 : decode cX7_remember 59 = .ok (.sipush 404, 3) := by decide +kernel
theorem dX7_remember_62 : decode cX7_remember 62 = .ok (.aload_n 0, 1) := by decide +kernel
theorem dX7_remember_63 : decode cX7_remember 63 = .ok (.getfield 196, 3) := by decide +kernel
theorem dX7_remember_66 : decode cX7_remember 66 = .ok (.imul, 1) := by decide +kernel
theorem dX7_remember_67 : decode cX7_remember 67 = .ok (.invokestatic 192, 3) := by decide +kernel
theorem dX7_remember_70 : decode cX7_remember 70 = .ok (.aload_n 0, 1) := by decide +kernel
theorem dX7_remember_71 : decode cX7_remember 71 = .ok (.dup, 1) := by decide +kernel
theorem dX7_remember_72 : decode cX7_remember 72 = .ok (.getfield 196, 3) := by decide +kernel
theorem dX7_remember_75 : decode cX7_remember 75 = .ok (.iconst 1, 1) := by decide +kernel
theorem dX7_remember_76 : decode cX7_remember 76 = .ok (.iadd, 1) := by decide +kernel
theorem dX7_remember_77 : decode cX7_remember 77 = .ok (.putfield 196, 3) := by decide +kernel
theorem dX7_remember_80 : decode cX7_remember 80 = .ok (.return_, 1) := by decide +kernel
set_option maxRecDepth 20000 in
theorem ggX7_game_X7_remember : GoodIn wsX7_game wsX7_remember := goodIn_r _ [7, 8, 9, 2, 10, 11, 6, 12, 27, 28, 29, 30, 31, 32, 33, 34, 35, 36, 37, 38, 39] (by decide +kernel) (by decide +kernel)
set_option maxRecDepth 20000 in
theorem gX7_game_X7_remember : GoodIn wsX7_game (wsV RX7 205 RX7 yX7_remember wsX7_remember) := goodIn_app (goodIn_of _ (by decide +kernel)) ggX7_game_X7_remember
set_option maxRecDepth 20000 in
theorem ggX7_game_X7_gameOn : GoodIn wsX7_game wsX7_gameOn := goodIn_r _ [15, 16, 17, 18, 19, 6, 20, 21, 22, 23, 24, 25, 26] (by decide +kernel) (by decide +kernel)
set_option maxRecDepth 20000 in
theorem gX7_game_X7_gameOn : GoodIn wsX7_game (va_wsS RX7 43 yX7_gameOn wsX7_gameOn) := goodIn_app (goodIn_of _ (by decide +kernel)) ggX7_game_X7_gameOn
theorem dX7_game_0 : decode cX7_game 0 = .ok (.aload_n 0, 1) := by decide +kernel
theorem dX7_game_1 : decode cX7_game 1 = .ok (.iconst 0, 1) := by decide +kernel
theorem dX7_game_2 : decode cX7_game 2 = .ok (.putfield 39, 3) := by decide +kernel
theorem dX7_game_5 : decode cX7_game 5 = .ok (.aload_n 0, 1) := by decide +kernel
theorem dX7_game_6 : decode cX7_game 6 = .ok (.invokevirtual 205, 3) := by decide +kernel
theorem dX7_game_9 : decode cX7_game 9 = .ok (.aload_n 0, 1) := by decide +kernel
theorem dX7_game_10 : decode cX7_game 10 = .ok (.getfield 13, 3) := by decide +kernel
theorem dX7_game_13 : decode cX7_game 13 = .ok (.lload_n 1, 1) := by decide +kernel
theorem dX7_game_14 : decode cX7_game 14 = .ok (.invokestatic 43, 3) := by decide +kernel
theorem dX7_game_17 : decode cX7_game 17 = .ok (.ireturn, 1) := by decide +kernel
set_option maxRecDepth 20000 in
theorem ggX7_step_X7_in : GoodIn wsX7_step wsX7_in := goodIn_r _ [6] (by decide +kernel) (by decide +kernel)
set_option maxRecDepth 20000 in
theorem gX7_step_X7_in : GoodIn wsX7_step (va_wsS RX7 57 yX7_in wsX7_in) := goodIn_app (goodIn_of _ (by decide +kernel)) ggX7_step_X7_in
set_option maxRecDepth 20000 in
theorem ggX7_step_X7_isUnderWay : GoodIn wsX7_step wsX7_isUnderWay := goodIn_r _ [9] (by decide +kernel) (by decide +kernel)
set_option maxRecDepth 20000 in
theorem gX7_step_X7_isUnderWay : GoodIn wsX7_step (va_wsS RX7 81 yX7_isUnderWay wsX7_isUnderWay) := goodIn_app (goodIn_of _ (by decide +kernel)) ggX7_step_X7_isUnderWay
set_option maxRecDepth 20000 in
theorem ggX7_step_X7_refused : GoodIn wsX7_step wsX7_refused := goodIn_r _ [13, 14, 67, 68, 69, 70, 71, 72, 73, 74, 75, 76, 77, 78, 79] (by decide +kernel) (by decide +kernel)
set_option maxRecDepth 20000 in
theorem gX7_step_X7_refused : GoodIn wsX7_step (wsV RX7 137 RX7 yX7_refused wsX7_refused) := goodIn_app (goodIn_of _ (by decide +kernel)) ggX7_step_X7_refused
set_option maxRecDepth 20000 in
theorem ggX7_step_X7_remember : GoodIn wsX7_step wsX7_remember := goodIn_r _ [18, 19, 20, 2, 21, 22, 5, 23, 67, 68, 69, 70, 71, 72, 73, 74, 75, 76, 77, 78, 79] (by decide +kernel) (by decide +kernel)
set_option maxRecDepth 20000 in
theorem gX7_step_X7_remember : GoodIn wsX7_step (wsV RX7 205 RX7 yX7_remember wsX7_remember) := goodIn_app (goodIn_of _ (by decide +kernel)) ggX7_step_X7_remember
set_option maxRecDepth 20000 in
theorem ggX7_step_X7_stepOn : GoodIn wsX7_step wsX7_stepOn := goodIn_r _ [26, 27, 28, 5, 29, 30, 31, 32, 33, 34, 35, 36, 37, 38, 39, 40, 41, 42, 3, 4, 6, 43, 44, 45, 46, 47, 48, 49, 50, 51, 52, 53, 54, 55, 56, 57, 58, 59, 60, 61, 62, 63, 64, 65, 66, 7, 8, 9] (by decide +kernel) (by decide +kernel)
set_option maxRecDepth 20000 in
theorem gX7_step_X7_stepOn : GoodIn wsX7_step (va_wsS RX7 147 yX7_stepOn wsX7_stepOn) := goodIn_app (goodIn_of _ (by decide +kernel)) ggX7_step_X7_stepOn
theorem dX7_step_0 : decode cX7_step 0 = .ok (.aload_n 0, 1) := by decide +kernel
theorem dX7_step_1 : decode cX7_step 1 = .ok (.iload_n 1, 1) := by decide +kernel
theorem dX7_step_2 : decode cX7_step 2 = .ok (.i2l, 1) := by decide +kernel
theorem dX7_step_3 : decode cX7_step 3 = .ok (.lconst 0, 1) := by decide +kernel
theorem dX7_step_4 : decode cX7_step 4 = .ok (.ldc2_w 208, 3) := by decide +kernel
theorem dX7_step_7 : decode cX7_step 7 = .ok (.invokestatic 57, 3) := by decide +kernel
theorem dX7_step_10 : decode cX7_step 10 = .ok (.ifCond .ne 7, 3) := by decide +kernel
theorem dX7_step_13 : decode cX7_step 13 = .ok (.iconst 1, 1) := by decide +kernel
theorem dX7_step_14 : decode cX7_step 14 = .ok (.goto 18, 3) := by decide +kernel
theorem dX7_step_17 : decode cX7_step 17 = .ok (.aload_n 0, 1) := by decide +kernel
theorem dX7_step_18 : decode cX7_step 18 = .ok (.getfield 13, 3) := by decide +kernel
theorem dX7_step_21 : decode cX7_step 21 = .ok (.invokestatic 81, 3) := by decide +kernel
theorem dX7_step_24 : decode cX7_step 24 = .ok (.ifCond .eq 7, 3) := by decide +kernel
theorem dX7_step_27 : decode cX7_step 27 = .ok (.iconst 0, 1) := by decide +kernel
theorem dX7_step_28 : decode cX7_step 28 = .ok (.goto 4, 3) := by decide +kernel
theorem dX7_step_31 : decode cX7_step 31 = .ok (.iconst 2, 1) := by decide +kernel
theorem dX7_step_32 : decode cX7_step 32 = .ok (.invokevirtual 137, 3) := by decide +kernel
theorem dX7_step_35 : decode cX7_step 35 = .ok (.ifCond .eq 5, 3) := by decide +kernel
theorem dX7_step_38 : decode cX7_step 38 = .ok (.iconst 0, 1) := by decide +kernel
theorem dX7_step_39 : decode cX7_step 39 = .ok (.ireturn, 1) := by decide +kernel
theorem dX7_step_40 : decode cX7_step 40 = .ok (.aload_n 0, 1) := by decide +kernel
theorem dX7_step_41 : decode cX7_step 41 = .ok (.invokevirtual 205, 3) := by decide +kernel
theorem dX7_step_44 : decode cX7_step 44 = .ok (.aload_n 0, 1) := by decide +kernel
theorem dX7_step_45 : decode cX7_step 45 = .ok (.getfield 13, 3) := by decide +kernel
theorem dX7_step_48 : decode cX7_step 48 = .ok (.iload_n 1, 1) := by decide +kernel
theorem dX7_step_49 : decode cX7_step 49 = .ok (.invokestatic 147, 3) := by decide +kernel
theorem dX7_step_52 : decode cX7_step 52 = .ok (.ireturn, 1) := by decide +kernel
set_option maxRecDepth 20000 in
theorem ggX7_dam_X7_isCell : GoodIn wsX7_dam wsX7_isCell := goodIn_r _ [5, 6, 7, 8, 4, 9] (by decide +kernel) (by decide +kernel)
set_option maxRecDepth 20000 in
theorem gX7_dam_X7_isCell : GoodIn wsX7_dam (va_wsS RX7 65 yX7_isCell wsX7_isCell) := goodIn_app (goodIn_of _ (by decide +kernel)) ggX7_dam_X7_isCell
set_option maxRecDepth 20000 in
theorem ggX7_dam_X7_isUnderWay : GoodIn wsX7_dam wsX7_isUnderWay := goodIn_r _ [12] (by decide +kernel) (by decide +kernel)
set_option maxRecDepth 20000 in
theorem gX7_dam_X7_isUnderWay : GoodIn wsX7_dam (va_wsS RX7 81 yX7_isUnderWay wsX7_isUnderWay) := goodIn_app (goodIn_of _ (by decide +kernel)) ggX7_dam_X7_isUnderWay
set_option maxRecDepth 20000 in
theorem ggX7_dam_X7_refused : GoodIn wsX7_dam wsX7_refused := goodIn_r _ [16, 17, 64, 65, 66, 67, 68, 69, 70, 71, 72, 73, 74, 75, 76] (by decide +kernel) (by decide +kernel)
set_option maxRecDepth 20000 in
theorem gX7_dam_X7_refused : GoodIn wsX7_dam (wsV RX7 137 RX7 yX7_refused wsX7_refused) := goodIn_app (goodIn_of _ (by decide +kernel)) ggX7_dam_X7_refused
set_option maxRecDepth 20000 in
theorem ggX7_dam_X7_remember : GoodIn wsX7_dam wsX7_remember := goodIn_r _ [21, 22, 23, 1, 24, 25, 4, 26, 64, 65, 66, 67, 68, 69, 70, 71, 72, 73, 74, 75, 76] (by decide +kernel) (by decide +kernel)
set_option maxRecDepth 20000 in
theorem gX7_dam_X7_remember : GoodIn wsX7_dam (wsV RX7 205 RX7 yX7_remember wsX7_remember) := goodIn_app (goodIn_of _ (by decide +kernel)) ggX7_dam_X7_remember
set_option maxRecDepth 20000 in
theorem ggX7_dam_X7_damOn : GoodIn wsX7_dam wsX7_damOn := goodIn_r _ [30, 31, 32, 33, 4, 34, 35, 36, 37, 38, 39, 40, 41, 42, 43, 44, 45, 46, 47, 48, 49, 50, 51, 52, 53, 54, 2, 3, 5, 6, 7, 8, 9, 55, 56, 57, 58, 59, 60, 61, 62, 63, 10, 11, 12, 64, 65, 66, 67, 68, 69, 70, 71, 72, 73, 74, 75, 76] (by decide +kernel) (by decide +kernel)
set_option maxRecDepth 20000 in
theorem gX7_dam_X7_damOn : GoodIn wsX7_dam (wsV RX7 162 RX7 yX7_damOn wsX7_damOn) := goodIn_app (goodIn_of _ (by decide +kernel)) ggX7_dam_X7_damOn
theorem dX7_dam_0 : decode cX7_dam 0 = .ok (.aload_n 0, 1) := by decide +kernel
theorem dX7_dam_1 : decode cX7_dam 1 = .ok (.iload_n 1, 1) := by decide +kernel
theorem dX7_dam_2 : decode cX7_dam 2 = .ok (.iload_n 2, 1) := by decide +kernel
theorem dX7_dam_3 : decode cX7_dam 3 = .ok (.invokestatic 65, 3) := by decide +kernel
theorem dX7_dam_6 : decode cX7_dam 6 = .ok (.ifCond .ne 7, 3) := by decide +kernel
theorem dX7_dam_9 : decode cX7_dam 9 = .ok (.iconst 1, 1) := by decide +kernel
theorem dX7_dam_10 : decode cX7_dam 10 = .ok (.goto 18, 3) := by decide +kernel
theorem dX7_dam_13 : decode cX7_dam 13 = .ok (.aload_n 0, 1) := by decide +kernel
theorem dX7_dam_14 : decode cX7_dam 14 = .ok (.getfield 13, 3) := by decide +kernel
theorem dX7_dam_17 : decode cX7_dam 17 = .ok (.invokestatic 81, 3) := by decide +kernel
theorem dX7_dam_20 : decode cX7_dam 20 = .ok (.ifCond .eq 7, 3) := by decide +kernel
theorem dX7_dam_23 : decode cX7_dam 23 = .ok (.iconst 0, 1) := by decide +kernel
theorem dX7_dam_24 : decode cX7_dam 24 = .ok (.goto 4, 3) := by decide +kernel
theorem dX7_dam_27 : decode cX7_dam 27 = .ok (.iconst 2, 1) := by decide +kernel
theorem dX7_dam_28 : decode cX7_dam 28 = .ok (.invokevirtual 137, 3) := by decide +kernel
theorem dX7_dam_31 : decode cX7_dam 31 = .ok (.ifCond .eq 5, 3) := by decide +kernel
theorem dX7_dam_34 : decode cX7_dam 34 = .ok (.iconst 0, 1) := by decide +kernel
theorem dX7_dam_35 : decode cX7_dam 35 = .ok (.ireturn, 1) := by decide +kernel
theorem dX7_dam_36 : decode cX7_dam 36 = .ok (.aload_n 0, 1) := by decide +kernel
theorem dX7_dam_37 : decode cX7_dam 37 = .ok (.invokevirtual 205, 3) := by decide +kernel
theorem dX7_dam_40 : decode cX7_dam 40 = .ok (.aload_n 0, 1) := by decide +kernel
theorem dX7_dam_41 : decode cX7_dam 41 = .ok (.aload_n 0, 1) := by decide +kernel
theorem dX7_dam_42 : decode cX7_dam 42 = .ok (.getfield 13, 3) := by decide +kernel
theorem dX7_dam_45 : decode cX7_dam 45 = .ok (.bipush 8, 2) := by decide +kernel
theorem dX7_dam_47 : decode cX7_dam 47 = .ok (.iload_n 2, 1) := by decide +kernel
theorem dX7_dam_48 : decode cX7_dam 48 = .ok (.imul, 1) := by decide +kernel
theorem dX7_dam_49 : decode cX7_dam 49 = .ok (.iload_n 1, 1) := by decide +kernel
theorem dX7_dam_50 : decode cX7_dam 50 = .ok (.iadd, 1) := by decide +kernel
theorem dX7_dam_51 : decode cX7_dam 51 = .ok (.invokevirtual 162, 3) := by decide +kernel
theorem dX7_dam_54 : decode cX7_dam 54 = .ok (.ireturn, 1) := by decide +kernel
set_option maxRecDepth 20000 in
theorem ggX7_flood_X7_isUnderWay : GoodIn wsX7_flood wsX7_isUnderWay := goodIn_r _ [5] (by decide +kernel) (by decide +kernel)
set_option maxRecDepth 20000 in
theorem gX7_flood_X7_isUnderWay : GoodIn wsX7_flood (va_wsS RX7 81 yX7_isUnderWay wsX7_isUnderWay) := goodIn_app (goodIn_of _ (by decide +kernel)) ggX7_flood_X7_isUnderWay
set_option maxRecDepth 20000 in
theorem ggX7_flood_X7_canStep : GoodIn wsX7_flood wsX7_canStep := goodIn_r _ [8, 9, 10, 4, 11, 12, 13, 14, 15, 16, 17, 18, 19, 20, 21, 22, 23, 24, 25, 26, 27, 28, 29, 30, 31, 32, 33] (by decide +kernel) (by decide +kernel)
set_option maxRecDepth 20000 in
theorem gX7_flood_X7_canStep : GoodIn wsX7_flood (va_wsS RX7 171 yX7_canStep wsX7_canStep) := goodIn_app (goodIn_of _ (by decide +kernel)) ggX7_flood_X7_canStep
set_option maxRecDepth 20000 in
theorem ggX7_flood_X7_refused : GoodIn wsX7_flood wsX7_refused := goodIn_r _ [37, 38, 60, 61, 62, 63, 64, 65, 66, 67, 68, 69, 70, 71, 72] (by decide +kernel) (by decide +kernel)
set_option maxRecDepth 20000 in
theorem gX7_flood_X7_refused : GoodIn wsX7_flood (wsV RX7 137 RX7 yX7_refused wsX7_refused) := goodIn_app (goodIn_of _ (by decide +kernel)) ggX7_flood_X7_refused
set_option maxRecDepth 20000 in
theorem ggX7_flood_X7_remember : GoodIn wsX7_flood wsX7_remember := goodIn_r _ [42, 43, 44, 1, 45, 46, 4, 47, 60, 61, 62, 63, 64, 65, 66, 67, 68, 69, 70, 71, 72] (by decide +kernel) (by decide +kernel)
set_option maxRecDepth 20000 in
theorem gX7_flood_X7_remember : GoodIn wsX7_flood (wsV RX7 205 RX7 yX7_remember wsX7_remember) := goodIn_app (goodIn_of _ (by decide +kernel)) ggX7_flood_X7_remember
set_option maxRecDepth 20000 in
theorem ggX7_flood_X7_floodOn : GoodIn wsX7_flood wsX7_floodOn := goodIn_r _ [50, 12, 13, 4, 14, 15, 16, 17, 18, 19, 20, 21, 22, 23, 24, 25, 26, 27, 28, 29, 30, 51, 52, 53, 54, 55, 56, 57, 58, 59, 2, 3, 5] (by decide +kernel) (by decide +kernel)
set_option maxRecDepth 20000 in
theorem gX7_flood_X7_floodOn : GoodIn wsX7_flood (va_wsS RX7 174 yX7_floodOn wsX7_floodOn) := goodIn_app (goodIn_of _ (by decide +kernel)) ggX7_flood_X7_floodOn
theorem dX7_flood_0 : decode cX7_flood 0 = .ok (.aload_n 0, 1) := by decide +kernel
theorem dX7_flood_1 : decode cX7_flood 1 = .ok (.aload_n 0, 1) := by decide +kernel
theorem dX7_flood_2 : decode cX7_flood 2 = .ok (.getfield 13, 3) := by decide +kernel
theorem dX7_flood_5 : decode cX7_flood 5 = .ok (.invokestatic 81, 3) := by decide +kernel
theorem dX7_flood_8 : decode cX7_flood 8 = .ok (.ifCond .eq 17, 3) := by decide +kernel
theorem dX7_flood_11 : decode cX7_flood 11 = .ok (.aload_n 0, 1) := by decide +kernel
theorem dX7_flood_12 : decode cX7_flood 12 = .ok (.getfield 13, 3) := by decide +kernel
theorem dX7_flood_15 : decode cX7_flood 15 = .ok (.invokestatic 171, 3) := by decide +kernel
theorem dX7_flood_18 : decode cX7_flood 18 = .ok (.ifCond .ne 7, 3) := by decide +kernel
theorem dX7_flood_21 : decode cX7_flood 21 = .ok (.iconst 0, 1) := by decide +kernel
theorem dX7_flood_22 : decode cX7_flood 22 = .ok (.goto 4, 3) := by decide +kernel
theorem dX7_flood_25 : decode cX7_flood 25 = .ok (.iconst 1, 1) := by decide +kernel
theorem dX7_flood_26 : decode cX7_flood 26 = .ok (.invokevirtual 137, 3) := by decide +kernel
theorem dX7_flood_29 : decode cX7_flood 29 = .ok (.ifCond .eq 5, 3) := by decide +kernel
theorem dX7_flood_32 : decode cX7_flood 32 = .ok (.iconst 0, 1) := by decide +kernel
theorem dX7_flood_33 : decode cX7_flood 33 = .ok (.ireturn, 1) := by decide +kernel
theorem dX7_flood_34 : decode cX7_flood 34 = .ok (.aload_n 0, 1) := by decide +kernel
theorem dX7_flood_35 : decode cX7_flood 35 = .ok (.invokevirtual 205, 3) := by decide +kernel
theorem dX7_flood_38 : decode cX7_flood 38 = .ok (.aload_n 0, 1) := by decide +kernel
theorem dX7_flood_39 : decode cX7_flood 39 = .ok (.getfield 13, 3) := by decide +kernel
theorem dX7_flood_42 : decode cX7_flood 42 = .ok (.invokestatic 174, 3) := by decide +kernel
theorem dX7_flood_45 : decode cX7_flood 45 = .ok (.ireturn, 1) := by decide +kernel
set_option maxRecDepth 20000 in
theorem ggX7_set_X7_isSetting : GoodIn wsX7_set wsX7_isSetting := goodIn_r _ [5, 6, 7, 8, 9, 4, 10] (by decide +kernel) (by decide +kernel)
set_option maxRecDepth 20000 in
theorem gX7_set_X7_isSetting : GoodIn wsX7_set (va_wsS RX7 180 yX7_isSetting wsX7_isSetting) := goodIn_app (goodIn_of _ (by decide +kernel)) ggX7_set_X7_isSetting
set_option maxRecDepth 20000 in
theorem ggX7_set_X7_refused : GoodIn wsX7_set wsX7_refused := goodIn_r _ [14, 15, 28, 29, 30, 31, 32, 33, 34, 35, 36, 37, 38, 39, 40] (by decide +kernel) (by decide +kernel)
set_option maxRecDepth 20000 in
theorem gX7_set_X7_refused : GoodIn wsX7_set (wsV RX7 137 RX7 yX7_refused wsX7_refused) := goodIn_app (goodIn_of _ (by decide +kernel)) ggX7_set_X7_refused
set_option maxRecDepth 20000 in
theorem ggX7_set_X7_remember : GoodIn wsX7_set wsX7_remember := goodIn_r _ [19, 20, 21, 1, 22, 23, 4, 24, 28, 29, 30, 31, 32, 33, 34, 35, 36, 37, 38, 39, 40] (by decide +kernel) (by decide +kernel)
set_option maxRecDepth 20000 in
theorem gX7_set_X7_remember : GoodIn wsX7_set (wsV RX7 205 RX7 yX7_remember wsX7_remember) := goodIn_app (goodIn_of _ (by decide +kernel)) ggX7_set_X7_remember
set_option maxRecDepth 20000 in
theorem ggX7_set_X7_change : GoodIn wsX7_set wsX7_change := goodIn_r _ [27] (by decide +kernel) (by decide +kernel)
set_option maxRecDepth 20000 in
theorem gX7_set_X7_change : GoodIn wsX7_set (va_wsS RX7 183 yX7_change wsX7_change) := goodIn_app (goodIn_of _ (by decide +kernel)) ggX7_set_X7_change
theorem dX7_set_0 : decode cX7_set 0 = .ok (.aload_n 0, 1) := by decide +kernel
theorem dX7_set_1 : decode cX7_set 1 = .ok (.iload_n 1, 1) := by decide +kernel
theorem dX7_set_2 : decode cX7_set 2 = .ok (.iload_n 2, 1) := by decide +kernel
theorem dX7_set_3 : decode cX7_set 3 = .ok (.invokestatic 180, 3) := by decide +kernel
theorem dX7_set_6 : decode cX7_set 6 = .ok (.ifCond .eq 7, 3) := by decide +kernel
theorem dX7_set_9 : decode cX7_set 9 = .ok (.iconst 0, 1) := by decide +kernel
theorem dX7_set_10 : decode cX7_set 10 = .ok (.goto 4, 3) := by decide +kernel
theorem dX7_set_13 : decode cX7_set 13 = .ok (.iconst 1, 1) := by decide +kernel
theorem dX7_set_14 : decode cX7_set 14 = .ok (.invokevirtual 137, 3) := by decide +kernel
theorem dX7_set_17 : decode cX7_set 17 = .ok (.ifCond .eq 5, 3) := by decide +kernel
theorem dX7_set_20 : decode cX7_set 20 = .ok (.iconst 0, 1) := by decide +kernel
theorem dX7_set_21 : decode cX7_set 21 = .ok (.ireturn, 1) := by decide +kernel
theorem dX7_set_22 : decode cX7_set 22 = .ok (.aload_n 0, 1) := by decide +kernel
theorem dX7_set_23 : decode cX7_set 23 = .ok (.invokevirtual 205, 3) := by decide +kernel
theorem dX7_set_26 : decode cX7_set 26 = .ok (.aload_n 0, 1) := by decide +kernel
theorem dX7_set_27 : decode cX7_set 27 = .ok (.getfield 13, 3) := by decide +kernel
theorem dX7_set_30 : decode cX7_set 30 = .ok (.iload_n 1, 1) := by decide +kernel
theorem dX7_set_31 : decode cX7_set 31 = .ok (.iload_n 2, 1) := by decide +kernel
theorem dX7_set_32 : decode cX7_set 32 = .ok (.invokestatic 183, 3) := by decide +kernel
theorem dX7_set_35 : decode cX7_set 35 = .ok (.ireturn, 1) := by decide +kernel
set_option maxRecDepth 20000 in
theorem ggX7_undo_X7_refused : GoodIn wsX7_undo wsX7_refused := goodIn_r _ [8, 9, 13, 14, 15, 16, 17, 18, 19, 20, 21, 22, 23, 24, 25] (by decide +kernel) (by decide +kernel)
set_option maxRecDepth 20000 in
theorem gX7_undo_X7_refused : GoodIn wsX7_undo (wsV RX7 137 RX7 yX7_refused wsX7_refused) := goodIn_app (goodIn_of _ (by decide +kernel)) ggX7_undo_X7_refused
set_option maxRecDepth 20000 in
theorem ggX7_undo_X7_copyState : GoodIn wsX7_undo wsX7_copyState := goodIn_r _ [12] (by decide +kernel) (by decide +kernel)
set_option maxRecDepth 20000 in
theorem gX7_undo_X7_copyState : GoodIn wsX7_undo (va_wsS RX7 192 yX7_copyState wsX7_copyState) := goodIn_app (goodIn_of _ (by decide +kernel)) ggX7_undo_X7_copyState
theorem dX7_undo_0 : decode cX7_undo 0 = .ok (.aload_n 0, 1) := by decide +kernel
theorem dX7_undo_1 : decode cX7_undo 1 = .ok (.aload_n 0, 1) := by decide +kernel
theorem dX7_undo_2 : decode cX7_undo 2 = .ok (.getfield 196, 3) := by decide +kernel
theorem dX7_undo_5 : decode cX7_undo 5 = .ok (.ifCond .ne 7, 3) := by decide +kernel
theorem dX7_undo_8 : decode cX7_undo 8 = .ok (.iconst 1, 1) := by decide +kernel
theorem dX7_undo_9 : decode cX7_undo 9 = .ok (.goto 4, 3) := by decide +kernel
theorem dX7_undo_12 : decode cX7_undo 12 = .ok (.iconst 0, 1) := by decide +kernel
theorem dX7_undo_13 : decode cX7_undo 13 = .ok (.invokevirtual 137, 3) := by decide +kernel
theorem dX7_undo_16 : decode cX7_undo 16 = .ok (.ifCond .eq 5, 3) := by decide +kernel
theorem dX7_undo_19 : decode cX7_undo 19 = .ok (.iconst 0, 1) := by decide +kernel
theorem dX7_undo_20 : decode cX7_undo 20 = .ok (.ireturn, 1) := by decide +kernel
theorem dX7_undo_21 : decode cX7_undo 21 = .ok (.aload_n 0, 1) := by decide +kernel
theorem dX7_undo_22 : decode cX7_undo 22 = .ok (.dup, 1) := by decide +kernel
theorem dX7_undo_23 : decode cX7_undo 23 = .ok (.getfield 196, 3) := by decide +kernel
theorem dX7_undo_26 : decode cX7_undo 26 = .ok (.iconst 1, 1) := by decide +kernel
theorem dX7_undo_27 : decode cX7_undo 27 = .ok (.isub, 1) := by decide +kernel
theorem dX7_undo_28 : decode cX7_undo 28 = .ok (.putfield 196, 3) := by decide +kernel
theorem dX7_undo_31 : decode cX7_undo 31 = .ok (.aload_n 0, 1) := by decide +kernel
theorem dX7_undo_32 : decode cX7_undo 32 = .ok (.getfield 19, 3) := by decide +kernel
theorem dX7_undo_35 : decode cX7_undo 35 = .ok (.sipush 404, 3) := by decide +kernel
theorem dX7_undo_38 : decode cX7_undo 38 = .ok (.aload_n 0, 1) := by decide +kernel
theorem dX7_undo_39 : decode cX7_undo 39 = .ok (.getfield 196, 3) := by decide +kernel
theorem dX7_undo_42 : decode cX7_undo 42 = .ok (.imul, 1) := by decide +kernel
theorem dX7_undo_43 : decode cX7_undo 43 = .ok (.aload_n 0, 1) := by decide +kernel
theorem dX7_undo_44 : decode cX7_undo 44 = .ok (.getfield 13, 3) := by decide +kernel
theorem dX7_undo_47 : decode cX7_undo 47 = .ok (.iconst 0, 1) := by decide +kernel
theorem dX7_undo_48 : decode cX7_undo 48 = .ok (.invokestatic 192, 3) := by decide +kernel
theorem dX7_undo_51 : decode cX7_undo 51 = .ok (.aload_n 0, 1) := by decide +kernel
theorem dX7_undo_52 : decode cX7_undo 52 = .ok (.getfield 196, 3) := by decide +kernel
theorem dX7_undo_55 : decode cX7_undo 55 = .ok (.ireturn, 1) := by decide +kernel
set_option maxRecDepth 20000 in
theorem ggX7_why_X7_in : GoodIn wsX7_why wsX7_in := goodIn_r _ [6] (by decide +kernel) (by decide +kernel)
set_option maxRecDepth 20000 in
theorem gX7_why_X7_in : GoodIn wsX7_why (va_wsS RX7 57 yX7_in wsX7_in) := goodIn_app (goodIn_of _ (by decide +kernel)) ggX7_why_X7_in
set_option maxRecDepth 20000 in
theorem ggX7_why_X7_refused : GoodIn wsX7_why wsX7_refused := goodIn_r _ [10, 11, 37, 38, 39, 40, 41, 42, 43, 44, 45, 46, 47, 48, 49] (by decide +kernel) (by decide +kernel)
set_option maxRecDepth 20000 in
theorem gX7_why_X7_refused : GoodIn wsX7_why (wsV RX7 137 RX7 yX7_refused wsX7_refused) := goodIn_app (goodIn_of _ (by decide +kernel)) ggX7_why_X7_refused
set_option maxRecDepth 20000 in
theorem ggX7_why_X7_isUnderWay : GoodIn wsX7_why wsX7_isUnderWay := goodIn_r _ [14] (by decide +kernel) (by decide +kernel)
set_option maxRecDepth 20000 in
theorem gX7_why_X7_isUnderWay : GoodIn wsX7_why (va_wsS RX7 81 yX7_isUnderWay wsX7_isUnderWay) := goodIn_app (goodIn_of _ (by decide +kernel)) ggX7_why_X7_isUnderWay
set_option maxRecDepth 20000 in
theorem ggX7_why_X7_reason : GoodIn wsX7_why wsX7_reason := goodIn_r _ [17, 18, 19, 5, 20, 21, 22, 23, 24, 25, 26, 27, 28, 29, 30, 3, 4, 6, 31, 32, 33, 34, 35, 36] (by decide +kernel) (by decide +kernel)
set_option maxRecDepth 20000 in
theorem gX7_why_X7_reason : GoodIn wsX7_why (va_wsS RX7 103 yX7_reason wsX7_reason) := goodIn_app (goodIn_of _ (by decide +kernel)) ggX7_why_X7_reason
theorem dX7_why_0 : decode cX7_why 0 = .ok (.aload_n 0, 1) := by decide +kernel
theorem dX7_why_1 : decode cX7_why 1 = .ok (.iload_n 1, 1) := by decide +kernel
theorem dX7_why_2 : decode cX7_why 2 = .ok (.i2l, 1) := by decide +kernel
theorem dX7_why_3 : decode cX7_why 3 = .ok (.lconst 0, 1) := by decide +kernel
theorem dX7_why_4 : decode cX7_why 4 = .ok (.ldc2_w 208, 3) := by decide +kernel
theorem dX7_why_7 : decode cX7_why 7 = .ok (.invokestatic 57, 3) := by decide +kernel
theorem dX7_why_10 : decode cX7_why 10 = .ok (.ifCond .eq 7, 3) := by decide +kernel
theorem dX7_why_13 : decode cX7_why 13 = .ok (.iconst 0, 1) := by decide +kernel
theorem dX7_why_14 : decode cX7_why 14 = .ok (.goto 4, 3) := by decide +kernel
theorem dX7_why_17 : decode cX7_why 17 = .ok (.iconst 1, 1) := by decide +kernel
theorem dX7_why_18 : decode cX7_why 18 = .ok (.invokevirtual 137, 3) := by decide +kernel
theorem dX7_why_21 : decode cX7_why 21 = .ok (.ifCond .eq 5, 3) := by decide +kernel
theorem dX7_why_24 : decode cX7_why 24 = .ok (.iconst 0, 1) := by decide +kernel
theorem dX7_why_25 : decode cX7_why 25 = .ok (.ireturn, 1) := by decide +kernel
theorem dX7_why_26 : decode cX7_why 26 = .ok (.aload_n 0, 1) := by decide +kernel
theorem dX7_why_27 : decode cX7_why 27 = .ok (.getfield 13, 3) := by decide +kernel
theorem dX7_why_30 : decode cX7_why 30 = .ok (.invokestatic 81, 3) := by decide +kernel
theorem dX7_why_33 : decode cX7_why 33 = .ok (.ifCond .eq 14, 3) := by decide +kernel
theorem dX7_why_36 : decode cX7_why 36 = .ok (.aload_n 0, 1) := by decide +kernel
theorem dX7_why_37 : decode cX7_why 37 = .ok (.getfield 13, 3) := by decide +kernel
theorem dX7_why_40 : decode cX7_why 40 = .ok (.iload_n 1, 1) := by decide +kernel
theorem dX7_why_41 : decode cX7_why 41 = .ok (.invokestatic 103, 3) := by decide +kernel
theorem dX7_why_44 : decode cX7_why 44 = .ok (.goto 4, 3) := by decide +kernel
theorem dX7_why_47 : decode cX7_why 47 = .ok (.iconst (-1), 1) := by decide +kernel
theorem dX7_why_48 : decode cX7_why 48 = .ok (.ireturn, 1) := by decide +kernel
set_option maxRecDepth 20000 in
theorem ggX7_whyDam_X7_isCell : GoodIn wsX7_whyDam wsX7_isCell := goodIn_r _ [5, 6, 7, 8, 4, 9] (by decide +kernel) (by decide +kernel)
set_option maxRecDepth 20000 in
theorem gX7_whyDam_X7_isCell : GoodIn wsX7_whyDam (va_wsS RX7 65 yX7_isCell wsX7_isCell) := goodIn_app (goodIn_of _ (by decide +kernel)) ggX7_whyDam_X7_isCell
set_option maxRecDepth 20000 in
theorem ggX7_whyDam_X7_refused : GoodIn wsX7_whyDam wsX7_refused := goodIn_r _ [13, 14, 45, 46, 47, 48, 49, 50, 51, 52, 53, 54, 55, 56, 57] (by decide +kernel) (by decide +kernel)
set_option maxRecDepth 20000 in
theorem gX7_whyDam_X7_refused : GoodIn wsX7_whyDam (wsV RX7 137 RX7 yX7_refused wsX7_refused) := goodIn_app (goodIn_of _ (by decide +kernel)) ggX7_whyDam_X7_refused
set_option maxRecDepth 20000 in
theorem ggX7_whyDam_X7_isUnderWay : GoodIn wsX7_whyDam wsX7_isUnderWay := goodIn_r _ [17] (by decide +kernel) (by decide +kernel)
set_option maxRecDepth 20000 in
theorem gX7_whyDam_X7_isUnderWay : GoodIn wsX7_whyDam (va_wsS RX7 81 yX7_isUnderWay wsX7_isUnderWay) := goodIn_app (goodIn_of _ (by decide +kernel)) ggX7_whyDam_X7_isUnderWay
set_option maxRecDepth 20000 in
theorem ggX7_whyDam_X7_damReason : GoodIn wsX7_whyDam wsX7_damReason := goodIn_r _ [21, 22, 23, 4, 24, 25, 26, 27, 28, 29, 30, 31, 32, 33, 34, 35, 36, 37, 38, 39, 40, 41, 2, 3, 5, 6, 7, 8, 9, 42, 43, 44, 45, 46, 47, 48, 49, 50, 51, 52, 53, 54, 55, 56, 57] (by decide +kernel) (by decide +kernel)
set_option maxRecDepth 20000 in
theorem gX7_whyDam_X7_damReason : GoodIn wsX7_whyDam (wsV RX7 119 RX7 yX7_damReason wsX7_damReason) := goodIn_app (goodIn_of _ (by decide +kernel)) ggX7_whyDam_X7_damReason
theorem dX7_whyDam_0 : decode cX7_whyDam 0 = .ok (.aload_n 0, 1) := by decide +kernel
theorem dX7_whyDam_1 : decode cX7_whyDam 1 = .ok (.iload_n 1, 1) := by decide +kernel
theorem dX7_whyDam_2 : decode cX7_whyDam 2 = .ok (.iload_n 2, 1) := by decide +kernel
theorem dX7_whyDam_3 : decode cX7_whyDam 3 = .ok (.invokestatic 65, 3) := by decide +kernel
theorem dX7_whyDam_6 : decode cX7_whyDam 6 = .ok (.ifCond .eq 7, 3) := by decide +kernel
theorem dX7_whyDam_9 : decode cX7_whyDam 9 = .ok (.iconst 0, 1) := by decide +kernel
theorem dX7_whyDam_10 : decode cX7_whyDam 10 = .ok (.goto 4, 3) := by decide +kernel
theorem dX7_whyDam_13 : decode cX7_whyDam 13 = .ok (.iconst 1, 1) := by decide +kernel
theorem dX7_whyDam_14 : decode cX7_whyDam 14 = .ok (.invokevirtual 137, 3) := by decide +kernel
theorem dX7_whyDam_17 : decode cX7_whyDam 17 = .ok (.ifCond .eq 5, 3) := by decide +kernel
theorem dX7_whyDam_20 : decode cX7_whyDam 20 = .ok (.iconst 0, 1) := by decide +kernel
theorem dX7_whyDam_21 : decode cX7_whyDam 21 = .ok (.ireturn, 1) := by decide +kernel
theorem dX7_whyDam_22 : decode cX7_whyDam 22 = .ok (.aload_n 0, 1) := by decide +kernel
theorem dX7_whyDam_23 : decode cX7_whyDam 23 = .ok (.getfield 13, 3) := by decide +kernel
theorem dX7_whyDam_26 : decode cX7_whyDam 26 = .ok (.invokestatic 81, 3) := by decide +kernel
theorem dX7_whyDam_29 : decode cX7_whyDam 29 = .ok (.ifCond .eq 20, 3) := by decide +kernel
theorem dX7_whyDam_32 : decode cX7_whyDam 32 = .ok (.aload_n 0, 1) := by decide +kernel
theorem dX7_whyDam_33 : decode cX7_whyDam 33 = .ok (.aload_n 0, 1) := by decide +kernel
theorem dX7_whyDam_34 : decode cX7_whyDam 34 = .ok (.getfield 13, 3) := by decide +kernel
theorem dX7_whyDam_37 : decode cX7_whyDam 37 = .ok (.bipush 8, 2) := by decide +kernel
theorem dX7_whyDam_39 : decode cX7_whyDam 39 = .ok (.iload_n 2, 1) := by decide +kernel
theorem dX7_whyDam_40 : decode cX7_whyDam 40 = .ok (.imul, 1) := by decide +kernel
theorem dX7_whyDam_41 : decode cX7_whyDam 41 = .ok (.iload_n 1, 1) := by decide +kernel
theorem dX7_whyDam_42 : decode cX7_whyDam 42 = .ok (.iadd, 1) := by decide +kernel
theorem dX7_whyDam_43 : decode cX7_whyDam 43 = .ok (.invokevirtual 119, 3) := by decide +kernel
theorem dX7_whyDam_46 : decode cX7_whyDam 46 = .ok (.goto 4, 3) := by decide +kernel
theorem dX7_whyDam_49 : decode cX7_whyDam 49 = .ok (.iconst (-1), 1) := by decide +kernel
theorem dX7_whyDam_50 : decode cX7_whyDam 50 = .ok (.ireturn, 1) := by decide +kernel
set_option maxRecDepth 20000 in
theorem ggX7_cheapest_X7_in : GoodIn wsX7_cheapest wsX7_in := goodIn_r _ [6] (by decide +kernel) (by decide +kernel)
set_option maxRecDepth 20000 in
theorem gX7_cheapest_X7_in : GoodIn wsX7_cheapest (va_wsS RX7 57 yX7_in wsX7_in) := goodIn_app (goodIn_of _ (by decide +kernel)) ggX7_cheapest_X7_in
set_option maxRecDepth 20000 in
theorem ggX7_cheapest_X7_refused : GoodIn wsX7_cheapest wsX7_refused := goodIn_r _ [10, 11, 43, 44, 45, 46, 47, 48, 49, 50, 51, 52, 53, 54, 55] (by decide +kernel) (by decide +kernel)
set_option maxRecDepth 20000 in
theorem gX7_cheapest_X7_refused : GoodIn wsX7_cheapest (wsV RX7 137 RX7 yX7_refused wsX7_refused) := goodIn_app (goodIn_of _ (by decide +kernel)) ggX7_cheapest_X7_refused
set_option maxRecDepth 20000 in
theorem ggX7_cheapest_X7_head : GoodIn wsX7_cheapest wsX7_head := goodIn_r _ [14, 15, 16, 5, 17] (by decide +kernel) (by decide +kernel)
set_option maxRecDepth 20000 in
theorem gX7_cheapest_X7_head : GoodIn wsX7_cheapest (va_wsS RX7 91 yX7_head wsX7_head) := goodIn_app (goodIn_of _ (by decide +kernel)) ggX7_cheapest_X7_head
set_option maxRecDepth 20000 in
theorem ggX7_cheapest_X7_cheapestFrom : GoodIn wsX7_cheapest wsX7_cheapestFrom := goodIn_r _ [21, 2, 22, 23, 24, 25, 5, 26, 27, 28, 29, 30, 31, 32, 33, 3, 4, 6, 34, 35, 36, 37, 38, 39, 40, 41, 42, 43, 44, 45, 46, 47, 48, 49, 50, 51, 52, 53, 54, 55] (by decide +kernel) (by decide +kernel)
set_option maxRecDepth 20000 in
theorem gX7_cheapest_X7_cheapestFrom : GoodIn wsX7_cheapest (wsV RX7 126 RX7 yX7_cheapestFrom wsX7_cheapestFrom) := goodIn_app (goodIn_of _ (by decide +kernel)) ggX7_cheapest_X7_cheapestFrom
theorem dX7_cheapest_0 : decode cX7_cheapest 0 = .ok (.aload_n 0, 1) := by decide +kernel
theorem dX7_cheapest_1 : decode cX7_cheapest 1 = .ok (.iload_n 1, 1) := by decide +kernel
theorem dX7_cheapest_2 : decode cX7_cheapest 2 = .ok (.i2l, 1) := by decide +kernel
theorem dX7_cheapest_3 : decode cX7_cheapest 3 = .ok (.lconst 0, 1) := by decide +kernel
theorem dX7_cheapest_4 : decode cX7_cheapest 4 = .ok (.lconst 1, 1) := by decide +kernel
theorem dX7_cheapest_5 : decode cX7_cheapest 5 = .ok (.invokestatic 57, 3) := by decide +kernel
theorem dX7_cheapest_8 : decode cX7_cheapest 8 = .ok (.ifCond .ne 7, 3) := by decide +kernel
theorem dX7_cheapest_11 : decode cX7_cheapest 11 = .ok (.iconst 1, 1) := by decide +kernel
theorem dX7_cheapest_12 : decode cX7_cheapest 12 = .ok (.goto 18, 3) := by decide +kernel
theorem dX7_cheapest_15 : decode cX7_cheapest 15 = .ok (.iload_n 2, 1) := by decide +kernel
theorem dX7_cheapest_16 : decode cX7_cheapest 16 = .ok (.i2l, 1) := by decide +kernel
theorem dX7_cheapest_17 : decode cX7_cheapest 17 = .ok (.lconst 0, 1) := by decide +kernel
theorem dX7_cheapest_18 : decode cX7_cheapest 18 = .ok (.lconst 1, 1) := by decide +kernel
theorem dX7_cheapest_19 : decode cX7_cheapest 19 = .ok (.invokestatic 57, 3) := by decide +kernel
theorem dX7_cheapest_22 : decode cX7_cheapest 22 = .ok (.ifCond .eq 7, 3) := by decide +kernel
theorem dX7_cheapest_25 : decode cX7_cheapest 25 = .ok (.iconst 0, 1) := by decide +kernel
theorem dX7_cheapest_26 : decode cX7_cheapest 26 = .ok (.goto 4, 3) := by decide +kernel
theorem dX7_cheapest_29 : decode cX7_cheapest 29 = .ok (.iconst 2, 1) := by decide +kernel
theorem dX7_cheapest_30 : decode cX7_cheapest 30 = .ok (.invokevirtual 137, 3) := by decide +kernel
theorem dX7_cheapest_33 : decode cX7_cheapest 33 = .ok (.ifCond .eq 5, 3) := by decide +kernel
theorem dX7_cheapest_36 : decode cX7_cheapest 36 = .ok (.iconst 0, 1) := by decide +kernel
theorem dX7_cheapest_37 : decode cX7_cheapest 37 = .ok (.ireturn, 1) := by decide +kernel
theorem dX7_cheapest_38 : decode cX7_cheapest 38 = .ok (.aload_n 0, 1) := by decide +kernel
theorem dX7_cheapest_39 : decode cX7_cheapest 39 = .ok (.aload_n 0, 1) := by decide +kernel
theorem dX7_cheapest_40 : decode cX7_cheapest 40 = .ok (.getfield 13, 3) := by decide +kernel
theorem dX7_cheapest_43 : decode cX7_cheapest 43 = .ok (.iload_n 1, 1) := by decide +kernel
theorem dX7_cheapest_44 : decode cX7_cheapest 44 = .ok (.aload_n 0, 1) := by decide +kernel
theorem dX7_cheapest_45 : decode cX7_cheapest 45 = .ok (.getfield 13, 3) := by decide +kernel
theorem dX7_cheapest_48 : decode cX7_cheapest 48 = .ok (.iload_n 1, 1) := by decide +kernel
theorem dX7_cheapest_49 : decode cX7_cheapest 49 = .ok (.invokestatic 91, 3) := by decide +kernel
theorem dX7_cheapest_52 : decode cX7_cheapest 52 = .ok (.invokevirtual 126, 3) := by decide +kernel
theorem dX7_cheapest_55 : decode cX7_cheapest 55 = .ok (.istore_n 3, 1) := by decide +kernel
theorem dX7_cheapest_56 : decode cX7_cheapest 56 = .ok (.iload_n 3, 1) := by decide +kernel
theorem dX7_cheapest_57 : decode cX7_cheapest 57 = .ok (.ldc 122, 2) := by decide +kernel
theorem dX7_cheapest_59 : decode cX7_cheapest 59 = .ok (.if_icmp .ne 7, 3) := by decide +kernel
theorem dX7_cheapest_62 : decode cX7_cheapest 62 = .ok (.iconst (-1), 1) := by decide +kernel
theorem dX7_cheapest_63 : decode cX7_cheapest 63 = .ok (.goto 4, 3) := by decide +kernel
theorem dX7_cheapest_66 : decode cX7_cheapest 66 = .ok (.iload_n 3, 1) := by decide +kernel
theorem dX7_cheapest_67 : decode cX7_cheapest 67 = .ok (.ireturn, 1) := by decide +kernel
set_option maxRecDepth 20000 in
theorem ggX7_meetsIn_X7_in : GoodIn wsX7_meetsIn wsX7_in := goodIn_r _ [7] (by decide +kernel) (by decide +kernel)
set_option maxRecDepth 20000 in
theorem gX7_meetsIn_X7_in : GoodIn wsX7_meetsIn (va_wsS RX7 57 yX7_in wsX7_in) := goodIn_app (goodIn_of _ (by decide +kernel)) ggX7_meetsIn_X7_in
set_option maxRecDepth 20000 in
theorem ggX7_meetsIn_X7_refused : GoodIn wsX7_meetsIn wsX7_refused := goodIn_r _ [11, 12, 32, 33, 34, 35, 36, 37, 38, 39, 40, 41, 42, 43, 44] (by decide +kernel) (by decide +kernel)
set_option maxRecDepth 20000 in
theorem gX7_meetsIn_X7_refused : GoodIn wsX7_meetsIn (wsV RX7 137 RX7 yX7_refused wsX7_refused) := goodIn_app (goodIn_of _ (by decide +kernel)) ggX7_meetsIn_X7_refused
set_option maxRecDepth 20000 in
theorem ggX7_meetsIn_X7_head : GoodIn wsX7_meetsIn wsX7_head := goodIn_r _ [15, 16, 17, 6, 18] (by decide +kernel) (by decide +kernel)
set_option maxRecDepth 20000 in
theorem gX7_meetsIn_X7_head : GoodIn wsX7_meetsIn (va_wsS RX7 91 yX7_head wsX7_head) := goodIn_app (goodIn_of _ (by decide +kernel)) ggX7_meetsIn_X7_head
set_option maxRecDepth 20000 in
theorem ggX7_meetsIn_X7_stepFrom : GoodIn wsX7_meetsIn wsX7_stepFrom := goodIn_r _ [21, 22, 23, 6, 24, 25, 4, 5, 7] (by decide +kernel) (by decide +kernel)
set_option maxRecDepth 20000 in
theorem gX7_meetsIn_X7_stepFrom : GoodIn wsX7_meetsIn (va_wsS RX7 95 yX7_stepFrom wsX7_stepFrom) := goodIn_app (goodIn_of _ (by decide +kernel)) ggX7_meetsIn_X7_stepFrom
set_option maxRecDepth 20000 in
theorem ggX7_meetsIn_X7_isDam : GoodIn wsX7_meetsIn wsX7_isDam := goodIn_r _ [28] (by decide +kernel) (by decide +kernel)
set_option maxRecDepth 20000 in
theorem gX7_meetsIn_X7_isDam : GoodIn wsX7_meetsIn (va_wsS RX7 51 yX7_isDam wsX7_isDam) := goodIn_app (goodIn_of _ (by decide +kernel)) ggX7_meetsIn_X7_isDam
set_option maxRecDepth 20000 in
theorem ggX7_meetsIn_X7_isRiver : GoodIn wsX7_meetsIn wsX7_isRiver := goodIn_r _ [31] (by decide +kernel) (by decide +kernel)
set_option maxRecDepth 20000 in
theorem gX7_meetsIn_X7_isRiver : GoodIn wsX7_meetsIn (va_wsS RX7 99 yX7_isRiver wsX7_isRiver) := goodIn_app (goodIn_of _ (by decide +kernel)) ggX7_meetsIn_X7_isRiver
theorem dX7_meetsIn_0 : decode cX7_meetsIn 0 = .ok (.aload_n 0, 1) := by decide +kernel
theorem dX7_meetsIn_1 : decode cX7_meetsIn 1 = .ok (.iload_n 1, 1) := by decide +kernel
theorem dX7_meetsIn_2 : decode cX7_meetsIn 2 = .ok (.i2l, 1) := by decide +kernel
theorem dX7_meetsIn_3 : decode cX7_meetsIn 3 = .ok (.lconst 0, 1) := by decide +kernel
theorem dX7_meetsIn_4 : decode cX7_meetsIn 4 = .ok (.lconst 1, 1) := by decide +kernel
theorem dX7_meetsIn_5 : decode cX7_meetsIn 5 = .ok (.invokestatic 57, 3) := by decide +kernel
theorem dX7_meetsIn_8 : decode cX7_meetsIn 8 = .ok (.ifCond .eq 7, 3) := by decide +kernel
theorem dX7_meetsIn_11 : decode cX7_meetsIn 11 = .ok (.iconst 0, 1) := by decide +kernel
theorem dX7_meetsIn_12 : decode cX7_meetsIn 12 = .ok (.goto 4, 3) := by decide +kernel
theorem dX7_meetsIn_15 : decode cX7_meetsIn 15 = .ok (.iconst 1, 1) := by decide +kernel
theorem dX7_meetsIn_16 : decode cX7_meetsIn 16 = .ok (.invokevirtual 137, 3) := by decide +kernel
theorem dX7_meetsIn_19 : decode cX7_meetsIn 19 = .ok (.ifCond .eq 5, 3) := by decide +kernel
theorem dX7_meetsIn_22 : decode cX7_meetsIn 22 = .ok (.iconst 0, 1) := by decide +kernel
theorem dX7_meetsIn_23 : decode cX7_meetsIn 23 = .ok (.ireturn, 1) := by decide +kernel
theorem dX7_meetsIn_24 : decode cX7_meetsIn 24 = .ok (.aload_n 0, 1) := by decide +kernel
theorem dX7_meetsIn_25 : decode cX7_meetsIn 25 = .ok (.getfield 13, 3) := by decide +kernel
theorem dX7_meetsIn_28 : decode cX7_meetsIn 28 = .ok (.iconst 1, 1) := by decide +kernel
theorem dX7_meetsIn_29 : decode cX7_meetsIn 29 = .ok (.iaload, 1) := by decide +kernel
theorem dX7_meetsIn_30 : decode cX7_meetsIn 30 = .ok (.iconst 2, 1) := by decide +kernel
theorem dX7_meetsIn_31 : decode cX7_meetsIn 31 = .ok (.if_icmp .ne 5, 3) := by decide +kernel
theorem dX7_meetsIn_34 : decode cX7_meetsIn 34 = .ok (.iconst 0, 1) := by decide +kernel
theorem dX7_meetsIn_35 : decode cX7_meetsIn 35 = .ok (.ireturn, 1) := by decide +kernel
theorem dX7_meetsIn_36 : decode cX7_meetsIn 36 = .ok (.iconst 0, 1) := by decide +kernel
theorem dX7_meetsIn_37 : decode cX7_meetsIn 37 = .ok (.istore_n 2, 1) := by decide +kernel
theorem dX7_meetsIn_38 : decode cX7_meetsIn 38 = .ok (.iload_n 2, 1) := by decide +kernel
theorem dX7_meetsIn_39 : decode cX7_meetsIn 39 = .ok (.bipush 64, 2) := by decide +kernel
theorem dX7_meetsIn_41 : decode cX7_meetsIn 41 = .ok (.if_icmp .ge 33, 3) := by decide +kernel
theorem dX7_meetsIn_44 : decode cX7_meetsIn 44 = .ok (.aload_n 0, 1) := by decide +kernel
theorem dX7_meetsIn_45 : decode cX7_meetsIn 45 = .ok (.getfield 29, 3) := by decide +kernel
theorem dX7_meetsIn_48 : decode cX7_meetsIn 48 = .ok (.iload_n 2, 1) := by decide +kernel
theorem dX7_meetsIn_49 : decode cX7_meetsIn 49 = .ok (.iload_n 2, 1) := by decide +kernel
theorem dX7_meetsIn_50 : decode cX7_meetsIn 50 = .ok (.aload_n 0, 1) := by decide +kernel
theorem dX7_meetsIn_51 : decode cX7_meetsIn 51 = .ok (.getfield 13, 3) := by decide +kernel
theorem dX7_meetsIn_54 : decode cX7_meetsIn 54 = .ok (.iload_n 1, 1) := by decide +kernel
theorem dX7_meetsIn_55 : decode cX7_meetsIn 55 = .ok (.invokestatic 91, 3) := by decide +kernel
theorem dX7_meetsIn_58 : decode cX7_meetsIn 58 = .ok (.if_icmp .ne 7, 3) := by decide +kernel
theorem dX7_meetsIn_61 : decode cX7_meetsIn 61 = .ok (.iconst 0, 1) := by decide +kernel
theorem dX7_meetsIn_62 : decode cX7_meetsIn 62 = .ok (.goto 5, 3) := by decide +kernel
theorem dX7_meetsIn_65 : decode cX7_meetsIn 65 = .ok (.ldc 122, 2) := by decide +kernel
theorem dX7_meetsIn_67 : decode cX7_meetsIn 67 = .ok (.iastore, 1) := by decide +kernel
theorem dX7_meetsIn_68 : decode cX7_meetsIn 68 = .ok (.iinc 2 1, 3) := by decide +kernel
theorem dX7_meetsIn_71 : decode cX7_meetsIn 71 = .ok (.goto (-33), 3) := by decide +kernel
theorem dX7_meetsIn_74 : decode cX7_meetsIn 74 = .ok (.iconst 0, 1) := by decide +kernel
theorem dX7_meetsIn_75 : decode cX7_meetsIn 75 = .ok (.istore_n 2, 1) := by decide +kernel
theorem dX7_meetsIn_76 : decode cX7_meetsIn 76 = .ok (.iload_n 2, 1) := by decide +kernel
theorem dX7_meetsIn_77 : decode cX7_meetsIn 77 = .ok (.bipush 64, 2) := by decide +kernel
theorem dX7_meetsIn_79 : decode cX7_meetsIn 79 = .ok (.if_icmp .ge 119, 3) := by decide +kernel
theorem dX7_meetsIn_82 : decode cX7_meetsIn 82 = .ok (.iconst 0, 1) := by decide +kernel
theorem dX7_meetsIn_83 : decode cX7_meetsIn 83 = .ok (.istore_n 3, 1) := by decide +kernel
theorem dX7_meetsIn_84 : decode cX7_meetsIn 84 = .ok (.iload_n 3, 1) := by decide +kernel
theorem dX7_meetsIn_85 : decode cX7_meetsIn 85 = .ok (.sipush 192, 3) := by decide +kernel
theorem dX7_meetsIn_88 : decode cX7_meetsIn 88 = .ok (.if_icmp .ge 104, 3) := by decide +kernel
theorem dX7_meetsIn_91 : decode cX7_meetsIn 91 = .ok (.iload_n 3, 1) := by decide +kernel
theorem dX7_meetsIn_92 : decode cX7_meetsIn 92 = .ok (.iconst 3, 1) := by decide +kernel
theorem dX7_meetsIn_93 : decode cX7_meetsIn 93 = .ok (.idiv, 1) := by decide +kernel
theorem dX7_meetsIn_94 : decode cX7_meetsIn 94 = .ok (.iload_n 3, 1) := by decide +kernel
theorem dX7_meetsIn_95 : decode cX7_meetsIn 95 = .ok (.iconst 3, 1) := by decide +kernel
theorem dX7_meetsIn_96 : decode cX7_meetsIn 96 = .ok (.irem, 1) := by decide +kernel
theorem dX7_meetsIn_97 : decode cX7_meetsIn 97 = .ok (.invokestatic 95, 3) := by decide +kernel
theorem dX7_meetsIn_100 : decode cX7_meetsIn 100 = .ok (.istore 4, 2) := by decide +kernel
theorem dX7_meetsIn_102 : decode cX7_meetsIn 102 = .ok (.aload_n 0, 1) := by decide +kernel
theorem dX7_meetsIn_103 : decode cX7_meetsIn 103 = .ok (.getfield 29, 3) := by decide +kernel
theorem dX7_meetsIn_106 : decode cX7_meetsIn 106 = .ok (.iload_n 3, 1) := by decide +kernel
theorem dX7_meetsIn_107 : decode cX7_meetsIn 107 = .ok (.iconst 3, 1) := by decide +kernel
theorem dX7_meetsIn_108 : decode cX7_meetsIn 108 = .ok (.idiv, 1) := by decide +kernel
theorem dX7_meetsIn_109 : decode cX7_meetsIn 109 = .ok (.iaload, 1) := by decide +kernel
theorem dX7_meetsIn_110 : decode cX7_meetsIn 110 = .ok (.iload_n 2, 1) := by decide +kernel
theorem dX7_meetsIn_111 : decode cX7_meetsIn 111 = .ok (.if_icmp .ne 75, 3) := by decide +kernel
theorem dX7_meetsIn_114 : decode cX7_meetsIn 114 = .ok (.iload 4, 2) := by decide +kernel
theorem dX7_meetsIn_116 : decode cX7_meetsIn 116 = .ok (.iconst (-1), 1) := by decide +kernel
theorem dX7_meetsIn_117 : decode cX7_meetsIn 117 = .ok (.if_icmp .eq 69, 3) := by decide +kernel
theorem dX7_meetsIn_120 : decode cX7_meetsIn 120 = .ok (.aload_n 0, 1) := by decide +kernel
theorem dX7_meetsIn_121 : decode cX7_meetsIn 121 = .ok (.getfield 29, 3) := by decide +kernel
theorem dX7_meetsIn_124 : decode cX7_meetsIn 124 = .ok (.iload 4, 2) := by decide +kernel
theorem dX7_meetsIn_126 : decode cX7_meetsIn 126 = .ok (.iaload, 1) := by decide +kernel
theorem dX7_meetsIn_127 : decode cX7_meetsIn 127 = .ok (.ldc 122, 2) := by decide +kernel
theorem dX7_meetsIn_129 : decode cX7_meetsIn 129 = .ok (.if_icmp .ne 57, 3) := by decide +kernel
theorem dX7_meetsIn_132 : decode cX7_meetsIn 132 = .ok (.aload_n 0, 1) := by decide +kernel
theorem dX7_meetsIn_133 : decode cX7_meetsIn 133 = .ok (.getfield 13, 3) := by decide +kernel
theorem dX7_meetsIn_136 : decode cX7_meetsIn 136 = .ok (.iload 4, 2) := by decide +kernel
theorem dX7_meetsIn_138 : decode cX7_meetsIn 138 = .ok (.invokestatic 51, 3) := by decide +kernel
theorem dX7_meetsIn_141 : decode cX7_meetsIn 141 = .ok (.ifCond .ne 45, 3) := by decide +kernel
theorem dX7_meetsIn_144 : decode cX7_meetsIn 144 = .ok (.aload_n 0, 1) := by decide +kernel
theorem dX7_meetsIn_145 : decode cX7_meetsIn 145 = .ok (.getfield 13, 3) := by decide +kernel
theorem dX7_meetsIn_148 : decode cX7_meetsIn 148 = .ok (.iload_n 1, 1) := by decide +kernel
theorem dX7_meetsIn_149 : decode cX7_meetsIn 149 = .ok (.iload 4, 2) := by decide +kernel
theorem dX7_meetsIn_151 : decode cX7_meetsIn 151 = .ok (.invokestatic 99, 3) := by decide +kernel
theorem dX7_meetsIn_154 : decode cX7_meetsIn 154 = .ok (.ifCond .ne 32, 3) := by decide +kernel
theorem dX7_meetsIn_157 : decode cX7_meetsIn 157 = .ok (.aload_n 0, 1) := by decide +kernel
theorem dX7_meetsIn_158 : decode cX7_meetsIn 158 = .ok (.getfield 13, 3) := by decide +kernel
theorem dX7_meetsIn_161 : decode cX7_meetsIn 161 = .ok (.iconst 1, 1) := by decide +kernel
theorem dX7_meetsIn_162 : decode cX7_meetsIn 162 = .ok (.iload_n 1, 1) := by decide +kernel
theorem dX7_meetsIn_163 : decode cX7_meetsIn 163 = .ok (.isub, 1) := by decide +kernel
theorem dX7_meetsIn_164 : decode cX7_meetsIn 164 = .ok (.iload 4, 2) := by decide +kernel
theorem dX7_meetsIn_166 : decode cX7_meetsIn 166 = .ok (.invokestatic 99, 3) := by decide +kernel
theorem dX7_meetsIn_169 : decode cX7_meetsIn 169 = .ok (.ifCond .eq 7, 3) := by decide +kernel
theorem dX7_meetsIn_172 : decode cX7_meetsIn 172 = .ok (.iload_n 2, 1) := by decide +kernel
theorem dX7_meetsIn_173 : decode cX7_meetsIn 173 = .ok (.iconst 1, 1) := by decide +kernel
theorem dX7_meetsIn_174 : decode cX7_meetsIn 174 = .ok (.iadd, 1) := by decide +kernel
theorem dX7_meetsIn_175 : decode cX7_meetsIn 175 = .ok (.ireturn, 1) := by decide +kernel
theorem dX7_meetsIn_176 : decode cX7_meetsIn 176 = .ok (.aload_n 0, 1) := by decide +kernel
theorem dX7_meetsIn_177 : decode cX7_meetsIn 177 = .ok (.getfield 29, 3) := by decide +kernel
theorem dX7_meetsIn_180 : decode cX7_meetsIn 180 = .ok (.iload 4, 2) := by decide +kernel
theorem dX7_meetsIn_182 : decode cX7_meetsIn 182 = .ok (.iload_n 2, 1) := by decide +kernel
theorem dX7_meetsIn_183 : decode cX7_meetsIn 183 = .ok (.iconst 1, 1) := by decide +kernel
theorem dX7_meetsIn_184 : decode cX7_meetsIn 184 = .ok (.iadd, 1) := by decide +kernel
theorem dX7_meetsIn_185 : decode cX7_meetsIn 185 = .ok (.iastore, 1) := by decide +kernel
theorem dX7_meetsIn_186 : decode cX7_meetsIn 186 = .ok (.iinc 3 1, 3) := by decide +kernel
theorem dX7_meetsIn_189 : decode cX7_meetsIn 189 = .ok (.goto (-105), 3) := by decide +kernel
theorem dX7_meetsIn_192 : decode cX7_meetsIn 192 = .ok (.iinc 2 1, 3) := by decide +kernel
theorem dX7_meetsIn_195 : decode cX7_meetsIn 195 = .ok (.goto (-119), 3) := by decide +kernel
theorem dX7_meetsIn_198 : decode cX7_meetsIn 198 = .ok (.iconst (-1), 1) := by decide +kernel
theorem dX7_meetsIn_199 : decode cX7_meetsIn 199 = .ok (.ireturn, 1) := by decide +kernel
set_option maxRecDepth 20000 in
theorem ggX7_leastWished_X7_head : GoodIn wsX7_leastWished wsX7_head := goodIn_r _ [9, 10, 11, 8, 12] (by decide +kernel) (by decide +kernel)
set_option maxRecDepth 20000 in
theorem gX7_leastWished_X7_head : GoodIn wsX7_leastWished (va_wsS RX7 91 yX7_head wsX7_head) := goodIn_app (goodIn_of _ (by decide +kernel)) ggX7_leastWished_X7_head
set_option maxRecDepth 20000 in
theorem ggX7_leastWished_X7_measure : GoodIn wsX7_leastWished wsX7_measure := goodIn_r _ [16, 4, 5, 17, 18, 8, 19, 20, 21, 22, 23, 24, 25, 26, 27, 28, 29, 30, 31, 32, 33, 34, 35, 36, 37, 38, 39, 40, 41, 42, 43, 44, 45, 46, 47, 48] (by decide +kernel) (by decide +kernel)
set_option maxRecDepth 20000 in
theorem gX7_leastWished_X7_measure : GoodIn wsX7_leastWished (wsV RX7 123 RX7 yX7_measure wsX7_measure) := goodIn_app (goodIn_of _ (by decide +kernel)) ggX7_leastWished_X7_measure
set_option maxRecDepth 20000 in
theorem ggX7_leastWished_X7_cost : GoodIn wsX7_leastWished wsX7_cost := goodIn_r _ [35] (by decide +kernel) (by decide +kernel)
set_option maxRecDepth 20000 in
theorem gX7_leastWished_X7_cost : GoodIn wsX7_leastWished (va_wsS RX7 85 yX7_cost wsX7_cost) := goodIn_app (goodIn_of _ (by decide +kernel)) ggX7_leastWished_X7_cost
set_option maxRecDepth 20000 in
theorem ggX7_leastWished_X7_isBare : GoodIn wsX7_leastWished wsX7_isBare := goodIn_r _ [29, 30, 31, 8, 32] (by decide +kernel) (by decide +kernel)
set_option maxRecDepth 20000 in
theorem gX7_leastWished_X7_isBare : GoodIn wsX7_leastWished (va_wsS RX7 113 yX7_isBare wsX7_isBare) := goodIn_app (goodIn_of _ (by decide +kernel)) ggX7_leastWished_X7_isBare
theorem dX7_leastWished_0 : decode cX7_leastWished 0 = .ok (.aload_n 0, 1) := by decide +kernel
theorem dX7_leastWished_1 : decode cX7_leastWished 1 = .ok (.iconst 0, 1) := by decide +kernel
theorem dX7_leastWished_2 : decode cX7_leastWished 2 = .ok (.putfield 39, 3) := by decide +kernel
theorem dX7_leastWished_5 : decode cX7_leastWished 5 = .ok (.aload_n 0, 1) := by decide +kernel
theorem dX7_leastWished_6 : decode cX7_leastWished 6 = .ok (.aload_n 0, 1) := by decide +kernel
theorem dX7_leastWished_7 : decode cX7_leastWished 7 = .ok (.getfield 13, 3) := by decide +kernel
theorem dX7_leastWished_10 : decode cX7_leastWished 10 = .ok (.iconst 0, 1) := by decide +kernel
theorem dX7_leastWished_11 : decode cX7_leastWished 11 = .ok (.aload_n 0, 1) := by decide +kernel
theorem dX7_leastWished_12 : decode cX7_leastWished 12 = .ok (.getfield 13, 3) := by decide +kernel
theorem dX7_leastWished_15 : decode cX7_leastWished 15 = .ok (.iconst 0, 1) := by decide +kernel
theorem dX7_leastWished_16 : decode cX7_leastWished 16 = .ok (.invokestatic 91, 3) := by decide +kernel
theorem dX7_leastWished_19 : decode cX7_leastWished 19 = .ok (.invokevirtual 123, 3) := by decide +kernel
theorem dX7_leastWished_22 : decode cX7_leastWished 22 = .ok (.iconst 0, 1) := by decide +kernel
theorem dX7_leastWished_23 : decode cX7_leastWished 23 = .ok (.istore_n 1, 1) := by decide +kernel
theorem dX7_leastWished_24 : decode cX7_leastWished 24 = .ok (.iload_n 1, 1) := by decide +kernel
theorem dX7_leastWished_25 : decode cX7_leastWished 25 = .ok (.bipush 64, 2) := by decide +kernel
theorem dX7_leastWished_27 : decode cX7_leastWished 27 = .ok (.if_icmp .ge 21, 3) := by decide +kernel
theorem dX7_leastWished_30 : decode cX7_leastWished 30 = .ok (.aload_n 0, 1) := by decide +kernel
theorem dX7_leastWished_31 : decode cX7_leastWished 31 = .ok (.getfield 32, 3) := by decide +kernel
theorem dX7_leastWished_34 : decode cX7_leastWished 34 = .ok (.iload_n 1, 1) := by decide +kernel
theorem dX7_leastWished_35 : decode cX7_leastWished 35 = .ok (.aload_n 0, 1) := by decide +kernel
theorem dX7_leastWished_36 : decode cX7_leastWished 36 = .ok (.getfield 29, 3) := by decide +kernel
theorem dX7_leastWished_39 : decode cX7_leastWished 39 = .ok (.iload_n 1, 1) := by decide +kernel
theorem dX7_leastWished_40 : decode cX7_leastWished 40 = .ok (.iaload, 1) := by decide +kernel
theorem dX7_leastWished_41 : decode cX7_leastWished 41 = .ok (.iastore, 1) := by decide +kernel
theorem dX7_leastWished_42 : decode cX7_leastWished 42 = .ok (.iinc 1 1, 3) := by decide +kernel
theorem dX7_leastWished_45 : decode cX7_leastWished 45 = .ok (.goto (-21), 3) := by decide +kernel
theorem dX7_leastWished_48 : decode cX7_leastWished 48 = .ok (.aload_n 0, 1) := by decide +kernel
theorem dX7_leastWished_49 : decode cX7_leastWished 49 = .ok (.aload_n 0, 1) := by decide +kernel
theorem dX7_leastWished_50 : decode cX7_leastWished 50 = .ok (.getfield 13, 3) := by decide +kernel
theorem dX7_leastWished_53 : decode cX7_leastWished 53 = .ok (.iconst 1, 1) := by decide +kernel
theorem dX7_leastWished_54 : decode cX7_leastWished 54 = .ok (.aload_n 0, 1) := by decide +kernel
theorem dX7_leastWished_55 : decode cX7_leastWished 55 = .ok (.getfield 13, 3) := by decide +kernel
theorem dX7_leastWished_58 : decode cX7_leastWished 58 = .ok (.iconst 1, 1) := by decide +kernel
theorem dX7_leastWished_59 : decode cX7_leastWished 59 = .ok (.invokestatic 91, 3) := by decide +kernel
theorem dX7_leastWished_62 : decode cX7_leastWished 62 = .ok (.invokevirtual 123, 3) := by decide +kernel
theorem dX7_leastWished_65 : decode cX7_leastWished 65 = .ok (.iconst (-1), 1) := by decide +kernel
theorem dX7_leastWished_66 : decode cX7_leastWished 66 = .ok (.istore_n 1, 1) := by decide +kernel
theorem dX7_leastWished_67 : decode cX7_leastWished 67 = .ok (.iconst (-1), 1) := by decide +kernel
theorem dX7_leastWished_68 : decode cX7_leastWished 68 = .ok (.istore_n 2, 1) := by decide +kernel
theorem dX7_leastWished_69 : decode cX7_leastWished 69 = .ok (.iconst 0, 1) := by decide +kernel
theorem dX7_leastWished_70 : decode cX7_leastWished 70 = .ok (.istore_n 3, 1) := by decide +kernel
theorem dX7_leastWished_71 : decode cX7_leastWished 71 = .ok (.iload_n 3, 1) := by decide +kernel
theorem dX7_leastWished_72 : decode cX7_leastWished 72 = .ok (.bipush 64, 2) := by decide +kernel
theorem dX7_leastWished_74 : decode cX7_leastWished 74 = .ok (.if_icmp .ge 74, 3) := by decide +kernel
theorem dX7_leastWished_77 : decode cX7_leastWished 77 = .ok (.aload_n 0, 1) := by decide +kernel
theorem dX7_leastWished_78 : decode cX7_leastWished 78 = .ok (.getfield 13, 3) := by decide +kernel
theorem dX7_leastWished_81 : decode cX7_leastWished 81 = .ok (.iconst 0, 1) := by decide +kernel
theorem dX7_leastWished_82 : decode cX7_leastWished 82 = .ok (.iload_n 3, 1) := by decide +kernel
theorem dX7_leastWished_83 : decode cX7_leastWished 83 = .ok (.invokestatic 85, 3) := by decide +kernel
theorem dX7_leastWished_86 : decode cX7_leastWished 86 = .ok (.aload_n 0, 1) := by decide +kernel
theorem dX7_leastWished_87 : decode cX7_leastWished 87 = .ok (.getfield 13, 3) := by decide +kernel
theorem dX7_leastWished_90 : decode cX7_leastWished 90 = .ok (.iconst 1, 1) := by decide +kernel
theorem dX7_leastWished_91 : decode cX7_leastWished 91 = .ok (.iload_n 3, 1) := by decide +kernel
theorem dX7_leastWished_92 : decode cX7_leastWished 92 = .ok (.invokestatic 85, 3) := by decide +kernel
theorem dX7_leastWished_95 : decode cX7_leastWished 95 = .ok (.iadd, 1) := by decide +kernel
theorem dX7_leastWished_96 : decode cX7_leastWished 96 = .ok (.istore 4, 2) := by decide +kernel
theorem dX7_leastWished_98 : decode cX7_leastWished 98 = .ok (.aload_n 0, 1) := by decide +kernel
theorem dX7_leastWished_99 : decode cX7_leastWished 99 = .ok (.getfield 13, 3) := by decide +kernel
theorem dX7_leastWished_102 : decode cX7_leastWished 102 = .ok (.iload_n 3, 1) := by decide +kernel
theorem dX7_leastWished_103 : decode cX7_leastWished 103 = .ok (.invokestatic 113, 3) := by decide +kernel
theorem dX7_leastWished_106 : decode cX7_leastWished 106 = .ok (.ifCond .eq 36, 3) := by decide +kernel
theorem dX7_leastWished_109 : decode cX7_leastWished 109 = .ok (.aload_n 0, 1) := by decide +kernel
theorem dX7_leastWished_110 : decode cX7_leastWished 110 = .ok (.getfield 29, 3) := by decide +kernel
theorem dX7_leastWished_113 : decode cX7_leastWished 113 = .ok (.iload_n 3, 1) := by decide +kernel
theorem dX7_leastWished_114 : decode cX7_leastWished 114 = .ok (.iaload, 1) := by decide +kernel
theorem dX7_leastWished_115 : decode cX7_leastWished 115 = .ok (.ldc 122, 2) := by decide +kernel
theorem dX7_leastWished_117 : decode cX7_leastWished 117 = .ok (.if_icmp .ge 25, 3) := by decide +kernel
theorem dX7_leastWished_120 : decode cX7_leastWished 120 = .ok (.aload_n 0, 1) := by decide +kernel
theorem dX7_leastWished_121 : decode cX7_leastWished 121 = .ok (.getfield 32, 3) := by decide +kernel
theorem dX7_leastWished_124 : decode cX7_leastWished 124 = .ok (.iload_n 3, 1) := by decide +kernel
theorem dX7_leastWished_125 : decode cX7_leastWished 125 = .ok (.iaload, 1) := by decide +kernel
theorem dX7_leastWished_126 : decode cX7_leastWished 126 = .ok (.ldc 122, 2) := by decide +kernel
theorem dX7_leastWished_128 : decode cX7_leastWished 128 = .ok (.if_icmp .ge 14, 3) := by decide +kernel
theorem dX7_leastWished_131 : decode cX7_leastWished 131 = .ok (.iload 4, 2) := by decide +kernel
theorem dX7_leastWished_133 : decode cX7_leastWished 133 = .ok (.iload_n 2, 1) := by decide +kernel
theorem dX7_leastWished_134 : decode cX7_leastWished 134 = .ok (.if_icmp .le 8, 3) := by decide +kernel
theorem dX7_leastWished_137 : decode cX7_leastWished 137 = .ok (.iload_n 3, 1) := by decide +kernel
theorem dX7_leastWished_138 : decode cX7_leastWished 138 = .ok (.istore_n 1, 1) := by decide +kernel
theorem dX7_leastWished_139 : decode cX7_leastWished 139 = .ok (.iload 4, 2) := by decide +kernel
theorem dX7_leastWished_141 : decode cX7_leastWished 141 = .ok (.istore_n 2, 1) := by decide +kernel
theorem dX7_leastWished_142 : decode cX7_leastWished 142 = .ok (.iinc 3 1, 3) := by decide +kernel
theorem dX7_leastWished_145 : decode cX7_leastWished 145 = .ok (.goto (-74), 3) := by decide +kernel
theorem dX7_leastWished_148 : decode cX7_leastWished 148 = .ok (.iload_n 1, 1) := by decide +kernel
theorem dX7_leastWished_149 : decode cX7_leastWished 149 = .ok (.ireturn, 1) := by decide +kernel
set_option maxRecDepth 20000 in
theorem ggX7_best_X7_bestOf : GoodIn wsX7_best wsX7_bestOf := goodIn_r _ [7, 8, 9, 6, 10, 11, 12, 13, 14, 15, 16, 17, 18, 19, 20, 21, 22, 23, 24, 25, 26, 27, 28, 29, 30, 31, 32, 33, 34, 35, 36, 37, 38, 39, 40, 41, 42, 43, 44, 45, 46, 47, 48, 49, 50, 51, 52, 53, 54, 55, 56, 57, 58, 59, 60, 61, 62, 63, 64, 65, 66, 67, 68] (by decide +kernel) (by decide +kernel)
set_option maxRecDepth 20000 in
theorem gX7_best_X7_bestOf : GoodIn wsX7_best (wsV RX7 154 RX7 yX7_bestOf wsX7_bestOf) := goodIn_app (goodIn_of _ (by decide +kernel)) ggX7_best_X7_bestOf
theorem dX7_best_0 : decode cX7_best 0 = .ok (.aload_n 0, 1) := by decide +kernel
theorem dX7_best_1 : decode cX7_best 1 = .ok (.iconst 0, 1) := by decide +kernel
theorem dX7_best_2 : decode cX7_best 2 = .ok (.putfield 39, 3) := by decide +kernel
theorem dX7_best_5 : decode cX7_best 5 = .ok (.aload_n 0, 1) := by decide +kernel
theorem dX7_best_6 : decode cX7_best 6 = .ok (.aload_n 0, 1) := by decide +kernel
theorem dX7_best_7 : decode cX7_best 7 = .ok (.getfield 13, 3) := by decide +kernel
theorem dX7_best_10 : decode cX7_best 10 = .ok (.invokevirtual 154, 3) := by decide +kernel
theorem dX7_best_13 : decode cX7_best 13 = .ok (.ireturn, 1) := by decide +kernel
set_option maxRecDepth 20000 in
theorem ggX7_stepsBest_X7_bestOf : GoodIn wsX7_stepsBest wsX7_bestOf := goodIn_r _ [6, 7, 8, 5, 9, 10, 11, 12, 13, 14, 15, 16, 17, 18, 19, 20, 21, 22, 23, 24, 25, 26, 27, 28, 29, 30, 31, 32, 33, 34, 35, 36, 37, 38, 39, 40, 41, 42, 43, 44, 45, 46, 47, 48, 49, 50, 51, 52, 53, 54, 73, 74, 75, 76, 77, 78, 79, 80, 81, 82, 83, 84, 85] (by decide +kernel) (by decide +kernel)
set_option maxRecDepth 20000 in
theorem gX7_stepsBest_X7_bestOf : GoodIn wsX7_stepsBest (wsV RX7 154 RX7 yX7_bestOf wsX7_bestOf) := goodIn_app (goodIn_of _ (by decide +kernel)) ggX7_stepsBest_X7_bestOf
set_option maxRecDepth 20000 in
theorem ggX7_stepsBest_X7_stepOn : GoodIn wsX7_stepsBest wsX7_stepOn := goodIn_r _ [57, 10, 11, 5, 12, 13, 14, 15, 16, 17, 18, 19, 20, 21, 22, 23, 24, 25, 26, 27, 28, 29, 30, 31, 32, 33, 34, 58, 59, 60, 61, 62, 63, 64, 65, 66, 40, 41, 42, 67, 68, 69, 70, 71, 72, 7, 8, 9] (by decide +kernel) (by decide +kernel)
set_option maxRecDepth 20000 in
theorem gX7_stepsBest_X7_stepOn : GoodIn wsX7_stepsBest (va_wsS RX7 147 yX7_stepOn wsX7_stepOn) := goodIn_app (goodIn_of _ (by decide +kernel)) ggX7_stepsBest_X7_stepOn
theorem dX7_stepsBest_0 : decode cX7_stepsBest 0 = .ok (.iconst 1, 1) := by decide +kernel
theorem dX7_stepsBest_1 : decode cX7_stepsBest 1 = .ok (.istore_n 2, 1) := by decide +kernel
theorem dX7_stepsBest_2 : decode cX7_stepsBest 2 = .ok (.iconst 0, 1) := by decide +kernel
theorem dX7_stepsBest_3 : decode cX7_stepsBest 3 = .ok (.istore_n 3, 1) := by decide +kernel
theorem dX7_stepsBest_4 : decode cX7_stepsBest 4 = .ok (.iload_n 3, 1) := by decide +kernel
theorem dX7_stepsBest_5 : decode cX7_stepsBest 5 = .ok (.iload_n 1, 1) := by decide +kernel
theorem dX7_stepsBest_6 : decode cX7_stepsBest 6 = .ok (.if_icmp .ge 47, 3) := by decide +kernel
theorem dX7_stepsBest_9 : decode cX7_stepsBest 9 = .ok (.iload_n 2, 1) := by decide +kernel
theorem dX7_stepsBest_10 : decode cX7_stepsBest 10 = .ok (.ifCond .eq 43, 3) := by decide +kernel
theorem dX7_stepsBest_13 : decode cX7_stepsBest 13 = .ok (.aload_n 0, 1) := by decide +kernel
theorem dX7_stepsBest_14 : decode cX7_stepsBest 14 = .ok (.aload_n 0, 1) := by decide +kernel
theorem dX7_stepsBest_15 : decode cX7_stepsBest 15 = .ok (.getfield 16, 3) := by decide +kernel
theorem dX7_stepsBest_18 : decode cX7_stepsBest 18 = .ok (.invokevirtual 154, 3) := by decide +kernel
theorem dX7_stepsBest_21 : decode cX7_stepsBest 21 = .ok (.istore 4, 2) := by decide +kernel
theorem dX7_stepsBest_23 : decode cX7_stepsBest 23 = .ok (.iload 4, 2) := by decide +kernel
theorem dX7_stepsBest_25 : decode cX7_stepsBest 25 = .ok (.iconst (-1), 1) := by decide +kernel
theorem dX7_stepsBest_26 : decode cX7_stepsBest 26 = .ok (.if_icmp .eq 19, 3) := by decide +kernel
theorem dX7_stepsBest_29 : decode cX7_stepsBest 29 = .ok (.aload_n 0, 1) := by decide +kernel
theorem dX7_stepsBest_30 : decode cX7_stepsBest 30 = .ok (.getfield 16, 3) := by decide +kernel
theorem dX7_stepsBest_33 : decode cX7_stepsBest 33 = .ok (.iload 4, 2) := by decide +kernel
theorem dX7_stepsBest_35 : decode cX7_stepsBest 35 = .ok (.invokestatic 147, 3) := by decide +kernel
theorem dX7_stepsBest_38 : decode cX7_stepsBest 38 = .ok (.ifCond .ne 7, 3) := by decide +kernel
theorem dX7_stepsBest_41 : decode cX7_stepsBest 41 = .ok (.iconst 1, 1) := by decide +kernel
theorem dX7_stepsBest_42 : decode cX7_stepsBest 42 = .ok (.goto 4, 3) := by decide +kernel
theorem dX7_stepsBest_45 : decode cX7_stepsBest 45 = .ok (.iconst 0, 1) := by decide +kernel
theorem dX7_stepsBest_46 : decode cX7_stepsBest 46 = .ok (.istore_n 2, 1) := by decide +kernel
theorem dX7_stepsBest_47 : decode cX7_stepsBest 47 = .ok (.iinc 3 1, 3) := by decide +kernel
theorem dX7_stepsBest_50 : decode cX7_stepsBest 50 = .ok (.goto (-46), 3) := by decide +kernel
theorem dX7_stepsBest_53 : decode cX7_stepsBest 53 = .ok (.iload_n 2, 1) := by decide +kernel
theorem dX7_stepsBest_54 : decode cX7_stepsBest 54 = .ok (.ireturn, 1) := by decide +kernel
set_option maxRecDepth 20000 in
theorem ggX7_command_X7_gameOn : GoodIn wsX7_command wsX7_gameOn := goodIn_r _ [5, 6, 7, 8, 9, 4, 10, 11, 12, 13, 14, 15, 16] (by decide +kernel) (by decide +kernel)
set_option maxRecDepth 20000 in
theorem gX7_command_X7_gameOn : GoodIn wsX7_command (va_wsS RX7 43 yX7_gameOn wsX7_gameOn) := goodIn_app (goodIn_of _ (by decide +kernel)) ggX7_command_X7_gameOn
set_option maxRecDepth 20000 in
theorem ggX7_command_X7_isUnderWay : GoodIn wsX7_command wsX7_isUnderWay := goodIn_r _ [19] (by decide +kernel) (by decide +kernel)
set_option maxRecDepth 20000 in
theorem gX7_command_X7_isUnderWay : GoodIn wsX7_command (va_wsS RX7 81 yX7_isUnderWay wsX7_isUnderWay) := goodIn_app (goodIn_of _ (by decide +kernel)) ggX7_command_X7_isUnderWay
set_option maxRecDepth 20000 in
theorem ggX7_command_X7_stepOn : GoodIn wsX7_command wsX7_stepOn := goodIn_r _ [22, 23, 24, 4, 25, 26, 27, 28, 11, 12, 13, 29, 30, 31, 32, 33, 34, 35, 36, 37, 38, 39, 40, 41, 42, 43, 44, 8, 9, 10, 14, 15, 16, 45, 46, 47, 48, 49, 50, 51, 52, 53, 54, 55, 56, 17, 18, 19] (by decide +kernel) (by decide +kernel)
set_option maxRecDepth 20000 in
theorem gX7_command_X7_stepOn : GoodIn wsX7_command (va_wsS RX7 147 yX7_stepOn wsX7_stepOn) := goodIn_app (goodIn_of _ (by decide +kernel)) ggX7_command_X7_stepOn
set_option maxRecDepth 20000 in
theorem ggX7_command_X7_isCell : GoodIn wsX7_command wsX7_isCell := goodIn_r _ [34, 35, 36, 37, 4, 38] (by decide +kernel) (by decide +kernel)
set_option maxRecDepth 20000 in
theorem gX7_command_X7_isCell : GoodIn wsX7_command (va_wsS RX7 65 yX7_isCell wsX7_isCell) := goodIn_app (goodIn_of _ (by decide +kernel)) ggX7_command_X7_isCell
set_option maxRecDepth 20000 in
theorem ggX7_command_X7_damOn : GoodIn wsX7_command wsX7_damOn := goodIn_r _ [60, 61, 62, 63, 4, 64, 65, 66, 67, 39, 40, 41, 11, 12, 13, 68, 69, 70, 71, 72, 26, 27, 28, 29, 30, 31, 32, 33, 34, 35, 36, 37, 38, 42, 43, 44, 14, 15, 16, 54, 55, 56, 17, 18, 19, 108, 109, 110, 111, 112, 113, 114, 115, 116, 117, 118, 119, 120] (by decide +kernel) (by decide +kernel)
set_option maxRecDepth 20000 in
theorem gX7_command_X7_damOn : GoodIn wsX7_command (wsV RX7 162 RX7 yX7_damOn wsX7_damOn) := goodIn_app (goodIn_of _ (by decide +kernel)) ggX7_command_X7_damOn
set_option maxRecDepth 20000 in
theorem ggX7_command_X7_canStep : GoodIn wsX7_command wsX7_canStep := goodIn_r _ [75, 23, 24, 4, 25, 26, 27, 28, 11, 12, 13, 29, 30, 31, 32, 33, 34, 35, 36, 37, 38, 39, 40, 41, 42, 43, 44] (by decide +kernel) (by decide +kernel)
set_option maxRecDepth 20000 in
theorem gX7_command_X7_canStep : GoodIn wsX7_command (va_wsS RX7 171 yX7_canStep wsX7_canStep) := goodIn_app (goodIn_of _ (by decide +kernel)) ggX7_command_X7_canStep
set_option maxRecDepth 20000 in
theorem ggX7_command_X7_floodOn : GoodIn wsX7_command wsX7_floodOn := goodIn_r _ [78, 26, 27, 4, 28, 11, 12, 13, 29, 30, 31, 32, 33, 34, 35, 36, 37, 38, 39, 40, 41, 51, 52, 53, 14, 15, 16, 54, 55, 56, 17, 18, 19] (by decide +kernel) (by decide +kernel)
set_option maxRecDepth 20000 in
theorem gX7_command_X7_floodOn : GoodIn wsX7_command (va_wsS RX7 174 yX7_floodOn wsX7_floodOn) := goodIn_app (goodIn_of _ (by decide +kernel)) ggX7_command_X7_floodOn
set_option maxRecDepth 20000 in
theorem ggX7_command_X7_isSetting : GoodIn wsX7_command wsX7_isSetting := goodIn_r _ [81, 82, 83, 36, 37, 4, 38] (by decide +kernel) (by decide +kernel)
set_option maxRecDepth 20000 in
theorem gX7_command_X7_isSetting : GoodIn wsX7_command (va_wsS RX7 180 yX7_isSetting wsX7_isSetting) := goodIn_app (goodIn_of _ (by decide +kernel)) ggX7_command_X7_isSetting
set_option maxRecDepth 20000 in
theorem ggX7_command_X7_change : GoodIn wsX7_command wsX7_change := goodIn_r _ [86] (by decide +kernel) (by decide +kernel)
set_option maxRecDepth 20000 in
theorem gX7_command_X7_change : GoodIn wsX7_command (va_wsS RX7 183 yX7_change wsX7_change) := goodIn_app (goodIn_of _ (by decide +kernel)) ggX7_command_X7_change
set_option maxRecDepth 20000 in
theorem ggX7_command_X7_stepsBest : GoodIn wsX7_command wsX7_stepsBest := goodIn_r _ [90, 1, 91, 92, 93, 4, 94, 17, 18, 19, 23, 24, 25, 26, 27, 28, 11, 12, 13, 29, 30, 31, 32, 33, 34, 35, 36, 37, 38, 39, 40, 41, 42, 43, 44, 95, 96, 97, 98, 99, 48, 49, 50, 100, 101, 102, 103, 72, 104, 105, 106, 107, 65, 66, 67, 20, 21, 22, 8, 9, 10, 14, 15, 16, 45, 46, 47, 51, 52, 53, 54, 55, 56, 108, 109, 110, 111, 112, 113, 114, 115, 116, 117, 118, 119, 120] (by decide +kernel) (by decide +kernel)
set_option maxRecDepth 20000 in
theorem gX7_command_X7_stepsBest : GoodIn wsX7_command (wsV RX7 210 RX7 yX7_stepsBest wsX7_stepsBest) := goodIn_app (goodIn_of _ (by decide +kernel)) ggX7_command_X7_stepsBest
set_option maxRecDepth 20000 in
theorem ggX7_command_X7_of : GoodIn wsX7_command wsX7_of := goodIn_r _ [13] (by decide +kernel) (by decide +kernel)
set_option maxRecDepth 20000 in
theorem gX7_command_X7_of : GoodIn wsX7_command (va_wsS RX7 47 yX7_of wsX7_of) := goodIn_app (goodIn_of _ (by decide +kernel)) ggX7_command_X7_of
theorem dX7_command_0 : decode cX7_command 0 = .ok (.iload_n 2, 1) := by decide +kernel
theorem dX7_command_1 : decode cX7_command 1 = .ok (.bipush 100, 2) := by decide +kernel
theorem dX7_command_3 : decode cX7_command 3 = .ok (.idiv, 1) := by decide +kernel
theorem dX7_command_4 : decode cX7_command 4 = .ok (.istore_n 3, 1) := by decide +kernel
theorem dX7_command_5 : decode cX7_command 5 = .ok (.iload_n 2, 1) := by decide +kernel
theorem dX7_command_6 : decode cX7_command 6 = .ok (.bipush 10, 2) := by decide +kernel
theorem dX7_command_8 : decode cX7_command 8 = .ok (.idiv, 1) := by decide +kernel
theorem dX7_command_9 : decode cX7_command 9 = .ok (.bipush 10, 2) := by decide +kernel
theorem dX7_command_11 : decode cX7_command 11 = .ok (.irem, 1) := by decide +kernel
theorem dX7_command_12 : decode cX7_command 12 = .ok (.istore 4, 2) := by decide +kernel
theorem dX7_command_14 : decode cX7_command 14 = .ok (.iload_n 2, 1) := by decide +kernel
theorem dX7_command_15 : decode cX7_command 15 = .ok (.bipush 10, 2) := by decide +kernel
theorem dX7_command_17 : decode cX7_command 17 = .ok (.irem, 1) := by decide +kernel
theorem dX7_command_18 : decode cX7_command 18 = .ok (.istore 5, 2) := by decide +kernel
theorem dX7_command_20 : decode cX7_command 20 = .ok (.iload_n 2, 1) := by decide +kernel
theorem dX7_command_21 : decode cX7_command 21 = .ok (.bipush 100, 2) := by decide +kernel
theorem dX7_command_23 : decode cX7_command 23 = .ok (.irem, 1) := by decide +kernel
theorem dX7_command_24 : decode cX7_command 24 = .ok (.istore 6, 2) := by decide +kernel
theorem dX7_command_26 : decode cX7_command 26 = .ok (.iload_n 1, 1) := by decide +kernel
theorem dX7_command_27 : decode cX7_command 27 = .ok (.tableswitch 316 1 9 #[49, 72, 105, 154, 194, 222, 243, 268, 291], 49) := by decide +kernel
theorem dX7_command_76 : decode cX7_command 76 = .ok (.iload_n 3, 1) := by decide +kernel
theorem dX7_command_77 : decode cX7_command 77 = .ok (.ifCond .ne 20, 3) := by decide +kernel
theorem dX7_command_80 : decode cX7_command 80 = .ok (.aload_n 0, 1) := by decide +kernel
theorem dX7_command_81 : decode cX7_command 81 = .ok (.getfield 16, 3) := by decide +kernel
theorem dX7_command_84 : decode cX7_command 84 = .ok (.iload 6, 2) := by decide +kernel
theorem dX7_command_86 : decode cX7_command 86 = .ok (.i2l, 1) := by decide +kernel
theorem dX7_command_87 : decode cX7_command 87 = .ok (.invokestatic 43, 3) := by decide +kernel
theorem dX7_command_90 : decode cX7_command 90 = .ok (.ifCond .le 7, 3) := by decide +kernel
theorem dX7_command_93 : decode cX7_command 93 = .ok (.iconst 1, 1) := by decide +kernel
theorem dX7_command_94 : decode cX7_command 94 = .ok (.goto 4, 3) := by decide +kernel
theorem dX7_command_97 : decode cX7_command 97 = .ok (.iconst 0, 1) := by decide +kernel
theorem dX7_command_98 : decode cX7_command 98 = .ok (.ireturn, 1) := by decide +kernel
theorem dX7_command_99 : decode cX7_command 99 = .ok (.iload_n 2, 1) := by decide +kernel
theorem dX7_command_100 : decode cX7_command 100 = .ok (.iconst 3, 1) := by decide +kernel
theorem dX7_command_101 : decode cX7_command 101 = .ok (.if_icmp .ge 29, 3) := by decide +kernel
theorem dX7_command_104 : decode cX7_command 104 = .ok (.aload_n 0, 1) := by decide +kernel
theorem dX7_command_105 : decode cX7_command 105 = .ok (.getfield 16, 3) := by decide +kernel
theorem dX7_command_108 : decode cX7_command 108 = .ok (.invokestatic 81, 3) := by decide +kernel
theorem dX7_command_111 : decode cX7_command 111 = .ok (.ifCond .eq 19, 3) := by decide +kernel
theorem dX7_command_114 : decode cX7_command 114 = .ok (.aload_n 0, 1) := by decide +kernel
theorem dX7_command_115 : decode cX7_command 115 = .ok (.getfield 16, 3) := by decide +kernel
theorem dX7_command_118 : decode cX7_command 118 = .ok (.iload 5, 2) := by decide +kernel
theorem dX7_command_120 : decode cX7_command 120 = .ok (.invokestatic 147, 3) := by decide +kernel
theorem dX7_command_123 : decode cX7_command 123 = .ok (.ifCond .ne 7, 3) := by decide +kernel
theorem dX7_command_126 : decode cX7_command 126 = .ok (.iconst 1, 1) := by decide +kernel
theorem dX7_command_127 : decode cX7_command 127 = .ok (.goto 4, 3) := by decide +kernel
theorem dX7_command_130 : decode cX7_command 130 = .ok (.iconst 0, 1) := by decide +kernel
theorem dX7_command_131 : decode cX7_command 131 = .ok (.ireturn, 1) := by decide +kernel
theorem dX7_command_132 : decode cX7_command 132 = .ok (.iload_n 3, 1) := by decide +kernel
theorem dX7_command_133 : decode cX7_command 133 = .ok (.ifCond .ne 46, 3) := by decide +kernel
theorem dX7_command_136 : decode cX7_command 136 = .ok (.iload 4, 2) := by decide +kernel
theorem dX7_command_138 : decode cX7_command 138 = .ok (.iload 5, 2) := by decide +kernel
theorem dX7_command_140 : decode cX7_command 140 = .ok (.invokestatic 65, 3) := by decide +kernel
theorem dX7_command_143 : decode cX7_command 143 = .ok (.ifCond .eq 36, 3) := by decide +kernel
theorem dX7_command_146 : decode cX7_command 146 = .ok (.aload_n 0, 1) := by decide +kernel
theorem dX7_command_147 : decode cX7_command 147 = .ok (.getfield 16, 3) := by decide +kernel
theorem dX7_command_150 : decode cX7_command 150 = .ok (.invokestatic 81, 3) := by decide +kernel
theorem dX7_command_153 : decode cX7_command 153 = .ok (.ifCond .eq 26, 3) := by decide +kernel
theorem dX7_command_156 : decode cX7_command 156 = .ok (.aload_n 0, 1) := by decide +kernel
theorem dX7_command_157 : decode cX7_command 157 = .ok (.aload_n 0, 1) := by decide +kernel
theorem dX7_command_158 : decode cX7_command 158 = .ok (.getfield 16, 3) := by decide +kernel
theorem dX7_command_161 : decode cX7_command 161 = .ok (.bipush 8, 2) := by decide +kernel
theorem dX7_command_163 : decode cX7_command 163 = .ok (.iload 5, 2) := by decide +kernel
theorem dX7_command_165 : decode cX7_command 165 = .ok (.imul, 1) := by decide +kernel
theorem dX7_command_166 : decode cX7_command 166 = .ok (.iload 4, 2) := by decide +kernel
theorem dX7_command_168 : decode cX7_command 168 = .ok (.iadd, 1) := by decide +kernel
theorem dX7_command_169 : decode cX7_command 169 = .ok (.invokevirtual 162, 3) := by decide +kernel
theorem dX7_command_172 : decode cX7_command 172 = .ok (.ifCond .ne 7, 3) := by decide +kernel
theorem dX7_command_175 : decode cX7_command 175 = .ok (.iconst 1, 1) := by decide +kernel
theorem dX7_command_176 : decode cX7_command 176 = .ok (.goto 4, 3) := by decide +kernel
theorem dX7_command_179 : decode cX7_command 179 = .ok (.iconst 0, 1) := by decide +kernel
theorem dX7_command_180 : decode cX7_command 180 = .ok (.ireturn, 1) := by decide +kernel
theorem dX7_command_181 : decode cX7_command 181 = .ok (.iload_n 2, 1) := by decide +kernel
theorem dX7_command_182 : decode cX7_command 182 = .ok (.ifCond .ne 37, 3) := by decide +kernel
theorem dX7_command_185 : decode cX7_command 185 = .ok (.aload_n 0, 1) := by decide +kernel
theorem dX7_command_186 : decode cX7_command 186 = .ok (.getfield 16, 3) := by decide +kernel
theorem dX7_command_189 : decode cX7_command 189 = .ok (.invokestatic 81, 3) := by decide +kernel
theorem dX7_command_192 : decode cX7_command 192 = .ok (.ifCond .eq 27, 3) := by decide +kernel
theorem dX7_command_195 : decode cX7_command 195 = .ok (.aload_n 0, 1) := by decide +kernel
theorem dX7_command_196 : decode cX7_command 196 = .ok (.getfield 16, 3) := by decide +kernel
theorem dX7_command_199 : decode cX7_command 199 = .ok (.invokestatic 171, 3) := by decide +kernel
theorem dX7_command_202 : decode cX7_command 202 = .ok (.ifCond .ne 17, 3) := by decide +kernel
theorem dX7_command_205 : decode cX7_command 205 = .ok (.aload_n 0, 1) := by decide +kernel
theorem dX7_command_206 : decode cX7_command 206 = .ok (.getfield 16, 3) := by decide +kernel
theorem dX7_command_209 : decode cX7_command 209 = .ok (.invokestatic 174, 3) := by decide +kernel
theorem dX7_command_212 : decode cX7_command 212 = .ok (.ifCond .lt 7, 3) := by decide +kernel
theorem dX7_command_215 : decode cX7_command 215 = .ok (.iconst 1, 1) := by decide +kernel
theorem dX7_command_216 : decode cX7_command 216 = .ok (.goto 4, 3) := by decide +kernel
theorem dX7_command_219 : decode cX7_command 219 = .ok (.iconst 0, 1) := by decide +kernel
theorem dX7_command_220 : decode cX7_command 220 = .ok (.ireturn, 1) := by decide +kernel
theorem dX7_command_221 : decode cX7_command 221 = .ok (.iload_n 3, 1) := by decide +kernel
theorem dX7_command_222 : decode cX7_command 222 = .ok (.iload 6, 2) := by decide +kernel
theorem dX7_command_224 : decode cX7_command 224 = .ok (.invokestatic 180, 3) := by decide +kernel
theorem dX7_command_227 : decode cX7_command 227 = .ok (.ifCond .eq 20, 3) := by decide +kernel
theorem dX7_command_230 : decode cX7_command 230 = .ok (.aload_n 0, 1) := by decide +kernel
theorem dX7_command_231 : decode cX7_command 231 = .ok (.getfield 16, 3) := by decide +kernel
theorem dX7_command_234 : decode cX7_command 234 = .ok (.iload_n 3, 1) := by decide +kernel
theorem dX7_command_235 : decode cX7_command 235 = .ok (.iload 6, 2) := by decide +kernel
theorem dX7_command_237 : decode cX7_command 237 = .ok (.invokestatic 183, 3) := by decide +kernel
theorem dX7_command_240 : decode cX7_command 240 = .ok (.ifCond .lt 7, 3) := by decide +kernel
theorem dX7_command_243 : decode cX7_command 243 = .ok (.iconst 1, 1) := by decide +kernel
theorem dX7_command_244 : decode cX7_command 244 = .ok (.goto 4, 3) := by decide +kernel
theorem dX7_command_247 : decode cX7_command 247 = .ok (.iconst 0, 1) := by decide +kernel
theorem dX7_command_248 : decode cX7_command 248 = .ok (.ireturn, 1) := by decide +kernel
theorem dX7_command_249 : decode cX7_command 249 = .ok (.iload_n 2, 1) := by decide +kernel
theorem dX7_command_250 : decode cX7_command 250 = .ok (.bipush 10, 2) := by decide +kernel
theorem dX7_command_252 : decode cX7_command 252 = .ok (.if_icmp .ge 16, 3) := by decide +kernel
theorem dX7_command_255 : decode cX7_command 255 = .ok (.aload_n 0, 1) := by decide +kernel
theorem dX7_command_256 : decode cX7_command 256 = .ok (.iload 5, 2) := by decide +kernel
theorem dX7_command_258 : decode cX7_command 258 = .ok (.invokevirtual 210, 3) := by decide +kernel
theorem dX7_command_261 : decode cX7_command 261 = .ok (.ifCond .eq 7, 3) := by decide +kernel
theorem dX7_command_264 : decode cX7_command 264 = .ok (.iconst 1, 1) := by decide +kernel
theorem dX7_command_265 : decode cX7_command 265 = .ok (.goto 4, 3) := by decide +kernel
theorem dX7_command_268 : decode cX7_command 268 = .ok (.iconst 0, 1) := by decide +kernel
theorem dX7_command_269 : decode cX7_command 269 = .ok (.ireturn, 1) := by decide +kernel
theorem dX7_command_270 : decode cX7_command 270 = .ok (.iload_n 3, 1) := by decide +kernel
theorem dX7_command_271 : decode cX7_command 271 = .ok (.iconst 2, 1) := by decide +kernel
theorem dX7_command_272 : decode cX7_command 272 = .ok (.if_icmp .ge 21, 3) := by decide +kernel
theorem dX7_command_275 : decode cX7_command 275 = .ok (.aload_n 0, 1) := by decide +kernel
theorem dX7_command_276 : decode cX7_command 276 = .ok (.getfield 16, 3) := by decide +kernel
theorem dX7_command_279 : decode cX7_command 279 = .ok (.iload_n 3, 1) := by decide +kernel
theorem dX7_command_280 : decode cX7_command 280 = .ok (.iconst 0, 1) := by decide +kernel
theorem dX7_command_281 : decode cX7_command 281 = .ok (.invokestatic 47, 3) := by decide +kernel
theorem dX7_command_284 : decode cX7_command 284 = .ok (.iload 6, 2) := by decide +kernel
theorem dX7_command_286 : decode cX7_command 286 = .ok (.if_icmp .gt 7, 3) := by decide +kernel
theorem dX7_command_289 : decode cX7_command 289 = .ok (.iconst 1, 1) := by decide +kernel
theorem dX7_command_290 : decode cX7_command 290 = .ok (.goto 4, 3) := by decide +kernel
theorem dX7_command_293 : decode cX7_command 293 = .ok (.iconst 0, 1) := by decide +kernel
theorem dX7_command_294 : decode cX7_command 294 = .ok (.ireturn, 1) := by decide +kernel
theorem dX7_command_295 : decode cX7_command 295 = .ok (.iload_n 2, 1) := by decide +kernel
theorem dX7_command_296 : decode cX7_command 296 = .ok (.bipush 10, 2) := by decide +kernel
theorem dX7_command_298 : decode cX7_command 298 = .ok (.if_icmp .ge 18, 3) := by decide +kernel
theorem dX7_command_301 : decode cX7_command 301 = .ok (.aload_n 0, 1) := by decide +kernel
theorem dX7_command_302 : decode cX7_command 302 = .ok (.getfield 16, 3) := by decide +kernel
theorem dX7_command_305 : decode cX7_command 305 = .ok (.iconst 1, 1) := by decide +kernel
theorem dX7_command_306 : decode cX7_command 306 = .ok (.iaload, 1) := by decide +kernel
theorem dX7_command_307 : decode cX7_command 307 = .ok (.iload 5, 2) := by decide +kernel
theorem dX7_command_309 : decode cX7_command 309 = .ok (.if_icmp .ne 7, 3) := by decide +kernel
theorem dX7_command_312 : decode cX7_command 312 = .ok (.iconst 1, 1) := by decide +kernel
theorem dX7_command_313 : decode cX7_command 313 = .ok (.goto 4, 3) := by decide +kernel
theorem dX7_command_316 : decode cX7_command 316 = .ok (.iconst 0, 1) := by decide +kernel
theorem dX7_command_317 : decode cX7_command 317 = .ok (.ireturn, 1) := by decide +kernel
theorem dX7_command_318 : decode cX7_command 318 = .ok (.iload_n 3, 1) := by decide +kernel
theorem dX7_command_319 : decode cX7_command 319 = .ok (.iconst 2, 1) := by decide +kernel
theorem dX7_command_320 : decode cX7_command 320 = .ok (.if_icmp .ge 21, 3) := by decide +kernel
theorem dX7_command_323 : decode cX7_command 323 = .ok (.aload_n 0, 1) := by decide +kernel
theorem dX7_command_324 : decode cX7_command 324 = .ok (.getfield 16, 3) := by decide +kernel
theorem dX7_command_327 : decode cX7_command 327 = .ok (.iload_n 3, 1) := by decide +kernel
theorem dX7_command_328 : decode cX7_command 328 = .ok (.iconst 4, 1) := by decide +kernel
theorem dX7_command_329 : decode cX7_command 329 = .ok (.invokestatic 47, 3) := by decide +kernel
theorem dX7_command_332 : decode cX7_command 332 = .ok (.iload 6, 2) := by decide +kernel
theorem dX7_command_334 : decode cX7_command 334 = .ok (.if_icmp .lt 7, 3) := by decide +kernel
theorem dX7_command_337 : decode cX7_command 337 = .ok (.iconst 1, 1) := by decide +kernel
theorem dX7_command_338 : decode cX7_command 338 = .ok (.goto 4, 3) := by decide +kernel
theorem dX7_command_341 : decode cX7_command 341 = .ok (.iconst 0, 1) := by decide +kernel
theorem dX7_command_342 : decode cX7_command 342 = .ok (.ireturn, 1) := by decide +kernel
theorem dX7_command_343 : decode cX7_command 343 = .ok (.iconst 0, 1) := by decide +kernel
theorem dX7_command_344 : decode cX7_command 344 = .ok (.ireturn, 1) := by decide +kernel
set_option maxRecDepth 20000 in
theorem ggX7_runScript_X7_in : GoodIn wsX7_runScript wsX7_in := goodIn_r _ [8] (by decide +kernel) (by decide +kernel)
set_option maxRecDepth 20000 in
theorem gX7_runScript_X7_in : GoodIn wsX7_runScript (va_wsS RX7 57 yX7_in wsX7_in) := goodIn_app (goodIn_of _ (by decide +kernel)) ggX7_runScript_X7_in
set_option maxRecDepth 20000 in
theorem ggX7_runScript_X7_refused : GoodIn wsX7_runScript wsX7_refused := goodIn_r _ [12, 13, 123, 124, 125, 126, 127, 128, 129, 130, 131, 132, 133, 134, 135] (by decide +kernel) (by decide +kernel)
set_option maxRecDepth 20000 in
theorem gX7_runScript_X7_refused : GoodIn wsX7_runScript (wsV RX7 137 RX7 yX7_refused wsX7_refused) := goodIn_app (goodIn_of _ (by decide +kernel)) ggX7_runScript_X7_refused
set_option maxRecDepth 20000 in
theorem ggX7_runScript_X7_copyState : GoodIn wsX7_runScript wsX7_copyState := goodIn_r _ [16] (by decide +kernel) (by decide +kernel)
set_option maxRecDepth 20000 in
theorem gX7_runScript_X7_copyState : GoodIn wsX7_runScript (va_wsS RX7 192 yX7_copyState wsX7_copyState) := goodIn_app (goodIn_of _ (by decide +kernel)) ggX7_runScript_X7_copyState
set_option maxRecDepth 20000 in
theorem ggX7_runScript_X7_command : GoodIn wsX7_runScript wsX7_command := goodIn_r _ [20, 4, 21, 22, 7, 23, 24, 25, 26, 27, 28, 29, 30, 31, 32, 33, 34, 35, 36, 37, 38, 39, 40, 41, 42, 43, 44, 45, 46, 47, 48, 49, 50, 51, 52, 53, 5, 6, 8, 54, 55, 56, 57, 58, 59, 60, 61, 62, 63, 64, 65, 66, 67, 68, 69, 70, 71, 72, 73, 74, 75, 76, 77, 78, 79, 80, 81, 82, 83, 84, 85, 86, 87, 88, 89, 90, 91, 92, 93, 94, 95, 96, 97, 98, 99, 100, 101, 102, 103, 104, 105, 106, 107, 108, 109, 110, 111, 112, 113, 114, 115, 116, 117, 118, 119, 120, 121, 122, 123, 124, 125, 126, 127, 128, 129, 130, 131, 132, 133, 134, 135] (by decide +kernel) (by decide +kernel)
set_option maxRecDepth 20000 in
theorem gX7_runScript_X7_command : GoodIn wsX7_runScript (wsV RX7 217 RX7 yX7_command wsX7_command) := goodIn_app (goodIn_of _ (by decide +kernel)) ggX7_runScript_X7_command
theorem dX7_runScript_0 : decode cX7_runScript 0 = .ok (.lconst 1, 1) := by decide +kernel
theorem dX7_runScript_1 : decode cX7_runScript 1 = .ok (.lstore 4, 2) := by decide +kernel
theorem dX7_runScript_3 : decode cX7_runScript 3 = .ok (.iconst 0, 1) := by decide +kernel
theorem dX7_runScript_4 : decode cX7_runScript 4 = .ok (.istore 6, 2) := by decide +kernel
theorem dX7_runScript_6 : decode cX7_runScript 6 = .ok (.iload 6, 2) := by decide +kernel
theorem dX7_runScript_8 : decode cX7_runScript 8 = .ok (.iload_n 1, 1) := by decide +kernel
theorem dX7_runScript_9 : decode cX7_runScript 9 = .ok (.if_icmp .ge 23, 3) := by decide +kernel
theorem dX7_runScript_12 : decode cX7_runScript 12 = .ok (.iload 6, 2) := by decide +kernel
theorem dX7_runScript_14 : decode cX7_runScript 14 = .ok (.iconst 4, 1) := by decide +kernel
theorem dX7_runScript_15 : decode cX7_runScript 15 = .ok (.if_icmp .ge 17, 3) := by decide +kernel
theorem dX7_runScript_18 : decode cX7_runScript 18 = .ok (.lload 4, 2) := by decide +kernel
theorem dX7_runScript_20 : decode cX7_runScript 20 = .ok (.ldc2_w 213, 3) := by decide +kernel
theorem dX7_runScript_23 : decode cX7_runScript 23 = .ok (.lmul, 1) := by decide +kernel
theorem dX7_runScript_24 : decode cX7_runScript 24 = .ok (.lstore 4, 2) := by decide +kernel
theorem dX7_runScript_26 : decode cX7_runScript 26 = .ok (.iinc 6 1, 3) := by decide +kernel
theorem dX7_runScript_29 : decode cX7_runScript 29 = .ok (.goto (-23), 3) := by decide +kernel
theorem dX7_runScript_32 : decode cX7_runScript 32 = .ok (.aload_n 0, 1) := by decide +kernel
theorem dX7_runScript_33 : decode cX7_runScript 33 = .ok (.iload_n 1, 1) := by decide +kernel
theorem dX7_runScript_34 : decode cX7_runScript 34 = .ok (.i2l, 1) := by decide +kernel
theorem dX7_runScript_35 : decode cX7_runScript 35 = .ok (.lconst 1, 1) := by decide +kernel
theorem dX7_runScript_36 : decode cX7_runScript 36 = .ok (.ldc2_w 215, 3) := by decide +kernel
theorem dX7_runScript_39 : decode cX7_runScript 39 = .ok (.invokestatic 57, 3) := by decide +kernel
theorem dX7_runScript_42 : decode cX7_runScript 42 = .ok (.ifCond .eq 19, 3) := by decide +kernel
theorem dX7_runScript_45 : decode cX7_runScript 45 = .ok (.lload_n 2, 1) := by decide +kernel
theorem dX7_runScript_46 : decode cX7_runScript 46 = .ok (.lconst 0, 1) := by decide +kernel
theorem dX7_runScript_47 : decode cX7_runScript 47 = .ok (.lload 4, 2) := by decide +kernel
theorem dX7_runScript_49 : decode cX7_runScript 49 = .ok (.lconst 1, 1) := by decide +kernel
theorem dX7_runScript_50 : decode cX7_runScript 50 = .ok (.lsub, 1) := by decide +kernel
theorem dX7_runScript_51 : decode cX7_runScript 51 = .ok (.invokestatic 57, 3) := by decide +kernel
theorem dX7_runScript_54 : decode cX7_runScript 54 = .ok (.ifCond .eq 7, 3) := by decide +kernel
theorem dX7_runScript_57 : decode cX7_runScript 57 = .ok (.iconst 0, 1) := by decide +kernel
theorem dX7_runScript_58 : decode cX7_runScript 58 = .ok (.goto 4, 3) := by decide +kernel
theorem dX7_runScript_61 : decode cX7_runScript 61 = .ok (.iconst 1, 1) := by decide +kernel
theorem dX7_runScript_62 : decode cX7_runScript 62 = .ok (.invokevirtual 137, 3) := by decide +kernel
theorem dX7_runScript_65 : decode cX7_runScript 65 = .ok (.ifCond .eq 5, 3) := by decide +kernel
theorem dX7_runScript_68 : decode cX7_runScript 68 = .ok (.iconst 0, 1) := by decide +kernel
theorem dX7_runScript_69 : decode cX7_runScript 69 = .ok (.ireturn, 1) := by decide +kernel
theorem dX7_runScript_70 : decode cX7_runScript 70 = .ok (.aload_n 0, 1) := by decide +kernel
theorem dX7_runScript_71 : decode cX7_runScript 71 = .ok (.getfield 13, 3) := by decide +kernel
theorem dX7_runScript_74 : decode cX7_runScript 74 = .ok (.iconst 0, 1) := by decide +kernel
theorem dX7_runScript_75 : decode cX7_runScript 75 = .ok (.aload_n 0, 1) := by decide +kernel
theorem dX7_runScript_76 : decode cX7_runScript 76 = .ok (.getfield 16, 3) := by decide +kernel
theorem dX7_runScript_79 : decode cX7_runScript 79 = .ok (.iconst 0, 1) := by decide +kernel
theorem dX7_runScript_80 : decode cX7_runScript 80 = .ok (.invokestatic 192, 3) := by decide +kernel
theorem dX7_runScript_83 : decode cX7_runScript 83 = .ok (.iconst 0, 1) := by decide +kernel
theorem dX7_runScript_84 : decode cX7_runScript 84 = .ok (.istore 6, 2) := by decide +kernel
theorem dX7_runScript_86 : decode cX7_runScript 86 = .ok (.iload 6, 2) := by decide +kernel
theorem dX7_runScript_88 : decode cX7_runScript 88 = .ok (.iload_n 1, 1) := by decide +kernel
theorem dX7_runScript_89 : decode cX7_runScript 89 = .ok (.if_icmp .ge 50, 3) := by decide +kernel
theorem dX7_runScript_92 : decode cX7_runScript 92 = .ok (.lload 4, 2) := by decide +kernel
theorem dX7_runScript_94 : decode cX7_runScript 94 = .ok (.ldc2_w 213, 3) := by decide +kernel
theorem dX7_runScript_97 : decode cX7_runScript 97 = .ok (.ldiv, 1) := by decide +kernel
theorem dX7_runScript_98 : decode cX7_runScript 98 = .ok (.lstore 4, 2) := by decide +kernel
theorem dX7_runScript_100 : decode cX7_runScript 100 = .ok (.lload_n 2, 1) := by decide +kernel
theorem dX7_runScript_101 : decode cX7_runScript 101 = .ok (.lload 4, 2) := by decide +kernel
theorem dX7_runScript_103 : decode cX7_runScript 103 = .ok (.ldiv, 1) := by decide +kernel
theorem dX7_runScript_104 : decode cX7_runScript 104 = .ok (.ldc2_w 213, 3) := by decide +kernel
theorem dX7_runScript_107 : decode cX7_runScript 107 = .ok (.lrem, 1) := by decide +kernel
theorem dX7_runScript_108 : decode cX7_runScript 108 = .ok (.l2i, 1) := by decide +kernel
theorem dX7_runScript_109 : decode cX7_runScript 109 = .ok (.istore 7, 2) := by decide +kernel
theorem dX7_runScript_111 : decode cX7_runScript 111 = .ok (.aload_n 0, 1) := by decide +kernel
theorem dX7_runScript_112 : decode cX7_runScript 112 = .ok (.iload 7, 2) := by decide +kernel
theorem dX7_runScript_114 : decode cX7_runScript 114 = .ok (.sipush 1000, 3) := by decide +kernel
theorem dX7_runScript_117 : decode cX7_runScript 117 = .ok (.idiv, 1) := by decide +kernel
theorem dX7_runScript_118 : decode cX7_runScript 118 = .ok (.iload 7, 2) := by decide +kernel
theorem dX7_runScript_120 : decode cX7_runScript 120 = .ok (.sipush 1000, 3) := by decide +kernel
theorem dX7_runScript_123 : decode cX7_runScript 123 = .ok (.irem, 1) := by decide +kernel
theorem dX7_runScript_124 : decode cX7_runScript 124 = .ok (.invokevirtual 217, 3) := by decide +kernel
theorem dX7_runScript_127 : decode cX7_runScript 127 = .ok (.ifCond .ne 6, 3) := by decide +kernel
theorem dX7_runScript_130 : decode cX7_runScript 130 = .ok (.iload 6, 2) := by decide +kernel
theorem dX7_runScript_132 : decode cX7_runScript 132 = .ok (.ireturn, 1) := by decide +kernel
theorem dX7_runScript_133 : decode cX7_runScript 133 = .ok (.iinc 6 1, 3) := by decide +kernel
theorem dX7_runScript_136 : decode cX7_runScript 136 = .ok (.goto (-50), 3) := by decide +kernel
theorem dX7_runScript_139 : decode cX7_runScript 139 = .ok (.iconst (-1), 1) := by decide +kernel
theorem dX7_runScript_140 : decode cX7_runScript 140 = .ok (.ireturn, 1) := by decide +kernel
set_option maxRecDepth 20000 in
theorem ggX7_turnOf_X7_isUnderWay : GoodIn wsX7_turnOf wsX7_isUnderWay := goodIn_r _ [4] (by decide +kernel) (by decide +kernel)
set_option maxRecDepth 20000 in
theorem gX7_turnOf_X7_isUnderWay : GoodIn wsX7_turnOf (va_wsS RX7 81 yX7_isUnderWay wsX7_isUnderWay) := goodIn_app (goodIn_of _ (by decide +kernel)) ggX7_turnOf_X7_isUnderWay
set_option maxRecDepth 20000 in
theorem ggX7_turnOf_X7_gameOn : GoodIn wsX7_turnOf wsX7_gameOn := goodIn_r _ [7, 8, 9, 10, 11, 3, 12, 13, 14, 15, 16, 17, 18] (by decide +kernel) (by decide +kernel)
set_option maxRecDepth 20000 in
theorem gX7_turnOf_X7_gameOn : GoodIn wsX7_turnOf (va_wsS RX7 43 yX7_gameOn wsX7_gameOn) := goodIn_app (goodIn_of _ (by decide +kernel)) ggX7_turnOf_X7_gameOn
set_option maxRecDepth 20000 in
theorem ggX7_turnOf_X7_canStep : GoodIn wsX7_turnOf wsX7_canStep := goodIn_r _ [21, 22, 23, 3, 24, 25, 26, 27, 13, 14, 15, 28, 29, 30, 31, 32, 33, 34, 35, 36, 37, 38, 39, 40, 41, 42, 43] (by decide +kernel) (by decide +kernel)
set_option maxRecDepth 20000 in
theorem gX7_turnOf_X7_canStep : GoodIn wsX7_turnOf (va_wsS RX7 171 yX7_canStep wsX7_canStep) := goodIn_app (goodIn_of _ (by decide +kernel)) ggX7_turnOf_X7_canStep
set_option maxRecDepth 20000 in
theorem ggX7_turnOf_X7_floodOn : GoodIn wsX7_turnOf wsX7_floodOn := goodIn_r _ [46, 25, 26, 3, 27, 13, 14, 15, 28, 29, 30, 31, 32, 33, 34, 35, 36, 37, 38, 39, 40, 47, 48, 49, 16, 17, 18, 50, 51, 52, 1, 2, 4] (by decide +kernel) (by decide +kernel)
set_option maxRecDepth 20000 in
theorem gX7_turnOf_X7_floodOn : GoodIn wsX7_turnOf (va_wsS RX7 174 yX7_floodOn wsX7_floodOn) := goodIn_app (goodIn_of _ (by decide +kernel)) ggX7_turnOf_X7_floodOn
set_option maxRecDepth 20000 in
theorem ggX7_turnOf_X7_damOn : GoodIn wsX7_turnOf wsX7_damOn := goodIn_r _ [56, 57, 58, 59, 3, 60, 61, 62, 63, 38, 39, 40, 13, 14, 15, 64, 65, 66, 67, 68, 25, 26, 27, 28, 29, 30, 31, 32, 33, 34, 35, 36, 37, 41, 42, 43, 16, 17, 18, 50, 51, 52, 1, 2, 4, 95, 96, 97, 98, 99, 100, 101, 102, 103, 104, 105, 106, 107] (by decide +kernel) (by decide +kernel)
set_option maxRecDepth 20000 in
theorem gX7_turnOf_X7_damOn : GoodIn wsX7_turnOf (wsV RX7 162 RX7 yX7_damOn wsX7_damOn) := goodIn_app (goodIn_of _ (by decide +kernel)) ggX7_turnOf_X7_damOn
set_option maxRecDepth 20000 in
theorem ggX7_turnOf_X7_stepOn : GoodIn wsX7_turnOf wsX7_stepOn := goodIn_r _ [71, 22, 23, 3, 24, 25, 26, 27, 13, 14, 15, 28, 29, 30, 31, 32, 33, 34, 35, 36, 37, 38, 39, 40, 41, 42, 43, 10, 11, 12, 16, 17, 18, 72, 73, 74, 75, 76, 77, 47, 48, 49, 50, 51, 52, 1, 2, 4] (by decide +kernel) (by decide +kernel)
set_option maxRecDepth 20000 in
theorem gX7_turnOf_X7_stepOn : GoodIn wsX7_turnOf (va_wsS RX7 147 yX7_stepOn wsX7_stepOn) := goodIn_app (goodIn_of _ (by decide +kernel)) ggX7_turnOf_X7_stepOn
set_option maxRecDepth 20000 in
theorem ggX7_turnOf_X7_bestOf : GoodIn wsX7_turnOf wsX7_bestOf := goodIn_r _ [81, 1, 2, 3, 4, 22, 23, 24, 25, 26, 27, 13, 14, 15, 28, 29, 30, 31, 32, 33, 34, 35, 36, 37, 38, 39, 40, 41, 42, 43, 82, 83, 84, 85, 86, 75, 76, 77, 87, 88, 89, 90, 68, 91, 92, 93, 94, 61, 62, 63, 95, 96, 97, 98, 99, 100, 101, 102, 103, 104, 105, 106, 107] (by decide +kernel) (by decide +kernel)
set_option maxRecDepth 20000 in
theorem gX7_turnOf_X7_bestOf : GoodIn wsX7_turnOf (wsV RX7 154 RX7 yX7_bestOf wsX7_bestOf) := goodIn_app (goodIn_of _ (by decide +kernel)) ggX7_turnOf_X7_bestOf
theorem dX7_turnOf_0 : decode cX7_turnOf 0 = .ok (.aload_n 1, 1) := by decide +kernel
theorem dX7_turnOf_1 : decode cX7_turnOf 1 = .ok (.invokestatic 81, 3) := by decide +kernel
theorem dX7_turnOf_4 : decode cX7_turnOf 4 = .ok (.ifCond .ne 13, 3) := by decide +kernel
theorem dX7_turnOf_7 : decode cX7_turnOf 7 = .ok (.aload_n 1, 1) := by decide +kernel
theorem dX7_turnOf_8 : decode cX7_turnOf 8 = .ok (.iload_n 3, 1) := by decide +kernel
theorem dX7_turnOf_9 : decode cX7_turnOf 9 = .ok (.i2l, 1) := by decide +kernel
theorem dX7_turnOf_10 : decode cX7_turnOf 10 = .ok (.invokestatic 43, 3) := by decide +kernel
theorem dX7_turnOf_13 : decode cX7_turnOf 13 = .ok (.pop, 1) := by decide +kernel
theorem dX7_turnOf_14 : decode cX7_turnOf 14 = .ok (.goto 72, 3) := by decide +kernel
theorem dX7_turnOf_17 : decode cX7_turnOf 17 = .ok (.aload_n 1, 1) := by decide +kernel
theorem dX7_turnOf_18 : decode cX7_turnOf 18 = .ok (.invokestatic 171, 3) := by decide +kernel
theorem dX7_turnOf_21 : decode cX7_turnOf 21 = .ok (.ifCond .ne 11, 3) := by decide +kernel
theorem dX7_turnOf_24 : decode cX7_turnOf 24 = .ok (.aload_n 1, 1) := by decide +kernel
theorem dX7_turnOf_25 : decode cX7_turnOf 25 = .ok (.invokestatic 174, 3) := by decide +kernel
theorem dX7_turnOf_28 : decode cX7_turnOf 28 = .ok (.pop, 1) := by decide +kernel
theorem dX7_turnOf_29 : decode cX7_turnOf 29 = .ok (.goto 57, 3) := by decide +kernel
theorem dX7_turnOf_32 : decode cX7_turnOf 32 = .ok (.iload_n 2, 1) := by decide +kernel
theorem dX7_turnOf_33 : decode cX7_turnOf 33 = .ok (.ifCond .ne 27, 3) := by decide +kernel
theorem dX7_turnOf_36 : decode cX7_turnOf 36 = .ok (.aload_n 0, 1) := by decide +kernel
theorem dX7_turnOf_37 : decode cX7_turnOf 37 = .ok (.aload_n 1, 1) := by decide +kernel
theorem dX7_turnOf_38 : decode cX7_turnOf 38 = .ok (.iload_n 3, 1) := by decide +kernel
theorem dX7_turnOf_39 : decode cX7_turnOf 39 = .ok (.bipush 8, 2) := by decide +kernel
theorem dX7_turnOf_41 : decode cX7_turnOf 41 = .ok (.irem, 1) := by decide +kernel
theorem dX7_turnOf_42 : decode cX7_turnOf 42 = .ok (.bipush 8, 2) := by decide +kernel
theorem dX7_turnOf_44 : decode cX7_turnOf 44 = .ok (.iload_n 3, 1) := by decide +kernel
theorem dX7_turnOf_45 : decode cX7_turnOf 45 = .ok (.bipush 8, 2) := by decide +kernel
theorem dX7_turnOf_47 : decode cX7_turnOf 47 = .ok (.idiv, 1) := by decide +kernel
theorem dX7_turnOf_48 : decode cX7_turnOf 48 = .ok (.bipush 8, 2) := by decide +kernel
theorem dX7_turnOf_50 : decode cX7_turnOf 50 = .ok (.irem, 1) := by decide +kernel
theorem dX7_turnOf_51 : decode cX7_turnOf 51 = .ok (.imul, 1) := by decide +kernel
theorem dX7_turnOf_52 : decode cX7_turnOf 52 = .ok (.iadd, 1) := by decide +kernel
theorem dX7_turnOf_53 : decode cX7_turnOf 53 = .ok (.invokevirtual 162, 3) := by decide +kernel
theorem dX7_turnOf_56 : decode cX7_turnOf 56 = .ok (.pop, 1) := by decide +kernel
theorem dX7_turnOf_57 : decode cX7_turnOf 57 = .ok (.goto 29, 3) := by decide +kernel
theorem dX7_turnOf_60 : decode cX7_turnOf 60 = .ok (.iload_n 2, 1) := by decide +kernel
theorem dX7_turnOf_61 : decode cX7_turnOf 61 = .ok (.iconst 5, 1) := by decide +kernel
theorem dX7_turnOf_62 : decode cX7_turnOf 62 = .ok (.if_icmp .ge 14, 3) := by decide +kernel
theorem dX7_turnOf_65 : decode cX7_turnOf 65 = .ok (.aload_n 1, 1) := by decide +kernel
theorem dX7_turnOf_66 : decode cX7_turnOf 66 = .ok (.iload_n 3, 1) := by decide +kernel
theorem dX7_turnOf_67 : decode cX7_turnOf 67 = .ok (.iconst 3, 1) := by decide +kernel
theorem dX7_turnOf_68 : decode cX7_turnOf 68 = .ok (.irem, 1) := by decide +kernel
theorem dX7_turnOf_69 : decode cX7_turnOf 69 = .ok (.invokestatic 147, 3) := by decide +kernel
theorem dX7_turnOf_72 : decode cX7_turnOf 72 = .ok (.pop, 1) := by decide +kernel
theorem dX7_turnOf_73 : decode cX7_turnOf 73 = .ok (.goto 13, 3) := by decide +kernel
theorem dX7_turnOf_76 : decode cX7_turnOf 76 = .ok (.aload_n 1, 1) := by decide +kernel
theorem dX7_turnOf_77 : decode cX7_turnOf 77 = .ok (.aload_n 0, 1) := by decide +kernel
theorem dX7_turnOf_78 : decode cX7_turnOf 78 = .ok (.aload_n 1, 1) := by decide +kernel
theorem dX7_turnOf_79 : decode cX7_turnOf 79 = .ok (.invokevirtual 154, 3) := by decide +kernel
theorem dX7_turnOf_82 : decode cX7_turnOf 82 = .ok (.invokestatic 147, 3) := by decide +kernel
theorem dX7_turnOf_85 : decode cX7_turnOf 85 = .ok (.pop, 1) := by decide +kernel
theorem dX7_turnOf_86 : decode cX7_turnOf 86 = .ok (.return_, 1) := by decide +kernel
set_option maxRecDepth 20000 in
theorem ggX7_simulate_X7_in : GoodIn wsX7_simulate wsX7_in := goodIn_r _ [9] (by decide +kernel) (by decide +kernel)
set_option maxRecDepth 20000 in
theorem gX7_simulate_X7_in : GoodIn wsX7_simulate (va_wsS RX7 57 yX7_in wsX7_in) := goodIn_app (goodIn_of _ (by decide +kernel)) ggX7_simulate_X7_in
set_option maxRecDepth 20000 in
theorem ggX7_simulate_X7_refused : GoodIn wsX7_simulate wsX7_refused := goodIn_r _ [13, 14, 110, 111, 112, 113, 114, 115, 116, 117, 118, 119, 120, 121, 122] (by decide +kernel) (by decide +kernel)
set_option maxRecDepth 20000 in
theorem gX7_simulate_X7_refused : GoodIn wsX7_simulate (wsV RX7 137 RX7 yX7_refused wsX7_refused) := goodIn_app (goodIn_of _ (by decide +kernel)) ggX7_simulate_X7_refused
set_option maxRecDepth 20000 in
theorem ggX7_simulate_X7_copyState : GoodIn wsX7_simulate wsX7_copyState := goodIn_r _ [17] (by decide +kernel) (by decide +kernel)
set_option maxRecDepth 20000 in
theorem gX7_simulate_X7_copyState : GoodIn wsX7_simulate (va_wsS RX7 192 yX7_copyState wsX7_copyState) := goodIn_app (goodIn_of _ (by decide +kernel)) ggX7_simulate_X7_copyState
set_option maxRecDepth 20000 in
theorem ggX7_simulate_X7_isUnderWay : GoodIn wsX7_simulate wsX7_isUnderWay := goodIn_r _ [20] (by decide +kernel) (by decide +kernel)
set_option maxRecDepth 20000 in
theorem gX7_simulate_X7_isUnderWay : GoodIn wsX7_simulate (va_wsS RX7 81 yX7_isUnderWay wsX7_isUnderWay) := goodIn_app (goodIn_of _ (by decide +kernel)) ggX7_simulate_X7_isUnderWay
set_option maxRecDepth 20000 in
theorem ggX7_simulate_X7_turnOf : GoodIn wsX7_simulate wsX7_turnOf := goodIn_r _ [24, 18, 19, 8, 20, 25, 26, 27, 4, 5, 28, 29, 30, 31, 32, 33, 34, 35, 36, 37, 38, 39, 40, 41, 42, 43, 44, 45, 46, 47, 48, 49, 50, 51, 52, 6, 7, 9, 53, 54, 55, 56, 57, 58, 59, 60, 61, 62, 63, 64, 65, 66, 67, 68, 69, 70, 71, 72, 73, 74, 75, 76, 77, 78, 79, 80, 81, 82, 83, 84, 85, 86, 87, 88, 89, 90, 91, 92, 93, 94, 95, 96, 97, 98, 99, 100, 101, 102, 103, 104, 105, 106, 107, 108, 109, 110, 111, 112, 113, 114, 115, 116, 117, 118, 119, 120, 121, 122] (by decide +kernel) (by decide +kernel)
set_option maxRecDepth 20000 in
theorem gX7_simulate_X7_turnOf : GoodIn wsX7_simulate (wsV RX7 222 RX7 yX7_turnOf wsX7_turnOf) := goodIn_app (goodIn_of _ (by decide +kernel)) ggX7_simulate_X7_turnOf
set_option maxRecDepth 20000 in
theorem ggX7_simulate_X7_of : GoodIn wsX7_simulate wsX7_of := goodIn_r _ [33] (by decide +kernel) (by decide +kernel)
set_option maxRecDepth 20000 in
theorem gX7_simulate_X7_of : GoodIn wsX7_simulate (va_wsS RX7 47 yX7_of wsX7_of) := goodIn_app (goodIn_of _ (by decide +kernel)) ggX7_simulate_X7_of
theorem dX7_simulate_0 : decode cX7_simulate 0 = .ok (.aload_n 0, 1) := by decide +kernel
theorem dX7_simulate_1 : decode cX7_simulate 1 = .ok (.iload_n 3, 1) := by decide +kernel
theorem dX7_simulate_2 : decode cX7_simulate 2 = .ok (.i2l, 1) := by decide +kernel
theorem dX7_simulate_3 : decode cX7_simulate 3 = .ok (.lconst 1, 1) := by decide +kernel
theorem dX7_simulate_4 : decode cX7_simulate 4 = .ok (.ldc2_w 220, 3) := by decide +kernel
theorem dX7_simulate_7 : decode cX7_simulate 7 = .ok (.invokestatic 57, 3) := by decide +kernel
theorem dX7_simulate_10 : decode cX7_simulate 10 = .ok (.ifCond .eq 7, 3) := by decide +kernel
theorem dX7_simulate_13 : decode cX7_simulate 13 = .ok (.iconst 0, 1) := by decide +kernel
theorem dX7_simulate_14 : decode cX7_simulate 14 = .ok (.goto 4, 3) := by decide +kernel
theorem dX7_simulate_17 : decode cX7_simulate 17 = .ok (.iconst 1, 1) := by decide +kernel
theorem dX7_simulate_18 : decode cX7_simulate 18 = .ok (.invokevirtual 137, 3) := by decide +kernel
theorem dX7_simulate_21 : decode cX7_simulate 21 = .ok (.ifCond .eq 5, 3) := by decide +kernel
theorem dX7_simulate_24 : decode cX7_simulate 24 = .ok (.iconst 0, 1) := by decide +kernel
theorem dX7_simulate_25 : decode cX7_simulate 25 = .ok (.ireturn, 1) := by decide +kernel
theorem dX7_simulate_26 : decode cX7_simulate 26 = .ok (.aload_n 0, 1) := by decide +kernel
theorem dX7_simulate_27 : decode cX7_simulate 27 = .ok (.getfield 13, 3) := by decide +kernel
theorem dX7_simulate_30 : decode cX7_simulate 30 = .ok (.iconst 0, 1) := by decide +kernel
theorem dX7_simulate_31 : decode cX7_simulate 31 = .ok (.aload_n 0, 1) := by decide +kernel
theorem dX7_simulate_32 : decode cX7_simulate 32 = .ok (.getfield 16, 3) := by decide +kernel
theorem dX7_simulate_35 : decode cX7_simulate 35 = .ok (.iconst 0, 1) := by decide +kernel
theorem dX7_simulate_36 : decode cX7_simulate 36 = .ok (.invokestatic 192, 3) := by decide +kernel
theorem dX7_simulate_39 : decode cX7_simulate 39 = .ok (.lload_n 1, 1) := by decide +kernel
theorem dX7_simulate_40 : decode cX7_simulate 40 = .ok (.lstore 4, 2) := by decide +kernel
theorem dX7_simulate_42 : decode cX7_simulate 42 = .ok (.iconst 0, 1) := by decide +kernel
theorem dX7_simulate_43 : decode cX7_simulate 43 = .ok (.istore 6, 2) := by decide +kernel
theorem dX7_simulate_45 : decode cX7_simulate 45 = .ok (.iconst 0, 1) := by decide +kernel
theorem dX7_simulate_46 : decode cX7_simulate 46 = .ok (.istore 7, 2) := by decide +kernel
theorem dX7_simulate_48 : decode cX7_simulate 48 = .ok (.iload 7, 2) := by decide +kernel
theorem dX7_simulate_50 : decode cX7_simulate 50 = .ok (.iload_n 3, 1) := by decide +kernel
theorem dX7_simulate_51 : decode cX7_simulate 51 = .ok (.if_icmp .ge 81, 3) := by decide +kernel
theorem dX7_simulate_54 : decode cX7_simulate 54 = .ok (.aload_n 0, 1) := by decide +kernel
theorem dX7_simulate_55 : decode cX7_simulate 55 = .ok (.getfield 16, 3) := by decide +kernel
theorem dX7_simulate_58 : decode cX7_simulate 58 = .ok (.invokestatic 81, 3) := by decide +kernel
theorem dX7_simulate_61 : decode cX7_simulate 61 = .ok (.istore 8, 2) := by decide +kernel
theorem dX7_simulate_63 : decode cX7_simulate 63 = .ok (.lload 4, 2) := by decide +kernel
theorem dX7_simulate_65 : decode cX7_simulate 65 = .ok (.ldc2_w 73, 3) := by decide +kernel
theorem dX7_simulate_68 : decode cX7_simulate 68 = .ok (.lmul, 1) := by decide +kernel
theorem dX7_simulate_69 : decode cX7_simulate 69 = .ok (.ldc2_w 75, 3) := by decide +kernel
theorem dX7_simulate_72 : decode cX7_simulate 72 = .ok (.ladd, 1) := by decide +kernel
theorem dX7_simulate_73 : decode cX7_simulate 73 = .ok (.lstore 4, 2) := by decide +kernel
theorem dX7_simulate_75 : decode cX7_simulate 75 = .ok (.lload 4, 2) := by decide +kernel
theorem dX7_simulate_77 : decode cX7_simulate 77 = .ok (.bipush 33, 2) := by decide +kernel
theorem dX7_simulate_79 : decode cX7_simulate 79 = .ok (.lushr, 1) := by decide +kernel
theorem dX7_simulate_80 : decode cX7_simulate 80 = .ok (.l2i, 1) := by decide +kernel
theorem dX7_simulate_81 : decode cX7_simulate 81 = .ok (.istore 9, 2) := by decide +kernel
theorem dX7_simulate_83 : decode cX7_simulate 83 = .ok (.aload_n 0, 1) := by decide +kernel
theorem dX7_simulate_84 : decode cX7_simulate 84 = .ok (.aload_n 0, 1) := by decide +kernel
theorem dX7_simulate_85 : decode cX7_simulate 85 = .ok (.getfield 16, 3) := by decide +kernel
theorem dX7_simulate_88 : decode cX7_simulate 88 = .ok (.iload 9, 2) := by decide +kernel
theorem dX7_simulate_90 : decode cX7_simulate 90 = .ok (.bipush 8, 2) := by decide +kernel
theorem dX7_simulate_92 : decode cX7_simulate 92 = .ok (.irem, 1) := by decide +kernel
theorem dX7_simulate_93 : decode cX7_simulate 93 = .ok (.iload 9, 2) := by decide +kernel
theorem dX7_simulate_95 : decode cX7_simulate 95 = .ok (.bipush 8, 2) := by decide +kernel
theorem dX7_simulate_97 : decode cX7_simulate 97 = .ok (.idiv, 1) := by decide +kernel
theorem dX7_simulate_98 : decode cX7_simulate 98 = .ok (.invokevirtual 222, 3) := by decide +kernel
theorem dX7_simulate_101 : decode cX7_simulate 101 = .ok (.iload 6, 2) := by decide +kernel
theorem dX7_simulate_103 : decode cX7_simulate 103 = .ok (.iload 8, 2) := by decide +kernel
theorem dX7_simulate_105 : decode cX7_simulate 105 = .ok (.ifCond .eq 17, 3) := by decide +kernel
theorem dX7_simulate_108 : decode cX7_simulate 108 = .ok (.aload_n 0, 1) := by decide +kernel
theorem dX7_simulate_109 : decode cX7_simulate 109 = .ok (.getfield 16, 3) := by decide +kernel
theorem dX7_simulate_112 : decode cX7_simulate 112 = .ok (.iconst 1, 1) := by decide +kernel
theorem dX7_simulate_113 : decode cX7_simulate 113 = .ok (.iaload, 1) := by decide +kernel
theorem dX7_simulate_114 : decode cX7_simulate 114 = .ok (.iconst 2, 1) := by decide +kernel
theorem dX7_simulate_115 : decode cX7_simulate 115 = .ok (.if_icmp .ne 7, 3) := by decide +kernel
theorem dX7_simulate_118 : decode cX7_simulate 118 = .ok (.iconst 1, 1) := by decide +kernel
theorem dX7_simulate_119 : decode cX7_simulate 119 = .ok (.goto 4, 3) := by decide +kernel
theorem dX7_simulate_122 : decode cX7_simulate 122 = .ok (.iconst 0, 1) := by decide +kernel
theorem dX7_simulate_123 : decode cX7_simulate 123 = .ok (.iadd, 1) := by decide +kernel
theorem dX7_simulate_124 : decode cX7_simulate 124 = .ok (.istore 6, 2) := by decide +kernel
theorem dX7_simulate_126 : decode cX7_simulate 126 = .ok (.iinc 7 1, 3) := by decide +kernel
theorem dX7_simulate_129 : decode cX7_simulate 129 = .ok (.goto (-81), 3) := by decide +kernel
theorem dX7_simulate_132 : decode cX7_simulate 132 = .ok (.sipush 10000, 3) := by decide +kernel
theorem dX7_simulate_135 : decode cX7_simulate 135 = .ok (.aload_n 0, 1) := by decide +kernel
theorem dX7_simulate_136 : decode cX7_simulate 136 = .ok (.getfield 16, 3) := by decide +kernel
theorem dX7_simulate_139 : decode cX7_simulate 139 = .ok (.iconst 0, 1) := by decide +kernel
theorem dX7_simulate_140 : decode cX7_simulate 140 = .ok (.iaload, 1) := by decide +kernel
theorem dX7_simulate_141 : decode cX7_simulate 141 = .ok (.aload_n 0, 1) := by decide +kernel
theorem dX7_simulate_142 : decode cX7_simulate 142 = .ok (.getfield 13, 3) := by decide +kernel
theorem dX7_simulate_145 : decode cX7_simulate 145 = .ok (.iconst 0, 1) := by decide +kernel
theorem dX7_simulate_146 : decode cX7_simulate 146 = .ok (.iaload, 1) := by decide +kernel
theorem dX7_simulate_147 : decode cX7_simulate 147 = .ok (.isub, 1) := by decide +kernel
theorem dX7_simulate_148 : decode cX7_simulate 148 = .ok (.imul, 1) := by decide +kernel
theorem dX7_simulate_149 : decode cX7_simulate 149 = .ok (.bipush 100, 2) := by decide +kernel
theorem dX7_simulate_151 : decode cX7_simulate 151 = .ok (.iload 6, 2) := by decide +kernel
theorem dX7_simulate_153 : decode cX7_simulate 153 = .ok (.imul, 1) := by decide +kernel
theorem dX7_simulate_154 : decode cX7_simulate 154 = .ok (.iadd, 1) := by decide +kernel
theorem dX7_simulate_155 : decode cX7_simulate 155 = .ok (.aload_n 0, 1) := by decide +kernel
theorem dX7_simulate_156 : decode cX7_simulate 156 = .ok (.getfield 16, 3) := by decide +kernel
theorem dX7_simulate_159 : decode cX7_simulate 159 = .ok (.iconst 0, 1) := by decide +kernel
theorem dX7_simulate_160 : decode cX7_simulate 160 = .ok (.iconst 4, 1) := by decide +kernel
theorem dX7_simulate_161 : decode cX7_simulate 161 = .ok (.invokestatic 47, 3) := by decide +kernel
theorem dX7_simulate_164 : decode cX7_simulate 164 = .ok (.iadd, 1) := by decide +kernel
theorem dX7_simulate_165 : decode cX7_simulate 165 = .ok (.aload_n 0, 1) := by decide +kernel
theorem dX7_simulate_166 : decode cX7_simulate 166 = .ok (.getfield 16, 3) := by decide +kernel
theorem dX7_simulate_169 : decode cX7_simulate 169 = .ok (.iconst 1, 1) := by decide +kernel
theorem dX7_simulate_170 : decode cX7_simulate 170 = .ok (.iconst 4, 1) := by decide +kernel
theorem dX7_simulate_171 : decode cX7_simulate 171 = .ok (.invokestatic 47, 3) := by decide +kernel
theorem dX7_simulate_174 : decode cX7_simulate 174 = .ok (.iadd, 1) := by decide +kernel
theorem dX7_simulate_175 : decode cX7_simulate 175 = .ok (.ireturn, 1) := by decide +kernel
set_option maxRecDepth 20000 in
theorem ggX7_save_X7_in : GoodIn wsX7_save wsX7_in := goodIn_r _ [7] (by decide +kernel) (by decide +kernel)
set_option maxRecDepth 20000 in
theorem gX7_save_X7_in : GoodIn wsX7_save (va_wsS RX7 57 yX7_in wsX7_in) := goodIn_app (goodIn_of _ (by decide +kernel)) ggX7_save_X7_in
set_option maxRecDepth 20000 in
theorem ggX7_save_X7_refused : GoodIn wsX7_save wsX7_refused := goodIn_r _ [11, 12, 16, 17, 18, 19, 20, 21, 22, 23, 24, 25, 26, 27, 28] (by decide +kernel) (by decide +kernel)
set_option maxRecDepth 20000 in
theorem gX7_save_X7_refused : GoodIn wsX7_save (wsV RX7 137 RX7 yX7_refused wsX7_refused) := goodIn_app (goodIn_of _ (by decide +kernel)) ggX7_save_X7_refused
set_option maxRecDepth 20000 in
theorem ggX7_save_X7_copyState : GoodIn wsX7_save wsX7_copyState := goodIn_r _ [15] (by decide +kernel) (by decide +kernel)
set_option maxRecDepth 20000 in
theorem gX7_save_X7_copyState : GoodIn wsX7_save (va_wsS RX7 192 yX7_copyState wsX7_copyState) := goodIn_app (goodIn_of _ (by decide +kernel)) ggX7_save_X7_copyState
theorem dX7_save_0 : decode cX7_save 0 = .ok (.aload_n 0, 1) := by decide +kernel
theorem dX7_save_1 : decode cX7_save 1 = .ok (.iload_n 1, 1) := by decide +kernel
theorem dX7_save_2 : decode cX7_save 2 = .ok (.i2l, 1) := by decide +kernel
theorem dX7_save_3 : decode cX7_save 3 = .ok (.lconst 0, 1) := by decide +kernel
theorem dX7_save_4 : decode cX7_save 4 = .ok (.lconst 1, 1) := by decide +kernel
theorem dX7_save_5 : decode cX7_save 5 = .ok (.invokestatic 57, 3) := by decide +kernel
theorem dX7_save_8 : decode cX7_save 8 = .ok (.ifCond .eq 7, 3) := by decide +kernel
theorem dX7_save_11 : decode cX7_save 11 = .ok (.iconst 0, 1) := by decide +kernel
theorem dX7_save_12 : decode cX7_save 12 = .ok (.goto 4, 3) := by decide +kernel
theorem dX7_save_15 : decode cX7_save 15 = .ok (.iconst 1, 1) := by decide +kernel
theorem dX7_save_16 : decode cX7_save 16 = .ok (.invokevirtual 137, 3) := by decide +kernel
theorem dX7_save_19 : decode cX7_save 19 = .ok (.ifCond .eq 5, 3) := by decide +kernel
theorem dX7_save_22 : decode cX7_save 22 = .ok (.iconst 0, 1) := by decide +kernel
theorem dX7_save_23 : decode cX7_save 23 = .ok (.ireturn, 1) := by decide +kernel
theorem dX7_save_24 : decode cX7_save 24 = .ok (.aload_n 0, 1) := by decide +kernel
theorem dX7_save_25 : decode cX7_save 25 = .ok (.getfield 13, 3) := by decide +kernel
theorem dX7_save_28 : decode cX7_save 28 = .ok (.iconst 0, 1) := by decide +kernel
theorem dX7_save_29 : decode cX7_save 29 = .ok (.aload_n 0, 1) := by decide +kernel
theorem dX7_save_30 : decode cX7_save 30 = .ok (.getfield 22, 3) := by decide +kernel
theorem dX7_save_33 : decode cX7_save 33 = .ok (.sipush 404, 3) := by decide +kernel
theorem dX7_save_36 : decode cX7_save 36 = .ok (.iload_n 1, 1) := by decide +kernel
theorem dX7_save_37 : decode cX7_save 37 = .ok (.imul, 1) := by decide +kernel
theorem dX7_save_38 : decode cX7_save 38 = .ok (.invokestatic 192, 3) := by decide +kernel
theorem dX7_save_41 : decode cX7_save 41 = .ok (.aload_n 0, 1) := by decide +kernel
theorem dX7_save_42 : decode cX7_save 42 = .ok (.getfield 25, 3) := by decide +kernel
theorem dX7_save_45 : decode cX7_save 45 = .ok (.iload_n 1, 1) := by decide +kernel
theorem dX7_save_46 : decode cX7_save 46 = .ok (.iconst 1, 1) := by decide +kernel
theorem dX7_save_47 : decode cX7_save 47 = .ok (.bastore, 1) := by decide +kernel
theorem dX7_save_48 : decode cX7_save 48 = .ok (.aload_n 0, 1) := by decide +kernel
theorem dX7_save_49 : decode cX7_save 49 = .ok (.getfield 13, 3) := by decide +kernel
theorem dX7_save_52 : decode cX7_save 52 = .ok (.iconst 3, 1) := by decide +kernel
theorem dX7_save_53 : decode cX7_save 53 = .ok (.iaload, 1) := by decide +kernel
theorem dX7_save_54 : decode cX7_save 54 = .ok (.ireturn, 1) := by decide +kernel
set_option maxRecDepth 20000 in
theorem ggX7_restore_X7_in : GoodIn wsX7_restore wsX7_in := goodIn_r _ [8] (by decide +kernel) (by decide +kernel)
set_option maxRecDepth 20000 in
theorem gX7_restore_X7_in : GoodIn wsX7_restore (va_wsS RX7 57 yX7_in wsX7_in) := goodIn_app (goodIn_of _ (by decide +kernel)) ggX7_restore_X7_in
set_option maxRecDepth 20000 in
theorem ggX7_restore_X7_refused : GoodIn wsX7_restore wsX7_refused := goodIn_r _ [12, 13, 17, 18, 19, 20, 21, 22, 23, 24, 25, 26, 27, 28, 29] (by decide +kernel) (by decide +kernel)
set_option maxRecDepth 20000 in
theorem gX7_restore_X7_refused : GoodIn wsX7_restore (wsV RX7 137 RX7 yX7_refused wsX7_refused) := goodIn_app (goodIn_of _ (by decide +kernel)) ggX7_restore_X7_refused
set_option maxRecDepth 20000 in
theorem ggX7_restore_X7_copyState : GoodIn wsX7_restore wsX7_copyState := goodIn_r _ [16] (by decide +kernel) (by decide +kernel)
set_option maxRecDepth 20000 in
theorem gX7_restore_X7_copyState : GoodIn wsX7_restore (va_wsS RX7 192 yX7_copyState wsX7_copyState) := goodIn_app (goodIn_of _ (by decide +kernel)) ggX7_restore_X7_copyState
theorem dX7_restore_0 : decode cX7_restore 0 = .ok (.aload_n 0, 1) := by decide +kernel
theorem dX7_restore_1 : decode cX7_restore 1 = .ok (.iload_n 1, 1) := by decide +kernel
theorem dX7_restore_2 : decode cX7_restore 2 = .ok (.i2l, 1) := by decide +kernel
theorem dX7_restore_3 : decode cX7_restore 3 = .ok (.lconst 0, 1) := by decide +kernel
theorem dX7_restore_4 : decode cX7_restore 4 = .ok (.lconst 1, 1) := by decide +kernel
theorem dX7_restore_5 : decode cX7_restore 5 = .ok (.invokestatic 57, 3) := by decide +kernel
theorem dX7_restore_8 : decode cX7_restore 8 = .ok (.ifCond .ne 7, 3) := by decide +kernel
theorem dX7_restore_11 : decode cX7_restore 11 = .ok (.iconst 1, 1) := by decide +kernel
theorem dX7_restore_12 : decode cX7_restore 12 = .ok (.goto 17, 3) := by decide +kernel
theorem dX7_restore_15 : decode cX7_restore 15 = .ok (.aload_n 0, 1) := by decide +kernel
theorem dX7_restore_16 : decode cX7_restore 16 = .ok (.getfield 25, 3) := by decide +kernel
theorem dX7_restore_19 : decode cX7_restore 19 = .ok (.iload_n 1, 1) := by decide +kernel
theorem dX7_restore_20 : decode cX7_restore 20 = .ok (.baload, 1) := by decide +kernel
theorem dX7_restore_21 : decode cX7_restore 21 = .ok (.ifCond .ne 7, 3) := by decide +kernel
theorem dX7_restore_24 : decode cX7_restore 24 = .ok (.iconst 2, 1) := by decide +kernel
theorem dX7_restore_25 : decode cX7_restore 25 = .ok (.goto 4, 3) := by decide +kernel
theorem dX7_restore_28 : decode cX7_restore 28 = .ok (.iconst 0, 1) := by decide +kernel
theorem dX7_restore_29 : decode cX7_restore 29 = .ok (.invokevirtual 137, 3) := by decide +kernel
theorem dX7_restore_32 : decode cX7_restore 32 = .ok (.ifCond .eq 5, 3) := by decide +kernel
theorem dX7_restore_35 : decode cX7_restore 35 = .ok (.iconst 0, 1) := by decide +kernel
theorem dX7_restore_36 : decode cX7_restore 36 = .ok (.ireturn, 1) := by decide +kernel
theorem dX7_restore_37 : decode cX7_restore 37 = .ok (.aload_n 0, 1) := by decide +kernel
theorem dX7_restore_38 : decode cX7_restore 38 = .ok (.getfield 22, 3) := by decide +kernel
theorem dX7_restore_41 : decode cX7_restore 41 = .ok (.sipush 404, 3) := by decide +kernel
theorem dX7_restore_44 : decode cX7_restore 44 = .ok (.iload_n 1, 1) := by decide +kernel
theorem dX7_restore_45 : decode cX7_restore 45 = .ok (.imul, 1) := by decide +kernel
theorem dX7_restore_46 : decode cX7_restore 46 = .ok (.aload_n 0, 1) := by decide +kernel
theorem dX7_restore_47 : decode cX7_restore 47 = .ok (.getfield 13, 3) := by decide +kernel
theorem dX7_restore_50 : decode cX7_restore 50 = .ok (.iconst 0, 1) := by decide +kernel
theorem dX7_restore_51 : decode cX7_restore 51 = .ok (.invokestatic 192, 3) := by decide +kernel
theorem dX7_restore_54 : decode cX7_restore 54 = .ok (.aload_n 0, 1) := by decide +kernel
theorem dX7_restore_55 : decode cX7_restore 55 = .ok (.iconst 0, 1) := by decide +kernel
theorem dX7_restore_56 : decode cX7_restore 56 = .ok (.putfield 196, 3) := by decide +kernel
theorem dX7_restore_59 : decode cX7_restore 59 = .ok (.aload_n 0, 1) := by decide +kernel
theorem dX7_restore_60 : decode cX7_restore 60 = .ok (.getfield 13, 3) := by decide +kernel
theorem dX7_restore_63 : decode cX7_restore 63 = .ok (.iconst 3, 1) := by decide +kernel
theorem dX7_restore_64 : decode cX7_restore 64 = .ok (.iaload, 1) := by decide +kernel
theorem dX7_restore_65 : decode cX7_restore 65 = .ok (.ireturn, 1) := by decide +kernel
