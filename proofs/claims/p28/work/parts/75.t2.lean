/-! THE LAW'S TRIES, the others -/
set_option maxRecDepth 20000 in
theorem ggL_doScript_X6_runScript : GoodIn wsL_doScript wsX6_runScript := goodIn_ca (goodIn_r _ [7, 8, 9, 10, 11, 12, 13, 14, 6, 15, 16, 17, 18, 19, 20, 21, 22, 23, 24, 25, 26, 27, 28, 29, 30, 31, 32, 33, 34, 35, 36, 37, 38, 39, 40, 41, 42, 43, 44, 45, 46, 47, 48, 49, 50, 51, 52, 53, 54, 55, 56, 57, 58, 59, 60, 61, 62, 63, 64, 65, 66, 67, 68, 69, 70, 71, 72, 73, 74, 75, 76, 77, 78, 79, 80, 81, 82, 83, 84, 85, 86, 87, 88, 89, 90, 91, 92, 93, 94, 95, 96, 97, 98, 99, 100, 101, 102, 103, 104, 105, 106, 107, 108, 109, 110, 111, 112, 113, 114, 115, 116, 117, 118, 119, 120, 121, 122, 123, 124, 125, 126, 127, 128, 129, 130, 131, 132, 133, 134, 135, 136, 137, 138, 139, 140, 141, 142, 143, 144, 145, 146, 147, 148, 149, 150, 151, 152, 153, 154, 155, 156, 157, 158, 159, 160, 161, 162, 163, 164, 165, 166, 167, 168, 169, 170, 171, 172, 173, 174, 175, 176, 177, 178, 179, 180, 181, 182, 183, 184, 185, 186, 187, 188, 189, 190, 191, 192, 193, 194, 195, 196, 197, 198, 199, 200, 201, 202, 203, 204, 205, 206, 207, 208, 209, 210, 211, 212, 213, 214, 215, 216, 217, 218, 219, 220, 221, 222, 223, 224, 225, 226, 227, 228, 229, 230, 231, 232, 233, 234, 235, 236, 237, 238, 239, 240, 241, 242, 243, 244, 245, 246, 247, 248, 249, 250, 251, 252, 253, 254, 255, 256, 257, 258, 259, 260, 261, 262, 263, 264, 265, 266, 267, 268, 269, 270, 271, 272, 273, 274, 275, 276, 277, 278, 279, 280, 281, 282, 283, 284, 285, 286, 287, 288, 289] (by decide +kernel) (by decide +kernel)) (goodIn_sub (fun _ h => List.mem_cons_of_mem _ (List.mem_append_right _ h)) (by decide +kernel))
set_option maxRecDepth 20000 in
theorem gL_doScript_X6_runScript : GoodIn wsL_doScript (wsV RL 7 RX6 yX6_runScript wsX6_runScript) := goodIn_app (goodIn_of _ (by decide +kernel)) ggL_doScript_X6_runScript
theorem dL_doScript_0 : decode cL_doScript 0 = .ok (.aload_n 0, 1) := by decide +kernel
theorem dL_doScript_1 : decode cL_doScript 1 = .ok (.iload_n 1, 1) := by decide +kernel
theorem dL_doScript_2 : decode cL_doScript 2 = .ok (.lload_n 2, 1) := by decide +kernel
theorem dL_doScript_3 : decode cL_doScript 3 = .ok (.invokevirtual 7, 3) := by decide +kernel
theorem dL_doScript_6 : decode cL_doScript 6 = .ok (.ireturn, 1) := by decide +kernel
theorem dL_doScript_7 : decode cL_doScript 7 = .ok (.astore 4, 2) := by decide +kernel
theorem dL_doScript_9 : decode cL_doScript 9 = .ok (.ldc 15, 2) := by decide +kernel
theorem dL_doScript_11 : decode cL_doScript 11 = .ok (.ireturn, 1) := by decide +kernel
set_option maxRecDepth 20000 in
theorem ggL_tryLay_X6_set : GoodIn wsL_tryLay wsX6_set := goodIn_ca (goodIn_r _ [7, 8, 9, 10, 11, 12, 13, 6, 14, 15, 16, 17, 18, 19, 20, 21, 22, 23, 24, 25, 26, 27, 28, 29, 30, 31, 32, 33, 34, 35, 36, 37, 38, 39, 40, 41, 42, 43, 44, 45, 46, 47, 48, 49, 50, 51, 52, 53, 54, 55, 56, 57, 58, 59, 60, 61, 62, 63, 64, 65, 66, 67, 68, 69, 70, 71, 72, 73, 74, 75, 76, 77, 78, 79, 80, 81, 82, 83, 84, 85, 86, 87, 88, 89, 90, 91, 92, 93, 94, 95, 96, 97, 98, 99, 100] (by decide +kernel) (by decide +kernel)) (goodIn_sub (fun _ h => List.mem_cons_of_mem _ (List.mem_append_right _ h)) (by decide +kernel))
set_option maxRecDepth 20000 in
theorem gL_tryLay_X6_set : GoodIn wsL_tryLay (wsV RL 60 RX6 yX6_set wsX6_set) := goodIn_app (goodIn_of _ (by decide +kernel)) ggL_tryLay_X6_set
theorem dL_tryLay_0 : decode cL_tryLay 0 = .ok (.aload_n 0, 1) := by decide +kernel
theorem dL_tryLay_1 : decode cL_tryLay 1 = .ok (.iload_n 1, 1) := by decide +kernel
theorem dL_tryLay_2 : decode cL_tryLay 2 = .ok (.iload_n 2, 1) := by decide +kernel
theorem dL_tryLay_3 : decode cL_tryLay 3 = .ok (.invokevirtual 60, 3) := by decide +kernel
theorem dL_tryLay_6 : decode cL_tryLay 6 = .ok (.ireturn, 1) := by decide +kernel
theorem dL_tryLay_7 : decode cL_tryLay 7 = .ok (.astore_n 3, 1) := by decide +kernel
theorem dL_tryLay_8 : decode cL_tryLay 8 = .ok (.ldc 15, 2) := by decide +kernel
theorem dL_tryLay_10 : decode cL_tryLay 10 = .ok (.ireturn, 1) := by decide +kernel
set_option maxRecDepth 20000 in
theorem ggL_tryUndo_X6_undo : GoodIn wsL_tryUndo wsX6_undo := goodIn_ca (goodIn_r _ [7, 8, 9, 10, 11, 12, 13, 14, 15, 16, 17, 18, 19, 20, 21, 22, 23, 24, 25, 26, 27, 28, 29, 30, 31, 32, 33, 34, 35, 36, 37, 38, 39, 40, 41, 42, 43, 44, 45, 46, 47, 48, 49, 50, 51, 52, 53, 54, 55, 6, 56, 57, 58, 59, 60, 61, 62, 63, 64, 65, 66, 67, 68, 69, 70, 71, 72, 73, 74, 75, 76, 77, 78, 79, 80, 81, 82, 83, 84, 85, 86] (by decide +kernel) (by decide +kernel)) (goodIn_sub (fun _ h => List.mem_cons_of_mem _ (List.mem_append_right _ h)) (by decide +kernel))
set_option maxRecDepth 20000 in
theorem gL_tryUndo_X6_undo : GoodIn wsL_tryUndo (wsV RL 63 RX6 yX6_undo wsX6_undo) := goodIn_app (goodIn_of _ (by decide +kernel)) ggL_tryUndo_X6_undo
theorem dL_tryUndo_0 : decode cL_tryUndo 0 = .ok (.aload_n 0, 1) := by decide +kernel
theorem dL_tryUndo_1 : decode cL_tryUndo 1 = .ok (.invokevirtual 63, 3) := by decide +kernel
theorem dL_tryUndo_4 : decode cL_tryUndo 4 = .ok (.ireturn, 1) := by decide +kernel
theorem dL_tryUndo_5 : decode cL_tryUndo 5 = .ok (.astore_n 1, 1) := by decide +kernel
theorem dL_tryUndo_6 : decode cL_tryUndo 6 = .ok (.ldc 26, 2) := by decide +kernel
theorem dL_tryUndo_8 : decode cL_tryUndo 8 = .ok (.ireturn, 1) := by decide +kernel
set_option maxRecDepth 20000 in
theorem ggL_tryWhy_X6_why : GoodIn wsL_tryWhy wsX6_why := goodIn_ca (goodIn_r _ [7, 8, 9, 10, 11, 12, 6, 13, 14, 15, 16, 17, 18, 19, 20, 21, 22, 23, 24, 25, 26, 27, 28, 29, 30, 31, 32, 33, 34, 35, 36, 37, 38, 39, 40, 41, 42, 43, 44, 45, 46, 47, 48, 49, 50, 51, 52, 53, 54, 55, 56, 57, 58, 59, 60, 61, 62, 63, 64, 65, 66, 67, 68, 69, 70, 71, 72, 73, 74, 75, 76, 77, 78, 79, 80, 81, 82, 83, 84, 85, 86, 87] (by decide +kernel) (by decide +kernel)) (goodIn_sub (fun _ h => List.mem_cons_of_mem _ (List.mem_append_right _ h)) (by decide +kernel))
set_option maxRecDepth 20000 in
theorem gL_tryWhy_X6_why : GoodIn wsL_tryWhy (wsV RL 66 RX6 yX6_why wsX6_why) := goodIn_app (goodIn_of _ (by decide +kernel)) ggL_tryWhy_X6_why
theorem dL_tryWhy_0 : decode cL_tryWhy 0 = .ok (.aload_n 0, 1) := by decide +kernel
theorem dL_tryWhy_1 : decode cL_tryWhy 1 = .ok (.iload_n 1, 1) := by decide +kernel
theorem dL_tryWhy_2 : decode cL_tryWhy 2 = .ok (.invokevirtual 66, 3) := by decide +kernel
theorem dL_tryWhy_5 : decode cL_tryWhy 5 = .ok (.ireturn, 1) := by decide +kernel
theorem dL_tryWhy_6 : decode cL_tryWhy 6 = .ok (.astore_n 2, 1) := by decide +kernel
theorem dL_tryWhy_7 : decode cL_tryWhy 7 = .ok (.ldc 15, 2) := by decide +kernel
theorem dL_tryWhy_9 : decode cL_tryWhy 9 = .ok (.ireturn, 1) := by decide +kernel
set_option maxRecDepth 20000 in
theorem ggL_tryWhyDam_X6_whyDam : GoodIn wsL_tryWhyDam wsX6_whyDam := goodIn_ca (goodIn_r _ [7, 8, 9, 10, 11, 12, 13, 6, 14, 15, 16, 17, 18, 19, 20, 21, 22, 23, 24, 25, 26, 27, 28, 29, 30, 31, 32, 33, 34, 35, 36, 37, 38, 39, 40, 41, 42, 43, 44, 45, 46, 47, 48, 49, 50, 51, 52, 53, 54, 55, 56, 57, 58, 59, 60, 61, 62, 63, 64, 65, 66, 67, 68, 69, 70, 71, 72, 73, 74, 75, 76, 77, 78, 79, 80, 81, 82, 83, 84, 85, 86, 87, 88, 89, 90, 91, 92, 93, 94, 95, 96, 97, 98, 99, 100, 101, 102, 103, 104, 105, 106, 107, 108, 109, 110, 111, 112, 113, 114, 115, 116, 117, 118, 119] (by decide +kernel) (by decide +kernel)) (goodIn_sub (fun _ h => List.mem_cons_of_mem _ (List.mem_append_right _ h)) (by decide +kernel))
set_option maxRecDepth 20000 in
theorem gL_tryWhyDam_X6_whyDam : GoodIn wsL_tryWhyDam (wsV RL 69 RX6 yX6_whyDam wsX6_whyDam) := goodIn_app (goodIn_of _ (by decide +kernel)) ggL_tryWhyDam_X6_whyDam
theorem dL_tryWhyDam_0 : decode cL_tryWhyDam 0 = .ok (.aload_n 0, 1) := by decide +kernel
theorem dL_tryWhyDam_1 : decode cL_tryWhyDam 1 = .ok (.iload_n 1, 1) := by decide +kernel
theorem dL_tryWhyDam_2 : decode cL_tryWhyDam 2 = .ok (.iload_n 2, 1) := by decide +kernel
theorem dL_tryWhyDam_3 : decode cL_tryWhyDam 3 = .ok (.invokevirtual 69, 3) := by decide +kernel
theorem dL_tryWhyDam_6 : decode cL_tryWhyDam 6 = .ok (.ireturn, 1) := by decide +kernel
theorem dL_tryWhyDam_7 : decode cL_tryWhyDam 7 = .ok (.astore_n 3, 1) := by decide +kernel
theorem dL_tryWhyDam_8 : decode cL_tryWhyDam 8 = .ok (.ldc 40, 2) := by decide +kernel
theorem dL_tryWhyDam_10 : decode cL_tryWhyDam 10 = .ok (.ireturn, 1) := by decide +kernel
set_option maxRecDepth 20000 in
theorem ggL_tryCheap_X6_cheapest : GoodIn wsL_tryCheap wsX6_cheapest := goodIn_ca (goodIn_ca (goodIn_r _ [9, 10, 11, 12, 13, 14, 15, 16, 17, 18, 8, 19, 20, 21, 22, 23, 24, 25, 26, 27, 28, 29, 30, 31, 32, 33, 34, 35, 36, 37, 38, 39, 40, 41, 42, 43, 44, 45, 46, 47, 48, 49, 50, 51, 52, 53, 54, 55, 56, 57, 58, 59, 60, 61, 62, 63, 64, 65, 66, 67, 68, 69, 70, 71, 72, 73, 74, 75, 76, 77, 78, 79, 80, 81, 82, 83, 84, 85, 86, 87, 88, 89, 90, 91, 92, 93, 94, 95, 96, 97, 98, 99, 100, 101, 102] (by decide +kernel) (by decide +kernel)) (goodIn_sub (fun _ h => List.mem_cons_of_mem _ (List.mem_append_left _ (List.mem_append_right _ h))) (by decide +kernel))) (goodIn_sub (fun _ h => List.mem_cons_of_mem _ (List.mem_append_right _ h)) (by decide +kernel))
set_option maxRecDepth 20000 in
theorem gL_tryCheap_X6_cheapest : GoodIn wsL_tryCheap (wsV RL 72 RX6 yX6_cheapest wsX6_cheapest) := goodIn_app (goodIn_of _ (by decide +kernel)) ggL_tryCheap_X6_cheapest
theorem dL_tryCheap_0 : decode cL_tryCheap 0 = .ok (.aload_n 0, 1) := by decide +kernel
theorem dL_tryCheap_1 : decode cL_tryCheap 1 = .ok (.iload_n 1, 1) := by decide +kernel
theorem dL_tryCheap_2 : decode cL_tryCheap 2 = .ok (.iload_n 2, 1) := by decide +kernel
theorem dL_tryCheap_3 : decode cL_tryCheap 3 = .ok (.invokevirtual 72, 3) := by decide +kernel
theorem dL_tryCheap_6 : decode cL_tryCheap 6 = .ok (.ireturn, 1) := by decide +kernel
theorem dL_tryCheap_7 : decode cL_tryCheap 7 = .ok (.astore_n 3, 1) := by decide +kernel
theorem dL_tryCheap_8 : decode cL_tryCheap 8 = .ok (.ldc 40, 2) := by decide +kernel
theorem dL_tryCheap_10 : decode cL_tryCheap 10 = .ok (.ireturn, 1) := by decide +kernel
theorem dL_tryCheap_11 : decode cL_tryCheap 11 = .ok (.astore_n 3, 1) := by decide +kernel
theorem dL_tryCheap_12 : decode cL_tryCheap 12 = .ok (.ldc 15, 2) := by decide +kernel
theorem dL_tryCheap_14 : decode cL_tryCheap 14 = .ok (.ireturn, 1) := by decide +kernel
set_option maxRecDepth 20000 in
theorem ggL_tryMeets_X6_meetsIn : GoodIn wsL_tryMeets wsX6_meetsIn := goodIn_ca (goodIn_r _ [7, 8, 9, 10, 11, 12, 13, 14, 6, 15, 16, 17, 18, 19, 20, 21, 22, 23, 24, 25, 26, 27, 28, 29, 30, 31, 32, 33, 34, 35, 36, 37, 38, 39, 40, 41, 42, 43, 44, 45, 46, 47, 48, 49, 50, 51, 52, 53, 54, 55, 56, 57, 58, 59, 60, 61, 62, 63, 64, 65, 66, 67, 68, 69, 70, 71, 72, 73, 74, 75, 76, 77, 78, 79, 80, 81, 82, 83, 84, 85, 86, 87, 88, 89, 90, 91, 92, 93] (by decide +kernel) (by decide +kernel)) (goodIn_sub (fun _ h => List.mem_cons_of_mem _ (List.mem_append_right _ h)) (by decide +kernel))
set_option maxRecDepth 20000 in
theorem gL_tryMeets_X6_meetsIn : GoodIn wsL_tryMeets (wsV RL 75 RX6 yX6_meetsIn wsX6_meetsIn) := goodIn_app (goodIn_of _ (by decide +kernel)) ggL_tryMeets_X6_meetsIn
theorem dL_tryMeets_0 : decode cL_tryMeets 0 = .ok (.aload_n 0, 1) := by decide +kernel
theorem dL_tryMeets_1 : decode cL_tryMeets 1 = .ok (.iload_n 1, 1) := by decide +kernel
theorem dL_tryMeets_2 : decode cL_tryMeets 2 = .ok (.invokevirtual 75, 3) := by decide +kernel
theorem dL_tryMeets_5 : decode cL_tryMeets 5 = .ok (.ireturn, 1) := by decide +kernel
theorem dL_tryMeets_6 : decode cL_tryMeets 6 = .ok (.astore_n 2, 1) := by decide +kernel
theorem dL_tryMeets_7 : decode cL_tryMeets 7 = .ok (.ldc 40, 2) := by decide +kernel
theorem dL_tryMeets_9 : decode cL_tryMeets 9 = .ok (.ireturn, 1) := by decide +kernel
set_option maxRecDepth 20000 in
theorem ggL_tryKeep_X6_save : GoodIn wsL_tryKeep wsX6_save := goodIn_ca (goodIn_r _ [7, 8, 9, 10, 11, 12, 13, 14, 15, 16, 6, 17, 18, 19, 20, 21, 22, 23, 24, 25, 26, 27, 28, 29, 30, 31, 32, 33, 34, 35, 36, 37, 38, 39, 40, 41, 42, 43, 44, 45, 46, 47, 48, 49, 50, 51, 52, 53, 54, 55, 56, 57, 58, 59, 60, 61, 62, 63, 64, 65, 66, 67, 68, 69, 70, 71, 72, 73, 74, 75, 76, 77, 78, 79, 80] (by decide +kernel) (by decide +kernel)) (goodIn_sub (fun _ h => List.mem_cons_of_mem _ (List.mem_append_right _ h)) (by decide +kernel))
set_option maxRecDepth 20000 in
theorem gL_tryKeep_X6_save : GoodIn wsL_tryKeep (wsV RL 78 RX6 yX6_save wsX6_save) := goodIn_app (goodIn_of _ (by decide +kernel)) ggL_tryKeep_X6_save
theorem dL_tryKeep_0 : decode cL_tryKeep 0 = .ok (.aload_n 0, 1) := by decide +kernel
theorem dL_tryKeep_1 : decode cL_tryKeep 1 = .ok (.iload_n 1, 1) := by decide +kernel
theorem dL_tryKeep_2 : decode cL_tryKeep 2 = .ok (.invokevirtual 78, 3) := by decide +kernel
theorem dL_tryKeep_5 : decode cL_tryKeep 5 = .ok (.ireturn, 1) := by decide +kernel
theorem dL_tryKeep_6 : decode cL_tryKeep 6 = .ok (.astore_n 2, 1) := by decide +kernel
theorem dL_tryKeep_7 : decode cL_tryKeep 7 = .ok (.ldc 40, 2) := by decide +kernel
theorem dL_tryKeep_9 : decode cL_tryKeep 9 = .ok (.ireturn, 1) := by decide +kernel
set_option maxRecDepth 20000 in
theorem ggL_tryBack_X6_restore : GoodIn wsL_tryBack wsX6_restore := goodIn_ca (goodIn_ca (goodIn_r _ [9, 10, 11, 12, 13, 14, 15, 16, 17, 18, 19, 20, 21, 8, 22, 23, 24, 25, 26, 27, 28, 29, 30, 31, 32, 33, 34, 35, 36, 37, 38, 39, 40, 41, 42, 43, 44, 45, 46, 47, 48, 49, 50, 51, 52, 53, 54, 55, 56, 57, 58, 59, 60, 61, 62, 63, 64, 65, 66, 67, 68, 69, 70, 71, 72, 73, 74, 75, 76, 77, 78, 79, 80, 81, 82, 83, 84, 85, 86, 87, 88, 89, 90, 91, 92, 93, 94] (by decide +kernel) (by decide +kernel)) (goodIn_sub (fun _ h => List.mem_cons_of_mem _ (List.mem_append_left _ (List.mem_append_right _ h))) (by decide +kernel))) (goodIn_sub (fun _ h => List.mem_cons_of_mem _ (List.mem_append_right _ h)) (by decide +kernel))
set_option maxRecDepth 20000 in
theorem gL_tryBack_X6_restore : GoodIn wsL_tryBack (wsV RL 81 RX6 yX6_restore wsX6_restore) := goodIn_app (goodIn_of _ (by decide +kernel)) ggL_tryBack_X6_restore
theorem dL_tryBack_0 : decode cL_tryBack 0 = .ok (.aload_n 0, 1) := by decide +kernel
theorem dL_tryBack_1 : decode cL_tryBack 1 = .ok (.iload_n 1, 1) := by decide +kernel
theorem dL_tryBack_2 : decode cL_tryBack 2 = .ok (.invokevirtual 81, 3) := by decide +kernel
theorem dL_tryBack_5 : decode cL_tryBack 5 = .ok (.ireturn, 1) := by decide +kernel
theorem dL_tryBack_6 : decode cL_tryBack 6 = .ok (.astore_n 2, 1) := by decide +kernel
theorem dL_tryBack_7 : decode cL_tryBack 7 = .ok (.ldc 40, 2) := by decide +kernel
theorem dL_tryBack_9 : decode cL_tryBack 9 = .ok (.ireturn, 1) := by decide +kernel
theorem dL_tryBack_10 : decode cL_tryBack 10 = .ok (.astore_n 2, 1) := by decide +kernel
theorem dL_tryBack_11 : decode cL_tryBack 11 = .ok (.ldc 26, 2) := by decide +kernel
theorem dL_tryBack_13 : decode cL_tryBack 13 = .ok (.ireturn, 1) := by decide +kernel
theorem t_tryLay (l : Launch) (hst : l.stackTraces = false) (D : va_G) (E : Nat → ClassId) (o : Nat) (M : bM) (x1 : Int32) (x2 : Int32) (hn : vp_in (M 30 1) 14) (hc : (f_X6_set M x1 x2).1 = 0 ∨ (f_X6_set M x1 x2).1 = 1) : vx_Met l yL_tryLay wsL_tryLay (rmX 7) (lP D E [.ref o, .int x1, .int x2] (fun H => bk D E LRM o M H) (rA o)) (lQ (fun r H => r = cdF (f_X6_set M x1 x2) ∧ bk D E LRM o (f_X6_set M x1 x2).2.2 H) (rA o)) xNo 1 6 (rA o) := by
  refine vx_ofWH (cc := cL_tryLay) (maxL := 4) (ret := some .int) (hh := [(0, 6, 7, 13)]) (by decide) rfl ?_
  intro p e s m args below meth c s₁ B hml hv
  obtain ⟨rfl, hB, hKX, hZ, hNc⟩ := hv
  have hx := B.exec
  have hb := B.bytes
  have hr := B.returns
  have hts := atoms_spec (ws := wsL_tryLay) B.pre
  have hown : s.vm.findClass RL = some m.cls := findClass_of_methodNamed B.named
  have hlocks := B.notSynchronized
  have hT := ex_one (ex_tab (hh := [(0, 6, 7, 13)]) B (hts _ List.mem_cons_self))
  have hS : va_S (rA o) s.heap s.heap [] := ⟨Nat.le_refl _, fun _ _ _ => rfl, fun _ h => by cases h⟩
  have hl := lv_entry ([.ref o, .int x1, .int x2]) (n := 4) (Nat.le_of_ble_eq_true rfl)
  rw [lg_entry_eq]
  generalize (lg_sl ([.ref o, .int x1, .int x2]) ++ List.replicate (4 - (lg_sl ([.ref o, .int x1, .int x2])).length) Slot.unset).toArray = ls at hl ⊢
  have hl : lv_has ls 4 [(0, .ref o), (1, .int x1), (2, .int x2)] := hl
  have hB : bk D E LRM o M s.heap := hB
  refine lv_aload_n hx hb dL_tryLay_0 rfl (lv_at hl 0 rfl) ?_
  refine lv_iload_n hx hb dL_tryLay_1 rfl (lv_at hl 1 rfl) ?_
  refine lv_iload_n hx hb dL_tryLay_2 rfl (lv_at hl 2 rfl) ?_
  refine h_call (h_runV (As := [.int x1, .int x2]) (rest := []) ⟨hx, hb, hml, hown, hts⟩ (c_X6_set l hst D E o M x1 x2 hn) (cwV 2 hts gL_tryLay_X6_set rfl rfl rfl (by decide +kernel) ⟨Nat.le_of_ble_eq_true rfl, Nat.le_of_ble_eq_true rfl⟩) hKX hZ (bk_recv hKX.1.1 hB lay_0 rfl) hB rfl hl rfl (Nat.le_of_ble_eq_true rfl) dL_tryLay_3 ⟨Nat.le_of_ble_eq_true rfl, Nat.le_of_ble_eq_true rfl⟩) hS (fun _ h => h) (fun en M1 hf H1 locs q9 ce hB hq hS hcell hcv hcl => ?_) (fun r M1 hf H1 locs hB hq hz hS => ?_)
  · obtain ⟨hne, hf⟩ := hf
    rw [hf] at hc ⊢
    rcases hc with hc | hc
    · exact absurd hc hne
    · have hc : en = 1 := hc
      subst hc
      refine h_c1 (en := 1) hown ⟨0, 6, 7, 13⟩ [] hT rfl (by decide) (hts (.classLink RL 13 xIAE) (List.mem_of_getElem? (i := 1) (by decide +kernel))) (cast_of hKX.2.1 (z := xIAE) (by decide)) hcell hcv hcl ?_
      refine lv_astore_n (lv' := [(3, .ref q9), (0, .ref o), (1, .int x1), (2, .int x2)]) hx hb dL_tryLay_7 rfl hl (by decide) rfl (fun ls hl => ?_)
      refine lv_ldc (v := (-9999002)) hx hb hown (hts (.constant RL 15 (-9999002)) (List.mem_of_getElem? (i := 2) (by decide +kernel))) dL_tryLay_8 ?_
      exact xret hx hb hr hlocks hS ⟨rfl, hB⟩ dL_tryLay_10
  · rw [hf]
    exact xret hx hb hr hlocks hS ⟨rfl, hB⟩ dL_tryLay_6
theorem t_tryUndo (l : Launch) (hst : l.stackTraces = false) (D : va_G) (E : Nat → ClassId) (o : Nat) (M : bM) (hn : vp_in (M 30 1) 14) (hc : (f_X6_undo M).1 = 0 ∨ (f_X6_undo M).1 = 2) : vx_Met l yL_tryUndo wsL_tryUndo (rmX 7) (lP D E [.ref o] (fun H => bk D E LRM o M H) (rA o)) (lQ (fun r H => r = cdF (f_X6_undo M) ∧ bk D E LRM o (f_X6_undo M).2.2 H) (rA o)) xNo 1 6 (rA o) := by
  refine vx_ofWH (cc := cL_tryUndo) (maxL := 2) (ret := some .int) (hh := [(0, 4, 5, 24)]) (by decide) rfl ?_
  intro p e s m args below meth c s₁ B hml hv
  obtain ⟨rfl, hB, hKX, hZ, hNc⟩ := hv
  have hx := B.exec
  have hb := B.bytes
  have hr := B.returns
  have hts := atoms_spec (ws := wsL_tryUndo) B.pre
  have hown : s.vm.findClass RL = some m.cls := findClass_of_methodNamed B.named
  have hlocks := B.notSynchronized
  have hT := ex_one (ex_tab (hh := [(0, 4, 5, 24)]) B (hts _ List.mem_cons_self))
  have hS : va_S (rA o) s.heap s.heap [] := ⟨Nat.le_refl _, fun _ _ _ => rfl, fun _ h => by cases h⟩
  have hl := lv_entry ([.ref o]) (n := 2) (Nat.le_of_ble_eq_true rfl)
  rw [lg_entry_eq]
  generalize (lg_sl ([.ref o]) ++ List.replicate (2 - (lg_sl ([.ref o])).length) Slot.unset).toArray = ls at hl ⊢
  have hl : lv_has ls 2 [(0, .ref o)] := hl
  have hB : bk D E LRM o M s.heap := hB
  refine lv_aload_n hx hb dL_tryUndo_0 rfl (lv_at hl 0 rfl) ?_
  refine h_call (h_runV (As := []) (rest := []) ⟨hx, hb, hml, hown, hts⟩ (c_X6_undo l hst D E o M hn) (cwV 0 hts gL_tryUndo_X6_undo rfl rfl rfl (by decide +kernel) ⟨Nat.le_of_ble_eq_true rfl, Nat.le_of_ble_eq_true rfl⟩) hKX hZ (bk_recv hKX.1.1 hB lay_0 rfl) hB rfl hl rfl (Nat.le_of_ble_eq_true rfl) dL_tryUndo_1 ⟨Nat.le_of_ble_eq_true rfl, Nat.le_of_ble_eq_true rfl⟩) hS (fun _ h => h) (fun en M1 hf H1 locs q9 ce hB hq hS hcell hcv hcl => ?_) (fun r M1 hf H1 locs hB hq hz hS => ?_)
  · obtain ⟨hne, hf⟩ := hf
    rw [hf] at hc ⊢
    rcases hc with hc | hc
    · exact absurd hc hne
    · have hc : en = 2 := hc
      subst hc
      refine h_c1 (en := 2) hown ⟨0, 4, 5, 24⟩ [] hT rfl (by decide) (hts (.classLink RL 24 xISE) (List.mem_of_getElem? (i := 1) (by decide +kernel))) (cast_of hKX.2.1 (z := xISE) (by decide)) hcell hcv hcl ?_
      refine lv_astore_n (lv' := [(1, .ref q9), (0, .ref o)]) hx hb dL_tryUndo_5 rfl hl (by decide) rfl (fun ls hl => ?_)
      refine lv_ldc (v := (-9999003)) hx hb hown (hts (.constant RL 26 (-9999003)) (List.mem_of_getElem? (i := 2) (by decide +kernel))) dL_tryUndo_6 ?_
      exact xret hx hb hr hlocks hS ⟨rfl, hB⟩ dL_tryUndo_8
  · rw [hf]
    exact xret hx hb hr hlocks hS ⟨rfl, hB⟩ dL_tryUndo_4
theorem t_tryWhy (l : Launch) (hst : l.stackTraces = false) (D : va_G) (E : Nat → ClassId) (o : Nat) (M : bM) (x1 : Int32) (hc : (f_X6_why M x1).1 = 0 ∨ (f_X6_why M x1).1 = 1) : vx_Met l yL_tryWhy wsL_tryWhy (rmX 7) (lP D E [.ref o, .int x1] (fun H => bk D E LRM o M H) (rA o)) (lQ (fun r H => r = cdF (f_X6_why M x1) ∧ bk D E LRM o (f_X6_why M x1).2.2 H) (rA o)) xNo 1 6 (rA o) := by
  refine vx_ofWH (cc := cL_tryWhy) (maxL := 3) (ret := some .int) (hh := [(0, 5, 6, 13)]) (by decide) rfl ?_
  intro p e s m args below meth c s₁ B hml hv
  obtain ⟨rfl, hB, hKX, hZ, hNc⟩ := hv
  have hx := B.exec
  have hb := B.bytes
  have hr := B.returns
  have hts := atoms_spec (ws := wsL_tryWhy) B.pre
  have hown : s.vm.findClass RL = some m.cls := findClass_of_methodNamed B.named
  have hlocks := B.notSynchronized
  have hT := ex_one (ex_tab (hh := [(0, 5, 6, 13)]) B (hts _ List.mem_cons_self))
  have hS : va_S (rA o) s.heap s.heap [] := ⟨Nat.le_refl _, fun _ _ _ => rfl, fun _ h => by cases h⟩
  have hl := lv_entry ([.ref o, .int x1]) (n := 3) (Nat.le_of_ble_eq_true rfl)
  rw [lg_entry_eq]
  generalize (lg_sl ([.ref o, .int x1]) ++ List.replicate (3 - (lg_sl ([.ref o, .int x1])).length) Slot.unset).toArray = ls at hl ⊢
  have hl : lv_has ls 3 [(0, .ref o), (1, .int x1)] := hl
  have hB : bk D E LRM o M s.heap := hB
  refine lv_aload_n hx hb dL_tryWhy_0 rfl (lv_at hl 0 rfl) ?_
  refine lv_iload_n hx hb dL_tryWhy_1 rfl (lv_at hl 1 rfl) ?_
  refine h_call (h_runV (As := [.int x1]) (rest := []) ⟨hx, hb, hml, hown, hts⟩ (c_X6_why l hst D E o M x1) (cwV 1 hts gL_tryWhy_X6_why rfl rfl rfl (by decide +kernel) ⟨Nat.le_of_ble_eq_true rfl, Nat.le_of_ble_eq_true rfl⟩) hKX hZ (bk_recv hKX.1.1 hB lay_0 rfl) hB rfl hl rfl (Nat.le_of_ble_eq_true rfl) dL_tryWhy_2 ⟨Nat.le_of_ble_eq_true rfl, Nat.le_of_ble_eq_true rfl⟩) hS (fun _ h => h) (fun en M1 hf H1 locs q9 ce hB hq hS hcell hcv hcl => ?_) (fun r M1 hf H1 locs hB hq hz hS => ?_)
  · obtain ⟨hne, hf⟩ := hf
    rw [hf] at hc ⊢
    rcases hc with hc | hc
    · exact absurd hc hne
    · have hc : en = 1 := hc
      subst hc
      refine h_c1 (en := 1) hown ⟨0, 5, 6, 13⟩ [] hT rfl (by decide) (hts (.classLink RL 13 xIAE) (List.mem_of_getElem? (i := 1) (by decide +kernel))) (cast_of hKX.2.1 (z := xIAE) (by decide)) hcell hcv hcl ?_
      refine lv_astore_n (lv' := [(2, .ref q9), (0, .ref o), (1, .int x1)]) hx hb dL_tryWhy_6 rfl hl (by decide) rfl (fun ls hl => ?_)
      refine lv_ldc (v := (-9999002)) hx hb hown (hts (.constant RL 15 (-9999002)) (List.mem_of_getElem? (i := 2) (by decide +kernel))) dL_tryWhy_7 ?_
      exact xret hx hb hr hlocks hS ⟨rfl, hB⟩ dL_tryWhy_9
  · rw [hf]
    exact xret hx hb hr hlocks hS ⟨rfl, hB⟩ dL_tryWhy_5
theorem t_tryWhyDam (l : Launch) (hst : l.stackTraces = false) (D : va_G) (E : Nat → ClassId) (o : Nat) (M : bM) (x1 : Int32) (x2 : Int32) (hc : (f_X6_whyDam M x1 x2).1 = 0 ∨ (f_X6_whyDam M x1 x2).1 = 3) : vx_Met l yL_tryWhyDam wsL_tryWhyDam (rmX 7) (lP D E [.ref o, .int x1, .int x2] (fun H => bk D E LRM o M H) (rA o)) (lQ (fun r H => r = cdF (f_X6_whyDam M x1 x2) ∧ bk D E LRM o (f_X6_whyDam M x1 x2).2.2 H) (rA o)) xNo 1 6 (rA o) := by
  refine vx_ofWH (cc := cL_tryWhyDam) (maxL := 4) (ret := some .int) (hh := [(0, 6, 7, 38)]) (by decide) rfl ?_
  intro p e s m args below meth c s₁ B hml hv
  obtain ⟨rfl, hB, hKX, hZ, hNc⟩ := hv
  have hx := B.exec
  have hb := B.bytes
  have hr := B.returns
  have hts := atoms_spec (ws := wsL_tryWhyDam) B.pre
  have hown : s.vm.findClass RL = some m.cls := findClass_of_methodNamed B.named
  have hlocks := B.notSynchronized
  have hT := ex_one (ex_tab (hh := [(0, 6, 7, 38)]) B (hts _ List.mem_cons_self))
  have hS : va_S (rA o) s.heap s.heap [] := ⟨Nat.le_refl _, fun _ _ _ => rfl, fun _ h => by cases h⟩
  have hl := lv_entry ([.ref o, .int x1, .int x2]) (n := 4) (Nat.le_of_ble_eq_true rfl)
  rw [lg_entry_eq]
  generalize (lg_sl ([.ref o, .int x1, .int x2]) ++ List.replicate (4 - (lg_sl ([.ref o, .int x1, .int x2])).length) Slot.unset).toArray = ls at hl ⊢
  have hl : lv_has ls 4 [(0, .ref o), (1, .int x1), (2, .int x2)] := hl
  have hB : bk D E LRM o M s.heap := hB
  refine lv_aload_n hx hb dL_tryWhyDam_0 rfl (lv_at hl 0 rfl) ?_
  refine lv_iload_n hx hb dL_tryWhyDam_1 rfl (lv_at hl 1 rfl) ?_
  refine lv_iload_n hx hb dL_tryWhyDam_2 rfl (lv_at hl 2 rfl) ?_
  refine h_call (h_runV (As := [.int x1, .int x2]) (rest := []) ⟨hx, hb, hml, hown, hts⟩ (c_X6_whyDam l hst D E o M x1 x2) (cwV 2 hts gL_tryWhyDam_X6_whyDam rfl rfl rfl (by decide +kernel) ⟨Nat.le_of_ble_eq_true rfl, Nat.le_of_ble_eq_true rfl⟩) hKX hZ (bk_recv hKX.1.1 hB lay_0 rfl) hB rfl hl rfl (Nat.le_of_ble_eq_true rfl) dL_tryWhyDam_3 ⟨Nat.le_of_ble_eq_true rfl, Nat.le_of_ble_eq_true rfl⟩) hS (fun _ h => h) (fun en M1 hf H1 locs q9 ce hB hq hS hcell hcv hcl => ?_) (fun r M1 hf H1 locs hB hq hz hS => ?_)
  · obtain ⟨hne, hf⟩ := hf
    rw [hf] at hc ⊢
    rcases hc with hc | hc
    · exact absurd hc hne
    · have hc : en = 3 := hc
      subst hc
      refine h_c1 (en := 3) hown ⟨0, 6, 7, 38⟩ [] hT rfl (by decide) (hts (.classLink RL 38 xIOB) (List.mem_of_getElem? (i := 1) (by decide +kernel))) (cast_of hKX.2.1 (z := xIOB) (by decide)) hcell hcv hcl ?_
      refine lv_astore_n (lv' := [(3, .ref q9), (0, .ref o), (1, .int x1), (2, .int x2)]) hx hb dL_tryWhyDam_7 rfl hl (by decide) rfl (fun ls hl => ?_)
      refine lv_ldc (v := (-9999001)) hx hb hown (hts (.constant RL 40 (-9999001)) (List.mem_of_getElem? (i := 2) (by decide +kernel))) dL_tryWhyDam_8 ?_
      exact xret hx hb hr hlocks hS ⟨rfl, hB⟩ dL_tryWhyDam_10
  · rw [hf]
    exact xret hx hb hr hlocks hS ⟨rfl, hB⟩ dL_tryWhyDam_6
theorem t_tryCheap (l : Launch) (hst : l.stackTraces = false) (D : va_G) (E : Nat → ClassId) (o : Nat) (M : bM) (x1 : Int32) (x2 : Int32) (hc : (f_X6_cheapest M x1 x2).1 = 0 ∨ (f_X6_cheapest M x1 x2).1 = 3 ∨ (f_X6_cheapest M x1 x2).1 = 1) : vx_Met l yL_tryCheap wsL_tryCheap (rmX 7) (lP D E [.ref o, .int x1, .int x2] (fun H => bk D E LRM o M H) (rA o)) (lQ (fun r H => r = cdF (f_X6_cheapest M x1 x2) ∧ bk D E LRM o (f_X6_cheapest M x1 x2).2.2 H) (rA o)) xNo 1 6 (rA o) := by
  refine vx_ofWH (cc := cL_tryCheap) (maxL := 4) (ret := some .int) (hh := [(0, 6, 7, 38), (0, 6, 11, 13)]) (by decide) rfl ?_
  intro p e s m args below meth c s₁ B hml hv
  obtain ⟨rfl, hB, hKX, hZ, hNc⟩ := hv
  have hx := B.exec
  have hb := B.bytes
  have hr := B.returns
  have hts := atoms_spec (ws := wsL_tryCheap) B.pre
  have hown : s.vm.findClass RL = some m.cls := findClass_of_methodNamed B.named
  have hlocks := B.notSynchronized
  have hT := ex_two (ex_tab (hh := [(0, 6, 7, 38), (0, 6, 11, 13)]) B (hts _ List.mem_cons_self))
  have hS : va_S (rA o) s.heap s.heap [] := ⟨Nat.le_refl _, fun _ _ _ => rfl, fun _ h => by cases h⟩
  have hl := lv_entry ([.ref o, .int x1, .int x2]) (n := 4) (Nat.le_of_ble_eq_true rfl)
  rw [lg_entry_eq]
  generalize (lg_sl ([.ref o, .int x1, .int x2]) ++ List.replicate (4 - (lg_sl ([.ref o, .int x1, .int x2])).length) Slot.unset).toArray = ls at hl ⊢
  have hl : lv_has ls 4 [(0, .ref o), (1, .int x1), (2, .int x2)] := hl
  have hB : bk D E LRM o M s.heap := hB
  refine lv_aload_n hx hb dL_tryCheap_0 rfl (lv_at hl 0 rfl) ?_
  refine lv_iload_n hx hb dL_tryCheap_1 rfl (lv_at hl 1 rfl) ?_
  refine lv_iload_n hx hb dL_tryCheap_2 rfl (lv_at hl 2 rfl) ?_
  refine h_call (h_runV (As := [.int x1, .int x2]) (rest := []) ⟨hx, hb, hml, hown, hts⟩ (c_X6_cheapest l hst D E o M x1 x2) (cwV 2 hts gL_tryCheap_X6_cheapest rfl rfl rfl (by decide +kernel) ⟨Nat.le_of_ble_eq_true rfl, Nat.le_of_ble_eq_true rfl⟩) hKX hZ (bk_recv hKX.1.1 hB lay_0 rfl) hB rfl hl rfl (Nat.le_of_ble_eq_true rfl) dL_tryCheap_3 ⟨Nat.le_of_ble_eq_true rfl, Nat.le_of_ble_eq_true rfl⟩) hS (fun _ h => h) (fun en M1 hf H1 locs q9 ce hB hq hS hcell hcv hcl => ?_) (fun r M1 hf H1 locs hB hq hz hS => ?_)
  · obtain ⟨hne, hf⟩ := hf
    rw [hf] at hc ⊢
    rcases hc with hc | hc | hc
    · exact absurd hc hne
    · have hc : en = 3 := hc
      subst hc
      refine h_c1 (en := 3) hown ⟨0, 6, 7, 38⟩ [⟨0, 6, 11, 13⟩] hT rfl (by decide) (hts (.classLink RL 38 xIOB) (List.mem_of_getElem? (i := 1) (by decide +kernel))) (cast_of hKX.2.1 (z := xIOB) (by decide)) hcell hcv hcl ?_
      refine lv_astore_n (lv' := [(3, .ref q9), (0, .ref o), (1, .int x1), (2, .int x2)]) hx hb dL_tryCheap_7 rfl hl (by decide) rfl (fun ls hl => ?_)
      refine lv_ldc (v := (-9999001)) hx hb hown (hts (.constant RL 40 (-9999001)) (List.mem_of_getElem? (i := 3) (by decide +kernel))) dL_tryCheap_8 ?_
      exact xret hx hb hr hlocks hS ⟨rfl, hB⟩ dL_tryCheap_10
    · have hc : en = 1 := hc
      subst hc
      refine h_c2 (en := 1) (nm := xIOB) hown ⟨0, 6, 7, 38⟩ ⟨0, 6, 11, 13⟩ [] hT (by decide) (hts (.classLink RL 38 xIOB) (List.mem_of_getElem? (i := 1) (by decide +kernel))) (hNc 1 _ rfl) rfl (by decide) (hts (.classLink RL 13 xIAE) (List.mem_of_getElem? (i := 2) (by decide +kernel))) (cast_of hKX.2.1 (z := xIAE) (by decide)) hcell hcv hcl ?_
      refine lv_astore_n (lv' := [(3, .ref q9), (0, .ref o), (1, .int x1), (2, .int x2)]) hx hb dL_tryCheap_11 rfl hl (by decide) rfl (fun ls hl => ?_)
      refine lv_ldc (v := (-9999002)) hx hb hown (hts (.constant RL 15 (-9999002)) (List.mem_of_getElem? (i := 4) (by decide +kernel))) dL_tryCheap_12 ?_
      exact xret hx hb hr hlocks hS ⟨rfl, hB⟩ dL_tryCheap_14
  · rw [hf]
    exact xret hx hb hr hlocks hS ⟨rfl, hB⟩ dL_tryCheap_6
theorem t_tryMeets (l : Launch) (hst : l.stackTraces = false) (D : va_G) (E : Nat → ClassId) (o : Nat) (M : bM) (x1 : Int32) (hc : (f_X6_meetsIn M x1).1 = 0 ∨ (f_X6_meetsIn M x1).1 = 3) : vx_Met l yL_tryMeets wsL_tryMeets (rmX 7) (lP D E [.ref o, .int x1] (fun H => bk D E LRM o M H) (rA o)) (lQ (fun r H => r = cdF (f_X6_meetsIn M x1) ∧ bk D E LRM o (f_X6_meetsIn M x1).2.2 H) (rA o)) xNo 1 6 (rA o) := by
  refine vx_ofWH (cc := cL_tryMeets) (maxL := 3) (ret := some .int) (hh := [(0, 5, 6, 38)]) (by decide) rfl ?_
  intro p e s m args below meth c s₁ B hml hv
  obtain ⟨rfl, hB, hKX, hZ, hNc⟩ := hv
  have hx := B.exec
  have hb := B.bytes
  have hr := B.returns
  have hts := atoms_spec (ws := wsL_tryMeets) B.pre
  have hown : s.vm.findClass RL = some m.cls := findClass_of_methodNamed B.named
  have hlocks := B.notSynchronized
  have hT := ex_one (ex_tab (hh := [(0, 5, 6, 38)]) B (hts _ List.mem_cons_self))
  have hS : va_S (rA o) s.heap s.heap [] := ⟨Nat.le_refl _, fun _ _ _ => rfl, fun _ h => by cases h⟩
  have hl := lv_entry ([.ref o, .int x1]) (n := 3) (Nat.le_of_ble_eq_true rfl)
  rw [lg_entry_eq]
  generalize (lg_sl ([.ref o, .int x1]) ++ List.replicate (3 - (lg_sl ([.ref o, .int x1])).length) Slot.unset).toArray = ls at hl ⊢
  have hl : lv_has ls 3 [(0, .ref o), (1, .int x1)] := hl
  have hB : bk D E LRM o M s.heap := hB
  refine lv_aload_n hx hb dL_tryMeets_0 rfl (lv_at hl 0 rfl) ?_
  refine lv_iload_n hx hb dL_tryMeets_1 rfl (lv_at hl 1 rfl) ?_
  refine h_call (h_runV (As := [.int x1]) (rest := []) ⟨hx, hb, hml, hown, hts⟩ (c_X6_meetsIn l hst D E o M x1) (cwV 1 hts gL_tryMeets_X6_meetsIn rfl rfl rfl (by decide +kernel) ⟨Nat.le_of_ble_eq_true rfl, Nat.le_of_ble_eq_true rfl⟩) hKX hZ (bk_recv hKX.1.1 hB lay_0 rfl) hB rfl hl rfl (Nat.le_of_ble_eq_true rfl) dL_tryMeets_2 ⟨Nat.le_of_ble_eq_true rfl, Nat.le_of_ble_eq_true rfl⟩) hS (fun _ h => h) (fun en M1 hf H1 locs q9 ce hB hq hS hcell hcv hcl => ?_) (fun r M1 hf H1 locs hB hq hz hS => ?_)
  · obtain ⟨hne, hf⟩ := hf
    rw [hf] at hc ⊢
    rcases hc with hc | hc
    · exact absurd hc hne
    · have hc : en = 3 := hc
      subst hc
      refine h_c1 (en := 3) hown ⟨0, 5, 6, 38⟩ [] hT rfl (by decide) (hts (.classLink RL 38 xIOB) (List.mem_of_getElem? (i := 1) (by decide +kernel))) (cast_of hKX.2.1 (z := xIOB) (by decide)) hcell hcv hcl ?_
      refine lv_astore_n (lv' := [(2, .ref q9), (0, .ref o), (1, .int x1)]) hx hb dL_tryMeets_6 rfl hl (by decide) rfl (fun ls hl => ?_)
      refine lv_ldc (v := (-9999001)) hx hb hown (hts (.constant RL 40 (-9999001)) (List.mem_of_getElem? (i := 2) (by decide +kernel))) dL_tryMeets_7 ?_
      exact xret hx hb hr hlocks hS ⟨rfl, hB⟩ dL_tryMeets_9
  · rw [hf]
    exact xret hx hb hr hlocks hS ⟨rfl, hB⟩ dL_tryMeets_5
theorem t_tryKeep (l : Launch) (hst : l.stackTraces = false) (D : va_G) (E : Nat → ClassId) (o : Nat) (M : bM) (x1 : Int32) (hc : (f_X6_save M x1).1 = 0 ∨ (f_X6_save M x1).1 = 3) : vx_Met l yL_tryKeep wsL_tryKeep (rmX 7) (lP D E [.ref o, .int x1] (fun H => bk D E LRM o M H) (rA o)) (lQ (fun r H => r = cdF (f_X6_save M x1) ∧ bk D E LRM o (f_X6_save M x1).2.2 H) (rA o)) xNo 1 6 (rA o) := by
  refine vx_ofWH (cc := cL_tryKeep) (maxL := 3) (ret := some .int) (hh := [(0, 5, 6, 38)]) (by decide) rfl ?_
  intro p e s m args below meth c s₁ B hml hv
  obtain ⟨rfl, hB, hKX, hZ, hNc⟩ := hv
  have hx := B.exec
  have hb := B.bytes
  have hr := B.returns
  have hts := atoms_spec (ws := wsL_tryKeep) B.pre
  have hown : s.vm.findClass RL = some m.cls := findClass_of_methodNamed B.named
  have hlocks := B.notSynchronized
  have hT := ex_one (ex_tab (hh := [(0, 5, 6, 38)]) B (hts _ List.mem_cons_self))
  have hS : va_S (rA o) s.heap s.heap [] := ⟨Nat.le_refl _, fun _ _ _ => rfl, fun _ h => by cases h⟩
  have hl := lv_entry ([.ref o, .int x1]) (n := 3) (Nat.le_of_ble_eq_true rfl)
  rw [lg_entry_eq]
  generalize (lg_sl ([.ref o, .int x1]) ++ List.replicate (3 - (lg_sl ([.ref o, .int x1])).length) Slot.unset).toArray = ls at hl ⊢
  have hl : lv_has ls 3 [(0, .ref o), (1, .int x1)] := hl
  have hB : bk D E LRM o M s.heap := hB
  refine lv_aload_n hx hb dL_tryKeep_0 rfl (lv_at hl 0 rfl) ?_
  refine lv_iload_n hx hb dL_tryKeep_1 rfl (lv_at hl 1 rfl) ?_
  refine h_call (h_runV (As := [.int x1]) (rest := []) ⟨hx, hb, hml, hown, hts⟩ (c_X6_save l hst D E o M x1) (cwV 1 hts gL_tryKeep_X6_save rfl rfl rfl (by decide +kernel) ⟨Nat.le_of_ble_eq_true rfl, Nat.le_of_ble_eq_true rfl⟩) hKX hZ (bk_recv hKX.1.1 hB lay_0 rfl) hB rfl hl rfl (Nat.le_of_ble_eq_true rfl) dL_tryKeep_2 ⟨Nat.le_of_ble_eq_true rfl, Nat.le_of_ble_eq_true rfl⟩) hS (fun _ h => h) (fun en M1 hf H1 locs q9 ce hB hq hS hcell hcv hcl => ?_) (fun r M1 hf H1 locs hB hq hz hS => ?_)
  · obtain ⟨hne, hf⟩ := hf
    rw [hf] at hc ⊢
    rcases hc with hc | hc
    · exact absurd hc hne
    · have hc : en = 3 := hc
      subst hc
      refine h_c1 (en := 3) hown ⟨0, 5, 6, 38⟩ [] hT rfl (by decide) (hts (.classLink RL 38 xIOB) (List.mem_of_getElem? (i := 1) (by decide +kernel))) (cast_of hKX.2.1 (z := xIOB) (by decide)) hcell hcv hcl ?_
      refine lv_astore_n (lv' := [(2, .ref q9), (0, .ref o), (1, .int x1)]) hx hb dL_tryKeep_6 rfl hl (by decide) rfl (fun ls hl => ?_)
      refine lv_ldc (v := (-9999001)) hx hb hown (hts (.constant RL 40 (-9999001)) (List.mem_of_getElem? (i := 2) (by decide +kernel))) dL_tryKeep_7 ?_
      exact xret hx hb hr hlocks hS ⟨rfl, hB⟩ dL_tryKeep_9
  · rw [hf]
    exact xret hx hb hr hlocks hS ⟨rfl, hB⟩ dL_tryKeep_5
theorem t_tryBack (l : Launch) (hst : l.stackTraces = false) (D : va_G) (E : Nat → ClassId) (o : Nat) (M : bM) (x1 : Int32) (hc : (f_X6_restore M x1).1 = 0 ∨ (f_X6_restore M x1).1 = 3 ∨ (f_X6_restore M x1).1 = 2) : vx_Met l yL_tryBack wsL_tryBack (rmX 7) (lP D E [.ref o, .int x1] (fun H => bk D E LRM o M H) (rA o)) (lQ (fun r H => r = cdF (f_X6_restore M x1) ∧ bk D E LRM o (f_X6_restore M x1).2.2 H) (rA o)) xNo 1 6 (rA o) := by
  refine vx_ofWH (cc := cL_tryBack) (maxL := 3) (ret := some .int) (hh := [(0, 5, 6, 38), (0, 5, 10, 24)]) (by decide) rfl ?_
  intro p e s m args below meth c s₁ B hml hv
  obtain ⟨rfl, hB, hKX, hZ, hNc⟩ := hv
  have hx := B.exec
  have hb := B.bytes
  have hr := B.returns
  have hts := atoms_spec (ws := wsL_tryBack) B.pre
  have hown : s.vm.findClass RL = some m.cls := findClass_of_methodNamed B.named
  have hlocks := B.notSynchronized
  have hT := ex_two (ex_tab (hh := [(0, 5, 6, 38), (0, 5, 10, 24)]) B (hts _ List.mem_cons_self))
  have hS : va_S (rA o) s.heap s.heap [] := ⟨Nat.le_refl _, fun _ _ _ => rfl, fun _ h => by cases h⟩
  have hl := lv_entry ([.ref o, .int x1]) (n := 3) (Nat.le_of_ble_eq_true rfl)
  rw [lg_entry_eq]
  generalize (lg_sl ([.ref o, .int x1]) ++ List.replicate (3 - (lg_sl ([.ref o, .int x1])).length) Slot.unset).toArray = ls at hl ⊢
  have hl : lv_has ls 3 [(0, .ref o), (1, .int x1)] := hl
  have hB : bk D E LRM o M s.heap := hB
  refine lv_aload_n hx hb dL_tryBack_0 rfl (lv_at hl 0 rfl) ?_
  refine lv_iload_n hx hb dL_tryBack_1 rfl (lv_at hl 1 rfl) ?_
  refine h_call (h_runV (As := [.int x1]) (rest := []) ⟨hx, hb, hml, hown, hts⟩ (c_X6_restore l hst D E o M x1) (cwV 1 hts gL_tryBack_X6_restore rfl rfl rfl (by decide +kernel) ⟨Nat.le_of_ble_eq_true rfl, Nat.le_of_ble_eq_true rfl⟩) hKX hZ (bk_recv hKX.1.1 hB lay_0 rfl) hB rfl hl rfl (Nat.le_of_ble_eq_true rfl) dL_tryBack_2 ⟨Nat.le_of_ble_eq_true rfl, Nat.le_of_ble_eq_true rfl⟩) hS (fun _ h => h) (fun en M1 hf H1 locs q9 ce hB hq hS hcell hcv hcl => ?_) (fun r M1 hf H1 locs hB hq hz hS => ?_)
  · obtain ⟨hne, hf⟩ := hf
    rw [hf] at hc ⊢
    rcases hc with hc | hc | hc
    · exact absurd hc hne
    · have hc : en = 3 := hc
      subst hc
      refine h_c1 (en := 3) hown ⟨0, 5, 6, 38⟩ [⟨0, 5, 10, 24⟩] hT rfl (by decide) (hts (.classLink RL 38 xIOB) (List.mem_of_getElem? (i := 1) (by decide +kernel))) (cast_of hKX.2.1 (z := xIOB) (by decide)) hcell hcv hcl ?_
      refine lv_astore_n (lv' := [(2, .ref q9), (0, .ref o), (1, .int x1)]) hx hb dL_tryBack_6 rfl hl (by decide) rfl (fun ls hl => ?_)
      refine lv_ldc (v := (-9999001)) hx hb hown (hts (.constant RL 40 (-9999001)) (List.mem_of_getElem? (i := 3) (by decide +kernel))) dL_tryBack_7 ?_
      exact xret hx hb hr hlocks hS ⟨rfl, hB⟩ dL_tryBack_9
    · have hc : en = 2 := hc
      subst hc
      refine h_c2 (en := 2) (nm := xIOB) hown ⟨0, 5, 6, 38⟩ ⟨0, 5, 10, 24⟩ [] hT (by decide) (hts (.classLink RL 38 xIOB) (List.mem_of_getElem? (i := 1) (by decide +kernel))) (hNc 2 _ rfl) rfl (by decide) (hts (.classLink RL 24 xISE) (List.mem_of_getElem? (i := 2) (by decide +kernel))) (cast_of hKX.2.1 (z := xISE) (by decide)) hcell hcv hcl ?_
      refine lv_astore_n (lv' := [(2, .ref q9), (0, .ref o), (1, .int x1)]) hx hb dL_tryBack_10 rfl hl (by decide) rfl (fun ls hl => ?_)
      refine lv_ldc (v := (-9999003)) hx hb hown (hts (.constant RL 26 (-9999003)) (List.mem_of_getElem? (i := 4) (by decide +kernel))) dL_tryBack_11 ?_
      exact xret hx hb hr hlocks hS ⟨rfl, hB⟩ dL_tryBack_13
  · rw [hf]
    exact xret hx hb hr hlocks hS ⟨rfl, hB⟩ dL_tryBack_5
theorem t_doScript (l : Launch) (hst : l.stackTraces = false) (D : va_G) (E : Nat → ClassId) (o : Nat) (M : bM) (x1 : Int32) (x2 : Int64) (hc : (f_X6_runScript M x1 x2).1 = 0 ∨ (f_X6_runScript M x1 x2).1 = 1) : vx_Met l yL_doScript wsL_doScript (rmX 7) (lP D E [.ref o, .int x1, .long x2] (fun H => bk D E LRM o M H) (rA o)) (lQ (fun r H => r = cdF (f_X6_runScript M x1 x2) ∧ bk D E LRM o (f_X6_runScript M x1 x2).2.2 H) (rA o)) xNo 1 6 (rA o) := by
  refine vx_ofWH (cc := cL_doScript) (maxL := 5) (ret := some .int) (hh := [(0, 6, 7, 13)]) (by decide) rfl ?_
  intro p e s m args below meth c s₁ B hml hv
  obtain ⟨rfl, hB, hKX, hZ, hNc⟩ := hv
  have hx := B.exec
  have hb := B.bytes
  have hr := B.returns
  have hts := atoms_spec (ws := wsL_doScript) B.pre
  have hown : s.vm.findClass RL = some m.cls := findClass_of_methodNamed B.named
  have hlocks := B.notSynchronized
  have hT := ex_one (ex_tab (hh := [(0, 6, 7, 13)]) B (hts _ List.mem_cons_self))
  have hS : va_S (rA o) s.heap s.heap [] := ⟨Nat.le_refl _, fun _ _ _ => rfl, fun _ h => by cases h⟩
  have hl := lv_entry ([.ref o, .int x1, .long x2]) (n := 5) (Nat.le_of_ble_eq_true rfl)
  rw [lg_entry_eq]
  generalize (lg_sl ([.ref o, .int x1, .long x2]) ++ List.replicate (5 - (lg_sl ([.ref o, .int x1, .long x2])).length) Slot.unset).toArray = ls at hl ⊢
  have hl : lv_has ls 5 [(0, .ref o), (1, .int x1), (2, .long x2)] := hl
  have hB : bk D E LRM o M s.heap := hB
  refine lv_aload_n hx hb dL_doScript_0 rfl (lv_at hl 0 rfl) ?_
  refine lv_iload_n hx hb dL_doScript_1 rfl (lv_at hl 1 rfl) ?_
  refine lv_lload_n hx hb dL_doScript_2 rfl (lv_at hl 2 rfl) ?_
  refine h_call (h_runV (As := [.int x1, .long x2]) (rest := []) ⟨hx, hb, hml, hown, hts⟩ (c_X6_runScript l hst D E o M x1 x2) (cwV 2 hts gL_doScript_X6_runScript rfl rfl rfl (by decide +kernel) ⟨Nat.le_of_ble_eq_true rfl, Nat.le_of_ble_eq_true rfl⟩) hKX hZ (bk_recv hKX.1.1 hB lay_0 rfl) hB rfl hl rfl (Nat.le_of_ble_eq_true rfl) dL_doScript_3 ⟨Nat.le_of_ble_eq_true rfl, Nat.le_of_ble_eq_true rfl⟩) hS (fun _ h => h) (fun en M1 hf H1 locs q9 ce hB hq hS hcell hcv hcl => ?_) (fun r M1 hf H1 locs hB hq hz hS => ?_)
  · obtain ⟨hne, hf⟩ := hf
    rw [hf] at hc ⊢
    rcases hc with hc | hc
    · exact absurd hc hne
    · have hc : en = 1 := hc
      subst hc
      refine h_c1 (en := 1) hown ⟨0, 6, 7, 13⟩ [] hT rfl (by decide) (hts (.classLink RL 13 xIAE) (List.mem_of_getElem? (i := 1) (by decide +kernel))) (cast_of hKX.2.1 (z := xIAE) (by decide)) hcell hcv hcl ?_
      refine lv_astore (lv' := [(4, .ref q9), (0, .ref o), (1, .int x1), (2, .long x2)]) hx hb dL_doScript_7 hl (by decide) rfl (fun ls hl => ?_)
      refine lv_ldc (v := (-9999002)) hx hb hown (hts (.constant RL 15 (-9999002)) (List.mem_of_getElem? (i := 2) (by decide +kernel))) dL_doScript_9 ?_
      exact xret hx hb hr hlocks hS ⟨rfl, hB⟩ dL_doScript_11
  · rw [hf]
    exact xret hx hb hr hlocks hS ⟨rfl, hB⟩ dL_doScript_6
