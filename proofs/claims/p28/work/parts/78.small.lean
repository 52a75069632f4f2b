/-! THE LAW'S SMALL METHODS -/
theorem dL_thrown_0 : decode cL_thrown 0 = .ok (.iload_n 0, 1) := by decide +kernel
theorem dL_thrown_1 : decode cL_thrown 1 = .ok (.ldc 40, 2) := by decide +kernel
theorem dL_thrown_3 : decode cL_thrown 3 = .ok (.if_icmp .eq 15, 3) := by decide +kernel
theorem dL_thrown_6 : decode cL_thrown 6 = .ok (.iload_n 0, 1) := by decide +kernel
theorem dL_thrown_7 : decode cL_thrown 7 = .ok (.ldc 15, 2) := by decide +kernel
theorem dL_thrown_9 : decode cL_thrown 9 = .ok (.if_icmp .eq 9, 3) := by decide +kernel
theorem dL_thrown_12 : decode cL_thrown 12 = .ok (.iload_n 0, 1) := by decide +kernel
theorem dL_thrown_13 : decode cL_thrown 13 = .ok (.ldc 26, 2) := by decide +kernel
theorem dL_thrown_15 : decode cL_thrown 15 = .ok (.if_icmp .ne 7, 3) := by decide +kernel
theorem dL_thrown_18 : decode cL_thrown 18 = .ok (.iconst 1, 1) := by decide +kernel
theorem dL_thrown_19 : decode cL_thrown 19 = .ok (.goto 4, 3) := by decide +kernel
theorem dL_thrown_22 : decode cL_thrown 22 = .ok (.iconst 0, 1) := by decide +kernel
theorem dL_thrown_23 : decode cL_thrown 23 = .ok (.ireturn, 1) := by decide +kernel
theorem dL_to_0 : decode cL_to 0 = .ok (.iload_n 1, 1) := by decide +kernel
theorem dL_to_1 : decode cL_to 1 = .ok (.ifCond .ne 20, 3) := by decide +kernel
theorem dL_to_4 : decode cL_to 4 = .ok (.iload_n 0, 1) := by decide +kernel
theorem dL_to_5 : decode cL_to 5 = .ok (.bipush 55, 2) := by decide +kernel
theorem dL_to_7 : decode cL_to 7 = .ok (.if_icmp .le 7, 3) := by decide +kernel
theorem dL_to_10 : decode cL_to 10 = .ok (.iconst (-1), 1) := by decide +kernel
theorem dL_to_11 : decode cL_to 11 = .ok (.goto 48, 3) := by decide +kernel
theorem dL_to_14 : decode cL_to 14 = .ok (.iload_n 0, 1) := by decide +kernel
theorem dL_to_15 : decode cL_to 15 = .ok (.bipush 8, 2) := by decide +kernel
theorem dL_to_17 : decode cL_to 17 = .ok (.iadd, 1) := by decide +kernel
theorem dL_to_18 : decode cL_to 18 = .ok (.goto 41, 3) := by decide +kernel
theorem dL_to_21 : decode cL_to 21 = .ok (.iload_n 1, 1) := by decide +kernel
theorem dL_to_22 : decode cL_to 22 = .ok (.iconst 1, 1) := by decide +kernel
theorem dL_to_23 : decode cL_to 23 = .ok (.if_icmp .ne 22, 3) := by decide +kernel
theorem dL_to_26 : decode cL_to 26 = .ok (.iload_n 0, 1) := by decide +kernel
theorem dL_to_27 : decode cL_to 27 = .ok (.bipush 8, 2) := by decide +kernel
theorem dL_to_29 : decode cL_to 29 = .ok (.irem, 1) := by decide +kernel
theorem dL_to_30 : decode cL_to 30 = .ok (.bipush 7, 2) := by decide +kernel
theorem dL_to_32 : decode cL_to 32 = .ok (.if_icmp .ne 7, 3) := by decide +kernel
theorem dL_to_35 : decode cL_to 35 = .ok (.iconst (-1), 1) := by decide +kernel
theorem dL_to_36 : decode cL_to 36 = .ok (.goto 23, 3) := by decide +kernel
theorem dL_to_39 : decode cL_to 39 = .ok (.iload_n 0, 1) := by decide +kernel
theorem dL_to_40 : decode cL_to 40 = .ok (.iconst 1, 1) := by decide +kernel
theorem dL_to_41 : decode cL_to 41 = .ok (.iadd, 1) := by decide +kernel
theorem dL_to_42 : decode cL_to 42 = .ok (.goto 17, 3) := by decide +kernel
theorem dL_to_45 : decode cL_to 45 = .ok (.iload_n 0, 1) := by decide +kernel
theorem dL_to_46 : decode cL_to 46 = .ok (.bipush 8, 2) := by decide +kernel
theorem dL_to_48 : decode cL_to 48 = .ok (.irem, 1) := by decide +kernel
theorem dL_to_49 : decode cL_to 49 = .ok (.ifCond .ne 7, 3) := by decide +kernel
theorem dL_to_52 : decode cL_to 52 = .ok (.iconst (-1), 1) := by decide +kernel
theorem dL_to_53 : decode cL_to 53 = .ok (.goto 6, 3) := by decide +kernel
theorem dL_to_56 : decode cL_to 56 = .ok (.iload_n 0, 1) := by decide +kernel
theorem dL_to_57 : decode cL_to 57 = .ok (.iconst 1, 1) := by decide +kernel
theorem dL_to_58 : decode cL_to 58 = .ok (.isub, 1) := by decide +kernel
theorem dL_to_59 : decode cL_to 59 = .ok (.ireturn, 1) := by decide +kernel
set_option maxRecDepth 20000 in
theorem gp_stuck_call_0 : GoodIn wsL_stuck wsL_call_r1 := goodIn_r _ [5, 6, 3, 7, 8, 9, 10, 11, 12, 13, 14, 15, 16, 17, 18, 19, 20, 21, 22, 23, 24, 25, 26, 27] rfl (by decide +kernel)
set_option maxRecDepth 20000 in
theorem gp_stuck_call_1 : GoodIn wsL_stuck wsL_call_r2 := goodIn_r _ [28, 29, 30, 31, 32, 33, 34, 35, 36, 37, 38, 39, 40, 41, 42, 43, 44, 45, 46, 47, 48, 49, 50, 51] rfl (by decide +kernel)
set_option maxRecDepth 20000 in
theorem gp_stuck_call_2 : GoodIn wsL_stuck wsL_call_r3 := goodIn_r _ [52, 53, 54, 55, 56, 57, 58, 59, 60, 61, 62, 63, 64, 65, 66, 67, 68, 69, 70, 71, 72, 73, 74, 75] rfl (by decide +kernel)
set_option maxRecDepth 20000 in
theorem gp_stuck_call_3 : GoodIn wsL_stuck wsL_call_r4 := goodIn_r _ [76, 77, 78, 79, 80, 81, 82, 83, 84, 85, 86, 87, 88, 89, 90, 91, 92, 93, 94, 95, 96, 97, 98, 99] rfl (by decide +kernel)
set_option maxRecDepth 20000 in
theorem gp_stuck_call_4 : GoodIn wsL_stuck wsL_call_r5 := goodIn_r _ [100, 101, 102, 103, 104, 105, 106, 107, 108, 109, 110, 111, 112, 113, 114, 115, 116, 117, 118, 119, 120, 121, 122, 123] rfl (by decide +kernel)
set_option maxRecDepth 20000 in
theorem gp_stuck_call_5 : GoodIn wsL_stuck wsL_call_r6 := goodIn_r _ [124, 125, 126, 127, 128, 129, 130, 131, 132, 133, 134, 135, 136, 137, 138, 139, 140, 141, 142, 143, 144, 145, 146, 147] rfl (by decide +kernel)
set_option maxRecDepth 20000 in
theorem gp_stuck_call_6 : GoodIn wsL_stuck wsL_call_r7 := goodIn_r _ [148, 149, 150, 151, 152, 153, 154, 155, 156, 157, 158, 159, 160, 161, 162, 163, 164, 165, 166, 167, 168, 169, 170, 171] rfl (by decide +kernel)
set_option maxRecDepth 20000 in
theorem gp_stuck_call_7 : GoodIn wsL_stuck wsL_call_r8 := goodIn_r _ [172, 173, 174, 175, 176, 177, 178, 179, 180, 181, 182, 183, 184, 185, 186, 187, 188, 189, 190, 191, 192, 193, 194, 195] rfl (by decide +kernel)
set_option maxRecDepth 20000 in
theorem gp_stuck_call_8 : GoodIn wsL_stuck wsL_call_r9 := goodIn_r _ [196, 197, 198, 199, 200, 201, 202, 203, 204, 205, 206, 207, 208, 209, 210, 211, 212, 213, 214, 215, 216, 217, 218, 219] rfl (by decide +kernel)
set_option maxRecDepth 20000 in
theorem gp_stuck_call_9 : GoodIn wsL_stuck wsL_call_r10 := goodIn_r _ [220, 221, 222, 223, 224, 225, 226, 227, 228, 229, 230, 231, 232, 233, 234, 235, 236, 237, 238, 239, 240, 241, 242, 243] rfl (by decide +kernel)
set_option maxRecDepth 20000 in
theorem gp_stuck_call_10 : GoodIn wsL_stuck wsL_call_r11 := goodIn_r _ [244, 245, 246, 247, 248, 249, 250, 251, 252, 253, 254, 255, 256, 257, 258, 259, 260, 261, 262, 263, 264, 265, 266, 267] rfl (by decide +kernel)
set_option maxRecDepth 20000 in
theorem gp_stuck_call_11 : GoodIn wsL_stuck wsL_call_r12 := goodIn_r _ [268, 269, 270, 271, 272, 273, 274, 275, 276, 277, 278, 279, 280, 281, 282, 283, 284, 285, 286, 287, 288, 289, 290, 291] rfl (by decide +kernel)
set_option maxRecDepth 20000 in
theorem gp_stuck_call_12 : GoodIn wsL_stuck wsL_call_r13 := goodIn_r _ [292, 293, 294, 295, 296, 297, 298, 299, 300, 301, 302, 303, 304, 305, 306, 307, 308, 309, 310, 311, 312, 313, 314, 315] rfl (by decide +kernel)
set_option maxRecDepth 20000 in
theorem gp_stuck_call_13 : GoodIn wsL_stuck wsL_call_r14 := goodIn_r _ [316, 317, 318, 319, 320, 321, 322, 323, 324, 325, 326, 327, 328, 329, 330, 331, 332, 333, 334, 335, 336, 337, 338, 339] rfl (by decide +kernel)
set_option maxRecDepth 20000 in
theorem gp_stuck_call_14 : GoodIn wsL_stuck wsL_call_r15 := goodIn_r _ [340, 341, 342, 343, 344, 345, 346, 347, 348, 349, 350, 351, 352, 353, 354, 355, 356, 357, 358, 359, 360, 361, 362, 363] rfl (by decide +kernel)
set_option maxRecDepth 20000 in
theorem gp_stuck_call_15 : GoodIn wsL_stuck wsL_call_r16 := goodIn_r _ [364, 365, 366, 367, 368, 369, 370, 371, 372, 373, 374, 375, 376, 377, 378, 379, 380, 381, 382, 383, 384, 385, 386, 387] rfl (by decide +kernel)
set_option maxRecDepth 20000 in
theorem gp_stuck_call_16 : GoodIn wsL_stuck wsL_call_r17 := goodIn_r _ [388, 389, 390, 391, 392, 393, 394, 395, 396, 397, 398, 399, 400, 401, 402, 403, 404, 405, 406, 407, 408, 409, 410, 411] rfl (by decide +kernel)
set_option maxRecDepth 20000 in
theorem gp_stuck_call_17 : GoodIn wsL_stuck wsL_call_r18 := goodIn_r _ [412, 413, 414, 415, 416, 417, 418, 419, 420, 421, 422, 423, 424, 425, 426, 427, 428, 429, 430, 431, 432, 433, 434, 435] rfl (by decide +kernel)
set_option maxRecDepth 20000 in
theorem gp_stuck_call_18 : GoodIn wsL_stuck wsL_call_r19 := goodIn_r _ [436, 437, 438, 439, 440, 441, 442, 443, 444, 445, 446, 447, 448, 449, 450, 451, 452, 453, 454, 455, 456, 457, 458, 459] rfl (by decide +kernel)
set_option maxRecDepth 20000 in
theorem gp_stuck_call_19 : GoodIn wsL_stuck wsL_call_r20 := goodIn_r _ [460, 461, 462, 463, 464, 465, 466, 467, 468, 469, 470, 471, 472, 473, 474, 475, 476, 477, 478, 479, 480, 481, 482, 483] rfl (by decide +kernel)
set_option maxRecDepth 20000 in
theorem gp_stuck_call_20 : GoodIn wsL_stuck wsL_call_r21 := goodIn_r _ [484, 485, 486, 487, 488, 489, 490, 491, 492, 493, 494, 495, 496, 497, 498, 499, 500, 501, 502, 503, 504, 505, 506, 507] rfl (by decide +kernel)
set_option maxRecDepth 20000 in
theorem gp_stuck_call_21 : GoodIn wsL_stuck wsL_call_r22 := goodIn_r _ [508, 509, 510, 511, 512, 513, 514, 515, 516, 517, 518, 519, 520, 521] rfl (by decide +kernel)
set_option maxRecDepth 20000 in
theorem gp_stuck_call_h : GoodIn wsL_stuck [.code yL_call cL_call 5 (some .int)] := goodIn_r _ [4] rfl (by decide +kernel)
set_option maxRecDepth 20000 in
theorem ggL_stuck_L_call : GoodIn wsL_stuck wsL_call := (goodIn_ca (goodIn_ca (goodIn_ca (goodIn_ca (goodIn_ca (goodIn_ca (goodIn_ca (goodIn_ca (goodIn_ca (goodIn_ca (goodIn_cons gp_stuck_call_h (goodIn_app gp_stuck_call_0 (goodIn_app gp_stuck_call_1 (goodIn_app gp_stuck_call_2 (goodIn_app gp_stuck_call_3 (goodIn_app gp_stuck_call_4 (goodIn_app gp_stuck_call_5 (goodIn_app gp_stuck_call_6 (goodIn_app gp_stuck_call_7 (goodIn_app gp_stuck_call_8 (goodIn_app gp_stuck_call_9 (goodIn_app gp_stuck_call_10 (goodIn_app gp_stuck_call_11 (goodIn_app gp_stuck_call_12 (goodIn_app gp_stuck_call_13 (goodIn_app gp_stuck_call_14 (goodIn_app gp_stuck_call_15 (goodIn_app gp_stuck_call_16 (goodIn_app gp_stuck_call_17 (goodIn_app gp_stuck_call_18 (goodIn_app gp_stuck_call_19 (goodIn_app gp_stuck_call_20 gp_stuck_call_21)))))))))))))))))))))) (goodIn_sub (fun _ h => (List.mem_cons_of_mem _ (List.mem_append_left _ (List.mem_append_left _ (List.mem_append_left _ (List.mem_append_left _ (List.mem_append_left _ (List.mem_append_left _ (List.mem_append_left _ (List.mem_append_left _ (List.mem_append_left _ (List.mem_append_right _ h)))))))))))) (by decide +kernel))) (goodIn_sub (fun _ h => (List.mem_cons_of_mem _ (List.mem_append_left _ (List.mem_append_left _ (List.mem_append_left _ (List.mem_append_left _ (List.mem_append_left _ (List.mem_append_left _ (List.mem_append_left _ (List.mem_append_left _ (List.mem_append_right _ h))))))))))) (by decide +kernel))) (goodIn_sub (fun _ h => (List.mem_cons_of_mem _ (List.mem_append_left _ (List.mem_append_left _ (List.mem_append_left _ (List.mem_append_left _ (List.mem_append_left _ (List.mem_append_left _ (List.mem_append_left _ (List.mem_append_right _ h)))))))))) (by decide +kernel))) (goodIn_sub (fun _ h => (List.mem_cons_of_mem _ (List.mem_append_left _ (List.mem_append_left _ (List.mem_append_left _ (List.mem_append_left _ (List.mem_append_left _ (List.mem_append_left _ (List.mem_append_right _ h))))))))) (by decide +kernel))) (goodIn_sub (fun _ h => (List.mem_cons_of_mem _ (List.mem_append_left _ (List.mem_append_left _ (List.mem_append_left _ (List.mem_append_left _ (List.mem_append_left _ (List.mem_append_right _ h)))))))) (by decide +kernel))) (goodIn_sub (fun _ h => (List.mem_cons_of_mem _ (List.mem_append_left _ (List.mem_append_left _ (List.mem_append_left _ (List.mem_append_left _ (List.mem_append_right _ h))))))) (by decide +kernel))) (goodIn_sub (fun _ h => (List.mem_cons_of_mem _ (List.mem_append_left _ (List.mem_append_left _ (List.mem_append_left _ (List.mem_append_right _ h)))))) (by decide +kernel))) (goodIn_sub (fun _ h => (List.mem_cons_of_mem _ (List.mem_append_left _ (List.mem_append_left _ (List.mem_append_right _ h))))) (by decide +kernel))) (goodIn_sub (fun _ h => (List.mem_cons_of_mem _ (List.mem_append_left _ (List.mem_append_right _ h)))) (by decide +kernel))) (goodIn_sub (fun _ h => (List.mem_cons_of_mem _ (List.mem_append_right _ h))) (by decide +kernel)))
set_option maxRecDepth 20000 in
theorem gL_stuck_L_call : GoodIn wsL_stuck (va_wsS RL 146 yL_call wsL_call) := goodIn_app (goodIn_of _ (by decide +kernel)) ggL_stuck_L_call
theorem dL_stuck_0 : decode cL_stuck 0 = .ok (.aload_n 0, 1) := by decide +kernel
theorem dL_stuck_1 : decode cL_stuck 1 = .ok (.bipush 12, 2) := by decide +kernel
theorem dL_stuck_3 : decode cL_stuck 3 = .ok (.iconst 0, 1) := by decide +kernel
theorem dL_stuck_4 : decode cL_stuck 4 = .ok (.iconst 0, 1) := by decide +kernel
theorem dL_stuck_5 : decode cL_stuck 5 = .ok (.iconst 0, 1) := by decide +kernel
theorem dL_stuck_6 : decode cL_stuck 6 = .ok (.invokestatic 146, 3) := by decide +kernel
theorem dL_stuck_9 : decode cL_stuck 9 = .ok (.ifCond .le 31, 3) := by decide +kernel
theorem dL_stuck_12 : decode cL_stuck 12 = .ok (.aload_n 0, 1) := by decide +kernel
theorem dL_stuck_13 : decode cL_stuck 13 = .ok (.bipush 12, 2) := by decide +kernel
theorem dL_stuck_15 : decode cL_stuck 15 = .ok (.iconst 1, 1) := by decide +kernel
theorem dL_stuck_16 : decode cL_stuck 16 = .ok (.iconst 0, 1) := by decide +kernel
theorem dL_stuck_17 : decode cL_stuck 17 = .ok (.iconst 0, 1) := by decide +kernel
theorem dL_stuck_18 : decode cL_stuck 18 = .ok (.invokestatic 146, 3) := by decide +kernel
theorem dL_stuck_21 : decode cL_stuck 21 = .ok (.ifCond .le 19, 3) := by decide +kernel
theorem dL_stuck_24 : decode cL_stuck 24 = .ok (.aload_n 0, 1) := by decide +kernel
theorem dL_stuck_25 : decode cL_stuck 25 = .ok (.bipush 12, 2) := by decide +kernel
theorem dL_stuck_27 : decode cL_stuck 27 = .ok (.iconst 2, 1) := by decide +kernel
theorem dL_stuck_28 : decode cL_stuck 28 = .ok (.iconst 0, 1) := by decide +kernel
theorem dL_stuck_29 : decode cL_stuck 29 = .ok (.iconst 0, 1) := by decide +kernel
theorem dL_stuck_30 : decode cL_stuck 30 = .ok (.invokestatic 146, 3) := by decide +kernel
theorem dL_stuck_33 : decode cL_stuck 33 = .ok (.ifCond .le 7, 3) := by decide +kernel
theorem dL_stuck_36 : decode cL_stuck 36 = .ok (.iconst 1, 1) := by decide +kernel
theorem dL_stuck_37 : decode cL_stuck 37 = .ok (.goto 4, 3) := by decide +kernel
theorem dL_stuck_40 : decode cL_stuck 40 = .ok (.iconst 0, 1) := by decide +kernel
theorem dL_stuck_41 : decode cL_stuck 41 = .ok (.ireturn, 1) := by decide +kernel
theorem c_to (l : Launch) (D : va_G) (E : Nat → ClassId) (x y : Int32) : Met l yL_to wsL_to (lRm 1 0 0) (lP D E [.int x, .int y] (fun _ => True) bNo) (lQ (fun r _ => r = toI x y) bNo) 0 0 bNo := by
  refine Met.ofW (cc := cL_to) (maxL := 2) (ret := (some .int)) (by decide) rfl ?_
  intro p e s m args below meth co s₁ B hml hv
  obtain ⟨rfl, _, hKX, hZ, hNc⟩ := hv
  have hx := B.exec
  have hb := B.bytes
  have hr := B.returns
  have hts := atoms_spec (ws := wsL_to) B.pre
  have hown : s.vm.findClass RL = some m.cls := findClass_of_methodNamed B.named
  have hlocks := B.notSynchronized
  have hS : va_S bNo s.heap s.heap [] := ⟨Nat.le_refl _, fun _ _ _ => rfl, fun _ h => by cases h⟩
  have hl := lv_entry ([.int x, .int y]) (n := 2) (Nat.le_of_ble_eq_true rfl)
  rw [lg_entry_eq]
  generalize (lg_sl ([.int x, .int y]) ++ List.replicate (2 - (lg_sl ([.int x, .int y])).length) Slot.unset).toArray = ls at hl ⊢
  have hl : lv_has ls 2 [(0, .int x), (1, .int y)] := hl
  refine lv_iload_n hx hb dL_to_0 rfl (lv_at hl 1 rfl) ?_
  refine lv_if_ne (tgt := 21) hx hb dL_to_1 (by decide) (fun c1 => ?_) (fun c1 => ?_)
  · refine lv_iload_n hx hb dL_to_21 rfl (lv_at hl 1 rfl) ?_
    refine lv_iconst (v := 1) hx hb dL_to_22 (by decide) ?_
    refine lv_icmp_ne (tgt := 45) hx hb dL_to_23 (by decide) (fun c2 => ?_) (fun c2 => ?_)
    · refine lv_iload_n hx hb dL_to_45 rfl (lv_at hl 0 rfl) ?_
      refine lv_bipush (v := 8) hx hb dL_to_46 (by decide) ?_
      refine lv_irem hx hb dL_to_48 (by decide) ?_
      refine lv_if_ne (tgt := 56) hx hb dL_to_49 (by decide) (fun c3 => ?_) (fun c3 => ?_)
      · refine lv_iload_n hx hb dL_to_56 rfl (lv_at hl 0 rfl) ?_
        refine lv_iconst (v := 1) hx hb dL_to_57 (by decide) ?_
        refine lv_isub hx hb dL_to_58 ?_
        exact l_iret hx hb hr hlocks hS (by unfold toI; rw [if_neg c1, if_neg c2, if_neg c3]) ⟨Nat.le_of_ble_eq_true rfl, Nat.le_of_ble_eq_true rfl⟩ dL_to_59
      · refine lv_iconst (v := (-1)) hx hb dL_to_52 (by decide) ?_
        refine lv_goto (tgt := 59) hx hb dL_to_53 (by decide) ?_
        exact l_iret hx hb hr hlocks hS (by unfold toI; rw [if_neg c1, if_neg c2, if_pos c3]) ⟨Nat.le_of_ble_eq_true rfl, Nat.le_of_ble_eq_true rfl⟩ dL_to_59
    · refine lv_iload_n hx hb dL_to_26 rfl (lv_at hl 0 rfl) ?_
      refine lv_bipush (v := 8) hx hb dL_to_27 (by decide) ?_
      refine lv_irem hx hb dL_to_29 (by decide) ?_
      refine lv_bipush (v := 7) hx hb dL_to_30 (by decide) ?_
      refine lv_icmp_ne (tgt := 39) hx hb dL_to_32 (by decide) (fun c3 => ?_) (fun c3 => ?_)
      · refine lv_iload_n hx hb dL_to_39 rfl (lv_at hl 0 rfl) ?_
        refine lv_iconst (v := 1) hx hb dL_to_40 (by decide) ?_
        refine lv_iadd hx hb dL_to_41 ?_
        refine lv_goto (tgt := 59) hx hb dL_to_42 (by decide) ?_
        exact l_iret hx hb hr hlocks hS (by unfold toI; rw [if_neg c1, if_pos c2, if_neg c3]) ⟨Nat.le_of_ble_eq_true rfl, Nat.le_of_ble_eq_true rfl⟩ dL_to_59
      · refine lv_iconst (v := (-1)) hx hb dL_to_35 (by decide) ?_
        refine lv_goto (tgt := 59) hx hb dL_to_36 (by decide) ?_
        exact l_iret hx hb hr hlocks hS (by unfold toI; rw [if_neg c1, if_pos c2, if_pos c3]) ⟨Nat.le_of_ble_eq_true rfl, Nat.le_of_ble_eq_true rfl⟩ dL_to_59
  · refine lv_iload_n hx hb dL_to_4 rfl (lv_at hl 0 rfl) ?_
    refine lv_bipush (v := 55) hx hb dL_to_5 (by decide) ?_
    refine lv_icmp_le (tgt := 14) hx hb dL_to_7 (by decide) (fun c2 => ?_) (fun c2 => ?_)
    · refine lv_iload_n hx hb dL_to_14 rfl (lv_at hl 0 rfl) ?_
      refine lv_bipush (v := 8) hx hb dL_to_15 (by decide) ?_
      refine lv_iadd hx hb dL_to_17 ?_
      refine lv_goto (tgt := 59) hx hb dL_to_18 (by decide) ?_
      exact l_iret hx hb hr hlocks hS (by unfold toI; rw [if_pos c1, if_neg (i32_nlt.mpr c2)]) ⟨Nat.le_of_ble_eq_true rfl, Nat.le_of_ble_eq_true rfl⟩ dL_to_59
    · refine lv_iconst (v := (-1)) hx hb dL_to_10 (by decide) ?_
      refine lv_goto (tgt := 59) hx hb dL_to_11 (by decide) ?_
      exact l_iret hx hb hr hlocks hS (by unfold toI; rw [if_pos c1, if_pos (i32_nle.mp c2)]) ⟨Nat.le_of_ble_eq_true rfl, Nat.le_of_ble_eq_true rfl⟩ dL_to_59
theorem c_thrown (l : Launch) (D : va_G) (E : Nat → ClassId) (x : Int32) (hn : ¬ thr x) : Met l yL_thrown wsL_thrown (lRm 1 0 0) (lP D E [.int x] (fun _ => True) bNo) (lQ (fun r _ => r = 0) bNo) 0 0 bNo := by
  refine Met.ofW (cc := cL_thrown) (maxL := 1) (ret := (some .boolean)) (by decide) rfl ?_
  intro p e s m args below meth co s₁ B hml hv
  obtain ⟨rfl, _, hKX, hZ, hNc⟩ := hv
  have hx := B.exec
  have hb := B.bytes
  have hr := B.returns
  have hts := atoms_spec (ws := wsL_thrown) B.pre
  have hown : s.vm.findClass RL = some m.cls := findClass_of_methodNamed B.named
  have hlocks := B.notSynchronized
  have hS : va_S bNo s.heap s.heap [] := ⟨Nat.le_refl _, fun _ _ _ => rfl, fun _ h => by cases h⟩
  have hl := lv_entry ([.int x]) (n := 1) (Nat.le_of_ble_eq_true rfl)
  rw [lg_entry_eq]
  generalize (lg_sl ([.int x]) ++ List.replicate (1 - (lg_sl ([.int x])).length) Slot.unset).toArray = ls at hl ⊢
  have hl : lv_has ls 1 [(0, .int x)] := hl
  refine lv_iload_n hx hb dL_thrown_0 rfl (lv_at hl 0 rfl) ?_
  refine lv_ldc (v := (-9999001)) hx hb hown (hts (.constant RL 40 (-9999001)) (List.mem_of_getElem? (i := 1) (by decide +kernel))) dL_thrown_1 ?_
  refine lv_icmp_eq (tgt := 18) hx hb dL_thrown_3 (by decide) (fun z => absurd z (fun q => hn (Or.inl q))) (fun _ => ?_)
  refine lv_iload_n hx hb dL_thrown_6 rfl (lv_at hl 0 rfl) ?_
  refine lv_ldc (v := (-9999002)) hx hb hown (hts (.constant RL 15 (-9999002)) (List.mem_of_getElem? (i := 2) (by decide +kernel))) dL_thrown_7 ?_
  refine lv_icmp_eq (tgt := 18) hx hb dL_thrown_9 (by decide) (fun z => absurd z (fun q => hn (Or.inr (Or.inl q)))) (fun _ => ?_)
  refine lv_iload_n hx hb dL_thrown_12 rfl (lv_at hl 0 rfl) ?_
  refine lv_ldc (v := (-9999003)) hx hb hown (hts (.constant RL 26 (-9999003)) (List.mem_of_getElem? (i := 3) (by decide +kernel))) dL_thrown_13 ?_
  refine lv_icmp_ne (tgt := 22) hx hb dL_thrown_15 (by decide) (fun _ => ?_) (fun z => absurd z (fun q => hn (Or.inr (Or.inr q))))
  refine lv_iconst (v := 0) hx hb dL_thrown_22 (by decide) ?_
  exact l_zret hx hb hr (Or.inl rfl) hlocks hS rfl ⟨Nat.le_of_ble_eq_true rfl, Nat.le_of_ble_eq_true rfl⟩ dL_thrown_23
theorem c_stuck (l : Launch) (hst : l.stackTraces = false) (D : va_G) (E : Nat → ClassId) (o : Nat) (S : aT) (F : ∀ j, j < 3 → 0 < aF 12 S (nI j) 0 0) : Met l yL_stuck wsL_stuck (lRm 9 3 18) (lP D E [.ref o] (Ob D E o S) (rA o)) (lQ (fun r H => r = 1 ∧ Ob D E o S H) (rA o)) 3 18 (rA o) := by
  refine Met.ofW (cc := cL_stuck) (maxL := 1) (ret := (some .boolean)) (by decide) rfl ?_
  intro p e s m args below meth co s₁ B hml hv
  obtain ⟨rfl, hO, hKX, hZ, hNc⟩ := hv
  have hx := B.exec
  have hb := B.bytes
  have hr := B.returns
  have hts := atoms_spec (ws := wsL_stuck) B.pre
  have hown : s.vm.findClass RL = some m.cls := findClass_of_methodNamed B.named
  have hlocks := B.notSynchronized
  have hS : va_S (rA o) s.heap s.heap [] := ⟨Nat.le_refl _, fun _ _ _ => rfl, fun _ h => by cases h⟩
  have hl := lv_entry ([.ref o]) (n := 1) (Nat.le_of_ble_eq_true rfl)
  rw [lg_entry_eq]
  generalize (lg_sl ([.ref o]) ++ List.replicate (1 - (lg_sl ([.ref o])).length) Slot.unset).toArray = ls at hl ⊢
  have hl : lv_has ls 1 [(0, .ref o)] := hl
  refine lv_aload_n hx hb dL_stuck_0 rfl (lv_at hl 0 rfl) ?_
  refine lv_bipush (v := 12) hx hb dL_stuck_1 (by decide) ?_
  refine lv_iconst (v := 0) hx hb dL_stuck_3 (by decide) ?_
  refine lv_iconst (v := 0) hx hb dL_stuck_4 (by decide) ?_
  refine lv_iconst (v := 0) hx hb dL_stuck_5 (by decide) ?_
  refine l_go (cells' := 1) (slots' := 6) (l_runS (P := Ob D E o S) (As := [.ref o, .int 12, .int 0, .int 0, .int 0]) (rest := []) ⟨hx, hb, hml, hown, hts⟩ (c_call_12 l hst D E o S 0 0 0) (va_cwS 5 hts gL_stuck_L_call rfl rfl rfl (by decide +kernel) ⟨Nat.le_of_ble_eq_true rfl, Nat.le_of_ble_eq_true rfl⟩) hO hKX (l_Z hZ hS (fun _ h => h)) hNc rfl hl rfl (Nat.le_of_ble_eq_true rfl) dL_stuck_6 ⟨Nat.le_of_ble_eq_true rfl, Nat.le_of_ble_eq_true rfl⟩) hS (fun _ h => h) ⟨Nat.le_of_ble_eq_true rfl, Nat.le_of_ble_eq_true rfl⟩ (fun r6 H locs hp hq hz hS => ?_)
  obtain ⟨h6, hO⟩ := hp
  have hO : Ob D E o S H := hO
  refine lv_if_le (tgt := 40) hx hb dL_stuck_9 (by decide) (fun z => absurd z (by rw [h6]; exact i32_nle.mpr (F 0 (by decide)))) (fun _ => ?_)
  refine lv_aload_n hx hb dL_stuck_12 rfl (lv_at hl 0 rfl) ?_
  refine lv_bipush (v := 12) hx hb dL_stuck_13 (by decide) ?_
  refine lv_iconst (v := 1) hx hb dL_stuck_15 (by decide) ?_
  refine lv_iconst (v := 0) hx hb dL_stuck_16 (by decide) ?_
  refine lv_iconst (v := 0) hx hb dL_stuck_17 (by decide) ?_
  refine l_go (cells' := 2) (slots' := 12) (l_runS (P := Ob D E o S) (As := [.ref o, .int 12, .int 1, .int 0, .int 0]) (rest := []) ⟨hx, hb, hml, hown, hts⟩ (c_call_12 l hst D E o S 1 0 0) (va_cwS 5 hts gL_stuck_L_call rfl rfl rfl (by decide +kernel) ⟨Nat.le_of_ble_eq_true rfl, Nat.le_of_ble_eq_true rfl⟩) hO hKX (l_Z hZ hS (fun _ h => h)) hNc rfl hl rfl (Nat.le_of_ble_eq_true rfl) dL_stuck_18 ⟨Nat.le_of_ble_eq_true rfl, Nat.le_of_ble_eq_true rfl⟩) hS (fun _ h => h) ⟨Nat.le_of_ble_eq_true rfl, Nat.le_of_ble_eq_true rfl⟩ (fun r18 H locs hp hq hz hS => ?_)
  obtain ⟨h18, hO⟩ := hp
  have hO : Ob D E o S H := hO
  refine lv_if_le (tgt := 40) hx hb dL_stuck_21 (by decide) (fun z => absurd z (by rw [h18]; exact i32_nle.mpr (F 1 (by decide)))) (fun _ => ?_)
  refine lv_aload_n hx hb dL_stuck_24 rfl (lv_at hl 0 rfl) ?_
  refine lv_bipush (v := 12) hx hb dL_stuck_25 (by decide) ?_
  refine lv_iconst (v := 2) hx hb dL_stuck_27 (by decide) ?_
  refine lv_iconst (v := 0) hx hb dL_stuck_28 (by decide) ?_
  refine lv_iconst (v := 0) hx hb dL_stuck_29 (by decide) ?_
  refine l_go (cells' := 3) (slots' := 18) (l_runS (P := Ob D E o S) (As := [.ref o, .int 12, .int 2, .int 0, .int 0]) (rest := []) ⟨hx, hb, hml, hown, hts⟩ (c_call_12 l hst D E o S 2 0 0) (va_cwS 5 hts gL_stuck_L_call rfl rfl rfl (by decide +kernel) ⟨Nat.le_of_ble_eq_true rfl, Nat.le_of_ble_eq_true rfl⟩) hO hKX (l_Z hZ hS (fun _ h => h)) hNc rfl hl rfl (Nat.le_of_ble_eq_true rfl) dL_stuck_30 ⟨Nat.le_of_ble_eq_true rfl, Nat.le_of_ble_eq_true rfl⟩) hS (fun _ h => h) ⟨Nat.le_of_ble_eq_true rfl, Nat.le_of_ble_eq_true rfl⟩ (fun r30 H locs hp hq hz hS => ?_)
  obtain ⟨h30, hO⟩ := hp
  have hO : Ob D E o S H := hO
  refine lv_if_le (tgt := 40) hx hb dL_stuck_33 (by decide) (fun z => absurd z (by rw [h30]; exact i32_nle.mpr (F 2 (by decide)))) (fun _ => ?_)
  refine lv_iconst (v := 1) hx hb dL_stuck_36 (by decide) ?_
  refine lv_goto (tgt := 41) hx hb dL_stuck_37 (by decide) ?_
  exact l_zret hx hb hr (Or.inr rfl) hlocks hS ⟨rfl, hO⟩ ⟨Nat.le_of_ble_eq_true rfl, Nat.le_of_ble_eq_true rfl⟩ dL_stuck_41
