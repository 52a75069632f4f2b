/-! its words, third piece -/
set_option maxRecDepth 20000 in
theorem lw_in_r20 : ∀ w ∈ wsL_law0_r20, w ∈ lw_tbl := fun w h => (goodIn_r wsL_law0_r20 [705, 34, 706, 688, 690, 14, 691, 692, 693, 694, 695, 696, 697, 698, 699, 87, 701, 702, 707, 708, 709, 710, 711, 712] rfl (by decide +kernel) w h).1
set_option maxRecDepth 20000 in
theorem lw_in_r21 : ∀ w ∈ wsL_law0_r21, w ∈ lw_tbl := fun w h => (goodIn_r wsL_law0_r21 [713, 714, 715, 716, 717, 718, 719, 720, 721, 722, 723, 724, 725, 726, 727, 728, 729, 731, 732, 733, 734, 735, 736, 737] rfl (by decide +kernel) w h).1
set_option maxRecDepth 20000 in
theorem lw_in_r22 : ∀ w ∈ wsL_law0_r22, w ∈ lw_tbl := fun w h => (goodIn_r wsL_law0_r22 [738, 739, 741, 742, 743, 744, 745, 746, 747, 748, 207, 750, 751, 752, 753, 754, 755, 756, 757, 758, 759, 760, 761, 762] rfl (by decide +kernel) w h).1
set_option maxRecDepth 20000 in
theorem lw_in_r23 : ∀ w ∈ wsL_law0_r23, w ∈ lw_tbl := fun w h => (goodIn_r wsL_law0_r23 [763, 764, 765, 766, 767, 768, 769, 770, 771, 772, 773, 774, 775, 776, 73, 778, 779, 780, 781, 782, 783, 784, 785, 786] rfl (by decide +kernel) w h).1
set_option maxRecDepth 20000 in
theorem lw_in_r24 : ∀ w ∈ wsL_law0_r24, w ∈ lw_tbl := fun w h => (goodIn_r wsL_law0_r24 [787, 788, 789, 790, 791, 792, 793, 794, 795, 796, 797, 798, 799, 800, 801, 224, 803, 805, 15, 806, 807, 808, 809, 810] rfl (by decide +kernel) w h).1
set_option maxRecDepth 20000 in
theorem lw_in_r25 : ∀ w ∈ wsL_law0_r25, w ∈ lw_tbl := fun w h => (goodIn_r wsL_law0_r25 [811, 812, 813, 814, 876, 877, 878, 879, 853, 854, 855, 856, 290, 291, 292, 838, 816, 817, 818, 819, 820, 821, 822, 828] rfl (by decide +kernel) w h).1
set_option maxRecDepth 20000 in
theorem lw_in_r26 : ∀ w ∈ wsL_law0_r26, w ∈ lw_tbl := fun w h => (goodIn_r wsL_law0_r26 [825, 826, 827, 830, 832, 16, 833, 834, 836, 17, 837, 839, 840, 841, 842, 843, 844, 845, 847, 848, 849, 851, 18, 852] rfl (by decide +kernel) w h).1
set_option maxRecDepth 20000 in
theorem lw_in_r27 : ∀ w ∈ wsL_law0_r27, w ∈ lw_tbl := fun w h => (goodIn_r wsL_law0_r27 [880, 881, 882, 863, 864, 865, 866, 867, 868, 869, 870, 857, 858, 859, 860, 861, 862, 883, 884, 885, 886, 887, 888, 889] rfl (by decide +kernel) w h).1
set_option maxRecDepth 20000 in
theorem lw_in_r28 : ∀ w ∈ wsL_law0_r28, w ∈ lw_tbl := fun w h => (goodIn_r wsL_law0_r28 [890, 891, 892, 893, 894, 895] rfl (by decide +kernel) w h).1
set_option maxRecDepth 20000 in
theorem lw_in_X6 : ∀ w ∈ wsX60, w ∈ lw_tbl := by decide +kernel
set_option maxRecDepth 20000 in
theorem lw_in_X4 : ∀ w ∈ wsX40, w ∈ lw_tbl := by decide +kernel
set_option maxRecDepth 20000 in
theorem lw_in_X0 : ∀ w ∈ wsX00, w ∈ lw_tbl := by decide +kernel
set_option maxRecDepth 20000 in
theorem lw_in_X5 : ∀ w ∈ wsX50, w ∈ lw_tbl := by decide +kernel
set_option maxRecDepth 20000 in
theorem lw_in_X1 : ∀ w ∈ wsX10, w ∈ lw_tbl := by decide +kernel
set_option maxRecDepth 20000 in
theorem lw_in_X3 : ∀ w ∈ wsX30, w ∈ lw_tbl := by decide +kernel
set_option maxRecDepth 20000 in
theorem lw_in_X2 : ∀ w ∈ wsX20, w ∈ lw_tbl := by decide +kernel
theorem lw_in0 : ∀ w ∈ wsL_law0, w ∈ lw_tbl := List.forall_mem_append.mpr ⟨List.forall_mem_append.mpr ⟨List.forall_mem_append.mpr ⟨List.forall_mem_append.mpr ⟨List.forall_mem_append.mpr ⟨List.forall_mem_append.mpr ⟨List.forall_mem_append.mpr ⟨List.forall_mem_append.mpr ⟨List.forall_mem_append.mpr ⟨lw_in_r1, List.forall_mem_append.mpr ⟨lw_in_r2, List.forall_mem_append.mpr ⟨lw_in_r3, List.forall_mem_append.mpr ⟨lw_in_r4, List.forall_mem_append.mpr ⟨lw_in_r5, List.forall_mem_append.mpr ⟨lw_in_r6, List.forall_mem_append.mpr ⟨lw_in_r7, List.forall_mem_append.mpr ⟨lw_in_r8, List.forall_mem_append.mpr ⟨lw_in_r9, List.forall_mem_append.mpr ⟨lw_in_r10, List.forall_mem_append.mpr ⟨lw_in_r11, List.forall_mem_append.mpr ⟨lw_in_r12, List.forall_mem_append.mpr ⟨lw_in_r13, List.forall_mem_append.mpr ⟨lw_in_r14, List.forall_mem_append.mpr ⟨lw_in_r15, List.forall_mem_append.mpr ⟨lw_in_r16, List.forall_mem_append.mpr ⟨lw_in_r17, List.forall_mem_append.mpr ⟨lw_in_r18, List.forall_mem_append.mpr ⟨lw_in_r19, List.forall_mem_append.mpr ⟨lw_in_r20, List.forall_mem_append.mpr ⟨lw_in_r21, List.forall_mem_append.mpr ⟨lw_in_r22, List.forall_mem_append.mpr ⟨lw_in_r23, List.forall_mem_append.mpr ⟨lw_in_r24, List.forall_mem_append.mpr ⟨lw_in_r25, List.forall_mem_append.mpr ⟨lw_in_r26, List.forall_mem_append.mpr ⟨lw_in_r27, lw_in_r28⟩⟩⟩⟩⟩⟩⟩⟩⟩⟩⟩⟩⟩⟩⟩⟩⟩⟩⟩⟩⟩⟩⟩⟩⟩⟩⟩, lw_in_X6⟩, lw_in_X4⟩, lw_in_X0⟩, lw_in_X5⟩, lw_in_X1⟩, lw_in_X3⟩, lw_in_X2⟩, fun _ h => absurd h List.not_mem_nil⟩
theorem lw_in : ∀ w ∈ wsL_law, w ∈ lw_tbl := List.forall_mem_append.mpr ⟨List.forall_mem_append.mpr ⟨List.forall_mem_append.mpr ⟨lw_in0, wsL_law_x0⟩, wsL_law_x1⟩, wsL_law_x2⟩
