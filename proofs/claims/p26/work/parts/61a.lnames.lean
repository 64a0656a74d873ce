theorem dL_cell_0 : decode cL_cell 0 = .ok (.iload_n 1, 1) := by decide +kernel
theorem dL_cell_1 : decode cL_cell 1 = .ok (.aload_n 0, 1) := by decide +kernel
theorem dL_cell_2 : decode cL_cell 2 = .ok (.arraylength, 1) := by decide +kernel
theorem dL_cell_3 : decode cL_cell 3 = .ok (.if_icmp .ge 9, 3) := by decide +kernel
theorem dL_cell_6 : decode cL_cell 6 = .ok (.aload_n 0, 1) := by decide +kernel
theorem dL_cell_7 : decode cL_cell 7 = .ok (.iload_n 1, 1) := by decide +kernel
theorem dL_cell_8 : decode cL_cell 8 = .ok (.iaload, 1) := by decide +kernel
theorem dL_cell_9 : decode cL_cell 9 = .ok (.goto 15, 3) := by decide +kernel
theorem dL_cell_12 : decode cL_cell 12 = .ok (.sipush 7919, 3) := by decide +kernel
theorem dL_cell_15 : decode cL_cell 15 = .ok (.iload_n 1, 1) := by decide +kernel
theorem dL_cell_16 : decode cL_cell 16 = .ok (.iconst 3, 1) := by decide +kernel
theorem dL_cell_17 : decode cL_cell 17 = .ok (.iadd, 1) := by decide +kernel
theorem dL_cell_18 : decode cL_cell 18 = .ok (.imul, 1) := by decide +kernel
theorem dL_cell_19 : decode cL_cell 19 = .ok (.iload_n 1, 1) := by decide +kernel
theorem dL_cell_20 : decode cL_cell 20 = .ok (.bipush 11, 2) := by decide +kernel
theorem dL_cell_22 : decode cL_cell 22 = .ok (.iadd, 1) := by decide +kernel
theorem dL_cell_23 : decode cL_cell 23 = .ok (.imul, 1) := by decide +kernel
theorem dL_cell_24 : decode cL_cell 24 = .ok (.ireturn, 1) := by decide +kernel
theorem dL_low_0 : decode cL_low 0 = .ok (.iload_n 0, 1) := by decide +kernel
theorem dL_low_1 : decode cL_low 1 = .ok (.ldc 7, 2) := by decide +kernel
theorem dL_low_3 : decode cL_low 3 = .ok (.iand, 1) := by decide +kernel
theorem dL_low_4 : decode cL_low 4 = .ok (.iload_n 1, 1) := by decide +kernel
theorem dL_low_5 : decode cL_low 5 = .ok (.irem, 1) := by decide +kernel
theorem dL_low_6 : decode cL_low 6 = .ok (.ireturn, 1) := by decide +kernel
set_option maxRecDepth 20000 in
theorem ggL_told_X3_count : GoodIn wsL_told wsX3_count := goodIn_ca (goodIn_r _ [7, 8, 9, 10, 11, 12, 13, 14, 15, 16, 17, 18, 19, 20, 21, 22, 23, 24, 25, 26, 27, 28, 29, 30, 31, 32, 33, 34, 35, 36, 37, 38, 39, 40, 41, 42, 43, 44, 45, 46, 47, 48, 49, 50, 51, 52, 53, 54, 55, 56, 57, 58, 59, 60, 61, 62, 116, 117, 118, 119, 120, 121, 122, 123, 124, 125, 126, 127, 128, 129, 130, 131, 132, 133, 134, 135, 136, 137, 138] rfl (by decide +kernel)) (goodIn_sub (fun _ h => List.mem_cons_of_mem _ (List.mem_append_left _ (List.mem_append_right _ h))) (by decide +kernel))
set_option maxRecDepth 20000 in
theorem gL_told_X3_count : GoodIn wsL_told (wsV RL 12 RX3 yX3_count wsX3_count) := goodIn_app (goodIn_of _ (by decide +kernel)) ggL_told_X3_count
set_option maxRecDepth 20000 in
theorem ggL_told_X3_setting : GoodIn wsL_told wsX3_setting := goodIn_ca (goodIn_r _ [66, 67, 68, 10, 69, 70, 6, 71, 72, 73, 74, 15, 75, 76, 116, 117, 118, 119, 120, 121, 122, 123, 124, 125, 126, 127, 128, 129, 130, 131, 132, 133, 134, 135] rfl (by decide +kernel)) (goodIn_sub (fun _ h => List.mem_cons_of_mem _ (List.mem_append_right _ h)) (by decide +kernel))
set_option maxRecDepth 20000 in
theorem gL_told_X3_setting : GoodIn wsL_told (wsV RL 18 RX3 yX3_setting wsX3_setting) := goodIn_app (goodIn_of _ (by decide +kernel)) ggL_told_X3_setting
set_option maxRecDepth 20000 in
theorem ggL_told_X3_gutterOf : GoodIn wsL_told wsX3_gutterOf := goodIn_ca (goodIn_ca (goodIn_r _ [80, 67, 68, 8, 9, 10, 81, 82, 6, 83, 84, 85, 86, 87, 88, 89, 15, 90, 91, 92, 56, 93, 33, 46, 41, 94, 95, 96, 97, 98, 99, 100, 101, 116, 117, 118, 119, 120, 121, 122, 123, 124, 125, 126, 127, 128, 129, 130, 131, 132, 133, 134, 135] rfl (by decide +kernel)) (goodIn_sub (fun _ h => List.mem_cons_of_mem _ (List.mem_append_right _ h)) (by decide +kernel))) (goodIn_sub (fun _ h => List.mem_cons_of_mem _ (List.mem_append_left _ (List.mem_append_right _ h))) (by decide +kernel))
set_option maxRecDepth 20000 in
theorem gL_told_X3_gutterOf : GoodIn wsL_told (wsV RL 21 RX3 yX3_gutterOf wsX3_gutterOf) := goodIn_app (goodIn_of _ (by decide +kernel)) ggL_told_X3_gutterOf
set_option maxRecDepth 20000 in
theorem ggL_told_X3_planeOf : GoodIn wsL_told wsX3_planeOf := goodIn_ca (goodIn_ca (goodIn_r _ [105, 67, 68, 8, 9, 10, 106, 107, 6, 108, 84, 85, 86, 109, 110, 111, 15, 112, 113, 114, 115, 32, 116, 117, 118, 119, 120, 121, 122, 123, 124, 125, 126, 127, 128, 129, 130, 131, 132, 133, 134, 135] rfl (by decide +kernel)) (goodIn_sub (fun _ h => List.mem_cons_of_mem _ (List.mem_append_right _ h)) (by decide +kernel))) (goodIn_sub (fun _ h => List.mem_cons_of_mem _ (List.mem_append_left _ (List.mem_append_right _ h))) (by decide +kernel))
set_option maxRecDepth 20000 in
theorem gL_told_X3_planeOf : GoodIn wsL_told (wsV RL 25 RX3 yX3_planeOf wsX3_planeOf) := goodIn_app (goodIn_of _ (by decide +kernel)) ggL_told_X3_planeOf
theorem dL_told_0 : decode cL_told 0 = .ok (.ldc2_w 8, 3) := by decide +kernel
theorem dL_told_3 : decode cL_told 3 = .ok (.lstore_n 1, 1) := by decide +kernel
theorem dL_told_4 : decode cL_told 4 = .ok (.iconst 0, 1) := by decide +kernel
theorem dL_told_5 : decode cL_told 5 = .ok (.istore_n 3, 1) := by decide +kernel
theorem dL_told_6 : decode cL_told 6 = .ok (.iload_n 3, 1) := by decide +kernel
theorem dL_told_7 : decode cL_told 7 = .ok (.bipush 8, 2) := by decide +kernel
theorem dL_told_9 : decode cL_told 9 = .ok (.if_icmp .ge 22, 3) := by decide +kernel
theorem dL_told_12 : decode cL_told 12 = .ok (.ldc2_w 10, 3) := by decide +kernel
theorem dL_told_15 : decode cL_told 15 = .ok (.lload_n 1, 1) := by decide +kernel
theorem dL_told_16 : decode cL_told 16 = .ok (.lmul, 1) := by decide +kernel
theorem dL_told_17 : decode cL_told 17 = .ok (.aload_n 0, 1) := by decide +kernel
theorem dL_told_18 : decode cL_told 18 = .ok (.iload_n 3, 1) := by decide +kernel
theorem dL_told_19 : decode cL_told 19 = .ok (.invokevirtual 12, 3) := by decide +kernel
theorem dL_told_22 : decode cL_told 22 = .ok (.i2l, 1) := by decide +kernel
theorem dL_told_23 : decode cL_told 23 = .ok (.ladd, 1) := by decide +kernel
theorem dL_told_24 : decode cL_told 24 = .ok (.lstore_n 1, 1) := by decide +kernel
theorem dL_told_25 : decode cL_told 25 = .ok (.iinc 3 1, 3) := by decide +kernel
theorem dL_told_28 : decode cL_told 28 = .ok (.goto (-22), 3) := by decide +kernel
theorem dL_told_31 : decode cL_told 31 = .ok (.iconst 0, 1) := by decide +kernel
theorem dL_told_32 : decode cL_told 32 = .ok (.istore_n 3, 1) := by decide +kernel
theorem dL_told_33 : decode cL_told 33 = .ok (.iload_n 3, 1) := by decide +kernel
theorem dL_told_34 : decode cL_told 34 = .ok (.iconst 3, 1) := by decide +kernel
theorem dL_told_35 : decode cL_told 35 = .ok (.if_icmp .ge 22, 3) := by decide +kernel
theorem dL_told_38 : decode cL_told 38 = .ok (.ldc2_w 10, 3) := by decide +kernel
theorem dL_told_41 : decode cL_told 41 = .ok (.lload_n 1, 1) := by decide +kernel
theorem dL_told_42 : decode cL_told 42 = .ok (.lmul, 1) := by decide +kernel
theorem dL_told_43 : decode cL_told 43 = .ok (.aload_n 0, 1) := by decide +kernel
theorem dL_told_44 : decode cL_told 44 = .ok (.iload_n 3, 1) := by decide +kernel
theorem dL_told_45 : decode cL_told 45 = .ok (.invokevirtual 18, 3) := by decide +kernel
theorem dL_told_48 : decode cL_told 48 = .ok (.i2l, 1) := by decide +kernel
theorem dL_told_49 : decode cL_told 49 = .ok (.ladd, 1) := by decide +kernel
theorem dL_told_50 : decode cL_told 50 = .ok (.lstore_n 1, 1) := by decide +kernel
theorem dL_told_51 : decode cL_told 51 = .ok (.iinc 3 1, 3) := by decide +kernel
theorem dL_told_54 : decode cL_told 54 = .ok (.goto (-21), 3) := by decide +kernel
theorem dL_told_57 : decode cL_told 57 = .ok (.iconst 0, 1) := by decide +kernel
theorem dL_told_58 : decode cL_told 58 = .ok (.istore_n 3, 1) := by decide +kernel
theorem dL_told_59 : decode cL_told 59 = .ok (.iload_n 3, 1) := by decide +kernel
theorem dL_told_60 : decode cL_told 60 = .ok (.bipush 6, 2) := by decide +kernel
theorem dL_told_62 : decode cL_told 62 = .ok (.if_icmp .ge 70, 3) := by decide +kernel
theorem dL_told_65 : decode cL_told 65 = .ok (.iconst 0, 1) := by decide +kernel
theorem dL_told_66 : decode cL_told 66 = .ok (.istore 4, 2) := by decide +kernel
theorem dL_told_68 : decode cL_told 68 = .ok (.iload 4, 2) := by decide +kernel
theorem dL_told_70 : decode cL_told 70 = .ok (.bipush 9, 2) := by decide +kernel
theorem dL_told_72 : decode cL_told 72 = .ok (.if_icmp .ge 24, 3) := by decide +kernel
theorem dL_told_75 : decode cL_told 75 = .ok (.ldc2_w 10, 3) := by decide +kernel
theorem dL_told_78 : decode cL_told 78 = .ok (.lload_n 1, 1) := by decide +kernel
theorem dL_told_79 : decode cL_told 79 = .ok (.lmul, 1) := by decide +kernel
theorem dL_told_80 : decode cL_told 80 = .ok (.aload_n 0, 1) := by decide +kernel
theorem dL_told_81 : decode cL_told 81 = .ok (.iload_n 3, 1) := by decide +kernel
theorem dL_told_82 : decode cL_told 82 = .ok (.iload 4, 2) := by decide +kernel
theorem dL_told_84 : decode cL_told 84 = .ok (.invokevirtual 21, 3) := by decide +kernel
theorem dL_told_87 : decode cL_told 87 = .ok (.i2l, 1) := by decide +kernel
theorem dL_told_88 : decode cL_told 88 = .ok (.ladd, 1) := by decide +kernel
theorem dL_told_89 : decode cL_told 89 = .ok (.lstore_n 1, 1) := by decide +kernel
theorem dL_told_90 : decode cL_told 90 = .ok (.iinc 4 1, 3) := by decide +kernel
theorem dL_told_93 : decode cL_told 93 = .ok (.goto (-25), 3) := by decide +kernel
theorem dL_told_96 : decode cL_told 96 = .ok (.iconst 0, 1) := by decide +kernel
theorem dL_told_97 : decode cL_told 97 = .ok (.istore 4, 2) := by decide +kernel
theorem dL_told_99 : decode cL_told 99 = .ok (.iload 4, 2) := by decide +kernel
theorem dL_told_101 : decode cL_told 101 = .ok (.iconst 4, 1) := by decide +kernel
theorem dL_told_102 : decode cL_told 102 = .ok (.if_icmp .ge 24, 3) := by decide +kernel
theorem dL_told_105 : decode cL_told 105 = .ok (.ldc2_w 10, 3) := by decide +kernel
theorem dL_told_108 : decode cL_told 108 = .ok (.lload_n 1, 1) := by decide +kernel
theorem dL_told_109 : decode cL_told 109 = .ok (.lmul, 1) := by decide +kernel
theorem dL_told_110 : decode cL_told 110 = .ok (.aload_n 0, 1) := by decide +kernel
theorem dL_told_111 : decode cL_told 111 = .ok (.iload_n 3, 1) := by decide +kernel
theorem dL_told_112 : decode cL_told 112 = .ok (.iload 4, 2) := by decide +kernel
theorem dL_told_114 : decode cL_told 114 = .ok (.invokevirtual 25, 3) := by decide +kernel
theorem dL_told_117 : decode cL_told 117 = .ok (.i2l, 1) := by decide +kernel
theorem dL_told_118 : decode cL_told 118 = .ok (.ladd, 1) := by decide +kernel
