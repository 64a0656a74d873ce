theorem dL_act_312 : decode cL_act 312 = .ok (.invokestatic 28, 3) := by decide +kernel
theorem dL_act_315 : decode cL_act 315 = .ok (.iadd, 1) := by decide +kernel
theorem dL_act_316 : decode cL_act 316 = .ok (.invokevirtual 57, 3) := by decide +kernel
theorem dL_act_319 : decode cL_act 319 = .ok (.ireturn, 1) := by decide +kernel
set_option maxRecDepth 20000 in
theorem ggL_holds_X3_gutterOf : GoodIn wsL_holds wsX3_gutterOf := goodIn_ca (goodIn_ca (goodIn_r _ [5, 6, 7, 8, 9, 10, 11, 12, 4, 13, 14, 15, 16, 17, 18, 19, 20, 21, 22, 23, 24, 25, 26, 27, 28, 29, 30, 31, 32, 33, 34, 35, 36, 144, 145, 146, 147, 148, 149, 150, 151, 152, 153, 154, 155, 156, 157, 158, 159, 160, 161, 162, 163] rfl (by decide +kernel)) (goodIn_sub (fun _ h => List.mem_cons_of_mem _ (List.mem_append_left _ (List.mem_append_right _ h))) (by decide +kernel))) (goodIn_sub (fun _ h => List.mem_cons_of_mem _ (List.mem_append_right _ h)) (by decide +kernel))
set_option maxRecDepth 20000 in
theorem gL_holds_X3_gutterOf : GoodIn wsL_holds (wsV RL 21 RX3 yX3_gutterOf wsX3_gutterOf) := goodIn_app (goodIn_of _ (by decide +kernel)) ggL_holds_X3_gutterOf
set_option maxRecDepth 20000 in
theorem ggL_holds_L_leads : GoodIn wsL_holds wsL_leads := goodIn_ca (goodIn_ca (goodIn_r _ [40, 1, 2, 3, 4, 5, 6, 7, 8, 9, 10, 11, 12, 13, 14, 15, 16, 17, 18, 19, 20, 21, 22, 23, 24, 25, 26, 27, 28, 29, 30, 31, 32, 33, 34, 35, 36, 144, 145, 146, 147, 148, 149, 150, 151, 152, 153, 154, 155, 156, 157, 158, 159, 160, 161, 162, 163] rfl (by decide +kernel)) (goodIn_sub (fun _ h => List.mem_cons_of_mem _ (List.mem_append_left _ (List.mem_append_right _ h))) (by decide +kernel))) (goodIn_sub (fun _ h => List.mem_cons_of_mem _ (List.mem_append_right _ h)) (by decide +kernel))
set_option maxRecDepth 20000 in
theorem gL_holds_L_leads : GoodIn wsL_holds (va_wsS RL 41 yL_leads wsL_leads) := goodIn_app (goodIn_of _ (by decide +kernel)) ggL_holds_L_leads
set_option maxRecDepth 20000 in
theorem ggL_holds_X3_planeOf : GoodIn wsL_holds wsX3_planeOf := goodIn_ca (goodIn_ca (goodIn_r _ [44, 6, 7, 8, 9, 10, 45, 46, 4, 47, 14, 15, 16, 48, 49, 50, 20, 51, 52, 53, 54, 55, 144, 145, 146, 147, 148, 149, 150, 151, 152, 153, 154, 155, 156, 157, 158, 159, 160, 161, 162, 163] rfl (by decide +kernel)) (goodIn_sub (fun _ h => List.mem_cons_of_mem _ (List.mem_append_left _ (List.mem_append_right _ h))) (by decide +kernel))) (goodIn_sub (fun _ h => List.mem_cons_of_mem _ (List.mem_append_right _ h)) (by decide +kernel))
set_option maxRecDepth 20000 in
theorem gL_holds_X3_planeOf : GoodIn wsL_holds (wsV RL 25 RX3 yX3_planeOf wsX3_planeOf) := goodIn_app (goodIn_of _ (by decide +kernel)) ggL_holds_X3_planeOf
set_option maxRecDepth 20000 in
theorem ggL_holds_X3_drainedShare : GoodIn wsL_holds wsX3_drainedShare := goodIn_r _ [59, 10, 60, 61, 62, 20, 63, 64, 65, 66, 67, 68, 28, 69, 70, 71, 144, 145, 146, 147, 148, 149, 150, 151, 152, 153, 154, 155, 156, 157, 158, 159, 160, 161, 162, 163] rfl (by decide +kernel)
set_option maxRecDepth 20000 in
theorem gL_holds_X3_drainedShare : GoodIn wsL_holds (wsV RL 60 RX3 yX3_drainedShare wsX3_drainedShare) := goodIn_app (goodIn_of _ (by decide +kernel)) ggL_holds_X3_drainedShare
set_option maxRecDepth 20000 in
theorem ggL_holds_X3_count : GoodIn wsL_holds wsX3_count := goodIn_ca (goodIn_r _ [75, 8, 9, 10, 76, 77, 78, 79, 20, 80, 81, 82, 83, 84, 85, 86, 60, 61, 62, 63, 64, 87, 88, 89, 90, 55, 26, 69, 70, 71, 65, 66, 67, 68, 28, 91, 92, 93, 94, 27, 95, 96, 97, 98, 99, 100, 101, 102, 103, 24, 104, 105, 106, 107, 108, 109, 144, 145, 146, 147, 148, 149, 150, 151, 152, 153, 154, 155, 156, 157, 158, 159, 160, 161, 162, 163, 164, 165, 166] rfl (by decide +kernel)) (goodIn_sub (fun _ h => List.mem_cons_of_mem _ (List.mem_append_right _ h)) (by decide +kernel))
set_option maxRecDepth 20000 in
theorem gL_holds_X3_count : GoodIn wsL_holds (wsV RL 12 RX3 yX3_count wsX3_count) := goodIn_app (goodIn_of _ (by decide +kernel)) ggL_holds_X3_count
set_option maxRecDepth 20000 in
theorem ggL_holds_X3_dryIn : GoodIn wsL_holds wsX3_dryIn := goodIn_r _ [113, 114, 10, 115, 116, 117, 20, 118, 52, 119, 120, 121, 122, 53, 54, 55, 22, 23, 24, 25, 26, 27, 28, 123, 81, 86, 64, 99, 87, 88, 89, 90, 69, 70, 71, 124, 125, 126, 127, 128, 129, 130, 131, 12, 4, 13, 132, 133, 134, 135, 136, 137, 138, 139, 33, 34, 35, 36, 140, 141, 142, 143, 29, 30, 31, 32, 144, 145, 146, 147, 148, 149, 150, 151, 152, 153, 154, 155, 156, 157, 158, 159, 160, 161, 162, 163] rfl (by decide +kernel)
set_option maxRecDepth 20000 in
theorem gL_holds_X3_dryIn : GoodIn wsL_holds (wsV RL 64 RX3 yX3_dryIn wsX3_dryIn) := goodIn_app (goodIn_of _ (by decide +kernel)) ggL_holds_X3_dryIn
theorem dL_holds_0 : decode cL_holds 0 = .ok (.iconst 0, 1) := by decide +kernel
theorem dL_holds_1 : decode cL_holds 1 = .ok (.istore_n 2, 1) := by decide +kernel
theorem dL_holds_2 : decode cL_holds 2 = .ok (.iconst 0, 1) := by decide +kernel
theorem dL_holds_3 : decode cL_holds 3 = .ok (.istore_n 3, 1) := by decide +kernel
theorem dL_holds_4 : decode cL_holds 4 = .ok (.iconst 0, 1) := by decide +kernel
theorem dL_holds_5 : decode cL_holds 5 = .ok (.istore 4, 2) := by decide +kernel
theorem dL_holds_7 : decode cL_holds 7 = .ok (.iconst 0, 1) := by decide +kernel
theorem dL_holds_8 : decode cL_holds 8 = .ok (.istore 5, 2) := by decide +kernel
theorem dL_holds_10 : decode cL_holds 10 = .ok (.iconst 0, 1) := by decide +kernel
theorem dL_holds_11 : decode cL_holds 11 = .ok (.istore 6, 2) := by decide +kernel
theorem dL_holds_13 : decode cL_holds 13 = .ok (.iload 6, 2) := by decide +kernel
theorem dL_holds_15 : decode cL_holds 15 = .ok (.bipush 6, 2) := by decide +kernel
theorem dL_holds_17 : decode cL_holds 17 = .ok (.if_icmp .ge 265, 3) := by decide +kernel
theorem dL_holds_20 : decode cL_holds 20 = .ok (.aload_n 0, 1) := by decide +kernel
theorem dL_holds_21 : decode cL_holds 21 = .ok (.iload 6, 2) := by decide +kernel
theorem dL_holds_23 : decode cL_holds 23 = .ok (.iconst 3, 1) := by decide +kernel
theorem dL_holds_24 : decode cL_holds 24 = .ok (.invokevirtual 21, 3) := by decide +kernel
theorem dL_holds_27 : decode cL_holds 27 = .ok (.istore 7, 2) := by decide +kernel
theorem dL_holds_29 : decode cL_holds 29 = .ok (.aload_n 0, 1) := by decide +kernel
theorem dL_holds_30 : decode cL_holds 30 = .ok (.iload 6, 2) := by decide +kernel
theorem dL_holds_32 : decode cL_holds 32 = .ok (.bipush 6, 2) := by decide +kernel
theorem dL_holds_34 : decode cL_holds 34 = .ok (.invokevirtual 21, 3) := by decide +kernel
theorem dL_holds_37 : decode cL_holds 37 = .ok (.istore 8, 2) := by decide +kernel
theorem dL_holds_39 : decode cL_holds 39 = .ok (.iload 7, 2) := by decide +kernel
theorem dL_holds_41 : decode cL_holds 41 = .ok (.ifCond .lt 18, 3) := by decide +kernel
theorem dL_holds_44 : decode cL_holds 44 = .ok (.aload_n 0, 1) := by decide +kernel
theorem dL_holds_45 : decode cL_holds 45 = .ok (.iload 7, 2) := by decide +kernel
theorem dL_holds_47 : decode cL_holds 47 = .ok (.iload 6, 2) := by decide +kernel
theorem dL_holds_49 : decode cL_holds 49 = .ok (.invokestatic 41, 3) := by decide +kernel
theorem dL_holds_52 : decode cL_holds 52 = .ok (.ifCond .eq 7, 3) := by decide +kernel
theorem dL_holds_55 : decode cL_holds 55 = .ok (.iconst 1, 1) := by decide +kernel
theorem dL_holds_56 : decode cL_holds 56 = .ok (.goto 4, 3) := by decide +kernel
theorem dL_holds_59 : decode cL_holds 59 = .ok (.iconst 0, 1) := by decide +kernel
theorem dL_holds_60 : decode cL_holds 60 = .ok (.istore 9, 2) := by decide +kernel
theorem dL_holds_62 : decode cL_holds 62 = .ok (.iconst 0, 1) := by decide +kernel
theorem dL_holds_63 : decode cL_holds 63 = .ok (.istore 10, 2) := by decide +kernel
theorem dL_holds_65 : decode cL_holds 65 = .ok (.iload 6, 2) := by decide +kernel
theorem dL_holds_67 : decode cL_holds 67 = .ok (.iconst 1, 1) := by decide +kernel
theorem dL_holds_68 : decode cL_holds 68 = .ok (.iadd, 1) := by decide +kernel
theorem dL_holds_69 : decode cL_holds 69 = .ok (.istore 11, 2) := by decide +kernel
theorem dL_holds_71 : decode cL_holds 71 = .ok (.iload 11, 2) := by decide +kernel
theorem dL_holds_73 : decode cL_holds 73 = .ok (.bipush 6, 2) := by decide +kernel
theorem dL_holds_75 : decode cL_holds 75 = .ok (.if_icmp .ge 33, 3) := by decide +kernel
theorem dL_holds_78 : decode cL_holds 78 = .ok (.iload 10, 2) := by decide +kernel
theorem dL_holds_80 : decode cL_holds 80 = .ok (.ifCond .ne 15, 3) := by decide +kernel
theorem dL_holds_83 : decode cL_holds 83 = .ok (.aload_n 0, 1) := by decide +kernel
theorem dL_holds_84 : decode cL_holds 84 = .ok (.iload 11, 2) := by decide +kernel
theorem dL_holds_86 : decode cL_holds 86 = .ok (.iconst 3, 1) := by decide +kernel
theorem dL_holds_87 : decode cL_holds 87 = .ok (.invokevirtual 21, 3) := by decide +kernel
theorem dL_holds_90 : decode cL_holds 90 = .ok (.iload 6, 2) := by decide +kernel
theorem dL_holds_92 : decode cL_holds 92 = .ok (.if_icmp .ne 7, 3) := by decide +kernel
theorem dL_holds_95 : decode cL_holds 95 = .ok (.iconst 1, 1) := by decide +kernel
theorem dL_holds_96 : decode cL_holds 96 = .ok (.goto 4, 3) := by decide +kernel
theorem dL_holds_99 : decode cL_holds 99 = .ok (.iconst 0, 1) := by decide +kernel
theorem dL_holds_100 : decode cL_holds 100 = .ok (.istore 10, 2) := by decide +kernel
theorem dL_holds_102 : decode cL_holds 102 = .ok (.iinc 11 1, 3) := by decide +kernel
theorem dL_holds_105 : decode cL_holds 105 = .ok (.goto (-34), 3) := by decide +kernel
theorem dL_holds_108 : decode cL_holds 108 = .ok (.iload_n 2, 1) := by decide +kernel
theorem dL_holds_109 : decode cL_holds 109 = .ok (.aload_n 0, 1) := by decide +kernel
theorem dL_holds_110 : decode cL_holds 110 = .ok (.iload 6, 2) := by decide +kernel
theorem dL_holds_112 : decode cL_holds 112 = .ok (.iconst 3, 1) := by decide +kernel
theorem dL_holds_113 : decode cL_holds 113 = .ok (.invokevirtual 25, 3) := by decide +kernel
theorem dL_holds_116 : decode cL_holds 116 = .ok (.aload_n 0, 1) := by decide +kernel
theorem dL_holds_117 : decode cL_holds 117 = .ok (.iload 6, 2) := by decide +kernel
theorem dL_holds_119 : decode cL_holds 119 = .ok (.iconst 4, 1) := by decide +kernel
theorem dL_holds_120 : decode cL_holds 120 = .ok (.invokevirtual 21, 3) := by decide +kernel
theorem dL_holds_123 : decode cL_holds 123 = .ok (.iadd, 1) := by decide +kernel
theorem dL_holds_124 : decode cL_holds 124 = .ok (.iadd, 1) := by decide +kernel
theorem dL_holds_125 : decode cL_holds 125 = .ok (.istore_n 2, 1) := by decide +kernel
theorem dL_holds_126 : decode cL_holds 126 = .ok (.iload_n 3, 1) := by decide +kernel
theorem dL_holds_127 : decode cL_holds 127 = .ok (.aload_n 0, 1) := by decide +kernel
theorem dL_holds_128 : decode cL_holds 128 = .ok (.iload 6, 2) := by decide +kernel
theorem dL_holds_130 : decode cL_holds 130 = .ok (.bipush 8, 2) := by decide +kernel
theorem dL_holds_132 : decode cL_holds 132 = .ok (.invokevirtual 21, 3) := by decide +kernel
theorem dL_holds_135 : decode cL_holds 135 = .ok (.iadd, 1) := by decide +kernel
theorem dL_holds_136 : decode cL_holds 136 = .ok (.istore_n 3, 1) := by decide +kernel
theorem dL_holds_137 : decode cL_holds 137 = .ok (.iload 4, 2) := by decide +kernel
theorem dL_holds_139 : decode cL_holds 139 = .ok (.aload_n 0, 1) := by decide +kernel
theorem dL_holds_140 : decode cL_holds 140 = .ok (.iload 6, 2) := by decide +kernel
theorem dL_holds_142 : decode cL_holds 142 = .ok (.bipush 7, 2) := by decide +kernel
theorem dL_holds_144 : decode cL_holds 144 = .ok (.invokevirtual 21, 3) := by decide +kernel
theorem dL_holds_147 : decode cL_holds 147 = .ok (.iadd, 1) := by decide +kernel
