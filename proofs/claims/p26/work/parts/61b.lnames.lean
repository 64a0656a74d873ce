theorem dL_told_119 : decode cL_told 119 = .ok (.lstore_n 1, 1) := by decide +kernel
theorem dL_told_120 : decode cL_told 120 = .ok (.iinc 4 1, 3) := by decide +kernel
theorem dL_told_123 : decode cL_told 123 = .ok (.goto (-24), 3) := by decide +kernel
theorem dL_told_126 : decode cL_told 126 = .ok (.iinc 3 1, 3) := by decide +kernel
theorem dL_told_129 : decode cL_told 129 = .ok (.goto (-70), 3) := by decide +kernel
theorem dL_told_132 : decode cL_told 132 = .ok (.lload_n 1, 1) := by decide +kernel
theorem dL_told_133 : decode cL_told 133 = .ok (.lreturn, 1) := by decide +kernel
set_option maxRecDepth 20000 in
theorem ggL_leads_X3_gutterOf : GoodIn wsL_leads wsX3_gutterOf := goodIn_ca (goodIn_ca (goodIn_r _ [5, 6, 7, 8, 9, 10, 11, 12, 4, 13, 14, 15, 16, 17, 18, 19, 20, 21, 22, 23, 24, 25, 26, 27, 28, 29, 30, 31, 32, 33, 34, 35, 36, 37, 38, 39, 40, 41, 42, 43, 44, 45, 46, 47, 48, 49, 50, 51, 52, 53, 54, 55, 56] rfl (by decide +kernel)) (goodIn_sub (fun _ h => List.mem_cons_of_mem _ (List.mem_append_left _ (List.mem_append_right _ h))) (by decide +kernel))) (goodIn_sub (fun _ h => List.mem_cons_of_mem _ (List.mem_append_right _ h)) (by decide +kernel))
set_option maxRecDepth 20000 in
theorem gL_leads_X3_gutterOf : GoodIn wsL_leads (wsV RL 21 RX3 yX3_gutterOf wsX3_gutterOf) := goodIn_app (goodIn_of _ (by decide +kernel)) ggL_leads_X3_gutterOf
theorem dL_leads_0 : decode cL_leads 0 = .ok (.iload_n 1, 1) := by decide +kernel
theorem dL_leads_1 : decode cL_leads 1 = .ok (.istore_n 3, 1) := by decide +kernel
theorem dL_leads_2 : decode cL_leads 2 = .ok (.iconst 0, 1) := by decide +kernel
theorem dL_leads_3 : decode cL_leads 3 = .ok (.istore 4, 2) := by decide +kernel
theorem dL_leads_5 : decode cL_leads 5 = .ok (.iload 4, 2) := by decide +kernel
theorem dL_leads_7 : decode cL_leads 7 = .ok (.bipush 6, 2) := by decide +kernel
theorem dL_leads_9 : decode cL_leads 9 = .ok (.if_icmp .ge 25, 3) := by decide +kernel
theorem dL_leads_12 : decode cL_leads 12 = .ok (.iload_n 3, 1) := by decide +kernel
theorem dL_leads_13 : decode cL_leads 13 = .ok (.ifCond .lt 21, 3) := by decide +kernel
theorem dL_leads_16 : decode cL_leads 16 = .ok (.iload_n 3, 1) := by decide +kernel
theorem dL_leads_17 : decode cL_leads 17 = .ok (.iload_n 2, 1) := by decide +kernel
theorem dL_leads_18 : decode cL_leads 18 = .ok (.if_icmp .eq 16, 3) := by decide +kernel
theorem dL_leads_21 : decode cL_leads 21 = .ok (.aload_n 0, 1) := by decide +kernel
theorem dL_leads_22 : decode cL_leads 22 = .ok (.iload_n 3, 1) := by decide +kernel
theorem dL_leads_23 : decode cL_leads 23 = .ok (.iconst 3, 1) := by decide +kernel
theorem dL_leads_24 : decode cL_leads 24 = .ok (.invokevirtual 21, 3) := by decide +kernel
theorem dL_leads_27 : decode cL_leads 27 = .ok (.istore_n 3, 1) := by decide +kernel
theorem dL_leads_28 : decode cL_leads 28 = .ok (.iinc 4 1, 3) := by decide +kernel
theorem dL_leads_31 : decode cL_leads 31 = .ok (.goto (-26), 3) := by decide +kernel
theorem dL_leads_34 : decode cL_leads 34 = .ok (.iload_n 3, 1) := by decide +kernel
theorem dL_leads_35 : decode cL_leads 35 = .ok (.iload_n 2, 1) := by decide +kernel
theorem dL_leads_36 : decode cL_leads 36 = .ok (.if_icmp .ne 7, 3) := by decide +kernel
theorem dL_leads_39 : decode cL_leads 39 = .ok (.iconst 1, 1) := by decide +kernel
theorem dL_leads_40 : decode cL_leads 40 = .ok (.goto 4, 3) := by decide +kernel
theorem dL_leads_43 : decode cL_leads 43 = .ok (.iconst 0, 1) := by decide +kernel
theorem dL_leads_44 : decode cL_leads 44 = .ok (.ireturn, 1) := by decide +kernel
set_option maxRecDepth 20000 in
theorem ggL_act_L_low : GoodIn wsL_act wsL_low := goodIn_r _ [4, 5] rfl (by decide +kernel)
set_option maxRecDepth 20000 in
theorem gL_act_L_low : GoodIn wsL_act (va_wsS RL 28 yL_low wsL_low) := goodIn_app (goodIn_of _ (by decide +kernel)) ggL_act_L_low
set_option maxRecDepth 20000 in
theorem ggL_act_X3_plane : GoodIn wsL_act wsX3_plane := goodIn_ca (goodIn_ca (goodIn_r _ [10, 11, 12, 13, 14, 15, 16, 17, 18, 9, 19, 20, 21, 22, 23, 24, 25, 26, 27, 28, 29, 30, 31, 32, 33, 34, 35, 36, 37, 38, 39, 40, 41, 42, 43, 44, 45, 46, 47, 48, 49, 50, 51, 52, 53, 54, 55, 56, 57, 58, 59, 60, 61, 62, 63, 64, 65, 66, 67, 68, 69, 70, 71, 180, 181, 182, 183, 184, 185, 186, 187, 188, 189, 190, 191, 192, 193, 194, 195, 196, 197, 198, 199, 200, 201, 202] rfl (by decide +kernel)) (goodIn_sub (fun _ h => List.mem_cons_of_mem _ (List.mem_append_left _ (List.mem_append_left _ (List.mem_append_right _ h)))) (by decide +kernel))) (goodIn_sub (fun _ h => List.mem_cons_of_mem _ (List.mem_append_left _ (List.mem_append_right _ h))) (by decide +kernel))
set_option maxRecDepth 20000 in
theorem gL_act_X3_plane : GoodIn wsL_act (wsV RL 33 RX3 yX3_plane wsX3_plane) := goodIn_app (goodIn_of _ (by decide +kernel)) ggL_act_X3_plane
set_option maxRecDepth 20000 in
theorem ggL_act_X3_gutter : GoodIn wsL_act wsX3_gutter := goodIn_ca (goodIn_ca (goodIn_r _ [75, 11, 12, 13, 14, 15, 16, 20, 21, 9, 22, 23, 24, 25, 26, 27, 28, 29, 30, 31, 32, 33, 34, 35, 36, 37, 38, 39, 40, 41, 42, 43, 44, 45, 46, 47, 48, 49, 50, 51, 52, 53, 54, 55, 56, 57, 58, 59, 60, 61, 62, 63, 64, 65, 66, 67, 76, 77, 78, 79, 180, 181, 182, 183, 184, 185, 186, 187, 188, 189, 190, 191, 192, 193, 194, 195, 196, 197, 198, 199, 200, 201, 202] rfl (by decide +kernel)) (goodIn_sub (fun _ h => List.mem_cons_of_mem _ (List.mem_append_left _ (List.mem_append_left _ (List.mem_append_right _ h)))) (by decide +kernel))) (goodIn_sub (fun _ h => List.mem_cons_of_mem _ (List.mem_append_left _ (List.mem_append_right _ h))) (by decide +kernel))
set_option maxRecDepth 20000 in
theorem gL_act_X3_gutter : GoodIn wsL_act (wsV RL 37 RX3 yX3_gutter wsX3_gutter) := goodIn_app (goodIn_of _ (by decide +kernel)) ggL_act_X3_gutter
set_option maxRecDepth 20000 in
theorem ggL_act_L_leads : GoodIn wsL_act wsL_leads := goodIn_ca (goodIn_ca (goodIn_r _ [82, 83, 84, 85, 9, 86, 11, 12, 13, 14, 16, 20, 21, 22, 23, 24, 25, 87, 88, 89, 36, 90, 48, 49, 50, 51, 52, 53, 54, 91, 92, 93, 94, 95, 96, 97, 98, 180, 181, 182, 183, 187, 188, 189, 190, 191, 192, 193, 194, 195, 196, 197, 198, 199, 200, 201, 202] rfl (by decide +kernel)) (goodIn_sub (fun _ h => List.mem_cons_of_mem _ (List.mem_append_left _ (List.mem_append_left _ (List.mem_append_right _ h)))) (by decide +kernel))) (goodIn_sub (fun _ h => List.mem_cons_of_mem _ (List.mem_append_left _ (List.mem_append_right _ h))) (by decide +kernel))
set_option maxRecDepth 20000 in
theorem gL_act_L_leads : GoodIn wsL_act (va_wsS RL 41 yL_leads wsL_leads) := goodIn_app (goodIn_of _ (by decide +kernel)) ggL_act_L_leads
set_option maxRecDepth 20000 in
theorem ggL_act_X3_valley : GoodIn wsL_act wsX3_valley := goodIn_ca (goodIn_ca (goodIn_ca (goodIn_r _ [102, 11, 12, 13, 14, 103, 104, 16, 15, 20, 21, 9, 22, 105, 106, 107, 36, 108, 51, 26, 27, 28, 29, 30, 31, 32, 33, 34, 35, 37, 38, 39, 40, 41, 42, 43, 44, 45, 46, 47, 48, 49, 50, 52, 53, 54, 55, 56, 57, 58, 59, 60, 61, 62, 63, 64, 65, 66, 67, 109, 110, 111, 112, 180, 181, 182, 183, 187, 188, 189, 190, 191, 192, 193, 194, 195, 196, 197, 198, 199, 200, 201, 202, 184, 185, 186] rfl (by decide +kernel)) (goodIn_sub (fun _ h => List.mem_cons_of_mem _ (List.mem_append_left _ (List.mem_append_left _ (List.mem_append_right _ h)))) (by decide +kernel))) (goodIn_sub (fun _ h => List.mem_cons_of_mem _ (List.mem_append_left _ (List.mem_append_right _ h))) (by decide +kernel))) (goodIn_sub (fun _ h => List.mem_cons_of_mem _ (List.mem_append_right _ h)) (by decide +kernel))
set_option maxRecDepth 20000 in
theorem gL_act_X3_valley : GoodIn wsL_act (wsV RL 45 RX3 yX3_valley wsX3_valley) := goodIn_app (goodIn_of _ (by decide +kernel)) ggL_act_X3_valley
set_option maxRecDepth 20000 in
theorem ggL_act_X3_clean : GoodIn wsL_act wsX3_clean := goodIn_ca (goodIn_r _ [116, 11, 12, 15, 16, 20, 21, 9, 22, 26, 27, 28, 29, 30, 31, 32, 33, 34, 35, 36, 37, 38, 39, 40, 41, 42, 43, 44, 45, 46, 47, 48, 49, 50, 51, 52, 53, 54, 55, 56, 57, 58, 59, 60, 61, 62, 63, 64, 65, 66, 67, 117, 118, 119, 120, 180, 181, 182, 183, 184, 185, 186, 187, 188, 189, 190, 191, 192, 193, 194, 195, 196, 197, 198, 199, 200, 201, 202] rfl (by decide +kernel)) (goodIn_sub (fun _ h => List.mem_cons_of_mem _ (List.mem_append_left _ (List.mem_append_left _ (List.mem_append_right _ h)))) (by decide +kernel))
set_option maxRecDepth 20000 in
theorem gL_act_X3_clean : GoodIn wsL_act (wsV RL 48 RX3 yX3_clean wsX3_clean) := goodIn_app (goodIn_of _ (by decide +kernel)) ggL_act_X3_clean
set_option maxRecDepth 20000 in
theorem ggL_act_X3_set : GoodIn wsL_act wsX3_set := goodIn_ca (goodIn_ca (goodIn_r _ [124, 11, 12, 13, 14, 125, 15, 16, 126, 127, 9, 128, 23, 24, 25, 26, 27, 28, 29, 30, 31, 32, 33, 34, 35, 36, 37, 38, 39, 40, 41, 42, 43, 44, 45, 46, 47, 48, 49, 50, 51, 52, 53, 54, 55, 56, 57, 58, 59, 60, 61, 62, 63, 64, 65, 66, 67, 129, 130, 131, 132, 180, 181, 182, 183, 184, 185, 186, 187, 188, 189, 190, 191, 192, 193, 194, 195, 196, 197, 198, 199, 200, 201, 202] rfl (by decide +kernel)) (goodIn_sub (fun _ h => List.mem_cons_of_mem _ (List.mem_append_left _ (List.mem_append_left _ (List.mem_append_right _ h)))) (by decide +kernel))) (goodIn_sub (fun _ h => List.mem_cons_of_mem _ (List.mem_append_left _ (List.mem_append_right _ h))) (by decide +kernel))
set_option maxRecDepth 20000 in
theorem gL_act_X3_set : GoodIn wsL_act (wsV RL 51 RX3 yX3_set wsX3_set) := goodIn_app (goodIn_of _ (by decide +kernel)) ggL_act_X3_set
set_option maxRecDepth 20000 in
theorem ggL_act_X3_weeks : GoodIn wsL_act wsX3_weeks := goodIn_ca (goodIn_r _ [136, 13, 14, 15, 16, 23, 24, 9, 25, 26, 27, 28, 29, 30, 31, 32, 33, 34, 35, 36, 37, 38, 39, 40, 41, 42, 43, 44, 45, 46, 47, 48, 49, 50, 51, 52, 53, 54, 55, 56, 57, 58, 59, 60, 61, 62, 63, 64, 65, 66, 67, 137, 138, 139, 140, 141, 142, 143, 144, 145, 146, 147, 148, 149, 150, 151, 180, 181, 182, 183, 184, 185, 186, 187, 188, 189, 190, 191, 192, 193, 194, 195, 196, 197, 198, 199, 200, 201, 202] rfl (by decide +kernel)) (goodIn_sub (fun _ h => List.mem_cons_of_mem _ (List.mem_append_left _ (List.mem_append_right _ h))) (by decide +kernel))
set_option maxRecDepth 20000 in
theorem gL_act_X3_weeks : GoodIn wsL_act (wsV RL 54 RX3 yX3_weeks wsX3_weeks) := goodIn_app (goodIn_of _ (by decide +kernel)) ggL_act_X3_weeks
set_option maxRecDepth 20000 in
theorem ggL_act_X3_rain : GoodIn wsL_act wsX3_rain := goodIn_ca (goodIn_r _ [155, 13, 14, 15, 16, 23, 24, 9, 25, 26, 27, 28, 29, 30, 31, 32, 33, 34, 35, 36, 37, 38, 39, 40, 41, 42, 43, 44, 45, 46, 47, 48, 49, 50, 51, 52, 53, 54, 55, 56, 57, 58, 59, 60, 61, 62, 63, 64, 65, 66, 67, 156, 157, 158, 159, 149, 150, 151, 160, 161, 162, 163, 164, 165, 166, 167, 168, 169, 170, 171, 21, 22, 172, 173, 174, 175, 141, 142, 143, 144, 95, 96, 97, 98, 176, 177, 178, 179, 91, 92, 93, 94, 180, 181, 182, 183, 184, 185, 186, 187, 188, 189, 190, 191, 192, 193, 194, 195, 196, 197, 198, 199, 200, 201, 202] rfl (by decide +kernel)) (goodIn_sub (fun _ h => List.mem_cons_of_mem _ (List.mem_append_left _ (List.mem_append_right _ h))) (by decide +kernel))
set_option maxRecDepth 20000 in
theorem gL_act_X3_rain : GoodIn wsL_act (wsV RL 57 RX3 yX3_rain wsX3_rain) := goodIn_app (goodIn_of _ (by decide +kernel)) ggL_act_X3_rain
theorem dL_act_0 : decode cL_act 0 = .ok (.iload_n 1, 1) := by decide +kernel
theorem dL_act_1 : decode cL_act 1 = .ok (.iconst 4, 1) := by decide +kernel
theorem dL_act_2 : decode cL_act 2 = .ok (.ishr, 1) := by decide +kernel
theorem dL_act_3 : decode cL_act 3 = .ok (.bipush 6, 2) := by decide +kernel
theorem dL_act_5 : decode cL_act 5 = .ok (.invokestatic 28, 3) := by decide +kernel
theorem dL_act_8 : decode cL_act 8 = .ok (.istore_n 3, 1) := by decide +kernel
theorem dL_act_9 : decode cL_act 9 = .ok (.iload_n 1, 1) := by decide +kernel
theorem dL_act_10 : decode cL_act 10 = .ok (.bipush 15, 2) := by decide +kernel
theorem dL_act_12 : decode cL_act 12 = .ok (.iand, 1) := by decide +kernel
theorem dL_act_13 : decode cL_act 13 = .ok (.tableswitch 257 0 9 #[55, 55, 86, 86, 124, 124, 168, 174, 244, 244], 55) := by decide +kernel
theorem dL_act_68 : decode cL_act 68 = .ok (.aload_n 0, 1) := by decide +kernel
theorem dL_act_69 : decode cL_act 69 = .ok (.iload_n 3, 1) := by decide +kernel
theorem dL_act_70 : decode cL_act 70 = .ok (.iload_n 2, 1) := by decide +kernel
theorem dL_act_71 : decode cL_act 71 = .ok (.sipush 201, 3) := by decide +kernel
theorem dL_act_74 : decode cL_act 74 = .ok (.invokestatic 28, 3) := by decide +kernel
theorem dL_act_77 : decode cL_act 77 = .ok (.iload_n 2, 1) := by decide +kernel
theorem dL_act_78 : decode cL_act 78 = .ok (.bipush 8, 2) := by decide +kernel
theorem dL_act_80 : decode cL_act 80 = .ok (.ishr, 1) := by decide +kernel
theorem dL_act_81 : decode cL_act 81 = .ok (.bipush 10, 2) := by decide +kernel
theorem dL_act_83 : decode cL_act 83 = .ok (.invokestatic 28, 3) := by decide +kernel
theorem dL_act_86 : decode cL_act 86 = .ok (.iload_n 2, 1) := by decide +kernel
theorem dL_act_87 : decode cL_act 87 = .ok (.bipush 12, 2) := by decide +kernel
theorem dL_act_89 : decode cL_act 89 = .ok (.ishr, 1) := by decide +kernel
theorem dL_act_90 : decode cL_act 90 = .ok (.bipush 6, 2) := by decide +kernel
theorem dL_act_92 : decode cL_act 92 = .ok (.invokestatic 28, 3) := by decide +kernel
theorem dL_act_95 : decode cL_act 95 = .ok (.invokevirtual 33, 3) := by decide +kernel
theorem dL_act_98 : decode cL_act 98 = .ok (.ireturn, 1) := by decide +kernel
theorem dL_act_99 : decode cL_act 99 = .ok (.aload_n 0, 1) := by decide +kernel
theorem dL_act_100 : decode cL_act 100 = .ok (.iload_n 3, 1) := by decide +kernel
theorem dL_act_101 : decode cL_act 101 = .ok (.iconst 1, 1) := by decide +kernel
theorem dL_act_102 : decode cL_act 102 = .ok (.iload_n 2, 1) := by decide +kernel
theorem dL_act_103 : decode cL_act 103 = .ok (.iload_n 2, 1) := by decide +kernel
theorem dL_act_104 : decode cL_act 104 = .ok (.bipush 24, 2) := by decide +kernel
theorem dL_act_106 : decode cL_act 106 = .ok (.ishr, 1) := by decide +kernel
theorem dL_act_107 : decode cL_act 107 = .ok (.iconst 1, 1) := by decide +kernel
theorem dL_act_108 : decode cL_act 108 = .ok (.iand, 1) := by decide +kernel
theorem dL_act_109 : decode cL_act 109 = .ok (.ifCond .ne 8, 3) := by decide +kernel
