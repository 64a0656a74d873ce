theorem dJ9_min_7cf53_9 : decode cJ9_min_7cf53 9 = .ok (.iload_n 1, 1) := by decide +kernel
theorem dJ9_min_7cf53_10 : decode cJ9_min_7cf53 10 = .ok (.ireturn, 1) := by decide +kernel
set_option maxRecDepth 20000 in
theorem ggL_plane_X3_plane : GoodIn wsL_plane wsX3_plane := goodIn_ca (goodIn_ca (goodIn_r _ [7, 8, 9, 10, 11, 12, 13, 14, 15, 6, 16, 17, 18, 19, 20, 21, 22, 23, 24, 25, 26, 27, 28, 29, 30, 31, 32, 33, 34, 35, 36, 37, 38, 39, 40, 41, 42, 43, 44, 45, 46, 47, 48, 49, 50, 51, 52, 53, 54, 55, 56, 57, 58, 59, 60, 61, 62, 63, 64, 65, 66, 67, 68, 69, 70, 71, 72, 73, 74, 75, 76, 77, 78, 79, 80, 81, 82, 83, 84, 85, 86, 87, 88, 89, 90, 91] (by decide +kernel) (by decide +kernel)) (goodIn_sub (fun _ h => List.mem_cons_of_mem _ (List.mem_append_left _ (List.mem_append_right _ h))) (by decide +kernel))) (goodIn_sub (fun _ h => List.mem_cons_of_mem _ (List.mem_append_right _ h)) (by decide +kernel))
set_option maxRecDepth 20000 in
theorem gL_plane_X3_plane : GoodIn wsL_plane (wsV RL 7 RX3 yX3_plane wsX3_plane) := goodIn_app (goodIn_of _ (by decide +kernel)) ggL_plane_X3_plane
theorem dL_plane_0 : decode cL_plane 0 = .ok (.aload 5, 2) := by decide +kernel
theorem dL_plane_2 : decode cL_plane 2 = .ok (.iconst 0, 1) := by decide +kernel
theorem dL_plane_3 : decode cL_plane 3 = .ok (.aload_n 0, 1) := by decide +kernel
theorem dL_plane_4 : decode cL_plane 4 = .ok (.iload_n 1, 1) := by decide +kernel
theorem dL_plane_5 : decode cL_plane 5 = .ok (.iload_n 2, 1) := by decide +kernel
theorem dL_plane_6 : decode cL_plane 6 = .ok (.iload_n 3, 1) := by decide +kernel
theorem dL_plane_7 : decode cL_plane 7 = .ok (.iload 4, 2) := by decide +kernel
theorem dL_plane_9 : decode cL_plane 9 = .ok (.invokevirtual 7, 3) := by decide +kernel
theorem dL_plane_12 : decode cL_plane 12 = .ok (.i2l, 1) := by decide +kernel
theorem dL_plane_13 : decode cL_plane 13 = .ok (.lastore, 1) := by decide +kernel
theorem dL_plane_14 : decode cL_plane 14 = .ok (.goto 11, 3) := by decide +kernel
theorem dL_plane_17 : decode cL_plane 17 = .ok (.astore 6, 2) := by decide +kernel
theorem dL_plane_19 : decode cL_plane 19 = .ok (.iconst 1, 1) := by decide +kernel
theorem dL_plane_20 : decode cL_plane 20 = .ok (.ireturn, 1) := by decide +kernel
theorem dL_plane_21 : decode cL_plane 21 = .ok (.astore 6, 2) := by decide +kernel
theorem dL_plane_23 : decode cL_plane 23 = .ok (.iconst 2, 1) := by decide +kernel
theorem dL_plane_24 : decode cL_plane 24 = .ok (.ireturn, 1) := by decide +kernel
theorem dL_plane_25 : decode cL_plane 25 = .ok (.iconst 0, 1) := by decide +kernel
theorem dL_plane_26 : decode cL_plane 26 = .ok (.ireturn, 1) := by decide +kernel
set_option maxRecDepth 20000 in
theorem ggL_gutter_X3_gutter : GoodIn wsL_gutter wsX3_gutter := goodIn_ca (goodIn_ca (goodIn_r _ [7, 8, 9, 10, 11, 12, 13, 14, 15, 6, 16, 17, 18, 19, 20, 21, 22, 23, 24, 25, 26, 27, 28, 29, 30, 31, 32, 33, 34, 35, 36, 37, 38, 39, 40, 41, 42, 43, 44, 45, 46, 47, 48, 49, 50, 51, 52, 53, 54, 55, 56, 57, 58, 59, 60, 61, 62, 63, 64, 65, 66, 67, 68, 69, 70, 71, 72, 73, 74, 75, 76, 77, 78, 79, 80, 81, 82, 83, 84, 85, 86, 87, 88] (by decide +kernel) (by decide +kernel)) (goodIn_sub (fun _ h => List.mem_cons_of_mem _ (List.mem_append_left _ (List.mem_append_right _ h))) (by decide +kernel))) (goodIn_sub (fun _ h => List.mem_cons_of_mem _ (List.mem_append_right _ h)) (by decide +kernel))
set_option maxRecDepth 20000 in
theorem gL_gutter_X3_gutter : GoodIn wsL_gutter (wsV RL 17 RX3 yX3_gutter wsX3_gutter) := goodIn_app (goodIn_of _ (by decide +kernel)) ggL_gutter_X3_gutter
theorem dL_gutter_0 : decode cL_gutter 0 = .ok (.aload 4, 2) := by decide +kernel
theorem dL_gutter_2 : decode cL_gutter 2 = .ok (.iconst 0, 1) := by decide +kernel
theorem dL_gutter_3 : decode cL_gutter 3 = .ok (.aload_n 0, 1) := by decide +kernel
theorem dL_gutter_4 : decode cL_gutter 4 = .ok (.iload_n 1, 1) := by decide +kernel
theorem dL_gutter_5 : decode cL_gutter 5 = .ok (.iload_n 2, 1) := by decide +kernel
theorem dL_gutter_6 : decode cL_gutter 6 = .ok (.iload_n 3, 1) := by decide +kernel
theorem dL_gutter_7 : decode cL_gutter 7 = .ok (.invokevirtual 17, 3) := by decide +kernel
theorem dL_gutter_10 : decode cL_gutter 10 = .ok (.i2l, 1) := by decide +kernel
theorem dL_gutter_11 : decode cL_gutter 11 = .ok (.lastore, 1) := by decide +kernel
theorem dL_gutter_12 : decode cL_gutter 12 = .ok (.goto 11, 3) := by decide +kernel
theorem dL_gutter_15 : decode cL_gutter 15 = .ok (.astore 5, 2) := by decide +kernel
theorem dL_gutter_17 : decode cL_gutter 17 = .ok (.iconst 1, 1) := by decide +kernel
theorem dL_gutter_18 : decode cL_gutter 18 = .ok (.ireturn, 1) := by decide +kernel
theorem dL_gutter_19 : decode cL_gutter 19 = .ok (.astore 5, 2) := by decide +kernel
theorem dL_gutter_21 : decode cL_gutter 21 = .ok (.iconst 2, 1) := by decide +kernel
theorem dL_gutter_22 : decode cL_gutter 22 = .ok (.ireturn, 1) := by decide +kernel
theorem dL_gutter_23 : decode cL_gutter 23 = .ok (.iconst 0, 1) := by decide +kernel
theorem dL_gutter_24 : decode cL_gutter 24 = .ok (.ireturn, 1) := by decide +kernel
set_option maxRecDepth 20000 in
theorem ggL_valley_X3_valley : GoodIn wsL_valley wsX3_valley := goodIn_ca (goodIn_ca (goodIn_ca (goodIn_r _ [8, 9, 10, 11, 12, 13, 14, 15, 16, 17, 18, 7, 19, 20, 21, 22, 23, 24, 25, 26, 27, 28, 29, 30, 31, 32, 33, 34, 35, 36, 37, 38, 39, 40, 41, 42, 43, 44, 45, 46, 47, 48, 49, 50, 51, 52, 53, 54, 55, 56, 57, 58, 59, 60, 61, 62, 63, 64, 65, 66, 67, 68, 69, 70, 71, 72, 73, 74, 75, 76, 77, 78, 79, 80, 81, 82, 83, 84, 85, 86, 87, 88, 89, 90, 91, 92] (by decide +kernel) (by decide +kernel)) (goodIn_sub (fun _ h => List.mem_cons_of_mem _ (List.mem_append_left _ (List.mem_append_left _ (List.mem_append_right _ h)))) (by decide +kernel))) (goodIn_sub (fun _ h => List.mem_cons_of_mem _ (List.mem_append_left _ (List.mem_append_right _ h))) (by decide +kernel))) (goodIn_sub (fun _ h => List.mem_cons_of_mem _ (List.mem_append_right _ h)) (by decide +kernel))
set_option maxRecDepth 20000 in
theorem gL_valley_X3_valley : GoodIn wsL_valley (wsV RL 21 RX3 yX3_valley wsX3_valley) := goodIn_app (goodIn_of _ (by decide +kernel)) ggL_valley_X3_valley
theorem dL_valley_0 : decode cL_valley 0 = .ok (.aload_n 3, 1) := by decide +kernel
theorem dL_valley_1 : decode cL_valley 1 = .ok (.iconst 0, 1) := by decide +kernel
theorem dL_valley_2 : decode cL_valley 2 = .ok (.aload_n 0, 1) := by decide +kernel
theorem dL_valley_3 : decode cL_valley 3 = .ok (.iload_n 1, 1) := by decide +kernel
theorem dL_valley_4 : decode cL_valley 4 = .ok (.iload_n 2, 1) := by decide +kernel
theorem dL_valley_5 : decode cL_valley 5 = .ok (.invokevirtual 21, 3) := by decide +kernel
theorem dL_valley_8 : decode cL_valley 8 = .ok (.i2l, 1) := by decide +kernel
theorem dL_valley_9 : decode cL_valley 9 = .ok (.lastore, 1) := by decide +kernel
theorem dL_valley_10 : decode cL_valley 10 = .ok (.goto 15, 3) := by decide +kernel
theorem dL_valley_13 : decode cL_valley 13 = .ok (.astore 4, 2) := by decide +kernel
theorem dL_valley_15 : decode cL_valley 15 = .ok (.iconst 1, 1) := by decide +kernel
theorem dL_valley_16 : decode cL_valley 16 = .ok (.ireturn, 1) := by decide +kernel
theorem dL_valley_17 : decode cL_valley 17 = .ok (.astore 4, 2) := by decide +kernel
theorem dL_valley_19 : decode cL_valley 19 = .ok (.iconst 2, 1) := by decide +kernel
theorem dL_valley_20 : decode cL_valley 20 = .ok (.ireturn, 1) := by decide +kernel
theorem dL_valley_21 : decode cL_valley 21 = .ok (.astore 4, 2) := by decide +kernel
theorem dL_valley_23 : decode cL_valley 23 = .ok (.iconst 3, 1) := by decide +kernel
theorem dL_valley_24 : decode cL_valley 24 = .ok (.ireturn, 1) := by decide +kernel
theorem dL_valley_25 : decode cL_valley 25 = .ok (.iconst 0, 1) := by decide +kernel
theorem dL_valley_26 : decode cL_valley 26 = .ok (.ireturn, 1) := by decide +kernel
set_option maxRecDepth 20000 in
theorem ggL_clean_X3_clean : GoodIn wsL_clean wsX3_clean := goodIn_ca (goodIn_r _ [6, 7, 8, 9, 10, 11, 12, 5, 13, 14, 15, 16, 17, 18, 19, 20, 21, 22, 23, 24, 25, 26, 27, 28, 29, 30, 31, 32, 33, 34, 35, 36, 37, 38, 39, 40, 41, 42, 43, 44, 45, 46, 47, 48, 49, 50, 51, 52, 53, 54, 55, 56, 57, 58, 59, 60, 61, 62, 63, 64, 65, 66, 67, 68, 69, 70, 71, 72, 73, 74, 75, 76, 77, 78, 79, 80, 81, 82] (by decide +kernel) (by decide +kernel)) (goodIn_sub (fun _ h => List.mem_cons_of_mem _ (List.mem_append_right _ h)) (by decide +kernel))
set_option maxRecDepth 20000 in
theorem gL_clean_X3_clean : GoodIn wsL_clean (wsV RL 27 RX3 yX3_clean wsX3_clean) := goodIn_app (goodIn_of _ (by decide +kernel)) ggL_clean_X3_clean
theorem dL_clean_0 : decode cL_clean 0 = .ok (.aload_n 2, 1) := by decide +kernel
theorem dL_clean_1 : decode cL_clean 1 = .ok (.iconst 0, 1) := by decide +kernel
theorem dL_clean_2 : decode cL_clean 2 = .ok (.aload_n 0, 1) := by decide +kernel
theorem dL_clean_3 : decode cL_clean 3 = .ok (.iload_n 1, 1) := by decide +kernel
theorem dL_clean_4 : decode cL_clean 4 = .ok (.invokevirtual 27, 3) := by decide +kernel
theorem dL_clean_7 : decode cL_clean 7 = .ok (.i2l, 1) := by decide +kernel
theorem dL_clean_8 : decode cL_clean 8 = .ok (.lastore, 1) := by decide +kernel
theorem dL_clean_9 : decode cL_clean 9 = .ok (.goto 6, 3) := by decide +kernel
theorem dL_clean_12 : decode cL_clean 12 = .ok (.astore_n 3, 1) := by decide +kernel
theorem dL_clean_13 : decode cL_clean 13 = .ok (.iconst 1, 1) := by decide +kernel
theorem dL_clean_14 : decode cL_clean 14 = .ok (.ireturn, 1) := by decide +kernel
theorem dL_clean_15 : decode cL_clean 15 = .ok (.iconst 0, 1) := by decide +kernel
theorem dL_clean_16 : decode cL_clean 16 = .ok (.ireturn, 1) := by decide +kernel
set_option maxRecDepth 20000 in
theorem ggL_set_X3_set : GoodIn wsL_set wsX3_set := goodIn_ca (goodIn_ca (goodIn_r _ [7, 8, 9, 10, 11, 12, 13, 14, 15, 16, 6, 17, 18, 19, 20, 21, 22, 23, 24, 25, 26, 27, 28, 29, 30, 31, 32, 33, 34, 35, 36, 37, 38, 39, 40, 41, 42, 43, 44, 45, 46, 47, 48, 49, 50, 51, 52, 53, 54, 55, 56, 57, 58, 59, 60, 61, 62, 63, 64, 65, 66, 67, 68, 69, 70, 71, 72, 73, 74, 75, 76, 77, 78, 79, 80, 81, 82, 83, 84, 85, 86, 87, 88, 89] (by decide +kernel) (by decide +kernel)) (goodIn_sub (fun _ h => List.mem_cons_of_mem _ (List.mem_append_left _ (List.mem_append_right _ h))) (by decide +kernel))) (goodIn_sub (fun _ h => List.mem_cons_of_mem _ (List.mem_append_right _ h)) (by decide +kernel))
set_option maxRecDepth 20000 in
theorem gL_set_X3_set : GoodIn wsL_set (wsV RL 31 RX3 yX3_set wsX3_set) := goodIn_app (goodIn_of _ (by decide +kernel)) ggL_set_X3_set
theorem dL_set_0 : decode cL_set 0 = .ok (.aload_n 3, 1) := by decide +kernel
theorem dL_set_1 : decode cL_set 1 = .ok (.iconst 0, 1) := by decide +kernel
theorem dL_set_2 : decode cL_set 2 = .ok (.aload_n 0, 1) := by decide +kernel
theorem dL_set_3 : decode cL_set 3 = .ok (.iload_n 1, 1) := by decide +kernel
theorem dL_set_4 : decode cL_set 4 = .ok (.iload_n 2, 1) := by decide +kernel
theorem dL_set_5 : decode cL_set 5 = .ok (.invokevirtual 31, 3) := by decide +kernel
theorem dL_set_8 : decode cL_set 8 = .ok (.i2l, 1) := by decide +kernel
theorem dL_set_9 : decode cL_set 9 = .ok (.lastore, 1) := by decide +kernel
theorem dL_set_10 : decode cL_set 10 = .ok (.goto 11, 3) := by decide +kernel
theorem dL_set_13 : decode cL_set 13 = .ok (.astore 4, 2) := by decide +kernel
theorem dL_set_15 : decode cL_set 15 = .ok (.iconst 1, 1) := by decide +kernel
theorem dL_set_16 : decode cL_set 16 = .ok (.ireturn, 1) := by decide +kernel
theorem dL_set_17 : decode cL_set 17 = .ok (.astore 4, 2) := by decide +kernel
theorem dL_set_19 : decode cL_set 19 = .ok (.iconst 2, 1) := by decide +kernel
theorem dL_set_20 : decode cL_set 20 = .ok (.ireturn, 1) := by decide +kernel
theorem dL_set_21 : decode cL_set 21 = .ok (.iconst 0, 1) := by decide +kernel
theorem dL_set_22 : decode cL_set 22 = .ok (.ireturn, 1) := by decide +kernel
set_option maxRecDepth 20000 in
theorem ggL_rain_X3_rain : GoodIn wsL_rain wsX3_rain := goodIn_ca (goodIn_r _ [6, 7, 8, 9, 10, 11, 12, 5, 13, 14, 15, 16, 17, 18, 19, 20, 21, 22, 23, 24, 25, 26, 27, 28, 29, 30, 31, 32, 33, 34, 35, 36, 37, 38, 39, 40, 41, 42, 43, 44, 45, 46, 47, 48, 49, 50, 51, 52, 53, 54, 55, 56, 57, 58, 59, 60, 61, 62, 63, 64, 65, 66, 67, 68, 69, 70, 71, 72, 73, 74, 75, 76, 77, 78, 79, 80, 81, 82, 83, 84, 85, 86, 87, 88, 89, 90, 91, 92, 93, 94, 95, 96, 97, 98, 99, 100, 101, 102, 103, 104, 105, 106, 107, 108, 109, 110, 111, 112, 113, 114, 115, 116, 117, 118, 119] (by decide +kernel) (by decide +kernel)) (goodIn_sub (fun _ h => List.mem_cons_of_mem _ (List.mem_append_right _ h)) (by decide +kernel))
set_option maxRecDepth 20000 in
theorem gL_rain_X3_rain : GoodIn wsL_rain (wsV RL 34 RX3 yX3_rain wsX3_rain) := goodIn_app (goodIn_of _ (by decide +kernel)) ggL_rain_X3_rain
theorem dL_rain_0 : decode cL_rain 0 = .ok (.aload_n 3, 1) := by decide +kernel
theorem dL_rain_1 : decode cL_rain 1 = .ok (.iconst 0, 1) := by decide +kernel
theorem dL_rain_2 : decode cL_rain 2 = .ok (.aload_n 0, 1) := by decide +kernel
theorem dL_rain_3 : decode cL_rain 3 = .ok (.iload_n 1, 1) := by decide +kernel
theorem dL_rain_4 : decode cL_rain 4 = .ok (.iload_n 2, 1) := by decide +kernel
theorem dL_rain_5 : decode cL_rain 5 = .ok (.invokevirtual 34, 3) := by decide +kernel
theorem dL_rain_8 : decode cL_rain 8 = .ok (.i2l, 1) := by decide +kernel
theorem dL_rain_9 : decode cL_rain 9 = .ok (.lastore, 1) := by decide +kernel
theorem dL_rain_10 : decode cL_rain 10 = .ok (.goto 7, 3) := by decide +kernel
theorem dL_rain_13 : decode cL_rain 13 = .ok (.astore 4, 2) := by decide +kernel
theorem dL_rain_15 : decode cL_rain 15 = .ok (.iconst 1, 1) := by decide +kernel
theorem dL_rain_16 : decode cL_rain 16 = .ok (.ireturn, 1) := by decide +kernel
theorem dL_rain_17 : decode cL_rain 17 = .ok (.iconst 0, 1) := by decide +kernel
theorem dL_rain_18 : decode cL_rain 18 = .ok (.ireturn, 1) := by decide +kernel
set_option maxRecDepth 20000 in
theorem ggL_weeks_X3_weeks : GoodIn wsL_weeks wsX3_weeks := goodIn_ca (goodIn_r _ [6, 7, 8, 9, 10, 11, 12, 5, 13, 14, 15, 16, 17, 18, 19, 20, 21, 22, 23, 24, 25, 26, 27, 28, 29, 30, 31, 32, 33, 34, 35, 36, 37, 38, 39, 40, 41, 42, 43, 44, 45, 46, 47, 48, 49, 50, 51, 52, 53, 54, 55, 56, 57, 58, 59, 60, 61, 62, 63, 64, 65, 66, 67, 68, 69, 70, 71, 72, 73, 74, 75, 76, 77, 78, 79, 80, 81, 82, 83, 84, 85, 86, 87, 88, 89, 90, 91, 92, 93] (by decide +kernel) (by decide +kernel)) (goodIn_sub (fun _ h => List.mem_cons_of_mem _ (List.mem_append_right _ h)) (by decide +kernel))
set_option maxRecDepth 20000 in
theorem gL_weeks_X3_weeks : GoodIn wsL_weeks (wsV RL 37 RX3 yX3_weeks wsX3_weeks) := goodIn_app (goodIn_of _ (by decide +kernel)) ggL_weeks_X3_weeks
theorem dL_weeks_0 : decode cL_weeks 0 = .ok (.aload_n 2, 1) := by decide +kernel
theorem dL_weeks_1 : decode cL_weeks 1 = .ok (.iconst 0, 1) := by decide +kernel
theorem dL_weeks_2 : decode cL_weeks 2 = .ok (.aload_n 0, 1) := by decide +kernel
theorem dL_weeks_3 : decode cL_weeks 3 = .ok (.iload_n 1, 1) := by decide +kernel
theorem dL_weeks_4 : decode cL_weeks 4 = .ok (.invokevirtual 37, 3) := by decide +kernel
theorem dL_weeks_7 : decode cL_weeks 7 = .ok (.i2l, 1) := by decide +kernel
theorem dL_weeks_8 : decode cL_weeks 8 = .ok (.lastore, 1) := by decide +kernel
theorem dL_weeks_9 : decode cL_weeks 9 = .ok (.goto 6, 3) := by decide +kernel
theorem dL_weeks_12 : decode cL_weeks 12 = .ok (.astore_n 3, 1) := by decide +kernel
theorem dL_weeks_13 : decode cL_weeks 13 = .ok (.iconst 1, 1) := by decide +kernel
theorem dL_weeks_14 : decode cL_weeks 14 = .ok (.ireturn, 1) := by decide +kernel
theorem dL_weeks_15 : decode cL_weeks 15 = .ok (.iconst 0, 1) := by decide +kernel
theorem dL_weeks_16 : decode cL_weeks 16 = .ok (.ireturn, 1) := by decide +kernel
set_option maxRecDepth 20000 in
theorem ggL_append_X3_append : GoodIn wsL_append wsX3_append := goodIn_ca (goodIn_ca (goodIn_r _ [7, 8, 9, 10, 11, 12, 13, 14, 6, 15, 16, 17, 18, 19, 20, 21, 22, 23, 24, 25, 26, 27, 28, 29, 30, 31, 32, 33, 34, 35, 36] (by decide +kernel) (by decide +kernel)) (goodIn_sub (fun _ h => List.mem_cons_of_mem _ (List.mem_append_left _ (List.mem_append_right _ h))) (by decide +kernel))) (goodIn_sub (fun _ h => List.mem_cons_of_mem _ (List.mem_append_right _ h)) (by decide +kernel))
set_option maxRecDepth 20000 in
theorem gL_append_X3_append : GoodIn wsL_append (wsV RL 40 RX3 yX3_append wsX3_append) := goodIn_app (goodIn_of _ (by decide +kernel)) ggL_append_X3_append
theorem dL_append_0 : decode cL_append 0 = .ok (.aload_n 2, 1) := by decide +kernel
theorem dL_append_1 : decode cL_append 1 = .ok (.iconst 0, 1) := by decide +kernel
theorem dL_append_2 : decode cL_append 2 = .ok (.aload_n 0, 1) := by decide +kernel
theorem dL_append_3 : decode cL_append 3 = .ok (.iload_n 1, 1) := by decide +kernel
theorem dL_append_4 : decode cL_append 4 = .ok (.invokevirtual 40, 3) := by decide +kernel
theorem dL_append_7 : decode cL_append 7 = .ok (.i2l, 1) := by decide +kernel
theorem dL_append_8 : decode cL_append 8 = .ok (.lastore, 1) := by decide +kernel
theorem dL_append_9 : decode cL_append 9 = .ok (.goto 9, 3) := by decide +kernel
theorem dL_append_12 : decode cL_append 12 = .ok (.astore_n 3, 1) := by decide +kernel
theorem dL_append_13 : decode cL_append 13 = .ok (.iconst 1, 1) := by decide +kernel
theorem dL_append_14 : decode cL_append 14 = .ok (.ireturn, 1) := by decide +kernel
theorem dL_append_15 : decode cL_append 15 = .ok (.astore_n 3, 1) := by decide +kernel
theorem dL_append_16 : decode cL_append 16 = .ok (.iconst 2, 1) := by decide +kernel
theorem dL_append_17 : decode cL_append 17 = .ok (.ireturn, 1) := by decide +kernel
theorem dL_append_18 : decode cL_append 18 = .ok (.iconst 0, 1) := by decide +kernel
theorem dL_append_19 : decode cL_append 19 = .ok (.ireturn, 1) := by decide +kernel
set_option maxRecDepth 20000 in
theorem ggL_play_X3_play : GoodIn wsL_play wsX3_play := goodIn_ca (goodIn_r _ [6, 7, 8, 9, 10, 11, 12, 13, 14, 15, 16, 17, 18, 19, 20, 21, 22, 23, 24, 25, 26, 27, 28, 5, 29, 30, 31, 32, 33, 34, 35, 36, 37, 38, 39, 40, 41, 42, 43, 44, 45, 46, 47, 48, 49, 50, 51, 52, 53, 54, 55, 56, 57, 58, 59, 60, 61, 62, 63, 64, 65, 66, 67, 68, 69, 70, 71, 72, 73, 74, 75, 76, 77, 78, 79, 80, 81, 82, 83, 84, 85, 86, 87, 88, 89, 90, 91, 92, 93, 94, 95, 96, 97, 98, 99, 100, 101, 102, 103, 104, 105, 106, 107, 108, 109, 110, 111, 112, 113, 114, 115, 116, 117, 118, 119, 120, 121, 122, 123, 124, 125, 126, 127, 128, 129, 130, 131, 132, 133, 134, 135, 136, 137, 138, 139, 140, 141, 142, 143, 144, 145, 146, 147, 148, 149, 150, 151, 152, 153, 154, 155, 156, 157, 158, 159, 160, 161, 162, 163, 164, 165] (by decide +kernel) (by decide +kernel)) (goodIn_sub (fun _ h => List.mem_cons_of_mem _ (List.mem_append_right _ h)) (by decide +kernel))
set_option maxRecDepth 20000 in
theorem gL_play_X3_play : GoodIn wsL_play (wsV RL 43 RX3 yX3_play wsX3_play) := goodIn_app (goodIn_of _ (by decide +kernel)) ggL_play_X3_play
theorem dL_play_0 : decode cL_play 0 = .ok (.aload_n 1, 1) := by decide +kernel
theorem dL_play_1 : decode cL_play 1 = .ok (.iconst 0, 1) := by decide +kernel
theorem dL_play_2 : decode cL_play 2 = .ok (.aload_n 0, 1) := by decide +kernel
theorem dL_play_3 : decode cL_play 3 = .ok (.invokevirtual 43, 3) := by decide +kernel
theorem dL_play_6 : decode cL_play 6 = .ok (.i2l, 1) := by decide +kernel
theorem dL_play_7 : decode cL_play 7 = .ok (.lastore, 1) := by decide +kernel
theorem dL_play_8 : decode cL_play 8 = .ok (.goto 6, 3) := by decide +kernel
theorem dL_play_11 : decode cL_play 11 = .ok (.astore_n 2, 1) := by decide +kernel
theorem dL_play_12 : decode cL_play 12 = .ok (.iconst 1, 1) := by decide +kernel
theorem dL_play_13 : decode cL_play 13 = .ok (.ireturn, 1) := by decide +kernel
theorem dL_play_14 : decode cL_play 14 = .ok (.iconst 0, 1) := by decide +kernel
theorem dL_play_15 : decode cL_play 15 = .ok (.ireturn, 1) := by decide +kernel
set_option maxRecDepth 20000 in
theorem ggL_undo_X3_undo : GoodIn wsL_undo wsX3_undo := goodIn_ca (goodIn_r _ [6, 7, 8, 9, 10, 11, 12, 13, 14, 15, 16, 17, 18, 19, 20, 21, 22, 23, 24, 25, 26, 27, 28, 29, 30, 31, 32, 33, 34, 35, 36, 37, 38, 39, 40, 41, 42, 43, 44, 45, 46, 47, 48, 49, 50, 51, 52, 53, 54, 55, 56, 57, 58, 59, 60, 61, 62, 63, 64, 65, 66, 67, 68, 69, 70] (by decide +kernel) (by decide +kernel)) (goodIn_sub (fun _ h => List.mem_cons_of_mem _ (List.mem_append_right _ h)) (by decide +kernel))
set_option maxRecDepth 20000 in
theorem gL_undo_X3_undo : GoodIn wsL_undo (wsV RL 47 RX3 yX3_undo wsX3_undo) := goodIn_app (goodIn_of _ (by decide +kernel)) ggL_undo_X3_undo
theorem dL_undo_0 : decode cL_undo 0 = .ok (.aload_n 1, 1) := by decide +kernel
theorem dL_undo_1 : decode cL_undo 1 = .ok (.iconst 0, 1) := by decide +kernel
theorem dL_undo_2 : decode cL_undo 2 = .ok (.aload_n 0, 1) := by decide +kernel
theorem dL_undo_3 : decode cL_undo 3 = .ok (.invokevirtual 47, 3) := by decide +kernel
theorem dL_undo_6 : decode cL_undo 6 = .ok (.i2l, 1) := by decide +kernel
theorem dL_undo_7 : decode cL_undo 7 = .ok (.lastore, 1) := by decide +kernel
theorem dL_undo_8 : decode cL_undo 8 = .ok (.goto 6, 3) := by decide +kernel
theorem dL_undo_11 : decode cL_undo 11 = .ok (.astore_n 2, 1) := by decide +kernel
theorem dL_undo_12 : decode cL_undo 12 = .ok (.iconst 1, 1) := by decide +kernel
theorem dL_undo_13 : decode cL_undo 13 = .ok (.ireturn, 1) := by decide +kernel
theorem dL_undo_14 : decode cL_undo 14 = .ok (.iconst 0, 1) := by decide +kernel
theorem dL_undo_15 : decode cL_undo 15 = .ok (.ireturn, 1) := by decide +kernel
set_option maxRecDepth 20000 in
theorem ggL_planeOf_X3_planeOf : GoodIn wsL_planeOf wsX3_planeOf := goodIn_ca (goodIn_ca (goodIn_r _ [7, 8, 9, 10, 11, 12, 13, 14, 6, 15, 16, 17, 18, 19, 20, 21, 22, 23, 24, 25, 26, 27, 28, 29, 30, 31, 32, 33, 34, 35, 36, 37, 38, 39, 40, 41, 42, 43, 44, 45, 46, 47] (by decide +kernel) (by decide +kernel)) (goodIn_sub (fun _ h => List.mem_cons_of_mem _ (List.mem_append_left _ (List.mem_append_right _ h))) (by decide +kernel))) (goodIn_sub (fun _ h => List.mem_cons_of_mem _ (List.mem_append_right _ h)) (by decide +kernel))
set_option maxRecDepth 20000 in
theorem gL_planeOf_X3_planeOf : GoodIn wsL_planeOf (wsV RL 50 RX3 yX3_planeOf wsX3_planeOf) := goodIn_app (goodIn_of _ (by decide +kernel)) ggL_planeOf_X3_planeOf
theorem dL_planeOf_0 : decode cL_planeOf 0 = .ok (.aload_n 3, 1) := by decide +kernel
theorem dL_planeOf_1 : decode cL_planeOf 1 = .ok (.iconst 0, 1) := by decide +kernel
theorem dL_planeOf_2 : decode cL_planeOf 2 = .ok (.aload_n 0, 1) := by decide +kernel
theorem dL_planeOf_3 : decode cL_planeOf 3 = .ok (.iload_n 1, 1) := by decide +kernel
theorem dL_planeOf_4 : decode cL_planeOf 4 = .ok (.iload_n 2, 1) := by decide +kernel
theorem dL_planeOf_5 : decode cL_planeOf 5 = .ok (.invokevirtual 50, 3) := by decide +kernel
theorem dL_planeOf_8 : decode cL_planeOf 8 = .ok (.i2l, 1) := by decide +kernel
theorem dL_planeOf_9 : decode cL_planeOf 9 = .ok (.lastore, 1) := by decide +kernel
theorem dL_planeOf_10 : decode cL_planeOf 10 = .ok (.goto 11, 3) := by decide +kernel
theorem dL_planeOf_13 : decode cL_planeOf 13 = .ok (.astore 4, 2) := by decide +kernel
theorem dL_planeOf_15 : decode cL_planeOf 15 = .ok (.iconst 1, 1) := by decide +kernel
theorem dL_planeOf_16 : decode cL_planeOf 16 = .ok (.ireturn, 1) := by decide +kernel
theorem dL_planeOf_17 : decode cL_planeOf 17 = .ok (.astore 4, 2) := by decide +kernel
theorem dL_planeOf_19 : decode cL_planeOf 19 = .ok (.iconst 2, 1) := by decide +kernel
theorem dL_planeOf_20 : decode cL_planeOf 20 = .ok (.ireturn, 1) := by decide +kernel
theorem dL_planeOf_21 : decode cL_planeOf 21 = .ok (.iconst 0, 1) := by decide +kernel
theorem dL_planeOf_22 : decode cL_planeOf 22 = .ok (.ireturn, 1) := by decide +kernel
set_option maxRecDepth 20000 in
theorem ggL_gutterOf_X3_gutterOf : GoodIn wsL_gutterOf wsX3_gutterOf := goodIn_ca (goodIn_ca (goodIn_r _ [7, 8, 9, 10, 11, 12, 13, 14, 6, 15, 16, 17, 18, 19, 20, 21, 22, 23, 24, 25, 26, 27, 28, 29, 30, 31, 32, 33, 34, 35, 36, 37, 38, 39, 40, 41, 42, 43, 44, 45, 46, 47, 48, 49, 50, 51, 52, 53, 54, 55, 56, 57, 58] (by decide +kernel) (by decide +kernel)) (goodIn_sub (fun _ h => List.mem_cons_of_mem _ (List.mem_append_left _ (List.mem_append_right _ h))) (by decide +kernel))) (goodIn_sub (fun _ h => List.mem_cons_of_mem _ (List.mem_append_right _ h)) (by decide +kernel))
set_option maxRecDepth 20000 in
theorem gL_gutterOf_X3_gutterOf : GoodIn wsL_gutterOf (wsV RL 53 RX3 yX3_gutterOf wsX3_gutterOf) := goodIn_app (goodIn_of _ (by decide +kernel)) ggL_gutterOf_X3_gutterOf
theorem dL_gutterOf_0 : decode cL_gutterOf 0 = .ok (.aload_n 3, 1) := by decide +kernel
theorem dL_gutterOf_1 : decode cL_gutterOf 1 = .ok (.iconst 0, 1) := by decide +kernel
theorem dL_gutterOf_2 : decode cL_gutterOf 2 = .ok (.aload_n 0, 1) := by decide +kernel
theorem dL_gutterOf_3 : decode cL_gutterOf 3 = .ok (.iload_n 1, 1) := by decide +kernel
theorem dL_gutterOf_4 : decode cL_gutterOf 4 = .ok (.iload_n 2, 1) := by decide +kernel
theorem dL_gutterOf_5 : decode cL_gutterOf 5 = .ok (.invokevirtual 53, 3) := by decide +kernel
theorem dL_gutterOf_8 : decode cL_gutterOf 8 = .ok (.i2l, 1) := by decide +kernel
theorem dL_gutterOf_9 : decode cL_gutterOf 9 = .ok (.lastore, 1) := by decide +kernel
theorem dL_gutterOf_10 : decode cL_gutterOf 10 = .ok (.goto 11, 3) := by decide +kernel
theorem dL_gutterOf_13 : decode cL_gutterOf 13 = .ok (.astore 4, 2) := by decide +kernel
theorem dL_gutterOf_15 : decode cL_gutterOf 15 = .ok (.iconst 1, 1) := by decide +kernel
theorem dL_gutterOf_16 : decode cL_gutterOf 16 = .ok (.ireturn, 1) := by decide +kernel
theorem dL_gutterOf_17 : decode cL_gutterOf 17 = .ok (.astore 4, 2) := by decide +kernel
theorem dL_gutterOf_19 : decode cL_gutterOf 19 = .ok (.iconst 2, 1) := by decide +kernel
theorem dL_gutterOf_20 : decode cL_gutterOf 20 = .ok (.ireturn, 1) := by decide +kernel
theorem dL_gutterOf_21 : decode cL_gutterOf 21 = .ok (.iconst 0, 1) := by decide +kernel
theorem dL_gutterOf_22 : decode cL_gutterOf 22 = .ok (.ireturn, 1) := by decide +kernel
set_option maxRecDepth 20000 in
theorem ggL_count_X3_count : GoodIn wsL_count wsX3_count := goodIn_ca (goodIn_r _ [6, 7, 8, 9, 10, 11, 12, 13, 14, 15, 16, 17, 18, 19, 20, 21, 22, 23, 24, 25, 26, 27, 28, 29, 30, 31, 32, 33, 34, 35, 36, 37, 38, 39, 40, 41, 42, 43, 44, 45, 46, 47, 48, 49, 50, 51, 52, 53, 54, 55, 56, 57, 58, 59, 60, 61, 62, 63, 64, 65, 66, 67, 68, 69, 70, 71, 72, 73, 74, 75, 76, 77, 78, 79, 80, 81, 82, 83, 84] (by decide +kernel) (by decide +kernel)) (goodIn_sub (fun _ h => List.mem_cons_of_mem _ (List.mem_append_right _ h)) (by decide +kernel))
set_option maxRecDepth 20000 in
theorem gL_count_X3_count : GoodIn wsL_count (wsV RL 56 RX3 yX3_count wsX3_count) := goodIn_app (goodIn_of _ (by decide +kernel)) ggL_count_X3_count
theorem dL_count_0 : decode cL_count 0 = .ok (.aload_n 2, 1) := by decide +kernel
theorem dL_count_1 : decode cL_count 1 = .ok (.iconst 0, 1) := by decide +kernel
theorem dL_count_2 : decode cL_count 2 = .ok (.aload_n 0, 1) := by decide +kernel
theorem dL_count_3 : decode cL_count 3 = .ok (.iload_n 1, 1) := by decide +kernel
theorem dL_count_4 : decode cL_count 4 = .ok (.invokevirtual 56, 3) := by decide +kernel
theorem dL_count_7 : decode cL_count 7 = .ok (.i2l, 1) := by decide +kernel
theorem dL_count_8 : decode cL_count 8 = .ok (.lastore, 1) := by decide +kernel
theorem dL_count_9 : decode cL_count 9 = .ok (.goto 6, 3) := by decide +kernel
theorem dL_count_12 : decode cL_count 12 = .ok (.astore_n 3, 1) := by decide +kernel
theorem dL_count_13 : decode cL_count 13 = .ok (.iconst 1, 1) := by decide +kernel
theorem dL_count_14 : decode cL_count 14 = .ok (.ireturn, 1) := by decide +kernel
theorem dL_count_15 : decode cL_count 15 = .ok (.iconst 0, 1) := by decide +kernel
theorem dL_count_16 : decode cL_count 16 = .ok (.ireturn, 1) := by decide +kernel
set_option maxRecDepth 20000 in
theorem ggL_setting_X3_setting : GoodIn wsL_setting wsX3_setting := goodIn_ca (goodIn_r _ [6, 7, 8, 9, 10, 11, 5, 12, 13, 14, 15, 16, 17, 18, 19, 20, 21, 22, 23, 24, 25, 26, 27, 28, 29, 30, 31, 32, 33, 34, 35, 36, 37, 38] (by decide +kernel) (by decide +kernel)) (goodIn_sub (fun _ h => List.mem_cons_of_mem _ (List.mem_append_right _ h)) (by decide +kernel))
set_option maxRecDepth 20000 in
theorem gL_setting_X3_setting : GoodIn wsL_setting (wsV RL 59 RX3 yX3_setting wsX3_setting) := goodIn_app (goodIn_of _ (by decide +kernel)) ggL_setting_X3_setting
theorem dL_setting_0 : decode cL_setting 0 = .ok (.aload_n 2, 1) := by decide +kernel
theorem dL_setting_1 : decode cL_setting 1 = .ok (.iconst 0, 1) := by decide +kernel
theorem dL_setting_2 : decode cL_setting 2 = .ok (.aload_n 0, 1) := by decide +kernel
theorem dL_setting_3 : decode cL_setting 3 = .ok (.iload_n 1, 1) := by decide +kernel
theorem dL_setting_4 : decode cL_setting 4 = .ok (.invokevirtual 59, 3) := by decide +kernel
theorem dL_setting_7 : decode cL_setting 7 = .ok (.i2l, 1) := by decide +kernel
theorem dL_setting_8 : decode cL_setting 8 = .ok (.lastore, 1) := by decide +kernel
theorem dL_setting_9 : decode cL_setting 9 = .ok (.goto 6, 3) := by decide +kernel
theorem dL_setting_12 : decode cL_setting 12 = .ok (.astore_n 3, 1) := by decide +kernel
theorem dL_setting_13 : decode cL_setting 13 = .ok (.iconst 1, 1) := by decide +kernel
theorem dL_setting_14 : decode cL_setting 14 = .ok (.ireturn, 1) := by decide +kernel
theorem dL_setting_15 : decode cL_setting 15 = .ok (.iconst 0, 1) := by decide +kernel
theorem dL_setting_16 : decode cL_setting 16 = .ok (.ireturn, 1) := by decide +kernel
set_option maxRecDepth 20000 in
theorem ggL_ifRained_X3_ifRained : GoodIn wsL_ifRained wsX3_ifRained := goodIn_ca (goodIn_r _ [6, 7, 8, 9, 10, 11, 12, 5, 13, 14, 15, 16, 17, 18, 19, 20, 21, 22, 23, 24, 25, 26, 27, 28, 29, 30, 31, 32, 33, 34, 35, 36, 37, 38, 39, 40, 41, 42, 43, 44, 45, 46, 47, 48, 49, 50, 51, 52, 53, 54, 55, 56, 57, 58, 59, 60, 61, 62, 63, 64, 65, 66, 67, 68, 69, 70, 71, 72, 73, 74, 75, 76, 77, 78, 79, 80, 81, 82, 83, 84, 85, 86, 87, 88, 89, 90, 91, 92, 93, 94, 95, 96, 97, 98, 99, 100, 101, 102, 103, 104, 105, 106, 107, 108, 109, 110, 111] (by decide +kernel) (by decide +kernel)) (goodIn_sub (fun _ h => List.mem_cons_of_mem _ (List.mem_append_right _ h)) (by decide +kernel))
set_option maxRecDepth 20000 in
theorem gL_ifRained_X3_ifRained : GoodIn wsL_ifRained (wsV RL 62 RX3 yX3_ifRained wsX3_ifRained) := goodIn_app (goodIn_of _ (by decide +kernel)) ggL_ifRained_X3_ifRained
theorem dL_ifRained_0 : decode cL_ifRained 0 = .ok (.aload_n 3, 1) := by decide +kernel
theorem dL_ifRained_1 : decode cL_ifRained 1 = .ok (.iconst 0, 1) := by decide +kernel
theorem dL_ifRained_2 : decode cL_ifRained 2 = .ok (.aload_n 0, 1) := by decide +kernel
theorem dL_ifRained_3 : decode cL_ifRained 3 = .ok (.iload_n 1, 1) := by decide +kernel
theorem dL_ifRained_4 : decode cL_ifRained 4 = .ok (.iload_n 2, 1) := by decide +kernel
theorem dL_ifRained_5 : decode cL_ifRained 5 = .ok (.invokevirtual 62, 3) := by decide +kernel
theorem dL_ifRained_8 : decode cL_ifRained 8 = .ok (.i2l, 1) := by decide +kernel
theorem dL_ifRained_9 : decode cL_ifRained 9 = .ok (.lastore, 1) := by decide +kernel
theorem dL_ifRained_10 : decode cL_ifRained 10 = .ok (.goto 7, 3) := by decide +kernel
theorem dL_ifRained_13 : decode cL_ifRained 13 = .ok (.astore 4, 2) := by decide +kernel
theorem dL_ifRained_15 : decode cL_ifRained 15 = .ok (.iconst 1, 1) := by decide +kernel
theorem dL_ifRained_16 : decode cL_ifRained 16 = .ok (.ireturn, 1) := by decide +kernel
theorem dL_ifRained_17 : decode cL_ifRained 17 = .ok (.iconst 0, 1) := by decide +kernel
theorem dL_ifRained_18 : decode cL_ifRained 18 = .ok (.ireturn, 1) := by decide +kernel
set_option maxRecDepth 20000 in
theorem ggL_spillsFirst_X3_spillsFirst : GoodIn wsL_spillsFirst wsX3_spillsFirst := goodIn_ca (goodIn_r _ [6, 7, 8, 9, 10, 11, 12, 5, 13, 14, 15, 16, 17, 18, 19, 20, 21, 22, 23, 24, 25, 26, 27, 28, 29, 30, 31, 32, 33, 34, 35, 36, 37, 38, 39, 40, 41, 42, 43, 44, 45, 46, 47, 48, 49, 50, 51, 52, 53, 54, 55, 56, 57, 58, 59, 60, 61, 62, 63, 64, 65, 66, 67, 68, 69, 70, 71, 72, 73, 74, 75, 76, 77, 78, 79, 80, 81, 82, 83, 84, 85, 86, 87, 88, 89, 90, 91, 92, 93, 94, 95, 96] (by decide +kernel) (by decide +kernel)) (goodIn_sub (fun _ h => List.mem_cons_of_mem _ (List.mem_append_right _ h)) (by decide +kernel))
set_option maxRecDepth 20000 in
theorem gL_spillsFirst_X3_spillsFirst : GoodIn wsL_spillsFirst (wsV RL 65 RX3 yX3_spillsFirst wsX3_spillsFirst) := goodIn_app (goodIn_of _ (by decide +kernel)) ggL_spillsFirst_X3_spillsFirst
theorem dL_spillsFirst_0 : decode cL_spillsFirst 0 = .ok (.aload_n 2, 1) := by decide +kernel
theorem dL_spillsFirst_1 : decode cL_spillsFirst 1 = .ok (.iconst 0, 1) := by decide +kernel
theorem dL_spillsFirst_2 : decode cL_spillsFirst 2 = .ok (.aload_n 0, 1) := by decide +kernel
theorem dL_spillsFirst_3 : decode cL_spillsFirst 3 = .ok (.iload_n 1, 1) := by decide +kernel
theorem dL_spillsFirst_4 : decode cL_spillsFirst 4 = .ok (.invokevirtual 65, 3) := by decide +kernel
theorem dL_spillsFirst_7 : decode cL_spillsFirst 7 = .ok (.i2l, 1) := by decide +kernel
theorem dL_spillsFirst_8 : decode cL_spillsFirst 8 = .ok (.lastore, 1) := by decide +kernel
theorem dL_spillsFirst_9 : decode cL_spillsFirst 9 = .ok (.goto 6, 3) := by decide +kernel
theorem dL_spillsFirst_12 : decode cL_spillsFirst 12 = .ok (.astore_n 3, 1) := by decide +kernel
theorem dL_spillsFirst_13 : decode cL_spillsFirst 13 = .ok (.iconst 1, 1) := by decide +kernel
theorem dL_spillsFirst_14 : decode cL_spillsFirst 14 = .ok (.ireturn, 1) := by decide +kernel
theorem dL_spillsFirst_15 : decode cL_spillsFirst 15 = .ok (.iconst 0, 1) := by decide +kernel
theorem dL_spillsFirst_16 : decode cL_spillsFirst 16 = .ok (.ireturn, 1) := by decide +kernel
set_option maxRecDepth 20000 in
theorem ggL_mostRain_X3_mostRain : GoodIn wsL_mostRain wsX3_mostRain := goodIn_ca (goodIn_r _ [6, 7, 8, 9, 10, 5, 11, 12, 13, 14, 15, 16, 17, 18, 19, 20, 21, 22, 23, 24, 25, 26, 27, 28, 29, 30, 31, 32, 33, 34, 35, 36, 37, 38, 39, 40, 41, 42, 43, 44, 45, 46, 47, 48, 49, 50, 51, 52, 53, 54, 55, 56, 57, 58, 59, 60, 61, 62, 63, 64, 65, 66, 67, 68, 69, 70, 71, 72, 73, 74, 75, 76, 77, 78, 79, 80, 81, 82, 83, 84, 85, 86, 87, 88, 89, 90, 91, 92, 93, 94, 95, 96] (by decide +kernel) (by decide +kernel)) (goodIn_sub (fun _ h => List.mem_cons_of_mem _ (List.mem_append_right _ h)) (by decide +kernel))
set_option maxRecDepth 20000 in
theorem gL_mostRain_X3_mostRain : GoodIn wsL_mostRain (wsV RL 68 RX3 yX3_mostRain wsX3_mostRain) := goodIn_app (goodIn_of _ (by decide +kernel)) ggL_mostRain_X3_mostRain
theorem dL_mostRain_0 : decode cL_mostRain 0 = .ok (.aload_n 2, 1) := by decide +kernel
theorem dL_mostRain_1 : decode cL_mostRain 1 = .ok (.iconst 0, 1) := by decide +kernel
theorem dL_mostRain_2 : decode cL_mostRain 2 = .ok (.aload_n 0, 1) := by decide +kernel
theorem dL_mostRain_3 : decode cL_mostRain 3 = .ok (.iload_n 1, 1) := by decide +kernel
theorem dL_mostRain_4 : decode cL_mostRain 4 = .ok (.invokevirtual 68, 3) := by decide +kernel
theorem dL_mostRain_7 : decode cL_mostRain 7 = .ok (.i2l, 1) := by decide +kernel
theorem dL_mostRain_8 : decode cL_mostRain 8 = .ok (.lastore, 1) := by decide +kernel
theorem dL_mostRain_9 : decode cL_mostRain 9 = .ok (.goto 6, 3) := by decide +kernel
theorem dL_mostRain_12 : decode cL_mostRain 12 = .ok (.astore_n 3, 1) := by decide +kernel
theorem dL_mostRain_13 : decode cL_mostRain 13 = .ok (.iconst 1, 1) := by decide +kernel
theorem dL_mostRain_14 : decode cL_mostRain 14 = .ok (.ireturn, 1) := by decide +kernel
theorem dL_mostRain_15 : decode cL_mostRain 15 = .ok (.iconst 0, 1) := by decide +kernel
theorem dL_mostRain_16 : decode cL_mostRain 16 = .ok (.ireturn, 1) := by decide +kernel
