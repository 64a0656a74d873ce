set_option maxRecDepth 20000 in
theorem ggX3_init_X1_init : GoodIn wsX3_init wsX1_init := goodIn_r _ [19, 20, 2, 3, 21, 22, 23, 24, 25, 26, 27, 28, 29, 30, 31, 32, 33, 45, 46, 47, 48, 49, 50, 51, 52, 53, 54, 55, 56, 57, 58, 59, 60] (by decide +kernel) (by decide +kernel)
set_option maxRecDepth 20000 in
theorem gX3_init_X1_init : GoodIn wsX3_init (wsX1_init) := ggX3_init_X1_init
set_option maxRecDepth 20000 in
theorem ggX3_init_X2_init : GoodIn wsX3_init wsX2_init := goodIn_r _ [36, 37, 2, 3, 38, 39, 65, 66, 67] (by decide +kernel) (by decide +kernel)
set_option maxRecDepth 20000 in
theorem gX3_init_X2_init : GoodIn wsX3_init (wsX2_init) := ggX3_init_X2_init
set_option maxRecDepth 20000 in
theorem ggX3_init_X0_init : GoodIn wsX3_init wsX0_init := goodIn_r _ [42, 43, 2, 3, 21, 44, 68, 69] (by decide +kernel) (by decide +kernel)
set_option maxRecDepth 20000 in
theorem gX3_init_X0_init : GoodIn wsX3_init (wsX0_init) := ggX3_init_X0_init
theorem dX3_init_0 : decode cX3_init 0 = .ok (.aload_n 0, 1) := by decide +kernel
theorem dX3_init_1 : decode cX3_init 1 = .ok (.invokespecial 1, 3) := by decide +kernel
theorem dX3_init_4 : decode cX3_init 4 = .ok (.aload_n 0, 1) := by decide +kernel
theorem dX3_init_5 : decode cX3_init 5 = .ok (.new 7, 3) := by decide +kernel
theorem dX3_init_8 : decode cX3_init 8 = .ok (.dup, 1) := by decide +kernel
theorem dX3_init_9 : decode cX3_init 9 = .ok (.invokespecial 9, 3) := by decide +kernel
theorem dX3_init_12 : decode cX3_init 12 = .ok (.putfield 10, 3) := by decide +kernel
theorem dX3_init_15 : decode cX3_init 15 = .ok (.aload_n 0, 1) := by decide +kernel
theorem dX3_init_16 : decode cX3_init 16 = .ok (.new 7, 3) := by decide +kernel
theorem dX3_init_19 : decode cX3_init 19 = .ok (.dup, 1) := by decide +kernel
theorem dX3_init_20 : decode cX3_init 20 = .ok (.invokespecial 9, 3) := by decide +kernel
theorem dX3_init_23 : decode cX3_init 23 = .ok (.putfield 16, 3) := by decide +kernel
theorem dX3_init_26 : decode cX3_init 26 = .ok (.aload_n 0, 1) := by decide +kernel
theorem dX3_init_27 : decode cX3_init 27 = .ok (.new 19, 3) := by decide +kernel
theorem dX3_init_30 : decode cX3_init 30 = .ok (.dup, 1) := by decide +kernel
theorem dX3_init_31 : decode cX3_init 31 = .ok (.invokespecial 21, 3) := by decide +kernel
theorem dX3_init_34 : decode cX3_init 34 = .ok (.putfield 22, 3) := by decide +kernel
theorem dX3_init_37 : decode cX3_init 37 = .ok (.aload_n 0, 1) := by decide +kernel
theorem dX3_init_38 : decode cX3_init 38 = .ok (.new 26, 3) := by decide +kernel
theorem dX3_init_41 : decode cX3_init 41 = .ok (.dup, 1) := by decide +kernel
theorem dX3_init_42 : decode cX3_init 42 = .ok (.invokespecial 28, 3) := by decide +kernel
theorem dX3_init_45 : decode cX3_init 45 = .ok (.putfield 29, 3) := by decide +kernel
theorem dX3_init_48 : decode cX3_init 48 = .ok (.return_, 1) := by decide +kernel
set_option maxRecDepth 20000 in
theorem ggX3_plane_X3_isPlane : GoodIn wsX3_plane wsX3_isPlane := goodIn_r _ [10] (by decide +kernel) (by decide +kernel)
set_option maxRecDepth 20000 in
theorem gX3_plane_X3_isPlane : GoodIn wsX3_plane (va_wsS RX3 33 yX3_isPlane wsX3_isPlane) := goodIn_app (goodIn_of _ (by decide +kernel)) ggX3_plane_X3_isPlane
set_option maxRecDepth 20000 in
theorem ggX3_plane_X3_isGutter : GoodIn wsX3_plane wsX3_isGutter := goodIn_r _ [13] (by decide +kernel) (by decide +kernel)
set_option maxRecDepth 20000 in
theorem gX3_plane_X3_isGutter : GoodIn wsX3_plane (va_wsS RX3 37 yX3_isGutter wsX3_isGutter) := goodIn_app (goodIn_of _ (by decide +kernel)) ggX3_plane_X3_isGutter
set_option maxRecDepth 20000 in
theorem ggX3_plane_X3_isWithin : GoodIn wsX3_plane wsX3_isWithin := goodIn_r _ [16] (by decide +kernel) (by decide +kernel)
set_option maxRecDepth 20000 in
theorem gX3_plane_X3_isWithin : GoodIn wsX3_plane (va_wsS RX3 47 yX3_isWithin wsX3_isWithin) := goodIn_app (goodIn_of _ (by decide +kernel)) ggX3_plane_X3_isWithin
set_option maxRecDepth 20000 in
theorem ggX3_plane_X2_keep : GoodIn wsX3_plane wsX2_keep := goodIn_r _ [21, 22, 23, 24, 25, 26, 27, 28, 29, 30, 31, 32, 33, 34, 35, 36, 37, 38, 39, 40, 41, 42, 43, 44, 45, 46, 47, 48, 49, 50, 51, 52, 53, 54, 55, 56, 57, 58, 67, 68, 69, 70, 71, 72, 73, 74, 75, 76, 77, 78, 79, 80, 81, 82, 83, 84, 85] (by decide +kernel) (by decide +kernel)
set_option maxRecDepth 20000 in
theorem gX3_plane_X2_keep : GoodIn wsX3_plane (wsV RX3 56 RX2 yX2_keep wsX2_keep) := goodIn_app (goodIn_of _ (by decide +kernel)) ggX3_plane_X2_keep
set_option maxRecDepth 20000 in
theorem ggX3_plane_X1_changePlane : GoodIn wsX3_plane wsX1_changePlane := goodIn_r _ [62, 35, 36, 37, 70, 71, 72, 73, 74, 75, 76, 77, 78, 79, 80, 81, 82, 83, 84, 85] (by decide +kernel) (by decide +kernel)
set_option maxRecDepth 20000 in
theorem gX3_plane_X1_changePlane : GoodIn wsX3_plane (wsV RX3 60 RX1 yX1_changePlane wsX1_changePlane) := goodIn_app (goodIn_of _ (by decide +kernel)) ggX3_plane_X1_changePlane
theorem dX3_plane_0 : decode cX3_plane 0 = .ok (.iload_n 1, 1) := by decide +kernel
theorem dX3_plane_1 : decode cX3_plane 1 = .ok (.invokestatic 33, 3) := by decide +kernel
theorem dX3_plane_4 : decode cX3_plane 4 = .ok (.ifCond .eq 11, 3) := by decide +kernel
theorem dX3_plane_7 : decode cX3_plane 7 = .ok (.iload 4, 2) := by decide +kernel
theorem dX3_plane_9 : decode cX3_plane 9 = .ok (.invokestatic 37, 3) := by decide +kernel
theorem dX3_plane_12 : decode cX3_plane 12 = .ok (.ifCond .ne 13, 3) := by decide +kernel
theorem dX3_plane_15 : decode cX3_plane 15 = .ok (.new 40, 3) := by decide +kernel
theorem dX3_plane_18 : decode cX3_plane 18 = .ok (.dup, 1) := by decide +kernel
theorem dX3_plane_19 : decode cX3_plane 19 = .ok (.ldc 42, 2) := by decide +kernel
theorem dX3_plane_21 : decode cX3_plane 21 = .ok (.invokespecial 44, 3) := by decide +kernel
theorem dX3_plane_24 : decode cX3_plane 24 = .ok (.athrow, 1) := by decide +kernel
theorem dX3_plane_25 : decode cX3_plane 25 = .ok (.iload_n 2, 1) := by decide +kernel
theorem dX3_plane_26 : decode cX3_plane 26 = .ok (.iconst 0, 1) := by decide +kernel
theorem dX3_plane_27 : decode cX3_plane 27 = .ok (.sipush 200, 3) := by decide +kernel
theorem dX3_plane_30 : decode cX3_plane 30 = .ok (.invokestatic 47, 3) := by decide +kernel
theorem dX3_plane_33 : decode cX3_plane 33 = .ok (.ifCond .eq 13, 3) := by decide +kernel
theorem dX3_plane_36 : decode cX3_plane 36 = .ok (.iload_n 3, 1) := by decide +kernel
theorem dX3_plane_37 : decode cX3_plane 37 = .ok (.iconst 0, 1) := by decide +kernel
theorem dX3_plane_38 : decode cX3_plane 38 = .ok (.bipush 9, 2) := by decide +kernel
theorem dX3_plane_40 : decode cX3_plane 40 = .ok (.invokestatic 47, 3) := by decide +kernel
theorem dX3_plane_43 : decode cX3_plane 43 = .ok (.ifCond .ne 13, 3) := by decide +kernel
theorem dX3_plane_46 : decode cX3_plane 46 = .ok (.new 51, 3) := by decide +kernel
theorem dX3_plane_49 : decode cX3_plane 49 = .ok (.dup, 1) := by decide +kernel
theorem dX3_plane_50 : decode cX3_plane 50 = .ok (.ldc 53, 2) := by decide +kernel
theorem dX3_plane_52 : decode cX3_plane 52 = .ok (.invokespecial 55, 3) := by decide +kernel
theorem dX3_plane_55 : decode cX3_plane 55 = .ok (.athrow, 1) := by decide +kernel
theorem dX3_plane_56 : decode cX3_plane 56 = .ok (.aload_n 0, 1) := by decide +kernel
theorem dX3_plane_57 : decode cX3_plane 57 = .ok (.getfield 22, 3) := by decide +kernel
theorem dX3_plane_60 : decode cX3_plane 60 = .ok (.aload_n 0, 1) := by decide +kernel
theorem dX3_plane_61 : decode cX3_plane 61 = .ok (.getfield 10, 3) := by decide +kernel
theorem dX3_plane_64 : decode cX3_plane 64 = .ok (.invokevirtual 56, 3) := by decide +kernel
theorem dX3_plane_67 : decode cX3_plane 67 = .ok (.aload_n 0, 1) := by decide +kernel
theorem dX3_plane_68 : decode cX3_plane 68 = .ok (.getfield 10, 3) := by decide +kernel
theorem dX3_plane_71 : decode cX3_plane 71 = .ok (.iload_n 1, 1) := by decide +kernel
theorem dX3_plane_72 : decode cX3_plane 72 = .ok (.iload_n 2, 1) := by decide +kernel
theorem dX3_plane_73 : decode cX3_plane 73 = .ok (.iload_n 3, 1) := by decide +kernel
theorem dX3_plane_74 : decode cX3_plane 74 = .ok (.iload 4, 2) := by decide +kernel
theorem dX3_plane_76 : decode cX3_plane 76 = .ok (.invokevirtual 60, 3) := by decide +kernel
theorem dX3_plane_79 : decode cX3_plane 79 = .ok (.ireturn, 1) := by decide +kernel
set_option maxRecDepth 20000 in
theorem ggX3_gutter_X3_isGutter : GoodIn wsX3_gutter wsX3_isGutter := goodIn_r _ [10] (by decide +kernel) (by decide +kernel)
set_option maxRecDepth 20000 in
theorem gX3_gutter_X3_isGutter : GoodIn wsX3_gutter (va_wsS RX3 37 yX3_isGutter wsX3_isGutter) := goodIn_app (goodIn_of _ (by decide +kernel)) ggX3_gutter_X3_isGutter
set_option maxRecDepth 20000 in
theorem ggX3_gutter_X3_isWithin : GoodIn wsX3_gutter wsX3_isWithin := goodIn_r _ [13] (by decide +kernel) (by decide +kernel)
set_option maxRecDepth 20000 in
theorem gX3_gutter_X3_isWithin : GoodIn wsX3_gutter (va_wsS RX3 47 yX3_isWithin wsX3_isWithin) := goodIn_app (goodIn_of _ (by decide +kernel)) ggX3_gutter_X3_isWithin
set_option maxRecDepth 20000 in
theorem ggX3_gutter_X2_keep : GoodIn wsX3_gutter wsX2_keep := goodIn_r _ [18, 19, 20, 21, 22, 23, 24, 25, 26, 27, 28, 29, 30, 31, 32, 33, 34, 35, 36, 37, 38, 39, 40, 41, 42, 43, 44, 45, 46, 47, 48, 49, 50, 51, 52, 53, 54, 55, 64, 65, 66, 67, 68, 69, 70, 71, 72, 73, 74, 75, 76, 77, 78, 79, 80, 81, 82] (by decide +kernel) (by decide +kernel)
set_option maxRecDepth 20000 in
theorem gX3_gutter_X2_keep : GoodIn wsX3_gutter (wsV RX3 56 RX2 yX2_keep wsX2_keep) := goodIn_app (goodIn_of _ (by decide +kernel)) ggX3_gutter_X2_keep
set_option maxRecDepth 20000 in
theorem ggX3_gutter_X1_changeGutter : GoodIn wsX3_gutter wsX1_changeGutter := goodIn_r _ [59, 36, 37, 67, 68, 69, 70, 71, 72, 73, 74, 75, 76, 77, 78, 79, 80, 81, 82] (by decide +kernel) (by decide +kernel)
set_option maxRecDepth 20000 in
theorem gX3_gutter_X1_changeGutter : GoodIn wsX3_gutter (wsV RX3 68 RX1 yX1_changeGutter wsX1_changeGutter) := goodIn_app (goodIn_of _ (by decide +kernel)) ggX3_gutter_X1_changeGutter
theorem dX3_gutter_0 : decode cX3_gutter 0 = .ok (.iload_n 1, 1) := by decide +kernel
theorem dX3_gutter_1 : decode cX3_gutter 1 = .ok (.invokestatic 37, 3) := by decide +kernel
theorem dX3_gutter_4 : decode cX3_gutter 4 = .ok (.ifCond .ne 13, 3) := by decide +kernel
theorem dX3_gutter_7 : decode cX3_gutter 7 = .ok (.new 40, 3) := by decide +kernel
theorem dX3_gutter_10 : decode cX3_gutter 10 = .ok (.dup, 1) := by decide +kernel
theorem dX3_gutter_11 : decode cX3_gutter 11 = .ok (.ldc 64, 2) := by decide +kernel
theorem dX3_gutter_13 : decode cX3_gutter 13 = .ok (.invokespecial 44, 3) := by decide +kernel
theorem dX3_gutter_16 : decode cX3_gutter 16 = .ok (.athrow, 1) := by decide +kernel
theorem dX3_gutter_17 : decode cX3_gutter 17 = .ok (.iload_n 2, 1) := by decide +kernel
theorem dX3_gutter_18 : decode cX3_gutter 18 = .ok (.iconst 1, 1) := by decide +kernel
theorem dX3_gutter_19 : decode cX3_gutter 19 = .ok (.sipush 500, 3) := by decide +kernel
theorem dX3_gutter_22 : decode cX3_gutter 22 = .ok (.invokestatic 47, 3) := by decide +kernel
theorem dX3_gutter_25 : decode cX3_gutter 25 = .ok (.ifCond .eq 13, 3) := by decide +kernel
theorem dX3_gutter_28 : decode cX3_gutter 28 = .ok (.iload_n 3, 1) := by decide +kernel
theorem dX3_gutter_29 : decode cX3_gutter 29 = .ok (.iconst 0, 1) := by decide +kernel
theorem dX3_gutter_30 : decode cX3_gutter 30 = .ok (.bipush 99, 2) := by decide +kernel
theorem dX3_gutter_32 : decode cX3_gutter 32 = .ok (.invokestatic 47, 3) := by decide +kernel
theorem dX3_gutter_35 : decode cX3_gutter 35 = .ok (.ifCond .ne 13, 3) := by decide +kernel
theorem dX3_gutter_38 : decode cX3_gutter 38 = .ok (.new 51, 3) := by decide +kernel
theorem dX3_gutter_41 : decode cX3_gutter 41 = .ok (.dup, 1) := by decide +kernel
theorem dX3_gutter_42 : decode cX3_gutter 42 = .ok (.ldc 66, 2) := by decide +kernel
theorem dX3_gutter_44 : decode cX3_gutter 44 = .ok (.invokespecial 55, 3) := by decide +kernel
theorem dX3_gutter_47 : decode cX3_gutter 47 = .ok (.athrow, 1) := by decide +kernel
theorem dX3_gutter_48 : decode cX3_gutter 48 = .ok (.aload_n 0, 1) := by decide +kernel
theorem dX3_gutter_49 : decode cX3_gutter 49 = .ok (.getfield 22, 3) := by decide +kernel
theorem dX3_gutter_52 : decode cX3_gutter 52 = .ok (.aload_n 0, 1) := by decide +kernel
theorem dX3_gutter_53 : decode cX3_gutter 53 = .ok (.getfield 10, 3) := by decide +kernel
theorem dX3_gutter_56 : decode cX3_gutter 56 = .ok (.invokevirtual 56, 3) := by decide +kernel
theorem dX3_gutter_59 : decode cX3_gutter 59 = .ok (.aload_n 0, 1) := by decide +kernel
theorem dX3_gutter_60 : decode cX3_gutter 60 = .ok (.getfield 10, 3) := by decide +kernel
theorem dX3_gutter_63 : decode cX3_gutter 63 = .ok (.iload_n 1, 1) := by decide +kernel
theorem dX3_gutter_64 : decode cX3_gutter 64 = .ok (.iload_n 2, 1) := by decide +kernel
theorem dX3_gutter_65 : decode cX3_gutter 65 = .ok (.iload_n 3, 1) := by decide +kernel
theorem dX3_gutter_66 : decode cX3_gutter 66 = .ok (.invokevirtual 68, 3) := by decide +kernel
theorem dX3_gutter_69 : decode cX3_gutter 69 = .ok (.ireturn, 1) := by decide +kernel
set_option maxRecDepth 20000 in
theorem ggX3_valley_X3_isGutter : GoodIn wsX3_valley wsX3_isGutter := goodIn_r _ [12] (by decide +kernel) (by decide +kernel)
set_option maxRecDepth 20000 in
theorem gX3_valley_X3_isGutter : GoodIn wsX3_valley (va_wsS RX3 37 yX3_isGutter wsX3_isGutter) := goodIn_app (goodIn_of _ (by decide +kernel)) ggX3_valley_X3_isGutter
set_option maxRecDepth 20000 in
theorem ggX3_valley_X1_valleysLead : GoodIn wsX3_valley wsX1_valleysLead := goodIn_r _ [17, 18, 10, 11, 12, 67, 68, 69, 70, 71, 72, 73, 74, 75, 76, 77, 78, 79, 80, 81, 82] (by decide +kernel) (by decide +kernel)
set_option maxRecDepth 20000 in
theorem gX3_valley_X1_valleysLead : GoodIn wsX3_valley (wsV RX3 74 RX1 yX1_valleysLead wsX1_valleysLead) := goodIn_app (goodIn_of _ (by decide +kernel)) ggX3_valley_X1_valleysLead
set_option maxRecDepth 20000 in
theorem ggX3_valley_X2_keep : GoodIn wsX3_valley wsX2_keep := goodIn_r _ [23, 24, 25, 26, 27, 28, 16, 29, 30, 31, 32, 33, 34, 35, 36, 37, 38, 39, 40, 41, 42, 18, 43, 44, 45, 46, 47, 48, 49, 50, 51, 52, 53, 54, 55, 56, 57, 58, 83, 84, 85, 67, 68, 69, 70, 71, 72, 73, 74, 75, 76, 77, 78, 79, 80, 81, 82] (by decide +kernel) (by decide +kernel)
set_option maxRecDepth 20000 in
theorem gX3_valley_X2_keep : GoodIn wsX3_valley (wsV RX3 56 RX2 yX2_keep wsX2_keep) := goodIn_app (goodIn_of _ (by decide +kernel)) ggX3_valley_X2_keep
set_option maxRecDepth 20000 in
theorem ggX3_valley_X1_changeValley : GoodIn wsX3_valley wsX1_changeValley := goodIn_r _ [62, 18, 67, 68, 69, 70, 71, 72, 73, 74, 75, 76, 77, 78, 79, 80, 81, 82] (by decide +kernel) (by decide +kernel)
set_option maxRecDepth 20000 in
theorem gX3_valley_X1_changeValley : GoodIn wsX3_valley (wsV RX3 83 RX1 yX1_changeValley wsX1_changeValley) := goodIn_app (goodIn_of _ (by decide +kernel)) ggX3_valley_X1_changeValley
theorem dX3_valley_0 : decode cX3_valley 0 = .ok (.iload_n 1, 1) := by decide +kernel
theorem dX3_valley_1 : decode cX3_valley 1 = .ok (.invokestatic 37, 3) := by decide +kernel
theorem dX3_valley_4 : decode cX3_valley 4 = .ok (.ifCond .eq 15, 3) := by decide +kernel
theorem dX3_valley_7 : decode cX3_valley 7 = .ok (.iload_n 2, 1) := by decide +kernel
theorem dX3_valley_8 : decode cX3_valley 8 = .ok (.iconst (-1), 1) := by decide +kernel
theorem dX3_valley_9 : decode cX3_valley 9 = .ok (.if_icmp .eq 20, 3) := by decide +kernel
theorem dX3_valley_12 : decode cX3_valley 12 = .ok (.iload_n 2, 1) := by decide +kernel
theorem dX3_valley_13 : decode cX3_valley 13 = .ok (.invokestatic 37, 3) := by decide +kernel
theorem dX3_valley_16 : decode cX3_valley 16 = .ok (.ifCond .ne 13, 3) := by decide +kernel
theorem dX3_valley_19 : decode cX3_valley 19 = .ok (.new 40, 3) := by decide +kernel
theorem dX3_valley_22 : decode cX3_valley 22 = .ok (.dup, 1) := by decide +kernel
theorem dX3_valley_23 : decode cX3_valley 23 = .ok (.ldc 64, 2) := by decide +kernel
theorem dX3_valley_25 : decode cX3_valley 25 = .ok (.invokespecial 44, 3) := by decide +kernel
theorem dX3_valley_28 : decode cX3_valley 28 = .ok (.athrow, 1) := by decide +kernel
theorem dX3_valley_29 : decode cX3_valley 29 = .ok (.iload_n 1, 1) := by decide +kernel
theorem dX3_valley_30 : decode cX3_valley 30 = .ok (.iload_n 2, 1) := by decide +kernel
theorem dX3_valley_31 : decode cX3_valley 31 = .ok (.if_icmp .ne 13, 3) := by decide +kernel
theorem dX3_valley_34 : decode cX3_valley 34 = .ok (.new 51, 3) := by decide +kernel
theorem dX3_valley_37 : decode cX3_valley 37 = .ok (.dup, 1) := by decide +kernel
theorem dX3_valley_38 : decode cX3_valley 38 = .ok (.ldc 72, 2) := by decide +kernel
theorem dX3_valley_40 : decode cX3_valley 40 = .ok (.invokespecial 55, 3) := by decide +kernel
theorem dX3_valley_43 : decode cX3_valley 43 = .ok (.athrow, 1) := by decide +kernel
theorem dX3_valley_44 : decode cX3_valley 44 = .ok (.aload_n 0, 1) := by decide +kernel
theorem dX3_valley_45 : decode cX3_valley 45 = .ok (.getfield 10, 3) := by decide +kernel
theorem dX3_valley_48 : decode cX3_valley 48 = .ok (.iload_n 2, 1) := by decide +kernel
theorem dX3_valley_49 : decode cX3_valley 49 = .ok (.iload_n 1, 1) := by decide +kernel
theorem dX3_valley_50 : decode cX3_valley 50 = .ok (.invokevirtual 74, 3) := by decide +kernel
theorem dX3_valley_53 : decode cX3_valley 53 = .ok (.ifCond .eq 13, 3) := by decide +kernel
theorem dX3_valley_56 : decode cX3_valley 56 = .ok (.new 78, 3) := by decide +kernel
theorem dX3_valley_59 : decode cX3_valley 59 = .ok (.dup, 1) := by decide +kernel
theorem dX3_valley_60 : decode cX3_valley 60 = .ok (.ldc 80, 2) := by decide +kernel
theorem dX3_valley_62 : decode cX3_valley 62 = .ok (.invokespecial 82, 3) := by decide +kernel
theorem dX3_valley_65 : decode cX3_valley 65 = .ok (.athrow, 1) := by decide +kernel
theorem dX3_valley_66 : decode cX3_valley 66 = .ok (.aload_n 0, 1) := by decide +kernel
theorem dX3_valley_67 : decode cX3_valley 67 = .ok (.getfield 22, 3) := by decide +kernel
theorem dX3_valley_70 : decode cX3_valley 70 = .ok (.aload_n 0, 1) := by decide +kernel
theorem dX3_valley_71 : decode cX3_valley 71 = .ok (.getfield 10, 3) := by decide +kernel
theorem dX3_valley_74 : decode cX3_valley 74 = .ok (.invokevirtual 56, 3) := by decide +kernel
theorem dX3_valley_77 : decode cX3_valley 77 = .ok (.aload_n 0, 1) := by decide +kernel
theorem dX3_valley_78 : decode cX3_valley 78 = .ok (.getfield 10, 3) := by decide +kernel
theorem dX3_valley_81 : decode cX3_valley 81 = .ok (.iload_n 1, 1) := by decide +kernel
theorem dX3_valley_82 : decode cX3_valley 82 = .ok (.iload_n 2, 1) := by decide +kernel
theorem dX3_valley_83 : decode cX3_valley 83 = .ok (.invokevirtual 83, 3) := by decide +kernel
theorem dX3_valley_86 : decode cX3_valley 86 = .ok (.ireturn, 1) := by decide +kernel
set_option maxRecDepth 20000 in
theorem ggX3_clean_X3_isGutter : GoodIn wsX3_clean wsX3_isGutter := goodIn_r _ [8] (by decide +kernel) (by decide +kernel)
set_option maxRecDepth 20000 in
theorem gX3_clean_X3_isGutter : GoodIn wsX3_clean (va_wsS RX3 37 yX3_isGutter wsX3_isGutter) := goodIn_app (goodIn_of _ (by decide +kernel)) ggX3_clean_X3_isGutter
set_option maxRecDepth 20000 in
theorem ggX3_clean_X2_keep : GoodIn wsX3_clean wsX2_keep := goodIn_r _ [13, 14, 15, 16, 17, 18, 19, 20, 21, 22, 23, 24, 25, 26, 27, 28, 29, 30, 31, 32, 33, 34, 35, 36, 37, 38, 39, 40, 41, 42, 43, 44, 45, 46, 47, 48, 49, 50, 59, 60, 61, 62, 63, 64, 65, 66, 67, 68, 69, 70, 71, 72, 73, 74, 75, 76, 77] (by decide +kernel) (by decide +kernel)
set_option maxRecDepth 20000 in
theorem gX3_clean_X2_keep : GoodIn wsX3_clean (wsV RX3 56 RX2 yX2_keep wsX2_keep) := goodIn_app (goodIn_of _ (by decide +kernel)) ggX3_clean_X2_keep
set_option maxRecDepth 20000 in
theorem ggX3_clean_X1_takeLeaves : GoodIn wsX3_clean wsX1_takeLeaves := goodIn_r _ [54, 33, 62, 63, 64, 65, 66, 67, 68, 69, 70, 71, 72, 73, 74, 75, 76, 77] (by decide +kernel) (by decide +kernel)
set_option maxRecDepth 20000 in
theorem gX3_clean_X1_takeLeaves : GoodIn wsX3_clean (wsV RX3 87 RX1 yX1_takeLeaves wsX1_takeLeaves) := goodIn_app (goodIn_of _ (by decide +kernel)) ggX3_clean_X1_takeLeaves
theorem dX3_clean_0 : decode cX3_clean 0 = .ok (.iload_n 1, 1) := by decide +kernel
theorem dX3_clean_1 : decode cX3_clean 1 = .ok (.invokestatic 37, 3) := by decide +kernel
theorem dX3_clean_4 : decode cX3_clean 4 = .ok (.ifCond .ne 13, 3) := by decide +kernel
theorem dX3_clean_7 : decode cX3_clean 7 = .ok (.new 40, 3) := by decide +kernel
theorem dX3_clean_10 : decode cX3_clean 10 = .ok (.dup, 1) := by decide +kernel
theorem dX3_clean_11 : decode cX3_clean 11 = .ok (.ldc 64, 2) := by decide +kernel
theorem dX3_clean_13 : decode cX3_clean 13 = .ok (.invokespecial 44, 3) := by decide +kernel
theorem dX3_clean_16 : decode cX3_clean 16 = .ok (.athrow, 1) := by decide +kernel
theorem dX3_clean_17 : decode cX3_clean 17 = .ok (.aload_n 0, 1) := by decide +kernel
theorem dX3_clean_18 : decode cX3_clean 18 = .ok (.getfield 22, 3) := by decide +kernel
theorem dX3_clean_21 : decode cX3_clean 21 = .ok (.aload_n 0, 1) := by decide +kernel
theorem dX3_clean_22 : decode cX3_clean 22 = .ok (.getfield 10, 3) := by decide +kernel
theorem dX3_clean_25 : decode cX3_clean 25 = .ok (.invokevirtual 56, 3) := by decide +kernel
theorem dX3_clean_28 : decode cX3_clean 28 = .ok (.aload_n 0, 1) := by decide +kernel
theorem dX3_clean_29 : decode cX3_clean 29 = .ok (.getfield 10, 3) := by decide +kernel
theorem dX3_clean_32 : decode cX3_clean 32 = .ok (.iload_n 1, 1) := by decide +kernel
theorem dX3_clean_33 : decode cX3_clean 33 = .ok (.invokevirtual 87, 3) := by decide +kernel
theorem dX3_clean_36 : decode cX3_clean 36 = .ok (.ireturn, 1) := by decide +kernel
set_option maxRecDepth 20000 in
theorem ggX3_set_X3_isSetting : GoodIn wsX3_set wsX3_isSetting := goodIn_r _ [11] (by decide +kernel) (by decide +kernel)
set_option maxRecDepth 20000 in
theorem gX3_set_X3_isSetting : GoodIn wsX3_set (va_wsS RX3 91 yX3_isSetting wsX3_isSetting) := goodIn_app (goodIn_of _ (by decide +kernel)) ggX3_set_X3_isSetting
set_option maxRecDepth 20000 in
theorem ggX3_set_X3_isWithin : GoodIn wsX3_set wsX3_isWithin := goodIn_r _ [14] (by decide +kernel) (by decide +kernel)
set_option maxRecDepth 20000 in
theorem gX3_set_X3_isWithin : GoodIn wsX3_set (va_wsS RX3 47 yX3_isWithin wsX3_isWithin) := goodIn_app (goodIn_of _ (by decide +kernel)) ggX3_set_X3_isWithin
set_option maxRecDepth 20000 in
theorem ggX3_set_X2_keep : GoodIn wsX3_set wsX2_keep := goodIn_r _ [19, 20, 21, 22, 23, 24, 25, 26, 27, 28, 29, 30, 31, 32, 33, 34, 35, 36, 37, 38, 39, 40, 41, 42, 43, 44, 45, 46, 47, 48, 49, 50, 51, 52, 53, 54, 55, 56, 65, 66, 67, 68, 69, 70, 71, 72, 73, 74, 75, 76, 77, 78, 79, 80, 81, 82, 83] (by decide +kernel) (by decide +kernel)
set_option maxRecDepth 20000 in
theorem gX3_set_X2_keep : GoodIn wsX3_set (wsV RX3 56 RX2 yX2_keep wsX2_keep) := goodIn_app (goodIn_of _ (by decide +kernel)) ggX3_set_X2_keep
set_option maxRecDepth 20000 in
theorem ggX3_set_X1_changeSetting : GoodIn wsX3_set wsX1_changeSetting := goodIn_r _ [60, 44, 68, 69, 70, 71, 72, 73, 74, 75, 76, 77, 78, 79, 80, 81, 82, 83] (by decide +kernel) (by decide +kernel)
set_option maxRecDepth 20000 in
theorem gX3_set_X1_changeSetting : GoodIn wsX3_set (wsV RX3 102 RX1 yX1_changeSetting wsX1_changeSetting) := goodIn_app (goodIn_of _ (by decide +kernel)) ggX3_set_X1_changeSetting
theorem dX3_set_0 : decode cX3_set 0 = .ok (.iload_n 1, 1) := by decide +kernel
theorem dX3_set_1 : decode cX3_set 1 = .ok (.invokestatic 91, 3) := by decide +kernel
theorem dX3_set_4 : decode cX3_set 4 = .ok (.ifCond .ne 13, 3) := by decide +kernel
theorem dX3_set_7 : decode cX3_set 7 = .ok (.new 40, 3) := by decide +kernel
theorem dX3_set_10 : decode cX3_set 10 = .ok (.dup, 1) := by decide +kernel
theorem dX3_set_11 : decode cX3_set 11 = .ok (.ldc 94, 2) := by decide +kernel
theorem dX3_set_13 : decode cX3_set 13 = .ok (.invokespecial 44, 3) := by decide +kernel
theorem dX3_set_16 : decode cX3_set 16 = .ok (.athrow, 1) := by decide +kernel
theorem dX3_set_17 : decode cX3_set 17 = .ok (.iload_n 2, 1) := by decide +kernel
theorem dX3_set_18 : decode cX3_set 18 = .ok (.iconst 0, 1) := by decide +kernel
theorem dX3_set_19 : decode cX3_set 19 = .ok (.getstatic 96, 3) := by decide +kernel
theorem dX3_set_22 : decode cX3_set 22 = .ok (.iload_n 1, 1) := by decide +kernel
theorem dX3_set_23 : decode cX3_set 23 = .ok (.iaload, 1) := by decide +kernel
theorem dX3_set_24 : decode cX3_set 24 = .ok (.invokestatic 47, 3) := by decide +kernel
theorem dX3_set_27 : decode cX3_set 27 = .ok (.ifCond .ne 13, 3) := by decide +kernel
theorem dX3_set_30 : decode cX3_set 30 = .ok (.new 51, 3) := by decide +kernel
theorem dX3_set_33 : decode cX3_set 33 = .ok (.dup, 1) := by decide +kernel
theorem dX3_set_34 : decode cX3_set 34 = .ok (.ldc 100, 2) := by decide +kernel
theorem dX3_set_36 : decode cX3_set 36 = .ok (.invokespecial 55, 3) := by decide +kernel
theorem dX3_set_39 : decode cX3_set 39 = .ok (.athrow, 1) := by decide +kernel
theorem dX3_set_40 : decode cX3_set 40 = .ok (.aload_n 0, 1) := by decide +kernel
theorem dX3_set_41 : decode cX3_set 41 = .ok (.getfield 22, 3) := by decide +kernel
theorem dX3_set_44 : decode cX3_set 44 = .ok (.aload_n 0, 1) := by decide +kernel
theorem dX3_set_45 : decode cX3_set 45 = .ok (.getfield 10, 3) := by decide +kernel
theorem dX3_set_48 : decode cX3_set 48 = .ok (.invokevirtual 56, 3) := by decide +kernel
theorem dX3_set_51 : decode cX3_set 51 = .ok (.aload_n 0, 1) := by decide +kernel
theorem dX3_set_52 : decode cX3_set 52 = .ok (.getfield 10, 3) := by decide +kernel
theorem dX3_set_55 : decode cX3_set 55 = .ok (.iload_n 1, 1) := by decide +kernel
theorem dX3_set_56 : decode cX3_set 56 = .ok (.iload_n 2, 1) := by decide +kernel
theorem dX3_set_57 : decode cX3_set 57 = .ok (.invokevirtual 102, 3) := by decide +kernel
theorem dX3_set_60 : decode cX3_set 60 = .ok (.ireturn, 1) := by decide +kernel
set_option maxRecDepth 20000 in
theorem ggX3_rain_X3_isWithin : GoodIn wsX3_rain wsX3_isWithin := goodIn_r _ [8] (by decide +kernel) (by decide +kernel)
set_option maxRecDepth 20000 in
theorem gX3_rain_X3_isWithin : GoodIn wsX3_rain (va_wsS RX3 47 yX3_isWithin wsX3_isWithin) := goodIn_app (goodIn_of _ (by decide +kernel)) ggX3_rain_X3_isWithin
set_option maxRecDepth 20000 in
theorem ggX3_rain_X2_keep : GoodIn wsX3_rain wsX2_keep := goodIn_r _ [13, 14, 15, 16, 17, 18, 19, 20, 21, 22, 23, 24, 25, 26, 27, 28, 29, 30, 31, 32, 33, 34, 35, 36, 37, 38, 39, 40, 41, 42, 43, 44, 45, 46, 47, 48, 49, 50, 96, 97, 98, 99, 100, 101, 102, 103, 104, 105, 106, 107, 108, 109, 110, 111, 112, 113, 114] (by decide +kernel) (by decide +kernel)
set_option maxRecDepth 20000 in
theorem gX3_rain_X2_keep : GoodIn wsX3_rain (wsV RX3 56 RX2 yX2_keep wsX2_keep) := goodIn_app (goodIn_of _ (by decide +kernel)) ggX3_rain_X2_keep
set_option maxRecDepth 20000 in
theorem ggX3_rain_X1_spiltLitres : GoodIn wsX3_rain wsX1_spiltLitres := goodIn_r _ [54, 36, 55, 56, 19, 57, 99, 100, 101, 102, 103, 104, 105, 106, 107, 108, 109, 110, 111, 112, 113, 114] (by decide +kernel) (by decide +kernel)
set_option maxRecDepth 20000 in
theorem gX3_rain_X1_spiltLitres : GoodIn wsX3_rain (wsV RX3 107 RX1 yX1_spiltLitres wsX1_spiltLitres) := goodIn_app (goodIn_of _ (by decide +kernel)) ggX3_rain_X1_spiltLitres
set_option maxRecDepth 20000 in
theorem ggX3_rain_X1_passMinutes : GoodIn wsX3_rain wsX1_passMinutes := goodIn_r _ [61, 62, 63, 64, 19, 65, 47, 66, 67, 68, 69, 27, 49, 30, 28, 29, 35, 70, 7, 71, 72, 73, 74, 75, 38, 76, 77, 78, 79, 37, 50, 80, 81, 82, 83, 32, 33, 84, 85, 86, 87, 34, 36, 88, 89, 90, 91, 31, 99, 100, 101, 102, 103, 104, 105, 106, 107, 108, 109, 110, 111, 112, 113, 114] (by decide +kernel) (by decide +kernel)
set_option maxRecDepth 20000 in
theorem gX3_rain_X1_passMinutes : GoodIn wsX3_rain (wsV RX3 111 RX1 yX1_passMinutes wsX1_passMinutes) := goodIn_app (goodIn_of _ (by decide +kernel)) ggX3_rain_X1_passMinutes
theorem dX3_rain_0 : decode cX3_rain 0 = .ok (.iload_n 1, 1) := by decide +kernel
theorem dX3_rain_1 : decode cX3_rain 1 = .ok (.iconst 0, 1) := by decide +kernel
theorem dX3_rain_2 : decode cX3_rain 2 = .ok (.bipush 99, 2) := by decide +kernel
theorem dX3_rain_4 : decode cX3_rain 4 = .ok (.invokestatic 47, 3) := by decide +kernel
theorem dX3_rain_7 : decode cX3_rain 7 = .ok (.ifCond .eq 13, 3) := by decide +kernel
theorem dX3_rain_10 : decode cX3_rain 10 = .ok (.iload_n 2, 1) := by decide +kernel
theorem dX3_rain_11 : decode cX3_rain 11 = .ok (.iconst 1, 1) := by decide +kernel
theorem dX3_rain_12 : decode cX3_rain 12 = .ok (.bipush 60, 2) := by decide +kernel
theorem dX3_rain_14 : decode cX3_rain 14 = .ok (.invokestatic 47, 3) := by decide +kernel
theorem dX3_rain_17 : decode cX3_rain 17 = .ok (.ifCond .ne 13, 3) := by decide +kernel
theorem dX3_rain_20 : decode cX3_rain 20 = .ok (.new 51, 3) := by decide +kernel
theorem dX3_rain_23 : decode cX3_rain 23 = .ok (.dup, 1) := by decide +kernel
theorem dX3_rain_24 : decode cX3_rain 24 = .ok (.ldc 105, 2) := by decide +kernel
theorem dX3_rain_26 : decode cX3_rain 26 = .ok (.invokespecial 55, 3) := by decide +kernel
theorem dX3_rain_29 : decode cX3_rain 29 = .ok (.athrow, 1) := by decide +kernel
theorem dX3_rain_30 : decode cX3_rain 30 = .ok (.aload_n 0, 1) := by decide +kernel
theorem dX3_rain_31 : decode cX3_rain 31 = .ok (.getfield 22, 3) := by decide +kernel
theorem dX3_rain_34 : decode cX3_rain 34 = .ok (.aload_n 0, 1) := by decide +kernel
theorem dX3_rain_35 : decode cX3_rain 35 = .ok (.getfield 10, 3) := by decide +kernel
theorem dX3_rain_38 : decode cX3_rain 38 = .ok (.invokevirtual 56, 3) := by decide +kernel
theorem dX3_rain_41 : decode cX3_rain 41 = .ok (.aload_n 0, 1) := by decide +kernel
theorem dX3_rain_42 : decode cX3_rain 42 = .ok (.getfield 10, 3) := by decide +kernel
theorem dX3_rain_45 : decode cX3_rain 45 = .ok (.invokevirtual 107, 3) := by decide +kernel
theorem dX3_rain_48 : decode cX3_rain 48 = .ok (.istore_n 3, 1) := by decide +kernel
theorem dX3_rain_49 : decode cX3_rain 49 = .ok (.aload_n 0, 1) := by decide +kernel
theorem dX3_rain_50 : decode cX3_rain 50 = .ok (.getfield 10, 3) := by decide +kernel
theorem dX3_rain_53 : decode cX3_rain 53 = .ok (.iload_n 1, 1) := by decide +kernel
theorem dX3_rain_54 : decode cX3_rain 54 = .ok (.iload_n 2, 1) := by decide +kernel
theorem dX3_rain_55 : decode cX3_rain 55 = .ok (.invokevirtual 111, 3) := by decide +kernel
theorem dX3_rain_58 : decode cX3_rain 58 = .ok (.aload_n 0, 1) := by decide +kernel
theorem dX3_rain_59 : decode cX3_rain 59 = .ok (.getfield 10, 3) := by decide +kernel
theorem dX3_rain_62 : decode cX3_rain 62 = .ok (.invokevirtual 107, 3) := by decide +kernel
theorem dX3_rain_65 : decode cX3_rain 65 = .ok (.iload_n 3, 1) := by decide +kernel
theorem dX3_rain_66 : decode cX3_rain 66 = .ok (.isub, 1) := by decide +kernel
theorem dX3_rain_67 : decode cX3_rain 67 = .ok (.ireturn, 1) := by decide +kernel
set_option maxRecDepth 20000 in
theorem ggX3_weeks_X3_isWithin : GoodIn wsX3_weeks wsX3_isWithin := goodIn_r _ [8] (by decide +kernel) (by decide +kernel)
set_option maxRecDepth 20000 in
theorem gX3_weeks_X3_isWithin : GoodIn wsX3_weeks (va_wsS RX3 47 yX3_isWithin wsX3_isWithin) := goodIn_app (goodIn_of _ (by decide +kernel)) ggX3_weeks_X3_isWithin
set_option maxRecDepth 20000 in
theorem ggX3_weeks_X2_keep : GoodIn wsX3_weeks wsX2_keep := goodIn_r _ [13, 14, 15, 16, 17, 18, 19, 20, 21, 22, 23, 24, 25, 26, 27, 28, 29, 30, 31, 32, 33, 34, 35, 36, 37, 38, 39, 40, 41, 42, 43, 44, 45, 46, 47, 48, 49, 50, 70, 71, 72, 73, 74, 75, 76, 77, 78, 79, 80, 81, 82, 83, 84, 85, 86, 87, 88] (by decide +kernel) (by decide +kernel)
set_option maxRecDepth 20000 in
theorem gX3_weeks_X2_keep : GoodIn wsX3_weeks (wsV RX3 56 RX2 yX2_keep wsX2_keep) := goodIn_app (goodIn_of _ (by decide +kernel)) ggX3_weeks_X2_keep
set_option maxRecDepth 20000 in
theorem ggX3_weeks_X1_passWeek : GoodIn wsX3_weeks wsX1_passWeek := goodIn_r _ [54, 33, 38, 55, 56, 57, 58, 48, 73, 74, 75, 76, 77, 78, 79, 80, 81, 82, 83, 84, 85, 86, 87, 88] (by decide +kernel) (by decide +kernel)
set_option maxRecDepth 20000 in
theorem gX3_weeks_X1_passWeek : GoodIn wsX3_weeks (wsV RX3 117 RX1 yX1_passWeek wsX1_passWeek) := goodIn_app (goodIn_of _ (by decide +kernel)) ggX3_weeks_X1_passWeek
set_option maxRecDepth 20000 in
theorem ggX3_weeks_X1_leavesTogether : GoodIn wsX3_weeks wsX1_leavesTogether := goodIn_r _ [62, 33, 63, 64, 19, 65, 73, 74, 75, 76, 77, 78, 79, 80, 81, 82, 83, 84, 85, 86, 87, 88] (by decide +kernel) (by decide +kernel)
set_option maxRecDepth 20000 in
theorem gX3_weeks_X1_leavesTogether : GoodIn wsX3_weeks (wsV RX3 120 RX1 yX1_leavesTogether wsX1_leavesTogether) := goodIn_app (goodIn_of _ (by decide +kernel)) ggX3_weeks_X1_leavesTogether
theorem dX3_weeks_0 : decode cX3_weeks 0 = .ok (.iload_n 1, 1) := by decide +kernel
theorem dX3_weeks_1 : decode cX3_weeks 1 = .ok (.iconst 1, 1) := by decide +kernel
theorem dX3_weeks_2 : decode cX3_weeks 2 = .ok (.bipush 52, 2) := by decide +kernel
theorem dX3_weeks_4 : decode cX3_weeks 4 = .ok (.invokestatic 47, 3) := by decide +kernel
theorem dX3_weeks_7 : decode cX3_weeks 7 = .ok (.ifCond .ne 13, 3) := by decide +kernel
theorem dX3_weeks_10 : decode cX3_weeks 10 = .ok (.new 51, 3) := by decide +kernel
theorem dX3_weeks_13 : decode cX3_weeks 13 = .ok (.dup, 1) := by decide +kernel
theorem dX3_weeks_14 : decode cX3_weeks 14 = .ok (.ldc 115, 2) := by decide +kernel
theorem dX3_weeks_16 : decode cX3_weeks 16 = .ok (.invokespecial 55, 3) := by decide +kernel
theorem dX3_weeks_19 : decode cX3_weeks 19 = .ok (.athrow, 1) := by decide +kernel
theorem dX3_weeks_20 : decode cX3_weeks 20 = .ok (.aload_n 0, 1) := by decide +kernel
theorem dX3_weeks_21 : decode cX3_weeks 21 = .ok (.getfield 22, 3) := by decide +kernel
theorem dX3_weeks_24 : decode cX3_weeks 24 = .ok (.aload_n 0, 1) := by decide +kernel
theorem dX3_weeks_25 : decode cX3_weeks 25 = .ok (.getfield 10, 3) := by decide +kernel
theorem dX3_weeks_28 : decode cX3_weeks 28 = .ok (.invokevirtual 56, 3) := by decide +kernel
theorem dX3_weeks_31 : decode cX3_weeks 31 = .ok (.iconst 0, 1) := by decide +kernel
theorem dX3_weeks_32 : decode cX3_weeks 32 = .ok (.istore_n 2, 1) := by decide +kernel
theorem dX3_weeks_33 : decode cX3_weeks 33 = .ok (.iload_n 2, 1) := by decide +kernel
theorem dX3_weeks_34 : decode cX3_weeks 34 = .ok (.iload_n 1, 1) := by decide +kernel
theorem dX3_weeks_35 : decode cX3_weeks 35 = .ok (.if_icmp .ge 16, 3) := by decide +kernel
theorem dX3_weeks_38 : decode cX3_weeks 38 = .ok (.aload_n 0, 1) := by decide +kernel
theorem dX3_weeks_39 : decode cX3_weeks 39 = .ok (.getfield 10, 3) := by decide +kernel
theorem dX3_weeks_42 : decode cX3_weeks 42 = .ok (.invokevirtual 117, 3) := by decide +kernel
theorem dX3_weeks_45 : decode cX3_weeks 45 = .ok (.iinc 2 1, 3) := by decide +kernel
theorem dX3_weeks_48 : decode cX3_weeks 48 = .ok (.goto (-15), 3) := by decide +kernel
theorem dX3_weeks_51 : decode cX3_weeks 51 = .ok (.aload_n 0, 1) := by decide +kernel
theorem dX3_weeks_52 : decode cX3_weeks 52 = .ok (.getfield 10, 3) := by decide +kernel
theorem dX3_weeks_55 : decode cX3_weeks 55 = .ok (.invokevirtual 120, 3) := by decide +kernel
theorem dX3_weeks_58 : decode cX3_weeks 58 = .ok (.ireturn, 1) := by decide +kernel
set_option maxRecDepth 20000 in
theorem ggX3_append_X3_isWithin : GoodIn wsX3_append wsX3_isWithin := goodIn_r _ [9] (by decide +kernel) (by decide +kernel)
set_option maxRecDepth 20000 in
theorem gX3_append_X3_isWithin : GoodIn wsX3_append (va_wsS RX3 47 yX3_isWithin wsX3_isWithin) := goodIn_app (goodIn_of _ (by decide +kernel)) ggX3_append_X3_isWithin
set_option maxRecDepth 20000 in
theorem ggX3_append_X0_isFull : GoodIn wsX3_append wsX0_isFull := goodIn_r _ [14, 15, 29, 30] (by decide +kernel) (by decide +kernel)
set_option maxRecDepth 20000 in
theorem gX3_append_X0_isFull : GoodIn wsX3_append (wsV RX3 125 RX0 yX0_isFull wsX0_isFull) := goodIn_app (goodIn_of _ (by decide +kernel)) ggX3_append_X0_isFull
set_option maxRecDepth 20000 in
theorem ggX3_append_X0_add : GoodIn wsX3_append wsX0_add := goodIn_r _ [19, 20, 15, 29, 30] (by decide +kernel) (by decide +kernel)
set_option maxRecDepth 20000 in
theorem gX3_append_X0_add : GoodIn wsX3_append (wsV RX3 131 RX0 yX0_add wsX0_add) := goodIn_app (goodIn_of _ (by decide +kernel)) ggX3_append_X0_add
set_option maxRecDepth 20000 in
theorem ggX3_append_X0_length : GoodIn wsX3_append wsX0_length := goodIn_r _ [24, 15, 29, 30] (by decide +kernel) (by decide +kernel)
set_option maxRecDepth 20000 in
theorem gX3_append_X0_length : GoodIn wsX3_append (wsV RX3 135 RX0 yX0_length wsX0_length) := goodIn_app (goodIn_of _ (by decide +kernel)) ggX3_append_X0_length
theorem dX3_append_0 : decode cX3_append 0 = .ok (.iload_n 1, 1) := by decide +kernel
theorem dX3_append_1 : decode cX3_append 1 = .ok (.bipush 33, 2) := by decide +kernel
theorem dX3_append_3 : decode cX3_append 3 = .ok (.bipush 126, 2) := by decide +kernel
theorem dX3_append_5 : decode cX3_append 5 = .ok (.invokestatic 47, 3) := by decide +kernel
theorem dX3_append_8 : decode cX3_append 8 = .ok (.ifCond .ne 13, 3) := by decide +kernel
theorem dX3_append_11 : decode cX3_append 11 = .ok (.new 51, 3) := by decide +kernel
theorem dX3_append_14 : decode cX3_append 14 = .ok (.dup, 1) := by decide +kernel
theorem dX3_append_15 : decode cX3_append 15 = .ok (.ldc 123, 2) := by decide +kernel
theorem dX3_append_17 : decode cX3_append 17 = .ok (.invokespecial 55, 3) := by decide +kernel
theorem dX3_append_20 : decode cX3_append 20 = .ok (.athrow, 1) := by decide +kernel
theorem dX3_append_21 : decode cX3_append 21 = .ok (.aload_n 0, 1) := by decide +kernel
theorem dX3_append_22 : decode cX3_append 22 = .ok (.getfield 29, 3) := by decide +kernel
theorem dX3_append_25 : decode cX3_append 25 = .ok (.invokevirtual 125, 3) := by decide +kernel
theorem dX3_append_28 : decode cX3_append 28 = .ok (.ifCond .eq 13, 3) := by decide +kernel
theorem dX3_append_31 : decode cX3_append 31 = .ok (.new 78, 3) := by decide +kernel
theorem dX3_append_34 : decode cX3_append 34 = .ok (.dup, 1) := by decide +kernel
theorem dX3_append_35 : decode cX3_append 35 = .ok (.ldc 129, 2) := by decide +kernel
theorem dX3_append_37 : decode cX3_append 37 = .ok (.invokespecial 82, 3) := by decide +kernel
theorem dX3_append_40 : decode cX3_append 40 = .ok (.athrow, 1) := by decide +kernel
theorem dX3_append_41 : decode cX3_append 41 = .ok (.aload_n 0, 1) := by decide +kernel
theorem dX3_append_42 : decode cX3_append 42 = .ok (.getfield 29, 3) := by decide +kernel
theorem dX3_append_45 : decode cX3_append 45 = .ok (.iload_n 1, 1) := by decide +kernel
theorem dX3_append_46 : decode cX3_append 46 = .ok (.invokevirtual 131, 3) := by decide +kernel
theorem dX3_append_49 : decode cX3_append 49 = .ok (.aload_n 0, 1) := by decide +kernel
theorem dX3_append_50 : decode cX3_append 50 = .ok (.getfield 29, 3) := by decide +kernel
theorem dX3_append_53 : decode cX3_append 53 = .ok (.invokevirtual 135, 3) := by decide +kernel
theorem dX3_append_56 : decode cX3_append 56 = .ok (.ireturn, 1) := by decide +kernel
set_option maxRecDepth 20000 in
theorem ggX3_clearBuffer_X0_length : GoodIn wsX3_clearBuffer wsX0_length := goodIn_r _ [6, 7, 16, 17] (by decide +kernel) (by decide +kernel)
set_option maxRecDepth 20000 in
theorem gX3_clearBuffer_X0_length : GoodIn wsX3_clearBuffer (wsV RX3 135 RX0 yX0_length wsX0_length) := goodIn_app (goodIn_of _ (by decide +kernel)) ggX3_clearBuffer_X0_length
set_option maxRecDepth 20000 in
theorem ggX3_clearBuffer_X0_empty : GoodIn wsX3_clearBuffer wsX0_empty := goodIn_r _ [11, 7, 16, 17] (by decide +kernel) (by decide +kernel)
set_option maxRecDepth 20000 in
theorem gX3_clearBuffer_X0_empty : GoodIn wsX3_clearBuffer (wsV RX3 138 RX0 yX0_empty wsX0_empty) := goodIn_app (goodIn_of _ (by decide +kernel)) ggX3_clearBuffer_X0_empty
theorem dX3_clearBuffer_0 : decode cX3_clearBuffer 0 = .ok (.aload_n 0, 1) := by decide +kernel
theorem dX3_clearBuffer_1 : decode cX3_clearBuffer 1 = .ok (.getfield 29, 3) := by decide +kernel
theorem dX3_clearBuffer_4 : decode cX3_clearBuffer 4 = .ok (.invokevirtual 135, 3) := by decide +kernel
theorem dX3_clearBuffer_7 : decode cX3_clearBuffer 7 = .ok (.istore_n 1, 1) := by decide +kernel
theorem dX3_clearBuffer_8 : decode cX3_clearBuffer 8 = .ok (.aload_n 0, 1) := by decide +kernel
theorem dX3_clearBuffer_9 : decode cX3_clearBuffer 9 = .ok (.getfield 29, 3) := by decide +kernel
theorem dX3_clearBuffer_12 : decode cX3_clearBuffer 12 = .ok (.invokevirtual 138, 3) := by decide +kernel
theorem dX3_clearBuffer_15 : decode cX3_clearBuffer 15 = .ok (.iload_n 1, 1) := by decide +kernel
theorem dX3_clearBuffer_16 : decode cX3_clearBuffer 16 = .ok (.ireturn, 1) := by decide +kernel
set_option maxRecDepth 20000 in
theorem ggX3_firstError_X0_firstWrong : GoodIn wsX3_firstError wsX0_firstWrong := goodIn_r _ [6, 7, 8, 9, 10, 5, 11, 12, 13, 14, 15, 16, 17, 18, 19, 20, 21, 22, 23, 24, 25, 26, 31, 32] (by decide +kernel) (by decide +kernel)
set_option maxRecDepth 20000 in
theorem gX3_firstError_X0_firstWrong : GoodIn wsX3_firstError (wsV RX3 141 RX0 yX0_firstWrong wsX0_firstWrong) := goodIn_app (goodIn_of _ (by decide +kernel)) ggX3_firstError_X0_firstWrong
theorem dX3_firstError_0 : decode cX3_firstError 0 = .ok (.aload_n 0, 1) := by decide +kernel
theorem dX3_firstError_1 : decode cX3_firstError 1 = .ok (.getfield 29, 3) := by decide +kernel
theorem dX3_firstError_4 : decode cX3_firstError 4 = .ok (.invokevirtual 141, 3) := by decide +kernel
theorem dX3_firstError_7 : decode cX3_firstError 7 = .ok (.ireturn, 1) := by decide +kernel
set_option maxRecDepth 20000 in
theorem ggX3_play_X0_isComplete : GoodIn wsX3_play wsX0_isComplete := goodIn_r _ [10, 11, 12, 13, 14, 9, 15, 16, 17, 18, 19, 20, 21, 22, 23, 24, 25, 26, 27, 28, 29, 30, 140, 141] (by decide +kernel) (by decide +kernel)
set_option maxRecDepth 20000 in
theorem gX3_play_X0_isComplete : GoodIn wsX3_play (wsV RX3 144 RX0 yX0_isComplete wsX0_isComplete) := goodIn_app (goodIn_of _ (by decide +kernel)) ggX3_play_X0_isComplete
set_option maxRecDepth 20000 in
theorem ggX3_play_X2_keep : GoodIn wsX3_play wsX2_keep := goodIn_r _ [35, 36, 37, 38, 39, 40, 41, 42, 43, 44, 45, 46, 47, 48, 49, 50, 51, 52, 53, 54, 55, 56, 57, 58, 59, 60, 61, 62, 63, 64, 65, 66, 67, 68, 69, 70, 71, 72, 142, 143, 144, 145, 146, 147, 148, 149, 150, 151, 152, 153, 154, 155, 156, 157, 158, 159, 160] (by decide +kernel) (by decide +kernel)
set_option maxRecDepth 20000 in
theorem gX3_play_X2_keep : GoodIn wsX3_play (wsV RX3 56 RX2 yX2_keep wsX2_keep) := goodIn_app (goodIn_of _ (by decide +kernel)) ggX3_play_X2_keep
set_option maxRecDepth 20000 in
theorem ggX3_play_X1_spiltLitres : GoodIn wsX3_play wsX1_spiltLitres := goodIn_r _ [76, 58, 77, 78, 41, 79, 145, 146, 147, 148, 149, 150, 151, 152, 153, 154, 155, 156, 157, 158, 159, 160] (by decide +kernel) (by decide +kernel)
set_option maxRecDepth 20000 in
theorem gX3_play_X1_spiltLitres : GoodIn wsX3_play (wsV RX3 107 RX1 yX1_spiltLitres wsX1_spiltLitres) := goodIn_app (goodIn_of _ (by decide +kernel)) ggX3_play_X1_spiltLitres
set_option maxRecDepth 20000 in
theorem ggX3_play_X0_playOn : GoodIn wsX3_play wsX0_playOn := goodIn_r _ [83, 11, 12, 84, 85, 9, 86, 87, 88, 89, 41, 90, 55, 60, 91, 92, 93, 94, 70, 95, 96, 97, 98, 23, 99, 100, 101, 102, 103, 104, 105, 106, 107, 108, 109, 110, 111, 69, 112, 113, 114, 115, 49, 71, 52, 50, 51, 57, 116, 117, 118, 119, 59, 72, 120, 121, 122, 123, 54, 124, 125, 126, 127, 56, 58, 128, 129, 130, 131, 53, 22, 24, 140, 141, 145, 146, 147, 148, 149, 150, 151, 152, 153, 154, 155, 156, 157, 158, 159, 160] (by decide +kernel) (by decide +kernel)
set_option maxRecDepth 20000 in
theorem gX3_play_X0_playOn : GoodIn wsX3_play (wsV RX3 149 RX0 yX0_playOn wsX0_playOn) := goodIn_app (goodIn_of _ (by decide +kernel)) ggX3_play_X0_playOn
set_option maxRecDepth 20000 in
theorem ggX3_play_X0_empty : GoodIn wsX3_play wsX0_empty := goodIn_r _ [135, 11, 140, 141] (by decide +kernel) (by decide +kernel)
set_option maxRecDepth 20000 in
theorem gX3_play_X0_empty : GoodIn wsX3_play (wsV RX3 138 RX0 yX0_empty wsX0_empty) := goodIn_app (goodIn_of _ (by decide +kernel)) ggX3_play_X0_empty
theorem dX3_play_0 : decode cX3_play 0 = .ok (.aload_n 0, 1) := by decide +kernel
theorem dX3_play_1 : decode cX3_play 1 = .ok (.getfield 29, 3) := by decide +kernel
theorem dX3_play_4 : decode cX3_play 4 = .ok (.invokevirtual 144, 3) := by decide +kernel
theorem dX3_play_7 : decode cX3_play 7 = .ok (.ifCond .ne 13, 3) := by decide +kernel
theorem dX3_play_10 : decode cX3_play 10 = .ok (.new 51, 3) := by decide +kernel
theorem dX3_play_13 : decode cX3_play 13 = .ok (.dup, 1) := by decide +kernel
theorem dX3_play_14 : decode cX3_play 14 = .ok (.ldc 147, 2) := by decide +kernel
theorem dX3_play_16 : decode cX3_play 16 = .ok (.invokespecial 55, 3) := by decide +kernel
theorem dX3_play_19 : decode cX3_play 19 = .ok (.athrow, 1) := by decide +kernel
theorem dX3_play_20 : decode cX3_play 20 = .ok (.aload_n 0, 1) := by decide +kernel
theorem dX3_play_21 : decode cX3_play 21 = .ok (.getfield 22, 3) := by decide +kernel
theorem dX3_play_24 : decode cX3_play 24 = .ok (.aload_n 0, 1) := by decide +kernel
theorem dX3_play_25 : decode cX3_play 25 = .ok (.getfield 10, 3) := by decide +kernel
theorem dX3_play_28 : decode cX3_play 28 = .ok (.invokevirtual 56, 3) := by decide +kernel
theorem dX3_play_31 : decode cX3_play 31 = .ok (.aload_n 0, 1) := by decide +kernel
theorem dX3_play_32 : decode cX3_play 32 = .ok (.getfield 10, 3) := by decide +kernel
theorem dX3_play_35 : decode cX3_play 35 = .ok (.invokevirtual 107, 3) := by decide +kernel
theorem dX3_play_38 : decode cX3_play 38 = .ok (.istore_n 1, 1) := by decide +kernel
theorem dX3_play_39 : decode cX3_play 39 = .ok (.aload_n 0, 1) := by decide +kernel
theorem dX3_play_40 : decode cX3_play 40 = .ok (.getfield 29, 3) := by decide +kernel
theorem dX3_play_43 : decode cX3_play 43 = .ok (.aload_n 0, 1) := by decide +kernel
theorem dX3_play_44 : decode cX3_play 44 = .ok (.getfield 10, 3) := by decide +kernel
theorem dX3_play_47 : decode cX3_play 47 = .ok (.invokevirtual 149, 3) := by decide +kernel
theorem dX3_play_50 : decode cX3_play 50 = .ok (.aload_n 0, 1) := by decide +kernel
theorem dX3_play_51 : decode cX3_play 51 = .ok (.getfield 29, 3) := by decide +kernel
theorem dX3_play_54 : decode cX3_play 54 = .ok (.invokevirtual 138, 3) := by decide +kernel
theorem dX3_play_57 : decode cX3_play 57 = .ok (.aload_n 0, 1) := by decide +kernel
theorem dX3_play_58 : decode cX3_play 58 = .ok (.getfield 10, 3) := by decide +kernel
theorem dX3_play_61 : decode cX3_play 61 = .ok (.invokevirtual 107, 3) := by decide +kernel
theorem dX3_play_64 : decode cX3_play 64 = .ok (.iload_n 1, 1) := by decide +kernel
theorem dX3_play_65 : decode cX3_play 65 = .ok (.isub, 1) := by decide +kernel
theorem dX3_play_66 : decode cX3_play 66 = .ok (.ireturn, 1) := by decide +kernel
set_option maxRecDepth 20000 in
theorem ggX3_undo_X2_dropLatest : GoodIn wsX3_undo wsX2_dropLatest := goodIn_r _ [9, 10, 11, 12, 46, 47, 48] (by decide +kernel) (by decide +kernel)
set_option maxRecDepth 20000 in
theorem gX3_undo_X2_dropLatest : GoodIn wsX3_undo (wsV RX3 152 RX2 yX2_dropLatest wsX2_dropLatest) := goodIn_app (goodIn_of _ (by decide +kernel)) ggX3_undo_X2_dropLatest
set_option maxRecDepth 20000 in
theorem ggX3_undo_X1_copyFrom : GoodIn wsX3_undo wsX1_copyFrom := goodIn_r _ [17, 18, 19, 20, 21, 22, 23, 24, 25, 26, 27, 28, 29, 30, 31, 32, 33, 34, 35, 36, 37, 49, 50, 51, 52, 53, 54, 55, 56, 57, 58, 59, 60, 61, 62, 63, 64] (by decide +kernel) (by decide +kernel)
set_option maxRecDepth 20000 in
theorem gX3_undo_X1_copyFrom : GoodIn wsX3_undo (wsV RX3 158 RX1 yX1_copyFrom wsX1_copyFrom) := goodIn_app (goodIn_of _ (by decide +kernel)) ggX3_undo_X1_copyFrom
set_option maxRecDepth 20000 in
theorem ggX3_undo_X2_held : GoodIn wsX3_undo wsX2_held := goodIn_r _ [41, 10, 46, 47, 48] (by decide +kernel) (by decide +kernel)
set_option maxRecDepth 20000 in
theorem gX3_undo_X2_held : GoodIn wsX3_undo (wsV RX3 161 RX2 yX2_held wsX2_held) := goodIn_app (goodIn_of _ (by decide +kernel)) ggX3_undo_X2_held
theorem dX3_undo_0 : decode cX3_undo 0 = .ok (.aload_n 0, 1) := by decide +kernel
theorem dX3_undo_1 : decode cX3_undo 1 = .ok (.getfield 22, 3) := by decide +kernel
theorem dX3_undo_4 : decode cX3_undo 4 = .ok (.invokevirtual 152, 3) := by decide +kernel
theorem dX3_undo_7 : decode cX3_undo 7 = .ok (.astore_n 1, 1) := by decide +kernel
theorem dX3_undo_8 : decode cX3_undo 8 = .ok (.aload_n 1, 1) := by decide +kernel
theorem dX3_undo_9 : decode cX3_undo 9 = .ok (.ifnonnull 13, 3) := by decide +kernel
theorem dX3_undo_12 : decode cX3_undo 12 = .ok (.new 78, 3) := by decide +kernel
theorem dX3_undo_15 : decode cX3_undo 15 = .ok (.dup, 1) := by decide +kernel
theorem dX3_undo_16 : decode cX3_undo 16 = .ok (.ldc 156, 2) := by decide +kernel
theorem dX3_undo_18 : decode cX3_undo 18 = .ok (.invokespecial 82, 3) := by decide +kernel
theorem dX3_undo_21 : decode cX3_undo 21 = .ok (.athrow, 1) := by decide +kernel
theorem dX3_undo_22 : decode cX3_undo 22 = .ok (.aload_n 0, 1) := by decide +kernel
theorem dX3_undo_23 : decode cX3_undo 23 = .ok (.getfield 10, 3) := by decide +kernel
theorem dX3_undo_26 : decode cX3_undo 26 = .ok (.aload_n 1, 1) := by decide +kernel
theorem dX3_undo_27 : decode cX3_undo 27 = .ok (.invokevirtual 158, 3) := by decide +kernel
theorem dX3_undo_30 : decode cX3_undo 30 = .ok (.aload_n 0, 1) := by decide +kernel
theorem dX3_undo_31 : decode cX3_undo 31 = .ok (.getfield 22, 3) := by decide +kernel
theorem dX3_undo_34 : decode cX3_undo 34 = .ok (.invokevirtual 161, 3) := by decide +kernel
theorem dX3_undo_37 : decode cX3_undo 37 = .ok (.ireturn, 1) := by decide +kernel
set_option maxRecDepth 20000 in
theorem ggX3_planeOf_X3_isPlane : GoodIn wsX3_planeOf wsX3_isPlane := goodIn_r _ [9] (by decide +kernel) (by decide +kernel)
set_option maxRecDepth 20000 in
theorem gX3_planeOf_X3_isPlane : GoodIn wsX3_planeOf (va_wsS RX3 33 yX3_isPlane wsX3_isPlane) := goodIn_app (goodIn_of _ (by decide +kernel)) ggX3_planeOf_X3_isPlane
set_option maxRecDepth 20000 in
theorem ggX3_planeOf_X3_isWithin : GoodIn wsX3_planeOf wsX3_isWithin := goodIn_r _ [12] (by decide +kernel) (by decide +kernel)
set_option maxRecDepth 20000 in
theorem gX3_planeOf_X3_isWithin : GoodIn wsX3_planeOf (va_wsS RX3 47 yX3_isWithin wsX3_isWithin) := goodIn_app (goodIn_of _ (by decide +kernel)) ggX3_planeOf_X3_isWithin
set_option maxRecDepth 20000 in
theorem ggX3_planeOf_X1_planeNumber : GoodIn wsX3_planeOf wsX1_planeNumber := goodIn_r _ [17, 18, 19, 20, 21, 26, 27, 28, 29, 30, 31, 32, 33, 34, 35, 36, 37, 38, 39, 40, 41] (by decide +kernel) (by decide +kernel)
set_option maxRecDepth 20000 in
theorem gX3_planeOf_X1_planeNumber : GoodIn wsX3_planeOf (wsV RX3 168 RX1 yX1_planeNumber wsX1_planeNumber) := goodIn_app (goodIn_of _ (by decide +kernel)) ggX3_planeOf_X1_planeNumber
theorem dX3_planeOf_0 : decode cX3_planeOf 0 = .ok (.iload_n 1, 1) := by decide +kernel
theorem dX3_planeOf_1 : decode cX3_planeOf 1 = .ok (.invokestatic 33, 3) := by decide +kernel
theorem dX3_planeOf_4 : decode cX3_planeOf 4 = .ok (.ifCond .ne 13, 3) := by decide +kernel
theorem dX3_planeOf_7 : decode cX3_planeOf 7 = .ok (.new 40, 3) := by decide +kernel
theorem dX3_planeOf_10 : decode cX3_planeOf 10 = .ok (.dup, 1) := by decide +kernel
theorem dX3_planeOf_11 : decode cX3_planeOf 11 = .ok (.ldc 164, 2) := by decide +kernel
theorem dX3_planeOf_13 : decode cX3_planeOf 13 = .ok (.invokespecial 44, 3) := by decide +kernel
theorem dX3_planeOf_16 : decode cX3_planeOf 16 = .ok (.athrow, 1) := by decide +kernel
theorem dX3_planeOf_17 : decode cX3_planeOf 17 = .ok (.iload_n 2, 1) := by decide +kernel
theorem dX3_planeOf_18 : decode cX3_planeOf 18 = .ok (.iconst 0, 1) := by decide +kernel
theorem dX3_planeOf_19 : decode cX3_planeOf 19 = .ok (.iconst 3, 1) := by decide +kernel
theorem dX3_planeOf_20 : decode cX3_planeOf 20 = .ok (.invokestatic 47, 3) := by decide +kernel
theorem dX3_planeOf_23 : decode cX3_planeOf 23 = .ok (.ifCond .ne 13, 3) := by decide +kernel
theorem dX3_planeOf_26 : decode cX3_planeOf 26 = .ok (.new 51, 3) := by decide +kernel
theorem dX3_planeOf_29 : decode cX3_planeOf 29 = .ok (.dup, 1) := by decide +kernel
theorem dX3_planeOf_30 : decode cX3_planeOf 30 = .ok (.ldc 166, 2) := by decide +kernel
theorem dX3_planeOf_32 : decode cX3_planeOf 32 = .ok (.invokespecial 55, 3) := by decide +kernel
theorem dX3_planeOf_35 : decode cX3_planeOf 35 = .ok (.athrow, 1) := by decide +kernel
theorem dX3_planeOf_36 : decode cX3_planeOf 36 = .ok (.aload_n 0, 1) := by decide +kernel
theorem dX3_planeOf_37 : decode cX3_planeOf 37 = .ok (.getfield 10, 3) := by decide +kernel
theorem dX3_planeOf_40 : decode cX3_planeOf 40 = .ok (.iload_n 1, 1) := by decide +kernel
theorem dX3_planeOf_41 : decode cX3_planeOf 41 = .ok (.iload_n 2, 1) := by decide +kernel
theorem dX3_planeOf_42 : decode cX3_planeOf 42 = .ok (.invokevirtual 168, 3) := by decide +kernel
theorem dX3_planeOf_45 : decode cX3_planeOf 45 = .ok (.ireturn, 1) := by decide +kernel
set_option maxRecDepth 20000 in
theorem ggX3_gutterOf_X3_isGutter : GoodIn wsX3_gutterOf wsX3_isGutter := goodIn_r _ [9] (by decide +kernel) (by decide +kernel)
set_option maxRecDepth 20000 in
theorem gX3_gutterOf_X3_isGutter : GoodIn wsX3_gutterOf (va_wsS RX3 37 yX3_isGutter wsX3_isGutter) := goodIn_app (goodIn_of _ (by decide +kernel)) ggX3_gutterOf_X3_isGutter
set_option maxRecDepth 20000 in
theorem ggX3_gutterOf_X3_isWithin : GoodIn wsX3_gutterOf wsX3_isWithin := goodIn_r _ [12] (by decide +kernel) (by decide +kernel)
set_option maxRecDepth 20000 in
theorem gX3_gutterOf_X3_isWithin : GoodIn wsX3_gutterOf (va_wsS RX3 47 yX3_isWithin wsX3_isWithin) := goodIn_app (goodIn_of _ (by decide +kernel)) ggX3_gutterOf_X3_isWithin
set_option maxRecDepth 20000 in
theorem ggX3_gutterOf_X1_gutterNumber : GoodIn wsX3_gutterOf wsX1_gutterNumber := goodIn_r _ [17, 18, 19, 20, 21, 22, 23, 24, 25, 26, 27, 16, 28, 29, 30, 31, 32, 37, 38, 39, 40, 41, 42, 43, 44, 45, 46, 47, 48, 49, 50, 51, 52] (by decide +kernel) (by decide +kernel)
set_option maxRecDepth 20000 in
theorem gX3_gutterOf_X1_gutterNumber : GoodIn wsX3_gutterOf (wsV RX3 173 RX1 yX1_gutterNumber wsX1_gutterNumber) := goodIn_app (goodIn_of _ (by decide +kernel)) ggX3_gutterOf_X1_gutterNumber
theorem dX3_gutterOf_0 : decode cX3_gutterOf 0 = .ok (.iload_n 1, 1) := by decide +kernel
theorem dX3_gutterOf_1 : decode cX3_gutterOf 1 = .ok (.invokestatic 37, 3) := by decide +kernel
theorem dX3_gutterOf_4 : decode cX3_gutterOf 4 = .ok (.ifCond .ne 13, 3) := by decide +kernel
theorem dX3_gutterOf_7 : decode cX3_gutterOf 7 = .ok (.new 40, 3) := by decide +kernel
theorem dX3_gutterOf_10 : decode cX3_gutterOf 10 = .ok (.dup, 1) := by decide +kernel
theorem dX3_gutterOf_11 : decode cX3_gutterOf 11 = .ok (.ldc 64, 2) := by decide +kernel
theorem dX3_gutterOf_13 : decode cX3_gutterOf 13 = .ok (.invokespecial 44, 3) := by decide +kernel
theorem dX3_gutterOf_16 : decode cX3_gutterOf 16 = .ok (.athrow, 1) := by decide +kernel
theorem dX3_gutterOf_17 : decode cX3_gutterOf 17 = .ok (.iload_n 2, 1) := by decide +kernel
theorem dX3_gutterOf_18 : decode cX3_gutterOf 18 = .ok (.iconst 0, 1) := by decide +kernel
theorem dX3_gutterOf_19 : decode cX3_gutterOf 19 = .ok (.bipush 8, 2) := by decide +kernel
theorem dX3_gutterOf_21 : decode cX3_gutterOf 21 = .ok (.invokestatic 47, 3) := by decide +kernel
theorem dX3_gutterOf_24 : decode cX3_gutterOf 24 = .ok (.ifCond .ne 13, 3) := by decide +kernel
theorem dX3_gutterOf_27 : decode cX3_gutterOf 27 = .ok (.new 51, 3) := by decide +kernel
theorem dX3_gutterOf_30 : decode cX3_gutterOf 30 = .ok (.dup, 1) := by decide +kernel
theorem dX3_gutterOf_31 : decode cX3_gutterOf 31 = .ok (.ldc 171, 2) := by decide +kernel
theorem dX3_gutterOf_33 : decode cX3_gutterOf 33 = .ok (.invokespecial 55, 3) := by decide +kernel
theorem dX3_gutterOf_36 : decode cX3_gutterOf 36 = .ok (.athrow, 1) := by decide +kernel
theorem dX3_gutterOf_37 : decode cX3_gutterOf 37 = .ok (.aload_n 0, 1) := by decide +kernel
theorem dX3_gutterOf_38 : decode cX3_gutterOf 38 = .ok (.getfield 10, 3) := by decide +kernel
theorem dX3_gutterOf_41 : decode cX3_gutterOf 41 = .ok (.iload_n 1, 1) := by decide +kernel
theorem dX3_gutterOf_42 : decode cX3_gutterOf 42 = .ok (.iload_n 2, 1) := by decide +kernel
theorem dX3_gutterOf_43 : decode cX3_gutterOf 43 = .ok (.invokevirtual 173, 3) := by decide +kernel
theorem dX3_gutterOf_46 : decode cX3_gutterOf 46 = .ok (.ireturn, 1) := by decide +kernel
set_option maxRecDepth 20000 in
theorem ggX3_count_X1_minutesGone : GoodIn wsX3_count wsX1_minutesGone := goodIn_r _ [9, 10, 60, 61, 62, 63, 64, 65, 66, 67, 68, 69, 70, 71, 72, 73, 74, 75] (by decide +kernel) (by decide +kernel)
set_option maxRecDepth 20000 in
theorem gX3_count_X1_minutesGone : GoodIn wsX3_count (wsV RX3 176 RX1 yX1_minutesGone wsX1_minutesGone) := goodIn_app (goodIn_of _ (by decide +kernel)) ggX3_count_X1_minutesGone
set_option maxRecDepth 20000 in
theorem ggX3_count_X1_weeksPassed : GoodIn wsX3_count wsX1_weeksPassed := goodIn_r _ [14, 15, 60, 61, 62, 63, 64, 65, 66, 67, 68, 69, 70, 71, 72, 73, 74, 75] (by decide +kernel) (by decide +kernel)
set_option maxRecDepth 20000 in
theorem gX3_count_X1_weeksPassed : GoodIn wsX3_count (wsV RX3 179 RX1 yX1_weeksPassed wsX1_weeksPassed) := goodIn_app (goodIn_of _ (by decide +kernel)) ggX3_count_X1_weeksPassed
set_option maxRecDepth 20000 in
theorem ggX3_count_X1_rainedLitres : GoodIn wsX3_count wsX1_rainedLitres := goodIn_r _ [19, 20, 60, 61, 62, 63, 64, 65, 66, 67, 68, 69, 70, 71, 72, 73, 74, 75] (by decide +kernel) (by decide +kernel)
set_option maxRecDepth 20000 in
theorem gX3_count_X1_rainedLitres : GoodIn wsX3_count (wsV RX3 182 RX1 yX1_rainedLitres wsX1_rainedLitres) := goodIn_app (goodIn_of _ (by decide +kernel)) ggX3_count_X1_rainedLitres
set_option maxRecDepth 20000 in
theorem ggX3_count_X1_standingLitres : GoodIn wsX3_count wsX1_standingLitres := goodIn_r _ [24, 25, 26, 27, 28, 8, 29, 60, 61, 62, 63, 64, 65, 66, 67, 68, 69, 70, 71, 72, 73, 74, 75] (by decide +kernel) (by decide +kernel)
set_option maxRecDepth 20000 in
theorem gX3_count_X1_standingLitres : GoodIn wsX3_count (wsV RX3 185 RX1 yX1_standingLitres wsX1_standingLitres) := goodIn_app (goodIn_of _ (by decide +kernel)) ggX3_count_X1_standingLitres
set_option maxRecDepth 20000 in
theorem ggX3_count_X1_drainedLitres : GoodIn wsX3_count wsX1_drainedLitres := goodIn_r _ [33, 34, 27, 28, 8, 29, 60, 61, 62, 63, 64, 65, 66, 67, 68, 69, 70, 71, 72, 73, 74, 75] (by decide +kernel) (by decide +kernel)
set_option maxRecDepth 20000 in
theorem gX3_count_X1_drainedLitres : GoodIn wsX3_count (wsV RX3 188 RX1 yX1_drainedLitres wsX1_drainedLitres) := goodIn_app (goodIn_of _ (by decide +kernel)) ggX3_count_X1_drainedLitres
set_option maxRecDepth 20000 in
theorem ggX3_count_X1_spiltLitres : GoodIn wsX3_count wsX1_spiltLitres := goodIn_r _ [38, 39, 27, 28, 8, 29, 60, 61, 62, 63, 64, 65, 66, 67, 68, 69, 70, 71, 72, 73, 74, 75] (by decide +kernel) (by decide +kernel)
set_option maxRecDepth 20000 in
theorem gX3_count_X1_spiltLitres : GoodIn wsX3_count (wsV RX3 107 RX1 yX1_spiltLitres wsX1_spiltLitres) := goodIn_app (goodIn_of _ (by decide +kernel)) ggX3_count_X1_spiltLitres
set_option maxRecDepth 20000 in
theorem ggX3_count_X1_backedUpMinutes : GoodIn wsX3_count wsX1_backedUpMinutes := goodIn_r _ [43, 44, 60, 61, 62, 63, 64, 65, 66, 67, 68, 69, 70, 71, 72, 73, 74, 75] (by decide +kernel) (by decide +kernel)
set_option maxRecDepth 20000 in
theorem gX3_count_X1_backedUpMinutes : GoodIn wsX3_count (wsV RX3 191 RX1 yX1_backedUpMinutes wsX1_backedUpMinutes) := goodIn_app (goodIn_of _ (by decide +kernel)) ggX3_count_X1_backedUpMinutes
set_option maxRecDepth 20000 in
theorem ggX3_count_X1_leavesTogether : GoodIn wsX3_count wsX1_leavesTogether := goodIn_r _ [48, 49, 27, 28, 8, 29, 60, 61, 62, 63, 64, 65, 66, 67, 68, 69, 70, 71, 72, 73, 74, 75] (by decide +kernel) (by decide +kernel)
set_option maxRecDepth 20000 in
theorem gX3_count_X1_leavesTogether : GoodIn wsX3_count (wsV RX3 120 RX1 yX1_leavesTogether wsX1_leavesTogether) := goodIn_app (goodIn_of _ (by decide +kernel)) ggX3_count_X1_leavesTogether
set_option maxRecDepth 20000 in
theorem ggX3_count_X2_held : GoodIn wsX3_count wsX2_held := goodIn_r _ [54, 55, 76, 77, 78] (by decide +kernel) (by decide +kernel)
set_option maxRecDepth 20000 in
theorem gX3_count_X2_held : GoodIn wsX3_count (wsV RX3 161 RX2 yX2_held wsX2_held) := goodIn_app (goodIn_of _ (by decide +kernel)) ggX3_count_X2_held
theorem dX3_count_0 : decode cX3_count 0 = .ok (.iload_n 1, 1) := by decide +kernel
theorem dX3_count_1 : decode cX3_count 1 = .ok (.tableswitch 123 0 8 #[51, 59, 67, 75, 83, 91, 99, 107, 115], 51) := by decide +kernel
theorem dX3_count_52 : decode cX3_count 52 = .ok (.aload_n 0, 1) := by decide +kernel
theorem dX3_count_53 : decode cX3_count 53 = .ok (.getfield 10, 3) := by decide +kernel
theorem dX3_count_56 : decode cX3_count 56 = .ok (.invokevirtual 176, 3) := by decide +kernel
theorem dX3_count_59 : decode cX3_count 59 = .ok (.ireturn, 1) := by decide +kernel
theorem dX3_count_60 : decode cX3_count 60 = .ok (.aload_n 0, 1) := by decide +kernel
theorem dX3_count_61 : decode cX3_count 61 = .ok (.getfield 10, 3) := by decide +kernel
theorem dX3_count_64 : decode cX3_count 64 = .ok (.invokevirtual 179, 3) := by decide +kernel
theorem dX3_count_67 : decode cX3_count 67 = .ok (.ireturn, 1) := by decide +kernel
theorem dX3_count_68 : decode cX3_count 68 = .ok (.aload_n 0, 1) := by decide +kernel
theorem dX3_count_69 : decode cX3_count 69 = .ok (.getfield 10, 3) := by decide +kernel
theorem dX3_count_72 : decode cX3_count 72 = .ok (.invokevirtual 182, 3) := by decide +kernel
theorem dX3_count_75 : decode cX3_count 75 = .ok (.ireturn, 1) := by decide +kernel
theorem dX3_count_76 : decode cX3_count 76 = .ok (.aload_n 0, 1) := by decide +kernel
theorem dX3_count_77 : decode cX3_count 77 = .ok (.getfield 10, 3) := by decide +kernel
theorem dX3_count_80 : decode cX3_count 80 = .ok (.invokevirtual 185, 3) := by decide +kernel
theorem dX3_count_83 : decode cX3_count 83 = .ok (.ireturn, 1) := by decide +kernel
theorem dX3_count_84 : decode cX3_count 84 = .ok (.aload_n 0, 1) := by decide +kernel
theorem dX3_count_85 : decode cX3_count 85 = .ok (.getfield 10, 3) := by decide +kernel
theorem dX3_count_88 : decode cX3_count 88 = .ok (.invokevirtual 188, 3) := by decide +kernel
theorem dX3_count_91 : decode cX3_count 91 = .ok (.ireturn, 1) := by decide +kernel
theorem dX3_count_92 : decode cX3_count 92 = .ok (.aload_n 0, 1) := by decide +kernel
theorem dX3_count_93 : decode cX3_count 93 = .ok (.getfield 10, 3) := by decide +kernel
theorem dX3_count_96 : decode cX3_count 96 = .ok (.invokevirtual 107, 3) := by decide +kernel
theorem dX3_count_99 : decode cX3_count 99 = .ok (.ireturn, 1) := by decide +kernel
theorem dX3_count_100 : decode cX3_count 100 = .ok (.aload_n 0, 1) := by decide +kernel
theorem dX3_count_101 : decode cX3_count 101 = .ok (.getfield 10, 3) := by decide +kernel
theorem dX3_count_104 : decode cX3_count 104 = .ok (.invokevirtual 191, 3) := by decide +kernel
theorem dX3_count_107 : decode cX3_count 107 = .ok (.ireturn, 1) := by decide +kernel
theorem dX3_count_108 : decode cX3_count 108 = .ok (.aload_n 0, 1) := by decide +kernel
theorem dX3_count_109 : decode cX3_count 109 = .ok (.getfield 10, 3) := by decide +kernel
theorem dX3_count_112 : decode cX3_count 112 = .ok (.invokevirtual 120, 3) := by decide +kernel
theorem dX3_count_115 : decode cX3_count 115 = .ok (.ireturn, 1) := by decide +kernel
theorem dX3_count_116 : decode cX3_count 116 = .ok (.aload_n 0, 1) := by decide +kernel
theorem dX3_count_117 : decode cX3_count 117 = .ok (.getfield 22, 3) := by decide +kernel
theorem dX3_count_120 : decode cX3_count 120 = .ok (.invokevirtual 161, 3) := by decide +kernel
theorem dX3_count_123 : decode cX3_count 123 = .ok (.ireturn, 1) := by decide +kernel
theorem dX3_count_124 : decode cX3_count 124 = .ok (.new 51, 3) := by decide +kernel
theorem dX3_count_127 : decode cX3_count 127 = .ok (.dup, 1) := by decide +kernel
theorem dX3_count_128 : decode cX3_count 128 = .ok (.ldc 171, 2) := by decide +kernel
theorem dX3_count_130 : decode cX3_count 130 = .ok (.invokespecial 55, 3) := by decide +kernel
theorem dX3_count_133 : decode cX3_count 133 = .ok (.athrow, 1) := by decide +kernel
set_option maxRecDepth 20000 in
theorem ggX3_setting_X3_isSetting : GoodIn wsX3_setting wsX3_isSetting := goodIn_r _ [7] (by decide +kernel) (by decide +kernel)
set_option maxRecDepth 20000 in
theorem gX3_setting_X3_isSetting : GoodIn wsX3_setting (va_wsS RX3 91 yX3_isSetting wsX3_isSetting) := goodIn_app (goodIn_of _ (by decide +kernel)) ggX3_setting_X3_isSetting
set_option maxRecDepth 20000 in
theorem ggX3_setting_X1_settingValue : GoodIn wsX3_setting wsX1_settingValue := goodIn_r _ [12, 13, 18, 19, 20, 21, 22, 23, 24, 25, 26, 27, 28, 29, 30, 31, 32, 33] (by decide +kernel) (by decide +kernel)
set_option maxRecDepth 20000 in
theorem gX3_setting_X1_settingValue : GoodIn wsX3_setting (wsV RX3 194 RX1 yX1_settingValue wsX1_settingValue) := goodIn_app (goodIn_of _ (by decide +kernel)) ggX3_setting_X1_settingValue
theorem dX3_setting_0 : decode cX3_setting 0 = .ok (.iload_n 1, 1) := by decide +kernel
theorem dX3_setting_1 : decode cX3_setting 1 = .ok (.invokestatic 91, 3) := by decide +kernel
theorem dX3_setting_4 : decode cX3_setting 4 = .ok (.ifCond .ne 13, 3) := by decide +kernel
theorem dX3_setting_7 : decode cX3_setting 7 = .ok (.new 40, 3) := by decide +kernel
theorem dX3_setting_10 : decode cX3_setting 10 = .ok (.dup, 1) := by decide +kernel
theorem dX3_setting_11 : decode cX3_setting 11 = .ok (.ldc 94, 2) := by decide +kernel
theorem dX3_setting_13 : decode cX3_setting 13 = .ok (.invokespecial 44, 3) := by decide +kernel
theorem dX3_setting_16 : decode cX3_setting 16 = .ok (.athrow, 1) := by decide +kernel
theorem dX3_setting_17 : decode cX3_setting 17 = .ok (.aload_n 0, 1) := by decide +kernel
theorem dX3_setting_18 : decode cX3_setting 18 = .ok (.getfield 10, 3) := by decide +kernel
theorem dX3_setting_21 : decode cX3_setting 21 = .ok (.iload_n 1, 1) := by decide +kernel
theorem dX3_setting_22 : decode cX3_setting 22 = .ok (.invokevirtual 194, 3) := by decide +kernel
theorem dX3_setting_25 : decode cX3_setting 25 = .ok (.ireturn, 1) := by decide +kernel
set_option maxRecDepth 20000 in
theorem ggX3_ifRained_X3_isWithin : GoodIn wsX3_ifRained wsX3_isWithin := goodIn_r _ [8] (by decide +kernel) (by decide +kernel)
set_option maxRecDepth 20000 in
theorem gX3_ifRained_X3_isWithin : GoodIn wsX3_ifRained (va_wsS RX3 47 yX3_isWithin wsX3_isWithin) := goodIn_app (goodIn_of _ (by decide +kernel)) ggX3_ifRained_X3_isWithin
set_option maxRecDepth 20000 in
theorem ggX3_ifRained_X1_copyFrom : GoodIn wsX3_ifRained wsX1_copyFrom := goodIn_r _ [13, 14, 15, 16, 17, 18, 19, 20, 21, 22, 23, 24, 25, 26, 27, 28, 29, 30, 31, 32, 33, 91, 92, 93, 94, 95, 96, 97, 98, 99, 100, 101, 102, 103, 104, 105, 106] (by decide +kernel) (by decide +kernel)
set_option maxRecDepth 20000 in
theorem gX3_ifRained_X1_copyFrom : GoodIn wsX3_ifRained (wsV RX3 158 RX1 yX1_copyFrom wsX1_copyFrom) := goodIn_app (goodIn_of _ (by decide +kernel)) ggX3_ifRained_X1_copyFrom
set_option maxRecDepth 20000 in
theorem ggX3_ifRained_X1_settingValue : GoodIn wsX3_ifRained wsX1_settingValue := goodIn_r _ [37, 29, 91, 92, 93, 94, 95, 96, 97, 98, 99, 100, 101, 102, 103, 104, 105, 106] (by decide +kernel) (by decide +kernel)
set_option maxRecDepth 20000 in
theorem gX3_ifRained_X1_settingValue : GoodIn wsX3_ifRained (wsV RX3 194 RX1 yX1_settingValue wsX1_settingValue) := goodIn_app (goodIn_of _ (by decide +kernel)) ggX3_ifRained_X1_settingValue
set_option maxRecDepth 20000 in
theorem ggX3_ifRained_X1_passMinutes : GoodIn wsX3_ifRained wsX1_passMinutes := goodIn_r _ [41, 42, 43, 44, 12, 45, 30, 46, 47, 48, 49, 14, 32, 21, 19, 20, 26, 50, 7, 51, 52, 53, 54, 55, 29, 56, 57, 58, 59, 28, 33, 60, 61, 62, 63, 23, 24, 64, 65, 66, 67, 25, 27, 68, 69, 70, 71, 22, 91, 92, 93, 94, 95, 96, 97, 98, 99, 100, 101, 102, 103, 104, 105, 106] (by decide +kernel) (by decide +kernel)
set_option maxRecDepth 20000 in
theorem gX3_ifRained_X1_passMinutes : GoodIn wsX3_ifRained (wsV RX3 111 RX1 yX1_passMinutes wsX1_passMinutes) := goodIn_app (goodIn_of _ (by decide +kernel)) ggX3_ifRained_X1_passMinutes
set_option maxRecDepth 20000 in
theorem ggX3_ifRained_X1_spiltLitres : GoodIn wsX3_ifRained wsX1_spiltLitres := goodIn_r _ [75, 27, 76, 77, 12, 78, 91, 92, 93, 94, 95, 96, 97, 98, 99, 100, 101, 102, 103, 104, 105, 106] (by decide +kernel) (by decide +kernel)
set_option maxRecDepth 20000 in
theorem gX3_ifRained_X1_spiltLitres : GoodIn wsX3_ifRained (wsV RX3 107 RX1 yX1_spiltLitres wsX1_spiltLitres) := goodIn_app (goodIn_of _ (by decide +kernel)) ggX3_ifRained_X1_spiltLitres
set_option maxRecDepth 20000 in
theorem ggX3_ifRained_X1_drainedLitres : GoodIn wsX3_ifRained wsX1_drainedLitres := goodIn_r _ [82, 28, 76, 77, 12, 78, 91, 92, 93, 94, 95, 96, 97, 98, 99, 100, 101, 102, 103, 104, 105, 106] (by decide +kernel) (by decide +kernel)
set_option maxRecDepth 20000 in
theorem gX3_ifRained_X1_drainedLitres : GoodIn wsX3_ifRained (wsV RX3 188 RX1 yX1_drainedLitres wsX1_drainedLitres) := goodIn_app (goodIn_of _ (by decide +kernel)) ggX3_ifRained_X1_drainedLitres
set_option maxRecDepth 20000 in
theorem ggX3_ifRained_X1_standingLitres : GoodIn wsX3_ifRained wsX1_standingLitres := goodIn_r _ [86, 21, 26, 76, 77, 12, 78, 91, 92, 93, 94, 95, 96, 97, 98, 99, 100, 101, 102, 103, 104, 105, 106] (by decide +kernel) (by decide +kernel)
set_option maxRecDepth 20000 in
theorem gX3_ifRained_X1_standingLitres : GoodIn wsX3_ifRained (wsV RX3 185 RX1 yX1_standingLitres wsX1_standingLitres) := goodIn_app (goodIn_of _ (by decide +kernel)) ggX3_ifRained_X1_standingLitres
theorem dX3_ifRained_0 : decode cX3_ifRained 0 = .ok (.iload_n 1, 1) := by decide +kernel
theorem dX3_ifRained_1 : decode cX3_ifRained 1 = .ok (.iconst 1, 1) := by decide +kernel
theorem dX3_ifRained_2 : decode cX3_ifRained 2 = .ok (.bipush 60, 2) := by decide +kernel
theorem dX3_ifRained_4 : decode cX3_ifRained 4 = .ok (.invokestatic 47, 3) := by decide +kernel
theorem dX3_ifRained_7 : decode cX3_ifRained 7 = .ok (.ifCond .eq 12, 3) := by decide +kernel
theorem dX3_ifRained_10 : decode cX3_ifRained 10 = .ok (.iload_n 2, 1) := by decide +kernel
theorem dX3_ifRained_11 : decode cX3_ifRained 11 = .ok (.iconst 0, 1) := by decide +kernel
theorem dX3_ifRained_12 : decode cX3_ifRained 12 = .ok (.iconst 2, 1) := by decide +kernel
theorem dX3_ifRained_13 : decode cX3_ifRained 13 = .ok (.invokestatic 47, 3) := by decide +kernel
theorem dX3_ifRained_16 : decode cX3_ifRained 16 = .ok (.ifCond .ne 13, 3) := by decide +kernel
theorem dX3_ifRained_19 : decode cX3_ifRained 19 = .ok (.new 51, 3) := by decide +kernel
theorem dX3_ifRained_22 : decode cX3_ifRained 22 = .ok (.dup, 1) := by decide +kernel
theorem dX3_ifRained_23 : decode cX3_ifRained 23 = .ok (.ldc 197, 2) := by decide +kernel
theorem dX3_ifRained_25 : decode cX3_ifRained 25 = .ok (.invokespecial 55, 3) := by decide +kernel
theorem dX3_ifRained_28 : decode cX3_ifRained 28 = .ok (.athrow, 1) := by decide +kernel
theorem dX3_ifRained_29 : decode cX3_ifRained 29 = .ok (.aload_n 0, 1) := by decide +kernel
theorem dX3_ifRained_30 : decode cX3_ifRained 30 = .ok (.getfield 16, 3) := by decide +kernel
theorem dX3_ifRained_33 : decode cX3_ifRained 33 = .ok (.aload_n 0, 1) := by decide +kernel
theorem dX3_ifRained_34 : decode cX3_ifRained 34 = .ok (.getfield 10, 3) := by decide +kernel
theorem dX3_ifRained_37 : decode cX3_ifRained 37 = .ok (.invokevirtual 158, 3) := by decide +kernel
theorem dX3_ifRained_40 : decode cX3_ifRained 40 = .ok (.aload_n 0, 1) := by decide +kernel
theorem dX3_ifRained_41 : decode cX3_ifRained 41 = .ok (.getfield 16, 3) := by decide +kernel
theorem dX3_ifRained_44 : decode cX3_ifRained 44 = .ok (.aload_n 0, 1) := by decide +kernel
theorem dX3_ifRained_45 : decode cX3_ifRained 45 = .ok (.getfield 10, 3) := by decide +kernel
theorem dX3_ifRained_48 : decode cX3_ifRained 48 = .ok (.iconst 2, 1) := by decide +kernel
theorem dX3_ifRained_49 : decode cX3_ifRained 49 = .ok (.invokevirtual 194, 3) := by decide +kernel
theorem dX3_ifRained_52 : decode cX3_ifRained 52 = .ok (.iload_n 1, 1) := by decide +kernel
theorem dX3_ifRained_53 : decode cX3_ifRained 53 = .ok (.invokevirtual 111, 3) := by decide +kernel
theorem dX3_ifRained_56 : decode cX3_ifRained 56 = .ok (.iload_n 2, 1) := by decide +kernel
theorem dX3_ifRained_57 : decode cX3_ifRained 57 = .ok (.ifCond .ne 19, 3) := by decide +kernel
theorem dX3_ifRained_60 : decode cX3_ifRained 60 = .ok (.aload_n 0, 1) := by decide +kernel
theorem dX3_ifRained_61 : decode cX3_ifRained 61 = .ok (.getfield 16, 3) := by decide +kernel
theorem dX3_ifRained_64 : decode cX3_ifRained 64 = .ok (.invokevirtual 107, 3) := by decide +kernel
theorem dX3_ifRained_67 : decode cX3_ifRained 67 = .ok (.aload_n 0, 1) := by decide +kernel
theorem dX3_ifRained_68 : decode cX3_ifRained 68 = .ok (.getfield 10, 3) := by decide +kernel
theorem dX3_ifRained_71 : decode cX3_ifRained 71 = .ok (.invokevirtual 107, 3) := by decide +kernel
theorem dX3_ifRained_74 : decode cX3_ifRained 74 = .ok (.isub, 1) := by decide +kernel
theorem dX3_ifRained_75 : decode cX3_ifRained 75 = .ok (.ireturn, 1) := by decide +kernel
theorem dX3_ifRained_76 : decode cX3_ifRained 76 = .ok (.iload_n 2, 1) := by decide +kernel
theorem dX3_ifRained_77 : decode cX3_ifRained 77 = .ok (.iconst 1, 1) := by decide +kernel
theorem dX3_ifRained_78 : decode cX3_ifRained 78 = .ok (.if_icmp .ne 19, 3) := by decide +kernel
theorem dX3_ifRained_81 : decode cX3_ifRained 81 = .ok (.aload_n 0, 1) := by decide +kernel
theorem dX3_ifRained_82 : decode cX3_ifRained 82 = .ok (.getfield 16, 3) := by decide +kernel
theorem dX3_ifRained_85 : decode cX3_ifRained 85 = .ok (.invokevirtual 188, 3) := by decide +kernel
theorem dX3_ifRained_88 : decode cX3_ifRained 88 = .ok (.aload_n 0, 1) := by decide +kernel
theorem dX3_ifRained_89 : decode cX3_ifRained 89 = .ok (.getfield 10, 3) := by decide +kernel
theorem dX3_ifRained_92 : decode cX3_ifRained 92 = .ok (.invokevirtual 188, 3) := by decide +kernel
theorem dX3_ifRained_95 : decode cX3_ifRained 95 = .ok (.isub, 1) := by decide +kernel
theorem dX3_ifRained_96 : decode cX3_ifRained 96 = .ok (.ireturn, 1) := by decide +kernel
theorem dX3_ifRained_97 : decode cX3_ifRained 97 = .ok (.aload_n 0, 1) := by decide +kernel
theorem dX3_ifRained_98 : decode cX3_ifRained 98 = .ok (.getfield 16, 3) := by decide +kernel
theorem dX3_ifRained_101 : decode cX3_ifRained 101 = .ok (.invokevirtual 185, 3) := by decide +kernel
theorem dX3_ifRained_104 : decode cX3_ifRained 104 = .ok (.ireturn, 1) := by decide +kernel
set_option maxRecDepth 20000 in
theorem ggX3_spillsFirst_X3_isWithin : GoodIn wsX3_spillsFirst wsX3_isWithin := goodIn_r _ [8] (by decide +kernel) (by decide +kernel)
set_option maxRecDepth 20000 in
theorem gX3_spillsFirst_X3_isWithin : GoodIn wsX3_spillsFirst (va_wsS RX3 47 yX3_isWithin wsX3_isWithin) := goodIn_app (goodIn_of _ (by decide +kernel)) ggX3_spillsFirst_X3_isWithin
set_option maxRecDepth 20000 in
theorem ggX3_spillsFirst_X1_copyFrom : GoodIn wsX3_spillsFirst wsX1_copyFrom := goodIn_r _ [13, 14, 15, 16, 17, 18, 19, 20, 21, 22, 23, 24, 25, 26, 27, 28, 29, 30, 31, 32, 33, 76, 77, 78, 79, 80, 81, 82, 83, 84, 85, 86, 87, 88, 89, 90, 91] (by decide +kernel) (by decide +kernel)
set_option maxRecDepth 20000 in
theorem gX3_spillsFirst_X1_copyFrom : GoodIn wsX3_spillsFirst (wsV RX3 158 RX1 yX1_copyFrom wsX1_copyFrom) := goodIn_app (goodIn_of _ (by decide +kernel)) ggX3_spillsFirst_X1_copyFrom
set_option maxRecDepth 20000 in
theorem ggX3_spillsFirst_X1_settingValue : GoodIn wsX3_spillsFirst wsX1_settingValue := goodIn_r _ [37, 29, 76, 77, 78, 79, 80, 81, 82, 83, 84, 85, 86, 87, 88, 89, 90, 91] (by decide +kernel) (by decide +kernel)
set_option maxRecDepth 20000 in
theorem gX3_spillsFirst_X1_settingValue : GoodIn wsX3_spillsFirst (wsV RX3 194 RX1 yX1_settingValue wsX1_settingValue) := goodIn_app (goodIn_of _ (by decide +kernel)) ggX3_spillsFirst_X1_settingValue
set_option maxRecDepth 20000 in
theorem ggX3_spillsFirst_X1_passMinute : GoodIn wsX3_spillsFirst wsX1_passMinute := goodIn_r _ [41, 30, 42, 43, 44, 12, 45, 14, 32, 21, 19, 20, 26, 46, 7, 47, 48, 49, 50, 51, 29, 52, 53, 54, 55, 28, 33, 56, 57, 58, 59, 23, 24, 60, 61, 62, 63, 25, 27, 64, 65, 66, 67, 22, 76, 77, 78, 79, 80, 81, 82, 83, 84, 85, 86, 87, 88, 89, 90, 91] (by decide +kernel) (by decide +kernel)
set_option maxRecDepth 20000 in
theorem gX3_spillsFirst_X1_passMinute : GoodIn wsX3_spillsFirst (wsV RX3 201 RX1 yX1_passMinute wsX1_passMinute) := goodIn_app (goodIn_of _ (by decide +kernel)) ggX3_spillsFirst_X1_passMinute
set_option maxRecDepth 20000 in
theorem ggX3_spillsFirst_X1_lowestThatSpiltMoreThanIn : GoodIn wsX3_spillsFirst wsX1_lowestThatSpiltMoreThanIn := goodIn_r _ [71, 27, 76, 77, 78, 79, 80, 81, 82, 83, 84, 85, 86, 87, 88, 89, 90, 91] (by decide +kernel) (by decide +kernel)
set_option maxRecDepth 20000 in
theorem gX3_spillsFirst_X1_lowestThatSpiltMoreThanIn : GoodIn wsX3_spillsFirst (wsV RX3 204 RX1 yX1_lowestThatSpiltMoreThanIn wsX1_lowestThatSpiltMoreThanIn) := goodIn_app (goodIn_of _ (by decide +kernel)) ggX3_spillsFirst_X1_lowestThatSpiltMoreThanIn
theorem dX3_spillsFirst_0 : decode cX3_spillsFirst 0 = .ok (.iload_n 1, 1) := by decide +kernel
theorem dX3_spillsFirst_1 : decode cX3_spillsFirst 1 = .ok (.iconst 0, 1) := by decide +kernel
theorem dX3_spillsFirst_2 : decode cX3_spillsFirst 2 = .ok (.iconst 1, 1) := by decide +kernel
theorem dX3_spillsFirst_3 : decode cX3_spillsFirst 3 = .ok (.invokestatic 47, 3) := by decide +kernel
theorem dX3_spillsFirst_6 : decode cX3_spillsFirst 6 = .ok (.ifCond .ne 13, 3) := by decide +kernel
theorem dX3_spillsFirst_9 : decode cX3_spillsFirst 9 = .ok (.new 51, 3) := by decide +kernel
theorem dX3_spillsFirst_12 : decode cX3_spillsFirst 12 = .ok (.dup, 1) := by decide +kernel
theorem dX3_spillsFirst_13 : decode cX3_spillsFirst 13 = .ok (.ldc 199, 2) := by decide +kernel
theorem dX3_spillsFirst_15 : decode cX3_spillsFirst 15 = .ok (.invokespecial 55, 3) := by decide +kernel
theorem dX3_spillsFirst_18 : decode cX3_spillsFirst 18 = .ok (.athrow, 1) := by decide +kernel
theorem dX3_spillsFirst_19 : decode cX3_spillsFirst 19 = .ok (.aload_n 0, 1) := by decide +kernel
theorem dX3_spillsFirst_20 : decode cX3_spillsFirst 20 = .ok (.getfield 16, 3) := by decide +kernel
theorem dX3_spillsFirst_23 : decode cX3_spillsFirst 23 = .ok (.aload_n 0, 1) := by decide +kernel
theorem dX3_spillsFirst_24 : decode cX3_spillsFirst 24 = .ok (.getfield 10, 3) := by decide +kernel
theorem dX3_spillsFirst_27 : decode cX3_spillsFirst 27 = .ok (.invokevirtual 158, 3) := by decide +kernel
theorem dX3_spillsFirst_30 : decode cX3_spillsFirst 30 = .ok (.iconst 1, 1) := by decide +kernel
theorem dX3_spillsFirst_31 : decode cX3_spillsFirst 31 = .ok (.istore_n 2, 1) := by decide +kernel
theorem dX3_spillsFirst_32 : decode cX3_spillsFirst 32 = .ok (.iload_n 2, 1) := by decide +kernel
theorem dX3_spillsFirst_33 : decode cX3_spillsFirst 33 = .ok (.bipush 60, 2) := by decide +kernel
theorem dX3_spillsFirst_35 : decode cX3_spillsFirst 35 = .ok (.if_icmp .gt 51, 3) := by decide +kernel
theorem dX3_spillsFirst_38 : decode cX3_spillsFirst 38 = .ok (.aload_n 0, 1) := by decide +kernel
theorem dX3_spillsFirst_39 : decode cX3_spillsFirst 39 = .ok (.getfield 16, 3) := by decide +kernel
theorem dX3_spillsFirst_42 : decode cX3_spillsFirst 42 = .ok (.aload_n 0, 1) := by decide +kernel
theorem dX3_spillsFirst_43 : decode cX3_spillsFirst 43 = .ok (.getfield 10, 3) := by decide +kernel
theorem dX3_spillsFirst_46 : decode cX3_spillsFirst 46 = .ok (.iconst 2, 1) := by decide +kernel
theorem dX3_spillsFirst_47 : decode cX3_spillsFirst 47 = .ok (.invokevirtual 194, 3) := by decide +kernel
theorem dX3_spillsFirst_50 : decode cX3_spillsFirst 50 = .ok (.invokevirtual 201, 3) := by decide +kernel
theorem dX3_spillsFirst_53 : decode cX3_spillsFirst 53 = .ok (.aload_n 0, 1) := by decide +kernel
theorem dX3_spillsFirst_54 : decode cX3_spillsFirst 54 = .ok (.getfield 16, 3) := by decide +kernel
theorem dX3_spillsFirst_57 : decode cX3_spillsFirst 57 = .ok (.aload_n 0, 1) := by decide +kernel
theorem dX3_spillsFirst_58 : decode cX3_spillsFirst 58 = .ok (.getfield 10, 3) := by decide +kernel
theorem dX3_spillsFirst_61 : decode cX3_spillsFirst 61 = .ok (.invokevirtual 204, 3) := by decide +kernel
theorem dX3_spillsFirst_64 : decode cX3_spillsFirst 64 = .ok (.istore_n 3, 1) := by decide +kernel
theorem dX3_spillsFirst_65 : decode cX3_spillsFirst 65 = .ok (.iload_n 3, 1) := by decide +kernel
theorem dX3_spillsFirst_66 : decode cX3_spillsFirst 66 = .ok (.iconst (-1), 1) := by decide +kernel
theorem dX3_spillsFirst_67 : decode cX3_spillsFirst 67 = .ok (.if_icmp .eq 13, 3) := by decide +kernel
theorem dX3_spillsFirst_70 : decode cX3_spillsFirst 70 = .ok (.iload_n 1, 1) := by decide +kernel
theorem dX3_spillsFirst_71 : decode cX3_spillsFirst 71 = .ok (.ifCond .ne 7, 3) := by decide +kernel
theorem dX3_spillsFirst_74 : decode cX3_spillsFirst 74 = .ok (.iload_n 3, 1) := by decide +kernel
theorem dX3_spillsFirst_75 : decode cX3_spillsFirst 75 = .ok (.goto 4, 3) := by decide +kernel
theorem dX3_spillsFirst_78 : decode cX3_spillsFirst 78 = .ok (.iload_n 2, 1) := by decide +kernel
theorem dX3_spillsFirst_79 : decode cX3_spillsFirst 79 = .ok (.ireturn, 1) := by decide +kernel
theorem dX3_spillsFirst_80 : decode cX3_spillsFirst 80 = .ok (.iinc 2 1, 3) := by decide +kernel
theorem dX3_spillsFirst_83 : decode cX3_spillsFirst 83 = .ok (.goto (-51), 3) := by decide +kernel
theorem dX3_spillsFirst_86 : decode cX3_spillsFirst 86 = .ok (.iconst (-1), 1) := by decide +kernel
theorem dX3_spillsFirst_87 : decode cX3_spillsFirst 87 = .ok (.ireturn, 1) := by decide +kernel
set_option maxRecDepth 20000 in
theorem ggX3_bestClean_X1_hasLeaves : GoodIn wsX3_bestClean wsX1_hasLeaves := goodIn_r _ [6, 7, 90, 91, 92, 93, 94, 95, 96, 97, 98, 99, 100, 101, 102, 103, 104, 105] (by decide +kernel) (by decide +kernel)
set_option maxRecDepth 20000 in
theorem gX3_bestClean_X1_hasLeaves : GoodIn wsX3_bestClean (wsV RX3 208 RX1 yX1_hasLeaves wsX1_hasLeaves) := goodIn_app (goodIn_of _ (by decide +kernel)) ggX3_bestClean_X1_hasLeaves
set_option maxRecDepth 20000 in
theorem ggX3_bestClean_X3_spiltIfCleaned : GoodIn wsX3_bestClean wsX3_spiltIfCleaned := goodIn_r _ [12, 13, 1, 14, 15, 16, 5, 17, 18, 19, 20, 21, 22, 23, 24, 25, 26, 27, 7, 28, 29, 30, 31, 32, 33, 34, 35, 36, 37, 38, 39, 40, 41, 42, 43, 44, 45, 46, 47, 48, 49, 50, 51, 52, 53, 54, 55, 56, 57, 11, 58, 59, 60, 61, 62, 63, 64, 65, 66, 67, 68, 69, 70, 71, 72, 73, 74, 75, 76, 77, 78, 79, 80, 81, 82, 83, 84, 85, 86, 87, 88, 89, 90, 91, 92, 93, 94, 95, 96, 97, 98, 99, 100, 101, 102, 103, 104, 105] (by decide +kernel) (by decide +kernel)
set_option maxRecDepth 20000 in
theorem gX3_bestClean_X3_spiltIfCleaned : GoodIn wsX3_bestClean (wsV RX3 211 RX3 yX3_spiltIfCleaned wsX3_spiltIfCleaned) := goodIn_app (goodIn_of _ (by decide +kernel)) ggX3_bestClean_X3_spiltIfCleaned
theorem dX3_bestClean_0 : decode cX3_bestClean 0 = .ok (.iconst (-1), 1) := by decide +kernel
theorem dX3_bestClean_1 : decode cX3_bestClean 1 = .ok (.istore_n 1, 1) := by decide +kernel
theorem dX3_bestClean_2 : decode cX3_bestClean 2 = .ok (.iconst 0, 1) := by decide +kernel
theorem dX3_bestClean_3 : decode cX3_bestClean 3 = .ok (.istore_n 2, 1) := by decide +kernel
theorem dX3_bestClean_4 : decode cX3_bestClean 4 = .ok (.iconst 0, 1) := by decide +kernel
theorem dX3_bestClean_5 : decode cX3_bestClean 5 = .ok (.istore_n 3, 1) := by decide +kernel
theorem dX3_bestClean_6 : decode cX3_bestClean 6 = .ok (.iload_n 3, 1) := by decide +kernel
theorem dX3_bestClean_7 : decode cX3_bestClean 7 = .ok (.bipush 6, 2) := by decide +kernel
theorem dX3_bestClean_9 : decode cX3_bestClean 9 = .ok (.if_icmp .ge 43, 3) := by decide +kernel
theorem dX3_bestClean_12 : decode cX3_bestClean 12 = .ok (.aload_n 0, 1) := by decide +kernel
theorem dX3_bestClean_13 : decode cX3_bestClean 13 = .ok (.getfield 10, 3) := by decide +kernel
theorem dX3_bestClean_16 : decode cX3_bestClean 16 = .ok (.iload_n 3, 1) := by decide +kernel
theorem dX3_bestClean_17 : decode cX3_bestClean 17 = .ok (.invokevirtual 208, 3) := by decide +kernel
theorem dX3_bestClean_20 : decode cX3_bestClean 20 = .ok (.ifCond .eq 26, 3) := by decide +kernel
theorem dX3_bestClean_23 : decode cX3_bestClean 23 = .ok (.aload_n 0, 1) := by decide +kernel
theorem dX3_bestClean_24 : decode cX3_bestClean 24 = .ok (.iload_n 3, 1) := by decide +kernel
theorem dX3_bestClean_25 : decode cX3_bestClean 25 = .ok (.invokevirtual 211, 3) := by decide +kernel
theorem dX3_bestClean_28 : decode cX3_bestClean 28 = .ok (.istore 4, 2) := by decide +kernel
theorem dX3_bestClean_30 : decode cX3_bestClean 30 = .ok (.iload_n 1, 1) := by decide +kernel
theorem dX3_bestClean_31 : decode cX3_bestClean 31 = .ok (.iconst (-1), 1) := by decide +kernel
theorem dX3_bestClean_32 : decode cX3_bestClean 32 = .ok (.if_icmp .eq 9, 3) := by decide +kernel
theorem dX3_bestClean_35 : decode cX3_bestClean 35 = .ok (.iload 4, 2) := by decide +kernel
theorem dX3_bestClean_37 : decode cX3_bestClean 37 = .ok (.iload_n 2, 1) := by decide +kernel
theorem dX3_bestClean_38 : decode cX3_bestClean 38 = .ok (.if_icmp .ge 8, 3) := by decide +kernel
theorem dX3_bestClean_41 : decode cX3_bestClean 41 = .ok (.iload_n 3, 1) := by decide +kernel
theorem dX3_bestClean_42 : decode cX3_bestClean 42 = .ok (.istore_n 1, 1) := by decide +kernel
theorem dX3_bestClean_43 : decode cX3_bestClean 43 = .ok (.iload 4, 2) := by decide +kernel
theorem dX3_bestClean_45 : decode cX3_bestClean 45 = .ok (.istore_n 2, 1) := by decide +kernel
theorem dX3_bestClean_46 : decode cX3_bestClean 46 = .ok (.iinc 3 1, 3) := by decide +kernel
theorem dX3_bestClean_49 : decode cX3_bestClean 49 = .ok (.goto (-43), 3) := by decide +kernel
theorem dX3_bestClean_52 : decode cX3_bestClean 52 = .ok (.iload_n 1, 1) := by decide +kernel
theorem dX3_bestClean_53 : decode cX3_bestClean 53 = .ok (.ireturn, 1) := by decide +kernel
set_option maxRecDepth 20000 in
theorem ggX3_mostRain_X3_isWithin : GoodIn wsX3_mostRain wsX3_isWithin := goodIn_r _ [6] (by decide +kernel) (by decide +kernel)
set_option maxRecDepth 20000 in
theorem gX3_mostRain_X3_isWithin : GoodIn wsX3_mostRain (va_wsS RX3 47 yX3_isWithin wsX3_isWithin) := goodIn_app (goodIn_of _ (by decide +kernel)) ggX3_mostRain_X3_isWithin
set_option maxRecDepth 20000 in
theorem ggX3_mostRain_X3_wouldSpill : GoodIn wsX3_mostRain wsX3_wouldSpill := goodIn_r _ [10, 11, 12, 13, 14, 15, 16, 17, 18, 19, 20, 21, 22, 23, 24, 25, 26, 27, 28, 29, 30, 31, 32, 33, 34, 35, 36, 37, 38, 39, 40, 41, 42, 43, 44, 45, 46, 5, 47, 48, 49, 50, 51, 52, 53, 54, 55, 56, 57, 58, 59, 60, 61, 62, 63, 64, 65, 66, 67, 68, 69, 70, 71, 72, 73, 74, 75, 76, 77, 78, 79, 80, 81, 82, 83, 84, 85, 86, 87, 88, 89, 90, 91] (by decide +kernel) (by decide +kernel)
set_option maxRecDepth 20000 in
theorem gX3_mostRain_X3_wouldSpill : GoodIn wsX3_mostRain (wsV RX3 216 RX3 yX3_wouldSpill wsX3_wouldSpill) := goodIn_app (goodIn_of _ (by decide +kernel)) ggX3_mostRain_X3_wouldSpill
theorem dX3_mostRain_0 : decode cX3_mostRain 0 = .ok (.iload_n 1, 1) := by decide +kernel
theorem dX3_mostRain_1 : decode cX3_mostRain 1 = .ok (.iconst 1, 1) := by decide +kernel
theorem dX3_mostRain_2 : decode cX3_mostRain 2 = .ok (.bipush 60, 2) := by decide +kernel
theorem dX3_mostRain_4 : decode cX3_mostRain 4 = .ok (.invokestatic 47, 3) := by decide +kernel
theorem dX3_mostRain_7 : decode cX3_mostRain 7 = .ok (.ifCond .ne 13, 3) := by decide +kernel
theorem dX3_mostRain_10 : decode cX3_mostRain 10 = .ok (.new 51, 3) := by decide +kernel
theorem dX3_mostRain_13 : decode cX3_mostRain 13 = .ok (.dup, 1) := by decide +kernel
theorem dX3_mostRain_14 : decode cX3_mostRain 14 = .ok (.ldc 214, 2) := by decide +kernel
theorem dX3_mostRain_16 : decode cX3_mostRain 16 = .ok (.invokespecial 55, 3) := by decide +kernel
theorem dX3_mostRain_19 : decode cX3_mostRain 19 = .ok (.athrow, 1) := by decide +kernel
theorem dX3_mostRain_20 : decode cX3_mostRain 20 = .ok (.bipush 99, 2) := by decide +kernel
theorem dX3_mostRain_22 : decode cX3_mostRain 22 = .ok (.istore_n 2, 1) := by decide +kernel
theorem dX3_mostRain_23 : decode cX3_mostRain 23 = .ok (.iload_n 2, 1) := by decide +kernel
theorem dX3_mostRain_24 : decode cX3_mostRain 24 = .ok (.ifCond .lt 20, 3) := by decide +kernel
theorem dX3_mostRain_27 : decode cX3_mostRain 27 = .ok (.aload_n 0, 1) := by decide +kernel
theorem dX3_mostRain_28 : decode cX3_mostRain 28 = .ok (.iload_n 2, 1) := by decide +kernel
theorem dX3_mostRain_29 : decode cX3_mostRain 29 = .ok (.iload_n 1, 1) := by decide +kernel
theorem dX3_mostRain_30 : decode cX3_mostRain 30 = .ok (.invokevirtual 216, 3) := by decide +kernel
theorem dX3_mostRain_33 : decode cX3_mostRain 33 = .ok (.ifCond .ne 5, 3) := by decide +kernel
theorem dX3_mostRain_36 : decode cX3_mostRain 36 = .ok (.iload_n 2, 1) := by decide +kernel
theorem dX3_mostRain_37 : decode cX3_mostRain 37 = .ok (.ireturn, 1) := by decide +kernel
theorem dX3_mostRain_38 : decode cX3_mostRain 38 = .ok (.iinc 2 (-1), 3) := by decide +kernel
theorem dX3_mostRain_41 : decode cX3_mostRain 41 = .ok (.goto (-18), 3) := by decide +kernel
theorem dX3_mostRain_44 : decode cX3_mostRain 44 = .ok (.iconst (-1), 1) := by decide +kernel
theorem dX3_mostRain_45 : decode cX3_mostRain 45 = .ok (.ireturn, 1) := by decide +kernel
set_option maxRecDepth 20000 in
theorem ggX3_dryIn_X1_copyFrom : GoodIn wsX3_dryIn wsX1_copyFrom := goodIn_r _ [7, 8, 9, 10, 11, 12, 13, 14, 15, 16, 17, 18, 19, 20, 21, 22, 23, 24, 25, 26, 27, 70, 71, 72, 73, 74, 75, 76, 77, 78, 79, 80, 81, 82, 83, 84, 85] (by decide +kernel) (by decide +kernel)
set_option maxRecDepth 20000 in
theorem gX3_dryIn_X1_copyFrom : GoodIn wsX3_dryIn (wsV RX3 158 RX1 yX1_copyFrom wsX1_copyFrom) := goodIn_app (goodIn_of _ (by decide +kernel)) ggX3_dryIn_X1_copyFrom
set_option maxRecDepth 20000 in
theorem ggX3_dryIn_X1_standingLitres : GoodIn wsX3_dryIn wsX1_standingLitres := goodIn_r _ [31, 15, 20, 32, 33, 6, 34, 70, 71, 72, 73, 74, 75, 76, 77, 78, 79, 80, 81, 82, 83, 84, 85] (by decide +kernel) (by decide +kernel)
set_option maxRecDepth 20000 in
theorem gX3_dryIn_X1_standingLitres : GoodIn wsX3_dryIn (wsV RX3 185 RX1 yX1_standingLitres wsX1_standingLitres) := goodIn_app (goodIn_of _ (by decide +kernel)) ggX3_dryIn_X1_standingLitres
set_option maxRecDepth 20000 in
theorem ggX3_dryIn_X1_passMinute : GoodIn wsX3_dryIn wsX1_passMinute := goodIn_r _ [38, 24, 39, 40, 41, 6, 42, 8, 26, 15, 13, 14, 20, 43, 44, 45, 46, 47, 48, 49, 23, 50, 51, 52, 53, 22, 27, 54, 55, 56, 57, 17, 18, 58, 59, 60, 61, 19, 21, 62, 63, 64, 65, 16, 70, 71, 72, 73, 74, 75, 76, 77, 78, 79, 80, 81, 82, 83, 84, 85] (by decide +kernel) (by decide +kernel)
set_option maxRecDepth 20000 in
theorem gX3_dryIn_X1_passMinute : GoodIn wsX3_dryIn (wsV RX3 201 RX1 yX1_passMinute wsX1_passMinute) := goodIn_app (goodIn_of _ (by decide +kernel)) ggX3_dryIn_X1_passMinute
theorem dX3_dryIn_0 : decode cX3_dryIn 0 = .ok (.aload_n 0, 1) := by decide +kernel
theorem dX3_dryIn_1 : decode cX3_dryIn 1 = .ok (.getfield 16, 3) := by decide +kernel
theorem dX3_dryIn_4 : decode cX3_dryIn 4 = .ok (.aload_n 0, 1) := by decide +kernel
theorem dX3_dryIn_5 : decode cX3_dryIn 5 = .ok (.getfield 10, 3) := by decide +kernel
theorem dX3_dryIn_8 : decode cX3_dryIn 8 = .ok (.invokevirtual 158, 3) := by decide +kernel
theorem dX3_dryIn_11 : decode cX3_dryIn 11 = .ok (.iconst 0, 1) := by decide +kernel
theorem dX3_dryIn_12 : decode cX3_dryIn 12 = .ok (.istore_n 1, 1) := by decide +kernel
theorem dX3_dryIn_13 : decode cX3_dryIn 13 = .ok (.iload_n 1, 1) := by decide +kernel
theorem dX3_dryIn_14 : decode cX3_dryIn 14 = .ok (.sipush 300, 3) := by decide +kernel
theorem dX3_dryIn_17 : decode cX3_dryIn 17 = .ok (.if_icmp .gt 29, 3) := by decide +kernel
theorem dX3_dryIn_20 : decode cX3_dryIn 20 = .ok (.aload_n 0, 1) := by decide +kernel
theorem dX3_dryIn_21 : decode cX3_dryIn 21 = .ok (.getfield 16, 3) := by decide +kernel
theorem dX3_dryIn_24 : decode cX3_dryIn 24 = .ok (.invokevirtual 185, 3) := by decide +kernel
theorem dX3_dryIn_27 : decode cX3_dryIn 27 = .ok (.ifCond .ne 5, 3) := by decide +kernel
theorem dX3_dryIn_30 : decode cX3_dryIn 30 = .ok (.iload_n 1, 1) := by decide +kernel
theorem dX3_dryIn_31 : decode cX3_dryIn 31 = .ok (.ireturn, 1) := by decide +kernel
theorem dX3_dryIn_32 : decode cX3_dryIn 32 = .ok (.aload_n 0, 1) := by decide +kernel
theorem dX3_dryIn_33 : decode cX3_dryIn 33 = .ok (.getfield 16, 3) := by decide +kernel
theorem dX3_dryIn_36 : decode cX3_dryIn 36 = .ok (.iconst 0, 1) := by decide +kernel
theorem dX3_dryIn_37 : decode cX3_dryIn 37 = .ok (.invokevirtual 201, 3) := by decide +kernel
theorem dX3_dryIn_40 : decode cX3_dryIn 40 = .ok (.iinc 1 1, 3) := by decide +kernel
theorem dX3_dryIn_43 : decode cX3_dryIn 43 = .ok (.goto (-30), 3) := by decide +kernel
theorem dX3_dryIn_46 : decode cX3_dryIn 46 = .ok (.iconst (-1), 1) := by decide +kernel
theorem dX3_dryIn_47 : decode cX3_dryIn 47 = .ok (.ireturn, 1) := by decide +kernel
set_option maxRecDepth 20000 in
theorem ggX3_drainedShare_X1_rainedLitres : GoodIn wsX3_drainedShare wsX1_rainedLitres := goodIn_r _ [6, 7, 20, 21, 22, 23, 24, 25, 26, 27, 28, 29, 30, 31, 32, 33, 34, 35] (by decide +kernel) (by decide +kernel)
set_option maxRecDepth 20000 in
theorem gX3_drainedShare_X1_rainedLitres : GoodIn wsX3_drainedShare (wsV RX3 182 RX1 yX1_rainedLitres wsX1_rainedLitres) := goodIn_app (goodIn_of _ (by decide +kernel)) ggX3_drainedShare_X1_rainedLitres
set_option maxRecDepth 20000 in
theorem ggX3_drainedShare_X1_drainedLitres : GoodIn wsX3_drainedShare wsX1_drainedLitres := goodIn_r _ [11, 12, 13, 14, 5, 15, 20, 21, 22, 23, 24, 25, 26, 27, 28, 29, 30, 31, 32, 33, 34, 35] (by decide +kernel) (by decide +kernel)
set_option maxRecDepth 20000 in
theorem gX3_drainedShare_X1_drainedLitres : GoodIn wsX3_drainedShare (wsV RX3 188 RX1 yX1_drainedLitres wsX1_drainedLitres) := goodIn_app (goodIn_of _ (by decide +kernel)) ggX3_drainedShare_X1_drainedLitres
theorem dX3_drainedShare_0 : decode cX3_drainedShare 0 = .ok (.aload_n 0, 1) := by decide +kernel
theorem dX3_drainedShare_1 : decode cX3_drainedShare 1 = .ok (.getfield 10, 3) := by decide +kernel
theorem dX3_drainedShare_4 : decode cX3_drainedShare 4 = .ok (.invokevirtual 182, 3) := by decide +kernel
theorem dX3_drainedShare_7 : decode cX3_drainedShare 7 = .ok (.istore_n 1, 1) := by decide +kernel
theorem dX3_drainedShare_8 : decode cX3_drainedShare 8 = .ok (.iload_n 1, 1) := by decide +kernel
theorem dX3_drainedShare_9 : decode cX3_drainedShare 9 = .ok (.ifCond .ne 7, 3) := by decide +kernel
theorem dX3_drainedShare_12 : decode cX3_drainedShare 12 = .ok (.dconst 1, 1) := by decide +kernel
theorem dX3_drainedShare_13 : decode cX3_drainedShare 13 = .ok (.goto 14, 3) := by decide +kernel
theorem dX3_drainedShare_16 : decode cX3_drainedShare 16 = .ok (.aload_n 0, 1) := by decide +kernel
theorem dX3_drainedShare_17 : decode cX3_drainedShare 17 = .ok (.getfield 10, 3) := by decide +kernel
theorem dX3_drainedShare_20 : decode cX3_drainedShare 20 = .ok (.invokevirtual 188, 3) := by decide +kernel
theorem dX3_drainedShare_23 : decode cX3_drainedShare 23 = .ok (.i2d, 1) := by decide +kernel
theorem dX3_drainedShare_24 : decode cX3_drainedShare 24 = .ok (.iload_n 1, 1) := by decide +kernel
theorem dX3_drainedShare_25 : decode cX3_drainedShare 25 = .ok (.i2d, 1) := by decide +kernel
theorem dX3_drainedShare_26 : decode cX3_drainedShare 26 = .ok (.ddiv, 1) := by decide +kernel
theorem dX3_drainedShare_27 : decode cX3_drainedShare 27 = .ok (.dreturn, 1) := by decide +kernel
set_option maxRecDepth 20000 in
theorem ggX3_digest_X3_hashOfCounts : GoodIn wsX3_digest wsX3_hashOfCounts := goodIn_ca (goodIn_r _ [6, 7, 8, 9, 10, 5, 11, 12, 13, 14, 15, 16, 17, 18, 19, 20, 21, 22, 23, 24, 25, 26, 27, 28, 29, 30, 31, 32, 33, 34, 35, 36, 37, 38, 39, 40, 41, 42, 43, 44, 45, 46, 47, 48, 49, 50, 51, 52, 53, 54, 55, 56, 57, 58, 59, 60, 61, 62, 63, 64, 65, 66, 67, 68, 69, 70, 71, 72, 73, 74, 207, 208, 209, 210, 211, 212, 213, 214, 215, 216, 217, 218, 219, 220, 221, 222, 223, 224, 225, 226, 227, 228, 229] (by decide +kernel) (by decide +kernel)) (goodIn_sub (fun _ h => List.mem_cons_of_mem _ (List.mem_append_right _ h)) (by decide +kernel))
set_option maxRecDepth 20000 in
theorem gX3_digest_X3_hashOfCounts : GoodIn wsX3_digest (wsV RX3 221 RX3 yX3_hashOfCounts wsX3_hashOfCounts) := goodIn_app (goodIn_of _ (by decide +kernel)) ggX3_digest_X3_hashOfCounts
set_option maxRecDepth 20000 in
theorem ggX3_digest_X3_hashOfRoof : GoodIn wsX3_digest wsX3_hashOfRoof := goodIn_r _ [78, 7, 79, 80, 81, 18, 82, 83, 84, 85, 35, 66, 67, 5, 68, 69, 86, 87, 88, 89, 90, 91, 59, 92, 36, 49, 44, 93, 94, 95, 96, 97, 98, 99, 100, 207, 208, 209, 210, 211, 212, 213, 214, 215, 216, 217, 218, 219, 220, 221, 222, 223, 224, 225, 226] (by decide +kernel) (by decide +kernel)
set_option maxRecDepth 20000 in
theorem gX3_digest_X3_hashOfRoof : GoodIn wsX3_digest (wsV RX3 225 RX3 yX3_hashOfRoof wsX3_hashOfRoof) := goodIn_app (goodIn_of _ (by decide +kernel)) ggX3_digest_X3_hashOfRoof
set_option maxRecDepth 20000 in
theorem ggX3_digest_X3_ifRained : GoodIn wsX3_digest wsX3_ifRained := goodIn_ca (goodIn_r _ [104, 12, 13, 105, 7, 106, 107, 5, 108, 109, 110, 111, 18, 112, 83, 113, 114, 115, 116, 84, 85, 35, 90, 91, 59, 92, 36, 49, 44, 74, 20, 25, 30, 54, 70, 71, 72, 73, 117, 118, 119, 120, 121, 122, 123, 124, 125, 126, 127, 128, 129, 130, 131, 132, 133, 134, 135, 136, 137, 138, 97, 98, 99, 100, 139, 140, 141, 142, 93, 94, 95, 96, 45, 46, 47, 48, 37, 38, 39, 40, 41, 42, 43, 31, 32, 33, 34, 207, 208, 209, 210, 211, 212, 213, 214, 215, 216, 217, 218, 219, 220, 221, 222, 223, 224, 225, 226] (by decide +kernel) (by decide +kernel)) (goodIn_sub (fun _ h => List.mem_cons_of_mem _ (List.mem_append_right _ h)) (by decide +kernel))
set_option maxRecDepth 20000 in
theorem gX3_digest_X3_ifRained : GoodIn wsX3_digest (wsV RX3 228 RX3 yX3_ifRained wsX3_ifRained) := goodIn_app (goodIn_of _ (by decide +kernel)) ggX3_digest_X3_ifRained
set_option maxRecDepth 20000 in
theorem ggX3_digest_X3_hashWith : GoodIn wsX3_digest wsX3_hashWith := goodIn_r _ [68, 69] (by decide +kernel) (by decide +kernel)
set_option maxRecDepth 20000 in
theorem gX3_digest_X3_hashWith : GoodIn wsX3_digest (va_wsS RX3 231 yX3_hashWith wsX3_hashWith) := goodIn_app (goodIn_of _ (by decide +kernel)) ggX3_digest_X3_hashWith
set_option maxRecDepth 20000 in
theorem ggX3_digest_X3_spillsFirst : GoodIn wsX3_digest wsX3_spillsFirst := goodIn_ca (goodIn_r _ [146, 12, 13, 105, 7, 106, 107, 5, 108, 109, 110, 111, 18, 112, 83, 113, 114, 115, 116, 84, 85, 35, 90, 91, 59, 92, 36, 49, 44, 74, 20, 25, 30, 54, 70, 71, 72, 73, 147, 122, 123, 124, 125, 126, 127, 128, 129, 130, 131, 132, 133, 134, 135, 136, 137, 138, 97, 98, 99, 100, 139, 140, 141, 142, 93, 94, 95, 96, 148, 149, 150, 151, 207, 208, 209, 210, 211, 212, 213, 214, 215, 216, 217, 218, 219, 220, 221, 222, 223, 224, 225, 226] (by decide +kernel) (by decide +kernel)) (goodIn_sub (fun _ h => List.mem_cons_of_mem _ (List.mem_append_right _ h)) (by decide +kernel))
set_option maxRecDepth 20000 in
theorem gX3_digest_X3_spillsFirst : GoodIn wsX3_digest (wsV RX3 235 RX3 yX3_spillsFirst wsX3_spillsFirst) := goodIn_app (goodIn_of _ (by decide +kernel)) ggX3_digest_X3_spillsFirst
set_option maxRecDepth 20000 in
theorem ggX3_digest_X3_bestClean : GoodIn wsX3_digest wsX3_bestClean := goodIn_r _ [155, 7, 156, 157, 158, 18, 159, 59, 160, 161, 162, 5, 163, 105, 109, 110, 111, 112, 83, 113, 114, 115, 116, 84, 85, 35, 90, 91, 92, 36, 49, 44, 74, 20, 25, 30, 54, 164, 165, 166, 167, 70, 71, 72, 73, 117, 118, 119, 120, 121, 122, 123, 124, 125, 126, 127, 128, 129, 130, 131, 132, 133, 134, 135, 136, 137, 138, 97, 98, 99, 100, 139, 140, 141, 142, 93, 94, 95, 96, 45, 46, 47, 48, 37, 38, 39, 207, 208, 209, 210, 211, 212, 213, 214, 215, 216, 217, 218, 219, 220, 221, 222, 223, 224, 225, 226] (by decide +kernel) (by decide +kernel)
set_option maxRecDepth 20000 in
theorem gX3_digest_X3_bestClean : GoodIn wsX3_digest (wsV RX3 238 RX3 yX3_bestClean wsX3_bestClean) := goodIn_app (goodIn_of _ (by decide +kernel)) ggX3_digest_X3_bestClean
set_option maxRecDepth 20000 in
theorem ggX3_digest_X3_mostRain : GoodIn wsX3_digest wsX3_mostRain := goodIn_ca (goodIn_r _ [171, 12, 13, 106, 107, 5, 108, 172, 173, 174, 175, 105, 7, 109, 110, 111, 18, 112, 83, 113, 114, 115, 116, 84, 85, 35, 90, 91, 59, 92, 36, 49, 44, 74, 20, 25, 30, 54, 147, 122, 123, 124, 125, 126, 127, 128, 129, 130, 131, 132, 133, 134, 135, 136, 137, 138, 97, 98, 99, 100, 139, 140, 141, 142, 93, 94, 95, 96, 148, 149, 150, 151, 207, 208, 209, 210, 211, 212, 213, 214, 215, 216, 217, 218, 219, 220, 221, 222, 223, 224, 225, 226] (by decide +kernel) (by decide +kernel)) (goodIn_sub (fun _ h => List.mem_cons_of_mem _ (List.mem_append_right _ h)) (by decide +kernel))
set_option maxRecDepth 20000 in
theorem gX3_digest_X3_mostRain : GoodIn wsX3_digest (wsV RX3 241 RX3 yX3_mostRain wsX3_mostRain) := goodIn_app (goodIn_of _ (by decide +kernel)) ggX3_digest_X3_mostRain
set_option maxRecDepth 20000 in
theorem ggX3_digest_X3_dryIn : GoodIn wsX3_digest wsX3_dryIn := goodIn_r _ [179, 105, 7, 109, 110, 111, 18, 112, 83, 113, 114, 115, 116, 84, 85, 35, 90, 91, 59, 92, 36, 49, 44, 74, 20, 25, 30, 54, 31, 32, 33, 34, 37, 38, 39, 147, 122, 123, 124, 125, 126, 127, 128, 129, 5, 130, 131, 132, 133, 134, 135, 136, 137, 138, 97, 98, 99, 100, 139, 140, 141, 142, 93, 94, 95, 96, 207, 208, 209, 210, 211, 212, 213, 214, 215, 216, 217, 218, 219, 220, 221, 222, 223, 224, 225, 226] (by decide +kernel) (by decide +kernel)
set_option maxRecDepth 20000 in
theorem gX3_digest_X3_dryIn : GoodIn wsX3_digest (wsV RX3 244 RX3 yX3_dryIn wsX3_dryIn) := goodIn_app (goodIn_of _ (by decide +kernel)) ggX3_digest_X3_dryIn
set_option maxRecDepth 20000 in
theorem ggX3_digest_X3_drainedShare : GoodIn wsX3_digest wsX3_drainedShare := goodIn_r _ [183, 7, 26, 27, 28, 18, 29, 30, 40, 41, 42, 43, 44, 37, 38, 39, 207, 208, 209, 210, 211, 212, 213, 214, 215, 216, 217, 218, 219, 220, 221, 222, 223, 224, 225, 226] (by decide +kernel) (by decide +kernel)
set_option maxRecDepth 20000 in
theorem gX3_digest_X3_drainedShare : GoodIn wsX3_digest (wsV RX3 247 RX3 yX3_drainedShare wsX3_drainedShare) := goodIn_app (goodIn_of _ (by decide +kernel)) ggX3_digest_X3_drainedShare
set_option maxRecDepth 20000 in
theorem ggX3_digest_X3_bitsOfShare : GoodIn wsX3_digest wsX3_bitsOfShare := goodIn_r _ [186, 187, 188, 189, 190] (by decide +kernel) (by decide +kernel)
set_option maxRecDepth 20000 in
theorem gX3_digest_X3_bitsOfShare : GoodIn wsX3_digest (va_wsS RX3 251 yX3_bitsOfShare wsX3_bitsOfShare) := goodIn_app (goodIn_of _ (by decide +kernel)) ggX3_digest_X3_bitsOfShare
set_option maxRecDepth 20000 in
theorem ggX3_digest_X3_hashOfText : GoodIn wsX3_digest wsX3_hashOfText := goodIn_r _ [194, 195, 196, 197, 198, 199, 200, 201, 66, 67, 5, 68, 69, 202, 203, 204, 205, 206, 207, 208, 209, 210, 230, 231] (by decide +kernel) (by decide +kernel)
set_option maxRecDepth 20000 in
theorem gX3_digest_X3_hashOfText : GoodIn wsX3_digest (wsV RX3 255 RX3 yX3_hashOfText wsX3_hashOfText) := goodIn_app (goodIn_of _ (by decide +kernel)) ggX3_digest_X3_hashOfText
theorem dX3_digest_0 : decode cX3_digest 0 = .ok (.aload_n 0, 1) := by decide +kernel
theorem dX3_digest_1 : decode cX3_digest 1 = .ok (.aload_n 0, 1) := by decide +kernel
theorem dX3_digest_2 : decode cX3_digest 2 = .ok (.ldc2_w 219, 3) := by decide +kernel
theorem dX3_digest_5 : decode cX3_digest 5 = .ok (.invokevirtual 221, 3) := by decide +kernel
theorem dX3_digest_8 : decode cX3_digest 8 = .ok (.invokevirtual 225, 3) := by decide +kernel
theorem dX3_digest_11 : decode cX3_digest 11 = .ok (.lstore_n 1, 1) := by decide +kernel
theorem dX3_digest_12 : decode cX3_digest 12 = .ok (.iconst 0, 1) := by decide +kernel
theorem dX3_digest_13 : decode cX3_digest 13 = .ok (.istore_n 3, 1) := by decide +kernel
theorem dX3_digest_14 : decode cX3_digest 14 = .ok (.iload_n 3, 1) := by decide +kernel
theorem dX3_digest_15 : decode cX3_digest 15 = .ok (.iconst 2, 1) := by decide +kernel
theorem dX3_digest_16 : decode cX3_digest 16 = .ok (.if_icmp .gt 22, 3) := by decide +kernel
theorem dX3_digest_19 : decode cX3_digest 19 = .ok (.lload_n 1, 1) := by decide +kernel
theorem dX3_digest_20 : decode cX3_digest 20 = .ok (.aload_n 0, 1) := by decide +kernel
theorem dX3_digest_21 : decode cX3_digest 21 = .ok (.bipush 20, 2) := by decide +kernel
theorem dX3_digest_23 : decode cX3_digest 23 = .ok (.iload_n 3, 1) := by decide +kernel
theorem dX3_digest_24 : decode cX3_digest 24 = .ok (.invokevirtual 228, 3) := by decide +kernel
theorem dX3_digest_27 : decode cX3_digest 27 = .ok (.i2l, 1) := by decide +kernel
theorem dX3_digest_28 : decode cX3_digest 28 = .ok (.invokestatic 231, 3) := by decide +kernel
theorem dX3_digest_31 : decode cX3_digest 31 = .ok (.lstore_n 1, 1) := by decide +kernel
theorem dX3_digest_32 : decode cX3_digest 32 = .ok (.iinc 3 1, 3) := by decide +kernel
theorem dX3_digest_35 : decode cX3_digest 35 = .ok (.goto (-21), 3) := by decide +kernel
theorem dX3_digest_38 : decode cX3_digest 38 = .ok (.lload_n 1, 1) := by decide +kernel
theorem dX3_digest_39 : decode cX3_digest 39 = .ok (.aload_n 0, 1) := by decide +kernel
theorem dX3_digest_40 : decode cX3_digest 40 = .ok (.iconst 0, 1) := by decide +kernel
theorem dX3_digest_41 : decode cX3_digest 41 = .ok (.invokevirtual 235, 3) := by decide +kernel
theorem dX3_digest_44 : decode cX3_digest 44 = .ok (.i2l, 1) := by decide +kernel
theorem dX3_digest_45 : decode cX3_digest 45 = .ok (.invokestatic 231, 3) := by decide +kernel
theorem dX3_digest_48 : decode cX3_digest 48 = .ok (.lstore_n 1, 1) := by decide +kernel
theorem dX3_digest_49 : decode cX3_digest 49 = .ok (.lload_n 1, 1) := by decide +kernel
theorem dX3_digest_50 : decode cX3_digest 50 = .ok (.aload_n 0, 1) := by decide +kernel
theorem dX3_digest_51 : decode cX3_digest 51 = .ok (.iconst 1, 1) := by decide +kernel
theorem dX3_digest_52 : decode cX3_digest 52 = .ok (.invokevirtual 235, 3) := by decide +kernel
theorem dX3_digest_55 : decode cX3_digest 55 = .ok (.i2l, 1) := by decide +kernel
theorem dX3_digest_56 : decode cX3_digest 56 = .ok (.invokestatic 231, 3) := by decide +kernel
theorem dX3_digest_59 : decode cX3_digest 59 = .ok (.lstore_n 1, 1) := by decide +kernel
theorem dX3_digest_60 : decode cX3_digest 60 = .ok (.lload_n 1, 1) := by decide +kernel
theorem dX3_digest_61 : decode cX3_digest 61 = .ok (.aload_n 0, 1) := by decide +kernel
theorem dX3_digest_62 : decode cX3_digest 62 = .ok (.invokevirtual 238, 3) := by decide +kernel
theorem dX3_digest_65 : decode cX3_digest 65 = .ok (.i2l, 1) := by decide +kernel
theorem dX3_digest_66 : decode cX3_digest 66 = .ok (.invokestatic 231, 3) := by decide +kernel
theorem dX3_digest_69 : decode cX3_digest 69 = .ok (.lstore_n 1, 1) := by decide +kernel
theorem dX3_digest_70 : decode cX3_digest 70 = .ok (.lload_n 1, 1) := by decide +kernel
theorem dX3_digest_71 : decode cX3_digest 71 = .ok (.aload_n 0, 1) := by decide +kernel
theorem dX3_digest_72 : decode cX3_digest 72 = .ok (.bipush 10, 2) := by decide +kernel
theorem dX3_digest_74 : decode cX3_digest 74 = .ok (.invokevirtual 241, 3) := by decide +kernel
theorem dX3_digest_77 : decode cX3_digest 77 = .ok (.i2l, 1) := by decide +kernel
theorem dX3_digest_78 : decode cX3_digest 78 = .ok (.invokestatic 231, 3) := by decide +kernel
theorem dX3_digest_81 : decode cX3_digest 81 = .ok (.lstore_n 1, 1) := by decide +kernel
theorem dX3_digest_82 : decode cX3_digest 82 = .ok (.lload_n 1, 1) := by decide +kernel
theorem dX3_digest_83 : decode cX3_digest 83 = .ok (.aload_n 0, 1) := by decide +kernel
theorem dX3_digest_84 : decode cX3_digest 84 = .ok (.invokevirtual 244, 3) := by decide +kernel
theorem dX3_digest_87 : decode cX3_digest 87 = .ok (.i2l, 1) := by decide +kernel
theorem dX3_digest_88 : decode cX3_digest 88 = .ok (.invokestatic 231, 3) := by decide +kernel
theorem dX3_digest_91 : decode cX3_digest 91 = .ok (.lstore_n 1, 1) := by decide +kernel
theorem dX3_digest_92 : decode cX3_digest 92 = .ok (.lload_n 1, 1) := by decide +kernel
theorem dX3_digest_93 : decode cX3_digest 93 = .ok (.aload_n 0, 1) := by decide +kernel
theorem dX3_digest_94 : decode cX3_digest 94 = .ok (.invokevirtual 247, 3) := by decide +kernel
theorem dX3_digest_97 : decode cX3_digest 97 = .ok (.invokestatic 251, 3) := by decide +kernel
theorem dX3_digest_100 : decode cX3_digest 100 = .ok (.invokestatic 231, 3) := by decide +kernel
theorem dX3_digest_103 : decode cX3_digest 103 = .ok (.lstore_n 1, 1) := by decide +kernel
theorem dX3_digest_104 : decode cX3_digest 104 = .ok (.aload_n 0, 1) := by decide +kernel
theorem dX3_digest_105 : decode cX3_digest 105 = .ok (.lload_n 1, 1) := by decide +kernel
theorem dX3_digest_106 : decode cX3_digest 106 = .ok (.invokevirtual 255, 3) := by decide +kernel
theorem dX3_digest_109 : decode cX3_digest 109 = .ok (.lreturn, 1) := by decide +kernel
set_option maxRecDepth 20000 in
theorem ggX3_spiltIfCleaned_X1_copyFrom : GoodIn wsX3_spiltIfCleaned wsX1_copyFrom := goodIn_r _ [7, 8, 9, 10, 11, 12, 13, 14, 15, 16, 17, 18, 19, 20, 21, 22, 23, 24, 25, 26, 27, 82, 83, 84, 85, 86, 87, 88, 89, 90, 91, 92, 93, 94, 95, 96, 97] (by decide +kernel) (by decide +kernel)
set_option maxRecDepth 20000 in
theorem gX3_spiltIfCleaned_X1_copyFrom : GoodIn wsX3_spiltIfCleaned (wsV RX3 158 RX1 yX1_copyFrom wsX1_copyFrom) := goodIn_app (goodIn_of _ (by decide +kernel)) ggX3_spiltIfCleaned_X1_copyFrom
set_option maxRecDepth 20000 in
theorem ggX3_spiltIfCleaned_X1_takeLeaves : GoodIn wsX3_spiltIfCleaned wsX1_takeLeaves := goodIn_r _ [31, 18, 82, 83, 84, 85, 86, 87, 88, 89, 90, 91, 92, 93, 94, 95, 96, 97] (by decide +kernel) (by decide +kernel)
set_option maxRecDepth 20000 in
theorem gX3_spiltIfCleaned_X1_takeLeaves : GoodIn wsX3_spiltIfCleaned (wsV RX3 87 RX1 yX1_takeLeaves wsX1_takeLeaves) := goodIn_app (goodIn_of _ (by decide +kernel)) ggX3_spiltIfCleaned_X1_takeLeaves
set_option maxRecDepth 20000 in
theorem ggX3_spiltIfCleaned_X1_settingValue : GoodIn wsX3_spiltIfCleaned wsX1_settingValue := goodIn_r _ [35, 23, 82, 83, 84, 85, 86, 87, 88, 89, 90, 91, 92, 93, 94, 95, 96, 97] (by decide +kernel) (by decide +kernel)
set_option maxRecDepth 20000 in
theorem gX3_spiltIfCleaned_X1_settingValue : GoodIn wsX3_spiltIfCleaned (wsV RX3 194 RX1 yX1_settingValue wsX1_settingValue) := goodIn_app (goodIn_of _ (by decide +kernel)) ggX3_spiltIfCleaned_X1_settingValue
set_option maxRecDepth 20000 in
theorem ggX3_spiltIfCleaned_X1_passMinutes : GoodIn wsX3_spiltIfCleaned wsX1_passMinutes := goodIn_r _ [39, 40, 41, 42, 6, 43, 24, 44, 45, 46, 47, 8, 26, 15, 13, 14, 20, 48, 49, 50, 51, 52, 53, 54, 23, 55, 56, 57, 58, 22, 27, 59, 60, 61, 62, 17, 18, 63, 64, 65, 66, 19, 21, 67, 68, 69, 70, 16, 82, 83, 84, 85, 86, 87, 88, 89, 90, 91, 92, 93, 94, 95, 96, 97] (by decide +kernel) (by decide +kernel)
set_option maxRecDepth 20000 in
theorem gX3_spiltIfCleaned_X1_passMinutes : GoodIn wsX3_spiltIfCleaned (wsV RX3 111 RX1 yX1_passMinutes wsX1_passMinutes) := goodIn_app (goodIn_of _ (by decide +kernel)) ggX3_spiltIfCleaned_X1_passMinutes
set_option maxRecDepth 20000 in
theorem ggX3_spiltIfCleaned_X1_spiltLitres : GoodIn wsX3_spiltIfCleaned wsX1_spiltLitres := goodIn_r _ [74, 21, 75, 76, 6, 77, 82, 83, 84, 85, 86, 87, 88, 89, 90, 91, 92, 93, 94, 95, 96, 97] (by decide +kernel) (by decide +kernel)
set_option maxRecDepth 20000 in
theorem gX3_spiltIfCleaned_X1_spiltLitres : GoodIn wsX3_spiltIfCleaned (wsV RX3 107 RX1 yX1_spiltLitres wsX1_spiltLitres) := goodIn_app (goodIn_of _ (by decide +kernel)) ggX3_spiltIfCleaned_X1_spiltLitres
theorem dX3_spiltIfCleaned_0 : decode cX3_spiltIfCleaned 0 = .ok (.aload_n 0, 1) := by decide +kernel
theorem dX3_spiltIfCleaned_1 : decode cX3_spiltIfCleaned 1 = .ok (.getfield 16, 3) := by decide +kernel
theorem dX3_spiltIfCleaned_4 : decode cX3_spiltIfCleaned 4 = .ok (.aload_n 0, 1) := by decide +kernel
theorem dX3_spiltIfCleaned_5 : decode cX3_spiltIfCleaned 5 = .ok (.getfield 10, 3) := by decide +kernel
theorem dX3_spiltIfCleaned_8 : decode cX3_spiltIfCleaned 8 = .ok (.invokevirtual 158, 3) := by decide +kernel
theorem dX3_spiltIfCleaned_11 : decode cX3_spiltIfCleaned 11 = .ok (.aload_n 0, 1) := by decide +kernel
theorem dX3_spiltIfCleaned_12 : decode cX3_spiltIfCleaned 12 = .ok (.getfield 16, 3) := by decide +kernel
theorem dX3_spiltIfCleaned_15 : decode cX3_spiltIfCleaned 15 = .ok (.iload_n 1, 1) := by decide +kernel
theorem dX3_spiltIfCleaned_16 : decode cX3_spiltIfCleaned 16 = .ok (.invokevirtual 87, 3) := by decide +kernel
theorem dX3_spiltIfCleaned_19 : decode cX3_spiltIfCleaned 19 = .ok (.pop, 1) := by decide +kernel
theorem dX3_spiltIfCleaned_20 : decode cX3_spiltIfCleaned 20 = .ok (.aload_n 0, 1) := by decide +kernel
theorem dX3_spiltIfCleaned_21 : decode cX3_spiltIfCleaned 21 = .ok (.getfield 16, 3) := by decide +kernel
theorem dX3_spiltIfCleaned_24 : decode cX3_spiltIfCleaned 24 = .ok (.aload_n 0, 1) := by decide +kernel
theorem dX3_spiltIfCleaned_25 : decode cX3_spiltIfCleaned 25 = .ok (.getfield 10, 3) := by decide +kernel
theorem dX3_spiltIfCleaned_28 : decode cX3_spiltIfCleaned 28 = .ok (.iconst 2, 1) := by decide +kernel
theorem dX3_spiltIfCleaned_29 : decode cX3_spiltIfCleaned 29 = .ok (.invokevirtual 194, 3) := by decide +kernel
theorem dX3_spiltIfCleaned_32 : decode cX3_spiltIfCleaned 32 = .ok (.bipush 30, 2) := by decide +kernel
theorem dX3_spiltIfCleaned_34 : decode cX3_spiltIfCleaned 34 = .ok (.invokevirtual 111, 3) := by decide +kernel
theorem dX3_spiltIfCleaned_37 : decode cX3_spiltIfCleaned 37 = .ok (.aload_n 0, 1) := by decide +kernel
theorem dX3_spiltIfCleaned_38 : decode cX3_spiltIfCleaned 38 = .ok (.getfield 16, 3) := by decide +kernel
theorem dX3_spiltIfCleaned_41 : decode cX3_spiltIfCleaned 41 = .ok (.invokevirtual 107, 3) := by decide +kernel
theorem dX3_spiltIfCleaned_44 : decode cX3_spiltIfCleaned 44 = .ok (.aload_n 0, 1) := by decide +kernel
theorem dX3_spiltIfCleaned_45 : decode cX3_spiltIfCleaned 45 = .ok (.getfield 10, 3) := by decide +kernel
theorem dX3_spiltIfCleaned_48 : decode cX3_spiltIfCleaned 48 = .ok (.invokevirtual 107, 3) := by decide +kernel
theorem dX3_spiltIfCleaned_51 : decode cX3_spiltIfCleaned 51 = .ok (.isub, 1) := by decide +kernel
theorem dX3_spiltIfCleaned_52 : decode cX3_spiltIfCleaned 52 = .ok (.ireturn, 1) := by decide +kernel
set_option maxRecDepth 20000 in
theorem ggX3_wouldSpill_X1_copyFrom : GoodIn wsX3_wouldSpill wsX1_copyFrom := goodIn_r _ [7, 8, 9, 10, 11, 12, 13, 14, 15, 16, 17, 18, 19, 20, 21, 22, 23, 24, 25, 26, 27, 67, 68, 69, 70, 71, 72, 73, 74, 75, 76, 77, 78, 79, 80, 81, 82] (by decide +kernel) (by decide +kernel)
set_option maxRecDepth 20000 in
theorem gX3_wouldSpill_X1_copyFrom : GoodIn wsX3_wouldSpill (wsV RX3 158 RX1 yX1_copyFrom wsX1_copyFrom) := goodIn_app (goodIn_of _ (by decide +kernel)) ggX3_wouldSpill_X1_copyFrom
set_option maxRecDepth 20000 in
theorem ggX3_wouldSpill_X1_passMinute : GoodIn wsX3_wouldSpill wsX1_passMinute := goodIn_r _ [31, 24, 32, 33, 34, 6, 35, 8, 26, 15, 13, 14, 20, 36, 37, 38, 39, 40, 41, 42, 23, 43, 44, 45, 46, 22, 27, 47, 48, 49, 50, 17, 18, 51, 52, 53, 54, 19, 21, 55, 56, 57, 58, 16, 67, 68, 69, 70, 71, 72, 73, 74, 75, 76, 77, 78, 79, 80, 81, 82] (by decide +kernel) (by decide +kernel)
set_option maxRecDepth 20000 in
theorem gX3_wouldSpill_X1_passMinute : GoodIn wsX3_wouldSpill (wsV RX3 201 RX1 yX1_passMinute wsX1_passMinute) := goodIn_app (goodIn_of _ (by decide +kernel)) ggX3_wouldSpill_X1_passMinute
set_option maxRecDepth 20000 in
theorem ggX3_wouldSpill_X1_lowestThatSpiltMoreThanIn : GoodIn wsX3_wouldSpill wsX1_lowestThatSpiltMoreThanIn := goodIn_r _ [62, 21, 67, 68, 69, 70, 71, 72, 73, 74, 75, 76, 77, 78, 79, 80, 81, 82] (by decide +kernel) (by decide +kernel)
set_option maxRecDepth 20000 in
theorem gX3_wouldSpill_X1_lowestThatSpiltMoreThanIn : GoodIn wsX3_wouldSpill (wsV RX3 204 RX1 yX1_lowestThatSpiltMoreThanIn wsX1_lowestThatSpiltMoreThanIn) := goodIn_app (goodIn_of _ (by decide +kernel)) ggX3_wouldSpill_X1_lowestThatSpiltMoreThanIn
theorem dX3_wouldSpill_0 : decode cX3_wouldSpill 0 = .ok (.aload_n 0, 1) := by decide +kernel
theorem dX3_wouldSpill_1 : decode cX3_wouldSpill 1 = .ok (.getfield 16, 3) := by decide +kernel
theorem dX3_wouldSpill_4 : decode cX3_wouldSpill 4 = .ok (.aload_n 0, 1) := by decide +kernel
theorem dX3_wouldSpill_5 : decode cX3_wouldSpill 5 = .ok (.getfield 10, 3) := by decide +kernel
theorem dX3_wouldSpill_8 : decode cX3_wouldSpill 8 = .ok (.invokevirtual 158, 3) := by decide +kernel
theorem dX3_wouldSpill_11 : decode cX3_wouldSpill 11 = .ok (.iconst 0, 1) := by decide +kernel
theorem dX3_wouldSpill_12 : decode cX3_wouldSpill 12 = .ok (.istore_n 3, 1) := by decide +kernel
theorem dX3_wouldSpill_13 : decode cX3_wouldSpill 13 = .ok (.iload_n 3, 1) := by decide +kernel
theorem dX3_wouldSpill_14 : decode cX3_wouldSpill 14 = .ok (.iload_n 2, 1) := by decide +kernel
theorem dX3_wouldSpill_15 : decode cX3_wouldSpill 15 = .ok (.if_icmp .ge 34, 3) := by decide +kernel
theorem dX3_wouldSpill_18 : decode cX3_wouldSpill 18 = .ok (.aload_n 0, 1) := by decide +kernel
theorem dX3_wouldSpill_19 : decode cX3_wouldSpill 19 = .ok (.getfield 16, 3) := by decide +kernel
theorem dX3_wouldSpill_22 : decode cX3_wouldSpill 22 = .ok (.iload_n 1, 1) := by decide +kernel
theorem dX3_wouldSpill_23 : decode cX3_wouldSpill 23 = .ok (.invokevirtual 201, 3) := by decide +kernel
theorem dX3_wouldSpill_26 : decode cX3_wouldSpill 26 = .ok (.aload_n 0, 1) := by decide +kernel
theorem dX3_wouldSpill_27 : decode cX3_wouldSpill 27 = .ok (.getfield 16, 3) := by decide +kernel
theorem dX3_wouldSpill_30 : decode cX3_wouldSpill 30 = .ok (.aload_n 0, 1) := by decide +kernel
theorem dX3_wouldSpill_31 : decode cX3_wouldSpill 31 = .ok (.getfield 10, 3) := by decide +kernel
theorem dX3_wouldSpill_34 : decode cX3_wouldSpill 34 = .ok (.invokevirtual 204, 3) := by decide +kernel
theorem dX3_wouldSpill_37 : decode cX3_wouldSpill 37 = .ok (.iconst (-1), 1) := by decide +kernel
theorem dX3_wouldSpill_38 : decode cX3_wouldSpill 38 = .ok (.if_icmp .eq 5, 3) := by decide +kernel
theorem dX3_wouldSpill_41 : decode cX3_wouldSpill 41 = .ok (.iconst 1, 1) := by decide +kernel
theorem dX3_wouldSpill_42 : decode cX3_wouldSpill 42 = .ok (.ireturn, 1) := by decide +kernel
theorem dX3_wouldSpill_43 : decode cX3_wouldSpill 43 = .ok (.iinc 3 1, 3) := by decide +kernel
theorem dX3_wouldSpill_46 : decode cX3_wouldSpill 46 = .ok (.goto (-33), 3) := by decide +kernel
theorem dX3_wouldSpill_49 : decode cX3_wouldSpill 49 = .ok (.iconst 0, 1) := by decide +kernel
theorem dX3_wouldSpill_50 : decode cX3_wouldSpill 50 = .ok (.ireturn, 1) := by decide +kernel
theorem dX3_hashWith_0 : decode cX3_hashWith 0 = .ok (.ldc2_w 258, 3) := by decide +kernel
theorem dX3_hashWith_3 : decode cX3_hashWith 3 = .ok (.lload_n 0, 1) := by decide +kernel
theorem dX3_hashWith_4 : decode cX3_hashWith 4 = .ok (.lmul, 1) := by decide +kernel
theorem dX3_hashWith_5 : decode cX3_hashWith 5 = .ok (.lload_n 2, 1) := by decide +kernel
theorem dX3_hashWith_6 : decode cX3_hashWith 6 = .ok (.ladd, 1) := by decide +kernel
theorem dX3_hashWith_7 : decode cX3_hashWith 7 = .ok (.lreturn, 1) := by decide +kernel
set_option maxRecDepth 20000 in
theorem ggX3_hashOfCounts_X3_count : GoodIn wsX3_hashOfCounts wsX3_count := goodIn_ca (goodIn_r _ [6, 7, 8, 1, 9, 10, 11, 12, 13, 14, 15, 16, 17, 18, 19, 20, 21, 22, 23, 24, 25, 26, 27, 28, 29, 30, 31, 32, 33, 34, 35, 36, 37, 38, 39, 40, 41, 42, 43, 44, 45, 46, 47, 48, 49, 50, 51, 52, 53, 54, 55, 56, 57, 58, 59, 60, 70, 71, 72, 73, 74, 75, 76, 77, 78, 79, 80, 81, 82, 83, 84, 85, 86, 87, 88, 89, 90, 91, 92] (by decide +kernel) (by decide +kernel)) (goodIn_sub (fun _ h => List.mem_cons_of_mem _ (List.mem_append_right _ h)) (by decide +kernel))
set_option maxRecDepth 20000 in
theorem gX3_hashOfCounts_X3_count : GoodIn wsX3_hashOfCounts (wsV RX3 260 RX3 yX3_count wsX3_count) := goodIn_app (goodIn_of _ (by decide +kernel)) ggX3_hashOfCounts_X3_count
set_option maxRecDepth 20000 in
theorem ggX3_hashOfCounts_X3_hashWith : GoodIn wsX3_hashOfCounts wsX3_hashWith := goodIn_r _ [63, 64] (by decide +kernel) (by decide +kernel)
set_option maxRecDepth 20000 in
theorem gX3_hashOfCounts_X3_hashWith : GoodIn wsX3_hashOfCounts (va_wsS RX3 231 yX3_hashWith wsX3_hashWith) := goodIn_app (goodIn_of _ (by decide +kernel)) ggX3_hashOfCounts_X3_hashWith
set_option maxRecDepth 20000 in
theorem ggX3_hashOfCounts_X1_settingValue : GoodIn wsX3_hashOfCounts wsX1_settingValue := goodIn_r _ [68, 69, 74, 75, 76, 77, 78, 79, 80, 81, 82, 83, 84, 85, 86, 87, 88, 89] (by decide +kernel) (by decide +kernel)
set_option maxRecDepth 20000 in
theorem gX3_hashOfCounts_X1_settingValue : GoodIn wsX3_hashOfCounts (wsV RX3 194 RX1 yX1_settingValue wsX1_settingValue) := goodIn_app (goodIn_of _ (by decide +kernel)) ggX3_hashOfCounts_X1_settingValue
theorem dX3_hashOfCounts_0 : decode cX3_hashOfCounts 0 = .ok (.lload_n 1, 1) := by decide +kernel
theorem dX3_hashOfCounts_1 : decode cX3_hashOfCounts 1 = .ok (.lstore_n 3, 1) := by decide +kernel
theorem dX3_hashOfCounts_2 : decode cX3_hashOfCounts 2 = .ok (.iconst 0, 1) := by decide +kernel
theorem dX3_hashOfCounts_3 : decode cX3_hashOfCounts 3 = .ok (.istore 5, 2) := by decide +kernel
theorem dX3_hashOfCounts_5 : decode cX3_hashOfCounts 5 = .ok (.iload 5, 2) := by decide +kernel
theorem dX3_hashOfCounts_7 : decode cX3_hashOfCounts 7 = .ok (.bipush 8, 2) := by decide +kernel
theorem dX3_hashOfCounts_9 : decode cX3_hashOfCounts 9 = .ok (.if_icmp .gt 21, 3) := by decide +kernel
theorem dX3_hashOfCounts_12 : decode cX3_hashOfCounts 12 = .ok (.lload_n 3, 1) := by decide +kernel
theorem dX3_hashOfCounts_13 : decode cX3_hashOfCounts 13 = .ok (.aload_n 0, 1) := by decide +kernel
theorem dX3_hashOfCounts_14 : decode cX3_hashOfCounts 14 = .ok (.iload 5, 2) := by decide +kernel
theorem dX3_hashOfCounts_16 : decode cX3_hashOfCounts 16 = .ok (.invokevirtual 260, 3) := by decide +kernel
theorem dX3_hashOfCounts_19 : decode cX3_hashOfCounts 19 = .ok (.i2l, 1) := by decide +kernel
theorem dX3_hashOfCounts_20 : decode cX3_hashOfCounts 20 = .ok (.invokestatic 231, 3) := by decide +kernel
theorem dX3_hashOfCounts_23 : decode cX3_hashOfCounts 23 = .ok (.lstore_n 3, 1) := by decide +kernel
theorem dX3_hashOfCounts_24 : decode cX3_hashOfCounts 24 = .ok (.iinc 5 1, 3) := by decide +kernel
theorem dX3_hashOfCounts_27 : decode cX3_hashOfCounts 27 = .ok (.goto (-22), 3) := by decide +kernel
theorem dX3_hashOfCounts_30 : decode cX3_hashOfCounts 30 = .ok (.iconst 0, 1) := by decide +kernel
theorem dX3_hashOfCounts_31 : decode cX3_hashOfCounts 31 = .ok (.istore 5, 2) := by decide +kernel
theorem dX3_hashOfCounts_33 : decode cX3_hashOfCounts 33 = .ok (.iload 5, 2) := by decide +kernel
theorem dX3_hashOfCounts_35 : decode cX3_hashOfCounts 35 = .ok (.iconst 3, 1) := by decide +kernel
theorem dX3_hashOfCounts_36 : decode cX3_hashOfCounts 36 = .ok (.if_icmp .ge 24, 3) := by decide +kernel
theorem dX3_hashOfCounts_39 : decode cX3_hashOfCounts 39 = .ok (.lload_n 3, 1) := by decide +kernel
theorem dX3_hashOfCounts_40 : decode cX3_hashOfCounts 40 = .ok (.aload_n 0, 1) := by decide +kernel
theorem dX3_hashOfCounts_41 : decode cX3_hashOfCounts 41 = .ok (.getfield 10, 3) := by decide +kernel
theorem dX3_hashOfCounts_44 : decode cX3_hashOfCounts 44 = .ok (.iload 5, 2) := by decide +kernel
theorem dX3_hashOfCounts_46 : decode cX3_hashOfCounts 46 = .ok (.invokevirtual 194, 3) := by decide +kernel
theorem dX3_hashOfCounts_49 : decode cX3_hashOfCounts 49 = .ok (.i2l, 1) := by decide +kernel
theorem dX3_hashOfCounts_50 : decode cX3_hashOfCounts 50 = .ok (.invokestatic 231, 3) := by decide +kernel
theorem dX3_hashOfCounts_53 : decode cX3_hashOfCounts 53 = .ok (.lstore_n 3, 1) := by decide +kernel
theorem dX3_hashOfCounts_54 : decode cX3_hashOfCounts 54 = .ok (.iinc 5 1, 3) := by decide +kernel
theorem dX3_hashOfCounts_57 : decode cX3_hashOfCounts 57 = .ok (.goto (-24), 3) := by decide +kernel
theorem dX3_hashOfCounts_60 : decode cX3_hashOfCounts 60 = .ok (.lload_n 3, 1) := by decide +kernel
theorem dX3_hashOfCounts_61 : decode cX3_hashOfCounts 61 = .ok (.lreturn, 1) := by decide +kernel
set_option maxRecDepth 20000 in
theorem ggX3_hashOfRoof_X1_planeNumber : GoodIn wsX3_hashOfRoof wsX1_planeNumber := goodIn_r _ [6, 7, 8, 9, 10, 39, 40, 41, 42, 43, 44, 45, 46, 47, 48, 49, 50, 51, 52, 53, 54] (by decide +kernel) (by decide +kernel)
set_option maxRecDepth 20000 in
theorem gX3_hashOfRoof_X1_planeNumber : GoodIn wsX3_hashOfRoof (wsV RX3 168 RX1 yX1_planeNumber wsX1_planeNumber) := goodIn_app (goodIn_of _ (by decide +kernel)) ggX3_hashOfRoof_X1_planeNumber
set_option maxRecDepth 20000 in
theorem ggX3_hashOfRoof_X3_hashWith : GoodIn wsX3_hashOfRoof wsX3_hashWith := goodIn_r _ [14, 15] (by decide +kernel) (by decide +kernel)
set_option maxRecDepth 20000 in
theorem gX3_hashOfRoof_X3_hashWith : GoodIn wsX3_hashOfRoof (va_wsS RX3 231 yX3_hashWith wsX3_hashWith) := goodIn_app (goodIn_of _ (by decide +kernel)) ggX3_hashOfRoof_X3_hashWith
set_option maxRecDepth 20000 in
theorem ggX3_hashOfRoof_X1_gutterNumber : GoodIn wsX3_hashOfRoof wsX1_gutterNumber := goodIn_r _ [19, 20, 21, 22, 23, 24, 25, 26, 27, 28, 29, 5, 30, 31, 32, 33, 34, 39, 40, 41, 42, 43, 44, 45, 46, 47, 48, 49, 50, 51, 52, 53, 54] (by decide +kernel) (by decide +kernel)
set_option maxRecDepth 20000 in
theorem gX3_hashOfRoof_X1_gutterNumber : GoodIn wsX3_hashOfRoof (wsV RX3 173 RX1 yX1_gutterNumber wsX1_gutterNumber) := goodIn_app (goodIn_of _ (by decide +kernel)) ggX3_hashOfRoof_X1_gutterNumber
theorem dX3_hashOfRoof_0 : decode cX3_hashOfRoof 0 = .ok (.lload_n 1, 1) := by decide +kernel
theorem dX3_hashOfRoof_1 : decode cX3_hashOfRoof 1 = .ok (.lstore_n 3, 1) := by decide +kernel
theorem dX3_hashOfRoof_2 : decode cX3_hashOfRoof 2 = .ok (.iconst 0, 1) := by decide +kernel
theorem dX3_hashOfRoof_3 : decode cX3_hashOfRoof 3 = .ok (.istore 5, 2) := by decide +kernel
theorem dX3_hashOfRoof_5 : decode cX3_hashOfRoof 5 = .ok (.iload 5, 2) := by decide +kernel
theorem dX3_hashOfRoof_7 : decode cX3_hashOfRoof 7 = .ok (.bipush 6, 2) := by decide +kernel
theorem dX3_hashOfRoof_9 : decode cX3_hashOfRoof 9 = .ok (.if_icmp .ge 41, 3) := by decide +kernel
theorem dX3_hashOfRoof_12 : decode cX3_hashOfRoof 12 = .ok (.iconst 0, 1) := by decide +kernel
theorem dX3_hashOfRoof_13 : decode cX3_hashOfRoof 13 = .ok (.istore 6, 2) := by decide +kernel
theorem dX3_hashOfRoof_15 : decode cX3_hashOfRoof 15 = .ok (.iload 6, 2) := by decide +kernel
theorem dX3_hashOfRoof_17 : decode cX3_hashOfRoof 17 = .ok (.iconst 3, 1) := by decide +kernel
theorem dX3_hashOfRoof_18 : decode cX3_hashOfRoof 18 = .ok (.if_icmp .gt 26, 3) := by decide +kernel
theorem dX3_hashOfRoof_21 : decode cX3_hashOfRoof 21 = .ok (.lload_n 3, 1) := by decide +kernel
theorem dX3_hashOfRoof_22 : decode cX3_hashOfRoof 22 = .ok (.aload_n 0, 1) := by decide +kernel
theorem dX3_hashOfRoof_23 : decode cX3_hashOfRoof 23 = .ok (.getfield 10, 3) := by decide +kernel
theorem dX3_hashOfRoof_26 : decode cX3_hashOfRoof 26 = .ok (.iload 5, 2) := by decide +kernel
theorem dX3_hashOfRoof_28 : decode cX3_hashOfRoof 28 = .ok (.iload 6, 2) := by decide +kernel
theorem dX3_hashOfRoof_30 : decode cX3_hashOfRoof 30 = .ok (.invokevirtual 168, 3) := by decide +kernel
theorem dX3_hashOfRoof_33 : decode cX3_hashOfRoof 33 = .ok (.i2l, 1) := by decide +kernel
theorem dX3_hashOfRoof_34 : decode cX3_hashOfRoof 34 = .ok (.invokestatic 231, 3) := by decide +kernel
theorem dX3_hashOfRoof_37 : decode cX3_hashOfRoof 37 = .ok (.lstore_n 3, 1) := by decide +kernel
theorem dX3_hashOfRoof_38 : decode cX3_hashOfRoof 38 = .ok (.iinc 6 1, 3) := by decide +kernel
theorem dX3_hashOfRoof_41 : decode cX3_hashOfRoof 41 = .ok (.goto (-26), 3) := by decide +kernel
theorem dX3_hashOfRoof_44 : decode cX3_hashOfRoof 44 = .ok (.iinc 5 1, 3) := by decide +kernel
theorem dX3_hashOfRoof_47 : decode cX3_hashOfRoof 47 = .ok (.goto (-42), 3) := by decide +kernel
theorem dX3_hashOfRoof_50 : decode cX3_hashOfRoof 50 = .ok (.iconst 0, 1) := by decide +kernel
theorem dX3_hashOfRoof_51 : decode cX3_hashOfRoof 51 = .ok (.istore 5, 2) := by decide +kernel
theorem dX3_hashOfRoof_53 : decode cX3_hashOfRoof 53 = .ok (.iload 5, 2) := by decide +kernel
theorem dX3_hashOfRoof_55 : decode cX3_hashOfRoof 55 = .ok (.bipush 6, 2) := by decide +kernel
theorem dX3_hashOfRoof_57 : decode cX3_hashOfRoof 57 = .ok (.if_icmp .ge 42, 3) := by decide +kernel
theorem dX3_hashOfRoof_60 : decode cX3_hashOfRoof 60 = .ok (.iconst 0, 1) := by decide +kernel
theorem dX3_hashOfRoof_61 : decode cX3_hashOfRoof 61 = .ok (.istore 6, 2) := by decide +kernel
theorem dX3_hashOfRoof_63 : decode cX3_hashOfRoof 63 = .ok (.iload 6, 2) := by decide +kernel
theorem dX3_hashOfRoof_65 : decode cX3_hashOfRoof 65 = .ok (.bipush 8, 2) := by decide +kernel
theorem dX3_hashOfRoof_67 : decode cX3_hashOfRoof 67 = .ok (.if_icmp .gt 26, 3) := by decide +kernel
theorem dX3_hashOfRoof_70 : decode cX3_hashOfRoof 70 = .ok (.lload_n 3, 1) := by decide +kernel
theorem dX3_hashOfRoof_71 : decode cX3_hashOfRoof 71 = .ok (.aload_n 0, 1) := by decide +kernel
theorem dX3_hashOfRoof_72 : decode cX3_hashOfRoof 72 = .ok (.getfield 10, 3) := by decide +kernel
theorem dX3_hashOfRoof_75 : decode cX3_hashOfRoof 75 = .ok (.iload 5, 2) := by decide +kernel
theorem dX3_hashOfRoof_77 : decode cX3_hashOfRoof 77 = .ok (.iload 6, 2) := by decide +kernel
theorem dX3_hashOfRoof_79 : decode cX3_hashOfRoof 79 = .ok (.invokevirtual 173, 3) := by decide +kernel
theorem dX3_hashOfRoof_82 : decode cX3_hashOfRoof 82 = .ok (.i2l, 1) := by decide +kernel
theorem dX3_hashOfRoof_83 : decode cX3_hashOfRoof 83 = .ok (.invokestatic 231, 3) := by decide +kernel
theorem dX3_hashOfRoof_86 : decode cX3_hashOfRoof 86 = .ok (.lstore_n 3, 1) := by decide +kernel
theorem dX3_hashOfRoof_87 : decode cX3_hashOfRoof 87 = .ok (.iinc 6 1, 3) := by decide +kernel
theorem dX3_hashOfRoof_90 : decode cX3_hashOfRoof 90 = .ok (.goto (-27), 3) := by decide +kernel
theorem dX3_hashOfRoof_93 : decode cX3_hashOfRoof 93 = .ok (.iinc 5 1, 3) := by decide +kernel
theorem dX3_hashOfRoof_96 : decode cX3_hashOfRoof 96 = .ok (.goto (-43), 3) := by decide +kernel
theorem dX3_hashOfRoof_99 : decode cX3_hashOfRoof 99 = .ok (.lload_n 3, 1) := by decide +kernel
theorem dX3_hashOfRoof_100 : decode cX3_hashOfRoof 100 = .ok (.lreturn, 1) := by decide +kernel
set_option maxRecDepth 20000 in
theorem ggX3_hashOfText_X0_length : GoodIn wsX3_hashOfText wsX0_length := goodIn_r _ [6, 7, 22, 23] (by decide +kernel) (by decide +kernel)
set_option maxRecDepth 20000 in
theorem gX3_hashOfText_X0_length : GoodIn wsX3_hashOfText (wsV RX3 135 RX0 yX0_length wsX0_length) := goodIn_app (goodIn_of _ (by decide +kernel)) ggX3_hashOfText_X0_length
set_option maxRecDepth 20000 in
theorem ggX3_hashOfText_X3_hashWith : GoodIn wsX3_hashOfText wsX3_hashWith := goodIn_r _ [11, 12] (by decide +kernel) (by decide +kernel)
set_option maxRecDepth 20000 in
theorem gX3_hashOfText_X3_hashWith : GoodIn wsX3_hashOfText (va_wsS RX3 231 yX3_hashWith wsX3_hashWith) := goodIn_app (goodIn_of _ (by decide +kernel)) ggX3_hashOfText_X3_hashWith
set_option maxRecDepth 20000 in
theorem ggX3_hashOfText_X0_codeAt : GoodIn wsX3_hashOfText wsX0_codeAt := goodIn_r _ [16, 17, 22, 23] (by decide +kernel) (by decide +kernel)
set_option maxRecDepth 20000 in
theorem gX3_hashOfText_X0_codeAt : GoodIn wsX3_hashOfText (wsV RX3 263 RX0 yX0_codeAt wsX0_codeAt) := goodIn_app (goodIn_of _ (by decide +kernel)) ggX3_hashOfText_X0_codeAt
theorem dX3_hashOfText_0 : decode cX3_hashOfText 0 = .ok (.lload_n 1, 1) := by decide +kernel
theorem dX3_hashOfText_1 : decode cX3_hashOfText 1 = .ok (.aload_n 0, 1) := by decide +kernel
theorem dX3_hashOfText_2 : decode cX3_hashOfText 2 = .ok (.getfield 29, 3) := by decide +kernel
theorem dX3_hashOfText_5 : decode cX3_hashOfText 5 = .ok (.invokevirtual 135, 3) := by decide +kernel
theorem dX3_hashOfText_8 : decode cX3_hashOfText 8 = .ok (.i2l, 1) := by decide +kernel
theorem dX3_hashOfText_9 : decode cX3_hashOfText 9 = .ok (.invokestatic 231, 3) := by decide +kernel
theorem dX3_hashOfText_12 : decode cX3_hashOfText 12 = .ok (.lstore_n 3, 1) := by decide +kernel
theorem dX3_hashOfText_13 : decode cX3_hashOfText 13 = .ok (.iconst 0, 1) := by decide +kernel
theorem dX3_hashOfText_14 : decode cX3_hashOfText 14 = .ok (.istore 5, 2) := by decide +kernel
theorem dX3_hashOfText_16 : decode cX3_hashOfText 16 = .ok (.iload 5, 2) := by decide +kernel
theorem dX3_hashOfText_18 : decode cX3_hashOfText 18 = .ok (.aload_n 0, 1) := by decide +kernel
theorem dX3_hashOfText_19 : decode cX3_hashOfText 19 = .ok (.getfield 29, 3) := by decide +kernel
theorem dX3_hashOfText_22 : decode cX3_hashOfText 22 = .ok (.invokevirtual 135, 3) := by decide +kernel
theorem dX3_hashOfText_25 : decode cX3_hashOfText 25 = .ok (.if_icmp .ge 24, 3) := by decide +kernel
theorem dX3_hashOfText_28 : decode cX3_hashOfText 28 = .ok (.lload_n 3, 1) := by decide +kernel
theorem dX3_hashOfText_29 : decode cX3_hashOfText 29 = .ok (.aload_n 0, 1) := by decide +kernel
theorem dX3_hashOfText_30 : decode cX3_hashOfText 30 = .ok (.getfield 29, 3) := by decide +kernel
theorem dX3_hashOfText_33 : decode cX3_hashOfText 33 = .ok (.iload 5, 2) := by decide +kernel
theorem dX3_hashOfText_35 : decode cX3_hashOfText 35 = .ok (.invokevirtual 263, 3) := by decide +kernel
theorem dX3_hashOfText_38 : decode cX3_hashOfText 38 = .ok (.i2l, 1) := by decide +kernel
theorem dX3_hashOfText_39 : decode cX3_hashOfText 39 = .ok (.invokestatic 231, 3) := by decide +kernel
theorem dX3_hashOfText_42 : decode cX3_hashOfText 42 = .ok (.lstore_n 3, 1) := by decide +kernel
theorem dX3_hashOfText_43 : decode cX3_hashOfText 43 = .ok (.iinc 5 1, 3) := by decide +kernel
theorem dX3_hashOfText_46 : decode cX3_hashOfText 46 = .ok (.goto (-30), 3) := by decide +kernel
theorem dX3_hashOfText_49 : decode cX3_hashOfText 49 = .ok (.lload_n 3, 1) := by decide +kernel
theorem dX3_hashOfText_50 : decode cX3_hashOfText 50 = .ok (.lreturn, 1) := by decide +kernel
theorem dX3_bitsOfShare_0 : decode cX3_bitsOfShare 0 = .ok (.dload_n 0, 1) := by decide +kernel
theorem dX3_bitsOfShare_1 : decode cX3_bitsOfShare 1 = .ok (.dconst 0, 1) := by decide +kernel
theorem dX3_bitsOfShare_2 : decode cX3_bitsOfShare 2 = .ok (.dcmp .g, 1) := by decide +kernel
theorem dX3_bitsOfShare_3 : decode cX3_bitsOfShare 3 = .ok (.ifCond .gt 5, 3) := by decide +kernel
theorem dX3_bitsOfShare_6 : decode cX3_bitsOfShare 6 = .ok (.lconst 0, 1) := by decide +kernel
theorem dX3_bitsOfShare_7 : decode cX3_bitsOfShare 7 = .ok (.lreturn, 1) := by decide +kernel
theorem dX3_bitsOfShare_8 : decode cX3_bitsOfShare 8 = .ok (.dload_n 0, 1) := by decide +kernel
theorem dX3_bitsOfShare_9 : decode cX3_bitsOfShare 9 = .ok (.dstore_n 2, 1) := by decide +kernel
theorem dX3_bitsOfShare_10 : decode cX3_bitsOfShare 10 = .ok (.lconst 0, 1) := by decide +kernel
theorem dX3_bitsOfShare_11 : decode cX3_bitsOfShare 11 = .ok (.lstore 4, 2) := by decide +kernel
theorem dX3_bitsOfShare_13 : decode cX3_bitsOfShare 13 = .ok (.dload_n 2, 1) := by decide +kernel
theorem dX3_bitsOfShare_14 : decode cX3_bitsOfShare 14 = .ok (.dconst 1, 1) := by decide +kernel
theorem dX3_bitsOfShare_15 : decode cX3_bitsOfShare 15 = .ok (.dcmp .g, 1) := by decide +kernel
theorem dX3_bitsOfShare_16 : decode cX3_bitsOfShare 16 = .ok (.ifCond .ge 27, 3) := by decide +kernel
theorem dX3_bitsOfShare_19 : decode cX3_bitsOfShare 19 = .ok (.lload 4, 2) := by decide +kernel
theorem dX3_bitsOfShare_21 : decode cX3_bitsOfShare 21 = .ok (.ldc2_w 266, 3) := by decide +kernel
theorem dX3_bitsOfShare_24 : decode cX3_bitsOfShare 24 = .ok (.lcmp, 1) := by decide +kernel
theorem dX3_bitsOfShare_25 : decode cX3_bitsOfShare 25 = .ok (.ifCond .ge 18, 3) := by decide +kernel
theorem dX3_bitsOfShare_28 : decode cX3_bitsOfShare 28 = .ok (.dload_n 2, 1) := by decide +kernel
theorem dX3_bitsOfShare_29 : decode cX3_bitsOfShare 29 = .ok (.ldc2_w 268, 3) := by decide +kernel
theorem dX3_bitsOfShare_32 : decode cX3_bitsOfShare 32 = .ok (.dmul, 1) := by decide +kernel
theorem dX3_bitsOfShare_33 : decode cX3_bitsOfShare 33 = .ok (.dstore_n 2, 1) := by decide +kernel
theorem dX3_bitsOfShare_34 : decode cX3_bitsOfShare 34 = .ok (.lload 4, 2) := by decide +kernel
theorem dX3_bitsOfShare_36 : decode cX3_bitsOfShare 36 = .ok (.lconst 1, 1) := by decide +kernel
theorem dX3_bitsOfShare_37 : decode cX3_bitsOfShare 37 = .ok (.ladd, 1) := by decide +kernel
theorem dX3_bitsOfShare_38 : decode cX3_bitsOfShare 38 = .ok (.lstore 4, 2) := by decide +kernel
theorem dX3_bitsOfShare_40 : decode cX3_bitsOfShare 40 = .ok (.goto (-27), 3) := by decide +kernel
theorem dX3_bitsOfShare_43 : decode cX3_bitsOfShare 43 = .ok (.dload_n 2, 1) := by decide +kernel
theorem dX3_bitsOfShare_44 : decode cX3_bitsOfShare 44 = .ok (.dconst 1, 1) := by decide +kernel
theorem dX3_bitsOfShare_45 : decode cX3_bitsOfShare 45 = .ok (.dsub, 1) := by decide +kernel
theorem dX3_bitsOfShare_46 : decode cX3_bitsOfShare 46 = .ok (.ldc2_w 270, 3) := by decide +kernel
theorem dX3_bitsOfShare_49 : decode cX3_bitsOfShare 49 = .ok (.dmul, 1) := by decide +kernel
theorem dX3_bitsOfShare_50 : decode cX3_bitsOfShare 50 = .ok (.dstore 6, 2) := by decide +kernel
theorem dX3_bitsOfShare_52 : decode cX3_bitsOfShare 52 = .ok (.ldc2_w 272, 3) := by decide +kernel
theorem dX3_bitsOfShare_55 : decode cX3_bitsOfShare 55 = .ok (.lload 4, 2) := by decide +kernel
theorem dX3_bitsOfShare_57 : decode cX3_bitsOfShare 57 = .ok (.lsub, 1) := by decide +kernel
theorem dX3_bitsOfShare_58 : decode cX3_bitsOfShare 58 = .ok (.bipush 52, 2) := by decide +kernel
theorem dX3_bitsOfShare_60 : decode cX3_bitsOfShare 60 = .ok (.lshl, 1) := by decide +kernel
theorem dX3_bitsOfShare_61 : decode cX3_bitsOfShare 61 = .ok (.dload 6, 2) := by decide +kernel
theorem dX3_bitsOfShare_63 : decode cX3_bitsOfShare 63 = .ok (.d2l, 1) := by decide +kernel
theorem dX3_bitsOfShare_64 : decode cX3_bitsOfShare 64 = .ok (.ladd, 1) := by decide +kernel
theorem dX3_bitsOfShare_65 : decode cX3_bitsOfShare 65 = .ok (.lreturn, 1) := by decide +kernel
theorem dX3_isWithin_0 : decode cX3_isWithin 0 = .ok (.iload_n 0, 1) := by decide +kernel
theorem dX3_isWithin_1 : decode cX3_isWithin 1 = .ok (.iload_n 1, 1) := by decide +kernel
theorem dX3_isWithin_2 : decode cX3_isWithin 2 = .ok (.if_icmp .lt 12, 3) := by decide +kernel
theorem dX3_isWithin_5 : decode cX3_isWithin 5 = .ok (.iload_n 0, 1) := by decide +kernel
theorem dX3_isWithin_6 : decode cX3_isWithin 6 = .ok (.iload_n 2, 1) := by decide +kernel
theorem dX3_isWithin_7 : decode cX3_isWithin 7 = .ok (.if_icmp .gt 7, 3) := by decide +kernel
theorem dX3_isWithin_10 : decode cX3_isWithin 10 = .ok (.iconst 1, 1) := by decide +kernel
theorem dX3_isWithin_11 : decode cX3_isWithin 11 = .ok (.goto 4, 3) := by decide +kernel
theorem dX3_isWithin_14 : decode cX3_isWithin 14 = .ok (.iconst 0, 1) := by decide +kernel
theorem dX3_isWithin_15 : decode cX3_isWithin 15 = .ok (.ireturn, 1) := by decide +kernel
theorem dX3_isPlane_0 : decode cX3_isPlane 0 = .ok (.iload_n 0, 1) := by decide +kernel
theorem dX3_isPlane_1 : decode cX3_isPlane 1 = .ok (.ifCond .lt 13, 3) := by decide +kernel
theorem dX3_isPlane_4 : decode cX3_isPlane 4 = .ok (.iload_n 0, 1) := by decide +kernel
theorem dX3_isPlane_5 : decode cX3_isPlane 5 = .ok (.bipush 6, 2) := by decide +kernel
theorem dX3_isPlane_7 : decode cX3_isPlane 7 = .ok (.if_icmp .ge 7, 3) := by decide +kernel
theorem dX3_isPlane_10 : decode cX3_isPlane 10 = .ok (.iconst 1, 1) := by decide +kernel
theorem dX3_isPlane_11 : decode cX3_isPlane 11 = .ok (.goto 4, 3) := by decide +kernel
theorem dX3_isPlane_14 : decode cX3_isPlane 14 = .ok (.iconst 0, 1) := by decide +kernel
theorem dX3_isPlane_15 : decode cX3_isPlane 15 = .ok (.ireturn, 1) := by decide +kernel
theorem dX3_isGutter_0 : decode cX3_isGutter 0 = .ok (.iload_n 0, 1) := by decide +kernel
theorem dX3_isGutter_1 : decode cX3_isGutter 1 = .ok (.ifCond .lt 13, 3) := by decide +kernel
theorem dX3_isGutter_4 : decode cX3_isGutter 4 = .ok (.iload_n 0, 1) := by decide +kernel
theorem dX3_isGutter_5 : decode cX3_isGutter 5 = .ok (.bipush 6, 2) := by decide +kernel
theorem dX3_isGutter_7 : decode cX3_isGutter 7 = .ok (.if_icmp .ge 7, 3) := by decide +kernel
theorem dX3_isGutter_10 : decode cX3_isGutter 10 = .ok (.iconst 1, 1) := by decide +kernel
theorem dX3_isGutter_11 : decode cX3_isGutter 11 = .ok (.goto 4, 3) := by decide +kernel
theorem dX3_isGutter_14 : decode cX3_isGutter 14 = .ok (.iconst 0, 1) := by decide +kernel
theorem dX3_isGutter_15 : decode cX3_isGutter 15 = .ok (.ireturn, 1) := by decide +kernel
theorem dX3_isSetting_0 : decode cX3_isSetting 0 = .ok (.iload_n 0, 1) := by decide +kernel
theorem dX3_isSetting_1 : decode cX3_isSetting 1 = .ok (.ifCond .lt 12, 3) := by decide +kernel
theorem dX3_isSetting_4 : decode cX3_isSetting 4 = .ok (.iload_n 0, 1) := by decide +kernel
theorem dX3_isSetting_5 : decode cX3_isSetting 5 = .ok (.iconst 3, 1) := by decide +kernel
theorem dX3_isSetting_6 : decode cX3_isSetting 6 = .ok (.if_icmp .ge 7, 3) := by decide +kernel
theorem dX3_isSetting_9 : decode cX3_isSetting 9 = .ok (.iconst 1, 1) := by decide +kernel
theorem dX3_isSetting_10 : decode cX3_isSetting 10 = .ok (.goto 4, 3) := by decide +kernel
theorem dX3_isSetting_13 : decode cX3_isSetting 13 = .ok (.iconst 0, 1) := by decide +kernel
theorem dX3_isSetting_14 : decode cX3_isSetting 14 = .ok (.ireturn, 1) := by decide +kernel
