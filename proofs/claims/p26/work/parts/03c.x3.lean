set_option maxRecDepth 20000 in
theorem ggX3_init_X1_init : GoodIn wsX3_init wsX1_init := goodIn_r _ [19, 20, 2, 3, 21, 22, 23, 24, 25, 26, 27, 28, 29, 30, 31, 32, 33, 45, 46, 47, 48, 49, 50, 51, 52, 53, 54, 55, 56, 57, 58, 59, 60] rfl (by decide +kernel)
set_option maxRecDepth 20000 in
theorem gX3_init_X1_init : GoodIn wsX3_init (wsX1_init) := ggX3_init_X1_init
set_option maxRecDepth 20000 in
theorem ggX3_init_X2_init : GoodIn wsX3_init wsX2_init := goodIn_r _ [36, 37, 2, 3, 38, 39, 65, 66, 67] rfl (by decide +kernel)
set_option maxRecDepth 20000 in
theorem gX3_init_X2_init : GoodIn wsX3_init (wsX2_init) := ggX3_init_X2_init
set_option maxRecDepth 20000 in
theorem ggX3_init_X0_init : GoodIn wsX3_init wsX0_init := goodIn_r _ [42, 43, 2, 3, 21, 44, 68, 69] rfl (by decide +kernel)
set_option maxRecDepth 20000 in
theorem gX3_init_X0_init : GoodIn wsX3_init (wsX0_init) := ggX3_init_X0_init
theorem dX3_init_0 : decode cX3_init 0 = .ok (.aload_n 0, 1) := by decide +kernel
theorem dX3_init_1 : decode cX3_init 1 = .ok (.invokespecial 1, 3) := by decide +kernel
theorem dX3_init_4 : decode cX3_init 4 = .ok (.aload_n 0, 1) := by decide +kernel
theorem dX3_init_5 : decode cX3_init 5 = .ok (.new 7, 3) := by decide +kernel
theorem dX3_init_8 : decode cX3_init 8 = .ok (.dup, 1) := by decide +kernel
theorem dX3_init_9 : decode cX3_init 9 = .ok (.invokespecial 9, 3) := by decide +kernel
theorem dX3_init_12 : decode cX3_init 12 = .ok (.putfield 10, 3) := by decide +kernel
theorem dX3_init_15 : decode cX3_init 15 = .ok (.aload_n 0, 1) := by decide +kernel
theorem dX3_init_16 : decode cX3_init 16 = .ok (.new 7, 3) := by decide +kernel
theorem dX3_init_19 : decode cX3_init 19 = .ok (.dup, 1) := by decide +kernel
theorem dX3_init_20 : decode cX3_init 20 = .ok (.invokespecial 9, 3) := by decide +kernel
theorem dX3_init_23 : decode cX3_init 23 = .ok (.putfield 16, 3) := by decide +kernel
theorem dX3_init_26 : decode cX3_init 26 = .ok (.aload_n 0, 1) := by decide +kernel
theorem dX3_init_27 : decode cX3_init 27 = .ok (.new 19, 3) := by decide +kernel
theorem dX3_init_30 : decode cX3_init 30 = .ok (.dup, 1) := by decide +kernel
theorem dX3_init_31 : decode cX3_init 31 = .ok (.invokespecial 21, 3) := by decide +kernel
theorem dX3_init_34 : decode cX3_init 34 = .ok (.putfield 22, 3) := by decide +kernel
theorem dX3_init_37 : decode cX3_init 37 = .ok (.aload_n 0, 1) := by decide +kernel
theorem dX3_init_38 : decode cX3_init 38 = .ok (.new 26, 3) := by decide +kernel
theorem dX3_init_41 : decode cX3_init 41 = .ok (.dup, 1) := by decide +kernel
theorem dX3_init_42 : decode cX3_init 42 = .ok (.invokespecial 28, 3) := by decide +kernel
theorem dX3_init_45 : decode cX3_init 45 = .ok (.putfield 29, 3) := by decide +kernel
theorem dX3_init_48 : decode cX3_init 48 = .ok (.return_, 1) := by decide +kernel
set_option maxRecDepth 20000 in
theorem ggX3_plane_X3_isPlane : GoodIn wsX3_plane wsX3_isPlane := goodIn_r _ [10] rfl (by decide +kernel)
set_option maxRecDepth 20000 in
theorem gX3_plane_X3_isPlane : GoodIn wsX3_plane (va_wsS RX3 33 yX3_isPlane wsX3_isPlane) := goodIn_app (goodIn_of _ (by decide +kernel)) ggX3_plane_X3_isPlane
set_option maxRecDepth 20000 in
theorem ggX3_plane_X3_isGutter : GoodIn wsX3_plane wsX3_isGutter := goodIn_r _ [13] rfl (by decide +kernel)
set_option maxRecDepth 20000 in
theorem gX3_plane_X3_isGutter : GoodIn wsX3_plane (va_wsS RX3 37 yX3_isGutter wsX3_isGutter) := goodIn_app (goodIn_of _ (by decide +kernel)) ggX3_plane_X3_isGutter
set_option maxRecDepth 20000 in
theorem ggX3_plane_X3_isWithin : GoodIn wsX3_plane wsX3_isWithin := goodIn_r _ [16] rfl (by decide +kernel)
set_option maxRecDepth 20000 in
theorem gX3_plane_X3_isWithin : GoodIn wsX3_plane (va_wsS RX3 47 yX3_isWithin wsX3_isWithin) := goodIn_app (goodIn_of _ (by decide +kernel)) ggX3_plane_X3_isWithin
set_option maxRecDepth 20000 in
theorem ggX3_plane_X2_keep : GoodIn wsX3_plane wsX2_keep := goodIn_r _ [21, 22, 23, 24, 25, 26, 27, 28, 29, 30, 31, 32, 33, 34, 35, 36, 37, 38, 39, 40, 41, 42, 43, 44, 45, 46, 47, 48, 49, 50, 51, 52, 53, 54, 55, 56, 57, 58, 67, 68, 69, 70, 71, 72, 73, 74, 75, 76, 77, 78, 79, 80, 81, 82, 83, 84, 85] rfl (by decide +kernel)
set_option maxRecDepth 20000 in
theorem gX3_plane_X2_keep : GoodIn wsX3_plane (wsV RX3 56 RX2 yX2_keep wsX2_keep) := goodIn_app (goodIn_of _ (by decide +kernel)) ggX3_plane_X2_keep
set_option maxRecDepth 20000 in
theorem ggX3_plane_X1_changePlane : GoodIn wsX3_plane wsX1_changePlane := goodIn_r _ [62, 35, 36, 37, 70, 71, 72, 73, 74, 75, 76, 77, 78, 79, 80, 81, 82, 83, 84, 85] rfl (by decide +kernel)
set_option maxRecDepth 20000 in
theorem gX3_plane_X1_changePlane : GoodIn wsX3_plane (wsV RX3 60 RX1 yX1_changePlane wsX1_changePlane) := goodIn_app (goodIn_of _ (by decide +kernel)) ggX3_plane_X1_changePlane
theorem dX3_plane_0 : decode cX3_plane 0 = .ok (.iload_n 1, 1) := by decide +kernel
theorem dX3_plane_1 : decode cX3_plane 1 = .ok (.invokestatic 33, 3) := by decide +kernel
theorem dX3_plane_4 : decode cX3_plane 4 = .ok (.ifCond .eq 11, 3) := by decide +kernel
theorem dX3_plane_7 : decode cX3_plane 7 = .ok (.iload 4, 2) := by decide +kernel
theorem dX3_plane_9 : decode cX3_plane 9 = .ok (.invokestatic 37, 3) := by decide +kernel
theorem dX3_plane_12 : decode cX3_plane 12 = .ok (.ifCond .ne 13, 3) := by decide +kernel
theorem dX3_plane_15 : decode cX3_plane 15 = .ok (.new 40, 3) := by decide +kernel
theorem dX3_plane_18 : decode cX3_plane 18 = .ok (.dup, 1) := by decide +kernel
theorem dX3_plane_19 : decode cX3_plane 19 = .ok (.ldc 42, 2) := by decide +kernel
theorem dX3_plane_21 : decode cX3_plane 21 = .ok (.invokespecial 44, 3) := by decide +kernel
theorem dX3_plane_24 : decode cX3_plane 24 = .ok (.athrow, 1) := by decide +kernel
theorem dX3_plane_25 : decode cX3_plane 25 = .ok (.iload_n 2, 1) := by decide +kernel
theorem dX3_plane_26 : decode cX3_plane 26 = .ok (.iconst 0, 1) := by decide +kernel
theorem dX3_plane_27 : decode cX3_plane 27 = .ok (.sipush 200, 3) := by decide +kernel
theorem dX3_plane_30 : decode cX3_plane 30 = .ok (.invokestatic 47, 3) := by decide +kernel
theorem dX3_plane_33 : decode cX3_plane 33 = .ok (.ifCond .eq 13, 3) := by decide +kernel
theorem dX3_plane_36 : decode cX3_plane 36 = .ok (.iload_n 3, 1) := by decide +kernel
theorem dX3_plane_37 : decode cX3_plane 37 = .ok (.iconst 0, 1) := by decide +kernel
theorem dX3_plane_38 : decode cX3_plane 38 = .ok (.bipush 9, 2) := by decide +kernel
theorem dX3_plane_40 : decode cX3_plane 40 = .ok (.invokestatic 47, 3) := by decide +kernel
theorem dX3_plane_43 : decode cX3_plane 43 = .ok (.ifCond .ne 13, 3) := by decide +kernel
theorem dX3_plane_46 : decode cX3_plane 46 = .ok (.new 51, 3) := by decide +kernel
theorem dX3_plane_49 : decode cX3_plane 49 = .ok (.dup, 1) := by decide +kernel
theorem dX3_plane_50 : decode cX3_plane 50 = .ok (.ldc 53, 2) := by decide +kernel
theorem dX3_plane_52 : decode cX3_plane 52 = .ok (.invokespecial 55, 3) := by decide +kernel
theorem dX3_plane_55 : decode cX3_plane 55 = .ok (.athrow, 1) := by decide +kernel
theorem dX3_plane_56 : decode cX3_plane 56 = .ok (.aload_n 0, 1) := by decide +kernel
theorem dX3_plane_57 : decode cX3_plane 57 = .ok (.getfield 22, 3) := by decide +kernel
theorem dX3_plane_60 : decode cX3_plane 60 = .ok (.aload_n 0, 1) := by decide +kernel
theorem dX3_plane_61 : decode cX3_plane 61 = .ok (.getfield 10, 3) := by decide +kernel
theorem dX3_plane_64 : decode cX3_plane 64 = .ok (.invokevirtual 56, 3) := by decide +kernel
theorem dX3_plane_67 : decode cX3_plane 67 = .ok (.aload_n 0, 1) := by decide +kernel
theorem dX3_plane_68 : decode cX3_plane 68 = .ok (.getfield 10, 3) := by decide +kernel
theorem dX3_plane_71 : decode cX3_plane 71 = .ok (.iload_n 1, 1) := by decide +kernel
theorem dX3_plane_72 : decode cX3_plane 72 = .ok (.iload_n 2, 1) := by decide +kernel
theorem dX3_plane_73 : decode cX3_plane 73 = .ok (.iload_n 3, 1) := by decide +kernel
theorem dX3_plane_74 : decode cX3_plane 74 = .ok (.iload 4, 2) := by decide +kernel
theorem dX3_plane_76 : decode cX3_plane 76 = .ok (.invokevirtual 60, 3) := by decide +kernel
theorem dX3_plane_79 : decode cX3_plane 79 = .ok (.ireturn, 1) := by decide +kernel
set_option maxRecDepth 20000 in
theorem ggX3_gutter_X3_isGutter : GoodIn wsX3_gutter wsX3_isGutter := goodIn_r _ [10] rfl (by decide +kernel)
set_option maxRecDepth 20000 in
theorem gX3_gutter_X3_isGutter : GoodIn wsX3_gutter (va_wsS RX3 37 yX3_isGutter wsX3_isGutter) := goodIn_app (goodIn_of _ (by decide +kernel)) ggX3_gutter_X3_isGutter
set_option maxRecDepth 20000 in
theorem ggX3_gutter_X3_isWithin : GoodIn wsX3_gutter wsX3_isWithin := goodIn_r _ [13] rfl (by decide +kernel)
set_option maxRecDepth 20000 in
theorem gX3_gutter_X3_isWithin : GoodIn wsX3_gutter (va_wsS RX3 47 yX3_isWithin wsX3_isWithin) := goodIn_app (goodIn_of _ (by decide +kernel)) ggX3_gutter_X3_isWithin
set_option maxRecDepth 20000 in
theorem ggX3_gutter_X2_keep : GoodIn wsX3_gutter wsX2_keep := goodIn_r _ [18, 19, 20, 21, 22, 23, 24, 25, 26, 27, 28, 29, 30, 31, 32, 33, 34, 35, 36, 37, 38, 39, 40, 41, 42, 43, 44, 45, 46, 47, 48, 49, 50, 51, 52, 53, 54, 55, 64, 65, 66, 67, 68, 69, 70, 71, 72, 73, 74, 75, 76, 77, 78, 79, 80, 81, 82] rfl (by decide +kernel)
set_option maxRecDepth 20000 in
theorem gX3_gutter_X2_keep : GoodIn wsX3_gutter (wsV RX3 56 RX2 yX2_keep wsX2_keep) := goodIn_app (goodIn_of _ (by decide +kernel)) ggX3_gutter_X2_keep
set_option maxRecDepth 20000 in
theorem ggX3_gutter_X1_changeGutter : GoodIn wsX3_gutter wsX1_changeGutter := goodIn_r _ [59, 36, 37, 67, 68, 69, 70, 71, 72, 73, 74, 75, 76, 77, 78, 79, 80, 81, 82] rfl (by decide +kernel)
set_option maxRecDepth 20000 in
theorem gX3_gutter_X1_changeGutter : GoodIn wsX3_gutter (wsV RX3 68 RX1 yX1_changeGutter wsX1_changeGutter) := goodIn_app (goodIn_of _ (by decide +kernel)) ggX3_gutter_X1_changeGutter
theorem dX3_gutter_0 : decode cX3_gutter 0 = .ok (.iload_n 1, 1) := by decide +kernel
theorem dX3_gutter_1 : decode cX3_gutter 1 = .ok (.invokestatic 37, 3) := by decide +kernel
theorem dX3_gutter_4 : decode cX3_gutter 4 = .ok (.ifCond .ne 13, 3) := by decide +kernel
theorem dX3_gutter_7 : decode cX3_gutter 7 = .ok (.new 40, 3) := by decide +kernel
theorem dX3_gutter_10 : decode cX3_gutter 10 = .ok (.dup, 1) := by decide +kernel
theorem dX3_gutter_11 : decode cX3_gutter 11 = .ok (.ldc 64, 2) := by decide +kernel
theorem dX3_gutter_13 : decode cX3_gutter 13 = .ok (.invokespecial 44, 3) := by decide +kernel
theorem dX3_gutter_16 : decode cX3_gutter 16 = .ok (.athrow, 1) := by decide +kernel
theorem dX3_gutter_17 : decode cX3_gutter 17 = .ok (.iload_n 2, 1) := by decide +kernel
theorem dX3_gutter_18 : decode cX3_gutter 18 = .ok (.iconst 1, 1) := by decide +kernel
theorem dX3_gutter_19 : decode cX3_gutter 19 = .ok (.sipush 500, 3) := by decide +kernel
theorem dX3_gutter_22 : decode cX3_gutter 22 = .ok (.invokestatic 47, 3) := by decide +kernel
theorem dX3_gutter_25 : decode cX3_gutter 25 = .ok (.ifCond .eq 13, 3) := by decide +kernel
theorem dX3_gutter_28 : decode cX3_gutter 28 = .ok (.iload_n 3, 1) := by decide +kernel
theorem dX3_gutter_29 : decode cX3_gutter 29 = .ok (.iconst 0, 1) := by decide +kernel
theorem dX3_gutter_30 : decode cX3_gutter 30 = .ok (.bipush 99, 2) := by decide +kernel
theorem dX3_gutter_32 : decode cX3_gutter 32 = .ok (.invokestatic 47, 3) := by decide +kernel
theorem dX3_gutter_35 : decode cX3_gutter 35 = .ok (.ifCond .ne 13, 3) := by decide +kernel
theorem dX3_gutter_38 : decode cX3_gutter 38 = .ok (.new 51, 3) := by decide +kernel
theorem dX3_gutter_41 : decode cX3_gutter 41 = .ok (.dup, 1) := by decide +kernel
theorem dX3_gutter_42 : decode cX3_gutter 42 = .ok (.ldc 66, 2) := by decide +kernel
theorem dX3_gutter_44 : decode cX3_gutter 44 = .ok (.invokespecial 55, 3) := by decide +kernel
theorem dX3_gutter_47 : decode cX3_gutter 47 = .ok (.athrow, 1) := by decide +kernel
theorem dX3_gutter_48 : decode cX3_gutter 48 = .ok (.aload_n 0, 1) := by decide +kernel
theorem dX3_gutter_49 : decode cX3_gutter 49 = .ok (.getfield 22, 3) := by decide +kernel
theorem dX3_gutter_52 : decode cX3_gutter 52 = .ok (.aload_n 0, 1) := by decide +kernel
theorem dX3_gutter_53 : decode cX3_gutter 53 = .ok (.getfield 10, 3) := by decide +kernel
theorem dX3_gutter_56 : decode cX3_gutter 56 = .ok (.invokevirtual 56, 3) := by decide +kernel
theorem dX3_gutter_59 : decode cX3_gutter 59 = .ok (.aload_n 0, 1) := by decide +kernel
theorem dX3_gutter_60 : decode cX3_gutter 60 = .ok (.getfield 10, 3) := by decide +kernel
theorem dX3_gutter_63 : decode cX3_gutter 63 = .ok (.iload_n 1, 1) := by decide +kernel
theorem dX3_gutter_64 : decode cX3_gutter 64 = .ok (.iload_n 2, 1) := by decide +kernel
theorem dX3_gutter_65 : decode cX3_gutter 65 = .ok (.iload_n 3, 1) := by decide +kernel
theorem dX3_gutter_66 : decode cX3_gutter 66 = .ok (.invokevirtual 68, 3) := by decide +kernel
theorem dX3_gutter_69 : decode cX3_gutter 69 = .ok (.ireturn, 1) := by decide +kernel
set_option maxRecDepth 20000 in
theorem ggX3_valley_X3_isGutter : GoodIn wsX3_valley wsX3_isGutter := goodIn_r _ [12] rfl (by decide +kernel)
set_option maxRecDepth 20000 in
theorem gX3_valley_X3_isGutter : GoodIn wsX3_valley (va_wsS RX3 37 yX3_isGutter wsX3_isGutter) := goodIn_app (goodIn_of _ (by decide +kernel)) ggX3_valley_X3_isGutter
set_option maxRecDepth 20000 in
theorem ggX3_valley_X1_valleysLead : GoodIn wsX3_valley wsX1_valleysLead := goodIn_r _ [17, 18, 10, 11, 12, 67, 68, 69, 70, 71, 72, 73, 74, 75, 76, 77, 78, 79, 80, 81, 82] rfl (by decide +kernel)
set_option maxRecDepth 20000 in
theorem gX3_valley_X1_valleysLead : GoodIn wsX3_valley (wsV RX3 74 RX1 yX1_valleysLead wsX1_valleysLead) := goodIn_app (goodIn_of _ (by decide +kernel)) ggX3_valley_X1_valleysLead
set_option maxRecDepth 20000 in
theorem ggX3_valley_X2_keep : GoodIn wsX3_valley wsX2_keep := goodIn_r _ [23, 24, 25, 26, 27, 28, 16, 29, 30, 31, 32, 33, 34, 35, 36, 37, 38, 39, 40, 41, 42, 18, 43, 44, 45, 46, 47, 48, 49, 50, 51, 52, 53, 54, 55, 56, 57, 58, 83, 84, 85, 67, 68, 69, 70, 71, 72, 73, 74, 75, 76, 77, 78, 79, 80, 81, 82] rfl (by decide +kernel)
set_option maxRecDepth 20000 in
theorem gX3_valley_X2_keep : GoodIn wsX3_valley (wsV RX3 56 RX2 yX2_keep wsX2_keep) := goodIn_app (goodIn_of _ (by decide +kernel)) ggX3_valley_X2_keep
set_option maxRecDepth 20000 in
theorem ggX3_valley_X1_changeValley : GoodIn wsX3_valley wsX1_changeValley := goodIn_r _ [62, 18, 67, 68, 69, 70, 71, 72, 73, 74, 75, 76, 77, 78, 79, 80, 81, 82] rfl (by decide +kernel)
set_option maxRecDepth 20000 in
theorem gX3_valley_X1_changeValley : GoodIn wsX3_valley (wsV RX3 83 RX1 yX1_changeValley wsX1_changeValley) := goodIn_app (goodIn_of _ (by decide +kernel)) ggX3_valley_X1_changeValley
theorem dX3_valley_0 : decode cX3_valley 0 = .ok (.iload_n 1, 1) := by decide +kernel
theorem dX3_valley_1 : decode cX3_valley 1 = .ok (.invokestatic 37, 3) := by decide +kernel
theorem dX3_valley_4 : decode cX3_valley 4 = .ok (.ifCond .eq 15, 3) := by decide +kernel
theorem dX3_valley_7 : decode cX3_valley 7 = .ok (.iload_n 2, 1) := by decide +kernel
theorem dX3_valley_8 : decode cX3_valley 8 = .ok (.iconst (-1), 1) := by decide +kernel
theorem dX3_valley_9 : decode cX3_valley 9 = .ok (.if_icmp .eq 20, 3) := by decide +kernel
theorem dX3_valley_12 : decode cX3_valley 12 = .ok (.iload_n 2, 1) := by decide +kernel
theorem dX3_valley_13 : decode cX3_valley 13 = .ok (.invokestatic 37, 3) := by decide +kernel
theorem dX3_valley_16 : decode cX3_valley 16 = .ok (.ifCond .ne 13, 3) := by decide +kernel
theorem dX3_valley_19 : decode cX3_valley 19 = .ok (.new 40, 3) := by decide +kernel
theorem dX3_valley_22 : decode cX3_valley 22 = .ok (.dup, 1) := by decide +kernel
theorem dX3_valley_23 : decode cX3_valley 23 = .ok (.ldc 64, 2) := by decide +kernel
theorem dX3_valley_25 : decode cX3_valley 25 = .ok (.invokespecial 44, 3) := by decide +kernel
theorem dX3_valley_28 : decode cX3_valley 28 = .ok (.athrow, 1) := by decide +kernel
theorem dX3_valley_29 : decode cX3_valley 29 = .ok (.iload_n 1, 1) := by decide +kernel
theorem dX3_valley_30 : decode cX3_valley 30 = .ok (.iload_n 2, 1) := by decide +kernel
theorem dX3_valley_31 : decode cX3_valley 31 = .ok (.if_icmp .ne 13, 3) := by decide +kernel
theorem dX3_valley_34 : decode cX3_valley 34 = .ok (.new 51, 3) := by decide +kernel
theorem dX3_valley_37 : decode cX3_valley 37 = .ok (.dup, 1) := by decide +kernel
theorem dX3_valley_38 : decode cX3_valley 38 = .ok (.ldc 72, 2) := by decide +kernel
theorem dX3_valley_40 : decode cX3_valley 40 = .ok (.invokespecial 55, 3) := by decide +kernel
theorem dX3_valley_43 : decode cX3_valley 43 = .ok (.athrow, 1) := by decide +kernel
theorem dX3_valley_44 : decode cX3_valley 44 = .ok (.aload_n 0, 1) := by decide +kernel
theorem dX3_valley_45 : decode cX3_valley 45 = .ok (.getfield 10, 3) := by decide +kernel
theorem dX3_valley_48 : decode cX3_valley 48 = .ok (.iload_n 2, 1) := by decide +kernel
theorem dX3_valley_49 : decode cX3_valley 49 = .ok (.iload_n 1, 1) := by decide +kernel
theorem dX3_valley_50 : decode cX3_valley 50 = .ok (.invokevirtual 74, 3) := by decide +kernel
theorem dX3_valley_53 : decode cX3_valley 53 = .ok (.ifCond .eq 13, 3) := by decide +kernel
theorem dX3_valley_56 : decode cX3_valley 56 = .ok (.new 78, 3) := by decide +kernel
theorem dX3_valley_59 : decode cX3_valley 59 = .ok (.dup, 1) := by decide +kernel
theorem dX3_valley_60 : decode cX3_valley 60 = .ok (.ldc 80, 2) := by decide +kernel
theorem dX3_valley_62 : decode cX3_valley 62 = .ok (.invokespecial 82, 3) := by decide +kernel
theorem dX3_valley_65 : decode cX3_valley 65 = .ok (.athrow, 1) := by decide +kernel
theorem dX3_valley_66 : decode cX3_valley 66 = .ok (.aload_n 0, 1) := by decide +kernel
theorem dX3_valley_67 : decode cX3_valley 67 = .ok (.getfield 22, 3) := by decide +kernel
theorem dX3_valley_70 : decode cX3_valley 70 = .ok (.aload_n 0, 1) := by decide +kernel
theorem dX3_valley_71 : decode cX3_valley 71 = .ok (.getfield 10, 3) := by decide +kernel
theorem dX3_valley_74 : decode cX3_valley 74 = .ok (.invokevirtual 56, 3) := by decide +kernel
theorem dX3_valley_77 : decode cX3_valley 77 = .ok (.aload_n 0, 1) := by decide +kernel
theorem dX3_valley_78 : decode cX3_valley 78 = .ok (.getfield 10, 3) := by decide +kernel
theorem dX3_valley_81 : decode cX3_valley 81 = .ok (.iload_n 1, 1) := by decide +kernel
theorem dX3_valley_82 : decode cX3_valley 82 = .ok (.iload_n 2, 1) := by decide +kernel
theorem dX3_valley_83 : decode cX3_valley 83 = .ok (.invokevirtual 83, 3) := by decide +kernel
theorem dX3_valley_86 : decode cX3_valley 86 = .ok (.ireturn, 1) := by decide +kernel
set_option maxRecDepth 20000 in
theorem ggX3_clean_X3_isGutter : GoodIn wsX3_clean wsX3_isGutter := goodIn_r _ [8] rfl (by decide +kernel)
set_option maxRecDepth 20000 in
theorem gX3_clean_X3_isGutter : GoodIn wsX3_clean (va_wsS RX3 37 yX3_isGutter wsX3_isGutter) := goodIn_app (goodIn_of _ (by decide +kernel)) ggX3_clean_X3_isGutter
set_option maxRecDepth 20000 in
theorem ggX3_clean_X2_keep : GoodIn wsX3_clean wsX2_keep := goodIn_r _ [13, 14, 15, 16, 17, 18, 19, 20, 21, 22, 23, 24, 25, 26, 27, 28, 29, 30, 31, 32, 33, 34, 35, 36, 37, 38, 39, 40, 41, 42, 43, 44, 45, 46, 47, 48, 49, 50, 59, 60, 61, 62, 63, 64, 65, 66, 67, 68, 69, 70, 71, 72, 73, 74, 75, 76, 77] rfl (by decide +kernel)
set_option maxRecDepth 20000 in
theorem gX3_clean_X2_keep : GoodIn wsX3_clean (wsV RX3 56 RX2 yX2_keep wsX2_keep) := goodIn_app (goodIn_of _ (by decide +kernel)) ggX3_clean_X2_keep
set_option maxRecDepth 20000 in
theorem ggX3_clean_X1_takeLeaves : GoodIn wsX3_clean wsX1_takeLeaves := goodIn_r _ [54, 33, 62, 63, 64, 65, 66, 67, 68, 69, 70, 71, 72, 73, 74, 75, 76, 77] rfl (by decide +kernel)
set_option maxRecDepth 20000 in
theorem gX3_clean_X1_takeLeaves : GoodIn wsX3_clean (wsV RX3 87 RX1 yX1_takeLeaves wsX1_takeLeaves) := goodIn_app (goodIn_of _ (by decide +kernel)) ggX3_clean_X1_takeLeaves
theorem dX3_clean_0 : decode cX3_clean 0 = .ok (.iload_n 1, 1) := by decide +kernel
theorem dX3_clean_1 : decode cX3_clean 1 = .ok (.invokestatic 37, 3) := by decide +kernel
theorem dX3_clean_4 : decode cX3_clean 4 = .ok (.ifCond .ne 13, 3) := by decide +kernel
theorem dX3_clean_7 : decode cX3_clean 7 = .ok (.new 40, 3) := by decide +kernel
theorem dX3_clean_10 : decode cX3_clean 10 = .ok (.dup, 1) := by decide +kernel
theorem dX3_clean_11 : decode cX3_clean 11 = .ok (.ldc 64, 2) := by decide +kernel
theorem dX3_clean_13 : decode cX3_clean 13 = .ok (.invokespecial 44, 3) := by decide +kernel
theorem dX3_clean_16 : decode cX3_clean 16 = .ok (.athrow, 1) := by decide +kernel
theorem dX3_clean_17 : decode cX3_clean 17 = .ok (.aload_n 0, 1) := by decide +kernel
theorem dX3_clean_18 : decode cX3_clean 18 = .ok (.getfield 22, 3) := by decide +kernel
theorem dX3_clean_21 : decode cX3_clean 21 = .ok (.aload_n 0, 1) := by decide +kernel
theorem dX3_clean_22 : decode cX3_clean 22 = .ok (.getfield 10, 3) := by decide +kernel
theorem dX3_clean_25 : decode cX3_clean 25 = .ok (.invokevirtual 56, 3) := by decide +kernel
theorem dX3_clean_28 : decode cX3_clean 28 = .ok (.aload_n 0, 1) := by decide +kernel
theorem dX3_clean_29 : decode cX3_clean 29 = .ok (.getfield 10, 3) := by decide +kernel
theorem dX3_clean_32 : decode cX3_clean 32 = .ok (.iload_n 1, 1) := by decide +kernel
theorem dX3_clean_33 : decode cX3_clean 33 = .ok (.invokevirtual 87, 3) := by decide +kernel
theorem dX3_clean_36 : decode cX3_clean 36 = .ok (.ireturn, 1) := by decide +kernel
set_option maxRecDepth 20000 in
theorem ggX3_set_X3_isSetting : GoodIn wsX3_set wsX3_isSetting := goodIn_r _ [11] rfl (by decide +kernel)
set_option maxRecDepth 20000 in
theorem gX3_set_X3_isSetting : GoodIn wsX3_set (va_wsS RX3 91 yX3_isSetting wsX3_isSetting) := goodIn_app (goodIn_of _ (by decide +kernel)) ggX3_set_X3_isSetting
set_option maxRecDepth 20000 in
theorem ggX3_set_X3_isWithin : GoodIn wsX3_set wsX3_isWithin := goodIn_r _ [14] rfl (by decide +kernel)
set_option maxRecDepth 20000 in
theorem gX3_set_X3_isWithin : GoodIn wsX3_set (va_wsS RX3 47 yX3_isWithin wsX3_isWithin) := goodIn_app (goodIn_of _ (by decide +kernel)) ggX3_set_X3_isWithin
set_option maxRecDepth 20000 in
theorem ggX3_set_X2_keep : GoodIn wsX3_set wsX2_keep := goodIn_r _ [19, 20, 21, 22, 23, 24, 25, 26, 27, 28, 29, 30, 31, 32, 33, 34, 35, 36, 37, 38, 39, 40, 41, 42, 43, 44, 45, 46, 47, 48, 49, 50, 51, 52, 53, 54, 55, 56, 65, 66, 67, 68, 69, 70, 71, 72, 73, 74, 75, 76, 77, 78, 79, 80, 81, 82, 83] rfl (by decide +kernel)
set_option maxRecDepth 20000 in
theorem gX3_set_X2_keep : GoodIn wsX3_set (wsV RX3 56 RX2 yX2_keep wsX2_keep) := goodIn_app (goodIn_of _ (by decide +kernel)) ggX3_set_X2_keep
set_option maxRecDepth 20000 in
theorem ggX3_set_X1_changeSetting : GoodIn wsX3_set wsX1_changeSetting := goodIn_r _ [60, 44, 68, 69, 70, 71, 72, 73, 74, 75, 76, 77, 78, 79, 80, 81, 82, 83] rfl (by decide +kernel)
set_option maxRecDepth 20000 in
theorem gX3_set_X1_changeSetting : GoodIn wsX3_set (wsV RX3 102 RX1 yX1_changeSetting wsX1_changeSetting) := goodIn_app (goodIn_of _ (by decide +kernel)) ggX3_set_X1_changeSetting
theorem dX3_set_0 : decode cX3_set 0 = .ok (.iload_n 1, 1) := by decide +kernel
theorem dX3_set_1 : decode cX3_set 1 = .ok (.invokestatic 91, 3) := by decide +kernel
theorem dX3_set_4 : decode cX3_set 4 = .ok (.ifCond .ne 13, 3) := by decide +kernel
theorem dX3_set_7 : decode cX3_set 7 = .ok (.new 40, 3) := by decide +kernel
theorem dX3_set_10 : decode cX3_set 10 = .ok (.dup, 1) := by decide +kernel
theorem dX3_set_11 : decode cX3_set 11 = .ok (.ldc 94, 2) := by decide +kernel
theorem dX3_set_13 : decode cX3_set 13 = .ok (.invokespecial 44, 3) := by decide +kernel
theorem dX3_set_16 : decode cX3_set 16 = .ok (.athrow, 1) := by decide +kernel
theorem dX3_set_17 : decode cX3_set 17 = .ok (.iload_n 2, 1) := by decide +kernel
theorem dX3_set_18 : decode cX3_set 18 = .ok (.iconst 0, 1) := by decide +kernel
theorem dX3_set_19 : decode cX3_set 19 = .ok (.getstatic 96, 3) := by decide +kernel
theorem dX3_set_22 : decode cX3_set 22 = .ok (.iload_n 1, 1) := by decide +kernel
theorem dX3_set_23 : decode cX3_set 23 = .ok (.iaload, 1) := by decide +kernel
theorem dX3_set_24 : decode cX3_set 24 = .ok (.invokestatic 47, 3) := by decide +kernel
theorem dX3_set_27 : decode cX3_set 27 = .ok (.ifCond .ne 13, 3) := by decide +kernel
theorem dX3_set_30 : decode cX3_set 30 = .ok (.new 51, 3) := by decide +kernel
theorem dX3_set_33 : decode cX3_set 33 = .ok (.dup, 1) := by decide +kernel
theorem dX3_set_34 : decode cX3_set 34 = .ok (.ldc 100, 2) := by decide +kernel
theorem dX3_set_36 : decode cX3_set 36 = .ok (.invokespecial 55, 3) := by decide +kernel
theorem dX3_set_39 : decode cX3_set 39 = .ok (.athrow, 1) := by decide +kernel
theorem dX3_set_40 : decode cX3_set 40 = .ok (.aload_n 0, 1) := by decide +kernel
theorem dX3_set_41 : decode cX3_set 41 = .ok (.getfield 22, 3) := by decide +kernel
theorem dX3_set_44 : decode cX3_set 44 = .ok (.aload_n 0, 1) := by decide +kernel
theorem dX3_set_45 : decode cX3_set 45 = .ok (.getfield 10, 3) := by decide +kernel
theorem dX3_set_48 : decode cX3_set 48 = .ok (.invokevirtual 56, 3) := by decide +kernel
theorem dX3_set_51 : decode cX3_set 51 = .ok (.aload_n 0, 1) := by decide +kernel
theorem dX3_set_52 : decode cX3_set 52 = .ok (.getfield 10, 3) := by decide +kernel
theorem dX3_set_55 : decode cX3_set 55 = .ok (.iload_n 1, 1) := by decide +kernel
theorem dX3_set_56 : decode cX3_set 56 = .ok (.iload_n 2, 1) := by decide +kernel
theorem dX3_set_57 : decode cX3_set 57 = .ok (.invokevirtual 102, 3) := by decide +kernel
theorem dX3_set_60 : decode cX3_set 60 = .ok (.ireturn, 1) := by decide +kernel
set_option maxRecDepth 20000 in
theorem ggX3_rain_X3_isWithin : GoodIn wsX3_rain wsX3_isWithin := goodIn_r _ [8] rfl (by decide +kernel)
set_option maxRecDepth 20000 in
theorem gX3_rain_X3_isWithin : GoodIn wsX3_rain (va_wsS RX3 47 yX3_isWithin wsX3_isWithin) := goodIn_app (goodIn_of _ (by decide +kernel)) ggX3_rain_X3_isWithin
set_option maxRecDepth 20000 in
theorem ggX3_rain_X2_keep : GoodIn wsX3_rain wsX2_keep := goodIn_r _ [13, 14, 15, 16, 17, 18, 19, 20, 21, 22, 23, 24, 25, 26, 27, 28, 29, 30, 31, 32, 33, 34, 35, 36, 37, 38, 39, 40, 41, 42, 43, 44, 45, 46, 47, 48, 49, 50, 96, 97, 98, 99, 100, 101, 102, 103, 104, 105, 106, 107, 108, 109, 110, 111, 112, 113, 114] rfl (by decide +kernel)
set_option maxRecDepth 20000 in
theorem gX3_rain_X2_keep : GoodIn wsX3_rain (wsV RX3 56 RX2 yX2_keep wsX2_keep) := goodIn_app (goodIn_of _ (by decide +kernel)) ggX3_rain_X2_keep
set_option maxRecDepth 20000 in
theorem ggX3_rain_X1_spiltLitres : GoodIn wsX3_rain wsX1_spiltLitres := goodIn_r _ [54, 36, 55, 56, 19, 57, 99, 100, 101, 102, 103, 104, 105, 106, 107, 108, 109, 110, 111, 112, 113, 114] rfl (by decide +kernel)
set_option maxRecDepth 20000 in
theorem gX3_rain_X1_spiltLitres : GoodIn wsX3_rain (wsV RX3 107 RX1 yX1_spiltLitres wsX1_spiltLitres) := goodIn_app (goodIn_of _ (by decide +kernel)) ggX3_rain_X1_spiltLitres
set_option maxRecDepth 20000 in
theorem ggX3_rain_X1_passMinutes : GoodIn wsX3_rain wsX1_passMinutes := goodIn_r _ [61, 62, 63, 64, 19, 65, 47, 66, 67, 68, 69, 27, 49, 30, 28, 29, 35, 70, 7, 71, 72, 73, 74, 75, 38, 76, 77, 78, 79, 37, 50, 80, 81, 82, 83, 32, 33, 84, 85, 86, 87, 34, 36, 88, 89, 90, 91, 31, 99, 100, 101, 102, 103, 104, 105, 106, 107, 108, 109, 110, 111, 112, 113, 114] rfl (by decide +kernel)
set_option maxRecDepth 20000 in
theorem gX3_rain_X1_passMinutes : GoodIn wsX3_rain (wsV RX3 111 RX1 yX1_passMinutes wsX1_passMinutes) := goodIn_app (goodIn_of _ (by decide +kernel)) ggX3_rain_X1_passMinutes
theorem dX3_rain_0 : decode cX3_rain 0 = .ok (.iload_n 1, 1) := by decide +kernel
theorem dX3_rain_1 : decode cX3_rain 1 = .ok (.iconst 0, 1) := by decide +kernel
theorem dX3_rain_2 : decode cX3_rain 2 = .ok (.bipush 99, 2) := by decide +kernel
theorem dX3_rain_4 : decode cX3_rain 4 = .ok (.invokestatic 47, 3) := by decide +kernel
theorem dX3_rain_7 : decode cX3_rain 7 = .ok (.ifCond .eq 13, 3) := by decide +kernel
theorem dX3_rain_10 : decode cX3_rain 10 = .ok (.iload_n 2, 1) := by decide +kernel
theorem dX3_rain_11 : decode cX3_rain 11 = .ok (.iconst 1, 1) := by decide +kernel
theorem dX3_rain_12 : decode cX3_rain 12 = .ok (.bipush 60, 2) := by decide +kernel
theorem dX3_rain_14 : decode cX3_rain 14 = .ok (.invokestatic 47, 3) := by decide +kernel
theorem dX3_rain_17 : decode cX3_rain 17 = .ok (.ifCond .ne 13, 3) := by decide +kernel
theorem dX3_rain_20 : decode cX3_rain 20 = .ok (.new 51, 3) := by decide +kernel
theorem dX3_rain_23 : decode cX3_rain 23 = .ok (.dup, 1) := by decide +kernel
theorem dX3_rain_24 : decode cX3_rain 24 = .ok (.ldc 105, 2) := by decide +kernel
theorem dX3_rain_26 : decode cX3_rain 26 = .ok (.invokespecial 55, 3) := by decide +kernel
theorem dX3_rain_29 : decode cX3_rain 29 = .ok (.athrow, 1) := by decide +kernel
theorem dX3_rain_30 : decode cX3_rain 30 = .ok (.aload_n 0, 1) := by decide +kernel
theorem dX3_rain_31 : decode cX3_rain 31 = .ok (.getfield 22, 3) := by decide +kernel
theorem dX3_rain_34 : decode cX3_rain 34 = .ok (.aload_n 0, 1) := by decide +kernel
theorem dX3_rain_35 : decode cX3_rain 35 = .ok (.getfield 10, 3) := by decide +kernel
theorem dX3_rain_38 : decode cX3_rain 38 = .ok (.invokevirtual 56, 3) := by decide +kernel
theorem dX3_rain_41 : decode cX3_rain 41 = .ok (.aload_n 0, 1) := by decide +kernel
theorem dX3_rain_42 : decode cX3_rain 42 = .ok (.getfield 10, 3) := by decide +kernel
theorem dX3_rain_45 : decode cX3_rain 45 = .ok (.invokevirtual 107, 3) := by decide +kernel
theorem dX3_rain_48 : decode cX3_rain 48 = .ok (.istore_n 3, 1) := by decide +kernel
theorem dX3_rain_49 : decode cX3_rain 49 = .ok (.aload_n 0, 1) := by decide +kernel
theorem dX3_rain_50 : decode cX3_rain 50 = .ok (.getfield 10, 3) := by decide +kernel
theorem dX3_rain_53 : decode cX3_rain 53 = .ok (.iload_n 1, 1) := by decide +kernel
theorem dX3_rain_54 : decode cX3_rain 54 = .ok (.iload_n 2, 1) := by decide +kernel
theorem dX3_rain_55 : decode cX3_rain 55 = .ok (.invokevirtual 111, 3) := by decide +kernel
theorem dX3_rain_58 : decode cX3_rain 58 = .ok (.aload_n 0, 1) := by decide +kernel
theorem dX3_rain_59 : decode cX3_rain 59 = .ok (.getfield 10, 3) := by decide +kernel
theorem dX3_rain_62 : decode cX3_rain 62 = .ok (.invokevirtual 107, 3) := by decide +kernel
theorem dX3_rain_65 : decode cX3_rain 65 = .ok (.iload_n 3, 1) := by decide +kernel
theorem dX3_rain_66 : decode cX3_rain 66 = .ok (.isub, 1) := by decide +kernel
theorem dX3_rain_67 : decode cX3_rain 67 = .ok (.ireturn, 1) := by decide +kernel
set_option maxRecDepth 20000 in
theorem ggX3_weeks_X3_isWithin : GoodIn wsX3_weeks wsX3_isWithin := goodIn_r _ [8] rfl (by decide +kernel)
set_option maxRecDepth 20000 in
theorem gX3_weeks_X3_isWithin : GoodIn wsX3_weeks (va_wsS RX3 47 yX3_isWithin wsX3_isWithin) := goodIn_app (goodIn_of _ (by decide +kernel)) ggX3_weeks_X3_isWithin
set_option maxRecDepth 20000 in
theorem ggX3_weeks_X2_keep : GoodIn wsX3_weeks wsX2_keep := goodIn_r _ [13, 14, 15, 16, 17, 18, 19, 20, 21, 22, 23, 24, 25, 26, 27, 28, 29, 30, 31, 32, 33, 34, 35, 36, 37, 38, 39, 40, 41, 42, 43, 44, 45, 46, 47, 48, 49, 50, 70, 71, 72, 73, 74, 75, 76, 77, 78, 79, 80, 81, 82, 83, 84, 85, 86, 87, 88] rfl (by decide +kernel)
set_option maxRecDepth 20000 in
theorem gX3_weeks_X2_keep : GoodIn wsX3_weeks (wsV RX3 56 RX2 yX2_keep wsX2_keep) := goodIn_app (goodIn_of _ (by decide +kernel)) ggX3_weeks_X2_keep
set_option maxRecDepth 20000 in
theorem ggX3_weeks_X1_passWeek : GoodIn wsX3_weeks wsX1_passWeek := goodIn_r _ [54, 33, 38, 55, 56, 57, 58, 48, 73, 74, 75, 76, 77, 78, 79, 80, 81, 82, 83, 84, 85, 86, 87, 88] rfl (by decide +kernel)
set_option maxRecDepth 20000 in
theorem gX3_weeks_X1_passWeek : GoodIn wsX3_weeks (wsV RX3 117 RX1 yX1_passWeek wsX1_passWeek) := goodIn_app (goodIn_of _ (by decide +kernel)) ggX3_weeks_X1_passWeek
set_option maxRecDepth 20000 in
theorem ggX3_weeks_X1_leavesTogether : GoodIn wsX3_weeks wsX1_leavesTogether := goodIn_r _ [62, 33, 63, 64, 19, 65, 73, 74, 75, 76, 77, 78, 79, 80, 81, 82, 83, 84, 85, 86, 87, 88] rfl (by decide +kernel)
set_option maxRecDepth 20000 in
theorem gX3_weeks_X1_leavesTogether : GoodIn wsX3_weeks (wsV RX3 120 RX1 yX1_leavesTogether wsX1_leavesTogether) := goodIn_app (goodIn_of _ (by decide +kernel)) ggX3_weeks_X1_leavesTogether
theorem dX3_weeks_0 : decode cX3_weeks 0 = .ok (.iload_n 1, 1) := by decide +kernel
theorem dX3_weeks_1 : decode cX3_weeks 1 = .ok (.iconst 1, 1) := by decide +kernel
theorem dX3_weeks_2 : decode cX3_weeks 2 = .ok (.bipush 52, 2) := by decide +kernel
theorem dX3_weeks_4 : decode cX3_weeks 4 = .ok (.invokestatic 47, 3) := by decide +kernel
theorem dX3_weeks_7 : decode cX3_weeks 7 = .ok (.ifCond .ne 13, 3) := by decide +kernel
theorem dX3_weeks_10 : decode cX3_weeks 10 = .ok (.new 51, 3) := by decide +kernel
theorem dX3_weeks_13 : decode cX3_weeks 13 = .ok (.dup, 1) := by decide +kernel
theorem dX3_weeks_14 : decode cX3_weeks 14 = .ok (.ldc 115, 2) := by decide +kernel
theorem dX3_weeks_16 : decode cX3_weeks 16 = .ok (.invokespecial 55, 3) := by decide +kernel
theorem dX3_weeks_19 : decode cX3_weeks 19 = .ok (.athrow, 1) := by decide +kernel
theorem dX3_weeks_20 : decode cX3_weeks 20 = .ok (.aload_n 0, 1) := by decide +kernel
theorem dX3_weeks_21 : decode cX3_weeks 21 = .ok (.getfield 22, 3) := by decide +kernel
theorem dX3_weeks_24 : decode cX3_weeks 24 = .ok (.aload_n 0, 1) := by decide +kernel
theorem dX3_weeks_25 : decode cX3_weeks 25 = .ok (.getfield 10, 3) := by decide +kernel
theorem dX3_weeks_28 : decode cX3_weeks 28 = .ok (.invokevirtual 56, 3) := by decide +kernel
theorem dX3_weeks_31 : decode cX3_weeks 31 = .ok (.iconst 0, 1) := by decide +kernel
theorem dX3_weeks_32 : decode cX3_weeks 32 = .ok (.istore_n 2, 1) := by decide +kernel
theorem dX3_weeks_33 : decode cX3_weeks 33 = .ok (.iload_n 2, 1) := by decide +kernel
theorem dX3_weeks_34 : decode cX3_weeks 34 = .ok (.iload_n 1, 1) := by decide +kernel
theorem dX3_weeks_35 : decode cX3_weeks 35 = .ok (.if_icmp .ge 16, 3) := by decide +kernel
theorem dX3_weeks_38 : decode cX3_weeks 38 = .ok (.aload_n 0, 1) := by decide +kernel
theorem dX3_weeks_39 : decode cX3_weeks 39 = .ok (.getfield 10, 3) := by decide +kernel
theorem dX3_weeks_42 : decode cX3_weeks 42 = .ok (.invokevirtual 117, 3) := by decide +kernel
theorem dX3_weeks_45 : decode cX3_weeks 45 = .ok (.iinc 2 1, 3) := by decide +kernel
theorem dX3_weeks_48 : decode cX3_weeks 48 = .ok (.goto (-15), 3) := by decide +kernel
theorem dX3_weeks_51 : decode cX3_weeks 51 = .ok (.aload_n 0, 1) := by decide +kernel
theorem dX3_weeks_52 : decode cX3_weeks 52 = .ok (.getfield 10, 3) := by decide +kernel
theorem dX3_weeks_55 : decode cX3_weeks 55 = .ok (.invokevirtual 120, 3) := by decide +kernel
theorem dX3_weeks_58 : decode cX3_weeks 58 = .ok (.ireturn, 1) := by decide +kernel
set_option maxRecDepth 20000 in
theorem ggX3_undo_X2_dropLatest : GoodIn wsX3_undo wsX2_dropLatest := goodIn_r _ [9, 10, 11, 12, 46, 47, 48] rfl (by decide +kernel)
set_option maxRecDepth 20000 in
theorem gX3_undo_X2_dropLatest : GoodIn wsX3_undo (wsV RX3 152 RX2 yX2_dropLatest wsX2_dropLatest) := goodIn_app (goodIn_of _ (by decide +kernel)) ggX3_undo_X2_dropLatest
set_option maxRecDepth 20000 in
theorem ggX3_undo_X1_copyFrom : GoodIn wsX3_undo wsX1_copyFrom := goodIn_r _ [17, 18, 19, 20, 21, 22, 23, 24, 25, 26, 27, 28, 29, 30, 31, 32, 33, 34, 35, 36, 37, 49, 50, 51, 52, 53, 54, 55, 56, 57, 58, 59, 60, 61, 62, 63, 64] rfl (by decide +kernel)
set_option maxRecDepth 20000 in
theorem gX3_undo_X1_copyFrom : GoodIn wsX3_undo (wsV RX3 158 RX1 yX1_copyFrom wsX1_copyFrom) := goodIn_app (goodIn_of _ (by decide +kernel)) ggX3_undo_X1_copyFrom
set_option maxRecDepth 20000 in
theorem ggX3_undo_X2_held : GoodIn wsX3_undo wsX2_held := goodIn_r _ [41, 10, 46, 47, 48] rfl (by decide +kernel)
set_option maxRecDepth 20000 in
theorem gX3_undo_X2_held : GoodIn wsX3_undo (wsV RX3 161 RX2 yX2_held wsX2_held) := goodIn_app (goodIn_of _ (by decide +kernel)) ggX3_undo_X2_held
theorem dX3_undo_0 : decode cX3_undo 0 = .ok (.aload_n 0, 1) := by decide +kernel
theorem dX3_undo_1 : decode cX3_undo 1 = .ok (.getfield 22, 3) := by decide +kernel
theorem dX3_undo_4 : decode cX3_undo 4 = .ok (.invokevirtual 152, 3) := by decide +kernel
theorem dX3_undo_7 : decode cX3_undo 7 = .ok (.astore_n 1, 1) := by decide +kernel
theorem dX3_undo_8 : decode cX3_undo 8 = .ok (.aload_n 1, 1) := by decide +kernel
theorem dX3_undo_9 : decode cX3_undo 9 = .ok (.ifnonnull 13, 3) := by decide +kernel
theorem dX3_undo_12 : decode cX3_undo 12 = .ok (.new 78, 3) := by decide +kernel
theorem dX3_undo_15 : decode cX3_undo 15 = .ok (.dup, 1) := by decide +kernel
theorem dX3_undo_16 : decode cX3_undo 16 = .ok (.ldc 156, 2) := by decide +kernel
theorem dX3_undo_18 : decode cX3_undo 18 = .ok (.invokespecial 82, 3) := by decide +kernel
theorem dX3_undo_21 : decode cX3_undo 21 = .ok (.athrow, 1) := by decide +kernel
theorem dX3_undo_22 : decode cX3_undo 22 = .ok (.aload_n 0, 1) := by decide +kernel
theorem dX3_undo_23 : decode cX3_undo 23 = .ok (.getfield 10, 3) := by decide +kernel
theorem dX3_undo_26 : decode cX3_undo 26 = .ok (.aload_n 1, 1) := by decide +kernel
theorem dX3_undo_27 : decode cX3_undo 27 = .ok (.invokevirtual 158, 3) := by decide +kernel
theorem dX3_undo_30 : decode cX3_undo 30 = .ok (.aload_n 0, 1) := by decide +kernel
theorem dX3_undo_31 : decode cX3_undo 31 = .ok (.getfield 22, 3) := by decide +kernel
theorem dX3_undo_34 : decode cX3_undo 34 = .ok (.invokevirtual 161, 3) := by decide +kernel
theorem dX3_undo_37 : decode cX3_undo 37 = .ok (.ireturn, 1) := by decide +kernel
set_option maxRecDepth 20000 in
theorem ggX3_planeOf_X3_isPlane : GoodIn wsX3_planeOf wsX3_isPlane := goodIn_r _ [9] rfl (by decide +kernel)
set_option maxRecDepth 20000 in
theorem gX3_planeOf_X3_isPlane : GoodIn wsX3_planeOf (va_wsS RX3 33 yX3_isPlane wsX3_isPlane) := goodIn_app (goodIn_of _ (by decide +kernel)) ggX3_planeOf_X3_isPlane
set_option maxRecDepth 20000 in
theorem ggX3_planeOf_X3_isWithin : GoodIn wsX3_planeOf wsX3_isWithin := goodIn_r _ [12] rfl (by decide +kernel)
set_option maxRecDepth 20000 in
theorem gX3_planeOf_X3_isWithin : GoodIn wsX3_planeOf (va_wsS RX3 47 yX3_isWithin wsX3_isWithin) := goodIn_app (goodIn_of _ (by decide +kernel)) ggX3_planeOf_X3_isWithin
set_option maxRecDepth 20000 in
theorem ggX3_planeOf_X1_planeNumber : GoodIn wsX3_planeOf wsX1_planeNumber := goodIn_r _ [17, 18, 19, 20, 21, 26, 27, 28, 29, 30, 31, 32, 33, 34, 35, 36, 37, 38, 39, 40, 41] rfl (by decide +kernel)
set_option maxRecDepth 20000 in
theorem gX3_planeOf_X1_planeNumber : GoodIn wsX3_planeOf (wsV RX3 168 RX1 yX1_planeNumber wsX1_planeNumber) := goodIn_app (goodIn_of _ (by decide +kernel)) ggX3_planeOf_X1_planeNumber
theorem dX3_planeOf_0 : decode cX3_planeOf 0 = .ok (.iload_n 1, 1) := by decide +kernel
theorem dX3_planeOf_1 : decode cX3_planeOf 1 = .ok (.invokestatic 33, 3) := by decide +kernel
theorem dX3_planeOf_4 : decode cX3_planeOf 4 = .ok (.ifCond .ne 13, 3) := by decide +kernel
theorem dX3_planeOf_7 : decode cX3_planeOf 7 = .ok (.new 40, 3) := by decide +kernel
theorem dX3_planeOf_10 : decode cX3_planeOf 10 = .ok (.dup, 1) := by decide +kernel
theorem dX3_planeOf_11 : decode cX3_planeOf 11 = .ok (.ldc 164, 2) := by decide +kernel
theorem dX3_planeOf_13 : decode cX3_planeOf 13 = .ok (.invokespecial 44, 3) := by decide +kernel
theorem dX3_planeOf_16 : decode cX3_planeOf 16 = .ok (.athrow, 1) := by decide +kernel
theorem dX3_planeOf_17 : decode cX3_planeOf 17 = .ok (.iload_n 2, 1) := by decide +kernel
theorem dX3_planeOf_18 : decode cX3_planeOf 18 = .ok (.iconst 0, 1) := by decide +kernel
theorem dX3_planeOf_19 : decode cX3_planeOf 19 = .ok (.iconst 3, 1) := by decide +kernel
theorem dX3_planeOf_20 : decode cX3_planeOf 20 = .ok (.invokestatic 47, 3) := by decide +kernel
theorem dX3_planeOf_23 : decode cX3_planeOf 23 = .ok (.ifCond .ne 13, 3) := by decide +kernel
theorem dX3_planeOf_26 : decode cX3_planeOf 26 = .ok (.new 51, 3) := by decide +kernel
theorem dX3_planeOf_29 : decode cX3_planeOf 29 = .ok (.dup, 1) := by decide +kernel
theorem dX3_planeOf_30 : decode cX3_planeOf 30 = .ok (.ldc 166, 2) := by decide +kernel
theorem dX3_planeOf_32 : decode cX3_planeOf 32 = .ok (.invokespecial 55, 3) := by decide +kernel
theorem dX3_planeOf_35 : decode cX3_planeOf 35 = .ok (.athrow, 1) := by decide +kernel
theorem dX3_planeOf_36 : decode cX3_planeOf 36 = .ok (.aload_n 0, 1) := by decide +kernel
theorem dX3_planeOf_37 : decode cX3_planeOf 37 = .ok (.getfield 10, 3) := by decide +kernel
theorem dX3_planeOf_40 : decode cX3_planeOf 40 = .ok (.iload_n 1, 1) := by decide +kernel
theorem dX3_planeOf_41 : decode cX3_planeOf 41 = .ok (.iload_n 2, 1) := by decide +kernel
theorem dX3_planeOf_42 : decode cX3_planeOf 42 = .ok (.invokevirtual 168, 3) := by decide +kernel
theorem dX3_planeOf_45 : decode cX3_planeOf 45 = .ok (.ireturn, 1) := by decide +kernel
set_option maxRecDepth 20000 in
theorem ggX3_gutterOf_X3_isGutter : GoodIn wsX3_gutterOf wsX3_isGutter := goodIn_r _ [9] rfl (by decide +kernel)
set_option maxRecDepth 20000 in
theorem gX3_gutterOf_X3_isGutter : GoodIn wsX3_gutterOf (va_wsS RX3 37 yX3_isGutter wsX3_isGutter) := goodIn_app (goodIn_of _ (by decide +kernel)) ggX3_gutterOf_X3_isGutter
set_option maxRecDepth 20000 in
theorem ggX3_gutterOf_X3_isWithin : GoodIn wsX3_gutterOf wsX3_isWithin := goodIn_r _ [12] rfl (by decide +kernel)
set_option maxRecDepth 20000 in
theorem gX3_gutterOf_X3_isWithin : GoodIn wsX3_gutterOf (va_wsS RX3 47 yX3_isWithin wsX3_isWithin) := goodIn_app (goodIn_of _ (by decide +kernel)) ggX3_gutterOf_X3_isWithin
set_option maxRecDepth 20000 in
theorem ggX3_gutterOf_X1_gutterNumber : GoodIn wsX3_gutterOf wsX1_gutterNumber := goodIn_r _ [17, 18, 19, 20, 21, 22, 23, 24, 25, 26, 27, 16, 28, 29, 30, 31, 32, 37, 38, 39, 40, 41, 42, 43, 44, 45, 46, 47, 48, 49, 50, 51, 52] rfl (by decide +kernel)
set_option maxRecDepth 20000 in
theorem gX3_gutterOf_X1_gutterNumber : GoodIn wsX3_gutterOf (wsV RX3 173 RX1 yX1_gutterNumber wsX1_gutterNumber) := goodIn_app (goodIn_of _ (by decide +kernel)) ggX3_gutterOf_X1_gutterNumber
theorem dX3_gutterOf_0 : decode cX3_gutterOf 0 = .ok (.iload_n 1, 1) := by decide +kernel
theorem dX3_gutterOf_1 : decode cX3_gutterOf 1 = .ok (.invokestatic 37, 3) := by decide +kernel
theorem dX3_gutterOf_4 : decode cX3_gutterOf 4 = .ok (.ifCond .ne 13, 3) := by decide +kernel
theorem dX3_gutterOf_7 : decode cX3_gutterOf 7 = .ok (.new 40, 3) := by decide +kernel
theorem dX3_gutterOf_10 : decode cX3_gutterOf 10 = .ok (.dup, 1) := by decide +kernel
theorem dX3_gutterOf_11 : decode cX3_gutterOf 11 = .ok (.ldc 64, 2) := by decide +kernel
theorem dX3_gutterOf_13 : decode cX3_gutterOf 13 = .ok (.invokespecial 44, 3) := by decide +kernel
theorem dX3_gutterOf_16 : decode cX3_gutterOf 16 = .ok (.athrow, 1) := by decide +kernel
theorem dX3_gutterOf_17 : decode cX3_gutterOf 17 = .ok (.iload_n 2, 1) := by decide +kernel
theorem dX3_gutterOf_18 : decode cX3_gutterOf 18 = .ok (.iconst 0, 1) := by decide +kernel
theorem dX3_gutterOf_19 : decode cX3_gutterOf 19 = .ok (.bipush 8, 2) := by decide +kernel
theorem dX3_gutterOf_21 : decode cX3_gutterOf 21 = .ok (.invokestatic 47, 3) := by decide +kernel
theorem dX3_gutterOf_24 : decode cX3_gutterOf 24 = .ok (.ifCond .ne 13, 3) := by decide +kernel
theorem dX3_gutterOf_27 : decode cX3_gutterOf 27 = .ok (.new 51, 3) := by decide +kernel
theorem dX3_gutterOf_30 : decode cX3_gutterOf 30 = .ok (.dup, 1) := by decide +kernel
theorem dX3_gutterOf_31 : decode cX3_gutterOf 31 = .ok (.ldc 171, 2) := by decide +kernel
theorem dX3_gutterOf_33 : decode cX3_gutterOf 33 = .ok (.invokespecial 55, 3) := by decide +kernel
theorem dX3_gutterOf_36 : decode cX3_gutterOf 36 = .ok (.athrow, 1) := by decide +kernel
theorem dX3_gutterOf_37 : decode cX3_gutterOf 37 = .ok (.aload_n 0, 1) := by decide +kernel
theorem dX3_gutterOf_38 : decode cX3_gutterOf 38 = .ok (.getfield 10, 3) := by decide +kernel
theorem dX3_gutterOf_41 : decode cX3_gutterOf 41 = .ok (.iload_n 1, 1) := by decide +kernel
theorem dX3_gutterOf_42 : decode cX3_gutterOf 42 = .ok (.iload_n 2, 1) := by decide +kernel
theorem dX3_gutterOf_43 : decode cX3_gutterOf 43 = .ok (.invokevirtual 173, 3) := by decide +kernel
theorem dX3_gutterOf_46 : decode cX3_gutterOf 46 = .ok (.ireturn, 1) := by decide +kernel
set_option maxRecDepth 20000 in
theorem ggX3_count_X1_minutesGone : GoodIn wsX3_count wsX1_minutesGone := goodIn_r _ [9, 10, 60, 61, 62, 63, 64, 65, 66, 67, 68, 69, 70, 71, 72, 73, 74, 75] rfl (by decide +kernel)
set_option maxRecDepth 20000 in
theorem gX3_count_X1_minutesGone : GoodIn wsX3_count (wsV RX3 176 RX1 yX1_minutesGone wsX1_minutesGone) := goodIn_app (goodIn_of _ (by decide +kernel)) ggX3_count_X1_minutesGone
set_option maxRecDepth 20000 in
theorem ggX3_count_X1_weeksPassed : GoodIn wsX3_count wsX1_weeksPassed := goodIn_r _ [14, 15, 60, 61, 62, 63, 64, 65, 66, 67, 68, 69, 70, 71, 72, 73, 74, 75] rfl (by decide +kernel)
set_option maxRecDepth 20000 in
theorem gX3_count_X1_weeksPassed : GoodIn wsX3_count (wsV RX3 179 RX1 yX1_weeksPassed wsX1_weeksPassed) := goodIn_app (goodIn_of _ (by decide +kernel)) ggX3_count_X1_weeksPassed
set_option maxRecDepth 20000 in
theorem ggX3_count_X1_rainedLitres : GoodIn wsX3_count wsX1_rainedLitres := goodIn_r _ [19, 20, 60, 61, 62, 63, 64, 65, 66, 67, 68, 69, 70, 71, 72, 73, 74, 75] rfl (by decide +kernel)
set_option maxRecDepth 20000 in
theorem gX3_count_X1_rainedLitres : GoodIn wsX3_count (wsV RX3 182 RX1 yX1_rainedLitres wsX1_rainedLitres) := goodIn_app (goodIn_of _ (by decide +kernel)) ggX3_count_X1_rainedLitres
set_option maxRecDepth 20000 in
theorem ggX3_count_X1_standingLitres : GoodIn wsX3_count wsX1_standingLitres := goodIn_r _ [24, 25, 26, 27, 28, 8, 29, 60, 61, 62, 63, 64, 65, 66, 67, 68, 69, 70, 71, 72, 73, 74, 75] rfl (by decide +kernel)
set_option maxRecDepth 20000 in
theorem gX3_count_X1_standingLitres : GoodIn wsX3_count (wsV RX3 185 RX1 yX1_standingLitres wsX1_standingLitres) := goodIn_app (goodIn_of _ (by decide +kernel)) ggX3_count_X1_standingLitres
set_option maxRecDepth 20000 in
theorem ggX3_count_X1_drainedLitres : GoodIn wsX3_count wsX1_drainedLitres := goodIn_r _ [33, 34, 27, 28, 8, 29, 60, 61, 62, 63, 64, 65, 66, 67, 68, 69, 70, 71, 72, 73, 74, 75] rfl (by decide +kernel)
set_option maxRecDepth 20000 in
theorem gX3_count_X1_drainedLitres : GoodIn wsX3_count (wsV RX3 188 RX1 yX1_drainedLitres wsX1_drainedLitres) := goodIn_app (goodIn_of _ (by decide +kernel)) ggX3_count_X1_drainedLitres
set_option maxRecDepth 20000 in
theorem ggX3_count_X1_spiltLitres : GoodIn wsX3_count wsX1_spiltLitres := goodIn_r _ [38, 39, 27, 28, 8, 29, 60, 61, 62, 63, 64, 65, 66, 67, 68, 69, 70, 71, 72, 73, 74, 75] rfl (by decide +kernel)
set_option maxRecDepth 20000 in
theorem gX3_count_X1_spiltLitres : GoodIn wsX3_count (wsV RX3 107 RX1 yX1_spiltLitres wsX1_spiltLitres) := goodIn_app (goodIn_of _ (by decide +kernel)) ggX3_count_X1_spiltLitres
set_option maxRecDepth 20000 in
theorem ggX3_count_X1_backedUpMinutes : GoodIn wsX3_count wsX1_backedUpMinutes := goodIn_r _ [43, 44, 60, 61, 62, 63, 64, 65, 66, 67, 68, 69, 70, 71, 72, 73, 74, 75] rfl (by decide +kernel)
set_option maxRecDepth 20000 in
theorem gX3_count_X1_backedUpMinutes : GoodIn wsX3_count (wsV RX3 191 RX1 yX1_backedUpMinutes wsX1_backedUpMinutes) := goodIn_app (goodIn_of _ (by decide +kernel)) ggX3_count_X1_backedUpMinutes
set_option maxRecDepth 20000 in
theorem ggX3_count_X1_leavesTogether : GoodIn wsX3_count wsX1_leavesTogether := goodIn_r _ [48, 49, 27, 28, 8, 29, 60, 61, 62, 63, 64, 65, 66, 67, 68, 69, 70, 71, 72, 73, 74, 75] rfl (by decide +kernel)
set_option maxRecDepth 20000 in
theorem gX3_count_X1_leavesTogether : GoodIn wsX3_count (wsV RX3 120 RX1 yX1_leavesTogether wsX1_leavesTogether) := goodIn_app (goodIn_of _ (by decide +kernel)) ggX3_count_X1_leavesTogether
set_option maxRecDepth 20000 in
theorem ggX3_count_X2_held : GoodIn wsX3_count wsX2_held := goodIn_r _ [54, 55, 76, 77, 78] rfl (by decide +kernel)
set_option maxRecDepth 20000 in
theorem gX3_count_X2_held : GoodIn wsX3_count (wsV RX3 161 RX2 yX2_held wsX2_held) := goodIn_app (goodIn_of _ (by decide +kernel)) ggX3_count_X2_held
theorem dX3_count_0 : decode cX3_count 0 = .ok (.iload_n 1, 1) := by decide +kernel
theorem dX3_count_1 : decode cX3_count 1 = .ok (.tableswitch 123 0 8 #[51, 59, 67, 75, 83, 91, 99, 107, 115], 51) := by decide +kernel
theorem dX3_count_52 : decode cX3_count 52 = .ok (.aload_n 0, 1) := by decide +kernel
theorem dX3_count_53 : decode cX3_count 53 = .ok (.getfield 10, 3) := by decide +kernel
theorem dX3_count_56 : decode cX3_count 56 = .ok (.invokevirtual 176, 3) := by decide +kernel
theorem dX3_count_59 : decode cX3_count 59 = .ok (.ireturn, 1) := by decide +kernel
theorem dX3_count_60 : decode cX3_count 60 = .ok (.aload_n 0, 1) := by decide +kernel
theorem dX3_count_61 : decode cX3_count 61 = .ok (.getfield 10, 3) := by decide +kernel
theorem dX3_count_64 : decode cX3_count 64 = .ok (.invokevirtual 179, 3) := by decide +kernel
theorem dX3_count_67 : decode cX3_count 67 = .ok (.ireturn, 1) := by decide +kernel
theorem dX3_count_68 : decode cX3_count 68 = .ok (.aload_n 0, 1) := by decide +kernel
theorem dX3_count_69 : decode cX3_count 69 = .ok (.getfield 10, 3) := by decide +kernel
theorem dX3_count_72 : decode cX3_count 72 = .ok (.invokevirtual 182, 3) := by decide +kernel
theorem dX3_count_75 : decode cX3_count 75 = .ok (.ireturn, 1) := by decide +kernel
theorem dX3_count_76 : decode cX3_count 76 = .ok (.aload_n 0, 1) := by decide +kernel
theorem dX3_count_77 : decode cX3_count 77 = .ok (.getfield 10, 3) := by decide +kernel
theorem dX3_count_80 : decode cX3_count 80 = .ok (.invokevirtual 185, 3) := by decide +kernel
theorem dX3_count_83 : decode cX3_count 83 = .ok (.ireturn, 1) := by decide +kernel
theorem dX3_count_84 : decode cX3_count 84 = .ok (.aload_n 0, 1) := by decide +kernel
theorem dX3_count_85 : decode cX3_count 85 = .ok (.getfield 10, 3) := by decide +kernel
theorem dX3_count_88 : decode cX3_count 88 = .ok (.invokevirtual 188, 3) := by decide +kernel
theorem dX3_count_91 : decode cX3_count 91 = .ok (.ireturn, 1) := by decide +kernel
theorem dX3_count_92 : decode cX3_count 92 = .ok (.aload_n 0, 1) := by decide +kernel
theorem dX3_count_93 : decode cX3_count 93 = .ok (.getfield 10, 3) := by decide +kernel
theorem dX3_count_96 : decode cX3_count 96 = .ok (.invokevirtual 107, 3) := by decide +kernel
theorem dX3_count_99 : decode cX3_count 99 = .ok (.ireturn, 1) := by decide +kernel
theorem dX3_count_100 : decode cX3_count 100 = .ok (.aload_n 0, 1) := by decide +kernel
theorem dX3_count_101 : decode cX3_count 101 = .ok (.getfield 10, 3) := by decide +kernel
theorem dX3_count_104 : decode cX3_count 104 = .ok (.invokevirtual 191, 3) := by decide +kernel
theorem dX3_count_107 : decode cX3_count 107 = .ok (.ireturn, 1) := by decide +kernel
theorem dX3_count_108 : decode cX3_count 108 = .ok (.aload_n 0, 1) := by decide +kernel
theorem dX3_count_109 : decode cX3_count 109 = .ok (.getfield 10, 3) := by decide +kernel
theorem dX3_count_112 : decode cX3_count 112 = .ok (.invokevirtual 120, 3) := by decide +kernel
theorem dX3_count_115 : decode cX3_count 115 = .ok (.ireturn, 1) := by decide +kernel
theorem dX3_count_116 : decode cX3_count 116 = .ok (.aload_n 0, 1) := by decide +kernel
theorem dX3_count_117 : decode cX3_count 117 = .ok (.getfield 22, 3) := by decide +kernel
theorem dX3_count_120 : decode cX3_count 120 = .ok (.invokevirtual 161, 3) := by decide +kernel
theorem dX3_count_123 : decode cX3_count 123 = .ok (.ireturn, 1) := by decide +kernel
theorem dX3_count_124 : decode cX3_count 124 = .ok (.new 51, 3) := by decide +kernel
theorem dX3_count_127 : decode cX3_count 127 = .ok (.dup, 1) := by decide +kernel
theorem dX3_count_128 : decode cX3_count 128 = .ok (.ldc 171, 2) := by decide +kernel
theorem dX3_count_130 : decode cX3_count 130 = .ok (.invokespecial 55, 3) := by decide +kernel
theorem dX3_count_133 : decode cX3_count 133 = .ok (.athrow, 1) := by decide +kernel
set_option maxRecDepth 20000 in
theorem ggX3_setting_X3_isSetting : GoodIn wsX3_setting wsX3_isSetting := goodIn_r _ [7] rfl (by decide +kernel)
set_option maxRecDepth 20000 in
theorem gX3_setting_X3_isSetting : GoodIn wsX3_setting (va_wsS RX3 91 yX3_isSetting wsX3_isSetting) := goodIn_app (goodIn_of _ (by decide +kernel)) ggX3_setting_X3_isSetting
set_option maxRecDepth 20000 in
theorem ggX3_setting_X1_settingValue : GoodIn wsX3_setting wsX1_settingValue := goodIn_r _ [12, 13, 18, 19, 20, 21, 22, 23, 24, 25, 26, 27, 28, 29, 30, 31, 32, 33] rfl (by decide +kernel)
set_option maxRecDepth 20000 in
theorem gX3_setting_X1_settingValue : GoodIn wsX3_setting (wsV RX3 194 RX1 yX1_settingValue wsX1_settingValue) := goodIn_app (goodIn_of _ (by decide +kernel)) ggX3_setting_X1_settingValue
theorem dX3_setting_0 : decode cX3_setting 0 = .ok (.iload_n 1, 1) := by decide +kernel
theorem dX3_setting_1 : decode cX3_setting 1 = .ok (.invokestatic 91, 3) := by decide +kernel
theorem dX3_setting_4 : decode cX3_setting 4 = .ok (.ifCond .ne 13, 3) := by decide +kernel
theorem dX3_setting_7 : decode cX3_setting 7 = .ok (.new 40, 3) := by decide +kernel
theorem dX3_setting_10 : decode cX3_setting 10 = .ok (.dup, 1) := by decide +kernel
theorem dX3_setting_11 : decode cX3_setting 11 = .ok (.ldc 94, 2) := by decide +kernel
theorem dX3_setting_13 : decode cX3_setting 13 = .ok (.invokespecial 44, 3) := by decide +kernel
theorem dX3_setting_16 : decode cX3_setting 16 = .ok (.athrow, 1) := by decide +kernel
theorem dX3_setting_17 : decode cX3_setting 17 = .ok (.aload_n 0, 1) := by decide +kernel
theorem dX3_setting_18 : decode cX3_setting 18 = .ok (.getfield 10, 3) := by decide +kernel
theorem dX3_setting_21 : decode cX3_setting 21 = .ok (.iload_n 1, 1) := by decide +kernel
theorem dX3_setting_22 : decode cX3_setting 22 = .ok (.invokevirtual 194, 3) := by decide +kernel
theorem dX3_setting_25 : decode cX3_setting 25 = .ok (.ireturn, 1) := by decide +kernel
set_option maxRecDepth 20000 in
theorem ggX3_dryIn_X1_copyFrom : GoodIn wsX3_dryIn wsX1_copyFrom := goodIn_r _ [7, 8, 9, 10, 11, 12, 13, 14, 15, 16, 17, 18, 19, 20, 21, 22, 23, 24, 25, 26, 27, 70, 71, 72, 73, 74, 75, 76, 77, 78, 79, 80, 81, 82, 83, 84, 85] rfl (by decide +kernel)
set_option maxRecDepth 20000 in
theorem gX3_dryIn_X1_copyFrom : GoodIn wsX3_dryIn (wsV RX3 158 RX1 yX1_copyFrom wsX1_copyFrom) := goodIn_app (goodIn_of _ (by decide +kernel)) ggX3_dryIn_X1_copyFrom
set_option maxRecDepth 20000 in
theorem ggX3_dryIn_X1_standingLitres : GoodIn wsX3_dryIn wsX1_standingLitres := goodIn_r _ [31, 15, 20, 32, 33, 6, 34, 70, 71, 72, 73, 74, 75, 76, 77, 78, 79, 80, 81, 82, 83, 84, 85] rfl (by decide +kernel)
set_option maxRecDepth 20000 in
theorem gX3_dryIn_X1_standingLitres : GoodIn wsX3_dryIn (wsV RX3 185 RX1 yX1_standingLitres wsX1_standingLitres) := goodIn_app (goodIn_of _ (by decide +kernel)) ggX3_dryIn_X1_standingLitres
set_option maxRecDepth 20000 in
theorem ggX3_dryIn_X1_passMinute : GoodIn wsX3_dryIn wsX1_passMinute := goodIn_r _ [38, 24, 39, 40, 41, 6, 42, 8, 26, 15, 13, 14, 20, 43, 44, 45, 46, 47, 48, 49, 23, 50, 51, 52, 53, 22, 27, 54, 55, 56, 57, 17, 18, 58, 59, 60, 61, 19, 21, 62, 63, 64, 65, 16, 70, 71, 72, 73, 74, 75, 76, 77, 78, 79, 80, 81, 82, 83, 84, 85] rfl (by decide +kernel)
set_option maxRecDepth 20000 in
theorem gX3_dryIn_X1_passMinute : GoodIn wsX3_dryIn (wsV RX3 201 RX1 yX1_passMinute wsX1_passMinute) := goodIn_app (goodIn_of _ (by decide +kernel)) ggX3_dryIn_X1_passMinute
theorem dX3_dryIn_0 : decode cX3_dryIn 0 = .ok (.aload_n 0, 1) := by decide +kernel
theorem dX3_dryIn_1 : decode cX3_dryIn 1 = .ok (.getfield 16, 3) := by decide +kernel
theorem dX3_dryIn_4 : decode cX3_dryIn 4 = .ok (.aload_n 0, 1) := by decide +kernel
theorem dX3_dryIn_5 : decode cX3_dryIn 5 = .ok (.getfield 10, 3) := by decide +kernel
theorem dX3_dryIn_8 : decode cX3_dryIn 8 = .ok (.invokevirtual 158, 3) := by decide +kernel
theorem dX3_dryIn_11 : decode cX3_dryIn 11 = .ok (.iconst 0, 1) := by decide +kernel
theorem dX3_dryIn_12 : decode cX3_dryIn 12 = .ok (.istore_n 1, 1) := by decide +kernel
theorem dX3_dryIn_13 : decode cX3_dryIn 13 = .ok (.iload_n 1, 1) := by decide +kernel
theorem dX3_dryIn_14 : decode cX3_dryIn 14 = .ok (.sipush 300, 3) := by decide +kernel
theorem dX3_dryIn_17 : decode cX3_dryIn 17 = .ok (.if_icmp .gt 29, 3) := by decide +kernel
theorem dX3_dryIn_20 : decode cX3_dryIn 20 = .ok (.aload_n 0, 1) := by decide +kernel
theorem dX3_dryIn_21 : decode cX3_dryIn 21 = .ok (.getfield 16, 3) := by decide +kernel
theorem dX3_dryIn_24 : decode cX3_dryIn 24 = .ok (.invokevirtual 185, 3) := by decide +kernel
theorem dX3_dryIn_27 : decode cX3_dryIn 27 = .ok (.ifCond .ne 5, 3) := by decide +kernel
theorem dX3_dryIn_30 : decode cX3_dryIn 30 = .ok (.iload_n 1, 1) := by decide +kernel
theorem dX3_dryIn_31 : decode cX3_dryIn 31 = .ok (.ireturn, 1) := by decide +kernel
theorem dX3_dryIn_32 : decode cX3_dryIn 32 = .ok (.aload_n 0, 1) := by decide +kernel
theorem dX3_dryIn_33 : decode cX3_dryIn 33 = .ok (.getfield 16, 3) := by decide +kernel
theorem dX3_dryIn_36 : decode cX3_dryIn 36 = .ok (.iconst 0, 1) := by decide +kernel
theorem dX3_dryIn_37 : decode cX3_dryIn 37 = .ok (.invokevirtual 201, 3) := by decide +kernel
theorem dX3_dryIn_40 : decode cX3_dryIn 40 = .ok (.iinc 1 1, 3) := by decide +kernel
theorem dX3_dryIn_43 : decode cX3_dryIn 43 = .ok (.goto (-30), 3) := by decide +kernel
theorem dX3_dryIn_46 : decode cX3_dryIn 46 = .ok (.iconst (-1), 1) := by decide +kernel
theorem dX3_dryIn_47 : decode cX3_dryIn 47 = .ok (.ireturn, 1) := by decide +kernel
set_option maxRecDepth 20000 in
theorem ggX3_drainedShare_X1_rainedLitres : GoodIn wsX3_drainedShare wsX1_rainedLitres := goodIn_r _ [6, 7, 20, 21, 22, 23, 24, 25, 26, 27, 28, 29, 30, 31, 32, 33, 34, 35] rfl (by decide +kernel)
set_option maxRecDepth 20000 in
theorem gX3_drainedShare_X1_rainedLitres : GoodIn wsX3_drainedShare (wsV RX3 182 RX1 yX1_rainedLitres wsX1_rainedLitres) := goodIn_app (goodIn_of _ (by decide +kernel)) ggX3_drainedShare_X1_rainedLitres
set_option maxRecDepth 20000 in
theorem ggX3_drainedShare_X1_drainedLitres : GoodIn wsX3_drainedShare wsX1_drainedLitres := goodIn_r _ [11, 12, 13, 14, 5, 15, 20, 21, 22, 23, 24, 25, 26, 27, 28, 29, 30, 31, 32, 33, 34, 35] rfl (by decide +kernel)
set_option maxRecDepth 20000 in
theorem gX3_drainedShare_X1_drainedLitres : GoodIn wsX3_drainedShare (wsV RX3 188 RX1 yX1_drainedLitres wsX1_drainedLitres) := goodIn_app (goodIn_of _ (by decide +kernel)) ggX3_drainedShare_X1_drainedLitres
theorem dX3_drainedShare_0 : decode cX3_drainedShare 0 = .ok (.aload_n 0, 1) := by decide +kernel
theorem dX3_drainedShare_1 : decode cX3_drainedShare 1 = .ok (.getfield 10, 3) := by decide +kernel
theorem dX3_drainedShare_4 : decode cX3_drainedShare 4 = .ok (.invokevirtual 182, 3) := by decide +kernel
theorem dX3_drainedShare_7 : decode cX3_drainedShare 7 = .ok (.istore_n 1, 1) := by decide +kernel
theorem dX3_drainedShare_8 : decode cX3_drainedShare 8 = .ok (.iload_n 1, 1) := by decide +kernel
theorem dX3_drainedShare_9 : decode cX3_drainedShare 9 = .ok (.ifCond .ne 7, 3) := by decide +kernel
theorem dX3_drainedShare_12 : decode cX3_drainedShare 12 = .ok (.dconst 1, 1) := by decide +kernel
theorem dX3_drainedShare_13 : decode cX3_drainedShare 13 = .ok (.goto 14, 3) := by decide +kernel
theorem dX3_drainedShare_16 : decode cX3_drainedShare 16 = .ok (.aload_n 0, 1) := by decide +kernel
theorem dX3_drainedShare_17 : decode cX3_drainedShare 17 = .ok (.getfield 10, 3) := by decide +kernel
theorem dX3_drainedShare_20 : decode cX3_drainedShare 20 = .ok (.invokevirtual 188, 3) := by decide +kernel
theorem dX3_drainedShare_23 : decode cX3_drainedShare 23 = .ok (.i2d, 1) := by decide +kernel
theorem dX3_drainedShare_24 : decode cX3_drainedShare 24 = .ok (.iload_n 1, 1) := by decide +kernel
theorem dX3_drainedShare_25 : decode cX3_drainedShare 25 = .ok (.i2d, 1) := by decide +kernel
theorem dX3_drainedShare_26 : decode cX3_drainedShare 26 = .ok (.ddiv, 1) := by decide +kernel
theorem dX3_drainedShare_27 : decode cX3_drainedShare 27 = .ok (.dreturn, 1) := by decide +kernel
theorem dX3_isWithin_0 : decode cX3_isWithin 0 = .ok (.iload_n 0, 1) := by decide +kernel
theorem dX3_isWithin_1 : decode cX3_isWithin 1 = .ok (.iload_n 1, 1) := by decide +kernel
theorem dX3_isWithin_2 : decode cX3_isWithin 2 = .ok (.if_icmp .lt 12, 3) := by decide +kernel
theorem dX3_isWithin_5 : decode cX3_isWithin 5 = .ok (.iload_n 0, 1) := by decide +kernel
theorem dX3_isWithin_6 : decode cX3_isWithin 6 = .ok (.iload_n 2, 1) := by decide +kernel
theorem dX3_isWithin_7 : decode cX3_isWithin 7 = .ok (.if_icmp .gt 7, 3) := by decide +kernel
theorem dX3_isWithin_10 : decode cX3_isWithin 10 = .ok (.iconst 1, 1) := by decide +kernel
theorem dX3_isWithin_11 : decode cX3_isWithin 11 = .ok (.goto 4, 3) := by decide +kernel
theorem dX3_isWithin_14 : decode cX3_isWithin 14 = .ok (.iconst 0, 1) := by decide +kernel
theorem dX3_isWithin_15 : decode cX3_isWithin 15 = .ok (.ireturn, 1) := by decide +kernel
theorem dX3_isPlane_0 : decode cX3_isPlane 0 = .ok (.iload_n 0, 1) := by decide +kernel
theorem dX3_isPlane_1 : decode cX3_isPlane 1 = .ok (.ifCond .lt 13, 3) := by decide +kernel
theorem dX3_isPlane_4 : decode cX3_isPlane 4 = .ok (.iload_n 0, 1) := by decide +kernel
theorem dX3_isPlane_5 : decode cX3_isPlane 5 = .ok (.bipush 6, 2) := by decide +kernel
theorem dX3_isPlane_7 : decode cX3_isPlane 7 = .ok (.if_icmp .ge 7, 3) := by decide +kernel
theorem dX3_isPlane_10 : decode cX3_isPlane 10 = .ok (.iconst 1, 1) := by decide +kernel
theorem dX3_isPlane_11 : decode cX3_isPlane 11 = .ok (.goto 4, 3) := by decide +kernel
theorem dX3_isPlane_14 : decode cX3_isPlane 14 = .ok (.iconst 0, 1) := by decide +kernel
theorem dX3_isPlane_15 : decode cX3_isPlane 15 = .ok (.ireturn, 1) := by decide +kernel
theorem dX3_isGutter_0 : decode cX3_isGutter 0 = .ok (.iload_n 0, 1) := by decide +kernel
theorem dX3_isGutter_1 : decode cX3_isGutter 1 = .ok (.ifCond .lt 13, 3) := by decide +kernel
theorem dX3_isGutter_4 : decode cX3_isGutter 4 = .ok (.iload_n 0, 1) := by decide +kernel
theorem dX3_isGutter_5 : decode cX3_isGutter 5 = .ok (.bipush 6, 2) := by decide +kernel
theorem dX3_isGutter_7 : decode cX3_isGutter 7 = .ok (.if_icmp .ge 7, 3) := by decide +kernel
theorem dX3_isGutter_10 : decode cX3_isGutter 10 = .ok (.iconst 1, 1) := by decide +kernel
theorem dX3_isGutter_11 : decode cX3_isGutter 11 = .ok (.goto 4, 3) := by decide +kernel
theorem dX3_isGutter_14 : decode cX3_isGutter 14 = .ok (.iconst 0, 1) := by decide +kernel
theorem dX3_isGutter_15 : decode cX3_isGutter 15 = .ok (.ireturn, 1) := by decide +kernel
theorem dX3_isSetting_0 : decode cX3_isSetting 0 = .ok (.iload_n 0, 1) := by decide +kernel
theorem dX3_isSetting_1 : decode cX3_isSetting 1 = .ok (.ifCond .lt 12, 3) := by decide +kernel
theorem dX3_isSetting_4 : decode cX3_isSetting 4 = .ok (.iload_n 0, 1) := by decide +kernel
theorem dX3_isSetting_5 : decode cX3_isSetting 5 = .ok (.iconst 3, 1) := by decide +kernel
theorem dX3_isSetting_6 : decode cX3_isSetting 6 = .ok (.if_icmp .ge 7, 3) := by decide +kernel
theorem dX3_isSetting_9 : decode cX3_isSetting 9 = .ok (.iconst 1, 1) := by decide +kernel
theorem dX3_isSetting_10 : decode cX3_isSetting 10 = .ok (.goto 4, 3) := by decide +kernel
theorem dX3_isSetting_13 : decode cX3_isSetting 13 = .ok (.iconst 0, 1) := by decide +kernel
theorem dX3_isSetting_14 : decode cX3_isSetting 14 = .ok (.ireturn, 1) := by decide +kernel
theorem dJ9_min_7cf53_0 : decode cJ9_min_7cf53 0 = .ok (.iload_n 0, 1) := by decide +kernel
theorem dJ9_min_7cf53_1 : decode cJ9_min_7cf53 1 = .ok (.iload_n 1, 1) := by decide +kernel
theorem dJ9_min_7cf53_2 : decode cJ9_min_7cf53 2 = .ok (.if_icmp .gt 7, 3) := by decide +kernel
theorem dJ9_min_7cf53_5 : decode cJ9_min_7cf53 5 = .ok (.iload_n 0, 1) := by decide +kernel
theorem dJ9_min_7cf53_6 : decode cJ9_min_7cf53 6 = .ok (.goto 4, 3) := by decide +kernel
theorem dJ9_min_7cf53_9 : decode cJ9_min_7cf53 9 = .ok (.iload_n 1, 1) := by decide +kernel
theorem dJ9_min_7cf53_10 : decode cJ9_min_7cf53 10 = .ok (.ireturn, 1) := by decide +kernel
