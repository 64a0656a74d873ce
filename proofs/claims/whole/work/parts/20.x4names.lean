theorem dX4_init_0 : decode cX4_init 0 = .ok (.aload_n 0, 1) := by decide +kernel
theorem dX4_init_1 : decode cX4_init 1 = .ok (.invokespecial 1, 3) := by decide +kernel
theorem dX4_init_4 : decode cX4_init 4 = .ok (.aload_n 0, 1) := by decide +kernel
theorem dX4_init_5 : decode cX4_init 5 = .ok (.bipush 75, 2) := by decide +kernel
theorem dX4_init_7 : decode cX4_init 7 = .ok (.newarray .int, 2) := by decide +kernel
theorem dX4_init_9 : decode cX4_init 9 = .ok (.putfield 7, 3) := by decide +kernel
theorem dX4_init_12 : decode cX4_init 12 = .ok (.aload_n 0, 1) := by decide +kernel
theorem dX4_init_13 : decode cX4_init 13 = .ok (.bipush 75, 2) := by decide +kernel
theorem dX4_init_15 : decode cX4_init 15 = .ok (.newarray .int, 2) := by decide +kernel
theorem dX4_init_17 : decode cX4_init 17 = .ok (.putfield 13, 3) := by decide +kernel
theorem dX4_init_20 : decode cX4_init 20 = .ok (.aload_n 0, 1) := by decide +kernel
theorem dX4_init_21 : decode cX4_init 21 = .ok (.sipush 450, 3) := by decide +kernel
theorem dX4_init_24 : decode cX4_init 24 = .ok (.newarray .int, 2) := by decide +kernel
theorem dX4_init_26 : decode cX4_init 26 = .ok (.putfield 16, 3) := by decide +kernel
theorem dX4_init_29 : decode cX4_init 29 = .ok (.aload_n 0, 1) := by decide +kernel
theorem dX4_init_30 : decode cX4_init 30 = .ok (.bipush 60, 2) := by decide +kernel
theorem dX4_init_32 : decode cX4_init 32 = .ok (.newarray .int, 2) := by decide +kernel
theorem dX4_init_34 : decode cX4_init 34 = .ok (.putfield 19, 3) := by decide +kernel
theorem dX4_init_37 : decode cX4_init 37 = .ok (.aload_n 0, 1) := by decide +kernel
theorem dX4_init_38 : decode cX4_init 38 = .ok (.bipush 64, 2) := by decide +kernel
theorem dX4_init_40 : decode cX4_init 40 = .ok (.newarray .int, 2) := by decide +kernel
theorem dX4_init_42 : decode cX4_init 42 = .ok (.putfield 22, 3) := by decide +kernel
theorem dX4_init_45 : decode cX4_init 45 = .ok (.aload_n 0, 1) := by decide +kernel
theorem dX4_init_46 : decode cX4_init 46 = .ok (.iconst 0, 1) := by decide +kernel
theorem dX4_init_47 : decode cX4_init 47 = .ok (.putfield 25, 3) := by decide +kernel
theorem dX4_init_50 : decode cX4_init 50 = .ok (.aload_n 0, 1) := by decide +kernel
theorem dX4_init_51 : decode cX4_init 51 = .ok (.getfield 7, 3) := by decide +kernel
theorem dX4_init_54 : decode cX4_init 54 = .ok (.iconst 0, 1) := by decide +kernel
theorem dX4_init_55 : decode cX4_init 55 = .ok (.bipush 100, 2) := by decide +kernel
theorem dX4_init_57 : decode cX4_init 57 = .ok (.iastore, 1) := by decide +kernel
theorem dX4_init_58 : decode cX4_init 58 = .ok (.aload_n 0, 1) := by decide +kernel
theorem dX4_init_59 : decode cX4_init 59 = .ok (.getfield 7, 3) := by decide +kernel
theorem dX4_init_62 : decode cX4_init 62 = .ok (.iconst 1, 1) := by decide +kernel
theorem dX4_init_63 : decode cX4_init 63 = .ok (.iconst 4, 1) := by decide +kernel
theorem dX4_init_64 : decode cX4_init 64 = .ok (.iastore, 1) := by decide +kernel
theorem dX4_init_65 : decode cX4_init 65 = .ok (.aload_n 0, 1) := by decide +kernel
theorem dX4_init_66 : decode cX4_init 66 = .ok (.getfield 7, 3) := by decide +kernel
theorem dX4_init_69 : decode cX4_init 69 = .ok (.iconst 2, 1) := by decide +kernel
theorem dX4_init_70 : decode cX4_init 70 = .ok (.bipush 20, 2) := by decide +kernel
theorem dX4_init_72 : decode cX4_init 72 = .ok (.iastore, 1) := by decide +kernel
theorem dX4_init_73 : decode cX4_init 73 = .ok (.iconst 0, 1) := by decide +kernel
theorem dX4_init_74 : decode cX4_init 74 = .ok (.istore_n 1, 1) := by decide +kernel
theorem dX4_init_75 : decode cX4_init 75 = .ok (.iload_n 1, 1) := by decide +kernel
theorem dX4_init_76 : decode cX4_init 76 = .ok (.bipush 6, 2) := by decide +kernel
theorem dX4_init_78 : decode cX4_init 78 = .ok (.if_icmp .ge 84, 3) := by decide +kernel
theorem dX4_init_81 : decode cX4_init 81 = .ok (.aload_n 0, 1) := by decide +kernel
theorem dX4_init_82 : decode cX4_init 82 = .ok (.getfield 7, 3) := by decide +kernel
theorem dX4_init_85 : decode cX4_init 85 = .ok (.bipush 9, 2) := by decide +kernel
theorem dX4_init_87 : decode cX4_init 87 = .ok (.iconst 4, 1) := by decide +kernel
theorem dX4_init_88 : decode cX4_init 88 = .ok (.iload_n 1, 1) := by decide +kernel
theorem dX4_init_89 : decode cX4_init 89 = .ok (.imul, 1) := by decide +kernel
theorem dX4_init_90 : decode cX4_init 90 = .ok (.iadd, 1) := by decide +kernel
theorem dX4_init_91 : decode cX4_init 91 = .ok (.iconst 0, 1) := by decide +kernel
theorem dX4_init_92 : decode cX4_init 92 = .ok (.iadd, 1) := by decide +kernel
theorem dX4_init_93 : decode cX4_init 93 = .ok (.bipush 40, 2) := by decide +kernel
theorem dX4_init_95 : decode cX4_init 95 = .ok (.iastore, 1) := by decide +kernel
theorem dX4_init_96 : decode cX4_init 96 = .ok (.aload_n 0, 1) := by decide +kernel
theorem dX4_init_97 : decode cX4_init 97 = .ok (.getfield 7, 3) := by decide +kernel
theorem dX4_init_100 : decode cX4_init 100 = .ok (.bipush 9, 2) := by decide +kernel
theorem dX4_init_102 : decode cX4_init 102 = .ok (.iconst 4, 1) := by decide +kernel
theorem dX4_init_103 : decode cX4_init 103 = .ok (.iload_n 1, 1) := by decide +kernel
theorem dX4_init_104 : decode cX4_init 104 = .ok (.imul, 1) := by decide +kernel
theorem dX4_init_105 : decode cX4_init 105 = .ok (.iadd, 1) := by decide +kernel
theorem dX4_init_106 : decode cX4_init 106 = .ok (.iconst 1, 1) := by decide +kernel
theorem dX4_init_107 : decode cX4_init 107 = .ok (.iadd, 1) := by decide +kernel
theorem dX4_init_108 : decode cX4_init 108 = .ok (.iconst 3, 1) := by decide +kernel
theorem dX4_init_109 : decode cX4_init 109 = .ok (.iastore, 1) := by decide +kernel
theorem dX4_init_110 : decode cX4_init 110 = .ok (.aload_n 0, 1) := by decide +kernel
theorem dX4_init_111 : decode cX4_init 111 = .ok (.getfield 7, 3) := by decide +kernel
theorem dX4_init_114 : decode cX4_init 114 = .ok (.bipush 9, 2) := by decide +kernel
theorem dX4_init_116 : decode cX4_init 116 = .ok (.iconst 4, 1) := by decide +kernel
theorem dX4_init_117 : decode cX4_init 117 = .ok (.iload_n 1, 1) := by decide +kernel
theorem dX4_init_118 : decode cX4_init 118 = .ok (.imul, 1) := by decide +kernel
theorem dX4_init_119 : decode cX4_init 119 = .ok (.iadd, 1) := by decide +kernel
theorem dX4_init_120 : decode cX4_init 120 = .ok (.iconst 2, 1) := by decide +kernel
theorem dX4_init_121 : decode cX4_init 121 = .ok (.iadd, 1) := by decide +kernel
theorem dX4_init_122 : decode cX4_init 122 = .ok (.iload_n 1, 1) := by decide +kernel
theorem dX4_init_123 : decode cX4_init 123 = .ok (.iastore, 1) := by decide +kernel
theorem dX4_init_124 : decode cX4_init 124 = .ok (.aload_n 0, 1) := by decide +kernel
theorem dX4_init_125 : decode cX4_init 125 = .ok (.getfield 7, 3) := by decide +kernel
theorem dX4_init_128 : decode cX4_init 128 = .ok (.bipush 33, 2) := by decide +kernel
theorem dX4_init_130 : decode cX4_init 130 = .ok (.bipush 7, 2) := by decide +kernel
theorem dX4_init_132 : decode cX4_init 132 = .ok (.iload_n 1, 1) := by decide +kernel
theorem dX4_init_133 : decode cX4_init 133 = .ok (.imul, 1) := by decide +kernel
theorem dX4_init_134 : decode cX4_init 134 = .ok (.iadd, 1) := by decide +kernel
theorem dX4_init_135 : decode cX4_init 135 = .ok (.iconst 0, 1) := by decide +kernel
theorem dX4_init_136 : decode cX4_init 136 = .ok (.iadd, 1) := by decide +kernel
theorem dX4_init_137 : decode cX4_init 137 = .ok (.bipush 60, 2) := by decide +kernel
theorem dX4_init_139 : decode cX4_init 139 = .ok (.iastore, 1) := by decide +kernel
theorem dX4_init_140 : decode cX4_init 140 = .ok (.aload_n 0, 1) := by decide +kernel
theorem dX4_init_141 : decode cX4_init 141 = .ok (.getfield 7, 3) := by decide +kernel
theorem dX4_init_144 : decode cX4_init 144 = .ok (.bipush 33, 2) := by decide +kernel
theorem dX4_init_146 : decode cX4_init 146 = .ok (.bipush 7, 2) := by decide +kernel
theorem dX4_init_148 : decode cX4_init 148 = .ok (.iload_n 1, 1) := by decide +kernel
theorem dX4_init_149 : decode cX4_init 149 = .ok (.imul, 1) := by decide +kernel
theorem dX4_init_150 : decode cX4_init 150 = .ok (.iadd, 1) := by decide +kernel
theorem dX4_init_151 : decode cX4_init 151 = .ok (.iconst 1, 1) := by decide +kernel
theorem dX4_init_152 : decode cX4_init 152 = .ok (.iadd, 1) := by decide +kernel
theorem dX4_init_153 : decode cX4_init 153 = .ok (.bipush 20, 2) := by decide +kernel
theorem dX4_init_155 : decode cX4_init 155 = .ok (.iastore, 1) := by decide +kernel
theorem dX4_init_156 : decode cX4_init 156 = .ok (.iinc 1 1, 3) := by decide +kernel
theorem dX4_init_159 : decode cX4_init 159 = .ok (.goto (-84), 3) := by decide +kernel
theorem dX4_init_162 : decode cX4_init 162 = .ok (.return_, 1) := by decide +kernel
theorem dX4_thrown_0 : decode cX4_thrown 0 = .ok (.aload_n 0, 1) := by decide +kernel
theorem dX4_thrown_1 : decode cX4_thrown 1 = .ok (.getfield 25, 3) := by decide +kernel
theorem dX4_thrown_4 : decode cX4_thrown 4 = .ok (.ireturn, 1) := by decide +kernel
theorem dX4_in_0 : decode cX4_in 0 = .ok (.iload_n 0, 1) := by decide +kernel
theorem dX4_in_1 : decode cX4_in 1 = .ok (.iload_n 1, 1) := by decide +kernel
theorem dX4_in_2 : decode cX4_in 2 = .ok (.if_icmp .lt 12, 3) := by decide +kernel
theorem dX4_in_5 : decode cX4_in 5 = .ok (.iload_n 0, 1) := by decide +kernel
theorem dX4_in_6 : decode cX4_in 6 = .ok (.iload_n 2, 1) := by decide +kernel
theorem dX4_in_7 : decode cX4_in 7 = .ok (.if_icmp .gt 7, 3) := by decide +kernel
theorem dX4_in_10 : decode cX4_in 10 = .ok (.iconst 1, 1) := by decide +kernel
theorem dX4_in_11 : decode cX4_in 11 = .ok (.goto 4, 3) := by decide +kernel
theorem dX4_in_14 : decode cX4_in 14 = .ok (.iconst 0, 1) := by decide +kernel
theorem dX4_in_15 : decode cX4_in 15 = .ok (.ireturn, 1) := by decide +kernel
theorem dX4_fails_0 : decode cX4_fails 0 = .ok (.aload_n 0, 1) := by decide +kernel
theorem dX4_fails_1 : decode cX4_fails 1 = .ok (.iload_n 1, 1) := by decide +kernel
theorem dX4_fails_2 : decode cX4_fails 2 = .ok (.putfield 25, 3) := by decide +kernel
theorem dX4_fails_5 : decode cX4_fails 5 = .ok (.iconst 0, 1) := by decide +kernel
theorem dX4_fails_6 : decode cX4_fails 6 = .ok (.ireturn, 1) := by decide +kernel
set_option maxRecDepth 20000 in
theorem ggX4_isOne_X4_in : GoodIn wsX4_isOne wsX4_in := goodIn_r _ [4] (by decide +kernel) (by decide +kernel)
set_option maxRecDepth 20000 in
theorem gX4_isOne_X4_in : GoodIn wsX4_isOne (va_wsS RX4 29 yX4_in wsX4_in) := goodIn_app (goodIn_of _ (by decide +kernel)) ggX4_isOne_X4_in
theorem dX4_isOne_0 : decode cX4_isOne 0 = .ok (.iload_n 0, 1) := by decide +kernel
theorem dX4_isOne_1 : decode cX4_isOne 1 = .ok (.iconst 0, 1) := by decide +kernel
theorem dX4_isOne_2 : decode cX4_isOne 2 = .ok (.iconst 5, 1) := by decide +kernel
theorem dX4_isOne_3 : decode cX4_isOne 3 = .ok (.invokestatic 29, 3) := by decide +kernel
theorem dX4_isOne_6 : decode cX4_isOne 6 = .ok (.ireturn, 1) := by decide +kernel
theorem dX4_ofPlane_0 : decode cX4_ofPlane 0 = .ok (.aload_n 0, 1) := by decide +kernel
theorem dX4_ofPlane_1 : decode cX4_ofPlane 1 = .ok (.getfield 7, 3) := by decide +kernel
theorem dX4_ofPlane_4 : decode cX4_ofPlane 4 = .ok (.bipush 9, 2) := by decide +kernel
theorem dX4_ofPlane_6 : decode cX4_ofPlane 6 = .ok (.iconst 4, 1) := by decide +kernel
theorem dX4_ofPlane_7 : decode cX4_ofPlane 7 = .ok (.iload_n 1, 1) := by decide +kernel
theorem dX4_ofPlane_8 : decode cX4_ofPlane 8 = .ok (.imul, 1) := by decide +kernel
theorem dX4_ofPlane_9 : decode cX4_ofPlane 9 = .ok (.iadd, 1) := by decide +kernel
theorem dX4_ofPlane_10 : decode cX4_ofPlane 10 = .ok (.iload_n 2, 1) := by decide +kernel
theorem dX4_ofPlane_11 : decode cX4_ofPlane 11 = .ok (.iadd, 1) := by decide +kernel
theorem dX4_ofPlane_12 : decode cX4_ofPlane 12 = .ok (.iaload, 1) := by decide +kernel
theorem dX4_ofPlane_13 : decode cX4_ofPlane 13 = .ok (.ireturn, 1) := by decide +kernel
theorem dX4_of_0 : decode cX4_of 0 = .ok (.aload_n 0, 1) := by decide +kernel
theorem dX4_of_1 : decode cX4_of 1 = .ok (.getfield 7, 3) := by decide +kernel
theorem dX4_of_4 : decode cX4_of 4 = .ok (.bipush 33, 2) := by decide +kernel
theorem dX4_of_6 : decode cX4_of 6 = .ok (.bipush 7, 2) := by decide +kernel
theorem dX4_of_8 : decode cX4_of 8 = .ok (.iload_n 1, 1) := by decide +kernel
theorem dX4_of_9 : decode cX4_of 9 = .ok (.imul, 1) := by decide +kernel
theorem dX4_of_10 : decode cX4_of 10 = .ok (.iadd, 1) := by decide +kernel
theorem dX4_of_11 : decode cX4_of 11 = .ok (.iload_n 2, 1) := by decide +kernel
theorem dX4_of_12 : decode cX4_of 12 = .ok (.iadd, 1) := by decide +kernel
theorem dX4_of_13 : decode cX4_of 13 = .ok (.iaload, 1) := by decide +kernel
theorem dX4_of_14 : decode cX4_of 14 = .ok (.ireturn, 1) := by decide +kernel
theorem dX4_adds_0 : decode cX4_adds 0 = .ok (.aload_n 0, 1) := by decide +kernel
theorem dX4_adds_1 : decode cX4_adds 1 = .ok (.getfield 7, 3) := by decide +kernel
theorem dX4_adds_4 : decode cX4_adds 4 = .ok (.bipush 33, 2) := by decide +kernel
theorem dX4_adds_6 : decode cX4_adds 6 = .ok (.bipush 7, 2) := by decide +kernel
theorem dX4_adds_8 : decode cX4_adds 8 = .ok (.iload_n 1, 1) := by decide +kernel
theorem dX4_adds_9 : decode cX4_adds 9 = .ok (.imul, 1) := by decide +kernel
theorem dX4_adds_10 : decode cX4_adds 10 = .ok (.iadd, 1) := by decide +kernel
theorem dX4_adds_11 : decode cX4_adds 11 = .ok (.iload_n 2, 1) := by decide +kernel
theorem dX4_adds_12 : decode cX4_adds 12 = .ok (.iadd, 1) := by decide +kernel
theorem dX4_adds_13 : decode cX4_adds 13 = .ok (.dup2, 1) := by decide +kernel
theorem dX4_adds_14 : decode cX4_adds 14 = .ok (.iaload, 1) := by decide +kernel
theorem dX4_adds_15 : decode cX4_adds 15 = .ok (.iload_n 3, 1) := by decide +kernel
theorem dX4_adds_16 : decode cX4_adds 16 = .ok (.iadd, 1) := by decide +kernel
theorem dX4_adds_17 : decode cX4_adds 17 = .ok (.iastore, 1) := by decide +kernel
theorem dX4_adds_18 : decode cX4_adds 18 = .ok (.return_, 1) := by decide +kernel
theorem dX4_saves_0 : decode cX4_saves 0 = .ok (.aload_n 0, 1) := by decide +kernel
theorem dX4_saves_1 : decode cX4_saves 1 = .ok (.getfield 33, 3) := by decide +kernel
theorem dX4_saves_4 : decode cX4_saves 4 = .ok (.bipush 6, 2) := by decide +kernel
theorem dX4_saves_6 : decode cX4_saves 6 = .ok (.if_icmp .ne 43, 3) := by decide +kernel
theorem dX4_saves_9 : decode cX4_saves 9 = .ok (.iconst 0, 1) := by decide +kernel
theorem dX4_saves_10 : decode cX4_saves 10 = .ok (.istore_n 1, 1) := by decide +kernel
theorem dX4_saves_11 : decode cX4_saves 11 = .ok (.iload_n 1, 1) := by decide +kernel
theorem dX4_saves_12 : decode cX4_saves 12 = .ok (.sipush 375, 3) := by decide +kernel
theorem dX4_saves_15 : decode cX4_saves 15 = .ok (.if_icmp .ge 24, 3) := by decide +kernel
theorem dX4_saves_18 : decode cX4_saves 18 = .ok (.aload_n 0, 1) := by decide +kernel
theorem dX4_saves_19 : decode cX4_saves 19 = .ok (.getfield 16, 3) := by decide +kernel
theorem dX4_saves_22 : decode cX4_saves 22 = .ok (.iload_n 1, 1) := by decide +kernel
theorem dX4_saves_23 : decode cX4_saves 23 = .ok (.aload_n 0, 1) := by decide +kernel
theorem dX4_saves_24 : decode cX4_saves 24 = .ok (.getfield 16, 3) := by decide +kernel
theorem dX4_saves_27 : decode cX4_saves 27 = .ok (.iload_n 1, 1) := by decide +kernel
theorem dX4_saves_28 : decode cX4_saves 28 = .ok (.bipush 75, 2) := by decide +kernel
theorem dX4_saves_30 : decode cX4_saves 30 = .ok (.iadd, 1) := by decide +kernel
theorem dX4_saves_31 : decode cX4_saves 31 = .ok (.iaload, 1) := by decide +kernel
theorem dX4_saves_32 : decode cX4_saves 32 = .ok (.iastore, 1) := by decide +kernel
theorem dX4_saves_33 : decode cX4_saves 33 = .ok (.iinc 1 1, 3) := by decide +kernel
theorem dX4_saves_36 : decode cX4_saves 36 = .ok (.goto (-25), 3) := by decide +kernel
theorem dX4_saves_39 : decode cX4_saves 39 = .ok (.aload_n 0, 1) := by decide +kernel
theorem dX4_saves_40 : decode cX4_saves 40 = .ok (.dup, 1) := by decide +kernel
theorem dX4_saves_41 : decode cX4_saves 41 = .ok (.getfield 33, 3) := by decide +kernel
theorem dX4_saves_44 : decode cX4_saves 44 = .ok (.iconst 1, 1) := by decide +kernel
theorem dX4_saves_45 : decode cX4_saves 45 = .ok (.isub, 1) := by decide +kernel
theorem dX4_saves_46 : decode cX4_saves 46 = .ok (.putfield 33, 3) := by decide +kernel
theorem dX4_saves_49 : decode cX4_saves 49 = .ok (.iconst 0, 1) := by decide +kernel
theorem dX4_saves_50 : decode cX4_saves 50 = .ok (.istore_n 1, 1) := by decide +kernel
theorem dX4_saves_51 : decode cX4_saves 51 = .ok (.iload_n 1, 1) := by decide +kernel
theorem dX4_saves_52 : decode cX4_saves 52 = .ok (.bipush 75, 2) := by decide +kernel
theorem dX4_saves_54 : decode cX4_saves 54 = .ok (.if_icmp .ge 29, 3) := by decide +kernel
theorem dX4_saves_57 : decode cX4_saves 57 = .ok (.aload_n 0, 1) := by decide +kernel
theorem dX4_saves_58 : decode cX4_saves 58 = .ok (.getfield 16, 3) := by decide +kernel
theorem dX4_saves_61 : decode cX4_saves 61 = .ok (.bipush 75, 2) := by decide +kernel
theorem dX4_saves_63 : decode cX4_saves 63 = .ok (.aload_n 0, 1) := by decide +kernel
theorem dX4_saves_64 : decode cX4_saves 64 = .ok (.getfield 33, 3) := by decide +kernel
theorem dX4_saves_67 : decode cX4_saves 67 = .ok (.imul, 1) := by decide +kernel
theorem dX4_saves_68 : decode cX4_saves 68 = .ok (.iload_n 1, 1) := by decide +kernel
theorem dX4_saves_69 : decode cX4_saves 69 = .ok (.iadd, 1) := by decide +kernel
theorem dX4_saves_70 : decode cX4_saves 70 = .ok (.aload_n 0, 1) := by decide +kernel
theorem dX4_saves_71 : decode cX4_saves 71 = .ok (.getfield 7, 3) := by decide +kernel
theorem dX4_saves_74 : decode cX4_saves 74 = .ok (.iload_n 1, 1) := by decide +kernel
theorem dX4_saves_75 : decode cX4_saves 75 = .ok (.iaload, 1) := by decide +kernel
theorem dX4_saves_76 : decode cX4_saves 76 = .ok (.iastore, 1) := by decide +kernel
theorem dX4_saves_77 : decode cX4_saves 77 = .ok (.iinc 1 1, 3) := by decide +kernel
theorem dX4_saves_80 : decode cX4_saves 80 = .ok (.goto (-29), 3) := by decide +kernel
theorem dX4_saves_83 : decode cX4_saves 83 = .ok (.aload_n 0, 1) := by decide +kernel
theorem dX4_saves_84 : decode cX4_saves 84 = .ok (.dup, 1) := by decide +kernel
theorem dX4_saves_85 : decode cX4_saves 85 = .ok (.getfield 33, 3) := by decide +kernel
theorem dX4_saves_88 : decode cX4_saves 88 = .ok (.iconst 1, 1) := by decide +kernel
theorem dX4_saves_89 : decode cX4_saves 89 = .ok (.iadd, 1) := by decide +kernel
theorem dX4_saves_90 : decode cX4_saves 90 = .ok (.putfield 33, 3) := by decide +kernel
theorem dX4_saves_93 : decode cX4_saves 93 = .ok (.return_, 1) := by decide +kernel
theorem dX4_putAside_0 : decode cX4_putAside 0 = .ok (.iconst 0, 1) := by decide +kernel
theorem dX4_putAside_1 : decode cX4_putAside 1 = .ok (.istore_n 1, 1) := by decide +kernel
theorem dX4_putAside_2 : decode cX4_putAside 2 = .ok (.iload_n 1, 1) := by decide +kernel
theorem dX4_putAside_3 : decode cX4_putAside 3 = .ok (.bipush 75, 2) := by decide +kernel
theorem dX4_putAside_5 : decode cX4_putAside 5 = .ok (.if_icmp .ge 21, 3) := by decide +kernel
theorem dX4_putAside_8 : decode cX4_putAside 8 = .ok (.aload_n 0, 1) := by decide +kernel
theorem dX4_putAside_9 : decode cX4_putAside 9 = .ok (.getfield 13, 3) := by decide +kernel
theorem dX4_putAside_12 : decode cX4_putAside 12 = .ok (.iload_n 1, 1) := by decide +kernel
theorem dX4_putAside_13 : decode cX4_putAside 13 = .ok (.aload_n 0, 1) := by decide +kernel
theorem dX4_putAside_14 : decode cX4_putAside 14 = .ok (.getfield 7, 3) := by decide +kernel
theorem dX4_putAside_17 : decode cX4_putAside 17 = .ok (.iload_n 1, 1) := by decide +kernel
theorem dX4_putAside_18 : decode cX4_putAside 18 = .ok (.iaload, 1) := by decide +kernel
theorem dX4_putAside_19 : decode cX4_putAside 19 = .ok (.iastore, 1) := by decide +kernel
theorem dX4_putAside_20 : decode cX4_putAside 20 = .ok (.iinc 1 1, 3) := by decide +kernel
theorem dX4_putAside_23 : decode cX4_putAside 23 = .ok (.goto (-21), 3) := by decide +kernel
theorem dX4_putAside_26 : decode cX4_putAside 26 = .ok (.return_, 1) := by decide +kernel
theorem dX4_takeBack_0 : decode cX4_takeBack 0 = .ok (.iconst 0, 1) := by decide +kernel
theorem dX4_takeBack_1 : decode cX4_takeBack 1 = .ok (.istore_n 1, 1) := by decide +kernel
theorem dX4_takeBack_2 : decode cX4_takeBack 2 = .ok (.iload_n 1, 1) := by decide +kernel
theorem dX4_takeBack_3 : decode cX4_takeBack 3 = .ok (.bipush 75, 2) := by decide +kernel
theorem dX4_takeBack_5 : decode cX4_takeBack 5 = .ok (.if_icmp .ge 21, 3) := by decide +kernel
theorem dX4_takeBack_8 : decode cX4_takeBack 8 = .ok (.aload_n 0, 1) := by decide +kernel
theorem dX4_takeBack_9 : decode cX4_takeBack 9 = .ok (.getfield 7, 3) := by decide +kernel
theorem dX4_takeBack_12 : decode cX4_takeBack 12 = .ok (.iload_n 1, 1) := by decide +kernel
theorem dX4_takeBack_13 : decode cX4_takeBack 13 = .ok (.aload_n 0, 1) := by decide +kernel
theorem dX4_takeBack_14 : decode cX4_takeBack 14 = .ok (.getfield 13, 3) := by decide +kernel
theorem dX4_takeBack_17 : decode cX4_takeBack 17 = .ok (.iload_n 1, 1) := by decide +kernel
theorem dX4_takeBack_18 : decode cX4_takeBack 18 = .ok (.iaload, 1) := by decide +kernel
theorem dX4_takeBack_19 : decode cX4_takeBack 19 = .ok (.iastore, 1) := by decide +kernel
theorem dX4_takeBack_20 : decode cX4_takeBack 20 = .ok (.iinc 1 1, 3) := by decide +kernel
theorem dX4_takeBack_23 : decode cX4_takeBack 23 = .ok (.goto (-21), 3) := by decide +kernel
theorem dX4_takeBack_26 : decode cX4_takeBack 26 = .ok (.return_, 1) := by decide +kernel
set_option maxRecDepth 20000 in
theorem ggX4_room_X4_of : GoodIn wsX4_room wsX4_of := goodIn_r _ [5, 6, 7, 8, 9, 10, 11, 12, 13, 14, 15, 16, 17, 18] (by decide +kernel) (by decide +kernel)
set_option maxRecDepth 20000 in
theorem gX4_room_X4_of : GoodIn wsX4_room (wsV RX4 36 RX4 yX4_of wsX4_of) := goodIn_app (goodIn_of _ (by decide +kernel)) ggX4_room_X4_of
theorem dX4_room_0 : decode cX4_room 0 = .ok (.aload_n 0, 1) := by decide +kernel
theorem dX4_room_1 : decode cX4_room 1 = .ok (.iload_n 1, 1) := by decide +kernel
theorem dX4_room_2 : decode cX4_room 2 = .ok (.iconst 0, 1) := by decide +kernel
theorem dX4_room_3 : decode cX4_room 3 = .ok (.invokevirtual 36, 3) := by decide +kernel
theorem dX4_room_6 : decode cX4_room 6 = .ok (.bipush 100, 2) := by decide +kernel
theorem dX4_room_8 : decode cX4_room 8 = .ok (.aload_n 0, 1) := by decide +kernel
theorem dX4_room_9 : decode cX4_room 9 = .ok (.iload_n 1, 1) := by decide +kernel
theorem dX4_room_10 : decode cX4_room 10 = .ok (.iconst 2, 1) := by decide +kernel
theorem dX4_room_11 : decode cX4_room 11 = .ok (.invokevirtual 36, 3) := by decide +kernel
theorem dX4_room_14 : decode cX4_room 14 = .ok (.isub, 1) := by decide +kernel
theorem dX4_room_15 : decode cX4_room 15 = .ok (.imul, 1) := by decide +kernel
theorem dX4_room_16 : decode cX4_room 16 = .ok (.bipush 100, 2) := by decide +kernel
theorem dX4_room_18 : decode cX4_room 18 = .ok (.idiv, 1) := by decide +kernel
theorem dX4_room_19 : decode cX4_room 19 = .ok (.ireturn, 1) := by decide +kernel
set_option maxRecDepth 20000 in
theorem ggX4_takes_X4_of : GoodIn wsX4_takes wsX4_of := goodIn_r _ [5, 6, 7, 8, 9, 10, 11, 12, 13, 14, 15, 16, 17, 18] (by decide +kernel) (by decide +kernel)
set_option maxRecDepth 20000 in
theorem gX4_takes_X4_of : GoodIn wsX4_takes (wsV RX4 36 RX4 yX4_of wsX4_of) := goodIn_app (goodIn_of _ (by decide +kernel)) ggX4_takes_X4_of
theorem dX4_takes_0 : decode cX4_takes 0 = .ok (.aload_n 0, 1) := by decide +kernel
theorem dX4_takes_1 : decode cX4_takes 1 = .ok (.iload_n 1, 1) := by decide +kernel
theorem dX4_takes_2 : decode cX4_takes 2 = .ok (.iconst 1, 1) := by decide +kernel
theorem dX4_takes_3 : decode cX4_takes 3 = .ok (.invokevirtual 36, 3) := by decide +kernel
theorem dX4_takes_6 : decode cX4_takes 6 = .ok (.bipush 100, 2) := by decide +kernel
theorem dX4_takes_8 : decode cX4_takes 8 = .ok (.aload_n 0, 1) := by decide +kernel
theorem dX4_takes_9 : decode cX4_takes 9 = .ok (.iload_n 1, 1) := by decide +kernel
theorem dX4_takes_10 : decode cX4_takes 10 = .ok (.iconst 2, 1) := by decide +kernel
theorem dX4_takes_11 : decode cX4_takes 11 = .ok (.invokevirtual 36, 3) := by decide +kernel
theorem dX4_takes_14 : decode cX4_takes 14 = .ok (.isub, 1) := by decide +kernel
theorem dX4_takes_15 : decode cX4_takes 15 = .ok (.imul, 1) := by decide +kernel
theorem dX4_takes_16 : decode cX4_takes 16 = .ok (.bipush 100, 2) := by decide +kernel
theorem dX4_takes_18 : decode cX4_takes 18 = .ok (.idiv, 1) := by decide +kernel
theorem dX4_takes_19 : decode cX4_takes 19 = .ok (.istore_n 2, 1) := by decide +kernel
theorem dX4_takes_20 : decode cX4_takes 20 = .ok (.iload_n 2, 1) := by decide +kernel
theorem dX4_takes_21 : decode cX4_takes 21 = .ok (.ifCond .ne 16, 3) := by decide +kernel
theorem dX4_takes_24 : decode cX4_takes 24 = .ok (.aload_n 0, 1) := by decide +kernel
theorem dX4_takes_25 : decode cX4_takes 25 = .ok (.iload_n 1, 1) := by decide +kernel
theorem dX4_takes_26 : decode cX4_takes 26 = .ok (.iconst 1, 1) := by decide +kernel
theorem dX4_takes_27 : decode cX4_takes 27 = .ok (.invokevirtual 36, 3) := by decide +kernel
theorem dX4_takes_30 : decode cX4_takes 30 = .ok (.ifCond .le 7, 3) := by decide +kernel
theorem dX4_takes_33 : decode cX4_takes 33 = .ok (.iconst 1, 1) := by decide +kernel
theorem dX4_takes_34 : decode cX4_takes 34 = .ok (.goto 4, 3) := by decide +kernel
theorem dX4_takes_37 : decode cX4_takes 37 = .ok (.iload_n 2, 1) := by decide +kernel
theorem dX4_takes_38 : decode cX4_takes 38 = .ok (.ireturn, 1) := by decide +kernel
set_option maxRecDepth 20000 in
theorem ggX4_sends_X4_ofPlane : GoodIn wsX4_sends wsX4_ofPlane := goodIn_r _ [6, 1, 11, 12, 13, 14, 15, 16, 17, 18, 19, 20, 21, 22] (by decide +kernel) (by decide +kernel)
set_option maxRecDepth 20000 in
theorem gX4_sends_X4_ofPlane : GoodIn wsX4_sends (wsV RX4 40 RX4 yX4_ofPlane wsX4_ofPlane) := goodIn_app (goodIn_of _ (by decide +kernel)) ggX4_sends_X4_ofPlane
set_option maxRecDepth 20000 in
theorem ggX4_sends_X4_adds : GoodIn wsX4_sends wsX4_adds := goodIn_r _ [10, 1, 11, 12, 13, 14, 15, 16, 17, 18, 19, 20, 21, 22] (by decide +kernel) (by decide +kernel)
set_option maxRecDepth 20000 in
theorem gX4_sends_X4_adds : GoodIn wsX4_sends (wsV RX4 43 RX4 yX4_adds wsX4_adds) := goodIn_app (goodIn_of _ (by decide +kernel)) ggX4_sends_X4_adds
theorem dX4_sends_0 : decode cX4_sends 0 = .ok (.aload_n 0, 1) := by decide +kernel
theorem dX4_sends_1 : decode cX4_sends 1 = .ok (.iload_n 1, 1) := by decide +kernel
theorem dX4_sends_2 : decode cX4_sends 2 = .ok (.iconst 0, 1) := by decide +kernel
theorem dX4_sends_3 : decode cX4_sends 3 = .ok (.invokevirtual 40, 3) := by decide +kernel
theorem dX4_sends_6 : decode cX4_sends 6 = .ok (.iload_n 2, 1) := by decide +kernel
theorem dX4_sends_7 : decode cX4_sends 7 = .ok (.imul, 1) := by decide +kernel
theorem dX4_sends_8 : decode cX4_sends 8 = .ok (.bipush 10, 2) := by decide +kernel
theorem dX4_sends_10 : decode cX4_sends 10 = .ok (.idiv, 1) := by decide +kernel
theorem dX4_sends_11 : decode cX4_sends 11 = .ok (.istore_n 3, 1) := by decide +kernel
theorem dX4_sends_12 : decode cX4_sends 12 = .ok (.aload_n 0, 1) := by decide +kernel
theorem dX4_sends_13 : decode cX4_sends 13 = .ok (.iload_n 1, 1) := by decide +kernel
theorem dX4_sends_14 : decode cX4_sends 14 = .ok (.iconst 3, 1) := by decide +kernel
theorem dX4_sends_15 : decode cX4_sends 15 = .ok (.invokevirtual 40, 3) := by decide +kernel
theorem dX4_sends_18 : decode cX4_sends 18 = .ok (.iload_n 3, 1) := by decide +kernel
theorem dX4_sends_19 : decode cX4_sends 19 = .ok (.iadd, 1) := by decide +kernel
theorem dX4_sends_20 : decode cX4_sends 20 = .ok (.istore 4, 2) := by decide +kernel
theorem dX4_sends_22 : decode cX4_sends 22 = .ok (.iload 4, 2) := by decide +kernel
theorem dX4_sends_24 : decode cX4_sends 24 = .ok (.iconst 5, 1) := by decide +kernel
theorem dX4_sends_25 : decode cX4_sends 25 = .ok (.aload_n 0, 1) := by decide +kernel
theorem dX4_sends_26 : decode cX4_sends 26 = .ok (.iload_n 1, 1) := by decide +kernel
theorem dX4_sends_27 : decode cX4_sends 27 = .ok (.iconst 1, 1) := by decide +kernel
theorem dX4_sends_28 : decode cX4_sends 28 = .ok (.invokevirtual 40, 3) := by decide +kernel
theorem dX4_sends_31 : decode cX4_sends 31 = .ok (.iadd, 1) := by decide +kernel
theorem dX4_sends_32 : decode cX4_sends 32 = .ok (.imul, 1) := by decide +kernel
theorem dX4_sends_33 : decode cX4_sends 33 = .ok (.bipush 14, 2) := by decide +kernel
theorem dX4_sends_35 : decode cX4_sends 35 = .ok (.idiv, 1) := by decide +kernel
theorem dX4_sends_36 : decode cX4_sends 36 = .ok (.istore 5, 2) := by decide +kernel
theorem dX4_sends_38 : decode cX4_sends 38 = .ok (.iload 5, 2) := by decide +kernel
theorem dX4_sends_40 : decode cX4_sends 40 = .ok (.ifCond .ne 12, 3) := by decide +kernel
theorem dX4_sends_43 : decode cX4_sends 43 = .ok (.iload 4, 2) := by decide +kernel
theorem dX4_sends_45 : decode cX4_sends 45 = .ok (.ifCond .le 7, 3) := by decide +kernel
theorem dX4_sends_48 : decode cX4_sends 48 = .ok (.iconst 1, 1) := by decide +kernel
theorem dX4_sends_49 : decode cX4_sends 49 = .ok (.goto 5, 3) := by decide +kernel
theorem dX4_sends_52 : decode cX4_sends 52 = .ok (.iload 5, 2) := by decide +kernel
theorem dX4_sends_54 : decode cX4_sends 54 = .ok (.istore 5, 2) := by decide +kernel
theorem dX4_sends_56 : decode cX4_sends 56 = .ok (.aload_n 0, 1) := by decide +kernel
theorem dX4_sends_57 : decode cX4_sends 57 = .ok (.getfield 7, 3) := by decide +kernel
theorem dX4_sends_60 : decode cX4_sends 60 = .ok (.iconst 5, 1) := by decide +kernel
theorem dX4_sends_61 : decode cX4_sends 61 = .ok (.dup2, 1) := by decide +kernel
theorem dX4_sends_62 : decode cX4_sends 62 = .ok (.iaload, 1) := by decide +kernel
theorem dX4_sends_63 : decode cX4_sends 63 = .ok (.iload_n 3, 1) := by decide +kernel
theorem dX4_sends_64 : decode cX4_sends 64 = .ok (.iadd, 1) := by decide +kernel
theorem dX4_sends_65 : decode cX4_sends 65 = .ok (.iastore, 1) := by decide +kernel
theorem dX4_sends_66 : decode cX4_sends 66 = .ok (.aload_n 0, 1) := by decide +kernel
theorem dX4_sends_67 : decode cX4_sends 67 = .ok (.getfield 7, 3) := by decide +kernel
theorem dX4_sends_70 : decode cX4_sends 70 = .ok (.bipush 9, 2) := by decide +kernel
theorem dX4_sends_72 : decode cX4_sends 72 = .ok (.iconst 4, 1) := by decide +kernel
theorem dX4_sends_73 : decode cX4_sends 73 = .ok (.iload_n 1, 1) := by decide +kernel
theorem dX4_sends_74 : decode cX4_sends 74 = .ok (.imul, 1) := by decide +kernel
theorem dX4_sends_75 : decode cX4_sends 75 = .ok (.iadd, 1) := by decide +kernel
theorem dX4_sends_76 : decode cX4_sends 76 = .ok (.iconst 3, 1) := by decide +kernel
theorem dX4_sends_77 : decode cX4_sends 77 = .ok (.iadd, 1) := by decide +kernel
theorem dX4_sends_78 : decode cX4_sends 78 = .ok (.iload 4, 2) := by decide +kernel
theorem dX4_sends_80 : decode cX4_sends 80 = .ok (.iload 5, 2) := by decide +kernel
theorem dX4_sends_82 : decode cX4_sends 82 = .ok (.isub, 1) := by decide +kernel
theorem dX4_sends_83 : decode cX4_sends 83 = .ok (.iastore, 1) := by decide +kernel
theorem dX4_sends_84 : decode cX4_sends 84 = .ok (.aload_n 0, 1) := by decide +kernel
theorem dX4_sends_85 : decode cX4_sends 85 = .ok (.aload_n 0, 1) := by decide +kernel
theorem dX4_sends_86 : decode cX4_sends 86 = .ok (.iload_n 1, 1) := by decide +kernel
theorem dX4_sends_87 : decode cX4_sends 87 = .ok (.iconst 2, 1) := by decide +kernel
theorem dX4_sends_88 : decode cX4_sends 88 = .ok (.invokevirtual 40, 3) := by decide +kernel
theorem dX4_sends_91 : decode cX4_sends 91 = .ok (.iconst 4, 1) := by decide +kernel
theorem dX4_sends_92 : decode cX4_sends 92 = .ok (.iload 5, 2) := by decide +kernel
theorem dX4_sends_94 : decode cX4_sends 94 = .ok (.invokevirtual 43, 3) := by decide +kernel
theorem dX4_sends_97 : decode cX4_sends 97 = .ok (.return_, 1) := by decide +kernel
set_option maxRecDepth 20000 in
theorem ggX4_drains_X4_takes : GoodIn wsX4_drains wsX4_takes := goodIn_r _ [6, 7, 8, 9, 5, 10, 1, 15, 16, 17, 18, 19, 20, 21, 22, 23, 24, 25, 26] (by decide +kernel) (by decide +kernel)
set_option maxRecDepth 20000 in
theorem gX4_drains_X4_takes : GoodIn wsX4_drains (wsV RX4 47 RX4 yX4_takes wsX4_takes) := goodIn_app (goodIn_of _ (by decide +kernel)) ggX4_drains_X4_takes
set_option maxRecDepth 20000 in
theorem ggX4_drains_X4_of : GoodIn wsX4_drains wsX4_of := goodIn_r _ [10, 1, 15, 16, 17, 18, 19, 20, 21, 22, 23, 24, 25, 26] (by decide +kernel) (by decide +kernel)
set_option maxRecDepth 20000 in
theorem gX4_drains_X4_of : GoodIn wsX4_drains (wsV RX4 36 RX4 yX4_of wsX4_of) := goodIn_app (goodIn_of _ (by decide +kernel)) ggX4_drains_X4_of
set_option maxRecDepth 20000 in
theorem ggX4_drains_X4_adds : GoodIn wsX4_drains wsX4_adds := goodIn_r _ [14, 1, 15, 16, 17, 18, 19, 20, 21, 22, 23, 24, 25, 26] (by decide +kernel) (by decide +kernel)
set_option maxRecDepth 20000 in
theorem gX4_drains_X4_adds : GoodIn wsX4_drains (wsV RX4 43 RX4 yX4_adds wsX4_adds) := goodIn_app (goodIn_of _ (by decide +kernel)) ggX4_drains_X4_adds
theorem dX4_drains_0 : decode cX4_drains 0 = .ok (.aload_n 0, 1) := by decide +kernel
theorem dX4_drains_1 : decode cX4_drains 1 = .ok (.getfield 7, 3) := by decide +kernel
theorem dX4_drains_4 : decode cX4_drains 4 = .ok (.iconst 0, 1) := by decide +kernel
theorem dX4_drains_5 : decode cX4_drains 5 = .ok (.iaload, 1) := by decide +kernel
theorem dX4_drains_6 : decode cX4_drains 6 = .ok (.istore_n 1, 1) := by decide +kernel
theorem dX4_drains_7 : decode cX4_drains 7 = .ok (.iconst 0, 1) := by decide +kernel
theorem dX4_drains_8 : decode cX4_drains 8 = .ok (.istore_n 2, 1) := by decide +kernel
theorem dX4_drains_9 : decode cX4_drains 9 = .ok (.iconst 0, 1) := by decide +kernel
theorem dX4_drains_10 : decode cX4_drains 10 = .ok (.istore_n 3, 1) := by decide +kernel
theorem dX4_drains_11 : decode cX4_drains 11 = .ok (.iload_n 3, 1) := by decide +kernel
theorem dX4_drains_12 : decode cX4_drains 12 = .ok (.bipush 6, 2) := by decide +kernel
theorem dX4_drains_14 : decode cX4_drains 14 = .ok (.if_icmp .ge 105, 3) := by decide +kernel
theorem dX4_drains_17 : decode cX4_drains 17 = .ok (.aload_n 0, 1) := by decide +kernel
theorem dX4_drains_18 : decode cX4_drains 18 = .ok (.iload_n 3, 1) := by decide +kernel
theorem dX4_drains_19 : decode cX4_drains 19 = .ok (.invokevirtual 47, 3) := by decide +kernel
theorem dX4_drains_22 : decode cX4_drains 22 = .ok (.aload_n 0, 1) := by decide +kernel
theorem dX4_drains_23 : decode cX4_drains 23 = .ok (.iload_n 3, 1) := by decide +kernel
theorem dX4_drains_24 : decode cX4_drains 24 = .ok (.iconst 4, 1) := by decide +kernel
theorem dX4_drains_25 : decode cX4_drains 25 = .ok (.invokevirtual 36, 3) := by decide +kernel
theorem dX4_drains_28 : decode cX4_drains 28 = .ok (.if_icmp .ge 11, 3) := by decide +kernel
theorem dX4_drains_31 : decode cX4_drains 31 = .ok (.aload_n 0, 1) := by decide +kernel
theorem dX4_drains_32 : decode cX4_drains 32 = .ok (.iload_n 3, 1) := by decide +kernel
theorem dX4_drains_33 : decode cX4_drains 33 = .ok (.invokevirtual 47, 3) := by decide +kernel
theorem dX4_drains_36 : decode cX4_drains 36 = .ok (.goto 9, 3) := by decide +kernel
theorem dX4_drains_39 : decode cX4_drains 39 = .ok (.aload_n 0, 1) := by decide +kernel
theorem dX4_drains_40 : decode cX4_drains 40 = .ok (.iload_n 3, 1) := by decide +kernel
theorem dX4_drains_41 : decode cX4_drains 41 = .ok (.iconst 4, 1) := by decide +kernel
theorem dX4_drains_42 : decode cX4_drains 42 = .ok (.invokevirtual 36, 3) := by decide +kernel
theorem dX4_drains_45 : decode cX4_drains 45 = .ok (.istore 4, 2) := by decide +kernel
theorem dX4_drains_47 : decode cX4_drains 47 = .ok (.iload 4, 2) := by decide +kernel
theorem dX4_drains_49 : decode cX4_drains 49 = .ok (.iload_n 1, 1) := by decide +kernel
theorem dX4_drains_50 : decode cX4_drains 50 = .ok (.if_icmp .ge 8, 3) := by decide +kernel
theorem dX4_drains_53 : decode cX4_drains 53 = .ok (.iload 4, 2) := by decide +kernel
theorem dX4_drains_55 : decode cX4_drains 55 = .ok (.goto 4, 3) := by decide +kernel
theorem dX4_drains_58 : decode cX4_drains 58 = .ok (.iload_n 1, 1) := by decide +kernel
theorem dX4_drains_59 : decode cX4_drains 59 = .ok (.istore 5, 2) := by decide +kernel
theorem dX4_drains_61 : decode cX4_drains 61 = .ok (.iload_n 2, 1) := by decide +kernel
theorem dX4_drains_62 : decode cX4_drains 62 = .ok (.ifCond .ne 10, 3) := by decide +kernel
theorem dX4_drains_65 : decode cX4_drains 65 = .ok (.iload 5, 2) := by decide +kernel
theorem dX4_drains_67 : decode cX4_drains 67 = .ok (.iload 4, 2) := by decide +kernel
theorem dX4_drains_69 : decode cX4_drains 69 = .ok (.if_icmp .ge 7, 3) := by decide +kernel
theorem dX4_drains_72 : decode cX4_drains 72 = .ok (.iconst 1, 1) := by decide +kernel
theorem dX4_drains_73 : decode cX4_drains 73 = .ok (.goto 4, 3) := by decide +kernel
theorem dX4_drains_76 : decode cX4_drains 76 = .ok (.iconst 0, 1) := by decide +kernel
theorem dX4_drains_77 : decode cX4_drains 77 = .ok (.istore_n 2, 1) := by decide +kernel
theorem dX4_drains_78 : decode cX4_drains 78 = .ok (.iload_n 1, 1) := by decide +kernel
theorem dX4_drains_79 : decode cX4_drains 79 = .ok (.iload 5, 2) := by decide +kernel
theorem dX4_drains_81 : decode cX4_drains 81 = .ok (.isub, 1) := by decide +kernel
theorem dX4_drains_82 : decode cX4_drains 82 = .ok (.istore_n 1, 1) := by decide +kernel
theorem dX4_drains_83 : decode cX4_drains 83 = .ok (.aload_n 0, 1) := by decide +kernel
theorem dX4_drains_84 : decode cX4_drains 84 = .ok (.iload_n 3, 1) := by decide +kernel
theorem dX4_drains_85 : decode cX4_drains 85 = .ok (.iconst 4, 1) := by decide +kernel
theorem dX4_drains_86 : decode cX4_drains 86 = .ok (.iload 5, 2) := by decide +kernel
theorem dX4_drains_88 : decode cX4_drains 88 = .ok (.ineg, 1) := by decide +kernel
theorem dX4_drains_89 : decode cX4_drains 89 = .ok (.invokevirtual 43, 3) := by decide +kernel
theorem dX4_drains_92 : decode cX4_drains 92 = .ok (.aload_n 0, 1) := by decide +kernel
theorem dX4_drains_93 : decode cX4_drains 93 = .ok (.iload_n 3, 1) := by decide +kernel
theorem dX4_drains_94 : decode cX4_drains 94 = .ok (.bipush 6, 2) := by decide +kernel
theorem dX4_drains_96 : decode cX4_drains 96 = .ok (.iload 5, 2) := by decide +kernel
theorem dX4_drains_98 : decode cX4_drains 98 = .ok (.invokevirtual 43, 3) := by decide +kernel
theorem dX4_drains_101 : decode cX4_drains 101 = .ok (.aload_n 0, 1) := by decide +kernel
theorem dX4_drains_102 : decode cX4_drains 102 = .ok (.getfield 7, 3) := by decide +kernel
theorem dX4_drains_105 : decode cX4_drains 105 = .ok (.bipush 6, 2) := by decide +kernel
theorem dX4_drains_107 : decode cX4_drains 107 = .ok (.dup2, 1) := by decide +kernel
theorem dX4_drains_108 : decode cX4_drains 108 = .ok (.iaload, 1) := by decide +kernel
theorem dX4_drains_109 : decode cX4_drains 109 = .ok (.iload 5, 2) := by decide +kernel
theorem dX4_drains_111 : decode cX4_drains 111 = .ok (.iadd, 1) := by decide +kernel
theorem dX4_drains_112 : decode cX4_drains 112 = .ok (.iastore, 1) := by decide +kernel
theorem dX4_drains_113 : decode cX4_drains 113 = .ok (.iinc 3 1, 3) := by decide +kernel
theorem dX4_drains_116 : decode cX4_drains 116 = .ok (.goto (-105), 3) := by decide +kernel
theorem dX4_drains_119 : decode cX4_drains 119 = .ok (.iload_n 2, 1) := by decide +kernel
theorem dX4_drains_120 : decode cX4_drains 120 = .ok (.ireturn, 1) := by decide +kernel
set_option maxRecDepth 20000 in
theorem ggX4_flowsOver_X4_of : GoodIn wsX4_flowsOver wsX4_of := goodIn_r _ [6, 1, 15, 16, 17, 18, 19, 20, 21, 22, 23, 24, 25, 26] (by decide +kernel) (by decide +kernel)
set_option maxRecDepth 20000 in
theorem gX4_flowsOver_X4_of : GoodIn wsX4_flowsOver (wsV RX4 36 RX4 yX4_of wsX4_of) := goodIn_app (goodIn_of _ (by decide +kernel)) ggX4_flowsOver_X4_of
set_option maxRecDepth 20000 in
theorem ggX4_flowsOver_X4_room : GoodIn wsX4_flowsOver wsX4_room := goodIn_r _ [10, 2, 3, 4, 5, 6, 1, 15, 16, 17, 18, 19, 20, 21, 22, 23, 24, 25, 26] (by decide +kernel) (by decide +kernel)
set_option maxRecDepth 20000 in
theorem gX4_flowsOver_X4_room : GoodIn wsX4_flowsOver (wsV RX4 51 RX4 yX4_room wsX4_room) := goodIn_app (goodIn_of _ (by decide +kernel)) ggX4_flowsOver_X4_room
set_option maxRecDepth 20000 in
theorem ggX4_flowsOver_X4_adds : GoodIn wsX4_flowsOver wsX4_adds := goodIn_r _ [14, 1, 15, 16, 17, 18, 19, 20, 21, 22, 23, 24, 25, 26] (by decide +kernel) (by decide +kernel)
set_option maxRecDepth 20000 in
theorem gX4_flowsOver_X4_adds : GoodIn wsX4_flowsOver (wsV RX4 43 RX4 yX4_adds wsX4_adds) := goodIn_app (goodIn_of _ (by decide +kernel)) ggX4_flowsOver_X4_adds
theorem dX4_flowsOver_0 : decode cX4_flowsOver 0 = .ok (.aload_n 0, 1) := by decide +kernel
theorem dX4_flowsOver_1 : decode cX4_flowsOver 1 = .ok (.iload_n 1, 1) := by decide +kernel
theorem dX4_flowsOver_2 : decode cX4_flowsOver 2 = .ok (.iconst 4, 1) := by decide +kernel
theorem dX4_flowsOver_3 : decode cX4_flowsOver 3 = .ok (.invokevirtual 36, 3) := by decide +kernel
theorem dX4_flowsOver_6 : decode cX4_flowsOver 6 = .ok (.aload_n 0, 1) := by decide +kernel
theorem dX4_flowsOver_7 : decode cX4_flowsOver 7 = .ok (.iload_n 1, 1) := by decide +kernel
theorem dX4_flowsOver_8 : decode cX4_flowsOver 8 = .ok (.invokevirtual 51, 3) := by decide +kernel
theorem dX4_flowsOver_11 : decode cX4_flowsOver 11 = .ok (.isub, 1) := by decide +kernel
theorem dX4_flowsOver_12 : decode cX4_flowsOver 12 = .ok (.istore_n 2, 1) := by decide +kernel
theorem dX4_flowsOver_13 : decode cX4_flowsOver 13 = .ok (.iload_n 2, 1) := by decide +kernel
theorem dX4_flowsOver_14 : decode cX4_flowsOver 14 = .ok (.ifCond .le 55, 3) := by decide +kernel
theorem dX4_flowsOver_17 : decode cX4_flowsOver 17 = .ok (.aload_n 0, 1) := by decide +kernel
theorem dX4_flowsOver_18 : decode cX4_flowsOver 18 = .ok (.iload_n 1, 1) := by decide +kernel
theorem dX4_flowsOver_19 : decode cX4_flowsOver 19 = .ok (.iconst 4, 1) := by decide +kernel
theorem dX4_flowsOver_20 : decode cX4_flowsOver 20 = .ok (.iload_n 2, 1) := by decide +kernel
theorem dX4_flowsOver_21 : decode cX4_flowsOver 21 = .ok (.ineg, 1) := by decide +kernel
theorem dX4_flowsOver_22 : decode cX4_flowsOver 22 = .ok (.invokevirtual 43, 3) := by decide +kernel
theorem dX4_flowsOver_25 : decode cX4_flowsOver 25 = .ok (.aload_n 0, 1) := by decide +kernel
theorem dX4_flowsOver_26 : decode cX4_flowsOver 26 = .ok (.iload_n 1, 1) := by decide +kernel
theorem dX4_flowsOver_27 : decode cX4_flowsOver 27 = .ok (.iconst 3, 1) := by decide +kernel
theorem dX4_flowsOver_28 : decode cX4_flowsOver 28 = .ok (.invokevirtual 36, 3) := by decide +kernel
theorem dX4_flowsOver_31 : decode cX4_flowsOver 31 = .ok (.ifCond .le 20, 3) := by decide +kernel
theorem dX4_flowsOver_34 : decode cX4_flowsOver 34 = .ok (.aload_n 0, 1) := by decide +kernel
theorem dX4_flowsOver_35 : decode cX4_flowsOver 35 = .ok (.aload_n 0, 1) := by decide +kernel
theorem dX4_flowsOver_36 : decode cX4_flowsOver 36 = .ok (.iload_n 1, 1) := by decide +kernel
theorem dX4_flowsOver_37 : decode cX4_flowsOver 37 = .ok (.iconst 3, 1) := by decide +kernel
theorem dX4_flowsOver_38 : decode cX4_flowsOver 38 = .ok (.invokevirtual 36, 3) := by decide +kernel
theorem dX4_flowsOver_41 : decode cX4_flowsOver 41 = .ok (.iconst 1, 1) := by decide +kernel
theorem dX4_flowsOver_42 : decode cX4_flowsOver 42 = .ok (.isub, 1) := by decide +kernel
theorem dX4_flowsOver_43 : decode cX4_flowsOver 43 = .ok (.iconst 4, 1) := by decide +kernel
theorem dX4_flowsOver_44 : decode cX4_flowsOver 44 = .ok (.iload_n 2, 1) := by decide +kernel
theorem dX4_flowsOver_45 : decode cX4_flowsOver 45 = .ok (.invokevirtual 43, 3) := by decide +kernel
theorem dX4_flowsOver_48 : decode cX4_flowsOver 48 = .ok (.goto 21, 3) := by decide +kernel
theorem dX4_flowsOver_51 : decode cX4_flowsOver 51 = .ok (.aload_n 0, 1) := by decide +kernel
theorem dX4_flowsOver_52 : decode cX4_flowsOver 52 = .ok (.iload_n 1, 1) := by decide +kernel
theorem dX4_flowsOver_53 : decode cX4_flowsOver 53 = .ok (.iconst 5, 1) := by decide +kernel
theorem dX4_flowsOver_54 : decode cX4_flowsOver 54 = .ok (.iload_n 2, 1) := by decide +kernel
theorem dX4_flowsOver_55 : decode cX4_flowsOver 55 = .ok (.invokevirtual 43, 3) := by decide +kernel
theorem dX4_flowsOver_58 : decode cX4_flowsOver 58 = .ok (.aload_n 0, 1) := by decide +kernel
theorem dX4_flowsOver_59 : decode cX4_flowsOver 59 = .ok (.getfield 7, 3) := by decide +kernel
theorem dX4_flowsOver_62 : decode cX4_flowsOver 62 = .ok (.bipush 7, 2) := by decide +kernel
theorem dX4_flowsOver_64 : decode cX4_flowsOver 64 = .ok (.dup2, 1) := by decide +kernel
theorem dX4_flowsOver_65 : decode cX4_flowsOver 65 = .ok (.iaload, 1) := by decide +kernel
theorem dX4_flowsOver_66 : decode cX4_flowsOver 66 = .ok (.iload_n 2, 1) := by decide +kernel
theorem dX4_flowsOver_67 : decode cX4_flowsOver 67 = .ok (.iadd, 1) := by decide +kernel
theorem dX4_flowsOver_68 : decode cX4_flowsOver 68 = .ok (.iastore, 1) := by decide +kernel
theorem dX4_flowsOver_69 : decode cX4_flowsOver 69 = .ok (.return_, 1) := by decide +kernel
set_option maxRecDepth 20000 in
theorem ggX4_minute_X4_sends : GoodIn wsX4_minute wsX4_sends := goodIn_r _ [6, 1, 7, 8, 9, 5, 10, 11, 12, 13, 14, 35, 36, 37, 38, 39, 40, 41, 42, 43, 44, 45, 46] (by decide +kernel) (by decide +kernel)
set_option maxRecDepth 20000 in
theorem gX4_minute_X4_sends : GoodIn wsX4_minute (wsV RX4 54 RX4 yX4_sends wsX4_sends) := goodIn_app (goodIn_of _ (by decide +kernel)) ggX4_minute_X4_sends
set_option maxRecDepth 20000 in
theorem ggX4_minute_X4_drains : GoodIn wsX4_minute wsX4_drains := goodIn_r _ [18, 1, 19, 20, 21, 5, 22, 23, 24, 25, 26, 11, 12, 13, 14, 35, 36, 37, 38, 39, 40, 41, 42, 43, 44, 45, 46] (by decide +kernel) (by decide +kernel)
set_option maxRecDepth 20000 in
theorem gX4_minute_X4_drains : GoodIn wsX4_minute (wsV RX4 58 RX4 yX4_drains wsX4_drains) := goodIn_app (goodIn_of _ (by decide +kernel)) ggX4_minute_X4_drains
set_option maxRecDepth 20000 in
theorem ggX4_minute_X4_flowsOver : GoodIn wsX4_minute wsX4_flowsOver := goodIn_r _ [30, 1, 23, 24, 25, 5, 26, 31, 32, 33, 34, 11, 12, 13, 14, 35, 36, 37, 38, 39, 40, 41, 42, 43, 44, 45, 46] (by decide +kernel) (by decide +kernel)
set_option maxRecDepth 20000 in
theorem gX4_minute_X4_flowsOver : GoodIn wsX4_minute (wsV RX4 62 RX4 yX4_flowsOver wsX4_flowsOver) := goodIn_app (goodIn_of _ (by decide +kernel)) ggX4_minute_X4_flowsOver
theorem dX4_minute_0 : decode cX4_minute 0 = .ok (.iconst 0, 1) := by decide +kernel
theorem dX4_minute_1 : decode cX4_minute 1 = .ok (.istore_n 2, 1) := by decide +kernel
theorem dX4_minute_2 : decode cX4_minute 2 = .ok (.iload_n 2, 1) := by decide +kernel
theorem dX4_minute_3 : decode cX4_minute 3 = .ok (.bipush 6, 2) := by decide +kernel
theorem dX4_minute_5 : decode cX4_minute 5 = .ok (.if_icmp .ge 15, 3) := by decide +kernel
theorem dX4_minute_8 : decode cX4_minute 8 = .ok (.aload_n 0, 1) := by decide +kernel
theorem dX4_minute_9 : decode cX4_minute 9 = .ok (.iload_n 2, 1) := by decide +kernel
theorem dX4_minute_10 : decode cX4_minute 10 = .ok (.iload_n 1, 1) := by decide +kernel
theorem dX4_minute_11 : decode cX4_minute 11 = .ok (.invokevirtual 54, 3) := by decide +kernel
theorem dX4_minute_14 : decode cX4_minute 14 = .ok (.iinc 2 1, 3) := by decide +kernel
theorem dX4_minute_17 : decode cX4_minute 17 = .ok (.goto (-15), 3) := by decide +kernel
theorem dX4_minute_20 : decode cX4_minute 20 = .ok (.aload_n 0, 1) := by decide +kernel
theorem dX4_minute_21 : decode cX4_minute 21 = .ok (.getfield 7, 3) := by decide +kernel
theorem dX4_minute_24 : decode cX4_minute 24 = .ok (.bipush 8, 2) := by decide +kernel
theorem dX4_minute_26 : decode cX4_minute 26 = .ok (.dup2, 1) := by decide +kernel
theorem dX4_minute_27 : decode cX4_minute 27 = .ok (.iaload, 1) := by decide +kernel
theorem dX4_minute_28 : decode cX4_minute 28 = .ok (.aload_n 0, 1) := by decide +kernel
theorem dX4_minute_29 : decode cX4_minute 29 = .ok (.invokevirtual 58, 3) := by decide +kernel
theorem dX4_minute_32 : decode cX4_minute 32 = .ok (.ifCond .eq 7, 3) := by decide +kernel
theorem dX4_minute_35 : decode cX4_minute 35 = .ok (.iconst 1, 1) := by decide +kernel
theorem dX4_minute_36 : decode cX4_minute 36 = .ok (.goto 4, 3) := by decide +kernel
theorem dX4_minute_39 : decode cX4_minute 39 = .ok (.iconst 0, 1) := by decide +kernel
theorem dX4_minute_40 : decode cX4_minute 40 = .ok (.iadd, 1) := by decide +kernel
theorem dX4_minute_41 : decode cX4_minute 41 = .ok (.iastore, 1) := by decide +kernel
theorem dX4_minute_42 : decode cX4_minute 42 = .ok (.iconst 0, 1) := by decide +kernel
theorem dX4_minute_43 : decode cX4_minute 43 = .ok (.istore_n 2, 1) := by decide +kernel
theorem dX4_minute_44 : decode cX4_minute 44 = .ok (.iload_n 2, 1) := by decide +kernel
theorem dX4_minute_45 : decode cX4_minute 45 = .ok (.bipush 6, 2) := by decide +kernel
theorem dX4_minute_47 : decode cX4_minute 47 = .ok (.if_icmp .ge 14, 3) := by decide +kernel
theorem dX4_minute_50 : decode cX4_minute 50 = .ok (.aload_n 0, 1) := by decide +kernel
theorem dX4_minute_51 : decode cX4_minute 51 = .ok (.iload_n 2, 1) := by decide +kernel
theorem dX4_minute_52 : decode cX4_minute 52 = .ok (.invokevirtual 62, 3) := by decide +kernel
theorem dX4_minute_55 : decode cX4_minute 55 = .ok (.iinc 2 1, 3) := by decide +kernel
theorem dX4_minute_58 : decode cX4_minute 58 = .ok (.goto (-14), 3) := by decide +kernel
theorem dX4_minute_61 : decode cX4_minute 61 = .ok (.aload_n 0, 1) := by decide +kernel
theorem dX4_minute_62 : decode cX4_minute 62 = .ok (.getfield 7, 3) := by decide +kernel
theorem dX4_minute_65 : decode cX4_minute 65 = .ok (.iconst 3, 1) := by decide +kernel
theorem dX4_minute_66 : decode cX4_minute 66 = .ok (.dup2, 1) := by decide +kernel
theorem dX4_minute_67 : decode cX4_minute 67 = .ok (.iaload, 1) := by decide +kernel
theorem dX4_minute_68 : decode cX4_minute 68 = .ok (.iconst 1, 1) := by decide +kernel
theorem dX4_minute_69 : decode cX4_minute 69 = .ok (.iadd, 1) := by decide +kernel
theorem dX4_minute_70 : decode cX4_minute 70 = .ok (.iastore, 1) := by decide +kernel
theorem dX4_minute_71 : decode cX4_minute 71 = .ok (.return_, 1) := by decide +kernel
set_option maxRecDepth 20000 in
theorem ggX4_rains_X4_minute : GoodIn wsX4_rains wsX4_minute := goodIn_r _ [6, 1, 7, 8, 9, 5, 10, 11, 12, 13, 14, 15, 16, 17, 18, 19, 20, 21, 22, 23, 24, 25, 26, 27, 28, 29, 30, 31, 32, 33, 34, 35, 36, 37, 38, 39, 40, 41, 42, 43, 44, 45, 46, 47, 48, 49, 50] (by decide +kernel) (by decide +kernel)
set_option maxRecDepth 20000 in
theorem gX4_rains_X4_minute : GoodIn wsX4_rains (wsV RX4 66 RX4 yX4_minute wsX4_minute) := goodIn_app (goodIn_of _ (by decide +kernel)) ggX4_rains_X4_minute
theorem dX4_rains_0 : decode cX4_rains 0 = .ok (.aload_n 0, 1) := by decide +kernel
theorem dX4_rains_1 : decode cX4_rains 1 = .ok (.getfield 7, 3) := by decide +kernel
theorem dX4_rains_4 : decode cX4_rains 4 = .ok (.bipush 7, 2) := by decide +kernel
theorem dX4_rains_6 : decode cX4_rains 6 = .ok (.iaload, 1) := by decide +kernel
theorem dX4_rains_7 : decode cX4_rains 7 = .ok (.istore_n 3, 1) := by decide +kernel
theorem dX4_rains_8 : decode cX4_rains 8 = .ok (.iconst 0, 1) := by decide +kernel
theorem dX4_rains_9 : decode cX4_rains 9 = .ok (.istore 4, 2) := by decide +kernel
theorem dX4_rains_11 : decode cX4_rains 11 = .ok (.iload 4, 2) := by decide +kernel
theorem dX4_rains_13 : decode cX4_rains 13 = .ok (.iload_n 2, 1) := by decide +kernel
theorem dX4_rains_14 : decode cX4_rains 14 = .ok (.if_icmp .ge 14, 3) := by decide +kernel
theorem dX4_rains_17 : decode cX4_rains 17 = .ok (.aload_n 0, 1) := by decide +kernel
theorem dX4_rains_18 : decode cX4_rains 18 = .ok (.iload_n 1, 1) := by decide +kernel
theorem dX4_rains_19 : decode cX4_rains 19 = .ok (.invokevirtual 66, 3) := by decide +kernel
theorem dX4_rains_22 : decode cX4_rains 22 = .ok (.iinc 4 1, 3) := by decide +kernel
theorem dX4_rains_25 : decode cX4_rains 25 = .ok (.goto (-14), 3) := by decide +kernel
theorem dX4_rains_28 : decode cX4_rains 28 = .ok (.aload_n 0, 1) := by decide +kernel
theorem dX4_rains_29 : decode cX4_rains 29 = .ok (.getfield 7, 3) := by decide +kernel
theorem dX4_rains_32 : decode cX4_rains 32 = .ok (.bipush 7, 2) := by decide +kernel
theorem dX4_rains_34 : decode cX4_rains 34 = .ok (.iaload, 1) := by decide +kernel
theorem dX4_rains_35 : decode cX4_rains 35 = .ok (.iload_n 3, 1) := by decide +kernel
theorem dX4_rains_36 : decode cX4_rains 36 = .ok (.isub, 1) := by decide +kernel
theorem dX4_rains_37 : decode cX4_rains 37 = .ok (.ireturn, 1) := by decide +kernel
set_option maxRecDepth 20000 in
theorem ggX4_week_X4_of : GoodIn wsX4_week wsX4_of := goodIn_r _ [6, 1, 7, 8, 9, 10, 11, 12, 13, 14, 15, 16, 17, 18] (by decide +kernel) (by decide +kernel)
set_option maxRecDepth 20000 in
theorem gX4_week_X4_of : GoodIn wsX4_week (wsV RX4 36 RX4 yX4_of wsX4_of) := goodIn_app (goodIn_of _ (by decide +kernel)) ggX4_week_X4_of
theorem dX4_week_0 : decode cX4_week 0 = .ok (.iconst 0, 1) := by decide +kernel
theorem dX4_week_1 : decode cX4_week 1 = .ok (.istore_n 1, 1) := by decide +kernel
theorem dX4_week_2 : decode cX4_week 2 = .ok (.iload_n 1, 1) := by decide +kernel
theorem dX4_week_3 : decode cX4_week 3 = .ok (.bipush 6, 2) := by decide +kernel
theorem dX4_week_5 : decode cX4_week 5 = .ok (.if_icmp .ge 49, 3) := by decide +kernel
theorem dX4_week_8 : decode cX4_week 8 = .ok (.aload_n 0, 1) := by decide +kernel
theorem dX4_week_9 : decode cX4_week 9 = .ok (.iload_n 1, 1) := by decide +kernel
theorem dX4_week_10 : decode cX4_week 10 = .ok (.iconst 2, 1) := by decide +kernel
theorem dX4_week_11 : decode cX4_week 11 = .ok (.invokevirtual 36, 3) := by decide +kernel
theorem dX4_week_14 : decode cX4_week 14 = .ok (.aload_n 0, 1) := by decide +kernel
theorem dX4_week_15 : decode cX4_week 15 = .ok (.getfield 7, 3) := by decide +kernel
theorem dX4_week_18 : decode cX4_week 18 = .ok (.iconst 1, 1) := by decide +kernel
theorem dX4_week_19 : decode cX4_week 19 = .ok (.iaload, 1) := by decide +kernel
theorem dX4_week_20 : decode cX4_week 20 = .ok (.iadd, 1) := by decide +kernel
theorem dX4_week_21 : decode cX4_week 21 = .ok (.istore_n 2, 1) := by decide +kernel
theorem dX4_week_22 : decode cX4_week 22 = .ok (.aload_n 0, 1) := by decide +kernel
theorem dX4_week_23 : decode cX4_week 23 = .ok (.getfield 7, 3) := by decide +kernel
theorem dX4_week_26 : decode cX4_week 26 = .ok (.bipush 33, 2) := by decide +kernel
theorem dX4_week_28 : decode cX4_week 28 = .ok (.bipush 7, 2) := by decide +kernel
theorem dX4_week_30 : decode cX4_week 30 = .ok (.iload_n 1, 1) := by decide +kernel
theorem dX4_week_31 : decode cX4_week 31 = .ok (.imul, 1) := by decide +kernel
theorem dX4_week_32 : decode cX4_week 32 = .ok (.iadd, 1) := by decide +kernel
theorem dX4_week_33 : decode cX4_week 33 = .ok (.iconst 2, 1) := by decide +kernel
theorem dX4_week_34 : decode cX4_week 34 = .ok (.iadd, 1) := by decide +kernel
theorem dX4_week_35 : decode cX4_week 35 = .ok (.iload_n 2, 1) := by decide +kernel
theorem dX4_week_36 : decode cX4_week 36 = .ok (.bipush 100, 2) := by decide +kernel
theorem dX4_week_38 : decode cX4_week 38 = .ok (.if_icmp .le 8, 3) := by decide +kernel
theorem dX4_week_41 : decode cX4_week 41 = .ok (.bipush 100, 2) := by decide +kernel
theorem dX4_week_43 : decode cX4_week 43 = .ok (.goto 4, 3) := by decide +kernel
theorem dX4_week_46 : decode cX4_week 46 = .ok (.iload_n 2, 1) := by decide +kernel
theorem dX4_week_47 : decode cX4_week 47 = .ok (.iastore, 1) := by decide +kernel
theorem dX4_week_48 : decode cX4_week 48 = .ok (.iinc 1 1, 3) := by decide +kernel
theorem dX4_week_51 : decode cX4_week 51 = .ok (.goto (-49), 3) := by decide +kernel
theorem dX4_week_54 : decode cX4_week 54 = .ok (.aload_n 0, 1) := by decide +kernel
theorem dX4_week_55 : decode cX4_week 55 = .ok (.getfield 7, 3) := by decide +kernel
theorem dX4_week_58 : decode cX4_week 58 = .ok (.iconst 4, 1) := by decide +kernel
theorem dX4_week_59 : decode cX4_week 59 = .ok (.dup2, 1) := by decide +kernel
theorem dX4_week_60 : decode cX4_week 60 = .ok (.iaload, 1) := by decide +kernel
theorem dX4_week_61 : decode cX4_week 61 = .ok (.iconst 1, 1) := by decide +kernel
theorem dX4_week_62 : decode cX4_week 62 = .ok (.iadd, 1) := by decide +kernel
theorem dX4_week_63 : decode cX4_week 63 = .ok (.iastore, 1) := by decide +kernel
theorem dX4_week_64 : decode cX4_week 64 = .ok (.return_, 1) := by decide +kernel
set_option maxRecDepth 20000 in
theorem ggX4_leaves_X4_of : GoodIn wsX4_leaves wsX4_of := goodIn_r _ [5, 6, 7, 8, 9, 10, 11, 12, 13, 14, 15, 16, 17, 18] (by decide +kernel) (by decide +kernel)
set_option maxRecDepth 20000 in
theorem gX4_leaves_X4_of : GoodIn wsX4_leaves (wsV RX4 36 RX4 yX4_of wsX4_of) := goodIn_app (goodIn_of _ (by decide +kernel)) ggX4_leaves_X4_of
theorem dX4_leaves_0 : decode cX4_leaves 0 = .ok (.iconst 0, 1) := by decide +kernel
theorem dX4_leaves_1 : decode cX4_leaves 1 = .ok (.istore_n 1, 1) := by decide +kernel
theorem dX4_leaves_2 : decode cX4_leaves 2 = .ok (.iconst 0, 1) := by decide +kernel
theorem dX4_leaves_3 : decode cX4_leaves 3 = .ok (.istore_n 2, 1) := by decide +kernel
theorem dX4_leaves_4 : decode cX4_leaves 4 = .ok (.iload_n 2, 1) := by decide +kernel
theorem dX4_leaves_5 : decode cX4_leaves 5 = .ok (.bipush 6, 2) := by decide +kernel
theorem dX4_leaves_7 : decode cX4_leaves 7 = .ok (.if_icmp .ge 18, 3) := by decide +kernel
theorem dX4_leaves_10 : decode cX4_leaves 10 = .ok (.iload_n 1, 1) := by decide +kernel
theorem dX4_leaves_11 : decode cX4_leaves 11 = .ok (.aload_n 0, 1) := by decide +kernel
theorem dX4_leaves_12 : decode cX4_leaves 12 = .ok (.iload_n 2, 1) := by decide +kernel
theorem dX4_leaves_13 : decode cX4_leaves 13 = .ok (.iconst 2, 1) := by decide +kernel
theorem dX4_leaves_14 : decode cX4_leaves 14 = .ok (.invokevirtual 36, 3) := by decide +kernel
theorem dX4_leaves_17 : decode cX4_leaves 17 = .ok (.iadd, 1) := by decide +kernel
theorem dX4_leaves_18 : decode cX4_leaves 18 = .ok (.istore_n 1, 1) := by decide +kernel
theorem dX4_leaves_19 : decode cX4_leaves 19 = .ok (.iinc 2 1, 3) := by decide +kernel
theorem dX4_leaves_22 : decode cX4_leaves 22 = .ok (.goto (-18), 3) := by decide +kernel
theorem dX4_leaves_25 : decode cX4_leaves 25 = .ok (.iload_n 1, 1) := by decide +kernel
theorem dX4_leaves_26 : decode cX4_leaves 26 = .ok (.ireturn, 1) := by decide +kernel
set_option maxRecDepth 20000 in
theorem ggX4_stands_X4_ofPlane : GoodIn wsX4_stands wsX4_ofPlane := goodIn_r _ [5, 6, 11, 12, 13, 14, 15, 16, 17, 18, 19, 20, 21, 22] (by decide +kernel) (by decide +kernel)
set_option maxRecDepth 20000 in
theorem gX4_stands_X4_ofPlane : GoodIn wsX4_stands (wsV RX4 40 RX4 yX4_ofPlane wsX4_ofPlane) := goodIn_app (goodIn_of _ (by decide +kernel)) ggX4_stands_X4_ofPlane
set_option maxRecDepth 20000 in
theorem ggX4_stands_X4_of : GoodIn wsX4_stands wsX4_of := goodIn_r _ [10, 6, 11, 12, 13, 14, 15, 16, 17, 18, 19, 20, 21, 22] (by decide +kernel) (by decide +kernel)
set_option maxRecDepth 20000 in
theorem gX4_stands_X4_of : GoodIn wsX4_stands (wsV RX4 36 RX4 yX4_of wsX4_of) := goodIn_app (goodIn_of _ (by decide +kernel)) ggX4_stands_X4_of
theorem dX4_stands_0 : decode cX4_stands 0 = .ok (.iconst 0, 1) := by decide +kernel
theorem dX4_stands_1 : decode cX4_stands 1 = .ok (.istore_n 1, 1) := by decide +kernel
theorem dX4_stands_2 : decode cX4_stands 2 = .ok (.iconst 0, 1) := by decide +kernel
theorem dX4_stands_3 : decode cX4_stands 3 = .ok (.istore_n 2, 1) := by decide +kernel
theorem dX4_stands_4 : decode cX4_stands 4 = .ok (.iload_n 2, 1) := by decide +kernel
theorem dX4_stands_5 : decode cX4_stands 5 = .ok (.bipush 6, 2) := by decide +kernel
theorem dX4_stands_7 : decode cX4_stands 7 = .ok (.if_icmp .ge 25, 3) := by decide +kernel
theorem dX4_stands_10 : decode cX4_stands 10 = .ok (.iload_n 1, 1) := by decide +kernel
theorem dX4_stands_11 : decode cX4_stands 11 = .ok (.aload_n 0, 1) := by decide +kernel
theorem dX4_stands_12 : decode cX4_stands 12 = .ok (.iload_n 2, 1) := by decide +kernel
theorem dX4_stands_13 : decode cX4_stands 13 = .ok (.iconst 3, 1) := by decide +kernel
theorem dX4_stands_14 : decode cX4_stands 14 = .ok (.invokevirtual 40, 3) := by decide +kernel
theorem dX4_stands_17 : decode cX4_stands 17 = .ok (.aload_n 0, 1) := by decide +kernel
theorem dX4_stands_18 : decode cX4_stands 18 = .ok (.iload_n 2, 1) := by decide +kernel
theorem dX4_stands_19 : decode cX4_stands 19 = .ok (.iconst 4, 1) := by decide +kernel
theorem dX4_stands_20 : decode cX4_stands 20 = .ok (.invokevirtual 36, 3) := by decide +kernel
theorem dX4_stands_23 : decode cX4_stands 23 = .ok (.iadd, 1) := by decide +kernel
theorem dX4_stands_24 : decode cX4_stands 24 = .ok (.iadd, 1) := by decide +kernel
theorem dX4_stands_25 : decode cX4_stands 25 = .ok (.istore_n 1, 1) := by decide +kernel
theorem dX4_stands_26 : decode cX4_stands 26 = .ok (.iinc 2 1, 3) := by decide +kernel
theorem dX4_stands_29 : decode cX4_stands 29 = .ok (.goto (-25), 3) := by decide +kernel
theorem dX4_stands_32 : decode cX4_stands 32 = .ok (.iload_n 1, 1) := by decide +kernel
theorem dX4_stands_33 : decode cX4_stands 33 = .ok (.ireturn, 1) := by decide +kernel
set_option maxRecDepth 20000 in
theorem ggX4_plane_X4_isOne : GoodIn wsX4_plane wsX4_isOne := goodIn_r _ [6, 7, 8, 5, 9] (by decide +kernel) (by decide +kernel)
set_option maxRecDepth 20000 in
theorem gX4_plane_X4_isOne : GoodIn wsX4_plane (va_wsS RX4 69 yX4_isOne wsX4_isOne) := goodIn_app (goodIn_of _ (by decide +kernel)) ggX4_plane_X4_isOne
set_option maxRecDepth 20000 in
theorem ggX4_plane_X4_fails : GoodIn wsX4_plane wsX4_fails := goodIn_r _ [13, 1, 24, 25, 26, 27, 28, 29, 30, 31, 32, 33, 34, 35] (by decide +kernel) (by decide +kernel)
set_option maxRecDepth 20000 in
theorem gX4_plane_X4_fails : GoodIn wsX4_plane (wsV RX4 73 RX4 yX4_fails wsX4_fails) := goodIn_app (goodIn_of _ (by decide +kernel)) ggX4_plane_X4_fails
set_option maxRecDepth 20000 in
theorem ggX4_plane_X4_in : GoodIn wsX4_plane wsX4_in := goodIn_r _ [9] (by decide +kernel) (by decide +kernel)
set_option maxRecDepth 20000 in
theorem gX4_plane_X4_in : GoodIn wsX4_plane (va_wsS RX4 29 yX4_in wsX4_in) := goodIn_app (goodIn_of _ (by decide +kernel)) ggX4_plane_X4_in
set_option maxRecDepth 20000 in
theorem ggX4_plane_X4_saves : GoodIn wsX4_plane wsX4_saves := goodIn_r _ [17, 18, 19, 2, 24, 25, 26, 27, 28, 29, 30, 31, 32, 33, 34, 35] (by decide +kernel) (by decide +kernel)
set_option maxRecDepth 20000 in
theorem gX4_plane_X4_saves : GoodIn wsX4_plane (wsV RX4 76 RX4 yX4_saves wsX4_saves) := goodIn_app (goodIn_of _ (by decide +kernel)) ggX4_plane_X4_saves
set_option maxRecDepth 20000 in
theorem ggX4_plane_X4_ofPlane : GoodIn wsX4_plane wsX4_ofPlane := goodIn_r _ [23, 2, 24, 25, 26, 27, 28, 29, 30, 31, 32, 33, 34, 35] (by decide +kernel) (by decide +kernel)
set_option maxRecDepth 20000 in
theorem gX4_plane_X4_ofPlane : GoodIn wsX4_plane (wsV RX4 40 RX4 yX4_ofPlane wsX4_ofPlane) := goodIn_app (goodIn_of _ (by decide +kernel)) ggX4_plane_X4_ofPlane
theorem dX4_plane_0 : decode cX4_plane 0 = .ok (.aload_n 0, 1) := by decide +kernel
theorem dX4_plane_1 : decode cX4_plane 1 = .ok (.iconst 0, 1) := by decide +kernel
theorem dX4_plane_2 : decode cX4_plane 2 = .ok (.putfield 25, 3) := by decide +kernel
theorem dX4_plane_5 : decode cX4_plane 5 = .ok (.iload_n 1, 1) := by decide +kernel
theorem dX4_plane_6 : decode cX4_plane 6 = .ok (.invokestatic 69, 3) := by decide +kernel
theorem dX4_plane_9 : decode cX4_plane 9 = .ok (.ifCond .eq 11, 3) := by decide +kernel
theorem dX4_plane_12 : decode cX4_plane 12 = .ok (.iload 4, 2) := by decide +kernel
theorem dX4_plane_14 : decode cX4_plane 14 = .ok (.invokestatic 69, 3) := by decide +kernel
theorem dX4_plane_17 : decode cX4_plane 17 = .ok (.ifCond .ne 9, 3) := by decide +kernel
theorem dX4_plane_20 : decode cX4_plane 20 = .ok (.aload_n 0, 1) := by decide +kernel
theorem dX4_plane_21 : decode cX4_plane 21 = .ok (.iconst 1, 1) := by decide +kernel
theorem dX4_plane_22 : decode cX4_plane 22 = .ok (.invokevirtual 73, 3) := by decide +kernel
theorem dX4_plane_25 : decode cX4_plane 25 = .ok (.ireturn, 1) := by decide +kernel
theorem dX4_plane_26 : decode cX4_plane 26 = .ok (.iload_n 2, 1) := by decide +kernel
theorem dX4_plane_27 : decode cX4_plane 27 = .ok (.iconst 0, 1) := by decide +kernel
theorem dX4_plane_28 : decode cX4_plane 28 = .ok (.sipush 200, 3) := by decide +kernel
theorem dX4_plane_31 : decode cX4_plane 31 = .ok (.invokestatic 29, 3) := by decide +kernel
theorem dX4_plane_34 : decode cX4_plane 34 = .ok (.ifCond .eq 13, 3) := by decide +kernel
theorem dX4_plane_37 : decode cX4_plane 37 = .ok (.iload_n 3, 1) := by decide +kernel
theorem dX4_plane_38 : decode cX4_plane 38 = .ok (.iconst 0, 1) := by decide +kernel
theorem dX4_plane_39 : decode cX4_plane 39 = .ok (.bipush 9, 2) := by decide +kernel
theorem dX4_plane_41 : decode cX4_plane 41 = .ok (.invokestatic 29, 3) := by decide +kernel
theorem dX4_plane_44 : decode cX4_plane 44 = .ok (.ifCond .ne 9, 3) := by decide +kernel
theorem dX4_plane_47 : decode cX4_plane 47 = .ok (.aload_n 0, 1) := by decide +kernel
theorem dX4_plane_48 : decode cX4_plane 48 = .ok (.iconst 2, 1) := by decide +kernel
theorem dX4_plane_49 : decode cX4_plane 49 = .ok (.invokevirtual 73, 3) := by decide +kernel
theorem dX4_plane_52 : decode cX4_plane 52 = .ok (.ireturn, 1) := by decide +kernel
theorem dX4_plane_53 : decode cX4_plane 53 = .ok (.aload_n 0, 1) := by decide +kernel
theorem dX4_plane_54 : decode cX4_plane 54 = .ok (.invokevirtual 76, 3) := by decide +kernel
theorem dX4_plane_57 : decode cX4_plane 57 = .ok (.aload_n 0, 1) := by decide +kernel
theorem dX4_plane_58 : decode cX4_plane 58 = .ok (.iload_n 1, 1) := by decide +kernel
theorem dX4_plane_59 : decode cX4_plane 59 = .ok (.iconst 0, 1) := by decide +kernel
theorem dX4_plane_60 : decode cX4_plane 60 = .ok (.invokevirtual 40, 3) := by decide +kernel
theorem dX4_plane_63 : decode cX4_plane 63 = .ok (.istore 5, 2) := by decide +kernel
theorem dX4_plane_65 : decode cX4_plane 65 = .ok (.aload_n 0, 1) := by decide +kernel
theorem dX4_plane_66 : decode cX4_plane 66 = .ok (.getfield 7, 3) := by decide +kernel
theorem dX4_plane_69 : decode cX4_plane 69 = .ok (.bipush 9, 2) := by decide +kernel
theorem dX4_plane_71 : decode cX4_plane 71 = .ok (.iconst 4, 1) := by decide +kernel
theorem dX4_plane_72 : decode cX4_plane 72 = .ok (.iload_n 1, 1) := by decide +kernel
theorem dX4_plane_73 : decode cX4_plane 73 = .ok (.imul, 1) := by decide +kernel
theorem dX4_plane_74 : decode cX4_plane 74 = .ok (.iadd, 1) := by decide +kernel
theorem dX4_plane_75 : decode cX4_plane 75 = .ok (.iconst 0, 1) := by decide +kernel
theorem dX4_plane_76 : decode cX4_plane 76 = .ok (.iadd, 1) := by decide +kernel
theorem dX4_plane_77 : decode cX4_plane 77 = .ok (.iload_n 2, 1) := by decide +kernel
theorem dX4_plane_78 : decode cX4_plane 78 = .ok (.iastore, 1) := by decide +kernel
theorem dX4_plane_79 : decode cX4_plane 79 = .ok (.aload_n 0, 1) := by decide +kernel
theorem dX4_plane_80 : decode cX4_plane 80 = .ok (.getfield 7, 3) := by decide +kernel
theorem dX4_plane_83 : decode cX4_plane 83 = .ok (.bipush 9, 2) := by decide +kernel
theorem dX4_plane_85 : decode cX4_plane 85 = .ok (.iconst 4, 1) := by decide +kernel
theorem dX4_plane_86 : decode cX4_plane 86 = .ok (.iload_n 1, 1) := by decide +kernel
theorem dX4_plane_87 : decode cX4_plane 87 = .ok (.imul, 1) := by decide +kernel
theorem dX4_plane_88 : decode cX4_plane 88 = .ok (.iadd, 1) := by decide +kernel
theorem dX4_plane_89 : decode cX4_plane 89 = .ok (.iconst 1, 1) := by decide +kernel
theorem dX4_plane_90 : decode cX4_plane 90 = .ok (.iadd, 1) := by decide +kernel
theorem dX4_plane_91 : decode cX4_plane 91 = .ok (.iload_n 3, 1) := by decide +kernel
theorem dX4_plane_92 : decode cX4_plane 92 = .ok (.iastore, 1) := by decide +kernel
theorem dX4_plane_93 : decode cX4_plane 93 = .ok (.aload_n 0, 1) := by decide +kernel
theorem dX4_plane_94 : decode cX4_plane 94 = .ok (.getfield 7, 3) := by decide +kernel
theorem dX4_plane_97 : decode cX4_plane 97 = .ok (.bipush 9, 2) := by decide +kernel
theorem dX4_plane_99 : decode cX4_plane 99 = .ok (.iconst 4, 1) := by decide +kernel
theorem dX4_plane_100 : decode cX4_plane 100 = .ok (.iload_n 1, 1) := by decide +kernel
theorem dX4_plane_101 : decode cX4_plane 101 = .ok (.imul, 1) := by decide +kernel
theorem dX4_plane_102 : decode cX4_plane 102 = .ok (.iadd, 1) := by decide +kernel
theorem dX4_plane_103 : decode cX4_plane 103 = .ok (.iconst 2, 1) := by decide +kernel
theorem dX4_plane_104 : decode cX4_plane 104 = .ok (.iadd, 1) := by decide +kernel
theorem dX4_plane_105 : decode cX4_plane 105 = .ok (.iload 4, 2) := by decide +kernel
theorem dX4_plane_107 : decode cX4_plane 107 = .ok (.iastore, 1) := by decide +kernel
theorem dX4_plane_108 : decode cX4_plane 108 = .ok (.iload 5, 2) := by decide +kernel
theorem dX4_plane_110 : decode cX4_plane 110 = .ok (.ireturn, 1) := by decide +kernel
set_option maxRecDepth 20000 in
theorem ggX4_gutter_X4_isOne : GoodIn wsX4_gutter wsX4_isOne := goodIn_r _ [6, 7, 8, 5, 9] (by decide +kernel) (by decide +kernel)
set_option maxRecDepth 20000 in
theorem gX4_gutter_X4_isOne : GoodIn wsX4_gutter (va_wsS RX4 69 yX4_isOne wsX4_isOne) := goodIn_app (goodIn_of _ (by decide +kernel)) ggX4_gutter_X4_isOne
set_option maxRecDepth 20000 in
theorem ggX4_gutter_X4_fails : GoodIn wsX4_gutter wsX4_fails := goodIn_r _ [13, 1, 24, 25, 26, 27, 28, 29, 30, 31, 32, 33, 34, 35] (by decide +kernel) (by decide +kernel)
set_option maxRecDepth 20000 in
theorem gX4_gutter_X4_fails : GoodIn wsX4_gutter (wsV RX4 73 RX4 yX4_fails wsX4_fails) := goodIn_app (goodIn_of _ (by decide +kernel)) ggX4_gutter_X4_fails
set_option maxRecDepth 20000 in
theorem ggX4_gutter_X4_in : GoodIn wsX4_gutter wsX4_in := goodIn_r _ [9] (by decide +kernel) (by decide +kernel)
set_option maxRecDepth 20000 in
theorem gX4_gutter_X4_in : GoodIn wsX4_gutter (va_wsS RX4 29 yX4_in wsX4_in) := goodIn_app (goodIn_of _ (by decide +kernel)) ggX4_gutter_X4_in
set_option maxRecDepth 20000 in
theorem ggX4_gutter_X4_saves : GoodIn wsX4_gutter wsX4_saves := goodIn_r _ [17, 18, 19, 2, 24, 25, 26, 27, 28, 29, 30, 31, 32, 33, 34, 35] (by decide +kernel) (by decide +kernel)
set_option maxRecDepth 20000 in
theorem gX4_gutter_X4_saves : GoodIn wsX4_gutter (wsV RX4 76 RX4 yX4_saves wsX4_saves) := goodIn_app (goodIn_of _ (by decide +kernel)) ggX4_gutter_X4_saves
set_option maxRecDepth 20000 in
theorem ggX4_gutter_X4_of : GoodIn wsX4_gutter wsX4_of := goodIn_r _ [23, 2, 24, 25, 26, 27, 28, 29, 30, 31, 32, 33, 34, 35] (by decide +kernel) (by decide +kernel)
set_option maxRecDepth 20000 in
theorem gX4_gutter_X4_of : GoodIn wsX4_gutter (wsV RX4 36 RX4 yX4_of wsX4_of) := goodIn_app (goodIn_of _ (by decide +kernel)) ggX4_gutter_X4_of
theorem dX4_gutter_0 : decode cX4_gutter 0 = .ok (.aload_n 0, 1) := by decide +kernel
theorem dX4_gutter_1 : decode cX4_gutter 1 = .ok (.iconst 0, 1) := by decide +kernel
theorem dX4_gutter_2 : decode cX4_gutter 2 = .ok (.putfield 25, 3) := by decide +kernel
theorem dX4_gutter_5 : decode cX4_gutter 5 = .ok (.iload_n 1, 1) := by decide +kernel
theorem dX4_gutter_6 : decode cX4_gutter 6 = .ok (.invokestatic 69, 3) := by decide +kernel
theorem dX4_gutter_9 : decode cX4_gutter 9 = .ok (.ifCond .ne 9, 3) := by decide +kernel
theorem dX4_gutter_12 : decode cX4_gutter 12 = .ok (.aload_n 0, 1) := by decide +kernel
theorem dX4_gutter_13 : decode cX4_gutter 13 = .ok (.iconst 1, 1) := by decide +kernel
theorem dX4_gutter_14 : decode cX4_gutter 14 = .ok (.invokevirtual 73, 3) := by decide +kernel
theorem dX4_gutter_17 : decode cX4_gutter 17 = .ok (.ireturn, 1) := by decide +kernel
theorem dX4_gutter_18 : decode cX4_gutter 18 = .ok (.iload_n 2, 1) := by decide +kernel
theorem dX4_gutter_19 : decode cX4_gutter 19 = .ok (.iconst 1, 1) := by decide +kernel
theorem dX4_gutter_20 : decode cX4_gutter 20 = .ok (.sipush 500, 3) := by decide +kernel
theorem dX4_gutter_23 : decode cX4_gutter 23 = .ok (.invokestatic 29, 3) := by decide +kernel
theorem dX4_gutter_26 : decode cX4_gutter 26 = .ok (.ifCond .eq 13, 3) := by decide +kernel
theorem dX4_gutter_29 : decode cX4_gutter 29 = .ok (.iload_n 3, 1) := by decide +kernel
theorem dX4_gutter_30 : decode cX4_gutter 30 = .ok (.iconst 0, 1) := by decide +kernel
theorem dX4_gutter_31 : decode cX4_gutter 31 = .ok (.bipush 99, 2) := by decide +kernel
theorem dX4_gutter_33 : decode cX4_gutter 33 = .ok (.invokestatic 29, 3) := by decide +kernel
theorem dX4_gutter_36 : decode cX4_gutter 36 = .ok (.ifCond .ne 9, 3) := by decide +kernel
theorem dX4_gutter_39 : decode cX4_gutter 39 = .ok (.aload_n 0, 1) := by decide +kernel
theorem dX4_gutter_40 : decode cX4_gutter 40 = .ok (.iconst 2, 1) := by decide +kernel
theorem dX4_gutter_41 : decode cX4_gutter 41 = .ok (.invokevirtual 73, 3) := by decide +kernel
theorem dX4_gutter_44 : decode cX4_gutter 44 = .ok (.ireturn, 1) := by decide +kernel
theorem dX4_gutter_45 : decode cX4_gutter 45 = .ok (.aload_n 0, 1) := by decide +kernel
theorem dX4_gutter_46 : decode cX4_gutter 46 = .ok (.invokevirtual 76, 3) := by decide +kernel
theorem dX4_gutter_49 : decode cX4_gutter 49 = .ok (.aload_n 0, 1) := by decide +kernel
theorem dX4_gutter_50 : decode cX4_gutter 50 = .ok (.iload_n 1, 1) := by decide +kernel
theorem dX4_gutter_51 : decode cX4_gutter 51 = .ok (.iconst 0, 1) := by decide +kernel
theorem dX4_gutter_52 : decode cX4_gutter 52 = .ok (.invokevirtual 36, 3) := by decide +kernel
theorem dX4_gutter_55 : decode cX4_gutter 55 = .ok (.istore 4, 2) := by decide +kernel
theorem dX4_gutter_57 : decode cX4_gutter 57 = .ok (.aload_n 0, 1) := by decide +kernel
theorem dX4_gutter_58 : decode cX4_gutter 58 = .ok (.getfield 7, 3) := by decide +kernel
theorem dX4_gutter_61 : decode cX4_gutter 61 = .ok (.bipush 33, 2) := by decide +kernel
theorem dX4_gutter_63 : decode cX4_gutter 63 = .ok (.bipush 7, 2) := by decide +kernel
theorem dX4_gutter_65 : decode cX4_gutter 65 = .ok (.iload_n 1, 1) := by decide +kernel
theorem dX4_gutter_66 : decode cX4_gutter 66 = .ok (.imul, 1) := by decide +kernel
theorem dX4_gutter_67 : decode cX4_gutter 67 = .ok (.iadd, 1) := by decide +kernel
theorem dX4_gutter_68 : decode cX4_gutter 68 = .ok (.iconst 0, 1) := by decide +kernel
theorem dX4_gutter_69 : decode cX4_gutter 69 = .ok (.iadd, 1) := by decide +kernel
theorem dX4_gutter_70 : decode cX4_gutter 70 = .ok (.iload_n 2, 1) := by decide +kernel
theorem dX4_gutter_71 : decode cX4_gutter 71 = .ok (.iastore, 1) := by decide +kernel
theorem dX4_gutter_72 : decode cX4_gutter 72 = .ok (.aload_n 0, 1) := by decide +kernel
theorem dX4_gutter_73 : decode cX4_gutter 73 = .ok (.getfield 7, 3) := by decide +kernel
theorem dX4_gutter_76 : decode cX4_gutter 76 = .ok (.bipush 33, 2) := by decide +kernel
theorem dX4_gutter_78 : decode cX4_gutter 78 = .ok (.bipush 7, 2) := by decide +kernel
theorem dX4_gutter_80 : decode cX4_gutter 80 = .ok (.iload_n 1, 1) := by decide +kernel
theorem dX4_gutter_81 : decode cX4_gutter 81 = .ok (.imul, 1) := by decide +kernel
theorem dX4_gutter_82 : decode cX4_gutter 82 = .ok (.iadd, 1) := by decide +kernel
theorem dX4_gutter_83 : decode cX4_gutter 83 = .ok (.iconst 1, 1) := by decide +kernel
theorem dX4_gutter_84 : decode cX4_gutter 84 = .ok (.iadd, 1) := by decide +kernel
theorem dX4_gutter_85 : decode cX4_gutter 85 = .ok (.iload_n 3, 1) := by decide +kernel
theorem dX4_gutter_86 : decode cX4_gutter 86 = .ok (.iastore, 1) := by decide +kernel
theorem dX4_gutter_87 : decode cX4_gutter 87 = .ok (.iload 4, 2) := by decide +kernel
theorem dX4_gutter_89 : decode cX4_gutter 89 = .ok (.ireturn, 1) := by decide +kernel
set_option maxRecDepth 20000 in
theorem ggX4_leads_X4_of : GoodIn wsX4_leads wsX4_of := goodIn_r _ [5, 6, 7, 8, 9, 10, 11, 12, 13, 14, 15, 16, 17, 18] (by decide +kernel) (by decide +kernel)
set_option maxRecDepth 20000 in
theorem gX4_leads_X4_of : GoodIn wsX4_leads (wsV RX4 36 RX4 yX4_of wsX4_of) := goodIn_app (goodIn_of _ (by decide +kernel)) ggX4_leads_X4_of
theorem dX4_leads_0 : decode cX4_leads 0 = .ok (.iload_n 1, 1) := by decide +kernel
theorem dX4_leads_1 : decode cX4_leads 1 = .ok (.istore_n 3, 1) := by decide +kernel
theorem dX4_leads_2 : decode cX4_leads 2 = .ok (.iload_n 3, 1) := by decide +kernel
theorem dX4_leads_3 : decode cX4_leads 3 = .ok (.iconst (-1), 1) := by decide +kernel
theorem dX4_leads_4 : decode cX4_leads 4 = .ok (.if_icmp .eq 20, 3) := by decide +kernel
theorem dX4_leads_7 : decode cX4_leads 7 = .ok (.iload_n 3, 1) := by decide +kernel
theorem dX4_leads_8 : decode cX4_leads 8 = .ok (.iload_n 2, 1) := by decide +kernel
theorem dX4_leads_9 : decode cX4_leads 9 = .ok (.if_icmp .eq 15, 3) := by decide +kernel
theorem dX4_leads_12 : decode cX4_leads 12 = .ok (.aload_n 0, 1) := by decide +kernel
theorem dX4_leads_13 : decode cX4_leads 13 = .ok (.iload_n 3, 1) := by decide +kernel
theorem dX4_leads_14 : decode cX4_leads 14 = .ok (.iconst 3, 1) := by decide +kernel
theorem dX4_leads_15 : decode cX4_leads 15 = .ok (.invokevirtual 36, 3) := by decide +kernel
theorem dX4_leads_18 : decode cX4_leads 18 = .ok (.iconst 1, 1) := by decide +kernel
theorem dX4_leads_19 : decode cX4_leads 19 = .ok (.isub, 1) := by decide +kernel
theorem dX4_leads_20 : decode cX4_leads 20 = .ok (.istore_n 3, 1) := by decide +kernel
theorem dX4_leads_21 : decode cX4_leads 21 = .ok (.goto (-19), 3) := by decide +kernel
theorem dX4_leads_24 : decode cX4_leads 24 = .ok (.iload_n 3, 1) := by decide +kernel
theorem dX4_leads_25 : decode cX4_leads 25 = .ok (.iload_n 2, 1) := by decide +kernel
theorem dX4_leads_26 : decode cX4_leads 26 = .ok (.if_icmp .ne 7, 3) := by decide +kernel
theorem dX4_leads_29 : decode cX4_leads 29 = .ok (.iconst 1, 1) := by decide +kernel
theorem dX4_leads_30 : decode cX4_leads 30 = .ok (.goto 4, 3) := by decide +kernel
theorem dX4_leads_33 : decode cX4_leads 33 = .ok (.iconst 0, 1) := by decide +kernel
theorem dX4_leads_34 : decode cX4_leads 34 = .ok (.ireturn, 1) := by decide +kernel
set_option maxRecDepth 20000 in
theorem ggX4_valley_X4_isOne : GoodIn wsX4_valley wsX4_isOne := goodIn_r _ [6, 7, 8, 5, 9] (by decide +kernel) (by decide +kernel)
set_option maxRecDepth 20000 in
theorem gX4_valley_X4_isOne : GoodIn wsX4_valley (va_wsS RX4 69 yX4_isOne wsX4_isOne) := goodIn_app (goodIn_of _ (by decide +kernel)) ggX4_valley_X4_isOne
set_option maxRecDepth 20000 in
theorem ggX4_valley_X4_fails : GoodIn wsX4_valley wsX4_fails := goodIn_r _ [13, 1, 28, 29, 30, 31, 32, 33, 34, 35, 36, 37, 38, 39] (by decide +kernel) (by decide +kernel)
set_option maxRecDepth 20000 in
theorem gX4_valley_X4_fails : GoodIn wsX4_valley (wsV RX4 73 RX4 yX4_fails wsX4_fails) := goodIn_app (goodIn_of _ (by decide +kernel)) ggX4_valley_X4_fails
set_option maxRecDepth 20000 in
theorem ggX4_valley_X4_leads : GoodIn wsX4_valley wsX4_leads := goodIn_r _ [17, 18, 19, 20, 5, 21, 2, 28, 29, 30, 31, 32, 33, 34, 35, 36, 37, 38, 39] (by decide +kernel) (by decide +kernel)
set_option maxRecDepth 20000 in
theorem gX4_valley_X4_leads : GoodIn wsX4_valley (wsV RX4 79 RX4 yX4_leads wsX4_leads) := goodIn_app (goodIn_of _ (by decide +kernel)) ggX4_valley_X4_leads
set_option maxRecDepth 20000 in
theorem ggX4_valley_X4_saves : GoodIn wsX4_valley wsX4_saves := goodIn_r _ [25, 26, 27, 2, 28, 29, 30, 31, 32, 33, 34, 35, 36, 37, 38, 39] (by decide +kernel) (by decide +kernel)
set_option maxRecDepth 20000 in
theorem gX4_valley_X4_saves : GoodIn wsX4_valley (wsV RX4 76 RX4 yX4_saves wsX4_saves) := goodIn_app (goodIn_of _ (by decide +kernel)) ggX4_valley_X4_saves
set_option maxRecDepth 20000 in
theorem ggX4_valley_X4_of : GoodIn wsX4_valley wsX4_of := goodIn_r _ [21, 2, 28, 29, 30, 31, 32, 33, 34, 35, 36, 37, 38, 39] (by decide +kernel) (by decide +kernel)
set_option maxRecDepth 20000 in
theorem gX4_valley_X4_of : GoodIn wsX4_valley (wsV RX4 36 RX4 yX4_of wsX4_of) := goodIn_app (goodIn_of _ (by decide +kernel)) ggX4_valley_X4_of
theorem dX4_valley_0 : decode cX4_valley 0 = .ok (.aload_n 0, 1) := by decide +kernel
theorem dX4_valley_1 : decode cX4_valley 1 = .ok (.iconst 0, 1) := by decide +kernel
theorem dX4_valley_2 : decode cX4_valley 2 = .ok (.putfield 25, 3) := by decide +kernel
theorem dX4_valley_5 : decode cX4_valley 5 = .ok (.iload_n 1, 1) := by decide +kernel
theorem dX4_valley_6 : decode cX4_valley 6 = .ok (.invokestatic 69, 3) := by decide +kernel
theorem dX4_valley_9 : decode cX4_valley 9 = .ok (.ifCond .eq 15, 3) := by decide +kernel
theorem dX4_valley_12 : decode cX4_valley 12 = .ok (.iload_n 2, 1) := by decide +kernel
theorem dX4_valley_13 : decode cX4_valley 13 = .ok (.iconst (-1), 1) := by decide +kernel
theorem dX4_valley_14 : decode cX4_valley 14 = .ok (.if_icmp .eq 16, 3) := by decide +kernel
theorem dX4_valley_17 : decode cX4_valley 17 = .ok (.iload_n 2, 1) := by decide +kernel
theorem dX4_valley_18 : decode cX4_valley 18 = .ok (.invokestatic 69, 3) := by decide +kernel
theorem dX4_valley_21 : decode cX4_valley 21 = .ok (.ifCond .ne 9, 3) := by decide +kernel
theorem dX4_valley_24 : decode cX4_valley 24 = .ok (.aload_n 0, 1) := by decide +kernel
theorem dX4_valley_25 : decode cX4_valley 25 = .ok (.iconst 1, 1) := by decide +kernel
theorem dX4_valley_26 : decode cX4_valley 26 = .ok (.invokevirtual 73, 3) := by decide +kernel
theorem dX4_valley_29 : decode cX4_valley 29 = .ok (.ireturn, 1) := by decide +kernel
theorem dX4_valley_30 : decode cX4_valley 30 = .ok (.iload_n 1, 1) := by decide +kernel
theorem dX4_valley_31 : decode cX4_valley 31 = .ok (.iload_n 2, 1) := by decide +kernel
theorem dX4_valley_32 : decode cX4_valley 32 = .ok (.if_icmp .ne 9, 3) := by decide +kernel
theorem dX4_valley_35 : decode cX4_valley 35 = .ok (.aload_n 0, 1) := by decide +kernel
theorem dX4_valley_36 : decode cX4_valley 36 = .ok (.iconst 2, 1) := by decide +kernel
theorem dX4_valley_37 : decode cX4_valley 37 = .ok (.invokevirtual 73, 3) := by decide +kernel
theorem dX4_valley_40 : decode cX4_valley 40 = .ok (.ireturn, 1) := by decide +kernel
theorem dX4_valley_41 : decode cX4_valley 41 = .ok (.iload_n 2, 1) := by decide +kernel
theorem dX4_valley_42 : decode cX4_valley 42 = .ok (.iconst (-1), 1) := by decide +kernel
theorem dX4_valley_43 : decode cX4_valley 43 = .ok (.if_icmp .eq 18, 3) := by decide +kernel
theorem dX4_valley_46 : decode cX4_valley 46 = .ok (.aload_n 0, 1) := by decide +kernel
theorem dX4_valley_47 : decode cX4_valley 47 = .ok (.iload_n 2, 1) := by decide +kernel
theorem dX4_valley_48 : decode cX4_valley 48 = .ok (.iload_n 1, 1) := by decide +kernel
theorem dX4_valley_49 : decode cX4_valley 49 = .ok (.invokevirtual 79, 3) := by decide +kernel
theorem dX4_valley_52 : decode cX4_valley 52 = .ok (.ifCond .eq 9, 3) := by decide +kernel
theorem dX4_valley_55 : decode cX4_valley 55 = .ok (.aload_n 0, 1) := by decide +kernel
theorem dX4_valley_56 : decode cX4_valley 56 = .ok (.iconst 3, 1) := by decide +kernel
theorem dX4_valley_57 : decode cX4_valley 57 = .ok (.invokevirtual 73, 3) := by decide +kernel
theorem dX4_valley_60 : decode cX4_valley 60 = .ok (.ireturn, 1) := by decide +kernel
theorem dX4_valley_61 : decode cX4_valley 61 = .ok (.aload_n 0, 1) := by decide +kernel
theorem dX4_valley_62 : decode cX4_valley 62 = .ok (.invokevirtual 76, 3) := by decide +kernel
theorem dX4_valley_65 : decode cX4_valley 65 = .ok (.aload_n 0, 1) := by decide +kernel
theorem dX4_valley_66 : decode cX4_valley 66 = .ok (.iload_n 1, 1) := by decide +kernel
theorem dX4_valley_67 : decode cX4_valley 67 = .ok (.iconst 3, 1) := by decide +kernel
theorem dX4_valley_68 : decode cX4_valley 68 = .ok (.invokevirtual 36, 3) := by decide +kernel
theorem dX4_valley_71 : decode cX4_valley 71 = .ok (.iconst 1, 1) := by decide +kernel
theorem dX4_valley_72 : decode cX4_valley 72 = .ok (.isub, 1) := by decide +kernel
theorem dX4_valley_73 : decode cX4_valley 73 = .ok (.istore_n 3, 1) := by decide +kernel
theorem dX4_valley_74 : decode cX4_valley 74 = .ok (.aload_n 0, 1) := by decide +kernel
theorem dX4_valley_75 : decode cX4_valley 75 = .ok (.getfield 7, 3) := by decide +kernel
theorem dX4_valley_78 : decode cX4_valley 78 = .ok (.bipush 33, 2) := by decide +kernel
theorem dX4_valley_80 : decode cX4_valley 80 = .ok (.bipush 7, 2) := by decide +kernel
theorem dX4_valley_82 : decode cX4_valley 82 = .ok (.iload_n 1, 1) := by decide +kernel
theorem dX4_valley_83 : decode cX4_valley 83 = .ok (.imul, 1) := by decide +kernel
theorem dX4_valley_84 : decode cX4_valley 84 = .ok (.iadd, 1) := by decide +kernel
theorem dX4_valley_85 : decode cX4_valley 85 = .ok (.iconst 3, 1) := by decide +kernel
theorem dX4_valley_86 : decode cX4_valley 86 = .ok (.iadd, 1) := by decide +kernel
theorem dX4_valley_87 : decode cX4_valley 87 = .ok (.iload_n 2, 1) := by decide +kernel
theorem dX4_valley_88 : decode cX4_valley 88 = .ok (.iconst 1, 1) := by decide +kernel
theorem dX4_valley_89 : decode cX4_valley 89 = .ok (.iadd, 1) := by decide +kernel
theorem dX4_valley_90 : decode cX4_valley 90 = .ok (.iastore, 1) := by decide +kernel
theorem dX4_valley_91 : decode cX4_valley 91 = .ok (.iload_n 3, 1) := by decide +kernel
theorem dX4_valley_92 : decode cX4_valley 92 = .ok (.ireturn, 1) := by decide +kernel
set_option maxRecDepth 20000 in
theorem ggX4_clean_X4_isOne : GoodIn wsX4_clean wsX4_isOne := goodIn_r _ [6, 7, 8, 5, 9] (by decide +kernel) (by decide +kernel)
set_option maxRecDepth 20000 in
theorem gX4_clean_X4_isOne : GoodIn wsX4_clean (va_wsS RX4 69 yX4_isOne wsX4_isOne) := goodIn_app (goodIn_of _ (by decide +kernel)) ggX4_clean_X4_isOne
set_option maxRecDepth 20000 in
theorem ggX4_clean_X4_fails : GoodIn wsX4_clean wsX4_fails := goodIn_r _ [13, 1, 24, 25, 26, 27, 28, 29, 30, 31, 32, 33, 34, 35] (by decide +kernel) (by decide +kernel)
set_option maxRecDepth 20000 in
theorem gX4_clean_X4_fails : GoodIn wsX4_clean (wsV RX4 73 RX4 yX4_fails wsX4_fails) := goodIn_app (goodIn_of _ (by decide +kernel)) ggX4_clean_X4_fails
set_option maxRecDepth 20000 in
theorem ggX4_clean_X4_saves : GoodIn wsX4_clean wsX4_saves := goodIn_r _ [17, 18, 19, 2, 24, 25, 26, 27, 28, 29, 30, 31, 32, 33, 34, 35] (by decide +kernel) (by decide +kernel)
set_option maxRecDepth 20000 in
theorem gX4_clean_X4_saves : GoodIn wsX4_clean (wsV RX4 76 RX4 yX4_saves wsX4_saves) := goodIn_app (goodIn_of _ (by decide +kernel)) ggX4_clean_X4_saves
set_option maxRecDepth 20000 in
theorem ggX4_clean_X4_of : GoodIn wsX4_clean wsX4_of := goodIn_r _ [23, 2, 24, 25, 26, 27, 28, 29, 30, 31, 32, 33, 34, 35] (by decide +kernel) (by decide +kernel)
set_option maxRecDepth 20000 in
theorem gX4_clean_X4_of : GoodIn wsX4_clean (wsV RX4 36 RX4 yX4_of wsX4_of) := goodIn_app (goodIn_of _ (by decide +kernel)) ggX4_clean_X4_of
theorem dX4_clean_0 : decode cX4_clean 0 = .ok (.aload_n 0, 1) := by decide +kernel
theorem dX4_clean_1 : decode cX4_clean 1 = .ok (.iconst 0, 1) := by decide +kernel
theorem dX4_clean_2 : decode cX4_clean 2 = .ok (.putfield 25, 3) := by decide +kernel
theorem dX4_clean_5 : decode cX4_clean 5 = .ok (.iload_n 1, 1) := by decide +kernel
theorem dX4_clean_6 : decode cX4_clean 6 = .ok (.invokestatic 69, 3) := by decide +kernel
theorem dX4_clean_9 : decode cX4_clean 9 = .ok (.ifCond .ne 9, 3) := by decide +kernel
theorem dX4_clean_12 : decode cX4_clean 12 = .ok (.aload_n 0, 1) := by decide +kernel
theorem dX4_clean_13 : decode cX4_clean 13 = .ok (.iconst 1, 1) := by decide +kernel
theorem dX4_clean_14 : decode cX4_clean 14 = .ok (.invokevirtual 73, 3) := by decide +kernel
theorem dX4_clean_17 : decode cX4_clean 17 = .ok (.ireturn, 1) := by decide +kernel
theorem dX4_clean_18 : decode cX4_clean 18 = .ok (.aload_n 0, 1) := by decide +kernel
theorem dX4_clean_19 : decode cX4_clean 19 = .ok (.invokevirtual 76, 3) := by decide +kernel
theorem dX4_clean_22 : decode cX4_clean 22 = .ok (.aload_n 0, 1) := by decide +kernel
theorem dX4_clean_23 : decode cX4_clean 23 = .ok (.iload_n 1, 1) := by decide +kernel
theorem dX4_clean_24 : decode cX4_clean 24 = .ok (.iconst 2, 1) := by decide +kernel
theorem dX4_clean_25 : decode cX4_clean 25 = .ok (.invokevirtual 36, 3) := by decide +kernel
theorem dX4_clean_28 : decode cX4_clean 28 = .ok (.istore_n 2, 1) := by decide +kernel
theorem dX4_clean_29 : decode cX4_clean 29 = .ok (.aload_n 0, 1) := by decide +kernel
theorem dX4_clean_30 : decode cX4_clean 30 = .ok (.getfield 7, 3) := by decide +kernel
theorem dX4_clean_33 : decode cX4_clean 33 = .ok (.bipush 33, 2) := by decide +kernel
theorem dX4_clean_35 : decode cX4_clean 35 = .ok (.bipush 7, 2) := by decide +kernel
theorem dX4_clean_37 : decode cX4_clean 37 = .ok (.iload_n 1, 1) := by decide +kernel
theorem dX4_clean_38 : decode cX4_clean 38 = .ok (.imul, 1) := by decide +kernel
theorem dX4_clean_39 : decode cX4_clean 39 = .ok (.iadd, 1) := by decide +kernel
theorem dX4_clean_40 : decode cX4_clean 40 = .ok (.iconst 2, 1) := by decide +kernel
theorem dX4_clean_41 : decode cX4_clean 41 = .ok (.iadd, 1) := by decide +kernel
theorem dX4_clean_42 : decode cX4_clean 42 = .ok (.iconst 0, 1) := by decide +kernel
theorem dX4_clean_43 : decode cX4_clean 43 = .ok (.iastore, 1) := by decide +kernel
theorem dX4_clean_44 : decode cX4_clean 44 = .ok (.iload_n 2, 1) := by decide +kernel
theorem dX4_clean_45 : decode cX4_clean 45 = .ok (.ireturn, 1) := by decide +kernel
set_option maxRecDepth 20000 in
theorem ggX4_set_X4_in : GoodIn wsX4_set wsX4_in := goodIn_r _ [6] (by decide +kernel) (by decide +kernel)
set_option maxRecDepth 20000 in
theorem gX4_set_X4_in : GoodIn wsX4_set (va_wsS RX4 29 yX4_in wsX4_in) := goodIn_app (goodIn_of _ (by decide +kernel)) ggX4_set_X4_in
set_option maxRecDepth 20000 in
theorem ggX4_set_X4_fails : GoodIn wsX4_set wsX4_fails := goodIn_r _ [10, 1, 17, 18, 19, 20, 21, 22, 23, 24, 25, 26, 27, 28] (by decide +kernel) (by decide +kernel)
set_option maxRecDepth 20000 in
theorem gX4_set_X4_fails : GoodIn wsX4_set (wsV RX4 73 RX4 yX4_fails wsX4_fails) := goodIn_app (goodIn_of _ (by decide +kernel)) ggX4_set_X4_fails
set_option maxRecDepth 20000 in
theorem ggX4_set_X4_saves : GoodIn wsX4_set wsX4_saves := goodIn_r _ [14, 15, 16, 2, 17, 18, 19, 20, 21, 22, 23, 24, 25, 26, 27, 28] (by decide +kernel) (by decide +kernel)
set_option maxRecDepth 20000 in
theorem gX4_set_X4_saves : GoodIn wsX4_set (wsV RX4 76 RX4 yX4_saves wsX4_saves) := goodIn_app (goodIn_of _ (by decide +kernel)) ggX4_set_X4_saves
theorem dX4_set_0 : decode cX4_set 0 = .ok (.aload_n 0, 1) := by decide +kernel
theorem dX4_set_1 : decode cX4_set 1 = .ok (.iconst 0, 1) := by decide +kernel
theorem dX4_set_2 : decode cX4_set 2 = .ok (.putfield 25, 3) := by decide +kernel
theorem dX4_set_5 : decode cX4_set 5 = .ok (.iload_n 1, 1) := by decide +kernel
theorem dX4_set_6 : decode cX4_set 6 = .ok (.iconst 0, 1) := by decide +kernel
theorem dX4_set_7 : decode cX4_set 7 = .ok (.iconst 2, 1) := by decide +kernel
theorem dX4_set_8 : decode cX4_set 8 = .ok (.invokestatic 29, 3) := by decide +kernel
theorem dX4_set_11 : decode cX4_set 11 = .ok (.ifCond .ne 9, 3) := by decide +kernel
theorem dX4_set_14 : decode cX4_set 14 = .ok (.aload_n 0, 1) := by decide +kernel
theorem dX4_set_15 : decode cX4_set 15 = .ok (.iconst 1, 1) := by decide +kernel
theorem dX4_set_16 : decode cX4_set 16 = .ok (.invokevirtual 73, 3) := by decide +kernel
theorem dX4_set_19 : decode cX4_set 19 = .ok (.ireturn, 1) := by decide +kernel
theorem dX4_set_20 : decode cX4_set 20 = .ok (.iload_n 2, 1) := by decide +kernel
theorem dX4_set_21 : decode cX4_set 21 = .ok (.iconst 0, 1) := by decide +kernel
theorem dX4_set_22 : decode cX4_set 22 = .ok (.iload_n 1, 1) := by decide +kernel
theorem dX4_set_23 : decode cX4_set 23 = .ok (.ifCond .ne 9, 3) := by decide +kernel
theorem dX4_set_26 : decode cX4_set 26 = .ok (.sipush 600, 3) := by decide +kernel
theorem dX4_set_29 : decode cX4_set 29 = .ok (.goto 15, 3) := by decide +kernel
theorem dX4_set_32 : decode cX4_set 32 = .ok (.iload_n 1, 1) := by decide +kernel
theorem dX4_set_33 : decode cX4_set 33 = .ok (.iconst 1, 1) := by decide +kernel
theorem dX4_set_34 : decode cX4_set 34 = .ok (.if_icmp .ne 8, 3) := by decide +kernel
theorem dX4_set_37 : decode cX4_set 37 = .ok (.bipush 50, 2) := by decide +kernel
theorem dX4_set_39 : decode cX4_set 39 = .ok (.goto 5, 3) := by decide +kernel
theorem dX4_set_42 : decode cX4_set 42 = .ok (.bipush 99, 2) := by decide +kernel
theorem dX4_set_44 : decode cX4_set 44 = .ok (.invokestatic 29, 3) := by decide +kernel
theorem dX4_set_47 : decode cX4_set 47 = .ok (.ifCond .ne 9, 3) := by decide +kernel
theorem dX4_set_50 : decode cX4_set 50 = .ok (.aload_n 0, 1) := by decide +kernel
theorem dX4_set_51 : decode cX4_set 51 = .ok (.iconst 2, 1) := by decide +kernel
theorem dX4_set_52 : decode cX4_set 52 = .ok (.invokevirtual 73, 3) := by decide +kernel
theorem dX4_set_55 : decode cX4_set 55 = .ok (.ireturn, 1) := by decide +kernel
theorem dX4_set_56 : decode cX4_set 56 = .ok (.aload_n 0, 1) := by decide +kernel
theorem dX4_set_57 : decode cX4_set 57 = .ok (.invokevirtual 76, 3) := by decide +kernel
theorem dX4_set_60 : decode cX4_set 60 = .ok (.aload_n 0, 1) := by decide +kernel
theorem dX4_set_61 : decode cX4_set 61 = .ok (.getfield 7, 3) := by decide +kernel
theorem dX4_set_64 : decode cX4_set 64 = .ok (.iload_n 1, 1) := by decide +kernel
theorem dX4_set_65 : decode cX4_set 65 = .ok (.iaload, 1) := by decide +kernel
theorem dX4_set_66 : decode cX4_set 66 = .ok (.istore_n 3, 1) := by decide +kernel
theorem dX4_set_67 : decode cX4_set 67 = .ok (.aload_n 0, 1) := by decide +kernel
theorem dX4_set_68 : decode cX4_set 68 = .ok (.getfield 7, 3) := by decide +kernel
theorem dX4_set_71 : decode cX4_set 71 = .ok (.iload_n 1, 1) := by decide +kernel
theorem dX4_set_72 : decode cX4_set 72 = .ok (.iload_n 2, 1) := by decide +kernel
theorem dX4_set_73 : decode cX4_set 73 = .ok (.iastore, 1) := by decide +kernel
theorem dX4_set_74 : decode cX4_set 74 = .ok (.iload_n 3, 1) := by decide +kernel
theorem dX4_set_75 : decode cX4_set 75 = .ok (.ireturn, 1) := by decide +kernel
set_option maxRecDepth 20000 in
theorem ggX4_rain_X4_in : GoodIn wsX4_rain wsX4_in := goodIn_r _ [5] (by decide +kernel) (by decide +kernel)
set_option maxRecDepth 20000 in
theorem gX4_rain_X4_in : GoodIn wsX4_rain (va_wsS RX4 29 yX4_in wsX4_in) := goodIn_app (goodIn_of _ (by decide +kernel)) ggX4_rain_X4_in
set_option maxRecDepth 20000 in
theorem ggX4_rain_X4_fails : GoodIn wsX4_rain wsX4_fails := goodIn_r _ [9, 1, 57, 58, 59, 60, 61, 62, 63, 64, 65, 66, 67, 68] (by decide +kernel) (by decide +kernel)
set_option maxRecDepth 20000 in
theorem gX4_rain_X4_fails : GoodIn wsX4_rain (wsV RX4 73 RX4 yX4_fails wsX4_fails) := goodIn_app (goodIn_of _ (by decide +kernel)) ggX4_rain_X4_fails
set_option maxRecDepth 20000 in
theorem ggX4_rain_X4_saves : GoodIn wsX4_rain wsX4_saves := goodIn_r _ [13, 14, 15, 16, 57, 58, 59, 60, 61, 62, 63, 64, 65, 66, 67, 68] (by decide +kernel) (by decide +kernel)
set_option maxRecDepth 20000 in
theorem gX4_rain_X4_saves : GoodIn wsX4_rain (wsV RX4 76 RX4 yX4_saves wsX4_saves) := goodIn_app (goodIn_of _ (by decide +kernel)) ggX4_rain_X4_saves
set_option maxRecDepth 20000 in
theorem ggX4_rain_X4_rains : GoodIn wsX4_rain wsX4_rains := goodIn_r _ [20, 16, 21, 22, 23, 4, 24, 25, 26, 27, 28, 29, 30, 31, 32, 33, 34, 35, 36, 37, 38, 39, 40, 41, 42, 43, 44, 45, 46, 47, 48, 49, 50, 51, 52, 53, 54, 55, 56, 57, 58, 59, 60, 61, 62, 63, 64, 65, 66, 67, 68] (by decide +kernel) (by decide +kernel)
set_option maxRecDepth 20000 in
theorem gX4_rain_X4_rains : GoodIn wsX4_rain (wsV RX4 83 RX4 yX4_rains wsX4_rains) := goodIn_app (goodIn_of _ (by decide +kernel)) ggX4_rain_X4_rains
theorem dX4_rain_0 : decode cX4_rain 0 = .ok (.aload_n 0, 1) := by decide +kernel
theorem dX4_rain_1 : decode cX4_rain 1 = .ok (.iconst 0, 1) := by decide +kernel
theorem dX4_rain_2 : decode cX4_rain 2 = .ok (.putfield 25, 3) := by decide +kernel
theorem dX4_rain_5 : decode cX4_rain 5 = .ok (.iload_n 1, 1) := by decide +kernel
theorem dX4_rain_6 : decode cX4_rain 6 = .ok (.iconst 0, 1) := by decide +kernel
theorem dX4_rain_7 : decode cX4_rain 7 = .ok (.bipush 99, 2) := by decide +kernel
theorem dX4_rain_9 : decode cX4_rain 9 = .ok (.invokestatic 29, 3) := by decide +kernel
theorem dX4_rain_12 : decode cX4_rain 12 = .ok (.ifCond .eq 13, 3) := by decide +kernel
theorem dX4_rain_15 : decode cX4_rain 15 = .ok (.iload_n 2, 1) := by decide +kernel
theorem dX4_rain_16 : decode cX4_rain 16 = .ok (.iconst 1, 1) := by decide +kernel
theorem dX4_rain_17 : decode cX4_rain 17 = .ok (.bipush 60, 2) := by decide +kernel
theorem dX4_rain_19 : decode cX4_rain 19 = .ok (.invokestatic 29, 3) := by decide +kernel
theorem dX4_rain_22 : decode cX4_rain 22 = .ok (.ifCond .ne 9, 3) := by decide +kernel
theorem dX4_rain_25 : decode cX4_rain 25 = .ok (.aload_n 0, 1) := by decide +kernel
theorem dX4_rain_26 : decode cX4_rain 26 = .ok (.iconst 1, 1) := by decide +kernel
theorem dX4_rain_27 : decode cX4_rain 27 = .ok (.invokevirtual 73, 3) := by decide +kernel
theorem dX4_rain_30 : decode cX4_rain 30 = .ok (.ireturn, 1) := by decide +kernel
theorem dX4_rain_31 : decode cX4_rain 31 = .ok (.aload_n 0, 1) := by decide +kernel
theorem dX4_rain_32 : decode cX4_rain 32 = .ok (.invokevirtual 76, 3) := by decide +kernel
theorem dX4_rain_35 : decode cX4_rain 35 = .ok (.aload_n 0, 1) := by decide +kernel
theorem dX4_rain_36 : decode cX4_rain 36 = .ok (.iload_n 1, 1) := by decide +kernel
theorem dX4_rain_37 : decode cX4_rain 37 = .ok (.iload_n 2, 1) := by decide +kernel
theorem dX4_rain_38 : decode cX4_rain 38 = .ok (.invokevirtual 83, 3) := by decide +kernel
theorem dX4_rain_41 : decode cX4_rain 41 = .ok (.ireturn, 1) := by decide +kernel
set_option maxRecDepth 20000 in
theorem ggX4_weeks_X4_in : GoodIn wsX4_weeks wsX4_in := goodIn_r _ [5] (by decide +kernel) (by decide +kernel)
set_option maxRecDepth 20000 in
theorem gX4_weeks_X4_in : GoodIn wsX4_weeks (va_wsS RX4 29 yX4_in wsX4_in) := goodIn_app (goodIn_of _ (by decide +kernel)) ggX4_weeks_X4_in
set_option maxRecDepth 20000 in
theorem ggX4_weeks_X4_fails : GoodIn wsX4_weeks wsX4_fails := goodIn_r _ [9, 1, 29, 30, 31, 32, 33, 34, 35, 36, 37, 38, 39, 40] (by decide +kernel) (by decide +kernel)
set_option maxRecDepth 20000 in
theorem gX4_weeks_X4_fails : GoodIn wsX4_weeks (wsV RX4 73 RX4 yX4_fails wsX4_fails) := goodIn_app (goodIn_of _ (by decide +kernel)) ggX4_weeks_X4_fails
set_option maxRecDepth 20000 in
theorem ggX4_weeks_X4_saves : GoodIn wsX4_weeks wsX4_saves := goodIn_r _ [13, 14, 15, 16, 29, 30, 31, 32, 33, 34, 35, 36, 37, 38, 39, 40] (by decide +kernel) (by decide +kernel)
set_option maxRecDepth 20000 in
theorem gX4_weeks_X4_saves : GoodIn wsX4_weeks (wsV RX4 76 RX4 yX4_saves wsX4_saves) := goodIn_app (goodIn_of _ (by decide +kernel)) ggX4_weeks_X4_saves
set_option maxRecDepth 20000 in
theorem ggX4_weeks_X4_week : GoodIn wsX4_weeks wsX4_week := goodIn_r _ [20, 16, 21, 22, 23, 4, 24, 29, 30, 31, 32, 33, 34, 35, 36, 37, 38, 39, 40] (by decide +kernel) (by decide +kernel)
set_option maxRecDepth 20000 in
theorem gX4_weeks_X4_week : GoodIn wsX4_weeks (wsV RX4 86 RX4 yX4_week wsX4_week) := goodIn_app (goodIn_of _ (by decide +kernel)) ggX4_weeks_X4_week
set_option maxRecDepth 20000 in
theorem ggX4_weeks_X4_leaves : GoodIn wsX4_weeks wsX4_leaves := goodIn_r _ [28, 21, 22, 23, 4, 24, 16, 29, 30, 31, 32, 33, 34, 35, 36, 37, 38, 39, 40] (by decide +kernel) (by decide +kernel)
set_option maxRecDepth 20000 in
theorem gX4_weeks_X4_leaves : GoodIn wsX4_weeks (wsV RX4 89 RX4 yX4_leaves wsX4_leaves) := goodIn_app (goodIn_of _ (by decide +kernel)) ggX4_weeks_X4_leaves
theorem dX4_weeks_0 : decode cX4_weeks 0 = .ok (.aload_n 0, 1) := by decide +kernel
theorem dX4_weeks_1 : decode cX4_weeks 1 = .ok (.iconst 0, 1) := by decide +kernel
theorem dX4_weeks_2 : decode cX4_weeks 2 = .ok (.putfield 25, 3) := by decide +kernel
theorem dX4_weeks_5 : decode cX4_weeks 5 = .ok (.iload_n 1, 1) := by decide +kernel
theorem dX4_weeks_6 : decode cX4_weeks 6 = .ok (.iconst 1, 1) := by decide +kernel
theorem dX4_weeks_7 : decode cX4_weeks 7 = .ok (.bipush 52, 2) := by decide +kernel
theorem dX4_weeks_9 : decode cX4_weeks 9 = .ok (.invokestatic 29, 3) := by decide +kernel
theorem dX4_weeks_12 : decode cX4_weeks 12 = .ok (.ifCond .ne 9, 3) := by decide +kernel
theorem dX4_weeks_15 : decode cX4_weeks 15 = .ok (.aload_n 0, 1) := by decide +kernel
theorem dX4_weeks_16 : decode cX4_weeks 16 = .ok (.iconst 1, 1) := by decide +kernel
theorem dX4_weeks_17 : decode cX4_weeks 17 = .ok (.invokevirtual 73, 3) := by decide +kernel
theorem dX4_weeks_20 : decode cX4_weeks 20 = .ok (.ireturn, 1) := by decide +kernel
theorem dX4_weeks_21 : decode cX4_weeks 21 = .ok (.aload_n 0, 1) := by decide +kernel
theorem dX4_weeks_22 : decode cX4_weeks 22 = .ok (.invokevirtual 76, 3) := by decide +kernel
theorem dX4_weeks_25 : decode cX4_weeks 25 = .ok (.iconst 0, 1) := by decide +kernel
theorem dX4_weeks_26 : decode cX4_weeks 26 = .ok (.istore_n 2, 1) := by decide +kernel
theorem dX4_weeks_27 : decode cX4_weeks 27 = .ok (.iload_n 2, 1) := by decide +kernel
theorem dX4_weeks_28 : decode cX4_weeks 28 = .ok (.iload_n 1, 1) := by decide +kernel
theorem dX4_weeks_29 : decode cX4_weeks 29 = .ok (.if_icmp .ge 13, 3) := by decide +kernel
theorem dX4_weeks_32 : decode cX4_weeks 32 = .ok (.aload_n 0, 1) := by decide +kernel
theorem dX4_weeks_33 : decode cX4_weeks 33 = .ok (.invokevirtual 86, 3) := by decide +kernel
theorem dX4_weeks_36 : decode cX4_weeks 36 = .ok (.iinc 2 1, 3) := by decide +kernel
theorem dX4_weeks_39 : decode cX4_weeks 39 = .ok (.goto (-12), 3) := by decide +kernel
theorem dX4_weeks_42 : decode cX4_weeks 42 = .ok (.aload_n 0, 1) := by decide +kernel
theorem dX4_weeks_43 : decode cX4_weeks 43 = .ok (.invokevirtual 89, 3) := by decide +kernel
theorem dX4_weeks_46 : decode cX4_weeks 46 = .ok (.ireturn, 1) := by decide +kernel
set_option maxRecDepth 20000 in
theorem ggX4_append_X4_in : GoodIn wsX4_append wsX4_in := goodIn_r _ [7] (by decide +kernel) (by decide +kernel)
set_option maxRecDepth 20000 in
theorem gX4_append_X4_in : GoodIn wsX4_append (va_wsS RX4 29 yX4_in wsX4_in) := goodIn_app (goodIn_of _ (by decide +kernel)) ggX4_append_X4_in
set_option maxRecDepth 20000 in
theorem ggX4_append_X4_fails : GoodIn wsX4_append wsX4_fails := goodIn_r _ [11, 1, 12, 13, 14, 15, 16, 17, 18, 19, 20, 21, 22, 23] (by decide +kernel) (by decide +kernel)
set_option maxRecDepth 20000 in
theorem gX4_append_X4_fails : GoodIn wsX4_append (wsV RX4 73 RX4 yX4_fails wsX4_fails) := goodIn_app (goodIn_of _ (by decide +kernel)) ggX4_append_X4_fails
theorem dX4_append_0 : decode cX4_append 0 = .ok (.aload_n 0, 1) := by decide +kernel
theorem dX4_append_1 : decode cX4_append 1 = .ok (.iconst 0, 1) := by decide +kernel
theorem dX4_append_2 : decode cX4_append 2 = .ok (.putfield 25, 3) := by decide +kernel
theorem dX4_append_5 : decode cX4_append 5 = .ok (.iload_n 1, 1) := by decide +kernel
theorem dX4_append_6 : decode cX4_append 6 = .ok (.bipush 33, 2) := by decide +kernel
theorem dX4_append_8 : decode cX4_append 8 = .ok (.bipush 126, 2) := by decide +kernel
theorem dX4_append_10 : decode cX4_append 10 = .ok (.invokestatic 29, 3) := by decide +kernel
theorem dX4_append_13 : decode cX4_append 13 = .ok (.ifCond .ne 9, 3) := by decide +kernel
theorem dX4_append_16 : decode cX4_append 16 = .ok (.aload_n 0, 1) := by decide +kernel
theorem dX4_append_17 : decode cX4_append 17 = .ok (.iconst 1, 1) := by decide +kernel
theorem dX4_append_18 : decode cX4_append 18 = .ok (.invokevirtual 73, 3) := by decide +kernel
theorem dX4_append_21 : decode cX4_append 21 = .ok (.ireturn, 1) := by decide +kernel
theorem dX4_append_22 : decode cX4_append 22 = .ok (.aload_n 0, 1) := by decide +kernel
theorem dX4_append_23 : decode cX4_append 23 = .ok (.getfield 93, 3) := by decide +kernel
theorem dX4_append_26 : decode cX4_append 26 = .ok (.bipush 60, 2) := by decide +kernel
theorem dX4_append_28 : decode cX4_append 28 = .ok (.if_icmp .ne 9, 3) := by decide +kernel
theorem dX4_append_31 : decode cX4_append 31 = .ok (.aload_n 0, 1) := by decide +kernel
theorem dX4_append_32 : decode cX4_append 32 = .ok (.iconst 2, 1) := by decide +kernel
theorem dX4_append_33 : decode cX4_append 33 = .ok (.invokevirtual 73, 3) := by decide +kernel
theorem dX4_append_36 : decode cX4_append 36 = .ok (.ireturn, 1) := by decide +kernel
theorem dX4_append_37 : decode cX4_append 37 = .ok (.aload_n 0, 1) := by decide +kernel
theorem dX4_append_38 : decode cX4_append 38 = .ok (.getfield 19, 3) := by decide +kernel
theorem dX4_append_41 : decode cX4_append 41 = .ok (.aload_n 0, 1) := by decide +kernel
theorem dX4_append_42 : decode cX4_append 42 = .ok (.getfield 93, 3) := by decide +kernel
theorem dX4_append_45 : decode cX4_append 45 = .ok (.iload_n 1, 1) := by decide +kernel
theorem dX4_append_46 : decode cX4_append 46 = .ok (.iastore, 1) := by decide +kernel
theorem dX4_append_47 : decode cX4_append 47 = .ok (.aload_n 0, 1) := by decide +kernel
theorem dX4_append_48 : decode cX4_append 48 = .ok (.dup, 1) := by decide +kernel
theorem dX4_append_49 : decode cX4_append 49 = .ok (.getfield 93, 3) := by decide +kernel
theorem dX4_append_52 : decode cX4_append 52 = .ok (.iconst 1, 1) := by decide +kernel
theorem dX4_append_53 : decode cX4_append 53 = .ok (.iadd, 1) := by decide +kernel
theorem dX4_append_54 : decode cX4_append 54 = .ok (.putfield 93, 3) := by decide +kernel
theorem dX4_append_57 : decode cX4_append 57 = .ok (.aload_n 0, 1) := by decide +kernel
theorem dX4_append_58 : decode cX4_append 58 = .ok (.getfield 93, 3) := by decide +kernel
theorem dX4_append_61 : decode cX4_append 61 = .ok (.ireturn, 1) := by decide +kernel
theorem dX4_clearBuffer_0 : decode cX4_clearBuffer 0 = .ok (.aload_n 0, 1) := by decide +kernel
theorem dX4_clearBuffer_1 : decode cX4_clearBuffer 1 = .ok (.iconst 0, 1) := by decide +kernel
theorem dX4_clearBuffer_2 : decode cX4_clearBuffer 2 = .ok (.putfield 25, 3) := by decide +kernel
theorem dX4_clearBuffer_5 : decode cX4_clearBuffer 5 = .ok (.aload_n 0, 1) := by decide +kernel
theorem dX4_clearBuffer_6 : decode cX4_clearBuffer 6 = .ok (.getfield 93, 3) := by decide +kernel
theorem dX4_clearBuffer_9 : decode cX4_clearBuffer 9 = .ok (.istore_n 1, 1) := by decide +kernel
theorem dX4_clearBuffer_10 : decode cX4_clearBuffer 10 = .ok (.aload_n 0, 1) := by decide +kernel
theorem dX4_clearBuffer_11 : decode cX4_clearBuffer 11 = .ok (.iconst 0, 1) := by decide +kernel
theorem dX4_clearBuffer_12 : decode cX4_clearBuffer 12 = .ok (.putfield 93, 3) := by decide +kernel
theorem dX4_clearBuffer_15 : decode cX4_clearBuffer 15 = .ok (.iload_n 1, 1) := by decide +kernel
theorem dX4_clearBuffer_16 : decode cX4_clearBuffer 16 = .ok (.ireturn, 1) := by decide +kernel
theorem dX4_sign_0 : decode cX4_sign 0 = .ok (.aload_n 0, 1) := by decide +kernel
theorem dX4_sign_1 : decode cX4_sign 1 = .ok (.getfield 96, 3) := by decide +kernel
theorem dX4_sign_4 : decode cX4_sign 4 = .ok (.aload_n 0, 1) := by decide +kernel
theorem dX4_sign_5 : decode cX4_sign 5 = .ok (.getfield 93, 3) := by decide +kernel
theorem dX4_sign_8 : decode cX4_sign 8 = .ok (.if_icmp .ge 15, 3) := by decide +kernel
theorem dX4_sign_11 : decode cX4_sign 11 = .ok (.aload_n 0, 1) := by decide +kernel
theorem dX4_sign_12 : decode cX4_sign 12 = .ok (.getfield 19, 3) := by decide +kernel
theorem dX4_sign_15 : decode cX4_sign 15 = .ok (.aload_n 0, 1) := by decide +kernel
theorem dX4_sign_16 : decode cX4_sign 16 = .ok (.getfield 96, 3) := by decide +kernel
theorem dX4_sign_19 : decode cX4_sign 19 = .ok (.iaload, 1) := by decide +kernel
theorem dX4_sign_20 : decode cX4_sign 20 = .ok (.goto 4, 3) := by decide +kernel
theorem dX4_sign_23 : decode cX4_sign 23 = .ok (.iconst 0, 1) := by decide +kernel
theorem dX4_sign_24 : decode cX4_sign 24 = .ok (.ireturn, 1) := by decide +kernel
set_option maxRecDepth 20000 in
theorem ggX4_digit_X4_sign : GoodIn wsX4_digit wsX4_sign := goodIn_r _ [7, 2, 8, 9, 13, 14, 15, 16, 17, 18, 19, 20, 21, 22, 23, 24] (by decide +kernel) (by decide +kernel)
set_option maxRecDepth 20000 in
theorem gX4_digit_X4_sign : GoodIn wsX4_digit (wsV RX4 103 RX4 yX4_sign wsX4_sign) := goodIn_app (goodIn_of _ (by decide +kernel)) ggX4_digit_X4_sign
set_option maxRecDepth 20000 in
theorem ggX4_digit_X4_in : GoodIn wsX4_digit wsX4_in := goodIn_r _ [12] (by decide +kernel) (by decide +kernel)
set_option maxRecDepth 20000 in
theorem gX4_digit_X4_in : GoodIn wsX4_digit (va_wsS RX4 29 yX4_in wsX4_in) := goodIn_app (goodIn_of _ (by decide +kernel)) ggX4_digit_X4_in
theorem dX4_digit_0 : decode cX4_digit 0 = .ok (.aload_n 0, 1) := by decide +kernel
theorem dX4_digit_1 : decode cX4_digit 1 = .ok (.aload_n 0, 1) := by decide +kernel
theorem dX4_digit_2 : decode cX4_digit 2 = .ok (.getfield 99, 3) := by decide +kernel
theorem dX4_digit_5 : decode cX4_digit 5 = .ok (.ifCond .eq 25, 3) := by decide +kernel
theorem dX4_digit_8 : decode cX4_digit 8 = .ok (.aload_n 0, 1) := by decide +kernel
theorem dX4_digit_9 : decode cX4_digit 9 = .ok (.invokevirtual 103, 3) := by decide +kernel
theorem dX4_digit_12 : decode cX4_digit 12 = .ok (.bipush 48, 2) := by decide +kernel
theorem dX4_digit_14 : decode cX4_digit 14 = .ok (.iload_n 1, 1) := by decide +kernel
theorem dX4_digit_15 : decode cX4_digit 15 = .ok (.iadd, 1) := by decide +kernel
theorem dX4_digit_16 : decode cX4_digit 16 = .ok (.bipush 48, 2) := by decide +kernel
theorem dX4_digit_18 : decode cX4_digit 18 = .ok (.iload_n 2, 1) := by decide +kernel
theorem dX4_digit_19 : decode cX4_digit 19 = .ok (.iadd, 1) := by decide +kernel
theorem dX4_digit_20 : decode cX4_digit 20 = .ok (.invokestatic 29, 3) := by decide +kernel
theorem dX4_digit_23 : decode cX4_digit 23 = .ok (.ifCond .eq 7, 3) := by decide +kernel
theorem dX4_digit_26 : decode cX4_digit 26 = .ok (.iconst 1, 1) := by decide +kernel
theorem dX4_digit_27 : decode cX4_digit 27 = .ok (.goto 4, 3) := by decide +kernel
theorem dX4_digit_30 : decode cX4_digit 30 = .ok (.iconst 0, 1) := by decide +kernel
theorem dX4_digit_31 : decode cX4_digit 31 = .ok (.putfield 99, 3) := by decide +kernel
theorem dX4_digit_34 : decode cX4_digit 34 = .ok (.aload_n 0, 1) := by decide +kernel
theorem dX4_digit_35 : decode cX4_digit 35 = .ok (.invokevirtual 103, 3) := by decide +kernel
theorem dX4_digit_38 : decode cX4_digit 38 = .ok (.bipush 48, 2) := by decide +kernel
theorem dX4_digit_40 : decode cX4_digit 40 = .ok (.isub, 1) := by decide +kernel
theorem dX4_digit_41 : decode cX4_digit 41 = .ok (.istore_n 3, 1) := by decide +kernel
theorem dX4_digit_42 : decode cX4_digit 42 = .ok (.aload_n 0, 1) := by decide +kernel
theorem dX4_digit_43 : decode cX4_digit 43 = .ok (.dup, 1) := by decide +kernel
theorem dX4_digit_44 : decode cX4_digit 44 = .ok (.getfield 96, 3) := by decide +kernel
theorem dX4_digit_47 : decode cX4_digit 47 = .ok (.aload_n 0, 1) := by decide +kernel
theorem dX4_digit_48 : decode cX4_digit 48 = .ok (.getfield 99, 3) := by decide +kernel
theorem dX4_digit_51 : decode cX4_digit 51 = .ok (.ifCond .eq 7, 3) := by decide +kernel
theorem dX4_digit_54 : decode cX4_digit 54 = .ok (.iconst 1, 1) := by decide +kernel
theorem dX4_digit_55 : decode cX4_digit 55 = .ok (.goto 4, 3) := by decide +kernel
theorem dX4_digit_58 : decode cX4_digit 58 = .ok (.iconst 0, 1) := by decide +kernel
theorem dX4_digit_59 : decode cX4_digit 59 = .ok (.iadd, 1) := by decide +kernel
theorem dX4_digit_60 : decode cX4_digit 60 = .ok (.putfield 96, 3) := by decide +kernel
theorem dX4_digit_63 : decode cX4_digit 63 = .ok (.iload_n 3, 1) := by decide +kernel
theorem dX4_digit_64 : decode cX4_digit 64 = .ok (.ireturn, 1) := by decide +kernel
set_option maxRecDepth 20000 in
theorem ggX4_number_X4_digit : GoodIn wsX4_number wsX4_digit := goodIn_r _ [7, 1, 2, 8, 9, 10, 6, 11, 12, 13, 14, 15, 16, 17, 18, 19, 20, 21, 22, 23, 24, 25, 26, 27, 28] (by decide +kernel) (by decide +kernel)
set_option maxRecDepth 20000 in
theorem gX4_number_X4_digit : GoodIn wsX4_number (wsV RX4 106 RX4 yX4_digit wsX4_digit) := goodIn_app (goodIn_of _ (by decide +kernel)) ggX4_number_X4_digit
set_option maxRecDepth 20000 in
theorem ggX4_number_X4_sign : GoodIn wsX4_number wsX4_sign := goodIn_r _ [11, 2, 12, 13, 17, 18, 19, 20, 21, 22, 23, 24, 25, 26, 27, 28] (by decide +kernel) (by decide +kernel)
set_option maxRecDepth 20000 in
theorem gX4_number_X4_sign : GoodIn wsX4_number (wsV RX4 103 RX4 yX4_sign wsX4_sign) := goodIn_app (goodIn_of _ (by decide +kernel)) ggX4_number_X4_sign
set_option maxRecDepth 20000 in
theorem ggX4_number_X4_in : GoodIn wsX4_number wsX4_in := goodIn_r _ [16] (by decide +kernel) (by decide +kernel)
set_option maxRecDepth 20000 in
theorem gX4_number_X4_in : GoodIn wsX4_number (va_wsS RX4 29 yX4_in wsX4_in) := goodIn_app (goodIn_of _ (by decide +kernel)) ggX4_number_X4_in
theorem dX4_number_0 : decode cX4_number 0 = .ok (.aload_n 0, 1) := by decide +kernel
theorem dX4_number_1 : decode cX4_number 1 = .ok (.iload_n 1, 1) := by decide +kernel
theorem dX4_number_2 : decode cX4_number 2 = .ok (.bipush 9, 2) := by decide +kernel
theorem dX4_number_4 : decode cX4_number 4 = .ok (.invokevirtual 106, 3) := by decide +kernel
theorem dX4_number_7 : decode cX4_number 7 = .ok (.istore_n 3, 1) := by decide +kernel
theorem dX4_number_8 : decode cX4_number 8 = .ok (.aload_n 0, 1) := by decide +kernel
theorem dX4_number_9 : decode cX4_number 9 = .ok (.getfield 99, 3) := by decide +kernel
theorem dX4_number_12 : decode cX4_number 12 = .ok (.ifCond .eq 60, 3) := by decide +kernel
theorem dX4_number_15 : decode cX4_number 15 = .ok (.iload_n 3, 1) := by decide +kernel
theorem dX4_number_16 : decode cX4_number 16 = .ok (.ifCond .le 56, 3) := by decide +kernel
theorem dX4_number_19 : decode cX4_number 19 = .ok (.aload_n 0, 1) := by decide +kernel
theorem dX4_number_20 : decode cX4_number 20 = .ok (.invokevirtual 103, 3) := by decide +kernel
theorem dX4_number_23 : decode cX4_number 23 = .ok (.bipush 48, 2) := by decide +kernel
theorem dX4_number_25 : decode cX4_number 25 = .ok (.bipush 57, 2) := by decide +kernel
theorem dX4_number_27 : decode cX4_number 27 = .ok (.invokestatic 29, 3) := by decide +kernel
theorem dX4_number_30 : decode cX4_number 30 = .ok (.ifCond .eq 42, 3) := by decide +kernel
theorem dX4_number_33 : decode cX4_number 33 = .ok (.bipush 10, 2) := by decide +kernel
theorem dX4_number_35 : decode cX4_number 35 = .ok (.iload_n 3, 1) := by decide +kernel
theorem dX4_number_36 : decode cX4_number 36 = .ok (.imul, 1) := by decide +kernel
theorem dX4_number_37 : decode cX4_number 37 = .ok (.aload_n 0, 1) := by decide +kernel
theorem dX4_number_38 : decode cX4_number 38 = .ok (.invokevirtual 103, 3) := by decide +kernel
theorem dX4_number_41 : decode cX4_number 41 = .ok (.iadd, 1) := by decide +kernel
theorem dX4_number_42 : decode cX4_number 42 = .ok (.bipush 48, 2) := by decide +kernel
theorem dX4_number_44 : decode cX4_number 44 = .ok (.isub, 1) := by decide +kernel
theorem dX4_number_45 : decode cX4_number 45 = .ok (.iload_n 2, 1) := by decide +kernel
theorem dX4_number_46 : decode cX4_number 46 = .ok (.if_icmp .gt 26, 3) := by decide +kernel
theorem dX4_number_49 : decode cX4_number 49 = .ok (.bipush 10, 2) := by decide +kernel
theorem dX4_number_51 : decode cX4_number 51 = .ok (.iload_n 3, 1) := by decide +kernel
theorem dX4_number_52 : decode cX4_number 52 = .ok (.imul, 1) := by decide +kernel
theorem dX4_number_53 : decode cX4_number 53 = .ok (.aload_n 0, 1) := by decide +kernel
theorem dX4_number_54 : decode cX4_number 54 = .ok (.invokevirtual 103, 3) := by decide +kernel
theorem dX4_number_57 : decode cX4_number 57 = .ok (.iadd, 1) := by decide +kernel
theorem dX4_number_58 : decode cX4_number 58 = .ok (.bipush 48, 2) := by decide +kernel
theorem dX4_number_60 : decode cX4_number 60 = .ok (.isub, 1) := by decide +kernel
theorem dX4_number_61 : decode cX4_number 61 = .ok (.istore_n 3, 1) := by decide +kernel
theorem dX4_number_62 : decode cX4_number 62 = .ok (.aload_n 0, 1) := by decide +kernel
theorem dX4_number_63 : decode cX4_number 63 = .ok (.dup, 1) := by decide +kernel
theorem dX4_number_64 : decode cX4_number 64 = .ok (.getfield 96, 3) := by decide +kernel
theorem dX4_number_67 : decode cX4_number 67 = .ok (.iconst 1, 1) := by decide +kernel
theorem dX4_number_68 : decode cX4_number 68 = .ok (.iadd, 1) := by decide +kernel
theorem dX4_number_69 : decode cX4_number 69 = .ok (.putfield 96, 3) := by decide +kernel
theorem dX4_number_72 : decode cX4_number 72 = .ok (.iload_n 3, 1) := by decide +kernel
theorem dX4_number_73 : decode cX4_number 73 = .ok (.ireturn, 1) := by decide +kernel
set_option maxRecDepth 20000 in
theorem ggX4_readsPart_X4_sign : GoodIn wsX4_readsPart wsX4_sign := goodIn_r _ [9, 2, 10, 11, 23, 24, 25, 26, 27, 28, 29, 30, 31, 32, 33, 34] (by decide +kernel) (by decide +kernel)
set_option maxRecDepth 20000 in
theorem gX4_readsPart_X4_sign : GoodIn wsX4_readsPart (wsV RX4 103 RX4 yX4_sign wsX4_sign) := goodIn_app (goodIn_of _ (by decide +kernel)) ggX4_readsPart_X4_sign
set_option maxRecDepth 20000 in
theorem ggX4_readsPart_X4_digit : GoodIn wsX4_readsPart wsX4_digit := goodIn_r _ [15, 4, 2, 5, 6, 7, 8, 9, 10, 11, 16, 17, 18, 23, 24, 25, 26, 27, 28, 29, 30, 31, 32, 33, 34] (by decide +kernel) (by decide +kernel)
set_option maxRecDepth 20000 in
theorem gX4_readsPart_X4_digit : GoodIn wsX4_readsPart (wsV RX4 106 RX4 yX4_digit wsX4_digit) := goodIn_app (goodIn_of _ (by decide +kernel)) ggX4_readsPart_X4_digit
set_option maxRecDepth 20000 in
theorem ggX4_readsPart_X4_number : GoodIn wsX4_readsPart wsX4_number := goodIn_r _ [22, 4, 2, 12, 13, 14, 8, 15, 5, 6, 7, 9, 10, 11, 16, 17, 18, 23, 24, 25, 26, 27, 28, 29, 30, 31, 32, 33, 34] (by decide +kernel) (by decide +kernel)
set_option maxRecDepth 20000 in
theorem gX4_readsPart_X4_number : GoodIn wsX4_readsPart (wsV RX4 112 RX4 yX4_number wsX4_number) := goodIn_app (goodIn_of _ (by decide +kernel)) ggX4_readsPart_X4_number
theorem dX4_readsPart_0 : decode cX4_readsPart 0 = .ok (.iconst 2, 1) := by decide +kernel
theorem dX4_readsPart_1 : decode cX4_readsPart 1 = .ok (.aload_n 0, 1) := by decide +kernel
theorem dX4_readsPart_2 : decode cX4_readsPart 2 = .ok (.getfield 109, 3) := by decide +kernel
theorem dX4_readsPart_5 : decode cX4_readsPart 5 = .ok (.imul, 1) := by decide +kernel
theorem dX4_readsPart_6 : decode cX4_readsPart 6 = .ok (.istore_n 1, 1) := by decide +kernel
theorem dX4_readsPart_7 : decode cX4_readsPart 7 = .ok (.aload_n 0, 1) := by decide +kernel
theorem dX4_readsPart_8 : decode cX4_readsPart 8 = .ok (.invokevirtual 103, 3) := by decide +kernel
theorem dX4_readsPart_11 : decode cX4_readsPart 11 = .ok (.istore_n 2, 1) := by decide +kernel
theorem dX4_readsPart_12 : decode cX4_readsPart 12 = .ok (.iload_n 2, 1) := by decide +kernel
theorem dX4_readsPart_13 : decode cX4_readsPart 13 = .ok (.bipush 119, 2) := by decide +kernel
theorem dX4_readsPart_15 : decode cX4_readsPart 15 = .ok (.if_icmp .ne 23, 3) := by decide +kernel
theorem dX4_readsPart_18 : decode cX4_readsPart 18 = .ok (.aload_n 0, 1) := by decide +kernel
theorem dX4_readsPart_19 : decode cX4_readsPart 19 = .ok (.dup, 1) := by decide +kernel
theorem dX4_readsPart_20 : decode cX4_readsPart 20 = .ok (.getfield 96, 3) := by decide +kernel
theorem dX4_readsPart_23 : decode cX4_readsPart 23 = .ok (.iconst 1, 1) := by decide +kernel
theorem dX4_readsPart_24 : decode cX4_readsPart 24 = .ok (.iadd, 1) := by decide +kernel
theorem dX4_readsPart_25 : decode cX4_readsPart 25 = .ok (.putfield 96, 3) := by decide +kernel
theorem dX4_readsPart_28 : decode cX4_readsPart 28 = .ok (.aload_n 0, 1) := by decide +kernel
theorem dX4_readsPart_29 : decode cX4_readsPart 29 = .ok (.getfield 22, 3) := by decide +kernel
theorem dX4_readsPart_32 : decode cX4_readsPart 32 = .ok (.iload_n 1, 1) := by decide +kernel
theorem dX4_readsPart_33 : decode cX4_readsPart 33 = .ok (.iconst (-1), 1) := by decide +kernel
theorem dX4_readsPart_34 : decode cX4_readsPart 34 = .ok (.iastore, 1) := by decide +kernel
theorem dX4_readsPart_35 : decode cX4_readsPart 35 = .ok (.goto 118, 3) := by decide +kernel
theorem dX4_readsPart_38 : decode cX4_readsPart 38 = .ok (.iload_n 2, 1) := by decide +kernel
theorem dX4_readsPart_39 : decode cX4_readsPart 39 = .ok (.bipush 99, 2) := by decide +kernel
theorem dX4_readsPart_41 : decode cX4_readsPart 41 = .ok (.if_icmp .ne 38, 3) := by decide +kernel
theorem dX4_readsPart_44 : decode cX4_readsPart 44 = .ok (.aload_n 0, 1) := by decide +kernel
theorem dX4_readsPart_45 : decode cX4_readsPart 45 = .ok (.dup, 1) := by decide +kernel
theorem dX4_readsPart_46 : decode cX4_readsPart 46 = .ok (.getfield 96, 3) := by decide +kernel
theorem dX4_readsPart_49 : decode cX4_readsPart 49 = .ok (.iconst 1, 1) := by decide +kernel
theorem dX4_readsPart_50 : decode cX4_readsPart 50 = .ok (.iadd, 1) := by decide +kernel
theorem dX4_readsPart_51 : decode cX4_readsPart 51 = .ok (.putfield 96, 3) := by decide +kernel
theorem dX4_readsPart_54 : decode cX4_readsPart 54 = .ok (.aload_n 0, 1) := by decide +kernel
theorem dX4_readsPart_55 : decode cX4_readsPart 55 = .ok (.getfield 22, 3) := by decide +kernel
theorem dX4_readsPart_58 : decode cX4_readsPart 58 = .ok (.iload_n 1, 1) := by decide +kernel
theorem dX4_readsPart_59 : decode cX4_readsPart 59 = .ok (.bipush (-2), 2) := by decide +kernel
theorem dX4_readsPart_61 : decode cX4_readsPart 61 = .ok (.iastore, 1) := by decide +kernel
theorem dX4_readsPart_62 : decode cX4_readsPart 62 = .ok (.aload_n 0, 1) := by decide +kernel
theorem dX4_readsPart_63 : decode cX4_readsPart 63 = .ok (.getfield 22, 3) := by decide +kernel
theorem dX4_readsPart_66 : decode cX4_readsPart 66 = .ok (.iload_n 1, 1) := by decide +kernel
theorem dX4_readsPart_67 : decode cX4_readsPart 67 = .ok (.iconst 1, 1) := by decide +kernel
theorem dX4_readsPart_68 : decode cX4_readsPart 68 = .ok (.iadd, 1) := by decide +kernel
theorem dX4_readsPart_69 : decode cX4_readsPart 69 = .ok (.aload_n 0, 1) := by decide +kernel
theorem dX4_readsPart_70 : decode cX4_readsPart 70 = .ok (.iconst 0, 1) := by decide +kernel
theorem dX4_readsPart_71 : decode cX4_readsPart 71 = .ok (.iconst 5, 1) := by decide +kernel
theorem dX4_readsPart_72 : decode cX4_readsPart 72 = .ok (.invokevirtual 106, 3) := by decide +kernel
theorem dX4_readsPart_75 : decode cX4_readsPart 75 = .ok (.iastore, 1) := by decide +kernel
theorem dX4_readsPart_76 : decode cX4_readsPart 76 = .ok (.goto 77, 3) := by decide +kernel
theorem dX4_readsPart_79 : decode cX4_readsPart 79 = .ok (.aload_n 0, 1) := by decide +kernel
theorem dX4_readsPart_80 : decode cX4_readsPart 80 = .ok (.getfield 22, 3) := by decide +kernel
theorem dX4_readsPart_83 : decode cX4_readsPart 83 = .ok (.iload_n 1, 1) := by decide +kernel
theorem dX4_readsPart_84 : decode cX4_readsPart 84 = .ok (.aload_n 0, 1) := by decide +kernel
theorem dX4_readsPart_85 : decode cX4_readsPart 85 = .ok (.iconst 0, 1) := by decide +kernel
theorem dX4_readsPart_86 : decode cX4_readsPart 86 = .ok (.bipush 99, 2) := by decide +kernel
theorem dX4_readsPart_88 : decode cX4_readsPart 88 = .ok (.invokevirtual 112, 3) := by decide +kernel
theorem dX4_readsPart_91 : decode cX4_readsPart 91 = .ok (.iastore, 1) := by decide +kernel
theorem dX4_readsPart_92 : decode cX4_readsPart 92 = .ok (.aload_n 0, 1) := by decide +kernel
theorem dX4_readsPart_93 : decode cX4_readsPart 93 = .ok (.aload_n 0, 1) := by decide +kernel
theorem dX4_readsPart_94 : decode cX4_readsPart 94 = .ok (.getfield 99, 3) := by decide +kernel
theorem dX4_readsPart_97 : decode cX4_readsPart 97 = .ok (.ifCond .eq 16, 3) := by decide +kernel
theorem dX4_readsPart_100 : decode cX4_readsPart 100 = .ok (.aload_n 0, 1) := by decide +kernel
theorem dX4_readsPart_101 : decode cX4_readsPart 101 = .ok (.invokevirtual 103, 3) := by decide +kernel
theorem dX4_readsPart_104 : decode cX4_readsPart 104 = .ok (.bipush 42, 2) := by decide +kernel
theorem dX4_readsPart_106 : decode cX4_readsPart 106 = .ok (.if_icmp .ne 7, 3) := by decide +kernel
theorem dX4_readsPart_109 : decode cX4_readsPart 109 = .ok (.iconst 1, 1) := by decide +kernel
theorem dX4_readsPart_110 : decode cX4_readsPart 110 = .ok (.goto 4, 3) := by decide +kernel
theorem dX4_readsPart_113 : decode cX4_readsPart 113 = .ok (.iconst 0, 1) := by decide +kernel
theorem dX4_readsPart_114 : decode cX4_readsPart 114 = .ok (.putfield 99, 3) := by decide +kernel
theorem dX4_readsPart_117 : decode cX4_readsPart 117 = .ok (.aload_n 0, 1) := by decide +kernel
theorem dX4_readsPart_118 : decode cX4_readsPart 118 = .ok (.dup, 1) := by decide +kernel
theorem dX4_readsPart_119 : decode cX4_readsPart 119 = .ok (.getfield 96, 3) := by decide +kernel
theorem dX4_readsPart_122 : decode cX4_readsPart 122 = .ok (.aload_n 0, 1) := by decide +kernel
theorem dX4_readsPart_123 : decode cX4_readsPart 123 = .ok (.getfield 99, 3) := by decide +kernel
theorem dX4_readsPart_126 : decode cX4_readsPart 126 = .ok (.ifCond .eq 7, 3) := by decide +kernel
theorem dX4_readsPart_129 : decode cX4_readsPart 129 = .ok (.iconst 1, 1) := by decide +kernel
theorem dX4_readsPart_130 : decode cX4_readsPart 130 = .ok (.goto 4, 3) := by decide +kernel
theorem dX4_readsPart_133 : decode cX4_readsPart 133 = .ok (.iconst 0, 1) := by decide +kernel
theorem dX4_readsPart_134 : decode cX4_readsPart 134 = .ok (.iadd, 1) := by decide +kernel
theorem dX4_readsPart_135 : decode cX4_readsPart 135 = .ok (.putfield 96, 3) := by decide +kernel
theorem dX4_readsPart_138 : decode cX4_readsPart 138 = .ok (.aload_n 0, 1) := by decide +kernel
theorem dX4_readsPart_139 : decode cX4_readsPart 139 = .ok (.getfield 22, 3) := by decide +kernel
theorem dX4_readsPart_142 : decode cX4_readsPart 142 = .ok (.iload_n 1, 1) := by decide +kernel
theorem dX4_readsPart_143 : decode cX4_readsPart 143 = .ok (.iconst 1, 1) := by decide +kernel
theorem dX4_readsPart_144 : decode cX4_readsPart 144 = .ok (.iadd, 1) := by decide +kernel
theorem dX4_readsPart_145 : decode cX4_readsPart 145 = .ok (.aload_n 0, 1) := by decide +kernel
theorem dX4_readsPart_146 : decode cX4_readsPart 146 = .ok (.iconst 1, 1) := by decide +kernel
theorem dX4_readsPart_147 : decode cX4_readsPart 147 = .ok (.bipush 60, 2) := by decide +kernel
theorem dX4_readsPart_149 : decode cX4_readsPart 149 = .ok (.invokevirtual 112, 3) := by decide +kernel
theorem dX4_readsPart_152 : decode cX4_readsPart 152 = .ok (.iastore, 1) := by decide +kernel
theorem dX4_readsPart_153 : decode cX4_readsPart 153 = .ok (.aload_n 0, 1) := by decide +kernel
theorem dX4_readsPart_154 : decode cX4_readsPart 154 = .ok (.dup, 1) := by decide +kernel
theorem dX4_readsPart_155 : decode cX4_readsPart 155 = .ok (.getfield 109, 3) := by decide +kernel
theorem dX4_readsPart_158 : decode cX4_readsPart 158 = .ok (.aload_n 0, 1) := by decide +kernel
theorem dX4_readsPart_159 : decode cX4_readsPart 159 = .ok (.getfield 99, 3) := by decide +kernel
theorem dX4_readsPart_162 : decode cX4_readsPart 162 = .ok (.ifCond .eq 7, 3) := by decide +kernel
theorem dX4_readsPart_165 : decode cX4_readsPart 165 = .ok (.iconst 1, 1) := by decide +kernel
theorem dX4_readsPart_166 : decode cX4_readsPart 166 = .ok (.goto 4, 3) := by decide +kernel
theorem dX4_readsPart_169 : decode cX4_readsPart 169 = .ok (.iconst 0, 1) := by decide +kernel
theorem dX4_readsPart_170 : decode cX4_readsPart 170 = .ok (.iadd, 1) := by decide +kernel
theorem dX4_readsPart_171 : decode cX4_readsPart 171 = .ok (.putfield 109, 3) := by decide +kernel
theorem dX4_readsPart_174 : decode cX4_readsPart 174 = .ok (.return_, 1) := by decide +kernel
set_option maxRecDepth 20000 in
theorem ggX4_readsAll_X4_readsPart : GoodIn wsX4_readsAll wsX4_readsPart := goodIn_r _ [9, 3, 1, 10, 2, 11, 12, 13, 8, 14, 4, 15, 16, 17, 18, 19, 20, 21, 22, 23, 24, 25, 26, 27, 28, 29, 30, 31, 32, 33, 34, 35, 36, 37, 38] (by decide +kernel) (by decide +kernel)
set_option maxRecDepth 20000 in
theorem gX4_readsAll_X4_readsPart : GoodIn wsX4_readsAll (wsV RX4 115 RX4 yX4_readsPart wsX4_readsPart) := goodIn_app (goodIn_of _ (by decide +kernel)) ggX4_readsAll_X4_readsPart
set_option maxRecDepth 20000 in
theorem ggX4_readsAll_X4_sign : GoodIn wsX4_readsAll wsX4_sign := goodIn_r _ [14, 1, 4, 15, 27, 28, 29, 30, 31, 32, 33, 34, 35, 36, 37, 38] (by decide +kernel) (by decide +kernel)
set_option maxRecDepth 20000 in
theorem gX4_readsAll_X4_sign : GoodIn wsX4_readsAll (wsV RX4 103 RX4 yX4_sign wsX4_sign) := goodIn_app (goodIn_of _ (by decide +kernel)) ggX4_readsAll_X4_sign
theorem dX4_readsAll_0 : decode cX4_readsAll 0 = .ok (.aload_n 0, 1) := by decide +kernel
theorem dX4_readsAll_1 : decode cX4_readsAll 1 = .ok (.iconst 0, 1) := by decide +kernel
theorem dX4_readsAll_2 : decode cX4_readsAll 2 = .ok (.putfield 96, 3) := by decide +kernel
theorem dX4_readsAll_5 : decode cX4_readsAll 5 = .ok (.aload_n 0, 1) := by decide +kernel
theorem dX4_readsAll_6 : decode cX4_readsAll 6 = .ok (.iconst 1, 1) := by decide +kernel
theorem dX4_readsAll_7 : decode cX4_readsAll 7 = .ok (.putfield 99, 3) := by decide +kernel
theorem dX4_readsAll_10 : decode cX4_readsAll 10 = .ok (.aload_n 0, 1) := by decide +kernel
theorem dX4_readsAll_11 : decode cX4_readsAll 11 = .ok (.iconst 0, 1) := by decide +kernel
theorem dX4_readsAll_12 : decode cX4_readsAll 12 = .ok (.putfield 109, 3) := by decide +kernel
theorem dX4_readsAll_15 : decode cX4_readsAll 15 = .ok (.aload_n 0, 1) := by decide +kernel
theorem dX4_readsAll_16 : decode cX4_readsAll 16 = .ok (.invokevirtual 115, 3) := by decide +kernel
theorem dX4_readsAll_19 : decode cX4_readsAll 19 = .ok (.aload_n 0, 1) := by decide +kernel
theorem dX4_readsAll_20 : decode cX4_readsAll 20 = .ok (.getfield 99, 3) := by decide +kernel
theorem dX4_readsAll_23 : decode cX4_readsAll 23 = .ok (.ifCond .eq 67, 3) := by decide +kernel
theorem dX4_readsAll_26 : decode cX4_readsAll 26 = .ok (.aload_n 0, 1) := by decide +kernel
theorem dX4_readsAll_27 : decode cX4_readsAll 27 = .ok (.getfield 96, 3) := by decide +kernel
theorem dX4_readsAll_30 : decode cX4_readsAll 30 = .ok (.aload_n 0, 1) := by decide +kernel
theorem dX4_readsAll_31 : decode cX4_readsAll 31 = .ok (.getfield 93, 3) := by decide +kernel
theorem dX4_readsAll_34 : decode cX4_readsAll 34 = .ok (.if_icmp .ge 56, 3) := by decide +kernel
theorem dX4_readsAll_37 : decode cX4_readsAll 37 = .ok (.aload_n 0, 1) := by decide +kernel
theorem dX4_readsAll_38 : decode cX4_readsAll 38 = .ok (.aload_n 0, 1) := by decide +kernel
theorem dX4_readsAll_39 : decode cX4_readsAll 39 = .ok (.invokevirtual 103, 3) := by decide +kernel
theorem dX4_readsAll_42 : decode cX4_readsAll 42 = .ok (.bipush 59, 2) := by decide +kernel
theorem dX4_readsAll_44 : decode cX4_readsAll 44 = .ok (.if_icmp .ne 7, 3) := by decide +kernel
theorem dX4_readsAll_47 : decode cX4_readsAll 47 = .ok (.iconst 1, 1) := by decide +kernel
theorem dX4_readsAll_48 : decode cX4_readsAll 48 = .ok (.goto 4, 3) := by decide +kernel
theorem dX4_readsAll_51 : decode cX4_readsAll 51 = .ok (.iconst 0, 1) := by decide +kernel
theorem dX4_readsAll_52 : decode cX4_readsAll 52 = .ok (.putfield 99, 3) := by decide +kernel
theorem dX4_readsAll_55 : decode cX4_readsAll 55 = .ok (.aload_n 0, 1) := by decide +kernel
theorem dX4_readsAll_56 : decode cX4_readsAll 56 = .ok (.dup, 1) := by decide +kernel
theorem dX4_readsAll_57 : decode cX4_readsAll 57 = .ok (.getfield 96, 3) := by decide +kernel
theorem dX4_readsAll_60 : decode cX4_readsAll 60 = .ok (.aload_n 0, 1) := by decide +kernel
theorem dX4_readsAll_61 : decode cX4_readsAll 61 = .ok (.getfield 99, 3) := by decide +kernel
theorem dX4_readsAll_64 : decode cX4_readsAll 64 = .ok (.ifCond .eq 7, 3) := by decide +kernel
theorem dX4_readsAll_67 : decode cX4_readsAll 67 = .ok (.iconst 1, 1) := by decide +kernel
theorem dX4_readsAll_68 : decode cX4_readsAll 68 = .ok (.goto 4, 3) := by decide +kernel
theorem dX4_readsAll_71 : decode cX4_readsAll 71 = .ok (.iconst 0, 1) := by decide +kernel
theorem dX4_readsAll_72 : decode cX4_readsAll 72 = .ok (.iadd, 1) := by decide +kernel
theorem dX4_readsAll_73 : decode cX4_readsAll 73 = .ok (.putfield 96, 3) := by decide +kernel
theorem dX4_readsAll_76 : decode cX4_readsAll 76 = .ok (.aload_n 0, 1) := by decide +kernel
theorem dX4_readsAll_77 : decode cX4_readsAll 77 = .ok (.getfield 99, 3) := by decide +kernel
theorem dX4_readsAll_80 : decode cX4_readsAll 80 = .ok (.ifCond .eq (-61), 3) := by decide +kernel
theorem dX4_readsAll_83 : decode cX4_readsAll 83 = .ok (.aload_n 0, 1) := by decide +kernel
theorem dX4_readsAll_84 : decode cX4_readsAll 84 = .ok (.invokevirtual 115, 3) := by decide +kernel
theorem dX4_readsAll_87 : decode cX4_readsAll 87 = .ok (.goto (-68), 3) := by decide +kernel
theorem dX4_readsAll_90 : decode cX4_readsAll 90 = .ok (.return_, 1) := by decide +kernel
set_option maxRecDepth 20000 in
theorem ggX4_firstError_X4_readsAll : GoodIn wsX4_firstError wsX4_readsAll := goodIn_r _ [7, 2, 8, 9, 10, 11, 12, 13, 6, 14, 15, 16, 17, 18, 19, 20, 21, 22, 23, 24, 25, 26, 27, 28, 29, 30, 31, 32, 33, 34, 35, 36, 37, 38, 39, 40, 41, 42, 43] (by decide +kernel) (by decide +kernel)
set_option maxRecDepth 20000 in
theorem gX4_firstError_X4_readsAll : GoodIn wsX4_firstError (wsV RX4 118 RX4 yX4_readsAll wsX4_readsAll) := goodIn_app (goodIn_of _ (by decide +kernel)) ggX4_firstError_X4_readsAll
theorem dX4_firstError_0 : decode cX4_firstError 0 = .ok (.aload_n 0, 1) := by decide +kernel
theorem dX4_firstError_1 : decode cX4_firstError 1 = .ok (.iconst 0, 1) := by decide +kernel
theorem dX4_firstError_2 : decode cX4_firstError 2 = .ok (.putfield 25, 3) := by decide +kernel
theorem dX4_firstError_5 : decode cX4_firstError 5 = .ok (.aload_n 0, 1) := by decide +kernel
theorem dX4_firstError_6 : decode cX4_firstError 6 = .ok (.invokevirtual 118, 3) := by decide +kernel
theorem dX4_firstError_9 : decode cX4_firstError 9 = .ok (.aload_n 0, 1) := by decide +kernel
theorem dX4_firstError_10 : decode cX4_firstError 10 = .ok (.getfield 96, 3) := by decide +kernel
theorem dX4_firstError_13 : decode cX4_firstError 13 = .ok (.ireturn, 1) := by decide +kernel
set_option maxRecDepth 20000 in
theorem ggX4_play_X4_readsAll : GoodIn wsX4_play wsX4_readsAll := goodIn_r _ [11, 12, 2, 4, 3, 13, 14, 15, 10, 16, 5, 17, 18, 19, 20, 21, 22, 23, 24, 25, 26, 27, 28, 29, 30, 31, 32, 87, 88, 89, 90, 91, 92, 93, 94, 95, 96, 97, 98] (by decide +kernel) (by decide +kernel)
set_option maxRecDepth 20000 in
theorem gX4_play_X4_readsAll : GoodIn wsX4_play (wsV RX4 118 RX4 yX4_readsAll wsX4_readsAll) := goodIn_app (goodIn_of _ (by decide +kernel)) ggX4_play_X4_readsAll
set_option maxRecDepth 20000 in
theorem ggX4_play_X4_fails : GoodIn wsX4_play wsX4_fails := goodIn_r _ [36, 1, 87, 88, 89, 90, 91, 92, 93, 94, 95, 96, 97, 98] (by decide +kernel) (by decide +kernel)
set_option maxRecDepth 20000 in
theorem gX4_play_X4_fails : GoodIn wsX4_play (wsV RX4 73 RX4 yX4_fails wsX4_fails) := goodIn_app (goodIn_of _ (by decide +kernel)) ggX4_play_X4_fails
set_option maxRecDepth 20000 in
theorem ggX4_play_X4_saves : GoodIn wsX4_play wsX4_saves := goodIn_r _ [40, 41, 42, 6, 87, 88, 89, 90, 91, 92, 93, 94, 95, 96, 97, 98] (by decide +kernel) (by decide +kernel)
set_option maxRecDepth 20000 in
theorem gX4_play_X4_saves : GoodIn wsX4_play (wsV RX4 76 RX4 yX4_saves wsX4_saves) := goodIn_app (goodIn_of _ (by decide +kernel)) ggX4_play_X4_saves
set_option maxRecDepth 20000 in
theorem ggX4_play_X4_week : GoodIn wsX4_play wsX4_week := goodIn_r _ [46, 6, 47, 48, 49, 10, 50, 87, 88, 89, 90, 91, 92, 93, 94, 95, 96, 97, 98] (by decide +kernel) (by decide +kernel)
set_option maxRecDepth 20000 in
theorem gX4_play_X4_week : GoodIn wsX4_play (wsV RX4 86 RX4 yX4_week wsX4_week) := goodIn_app (goodIn_of _ (by decide +kernel)) ggX4_play_X4_week
set_option maxRecDepth 20000 in
theorem ggX4_play_X4_rains : GoodIn wsX4_play wsX4_rains := goodIn_r _ [54, 6, 55, 56, 57, 10, 58, 59, 60, 61, 62, 63, 64, 65, 66, 67, 68, 69, 70, 71, 72, 73, 74, 75, 76, 77, 78, 47, 48, 49, 50, 79, 80, 81, 82, 83, 84, 85, 86, 87, 88, 89, 90, 91, 92, 93, 94, 95, 96, 97, 98] (by decide +kernel) (by decide +kernel)
set_option maxRecDepth 20000 in
theorem gX4_play_X4_rains : GoodIn wsX4_play (wsV RX4 83 RX4 yX4_rains wsX4_rains) := goodIn_app (goodIn_of _ (by decide +kernel)) ggX4_play_X4_rains
theorem dX4_play_0 : decode cX4_play 0 = .ok (.aload_n 0, 1) := by decide +kernel
theorem dX4_play_1 : decode cX4_play 1 = .ok (.iconst 0, 1) := by decide +kernel
theorem dX4_play_2 : decode cX4_play 2 = .ok (.putfield 25, 3) := by decide +kernel
theorem dX4_play_5 : decode cX4_play 5 = .ok (.aload_n 0, 1) := by decide +kernel
theorem dX4_play_6 : decode cX4_play 6 = .ok (.invokevirtual 118, 3) := by decide +kernel
theorem dX4_play_9 : decode cX4_play 9 = .ok (.aload_n 0, 1) := by decide +kernel
theorem dX4_play_10 : decode cX4_play 10 = .ok (.getfield 99, 3) := by decide +kernel
theorem dX4_play_13 : decode cX4_play 13 = .ok (.ifCond .ne 9, 3) := by decide +kernel
theorem dX4_play_16 : decode cX4_play 16 = .ok (.aload_n 0, 1) := by decide +kernel
theorem dX4_play_17 : decode cX4_play 17 = .ok (.iconst 1, 1) := by decide +kernel
theorem dX4_play_18 : decode cX4_play 18 = .ok (.invokevirtual 73, 3) := by decide +kernel
theorem dX4_play_21 : decode cX4_play 21 = .ok (.ireturn, 1) := by decide +kernel
theorem dX4_play_22 : decode cX4_play 22 = .ok (.aload_n 0, 1) := by decide +kernel
theorem dX4_play_23 : decode cX4_play 23 = .ok (.invokevirtual 76, 3) := by decide +kernel
theorem dX4_play_26 : decode cX4_play 26 = .ok (.aload_n 0, 1) := by decide +kernel
theorem dX4_play_27 : decode cX4_play 27 = .ok (.iconst 0, 1) := by decide +kernel
theorem dX4_play_28 : decode cX4_play 28 = .ok (.putfield 93, 3) := by decide +kernel
theorem dX4_play_31 : decode cX4_play 31 = .ok (.iconst 0, 1) := by decide +kernel
theorem dX4_play_32 : decode cX4_play 32 = .ok (.istore_n 1, 1) := by decide +kernel
theorem dX4_play_33 : decode cX4_play 33 = .ok (.iconst 0, 1) := by decide +kernel
theorem dX4_play_34 : decode cX4_play 34 = .ok (.istore_n 2, 1) := by decide +kernel
theorem dX4_play_35 : decode cX4_play 35 = .ok (.iload_n 2, 1) := by decide +kernel
theorem dX4_play_36 : decode cX4_play 36 = .ok (.aload_n 0, 1) := by decide +kernel
theorem dX4_play_37 : decode cX4_play 37 = .ok (.getfield 109, 3) := by decide +kernel
theorem dX4_play_40 : decode cX4_play 40 = .ok (.if_icmp .ge 93, 3) := by decide +kernel
theorem dX4_play_43 : decode cX4_play 43 = .ok (.aload_n 0, 1) := by decide +kernel
theorem dX4_play_44 : decode cX4_play 44 = .ok (.getfield 22, 3) := by decide +kernel
theorem dX4_play_47 : decode cX4_play 47 = .ok (.iconst 2, 1) := by decide +kernel
theorem dX4_play_48 : decode cX4_play 48 = .ok (.iload_n 2, 1) := by decide +kernel
theorem dX4_play_49 : decode cX4_play 49 = .ok (.imul, 1) := by decide +kernel
theorem dX4_play_50 : decode cX4_play 50 = .ok (.iaload, 1) := by decide +kernel
theorem dX4_play_51 : decode cX4_play 51 = .ok (.iconst (-1), 1) := by decide +kernel
theorem dX4_play_52 : decode cX4_play 52 = .ok (.if_icmp .ne 10, 3) := by decide +kernel
theorem dX4_play_55 : decode cX4_play 55 = .ok (.aload_n 0, 1) := by decide +kernel
theorem dX4_play_56 : decode cX4_play 56 = .ok (.invokevirtual 86, 3) := by decide +kernel
theorem dX4_play_59 : decode cX4_play 59 = .ok (.goto 68, 3) := by decide +kernel
theorem dX4_play_62 : decode cX4_play 62 = .ok (.aload_n 0, 1) := by decide +kernel
theorem dX4_play_63 : decode cX4_play 63 = .ok (.getfield 22, 3) := by decide +kernel
theorem dX4_play_66 : decode cX4_play 66 = .ok (.iconst 2, 1) := by decide +kernel
theorem dX4_play_67 : decode cX4_play 67 = .ok (.iload_n 2, 1) := by decide +kernel
theorem dX4_play_68 : decode cX4_play 68 = .ok (.imul, 1) := by decide +kernel
theorem dX4_play_69 : decode cX4_play 69 = .ok (.iaload, 1) := by decide +kernel
theorem dX4_play_70 : decode cX4_play 70 = .ok (.bipush (-2), 2) := by decide +kernel
theorem dX4_play_72 : decode cX4_play 72 = .ok (.if_icmp .ne 30, 3) := by decide +kernel
theorem dX4_play_75 : decode cX4_play 75 = .ok (.aload_n 0, 1) := by decide +kernel
theorem dX4_play_76 : decode cX4_play 76 = .ok (.getfield 7, 3) := by decide +kernel
theorem dX4_play_79 : decode cX4_play 79 = .ok (.bipush 33, 2) := by decide +kernel
theorem dX4_play_81 : decode cX4_play 81 = .ok (.bipush 7, 2) := by decide +kernel
theorem dX4_play_83 : decode cX4_play 83 = .ok (.aload_n 0, 1) := by decide +kernel
theorem dX4_play_84 : decode cX4_play 84 = .ok (.getfield 22, 3) := by decide +kernel
theorem dX4_play_87 : decode cX4_play 87 = .ok (.iconst 2, 1) := by decide +kernel
theorem dX4_play_88 : decode cX4_play 88 = .ok (.iload_n 2, 1) := by decide +kernel
theorem dX4_play_89 : decode cX4_play 89 = .ok (.imul, 1) := by decide +kernel
theorem dX4_play_90 : decode cX4_play 90 = .ok (.iconst 1, 1) := by decide +kernel
theorem dX4_play_91 : decode cX4_play 91 = .ok (.iadd, 1) := by decide +kernel
theorem dX4_play_92 : decode cX4_play 92 = .ok (.iaload, 1) := by decide +kernel
theorem dX4_play_93 : decode cX4_play 93 = .ok (.imul, 1) := by decide +kernel
theorem dX4_play_94 : decode cX4_play 94 = .ok (.iadd, 1) := by decide +kernel
theorem dX4_play_95 : decode cX4_play 95 = .ok (.iconst 2, 1) := by decide +kernel
theorem dX4_play_96 : decode cX4_play 96 = .ok (.iadd, 1) := by decide +kernel
theorem dX4_play_97 : decode cX4_play 97 = .ok (.iconst 0, 1) := by decide +kernel
theorem dX4_play_98 : decode cX4_play 98 = .ok (.iastore, 1) := by decide +kernel
theorem dX4_play_99 : decode cX4_play 99 = .ok (.goto 28, 3) := by decide +kernel
theorem dX4_play_102 : decode cX4_play 102 = .ok (.iload_n 1, 1) := by decide +kernel
theorem dX4_play_103 : decode cX4_play 103 = .ok (.aload_n 0, 1) := by decide +kernel
theorem dX4_play_104 : decode cX4_play 104 = .ok (.aload_n 0, 1) := by decide +kernel
theorem dX4_play_105 : decode cX4_play 105 = .ok (.getfield 22, 3) := by decide +kernel
theorem dX4_play_108 : decode cX4_play 108 = .ok (.iconst 2, 1) := by decide +kernel
theorem dX4_play_109 : decode cX4_play 109 = .ok (.iload_n 2, 1) := by decide +kernel
theorem dX4_play_110 : decode cX4_play 110 = .ok (.imul, 1) := by decide +kernel
theorem dX4_play_111 : decode cX4_play 111 = .ok (.iaload, 1) := by decide +kernel
theorem dX4_play_112 : decode cX4_play 112 = .ok (.aload_n 0, 1) := by decide +kernel
theorem dX4_play_113 : decode cX4_play 113 = .ok (.getfield 22, 3) := by decide +kernel
theorem dX4_play_116 : decode cX4_play 116 = .ok (.iconst 2, 1) := by decide +kernel
theorem dX4_play_117 : decode cX4_play 117 = .ok (.iload_n 2, 1) := by decide +kernel
theorem dX4_play_118 : decode cX4_play 118 = .ok (.imul, 1) := by decide +kernel
theorem dX4_play_119 : decode cX4_play 119 = .ok (.iconst 1, 1) := by decide +kernel
theorem dX4_play_120 : decode cX4_play 120 = .ok (.iadd, 1) := by decide +kernel
theorem dX4_play_121 : decode cX4_play 121 = .ok (.iaload, 1) := by decide +kernel
theorem dX4_play_122 : decode cX4_play 122 = .ok (.invokevirtual 83, 3) := by decide +kernel
theorem dX4_play_125 : decode cX4_play 125 = .ok (.iadd, 1) := by decide +kernel
theorem dX4_play_126 : decode cX4_play 126 = .ok (.istore_n 1, 1) := by decide +kernel
theorem dX4_play_127 : decode cX4_play 127 = .ok (.iinc 2 1, 3) := by decide +kernel
theorem dX4_play_130 : decode cX4_play 130 = .ok (.goto (-95), 3) := by decide +kernel
theorem dX4_play_133 : decode cX4_play 133 = .ok (.iload_n 1, 1) := by decide +kernel
theorem dX4_play_134 : decode cX4_play 134 = .ok (.ireturn, 1) := by decide +kernel
set_option maxRecDepth 20000 in
theorem ggX4_undo_X4_fails : GoodIn wsX4_undo wsX4_fails := goodIn_r _ [9, 1, 10, 11, 12, 13, 14, 15, 16, 17, 18, 19, 20, 21] (by decide +kernel) (by decide +kernel)
set_option maxRecDepth 20000 in
theorem gX4_undo_X4_fails : GoodIn wsX4_undo (wsV RX4 73 RX4 yX4_fails wsX4_fails) := goodIn_app (goodIn_of _ (by decide +kernel)) ggX4_undo_X4_fails
theorem dX4_undo_0 : decode cX4_undo 0 = .ok (.aload_n 0, 1) := by decide +kernel
theorem dX4_undo_1 : decode cX4_undo 1 = .ok (.iconst 0, 1) := by decide +kernel
theorem dX4_undo_2 : decode cX4_undo 2 = .ok (.putfield 25, 3) := by decide +kernel
theorem dX4_undo_5 : decode cX4_undo 5 = .ok (.aload_n 0, 1) := by decide +kernel
theorem dX4_undo_6 : decode cX4_undo 6 = .ok (.getfield 33, 3) := by decide +kernel
theorem dX4_undo_9 : decode cX4_undo 9 = .ok (.ifCond .ne 9, 3) := by decide +kernel
theorem dX4_undo_12 : decode cX4_undo 12 = .ok (.aload_n 0, 1) := by decide +kernel
theorem dX4_undo_13 : decode cX4_undo 13 = .ok (.iconst 1, 1) := by decide +kernel
theorem dX4_undo_14 : decode cX4_undo 14 = .ok (.invokevirtual 73, 3) := by decide +kernel
theorem dX4_undo_17 : decode cX4_undo 17 = .ok (.ireturn, 1) := by decide +kernel
theorem dX4_undo_18 : decode cX4_undo 18 = .ok (.aload_n 0, 1) := by decide +kernel
theorem dX4_undo_19 : decode cX4_undo 19 = .ok (.dup, 1) := by decide +kernel
theorem dX4_undo_20 : decode cX4_undo 20 = .ok (.getfield 33, 3) := by decide +kernel
theorem dX4_undo_23 : decode cX4_undo 23 = .ok (.iconst 1, 1) := by decide +kernel
theorem dX4_undo_24 : decode cX4_undo 24 = .ok (.isub, 1) := by decide +kernel
theorem dX4_undo_25 : decode cX4_undo 25 = .ok (.putfield 33, 3) := by decide +kernel
theorem dX4_undo_28 : decode cX4_undo 28 = .ok (.iconst 0, 1) := by decide +kernel
theorem dX4_undo_29 : decode cX4_undo 29 = .ok (.istore_n 1, 1) := by decide +kernel
theorem dX4_undo_30 : decode cX4_undo 30 = .ok (.iload_n 1, 1) := by decide +kernel
theorem dX4_undo_31 : decode cX4_undo 31 = .ok (.bipush 75, 2) := by decide +kernel
theorem dX4_undo_33 : decode cX4_undo 33 = .ok (.if_icmp .ge 29, 3) := by decide +kernel
theorem dX4_undo_36 : decode cX4_undo 36 = .ok (.aload_n 0, 1) := by decide +kernel
theorem dX4_undo_37 : decode cX4_undo 37 = .ok (.getfield 7, 3) := by decide +kernel
theorem dX4_undo_40 : decode cX4_undo 40 = .ok (.iload_n 1, 1) := by decide +kernel
theorem dX4_undo_41 : decode cX4_undo 41 = .ok (.aload_n 0, 1) := by decide +kernel
theorem dX4_undo_42 : decode cX4_undo 42 = .ok (.getfield 16, 3) := by decide +kernel
theorem dX4_undo_45 : decode cX4_undo 45 = .ok (.bipush 75, 2) := by decide +kernel
theorem dX4_undo_47 : decode cX4_undo 47 = .ok (.aload_n 0, 1) := by decide +kernel
theorem dX4_undo_48 : decode cX4_undo 48 = .ok (.getfield 33, 3) := by decide +kernel
theorem dX4_undo_51 : decode cX4_undo 51 = .ok (.imul, 1) := by decide +kernel
theorem dX4_undo_52 : decode cX4_undo 52 = .ok (.iload_n 1, 1) := by decide +kernel
theorem dX4_undo_53 : decode cX4_undo 53 = .ok (.iadd, 1) := by decide +kernel
theorem dX4_undo_54 : decode cX4_undo 54 = .ok (.iaload, 1) := by decide +kernel
theorem dX4_undo_55 : decode cX4_undo 55 = .ok (.iastore, 1) := by decide +kernel
theorem dX4_undo_56 : decode cX4_undo 56 = .ok (.iinc 1 1, 3) := by decide +kernel
theorem dX4_undo_59 : decode cX4_undo 59 = .ok (.goto (-29), 3) := by decide +kernel
theorem dX4_undo_62 : decode cX4_undo 62 = .ok (.aload_n 0, 1) := by decide +kernel
theorem dX4_undo_63 : decode cX4_undo 63 = .ok (.getfield 33, 3) := by decide +kernel
theorem dX4_undo_66 : decode cX4_undo 66 = .ok (.ireturn, 1) := by decide +kernel
set_option maxRecDepth 20000 in
theorem ggX4_planeOf_X4_isOne : GoodIn wsX4_planeOf wsX4_isOne := goodIn_r _ [5, 6, 7, 4, 8] (by decide +kernel) (by decide +kernel)
set_option maxRecDepth 20000 in
theorem gX4_planeOf_X4_isOne : GoodIn wsX4_planeOf (va_wsS RX4 69 yX4_isOne wsX4_isOne) := goodIn_app (goodIn_of _ (by decide +kernel)) ggX4_planeOf_X4_isOne
set_option maxRecDepth 20000 in
theorem ggX4_planeOf_X4_fails : GoodIn wsX4_planeOf wsX4_fails := goodIn_r _ [12, 1, 18, 19, 20, 21, 22, 23, 24, 25, 26, 27, 28, 29] (by decide +kernel) (by decide +kernel)
set_option maxRecDepth 20000 in
theorem gX4_planeOf_X4_fails : GoodIn wsX4_planeOf (wsV RX4 73 RX4 yX4_fails wsX4_fails) := goodIn_app (goodIn_of _ (by decide +kernel)) ggX4_planeOf_X4_fails
set_option maxRecDepth 20000 in
theorem ggX4_planeOf_X4_in : GoodIn wsX4_planeOf wsX4_in := goodIn_r _ [8] (by decide +kernel) (by decide +kernel)
set_option maxRecDepth 20000 in
theorem gX4_planeOf_X4_in : GoodIn wsX4_planeOf (va_wsS RX4 29 yX4_in wsX4_in) := goodIn_app (goodIn_of _ (by decide +kernel)) ggX4_planeOf_X4_in
set_option maxRecDepth 20000 in
theorem ggX4_planeOf_X4_ofPlane : GoodIn wsX4_planeOf wsX4_ofPlane := goodIn_r _ [16, 17, 18, 19, 20, 21, 22, 23, 24, 25, 26, 27, 28, 29] (by decide +kernel) (by decide +kernel)
set_option maxRecDepth 20000 in
theorem gX4_planeOf_X4_ofPlane : GoodIn wsX4_planeOf (wsV RX4 40 RX4 yX4_ofPlane wsX4_ofPlane) := goodIn_app (goodIn_of _ (by decide +kernel)) ggX4_planeOf_X4_ofPlane
theorem dX4_planeOf_0 : decode cX4_planeOf 0 = .ok (.aload_n 0, 1) := by decide +kernel
theorem dX4_planeOf_1 : decode cX4_planeOf 1 = .ok (.iconst 0, 1) := by decide +kernel
theorem dX4_planeOf_2 : decode cX4_planeOf 2 = .ok (.putfield 25, 3) := by decide +kernel
theorem dX4_planeOf_5 : decode cX4_planeOf 5 = .ok (.iload_n 1, 1) := by decide +kernel
theorem dX4_planeOf_6 : decode cX4_planeOf 6 = .ok (.invokestatic 69, 3) := by decide +kernel
theorem dX4_planeOf_9 : decode cX4_planeOf 9 = .ok (.ifCond .ne 9, 3) := by decide +kernel
theorem dX4_planeOf_12 : decode cX4_planeOf 12 = .ok (.aload_n 0, 1) := by decide +kernel
theorem dX4_planeOf_13 : decode cX4_planeOf 13 = .ok (.iconst 1, 1) := by decide +kernel
theorem dX4_planeOf_14 : decode cX4_planeOf 14 = .ok (.invokevirtual 73, 3) := by decide +kernel
theorem dX4_planeOf_17 : decode cX4_planeOf 17 = .ok (.ireturn, 1) := by decide +kernel
theorem dX4_planeOf_18 : decode cX4_planeOf 18 = .ok (.iload_n 2, 1) := by decide +kernel
theorem dX4_planeOf_19 : decode cX4_planeOf 19 = .ok (.iconst 0, 1) := by decide +kernel
theorem dX4_planeOf_20 : decode cX4_planeOf 20 = .ok (.iconst 3, 1) := by decide +kernel
theorem dX4_planeOf_21 : decode cX4_planeOf 21 = .ok (.invokestatic 29, 3) := by decide +kernel
theorem dX4_planeOf_24 : decode cX4_planeOf 24 = .ok (.ifCond .eq 12, 3) := by decide +kernel
theorem dX4_planeOf_27 : decode cX4_planeOf 27 = .ok (.aload_n 0, 1) := by decide +kernel
theorem dX4_planeOf_28 : decode cX4_planeOf 28 = .ok (.iload_n 1, 1) := by decide +kernel
theorem dX4_planeOf_29 : decode cX4_planeOf 29 = .ok (.iload_n 2, 1) := by decide +kernel
theorem dX4_planeOf_30 : decode cX4_planeOf 30 = .ok (.invokevirtual 40, 3) := by decide +kernel
theorem dX4_planeOf_33 : decode cX4_planeOf 33 = .ok (.goto 8, 3) := by decide +kernel
theorem dX4_planeOf_36 : decode cX4_planeOf 36 = .ok (.aload_n 0, 1) := by decide +kernel
theorem dX4_planeOf_37 : decode cX4_planeOf 37 = .ok (.iconst 2, 1) := by decide +kernel
theorem dX4_planeOf_38 : decode cX4_planeOf 38 = .ok (.invokevirtual 73, 3) := by decide +kernel
theorem dX4_planeOf_41 : decode cX4_planeOf 41 = .ok (.ireturn, 1) := by decide +kernel
set_option maxRecDepth 20000 in
theorem ggX4_tellsGutter_X4_of : GoodIn wsX4_tellsGutter wsX4_of := goodIn_r _ [5, 6, 15, 16, 17, 18, 19, 20, 21, 22, 23, 24, 25, 26] (by decide +kernel) (by decide +kernel)
set_option maxRecDepth 20000 in
theorem gX4_tellsGutter_X4_of : GoodIn wsX4_tellsGutter (wsV RX4 36 RX4 yX4_of wsX4_of) := goodIn_app (goodIn_of _ (by decide +kernel)) ggX4_tellsGutter_X4_of
set_option maxRecDepth 20000 in
theorem ggX4_tellsGutter_X4_room : GoodIn wsX4_tellsGutter wsX4_room := goodIn_r _ [10, 1, 2, 3, 4, 5, 6, 15, 16, 17, 18, 19, 20, 21, 22, 23, 24, 25, 26] (by decide +kernel) (by decide +kernel)
set_option maxRecDepth 20000 in
theorem gX4_tellsGutter_X4_room : GoodIn wsX4_tellsGutter (wsV RX4 51 RX4 yX4_room wsX4_room) := goodIn_app (goodIn_of _ (by decide +kernel)) ggX4_tellsGutter_X4_room
set_option maxRecDepth 20000 in
theorem ggX4_tellsGutter_X4_takes : GoodIn wsX4_tellsGutter wsX4_takes := goodIn_r _ [14, 1, 2, 3, 4, 5, 6, 15, 16, 17, 18, 19, 20, 21, 22, 23, 24, 25, 26] (by decide +kernel) (by decide +kernel)
set_option maxRecDepth 20000 in
theorem gX4_tellsGutter_X4_takes : GoodIn wsX4_tellsGutter (wsV RX4 47 RX4 yX4_takes wsX4_takes) := goodIn_app (goodIn_of _ (by decide +kernel)) ggX4_tellsGutter_X4_takes
theorem dX4_tellsGutter_0 : decode cX4_tellsGutter 0 = .ok (.iload_n 2, 1) := by decide +kernel
theorem dX4_tellsGutter_1 : decode cX4_tellsGutter 1 = .ok (.tableswitch 69 3 8 #[39, 69, 48, 54, 60, 60], 39) := by decide +kernel
theorem dX4_tellsGutter_40 : decode cX4_tellsGutter 40 = .ok (.aload_n 0, 1) := by decide +kernel
theorem dX4_tellsGutter_41 : decode cX4_tellsGutter 41 = .ok (.iload_n 1, 1) := by decide +kernel
theorem dX4_tellsGutter_42 : decode cX4_tellsGutter 42 = .ok (.iconst 3, 1) := by decide +kernel
theorem dX4_tellsGutter_43 : decode cX4_tellsGutter 43 = .ok (.invokevirtual 36, 3) := by decide +kernel
theorem dX4_tellsGutter_46 : decode cX4_tellsGutter 46 = .ok (.iconst 1, 1) := by decide +kernel
theorem dX4_tellsGutter_47 : decode cX4_tellsGutter 47 = .ok (.isub, 1) := by decide +kernel
theorem dX4_tellsGutter_48 : decode cX4_tellsGutter 48 = .ok (.ireturn, 1) := by decide +kernel
theorem dX4_tellsGutter_49 : decode cX4_tellsGutter 49 = .ok (.aload_n 0, 1) := by decide +kernel
theorem dX4_tellsGutter_50 : decode cX4_tellsGutter 50 = .ok (.iload_n 1, 1) := by decide +kernel
theorem dX4_tellsGutter_51 : decode cX4_tellsGutter 51 = .ok (.invokevirtual 51, 3) := by decide +kernel
theorem dX4_tellsGutter_54 : decode cX4_tellsGutter 54 = .ok (.ireturn, 1) := by decide +kernel
theorem dX4_tellsGutter_55 : decode cX4_tellsGutter 55 = .ok (.aload_n 0, 1) := by decide +kernel
theorem dX4_tellsGutter_56 : decode cX4_tellsGutter 56 = .ok (.iload_n 1, 1) := by decide +kernel
theorem dX4_tellsGutter_57 : decode cX4_tellsGutter 57 = .ok (.invokevirtual 47, 3) := by decide +kernel
theorem dX4_tellsGutter_60 : decode cX4_tellsGutter 60 = .ok (.ireturn, 1) := by decide +kernel
theorem dX4_tellsGutter_61 : decode cX4_tellsGutter 61 = .ok (.aload_n 0, 1) := by decide +kernel
theorem dX4_tellsGutter_62 : decode cX4_tellsGutter 62 = .ok (.iload_n 1, 1) := by decide +kernel
theorem dX4_tellsGutter_63 : decode cX4_tellsGutter 63 = .ok (.iload_n 2, 1) := by decide +kernel
theorem dX4_tellsGutter_64 : decode cX4_tellsGutter 64 = .ok (.iconst 2, 1) := by decide +kernel
theorem dX4_tellsGutter_65 : decode cX4_tellsGutter 65 = .ok (.isub, 1) := by decide +kernel
theorem dX4_tellsGutter_66 : decode cX4_tellsGutter 66 = .ok (.invokevirtual 36, 3) := by decide +kernel
theorem dX4_tellsGutter_69 : decode cX4_tellsGutter 69 = .ok (.ireturn, 1) := by decide +kernel
theorem dX4_tellsGutter_70 : decode cX4_tellsGutter 70 = .ok (.aload_n 0, 1) := by decide +kernel
theorem dX4_tellsGutter_71 : decode cX4_tellsGutter 71 = .ok (.iload_n 1, 1) := by decide +kernel
theorem dX4_tellsGutter_72 : decode cX4_tellsGutter 72 = .ok (.iload_n 2, 1) := by decide +kernel
theorem dX4_tellsGutter_73 : decode cX4_tellsGutter 73 = .ok (.invokevirtual 36, 3) := by decide +kernel
theorem dX4_tellsGutter_76 : decode cX4_tellsGutter 76 = .ok (.ireturn, 1) := by decide +kernel
set_option maxRecDepth 20000 in
theorem ggX4_gutterOf_X4_isOne : GoodIn wsX4_gutterOf wsX4_isOne := goodIn_r _ [5, 6, 7, 4, 8] (by decide +kernel) (by decide +kernel)
set_option maxRecDepth 20000 in
theorem gX4_gutterOf_X4_isOne : GoodIn wsX4_gutterOf (va_wsS RX4 69 yX4_isOne wsX4_isOne) := goodIn_app (goodIn_of _ (by decide +kernel)) ggX4_gutterOf_X4_isOne
set_option maxRecDepth 20000 in
theorem ggX4_gutterOf_X4_fails : GoodIn wsX4_gutterOf wsX4_fails := goodIn_r _ [12, 1, 30, 31, 32, 33, 34, 35, 36, 37, 38, 39, 40, 41] (by decide +kernel) (by decide +kernel)
set_option maxRecDepth 20000 in
theorem gX4_gutterOf_X4_fails : GoodIn wsX4_gutterOf (wsV RX4 73 RX4 yX4_fails wsX4_fails) := goodIn_app (goodIn_of _ (by decide +kernel)) ggX4_gutterOf_X4_fails
set_option maxRecDepth 20000 in
theorem ggX4_gutterOf_X4_in : GoodIn wsX4_gutterOf wsX4_in := goodIn_r _ [8] (by decide +kernel) (by decide +kernel)
set_option maxRecDepth 20000 in
theorem gX4_gutterOf_X4_in : GoodIn wsX4_gutterOf (va_wsS RX4 29 yX4_in wsX4_in) := goodIn_app (goodIn_of _ (by decide +kernel)) ggX4_gutterOf_X4_in
set_option maxRecDepth 20000 in
theorem ggX4_gutterOf_X4_tellsGutter : GoodIn wsX4_gutterOf wsX4_tellsGutter := goodIn_r _ [16, 17, 18, 19, 4, 20, 21, 22, 23, 24, 25, 26, 27, 28, 29, 30, 31, 32, 33, 34, 35, 36, 37, 38, 39, 40, 41] (by decide +kernel) (by decide +kernel)
set_option maxRecDepth 20000 in
theorem gX4_gutterOf_X4_tellsGutter : GoodIn wsX4_gutterOf (wsV RX4 121 RX4 yX4_tellsGutter wsX4_tellsGutter) := goodIn_app (goodIn_of _ (by decide +kernel)) ggX4_gutterOf_X4_tellsGutter
theorem dX4_gutterOf_0 : decode cX4_gutterOf 0 = .ok (.aload_n 0, 1) := by decide +kernel
theorem dX4_gutterOf_1 : decode cX4_gutterOf 1 = .ok (.iconst 0, 1) := by decide +kernel
theorem dX4_gutterOf_2 : decode cX4_gutterOf 2 = .ok (.putfield 25, 3) := by decide +kernel
theorem dX4_gutterOf_5 : decode cX4_gutterOf 5 = .ok (.iload_n 1, 1) := by decide +kernel
theorem dX4_gutterOf_6 : decode cX4_gutterOf 6 = .ok (.invokestatic 69, 3) := by decide +kernel
theorem dX4_gutterOf_9 : decode cX4_gutterOf 9 = .ok (.ifCond .ne 9, 3) := by decide +kernel
theorem dX4_gutterOf_12 : decode cX4_gutterOf 12 = .ok (.aload_n 0, 1) := by decide +kernel
theorem dX4_gutterOf_13 : decode cX4_gutterOf 13 = .ok (.iconst 1, 1) := by decide +kernel
theorem dX4_gutterOf_14 : decode cX4_gutterOf 14 = .ok (.invokevirtual 73, 3) := by decide +kernel
theorem dX4_gutterOf_17 : decode cX4_gutterOf 17 = .ok (.ireturn, 1) := by decide +kernel
theorem dX4_gutterOf_18 : decode cX4_gutterOf 18 = .ok (.iload_n 2, 1) := by decide +kernel
theorem dX4_gutterOf_19 : decode cX4_gutterOf 19 = .ok (.iconst 0, 1) := by decide +kernel
theorem dX4_gutterOf_20 : decode cX4_gutterOf 20 = .ok (.bipush 8, 2) := by decide +kernel
theorem dX4_gutterOf_22 : decode cX4_gutterOf 22 = .ok (.invokestatic 29, 3) := by decide +kernel
theorem dX4_gutterOf_25 : decode cX4_gutterOf 25 = .ok (.ifCond .eq 12, 3) := by decide +kernel
theorem dX4_gutterOf_28 : decode cX4_gutterOf 28 = .ok (.aload_n 0, 1) := by decide +kernel
theorem dX4_gutterOf_29 : decode cX4_gutterOf 29 = .ok (.iload_n 1, 1) := by decide +kernel
theorem dX4_gutterOf_30 : decode cX4_gutterOf 30 = .ok (.iload_n 2, 1) := by decide +kernel
theorem dX4_gutterOf_31 : decode cX4_gutterOf 31 = .ok (.invokevirtual 121, 3) := by decide +kernel
theorem dX4_gutterOf_34 : decode cX4_gutterOf 34 = .ok (.goto 8, 3) := by decide +kernel
theorem dX4_gutterOf_37 : decode cX4_gutterOf 37 = .ok (.aload_n 0, 1) := by decide +kernel
theorem dX4_gutterOf_38 : decode cX4_gutterOf 38 = .ok (.iconst 2, 1) := by decide +kernel
theorem dX4_gutterOf_39 : decode cX4_gutterOf 39 = .ok (.invokevirtual 73, 3) := by decide +kernel
theorem dX4_gutterOf_42 : decode cX4_gutterOf 42 = .ok (.ireturn, 1) := by decide +kernel
set_option maxRecDepth 20000 in
theorem ggX4_counts_X4_stands : GoodIn wsX4_counts wsX4_stands := goodIn_r _ [7, 8, 9, 10, 6, 11, 2, 12, 13, 14, 15, 20, 21, 22, 23, 24, 25, 26, 27, 28, 29, 30, 31] (by decide +kernel) (by decide +kernel)
set_option maxRecDepth 20000 in
theorem gX4_counts_X4_stands : GoodIn wsX4_counts (wsV RX4 124 RX4 yX4_stands wsX4_stands) := goodIn_app (goodIn_of _ (by decide +kernel)) ggX4_counts_X4_stands
set_option maxRecDepth 20000 in
theorem ggX4_counts_X4_leaves : GoodIn wsX4_counts wsX4_leaves := goodIn_r _ [19, 12, 13, 14, 6, 15, 2, 20, 21, 22, 23, 24, 25, 26, 27, 28, 29, 30, 31] (by decide +kernel) (by decide +kernel)
set_option maxRecDepth 20000 in
theorem gX4_counts_X4_leaves : GoodIn wsX4_counts (wsV RX4 89 RX4 yX4_leaves wsX4_leaves) := goodIn_app (goodIn_of _ (by decide +kernel)) ggX4_counts_X4_leaves
theorem dX4_counts_0 : decode cX4_counts 0 = .ok (.iload_n 1, 1) := by decide +kernel
theorem dX4_counts_1 : decode cX4_counts 1 = .ok (.lookupswitch 50 #[(3, 35), (7, 40), (8, 45)], 35) := by decide +kernel
theorem dX4_counts_36 : decode cX4_counts 36 = .ok (.aload_n 0, 1) := by decide +kernel
theorem dX4_counts_37 : decode cX4_counts 37 = .ok (.invokevirtual 124, 3) := by decide +kernel
theorem dX4_counts_40 : decode cX4_counts 40 = .ok (.ireturn, 1) := by decide +kernel
theorem dX4_counts_41 : decode cX4_counts 41 = .ok (.aload_n 0, 1) := by decide +kernel
theorem dX4_counts_42 : decode cX4_counts 42 = .ok (.invokevirtual 89, 3) := by decide +kernel
theorem dX4_counts_45 : decode cX4_counts 45 = .ok (.ireturn, 1) := by decide +kernel
theorem dX4_counts_46 : decode cX4_counts 46 = .ok (.aload_n 0, 1) := by decide +kernel
theorem dX4_counts_47 : decode cX4_counts 47 = .ok (.getfield 33, 3) := by decide +kernel
theorem dX4_counts_50 : decode cX4_counts 50 = .ok (.ireturn, 1) := by decide +kernel
theorem dX4_counts_51 : decode cX4_counts 51 = .ok (.iload_n 1, 1) := by decide +kernel
theorem dX4_counts_52 : decode cX4_counts 52 = .ok (.iconst 3, 1) := by decide +kernel
theorem dX4_counts_53 : decode cX4_counts 53 = .ok (.if_icmp .ge 14, 3) := by decide +kernel
theorem dX4_counts_56 : decode cX4_counts 56 = .ok (.aload_n 0, 1) := by decide +kernel
theorem dX4_counts_57 : decode cX4_counts 57 = .ok (.getfield 7, 3) := by decide +kernel
theorem dX4_counts_60 : decode cX4_counts 60 = .ok (.iconst 3, 1) := by decide +kernel
theorem dX4_counts_61 : decode cX4_counts 61 = .ok (.iload_n 1, 1) := by decide +kernel
theorem dX4_counts_62 : decode cX4_counts 62 = .ok (.iadd, 1) := by decide +kernel
theorem dX4_counts_63 : decode cX4_counts 63 = .ok (.iaload, 1) := by decide +kernel
theorem dX4_counts_64 : decode cX4_counts 64 = .ok (.goto 14, 3) := by decide +kernel
theorem dX4_counts_67 : decode cX4_counts 67 = .ok (.aload_n 0, 1) := by decide +kernel
theorem dX4_counts_68 : decode cX4_counts 68 = .ok (.getfield 7, 3) := by decide +kernel
theorem dX4_counts_71 : decode cX4_counts 71 = .ok (.bipush 6, 2) := by decide +kernel
theorem dX4_counts_73 : decode cX4_counts 73 = .ok (.iload_n 1, 1) := by decide +kernel
theorem dX4_counts_74 : decode cX4_counts 74 = .ok (.iadd, 1) := by decide +kernel
theorem dX4_counts_75 : decode cX4_counts 75 = .ok (.iconst 4, 1) := by decide +kernel
theorem dX4_counts_76 : decode cX4_counts 76 = .ok (.isub, 1) := by decide +kernel
theorem dX4_counts_77 : decode cX4_counts 77 = .ok (.iaload, 1) := by decide +kernel
theorem dX4_counts_78 : decode cX4_counts 78 = .ok (.ireturn, 1) := by decide +kernel
set_option maxRecDepth 20000 in
theorem ggX4_count_X4_in : GoodIn wsX4_count wsX4_in := goodIn_r _ [5] (by decide +kernel) (by decide +kernel)
set_option maxRecDepth 20000 in
theorem gX4_count_X4_in : GoodIn wsX4_count (va_wsS RX4 29 yX4_in wsX4_in) := goodIn_app (goodIn_of _ (by decide +kernel)) ggX4_count_X4_in
set_option maxRecDepth 20000 in
theorem ggX4_count_X4_counts : GoodIn wsX4_count wsX4_counts := goodIn_r _ [9, 10, 11, 12, 13, 14, 4, 15, 16, 17, 18, 19, 20, 21, 22, 23, 24, 25, 26, 27, 32, 33, 34, 35, 36, 37, 38, 39, 40, 41, 42, 43] (by decide +kernel) (by decide +kernel)
set_option maxRecDepth 20000 in
theorem gX4_count_X4_counts : GoodIn wsX4_count (wsV RX4 127 RX4 yX4_counts wsX4_counts) := goodIn_app (goodIn_of _ (by decide +kernel)) ggX4_count_X4_counts
set_option maxRecDepth 20000 in
theorem ggX4_count_X4_fails : GoodIn wsX4_count wsX4_fails := goodIn_r _ [31, 1, 32, 33, 34, 35, 36, 37, 38, 39, 40, 41, 42, 43] (by decide +kernel) (by decide +kernel)
set_option maxRecDepth 20000 in
theorem gX4_count_X4_fails : GoodIn wsX4_count (wsV RX4 73 RX4 yX4_fails wsX4_fails) := goodIn_app (goodIn_of _ (by decide +kernel)) ggX4_count_X4_fails
theorem dX4_count_0 : decode cX4_count 0 = .ok (.aload_n 0, 1) := by decide +kernel
theorem dX4_count_1 : decode cX4_count 1 = .ok (.iconst 0, 1) := by decide +kernel
theorem dX4_count_2 : decode cX4_count 2 = .ok (.putfield 25, 3) := by decide +kernel
theorem dX4_count_5 : decode cX4_count 5 = .ok (.iload_n 1, 1) := by decide +kernel
theorem dX4_count_6 : decode cX4_count 6 = .ok (.iconst 0, 1) := by decide +kernel
theorem dX4_count_7 : decode cX4_count 7 = .ok (.bipush 8, 2) := by decide +kernel
theorem dX4_count_9 : decode cX4_count 9 = .ok (.invokestatic 29, 3) := by decide +kernel
theorem dX4_count_12 : decode cX4_count 12 = .ok (.ifCond .eq 11, 3) := by decide +kernel
theorem dX4_count_15 : decode cX4_count 15 = .ok (.aload_n 0, 1) := by decide +kernel
theorem dX4_count_16 : decode cX4_count 16 = .ok (.iload_n 1, 1) := by decide +kernel
theorem dX4_count_17 : decode cX4_count 17 = .ok (.invokevirtual 127, 3) := by decide +kernel
theorem dX4_count_20 : decode cX4_count 20 = .ok (.goto 8, 3) := by decide +kernel
theorem dX4_count_23 : decode cX4_count 23 = .ok (.aload_n 0, 1) := by decide +kernel
theorem dX4_count_24 : decode cX4_count 24 = .ok (.iconst 1, 1) := by decide +kernel
theorem dX4_count_25 : decode cX4_count 25 = .ok (.invokevirtual 73, 3) := by decide +kernel
theorem dX4_count_28 : decode cX4_count 28 = .ok (.ireturn, 1) := by decide +kernel
set_option maxRecDepth 20000 in
theorem ggX4_setting_X4_in : GoodIn wsX4_setting wsX4_in := goodIn_r _ [6] (by decide +kernel) (by decide +kernel)
set_option maxRecDepth 20000 in
theorem gX4_setting_X4_in : GoodIn wsX4_setting (va_wsS RX4 29 yX4_in wsX4_in) := goodIn_app (goodIn_of _ (by decide +kernel)) ggX4_setting_X4_in
set_option maxRecDepth 20000 in
theorem ggX4_setting_X4_fails : GoodIn wsX4_setting wsX4_fails := goodIn_r _ [10, 1, 11, 12, 13, 14, 15, 16, 17, 18, 19, 20, 21, 22] (by decide +kernel) (by decide +kernel)
set_option maxRecDepth 20000 in
theorem gX4_setting_X4_fails : GoodIn wsX4_setting (wsV RX4 73 RX4 yX4_fails wsX4_fails) := goodIn_app (goodIn_of _ (by decide +kernel)) ggX4_setting_X4_fails
theorem dX4_setting_0 : decode cX4_setting 0 = .ok (.aload_n 0, 1) := by decide +kernel
theorem dX4_setting_1 : decode cX4_setting 1 = .ok (.iconst 0, 1) := by decide +kernel
theorem dX4_setting_2 : decode cX4_setting 2 = .ok (.putfield 25, 3) := by decide +kernel
theorem dX4_setting_5 : decode cX4_setting 5 = .ok (.iload_n 1, 1) := by decide +kernel
theorem dX4_setting_6 : decode cX4_setting 6 = .ok (.iconst 0, 1) := by decide +kernel
theorem dX4_setting_7 : decode cX4_setting 7 = .ok (.iconst 2, 1) := by decide +kernel
theorem dX4_setting_8 : decode cX4_setting 8 = .ok (.invokestatic 29, 3) := by decide +kernel
theorem dX4_setting_11 : decode cX4_setting 11 = .ok (.ifCond .eq 12, 3) := by decide +kernel
theorem dX4_setting_14 : decode cX4_setting 14 = .ok (.aload_n 0, 1) := by decide +kernel
theorem dX4_setting_15 : decode cX4_setting 15 = .ok (.getfield 7, 3) := by decide +kernel
theorem dX4_setting_18 : decode cX4_setting 18 = .ok (.iload_n 1, 1) := by decide +kernel
theorem dX4_setting_19 : decode cX4_setting 19 = .ok (.iaload, 1) := by decide +kernel
theorem dX4_setting_20 : decode cX4_setting 20 = .ok (.goto 8, 3) := by decide +kernel
theorem dX4_setting_23 : decode cX4_setting 23 = .ok (.aload_n 0, 1) := by decide +kernel
theorem dX4_setting_24 : decode cX4_setting 24 = .ok (.iconst 1, 1) := by decide +kernel
theorem dX4_setting_25 : decode cX4_setting 25 = .ok (.invokevirtual 73, 3) := by decide +kernel
theorem dX4_setting_28 : decode cX4_setting 28 = .ok (.ireturn, 1) := by decide +kernel
set_option maxRecDepth 20000 in
theorem ggX4_would_X4_putAside : GoodIn wsX4_would wsX4_putAside := goodIn_r _ [7, 2, 1, 56, 57, 58, 59, 60, 61, 62, 63, 64, 65, 66, 67] (by decide +kernel) (by decide +kernel)
set_option maxRecDepth 20000 in
theorem gX4_would_X4_putAside : GoodIn wsX4_would (wsV RX4 130 RX4 yX4_putAside wsX4_putAside) := goodIn_app (goodIn_of _ (by decide +kernel)) ggX4_would_X4_putAside
set_option maxRecDepth 20000 in
theorem ggX4_would_X4_rains : GoodIn wsX4_would wsX4_rains := goodIn_r _ [11, 1, 12, 13, 14, 6, 15, 16, 17, 18, 19, 20, 21, 22, 23, 24, 25, 26, 27, 28, 29, 30, 31, 32, 33, 34, 35, 36, 37, 38, 39, 40, 41, 42, 43, 44, 45, 46, 47, 56, 57, 58, 59, 60, 61, 62, 63, 64, 65, 66, 67] (by decide +kernel) (by decide +kernel)
set_option maxRecDepth 20000 in
theorem gX4_would_X4_rains : GoodIn wsX4_would (wsV RX4 83 RX4 yX4_rains wsX4_rains) := goodIn_app (goodIn_of _ (by decide +kernel)) ggX4_would_X4_rains
set_option maxRecDepth 20000 in
theorem ggX4_would_X4_stands : GoodIn wsX4_would wsX4_stands := goodIn_r _ [51, 20, 21, 22, 6, 23, 1, 36, 37, 38, 39, 56, 57, 58, 59, 60, 61, 62, 63, 64, 65, 66, 67] (by decide +kernel) (by decide +kernel)
set_option maxRecDepth 20000 in
theorem gX4_would_X4_stands : GoodIn wsX4_would (wsV RX4 124 RX4 yX4_stands wsX4_stands) := goodIn_app (goodIn_of _ (by decide +kernel)) ggX4_would_X4_stands
set_option maxRecDepth 20000 in
theorem ggX4_would_X4_takeBack : GoodIn wsX4_would wsX4_takeBack := goodIn_r _ [55, 1, 2, 56, 57, 58, 59, 60, 61, 62, 63, 64, 65, 66, 67] (by decide +kernel) (by decide +kernel)
set_option maxRecDepth 20000 in
theorem gX4_would_X4_takeBack : GoodIn wsX4_would (wsV RX4 133 RX4 yX4_takeBack wsX4_takeBack) := goodIn_app (goodIn_of _ (by decide +kernel)) ggX4_would_X4_takeBack
theorem dX4_would_0 : decode cX4_would 0 = .ok (.aload_n 0, 1) := by decide +kernel
theorem dX4_would_1 : decode cX4_would 1 = .ok (.invokevirtual 130, 3) := by decide +kernel
theorem dX4_would_4 : decode cX4_would 4 = .ok (.aload_n 0, 1) := by decide +kernel
theorem dX4_would_5 : decode cX4_would 5 = .ok (.aload_n 0, 1) := by decide +kernel
theorem dX4_would_6 : decode cX4_would 6 = .ok (.getfield 7, 3) := by decide +kernel
theorem dX4_would_9 : decode cX4_would 9 = .ok (.iconst 2, 1) := by decide +kernel
theorem dX4_would_10 : decode cX4_would 10 = .ok (.iaload, 1) := by decide +kernel
theorem dX4_would_11 : decode cX4_would 11 = .ok (.iload_n 1, 1) := by decide +kernel
theorem dX4_would_12 : decode cX4_would 12 = .ok (.invokevirtual 83, 3) := by decide +kernel
theorem dX4_would_15 : decode cX4_would 15 = .ok (.istore_n 3, 1) := by decide +kernel
theorem dX4_would_16 : decode cX4_would 16 = .ok (.aload_n 0, 1) := by decide +kernel
theorem dX4_would_17 : decode cX4_would 17 = .ok (.getfield 7, 3) := by decide +kernel
theorem dX4_would_20 : decode cX4_would 20 = .ok (.bipush 6, 2) := by decide +kernel
theorem dX4_would_22 : decode cX4_would 22 = .ok (.iaload, 1) := by decide +kernel
theorem dX4_would_23 : decode cX4_would 23 = .ok (.aload_n 0, 1) := by decide +kernel
theorem dX4_would_24 : decode cX4_would 24 = .ok (.getfield 13, 3) := by decide +kernel
theorem dX4_would_27 : decode cX4_would 27 = .ok (.bipush 6, 2) := by decide +kernel
theorem dX4_would_29 : decode cX4_would 29 = .ok (.iaload, 1) := by decide +kernel
theorem dX4_would_30 : decode cX4_would 30 = .ok (.isub, 1) := by decide +kernel
theorem dX4_would_31 : decode cX4_would 31 = .ok (.istore 4, 2) := by decide +kernel
theorem dX4_would_33 : decode cX4_would 33 = .ok (.aload_n 0, 1) := by decide +kernel
theorem dX4_would_34 : decode cX4_would 34 = .ok (.invokevirtual 124, 3) := by decide +kernel
theorem dX4_would_37 : decode cX4_would 37 = .ok (.istore 5, 2) := by decide +kernel
theorem dX4_would_39 : decode cX4_would 39 = .ok (.aload_n 0, 1) := by decide +kernel
theorem dX4_would_40 : decode cX4_would 40 = .ok (.invokevirtual 133, 3) := by decide +kernel
theorem dX4_would_43 : decode cX4_would 43 = .ok (.iload_n 2, 1) := by decide +kernel
theorem dX4_would_44 : decode cX4_would 44 = .ok (.ifCond .ne 7, 3) := by decide +kernel
theorem dX4_would_47 : decode cX4_would 47 = .ok (.iload_n 3, 1) := by decide +kernel
theorem dX4_would_48 : decode cX4_would 48 = .ok (.goto 15, 3) := by decide +kernel
theorem dX4_would_51 : decode cX4_would 51 = .ok (.iload_n 2, 1) := by decide +kernel
theorem dX4_would_52 : decode cX4_would 52 = .ok (.iconst 1, 1) := by decide +kernel
theorem dX4_would_53 : decode cX4_would 53 = .ok (.if_icmp .ne 8, 3) := by decide +kernel
theorem dX4_would_56 : decode cX4_would 56 = .ok (.iload 4, 2) := by decide +kernel
theorem dX4_would_58 : decode cX4_would 58 = .ok (.goto 5, 3) := by decide +kernel
theorem dX4_would_61 : decode cX4_would 61 = .ok (.iload 5, 2) := by decide +kernel
theorem dX4_would_63 : decode cX4_would 63 = .ok (.ireturn, 1) := by decide +kernel
set_option maxRecDepth 20000 in
theorem ggX4_ifRained_X4_in : GoodIn wsX4_ifRained wsX4_in := goodIn_r _ [5] (by decide +kernel) (by decide +kernel)
set_option maxRecDepth 20000 in
theorem gX4_ifRained_X4_in : GoodIn wsX4_ifRained (va_wsS RX4 29 yX4_in wsX4_in) := goodIn_app (goodIn_of _ (by decide +kernel)) ggX4_ifRained_X4_in
set_option maxRecDepth 20000 in
theorem ggX4_ifRained_X4_would : GoodIn wsX4_ifRained wsX4_would := goodIn_r _ [9, 10, 11, 12, 13, 14, 4, 15, 16, 17, 18, 19, 20, 21, 22, 23, 24, 25, 26, 27, 28, 29, 30, 31, 32, 33, 34, 35, 36, 37, 38, 39, 40, 41, 42, 43, 44, 45, 46, 47, 48, 49, 50, 51, 52, 53, 54, 55, 56, 57, 58, 59, 60, 61, 62, 63, 68, 69, 70, 71, 72, 73, 74, 75, 76, 77, 78, 79] (by decide +kernel) (by decide +kernel)
set_option maxRecDepth 20000 in
theorem gX4_ifRained_X4_would : GoodIn wsX4_ifRained (wsV RX4 136 RX4 yX4_would wsX4_would) := goodIn_app (goodIn_of _ (by decide +kernel)) ggX4_ifRained_X4_would
set_option maxRecDepth 20000 in
theorem ggX4_ifRained_X4_fails : GoodIn wsX4_ifRained wsX4_fails := goodIn_r _ [67, 1, 68, 69, 70, 71, 72, 73, 74, 75, 76, 77, 78, 79] (by decide +kernel) (by decide +kernel)
set_option maxRecDepth 20000 in
theorem gX4_ifRained_X4_fails : GoodIn wsX4_ifRained (wsV RX4 73 RX4 yX4_fails wsX4_fails) := goodIn_app (goodIn_of _ (by decide +kernel)) ggX4_ifRained_X4_fails
theorem dX4_ifRained_0 : decode cX4_ifRained 0 = .ok (.aload_n 0, 1) := by decide +kernel
theorem dX4_ifRained_1 : decode cX4_ifRained 1 = .ok (.iconst 0, 1) := by decide +kernel
theorem dX4_ifRained_2 : decode cX4_ifRained 2 = .ok (.putfield 25, 3) := by decide +kernel
theorem dX4_ifRained_5 : decode cX4_ifRained 5 = .ok (.iload_n 1, 1) := by decide +kernel
theorem dX4_ifRained_6 : decode cX4_ifRained 6 = .ok (.iconst 1, 1) := by decide +kernel
theorem dX4_ifRained_7 : decode cX4_ifRained 7 = .ok (.bipush 60, 2) := by decide +kernel
theorem dX4_ifRained_9 : decode cX4_ifRained 9 = .ok (.invokestatic 29, 3) := by decide +kernel
theorem dX4_ifRained_12 : decode cX4_ifRained 12 = .ok (.ifCond .eq 21, 3) := by decide +kernel
theorem dX4_ifRained_15 : decode cX4_ifRained 15 = .ok (.iload_n 2, 1) := by decide +kernel
theorem dX4_ifRained_16 : decode cX4_ifRained 16 = .ok (.iconst 0, 1) := by decide +kernel
theorem dX4_ifRained_17 : decode cX4_ifRained 17 = .ok (.iconst 2, 1) := by decide +kernel
theorem dX4_ifRained_18 : decode cX4_ifRained 18 = .ok (.invokestatic 29, 3) := by decide +kernel
theorem dX4_ifRained_21 : decode cX4_ifRained 21 = .ok (.ifCond .eq 12, 3) := by decide +kernel
theorem dX4_ifRained_24 : decode cX4_ifRained 24 = .ok (.aload_n 0, 1) := by decide +kernel
theorem dX4_ifRained_25 : decode cX4_ifRained 25 = .ok (.iload_n 1, 1) := by decide +kernel
theorem dX4_ifRained_26 : decode cX4_ifRained 26 = .ok (.iload_n 2, 1) := by decide +kernel
theorem dX4_ifRained_27 : decode cX4_ifRained 27 = .ok (.invokevirtual 136, 3) := by decide +kernel
theorem dX4_ifRained_30 : decode cX4_ifRained 30 = .ok (.goto 8, 3) := by decide +kernel
theorem dX4_ifRained_33 : decode cX4_ifRained 33 = .ok (.aload_n 0, 1) := by decide +kernel
theorem dX4_ifRained_34 : decode cX4_ifRained 34 = .ok (.iconst 1, 1) := by decide +kernel
theorem dX4_ifRained_35 : decode cX4_ifRained 35 = .ok (.invokevirtual 73, 3) := by decide +kernel
theorem dX4_ifRained_38 : decode cX4_ifRained 38 = .ok (.ireturn, 1) := by decide +kernel
set_option maxRecDepth 20000 in
theorem ggX4_firstSpill_X4_putAside : GoodIn wsX4_firstSpill wsX4_putAside := goodIn_r _ [7, 2, 1, 48, 49, 50, 51, 52, 53, 54, 55, 56, 57, 58, 59] (by decide +kernel) (by decide +kernel)
set_option maxRecDepth 20000 in
theorem gX4_firstSpill_X4_putAside : GoodIn wsX4_firstSpill (wsV RX4 130 RX4 yX4_putAside wsX4_putAside) := goodIn_app (goodIn_of _ (by decide +kernel)) ggX4_firstSpill_X4_putAside
set_option maxRecDepth 20000 in
theorem ggX4_firstSpill_X4_minute : GoodIn wsX4_firstSpill wsX4_minute := goodIn_r _ [11, 1, 12, 13, 14, 6, 15, 16, 17, 18, 19, 20, 21, 22, 23, 24, 25, 26, 27, 28, 29, 30, 31, 32, 33, 34, 35, 36, 37, 38, 39, 40, 41, 42, 43, 48, 49, 50, 51, 52, 53, 54, 55, 56, 57, 58, 59] (by decide +kernel) (by decide +kernel)
set_option maxRecDepth 20000 in
theorem gX4_firstSpill_X4_minute : GoodIn wsX4_firstSpill (wsV RX4 66 RX4 yX4_minute wsX4_minute) := goodIn_app (goodIn_of _ (by decide +kernel)) ggX4_firstSpill_X4_minute
set_option maxRecDepth 20000 in
theorem ggX4_firstSpill_X4_of : GoodIn wsX4_firstSpill wsX4_of := goodIn_r _ [35, 1, 48, 49, 50, 51, 52, 53, 54, 55, 56, 57, 58, 59] (by decide +kernel) (by decide +kernel)
set_option maxRecDepth 20000 in
theorem gX4_firstSpill_X4_of : GoodIn wsX4_firstSpill (wsV RX4 36 RX4 yX4_of wsX4_of) := goodIn_app (goodIn_of _ (by decide +kernel)) ggX4_firstSpill_X4_of
set_option maxRecDepth 20000 in
theorem ggX4_firstSpill_X4_takeBack : GoodIn wsX4_firstSpill wsX4_takeBack := goodIn_r _ [47, 1, 2, 48, 49, 50, 51, 52, 53, 54, 55, 56, 57, 58, 59] (by decide +kernel) (by decide +kernel)
set_option maxRecDepth 20000 in
theorem gX4_firstSpill_X4_takeBack : GoodIn wsX4_firstSpill (wsV RX4 133 RX4 yX4_takeBack wsX4_takeBack) := goodIn_app (goodIn_of _ (by decide +kernel)) ggX4_firstSpill_X4_takeBack
theorem dX4_firstSpill_0 : decode cX4_firstSpill 0 = .ok (.aload_n 0, 1) := by decide +kernel
theorem dX4_firstSpill_1 : decode cX4_firstSpill 1 = .ok (.invokevirtual 130, 3) := by decide +kernel
theorem dX4_firstSpill_4 : decode cX4_firstSpill 4 = .ok (.iconst 0, 1) := by decide +kernel
theorem dX4_firstSpill_5 : decode cX4_firstSpill 5 = .ok (.istore_n 2, 1) := by decide +kernel
theorem dX4_firstSpill_6 : decode cX4_firstSpill 6 = .ok (.iload_n 2, 1) := by decide +kernel
theorem dX4_firstSpill_7 : decode cX4_firstSpill 7 = .ok (.bipush 60, 2) := by decide +kernel
theorem dX4_firstSpill_9 : decode cX4_firstSpill 9 = .ok (.if_icmp .ge 36, 3) := by decide +kernel
theorem dX4_firstSpill_12 : decode cX4_firstSpill 12 = .ok (.aload_n 0, 1) := by decide +kernel
theorem dX4_firstSpill_13 : decode cX4_firstSpill 13 = .ok (.getfield 7, 3) := by decide +kernel
theorem dX4_firstSpill_16 : decode cX4_firstSpill 16 = .ok (.bipush 7, 2) := by decide +kernel
theorem dX4_firstSpill_18 : decode cX4_firstSpill 18 = .ok (.iaload, 1) := by decide +kernel
theorem dX4_firstSpill_19 : decode cX4_firstSpill 19 = .ok (.aload_n 0, 1) := by decide +kernel
theorem dX4_firstSpill_20 : decode cX4_firstSpill 20 = .ok (.getfield 13, 3) := by decide +kernel
theorem dX4_firstSpill_23 : decode cX4_firstSpill 23 = .ok (.bipush 7, 2) := by decide +kernel
theorem dX4_firstSpill_25 : decode cX4_firstSpill 25 = .ok (.iaload, 1) := by decide +kernel
theorem dX4_firstSpill_26 : decode cX4_firstSpill 26 = .ok (.if_icmp .ne 19, 3) := by decide +kernel
theorem dX4_firstSpill_29 : decode cX4_firstSpill 29 = .ok (.aload_n 0, 1) := by decide +kernel
theorem dX4_firstSpill_30 : decode cX4_firstSpill 30 = .ok (.aload_n 0, 1) := by decide +kernel
theorem dX4_firstSpill_31 : decode cX4_firstSpill 31 = .ok (.getfield 7, 3) := by decide +kernel
theorem dX4_firstSpill_34 : decode cX4_firstSpill 34 = .ok (.iconst 2, 1) := by decide +kernel
theorem dX4_firstSpill_35 : decode cX4_firstSpill 35 = .ok (.iaload, 1) := by decide +kernel
theorem dX4_firstSpill_36 : decode cX4_firstSpill 36 = .ok (.invokevirtual 66, 3) := by decide +kernel
theorem dX4_firstSpill_39 : decode cX4_firstSpill 39 = .ok (.iinc 2 1, 3) := by decide +kernel
theorem dX4_firstSpill_42 : decode cX4_firstSpill 42 = .ok (.goto (-36), 3) := by decide +kernel
theorem dX4_firstSpill_45 : decode cX4_firstSpill 45 = .ok (.iconst (-1), 1) := by decide +kernel
theorem dX4_firstSpill_46 : decode cX4_firstSpill 46 = .ok (.istore_n 3, 1) := by decide +kernel
theorem dX4_firstSpill_47 : decode cX4_firstSpill 47 = .ok (.iconst 5, 1) := by decide +kernel
theorem dX4_firstSpill_48 : decode cX4_firstSpill 48 = .ok (.istore 4, 2) := by decide +kernel
theorem dX4_firstSpill_50 : decode cX4_firstSpill 50 = .ok (.iload 4, 2) := by decide +kernel
theorem dX4_firstSpill_52 : decode cX4_firstSpill 52 = .ok (.ifCond .lt 41, 3) := by decide +kernel
theorem dX4_firstSpill_55 : decode cX4_firstSpill 55 = .ok (.aload_n 0, 1) := by decide +kernel
theorem dX4_firstSpill_56 : decode cX4_firstSpill 56 = .ok (.iload 4, 2) := by decide +kernel
theorem dX4_firstSpill_58 : decode cX4_firstSpill 58 = .ok (.iconst 5, 1) := by decide +kernel
theorem dX4_firstSpill_59 : decode cX4_firstSpill 59 = .ok (.invokevirtual 36, 3) := by decide +kernel
theorem dX4_firstSpill_62 : decode cX4_firstSpill 62 = .ok (.aload_n 0, 1) := by decide +kernel
theorem dX4_firstSpill_63 : decode cX4_firstSpill 63 = .ok (.getfield 13, 3) := by decide +kernel
theorem dX4_firstSpill_66 : decode cX4_firstSpill 66 = .ok (.bipush 33, 2) := by decide +kernel
theorem dX4_firstSpill_68 : decode cX4_firstSpill 68 = .ok (.bipush 7, 2) := by decide +kernel
theorem dX4_firstSpill_70 : decode cX4_firstSpill 70 = .ok (.iload 4, 2) := by decide +kernel
theorem dX4_firstSpill_72 : decode cX4_firstSpill 72 = .ok (.imul, 1) := by decide +kernel
theorem dX4_firstSpill_73 : decode cX4_firstSpill 73 = .ok (.iadd, 1) := by decide +kernel
theorem dX4_firstSpill_74 : decode cX4_firstSpill 74 = .ok (.iconst 5, 1) := by decide +kernel
theorem dX4_firstSpill_75 : decode cX4_firstSpill 75 = .ok (.iadd, 1) := by decide +kernel
theorem dX4_firstSpill_76 : decode cX4_firstSpill 76 = .ok (.iaload, 1) := by decide +kernel
theorem dX4_firstSpill_77 : decode cX4_firstSpill 77 = .ok (.if_icmp .le 8, 3) := by decide +kernel
theorem dX4_firstSpill_80 : decode cX4_firstSpill 80 = .ok (.iload 4, 2) := by decide +kernel
theorem dX4_firstSpill_82 : decode cX4_firstSpill 82 = .ok (.goto 4, 3) := by decide +kernel
theorem dX4_firstSpill_85 : decode cX4_firstSpill 85 = .ok (.iload_n 3, 1) := by decide +kernel
theorem dX4_firstSpill_86 : decode cX4_firstSpill 86 = .ok (.istore_n 3, 1) := by decide +kernel
theorem dX4_firstSpill_87 : decode cX4_firstSpill 87 = .ok (.iinc 4 (-1), 3) := by decide +kernel
theorem dX4_firstSpill_90 : decode cX4_firstSpill 90 = .ok (.goto (-40), 3) := by decide +kernel
theorem dX4_firstSpill_93 : decode cX4_firstSpill 93 = .ok (.aload_n 0, 1) := by decide +kernel
theorem dX4_firstSpill_94 : decode cX4_firstSpill 94 = .ok (.invokevirtual 133, 3) := by decide +kernel
theorem dX4_firstSpill_97 : decode cX4_firstSpill 97 = .ok (.iload_n 3, 1) := by decide +kernel
theorem dX4_firstSpill_98 : decode cX4_firstSpill 98 = .ok (.iconst (-1), 1) := by decide +kernel
theorem dX4_firstSpill_99 : decode cX4_firstSpill 99 = .ok (.if_icmp .eq 7, 3) := by decide +kernel
theorem dX4_firstSpill_102 : decode cX4_firstSpill 102 = .ok (.iload_n 1, 1) := by decide +kernel
theorem dX4_firstSpill_103 : decode cX4_firstSpill 103 = .ok (.ifCond .ne 7, 3) := by decide +kernel
theorem dX4_firstSpill_106 : decode cX4_firstSpill 106 = .ok (.iload_n 3, 1) := by decide +kernel
theorem dX4_firstSpill_107 : decode cX4_firstSpill 107 = .ok (.goto 4, 3) := by decide +kernel
theorem dX4_firstSpill_110 : decode cX4_firstSpill 110 = .ok (.iload_n 2, 1) := by decide +kernel
theorem dX4_firstSpill_111 : decode cX4_firstSpill 111 = .ok (.ireturn, 1) := by decide +kernel
set_option maxRecDepth 20000 in
theorem ggX4_spillsFirst_X4_in : GoodIn wsX4_spillsFirst wsX4_in := goodIn_r _ [5] (by decide +kernel) (by decide +kernel)
set_option maxRecDepth 20000 in
theorem gX4_spillsFirst_X4_in : GoodIn wsX4_spillsFirst (va_wsS RX4 29 yX4_in wsX4_in) := goodIn_app (goodIn_of _ (by decide +kernel)) ggX4_spillsFirst_X4_in
set_option maxRecDepth 20000 in
theorem ggX4_spillsFirst_X4_firstSpill : GoodIn wsX4_spillsFirst wsX4_firstSpill := goodIn_r _ [9, 10, 11, 12, 13, 14, 4, 15, 16, 17, 18, 19, 20, 21, 22, 23, 24, 25, 26, 27, 28, 29, 30, 31, 32, 33, 34, 35, 36, 37, 38, 39, 40, 41, 42, 43, 44, 45, 46, 47, 48, 49, 50, 51, 52, 53, 54, 55, 60, 61, 62, 63, 64, 65, 66, 67, 68, 69, 70, 71] (by decide +kernel) (by decide +kernel)
set_option maxRecDepth 20000 in
theorem gX4_spillsFirst_X4_firstSpill : GoodIn wsX4_spillsFirst (wsV RX4 139 RX4 yX4_firstSpill wsX4_firstSpill) := goodIn_app (goodIn_of _ (by decide +kernel)) ggX4_spillsFirst_X4_firstSpill
set_option maxRecDepth 20000 in
theorem ggX4_spillsFirst_X4_fails : GoodIn wsX4_spillsFirst wsX4_fails := goodIn_r _ [59, 1, 60, 61, 62, 63, 64, 65, 66, 67, 68, 69, 70, 71] (by decide +kernel) (by decide +kernel)
set_option maxRecDepth 20000 in
theorem gX4_spillsFirst_X4_fails : GoodIn wsX4_spillsFirst (wsV RX4 73 RX4 yX4_fails wsX4_fails) := goodIn_app (goodIn_of _ (by decide +kernel)) ggX4_spillsFirst_X4_fails
theorem dX4_spillsFirst_0 : decode cX4_spillsFirst 0 = .ok (.aload_n 0, 1) := by decide +kernel
theorem dX4_spillsFirst_1 : decode cX4_spillsFirst 1 = .ok (.iconst 0, 1) := by decide +kernel
theorem dX4_spillsFirst_2 : decode cX4_spillsFirst 2 = .ok (.putfield 25, 3) := by decide +kernel
theorem dX4_spillsFirst_5 : decode cX4_spillsFirst 5 = .ok (.iload_n 1, 1) := by decide +kernel
theorem dX4_spillsFirst_6 : decode cX4_spillsFirst 6 = .ok (.iconst 0, 1) := by decide +kernel
theorem dX4_spillsFirst_7 : decode cX4_spillsFirst 7 = .ok (.iconst 1, 1) := by decide +kernel
theorem dX4_spillsFirst_8 : decode cX4_spillsFirst 8 = .ok (.invokestatic 29, 3) := by decide +kernel
theorem dX4_spillsFirst_11 : decode cX4_spillsFirst 11 = .ok (.ifCond .eq 11, 3) := by decide +kernel
theorem dX4_spillsFirst_14 : decode cX4_spillsFirst 14 = .ok (.aload_n 0, 1) := by decide +kernel
theorem dX4_spillsFirst_15 : decode cX4_spillsFirst 15 = .ok (.iload_n 1, 1) := by decide +kernel
theorem dX4_spillsFirst_16 : decode cX4_spillsFirst 16 = .ok (.invokevirtual 139, 3) := by decide +kernel
theorem dX4_spillsFirst_19 : decode cX4_spillsFirst 19 = .ok (.goto 8, 3) := by decide +kernel
theorem dX4_spillsFirst_22 : decode cX4_spillsFirst 22 = .ok (.aload_n 0, 1) := by decide +kernel
theorem dX4_spillsFirst_23 : decode cX4_spillsFirst 23 = .ok (.iconst 1, 1) := by decide +kernel
theorem dX4_spillsFirst_24 : decode cX4_spillsFirst 24 = .ok (.invokevirtual 73, 3) := by decide +kernel
theorem dX4_spillsFirst_27 : decode cX4_spillsFirst 27 = .ok (.ireturn, 1) := by decide +kernel
set_option maxRecDepth 20000 in
theorem ggX4_bestOne_X4_of : GoodIn wsX4_bestOne wsX4_of := goodIn_r _ [6, 1, 60, 61, 62, 63, 64, 65, 66, 67, 68, 69, 70, 71] (by decide +kernel) (by decide +kernel)
set_option maxRecDepth 20000 in
theorem gX4_bestOne_X4_of : GoodIn wsX4_bestOne (wsV RX4 36 RX4 yX4_of wsX4_of) := goodIn_app (goodIn_of _ (by decide +kernel)) ggX4_bestOne_X4_of
set_option maxRecDepth 20000 in
theorem ggX4_bestOne_X4_would : GoodIn wsX4_bestOne wsX4_would := goodIn_r _ [10, 1, 11, 12, 13, 14, 5, 15, 16, 17, 18, 19, 20, 21, 22, 23, 24, 25, 26, 27, 28, 29, 30, 31, 32, 33, 34, 35, 36, 37, 38, 39, 40, 41, 42, 43, 2, 3, 4, 6, 44, 45, 46, 47, 48, 49, 50, 51, 52, 53, 54, 55, 56, 57, 58, 59, 60, 61, 62, 63, 64, 65, 66, 67, 68, 69, 70, 71] (by decide +kernel) (by decide +kernel)
set_option maxRecDepth 20000 in
theorem gX4_bestOne_X4_would : GoodIn wsX4_bestOne (wsV RX4 136 RX4 yX4_would wsX4_would) := goodIn_app (goodIn_of _ (by decide +kernel)) ggX4_bestOne_X4_would
theorem dX4_bestOne_0 : decode cX4_bestOne 0 = .ok (.iconst (-1), 1) := by decide +kernel
theorem dX4_bestOne_1 : decode cX4_bestOne 1 = .ok (.istore_n 1, 1) := by decide +kernel
theorem dX4_bestOne_2 : decode cX4_bestOne 2 = .ok (.iconst 0, 1) := by decide +kernel
theorem dX4_bestOne_3 : decode cX4_bestOne 3 = .ok (.istore_n 2, 1) := by decide +kernel
theorem dX4_bestOne_4 : decode cX4_bestOne 4 = .ok (.iconst 0, 1) := by decide +kernel
theorem dX4_bestOne_5 : decode cX4_bestOne 5 = .ok (.istore_n 3, 1) := by decide +kernel
theorem dX4_bestOne_6 : decode cX4_bestOne 6 = .ok (.iload_n 3, 1) := by decide +kernel
theorem dX4_bestOne_7 : decode cX4_bestOne 7 = .ok (.bipush 6, 2) := by decide +kernel
theorem dX4_bestOne_9 : decode cX4_bestOne 9 = .ok (.if_icmp .ge 103, 3) := by decide +kernel
theorem dX4_bestOne_12 : decode cX4_bestOne 12 = .ok (.aload_n 0, 1) := by decide +kernel
theorem dX4_bestOne_13 : decode cX4_bestOne 13 = .ok (.iload_n 3, 1) := by decide +kernel
theorem dX4_bestOne_14 : decode cX4_bestOne 14 = .ok (.iconst 2, 1) := by decide +kernel
theorem dX4_bestOne_15 : decode cX4_bestOne 15 = .ok (.invokevirtual 36, 3) := by decide +kernel
theorem dX4_bestOne_18 : decode cX4_bestOne 18 = .ok (.istore 4, 2) := by decide +kernel
theorem dX4_bestOne_20 : decode cX4_bestOne 20 = .ok (.aload_n 0, 1) := by decide +kernel
theorem dX4_bestOne_21 : decode cX4_bestOne 21 = .ok (.getfield 7, 3) := by decide +kernel
theorem dX4_bestOne_24 : decode cX4_bestOne 24 = .ok (.bipush 33, 2) := by decide +kernel
theorem dX4_bestOne_26 : decode cX4_bestOne 26 = .ok (.bipush 7, 2) := by decide +kernel
theorem dX4_bestOne_28 : decode cX4_bestOne 28 = .ok (.iload_n 3, 1) := by decide +kernel
theorem dX4_bestOne_29 : decode cX4_bestOne 29 = .ok (.imul, 1) := by decide +kernel
theorem dX4_bestOne_30 : decode cX4_bestOne 30 = .ok (.iadd, 1) := by decide +kernel
theorem dX4_bestOne_31 : decode cX4_bestOne 31 = .ok (.iconst 2, 1) := by decide +kernel
theorem dX4_bestOne_32 : decode cX4_bestOne 32 = .ok (.iadd, 1) := by decide +kernel
theorem dX4_bestOne_33 : decode cX4_bestOne 33 = .ok (.iconst 0, 1) := by decide +kernel
theorem dX4_bestOne_34 : decode cX4_bestOne 34 = .ok (.iastore, 1) := by decide +kernel
theorem dX4_bestOne_35 : decode cX4_bestOne 35 = .ok (.aload_n 0, 1) := by decide +kernel
theorem dX4_bestOne_36 : decode cX4_bestOne 36 = .ok (.bipush 30, 2) := by decide +kernel
theorem dX4_bestOne_38 : decode cX4_bestOne 38 = .ok (.iconst 0, 1) := by decide +kernel
theorem dX4_bestOne_39 : decode cX4_bestOne 39 = .ok (.invokevirtual 136, 3) := by decide +kernel
theorem dX4_bestOne_42 : decode cX4_bestOne 42 = .ok (.istore 5, 2) := by decide +kernel
theorem dX4_bestOne_44 : decode cX4_bestOne 44 = .ok (.aload_n 0, 1) := by decide +kernel
theorem dX4_bestOne_45 : decode cX4_bestOne 45 = .ok (.getfield 7, 3) := by decide +kernel
theorem dX4_bestOne_48 : decode cX4_bestOne 48 = .ok (.bipush 33, 2) := by decide +kernel
theorem dX4_bestOne_50 : decode cX4_bestOne 50 = .ok (.bipush 7, 2) := by decide +kernel
theorem dX4_bestOne_52 : decode cX4_bestOne 52 = .ok (.iload_n 3, 1) := by decide +kernel
theorem dX4_bestOne_53 : decode cX4_bestOne 53 = .ok (.imul, 1) := by decide +kernel
theorem dX4_bestOne_54 : decode cX4_bestOne 54 = .ok (.iadd, 1) := by decide +kernel
theorem dX4_bestOne_55 : decode cX4_bestOne 55 = .ok (.iconst 2, 1) := by decide +kernel
theorem dX4_bestOne_56 : decode cX4_bestOne 56 = .ok (.iadd, 1) := by decide +kernel
theorem dX4_bestOne_57 : decode cX4_bestOne 57 = .ok (.iload 4, 2) := by decide +kernel
theorem dX4_bestOne_59 : decode cX4_bestOne 59 = .ok (.iastore, 1) := by decide +kernel
theorem dX4_bestOne_60 : decode cX4_bestOne 60 = .ok (.iload 4, 2) := by decide +kernel
theorem dX4_bestOne_62 : decode cX4_bestOne 62 = .ok (.ifCond .le 18, 3) := by decide +kernel
theorem dX4_bestOne_65 : decode cX4_bestOne 65 = .ok (.iload_n 1, 1) := by decide +kernel
theorem dX4_bestOne_66 : decode cX4_bestOne 66 = .ok (.iconst (-1), 1) := by decide +kernel
theorem dX4_bestOne_67 : decode cX4_bestOne 67 = .ok (.if_icmp .eq 9, 3) := by decide +kernel
theorem dX4_bestOne_70 : decode cX4_bestOne 70 = .ok (.iload 5, 2) := by decide +kernel
theorem dX4_bestOne_72 : decode cX4_bestOne 72 = .ok (.iload_n 2, 1) := by decide +kernel
theorem dX4_bestOne_73 : decode cX4_bestOne 73 = .ok (.if_icmp .ge 7, 3) := by decide +kernel
theorem dX4_bestOne_76 : decode cX4_bestOne 76 = .ok (.iconst 1, 1) := by decide +kernel
theorem dX4_bestOne_77 : decode cX4_bestOne 77 = .ok (.goto 4, 3) := by decide +kernel
theorem dX4_bestOne_80 : decode cX4_bestOne 80 = .ok (.iconst 0, 1) := by decide +kernel
theorem dX4_bestOne_81 : decode cX4_bestOne 81 = .ok (.istore 6, 2) := by decide +kernel
theorem dX4_bestOne_83 : decode cX4_bestOne 83 = .ok (.iload 6, 2) := by decide +kernel
theorem dX4_bestOne_85 : decode cX4_bestOne 85 = .ok (.ifCond .eq 7, 3) := by decide +kernel
theorem dX4_bestOne_88 : decode cX4_bestOne 88 = .ok (.iload_n 3, 1) := by decide +kernel
theorem dX4_bestOne_89 : decode cX4_bestOne 89 = .ok (.goto 4, 3) := by decide +kernel
theorem dX4_bestOne_92 : decode cX4_bestOne 92 = .ok (.iload_n 1, 1) := by decide +kernel
theorem dX4_bestOne_93 : decode cX4_bestOne 93 = .ok (.istore_n 1, 1) := by decide +kernel
theorem dX4_bestOne_94 : decode cX4_bestOne 94 = .ok (.iload 6, 2) := by decide +kernel
theorem dX4_bestOne_96 : decode cX4_bestOne 96 = .ok (.ifCond .eq 8, 3) := by decide +kernel
theorem dX4_bestOne_99 : decode cX4_bestOne 99 = .ok (.iload 5, 2) := by decide +kernel
theorem dX4_bestOne_101 : decode cX4_bestOne 101 = .ok (.goto 4, 3) := by decide +kernel
theorem dX4_bestOne_104 : decode cX4_bestOne 104 = .ok (.iload_n 2, 1) := by decide +kernel
theorem dX4_bestOne_105 : decode cX4_bestOne 105 = .ok (.istore_n 2, 1) := by decide +kernel
theorem dX4_bestOne_106 : decode cX4_bestOne 106 = .ok (.iinc 3 1, 3) := by decide +kernel
theorem dX4_bestOne_109 : decode cX4_bestOne 109 = .ok (.goto (-103), 3) := by decide +kernel
theorem dX4_bestOne_112 : decode cX4_bestOne 112 = .ok (.iload_n 1, 1) := by decide +kernel
theorem dX4_bestOne_113 : decode cX4_bestOne 113 = .ok (.ireturn, 1) := by decide +kernel
set_option maxRecDepth 20000 in
theorem ggX4_bestClean_X4_bestOne : GoodIn wsX4_bestClean wsX4_bestOne := goodIn_r _ [6, 7, 8, 9, 10, 5, 11, 12, 13, 14, 15, 16, 17, 18, 19, 20, 21, 22, 23, 24, 25, 26, 27, 28, 29, 30, 31, 32, 33, 34, 35, 36, 37, 38, 39, 40, 41, 42, 43, 44, 45, 46, 47, 48, 49, 50, 51, 52, 53, 54, 55, 56, 57, 58, 59, 60, 61, 62, 63, 64, 65, 66, 67, 68, 69, 70, 71, 72, 73, 74, 75, 76] (by decide +kernel) (by decide +kernel)
set_option maxRecDepth 20000 in
theorem gX4_bestClean_X4_bestOne : GoodIn wsX4_bestClean (wsV RX4 142 RX4 yX4_bestOne wsX4_bestOne) := goodIn_app (goodIn_of _ (by decide +kernel)) ggX4_bestClean_X4_bestOne
theorem dX4_bestClean_0 : decode cX4_bestClean 0 = .ok (.aload_n 0, 1) := by decide +kernel
theorem dX4_bestClean_1 : decode cX4_bestClean 1 = .ok (.iconst 0, 1) := by decide +kernel
theorem dX4_bestClean_2 : decode cX4_bestClean 2 = .ok (.putfield 25, 3) := by decide +kernel
theorem dX4_bestClean_5 : decode cX4_bestClean 5 = .ok (.aload_n 0, 1) := by decide +kernel
theorem dX4_bestClean_6 : decode cX4_bestClean 6 = .ok (.invokevirtual 142, 3) := by decide +kernel
theorem dX4_bestClean_9 : decode cX4_bestClean 9 = .ok (.ireturn, 1) := by decide +kernel
set_option maxRecDepth 20000 in
theorem ggX4_greatestRain_X4_putAside : GoodIn wsX4_greatestRain wsX4_putAside := goodIn_r _ [5, 6, 7, 52, 53, 54, 55, 56, 57, 58, 59, 60, 61, 62, 63] (by decide +kernel) (by decide +kernel)
set_option maxRecDepth 20000 in
theorem gX4_greatestRain_X4_putAside : GoodIn wsX4_greatestRain (wsV RX4 130 RX4 yX4_putAside wsX4_putAside) := goodIn_app (goodIn_of _ (by decide +kernel)) ggX4_greatestRain_X4_putAside
set_option maxRecDepth 20000 in
theorem ggX4_greatestRain_X4_rains : GoodIn wsX4_greatestRain wsX4_rains := goodIn_r _ [11, 7, 12, 13, 14, 4, 15, 16, 17, 18, 19, 20, 21, 22, 23, 24, 25, 26, 27, 28, 29, 30, 31, 32, 33, 34, 35, 36, 37, 38, 39, 40, 41, 42, 43, 44, 45, 46, 47, 52, 53, 54, 55, 56, 57, 58, 59, 60, 61, 62, 63] (by decide +kernel) (by decide +kernel)
set_option maxRecDepth 20000 in
theorem gX4_greatestRain_X4_rains : GoodIn wsX4_greatestRain (wsV RX4 83 RX4 yX4_rains wsX4_rains) := goodIn_app (goodIn_of _ (by decide +kernel)) ggX4_greatestRain_X4_rains
set_option maxRecDepth 20000 in
theorem ggX4_greatestRain_X4_takeBack : GoodIn wsX4_greatestRain wsX4_takeBack := goodIn_r _ [51, 7, 6, 52, 53, 54, 55, 56, 57, 58, 59, 60, 61, 62, 63] (by decide +kernel) (by decide +kernel)
set_option maxRecDepth 20000 in
theorem gX4_greatestRain_X4_takeBack : GoodIn wsX4_greatestRain (wsV RX4 133 RX4 yX4_takeBack wsX4_takeBack) := goodIn_app (goodIn_of _ (by decide +kernel)) ggX4_greatestRain_X4_takeBack
theorem dX4_greatestRain_0 : decode cX4_greatestRain 0 = .ok (.bipush 99, 2) := by decide +kernel
theorem dX4_greatestRain_2 : decode cX4_greatestRain 2 = .ok (.istore_n 2, 1) := by decide +kernel
theorem dX4_greatestRain_3 : decode cX4_greatestRain 3 = .ok (.iconst 0, 1) := by decide +kernel
theorem dX4_greatestRain_4 : decode cX4_greatestRain 4 = .ok (.istore_n 3, 1) := by decide +kernel
theorem dX4_greatestRain_5 : decode cX4_greatestRain 5 = .ok (.iload_n 2, 1) := by decide +kernel
theorem dX4_greatestRain_6 : decode cX4_greatestRain 6 = .ok (.ifCond .lt 45, 3) := by decide +kernel
theorem dX4_greatestRain_9 : decode cX4_greatestRain 9 = .ok (.iload_n 3, 1) := by decide +kernel
theorem dX4_greatestRain_10 : decode cX4_greatestRain 10 = .ok (.ifCond .ne 41, 3) := by decide +kernel
theorem dX4_greatestRain_13 : decode cX4_greatestRain 13 = .ok (.aload_n 0, 1) := by decide +kernel
theorem dX4_greatestRain_14 : decode cX4_greatestRain 14 = .ok (.invokevirtual 130, 3) := by decide +kernel
theorem dX4_greatestRain_17 : decode cX4_greatestRain 17 = .ok (.aload_n 0, 1) := by decide +kernel
theorem dX4_greatestRain_18 : decode cX4_greatestRain 18 = .ok (.iload_n 2, 1) := by decide +kernel
theorem dX4_greatestRain_19 : decode cX4_greatestRain 19 = .ok (.iload_n 1, 1) := by decide +kernel
theorem dX4_greatestRain_20 : decode cX4_greatestRain 20 = .ok (.invokevirtual 83, 3) := by decide +kernel
theorem dX4_greatestRain_23 : decode cX4_greatestRain 23 = .ok (.ifCond .ne 7, 3) := by decide +kernel
theorem dX4_greatestRain_26 : decode cX4_greatestRain 26 = .ok (.iconst 1, 1) := by decide +kernel
theorem dX4_greatestRain_27 : decode cX4_greatestRain 27 = .ok (.goto 4, 3) := by decide +kernel
theorem dX4_greatestRain_30 : decode cX4_greatestRain 30 = .ok (.iconst 0, 1) := by decide +kernel
theorem dX4_greatestRain_31 : decode cX4_greatestRain 31 = .ok (.istore_n 3, 1) := by decide +kernel
theorem dX4_greatestRain_32 : decode cX4_greatestRain 32 = .ok (.aload_n 0, 1) := by decide +kernel
theorem dX4_greatestRain_33 : decode cX4_greatestRain 33 = .ok (.invokevirtual 133, 3) := by decide +kernel
theorem dX4_greatestRain_36 : decode cX4_greatestRain 36 = .ok (.iload_n 2, 1) := by decide +kernel
theorem dX4_greatestRain_37 : decode cX4_greatestRain 37 = .ok (.iload_n 3, 1) := by decide +kernel
theorem dX4_greatestRain_38 : decode cX4_greatestRain 38 = .ok (.ifCond .eq 7, 3) := by decide +kernel
theorem dX4_greatestRain_41 : decode cX4_greatestRain 41 = .ok (.iconst 0, 1) := by decide +kernel
theorem dX4_greatestRain_42 : decode cX4_greatestRain 42 = .ok (.goto 4, 3) := by decide +kernel
theorem dX4_greatestRain_45 : decode cX4_greatestRain 45 = .ok (.iconst 1, 1) := by decide +kernel
theorem dX4_greatestRain_46 : decode cX4_greatestRain 46 = .ok (.isub, 1) := by decide +kernel
theorem dX4_greatestRain_47 : decode cX4_greatestRain 47 = .ok (.istore_n 2, 1) := by decide +kernel
theorem dX4_greatestRain_48 : decode cX4_greatestRain 48 = .ok (.goto (-43), 3) := by decide +kernel
theorem dX4_greatestRain_51 : decode cX4_greatestRain 51 = .ok (.iload_n 2, 1) := by decide +kernel
theorem dX4_greatestRain_52 : decode cX4_greatestRain 52 = .ok (.ireturn, 1) := by decide +kernel
set_option maxRecDepth 20000 in
theorem ggX4_mostRain_X4_in : GoodIn wsX4_mostRain wsX4_in := goodIn_r _ [5] (by decide +kernel) (by decide +kernel)
set_option maxRecDepth 20000 in
theorem gX4_mostRain_X4_in : GoodIn wsX4_mostRain (va_wsS RX4 29 yX4_in wsX4_in) := goodIn_app (goodIn_of _ (by decide +kernel)) ggX4_mostRain_X4_in
set_option maxRecDepth 20000 in
theorem ggX4_mostRain_X4_greatestRain : GoodIn wsX4_mostRain wsX4_greatestRain := goodIn_r _ [9, 10, 11, 12, 4, 13, 14, 15, 16, 17, 18, 19, 20, 21, 22, 23, 24, 25, 26, 27, 28, 29, 30, 31, 32, 33, 34, 35, 36, 37, 38, 39, 40, 41, 42, 43, 44, 45, 46, 47, 48, 49, 50, 51, 52, 53, 54, 55, 56, 57, 58, 59, 64, 65, 66, 67, 68, 69, 70, 71, 72, 73, 74, 75] (by decide +kernel) (by decide +kernel)
set_option maxRecDepth 20000 in
theorem gX4_mostRain_X4_greatestRain : GoodIn wsX4_mostRain (wsV RX4 145 RX4 yX4_greatestRain wsX4_greatestRain) := goodIn_app (goodIn_of _ (by decide +kernel)) ggX4_mostRain_X4_greatestRain
set_option maxRecDepth 20000 in
theorem ggX4_mostRain_X4_fails : GoodIn wsX4_mostRain wsX4_fails := goodIn_r _ [63, 1, 64, 65, 66, 67, 68, 69, 70, 71, 72, 73, 74, 75] (by decide +kernel) (by decide +kernel)
set_option maxRecDepth 20000 in
theorem gX4_mostRain_X4_fails : GoodIn wsX4_mostRain (wsV RX4 73 RX4 yX4_fails wsX4_fails) := goodIn_app (goodIn_of _ (by decide +kernel)) ggX4_mostRain_X4_fails
theorem dX4_mostRain_0 : decode cX4_mostRain 0 = .ok (.aload_n 0, 1) := by decide +kernel
theorem dX4_mostRain_1 : decode cX4_mostRain 1 = .ok (.iconst 0, 1) := by decide +kernel
theorem dX4_mostRain_2 : decode cX4_mostRain 2 = .ok (.putfield 25, 3) := by decide +kernel
theorem dX4_mostRain_5 : decode cX4_mostRain 5 = .ok (.iload_n 1, 1) := by decide +kernel
theorem dX4_mostRain_6 : decode cX4_mostRain 6 = .ok (.iconst 1, 1) := by decide +kernel
theorem dX4_mostRain_7 : decode cX4_mostRain 7 = .ok (.bipush 60, 2) := by decide +kernel
theorem dX4_mostRain_9 : decode cX4_mostRain 9 = .ok (.invokestatic 29, 3) := by decide +kernel
theorem dX4_mostRain_12 : decode cX4_mostRain 12 = .ok (.ifCond .eq 11, 3) := by decide +kernel
theorem dX4_mostRain_15 : decode cX4_mostRain 15 = .ok (.aload_n 0, 1) := by decide +kernel
theorem dX4_mostRain_16 : decode cX4_mostRain 16 = .ok (.iload_n 1, 1) := by decide +kernel
theorem dX4_mostRain_17 : decode cX4_mostRain 17 = .ok (.invokevirtual 145, 3) := by decide +kernel
theorem dX4_mostRain_20 : decode cX4_mostRain 20 = .ok (.goto 8, 3) := by decide +kernel
theorem dX4_mostRain_23 : decode cX4_mostRain 23 = .ok (.aload_n 0, 1) := by decide +kernel
theorem dX4_mostRain_24 : decode cX4_mostRain 24 = .ok (.iconst 1, 1) := by decide +kernel
theorem dX4_mostRain_25 : decode cX4_mostRain 25 = .ok (.invokevirtual 73, 3) := by decide +kernel
theorem dX4_mostRain_28 : decode cX4_mostRain 28 = .ok (.ireturn, 1) := by decide +kernel
set_option maxRecDepth 20000 in
theorem ggX4_untilDry_X4_putAside : GoodIn wsX4_untilDry wsX4_putAside := goodIn_r _ [5, 6, 7, 52, 53, 54, 55, 56, 57, 58, 59, 60, 61, 62, 63] (by decide +kernel) (by decide +kernel)
set_option maxRecDepth 20000 in
theorem gX4_untilDry_X4_putAside : GoodIn wsX4_untilDry (wsV RX4 130 RX4 yX4_putAside wsX4_putAside) := goodIn_app (goodIn_of _ (by decide +kernel)) ggX4_untilDry_X4_putAside
set_option maxRecDepth 20000 in
theorem ggX4_untilDry_X4_stands : GoodIn wsX4_untilDry wsX4_stands := goodIn_r _ [11, 12, 13, 14, 4, 15, 7, 16, 17, 18, 19, 52, 53, 54, 55, 56, 57, 58, 59, 60, 61, 62, 63] (by decide +kernel) (by decide +kernel)
set_option maxRecDepth 20000 in
theorem gX4_untilDry_X4_stands : GoodIn wsX4_untilDry (wsV RX4 124 RX4 yX4_stands wsX4_stands) := goodIn_app (goodIn_of _ (by decide +kernel)) ggX4_untilDry_X4_stands
set_option maxRecDepth 20000 in
theorem ggX4_untilDry_X4_minute : GoodIn wsX4_untilDry wsX4_minute := goodIn_r _ [23, 7, 24, 25, 26, 4, 27, 12, 13, 14, 15, 28, 29, 30, 31, 32, 33, 34, 35, 36, 37, 38, 39, 16, 17, 18, 19, 40, 41, 42, 43, 44, 45, 46, 47, 52, 53, 54, 55, 56, 57, 58, 59, 60, 61, 62, 63] (by decide +kernel) (by decide +kernel)
set_option maxRecDepth 20000 in
theorem gX4_untilDry_X4_minute : GoodIn wsX4_untilDry (wsV RX4 66 RX4 yX4_minute wsX4_minute) := goodIn_app (goodIn_of _ (by decide +kernel)) ggX4_untilDry_X4_minute
set_option maxRecDepth 20000 in
theorem ggX4_untilDry_X4_takeBack : GoodIn wsX4_untilDry wsX4_takeBack := goodIn_r _ [51, 7, 6, 52, 53, 54, 55, 56, 57, 58, 59, 60, 61, 62, 63] (by decide +kernel) (by decide +kernel)
set_option maxRecDepth 20000 in
theorem gX4_untilDry_X4_takeBack : GoodIn wsX4_untilDry (wsV RX4 133 RX4 yX4_takeBack wsX4_takeBack) := goodIn_app (goodIn_of _ (by decide +kernel)) ggX4_untilDry_X4_takeBack
theorem dX4_untilDry_0 : decode cX4_untilDry 0 = .ok (.aload_n 0, 1) := by decide +kernel
theorem dX4_untilDry_1 : decode cX4_untilDry 1 = .ok (.invokevirtual 130, 3) := by decide +kernel
theorem dX4_untilDry_4 : decode cX4_untilDry 4 = .ok (.iconst 0, 1) := by decide +kernel
theorem dX4_untilDry_5 : decode cX4_untilDry 5 = .ok (.istore_n 1, 1) := by decide +kernel
theorem dX4_untilDry_6 : decode cX4_untilDry 6 = .ok (.iload_n 1, 1) := by decide +kernel
theorem dX4_untilDry_7 : decode cX4_untilDry 7 = .ok (.sipush 300, 3) := by decide +kernel
theorem dX4_untilDry_10 : decode cX4_untilDry 10 = .ok (.if_icmp .gt 21, 3) := by decide +kernel
theorem dX4_untilDry_13 : decode cX4_untilDry 13 = .ok (.aload_n 0, 1) := by decide +kernel
theorem dX4_untilDry_14 : decode cX4_untilDry 14 = .ok (.invokevirtual 124, 3) := by decide +kernel
theorem dX4_untilDry_17 : decode cX4_untilDry 17 = .ok (.ifCond .le 14, 3) := by decide +kernel
theorem dX4_untilDry_20 : decode cX4_untilDry 20 = .ok (.aload_n 0, 1) := by decide +kernel
theorem dX4_untilDry_21 : decode cX4_untilDry 21 = .ok (.iconst 0, 1) := by decide +kernel
theorem dX4_untilDry_22 : decode cX4_untilDry 22 = .ok (.invokevirtual 66, 3) := by decide +kernel
theorem dX4_untilDry_25 : decode cX4_untilDry 25 = .ok (.iinc 1 1, 3) := by decide +kernel
theorem dX4_untilDry_28 : decode cX4_untilDry 28 = .ok (.goto (-22), 3) := by decide +kernel
theorem dX4_untilDry_31 : decode cX4_untilDry 31 = .ok (.aload_n 0, 1) := by decide +kernel
theorem dX4_untilDry_32 : decode cX4_untilDry 32 = .ok (.invokevirtual 133, 3) := by decide +kernel
theorem dX4_untilDry_35 : decode cX4_untilDry 35 = .ok (.iload_n 1, 1) := by decide +kernel
theorem dX4_untilDry_36 : decode cX4_untilDry 36 = .ok (.sipush 300, 3) := by decide +kernel
theorem dX4_untilDry_39 : decode cX4_untilDry 39 = .ok (.if_icmp .le 7, 3) := by decide +kernel
theorem dX4_untilDry_42 : decode cX4_untilDry 42 = .ok (.iconst (-1), 1) := by decide +kernel
theorem dX4_untilDry_43 : decode cX4_untilDry 43 = .ok (.goto 4, 3) := by decide +kernel
theorem dX4_untilDry_46 : decode cX4_untilDry 46 = .ok (.iload_n 1, 1) := by decide +kernel
theorem dX4_untilDry_47 : decode cX4_untilDry 47 = .ok (.ireturn, 1) := by decide +kernel
set_option maxRecDepth 20000 in
theorem ggX4_dryIn_X4_untilDry : GoodIn wsX4_dryIn wsX4_untilDry := goodIn_r _ [6, 7, 8, 9, 5, 10, 11, 12, 13, 14, 15, 16, 17, 18, 19, 20, 21, 22, 23, 24, 25, 26, 27, 28, 29, 30, 31, 32, 33, 34, 35, 36, 37, 38, 39, 40, 41, 42, 43, 44, 45, 46, 47, 48, 49, 50, 51, 52, 53, 54, 55, 56, 57, 58, 59, 60, 61, 62, 63, 64, 65, 66, 67, 68] (by decide +kernel) (by decide +kernel)
set_option maxRecDepth 20000 in
theorem gX4_dryIn_X4_untilDry : GoodIn wsX4_dryIn (wsV RX4 148 RX4 yX4_untilDry wsX4_untilDry) := goodIn_app (goodIn_of _ (by decide +kernel)) ggX4_dryIn_X4_untilDry
theorem dX4_dryIn_0 : decode cX4_dryIn 0 = .ok (.aload_n 0, 1) := by decide +kernel
theorem dX4_dryIn_1 : decode cX4_dryIn 1 = .ok (.iconst 0, 1) := by decide +kernel
theorem dX4_dryIn_2 : decode cX4_dryIn 2 = .ok (.putfield 25, 3) := by decide +kernel
theorem dX4_dryIn_5 : decode cX4_dryIn 5 = .ok (.aload_n 0, 1) := by decide +kernel
theorem dX4_dryIn_6 : decode cX4_dryIn 6 = .ok (.invokevirtual 148, 3) := by decide +kernel
theorem dX4_dryIn_9 : decode cX4_dryIn 9 = .ok (.ireturn, 1) := by decide +kernel
theorem dX4_share_0 : decode cX4_share 0 = .ok (.aload_n 0, 1) := by decide +kernel
theorem dX4_share_1 : decode cX4_share 1 = .ok (.getfield 7, 3) := by decide +kernel
theorem dX4_share_4 : decode cX4_share 4 = .ok (.iconst 5, 1) := by decide +kernel
theorem dX4_share_5 : decode cX4_share 5 = .ok (.iaload, 1) := by decide +kernel
theorem dX4_share_6 : decode cX4_share 6 = .ok (.ifCond .ne 7, 3) := by decide +kernel
theorem dX4_share_9 : decode cX4_share 9 = .ok (.dconst 1, 1) := by decide +kernel
theorem dX4_share_10 : decode cX4_share 10 = .ok (.goto 19, 3) := by decide +kernel
theorem dX4_share_13 : decode cX4_share 13 = .ok (.aload_n 0, 1) := by decide +kernel
theorem dX4_share_14 : decode cX4_share 14 = .ok (.getfield 7, 3) := by decide +kernel
theorem dX4_share_17 : decode cX4_share 17 = .ok (.bipush 6, 2) := by decide +kernel
theorem dX4_share_19 : decode cX4_share 19 = .ok (.iaload, 1) := by decide +kernel
theorem dX4_share_20 : decode cX4_share 20 = .ok (.i2d, 1) := by decide +kernel
theorem dX4_share_21 : decode cX4_share 21 = .ok (.aload_n 0, 1) := by decide +kernel
theorem dX4_share_22 : decode cX4_share 22 = .ok (.getfield 7, 3) := by decide +kernel
theorem dX4_share_25 : decode cX4_share 25 = .ok (.iconst 5, 1) := by decide +kernel
theorem dX4_share_26 : decode cX4_share 26 = .ok (.iaload, 1) := by decide +kernel
theorem dX4_share_27 : decode cX4_share 27 = .ok (.i2d, 1) := by decide +kernel
theorem dX4_share_28 : decode cX4_share 28 = .ok (.ddiv, 1) := by decide +kernel
theorem dX4_share_29 : decode cX4_share 29 = .ok (.dreturn, 1) := by decide +kernel
set_option maxRecDepth 20000 in
theorem ggX4_drainedShare_X4_share : GoodIn wsX4_drainedShare wsX4_share := goodIn_r _ [6, 7, 8, 9, 10, 11, 12, 13, 14, 15, 16, 17, 18, 19] (by decide +kernel) (by decide +kernel)
set_option maxRecDepth 20000 in
theorem gX4_drainedShare_X4_share : GoodIn wsX4_drainedShare (wsV RX4 151 RX4 yX4_share wsX4_share) := goodIn_app (goodIn_of _ (by decide +kernel)) ggX4_drainedShare_X4_share
theorem dX4_drainedShare_0 : decode cX4_drainedShare 0 = .ok (.aload_n 0, 1) := by decide +kernel
theorem dX4_drainedShare_1 : decode cX4_drainedShare 1 = .ok (.iconst 0, 1) := by decide +kernel
theorem dX4_drainedShare_2 : decode cX4_drainedShare 2 = .ok (.putfield 25, 3) := by decide +kernel
theorem dX4_drainedShare_5 : decode cX4_drainedShare 5 = .ok (.aload_n 0, 1) := by decide +kernel
theorem dX4_drainedShare_6 : decode cX4_drainedShare 6 = .ok (.invokevirtual 151, 3) := by decide +kernel
theorem dX4_drainedShare_9 : decode cX4_drainedShare 9 = .ok (.dreturn, 1) := by decide +kernel
theorem dX4_hashes_0 : decode cX4_hashes 0 = .ok (.aload_n 0, 1) := by decide +kernel
theorem dX4_hashes_1 : decode cX4_hashes 1 = .ok (.ldc2_w 155, 3) := by decide +kernel
theorem dX4_hashes_4 : decode cX4_hashes 4 = .ok (.aload_n 0, 1) := by decide +kernel
theorem dX4_hashes_5 : decode cX4_hashes 5 = .ok (.getfield 157, 3) := by decide +kernel
theorem dX4_hashes_8 : decode cX4_hashes 8 = .ok (.lmul, 1) := by decide +kernel
theorem dX4_hashes_9 : decode cX4_hashes 9 = .ok (.lload_n 1, 1) := by decide +kernel
theorem dX4_hashes_10 : decode cX4_hashes 10 = .ok (.ladd, 1) := by decide +kernel
theorem dX4_hashes_11 : decode cX4_hashes 11 = .ok (.putfield 157, 3) := by decide +kernel
theorem dX4_hashes_14 : decode cX4_hashes 14 = .ok (.return_, 1) := by decide +kernel
set_option maxRecDepth 20000 in
theorem ggX4_digest_X4_counts : GoodIn wsX4_digest wsX4_counts := goodIn_r _ [11, 12, 4, 13, 14, 15, 10, 16, 17, 18, 19, 20, 21, 22, 23, 24, 25, 26, 27, 28, 115, 116, 117, 118, 119, 120, 121, 122, 123, 124, 125, 126] (by decide +kernel) (by decide +kernel)
set_option maxRecDepth 20000 in
theorem gX4_digest_X4_counts : GoodIn wsX4_digest (wsV RX4 127 RX4 yX4_counts wsX4_counts) := goodIn_app (goodIn_of _ (by decide +kernel)) ggX4_digest_X4_counts
set_option maxRecDepth 20000 in
theorem ggX4_digest_X4_hashes : GoodIn wsX4_digest wsX4_hashes := goodIn_r _ [32, 33, 3, 115, 116, 117, 118, 119, 120, 121, 122, 123, 124, 125, 126] (by decide +kernel) (by decide +kernel)
set_option maxRecDepth 20000 in
theorem gX4_digest_X4_hashes : GoodIn wsX4_digest (wsV RX4 163 RX4 yX4_hashes wsX4_hashes) := goodIn_app (goodIn_of _ (by decide +kernel)) ggX4_digest_X4_hashes
set_option maxRecDepth 20000 in
theorem ggX4_digest_X4_ofPlane : GoodIn wsX4_digest wsX4_ofPlane := goodIn_r _ [20, 4, 115, 116, 117, 118, 119, 120, 121, 122, 123, 124, 125, 126] (by decide +kernel) (by decide +kernel)
set_option maxRecDepth 20000 in
theorem gX4_digest_X4_ofPlane : GoodIn wsX4_digest (wsV RX4 40 RX4 yX4_ofPlane wsX4_ofPlane) := goodIn_app (goodIn_of _ (by decide +kernel)) ggX4_digest_X4_ofPlane
set_option maxRecDepth 20000 in
theorem ggX4_digest_X4_tellsGutter : GoodIn wsX4_digest wsX4_tellsGutter := goodIn_r _ [37, 21, 22, 23, 10, 24, 4, 38, 39, 40, 41, 42, 43, 44, 45, 115, 116, 117, 118, 119, 120, 121, 122, 123, 124, 125, 126] (by decide +kernel) (by decide +kernel)
set_option maxRecDepth 20000 in
theorem gX4_digest_X4_tellsGutter : GoodIn wsX4_digest (wsV RX4 121 RX4 yX4_tellsGutter wsX4_tellsGutter) := goodIn_app (goodIn_of _ (by decide +kernel)) ggX4_digest_X4_tellsGutter
set_option maxRecDepth 20000 in
theorem ggX4_digest_X4_would : GoodIn wsX4_digest wsX4_would := goodIn_r _ [49, 4, 50, 51, 52, 53, 10, 54, 55, 56, 57, 58, 59, 60, 61, 62, 63, 64, 65, 66, 17, 18, 19, 20, 67, 68, 69, 70, 71, 72, 73, 74, 42, 43, 44, 45, 21, 22, 23, 24, 75, 76, 77, 78, 38, 39, 40, 41, 13, 14, 15, 16, 79, 80, 81, 82, 115, 116, 117, 118, 119, 120, 121, 122, 123, 124, 125, 126] (by decide +kernel) (by decide +kernel)
set_option maxRecDepth 20000 in
theorem gX4_digest_X4_would : GoodIn wsX4_digest (wsV RX4 136 RX4 yX4_would wsX4_would) := goodIn_app (goodIn_of _ (by decide +kernel)) ggX4_digest_X4_would
set_option maxRecDepth 20000 in
theorem ggX4_digest_X4_firstSpill : GoodIn wsX4_digest wsX4_firstSpill := goodIn_r _ [86, 4, 50, 51, 52, 53, 10, 54, 59, 60, 61, 62, 63, 64, 65, 66, 17, 18, 19, 20, 67, 68, 69, 70, 71, 72, 73, 74, 42, 43, 44, 45, 21, 22, 23, 24, 75, 76, 77, 78, 38, 39, 40, 41, 79, 80, 81, 82, 115, 116, 117, 118, 119, 120, 121, 122, 123, 124, 125, 126] (by decide +kernel) (by decide +kernel)
set_option maxRecDepth 20000 in
theorem gX4_digest_X4_firstSpill : GoodIn wsX4_digest (wsV RX4 139 RX4 yX4_firstSpill wsX4_firstSpill) := goodIn_app (goodIn_of _ (by decide +kernel)) ggX4_digest_X4_firstSpill
set_option maxRecDepth 20000 in
theorem ggX4_digest_X4_bestOne : GoodIn wsX4_digest wsX4_bestOne := goodIn_r _ [90, 4, 21, 22, 23, 10, 24, 46, 47, 48, 49, 50, 51, 52, 53, 54, 55, 56, 57, 58, 59, 60, 61, 62, 63, 64, 65, 66, 17, 18, 19, 20, 67, 68, 69, 70, 71, 72, 73, 74, 42, 43, 44, 45, 75, 76, 77, 78, 38, 39, 40, 41, 13, 14, 15, 16, 79, 80, 81, 82, 115, 116, 117, 118, 119, 120, 121, 122, 123, 124, 125, 126] (by decide +kernel) (by decide +kernel)
set_option maxRecDepth 20000 in
theorem gX4_digest_X4_bestOne : GoodIn wsX4_digest (wsV RX4 142 RX4 yX4_bestOne wsX4_bestOne) := goodIn_app (goodIn_of _ (by decide +kernel)) ggX4_digest_X4_bestOne
set_option maxRecDepth 20000 in
theorem ggX4_digest_X4_greatestRain : GoodIn wsX4_digest wsX4_greatestRain := goodIn_r _ [94, 51, 52, 53, 10, 54, 50, 4, 55, 56, 57, 58, 59, 60, 61, 62, 63, 64, 65, 66, 17, 18, 19, 20, 67, 68, 69, 70, 71, 72, 73, 74, 42, 43, 44, 45, 21, 22, 23, 24, 75, 76, 77, 78, 38, 39, 40, 41, 79, 80, 81, 82, 115, 116, 117, 118, 119, 120, 121, 122, 123, 124, 125, 126] (by decide +kernel) (by decide +kernel)
set_option maxRecDepth 20000 in
theorem gX4_digest_X4_greatestRain : GoodIn wsX4_digest (wsV RX4 145 RX4 yX4_greatestRain wsX4_greatestRain) := goodIn_app (goodIn_of _ (by decide +kernel)) ggX4_digest_X4_greatestRain
set_option maxRecDepth 20000 in
theorem ggX4_digest_X4_untilDry : GoodIn wsX4_digest wsX4_untilDry := goodIn_r _ [98, 51, 52, 53, 10, 54, 50, 4, 13, 14, 15, 16, 17, 18, 19, 20, 21, 22, 23, 24, 59, 60, 61, 62, 63, 64, 65, 66, 67, 68, 69, 70, 71, 72, 73, 74, 42, 43, 44, 45, 75, 76, 77, 78, 38, 39, 40, 41, 79, 80, 81, 82, 115, 116, 117, 118, 119, 120, 121, 122, 123, 124, 125, 126] (by decide +kernel) (by decide +kernel)
set_option maxRecDepth 20000 in
theorem gX4_digest_X4_untilDry : GoodIn wsX4_digest (wsV RX4 148 RX4 yX4_untilDry wsX4_untilDry) := goodIn_app (goodIn_of _ (by decide +kernel)) ggX4_digest_X4_untilDry
set_option maxRecDepth 20000 in
theorem ggX4_digest_X4_share : GoodIn wsX4_digest wsX4_share := goodIn_r _ [102, 4, 115, 116, 117, 118, 119, 120, 121, 122, 123, 124, 125, 126] (by decide +kernel) (by decide +kernel)
set_option maxRecDepth 20000 in
theorem gX4_digest_X4_share : GoodIn wsX4_digest (wsV RX4 151 RX4 yX4_share wsX4_share) := goodIn_app (goodIn_of _ (by decide +kernel)) ggX4_digest_X4_share
set_option maxRecDepth 20000 in
theorem ggX4_digest_Jxe99ae_doubleToLongBits_ccdee : GoodIn wsX4_digest wsJxe99ae_doubleToLongBits_ccdee := goodIn_r _ [106, 107, 108, 109, 110, 111, 112, 113, 105, 114] (by decide +kernel) (by decide +kernel)
set_option maxRecDepth 20000 in
theorem gX4_digest_Jxe99ae_doubleToLongBits_ccdee : GoodIn wsX4_digest (va_wsS RX4 167 yJxe99ae_doubleToLongBits_ccdee wsJxe99ae_doubleToLongBits_ccdee) := goodIn_app (goodIn_of _ (by decide +kernel)) ggX4_digest_Jxe99ae_doubleToLongBits_ccdee
theorem dX4_digest_0 : decode cX4_digest 0 = .ok (.aload_n 0, 1) := by decide +kernel
theorem dX4_digest_1 : decode cX4_digest 1 = .ok (.iconst 0, 1) := by decide +kernel
theorem dX4_digest_2 : decode cX4_digest 2 = .ok (.putfield 25, 3) := by decide +kernel
theorem dX4_digest_5 : decode cX4_digest 5 = .ok (.aload_n 0, 1) := by decide +kernel
theorem dX4_digest_6 : decode cX4_digest 6 = .ok (.ldc2_w 161, 3) := by decide +kernel
theorem dX4_digest_9 : decode cX4_digest 9 = .ok (.putfield 157, 3) := by decide +kernel
theorem dX4_digest_12 : decode cX4_digest 12 = .ok (.iconst 0, 1) := by decide +kernel
theorem dX4_digest_13 : decode cX4_digest 13 = .ok (.istore_n 1, 1) := by decide +kernel
theorem dX4_digest_14 : decode cX4_digest 14 = .ok (.iload_n 1, 1) := by decide +kernel
theorem dX4_digest_15 : decode cX4_digest 15 = .ok (.bipush 9, 2) := by decide +kernel
theorem dX4_digest_17 : decode cX4_digest 17 = .ok (.if_icmp .ge 19, 3) := by decide +kernel
theorem dX4_digest_20 : decode cX4_digest 20 = .ok (.aload_n 0, 1) := by decide +kernel
theorem dX4_digest_21 : decode cX4_digest 21 = .ok (.aload_n 0, 1) := by decide +kernel
theorem dX4_digest_22 : decode cX4_digest 22 = .ok (.iload_n 1, 1) := by decide +kernel
theorem dX4_digest_23 : decode cX4_digest 23 = .ok (.invokevirtual 127, 3) := by decide +kernel
theorem dX4_digest_26 : decode cX4_digest 26 = .ok (.i2l, 1) := by decide +kernel
theorem dX4_digest_27 : decode cX4_digest 27 = .ok (.invokevirtual 163, 3) := by decide +kernel
theorem dX4_digest_30 : decode cX4_digest 30 = .ok (.iinc 1 1, 3) := by decide +kernel
theorem dX4_digest_33 : decode cX4_digest 33 = .ok (.goto (-19), 3) := by decide +kernel
theorem dX4_digest_36 : decode cX4_digest 36 = .ok (.iconst 0, 1) := by decide +kernel
theorem dX4_digest_37 : decode cX4_digest 37 = .ok (.istore_n 1, 1) := by decide +kernel
theorem dX4_digest_38 : decode cX4_digest 38 = .ok (.iload_n 1, 1) := by decide +kernel
theorem dX4_digest_39 : decode cX4_digest 39 = .ok (.iconst 3, 1) := by decide +kernel
theorem dX4_digest_40 : decode cX4_digest 40 = .ok (.if_icmp .ge 20, 3) := by decide +kernel
theorem dX4_digest_43 : decode cX4_digest 43 = .ok (.aload_n 0, 1) := by decide +kernel
theorem dX4_digest_44 : decode cX4_digest 44 = .ok (.aload_n 0, 1) := by decide +kernel
theorem dX4_digest_45 : decode cX4_digest 45 = .ok (.getfield 7, 3) := by decide +kernel
theorem dX4_digest_48 : decode cX4_digest 48 = .ok (.iload_n 1, 1) := by decide +kernel
theorem dX4_digest_49 : decode cX4_digest 49 = .ok (.iaload, 1) := by decide +kernel
theorem dX4_digest_50 : decode cX4_digest 50 = .ok (.i2l, 1) := by decide +kernel
theorem dX4_digest_51 : decode cX4_digest 51 = .ok (.invokevirtual 163, 3) := by decide +kernel
theorem dX4_digest_54 : decode cX4_digest 54 = .ok (.iinc 1 1, 3) := by decide +kernel
theorem dX4_digest_57 : decode cX4_digest 57 = .ok (.goto (-19), 3) := by decide +kernel
theorem dX4_digest_60 : decode cX4_digest 60 = .ok (.iconst 0, 1) := by decide +kernel
theorem dX4_digest_61 : decode cX4_digest 61 = .ok (.istore_n 1, 1) := by decide +kernel
theorem dX4_digest_62 : decode cX4_digest 62 = .ok (.iload_n 1, 1) := by decide +kernel
theorem dX4_digest_63 : decode cX4_digest 63 = .ok (.bipush 24, 2) := by decide +kernel
theorem dX4_digest_65 : decode cX4_digest 65 = .ok (.if_icmp .ge 24, 3) := by decide +kernel
theorem dX4_digest_68 : decode cX4_digest 68 = .ok (.aload_n 0, 1) := by decide +kernel
theorem dX4_digest_69 : decode cX4_digest 69 = .ok (.aload_n 0, 1) := by decide +kernel
theorem dX4_digest_70 : decode cX4_digest 70 = .ok (.iload_n 1, 1) := by decide +kernel
theorem dX4_digest_71 : decode cX4_digest 71 = .ok (.iconst 4, 1) := by decide +kernel
theorem dX4_digest_72 : decode cX4_digest 72 = .ok (.idiv, 1) := by decide +kernel
theorem dX4_digest_73 : decode cX4_digest 73 = .ok (.iload_n 1, 1) := by decide +kernel
theorem dX4_digest_74 : decode cX4_digest 74 = .ok (.iconst 4, 1) := by decide +kernel
theorem dX4_digest_75 : decode cX4_digest 75 = .ok (.irem, 1) := by decide +kernel
theorem dX4_digest_76 : decode cX4_digest 76 = .ok (.invokevirtual 40, 3) := by decide +kernel
theorem dX4_digest_79 : decode cX4_digest 79 = .ok (.i2l, 1) := by decide +kernel
theorem dX4_digest_80 : decode cX4_digest 80 = .ok (.invokevirtual 163, 3) := by decide +kernel
theorem dX4_digest_83 : decode cX4_digest 83 = .ok (.iinc 1 1, 3) := by decide +kernel
theorem dX4_digest_86 : decode cX4_digest 86 = .ok (.goto (-24), 3) := by decide +kernel
theorem dX4_digest_89 : decode cX4_digest 89 = .ok (.iconst 0, 1) := by decide +kernel
theorem dX4_digest_90 : decode cX4_digest 90 = .ok (.istore_n 1, 1) := by decide +kernel
theorem dX4_digest_91 : decode cX4_digest 91 = .ok (.iload_n 1, 1) := by decide +kernel
theorem dX4_digest_92 : decode cX4_digest 92 = .ok (.bipush 54, 2) := by decide +kernel
theorem dX4_digest_94 : decode cX4_digest 94 = .ok (.if_icmp .ge 26, 3) := by decide +kernel
theorem dX4_digest_97 : decode cX4_digest 97 = .ok (.aload_n 0, 1) := by decide +kernel
theorem dX4_digest_98 : decode cX4_digest 98 = .ok (.aload_n 0, 1) := by decide +kernel
theorem dX4_digest_99 : decode cX4_digest 99 = .ok (.iload_n 1, 1) := by decide +kernel
theorem dX4_digest_100 : decode cX4_digest 100 = .ok (.bipush 9, 2) := by decide +kernel
theorem dX4_digest_102 : decode cX4_digest 102 = .ok (.idiv, 1) := by decide +kernel
theorem dX4_digest_103 : decode cX4_digest 103 = .ok (.iload_n 1, 1) := by decide +kernel
theorem dX4_digest_104 : decode cX4_digest 104 = .ok (.bipush 9, 2) := by decide +kernel
theorem dX4_digest_106 : decode cX4_digest 106 = .ok (.irem, 1) := by decide +kernel
theorem dX4_digest_107 : decode cX4_digest 107 = .ok (.invokevirtual 121, 3) := by decide +kernel
theorem dX4_digest_110 : decode cX4_digest 110 = .ok (.i2l, 1) := by decide +kernel
theorem dX4_digest_111 : decode cX4_digest 111 = .ok (.invokevirtual 163, 3) := by decide +kernel
theorem dX4_digest_114 : decode cX4_digest 114 = .ok (.iinc 1 1, 3) := by decide +kernel
theorem dX4_digest_117 : decode cX4_digest 117 = .ok (.goto (-26), 3) := by decide +kernel
theorem dX4_digest_120 : decode cX4_digest 120 = .ok (.iconst 0, 1) := by decide +kernel
theorem dX4_digest_121 : decode cX4_digest 121 = .ok (.istore_n 1, 1) := by decide +kernel
theorem dX4_digest_122 : decode cX4_digest 122 = .ok (.iload_n 1, 1) := by decide +kernel
theorem dX4_digest_123 : decode cX4_digest 123 = .ok (.iconst 3, 1) := by decide +kernel
theorem dX4_digest_124 : decode cX4_digest 124 = .ok (.if_icmp .ge 21, 3) := by decide +kernel
theorem dX4_digest_127 : decode cX4_digest 127 = .ok (.aload_n 0, 1) := by decide +kernel
theorem dX4_digest_128 : decode cX4_digest 128 = .ok (.aload_n 0, 1) := by decide +kernel
theorem dX4_digest_129 : decode cX4_digest 129 = .ok (.bipush 20, 2) := by decide +kernel
theorem dX4_digest_131 : decode cX4_digest 131 = .ok (.iload_n 1, 1) := by decide +kernel
theorem dX4_digest_132 : decode cX4_digest 132 = .ok (.invokevirtual 136, 3) := by decide +kernel
theorem dX4_digest_135 : decode cX4_digest 135 = .ok (.i2l, 1) := by decide +kernel
theorem dX4_digest_136 : decode cX4_digest 136 = .ok (.invokevirtual 163, 3) := by decide +kernel
theorem dX4_digest_139 : decode cX4_digest 139 = .ok (.iinc 1 1, 3) := by decide +kernel
theorem dX4_digest_142 : decode cX4_digest 142 = .ok (.goto (-20), 3) := by decide +kernel
theorem dX4_digest_145 : decode cX4_digest 145 = .ok (.aload_n 0, 1) := by decide +kernel
theorem dX4_digest_146 : decode cX4_digest 146 = .ok (.aload_n 0, 1) := by decide +kernel
theorem dX4_digest_147 : decode cX4_digest 147 = .ok (.iconst 0, 1) := by decide +kernel
theorem dX4_digest_148 : decode cX4_digest 148 = .ok (.invokevirtual 139, 3) := by decide +kernel
theorem dX4_digest_151 : decode cX4_digest 151 = .ok (.i2l, 1) := by decide +kernel
theorem dX4_digest_152 : decode cX4_digest 152 = .ok (.invokevirtual 163, 3) := by decide +kernel
theorem dX4_digest_155 : decode cX4_digest 155 = .ok (.aload_n 0, 1) := by decide +kernel
theorem dX4_digest_156 : decode cX4_digest 156 = .ok (.aload_n 0, 1) := by decide +kernel
theorem dX4_digest_157 : decode cX4_digest 157 = .ok (.iconst 1, 1) := by decide +kernel
theorem dX4_digest_158 : decode cX4_digest 158 = .ok (.invokevirtual 139, 3) := by decide +kernel
theorem dX4_digest_161 : decode cX4_digest 161 = .ok (.i2l, 1) := by decide +kernel
theorem dX4_digest_162 : decode cX4_digest 162 = .ok (.invokevirtual 163, 3) := by decide +kernel
theorem dX4_digest_165 : decode cX4_digest 165 = .ok (.aload_n 0, 1) := by decide +kernel
theorem dX4_digest_166 : decode cX4_digest 166 = .ok (.aload_n 0, 1) := by decide +kernel
theorem dX4_digest_167 : decode cX4_digest 167 = .ok (.invokevirtual 142, 3) := by decide +kernel
theorem dX4_digest_170 : decode cX4_digest 170 = .ok (.i2l, 1) := by decide +kernel
theorem dX4_digest_171 : decode cX4_digest 171 = .ok (.invokevirtual 163, 3) := by decide +kernel
theorem dX4_digest_174 : decode cX4_digest 174 = .ok (.aload_n 0, 1) := by decide +kernel
theorem dX4_digest_175 : decode cX4_digest 175 = .ok (.aload_n 0, 1) := by decide +kernel
theorem dX4_digest_176 : decode cX4_digest 176 = .ok (.bipush 10, 2) := by decide +kernel
theorem dX4_digest_178 : decode cX4_digest 178 = .ok (.invokevirtual 145, 3) := by decide +kernel
theorem dX4_digest_181 : decode cX4_digest 181 = .ok (.i2l, 1) := by decide +kernel
theorem dX4_digest_182 : decode cX4_digest 182 = .ok (.invokevirtual 163, 3) := by decide +kernel
theorem dX4_digest_185 : decode cX4_digest 185 = .ok (.aload_n 0, 1) := by decide +kernel
theorem dX4_digest_186 : decode cX4_digest 186 = .ok (.aload_n 0, 1) := by decide +kernel
theorem dX4_digest_187 : decode cX4_digest 187 = .ok (.invokevirtual 148, 3) := by decide +kernel
theorem dX4_digest_190 : decode cX4_digest 190 = .ok (.i2l, 1) := by decide +kernel
theorem dX4_digest_191 : decode cX4_digest 191 = .ok (.invokevirtual 163, 3) := by decide +kernel
theorem dX4_digest_194 : decode cX4_digest 194 = .ok (.aload_n 0, 1) := by decide +kernel
theorem dX4_digest_195 : decode cX4_digest 195 = .ok (.aload_n 0, 1) := by decide +kernel
theorem dX4_digest_196 : decode cX4_digest 196 = .ok (.invokevirtual 151, 3) := by decide +kernel
theorem dX4_digest_199 : decode cX4_digest 199 = .ok (.invokestatic 167, 3) := by decide +kernel
theorem dX4_digest_202 : decode cX4_digest 202 = .ok (.invokevirtual 163, 3) := by decide +kernel
theorem dX4_digest_205 : decode cX4_digest 205 = .ok (.aload_n 0, 1) := by decide +kernel
theorem dX4_digest_206 : decode cX4_digest 206 = .ok (.aload_n 0, 1) := by decide +kernel
theorem dX4_digest_207 : decode cX4_digest 207 = .ok (.getfield 93, 3) := by decide +kernel
theorem dX4_digest_210 : decode cX4_digest 210 = .ok (.i2l, 1) := by decide +kernel
theorem dX4_digest_211 : decode cX4_digest 211 = .ok (.invokevirtual 163, 3) := by decide +kernel
theorem dX4_digest_214 : decode cX4_digest 214 = .ok (.iconst 0, 1) := by decide +kernel
theorem dX4_digest_215 : decode cX4_digest 215 = .ok (.istore_n 1, 1) := by decide +kernel
theorem dX4_digest_216 : decode cX4_digest 216 = .ok (.iload_n 1, 1) := by decide +kernel
theorem dX4_digest_217 : decode cX4_digest 217 = .ok (.aload_n 0, 1) := by decide +kernel
theorem dX4_digest_218 : decode cX4_digest 218 = .ok (.getfield 93, 3) := by decide +kernel
theorem dX4_digest_221 : decode cX4_digest 221 = .ok (.if_icmp .ge 20, 3) := by decide +kernel
theorem dX4_digest_224 : decode cX4_digest 224 = .ok (.aload_n 0, 1) := by decide +kernel
theorem dX4_digest_225 : decode cX4_digest 225 = .ok (.aload_n 0, 1) := by decide +kernel
theorem dX4_digest_226 : decode cX4_digest 226 = .ok (.getfield 19, 3) := by decide +kernel
theorem dX4_digest_229 : decode cX4_digest 229 = .ok (.iload_n 1, 1) := by decide +kernel
theorem dX4_digest_230 : decode cX4_digest 230 = .ok (.iaload, 1) := by decide +kernel
theorem dX4_digest_231 : decode cX4_digest 231 = .ok (.i2l, 1) := by decide +kernel
theorem dX4_digest_232 : decode cX4_digest 232 = .ok (.invokevirtual 163, 3) := by decide +kernel
theorem dX4_digest_235 : decode cX4_digest 235 = .ok (.iinc 1 1, 3) := by decide +kernel
theorem dX4_digest_238 : decode cX4_digest 238 = .ok (.goto (-22), 3) := by decide +kernel
theorem dX4_digest_241 : decode cX4_digest 241 = .ok (.aload_n 0, 1) := by decide +kernel
theorem dX4_digest_242 : decode cX4_digest 242 = .ok (.getfield 157, 3) := by decide +kernel
theorem dX4_digest_245 : decode cX4_digest 245 = .ok (.lreturn, 1) := by decide +kernel
