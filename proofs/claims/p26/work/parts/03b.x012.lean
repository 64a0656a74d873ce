theorem dX0_init_0 : decode cX0_init 0 = .ok (.aload_n 0, 1) := by decide +kernel
theorem dX0_init_1 : decode cX0_init 1 = .ok (.invokespecial 1, 3) := by decide +kernel
theorem dX0_init_4 : decode cX0_init 4 = .ok (.aload_n 0, 1) := by decide +kernel
theorem dX0_init_5 : decode cX0_init 5 = .ok (.bipush 60, 2) := by decide +kernel
theorem dX0_init_7 : decode cX0_init 7 = .ok (.newarray .int, 2) := by decide +kernel
theorem dX0_init_9 : decode cX0_init 9 = .ok (.putfield 9, 3) := by decide +kernel
theorem dX0_init_12 : decode cX0_init 12 = .ok (.return_, 1) := by decide +kernel
theorem dX1_init_0 : decode cX1_init 0 = .ok (.aload_n 0, 1) := by decide +kernel
theorem dX1_init_1 : decode cX1_init 1 = .ok (.invokespecial 3, 3) := by decide +kernel
theorem dX1_init_4 : decode cX1_init 4 = .ok (.aload_n 0, 1) := by decide +kernel
theorem dX1_init_5 : decode cX1_init 5 = .ok (.bipush 6, 2) := by decide +kernel
theorem dX1_init_7 : decode cX1_init 7 = .ok (.newarray .int, 2) := by decide +kernel
theorem dX1_init_9 : decode cX1_init 9 = .ok (.putfield 9, 3) := by decide +kernel
theorem dX1_init_12 : decode cX1_init 12 = .ok (.aload_n 0, 1) := by decide +kernel
theorem dX1_init_13 : decode cX1_init 13 = .ok (.bipush 6, 2) := by decide +kernel
theorem dX1_init_15 : decode cX1_init 15 = .ok (.newarray .int, 2) := by decide +kernel
theorem dX1_init_17 : decode cX1_init 17 = .ok (.putfield 15, 3) := by decide +kernel
theorem dX1_init_20 : decode cX1_init 20 = .ok (.aload_n 0, 1) := by decide +kernel
theorem dX1_init_21 : decode cX1_init 21 = .ok (.bipush 6, 2) := by decide +kernel
theorem dX1_init_23 : decode cX1_init 23 = .ok (.newarray .int, 2) := by decide +kernel
theorem dX1_init_25 : decode cX1_init 25 = .ok (.putfield 18, 3) := by decide +kernel
theorem dX1_init_28 : decode cX1_init 28 = .ok (.aload_n 0, 1) := by decide +kernel
theorem dX1_init_29 : decode cX1_init 29 = .ok (.bipush 6, 2) := by decide +kernel
theorem dX1_init_31 : decode cX1_init 31 = .ok (.newarray .int, 2) := by decide +kernel
theorem dX1_init_33 : decode cX1_init 33 = .ok (.putfield 21, 3) := by decide +kernel
theorem dX1_init_36 : decode cX1_init 36 = .ok (.iconst 0, 1) := by decide +kernel
theorem dX1_init_37 : decode cX1_init 37 = .ok (.istore_n 1, 1) := by decide +kernel
theorem dX1_init_38 : decode cX1_init 38 = .ok (.iload_n 1, 1) := by decide +kernel
theorem dX1_init_39 : decode cX1_init 39 = .ok (.bipush 6, 2) := by decide +kernel
theorem dX1_init_41 : decode cX1_init 41 = .ok (.if_icmp .ge 31, 3) := by decide +kernel
theorem dX1_init_44 : decode cX1_init 44 = .ok (.aload_n 0, 1) := by decide +kernel
theorem dX1_init_45 : decode cX1_init 45 = .ok (.getfield 9, 3) := by decide +kernel
theorem dX1_init_48 : decode cX1_init 48 = .ok (.iload_n 1, 1) := by decide +kernel
theorem dX1_init_49 : decode cX1_init 49 = .ok (.bipush 40, 2) := by decide +kernel
theorem dX1_init_51 : decode cX1_init 51 = .ok (.iastore, 1) := by decide +kernel
theorem dX1_init_52 : decode cX1_init 52 = .ok (.aload_n 0, 1) := by decide +kernel
theorem dX1_init_53 : decode cX1_init 53 = .ok (.getfield 15, 3) := by decide +kernel
theorem dX1_init_56 : decode cX1_init 56 = .ok (.iload_n 1, 1) := by decide +kernel
theorem dX1_init_57 : decode cX1_init 57 = .ok (.iconst 3, 1) := by decide +kernel
theorem dX1_init_58 : decode cX1_init 58 = .ok (.iastore, 1) := by decide +kernel
theorem dX1_init_59 : decode cX1_init 59 = .ok (.aload_n 0, 1) := by decide +kernel
theorem dX1_init_60 : decode cX1_init 60 = .ok (.getfield 18, 3) := by decide +kernel
theorem dX1_init_63 : decode cX1_init 63 = .ok (.iload_n 1, 1) := by decide +kernel
theorem dX1_init_64 : decode cX1_init 64 = .ok (.iload_n 1, 1) := by decide +kernel
theorem dX1_init_65 : decode cX1_init 65 = .ok (.iastore, 1) := by decide +kernel
theorem dX1_init_66 : decode cX1_init 66 = .ok (.iinc 1 1, 3) := by decide +kernel
theorem dX1_init_69 : decode cX1_init 69 = .ok (.goto (-31), 3) := by decide +kernel
theorem dX1_init_72 : decode cX1_init 72 = .ok (.aload_n 0, 1) := by decide +kernel
theorem dX1_init_73 : decode cX1_init 73 = .ok (.bipush 6, 2) := by decide +kernel
theorem dX1_init_75 : decode cX1_init 75 = .ok (.newarray .int, 2) := by decide +kernel
theorem dX1_init_77 : decode cX1_init 77 = .ok (.putfield 24, 3) := by decide +kernel
theorem dX1_init_80 : decode cX1_init 80 = .ok (.aload_n 0, 1) := by decide +kernel
theorem dX1_init_81 : decode cX1_init 81 = .ok (.bipush 6, 2) := by decide +kernel
theorem dX1_init_83 : decode cX1_init 83 = .ok (.newarray .int, 2) := by decide +kernel
theorem dX1_init_85 : decode cX1_init 85 = .ok (.putfield 27, 3) := by decide +kernel
theorem dX1_init_88 : decode cX1_init 88 = .ok (.aload_n 0, 1) := by decide +kernel
theorem dX1_init_89 : decode cX1_init 89 = .ok (.bipush 6, 2) := by decide +kernel
theorem dX1_init_91 : decode cX1_init 91 = .ok (.newarray .int, 2) := by decide +kernel
theorem dX1_init_93 : decode cX1_init 93 = .ok (.putfield 30, 3) := by decide +kernel
theorem dX1_init_96 : decode cX1_init 96 = .ok (.aload_n 0, 1) := by decide +kernel
theorem dX1_init_97 : decode cX1_init 97 = .ok (.bipush 6, 2) := by decide +kernel
theorem dX1_init_99 : decode cX1_init 99 = .ok (.newarray .int, 2) := by decide +kernel
theorem dX1_init_101 : decode cX1_init 101 = .ok (.putfield 33, 3) := by decide +kernel
theorem dX1_init_104 : decode cX1_init 104 = .ok (.aload_n 0, 1) := by decide +kernel
theorem dX1_init_105 : decode cX1_init 105 = .ok (.bipush 6, 2) := by decide +kernel
theorem dX1_init_107 : decode cX1_init 107 = .ok (.newarray .int, 2) := by decide +kernel
theorem dX1_init_109 : decode cX1_init 109 = .ok (.putfield 36, 3) := by decide +kernel
theorem dX1_init_112 : decode cX1_init 112 = .ok (.aload_n 0, 1) := by decide +kernel
theorem dX1_init_113 : decode cX1_init 113 = .ok (.bipush 6, 2) := by decide +kernel
theorem dX1_init_115 : decode cX1_init 115 = .ok (.newarray .int, 2) := by decide +kernel
theorem dX1_init_117 : decode cX1_init 117 = .ok (.putfield 39, 3) := by decide +kernel
theorem dX1_init_120 : decode cX1_init 120 = .ok (.aload_n 0, 1) := by decide +kernel
theorem dX1_init_121 : decode cX1_init 121 = .ok (.bipush 6, 2) := by decide +kernel
theorem dX1_init_123 : decode cX1_init 123 = .ok (.newarray .int, 2) := by decide +kernel
theorem dX1_init_125 : decode cX1_init 125 = .ok (.putfield 42, 3) := by decide +kernel
theorem dX1_init_128 : decode cX1_init 128 = .ok (.iconst 0, 1) := by decide +kernel
theorem dX1_init_129 : decode cX1_init 129 = .ok (.istore_n 1, 1) := by decide +kernel
theorem dX1_init_130 : decode cX1_init 130 = .ok (.iload_n 1, 1) := by decide +kernel
theorem dX1_init_131 : decode cX1_init 131 = .ok (.bipush 6, 2) := by decide +kernel
theorem dX1_init_133 : decode cX1_init 133 = .ok (.if_icmp .ge 32, 3) := by decide +kernel
theorem dX1_init_136 : decode cX1_init 136 = .ok (.aload_n 0, 1) := by decide +kernel
theorem dX1_init_137 : decode cX1_init 137 = .ok (.getfield 24, 3) := by decide +kernel
theorem dX1_init_140 : decode cX1_init 140 = .ok (.iload_n 1, 1) := by decide +kernel
theorem dX1_init_141 : decode cX1_init 141 = .ok (.bipush 60, 2) := by decide +kernel
theorem dX1_init_143 : decode cX1_init 143 = .ok (.iastore, 1) := by decide +kernel
theorem dX1_init_144 : decode cX1_init 144 = .ok (.aload_n 0, 1) := by decide +kernel
theorem dX1_init_145 : decode cX1_init 145 = .ok (.getfield 27, 3) := by decide +kernel
theorem dX1_init_148 : decode cX1_init 148 = .ok (.iload_n 1, 1) := by decide +kernel
theorem dX1_init_149 : decode cX1_init 149 = .ok (.bipush 20, 2) := by decide +kernel
theorem dX1_init_151 : decode cX1_init 151 = .ok (.iastore, 1) := by decide +kernel
theorem dX1_init_152 : decode cX1_init 152 = .ok (.aload_n 0, 1) := by decide +kernel
theorem dX1_init_153 : decode cX1_init 153 = .ok (.getfield 33, 3) := by decide +kernel
theorem dX1_init_156 : decode cX1_init 156 = .ok (.iload_n 1, 1) := by decide +kernel
theorem dX1_init_157 : decode cX1_init 157 = .ok (.iconst (-1), 1) := by decide +kernel
theorem dX1_init_158 : decode cX1_init 158 = .ok (.iastore, 1) := by decide +kernel
theorem dX1_init_159 : decode cX1_init 159 = .ok (.iinc 1 1, 3) := by decide +kernel
theorem dX1_init_162 : decode cX1_init 162 = .ok (.goto (-32), 3) := by decide +kernel
theorem dX1_init_165 : decode cX1_init 165 = .ok (.aload_n 0, 1) := by decide +kernel
theorem dX1_init_166 : decode cX1_init 166 = .ok (.iconst 3, 1) := by decide +kernel
theorem dX1_init_167 : decode cX1_init 167 = .ok (.newarray .int, 2) := by decide +kernel
theorem dX1_init_169 : decode cX1_init 169 = .ok (.putfield 45, 3) := by decide +kernel
theorem dX1_init_172 : decode cX1_init 172 = .ok (.aload_n 0, 1) := by decide +kernel
theorem dX1_init_173 : decode cX1_init 173 = .ok (.getfield 45, 3) := by decide +kernel
theorem dX1_init_176 : decode cX1_init 176 = .ok (.iconst 0, 1) := by decide +kernel
theorem dX1_init_177 : decode cX1_init 177 = .ok (.bipush 100, 2) := by decide +kernel
theorem dX1_init_179 : decode cX1_init 179 = .ok (.iastore, 1) := by decide +kernel
theorem dX1_init_180 : decode cX1_init 180 = .ok (.aload_n 0, 1) := by decide +kernel
theorem dX1_init_181 : decode cX1_init 181 = .ok (.getfield 45, 3) := by decide +kernel
theorem dX1_init_184 : decode cX1_init 184 = .ok (.iconst 1, 1) := by decide +kernel
theorem dX1_init_185 : decode cX1_init 185 = .ok (.iconst 4, 1) := by decide +kernel
theorem dX1_init_186 : decode cX1_init 186 = .ok (.iastore, 1) := by decide +kernel
theorem dX1_init_187 : decode cX1_init 187 = .ok (.aload_n 0, 1) := by decide +kernel
theorem dX1_init_188 : decode cX1_init 188 = .ok (.getfield 45, 3) := by decide +kernel
theorem dX1_init_191 : decode cX1_init 191 = .ok (.iconst 2, 1) := by decide +kernel
theorem dX1_init_192 : decode cX1_init 192 = .ok (.bipush 20, 2) := by decide +kernel
theorem dX1_init_194 : decode cX1_init 194 = .ok (.iastore, 1) := by decide +kernel
theorem dX1_init_195 : decode cX1_init 195 = .ok (.return_, 1) := by decide +kernel
theorem dX1_copyFrom_0 : decode cX1_copyFrom 0 = .ok (.aload_n 1, 1) := by decide +kernel
theorem dX1_copyFrom_1 : decode cX1_copyFrom 1 = .ok (.getfield 9, 3) := by decide +kernel
theorem dX1_copyFrom_4 : decode cX1_copyFrom 4 = .ok (.iconst 0, 1) := by decide +kernel
theorem dX1_copyFrom_5 : decode cX1_copyFrom 5 = .ok (.aload_n 0, 1) := by decide +kernel
theorem dX1_copyFrom_6 : decode cX1_copyFrom 6 = .ok (.getfield 9, 3) := by decide +kernel
theorem dX1_copyFrom_9 : decode cX1_copyFrom 9 = .ok (.iconst 0, 1) := by decide +kernel
theorem dX1_copyFrom_10 : decode cX1_copyFrom 10 = .ok (.bipush 6, 2) := by decide +kernel
theorem dX1_copyFrom_12 : decode cX1_copyFrom 12 = .ok (.invokestatic 48, 3) := by decide +kernel
theorem dX1_copyFrom_15 : decode cX1_copyFrom 15 = .ok (.aload_n 1, 1) := by decide +kernel
theorem dX1_copyFrom_16 : decode cX1_copyFrom 16 = .ok (.getfield 15, 3) := by decide +kernel
theorem dX1_copyFrom_19 : decode cX1_copyFrom 19 = .ok (.iconst 0, 1) := by decide +kernel
theorem dX1_copyFrom_20 : decode cX1_copyFrom 20 = .ok (.aload_n 0, 1) := by decide +kernel
theorem dX1_copyFrom_21 : decode cX1_copyFrom 21 = .ok (.getfield 15, 3) := by decide +kernel
theorem dX1_copyFrom_24 : decode cX1_copyFrom 24 = .ok (.iconst 0, 1) := by decide +kernel
theorem dX1_copyFrom_25 : decode cX1_copyFrom 25 = .ok (.bipush 6, 2) := by decide +kernel
theorem dX1_copyFrom_27 : decode cX1_copyFrom 27 = .ok (.invokestatic 48, 3) := by decide +kernel
theorem dX1_copyFrom_30 : decode cX1_copyFrom 30 = .ok (.aload_n 1, 1) := by decide +kernel
theorem dX1_copyFrom_31 : decode cX1_copyFrom 31 = .ok (.getfield 18, 3) := by decide +kernel
theorem dX1_copyFrom_34 : decode cX1_copyFrom 34 = .ok (.iconst 0, 1) := by decide +kernel
theorem dX1_copyFrom_35 : decode cX1_copyFrom 35 = .ok (.aload_n 0, 1) := by decide +kernel
theorem dX1_copyFrom_36 : decode cX1_copyFrom 36 = .ok (.getfield 18, 3) := by decide +kernel
theorem dX1_copyFrom_39 : decode cX1_copyFrom 39 = .ok (.iconst 0, 1) := by decide +kernel
theorem dX1_copyFrom_40 : decode cX1_copyFrom 40 = .ok (.bipush 6, 2) := by decide +kernel
theorem dX1_copyFrom_42 : decode cX1_copyFrom 42 = .ok (.invokestatic 48, 3) := by decide +kernel
theorem dX1_copyFrom_45 : decode cX1_copyFrom 45 = .ok (.aload_n 1, 1) := by decide +kernel
theorem dX1_copyFrom_46 : decode cX1_copyFrom 46 = .ok (.getfield 21, 3) := by decide +kernel
theorem dX1_copyFrom_49 : decode cX1_copyFrom 49 = .ok (.iconst 0, 1) := by decide +kernel
theorem dX1_copyFrom_50 : decode cX1_copyFrom 50 = .ok (.aload_n 0, 1) := by decide +kernel
theorem dX1_copyFrom_51 : decode cX1_copyFrom 51 = .ok (.getfield 21, 3) := by decide +kernel
theorem dX1_copyFrom_54 : decode cX1_copyFrom 54 = .ok (.iconst 0, 1) := by decide +kernel
theorem dX1_copyFrom_55 : decode cX1_copyFrom 55 = .ok (.bipush 6, 2) := by decide +kernel
theorem dX1_copyFrom_57 : decode cX1_copyFrom 57 = .ok (.invokestatic 48, 3) := by decide +kernel
theorem dX1_copyFrom_60 : decode cX1_copyFrom 60 = .ok (.aload_n 1, 1) := by decide +kernel
theorem dX1_copyFrom_61 : decode cX1_copyFrom 61 = .ok (.getfield 24, 3) := by decide +kernel
theorem dX1_copyFrom_64 : decode cX1_copyFrom 64 = .ok (.iconst 0, 1) := by decide +kernel
theorem dX1_copyFrom_65 : decode cX1_copyFrom 65 = .ok (.aload_n 0, 1) := by decide +kernel
theorem dX1_copyFrom_66 : decode cX1_copyFrom 66 = .ok (.getfield 24, 3) := by decide +kernel
theorem dX1_copyFrom_69 : decode cX1_copyFrom 69 = .ok (.iconst 0, 1) := by decide +kernel
theorem dX1_copyFrom_70 : decode cX1_copyFrom 70 = .ok (.bipush 6, 2) := by decide +kernel
theorem dX1_copyFrom_72 : decode cX1_copyFrom 72 = .ok (.invokestatic 48, 3) := by decide +kernel
theorem dX1_copyFrom_75 : decode cX1_copyFrom 75 = .ok (.aload_n 1, 1) := by decide +kernel
theorem dX1_copyFrom_76 : decode cX1_copyFrom 76 = .ok (.getfield 27, 3) := by decide +kernel
theorem dX1_copyFrom_79 : decode cX1_copyFrom 79 = .ok (.iconst 0, 1) := by decide +kernel
theorem dX1_copyFrom_80 : decode cX1_copyFrom 80 = .ok (.aload_n 0, 1) := by decide +kernel
theorem dX1_copyFrom_81 : decode cX1_copyFrom 81 = .ok (.getfield 27, 3) := by decide +kernel
theorem dX1_copyFrom_84 : decode cX1_copyFrom 84 = .ok (.iconst 0, 1) := by decide +kernel
theorem dX1_copyFrom_85 : decode cX1_copyFrom 85 = .ok (.bipush 6, 2) := by decide +kernel
theorem dX1_copyFrom_87 : decode cX1_copyFrom 87 = .ok (.invokestatic 48, 3) := by decide +kernel
theorem dX1_copyFrom_90 : decode cX1_copyFrom 90 = .ok (.aload_n 1, 1) := by decide +kernel
theorem dX1_copyFrom_91 : decode cX1_copyFrom 91 = .ok (.getfield 30, 3) := by decide +kernel
theorem dX1_copyFrom_94 : decode cX1_copyFrom 94 = .ok (.iconst 0, 1) := by decide +kernel
theorem dX1_copyFrom_95 : decode cX1_copyFrom 95 = .ok (.aload_n 0, 1) := by decide +kernel
theorem dX1_copyFrom_96 : decode cX1_copyFrom 96 = .ok (.getfield 30, 3) := by decide +kernel
theorem dX1_copyFrom_99 : decode cX1_copyFrom 99 = .ok (.iconst 0, 1) := by decide +kernel
theorem dX1_copyFrom_100 : decode cX1_copyFrom 100 = .ok (.bipush 6, 2) := by decide +kernel
theorem dX1_copyFrom_102 : decode cX1_copyFrom 102 = .ok (.invokestatic 48, 3) := by decide +kernel
theorem dX1_copyFrom_105 : decode cX1_copyFrom 105 = .ok (.aload_n 1, 1) := by decide +kernel
theorem dX1_copyFrom_106 : decode cX1_copyFrom 106 = .ok (.getfield 33, 3) := by decide +kernel
theorem dX1_copyFrom_109 : decode cX1_copyFrom 109 = .ok (.iconst 0, 1) := by decide +kernel
theorem dX1_copyFrom_110 : decode cX1_copyFrom 110 = .ok (.aload_n 0, 1) := by decide +kernel
theorem dX1_copyFrom_111 : decode cX1_copyFrom 111 = .ok (.getfield 33, 3) := by decide +kernel
theorem dX1_copyFrom_114 : decode cX1_copyFrom 114 = .ok (.iconst 0, 1) := by decide +kernel
theorem dX1_copyFrom_115 : decode cX1_copyFrom 115 = .ok (.bipush 6, 2) := by decide +kernel
theorem dX1_copyFrom_117 : decode cX1_copyFrom 117 = .ok (.invokestatic 48, 3) := by decide +kernel
theorem dX1_copyFrom_120 : decode cX1_copyFrom 120 = .ok (.aload_n 1, 1) := by decide +kernel
theorem dX1_copyFrom_121 : decode cX1_copyFrom 121 = .ok (.getfield 36, 3) := by decide +kernel
theorem dX1_copyFrom_124 : decode cX1_copyFrom 124 = .ok (.iconst 0, 1) := by decide +kernel
theorem dX1_copyFrom_125 : decode cX1_copyFrom 125 = .ok (.aload_n 0, 1) := by decide +kernel
theorem dX1_copyFrom_126 : decode cX1_copyFrom 126 = .ok (.getfield 36, 3) := by decide +kernel
theorem dX1_copyFrom_129 : decode cX1_copyFrom 129 = .ok (.iconst 0, 1) := by decide +kernel
theorem dX1_copyFrom_130 : decode cX1_copyFrom 130 = .ok (.bipush 6, 2) := by decide +kernel
theorem dX1_copyFrom_132 : decode cX1_copyFrom 132 = .ok (.invokestatic 48, 3) := by decide +kernel
theorem dX1_copyFrom_135 : decode cX1_copyFrom 135 = .ok (.aload_n 1, 1) := by decide +kernel
theorem dX1_copyFrom_136 : decode cX1_copyFrom 136 = .ok (.getfield 39, 3) := by decide +kernel
theorem dX1_copyFrom_139 : decode cX1_copyFrom 139 = .ok (.iconst 0, 1) := by decide +kernel
theorem dX1_copyFrom_140 : decode cX1_copyFrom 140 = .ok (.aload_n 0, 1) := by decide +kernel
theorem dX1_copyFrom_141 : decode cX1_copyFrom 141 = .ok (.getfield 39, 3) := by decide +kernel
theorem dX1_copyFrom_144 : decode cX1_copyFrom 144 = .ok (.iconst 0, 1) := by decide +kernel
theorem dX1_copyFrom_145 : decode cX1_copyFrom 145 = .ok (.bipush 6, 2) := by decide +kernel
theorem dX1_copyFrom_147 : decode cX1_copyFrom 147 = .ok (.invokestatic 48, 3) := by decide +kernel
theorem dX1_copyFrom_150 : decode cX1_copyFrom 150 = .ok (.aload_n 1, 1) := by decide +kernel
theorem dX1_copyFrom_151 : decode cX1_copyFrom 151 = .ok (.getfield 42, 3) := by decide +kernel
theorem dX1_copyFrom_154 : decode cX1_copyFrom 154 = .ok (.iconst 0, 1) := by decide +kernel
theorem dX1_copyFrom_155 : decode cX1_copyFrom 155 = .ok (.aload_n 0, 1) := by decide +kernel
theorem dX1_copyFrom_156 : decode cX1_copyFrom 156 = .ok (.getfield 42, 3) := by decide +kernel
theorem dX1_copyFrom_159 : decode cX1_copyFrom 159 = .ok (.iconst 0, 1) := by decide +kernel
theorem dX1_copyFrom_160 : decode cX1_copyFrom 160 = .ok (.bipush 6, 2) := by decide +kernel
theorem dX1_copyFrom_162 : decode cX1_copyFrom 162 = .ok (.invokestatic 48, 3) := by decide +kernel
theorem dX1_copyFrom_165 : decode cX1_copyFrom 165 = .ok (.aload_n 1, 1) := by decide +kernel
theorem dX1_copyFrom_166 : decode cX1_copyFrom 166 = .ok (.getfield 45, 3) := by decide +kernel
theorem dX1_copyFrom_169 : decode cX1_copyFrom 169 = .ok (.iconst 0, 1) := by decide +kernel
theorem dX1_copyFrom_170 : decode cX1_copyFrom 170 = .ok (.aload_n 0, 1) := by decide +kernel
theorem dX1_copyFrom_171 : decode cX1_copyFrom 171 = .ok (.getfield 45, 3) := by decide +kernel
theorem dX1_copyFrom_174 : decode cX1_copyFrom 174 = .ok (.iconst 0, 1) := by decide +kernel
theorem dX1_copyFrom_175 : decode cX1_copyFrom 175 = .ok (.iconst 3, 1) := by decide +kernel
theorem dX1_copyFrom_176 : decode cX1_copyFrom 176 = .ok (.invokestatic 48, 3) := by decide +kernel
theorem dX1_copyFrom_179 : decode cX1_copyFrom 179 = .ok (.aload_n 0, 1) := by decide +kernel
theorem dX1_copyFrom_180 : decode cX1_copyFrom 180 = .ok (.aload_n 1, 1) := by decide +kernel
theorem dX1_copyFrom_181 : decode cX1_copyFrom 181 = .ok (.getfield 54, 3) := by decide +kernel
theorem dX1_copyFrom_184 : decode cX1_copyFrom 184 = .ok (.putfield 54, 3) := by decide +kernel
theorem dX1_copyFrom_187 : decode cX1_copyFrom 187 = .ok (.aload_n 0, 1) := by decide +kernel
theorem dX1_copyFrom_188 : decode cX1_copyFrom 188 = .ok (.aload_n 1, 1) := by decide +kernel
theorem dX1_copyFrom_189 : decode cX1_copyFrom 189 = .ok (.getfield 58, 3) := by decide +kernel
theorem dX1_copyFrom_192 : decode cX1_copyFrom 192 = .ok (.putfield 58, 3) := by decide +kernel
theorem dX1_copyFrom_195 : decode cX1_copyFrom 195 = .ok (.aload_n 0, 1) := by decide +kernel
theorem dX1_copyFrom_196 : decode cX1_copyFrom 196 = .ok (.aload_n 1, 1) := by decide +kernel
theorem dX1_copyFrom_197 : decode cX1_copyFrom 197 = .ok (.getfield 61, 3) := by decide +kernel
theorem dX1_copyFrom_200 : decode cX1_copyFrom 200 = .ok (.putfield 61, 3) := by decide +kernel
theorem dX1_copyFrom_203 : decode cX1_copyFrom 203 = .ok (.aload_n 0, 1) := by decide +kernel
theorem dX1_copyFrom_204 : decode cX1_copyFrom 204 = .ok (.aload_n 1, 1) := by decide +kernel
theorem dX1_copyFrom_205 : decode cX1_copyFrom 205 = .ok (.getfield 64, 3) := by decide +kernel
theorem dX1_copyFrom_208 : decode cX1_copyFrom 208 = .ok (.putfield 64, 3) := by decide +kernel
theorem dX1_copyFrom_211 : decode cX1_copyFrom 211 = .ok (.return_, 1) := by decide +kernel
theorem dX1_changePlane_0 : decode cX1_changePlane 0 = .ok (.aload_n 0, 1) := by decide +kernel
theorem dX1_changePlane_1 : decode cX1_changePlane 1 = .ok (.getfield 9, 3) := by decide +kernel
theorem dX1_changePlane_4 : decode cX1_changePlane 4 = .ok (.iload_n 1, 1) := by decide +kernel
theorem dX1_changePlane_5 : decode cX1_changePlane 5 = .ok (.iaload, 1) := by decide +kernel
theorem dX1_changePlane_6 : decode cX1_changePlane 6 = .ok (.istore 5, 2) := by decide +kernel
theorem dX1_changePlane_8 : decode cX1_changePlane 8 = .ok (.aload_n 0, 1) := by decide +kernel
theorem dX1_changePlane_9 : decode cX1_changePlane 9 = .ok (.getfield 9, 3) := by decide +kernel
theorem dX1_changePlane_12 : decode cX1_changePlane 12 = .ok (.iload_n 1, 1) := by decide +kernel
theorem dX1_changePlane_13 : decode cX1_changePlane 13 = .ok (.iload_n 2, 1) := by decide +kernel
theorem dX1_changePlane_14 : decode cX1_changePlane 14 = .ok (.iastore, 1) := by decide +kernel
theorem dX1_changePlane_15 : decode cX1_changePlane 15 = .ok (.aload_n 0, 1) := by decide +kernel
theorem dX1_changePlane_16 : decode cX1_changePlane 16 = .ok (.getfield 15, 3) := by decide +kernel
theorem dX1_changePlane_19 : decode cX1_changePlane 19 = .ok (.iload_n 1, 1) := by decide +kernel
theorem dX1_changePlane_20 : decode cX1_changePlane 20 = .ok (.iload_n 3, 1) := by decide +kernel
theorem dX1_changePlane_21 : decode cX1_changePlane 21 = .ok (.iastore, 1) := by decide +kernel
theorem dX1_changePlane_22 : decode cX1_changePlane 22 = .ok (.aload_n 0, 1) := by decide +kernel
theorem dX1_changePlane_23 : decode cX1_changePlane 23 = .ok (.getfield 18, 3) := by decide +kernel
theorem dX1_changePlane_26 : decode cX1_changePlane 26 = .ok (.iload_n 1, 1) := by decide +kernel
theorem dX1_changePlane_27 : decode cX1_changePlane 27 = .ok (.iload 4, 2) := by decide +kernel
theorem dX1_changePlane_29 : decode cX1_changePlane 29 = .ok (.iastore, 1) := by decide +kernel
theorem dX1_changePlane_30 : decode cX1_changePlane 30 = .ok (.iload 5, 2) := by decide +kernel
theorem dX1_changePlane_32 : decode cX1_changePlane 32 = .ok (.ireturn, 1) := by decide +kernel
theorem dX1_changeGutter_0 : decode cX1_changeGutter 0 = .ok (.aload_n 0, 1) := by decide +kernel
theorem dX1_changeGutter_1 : decode cX1_changeGutter 1 = .ok (.getfield 24, 3) := by decide +kernel
theorem dX1_changeGutter_4 : decode cX1_changeGutter 4 = .ok (.iload_n 1, 1) := by decide +kernel
theorem dX1_changeGutter_5 : decode cX1_changeGutter 5 = .ok (.iaload, 1) := by decide +kernel
theorem dX1_changeGutter_6 : decode cX1_changeGutter 6 = .ok (.istore 4, 2) := by decide +kernel
theorem dX1_changeGutter_8 : decode cX1_changeGutter 8 = .ok (.aload_n 0, 1) := by decide +kernel
theorem dX1_changeGutter_9 : decode cX1_changeGutter 9 = .ok (.getfield 24, 3) := by decide +kernel
theorem dX1_changeGutter_12 : decode cX1_changeGutter 12 = .ok (.iload_n 1, 1) := by decide +kernel
theorem dX1_changeGutter_13 : decode cX1_changeGutter 13 = .ok (.iload_n 2, 1) := by decide +kernel
theorem dX1_changeGutter_14 : decode cX1_changeGutter 14 = .ok (.iastore, 1) := by decide +kernel
theorem dX1_changeGutter_15 : decode cX1_changeGutter 15 = .ok (.aload_n 0, 1) := by decide +kernel
theorem dX1_changeGutter_16 : decode cX1_changeGutter 16 = .ok (.getfield 27, 3) := by decide +kernel
theorem dX1_changeGutter_19 : decode cX1_changeGutter 19 = .ok (.iload_n 1, 1) := by decide +kernel
theorem dX1_changeGutter_20 : decode cX1_changeGutter 20 = .ok (.iload_n 3, 1) := by decide +kernel
theorem dX1_changeGutter_21 : decode cX1_changeGutter 21 = .ok (.iastore, 1) := by decide +kernel
theorem dX1_changeGutter_22 : decode cX1_changeGutter 22 = .ok (.iload 4, 2) := by decide +kernel
theorem dX1_changeGutter_24 : decode cX1_changeGutter 24 = .ok (.ireturn, 1) := by decide +kernel
theorem dX1_changeValley_0 : decode cX1_changeValley 0 = .ok (.aload_n 0, 1) := by decide +kernel
theorem dX1_changeValley_1 : decode cX1_changeValley 1 = .ok (.getfield 33, 3) := by decide +kernel
theorem dX1_changeValley_4 : decode cX1_changeValley 4 = .ok (.iload_n 1, 1) := by decide +kernel
theorem dX1_changeValley_5 : decode cX1_changeValley 5 = .ok (.iaload, 1) := by decide +kernel
theorem dX1_changeValley_6 : decode cX1_changeValley 6 = .ok (.istore_n 3, 1) := by decide +kernel
theorem dX1_changeValley_7 : decode cX1_changeValley 7 = .ok (.aload_n 0, 1) := by decide +kernel
theorem dX1_changeValley_8 : decode cX1_changeValley 8 = .ok (.getfield 33, 3) := by decide +kernel
theorem dX1_changeValley_11 : decode cX1_changeValley 11 = .ok (.iload_n 1, 1) := by decide +kernel
theorem dX1_changeValley_12 : decode cX1_changeValley 12 = .ok (.iload_n 2, 1) := by decide +kernel
theorem dX1_changeValley_13 : decode cX1_changeValley 13 = .ok (.iastore, 1) := by decide +kernel
theorem dX1_changeValley_14 : decode cX1_changeValley 14 = .ok (.iload_n 3, 1) := by decide +kernel
theorem dX1_changeValley_15 : decode cX1_changeValley 15 = .ok (.ireturn, 1) := by decide +kernel
theorem dX1_takeLeaves_0 : decode cX1_takeLeaves 0 = .ok (.aload_n 0, 1) := by decide +kernel
theorem dX1_takeLeaves_1 : decode cX1_takeLeaves 1 = .ok (.getfield 30, 3) := by decide +kernel
theorem dX1_takeLeaves_4 : decode cX1_takeLeaves 4 = .ok (.iload_n 1, 1) := by decide +kernel
theorem dX1_takeLeaves_5 : decode cX1_takeLeaves 5 = .ok (.iaload, 1) := by decide +kernel
theorem dX1_takeLeaves_6 : decode cX1_takeLeaves 6 = .ok (.istore_n 2, 1) := by decide +kernel
theorem dX1_takeLeaves_7 : decode cX1_takeLeaves 7 = .ok (.aload_n 0, 1) := by decide +kernel
theorem dX1_takeLeaves_8 : decode cX1_takeLeaves 8 = .ok (.getfield 30, 3) := by decide +kernel
theorem dX1_takeLeaves_11 : decode cX1_takeLeaves 11 = .ok (.iload_n 1, 1) := by decide +kernel
theorem dX1_takeLeaves_12 : decode cX1_takeLeaves 12 = .ok (.iconst 0, 1) := by decide +kernel
theorem dX1_takeLeaves_13 : decode cX1_takeLeaves 13 = .ok (.iastore, 1) := by decide +kernel
theorem dX1_takeLeaves_14 : decode cX1_takeLeaves 14 = .ok (.iload_n 2, 1) := by decide +kernel
theorem dX1_takeLeaves_15 : decode cX1_takeLeaves 15 = .ok (.ireturn, 1) := by decide +kernel
theorem dX1_changeSetting_0 : decode cX1_changeSetting 0 = .ok (.aload_n 0, 1) := by decide +kernel
theorem dX1_changeSetting_1 : decode cX1_changeSetting 1 = .ok (.getfield 45, 3) := by decide +kernel
theorem dX1_changeSetting_4 : decode cX1_changeSetting 4 = .ok (.iload_n 1, 1) := by decide +kernel
theorem dX1_changeSetting_5 : decode cX1_changeSetting 5 = .ok (.iaload, 1) := by decide +kernel
theorem dX1_changeSetting_6 : decode cX1_changeSetting 6 = .ok (.istore_n 3, 1) := by decide +kernel
theorem dX1_changeSetting_7 : decode cX1_changeSetting 7 = .ok (.aload_n 0, 1) := by decide +kernel
theorem dX1_changeSetting_8 : decode cX1_changeSetting 8 = .ok (.getfield 45, 3) := by decide +kernel
theorem dX1_changeSetting_11 : decode cX1_changeSetting 11 = .ok (.iload_n 1, 1) := by decide +kernel
theorem dX1_changeSetting_12 : decode cX1_changeSetting 12 = .ok (.iload_n 2, 1) := by decide +kernel
theorem dX1_changeSetting_13 : decode cX1_changeSetting 13 = .ok (.iastore, 1) := by decide +kernel
theorem dX1_changeSetting_14 : decode cX1_changeSetting 14 = .ok (.iload_n 3, 1) := by decide +kernel
theorem dX1_changeSetting_15 : decode cX1_changeSetting 15 = .ok (.ireturn, 1) := by decide +kernel
set_option maxRecDepth 20000 in
theorem ggX1_valleysLead_X3_isGutter : GoodIn wsX1_valleysLead wsX3_isGutter := goodIn_r _ [4] rfl (by decide +kernel)
set_option maxRecDepth 20000 in
theorem gX1_valleysLead_X3_isGutter_n67 : GoodIn wsX1_valleysLead (wsX3_isGutter) := ggX1_valleysLead_X3_isGutter
theorem dX1_valleysLead_0 : decode cX1_valleysLead 0 = .ok (.iload_n 1, 1) := by decide +kernel
theorem dX1_valleysLead_1 : decode cX1_valleysLead 1 = .ok (.istore_n 3, 1) := by decide +kernel
theorem dX1_valleysLead_2 : decode cX1_valleysLead 2 = .ok (.iconst 0, 1) := by decide +kernel
theorem dX1_valleysLead_3 : decode cX1_valleysLead 3 = .ok (.istore 4, 2) := by decide +kernel
theorem dX1_valleysLead_5 : decode cX1_valleysLead 5 = .ok (.iload 4, 2) := by decide +kernel
theorem dX1_valleysLead_7 : decode cX1_valleysLead 7 = .ok (.bipush 6, 2) := by decide +kernel
theorem dX1_valleysLead_9 : decode cX1_valleysLead 9 = .ok (.if_icmp .ge 30, 3) := by decide +kernel
theorem dX1_valleysLead_12 : decode cX1_valleysLead 12 = .ok (.iload_n 3, 1) := by decide +kernel
theorem dX1_valleysLead_13 : decode cX1_valleysLead 13 = .ok (.invokestatic 67, 3) := by decide +kernel
theorem dX1_valleysLead_16 : decode cX1_valleysLead 16 = .ok (.ifCond .eq 23, 3) := by decide +kernel
theorem dX1_valleysLead_19 : decode cX1_valleysLead 19 = .ok (.iload_n 3, 1) := by decide +kernel
theorem dX1_valleysLead_20 : decode cX1_valleysLead 20 = .ok (.iload_n 2, 1) := by decide +kernel
theorem dX1_valleysLead_21 : decode cX1_valleysLead 21 = .ok (.if_icmp .ne 5, 3) := by decide +kernel
theorem dX1_valleysLead_24 : decode cX1_valleysLead 24 = .ok (.iconst 1, 1) := by decide +kernel
theorem dX1_valleysLead_25 : decode cX1_valleysLead 25 = .ok (.ireturn, 1) := by decide +kernel
theorem dX1_valleysLead_26 : decode cX1_valleysLead 26 = .ok (.aload_n 0, 1) := by decide +kernel
theorem dX1_valleysLead_27 : decode cX1_valleysLead 27 = .ok (.getfield 33, 3) := by decide +kernel
theorem dX1_valleysLead_30 : decode cX1_valleysLead 30 = .ok (.iload_n 3, 1) := by decide +kernel
theorem dX1_valleysLead_31 : decode cX1_valleysLead 31 = .ok (.iaload, 1) := by decide +kernel
theorem dX1_valleysLead_32 : decode cX1_valleysLead 32 = .ok (.istore_n 3, 1) := by decide +kernel
theorem dX1_valleysLead_33 : decode cX1_valleysLead 33 = .ok (.iinc 4 1, 3) := by decide +kernel
theorem dX1_valleysLead_36 : decode cX1_valleysLead 36 = .ok (.goto (-31), 3) := by decide +kernel
theorem dX1_valleysLead_39 : decode cX1_valleysLead 39 = .ok (.iconst 0, 1) := by decide +kernel
theorem dX1_valleysLead_40 : decode cX1_valleysLead 40 = .ok (.ireturn, 1) := by decide +kernel
set_option maxRecDepth 20000 in
theorem ggX1_passMinutes_X1_passMinute : GoodIn wsX1_passMinutes wsX1_passMinute := goodIn_r _ [5, 6, 7, 8, 9, 4, 10, 11, 12, 13, 14, 15, 16, 17, 18, 19, 20, 21, 22, 23, 24, 25, 26, 27, 28, 29, 30, 31, 32, 33, 34, 35, 36, 37, 38, 39, 40, 41, 42, 43, 44, 45, 46, 47, 48, 49, 50, 51, 52, 53, 54, 55, 56, 57, 58, 59, 60, 61, 62, 63] rfl (by decide +kernel)
set_option maxRecDepth 20000 in
theorem gX1_passMinutes_X1_passMinute : GoodIn wsX1_passMinutes (wsV RX1 71 RX1 yX1_passMinute wsX1_passMinute) := goodIn_app (goodIn_of _ (by decide +kernel)) ggX1_passMinutes_X1_passMinute
theorem dX1_passMinutes_0 : decode cX1_passMinutes 0 = .ok (.iconst 0, 1) := by decide +kernel
theorem dX1_passMinutes_1 : decode cX1_passMinutes 1 = .ok (.istore_n 3, 1) := by decide +kernel
theorem dX1_passMinutes_2 : decode cX1_passMinutes 2 = .ok (.iload_n 3, 1) := by decide +kernel
theorem dX1_passMinutes_3 : decode cX1_passMinutes 3 = .ok (.iload_n 2, 1) := by decide +kernel
theorem dX1_passMinutes_4 : decode cX1_passMinutes 4 = .ok (.if_icmp .ge 14, 3) := by decide +kernel
theorem dX1_passMinutes_7 : decode cX1_passMinutes 7 = .ok (.aload_n 0, 1) := by decide +kernel
theorem dX1_passMinutes_8 : decode cX1_passMinutes 8 = .ok (.iload_n 1, 1) := by decide +kernel
theorem dX1_passMinutes_9 : decode cX1_passMinutes 9 = .ok (.invokevirtual 71, 3) := by decide +kernel
theorem dX1_passMinutes_12 : decode cX1_passMinutes 12 = .ok (.iinc 3 1, 3) := by decide +kernel
theorem dX1_passMinutes_15 : decode cX1_passMinutes 15 = .ok (.goto (-13), 3) := by decide +kernel
theorem dX1_passMinutes_18 : decode cX1_passMinutes 18 = .ok (.return_, 1) := by decide +kernel
set_option maxRecDepth 20000 in
theorem ggX1_passMinute_X1_wetPlane : GoodIn wsX1_passMinute wsX1_wetPlane := goodIn_r _ [6, 7, 8, 9, 10, 11, 12, 13, 14, 15, 44, 45, 46, 47, 48, 49, 50, 51, 52, 53, 54, 55, 56, 57, 58, 59] rfl (by decide +kernel)
set_option maxRecDepth 20000 in
theorem gX1_passMinute_X1_wetPlane : GoodIn wsX1_passMinute (wsV RX1 75 RX1 yX1_wetPlane wsX1_wetPlane) := goodIn_app (goodIn_of _ (by decide +kernel)) ggX1_passMinute_X1_wetPlane
set_option maxRecDepth 20000 in
theorem ggX1_passMinute_X1_emptyIntoDrain : GoodIn wsX1_passMinute wsX1_emptyIntoDrain := goodIn_r _ [19, 20, 12, 21, 22, 23, 24, 25, 26, 27, 28, 29, 5, 30, 31, 32, 44, 45, 46, 47, 48, 49, 50, 51, 52, 53, 54, 55, 56, 57, 58, 59] rfl (by decide +kernel)
set_option maxRecDepth 20000 in
theorem gX1_passMinute_X1_emptyIntoDrain : GoodIn wsX1_passMinute (wsV RX1 79 RX1 yX1_emptyIntoDrain wsX1_emptyIntoDrain) := goodIn_app (goodIn_of _ (by decide +kernel)) ggX1_passMinute_X1_emptyIntoDrain
set_option maxRecDepth 20000 in
theorem ggX1_passMinute_X1_overflow : GoodIn wsX1_passMinute wsX1_overflow := goodIn_r _ [36, 12, 37, 38, 39, 40, 41, 5, 42, 43, 32, 13, 14, 15, 44, 45, 46, 47, 48, 49, 50, 51, 52, 53, 54, 55, 56, 57, 58, 59] rfl (by decide +kernel)
set_option maxRecDepth 20000 in
theorem gX1_passMinute_X1_overflow : GoodIn wsX1_passMinute (wsV RX1 82 RX1 yX1_overflow wsX1_overflow) := goodIn_app (goodIn_of _ (by decide +kernel)) ggX1_passMinute_X1_overflow
theorem dX1_passMinute_0 : decode cX1_passMinute 0 = .ok (.iconst 0, 1) := by decide +kernel
theorem dX1_passMinute_1 : decode cX1_passMinute 1 = .ok (.istore_n 2, 1) := by decide +kernel
theorem dX1_passMinute_2 : decode cX1_passMinute 2 = .ok (.iload_n 2, 1) := by decide +kernel
theorem dX1_passMinute_3 : decode cX1_passMinute 3 = .ok (.bipush 6, 2) := by decide +kernel
theorem dX1_passMinute_5 : decode cX1_passMinute 5 = .ok (.if_icmp .ge 15, 3) := by decide +kernel
theorem dX1_passMinute_8 : decode cX1_passMinute 8 = .ok (.aload_n 0, 1) := by decide +kernel
theorem dX1_passMinute_9 : decode cX1_passMinute 9 = .ok (.iload_n 2, 1) := by decide +kernel
theorem dX1_passMinute_10 : decode cX1_passMinute 10 = .ok (.iload_n 1, 1) := by decide +kernel
theorem dX1_passMinute_11 : decode cX1_passMinute 11 = .ok (.invokevirtual 75, 3) := by decide +kernel
theorem dX1_passMinute_14 : decode cX1_passMinute 14 = .ok (.iinc 2 1, 3) := by decide +kernel
theorem dX1_passMinute_17 : decode cX1_passMinute 17 = .ok (.goto (-15), 3) := by decide +kernel
theorem dX1_passMinute_20 : decode cX1_passMinute 20 = .ok (.aload_n 0, 1) := by decide +kernel
theorem dX1_passMinute_21 : decode cX1_passMinute 21 = .ok (.invokevirtual 79, 3) := by decide +kernel
theorem dX1_passMinute_24 : decode cX1_passMinute 24 = .ok (.iconst 0, 1) := by decide +kernel
theorem dX1_passMinute_25 : decode cX1_passMinute 25 = .ok (.istore_n 2, 1) := by decide +kernel
theorem dX1_passMinute_26 : decode cX1_passMinute 26 = .ok (.iload_n 2, 1) := by decide +kernel
theorem dX1_passMinute_27 : decode cX1_passMinute 27 = .ok (.bipush 6, 2) := by decide +kernel
theorem dX1_passMinute_29 : decode cX1_passMinute 29 = .ok (.if_icmp .ge 14, 3) := by decide +kernel
theorem dX1_passMinute_32 : decode cX1_passMinute 32 = .ok (.aload_n 0, 1) := by decide +kernel
theorem dX1_passMinute_33 : decode cX1_passMinute 33 = .ok (.iload_n 2, 1) := by decide +kernel
theorem dX1_passMinute_34 : decode cX1_passMinute 34 = .ok (.invokevirtual 82, 3) := by decide +kernel
theorem dX1_passMinute_37 : decode cX1_passMinute 37 = .ok (.iinc 2 1, 3) := by decide +kernel
theorem dX1_passMinute_40 : decode cX1_passMinute 40 = .ok (.goto (-14), 3) := by decide +kernel
theorem dX1_passMinute_43 : decode cX1_passMinute 43 = .ok (.aload_n 0, 1) := by decide +kernel
theorem dX1_passMinute_44 : decode cX1_passMinute 44 = .ok (.dup, 1) := by decide +kernel
theorem dX1_passMinute_45 : decode cX1_passMinute 45 = .ok (.getfield 54, 3) := by decide +kernel
theorem dX1_passMinute_48 : decode cX1_passMinute 48 = .ok (.iconst 1, 1) := by decide +kernel
theorem dX1_passMinute_49 : decode cX1_passMinute 49 = .ok (.iadd, 1) := by decide +kernel
theorem dX1_passMinute_50 : decode cX1_passMinute 50 = .ok (.putfield 54, 3) := by decide +kernel
theorem dX1_passMinute_53 : decode cX1_passMinute 53 = .ok (.return_, 1) := by decide +kernel
theorem dX1_passWeek_0 : decode cX1_passWeek 0 = .ok (.iconst 0, 1) := by decide +kernel
theorem dX1_passWeek_1 : decode cX1_passWeek 1 = .ok (.istore_n 1, 1) := by decide +kernel
theorem dX1_passWeek_2 : decode cX1_passWeek 2 = .ok (.iload_n 1, 1) := by decide +kernel
theorem dX1_passWeek_3 : decode cX1_passWeek 3 = .ok (.bipush 6, 2) := by decide +kernel
theorem dX1_passWeek_5 : decode cX1_passWeek 5 = .ok (.if_icmp .ge 33, 3) := by decide +kernel
theorem dX1_passWeek_8 : decode cX1_passWeek 8 = .ok (.aload_n 0, 1) := by decide +kernel
theorem dX1_passWeek_9 : decode cX1_passWeek 9 = .ok (.getfield 30, 3) := by decide +kernel
theorem dX1_passWeek_12 : decode cX1_passWeek 12 = .ok (.iload_n 1, 1) := by decide +kernel
theorem dX1_passWeek_13 : decode cX1_passWeek 13 = .ok (.bipush 100, 2) := by decide +kernel
theorem dX1_passWeek_15 : decode cX1_passWeek 15 = .ok (.aload_n 0, 1) := by decide +kernel
theorem dX1_passWeek_16 : decode cX1_passWeek 16 = .ok (.getfield 30, 3) := by decide +kernel
theorem dX1_passWeek_19 : decode cX1_passWeek 19 = .ok (.iload_n 1, 1) := by decide +kernel
theorem dX1_passWeek_20 : decode cX1_passWeek 20 = .ok (.iaload, 1) := by decide +kernel
theorem dX1_passWeek_21 : decode cX1_passWeek 21 = .ok (.aload_n 0, 1) := by decide +kernel
theorem dX1_passWeek_22 : decode cX1_passWeek 22 = .ok (.getfield 45, 3) := by decide +kernel
theorem dX1_passWeek_25 : decode cX1_passWeek 25 = .ok (.iconst 1, 1) := by decide +kernel
theorem dX1_passWeek_26 : decode cX1_passWeek 26 = .ok (.iaload, 1) := by decide +kernel
theorem dX1_passWeek_27 : decode cX1_passWeek 27 = .ok (.iadd, 1) := by decide +kernel
theorem dX1_passWeek_28 : decode cX1_passWeek 28 = .ok (.invokestatic 85, 3) := by decide +kernel
theorem dX1_passWeek_31 : decode cX1_passWeek 31 = .ok (.iastore, 1) := by decide +kernel
theorem dX1_passWeek_32 : decode cX1_passWeek 32 = .ok (.iinc 1 1, 3) := by decide +kernel
theorem dX1_passWeek_35 : decode cX1_passWeek 35 = .ok (.goto (-33), 3) := by decide +kernel
theorem dX1_passWeek_38 : decode cX1_passWeek 38 = .ok (.aload_n 0, 1) := by decide +kernel
theorem dX1_passWeek_39 : decode cX1_passWeek 39 = .ok (.dup, 1) := by decide +kernel
theorem dX1_passWeek_40 : decode cX1_passWeek 40 = .ok (.getfield 58, 3) := by decide +kernel
theorem dX1_passWeek_43 : decode cX1_passWeek 43 = .ok (.iconst 1, 1) := by decide +kernel
theorem dX1_passWeek_44 : decode cX1_passWeek 44 = .ok (.iadd, 1) := by decide +kernel
theorem dX1_passWeek_45 : decode cX1_passWeek 45 = .ok (.putfield 58, 3) := by decide +kernel
theorem dX1_passWeek_48 : decode cX1_passWeek 48 = .ok (.return_, 1) := by decide +kernel
set_option maxRecDepth 20000 in
theorem ggX1_wetPlane_X3_isGutter : GoodIn wsX1_wetPlane wsX3_isGutter := goodIn_r _ [9] rfl (by decide +kernel)
set_option maxRecDepth 20000 in
theorem gX1_wetPlane_X3_isGutter_n67 : GoodIn wsX1_wetPlane (wsX3_isGutter) := ggX1_wetPlane_X3_isGutter
theorem dX1_wetPlane_0 : decode cX1_wetPlane 0 = .ok (.aload_n 0, 1) := by decide +kernel
theorem dX1_wetPlane_1 : decode cX1_wetPlane 1 = .ok (.getfield 9, 3) := by decide +kernel
theorem dX1_wetPlane_4 : decode cX1_wetPlane 4 = .ok (.iload_n 1, 1) := by decide +kernel
theorem dX1_wetPlane_5 : decode cX1_wetPlane 5 = .ok (.iaload, 1) := by decide +kernel
theorem dX1_wetPlane_6 : decode cX1_wetPlane 6 = .ok (.iload_n 2, 1) := by decide +kernel
theorem dX1_wetPlane_7 : decode cX1_wetPlane 7 = .ok (.imul, 1) := by decide +kernel
theorem dX1_wetPlane_8 : decode cX1_wetPlane 8 = .ok (.bipush 10, 2) := by decide +kernel
theorem dX1_wetPlane_10 : decode cX1_wetPlane 10 = .ok (.idiv, 1) := by decide +kernel
theorem dX1_wetPlane_11 : decode cX1_wetPlane 11 = .ok (.istore_n 3, 1) := by decide +kernel
theorem dX1_wetPlane_12 : decode cX1_wetPlane 12 = .ok (.aload_n 0, 1) := by decide +kernel
theorem dX1_wetPlane_13 : decode cX1_wetPlane 13 = .ok (.dup, 1) := by decide +kernel
theorem dX1_wetPlane_14 : decode cX1_wetPlane 14 = .ok (.getfield 61, 3) := by decide +kernel
theorem dX1_wetPlane_17 : decode cX1_wetPlane 17 = .ok (.iload_n 3, 1) := by decide +kernel
theorem dX1_wetPlane_18 : decode cX1_wetPlane 18 = .ok (.iadd, 1) := by decide +kernel
theorem dX1_wetPlane_19 : decode cX1_wetPlane 19 = .ok (.putfield 61, 3) := by decide +kernel
theorem dX1_wetPlane_22 : decode cX1_wetPlane 22 = .ok (.aload_n 0, 1) := by decide +kernel
theorem dX1_wetPlane_23 : decode cX1_wetPlane 23 = .ok (.getfield 21, 3) := by decide +kernel
theorem dX1_wetPlane_26 : decode cX1_wetPlane 26 = .ok (.iload_n 1, 1) := by decide +kernel
theorem dX1_wetPlane_27 : decode cX1_wetPlane 27 = .ok (.dup2, 1) := by decide +kernel
theorem dX1_wetPlane_28 : decode cX1_wetPlane 28 = .ok (.iaload, 1) := by decide +kernel
theorem dX1_wetPlane_29 : decode cX1_wetPlane 29 = .ok (.iload_n 3, 1) := by decide +kernel
theorem dX1_wetPlane_30 : decode cX1_wetPlane 30 = .ok (.iadd, 1) := by decide +kernel
theorem dX1_wetPlane_31 : decode cX1_wetPlane 31 = .ok (.iastore, 1) := by decide +kernel
theorem dX1_wetPlane_32 : decode cX1_wetPlane 32 = .ok (.aload_n 0, 1) := by decide +kernel
theorem dX1_wetPlane_33 : decode cX1_wetPlane 33 = .ok (.getfield 21, 3) := by decide +kernel
theorem dX1_wetPlane_36 : decode cX1_wetPlane 36 = .ok (.iload_n 1, 1) := by decide +kernel
theorem dX1_wetPlane_37 : decode cX1_wetPlane 37 = .ok (.iaload, 1) := by decide +kernel
theorem dX1_wetPlane_38 : decode cX1_wetPlane 38 = .ok (.iconst 5, 1) := by decide +kernel
theorem dX1_wetPlane_39 : decode cX1_wetPlane 39 = .ok (.aload_n 0, 1) := by decide +kernel
theorem dX1_wetPlane_40 : decode cX1_wetPlane 40 = .ok (.getfield 15, 3) := by decide +kernel
theorem dX1_wetPlane_43 : decode cX1_wetPlane 43 = .ok (.iload_n 1, 1) := by decide +kernel
theorem dX1_wetPlane_44 : decode cX1_wetPlane 44 = .ok (.iaload, 1) := by decide +kernel
theorem dX1_wetPlane_45 : decode cX1_wetPlane 45 = .ok (.iadd, 1) := by decide +kernel
theorem dX1_wetPlane_46 : decode cX1_wetPlane 46 = .ok (.imul, 1) := by decide +kernel
theorem dX1_wetPlane_47 : decode cX1_wetPlane 47 = .ok (.bipush 14, 2) := by decide +kernel
theorem dX1_wetPlane_49 : decode cX1_wetPlane 49 = .ok (.idiv, 1) := by decide +kernel
theorem dX1_wetPlane_50 : decode cX1_wetPlane 50 = .ok (.istore 4, 2) := by decide +kernel
theorem dX1_wetPlane_52 : decode cX1_wetPlane 52 = .ok (.iload 4, 2) := by decide +kernel
theorem dX1_wetPlane_54 : decode cX1_wetPlane 54 = .ok (.ifCond .ne 15, 3) := by decide +kernel
theorem dX1_wetPlane_57 : decode cX1_wetPlane 57 = .ok (.aload_n 0, 1) := by decide +kernel
theorem dX1_wetPlane_58 : decode cX1_wetPlane 58 = .ok (.getfield 21, 3) := by decide +kernel
theorem dX1_wetPlane_61 : decode cX1_wetPlane 61 = .ok (.iload_n 1, 1) := by decide +kernel
theorem dX1_wetPlane_62 : decode cX1_wetPlane 62 = .ok (.iaload, 1) := by decide +kernel
theorem dX1_wetPlane_63 : decode cX1_wetPlane 63 = .ok (.ifCond .le 6, 3) := by decide +kernel
theorem dX1_wetPlane_66 : decode cX1_wetPlane 66 = .ok (.iconst 1, 1) := by decide +kernel
theorem dX1_wetPlane_67 : decode cX1_wetPlane 67 = .ok (.istore 4, 2) := by decide +kernel
theorem dX1_wetPlane_69 : decode cX1_wetPlane 69 = .ok (.aload_n 0, 1) := by decide +kernel
theorem dX1_wetPlane_70 : decode cX1_wetPlane 70 = .ok (.getfield 21, 3) := by decide +kernel
theorem dX1_wetPlane_73 : decode cX1_wetPlane 73 = .ok (.iload_n 1, 1) := by decide +kernel
theorem dX1_wetPlane_74 : decode cX1_wetPlane 74 = .ok (.dup2, 1) := by decide +kernel
theorem dX1_wetPlane_75 : decode cX1_wetPlane 75 = .ok (.iaload, 1) := by decide +kernel
theorem dX1_wetPlane_76 : decode cX1_wetPlane 76 = .ok (.iload 4, 2) := by decide +kernel
theorem dX1_wetPlane_78 : decode cX1_wetPlane 78 = .ok (.isub, 1) := by decide +kernel
theorem dX1_wetPlane_79 : decode cX1_wetPlane 79 = .ok (.iastore, 1) := by decide +kernel
theorem dX1_wetPlane_80 : decode cX1_wetPlane 80 = .ok (.aload_n 0, 1) := by decide +kernel
theorem dX1_wetPlane_81 : decode cX1_wetPlane 81 = .ok (.getfield 18, 3) := by decide +kernel
theorem dX1_wetPlane_84 : decode cX1_wetPlane 84 = .ok (.iload_n 1, 1) := by decide +kernel
theorem dX1_wetPlane_85 : decode cX1_wetPlane 85 = .ok (.iaload, 1) := by decide +kernel
theorem dX1_wetPlane_86 : decode cX1_wetPlane 86 = .ok (.istore 5, 2) := by decide +kernel
theorem dX1_wetPlane_88 : decode cX1_wetPlane 88 = .ok (.iload 5, 2) := by decide +kernel
theorem dX1_wetPlane_90 : decode cX1_wetPlane 90 = .ok (.invokestatic 67, 3) := by decide +kernel
theorem dX1_wetPlane_93 : decode cX1_wetPlane 93 = .ok (.ifCond .eq 15, 3) := by decide +kernel
theorem dX1_wetPlane_96 : decode cX1_wetPlane 96 = .ok (.aload_n 0, 1) := by decide +kernel
theorem dX1_wetPlane_97 : decode cX1_wetPlane 97 = .ok (.getfield 36, 3) := by decide +kernel
theorem dX1_wetPlane_100 : decode cX1_wetPlane 100 = .ok (.iload 5, 2) := by decide +kernel
theorem dX1_wetPlane_102 : decode cX1_wetPlane 102 = .ok (.dup2, 1) := by decide +kernel
theorem dX1_wetPlane_103 : decode cX1_wetPlane 103 = .ok (.iaload, 1) := by decide +kernel
theorem dX1_wetPlane_104 : decode cX1_wetPlane 104 = .ok (.iload 4, 2) := by decide +kernel
theorem dX1_wetPlane_106 : decode cX1_wetPlane 106 = .ok (.iadd, 1) := by decide +kernel
theorem dX1_wetPlane_107 : decode cX1_wetPlane 107 = .ok (.iastore, 1) := by decide +kernel
theorem dX1_wetPlane_108 : decode cX1_wetPlane 108 = .ok (.return_, 1) := by decide +kernel
set_option maxRecDepth 20000 in
theorem ggX1_emptyIntoDrain_X1_pipeTakes : GoodIn wsX1_emptyIntoDrain wsX1_pipeTakes := goodIn_r _ [13, 14, 15, 16, 17, 18, 19, 20, 21, 22, 23, 24, 25, 26, 27, 28, 29, 30, 31] rfl (by decide +kernel)
set_option maxRecDepth 20000 in
theorem gX1_emptyIntoDrain_X1_pipeTakes : GoodIn wsX1_emptyIntoDrain (wsV RX1 91 RX1 yX1_pipeTakes wsX1_pipeTakes) := goodIn_app (goodIn_of _ (by decide +kernel)) ggX1_emptyIntoDrain_X1_pipeTakes
theorem dX1_emptyIntoDrain_0 : decode cX1_emptyIntoDrain 0 = .ok (.aload_n 0, 1) := by decide +kernel
theorem dX1_emptyIntoDrain_1 : decode cX1_emptyIntoDrain 1 = .ok (.getfield 45, 3) := by decide +kernel
theorem dX1_emptyIntoDrain_4 : decode cX1_emptyIntoDrain 4 = .ok (.iconst 0, 1) := by decide +kernel
theorem dX1_emptyIntoDrain_5 : decode cX1_emptyIntoDrain 5 = .ok (.iaload, 1) := by decide +kernel
theorem dX1_emptyIntoDrain_6 : decode cX1_emptyIntoDrain 6 = .ok (.istore_n 1, 1) := by decide +kernel
theorem dX1_emptyIntoDrain_7 : decode cX1_emptyIntoDrain 7 = .ok (.iconst 0, 1) := by decide +kernel
theorem dX1_emptyIntoDrain_8 : decode cX1_emptyIntoDrain 8 = .ok (.istore_n 2, 1) := by decide +kernel
theorem dX1_emptyIntoDrain_9 : decode cX1_emptyIntoDrain 9 = .ok (.iconst 0, 1) := by decide +kernel
theorem dX1_emptyIntoDrain_10 : decode cX1_emptyIntoDrain 10 = .ok (.istore_n 3, 1) := by decide +kernel
theorem dX1_emptyIntoDrain_11 : decode cX1_emptyIntoDrain 11 = .ok (.iload_n 3, 1) := by decide +kernel
theorem dX1_emptyIntoDrain_12 : decode cX1_emptyIntoDrain 12 = .ok (.bipush 6, 2) := by decide +kernel
theorem dX1_emptyIntoDrain_14 : decode cX1_emptyIntoDrain 14 = .ok (.if_icmp .ge 77, 3) := by decide +kernel
theorem dX1_emptyIntoDrain_17 : decode cX1_emptyIntoDrain 17 = .ok (.aload_n 0, 1) := by decide +kernel
theorem dX1_emptyIntoDrain_18 : decode cX1_emptyIntoDrain 18 = .ok (.iload_n 3, 1) := by decide +kernel
theorem dX1_emptyIntoDrain_19 : decode cX1_emptyIntoDrain 19 = .ok (.invokevirtual 91, 3) := by decide +kernel
theorem dX1_emptyIntoDrain_22 : decode cX1_emptyIntoDrain 22 = .ok (.aload_n 0, 1) := by decide +kernel
theorem dX1_emptyIntoDrain_23 : decode cX1_emptyIntoDrain 23 = .ok (.getfield 36, 3) := by decide +kernel
theorem dX1_emptyIntoDrain_26 : decode cX1_emptyIntoDrain 26 = .ok (.iload_n 3, 1) := by decide +kernel
theorem dX1_emptyIntoDrain_27 : decode cX1_emptyIntoDrain 27 = .ok (.iaload, 1) := by decide +kernel
theorem dX1_emptyIntoDrain_28 : decode cX1_emptyIntoDrain 28 = .ok (.invokestatic 85, 3) := by decide +kernel
theorem dX1_emptyIntoDrain_31 : decode cX1_emptyIntoDrain 31 = .ok (.istore 4, 2) := by decide +kernel
theorem dX1_emptyIntoDrain_33 : decode cX1_emptyIntoDrain 33 = .ok (.iload 4, 2) := by decide +kernel
theorem dX1_emptyIntoDrain_35 : decode cX1_emptyIntoDrain 35 = .ok (.iload_n 1, 1) := by decide +kernel
theorem dX1_emptyIntoDrain_36 : decode cX1_emptyIntoDrain 36 = .ok (.invokestatic 85, 3) := by decide +kernel
theorem dX1_emptyIntoDrain_39 : decode cX1_emptyIntoDrain 39 = .ok (.istore 5, 2) := by decide +kernel
theorem dX1_emptyIntoDrain_41 : decode cX1_emptyIntoDrain 41 = .ok (.aload_n 0, 1) := by decide +kernel
theorem dX1_emptyIntoDrain_42 : decode cX1_emptyIntoDrain 42 = .ok (.getfield 36, 3) := by decide +kernel
theorem dX1_emptyIntoDrain_45 : decode cX1_emptyIntoDrain 45 = .ok (.iload_n 3, 1) := by decide +kernel
theorem dX1_emptyIntoDrain_46 : decode cX1_emptyIntoDrain 46 = .ok (.dup2, 1) := by decide +kernel
theorem dX1_emptyIntoDrain_47 : decode cX1_emptyIntoDrain 47 = .ok (.iaload, 1) := by decide +kernel
theorem dX1_emptyIntoDrain_48 : decode cX1_emptyIntoDrain 48 = .ok (.iload 5, 2) := by decide +kernel
theorem dX1_emptyIntoDrain_50 : decode cX1_emptyIntoDrain 50 = .ok (.isub, 1) := by decide +kernel
theorem dX1_emptyIntoDrain_51 : decode cX1_emptyIntoDrain 51 = .ok (.iastore, 1) := by decide +kernel
theorem dX1_emptyIntoDrain_52 : decode cX1_emptyIntoDrain 52 = .ok (.aload_n 0, 1) := by decide +kernel
theorem dX1_emptyIntoDrain_53 : decode cX1_emptyIntoDrain 53 = .ok (.getfield 42, 3) := by decide +kernel
theorem dX1_emptyIntoDrain_56 : decode cX1_emptyIntoDrain 56 = .ok (.iload_n 3, 1) := by decide +kernel
theorem dX1_emptyIntoDrain_57 : decode cX1_emptyIntoDrain 57 = .ok (.dup2, 1) := by decide +kernel
theorem dX1_emptyIntoDrain_58 : decode cX1_emptyIntoDrain 58 = .ok (.iaload, 1) := by decide +kernel
theorem dX1_emptyIntoDrain_59 : decode cX1_emptyIntoDrain 59 = .ok (.iload 5, 2) := by decide +kernel
theorem dX1_emptyIntoDrain_61 : decode cX1_emptyIntoDrain 61 = .ok (.iadd, 1) := by decide +kernel
theorem dX1_emptyIntoDrain_62 : decode cX1_emptyIntoDrain 62 = .ok (.iastore, 1) := by decide +kernel
theorem dX1_emptyIntoDrain_63 : decode cX1_emptyIntoDrain 63 = .ok (.iload_n 1, 1) := by decide +kernel
theorem dX1_emptyIntoDrain_64 : decode cX1_emptyIntoDrain 64 = .ok (.iload 5, 2) := by decide +kernel
theorem dX1_emptyIntoDrain_66 : decode cX1_emptyIntoDrain 66 = .ok (.isub, 1) := by decide +kernel
theorem dX1_emptyIntoDrain_67 : decode cX1_emptyIntoDrain 67 = .ok (.istore_n 1, 1) := by decide +kernel
theorem dX1_emptyIntoDrain_68 : decode cX1_emptyIntoDrain 68 = .ok (.iload_n 2, 1) := by decide +kernel
theorem dX1_emptyIntoDrain_69 : decode cX1_emptyIntoDrain 69 = .ok (.ifCond .ne 10, 3) := by decide +kernel
theorem dX1_emptyIntoDrain_72 : decode cX1_emptyIntoDrain 72 = .ok (.iload 5, 2) := by decide +kernel
theorem dX1_emptyIntoDrain_74 : decode cX1_emptyIntoDrain 74 = .ok (.iload 4, 2) := by decide +kernel
theorem dX1_emptyIntoDrain_76 : decode cX1_emptyIntoDrain 76 = .ok (.if_icmp .ge 7, 3) := by decide +kernel
theorem dX1_emptyIntoDrain_79 : decode cX1_emptyIntoDrain 79 = .ok (.iconst 1, 1) := by decide +kernel
theorem dX1_emptyIntoDrain_80 : decode cX1_emptyIntoDrain 80 = .ok (.goto 4, 3) := by decide +kernel
theorem dX1_emptyIntoDrain_83 : decode cX1_emptyIntoDrain 83 = .ok (.iconst 0, 1) := by decide +kernel
theorem dX1_emptyIntoDrain_84 : decode cX1_emptyIntoDrain 84 = .ok (.istore_n 2, 1) := by decide +kernel
theorem dX1_emptyIntoDrain_85 : decode cX1_emptyIntoDrain 85 = .ok (.iinc 3 1, 3) := by decide +kernel
theorem dX1_emptyIntoDrain_88 : decode cX1_emptyIntoDrain 88 = .ok (.goto (-77), 3) := by decide +kernel
theorem dX1_emptyIntoDrain_91 : decode cX1_emptyIntoDrain 91 = .ok (.iload_n 2, 1) := by decide +kernel
theorem dX1_emptyIntoDrain_92 : decode cX1_emptyIntoDrain 92 = .ok (.ifCond .eq 13, 3) := by decide +kernel
theorem dX1_emptyIntoDrain_95 : decode cX1_emptyIntoDrain 95 = .ok (.aload_n 0, 1) := by decide +kernel
theorem dX1_emptyIntoDrain_96 : decode cX1_emptyIntoDrain 96 = .ok (.dup, 1) := by decide +kernel
theorem dX1_emptyIntoDrain_97 : decode cX1_emptyIntoDrain 97 = .ok (.getfield 64, 3) := by decide +kernel
theorem dX1_emptyIntoDrain_100 : decode cX1_emptyIntoDrain 100 = .ok (.iconst 1, 1) := by decide +kernel
theorem dX1_emptyIntoDrain_101 : decode cX1_emptyIntoDrain 101 = .ok (.iadd, 1) := by decide +kernel
theorem dX1_emptyIntoDrain_102 : decode cX1_emptyIntoDrain 102 = .ok (.putfield 64, 3) := by decide +kernel
theorem dX1_emptyIntoDrain_105 : decode cX1_emptyIntoDrain 105 = .ok (.return_, 1) := by decide +kernel
set_option maxRecDepth 20000 in
theorem ggX1_overflow_X1_room : GoodIn wsX1_overflow wsX1_room := goodIn_r _ [8, 9, 10, 14, 15, 16, 17, 18, 19, 20, 21, 22, 23, 24, 25, 26, 27, 28, 29] rfl (by decide +kernel)
set_option maxRecDepth 20000 in
theorem gX1_overflow_X1_room : GoodIn wsX1_overflow (wsV RX1 95 RX1 yX1_room wsX1_room) := goodIn_app (goodIn_of _ (by decide +kernel)) ggX1_overflow_X1_room
set_option maxRecDepth 20000 in
theorem ggX1_overflow_X3_isGutter : GoodIn wsX1_overflow wsX3_isGutter := goodIn_r _ [13] rfl (by decide +kernel)
set_option maxRecDepth 20000 in
theorem gX1_overflow_X3_isGutter_n67 : GoodIn wsX1_overflow (wsX3_isGutter) := ggX1_overflow_X3_isGutter
theorem dX1_overflow_0 : decode cX1_overflow 0 = .ok (.aload_n 0, 1) := by decide +kernel
theorem dX1_overflow_1 : decode cX1_overflow 1 = .ok (.getfield 36, 3) := by decide +kernel
theorem dX1_overflow_4 : decode cX1_overflow 4 = .ok (.iload_n 1, 1) := by decide +kernel
theorem dX1_overflow_5 : decode cX1_overflow 5 = .ok (.iaload, 1) := by decide +kernel
theorem dX1_overflow_6 : decode cX1_overflow 6 = .ok (.aload_n 0, 1) := by decide +kernel
theorem dX1_overflow_7 : decode cX1_overflow 7 = .ok (.iload_n 1, 1) := by decide +kernel
theorem dX1_overflow_8 : decode cX1_overflow 8 = .ok (.invokevirtual 95, 3) := by decide +kernel
theorem dX1_overflow_11 : decode cX1_overflow 11 = .ok (.isub, 1) := by decide +kernel
theorem dX1_overflow_12 : decode cX1_overflow 12 = .ok (.istore_n 2, 1) := by decide +kernel
theorem dX1_overflow_13 : decode cX1_overflow 13 = .ok (.iload_n 2, 1) := by decide +kernel
theorem dX1_overflow_14 : decode cX1_overflow 14 = .ok (.ifCond .gt 4, 3) := by decide +kernel
theorem dX1_overflow_17 : decode cX1_overflow 17 = .ok (.return_, 1) := by decide +kernel
theorem dX1_overflow_18 : decode cX1_overflow 18 = .ok (.aload_n 0, 1) := by decide +kernel
theorem dX1_overflow_19 : decode cX1_overflow 19 = .ok (.getfield 36, 3) := by decide +kernel
theorem dX1_overflow_22 : decode cX1_overflow 22 = .ok (.iload_n 1, 1) := by decide +kernel
theorem dX1_overflow_23 : decode cX1_overflow 23 = .ok (.dup2, 1) := by decide +kernel
theorem dX1_overflow_24 : decode cX1_overflow 24 = .ok (.iaload, 1) := by decide +kernel
theorem dX1_overflow_25 : decode cX1_overflow 25 = .ok (.iload_n 2, 1) := by decide +kernel
theorem dX1_overflow_26 : decode cX1_overflow 26 = .ok (.isub, 1) := by decide +kernel
theorem dX1_overflow_27 : decode cX1_overflow 27 = .ok (.iastore, 1) := by decide +kernel
theorem dX1_overflow_28 : decode cX1_overflow 28 = .ok (.aload_n 0, 1) := by decide +kernel
theorem dX1_overflow_29 : decode cX1_overflow 29 = .ok (.getfield 33, 3) := by decide +kernel
theorem dX1_overflow_32 : decode cX1_overflow 32 = .ok (.iload_n 1, 1) := by decide +kernel
theorem dX1_overflow_33 : decode cX1_overflow 33 = .ok (.iaload, 1) := by decide +kernel
theorem dX1_overflow_34 : decode cX1_overflow 34 = .ok (.istore_n 3, 1) := by decide +kernel
theorem dX1_overflow_35 : decode cX1_overflow 35 = .ok (.iload_n 3, 1) := by decide +kernel
theorem dX1_overflow_36 : decode cX1_overflow 36 = .ok (.invokestatic 67, 3) := by decide +kernel
theorem dX1_overflow_39 : decode cX1_overflow 39 = .ok (.ifCond .eq 16, 3) := by decide +kernel
theorem dX1_overflow_42 : decode cX1_overflow 42 = .ok (.aload_n 0, 1) := by decide +kernel
theorem dX1_overflow_43 : decode cX1_overflow 43 = .ok (.getfield 36, 3) := by decide +kernel
theorem dX1_overflow_46 : decode cX1_overflow 46 = .ok (.iload_n 3, 1) := by decide +kernel
theorem dX1_overflow_47 : decode cX1_overflow 47 = .ok (.dup2, 1) := by decide +kernel
theorem dX1_overflow_48 : decode cX1_overflow 48 = .ok (.iaload, 1) := by decide +kernel
theorem dX1_overflow_49 : decode cX1_overflow 49 = .ok (.iload_n 2, 1) := by decide +kernel
theorem dX1_overflow_50 : decode cX1_overflow 50 = .ok (.iadd, 1) := by decide +kernel
theorem dX1_overflow_51 : decode cX1_overflow 51 = .ok (.iastore, 1) := by decide +kernel
theorem dX1_overflow_52 : decode cX1_overflow 52 = .ok (.goto 13, 3) := by decide +kernel
theorem dX1_overflow_55 : decode cX1_overflow 55 = .ok (.aload_n 0, 1) := by decide +kernel
theorem dX1_overflow_56 : decode cX1_overflow 56 = .ok (.getfield 39, 3) := by decide +kernel
theorem dX1_overflow_59 : decode cX1_overflow 59 = .ok (.iload_n 1, 1) := by decide +kernel
theorem dX1_overflow_60 : decode cX1_overflow 60 = .ok (.dup2, 1) := by decide +kernel
theorem dX1_overflow_61 : decode cX1_overflow 61 = .ok (.iaload, 1) := by decide +kernel
theorem dX1_overflow_62 : decode cX1_overflow 62 = .ok (.iload_n 2, 1) := by decide +kernel
theorem dX1_overflow_63 : decode cX1_overflow 63 = .ok (.iadd, 1) := by decide +kernel
theorem dX1_overflow_64 : decode cX1_overflow 64 = .ok (.iastore, 1) := by decide +kernel
theorem dX1_overflow_65 : decode cX1_overflow 65 = .ok (.return_, 1) := by decide +kernel
theorem dX1_room_0 : decode cX1_room 0 = .ok (.aload_n 0, 1) := by decide +kernel
theorem dX1_room_1 : decode cX1_room 1 = .ok (.getfield 24, 3) := by decide +kernel
theorem dX1_room_4 : decode cX1_room 4 = .ok (.iload_n 1, 1) := by decide +kernel
theorem dX1_room_5 : decode cX1_room 5 = .ok (.iaload, 1) := by decide +kernel
theorem dX1_room_6 : decode cX1_room 6 = .ok (.bipush 100, 2) := by decide +kernel
theorem dX1_room_8 : decode cX1_room 8 = .ok (.aload_n 0, 1) := by decide +kernel
theorem dX1_room_9 : decode cX1_room 9 = .ok (.getfield 30, 3) := by decide +kernel
theorem dX1_room_12 : decode cX1_room 12 = .ok (.iload_n 1, 1) := by decide +kernel
theorem dX1_room_13 : decode cX1_room 13 = .ok (.iaload, 1) := by decide +kernel
theorem dX1_room_14 : decode cX1_room 14 = .ok (.isub, 1) := by decide +kernel
theorem dX1_room_15 : decode cX1_room 15 = .ok (.imul, 1) := by decide +kernel
theorem dX1_room_16 : decode cX1_room 16 = .ok (.bipush 100, 2) := by decide +kernel
theorem dX1_room_18 : decode cX1_room 18 = .ok (.idiv, 1) := by decide +kernel
theorem dX1_room_19 : decode cX1_room 19 = .ok (.ireturn, 1) := by decide +kernel
theorem dX1_pipeTakes_0 : decode cX1_pipeTakes 0 = .ok (.aload_n 0, 1) := by decide +kernel
theorem dX1_pipeTakes_1 : decode cX1_pipeTakes 1 = .ok (.getfield 27, 3) := by decide +kernel
theorem dX1_pipeTakes_4 : decode cX1_pipeTakes 4 = .ok (.iload_n 1, 1) := by decide +kernel
theorem dX1_pipeTakes_5 : decode cX1_pipeTakes 5 = .ok (.iaload, 1) := by decide +kernel
theorem dX1_pipeTakes_6 : decode cX1_pipeTakes 6 = .ok (.bipush 100, 2) := by decide +kernel
theorem dX1_pipeTakes_8 : decode cX1_pipeTakes 8 = .ok (.aload_n 0, 1) := by decide +kernel
theorem dX1_pipeTakes_9 : decode cX1_pipeTakes 9 = .ok (.getfield 30, 3) := by decide +kernel
theorem dX1_pipeTakes_12 : decode cX1_pipeTakes 12 = .ok (.iload_n 1, 1) := by decide +kernel
theorem dX1_pipeTakes_13 : decode cX1_pipeTakes 13 = .ok (.iaload, 1) := by decide +kernel
theorem dX1_pipeTakes_14 : decode cX1_pipeTakes 14 = .ok (.isub, 1) := by decide +kernel
theorem dX1_pipeTakes_15 : decode cX1_pipeTakes 15 = .ok (.imul, 1) := by decide +kernel
theorem dX1_pipeTakes_16 : decode cX1_pipeTakes 16 = .ok (.bipush 100, 2) := by decide +kernel
theorem dX1_pipeTakes_18 : decode cX1_pipeTakes 18 = .ok (.idiv, 1) := by decide +kernel
theorem dX1_pipeTakes_19 : decode cX1_pipeTakes 19 = .ok (.istore_n 2, 1) := by decide +kernel
theorem dX1_pipeTakes_20 : decode cX1_pipeTakes 20 = .ok (.iload_n 2, 1) := by decide +kernel
theorem dX1_pipeTakes_21 : decode cX1_pipeTakes 21 = .ok (.ifCond .ne 16, 3) := by decide +kernel
theorem dX1_pipeTakes_24 : decode cX1_pipeTakes 24 = .ok (.aload_n 0, 1) := by decide +kernel
theorem dX1_pipeTakes_25 : decode cX1_pipeTakes 25 = .ok (.getfield 27, 3) := by decide +kernel
theorem dX1_pipeTakes_28 : decode cX1_pipeTakes 28 = .ok (.iload_n 1, 1) := by decide +kernel
theorem dX1_pipeTakes_29 : decode cX1_pipeTakes 29 = .ok (.iaload, 1) := by decide +kernel
theorem dX1_pipeTakes_30 : decode cX1_pipeTakes 30 = .ok (.ifCond .eq 7, 3) := by decide +kernel
theorem dX1_pipeTakes_33 : decode cX1_pipeTakes 33 = .ok (.iconst 1, 1) := by decide +kernel
theorem dX1_pipeTakes_34 : decode cX1_pipeTakes 34 = .ok (.goto 4, 3) := by decide +kernel
theorem dX1_pipeTakes_37 : decode cX1_pipeTakes 37 = .ok (.iload_n 2, 1) := by decide +kernel
theorem dX1_pipeTakes_38 : decode cX1_pipeTakes 38 = .ok (.ireturn, 1) := by decide +kernel
theorem dX1_planeNumber_0 : decode cX1_planeNumber 0 = .ok (.iload_n 2, 1) := by decide +kernel
theorem dX1_planeNumber_1 : decode cX1_planeNumber 1 = .ok (.tableswitch 48 0 2 #[27, 34, 41], 27) := by decide +kernel
theorem dX1_planeNumber_28 : decode cX1_planeNumber 28 = .ok (.aload_n 0, 1) := by decide +kernel
theorem dX1_planeNumber_29 : decode cX1_planeNumber 29 = .ok (.getfield 9, 3) := by decide +kernel
theorem dX1_planeNumber_32 : decode cX1_planeNumber 32 = .ok (.iload_n 1, 1) := by decide +kernel
theorem dX1_planeNumber_33 : decode cX1_planeNumber 33 = .ok (.iaload, 1) := by decide +kernel
theorem dX1_planeNumber_34 : decode cX1_planeNumber 34 = .ok (.ireturn, 1) := by decide +kernel
theorem dX1_planeNumber_35 : decode cX1_planeNumber 35 = .ok (.aload_n 0, 1) := by decide +kernel
theorem dX1_planeNumber_36 : decode cX1_planeNumber 36 = .ok (.getfield 15, 3) := by decide +kernel
theorem dX1_planeNumber_39 : decode cX1_planeNumber 39 = .ok (.iload_n 1, 1) := by decide +kernel
theorem dX1_planeNumber_40 : decode cX1_planeNumber 40 = .ok (.iaload, 1) := by decide +kernel
theorem dX1_planeNumber_41 : decode cX1_planeNumber 41 = .ok (.ireturn, 1) := by decide +kernel
theorem dX1_planeNumber_42 : decode cX1_planeNumber 42 = .ok (.aload_n 0, 1) := by decide +kernel
theorem dX1_planeNumber_43 : decode cX1_planeNumber 43 = .ok (.getfield 18, 3) := by decide +kernel
theorem dX1_planeNumber_46 : decode cX1_planeNumber 46 = .ok (.iload_n 1, 1) := by decide +kernel
theorem dX1_planeNumber_47 : decode cX1_planeNumber 47 = .ok (.iaload, 1) := by decide +kernel
theorem dX1_planeNumber_48 : decode cX1_planeNumber 48 = .ok (.ireturn, 1) := by decide +kernel
theorem dX1_planeNumber_49 : decode cX1_planeNumber 49 = .ok (.aload_n 0, 1) := by decide +kernel
theorem dX1_planeNumber_50 : decode cX1_planeNumber 50 = .ok (.getfield 21, 3) := by decide +kernel
theorem dX1_planeNumber_53 : decode cX1_planeNumber 53 = .ok (.iload_n 1, 1) := by decide +kernel
theorem dX1_planeNumber_54 : decode cX1_planeNumber 54 = .ok (.iaload, 1) := by decide +kernel
theorem dX1_planeNumber_55 : decode cX1_planeNumber 55 = .ok (.ireturn, 1) := by decide +kernel
set_option maxRecDepth 20000 in
theorem ggX1_gutterNumber_X1_room : GoodIn wsX1_gutterNumber wsX1_room := goodIn_r _ [12, 1, 3, 17, 18, 19, 20, 21, 22, 23, 24, 25, 26, 27, 28, 29, 30, 31, 32] rfl (by decide +kernel)
set_option maxRecDepth 20000 in
theorem gX1_gutterNumber_X1_room : GoodIn wsX1_gutterNumber (wsV RX1 95 RX1 yX1_room wsX1_room) := goodIn_app (goodIn_of _ (by decide +kernel)) ggX1_gutterNumber_X1_room
set_option maxRecDepth 20000 in
theorem ggX1_gutterNumber_X1_pipeTakes : GoodIn wsX1_gutterNumber wsX1_pipeTakes := goodIn_r _ [16, 2, 3, 17, 18, 19, 20, 21, 22, 23, 24, 25, 26, 27, 28, 29, 30, 31, 32] rfl (by decide +kernel)
set_option maxRecDepth 20000 in
theorem gX1_gutterNumber_X1_pipeTakes : GoodIn wsX1_gutterNumber (wsV RX1 91 RX1 yX1_pipeTakes wsX1_pipeTakes) := goodIn_app (goodIn_of _ (by decide +kernel)) ggX1_gutterNumber_X1_pipeTakes
theorem dX1_gutterNumber_0 : decode cX1_gutterNumber 0 = .ok (.iload_n 2, 1) := by decide +kernel
theorem dX1_gutterNumber_1 : decode cX1_gutterNumber 1 = .ok (.tableswitch 101 0 7 #[47, 54, 61, 68, 75, 82, 88, 94], 47) := by decide +kernel
theorem dX1_gutterNumber_48 : decode cX1_gutterNumber 48 = .ok (.aload_n 0, 1) := by decide +kernel
theorem dX1_gutterNumber_49 : decode cX1_gutterNumber 49 = .ok (.getfield 24, 3) := by decide +kernel
theorem dX1_gutterNumber_52 : decode cX1_gutterNumber 52 = .ok (.iload_n 1, 1) := by decide +kernel
theorem dX1_gutterNumber_53 : decode cX1_gutterNumber 53 = .ok (.iaload, 1) := by decide +kernel
theorem dX1_gutterNumber_54 : decode cX1_gutterNumber 54 = .ok (.ireturn, 1) := by decide +kernel
theorem dX1_gutterNumber_55 : decode cX1_gutterNumber 55 = .ok (.aload_n 0, 1) := by decide +kernel
theorem dX1_gutterNumber_56 : decode cX1_gutterNumber 56 = .ok (.getfield 27, 3) := by decide +kernel
theorem dX1_gutterNumber_59 : decode cX1_gutterNumber 59 = .ok (.iload_n 1, 1) := by decide +kernel
theorem dX1_gutterNumber_60 : decode cX1_gutterNumber 60 = .ok (.iaload, 1) := by decide +kernel
theorem dX1_gutterNumber_61 : decode cX1_gutterNumber 61 = .ok (.ireturn, 1) := by decide +kernel
theorem dX1_gutterNumber_62 : decode cX1_gutterNumber 62 = .ok (.aload_n 0, 1) := by decide +kernel
theorem dX1_gutterNumber_63 : decode cX1_gutterNumber 63 = .ok (.getfield 30, 3) := by decide +kernel
theorem dX1_gutterNumber_66 : decode cX1_gutterNumber 66 = .ok (.iload_n 1, 1) := by decide +kernel
theorem dX1_gutterNumber_67 : decode cX1_gutterNumber 67 = .ok (.iaload, 1) := by decide +kernel
theorem dX1_gutterNumber_68 : decode cX1_gutterNumber 68 = .ok (.ireturn, 1) := by decide +kernel
theorem dX1_gutterNumber_69 : decode cX1_gutterNumber 69 = .ok (.aload_n 0, 1) := by decide +kernel
theorem dX1_gutterNumber_70 : decode cX1_gutterNumber 70 = .ok (.getfield 33, 3) := by decide +kernel
theorem dX1_gutterNumber_73 : decode cX1_gutterNumber 73 = .ok (.iload_n 1, 1) := by decide +kernel
theorem dX1_gutterNumber_74 : decode cX1_gutterNumber 74 = .ok (.iaload, 1) := by decide +kernel
theorem dX1_gutterNumber_75 : decode cX1_gutterNumber 75 = .ok (.ireturn, 1) := by decide +kernel
theorem dX1_gutterNumber_76 : decode cX1_gutterNumber 76 = .ok (.aload_n 0, 1) := by decide +kernel
theorem dX1_gutterNumber_77 : decode cX1_gutterNumber 77 = .ok (.getfield 36, 3) := by decide +kernel
theorem dX1_gutterNumber_80 : decode cX1_gutterNumber 80 = .ok (.iload_n 1, 1) := by decide +kernel
theorem dX1_gutterNumber_81 : decode cX1_gutterNumber 81 = .ok (.iaload, 1) := by decide +kernel
theorem dX1_gutterNumber_82 : decode cX1_gutterNumber 82 = .ok (.ireturn, 1) := by decide +kernel
theorem dX1_gutterNumber_83 : decode cX1_gutterNumber 83 = .ok (.aload_n 0, 1) := by decide +kernel
theorem dX1_gutterNumber_84 : decode cX1_gutterNumber 84 = .ok (.iload_n 1, 1) := by decide +kernel
theorem dX1_gutterNumber_85 : decode cX1_gutterNumber 85 = .ok (.invokevirtual 95, 3) := by decide +kernel
theorem dX1_gutterNumber_88 : decode cX1_gutterNumber 88 = .ok (.ireturn, 1) := by decide +kernel
theorem dX1_gutterNumber_89 : decode cX1_gutterNumber 89 = .ok (.aload_n 0, 1) := by decide +kernel
theorem dX1_gutterNumber_90 : decode cX1_gutterNumber 90 = .ok (.iload_n 1, 1) := by decide +kernel
theorem dX1_gutterNumber_91 : decode cX1_gutterNumber 91 = .ok (.invokevirtual 91, 3) := by decide +kernel
theorem dX1_gutterNumber_94 : decode cX1_gutterNumber 94 = .ok (.ireturn, 1) := by decide +kernel
theorem dX1_gutterNumber_95 : decode cX1_gutterNumber 95 = .ok (.aload_n 0, 1) := by decide +kernel
theorem dX1_gutterNumber_96 : decode cX1_gutterNumber 96 = .ok (.getfield 39, 3) := by decide +kernel
theorem dX1_gutterNumber_99 : decode cX1_gutterNumber 99 = .ok (.iload_n 1, 1) := by decide +kernel
theorem dX1_gutterNumber_100 : decode cX1_gutterNumber 100 = .ok (.iaload, 1) := by decide +kernel
theorem dX1_gutterNumber_101 : decode cX1_gutterNumber 101 = .ok (.ireturn, 1) := by decide +kernel
theorem dX1_gutterNumber_102 : decode cX1_gutterNumber 102 = .ok (.aload_n 0, 1) := by decide +kernel
theorem dX1_gutterNumber_103 : decode cX1_gutterNumber 103 = .ok (.getfield 42, 3) := by decide +kernel
theorem dX1_gutterNumber_106 : decode cX1_gutterNumber 106 = .ok (.iload_n 1, 1) := by decide +kernel
theorem dX1_gutterNumber_107 : decode cX1_gutterNumber 107 = .ok (.iaload, 1) := by decide +kernel
theorem dX1_gutterNumber_108 : decode cX1_gutterNumber 108 = .ok (.ireturn, 1) := by decide +kernel
theorem dX1_settingValue_0 : decode cX1_settingValue 0 = .ok (.aload_n 0, 1) := by decide +kernel
theorem dX1_settingValue_1 : decode cX1_settingValue 1 = .ok (.getfield 45, 3) := by decide +kernel
theorem dX1_settingValue_4 : decode cX1_settingValue 4 = .ok (.iload_n 1, 1) := by decide +kernel
theorem dX1_settingValue_5 : decode cX1_settingValue 5 = .ok (.iaload, 1) := by decide +kernel
theorem dX1_settingValue_6 : decode cX1_settingValue 6 = .ok (.ireturn, 1) := by decide +kernel
theorem dX1_minutesGone_0 : decode cX1_minutesGone 0 = .ok (.aload_n 0, 1) := by decide +kernel
theorem dX1_minutesGone_1 : decode cX1_minutesGone 1 = .ok (.getfield 54, 3) := by decide +kernel
theorem dX1_minutesGone_4 : decode cX1_minutesGone 4 = .ok (.ireturn, 1) := by decide +kernel
theorem dX1_weeksPassed_0 : decode cX1_weeksPassed 0 = .ok (.aload_n 0, 1) := by decide +kernel
theorem dX1_weeksPassed_1 : decode cX1_weeksPassed 1 = .ok (.getfield 58, 3) := by decide +kernel
theorem dX1_weeksPassed_4 : decode cX1_weeksPassed 4 = .ok (.ireturn, 1) := by decide +kernel
theorem dX1_rainedLitres_0 : decode cX1_rainedLitres 0 = .ok (.aload_n 0, 1) := by decide +kernel
theorem dX1_rainedLitres_1 : decode cX1_rainedLitres 1 = .ok (.getfield 61, 3) := by decide +kernel
theorem dX1_rainedLitres_4 : decode cX1_rainedLitres 4 = .ok (.ireturn, 1) := by decide +kernel
theorem dX1_backedUpMinutes_0 : decode cX1_backedUpMinutes 0 = .ok (.aload_n 0, 1) := by decide +kernel
theorem dX1_backedUpMinutes_1 : decode cX1_backedUpMinutes 1 = .ok (.getfield 64, 3) := by decide +kernel
theorem dX1_backedUpMinutes_4 : decode cX1_backedUpMinutes 4 = .ok (.ireturn, 1) := by decide +kernel
set_option maxRecDepth 20000 in
theorem ggX1_standingLitres_X1_sumOf : GoodIn wsX1_standingLitres wsX1_sumOf := goodIn_r _ [6] rfl (by decide +kernel)
set_option maxRecDepth 20000 in
theorem gX1_standingLitres_X1_sumOf : GoodIn wsX1_standingLitres (va_wsS RX1 98 yX1_sumOf wsX1_sumOf) := goodIn_app (goodIn_of _ (by decide +kernel)) ggX1_standingLitres_X1_sumOf
theorem dX1_standingLitres_0 : decode cX1_standingLitres 0 = .ok (.aload_n 0, 1) := by decide +kernel
theorem dX1_standingLitres_1 : decode cX1_standingLitres 1 = .ok (.getfield 21, 3) := by decide +kernel
theorem dX1_standingLitres_4 : decode cX1_standingLitres 4 = .ok (.invokestatic 98, 3) := by decide +kernel
theorem dX1_standingLitres_7 : decode cX1_standingLitres 7 = .ok (.aload_n 0, 1) := by decide +kernel
theorem dX1_standingLitres_8 : decode cX1_standingLitres 8 = .ok (.getfield 36, 3) := by decide +kernel
theorem dX1_standingLitres_11 : decode cX1_standingLitres 11 = .ok (.invokestatic 98, 3) := by decide +kernel
theorem dX1_standingLitres_14 : decode cX1_standingLitres 14 = .ok (.iadd, 1) := by decide +kernel
theorem dX1_standingLitres_15 : decode cX1_standingLitres 15 = .ok (.ireturn, 1) := by decide +kernel
set_option maxRecDepth 20000 in
theorem ggX1_drainedLitres_X1_sumOf : GoodIn wsX1_drainedLitres wsX1_sumOf := goodIn_r _ [5] rfl (by decide +kernel)
set_option maxRecDepth 20000 in
theorem gX1_drainedLitres_X1_sumOf : GoodIn wsX1_drainedLitres (va_wsS RX1 98 yX1_sumOf wsX1_sumOf) := goodIn_app (goodIn_of _ (by decide +kernel)) ggX1_drainedLitres_X1_sumOf
theorem dX1_drainedLitres_0 : decode cX1_drainedLitres 0 = .ok (.aload_n 0, 1) := by decide +kernel
theorem dX1_drainedLitres_1 : decode cX1_drainedLitres 1 = .ok (.getfield 42, 3) := by decide +kernel
theorem dX1_drainedLitres_4 : decode cX1_drainedLitres 4 = .ok (.invokestatic 98, 3) := by decide +kernel
theorem dX1_drainedLitres_7 : decode cX1_drainedLitres 7 = .ok (.ireturn, 1) := by decide +kernel
set_option maxRecDepth 20000 in
theorem ggX1_spiltLitres_X1_sumOf : GoodIn wsX1_spiltLitres wsX1_sumOf := goodIn_r _ [5] rfl (by decide +kernel)
set_option maxRecDepth 20000 in
theorem gX1_spiltLitres_X1_sumOf : GoodIn wsX1_spiltLitres (va_wsS RX1 98 yX1_sumOf wsX1_sumOf) := goodIn_app (goodIn_of _ (by decide +kernel)) ggX1_spiltLitres_X1_sumOf
theorem dX1_spiltLitres_0 : decode cX1_spiltLitres 0 = .ok (.aload_n 0, 1) := by decide +kernel
theorem dX1_spiltLitres_1 : decode cX1_spiltLitres 1 = .ok (.getfield 39, 3) := by decide +kernel
theorem dX1_spiltLitres_4 : decode cX1_spiltLitres 4 = .ok (.invokestatic 98, 3) := by decide +kernel
theorem dX1_spiltLitres_7 : decode cX1_spiltLitres 7 = .ok (.ireturn, 1) := by decide +kernel
set_option maxRecDepth 20000 in
theorem ggX1_leavesTogether_X1_sumOf : GoodIn wsX1_leavesTogether wsX1_sumOf := goodIn_r _ [5] rfl (by decide +kernel)
set_option maxRecDepth 20000 in
theorem gX1_leavesTogether_X1_sumOf : GoodIn wsX1_leavesTogether (va_wsS RX1 98 yX1_sumOf wsX1_sumOf) := goodIn_app (goodIn_of _ (by decide +kernel)) ggX1_leavesTogether_X1_sumOf
theorem dX1_leavesTogether_0 : decode cX1_leavesTogether 0 = .ok (.aload_n 0, 1) := by decide +kernel
theorem dX1_leavesTogether_1 : decode cX1_leavesTogether 1 = .ok (.getfield 30, 3) := by decide +kernel
theorem dX1_leavesTogether_4 : decode cX1_leavesTogether 4 = .ok (.invokestatic 98, 3) := by decide +kernel
theorem dX1_leavesTogether_7 : decode cX1_leavesTogether 7 = .ok (.ireturn, 1) := by decide +kernel
theorem dX1_sumOf_0 : decode cX1_sumOf 0 = .ok (.iconst 0, 1) := by decide +kernel
theorem dX1_sumOf_1 : decode cX1_sumOf 1 = .ok (.istore_n 1, 1) := by decide +kernel
theorem dX1_sumOf_2 : decode cX1_sumOf 2 = .ok (.aload_n 0, 1) := by decide +kernel
theorem dX1_sumOf_3 : decode cX1_sumOf 3 = .ok (.astore_n 2, 1) := by decide +kernel
theorem dX1_sumOf_4 : decode cX1_sumOf 4 = .ok (.aload_n 2, 1) := by decide +kernel
theorem dX1_sumOf_5 : decode cX1_sumOf 5 = .ok (.arraylength, 1) := by decide +kernel
theorem dX1_sumOf_6 : decode cX1_sumOf 6 = .ok (.istore_n 3, 1) := by decide +kernel
theorem dX1_sumOf_7 : decode cX1_sumOf 7 = .ok (.iconst 0, 1) := by decide +kernel
theorem dX1_sumOf_8 : decode cX1_sumOf 8 = .ok (.istore 4, 2) := by decide +kernel
theorem dX1_sumOf_10 : decode cX1_sumOf 10 = .ok (.iload 4, 2) := by decide +kernel
theorem dX1_sumOf_12 : decode cX1_sumOf 12 = .ok (.iload_n 3, 1) := by decide +kernel
theorem dX1_sumOf_13 : decode cX1_sumOf 13 = .ok (.if_icmp .ge 20, 3) := by decide +kernel
theorem dX1_sumOf_16 : decode cX1_sumOf 16 = .ok (.aload_n 2, 1) := by decide +kernel
theorem dX1_sumOf_17 : decode cX1_sumOf 17 = .ok (.iload 4, 2) := by decide +kernel
theorem dX1_sumOf_19 : decode cX1_sumOf 19 = .ok (.iaload, 1) := by decide +kernel
theorem dX1_sumOf_20 : decode cX1_sumOf 20 = .ok (.istore 5, 2) := by decide +kernel
theorem dX1_sumOf_22 : decode cX1_sumOf 22 = .ok (.iload_n 1, 1) := by decide +kernel
theorem dX1_sumOf_23 : decode cX1_sumOf 23 = .ok (.iload 5, 2) := by decide +kernel
theorem dX1_sumOf_25 : decode cX1_sumOf 25 = .ok (.iadd, 1) := by decide +kernel
theorem dX1_sumOf_26 : decode cX1_sumOf 26 = .ok (.istore_n 1, 1) := by decide +kernel
theorem dX1_sumOf_27 : decode cX1_sumOf 27 = .ok (.iinc 4 1, 3) := by decide +kernel
theorem dX1_sumOf_30 : decode cX1_sumOf 30 = .ok (.goto (-20), 3) := by decide +kernel
theorem dX1_sumOf_33 : decode cX1_sumOf 33 = .ok (.iload_n 1, 1) := by decide +kernel
theorem dX1_sumOf_34 : decode cX1_sumOf 34 = .ok (.ireturn, 1) := by decide +kernel
theorem dX2_init_0 : decode cX2_init 0 = .ok (.aload_n 0, 1) := by decide +kernel
theorem dX2_init_1 : decode cX2_init 1 = .ok (.invokespecial 1, 3) := by decide +kernel
theorem dX2_init_4 : decode cX2_init 4 = .ok (.aload_n 0, 1) := by decide +kernel
theorem dX2_init_5 : decode cX2_init 5 = .ok (.bipush 6, 2) := by decide +kernel
theorem dX2_init_7 : decode cX2_init 7 = .ok (.anewarray 9, 3) := by decide +kernel
theorem dX2_init_10 : decode cX2_init 10 = .ok (.putfield 11, 3) := by decide +kernel
theorem dX2_init_13 : decode cX2_init 13 = .ok (.return_, 1) := by decide +kernel
theorem dX2_held_0 : decode cX2_held 0 = .ok (.aload_n 0, 1) := by decide +kernel
theorem dX2_held_1 : decode cX2_held 1 = .ok (.getfield 15, 3) := by decide +kernel
theorem dX2_held_4 : decode cX2_held 4 = .ok (.ireturn, 1) := by decide +kernel
set_option maxRecDepth 20000 in
theorem ggX2_keep_X1_init : GoodIn wsX2_keep wsX1_init := goodIn_r _ [9, 10, 11, 12, 13, 14, 15, 16, 17, 18, 19, 20, 21, 22, 23, 24, 25, 41, 42, 43, 44, 45, 46, 47, 48, 49, 50, 51, 52, 53, 54, 55, 56] rfl (by decide +kernel)
set_option maxRecDepth 20000 in
theorem gX2_keep_X1_init : GoodIn wsX2_keep (wsX1_init) := ggX2_keep_X1_init
set_option maxRecDepth 20000 in
theorem ggX2_keep_X1_copyFrom : GoodIn wsX2_keep wsX1_copyFrom := goodIn_r _ [29, 14, 30, 31, 32, 33, 15, 16, 17, 18, 19, 20, 21, 22, 23, 24, 25, 34, 35, 36, 37, 41, 42, 43, 44, 45, 46, 47, 48, 49, 50, 51, 52, 53, 54, 55, 56] rfl (by decide +kernel)
set_option maxRecDepth 20000 in
theorem gX2_keep_X1_copyFrom : GoodIn wsX2_keep (wsV RX2 23 RX1 yX1_copyFrom wsX1_copyFrom) := goodIn_app (goodIn_of _ (by decide +kernel)) ggX2_keep_X1_copyFrom
theorem dX2_keep_0 : decode cX2_keep 0 = .ok (.aload_n 0, 1) := by decide +kernel
theorem dX2_keep_1 : decode cX2_keep 1 = .ok (.getfield 15, 3) := by decide +kernel
theorem dX2_keep_4 : decode cX2_keep 4 = .ok (.bipush 6, 2) := by decide +kernel
theorem dX2_keep_6 : decode cX2_keep 6 = .ok (.if_icmp .ne 26, 3) := by decide +kernel
theorem dX2_keep_9 : decode cX2_keep 9 = .ok (.aload_n 0, 1) := by decide +kernel
theorem dX2_keep_10 : decode cX2_keep 10 = .ok (.aload_n 0, 1) := by decide +kernel
theorem dX2_keep_11 : decode cX2_keep 11 = .ok (.getfield 19, 3) := by decide +kernel
theorem dX2_keep_14 : decode cX2_keep 14 = .ok (.iconst 1, 1) := by decide +kernel
theorem dX2_keep_15 : decode cX2_keep 15 = .ok (.iadd, 1) := by decide +kernel
theorem dX2_keep_16 : decode cX2_keep 16 = .ok (.bipush 6, 2) := by decide +kernel
theorem dX2_keep_18 : decode cX2_keep 18 = .ok (.irem, 1) := by decide +kernel
theorem dX2_keep_19 : decode cX2_keep 19 = .ok (.putfield 19, 3) := by decide +kernel
theorem dX2_keep_22 : decode cX2_keep 22 = .ok (.aload_n 0, 1) := by decide +kernel
theorem dX2_keep_23 : decode cX2_keep 23 = .ok (.dup, 1) := by decide +kernel
theorem dX2_keep_24 : decode cX2_keep 24 = .ok (.getfield 15, 3) := by decide +kernel
theorem dX2_keep_27 : decode cX2_keep 27 = .ok (.iconst 1, 1) := by decide +kernel
theorem dX2_keep_28 : decode cX2_keep 28 = .ok (.isub, 1) := by decide +kernel
theorem dX2_keep_29 : decode cX2_keep 29 = .ok (.putfield 15, 3) := by decide +kernel
theorem dX2_keep_32 : decode cX2_keep 32 = .ok (.aload_n 0, 1) := by decide +kernel
theorem dX2_keep_33 : decode cX2_keep 33 = .ok (.getfield 19, 3) := by decide +kernel
theorem dX2_keep_36 : decode cX2_keep 36 = .ok (.aload_n 0, 1) := by decide +kernel
theorem dX2_keep_37 : decode cX2_keep 37 = .ok (.getfield 15, 3) := by decide +kernel
theorem dX2_keep_40 : decode cX2_keep 40 = .ok (.iadd, 1) := by decide +kernel
theorem dX2_keep_41 : decode cX2_keep 41 = .ok (.bipush 6, 2) := by decide +kernel
theorem dX2_keep_43 : decode cX2_keep 43 = .ok (.irem, 1) := by decide +kernel
theorem dX2_keep_44 : decode cX2_keep 44 = .ok (.istore_n 2, 1) := by decide +kernel
theorem dX2_keep_45 : decode cX2_keep 45 = .ok (.aload_n 0, 1) := by decide +kernel
theorem dX2_keep_46 : decode cX2_keep 46 = .ok (.getfield 11, 3) := by decide +kernel
theorem dX2_keep_49 : decode cX2_keep 49 = .ok (.iload_n 2, 1) := by decide +kernel
theorem dX2_keep_50 : decode cX2_keep 50 = .ok (.aaload, 1) := by decide +kernel
theorem dX2_keep_51 : decode cX2_keep 51 = .ok (.astore_n 3, 1) := by decide +kernel
theorem dX2_keep_52 : decode cX2_keep 52 = .ok (.aload_n 3, 1) := by decide +kernel
theorem dX2_keep_53 : decode cX2_keep 53 = .ok (.ifnonnull 18, 3) := by decide +kernel
theorem dX2_keep_56 : decode cX2_keep 56 = .ok (.new 9, 3) := by decide +kernel
theorem dX2_keep_59 : decode cX2_keep 59 = .ok (.dup, 1) := by decide +kernel
theorem dX2_keep_60 : decode cX2_keep 60 = .ok (.invokespecial 22, 3) := by decide +kernel
theorem dX2_keep_63 : decode cX2_keep 63 = .ok (.astore_n 3, 1) := by decide +kernel
theorem dX2_keep_64 : decode cX2_keep 64 = .ok (.aload_n 0, 1) := by decide +kernel
theorem dX2_keep_65 : decode cX2_keep 65 = .ok (.getfield 11, 3) := by decide +kernel
theorem dX2_keep_68 : decode cX2_keep 68 = .ok (.iload_n 2, 1) := by decide +kernel
theorem dX2_keep_69 : decode cX2_keep 69 = .ok (.aload_n 3, 1) := by decide +kernel
theorem dX2_keep_70 : decode cX2_keep 70 = .ok (.aastore, 1) := by decide +kernel
theorem dX2_keep_71 : decode cX2_keep 71 = .ok (.aload_n 3, 1) := by decide +kernel
theorem dX2_keep_72 : decode cX2_keep 72 = .ok (.aload_n 1, 1) := by decide +kernel
theorem dX2_keep_73 : decode cX2_keep 73 = .ok (.invokevirtual 23, 3) := by decide +kernel
theorem dX2_keep_76 : decode cX2_keep 76 = .ok (.aload_n 0, 1) := by decide +kernel
theorem dX2_keep_77 : decode cX2_keep 77 = .ok (.dup, 1) := by decide +kernel
theorem dX2_keep_78 : decode cX2_keep 78 = .ok (.getfield 15, 3) := by decide +kernel
theorem dX2_keep_81 : decode cX2_keep 81 = .ok (.iconst 1, 1) := by decide +kernel
theorem dX2_keep_82 : decode cX2_keep 82 = .ok (.iadd, 1) := by decide +kernel
theorem dX2_keep_83 : decode cX2_keep 83 = .ok (.putfield 15, 3) := by decide +kernel
theorem dX2_keep_86 : decode cX2_keep 86 = .ok (.return_, 1) := by decide +kernel
theorem dX2_dropLatest_0 : decode cX2_dropLatest 0 = .ok (.aload_n 0, 1) := by decide +kernel
theorem dX2_dropLatest_1 : decode cX2_dropLatest 1 = .ok (.getfield 15, 3) := by decide +kernel
theorem dX2_dropLatest_4 : decode cX2_dropLatest 4 = .ok (.ifCond .ne 5, 3) := by decide +kernel
theorem dX2_dropLatest_7 : decode cX2_dropLatest 7 = .ok (.aconst_null, 1) := by decide +kernel
theorem dX2_dropLatest_8 : decode cX2_dropLatest 8 = .ok (.areturn, 1) := by decide +kernel
theorem dX2_dropLatest_9 : decode cX2_dropLatest 9 = .ok (.aload_n 0, 1) := by decide +kernel
theorem dX2_dropLatest_10 : decode cX2_dropLatest 10 = .ok (.dup, 1) := by decide +kernel
theorem dX2_dropLatest_11 : decode cX2_dropLatest 11 = .ok (.getfield 15, 3) := by decide +kernel
theorem dX2_dropLatest_14 : decode cX2_dropLatest 14 = .ok (.iconst 1, 1) := by decide +kernel
theorem dX2_dropLatest_15 : decode cX2_dropLatest 15 = .ok (.isub, 1) := by decide +kernel
theorem dX2_dropLatest_16 : decode cX2_dropLatest 16 = .ok (.putfield 15, 3) := by decide +kernel
theorem dX2_dropLatest_19 : decode cX2_dropLatest 19 = .ok (.aload_n 0, 1) := by decide +kernel
theorem dX2_dropLatest_20 : decode cX2_dropLatest 20 = .ok (.getfield 11, 3) := by decide +kernel
theorem dX2_dropLatest_23 : decode cX2_dropLatest 23 = .ok (.aload_n 0, 1) := by decide +kernel
theorem dX2_dropLatest_24 : decode cX2_dropLatest 24 = .ok (.getfield 19, 3) := by decide +kernel
theorem dX2_dropLatest_27 : decode cX2_dropLatest 27 = .ok (.aload_n 0, 1) := by decide +kernel
theorem dX2_dropLatest_28 : decode cX2_dropLatest 28 = .ok (.getfield 15, 3) := by decide +kernel
theorem dX2_dropLatest_31 : decode cX2_dropLatest 31 = .ok (.iadd, 1) := by decide +kernel
theorem dX2_dropLatest_32 : decode cX2_dropLatest 32 = .ok (.bipush 6, 2) := by decide +kernel
theorem dX2_dropLatest_34 : decode cX2_dropLatest 34 = .ok (.irem, 1) := by decide +kernel
theorem dX2_dropLatest_35 : decode cX2_dropLatest 35 = .ok (.aaload, 1) := by decide +kernel
theorem dX2_dropLatest_36 : decode cX2_dropLatest 36 = .ok (.areturn, 1) := by decide +kernel
