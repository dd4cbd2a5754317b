theorem dX0_init_0 : decode cX0_init 0 = .ok (.aload_n 0, 1) := by decide +kernel
theorem dX0_init_1 : decode cX0_init 1 = .ok (.invokespecial 3, 3) := by decide +kernel
theorem dX0_init_4 : decode cX0_init 4 = .ok (.aload_n 0, 1) := by decide +kernel
theorem dX0_init_5 : decode cX0_init 5 = .ok (.iconst 1, 1) := by decide +kernel
theorem dX0_init_6 : decode cX0_init 6 = .ok (.putfield 9, 3) := by decide +kernel
theorem dX0_init_9 : decode cX0_init 9 = .ok (.aload_n 0, 1) := by decide +kernel
theorem dX0_init_10 : decode cX0_init 10 = .ok (.iconst (-1), 1) := by decide +kernel
theorem dX0_init_11 : decode cX0_init 11 = .ok (.putfield 15, 3) := by decide +kernel
theorem dX0_init_14 : decode cX0_init 14 = .ok (.aload_n 0, 1) := by decide +kernel
theorem dX0_init_15 : decode cX0_init 15 = .ok (.bipush 50, 2) := by decide +kernel
theorem dX0_init_17 : decode cX0_init 17 = .ok (.putfield 18, 3) := by decide +kernel
theorem dX0_init_20 : decode cX0_init 20 = .ok (.aload_n 0, 1) := by decide +kernel
theorem dX0_init_21 : decode cX0_init 21 = .ok (.bipush 8, 2) := by decide +kernel
theorem dX0_init_23 : decode cX0_init 23 = .ok (.newarray .int, 2) := by decide +kernel
theorem dX0_init_25 : decode cX0_init 25 = .ok (.putfield 21, 3) := by decide +kernel
theorem dX0_init_28 : decode cX0_init 28 = .ok (.aload_n 0, 1) := by decide +kernel
theorem dX0_init_29 : decode cX0_init 29 = .ok (.bipush 6, 2) := by decide +kernel
theorem dX0_init_31 : decode cX0_init 31 = .ok (.newarray .int, 2) := by decide +kernel
theorem dX0_init_33 : decode cX0_init 33 = .ok (.putfield 25, 3) := by decide +kernel
theorem dX0_init_36 : decode cX0_init 36 = .ok (.aload_n 0, 1) := by decide +kernel
theorem dX0_init_37 : decode cX0_init 37 = .ok (.bipush 6, 2) := by decide +kernel
theorem dX0_init_39 : decode cX0_init 39 = .ok (.newarray .int, 2) := by decide +kernel
theorem dX0_init_41 : decode cX0_init 41 = .ok (.putfield 28, 3) := by decide +kernel
theorem dX0_init_44 : decode cX0_init 44 = .ok (.aload_n 0, 1) := by decide +kernel
theorem dX0_init_45 : decode cX0_init 45 = .ok (.bipush 6, 2) := by decide +kernel
theorem dX0_init_47 : decode cX0_init 47 = .ok (.newarray .int, 2) := by decide +kernel
theorem dX0_init_49 : decode cX0_init 49 = .ok (.putfield 31, 3) := by decide +kernel
theorem dX0_init_52 : decode cX0_init 52 = .ok (.aload_n 0, 1) := by decide +kernel
theorem dX0_init_53 : decode cX0_init 53 = .ok (.iconst 5, 1) := by decide +kernel
theorem dX0_init_54 : decode cX0_init 54 = .ok (.newarray .boolean, 2) := by decide +kernel
theorem dX0_init_56 : decode cX0_init 56 = .ok (.putfield 34, 3) := by decide +kernel
theorem dX0_init_59 : decode cX0_init 59 = .ok (.aload_n 0, 1) := by decide +kernel
theorem dX0_init_60 : decode cX0_init 60 = .ok (.iconst 5, 1) := by decide +kernel
theorem dX0_init_61 : decode cX0_init 61 = .ok (.newarray .int, 2) := by decide +kernel
theorem dX0_init_63 : decode cX0_init 63 = .ok (.putfield 38, 3) := by decide +kernel
theorem dX0_init_66 : decode cX0_init 66 = .ok (.aload_n 0, 1) := by decide +kernel
theorem dX0_init_67 : decode cX0_init 67 = .ok (.iconst 5, 1) := by decide +kernel
theorem dX0_init_68 : decode cX0_init 68 = .ok (.newarray .int, 2) := by decide +kernel
theorem dX0_init_70 : decode cX0_init 70 = .ok (.putfield 41, 3) := by decide +kernel
theorem dX0_init_73 : decode cX0_init 73 = .ok (.aload_n 0, 1) := by decide +kernel
theorem dX0_init_74 : decode cX0_init 74 = .ok (.bipush 10, 2) := by decide +kernel
theorem dX0_init_76 : decode cX0_init 76 = .ok (.newarray .int, 2) := by decide +kernel
theorem dX0_init_78 : decode cX0_init 78 = .ok (.putfield 44, 3) := by decide +kernel
theorem dX0_init_81 : decode cX0_init 81 = .ok (.aload_n 0, 1) := by decide +kernel
theorem dX0_init_82 : decode cX0_init 82 = .ok (.bipush 10, 2) := by decide +kernel
theorem dX0_init_84 : decode cX0_init 84 = .ok (.newarray .int, 2) := by decide +kernel
theorem dX0_init_86 : decode cX0_init 86 = .ok (.putfield 47, 3) := by decide +kernel
theorem dX0_init_89 : decode cX0_init 89 = .ok (.aload_n 0, 1) := by decide +kernel
theorem dX0_init_90 : decode cX0_init 90 = .ok (.bipush 10, 2) := by decide +kernel
theorem dX0_init_92 : decode cX0_init 92 = .ok (.newarray .int, 2) := by decide +kernel
theorem dX0_init_94 : decode cX0_init 94 = .ok (.putfield 50, 3) := by decide +kernel
theorem dX0_init_97 : decode cX0_init 97 = .ok (.aload_n 0, 1) := by decide +kernel
theorem dX0_init_98 : decode cX0_init 98 = .ok (.bipush 10, 2) := by decide +kernel
theorem dX0_init_100 : decode cX0_init 100 = .ok (.newarray .int, 2) := by decide +kernel
theorem dX0_init_102 : decode cX0_init 102 = .ok (.putfield 53, 3) := by decide +kernel
theorem dX0_init_105 : decode cX0_init 105 = .ok (.iconst 0, 1) := by decide +kernel
theorem dX0_init_106 : decode cX0_init 106 = .ok (.istore_n 1, 1) := by decide +kernel
theorem dX0_init_107 : decode cX0_init 107 = .ok (.iload_n 1, 1) := by decide +kernel
theorem dX0_init_108 : decode cX0_init 108 = .ok (.bipush 8, 2) := by decide +kernel
theorem dX0_init_110 : decode cX0_init 110 = .ok (.if_icmp .ge 17, 3) := by decide +kernel
theorem dX0_init_113 : decode cX0_init 113 = .ok (.aload_n 0, 1) := by decide +kernel
theorem dX0_init_114 : decode cX0_init 114 = .ok (.getfield 21, 3) := by decide +kernel
theorem dX0_init_117 : decode cX0_init 117 = .ok (.iload_n 1, 1) := by decide +kernel
theorem dX0_init_118 : decode cX0_init 118 = .ok (.bipush 8, 2) := by decide +kernel
theorem dX0_init_120 : decode cX0_init 120 = .ok (.iastore, 1) := by decide +kernel
theorem dX0_init_121 : decode cX0_init 121 = .ok (.iinc 1 1, 3) := by decide +kernel
theorem dX0_init_124 : decode cX0_init 124 = .ok (.goto (-17), 3) := by decide +kernel
theorem dX0_init_127 : decode cX0_init 127 = .ok (.iconst 0, 1) := by decide +kernel
theorem dX0_init_128 : decode cX0_init 128 = .ok (.istore_n 1, 1) := by decide +kernel
theorem dX0_init_129 : decode cX0_init 129 = .ok (.iload_n 1, 1) := by decide +kernel
theorem dX0_init_130 : decode cX0_init 130 = .ok (.bipush 6, 2) := by decide +kernel
theorem dX0_init_132 : decode cX0_init 132 = .ok (.if_icmp .ge 17, 3) := by decide +kernel
theorem dX0_init_135 : decode cX0_init 135 = .ok (.aload_n 0, 1) := by decide +kernel
theorem dX0_init_136 : decode cX0_init 136 = .ok (.getfield 25, 3) := by decide +kernel
theorem dX0_init_139 : decode cX0_init 139 = .ok (.iload_n 1, 1) := by decide +kernel
theorem dX0_init_140 : decode cX0_init 140 = .ok (.bipush 60, 2) := by decide +kernel
theorem dX0_init_142 : decode cX0_init 142 = .ok (.iastore, 1) := by decide +kernel
theorem dX0_init_143 : decode cX0_init 143 = .ok (.iinc 1 1, 3) := by decide +kernel
theorem dX0_init_146 : decode cX0_init 146 = .ok (.goto (-17), 3) := by decide +kernel
theorem dX0_init_149 : decode cX0_init 149 = .ok (.return_, 1) := by decide +kernel
theorem dX0_copyFrom_0 : decode cX0_copyFrom 0 = .ok (.aload_n 0, 1) := by decide +kernel
theorem dX0_copyFrom_1 : decode cX0_copyFrom 1 = .ok (.aload_n 1, 1) := by decide +kernel
theorem dX0_copyFrom_2 : decode cX0_copyFrom 2 = .ok (.getfield 56, 3) := by decide +kernel
theorem dX0_copyFrom_5 : decode cX0_copyFrom 5 = .ok (.putfield 56, 3) := by decide +kernel
theorem dX0_copyFrom_8 : decode cX0_copyFrom 8 = .ok (.aload_n 0, 1) := by decide +kernel
theorem dX0_copyFrom_9 : decode cX0_copyFrom 9 = .ok (.aload_n 1, 1) := by decide +kernel
theorem dX0_copyFrom_10 : decode cX0_copyFrom 10 = .ok (.getfield 59, 3) := by decide +kernel
theorem dX0_copyFrom_13 : decode cX0_copyFrom 13 = .ok (.putfield 59, 3) := by decide +kernel
theorem dX0_copyFrom_16 : decode cX0_copyFrom 16 = .ok (.aload_n 0, 1) := by decide +kernel
theorem dX0_copyFrom_17 : decode cX0_copyFrom 17 = .ok (.aload_n 1, 1) := by decide +kernel
theorem dX0_copyFrom_18 : decode cX0_copyFrom 18 = .ok (.getfield 9, 3) := by decide +kernel
theorem dX0_copyFrom_21 : decode cX0_copyFrom 21 = .ok (.putfield 9, 3) := by decide +kernel
theorem dX0_copyFrom_24 : decode cX0_copyFrom 24 = .ok (.aload_n 0, 1) := by decide +kernel
theorem dX0_copyFrom_25 : decode cX0_copyFrom 25 = .ok (.aload_n 1, 1) := by decide +kernel
theorem dX0_copyFrom_26 : decode cX0_copyFrom 26 = .ok (.getfield 62, 3) := by decide +kernel
theorem dX0_copyFrom_29 : decode cX0_copyFrom 29 = .ok (.putfield 62, 3) := by decide +kernel
theorem dX0_copyFrom_32 : decode cX0_copyFrom 32 = .ok (.aload_n 0, 1) := by decide +kernel
theorem dX0_copyFrom_33 : decode cX0_copyFrom 33 = .ok (.aload_n 1, 1) := by decide +kernel
theorem dX0_copyFrom_34 : decode cX0_copyFrom 34 = .ok (.getfield 15, 3) := by decide +kernel
theorem dX0_copyFrom_37 : decode cX0_copyFrom 37 = .ok (.putfield 15, 3) := by decide +kernel
theorem dX0_copyFrom_40 : decode cX0_copyFrom 40 = .ok (.aload_n 0, 1) := by decide +kernel
theorem dX0_copyFrom_41 : decode cX0_copyFrom 41 = .ok (.aload_n 1, 1) := by decide +kernel
theorem dX0_copyFrom_42 : decode cX0_copyFrom 42 = .ok (.getfield 18, 3) := by decide +kernel
theorem dX0_copyFrom_45 : decode cX0_copyFrom 45 = .ok (.putfield 18, 3) := by decide +kernel
theorem dX0_copyFrom_48 : decode cX0_copyFrom 48 = .ok (.aload_n 1, 1) := by decide +kernel
theorem dX0_copyFrom_49 : decode cX0_copyFrom 49 = .ok (.getfield 21, 3) := by decide +kernel
theorem dX0_copyFrom_52 : decode cX0_copyFrom 52 = .ok (.iconst 0, 1) := by decide +kernel
theorem dX0_copyFrom_53 : decode cX0_copyFrom 53 = .ok (.aload_n 0, 1) := by decide +kernel
theorem dX0_copyFrom_54 : decode cX0_copyFrom 54 = .ok (.getfield 21, 3) := by decide +kernel
theorem dX0_copyFrom_57 : decode cX0_copyFrom 57 = .ok (.iconst 0, 1) := by decide +kernel
theorem dX0_copyFrom_58 : decode cX0_copyFrom 58 = .ok (.bipush 8, 2) := by decide +kernel
theorem dX0_copyFrom_60 : decode cX0_copyFrom 60 = .ok (.invokestatic 66, 3) := by decide +kernel
theorem dX0_copyFrom_63 : decode cX0_copyFrom 63 = .ok (.aload_n 1, 1) := by decide +kernel
theorem dX0_copyFrom_64 : decode cX0_copyFrom 64 = .ok (.getfield 25, 3) := by decide +kernel
theorem dX0_copyFrom_67 : decode cX0_copyFrom 67 = .ok (.iconst 0, 1) := by decide +kernel
theorem dX0_copyFrom_68 : decode cX0_copyFrom 68 = .ok (.aload_n 0, 1) := by decide +kernel
theorem dX0_copyFrom_69 : decode cX0_copyFrom 69 = .ok (.getfield 25, 3) := by decide +kernel
theorem dX0_copyFrom_72 : decode cX0_copyFrom 72 = .ok (.iconst 0, 1) := by decide +kernel
theorem dX0_copyFrom_73 : decode cX0_copyFrom 73 = .ok (.bipush 6, 2) := by decide +kernel
theorem dX0_copyFrom_75 : decode cX0_copyFrom 75 = .ok (.invokestatic 66, 3) := by decide +kernel
theorem dX0_copyFrom_78 : decode cX0_copyFrom 78 = .ok (.aload_n 1, 1) := by decide +kernel
theorem dX0_copyFrom_79 : decode cX0_copyFrom 79 = .ok (.getfield 28, 3) := by decide +kernel
theorem dX0_copyFrom_82 : decode cX0_copyFrom 82 = .ok (.iconst 0, 1) := by decide +kernel
theorem dX0_copyFrom_83 : decode cX0_copyFrom 83 = .ok (.aload_n 0, 1) := by decide +kernel
theorem dX0_copyFrom_84 : decode cX0_copyFrom 84 = .ok (.getfield 28, 3) := by decide +kernel
theorem dX0_copyFrom_87 : decode cX0_copyFrom 87 = .ok (.iconst 0, 1) := by decide +kernel
theorem dX0_copyFrom_88 : decode cX0_copyFrom 88 = .ok (.bipush 6, 2) := by decide +kernel
theorem dX0_copyFrom_90 : decode cX0_copyFrom 90 = .ok (.invokestatic 66, 3) := by decide +kernel
theorem dX0_copyFrom_93 : decode cX0_copyFrom 93 = .ok (.aload_n 1, 1) := by decide +kernel
theorem dX0_copyFrom_94 : decode cX0_copyFrom 94 = .ok (.getfield 31, 3) := by decide +kernel
theorem dX0_copyFrom_97 : decode cX0_copyFrom 97 = .ok (.iconst 0, 1) := by decide +kernel
theorem dX0_copyFrom_98 : decode cX0_copyFrom 98 = .ok (.aload_n 0, 1) := by decide +kernel
theorem dX0_copyFrom_99 : decode cX0_copyFrom 99 = .ok (.getfield 31, 3) := by decide +kernel
theorem dX0_copyFrom_102 : decode cX0_copyFrom 102 = .ok (.iconst 0, 1) := by decide +kernel
theorem dX0_copyFrom_103 : decode cX0_copyFrom 103 = .ok (.bipush 6, 2) := by decide +kernel
theorem dX0_copyFrom_105 : decode cX0_copyFrom 105 = .ok (.invokestatic 66, 3) := by decide +kernel
theorem dX0_copyFrom_108 : decode cX0_copyFrom 108 = .ok (.iconst 0, 1) := by decide +kernel
theorem dX0_copyFrom_109 : decode cX0_copyFrom 109 = .ok (.istore_n 2, 1) := by decide +kernel
theorem dX0_copyFrom_110 : decode cX0_copyFrom 110 = .ok (.iload_n 2, 1) := by decide +kernel
theorem dX0_copyFrom_111 : decode cX0_copyFrom 111 = .ok (.iconst 5, 1) := by decide +kernel
theorem dX0_copyFrom_112 : decode cX0_copyFrom 112 = .ok (.if_icmp .ge 21, 3) := by decide +kernel
theorem dX0_copyFrom_115 : decode cX0_copyFrom 115 = .ok (.aload_n 0, 1) := by decide +kernel
theorem dX0_copyFrom_116 : decode cX0_copyFrom 116 = .ok (.getfield 34, 3) := by decide +kernel
theorem dX0_copyFrom_119 : decode cX0_copyFrom 119 = .ok (.iload_n 2, 1) := by decide +kernel
theorem dX0_copyFrom_120 : decode cX0_copyFrom 120 = .ok (.aload_n 1, 1) := by decide +kernel
theorem dX0_copyFrom_121 : decode cX0_copyFrom 121 = .ok (.getfield 34, 3) := by decide +kernel
theorem dX0_copyFrom_124 : decode cX0_copyFrom 124 = .ok (.iload_n 2, 1) := by decide +kernel
theorem dX0_copyFrom_125 : decode cX0_copyFrom 125 = .ok (.baload, 1) := by decide +kernel
theorem dX0_copyFrom_126 : decode cX0_copyFrom 126 = .ok (.bastore, 1) := by decide +kernel
theorem dX0_copyFrom_127 : decode cX0_copyFrom 127 = .ok (.iinc 2 1, 3) := by decide +kernel
theorem dX0_copyFrom_130 : decode cX0_copyFrom 130 = .ok (.goto (-20), 3) := by decide +kernel
theorem dX0_copyFrom_133 : decode cX0_copyFrom 133 = .ok (.aload_n 1, 1) := by decide +kernel
theorem dX0_copyFrom_134 : decode cX0_copyFrom 134 = .ok (.getfield 38, 3) := by decide +kernel
theorem dX0_copyFrom_137 : decode cX0_copyFrom 137 = .ok (.iconst 0, 1) := by decide +kernel
theorem dX0_copyFrom_138 : decode cX0_copyFrom 138 = .ok (.aload_n 0, 1) := by decide +kernel
theorem dX0_copyFrom_139 : decode cX0_copyFrom 139 = .ok (.getfield 38, 3) := by decide +kernel
theorem dX0_copyFrom_142 : decode cX0_copyFrom 142 = .ok (.iconst 0, 1) := by decide +kernel
theorem dX0_copyFrom_143 : decode cX0_copyFrom 143 = .ok (.iconst 5, 1) := by decide +kernel
theorem dX0_copyFrom_144 : decode cX0_copyFrom 144 = .ok (.invokestatic 66, 3) := by decide +kernel
theorem dX0_copyFrom_147 : decode cX0_copyFrom 147 = .ok (.aload_n 1, 1) := by decide +kernel
theorem dX0_copyFrom_148 : decode cX0_copyFrom 148 = .ok (.getfield 41, 3) := by decide +kernel
theorem dX0_copyFrom_151 : decode cX0_copyFrom 151 = .ok (.iconst 0, 1) := by decide +kernel
theorem dX0_copyFrom_152 : decode cX0_copyFrom 152 = .ok (.aload_n 0, 1) := by decide +kernel
theorem dX0_copyFrom_153 : decode cX0_copyFrom 153 = .ok (.getfield 41, 3) := by decide +kernel
theorem dX0_copyFrom_156 : decode cX0_copyFrom 156 = .ok (.iconst 0, 1) := by decide +kernel
theorem dX0_copyFrom_157 : decode cX0_copyFrom 157 = .ok (.iconst 5, 1) := by decide +kernel
theorem dX0_copyFrom_158 : decode cX0_copyFrom 158 = .ok (.invokestatic 66, 3) := by decide +kernel
theorem dX0_copyFrom_161 : decode cX0_copyFrom 161 = .ok (.aload_n 0, 1) := by decide +kernel
theorem dX0_copyFrom_162 : decode cX0_copyFrom 162 = .ok (.aload_n 1, 1) := by decide +kernel
theorem dX0_copyFrom_163 : decode cX0_copyFrom 163 = .ok (.getfield 72, 3) := by decide +kernel
theorem dX0_copyFrom_166 : decode cX0_copyFrom 166 = .ok (.putfield 72, 3) := by decide +kernel
theorem dX0_copyFrom_169 : decode cX0_copyFrom 169 = .ok (.aload_n 1, 1) := by decide +kernel
theorem dX0_copyFrom_170 : decode cX0_copyFrom 170 = .ok (.getfield 44, 3) := by decide +kernel
theorem dX0_copyFrom_173 : decode cX0_copyFrom 173 = .ok (.iconst 0, 1) := by decide +kernel
theorem dX0_copyFrom_174 : decode cX0_copyFrom 174 = .ok (.aload_n 0, 1) := by decide +kernel
theorem dX0_copyFrom_175 : decode cX0_copyFrom 175 = .ok (.getfield 44, 3) := by decide +kernel
theorem dX0_copyFrom_178 : decode cX0_copyFrom 178 = .ok (.iconst 0, 1) := by decide +kernel
theorem dX0_copyFrom_179 : decode cX0_copyFrom 179 = .ok (.bipush 10, 2) := by decide +kernel
theorem dX0_copyFrom_181 : decode cX0_copyFrom 181 = .ok (.invokestatic 66, 3) := by decide +kernel
theorem dX0_copyFrom_184 : decode cX0_copyFrom 184 = .ok (.aload_n 1, 1) := by decide +kernel
theorem dX0_copyFrom_185 : decode cX0_copyFrom 185 = .ok (.getfield 47, 3) := by decide +kernel
theorem dX0_copyFrom_188 : decode cX0_copyFrom 188 = .ok (.iconst 0, 1) := by decide +kernel
theorem dX0_copyFrom_189 : decode cX0_copyFrom 189 = .ok (.aload_n 0, 1) := by decide +kernel
theorem dX0_copyFrom_190 : decode cX0_copyFrom 190 = .ok (.getfield 47, 3) := by decide +kernel
theorem dX0_copyFrom_193 : decode cX0_copyFrom 193 = .ok (.iconst 0, 1) := by decide +kernel
theorem dX0_copyFrom_194 : decode cX0_copyFrom 194 = .ok (.bipush 10, 2) := by decide +kernel
theorem dX0_copyFrom_196 : decode cX0_copyFrom 196 = .ok (.invokestatic 66, 3) := by decide +kernel
theorem dX0_copyFrom_199 : decode cX0_copyFrom 199 = .ok (.aload_n 1, 1) := by decide +kernel
theorem dX0_copyFrom_200 : decode cX0_copyFrom 200 = .ok (.getfield 50, 3) := by decide +kernel
theorem dX0_copyFrom_203 : decode cX0_copyFrom 203 = .ok (.iconst 0, 1) := by decide +kernel
theorem dX0_copyFrom_204 : decode cX0_copyFrom 204 = .ok (.aload_n 0, 1) := by decide +kernel
theorem dX0_copyFrom_205 : decode cX0_copyFrom 205 = .ok (.getfield 50, 3) := by decide +kernel
theorem dX0_copyFrom_208 : decode cX0_copyFrom 208 = .ok (.iconst 0, 1) := by decide +kernel
theorem dX0_copyFrom_209 : decode cX0_copyFrom 209 = .ok (.bipush 10, 2) := by decide +kernel
theorem dX0_copyFrom_211 : decode cX0_copyFrom 211 = .ok (.invokestatic 66, 3) := by decide +kernel
theorem dX0_copyFrom_214 : decode cX0_copyFrom 214 = .ok (.aload_n 1, 1) := by decide +kernel
theorem dX0_copyFrom_215 : decode cX0_copyFrom 215 = .ok (.getfield 53, 3) := by decide +kernel
theorem dX0_copyFrom_218 : decode cX0_copyFrom 218 = .ok (.iconst 0, 1) := by decide +kernel
theorem dX0_copyFrom_219 : decode cX0_copyFrom 219 = .ok (.aload_n 0, 1) := by decide +kernel
theorem dX0_copyFrom_220 : decode cX0_copyFrom 220 = .ok (.getfield 53, 3) := by decide +kernel
theorem dX0_copyFrom_223 : decode cX0_copyFrom 223 = .ok (.iconst 0, 1) := by decide +kernel
theorem dX0_copyFrom_224 : decode cX0_copyFrom 224 = .ok (.bipush 10, 2) := by decide +kernel
theorem dX0_copyFrom_226 : decode cX0_copyFrom 226 = .ok (.invokestatic 66, 3) := by decide +kernel
theorem dX0_copyFrom_229 : decode cX0_copyFrom 229 = .ok (.return_, 1) := by decide +kernel
set_option maxRecDepth 20000 in
theorem ggX0_goHours_X0_goHour : GoodIn wsX0_goHours wsX0_goHour := goodIn_r _ [5, 6, 7, 8, 9, 10, 11, 12, 13, 14, 4, 15, 16, 17, 18, 19, 20, 21, 22, 23, 24, 25, 26, 27, 28, 29, 30, 31, 32, 33, 34, 35, 36, 37, 38, 39, 40, 41, 42, 43, 44, 45, 46, 47, 48, 49, 50, 51, 52, 53, 54, 55, 56, 57, 58, 59, 60, 61, 62, 63, 64, 65, 66, 67, 68, 69, 70, 71, 72, 73, 74, 75, 76, 77, 78, 79, 80, 81, 82, 83, 84, 85, 86, 87, 88, 89, 90, 91, 92, 93] (by decide +kernel) (by decide +kernel)
set_option maxRecDepth 20000 in
theorem gX0_goHours_X0_goHour : GoodIn wsX0_goHours (wsV RX0 75 RX0 yX0_goHour wsX0_goHour) := goodIn_app (goodIn_of _ (by decide +kernel)) ggX0_goHours_X0_goHour
theorem dX0_goHours_0 : decode cX0_goHours 0 = .ok (.iconst 0, 1) := by decide +kernel
theorem dX0_goHours_1 : decode cX0_goHours 1 = .ok (.istore_n 2, 1) := by decide +kernel
theorem dX0_goHours_2 : decode cX0_goHours 2 = .ok (.iconst 0, 1) := by decide +kernel
theorem dX0_goHours_3 : decode cX0_goHours 3 = .ok (.istore_n 3, 1) := by decide +kernel
theorem dX0_goHours_4 : decode cX0_goHours 4 = .ok (.iload_n 3, 1) := by decide +kernel
theorem dX0_goHours_5 : decode cX0_goHours 5 = .ok (.iload_n 1, 1) := by decide +kernel
theorem dX0_goHours_6 : decode cX0_goHours 6 = .ok (.if_icmp .ge 16, 3) := by decide +kernel
theorem dX0_goHours_9 : decode cX0_goHours 9 = .ok (.iload_n 2, 1) := by decide +kernel
theorem dX0_goHours_10 : decode cX0_goHours 10 = .ok (.aload_n 0, 1) := by decide +kernel
theorem dX0_goHours_11 : decode cX0_goHours 11 = .ok (.invokevirtual 75, 3) := by decide +kernel
theorem dX0_goHours_14 : decode cX0_goHours 14 = .ok (.iadd, 1) := by decide +kernel
theorem dX0_goHours_15 : decode cX0_goHours 15 = .ok (.istore_n 2, 1) := by decide +kernel
theorem dX0_goHours_16 : decode cX0_goHours 16 = .ok (.iinc 3 1, 3) := by decide +kernel
theorem dX0_goHours_19 : decode cX0_goHours 19 = .ok (.goto (-15), 3) := by decide +kernel
theorem dX0_goHours_22 : decode cX0_goHours 22 = .ok (.iload_n 2, 1) := by decide +kernel
theorem dX0_goHours_23 : decode cX0_goHours 23 = .ok (.ireturn, 1) := by decide +kernel
set_option maxRecDepth 20000 in
theorem ggX0_goHour_J9_floorMod_7cf53 : GoodIn wsX0_goHour wsJ9_floorMod_7cf53 := goodIn_r _ [6] (by decide +kernel) (by decide +kernel)
set_option maxRecDepth 20000 in
theorem gX0_goHour_J9_floorMod_7cf53 : GoodIn wsX0_goHour (va_wsS RX0 79 yJ9_floorMod_7cf53 wsJ9_floorMod_7cf53) := goodIn_app (goodIn_of _ (by decide +kernel)) ggX0_goHour_J9_floorMod_7cf53
set_option maxRecDepth 20000 in
theorem ggX0_goHour_X0_pour : GoodIn wsX0_goHour wsX0_pour := goodIn_r _ [11, 12, 13, 14, 15, 16, 17, 72, 73, 74, 75, 76, 77, 78, 79, 80, 81, 82, 83, 84, 85, 86, 87, 88, 89] (by decide +kernel) (by decide +kernel)
set_option maxRecDepth 20000 in
theorem gX0_goHour_X0_pour : GoodIn wsX0_goHour (wsV RX0 85 RX0 yX0_pour wsX0_pour) := goodIn_app (goodIn_of _ (by decide +kernel)) ggX0_goHour_X0_pour
set_option maxRecDepth 20000 in
theorem ggX0_goHour_X0_turnMill : GoodIn wsX0_goHour wsX0_turnMill := goodIn_r _ [21, 22, 12, 23, 13, 14, 15, 16, 24, 25, 7, 8, 9, 10, 11, 17, 72, 73, 74, 75, 76, 77, 78, 79, 80, 81, 82, 83, 84, 85, 86, 87, 88, 89] (by decide +kernel) (by decide +kernel)
set_option maxRecDepth 20000 in
theorem gX0_goHour_X0_turnMill : GoodIn wsX0_goHour (wsV RX0 89 RX0 yX0_turnMill wsX0_turnMill) := goodIn_app (goodIn_of _ (by decide +kernel)) ggX0_goHour_X0_turnMill
set_option maxRecDepth 20000 in
theorem ggX0_goHour_X0_nextBarge : GoodIn wsX0_goHour wsX0_nextBarge := goodIn_r _ [29, 30, 31, 32, 33, 10, 34, 35, 36, 37, 38, 39, 40, 41, 42, 43, 44, 45, 46, 47, 48, 49, 50, 51, 52, 53, 54, 55, 56, 57, 58, 59, 60, 12, 72, 73, 74, 75, 76, 77, 78, 79, 80, 81, 82, 83, 84, 85, 86, 87, 88, 89] (by decide +kernel) (by decide +kernel)
set_option maxRecDepth 20000 in
theorem gX0_goHour_X0_nextBarge : GoodIn wsX0_goHour (wsV RX0 92 RX0 yX0_nextBarge wsX0_nextBarge) := goodIn_app (goodIn_of _ (by decide +kernel)) ggX0_goHour_X0_nextBarge
set_option maxRecDepth 20000 in
theorem ggX0_goHour_X0_serve : GoodIn wsX0_goHour wsX0_serve := goodIn_r _ [64, 35, 49, 50, 25, 65, 66, 53, 54, 55, 10, 56, 52, 41, 42, 43, 44, 40, 67, 68, 69, 70, 12, 71, 7, 8, 9, 11, 13, 14, 15, 16, 17, 72, 73, 74, 75, 76, 77, 78, 79, 80, 81, 82, 83, 84, 85, 86, 87, 88, 89] (by decide +kernel) (by decide +kernel)
set_option maxRecDepth 20000 in
theorem gX0_goHour_X0_serve : GoodIn wsX0_goHour (wsV RX0 95 RX0 yX0_serve wsX0_serve) := goodIn_app (goodIn_of _ (by decide +kernel)) ggX0_goHour_X0_serve
theorem dX0_goHour_0 : decode cX0_goHour 0 = .ok (.aload_n 0, 1) := by decide +kernel
theorem dX0_goHour_1 : decode cX0_goHour 1 = .ok (.iconst 5, 1) := by decide +kernel
theorem dX0_goHour_2 : decode cX0_goHour 2 = .ok (.aload_n 0, 1) := by decide +kernel
theorem dX0_goHour_3 : decode cX0_goHour 3 = .ok (.getfield 21, 3) := by decide +kernel
theorem dX0_goHour_6 : decode cX0_goHour 6 = .ok (.aload_n 0, 1) := by decide +kernel
theorem dX0_goHour_7 : decode cX0_goHour 7 = .ok (.getfield 56, 3) := by decide +kernel
theorem dX0_goHour_10 : decode cX0_goHour 10 = .ok (.bipush 8, 2) := by decide +kernel
theorem dX0_goHour_12 : decode cX0_goHour 12 = .ok (.invokestatic 79, 3) := by decide +kernel
theorem dX0_goHour_15 : decode cX0_goHour 15 = .ok (.iaload, 1) := by decide +kernel
theorem dX0_goHour_16 : decode cX0_goHour 16 = .ok (.invokevirtual 85, 3) := by decide +kernel
theorem dX0_goHour_19 : decode cX0_goHour 19 = .ok (.aload_n 0, 1) := by decide +kernel
theorem dX0_goHour_20 : decode cX0_goHour 20 = .ok (.invokevirtual 89, 3) := by decide +kernel
theorem dX0_goHour_23 : decode cX0_goHour 23 = .ok (.iconst 0, 1) := by decide +kernel
theorem dX0_goHour_24 : decode cX0_goHour 24 = .ok (.istore_n 1, 1) := by decide +kernel
theorem dX0_goHour_25 : decode cX0_goHour 25 = .ok (.iconst 0, 1) := by decide +kernel
theorem dX0_goHour_26 : decode cX0_goHour 26 = .ok (.istore_n 2, 1) := by decide +kernel
theorem dX0_goHour_27 : decode cX0_goHour 27 = .ok (.iconst 4, 1) := by decide +kernel
theorem dX0_goHour_28 : decode cX0_goHour 28 = .ok (.istore_n 3, 1) := by decide +kernel
theorem dX0_goHour_29 : decode cX0_goHour 29 = .ok (.iload_n 3, 1) := by decide +kernel
theorem dX0_goHour_30 : decode cX0_goHour 30 = .ok (.ifCond .lt 40, 3) := by decide +kernel
theorem dX0_goHour_33 : decode cX0_goHour 33 = .ok (.aload_n 0, 1) := by decide +kernel
theorem dX0_goHour_34 : decode cX0_goHour 34 = .ok (.iload_n 3, 1) := by decide +kernel
theorem dX0_goHour_35 : decode cX0_goHour 35 = .ok (.iload_n 2, 1) := by decide +kernel
theorem dX0_goHour_36 : decode cX0_goHour 36 = .ok (.invokevirtual 92, 3) := by decide +kernel
theorem dX0_goHour_39 : decode cX0_goHour 39 = .ok (.istore 4, 2) := by decide +kernel
theorem dX0_goHour_41 : decode cX0_goHour 41 = .ok (.iload 4, 2) := by decide +kernel
theorem dX0_goHour_43 : decode cX0_goHour 43 = .ok (.iconst (-1), 1) := by decide +kernel
theorem dX0_goHour_44 : decode cX0_goHour 44 = .ok (.if_icmp .eq 20, 3) := by decide +kernel
theorem dX0_goHour_47 : decode cX0_goHour 47 = .ok (.aload_n 0, 1) := by decide +kernel
theorem dX0_goHour_48 : decode cX0_goHour 48 = .ok (.iload_n 3, 1) := by decide +kernel
theorem dX0_goHour_49 : decode cX0_goHour 49 = .ok (.iload 4, 2) := by decide +kernel
theorem dX0_goHour_51 : decode cX0_goHour 51 = .ok (.invokevirtual 95, 3) := by decide +kernel
theorem dX0_goHour_54 : decode cX0_goHour 54 = .ok (.iload_n 2, 1) := by decide +kernel
theorem dX0_goHour_55 : decode cX0_goHour 55 = .ok (.iconst 1, 1) := by decide +kernel
theorem dX0_goHour_56 : decode cX0_goHour 56 = .ok (.iload 4, 2) := by decide +kernel
theorem dX0_goHour_58 : decode cX0_goHour 58 = .ok (.ishl, 1) := by decide +kernel
theorem dX0_goHour_59 : decode cX0_goHour 59 = .ok (.ior, 1) := by decide +kernel
theorem dX0_goHour_60 : decode cX0_goHour 60 = .ok (.istore_n 2, 1) := by decide +kernel
theorem dX0_goHour_61 : decode cX0_goHour 61 = .ok (.iinc 1 1, 3) := by decide +kernel
theorem dX0_goHour_64 : decode cX0_goHour 64 = .ok (.iinc 3 (-1), 3) := by decide +kernel
theorem dX0_goHour_67 : decode cX0_goHour 67 = .ok (.goto (-38), 3) := by decide +kernel
theorem dX0_goHour_70 : decode cX0_goHour 70 = .ok (.aload_n 0, 1) := by decide +kernel
theorem dX0_goHour_71 : decode cX0_goHour 71 = .ok (.dup, 1) := by decide +kernel
theorem dX0_goHour_72 : decode cX0_goHour 72 = .ok (.getfield 56, 3) := by decide +kernel
theorem dX0_goHour_75 : decode cX0_goHour 75 = .ok (.iconst 1, 1) := by decide +kernel
theorem dX0_goHour_76 : decode cX0_goHour 76 = .ok (.iadd, 1) := by decide +kernel
theorem dX0_goHour_77 : decode cX0_goHour 77 = .ok (.putfield 56, 3) := by decide +kernel
theorem dX0_goHour_80 : decode cX0_goHour 80 = .ok (.iload_n 1, 1) := by decide +kernel
theorem dX0_goHour_81 : decode cX0_goHour 81 = .ok (.ireturn, 1) := by decide +kernel
theorem dX0_pour_0 : decode cX0_pour 0 = .ok (.iload_n 2, 1) := by decide +kernel
theorem dX0_pour_1 : decode cX0_pour 1 = .ok (.istore_n 3, 1) := by decide +kernel
theorem dX0_pour_2 : decode cX0_pour 2 = .ok (.iload_n 1, 1) := by decide +kernel
theorem dX0_pour_3 : decode cX0_pour 3 = .ok (.istore 4, 2) := by decide +kernel
theorem dX0_pour_5 : decode cX0_pour 5 = .ok (.iload 4, 2) := by decide +kernel
theorem dX0_pour_7 : decode cX0_pour 7 = .ok (.ifCond .lt 60, 3) := by decide +kernel
theorem dX0_pour_10 : decode cX0_pour 10 = .ok (.iload_n 3, 1) := by decide +kernel
theorem dX0_pour_11 : decode cX0_pour 11 = .ok (.ifCond .le 56, 3) := by decide +kernel
theorem dX0_pour_14 : decode cX0_pour 14 = .ok (.aload_n 0, 1) := by decide +kernel
theorem dX0_pour_15 : decode cX0_pour 15 = .ok (.getfield 25, 3) := by decide +kernel
theorem dX0_pour_18 : decode cX0_pour 18 = .ok (.iload 4, 2) := by decide +kernel
theorem dX0_pour_20 : decode cX0_pour 20 = .ok (.iaload, 1) := by decide +kernel
theorem dX0_pour_21 : decode cX0_pour 21 = .ok (.iload_n 3, 1) := by decide +kernel
theorem dX0_pour_22 : decode cX0_pour 22 = .ok (.iadd, 1) := by decide +kernel
theorem dX0_pour_23 : decode cX0_pour 23 = .ok (.istore 5, 2) := by decide +kernel
theorem dX0_pour_25 : decode cX0_pour 25 = .ok (.aload_n 0, 1) := by decide +kernel
theorem dX0_pour_26 : decode cX0_pour 26 = .ok (.getfield 25, 3) := by decide +kernel
theorem dX0_pour_29 : decode cX0_pour 29 = .ok (.iload 4, 2) := by decide +kernel
theorem dX0_pour_31 : decode cX0_pour 31 = .ok (.iload 5, 2) := by decide +kernel
theorem dX0_pour_33 : decode cX0_pour 33 = .ok (.bipush 100, 2) := by decide +kernel
theorem dX0_pour_35 : decode cX0_pour 35 = .ok (.invokestatic 98, 3) := by decide +kernel
theorem dX0_pour_38 : decode cX0_pour 38 = .ok (.iastore, 1) := by decide +kernel
theorem dX0_pour_39 : decode cX0_pour 39 = .ok (.iload 5, 2) := by decide +kernel
theorem dX0_pour_41 : decode cX0_pour 41 = .ok (.aload_n 0, 1) := by decide +kernel
theorem dX0_pour_42 : decode cX0_pour 42 = .ok (.getfield 25, 3) := by decide +kernel
theorem dX0_pour_45 : decode cX0_pour 45 = .ok (.iload 4, 2) := by decide +kernel
theorem dX0_pour_47 : decode cX0_pour 47 = .ok (.iaload, 1) := by decide +kernel
theorem dX0_pour_48 : decode cX0_pour 48 = .ok (.isub, 1) := by decide +kernel
theorem dX0_pour_49 : decode cX0_pour 49 = .ok (.istore_n 3, 1) := by decide +kernel
theorem dX0_pour_50 : decode cX0_pour 50 = .ok (.aload_n 0, 1) := by decide +kernel
theorem dX0_pour_51 : decode cX0_pour 51 = .ok (.getfield 28, 3) := by decide +kernel
theorem dX0_pour_54 : decode cX0_pour 54 = .ok (.iload 4, 2) := by decide +kernel
theorem dX0_pour_56 : decode cX0_pour 56 = .ok (.dup2, 1) := by decide +kernel
theorem dX0_pour_57 : decode cX0_pour 57 = .ok (.iaload, 1) := by decide +kernel
theorem dX0_pour_58 : decode cX0_pour 58 = .ok (.iload_n 3, 1) := by decide +kernel
theorem dX0_pour_59 : decode cX0_pour 59 = .ok (.iadd, 1) := by decide +kernel
theorem dX0_pour_60 : decode cX0_pour 60 = .ok (.iastore, 1) := by decide +kernel
theorem dX0_pour_61 : decode cX0_pour 61 = .ok (.iinc 4 (-1), 3) := by decide +kernel
theorem dX0_pour_64 : decode cX0_pour 64 = .ok (.goto (-59), 3) := by decide +kernel
theorem dX0_pour_67 : decode cX0_pour 67 = .ok (.return_, 1) := by decide +kernel
set_option maxRecDepth 20000 in
theorem ggX0_turnMill_X0_pour : GoodIn wsX0_turnMill wsX0_pour := goodIn_r _ [14, 2, 4, 5, 6, 7, 15, 16, 17, 18, 19, 20, 21, 22, 23, 24, 25, 26, 27, 28, 29, 30, 31, 32, 33] (by decide +kernel) (by decide +kernel)
set_option maxRecDepth 20000 in
theorem gX0_turnMill_X0_pour : GoodIn wsX0_turnMill (wsV RX0 85 RX0 yX0_pour wsX0_pour) := goodIn_app (goodIn_of _ (by decide +kernel)) ggX0_turnMill_X0_pour
theorem dX0_turnMill_0 : decode cX0_turnMill 0 = .ok (.aload_n 0, 1) := by decide +kernel
theorem dX0_turnMill_1 : decode cX0_turnMill 1 = .ok (.getfield 15, 3) := by decide +kernel
theorem dX0_turnMill_4 : decode cX0_turnMill 4 = .ok (.istore_n 1, 1) := by decide +kernel
theorem dX0_turnMill_5 : decode cX0_turnMill 5 = .ok (.iload_n 1, 1) := by decide +kernel
theorem dX0_turnMill_6 : decode cX0_turnMill 6 = .ok (.iconst (-1), 1) := by decide +kernel
theorem dX0_turnMill_7 : decode cX0_turnMill 7 = .ok (.if_icmp .eq 16, 3) := by decide +kernel
theorem dX0_turnMill_10 : decode cX0_turnMill 10 = .ok (.aload_n 0, 1) := by decide +kernel
theorem dX0_turnMill_11 : decode cX0_turnMill 11 = .ok (.getfield 25, 3) := by decide +kernel
theorem dX0_turnMill_14 : decode cX0_turnMill 14 = .ok (.iload_n 1, 1) := by decide +kernel
theorem dX0_turnMill_15 : decode cX0_turnMill 15 = .ok (.iaload, 1) := by decide +kernel
theorem dX0_turnMill_16 : decode cX0_turnMill 16 = .ok (.aload_n 0, 1) := by decide +kernel
theorem dX0_turnMill_17 : decode cX0_turnMill 17 = .ok (.getfield 18, 3) := by decide +kernel
theorem dX0_turnMill_20 : decode cX0_turnMill 20 = .ok (.if_icmp .gt 4, 3) := by decide +kernel
theorem dX0_turnMill_23 : decode cX0_turnMill 23 = .ok (.return_, 1) := by decide +kernel
theorem dX0_turnMill_24 : decode cX0_turnMill 24 = .ok (.aload_n 0, 1) := by decide +kernel
theorem dX0_turnMill_25 : decode cX0_turnMill 25 = .ok (.getfield 25, 3) := by decide +kernel
theorem dX0_turnMill_28 : decode cX0_turnMill 28 = .ok (.iload_n 1, 1) := by decide +kernel
theorem dX0_turnMill_29 : decode cX0_turnMill 29 = .ok (.iaload, 1) := by decide +kernel
theorem dX0_turnMill_30 : decode cX0_turnMill 30 = .ok (.aload_n 0, 1) := by decide +kernel
theorem dX0_turnMill_31 : decode cX0_turnMill 31 = .ok (.getfield 18, 3) := by decide +kernel
theorem dX0_turnMill_34 : decode cX0_turnMill 34 = .ok (.isub, 1) := by decide +kernel
theorem dX0_turnMill_35 : decode cX0_turnMill 35 = .ok (.bipush 10, 2) := by decide +kernel
theorem dX0_turnMill_37 : decode cX0_turnMill 37 = .ok (.invokestatic 98, 3) := by decide +kernel
theorem dX0_turnMill_40 : decode cX0_turnMill 40 = .ok (.istore_n 2, 1) := by decide +kernel
theorem dX0_turnMill_41 : decode cX0_turnMill 41 = .ok (.aload_n 0, 1) := by decide +kernel
theorem dX0_turnMill_42 : decode cX0_turnMill 42 = .ok (.getfield 25, 3) := by decide +kernel
theorem dX0_turnMill_45 : decode cX0_turnMill 45 = .ok (.iload_n 1, 1) := by decide +kernel
theorem dX0_turnMill_46 : decode cX0_turnMill 46 = .ok (.dup2, 1) := by decide +kernel
theorem dX0_turnMill_47 : decode cX0_turnMill 47 = .ok (.iaload, 1) := by decide +kernel
theorem dX0_turnMill_48 : decode cX0_turnMill 48 = .ok (.iload_n 2, 1) := by decide +kernel
theorem dX0_turnMill_49 : decode cX0_turnMill 49 = .ok (.isub, 1) := by decide +kernel
theorem dX0_turnMill_50 : decode cX0_turnMill 50 = .ok (.iastore, 1) := by decide +kernel
theorem dX0_turnMill_51 : decode cX0_turnMill 51 = .ok (.aload_n 0, 1) := by decide +kernel
theorem dX0_turnMill_52 : decode cX0_turnMill 52 = .ok (.getfield 31, 3) := by decide +kernel
theorem dX0_turnMill_55 : decode cX0_turnMill 55 = .ok (.iload_n 1, 1) := by decide +kernel
theorem dX0_turnMill_56 : decode cX0_turnMill 56 = .ok (.dup2, 1) := by decide +kernel
theorem dX0_turnMill_57 : decode cX0_turnMill 57 = .ok (.iaload, 1) := by decide +kernel
theorem dX0_turnMill_58 : decode cX0_turnMill 58 = .ok (.iload_n 2, 1) := by decide +kernel
theorem dX0_turnMill_59 : decode cX0_turnMill 59 = .ok (.iadd, 1) := by decide +kernel
theorem dX0_turnMill_60 : decode cX0_turnMill 60 = .ok (.iastore, 1) := by decide +kernel
theorem dX0_turnMill_61 : decode cX0_turnMill 61 = .ok (.aload_n 0, 1) := by decide +kernel
theorem dX0_turnMill_62 : decode cX0_turnMill 62 = .ok (.dup, 1) := by decide +kernel
theorem dX0_turnMill_63 : decode cX0_turnMill 63 = .ok (.getfield 59, 3) := by decide +kernel
theorem dX0_turnMill_66 : decode cX0_turnMill 66 = .ok (.iload_n 2, 1) := by decide +kernel
theorem dX0_turnMill_67 : decode cX0_turnMill 67 = .ok (.iconst 5, 1) := by decide +kernel
theorem dX0_turnMill_68 : decode cX0_turnMill 68 = .ok (.idiv, 1) := by decide +kernel
theorem dX0_turnMill_69 : decode cX0_turnMill 69 = .ok (.iadd, 1) := by decide +kernel
theorem dX0_turnMill_70 : decode cX0_turnMill 70 = .ok (.putfield 59, 3) := by decide +kernel
theorem dX0_turnMill_73 : decode cX0_turnMill 73 = .ok (.aload_n 0, 1) := by decide +kernel
theorem dX0_turnMill_74 : decode cX0_turnMill 74 = .ok (.iload_n 1, 1) := by decide +kernel
theorem dX0_turnMill_75 : decode cX0_turnMill 75 = .ok (.iconst 1, 1) := by decide +kernel
theorem dX0_turnMill_76 : decode cX0_turnMill 76 = .ok (.isub, 1) := by decide +kernel
theorem dX0_turnMill_77 : decode cX0_turnMill 77 = .ok (.iload_n 2, 1) := by decide +kernel
theorem dX0_turnMill_78 : decode cX0_turnMill 78 = .ok (.invokevirtual 85, 3) := by decide +kernel
theorem dX0_turnMill_81 : decode cX0_turnMill 81 = .ok (.return_, 1) := by decide +kernel
set_option maxRecDepth 20000 in
theorem ggX0_nextBarge_X0_waitsAt : GoodIn wsX0_nextBarge wsX0_waitsAt := goodIn_r _ [6, 7, 8, 9, 10, 5, 11, 12, 13, 14, 15, 16, 34, 35, 36, 37, 38, 39, 40, 41, 42, 43, 44, 45, 46, 47, 48, 49, 50, 51] (by decide +kernel) (by decide +kernel)
set_option maxRecDepth 20000 in
theorem gX0_nextBarge_X0_waitsAt : GoodIn wsX0_nextBarge (wsV RX0 101 RX0 yX0_waitsAt wsX0_waitsAt) := goodIn_app (goodIn_of _ (by decide +kernel)) ggX0_nextBarge_X0_waitsAt
set_option maxRecDepth 20000 in
theorem ggX0_nextBarge_X0_canServe : GoodIn wsX0_nextBarge wsX0_canServe := goodIn_r _ [20, 21, 22, 23, 24, 25, 26, 27, 5, 28, 13, 14, 15, 16, 12, 7, 29, 30, 31, 32, 33, 34, 35, 36, 37, 38, 39, 40, 41, 42, 43, 44, 45, 46, 47, 48, 49, 50, 51] (by decide +kernel) (by decide +kernel)
set_option maxRecDepth 20000 in
theorem gX0_nextBarge_X0_canServe : GoodIn wsX0_nextBarge (wsV RX0 105 RX0 yX0_canServe wsX0_canServe) := goodIn_app (goodIn_of _ (by decide +kernel)) ggX0_nextBarge_X0_canServe
set_option maxRecDepth 20000 in
theorem ggX0_nextBarge_X0_fits : GoodIn wsX0_nextBarge wsX0_fits := goodIn_r _ [28, 24, 13, 14, 15, 5, 16, 12, 7, 34, 35, 36, 37, 38, 39, 40, 41, 42, 43, 44, 45, 46, 47, 48, 49, 50, 51] (by decide +kernel) (by decide +kernel)
set_option maxRecDepth 20000 in
theorem gX0_nextBarge_X0_fits : GoodIn wsX0_nextBarge (wsV RX0 109 RX0 yX0_fits wsX0_fits) := goodIn_app (goodIn_of _ (by decide +kernel)) ggX0_nextBarge_X0_fits
theorem dX0_nextBarge_0 : decode cX0_nextBarge 0 = .ok (.iconst (-1), 1) := by decide +kernel
theorem dX0_nextBarge_1 : decode cX0_nextBarge 1 = .ok (.istore_n 3, 1) := by decide +kernel
theorem dX0_nextBarge_2 : decode cX0_nextBarge 2 = .ok (.iconst 0, 1) := by decide +kernel
theorem dX0_nextBarge_3 : decode cX0_nextBarge 3 = .ok (.istore 4, 2) := by decide +kernel
theorem dX0_nextBarge_5 : decode cX0_nextBarge 5 = .ok (.iload 4, 2) := by decide +kernel
theorem dX0_nextBarge_7 : decode cX0_nextBarge 7 = .ok (.aload_n 0, 1) := by decide +kernel
theorem dX0_nextBarge_8 : decode cX0_nextBarge 8 = .ok (.getfield 72, 3) := by decide +kernel
theorem dX0_nextBarge_11 : decode cX0_nextBarge 11 = .ok (.if_icmp .ge 71, 3) := by decide +kernel
theorem dX0_nextBarge_14 : decode cX0_nextBarge 14 = .ok (.aload_n 0, 1) := by decide +kernel
theorem dX0_nextBarge_15 : decode cX0_nextBarge 15 = .ok (.iload 4, 2) := by decide +kernel
theorem dX0_nextBarge_17 : decode cX0_nextBarge 17 = .ok (.invokevirtual 101, 3) := by decide +kernel
theorem dX0_nextBarge_20 : decode cX0_nextBarge 20 = .ok (.iload_n 1, 1) := by decide +kernel
theorem dX0_nextBarge_21 : decode cX0_nextBarge 21 = .ok (.if_icmp .ne 16, 3) := by decide +kernel
theorem dX0_nextBarge_24 : decode cX0_nextBarge 24 = .ok (.iload_n 2, 1) := by decide +kernel
theorem dX0_nextBarge_25 : decode cX0_nextBarge 25 = .ok (.iload 4, 2) := by decide +kernel
theorem dX0_nextBarge_27 : decode cX0_nextBarge 27 = .ok (.ishr, 1) := by decide +kernel
theorem dX0_nextBarge_28 : decode cX0_nextBarge 28 = .ok (.iconst 1, 1) := by decide +kernel
theorem dX0_nextBarge_29 : decode cX0_nextBarge 29 = .ok (.iand, 1) := by decide +kernel
theorem dX0_nextBarge_30 : decode cX0_nextBarge 30 = .ok (.ifCond .ne 7, 3) := by decide +kernel
theorem dX0_nextBarge_33 : decode cX0_nextBarge 33 = .ok (.iconst 1, 1) := by decide +kernel
theorem dX0_nextBarge_34 : decode cX0_nextBarge 34 = .ok (.goto 4, 3) := by decide +kernel
theorem dX0_nextBarge_37 : decode cX0_nextBarge 37 = .ok (.iconst 0, 1) := by decide +kernel
theorem dX0_nextBarge_38 : decode cX0_nextBarge 38 = .ok (.istore 5, 2) := by decide +kernel
theorem dX0_nextBarge_40 : decode cX0_nextBarge 40 = .ok (.iload 5, 2) := by decide +kernel
theorem dX0_nextBarge_42 : decode cX0_nextBarge 42 = .ok (.ifCond .eq 34, 3) := by decide +kernel
theorem dX0_nextBarge_45 : decode cX0_nextBarge 45 = .ok (.aload_n 0, 1) := by decide +kernel
theorem dX0_nextBarge_46 : decode cX0_nextBarge 46 = .ok (.iload_n 1, 1) := by decide +kernel
theorem dX0_nextBarge_47 : decode cX0_nextBarge 47 = .ok (.iload 4, 2) := by decide +kernel
theorem dX0_nextBarge_49 : decode cX0_nextBarge 49 = .ok (.invokevirtual 105, 3) := by decide +kernel
theorem dX0_nextBarge_52 : decode cX0_nextBarge 52 = .ok (.ifCond .eq 24, 3) := by decide +kernel
theorem dX0_nextBarge_55 : decode cX0_nextBarge 55 = .ok (.aload_n 0, 1) := by decide +kernel
theorem dX0_nextBarge_56 : decode cX0_nextBarge 56 = .ok (.iload_n 1, 1) := by decide +kernel
theorem dX0_nextBarge_57 : decode cX0_nextBarge 57 = .ok (.iload 4, 2) := by decide +kernel
theorem dX0_nextBarge_59 : decode cX0_nextBarge 59 = .ok (.invokevirtual 109, 3) := by decide +kernel
theorem dX0_nextBarge_62 : decode cX0_nextBarge 62 = .ok (.ifCond .eq 6, 3) := by decide +kernel
theorem dX0_nextBarge_65 : decode cX0_nextBarge 65 = .ok (.iload 4, 2) := by decide +kernel
theorem dX0_nextBarge_67 : decode cX0_nextBarge 67 = .ok (.ireturn, 1) := by decide +kernel
theorem dX0_nextBarge_68 : decode cX0_nextBarge 68 = .ok (.iload_n 3, 1) := by decide +kernel
theorem dX0_nextBarge_69 : decode cX0_nextBarge 69 = .ok (.iconst (-1), 1) := by decide +kernel
theorem dX0_nextBarge_70 : decode cX0_nextBarge 70 = .ok (.if_icmp .ne 6, 3) := by decide +kernel
theorem dX0_nextBarge_73 : decode cX0_nextBarge 73 = .ok (.iload 4, 2) := by decide +kernel
theorem dX0_nextBarge_75 : decode cX0_nextBarge 75 = .ok (.istore_n 3, 1) := by decide +kernel
theorem dX0_nextBarge_76 : decode cX0_nextBarge 76 = .ok (.iinc 4 1, 3) := by decide +kernel
theorem dX0_nextBarge_79 : decode cX0_nextBarge 79 = .ok (.goto (-74), 3) := by decide +kernel
theorem dX0_nextBarge_82 : decode cX0_nextBarge 82 = .ok (.iload_n 3, 1) := by decide +kernel
theorem dX0_nextBarge_83 : decode cX0_nextBarge 83 = .ok (.ireturn, 1) := by decide +kernel
set_option maxRecDepth 20000 in
theorem ggX0_canServe_X0_fits : GoodIn wsX0_canServe wsX0_fits := goodIn_r _ [9, 4, 10, 11, 12, 8, 13, 14, 15, 21, 22, 23, 24, 25, 26, 27, 28, 29, 30, 31, 32, 33, 34, 35, 36, 37, 38] (by decide +kernel) (by decide +kernel)
set_option maxRecDepth 20000 in
theorem gX0_canServe_X0_fits : GoodIn wsX0_canServe (wsV RX0 109 RX0 yX0_fits wsX0_fits) := goodIn_app (goodIn_of _ (by decide +kernel)) ggX0_canServe_X0_fits
set_option maxRecDepth 20000 in
theorem ggX0_canServe_X0_goesDown : GoodIn wsX0_canServe wsX0_goesDown := goodIn_r _ [13, 14, 15, 21, 22, 23, 24, 25, 26, 27, 28, 29, 30, 31, 32, 33, 34, 35, 36, 37, 38] (by decide +kernel) (by decide +kernel)
set_option maxRecDepth 20000 in
theorem gX0_canServe_X0_goesDown : GoodIn wsX0_canServe (wsV RX0 112 RX0 yX0_goesDown wsX0_goesDown) := goodIn_app (goodIn_of _ (by decide +kernel)) ggX0_canServe_X0_goesDown
set_option maxRecDepth 20000 in
theorem ggX0_canServe_X0_canFill : GoodIn wsX0_canServe wsX0_canFill := goodIn_r _ [19, 20, 21, 22, 23, 24, 25, 26, 27, 28, 29, 30, 31, 32, 33, 34, 35, 36, 37, 38] (by decide +kernel) (by decide +kernel)
set_option maxRecDepth 20000 in
theorem gX0_canServe_X0_canFill : GoodIn wsX0_canServe (wsV RX0 116 RX0 yX0_canFill wsX0_canFill) := goodIn_app (goodIn_of _ (by decide +kernel)) ggX0_canServe_X0_canFill
theorem dX0_canServe_0 : decode cX0_canServe 0 = .ok (.aload_n 0, 1) := by decide +kernel
theorem dX0_canServe_1 : decode cX0_canServe 1 = .ok (.getfield 50, 3) := by decide +kernel
theorem dX0_canServe_4 : decode cX0_canServe 4 = .ok (.iload_n 2, 1) := by decide +kernel
theorem dX0_canServe_5 : decode cX0_canServe 5 = .ok (.iaload, 1) := by decide +kernel
theorem dX0_canServe_6 : decode cX0_canServe 6 = .ok (.aload_n 0, 1) := by decide +kernel
theorem dX0_canServe_7 : decode cX0_canServe 7 = .ok (.getfield 9, 3) := by decide +kernel
theorem dX0_canServe_10 : decode cX0_canServe 10 = .ok (.if_icmp .ge 5, 3) := by decide +kernel
theorem dX0_canServe_13 : decode cX0_canServe 13 = .ok (.iconst 0, 1) := by decide +kernel
theorem dX0_canServe_14 : decode cX0_canServe 14 = .ok (.ireturn, 1) := by decide +kernel
theorem dX0_canServe_15 : decode cX0_canServe 15 = .ok (.aload_n 0, 1) := by decide +kernel
theorem dX0_canServe_16 : decode cX0_canServe 16 = .ok (.getfield 62, 3) := by decide +kernel
theorem dX0_canServe_19 : decode cX0_canServe 19 = .ok (.ifCond .eq 14, 3) := by decide +kernel
theorem dX0_canServe_22 : decode cX0_canServe 22 = .ok (.aload_n 0, 1) := by decide +kernel
theorem dX0_canServe_23 : decode cX0_canServe 23 = .ok (.iload_n 1, 1) := by decide +kernel
theorem dX0_canServe_24 : decode cX0_canServe 24 = .ok (.iload_n 2, 1) := by decide +kernel
theorem dX0_canServe_25 : decode cX0_canServe 25 = .ok (.invokevirtual 109, 3) := by decide +kernel
theorem dX0_canServe_28 : decode cX0_canServe 28 = .ok (.ifCond .ne 5, 3) := by decide +kernel
theorem dX0_canServe_31 : decode cX0_canServe 31 = .ok (.iconst 0, 1) := by decide +kernel
theorem dX0_canServe_32 : decode cX0_canServe 32 = .ok (.ireturn, 1) := by decide +kernel
theorem dX0_canServe_33 : decode cX0_canServe 33 = .ok (.aload_n 0, 1) := by decide +kernel
theorem dX0_canServe_34 : decode cX0_canServe 34 = .ok (.iload_n 2, 1) := by decide +kernel
theorem dX0_canServe_35 : decode cX0_canServe 35 = .ok (.invokevirtual 112, 3) := by decide +kernel
theorem dX0_canServe_38 : decode cX0_canServe 38 = .ok (.ifCond .eq 12, 3) := by decide +kernel
theorem dX0_canServe_41 : decode cX0_canServe 41 = .ok (.aload_n 0, 1) := by decide +kernel
theorem dX0_canServe_42 : decode cX0_canServe 42 = .ok (.getfield 34, 3) := by decide +kernel
theorem dX0_canServe_45 : decode cX0_canServe 45 = .ok (.iload_n 1, 1) := by decide +kernel
theorem dX0_canServe_46 : decode cX0_canServe 46 = .ok (.baload, 1) := by decide +kernel
theorem dX0_canServe_47 : decode cX0_canServe 47 = .ok (.ifCond .ne 7, 3) := by decide +kernel
theorem dX0_canServe_50 : decode cX0_canServe 50 = .ok (.iconst 1, 1) := by decide +kernel
theorem dX0_canServe_51 : decode cX0_canServe 51 = .ok (.goto 4, 3) := by decide +kernel
theorem dX0_canServe_54 : decode cX0_canServe 54 = .ok (.iconst 0, 1) := by decide +kernel
theorem dX0_canServe_55 : decode cX0_canServe 55 = .ok (.istore_n 3, 1) := by decide +kernel
theorem dX0_canServe_56 : decode cX0_canServe 56 = .ok (.iload_n 3, 1) := by decide +kernel
theorem dX0_canServe_57 : decode cX0_canServe 57 = .ok (.ifCond .eq 11, 3) := by decide +kernel
theorem dX0_canServe_60 : decode cX0_canServe 60 = .ok (.aload_n 0, 1) := by decide +kernel
theorem dX0_canServe_61 : decode cX0_canServe 61 = .ok (.iload_n 1, 1) := by decide +kernel
theorem dX0_canServe_62 : decode cX0_canServe 62 = .ok (.invokevirtual 116, 3) := by decide +kernel
theorem dX0_canServe_65 : decode cX0_canServe 65 = .ok (.ifCond .eq 7, 3) := by decide +kernel
theorem dX0_canServe_68 : decode cX0_canServe 68 = .ok (.iconst 1, 1) := by decide +kernel
theorem dX0_canServe_69 : decode cX0_canServe 69 = .ok (.goto 4, 3) := by decide +kernel
theorem dX0_canServe_72 : decode cX0_canServe 72 = .ok (.iconst 0, 1) := by decide +kernel
theorem dX0_canServe_73 : decode cX0_canServe 73 = .ok (.ireturn, 1) := by decide +kernel
theorem dX0_canFill_0 : decode cX0_canFill 0 = .ok (.aload_n 0, 1) := by decide +kernel
theorem dX0_canFill_1 : decode cX0_canFill 1 = .ok (.getfield 25, 3) := by decide +kernel
theorem dX0_canFill_4 : decode cX0_canFill 4 = .ok (.iload_n 1, 1) := by decide +kernel
theorem dX0_canFill_5 : decode cX0_canFill 5 = .ok (.iconst 1, 1) := by decide +kernel
theorem dX0_canFill_6 : decode cX0_canFill 6 = .ok (.iadd, 1) := by decide +kernel
theorem dX0_canFill_7 : decode cX0_canFill 7 = .ok (.iaload, 1) := by decide +kernel
theorem dX0_canFill_8 : decode cX0_canFill 8 = .ok (.bipush 32, 2) := by decide +kernel
theorem dX0_canFill_10 : decode cX0_canFill 10 = .ok (.if_icmp .lt 7, 3) := by decide +kernel
theorem dX0_canFill_13 : decode cX0_canFill 13 = .ok (.iconst 1, 1) := by decide +kernel
theorem dX0_canFill_14 : decode cX0_canFill 14 = .ok (.goto 4, 3) := by decide +kernel
theorem dX0_canFill_17 : decode cX0_canFill 17 = .ok (.iconst 0, 1) := by decide +kernel
theorem dX0_canFill_18 : decode cX0_canFill 18 = .ok (.ireturn, 1) := by decide +kernel
set_option maxRecDepth 20000 in
theorem ggX0_fits_X0_goesDown : GoodIn wsX0_fits wsX0_goesDown := goodIn_r _ [6, 7, 8, 9, 10, 11, 12, 13, 14, 15, 16, 17, 18, 19, 20, 21, 22, 23, 24, 25, 26] (by decide +kernel) (by decide +kernel)
set_option maxRecDepth 20000 in
theorem gX0_fits_X0_goesDown : GoodIn wsX0_fits (wsV RX0 112 RX0 yX0_goesDown wsX0_goesDown) := goodIn_app (goodIn_of _ (by decide +kernel)) ggX0_fits_X0_goesDown
theorem dX0_fits_0 : decode cX0_fits 0 = .ok (.aload_n 0, 1) := by decide +kernel
theorem dX0_fits_1 : decode cX0_fits 1 = .ok (.getfield 34, 3) := by decide +kernel
theorem dX0_fits_4 : decode cX0_fits 4 = .ok (.iload_n 1, 1) := by decide +kernel
theorem dX0_fits_5 : decode cX0_fits 5 = .ok (.baload, 1) := by decide +kernel
theorem dX0_fits_6 : decode cX0_fits 6 = .ok (.aload_n 0, 1) := by decide +kernel
theorem dX0_fits_7 : decode cX0_fits 7 = .ok (.iload_n 2, 1) := by decide +kernel
theorem dX0_fits_8 : decode cX0_fits 8 = .ok (.invokevirtual 112, 3) := by decide +kernel
theorem dX0_fits_11 : decode cX0_fits 11 = .ok (.if_icmp .ne 7, 3) := by decide +kernel
theorem dX0_fits_14 : decode cX0_fits 14 = .ok (.iconst 1, 1) := by decide +kernel
theorem dX0_fits_15 : decode cX0_fits 15 = .ok (.goto 4, 3) := by decide +kernel
theorem dX0_fits_18 : decode cX0_fits 18 = .ok (.iconst 0, 1) := by decide +kernel
theorem dX0_fits_19 : decode cX0_fits 19 = .ok (.ireturn, 1) := by decide +kernel
theorem dX0_goesDown_0 : decode cX0_goesDown 0 = .ok (.aload_n 0, 1) := by decide +kernel
theorem dX0_goesDown_1 : decode cX0_goesDown 1 = .ok (.getfield 47, 3) := by decide +kernel
theorem dX0_goesDown_4 : decode cX0_goesDown 4 = .ok (.iload_n 1, 1) := by decide +kernel
theorem dX0_goesDown_5 : decode cX0_goesDown 5 = .ok (.iaload, 1) := by decide +kernel
theorem dX0_goesDown_6 : decode cX0_goesDown 6 = .ok (.aload_n 0, 1) := by decide +kernel
theorem dX0_goesDown_7 : decode cX0_goesDown 7 = .ok (.getfield 44, 3) := by decide +kernel
theorem dX0_goesDown_10 : decode cX0_goesDown 10 = .ok (.iload_n 1, 1) := by decide +kernel
theorem dX0_goesDown_11 : decode cX0_goesDown 11 = .ok (.iaload, 1) := by decide +kernel
theorem dX0_goesDown_12 : decode cX0_goesDown 12 = .ok (.if_icmp .ge 7, 3) := by decide +kernel
theorem dX0_goesDown_15 : decode cX0_goesDown 15 = .ok (.iconst 1, 1) := by decide +kernel
theorem dX0_goesDown_16 : decode cX0_goesDown 16 = .ok (.goto 4, 3) := by decide +kernel
theorem dX0_goesDown_19 : decode cX0_goesDown 19 = .ok (.iconst 0, 1) := by decide +kernel
theorem dX0_goesDown_20 : decode cX0_goesDown 20 = .ok (.ireturn, 1) := by decide +kernel
theorem dX0_hasCome_0 : decode cX0_hasCome 0 = .ok (.aload_n 0, 1) := by decide +kernel
theorem dX0_hasCome_1 : decode cX0_hasCome 1 = .ok (.getfield 44, 3) := by decide +kernel
theorem dX0_hasCome_4 : decode cX0_hasCome 4 = .ok (.iload_n 1, 1) := by decide +kernel
theorem dX0_hasCome_5 : decode cX0_hasCome 5 = .ok (.iaload, 1) := by decide +kernel
theorem dX0_hasCome_6 : decode cX0_hasCome 6 = .ok (.aload_n 0, 1) := by decide +kernel
theorem dX0_hasCome_7 : decode cX0_hasCome 7 = .ok (.getfield 47, 3) := by decide +kernel
theorem dX0_hasCome_10 : decode cX0_hasCome 10 = .ok (.iload_n 1, 1) := by decide +kernel
theorem dX0_hasCome_11 : decode cX0_hasCome 11 = .ok (.iaload, 1) := by decide +kernel
theorem dX0_hasCome_12 : decode cX0_hasCome 12 = .ok (.if_icmp .ne 7, 3) := by decide +kernel
theorem dX0_hasCome_15 : decode cX0_hasCome 15 = .ok (.iconst 1, 1) := by decide +kernel
theorem dX0_hasCome_16 : decode cX0_hasCome 16 = .ok (.goto 4, 3) := by decide +kernel
theorem dX0_hasCome_19 : decode cX0_hasCome 19 = .ok (.iconst 0, 1) := by decide +kernel
theorem dX0_hasCome_20 : decode cX0_hasCome 20 = .ok (.ireturn, 1) := by decide +kernel
set_option maxRecDepth 20000 in
theorem ggX0_waitsAt_X0_hasCome : GoodIn wsX0_waitsAt wsX0_hasCome := goodIn_r _ [6, 1, 7, 12, 13, 14, 15, 16, 17, 18, 19, 20, 21, 22, 23, 24, 25, 26, 27, 28, 29] (by decide +kernel) (by decide +kernel)
set_option maxRecDepth 20000 in
theorem gX0_waitsAt_X0_hasCome : GoodIn wsX0_waitsAt (wsV RX0 119 RX0 yX0_hasCome wsX0_hasCome) := goodIn_app (goodIn_of _ (by decide +kernel)) ggX0_waitsAt_X0_hasCome
set_option maxRecDepth 20000 in
theorem ggX0_waitsAt_X0_goesDown : GoodIn wsX0_waitsAt wsX0_goesDown := goodIn_r _ [11, 7, 1, 12, 13, 14, 15, 16, 17, 18, 19, 20, 21, 22, 23, 24, 25, 26, 27, 28, 29] (by decide +kernel) (by decide +kernel)
set_option maxRecDepth 20000 in
theorem gX0_waitsAt_X0_goesDown : GoodIn wsX0_waitsAt (wsV RX0 112 RX0 yX0_goesDown wsX0_goesDown) := goodIn_app (goodIn_of _ (by decide +kernel)) ggX0_waitsAt_X0_goesDown
theorem dX0_waitsAt_0 : decode cX0_waitsAt 0 = .ok (.aload_n 0, 1) := by decide +kernel
theorem dX0_waitsAt_1 : decode cX0_waitsAt 1 = .ok (.iload_n 1, 1) := by decide +kernel
theorem dX0_waitsAt_2 : decode cX0_waitsAt 2 = .ok (.invokevirtual 119, 3) := by decide +kernel
theorem dX0_waitsAt_5 : decode cX0_waitsAt 5 = .ok (.ifCond .eq 5, 3) := by decide +kernel
theorem dX0_waitsAt_8 : decode cX0_waitsAt 8 = .ok (.iconst (-1), 1) := by decide +kernel
theorem dX0_waitsAt_9 : decode cX0_waitsAt 9 = .ok (.ireturn, 1) := by decide +kernel
theorem dX0_waitsAt_10 : decode cX0_waitsAt 10 = .ok (.aload_n 0, 1) := by decide +kernel
theorem dX0_waitsAt_11 : decode cX0_waitsAt 11 = .ok (.iload_n 1, 1) := by decide +kernel
theorem dX0_waitsAt_12 : decode cX0_waitsAt 12 = .ok (.invokevirtual 112, 3) := by decide +kernel
theorem dX0_waitsAt_15 : decode cX0_waitsAt 15 = .ok (.ifCond .eq 14, 3) := by decide +kernel
theorem dX0_waitsAt_18 : decode cX0_waitsAt 18 = .ok (.aload_n 0, 1) := by decide +kernel
theorem dX0_waitsAt_19 : decode cX0_waitsAt 19 = .ok (.getfield 44, 3) := by decide +kernel
theorem dX0_waitsAt_22 : decode cX0_waitsAt 22 = .ok (.iload_n 1, 1) := by decide +kernel
theorem dX0_waitsAt_23 : decode cX0_waitsAt 23 = .ok (.iaload, 1) := by decide +kernel
theorem dX0_waitsAt_24 : decode cX0_waitsAt 24 = .ok (.iconst 1, 1) := by decide +kernel
theorem dX0_waitsAt_25 : decode cX0_waitsAt 25 = .ok (.isub, 1) := by decide +kernel
theorem dX0_waitsAt_26 : decode cX0_waitsAt 26 = .ok (.goto 9, 3) := by decide +kernel
theorem dX0_waitsAt_29 : decode cX0_waitsAt 29 = .ok (.aload_n 0, 1) := by decide +kernel
theorem dX0_waitsAt_30 : decode cX0_waitsAt 30 = .ok (.getfield 44, 3) := by decide +kernel
theorem dX0_waitsAt_33 : decode cX0_waitsAt 33 = .ok (.iload_n 1, 1) := by decide +kernel
theorem dX0_waitsAt_34 : decode cX0_waitsAt 34 = .ok (.iaload, 1) := by decide +kernel
theorem dX0_waitsAt_35 : decode cX0_waitsAt 35 = .ok (.ireturn, 1) := by decide +kernel
set_option maxRecDepth 20000 in
theorem ggX0_serve_X0_fits : GoodIn wsX0_serve wsX0_fits := goodIn_r _ [11, 12, 13, 14, 15, 10, 16, 17, 1, 33, 34, 35, 36, 37, 38, 39, 40, 41, 42, 43, 44, 45, 46, 47, 48, 49, 50] (by decide +kernel) (by decide +kernel)
set_option maxRecDepth 20000 in
theorem gX0_serve_X0_fits : GoodIn wsX0_serve (wsV RX0 109 RX0 yX0_fits wsX0_fits) := goodIn_app (goodIn_of _ (by decide +kernel)) ggX0_serve_X0_fits
set_option maxRecDepth 20000 in
theorem ggX0_serve_X0_turnChamber : GoodIn wsX0_serve wsX0_turnChamber := goodIn_r _ [21, 12, 22, 23, 24, 25, 26, 10, 27, 28, 29, 30, 31, 32, 33, 34, 35, 36, 37, 38, 39, 40, 41, 42, 43, 44, 45, 46, 47, 48, 49, 50] (by decide +kernel) (by decide +kernel)
set_option maxRecDepth 20000 in
theorem gX0_serve_X0_turnChamber : GoodIn wsX0_serve (wsV RX0 122 RX0 yX0_turnChamber wsX0_turnChamber) := goodIn_app (goodIn_of _ (by decide +kernel)) ggX0_serve_X0_turnChamber
set_option maxRecDepth 20000 in
theorem ggX0_serve_X0_goesDown : GoodIn wsX0_serve wsX0_goesDown := goodIn_r _ [16, 17, 1, 33, 34, 35, 36, 37, 38, 39, 40, 41, 42, 43, 44, 45, 46, 47, 48, 49, 50] (by decide +kernel) (by decide +kernel)
set_option maxRecDepth 20000 in
theorem gX0_serve_X0_goesDown : GoodIn wsX0_serve (wsV RX0 112 RX0 yX0_goesDown wsX0_goesDown) := goodIn_app (goodIn_of _ (by decide +kernel)) ggX0_serve_X0_goesDown
theorem dX0_serve_0 : decode cX0_serve 0 = .ok (.aload_n 0, 1) := by decide +kernel
theorem dX0_serve_1 : decode cX0_serve 1 = .ok (.iload_n 1, 1) := by decide +kernel
theorem dX0_serve_2 : decode cX0_serve 2 = .ok (.iload_n 2, 1) := by decide +kernel
theorem dX0_serve_3 : decode cX0_serve 3 = .ok (.invokevirtual 109, 3) := by decide +kernel
theorem dX0_serve_6 : decode cX0_serve 6 = .ok (.ifCond .ne 8, 3) := by decide +kernel
theorem dX0_serve_9 : decode cX0_serve 9 = .ok (.aload_n 0, 1) := by decide +kernel
theorem dX0_serve_10 : decode cX0_serve 10 = .ok (.iload_n 1, 1) := by decide +kernel
theorem dX0_serve_11 : decode cX0_serve 11 = .ok (.invokevirtual 122, 3) := by decide +kernel
theorem dX0_serve_14 : decode cX0_serve 14 = .ok (.aload_n 0, 1) := by decide +kernel
theorem dX0_serve_15 : decode cX0_serve 15 = .ok (.iload_n 1, 1) := by decide +kernel
theorem dX0_serve_16 : decode cX0_serve 16 = .ok (.invokevirtual 122, 3) := by decide +kernel
theorem dX0_serve_19 : decode cX0_serve 19 = .ok (.aload_n 0, 1) := by decide +kernel
theorem dX0_serve_20 : decode cX0_serve 20 = .ok (.getfield 44, 3) := by decide +kernel
theorem dX0_serve_23 : decode cX0_serve 23 = .ok (.iload_n 2, 1) := by decide +kernel
theorem dX0_serve_24 : decode cX0_serve 24 = .ok (.aload_n 0, 1) := by decide +kernel
theorem dX0_serve_25 : decode cX0_serve 25 = .ok (.iload_n 2, 1) := by decide +kernel
theorem dX0_serve_26 : decode cX0_serve 26 = .ok (.invokevirtual 112, 3) := by decide +kernel
theorem dX0_serve_29 : decode cX0_serve 29 = .ok (.ifCond .eq 7, 3) := by decide +kernel
theorem dX0_serve_32 : decode cX0_serve 32 = .ok (.iload_n 1, 1) := by decide +kernel
theorem dX0_serve_33 : decode cX0_serve 33 = .ok (.goto 6, 3) := by decide +kernel
theorem dX0_serve_36 : decode cX0_serve 36 = .ok (.iload_n 1, 1) := by decide +kernel
theorem dX0_serve_37 : decode cX0_serve 37 = .ok (.iconst 1, 1) := by decide +kernel
theorem dX0_serve_38 : decode cX0_serve 38 = .ok (.iadd, 1) := by decide +kernel
theorem dX0_serve_39 : decode cX0_serve 39 = .ok (.iastore, 1) := by decide +kernel
theorem dX0_serve_40 : decode cX0_serve 40 = .ok (.aload_n 0, 1) := by decide +kernel
theorem dX0_serve_41 : decode cX0_serve 41 = .ok (.getfield 50, 3) := by decide +kernel
theorem dX0_serve_44 : decode cX0_serve 44 = .ok (.iload_n 2, 1) := by decide +kernel
theorem dX0_serve_45 : decode cX0_serve 45 = .ok (.dup2, 1) := by decide +kernel
theorem dX0_serve_46 : decode cX0_serve 46 = .ok (.iaload, 1) := by decide +kernel
theorem dX0_serve_47 : decode cX0_serve 47 = .ok (.aload_n 0, 1) := by decide +kernel
theorem dX0_serve_48 : decode cX0_serve 48 = .ok (.getfield 9, 3) := by decide +kernel
theorem dX0_serve_51 : decode cX0_serve 51 = .ok (.isub, 1) := by decide +kernel
theorem dX0_serve_52 : decode cX0_serve 52 = .ok (.iastore, 1) := by decide +kernel
theorem dX0_serve_53 : decode cX0_serve 53 = .ok (.aload_n 0, 1) := by decide +kernel
theorem dX0_serve_54 : decode cX0_serve 54 = .ok (.dup, 1) := by decide +kernel
theorem dX0_serve_55 : decode cX0_serve 55 = .ok (.getfield 59, 3) := by decide +kernel
theorem dX0_serve_58 : decode cX0_serve 58 = .ok (.aload_n 0, 1) := by decide +kernel
theorem dX0_serve_59 : decode cX0_serve 59 = .ok (.getfield 9, 3) := by decide +kernel
theorem dX0_serve_62 : decode cX0_serve 62 = .ok (.iadd, 1) := by decide +kernel
theorem dX0_serve_63 : decode cX0_serve 63 = .ok (.putfield 59, 3) := by decide +kernel
theorem dX0_serve_66 : decode cX0_serve 66 = .ok (.aload_n 0, 1) := by decide +kernel
theorem dX0_serve_67 : decode cX0_serve 67 = .ok (.getfield 53, 3) := by decide +kernel
theorem dX0_serve_70 : decode cX0_serve 70 = .ok (.iload_n 2, 1) := by decide +kernel
theorem dX0_serve_71 : decode cX0_serve 71 = .ok (.dup2, 1) := by decide +kernel
theorem dX0_serve_72 : decode cX0_serve 72 = .ok (.iaload, 1) := by decide +kernel
theorem dX0_serve_73 : decode cX0_serve 73 = .ok (.iconst 1, 1) := by decide +kernel
theorem dX0_serve_74 : decode cX0_serve 74 = .ok (.iadd, 1) := by decide +kernel
theorem dX0_serve_75 : decode cX0_serve 75 = .ok (.iastore, 1) := by decide +kernel
theorem dX0_serve_76 : decode cX0_serve 76 = .ok (.aload_n 0, 1) := by decide +kernel
theorem dX0_serve_77 : decode cX0_serve 77 = .ok (.getfield 38, 3) := by decide +kernel
theorem dX0_serve_80 : decode cX0_serve 80 = .ok (.iload_n 1, 1) := by decide +kernel
theorem dX0_serve_81 : decode cX0_serve 81 = .ok (.dup2, 1) := by decide +kernel
theorem dX0_serve_82 : decode cX0_serve 82 = .ok (.iaload, 1) := by decide +kernel
theorem dX0_serve_83 : decode cX0_serve 83 = .ok (.iconst 1, 1) := by decide +kernel
theorem dX0_serve_84 : decode cX0_serve 84 = .ok (.iadd, 1) := by decide +kernel
theorem dX0_serve_85 : decode cX0_serve 85 = .ok (.iastore, 1) := by decide +kernel
theorem dX0_serve_86 : decode cX0_serve 86 = .ok (.return_, 1) := by decide +kernel
set_option maxRecDepth 20000 in
theorem ggX0_turnChamber_X0_pour : GoodIn wsX0_turnChamber wsX0_pour := goodIn_r _ [8, 2, 9, 10, 11, 12, 13, 14, 15, 16, 17, 18, 19, 20, 21, 22, 23, 24, 25, 26, 27, 28, 29, 30, 31] (by decide +kernel) (by decide +kernel)
set_option maxRecDepth 20000 in
theorem gX0_turnChamber_X0_pour : GoodIn wsX0_turnChamber (wsV RX0 85 RX0 yX0_pour wsX0_pour) := goodIn_app (goodIn_of _ (by decide +kernel)) ggX0_turnChamber_X0_pour
theorem dX0_turnChamber_0 : decode cX0_turnChamber 0 = .ok (.aload_n 0, 1) := by decide +kernel
theorem dX0_turnChamber_1 : decode cX0_turnChamber 1 = .ok (.getfield 34, 3) := by decide +kernel
theorem dX0_turnChamber_4 : decode cX0_turnChamber 4 = .ok (.iload_n 1, 1) := by decide +kernel
theorem dX0_turnChamber_5 : decode cX0_turnChamber 5 = .ok (.baload, 1) := by decide +kernel
theorem dX0_turnChamber_6 : decode cX0_turnChamber 6 = .ok (.ifCond .eq 20, 3) := by decide +kernel
theorem dX0_turnChamber_9 : decode cX0_turnChamber 9 = .ok (.aload_n 0, 1) := by decide +kernel
theorem dX0_turnChamber_10 : decode cX0_turnChamber 10 = .ok (.getfield 34, 3) := by decide +kernel
theorem dX0_turnChamber_13 : decode cX0_turnChamber 13 = .ok (.iload_n 1, 1) := by decide +kernel
theorem dX0_turnChamber_14 : decode cX0_turnChamber 14 = .ok (.iconst 0, 1) := by decide +kernel
theorem dX0_turnChamber_15 : decode cX0_turnChamber 15 = .ok (.bastore, 1) := by decide +kernel
theorem dX0_turnChamber_16 : decode cX0_turnChamber 16 = .ok (.aload_n 0, 1) := by decide +kernel
theorem dX0_turnChamber_17 : decode cX0_turnChamber 17 = .ok (.iload_n 1, 1) := by decide +kernel
theorem dX0_turnChamber_18 : decode cX0_turnChamber 18 = .ok (.bipush 12, 2) := by decide +kernel
theorem dX0_turnChamber_20 : decode cX0_turnChamber 20 = .ok (.invokevirtual 85, 3) := by decide +kernel
theorem dX0_turnChamber_23 : decode cX0_turnChamber 23 = .ok (.goto 34, 3) := by decide +kernel
theorem dX0_turnChamber_26 : decode cX0_turnChamber 26 = .ok (.aload_n 0, 1) := by decide +kernel
theorem dX0_turnChamber_27 : decode cX0_turnChamber 27 = .ok (.getfield 34, 3) := by decide +kernel
theorem dX0_turnChamber_30 : decode cX0_turnChamber 30 = .ok (.iload_n 1, 1) := by decide +kernel
theorem dX0_turnChamber_31 : decode cX0_turnChamber 31 = .ok (.iconst 1, 1) := by decide +kernel
theorem dX0_turnChamber_32 : decode cX0_turnChamber 32 = .ok (.bastore, 1) := by decide +kernel
theorem dX0_turnChamber_33 : decode cX0_turnChamber 33 = .ok (.aload_n 0, 1) := by decide +kernel
theorem dX0_turnChamber_34 : decode cX0_turnChamber 34 = .ok (.getfield 25, 3) := by decide +kernel
theorem dX0_turnChamber_37 : decode cX0_turnChamber 37 = .ok (.iload_n 1, 1) := by decide +kernel
theorem dX0_turnChamber_38 : decode cX0_turnChamber 38 = .ok (.iconst 1, 1) := by decide +kernel
theorem dX0_turnChamber_39 : decode cX0_turnChamber 39 = .ok (.iadd, 1) := by decide +kernel
theorem dX0_turnChamber_40 : decode cX0_turnChamber 40 = .ok (.dup2, 1) := by decide +kernel
theorem dX0_turnChamber_41 : decode cX0_turnChamber 41 = .ok (.iaload, 1) := by decide +kernel
theorem dX0_turnChamber_42 : decode cX0_turnChamber 42 = .ok (.bipush 12, 2) := by decide +kernel
theorem dX0_turnChamber_44 : decode cX0_turnChamber 44 = .ok (.isub, 1) := by decide +kernel
theorem dX0_turnChamber_45 : decode cX0_turnChamber 45 = .ok (.iastore, 1) := by decide +kernel
theorem dX0_turnChamber_46 : decode cX0_turnChamber 46 = .ok (.aload_n 0, 1) := by decide +kernel
theorem dX0_turnChamber_47 : decode cX0_turnChamber 47 = .ok (.getfield 41, 3) := by decide +kernel
theorem dX0_turnChamber_50 : decode cX0_turnChamber 50 = .ok (.iload_n 1, 1) := by decide +kernel
theorem dX0_turnChamber_51 : decode cX0_turnChamber 51 = .ok (.dup2, 1) := by decide +kernel
theorem dX0_turnChamber_52 : decode cX0_turnChamber 52 = .ok (.iaload, 1) := by decide +kernel
theorem dX0_turnChamber_53 : decode cX0_turnChamber 53 = .ok (.bipush 12, 2) := by decide +kernel
theorem dX0_turnChamber_55 : decode cX0_turnChamber 55 = .ok (.iadd, 1) := by decide +kernel
theorem dX0_turnChamber_56 : decode cX0_turnChamber 56 = .ok (.iastore, 1) := by decide +kernel
theorem dX0_turnChamber_57 : decode cX0_turnChamber 57 = .ok (.return_, 1) := by decide +kernel
set_option maxRecDepth 20000 in
theorem ggX0_tellBarge_X0_waitsAt : GoodIn wsX0_tellBarge wsX0_waitsAt := goodIn_r _ [9, 1, 10, 11, 12, 8, 13, 2, 14, 15, 16, 17, 18, 19, 20, 21, 22, 23, 24, 25, 26, 27, 28, 29, 30, 31, 32, 33, 34, 35] (by decide +kernel) (by decide +kernel)
set_option maxRecDepth 20000 in
theorem gX0_tellBarge_X0_waitsAt : GoodIn wsX0_tellBarge (wsV RX0 101 RX0 yX0_waitsAt wsX0_waitsAt) := goodIn_app (goodIn_of _ (by decide +kernel)) ggX0_tellBarge_X0_waitsAt
theorem dX0_tellBarge_0 : decode cX0_tellBarge 0 = .ok (.iload_n 2, 1) := by decide +kernel
theorem dX0_tellBarge_1 : decode cX0_tellBarge 1 = .ok (.tableswitch 59 0 3 #[31, 38, 45, 52], 31) := by decide +kernel
theorem dX0_tellBarge_32 : decode cX0_tellBarge 32 = .ok (.aload_n 0, 1) := by decide +kernel
theorem dX0_tellBarge_33 : decode cX0_tellBarge 33 = .ok (.getfield 44, 3) := by decide +kernel
theorem dX0_tellBarge_36 : decode cX0_tellBarge 36 = .ok (.iload_n 1, 1) := by decide +kernel
theorem dX0_tellBarge_37 : decode cX0_tellBarge 37 = .ok (.iaload, 1) := by decide +kernel
theorem dX0_tellBarge_38 : decode cX0_tellBarge 38 = .ok (.ireturn, 1) := by decide +kernel
theorem dX0_tellBarge_39 : decode cX0_tellBarge 39 = .ok (.aload_n 0, 1) := by decide +kernel
theorem dX0_tellBarge_40 : decode cX0_tellBarge 40 = .ok (.getfield 47, 3) := by decide +kernel
theorem dX0_tellBarge_43 : decode cX0_tellBarge 43 = .ok (.iload_n 1, 1) := by decide +kernel
theorem dX0_tellBarge_44 : decode cX0_tellBarge 44 = .ok (.iaload, 1) := by decide +kernel
theorem dX0_tellBarge_45 : decode cX0_tellBarge 45 = .ok (.ireturn, 1) := by decide +kernel
theorem dX0_tellBarge_46 : decode cX0_tellBarge 46 = .ok (.aload_n 0, 1) := by decide +kernel
theorem dX0_tellBarge_47 : decode cX0_tellBarge 47 = .ok (.getfield 50, 3) := by decide +kernel
theorem dX0_tellBarge_50 : decode cX0_tellBarge 50 = .ok (.iload_n 1, 1) := by decide +kernel
theorem dX0_tellBarge_51 : decode cX0_tellBarge 51 = .ok (.iaload, 1) := by decide +kernel
theorem dX0_tellBarge_52 : decode cX0_tellBarge 52 = .ok (.ireturn, 1) := by decide +kernel
theorem dX0_tellBarge_53 : decode cX0_tellBarge 53 = .ok (.aload_n 0, 1) := by decide +kernel
theorem dX0_tellBarge_54 : decode cX0_tellBarge 54 = .ok (.getfield 53, 3) := by decide +kernel
theorem dX0_tellBarge_57 : decode cX0_tellBarge 57 = .ok (.iload_n 1, 1) := by decide +kernel
theorem dX0_tellBarge_58 : decode cX0_tellBarge 58 = .ok (.iaload, 1) := by decide +kernel
theorem dX0_tellBarge_59 : decode cX0_tellBarge 59 = .ok (.ireturn, 1) := by decide +kernel
theorem dX0_tellBarge_60 : decode cX0_tellBarge 60 = .ok (.aload_n 0, 1) := by decide +kernel
theorem dX0_tellBarge_61 : decode cX0_tellBarge 61 = .ok (.iload_n 1, 1) := by decide +kernel
theorem dX0_tellBarge_62 : decode cX0_tellBarge 62 = .ok (.invokevirtual 101, 3) := by decide +kernel
theorem dX0_tellBarge_65 : decode cX0_tellBarge 65 = .ok (.ireturn, 1) := by decide +kernel
set_option maxRecDepth 20000 in
theorem ggX0_tellPound_X0_bargesAt : GoodIn wsX0_tellPound wsX0_bargesAt := goodIn_r _ [8, 9, 10, 11, 12, 13, 14, 15, 16, 17, 18, 19, 20, 21, 22, 23, 24, 25, 26, 27, 28] (by decide +kernel) (by decide +kernel)
set_option maxRecDepth 20000 in
theorem gX0_tellPound_X0_bargesAt : GoodIn wsX0_tellPound (wsV RX0 126 RX0 yX0_bargesAt wsX0_bargesAt) := goodIn_app (goodIn_of _ (by decide +kernel)) ggX0_tellPound_X0_bargesAt
theorem dX0_tellPound_0 : decode cX0_tellPound 0 = .ok (.iload_n 2, 1) := by decide +kernel
theorem dX0_tellPound_1 : decode cX0_tellPound 1 = .ok (.tableswitch 47 0 2 #[27, 34, 40], 27) := by decide +kernel
theorem dX0_tellPound_28 : decode cX0_tellPound 28 = .ok (.aload_n 0, 1) := by decide +kernel
theorem dX0_tellPound_29 : decode cX0_tellPound 29 = .ok (.getfield 25, 3) := by decide +kernel
theorem dX0_tellPound_32 : decode cX0_tellPound 32 = .ok (.iload_n 1, 1) := by decide +kernel
theorem dX0_tellPound_33 : decode cX0_tellPound 33 = .ok (.iaload, 1) := by decide +kernel
theorem dX0_tellPound_34 : decode cX0_tellPound 34 = .ok (.ireturn, 1) := by decide +kernel
theorem dX0_tellPound_35 : decode cX0_tellPound 35 = .ok (.aload_n 0, 1) := by decide +kernel
theorem dX0_tellPound_36 : decode cX0_tellPound 36 = .ok (.iload_n 1, 1) := by decide +kernel
theorem dX0_tellPound_37 : decode cX0_tellPound 37 = .ok (.invokevirtual 126, 3) := by decide +kernel
theorem dX0_tellPound_40 : decode cX0_tellPound 40 = .ok (.ireturn, 1) := by decide +kernel
theorem dX0_tellPound_41 : decode cX0_tellPound 41 = .ok (.aload_n 0, 1) := by decide +kernel
theorem dX0_tellPound_42 : decode cX0_tellPound 42 = .ok (.getfield 28, 3) := by decide +kernel
theorem dX0_tellPound_45 : decode cX0_tellPound 45 = .ok (.iload_n 1, 1) := by decide +kernel
theorem dX0_tellPound_46 : decode cX0_tellPound 46 = .ok (.iaload, 1) := by decide +kernel
theorem dX0_tellPound_47 : decode cX0_tellPound 47 = .ok (.ireturn, 1) := by decide +kernel
theorem dX0_tellPound_48 : decode cX0_tellPound 48 = .ok (.aload_n 0, 1) := by decide +kernel
theorem dX0_tellPound_49 : decode cX0_tellPound 49 = .ok (.getfield 31, 3) := by decide +kernel
theorem dX0_tellPound_52 : decode cX0_tellPound 52 = .ok (.iload_n 1, 1) := by decide +kernel
theorem dX0_tellPound_53 : decode cX0_tellPound 53 = .ok (.iaload, 1) := by decide +kernel
theorem dX0_tellPound_54 : decode cX0_tellPound 54 = .ok (.ireturn, 1) := by decide +kernel
set_option maxRecDepth 20000 in
theorem ggX0_tellLock_X0_bargesWaitingAt : GoodIn wsX0_tellLock wsX0_bargesWaitingAt := goodIn_r _ [8, 9, 10, 11, 12, 7, 13, 14, 15, 16, 17, 18, 19, 20, 21, 22, 23, 44, 45, 46, 47, 48, 49, 50, 51, 52, 53, 54, 55, 56, 57, 58, 59, 60, 61] (by decide +kernel) (by decide +kernel)
set_option maxRecDepth 20000 in
theorem gX0_tellLock_X0_bargesWaitingAt : GoodIn wsX0_tellLock (wsV RX0 129 RX0 yX0_bargesWaitingAt wsX0_bargesWaitingAt) := goodIn_app (goodIn_of _ (by decide +kernel)) ggX0_tellLock_X0_bargesWaitingAt
set_option maxRecDepth 20000 in
theorem ggX0_tellLock_X0_nextBarge : GoodIn wsX0_tellLock wsX0_nextBarge := goodIn_r _ [27, 9, 10, 11, 12, 7, 13, 14, 15, 16, 17, 18, 19, 20, 21, 22, 23, 28, 29, 30, 31, 32, 33, 34, 1, 35, 36, 37, 38, 39, 40, 41, 42, 43, 44, 45, 46, 47, 48, 49, 50, 51, 52, 53, 54, 55, 56, 57, 58, 59, 60, 61] (by decide +kernel) (by decide +kernel)
set_option maxRecDepth 20000 in
theorem gX0_tellLock_X0_nextBarge : GoodIn wsX0_tellLock (wsV RX0 92 RX0 yX0_nextBarge wsX0_nextBarge) := goodIn_app (goodIn_of _ (by decide +kernel)) ggX0_tellLock_X0_nextBarge
theorem dX0_tellLock_0 : decode cX0_tellLock 0 = .ok (.iload_n 2, 1) := by decide +kernel
theorem dX0_tellLock_1 : decode cX0_tellLock 1 = .ok (.tableswitch 66 0 3 #[31, 46, 52, 59], 31) := by decide +kernel
theorem dX0_tellLock_32 : decode cX0_tellLock 32 = .ok (.aload_n 0, 1) := by decide +kernel
theorem dX0_tellLock_33 : decode cX0_tellLock 33 = .ok (.getfield 34, 3) := by decide +kernel
theorem dX0_tellLock_36 : decode cX0_tellLock 36 = .ok (.iload_n 1, 1) := by decide +kernel
theorem dX0_tellLock_37 : decode cX0_tellLock 37 = .ok (.baload, 1) := by decide +kernel
theorem dX0_tellLock_38 : decode cX0_tellLock 38 = .ok (.ifCond .eq 7, 3) := by decide +kernel
theorem dX0_tellLock_41 : decode cX0_tellLock 41 = .ok (.iconst 1, 1) := by decide +kernel
theorem dX0_tellLock_42 : decode cX0_tellLock 42 = .ok (.goto 4, 3) := by decide +kernel
theorem dX0_tellLock_45 : decode cX0_tellLock 45 = .ok (.iconst 0, 1) := by decide +kernel
theorem dX0_tellLock_46 : decode cX0_tellLock 46 = .ok (.ireturn, 1) := by decide +kernel
theorem dX0_tellLock_47 : decode cX0_tellLock 47 = .ok (.aload_n 0, 1) := by decide +kernel
theorem dX0_tellLock_48 : decode cX0_tellLock 48 = .ok (.iload_n 1, 1) := by decide +kernel
theorem dX0_tellLock_49 : decode cX0_tellLock 49 = .ok (.invokevirtual 129, 3) := by decide +kernel
theorem dX0_tellLock_52 : decode cX0_tellLock 52 = .ok (.ireturn, 1) := by decide +kernel
theorem dX0_tellLock_53 : decode cX0_tellLock 53 = .ok (.aload_n 0, 1) := by decide +kernel
theorem dX0_tellLock_54 : decode cX0_tellLock 54 = .ok (.getfield 38, 3) := by decide +kernel
theorem dX0_tellLock_57 : decode cX0_tellLock 57 = .ok (.iload_n 1, 1) := by decide +kernel
theorem dX0_tellLock_58 : decode cX0_tellLock 58 = .ok (.iaload, 1) := by decide +kernel
theorem dX0_tellLock_59 : decode cX0_tellLock 59 = .ok (.ireturn, 1) := by decide +kernel
theorem dX0_tellLock_60 : decode cX0_tellLock 60 = .ok (.aload_n 0, 1) := by decide +kernel
theorem dX0_tellLock_61 : decode cX0_tellLock 61 = .ok (.getfield 41, 3) := by decide +kernel
theorem dX0_tellLock_64 : decode cX0_tellLock 64 = .ok (.iload_n 1, 1) := by decide +kernel
theorem dX0_tellLock_65 : decode cX0_tellLock 65 = .ok (.iaload, 1) := by decide +kernel
theorem dX0_tellLock_66 : decode cX0_tellLock 66 = .ok (.ireturn, 1) := by decide +kernel
theorem dX0_tellLock_67 : decode cX0_tellLock 67 = .ok (.aload_n 0, 1) := by decide +kernel
theorem dX0_tellLock_68 : decode cX0_tellLock 68 = .ok (.iload_n 1, 1) := by decide +kernel
theorem dX0_tellLock_69 : decode cX0_tellLock 69 = .ok (.iconst 0, 1) := by decide +kernel
theorem dX0_tellLock_70 : decode cX0_tellLock 70 = .ok (.invokevirtual 92, 3) := by decide +kernel
theorem dX0_tellLock_73 : decode cX0_tellLock 73 = .ok (.ireturn, 1) := by decide +kernel
set_option maxRecDepth 20000 in
theorem ggX0_tellWhole_X0_bargesThatHaveCome : GoodIn wsX0_tellWhole wsX0_bargesThatHaveCome := goodIn_r _ [13, 2, 14, 15, 16, 12, 17, 18, 19, 30, 31, 32, 33, 34, 35, 36, 37, 38, 39, 40, 41, 42, 43, 44, 45, 46, 47] (by decide +kernel) (by decide +kernel)
set_option maxRecDepth 20000 in
theorem gX0_tellWhole_X0_bargesThatHaveCome : GoodIn wsX0_tellWhole (wsV RX0 132 RX0 yX0_bargesThatHaveCome wsX0_bargesThatHaveCome) := goodIn_app (goodIn_of _ (by decide +kernel)) ggX0_tellWhole_X0_bargesThatHaveCome
set_option maxRecDepth 20000 in
theorem ggX0_tellWhole_X0_waterOfAll : GoodIn wsX0_tellWhole wsX0_waterOfAll := goodIn_r _ [23, 24, 30, 31, 32, 33, 34, 35, 36, 37, 38, 39, 40, 41, 42, 43, 44, 45, 46, 47] (by decide +kernel) (by decide +kernel)
set_option maxRecDepth 20000 in
theorem gX0_tellWhole_X0_waterOfAll : GoodIn wsX0_tellWhole (wsV RX0 135 RX0 yX0_waterOfAll wsX0_waterOfAll) := goodIn_app (goodIn_of _ (by decide +kernel)) ggX0_tellWhole_X0_waterOfAll
set_option maxRecDepth 20000 in
theorem ggX0_tellWhole_X0_fullChambers : GoodIn wsX0_tellWhole wsX0_fullChambers := goodIn_r _ [28, 29, 30, 31, 32, 33, 34, 35, 36, 37, 38, 39, 40, 41, 42, 43, 44, 45, 46, 47] (by decide +kernel) (by decide +kernel)
set_option maxRecDepth 20000 in
theorem gX0_tellWhole_X0_fullChambers : GoodIn wsX0_tellWhole (wsV RX0 138 RX0 yX0_fullChambers wsX0_fullChambers) := goodIn_app (goodIn_of _ (by decide +kernel)) ggX0_tellWhole_X0_fullChambers
theorem dX0_tellWhole_0 : decode cX0_tellWhole 0 = .ok (.iload_n 1, 1) := by decide +kernel
theorem dX0_tellWhole_1 : decode cX0_tellWhole 1 = .ok (.tableswitch 105 0 8 #[51, 56, 61, 66, 71, 76, 81, 95, 100], 51) := by decide +kernel
theorem dX0_tellWhole_52 : decode cX0_tellWhole 52 = .ok (.aload_n 0, 1) := by decide +kernel
theorem dX0_tellWhole_53 : decode cX0_tellWhole 53 = .ok (.getfield 56, 3) := by decide +kernel
theorem dX0_tellWhole_56 : decode cX0_tellWhole 56 = .ok (.ireturn, 1) := by decide +kernel
theorem dX0_tellWhole_57 : decode cX0_tellWhole 57 = .ok (.aload_n 0, 1) := by decide +kernel
theorem dX0_tellWhole_58 : decode cX0_tellWhole 58 = .ok (.getfield 72, 3) := by decide +kernel
theorem dX0_tellWhole_61 : decode cX0_tellWhole 61 = .ok (.ireturn, 1) := by decide +kernel
theorem dX0_tellWhole_62 : decode cX0_tellWhole 62 = .ok (.aload_n 0, 1) := by decide +kernel
theorem dX0_tellWhole_63 : decode cX0_tellWhole 63 = .ok (.invokevirtual 132, 3) := by decide +kernel
theorem dX0_tellWhole_66 : decode cX0_tellWhole 66 = .ok (.ireturn, 1) := by decide +kernel
theorem dX0_tellWhole_67 : decode cX0_tellWhole 67 = .ok (.aload_n 0, 1) := by decide +kernel
theorem dX0_tellWhole_68 : decode cX0_tellWhole 68 = .ok (.getfield 59, 3) := by decide +kernel
theorem dX0_tellWhole_71 : decode cX0_tellWhole 71 = .ok (.ireturn, 1) := by decide +kernel
theorem dX0_tellWhole_72 : decode cX0_tellWhole 72 = .ok (.aload_n 0, 1) := by decide +kernel
theorem dX0_tellWhole_73 : decode cX0_tellWhole 73 = .ok (.invokevirtual 135, 3) := by decide +kernel
theorem dX0_tellWhole_76 : decode cX0_tellWhole 76 = .ok (.ireturn, 1) := by decide +kernel
theorem dX0_tellWhole_77 : decode cX0_tellWhole 77 = .ok (.aload_n 0, 1) := by decide +kernel
theorem dX0_tellWhole_78 : decode cX0_tellWhole 78 = .ok (.invokevirtual 138, 3) := by decide +kernel
theorem dX0_tellWhole_81 : decode cX0_tellWhole 81 = .ok (.ireturn, 1) := by decide +kernel
theorem dX0_tellWhole_82 : decode cX0_tellWhole 82 = .ok (.aload_n 0, 1) := by decide +kernel
theorem dX0_tellWhole_83 : decode cX0_tellWhole 83 = .ok (.getfield 28, 3) := by decide +kernel
theorem dX0_tellWhole_86 : decode cX0_tellWhole 86 = .ok (.iconst 0, 1) := by decide +kernel
theorem dX0_tellWhole_87 : decode cX0_tellWhole 87 = .ok (.iaload, 1) := by decide +kernel
theorem dX0_tellWhole_88 : decode cX0_tellWhole 88 = .ok (.aload_n 0, 1) := by decide +kernel
theorem dX0_tellWhole_89 : decode cX0_tellWhole 89 = .ok (.getfield 31, 3) := by decide +kernel
theorem dX0_tellWhole_92 : decode cX0_tellWhole 92 = .ok (.iconst 0, 1) := by decide +kernel
theorem dX0_tellWhole_93 : decode cX0_tellWhole 93 = .ok (.iaload, 1) := by decide +kernel
theorem dX0_tellWhole_94 : decode cX0_tellWhole 94 = .ok (.iadd, 1) := by decide +kernel
theorem dX0_tellWhole_95 : decode cX0_tellWhole 95 = .ok (.ireturn, 1) := by decide +kernel
theorem dX0_tellWhole_96 : decode cX0_tellWhole 96 = .ok (.aload_n 0, 1) := by decide +kernel
theorem dX0_tellWhole_97 : decode cX0_tellWhole 97 = .ok (.getfield 9, 3) := by decide +kernel
theorem dX0_tellWhole_100 : decode cX0_tellWhole 100 = .ok (.ireturn, 1) := by decide +kernel
theorem dX0_tellWhole_101 : decode cX0_tellWhole 101 = .ok (.aload_n 0, 1) := by decide +kernel
theorem dX0_tellWhole_102 : decode cX0_tellWhole 102 = .ok (.getfield 18, 3) := by decide +kernel
theorem dX0_tellWhole_105 : decode cX0_tellWhole 105 = .ok (.ireturn, 1) := by decide +kernel
theorem dX0_tellWhole_106 : decode cX0_tellWhole 106 = .ok (.aload_n 0, 1) := by decide +kernel
theorem dX0_tellWhole_107 : decode cX0_tellWhole 107 = .ok (.getfield 15, 3) := by decide +kernel
theorem dX0_tellWhole_110 : decode cX0_tellWhole 110 = .ok (.ireturn, 1) := by decide +kernel
theorem dX0_bargesAt_0 : decode cX0_bargesAt 0 = .ok (.iconst 0, 1) := by decide +kernel
theorem dX0_bargesAt_1 : decode cX0_bargesAt 1 = .ok (.istore_n 2, 1) := by decide +kernel
theorem dX0_bargesAt_2 : decode cX0_bargesAt 2 = .ok (.iconst 0, 1) := by decide +kernel
theorem dX0_bargesAt_3 : decode cX0_bargesAt 3 = .ok (.istore_n 3, 1) := by decide +kernel
theorem dX0_bargesAt_4 : decode cX0_bargesAt 4 = .ok (.iload_n 3, 1) := by decide +kernel
theorem dX0_bargesAt_5 : decode cX0_bargesAt 5 = .ok (.aload_n 0, 1) := by decide +kernel
theorem dX0_bargesAt_6 : decode cX0_bargesAt 6 = .ok (.getfield 72, 3) := by decide +kernel
theorem dX0_bargesAt_9 : decode cX0_bargesAt 9 = .ok (.if_icmp .ge 27, 3) := by decide +kernel
theorem dX0_bargesAt_12 : decode cX0_bargesAt 12 = .ok (.iload_n 2, 1) := by decide +kernel
theorem dX0_bargesAt_13 : decode cX0_bargesAt 13 = .ok (.aload_n 0, 1) := by decide +kernel
theorem dX0_bargesAt_14 : decode cX0_bargesAt 14 = .ok (.getfield 44, 3) := by decide +kernel
theorem dX0_bargesAt_17 : decode cX0_bargesAt 17 = .ok (.iload_n 3, 1) := by decide +kernel
theorem dX0_bargesAt_18 : decode cX0_bargesAt 18 = .ok (.iaload, 1) := by decide +kernel
theorem dX0_bargesAt_19 : decode cX0_bargesAt 19 = .ok (.iload_n 1, 1) := by decide +kernel
theorem dX0_bargesAt_20 : decode cX0_bargesAt 20 = .ok (.if_icmp .ne 7, 3) := by decide +kernel
theorem dX0_bargesAt_23 : decode cX0_bargesAt 23 = .ok (.iconst 1, 1) := by decide +kernel
theorem dX0_bargesAt_24 : decode cX0_bargesAt 24 = .ok (.goto 4, 3) := by decide +kernel
theorem dX0_bargesAt_27 : decode cX0_bargesAt 27 = .ok (.iconst 0, 1) := by decide +kernel
theorem dX0_bargesAt_28 : decode cX0_bargesAt 28 = .ok (.iadd, 1) := by decide +kernel
theorem dX0_bargesAt_29 : decode cX0_bargesAt 29 = .ok (.istore_n 2, 1) := by decide +kernel
theorem dX0_bargesAt_30 : decode cX0_bargesAt 30 = .ok (.iinc 3 1, 3) := by decide +kernel
theorem dX0_bargesAt_33 : decode cX0_bargesAt 33 = .ok (.goto (-29), 3) := by decide +kernel
theorem dX0_bargesAt_36 : decode cX0_bargesAt 36 = .ok (.iload_n 2, 1) := by decide +kernel
theorem dX0_bargesAt_37 : decode cX0_bargesAt 37 = .ok (.ireturn, 1) := by decide +kernel
set_option maxRecDepth 20000 in
theorem ggX0_bargesWaitingAt_X0_waitsAt : GoodIn wsX0_bargesWaitingAt wsX0_waitsAt := goodIn_r _ [6, 7, 8, 9, 10, 5, 11, 12, 13, 14, 15, 16, 17, 18, 19, 20, 21, 22, 23, 24, 25, 26, 27, 28, 29, 30, 31, 32, 33, 34] (by decide +kernel) (by decide +kernel)
set_option maxRecDepth 20000 in
theorem gX0_bargesWaitingAt_X0_waitsAt : GoodIn wsX0_bargesWaitingAt (wsV RX0 101 RX0 yX0_waitsAt wsX0_waitsAt) := goodIn_app (goodIn_of _ (by decide +kernel)) ggX0_bargesWaitingAt_X0_waitsAt
theorem dX0_bargesWaitingAt_0 : decode cX0_bargesWaitingAt 0 = .ok (.iconst 0, 1) := by decide +kernel
theorem dX0_bargesWaitingAt_1 : decode cX0_bargesWaitingAt 1 = .ok (.istore_n 2, 1) := by decide +kernel
theorem dX0_bargesWaitingAt_2 : decode cX0_bargesWaitingAt 2 = .ok (.iconst 0, 1) := by decide +kernel
theorem dX0_bargesWaitingAt_3 : decode cX0_bargesWaitingAt 3 = .ok (.istore_n 3, 1) := by decide +kernel
theorem dX0_bargesWaitingAt_4 : decode cX0_bargesWaitingAt 4 = .ok (.iload_n 3, 1) := by decide +kernel
theorem dX0_bargesWaitingAt_5 : decode cX0_bargesWaitingAt 5 = .ok (.aload_n 0, 1) := by decide +kernel
theorem dX0_bargesWaitingAt_6 : decode cX0_bargesWaitingAt 6 = .ok (.getfield 72, 3) := by decide +kernel
theorem dX0_bargesWaitingAt_9 : decode cX0_bargesWaitingAt 9 = .ok (.if_icmp .ge 26, 3) := by decide +kernel
theorem dX0_bargesWaitingAt_12 : decode cX0_bargesWaitingAt 12 = .ok (.iload_n 2, 1) := by decide +kernel
theorem dX0_bargesWaitingAt_13 : decode cX0_bargesWaitingAt 13 = .ok (.aload_n 0, 1) := by decide +kernel
theorem dX0_bargesWaitingAt_14 : decode cX0_bargesWaitingAt 14 = .ok (.iload_n 3, 1) := by decide +kernel
theorem dX0_bargesWaitingAt_15 : decode cX0_bargesWaitingAt 15 = .ok (.invokevirtual 101, 3) := by decide +kernel
theorem dX0_bargesWaitingAt_18 : decode cX0_bargesWaitingAt 18 = .ok (.iload_n 1, 1) := by decide +kernel
theorem dX0_bargesWaitingAt_19 : decode cX0_bargesWaitingAt 19 = .ok (.if_icmp .ne 7, 3) := by decide +kernel
theorem dX0_bargesWaitingAt_22 : decode cX0_bargesWaitingAt 22 = .ok (.iconst 1, 1) := by decide +kernel
theorem dX0_bargesWaitingAt_23 : decode cX0_bargesWaitingAt 23 = .ok (.goto 4, 3) := by decide +kernel
theorem dX0_bargesWaitingAt_26 : decode cX0_bargesWaitingAt 26 = .ok (.iconst 0, 1) := by decide +kernel
theorem dX0_bargesWaitingAt_27 : decode cX0_bargesWaitingAt 27 = .ok (.iadd, 1) := by decide +kernel
theorem dX0_bargesWaitingAt_28 : decode cX0_bargesWaitingAt 28 = .ok (.istore_n 2, 1) := by decide +kernel
theorem dX0_bargesWaitingAt_29 : decode cX0_bargesWaitingAt 29 = .ok (.iinc 3 1, 3) := by decide +kernel
theorem dX0_bargesWaitingAt_32 : decode cX0_bargesWaitingAt 32 = .ok (.goto (-28), 3) := by decide +kernel
theorem dX0_bargesWaitingAt_35 : decode cX0_bargesWaitingAt 35 = .ok (.iload_n 2, 1) := by decide +kernel
theorem dX0_bargesWaitingAt_36 : decode cX0_bargesWaitingAt 36 = .ok (.ireturn, 1) := by decide +kernel
set_option maxRecDepth 20000 in
theorem ggX0_bargesThatHaveCome_X0_hasCome : GoodIn wsX0_bargesThatHaveCome wsX0_hasCome := goodIn_r _ [6, 7, 8, 9, 10, 11, 12, 13, 14, 15, 16, 17, 18, 19, 20, 21, 22, 23, 24, 25, 26] (by decide +kernel) (by decide +kernel)
set_option maxRecDepth 20000 in
theorem gX0_bargesThatHaveCome_X0_hasCome : GoodIn wsX0_bargesThatHaveCome (wsV RX0 119 RX0 yX0_hasCome wsX0_hasCome) := goodIn_app (goodIn_of _ (by decide +kernel)) ggX0_bargesThatHaveCome_X0_hasCome
theorem dX0_bargesThatHaveCome_0 : decode cX0_bargesThatHaveCome 0 = .ok (.iconst 0, 1) := by decide +kernel
theorem dX0_bargesThatHaveCome_1 : decode cX0_bargesThatHaveCome 1 = .ok (.istore_n 1, 1) := by decide +kernel
theorem dX0_bargesThatHaveCome_2 : decode cX0_bargesThatHaveCome 2 = .ok (.iconst 0, 1) := by decide +kernel
theorem dX0_bargesThatHaveCome_3 : decode cX0_bargesThatHaveCome 3 = .ok (.istore_n 2, 1) := by decide +kernel
theorem dX0_bargesThatHaveCome_4 : decode cX0_bargesThatHaveCome 4 = .ok (.iload_n 2, 1) := by decide +kernel
theorem dX0_bargesThatHaveCome_5 : decode cX0_bargesThatHaveCome 5 = .ok (.aload_n 0, 1) := by decide +kernel
theorem dX0_bargesThatHaveCome_6 : decode cX0_bargesThatHaveCome 6 = .ok (.getfield 72, 3) := by decide +kernel
theorem dX0_bargesThatHaveCome_9 : decode cX0_bargesThatHaveCome 9 = .ok (.if_icmp .ge 25, 3) := by decide +kernel
theorem dX0_bargesThatHaveCome_12 : decode cX0_bargesThatHaveCome 12 = .ok (.iload_n 1, 1) := by decide +kernel
theorem dX0_bargesThatHaveCome_13 : decode cX0_bargesThatHaveCome 13 = .ok (.aload_n 0, 1) := by decide +kernel
theorem dX0_bargesThatHaveCome_14 : decode cX0_bargesThatHaveCome 14 = .ok (.iload_n 2, 1) := by decide +kernel
theorem dX0_bargesThatHaveCome_15 : decode cX0_bargesThatHaveCome 15 = .ok (.invokevirtual 119, 3) := by decide +kernel
theorem dX0_bargesThatHaveCome_18 : decode cX0_bargesThatHaveCome 18 = .ok (.ifCond .eq 7, 3) := by decide +kernel
theorem dX0_bargesThatHaveCome_21 : decode cX0_bargesThatHaveCome 21 = .ok (.iconst 1, 1) := by decide +kernel
theorem dX0_bargesThatHaveCome_22 : decode cX0_bargesThatHaveCome 22 = .ok (.goto 4, 3) := by decide +kernel
theorem dX0_bargesThatHaveCome_25 : decode cX0_bargesThatHaveCome 25 = .ok (.iconst 0, 1) := by decide +kernel
theorem dX0_bargesThatHaveCome_26 : decode cX0_bargesThatHaveCome 26 = .ok (.iadd, 1) := by decide +kernel
theorem dX0_bargesThatHaveCome_27 : decode cX0_bargesThatHaveCome 27 = .ok (.istore_n 1, 1) := by decide +kernel
theorem dX0_bargesThatHaveCome_28 : decode cX0_bargesThatHaveCome 28 = .ok (.iinc 2 1, 3) := by decide +kernel
theorem dX0_bargesThatHaveCome_31 : decode cX0_bargesThatHaveCome 31 = .ok (.goto (-27), 3) := by decide +kernel
theorem dX0_bargesThatHaveCome_34 : decode cX0_bargesThatHaveCome 34 = .ok (.iload_n 1, 1) := by decide +kernel
theorem dX0_bargesThatHaveCome_35 : decode cX0_bargesThatHaveCome 35 = .ok (.ireturn, 1) := by decide +kernel
theorem dX0_fullChambers_0 : decode cX0_fullChambers 0 = .ok (.iconst 0, 1) := by decide +kernel
theorem dX0_fullChambers_1 : decode cX0_fullChambers 1 = .ok (.istore_n 1, 1) := by decide +kernel
theorem dX0_fullChambers_2 : decode cX0_fullChambers 2 = .ok (.iconst 0, 1) := by decide +kernel
theorem dX0_fullChambers_3 : decode cX0_fullChambers 3 = .ok (.istore_n 2, 1) := by decide +kernel
theorem dX0_fullChambers_4 : decode cX0_fullChambers 4 = .ok (.iload_n 2, 1) := by decide +kernel
theorem dX0_fullChambers_5 : decode cX0_fullChambers 5 = .ok (.iconst 5, 1) := by decide +kernel
theorem dX0_fullChambers_6 : decode cX0_fullChambers 6 = .ok (.if_icmp .ge 26, 3) := by decide +kernel
theorem dX0_fullChambers_9 : decode cX0_fullChambers 9 = .ok (.iload_n 1, 1) := by decide +kernel
theorem dX0_fullChambers_10 : decode cX0_fullChambers 10 = .ok (.aload_n 0, 1) := by decide +kernel
theorem dX0_fullChambers_11 : decode cX0_fullChambers 11 = .ok (.getfield 34, 3) := by decide +kernel
theorem dX0_fullChambers_14 : decode cX0_fullChambers 14 = .ok (.iload_n 2, 1) := by decide +kernel
theorem dX0_fullChambers_15 : decode cX0_fullChambers 15 = .ok (.baload, 1) := by decide +kernel
theorem dX0_fullChambers_16 : decode cX0_fullChambers 16 = .ok (.ifCond .eq 7, 3) := by decide +kernel
theorem dX0_fullChambers_19 : decode cX0_fullChambers 19 = .ok (.iconst 1, 1) := by decide +kernel
theorem dX0_fullChambers_20 : decode cX0_fullChambers 20 = .ok (.goto 4, 3) := by decide +kernel
theorem dX0_fullChambers_23 : decode cX0_fullChambers 23 = .ok (.iconst 0, 1) := by decide +kernel
theorem dX0_fullChambers_24 : decode cX0_fullChambers 24 = .ok (.iadd, 1) := by decide +kernel
theorem dX0_fullChambers_25 : decode cX0_fullChambers 25 = .ok (.istore_n 1, 1) := by decide +kernel
theorem dX0_fullChambers_26 : decode cX0_fullChambers 26 = .ok (.iinc 2 1, 3) := by decide +kernel
theorem dX0_fullChambers_29 : decode cX0_fullChambers 29 = .ok (.goto (-25), 3) := by decide +kernel
theorem dX0_fullChambers_32 : decode cX0_fullChambers 32 = .ok (.iload_n 1, 1) := by decide +kernel
theorem dX0_fullChambers_33 : decode cX0_fullChambers 33 = .ok (.ireturn, 1) := by decide +kernel
theorem dX0_waterOfAll_0 : decode cX0_waterOfAll 0 = .ok (.iconst 0, 1) := by decide +kernel
theorem dX0_waterOfAll_1 : decode cX0_waterOfAll 1 = .ok (.istore_n 1, 1) := by decide +kernel
theorem dX0_waterOfAll_2 : decode cX0_waterOfAll 2 = .ok (.iconst 0, 1) := by decide +kernel
theorem dX0_waterOfAll_3 : decode cX0_waterOfAll 3 = .ok (.istore_n 2, 1) := by decide +kernel
theorem dX0_waterOfAll_4 : decode cX0_waterOfAll 4 = .ok (.iload_n 2, 1) := by decide +kernel
theorem dX0_waterOfAll_5 : decode cX0_waterOfAll 5 = .ok (.bipush 6, 2) := by decide +kernel
theorem dX0_waterOfAll_7 : decode cX0_waterOfAll 7 = .ok (.if_icmp .ge 18, 3) := by decide +kernel
theorem dX0_waterOfAll_10 : decode cX0_waterOfAll 10 = .ok (.iload_n 1, 1) := by decide +kernel
theorem dX0_waterOfAll_11 : decode cX0_waterOfAll 11 = .ok (.aload_n 0, 1) := by decide +kernel
theorem dX0_waterOfAll_12 : decode cX0_waterOfAll 12 = .ok (.getfield 25, 3) := by decide +kernel
theorem dX0_waterOfAll_15 : decode cX0_waterOfAll 15 = .ok (.iload_n 2, 1) := by decide +kernel
theorem dX0_waterOfAll_16 : decode cX0_waterOfAll 16 = .ok (.iaload, 1) := by decide +kernel
theorem dX0_waterOfAll_17 : decode cX0_waterOfAll 17 = .ok (.iadd, 1) := by decide +kernel
theorem dX0_waterOfAll_18 : decode cX0_waterOfAll 18 = .ok (.istore_n 1, 1) := by decide +kernel
theorem dX0_waterOfAll_19 : decode cX0_waterOfAll 19 = .ok (.iinc 2 1, 3) := by decide +kernel
theorem dX0_waterOfAll_22 : decode cX0_waterOfAll 22 = .ok (.goto (-18), 3) := by decide +kernel
theorem dX0_waterOfAll_25 : decode cX0_waterOfAll 25 = .ok (.iload_n 1, 1) := by decide +kernel
theorem dX0_waterOfAll_26 : decode cX0_waterOfAll 26 = .ok (.ireturn, 1) := by decide +kernel
