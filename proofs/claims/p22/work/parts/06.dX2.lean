theorem dX2_init_0 : decode cX2_init 0 = .ok (.aload_n 0, 1) := by decide +kernel
theorem dX2_init_1 : decode cX2_init 1 = .ok (.invokespecial 1, 3) := by decide +kernel
theorem dX2_init_4 : decode cX2_init 4 = .ok (.aload_n 0, 1) := by decide +kernel
theorem dX2_init_5 : decode cX2_init 5 = .ok (.bipush 8, 2) := by decide +kernel
theorem dX2_init_7 : decode cX2_init 7 = .ok (.newarray .int, 2) := by decide +kernel
theorem dX2_init_9 : decode cX2_init 9 = .ok (.dup, 1) := by decide +kernel
theorem dX2_init_10 : decode cX2_init 10 = .ok (.iconst 0, 1) := by decide +kernel
theorem dX2_init_11 : decode cX2_init 11 = .ok (.bipush 8, 2) := by decide +kernel
theorem dX2_init_13 : decode cX2_init 13 = .ok (.iastore, 1) := by decide +kernel
theorem dX2_init_14 : decode cX2_init 14 = .ok (.dup, 1) := by decide +kernel
theorem dX2_init_15 : decode cX2_init 15 = .ok (.iconst 1, 1) := by decide +kernel
theorem dX2_init_16 : decode cX2_init 16 = .ok (.bipush 8, 2) := by decide +kernel
theorem dX2_init_18 : decode cX2_init 18 = .ok (.iastore, 1) := by decide +kernel
theorem dX2_init_19 : decode cX2_init 19 = .ok (.dup, 1) := by decide +kernel
theorem dX2_init_20 : decode cX2_init 20 = .ok (.iconst 2, 1) := by decide +kernel
theorem dX2_init_21 : decode cX2_init 21 = .ok (.bipush 8, 2) := by decide +kernel
theorem dX2_init_23 : decode cX2_init 23 = .ok (.iastore, 1) := by decide +kernel
theorem dX2_init_24 : decode cX2_init 24 = .ok (.dup, 1) := by decide +kernel
theorem dX2_init_25 : decode cX2_init 25 = .ok (.iconst 3, 1) := by decide +kernel
theorem dX2_init_26 : decode cX2_init 26 = .ok (.bipush 8, 2) := by decide +kernel
theorem dX2_init_28 : decode cX2_init 28 = .ok (.iastore, 1) := by decide +kernel
theorem dX2_init_29 : decode cX2_init 29 = .ok (.dup, 1) := by decide +kernel
theorem dX2_init_30 : decode cX2_init 30 = .ok (.iconst 4, 1) := by decide +kernel
theorem dX2_init_31 : decode cX2_init 31 = .ok (.bipush 8, 2) := by decide +kernel
theorem dX2_init_33 : decode cX2_init 33 = .ok (.iastore, 1) := by decide +kernel
theorem dX2_init_34 : decode cX2_init 34 = .ok (.dup, 1) := by decide +kernel
theorem dX2_init_35 : decode cX2_init 35 = .ok (.iconst 5, 1) := by decide +kernel
theorem dX2_init_36 : decode cX2_init 36 = .ok (.bipush 8, 2) := by decide +kernel
theorem dX2_init_38 : decode cX2_init 38 = .ok (.iastore, 1) := by decide +kernel
theorem dX2_init_39 : decode cX2_init 39 = .ok (.dup, 1) := by decide +kernel
theorem dX2_init_40 : decode cX2_init 40 = .ok (.bipush 6, 2) := by decide +kernel
theorem dX2_init_42 : decode cX2_init 42 = .ok (.bipush 8, 2) := by decide +kernel
theorem dX2_init_44 : decode cX2_init 44 = .ok (.iastore, 1) := by decide +kernel
theorem dX2_init_45 : decode cX2_init 45 = .ok (.dup, 1) := by decide +kernel
theorem dX2_init_46 : decode cX2_init 46 = .ok (.bipush 7, 2) := by decide +kernel
theorem dX2_init_48 : decode cX2_init 48 = .ok (.bipush 8, 2) := by decide +kernel
theorem dX2_init_50 : decode cX2_init 50 = .ok (.iastore, 1) := by decide +kernel
theorem dX2_init_51 : decode cX2_init 51 = .ok (.putfield 7, 3) := by decide +kernel
theorem dX2_init_54 : decode cX2_init 54 = .ok (.aload_n 0, 1) := by decide +kernel
theorem dX2_init_55 : decode cX2_init 55 = .ok (.bipush 6, 2) := by decide +kernel
theorem dX2_init_57 : decode cX2_init 57 = .ok (.anewarray 13, 3) := by decide +kernel
theorem dX2_init_60 : decode cX2_init 60 = .ok (.dup, 1) := by decide +kernel
theorem dX2_init_61 : decode cX2_init 61 = .ok (.iconst 0, 1) := by decide +kernel
theorem dX2_init_62 : decode cX2_init 62 = .ok (.iconst 3, 1) := by decide +kernel
theorem dX2_init_63 : decode cX2_init 63 = .ok (.newarray .int, 2) := by decide +kernel
theorem dX2_init_65 : decode cX2_init 65 = .ok (.dup, 1) := by decide +kernel
theorem dX2_init_66 : decode cX2_init 66 = .ok (.iconst 0, 1) := by decide +kernel
theorem dX2_init_67 : decode cX2_init 67 = .ok (.bipush 60, 2) := by decide +kernel
theorem dX2_init_69 : decode cX2_init 69 = .ok (.iastore, 1) := by decide +kernel
theorem dX2_init_70 : decode cX2_init 70 = .ok (.dup, 1) := by decide +kernel
theorem dX2_init_71 : decode cX2_init 71 = .ok (.iconst 1, 1) := by decide +kernel
theorem dX2_init_72 : decode cX2_init 72 = .ok (.iconst 0, 1) := by decide +kernel
theorem dX2_init_73 : decode cX2_init 73 = .ok (.iastore, 1) := by decide +kernel
theorem dX2_init_74 : decode cX2_init 74 = .ok (.dup, 1) := by decide +kernel
theorem dX2_init_75 : decode cX2_init 75 = .ok (.iconst 2, 1) := by decide +kernel
theorem dX2_init_76 : decode cX2_init 76 = .ok (.iconst 0, 1) := by decide +kernel
theorem dX2_init_77 : decode cX2_init 77 = .ok (.iastore, 1) := by decide +kernel
theorem dX2_init_78 : decode cX2_init 78 = .ok (.aastore, 1) := by decide +kernel
theorem dX2_init_79 : decode cX2_init 79 = .ok (.dup, 1) := by decide +kernel
theorem dX2_init_80 : decode cX2_init 80 = .ok (.iconst 1, 1) := by decide +kernel
theorem dX2_init_81 : decode cX2_init 81 = .ok (.iconst 3, 1) := by decide +kernel
theorem dX2_init_82 : decode cX2_init 82 = .ok (.newarray .int, 2) := by decide +kernel
theorem dX2_init_84 : decode cX2_init 84 = .ok (.dup, 1) := by decide +kernel
theorem dX2_init_85 : decode cX2_init 85 = .ok (.iconst 0, 1) := by decide +kernel
theorem dX2_init_86 : decode cX2_init 86 = .ok (.bipush 60, 2) := by decide +kernel
theorem dX2_init_88 : decode cX2_init 88 = .ok (.iastore, 1) := by decide +kernel
theorem dX2_init_89 : decode cX2_init 89 = .ok (.dup, 1) := by decide +kernel
theorem dX2_init_90 : decode cX2_init 90 = .ok (.iconst 1, 1) := by decide +kernel
theorem dX2_init_91 : decode cX2_init 91 = .ok (.iconst 0, 1) := by decide +kernel
theorem dX2_init_92 : decode cX2_init 92 = .ok (.iastore, 1) := by decide +kernel
theorem dX2_init_93 : decode cX2_init 93 = .ok (.dup, 1) := by decide +kernel
theorem dX2_init_94 : decode cX2_init 94 = .ok (.iconst 2, 1) := by decide +kernel
theorem dX2_init_95 : decode cX2_init 95 = .ok (.iconst 0, 1) := by decide +kernel
theorem dX2_init_96 : decode cX2_init 96 = .ok (.iastore, 1) := by decide +kernel
theorem dX2_init_97 : decode cX2_init 97 = .ok (.aastore, 1) := by decide +kernel
theorem dX2_init_98 : decode cX2_init 98 = .ok (.dup, 1) := by decide +kernel
theorem dX2_init_99 : decode cX2_init 99 = .ok (.iconst 2, 1) := by decide +kernel
theorem dX2_init_100 : decode cX2_init 100 = .ok (.iconst 3, 1) := by decide +kernel
theorem dX2_init_101 : decode cX2_init 101 = .ok (.newarray .int, 2) := by decide +kernel
theorem dX2_init_103 : decode cX2_init 103 = .ok (.dup, 1) := by decide +kernel
theorem dX2_init_104 : decode cX2_init 104 = .ok (.iconst 0, 1) := by decide +kernel
theorem dX2_init_105 : decode cX2_init 105 = .ok (.bipush 60, 2) := by decide +kernel
theorem dX2_init_107 : decode cX2_init 107 = .ok (.iastore, 1) := by decide +kernel
theorem dX2_init_108 : decode cX2_init 108 = .ok (.dup, 1) := by decide +kernel
theorem dX2_init_109 : decode cX2_init 109 = .ok (.iconst 1, 1) := by decide +kernel
theorem dX2_init_110 : decode cX2_init 110 = .ok (.iconst 0, 1) := by decide +kernel
theorem dX2_init_111 : decode cX2_init 111 = .ok (.iastore, 1) := by decide +kernel
theorem dX2_init_112 : decode cX2_init 112 = .ok (.dup, 1) := by decide +kernel
theorem dX2_init_113 : decode cX2_init 113 = .ok (.iconst 2, 1) := by decide +kernel
theorem dX2_init_114 : decode cX2_init 114 = .ok (.iconst 0, 1) := by decide +kernel
theorem dX2_init_115 : decode cX2_init 115 = .ok (.iastore, 1) := by decide +kernel
theorem dX2_init_116 : decode cX2_init 116 = .ok (.aastore, 1) := by decide +kernel
theorem dX2_init_117 : decode cX2_init 117 = .ok (.dup, 1) := by decide +kernel
theorem dX2_init_118 : decode cX2_init 118 = .ok (.iconst 3, 1) := by decide +kernel
theorem dX2_init_119 : decode cX2_init 119 = .ok (.iconst 3, 1) := by decide +kernel
theorem dX2_init_120 : decode cX2_init 120 = .ok (.newarray .int, 2) := by decide +kernel
theorem dX2_init_122 : decode cX2_init 122 = .ok (.dup, 1) := by decide +kernel
theorem dX2_init_123 : decode cX2_init 123 = .ok (.iconst 0, 1) := by decide +kernel
theorem dX2_init_124 : decode cX2_init 124 = .ok (.bipush 60, 2) := by decide +kernel
theorem dX2_init_126 : decode cX2_init 126 = .ok (.iastore, 1) := by decide +kernel
theorem dX2_init_127 : decode cX2_init 127 = .ok (.dup, 1) := by decide +kernel
theorem dX2_init_128 : decode cX2_init 128 = .ok (.iconst 1, 1) := by decide +kernel
theorem dX2_init_129 : decode cX2_init 129 = .ok (.iconst 0, 1) := by decide +kernel
theorem dX2_init_130 : decode cX2_init 130 = .ok (.iastore, 1) := by decide +kernel
theorem dX2_init_131 : decode cX2_init 131 = .ok (.dup, 1) := by decide +kernel
theorem dX2_init_132 : decode cX2_init 132 = .ok (.iconst 2, 1) := by decide +kernel
theorem dX2_init_133 : decode cX2_init 133 = .ok (.iconst 0, 1) := by decide +kernel
theorem dX2_init_134 : decode cX2_init 134 = .ok (.iastore, 1) := by decide +kernel
theorem dX2_init_135 : decode cX2_init 135 = .ok (.aastore, 1) := by decide +kernel
theorem dX2_init_136 : decode cX2_init 136 = .ok (.dup, 1) := by decide +kernel
theorem dX2_init_137 : decode cX2_init 137 = .ok (.iconst 4, 1) := by decide +kernel
theorem dX2_init_138 : decode cX2_init 138 = .ok (.iconst 3, 1) := by decide +kernel
theorem dX2_init_139 : decode cX2_init 139 = .ok (.newarray .int, 2) := by decide +kernel
theorem dX2_init_141 : decode cX2_init 141 = .ok (.dup, 1) := by decide +kernel
theorem dX2_init_142 : decode cX2_init 142 = .ok (.iconst 0, 1) := by decide +kernel
theorem dX2_init_143 : decode cX2_init 143 = .ok (.bipush 60, 2) := by decide +kernel
theorem dX2_init_145 : decode cX2_init 145 = .ok (.iastore, 1) := by decide +kernel
theorem dX2_init_146 : decode cX2_init 146 = .ok (.dup, 1) := by decide +kernel
theorem dX2_init_147 : decode cX2_init 147 = .ok (.iconst 1, 1) := by decide +kernel
theorem dX2_init_148 : decode cX2_init 148 = .ok (.iconst 0, 1) := by decide +kernel
theorem dX2_init_149 : decode cX2_init 149 = .ok (.iastore, 1) := by decide +kernel
theorem dX2_init_150 : decode cX2_init 150 = .ok (.dup, 1) := by decide +kernel
theorem dX2_init_151 : decode cX2_init 151 = .ok (.iconst 2, 1) := by decide +kernel
theorem dX2_init_152 : decode cX2_init 152 = .ok (.iconst 0, 1) := by decide +kernel
theorem dX2_init_153 : decode cX2_init 153 = .ok (.iastore, 1) := by decide +kernel
theorem dX2_init_154 : decode cX2_init 154 = .ok (.aastore, 1) := by decide +kernel
theorem dX2_init_155 : decode cX2_init 155 = .ok (.dup, 1) := by decide +kernel
theorem dX2_init_156 : decode cX2_init 156 = .ok (.iconst 5, 1) := by decide +kernel
theorem dX2_init_157 : decode cX2_init 157 = .ok (.iconst 3, 1) := by decide +kernel
theorem dX2_init_158 : decode cX2_init 158 = .ok (.newarray .int, 2) := by decide +kernel
theorem dX2_init_160 : decode cX2_init 160 = .ok (.dup, 1) := by decide +kernel
theorem dX2_init_161 : decode cX2_init 161 = .ok (.iconst 0, 1) := by decide +kernel
theorem dX2_init_162 : decode cX2_init 162 = .ok (.bipush 60, 2) := by decide +kernel
theorem dX2_init_164 : decode cX2_init 164 = .ok (.iastore, 1) := by decide +kernel
theorem dX2_init_165 : decode cX2_init 165 = .ok (.dup, 1) := by decide +kernel
theorem dX2_init_166 : decode cX2_init 166 = .ok (.iconst 1, 1) := by decide +kernel
theorem dX2_init_167 : decode cX2_init 167 = .ok (.iconst 0, 1) := by decide +kernel
theorem dX2_init_168 : decode cX2_init 168 = .ok (.iastore, 1) := by decide +kernel
theorem dX2_init_169 : decode cX2_init 169 = .ok (.dup, 1) := by decide +kernel
theorem dX2_init_170 : decode cX2_init 170 = .ok (.iconst 2, 1) := by decide +kernel
theorem dX2_init_171 : decode cX2_init 171 = .ok (.iconst 0, 1) := by decide +kernel
theorem dX2_init_172 : decode cX2_init 172 = .ok (.iastore, 1) := by decide +kernel
theorem dX2_init_173 : decode cX2_init 173 = .ok (.aastore, 1) := by decide +kernel
theorem dX2_init_174 : decode cX2_init 174 = .ok (.putfield 14, 3) := by decide +kernel
theorem dX2_init_177 : decode cX2_init 177 = .ok (.aload_n 0, 1) := by decide +kernel
theorem dX2_init_178 : decode cX2_init 178 = .ok (.iconst 5, 1) := by decide +kernel
theorem dX2_init_179 : decode cX2_init 179 = .ok (.anewarray 13, 3) := by decide +kernel
theorem dX2_init_182 : decode cX2_init 182 = .ok (.dup, 1) := by decide +kernel
theorem dX2_init_183 : decode cX2_init 183 = .ok (.iconst 0, 1) := by decide +kernel
theorem dX2_init_184 : decode cX2_init 184 = .ok (.iconst 3, 1) := by decide +kernel
theorem dX2_init_185 : decode cX2_init 185 = .ok (.newarray .int, 2) := by decide +kernel
theorem dX2_init_187 : decode cX2_init 187 = .ok (.dup, 1) := by decide +kernel
theorem dX2_init_188 : decode cX2_init 188 = .ok (.iconst 0, 1) := by decide +kernel
theorem dX2_init_189 : decode cX2_init 189 = .ok (.iconst 0, 1) := by decide +kernel
theorem dX2_init_190 : decode cX2_init 190 = .ok (.iastore, 1) := by decide +kernel
theorem dX2_init_191 : decode cX2_init 191 = .ok (.dup, 1) := by decide +kernel
theorem dX2_init_192 : decode cX2_init 192 = .ok (.iconst 1, 1) := by decide +kernel
theorem dX2_init_193 : decode cX2_init 193 = .ok (.iconst 0, 1) := by decide +kernel
theorem dX2_init_194 : decode cX2_init 194 = .ok (.iastore, 1) := by decide +kernel
theorem dX2_init_195 : decode cX2_init 195 = .ok (.dup, 1) := by decide +kernel
theorem dX2_init_196 : decode cX2_init 196 = .ok (.iconst 2, 1) := by decide +kernel
theorem dX2_init_197 : decode cX2_init 197 = .ok (.iconst 0, 1) := by decide +kernel
theorem dX2_init_198 : decode cX2_init 198 = .ok (.iastore, 1) := by decide +kernel
theorem dX2_init_199 : decode cX2_init 199 = .ok (.aastore, 1) := by decide +kernel
theorem dX2_init_200 : decode cX2_init 200 = .ok (.dup, 1) := by decide +kernel
theorem dX2_init_201 : decode cX2_init 201 = .ok (.iconst 1, 1) := by decide +kernel
theorem dX2_init_202 : decode cX2_init 202 = .ok (.iconst 3, 1) := by decide +kernel
theorem dX2_init_203 : decode cX2_init 203 = .ok (.newarray .int, 2) := by decide +kernel
theorem dX2_init_205 : decode cX2_init 205 = .ok (.dup, 1) := by decide +kernel
theorem dX2_init_206 : decode cX2_init 206 = .ok (.iconst 0, 1) := by decide +kernel
theorem dX2_init_207 : decode cX2_init 207 = .ok (.iconst 0, 1) := by decide +kernel
theorem dX2_init_208 : decode cX2_init 208 = .ok (.iastore, 1) := by decide +kernel
theorem dX2_init_209 : decode cX2_init 209 = .ok (.dup, 1) := by decide +kernel
theorem dX2_init_210 : decode cX2_init 210 = .ok (.iconst 1, 1) := by decide +kernel
theorem dX2_init_211 : decode cX2_init 211 = .ok (.iconst 0, 1) := by decide +kernel
theorem dX2_init_212 : decode cX2_init 212 = .ok (.iastore, 1) := by decide +kernel
theorem dX2_init_213 : decode cX2_init 213 = .ok (.dup, 1) := by decide +kernel
theorem dX2_init_214 : decode cX2_init 214 = .ok (.iconst 2, 1) := by decide +kernel
theorem dX2_init_215 : decode cX2_init 215 = .ok (.iconst 0, 1) := by decide +kernel
theorem dX2_init_216 : decode cX2_init 216 = .ok (.iastore, 1) := by decide +kernel
theorem dX2_init_217 : decode cX2_init 217 = .ok (.aastore, 1) := by decide +kernel
theorem dX2_init_218 : decode cX2_init 218 = .ok (.dup, 1) := by decide +kernel
theorem dX2_init_219 : decode cX2_init 219 = .ok (.iconst 2, 1) := by decide +kernel
theorem dX2_init_220 : decode cX2_init 220 = .ok (.iconst 3, 1) := by decide +kernel
theorem dX2_init_221 : decode cX2_init 221 = .ok (.newarray .int, 2) := by decide +kernel
theorem dX2_init_223 : decode cX2_init 223 = .ok (.dup, 1) := by decide +kernel
theorem dX2_init_224 : decode cX2_init 224 = .ok (.iconst 0, 1) := by decide +kernel
theorem dX2_init_225 : decode cX2_init 225 = .ok (.iconst 0, 1) := by decide +kernel
theorem dX2_init_226 : decode cX2_init 226 = .ok (.iastore, 1) := by decide +kernel
theorem dX2_init_227 : decode cX2_init 227 = .ok (.dup, 1) := by decide +kernel
theorem dX2_init_228 : decode cX2_init 228 = .ok (.iconst 1, 1) := by decide +kernel
theorem dX2_init_229 : decode cX2_init 229 = .ok (.iconst 0, 1) := by decide +kernel
theorem dX2_init_230 : decode cX2_init 230 = .ok (.iastore, 1) := by decide +kernel
theorem dX2_init_231 : decode cX2_init 231 = .ok (.dup, 1) := by decide +kernel
theorem dX2_init_232 : decode cX2_init 232 = .ok (.iconst 2, 1) := by decide +kernel
theorem dX2_init_233 : decode cX2_init 233 = .ok (.iconst 0, 1) := by decide +kernel
theorem dX2_init_234 : decode cX2_init 234 = .ok (.iastore, 1) := by decide +kernel
theorem dX2_init_235 : decode cX2_init 235 = .ok (.aastore, 1) := by decide +kernel
theorem dX2_init_236 : decode cX2_init 236 = .ok (.dup, 1) := by decide +kernel
theorem dX2_init_237 : decode cX2_init 237 = .ok (.iconst 3, 1) := by decide +kernel
theorem dX2_init_238 : decode cX2_init 238 = .ok (.iconst 3, 1) := by decide +kernel
theorem dX2_init_239 : decode cX2_init 239 = .ok (.newarray .int, 2) := by decide +kernel
theorem dX2_init_241 : decode cX2_init 241 = .ok (.dup, 1) := by decide +kernel
theorem dX2_init_242 : decode cX2_init 242 = .ok (.iconst 0, 1) := by decide +kernel
theorem dX2_init_243 : decode cX2_init 243 = .ok (.iconst 0, 1) := by decide +kernel
theorem dX2_init_244 : decode cX2_init 244 = .ok (.iastore, 1) := by decide +kernel
theorem dX2_init_245 : decode cX2_init 245 = .ok (.dup, 1) := by decide +kernel
theorem dX2_init_246 : decode cX2_init 246 = .ok (.iconst 1, 1) := by decide +kernel
theorem dX2_init_247 : decode cX2_init 247 = .ok (.iconst 0, 1) := by decide +kernel
theorem dX2_init_248 : decode cX2_init 248 = .ok (.iastore, 1) := by decide +kernel
theorem dX2_init_249 : decode cX2_init 249 = .ok (.dup, 1) := by decide +kernel
theorem dX2_init_250 : decode cX2_init 250 = .ok (.iconst 2, 1) := by decide +kernel
theorem dX2_init_251 : decode cX2_init 251 = .ok (.iconst 0, 1) := by decide +kernel
theorem dX2_init_252 : decode cX2_init 252 = .ok (.iastore, 1) := by decide +kernel
theorem dX2_init_253 : decode cX2_init 253 = .ok (.aastore, 1) := by decide +kernel
theorem dX2_init_254 : decode cX2_init 254 = .ok (.dup, 1) := by decide +kernel
theorem dX2_init_255 : decode cX2_init 255 = .ok (.iconst 4, 1) := by decide +kernel
theorem dX2_init_256 : decode cX2_init 256 = .ok (.iconst 3, 1) := by decide +kernel
theorem dX2_init_257 : decode cX2_init 257 = .ok (.newarray .int, 2) := by decide +kernel
theorem dX2_init_259 : decode cX2_init 259 = .ok (.dup, 1) := by decide +kernel
theorem dX2_init_260 : decode cX2_init 260 = .ok (.iconst 0, 1) := by decide +kernel
theorem dX2_init_261 : decode cX2_init 261 = .ok (.iconst 0, 1) := by decide +kernel
theorem dX2_init_262 : decode cX2_init 262 = .ok (.iastore, 1) := by decide +kernel
theorem dX2_init_263 : decode cX2_init 263 = .ok (.dup, 1) := by decide +kernel
theorem dX2_init_264 : decode cX2_init 264 = .ok (.iconst 1, 1) := by decide +kernel
theorem dX2_init_265 : decode cX2_init 265 = .ok (.iconst 0, 1) := by decide +kernel
theorem dX2_init_266 : decode cX2_init 266 = .ok (.iastore, 1) := by decide +kernel
theorem dX2_init_267 : decode cX2_init 267 = .ok (.dup, 1) := by decide +kernel
theorem dX2_init_268 : decode cX2_init 268 = .ok (.iconst 2, 1) := by decide +kernel
theorem dX2_init_269 : decode cX2_init 269 = .ok (.iconst 0, 1) := by decide +kernel
theorem dX2_init_270 : decode cX2_init 270 = .ok (.iastore, 1) := by decide +kernel
theorem dX2_init_271 : decode cX2_init 271 = .ok (.aastore, 1) := by decide +kernel
theorem dX2_init_272 : decode cX2_init 272 = .ok (.putfield 18, 3) := by decide +kernel
theorem dX2_init_275 : decode cX2_init 275 = .ok (.aload_n 0, 1) := by decide +kernel
theorem dX2_init_276 : decode cX2_init 276 = .ok (.iconst (-1), 1) := by decide +kernel
theorem dX2_init_277 : decode cX2_init 277 = .ok (.putfield 21, 3) := by decide +kernel
theorem dX2_init_280 : decode cX2_init 280 = .ok (.aload_n 0, 1) := by decide +kernel
theorem dX2_init_281 : decode cX2_init 281 = .ok (.bipush 50, 2) := by decide +kernel
theorem dX2_init_283 : decode cX2_init 283 = .ok (.putfield 25, 3) := by decide +kernel
theorem dX2_init_286 : decode cX2_init 286 = .ok (.aload_n 0, 1) := by decide +kernel
theorem dX2_init_287 : decode cX2_init 287 = .ok (.iconst 1, 1) := by decide +kernel
theorem dX2_init_288 : decode cX2_init 288 = .ok (.putfield 28, 3) := by decide +kernel
theorem dX2_init_291 : decode cX2_init 291 = .ok (.aload_n 0, 1) := by decide +kernel
theorem dX2_init_292 : decode cX2_init 292 = .ok (.iconst 0, 1) := by decide +kernel
theorem dX2_init_293 : decode cX2_init 293 = .ok (.anewarray 13, 3) := by decide +kernel
theorem dX2_init_296 : decode cX2_init 296 = .ok (.putfield 31, 3) := by decide +kernel
theorem dX2_init_299 : decode cX2_init 299 = .ok (.return_, 1) := by decide +kernel
theorem dX2_come_0 : decode cX2_come 0 = .ok (.aload_n 0, 1) := by decide +kernel
theorem dX2_come_1 : decode cX2_come 1 = .ok (.getfield 31, 3) := by decide +kernel
theorem dX2_come_4 : decode cX2_come 4 = .ok (.arraylength, 1) := by decide +kernel
theorem dX2_come_5 : decode cX2_come 5 = .ok (.iconst 1, 1) := by decide +kernel
theorem dX2_come_6 : decode cX2_come 6 = .ok (.iadd, 1) := by decide +kernel
theorem dX2_come_7 : decode cX2_come 7 = .ok (.anewarray 13, 3) := by decide +kernel
theorem dX2_come_10 : decode cX2_come 10 = .ok (.astore 4, 2) := by decide +kernel
theorem dX2_come_12 : decode cX2_come 12 = .ok (.iconst 0, 1) := by decide +kernel
theorem dX2_come_13 : decode cX2_come 13 = .ok (.istore 5, 2) := by decide +kernel
theorem dX2_come_15 : decode cX2_come 15 = .ok (.iload 5, 2) := by decide +kernel
theorem dX2_come_17 : decode cX2_come 17 = .ok (.aload_n 0, 1) := by decide +kernel
theorem dX2_come_18 : decode cX2_come 18 = .ok (.getfield 31, 3) := by decide +kernel
theorem dX2_come_21 : decode cX2_come 21 = .ok (.arraylength, 1) := by decide +kernel
theorem dX2_come_22 : decode cX2_come 22 = .ok (.if_icmp .ge 21, 3) := by decide +kernel
theorem dX2_come_25 : decode cX2_come 25 = .ok (.aload 4, 2) := by decide +kernel
theorem dX2_come_27 : decode cX2_come 27 = .ok (.iload 5, 2) := by decide +kernel
theorem dX2_come_29 : decode cX2_come 29 = .ok (.aload_n 0, 1) := by decide +kernel
theorem dX2_come_30 : decode cX2_come 30 = .ok (.getfield 31, 3) := by decide +kernel
theorem dX2_come_33 : decode cX2_come 33 = .ok (.iload 5, 2) := by decide +kernel
theorem dX2_come_35 : decode cX2_come 35 = .ok (.aaload, 1) := by decide +kernel
theorem dX2_come_36 : decode cX2_come 36 = .ok (.aastore, 1) := by decide +kernel
theorem dX2_come_37 : decode cX2_come 37 = .ok (.iinc 5 1, 3) := by decide +kernel
theorem dX2_come_40 : decode cX2_come 40 = .ok (.goto (-25), 3) := by decide +kernel
theorem dX2_come_43 : decode cX2_come 43 = .ok (.aload 4, 2) := by decide +kernel
theorem dX2_come_45 : decode cX2_come 45 = .ok (.aload_n 0, 1) := by decide +kernel
theorem dX2_come_46 : decode cX2_come 46 = .ok (.getfield 31, 3) := by decide +kernel
theorem dX2_come_49 : decode cX2_come 49 = .ok (.arraylength, 1) := by decide +kernel
theorem dX2_come_50 : decode cX2_come 50 = .ok (.iconst 4, 1) := by decide +kernel
theorem dX2_come_51 : decode cX2_come 51 = .ok (.newarray .int, 2) := by decide +kernel
theorem dX2_come_53 : decode cX2_come 53 = .ok (.dup, 1) := by decide +kernel
theorem dX2_come_54 : decode cX2_come 54 = .ok (.iconst 0, 1) := by decide +kernel
theorem dX2_come_55 : decode cX2_come 55 = .ok (.iload_n 1, 1) := by decide +kernel
theorem dX2_come_56 : decode cX2_come 56 = .ok (.iastore, 1) := by decide +kernel
theorem dX2_come_57 : decode cX2_come 57 = .ok (.dup, 1) := by decide +kernel
theorem dX2_come_58 : decode cX2_come 58 = .ok (.iconst 1, 1) := by decide +kernel
theorem dX2_come_59 : decode cX2_come 59 = .ok (.iload_n 2, 1) := by decide +kernel
theorem dX2_come_60 : decode cX2_come 60 = .ok (.iastore, 1) := by decide +kernel
theorem dX2_come_61 : decode cX2_come 61 = .ok (.dup, 1) := by decide +kernel
theorem dX2_come_62 : decode cX2_come 62 = .ok (.iconst 2, 1) := by decide +kernel
theorem dX2_come_63 : decode cX2_come 63 = .ok (.iload_n 3, 1) := by decide +kernel
theorem dX2_come_64 : decode cX2_come 64 = .ok (.iastore, 1) := by decide +kernel
theorem dX2_come_65 : decode cX2_come 65 = .ok (.dup, 1) := by decide +kernel
theorem dX2_come_66 : decode cX2_come 66 = .ok (.iconst 3, 1) := by decide +kernel
theorem dX2_come_67 : decode cX2_come 67 = .ok (.iconst 0, 1) := by decide +kernel
theorem dX2_come_68 : decode cX2_come 68 = .ok (.iastore, 1) := by decide +kernel
theorem dX2_come_69 : decode cX2_come 69 = .ok (.aastore, 1) := by decide +kernel
theorem dX2_come_70 : decode cX2_come 70 = .ok (.aload_n 0, 1) := by decide +kernel
theorem dX2_come_71 : decode cX2_come 71 = .ok (.aload 4, 2) := by decide +kernel
theorem dX2_come_73 : decode cX2_come 73 = .ok (.putfield 31, 3) := by decide +kernel
theorem dX2_come_76 : decode cX2_come 76 = .ok (.return_, 1) := by decide +kernel
set_option maxRecDepth 20000 in
theorem ggX2_into_X2_into : GoodIn wsX2_into wsX2_into := goodIn_r _ [0, 1, 2, 3, 4, 5, 6, 7, 8, 9, 10, 11, 12, 13, 14, 15, 16, 17] (by decide +kernel) (by decide +kernel)
set_option maxRecDepth 20000 in
theorem gX2_into_X2_into : GoodIn wsX2_into (wsV RX2 56 RX2 yX2_into wsX2_into) := goodIn_app (goodIn_of _ (by decide +kernel)) ggX2_into_X2_into
theorem dX2_into_0 : decode cX2_into 0 = .ok (.iload_n 1, 1) := by decide +kernel
theorem dX2_into_1 : decode cX2_into 1 = .ok (.ifCond .ge 14, 3) := by decide +kernel
theorem dX2_into_4 : decode cX2_into 4 = .ok (.aload_n 0, 1) := by decide +kernel
theorem dX2_into_5 : decode cX2_into 5 = .ok (.dup, 1) := by decide +kernel
theorem dX2_into_6 : decode cX2_into 6 = .ok (.getfield 46, 3) := by decide +kernel
theorem dX2_into_9 : decode cX2_into 9 = .ok (.iload_n 2, 1) := by decide +kernel
theorem dX2_into_10 : decode cX2_into 10 = .ok (.iadd, 1) := by decide +kernel
theorem dX2_into_11 : decode cX2_into 11 = .ok (.putfield 46, 3) := by decide +kernel
theorem dX2_into_14 : decode cX2_into 14 = .ok (.return_, 1) := by decide +kernel
theorem dX2_into_15 : decode cX2_into 15 = .ok (.aload_n 0, 1) := by decide +kernel
theorem dX2_into_16 : decode cX2_into 16 = .ok (.getfield 14, 3) := by decide +kernel
theorem dX2_into_19 : decode cX2_into 19 = .ok (.iload_n 1, 1) := by decide +kernel
theorem dX2_into_20 : decode cX2_into 20 = .ok (.aaload, 1) := by decide +kernel
theorem dX2_into_21 : decode cX2_into 21 = .ok (.astore_n 3, 1) := by decide +kernel
theorem dX2_into_22 : decode cX2_into 22 = .ok (.aload_n 3, 1) := by decide +kernel
theorem dX2_into_23 : decode cX2_into 23 = .ok (.iconst 0, 1) := by decide +kernel
theorem dX2_into_24 : decode cX2_into 24 = .ok (.dup2, 1) := by decide +kernel
theorem dX2_into_25 : decode cX2_into 25 = .ok (.iaload, 1) := by decide +kernel
theorem dX2_into_26 : decode cX2_into 26 = .ok (.iload_n 2, 1) := by decide +kernel
theorem dX2_into_27 : decode cX2_into 27 = .ok (.iadd, 1) := by decide +kernel
theorem dX2_into_28 : decode cX2_into 28 = .ok (.iastore, 1) := by decide +kernel
theorem dX2_into_29 : decode cX2_into 29 = .ok (.aload_n 3, 1) := by decide +kernel
theorem dX2_into_30 : decode cX2_into 30 = .ok (.iconst 0, 1) := by decide +kernel
theorem dX2_into_31 : decode cX2_into 31 = .ok (.iaload, 1) := by decide +kernel
theorem dX2_into_32 : decode cX2_into 32 = .ok (.bipush 100, 2) := by decide +kernel
theorem dX2_into_34 : decode cX2_into 34 = .ok (.if_icmp .gt 4, 3) := by decide +kernel
theorem dX2_into_37 : decode cX2_into 37 = .ok (.return_, 1) := by decide +kernel
theorem dX2_into_38 : decode cX2_into 38 = .ok (.aload_n 3, 1) := by decide +kernel
theorem dX2_into_39 : decode cX2_into 39 = .ok (.iconst 0, 1) := by decide +kernel
theorem dX2_into_40 : decode cX2_into 40 = .ok (.iaload, 1) := by decide +kernel
theorem dX2_into_41 : decode cX2_into 41 = .ok (.bipush 100, 2) := by decide +kernel
theorem dX2_into_43 : decode cX2_into 43 = .ok (.isub, 1) := by decide +kernel
theorem dX2_into_44 : decode cX2_into 44 = .ok (.istore 4, 2) := by decide +kernel
theorem dX2_into_46 : decode cX2_into 46 = .ok (.aload_n 3, 1) := by decide +kernel
theorem dX2_into_47 : decode cX2_into 47 = .ok (.iconst 0, 1) := by decide +kernel
theorem dX2_into_48 : decode cX2_into 48 = .ok (.bipush 100, 2) := by decide +kernel
theorem dX2_into_50 : decode cX2_into 50 = .ok (.iastore, 1) := by decide +kernel
theorem dX2_into_51 : decode cX2_into 51 = .ok (.aload_n 3, 1) := by decide +kernel
theorem dX2_into_52 : decode cX2_into 52 = .ok (.iconst 1, 1) := by decide +kernel
theorem dX2_into_53 : decode cX2_into 53 = .ok (.dup2, 1) := by decide +kernel
theorem dX2_into_54 : decode cX2_into 54 = .ok (.iaload, 1) := by decide +kernel
theorem dX2_into_55 : decode cX2_into 55 = .ok (.iload 4, 2) := by decide +kernel
theorem dX2_into_57 : decode cX2_into 57 = .ok (.iadd, 1) := by decide +kernel
theorem dX2_into_58 : decode cX2_into 58 = .ok (.iastore, 1) := by decide +kernel
theorem dX2_into_59 : decode cX2_into 59 = .ok (.aload_n 0, 1) := by decide +kernel
theorem dX2_into_60 : decode cX2_into 60 = .ok (.iload_n 1, 1) := by decide +kernel
theorem dX2_into_61 : decode cX2_into 61 = .ok (.iconst 1, 1) := by decide +kernel
theorem dX2_into_62 : decode cX2_into 62 = .ok (.isub, 1) := by decide +kernel
theorem dX2_into_63 : decode cX2_into 63 = .ok (.iload 4, 2) := by decide +kernel
theorem dX2_into_65 : decode cX2_into 65 = .ok (.invokevirtual 56, 3) := by decide +kernel
theorem dX2_into_68 : decode cX2_into 68 = .ok (.return_, 1) := by decide +kernel
set_option maxRecDepth 20000 in
theorem ggX2_turn_X2_into : GoodIn wsX2_turn wsX2_into := goodIn_r _ [7, 8, 2, 3, 4, 5, 6, 9, 10, 11, 12, 13, 14, 15, 16, 17, 18, 19] (by decide +kernel) (by decide +kernel)
set_option maxRecDepth 20000 in
theorem gX2_turn_X2_into : GoodIn wsX2_turn (wsV RX2 56 RX2 yX2_into wsX2_into) := goodIn_app (goodIn_of _ (by decide +kernel)) ggX2_turn_X2_into
theorem dX2_turn_0 : decode cX2_turn 0 = .ok (.aload_n 0, 1) := by decide +kernel
theorem dX2_turn_1 : decode cX2_turn 1 = .ok (.getfield 18, 3) := by decide +kernel
theorem dX2_turn_4 : decode cX2_turn 4 = .ok (.iload_n 1, 1) := by decide +kernel
theorem dX2_turn_5 : decode cX2_turn 5 = .ok (.aaload, 1) := by decide +kernel
theorem dX2_turn_6 : decode cX2_turn 6 = .ok (.astore_n 2, 1) := by decide +kernel
theorem dX2_turn_7 : decode cX2_turn 7 = .ok (.aload_n 2, 1) := by decide +kernel
theorem dX2_turn_8 : decode cX2_turn 8 = .ok (.iconst 0, 1) := by decide +kernel
theorem dX2_turn_9 : decode cX2_turn 9 = .ok (.iaload, 1) := by decide +kernel
theorem dX2_turn_10 : decode cX2_turn 10 = .ok (.iconst 1, 1) := by decide +kernel
theorem dX2_turn_11 : decode cX2_turn 11 = .ok (.if_icmp .ne 17, 3) := by decide +kernel
theorem dX2_turn_14 : decode cX2_turn 14 = .ok (.aload_n 2, 1) := by decide +kernel
theorem dX2_turn_15 : decode cX2_turn 15 = .ok (.iconst 0, 1) := by decide +kernel
theorem dX2_turn_16 : decode cX2_turn 16 = .ok (.iconst 0, 1) := by decide +kernel
theorem dX2_turn_17 : decode cX2_turn 17 = .ok (.iastore, 1) := by decide +kernel
theorem dX2_turn_18 : decode cX2_turn 18 = .ok (.aload_n 0, 1) := by decide +kernel
theorem dX2_turn_19 : decode cX2_turn 19 = .ok (.iload_n 1, 1) := by decide +kernel
theorem dX2_turn_20 : decode cX2_turn 20 = .ok (.bipush 12, 2) := by decide +kernel
theorem dX2_turn_22 : decode cX2_turn 22 = .ok (.invokevirtual 56, 3) := by decide +kernel
theorem dX2_turn_25 : decode cX2_turn 25 = .ok (.goto 30, 3) := by decide +kernel
theorem dX2_turn_28 : decode cX2_turn 28 = .ok (.aload_n 0, 1) := by decide +kernel
theorem dX2_turn_29 : decode cX2_turn 29 = .ok (.getfield 14, 3) := by decide +kernel
theorem dX2_turn_32 : decode cX2_turn 32 = .ok (.iload_n 1, 1) := by decide +kernel
theorem dX2_turn_33 : decode cX2_turn 33 = .ok (.iconst 1, 1) := by decide +kernel
theorem dX2_turn_34 : decode cX2_turn 34 = .ok (.iadd, 1) := by decide +kernel
theorem dX2_turn_35 : decode cX2_turn 35 = .ok (.aaload, 1) := by decide +kernel
theorem dX2_turn_36 : decode cX2_turn 36 = .ok (.iconst 0, 1) := by decide +kernel
theorem dX2_turn_37 : decode cX2_turn 37 = .ok (.dup2, 1) := by decide +kernel
theorem dX2_turn_38 : decode cX2_turn 38 = .ok (.iaload, 1) := by decide +kernel
theorem dX2_turn_39 : decode cX2_turn 39 = .ok (.bipush 12, 2) := by decide +kernel
theorem dX2_turn_41 : decode cX2_turn 41 = .ok (.isub, 1) := by decide +kernel
theorem dX2_turn_42 : decode cX2_turn 42 = .ok (.iastore, 1) := by decide +kernel
theorem dX2_turn_43 : decode cX2_turn 43 = .ok (.aload_n 2, 1) := by decide +kernel
theorem dX2_turn_44 : decode cX2_turn 44 = .ok (.iconst 0, 1) := by decide +kernel
theorem dX2_turn_45 : decode cX2_turn 45 = .ok (.iconst 1, 1) := by decide +kernel
theorem dX2_turn_46 : decode cX2_turn 46 = .ok (.iastore, 1) := by decide +kernel
theorem dX2_turn_47 : decode cX2_turn 47 = .ok (.aload_n 2, 1) := by decide +kernel
theorem dX2_turn_48 : decode cX2_turn 48 = .ok (.iconst 2, 1) := by decide +kernel
theorem dX2_turn_49 : decode cX2_turn 49 = .ok (.dup2, 1) := by decide +kernel
theorem dX2_turn_50 : decode cX2_turn 50 = .ok (.iaload, 1) := by decide +kernel
theorem dX2_turn_51 : decode cX2_turn 51 = .ok (.bipush 12, 2) := by decide +kernel
theorem dX2_turn_53 : decode cX2_turn 53 = .ok (.iadd, 1) := by decide +kernel
theorem dX2_turn_54 : decode cX2_turn 54 = .ok (.iastore, 1) := by decide +kernel
theorem dX2_turn_55 : decode cX2_turn 55 = .ok (.return_, 1) := by decide +kernel
theorem dX2_hasWater_0 : decode cX2_hasWater 0 = .ok (.aload_n 0, 1) := by decide +kernel
theorem dX2_hasWater_1 : decode cX2_hasWater 1 = .ok (.getfield 14, 3) := by decide +kernel
theorem dX2_hasWater_4 : decode cX2_hasWater 4 = .ok (.iload_n 1, 1) := by decide +kernel
theorem dX2_hasWater_5 : decode cX2_hasWater 5 = .ok (.iconst 1, 1) := by decide +kernel
theorem dX2_hasWater_6 : decode cX2_hasWater 6 = .ok (.iadd, 1) := by decide +kernel
theorem dX2_hasWater_7 : decode cX2_hasWater 7 = .ok (.aaload, 1) := by decide +kernel
theorem dX2_hasWater_8 : decode cX2_hasWater 8 = .ok (.iconst 0, 1) := by decide +kernel
theorem dX2_hasWater_9 : decode cX2_hasWater 9 = .ok (.iaload, 1) := by decide +kernel
theorem dX2_hasWater_10 : decode cX2_hasWater 10 = .ok (.bipush 12, 2) := by decide +kernel
theorem dX2_hasWater_12 : decode cX2_hasWater 12 = .ok (.isub, 1) := by decide +kernel
theorem dX2_hasWater_13 : decode cX2_hasWater 13 = .ok (.bipush 20, 2) := by decide +kernel
theorem dX2_hasWater_15 : decode cX2_hasWater 15 = .ok (.if_icmp .lt 7, 3) := by decide +kernel
theorem dX2_hasWater_18 : decode cX2_hasWater 18 = .ok (.iconst 1, 1) := by decide +kernel
theorem dX2_hasWater_19 : decode cX2_hasWater 19 = .ok (.goto 4, 3) := by decide +kernel
theorem dX2_hasWater_22 : decode cX2_hasWater 22 = .ok (.iconst 0, 1) := by decide +kernel
theorem dX2_hasWater_23 : decode cX2_hasWater 23 = .ok (.ireturn, 1) := by decide +kernel
theorem dX2_lockOf_0 : decode cX2_lockOf 0 = .ok (.aload_n 1, 1) := by decide +kernel
theorem dX2_lockOf_1 : decode cX2_lockOf 1 = .ok (.iconst 0, 1) := by decide +kernel
theorem dX2_lockOf_2 : decode cX2_lockOf 2 = .ok (.iaload, 1) := by decide +kernel
theorem dX2_lockOf_3 : decode cX2_lockOf 3 = .ok (.aload_n 1, 1) := by decide +kernel
theorem dX2_lockOf_4 : decode cX2_lockOf 4 = .ok (.iconst 1, 1) := by decide +kernel
theorem dX2_lockOf_5 : decode cX2_lockOf 5 = .ok (.iaload, 1) := by decide +kernel
theorem dX2_lockOf_6 : decode cX2_lockOf 6 = .ok (.if_icmp .ne 5, 3) := by decide +kernel
theorem dX2_lockOf_9 : decode cX2_lockOf 9 = .ok (.iconst (-1), 1) := by decide +kernel
theorem dX2_lockOf_10 : decode cX2_lockOf 10 = .ok (.ireturn, 1) := by decide +kernel
theorem dX2_lockOf_11 : decode cX2_lockOf 11 = .ok (.aload_n 1, 1) := by decide +kernel
theorem dX2_lockOf_12 : decode cX2_lockOf 12 = .ok (.iconst 1, 1) := by decide +kernel
theorem dX2_lockOf_13 : decode cX2_lockOf 13 = .ok (.iaload, 1) := by decide +kernel
theorem dX2_lockOf_14 : decode cX2_lockOf 14 = .ok (.aload_n 1, 1) := by decide +kernel
theorem dX2_lockOf_15 : decode cX2_lockOf 15 = .ok (.iconst 0, 1) := by decide +kernel
theorem dX2_lockOf_16 : decode cX2_lockOf 16 = .ok (.iaload, 1) := by decide +kernel
theorem dX2_lockOf_17 : decode cX2_lockOf 17 = .ok (.if_icmp .le 9, 3) := by decide +kernel
theorem dX2_lockOf_20 : decode cX2_lockOf 20 = .ok (.aload_n 1, 1) := by decide +kernel
theorem dX2_lockOf_21 : decode cX2_lockOf 21 = .ok (.iconst 0, 1) := by decide +kernel
theorem dX2_lockOf_22 : decode cX2_lockOf 22 = .ok (.iaload, 1) := by decide +kernel
theorem dX2_lockOf_23 : decode cX2_lockOf 23 = .ok (.goto 8, 3) := by decide +kernel
theorem dX2_lockOf_26 : decode cX2_lockOf 26 = .ok (.aload_n 1, 1) := by decide +kernel
theorem dX2_lockOf_27 : decode cX2_lockOf 27 = .ok (.iconst 0, 1) := by decide +kernel
theorem dX2_lockOf_28 : decode cX2_lockOf 28 = .ok (.iaload, 1) := by decide +kernel
theorem dX2_lockOf_29 : decode cX2_lockOf 29 = .ok (.iconst 1, 1) := by decide +kernel
theorem dX2_lockOf_30 : decode cX2_lockOf 30 = .ok (.isub, 1) := by decide +kernel
theorem dX2_lockOf_31 : decode cX2_lockOf 31 = .ok (.ireturn, 1) := by decide +kernel
set_option maxRecDepth 20000 in
theorem ggX2_rank_X2_lockOf : GoodIn wsX2_rank wsX2_lockOf := goodIn_r _ [8] (by decide +kernel) (by decide +kernel)
set_option maxRecDepth 20000 in
theorem gX2_rank_X2_lockOf : GoodIn wsX2_rank (wsV RX2 60 RX2 yX2_lockOf wsX2_lockOf) := goodIn_app (goodIn_of _ (by decide +kernel)) ggX2_rank_X2_lockOf
set_option maxRecDepth 20000 in
theorem ggX2_rank_X2_hasWater : GoodIn wsX2_rank wsX2_hasWater := goodIn_r _ [12, 13, 14, 15, 16, 17, 18, 19, 20, 21, 22, 23, 24] (by decide +kernel) (by decide +kernel)
set_option maxRecDepth 20000 in
theorem gX2_rank_X2_hasWater : GoodIn wsX2_rank (wsV RX2 64 RX2 yX2_hasWater wsX2_hasWater) := goodIn_app (goodIn_of _ (by decide +kernel)) ggX2_rank_X2_hasWater
theorem dX2_rank_0 : decode cX2_rank 0 = .ok (.aload_n 0, 1) := by decide +kernel
theorem dX2_rank_1 : decode cX2_rank 1 = .ok (.aload_n 1, 1) := by decide +kernel
theorem dX2_rank_2 : decode cX2_rank 2 = .ok (.invokevirtual 60, 3) := by decide +kernel
theorem dX2_rank_5 : decode cX2_rank 5 = .ok (.iload_n 2, 1) := by decide +kernel
theorem dX2_rank_6 : decode cX2_rank 6 = .ok (.if_icmp .ne 13, 3) := by decide +kernel
theorem dX2_rank_9 : decode cX2_rank 9 = .ok (.aload_n 1, 1) := by decide +kernel
theorem dX2_rank_10 : decode cX2_rank 10 = .ok (.iconst 2, 1) := by decide +kernel
theorem dX2_rank_11 : decode cX2_rank 11 = .ok (.iaload, 1) := by decide +kernel
theorem dX2_rank_12 : decode cX2_rank 12 = .ok (.aload_n 0, 1) := by decide +kernel
theorem dX2_rank_13 : decode cX2_rank 13 = .ok (.getfield 28, 3) := by decide +kernel
theorem dX2_rank_16 : decode cX2_rank 16 = .ok (.if_icmp .ge 5, 3) := by decide +kernel
theorem dX2_rank_19 : decode cX2_rank 19 = .ok (.iconst 0, 1) := by decide +kernel
theorem dX2_rank_20 : decode cX2_rank 20 = .ok (.ireturn, 1) := by decide +kernel
theorem dX2_rank_21 : decode cX2_rank 21 = .ok (.aload_n 1, 1) := by decide +kernel
theorem dX2_rank_22 : decode cX2_rank 22 = .ok (.iconst 1, 1) := by decide +kernel
theorem dX2_rank_23 : decode cX2_rank 23 = .ok (.iaload, 1) := by decide +kernel
theorem dX2_rank_24 : decode cX2_rank 24 = .ok (.aload_n 1, 1) := by decide +kernel
theorem dX2_rank_25 : decode cX2_rank 25 = .ok (.iconst 0, 1) := by decide +kernel
theorem dX2_rank_26 : decode cX2_rank 26 = .ok (.iaload, 1) := by decide +kernel
theorem dX2_rank_27 : decode cX2_rank 27 = .ok (.if_icmp .ge 7, 3) := by decide +kernel
theorem dX2_rank_30 : decode cX2_rank 30 = .ok (.iconst 1, 1) := by decide +kernel
theorem dX2_rank_31 : decode cX2_rank 31 = .ok (.goto 4, 3) := by decide +kernel
theorem dX2_rank_34 : decode cX2_rank 34 = .ok (.iconst 0, 1) := by decide +kernel
theorem dX2_rank_35 : decode cX2_rank 35 = .ok (.istore_n 3, 1) := by decide +kernel
theorem dX2_rank_36 : decode cX2_rank 36 = .ok (.aload_n 0, 1) := by decide +kernel
theorem dX2_rank_37 : decode cX2_rank 37 = .ok (.getfield 18, 3) := by decide +kernel
theorem dX2_rank_40 : decode cX2_rank 40 = .ok (.iload_n 2, 1) := by decide +kernel
theorem dX2_rank_41 : decode cX2_rank 41 = .ok (.aaload, 1) := by decide +kernel
theorem dX2_rank_42 : decode cX2_rank 42 = .ok (.iconst 0, 1) := by decide +kernel
theorem dX2_rank_43 : decode cX2_rank 43 = .ok (.iaload, 1) := by decide +kernel
theorem dX2_rank_44 : decode cX2_rank 44 = .ok (.iconst 1, 1) := by decide +kernel
theorem dX2_rank_45 : decode cX2_rank 45 = .ok (.if_icmp .ne 7, 3) := by decide +kernel
theorem dX2_rank_48 : decode cX2_rank 48 = .ok (.iconst 1, 1) := by decide +kernel
theorem dX2_rank_49 : decode cX2_rank 49 = .ok (.goto 4, 3) := by decide +kernel
theorem dX2_rank_52 : decode cX2_rank 52 = .ok (.iconst 0, 1) := by decide +kernel
theorem dX2_rank_53 : decode cX2_rank 53 = .ok (.istore 4, 2) := by decide +kernel
theorem dX2_rank_55 : decode cX2_rank 55 = .ok (.iload_n 3, 1) := by decide +kernel
theorem dX2_rank_56 : decode cX2_rank 56 = .ok (.ifCond .eq 10, 3) := by decide +kernel
theorem dX2_rank_59 : decode cX2_rank 59 = .ok (.iload 4, 2) := by decide +kernel
theorem dX2_rank_61 : decode cX2_rank 61 = .ok (.ifCond .eq 5, 3) := by decide +kernel
theorem dX2_rank_64 : decode cX2_rank 64 = .ok (.iconst 2, 1) := by decide +kernel
theorem dX2_rank_65 : decode cX2_rank 65 = .ok (.ireturn, 1) := by decide +kernel
theorem dX2_rank_66 : decode cX2_rank 66 = .ok (.aload_n 0, 1) := by decide +kernel
theorem dX2_rank_67 : decode cX2_rank 67 = .ok (.iload_n 2, 1) := by decide +kernel
theorem dX2_rank_68 : decode cX2_rank 68 = .ok (.invokevirtual 64, 3) := by decide +kernel
theorem dX2_rank_71 : decode cX2_rank 71 = .ok (.ifCond .ne 5, 3) := by decide +kernel
theorem dX2_rank_74 : decode cX2_rank 74 = .ok (.iconst 0, 1) := by decide +kernel
theorem dX2_rank_75 : decode cX2_rank 75 = .ok (.ireturn, 1) := by decide +kernel
theorem dX2_rank_76 : decode cX2_rank 76 = .ok (.iload_n 3, 1) := by decide +kernel
theorem dX2_rank_77 : decode cX2_rank 77 = .ok (.ifCond .ne 10, 3) := by decide +kernel
theorem dX2_rank_80 : decode cX2_rank 80 = .ok (.iload 4, 2) := by decide +kernel
theorem dX2_rank_82 : decode cX2_rank 82 = .ok (.ifCond .ne 5, 3) := by decide +kernel
theorem dX2_rank_85 : decode cX2_rank 85 = .ok (.iconst 2, 1) := by decide +kernel
theorem dX2_rank_86 : decode cX2_rank 86 = .ok (.ireturn, 1) := by decide +kernel
theorem dX2_rank_87 : decode cX2_rank 87 = .ok (.aload_n 0, 1) := by decide +kernel
theorem dX2_rank_88 : decode cX2_rank 88 = .ok (.getfield 49, 3) := by decide +kernel
theorem dX2_rank_91 : decode cX2_rank 91 = .ok (.ifCond .eq 7, 3) := by decide +kernel
theorem dX2_rank_94 : decode cX2_rank 94 = .ok (.iconst 0, 1) := by decide +kernel
theorem dX2_rank_95 : decode cX2_rank 95 = .ok (.goto 4, 3) := by decide +kernel
theorem dX2_rank_98 : decode cX2_rank 98 = .ok (.iconst 1, 1) := by decide +kernel
theorem dX2_rank_99 : decode cX2_rank 99 = .ok (.ireturn, 1) := by decide +kernel
set_option maxRecDepth 20000 in
theorem ggX2_next_X2_rank : GoodIn wsX2_next wsX2_rank := goodIn_r _ [6, 7, 8, 9, 10, 11, 12, 5, 13, 14, 15, 16, 17, 18, 19, 20, 21, 22, 23, 24, 25, 26, 27, 28, 29] (by decide +kernel) (by decide +kernel)
set_option maxRecDepth 20000 in
theorem gX2_next_X2_rank : GoodIn wsX2_next (wsV RX2 68 RX2 yX2_rank wsX2_rank) := goodIn_app (goodIn_of _ (by decide +kernel)) ggX2_next_X2_rank
theorem dX2_next_0 : decode cX2_next 0 = .ok (.iconst (-1), 1) := by decide +kernel
theorem dX2_next_1 : decode cX2_next 1 = .ok (.istore_n 3, 1) := by decide +kernel
theorem dX2_next_2 : decode cX2_next 2 = .ok (.iconst 0, 1) := by decide +kernel
theorem dX2_next_3 : decode cX2_next 3 = .ok (.istore 4, 2) := by decide +kernel
theorem dX2_next_5 : decode cX2_next 5 = .ok (.aload_n 0, 1) := by decide +kernel
theorem dX2_next_6 : decode cX2_next 6 = .ok (.getfield 31, 3) := by decide +kernel
theorem dX2_next_9 : decode cX2_next 9 = .ok (.arraylength, 1) := by decide +kernel
theorem dX2_next_10 : decode cX2_next 10 = .ok (.iconst 1, 1) := by decide +kernel
theorem dX2_next_11 : decode cX2_next 11 = .ok (.isub, 1) := by decide +kernel
theorem dX2_next_12 : decode cX2_next 12 = .ok (.istore 5, 2) := by decide +kernel
theorem dX2_next_14 : decode cX2_next 14 = .ok (.iload 5, 2) := by decide +kernel
theorem dX2_next_16 : decode cX2_next 16 = .ok (.ifCond .lt 56, 3) := by decide +kernel
theorem dX2_next_19 : decode cX2_next 19 = .ok (.aload_n 2, 1) := by decide +kernel
theorem dX2_next_20 : decode cX2_next 20 = .ok (.iload 5, 2) := by decide +kernel
theorem dX2_next_22 : decode cX2_next 22 = .ok (.baload, 1) := by decide +kernel
theorem dX2_next_23 : decode cX2_next 23 = .ok (.ifCond .eq 7, 3) := by decide +kernel
theorem dX2_next_26 : decode cX2_next 26 = .ok (.iconst 0, 1) := by decide +kernel
theorem dX2_next_27 : decode cX2_next 27 = .ok (.goto 15, 3) := by decide +kernel
theorem dX2_next_30 : decode cX2_next 30 = .ok (.aload_n 0, 1) := by decide +kernel
theorem dX2_next_31 : decode cX2_next 31 = .ok (.aload_n 0, 1) := by decide +kernel
theorem dX2_next_32 : decode cX2_next 32 = .ok (.getfield 31, 3) := by decide +kernel
theorem dX2_next_35 : decode cX2_next 35 = .ok (.iload 5, 2) := by decide +kernel
theorem dX2_next_37 : decode cX2_next 37 = .ok (.aaload, 1) := by decide +kernel
theorem dX2_next_38 : decode cX2_next 38 = .ok (.iload_n 1, 1) := by decide +kernel
theorem dX2_next_39 : decode cX2_next 39 = .ok (.invokevirtual 68, 3) := by decide +kernel
theorem dX2_next_42 : decode cX2_next 42 = .ok (.istore 6, 2) := by decide +kernel
theorem dX2_next_44 : decode cX2_next 44 = .ok (.iload 6, 2) := by decide +kernel
theorem dX2_next_46 : decode cX2_next 46 = .ok (.ifCond .eq 20, 3) := by decide +kernel
theorem dX2_next_49 : decode cX2_next 49 = .ok (.iload 6, 2) := by decide +kernel
theorem dX2_next_51 : decode cX2_next 51 = .ok (.iload 4, 2) := by decide +kernel
theorem dX2_next_53 : decode cX2_next 53 = .ok (.if_icmp .ge 6, 3) := by decide +kernel
theorem dX2_next_56 : decode cX2_next 56 = .ok (.goto 10, 3) := by decide +kernel
theorem dX2_next_59 : decode cX2_next 59 = .ok (.iload 5, 2) := by decide +kernel
theorem dX2_next_61 : decode cX2_next 61 = .ok (.istore_n 3, 1) := by decide +kernel
theorem dX2_next_62 : decode cX2_next 62 = .ok (.iload 6, 2) := by decide +kernel
theorem dX2_next_64 : decode cX2_next 64 = .ok (.istore 4, 2) := by decide +kernel
theorem dX2_next_66 : decode cX2_next 66 = .ok (.iinc 5 (-1), 3) := by decide +kernel
theorem dX2_next_69 : decode cX2_next 69 = .ok (.goto (-55), 3) := by decide +kernel
theorem dX2_next_72 : decode cX2_next 72 = .ok (.iload_n 3, 1) := by decide +kernel
theorem dX2_next_73 : decode cX2_next 73 = .ok (.ireturn, 1) := by decide +kernel
set_option maxRecDepth 20000 in
theorem ggX2_pass_X2_into : GoodIn wsX2_pass wsX2_into := goodIn_r _ [15, 16, 4, 11, 12, 13, 14, 38, 39, 40, 41, 42, 43, 44, 45, 46, 47, 48] (by decide +kernel) (by decide +kernel)
set_option maxRecDepth 20000 in
theorem gX2_pass_X2_into : GoodIn wsX2_pass (wsV RX2 56 RX2 yX2_into wsX2_into) := goodIn_app (goodIn_of _ (by decide +kernel)) ggX2_pass_X2_into
set_option maxRecDepth 20000 in
theorem ggX2_pass_X2_next : GoodIn wsX2_pass wsX2_next := goodIn_r _ [20, 7, 21, 22, 23, 14, 24, 10, 9, 25, 26, 27, 28, 29, 30, 31, 32, 33, 4, 38, 39, 40, 41, 42, 43, 44, 45, 46, 47, 48] (by decide +kernel) (by decide +kernel)
set_option maxRecDepth 20000 in
theorem gX2_pass_X2_next : GoodIn wsX2_pass (wsV RX2 72 RX2 yX2_next wsX2_next) := goodIn_app (goodIn_of _ (by decide +kernel)) ggX2_pass_X2_next
set_option maxRecDepth 20000 in
theorem ggX2_pass_X2_turn : GoodIn wsX2_pass wsX2_turn := goodIn_r _ [37, 9, 4, 11, 12, 13, 14, 15, 16, 38, 39, 40, 41, 42, 43, 44, 45, 46, 47, 48] (by decide +kernel) (by decide +kernel)
set_option maxRecDepth 20000 in
theorem gX2_pass_X2_turn : GoodIn wsX2_pass (wsV RX2 76 RX2 yX2_turn wsX2_turn) := goodIn_app (goodIn_of _ (by decide +kernel)) ggX2_pass_X2_turn
theorem dX2_pass_0 : decode cX2_pass 0 = .ok (.aload_n 0, 1) := by decide +kernel
theorem dX2_pass_1 : decode cX2_pass 1 = .ok (.iconst 5, 1) := by decide +kernel
theorem dX2_pass_2 : decode cX2_pass 2 = .ok (.aload_n 0, 1) := by decide +kernel
theorem dX2_pass_3 : decode cX2_pass 3 = .ok (.getfield 7, 3) := by decide +kernel
theorem dX2_pass_6 : decode cX2_pass 6 = .ok (.aload_n 0, 1) := by decide +kernel
theorem dX2_pass_7 : decode cX2_pass 7 = .ok (.getfield 39, 3) := by decide +kernel
theorem dX2_pass_10 : decode cX2_pass 10 = .ok (.bipush 8, 2) := by decide +kernel
theorem dX2_pass_12 : decode cX2_pass 12 = .ok (.irem, 1) := by decide +kernel
theorem dX2_pass_13 : decode cX2_pass 13 = .ok (.iaload, 1) := by decide +kernel
theorem dX2_pass_14 : decode cX2_pass 14 = .ok (.invokevirtual 56, 3) := by decide +kernel
theorem dX2_pass_17 : decode cX2_pass 17 = .ok (.aload_n 0, 1) := by decide +kernel
theorem dX2_pass_18 : decode cX2_pass 18 = .ok (.getfield 21, 3) := by decide +kernel
theorem dX2_pass_21 : decode cX2_pass 21 = .ok (.ifCond .lt 117, 3) := by decide +kernel
theorem dX2_pass_24 : decode cX2_pass 24 = .ok (.aload_n 0, 1) := by decide +kernel
theorem dX2_pass_25 : decode cX2_pass 25 = .ok (.getfield 14, 3) := by decide +kernel
theorem dX2_pass_28 : decode cX2_pass 28 = .ok (.aload_n 0, 1) := by decide +kernel
theorem dX2_pass_29 : decode cX2_pass 29 = .ok (.getfield 21, 3) := by decide +kernel
theorem dX2_pass_32 : decode cX2_pass 32 = .ok (.aaload, 1) := by decide +kernel
theorem dX2_pass_33 : decode cX2_pass 33 = .ok (.iconst 0, 1) := by decide +kernel
theorem dX2_pass_34 : decode cX2_pass 34 = .ok (.iaload, 1) := by decide +kernel
theorem dX2_pass_35 : decode cX2_pass 35 = .ok (.aload_n 0, 1) := by decide +kernel
theorem dX2_pass_36 : decode cX2_pass 36 = .ok (.getfield 25, 3) := by decide +kernel
theorem dX2_pass_39 : decode cX2_pass 39 = .ok (.if_icmp .le 99, 3) := by decide +kernel
theorem dX2_pass_42 : decode cX2_pass 42 = .ok (.aload_n 0, 1) := by decide +kernel
theorem dX2_pass_43 : decode cX2_pass 43 = .ok (.getfield 14, 3) := by decide +kernel
theorem dX2_pass_46 : decode cX2_pass 46 = .ok (.aload_n 0, 1) := by decide +kernel
theorem dX2_pass_47 : decode cX2_pass 47 = .ok (.getfield 21, 3) := by decide +kernel
theorem dX2_pass_50 : decode cX2_pass 50 = .ok (.aaload, 1) := by decide +kernel
theorem dX2_pass_51 : decode cX2_pass 51 = .ok (.iconst 0, 1) := by decide +kernel
theorem dX2_pass_52 : decode cX2_pass 52 = .ok (.iaload, 1) := by decide +kernel
theorem dX2_pass_53 : decode cX2_pass 53 = .ok (.aload_n 0, 1) := by decide +kernel
theorem dX2_pass_54 : decode cX2_pass 54 = .ok (.getfield 25, 3) := by decide +kernel
theorem dX2_pass_57 : decode cX2_pass 57 = .ok (.isub, 1) := by decide +kernel
theorem dX2_pass_58 : decode cX2_pass 58 = .ok (.bipush 10, 2) := by decide +kernel
theorem dX2_pass_60 : decode cX2_pass 60 = .ok (.if_icmp .le 8, 3) := by decide +kernel
theorem dX2_pass_63 : decode cX2_pass 63 = .ok (.bipush 10, 2) := by decide +kernel
theorem dX2_pass_65 : decode cX2_pass 65 = .ok (.goto 19, 3) := by decide +kernel
theorem dX2_pass_68 : decode cX2_pass 68 = .ok (.aload_n 0, 1) := by decide +kernel
theorem dX2_pass_69 : decode cX2_pass 69 = .ok (.getfield 14, 3) := by decide +kernel
theorem dX2_pass_72 : decode cX2_pass 72 = .ok (.aload_n 0, 1) := by decide +kernel
theorem dX2_pass_73 : decode cX2_pass 73 = .ok (.getfield 21, 3) := by decide +kernel
theorem dX2_pass_76 : decode cX2_pass 76 = .ok (.aaload, 1) := by decide +kernel
theorem dX2_pass_77 : decode cX2_pass 77 = .ok (.iconst 0, 1) := by decide +kernel
theorem dX2_pass_78 : decode cX2_pass 78 = .ok (.iaload, 1) := by decide +kernel
theorem dX2_pass_79 : decode cX2_pass 79 = .ok (.aload_n 0, 1) := by decide +kernel
theorem dX2_pass_80 : decode cX2_pass 80 = .ok (.getfield 25, 3) := by decide +kernel
theorem dX2_pass_83 : decode cX2_pass 83 = .ok (.isub, 1) := by decide +kernel
theorem dX2_pass_84 : decode cX2_pass 84 = .ok (.istore_n 1, 1) := by decide +kernel
theorem dX2_pass_85 : decode cX2_pass 85 = .ok (.aload_n 0, 1) := by decide +kernel
theorem dX2_pass_86 : decode cX2_pass 86 = .ok (.getfield 14, 3) := by decide +kernel
theorem dX2_pass_89 : decode cX2_pass 89 = .ok (.aload_n 0, 1) := by decide +kernel
theorem dX2_pass_90 : decode cX2_pass 90 = .ok (.getfield 21, 3) := by decide +kernel
theorem dX2_pass_93 : decode cX2_pass 93 = .ok (.aaload, 1) := by decide +kernel
theorem dX2_pass_94 : decode cX2_pass 94 = .ok (.iconst 0, 1) := by decide +kernel
theorem dX2_pass_95 : decode cX2_pass 95 = .ok (.dup2, 1) := by decide +kernel
theorem dX2_pass_96 : decode cX2_pass 96 = .ok (.iaload, 1) := by decide +kernel
theorem dX2_pass_97 : decode cX2_pass 97 = .ok (.iload_n 1, 1) := by decide +kernel
theorem dX2_pass_98 : decode cX2_pass 98 = .ok (.isub, 1) := by decide +kernel
theorem dX2_pass_99 : decode cX2_pass 99 = .ok (.iastore, 1) := by decide +kernel
theorem dX2_pass_100 : decode cX2_pass 100 = .ok (.aload_n 0, 1) := by decide +kernel
theorem dX2_pass_101 : decode cX2_pass 101 = .ok (.getfield 14, 3) := by decide +kernel
theorem dX2_pass_104 : decode cX2_pass 104 = .ok (.aload_n 0, 1) := by decide +kernel
theorem dX2_pass_105 : decode cX2_pass 105 = .ok (.getfield 21, 3) := by decide +kernel
theorem dX2_pass_108 : decode cX2_pass 108 = .ok (.aaload, 1) := by decide +kernel
theorem dX2_pass_109 : decode cX2_pass 109 = .ok (.iconst 2, 1) := by decide +kernel
theorem dX2_pass_110 : decode cX2_pass 110 = .ok (.dup2, 1) := by decide +kernel
theorem dX2_pass_111 : decode cX2_pass 111 = .ok (.iaload, 1) := by decide +kernel
theorem dX2_pass_112 : decode cX2_pass 112 = .ok (.iload_n 1, 1) := by decide +kernel
theorem dX2_pass_113 : decode cX2_pass 113 = .ok (.iadd, 1) := by decide +kernel
theorem dX2_pass_114 : decode cX2_pass 114 = .ok (.iastore, 1) := by decide +kernel
theorem dX2_pass_115 : decode cX2_pass 115 = .ok (.aload_n 0, 1) := by decide +kernel
theorem dX2_pass_116 : decode cX2_pass 116 = .ok (.dup, 1) := by decide +kernel
theorem dX2_pass_117 : decode cX2_pass 117 = .ok (.getfield 53, 3) := by decide +kernel
theorem dX2_pass_120 : decode cX2_pass 120 = .ok (.iload_n 1, 1) := by decide +kernel
theorem dX2_pass_121 : decode cX2_pass 121 = .ok (.iconst 5, 1) := by decide +kernel
theorem dX2_pass_122 : decode cX2_pass 122 = .ok (.idiv, 1) := by decide +kernel
theorem dX2_pass_123 : decode cX2_pass 123 = .ok (.iadd, 1) := by decide +kernel
theorem dX2_pass_124 : decode cX2_pass 124 = .ok (.putfield 53, 3) := by decide +kernel
theorem dX2_pass_127 : decode cX2_pass 127 = .ok (.aload_n 0, 1) := by decide +kernel
theorem dX2_pass_128 : decode cX2_pass 128 = .ok (.aload_n 0, 1) := by decide +kernel
theorem dX2_pass_129 : decode cX2_pass 129 = .ok (.getfield 21, 3) := by decide +kernel
theorem dX2_pass_132 : decode cX2_pass 132 = .ok (.iconst 1, 1) := by decide +kernel
theorem dX2_pass_133 : decode cX2_pass 133 = .ok (.isub, 1) := by decide +kernel
theorem dX2_pass_134 : decode cX2_pass 134 = .ok (.iload_n 1, 1) := by decide +kernel
theorem dX2_pass_135 : decode cX2_pass 135 = .ok (.invokevirtual 56, 3) := by decide +kernel
theorem dX2_pass_138 : decode cX2_pass 138 = .ok (.aload_n 0, 1) := by decide +kernel
theorem dX2_pass_139 : decode cX2_pass 139 = .ok (.getfield 31, 3) := by decide +kernel
theorem dX2_pass_142 : decode cX2_pass 142 = .ok (.arraylength, 1) := by decide +kernel
theorem dX2_pass_143 : decode cX2_pass 143 = .ok (.newarray .boolean, 2) := by decide +kernel
theorem dX2_pass_145 : decode cX2_pass 145 = .ok (.astore_n 1, 1) := by decide +kernel
theorem dX2_pass_146 : decode cX2_pass 146 = .ok (.iconst 0, 1) := by decide +kernel
theorem dX2_pass_147 : decode cX2_pass 147 = .ok (.istore_n 2, 1) := by decide +kernel
theorem dX2_pass_148 : decode cX2_pass 148 = .ok (.iconst 4, 1) := by decide +kernel
theorem dX2_pass_149 : decode cX2_pass 149 = .ok (.istore_n 3, 1) := by decide +kernel
theorem dX2_pass_150 : decode cX2_pass 150 = .ok (.iload_n 3, 1) := by decide +kernel
theorem dX2_pass_151 : decode cX2_pass 151 = .ok (.ifCond .lt 153, 3) := by decide +kernel
theorem dX2_pass_154 : decode cX2_pass 154 = .ok (.aload_n 0, 1) := by decide +kernel
theorem dX2_pass_155 : decode cX2_pass 155 = .ok (.iload_n 3, 1) := by decide +kernel
theorem dX2_pass_156 : decode cX2_pass 156 = .ok (.aload_n 1, 1) := by decide +kernel
theorem dX2_pass_157 : decode cX2_pass 157 = .ok (.invokevirtual 72, 3) := by decide +kernel
theorem dX2_pass_160 : decode cX2_pass 160 = .ok (.istore 4, 2) := by decide +kernel
theorem dX2_pass_162 : decode cX2_pass 162 = .ok (.iload 4, 2) := by decide +kernel
theorem dX2_pass_164 : decode cX2_pass 164 = .ok (.ifCond .ge 6, 3) := by decide +kernel
theorem dX2_pass_167 : decode cX2_pass 167 = .ok (.goto 131, 3) := by decide +kernel
theorem dX2_pass_170 : decode cX2_pass 170 = .ok (.aload_n 0, 1) := by decide +kernel
theorem dX2_pass_171 : decode cX2_pass 171 = .ok (.getfield 31, 3) := by decide +kernel
theorem dX2_pass_174 : decode cX2_pass 174 = .ok (.iload 4, 2) := by decide +kernel
theorem dX2_pass_176 : decode cX2_pass 176 = .ok (.aaload, 1) := by decide +kernel
theorem dX2_pass_177 : decode cX2_pass 177 = .ok (.astore 5, 2) := by decide +kernel
theorem dX2_pass_179 : decode cX2_pass 179 = .ok (.aload 5, 2) := by decide +kernel
theorem dX2_pass_181 : decode cX2_pass 181 = .ok (.iconst 1, 1) := by decide +kernel
theorem dX2_pass_182 : decode cX2_pass 182 = .ok (.iaload, 1) := by decide +kernel
theorem dX2_pass_183 : decode cX2_pass 183 = .ok (.aload 5, 2) := by decide +kernel
theorem dX2_pass_185 : decode cX2_pass 185 = .ok (.iconst 0, 1) := by decide +kernel
theorem dX2_pass_186 : decode cX2_pass 186 = .ok (.iaload, 1) := by decide +kernel
theorem dX2_pass_187 : decode cX2_pass 187 = .ok (.if_icmp .ge 7, 3) := by decide +kernel
theorem dX2_pass_190 : decode cX2_pass 190 = .ok (.iconst 1, 1) := by decide +kernel
theorem dX2_pass_191 : decode cX2_pass 191 = .ok (.goto 4, 3) := by decide +kernel
theorem dX2_pass_194 : decode cX2_pass 194 = .ok (.iconst 0, 1) := by decide +kernel
theorem dX2_pass_195 : decode cX2_pass 195 = .ok (.istore 6, 2) := by decide +kernel
theorem dX2_pass_197 : decode cX2_pass 197 = .ok (.aload_n 0, 1) := by decide +kernel
theorem dX2_pass_198 : decode cX2_pass 198 = .ok (.getfield 18, 3) := by decide +kernel
theorem dX2_pass_201 : decode cX2_pass 201 = .ok (.iload_n 3, 1) := by decide +kernel
theorem dX2_pass_202 : decode cX2_pass 202 = .ok (.aaload, 1) := by decide +kernel
theorem dX2_pass_203 : decode cX2_pass 203 = .ok (.iconst 0, 1) := by decide +kernel
theorem dX2_pass_204 : decode cX2_pass 204 = .ok (.iaload, 1) := by decide +kernel
theorem dX2_pass_205 : decode cX2_pass 205 = .ok (.iconst 1, 1) := by decide +kernel
theorem dX2_pass_206 : decode cX2_pass 206 = .ok (.if_icmp .ne 7, 3) := by decide +kernel
theorem dX2_pass_209 : decode cX2_pass 209 = .ok (.iconst 1, 1) := by decide +kernel
theorem dX2_pass_210 : decode cX2_pass 210 = .ok (.goto 4, 3) := by decide +kernel
theorem dX2_pass_213 : decode cX2_pass 213 = .ok (.iconst 0, 1) := by decide +kernel
theorem dX2_pass_214 : decode cX2_pass 214 = .ok (.iload 6, 2) := by decide +kernel
theorem dX2_pass_216 : decode cX2_pass 216 = .ok (.if_icmp .eq 8, 3) := by decide +kernel
theorem dX2_pass_219 : decode cX2_pass 219 = .ok (.aload_n 0, 1) := by decide +kernel
theorem dX2_pass_220 : decode cX2_pass 220 = .ok (.iload_n 3, 1) := by decide +kernel
theorem dX2_pass_221 : decode cX2_pass 221 = .ok (.invokevirtual 76, 3) := by decide +kernel
theorem dX2_pass_224 : decode cX2_pass 224 = .ok (.aload_n 0, 1) := by decide +kernel
theorem dX2_pass_225 : decode cX2_pass 225 = .ok (.iload_n 3, 1) := by decide +kernel
theorem dX2_pass_226 : decode cX2_pass 226 = .ok (.invokevirtual 76, 3) := by decide +kernel
theorem dX2_pass_229 : decode cX2_pass 229 = .ok (.aload 5, 2) := by decide +kernel
theorem dX2_pass_231 : decode cX2_pass 231 = .ok (.iconst 0, 1) := by decide +kernel
theorem dX2_pass_232 : decode cX2_pass 232 = .ok (.dup2, 1) := by decide +kernel
theorem dX2_pass_233 : decode cX2_pass 233 = .ok (.iaload, 1) := by decide +kernel
theorem dX2_pass_234 : decode cX2_pass 234 = .ok (.iload 6, 2) := by decide +kernel
theorem dX2_pass_236 : decode cX2_pass 236 = .ok (.ifCond .eq 7, 3) := by decide +kernel
theorem dX2_pass_239 : decode cX2_pass 239 = .ok (.iconst (-1), 1) := by decide +kernel
theorem dX2_pass_240 : decode cX2_pass 240 = .ok (.goto 4, 3) := by decide +kernel
theorem dX2_pass_243 : decode cX2_pass 243 = .ok (.iconst 1, 1) := by decide +kernel
theorem dX2_pass_244 : decode cX2_pass 244 = .ok (.iadd, 1) := by decide +kernel
theorem dX2_pass_245 : decode cX2_pass 245 = .ok (.iastore, 1) := by decide +kernel
theorem dX2_pass_246 : decode cX2_pass 246 = .ok (.aload 5, 2) := by decide +kernel
theorem dX2_pass_248 : decode cX2_pass 248 = .ok (.iconst 2, 1) := by decide +kernel
theorem dX2_pass_249 : decode cX2_pass 249 = .ok (.dup2, 1) := by decide +kernel
theorem dX2_pass_250 : decode cX2_pass 250 = .ok (.iaload, 1) := by decide +kernel
theorem dX2_pass_251 : decode cX2_pass 251 = .ok (.aload_n 0, 1) := by decide +kernel
theorem dX2_pass_252 : decode cX2_pass 252 = .ok (.getfield 28, 3) := by decide +kernel
theorem dX2_pass_255 : decode cX2_pass 255 = .ok (.isub, 1) := by decide +kernel
theorem dX2_pass_256 : decode cX2_pass 256 = .ok (.iastore, 1) := by decide +kernel
theorem dX2_pass_257 : decode cX2_pass 257 = .ok (.aload_n 0, 1) := by decide +kernel
theorem dX2_pass_258 : decode cX2_pass 258 = .ok (.dup, 1) := by decide +kernel
theorem dX2_pass_259 : decode cX2_pass 259 = .ok (.getfield 53, 3) := by decide +kernel
theorem dX2_pass_262 : decode cX2_pass 262 = .ok (.aload_n 0, 1) := by decide +kernel
theorem dX2_pass_263 : decode cX2_pass 263 = .ok (.getfield 28, 3) := by decide +kernel
theorem dX2_pass_266 : decode cX2_pass 266 = .ok (.iadd, 1) := by decide +kernel
theorem dX2_pass_267 : decode cX2_pass 267 = .ok (.putfield 53, 3) := by decide +kernel
theorem dX2_pass_270 : decode cX2_pass 270 = .ok (.aload 5, 2) := by decide +kernel
theorem dX2_pass_272 : decode cX2_pass 272 = .ok (.iconst 3, 1) := by decide +kernel
theorem dX2_pass_273 : decode cX2_pass 273 = .ok (.dup2, 1) := by decide +kernel
theorem dX2_pass_274 : decode cX2_pass 274 = .ok (.iaload, 1) := by decide +kernel
theorem dX2_pass_275 : decode cX2_pass 275 = .ok (.iconst 1, 1) := by decide +kernel
theorem dX2_pass_276 : decode cX2_pass 276 = .ok (.iadd, 1) := by decide +kernel
theorem dX2_pass_277 : decode cX2_pass 277 = .ok (.iastore, 1) := by decide +kernel
theorem dX2_pass_278 : decode cX2_pass 278 = .ok (.aload_n 0, 1) := by decide +kernel
theorem dX2_pass_279 : decode cX2_pass 279 = .ok (.getfield 18, 3) := by decide +kernel
theorem dX2_pass_282 : decode cX2_pass 282 = .ok (.iload_n 3, 1) := by decide +kernel
theorem dX2_pass_283 : decode cX2_pass 283 = .ok (.aaload, 1) := by decide +kernel
theorem dX2_pass_284 : decode cX2_pass 284 = .ok (.iconst 1, 1) := by decide +kernel
theorem dX2_pass_285 : decode cX2_pass 285 = .ok (.dup2, 1) := by decide +kernel
theorem dX2_pass_286 : decode cX2_pass 286 = .ok (.iaload, 1) := by decide +kernel
theorem dX2_pass_287 : decode cX2_pass 287 = .ok (.iconst 1, 1) := by decide +kernel
theorem dX2_pass_288 : decode cX2_pass 288 = .ok (.iadd, 1) := by decide +kernel
theorem dX2_pass_289 : decode cX2_pass 289 = .ok (.iastore, 1) := by decide +kernel
theorem dX2_pass_290 : decode cX2_pass 290 = .ok (.aload_n 1, 1) := by decide +kernel
theorem dX2_pass_291 : decode cX2_pass 291 = .ok (.iload 4, 2) := by decide +kernel
theorem dX2_pass_293 : decode cX2_pass 293 = .ok (.iconst 1, 1) := by decide +kernel
theorem dX2_pass_294 : decode cX2_pass 294 = .ok (.bastore, 1) := by decide +kernel
theorem dX2_pass_295 : decode cX2_pass 295 = .ok (.iinc 2 1, 3) := by decide +kernel
theorem dX2_pass_298 : decode cX2_pass 298 = .ok (.iinc 3 (-1), 3) := by decide +kernel
theorem dX2_pass_301 : decode cX2_pass 301 = .ok (.goto (-151), 3) := by decide +kernel
theorem dX2_pass_304 : decode cX2_pass 304 = .ok (.aload_n 0, 1) := by decide +kernel
theorem dX2_pass_305 : decode cX2_pass 305 = .ok (.dup, 1) := by decide +kernel
theorem dX2_pass_306 : decode cX2_pass 306 = .ok (.getfield 39, 3) := by decide +kernel
theorem dX2_pass_309 : decode cX2_pass 309 = .ok (.iconst 1, 1) := by decide +kernel
theorem dX2_pass_310 : decode cX2_pass 310 = .ok (.iadd, 1) := by decide +kernel
theorem dX2_pass_311 : decode cX2_pass 311 = .ok (.putfield 39, 3) := by decide +kernel
theorem dX2_pass_314 : decode cX2_pass 314 = .ok (.iload_n 2, 1) := by decide +kernel
theorem dX2_pass_315 : decode cX2_pass 315 = .ok (.ireturn, 1) := by decide +kernel
theorem dX2_counts_0 : decode cX2_counts 0 = .ok (.bipush 10, 2) := by decide +kernel
theorem dX2_counts_2 : decode cX2_counts 2 = .ok (.newarray .int, 2) := by decide +kernel
theorem dX2_counts_4 : decode cX2_counts 4 = .ok (.dup, 1) := by decide +kernel
theorem dX2_counts_5 : decode cX2_counts 5 = .ok (.iconst 0, 1) := by decide +kernel
theorem dX2_counts_6 : decode cX2_counts 6 = .ok (.aload_n 0, 1) := by decide +kernel
theorem dX2_counts_7 : decode cX2_counts 7 = .ok (.getfield 39, 3) := by decide +kernel
theorem dX2_counts_10 : decode cX2_counts 10 = .ok (.iastore, 1) := by decide +kernel
theorem dX2_counts_11 : decode cX2_counts 11 = .ok (.dup, 1) := by decide +kernel
theorem dX2_counts_12 : decode cX2_counts 12 = .ok (.iconst 1, 1) := by decide +kernel
theorem dX2_counts_13 : decode cX2_counts 13 = .ok (.aload_n 0, 1) := by decide +kernel
theorem dX2_counts_14 : decode cX2_counts 14 = .ok (.getfield 31, 3) := by decide +kernel
theorem dX2_counts_17 : decode cX2_counts 17 = .ok (.arraylength, 1) := by decide +kernel
theorem dX2_counts_18 : decode cX2_counts 18 = .ok (.iastore, 1) := by decide +kernel
theorem dX2_counts_19 : decode cX2_counts 19 = .ok (.dup, 1) := by decide +kernel
theorem dX2_counts_20 : decode cX2_counts 20 = .ok (.iconst 2, 1) := by decide +kernel
theorem dX2_counts_21 : decode cX2_counts 21 = .ok (.iconst 0, 1) := by decide +kernel
theorem dX2_counts_22 : decode cX2_counts 22 = .ok (.iastore, 1) := by decide +kernel
theorem dX2_counts_23 : decode cX2_counts 23 = .ok (.dup, 1) := by decide +kernel
theorem dX2_counts_24 : decode cX2_counts 24 = .ok (.iconst 3, 1) := by decide +kernel
theorem dX2_counts_25 : decode cX2_counts 25 = .ok (.aload_n 0, 1) := by decide +kernel
theorem dX2_counts_26 : decode cX2_counts 26 = .ok (.getfield 53, 3) := by decide +kernel
theorem dX2_counts_29 : decode cX2_counts 29 = .ok (.iastore, 1) := by decide +kernel
theorem dX2_counts_30 : decode cX2_counts 30 = .ok (.dup, 1) := by decide +kernel
theorem dX2_counts_31 : decode cX2_counts 31 = .ok (.iconst 4, 1) := by decide +kernel
theorem dX2_counts_32 : decode cX2_counts 32 = .ok (.iconst 0, 1) := by decide +kernel
theorem dX2_counts_33 : decode cX2_counts 33 = .ok (.iastore, 1) := by decide +kernel
theorem dX2_counts_34 : decode cX2_counts 34 = .ok (.dup, 1) := by decide +kernel
theorem dX2_counts_35 : decode cX2_counts 35 = .ok (.iconst 5, 1) := by decide +kernel
theorem dX2_counts_36 : decode cX2_counts 36 = .ok (.iconst 0, 1) := by decide +kernel
theorem dX2_counts_37 : decode cX2_counts 37 = .ok (.iastore, 1) := by decide +kernel
theorem dX2_counts_38 : decode cX2_counts 38 = .ok (.dup, 1) := by decide +kernel
theorem dX2_counts_39 : decode cX2_counts 39 = .ok (.bipush 6, 2) := by decide +kernel
theorem dX2_counts_41 : decode cX2_counts 41 = .ok (.aload_n 0, 1) := by decide +kernel
theorem dX2_counts_42 : decode cX2_counts 42 = .ok (.getfield 46, 3) := by decide +kernel
theorem dX2_counts_45 : decode cX2_counts 45 = .ok (.iastore, 1) := by decide +kernel
theorem dX2_counts_46 : decode cX2_counts 46 = .ok (.dup, 1) := by decide +kernel
theorem dX2_counts_47 : decode cX2_counts 47 = .ok (.bipush 7, 2) := by decide +kernel
theorem dX2_counts_49 : decode cX2_counts 49 = .ok (.aload_n 0, 1) := by decide +kernel
theorem dX2_counts_50 : decode cX2_counts 50 = .ok (.getfield 28, 3) := by decide +kernel
theorem dX2_counts_53 : decode cX2_counts 53 = .ok (.iastore, 1) := by decide +kernel
theorem dX2_counts_54 : decode cX2_counts 54 = .ok (.dup, 1) := by decide +kernel
theorem dX2_counts_55 : decode cX2_counts 55 = .ok (.bipush 8, 2) := by decide +kernel
theorem dX2_counts_57 : decode cX2_counts 57 = .ok (.aload_n 0, 1) := by decide +kernel
theorem dX2_counts_58 : decode cX2_counts 58 = .ok (.getfield 25, 3) := by decide +kernel
theorem dX2_counts_61 : decode cX2_counts 61 = .ok (.iastore, 1) := by decide +kernel
theorem dX2_counts_62 : decode cX2_counts 62 = .ok (.dup, 1) := by decide +kernel
theorem dX2_counts_63 : decode cX2_counts 63 = .ok (.bipush 9, 2) := by decide +kernel
theorem dX2_counts_65 : decode cX2_counts 65 = .ok (.aload_n 0, 1) := by decide +kernel
theorem dX2_counts_66 : decode cX2_counts 66 = .ok (.getfield 21, 3) := by decide +kernel
theorem dX2_counts_69 : decode cX2_counts 69 = .ok (.iastore, 1) := by decide +kernel
theorem dX2_counts_70 : decode cX2_counts 70 = .ok (.astore_n 1, 1) := by decide +kernel
theorem dX2_counts_71 : decode cX2_counts 71 = .ok (.aload_n 0, 1) := by decide +kernel
theorem dX2_counts_72 : decode cX2_counts 72 = .ok (.getfield 31, 3) := by decide +kernel
theorem dX2_counts_75 : decode cX2_counts 75 = .ok (.astore_n 2, 1) := by decide +kernel
theorem dX2_counts_76 : decode cX2_counts 76 = .ok (.aload_n 2, 1) := by decide +kernel
theorem dX2_counts_77 : decode cX2_counts 77 = .ok (.arraylength, 1) := by decide +kernel
theorem dX2_counts_78 : decode cX2_counts 78 = .ok (.istore_n 3, 1) := by decide +kernel
theorem dX2_counts_79 : decode cX2_counts 79 = .ok (.iconst 0, 1) := by decide +kernel
theorem dX2_counts_80 : decode cX2_counts 80 = .ok (.istore 4, 2) := by decide +kernel
theorem dX2_counts_82 : decode cX2_counts 82 = .ok (.iload 4, 2) := by decide +kernel
theorem dX2_counts_84 : decode cX2_counts 84 = .ok (.iload_n 3, 1) := by decide +kernel
theorem dX2_counts_85 : decode cX2_counts 85 = .ok (.if_icmp .ge 37, 3) := by decide +kernel
theorem dX2_counts_88 : decode cX2_counts 88 = .ok (.aload_n 2, 1) := by decide +kernel
theorem dX2_counts_89 : decode cX2_counts 89 = .ok (.iload 4, 2) := by decide +kernel
theorem dX2_counts_91 : decode cX2_counts 91 = .ok (.aaload, 1) := by decide +kernel
theorem dX2_counts_92 : decode cX2_counts 92 = .ok (.astore 5, 2) := by decide +kernel
theorem dX2_counts_94 : decode cX2_counts 94 = .ok (.aload_n 1, 1) := by decide +kernel
theorem dX2_counts_95 : decode cX2_counts 95 = .ok (.iconst 2, 1) := by decide +kernel
theorem dX2_counts_96 : decode cX2_counts 96 = .ok (.dup2, 1) := by decide +kernel
theorem dX2_counts_97 : decode cX2_counts 97 = .ok (.iaload, 1) := by decide +kernel
theorem dX2_counts_98 : decode cX2_counts 98 = .ok (.aload 5, 2) := by decide +kernel
theorem dX2_counts_100 : decode cX2_counts 100 = .ok (.iconst 0, 1) := by decide +kernel
theorem dX2_counts_101 : decode cX2_counts 101 = .ok (.iaload, 1) := by decide +kernel
theorem dX2_counts_102 : decode cX2_counts 102 = .ok (.aload 5, 2) := by decide +kernel
theorem dX2_counts_104 : decode cX2_counts 104 = .ok (.iconst 1, 1) := by decide +kernel
theorem dX2_counts_105 : decode cX2_counts 105 = .ok (.iaload, 1) := by decide +kernel
theorem dX2_counts_106 : decode cX2_counts 106 = .ok (.if_icmp .ne 7, 3) := by decide +kernel
theorem dX2_counts_109 : decode cX2_counts 109 = .ok (.iconst 1, 1) := by decide +kernel
theorem dX2_counts_110 : decode cX2_counts 110 = .ok (.goto 4, 3) := by decide +kernel
theorem dX2_counts_113 : decode cX2_counts 113 = .ok (.iconst 0, 1) := by decide +kernel
theorem dX2_counts_114 : decode cX2_counts 114 = .ok (.iadd, 1) := by decide +kernel
theorem dX2_counts_115 : decode cX2_counts 115 = .ok (.iastore, 1) := by decide +kernel
theorem dX2_counts_116 : decode cX2_counts 116 = .ok (.iinc 4 1, 3) := by decide +kernel
theorem dX2_counts_119 : decode cX2_counts 119 = .ok (.goto (-37), 3) := by decide +kernel
theorem dX2_counts_122 : decode cX2_counts 122 = .ok (.aload_n 0, 1) := by decide +kernel
theorem dX2_counts_123 : decode cX2_counts 123 = .ok (.getfield 14, 3) := by decide +kernel
theorem dX2_counts_126 : decode cX2_counts 126 = .ok (.astore_n 2, 1) := by decide +kernel
theorem dX2_counts_127 : decode cX2_counts 127 = .ok (.aload_n 2, 1) := by decide +kernel
theorem dX2_counts_128 : decode cX2_counts 128 = .ok (.arraylength, 1) := by decide +kernel
theorem dX2_counts_129 : decode cX2_counts 129 = .ok (.istore_n 3, 1) := by decide +kernel
theorem dX2_counts_130 : decode cX2_counts 130 = .ok (.iconst 0, 1) := by decide +kernel
theorem dX2_counts_131 : decode cX2_counts 131 = .ok (.istore 4, 2) := by decide +kernel
theorem dX2_counts_133 : decode cX2_counts 133 = .ok (.iload 4, 2) := by decide +kernel
theorem dX2_counts_135 : decode cX2_counts 135 = .ok (.iload_n 3, 1) := by decide +kernel
theorem dX2_counts_136 : decode cX2_counts 136 = .ok (.if_icmp .ge 25, 3) := by decide +kernel
theorem dX2_counts_139 : decode cX2_counts 139 = .ok (.aload_n 2, 1) := by decide +kernel
theorem dX2_counts_140 : decode cX2_counts 140 = .ok (.iload 4, 2) := by decide +kernel
theorem dX2_counts_142 : decode cX2_counts 142 = .ok (.aaload, 1) := by decide +kernel
theorem dX2_counts_143 : decode cX2_counts 143 = .ok (.astore 5, 2) := by decide +kernel
theorem dX2_counts_145 : decode cX2_counts 145 = .ok (.aload_n 1, 1) := by decide +kernel
theorem dX2_counts_146 : decode cX2_counts 146 = .ok (.iconst 4, 1) := by decide +kernel
theorem dX2_counts_147 : decode cX2_counts 147 = .ok (.dup2, 1) := by decide +kernel
theorem dX2_counts_148 : decode cX2_counts 148 = .ok (.iaload, 1) := by decide +kernel
theorem dX2_counts_149 : decode cX2_counts 149 = .ok (.aload 5, 2) := by decide +kernel
theorem dX2_counts_151 : decode cX2_counts 151 = .ok (.iconst 0, 1) := by decide +kernel
theorem dX2_counts_152 : decode cX2_counts 152 = .ok (.iaload, 1) := by decide +kernel
theorem dX2_counts_153 : decode cX2_counts 153 = .ok (.iadd, 1) := by decide +kernel
theorem dX2_counts_154 : decode cX2_counts 154 = .ok (.iastore, 1) := by decide +kernel
theorem dX2_counts_155 : decode cX2_counts 155 = .ok (.iinc 4 1, 3) := by decide +kernel
theorem dX2_counts_158 : decode cX2_counts 158 = .ok (.goto (-25), 3) := by decide +kernel
theorem dX2_counts_161 : decode cX2_counts 161 = .ok (.aload_n 0, 1) := by decide +kernel
theorem dX2_counts_162 : decode cX2_counts 162 = .ok (.getfield 18, 3) := by decide +kernel
theorem dX2_counts_165 : decode cX2_counts 165 = .ok (.astore_n 2, 1) := by decide +kernel
theorem dX2_counts_166 : decode cX2_counts 166 = .ok (.aload_n 2, 1) := by decide +kernel
theorem dX2_counts_167 : decode cX2_counts 167 = .ok (.arraylength, 1) := by decide +kernel
theorem dX2_counts_168 : decode cX2_counts 168 = .ok (.istore_n 3, 1) := by decide +kernel
theorem dX2_counts_169 : decode cX2_counts 169 = .ok (.iconst 0, 1) := by decide +kernel
theorem dX2_counts_170 : decode cX2_counts 170 = .ok (.istore 4, 2) := by decide +kernel
theorem dX2_counts_172 : decode cX2_counts 172 = .ok (.iload 4, 2) := by decide +kernel
theorem dX2_counts_174 : decode cX2_counts 174 = .ok (.iload_n 3, 1) := by decide +kernel
theorem dX2_counts_175 : decode cX2_counts 175 = .ok (.if_icmp .ge 25, 3) := by decide +kernel
theorem dX2_counts_178 : decode cX2_counts 178 = .ok (.aload_n 2, 1) := by decide +kernel
theorem dX2_counts_179 : decode cX2_counts 179 = .ok (.iload 4, 2) := by decide +kernel
theorem dX2_counts_181 : decode cX2_counts 181 = .ok (.aaload, 1) := by decide +kernel
theorem dX2_counts_182 : decode cX2_counts 182 = .ok (.astore 5, 2) := by decide +kernel
theorem dX2_counts_184 : decode cX2_counts 184 = .ok (.aload_n 1, 1) := by decide +kernel
theorem dX2_counts_185 : decode cX2_counts 185 = .ok (.iconst 5, 1) := by decide +kernel
theorem dX2_counts_186 : decode cX2_counts 186 = .ok (.dup2, 1) := by decide +kernel
theorem dX2_counts_187 : decode cX2_counts 187 = .ok (.iaload, 1) := by decide +kernel
theorem dX2_counts_188 : decode cX2_counts 188 = .ok (.aload 5, 2) := by decide +kernel
theorem dX2_counts_190 : decode cX2_counts 190 = .ok (.iconst 0, 1) := by decide +kernel
theorem dX2_counts_191 : decode cX2_counts 191 = .ok (.iaload, 1) := by decide +kernel
theorem dX2_counts_192 : decode cX2_counts 192 = .ok (.iadd, 1) := by decide +kernel
theorem dX2_counts_193 : decode cX2_counts 193 = .ok (.iastore, 1) := by decide +kernel
theorem dX2_counts_194 : decode cX2_counts 194 = .ok (.iinc 4 1, 3) := by decide +kernel
theorem dX2_counts_197 : decode cX2_counts 197 = .ok (.goto (-25), 3) := by decide +kernel
theorem dX2_counts_200 : decode cX2_counts 200 = .ok (.aload_n 1, 1) := by decide +kernel
theorem dX2_counts_201 : decode cX2_counts 201 = .ok (.areturn, 1) := by decide +kernel
set_option maxRecDepth 20000 in
theorem ggX2_isSame_X2_counts : GoodIn wsX2_isSame wsX2_counts := goodIn_r _ [10, 11, 12, 1, 13, 14, 15, 16, 17, 2, 4, 147, 148, 149, 150, 151, 152, 153, 154, 155, 156, 157] (by decide +kernel) (by decide +kernel)
set_option maxRecDepth 20000 in
theorem gX2_isSame_X2_counts : GoodIn wsX2_isSame (wsV RX2 84 RX2 yX2_counts wsX2_counts) := goodIn_app (goodIn_of _ (by decide +kernel)) ggX2_isSame_X2_counts
set_option maxRecDepth 20000 in
theorem ggX2_isSame_X1_count : GoodIn wsX2_isSame wsX1_count := goodIn_ca (goodIn_r _ [22, 23, 24, 25, 21, 26, 27, 28, 29, 30, 31, 32, 33, 34, 35, 36, 37, 38, 39, 40, 41, 42, 43, 44, 45, 46, 47, 48, 49, 50, 51, 52, 53, 54, 55, 56, 57, 58, 59, 60, 61, 158, 159, 160, 161, 162, 163, 164, 165, 166, 167, 168, 169, 170, 171, 172, 173, 174, 175, 176, 177] (by decide +kernel) (by decide +kernel)) (goodIn_sub (fun _ h => List.mem_cons_of_mem _ (List.mem_append_right _ h)) (by decide +kernel))
set_option maxRecDepth 20000 in
theorem gX2_isSame_X1_count : GoodIn wsX2_isSame (wsV RX2 88 RX1 yX1_count wsX1_count) := goodIn_app (goodIn_of _ (by decide +kernel)) ggX2_isSame_X1_count
set_option maxRecDepth 20000 in
theorem ggX2_isSame_X1_pound : GoodIn wsX2_isSame wsX1_pound := goodIn_ca (goodIn_r _ [65, 23, 24, 25, 21, 26, 27, 28, 66, 67, 68, 32, 69, 56, 37, 38, 70, 71, 72, 73, 35, 50, 158, 159, 160, 161, 162, 163, 164, 165, 166, 167, 168, 169, 170, 171, 172, 173, 174, 175, 176, 177] (by decide +kernel) (by decide +kernel)) (goodIn_sub (fun _ h => List.mem_cons_of_mem _ (List.mem_append_right _ h)) (by decide +kernel))
set_option maxRecDepth 20000 in
theorem gX2_isSame_X1_pound : GoodIn wsX2_isSame (wsV RX2 94 RX1 yX1_pound wsX1_pound) := goodIn_app (goodIn_of _ (by decide +kernel)) ggX2_isSame_X1_pound
set_option maxRecDepth 20000 in
theorem ggX2_isSame_X2_lockOf : GoodIn wsX2_isSame wsX2_lockOf := goodIn_r _ [77] (by decide +kernel) (by decide +kernel)
set_option maxRecDepth 20000 in
theorem gX2_isSame_X2_lockOf : GoodIn wsX2_isSame (wsV RX2 60 RX2 yX2_lockOf wsX2_lockOf) := goodIn_app (goodIn_of _ (by decide +kernel)) ggX2_isSame_X2_lockOf
set_option maxRecDepth 20000 in
theorem ggX2_isSame_X1_lock : GoodIn wsX2_isSame wsX1_lock := goodIn_ca (goodIn_r _ [81, 23, 24, 25, 21, 26, 27, 28, 82, 83, 84, 32, 85, 61, 86, 87, 88, 89, 90, 91, 35, 92, 93, 94, 95, 50, 46, 47, 48, 49, 51, 96, 97, 98, 99, 100, 101, 102, 103, 104, 105, 106, 107, 108, 39, 109, 110, 111, 112, 113, 114, 115, 116, 117, 56, 158, 159, 160, 161, 162, 163, 164, 165, 166, 167, 168, 169, 170, 171, 172, 173, 174, 175, 176, 177] (by decide +kernel) (by decide +kernel)) (goodIn_sub (fun _ h => List.mem_cons_of_mem _ (List.mem_append_right _ h)) (by decide +kernel))
set_option maxRecDepth 20000 in
theorem gX2_isSame_X1_lock : GoodIn wsX2_isSame (wsV RX2 98 RX1 yX1_lock wsX1_lock) := goodIn_app (goodIn_of _ (by decide +kernel)) ggX2_isSame_X1_lock
set_option maxRecDepth 20000 in
theorem ggX2_isSame_X2_next : GoodIn wsX2_isSame wsX2_next := goodIn_r _ [121, 1, 122, 123, 124, 9, 125, 15, 4, 126, 74, 75, 76, 77, 127, 128, 129, 130, 2, 147, 148, 149, 150, 151, 152, 153, 154, 155, 156, 157] (by decide +kernel) (by decide +kernel)
set_option maxRecDepth 20000 in
theorem gX2_isSame_X2_next : GoodIn wsX2_isSame (wsV RX2 72 RX2 yX2_next wsX2_next) := goodIn_app (goodIn_of _ (by decide +kernel)) ggX2_isSame_X2_next
set_option maxRecDepth 20000 in
theorem ggX2_isSame_X1_told : GoodIn wsX2_isSame wsX1_told := goodIn_ca (goodIn_r _ [134, 23, 135, 24, 25, 21, 26, 27, 28, 136, 137, 138, 32, 139, 50, 51, 108, 140, 92, 93, 94, 95, 46, 47, 48, 49, 96, 97, 98, 99, 158, 159, 160, 161, 162, 163, 164, 165, 166, 167, 168, 169, 170, 171, 172, 173, 174, 175, 176, 177] (by decide +kernel) (by decide +kernel)) (goodIn_sub (fun _ h => List.mem_cons_of_mem _ (List.mem_append_right _ h)) (by decide +kernel))
set_option maxRecDepth 20000 in
theorem gX2_isSame_X1_told : GoodIn wsX2_isSame (wsV RX2 101 RX1 yX1_told wsX1_told) := goodIn_app (goodIn_of _ (by decide +kernel)) ggX2_isSame_X1_told
set_option maxRecDepth 20000 in
theorem ggX2_isSame_X1_mean : GoodIn wsX2_isSame wsX1_mean := goodIn_r _ [144, 23, 145, 146, 53, 54, 32, 55, 56, 158, 159, 160, 161, 162, 163, 164, 165, 166, 167, 168, 169, 170, 171, 172, 173, 174, 175, 176, 177] (by decide +kernel) (by decide +kernel)
set_option maxRecDepth 20000 in
theorem gX2_isSame_X1_mean : GoodIn wsX2_isSame (wsV RX2 104 RX1 yX1_mean wsX1_mean) := goodIn_app (goodIn_of _ (by decide +kernel)) ggX2_isSame_X1_mean
theorem dX2_isSame_0 : decode cX2_isSame 0 = .ok (.aload_n 0, 1) := by decide +kernel
theorem dX2_isSame_1 : decode cX2_isSame 1 = .ok (.invokevirtual 84, 3) := by decide +kernel
theorem dX2_isSame_4 : decode cX2_isSame 4 = .ok (.astore_n 2, 1) := by decide +kernel
theorem dX2_isSame_5 : decode cX2_isSame 5 = .ok (.iconst 0, 1) := by decide +kernel
theorem dX2_isSame_6 : decode cX2_isSame 6 = .ok (.istore_n 3, 1) := by decide +kernel
theorem dX2_isSame_7 : decode cX2_isSame 7 = .ok (.iload_n 3, 1) := by decide +kernel
theorem dX2_isSame_8 : decode cX2_isSame 8 = .ok (.bipush 10, 2) := by decide +kernel
theorem dX2_isSame_10 : decode cX2_isSame 10 = .ok (.if_icmp .ge 22, 3) := by decide +kernel
theorem dX2_isSame_13 : decode cX2_isSame 13 = .ok (.aload_n 1, 1) := by decide +kernel
theorem dX2_isSame_14 : decode cX2_isSame 14 = .ok (.iload_n 3, 1) := by decide +kernel
theorem dX2_isSame_15 : decode cX2_isSame 15 = .ok (.invokevirtual 88, 3) := by decide +kernel
theorem dX2_isSame_18 : decode cX2_isSame 18 = .ok (.aload_n 2, 1) := by decide +kernel
theorem dX2_isSame_19 : decode cX2_isSame 19 = .ok (.iload_n 3, 1) := by decide +kernel
theorem dX2_isSame_20 : decode cX2_isSame 20 = .ok (.iaload, 1) := by decide +kernel
theorem dX2_isSame_21 : decode cX2_isSame 21 = .ok (.if_icmp .eq 5, 3) := by decide +kernel
theorem dX2_isSame_24 : decode cX2_isSame 24 = .ok (.iconst 0, 1) := by decide +kernel
theorem dX2_isSame_25 : decode cX2_isSame 25 = .ok (.ireturn, 1) := by decide +kernel
theorem dX2_isSame_26 : decode cX2_isSame 26 = .ok (.iinc 3 1, 3) := by decide +kernel
theorem dX2_isSame_29 : decode cX2_isSame 29 = .ok (.goto (-22), 3) := by decide +kernel
theorem dX2_isSame_32 : decode cX2_isSame 32 = .ok (.iconst 0, 1) := by decide +kernel
theorem dX2_isSame_33 : decode cX2_isSame 33 = .ok (.istore_n 3, 1) := by decide +kernel
theorem dX2_isSame_34 : decode cX2_isSame 34 = .ok (.iload_n 3, 1) := by decide +kernel
theorem dX2_isSame_35 : decode cX2_isSame 35 = .ok (.bipush 6, 2) := by decide +kernel
theorem dX2_isSame_37 : decode cX2_isSame 37 = .ok (.if_icmp .ge 128, 3) := by decide +kernel
theorem dX2_isSame_40 : decode cX2_isSame 40 = .ok (.iconst 0, 1) := by decide +kernel
theorem dX2_isSame_41 : decode cX2_isSame 41 = .ok (.istore 4, 2) := by decide +kernel
theorem dX2_isSame_43 : decode cX2_isSame 43 = .ok (.aload_n 0, 1) := by decide +kernel
theorem dX2_isSame_44 : decode cX2_isSame 44 = .ok (.getfield 31, 3) := by decide +kernel
theorem dX2_isSame_47 : decode cX2_isSame 47 = .ok (.astore 5, 2) := by decide +kernel
theorem dX2_isSame_49 : decode cX2_isSame 49 = .ok (.aload 5, 2) := by decide +kernel
theorem dX2_isSame_51 : decode cX2_isSame 51 = .ok (.arraylength, 1) := by decide +kernel
theorem dX2_isSame_52 : decode cX2_isSame 52 = .ok (.istore 6, 2) := by decide +kernel
theorem dX2_isSame_54 : decode cX2_isSame 54 = .ok (.iconst 0, 1) := by decide +kernel
theorem dX2_isSame_55 : decode cX2_isSame 55 = .ok (.istore 7, 2) := by decide +kernel
theorem dX2_isSame_57 : decode cX2_isSame 57 = .ok (.iload 7, 2) := by decide +kernel
theorem dX2_isSame_59 : decode cX2_isSame 59 = .ok (.iload 6, 2) := by decide +kernel
theorem dX2_isSame_61 : decode cX2_isSame 61 = .ok (.if_icmp .ge 34, 3) := by decide +kernel
theorem dX2_isSame_64 : decode cX2_isSame 64 = .ok (.aload 5, 2) := by decide +kernel
theorem dX2_isSame_66 : decode cX2_isSame 66 = .ok (.iload 7, 2) := by decide +kernel
theorem dX2_isSame_68 : decode cX2_isSame 68 = .ok (.aaload, 1) := by decide +kernel
theorem dX2_isSame_69 : decode cX2_isSame 69 = .ok (.astore 8, 2) := by decide +kernel
theorem dX2_isSame_71 : decode cX2_isSame 71 = .ok (.iload 4, 2) := by decide +kernel
theorem dX2_isSame_73 : decode cX2_isSame 73 = .ok (.aload 8, 2) := by decide +kernel
theorem dX2_isSame_75 : decode cX2_isSame 75 = .ok (.iconst 0, 1) := by decide +kernel
theorem dX2_isSame_76 : decode cX2_isSame 76 = .ok (.iaload, 1) := by decide +kernel
theorem dX2_isSame_77 : decode cX2_isSame 77 = .ok (.iload_n 3, 1) := by decide +kernel
theorem dX2_isSame_78 : decode cX2_isSame 78 = .ok (.if_icmp .ne 7, 3) := by decide +kernel
theorem dX2_isSame_81 : decode cX2_isSame 81 = .ok (.iconst 1, 1) := by decide +kernel
theorem dX2_isSame_82 : decode cX2_isSame 82 = .ok (.goto 4, 3) := by decide +kernel
theorem dX2_isSame_85 : decode cX2_isSame 85 = .ok (.iconst 0, 1) := by decide +kernel
theorem dX2_isSame_86 : decode cX2_isSame 86 = .ok (.iadd, 1) := by decide +kernel
theorem dX2_isSame_87 : decode cX2_isSame 87 = .ok (.istore 4, 2) := by decide +kernel
theorem dX2_isSame_89 : decode cX2_isSame 89 = .ok (.iinc 7 1, 3) := by decide +kernel
theorem dX2_isSame_92 : decode cX2_isSame 92 = .ok (.goto (-35), 3) := by decide +kernel
theorem dX2_isSame_95 : decode cX2_isSame 95 = .ok (.aload_n 1, 1) := by decide +kernel
theorem dX2_isSame_96 : decode cX2_isSame 96 = .ok (.iload_n 3, 1) := by decide +kernel
theorem dX2_isSame_97 : decode cX2_isSame 97 = .ok (.iconst 0, 1) := by decide +kernel
theorem dX2_isSame_98 : decode cX2_isSame 98 = .ok (.invokevirtual 94, 3) := by decide +kernel
theorem dX2_isSame_101 : decode cX2_isSame 101 = .ok (.aload_n 0, 1) := by decide +kernel
theorem dX2_isSame_102 : decode cX2_isSame 102 = .ok (.getfield 14, 3) := by decide +kernel
theorem dX2_isSame_105 : decode cX2_isSame 105 = .ok (.iload_n 3, 1) := by decide +kernel
theorem dX2_isSame_106 : decode cX2_isSame 106 = .ok (.aaload, 1) := by decide +kernel
theorem dX2_isSame_107 : decode cX2_isSame 107 = .ok (.iconst 0, 1) := by decide +kernel
theorem dX2_isSame_108 : decode cX2_isSame 108 = .ok (.iaload, 1) := by decide +kernel
theorem dX2_isSame_109 : decode cX2_isSame 109 = .ok (.if_icmp .ne 48, 3) := by decide +kernel
theorem dX2_isSame_112 : decode cX2_isSame 112 = .ok (.aload_n 1, 1) := by decide +kernel
theorem dX2_isSame_113 : decode cX2_isSame 113 = .ok (.iload_n 3, 1) := by decide +kernel
theorem dX2_isSame_114 : decode cX2_isSame 114 = .ok (.iconst 1, 1) := by decide +kernel
theorem dX2_isSame_115 : decode cX2_isSame 115 = .ok (.invokevirtual 94, 3) := by decide +kernel
theorem dX2_isSame_118 : decode cX2_isSame 118 = .ok (.iload 4, 2) := by decide +kernel
theorem dX2_isSame_120 : decode cX2_isSame 120 = .ok (.if_icmp .ne 37, 3) := by decide +kernel
theorem dX2_isSame_123 : decode cX2_isSame 123 = .ok (.aload_n 1, 1) := by decide +kernel
theorem dX2_isSame_124 : decode cX2_isSame 124 = .ok (.iload_n 3, 1) := by decide +kernel
theorem dX2_isSame_125 : decode cX2_isSame 125 = .ok (.iconst 2, 1) := by decide +kernel
theorem dX2_isSame_126 : decode cX2_isSame 126 = .ok (.invokevirtual 94, 3) := by decide +kernel
theorem dX2_isSame_129 : decode cX2_isSame 129 = .ok (.aload_n 0, 1) := by decide +kernel
theorem dX2_isSame_130 : decode cX2_isSame 130 = .ok (.getfield 14, 3) := by decide +kernel
theorem dX2_isSame_133 : decode cX2_isSame 133 = .ok (.iload_n 3, 1) := by decide +kernel
theorem dX2_isSame_134 : decode cX2_isSame 134 = .ok (.aaload, 1) := by decide +kernel
theorem dX2_isSame_135 : decode cX2_isSame 135 = .ok (.iconst 1, 1) := by decide +kernel
theorem dX2_isSame_136 : decode cX2_isSame 136 = .ok (.iaload, 1) := by decide +kernel
theorem dX2_isSame_137 : decode cX2_isSame 137 = .ok (.if_icmp .ne 20, 3) := by decide +kernel
theorem dX2_isSame_140 : decode cX2_isSame 140 = .ok (.aload_n 1, 1) := by decide +kernel
theorem dX2_isSame_141 : decode cX2_isSame 141 = .ok (.iload_n 3, 1) := by decide +kernel
theorem dX2_isSame_142 : decode cX2_isSame 142 = .ok (.iconst 3, 1) := by decide +kernel
theorem dX2_isSame_143 : decode cX2_isSame 143 = .ok (.invokevirtual 94, 3) := by decide +kernel
theorem dX2_isSame_146 : decode cX2_isSame 146 = .ok (.aload_n 0, 1) := by decide +kernel
theorem dX2_isSame_147 : decode cX2_isSame 147 = .ok (.getfield 14, 3) := by decide +kernel
theorem dX2_isSame_150 : decode cX2_isSame 150 = .ok (.iload_n 3, 1) := by decide +kernel
theorem dX2_isSame_151 : decode cX2_isSame 151 = .ok (.aaload, 1) := by decide +kernel
theorem dX2_isSame_152 : decode cX2_isSame 152 = .ok (.iconst 2, 1) := by decide +kernel
theorem dX2_isSame_153 : decode cX2_isSame 153 = .ok (.iaload, 1) := by decide +kernel
theorem dX2_isSame_154 : decode cX2_isSame 154 = .ok (.if_icmp .eq 5, 3) := by decide +kernel
theorem dX2_isSame_157 : decode cX2_isSame 157 = .ok (.iconst 0, 1) := by decide +kernel
theorem dX2_isSame_158 : decode cX2_isSame 158 = .ok (.ireturn, 1) := by decide +kernel
theorem dX2_isSame_159 : decode cX2_isSame 159 = .ok (.iinc 3 1, 3) := by decide +kernel
theorem dX2_isSame_162 : decode cX2_isSame 162 = .ok (.goto (-128), 3) := by decide +kernel
theorem dX2_isSame_165 : decode cX2_isSame 165 = .ok (.aload_n 0, 1) := by decide +kernel
theorem dX2_isSame_166 : decode cX2_isSame 166 = .ok (.getfield 31, 3) := by decide +kernel
theorem dX2_isSame_169 : decode cX2_isSame 169 = .ok (.arraylength, 1) := by decide +kernel
theorem dX2_isSame_170 : decode cX2_isSame 170 = .ok (.newarray .boolean, 2) := by decide +kernel
theorem dX2_isSame_172 : decode cX2_isSame 172 = .ok (.astore_n 3, 1) := by decide +kernel
theorem dX2_isSame_173 : decode cX2_isSame 173 = .ok (.iconst 0, 1) := by decide +kernel
theorem dX2_isSame_174 : decode cX2_isSame 174 = .ok (.istore 4, 2) := by decide +kernel
theorem dX2_isSame_176 : decode cX2_isSame 176 = .ok (.iload 4, 2) := by decide +kernel
theorem dX2_isSame_178 : decode cX2_isSame 178 = .ok (.iconst 5, 1) := by decide +kernel
theorem dX2_isSame_179 : decode cX2_isSame 179 = .ok (.if_icmp .ge 155, 3) := by decide +kernel
theorem dX2_isSame_182 : decode cX2_isSame 182 = .ok (.iconst 0, 1) := by decide +kernel
theorem dX2_isSame_183 : decode cX2_isSame 183 = .ok (.istore 5, 2) := by decide +kernel
theorem dX2_isSame_185 : decode cX2_isSame 185 = .ok (.aload_n 0, 1) := by decide +kernel
theorem dX2_isSame_186 : decode cX2_isSame 186 = .ok (.getfield 31, 3) := by decide +kernel
theorem dX2_isSame_189 : decode cX2_isSame 189 = .ok (.astore 6, 2) := by decide +kernel
theorem dX2_isSame_191 : decode cX2_isSame 191 = .ok (.aload 6, 2) := by decide +kernel
theorem dX2_isSame_193 : decode cX2_isSame 193 = .ok (.arraylength, 1) := by decide +kernel
theorem dX2_isSame_194 : decode cX2_isSame 194 = .ok (.istore 7, 2) := by decide +kernel
theorem dX2_isSame_196 : decode cX2_isSame 196 = .ok (.iconst 0, 1) := by decide +kernel
theorem dX2_isSame_197 : decode cX2_isSame 197 = .ok (.istore 8, 2) := by decide +kernel
theorem dX2_isSame_199 : decode cX2_isSame 199 = .ok (.iload 8, 2) := by decide +kernel
theorem dX2_isSame_201 : decode cX2_isSame 201 = .ok (.iload 7, 2) := by decide +kernel
theorem dX2_isSame_203 : decode cX2_isSame 203 = .ok (.if_icmp .ge 37, 3) := by decide +kernel
theorem dX2_isSame_206 : decode cX2_isSame 206 = .ok (.aload 6, 2) := by decide +kernel
theorem dX2_isSame_208 : decode cX2_isSame 208 = .ok (.iload 8, 2) := by decide +kernel
theorem dX2_isSame_210 : decode cX2_isSame 210 = .ok (.aaload, 1) := by decide +kernel
theorem dX2_isSame_211 : decode cX2_isSame 211 = .ok (.astore 9, 2) := by decide +kernel
theorem dX2_isSame_213 : decode cX2_isSame 213 = .ok (.iload 5, 2) := by decide +kernel
theorem dX2_isSame_215 : decode cX2_isSame 215 = .ok (.aload_n 0, 1) := by decide +kernel
theorem dX2_isSame_216 : decode cX2_isSame 216 = .ok (.aload 9, 2) := by decide +kernel
theorem dX2_isSame_218 : decode cX2_isSame 218 = .ok (.invokevirtual 60, 3) := by decide +kernel
theorem dX2_isSame_221 : decode cX2_isSame 221 = .ok (.iload 4, 2) := by decide +kernel
theorem dX2_isSame_223 : decode cX2_isSame 223 = .ok (.if_icmp .ne 7, 3) := by decide +kernel
theorem dX2_isSame_226 : decode cX2_isSame 226 = .ok (.iconst 1, 1) := by decide +kernel
theorem dX2_isSame_227 : decode cX2_isSame 227 = .ok (.goto 4, 3) := by decide +kernel
theorem dX2_isSame_230 : decode cX2_isSame 230 = .ok (.iconst 0, 1) := by decide +kernel
theorem dX2_isSame_231 : decode cX2_isSame 231 = .ok (.iadd, 1) := by decide +kernel
theorem dX2_isSame_232 : decode cX2_isSame 232 = .ok (.istore 5, 2) := by decide +kernel
theorem dX2_isSame_234 : decode cX2_isSame 234 = .ok (.iinc 8 1, 3) := by decide +kernel
theorem dX2_isSame_237 : decode cX2_isSame 237 = .ok (.goto (-38), 3) := by decide +kernel
theorem dX2_isSame_240 : decode cX2_isSame 240 = .ok (.aload_n 1, 1) := by decide +kernel
theorem dX2_isSame_241 : decode cX2_isSame 241 = .ok (.iload 4, 2) := by decide +kernel
theorem dX2_isSame_243 : decode cX2_isSame 243 = .ok (.iconst 0, 1) := by decide +kernel
theorem dX2_isSame_244 : decode cX2_isSame 244 = .ok (.invokevirtual 98, 3) := by decide +kernel
theorem dX2_isSame_247 : decode cX2_isSame 247 = .ok (.aload_n 0, 1) := by decide +kernel
theorem dX2_isSame_248 : decode cX2_isSame 248 = .ok (.getfield 18, 3) := by decide +kernel
theorem dX2_isSame_251 : decode cX2_isSame 251 = .ok (.iload 4, 2) := by decide +kernel
theorem dX2_isSame_253 : decode cX2_isSame 253 = .ok (.aaload, 1) := by decide +kernel
theorem dX2_isSame_254 : decode cX2_isSame 254 = .ok (.iconst 0, 1) := by decide +kernel
theorem dX2_isSame_255 : decode cX2_isSame 255 = .ok (.iaload, 1) := by decide +kernel
theorem dX2_isSame_256 : decode cX2_isSame 256 = .ok (.if_icmp .ne 70, 3) := by decide +kernel
theorem dX2_isSame_259 : decode cX2_isSame 259 = .ok (.aload_n 1, 1) := by decide +kernel
theorem dX2_isSame_260 : decode cX2_isSame 260 = .ok (.iload 4, 2) := by decide +kernel
theorem dX2_isSame_262 : decode cX2_isSame 262 = .ok (.iconst 1, 1) := by decide +kernel
theorem dX2_isSame_263 : decode cX2_isSame 263 = .ok (.invokevirtual 98, 3) := by decide +kernel
theorem dX2_isSame_266 : decode cX2_isSame 266 = .ok (.iload 5, 2) := by decide +kernel
theorem dX2_isSame_268 : decode cX2_isSame 268 = .ok (.if_icmp .ne 58, 3) := by decide +kernel
theorem dX2_isSame_271 : decode cX2_isSame 271 = .ok (.aload_n 1, 1) := by decide +kernel
theorem dX2_isSame_272 : decode cX2_isSame 272 = .ok (.iload 4, 2) := by decide +kernel
theorem dX2_isSame_274 : decode cX2_isSame 274 = .ok (.iconst 2, 1) := by decide +kernel
theorem dX2_isSame_275 : decode cX2_isSame 275 = .ok (.invokevirtual 98, 3) := by decide +kernel
theorem dX2_isSame_278 : decode cX2_isSame 278 = .ok (.aload_n 0, 1) := by decide +kernel
theorem dX2_isSame_279 : decode cX2_isSame 279 = .ok (.getfield 18, 3) := by decide +kernel
theorem dX2_isSame_282 : decode cX2_isSame 282 = .ok (.iload 4, 2) := by decide +kernel
theorem dX2_isSame_284 : decode cX2_isSame 284 = .ok (.aaload, 1) := by decide +kernel
theorem dX2_isSame_285 : decode cX2_isSame 285 = .ok (.iconst 1, 1) := by decide +kernel
theorem dX2_isSame_286 : decode cX2_isSame 286 = .ok (.iaload, 1) := by decide +kernel
theorem dX2_isSame_287 : decode cX2_isSame 287 = .ok (.if_icmp .ne 39, 3) := by decide +kernel
theorem dX2_isSame_290 : decode cX2_isSame 290 = .ok (.aload_n 1, 1) := by decide +kernel
theorem dX2_isSame_291 : decode cX2_isSame 291 = .ok (.iload 4, 2) := by decide +kernel
theorem dX2_isSame_293 : decode cX2_isSame 293 = .ok (.iconst 3, 1) := by decide +kernel
theorem dX2_isSame_294 : decode cX2_isSame 294 = .ok (.invokevirtual 98, 3) := by decide +kernel
theorem dX2_isSame_297 : decode cX2_isSame 297 = .ok (.aload_n 0, 1) := by decide +kernel
theorem dX2_isSame_298 : decode cX2_isSame 298 = .ok (.getfield 18, 3) := by decide +kernel
theorem dX2_isSame_301 : decode cX2_isSame 301 = .ok (.iload 4, 2) := by decide +kernel
theorem dX2_isSame_303 : decode cX2_isSame 303 = .ok (.aaload, 1) := by decide +kernel
theorem dX2_isSame_304 : decode cX2_isSame 304 = .ok (.iconst 2, 1) := by decide +kernel
theorem dX2_isSame_305 : decode cX2_isSame 305 = .ok (.iaload, 1) := by decide +kernel
theorem dX2_isSame_306 : decode cX2_isSame 306 = .ok (.if_icmp .ne 20, 3) := by decide +kernel
theorem dX2_isSame_309 : decode cX2_isSame 309 = .ok (.aload_n 1, 1) := by decide +kernel
theorem dX2_isSame_310 : decode cX2_isSame 310 = .ok (.iload 4, 2) := by decide +kernel
theorem dX2_isSame_312 : decode cX2_isSame 312 = .ok (.iconst 4, 1) := by decide +kernel
theorem dX2_isSame_313 : decode cX2_isSame 313 = .ok (.invokevirtual 98, 3) := by decide +kernel
theorem dX2_isSame_316 : decode cX2_isSame 316 = .ok (.aload_n 0, 1) := by decide +kernel
theorem dX2_isSame_317 : decode cX2_isSame 317 = .ok (.iload 4, 2) := by decide +kernel
theorem dX2_isSame_319 : decode cX2_isSame 319 = .ok (.aload_n 3, 1) := by decide +kernel
theorem dX2_isSame_320 : decode cX2_isSame 320 = .ok (.invokevirtual 72, 3) := by decide +kernel
theorem dX2_isSame_323 : decode cX2_isSame 323 = .ok (.if_icmp .eq 5, 3) := by decide +kernel
theorem dX2_isSame_326 : decode cX2_isSame 326 = .ok (.iconst 0, 1) := by decide +kernel
theorem dX2_isSame_327 : decode cX2_isSame 327 = .ok (.ireturn, 1) := by decide +kernel
theorem dX2_isSame_328 : decode cX2_isSame 328 = .ok (.iinc 4 1, 3) := by decide +kernel
theorem dX2_isSame_331 : decode cX2_isSame 331 = .ok (.goto (-155), 3) := by decide +kernel
theorem dX2_isSame_334 : decode cX2_isSame 334 = .ok (.iconst 0, 1) := by decide +kernel
theorem dX2_isSame_335 : decode cX2_isSame 335 = .ok (.istore 4, 2) := by decide +kernel
theorem dX2_isSame_337 : decode cX2_isSame 337 = .ok (.iload 4, 2) := by decide +kernel
theorem dX2_isSame_339 : decode cX2_isSame 339 = .ok (.aload_n 0, 1) := by decide +kernel
theorem dX2_isSame_340 : decode cX2_isSame 340 = .ok (.getfield 31, 3) := by decide +kernel
theorem dX2_isSame_343 : decode cX2_isSame 343 = .ok (.arraylength, 1) := by decide +kernel
theorem dX2_isSame_344 : decode cX2_isSame 344 = .ok (.if_icmp .ge 70, 3) := by decide +kernel
theorem dX2_isSame_347 : decode cX2_isSame 347 = .ok (.iconst 0, 1) := by decide +kernel
theorem dX2_isSame_348 : decode cX2_isSame 348 = .ok (.istore 5, 2) := by decide +kernel
theorem dX2_isSame_350 : decode cX2_isSame 350 = .ok (.iload 5, 2) := by decide +kernel
theorem dX2_isSame_352 : decode cX2_isSame 352 = .ok (.iconst 4, 1) := by decide +kernel
theorem dX2_isSame_353 : decode cX2_isSame 353 = .ok (.if_icmp .ge 32, 3) := by decide +kernel
theorem dX2_isSame_356 : decode cX2_isSame 356 = .ok (.aload_n 1, 1) := by decide +kernel
theorem dX2_isSame_357 : decode cX2_isSame 357 = .ok (.iload 4, 2) := by decide +kernel
theorem dX2_isSame_359 : decode cX2_isSame 359 = .ok (.iload 5, 2) := by decide +kernel
theorem dX2_isSame_361 : decode cX2_isSame 361 = .ok (.invokevirtual 101, 3) := by decide +kernel
theorem dX2_isSame_364 : decode cX2_isSame 364 = .ok (.aload_n 0, 1) := by decide +kernel
theorem dX2_isSame_365 : decode cX2_isSame 365 = .ok (.getfield 31, 3) := by decide +kernel
theorem dX2_isSame_368 : decode cX2_isSame 368 = .ok (.iload 4, 2) := by decide +kernel
theorem dX2_isSame_370 : decode cX2_isSame 370 = .ok (.aaload, 1) := by decide +kernel
theorem dX2_isSame_371 : decode cX2_isSame 371 = .ok (.iload 5, 2) := by decide +kernel
theorem dX2_isSame_373 : decode cX2_isSame 373 = .ok (.iaload, 1) := by decide +kernel
theorem dX2_isSame_374 : decode cX2_isSame 374 = .ok (.if_icmp .eq 5, 3) := by decide +kernel
theorem dX2_isSame_377 : decode cX2_isSame 377 = .ok (.iconst 0, 1) := by decide +kernel
theorem dX2_isSame_378 : decode cX2_isSame 378 = .ok (.ireturn, 1) := by decide +kernel
theorem dX2_isSame_379 : decode cX2_isSame 379 = .ok (.iinc 5 1, 3) := by decide +kernel
theorem dX2_isSame_382 : decode cX2_isSame 382 = .ok (.goto (-32), 3) := by decide +kernel
theorem dX2_isSame_385 : decode cX2_isSame 385 = .ok (.aload_n 1, 1) := by decide +kernel
theorem dX2_isSame_386 : decode cX2_isSame 386 = .ok (.iload 4, 2) := by decide +kernel
theorem dX2_isSame_388 : decode cX2_isSame 388 = .ok (.iconst 4, 1) := by decide +kernel
theorem dX2_isSame_389 : decode cX2_isSame 389 = .ok (.invokevirtual 101, 3) := by decide +kernel
theorem dX2_isSame_392 : decode cX2_isSame 392 = .ok (.aload_n 0, 1) := by decide +kernel
theorem dX2_isSame_393 : decode cX2_isSame 393 = .ok (.aload_n 0, 1) := by decide +kernel
theorem dX2_isSame_394 : decode cX2_isSame 394 = .ok (.getfield 31, 3) := by decide +kernel
theorem dX2_isSame_397 : decode cX2_isSame 397 = .ok (.iload 4, 2) := by decide +kernel
theorem dX2_isSame_399 : decode cX2_isSame 399 = .ok (.aaload, 1) := by decide +kernel
theorem dX2_isSame_400 : decode cX2_isSame 400 = .ok (.invokevirtual 60, 3) := by decide +kernel
theorem dX2_isSame_403 : decode cX2_isSame 403 = .ok (.if_icmp .eq 5, 3) := by decide +kernel
theorem dX2_isSame_406 : decode cX2_isSame 406 = .ok (.iconst 0, 1) := by decide +kernel
theorem dX2_isSame_407 : decode cX2_isSame 407 = .ok (.ireturn, 1) := by decide +kernel
theorem dX2_isSame_408 : decode cX2_isSame 408 = .ok (.iinc 4 1, 3) := by decide +kernel
theorem dX2_isSame_411 : decode cX2_isSame 411 = .ok (.goto (-74), 3) := by decide +kernel
theorem dX2_isSame_414 : decode cX2_isSame 414 = .ok (.aload_n 1, 1) := by decide +kernel
theorem dX2_isSame_415 : decode cX2_isSame 415 = .ok (.invokevirtual 104, 3) := by decide +kernel
theorem dX2_isSame_418 : decode cX2_isSame 418 = .ok (.aload_n 2, 1) := by decide +kernel
theorem dX2_isSame_419 : decode cX2_isSame 419 = .ok (.iconst 4, 1) := by decide +kernel
theorem dX2_isSame_420 : decode cX2_isSame 420 = .ok (.iaload, 1) := by decide +kernel
theorem dX2_isSame_421 : decode cX2_isSame 421 = .ok (.i2d, 1) := by decide +kernel
theorem dX2_isSame_422 : decode cX2_isSame 422 = .ok (.ldc2_w 108, 3) := by decide +kernel
theorem dX2_isSame_425 : decode cX2_isSame 425 = .ok (.ddiv, 1) := by decide +kernel
theorem dX2_isSame_426 : decode cX2_isSame 426 = .ok (.dcmp .l, 1) := by decide +kernel
theorem dX2_isSame_427 : decode cX2_isSame 427 = .ok (.ifCond .ne 7, 3) := by decide +kernel
theorem dX2_isSame_430 : decode cX2_isSame 430 = .ok (.iconst 1, 1) := by decide +kernel
theorem dX2_isSame_431 : decode cX2_isSame 431 = .ok (.goto 4, 3) := by decide +kernel
theorem dX2_isSame_434 : decode cX2_isSame 434 = .ok (.iconst 0, 1) := by decide +kernel
theorem dX2_isSame_435 : decode cX2_isSame 435 = .ok (.ireturn, 1) := by decide +kernel
