-- decode rows (printed by program)
theorem dX9_init_0 : decode cX9_init 0 = .ok (.aload_n 0, 1) := by decide +kernel
theorem dX9_init_1 : decode cX9_init 1 = .ok (.invokespecial 1, 3) := by decide +kernel
theorem dX9_init_4 : decode cX9_init 4 = .ok (.aload_n 0, 1) := by decide +kernel
theorem dX9_init_5 : decode cX9_init 5 = .ok (.sipush 200, 3) := by decide +kernel
theorem dX9_init_8 : decode cX9_init 8 = .ok (.newarray .int, 2) := by decide +kernel
theorem dX9_init_10 : decode cX9_init 10 = .ok (.putfield 7, 3) := by decide +kernel
theorem dX9_init_13 : decode cX9_init 13 = .ok (.aload_n 0, 1) := by decide +kernel
theorem dX9_init_14 : decode cX9_init 14 = .ok (.bipush 45, 2) := by decide +kernel
theorem dX9_init_16 : decode cX9_init 16 = .ok (.newarray .int, 2) := by decide +kernel
theorem dX9_init_18 : decode cX9_init 18 = .ok (.putfield 13, 3) := by decide +kernel
theorem dX9_init_21 : decode cX9_init 21 = .ok (.aload_n 0, 1) := by decide +kernel
theorem dX9_init_22 : decode cX9_init 22 = .ok (.sipush 270, 3) := by decide +kernel
theorem dX9_init_25 : decode cX9_init 25 = .ok (.newarray .int, 2) := by decide +kernel
theorem dX9_init_27 : decode cX9_init 27 = .ok (.putfield 16, 3) := by decide +kernel
theorem dX9_init_30 : decode cX9_init 30 = .ok (.aload_n 0, 1) := by decide +kernel
theorem dX9_init_31 : decode cX9_init 31 = .ok (.bipush 45, 2) := by decide +kernel
theorem dX9_init_33 : decode cX9_init 33 = .ok (.newarray .int, 2) := by decide +kernel
theorem dX9_init_35 : decode cX9_init 35 = .ok (.putfield 19, 3) := by decide +kernel
theorem dX9_init_38 : decode cX9_init 38 = .ok (.aload_n 0, 1) := by decide +kernel
theorem dX9_init_39 : decode cX9_init 39 = .ok (.bipush 10, 2) := by decide +kernel
theorem dX9_init_41 : decode cX9_init 41 = .ok (.newarray .int, 2) := by decide +kernel
theorem dX9_init_43 : decode cX9_init 43 = .ok (.putfield 22, 3) := by decide +kernel
theorem dX9_init_46 : decode cX9_init 46 = .ok (.aload_n 0, 1) := by decide +kernel
theorem dX9_init_47 : decode cX9_init 47 = .ok (.bipush 25, 2) := by decide +kernel
theorem dX9_init_49 : decode cX9_init 49 = .ok (.newarray .int, 2) := by decide +kernel
theorem dX9_init_51 : decode cX9_init 51 = .ok (.dup, 1) := by decide +kernel
theorem dX9_init_52 : decode cX9_init 52 = .ok (.iconst 0, 1) := by decide +kernel
theorem dX9_init_53 : decode cX9_init 53 = .ok (.bipush 10, 2) := by decide +kernel
theorem dX9_init_55 : decode cX9_init 55 = .ok (.iastore, 1) := by decide +kernel
theorem dX9_init_56 : decode cX9_init 56 = .ok (.dup, 1) := by decide +kernel
theorem dX9_init_57 : decode cX9_init 57 = .ok (.iconst 1, 1) := by decide +kernel
theorem dX9_init_58 : decode cX9_init 58 = .ok (.iconst 0, 1) := by decide +kernel
theorem dX9_init_59 : decode cX9_init 59 = .ok (.iastore, 1) := by decide +kernel
theorem dX9_init_60 : decode cX9_init 60 = .ok (.dup, 1) := by decide +kernel
theorem dX9_init_61 : decode cX9_init 61 = .ok (.iconst 2, 1) := by decide +kernel
theorem dX9_init_62 : decode cX9_init 62 = .ok (.bipush 8, 2) := by decide +kernel
theorem dX9_init_64 : decode cX9_init 64 = .ok (.iastore, 1) := by decide +kernel
theorem dX9_init_65 : decode cX9_init 65 = .ok (.dup, 1) := by decide +kernel
theorem dX9_init_66 : decode cX9_init 66 = .ok (.iconst 3, 1) := by decide +kernel
theorem dX9_init_67 : decode cX9_init 67 = .ok (.iconst 1, 1) := by decide +kernel
theorem dX9_init_68 : decode cX9_init 68 = .ok (.iastore, 1) := by decide +kernel
theorem dX9_init_69 : decode cX9_init 69 = .ok (.dup, 1) := by decide +kernel
theorem dX9_init_70 : decode cX9_init 70 = .ok (.iconst 4, 1) := by decide +kernel
theorem dX9_init_71 : decode cX9_init 71 = .ok (.bipush 12, 2) := by decide +kernel
theorem dX9_init_73 : decode cX9_init 73 = .ok (.iastore, 1) := by decide +kernel
theorem dX9_init_74 : decode cX9_init 74 = .ok (.dup, 1) := by decide +kernel
theorem dX9_init_75 : decode cX9_init 75 = .ok (.iconst 5, 1) := by decide +kernel
theorem dX9_init_76 : decode cX9_init 76 = .ok (.bipush 14, 2) := by decide +kernel
theorem dX9_init_78 : decode cX9_init 78 = .ok (.iastore, 1) := by decide +kernel
theorem dX9_init_79 : decode cX9_init 79 = .ok (.dup, 1) := by decide +kernel
theorem dX9_init_80 : decode cX9_init 80 = .ok (.bipush 6, 2) := by decide +kernel
theorem dX9_init_82 : decode cX9_init 82 = .ok (.iconst 0, 1) := by decide +kernel
theorem dX9_init_83 : decode cX9_init 83 = .ok (.iastore, 1) := by decide +kernel
theorem dX9_init_84 : decode cX9_init 84 = .ok (.dup, 1) := by decide +kernel
theorem dX9_init_85 : decode cX9_init 85 = .ok (.bipush 7, 2) := by decide +kernel
theorem dX9_init_87 : decode cX9_init 87 = .ok (.bipush 16, 2) := by decide +kernel
theorem dX9_init_89 : decode cX9_init 89 = .ok (.iastore, 1) := by decide +kernel
theorem dX9_init_90 : decode cX9_init 90 = .ok (.dup, 1) := by decide +kernel
theorem dX9_init_91 : decode cX9_init 91 = .ok (.bipush 8, 2) := by decide +kernel
theorem dX9_init_93 : decode cX9_init 93 = .ok (.iconst 1, 1) := by decide +kernel
theorem dX9_init_94 : decode cX9_init 94 = .ok (.iastore, 1) := by decide +kernel
theorem dX9_init_95 : decode cX9_init 95 = .ok (.dup, 1) := by decide +kernel
theorem dX9_init_96 : decode cX9_init 96 = .ok (.bipush 9, 2) := by decide +kernel
theorem dX9_init_98 : decode cX9_init 98 = .ok (.bipush 12, 2) := by decide +kernel
theorem dX9_init_100 : decode cX9_init 100 = .ok (.iastore, 1) := by decide +kernel
theorem dX9_init_101 : decode cX9_init 101 = .ok (.dup, 1) := by decide +kernel
theorem dX9_init_102 : decode cX9_init 102 = .ok (.bipush 10, 2) := by decide +kernel
theorem dX9_init_104 : decode cX9_init 104 = .ok (.bipush 18, 2) := by decide +kernel
theorem dX9_init_106 : decode cX9_init 106 = .ok (.iastore, 1) := by decide +kernel
theorem dX9_init_107 : decode cX9_init 107 = .ok (.dup, 1) := by decide +kernel
theorem dX9_init_108 : decode cX9_init 108 = .ok (.bipush 11, 2) := by decide +kernel
theorem dX9_init_110 : decode cX9_init 110 = .ok (.iconst 1, 1) := by decide +kernel
theorem dX9_init_111 : decode cX9_init 111 = .ok (.iastore, 1) := by decide +kernel
theorem dX9_init_112 : decode cX9_init 112 = .ok (.dup, 1) := by decide +kernel
theorem dX9_init_113 : decode cX9_init 113 = .ok (.bipush 12, 2) := by decide +kernel
theorem dX9_init_115 : decode cX9_init 115 = .ok (.bipush 24, 2) := by decide +kernel
theorem dX9_init_117 : decode cX9_init 117 = .ok (.iastore, 1) := by decide +kernel
theorem dX9_init_118 : decode cX9_init 118 = .ok (.dup, 1) := by decide +kernel
theorem dX9_init_119 : decode cX9_init 119 = .ok (.bipush 13, 2) := by decide +kernel
theorem dX9_init_121 : decode cX9_init 121 = .ok (.iconst 2, 1) := by decide +kernel
theorem dX9_init_122 : decode cX9_init 122 = .ok (.iastore, 1) := by decide +kernel
theorem dX9_init_123 : decode cX9_init 123 = .ok (.dup, 1) := by decide +kernel
theorem dX9_init_124 : decode cX9_init 124 = .ok (.bipush 14, 2) := by decide +kernel
theorem dX9_init_126 : decode cX9_init 126 = .ok (.bipush 16, 2) := by decide +kernel
theorem dX9_init_128 : decode cX9_init 128 = .ok (.iastore, 1) := by decide +kernel
theorem dX9_init_129 : decode cX9_init 129 = .ok (.dup, 1) := by decide +kernel
theorem dX9_init_130 : decode cX9_init 130 = .ok (.bipush 15, 2) := by decide +kernel
theorem dX9_init_132 : decode cX9_init 132 = .ok (.bipush 22, 2) := by decide +kernel
theorem dX9_init_134 : decode cX9_init 134 = .ok (.iastore, 1) := by decide +kernel
theorem dX9_init_135 : decode cX9_init 135 = .ok (.dup, 1) := by decide +kernel
theorem dX9_init_136 : decode cX9_init 136 = .ok (.bipush 16, 2) := by decide +kernel
theorem dX9_init_138 : decode cX9_init 138 = .ok (.iconst 2, 1) := by decide +kernel
theorem dX9_init_139 : decode cX9_init 139 = .ok (.iastore, 1) := by decide +kernel
theorem dX9_init_140 : decode cX9_init 140 = .ok (.dup, 1) := by decide +kernel
theorem dX9_init_141 : decode cX9_init 141 = .ok (.bipush 17, 2) := by decide +kernel
theorem dX9_init_143 : decode cX9_init 143 = .ok (.bipush 20, 2) := by decide +kernel
theorem dX9_init_145 : decode cX9_init 145 = .ok (.iastore, 1) := by decide +kernel
theorem dX9_init_146 : decode cX9_init 146 = .ok (.dup, 1) := by decide +kernel
theorem dX9_init_147 : decode cX9_init 147 = .ok (.bipush 18, 2) := by decide +kernel
theorem dX9_init_149 : decode cX9_init 149 = .ok (.iconst 0, 1) := by decide +kernel
theorem dX9_init_150 : decode cX9_init 150 = .ok (.iastore, 1) := by decide +kernel
theorem dX9_init_151 : decode cX9_init 151 = .ok (.dup, 1) := by decide +kernel
theorem dX9_init_152 : decode cX9_init 152 = .ok (.bipush 19, 2) := by decide +kernel
theorem dX9_init_154 : decode cX9_init 154 = .ok (.bipush 6, 2) := by decide +kernel
theorem dX9_init_156 : decode cX9_init 156 = .ok (.iastore, 1) := by decide +kernel
theorem dX9_init_157 : decode cX9_init 157 = .ok (.dup, 1) := by decide +kernel
theorem dX9_init_158 : decode cX9_init 158 = .ok (.bipush 20, 2) := by decide +kernel
theorem dX9_init_160 : decode cX9_init 160 = .ok (.bipush 26, 2) := by decide +kernel
theorem dX9_init_162 : decode cX9_init 162 = .ok (.iastore, 1) := by decide +kernel
theorem dX9_init_163 : decode cX9_init 163 = .ok (.dup, 1) := by decide +kernel
theorem dX9_init_164 : decode cX9_init 164 = .ok (.bipush 21, 2) := by decide +kernel
theorem dX9_init_166 : decode cX9_init 166 = .ok (.iconst 0, 1) := by decide +kernel
theorem dX9_init_167 : decode cX9_init 167 = .ok (.iastore, 1) := by decide +kernel
theorem dX9_init_168 : decode cX9_init 168 = .ok (.dup, 1) := by decide +kernel
theorem dX9_init_169 : decode cX9_init 169 = .ok (.bipush 22, 2) := by decide +kernel
theorem dX9_init_171 : decode cX9_init 171 = .ok (.bipush 32, 2) := by decide +kernel
theorem dX9_init_173 : decode cX9_init 173 = .ok (.iastore, 1) := by decide +kernel
theorem dX9_init_174 : decode cX9_init 174 = .ok (.dup, 1) := by decide +kernel
theorem dX9_init_175 : decode cX9_init 175 = .ok (.bipush 23, 2) := by decide +kernel
theorem dX9_init_177 : decode cX9_init 177 = .ok (.iconst 1, 1) := by decide +kernel
theorem dX9_init_178 : decode cX9_init 178 = .ok (.iastore, 1) := by decide +kernel
theorem dX9_init_179 : decode cX9_init 179 = .ok (.dup, 1) := by decide +kernel
theorem dX9_init_180 : decode cX9_init 180 = .ok (.bipush 24, 2) := by decide +kernel
theorem dX9_init_182 : decode cX9_init 182 = .ok (.bipush 9, 2) := by decide +kernel
theorem dX9_init_184 : decode cX9_init 184 = .ok (.iastore, 1) := by decide +kernel
theorem dX9_init_185 : decode cX9_init 185 = .ok (.putfield 25, 3) := by decide +kernel
theorem dX9_init_188 : decode cX9_init 188 = .ok (.aload_n 0, 1) := by decide +kernel
theorem dX9_init_189 : decode cX9_init 189 = .ok (.bipush 8, 2) := by decide +kernel
theorem dX9_init_191 : decode cX9_init 191 = .ok (.newarray .int, 2) := by decide +kernel
theorem dX9_init_193 : decode cX9_init 193 = .ok (.putfield 28, 3) := by decide +kernel
theorem dX9_init_196 : decode cX9_init 196 = .ok (.aload_n 0, 1) := by decide +kernel
theorem dX9_init_197 : decode cX9_init 197 = .ok (.sipush 256, 3) := by decide +kernel
theorem dX9_init_200 : decode cX9_init 200 = .ok (.newarray .int, 2) := by decide +kernel
theorem dX9_init_202 : decode cX9_init 202 = .ok (.putfield 31, 3) := by decide +kernel
theorem dX9_init_205 : decode cX9_init 205 = .ok (.aload_n 0, 1) := by decide +kernel
theorem dX9_init_206 : decode cX9_init 206 = .ok (.bipush 20, 2) := by decide +kernel
theorem dX9_init_208 : decode cX9_init 208 = .ok (.putfield 34, 3) := by decide +kernel
theorem dX9_init_211 : decode cX9_init 211 = .ok (.aload_n 0, 1) := by decide +kernel
theorem dX9_init_212 : decode cX9_init 212 = .ok (.iconst 5, 1) := by decide +kernel
theorem dX9_init_213 : decode cX9_init 213 = .ok (.putfield 38, 3) := by decide +kernel
theorem dX9_init_216 : decode cX9_init 216 = .ok (.iconst 0, 1) := by decide +kernel
theorem dX9_init_217 : decode cX9_init 217 = .ok (.istore_n 1, 1) := by decide +kernel
theorem dX9_init_218 : decode cX9_init 218 = .ok (.iload_n 1, 1) := by decide +kernel
theorem dX9_init_219 : decode cX9_init 219 = .ok (.bipush 25, 2) := by decide +kernel
theorem dX9_init_221 : decode cX9_init 221 = .ok (.if_icmp .ge 21, 3) := by decide +kernel
theorem dX9_init_224 : decode cX9_init 224 = .ok (.aload_n 0, 1) := by decide +kernel
theorem dX9_init_225 : decode cX9_init 225 = .ok (.getfield 13, 3) := by decide +kernel
theorem dX9_init_228 : decode cX9_init 228 = .ok (.iload_n 1, 1) := by decide +kernel
theorem dX9_init_229 : decode cX9_init 229 = .ok (.aload_n 0, 1) := by decide +kernel
theorem dX9_init_230 : decode cX9_init 230 = .ok (.getfield 25, 3) := by decide +kernel
theorem dX9_init_233 : decode cX9_init 233 = .ok (.iload_n 1, 1) := by decide +kernel
theorem dX9_init_234 : decode cX9_init 234 = .ok (.iaload, 1) := by decide +kernel
theorem dX9_init_235 : decode cX9_init 235 = .ok (.iastore, 1) := by decide +kernel
theorem dX9_init_236 : decode cX9_init 236 = .ok (.iinc 1 1, 3) := by decide +kernel
theorem dX9_init_239 : decode cX9_init 239 = .ok (.goto (-21), 3) := by decide +kernel
theorem dX9_init_242 : decode cX9_init 242 = .ok (.aload_n 0, 1) := by decide +kernel
theorem dX9_init_243 : decode cX9_init 243 = .ok (.getfield 13, 3) := by decide +kernel
theorem dX9_init_246 : decode cX9_init 246 = .ok (.bipush 40, 2) := by decide +kernel
theorem dX9_init_248 : decode cX9_init 248 = .ok (.iconst 2, 1) := by decide +kernel
theorem dX9_init_249 : decode cX9_init 249 = .ok (.iastore, 1) := by decide +kernel
theorem dX9_init_250 : decode cX9_init 250 = .ok (.aload_n 0, 1) := by decide +kernel
theorem dX9_init_251 : decode cX9_init 251 = .ok (.getfield 13, 3) := by decide +kernel
theorem dX9_init_254 : decode cX9_init 254 = .ok (.bipush 41, 2) := by decide +kernel
theorem dX9_init_256 : decode cX9_init 256 = .ok (.bipush 6, 2) := by decide +kernel
theorem dX9_init_258 : decode cX9_init 258 = .ok (.iastore, 1) := by decide +kernel
theorem dX9_init_259 : decode cX9_init 259 = .ok (.aload_n 0, 1) := by decide +kernel
theorem dX9_init_260 : decode cX9_init 260 = .ok (.getfield 13, 3) := by decide +kernel
theorem dX9_init_263 : decode cX9_init 263 = .ok (.bipush 42, 2) := by decide +kernel
theorem dX9_init_265 : decode cX9_init 265 = .ok (.iconst 2, 1) := by decide +kernel
theorem dX9_init_266 : decode cX9_init 266 = .ok (.iastore, 1) := by decide +kernel
theorem dX9_init_267 : decode cX9_init 267 = .ok (.return_, 1) := by decide +kernel
theorem dX9_isIn_0 : decode cX9_isIn 0 = .ok (.iload_n 0, 1) := by decide +kernel
theorem dX9_isIn_1 : decode cX9_isIn 1 = .ok (.iload_n 1, 1) := by decide +kernel
theorem dX9_isIn_2 : decode cX9_isIn 2 = .ok (.if_icmp .lt 12, 3) := by decide +kernel
theorem dX9_isIn_5 : decode cX9_isIn 5 = .ok (.iload_n 0, 1) := by decide +kernel
theorem dX9_isIn_6 : decode cX9_isIn 6 = .ok (.iload_n 2, 1) := by decide +kernel
theorem dX9_isIn_7 : decode cX9_isIn 7 = .ok (.if_icmp .gt 7, 3) := by decide +kernel
theorem dX9_isIn_10 : decode cX9_isIn 10 = .ok (.iconst 1, 1) := by decide +kernel
theorem dX9_isIn_11 : decode cX9_isIn 11 = .ok (.goto 4, 3) := by decide +kernel
theorem dX9_isIn_14 : decode cX9_isIn 14 = .ok (.iconst 0, 1) := by decide +kernel
theorem dX9_isIn_15 : decode cX9_isIn 15 = .ok (.ireturn, 1) := by decide +kernel
theorem dX9_distance_0 : decode cX9_distance 0 = .ok (.iload_n 0, 1) := by decide +kernel
theorem dX9_distance_1 : decode cX9_distance 1 = .ok (.iload_n 1, 1) := by decide +kernel
theorem dX9_distance_2 : decode cX9_distance 2 = .ok (.if_icmp .ge 9, 3) := by decide +kernel
theorem dX9_distance_5 : decode cX9_distance 5 = .ok (.iload_n 1, 1) := by decide +kernel
theorem dX9_distance_6 : decode cX9_distance 6 = .ok (.iload_n 0, 1) := by decide +kernel
theorem dX9_distance_7 : decode cX9_distance 7 = .ok (.isub, 1) := by decide +kernel
theorem dX9_distance_8 : decode cX9_distance 8 = .ok (.goto 6, 3) := by decide +kernel
theorem dX9_distance_11 : decode cX9_distance 11 = .ok (.iload_n 0, 1) := by decide +kernel
theorem dX9_distance_12 : decode cX9_distance 12 = .ok (.iload_n 1, 1) := by decide +kernel
theorem dX9_distance_13 : decode cX9_distance 13 = .ok (.isub, 1) := by decide +kernel
theorem dX9_distance_14 : decode cX9_distance 14 = .ok (.ireturn, 1) := by decide +kernel
theorem dX9_letterAt_0 : decode cX9_letterAt 0 = .ok (.iload_n 1, 1) := by decide +kernel
theorem dX9_letterAt_1 : decode cX9_letterAt 1 = .ok (.aload_n 0, 1) := by decide +kernel
theorem dX9_letterAt_2 : decode cX9_letterAt 2 = .ok (.getfield 41, 3) := by decide +kernel
theorem dX9_letterAt_5 : decode cX9_letterAt 5 = .ok (.if_icmp .ge 12, 3) := by decide +kernel
theorem dX9_letterAt_8 : decode cX9_letterAt 8 = .ok (.aload_n 0, 1) := by decide +kernel
theorem dX9_letterAt_9 : decode cX9_letterAt 9 = .ok (.getfield 7, 3) := by decide +kernel
theorem dX9_letterAt_12 : decode cX9_letterAt 12 = .ok (.iload_n 1, 1) := by decide +kernel
theorem dX9_letterAt_13 : decode cX9_letterAt 13 = .ok (.iaload, 1) := by decide +kernel
theorem dX9_letterAt_14 : decode cX9_letterAt 14 = .ok (.goto 4, 3) := by decide +kernel
theorem dX9_letterAt_17 : decode cX9_letterAt 17 = .ok (.iconst 0, 1) := by decide +kernel
theorem dX9_letterAt_18 : decode cX9_letterAt 18 = .ok (.ireturn, 1) := by decide +kernel
theorem dX9_number_0 : decode cX9_number 0 = .ok (.iload_n 1, 1) := by decide +kernel
theorem dX9_number_1 : decode cX9_number 1 = .ok (.istore 4, 2) := by decide +kernel
theorem dX9_number_3 : decode cX9_number 3 = .ok (.aload_n 0, 1) := by decide +kernel
theorem dX9_number_4 : decode cX9_number 4 = .ok (.iconst 0, 1) := by decide +kernel
theorem dX9_number_5 : decode cX9_number 5 = .ok (.putfield 44, 3) := by decide +kernel
theorem dX9_number_8 : decode cX9_number 8 = .ok (.aload_n 0, 1) := by decide +kernel
theorem dX9_number_9 : decode cX9_number 9 = .ok (.iload 4, 2) := by decide +kernel
theorem dX9_number_11 : decode cX9_number 11 = .ok (.invokevirtual 47, 3) := by decide +kernel
theorem dX9_number_14 : decode cX9_number 14 = .ok (.bipush 48, 2) := by decide +kernel
theorem dX9_number_16 : decode cX9_number 16 = .ok (.if_icmp .lt 49, 3) := by decide +kernel
theorem dX9_number_19 : decode cX9_number 19 = .ok (.aload_n 0, 1) := by decide +kernel
theorem dX9_number_20 : decode cX9_number 20 = .ok (.iload 4, 2) := by decide +kernel
theorem dX9_number_22 : decode cX9_number 22 = .ok (.invokevirtual 47, 3) := by decide +kernel
theorem dX9_number_25 : decode cX9_number 25 = .ok (.bipush 57, 2) := by decide +kernel
theorem dX9_number_27 : decode cX9_number 27 = .ok (.if_icmp .gt 38, 3) := by decide +kernel
theorem dX9_number_30 : decode cX9_number 30 = .ok (.iload 4, 2) := by decide +kernel
theorem dX9_number_32 : decode cX9_number 32 = .ok (.iload_n 1, 1) := by decide +kernel
theorem dX9_number_33 : decode cX9_number 33 = .ok (.iconst 2, 1) := by decide +kernel
theorem dX9_number_34 : decode cX9_number 34 = .ok (.iadd, 1) := by decide +kernel
theorem dX9_number_35 : decode cX9_number 35 = .ok (.if_icmp .ge 30, 3) := by decide +kernel
theorem dX9_number_38 : decode cX9_number 38 = .ok (.aload_n 0, 1) := by decide +kernel
theorem dX9_number_39 : decode cX9_number 39 = .ok (.bipush 10, 2) := by decide +kernel
theorem dX9_number_41 : decode cX9_number 41 = .ok (.aload_n 0, 1) := by decide +kernel
theorem dX9_number_42 : decode cX9_number 42 = .ok (.getfield 44, 3) := by decide +kernel
theorem dX9_number_45 : decode cX9_number 45 = .ok (.imul, 1) := by decide +kernel
theorem dX9_number_46 : decode cX9_number 46 = .ok (.aload_n 0, 1) := by decide +kernel
theorem dX9_number_47 : decode cX9_number 47 = .ok (.iload 4, 2) := by decide +kernel
theorem dX9_number_49 : decode cX9_number 49 = .ok (.invokevirtual 47, 3) := by decide +kernel
theorem dX9_number_52 : decode cX9_number 52 = .ok (.iadd, 1) := by decide +kernel
theorem dX9_number_53 : decode cX9_number 53 = .ok (.bipush 48, 2) := by decide +kernel
theorem dX9_number_55 : decode cX9_number 55 = .ok (.isub, 1) := by decide +kernel
theorem dX9_number_56 : decode cX9_number 56 = .ok (.putfield 44, 3) := by decide +kernel
theorem dX9_number_59 : decode cX9_number 59 = .ok (.iinc 4 1, 3) := by decide +kernel
theorem dX9_number_62 : decode cX9_number 62 = .ok (.goto (-54), 3) := by decide +kernel
theorem dX9_number_65 : decode cX9_number 65 = .ok (.aload_n 0, 1) := by decide +kernel
theorem dX9_number_66 : decode cX9_number 66 = .ok (.iload 4, 2) := by decide +kernel
theorem dX9_number_68 : decode cX9_number 68 = .ok (.putfield 51, 3) := by decide +kernel
theorem dX9_number_71 : decode cX9_number 71 = .ok (.iload 4, 2) := by decide +kernel
theorem dX9_number_73 : decode cX9_number 73 = .ok (.iload_n 1, 1) := by decide +kernel
theorem dX9_number_74 : decode cX9_number 74 = .ok (.if_icmp .le 19, 3) := by decide +kernel
theorem dX9_number_77 : decode cX9_number 77 = .ok (.aload_n 0, 1) := by decide +kernel
theorem dX9_number_78 : decode cX9_number 78 = .ok (.getfield 44, 3) := by decide +kernel
theorem dX9_number_81 : decode cX9_number 81 = .ok (.iload_n 2, 1) := by decide +kernel
theorem dX9_number_82 : decode cX9_number 82 = .ok (.iload_n 3, 1) := by decide +kernel
theorem dX9_number_83 : decode cX9_number 83 = .ok (.invokestatic 54, 3) := by decide +kernel
theorem dX9_number_86 : decode cX9_number 86 = .ok (.ifCond .eq 7, 3) := by decide +kernel
theorem dX9_number_89 : decode cX9_number 89 = .ok (.iconst 1, 1) := by decide +kernel
theorem dX9_number_90 : decode cX9_number 90 = .ok (.goto 4, 3) := by decide +kernel
theorem dX9_number_93 : decode cX9_number 93 = .ok (.iconst 0, 1) := by decide +kernel
theorem dX9_number_94 : decode cX9_number 94 = .ok (.ireturn, 1) := by decide +kernel
theorem dX9_lowest_0 : decode cX9_lowest 0 = .ok (.iload_n 0, 1) := by decide +kernel
theorem dX9_lowest_1 : decode cX9_lowest 1 = .ok (.iconst 4, 1) := by decide +kernel
theorem dX9_lowest_2 : decode cX9_lowest 2 = .ok (.if_icmp .ne 7, 3) := by decide +kernel
theorem dX9_lowest_5 : decode cX9_lowest 5 = .ok (.iconst 1, 1) := by decide +kernel
theorem dX9_lowest_6 : decode cX9_lowest 6 = .ok (.goto 4, 3) := by decide +kernel
theorem dX9_lowest_9 : decode cX9_lowest 9 = .ok (.iconst 0, 1) := by decide +kernel
theorem dX9_lowest_10 : decode cX9_lowest 10 = .ok (.ireturn, 1) := by decide +kernel
theorem dX9_highest_0 : decode cX9_highest 0 = .ok (.iload_n 0, 1) := by decide +kernel
theorem dX9_highest_1 : decode cX9_highest 1 = .ok (.ifCond .eq 8, 3) := by decide +kernel
theorem dX9_highest_4 : decode cX9_highest 4 = .ok (.iload_n 0, 1) := by decide +kernel
theorem dX9_highest_5 : decode cX9_highest 5 = .ok (.iconst 2, 1) := by decide +kernel
theorem dX9_highest_6 : decode cX9_highest 6 = .ok (.if_icmp .ne 8, 3) := by decide +kernel
theorem dX9_highest_9 : decode cX9_highest 9 = .ok (.bipush 60, 2) := by decide +kernel
theorem dX9_highest_11 : decode cX9_highest 11 = .ok (.goto 14, 3) := by decide +kernel
theorem dX9_highest_14 : decode cX9_highest 14 = .ok (.iload_n 0, 1) := by decide +kernel
theorem dX9_highest_15 : decode cX9_highest 15 = .ok (.iconst 4, 1) := by decide +kernel
theorem dX9_highest_16 : decode cX9_highest 16 = .ok (.if_icmp .ne 8, 3) := by decide +kernel
theorem dX9_highest_19 : decode cX9_highest 19 = .ok (.bipush 40, 2) := by decide +kernel
theorem dX9_highest_21 : decode cX9_highest 21 = .ok (.goto 4, 3) := by decide +kernel
theorem dX9_highest_24 : decode cX9_highest 24 = .ok (.iconst 2, 1) := by decide +kernel
theorem dX9_highest_25 : decode cX9_highest 25 = .ok (.ireturn, 1) := by decide +kernel
theorem dX9_most_0 : decode cX9_most 0 = .ok (.iload_n 0, 1) := by decide +kernel
theorem dX9_most_1 : decode cX9_most 1 = .ok (.iconst 1, 1) := by decide +kernel
theorem dX9_most_2 : decode cX9_most 2 = .ok (.if_icmp .ne 8, 3) := by decide +kernel
theorem dX9_most_5 : decode cX9_most 5 = .ok (.bipush 40, 2) := by decide +kernel
theorem dX9_most_7 : decode cX9_most 7 = .ok (.goto 5, 3) := by decide +kernel
theorem dX9_most_10 : decode cX9_most 10 = .ok (.bipush 9, 2) := by decide +kernel
theorem dX9_most_12 : decode cX9_most 12 = .ok (.ireturn, 1) := by decide +kernel
theorem dX9_readsWire_0 : decode cX9_readsWire 0 = .ok (.aload_n 0, 1) := by decide +kernel
theorem dX9_readsWire_1 : decode cX9_readsWire 1 = .ok (.getfield 58, 3) := by decide +kernel
theorem dX9_readsWire_4 : decode cX9_readsWire 4 = .ok (.bipush 8, 2) := by decide +kernel
theorem dX9_readsWire_6 : decode cX9_readsWire 6 = .ok (.if_icmp .ne 5, 3) := by decide +kernel
theorem dX9_readsWire_9 : decode cX9_readsWire 9 = .ok (.iconst 0, 1) := by decide +kernel
theorem dX9_readsWire_10 : decode cX9_readsWire 10 = .ok (.ireturn, 1) := by decide +kernel
theorem dX9_readsWire_11 : decode cX9_readsWire 11 = .ok (.aload_n 0, 1) := by decide +kernel
theorem dX9_readsWire_12 : decode cX9_readsWire 12 = .ok (.iload_n 1, 1) := by decide +kernel
theorem dX9_readsWire_13 : decode cX9_readsWire 13 = .ok (.iconst 1, 1) := by decide +kernel
theorem dX9_readsWire_14 : decode cX9_readsWire 14 = .ok (.isub, 1) := by decide +kernel
theorem dX9_readsWire_15 : decode cX9_readsWire 15 = .ok (.putfield 51, 3) := by decide +kernel
theorem dX9_readsWire_18 : decode cX9_readsWire 18 = .ok (.iconst 0, 1) := by decide +kernel
theorem dX9_readsWire_19 : decode cX9_readsWire 19 = .ok (.istore_n 2, 1) := by decide +kernel
theorem dX9_readsWire_20 : decode cX9_readsWire 20 = .ok (.iload_n 2, 1) := by decide +kernel
theorem dX9_readsWire_21 : decode cX9_readsWire 21 = .ok (.iconst 5, 1) := by decide +kernel
theorem dX9_readsWire_22 : decode cX9_readsWire 22 = .ok (.if_icmp .ge 66, 3) := by decide +kernel
theorem dX9_readsWire_25 : decode cX9_readsWire 25 = .ok (.iload_n 2, 1) := by decide +kernel
theorem dX9_readsWire_26 : decode cX9_readsWire 26 = .ok (.ifCond .le 16, 3) := by decide +kernel
theorem dX9_readsWire_29 : decode cX9_readsWire 29 = .ok (.aload_n 0, 1) := by decide +kernel
theorem dX9_readsWire_30 : decode cX9_readsWire 30 = .ok (.aload_n 0, 1) := by decide +kernel
theorem dX9_readsWire_31 : decode cX9_readsWire 31 = .ok (.getfield 51, 3) := by decide +kernel
theorem dX9_readsWire_34 : decode cX9_readsWire 34 = .ok (.invokevirtual 47, 3) := by decide +kernel
theorem dX9_readsWire_37 : decode cX9_readsWire 37 = .ok (.bipush 44, 2) := by decide +kernel
theorem dX9_readsWire_39 : decode cX9_readsWire 39 = .ok (.if_icmp .ne 24, 3) := by decide +kernel
theorem dX9_readsWire_42 : decode cX9_readsWire 42 = .ok (.aload_n 0, 1) := by decide +kernel
theorem dX9_readsWire_43 : decode cX9_readsWire 43 = .ok (.aload_n 0, 1) := by decide +kernel
theorem dX9_readsWire_44 : decode cX9_readsWire 44 = .ok (.getfield 51, 3) := by decide +kernel
theorem dX9_readsWire_47 : decode cX9_readsWire 47 = .ok (.iconst 1, 1) := by decide +kernel
theorem dX9_readsWire_48 : decode cX9_readsWire 48 = .ok (.iadd, 1) := by decide +kernel
theorem dX9_readsWire_49 : decode cX9_readsWire 49 = .ok (.iload_n 2, 1) := by decide +kernel
theorem dX9_readsWire_50 : decode cX9_readsWire 50 = .ok (.invokestatic 61, 3) := by decide +kernel
theorem dX9_readsWire_53 : decode cX9_readsWire 53 = .ok (.iload_n 2, 1) := by decide +kernel
theorem dX9_readsWire_54 : decode cX9_readsWire 54 = .ok (.invokestatic 64, 3) := by decide +kernel
theorem dX9_readsWire_57 : decode cX9_readsWire 57 = .ok (.invokevirtual 67, 3) := by decide +kernel
theorem dX9_readsWire_60 : decode cX9_readsWire 60 = .ok (.ifCond .ne 5, 3) := by decide +kernel
theorem dX9_readsWire_63 : decode cX9_readsWire 63 = .ok (.iconst 0, 1) := by decide +kernel
theorem dX9_readsWire_64 : decode cX9_readsWire 64 = .ok (.ireturn, 1) := by decide +kernel
theorem dX9_readsWire_65 : decode cX9_readsWire 65 = .ok (.aload_n 0, 1) := by decide +kernel
theorem dX9_readsWire_66 : decode cX9_readsWire 66 = .ok (.getfield 19, 3) := by decide +kernel
theorem dX9_readsWire_69 : decode cX9_readsWire 69 = .ok (.iconst 5, 1) := by decide +kernel
theorem dX9_readsWire_70 : decode cX9_readsWire 70 = .ok (.aload_n 0, 1) := by decide +kernel
theorem dX9_readsWire_71 : decode cX9_readsWire 71 = .ok (.getfield 58, 3) := by decide +kernel
theorem dX9_readsWire_74 : decode cX9_readsWire 74 = .ok (.imul, 1) := by decide +kernel
theorem dX9_readsWire_75 : decode cX9_readsWire 75 = .ok (.iload_n 2, 1) := by decide +kernel
theorem dX9_readsWire_76 : decode cX9_readsWire 76 = .ok (.iadd, 1) := by decide +kernel
theorem dX9_readsWire_77 : decode cX9_readsWire 77 = .ok (.aload_n 0, 1) := by decide +kernel
theorem dX9_readsWire_78 : decode cX9_readsWire 78 = .ok (.getfield 44, 3) := by decide +kernel
theorem dX9_readsWire_81 : decode cX9_readsWire 81 = .ok (.iastore, 1) := by decide +kernel
theorem dX9_readsWire_82 : decode cX9_readsWire 82 = .ok (.iinc 2 1, 3) := by decide +kernel
theorem dX9_readsWire_85 : decode cX9_readsWire 85 = .ok (.goto (-65), 3) := by decide +kernel
theorem dX9_readsWire_88 : decode cX9_readsWire 88 = .ok (.aload_n 0, 1) := by decide +kernel
theorem dX9_readsWire_89 : decode cX9_readsWire 89 = .ok (.dup, 1) := by decide +kernel
theorem dX9_readsWire_90 : decode cX9_readsWire 90 = .ok (.getfield 58, 3) := by decide +kernel
theorem dX9_readsWire_93 : decode cX9_readsWire 93 = .ok (.iconst 1, 1) := by decide +kernel
theorem dX9_readsWire_94 : decode cX9_readsWire 94 = .ok (.iadd, 1) := by decide +kernel
theorem dX9_readsWire_95 : decode cX9_readsWire 95 = .ok (.putfield 58, 3) := by decide +kernel
theorem dX9_readsWire_98 : decode cX9_readsWire 98 = .ok (.iconst 1, 1) := by decide +kernel
theorem dX9_readsWire_99 : decode cX9_readsWire 99 = .ok (.ireturn, 1) := by decide +kernel
theorem dX9_readsItem_0 : decode cX9_readsItem 0 = .ok (.iload_n 2, 1) := by decide +kernel
theorem dX9_readsItem_1 : decode cX9_readsItem 1 = .ok (.iconst 1, 1) := by decide +kernel
theorem dX9_readsItem_2 : decode cX9_readsItem 2 = .ok (.if_icmp .ne 7, 3) := by decide +kernel
theorem dX9_readsItem_5 : decode cX9_readsItem 5 = .ok (.iconst 1, 1) := by decide +kernel
theorem dX9_readsItem_6 : decode cX9_readsItem 6 = .ok (.goto 4, 3) := by decide +kernel
theorem dX9_readsItem_9 : decode cX9_readsItem 9 = .ok (.iconst 0, 1) := by decide +kernel
theorem dX9_readsItem_10 : decode cX9_readsItem 10 = .ok (.iload_n 1, 1) := by decide +kernel
theorem dX9_readsItem_11 : decode cX9_readsItem 11 = .ok (.bipush 115, 2) := by decide +kernel
theorem dX9_readsItem_13 : decode cX9_readsItem 13 = .ok (.if_icmp .ne 7, 3) := by decide +kernel
theorem dX9_readsItem_16 : decode cX9_readsItem 16 = .ok (.iconst 1, 1) := by decide +kernel
theorem dX9_readsItem_17 : decode cX9_readsItem 17 = .ok (.goto 4, 3) := by decide +kernel
theorem dX9_readsItem_20 : decode cX9_readsItem 20 = .ok (.iconst 0, 1) := by decide +kernel
theorem dX9_readsItem_21 : decode cX9_readsItem 21 = .ok (.if_icmp .eq 5, 3) := by decide +kernel
theorem dX9_readsItem_24 : decode cX9_readsItem 24 = .ok (.iconst 0, 1) := by decide +kernel
theorem dX9_readsItem_25 : decode cX9_readsItem 25 = .ok (.ireturn, 1) := by decide +kernel
theorem dX9_readsItem_26 : decode cX9_readsItem 26 = .ok (.iload_n 1, 1) := by decide +kernel
theorem dX9_readsItem_27 : decode cX9_readsItem 27 = .ok (.bipush 115, 2) := by decide +kernel
theorem dX9_readsItem_29 : decode cX9_readsItem 29 = .ok (.if_icmp .ne 23, 3) := by decide +kernel
theorem dX9_readsItem_32 : decode cX9_readsItem 32 = .ok (.aload_n 0, 1) := by decide +kernel
theorem dX9_readsItem_33 : decode cX9_readsItem 33 = .ok (.iload_n 2, 1) := by decide +kernel
theorem dX9_readsItem_34 : decode cX9_readsItem 34 = .ok (.bipush 8, 2) := by decide +kernel
theorem dX9_readsItem_36 : decode cX9_readsItem 36 = .ok (.bipush 40, 2) := by decide +kernel
theorem dX9_readsItem_38 : decode cX9_readsItem 38 = .ok (.invokevirtual 67, 3) := by decide +kernel
theorem dX9_readsItem_41 : decode cX9_readsItem 41 = .ok (.istore_n 3, 1) := by decide +kernel
theorem dX9_readsItem_42 : decode cX9_readsItem 42 = .ok (.aload_n 0, 1) := by decide +kernel
theorem dX9_readsItem_43 : decode cX9_readsItem 43 = .ok (.aload_n 0, 1) := by decide +kernel
theorem dX9_readsItem_44 : decode cX9_readsItem 44 = .ok (.getfield 44, 3) := by decide +kernel
theorem dX9_readsItem_47 : decode cX9_readsItem 47 = .ok (.putfield 70, 3) := by decide +kernel
theorem dX9_readsItem_50 : decode cX9_readsItem 50 = .ok (.iload_n 3, 1) := by decide +kernel
theorem dX9_readsItem_51 : decode cX9_readsItem 51 = .ok (.ireturn, 1) := by decide +kernel
theorem dX9_readsItem_52 : decode cX9_readsItem 52 = .ok (.iload_n 1, 1) := by decide +kernel
theorem dX9_readsItem_53 : decode cX9_readsItem 53 = .ok (.bipush 119, 2) := by decide +kernel
theorem dX9_readsItem_55 : decode cX9_readsItem 55 = .ok (.if_icmp .ne 9, 3) := by decide +kernel
theorem dX9_readsItem_58 : decode cX9_readsItem 58 = .ok (.aload_n 0, 1) := by decide +kernel
theorem dX9_readsItem_59 : decode cX9_readsItem 59 = .ok (.iload_n 2, 1) := by decide +kernel
theorem dX9_readsItem_60 : decode cX9_readsItem 60 = .ok (.invokevirtual 73, 3) := by decide +kernel
theorem dX9_readsItem_63 : decode cX9_readsItem 63 = .ok (.ireturn, 1) := by decide +kernel
theorem dX9_readsItem_64 : decode cX9_readsItem 64 = .ok (.iload_n 1, 1) := by decide +kernel
theorem dX9_readsItem_65 : decode cX9_readsItem 65 = .ok (.bipush 103, 2) := by decide +kernel
theorem dX9_readsItem_67 : decode cX9_readsItem 67 = .ok (.if_icmp .ne 7, 3) := by decide +kernel
theorem dX9_readsItem_70 : decode cX9_readsItem 70 = .ok (.iconst 0, 1) := by decide +kernel
theorem dX9_readsItem_71 : decode cX9_readsItem 71 = .ok (.goto 24, 3) := by decide +kernel
theorem dX9_readsItem_74 : decode cX9_readsItem 74 = .ok (.iload_n 1, 1) := by decide +kernel
theorem dX9_readsItem_75 : decode cX9_readsItem 75 = .ok (.bipush 104, 2) := by decide +kernel
theorem dX9_readsItem_77 : decode cX9_readsItem 77 = .ok (.if_icmp .ne 7, 3) := by decide +kernel
theorem dX9_readsItem_80 : decode cX9_readsItem 80 = .ok (.iconst 1, 1) := by decide +kernel
theorem dX9_readsItem_81 : decode cX9_readsItem 81 = .ok (.goto 14, 3) := by decide +kernel
theorem dX9_readsItem_84 : decode cX9_readsItem 84 = .ok (.iload_n 1, 1) := by decide +kernel
theorem dX9_readsItem_85 : decode cX9_readsItem 85 = .ok (.bipush 116, 2) := by decide +kernel
theorem dX9_readsItem_87 : decode cX9_readsItem 87 = .ok (.if_icmp .ne 7, 3) := by decide +kernel
theorem dX9_readsItem_90 : decode cX9_readsItem 90 = .ok (.iconst 2, 1) := by decide +kernel
theorem dX9_readsItem_91 : decode cX9_readsItem 91 = .ok (.goto 4, 3) := by decide +kernel
theorem dX9_readsItem_94 : decode cX9_readsItem 94 = .ok (.iconst (-1), 1) := by decide +kernel
theorem dX9_readsItem_95 : decode cX9_readsItem 95 = .ok (.istore_n 3, 1) := by decide +kernel
theorem dX9_readsItem_96 : decode cX9_readsItem 96 = .ok (.iload_n 3, 1) := by decide +kernel
theorem dX9_readsItem_97 : decode cX9_readsItem 97 = .ok (.ifCond .lt 16, 3) := by decide +kernel
theorem dX9_readsItem_100 : decode cX9_readsItem 100 = .ok (.aload_n 0, 1) := by decide +kernel
theorem dX9_readsItem_101 : decode cX9_readsItem 101 = .ok (.iload_n 2, 1) := by decide +kernel
theorem dX9_readsItem_102 : decode cX9_readsItem 102 = .ok (.iconst 1, 1) := by decide +kernel
theorem dX9_readsItem_103 : decode cX9_readsItem 103 = .ok (.iload_n 3, 1) := by decide +kernel
theorem dX9_readsItem_104 : decode cX9_readsItem 104 = .ok (.invokestatic 77, 3) := by decide +kernel
theorem dX9_readsItem_107 : decode cX9_readsItem 107 = .ok (.invokevirtual 67, 3) := by decide +kernel
theorem dX9_readsItem_110 : decode cX9_readsItem 110 = .ok (.ifCond .ne 5, 3) := by decide +kernel
theorem dX9_readsItem_113 : decode cX9_readsItem 113 = .ok (.iconst 0, 1) := by decide +kernel
theorem dX9_readsItem_114 : decode cX9_readsItem 114 = .ok (.ireturn, 1) := by decide +kernel
theorem dX9_readsItem_115 : decode cX9_readsItem 115 = .ok (.aload_n 0, 1) := by decide +kernel
theorem dX9_readsItem_116 : decode cX9_readsItem 116 = .ok (.getfield 19, 3) := by decide +kernel
theorem dX9_readsItem_119 : decode cX9_readsItem 119 = .ok (.bipush 40, 2) := by decide +kernel
theorem dX9_readsItem_121 : decode cX9_readsItem 121 = .ok (.iload_n 3, 1) := by decide +kernel
theorem dX9_readsItem_122 : decode cX9_readsItem 122 = .ok (.iadd, 1) := by decide +kernel
theorem dX9_readsItem_123 : decode cX9_readsItem 123 = .ok (.aload_n 0, 1) := by decide +kernel
theorem dX9_readsItem_124 : decode cX9_readsItem 124 = .ok (.getfield 44, 3) := by decide +kernel
theorem dX9_readsItem_127 : decode cX9_readsItem 127 = .ok (.iastore, 1) := by decide +kernel
theorem dX9_readsItem_128 : decode cX9_readsItem 128 = .ok (.iconst 1, 1) := by decide +kernel
theorem dX9_readsItem_129 : decode cX9_readsItem 129 = .ok (.ireturn, 1) := by decide +kernel
theorem dX9_reads_0 : decode cX9_reads 0 = .ok (.aload_n 0, 1) := by decide +kernel
theorem dX9_reads_1 : decode cX9_reads 1 = .ok (.iconst 0, 1) := by decide +kernel
theorem dX9_reads_2 : decode cX9_reads 2 = .ok (.putfield 70, 3) := by decide +kernel
theorem dX9_reads_5 : decode cX9_reads 5 = .ok (.aload_n 0, 1) := by decide +kernel
theorem dX9_reads_6 : decode cX9_reads 6 = .ok (.iconst 0, 1) := by decide +kernel
theorem dX9_reads_7 : decode cX9_reads 7 = .ok (.putfield 58, 3) := by decide +kernel
theorem dX9_reads_10 : decode cX9_reads 10 = .ok (.iconst 0, 1) := by decide +kernel
theorem dX9_reads_11 : decode cX9_reads 11 = .ok (.istore_n 1, 1) := by decide +kernel
theorem dX9_reads_12 : decode cX9_reads 12 = .ok (.iload_n 1, 1) := by decide +kernel
theorem dX9_reads_13 : decode cX9_reads 13 = .ok (.bipush 45, 2) := by decide +kernel
theorem dX9_reads_15 : decode cX9_reads 15 = .ok (.if_icmp .ge 16, 3) := by decide +kernel
theorem dX9_reads_18 : decode cX9_reads 18 = .ok (.aload_n 0, 1) := by decide +kernel
theorem dX9_reads_19 : decode cX9_reads 19 = .ok (.getfield 19, 3) := by decide +kernel
theorem dX9_reads_22 : decode cX9_reads 22 = .ok (.iload_n 1, 1) := by decide +kernel
theorem dX9_reads_23 : decode cX9_reads 23 = .ok (.iconst 0, 1) := by decide +kernel
theorem dX9_reads_24 : decode cX9_reads 24 = .ok (.iastore, 1) := by decide +kernel
theorem dX9_reads_25 : decode cX9_reads 25 = .ok (.iinc 1 1, 3) := by decide +kernel
theorem dX9_reads_28 : decode cX9_reads 28 = .ok (.goto (-16), 3) := by decide +kernel
theorem dX9_reads_31 : decode cX9_reads 31 = .ok (.aload_n 0, 1) := by decide +kernel
theorem dX9_reads_32 : decode cX9_reads 32 = .ok (.getfield 19, 3) := by decide +kernel
theorem dX9_reads_35 : decode cX9_reads 35 = .ok (.bipush 40, 2) := by decide +kernel
theorem dX9_reads_37 : decode cX9_reads 37 = .ok (.iconst 2, 1) := by decide +kernel
theorem dX9_reads_38 : decode cX9_reads 38 = .ok (.iastore, 1) := by decide +kernel
theorem dX9_reads_39 : decode cX9_reads 39 = .ok (.aload_n 0, 1) := by decide +kernel
theorem dX9_reads_40 : decode cX9_reads 40 = .ok (.getfield 19, 3) := by decide +kernel
theorem dX9_reads_43 : decode cX9_reads 43 = .ok (.bipush 41, 2) := by decide +kernel
theorem dX9_reads_45 : decode cX9_reads 45 = .ok (.bipush 6, 2) := by decide +kernel
theorem dX9_reads_47 : decode cX9_reads 47 = .ok (.iastore, 1) := by decide +kernel
theorem dX9_reads_48 : decode cX9_reads 48 = .ok (.aload_n 0, 1) := by decide +kernel
theorem dX9_reads_49 : decode cX9_reads 49 = .ok (.getfield 19, 3) := by decide +kernel
theorem dX9_reads_52 : decode cX9_reads 52 = .ok (.bipush 42, 2) := by decide +kernel
theorem dX9_reads_54 : decode cX9_reads 54 = .ok (.iconst 2, 1) := by decide +kernel
theorem dX9_reads_55 : decode cX9_reads 55 = .ok (.iastore, 1) := by decide +kernel
theorem dX9_reads_56 : decode cX9_reads 56 = .ok (.iconst 0, 1) := by decide +kernel
theorem dX9_reads_57 : decode cX9_reads 57 = .ok (.istore_n 1, 1) := by decide +kernel
theorem dX9_reads_58 : decode cX9_reads 58 = .ok (.iload_n 1, 1) := by decide +kernel
theorem dX9_reads_59 : decode cX9_reads 59 = .ok (.aload_n 0, 1) := by decide +kernel
theorem dX9_reads_60 : decode cX9_reads 60 = .ok (.getfield 41, 3) := by decide +kernel
theorem dX9_reads_63 : decode cX9_reads 63 = .ok (.if_icmp .ge 44, 3) := by decide +kernel
theorem dX9_reads_66 : decode cX9_reads 66 = .ok (.aload_n 0, 1) := by decide +kernel
theorem dX9_reads_67 : decode cX9_reads 67 = .ok (.aload_n 0, 1) := by decide +kernel
theorem dX9_reads_68 : decode cX9_reads 68 = .ok (.getfield 7, 3) := by decide +kernel
theorem dX9_reads_71 : decode cX9_reads 71 = .ok (.iload_n 1, 1) := by decide +kernel
theorem dX9_reads_72 : decode cX9_reads 72 = .ok (.iaload, 1) := by decide +kernel
theorem dX9_reads_73 : decode cX9_reads 73 = .ok (.iload_n 1, 1) := by decide +kernel
theorem dX9_reads_74 : decode cX9_reads 74 = .ok (.iconst 1, 1) := by decide +kernel
theorem dX9_reads_75 : decode cX9_reads 75 = .ok (.iadd, 1) := by decide +kernel
theorem dX9_reads_76 : decode cX9_reads 76 = .ok (.invokevirtual 80, 3) := by decide +kernel
theorem dX9_reads_79 : decode cX9_reads 79 = .ok (.ifCond .eq 16, 3) := by decide +kernel
theorem dX9_reads_82 : decode cX9_reads 82 = .ok (.aload_n 0, 1) := by decide +kernel
theorem dX9_reads_83 : decode cX9_reads 83 = .ok (.aload_n 0, 1) := by decide +kernel
theorem dX9_reads_84 : decode cX9_reads 84 = .ok (.getfield 51, 3) := by decide +kernel
theorem dX9_reads_87 : decode cX9_reads 87 = .ok (.invokevirtual 47, 3) := by decide +kernel
theorem dX9_reads_90 : decode cX9_reads 90 = .ok (.bipush 59, 2) := by decide +kernel
theorem dX9_reads_92 : decode cX9_reads 92 = .ok (.if_icmp .eq 5, 3) := by decide +kernel
theorem dX9_reads_95 : decode cX9_reads 95 = .ok (.iload_n 1, 1) := by decide +kernel
theorem dX9_reads_96 : decode cX9_reads 96 = .ok (.ireturn, 1) := by decide +kernel
theorem dX9_reads_97 : decode cX9_reads 97 = .ok (.aload_n 0, 1) := by decide +kernel
theorem dX9_reads_98 : decode cX9_reads 98 = .ok (.getfield 51, 3) := by decide +kernel
theorem dX9_reads_101 : decode cX9_reads 101 = .ok (.iconst 1, 1) := by decide +kernel
theorem dX9_reads_102 : decode cX9_reads 102 = .ok (.iadd, 1) := by decide +kernel
theorem dX9_reads_103 : decode cX9_reads 103 = .ok (.istore_n 1, 1) := by decide +kernel
theorem dX9_reads_104 : decode cX9_reads 104 = .ok (.goto (-46), 3) := by decide +kernel
theorem dX9_reads_107 : decode cX9_reads 107 = .ok (.bipush (-4), 2) := by decide +kernel
theorem dX9_reads_109 : decode cX9_reads 109 = .ok (.ireturn, 1) := by decide +kernel
theorem dX9_write_0 : decode cX9_write 0 = .ok (.iload_n 1, 1) := by decide +kernel
theorem dX9_write_1 : decode cX9_write 1 = .ok (.bipush 32, 2) := by decide +kernel
theorem dX9_write_3 : decode cX9_write 3 = .ok (.if_icmp .lt 9, 3) := by decide +kernel
theorem dX9_write_6 : decode cX9_write 6 = .ok (.iload_n 1, 1) := by decide +kernel
theorem dX9_write_7 : decode cX9_write 7 = .ok (.bipush 126, 2) := by decide +kernel
theorem dX9_write_9 : decode cX9_write 9 = .ok (.if_icmp .le 5, 3) := by decide +kernel
theorem dX9_write_12 : decode cX9_write 12 = .ok (.iconst (-1), 1) := by decide +kernel
theorem dX9_write_13 : decode cX9_write 13 = .ok (.ireturn, 1) := by decide +kernel
theorem dX9_write_14 : decode cX9_write 14 = .ok (.aload_n 0, 1) := by decide +kernel
theorem dX9_write_15 : decode cX9_write 15 = .ok (.getfield 41, 3) := by decide +kernel
theorem dX9_write_18 : decode cX9_write 18 = .ok (.sipush 200, 3) := by decide +kernel
theorem dX9_write_21 : decode cX9_write 21 = .ok (.if_icmp .ne 6, 3) := by decide +kernel
theorem dX9_write_24 : decode cX9_write 24 = .ok (.bipush (-3), 2) := by decide +kernel
theorem dX9_write_26 : decode cX9_write 26 = .ok (.ireturn, 1) := by decide +kernel
theorem dX9_write_27 : decode cX9_write 27 = .ok (.aload_n 0, 1) := by decide +kernel
theorem dX9_write_28 : decode cX9_write 28 = .ok (.getfield 7, 3) := by decide +kernel
theorem dX9_write_31 : decode cX9_write 31 = .ok (.aload_n 0, 1) := by decide +kernel
theorem dX9_write_32 : decode cX9_write 32 = .ok (.getfield 41, 3) := by decide +kernel
theorem dX9_write_35 : decode cX9_write 35 = .ok (.iload_n 1, 1) := by decide +kernel
theorem dX9_write_36 : decode cX9_write 36 = .ok (.iastore, 1) := by decide +kernel
theorem dX9_write_37 : decode cX9_write 37 = .ok (.aload_n 0, 1) := by decide +kernel
theorem dX9_write_38 : decode cX9_write 38 = .ok (.dup, 1) := by decide +kernel
theorem dX9_write_39 : decode cX9_write 39 = .ok (.getfield 41, 3) := by decide +kernel
theorem dX9_write_42 : decode cX9_write 42 = .ok (.iconst 1, 1) := by decide +kernel
theorem dX9_write_43 : decode cX9_write 43 = .ok (.iadd, 1) := by decide +kernel
theorem dX9_write_44 : decode cX9_write 44 = .ok (.putfield 41, 3) := by decide +kernel
theorem dX9_write_47 : decode cX9_write 47 = .ok (.aload_n 0, 1) := by decide +kernel
theorem dX9_write_48 : decode cX9_write 48 = .ok (.getfield 41, 3) := by decide +kernel
theorem dX9_write_51 : decode cX9_write 51 = .ok (.ireturn, 1) := by decide +kernel
theorem dX9_wipe_0 : decode cX9_wipe 0 = .ok (.aload_n 0, 1) := by decide +kernel
theorem dX9_wipe_1 : decode cX9_wipe 1 = .ok (.getfield 41, 3) := by decide +kernel
theorem dX9_wipe_4 : decode cX9_wipe 4 = .ok (.istore_n 1, 1) := by decide +kernel
theorem dX9_wipe_5 : decode cX9_wipe 5 = .ok (.aload_n 0, 1) := by decide +kernel
theorem dX9_wipe_6 : decode cX9_wipe 6 = .ok (.iconst 0, 1) := by decide +kernel
theorem dX9_wipe_7 : decode cX9_wipe 7 = .ok (.putfield 41, 3) := by decide +kernel
theorem dX9_wipe_10 : decode cX9_wipe 10 = .ok (.iload_n 1, 1) := by decide +kernel
theorem dX9_wipe_11 : decode cX9_wipe 11 = .ok (.ireturn, 1) := by decide +kernel
theorem dX9_fault_0 : decode cX9_fault 0 = .ok (.aload_n 0, 1) := by decide +kernel
theorem dX9_fault_1 : decode cX9_fault 1 = .ok (.invokevirtual 84, 3) := by decide +kernel
theorem dX9_fault_4 : decode cX9_fault 4 = .ok (.ireturn, 1) := by decide +kernel
theorem dX9_lay_0 : decode cX9_lay 0 = .ok (.aload_n 0, 1) := by decide +kernel
theorem dX9_lay_1 : decode cX9_lay 1 = .ok (.invokevirtual 84, 3) := by decide +kernel
theorem dX9_lay_4 : decode cX9_lay 4 = .ok (.bipush (-4), 2) := by decide +kernel
theorem dX9_lay_6 : decode cX9_lay 6 = .ok (.if_icmp .ne 10, 3) := by decide +kernel
theorem dX9_lay_9 : decode cX9_lay 9 = .ok (.aload_n 0, 1) := by decide +kernel
theorem dX9_lay_10 : decode cX9_lay 10 = .ok (.getfield 70, 3) := by decide +kernel
theorem dX9_lay_13 : decode cX9_lay 13 = .ok (.ifCond .ne 6, 3) := by decide +kernel
theorem dX9_lay_16 : decode cX9_lay 16 = .ok (.bipush (-2), 2) := by decide +kernel
theorem dX9_lay_18 : decode cX9_lay 18 = .ok (.ireturn, 1) := by decide +kernel
theorem dX9_lay_19 : decode cX9_lay 19 = .ok (.aload_n 0, 1) := by decide +kernel
theorem dX9_lay_20 : decode cX9_lay 20 = .ok (.aload_n 0, 1) := by decide +kernel
theorem dX9_lay_21 : decode cX9_lay 21 = .ok (.getfield 70, 3) := by decide +kernel
theorem dX9_lay_24 : decode cX9_lay 24 = .ok (.putfield 34, 3) := by decide +kernel
theorem dX9_lay_27 : decode cX9_lay 27 = .ok (.aload_n 0, 1) := by decide +kernel
theorem dX9_lay_28 : decode cX9_lay 28 = .ok (.aload_n 0, 1) := by decide +kernel
theorem dX9_lay_29 : decode cX9_lay 29 = .ok (.getfield 58, 3) := by decide +kernel
theorem dX9_lay_32 : decode cX9_lay 32 = .ok (.putfield 38, 3) := by decide +kernel
theorem dX9_lay_35 : decode cX9_lay 35 = .ok (.iconst 0, 1) := by decide +kernel
theorem dX9_lay_36 : decode cX9_lay 36 = .ok (.istore_n 1, 1) := by decide +kernel
theorem dX9_lay_37 : decode cX9_lay 37 = .ok (.iload_n 1, 1) := by decide +kernel
theorem dX9_lay_38 : decode cX9_lay 38 = .ok (.bipush 45, 2) := by decide +kernel
theorem dX9_lay_40 : decode cX9_lay 40 = .ok (.if_icmp .ge 21, 3) := by decide +kernel
theorem dX9_lay_43 : decode cX9_lay 43 = .ok (.aload_n 0, 1) := by decide +kernel
theorem dX9_lay_44 : decode cX9_lay 44 = .ok (.getfield 13, 3) := by decide +kernel
theorem dX9_lay_47 : decode cX9_lay 47 = .ok (.iload_n 1, 1) := by decide +kernel
theorem dX9_lay_48 : decode cX9_lay 48 = .ok (.aload_n 0, 1) := by decide +kernel
theorem dX9_lay_49 : decode cX9_lay 49 = .ok (.getfield 19, 3) := by decide +kernel
theorem dX9_lay_52 : decode cX9_lay 52 = .ok (.iload_n 1, 1) := by decide +kernel
theorem dX9_lay_53 : decode cX9_lay 53 = .ok (.iaload, 1) := by decide +kernel
theorem dX9_lay_54 : decode cX9_lay 54 = .ok (.iastore, 1) := by decide +kernel
theorem dX9_lay_55 : decode cX9_lay 55 = .ok (.iinc 1 1, 3) := by decide +kernel
theorem dX9_lay_58 : decode cX9_lay 58 = .ok (.goto (-21), 3) := by decide +kernel
theorem dX9_lay_61 : decode cX9_lay 61 = .ok (.aload_n 0, 1) := by decide +kernel
theorem dX9_lay_62 : decode cX9_lay 62 = .ok (.iconst 0, 1) := by decide +kernel
theorem dX9_lay_63 : decode cX9_lay 63 = .ok (.putfield 88, 3) := by decide +kernel
theorem dX9_lay_66 : decode cX9_lay 66 = .ok (.aload_n 0, 1) := by decide +kernel
theorem dX9_lay_67 : decode cX9_lay 67 = .ok (.getfield 22, 3) := by decide +kernel
theorem dX9_lay_70 : decode cX9_lay 70 = .ok (.iconst 0, 1) := by decide +kernel
theorem dX9_lay_71 : decode cX9_lay 71 = .ok (.iconst 0, 1) := by decide +kernel
theorem dX9_lay_72 : decode cX9_lay 72 = .ok (.iastore, 1) := by decide +kernel
theorem dX9_lay_73 : decode cX9_lay 73 = .ok (.aload_n 0, 1) := by decide +kernel
theorem dX9_lay_74 : decode cX9_lay 74 = .ok (.getfield 22, 3) := by decide +kernel
theorem dX9_lay_77 : decode cX9_lay 77 = .ok (.iconst 5, 1) := by decide +kernel
theorem dX9_lay_78 : decode cX9_lay 78 = .ok (.iconst 0, 1) := by decide +kernel
theorem dX9_lay_79 : decode cX9_lay 79 = .ok (.iastore, 1) := by decide +kernel
theorem dX9_lay_80 : decode cX9_lay 80 = .ok (.aload_n 0, 1) := by decide +kernel
theorem dX9_lay_81 : decode cX9_lay 81 = .ok (.getfield 38, 3) := by decide +kernel
theorem dX9_lay_84 : decode cX9_lay 84 = .ok (.ireturn, 1) := by decide +kernel
theorem dX9_notes_0 : decode cX9_notes 0 = .ok (.aload_n 0, 1) := by decide +kernel
theorem dX9_notes_1 : decode cX9_notes 1 = .ok (.getfield 88, 3) := by decide +kernel
theorem dX9_notes_4 : decode cX9_notes 4 = .ok (.bipush 6, 2) := by decide +kernel
theorem dX9_notes_6 : decode cX9_notes 6 = .ok (.if_icmp .ne 43, 3) := by decide +kernel
theorem dX9_notes_9 : decode cX9_notes 9 = .ok (.iconst 0, 1) := by decide +kernel
theorem dX9_notes_10 : decode cX9_notes 10 = .ok (.istore_n 1, 1) := by decide +kernel
theorem dX9_notes_11 : decode cX9_notes 11 = .ok (.iload_n 1, 1) := by decide +kernel
theorem dX9_notes_12 : decode cX9_notes 12 = .ok (.sipush 225, 3) := by decide +kernel
theorem dX9_notes_15 : decode cX9_notes 15 = .ok (.if_icmp .ge 24, 3) := by decide +kernel
theorem dX9_notes_18 : decode cX9_notes 18 = .ok (.aload_n 0, 1) := by decide +kernel
theorem dX9_notes_19 : decode cX9_notes 19 = .ok (.getfield 16, 3) := by decide +kernel
theorem dX9_notes_22 : decode cX9_notes 22 = .ok (.iload_n 1, 1) := by decide +kernel
theorem dX9_notes_23 : decode cX9_notes 23 = .ok (.aload_n 0, 1) := by decide +kernel
theorem dX9_notes_24 : decode cX9_notes 24 = .ok (.getfield 16, 3) := by decide +kernel
theorem dX9_notes_27 : decode cX9_notes 27 = .ok (.iload_n 1, 1) := by decide +kernel
theorem dX9_notes_28 : decode cX9_notes 28 = .ok (.bipush 45, 2) := by decide +kernel
theorem dX9_notes_30 : decode cX9_notes 30 = .ok (.iadd, 1) := by decide +kernel
theorem dX9_notes_31 : decode cX9_notes 31 = .ok (.iaload, 1) := by decide +kernel
theorem dX9_notes_32 : decode cX9_notes 32 = .ok (.iastore, 1) := by decide +kernel
theorem dX9_notes_33 : decode cX9_notes 33 = .ok (.iinc 1 1, 3) := by decide +kernel
theorem dX9_notes_36 : decode cX9_notes 36 = .ok (.goto (-25), 3) := by decide +kernel
theorem dX9_notes_39 : decode cX9_notes 39 = .ok (.aload_n 0, 1) := by decide +kernel
theorem dX9_notes_40 : decode cX9_notes 40 = .ok (.dup, 1) := by decide +kernel
theorem dX9_notes_41 : decode cX9_notes 41 = .ok (.getfield 88, 3) := by decide +kernel
theorem dX9_notes_44 : decode cX9_notes 44 = .ok (.iconst 1, 1) := by decide +kernel
theorem dX9_notes_45 : decode cX9_notes 45 = .ok (.isub, 1) := by decide +kernel
theorem dX9_notes_46 : decode cX9_notes 46 = .ok (.putfield 88, 3) := by decide +kernel
theorem dX9_notes_49 : decode cX9_notes 49 = .ok (.iconst 0, 1) := by decide +kernel
theorem dX9_notes_50 : decode cX9_notes 50 = .ok (.istore_n 1, 1) := by decide +kernel
theorem dX9_notes_51 : decode cX9_notes 51 = .ok (.iload_n 1, 1) := by decide +kernel
theorem dX9_notes_52 : decode cX9_notes 52 = .ok (.bipush 45, 2) := by decide +kernel
theorem dX9_notes_54 : decode cX9_notes 54 = .ok (.if_icmp .ge 29, 3) := by decide +kernel
theorem dX9_notes_57 : decode cX9_notes 57 = .ok (.aload_n 0, 1) := by decide +kernel
theorem dX9_notes_58 : decode cX9_notes 58 = .ok (.getfield 16, 3) := by decide +kernel
theorem dX9_notes_61 : decode cX9_notes 61 = .ok (.bipush 45, 2) := by decide +kernel
theorem dX9_notes_63 : decode cX9_notes 63 = .ok (.aload_n 0, 1) := by decide +kernel
theorem dX9_notes_64 : decode cX9_notes 64 = .ok (.getfield 88, 3) := by decide +kernel
theorem dX9_notes_67 : decode cX9_notes 67 = .ok (.imul, 1) := by decide +kernel
theorem dX9_notes_68 : decode cX9_notes 68 = .ok (.iload_n 1, 1) := by decide +kernel
theorem dX9_notes_69 : decode cX9_notes 69 = .ok (.iadd, 1) := by decide +kernel
theorem dX9_notes_70 : decode cX9_notes 70 = .ok (.aload_n 0, 1) := by decide +kernel
theorem dX9_notes_71 : decode cX9_notes 71 = .ok (.getfield 13, 3) := by decide +kernel
theorem dX9_notes_74 : decode cX9_notes 74 = .ok (.iload_n 1, 1) := by decide +kernel
theorem dX9_notes_75 : decode cX9_notes 75 = .ok (.iaload, 1) := by decide +kernel
theorem dX9_notes_76 : decode cX9_notes 76 = .ok (.iastore, 1) := by decide +kernel
theorem dX9_notes_77 : decode cX9_notes 77 = .ok (.iinc 1 1, 3) := by decide +kernel
theorem dX9_notes_80 : decode cX9_notes 80 = .ok (.goto (-29), 3) := by decide +kernel
theorem dX9_notes_83 : decode cX9_notes 83 = .ok (.aload_n 0, 1) := by decide +kernel
theorem dX9_notes_84 : decode cX9_notes 84 = .ok (.dup, 1) := by decide +kernel
theorem dX9_notes_85 : decode cX9_notes 85 = .ok (.getfield 88, 3) := by decide +kernel
theorem dX9_notes_88 : decode cX9_notes 88 = .ok (.iconst 1, 1) := by decide +kernel
theorem dX9_notes_89 : decode cX9_notes 89 = .ok (.iadd, 1) := by decide +kernel
theorem dX9_notes_90 : decode cX9_notes 90 = .ok (.putfield 88, 3) := by decide +kernel
theorem dX9_notes_93 : decode cX9_notes 93 = .ok (.return_, 1) := by decide +kernel
theorem dX9_undo_0 : decode cX9_undo 0 = .ok (.aload_n 0, 1) := by decide +kernel
theorem dX9_undo_1 : decode cX9_undo 1 = .ok (.getfield 88, 3) := by decide +kernel
theorem dX9_undo_4 : decode cX9_undo 4 = .ok (.ifCond .ne 6, 3) := by decide +kernel
theorem dX9_undo_7 : decode cX9_undo 7 = .ok (.bipush (-2), 2) := by decide +kernel
theorem dX9_undo_9 : decode cX9_undo 9 = .ok (.ireturn, 1) := by decide +kernel
theorem dX9_undo_10 : decode cX9_undo 10 = .ok (.aload_n 0, 1) := by decide +kernel
theorem dX9_undo_11 : decode cX9_undo 11 = .ok (.dup, 1) := by decide +kernel
theorem dX9_undo_12 : decode cX9_undo 12 = .ok (.getfield 88, 3) := by decide +kernel
theorem dX9_undo_15 : decode cX9_undo 15 = .ok (.iconst 1, 1) := by decide +kernel
theorem dX9_undo_16 : decode cX9_undo 16 = .ok (.isub, 1) := by decide +kernel
theorem dX9_undo_17 : decode cX9_undo 17 = .ok (.putfield 88, 3) := by decide +kernel
theorem dX9_undo_20 : decode cX9_undo 20 = .ok (.iconst 0, 1) := by decide +kernel
theorem dX9_undo_21 : decode cX9_undo 21 = .ok (.istore_n 1, 1) := by decide +kernel
theorem dX9_undo_22 : decode cX9_undo 22 = .ok (.iload_n 1, 1) := by decide +kernel
theorem dX9_undo_23 : decode cX9_undo 23 = .ok (.bipush 45, 2) := by decide +kernel
theorem dX9_undo_25 : decode cX9_undo 25 = .ok (.if_icmp .ge 29, 3) := by decide +kernel
theorem dX9_undo_28 : decode cX9_undo 28 = .ok (.aload_n 0, 1) := by decide +kernel
theorem dX9_undo_29 : decode cX9_undo 29 = .ok (.getfield 13, 3) := by decide +kernel
theorem dX9_undo_32 : decode cX9_undo 32 = .ok (.iload_n 1, 1) := by decide +kernel
theorem dX9_undo_33 : decode cX9_undo 33 = .ok (.aload_n 0, 1) := by decide +kernel
theorem dX9_undo_34 : decode cX9_undo 34 = .ok (.getfield 16, 3) := by decide +kernel
theorem dX9_undo_37 : decode cX9_undo 37 = .ok (.bipush 45, 2) := by decide +kernel
theorem dX9_undo_39 : decode cX9_undo 39 = .ok (.aload_n 0, 1) := by decide +kernel
theorem dX9_undo_40 : decode cX9_undo 40 = .ok (.getfield 88, 3) := by decide +kernel
theorem dX9_undo_43 : decode cX9_undo 43 = .ok (.imul, 1) := by decide +kernel
theorem dX9_undo_44 : decode cX9_undo 44 = .ok (.iload_n 1, 1) := by decide +kernel
theorem dX9_undo_45 : decode cX9_undo 45 = .ok (.iadd, 1) := by decide +kernel
theorem dX9_undo_46 : decode cX9_undo 46 = .ok (.iaload, 1) := by decide +kernel
theorem dX9_undo_47 : decode cX9_undo 47 = .ok (.iastore, 1) := by decide +kernel
theorem dX9_undo_48 : decode cX9_undo 48 = .ok (.iinc 1 1, 3) := by decide +kernel
theorem dX9_undo_51 : decode cX9_undo 51 = .ok (.goto (-29), 3) := by decide +kernel
theorem dX9_undo_54 : decode cX9_undo 54 = .ok (.aload_n 0, 1) := by decide +kernel
theorem dX9_undo_55 : decode cX9_undo 55 = .ok (.getfield 88, 3) := by decide +kernel
theorem dX9_undo_58 : decode cX9_undo 58 = .ok (.ireturn, 1) := by decide +kernel
theorem dX9_isWire_0 : decode cX9_isWire 0 = .ok (.iload_n 1, 1) := by decide +kernel
theorem dX9_isWire_1 : decode cX9_isWire 1 = .ok (.iconst 0, 1) := by decide +kernel
theorem dX9_isWire_2 : decode cX9_isWire 2 = .ok (.aload_n 0, 1) := by decide +kernel
theorem dX9_isWire_3 : decode cX9_isWire 3 = .ok (.getfield 38, 3) := by decide +kernel
theorem dX9_isWire_6 : decode cX9_isWire 6 = .ok (.iconst 1, 1) := by decide +kernel
theorem dX9_isWire_7 : decode cX9_isWire 7 = .ok (.isub, 1) := by decide +kernel
theorem dX9_isWire_8 : decode cX9_isWire 8 = .ok (.invokestatic 54, 3) := by decide +kernel
theorem dX9_isWire_11 : decode cX9_isWire 11 = .ok (.ireturn, 1) := by decide +kernel
theorem dX9_becomes_0 : decode cX9_becomes 0 = .ok (.aload_n 0, 1) := by decide +kernel
theorem dX9_becomes_1 : decode cX9_becomes 1 = .ok (.getfield 13, 3) := by decide +kernel
theorem dX9_becomes_4 : decode cX9_becomes 4 = .ok (.iload_n 1, 1) := by decide +kernel
theorem dX9_becomes_5 : decode cX9_becomes 5 = .ok (.iaload, 1) := by decide +kernel
theorem dX9_becomes_6 : decode cX9_becomes 6 = .ok (.istore_n 3, 1) := by decide +kernel
theorem dX9_becomes_7 : decode cX9_becomes 7 = .ok (.iload_n 3, 1) := by decide +kernel
theorem dX9_becomes_8 : decode cX9_becomes 8 = .ok (.iload_n 2, 1) := by decide +kernel
theorem dX9_becomes_9 : decode cX9_becomes 9 = .ok (.if_icmp .ne 6, 3) := by decide +kernel
theorem dX9_becomes_12 : decode cX9_becomes 12 = .ok (.bipush (-2), 2) := by decide +kernel
theorem dX9_becomes_14 : decode cX9_becomes 14 = .ok (.ireturn, 1) := by decide +kernel
theorem dX9_becomes_15 : decode cX9_becomes 15 = .ok (.aload_n 0, 1) := by decide +kernel
theorem dX9_becomes_16 : decode cX9_becomes 16 = .ok (.invokevirtual 91, 3) := by decide +kernel
theorem dX9_becomes_19 : decode cX9_becomes 19 = .ok (.aload_n 0, 1) := by decide +kernel
theorem dX9_becomes_20 : decode cX9_becomes 20 = .ok (.getfield 13, 3) := by decide +kernel
theorem dX9_becomes_23 : decode cX9_becomes 23 = .ok (.iload_n 1, 1) := by decide +kernel
theorem dX9_becomes_24 : decode cX9_becomes 24 = .ok (.iload_n 2, 1) := by decide +kernel
theorem dX9_becomes_25 : decode cX9_becomes 25 = .ok (.iastore, 1) := by decide +kernel
theorem dX9_becomes_26 : decode cX9_becomes 26 = .ok (.iload_n 3, 1) := by decide +kernel
theorem dX9_becomes_27 : decode cX9_becomes 27 = .ok (.ireturn, 1) := by decide +kernel
theorem dX9_set_0 : decode cX9_set 0 = .ok (.aload_n 0, 1) := by decide +kernel
theorem dX9_set_1 : decode cX9_set 1 = .ok (.iload_n 1, 1) := by decide +kernel
theorem dX9_set_2 : decode cX9_set 2 = .ok (.invokevirtual 94, 3) := by decide +kernel
theorem dX9_set_5 : decode cX9_set 5 = .ok (.ifCond .eq 27, 3) := by decide +kernel
theorem dX9_set_8 : decode cX9_set 8 = .ok (.iload_n 2, 1) := by decide +kernel
theorem dX9_set_9 : decode cX9_set 9 = .ok (.iconst 0, 1) := by decide +kernel
theorem dX9_set_10 : decode cX9_set 10 = .ok (.iconst 4, 1) := by decide +kernel
theorem dX9_set_11 : decode cX9_set 11 = .ok (.invokestatic 54, 3) := by decide +kernel
theorem dX9_set_14 : decode cX9_set 14 = .ok (.ifCond .eq 18, 3) := by decide +kernel
theorem dX9_set_17 : decode cX9_set 17 = .ok (.iload_n 3, 1) := by decide +kernel
theorem dX9_set_18 : decode cX9_set 18 = .ok (.iload_n 2, 1) := by decide +kernel
theorem dX9_set_19 : decode cX9_set 19 = .ok (.invokestatic 61, 3) := by decide +kernel
theorem dX9_set_22 : decode cX9_set 22 = .ok (.iload_n 2, 1) := by decide +kernel
theorem dX9_set_23 : decode cX9_set 23 = .ok (.invokestatic 64, 3) := by decide +kernel
theorem dX9_set_26 : decode cX9_set 26 = .ok (.invokestatic 54, 3) := by decide +kernel
theorem dX9_set_29 : decode cX9_set 29 = .ok (.ifCond .ne 5, 3) := by decide +kernel
theorem dX9_set_32 : decode cX9_set 32 = .ok (.iconst (-1), 1) := by decide +kernel
theorem dX9_set_33 : decode cX9_set 33 = .ok (.ireturn, 1) := by decide +kernel
theorem dX9_set_34 : decode cX9_set 34 = .ok (.aload_n 0, 1) := by decide +kernel
theorem dX9_set_35 : decode cX9_set 35 = .ok (.iconst 5, 1) := by decide +kernel
theorem dX9_set_36 : decode cX9_set 36 = .ok (.iload_n 1, 1) := by decide +kernel
theorem dX9_set_37 : decode cX9_set 37 = .ok (.imul, 1) := by decide +kernel
theorem dX9_set_38 : decode cX9_set 38 = .ok (.iload_n 2, 1) := by decide +kernel
theorem dX9_set_39 : decode cX9_set 39 = .ok (.iadd, 1) := by decide +kernel
theorem dX9_set_40 : decode cX9_set 40 = .ok (.iload_n 3, 1) := by decide +kernel
theorem dX9_set_41 : decode cX9_set 41 = .ok (.invokevirtual 97, 3) := by decide +kernel
theorem dX9_set_44 : decode cX9_set 44 = .ok (.ireturn, 1) := by decide +kernel
theorem dX9_limit_0 : decode cX9_limit 0 = .ok (.iload_n 1, 1) := by decide +kernel
theorem dX9_limit_1 : decode cX9_limit 1 = .ok (.iconst 0, 1) := by decide +kernel
theorem dX9_limit_2 : decode cX9_limit 2 = .ok (.iconst 2, 1) := by decide +kernel
theorem dX9_limit_3 : decode cX9_limit 3 = .ok (.invokestatic 54, 3) := by decide +kernel
theorem dX9_limit_6 : decode cX9_limit 6 = .ok (.ifCond .eq 27, 3) := by decide +kernel
theorem dX9_limit_9 : decode cX9_limit 9 = .ok (.iload_n 2, 1) := by decide +kernel
theorem dX9_limit_10 : decode cX9_limit 10 = .ok (.iconst 1, 1) := by decide +kernel
theorem dX9_limit_11 : decode cX9_limit 11 = .ok (.iload_n 1, 1) := by decide +kernel
theorem dX9_limit_12 : decode cX9_limit 12 = .ok (.invokestatic 77, 3) := by decide +kernel
theorem dX9_limit_15 : decode cX9_limit 15 = .ok (.invokestatic 54, 3) := by decide +kernel
theorem dX9_limit_18 : decode cX9_limit 18 = .ok (.ifCond .eq 15, 3) := by decide +kernel
theorem dX9_limit_21 : decode cX9_limit 21 = .ok (.aload_n 0, 1) := by decide +kernel
theorem dX9_limit_22 : decode cX9_limit 22 = .ok (.bipush 40, 2) := by decide +kernel
theorem dX9_limit_24 : decode cX9_limit 24 = .ok (.iload_n 1, 1) := by decide +kernel
theorem dX9_limit_25 : decode cX9_limit 25 = .ok (.iadd, 1) := by decide +kernel
theorem dX9_limit_26 : decode cX9_limit 26 = .ok (.iload_n 2, 1) := by decide +kernel
theorem dX9_limit_27 : decode cX9_limit 27 = .ok (.invokevirtual 97, 3) := by decide +kernel
theorem dX9_limit_30 : decode cX9_limit 30 = .ok (.goto 4, 3) := by decide +kernel
theorem dX9_limit_33 : decode cX9_limit 33 = .ok (.iconst (-1), 1) := by decide +kernel
theorem dX9_limit_34 : decode cX9_limit 34 = .ok (.ireturn, 1) := by decide +kernel
theorem dX9_shift_0 : decode cX9_shift 0 = .ok (.iload_n 1, 1) := by decide +kernel
theorem dX9_shift_1 : decode cX9_shift 1 = .ok (.bipush (-9), 2) := by decide +kernel
theorem dX9_shift_3 : decode cX9_shift 3 = .ok (.bipush 9, 2) := by decide +kernel
theorem dX9_shift_5 : decode cX9_shift 5 = .ok (.invokestatic 54, 3) := by decide +kernel
theorem dX9_shift_8 : decode cX9_shift 8 = .ok (.ifCond .ne 5, 3) := by decide +kernel
theorem dX9_shift_11 : decode cX9_shift 11 = .ok (.iconst (-1), 1) := by decide +kernel
theorem dX9_shift_12 : decode cX9_shift 12 = .ok (.ireturn, 1) := by decide +kernel
theorem dX9_shift_13 : decode cX9_shift 13 = .ok (.aload_n 0, 1) := by decide +kernel
theorem dX9_shift_14 : decode cX9_shift 14 = .ok (.getfield 13, 3) := by decide +kernel
theorem dX9_shift_17 : decode cX9_shift 17 = .ok (.bipush 43, 2) := by decide +kernel
theorem dX9_shift_19 : decode cX9_shift 19 = .ok (.iaload, 1) := by decide +kernel
theorem dX9_shift_20 : decode cX9_shift 20 = .ok (.istore_n 2, 1) := by decide +kernel
theorem dX9_shift_21 : decode cX9_shift 21 = .ok (.iload_n 2, 1) := by decide +kernel
theorem dX9_shift_22 : decode cX9_shift 22 = .ok (.iload_n 1, 1) := by decide +kernel
theorem dX9_shift_23 : decode cX9_shift 23 = .ok (.if_icmp .ne 6, 3) := by decide +kernel
theorem dX9_shift_26 : decode cX9_shift 26 = .ok (.bipush (-2), 2) := by decide +kernel
theorem dX9_shift_28 : decode cX9_shift 28 = .ok (.ireturn, 1) := by decide +kernel
theorem dX9_shift_29 : decode cX9_shift 29 = .ok (.aload_n 0, 1) := by decide +kernel
theorem dX9_shift_30 : decode cX9_shift 30 = .ok (.invokevirtual 91, 3) := by decide +kernel
theorem dX9_shift_33 : decode cX9_shift 33 = .ok (.aload_n 0, 1) := by decide +kernel
theorem dX9_shift_34 : decode cX9_shift 34 = .ok (.getfield 13, 3) := by decide +kernel
theorem dX9_shift_37 : decode cX9_shift 37 = .ok (.bipush 43, 2) := by decide +kernel
theorem dX9_shift_39 : decode cX9_shift 39 = .ok (.iload_n 1, 1) := by decide +kernel
theorem dX9_shift_40 : decode cX9_shift 40 = .ok (.iastore, 1) := by decide +kernel
theorem dX9_shift_41 : decode cX9_shift 41 = .ok (.iload_n 2, 1) := by decide +kernel
theorem dX9_shift_42 : decode cX9_shift 42 = .ok (.ldc 101, 2) := by decide +kernel
theorem dX9_shift_44 : decode cX9_shift 44 = .ok (.iadd, 1) := by decide +kernel
theorem dX9_shift_45 : decode cX9_shift 45 = .ok (.ireturn, 1) := by decide +kernel
theorem dX9_placeOf_0 : decode cX9_placeOf 0 = .ok (.aload_n 0, 1) := by decide +kernel
theorem dX9_placeOf_1 : decode cX9_placeOf 1 = .ok (.getfield 13, 3) := by decide +kernel
theorem dX9_placeOf_4 : decode cX9_placeOf 4 = .ok (.iconst 5, 1) := by decide +kernel
theorem dX9_placeOf_5 : decode cX9_placeOf 5 = .ok (.iload_n 1, 1) := by decide +kernel
theorem dX9_placeOf_6 : decode cX9_placeOf 6 = .ok (.imul, 1) := by decide +kernel
theorem dX9_placeOf_7 : decode cX9_placeOf 7 = .ok (.iaload, 1) := by decide +kernel
theorem dX9_placeOf_8 : decode cX9_placeOf 8 = .ok (.aload_n 0, 1) := by decide +kernel
theorem dX9_placeOf_9 : decode cX9_placeOf 9 = .ok (.getfield 13, 3) := by decide +kernel
theorem dX9_placeOf_12 : decode cX9_placeOf 12 = .ok (.bipush 43, 2) := by decide +kernel
theorem dX9_placeOf_14 : decode cX9_placeOf 14 = .ok (.iaload, 1) := by decide +kernel
theorem dX9_placeOf_15 : decode cX9_placeOf 15 = .ok (.iadd, 1) := by decide +kernel
theorem dX9_placeOf_16 : decode cX9_placeOf 16 = .ok (.aload_n 0, 1) := by decide +kernel
theorem dX9_placeOf_17 : decode cX9_placeOf 17 = .ok (.getfield 34, 3) := by decide +kernel
theorem dX9_placeOf_20 : decode cX9_placeOf 20 = .ok (.iload_n 2, 1) := by decide +kernel
theorem dX9_placeOf_21 : decode cX9_placeOf 21 = .ok (.isub, 1) := by decide +kernel
theorem dX9_placeOf_22 : decode cX9_placeOf 22 = .ok (.imul, 1) := by decide +kernel
theorem dX9_placeOf_23 : decode cX9_placeOf 23 = .ok (.aload_n 0, 1) := by decide +kernel
theorem dX9_placeOf_24 : decode cX9_placeOf 24 = .ok (.getfield 13, 3) := by decide +kernel
theorem dX9_placeOf_27 : decode cX9_placeOf 27 = .ok (.iconst 5, 1) := by decide +kernel
theorem dX9_placeOf_28 : decode cX9_placeOf 28 = .ok (.iload_n 1, 1) := by decide +kernel
theorem dX9_placeOf_29 : decode cX9_placeOf 29 = .ok (.imul, 1) := by decide +kernel
theorem dX9_placeOf_30 : decode cX9_placeOf 30 = .ok (.iconst 2, 1) := by decide +kernel
theorem dX9_placeOf_31 : decode cX9_placeOf 31 = .ok (.iadd, 1) := by decide +kernel
theorem dX9_placeOf_32 : decode cX9_placeOf 32 = .ok (.iaload, 1) := by decide +kernel
theorem dX9_placeOf_33 : decode cX9_placeOf 33 = .ok (.iload_n 2, 1) := by decide +kernel
theorem dX9_placeOf_34 : decode cX9_placeOf 34 = .ok (.imul, 1) := by decide +kernel
theorem dX9_placeOf_35 : decode cX9_placeOf 35 = .ok (.iadd, 1) := by decide +kernel
theorem dX9_placeOf_36 : decode cX9_placeOf 36 = .ok (.ireturn, 1) := by decide +kernel
theorem dX9_heightOf_0 : decode cX9_heightOf 0 = .ok (.bipush 10, 2) := by decide +kernel
theorem dX9_heightOf_2 : decode cX9_heightOf 2 = .ok (.aload_n 0, 1) := by decide +kernel
theorem dX9_heightOf_3 : decode cX9_heightOf 3 = .ok (.getfield 13, 3) := by decide +kernel
theorem dX9_heightOf_6 : decode cX9_heightOf 6 = .ok (.iconst 5, 1) := by decide +kernel
theorem dX9_heightOf_7 : decode cX9_heightOf 7 = .ok (.iload_n 1, 1) := by decide +kernel
theorem dX9_heightOf_8 : decode cX9_heightOf 8 = .ok (.imul, 1) := by decide +kernel
theorem dX9_heightOf_9 : decode cX9_heightOf 9 = .ok (.iconst 1, 1) := by decide +kernel
theorem dX9_heightOf_10 : decode cX9_heightOf 10 = .ok (.iadd, 1) := by decide +kernel
theorem dX9_heightOf_11 : decode cX9_heightOf 11 = .ok (.iaload, 1) := by decide +kernel
theorem dX9_heightOf_12 : decode cX9_heightOf 12 = .ok (.imul, 1) := by decide +kernel
theorem dX9_heightOf_13 : decode cX9_heightOf 13 = .ok (.istore_n 3, 1) := by decide +kernel
theorem dX9_heightOf_14 : decode cX9_heightOf 14 = .ok (.aload_n 0, 1) := by decide +kernel
theorem dX9_heightOf_15 : decode cX9_heightOf 15 = .ok (.getfield 13, 3) := by decide +kernel
theorem dX9_heightOf_18 : decode cX9_heightOf 18 = .ok (.iconst 5, 1) := by decide +kernel
theorem dX9_heightOf_19 : decode cX9_heightOf 19 = .ok (.iload_n 1, 1) := by decide +kernel
theorem dX9_heightOf_20 : decode cX9_heightOf 20 = .ok (.imul, 1) := by decide +kernel
theorem dX9_heightOf_21 : decode cX9_heightOf 21 = .ok (.iconst 4, 1) := by decide +kernel
theorem dX9_heightOf_22 : decode cX9_heightOf 22 = .ok (.iadd, 1) := by decide +kernel
theorem dX9_heightOf_23 : decode cX9_heightOf 23 = .ok (.iaload, 1) := by decide +kernel
theorem dX9_heightOf_24 : decode cX9_heightOf 24 = .ok (.istore 4, 2) := by decide +kernel
theorem dX9_heightOf_26 : decode cX9_heightOf 26 = .ok (.iload_n 2, 1) := by decide +kernel
theorem dX9_heightOf_27 : decode cX9_heightOf 27 = .ok (.ifCond .eq 11, 3) := by decide +kernel
theorem dX9_heightOf_30 : decode cX9_heightOf 30 = .ok (.iload_n 2, 1) := by decide +kernel
theorem dX9_heightOf_31 : decode cX9_heightOf 31 = .ok (.aload_n 0, 1) := by decide +kernel
theorem dX9_heightOf_32 : decode cX9_heightOf 32 = .ok (.getfield 34, 3) := by decide +kernel
theorem dX9_heightOf_35 : decode cX9_heightOf 35 = .ok (.if_icmp .ne 13, 3) := by decide +kernel
theorem dX9_heightOf_38 : decode cX9_heightOf 38 = .ok (.iload_n 2, 1) := by decide +kernel
theorem dX9_heightOf_39 : decode cX9_heightOf 39 = .ok (.ifCond .ne 7, 3) := by decide +kernel
theorem dX9_heightOf_42 : decode cX9_heightOf 42 = .ok (.iload_n 3, 1) := by decide +kernel
theorem dX9_heightOf_43 : decode cX9_heightOf 43 = .ok (.goto 4, 3) := by decide +kernel
theorem dX9_heightOf_46 : decode cX9_heightOf 46 = .ok (.iconst 0, 1) := by decide +kernel
theorem dX9_heightOf_47 : decode cX9_heightOf 47 = .ok (.ireturn, 1) := by decide +kernel
theorem dX9_heightOf_48 : decode cX9_heightOf 48 = .ok (.aload_n 0, 1) := by decide +kernel
theorem dX9_heightOf_49 : decode cX9_heightOf 49 = .ok (.getfield 13, 3) := by decide +kernel
theorem dX9_heightOf_52 : decode cX9_heightOf 52 = .ok (.iconst 5, 1) := by decide +kernel
theorem dX9_heightOf_53 : decode cX9_heightOf 53 = .ok (.iload_n 1, 1) := by decide +kernel
theorem dX9_heightOf_54 : decode cX9_heightOf 54 = .ok (.imul, 1) := by decide +kernel
theorem dX9_heightOf_55 : decode cX9_heightOf 55 = .ok (.iconst 3, 1) := by decide +kernel
theorem dX9_heightOf_56 : decode cX9_heightOf 56 = .ok (.iadd, 1) := by decide +kernel
theorem dX9_heightOf_57 : decode cX9_heightOf 57 = .ok (.iaload, 1) := by decide +kernel
theorem dX9_heightOf_58 : decode cX9_heightOf 58 = .ok (.ifCond .ne 8, 3) := by decide +kernel
theorem dX9_heightOf_61 : decode cX9_heightOf 61 = .ok (.iload_n 3, 1) := by decide +kernel
theorem dX9_heightOf_62 : decode cX9_heightOf 62 = .ok (.iload 4, 2) := by decide +kernel
theorem dX9_heightOf_64 : decode cX9_heightOf 64 = .ok (.iadd, 1) := by decide +kernel
theorem dX9_heightOf_65 : decode cX9_heightOf 65 = .ok (.ireturn, 1) := by decide +kernel
theorem dX9_heightOf_66 : decode cX9_heightOf 66 = .ok (.aload_n 0, 1) := by decide +kernel
theorem dX9_heightOf_67 : decode cX9_heightOf 67 = .ok (.getfield 13, 3) := by decide +kernel
theorem dX9_heightOf_70 : decode cX9_heightOf 70 = .ok (.iconst 5, 1) := by decide +kernel
theorem dX9_heightOf_71 : decode cX9_heightOf 71 = .ok (.iload_n 1, 1) := by decide +kernel
theorem dX9_heightOf_72 : decode cX9_heightOf 72 = .ok (.imul, 1) := by decide +kernel
theorem dX9_heightOf_73 : decode cX9_heightOf 73 = .ok (.iconst 3, 1) := by decide +kernel
theorem dX9_heightOf_74 : decode cX9_heightOf 74 = .ok (.iadd, 1) := by decide +kernel
theorem dX9_heightOf_75 : decode cX9_heightOf 75 = .ok (.iaload, 1) := by decide +kernel
theorem dX9_heightOf_76 : decode cX9_heightOf 76 = .ok (.iconst 1, 1) := by decide +kernel
theorem dX9_heightOf_77 : decode cX9_heightOf 77 = .ok (.if_icmp .ne 41, 3) := by decide +kernel
theorem dX9_heightOf_80 : decode cX9_heightOf 80 = .ok (.iload_n 3, 1) := by decide +kernel
theorem dX9_heightOf_81 : decode cX9_heightOf 81 = .ok (.aload_n 0, 1) := by decide +kernel
theorem dX9_heightOf_82 : decode cX9_heightOf 82 = .ok (.getfield 34, 3) := by decide +kernel
theorem dX9_heightOf_85 : decode cX9_heightOf 85 = .ok (.iload_n 2, 1) := by decide +kernel
theorem dX9_heightOf_86 : decode cX9_heightOf 86 = .ok (.isub, 1) := by decide +kernel
theorem dX9_heightOf_87 : decode cX9_heightOf 87 = .ok (.imul, 1) := by decide +kernel
theorem dX9_heightOf_88 : decode cX9_heightOf 88 = .ok (.aload_n 0, 1) := by decide +kernel
theorem dX9_heightOf_89 : decode cX9_heightOf 89 = .ok (.getfield 34, 3) := by decide +kernel
theorem dX9_heightOf_92 : decode cX9_heightOf 92 = .ok (.idiv, 1) := by decide +kernel
theorem dX9_heightOf_93 : decode cX9_heightOf 93 = .ok (.iconst 4, 1) := by decide +kernel
theorem dX9_heightOf_94 : decode cX9_heightOf 94 = .ok (.iload 4, 2) := by decide +kernel
theorem dX9_heightOf_96 : decode cX9_heightOf 96 = .ok (.imul, 1) := by decide +kernel
theorem dX9_heightOf_97 : decode cX9_heightOf 97 = .ok (.iload_n 2, 1) := by decide +kernel
theorem dX9_heightOf_98 : decode cX9_heightOf 98 = .ok (.imul, 1) := by decide +kernel
theorem dX9_heightOf_99 : decode cX9_heightOf 99 = .ok (.aload_n 0, 1) := by decide +kernel
theorem dX9_heightOf_100 : decode cX9_heightOf 100 = .ok (.getfield 34, 3) := by decide +kernel
theorem dX9_heightOf_103 : decode cX9_heightOf 103 = .ok (.iload_n 2, 1) := by decide +kernel
theorem dX9_heightOf_104 : decode cX9_heightOf 104 = .ok (.isub, 1) := by decide +kernel
theorem dX9_heightOf_105 : decode cX9_heightOf 105 = .ok (.imul, 1) := by decide +kernel
theorem dX9_heightOf_106 : decode cX9_heightOf 106 = .ok (.aload_n 0, 1) := by decide +kernel
theorem dX9_heightOf_107 : decode cX9_heightOf 107 = .ok (.getfield 34, 3) := by decide +kernel
theorem dX9_heightOf_110 : decode cX9_heightOf 110 = .ok (.aload_n 0, 1) := by decide +kernel
theorem dX9_heightOf_111 : decode cX9_heightOf 111 = .ok (.getfield 34, 3) := by decide +kernel
theorem dX9_heightOf_114 : decode cX9_heightOf 114 = .ok (.imul, 1) := by decide +kernel
theorem dX9_heightOf_115 : decode cX9_heightOf 115 = .ok (.idiv, 1) := by decide +kernel
theorem dX9_heightOf_116 : decode cX9_heightOf 116 = .ok (.iadd, 1) := by decide +kernel
theorem dX9_heightOf_117 : decode cX9_heightOf 117 = .ok (.ireturn, 1) := by decide +kernel
theorem dX9_heightOf_118 : decode cX9_heightOf 118 = .ok (.aload_n 0, 1) := by decide +kernel
theorem dX9_heightOf_119 : decode cX9_heightOf 119 = .ok (.getfield 34, 3) := by decide +kernel
theorem dX9_heightOf_122 : decode cX9_heightOf 122 = .ok (.iconst 4, 1) := by decide +kernel
theorem dX9_heightOf_123 : decode cX9_heightOf 123 = .ok (.idiv, 1) := by decide +kernel
theorem dX9_heightOf_124 : decode cX9_heightOf 124 = .ok (.istore 5, 2) := by decide +kernel
theorem dX9_heightOf_126 : decode cX9_heightOf 126 = .ok (.iload_n 2, 1) := by decide +kernel
theorem dX9_heightOf_127 : decode cX9_heightOf 127 = .ok (.iload 5, 2) := by decide +kernel
theorem dX9_heightOf_129 : decode cX9_heightOf 129 = .ok (.if_icmp .ge 15, 3) := by decide +kernel
theorem dX9_heightOf_132 : decode cX9_heightOf 132 = .ok (.iload_n 3, 1) := by decide +kernel
theorem dX9_heightOf_133 : decode cX9_heightOf 133 = .ok (.iload 4, 2) := by decide +kernel
theorem dX9_heightOf_135 : decode cX9_heightOf 135 = .ok (.iload_n 2, 1) := by decide +kernel
theorem dX9_heightOf_136 : decode cX9_heightOf 136 = .ok (.imul, 1) := by decide +kernel
theorem dX9_heightOf_137 : decode cX9_heightOf 137 = .ok (.iload 5, 2) := by decide +kernel
theorem dX9_heightOf_139 : decode cX9_heightOf 139 = .ok (.idiv, 1) := by decide +kernel
theorem dX9_heightOf_140 : decode cX9_heightOf 140 = .ok (.iadd, 1) := by decide +kernel
theorem dX9_heightOf_141 : decode cX9_heightOf 141 = .ok (.goto 22, 3) := by decide +kernel
theorem dX9_heightOf_144 : decode cX9_heightOf 144 = .ok (.iload_n 3, 1) := by decide +kernel
theorem dX9_heightOf_145 : decode cX9_heightOf 145 = .ok (.iload 4, 2) := by decide +kernel
theorem dX9_heightOf_147 : decode cX9_heightOf 147 = .ok (.iadd, 1) := by decide +kernel
theorem dX9_heightOf_148 : decode cX9_heightOf 148 = .ok (.aload_n 0, 1) := by decide +kernel
theorem dX9_heightOf_149 : decode cX9_heightOf 149 = .ok (.getfield 34, 3) := by decide +kernel
theorem dX9_heightOf_152 : decode cX9_heightOf 152 = .ok (.iload_n 2, 1) := by decide +kernel
theorem dX9_heightOf_153 : decode cX9_heightOf 153 = .ok (.isub, 1) := by decide +kernel
theorem dX9_heightOf_154 : decode cX9_heightOf 154 = .ok (.imul, 1) := by decide +kernel
theorem dX9_heightOf_155 : decode cX9_heightOf 155 = .ok (.aload_n 0, 1) := by decide +kernel
theorem dX9_heightOf_156 : decode cX9_heightOf 156 = .ok (.getfield 34, 3) := by decide +kernel
theorem dX9_heightOf_159 : decode cX9_heightOf 159 = .ok (.iload 5, 2) := by decide +kernel
theorem dX9_heightOf_161 : decode cX9_heightOf 161 = .ok (.isub, 1) := by decide +kernel
theorem dX9_heightOf_162 : decode cX9_heightOf 162 = .ok (.idiv, 1) := by decide +kernel
theorem dX9_heightOf_163 : decode cX9_heightOf 163 = .ok (.ireturn, 1) := by decide +kernel
theorem dX9_longOf_0 : decode cX9_longOf 0 = .ok (.aload_n 0, 1) := by decide +kernel
theorem dX9_longOf_1 : decode cX9_longOf 1 = .ok (.getfield 34, 3) := by decide +kernel
theorem dX9_longOf_4 : decode cX9_longOf 4 = .ok (.aload_n 0, 1) := by decide +kernel
theorem dX9_longOf_5 : decode cX9_longOf 5 = .ok (.iload_n 1, 1) := by decide +kernel
theorem dX9_longOf_6 : decode cX9_longOf 6 = .ok (.iconst 0, 1) := by decide +kernel
theorem dX9_longOf_7 : decode cX9_longOf 7 = .ok (.invokevirtual 102, 3) := by decide +kernel
theorem dX9_longOf_10 : decode cX9_longOf 10 = .ok (.aload_n 0, 1) := by decide +kernel
theorem dX9_longOf_11 : decode cX9_longOf 11 = .ok (.iload_n 1, 1) := by decide +kernel
theorem dX9_longOf_12 : decode cX9_longOf 12 = .ok (.aload_n 0, 1) := by decide +kernel
theorem dX9_longOf_13 : decode cX9_longOf 13 = .ok (.getfield 34, 3) := by decide +kernel
theorem dX9_longOf_16 : decode cX9_longOf 16 = .ok (.invokevirtual 102, 3) := by decide +kernel
theorem dX9_longOf_19 : decode cX9_longOf 19 = .ok (.invokestatic 105, 3) := by decide +kernel
theorem dX9_longOf_22 : decode cX9_longOf 22 = .ok (.aload_n 0, 1) := by decide +kernel
theorem dX9_longOf_23 : decode cX9_longOf 23 = .ok (.getfield 34, 3) := by decide +kernel
theorem dX9_longOf_26 : decode cX9_longOf 26 = .ok (.idiv, 1) := by decide +kernel
theorem dX9_longOf_27 : decode cX9_longOf 27 = .ok (.iadd, 1) := by decide +kernel
theorem dX9_longOf_28 : decode cX9_longOf 28 = .ok (.istore_n 2, 1) := by decide +kernel
theorem dX9_longOf_29 : decode cX9_longOf 29 = .ok (.iconst 0, 1) := by decide +kernel
theorem dX9_longOf_30 : decode cX9_longOf 30 = .ok (.istore_n 3, 1) := by decide +kernel
theorem dX9_longOf_31 : decode cX9_longOf 31 = .ok (.iload_n 3, 1) := by decide +kernel
theorem dX9_longOf_32 : decode cX9_longOf 32 = .ok (.aload_n 0, 1) := by decide +kernel
theorem dX9_longOf_33 : decode cX9_longOf 33 = .ok (.getfield 34, 3) := by decide +kernel
theorem dX9_longOf_36 : decode cX9_longOf 36 = .ok (.if_icmp .ge 29, 3) := by decide +kernel
theorem dX9_longOf_39 : decode cX9_longOf 39 = .ok (.iload_n 2, 1) := by decide +kernel
theorem dX9_longOf_40 : decode cX9_longOf 40 = .ok (.aload_n 0, 1) := by decide +kernel
theorem dX9_longOf_41 : decode cX9_longOf 41 = .ok (.iload_n 1, 1) := by decide +kernel
theorem dX9_longOf_42 : decode cX9_longOf 42 = .ok (.iload_n 3, 1) := by decide +kernel
theorem dX9_longOf_43 : decode cX9_longOf 43 = .ok (.invokevirtual 108, 3) := by decide +kernel
theorem dX9_longOf_46 : decode cX9_longOf 46 = .ok (.aload_n 0, 1) := by decide +kernel
theorem dX9_longOf_47 : decode cX9_longOf 47 = .ok (.iload_n 1, 1) := by decide +kernel
theorem dX9_longOf_48 : decode cX9_longOf 48 = .ok (.iload_n 3, 1) := by decide +kernel
theorem dX9_longOf_49 : decode cX9_longOf 49 = .ok (.iconst 1, 1) := by decide +kernel
theorem dX9_longOf_50 : decode cX9_longOf 50 = .ok (.iadd, 1) := by decide +kernel
theorem dX9_longOf_51 : decode cX9_longOf 51 = .ok (.invokevirtual 108, 3) := by decide +kernel
theorem dX9_longOf_54 : decode cX9_longOf 54 = .ok (.invokestatic 105, 3) := by decide +kernel
theorem dX9_longOf_57 : decode cX9_longOf 57 = .ok (.iadd, 1) := by decide +kernel
theorem dX9_longOf_58 : decode cX9_longOf 58 = .ok (.istore_n 2, 1) := by decide +kernel
theorem dX9_longOf_59 : decode cX9_longOf 59 = .ok (.iinc 3 1, 3) := by decide +kernel
theorem dX9_longOf_62 : decode cX9_longOf 62 = .ok (.goto (-31), 3) := by decide +kernel
theorem dX9_longOf_65 : decode cX9_longOf 65 = .ok (.iload_n 2, 1) := by decide +kernel
theorem dX9_longOf_66 : decode cX9_longOf 66 = .ok (.ireturn, 1) := by decide +kernel
theorem dX9_topOf_0 : decode cX9_topOf 0 = .ok (.iconst 0, 1) := by decide +kernel
theorem dX9_topOf_1 : decode cX9_topOf 1 = .ok (.istore_n 2, 1) := by decide +kernel
theorem dX9_topOf_2 : decode cX9_topOf 2 = .ok (.iconst 1, 1) := by decide +kernel
theorem dX9_topOf_3 : decode cX9_topOf 3 = .ok (.istore_n 3, 1) := by decide +kernel
theorem dX9_topOf_4 : decode cX9_topOf 4 = .ok (.iload_n 3, 1) := by decide +kernel
theorem dX9_topOf_5 : decode cX9_topOf 5 = .ok (.aload_n 0, 1) := by decide +kernel
theorem dX9_topOf_6 : decode cX9_topOf 6 = .ok (.getfield 34, 3) := by decide +kernel
theorem dX9_topOf_9 : decode cX9_topOf 9 = .ok (.if_icmp .gt 30, 3) := by decide +kernel
theorem dX9_topOf_12 : decode cX9_topOf 12 = .ok (.aload_n 0, 1) := by decide +kernel
theorem dX9_topOf_13 : decode cX9_topOf 13 = .ok (.iload_n 1, 1) := by decide +kernel
theorem dX9_topOf_14 : decode cX9_topOf 14 = .ok (.iload_n 3, 1) := by decide +kernel
theorem dX9_topOf_15 : decode cX9_topOf 15 = .ok (.invokevirtual 108, 3) := by decide +kernel
theorem dX9_topOf_18 : decode cX9_topOf 18 = .ok (.aload_n 0, 1) := by decide +kernel
theorem dX9_topOf_19 : decode cX9_topOf 19 = .ok (.iload_n 1, 1) := by decide +kernel
theorem dX9_topOf_20 : decode cX9_topOf 20 = .ok (.iload_n 2, 1) := by decide +kernel
theorem dX9_topOf_21 : decode cX9_topOf 21 = .ok (.invokevirtual 108, 3) := by decide +kernel
theorem dX9_topOf_24 : decode cX9_topOf 24 = .ok (.if_icmp .le 7, 3) := by decide +kernel
theorem dX9_topOf_27 : decode cX9_topOf 27 = .ok (.iload_n 3, 1) := by decide +kernel
theorem dX9_topOf_28 : decode cX9_topOf 28 = .ok (.goto 4, 3) := by decide +kernel
theorem dX9_topOf_31 : decode cX9_topOf 31 = .ok (.iload_n 2, 1) := by decide +kernel
theorem dX9_topOf_32 : decode cX9_topOf 32 = .ok (.istore_n 2, 1) := by decide +kernel
theorem dX9_topOf_33 : decode cX9_topOf 33 = .ok (.iinc 3 1, 3) := by decide +kernel
theorem dX9_topOf_36 : decode cX9_topOf 36 = .ok (.goto (-32), 3) := by decide +kernel
theorem dX9_topOf_39 : decode cX9_topOf 39 = .ok (.iload_n 2, 1) := by decide +kernel
theorem dX9_topOf_40 : decode cX9_topOf 40 = .ok (.ireturn, 1) := by decide +kernel
theorem dX9_wire_0 : decode cX9_wire 0 = .ok (.aload_n 0, 1) := by decide +kernel
theorem dX9_wire_1 : decode cX9_wire 1 = .ok (.iload_n 1, 1) := by decide +kernel
theorem dX9_wire_2 : decode cX9_wire 2 = .ok (.invokevirtual 94, 3) := by decide +kernel
theorem dX9_wire_5 : decode cX9_wire 5 = .ok (.ifCond .eq 13, 3) := by decide +kernel
theorem dX9_wire_8 : decode cX9_wire 8 = .ok (.iload_n 2, 1) := by decide +kernel
theorem dX9_wire_9 : decode cX9_wire 9 = .ok (.iconst 0, 1) := by decide +kernel
theorem dX9_wire_10 : decode cX9_wire 10 = .ok (.bipush 8, 2) := by decide +kernel
theorem dX9_wire_12 : decode cX9_wire 12 = .ok (.invokestatic 54, 3) := by decide +kernel
theorem dX9_wire_15 : decode cX9_wire 15 = .ok (.ifCond .ne 5, 3) := by decide +kernel
theorem dX9_wire_18 : decode cX9_wire 18 = .ok (.iconst (-1), 1) := by decide +kernel
theorem dX9_wire_19 : decode cX9_wire 19 = .ok (.ireturn, 1) := by decide +kernel
theorem dX9_wire_20 : decode cX9_wire 20 = .ok (.iload_n 2, 1) := by decide +kernel
theorem dX9_wire_21 : decode cX9_wire 21 = .ok (.tableswitch 66 5 8 #[31, 43, 49, 60], 31) := by decide +kernel
theorem dX9_wire_52 : decode cX9_wire 52 = .ok (.aload_n 0, 1) := by decide +kernel
theorem dX9_wire_53 : decode cX9_wire 53 = .ok (.getfield 13, 3) := by decide +kernel
theorem dX9_wire_56 : decode cX9_wire 56 = .ok (.bipush 44, 2) := by decide +kernel
theorem dX9_wire_58 : decode cX9_wire 58 = .ok (.iaload, 1) := by decide +kernel
theorem dX9_wire_59 : decode cX9_wire 59 = .ok (.iload_n 1, 1) := by decide +kernel
theorem dX9_wire_60 : decode cX9_wire 60 = .ok (.ishr, 1) := by decide +kernel
theorem dX9_wire_61 : decode cX9_wire 61 = .ok (.iconst 1, 1) := by decide +kernel
theorem dX9_wire_62 : decode cX9_wire 62 = .ok (.iand, 1) := by decide +kernel
theorem dX9_wire_63 : decode cX9_wire 63 = .ok (.ireturn, 1) := by decide +kernel
theorem dX9_wire_64 : decode cX9_wire 64 = .ok (.aload_n 0, 1) := by decide +kernel
theorem dX9_wire_65 : decode cX9_wire 65 = .ok (.iload_n 1, 1) := by decide +kernel
theorem dX9_wire_66 : decode cX9_wire 66 = .ok (.invokevirtual 111, 3) := by decide +kernel
theorem dX9_wire_69 : decode cX9_wire 69 = .ok (.ireturn, 1) := by decide +kernel
theorem dX9_wire_70 : decode cX9_wire 70 = .ok (.aload_n 0, 1) := by decide +kernel
theorem dX9_wire_71 : decode cX9_wire 71 = .ok (.iload_n 1, 1) := by decide +kernel
theorem dX9_wire_72 : decode cX9_wire 72 = .ok (.aload_n 0, 1) := by decide +kernel
theorem dX9_wire_73 : decode cX9_wire 73 = .ok (.iload_n 1, 1) := by decide +kernel
theorem dX9_wire_74 : decode cX9_wire 74 = .ok (.invokevirtual 114, 3) := by decide +kernel
theorem dX9_wire_77 : decode cX9_wire 77 = .ok (.invokevirtual 108, 3) := by decide +kernel
theorem dX9_wire_80 : decode cX9_wire 80 = .ok (.ireturn, 1) := by decide +kernel
theorem dX9_wire_81 : decode cX9_wire 81 = .ok (.aload_n 0, 1) := by decide +kernel
theorem dX9_wire_82 : decode cX9_wire 82 = .ok (.iload_n 1, 1) := by decide +kernel
theorem dX9_wire_83 : decode cX9_wire 83 = .ok (.invokevirtual 114, 3) := by decide +kernel
theorem dX9_wire_86 : decode cX9_wire 86 = .ok (.ireturn, 1) := by decide +kernel
theorem dX9_wire_87 : decode cX9_wire 87 = .ok (.aload_n 0, 1) := by decide +kernel
theorem dX9_wire_88 : decode cX9_wire 88 = .ok (.getfield 13, 3) := by decide +kernel
theorem dX9_wire_91 : decode cX9_wire 91 = .ok (.iconst 5, 1) := by decide +kernel
theorem dX9_wire_92 : decode cX9_wire 92 = .ok (.iload_n 1, 1) := by decide +kernel
theorem dX9_wire_93 : decode cX9_wire 93 = .ok (.imul, 1) := by decide +kernel
theorem dX9_wire_94 : decode cX9_wire 94 = .ok (.iload_n 2, 1) := by decide +kernel
theorem dX9_wire_95 : decode cX9_wire 95 = .ok (.iadd, 1) := by decide +kernel
theorem dX9_wire_96 : decode cX9_wire 96 = .ok (.iaload, 1) := by decide +kernel
theorem dX9_wire_97 : decode cX9_wire 97 = .ok (.ireturn, 1) := by decide +kernel
theorem dX9_place_0 : decode cX9_place 0 = .ok (.aload_n 0, 1) := by decide +kernel
theorem dX9_place_1 : decode cX9_place 1 = .ok (.iload_n 1, 1) := by decide +kernel
theorem dX9_place_2 : decode cX9_place 2 = .ok (.invokevirtual 94, 3) := by decide +kernel
theorem dX9_place_5 : decode cX9_place 5 = .ok (.ifCond .eq 27, 3) := by decide +kernel
theorem dX9_place_8 : decode cX9_place 8 = .ok (.iload_n 2, 1) := by decide +kernel
theorem dX9_place_9 : decode cX9_place 9 = .ok (.iconst 0, 1) := by decide +kernel
theorem dX9_place_10 : decode cX9_place 10 = .ok (.aload_n 0, 1) := by decide +kernel
theorem dX9_place_11 : decode cX9_place 11 = .ok (.getfield 34, 3) := by decide +kernel
theorem dX9_place_14 : decode cX9_place 14 = .ok (.invokestatic 54, 3) := by decide +kernel
theorem dX9_place_17 : decode cX9_place 17 = .ok (.ifCond .eq 15, 3) := by decide +kernel
theorem dX9_place_20 : decode cX9_place 20 = .ok (.aload_n 0, 1) := by decide +kernel
theorem dX9_place_21 : decode cX9_place 21 = .ok (.iload_n 1, 1) := by decide +kernel
theorem dX9_place_22 : decode cX9_place 22 = .ok (.iload_n 2, 1) := by decide +kernel
theorem dX9_place_23 : decode cX9_place 23 = .ok (.invokevirtual 102, 3) := by decide +kernel
theorem dX9_place_26 : decode cX9_place 26 = .ok (.ldc 101, 2) := by decide +kernel
theorem dX9_place_28 : decode cX9_place 28 = .ok (.iadd, 1) := by decide +kernel
theorem dX9_place_29 : decode cX9_place 29 = .ok (.goto 4, 3) := by decide +kernel
theorem dX9_place_32 : decode cX9_place 32 = .ok (.iconst (-1), 1) := by decide +kernel
theorem dX9_place_33 : decode cX9_place 33 = .ok (.ireturn, 1) := by decide +kernel
theorem dX9_height_0 : decode cX9_height 0 = .ok (.aload_n 0, 1) := by decide +kernel
theorem dX9_height_1 : decode cX9_height 1 = .ok (.iload_n 1, 1) := by decide +kernel
theorem dX9_height_2 : decode cX9_height 2 = .ok (.invokevirtual 94, 3) := by decide +kernel
theorem dX9_height_5 : decode cX9_height 5 = .ok (.ifCond .eq 24, 3) := by decide +kernel
theorem dX9_height_8 : decode cX9_height 8 = .ok (.iload_n 2, 1) := by decide +kernel
theorem dX9_height_9 : decode cX9_height 9 = .ok (.iconst 0, 1) := by decide +kernel
theorem dX9_height_10 : decode cX9_height 10 = .ok (.aload_n 0, 1) := by decide +kernel
theorem dX9_height_11 : decode cX9_height 11 = .ok (.getfield 34, 3) := by decide +kernel
theorem dX9_height_14 : decode cX9_height 14 = .ok (.invokestatic 54, 3) := by decide +kernel
theorem dX9_height_17 : decode cX9_height 17 = .ok (.ifCond .eq 12, 3) := by decide +kernel
theorem dX9_height_20 : decode cX9_height 20 = .ok (.aload_n 0, 1) := by decide +kernel
theorem dX9_height_21 : decode cX9_height 21 = .ok (.iload_n 1, 1) := by decide +kernel
theorem dX9_height_22 : decode cX9_height 22 = .ok (.iload_n 2, 1) := by decide +kernel
theorem dX9_height_23 : decode cX9_height 23 = .ok (.invokevirtual 108, 3) := by decide +kernel
theorem dX9_height_26 : decode cX9_height 26 = .ok (.goto 4, 3) := by decide +kernel
theorem dX9_height_29 : decode cX9_height 29 = .ok (.iconst (-1), 1) := by decide +kernel
theorem dX9_height_30 : decode cX9_height 30 = .ok (.ireturn, 1) := by decide +kernel
theorem dX9_areNear_0 : decode cX9_areNear 0 = .ok (.aload_n 0, 1) := by decide +kernel
theorem dX9_areNear_1 : decode cX9_areNear 1 = .ok (.iload_n 1, 1) := by decide +kernel
theorem dX9_areNear_2 : decode cX9_areNear 2 = .ok (.iload_n 3, 1) := by decide +kernel
theorem dX9_areNear_3 : decode cX9_areNear 3 = .ok (.invokevirtual 102, 3) := by decide +kernel
theorem dX9_areNear_6 : decode cX9_areNear 6 = .ok (.aload_n 0, 1) := by decide +kernel
theorem dX9_areNear_7 : decode cX9_areNear 7 = .ok (.iload_n 2, 1) := by decide +kernel
theorem dX9_areNear_8 : decode cX9_areNear 8 = .ok (.iload_n 3, 1) := by decide +kernel
theorem dX9_areNear_9 : decode cX9_areNear 9 = .ok (.invokevirtual 102, 3) := by decide +kernel
theorem dX9_areNear_12 : decode cX9_areNear 12 = .ok (.invokestatic 105, 3) := by decide +kernel
theorem dX9_areNear_15 : decode cX9_areNear 15 = .ok (.aload_n 0, 1) := by decide +kernel
theorem dX9_areNear_16 : decode cX9_areNear 16 = .ok (.getfield 13, 3) := by decide +kernel
theorem dX9_areNear_19 : decode cX9_areNear 19 = .ok (.bipush 40, 2) := by decide +kernel
theorem dX9_areNear_21 : decode cX9_areNear 21 = .ok (.iaload, 1) := by decide +kernel
theorem dX9_areNear_22 : decode cX9_areNear 22 = .ok (.aload_n 0, 1) := by decide +kernel
theorem dX9_areNear_23 : decode cX9_areNear 23 = .ok (.getfield 34, 3) := by decide +kernel
theorem dX9_areNear_26 : decode cX9_areNear 26 = .ok (.imul, 1) := by decide +kernel
theorem dX9_areNear_27 : decode cX9_areNear 27 = .ok (.if_icmp .ge 32, 3) := by decide +kernel
theorem dX9_areNear_30 : decode cX9_areNear 30 = .ok (.aload_n 0, 1) := by decide +kernel
theorem dX9_areNear_31 : decode cX9_areNear 31 = .ok (.iload_n 1, 1) := by decide +kernel
theorem dX9_areNear_32 : decode cX9_areNear 32 = .ok (.iload_n 3, 1) := by decide +kernel
theorem dX9_areNear_33 : decode cX9_areNear 33 = .ok (.invokevirtual 108, 3) := by decide +kernel
theorem dX9_areNear_36 : decode cX9_areNear 36 = .ok (.aload_n 0, 1) := by decide +kernel
theorem dX9_areNear_37 : decode cX9_areNear 37 = .ok (.iload_n 2, 1) := by decide +kernel
theorem dX9_areNear_38 : decode cX9_areNear 38 = .ok (.iload_n 3, 1) := by decide +kernel
theorem dX9_areNear_39 : decode cX9_areNear 39 = .ok (.invokevirtual 108, 3) := by decide +kernel
theorem dX9_areNear_42 : decode cX9_areNear 42 = .ok (.invokestatic 105, 3) := by decide +kernel
theorem dX9_areNear_45 : decode cX9_areNear 45 = .ok (.aload_n 0, 1) := by decide +kernel
theorem dX9_areNear_46 : decode cX9_areNear 46 = .ok (.getfield 13, 3) := by decide +kernel
theorem dX9_areNear_49 : decode cX9_areNear 49 = .ok (.bipush 41, 2) := by decide +kernel
theorem dX9_areNear_51 : decode cX9_areNear 51 = .ok (.iaload, 1) := by decide +kernel
theorem dX9_areNear_52 : decode cX9_areNear 52 = .ok (.if_icmp .ge 7, 3) := by decide +kernel
theorem dX9_areNear_55 : decode cX9_areNear 55 = .ok (.iconst 1, 1) := by decide +kernel
theorem dX9_areNear_56 : decode cX9_areNear 56 = .ok (.goto 4, 3) := by decide +kernel
theorem dX9_areNear_59 : decode cX9_areNear 59 = .ok (.iconst 0, 1) := by decide +kernel
theorem dX9_areNear_60 : decode cX9_areNear 60 = .ok (.ireturn, 1) := by decide +kernel
theorem dX9_near_0 : decode cX9_near 0 = .ok (.iconst 0, 1) := by decide +kernel
theorem dX9_near_1 : decode cX9_near 1 = .ok (.istore 4, 2) := by decide +kernel
theorem dX9_near_3 : decode cX9_near 3 = .ok (.iconst 0, 1) := by decide +kernel
theorem dX9_near_4 : decode cX9_near 4 = .ok (.istore 5, 2) := by decide +kernel
theorem dX9_near_6 : decode cX9_near 6 = .ok (.iload 5, 2) := by decide +kernel
theorem dX9_near_8 : decode cX9_near 8 = .ok (.aload_n 0, 1) := by decide +kernel
theorem dX9_near_9 : decode cX9_near 9 = .ok (.getfield 34, 3) := by decide +kernel
theorem dX9_near_12 : decode cX9_near 12 = .ok (.if_icmp .gt 30, 3) := by decide +kernel
theorem dX9_near_15 : decode cX9_near 15 = .ok (.aload_n 0, 1) := by decide +kernel
theorem dX9_near_16 : decode cX9_near 16 = .ok (.iload_n 1, 1) := by decide +kernel
theorem dX9_near_17 : decode cX9_near 17 = .ok (.iload_n 2, 1) := by decide +kernel
theorem dX9_near_18 : decode cX9_near 18 = .ok (.iload 5, 2) := by decide +kernel
theorem dX9_near_20 : decode cX9_near 20 = .ok (.invokevirtual 117, 3) := by decide +kernel
theorem dX9_near_23 : decode cX9_near 23 = .ok (.ifCond .eq 13, 3) := by decide +kernel
theorem dX9_near_26 : decode cX9_near 26 = .ok (.iload_n 3, 1) := by decide +kernel
theorem dX9_near_27 : decode cX9_near 27 = .ok (.ifCond .eq 6, 3) := by decide +kernel
theorem dX9_near_30 : decode cX9_near 30 = .ok (.iload 5, 2) := by decide +kernel
theorem dX9_near_32 : decode cX9_near 32 = .ok (.ireturn, 1) := by decide +kernel
theorem dX9_near_33 : decode cX9_near 33 = .ok (.iinc 4 1, 3) := by decide +kernel
theorem dX9_near_36 : decode cX9_near 36 = .ok (.iinc 5 1, 3) := by decide +kernel
theorem dX9_near_39 : decode cX9_near 39 = .ok (.goto (-33), 3) := by decide +kernel
theorem dX9_near_42 : decode cX9_near 42 = .ok (.iload_n 3, 1) := by decide +kernel
theorem dX9_near_43 : decode cX9_near 43 = .ok (.ifCond .eq 8, 3) := by decide +kernel
theorem dX9_near_46 : decode cX9_near 46 = .ok (.bipush (-4), 2) := by decide +kernel
theorem dX9_near_48 : decode cX9_near 48 = .ok (.goto 5, 3) := by decide +kernel
theorem dX9_near_51 : decode cX9_near 51 = .ok (.iload 4, 2) := by decide +kernel
theorem dX9_near_53 : decode cX9_near 53 = .ok (.ireturn, 1) := by decide +kernel
theorem dX9_cross_0 : decode cX9_cross 0 = .ok (.aload_n 0, 1) := by decide +kernel
theorem dX9_cross_1 : decode cX9_cross 1 = .ok (.iload_n 1, 1) := by decide +kernel
theorem dX9_cross_2 : decode cX9_cross 2 = .ok (.iconst 0, 1) := by decide +kernel
theorem dX9_cross_3 : decode cX9_cross 3 = .ok (.invokevirtual 102, 3) := by decide +kernel
theorem dX9_cross_6 : decode cX9_cross 6 = .ok (.aload_n 0, 1) := by decide +kernel
theorem dX9_cross_7 : decode cX9_cross 7 = .ok (.iload_n 2, 1) := by decide +kernel
theorem dX9_cross_8 : decode cX9_cross 8 = .ok (.iconst 0, 1) := by decide +kernel
theorem dX9_cross_9 : decode cX9_cross 9 = .ok (.invokevirtual 102, 3) := by decide +kernel
theorem dX9_cross_12 : decode cX9_cross 12 = .ok (.isub, 1) := by decide +kernel
theorem dX9_cross_13 : decode cX9_cross 13 = .ok (.istore_n 3, 1) := by decide +kernel
theorem dX9_cross_14 : decode cX9_cross 14 = .ok (.aload_n 0, 1) := by decide +kernel
theorem dX9_cross_15 : decode cX9_cross 15 = .ok (.iload_n 1, 1) := by decide +kernel
theorem dX9_cross_16 : decode cX9_cross 16 = .ok (.aload_n 0, 1) := by decide +kernel
theorem dX9_cross_17 : decode cX9_cross 17 = .ok (.getfield 34, 3) := by decide +kernel
theorem dX9_cross_20 : decode cX9_cross 20 = .ok (.invokevirtual 102, 3) := by decide +kernel
theorem dX9_cross_23 : decode cX9_cross 23 = .ok (.aload_n 0, 1) := by decide +kernel
theorem dX9_cross_24 : decode cX9_cross 24 = .ok (.iload_n 2, 1) := by decide +kernel
theorem dX9_cross_25 : decode cX9_cross 25 = .ok (.aload_n 0, 1) := by decide +kernel
theorem dX9_cross_26 : decode cX9_cross 26 = .ok (.getfield 34, 3) := by decide +kernel
theorem dX9_cross_29 : decode cX9_cross 29 = .ok (.invokevirtual 102, 3) := by decide +kernel
theorem dX9_cross_32 : decode cX9_cross 32 = .ok (.isub, 1) := by decide +kernel
theorem dX9_cross_33 : decode cX9_cross 33 = .ok (.istore 4, 2) := by decide +kernel
theorem dX9_cross_35 : decode cX9_cross 35 = .ok (.iload_n 3, 1) := by decide +kernel
theorem dX9_cross_36 : decode cX9_cross 36 = .ok (.ifCond .ge 8, 3) := by decide +kernel
theorem dX9_cross_39 : decode cX9_cross 39 = .ok (.iload 4, 2) := by decide +kernel
theorem dX9_cross_41 : decode cX9_cross 41 = .ok (.ifCond .gt 12, 3) := by decide +kernel
theorem dX9_cross_44 : decode cX9_cross 44 = .ok (.iload_n 3, 1) := by decide +kernel
theorem dX9_cross_45 : decode cX9_cross 45 = .ok (.ifCond .le 12, 3) := by decide +kernel
theorem dX9_cross_48 : decode cX9_cross 48 = .ok (.iload 4, 2) := by decide +kernel
theorem dX9_cross_50 : decode cX9_cross 50 = .ok (.ifCond .ge 7, 3) := by decide +kernel
theorem dX9_cross_53 : decode cX9_cross 53 = .ok (.iconst 1, 1) := by decide +kernel
theorem dX9_cross_54 : decode cX9_cross 54 = .ok (.goto 4, 3) := by decide +kernel
theorem dX9_cross_57 : decode cX9_cross 57 = .ok (.iconst 0, 1) := by decide +kernel
theorem dX9_cross_58 : decode cX9_cross 58 = .ok (.ireturn, 1) := by decide +kernel
theorem dX9_inWayAt_0 : decode cX9_inWayAt 0 = .ok (.aload_n 0, 1) := by decide +kernel
theorem dX9_inWayAt_1 : decode cX9_inWayAt 1 = .ok (.iload_n 1, 1) := by decide +kernel
theorem dX9_inWayAt_2 : decode cX9_inWayAt 2 = .ok (.iload_n 3, 1) := by decide +kernel
theorem dX9_inWayAt_3 : decode cX9_inWayAt 3 = .ok (.invokevirtual 108, 3) := by decide +kernel
theorem dX9_inWayAt_6 : decode cX9_inWayAt 6 = .ok (.istore 4, 2) := by decide +kernel
theorem dX9_inWayAt_8 : decode cX9_inWayAt 8 = .ok (.aload_n 0, 1) := by decide +kernel
theorem dX9_inWayAt_9 : decode cX9_inWayAt 9 = .ok (.iload_n 1, 1) := by decide +kernel
theorem dX9_inWayAt_10 : decode cX9_inWayAt 10 = .ok (.iload_n 3, 1) := by decide +kernel
theorem dX9_inWayAt_11 : decode cX9_inWayAt 11 = .ok (.invokevirtual 102, 3) := by decide +kernel
theorem dX9_inWayAt_14 : decode cX9_inWayAt 14 = .ok (.istore 5, 2) := by decide +kernel
theorem dX9_inWayAt_16 : decode cX9_inWayAt 16 = .ok (.iconst 0, 1) := by decide +kernel
theorem dX9_inWayAt_17 : decode cX9_inWayAt 17 = .ok (.istore 6, 2) := by decide +kernel
theorem dX9_inWayAt_19 : decode cX9_inWayAt 19 = .ok (.iload 6, 2) := by decide +kernel
theorem dX9_inWayAt_21 : decode cX9_inWayAt 21 = .ok (.aload_n 0, 1) := by decide +kernel
theorem dX9_inWayAt_22 : decode cX9_inWayAt 22 = .ok (.getfield 34, 3) := by decide +kernel
theorem dX9_inWayAt_25 : decode cX9_inWayAt 25 = .ok (.if_icmp .gt 79, 3) := by decide +kernel
theorem dX9_inWayAt_28 : decode cX9_inWayAt 28 = .ok (.aload_n 0, 1) := by decide +kernel
theorem dX9_inWayAt_29 : decode cX9_inWayAt 29 = .ok (.iload_n 2, 1) := by decide +kernel
theorem dX9_inWayAt_30 : decode cX9_inWayAt 30 = .ok (.iload 6, 2) := by decide +kernel
theorem dX9_inWayAt_32 : decode cX9_inWayAt 32 = .ok (.invokevirtual 108, 3) := by decide +kernel
theorem dX9_inWayAt_35 : decode cX9_inWayAt 35 = .ok (.iload 4, 2) := by decide +kernel
theorem dX9_inWayAt_37 : decode cX9_inWayAt 37 = .ok (.isub, 1) := by decide +kernel
theorem dX9_inWayAt_38 : decode cX9_inWayAt 38 = .ok (.istore 7, 2) := by decide +kernel
theorem dX9_inWayAt_40 : decode cX9_inWayAt 40 = .ok (.iconst 2, 1) := by decide +kernel
theorem dX9_inWayAt_41 : decode cX9_inWayAt 41 = .ok (.aload_n 0, 1) := by decide +kernel
theorem dX9_inWayAt_42 : decode cX9_inWayAt 42 = .ok (.getfield 13, 3) := by decide +kernel
theorem dX9_inWayAt_45 : decode cX9_inWayAt 45 = .ok (.bipush 42, 2) := by decide +kernel
theorem dX9_inWayAt_47 : decode cX9_inWayAt 47 = .ok (.iaload, 1) := by decide +kernel
theorem dX9_inWayAt_48 : decode cX9_inWayAt 48 = .ok (.imul, 1) := by decide +kernel
theorem dX9_inWayAt_49 : decode cX9_inWayAt 49 = .ok (.iload 7, 2) := by decide +kernel
theorem dX9_inWayAt_51 : decode cX9_inWayAt 51 = .ok (.iadd, 1) := by decide +kernel
theorem dX9_inWayAt_52 : decode cX9_inWayAt 52 = .ok (.istore 8, 2) := by decide +kernel
theorem dX9_inWayAt_54 : decode cX9_inWayAt 54 = .ok (.iload 7, 2) := by decide +kernel
theorem dX9_inWayAt_56 : decode cX9_inWayAt 56 = .ok (.ifCond .lt 42, 3) := by decide +kernel
theorem dX9_inWayAt_59 : decode cX9_inWayAt 59 = .ok (.iconst 2, 1) := by decide +kernel
theorem dX9_inWayAt_60 : decode cX9_inWayAt 60 = .ok (.iload 6, 2) := by decide +kernel
theorem dX9_inWayAt_62 : decode cX9_inWayAt 62 = .ok (.iload_n 3, 1) := by decide +kernel
theorem dX9_inWayAt_63 : decode cX9_inWayAt 63 = .ok (.invokestatic 105, 3) := by decide +kernel
theorem dX9_inWayAt_66 : decode cX9_inWayAt 66 = .ok (.imul, 1) := by decide +kernel
theorem dX9_inWayAt_67 : decode cX9_inWayAt 67 = .ok (.iload 8, 2) := by decide +kernel
theorem dX9_inWayAt_69 : decode cX9_inWayAt 69 = .ok (.if_icmp .ge 29, 3) := by decide +kernel
theorem dX9_inWayAt_72 : decode cX9_inWayAt 72 = .ok (.iconst 2, 1) := by decide +kernel
theorem dX9_inWayAt_73 : decode cX9_inWayAt 73 = .ok (.aload_n 0, 1) := by decide +kernel
theorem dX9_inWayAt_74 : decode cX9_inWayAt 74 = .ok (.iload_n 2, 1) := by decide +kernel
theorem dX9_inWayAt_75 : decode cX9_inWayAt 75 = .ok (.iload 6, 2) := by decide +kernel
theorem dX9_inWayAt_77 : decode cX9_inWayAt 77 = .ok (.invokevirtual 102, 3) := by decide +kernel
theorem dX9_inWayAt_80 : decode cX9_inWayAt 80 = .ok (.iload 5, 2) := by decide +kernel
theorem dX9_inWayAt_82 : decode cX9_inWayAt 82 = .ok (.invokestatic 105, 3) := by decide +kernel
theorem dX9_inWayAt_85 : decode cX9_inWayAt 85 = .ok (.imul, 1) := by decide +kernel
theorem dX9_inWayAt_86 : decode cX9_inWayAt 86 = .ok (.aload_n 0, 1) := by decide +kernel
theorem dX9_inWayAt_87 : decode cX9_inWayAt 87 = .ok (.getfield 34, 3) := by decide +kernel
theorem dX9_inWayAt_90 : decode cX9_inWayAt 90 = .ok (.iload 8, 2) := by decide +kernel
theorem dX9_inWayAt_92 : decode cX9_inWayAt 92 = .ok (.imul, 1) := by decide +kernel
theorem dX9_inWayAt_93 : decode cX9_inWayAt 93 = .ok (.if_icmp .ge 5, 3) := by decide +kernel
theorem dX9_inWayAt_96 : decode cX9_inWayAt 96 = .ok (.iconst 1, 1) := by decide +kernel
theorem dX9_inWayAt_97 : decode cX9_inWayAt 97 = .ok (.ireturn, 1) := by decide +kernel
theorem dX9_inWayAt_98 : decode cX9_inWayAt 98 = .ok (.iinc 6 1, 3) := by decide +kernel
theorem dX9_inWayAt_101 : decode cX9_inWayAt 101 = .ok (.goto (-82), 3) := by decide +kernel
theorem dX9_inWayAt_104 : decode cX9_inWayAt 104 = .ok (.iconst 0, 1) := by decide +kernel
theorem dX9_inWayAt_105 : decode cX9_inWayAt 105 = .ok (.ireturn, 1) := by decide +kernel
theorem dX9_inWay_0 : decode cX9_inWay 0 = .ok (.aload_n 0, 1) := by decide +kernel
theorem dX9_inWay_1 : decode cX9_inWay 1 = .ok (.iload_n 1, 1) := by decide +kernel
theorem dX9_inWay_2 : decode cX9_inWay 2 = .ok (.iload_n 2, 1) := by decide +kernel
theorem dX9_inWay_3 : decode cX9_inWay 3 = .ok (.iconst 0, 1) := by decide +kernel
theorem dX9_inWay_4 : decode cX9_inWay 4 = .ok (.invokevirtual 120, 3) := by decide +kernel
theorem dX9_inWay_7 : decode cX9_inWay 7 = .ok (.ifCond .ne 16, 3) := by decide +kernel
theorem dX9_inWay_10 : decode cX9_inWay 10 = .ok (.aload_n 0, 1) := by decide +kernel
theorem dX9_inWay_11 : decode cX9_inWay 11 = .ok (.iload_n 1, 1) := by decide +kernel
theorem dX9_inWay_12 : decode cX9_inWay 12 = .ok (.iload_n 2, 1) := by decide +kernel
theorem dX9_inWay_13 : decode cX9_inWay 13 = .ok (.aload_n 0, 1) := by decide +kernel
theorem dX9_inWay_14 : decode cX9_inWay 14 = .ok (.getfield 34, 3) := by decide +kernel
theorem dX9_inWay_17 : decode cX9_inWay 17 = .ok (.invokevirtual 120, 3) := by decide +kernel
theorem dX9_inWay_20 : decode cX9_inWay 20 = .ok (.ifCond .eq 7, 3) := by decide +kernel
theorem dX9_inWay_23 : decode cX9_inWay 23 = .ok (.iconst 1, 1) := by decide +kernel
theorem dX9_inWay_24 : decode cX9_inWay 24 = .ok (.goto 4, 3) := by decide +kernel
theorem dX9_inWay_27 : decode cX9_inWay 27 = .ok (.iconst 0, 1) := by decide +kernel
theorem dX9_inWay_28 : decode cX9_inWay 28 = .ok (.ireturn, 1) := by decide +kernel
theorem dX9_pair_0 : decode cX9_pair 0 = .ok (.aload_n 0, 1) := by decide +kernel
theorem dX9_pair_1 : decode cX9_pair 1 = .ok (.iload_n 1, 1) := by decide +kernel
theorem dX9_pair_2 : decode cX9_pair 2 = .ok (.invokevirtual 94, 3) := by decide +kernel
theorem dX9_pair_5 : decode cX9_pair 5 = .ok (.ifCond .eq 25, 3) := by decide +kernel
theorem dX9_pair_8 : decode cX9_pair 8 = .ok (.aload_n 0, 1) := by decide +kernel
theorem dX9_pair_9 : decode cX9_pair 9 = .ok (.iload_n 2, 1) := by decide +kernel
theorem dX9_pair_10 : decode cX9_pair 10 = .ok (.invokevirtual 94, 3) := by decide +kernel
theorem dX9_pair_13 : decode cX9_pair 13 = .ok (.ifCond .eq 17, 3) := by decide +kernel
theorem dX9_pair_16 : decode cX9_pair 16 = .ok (.iload_n 1, 1) := by decide +kernel
theorem dX9_pair_17 : decode cX9_pair 17 = .ok (.iload_n 2, 1) := by decide +kernel
theorem dX9_pair_18 : decode cX9_pair 18 = .ok (.if_icmp .eq 12, 3) := by decide +kernel
theorem dX9_pair_21 : decode cX9_pair 21 = .ok (.iload_n 3, 1) := by decide +kernel
theorem dX9_pair_22 : decode cX9_pair 22 = .ok (.iconst 0, 1) := by decide +kernel
theorem dX9_pair_23 : decode cX9_pair 23 = .ok (.iconst 3, 1) := by decide +kernel
theorem dX9_pair_24 : decode cX9_pair 24 = .ok (.invokestatic 54, 3) := by decide +kernel
theorem dX9_pair_27 : decode cX9_pair 27 = .ok (.ifCond .ne 5, 3) := by decide +kernel
theorem dX9_pair_30 : decode cX9_pair 30 = .ok (.iconst (-1), 1) := by decide +kernel
theorem dX9_pair_31 : decode cX9_pair 31 = .ok (.ireturn, 1) := by decide +kernel
theorem dX9_pair_32 : decode cX9_pair 32 = .ok (.iload_n 3, 1) := by decide +kernel
theorem dX9_pair_33 : decode cX9_pair 33 = .ok (.tableswitch 58 0 2 #[27, 35, 43], 27) := by decide +kernel
theorem dX9_pair_60 : decode cX9_pair 60 = .ok (.aload_n 0, 1) := by decide +kernel
theorem dX9_pair_61 : decode cX9_pair 61 = .ok (.iload_n 1, 1) := by decide +kernel
theorem dX9_pair_62 : decode cX9_pair 62 = .ok (.iload_n 2, 1) := by decide +kernel
theorem dX9_pair_63 : decode cX9_pair 63 = .ok (.iconst 1, 1) := by decide +kernel
theorem dX9_pair_64 : decode cX9_pair 64 = .ok (.invokevirtual 123, 3) := by decide +kernel
theorem dX9_pair_67 : decode cX9_pair 67 = .ok (.ireturn, 1) := by decide +kernel
theorem dX9_pair_68 : decode cX9_pair 68 = .ok (.aload_n 0, 1) := by decide +kernel
theorem dX9_pair_69 : decode cX9_pair 69 = .ok (.iload_n 1, 1) := by decide +kernel
theorem dX9_pair_70 : decode cX9_pair 70 = .ok (.iload_n 2, 1) := by decide +kernel
theorem dX9_pair_71 : decode cX9_pair 71 = .ok (.iconst 0, 1) := by decide +kernel
theorem dX9_pair_72 : decode cX9_pair 72 = .ok (.invokevirtual 123, 3) := by decide +kernel
theorem dX9_pair_75 : decode cX9_pair 75 = .ok (.ireturn, 1) := by decide +kernel
theorem dX9_pair_76 : decode cX9_pair 76 = .ok (.aload_n 0, 1) := by decide +kernel
theorem dX9_pair_77 : decode cX9_pair 77 = .ok (.iload_n 1, 1) := by decide +kernel
theorem dX9_pair_78 : decode cX9_pair 78 = .ok (.iload_n 2, 1) := by decide +kernel
theorem dX9_pair_79 : decode cX9_pair 79 = .ok (.invokevirtual 127, 3) := by decide +kernel
theorem dX9_pair_82 : decode cX9_pair 82 = .ok (.ifCond .eq 7, 3) := by decide +kernel
theorem dX9_pair_85 : decode cX9_pair 85 = .ok (.iconst 1, 1) := by decide +kernel
theorem dX9_pair_86 : decode cX9_pair 86 = .ok (.goto 4, 3) := by decide +kernel
theorem dX9_pair_89 : decode cX9_pair 89 = .ok (.iconst 0, 1) := by decide +kernel
theorem dX9_pair_90 : decode cX9_pair 90 = .ok (.ireturn, 1) := by decide +kernel
theorem dX9_pair_91 : decode cX9_pair 91 = .ok (.aload_n 0, 1) := by decide +kernel
theorem dX9_pair_92 : decode cX9_pair 92 = .ok (.iload_n 1, 1) := by decide +kernel
theorem dX9_pair_93 : decode cX9_pair 93 = .ok (.iload_n 2, 1) := by decide +kernel
theorem dX9_pair_94 : decode cX9_pair 94 = .ok (.invokevirtual 130, 3) := by decide +kernel
theorem dX9_pair_97 : decode cX9_pair 97 = .ok (.ifCond .eq 7, 3) := by decide +kernel
theorem dX9_pair_100 : decode cX9_pair 100 = .ok (.iconst 1, 1) := by decide +kernel
theorem dX9_pair_101 : decode cX9_pair 101 = .ok (.goto 4, 3) := by decide +kernel
theorem dX9_pair_104 : decode cX9_pair 104 = .ok (.iconst 0, 1) := by decide +kernel
theorem dX9_pair_105 : decode cX9_pair 105 = .ok (.ireturn, 1) := by decide +kernel
theorem dX9_bits_0 : decode cX9_bits 0 = .ok (.iconst 0, 1) := by decide +kernel
theorem dX9_bits_1 : decode cX9_bits 1 = .ok (.istore_n 1, 1) := by decide +kernel
theorem dX9_bits_2 : decode cX9_bits 2 = .ok (.iconst 0, 1) := by decide +kernel
theorem dX9_bits_3 : decode cX9_bits 3 = .ok (.istore_n 2, 1) := by decide +kernel
theorem dX9_bits_4 : decode cX9_bits 4 = .ok (.iload_n 2, 1) := by decide +kernel
theorem dX9_bits_5 : decode cX9_bits 5 = .ok (.bipush 19, 2) := by decide +kernel
theorem dX9_bits_7 : decode cX9_bits 7 = .ok (.if_icmp .ge 17, 3) := by decide +kernel
theorem dX9_bits_10 : decode cX9_bits 10 = .ok (.iload_n 1, 1) := by decide +kernel
theorem dX9_bits_11 : decode cX9_bits 11 = .ok (.iload_n 0, 1) := by decide +kernel
theorem dX9_bits_12 : decode cX9_bits 12 = .ok (.iload_n 2, 1) := by decide +kernel
theorem dX9_bits_13 : decode cX9_bits 13 = .ok (.ishr, 1) := by decide +kernel
theorem dX9_bits_14 : decode cX9_bits 14 = .ok (.iconst 1, 1) := by decide +kernel
theorem dX9_bits_15 : decode cX9_bits 15 = .ok (.iand, 1) := by decide +kernel
theorem dX9_bits_16 : decode cX9_bits 16 = .ok (.iadd, 1) := by decide +kernel
theorem dX9_bits_17 : decode cX9_bits 17 = .ok (.istore_n 1, 1) := by decide +kernel
theorem dX9_bits_18 : decode cX9_bits 18 = .ok (.iinc 2 1, 3) := by decide +kernel
theorem dX9_bits_21 : decode cX9_bits 21 = .ok (.goto (-17), 3) := by decide +kernel
theorem dX9_bits_24 : decode cX9_bits 24 = .ok (.iload_n 1, 1) := by decide +kernel
theorem dX9_bits_25 : decode cX9_bits 25 = .ok (.ireturn, 1) := by decide +kernel
theorem dX9_isBarred_0 : decode cX9_isBarred 0 = .ok (.iconst 0, 1) := by decide +kernel
theorem dX9_isBarred_1 : decode cX9_isBarred 1 = .ok (.istore_n 3, 1) := by decide +kernel
theorem dX9_isBarred_2 : decode cX9_isBarred 2 = .ok (.iconst 0, 1) := by decide +kernel
theorem dX9_isBarred_3 : decode cX9_isBarred 3 = .ok (.istore 4, 2) := by decide +kernel
theorem dX9_isBarred_5 : decode cX9_isBarred 5 = .ok (.iload 4, 2) := by decide +kernel
theorem dX9_isBarred_7 : decode cX9_isBarred 7 = .ok (.aload_n 0, 1) := by decide +kernel
theorem dX9_isBarred_8 : decode cX9_isBarred 8 = .ok (.getfield 38, 3) := by decide +kernel
theorem dX9_isBarred_11 : decode cX9_isBarred 11 = .ok (.if_icmp .ge 45, 3) := by decide +kernel
theorem dX9_isBarred_14 : decode cX9_isBarred 14 = .ok (.iload_n 3, 1) := by decide +kernel
theorem dX9_isBarred_15 : decode cX9_isBarred 15 = .ok (.ifCond .ne 29, 3) := by decide +kernel
theorem dX9_isBarred_18 : decode cX9_isBarred 18 = .ok (.iload 4, 2) := by decide +kernel
theorem dX9_isBarred_20 : decode cX9_isBarred 20 = .ok (.iload_n 1, 1) := by decide +kernel
theorem dX9_isBarred_21 : decode cX9_isBarred 21 = .ok (.if_icmp .eq 27, 3) := by decide +kernel
theorem dX9_isBarred_24 : decode cX9_isBarred 24 = .ok (.iload_n 2, 1) := by decide +kernel
theorem dX9_isBarred_25 : decode cX9_isBarred 25 = .ok (.iload 4, 2) := by decide +kernel
theorem dX9_isBarred_27 : decode cX9_isBarred 27 = .ok (.ishr, 1) := by decide +kernel
theorem dX9_isBarred_28 : decode cX9_isBarred 28 = .ok (.iconst 1, 1) := by decide +kernel
theorem dX9_isBarred_29 : decode cX9_isBarred 29 = .ok (.iand, 1) := by decide +kernel
theorem dX9_isBarred_30 : decode cX9_isBarred 30 = .ok (.iconst 1, 1) := by decide +kernel
theorem dX9_isBarred_31 : decode cX9_isBarred 31 = .ok (.if_icmp .ne 17, 3) := by decide +kernel
theorem dX9_isBarred_34 : decode cX9_isBarred 34 = .ok (.aload_n 0, 1) := by decide +kernel
theorem dX9_isBarred_35 : decode cX9_isBarred 35 = .ok (.iload_n 1, 1) := by decide +kernel
theorem dX9_isBarred_36 : decode cX9_isBarred 36 = .ok (.iload 4, 2) := by decide +kernel
theorem dX9_isBarred_38 : decode cX9_isBarred 38 = .ok (.invokevirtual 130, 3) := by decide +kernel
theorem dX9_isBarred_41 : decode cX9_isBarred 41 = .ok (.ifCond .eq 7, 3) := by decide +kernel
theorem dX9_isBarred_44 : decode cX9_isBarred 44 = .ok (.iconst 1, 1) := by decide +kernel
theorem dX9_isBarred_45 : decode cX9_isBarred 45 = .ok (.goto 4, 3) := by decide +kernel
theorem dX9_isBarred_48 : decode cX9_isBarred 48 = .ok (.iconst 0, 1) := by decide +kernel
theorem dX9_isBarred_49 : decode cX9_isBarred 49 = .ok (.istore_n 3, 1) := by decide +kernel
theorem dX9_isBarred_50 : decode cX9_isBarred 50 = .ok (.iinc 4 1, 3) := by decide +kernel
theorem dX9_isBarred_53 : decode cX9_isBarred 53 = .ok (.goto (-48), 3) := by decide +kernel
theorem dX9_isBarred_56 : decode cX9_isBarred 56 = .ok (.iload_n 3, 1) := by decide +kernel
theorem dX9_isBarred_57 : decode cX9_isBarred 57 = .ok (.ireturn, 1) := by decide +kernel
theorem dX9_bond_0 : decode cX9_bond 0 = .ok (.aload_n 0, 1) := by decide +kernel
theorem dX9_bond_1 : decode cX9_bond 1 = .ok (.iload_n 1, 1) := by decide +kernel
theorem dX9_bond_2 : decode cX9_bond 2 = .ok (.invokevirtual 94, 3) := by decide +kernel
theorem dX9_bond_5 : decode cX9_bond 5 = .ok (.ifCond .ne 5, 3) := by decide +kernel
theorem dX9_bond_8 : decode cX9_bond 8 = .ok (.iconst (-1), 1) := by decide +kernel
theorem dX9_bond_9 : decode cX9_bond 9 = .ok (.ireturn, 1) := by decide +kernel
theorem dX9_bond_10 : decode cX9_bond 10 = .ok (.aload_n 0, 1) := by decide +kernel
theorem dX9_bond_11 : decode cX9_bond 11 = .ok (.getfield 13, 3) := by decide +kernel
theorem dX9_bond_14 : decode cX9_bond 14 = .ok (.bipush 44, 2) := by decide +kernel
theorem dX9_bond_16 : decode cX9_bond 16 = .ok (.iaload, 1) := by decide +kernel
theorem dX9_bond_17 : decode cX9_bond 17 = .ok (.iload_n 1, 1) := by decide +kernel
theorem dX9_bond_18 : decode cX9_bond 18 = .ok (.ishr, 1) := by decide +kernel
theorem dX9_bond_19 : decode cX9_bond 19 = .ok (.iconst 1, 1) := by decide +kernel
theorem dX9_bond_20 : decode cX9_bond 20 = .ok (.iand, 1) := by decide +kernel
theorem dX9_bond_21 : decode cX9_bond 21 = .ok (.iconst 1, 1) := by decide +kernel
theorem dX9_bond_22 : decode cX9_bond 22 = .ok (.if_icmp .eq 18, 3) := by decide +kernel
theorem dX9_bond_25 : decode cX9_bond 25 = .ok (.aload_n 0, 1) := by decide +kernel
theorem dX9_bond_26 : decode cX9_bond 26 = .ok (.iload_n 1, 1) := by decide +kernel
theorem dX9_bond_27 : decode cX9_bond 27 = .ok (.aload_n 0, 1) := by decide +kernel
theorem dX9_bond_28 : decode cX9_bond 28 = .ok (.getfield 13, 3) := by decide +kernel
theorem dX9_bond_31 : decode cX9_bond 31 = .ok (.bipush 44, 2) := by decide +kernel
theorem dX9_bond_33 : decode cX9_bond 33 = .ok (.iaload, 1) := by decide +kernel
theorem dX9_bond_34 : decode cX9_bond 34 = .ok (.invokevirtual 133, 3) := by decide +kernel
theorem dX9_bond_37 : decode cX9_bond 37 = .ok (.ifCond .eq 6, 3) := by decide +kernel
theorem dX9_bond_40 : decode cX9_bond 40 = .ok (.bipush (-2), 2) := by decide +kernel
theorem dX9_bond_42 : decode cX9_bond 42 = .ok (.ireturn, 1) := by decide +kernel
theorem dX9_bond_43 : decode cX9_bond 43 = .ok (.aload_n 0, 1) := by decide +kernel
theorem dX9_bond_44 : decode cX9_bond 44 = .ok (.invokevirtual 91, 3) := by decide +kernel
theorem dX9_bond_47 : decode cX9_bond 47 = .ok (.aload_n 0, 1) := by decide +kernel
theorem dX9_bond_48 : decode cX9_bond 48 = .ok (.getfield 13, 3) := by decide +kernel
theorem dX9_bond_51 : decode cX9_bond 51 = .ok (.bipush 44, 2) := by decide +kernel
theorem dX9_bond_53 : decode cX9_bond 53 = .ok (.dup2, 1) := by decide +kernel
theorem dX9_bond_54 : decode cX9_bond 54 = .ok (.iaload, 1) := by decide +kernel
theorem dX9_bond_55 : decode cX9_bond 55 = .ok (.iconst 1, 1) := by decide +kernel
theorem dX9_bond_56 : decode cX9_bond 56 = .ok (.iload_n 1, 1) := by decide +kernel
theorem dX9_bond_57 : decode cX9_bond 57 = .ok (.ishl, 1) := by decide +kernel
theorem dX9_bond_58 : decode cX9_bond 58 = .ok (.ior, 1) := by decide +kernel
theorem dX9_bond_59 : decode cX9_bond 59 = .ok (.iastore, 1) := by decide +kernel
theorem dX9_bond_60 : decode cX9_bond 60 = .ok (.aload_n 0, 1) := by decide +kernel
theorem dX9_bond_61 : decode cX9_bond 61 = .ok (.getfield 13, 3) := by decide +kernel
theorem dX9_bond_64 : decode cX9_bond 64 = .ok (.bipush 44, 2) := by decide +kernel
theorem dX9_bond_66 : decode cX9_bond 66 = .ok (.iaload, 1) := by decide +kernel
theorem dX9_bond_67 : decode cX9_bond 67 = .ok (.invokestatic 136, 3) := by decide +kernel
theorem dX9_bond_70 : decode cX9_bond 70 = .ok (.ireturn, 1) := by decide +kernel
theorem dX9_take_0 : decode cX9_take 0 = .ok (.aload_n 0, 1) := by decide +kernel
theorem dX9_take_1 : decode cX9_take 1 = .ok (.iload_n 1, 1) := by decide +kernel
theorem dX9_take_2 : decode cX9_take 2 = .ok (.invokevirtual 94, 3) := by decide +kernel
theorem dX9_take_5 : decode cX9_take 5 = .ok (.ifCond .ne 5, 3) := by decide +kernel
theorem dX9_take_8 : decode cX9_take 8 = .ok (.iconst (-1), 1) := by decide +kernel
theorem dX9_take_9 : decode cX9_take 9 = .ok (.ireturn, 1) := by decide +kernel
theorem dX9_take_10 : decode cX9_take 10 = .ok (.aload_n 0, 1) := by decide +kernel
theorem dX9_take_11 : decode cX9_take 11 = .ok (.getfield 13, 3) := by decide +kernel
theorem dX9_take_14 : decode cX9_take 14 = .ok (.bipush 44, 2) := by decide +kernel
theorem dX9_take_16 : decode cX9_take 16 = .ok (.iaload, 1) := by decide +kernel
theorem dX9_take_17 : decode cX9_take 17 = .ok (.iload_n 1, 1) := by decide +kernel
theorem dX9_take_18 : decode cX9_take 18 = .ok (.ishr, 1) := by decide +kernel
theorem dX9_take_19 : decode cX9_take 19 = .ok (.iconst 1, 1) := by decide +kernel
theorem dX9_take_20 : decode cX9_take 20 = .ok (.iand, 1) := by decide +kernel
theorem dX9_take_21 : decode cX9_take 21 = .ok (.ifCond .ne 6, 3) := by decide +kernel
theorem dX9_take_24 : decode cX9_take 24 = .ok (.bipush (-2), 2) := by decide +kernel
theorem dX9_take_26 : decode cX9_take 26 = .ok (.ireturn, 1) := by decide +kernel
theorem dX9_take_27 : decode cX9_take 27 = .ok (.aload_n 0, 1) := by decide +kernel
theorem dX9_take_28 : decode cX9_take 28 = .ok (.invokevirtual 91, 3) := by decide +kernel
theorem dX9_take_31 : decode cX9_take 31 = .ok (.aload_n 0, 1) := by decide +kernel
theorem dX9_take_32 : decode cX9_take 32 = .ok (.getfield 13, 3) := by decide +kernel
theorem dX9_take_35 : decode cX9_take 35 = .ok (.bipush 44, 2) := by decide +kernel
theorem dX9_take_37 : decode cX9_take 37 = .ok (.dup2, 1) := by decide +kernel
theorem dX9_take_38 : decode cX9_take 38 = .ok (.iaload, 1) := by decide +kernel
theorem dX9_take_39 : decode cX9_take 39 = .ok (.iconst 1, 1) := by decide +kernel
theorem dX9_take_40 : decode cX9_take 40 = .ok (.iload_n 1, 1) := by decide +kernel
theorem dX9_take_41 : decode cX9_take 41 = .ok (.ishl, 1) := by decide +kernel
theorem dX9_take_42 : decode cX9_take 42 = .ok (.isub, 1) := by decide +kernel
theorem dX9_take_43 : decode cX9_take 43 = .ok (.iastore, 1) := by decide +kernel
theorem dX9_take_44 : decode cX9_take 44 = .ok (.aload_n 0, 1) := by decide +kernel
theorem dX9_take_45 : decode cX9_take 45 = .ok (.getfield 13, 3) := by decide +kernel
theorem dX9_take_48 : decode cX9_take 48 = .ok (.bipush 44, 2) := by decide +kernel
theorem dX9_take_50 : decode cX9_take 50 = .ok (.iaload, 1) := by decide +kernel
theorem dX9_take_51 : decode cX9_take 51 = .ok (.invokestatic 136, 3) := by decide +kernel
theorem dX9_take_54 : decode cX9_take 54 = .ok (.ireturn, 1) := by decide +kernel
theorem dX9_ready_0 : decode cX9_ready 0 = .ok (.iconst 0, 1) := by decide +kernel
theorem dX9_ready_1 : decode cX9_ready 1 = .ok (.istore_n 1, 1) := by decide +kernel
theorem dX9_ready_2 : decode cX9_ready 2 = .ok (.iconst 0, 1) := by decide +kernel
theorem dX9_ready_3 : decode cX9_ready 3 = .ok (.istore_n 2, 1) := by decide +kernel
theorem dX9_ready_4 : decode cX9_ready 4 = .ok (.iload_n 2, 1) := by decide +kernel
theorem dX9_ready_5 : decode cX9_ready 5 = .ok (.aload_n 0, 1) := by decide +kernel
theorem dX9_ready_6 : decode cX9_ready 6 = .ok (.getfield 38, 3) := by decide +kernel
theorem dX9_ready_9 : decode cX9_ready 9 = .ok (.if_icmp .ge 48, 3) := by decide +kernel
theorem dX9_ready_12 : decode cX9_ready 12 = .ok (.iload_n 1, 1) := by decide +kernel
theorem dX9_ready_13 : decode cX9_ready 13 = .ok (.aload_n 0, 1) := by decide +kernel
theorem dX9_ready_14 : decode cX9_ready 14 = .ok (.getfield 13, 3) := by decide +kernel
theorem dX9_ready_17 : decode cX9_ready 17 = .ok (.bipush 44, 2) := by decide +kernel
theorem dX9_ready_19 : decode cX9_ready 19 = .ok (.iaload, 1) := by decide +kernel
theorem dX9_ready_20 : decode cX9_ready 20 = .ok (.iload_n 2, 1) := by decide +kernel
theorem dX9_ready_21 : decode cX9_ready 21 = .ok (.ishr, 1) := by decide +kernel
theorem dX9_ready_22 : decode cX9_ready 22 = .ok (.iconst 1, 1) := by decide +kernel
theorem dX9_ready_23 : decode cX9_ready 23 = .ok (.iand, 1) := by decide +kernel
theorem dX9_ready_24 : decode cX9_ready 24 = .ok (.ifCond .ne 24, 3) := by decide +kernel
theorem dX9_ready_27 : decode cX9_ready 27 = .ok (.aload_n 0, 1) := by decide +kernel
theorem dX9_ready_28 : decode cX9_ready 28 = .ok (.iload_n 2, 1) := by decide +kernel
theorem dX9_ready_29 : decode cX9_ready 29 = .ok (.aload_n 0, 1) := by decide +kernel
theorem dX9_ready_30 : decode cX9_ready 30 = .ok (.getfield 13, 3) := by decide +kernel
theorem dX9_ready_33 : decode cX9_ready 33 = .ok (.bipush 44, 2) := by decide +kernel
theorem dX9_ready_35 : decode cX9_ready 35 = .ok (.iaload, 1) := by decide +kernel
theorem dX9_ready_36 : decode cX9_ready 36 = .ok (.invokevirtual 133, 3) := by decide +kernel
theorem dX9_ready_39 : decode cX9_ready 39 = .ok (.ifCond .ne 9, 3) := by decide +kernel
theorem dX9_ready_42 : decode cX9_ready 42 = .ok (.iconst 1, 1) := by decide +kernel
theorem dX9_ready_43 : decode cX9_ready 43 = .ok (.iload_n 2, 1) := by decide +kernel
theorem dX9_ready_44 : decode cX9_ready 44 = .ok (.ishl, 1) := by decide +kernel
theorem dX9_ready_45 : decode cX9_ready 45 = .ok (.goto 4, 3) := by decide +kernel
theorem dX9_ready_48 : decode cX9_ready 48 = .ok (.iconst 0, 1) := by decide +kernel
theorem dX9_ready_49 : decode cX9_ready 49 = .ok (.ior, 1) := by decide +kernel
theorem dX9_ready_50 : decode cX9_ready 50 = .ok (.istore_n 1, 1) := by decide +kernel
theorem dX9_ready_51 : decode cX9_ready 51 = .ok (.iinc 2 1, 3) := by decide +kernel
theorem dX9_ready_54 : decode cX9_ready 54 = .ok (.goto (-50), 3) := by decide +kernel
theorem dX9_ready_57 : decode cX9_ready 57 = .ok (.iload_n 1, 1) := by decide +kernel
theorem dX9_ready_58 : decode cX9_ready 58 = .ok (.ireturn, 1) := by decide +kernel
theorem dX9_lays_0 : decode cX9_lays 0 = .ok (.iconst 0, 1) := by decide +kernel
theorem dX9_lays_1 : decode cX9_lays 1 = .ok (.istore_n 1, 1) := by decide +kernel
theorem dX9_lays_2 : decode cX9_lays 2 = .ok (.iload_n 1, 1) := by decide +kernel
theorem dX9_lays_3 : decode cX9_lays 3 = .ok (.aload_n 0, 1) := by decide +kernel
theorem dX9_lays_4 : decode cX9_lays 4 = .ok (.getfield 38, 3) := by decide +kernel
theorem dX9_lays_7 : decode cX9_lays 7 = .ok (.if_icmp .ge 62, 3) := by decide +kernel
theorem dX9_lays_10 : decode cX9_lays 10 = .ok (.aload_n 0, 1) := by decide +kernel
theorem dX9_lays_11 : decode cX9_lays 11 = .ok (.getfield 28, 3) := by decide +kernel
theorem dX9_lays_14 : decode cX9_lays 14 = .ok (.iload_n 1, 1) := by decide +kernel
theorem dX9_lays_15 : decode cX9_lays 15 = .ok (.iconst 0, 1) := by decide +kernel
theorem dX9_lays_16 : decode cX9_lays 16 = .ok (.iastore, 1) := by decide +kernel
theorem dX9_lays_17 : decode cX9_lays 17 = .ok (.iconst 0, 1) := by decide +kernel
theorem dX9_lays_18 : decode cX9_lays 18 = .ok (.istore_n 2, 1) := by decide +kernel
theorem dX9_lays_19 : decode cX9_lays 19 = .ok (.iload_n 2, 1) := by decide +kernel
theorem dX9_lays_20 : decode cX9_lays 20 = .ok (.aload_n 0, 1) := by decide +kernel
theorem dX9_lays_21 : decode cX9_lays 21 = .ok (.getfield 38, 3) := by decide +kernel
theorem dX9_lays_24 : decode cX9_lays 24 = .ok (.if_icmp .ge 39, 3) := by decide +kernel
theorem dX9_lays_27 : decode cX9_lays 27 = .ok (.aload_n 0, 1) := by decide +kernel
theorem dX9_lays_28 : decode cX9_lays 28 = .ok (.getfield 28, 3) := by decide +kernel
theorem dX9_lays_31 : decode cX9_lays 31 = .ok (.iload_n 1, 1) := by decide +kernel
theorem dX9_lays_32 : decode cX9_lays 32 = .ok (.dup2, 1) := by decide +kernel
theorem dX9_lays_33 : decode cX9_lays 33 = .ok (.iaload, 1) := by decide +kernel
theorem dX9_lays_34 : decode cX9_lays 34 = .ok (.iload_n 2, 1) := by decide +kernel
theorem dX9_lays_35 : decode cX9_lays 35 = .ok (.iload_n 1, 1) := by decide +kernel
theorem dX9_lays_36 : decode cX9_lays 36 = .ok (.if_icmp .eq 18, 3) := by decide +kernel
theorem dX9_lays_39 : decode cX9_lays 39 = .ok (.aload_n 0, 1) := by decide +kernel
theorem dX9_lays_40 : decode cX9_lays 40 = .ok (.iload_n 2, 1) := by decide +kernel
theorem dX9_lays_41 : decode cX9_lays 41 = .ok (.iload_n 1, 1) := by decide +kernel
theorem dX9_lays_42 : decode cX9_lays 42 = .ok (.invokevirtual 130, 3) := by decide +kernel
theorem dX9_lays_45 : decode cX9_lays 45 = .ok (.ifCond .eq 9, 3) := by decide +kernel
theorem dX9_lays_48 : decode cX9_lays 48 = .ok (.iconst 1, 1) := by decide +kernel
theorem dX9_lays_49 : decode cX9_lays 49 = .ok (.iload_n 2, 1) := by decide +kernel
theorem dX9_lays_50 : decode cX9_lays 50 = .ok (.ishl, 1) := by decide +kernel
theorem dX9_lays_51 : decode cX9_lays 51 = .ok (.goto 4, 3) := by decide +kernel
theorem dX9_lays_54 : decode cX9_lays 54 = .ok (.iconst 0, 1) := by decide +kernel
theorem dX9_lays_55 : decode cX9_lays 55 = .ok (.ior, 1) := by decide +kernel
theorem dX9_lays_56 : decode cX9_lays 56 = .ok (.iastore, 1) := by decide +kernel
theorem dX9_lays_57 : decode cX9_lays 57 = .ok (.iinc 2 1, 3) := by decide +kernel
theorem dX9_lays_60 : decode cX9_lays 60 = .ok (.goto (-41), 3) := by decide +kernel
theorem dX9_lays_63 : decode cX9_lays 63 = .ok (.iinc 1 1, 3) := by decide +kernel
theorem dX9_lays_66 : decode cX9_lays 66 = .ok (.goto (-64), 3) := by decide +kernel
theorem dX9_lays_69 : decode cX9_lays 69 = .ok (.return_, 1) := by decide +kernel
theorem dX9_firstOf_0 : decode cX9_firstOf 0 = .ok (.iconst 0, 1) := by decide +kernel
theorem dX9_firstOf_1 : decode cX9_firstOf 1 = .ok (.istore_n 2, 1) := by decide +kernel
theorem dX9_firstOf_2 : decode cX9_firstOf 2 = .ok (.iload_n 2, 1) := by decide +kernel
theorem dX9_firstOf_3 : decode cX9_firstOf 3 = .ok (.aload_n 0, 1) := by decide +kernel
theorem dX9_firstOf_4 : decode cX9_firstOf 4 = .ok (.getfield 38, 3) := by decide +kernel
theorem dX9_firstOf_7 : decode cX9_firstOf 7 = .ok (.if_icmp .ge 31, 3) := by decide +kernel
theorem dX9_firstOf_10 : decode cX9_firstOf 10 = .ok (.iload_n 1, 1) := by decide +kernel
theorem dX9_firstOf_11 : decode cX9_firstOf 11 = .ok (.iload_n 2, 1) := by decide +kernel
theorem dX9_firstOf_12 : decode cX9_firstOf 12 = .ok (.ishr, 1) := by decide +kernel
theorem dX9_firstOf_13 : decode cX9_firstOf 13 = .ok (.iconst 1, 1) := by decide +kernel
theorem dX9_firstOf_14 : decode cX9_firstOf 14 = .ok (.iand, 1) := by decide +kernel
theorem dX9_firstOf_15 : decode cX9_firstOf 15 = .ok (.iconst 1, 1) := by decide +kernel
theorem dX9_firstOf_16 : decode cX9_firstOf 16 = .ok (.if_icmp .ne 16, 3) := by decide +kernel
theorem dX9_firstOf_19 : decode cX9_firstOf 19 = .ok (.aload_n 0, 1) := by decide +kernel
theorem dX9_firstOf_20 : decode cX9_firstOf 20 = .ok (.getfield 28, 3) := by decide +kernel
theorem dX9_firstOf_23 : decode cX9_firstOf 23 = .ok (.iload_n 2, 1) := by decide +kernel
theorem dX9_firstOf_24 : decode cX9_firstOf 24 = .ok (.iaload, 1) := by decide +kernel
theorem dX9_firstOf_25 : decode cX9_firstOf 25 = .ok (.iload_n 1, 1) := by decide +kernel
theorem dX9_firstOf_26 : decode cX9_firstOf 26 = .ok (.iand, 1) := by decide +kernel
theorem dX9_firstOf_27 : decode cX9_firstOf 27 = .ok (.ifCond .ne 5, 3) := by decide +kernel
theorem dX9_firstOf_30 : decode cX9_firstOf 30 = .ok (.iload_n 2, 1) := by decide +kernel
theorem dX9_firstOf_31 : decode cX9_firstOf 31 = .ok (.ireturn, 1) := by decide +kernel
theorem dX9_firstOf_32 : decode cX9_firstOf 32 = .ok (.iinc 2 1, 3) := by decide +kernel
theorem dX9_firstOf_35 : decode cX9_firstOf 35 = .ok (.goto (-33), 3) := by decide +kernel
theorem dX9_firstOf_38 : decode cX9_firstOf 38 = .ok (.bipush (-4), 2) := by decide +kernel
theorem dX9_firstOf_40 : decode cX9_firstOf 40 = .ok (.ireturn, 1) := by decide +kernel
theorem dX9_left_0 : decode cX9_left 0 = .ok (.iconst 1, 1) := by decide +kernel
theorem dX9_left_1 : decode cX9_left 1 = .ok (.aload_n 0, 1) := by decide +kernel
theorem dX9_left_2 : decode cX9_left 2 = .ok (.getfield 38, 3) := by decide +kernel
theorem dX9_left_5 : decode cX9_left 5 = .ok (.ishl, 1) := by decide +kernel
theorem dX9_left_6 : decode cX9_left 6 = .ok (.iconst 1, 1) := by decide +kernel
theorem dX9_left_7 : decode cX9_left 7 = .ok (.isub, 1) := by decide +kernel
theorem dX9_left_8 : decode cX9_left 8 = .ok (.istore_n 2, 1) := by decide +kernel
theorem dX9_left_9 : decode cX9_left 9 = .ok (.iconst 0, 1) := by decide +kernel
theorem dX9_left_10 : decode cX9_left 10 = .ok (.istore_n 3, 1) := by decide +kernel
theorem dX9_left_11 : decode cX9_left 11 = .ok (.iload_n 3, 1) := by decide +kernel
theorem dX9_left_12 : decode cX9_left 12 = .ok (.iload_n 1, 1) := by decide +kernel
theorem dX9_left_13 : decode cX9_left 13 = .ok (.if_icmp .ge 32, 3) := by decide +kernel
theorem dX9_left_16 : decode cX9_left 16 = .ok (.aload_n 0, 1) := by decide +kernel
theorem dX9_left_17 : decode cX9_left 17 = .ok (.iload_n 2, 1) := by decide +kernel
theorem dX9_left_18 : decode cX9_left 18 = .ok (.invokevirtual 139, 3) := by decide +kernel
theorem dX9_left_21 : decode cX9_left 21 = .ok (.istore 4, 2) := by decide +kernel
theorem dX9_left_23 : decode cX9_left 23 = .ok (.iload_n 2, 1) := by decide +kernel
theorem dX9_left_24 : decode cX9_left 24 = .ok (.iload 4, 2) := by decide +kernel
theorem dX9_left_26 : decode cX9_left 26 = .ok (.ifCond .ge 7, 3) := by decide +kernel
theorem dX9_left_29 : decode cX9_left 29 = .ok (.iconst 0, 1) := by decide +kernel
theorem dX9_left_30 : decode cX9_left 30 = .ok (.goto 7, 3) := by decide +kernel
theorem dX9_left_33 : decode cX9_left 33 = .ok (.iconst 1, 1) := by decide +kernel
theorem dX9_left_34 : decode cX9_left 34 = .ok (.iload 4, 2) := by decide +kernel
theorem dX9_left_36 : decode cX9_left 36 = .ok (.ishl, 1) := by decide +kernel
theorem dX9_left_37 : decode cX9_left 37 = .ok (.isub, 1) := by decide +kernel
theorem dX9_left_38 : decode cX9_left 38 = .ok (.istore_n 2, 1) := by decide +kernel
theorem dX9_left_39 : decode cX9_left 39 = .ok (.iinc 3 1, 3) := by decide +kernel
theorem dX9_left_42 : decode cX9_left 42 = .ok (.goto (-31), 3) := by decide +kernel
theorem dX9_left_45 : decode cX9_left 45 = .ok (.iload_n 2, 1) := by decide +kernel
theorem dX9_left_46 : decode cX9_left 46 = .ok (.ireturn, 1) := by decide +kernel
theorem dX9_stuck_0 : decode cX9_stuck 0 = .ok (.aload_n 0, 1) := by decide +kernel
theorem dX9_stuck_1 : decode cX9_stuck 1 = .ok (.invokevirtual 142, 3) := by decide +kernel
theorem dX9_stuck_4 : decode cX9_stuck 4 = .ok (.aload_n 0, 1) := by decide +kernel
theorem dX9_stuck_5 : decode cX9_stuck 5 = .ok (.aload_n 0, 1) := by decide +kernel
theorem dX9_stuck_6 : decode cX9_stuck 6 = .ok (.getfield 38, 3) := by decide +kernel
theorem dX9_stuck_9 : decode cX9_stuck 9 = .ok (.invokevirtual 145, 3) := by decide +kernel
theorem dX9_stuck_12 : decode cX9_stuck 12 = .ok (.ireturn, 1) := by decide +kernel
theorem dX9_order_0 : decode cX9_order 0 = .ok (.iload_n 1, 1) := by decide +kernel
theorem dX9_order_1 : decode cX9_order 1 = .ok (.iconst 0, 1) := by decide +kernel
theorem dX9_order_2 : decode cX9_order 2 = .ok (.bipush 7, 2) := by decide +kernel
theorem dX9_order_4 : decode cX9_order 4 = .ok (.invokestatic 54, 3) := by decide +kernel
theorem dX9_order_7 : decode cX9_order 7 = .ok (.ifCond .ne 5, 3) := by decide +kernel
theorem dX9_order_10 : decode cX9_order 10 = .ok (.iconst (-1), 1) := by decide +kernel
theorem dX9_order_11 : decode cX9_order 11 = .ok (.ireturn, 1) := by decide +kernel
theorem dX9_order_12 : decode cX9_order 12 = .ok (.aload_n 0, 1) := by decide +kernel
theorem dX9_order_13 : decode cX9_order 13 = .ok (.invokevirtual 148, 3) := by decide +kernel
theorem dX9_order_16 : decode cX9_order 16 = .ok (.ifCond .eq 6, 3) := by decide +kernel
theorem dX9_order_19 : decode cX9_order 19 = .ok (.bipush (-2), 2) := by decide +kernel
theorem dX9_order_21 : decode cX9_order 21 = .ok (.ireturn, 1) := by decide +kernel
theorem dX9_order_22 : decode cX9_order 22 = .ok (.iload_n 1, 1) := by decide +kernel
theorem dX9_order_23 : decode cX9_order 23 = .ok (.aload_n 0, 1) := by decide +kernel
theorem dX9_order_24 : decode cX9_order 24 = .ok (.getfield 38, 3) := by decide +kernel
theorem dX9_order_27 : decode cX9_order 27 = .ok (.if_icmp .ge 15, 3) := by decide +kernel
theorem dX9_order_30 : decode cX9_order 30 = .ok (.aload_n 0, 1) := by decide +kernel
theorem dX9_order_31 : decode cX9_order 31 = .ok (.aload_n 0, 1) := by decide +kernel
theorem dX9_order_32 : decode cX9_order 32 = .ok (.iload_n 1, 1) := by decide +kernel
theorem dX9_order_33 : decode cX9_order 33 = .ok (.invokevirtual 145, 3) := by decide +kernel
theorem dX9_order_36 : decode cX9_order 36 = .ok (.invokevirtual 139, 3) := by decide +kernel
theorem dX9_order_39 : decode cX9_order 39 = .ok (.goto 5, 3) := by decide +kernel
theorem dX9_order_42 : decode cX9_order 42 = .ok (.bipush (-4), 2) := by decide +kernel
theorem dX9_order_44 : decode cX9_order 44 = .ok (.ireturn, 1) := by decide +kernel
theorem dX9_orders_0 : decode cX9_orders 0 = .ok (.aload_n 0, 1) := by decide +kernel
theorem dX9_orders_1 : decode cX9_orders 1 = .ok (.invokevirtual 142, 3) := by decide +kernel
theorem dX9_orders_4 : decode cX9_orders 4 = .ok (.iconst 1, 1) := by decide +kernel
theorem dX9_orders_5 : decode cX9_orders 5 = .ok (.aload_n 0, 1) := by decide +kernel
theorem dX9_orders_6 : decode cX9_orders 6 = .ok (.getfield 38, 3) := by decide +kernel
theorem dX9_orders_9 : decode cX9_orders 9 = .ok (.ishl, 1) := by decide +kernel
theorem dX9_orders_10 : decode cX9_orders 10 = .ok (.iconst 1, 1) := by decide +kernel
theorem dX9_orders_11 : decode cX9_orders 11 = .ok (.isub, 1) := by decide +kernel
theorem dX9_orders_12 : decode cX9_orders 12 = .ok (.istore_n 1, 1) := by decide +kernel
theorem dX9_orders_13 : decode cX9_orders 13 = .ok (.iconst 0, 1) := by decide +kernel
theorem dX9_orders_14 : decode cX9_orders 14 = .ok (.istore_n 2, 1) := by decide +kernel
theorem dX9_orders_15 : decode cX9_orders 15 = .ok (.iload_n 2, 1) := by decide +kernel
theorem dX9_orders_16 : decode cX9_orders 16 = .ok (.iload_n 1, 1) := by decide +kernel
theorem dX9_orders_17 : decode cX9_orders 17 = .ok (.if_icmp .gt 24, 3) := by decide +kernel
theorem dX9_orders_20 : decode cX9_orders 20 = .ok (.aload_n 0, 1) := by decide +kernel
theorem dX9_orders_21 : decode cX9_orders 21 = .ok (.getfield 31, 3) := by decide +kernel
theorem dX9_orders_24 : decode cX9_orders 24 = .ok (.iload_n 2, 1) := by decide +kernel
theorem dX9_orders_25 : decode cX9_orders 25 = .ok (.iload_n 2, 1) := by decide +kernel
theorem dX9_orders_26 : decode cX9_orders 26 = .ok (.ifCond .ne 7, 3) := by decide +kernel
theorem dX9_orders_29 : decode cX9_orders 29 = .ok (.iconst 1, 1) := by decide +kernel
theorem dX9_orders_30 : decode cX9_orders 30 = .ok (.goto 4, 3) := by decide +kernel
theorem dX9_orders_33 : decode cX9_orders 33 = .ok (.iconst 0, 1) := by decide +kernel
theorem dX9_orders_34 : decode cX9_orders 34 = .ok (.iastore, 1) := by decide +kernel
theorem dX9_orders_35 : decode cX9_orders 35 = .ok (.iinc 2 1, 3) := by decide +kernel
theorem dX9_orders_38 : decode cX9_orders 38 = .ok (.goto (-23), 3) := by decide +kernel
theorem dX9_orders_41 : decode cX9_orders 41 = .ok (.iconst 0, 1) := by decide +kernel
theorem dX9_orders_42 : decode cX9_orders 42 = .ok (.istore_n 2, 1) := by decide +kernel
theorem dX9_orders_43 : decode cX9_orders 43 = .ok (.iload_n 2, 1) := by decide +kernel
theorem dX9_orders_44 : decode cX9_orders 44 = .ok (.iload_n 1, 1) := by decide +kernel
theorem dX9_orders_45 : decode cX9_orders 45 = .ok (.if_icmp .ge 65, 3) := by decide +kernel
theorem dX9_orders_48 : decode cX9_orders 48 = .ok (.iconst 0, 1) := by decide +kernel
theorem dX9_orders_49 : decode cX9_orders 49 = .ok (.istore_n 3, 1) := by decide +kernel
theorem dX9_orders_50 : decode cX9_orders 50 = .ok (.iload_n 3, 1) := by decide +kernel
theorem dX9_orders_51 : decode cX9_orders 51 = .ok (.aload_n 0, 1) := by decide +kernel
theorem dX9_orders_52 : decode cX9_orders 52 = .ok (.getfield 38, 3) := by decide +kernel
theorem dX9_orders_55 : decode cX9_orders 55 = .ok (.if_icmp .ge 49, 3) := by decide +kernel
theorem dX9_orders_58 : decode cX9_orders 58 = .ok (.iload_n 2, 1) := by decide +kernel
theorem dX9_orders_59 : decode cX9_orders 59 = .ok (.iload_n 3, 1) := by decide +kernel
theorem dX9_orders_60 : decode cX9_orders 60 = .ok (.ishr, 1) := by decide +kernel
theorem dX9_orders_61 : decode cX9_orders 61 = .ok (.iconst 1, 1) := by decide +kernel
theorem dX9_orders_62 : decode cX9_orders 62 = .ok (.iand, 1) := by decide +kernel
theorem dX9_orders_63 : decode cX9_orders 63 = .ok (.ifCond .ne 35, 3) := by decide +kernel
theorem dX9_orders_66 : decode cX9_orders 66 = .ok (.aload_n 0, 1) := by decide +kernel
theorem dX9_orders_67 : decode cX9_orders 67 = .ok (.getfield 28, 3) := by decide +kernel
theorem dX9_orders_70 : decode cX9_orders 70 = .ok (.iload_n 3, 1) := by decide +kernel
theorem dX9_orders_71 : decode cX9_orders 71 = .ok (.iaload, 1) := by decide +kernel
theorem dX9_orders_72 : decode cX9_orders 72 = .ok (.iload_n 1, 1) := by decide +kernel
theorem dX9_orders_73 : decode cX9_orders 73 = .ok (.iload_n 2, 1) := by decide +kernel
theorem dX9_orders_74 : decode cX9_orders 74 = .ok (.isub, 1) := by decide +kernel
theorem dX9_orders_75 : decode cX9_orders 75 = .ok (.iand, 1) := by decide +kernel
theorem dX9_orders_76 : decode cX9_orders 76 = .ok (.ifCond .ne 22, 3) := by decide +kernel
theorem dX9_orders_79 : decode cX9_orders 79 = .ok (.aload_n 0, 1) := by decide +kernel
theorem dX9_orders_80 : decode cX9_orders 80 = .ok (.getfield 31, 3) := by decide +kernel
theorem dX9_orders_83 : decode cX9_orders 83 = .ok (.iload_n 2, 1) := by decide +kernel
theorem dX9_orders_84 : decode cX9_orders 84 = .ok (.iconst 1, 1) := by decide +kernel
theorem dX9_orders_85 : decode cX9_orders 85 = .ok (.iload_n 3, 1) := by decide +kernel
theorem dX9_orders_86 : decode cX9_orders 86 = .ok (.ishl, 1) := by decide +kernel
theorem dX9_orders_87 : decode cX9_orders 87 = .ok (.ior, 1) := by decide +kernel
theorem dX9_orders_88 : decode cX9_orders 88 = .ok (.dup2, 1) := by decide +kernel
theorem dX9_orders_89 : decode cX9_orders 89 = .ok (.iaload, 1) := by decide +kernel
theorem dX9_orders_90 : decode cX9_orders 90 = .ok (.aload_n 0, 1) := by decide +kernel
theorem dX9_orders_91 : decode cX9_orders 91 = .ok (.getfield 31, 3) := by decide +kernel
theorem dX9_orders_94 : decode cX9_orders 94 = .ok (.iload_n 2, 1) := by decide +kernel
theorem dX9_orders_95 : decode cX9_orders 95 = .ok (.iaload, 1) := by decide +kernel
theorem dX9_orders_96 : decode cX9_orders 96 = .ok (.iadd, 1) := by decide +kernel
theorem dX9_orders_97 : decode cX9_orders 97 = .ok (.iastore, 1) := by decide +kernel
theorem dX9_orders_98 : decode cX9_orders 98 = .ok (.iinc 3 1, 3) := by decide +kernel
theorem dX9_orders_101 : decode cX9_orders 101 = .ok (.goto (-51), 3) := by decide +kernel
theorem dX9_orders_104 : decode cX9_orders 104 = .ok (.iinc 2 1, 3) := by decide +kernel
theorem dX9_orders_107 : decode cX9_orders 107 = .ok (.goto (-64), 3) := by decide +kernel
theorem dX9_orders_110 : decode cX9_orders 110 = .ok (.aload_n 0, 1) := by decide +kernel
theorem dX9_orders_111 : decode cX9_orders 111 = .ok (.getfield 31, 3) := by decide +kernel
theorem dX9_orders_114 : decode cX9_orders 114 = .ok (.iload_n 1, 1) := by decide +kernel
theorem dX9_orders_115 : decode cX9_orders 115 = .ok (.iaload, 1) := by decide +kernel
theorem dX9_orders_116 : decode cX9_orders 116 = .ok (.ireturn, 1) := by decide +kernel
theorem dX9_isWell_0 : decode cX9_isWell 0 = .ok (.iconst 1, 1) := by decide +kernel
theorem dX9_isWell_1 : decode cX9_isWell 1 = .ok (.istore_n 2, 1) := by decide +kernel
theorem dX9_isWell_2 : decode cX9_isWell 2 = .ok (.iconst 0, 1) := by decide +kernel
theorem dX9_isWell_3 : decode cX9_isWell 3 = .ok (.istore_n 3, 1) := by decide +kernel
theorem dX9_isWell_4 : decode cX9_isWell 4 = .ok (.iload_n 3, 1) := by decide +kernel
theorem dX9_isWell_5 : decode cX9_isWell 5 = .ok (.aload_n 0, 1) := by decide +kernel
theorem dX9_isWell_6 : decode cX9_isWell 6 = .ok (.getfield 38, 3) := by decide +kernel
theorem dX9_isWell_9 : decode cX9_isWell 9 = .ok (.if_icmp .ge 52, 3) := by decide +kernel
theorem dX9_isWell_12 : decode cX9_isWell 12 = .ok (.iload_n 2, 1) := by decide +kernel
theorem dX9_isWell_13 : decode cX9_isWell 13 = .ok (.ifCond .eq 48, 3) := by decide +kernel
theorem dX9_isWell_16 : decode cX9_isWell 16 = .ok (.iload_n 3, 1) := by decide +kernel
theorem dX9_isWell_17 : decode cX9_isWell 17 = .ok (.iload_n 1, 1) := by decide +kernel
theorem dX9_isWell_18 : decode cX9_isWell 18 = .ok (.if_icmp .eq 31, 3) := by decide +kernel
theorem dX9_isWell_21 : decode cX9_isWell 21 = .ok (.aload_n 0, 1) := by decide +kernel
theorem dX9_isWell_22 : decode cX9_isWell 22 = .ok (.iload_n 1, 1) := by decide +kernel
theorem dX9_isWell_23 : decode cX9_isWell 23 = .ok (.iload_n 3, 1) := by decide +kernel
theorem dX9_isWell_24 : decode cX9_isWell 24 = .ok (.iconst 0, 1) := by decide +kernel
theorem dX9_isWell_25 : decode cX9_isWell 25 = .ok (.invokevirtual 123, 3) := by decide +kernel
theorem dX9_isWell_28 : decode cX9_isWell 28 = .ok (.ifCond .ne 25, 3) := by decide +kernel
theorem dX9_isWell_31 : decode cX9_isWell 31 = .ok (.aload_n 0, 1) := by decide +kernel
theorem dX9_isWell_32 : decode cX9_isWell 32 = .ok (.iload_n 1, 1) := by decide +kernel
theorem dX9_isWell_33 : decode cX9_isWell 33 = .ok (.iload_n 3, 1) := by decide +kernel
theorem dX9_isWell_34 : decode cX9_isWell 34 = .ok (.invokevirtual 130, 3) := by decide +kernel
theorem dX9_isWell_37 : decode cX9_isWell 37 = .ok (.ifCond .eq 12, 3) := by decide +kernel
theorem dX9_isWell_40 : decode cX9_isWell 40 = .ok (.aload_n 0, 1) := by decide +kernel
theorem dX9_isWell_41 : decode cX9_isWell 41 = .ok (.iload_n 3, 1) := by decide +kernel
theorem dX9_isWell_42 : decode cX9_isWell 42 = .ok (.iload_n 1, 1) := by decide +kernel
theorem dX9_isWell_43 : decode cX9_isWell 43 = .ok (.invokevirtual 130, 3) := by decide +kernel
theorem dX9_isWell_46 : decode cX9_isWell 46 = .ok (.ifCond .ne 7, 3) := by decide +kernel
theorem dX9_isWell_49 : decode cX9_isWell 49 = .ok (.iconst 1, 1) := by decide +kernel
theorem dX9_isWell_50 : decode cX9_isWell 50 = .ok (.goto 4, 3) := by decide +kernel
theorem dX9_isWell_53 : decode cX9_isWell 53 = .ok (.iconst 0, 1) := by decide +kernel
theorem dX9_isWell_54 : decode cX9_isWell 54 = .ok (.istore_n 2, 1) := by decide +kernel
theorem dX9_isWell_55 : decode cX9_isWell 55 = .ok (.iinc 3 1, 3) := by decide +kernel
theorem dX9_isWell_58 : decode cX9_isWell 58 = .ok (.goto (-54), 3) := by decide +kernel
theorem dX9_isWell_61 : decode cX9_isWell 61 = .ok (.iload_n 2, 1) := by decide +kernel
theorem dX9_isWell_62 : decode cX9_isWell 62 = .ok (.ireturn, 1) := by decide +kernel
theorem dX9_loopOf_0 : decode cX9_loopOf 0 = .ok (.aload_n 0, 1) := by decide +kernel
theorem dX9_loopOf_1 : decode cX9_loopOf 1 = .ok (.getfield 13, 3) := by decide +kernel
theorem dX9_loopOf_4 : decode cX9_loopOf 4 = .ok (.iconst 5, 1) := by decide +kernel
theorem dX9_loopOf_5 : decode cX9_loopOf 5 = .ok (.iload_n 1, 1) := by decide +kernel
theorem dX9_loopOf_6 : decode cX9_loopOf 6 = .ok (.imul, 1) := by decide +kernel
theorem dX9_loopOf_7 : decode cX9_loopOf 7 = .ok (.iconst 3, 1) := by decide +kernel
theorem dX9_loopOf_8 : decode cX9_loopOf 8 = .ok (.iadd, 1) := by decide +kernel
theorem dX9_loopOf_9 : decode cX9_loopOf 9 = .ok (.iaload, 1) := by decide +kernel
theorem dX9_loopOf_10 : decode cX9_loopOf 10 = .ok (.istore_n 2, 1) := by decide +kernel
theorem dX9_loopOf_11 : decode cX9_loopOf 11 = .ok (.aload_n 0, 1) := by decide +kernel
theorem dX9_loopOf_12 : decode cX9_loopOf 12 = .ok (.getfield 13, 3) := by decide +kernel
theorem dX9_loopOf_15 : decode cX9_loopOf 15 = .ok (.iconst 5, 1) := by decide +kernel
theorem dX9_loopOf_16 : decode cX9_loopOf 16 = .ok (.iload_n 1, 1) := by decide +kernel
theorem dX9_loopOf_17 : decode cX9_loopOf 17 = .ok (.imul, 1) := by decide +kernel
theorem dX9_loopOf_18 : decode cX9_loopOf 18 = .ok (.iconst 4, 1) := by decide +kernel
theorem dX9_loopOf_19 : decode cX9_loopOf 19 = .ok (.iadd, 1) := by decide +kernel
theorem dX9_loopOf_20 : decode cX9_loopOf 20 = .ok (.iaload, 1) := by decide +kernel
theorem dX9_loopOf_21 : decode cX9_loopOf 21 = .ok (.istore_n 3, 1) := by decide +kernel
theorem dX9_loopOf_22 : decode cX9_loopOf 22 = .ok (.bipush (-4), 2) := by decide +kernel
theorem dX9_loopOf_24 : decode cX9_loopOf 24 = .ok (.istore 4, 2) := by decide +kernel
theorem dX9_loopOf_26 : decode cX9_loopOf 26 = .ok (.iconst 0, 1) := by decide +kernel
theorem dX9_loopOf_27 : decode cX9_loopOf 27 = .ok (.istore 5, 2) := by decide +kernel
theorem dX9_loopOf_29 : decode cX9_loopOf 29 = .ok (.iload 5, 2) := by decide +kernel
theorem dX9_loopOf_31 : decode cX9_loopOf 31 = .ok (.bipush 40, 2) := by decide +kernel
theorem dX9_loopOf_33 : decode cX9_loopOf 33 = .ok (.if_icmp .ge 140, 3) := by decide +kernel
theorem dX9_loopOf_36 : decode cX9_loopOf 36 = .ok (.iload 4, 2) := by decide +kernel
theorem dX9_loopOf_38 : decode cX9_loopOf 38 = .ok (.ifCond .ge 135, 3) := by decide +kernel
theorem dX9_loopOf_41 : decode cX9_loopOf 41 = .ok (.iconst 0, 1) := by decide +kernel
theorem dX9_loopOf_42 : decode cX9_loopOf 42 = .ok (.istore 6, 2) := by decide +kernel
theorem dX9_loopOf_44 : decode cX9_loopOf 44 = .ok (.iload 6, 2) := by decide +kernel
theorem dX9_loopOf_46 : decode cX9_loopOf 46 = .ok (.iconst 4, 1) := by decide +kernel
theorem dX9_loopOf_47 : decode cX9_loopOf 47 = .ok (.if_icmp .ge 120, 3) := by decide +kernel
theorem dX9_loopOf_50 : decode cX9_loopOf 50 = .ok (.iload 4, 2) := by decide +kernel
theorem dX9_loopOf_52 : decode cX9_loopOf 52 = .ok (.ifCond .ge 115, 3) := by decide +kernel
theorem dX9_loopOf_55 : decode cX9_loopOf 55 = .ok (.aload_n 0, 1) := by decide +kernel
theorem dX9_loopOf_56 : decode cX9_loopOf 56 = .ok (.getfield 13, 3) := by decide +kernel
theorem dX9_loopOf_59 : decode cX9_loopOf 59 = .ok (.iconst 5, 1) := by decide +kernel
theorem dX9_loopOf_60 : decode cX9_loopOf 60 = .ok (.iload_n 1, 1) := by decide +kernel
theorem dX9_loopOf_61 : decode cX9_loopOf 61 = .ok (.imul, 1) := by decide +kernel
theorem dX9_loopOf_62 : decode cX9_loopOf 62 = .ok (.iconst 3, 1) := by decide +kernel
theorem dX9_loopOf_63 : decode cX9_loopOf 63 = .ok (.iadd, 1) := by decide +kernel
theorem dX9_loopOf_64 : decode cX9_loopOf 64 = .ok (.iload 6, 2) := by decide +kernel
theorem dX9_loopOf_66 : decode cX9_loopOf 66 = .ok (.ifCond .ne 7, 3) := by decide +kernel
theorem dX9_loopOf_69 : decode cX9_loopOf 69 = .ok (.iload_n 2, 1) := by decide +kernel
theorem dX9_loopOf_70 : decode cX9_loopOf 70 = .ok (.goto 7, 3) := by decide +kernel
theorem dX9_loopOf_73 : decode cX9_loopOf 73 = .ok (.iload 6, 2) := by decide +kernel
theorem dX9_loopOf_75 : decode cX9_loopOf 75 = .ok (.iconst 1, 1) := by decide +kernel
theorem dX9_loopOf_76 : decode cX9_loopOf 76 = .ok (.isub, 1) := by decide +kernel
theorem dX9_loopOf_77 : decode cX9_loopOf 77 = .ok (.iastore, 1) := by decide +kernel
theorem dX9_loopOf_78 : decode cX9_loopOf 78 = .ok (.iconst (-1), 1) := by decide +kernel
theorem dX9_loopOf_79 : decode cX9_loopOf 79 = .ok (.istore 7, 2) := by decide +kernel
theorem dX9_loopOf_81 : decode cX9_loopOf 81 = .ok (.iload 7, 2) := by decide +kernel
theorem dX9_loopOf_83 : decode cX9_loopOf 83 = .ok (.iconst 2, 1) := by decide +kernel
theorem dX9_loopOf_84 : decode cX9_loopOf 84 = .ok (.if_icmp .ge 77, 3) := by decide +kernel
theorem dX9_loopOf_87 : decode cX9_loopOf 87 = .ok (.iload 4, 2) := by decide +kernel
theorem dX9_loopOf_89 : decode cX9_loopOf 89 = .ok (.ifCond .ge 72, 3) := by decide +kernel
theorem dX9_loopOf_92 : decode cX9_loopOf 92 = .ok (.iload_n 3, 1) := by decide +kernel
theorem dX9_loopOf_93 : decode cX9_loopOf 93 = .ok (.iload 7, 2) := by decide +kernel
theorem dX9_loopOf_95 : decode cX9_loopOf 95 = .ok (.iload 5, 2) := by decide +kernel
theorem dX9_loopOf_97 : decode cX9_loopOf 97 = .ok (.imul, 1) := by decide +kernel
theorem dX9_loopOf_98 : decode cX9_loopOf 98 = .ok (.iadd, 1) := by decide +kernel
theorem dX9_loopOf_99 : decode cX9_loopOf 99 = .ok (.istore 8, 2) := by decide +kernel
theorem dX9_loopOf_101 : decode cX9_loopOf 101 = .ok (.aload_n 0, 1) := by decide +kernel
theorem dX9_loopOf_102 : decode cX9_loopOf 102 = .ok (.getfield 13, 3) := by decide +kernel
theorem dX9_loopOf_105 : decode cX9_loopOf 105 = .ok (.iconst 5, 1) := by decide +kernel
theorem dX9_loopOf_106 : decode cX9_loopOf 106 = .ok (.iload_n 1, 1) := by decide +kernel
theorem dX9_loopOf_107 : decode cX9_loopOf 107 = .ok (.imul, 1) := by decide +kernel
theorem dX9_loopOf_108 : decode cX9_loopOf 108 = .ok (.iconst 4, 1) := by decide +kernel
theorem dX9_loopOf_109 : decode cX9_loopOf 109 = .ok (.iadd, 1) := by decide +kernel
theorem dX9_loopOf_110 : decode cX9_loopOf 110 = .ok (.iload 8, 2) := by decide +kernel
theorem dX9_loopOf_112 : decode cX9_loopOf 112 = .ok (.iastore, 1) := by decide +kernel
theorem dX9_loopOf_113 : decode cX9_loopOf 113 = .ok (.iload 8, 2) := by decide +kernel
theorem dX9_loopOf_115 : decode cX9_loopOf 115 = .ok (.iconst 1, 1) := by decide +kernel
theorem dX9_loopOf_116 : decode cX9_loopOf 116 = .ok (.bipush 40, 2) := by decide +kernel
theorem dX9_loopOf_118 : decode cX9_loopOf 118 = .ok (.invokestatic 54, 3) := by decide +kernel
theorem dX9_loopOf_121 : decode cX9_loopOf 121 = .ok (.ifCond .eq 30, 3) := by decide +kernel
theorem dX9_loopOf_124 : decode cX9_loopOf 124 = .ok (.aload_n 0, 1) := by decide +kernel
theorem dX9_loopOf_125 : decode cX9_loopOf 125 = .ok (.iload_n 1, 1) := by decide +kernel
theorem dX9_loopOf_126 : decode cX9_loopOf 126 = .ok (.invokevirtual 151, 3) := by decide +kernel
theorem dX9_loopOf_129 : decode cX9_loopOf 129 = .ok (.ifCond .eq 22, 3) := by decide +kernel
theorem dX9_loopOf_132 : decode cX9_loopOf 132 = .ok (.bipush 100, 2) := by decide +kernel
theorem dX9_loopOf_134 : decode cX9_loopOf 134 = .ok (.aload_n 0, 1) := by decide +kernel
theorem dX9_loopOf_135 : decode cX9_loopOf 135 = .ok (.getfield 13, 3) := by decide +kernel
theorem dX9_loopOf_138 : decode cX9_loopOf 138 = .ok (.iconst 5, 1) := by decide +kernel
theorem dX9_loopOf_139 : decode cX9_loopOf 139 = .ok (.iload_n 1, 1) := by decide +kernel
theorem dX9_loopOf_140 : decode cX9_loopOf 140 = .ok (.imul, 1) := by decide +kernel
theorem dX9_loopOf_141 : decode cX9_loopOf 141 = .ok (.iconst 3, 1) := by decide +kernel
theorem dX9_loopOf_142 : decode cX9_loopOf 142 = .ok (.iadd, 1) := by decide +kernel
theorem dX9_loopOf_143 : decode cX9_loopOf 143 = .ok (.iaload, 1) := by decide +kernel
theorem dX9_loopOf_144 : decode cX9_loopOf 144 = .ok (.imul, 1) := by decide +kernel
theorem dX9_loopOf_145 : decode cX9_loopOf 145 = .ok (.iload 8, 2) := by decide +kernel
theorem dX9_loopOf_147 : decode cX9_loopOf 147 = .ok (.iadd, 1) := by decide +kernel
theorem dX9_loopOf_148 : decode cX9_loopOf 148 = .ok (.goto 5, 3) := by decide +kernel
theorem dX9_loopOf_151 : decode cX9_loopOf 151 = .ok (.bipush (-4), 2) := by decide +kernel
theorem dX9_loopOf_153 : decode cX9_loopOf 153 = .ok (.istore 4, 2) := by decide +kernel
theorem dX9_loopOf_155 : decode cX9_loopOf 155 = .ok (.iinc 7 2, 3) := by decide +kernel
theorem dX9_loopOf_158 : decode cX9_loopOf 158 = .ok (.goto (-77), 3) := by decide +kernel
theorem dX9_loopOf_161 : decode cX9_loopOf 161 = .ok (.iinc 6 1, 3) := by decide +kernel
theorem dX9_loopOf_164 : decode cX9_loopOf 164 = .ok (.goto (-120), 3) := by decide +kernel
theorem dX9_loopOf_167 : decode cX9_loopOf 167 = .ok (.iinc 5 1, 3) := by decide +kernel
theorem dX9_loopOf_170 : decode cX9_loopOf 170 = .ok (.goto (-141), 3) := by decide +kernel
theorem dX9_loopOf_173 : decode cX9_loopOf 173 = .ok (.aload_n 0, 1) := by decide +kernel
theorem dX9_loopOf_174 : decode cX9_loopOf 174 = .ok (.getfield 13, 3) := by decide +kernel
theorem dX9_loopOf_177 : decode cX9_loopOf 177 = .ok (.iconst 5, 1) := by decide +kernel
theorem dX9_loopOf_178 : decode cX9_loopOf 178 = .ok (.iload_n 1, 1) := by decide +kernel
theorem dX9_loopOf_179 : decode cX9_loopOf 179 = .ok (.imul, 1) := by decide +kernel
theorem dX9_loopOf_180 : decode cX9_loopOf 180 = .ok (.iconst 3, 1) := by decide +kernel
theorem dX9_loopOf_181 : decode cX9_loopOf 181 = .ok (.iadd, 1) := by decide +kernel
theorem dX9_loopOf_182 : decode cX9_loopOf 182 = .ok (.iload_n 2, 1) := by decide +kernel
theorem dX9_loopOf_183 : decode cX9_loopOf 183 = .ok (.iastore, 1) := by decide +kernel
theorem dX9_loopOf_184 : decode cX9_loopOf 184 = .ok (.aload_n 0, 1) := by decide +kernel
theorem dX9_loopOf_185 : decode cX9_loopOf 185 = .ok (.getfield 13, 3) := by decide +kernel
theorem dX9_loopOf_188 : decode cX9_loopOf 188 = .ok (.iconst 5, 1) := by decide +kernel
theorem dX9_loopOf_189 : decode cX9_loopOf 189 = .ok (.iload_n 1, 1) := by decide +kernel
theorem dX9_loopOf_190 : decode cX9_loopOf 190 = .ok (.imul, 1) := by decide +kernel
theorem dX9_loopOf_191 : decode cX9_loopOf 191 = .ok (.iconst 4, 1) := by decide +kernel
theorem dX9_loopOf_192 : decode cX9_loopOf 192 = .ok (.iadd, 1) := by decide +kernel
theorem dX9_loopOf_193 : decode cX9_loopOf 193 = .ok (.iload_n 3, 1) := by decide +kernel
theorem dX9_loopOf_194 : decode cX9_loopOf 194 = .ok (.iastore, 1) := by decide +kernel
theorem dX9_loopOf_195 : decode cX9_loopOf 195 = .ok (.iload 4, 2) := by decide +kernel
theorem dX9_loopOf_197 : decode cX9_loopOf 197 = .ok (.ireturn, 1) := by decide +kernel
theorem dX9_loop_0 : decode cX9_loop 0 = .ok (.aload_n 0, 1) := by decide +kernel
theorem dX9_loop_1 : decode cX9_loop 1 = .ok (.iload_n 1, 1) := by decide +kernel
theorem dX9_loop_2 : decode cX9_loop 2 = .ok (.invokevirtual 94, 3) := by decide +kernel
theorem dX9_loop_5 : decode cX9_loop 5 = .ok (.ifCond .eq 11, 3) := by decide +kernel
theorem dX9_loop_8 : decode cX9_loop 8 = .ok (.aload_n 0, 1) := by decide +kernel
theorem dX9_loop_9 : decode cX9_loop 9 = .ok (.iload_n 1, 1) := by decide +kernel
theorem dX9_loop_10 : decode cX9_loop 10 = .ok (.invokevirtual 154, 3) := by decide +kernel
theorem dX9_loop_13 : decode cX9_loop 13 = .ok (.goto 4, 3) := by decide +kernel
theorem dX9_loop_16 : decode cX9_loop 16 = .ok (.iconst (-1), 1) := by decide +kernel
theorem dX9_loop_17 : decode cX9_loop 17 = .ok (.ireturn, 1) := by decide +kernel
theorem dX9_mend_0 : decode cX9_mend 0 = .ok (.aload_n 0, 1) := by decide +kernel
theorem dX9_mend_1 : decode cX9_mend 1 = .ok (.iload_n 1, 1) := by decide +kernel
theorem dX9_mend_2 : decode cX9_mend 2 = .ok (.invokevirtual 94, 3) := by decide +kernel
theorem dX9_mend_5 : decode cX9_mend 5 = .ok (.ifCond .ne 5, 3) := by decide +kernel
theorem dX9_mend_8 : decode cX9_mend 8 = .ok (.iconst (-1), 1) := by decide +kernel
theorem dX9_mend_9 : decode cX9_mend 9 = .ok (.ireturn, 1) := by decide +kernel
theorem dX9_mend_10 : decode cX9_mend 10 = .ok (.aload_n 0, 1) := by decide +kernel
theorem dX9_mend_11 : decode cX9_mend 11 = .ok (.iload_n 1, 1) := by decide +kernel
theorem dX9_mend_12 : decode cX9_mend 12 = .ok (.invokevirtual 154, 3) := by decide +kernel
theorem dX9_mend_15 : decode cX9_mend 15 = .ok (.istore_n 2, 1) := by decide +kernel
theorem dX9_mend_16 : decode cX9_mend 16 = .ok (.bipush 100, 2) := by decide +kernel
theorem dX9_mend_18 : decode cX9_mend 18 = .ok (.aload_n 0, 1) := by decide +kernel
theorem dX9_mend_19 : decode cX9_mend 19 = .ok (.getfield 13, 3) := by decide +kernel
theorem dX9_mend_22 : decode cX9_mend 22 = .ok (.iconst 5, 1) := by decide +kernel
theorem dX9_mend_23 : decode cX9_mend 23 = .ok (.iload_n 1, 1) := by decide +kernel
theorem dX9_mend_24 : decode cX9_mend 24 = .ok (.imul, 1) := by decide +kernel
theorem dX9_mend_25 : decode cX9_mend 25 = .ok (.iconst 3, 1) := by decide +kernel
theorem dX9_mend_26 : decode cX9_mend 26 = .ok (.iadd, 1) := by decide +kernel
theorem dX9_mend_27 : decode cX9_mend 27 = .ok (.iaload, 1) := by decide +kernel
theorem dX9_mend_28 : decode cX9_mend 28 = .ok (.imul, 1) := by decide +kernel
theorem dX9_mend_29 : decode cX9_mend 29 = .ok (.aload_n 0, 1) := by decide +kernel
theorem dX9_mend_30 : decode cX9_mend 30 = .ok (.getfield 13, 3) := by decide +kernel
theorem dX9_mend_33 : decode cX9_mend 33 = .ok (.iconst 5, 1) := by decide +kernel
theorem dX9_mend_34 : decode cX9_mend 34 = .ok (.iload_n 1, 1) := by decide +kernel
theorem dX9_mend_35 : decode cX9_mend 35 = .ok (.imul, 1) := by decide +kernel
theorem dX9_mend_36 : decode cX9_mend 36 = .ok (.iconst 4, 1) := by decide +kernel
theorem dX9_mend_37 : decode cX9_mend 37 = .ok (.iadd, 1) := by decide +kernel
theorem dX9_mend_38 : decode cX9_mend 38 = .ok (.iaload, 1) := by decide +kernel
theorem dX9_mend_39 : decode cX9_mend 39 = .ok (.iadd, 1) := by decide +kernel
theorem dX9_mend_40 : decode cX9_mend 40 = .ok (.istore_n 3, 1) := by decide +kernel
theorem dX9_mend_41 : decode cX9_mend 41 = .ok (.iload_n 2, 1) := by decide +kernel
theorem dX9_mend_42 : decode cX9_mend 42 = .ok (.ifCond .lt 8, 3) := by decide +kernel
theorem dX9_mend_45 : decode cX9_mend 45 = .ok (.iload_n 2, 1) := by decide +kernel
theorem dX9_mend_46 : decode cX9_mend 46 = .ok (.iload_n 3, 1) := by decide +kernel
theorem dX9_mend_47 : decode cX9_mend 47 = .ok (.if_icmp .ne 15, 3) := by decide +kernel
theorem dX9_mend_50 : decode cX9_mend 50 = .ok (.iload_n 2, 1) := by decide +kernel
theorem dX9_mend_51 : decode cX9_mend 51 = .ok (.ifCond .ge 8, 3) := by decide +kernel
theorem dX9_mend_54 : decode cX9_mend 54 = .ok (.bipush (-4), 2) := by decide +kernel
theorem dX9_mend_56 : decode cX9_mend 56 = .ok (.goto 5, 3) := by decide +kernel
theorem dX9_mend_59 : decode cX9_mend 59 = .ok (.bipush (-2), 2) := by decide +kernel
theorem dX9_mend_61 : decode cX9_mend 61 = .ok (.ireturn, 1) := by decide +kernel
theorem dX9_mend_62 : decode cX9_mend 62 = .ok (.aload_n 0, 1) := by decide +kernel
theorem dX9_mend_63 : decode cX9_mend 63 = .ok (.invokevirtual 91, 3) := by decide +kernel
theorem dX9_mend_66 : decode cX9_mend 66 = .ok (.aload_n 0, 1) := by decide +kernel
theorem dX9_mend_67 : decode cX9_mend 67 = .ok (.getfield 13, 3) := by decide +kernel
theorem dX9_mend_70 : decode cX9_mend 70 = .ok (.iconst 5, 1) := by decide +kernel
theorem dX9_mend_71 : decode cX9_mend 71 = .ok (.iload_n 1, 1) := by decide +kernel
theorem dX9_mend_72 : decode cX9_mend 72 = .ok (.imul, 1) := by decide +kernel
theorem dX9_mend_73 : decode cX9_mend 73 = .ok (.iconst 3, 1) := by decide +kernel
theorem dX9_mend_74 : decode cX9_mend 74 = .ok (.iadd, 1) := by decide +kernel
theorem dX9_mend_75 : decode cX9_mend 75 = .ok (.iload_n 2, 1) := by decide +kernel
theorem dX9_mend_76 : decode cX9_mend 76 = .ok (.bipush 100, 2) := by decide +kernel
theorem dX9_mend_78 : decode cX9_mend 78 = .ok (.idiv, 1) := by decide +kernel
theorem dX9_mend_79 : decode cX9_mend 79 = .ok (.iastore, 1) := by decide +kernel
theorem dX9_mend_80 : decode cX9_mend 80 = .ok (.aload_n 0, 1) := by decide +kernel
theorem dX9_mend_81 : decode cX9_mend 81 = .ok (.getfield 13, 3) := by decide +kernel
theorem dX9_mend_84 : decode cX9_mend 84 = .ok (.iconst 5, 1) := by decide +kernel
theorem dX9_mend_85 : decode cX9_mend 85 = .ok (.iload_n 1, 1) := by decide +kernel
theorem dX9_mend_86 : decode cX9_mend 86 = .ok (.imul, 1) := by decide +kernel
theorem dX9_mend_87 : decode cX9_mend 87 = .ok (.iconst 4, 1) := by decide +kernel
theorem dX9_mend_88 : decode cX9_mend 88 = .ok (.iadd, 1) := by decide +kernel
theorem dX9_mend_89 : decode cX9_mend 89 = .ok (.iload_n 2, 1) := by decide +kernel
theorem dX9_mend_90 : decode cX9_mend 90 = .ok (.bipush 100, 2) := by decide +kernel
theorem dX9_mend_92 : decode cX9_mend 92 = .ok (.irem, 1) := by decide +kernel
theorem dX9_mend_93 : decode cX9_mend 93 = .ok (.iastore, 1) := by decide +kernel
theorem dX9_mend_94 : decode cX9_mend 94 = .ok (.iload_n 2, 1) := by decide +kernel
theorem dX9_mend_95 : decode cX9_mend 95 = .ok (.bipush 100, 2) := by decide +kernel
theorem dX9_mend_97 : decode cX9_mend 97 = .ok (.irem, 1) := by decide +kernel
theorem dX9_mend_98 : decode cX9_mend 98 = .ok (.iload_n 3, 1) := by decide +kernel
theorem dX9_mend_99 : decode cX9_mend 99 = .ok (.bipush 100, 2) := by decide +kernel
theorem dX9_mend_101 : decode cX9_mend 101 = .ok (.irem, 1) := by decide +kernel
theorem dX9_mend_102 : decode cX9_mend 102 = .ok (.invokestatic 105, 3) := by decide +kernel
theorem dX9_mend_105 : decode cX9_mend 105 = .ok (.ireturn, 1) := by decide +kernel
theorem dX9_isSight_0 : decode cX9_isSight 0 = .ok (.iload_n 0, 1) := by decide +kernel
theorem dX9_isSight_1 : decode cX9_isSight 1 = .ok (.iconst 0, 1) := by decide +kernel
theorem dX9_isSight_2 : decode cX9_isSight 2 = .ok (.iconst 2, 1) := by decide +kernel
theorem dX9_isSight_3 : decode cX9_isSight 3 = .ok (.invokestatic 54, 3) := by decide +kernel
theorem dX9_isSight_6 : decode cX9_isSight 6 = .ok (.ifCond .eq 35, 3) := by decide +kernel
theorem dX9_isSight_9 : decode cX9_isSight 9 = .ok (.iload_n 1, 1) := by decide +kernel
theorem dX9_isSight_10 : decode cX9_isSight 10 = .ok (.iconst 0, 1) := by decide +kernel
theorem dX9_isSight_11 : decode cX9_isSight 11 = .ok (.bipush 60, 2) := by decide +kernel
theorem dX9_isSight_13 : decode cX9_isSight 13 = .ok (.invokestatic 54, 3) := by decide +kernel
theorem dX9_isSight_16 : decode cX9_isSight 16 = .ok (.ifCond .eq 25, 3) := by decide +kernel
theorem dX9_isSight_19 : decode cX9_isSight 19 = .ok (.iload_n 2, 1) := by decide +kernel
theorem dX9_isSight_20 : decode cX9_isSight 20 = .ok (.iload_n 1, 1) := by decide +kernel
theorem dX9_isSight_21 : decode cX9_isSight 21 = .ok (.bipush 60, 2) := by decide +kernel
theorem dX9_isSight_23 : decode cX9_isSight 23 = .ok (.invokestatic 54, 3) := by decide +kernel
theorem dX9_isSight_26 : decode cX9_isSight 26 = .ok (.ifCond .eq 15, 3) := by decide +kernel
theorem dX9_isSight_29 : decode cX9_isSight 29 = .ok (.iload_n 2, 1) := by decide +kernel
theorem dX9_isSight_30 : decode cX9_isSight 30 = .ok (.iload_n 1, 1) := by decide +kernel
theorem dX9_isSight_31 : decode cX9_isSight 31 = .ok (.isub, 1) := by decide +kernel
theorem dX9_isSight_32 : decode cX9_isSight 32 = .ok (.bipush 20, 2) := by decide +kernel
theorem dX9_isSight_34 : decode cX9_isSight 34 = .ok (.if_icmp .ge 7, 3) := by decide +kernel
theorem dX9_isSight_37 : decode cX9_isSight 37 = .ok (.iconst 1, 1) := by decide +kernel
theorem dX9_isSight_38 : decode cX9_isSight 38 = .ok (.goto 4, 3) := by decide +kernel
theorem dX9_isSight_41 : decode cX9_isSight 41 = .ok (.iconst 0, 1) := by decide +kernel
theorem dX9_isSight_42 : decode cX9_isSight 42 = .ok (.ireturn, 1) := by decide +kernel
theorem dX9_seen_0 : decode cX9_seen 0 = .ok (.iconst 0, 1) := by decide +kernel
theorem dX9_seen_1 : decode cX9_seen 1 = .ok (.istore 5, 2) := by decide +kernel
theorem dX9_seen_3 : decode cX9_seen 3 = .ok (.iconst 0, 1) := by decide +kernel
theorem dX9_seen_4 : decode cX9_seen 4 = .ok (.istore 6, 2) := by decide +kernel
theorem dX9_seen_6 : decode cX9_seen 6 = .ok (.iconst 0, 1) := by decide +kernel
theorem dX9_seen_7 : decode cX9_seen 7 = .ok (.istore 7, 2) := by decide +kernel
theorem dX9_seen_9 : decode cX9_seen 9 = .ok (.iload 7, 2) := by decide +kernel
theorem dX9_seen_11 : decode cX9_seen 11 = .ok (.aload_n 0, 1) := by decide +kernel
theorem dX9_seen_12 : decode cX9_seen 12 = .ok (.getfield 38, 3) := by decide +kernel
theorem dX9_seen_15 : decode cX9_seen 15 = .ok (.if_icmp .ge 93, 3) := by decide +kernel
theorem dX9_seen_18 : decode cX9_seen 18 = .ok (.aload_n 0, 1) := by decide +kernel
theorem dX9_seen_19 : decode cX9_seen 19 = .ok (.getfield 13, 3) := by decide +kernel
theorem dX9_seen_22 : decode cX9_seen 22 = .ok (.iconst 5, 1) := by decide +kernel
theorem dX9_seen_23 : decode cX9_seen 23 = .ok (.iload 7, 2) := by decide +kernel
theorem dX9_seen_25 : decode cX9_seen 25 = .ok (.imul, 1) := by decide +kernel
theorem dX9_seen_26 : decode cX9_seen 26 = .ok (.iaload, 1) := by decide +kernel
theorem dX9_seen_27 : decode cX9_seen 27 = .ok (.iload 4, 2) := by decide +kernel
theorem dX9_seen_29 : decode cX9_seen 29 = .ok (.iadd, 1) := by decide +kernel
theorem dX9_seen_30 : decode cX9_seen 30 = .ok (.iload_n 2, 1) := by decide +kernel
theorem dX9_seen_31 : decode cX9_seen 31 = .ok (.isub, 1) := by decide +kernel
theorem dX9_seen_32 : decode cX9_seen 32 = .ok (.istore 8, 2) := by decide +kernel
theorem dX9_seen_34 : decode cX9_seen 34 = .ok (.iload 8, 2) := by decide +kernel
theorem dX9_seen_36 : decode cX9_seen 36 = .ok (.iconst 0, 1) := by decide +kernel
theorem dX9_seen_37 : decode cX9_seen 37 = .ok (.iload_n 3, 1) := by decide +kernel
theorem dX9_seen_38 : decode cX9_seen 38 = .ok (.iload_n 2, 1) := by decide +kernel
theorem dX9_seen_39 : decode cX9_seen 39 = .ok (.isub, 1) := by decide +kernel
theorem dX9_seen_40 : decode cX9_seen 40 = .ok (.invokestatic 54, 3) := by decide +kernel
theorem dX9_seen_43 : decode cX9_seen 43 = .ok (.ifCond .eq 59, 3) := by decide +kernel
theorem dX9_seen_46 : decode cX9_seen 46 = .ok (.iload 5, 2) := by decide +kernel
theorem dX9_seen_48 : decode cX9_seen 48 = .ok (.aload_n 0, 1) := by decide +kernel
theorem dX9_seen_49 : decode cX9_seen 49 = .ok (.getfield 13, 3) := by decide +kernel
theorem dX9_seen_52 : decode cX9_seen 52 = .ok (.iconst 5, 1) := by decide +kernel
theorem dX9_seen_53 : decode cX9_seen 53 = .ok (.iload 7, 2) := by decide +kernel
theorem dX9_seen_55 : decode cX9_seen 55 = .ok (.imul, 1) := by decide +kernel
theorem dX9_seen_56 : decode cX9_seen 56 = .ok (.iconst 1, 1) := by decide +kernel
theorem dX9_seen_57 : decode cX9_seen 57 = .ok (.iadd, 1) := by decide +kernel
theorem dX9_seen_58 : decode cX9_seen 58 = .ok (.iaload, 1) := by decide +kernel
theorem dX9_seen_59 : decode cX9_seen 59 = .ok (.iload_n 1, 1) := by decide +kernel
theorem dX9_seen_60 : decode cX9_seen 60 = .ok (.if_icmp .ne 10, 3) := by decide +kernel
theorem dX9_seen_63 : decode cX9_seen 63 = .ok (.iconst 1, 1) := by decide +kernel
theorem dX9_seen_64 : decode cX9_seen 64 = .ok (.iload 8, 2) := by decide +kernel
theorem dX9_seen_66 : decode cX9_seen 66 = .ok (.ishl, 1) := by decide +kernel
theorem dX9_seen_67 : decode cX9_seen 67 = .ok (.goto 4, 3) := by decide +kernel
theorem dX9_seen_70 : decode cX9_seen 70 = .ok (.iconst 0, 1) := by decide +kernel
theorem dX9_seen_71 : decode cX9_seen 71 = .ok (.ior, 1) := by decide +kernel
theorem dX9_seen_72 : decode cX9_seen 72 = .ok (.istore 5, 2) := by decide +kernel
theorem dX9_seen_74 : decode cX9_seen 74 = .ok (.iload 6, 2) := by decide +kernel
theorem dX9_seen_76 : decode cX9_seen 76 = .ok (.aload_n 0, 1) := by decide +kernel
theorem dX9_seen_77 : decode cX9_seen 77 = .ok (.getfield 13, 3) := by decide +kernel
theorem dX9_seen_80 : decode cX9_seen 80 = .ok (.iconst 5, 1) := by decide +kernel
theorem dX9_seen_81 : decode cX9_seen 81 = .ok (.iload 7, 2) := by decide +kernel
theorem dX9_seen_83 : decode cX9_seen 83 = .ok (.imul, 1) := by decide +kernel
theorem dX9_seen_84 : decode cX9_seen 84 = .ok (.iconst 1, 1) := by decide +kernel
theorem dX9_seen_85 : decode cX9_seen 85 = .ok (.iadd, 1) := by decide +kernel
theorem dX9_seen_86 : decode cX9_seen 86 = .ok (.iaload, 1) := by decide +kernel
theorem dX9_seen_87 : decode cX9_seen 87 = .ok (.iload_n 1, 1) := by decide +kernel
theorem dX9_seen_88 : decode cX9_seen 88 = .ok (.if_icmp .le 10, 3) := by decide +kernel
theorem dX9_seen_91 : decode cX9_seen 91 = .ok (.iconst 1, 1) := by decide +kernel
theorem dX9_seen_92 : decode cX9_seen 92 = .ok (.iload 8, 2) := by decide +kernel
theorem dX9_seen_94 : decode cX9_seen 94 = .ok (.ishl, 1) := by decide +kernel
theorem dX9_seen_95 : decode cX9_seen 95 = .ok (.goto 4, 3) := by decide +kernel
theorem dX9_seen_98 : decode cX9_seen 98 = .ok (.iconst 0, 1) := by decide +kernel
theorem dX9_seen_99 : decode cX9_seen 99 = .ok (.ior, 1) := by decide +kernel
theorem dX9_seen_100 : decode cX9_seen 100 = .ok (.istore 6, 2) := by decide +kernel
theorem dX9_seen_102 : decode cX9_seen 102 = .ok (.iinc 7 1, 3) := by decide +kernel
theorem dX9_seen_105 : decode cX9_seen 105 = .ok (.goto (-96), 3) := by decide +kernel
theorem dX9_seen_108 : decode cX9_seen 108 = .ok (.iload 5, 2) := by decide +kernel
theorem dX9_seen_110 : decode cX9_seen 110 = .ok (.iload 6, 2) := by decide +kernel
theorem dX9_seen_112 : decode cX9_seen 112 = .ok (.iconst (-1), 1) := by decide +kernel
theorem dX9_seen_113 : decode cX9_seen 113 = .ok (.ixor, 1) := by decide +kernel
theorem dX9_seen_114 : decode cX9_seen 114 = .ok (.iand, 1) := by decide +kernel
theorem dX9_seen_115 : decode cX9_seen 115 = .ok (.ireturn, 1) := by decide +kernel
theorem dX9_sees_0 : decode cX9_sees 0 = .ok (.iload_n 1, 1) := by decide +kernel
theorem dX9_sees_1 : decode cX9_sees 1 = .ok (.iload_n 2, 1) := by decide +kernel
theorem dX9_sees_2 : decode cX9_sees 2 = .ok (.iload_n 3, 1) := by decide +kernel
theorem dX9_sees_3 : decode cX9_sees 3 = .ok (.invokestatic 157, 3) := by decide +kernel
theorem dX9_sees_6 : decode cX9_sees 6 = .ok (.ifCond .eq 20, 3) := by decide +kernel
theorem dX9_sees_9 : decode cX9_sees 9 = .ok (.aload_n 0, 1) := by decide +kernel
theorem dX9_sees_10 : decode cX9_sees 10 = .ok (.iload_n 1, 1) := by decide +kernel
theorem dX9_sees_11 : decode cX9_sees 11 = .ok (.iload_n 2, 1) := by decide +kernel
theorem dX9_sees_12 : decode cX9_sees 12 = .ok (.iload_n 3, 1) := by decide +kernel
theorem dX9_sees_13 : decode cX9_sees 13 = .ok (.aload_n 0, 1) := by decide +kernel
theorem dX9_sees_14 : decode cX9_sees 14 = .ok (.getfield 13, 3) := by decide +kernel
theorem dX9_sees_17 : decode cX9_sees 17 = .ok (.bipush 43, 2) := by decide +kernel
theorem dX9_sees_19 : decode cX9_sees 19 = .ok (.iaload, 1) := by decide +kernel
theorem dX9_sees_20 : decode cX9_sees 20 = .ok (.invokevirtual 160, 3) := by decide +kernel
theorem dX9_sees_23 : decode cX9_sees 23 = .ok (.goto 4, 3) := by decide +kernel
theorem dX9_sees_26 : decode cX9_sees 26 = .ok (.iconst (-1), 1) := by decide +kernel
theorem dX9_sees_27 : decode cX9_sees 27 = .ok (.ireturn, 1) := by decide +kernel
theorem dX9_eye_0 : decode cX9_eye 0 = .ok (.iload_n 1, 1) := by decide +kernel
theorem dX9_eye_1 : decode cX9_eye 1 = .ok (.iconst 0, 1) := by decide +kernel
theorem dX9_eye_2 : decode cX9_eye 2 = .ok (.iconst 1, 1) := by decide +kernel
theorem dX9_eye_3 : decode cX9_eye 3 = .ok (.invokestatic 54, 3) := by decide +kernel
theorem dX9_eye_6 : decode cX9_eye 6 = .ok (.ifCond .eq 32, 3) := by decide +kernel
theorem dX9_eye_9 : decode cX9_eye 9 = .ok (.iload_n 2, 1) := by decide +kernel
theorem dX9_eye_10 : decode cX9_eye 10 = .ok (.iload_n 3, 1) := by decide +kernel
theorem dX9_eye_11 : decode cX9_eye 11 = .ok (.iload 4, 2) := by decide +kernel
theorem dX9_eye_13 : decode cX9_eye 13 = .ok (.invokestatic 157, 3) := by decide +kernel
theorem dX9_eye_16 : decode cX9_eye 16 = .ok (.ifCond .eq 22, 3) := by decide +kernel
theorem dX9_eye_19 : decode cX9_eye 19 = .ok (.iload 5, 2) := by decide +kernel
theorem dX9_eye_21 : decode cX9_eye 21 = .ok (.iconst 0, 1) := by decide +kernel
theorem dX9_eye_22 : decode cX9_eye 22 = .ok (.iconst 1, 1) := by decide +kernel
theorem dX9_eye_23 : decode cX9_eye 23 = .ok (.iload 4, 2) := by decide +kernel
theorem dX9_eye_25 : decode cX9_eye 25 = .ok (.iload_n 3, 1) := by decide +kernel
theorem dX9_eye_26 : decode cX9_eye 26 = .ok (.isub, 1) := by decide +kernel
theorem dX9_eye_27 : decode cX9_eye 27 = .ok (.iconst 1, 1) := by decide +kernel
theorem dX9_eye_28 : decode cX9_eye 28 = .ok (.iadd, 1) := by decide +kernel
theorem dX9_eye_29 : decode cX9_eye 29 = .ok (.ishl, 1) := by decide +kernel
theorem dX9_eye_30 : decode cX9_eye 30 = .ok (.iconst 1, 1) := by decide +kernel
theorem dX9_eye_31 : decode cX9_eye 31 = .ok (.isub, 1) := by decide +kernel
theorem dX9_eye_32 : decode cX9_eye 32 = .ok (.invokestatic 54, 3) := by decide +kernel
theorem dX9_eye_35 : decode cX9_eye 35 = .ok (.ifCond .ne 5, 3) := by decide +kernel
theorem dX9_eye_38 : decode cX9_eye 38 = .ok (.iconst (-1), 1) := by decide +kernel
theorem dX9_eye_39 : decode cX9_eye 39 = .ok (.ireturn, 1) := by decide +kernel
theorem dX9_eye_40 : decode cX9_eye 40 = .ok (.aload_n 0, 1) := by decide +kernel
theorem dX9_eye_41 : decode cX9_eye 41 = .ok (.getfield 22, 3) := by decide +kernel
theorem dX9_eye_44 : decode cX9_eye 44 = .ok (.iconst 5, 1) := by decide +kernel
theorem dX9_eye_45 : decode cX9_eye 45 = .ok (.iload_n 1, 1) := by decide +kernel
theorem dX9_eye_46 : decode cX9_eye 46 = .ok (.imul, 1) := by decide +kernel
theorem dX9_eye_47 : decode cX9_eye 47 = .ok (.iconst 1, 1) := by decide +kernel
theorem dX9_eye_48 : decode cX9_eye 48 = .ok (.iastore, 1) := by decide +kernel
theorem dX9_eye_49 : decode cX9_eye 49 = .ok (.aload_n 0, 1) := by decide +kernel
theorem dX9_eye_50 : decode cX9_eye 50 = .ok (.getfield 22, 3) := by decide +kernel
theorem dX9_eye_53 : decode cX9_eye 53 = .ok (.iconst 5, 1) := by decide +kernel
theorem dX9_eye_54 : decode cX9_eye 54 = .ok (.iload_n 1, 1) := by decide +kernel
theorem dX9_eye_55 : decode cX9_eye 55 = .ok (.imul, 1) := by decide +kernel
theorem dX9_eye_56 : decode cX9_eye 56 = .ok (.iconst 1, 1) := by decide +kernel
theorem dX9_eye_57 : decode cX9_eye 57 = .ok (.iadd, 1) := by decide +kernel
theorem dX9_eye_58 : decode cX9_eye 58 = .ok (.iload_n 2, 1) := by decide +kernel
theorem dX9_eye_59 : decode cX9_eye 59 = .ok (.iastore, 1) := by decide +kernel
theorem dX9_eye_60 : decode cX9_eye 60 = .ok (.aload_n 0, 1) := by decide +kernel
theorem dX9_eye_61 : decode cX9_eye 61 = .ok (.getfield 22, 3) := by decide +kernel
theorem dX9_eye_64 : decode cX9_eye 64 = .ok (.iconst 5, 1) := by decide +kernel
theorem dX9_eye_65 : decode cX9_eye 65 = .ok (.iload_n 1, 1) := by decide +kernel
theorem dX9_eye_66 : decode cX9_eye 66 = .ok (.imul, 1) := by decide +kernel
theorem dX9_eye_67 : decode cX9_eye 67 = .ok (.iconst 2, 1) := by decide +kernel
theorem dX9_eye_68 : decode cX9_eye 68 = .ok (.iadd, 1) := by decide +kernel
theorem dX9_eye_69 : decode cX9_eye 69 = .ok (.iload_n 3, 1) := by decide +kernel
theorem dX9_eye_70 : decode cX9_eye 70 = .ok (.iastore, 1) := by decide +kernel
theorem dX9_eye_71 : decode cX9_eye 71 = .ok (.aload_n 0, 1) := by decide +kernel
theorem dX9_eye_72 : decode cX9_eye 72 = .ok (.getfield 22, 3) := by decide +kernel
theorem dX9_eye_75 : decode cX9_eye 75 = .ok (.iconst 5, 1) := by decide +kernel
theorem dX9_eye_76 : decode cX9_eye 76 = .ok (.iload_n 1, 1) := by decide +kernel
theorem dX9_eye_77 : decode cX9_eye 77 = .ok (.imul, 1) := by decide +kernel
theorem dX9_eye_78 : decode cX9_eye 78 = .ok (.iconst 3, 1) := by decide +kernel
theorem dX9_eye_79 : decode cX9_eye 79 = .ok (.iadd, 1) := by decide +kernel
theorem dX9_eye_80 : decode cX9_eye 80 = .ok (.iload 4, 2) := by decide +kernel
theorem dX9_eye_82 : decode cX9_eye 82 = .ok (.iastore, 1) := by decide +kernel
theorem dX9_eye_83 : decode cX9_eye 83 = .ok (.aload_n 0, 1) := by decide +kernel
theorem dX9_eye_84 : decode cX9_eye 84 = .ok (.getfield 22, 3) := by decide +kernel
theorem dX9_eye_87 : decode cX9_eye 87 = .ok (.iconst 5, 1) := by decide +kernel
theorem dX9_eye_88 : decode cX9_eye 88 = .ok (.iload_n 1, 1) := by decide +kernel
theorem dX9_eye_89 : decode cX9_eye 89 = .ok (.imul, 1) := by decide +kernel
theorem dX9_eye_90 : decode cX9_eye 90 = .ok (.iconst 4, 1) := by decide +kernel
theorem dX9_eye_91 : decode cX9_eye 91 = .ok (.iadd, 1) := by decide +kernel
theorem dX9_eye_92 : decode cX9_eye 92 = .ok (.iload 5, 2) := by decide +kernel
theorem dX9_eye_94 : decode cX9_eye 94 = .ok (.iastore, 1) := by decide +kernel
theorem dX9_eye_95 : decode cX9_eye 95 = .ok (.aload_n 0, 1) := by decide +kernel
theorem dX9_eye_96 : decode cX9_eye 96 = .ok (.getfield 22, 3) := by decide +kernel
theorem dX9_eye_99 : decode cX9_eye 99 = .ok (.iconst 0, 1) := by decide +kernel
theorem dX9_eye_100 : decode cX9_eye 100 = .ok (.iaload, 1) := by decide +kernel
theorem dX9_eye_101 : decode cX9_eye 101 = .ok (.aload_n 0, 1) := by decide +kernel
theorem dX9_eye_102 : decode cX9_eye 102 = .ok (.getfield 22, 3) := by decide +kernel
theorem dX9_eye_105 : decode cX9_eye 105 = .ok (.iconst 5, 1) := by decide +kernel
theorem dX9_eye_106 : decode cX9_eye 106 = .ok (.iaload, 1) := by decide +kernel
theorem dX9_eye_107 : decode cX9_eye 107 = .ok (.iadd, 1) := by decide +kernel
theorem dX9_eye_108 : decode cX9_eye 108 = .ok (.ireturn, 1) := by decide +kernel
theorem dX9_forget_0 : decode cX9_forget 0 = .ok (.aload_n 0, 1) := by decide +kernel
theorem dX9_forget_1 : decode cX9_forget 1 = .ok (.getfield 22, 3) := by decide +kernel
theorem dX9_forget_4 : decode cX9_forget 4 = .ok (.iconst 0, 1) := by decide +kernel
theorem dX9_forget_5 : decode cX9_forget 5 = .ok (.iaload, 1) := by decide +kernel
theorem dX9_forget_6 : decode cX9_forget 6 = .ok (.aload_n 0, 1) := by decide +kernel
theorem dX9_forget_7 : decode cX9_forget 7 = .ok (.getfield 22, 3) := by decide +kernel
theorem dX9_forget_10 : decode cX9_forget 10 = .ok (.iconst 5, 1) := by decide +kernel
theorem dX9_forget_11 : decode cX9_forget 11 = .ok (.iaload, 1) := by decide +kernel
theorem dX9_forget_12 : decode cX9_forget 12 = .ok (.iadd, 1) := by decide +kernel
theorem dX9_forget_13 : decode cX9_forget 13 = .ok (.istore_n 1, 1) := by decide +kernel
theorem dX9_forget_14 : decode cX9_forget 14 = .ok (.aload_n 0, 1) := by decide +kernel
theorem dX9_forget_15 : decode cX9_forget 15 = .ok (.getfield 22, 3) := by decide +kernel
theorem dX9_forget_18 : decode cX9_forget 18 = .ok (.iconst 0, 1) := by decide +kernel
theorem dX9_forget_19 : decode cX9_forget 19 = .ok (.iconst 0, 1) := by decide +kernel
theorem dX9_forget_20 : decode cX9_forget 20 = .ok (.iastore, 1) := by decide +kernel
theorem dX9_forget_21 : decode cX9_forget 21 = .ok (.aload_n 0, 1) := by decide +kernel
theorem dX9_forget_22 : decode cX9_forget 22 = .ok (.getfield 22, 3) := by decide +kernel
theorem dX9_forget_25 : decode cX9_forget 25 = .ok (.iconst 5, 1) := by decide +kernel
theorem dX9_forget_26 : decode cX9_forget 26 = .ok (.iconst 0, 1) := by decide +kernel
theorem dX9_forget_27 : decode cX9_forget 27 = .ok (.iastore, 1) := by decide +kernel
theorem dX9_forget_28 : decode cX9_forget 28 = .ok (.iload_n 1, 1) := by decide +kernel
theorem dX9_forget_29 : decode cX9_forget 29 = .ok (.ireturn, 1) := by decide +kernel
theorem dX9_explains_0 : decode cX9_explains 0 = .ok (.iload_n 1, 1) := by decide +kernel
theorem dX9_explains_1 : decode cX9_explains 1 = .ok (.iconst 0, 1) := by decide +kernel
theorem dX9_explains_2 : decode cX9_explains 2 = .ok (.iconst 1, 1) := by decide +kernel
theorem dX9_explains_3 : decode cX9_explains 3 = .ok (.invokestatic 54, 3) := by decide +kernel
theorem dX9_explains_6 : decode cX9_explains 6 = .ok (.ifCond .ne 5, 3) := by decide +kernel
theorem dX9_explains_9 : decode cX9_explains 9 = .ok (.iconst (-1), 1) := by decide +kernel
theorem dX9_explains_10 : decode cX9_explains 10 = .ok (.ireturn, 1) := by decide +kernel
theorem dX9_explains_11 : decode cX9_explains 11 = .ok (.iconst 0, 1) := by decide +kernel
theorem dX9_explains_12 : decode cX9_explains 12 = .ok (.istore_n 2, 1) := by decide +kernel
theorem dX9_explains_13 : decode cX9_explains 13 = .ok (.bipush (-4), 2) := by decide +kernel
theorem dX9_explains_15 : decode cX9_explains 15 = .ok (.istore_n 3, 1) := by decide +kernel
theorem dX9_explains_16 : decode cX9_explains 16 = .ok (.iconst 0, 1) := by decide +kernel
theorem dX9_explains_17 : decode cX9_explains 17 = .ok (.istore 4, 2) := by decide +kernel
theorem dX9_explains_19 : decode cX9_explains 19 = .ok (.iload 4, 2) := by decide +kernel
theorem dX9_explains_21 : decode cX9_explains 21 = .ok (.bipush 10, 2) := by decide +kernel
theorem dX9_explains_23 : decode cX9_explains 23 = .ok (.if_icmp .ge 163, 3) := by decide +kernel
theorem dX9_explains_26 : decode cX9_explains 26 = .ok (.iconst (-1), 1) := by decide +kernel
theorem dX9_explains_27 : decode cX9_explains 27 = .ok (.istore 5, 2) := by decide +kernel
theorem dX9_explains_29 : decode cX9_explains 29 = .ok (.iload 5, 2) := by decide +kernel
theorem dX9_explains_31 : decode cX9_explains 31 = .ok (.iconst 2, 1) := by decide +kernel
theorem dX9_explains_32 : decode cX9_explains 32 = .ok (.if_icmp .ge 148, 3) := by decide +kernel
theorem dX9_explains_35 : decode cX9_explains 35 = .ok (.iload 5, 2) := by decide +kernel
theorem dX9_explains_37 : decode cX9_explains 37 = .ok (.iload 4, 2) := by decide +kernel
theorem dX9_explains_39 : decode cX9_explains 39 = .ok (.imul, 1) := by decide +kernel
theorem dX9_explains_40 : decode cX9_explains 40 = .ok (.istore 6, 2) := by decide +kernel
theorem dX9_explains_42 : decode cX9_explains 42 = .ok (.iload 4, 2) := by decide +kernel
theorem dX9_explains_44 : decode cX9_explains 44 = .ok (.ifCond .gt 8, 3) := by decide +kernel
theorem dX9_explains_47 : decode cX9_explains 47 = .ok (.iload 5, 2) := by decide +kernel
theorem dX9_explains_49 : decode cX9_explains 49 = .ok (.ifCond .ge 7, 3) := by decide +kernel
theorem dX9_explains_52 : decode cX9_explains 52 = .ok (.iconst 1, 1) := by decide +kernel
theorem dX9_explains_53 : decode cX9_explains 53 = .ok (.goto 4, 3) := by decide +kernel
theorem dX9_explains_56 : decode cX9_explains 56 = .ok (.iconst 0, 1) := by decide +kernel
theorem dX9_explains_57 : decode cX9_explains 57 = .ok (.istore 7, 2) := by decide +kernel
theorem dX9_explains_59 : decode cX9_explains 59 = .ok (.iconst 0, 1) := by decide +kernel
theorem dX9_explains_60 : decode cX9_explains 60 = .ok (.istore 8, 2) := by decide +kernel
theorem dX9_explains_62 : decode cX9_explains 62 = .ok (.iload 8, 2) := by decide +kernel
theorem dX9_explains_64 : decode cX9_explains 64 = .ok (.bipush 10, 2) := by decide +kernel
theorem dX9_explains_66 : decode cX9_explains 66 = .ok (.if_icmp .ge 76, 3) := by decide +kernel
theorem dX9_explains_69 : decode cX9_explains 69 = .ok (.iload 7, 2) := by decide +kernel
theorem dX9_explains_71 : decode cX9_explains 71 = .ok (.ifCond .eq 62, 3) := by decide +kernel
theorem dX9_explains_74 : decode cX9_explains 74 = .ok (.aload_n 0, 1) := by decide +kernel
theorem dX9_explains_75 : decode cX9_explains 75 = .ok (.getfield 22, 3) := by decide +kernel
theorem dX9_explains_78 : decode cX9_explains 78 = .ok (.iload 8, 2) := by decide +kernel
theorem dX9_explains_80 : decode cX9_explains 80 = .ok (.iaload, 1) := by decide +kernel
theorem dX9_explains_81 : decode cX9_explains 81 = .ok (.ifCond .eq 48, 3) := by decide +kernel
theorem dX9_explains_84 : decode cX9_explains 84 = .ok (.aload_n 0, 1) := by decide +kernel
theorem dX9_explains_85 : decode cX9_explains 85 = .ok (.aload_n 0, 1) := by decide +kernel
theorem dX9_explains_86 : decode cX9_explains 86 = .ok (.getfield 22, 3) := by decide +kernel
theorem dX9_explains_89 : decode cX9_explains 89 = .ok (.iload 8, 2) := by decide +kernel
theorem dX9_explains_91 : decode cX9_explains 91 = .ok (.iconst 1, 1) := by decide +kernel
theorem dX9_explains_92 : decode cX9_explains 92 = .ok (.iadd, 1) := by decide +kernel
theorem dX9_explains_93 : decode cX9_explains 93 = .ok (.iaload, 1) := by decide +kernel
theorem dX9_explains_94 : decode cX9_explains 94 = .ok (.aload_n 0, 1) := by decide +kernel
theorem dX9_explains_95 : decode cX9_explains 95 = .ok (.getfield 22, 3) := by decide +kernel
theorem dX9_explains_98 : decode cX9_explains 98 = .ok (.iload 8, 2) := by decide +kernel
theorem dX9_explains_100 : decode cX9_explains 100 = .ok (.iconst 2, 1) := by decide +kernel
theorem dX9_explains_101 : decode cX9_explains 101 = .ok (.iadd, 1) := by decide +kernel
theorem dX9_explains_102 : decode cX9_explains 102 = .ok (.iaload, 1) := by decide +kernel
theorem dX9_explains_103 : decode cX9_explains 103 = .ok (.aload_n 0, 1) := by decide +kernel
theorem dX9_explains_104 : decode cX9_explains 104 = .ok (.getfield 22, 3) := by decide +kernel
theorem dX9_explains_107 : decode cX9_explains 107 = .ok (.iload 8, 2) := by decide +kernel
theorem dX9_explains_109 : decode cX9_explains 109 = .ok (.iconst 3, 1) := by decide +kernel
theorem dX9_explains_110 : decode cX9_explains 110 = .ok (.iadd, 1) := by decide +kernel
theorem dX9_explains_111 : decode cX9_explains 111 = .ok (.iaload, 1) := by decide +kernel
theorem dX9_explains_112 : decode cX9_explains 112 = .ok (.iload 6, 2) := by decide +kernel
theorem dX9_explains_114 : decode cX9_explains 114 = .ok (.invokevirtual 160, 3) := by decide +kernel
theorem dX9_explains_117 : decode cX9_explains 117 = .ok (.aload_n 0, 1) := by decide +kernel
theorem dX9_explains_118 : decode cX9_explains 118 = .ok (.getfield 22, 3) := by decide +kernel
theorem dX9_explains_121 : decode cX9_explains 121 = .ok (.iload 8, 2) := by decide +kernel
theorem dX9_explains_123 : decode cX9_explains 123 = .ok (.iconst 4, 1) := by decide +kernel
theorem dX9_explains_124 : decode cX9_explains 124 = .ok (.iadd, 1) := by decide +kernel
theorem dX9_explains_125 : decode cX9_explains 125 = .ok (.iaload, 1) := by decide +kernel
theorem dX9_explains_126 : decode cX9_explains 126 = .ok (.if_icmp .ne 7, 3) := by decide +kernel
theorem dX9_explains_129 : decode cX9_explains 129 = .ok (.iconst 1, 1) := by decide +kernel
theorem dX9_explains_130 : decode cX9_explains 130 = .ok (.goto 4, 3) := by decide +kernel
theorem dX9_explains_133 : decode cX9_explains 133 = .ok (.iconst 0, 1) := by decide +kernel
theorem dX9_explains_134 : decode cX9_explains 134 = .ok (.istore 7, 2) := by decide +kernel
theorem dX9_explains_136 : decode cX9_explains 136 = .ok (.iinc 8 5, 3) := by decide +kernel
theorem dX9_explains_139 : decode cX9_explains 139 = .ok (.goto (-77), 3) := by decide +kernel
theorem dX9_explains_142 : decode cX9_explains 142 = .ok (.iload 7, 2) := by decide +kernel
theorem dX9_explains_144 : decode cX9_explains 144 = .ok (.ifCond .eq 15, 3) := by decide +kernel
theorem dX9_explains_147 : decode cX9_explains 147 = .ok (.iload_n 2, 1) := by decide +kernel
theorem dX9_explains_148 : decode cX9_explains 148 = .ok (.ifCond .ne 11, 3) := by decide +kernel
theorem dX9_explains_151 : decode cX9_explains 151 = .ok (.iload 6, 2) := by decide +kernel
theorem dX9_explains_153 : decode cX9_explains 153 = .ok (.ldc 101, 2) := by decide +kernel
theorem dX9_explains_155 : decode cX9_explains 155 = .ok (.iadd, 1) := by decide +kernel
theorem dX9_explains_156 : decode cX9_explains 156 = .ok (.goto 4, 3) := by decide +kernel
theorem dX9_explains_159 : decode cX9_explains 159 = .ok (.iload_n 3, 1) := by decide +kernel
theorem dX9_explains_160 : decode cX9_explains 160 = .ok (.istore_n 3, 1) := by decide +kernel
theorem dX9_explains_161 : decode cX9_explains 161 = .ok (.iload_n 2, 1) := by decide +kernel
theorem dX9_explains_162 : decode cX9_explains 162 = .ok (.iload 7, 2) := by decide +kernel
theorem dX9_explains_164 : decode cX9_explains 164 = .ok (.ifCond .eq 7, 3) := by decide +kernel
theorem dX9_explains_167 : decode cX9_explains 167 = .ok (.iconst 1, 1) := by decide +kernel
theorem dX9_explains_168 : decode cX9_explains 168 = .ok (.goto 4, 3) := by decide +kernel
theorem dX9_explains_171 : decode cX9_explains 171 = .ok (.iconst 0, 1) := by decide +kernel
theorem dX9_explains_172 : decode cX9_explains 172 = .ok (.iadd, 1) := by decide +kernel
theorem dX9_explains_173 : decode cX9_explains 173 = .ok (.istore_n 2, 1) := by decide +kernel
theorem dX9_explains_174 : decode cX9_explains 174 = .ok (.iinc 5 2, 3) := by decide +kernel
theorem dX9_explains_177 : decode cX9_explains 177 = .ok (.goto (-148), 3) := by decide +kernel
theorem dX9_explains_180 : decode cX9_explains 180 = .ok (.iinc 4 1, 3) := by decide +kernel
theorem dX9_explains_183 : decode cX9_explains 183 = .ok (.goto (-164), 3) := by decide +kernel
theorem dX9_explains_186 : decode cX9_explains 186 = .ok (.iload_n 1, 1) := by decide +kernel
theorem dX9_explains_187 : decode cX9_explains 187 = .ok (.ifCond .ne 7, 3) := by decide +kernel
theorem dX9_explains_190 : decode cX9_explains 190 = .ok (.iload_n 2, 1) := by decide +kernel
theorem dX9_explains_191 : decode cX9_explains 191 = .ok (.goto 4, 3) := by decide +kernel
theorem dX9_explains_194 : decode cX9_explains 194 = .ok (.iload_n 3, 1) := by decide +kernel
theorem dX9_explains_195 : decode cX9_explains 195 = .ok (.ireturn, 1) := by decide +kernel
theorem dX9_pairsThat_0 : decode cX9_pairsThat 0 = .ok (.iconst 0, 1) := by decide +kernel
theorem dX9_pairsThat_1 : decode cX9_pairsThat 1 = .ok (.istore_n 2, 1) := by decide +kernel
theorem dX9_pairsThat_2 : decode cX9_pairsThat 2 = .ok (.iconst 0, 1) := by decide +kernel
theorem dX9_pairsThat_3 : decode cX9_pairsThat 3 = .ok (.istore_n 3, 1) := by decide +kernel
theorem dX9_pairsThat_4 : decode cX9_pairsThat 4 = .ok (.iload_n 3, 1) := by decide +kernel
theorem dX9_pairsThat_5 : decode cX9_pairsThat 5 = .ok (.aload_n 0, 1) := by decide +kernel
theorem dX9_pairsThat_6 : decode cX9_pairsThat 6 = .ok (.getfield 38, 3) := by decide +kernel
theorem dX9_pairsThat_9 : decode cX9_pairsThat 9 = .ok (.if_icmp .ge 108, 3) := by decide +kernel
theorem dX9_pairsThat_12 : decode cX9_pairsThat 12 = .ok (.iconst 0, 1) := by decide +kernel
theorem dX9_pairsThat_13 : decode cX9_pairsThat 13 = .ok (.istore 4, 2) := by decide +kernel
theorem dX9_pairsThat_15 : decode cX9_pairsThat 15 = .ok (.iload 4, 2) := by decide +kernel
theorem dX9_pairsThat_17 : decode cX9_pairsThat 17 = .ok (.aload_n 0, 1) := by decide +kernel
theorem dX9_pairsThat_18 : decode cX9_pairsThat 18 = .ok (.getfield 38, 3) := by decide +kernel
theorem dX9_pairsThat_21 : decode cX9_pairsThat 21 = .ok (.if_icmp .ge 90, 3) := by decide +kernel
theorem dX9_pairsThat_24 : decode cX9_pairsThat 24 = .ok (.iload_n 3, 1) := by decide +kernel
theorem dX9_pairsThat_25 : decode cX9_pairsThat 25 = .ok (.iload 4, 2) := by decide +kernel
theorem dX9_pairsThat_27 : decode cX9_pairsThat 27 = .ok (.if_icmp .eq 78, 3) := by decide +kernel
theorem dX9_pairsThat_30 : decode cX9_pairsThat 30 = .ok (.iload_n 1, 1) := by decide +kernel
theorem dX9_pairsThat_31 : decode cX9_pairsThat 31 = .ok (.bipush 8, 2) := by decide +kernel
theorem dX9_pairsThat_33 : decode cX9_pairsThat 33 = .ok (.if_icmp .eq 9, 3) := by decide +kernel
theorem dX9_pairsThat_36 : decode cX9_pairsThat 36 = .ok (.iload_n 3, 1) := by decide +kernel
theorem dX9_pairsThat_37 : decode cX9_pairsThat 37 = .ok (.iload 4, 2) := by decide +kernel
theorem dX9_pairsThat_39 : decode cX9_pairsThat 39 = .ok (.if_icmp .ge 66, 3) := by decide +kernel
theorem dX9_pairsThat_42 : decode cX9_pairsThat 42 = .ok (.iload_n 1, 1) := by decide +kernel
theorem dX9_pairsThat_43 : decode cX9_pairsThat 43 = .ok (.bipush 6, 2) := by decide +kernel
theorem dX9_pairsThat_45 : decode cX9_pairsThat 45 = .ok (.if_icmp .ne 22, 3) := by decide +kernel
theorem dX9_pairsThat_48 : decode cX9_pairsThat 48 = .ok (.aload_n 0, 1) := by decide +kernel
theorem dX9_pairsThat_49 : decode cX9_pairsThat 49 = .ok (.iload_n 3, 1) := by decide +kernel
theorem dX9_pairsThat_50 : decode cX9_pairsThat 50 = .ok (.iload 4, 2) := by decide +kernel
theorem dX9_pairsThat_52 : decode cX9_pairsThat 52 = .ok (.iconst 0, 1) := by decide +kernel
theorem dX9_pairsThat_53 : decode cX9_pairsThat 53 = .ok (.invokevirtual 123, 3) := by decide +kernel
theorem dX9_pairsThat_56 : decode cX9_pairsThat 56 = .ok (.ifCond .le 7, 3) := by decide +kernel
theorem dX9_pairsThat_59 : decode cX9_pairsThat 59 = .ok (.iconst 1, 1) := by decide +kernel
theorem dX9_pairsThat_60 : decode cX9_pairsThat 60 = .ok (.goto 30, 3) := by decide +kernel
theorem dX9_pairsThat_63 : decode cX9_pairsThat 63 = .ok (.iconst 0, 1) := by decide +kernel
theorem dX9_pairsThat_64 : decode cX9_pairsThat 64 = .ok (.goto 26, 3) := by decide +kernel
theorem dX9_pairsThat_67 : decode cX9_pairsThat 67 = .ok (.iload_n 1, 1) := by decide +kernel
theorem dX9_pairsThat_68 : decode cX9_pairsThat 68 = .ok (.bipush 7, 2) := by decide +kernel
theorem dX9_pairsThat_70 : decode cX9_pairsThat 70 = .ok (.if_icmp .ne 13, 3) := by decide +kernel
theorem dX9_pairsThat_73 : decode cX9_pairsThat 73 = .ok (.aload_n 0, 1) := by decide +kernel
theorem dX9_pairsThat_74 : decode cX9_pairsThat 74 = .ok (.iload_n 3, 1) := by decide +kernel
theorem dX9_pairsThat_75 : decode cX9_pairsThat 75 = .ok (.iload 4, 2) := by decide +kernel
theorem dX9_pairsThat_77 : decode cX9_pairsThat 77 = .ok (.invokevirtual 127, 3) := by decide +kernel
theorem dX9_pairsThat_80 : decode cX9_pairsThat 80 = .ok (.goto 10, 3) := by decide +kernel
theorem dX9_pairsThat_83 : decode cX9_pairsThat 83 = .ok (.aload_n 0, 1) := by decide +kernel
theorem dX9_pairsThat_84 : decode cX9_pairsThat 84 = .ok (.iload_n 3, 1) := by decide +kernel
theorem dX9_pairsThat_85 : decode cX9_pairsThat 85 = .ok (.iload 4, 2) := by decide +kernel
theorem dX9_pairsThat_87 : decode cX9_pairsThat 87 = .ok (.invokevirtual 130, 3) := by decide +kernel
theorem dX9_pairsThat_90 : decode cX9_pairsThat 90 = .ok (.istore 5, 2) := by decide +kernel
theorem dX9_pairsThat_92 : decode cX9_pairsThat 92 = .ok (.iload_n 2, 1) := by decide +kernel
theorem dX9_pairsThat_93 : decode cX9_pairsThat 93 = .ok (.iload 5, 2) := by decide +kernel
theorem dX9_pairsThat_95 : decode cX9_pairsThat 95 = .ok (.ifCond .eq 7, 3) := by decide +kernel
theorem dX9_pairsThat_98 : decode cX9_pairsThat 98 = .ok (.iconst 1, 1) := by decide +kernel
theorem dX9_pairsThat_99 : decode cX9_pairsThat 99 = .ok (.goto 4, 3) := by decide +kernel
theorem dX9_pairsThat_102 : decode cX9_pairsThat 102 = .ok (.iconst 0, 1) := by decide +kernel
theorem dX9_pairsThat_103 : decode cX9_pairsThat 103 = .ok (.iadd, 1) := by decide +kernel
theorem dX9_pairsThat_104 : decode cX9_pairsThat 104 = .ok (.istore_n 2, 1) := by decide +kernel
theorem dX9_pairsThat_105 : decode cX9_pairsThat 105 = .ok (.iinc 4 1, 3) := by decide +kernel
theorem dX9_pairsThat_108 : decode cX9_pairsThat 108 = .ok (.goto (-93), 3) := by decide +kernel
theorem dX9_pairsThat_111 : decode cX9_pairsThat 111 = .ok (.iinc 3 1, 3) := by decide +kernel
theorem dX9_pairsThat_114 : decode cX9_pairsThat 114 = .ok (.goto (-110), 3) := by decide +kernel
theorem dX9_pairsThat_117 : decode cX9_pairsThat 117 = .ok (.iload_n 2, 1) := by decide +kernel
theorem dX9_pairsThat_118 : decode cX9_pairsThat 118 = .ok (.ireturn, 1) := by decide +kernel
theorem dX9_count_0 : decode cX9_count 0 = .ok (.iload_n 1, 1) := by decide +kernel
theorem dX9_count_1 : decode cX9_count 1 = .ok (.tableswitch 153 0 12 #[67, 72, 77, 77, 77, 87, 98, 98, 98, 104, 109, 114, 125], 67) := by decide +kernel
theorem dX9_count_68 : decode cX9_count 68 = .ok (.aload_n 0, 1) := by decide +kernel
theorem dX9_count_69 : decode cX9_count 69 = .ok (.getfield 38, 3) := by decide +kernel
theorem dX9_count_72 : decode cX9_count 72 = .ok (.ireturn, 1) := by decide +kernel
theorem dX9_count_73 : decode cX9_count 73 = .ok (.aload_n 0, 1) := by decide +kernel
theorem dX9_count_74 : decode cX9_count 74 = .ok (.getfield 34, 3) := by decide +kernel
theorem dX9_count_77 : decode cX9_count 77 = .ok (.ireturn, 1) := by decide +kernel
theorem dX9_count_78 : decode cX9_count 78 = .ok (.aload_n 0, 1) := by decide +kernel
theorem dX9_count_79 : decode cX9_count 79 = .ok (.getfield 13, 3) := by decide +kernel
theorem dX9_count_82 : decode cX9_count 82 = .ok (.bipush 38, 2) := by decide +kernel
theorem dX9_count_84 : decode cX9_count 84 = .ok (.iload_n 1, 1) := by decide +kernel
theorem dX9_count_85 : decode cX9_count 85 = .ok (.iadd, 1) := by decide +kernel
theorem dX9_count_86 : decode cX9_count 86 = .ok (.iaload, 1) := by decide +kernel
theorem dX9_count_87 : decode cX9_count 87 = .ok (.ireturn, 1) := by decide +kernel
theorem dX9_count_88 : decode cX9_count 88 = .ok (.aload_n 0, 1) := by decide +kernel
theorem dX9_count_89 : decode cX9_count 89 = .ok (.getfield 13, 3) := by decide +kernel
theorem dX9_count_92 : decode cX9_count 92 = .ok (.bipush 44, 2) := by decide +kernel
theorem dX9_count_94 : decode cX9_count 94 = .ok (.iaload, 1) := by decide +kernel
theorem dX9_count_95 : decode cX9_count 95 = .ok (.invokestatic 136, 3) := by decide +kernel
theorem dX9_count_98 : decode cX9_count 98 = .ok (.ireturn, 1) := by decide +kernel
theorem dX9_count_99 : decode cX9_count 99 = .ok (.aload_n 0, 1) := by decide +kernel
theorem dX9_count_100 : decode cX9_count 100 = .ok (.iload_n 1, 1) := by decide +kernel
theorem dX9_count_101 : decode cX9_count 101 = .ok (.invokevirtual 164, 3) := by decide +kernel
theorem dX9_count_104 : decode cX9_count 104 = .ok (.ireturn, 1) := by decide +kernel
theorem dX9_count_105 : decode cX9_count 105 = .ok (.aload_n 0, 1) := by decide +kernel
theorem dX9_count_106 : decode cX9_count 106 = .ok (.getfield 88, 3) := by decide +kernel
theorem dX9_count_109 : decode cX9_count 109 = .ok (.ireturn, 1) := by decide +kernel
theorem dX9_count_110 : decode cX9_count 110 = .ok (.aload_n 0, 1) := by decide +kernel
theorem dX9_count_111 : decode cX9_count 111 = .ok (.getfield 41, 3) := by decide +kernel
theorem dX9_count_114 : decode cX9_count 114 = .ok (.ireturn, 1) := by decide +kernel
theorem dX9_count_115 : decode cX9_count 115 = .ok (.aload_n 0, 1) := by decide +kernel
theorem dX9_count_116 : decode cX9_count 116 = .ok (.getfield 13, 3) := by decide +kernel
theorem dX9_count_119 : decode cX9_count 119 = .ok (.bipush 43, 2) := by decide +kernel
theorem dX9_count_121 : decode cX9_count 121 = .ok (.iaload, 1) := by decide +kernel
theorem dX9_count_122 : decode cX9_count 122 = .ok (.ldc 101, 2) := by decide +kernel
theorem dX9_count_124 : decode cX9_count 124 = .ok (.iadd, 1) := by decide +kernel
theorem dX9_count_125 : decode cX9_count 125 = .ok (.ireturn, 1) := by decide +kernel
theorem dX9_count_126 : decode cX9_count 126 = .ok (.iconst 0, 1) := by decide +kernel
theorem dX9_count_127 : decode cX9_count 127 = .ok (.istore_n 2, 1) := by decide +kernel
theorem dX9_count_128 : decode cX9_count 128 = .ok (.iconst 0, 1) := by decide +kernel
theorem dX9_count_129 : decode cX9_count 129 = .ok (.istore_n 3, 1) := by decide +kernel
theorem dX9_count_130 : decode cX9_count 130 = .ok (.iload_n 3, 1) := by decide +kernel
theorem dX9_count_131 : decode cX9_count 131 = .ok (.aload_n 0, 1) := by decide +kernel
theorem dX9_count_132 : decode cX9_count 132 = .ok (.getfield 38, 3) := by decide +kernel
theorem dX9_count_135 : decode cX9_count 135 = .ok (.if_icmp .ge 17, 3) := by decide +kernel
theorem dX9_count_138 : decode cX9_count 138 = .ok (.iload_n 2, 1) := by decide +kernel
theorem dX9_count_139 : decode cX9_count 139 = .ok (.aload_n 0, 1) := by decide +kernel
theorem dX9_count_140 : decode cX9_count 140 = .ok (.iload_n 3, 1) := by decide +kernel
theorem dX9_count_141 : decode cX9_count 141 = .ok (.invokevirtual 111, 3) := by decide +kernel
theorem dX9_count_144 : decode cX9_count 144 = .ok (.iadd, 1) := by decide +kernel
theorem dX9_count_145 : decode cX9_count 145 = .ok (.istore_n 2, 1) := by decide +kernel
theorem dX9_count_146 : decode cX9_count 146 = .ok (.iinc 3 1, 3) := by decide +kernel
theorem dX9_count_149 : decode cX9_count 149 = .ok (.goto (-19), 3) := by decide +kernel
theorem dX9_count_152 : decode cX9_count 152 = .ok (.iload_n 2, 1) := by decide +kernel
theorem dX9_count_153 : decode cX9_count 153 = .ok (.ireturn, 1) := by decide +kernel
theorem dX9_count_154 : decode cX9_count 154 = .ok (.iconst (-1), 1) := by decide +kernel
theorem dX9_count_155 : decode cX9_count 155 = .ok (.ireturn, 1) := by decide +kernel
