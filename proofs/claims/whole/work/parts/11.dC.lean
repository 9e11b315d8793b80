theorem dX7_init_0 : decode cX7_init 0 = .ok (.aload_n 0, 1) := by decide +kernel
theorem dX7_init_1 : decode cX7_init 1 = .ok (.invokespecial 1, 3) := by decide +kernel
theorem dX7_init_4 : decode cX7_init 4 = .ok (.aload_n 0, 1) := by decide +kernel
theorem dX7_init_5 : decode cX7_init 5 = .ok (.bipush 24, 2) := by decide +kernel
theorem dX7_init_7 : decode cX7_init 7 = .ok (.newarray .int, 2) := by decide +kernel
theorem dX7_init_9 : decode cX7_init 9 = .ok (.putfield 7, 3) := by decide +kernel
theorem dX7_init_12 : decode cX7_init 12 = .ok (.aload_n 0, 1) := by decide +kernel
theorem dX7_init_13 : decode cX7_init 13 = .ok (.bipush 24, 2) := by decide +kernel
theorem dX7_init_15 : decode cX7_init 15 = .ok (.newarray .int, 2) := by decide +kernel
theorem dX7_init_17 : decode cX7_init 17 = .ok (.putfield 13, 3) := by decide +kernel
theorem dX7_init_20 : decode cX7_init 20 = .ok (.aload_n 0, 1) := by decide +kernel
theorem dX7_init_21 : decode cX7_init 21 = .ok (.bipush 24, 2) := by decide +kernel
theorem dX7_init_23 : decode cX7_init 23 = .ok (.newarray .int, 2) := by decide +kernel
theorem dX7_init_25 : decode cX7_init 25 = .ok (.putfield 16, 3) := by decide +kernel
theorem dX7_init_28 : decode cX7_init 28 = .ok (.aload_n 0, 1) := by decide +kernel
theorem dX7_init_29 : decode cX7_init 29 = .ok (.bipush 24, 2) := by decide +kernel
theorem dX7_init_31 : decode cX7_init 31 = .ok (.newarray .int, 2) := by decide +kernel
theorem dX7_init_33 : decode cX7_init 33 = .ok (.putfield 19, 3) := by decide +kernel
theorem dX7_init_36 : decode cX7_init 36 = .ok (.aload_n 0, 1) := by decide +kernel
theorem dX7_init_37 : decode cX7_init 37 = .ok (.sipush 144, 3) := by decide +kernel
theorem dX7_init_40 : decode cX7_init 40 = .ok (.newarray .int, 2) := by decide +kernel
theorem dX7_init_42 : decode cX7_init 42 = .ok (.putfield 22, 3) := by decide +kernel
theorem dX7_init_45 : decode cX7_init 45 = .ok (.aload_n 0, 1) := by decide +kernel
theorem dX7_init_46 : decode cX7_init 46 = .ok (.iconst 3, 1) := by decide +kernel
theorem dX7_init_47 : decode cX7_init 47 = .ok (.newarray .int, 2) := by decide +kernel
theorem dX7_init_49 : decode cX7_init 49 = .ok (.putfield 25, 3) := by decide +kernel
theorem dX7_init_52 : decode cX7_init 52 = .ok (.aload_n 0, 1) := by decide +kernel
theorem dX7_init_53 : decode cX7_init 53 = .ok (.iconst 3, 1) := by decide +kernel
theorem dX7_init_54 : decode cX7_init 54 = .ok (.newarray .int, 2) := by decide +kernel
theorem dX7_init_56 : decode cX7_init 56 = .ok (.putfield 28, 3) := by decide +kernel
theorem dX7_init_59 : decode cX7_init 59 = .ok (.aload_n 0, 1) := by decide +kernel
theorem dX7_init_60 : decode cX7_init 60 = .ok (.sipush 5000, 3) := by decide +kernel
theorem dX7_init_63 : decode cX7_init 63 = .ok (.putfield 31, 3) := by decide +kernel
theorem dX7_init_66 : decode cX7_init 66 = .ok (.aload_n 0, 1) := by decide +kernel
theorem dX7_init_67 : decode cX7_init 67 = .ok (.bipush 10, 2) := by decide +kernel
theorem dX7_init_69 : decode cX7_init 69 = .ok (.newarray .int, 2) := by decide +kernel
theorem dX7_init_71 : decode cX7_init 71 = .ok (.putfield 35, 3) := by decide +kernel
theorem dX7_init_74 : decode cX7_init 74 = .ok (.aload_n 0, 1) := by decide +kernel
theorem dX7_init_75 : decode cX7_init 75 = .ok (.bipush 10, 2) := by decide +kernel
theorem dX7_init_77 : decode cX7_init 77 = .ok (.newarray .int, 2) := by decide +kernel
theorem dX7_init_79 : decode cX7_init 79 = .ok (.putfield 38, 3) := by decide +kernel
theorem dX7_init_82 : decode cX7_init 82 = .ok (.aload_n 0, 1) := by decide +kernel
theorem dX7_init_83 : decode cX7_init 83 = .ok (.bipush 10, 2) := by decide +kernel
theorem dX7_init_85 : decode cX7_init 85 = .ok (.newarray .long, 2) := by decide +kernel
theorem dX7_init_87 : decode cX7_init 87 = .ok (.putfield 41, 3) := by decide +kernel
theorem dX7_init_90 : decode cX7_init 90 = .ok (.aload_n 0, 1) := by decide +kernel
theorem dX7_init_91 : decode cX7_init 91 = .ok (.bipush 10, 2) := by decide +kernel
theorem dX7_init_93 : decode cX7_init 93 = .ok (.newarray .long, 2) := by decide +kernel
theorem dX7_init_95 : decode cX7_init 95 = .ok (.putfield 45, 3) := by decide +kernel
theorem dX7_init_98 : decode cX7_init 98 = .ok (.aload_n 0, 1) := by decide +kernel
theorem dX7_init_99 : decode cX7_init 99 = .ok (.bipush 6, 2) := by decide +kernel
theorem dX7_init_101 : decode cX7_init 101 = .ok (.newarray .long, 2) := by decide +kernel
theorem dX7_init_103 : decode cX7_init 103 = .ok (.putfield 48, 3) := by decide +kernel
theorem dX7_init_106 : decode cX7_init 106 = .ok (.aload_n 0, 1) := by decide +kernel
theorem dX7_init_107 : decode cX7_init 107 = .ok (.iconst 4, 1) := by decide +kernel
theorem dX7_init_108 : decode cX7_init 108 = .ok (.newarray .long, 2) := by decide +kernel
theorem dX7_init_110 : decode cX7_init 110 = .ok (.putfield 51, 3) := by decide +kernel
theorem dX7_init_113 : decode cX7_init 113 = .ok (.aload_n 0, 1) := by decide +kernel
theorem dX7_init_114 : decode cX7_init 114 = .ok (.bipush 20, 2) := by decide +kernel
theorem dX7_init_116 : decode cX7_init 116 = .ok (.newarray .int, 2) := by decide +kernel
theorem dX7_init_118 : decode cX7_init 118 = .ok (.putfield 54, 3) := by decide +kernel
theorem dX7_init_121 : decode cX7_init 121 = .ok (.aload_n 0, 1) := by decide +kernel
theorem dX7_init_122 : decode cX7_init 122 = .ok (.bipush 20, 2) := by decide +kernel
theorem dX7_init_124 : decode cX7_init 124 = .ok (.newarray .int, 2) := by decide +kernel
theorem dX7_init_126 : decode cX7_init 126 = .ok (.putfield 57, 3) := by decide +kernel
theorem dX7_init_129 : decode cX7_init 129 = .ok (.aload_n 0, 1) := by decide +kernel
theorem dX7_init_130 : decode cX7_init 130 = .ok (.bipush 20, 2) := by decide +kernel
theorem dX7_init_132 : decode cX7_init 132 = .ok (.newarray .int, 2) := by decide +kernel
theorem dX7_init_134 : decode cX7_init 134 = .ok (.putfield 60, 3) := by decide +kernel
theorem dX7_init_137 : decode cX7_init 137 = .ok (.aload_n 0, 1) := by decide +kernel
theorem dX7_init_138 : decode cX7_init 138 = .ok (.bipush 100, 2) := by decide +kernel
theorem dX7_init_140 : decode cX7_init 140 = .ok (.newarray .int, 2) := by decide +kernel
theorem dX7_init_142 : decode cX7_init 142 = .ok (.putfield 63, 3) := by decide +kernel
theorem dX7_init_145 : decode cX7_init 145 = .ok (.aload_n 0, 1) := by decide +kernel
theorem dX7_init_146 : decode cX7_init 146 = .ok (.bipush 100, 2) := by decide +kernel
theorem dX7_init_148 : decode cX7_init 148 = .ok (.newarray .int, 2) := by decide +kernel
theorem dX7_init_150 : decode cX7_init 150 = .ok (.putfield 66, 3) := by decide +kernel
theorem dX7_init_153 : decode cX7_init 153 = .ok (.aload_n 0, 1) := by decide +kernel
theorem dX7_init_154 : decode cX7_init 154 = .ok (.bipush 100, 2) := by decide +kernel
theorem dX7_init_156 : decode cX7_init 156 = .ok (.newarray .int, 2) := by decide +kernel
theorem dX7_init_158 : decode cX7_init 158 = .ok (.putfield 69, 3) := by decide +kernel
theorem dX7_init_161 : decode cX7_init 161 = .ok (.aload_n 0, 1) := by decide +kernel
theorem dX7_init_162 : decode cX7_init 162 = .ok (.bipush 100, 2) := by decide +kernel
theorem dX7_init_164 : decode cX7_init 164 = .ok (.newarray .boolean, 2) := by decide +kernel
theorem dX7_init_166 : decode cX7_init 166 = .ok (.putfield 72, 3) := by decide +kernel
theorem dX7_init_169 : decode cX7_init 169 = .ok (.aload_n 0, 1) := by decide +kernel
theorem dX7_init_170 : decode cX7_init 170 = .ok (.bipush 100, 2) := by decide +kernel
theorem dX7_init_172 : decode cX7_init 172 = .ok (.newarray .boolean, 2) := by decide +kernel
theorem dX7_init_174 : decode cX7_init 174 = .ok (.putfield 76, 3) := by decide +kernel
theorem dX7_init_177 : decode cX7_init 177 = .ok (.aload_n 0, 1) := by decide +kernel
theorem dX7_init_178 : decode cX7_init 178 = .ok (.bipush 100, 2) := by decide +kernel
theorem dX7_init_180 : decode cX7_init 180 = .ok (.newarray .int, 2) := by decide +kernel
theorem dX7_init_182 : decode cX7_init 182 = .ok (.putfield 79, 3) := by decide +kernel
theorem dX7_init_185 : decode cX7_init 185 = .ok (.aload_n 0, 1) := by decide +kernel
theorem dX7_init_186 : decode cX7_init 186 = .ok (.bipush 100, 2) := by decide +kernel
theorem dX7_init_188 : decode cX7_init 188 = .ok (.newarray .boolean, 2) := by decide +kernel
theorem dX7_init_190 : decode cX7_init 190 = .ok (.putfield 82, 3) := by decide +kernel
theorem dX7_init_193 : decode cX7_init 193 = .ok (.aload_n 0, 1) := by decide +kernel
theorem dX7_init_194 : decode cX7_init 194 = .ok (.bipush 100, 2) := by decide +kernel
theorem dX7_init_196 : decode cX7_init 196 = .ok (.newarray .int, 2) := by decide +kernel
theorem dX7_init_198 : decode cX7_init 198 = .ok (.putfield 85, 3) := by decide +kernel
theorem dX7_init_201 : decode cX7_init 201 = .ok (.aload_n 0, 1) := by decide +kernel
theorem dX7_init_202 : decode cX7_init 202 = .ok (.bipush 100, 2) := by decide +kernel
theorem dX7_init_204 : decode cX7_init 204 = .ok (.newarray .int, 2) := by decide +kernel
theorem dX7_init_206 : decode cX7_init 206 = .ok (.putfield 88, 3) := by decide +kernel
theorem dX7_init_209 : decode cX7_init 209 = .ok (.aload_n 0, 1) := by decide +kernel
theorem dX7_init_210 : decode cX7_init 210 = .ok (.bipush 100, 2) := by decide +kernel
theorem dX7_init_212 : decode cX7_init 212 = .ok (.newarray .int, 2) := by decide +kernel
theorem dX7_init_214 : decode cX7_init 214 = .ok (.putfield 91, 3) := by decide +kernel
theorem dX7_init_217 : decode cX7_init 217 = .ok (.aload_n 0, 1) := by decide +kernel
theorem dX7_init_218 : decode cX7_init 218 = .ok (.sipush 400, 3) := by decide +kernel
theorem dX7_init_221 : decode cX7_init 221 = .ok (.newarray .long, 2) := by decide +kernel
theorem dX7_init_223 : decode cX7_init 223 = .ok (.putfield 94, 3) := by decide +kernel
theorem dX7_init_226 : decode cX7_init 226 = .ok (.aload_n 0, 1) := by decide +kernel
theorem dX7_init_227 : decode cX7_init 227 = .ok (.bipush 100, 2) := by decide +kernel
theorem dX7_init_229 : decode cX7_init 229 = .ok (.newarray .long, 2) := by decide +kernel
theorem dX7_init_231 : decode cX7_init 231 = .ok (.putfield 97, 3) := by decide +kernel
theorem dX7_init_234 : decode cX7_init 234 = .ok (.aload_n 0, 1) := by decide +kernel
theorem dX7_init_235 : decode cX7_init 235 = .ok (.sipush 400, 3) := by decide +kernel
theorem dX7_init_238 : decode cX7_init 238 = .ok (.newarray .long, 2) := by decide +kernel
theorem dX7_init_240 : decode cX7_init 240 = .ok (.putfield 100, 3) := by decide +kernel
theorem dX7_init_243 : decode cX7_init 243 = .ok (.iconst 0, 1) := by decide +kernel
theorem dX7_init_244 : decode cX7_init 244 = .ok (.istore_n 1, 1) := by decide +kernel
theorem dX7_init_245 : decode cX7_init 245 = .ok (.iload_n 1, 1) := by decide +kernel
theorem dX7_init_246 : decode cX7_init 246 = .ok (.iconst 3, 1) := by decide +kernel
theorem dX7_init_247 : decode cX7_init 247 = .ok (.if_icmp .ge 26, 3) := by decide +kernel
theorem dX7_init_250 : decode cX7_init 250 = .ok (.aload_n 0, 1) := by decide +kernel
theorem dX7_init_251 : decode cX7_init 251 = .ok (.getfield 25, 3) := by decide +kernel
theorem dX7_init_254 : decode cX7_init 254 = .ok (.iload_n 1, 1) := by decide +kernel
theorem dX7_init_255 : decode cX7_init 255 = .ok (.bipush 10, 2) := by decide +kernel
theorem dX7_init_257 : decode cX7_init 257 = .ok (.iastore, 1) := by decide +kernel
theorem dX7_init_258 : decode cX7_init 258 = .ok (.aload_n 0, 1) := by decide +kernel
theorem dX7_init_259 : decode cX7_init 259 = .ok (.getfield 28, 3) := by decide +kernel
theorem dX7_init_262 : decode cX7_init 262 = .ok (.iload_n 1, 1) := by decide +kernel
theorem dX7_init_263 : decode cX7_init 263 = .ok (.sipush 150, 3) := by decide +kernel
theorem dX7_init_266 : decode cX7_init 266 = .ok (.iastore, 1) := by decide +kernel
theorem dX7_init_267 : decode cX7_init 267 = .ok (.iinc 1 1, 3) := by decide +kernel
theorem dX7_init_270 : decode cX7_init 270 = .ok (.goto (-25), 3) := by decide +kernel
theorem dX7_init_273 : decode cX7_init 273 = .ok (.iconst 0, 1) := by decide +kernel
theorem dX7_init_274 : decode cX7_init 274 = .ok (.istore_n 1, 1) := by decide +kernel
theorem dX7_init_275 : decode cX7_init 275 = .ok (.iload_n 1, 1) := by decide +kernel
theorem dX7_init_276 : decode cX7_init 276 = .ok (.bipush 10, 2) := by decide +kernel
theorem dX7_init_278 : decode cX7_init 278 = .ok (.if_icmp .ge 16, 3) := by decide +kernel
theorem dX7_init_281 : decode cX7_init 281 = .ok (.aload_n 0, 1) := by decide +kernel
theorem dX7_init_282 : decode cX7_init 282 = .ok (.getfield 38, 3) := by decide +kernel
theorem dX7_init_285 : decode cX7_init 285 = .ok (.iload_n 1, 1) := by decide +kernel
theorem dX7_init_286 : decode cX7_init 286 = .ok (.iconst (-1), 1) := by decide +kernel
theorem dX7_init_287 : decode cX7_init 287 = .ok (.iastore, 1) := by decide +kernel
theorem dX7_init_288 : decode cX7_init 288 = .ok (.iinc 1 1, 3) := by decide +kernel
theorem dX7_init_291 : decode cX7_init 291 = .ok (.goto (-16), 3) := by decide +kernel
theorem dX7_init_294 : decode cX7_init 294 = .ok (.return_, 1) := by decide +kernel
theorem dX7_thrown_0 : decode cX7_thrown 0 = .ok (.aload_n 0, 1) := by decide +kernel
theorem dX7_thrown_1 : decode cX7_thrown 1 = .ok (.getfield 103, 3) := by decide +kernel
theorem dX7_thrown_4 : decode cX7_thrown 4 = .ok (.ireturn, 1) := by decide +kernel
theorem dX7_in_0 : decode cX7_in 0 = .ok (.iload_n 0, 1) := by decide +kernel
theorem dX7_in_1 : decode cX7_in 1 = .ok (.iload_n 1, 1) := by decide +kernel
theorem dX7_in_2 : decode cX7_in 2 = .ok (.if_icmp .lt 12, 3) := by decide +kernel
theorem dX7_in_5 : decode cX7_in 5 = .ok (.iload_n 0, 1) := by decide +kernel
theorem dX7_in_6 : decode cX7_in 6 = .ok (.iload_n 2, 1) := by decide +kernel
theorem dX7_in_7 : decode cX7_in 7 = .ok (.if_icmp .gt 7, 3) := by decide +kernel
theorem dX7_in_10 : decode cX7_in 10 = .ok (.iconst 1, 1) := by decide +kernel
theorem dX7_in_11 : decode cX7_in 11 = .ok (.goto 4, 3) := by decide +kernel
theorem dX7_in_14 : decode cX7_in 14 = .ok (.iconst 0, 1) := by decide +kernel
theorem dX7_in_15 : decode cX7_in 15 = .ok (.ireturn, 1) := by decide +kernel
theorem dX7_isGate_0 : decode cX7_isGate 0 = .ok (.iload_n 1, 1) := by decide +kernel
theorem dX7_isGate_1 : decode cX7_isGate 1 = .ok (.iconst 0, 1) := by decide +kernel
theorem dX7_isGate_2 : decode cX7_isGate 2 = .ok (.aload_n 0, 1) := by decide +kernel
theorem dX7_isGate_3 : decode cX7_isGate 3 = .ok (.getfield 106, 3) := by decide +kernel
theorem dX7_isGate_6 : decode cX7_isGate 6 = .ok (.iconst 1, 1) := by decide +kernel
theorem dX7_isGate_7 : decode cX7_isGate 7 = .ok (.isub, 1) := by decide +kernel
theorem dX7_isGate_8 : decode cX7_isGate 8 = .ok (.invokestatic 109, 3) := by decide +kernel
theorem dX7_isGate_11 : decode cX7_isGate 11 = .ok (.ireturn, 1) := by decide +kernel
theorem dX7_isPlate_0 : decode cX7_isPlate 0 = .ok (.iload_n 0, 1) := by decide +kernel
theorem dX7_isPlate_1 : decode cX7_isPlate 1 = .ok (.iconst 0, 1) := by decide +kernel
theorem dX7_isPlate_2 : decode cX7_isPlate 2 = .ok (.bipush 9, 2) := by decide +kernel
theorem dX7_isPlate_4 : decode cX7_isPlate 4 = .ok (.invokestatic 109, 3) := by decide +kernel
theorem dX7_isPlate_7 : decode cX7_isPlate 7 = .ok (.ireturn, 1) := by decide +kernel
theorem dX7_isHolder_0 : decode cX7_isHolder 0 = .ok (.iload_n 0, 1) := by decide +kernel
theorem dX7_isHolder_1 : decode cX7_isHolder 1 = .ok (.iconst 0, 1) := by decide +kernel
theorem dX7_isHolder_2 : decode cX7_isHolder 2 = .ok (.iconst 5, 1) := by decide +kernel
theorem dX7_isHolder_3 : decode cX7_isHolder 3 = .ok (.invokestatic 109, 3) := by decide +kernel
theorem dX7_isHolder_6 : decode cX7_isHolder 6 = .ok (.ireturn, 1) := by decide +kernel
theorem dX7_isReading_0 : decode cX7_isReading 0 = .ok (.iload_n 1, 1) := by decide +kernel
theorem dX7_isReading_1 : decode cX7_isReading 1 = .ok (.iconst 0, 1) := by decide +kernel
theorem dX7_isReading_2 : decode cX7_isReading 2 = .ok (.aload_n 0, 1) := by decide +kernel
theorem dX7_isReading_3 : decode cX7_isReading 3 = .ok (.getfield 113, 3) := by decide +kernel
theorem dX7_isReading_6 : decode cX7_isReading 6 = .ok (.iconst 1, 1) := by decide +kernel
theorem dX7_isReading_7 : decode cX7_isReading 7 = .ok (.isub, 1) := by decide +kernel
theorem dX7_isReading_8 : decode cX7_isReading 8 = .ok (.invokestatic 109, 3) := by decide +kernel
theorem dX7_isReading_11 : decode cX7_isReading 11 = .ok (.ireturn, 1) := by decide +kernel
theorem dX7_measures_0 : decode cX7_measures 0 = .ok (.iconst 0, 1) := by decide +kernel
theorem dX7_measures_1 : decode cX7_measures 1 = .ok (.istore_n 1, 1) := by decide +kernel
theorem dX7_measures_2 : decode cX7_measures 2 = .ok (.iload_n 1, 1) := by decide +kernel
theorem dX7_measures_3 : decode cX7_measures 3 = .ok (.sipush 144, 3) := by decide +kernel
theorem dX7_measures_6 : decode cX7_measures 6 = .ok (.if_icmp .ge 32, 3) := by decide +kernel
theorem dX7_measures_9 : decode cX7_measures 9 = .ok (.aload_n 0, 1) := by decide +kernel
theorem dX7_measures_10 : decode cX7_measures 10 = .ok (.getfield 22, 3) := by decide +kernel
theorem dX7_measures_13 : decode cX7_measures 13 = .ok (.iload_n 1, 1) := by decide +kernel
theorem dX7_measures_14 : decode cX7_measures 14 = .ok (.iload_n 1, 1) := by decide +kernel
theorem dX7_measures_15 : decode cX7_measures 15 = .ok (.bipush 12, 2) := by decide +kernel
theorem dX7_measures_17 : decode cX7_measures 17 = .ok (.idiv, 1) := by decide +kernel
theorem dX7_measures_18 : decode cX7_measures 18 = .ok (.iload_n 1, 1) := by decide +kernel
theorem dX7_measures_19 : decode cX7_measures 19 = .ok (.bipush 12, 2) := by decide +kernel
theorem dX7_measures_21 : decode cX7_measures 21 = .ok (.irem, 1) := by decide +kernel
theorem dX7_measures_22 : decode cX7_measures 22 = .ok (.if_icmp .ne 7, 3) := by decide +kernel
theorem dX7_measures_25 : decode cX7_measures 25 = .ok (.iconst 0, 1) := by decide +kernel
theorem dX7_measures_26 : decode cX7_measures 26 = .ok (.goto 5, 3) := by decide +kernel
theorem dX7_measures_29 : decode cX7_measures 29 = .ok (.ldc 116, 2) := by decide +kernel
theorem dX7_measures_31 : decode cX7_measures 31 = .ok (.iastore, 1) := by decide +kernel
theorem dX7_measures_32 : decode cX7_measures 32 = .ok (.iinc 1 1, 3) := by decide +kernel
theorem dX7_measures_35 : decode cX7_measures 35 = .ok (.goto (-33), 3) := by decide +kernel
theorem dX7_measures_38 : decode cX7_measures 38 = .ok (.iconst 1, 1) := by decide +kernel
theorem dX7_measures_39 : decode cX7_measures 39 = .ok (.istore_n 1, 1) := by decide +kernel
theorem dX7_measures_40 : decode cX7_measures 40 = .ok (.iload_n 1, 1) := by decide +kernel
theorem dX7_measures_41 : decode cX7_measures 41 = .ok (.ifCond .eq 158, 3) := by decide +kernel
theorem dX7_measures_44 : decode cX7_measures 44 = .ok (.iconst 0, 1) := by decide +kernel
theorem dX7_measures_45 : decode cX7_measures 45 = .ok (.istore_n 1, 1) := by decide +kernel
theorem dX7_measures_46 : decode cX7_measures 46 = .ok (.iconst 0, 1) := by decide +kernel
theorem dX7_measures_47 : decode cX7_measures 47 = .ok (.istore_n 2, 1) := by decide +kernel
theorem dX7_measures_48 : decode cX7_measures 48 = .ok (.iload_n 2, 1) := by decide +kernel
theorem dX7_measures_49 : decode cX7_measures 49 = .ok (.aload_n 0, 1) := by decide +kernel
theorem dX7_measures_50 : decode cX7_measures 50 = .ok (.getfield 117, 3) := by decide +kernel
theorem dX7_measures_53 : decode cX7_measures 53 = .ok (.if_icmp .ge 143, 3) := by decide +kernel
theorem dX7_measures_56 : decode cX7_measures 56 = .ok (.iconst 0, 1) := by decide +kernel
theorem dX7_measures_57 : decode cX7_measures 57 = .ok (.istore_n 3, 1) := by decide +kernel
theorem dX7_measures_58 : decode cX7_measures 58 = .ok (.iload_n 3, 1) := by decide +kernel
theorem dX7_measures_59 : decode cX7_measures 59 = .ok (.bipush 12, 2) := by decide +kernel
theorem dX7_measures_61 : decode cX7_measures 61 = .ok (.if_icmp .ge 129, 3) := by decide +kernel
theorem dX7_measures_64 : decode cX7_measures 64 = .ok (.bipush 12, 2) := by decide +kernel
theorem dX7_measures_66 : decode cX7_measures 66 = .ok (.iload_n 3, 1) := by decide +kernel
theorem dX7_measures_67 : decode cX7_measures 67 = .ok (.imul, 1) := by decide +kernel
theorem dX7_measures_68 : decode cX7_measures 68 = .ok (.aload_n 0, 1) := by decide +kernel
theorem dX7_measures_69 : decode cX7_measures 69 = .ok (.getfield 7, 3) := by decide +kernel
theorem dX7_measures_72 : decode cX7_measures 72 = .ok (.iload_n 2, 1) := by decide +kernel
theorem dX7_measures_73 : decode cX7_measures 73 = .ok (.iaload, 1) := by decide +kernel
theorem dX7_measures_74 : decode cX7_measures 74 = .ok (.iadd, 1) := by decide +kernel
theorem dX7_measures_75 : decode cX7_measures 75 = .ok (.istore 4, 2) := by decide +kernel
theorem dX7_measures_77 : decode cX7_measures 77 = .ok (.bipush 12, 2) := by decide +kernel
theorem dX7_measures_79 : decode cX7_measures 79 = .ok (.iload_n 3, 1) := by decide +kernel
theorem dX7_measures_80 : decode cX7_measures 80 = .ok (.imul, 1) := by decide +kernel
theorem dX7_measures_81 : decode cX7_measures 81 = .ok (.aload_n 0, 1) := by decide +kernel
theorem dX7_measures_82 : decode cX7_measures 82 = .ok (.getfield 13, 3) := by decide +kernel
theorem dX7_measures_85 : decode cX7_measures 85 = .ok (.iload_n 2, 1) := by decide +kernel
theorem dX7_measures_86 : decode cX7_measures 86 = .ok (.iaload, 1) := by decide +kernel
theorem dX7_measures_87 : decode cX7_measures 87 = .ok (.iadd, 1) := by decide +kernel
theorem dX7_measures_88 : decode cX7_measures 88 = .ok (.istore 5, 2) := by decide +kernel
theorem dX7_measures_90 : decode cX7_measures 90 = .ok (.aload_n 0, 1) := by decide +kernel
theorem dX7_measures_91 : decode cX7_measures 91 = .ok (.getfield 22, 3) := by decide +kernel
theorem dX7_measures_94 : decode cX7_measures 94 = .ok (.iload 4, 2) := by decide +kernel
theorem dX7_measures_96 : decode cX7_measures 96 = .ok (.iaload, 1) := by decide +kernel
theorem dX7_measures_97 : decode cX7_measures 97 = .ok (.aload_n 0, 1) := by decide +kernel
theorem dX7_measures_98 : decode cX7_measures 98 = .ok (.getfield 16, 3) := by decide +kernel
theorem dX7_measures_101 : decode cX7_measures 101 = .ok (.iload_n 2, 1) := by decide +kernel
theorem dX7_measures_102 : decode cX7_measures 102 = .ok (.iaload, 1) := by decide +kernel
theorem dX7_measures_103 : decode cX7_measures 103 = .ok (.iadd, 1) := by decide +kernel
theorem dX7_measures_104 : decode cX7_measures 104 = .ok (.aload_n 0, 1) := by decide +kernel
theorem dX7_measures_105 : decode cX7_measures 105 = .ok (.getfield 22, 3) := by decide +kernel
theorem dX7_measures_108 : decode cX7_measures 108 = .ok (.iload 5, 2) := by decide +kernel
theorem dX7_measures_110 : decode cX7_measures 110 = .ok (.iaload, 1) := by decide +kernel
theorem dX7_measures_111 : decode cX7_measures 111 = .ok (.if_icmp .ge 26, 3) := by decide +kernel
theorem dX7_measures_114 : decode cX7_measures 114 = .ok (.aload_n 0, 1) := by decide +kernel
theorem dX7_measures_115 : decode cX7_measures 115 = .ok (.getfield 22, 3) := by decide +kernel
theorem dX7_measures_118 : decode cX7_measures 118 = .ok (.iload 5, 2) := by decide +kernel
theorem dX7_measures_120 : decode cX7_measures 120 = .ok (.aload_n 0, 1) := by decide +kernel
theorem dX7_measures_121 : decode cX7_measures 121 = .ok (.getfield 22, 3) := by decide +kernel
theorem dX7_measures_124 : decode cX7_measures 124 = .ok (.iload 4, 2) := by decide +kernel
theorem dX7_measures_126 : decode cX7_measures 126 = .ok (.iaload, 1) := by decide +kernel
theorem dX7_measures_127 : decode cX7_measures 127 = .ok (.aload_n 0, 1) := by decide +kernel
theorem dX7_measures_128 : decode cX7_measures 128 = .ok (.getfield 16, 3) := by decide +kernel
theorem dX7_measures_131 : decode cX7_measures 131 = .ok (.iload_n 2, 1) := by decide +kernel
theorem dX7_measures_132 : decode cX7_measures 132 = .ok (.iaload, 1) := by decide +kernel
theorem dX7_measures_133 : decode cX7_measures 133 = .ok (.iadd, 1) := by decide +kernel
theorem dX7_measures_134 : decode cX7_measures 134 = .ok (.iastore, 1) := by decide +kernel
theorem dX7_measures_135 : decode cX7_measures 135 = .ok (.iconst 1, 1) := by decide +kernel
theorem dX7_measures_136 : decode cX7_measures 136 = .ok (.istore_n 1, 1) := by decide +kernel
theorem dX7_measures_137 : decode cX7_measures 137 = .ok (.aload_n 0, 1) := by decide +kernel
theorem dX7_measures_138 : decode cX7_measures 138 = .ok (.getfield 22, 3) := by decide +kernel
theorem dX7_measures_141 : decode cX7_measures 141 = .ok (.iload 5, 2) := by decide +kernel
theorem dX7_measures_143 : decode cX7_measures 143 = .ok (.iaload, 1) := by decide +kernel
theorem dX7_measures_144 : decode cX7_measures 144 = .ok (.aload_n 0, 1) := by decide +kernel
theorem dX7_measures_145 : decode cX7_measures 145 = .ok (.getfield 16, 3) := by decide +kernel
theorem dX7_measures_148 : decode cX7_measures 148 = .ok (.iload_n 2, 1) := by decide +kernel
theorem dX7_measures_149 : decode cX7_measures 149 = .ok (.iaload, 1) := by decide +kernel
theorem dX7_measures_150 : decode cX7_measures 150 = .ok (.iadd, 1) := by decide +kernel
theorem dX7_measures_151 : decode cX7_measures 151 = .ok (.aload_n 0, 1) := by decide +kernel
theorem dX7_measures_152 : decode cX7_measures 152 = .ok (.getfield 22, 3) := by decide +kernel
theorem dX7_measures_155 : decode cX7_measures 155 = .ok (.iload 4, 2) := by decide +kernel
theorem dX7_measures_157 : decode cX7_measures 157 = .ok (.iaload, 1) := by decide +kernel
theorem dX7_measures_158 : decode cX7_measures 158 = .ok (.if_icmp .ge 26, 3) := by decide +kernel
theorem dX7_measures_161 : decode cX7_measures 161 = .ok (.aload_n 0, 1) := by decide +kernel
theorem dX7_measures_162 : decode cX7_measures 162 = .ok (.getfield 22, 3) := by decide +kernel
theorem dX7_measures_165 : decode cX7_measures 165 = .ok (.iload 4, 2) := by decide +kernel
theorem dX7_measures_167 : decode cX7_measures 167 = .ok (.aload_n 0, 1) := by decide +kernel
theorem dX7_measures_168 : decode cX7_measures 168 = .ok (.getfield 22, 3) := by decide +kernel
theorem dX7_measures_171 : decode cX7_measures 171 = .ok (.iload 5, 2) := by decide +kernel
theorem dX7_measures_173 : decode cX7_measures 173 = .ok (.iaload, 1) := by decide +kernel
theorem dX7_measures_174 : decode cX7_measures 174 = .ok (.aload_n 0, 1) := by decide +kernel
theorem dX7_measures_175 : decode cX7_measures 175 = .ok (.getfield 16, 3) := by decide +kernel
theorem dX7_measures_178 : decode cX7_measures 178 = .ok (.iload_n 2, 1) := by decide +kernel
theorem dX7_measures_179 : decode cX7_measures 179 = .ok (.iaload, 1) := by decide +kernel
theorem dX7_measures_180 : decode cX7_measures 180 = .ok (.iadd, 1) := by decide +kernel
theorem dX7_measures_181 : decode cX7_measures 181 = .ok (.iastore, 1) := by decide +kernel
theorem dX7_measures_182 : decode cX7_measures 182 = .ok (.iconst 1, 1) := by decide +kernel
theorem dX7_measures_183 : decode cX7_measures 183 = .ok (.istore_n 1, 1) := by decide +kernel
theorem dX7_measures_184 : decode cX7_measures 184 = .ok (.iinc 3 1, 3) := by decide +kernel
theorem dX7_measures_187 : decode cX7_measures 187 = .ok (.goto (-129), 3) := by decide +kernel
theorem dX7_measures_190 : decode cX7_measures 190 = .ok (.iinc 2 1, 3) := by decide +kernel
theorem dX7_measures_193 : decode cX7_measures 193 = .ok (.goto (-145), 3) := by decide +kernel
theorem dX7_measures_196 : decode cX7_measures 196 = .ok (.goto (-156), 3) := by decide +kernel
theorem dX7_measures_199 : decode cX7_measures 199 = .ok (.return_, 1) := by decide +kernel
theorem dX7_away_0 : decode cX7_away 0 = .ok (.aload_n 0, 1) := by decide +kernel
theorem dX7_away_1 : decode cX7_away 1 = .ok (.getfield 22, 3) := by decide +kernel
theorem dX7_away_4 : decode cX7_away 4 = .ok (.bipush 12, 2) := by decide +kernel
theorem dX7_away_6 : decode cX7_away 6 = .ok (.iload_n 1, 1) := by decide +kernel
theorem dX7_away_7 : decode cX7_away 7 = .ok (.imul, 1) := by decide +kernel
theorem dX7_away_8 : decode cX7_away 8 = .ok (.iload_n 2, 1) := by decide +kernel
theorem dX7_away_9 : decode cX7_away 9 = .ok (.iadd, 1) := by decide +kernel
theorem dX7_away_10 : decode cX7_away 10 = .ok (.iaload, 1) := by decide +kernel
theorem dX7_away_11 : decode cX7_away 11 = .ok (.ireturn, 1) := by decide +kernel
theorem dX7_next_0 : decode cX7_next 0 = .ok (.iconst (-1), 1) := by decide +kernel
theorem dX7_next_1 : decode cX7_next 1 = .ok (.istore_n 3, 1) := by decide +kernel
theorem dX7_next_2 : decode cX7_next 2 = .ok (.aload_n 0, 1) := by decide +kernel
theorem dX7_next_3 : decode cX7_next 3 = .ok (.getfield 117, 3) := by decide +kernel
theorem dX7_next_6 : decode cX7_next 6 = .ok (.iconst 1, 1) := by decide +kernel
theorem dX7_next_7 : decode cX7_next 7 = .ok (.isub, 1) := by decide +kernel
theorem dX7_next_8 : decode cX7_next 8 = .ok (.istore 4, 2) := by decide +kernel
theorem dX7_next_10 : decode cX7_next 10 = .ok (.iload 4, 2) := by decide +kernel
theorem dX7_next_12 : decode cX7_next 12 = .ok (.ifCond .lt 108, 3) := by decide +kernel
theorem dX7_next_15 : decode cX7_next 15 = .ok (.aload_n 0, 1) := by decide +kernel
theorem dX7_next_16 : decode cX7_next 16 = .ok (.getfield 7, 3) := by decide +kernel
theorem dX7_next_19 : decode cX7_next 19 = .ok (.iload 4, 2) := by decide +kernel
theorem dX7_next_21 : decode cX7_next 21 = .ok (.iaload, 1) := by decide +kernel
theorem dX7_next_22 : decode cX7_next 22 = .ok (.iload_n 1, 1) := by decide +kernel
theorem dX7_next_23 : decode cX7_next 23 = .ok (.if_icmp .ne 13, 3) := by decide +kernel
theorem dX7_next_26 : decode cX7_next 26 = .ok (.aload_n 0, 1) := by decide +kernel
theorem dX7_next_27 : decode cX7_next 27 = .ok (.getfield 13, 3) := by decide +kernel
theorem dX7_next_30 : decode cX7_next 30 = .ok (.iload 4, 2) := by decide +kernel
theorem dX7_next_32 : decode cX7_next 32 = .ok (.iaload, 1) := by decide +kernel
theorem dX7_next_33 : decode cX7_next 33 = .ok (.goto 25, 3) := by decide +kernel
theorem dX7_next_36 : decode cX7_next 36 = .ok (.aload_n 0, 1) := by decide +kernel
theorem dX7_next_37 : decode cX7_next 37 = .ok (.getfield 13, 3) := by decide +kernel
theorem dX7_next_40 : decode cX7_next 40 = .ok (.iload 4, 2) := by decide +kernel
theorem dX7_next_42 : decode cX7_next 42 = .ok (.iaload, 1) := by decide +kernel
theorem dX7_next_43 : decode cX7_next 43 = .ok (.iload_n 1, 1) := by decide +kernel
theorem dX7_next_44 : decode cX7_next 44 = .ok (.if_icmp .ne 13, 3) := by decide +kernel
theorem dX7_next_47 : decode cX7_next 47 = .ok (.aload_n 0, 1) := by decide +kernel
theorem dX7_next_48 : decode cX7_next 48 = .ok (.getfield 7, 3) := by decide +kernel
theorem dX7_next_51 : decode cX7_next 51 = .ok (.iload 4, 2) := by decide +kernel
theorem dX7_next_53 : decode cX7_next 53 = .ok (.iaload, 1) := by decide +kernel
theorem dX7_next_54 : decode cX7_next 54 = .ok (.goto 4, 3) := by decide +kernel
theorem dX7_next_57 : decode cX7_next 57 = .ok (.iconst (-1), 1) := by decide +kernel
theorem dX7_next_58 : decode cX7_next 58 = .ok (.istore 5, 2) := by decide +kernel
theorem dX7_next_60 : decode cX7_next 60 = .ok (.iload 5, 2) := by decide +kernel
theorem dX7_next_62 : decode cX7_next 62 = .ok (.iconst (-1), 1) := by decide +kernel
theorem dX7_next_63 : decode cX7_next 63 = .ok (.if_icmp .eq 36, 3) := by decide +kernel
theorem dX7_next_66 : decode cX7_next 66 = .ok (.iload_n 1, 1) := by decide +kernel
theorem dX7_next_67 : decode cX7_next 67 = .ok (.iload_n 2, 1) := by decide +kernel
theorem dX7_next_68 : decode cX7_next 68 = .ok (.if_icmp .eq 31, 3) := by decide +kernel
theorem dX7_next_71 : decode cX7_next 71 = .ok (.aload_n 0, 1) := by decide +kernel
theorem dX7_next_72 : decode cX7_next 72 = .ok (.iload 5, 2) := by decide +kernel
theorem dX7_next_74 : decode cX7_next 74 = .ok (.iload_n 2, 1) := by decide +kernel
theorem dX7_next_75 : decode cX7_next 75 = .ok (.invokevirtual 120, 3) := by decide +kernel
theorem dX7_next_78 : decode cX7_next 78 = .ok (.aload_n 0, 1) := by decide +kernel
theorem dX7_next_79 : decode cX7_next 79 = .ok (.getfield 16, 3) := by decide +kernel
theorem dX7_next_82 : decode cX7_next 82 = .ok (.iload 4, 2) := by decide +kernel
theorem dX7_next_84 : decode cX7_next 84 = .ok (.iaload, 1) := by decide +kernel
theorem dX7_next_85 : decode cX7_next 85 = .ok (.iadd, 1) := by decide +kernel
theorem dX7_next_86 : decode cX7_next 86 = .ok (.aload_n 0, 1) := by decide +kernel
theorem dX7_next_87 : decode cX7_next 87 = .ok (.iload_n 1, 1) := by decide +kernel
theorem dX7_next_88 : decode cX7_next 88 = .ok (.iload_n 2, 1) := by decide +kernel
theorem dX7_next_89 : decode cX7_next 89 = .ok (.invokevirtual 120, 3) := by decide +kernel
theorem dX7_next_92 : decode cX7_next 92 = .ok (.if_icmp .ne 7, 3) := by decide +kernel
theorem dX7_next_95 : decode cX7_next 95 = .ok (.iconst 1, 1) := by decide +kernel
theorem dX7_next_96 : decode cX7_next 96 = .ok (.goto 4, 3) := by decide +kernel
theorem dX7_next_99 : decode cX7_next 99 = .ok (.iconst 0, 1) := by decide +kernel
theorem dX7_next_100 : decode cX7_next 100 = .ok (.istore 6, 2) := by decide +kernel
theorem dX7_next_102 : decode cX7_next 102 = .ok (.iload 6, 2) := by decide +kernel
theorem dX7_next_104 : decode cX7_next 104 = .ok (.ifCond .eq 8, 3) := by decide +kernel
theorem dX7_next_107 : decode cX7_next 107 = .ok (.iload 4, 2) := by decide +kernel
theorem dX7_next_109 : decode cX7_next 109 = .ok (.goto 4, 3) := by decide +kernel
theorem dX7_next_112 : decode cX7_next 112 = .ok (.iload_n 3, 1) := by decide +kernel
theorem dX7_next_113 : decode cX7_next 113 = .ok (.istore_n 3, 1) := by decide +kernel
theorem dX7_next_114 : decode cX7_next 114 = .ok (.iinc 4 (-1), 3) := by decide +kernel
theorem dX7_next_117 : decode cX7_next 117 = .ok (.goto (-107), 3) := by decide +kernel
theorem dX7_next_120 : decode cX7_next 120 = .ok (.iload_n 3, 1) := by decide +kernel
theorem dX7_next_121 : decode cX7_next 121 = .ok (.ireturn, 1) := by decide +kernel
theorem dX7_otherEnd_0 : decode cX7_otherEnd 0 = .ok (.aload_n 0, 1) := by decide +kernel
theorem dX7_otherEnd_1 : decode cX7_otherEnd 1 = .ok (.getfield 7, 3) := by decide +kernel
theorem dX7_otherEnd_4 : decode cX7_otherEnd 4 = .ok (.iload_n 1, 1) := by decide +kernel
theorem dX7_otherEnd_5 : decode cX7_otherEnd 5 = .ok (.iaload, 1) := by decide +kernel
theorem dX7_otherEnd_6 : decode cX7_otherEnd 6 = .ok (.iload_n 2, 1) := by decide +kernel
theorem dX7_otherEnd_7 : decode cX7_otherEnd 7 = .ok (.if_icmp .ne 12, 3) := by decide +kernel
theorem dX7_otherEnd_10 : decode cX7_otherEnd 10 = .ok (.aload_n 0, 1) := by decide +kernel
theorem dX7_otherEnd_11 : decode cX7_otherEnd 11 = .ok (.getfield 13, 3) := by decide +kernel
theorem dX7_otherEnd_14 : decode cX7_otherEnd 14 = .ok (.iload_n 1, 1) := by decide +kernel
theorem dX7_otherEnd_15 : decode cX7_otherEnd 15 = .ok (.iaload, 1) := by decide +kernel
theorem dX7_otherEnd_16 : decode cX7_otherEnd 16 = .ok (.goto 9, 3) := by decide +kernel
theorem dX7_otherEnd_19 : decode cX7_otherEnd 19 = .ok (.aload_n 0, 1) := by decide +kernel
theorem dX7_otherEnd_20 : decode cX7_otherEnd 20 = .ok (.getfield 7, 3) := by decide +kernel
theorem dX7_otherEnd_23 : decode cX7_otherEnd 23 = .ok (.iload_n 1, 1) := by decide +kernel
theorem dX7_otherEnd_24 : decode cX7_otherEnd 24 = .ok (.iaload, 1) := by decide +kernel
theorem dX7_otherEnd_25 : decode cX7_otherEnd 25 = .ok (.ireturn, 1) := by decide +kernel
theorem dX7_gate_0 : decode cX7_gate 0 = .ok (.aload_n 0, 1) := by decide +kernel
theorem dX7_gate_1 : decode cX7_gate 1 = .ok (.aload_n 0, 1) := by decide +kernel
theorem dX7_gate_2 : decode cX7_gate 2 = .ok (.getfield 106, 3) := by decide +kernel
theorem dX7_gate_5 : decode cX7_gate 5 = .ok (.bipush 12, 2) := by decide +kernel
theorem dX7_gate_7 : decode cX7_gate 7 = .ok (.if_icmp .ne 7, 3) := by decide +kernel
theorem dX7_gate_10 : decode cX7_gate 10 = .ok (.iconst 1, 1) := by decide +kernel
theorem dX7_gate_11 : decode cX7_gate 11 = .ok (.goto 4, 3) := by decide +kernel
theorem dX7_gate_14 : decode cX7_gate 14 = .ok (.iconst 0, 1) := by decide +kernel
theorem dX7_gate_15 : decode cX7_gate 15 = .ok (.putfield 103, 3) := by decide +kernel
theorem dX7_gate_18 : decode cX7_gate 18 = .ok (.aload_n 0, 1) := by decide +kernel
theorem dX7_gate_19 : decode cX7_gate 19 = .ok (.getfield 103, 3) := by decide +kernel
theorem dX7_gate_22 : decode cX7_gate 22 = .ok (.ifCond .le 5, 3) := by decide +kernel
theorem dX7_gate_25 : decode cX7_gate 25 = .ok (.iconst 0, 1) := by decide +kernel
theorem dX7_gate_26 : decode cX7_gate 26 = .ok (.ireturn, 1) := by decide +kernel
theorem dX7_gate_27 : decode cX7_gate 27 = .ok (.aload_n 0, 1) := by decide +kernel
theorem dX7_gate_28 : decode cX7_gate 28 = .ok (.dup, 1) := by decide +kernel
theorem dX7_gate_29 : decode cX7_gate 29 = .ok (.getfield 106, 3) := by decide +kernel
theorem dX7_gate_32 : decode cX7_gate 32 = .ok (.iconst 1, 1) := by decide +kernel
theorem dX7_gate_33 : decode cX7_gate 33 = .ok (.iadd, 1) := by decide +kernel
theorem dX7_gate_34 : decode cX7_gate 34 = .ok (.putfield 106, 3) := by decide +kernel
theorem dX7_gate_37 : decode cX7_gate 37 = .ok (.aload_n 0, 1) := by decide +kernel
theorem dX7_gate_38 : decode cX7_gate 38 = .ok (.invokevirtual 124, 3) := by decide +kernel
theorem dX7_gate_41 : decode cX7_gate 41 = .ok (.aload_n 0, 1) := by decide +kernel
theorem dX7_gate_42 : decode cX7_gate 42 = .ok (.getfield 106, 3) := by decide +kernel
theorem dX7_gate_45 : decode cX7_gate 45 = .ok (.iconst 1, 1) := by decide +kernel
theorem dX7_gate_46 : decode cX7_gate 46 = .ok (.isub, 1) := by decide +kernel
theorem dX7_gate_47 : decode cX7_gate 47 = .ok (.ireturn, 1) := by decide +kernel
theorem dX7_road_0 : decode cX7_road 0 = .ok (.aload_n 0, 1) := by decide +kernel
theorem dX7_road_1 : decode cX7_road 1 = .ok (.aload_n 0, 1) := by decide +kernel
theorem dX7_road_2 : decode cX7_road 2 = .ok (.iload_n 1, 1) := by decide +kernel
theorem dX7_road_3 : decode cX7_road 3 = .ok (.invokevirtual 127, 3) := by decide +kernel
theorem dX7_road_6 : decode cX7_road 6 = .ok (.ifCond .eq 11, 3) := by decide +kernel
theorem dX7_road_9 : decode cX7_road 9 = .ok (.aload_n 0, 1) := by decide +kernel
theorem dX7_road_10 : decode cX7_road 10 = .ok (.iload_n 2, 1) := by decide +kernel
theorem dX7_road_11 : decode cX7_road 11 = .ok (.invokevirtual 127, 3) := by decide +kernel
theorem dX7_road_14 : decode cX7_road 14 = .ok (.ifCond .ne 7, 3) := by decide +kernel
theorem dX7_road_17 : decode cX7_road 17 = .ok (.iconst 1, 1) := by decide +kernel
theorem dX7_road_18 : decode cX7_road 18 = .ok (.goto 46, 3) := by decide +kernel
theorem dX7_road_21 : decode cX7_road 21 = .ok (.iload_n 3, 1) := by decide +kernel
theorem dX7_road_22 : decode cX7_road 22 = .ok (.iconst 1, 1) := by decide +kernel
theorem dX7_road_23 : decode cX7_road 23 = .ok (.bipush 50, 2) := by decide +kernel
theorem dX7_road_25 : decode cX7_road 25 = .ok (.invokestatic 109, 3) := by decide +kernel
theorem dX7_road_28 : decode cX7_road 28 = .ok (.ifCond .eq 18, 3) := by decide +kernel
theorem dX7_road_31 : decode cX7_road 31 = .ok (.iload 4, 2) := by decide +kernel
theorem dX7_road_33 : decode cX7_road 33 = .ok (.iconst 0, 1) := by decide +kernel
theorem dX7_road_34 : decode cX7_road 34 = .ok (.iconst 3, 1) := by decide +kernel
theorem dX7_road_35 : decode cX7_road 35 = .ok (.invokestatic 109, 3) := by decide +kernel
theorem dX7_road_38 : decode cX7_road 38 = .ok (.ifCond .eq 8, 3) := by decide +kernel
theorem dX7_road_41 : decode cX7_road 41 = .ok (.iload_n 1, 1) := by decide +kernel
theorem dX7_road_42 : decode cX7_road 42 = .ok (.iload_n 2, 1) := by decide +kernel
theorem dX7_road_43 : decode cX7_road 43 = .ok (.if_icmp .ne 7, 3) := by decide +kernel
theorem dX7_road_46 : decode cX7_road 46 = .ok (.iconst 2, 1) := by decide +kernel
theorem dX7_road_47 : decode cX7_road 47 = .ok (.goto 17, 3) := by decide +kernel
theorem dX7_road_50 : decode cX7_road 50 = .ok (.aload_n 0, 1) := by decide +kernel
theorem dX7_road_51 : decode cX7_road 51 = .ok (.getfield 117, 3) := by decide +kernel
theorem dX7_road_54 : decode cX7_road 54 = .ok (.bipush 24, 2) := by decide +kernel
theorem dX7_road_56 : decode cX7_road 56 = .ok (.if_icmp .ne 7, 3) := by decide +kernel
theorem dX7_road_59 : decode cX7_road 59 = .ok (.iconst 3, 1) := by decide +kernel
theorem dX7_road_60 : decode cX7_road 60 = .ok (.goto 4, 3) := by decide +kernel
theorem dX7_road_63 : decode cX7_road 63 = .ok (.iconst 0, 1) := by decide +kernel
theorem dX7_road_64 : decode cX7_road 64 = .ok (.putfield 103, 3) := by decide +kernel
theorem dX7_road_67 : decode cX7_road 67 = .ok (.aload_n 0, 1) := by decide +kernel
theorem dX7_road_68 : decode cX7_road 68 = .ok (.getfield 103, 3) := by decide +kernel
theorem dX7_road_71 : decode cX7_road 71 = .ok (.ifCond .le 5, 3) := by decide +kernel
theorem dX7_road_74 : decode cX7_road 74 = .ok (.iconst 0, 1) := by decide +kernel
theorem dX7_road_75 : decode cX7_road 75 = .ok (.ireturn, 1) := by decide +kernel
theorem dX7_road_76 : decode cX7_road 76 = .ok (.aload_n 0, 1) := by decide +kernel
theorem dX7_road_77 : decode cX7_road 77 = .ok (.getfield 7, 3) := by decide +kernel
theorem dX7_road_80 : decode cX7_road 80 = .ok (.aload_n 0, 1) := by decide +kernel
theorem dX7_road_81 : decode cX7_road 81 = .ok (.getfield 117, 3) := by decide +kernel
theorem dX7_road_84 : decode cX7_road 84 = .ok (.iload_n 1, 1) := by decide +kernel
theorem dX7_road_85 : decode cX7_road 85 = .ok (.iastore, 1) := by decide +kernel
theorem dX7_road_86 : decode cX7_road 86 = .ok (.aload_n 0, 1) := by decide +kernel
theorem dX7_road_87 : decode cX7_road 87 = .ok (.getfield 13, 3) := by decide +kernel
theorem dX7_road_90 : decode cX7_road 90 = .ok (.aload_n 0, 1) := by decide +kernel
theorem dX7_road_91 : decode cX7_road 91 = .ok (.getfield 117, 3) := by decide +kernel
theorem dX7_road_94 : decode cX7_road 94 = .ok (.iload_n 2, 1) := by decide +kernel
theorem dX7_road_95 : decode cX7_road 95 = .ok (.iastore, 1) := by decide +kernel
theorem dX7_road_96 : decode cX7_road 96 = .ok (.aload_n 0, 1) := by decide +kernel
theorem dX7_road_97 : decode cX7_road 97 = .ok (.getfield 16, 3) := by decide +kernel
theorem dX7_road_100 : decode cX7_road 100 = .ok (.aload_n 0, 1) := by decide +kernel
theorem dX7_road_101 : decode cX7_road 101 = .ok (.getfield 117, 3) := by decide +kernel
theorem dX7_road_104 : decode cX7_road 104 = .ok (.iload_n 3, 1) := by decide +kernel
theorem dX7_road_105 : decode cX7_road 105 = .ok (.iastore, 1) := by decide +kernel
theorem dX7_road_106 : decode cX7_road 106 = .ok (.aload_n 0, 1) := by decide +kernel
theorem dX7_road_107 : decode cX7_road 107 = .ok (.getfield 19, 3) := by decide +kernel
theorem dX7_road_110 : decode cX7_road 110 = .ok (.aload_n 0, 1) := by decide +kernel
theorem dX7_road_111 : decode cX7_road 111 = .ok (.getfield 117, 3) := by decide +kernel
theorem dX7_road_114 : decode cX7_road 114 = .ok (.iload 4, 2) := by decide +kernel
theorem dX7_road_116 : decode cX7_road 116 = .ok (.iastore, 1) := by decide +kernel
theorem dX7_road_117 : decode cX7_road 117 = .ok (.aload_n 0, 1) := by decide +kernel
theorem dX7_road_118 : decode cX7_road 118 = .ok (.dup, 1) := by decide +kernel
theorem dX7_road_119 : decode cX7_road 119 = .ok (.getfield 117, 3) := by decide +kernel
theorem dX7_road_122 : decode cX7_road 122 = .ok (.iconst 1, 1) := by decide +kernel
theorem dX7_road_123 : decode cX7_road 123 = .ok (.iadd, 1) := by decide +kernel
theorem dX7_road_124 : decode cX7_road 124 = .ok (.putfield 117, 3) := by decide +kernel
theorem dX7_road_127 : decode cX7_road 127 = .ok (.aload_n 0, 1) := by decide +kernel
theorem dX7_road_128 : decode cX7_road 128 = .ok (.invokevirtual 124, 3) := by decide +kernel
theorem dX7_road_131 : decode cX7_road 131 = .ok (.aload_n 0, 1) := by decide +kernel
theorem dX7_road_132 : decode cX7_road 132 = .ok (.getfield 117, 3) := by decide +kernel
theorem dX7_road_135 : decode cX7_road 135 = .ok (.iconst 1, 1) := by decide +kernel
theorem dX7_road_136 : decode cX7_road 136 = .ok (.isub, 1) := by decide +kernel
theorem dX7_road_137 : decode cX7_road 137 = .ok (.ireturn, 1) := by decide +kernel
theorem dX7_rate_0 : decode cX7_rate 0 = .ok (.aload_n 0, 1) := by decide +kernel
theorem dX7_rate_1 : decode cX7_rate 1 = .ok (.iload_n 1, 1) := by decide +kernel
theorem dX7_rate_2 : decode cX7_rate 2 = .ok (.iconst 0, 1) := by decide +kernel
theorem dX7_rate_3 : decode cX7_rate 3 = .ok (.iconst 2, 1) := by decide +kernel
theorem dX7_rate_4 : decode cX7_rate 4 = .ok (.invokestatic 109, 3) := by decide +kernel
theorem dX7_rate_7 : decode cX7_rate 7 = .ok (.ifCond .eq 28, 3) := by decide +kernel
theorem dX7_rate_10 : decode cX7_rate 10 = .ok (.iload_n 2, 1) := by decide +kernel
theorem dX7_rate_11 : decode cX7_rate 11 = .ok (.iconst 0, 1) := by decide +kernel
theorem dX7_rate_12 : decode cX7_rate 12 = .ok (.bipush 100, 2) := by decide +kernel
theorem dX7_rate_14 : decode cX7_rate 14 = .ok (.invokestatic 109, 3) := by decide +kernel
theorem dX7_rate_17 : decode cX7_rate 17 = .ok (.ifCond .eq 18, 3) := by decide +kernel
theorem dX7_rate_20 : decode cX7_rate 20 = .ok (.iload_n 3, 1) := by decide +kernel
theorem dX7_rate_21 : decode cX7_rate 21 = .ok (.iconst 0, 1) := by decide +kernel
theorem dX7_rate_22 : decode cX7_rate 22 = .ok (.sipush 300, 3) := by decide +kernel
theorem dX7_rate_25 : decode cX7_rate 25 = .ok (.invokestatic 109, 3) := by decide +kernel
theorem dX7_rate_28 : decode cX7_rate 28 = .ok (.ifCond .eq 7, 3) := by decide +kernel
theorem dX7_rate_31 : decode cX7_rate 31 = .ok (.iconst 0, 1) := by decide +kernel
theorem dX7_rate_32 : decode cX7_rate 32 = .ok (.goto 4, 3) := by decide +kernel
theorem dX7_rate_35 : decode cX7_rate 35 = .ok (.iconst 1, 1) := by decide +kernel
theorem dX7_rate_36 : decode cX7_rate 36 = .ok (.putfield 103, 3) := by decide +kernel
theorem dX7_rate_39 : decode cX7_rate 39 = .ok (.aload_n 0, 1) := by decide +kernel
theorem dX7_rate_40 : decode cX7_rate 40 = .ok (.getfield 103, 3) := by decide +kernel
theorem dX7_rate_43 : decode cX7_rate 43 = .ok (.ifCond .ne 17, 3) := by decide +kernel
theorem dX7_rate_46 : decode cX7_rate 46 = .ok (.aload_n 0, 1) := by decide +kernel
theorem dX7_rate_47 : decode cX7_rate 47 = .ok (.getfield 25, 3) := by decide +kernel
theorem dX7_rate_50 : decode cX7_rate 50 = .ok (.iload_n 1, 1) := by decide +kernel
theorem dX7_rate_51 : decode cX7_rate 51 = .ok (.iload_n 2, 1) := by decide +kernel
theorem dX7_rate_52 : decode cX7_rate 52 = .ok (.iastore, 1) := by decide +kernel
theorem dX7_rate_53 : decode cX7_rate 53 = .ok (.aload_n 0, 1) := by decide +kernel
theorem dX7_rate_54 : decode cX7_rate 54 = .ok (.getfield 28, 3) := by decide +kernel
theorem dX7_rate_57 : decode cX7_rate 57 = .ok (.iload_n 1, 1) := by decide +kernel
theorem dX7_rate_58 : decode cX7_rate 58 = .ok (.iload_n 3, 1) := by decide +kernel
theorem dX7_rate_59 : decode cX7_rate 59 = .ok (.iastore, 1) := by decide +kernel
theorem dX7_rate_60 : decode cX7_rate 60 = .ok (.return_, 1) := by decide +kernel
theorem dX7_most_0 : decode cX7_most 0 = .ok (.aload_n 0, 1) := by decide +kernel
theorem dX7_most_1 : decode cX7_most 1 = .ok (.iload_n 1, 1) := by decide +kernel
theorem dX7_most_2 : decode cX7_most 2 = .ok (.iconst 0, 1) := by decide +kernel
theorem dX7_most_3 : decode cX7_most 3 = .ok (.ldc 131, 2) := by decide +kernel
theorem dX7_most_5 : decode cX7_most 5 = .ok (.invokestatic 109, 3) := by decide +kernel
theorem dX7_most_8 : decode cX7_most 8 = .ok (.ifCond .eq 7, 3) := by decide +kernel
theorem dX7_most_11 : decode cX7_most 11 = .ok (.iconst 0, 1) := by decide +kernel
theorem dX7_most_12 : decode cX7_most 12 = .ok (.goto 4, 3) := by decide +kernel
theorem dX7_most_15 : decode cX7_most 15 = .ok (.iconst 1, 1) := by decide +kernel
theorem dX7_most_16 : decode cX7_most 16 = .ok (.putfield 103, 3) := by decide +kernel
theorem dX7_most_19 : decode cX7_most 19 = .ok (.aload_n 0, 1) := by decide +kernel
theorem dX7_most_20 : decode cX7_most 20 = .ok (.getfield 103, 3) := by decide +kernel
theorem dX7_most_23 : decode cX7_most 23 = .ok (.ifCond .le 5, 3) := by decide +kernel
theorem dX7_most_26 : decode cX7_most 26 = .ok (.iconst 0, 1) := by decide +kernel
theorem dX7_most_27 : decode cX7_most 27 = .ok (.ireturn, 1) := by decide +kernel
theorem dX7_most_28 : decode cX7_most 28 = .ok (.aload_n 0, 1) := by decide +kernel
theorem dX7_most_29 : decode cX7_most 29 = .ok (.getfield 31, 3) := by decide +kernel
theorem dX7_most_32 : decode cX7_most 32 = .ok (.istore_n 2, 1) := by decide +kernel
theorem dX7_most_33 : decode cX7_most 33 = .ok (.aload_n 0, 1) := by decide +kernel
theorem dX7_most_34 : decode cX7_most 34 = .ok (.iload_n 1, 1) := by decide +kernel
theorem dX7_most_35 : decode cX7_most 35 = .ok (.putfield 31, 3) := by decide +kernel
theorem dX7_most_38 : decode cX7_most 38 = .ok (.iload_n 2, 1) := by decide +kernel
theorem dX7_most_39 : decode cX7_most 39 = .ok (.ireturn, 1) := by decide +kernel
theorem dX7_plate_0 : decode cX7_plate 0 = .ok (.aload_n 0, 1) := by decide +kernel
theorem dX7_plate_1 : decode cX7_plate 1 = .ok (.iload_n 1, 1) := by decide +kernel
theorem dX7_plate_2 : decode cX7_plate 2 = .ok (.invokestatic 132, 3) := by decide +kernel
theorem dX7_plate_5 : decode cX7_plate 5 = .ok (.ifCond .ne 7, 3) := by decide +kernel
theorem dX7_plate_8 : decode cX7_plate 8 = .ok (.iconst 1, 1) := by decide +kernel
theorem dX7_plate_9 : decode cX7_plate 9 = .ok (.goto 29, 3) := by decide +kernel
theorem dX7_plate_12 : decode cX7_plate 12 = .ok (.iload_n 2, 1) := by decide +kernel
theorem dX7_plate_13 : decode cX7_plate 13 = .ok (.iconst 0, 1) := by decide +kernel
theorem dX7_plate_14 : decode cX7_plate 14 = .ok (.iconst 2, 1) := by decide +kernel
theorem dX7_plate_15 : decode cX7_plate 15 = .ok (.invokestatic 109, 3) := by decide +kernel
theorem dX7_plate_18 : decode cX7_plate 18 = .ok (.ifCond .eq 19, 3) := by decide +kernel
theorem dX7_plate_21 : decode cX7_plate 21 = .ok (.iload_n 3, 1) := by decide +kernel
theorem dX7_plate_22 : decode cX7_plate 22 = .ok (.iconst (-1), 1) := by decide +kernel
theorem dX7_plate_23 : decode cX7_plate 23 = .ok (.if_icmp .eq 10, 3) := by decide +kernel
theorem dX7_plate_26 : decode cX7_plate 26 = .ok (.iload_n 3, 1) := by decide +kernel
theorem dX7_plate_27 : decode cX7_plate 27 = .ok (.invokestatic 135, 3) := by decide +kernel
theorem dX7_plate_30 : decode cX7_plate 30 = .ok (.ifCond .eq 7, 3) := by decide +kernel
theorem dX7_plate_33 : decode cX7_plate 33 = .ok (.iconst 0, 1) := by decide +kernel
theorem dX7_plate_34 : decode cX7_plate 34 = .ok (.goto 4, 3) := by decide +kernel
theorem dX7_plate_37 : decode cX7_plate 37 = .ok (.iconst 2, 1) := by decide +kernel
theorem dX7_plate_38 : decode cX7_plate 38 = .ok (.putfield 103, 3) := by decide +kernel
theorem dX7_plate_41 : decode cX7_plate 41 = .ok (.aload_n 0, 1) := by decide +kernel
theorem dX7_plate_42 : decode cX7_plate 42 = .ok (.getfield 103, 3) := by decide +kernel
theorem dX7_plate_45 : decode cX7_plate 45 = .ok (.ifCond .ne 17, 3) := by decide +kernel
theorem dX7_plate_48 : decode cX7_plate 48 = .ok (.aload_n 0, 1) := by decide +kernel
theorem dX7_plate_49 : decode cX7_plate 49 = .ok (.getfield 35, 3) := by decide +kernel
theorem dX7_plate_52 : decode cX7_plate 52 = .ok (.iload_n 1, 1) := by decide +kernel
theorem dX7_plate_53 : decode cX7_plate 53 = .ok (.iload_n 2, 1) := by decide +kernel
theorem dX7_plate_54 : decode cX7_plate 54 = .ok (.iastore, 1) := by decide +kernel
theorem dX7_plate_55 : decode cX7_plate 55 = .ok (.aload_n 0, 1) := by decide +kernel
theorem dX7_plate_56 : decode cX7_plate 56 = .ok (.getfield 38, 3) := by decide +kernel
theorem dX7_plate_59 : decode cX7_plate 59 = .ok (.iload_n 1, 1) := by decide +kernel
theorem dX7_plate_60 : decode cX7_plate 60 = .ok (.iload_n 3, 1) := by decide +kernel
theorem dX7_plate_61 : decode cX7_plate 61 = .ok (.iastore, 1) := by decide +kernel
theorem dX7_plate_62 : decode cX7_plate 62 = .ok (.return_, 1) := by decide +kernel
theorem dX7_top_0 : decode cX7_top 0 = .ok (.aload_n 0, 1) := by decide +kernel
theorem dX7_top_1 : decode cX7_top 1 = .ok (.iload_n 1, 1) := by decide +kernel
theorem dX7_top_2 : decode cX7_top 2 = .ok (.invokestatic 135, 3) := by decide +kernel
theorem dX7_top_5 : decode cX7_top 5 = .ok (.ifCond .ne 7, 3) := by decide +kernel
theorem dX7_top_8 : decode cX7_top 8 = .ok (.iconst 1, 1) := by decide +kernel
theorem dX7_top_9 : decode cX7_top 9 = .ok (.goto 18, 3) := by decide +kernel
theorem dX7_top_12 : decode cX7_top 12 = .ok (.iload_n 2, 1) := by decide +kernel
theorem dX7_top_13 : decode cX7_top 13 = .ok (.iconst 1, 1) := by decide +kernel
theorem dX7_top_14 : decode cX7_top 14 = .ok (.ldc 131, 2) := by decide +kernel
theorem dX7_top_16 : decode cX7_top 16 = .ok (.invokestatic 109, 3) := by decide +kernel
theorem dX7_top_19 : decode cX7_top 19 = .ok (.ifCond .eq 7, 3) := by decide +kernel
theorem dX7_top_22 : decode cX7_top 22 = .ok (.iconst 0, 1) := by decide +kernel
theorem dX7_top_23 : decode cX7_top 23 = .ok (.goto 4, 3) := by decide +kernel
theorem dX7_top_26 : decode cX7_top 26 = .ok (.iconst 2, 1) := by decide +kernel
theorem dX7_top_27 : decode cX7_top 27 = .ok (.putfield 103, 3) := by decide +kernel
theorem dX7_top_30 : decode cX7_top 30 = .ok (.aload_n 0, 1) := by decide +kernel
theorem dX7_top_31 : decode cX7_top 31 = .ok (.getfield 103, 3) := by decide +kernel
theorem dX7_top_34 : decode cX7_top 34 = .ok (.ifCond .le 5, 3) := by decide +kernel
theorem dX7_top_37 : decode cX7_top 37 = .ok (.lconst 0, 1) := by decide +kernel
theorem dX7_top_38 : decode cX7_top 38 = .ok (.lreturn, 1) := by decide +kernel
theorem dX7_top_39 : decode cX7_top 39 = .ok (.aload_n 0, 1) := by decide +kernel
theorem dX7_top_40 : decode cX7_top 40 = .ok (.getfield 48, 3) := by decide +kernel
theorem dX7_top_43 : decode cX7_top 43 = .ok (.iload_n 1, 1) := by decide +kernel
theorem dX7_top_44 : decode cX7_top 44 = .ok (.dup2, 1) := by decide +kernel
theorem dX7_top_45 : decode cX7_top 45 = .ok (.laload, 1) := by decide +kernel
theorem dX7_top_46 : decode cX7_top 46 = .ok (.iload_n 2, 1) := by decide +kernel
theorem dX7_top_47 : decode cX7_top 47 = .ok (.i2l, 1) := by decide +kernel
theorem dX7_top_48 : decode cX7_top 48 = .ok (.ladd, 1) := by decide +kernel
theorem dX7_top_49 : decode cX7_top 49 = .ok (.lastore, 1) := by decide +kernel
theorem dX7_top_50 : decode cX7_top 50 = .ok (.aload_n 0, 1) := by decide +kernel
theorem dX7_top_51 : decode cX7_top 51 = .ok (.getfield 48, 3) := by decide +kernel
theorem dX7_top_54 : decode cX7_top 54 = .ok (.iload_n 1, 1) := by decide +kernel
theorem dX7_top_55 : decode cX7_top 55 = .ok (.laload, 1) := by decide +kernel
theorem dX7_top_56 : decode cX7_top 56 = .ok (.lreturn, 1) := by decide +kernel
theorem dX7_exempt_0 : decode cX7_exempt 0 = .ok (.aload_n 0, 1) := by decide +kernel
theorem dX7_exempt_1 : decode cX7_exempt 1 = .ok (.iload_n 1, 1) := by decide +kernel
theorem dX7_exempt_2 : decode cX7_exempt 2 = .ok (.invokestatic 132, 3) := by decide +kernel
theorem dX7_exempt_5 : decode cX7_exempt 5 = .ok (.ifCond .ne 7, 3) := by decide +kernel
theorem dX7_exempt_8 : decode cX7_exempt 8 = .ok (.iconst 1, 1) := by decide +kernel
theorem dX7_exempt_9 : decode cX7_exempt 9 = .ok (.goto 41, 3) := by decide +kernel
theorem dX7_exempt_12 : decode cX7_exempt 12 = .ok (.iload_n 2, 1) := by decide +kernel
theorem dX7_exempt_13 : decode cX7_exempt 13 = .ok (.iconst 0, 1) := by decide +kernel
theorem dX7_exempt_14 : decode cX7_exempt 14 = .ok (.ldc 131, 2) := by decide +kernel
theorem dX7_exempt_16 : decode cX7_exempt 16 = .ok (.invokestatic 109, 3) := by decide +kernel
theorem dX7_exempt_19 : decode cX7_exempt 19 = .ok (.ifCond .eq 13, 3) := by decide +kernel
theorem dX7_exempt_22 : decode cX7_exempt 22 = .ok (.iload_n 3, 1) := by decide +kernel
theorem dX7_exempt_23 : decode cX7_exempt 23 = .ok (.iload_n 2, 1) := by decide +kernel
theorem dX7_exempt_24 : decode cX7_exempt 24 = .ok (.ldc 131, 2) := by decide +kernel
theorem dX7_exempt_26 : decode cX7_exempt 26 = .ok (.invokestatic 109, 3) := by decide +kernel
theorem dX7_exempt_29 : decode cX7_exempt 29 = .ok (.ifCond .ne 7, 3) := by decide +kernel
theorem dX7_exempt_32 : decode cX7_exempt 32 = .ok (.iconst 2, 1) := by decide +kernel
theorem dX7_exempt_33 : decode cX7_exempt 33 = .ok (.goto 17, 3) := by decide +kernel
theorem dX7_exempt_36 : decode cX7_exempt 36 = .ok (.aload_n 0, 1) := by decide +kernel
theorem dX7_exempt_37 : decode cX7_exempt 37 = .ok (.getfield 138, 3) := by decide +kernel
theorem dX7_exempt_40 : decode cX7_exempt 40 = .ok (.bipush 20, 2) := by decide +kernel
theorem dX7_exempt_42 : decode cX7_exempt 42 = .ok (.if_icmp .ne 7, 3) := by decide +kernel
theorem dX7_exempt_45 : decode cX7_exempt 45 = .ok (.iconst 3, 1) := by decide +kernel
theorem dX7_exempt_46 : decode cX7_exempt 46 = .ok (.goto 4, 3) := by decide +kernel
theorem dX7_exempt_49 : decode cX7_exempt 49 = .ok (.iconst 0, 1) := by decide +kernel
theorem dX7_exempt_50 : decode cX7_exempt 50 = .ok (.putfield 103, 3) := by decide +kernel
theorem dX7_exempt_53 : decode cX7_exempt 53 = .ok (.aload_n 0, 1) := by decide +kernel
theorem dX7_exempt_54 : decode cX7_exempt 54 = .ok (.getfield 103, 3) := by decide +kernel
theorem dX7_exempt_57 : decode cX7_exempt 57 = .ok (.ifCond .le 5, 3) := by decide +kernel
theorem dX7_exempt_60 : decode cX7_exempt 60 = .ok (.iconst 0, 1) := by decide +kernel
theorem dX7_exempt_61 : decode cX7_exempt 61 = .ok (.ireturn, 1) := by decide +kernel
theorem dX7_exempt_62 : decode cX7_exempt 62 = .ok (.aload_n 0, 1) := by decide +kernel
theorem dX7_exempt_63 : decode cX7_exempt 63 = .ok (.getfield 54, 3) := by decide +kernel
theorem dX7_exempt_66 : decode cX7_exempt 66 = .ok (.aload_n 0, 1) := by decide +kernel
theorem dX7_exempt_67 : decode cX7_exempt 67 = .ok (.getfield 138, 3) := by decide +kernel
theorem dX7_exempt_70 : decode cX7_exempt 70 = .ok (.iload_n 1, 1) := by decide +kernel
theorem dX7_exempt_71 : decode cX7_exempt 71 = .ok (.iastore, 1) := by decide +kernel
theorem dX7_exempt_72 : decode cX7_exempt 72 = .ok (.aload_n 0, 1) := by decide +kernel
theorem dX7_exempt_73 : decode cX7_exempt 73 = .ok (.getfield 57, 3) := by decide +kernel
theorem dX7_exempt_76 : decode cX7_exempt 76 = .ok (.aload_n 0, 1) := by decide +kernel
theorem dX7_exempt_77 : decode cX7_exempt 77 = .ok (.getfield 138, 3) := by decide +kernel
theorem dX7_exempt_80 : decode cX7_exempt 80 = .ok (.iload_n 2, 1) := by decide +kernel
theorem dX7_exempt_81 : decode cX7_exempt 81 = .ok (.iastore, 1) := by decide +kernel
theorem dX7_exempt_82 : decode cX7_exempt 82 = .ok (.aload_n 0, 1) := by decide +kernel
theorem dX7_exempt_83 : decode cX7_exempt 83 = .ok (.getfield 60, 3) := by decide +kernel
theorem dX7_exempt_86 : decode cX7_exempt 86 = .ok (.aload_n 0, 1) := by decide +kernel
theorem dX7_exempt_87 : decode cX7_exempt 87 = .ok (.getfield 138, 3) := by decide +kernel
theorem dX7_exempt_90 : decode cX7_exempt 90 = .ok (.iload_n 3, 1) := by decide +kernel
theorem dX7_exempt_91 : decode cX7_exempt 91 = .ok (.iastore, 1) := by decide +kernel
theorem dX7_exempt_92 : decode cX7_exempt 92 = .ok (.aload_n 0, 1) := by decide +kernel
theorem dX7_exempt_93 : decode cX7_exempt 93 = .ok (.dup, 1) := by decide +kernel
theorem dX7_exempt_94 : decode cX7_exempt 94 = .ok (.getfield 138, 3) := by decide +kernel
theorem dX7_exempt_97 : decode cX7_exempt 97 = .ok (.iconst 1, 1) := by decide +kernel
theorem dX7_exempt_98 : decode cX7_exempt 98 = .ok (.iadd, 1) := by decide +kernel
theorem dX7_exempt_99 : decode cX7_exempt 99 = .ok (.putfield 138, 3) := by decide +kernel
theorem dX7_exempt_102 : decode cX7_exempt 102 = .ok (.aload_n 0, 1) := by decide +kernel
theorem dX7_exempt_103 : decode cX7_exempt 103 = .ok (.getfield 138, 3) := by decide +kernel
theorem dX7_exempt_106 : decode cX7_exempt 106 = .ok (.ireturn, 1) := by decide +kernel
theorem dX7_isExempt_0 : decode cX7_isExempt 0 = .ok (.iconst 0, 1) := by decide +kernel
theorem dX7_isExempt_1 : decode cX7_isExempt 1 = .ok (.istore_n 3, 1) := by decide +kernel
theorem dX7_isExempt_2 : decode cX7_isExempt 2 = .ok (.iconst 0, 1) := by decide +kernel
theorem dX7_isExempt_3 : decode cX7_isExempt 3 = .ok (.istore 4, 2) := by decide +kernel
theorem dX7_isExempt_5 : decode cX7_isExempt 5 = .ok (.iload 4, 2) := by decide +kernel
theorem dX7_isExempt_7 : decode cX7_isExempt 7 = .ok (.aload_n 0, 1) := by decide +kernel
theorem dX7_isExempt_8 : decode cX7_isExempt 8 = .ok (.getfield 138, 3) := by decide +kernel
theorem dX7_isExempt_11 : decode cX7_isExempt 11 = .ok (.if_icmp .ge 51, 3) := by decide +kernel
theorem dX7_isExempt_14 : decode cX7_isExempt 14 = .ok (.iload_n 3, 1) := by decide +kernel
theorem dX7_isExempt_15 : decode cX7_isExempt 15 = .ok (.ifCond .ne 35, 3) := by decide +kernel
theorem dX7_isExempt_18 : decode cX7_isExempt 18 = .ok (.aload_n 0, 1) := by decide +kernel
theorem dX7_isExempt_19 : decode cX7_isExempt 19 = .ok (.getfield 54, 3) := by decide +kernel
theorem dX7_isExempt_22 : decode cX7_isExempt 22 = .ok (.iload 4, 2) := by decide +kernel
theorem dX7_isExempt_24 : decode cX7_isExempt 24 = .ok (.iaload, 1) := by decide +kernel
theorem dX7_isExempt_25 : decode cX7_isExempt 25 = .ok (.iload_n 1, 1) := by decide +kernel
theorem dX7_isExempt_26 : decode cX7_isExempt 26 = .ok (.if_icmp .ne 28, 3) := by decide +kernel
theorem dX7_isExempt_29 : decode cX7_isExempt 29 = .ok (.iload_n 2, 1) := by decide +kernel
theorem dX7_isExempt_30 : decode cX7_isExempt 30 = .ok (.aload_n 0, 1) := by decide +kernel
theorem dX7_isExempt_31 : decode cX7_isExempt 31 = .ok (.getfield 57, 3) := by decide +kernel
theorem dX7_isExempt_34 : decode cX7_isExempt 34 = .ok (.iload 4, 2) := by decide +kernel
theorem dX7_isExempt_36 : decode cX7_isExempt 36 = .ok (.iaload, 1) := by decide +kernel
theorem dX7_isExempt_37 : decode cX7_isExempt 37 = .ok (.aload_n 0, 1) := by decide +kernel
theorem dX7_isExempt_38 : decode cX7_isExempt 38 = .ok (.getfield 60, 3) := by decide +kernel
theorem dX7_isExempt_41 : decode cX7_isExempt 41 = .ok (.iload 4, 2) := by decide +kernel
theorem dX7_isExempt_43 : decode cX7_isExempt 43 = .ok (.iaload, 1) := by decide +kernel
theorem dX7_isExempt_44 : decode cX7_isExempt 44 = .ok (.invokestatic 109, 3) := by decide +kernel
theorem dX7_isExempt_47 : decode cX7_isExempt 47 = .ok (.ifCond .eq 7, 3) := by decide +kernel
theorem dX7_isExempt_50 : decode cX7_isExempt 50 = .ok (.iconst 1, 1) := by decide +kernel
theorem dX7_isExempt_51 : decode cX7_isExempt 51 = .ok (.goto 4, 3) := by decide +kernel
theorem dX7_isExempt_54 : decode cX7_isExempt 54 = .ok (.iconst 0, 1) := by decide +kernel
theorem dX7_isExempt_55 : decode cX7_isExempt 55 = .ok (.istore_n 3, 1) := by decide +kernel
theorem dX7_isExempt_56 : decode cX7_isExempt 56 = .ok (.iinc 4 1, 3) := by decide +kernel
theorem dX7_isExempt_59 : decode cX7_isExempt 59 = .ok (.goto (-54), 3) := by decide +kernel
theorem dX7_isExempt_62 : decode cX7_isExempt 62 = .ok (.iload_n 3, 1) := by decide +kernel
theorem dX7_isExempt_63 : decode cX7_isExempt 63 = .ok (.ireturn, 1) := by decide +kernel
theorem dX7_read_0 : decode cX7_read 0 = .ok (.aload_n 0, 1) := by decide +kernel
theorem dX7_read_1 : decode cX7_read 1 = .ok (.aload_n 0, 1) := by decide +kernel
theorem dX7_read_2 : decode cX7_read 2 = .ok (.iload_n 1, 1) := by decide +kernel
theorem dX7_read_3 : decode cX7_read 3 = .ok (.invokevirtual 127, 3) := by decide +kernel
theorem dX7_read_6 : decode cX7_read 6 = .ok (.ifCond .eq 10, 3) := by decide +kernel
theorem dX7_read_9 : decode cX7_read 9 = .ok (.iload_n 2, 1) := by decide +kernel
theorem dX7_read_10 : decode cX7_read 10 = .ok (.invokestatic 132, 3) := by decide +kernel
theorem dX7_read_13 : decode cX7_read 13 = .ok (.ifCond .ne 7, 3) := by decide +kernel
theorem dX7_read_16 : decode cX7_read 16 = .ok (.iconst 1, 1) := by decide +kernel
theorem dX7_read_17 : decode cX7_read 17 = .ok (.goto 33, 3) := by decide +kernel
theorem dX7_read_20 : decode cX7_read 20 = .ok (.iload_n 3, 1) := by decide +kernel
theorem dX7_read_21 : decode cX7_read 21 = .ok (.iconst 0, 1) := by decide +kernel
theorem dX7_read_22 : decode cX7_read 22 = .ok (.aload_n 0, 1) := by decide +kernel
theorem dX7_read_23 : decode cX7_read 23 = .ok (.getfield 141, 3) := by decide +kernel
theorem dX7_read_26 : decode cX7_read 26 = .ok (.invokestatic 109, 3) := by decide +kernel
theorem dX7_read_29 : decode cX7_read 29 = .ok (.ifCond .ne 7, 3) := by decide +kernel
theorem dX7_read_32 : decode cX7_read 32 = .ok (.iconst 2, 1) := by decide +kernel
theorem dX7_read_33 : decode cX7_read 33 = .ok (.goto 17, 3) := by decide +kernel
theorem dX7_read_36 : decode cX7_read 36 = .ok (.aload_n 0, 1) := by decide +kernel
theorem dX7_read_37 : decode cX7_read 37 = .ok (.getfield 113, 3) := by decide +kernel
theorem dX7_read_40 : decode cX7_read 40 = .ok (.bipush 100, 2) := by decide +kernel
theorem dX7_read_42 : decode cX7_read 42 = .ok (.if_icmp .ne 7, 3) := by decide +kernel
theorem dX7_read_45 : decode cX7_read 45 = .ok (.iconst 3, 1) := by decide +kernel
theorem dX7_read_46 : decode cX7_read 46 = .ok (.goto 4, 3) := by decide +kernel
theorem dX7_read_49 : decode cX7_read 49 = .ok (.iconst 0, 1) := by decide +kernel
theorem dX7_read_50 : decode cX7_read 50 = .ok (.putfield 103, 3) := by decide +kernel
theorem dX7_read_53 : decode cX7_read 53 = .ok (.aload_n 0, 1) := by decide +kernel
theorem dX7_read_54 : decode cX7_read 54 = .ok (.getfield 103, 3) := by decide +kernel
theorem dX7_read_57 : decode cX7_read 57 = .ok (.ifCond .le 5, 3) := by decide +kernel
theorem dX7_read_60 : decode cX7_read 60 = .ok (.iconst 0, 1) := by decide +kernel
theorem dX7_read_61 : decode cX7_read 61 = .ok (.ireturn, 1) := by decide +kernel
theorem dX7_read_62 : decode cX7_read 62 = .ok (.aload_n 0, 1) := by decide +kernel
theorem dX7_read_63 : decode cX7_read 63 = .ok (.getfield 63, 3) := by decide +kernel
theorem dX7_read_66 : decode cX7_read 66 = .ok (.aload_n 0, 1) := by decide +kernel
theorem dX7_read_67 : decode cX7_read 67 = .ok (.getfield 113, 3) := by decide +kernel
theorem dX7_read_70 : decode cX7_read 70 = .ok (.iload_n 1, 1) := by decide +kernel
theorem dX7_read_71 : decode cX7_read 71 = .ok (.iastore, 1) := by decide +kernel
theorem dX7_read_72 : decode cX7_read 72 = .ok (.aload_n 0, 1) := by decide +kernel
theorem dX7_read_73 : decode cX7_read 73 = .ok (.getfield 66, 3) := by decide +kernel
theorem dX7_read_76 : decode cX7_read 76 = .ok (.aload_n 0, 1) := by decide +kernel
theorem dX7_read_77 : decode cX7_read 77 = .ok (.getfield 113, 3) := by decide +kernel
theorem dX7_read_80 : decode cX7_read 80 = .ok (.iload_n 2, 1) := by decide +kernel
theorem dX7_read_81 : decode cX7_read 81 = .ok (.iastore, 1) := by decide +kernel
theorem dX7_read_82 : decode cX7_read 82 = .ok (.aload_n 0, 1) := by decide +kernel
theorem dX7_read_83 : decode cX7_read 83 = .ok (.getfield 69, 3) := by decide +kernel
theorem dX7_read_86 : decode cX7_read 86 = .ok (.aload_n 0, 1) := by decide +kernel
theorem dX7_read_87 : decode cX7_read 87 = .ok (.getfield 113, 3) := by decide +kernel
theorem dX7_read_90 : decode cX7_read 90 = .ok (.iload_n 3, 1) := by decide +kernel
theorem dX7_read_91 : decode cX7_read 91 = .ok (.iastore, 1) := by decide +kernel
theorem dX7_read_92 : decode cX7_read 92 = .ok (.aload_n 0, 1) := by decide +kernel
theorem dX7_read_93 : decode cX7_read 93 = .ok (.getfield 72, 3) := by decide +kernel
theorem dX7_read_96 : decode cX7_read 96 = .ok (.aload_n 0, 1) := by decide +kernel
theorem dX7_read_97 : decode cX7_read 97 = .ok (.getfield 113, 3) := by decide +kernel
theorem dX7_read_100 : decode cX7_read 100 = .ok (.iconst 0, 1) := by decide +kernel
theorem dX7_read_101 : decode cX7_read 101 = .ok (.bastore, 1) := by decide +kernel
theorem dX7_read_102 : decode cX7_read 102 = .ok (.aload_n 0, 1) := by decide +kernel
theorem dX7_read_103 : decode cX7_read 103 = .ok (.dup, 1) := by decide +kernel
theorem dX7_read_104 : decode cX7_read 104 = .ok (.getfield 113, 3) := by decide +kernel
theorem dX7_read_107 : decode cX7_read 107 = .ok (.iconst 1, 1) := by decide +kernel
theorem dX7_read_108 : decode cX7_read 108 = .ok (.iadd, 1) := by decide +kernel
theorem dX7_read_109 : decode cX7_read 109 = .ok (.putfield 113, 3) := by decide +kernel
theorem dX7_read_112 : decode cX7_read 112 = .ok (.aload_n 0, 1) := by decide +kernel
theorem dX7_read_113 : decode cX7_read 113 = .ok (.getfield 113, 3) := by decide +kernel
theorem dX7_read_116 : decode cX7_read 116 = .ok (.iconst 1, 1) := by decide +kernel
theorem dX7_read_117 : decode cX7_read 117 = .ok (.isub, 1) := by decide +kernel
theorem dX7_read_118 : decode cX7_read 118 = .ok (.ireturn, 1) := by decide +kernel
theorem dX7_strike_0 : decode cX7_strike 0 = .ok (.aload_n 0, 1) := by decide +kernel
theorem dX7_strike_1 : decode cX7_strike 1 = .ok (.aload_n 0, 1) := by decide +kernel
theorem dX7_strike_2 : decode cX7_strike 2 = .ok (.iload_n 1, 1) := by decide +kernel
theorem dX7_strike_3 : decode cX7_strike 3 = .ok (.invokevirtual 144, 3) := by decide +kernel
theorem dX7_strike_6 : decode cX7_strike 6 = .ok (.ifCond .ne 7, 3) := by decide +kernel
theorem dX7_strike_9 : decode cX7_strike 9 = .ok (.iconst 1, 1) := by decide +kernel
theorem dX7_strike_10 : decode cX7_strike 10 = .ok (.goto 17, 3) := by decide +kernel
theorem dX7_strike_13 : decode cX7_strike 13 = .ok (.aload_n 0, 1) := by decide +kernel
theorem dX7_strike_14 : decode cX7_strike 14 = .ok (.getfield 72, 3) := by decide +kernel
theorem dX7_strike_17 : decode cX7_strike 17 = .ok (.iload_n 1, 1) := by decide +kernel
theorem dX7_strike_18 : decode cX7_strike 18 = .ok (.baload, 1) := by decide +kernel
theorem dX7_strike_19 : decode cX7_strike 19 = .ok (.ifCond .eq 7, 3) := by decide +kernel
theorem dX7_strike_22 : decode cX7_strike 22 = .ok (.iconst 2, 1) := by decide +kernel
theorem dX7_strike_23 : decode cX7_strike 23 = .ok (.goto 4, 3) := by decide +kernel
theorem dX7_strike_26 : decode cX7_strike 26 = .ok (.iconst 0, 1) := by decide +kernel
theorem dX7_strike_27 : decode cX7_strike 27 = .ok (.putfield 103, 3) := by decide +kernel
theorem dX7_strike_30 : decode cX7_strike 30 = .ok (.aload_n 0, 1) := by decide +kernel
theorem dX7_strike_31 : decode cX7_strike 31 = .ok (.getfield 103, 3) := by decide +kernel
theorem dX7_strike_34 : decode cX7_strike 34 = .ok (.ifCond .ne 10, 3) := by decide +kernel
theorem dX7_strike_37 : decode cX7_strike 37 = .ok (.aload_n 0, 1) := by decide +kernel
theorem dX7_strike_38 : decode cX7_strike 38 = .ok (.getfield 72, 3) := by decide +kernel
theorem dX7_strike_41 : decode cX7_strike 41 = .ok (.iload_n 1, 1) := by decide +kernel
theorem dX7_strike_42 : decode cX7_strike 42 = .ok (.iconst 1, 1) := by decide +kernel
theorem dX7_strike_43 : decode cX7_strike 43 = .ok (.bastore, 1) := by decide +kernel
theorem dX7_strike_44 : decode cX7_strike 44 = .ok (.return_, 1) := by decide +kernel
theorem dX7_pass_0 : decode cX7_pass 0 = .ok (.aload_n 0, 1) := by decide +kernel
theorem dX7_pass_1 : decode cX7_pass 1 = .ok (.iload_n 1, 1) := by decide +kernel
theorem dX7_pass_2 : decode cX7_pass 2 = .ok (.iconst 1, 1) := by decide +kernel
theorem dX7_pass_3 : decode cX7_pass 3 = .ok (.sipush 1440, 3) := by decide +kernel
theorem dX7_pass_6 : decode cX7_pass 6 = .ok (.invokestatic 109, 3) := by decide +kernel
theorem dX7_pass_9 : decode cX7_pass 9 = .ok (.ifCond .ne 7, 3) := by decide +kernel
theorem dX7_pass_12 : decode cX7_pass 12 = .ok (.iconst 1, 1) := by decide +kernel
theorem dX7_pass_13 : decode cX7_pass 13 = .ok (.goto 19, 3) := by decide +kernel
theorem dX7_pass_16 : decode cX7_pass 16 = .ok (.aload_n 0, 1) := by decide +kernel
theorem dX7_pass_17 : decode cX7_pass 17 = .ok (.getfield 141, 3) := by decide +kernel
theorem dX7_pass_20 : decode cX7_pass 20 = .ok (.iload_n 1, 1) := by decide +kernel
theorem dX7_pass_21 : decode cX7_pass 21 = .ok (.iadd, 1) := by decide +kernel
theorem dX7_pass_22 : decode cX7_pass 22 = .ok (.ldc 131, 2) := by decide +kernel
theorem dX7_pass_24 : decode cX7_pass 24 = .ok (.if_icmp .le 7, 3) := by decide +kernel
theorem dX7_pass_27 : decode cX7_pass 27 = .ok (.iconst 2, 1) := by decide +kernel
theorem dX7_pass_28 : decode cX7_pass 28 = .ok (.goto 4, 3) := by decide +kernel
theorem dX7_pass_31 : decode cX7_pass 31 = .ok (.iconst 0, 1) := by decide +kernel
theorem dX7_pass_32 : decode cX7_pass 32 = .ok (.putfield 103, 3) := by decide +kernel
theorem dX7_pass_35 : decode cX7_pass 35 = .ok (.aload_n 0, 1) := by decide +kernel
theorem dX7_pass_36 : decode cX7_pass 36 = .ok (.getfield 103, 3) := by decide +kernel
theorem dX7_pass_39 : decode cX7_pass 39 = .ok (.ifCond .le 5, 3) := by decide +kernel
theorem dX7_pass_42 : decode cX7_pass 42 = .ok (.iconst 0, 1) := by decide +kernel
theorem dX7_pass_43 : decode cX7_pass 43 = .ok (.ireturn, 1) := by decide +kernel
theorem dX7_pass_44 : decode cX7_pass 44 = .ok (.aload_n 0, 1) := by decide +kernel
theorem dX7_pass_45 : decode cX7_pass 45 = .ok (.dup, 1) := by decide +kernel
theorem dX7_pass_46 : decode cX7_pass 46 = .ok (.getfield 141, 3) := by decide +kernel
theorem dX7_pass_49 : decode cX7_pass 49 = .ok (.iload_n 1, 1) := by decide +kernel
theorem dX7_pass_50 : decode cX7_pass 50 = .ok (.iadd, 1) := by decide +kernel
theorem dX7_pass_51 : decode cX7_pass 51 = .ok (.putfield 141, 3) := by decide +kernel
theorem dX7_pass_54 : decode cX7_pass 54 = .ok (.aload_n 0, 1) := by decide +kernel
theorem dX7_pass_55 : decode cX7_pass 55 = .ok (.getfield 141, 3) := by decide +kernel
theorem dX7_pass_58 : decode cX7_pass 58 = .ok (.ireturn, 1) := by decide +kernel
theorem dX7_nextReading_0 : decode cX7_nextReading 0 = .ok (.iconst (-1), 1) := by decide +kernel
theorem dX7_nextReading_1 : decode cX7_nextReading 1 = .ok (.istore_n 2, 1) := by decide +kernel
theorem dX7_nextReading_2 : decode cX7_nextReading 2 = .ok (.aload_n 0, 1) := by decide +kernel
theorem dX7_nextReading_3 : decode cX7_nextReading 3 = .ok (.getfield 113, 3) := by decide +kernel
theorem dX7_nextReading_6 : decode cX7_nextReading 6 = .ok (.iconst 1, 1) := by decide +kernel
theorem dX7_nextReading_7 : decode cX7_nextReading 7 = .ok (.isub, 1) := by decide +kernel
theorem dX7_nextReading_8 : decode cX7_nextReading 8 = .ok (.istore_n 3, 1) := by decide +kernel
theorem dX7_nextReading_9 : decode cX7_nextReading 9 = .ok (.iload_n 3, 1) := by decide +kernel
theorem dX7_nextReading_10 : decode cX7_nextReading 10 = .ok (.ifCond .lt 75, 3) := by decide +kernel
theorem dX7_nextReading_13 : decode cX7_nextReading 13 = .ok (.aload_n 0, 1) := by decide +kernel
theorem dX7_nextReading_14 : decode cX7_nextReading 14 = .ok (.getfield 66, 3) := by decide +kernel
theorem dX7_nextReading_17 : decode cX7_nextReading 17 = .ok (.iload_n 3, 1) := by decide +kernel
theorem dX7_nextReading_18 : decode cX7_nextReading 18 = .ok (.iaload, 1) := by decide +kernel
theorem dX7_nextReading_19 : decode cX7_nextReading 19 = .ok (.iload_n 1, 1) := by decide +kernel
theorem dX7_nextReading_20 : decode cX7_nextReading 20 = .ok (.if_icmp .ne 25, 3) := by decide +kernel
theorem dX7_nextReading_23 : decode cX7_nextReading 23 = .ok (.aload_n 0, 1) := by decide +kernel
theorem dX7_nextReading_24 : decode cX7_nextReading 24 = .ok (.getfield 72, 3) := by decide +kernel
theorem dX7_nextReading_27 : decode cX7_nextReading 27 = .ok (.iload_n 3, 1) := by decide +kernel
theorem dX7_nextReading_28 : decode cX7_nextReading 28 = .ok (.baload, 1) := by decide +kernel
theorem dX7_nextReading_29 : decode cX7_nextReading 29 = .ok (.ifCond .ne 16, 3) := by decide +kernel
theorem dX7_nextReading_32 : decode cX7_nextReading 32 = .ok (.aload_n 0, 1) := by decide +kernel
theorem dX7_nextReading_33 : decode cX7_nextReading 33 = .ok (.getfield 82, 3) := by decide +kernel
theorem dX7_nextReading_36 : decode cX7_nextReading 36 = .ok (.iload_n 3, 1) := by decide +kernel
theorem dX7_nextReading_37 : decode cX7_nextReading 37 = .ok (.baload, 1) := by decide +kernel
theorem dX7_nextReading_38 : decode cX7_nextReading 38 = .ok (.ifCond .ne 7, 3) := by decide +kernel
theorem dX7_nextReading_41 : decode cX7_nextReading 41 = .ok (.iconst 1, 1) := by decide +kernel
theorem dX7_nextReading_42 : decode cX7_nextReading 42 = .ok (.goto 4, 3) := by decide +kernel
theorem dX7_nextReading_45 : decode cX7_nextReading 45 = .ok (.iconst 0, 1) := by decide +kernel
theorem dX7_nextReading_46 : decode cX7_nextReading 46 = .ok (.istore 4, 2) := by decide +kernel
theorem dX7_nextReading_48 : decode cX7_nextReading 48 = .ok (.iload 4, 2) := by decide +kernel
theorem dX7_nextReading_50 : decode cX7_nextReading 50 = .ok (.ifCond .eq 27, 3) := by decide +kernel
theorem dX7_nextReading_53 : decode cX7_nextReading 53 = .ok (.iload_n 2, 1) := by decide +kernel
theorem dX7_nextReading_54 : decode cX7_nextReading 54 = .ok (.iconst (-1), 1) := by decide +kernel
theorem dX7_nextReading_55 : decode cX7_nextReading 55 = .ok (.if_icmp .eq 18, 3) := by decide +kernel
theorem dX7_nextReading_58 : decode cX7_nextReading 58 = .ok (.aload_n 0, 1) := by decide +kernel
theorem dX7_nextReading_59 : decode cX7_nextReading 59 = .ok (.getfield 69, 3) := by decide +kernel
theorem dX7_nextReading_62 : decode cX7_nextReading 62 = .ok (.iload_n 3, 1) := by decide +kernel
theorem dX7_nextReading_63 : decode cX7_nextReading 63 = .ok (.iaload, 1) := by decide +kernel
theorem dX7_nextReading_64 : decode cX7_nextReading 64 = .ok (.aload_n 0, 1) := by decide +kernel
theorem dX7_nextReading_65 : decode cX7_nextReading 65 = .ok (.getfield 69, 3) := by decide +kernel
theorem dX7_nextReading_68 : decode cX7_nextReading 68 = .ok (.iload_n 2, 1) := by decide +kernel
theorem dX7_nextReading_69 : decode cX7_nextReading 69 = .ok (.iaload, 1) := by decide +kernel
theorem dX7_nextReading_70 : decode cX7_nextReading 70 = .ok (.if_icmp .gt 7, 3) := by decide +kernel
theorem dX7_nextReading_73 : decode cX7_nextReading 73 = .ok (.iload_n 3, 1) := by decide +kernel
theorem dX7_nextReading_74 : decode cX7_nextReading 74 = .ok (.goto 4, 3) := by decide +kernel
theorem dX7_nextReading_77 : decode cX7_nextReading 77 = .ok (.iload_n 2, 1) := by decide +kernel
theorem dX7_nextReading_78 : decode cX7_nextReading 78 = .ok (.istore_n 2, 1) := by decide +kernel
theorem dX7_nextReading_79 : decode cX7_nextReading 79 = .ok (.iinc 3 (-1), 3) := by decide +kernel
theorem dX7_nextReading_82 : decode cX7_nextReading 82 = .ok (.goto (-73), 3) := by decide +kernel
theorem dX7_nextReading_85 : decode cX7_nextReading 85 = .ok (.iload_n 2, 1) := by decide +kernel
theorem dX7_nextReading_86 : decode cX7_nextReading 86 = .ok (.ireturn, 1) := by decide +kernel
theorem dX7_pays_0 : decode cX7_pays 0 = .ok (.aload_n 0, 1) := by decide +kernel
theorem dX7_pays_1 : decode cX7_pays 1 = .ok (.getfield 69, 3) := by decide +kernel
theorem dX7_pays_4 : decode cX7_pays 4 = .ok (.iload_n 3, 1) := by decide +kernel
theorem dX7_pays_5 : decode cX7_pays 5 = .ok (.iaload, 1) := by decide +kernel
theorem dX7_pays_6 : decode cX7_pays 6 = .ok (.bipush 60, 2) := by decide +kernel
theorem dX7_pays_8 : decode cX7_pays 8 = .ok (.idiv, 1) := by decide +kernel
theorem dX7_pays_9 : decode cX7_pays 9 = .ok (.bipush 24, 2) := by decide +kernel
theorem dX7_pays_11 : decode cX7_pays 11 = .ok (.irem, 1) := by decide +kernel
theorem dX7_pays_12 : decode cX7_pays 12 = .ok (.istore 5, 2) := by decide +kernel
theorem dX7_pays_14 : decode cX7_pays 14 = .ok (.iload 5, 2) := by decide +kernel
theorem dX7_pays_16 : decode cX7_pays 16 = .ok (.bipush 7, 2) := by decide +kernel
theorem dX7_pays_18 : decode cX7_pays 18 = .ok (.if_icmp .eq 24, 3) := by decide +kernel
theorem dX7_pays_21 : decode cX7_pays 21 = .ok (.iload 5, 2) := by decide +kernel
theorem dX7_pays_23 : decode cX7_pays 23 = .ok (.bipush 8, 2) := by decide +kernel
theorem dX7_pays_25 : decode cX7_pays 25 = .ok (.if_icmp .eq 17, 3) := by decide +kernel
theorem dX7_pays_28 : decode cX7_pays 28 = .ok (.iload 5, 2) := by decide +kernel
theorem dX7_pays_30 : decode cX7_pays 30 = .ok (.bipush 16, 2) := by decide +kernel
theorem dX7_pays_32 : decode cX7_pays 32 = .ok (.if_icmp .eq 10, 3) := by decide +kernel
theorem dX7_pays_35 : decode cX7_pays 35 = .ok (.iload 5, 2) := by decide +kernel
theorem dX7_pays_37 : decode cX7_pays 37 = .ok (.bipush 17, 2) := by decide +kernel
theorem dX7_pays_39 : decode cX7_pays 39 = .ok (.if_icmp .ne 7, 3) := by decide +kernel
theorem dX7_pays_42 : decode cX7_pays 42 = .ok (.iconst 1, 1) := by decide +kernel
theorem dX7_pays_43 : decode cX7_pays 43 = .ok (.goto 4, 3) := by decide +kernel
theorem dX7_pays_46 : decode cX7_pays 46 = .ok (.iconst 0, 1) := by decide +kernel
theorem dX7_pays_47 : decode cX7_pays 47 = .ok (.istore 6, 2) := by decide +kernel
theorem dX7_pays_49 : decode cX7_pays 49 = .ok (.iload 6, 2) := by decide +kernel
theorem dX7_pays_51 : decode cX7_pays 51 = .ok (.ifCond .eq 17, 3) := by decide +kernel
theorem dX7_pays_54 : decode cX7_pays 54 = .ok (.aload_n 0, 1) := by decide +kernel
theorem dX7_pays_55 : decode cX7_pays 55 = .ok (.getfield 28, 3) := by decide +kernel
theorem dX7_pays_58 : decode cX7_pays 58 = .ok (.aload_n 0, 1) := by decide +kernel
theorem dX7_pays_59 : decode cX7_pays 59 = .ok (.getfield 35, 3) := by decide +kernel
theorem dX7_pays_62 : decode cX7_pays 62 = .ok (.iload_n 2, 1) := by decide +kernel
theorem dX7_pays_63 : decode cX7_pays 63 = .ok (.iaload, 1) := by decide +kernel
theorem dX7_pays_64 : decode cX7_pays 64 = .ok (.iaload, 1) := by decide +kernel
theorem dX7_pays_65 : decode cX7_pays 65 = .ok (.goto 5, 3) := by decide +kernel
theorem dX7_pays_68 : decode cX7_pays 68 = .ok (.bipush 100, 2) := by decide +kernel
theorem dX7_pays_70 : decode cX7_pays 70 = .ok (.istore 7, 2) := by decide +kernel
theorem dX7_pays_72 : decode cX7_pays 72 = .ok (.aload_n 0, 1) := by decide +kernel
theorem dX7_pays_73 : decode cX7_pays 73 = .ok (.getfield 63, 3) := by decide +kernel
theorem dX7_pays_76 : decode cX7_pays 76 = .ok (.iload_n 3, 1) := by decide +kernel
theorem dX7_pays_77 : decode cX7_pays 77 = .ok (.iaload, 1) := by decide +kernel
theorem dX7_pays_78 : decode cX7_pays 78 = .ok (.istore 8, 2) := by decide +kernel
theorem dX7_pays_80 : decode cX7_pays 80 = .ok (.aload_n 0, 1) := by decide +kernel
theorem dX7_pays_81 : decode cX7_pays 81 = .ok (.getfield 63, 3) := by decide +kernel
theorem dX7_pays_84 : decode cX7_pays 84 = .ok (.iload 4, 2) := by decide +kernel
theorem dX7_pays_86 : decode cX7_pays 86 = .ok (.iaload, 1) := by decide +kernel
theorem dX7_pays_87 : decode cX7_pays 87 = .ok (.istore 9, 2) := by decide +kernel
theorem dX7_pays_89 : decode cX7_pays 89 = .ok (.iload 8, 2) := by decide +kernel
theorem dX7_pays_91 : decode cX7_pays 91 = .ok (.iload 9, 2) := by decide +kernel
theorem dX7_pays_93 : decode cX7_pays 93 = .ok (.if_icmp .eq 88, 3) := by decide +kernel
theorem dX7_pays_96 : decode cX7_pays 96 = .ok (.aload_n 0, 1) := by decide +kernel
theorem dX7_pays_97 : decode cX7_pays 97 = .ok (.iload_n 2, 1) := by decide +kernel
theorem dX7_pays_98 : decode cX7_pays 98 = .ok (.aload_n 0, 1) := by decide +kernel
theorem dX7_pays_99 : decode cX7_pays 99 = .ok (.getfield 69, 3) := by decide +kernel
theorem dX7_pays_102 : decode cX7_pays 102 = .ok (.iload_n 3, 1) := by decide +kernel
theorem dX7_pays_103 : decode cX7_pays 103 = .ok (.iaload, 1) := by decide +kernel
theorem dX7_pays_104 : decode cX7_pays 104 = .ok (.invokevirtual 147, 3) := by decide +kernel
theorem dX7_pays_107 : decode cX7_pays 107 = .ok (.ifCond .ne 74, 3) := by decide +kernel
theorem dX7_pays_110 : decode cX7_pays 110 = .ok (.aload_n 0, 1) := by decide +kernel
theorem dX7_pays_111 : decode cX7_pays 111 = .ok (.iload 8, 2) := by decide +kernel
theorem dX7_pays_113 : decode cX7_pays 113 = .ok (.iload 9, 2) := by decide +kernel
theorem dX7_pays_115 : decode cX7_pays 115 = .ok (.invokevirtual 151, 3) := by decide +kernel
theorem dX7_pays_118 : decode cX7_pays 118 = .ok (.istore 10, 2) := by decide +kernel
theorem dX7_pays_120 : decode cX7_pays 120 = .ok (.aload_n 0, 1) := by decide +kernel
theorem dX7_pays_121 : decode cX7_pays 121 = .ok (.getfield 94, 3) := by decide +kernel
theorem dX7_pays_124 : decode cX7_pays 124 = .ok (.iconst 4, 1) := by decide +kernel
theorem dX7_pays_125 : decode cX7_pays 125 = .ok (.iload_n 1, 1) := by decide +kernel
theorem dX7_pays_126 : decode cX7_pays 126 = .ok (.imul, 1) := by decide +kernel
theorem dX7_pays_127 : decode cX7_pays 127 = .ok (.aload_n 0, 1) := by decide +kernel
theorem dX7_pays_128 : decode cX7_pays 128 = .ok (.getfield 19, 3) := by decide +kernel
theorem dX7_pays_131 : decode cX7_pays 131 = .ok (.iload 10, 2) := by decide +kernel
theorem dX7_pays_133 : decode cX7_pays 133 = .ok (.iaload, 1) := by decide +kernel
theorem dX7_pays_134 : decode cX7_pays 134 = .ok (.iadd, 1) := by decide +kernel
theorem dX7_pays_135 : decode cX7_pays 135 = .ok (.dup2, 1) := by decide +kernel
theorem dX7_pays_136 : decode cX7_pays 136 = .ok (.laload, 1) := by decide +kernel
theorem dX7_pays_137 : decode cX7_pays 137 = .ok (.aload_n 0, 1) := by decide +kernel
theorem dX7_pays_138 : decode cX7_pays 138 = .ok (.getfield 16, 3) := by decide +kernel
theorem dX7_pays_141 : decode cX7_pays 141 = .ok (.iload 10, 2) := by decide +kernel
theorem dX7_pays_143 : decode cX7_pays 143 = .ok (.iaload, 1) := by decide +kernel
theorem dX7_pays_144 : decode cX7_pays 144 = .ok (.i2l, 1) := by decide +kernel
theorem dX7_pays_145 : decode cX7_pays 145 = .ok (.aload_n 0, 1) := by decide +kernel
theorem dX7_pays_146 : decode cX7_pays 146 = .ok (.getfield 25, 3) := by decide +kernel
theorem dX7_pays_149 : decode cX7_pays 149 = .ok (.aload_n 0, 1) := by decide +kernel
theorem dX7_pays_150 : decode cX7_pays 150 = .ok (.getfield 35, 3) := by decide +kernel
theorem dX7_pays_153 : decode cX7_pays 153 = .ok (.iload_n 2, 1) := by decide +kernel
theorem dX7_pays_154 : decode cX7_pays 154 = .ok (.iaload, 1) := by decide +kernel
theorem dX7_pays_155 : decode cX7_pays 155 = .ok (.iaload, 1) := by decide +kernel
theorem dX7_pays_156 : decode cX7_pays 156 = .ok (.i2l, 1) := by decide +kernel
theorem dX7_pays_157 : decode cX7_pays 157 = .ok (.lmul, 1) := by decide +kernel
theorem dX7_pays_158 : decode cX7_pays 158 = .ok (.iload 7, 2) := by decide +kernel
theorem dX7_pays_160 : decode cX7_pays 160 = .ok (.i2l, 1) := by decide +kernel
theorem dX7_pays_161 : decode cX7_pays 161 = .ok (.lmul, 1) := by decide +kernel
theorem dX7_pays_162 : decode cX7_pays 162 = .ok (.ldc2_w 154, 3) := by decide +kernel
theorem dX7_pays_165 : decode cX7_pays 165 = .ok (.ldiv, 1) := by decide +kernel
theorem dX7_pays_166 : decode cX7_pays 166 = .ok (.ladd, 1) := by decide +kernel
theorem dX7_pays_167 : decode cX7_pays 167 = .ok (.lastore, 1) := by decide +kernel
theorem dX7_pays_168 : decode cX7_pays 168 = .ok (.aload_n 0, 1) := by decide +kernel
theorem dX7_pays_169 : decode cX7_pays 169 = .ok (.iload 10, 2) := by decide +kernel
theorem dX7_pays_171 : decode cX7_pays 171 = .ok (.iload 8, 2) := by decide +kernel
theorem dX7_pays_173 : decode cX7_pays 173 = .ok (.invokevirtual 156, 3) := by decide +kernel
theorem dX7_pays_176 : decode cX7_pays 176 = .ok (.istore 8, 2) := by decide +kernel
theorem dX7_pays_178 : decode cX7_pays 178 = .ok (.goto (-89), 3) := by decide +kernel
theorem dX7_pays_181 : decode cX7_pays 181 = .ok (.return_, 1) := by decide +kernel
theorem dX7_begins_0 : decode cX7_begins 0 = .ok (.aload_n 0, 1) := by decide +kernel
theorem dX7_begins_1 : decode cX7_begins 1 = .ok (.getfield 159, 3) := by decide +kernel
theorem dX7_begins_4 : decode cX7_begins 4 = .ok (.istore_n 2, 1) := by decide +kernel
theorem dX7_begins_5 : decode cX7_begins 5 = .ok (.aload_n 0, 1) := by decide +kernel
theorem dX7_begins_6 : decode cX7_begins 6 = .ok (.getfield 85, 3) := by decide +kernel
theorem dX7_begins_9 : decode cX7_begins 9 = .ok (.iload_n 2, 1) := by decide +kernel
theorem dX7_begins_10 : decode cX7_begins 10 = .ok (.aload_n 0, 1) := by decide +kernel
theorem dX7_begins_11 : decode cX7_begins 11 = .ok (.getfield 69, 3) := by decide +kernel
theorem dX7_begins_14 : decode cX7_begins 14 = .ok (.iload_n 1, 1) := by decide +kernel
theorem dX7_begins_15 : decode cX7_begins 15 = .ok (.iaload, 1) := by decide +kernel
theorem dX7_begins_16 : decode cX7_begins 16 = .ok (.iastore, 1) := by decide +kernel
theorem dX7_begins_17 : decode cX7_begins 17 = .ok (.aload_n 0, 1) := by decide +kernel
theorem dX7_begins_18 : decode cX7_begins 18 = .ok (.getfield 91, 3) := by decide +kernel
theorem dX7_begins_21 : decode cX7_begins 21 = .ok (.iload_n 2, 1) := by decide +kernel
theorem dX7_begins_22 : decode cX7_begins 22 = .ok (.iconst 0, 1) := by decide +kernel
theorem dX7_begins_23 : decode cX7_begins 23 = .ok (.iastore, 1) := by decide +kernel
theorem dX7_begins_24 : decode cX7_begins 24 = .ok (.iconst 0, 1) := by decide +kernel
theorem dX7_begins_25 : decode cX7_begins 25 = .ok (.istore_n 3, 1) := by decide +kernel
theorem dX7_begins_26 : decode cX7_begins 26 = .ok (.iload_n 3, 1) := by decide +kernel
theorem dX7_begins_27 : decode cX7_begins 27 = .ok (.iconst 4, 1) := by decide +kernel
theorem dX7_begins_28 : decode cX7_begins 28 = .ok (.if_icmp .ge 20, 3) := by decide +kernel
theorem dX7_begins_31 : decode cX7_begins 31 = .ok (.aload_n 0, 1) := by decide +kernel
theorem dX7_begins_32 : decode cX7_begins 32 = .ok (.getfield 94, 3) := by decide +kernel
theorem dX7_begins_35 : decode cX7_begins 35 = .ok (.iconst 4, 1) := by decide +kernel
theorem dX7_begins_36 : decode cX7_begins 36 = .ok (.iload_n 2, 1) := by decide +kernel
theorem dX7_begins_37 : decode cX7_begins 37 = .ok (.imul, 1) := by decide +kernel
theorem dX7_begins_38 : decode cX7_begins 38 = .ok (.iload_n 3, 1) := by decide +kernel
theorem dX7_begins_39 : decode cX7_begins 39 = .ok (.iadd, 1) := by decide +kernel
theorem dX7_begins_40 : decode cX7_begins 40 = .ok (.lconst 0, 1) := by decide +kernel
theorem dX7_begins_41 : decode cX7_begins 41 = .ok (.lastore, 1) := by decide +kernel
theorem dX7_begins_42 : decode cX7_begins 42 = .ok (.iinc 3 1, 3) := by decide +kernel
theorem dX7_begins_45 : decode cX7_begins 45 = .ok (.goto (-19), 3) := by decide +kernel
theorem dX7_begins_48 : decode cX7_begins 48 = .ok (.aload_n 0, 1) := by decide +kernel
theorem dX7_begins_49 : decode cX7_begins 49 = .ok (.dup, 1) := by decide +kernel
theorem dX7_begins_50 : decode cX7_begins 50 = .ok (.getfield 159, 3) := by decide +kernel
theorem dX7_begins_53 : decode cX7_begins 53 = .ok (.iconst 1, 1) := by decide +kernel
theorem dX7_begins_54 : decode cX7_begins 54 = .ok (.iadd, 1) := by decide +kernel
theorem dX7_begins_55 : decode cX7_begins 55 = .ok (.putfield 159, 3) := by decide +kernel
theorem dX7_begins_58 : decode cX7_begins 58 = .ok (.return_, 1) := by decide +kernel
theorem dX7_shares_0 : decode cX7_shares 0 = .ok (.lconst 0, 1) := by decide +kernel
theorem dX7_shares_1 : decode cX7_shares 1 = .ok (.lstore_n 2, 1) := by decide +kernel
theorem dX7_shares_2 : decode cX7_shares 2 = .ok (.iconst 0, 1) := by decide +kernel
theorem dX7_shares_3 : decode cX7_shares 3 = .ok (.istore 4, 2) := by decide +kernel
theorem dX7_shares_5 : decode cX7_shares 5 = .ok (.iconst 0, 1) := by decide +kernel
theorem dX7_shares_6 : decode cX7_shares 6 = .ok (.istore 5, 2) := by decide +kernel
theorem dX7_shares_8 : decode cX7_shares 8 = .ok (.iload 5, 2) := by decide +kernel
theorem dX7_shares_10 : decode cX7_shares 10 = .ok (.iconst 4, 1) := by decide +kernel
theorem dX7_shares_11 : decode cX7_shares 11 = .ok (.if_icmp .ge 53, 3) := by decide +kernel
theorem dX7_shares_14 : decode cX7_shares 14 = .ok (.aload_n 0, 1) := by decide +kernel
theorem dX7_shares_15 : decode cX7_shares 15 = .ok (.getfield 94, 3) := by decide +kernel
theorem dX7_shares_18 : decode cX7_shares 18 = .ok (.iconst 4, 1) := by decide +kernel
theorem dX7_shares_19 : decode cX7_shares 19 = .ok (.iload_n 1, 1) := by decide +kernel
theorem dX7_shares_20 : decode cX7_shares 20 = .ok (.imul, 1) := by decide +kernel
theorem dX7_shares_21 : decode cX7_shares 21 = .ok (.iload 5, 2) := by decide +kernel
theorem dX7_shares_23 : decode cX7_shares 23 = .ok (.iadd, 1) := by decide +kernel
theorem dX7_shares_24 : decode cX7_shares 24 = .ok (.laload, 1) := by decide +kernel
theorem dX7_shares_25 : decode cX7_shares 25 = .ok (.lstore 6, 2) := by decide +kernel
theorem dX7_shares_27 : decode cX7_shares 27 = .ok (.lload_n 2, 1) := by decide +kernel
theorem dX7_shares_28 : decode cX7_shares 28 = .ok (.lload 6, 2) := by decide +kernel
theorem dX7_shares_30 : decode cX7_shares 30 = .ok (.ladd, 1) := by decide +kernel
theorem dX7_shares_31 : decode cX7_shares 31 = .ok (.lstore_n 2, 1) := by decide +kernel
theorem dX7_shares_32 : decode cX7_shares 32 = .ok (.lload 6, 2) := by decide +kernel
theorem dX7_shares_34 : decode cX7_shares 34 = .ok (.aload_n 0, 1) := by decide +kernel
theorem dX7_shares_35 : decode cX7_shares 35 = .ok (.getfield 94, 3) := by decide +kernel
theorem dX7_shares_38 : decode cX7_shares 38 = .ok (.iconst 4, 1) := by decide +kernel
theorem dX7_shares_39 : decode cX7_shares 39 = .ok (.iload_n 1, 1) := by decide +kernel
theorem dX7_shares_40 : decode cX7_shares 40 = .ok (.imul, 1) := by decide +kernel
theorem dX7_shares_41 : decode cX7_shares 41 = .ok (.iload 4, 2) := by decide +kernel
theorem dX7_shares_43 : decode cX7_shares 43 = .ok (.iadd, 1) := by decide +kernel
theorem dX7_shares_44 : decode cX7_shares 44 = .ok (.laload, 1) := by decide +kernel
theorem dX7_shares_45 : decode cX7_shares 45 = .ok (.lcmp, 1) := by decide +kernel
theorem dX7_shares_46 : decode cX7_shares 46 = .ok (.ifCond .le 8, 3) := by decide +kernel
theorem dX7_shares_49 : decode cX7_shares 49 = .ok (.iload 5, 2) := by decide +kernel
theorem dX7_shares_51 : decode cX7_shares 51 = .ok (.goto 5, 3) := by decide +kernel
theorem dX7_shares_54 : decode cX7_shares 54 = .ok (.iload 4, 2) := by decide +kernel
theorem dX7_shares_56 : decode cX7_shares 56 = .ok (.istore 4, 2) := by decide +kernel
theorem dX7_shares_58 : decode cX7_shares 58 = .ok (.iinc 5 1, 3) := by decide +kernel
theorem dX7_shares_61 : decode cX7_shares 61 = .ok (.goto (-53), 3) := by decide +kernel
theorem dX7_shares_64 : decode cX7_shares 64 = .ok (.aload_n 0, 1) := by decide +kernel
theorem dX7_shares_65 : decode cX7_shares 65 = .ok (.getfield 97, 3) := by decide +kernel
theorem dX7_shares_68 : decode cX7_shares 68 = .ok (.iload_n 1, 1) := by decide +kernel
theorem dX7_shares_69 : decode cX7_shares 69 = .ok (.lload_n 2, 1) := by decide +kernel
theorem dX7_shares_70 : decode cX7_shares 70 = .ok (.aload_n 0, 1) := by decide +kernel
theorem dX7_shares_71 : decode cX7_shares 71 = .ok (.getfield 31, 3) := by decide +kernel
theorem dX7_shares_74 : decode cX7_shares 74 = .ok (.i2l, 1) := by decide +kernel
theorem dX7_shares_75 : decode cX7_shares 75 = .ok (.lcmp, 1) := by decide +kernel
theorem dX7_shares_76 : decode cX7_shares 76 = .ok (.ifCond .le 11, 3) := by decide +kernel
theorem dX7_shares_79 : decode cX7_shares 79 = .ok (.aload_n 0, 1) := by decide +kernel
theorem dX7_shares_80 : decode cX7_shares 80 = .ok (.getfield 31, 3) := by decide +kernel
theorem dX7_shares_83 : decode cX7_shares 83 = .ok (.i2l, 1) := by decide +kernel
theorem dX7_shares_84 : decode cX7_shares 84 = .ok (.goto 4, 3) := by decide +kernel
theorem dX7_shares_87 : decode cX7_shares 87 = .ok (.lload_n 2, 1) := by decide +kernel
theorem dX7_shares_88 : decode cX7_shares 88 = .ok (.lastore, 1) := by decide +kernel
theorem dX7_shares_89 : decode cX7_shares 89 = .ok (.aload_n 0, 1) := by decide +kernel
theorem dX7_shares_90 : decode cX7_shares 90 = .ok (.getfield 97, 3) := by decide +kernel
theorem dX7_shares_93 : decode cX7_shares 93 = .ok (.iload_n 1, 1) := by decide +kernel
theorem dX7_shares_94 : decode cX7_shares 94 = .ok (.laload, 1) := by decide +kernel
theorem dX7_shares_95 : decode cX7_shares 95 = .ok (.lstore 5, 2) := by decide +kernel
theorem dX7_shares_97 : decode cX7_shares 97 = .ok (.iconst 0, 1) := by decide +kernel
theorem dX7_shares_98 : decode cX7_shares 98 = .ok (.istore 7, 2) := by decide +kernel
theorem dX7_shares_100 : decode cX7_shares 100 = .ok (.iload 7, 2) := by decide +kernel
theorem dX7_shares_102 : decode cX7_shares 102 = .ok (.iconst 4, 1) := by decide +kernel
theorem dX7_shares_103 : decode cX7_shares 103 = .ok (.if_icmp .ge 74, 3) := by decide +kernel
theorem dX7_shares_106 : decode cX7_shares 106 = .ok (.aload_n 0, 1) := by decide +kernel
theorem dX7_shares_107 : decode cX7_shares 107 = .ok (.getfield 94, 3) := by decide +kernel
theorem dX7_shares_110 : decode cX7_shares 110 = .ok (.iconst 4, 1) := by decide +kernel
theorem dX7_shares_111 : decode cX7_shares 111 = .ok (.iload_n 1, 1) := by decide +kernel
theorem dX7_shares_112 : decode cX7_shares 112 = .ok (.imul, 1) := by decide +kernel
theorem dX7_shares_113 : decode cX7_shares 113 = .ok (.iload 7, 2) := by decide +kernel
theorem dX7_shares_115 : decode cX7_shares 115 = .ok (.iadd, 1) := by decide +kernel
theorem dX7_shares_116 : decode cX7_shares 116 = .ok (.laload, 1) := by decide +kernel
theorem dX7_shares_117 : decode cX7_shares 117 = .ok (.lstore 8, 2) := by decide +kernel
theorem dX7_shares_119 : decode cX7_shares 119 = .ok (.aload_n 0, 1) := by decide +kernel
theorem dX7_shares_120 : decode cX7_shares 120 = .ok (.getfield 100, 3) := by decide +kernel
theorem dX7_shares_123 : decode cX7_shares 123 = .ok (.iconst 4, 1) := by decide +kernel
theorem dX7_shares_124 : decode cX7_shares 124 = .ok (.iload_n 1, 1) := by decide +kernel
theorem dX7_shares_125 : decode cX7_shares 125 = .ok (.imul, 1) := by decide +kernel
theorem dX7_shares_126 : decode cX7_shares 126 = .ok (.iload 7, 2) := by decide +kernel
theorem dX7_shares_128 : decode cX7_shares 128 = .ok (.iadd, 1) := by decide +kernel
theorem dX7_shares_129 : decode cX7_shares 129 = .ok (.lload_n 2, 1) := by decide +kernel
theorem dX7_shares_130 : decode cX7_shares 130 = .ok (.aload_n 0, 1) := by decide +kernel
theorem dX7_shares_131 : decode cX7_shares 131 = .ok (.getfield 31, 3) := by decide +kernel
theorem dX7_shares_134 : decode cX7_shares 134 = .ok (.i2l, 1) := by decide +kernel
theorem dX7_shares_135 : decode cX7_shares 135 = .ok (.lcmp, 1) := by decide +kernel
theorem dX7_shares_136 : decode cX7_shares 136 = .ok (.ifCond .le 16, 3) := by decide +kernel
theorem dX7_shares_139 : decode cX7_shares 139 = .ok (.lload 8, 2) := by decide +kernel
theorem dX7_shares_141 : decode cX7_shares 141 = .ok (.aload_n 0, 1) := by decide +kernel
theorem dX7_shares_142 : decode cX7_shares 142 = .ok (.getfield 31, 3) := by decide +kernel
theorem dX7_shares_145 : decode cX7_shares 145 = .ok (.i2l, 1) := by decide +kernel
theorem dX7_shares_146 : decode cX7_shares 146 = .ok (.lmul, 1) := by decide +kernel
theorem dX7_shares_147 : decode cX7_shares 147 = .ok (.lload_n 2, 1) := by decide +kernel
theorem dX7_shares_148 : decode cX7_shares 148 = .ok (.ldiv, 1) := by decide +kernel
theorem dX7_shares_149 : decode cX7_shares 149 = .ok (.goto 5, 3) := by decide +kernel
theorem dX7_shares_152 : decode cX7_shares 152 = .ok (.lload 8, 2) := by decide +kernel
theorem dX7_shares_154 : decode cX7_shares 154 = .ok (.lastore, 1) := by decide +kernel
theorem dX7_shares_155 : decode cX7_shares 155 = .ok (.lload 5, 2) := by decide +kernel
theorem dX7_shares_157 : decode cX7_shares 157 = .ok (.aload_n 0, 1) := by decide +kernel
theorem dX7_shares_158 : decode cX7_shares 158 = .ok (.getfield 100, 3) := by decide +kernel
theorem dX7_shares_161 : decode cX7_shares 161 = .ok (.iconst 4, 1) := by decide +kernel
theorem dX7_shares_162 : decode cX7_shares 162 = .ok (.iload_n 1, 1) := by decide +kernel
theorem dX7_shares_163 : decode cX7_shares 163 = .ok (.imul, 1) := by decide +kernel
theorem dX7_shares_164 : decode cX7_shares 164 = .ok (.iload 7, 2) := by decide +kernel
theorem dX7_shares_166 : decode cX7_shares 166 = .ok (.iadd, 1) := by decide +kernel
theorem dX7_shares_167 : decode cX7_shares 167 = .ok (.laload, 1) := by decide +kernel
theorem dX7_shares_168 : decode cX7_shares 168 = .ok (.lsub, 1) := by decide +kernel
theorem dX7_shares_169 : decode cX7_shares 169 = .ok (.lstore 5, 2) := by decide +kernel
theorem dX7_shares_171 : decode cX7_shares 171 = .ok (.iinc 7 1, 3) := by decide +kernel
theorem dX7_shares_174 : decode cX7_shares 174 = .ok (.goto (-74), 3) := by decide +kernel
theorem dX7_shares_177 : decode cX7_shares 177 = .ok (.aload_n 0, 1) := by decide +kernel
theorem dX7_shares_178 : decode cX7_shares 178 = .ok (.getfield 100, 3) := by decide +kernel
theorem dX7_shares_181 : decode cX7_shares 181 = .ok (.iconst 4, 1) := by decide +kernel
theorem dX7_shares_182 : decode cX7_shares 182 = .ok (.iload_n 1, 1) := by decide +kernel
theorem dX7_shares_183 : decode cX7_shares 183 = .ok (.imul, 1) := by decide +kernel
theorem dX7_shares_184 : decode cX7_shares 184 = .ok (.iload 4, 2) := by decide +kernel
theorem dX7_shares_186 : decode cX7_shares 186 = .ok (.iadd, 1) := by decide +kernel
theorem dX7_shares_187 : decode cX7_shares 187 = .ok (.dup2, 1) := by decide +kernel
theorem dX7_shares_188 : decode cX7_shares 188 = .ok (.laload, 1) := by decide +kernel
theorem dX7_shares_189 : decode cX7_shares 189 = .ok (.lload 5, 2) := by decide +kernel
theorem dX7_shares_191 : decode cX7_shares 191 = .ok (.ladd, 1) := by decide +kernel
theorem dX7_shares_192 : decode cX7_shares 192 = .ok (.lastore, 1) := by decide +kernel
theorem dX7_shares_193 : decode cX7_shares 193 = .ok (.return_, 1) := by decide +kernel
theorem dX7_goes_0 : decode cX7_goes 0 = .ok (.aload_n 0, 1) := by decide +kernel
theorem dX7_goes_1 : decode cX7_goes 1 = .ok (.iconst 0, 1) := by decide +kernel
theorem dX7_goes_2 : decode cX7_goes 2 = .ok (.putfield 159, 3) := by decide +kernel
theorem dX7_goes_5 : decode cX7_goes 5 = .ok (.iconst 0, 1) := by decide +kernel
theorem dX7_goes_6 : decode cX7_goes 6 = .ok (.istore_n 2, 1) := by decide +kernel
theorem dX7_goes_7 : decode cX7_goes 7 = .ok (.iload_n 2, 1) := by decide +kernel
theorem dX7_goes_8 : decode cX7_goes 8 = .ok (.aload_n 0, 1) := by decide +kernel
theorem dX7_goes_9 : decode cX7_goes 9 = .ok (.getfield 113, 3) := by decide +kernel
theorem dX7_goes_12 : decode cX7_goes 12 = .ok (.if_icmp .ge 40, 3) := by decide +kernel
theorem dX7_goes_15 : decode cX7_goes 15 = .ok (.aload_n 0, 1) := by decide +kernel
theorem dX7_goes_16 : decode cX7_goes 16 = .ok (.getfield 82, 3) := by decide +kernel
theorem dX7_goes_19 : decode cX7_goes 19 = .ok (.iload_n 2, 1) := by decide +kernel
theorem dX7_goes_20 : decode cX7_goes 20 = .ok (.iconst 0, 1) := by decide +kernel
theorem dX7_goes_21 : decode cX7_goes 21 = .ok (.bastore, 1) := by decide +kernel
theorem dX7_goes_22 : decode cX7_goes 22 = .ok (.aload_n 0, 1) := by decide +kernel
theorem dX7_goes_23 : decode cX7_goes 23 = .ok (.getfield 66, 3) := by decide +kernel
theorem dX7_goes_26 : decode cX7_goes 26 = .ok (.iload_n 2, 1) := by decide +kernel
theorem dX7_goes_27 : decode cX7_goes 27 = .ok (.iaload, 1) := by decide +kernel
theorem dX7_goes_28 : decode cX7_goes 28 = .ok (.iload_n 1, 1) := by decide +kernel
theorem dX7_goes_29 : decode cX7_goes 29 = .ok (.if_icmp .ne 17, 3) := by decide +kernel
theorem dX7_goes_32 : decode cX7_goes 32 = .ok (.aload_n 0, 1) := by decide +kernel
theorem dX7_goes_33 : decode cX7_goes 33 = .ok (.getfield 76, 3) := by decide +kernel
theorem dX7_goes_36 : decode cX7_goes 36 = .ok (.iload_n 2, 1) := by decide +kernel
theorem dX7_goes_37 : decode cX7_goes 37 = .ok (.iconst 0, 1) := by decide +kernel
theorem dX7_goes_38 : decode cX7_goes 38 = .ok (.bastore, 1) := by decide +kernel
theorem dX7_goes_39 : decode cX7_goes 39 = .ok (.aload_n 0, 1) := by decide +kernel
theorem dX7_goes_40 : decode cX7_goes 40 = .ok (.getfield 79, 3) := by decide +kernel
theorem dX7_goes_43 : decode cX7_goes 43 = .ok (.iload_n 2, 1) := by decide +kernel
theorem dX7_goes_44 : decode cX7_goes 44 = .ok (.iconst (-1), 1) := by decide +kernel
theorem dX7_goes_45 : decode cX7_goes 45 = .ok (.iastore, 1) := by decide +kernel
theorem dX7_goes_46 : decode cX7_goes 46 = .ok (.iinc 2 1, 3) := by decide +kernel
theorem dX7_goes_49 : decode cX7_goes 49 = .ok (.goto (-42), 3) := by decide +kernel
theorem dX7_goes_52 : decode cX7_goes 52 = .ok (.iconst (-1), 1) := by decide +kernel
theorem dX7_goes_53 : decode cX7_goes 53 = .ok (.istore_n 2, 1) := by decide +kernel
theorem dX7_goes_54 : decode cX7_goes 54 = .ok (.aload_n 0, 1) := by decide +kernel
theorem dX7_goes_55 : decode cX7_goes 55 = .ok (.iload_n 1, 1) := by decide +kernel
theorem dX7_goes_56 : decode cX7_goes 56 = .ok (.invokevirtual 162, 3) := by decide +kernel
theorem dX7_goes_59 : decode cX7_goes 59 = .ok (.istore_n 3, 1) := by decide +kernel
theorem dX7_goes_60 : decode cX7_goes 60 = .ok (.iload_n 3, 1) := by decide +kernel
theorem dX7_goes_61 : decode cX7_goes 61 = .ok (.iconst (-1), 1) := by decide +kernel
theorem dX7_goes_62 : decode cX7_goes 62 = .ok (.if_icmp .eq 225, 3) := by decide +kernel
theorem dX7_goes_65 : decode cX7_goes 65 = .ok (.aload_n 0, 1) := by decide +kernel
theorem dX7_goes_66 : decode cX7_goes 66 = .ok (.getfield 82, 3) := by decide +kernel
theorem dX7_goes_69 : decode cX7_goes 69 = .ok (.iload_n 3, 1) := by decide +kernel
theorem dX7_goes_70 : decode cX7_goes 70 = .ok (.iconst 1, 1) := by decide +kernel
theorem dX7_goes_71 : decode cX7_goes 71 = .ok (.bastore, 1) := by decide +kernel
theorem dX7_goes_72 : decode cX7_goes 72 = .ok (.iload_n 2, 1) := by decide +kernel
theorem dX7_goes_73 : decode cX7_goes 73 = .ok (.iconst (-1), 1) := by decide +kernel
theorem dX7_goes_74 : decode cX7_goes 74 = .ok (.if_icmp .ne 7, 3) := by decide +kernel
theorem dX7_goes_77 : decode cX7_goes 77 = .ok (.iconst 0, 1) := by decide +kernel
theorem dX7_goes_78 : decode cX7_goes 78 = .ok (.goto 16, 3) := by decide +kernel
theorem dX7_goes_81 : decode cX7_goes 81 = .ok (.aload_n 0, 1) := by decide +kernel
theorem dX7_goes_82 : decode cX7_goes 82 = .ok (.getfield 69, 3) := by decide +kernel
theorem dX7_goes_85 : decode cX7_goes 85 = .ok (.iload_n 3, 1) := by decide +kernel
theorem dX7_goes_86 : decode cX7_goes 86 = .ok (.iaload, 1) := by decide +kernel
theorem dX7_goes_87 : decode cX7_goes 87 = .ok (.aload_n 0, 1) := by decide +kernel
theorem dX7_goes_88 : decode cX7_goes 88 = .ok (.getfield 69, 3) := by decide +kernel
theorem dX7_goes_91 : decode cX7_goes 91 = .ok (.iload_n 2, 1) := by decide +kernel
theorem dX7_goes_92 : decode cX7_goes 92 = .ok (.iaload, 1) := by decide +kernel
theorem dX7_goes_93 : decode cX7_goes 93 = .ok (.isub, 1) := by decide +kernel
theorem dX7_goes_94 : decode cX7_goes 94 = .ok (.istore 4, 2) := by decide +kernel
theorem dX7_goes_96 : decode cX7_goes 96 = .ok (.iload_n 2, 1) := by decide +kernel
theorem dX7_goes_97 : decode cX7_goes 97 = .ok (.iconst (-1), 1) := by decide +kernel
theorem dX7_goes_98 : decode cX7_goes 98 = .ok (.if_icmp .ne 8, 3) := by decide +kernel
theorem dX7_goes_101 : decode cX7_goes 101 = .ok (.ldc 116, 2) := by decide +kernel
theorem dX7_goes_103 : decode cX7_goes 103 = .ok (.goto 19, 3) := by decide +kernel
theorem dX7_goes_106 : decode cX7_goes 106 = .ok (.aload_n 0, 1) := by decide +kernel
theorem dX7_goes_107 : decode cX7_goes 107 = .ok (.aload_n 0, 1) := by decide +kernel
theorem dX7_goes_108 : decode cX7_goes 108 = .ok (.getfield 63, 3) := by decide +kernel
theorem dX7_goes_111 : decode cX7_goes 111 = .ok (.iload_n 2, 1) := by decide +kernel
theorem dX7_goes_112 : decode cX7_goes 112 = .ok (.iaload, 1) := by decide +kernel
theorem dX7_goes_113 : decode cX7_goes 113 = .ok (.aload_n 0, 1) := by decide +kernel
theorem dX7_goes_114 : decode cX7_goes 114 = .ok (.getfield 63, 3) := by decide +kernel
theorem dX7_goes_117 : decode cX7_goes 117 = .ok (.iload_n 3, 1) := by decide +kernel
theorem dX7_goes_118 : decode cX7_goes 118 = .ok (.iaload, 1) := by decide +kernel
theorem dX7_goes_119 : decode cX7_goes 119 = .ok (.invokevirtual 120, 3) := by decide +kernel
theorem dX7_goes_122 : decode cX7_goes 122 = .ok (.istore 5, 2) := by decide +kernel
theorem dX7_goes_124 : decode cX7_goes 124 = .ok (.aload_n 0, 1) := by decide +kernel
theorem dX7_goes_125 : decode cX7_goes 125 = .ok (.getfield 76, 3) := by decide +kernel
theorem dX7_goes_128 : decode cX7_goes 128 = .ok (.iload_n 3, 1) := by decide +kernel
theorem dX7_goes_129 : decode cX7_goes 129 = .ok (.iload_n 2, 1) := by decide +kernel
theorem dX7_goes_130 : decode cX7_goes 130 = .ok (.iconst (-1), 1) := by decide +kernel
theorem dX7_goes_131 : decode cX7_goes 131 = .ok (.if_icmp .eq 28, 3) := by decide +kernel
theorem dX7_goes_134 : decode cX7_goes 134 = .ok (.aload_n 0, 1) := by decide +kernel
theorem dX7_goes_135 : decode cX7_goes 135 = .ok (.getfield 63, 3) := by decide +kernel
theorem dX7_goes_138 : decode cX7_goes 138 = .ok (.iload_n 2, 1) := by decide +kernel
theorem dX7_goes_139 : decode cX7_goes 139 = .ok (.iaload, 1) := by decide +kernel
theorem dX7_goes_140 : decode cX7_goes 140 = .ok (.aload_n 0, 1) := by decide +kernel
theorem dX7_goes_141 : decode cX7_goes 141 = .ok (.getfield 63, 3) := by decide +kernel
theorem dX7_goes_144 : decode cX7_goes 144 = .ok (.iload_n 3, 1) := by decide +kernel
theorem dX7_goes_145 : decode cX7_goes 145 = .ok (.iaload, 1) := by decide +kernel
theorem dX7_goes_146 : decode cX7_goes 146 = .ok (.if_icmp .ne 13, 3) := by decide +kernel
theorem dX7_goes_149 : decode cX7_goes 149 = .ok (.iload 4, 2) := by decide +kernel
theorem dX7_goes_151 : decode cX7_goes 151 = .ok (.iconst 5, 1) := by decide +kernel
theorem dX7_goes_152 : decode cX7_goes 152 = .ok (.if_icmp .gt 7, 3) := by decide +kernel
theorem dX7_goes_155 : decode cX7_goes 155 = .ok (.iconst 1, 1) := by decide +kernel
theorem dX7_goes_156 : decode cX7_goes 156 = .ok (.goto 4, 3) := by decide +kernel
theorem dX7_goes_159 : decode cX7_goes 159 = .ok (.iconst 0, 1) := by decide +kernel
theorem dX7_goes_160 : decode cX7_goes 160 = .ok (.bastore, 1) := by decide +kernel
theorem dX7_goes_161 : decode cX7_goes 161 = .ok (.aload_n 0, 1) := by decide +kernel
theorem dX7_goes_162 : decode cX7_goes 162 = .ok (.getfield 76, 3) := by decide +kernel
theorem dX7_goes_165 : decode cX7_goes 165 = .ok (.iload_n 3, 1) := by decide +kernel
theorem dX7_goes_166 : decode cX7_goes 166 = .ok (.baload, 1) := by decide +kernel
theorem dX7_goes_167 : decode cX7_goes 167 = .ok (.ifCond .ne 99, 3) := by decide +kernel
theorem dX7_goes_170 : decode cX7_goes 170 = .ok (.iload_n 2, 1) := by decide +kernel
theorem dX7_goes_171 : decode cX7_goes 171 = .ok (.iconst (-1), 1) := by decide +kernel
theorem dX7_goes_172 : decode cX7_goes 172 = .ok (.if_icmp .eq 31, 3) := by decide +kernel
theorem dX7_goes_175 : decode cX7_goes 175 = .ok (.iload 5, 2) := by decide +kernel
theorem dX7_goes_177 : decode cX7_goes 177 = .ok (.ldc 116, 2) := by decide +kernel
theorem dX7_goes_179 : decode cX7_goes 179 = .ok (.if_icmp .ge 24, 3) := by decide +kernel
theorem dX7_goes_182 : decode cX7_goes 182 = .ok (.iload 4, 2) := by decide +kernel
theorem dX7_goes_184 : decode cX7_goes 184 = .ok (.iload 5, 2) := by decide +kernel
theorem dX7_goes_186 : decode cX7_goes 186 = .ok (.iconst 3, 1) := by decide +kernel
theorem dX7_goes_187 : decode cX7_goes 187 = .ok (.iload 5, 2) := by decide +kernel
theorem dX7_goes_189 : decode cX7_goes 189 = .ok (.imul, 1) := by decide +kernel
theorem dX7_goes_190 : decode cX7_goes 190 = .ok (.bipush 10, 2) := by decide +kernel
theorem dX7_goes_192 : decode cX7_goes 192 = .ok (.iadd, 1) := by decide +kernel
theorem dX7_goes_193 : decode cX7_goes 193 = .ok (.invokestatic 109, 3) := by decide +kernel
theorem dX7_goes_196 : decode cX7_goes 196 = .ok (.ifCond .eq 7, 3) := by decide +kernel
theorem dX7_goes_199 : decode cX7_goes 199 = .ok (.iconst 1, 1) := by decide +kernel
theorem dX7_goes_200 : decode cX7_goes 200 = .ok (.goto 4, 3) := by decide +kernel
theorem dX7_goes_203 : decode cX7_goes 203 = .ok (.iconst 0, 1) := by decide +kernel
theorem dX7_goes_204 : decode cX7_goes 204 = .ok (.istore 6, 2) := by decide +kernel
theorem dX7_goes_206 : decode cX7_goes 206 = .ok (.iload 6, 2) := by decide +kernel
theorem dX7_goes_208 : decode cX7_goes 208 = .ok (.ifCond .eq 19, 3) := by decide +kernel
theorem dX7_goes_211 : decode cX7_goes 211 = .ok (.aload_n 0, 1) := by decide +kernel
theorem dX7_goes_212 : decode cX7_goes 212 = .ok (.aload_n 0, 1) := by decide +kernel
theorem dX7_goes_213 : decode cX7_goes 213 = .ok (.getfield 159, 3) := by decide +kernel
theorem dX7_goes_216 : decode cX7_goes 216 = .ok (.iconst 1, 1) := by decide +kernel
theorem dX7_goes_217 : decode cX7_goes 217 = .ok (.isub, 1) := by decide +kernel
theorem dX7_goes_218 : decode cX7_goes 218 = .ok (.iload_n 1, 1) := by decide +kernel
theorem dX7_goes_219 : decode cX7_goes 219 = .ok (.iload_n 2, 1) := by decide +kernel
theorem dX7_goes_220 : decode cX7_goes 220 = .ok (.iload_n 3, 1) := by decide +kernel
theorem dX7_goes_221 : decode cX7_goes 221 = .ok (.invokevirtual 166, 3) := by decide +kernel
theorem dX7_goes_224 : decode cX7_goes 224 = .ok (.goto 8, 3) := by decide +kernel
theorem dX7_goes_227 : decode cX7_goes 227 = .ok (.aload_n 0, 1) := by decide +kernel
theorem dX7_goes_228 : decode cX7_goes 228 = .ok (.iload_n 3, 1) := by decide +kernel
theorem dX7_goes_229 : decode cX7_goes 229 = .ok (.invokevirtual 170, 3) := by decide +kernel
theorem dX7_goes_232 : decode cX7_goes 232 = .ok (.aload_n 0, 1) := by decide +kernel
theorem dX7_goes_233 : decode cX7_goes 233 = .ok (.getfield 88, 3) := by decide +kernel
theorem dX7_goes_236 : decode cX7_goes 236 = .ok (.aload_n 0, 1) := by decide +kernel
theorem dX7_goes_237 : decode cX7_goes 237 = .ok (.getfield 159, 3) := by decide +kernel
theorem dX7_goes_240 : decode cX7_goes 240 = .ok (.iconst 1, 1) := by decide +kernel
theorem dX7_goes_241 : decode cX7_goes 241 = .ok (.isub, 1) := by decide +kernel
theorem dX7_goes_242 : decode cX7_goes 242 = .ok (.aload_n 0, 1) := by decide +kernel
theorem dX7_goes_243 : decode cX7_goes 243 = .ok (.getfield 69, 3) := by decide +kernel
theorem dX7_goes_246 : decode cX7_goes 246 = .ok (.iload_n 3, 1) := by decide +kernel
theorem dX7_goes_247 : decode cX7_goes 247 = .ok (.iaload, 1) := by decide +kernel
theorem dX7_goes_248 : decode cX7_goes 248 = .ok (.iastore, 1) := by decide +kernel
theorem dX7_goes_249 : decode cX7_goes 249 = .ok (.aload_n 0, 1) := by decide +kernel
theorem dX7_goes_250 : decode cX7_goes 250 = .ok (.getfield 91, 3) := by decide +kernel
theorem dX7_goes_253 : decode cX7_goes 253 = .ok (.aload_n 0, 1) := by decide +kernel
theorem dX7_goes_254 : decode cX7_goes 254 = .ok (.getfield 159, 3) := by decide +kernel
theorem dX7_goes_257 : decode cX7_goes 257 = .ok (.iconst 1, 1) := by decide +kernel
theorem dX7_goes_258 : decode cX7_goes 258 = .ok (.isub, 1) := by decide +kernel
theorem dX7_goes_259 : decode cX7_goes 259 = .ok (.dup2, 1) := by decide +kernel
theorem dX7_goes_260 : decode cX7_goes 260 = .ok (.iaload, 1) := by decide +kernel
theorem dX7_goes_261 : decode cX7_goes 261 = .ok (.iconst 1, 1) := by decide +kernel
theorem dX7_goes_262 : decode cX7_goes 262 = .ok (.iadd, 1) := by decide +kernel
theorem dX7_goes_263 : decode cX7_goes 263 = .ok (.iastore, 1) := by decide +kernel
theorem dX7_goes_264 : decode cX7_goes 264 = .ok (.iload_n 3, 1) := by decide +kernel
theorem dX7_goes_265 : decode cX7_goes 265 = .ok (.istore_n 2, 1) := by decide +kernel
theorem dX7_goes_266 : decode cX7_goes 266 = .ok (.aload_n 0, 1) := by decide +kernel
theorem dX7_goes_267 : decode cX7_goes 267 = .ok (.getfield 79, 3) := by decide +kernel
theorem dX7_goes_270 : decode cX7_goes 270 = .ok (.iload_n 3, 1) := by decide +kernel
theorem dX7_goes_271 : decode cX7_goes 271 = .ok (.aload_n 0, 1) := by decide +kernel
theorem dX7_goes_272 : decode cX7_goes 272 = .ok (.getfield 159, 3) := by decide +kernel
theorem dX7_goes_275 : decode cX7_goes 275 = .ok (.iconst 1, 1) := by decide +kernel
theorem dX7_goes_276 : decode cX7_goes 276 = .ok (.isub, 1) := by decide +kernel
theorem dX7_goes_277 : decode cX7_goes 277 = .ok (.iastore, 1) := by decide +kernel
theorem dX7_goes_278 : decode cX7_goes 278 = .ok (.aload_n 0, 1) := by decide +kernel
theorem dX7_goes_279 : decode cX7_goes 279 = .ok (.iload_n 1, 1) := by decide +kernel
theorem dX7_goes_280 : decode cX7_goes 280 = .ok (.invokevirtual 162, 3) := by decide +kernel
theorem dX7_goes_283 : decode cX7_goes 283 = .ok (.istore_n 3, 1) := by decide +kernel
theorem dX7_goes_284 : decode cX7_goes 284 = .ok (.goto (-224), 3) := by decide +kernel
theorem dX7_goes_287 : decode cX7_goes 287 = .ok (.iconst 0, 1) := by decide +kernel
theorem dX7_goes_288 : decode cX7_goes 288 = .ok (.istore 4, 2) := by decide +kernel
theorem dX7_goes_290 : decode cX7_goes 290 = .ok (.iload 4, 2) := by decide +kernel
theorem dX7_goes_292 : decode cX7_goes 292 = .ok (.aload_n 0, 1) := by decide +kernel
theorem dX7_goes_293 : decode cX7_goes 293 = .ok (.getfield 159, 3) := by decide +kernel
theorem dX7_goes_296 : decode cX7_goes 296 = .ok (.if_icmp .ge 15, 3) := by decide +kernel
theorem dX7_goes_299 : decode cX7_goes 299 = .ok (.aload_n 0, 1) := by decide +kernel
theorem dX7_goes_300 : decode cX7_goes 300 = .ok (.iload 4, 2) := by decide +kernel
theorem dX7_goes_302 : decode cX7_goes 302 = .ok (.invokevirtual 174, 3) := by decide +kernel
theorem dX7_goes_305 : decode cX7_goes 305 = .ok (.iinc 4 1, 3) := by decide +kernel
theorem dX7_goes_308 : decode cX7_goes 308 = .ok (.goto (-18), 3) := by decide +kernel
theorem dX7_goes_311 : decode cX7_goes 311 = .ok (.return_, 1) := by decide +kernel
theorem dX7_isOver_0 : decode cX7_isOver 0 = .ok (.aload_n 0, 1) := by decide +kernel
theorem dX7_isOver_1 : decode cX7_isOver 1 = .ok (.getfield 141, 3) := by decide +kernel
theorem dX7_isOver_4 : decode cX7_isOver 4 = .ok (.aload_n 0, 1) := by decide +kernel
theorem dX7_isOver_5 : decode cX7_isOver 5 = .ok (.getfield 88, 3) := by decide +kernel
theorem dX7_isOver_8 : decode cX7_isOver 8 = .ok (.iload_n 1, 1) := by decide +kernel
theorem dX7_isOver_9 : decode cX7_isOver 9 = .ok (.iaload, 1) := by decide +kernel
theorem dX7_isOver_10 : decode cX7_isOver 10 = .ok (.isub, 1) := by decide +kernel
theorem dX7_isOver_11 : decode cX7_isOver 11 = .ok (.bipush 60, 2) := by decide +kernel
theorem dX7_isOver_13 : decode cX7_isOver 13 = .ok (.if_icmp .lt 7, 3) := by decide +kernel
theorem dX7_isOver_16 : decode cX7_isOver 16 = .ok (.iconst 1, 1) := by decide +kernel
theorem dX7_isOver_17 : decode cX7_isOver 17 = .ok (.goto 4, 3) := by decide +kernel
theorem dX7_isOver_20 : decode cX7_isOver 20 = .ok (.iconst 0, 1) := by decide +kernel
theorem dX7_isOver_21 : decode cX7_isOver 21 = .ok (.ireturn, 1) := by decide +kernel
theorem dX7_dueOf_0 : decode cX7_dueOf 0 = .ok (.aload_n 0, 1) := by decide +kernel
theorem dX7_dueOf_1 : decode cX7_dueOf 1 = .ok (.iload_n 1, 1) := by decide +kernel
theorem dX7_dueOf_2 : decode cX7_dueOf 2 = .ok (.invokevirtual 176, 3) := by decide +kernel
theorem dX7_dueOf_5 : decode cX7_dueOf 5 = .ok (.lconst 0, 1) := by decide +kernel
theorem dX7_dueOf_6 : decode cX7_dueOf 6 = .ok (.lstore_n 2, 1) := by decide +kernel
theorem dX7_dueOf_7 : decode cX7_dueOf 7 = .ok (.iconst 0, 1) := by decide +kernel
theorem dX7_dueOf_8 : decode cX7_dueOf 8 = .ok (.istore 4, 2) := by decide +kernel
theorem dX7_dueOf_10 : decode cX7_dueOf 10 = .ok (.iload 4, 2) := by decide +kernel
theorem dX7_dueOf_12 : decode cX7_dueOf 12 = .ok (.aload_n 0, 1) := by decide +kernel
theorem dX7_dueOf_13 : decode cX7_dueOf 13 = .ok (.getfield 159, 3) := by decide +kernel
theorem dX7_dueOf_16 : decode cX7_dueOf 16 = .ok (.if_icmp .ge 32, 3) := by decide +kernel
theorem dX7_dueOf_19 : decode cX7_dueOf 19 = .ok (.lload_n 2, 1) := by decide +kernel
theorem dX7_dueOf_20 : decode cX7_dueOf 20 = .ok (.aload_n 0, 1) := by decide +kernel
theorem dX7_dueOf_21 : decode cX7_dueOf 21 = .ok (.iload 4, 2) := by decide +kernel
theorem dX7_dueOf_23 : decode cX7_dueOf 23 = .ok (.invokevirtual 179, 3) := by decide +kernel
theorem dX7_dueOf_26 : decode cX7_dueOf 26 = .ok (.ifCond .eq 13, 3) := by decide +kernel
theorem dX7_dueOf_29 : decode cX7_dueOf 29 = .ok (.aload_n 0, 1) := by decide +kernel
theorem dX7_dueOf_30 : decode cX7_dueOf 30 = .ok (.getfield 97, 3) := by decide +kernel
theorem dX7_dueOf_33 : decode cX7_dueOf 33 = .ok (.iload 4, 2) := by decide +kernel
theorem dX7_dueOf_35 : decode cX7_dueOf 35 = .ok (.laload, 1) := by decide +kernel
theorem dX7_dueOf_36 : decode cX7_dueOf 36 = .ok (.goto 4, 3) := by decide +kernel
theorem dX7_dueOf_39 : decode cX7_dueOf 39 = .ok (.lconst 0, 1) := by decide +kernel
theorem dX7_dueOf_40 : decode cX7_dueOf 40 = .ok (.ladd, 1) := by decide +kernel
theorem dX7_dueOf_41 : decode cX7_dueOf 41 = .ok (.lstore_n 2, 1) := by decide +kernel
theorem dX7_dueOf_42 : decode cX7_dueOf 42 = .ok (.iinc 4 1, 3) := by decide +kernel
theorem dX7_dueOf_45 : decode cX7_dueOf 45 = .ok (.goto (-35), 3) := by decide +kernel
theorem dX7_dueOf_48 : decode cX7_dueOf 48 = .ok (.lload_n 2, 1) := by decide +kernel
theorem dX7_dueOf_49 : decode cX7_dueOf 49 = .ok (.lreturn, 1) := by decide +kernel
theorem dX7_dueTo_0 : decode cX7_dueTo 0 = .ok (.lconst 0, 1) := by decide +kernel
theorem dX7_dueTo_1 : decode cX7_dueTo 1 = .ok (.lstore_n 2, 1) := by decide +kernel
theorem dX7_dueTo_2 : decode cX7_dueTo 2 = .ok (.iconst 0, 1) := by decide +kernel
theorem dX7_dueTo_3 : decode cX7_dueTo 3 = .ok (.istore 4, 2) := by decide +kernel
theorem dX7_dueTo_5 : decode cX7_dueTo 5 = .ok (.iload 4, 2) := by decide +kernel
theorem dX7_dueTo_7 : decode cX7_dueTo 7 = .ok (.bipush 10, 2) := by decide +kernel
theorem dX7_dueTo_9 : decode cX7_dueTo 9 = .ok (.if_icmp .ge 60, 3) := by decide +kernel
theorem dX7_dueTo_12 : decode cX7_dueTo 12 = .ok (.aload_n 0, 1) := by decide +kernel
theorem dX7_dueTo_13 : decode cX7_dueTo 13 = .ok (.iload 4, 2) := by decide +kernel
theorem dX7_dueTo_15 : decode cX7_dueTo 15 = .ok (.invokevirtual 176, 3) := by decide +kernel
theorem dX7_dueTo_18 : decode cX7_dueTo 18 = .ok (.iconst 0, 1) := by decide +kernel
theorem dX7_dueTo_19 : decode cX7_dueTo 19 = .ok (.istore 5, 2) := by decide +kernel
theorem dX7_dueTo_21 : decode cX7_dueTo 21 = .ok (.iload 5, 2) := by decide +kernel
theorem dX7_dueTo_23 : decode cX7_dueTo 23 = .ok (.aload_n 0, 1) := by decide +kernel
theorem dX7_dueTo_24 : decode cX7_dueTo 24 = .ok (.getfield 159, 3) := by decide +kernel
theorem dX7_dueTo_27 : decode cX7_dueTo 27 = .ok (.if_icmp .ge 36, 3) := by decide +kernel
theorem dX7_dueTo_30 : decode cX7_dueTo 30 = .ok (.lload_n 2, 1) := by decide +kernel
theorem dX7_dueTo_31 : decode cX7_dueTo 31 = .ok (.aload_n 0, 1) := by decide +kernel
theorem dX7_dueTo_32 : decode cX7_dueTo 32 = .ok (.iload 5, 2) := by decide +kernel
theorem dX7_dueTo_34 : decode cX7_dueTo 34 = .ok (.invokevirtual 179, 3) := by decide +kernel
theorem dX7_dueTo_37 : decode cX7_dueTo 37 = .ok (.ifCond .eq 17, 3) := by decide +kernel
theorem dX7_dueTo_40 : decode cX7_dueTo 40 = .ok (.aload_n 0, 1) := by decide +kernel
theorem dX7_dueTo_41 : decode cX7_dueTo 41 = .ok (.getfield 100, 3) := by decide +kernel
theorem dX7_dueTo_44 : decode cX7_dueTo 44 = .ok (.iconst 4, 1) := by decide +kernel
theorem dX7_dueTo_45 : decode cX7_dueTo 45 = .ok (.iload 5, 2) := by decide +kernel
theorem dX7_dueTo_47 : decode cX7_dueTo 47 = .ok (.imul, 1) := by decide +kernel
theorem dX7_dueTo_48 : decode cX7_dueTo 48 = .ok (.iload_n 1, 1) := by decide +kernel
theorem dX7_dueTo_49 : decode cX7_dueTo 49 = .ok (.iadd, 1) := by decide +kernel
theorem dX7_dueTo_50 : decode cX7_dueTo 50 = .ok (.laload, 1) := by decide +kernel
theorem dX7_dueTo_51 : decode cX7_dueTo 51 = .ok (.goto 4, 3) := by decide +kernel
theorem dX7_dueTo_54 : decode cX7_dueTo 54 = .ok (.lconst 0, 1) := by decide +kernel
theorem dX7_dueTo_55 : decode cX7_dueTo 55 = .ok (.ladd, 1) := by decide +kernel
theorem dX7_dueTo_56 : decode cX7_dueTo 56 = .ok (.lstore_n 2, 1) := by decide +kernel
theorem dX7_dueTo_57 : decode cX7_dueTo 57 = .ok (.iinc 5 1, 3) := by decide +kernel
theorem dX7_dueTo_60 : decode cX7_dueTo 60 = .ok (.goto (-39), 3) := by decide +kernel
theorem dX7_dueTo_63 : decode cX7_dueTo 63 = .ok (.iinc 4 1, 3) := by decide +kernel
theorem dX7_dueTo_66 : decode cX7_dueTo 66 = .ok (.goto (-61), 3) := by decide +kernel
theorem dX7_dueTo_69 : decode cX7_dueTo 69 = .ok (.lload_n 2, 1) := by decide +kernel
theorem dX7_dueTo_70 : decode cX7_dueTo 70 = .ok (.lreturn, 1) := by decide +kernel
theorem dX7_bill_0 : decode cX7_bill 0 = .ok (.aload_n 0, 1) := by decide +kernel
theorem dX7_bill_1 : decode cX7_bill 1 = .ok (.iconst 0, 1) := by decide +kernel
theorem dX7_bill_2 : decode cX7_bill 2 = .ok (.putfield 103, 3) := by decide +kernel
theorem dX7_bill_5 : decode cX7_bill 5 = .ok (.lconst 0, 1) := by decide +kernel
theorem dX7_bill_6 : decode cX7_bill 6 = .ok (.lstore_n 1, 1) := by decide +kernel
theorem dX7_bill_7 : decode cX7_bill 7 = .ok (.iconst 0, 1) := by decide +kernel
theorem dX7_bill_8 : decode cX7_bill 8 = .ok (.istore_n 3, 1) := by decide +kernel
theorem dX7_bill_9 : decode cX7_bill 9 = .ok (.iload_n 3, 1) := by decide +kernel
theorem dX7_bill_10 : decode cX7_bill 10 = .ok (.bipush 10, 2) := by decide +kernel
theorem dX7_bill_12 : decode cX7_bill 12 = .ok (.if_icmp .ge 80, 3) := by decide +kernel
theorem dX7_bill_15 : decode cX7_bill 15 = .ok (.aload_n 0, 1) := by decide +kernel
theorem dX7_bill_16 : decode cX7_bill 16 = .ok (.iload_n 3, 1) := by decide +kernel
theorem dX7_bill_17 : decode cX7_bill 17 = .ok (.invokevirtual 182, 3) := by decide +kernel
theorem dX7_bill_20 : decode cX7_bill 20 = .ok (.lstore 4, 2) := by decide +kernel
theorem dX7_bill_22 : decode cX7_bill 22 = .ok (.lload 4, 2) := by decide +kernel
theorem dX7_bill_24 : decode cX7_bill 24 = .ok (.aload_n 0, 1) := by decide +kernel
theorem dX7_bill_25 : decode cX7_bill 25 = .ok (.getfield 41, 3) := by decide +kernel
theorem dX7_bill_28 : decode cX7_bill 28 = .ok (.iload_n 3, 1) := by decide +kernel
theorem dX7_bill_29 : decode cX7_bill 29 = .ok (.laload, 1) := by decide +kernel
theorem dX7_bill_30 : decode cX7_bill 30 = .ok (.lsub, 1) := by decide +kernel
theorem dX7_bill_31 : decode cX7_bill 31 = .ok (.lstore 6, 2) := by decide +kernel
theorem dX7_bill_33 : decode cX7_bill 33 = .ok (.aload_n 0, 1) := by decide +kernel
theorem dX7_bill_34 : decode cX7_bill 34 = .ok (.getfield 38, 3) := by decide +kernel
theorem dX7_bill_37 : decode cX7_bill 37 = .ok (.iload_n 3, 1) := by decide +kernel
theorem dX7_bill_38 : decode cX7_bill 38 = .ok (.iaload, 1) := by decide +kernel
theorem dX7_bill_39 : decode cX7_bill 39 = .ok (.iconst (-1), 1) := by decide +kernel
theorem dX7_bill_40 : decode cX7_bill 40 = .ok (.if_icmp .ne 17, 3) := by decide +kernel
theorem dX7_bill_43 : decode cX7_bill 43 = .ok (.aload_n 0, 1) := by decide +kernel
theorem dX7_bill_44 : decode cX7_bill 44 = .ok (.getfield 45, 3) := by decide +kernel
theorem dX7_bill_47 : decode cX7_bill 47 = .ok (.iload_n 3, 1) := by decide +kernel
theorem dX7_bill_48 : decode cX7_bill 48 = .ok (.dup2, 1) := by decide +kernel
theorem dX7_bill_49 : decode cX7_bill 49 = .ok (.laload, 1) := by decide +kernel
theorem dX7_bill_50 : decode cX7_bill 50 = .ok (.lload 6, 2) := by decide +kernel
theorem dX7_bill_52 : decode cX7_bill 52 = .ok (.lsub, 1) := by decide +kernel
theorem dX7_bill_53 : decode cX7_bill 53 = .ok (.lastore, 1) := by decide +kernel
theorem dX7_bill_54 : decode cX7_bill 54 = .ok (.goto 19, 3) := by decide +kernel
theorem dX7_bill_57 : decode cX7_bill 57 = .ok (.aload_n 0, 1) := by decide +kernel
theorem dX7_bill_58 : decode cX7_bill 58 = .ok (.getfield 48, 3) := by decide +kernel
theorem dX7_bill_61 : decode cX7_bill 61 = .ok (.aload_n 0, 1) := by decide +kernel
theorem dX7_bill_62 : decode cX7_bill 62 = .ok (.getfield 38, 3) := by decide +kernel
theorem dX7_bill_65 : decode cX7_bill 65 = .ok (.iload_n 3, 1) := by decide +kernel
theorem dX7_bill_66 : decode cX7_bill 66 = .ok (.iaload, 1) := by decide +kernel
theorem dX7_bill_67 : decode cX7_bill 67 = .ok (.dup2, 1) := by decide +kernel
theorem dX7_bill_68 : decode cX7_bill 68 = .ok (.laload, 1) := by decide +kernel
theorem dX7_bill_69 : decode cX7_bill 69 = .ok (.lload 6, 2) := by decide +kernel
theorem dX7_bill_71 : decode cX7_bill 71 = .ok (.lsub, 1) := by decide +kernel
theorem dX7_bill_72 : decode cX7_bill 72 = .ok (.lastore, 1) := by decide +kernel
theorem dX7_bill_73 : decode cX7_bill 73 = .ok (.aload_n 0, 1) := by decide +kernel
theorem dX7_bill_74 : decode cX7_bill 74 = .ok (.getfield 41, 3) := by decide +kernel
theorem dX7_bill_77 : decode cX7_bill 77 = .ok (.iload_n 3, 1) := by decide +kernel
theorem dX7_bill_78 : decode cX7_bill 78 = .ok (.lload 4, 2) := by decide +kernel
theorem dX7_bill_80 : decode cX7_bill 80 = .ok (.lastore, 1) := by decide +kernel
theorem dX7_bill_81 : decode cX7_bill 81 = .ok (.lload_n 1, 1) := by decide +kernel
theorem dX7_bill_82 : decode cX7_bill 82 = .ok (.lload 6, 2) := by decide +kernel
theorem dX7_bill_84 : decode cX7_bill 84 = .ok (.ladd, 1) := by decide +kernel
theorem dX7_bill_85 : decode cX7_bill 85 = .ok (.lstore_n 1, 1) := by decide +kernel
theorem dX7_bill_86 : decode cX7_bill 86 = .ok (.iinc 3 1, 3) := by decide +kernel
theorem dX7_bill_89 : decode cX7_bill 89 = .ok (.goto (-80), 3) := by decide +kernel
theorem dX7_bill_92 : decode cX7_bill 92 = .ok (.iconst 0, 1) := by decide +kernel
theorem dX7_bill_93 : decode cX7_bill 93 = .ok (.istore_n 3, 1) := by decide +kernel
theorem dX7_bill_94 : decode cX7_bill 94 = .ok (.iload_n 3, 1) := by decide +kernel
theorem dX7_bill_95 : decode cX7_bill 95 = .ok (.iconst 4, 1) := by decide +kernel
theorem dX7_bill_96 : decode cX7_bill 96 = .ok (.if_icmp .ge 20, 3) := by decide +kernel
theorem dX7_bill_99 : decode cX7_bill 99 = .ok (.aload_n 0, 1) := by decide +kernel
theorem dX7_bill_100 : decode cX7_bill 100 = .ok (.getfield 51, 3) := by decide +kernel
theorem dX7_bill_103 : decode cX7_bill 103 = .ok (.iload_n 3, 1) := by decide +kernel
theorem dX7_bill_104 : decode cX7_bill 104 = .ok (.aload_n 0, 1) := by decide +kernel
theorem dX7_bill_105 : decode cX7_bill 105 = .ok (.iload_n 3, 1) := by decide +kernel
theorem dX7_bill_106 : decode cX7_bill 106 = .ok (.invokevirtual 186, 3) := by decide +kernel
theorem dX7_bill_109 : decode cX7_bill 109 = .ok (.lastore, 1) := by decide +kernel
theorem dX7_bill_110 : decode cX7_bill 110 = .ok (.iinc 3 1, 3) := by decide +kernel
theorem dX7_bill_113 : decode cX7_bill 113 = .ok (.goto (-19), 3) := by decide +kernel
theorem dX7_bill_116 : decode cX7_bill 116 = .ok (.lload_n 1, 1) := by decide +kernel
theorem dX7_bill_117 : decode cX7_bill 117 = .ok (.lreturn, 1) := by decide +kernel
theorem dX7_distance_0 : decode cX7_distance 0 = .ok (.aload_n 0, 1) := by decide +kernel
theorem dX7_distance_1 : decode cX7_distance 1 = .ok (.aload_n 0, 1) := by decide +kernel
theorem dX7_distance_2 : decode cX7_distance 2 = .ok (.iload_n 1, 1) := by decide +kernel
theorem dX7_distance_3 : decode cX7_distance 3 = .ok (.invokevirtual 127, 3) := by decide +kernel
theorem dX7_distance_6 : decode cX7_distance 6 = .ok (.ifCond .eq 15, 3) := by decide +kernel
theorem dX7_distance_9 : decode cX7_distance 9 = .ok (.aload_n 0, 1) := by decide +kernel
theorem dX7_distance_10 : decode cX7_distance 10 = .ok (.iload_n 2, 1) := by decide +kernel
theorem dX7_distance_11 : decode cX7_distance 11 = .ok (.invokevirtual 127, 3) := by decide +kernel
theorem dX7_distance_14 : decode cX7_distance 14 = .ok (.ifCond .eq 7, 3) := by decide +kernel
theorem dX7_distance_17 : decode cX7_distance 17 = .ok (.iconst 0, 1) := by decide +kernel
theorem dX7_distance_18 : decode cX7_distance 18 = .ok (.goto 4, 3) := by decide +kernel
theorem dX7_distance_21 : decode cX7_distance 21 = .ok (.iconst 1, 1) := by decide +kernel
theorem dX7_distance_22 : decode cX7_distance 22 = .ok (.putfield 103, 3) := by decide +kernel
theorem dX7_distance_25 : decode cX7_distance 25 = .ok (.aload_n 0, 1) := by decide +kernel
theorem dX7_distance_26 : decode cX7_distance 26 = .ok (.getfield 103, 3) := by decide +kernel
theorem dX7_distance_29 : decode cX7_distance 29 = .ok (.ifCond .le 5, 3) := by decide +kernel
theorem dX7_distance_32 : decode cX7_distance 32 = .ok (.iconst 0, 1) := by decide +kernel
theorem dX7_distance_33 : decode cX7_distance 33 = .ok (.ireturn, 1) := by decide +kernel
theorem dX7_distance_34 : decode cX7_distance 34 = .ok (.aload_n 0, 1) := by decide +kernel
theorem dX7_distance_35 : decode cX7_distance 35 = .ok (.iload_n 1, 1) := by decide +kernel
theorem dX7_distance_36 : decode cX7_distance 36 = .ok (.iload_n 2, 1) := by decide +kernel
theorem dX7_distance_37 : decode cX7_distance 37 = .ok (.invokevirtual 120, 3) := by decide +kernel
theorem dX7_distance_40 : decode cX7_distance 40 = .ok (.ldc 116, 2) := by decide +kernel
theorem dX7_distance_42 : decode cX7_distance 42 = .ok (.if_icmp .ge 12, 3) := by decide +kernel
theorem dX7_distance_45 : decode cX7_distance 45 = .ok (.aload_n 0, 1) := by decide +kernel
theorem dX7_distance_46 : decode cX7_distance 46 = .ok (.iload_n 1, 1) := by decide +kernel
theorem dX7_distance_47 : decode cX7_distance 47 = .ok (.iload_n 2, 1) := by decide +kernel
theorem dX7_distance_48 : decode cX7_distance 48 = .ok (.invokevirtual 120, 3) := by decide +kernel
theorem dX7_distance_51 : decode cX7_distance 51 = .ok (.goto 4, 3) := by decide +kernel
theorem dX7_distance_54 : decode cX7_distance 54 = .ok (.iconst (-1), 1) := by decide +kernel
theorem dX7_distance_55 : decode cX7_distance 55 = .ok (.ireturn, 1) := by decide +kernel
theorem dX7_way_0 : decode cX7_way 0 = .ok (.aload_n 0, 1) := by decide +kernel
theorem dX7_way_1 : decode cX7_way 1 = .ok (.aload_n 0, 1) := by decide +kernel
theorem dX7_way_2 : decode cX7_way 2 = .ok (.iload_n 1, 1) := by decide +kernel
theorem dX7_way_3 : decode cX7_way 3 = .ok (.invokevirtual 127, 3) := by decide +kernel
theorem dX7_way_6 : decode cX7_way 6 = .ok (.ifCond .eq 19, 3) := by decide +kernel
theorem dX7_way_9 : decode cX7_way 9 = .ok (.aload_n 0, 1) := by decide +kernel
theorem dX7_way_10 : decode cX7_way 10 = .ok (.iload_n 2, 1) := by decide +kernel
theorem dX7_way_11 : decode cX7_way 11 = .ok (.invokevirtual 127, 3) := by decide +kernel
theorem dX7_way_14 : decode cX7_way 14 = .ok (.ifCond .eq 11, 3) := by decide +kernel
theorem dX7_way_17 : decode cX7_way 17 = .ok (.iload_n 3, 1) := by decide +kernel
theorem dX7_way_18 : decode cX7_way 18 = .ok (.ifCond .lt 7, 3) := by decide +kernel
theorem dX7_way_21 : decode cX7_way 21 = .ok (.iconst 0, 1) := by decide +kernel
theorem dX7_way_22 : decode cX7_way 22 = .ok (.goto 4, 3) := by decide +kernel
theorem dX7_way_25 : decode cX7_way 25 = .ok (.iconst 1, 1) := by decide +kernel
theorem dX7_way_26 : decode cX7_way 26 = .ok (.putfield 103, 3) := by decide +kernel
theorem dX7_way_29 : decode cX7_way 29 = .ok (.aload_n 0, 1) := by decide +kernel
theorem dX7_way_30 : decode cX7_way 30 = .ok (.getfield 103, 3) := by decide +kernel
theorem dX7_way_33 : decode cX7_way 33 = .ok (.ifCond .le 5, 3) := by decide +kernel
theorem dX7_way_36 : decode cX7_way 36 = .ok (.iconst 0, 1) := by decide +kernel
theorem dX7_way_37 : decode cX7_way 37 = .ok (.ireturn, 1) := by decide +kernel
theorem dX7_way_38 : decode cX7_way 38 = .ok (.iload_n 1, 1) := by decide +kernel
theorem dX7_way_39 : decode cX7_way 39 = .ok (.istore 4, 2) := by decide +kernel
theorem dX7_way_41 : decode cX7_way 41 = .ok (.iload_n 3, 1) := by decide +kernel
theorem dX7_way_42 : decode cX7_way 42 = .ok (.istore 5, 2) := by decide +kernel
theorem dX7_way_44 : decode cX7_way 44 = .ok (.aload_n 0, 1) := by decide +kernel
theorem dX7_way_45 : decode cX7_way 45 = .ok (.iload_n 1, 1) := by decide +kernel
theorem dX7_way_46 : decode cX7_way 46 = .ok (.iload_n 2, 1) := by decide +kernel
theorem dX7_way_47 : decode cX7_way 47 = .ok (.invokevirtual 120, 3) := by decide +kernel
theorem dX7_way_50 : decode cX7_way 50 = .ok (.ldc 116, 2) := by decide +kernel
theorem dX7_way_52 : decode cX7_way 52 = .ok (.if_icmp .ge 13, 3) := by decide +kernel
theorem dX7_way_55 : decode cX7_way 55 = .ok (.aload_n 0, 1) := by decide +kernel
theorem dX7_way_56 : decode cX7_way 56 = .ok (.iload 4, 2) := by decide +kernel
theorem dX7_way_58 : decode cX7_way 58 = .ok (.iload_n 2, 1) := by decide +kernel
theorem dX7_way_59 : decode cX7_way 59 = .ok (.invokevirtual 151, 3) := by decide +kernel
theorem dX7_way_62 : decode cX7_way 62 = .ok (.goto 4, 3) := by decide +kernel
theorem dX7_way_65 : decode cX7_way 65 = .ok (.iconst (-1), 1) := by decide +kernel
theorem dX7_way_66 : decode cX7_way 66 = .ok (.istore 6, 2) := by decide +kernel
theorem dX7_way_68 : decode cX7_way 68 = .ok (.iload 6, 2) := by decide +kernel
theorem dX7_way_70 : decode cX7_way 70 = .ok (.iconst (-1), 1) := by decide +kernel
theorem dX7_way_71 : decode cX7_way 71 = .ok (.if_icmp .eq 33, 3) := by decide +kernel
theorem dX7_way_74 : decode cX7_way 74 = .ok (.iload 5, 2) := by decide +kernel
theorem dX7_way_76 : decode cX7_way 76 = .ok (.ifCond .le 28, 3) := by decide +kernel
theorem dX7_way_79 : decode cX7_way 79 = .ok (.aload_n 0, 1) := by decide +kernel
theorem dX7_way_80 : decode cX7_way 80 = .ok (.iload 6, 2) := by decide +kernel
theorem dX7_way_82 : decode cX7_way 82 = .ok (.iload 4, 2) := by decide +kernel
theorem dX7_way_84 : decode cX7_way 84 = .ok (.invokevirtual 156, 3) := by decide +kernel
theorem dX7_way_87 : decode cX7_way 87 = .ok (.istore 4, 2) := by decide +kernel
theorem dX7_way_89 : decode cX7_way 89 = .ok (.aload_n 0, 1) := by decide +kernel
theorem dX7_way_90 : decode cX7_way 90 = .ok (.iload 4, 2) := by decide +kernel
theorem dX7_way_92 : decode cX7_way 92 = .ok (.iload_n 2, 1) := by decide +kernel
theorem dX7_way_93 : decode cX7_way 93 = .ok (.invokevirtual 151, 3) := by decide +kernel
theorem dX7_way_96 : decode cX7_way 96 = .ok (.istore 6, 2) := by decide +kernel
theorem dX7_way_98 : decode cX7_way 98 = .ok (.iinc 5 (-1), 3) := by decide +kernel
theorem dX7_way_101 : decode cX7_way 101 = .ok (.goto (-33), 3) := by decide +kernel
theorem dX7_way_104 : decode cX7_way 104 = .ok (.iload 6, 2) := by decide +kernel
theorem dX7_way_106 : decode cX7_way 106 = .ok (.ireturn, 1) := by decide +kernel
theorem dX7_journeys_0 : decode cX7_journeys 0 = .ok (.aload_n 0, 1) := by decide +kernel
theorem dX7_journeys_1 : decode cX7_journeys 1 = .ok (.iload_n 1, 1) := by decide +kernel
theorem dX7_journeys_2 : decode cX7_journeys 2 = .ok (.invokestatic 132, 3) := by decide +kernel
theorem dX7_journeys_5 : decode cX7_journeys 5 = .ok (.ifCond .eq 7, 3) := by decide +kernel
theorem dX7_journeys_8 : decode cX7_journeys 8 = .ok (.iconst 0, 1) := by decide +kernel
theorem dX7_journeys_9 : decode cX7_journeys 9 = .ok (.goto 4, 3) := by decide +kernel
theorem dX7_journeys_12 : decode cX7_journeys 12 = .ok (.iconst 1, 1) := by decide +kernel
theorem dX7_journeys_13 : decode cX7_journeys 13 = .ok (.putfield 103, 3) := by decide +kernel
theorem dX7_journeys_16 : decode cX7_journeys 16 = .ok (.aload_n 0, 1) := by decide +kernel
theorem dX7_journeys_17 : decode cX7_journeys 17 = .ok (.getfield 103, 3) := by decide +kernel
theorem dX7_journeys_20 : decode cX7_journeys 20 = .ok (.ifCond .le 5, 3) := by decide +kernel
theorem dX7_journeys_23 : decode cX7_journeys 23 = .ok (.iconst 0, 1) := by decide +kernel
theorem dX7_journeys_24 : decode cX7_journeys 24 = .ok (.ireturn, 1) := by decide +kernel
theorem dX7_journeys_25 : decode cX7_journeys 25 = .ok (.aload_n 0, 1) := by decide +kernel
theorem dX7_journeys_26 : decode cX7_journeys 26 = .ok (.iload_n 1, 1) := by decide +kernel
theorem dX7_journeys_27 : decode cX7_journeys 27 = .ok (.invokevirtual 176, 3) := by decide +kernel
theorem dX7_journeys_30 : decode cX7_journeys 30 = .ok (.aload_n 0, 1) := by decide +kernel
theorem dX7_journeys_31 : decode cX7_journeys 31 = .ok (.getfield 159, 3) := by decide +kernel
theorem dX7_journeys_34 : decode cX7_journeys 34 = .ok (.ireturn, 1) := by decide +kernel
theorem dX7_journey_0 : decode cX7_journey 0 = .ok (.aload_n 0, 1) := by decide +kernel
theorem dX7_journey_1 : decode cX7_journey 1 = .ok (.iload_n 1, 1) := by decide +kernel
theorem dX7_journey_2 : decode cX7_journey 2 = .ok (.invokestatic 132, 3) := by decide +kernel
theorem dX7_journey_5 : decode cX7_journey 5 = .ok (.ifCond .eq 7, 3) := by decide +kernel
theorem dX7_journey_8 : decode cX7_journey 8 = .ok (.iconst 0, 1) := by decide +kernel
theorem dX7_journey_9 : decode cX7_journey 9 = .ok (.goto 4, 3) := by decide +kernel
theorem dX7_journey_12 : decode cX7_journey 12 = .ok (.iconst 1, 1) := by decide +kernel
theorem dX7_journey_13 : decode cX7_journey 13 = .ok (.putfield 103, 3) := by decide +kernel
theorem dX7_journey_16 : decode cX7_journey 16 = .ok (.aload_n 0, 1) := by decide +kernel
theorem dX7_journey_17 : decode cX7_journey 17 = .ok (.getfield 103, 3) := by decide +kernel
theorem dX7_journey_20 : decode cX7_journey 20 = .ok (.ifCond .le 5, 3) := by decide +kernel
theorem dX7_journey_23 : decode cX7_journey 23 = .ok (.iconst 0, 1) := by decide +kernel
theorem dX7_journey_24 : decode cX7_journey 24 = .ok (.ireturn, 1) := by decide +kernel
theorem dX7_journey_25 : decode cX7_journey 25 = .ok (.aload_n 0, 1) := by decide +kernel
theorem dX7_journey_26 : decode cX7_journey 26 = .ok (.iload_n 1, 1) := by decide +kernel
theorem dX7_journey_27 : decode cX7_journey 27 = .ok (.invokevirtual 176, 3) := by decide +kernel
theorem dX7_journey_30 : decode cX7_journey 30 = .ok (.aload_n 0, 1) := by decide +kernel
theorem dX7_journey_31 : decode cX7_journey 31 = .ok (.iload_n 2, 1) := by decide +kernel
theorem dX7_journey_32 : decode cX7_journey 32 = .ok (.iconst 0, 1) := by decide +kernel
theorem dX7_journey_33 : decode cX7_journey 33 = .ok (.aload_n 0, 1) := by decide +kernel
theorem dX7_journey_34 : decode cX7_journey 34 = .ok (.getfield 159, 3) := by decide +kernel
theorem dX7_journey_37 : decode cX7_journey 37 = .ok (.iconst 1, 1) := by decide +kernel
theorem dX7_journey_38 : decode cX7_journey 38 = .ok (.isub, 1) := by decide +kernel
theorem dX7_journey_39 : decode cX7_journey 39 = .ok (.invokestatic 109, 3) := by decide +kernel
theorem dX7_journey_42 : decode cX7_journey 42 = .ok (.ifCond .ne 7, 3) := by decide +kernel
theorem dX7_journey_45 : decode cX7_journey 45 = .ok (.iconst 1, 1) := by decide +kernel
theorem dX7_journey_46 : decode cX7_journey 46 = .ok (.goto 18, 3) := by decide +kernel
theorem dX7_journey_49 : decode cX7_journey 49 = .ok (.iload_n 3, 1) := by decide +kernel
theorem dX7_journey_50 : decode cX7_journey 50 = .ok (.iconst 0, 1) := by decide +kernel
theorem dX7_journey_51 : decode cX7_journey 51 = .ok (.bipush 8, 2) := by decide +kernel
theorem dX7_journey_53 : decode cX7_journey 53 = .ok (.invokestatic 109, 3) := by decide +kernel
theorem dX7_journey_56 : decode cX7_journey 56 = .ok (.ifCond .eq 7, 3) := by decide +kernel
theorem dX7_journey_59 : decode cX7_journey 59 = .ok (.iconst 0, 1) := by decide +kernel
theorem dX7_journey_60 : decode cX7_journey 60 = .ok (.goto 4, 3) := by decide +kernel
theorem dX7_journey_63 : decode cX7_journey 63 = .ok (.iconst 2, 1) := by decide +kernel
theorem dX7_journey_64 : decode cX7_journey 64 = .ok (.putfield 103, 3) := by decide +kernel
theorem dX7_journey_67 : decode cX7_journey 67 = .ok (.aload_n 0, 1) := by decide +kernel
theorem dX7_journey_68 : decode cX7_journey 68 = .ok (.getfield 103, 3) := by decide +kernel
theorem dX7_journey_71 : decode cX7_journey 71 = .ok (.ifCond .le 5, 3) := by decide +kernel
theorem dX7_journey_74 : decode cX7_journey 74 = .ok (.iconst 0, 1) := by decide +kernel
theorem dX7_journey_75 : decode cX7_journey 75 = .ok (.ireturn, 1) := by decide +kernel
theorem dX7_journey_76 : decode cX7_journey 76 = .ok (.iload_n 3, 1) := by decide +kernel
theorem dX7_journey_77 : decode cX7_journey 77 = .ok (.iconst 4, 1) := by decide +kernel
theorem dX7_journey_78 : decode cX7_journey 78 = .ok (.if_icmp .le 17, 3) := by decide +kernel
theorem dX7_journey_81 : decode cX7_journey 81 = .ok (.aload_n 0, 1) := by decide +kernel
theorem dX7_journey_82 : decode cX7_journey 82 = .ok (.getfield 100, 3) := by decide +kernel
theorem dX7_journey_85 : decode cX7_journey 85 = .ok (.iconst 4, 1) := by decide +kernel
theorem dX7_journey_86 : decode cX7_journey 86 = .ok (.iload_n 2, 1) := by decide +kernel
theorem dX7_journey_87 : decode cX7_journey 87 = .ok (.imul, 1) := by decide +kernel
theorem dX7_journey_88 : decode cX7_journey 88 = .ok (.iload_n 3, 1) := by decide +kernel
theorem dX7_journey_89 : decode cX7_journey 89 = .ok (.iadd, 1) := by decide +kernel
theorem dX7_journey_90 : decode cX7_journey 90 = .ok (.iconst 5, 1) := by decide +kernel
theorem dX7_journey_91 : decode cX7_journey 91 = .ok (.isub, 1) := by decide +kernel
theorem dX7_journey_92 : decode cX7_journey 92 = .ok (.laload, 1) := by decide +kernel
theorem dX7_journey_93 : decode cX7_journey 93 = .ok (.l2i, 1) := by decide +kernel
theorem dX7_journey_94 : decode cX7_journey 94 = .ok (.ireturn, 1) := by decide +kernel
theorem dX7_journey_95 : decode cX7_journey 95 = .ok (.iload_n 3, 1) := by decide +kernel
theorem dX7_journey_96 : decode cX7_journey 96 = .ok (.ifCond .ne 12, 3) := by decide +kernel
theorem dX7_journey_99 : decode cX7_journey 99 = .ok (.aload_n 0, 1) := by decide +kernel
theorem dX7_journey_100 : decode cX7_journey 100 = .ok (.getfield 85, 3) := by decide +kernel
theorem dX7_journey_103 : decode cX7_journey 103 = .ok (.iload_n 2, 1) := by decide +kernel
theorem dX7_journey_104 : decode cX7_journey 104 = .ok (.iaload, 1) := by decide +kernel
theorem dX7_journey_105 : decode cX7_journey 105 = .ok (.goto 59, 3) := by decide +kernel
theorem dX7_journey_108 : decode cX7_journey 108 = .ok (.iload_n 3, 1) := by decide +kernel
theorem dX7_journey_109 : decode cX7_journey 109 = .ok (.iconst 1, 1) := by decide +kernel
theorem dX7_journey_110 : decode cX7_journey 110 = .ok (.if_icmp .ne 12, 3) := by decide +kernel
theorem dX7_journey_113 : decode cX7_journey 113 = .ok (.aload_n 0, 1) := by decide +kernel
theorem dX7_journey_114 : decode cX7_journey 114 = .ok (.getfield 88, 3) := by decide +kernel
theorem dX7_journey_117 : decode cX7_journey 117 = .ok (.iload_n 2, 1) := by decide +kernel
theorem dX7_journey_118 : decode cX7_journey 118 = .ok (.iaload, 1) := by decide +kernel
theorem dX7_journey_119 : decode cX7_journey 119 = .ok (.goto 45, 3) := by decide +kernel
theorem dX7_journey_122 : decode cX7_journey 122 = .ok (.iload_n 3, 1) := by decide +kernel
theorem dX7_journey_123 : decode cX7_journey 123 = .ok (.iconst 2, 1) := by decide +kernel
theorem dX7_journey_124 : decode cX7_journey 124 = .ok (.if_icmp .ne 12, 3) := by decide +kernel
theorem dX7_journey_127 : decode cX7_journey 127 = .ok (.aload_n 0, 1) := by decide +kernel
theorem dX7_journey_128 : decode cX7_journey 128 = .ok (.getfield 91, 3) := by decide +kernel
theorem dX7_journey_131 : decode cX7_journey 131 = .ok (.iload_n 2, 1) := by decide +kernel
theorem dX7_journey_132 : decode cX7_journey 132 = .ok (.iaload, 1) := by decide +kernel
theorem dX7_journey_133 : decode cX7_journey 133 = .ok (.goto 31, 3) := by decide +kernel
theorem dX7_journey_136 : decode cX7_journey 136 = .ok (.iload_n 3, 1) := by decide +kernel
theorem dX7_journey_137 : decode cX7_journey 137 = .ok (.iconst 3, 1) := by decide +kernel
theorem dX7_journey_138 : decode cX7_journey 138 = .ok (.if_icmp .ne 13, 3) := by decide +kernel
theorem dX7_journey_141 : decode cX7_journey 141 = .ok (.aload_n 0, 1) := by decide +kernel
theorem dX7_journey_142 : decode cX7_journey 142 = .ok (.getfield 97, 3) := by decide +kernel
theorem dX7_journey_145 : decode cX7_journey 145 = .ok (.iload_n 2, 1) := by decide +kernel
theorem dX7_journey_146 : decode cX7_journey 146 = .ok (.laload, 1) := by decide +kernel
theorem dX7_journey_147 : decode cX7_journey 147 = .ok (.l2i, 1) := by decide +kernel
theorem dX7_journey_148 : decode cX7_journey 148 = .ok (.goto 16, 3) := by decide +kernel
theorem dX7_journey_151 : decode cX7_journey 151 = .ok (.aload_n 0, 1) := by decide +kernel
theorem dX7_journey_152 : decode cX7_journey 152 = .ok (.iload_n 2, 1) := by decide +kernel
theorem dX7_journey_153 : decode cX7_journey 153 = .ok (.invokevirtual 179, 3) := by decide +kernel
theorem dX7_journey_156 : decode cX7_journey 156 = .ok (.ifCond .eq 7, 3) := by decide +kernel
theorem dX7_journey_159 : decode cX7_journey 159 = .ok (.iconst 1, 1) := by decide +kernel
theorem dX7_journey_160 : decode cX7_journey 160 = .ok (.goto 4, 3) := by decide +kernel
theorem dX7_journey_163 : decode cX7_journey 163 = .ok (.iconst 0, 1) := by decide +kernel
theorem dX7_journey_164 : decode cX7_journey 164 = .ok (.ireturn, 1) := by decide +kernel
theorem dX7_ofReading_0 : decode cX7_ofReading 0 = .ok (.aload_n 0, 1) := by decide +kernel
theorem dX7_ofReading_1 : decode cX7_ofReading 1 = .ok (.aload_n 0, 1) := by decide +kernel
theorem dX7_ofReading_2 : decode cX7_ofReading 2 = .ok (.iload_n 1, 1) := by decide +kernel
theorem dX7_ofReading_3 : decode cX7_ofReading 3 = .ok (.invokevirtual 144, 3) := by decide +kernel
theorem dX7_ofReading_6 : decode cX7_ofReading 6 = .ok (.ifCond .ne 7, 3) := by decide +kernel
theorem dX7_ofReading_9 : decode cX7_ofReading 9 = .ok (.iconst 1, 1) := by decide +kernel
theorem dX7_ofReading_10 : decode cX7_ofReading 10 = .ok (.goto 17, 3) := by decide +kernel
theorem dX7_ofReading_13 : decode cX7_ofReading 13 = .ok (.iload_n 2, 1) := by decide +kernel
theorem dX7_ofReading_14 : decode cX7_ofReading 14 = .ok (.iconst 0, 1) := by decide +kernel
theorem dX7_ofReading_15 : decode cX7_ofReading 15 = .ok (.iconst 5, 1) := by decide +kernel
theorem dX7_ofReading_16 : decode cX7_ofReading 16 = .ok (.invokestatic 109, 3) := by decide +kernel
theorem dX7_ofReading_19 : decode cX7_ofReading 19 = .ok (.ifCond .eq 7, 3) := by decide +kernel
theorem dX7_ofReading_22 : decode cX7_ofReading 22 = .ok (.iconst 0, 1) := by decide +kernel
theorem dX7_ofReading_23 : decode cX7_ofReading 23 = .ok (.goto 4, 3) := by decide +kernel
theorem dX7_ofReading_26 : decode cX7_ofReading 26 = .ok (.iconst 2, 1) := by decide +kernel
theorem dX7_ofReading_27 : decode cX7_ofReading 27 = .ok (.putfield 103, 3) := by decide +kernel
theorem dX7_ofReading_30 : decode cX7_ofReading 30 = .ok (.aload_n 0, 1) := by decide +kernel
theorem dX7_ofReading_31 : decode cX7_ofReading 31 = .ok (.getfield 103, 3) := by decide +kernel
theorem dX7_ofReading_34 : decode cX7_ofReading 34 = .ok (.ifCond .le 5, 3) := by decide +kernel
theorem dX7_ofReading_37 : decode cX7_ofReading 37 = .ok (.iconst 0, 1) := by decide +kernel
theorem dX7_ofReading_38 : decode cX7_ofReading 38 = .ok (.ireturn, 1) := by decide +kernel
theorem dX7_ofReading_39 : decode cX7_ofReading 39 = .ok (.iload_n 2, 1) := by decide +kernel
theorem dX7_ofReading_40 : decode cX7_ofReading 40 = .ok (.iconst 4, 1) := by decide +kernel
theorem dX7_ofReading_41 : decode cX7_ofReading 41 = .ok (.if_icmp .ge 59, 3) := by decide +kernel
theorem dX7_ofReading_44 : decode cX7_ofReading 44 = .ok (.iload_n 2, 1) := by decide +kernel
theorem dX7_ofReading_45 : decode cX7_ofReading 45 = .ok (.ifCond .ne 12, 3) := by decide +kernel
theorem dX7_ofReading_48 : decode cX7_ofReading 48 = .ok (.aload_n 0, 1) := by decide +kernel
theorem dX7_ofReading_49 : decode cX7_ofReading 49 = .ok (.getfield 63, 3) := by decide +kernel
theorem dX7_ofReading_52 : decode cX7_ofReading 52 = .ok (.iload_n 1, 1) := by decide +kernel
theorem dX7_ofReading_53 : decode cX7_ofReading 53 = .ok (.iaload, 1) := by decide +kernel
theorem dX7_ofReading_54 : decode cX7_ofReading 54 = .ok (.goto 45, 3) := by decide +kernel
theorem dX7_ofReading_57 : decode cX7_ofReading 57 = .ok (.iload_n 2, 1) := by decide +kernel
theorem dX7_ofReading_58 : decode cX7_ofReading 58 = .ok (.iconst 1, 1) := by decide +kernel
theorem dX7_ofReading_59 : decode cX7_ofReading 59 = .ok (.if_icmp .ne 12, 3) := by decide +kernel
theorem dX7_ofReading_62 : decode cX7_ofReading 62 = .ok (.aload_n 0, 1) := by decide +kernel
theorem dX7_ofReading_63 : decode cX7_ofReading 63 = .ok (.getfield 66, 3) := by decide +kernel
theorem dX7_ofReading_66 : decode cX7_ofReading 66 = .ok (.iload_n 1, 1) := by decide +kernel
theorem dX7_ofReading_67 : decode cX7_ofReading 67 = .ok (.iaload, 1) := by decide +kernel
theorem dX7_ofReading_68 : decode cX7_ofReading 68 = .ok (.goto 31, 3) := by decide +kernel
theorem dX7_ofReading_71 : decode cX7_ofReading 71 = .ok (.iload_n 2, 1) := by decide +kernel
theorem dX7_ofReading_72 : decode cX7_ofReading 72 = .ok (.iconst 2, 1) := by decide +kernel
theorem dX7_ofReading_73 : decode cX7_ofReading 73 = .ok (.if_icmp .ne 12, 3) := by decide +kernel
theorem dX7_ofReading_76 : decode cX7_ofReading 76 = .ok (.aload_n 0, 1) := by decide +kernel
theorem dX7_ofReading_77 : decode cX7_ofReading 77 = .ok (.getfield 69, 3) := by decide +kernel
theorem dX7_ofReading_80 : decode cX7_ofReading 80 = .ok (.iload_n 1, 1) := by decide +kernel
theorem dX7_ofReading_81 : decode cX7_ofReading 81 = .ok (.iaload, 1) := by decide +kernel
theorem dX7_ofReading_82 : decode cX7_ofReading 82 = .ok (.goto 17, 3) := by decide +kernel
theorem dX7_ofReading_85 : decode cX7_ofReading 85 = .ok (.aload_n 0, 1) := by decide +kernel
theorem dX7_ofReading_86 : decode cX7_ofReading 86 = .ok (.getfield 72, 3) := by decide +kernel
theorem dX7_ofReading_89 : decode cX7_ofReading 89 = .ok (.iload_n 1, 1) := by decide +kernel
theorem dX7_ofReading_90 : decode cX7_ofReading 90 = .ok (.baload, 1) := by decide +kernel
theorem dX7_ofReading_91 : decode cX7_ofReading 91 = .ok (.ifCond .eq 7, 3) := by decide +kernel
theorem dX7_ofReading_94 : decode cX7_ofReading 94 = .ok (.iconst 1, 1) := by decide +kernel
theorem dX7_ofReading_95 : decode cX7_ofReading 95 = .ok (.goto 4, 3) := by decide +kernel
theorem dX7_ofReading_98 : decode cX7_ofReading 98 = .ok (.iconst 0, 1) := by decide +kernel
theorem dX7_ofReading_99 : decode cX7_ofReading 99 = .ok (.ireturn, 1) := by decide +kernel
theorem dX7_ofReading_100 : decode cX7_ofReading 100 = .ok (.aload_n 0, 1) := by decide +kernel
theorem dX7_ofReading_101 : decode cX7_ofReading 101 = .ok (.aload_n 0, 1) := by decide +kernel
theorem dX7_ofReading_102 : decode cX7_ofReading 102 = .ok (.getfield 66, 3) := by decide +kernel
theorem dX7_ofReading_105 : decode cX7_ofReading 105 = .ok (.iload_n 1, 1) := by decide +kernel
theorem dX7_ofReading_106 : decode cX7_ofReading 106 = .ok (.iaload, 1) := by decide +kernel
theorem dX7_ofReading_107 : decode cX7_ofReading 107 = .ok (.invokevirtual 176, 3) := by decide +kernel
theorem dX7_ofReading_110 : decode cX7_ofReading 110 = .ok (.iload_n 2, 1) := by decide +kernel
theorem dX7_ofReading_111 : decode cX7_ofReading 111 = .ok (.iconst 5, 1) := by decide +kernel
theorem dX7_ofReading_112 : decode cX7_ofReading 112 = .ok (.if_icmp .ne 12, 3) := by decide +kernel
theorem dX7_ofReading_115 : decode cX7_ofReading 115 = .ok (.aload_n 0, 1) := by decide +kernel
theorem dX7_ofReading_116 : decode cX7_ofReading 116 = .ok (.getfield 79, 3) := by decide +kernel
theorem dX7_ofReading_119 : decode cX7_ofReading 119 = .ok (.iload_n 1, 1) := by decide +kernel
theorem dX7_ofReading_120 : decode cX7_ofReading 120 = .ok (.iaload, 1) := by decide +kernel
theorem dX7_ofReading_121 : decode cX7_ofReading 121 = .ok (.goto 17, 3) := by decide +kernel
theorem dX7_ofReading_124 : decode cX7_ofReading 124 = .ok (.aload_n 0, 1) := by decide +kernel
theorem dX7_ofReading_125 : decode cX7_ofReading 125 = .ok (.getfield 76, 3) := by decide +kernel
theorem dX7_ofReading_128 : decode cX7_ofReading 128 = .ok (.iload_n 1, 1) := by decide +kernel
theorem dX7_ofReading_129 : decode cX7_ofReading 129 = .ok (.baload, 1) := by decide +kernel
theorem dX7_ofReading_130 : decode cX7_ofReading 130 = .ok (.ifCond .eq 7, 3) := by decide +kernel
theorem dX7_ofReading_133 : decode cX7_ofReading 133 = .ok (.iconst 1, 1) := by decide +kernel
theorem dX7_ofReading_134 : decode cX7_ofReading 134 = .ok (.goto 4, 3) := by decide +kernel
theorem dX7_ofReading_137 : decode cX7_ofReading 137 = .ok (.iconst 0, 1) := by decide +kernel
theorem dX7_ofReading_138 : decode cX7_ofReading 138 = .ok (.ireturn, 1) := by decide +kernel
theorem dX7_due_0 : decode cX7_due 0 = .ok (.aload_n 0, 1) := by decide +kernel
theorem dX7_due_1 : decode cX7_due 1 = .ok (.iload_n 1, 1) := by decide +kernel
theorem dX7_due_2 : decode cX7_due 2 = .ok (.invokestatic 132, 3) := by decide +kernel
theorem dX7_due_5 : decode cX7_due 5 = .ok (.ifCond .eq 7, 3) := by decide +kernel
theorem dX7_due_8 : decode cX7_due 8 = .ok (.iconst 0, 1) := by decide +kernel
theorem dX7_due_9 : decode cX7_due 9 = .ok (.goto 4, 3) := by decide +kernel
theorem dX7_due_12 : decode cX7_due 12 = .ok (.iconst 1, 1) := by decide +kernel
theorem dX7_due_13 : decode cX7_due 13 = .ok (.putfield 103, 3) := by decide +kernel
theorem dX7_due_16 : decode cX7_due 16 = .ok (.aload_n 0, 1) := by decide +kernel
theorem dX7_due_17 : decode cX7_due 17 = .ok (.getfield 103, 3) := by decide +kernel
theorem dX7_due_20 : decode cX7_due 20 = .ok (.ifCond .le 7, 3) := by decide +kernel
theorem dX7_due_23 : decode cX7_due 23 = .ok (.lconst 0, 1) := by decide +kernel
theorem dX7_due_24 : decode cX7_due 24 = .ok (.goto 8, 3) := by decide +kernel
theorem dX7_due_27 : decode cX7_due 27 = .ok (.aload_n 0, 1) := by decide +kernel
theorem dX7_due_28 : decode cX7_due 28 = .ok (.iload_n 1, 1) := by decide +kernel
theorem dX7_due_29 : decode cX7_due 29 = .ok (.invokevirtual 182, 3) := by decide +kernel
theorem dX7_due_32 : decode cX7_due 32 = .ok (.lreturn, 1) := by decide +kernel
theorem dX7_billed_0 : decode cX7_billed 0 = .ok (.aload_n 0, 1) := by decide +kernel
theorem dX7_billed_1 : decode cX7_billed 1 = .ok (.iload_n 1, 1) := by decide +kernel
theorem dX7_billed_2 : decode cX7_billed 2 = .ok (.invokestatic 132, 3) := by decide +kernel
theorem dX7_billed_5 : decode cX7_billed 5 = .ok (.ifCond .eq 7, 3) := by decide +kernel
theorem dX7_billed_8 : decode cX7_billed 8 = .ok (.iconst 0, 1) := by decide +kernel
theorem dX7_billed_9 : decode cX7_billed 9 = .ok (.goto 4, 3) := by decide +kernel
theorem dX7_billed_12 : decode cX7_billed 12 = .ok (.iconst 1, 1) := by decide +kernel
theorem dX7_billed_13 : decode cX7_billed 13 = .ok (.putfield 103, 3) := by decide +kernel
theorem dX7_billed_16 : decode cX7_billed 16 = .ok (.aload_n 0, 1) := by decide +kernel
theorem dX7_billed_17 : decode cX7_billed 17 = .ok (.getfield 103, 3) := by decide +kernel
theorem dX7_billed_20 : decode cX7_billed 20 = .ok (.ifCond .le 7, 3) := by decide +kernel
theorem dX7_billed_23 : decode cX7_billed 23 = .ok (.lconst 0, 1) := by decide +kernel
theorem dX7_billed_24 : decode cX7_billed 24 = .ok (.goto 9, 3) := by decide +kernel
theorem dX7_billed_27 : decode cX7_billed 27 = .ok (.aload_n 0, 1) := by decide +kernel
theorem dX7_billed_28 : decode cX7_billed 28 = .ok (.getfield 41, 3) := by decide +kernel
theorem dX7_billed_31 : decode cX7_billed 31 = .ok (.iload_n 1, 1) := by decide +kernel
theorem dX7_billed_32 : decode cX7_billed 32 = .ok (.laload, 1) := by decide +kernel
theorem dX7_billed_33 : decode cX7_billed 33 = .ok (.lreturn, 1) := by decide +kernel
theorem dX7_wallet_0 : decode cX7_wallet 0 = .ok (.aload_n 0, 1) := by decide +kernel
theorem dX7_wallet_1 : decode cX7_wallet 1 = .ok (.iload_n 1, 1) := by decide +kernel
theorem dX7_wallet_2 : decode cX7_wallet 2 = .ok (.invokestatic 135, 3) := by decide +kernel
theorem dX7_wallet_5 : decode cX7_wallet 5 = .ok (.ifCond .eq 7, 3) := by decide +kernel
theorem dX7_wallet_8 : decode cX7_wallet 8 = .ok (.iconst 0, 1) := by decide +kernel
theorem dX7_wallet_9 : decode cX7_wallet 9 = .ok (.goto 4, 3) := by decide +kernel
theorem dX7_wallet_12 : decode cX7_wallet 12 = .ok (.iconst 1, 1) := by decide +kernel
theorem dX7_wallet_13 : decode cX7_wallet 13 = .ok (.putfield 103, 3) := by decide +kernel
theorem dX7_wallet_16 : decode cX7_wallet 16 = .ok (.aload_n 0, 1) := by decide +kernel
theorem dX7_wallet_17 : decode cX7_wallet 17 = .ok (.getfield 103, 3) := by decide +kernel
theorem dX7_wallet_20 : decode cX7_wallet 20 = .ok (.ifCond .le 7, 3) := by decide +kernel
theorem dX7_wallet_23 : decode cX7_wallet 23 = .ok (.lconst 0, 1) := by decide +kernel
theorem dX7_wallet_24 : decode cX7_wallet 24 = .ok (.goto 9, 3) := by decide +kernel
theorem dX7_wallet_27 : decode cX7_wallet 27 = .ok (.aload_n 0, 1) := by decide +kernel
theorem dX7_wallet_28 : decode cX7_wallet 28 = .ok (.getfield 48, 3) := by decide +kernel
theorem dX7_wallet_31 : decode cX7_wallet 31 = .ok (.iload_n 1, 1) := by decide +kernel
theorem dX7_wallet_32 : decode cX7_wallet 32 = .ok (.laload, 1) := by decide +kernel
theorem dX7_wallet_33 : decode cX7_wallet 33 = .ok (.lreturn, 1) := by decide +kernel
theorem dX7_own_0 : decode cX7_own 0 = .ok (.aload_n 0, 1) := by decide +kernel
theorem dX7_own_1 : decode cX7_own 1 = .ok (.iload_n 1, 1) := by decide +kernel
theorem dX7_own_2 : decode cX7_own 2 = .ok (.invokestatic 132, 3) := by decide +kernel
theorem dX7_own_5 : decode cX7_own 5 = .ok (.ifCond .eq 7, 3) := by decide +kernel
theorem dX7_own_8 : decode cX7_own 8 = .ok (.iconst 0, 1) := by decide +kernel
theorem dX7_own_9 : decode cX7_own 9 = .ok (.goto 4, 3) := by decide +kernel
theorem dX7_own_12 : decode cX7_own 12 = .ok (.iconst 1, 1) := by decide +kernel
theorem dX7_own_13 : decode cX7_own 13 = .ok (.putfield 103, 3) := by decide +kernel
theorem dX7_own_16 : decode cX7_own 16 = .ok (.aload_n 0, 1) := by decide +kernel
theorem dX7_own_17 : decode cX7_own 17 = .ok (.getfield 103, 3) := by decide +kernel
theorem dX7_own_20 : decode cX7_own 20 = .ok (.ifCond .le 7, 3) := by decide +kernel
theorem dX7_own_23 : decode cX7_own 23 = .ok (.lconst 0, 1) := by decide +kernel
theorem dX7_own_24 : decode cX7_own 24 = .ok (.goto 9, 3) := by decide +kernel
theorem dX7_own_27 : decode cX7_own 27 = .ok (.aload_n 0, 1) := by decide +kernel
theorem dX7_own_28 : decode cX7_own 28 = .ok (.getfield 45, 3) := by decide +kernel
theorem dX7_own_31 : decode cX7_own 31 = .ok (.iload_n 1, 1) := by decide +kernel
theorem dX7_own_32 : decode cX7_own 32 = .ok (.laload, 1) := by decide +kernel
theorem dX7_own_33 : decode cX7_own 33 = .ok (.lreturn, 1) := by decide +kernel
theorem dX7_share_0 : decode cX7_share 0 = .ok (.aload_n 0, 1) := by decide +kernel
theorem dX7_share_1 : decode cX7_share 1 = .ok (.iload_n 1, 1) := by decide +kernel
theorem dX7_share_2 : decode cX7_share 2 = .ok (.iconst 0, 1) := by decide +kernel
theorem dX7_share_3 : decode cX7_share 3 = .ok (.iconst 3, 1) := by decide +kernel
theorem dX7_share_4 : decode cX7_share 4 = .ok (.invokestatic 109, 3) := by decide +kernel
theorem dX7_share_7 : decode cX7_share 7 = .ok (.ifCond .eq 7, 3) := by decide +kernel
theorem dX7_share_10 : decode cX7_share 10 = .ok (.iconst 0, 1) := by decide +kernel
theorem dX7_share_11 : decode cX7_share 11 = .ok (.goto 4, 3) := by decide +kernel
theorem dX7_share_14 : decode cX7_share 14 = .ok (.iconst 1, 1) := by decide +kernel
theorem dX7_share_15 : decode cX7_share 15 = .ok (.putfield 103, 3) := by decide +kernel
theorem dX7_share_18 : decode cX7_share 18 = .ok (.aload_n 0, 1) := by decide +kernel
theorem dX7_share_19 : decode cX7_share 19 = .ok (.getfield 103, 3) := by decide +kernel
theorem dX7_share_22 : decode cX7_share 22 = .ok (.ifCond .le 7, 3) := by decide +kernel
theorem dX7_share_25 : decode cX7_share 25 = .ok (.lconst 0, 1) := by decide +kernel
theorem dX7_share_26 : decode cX7_share 26 = .ok (.goto 21, 3) := by decide +kernel
theorem dX7_share_29 : decode cX7_share 29 = .ok (.iload_n 2, 1) := by decide +kernel
theorem dX7_share_30 : decode cX7_share 30 = .ok (.ifCond .eq 11, 3) := by decide +kernel
theorem dX7_share_33 : decode cX7_share 33 = .ok (.aload_n 0, 1) := by decide +kernel
theorem dX7_share_34 : decode cX7_share 34 = .ok (.iload_n 1, 1) := by decide +kernel
theorem dX7_share_35 : decode cX7_share 35 = .ok (.invokevirtual 186, 3) := by decide +kernel
theorem dX7_share_38 : decode cX7_share 38 = .ok (.goto 9, 3) := by decide +kernel
theorem dX7_share_41 : decode cX7_share 41 = .ok (.aload_n 0, 1) := by decide +kernel
theorem dX7_share_42 : decode cX7_share 42 = .ok (.getfield 51, 3) := by decide +kernel
theorem dX7_share_45 : decode cX7_share 45 = .ok (.iload_n 1, 1) := by decide +kernel
theorem dX7_share_46 : decode cX7_share 46 = .ok (.laload, 1) := by decide +kernel
theorem dX7_share_47 : decode cX7_share 47 = .ok (.lreturn, 1) := by decide +kernel
