theorem dX6_firstSetThatHelps_32 : decode cX6_firstSetThatHelps 32 = .ok (.iload_n 3, 1) := by decide +kernel
theorem dX6_firstSetThatHelps_33 : decode cX6_firstSetThatHelps 33 = .ok (.invokestatic 210, 3) := by decide +kernel
theorem dX6_firstSetThatHelps_36 : decode cX6_firstSetThatHelps 36 = .ok (.iload_n 2, 1) := by decide +kernel
theorem dX6_firstSetThatHelps_37 : decode cX6_firstSetThatHelps 37 = .ok (.if_icmp .ne 32, 3) := by decide +kernel
theorem dX6_firstSetThatHelps_40 : decode cX6_firstSetThatHelps 40 = .ok (.aload_n 0, 1) := by decide +kernel
theorem dX6_firstSetThatHelps_41 : decode cX6_firstSetThatHelps 41 = .ok (.iload 4, 2) := by decide +kernel
theorem dX6_firstSetThatHelps_43 : decode cX6_firstSetThatHelps 43 = .ok (.invokevirtual 228, 3) := by decide +kernel
theorem dX6_firstSetThatHelps_46 : decode cX6_firstSetThatHelps 46 = .ok (.ifCond .ne 23, 3) := by decide +kernel
theorem dX6_firstSetThatHelps_49 : decode cX6_firstSetThatHelps 49 = .ok (.aload_n 0, 1) := by decide +kernel
theorem dX6_firstSetThatHelps_50 : decode cX6_firstSetThatHelps 50 = .ok (.getfield 33, 3) := by decide +kernel
theorem dX6_firstSetThatHelps_53 : decode cX6_firstSetThatHelps 53 = .ok (.aload_n 0, 1) := by decide +kernel
theorem dX6_firstSetThatHelps_54 : decode cX6_firstSetThatHelps 54 = .ok (.getfield 16, 3) := by decide +kernel
theorem dX6_firstSetThatHelps_57 : decode cX6_firstSetThatHelps 57 = .ok (.iload 4, 2) := by decide +kernel
theorem dX6_firstSetThatHelps_59 : decode cX6_firstSetThatHelps 59 = .ok (.invokevirtual 91, 3) := by decide +kernel
theorem dX6_firstSetThatHelps_62 : decode cX6_firstSetThatHelps 62 = .ok (.bipush (-4), 2) := by decide +kernel
theorem dX6_firstSetThatHelps_64 : decode cX6_firstSetThatHelps 64 = .ok (.if_icmp .ne 5, 3) := by decide +kernel
theorem dX6_firstSetThatHelps_67 : decode cX6_firstSetThatHelps 67 = .ok (.iload_n 3, 1) := by decide +kernel
theorem dX6_firstSetThatHelps_68 : decode cX6_firstSetThatHelps 68 = .ok (.ireturn, 1) := by decide +kernel
theorem dX6_firstSetThatHelps_69 : decode cX6_firstSetThatHelps 69 = .ok (.iinc 3 1, 3) := by decide +kernel
theorem dX6_firstSetThatHelps_72 : decode cX6_firstSetThatHelps 72 = .ok (.goto (-52), 3) := by decide +kernel
theorem dX6_firstSetThatHelps_75 : decode cX6_firstSetThatHelps 75 = .ok (.iinc 2 1, 3) := by decide +kernel
theorem dX6_firstSetThatHelps_78 : decode cX6_firstSetThatHelps 78 = .ok (.goto (-71), 3) := by decide +kernel
theorem dX6_firstSetThatHelps_81 : decode cX6_firstSetThatHelps 81 = .ok (.iload_n 1, 1) := by decide +kernel
theorem dX6_firstSetThatHelps_82 : decode cX6_firstSetThatHelps 82 = .ok (.ireturn, 1) := by decide +kernel
theorem dX6_holdsClash_0 : decode cX6_holdsClash 0 = .ok (.iconst 0, 1) := by decide +kernel
theorem dX6_holdsClash_1 : decode cX6_holdsClash 1 = .ok (.istore_n 2, 1) := by decide +kernel
theorem dX6_holdsClash_2 : decode cX6_holdsClash 2 = .ok (.iload_n 2, 1) := by decide +kernel
theorem dX6_holdsClash_3 : decode cX6_holdsClash 3 = .ok (.aload_n 0, 1) := by decide +kernel
theorem dX6_holdsClash_4 : decode cX6_holdsClash 4 = .ok (.getfield 16, 3) := by decide +kernel
theorem dX6_holdsClash_7 : decode cX6_holdsClash 7 = .ok (.getfield 72, 3) := by decide +kernel
theorem dX6_holdsClash_10 : decode cX6_holdsClash 10 = .ok (.if_icmp .ge 30, 3) := by decide +kernel
theorem dX6_holdsClash_13 : decode cX6_holdsClash 13 = .ok (.iload_n 1, 1) := by decide +kernel
theorem dX6_holdsClash_14 : decode cX6_holdsClash 14 = .ok (.iload_n 2, 1) := by decide +kernel
theorem dX6_holdsClash_15 : decode cX6_holdsClash 15 = .ok (.ishr, 1) := by decide +kernel
theorem dX6_holdsClash_16 : decode cX6_holdsClash 16 = .ok (.iconst 1, 1) := by decide +kernel
theorem dX6_holdsClash_17 : decode cX6_holdsClash 17 = .ok (.iand, 1) := by decide +kernel
theorem dX6_holdsClash_18 : decode cX6_holdsClash 18 = .ok (.ifCond .eq 16, 3) := by decide +kernel
theorem dX6_holdsClash_21 : decode cX6_holdsClash 21 = .ok (.aload_n 0, 1) := by decide +kernel
theorem dX6_holdsClash_22 : decode cX6_holdsClash 22 = .ok (.getfield 27, 3) := by decide +kernel
theorem dX6_holdsClash_25 : decode cX6_holdsClash 25 = .ok (.iload_n 2, 1) := by decide +kernel
theorem dX6_holdsClash_26 : decode cX6_holdsClash 26 = .ok (.iaload, 1) := by decide +kernel
theorem dX6_holdsClash_27 : decode cX6_holdsClash 27 = .ok (.iload_n 1, 1) := by decide +kernel
theorem dX6_holdsClash_28 : decode cX6_holdsClash 28 = .ok (.iand, 1) := by decide +kernel
theorem dX6_holdsClash_29 : decode cX6_holdsClash 29 = .ok (.ifCond .eq 5, 3) := by decide +kernel
theorem dX6_holdsClash_32 : decode cX6_holdsClash 32 = .ok (.iconst 1, 1) := by decide +kernel
theorem dX6_holdsClash_33 : decode cX6_holdsClash 33 = .ok (.ireturn, 1) := by decide +kernel
theorem dX6_holdsClash_34 : decode cX6_holdsClash 34 = .ok (.iinc 2 1, 3) := by decide +kernel
theorem dX6_holdsClash_37 : decode cX6_holdsClash 37 = .ok (.goto (-35), 3) := by decide +kernel
theorem dX6_holdsClash_40 : decode cX6_holdsClash 40 = .ok (.iconst 0, 1) := by decide +kernel
theorem dX6_holdsClash_41 : decode cX6_holdsClash 41 = .ok (.ireturn, 1) := by decide +kernel
theorem dX7_init_0 : decode cX7_init 0 = .ok (.aload_n 0, 1) := by decide +kernel
theorem dX7_init_1 : decode cX7_init 1 = .ok (.invokespecial 1, 3) := by decide +kernel
theorem dX7_init_4 : decode cX7_init 4 = .ok (.aload_n 0, 1) := by decide +kernel
theorem dX7_init_5 : decode cX7_init 5 = .ok (.sipush 300, 3) := by decide +kernel
theorem dX7_init_8 : decode cX7_init 8 = .ok (.newarray .int, 2) := by decide +kernel
theorem dX7_init_10 : decode cX7_init 10 = .ok (.putfield 7, 3) := by decide +kernel
theorem dX7_init_13 : decode cX7_init 13 = .ok (.aload_n 0, 1) := by decide +kernel
theorem dX7_init_14 : decode cX7_init 14 = .ok (.iconst 3, 1) := by decide +kernel
theorem dX7_init_15 : decode cX7_init 15 = .ok (.newarray .int, 2) := by decide +kernel
theorem dX7_init_17 : decode cX7_init 17 = .ok (.putfield 13, 3) := by decide +kernel
theorem dX7_init_20 : decode cX7_init 20 = .ok (.aload_n 0, 1) := by decide +kernel
theorem dX7_init_21 : decode cX7_init 21 = .ok (.sipush 900, 3) := by decide +kernel
theorem dX7_init_24 : decode cX7_init 24 = .ok (.newarray .int, 2) := by decide +kernel
theorem dX7_init_26 : decode cX7_init 26 = .ok (.putfield 16, 3) := by decide +kernel
theorem dX7_init_29 : decode cX7_init 29 = .ok (.aload_n 0, 1) := by decide +kernel
theorem dX7_init_30 : decode cX7_init 30 = .ok (.iconst 3, 1) := by decide +kernel
theorem dX7_init_31 : decode cX7_init 31 = .ok (.newarray .int, 2) := by decide +kernel
theorem dX7_init_33 : decode cX7_init 33 = .ok (.putfield 19, 3) := by decide +kernel
theorem dX7_init_36 : decode cX7_init 36 = .ok (.aload_n 0, 1) := by decide +kernel
theorem dX7_init_37 : decode cX7_init 37 = .ok (.sipush 2000, 3) := by decide +kernel
theorem dX7_init_40 : decode cX7_init 40 = .ok (.newarray .int, 2) := by decide +kernel
theorem dX7_init_42 : decode cX7_init 42 = .ok (.putfield 22, 3) := by decide +kernel
theorem dX7_init_45 : decode cX7_init 45 = .ok (.aload_n 0, 1) := by decide +kernel
theorem dX7_init_46 : decode cX7_init 46 = .ok (.sipush 2000, 3) := by decide +kernel
theorem dX7_init_49 : decode cX7_init 49 = .ok (.newarray .int, 2) := by decide +kernel
theorem dX7_init_51 : decode cX7_init 51 = .ok (.putfield 25, 3) := by decide +kernel
theorem dX7_init_54 : decode cX7_init 54 = .ok (.aload_n 0, 1) := by decide +kernel
theorem dX7_init_55 : decode cX7_init 55 = .ok (.sipush 2000, 3) := by decide +kernel
theorem dX7_init_58 : decode cX7_init 58 = .ok (.newarray .int, 2) := by decide +kernel
theorem dX7_init_60 : decode cX7_init 60 = .ok (.putfield 28, 3) := by decide +kernel
theorem dX7_init_63 : decode cX7_init 63 = .ok (.aload_n 0, 1) := by decide +kernel
theorem dX7_init_64 : decode cX7_init 64 = .ok (.sipush 2000, 3) := by decide +kernel
theorem dX7_init_67 : decode cX7_init 67 = .ok (.newarray .int, 2) := by decide +kernel
theorem dX7_init_69 : decode cX7_init 69 = .ok (.putfield 31, 3) := by decide +kernel
theorem dX7_init_72 : decode cX7_init 72 = .ok (.aload_n 0, 1) := by decide +kernel
theorem dX7_init_73 : decode cX7_init 73 = .ok (.sipush 16000, 3) := by decide +kernel
theorem dX7_init_76 : decode cX7_init 76 = .ok (.newarray .int, 2) := by decide +kernel
theorem dX7_init_78 : decode cX7_init 78 = .ok (.putfield 34, 3) := by decide +kernel
theorem dX7_init_81 : decode cX7_init 81 = .ok (.aload_n 0, 1) := by decide +kernel
theorem dX7_init_82 : decode cX7_init 82 = .ok (.sipush 930, 3) := by decide +kernel
theorem dX7_init_85 : decode cX7_init 85 = .ok (.newarray .int, 2) := by decide +kernel
theorem dX7_init_87 : decode cX7_init 87 = .ok (.putfield 37, 3) := by decide +kernel
theorem dX7_init_90 : decode cX7_init 90 = .ok (.aload_n 0, 1) := by decide +kernel
theorem dX7_init_91 : decode cX7_init 91 = .ok (.sipush 600, 3) := by decide +kernel
theorem dX7_init_94 : decode cX7_init 94 = .ok (.newarray .int, 2) := by decide +kernel
theorem dX7_init_96 : decode cX7_init 96 = .ok (.putfield 40, 3) := by decide +kernel
theorem dX7_init_99 : decode cX7_init 99 = .ok (.aload_n 0, 1) := by decide +kernel
theorem dX7_init_100 : decode cX7_init 100 = .ok (.sipush 300, 3) := by decide +kernel
theorem dX7_init_103 : decode cX7_init 103 = .ok (.newarray .int, 2) := by decide +kernel
theorem dX7_init_105 : decode cX7_init 105 = .ok (.putfield 43, 3) := by decide +kernel
theorem dX7_init_108 : decode cX7_init 108 = .ok (.aload_n 0, 1) := by decide +kernel
theorem dX7_init_109 : decode cX7_init 109 = .ok (.sipush 300, 3) := by decide +kernel
theorem dX7_init_112 : decode cX7_init 112 = .ok (.newarray .int, 2) := by decide +kernel
theorem dX7_init_114 : decode cX7_init 114 = .ok (.putfield 46, 3) := by decide +kernel
theorem dX7_init_117 : decode cX7_init 117 = .ok (.aload_n 0, 1) := by decide +kernel
theorem dX7_init_118 : decode cX7_init 118 = .ok (.bipush 8, 2) := by decide +kernel
theorem dX7_init_120 : decode cX7_init 120 = .ok (.newarray .int, 2) := by decide +kernel
theorem dX7_init_122 : decode cX7_init 122 = .ok (.putfield 49, 3) := by decide +kernel
theorem dX7_init_125 : decode cX7_init 125 = .ok (.aload_n 0, 1) := by decide +kernel
theorem dX7_init_126 : decode cX7_init 126 = .ok (.sipush 2000, 3) := by decide +kernel
theorem dX7_init_129 : decode cX7_init 129 = .ok (.newarray .int, 2) := by decide +kernel
theorem dX7_init_131 : decode cX7_init 131 = .ok (.putfield 52, 3) := by decide +kernel
theorem dX7_init_134 : decode cX7_init 134 = .ok (.aload_n 0, 1) := by decide +kernel
theorem dX7_init_135 : decode cX7_init 135 = .ok (.sipush 200, 3) := by decide +kernel
theorem dX7_init_138 : decode cX7_init 138 = .ok (.newarray .int, 2) := by decide +kernel
theorem dX7_init_140 : decode cX7_init 140 = .ok (.putfield 55, 3) := by decide +kernel
theorem dX7_init_143 : decode cX7_init 143 = .ok (.aload_n 0, 1) := by decide +kernel
theorem dX7_init_144 : decode cX7_init 144 = .ok (.sipush 200, 3) := by decide +kernel
theorem dX7_init_147 : decode cX7_init 147 = .ok (.newarray .int, 2) := by decide +kernel
theorem dX7_init_149 : decode cX7_init 149 = .ok (.putfield 58, 3) := by decide +kernel
theorem dX7_init_152 : decode cX7_init 152 = .ok (.aload_n 0, 1) := by decide +kernel
theorem dX7_init_153 : decode cX7_init 153 = .ok (.sipush 200, 3) := by decide +kernel
theorem dX7_init_156 : decode cX7_init 156 = .ok (.newarray .int, 2) := by decide +kernel
theorem dX7_init_158 : decode cX7_init 158 = .ok (.putfield 61, 3) := by decide +kernel
theorem dX7_init_161 : decode cX7_init 161 = .ok (.aload_n 0, 1) := by decide +kernel
theorem dX7_init_162 : decode cX7_init 162 = .ok (.sipush 200, 3) := by decide +kernel
theorem dX7_init_165 : decode cX7_init 165 = .ok (.newarray .int, 2) := by decide +kernel
theorem dX7_init_167 : decode cX7_init 167 = .ok (.putfield 64, 3) := by decide +kernel
theorem dX7_init_170 : decode cX7_init 170 = .ok (.aload_n 0, 1) := by decide +kernel
theorem dX7_init_171 : decode cX7_init 171 = .ok (.bipush 8, 2) := by decide +kernel
theorem dX7_init_173 : decode cX7_init 173 = .ok (.newarray .int, 2) := by decide +kernel
theorem dX7_init_175 : decode cX7_init 175 = .ok (.putfield 67, 3) := by decide +kernel
theorem dX7_init_178 : decode cX7_init 178 = .ok (.aload_n 0, 1) := by decide +kernel
theorem dX7_init_179 : decode cX7_init 179 = .ok (.sipush 600, 3) := by decide +kernel
theorem dX7_init_182 : decode cX7_init 182 = .ok (.newarray .int, 2) := by decide +kernel
theorem dX7_init_184 : decode cX7_init 184 = .ok (.putfield 70, 3) := by decide +kernel
theorem dX7_init_187 : decode cX7_init 187 = .ok (.aload_n 0, 1) := by decide +kernel
theorem dX7_init_188 : decode cX7_init 188 = .ok (.sipush 300, 3) := by decide +kernel
theorem dX7_init_191 : decode cX7_init 191 = .ok (.newarray .int, 2) := by decide +kernel
theorem dX7_init_193 : decode cX7_init 193 = .ok (.putfield 73, 3) := by decide +kernel
theorem dX7_init_196 : decode cX7_init 196 = .ok (.aload_n 0, 1) := by decide +kernel
theorem dX7_init_197 : decode cX7_init 197 = .ok (.sipush 300, 3) := by decide +kernel
theorem dX7_init_200 : decode cX7_init 200 = .ok (.newarray .int, 2) := by decide +kernel
theorem dX7_init_202 : decode cX7_init 202 = .ok (.putfield 76, 3) := by decide +kernel
theorem dX7_init_205 : decode cX7_init 205 = .ok (.aload_n 0, 1) := by decide +kernel
theorem dX7_init_206 : decode cX7_init 206 = .ok (.sipush 2000, 3) := by decide +kernel
theorem dX7_init_209 : decode cX7_init 209 = .ok (.newarray .int, 2) := by decide +kernel
theorem dX7_init_211 : decode cX7_init 211 = .ok (.putfield 79, 3) := by decide +kernel
theorem dX7_init_214 : decode cX7_init 214 = .ok (.aload_n 0, 1) := by decide +kernel
theorem dX7_init_215 : decode cX7_init 215 = .ok (.sipush 2000, 3) := by decide +kernel
theorem dX7_init_218 : decode cX7_init 218 = .ok (.newarray .int, 2) := by decide +kernel
theorem dX7_init_220 : decode cX7_init 220 = .ok (.putfield 82, 3) := by decide +kernel
theorem dX7_init_223 : decode cX7_init 223 = .ok (.aload_n 0, 1) := by decide +kernel
theorem dX7_init_224 : decode cX7_init 224 = .ok (.bipush 20, 2) := by decide +kernel
theorem dX7_init_226 : decode cX7_init 226 = .ok (.newarray .int, 2) := by decide +kernel
theorem dX7_init_228 : decode cX7_init 228 = .ok (.putfield 85, 3) := by decide +kernel
theorem dX7_init_231 : decode cX7_init 231 = .ok (.aload_n 0, 1) := by decide +kernel
theorem dX7_init_232 : decode cX7_init 232 = .ok (.sipush 200, 3) := by decide +kernel
theorem dX7_init_235 : decode cX7_init 235 = .ok (.newarray .boolean, 2) := by decide +kernel
theorem dX7_init_237 : decode cX7_init 237 = .ok (.putfield 88, 3) := by decide +kernel
theorem dX7_init_240 : decode cX7_init 240 = .ok (.aload_n 0, 1) := by decide +kernel
theorem dX7_init_241 : decode cX7_init 241 = .ok (.bipush 96, 2) := by decide +kernel
theorem dX7_init_243 : decode cX7_init 243 = .ok (.newarray .int, 2) := by decide +kernel
theorem dX7_init_245 : decode cX7_init 245 = .ok (.putfield 92, 3) := by decide +kernel
theorem dX7_init_248 : decode cX7_init 248 = .ok (.aload_n 0, 1) := by decide +kernel
theorem dX7_init_249 : decode cX7_init 249 = .ok (.bipush 96, 2) := by decide +kernel
theorem dX7_init_251 : decode cX7_init 251 = .ok (.newarray .int, 2) := by decide +kernel
theorem dX7_init_253 : decode cX7_init 253 = .ok (.putfield 95, 3) := by decide +kernel
theorem dX7_init_256 : decode cX7_init 256 = .ok (.aload_n 0, 1) := by decide +kernel
theorem dX7_init_257 : decode cX7_init 257 = .ok (.bipush 96, 2) := by decide +kernel
theorem dX7_init_259 : decode cX7_init 259 = .ok (.newarray .int, 2) := by decide +kernel
theorem dX7_init_261 : decode cX7_init 261 = .ok (.putfield 98, 3) := by decide +kernel
theorem dX7_init_264 : decode cX7_init 264 = .ok (.aload_n 0, 1) := by decide +kernel
theorem dX7_init_265 : decode cX7_init 265 = .ok (.bipush 96, 2) := by decide +kernel
theorem dX7_init_267 : decode cX7_init 267 = .ok (.newarray .int, 2) := by decide +kernel
theorem dX7_init_269 : decode cX7_init 269 = .ok (.putfield 101, 3) := by decide +kernel
theorem dX7_init_272 : decode cX7_init 272 = .ok (.aload_n 0, 1) := by decide +kernel
theorem dX7_init_273 : decode cX7_init 273 = .ok (.iconst 4, 1) := by decide +kernel
theorem dX7_init_274 : decode cX7_init 274 = .ok (.newarray .int, 2) := by decide +kernel
theorem dX7_init_276 : decode cX7_init 276 = .ok (.putfield 104, 3) := by decide +kernel
theorem dX7_init_279 : decode cX7_init 279 = .ok (.aload_n 0, 1) := by decide +kernel
theorem dX7_init_280 : decode cX7_init 280 = .ok (.sipush 200, 3) := by decide +kernel
theorem dX7_init_283 : decode cX7_init 283 = .ok (.newarray .int, 2) := by decide +kernel
theorem dX7_init_285 : decode cX7_init 285 = .ok (.putfield 107, 3) := by decide +kernel
theorem dX7_init_288 : decode cX7_init 288 = .ok (.aload_n 0, 1) := by decide +kernel
theorem dX7_init_289 : decode cX7_init 289 = .ok (.sipush 200, 3) := by decide +kernel
theorem dX7_init_292 : decode cX7_init 292 = .ok (.newarray .int, 2) := by decide +kernel
theorem dX7_init_294 : decode cX7_init 294 = .ok (.putfield 110, 3) := by decide +kernel
theorem dX7_init_297 : decode cX7_init 297 = .ok (.aload_n 0, 1) := by decide +kernel
theorem dX7_init_298 : decode cX7_init 298 = .ok (.sipush 200, 3) := by decide +kernel
theorem dX7_init_301 : decode cX7_init 301 = .ok (.newarray .int, 2) := by decide +kernel
theorem dX7_init_303 : decode cX7_init 303 = .ok (.putfield 113, 3) := by decide +kernel
theorem dX7_init_306 : decode cX7_init 306 = .ok (.return_, 1) := by decide +kernel
theorem dX7_in_0 : decode cX7_in 0 = .ok (.lload_n 0, 1) := by decide +kernel
theorem dX7_in_1 : decode cX7_in 1 = .ok (.lload_n 2, 1) := by decide +kernel
theorem dX7_in_2 : decode cX7_in 2 = .ok (.lcmp, 1) := by decide +kernel
theorem dX7_in_3 : decode cX7_in 3 = .ok (.ifCond .lt 14, 3) := by decide +kernel
theorem dX7_in_6 : decode cX7_in 6 = .ok (.lload_n 0, 1) := by decide +kernel
theorem dX7_in_7 : decode cX7_in 7 = .ok (.lload 4, 2) := by decide +kernel
theorem dX7_in_9 : decode cX7_in 9 = .ok (.lcmp, 1) := by decide +kernel
theorem dX7_in_10 : decode cX7_in 10 = .ok (.ifCond .gt 7, 3) := by decide +kernel
theorem dX7_in_13 : decode cX7_in 13 = .ok (.iconst 1, 1) := by decide +kernel
theorem dX7_in_14 : decode cX7_in 14 = .ok (.goto 4, 3) := by decide +kernel
theorem dX7_in_17 : decode cX7_in 17 = .ok (.iconst 0, 1) := by decide +kernel
theorem dX7_in_18 : decode cX7_in 18 = .ok (.ireturn, 1) := by decide +kernel
theorem dX7_bits_0 : decode cX7_bits 0 = .ok (.iconst 0, 1) := by decide +kernel
theorem dX7_bits_1 : decode cX7_bits 1 = .ok (.istore_n 1, 1) := by decide +kernel
theorem dX7_bits_2 : decode cX7_bits 2 = .ok (.iload_n 0, 1) := by decide +kernel
theorem dX7_bits_3 : decode cX7_bits 3 = .ok (.istore_n 2, 1) := by decide +kernel
theorem dX7_bits_4 : decode cX7_bits 4 = .ok (.iload_n 2, 1) := by decide +kernel
theorem dX7_bits_5 : decode cX7_bits 5 = .ok (.ifCond .eq 15, 3) := by decide +kernel
theorem dX7_bits_8 : decode cX7_bits 8 = .ok (.iinc 1 1, 3) := by decide +kernel
theorem dX7_bits_11 : decode cX7_bits 11 = .ok (.iload_n 2, 1) := by decide +kernel
theorem dX7_bits_12 : decode cX7_bits 12 = .ok (.iload_n 2, 1) := by decide +kernel
theorem dX7_bits_13 : decode cX7_bits 13 = .ok (.iconst 1, 1) := by decide +kernel
theorem dX7_bits_14 : decode cX7_bits 14 = .ok (.isub, 1) := by decide +kernel
theorem dX7_bits_15 : decode cX7_bits 15 = .ok (.iand, 1) := by decide +kernel
theorem dX7_bits_16 : decode cX7_bits 16 = .ok (.istore_n 2, 1) := by decide +kernel
theorem dX7_bits_17 : decode cX7_bits 17 = .ok (.goto (-13), 3) := by decide +kernel
theorem dX7_bits_20 : decode cX7_bits 20 = .ok (.iload_n 1, 1) := by decide +kernel
theorem dX7_bits_21 : decode cX7_bits 21 = .ok (.ireturn, 1) := by decide +kernel
theorem dX7_has_0 : decode cX7_has 0 = .ok (.iload_n 0, 1) := by decide +kernel
theorem dX7_has_1 : decode cX7_has 1 = .ok (.iload_n 1, 1) := by decide +kernel
theorem dX7_has_2 : decode cX7_has 2 = .ok (.ishr, 1) := by decide +kernel
theorem dX7_has_3 : decode cX7_has 3 = .ok (.iconst 1, 1) := by decide +kernel
theorem dX7_has_4 : decode cX7_has 4 = .ok (.iand, 1) := by decide +kernel
theorem dX7_has_5 : decode cX7_has 5 = .ok (.iconst 1, 1) := by decide +kernel
theorem dX7_has_6 : decode cX7_has 6 = .ok (.if_icmp .ne 7, 3) := by decide +kernel
theorem dX7_has_9 : decode cX7_has 9 = .ok (.iconst 1, 1) := by decide +kernel
theorem dX7_has_10 : decode cX7_has 10 = .ok (.goto 4, 3) := by decide +kernel
theorem dX7_has_13 : decode cX7_has 13 = .ok (.iconst 0, 1) := by decide +kernel
theorem dX7_has_14 : decode cX7_has 14 = .ok (.ireturn, 1) := by decide +kernel
theorem dX7_write_0 : decode cX7_write 0 = .ok (.iload_n 1, 1) := by decide +kernel
theorem dX7_write_1 : decode cX7_write 1 = .ok (.i2l, 1) := by decide +kernel
theorem dX7_write_2 : decode cX7_write 2 = .ok (.lconst 1, 1) := by decide +kernel
theorem dX7_write_3 : decode cX7_write 3 = .ok (.ldc2_w 116, 3) := by decide +kernel
theorem dX7_write_6 : decode cX7_write 6 = .ok (.invokestatic 118, 3) := by decide +kernel
theorem dX7_write_9 : decode cX7_write 9 = .ok (.ifCond .ne 5, 3) := by decide +kernel
theorem dX7_write_12 : decode cX7_write 12 = .ok (.iconst (-1), 1) := by decide +kernel
theorem dX7_write_13 : decode cX7_write 13 = .ok (.ireturn, 1) := by decide +kernel
theorem dX7_write_14 : decode cX7_write 14 = .ok (.aload_n 0, 1) := by decide +kernel
theorem dX7_write_15 : decode cX7_write 15 = .ok (.getfield 122, 3) := by decide +kernel
theorem dX7_write_18 : decode cX7_write 18 = .ok (.iload_n 1, 1) := by decide +kernel
theorem dX7_write_19 : decode cX7_write 19 = .ok (.iadd, 1) := by decide +kernel
theorem dX7_write_20 : decode cX7_write 20 = .ok (.sipush 300, 3) := by decide +kernel
theorem dX7_write_23 : decode cX7_write 23 = .ok (.if_icmp .le 6, 3) := by decide +kernel
theorem dX7_write_26 : decode cX7_write 26 = .ok (.bipush (-3), 2) := by decide +kernel
theorem dX7_write_28 : decode cX7_write 28 = .ok (.ireturn, 1) := by decide +kernel
theorem dX7_write_29 : decode cX7_write 29 = .ok (.iload_n 1, 1) := by decide +kernel
theorem dX7_write_30 : decode cX7_write 30 = .ok (.iconst 1, 1) := by decide +kernel
theorem dX7_write_31 : decode cX7_write 31 = .ok (.isub, 1) := by decide +kernel
theorem dX7_write_32 : decode cX7_write 32 = .ok (.istore 4, 2) := by decide +kernel
theorem dX7_write_34 : decode cX7_write 34 = .ok (.iload 4, 2) := by decide +kernel
theorem dX7_write_36 : decode cX7_write 36 = .ok (.ifCond .lt 40, 3) := by decide +kernel
theorem dX7_write_39 : decode cX7_write 39 = .ok (.aload_n 0, 1) := by decide +kernel
theorem dX7_write_40 : decode cX7_write 40 = .ok (.getfield 7, 3) := by decide +kernel
theorem dX7_write_43 : decode cX7_write 43 = .ok (.aload_n 0, 1) := by decide +kernel
theorem dX7_write_44 : decode cX7_write 44 = .ok (.getfield 122, 3) := by decide +kernel
theorem dX7_write_47 : decode cX7_write 47 = .ok (.lload_n 2, 1) := by decide +kernel
theorem dX7_write_48 : decode cX7_write 48 = .ok (.bipush 8, 2) := by decide +kernel
theorem dX7_write_50 : decode cX7_write 50 = .ok (.iload 4, 2) := by decide +kernel
theorem dX7_write_52 : decode cX7_write 52 = .ok (.imul, 1) := by decide +kernel
theorem dX7_write_53 : decode cX7_write 53 = .ok (.lshr, 1) := by decide +kernel
theorem dX7_write_54 : decode cX7_write 54 = .ok (.ldc2_w 126, 3) := by decide +kernel
theorem dX7_write_57 : decode cX7_write 57 = .ok (.land, 1) := by decide +kernel
theorem dX7_write_58 : decode cX7_write 58 = .ok (.l2i, 1) := by decide +kernel
theorem dX7_write_59 : decode cX7_write 59 = .ok (.iastore, 1) := by decide +kernel
theorem dX7_write_60 : decode cX7_write 60 = .ok (.aload_n 0, 1) := by decide +kernel
theorem dX7_write_61 : decode cX7_write 61 = .ok (.dup, 1) := by decide +kernel
theorem dX7_write_62 : decode cX7_write 62 = .ok (.getfield 122, 3) := by decide +kernel
theorem dX7_write_65 : decode cX7_write 65 = .ok (.iconst 1, 1) := by decide +kernel
theorem dX7_write_66 : decode cX7_write 66 = .ok (.iadd, 1) := by decide +kernel
theorem dX7_write_67 : decode cX7_write 67 = .ok (.putfield 122, 3) := by decide +kernel
theorem dX7_write_70 : decode cX7_write 70 = .ok (.iinc 4 (-1), 3) := by decide +kernel
theorem dX7_write_73 : decode cX7_write 73 = .ok (.goto (-39), 3) := by decide +kernel
theorem dX7_write_76 : decode cX7_write 76 = .ok (.aload_n 0, 1) := by decide +kernel
theorem dX7_write_77 : decode cX7_write 77 = .ok (.getfield 122, 3) := by decide +kernel
theorem dX7_write_80 : decode cX7_write 80 = .ok (.ireturn, 1) := by decide +kernel
theorem dX7_wipe_0 : decode cX7_wipe 0 = .ok (.aload_n 0, 1) := by decide +kernel
theorem dX7_wipe_1 : decode cX7_wipe 1 = .ok (.getfield 122, 3) := by decide +kernel
theorem dX7_wipe_4 : decode cX7_wipe 4 = .ok (.istore_n 1, 1) := by decide +kernel
theorem dX7_wipe_5 : decode cX7_wipe 5 = .ok (.aload_n 0, 1) := by decide +kernel
theorem dX7_wipe_6 : decode cX7_wipe 6 = .ok (.iconst 0, 1) := by decide +kernel
theorem dX7_wipe_7 : decode cX7_wipe 7 = .ok (.putfield 122, 3) := by decide +kernel
theorem dX7_wipe_10 : decode cX7_wipe 10 = .ok (.iload_n 1, 1) := by decide +kernel
theorem dX7_wipe_11 : decode cX7_wipe 11 = .ok (.ireturn, 1) := by decide +kernel
theorem dX7_isThing_0 : decode cX7_isThing 0 = .ok (.iload_n 0, 1) := by decide +kernel
theorem dX7_isThing_1 : decode cX7_isThing 1 = .ok (.i2l, 1) := by decide +kernel
theorem dX7_isThing_2 : decode cX7_isThing 2 = .ok (.ldc2_w 128, 3) := by decide +kernel
theorem dX7_isThing_5 : decode cX7_isThing 5 = .ok (.ldc2_w 130, 3) := by decide +kernel
theorem dX7_isThing_8 : decode cX7_isThing 8 = .ok (.invokestatic 118, 3) := by decide +kernel
theorem dX7_isThing_11 : decode cX7_isThing 11 = .ok (.ireturn, 1) := by decide +kernel
theorem dX7_fault_0 : decode cX7_fault 0 = .ok (.iconst 0, 1) := by decide +kernel
theorem dX7_fault_1 : decode cX7_fault 1 = .ok (.istore_n 1, 1) := by decide +kernel
theorem dX7_fault_2 : decode cX7_fault 2 = .ok (.iconst 0, 1) := by decide +kernel
theorem dX7_fault_3 : decode cX7_fault 3 = .ok (.istore_n 2, 1) := by decide +kernel
theorem dX7_fault_4 : decode cX7_fault 4 = .ok (.iconst 0, 1) := by decide +kernel
theorem dX7_fault_5 : decode cX7_fault 5 = .ok (.istore_n 3, 1) := by decide +kernel
theorem dX7_fault_6 : decode cX7_fault 6 = .ok (.iconst 0, 1) := by decide +kernel
theorem dX7_fault_7 : decode cX7_fault 7 = .ok (.istore 4, 2) := by decide +kernel
theorem dX7_fault_9 : decode cX7_fault 9 = .ok (.iload 4, 2) := by decide +kernel
theorem dX7_fault_11 : decode cX7_fault 11 = .ok (.aload_n 0, 1) := by decide +kernel
theorem dX7_fault_12 : decode cX7_fault 12 = .ok (.getfield 122, 3) := by decide +kernel
theorem dX7_fault_15 : decode cX7_fault 15 = .ok (.if_icmp .ge 234, 3) := by decide +kernel
theorem dX7_fault_18 : decode cX7_fault 18 = .ok (.aload_n 0, 1) := by decide +kernel
theorem dX7_fault_19 : decode cX7_fault 19 = .ok (.getfield 7, 3) := by decide +kernel
theorem dX7_fault_22 : decode cX7_fault 22 = .ok (.iload 4, 2) := by decide +kernel
theorem dX7_fault_24 : decode cX7_fault 24 = .ok (.iaload, 1) := by decide +kernel
theorem dX7_fault_25 : decode cX7_fault 25 = .ok (.istore 5, 2) := by decide +kernel
theorem dX7_fault_27 : decode cX7_fault 27 = .ok (.iload_n 3, 1) := by decide +kernel
theorem dX7_fault_28 : decode cX7_fault 28 = .ok (.ifCond .ne 33, 3) := by decide +kernel
theorem dX7_fault_31 : decode cX7_fault 31 = .ok (.iload 5, 2) := by decide +kernel
theorem dX7_fault_33 : decode cX7_fault 33 = .ok (.invokestatic 132, 3) := by decide +kernel
theorem dX7_fault_36 : decode cX7_fault 36 = .ok (.ifCond .eq 9, 3) := by decide +kernel
theorem dX7_fault_39 : decode cX7_fault 39 = .ok (.iload_n 1, 1) := by decide +kernel
theorem dX7_fault_40 : decode cX7_fault 40 = .ok (.bipush 9, 2) := by decide +kernel
theorem dX7_fault_42 : decode cX7_fault 42 = .ok (.if_icmp .ne 6, 3) := by decide +kernel
theorem dX7_fault_45 : decode cX7_fault 45 = .ok (.iload 4, 2) := by decide +kernel
theorem dX7_fault_47 : decode cX7_fault 47 = .ok (.ireturn, 1) := by decide +kernel
theorem dX7_fault_48 : decode cX7_fault 48 = .ok (.iconst 1, 1) := by decide +kernel
theorem dX7_fault_49 : decode cX7_fault 49 = .ok (.istore_n 3, 1) := by decide +kernel
theorem dX7_fault_50 : decode cX7_fault 50 = .ok (.iinc 1 1, 3) := by decide +kernel
theorem dX7_fault_53 : decode cX7_fault 53 = .ok (.iconst 0, 1) := by decide +kernel
theorem dX7_fault_54 : decode cX7_fault 54 = .ok (.istore_n 2, 1) := by decide +kernel
theorem dX7_fault_55 : decode cX7_fault 55 = .ok (.iinc 4 1, 3) := by decide +kernel
theorem dX7_fault_58 : decode cX7_fault 58 = .ok (.goto 188, 3) := by decide +kernel
theorem dX7_fault_61 : decode cX7_fault 61 = .ok (.iload 5, 2) := by decide +kernel
theorem dX7_fault_63 : decode cX7_fault 63 = .ok (.bipush 59, 2) := by decide +kernel
theorem dX7_fault_65 : decode cX7_fault 65 = .ok (.if_icmp .ne 11, 3) := by decide +kernel
theorem dX7_fault_68 : decode cX7_fault 68 = .ok (.iconst 0, 1) := by decide +kernel
theorem dX7_fault_69 : decode cX7_fault 69 = .ok (.istore_n 3, 1) := by decide +kernel
theorem dX7_fault_70 : decode cX7_fault 70 = .ok (.iinc 4 1, 3) := by decide +kernel
theorem dX7_fault_73 : decode cX7_fault 73 = .ok (.goto 173, 3) := by decide +kernel
theorem dX7_fault_76 : decode cX7_fault 76 = .ok (.iload 5, 2) := by decide +kernel
theorem dX7_fault_78 : decode cX7_fault 78 = .ok (.i2l, 1) := by decide +kernel
theorem dX7_fault_79 : decode cX7_fault 79 = .ok (.ldc2_w 136, 3) := by decide +kernel
theorem dX7_fault_82 : decode cX7_fault 82 = .ok (.ldc2_w 138, 3) := by decide +kernel
theorem dX7_fault_85 : decode cX7_fault 85 = .ok (.invokestatic 118, 3) := by decide +kernel
theorem dX7_fault_88 : decode cX7_fault 88 = .ok (.ifCond .eq 12, 3) := by decide +kernel
theorem dX7_fault_91 : decode cX7_fault 91 = .ok (.iinc 2 1, 3) := by decide +kernel
theorem dX7_fault_94 : decode cX7_fault 94 = .ok (.iinc 4 1, 3) := by decide +kernel
theorem dX7_fault_97 : decode cX7_fault 97 = .ok (.goto 149, 3) := by decide +kernel
theorem dX7_fault_100 : decode cX7_fault 100 = .ok (.iload 5, 2) := by decide +kernel
theorem dX7_fault_102 : decode cX7_fault 102 = .ok (.invokestatic 132, 3) := by decide +kernel
theorem dX7_fault_105 : decode cX7_fault 105 = .ok (.ifCond .ne 24, 3) := by decide +kernel
theorem dX7_fault_108 : decode cX7_fault 108 = .ok (.iload 5, 2) := by decide +kernel
theorem dX7_fault_110 : decode cX7_fault 110 = .ok (.bipush 35, 2) := by decide +kernel
theorem dX7_fault_112 : decode cX7_fault 112 = .ok (.if_icmp .eq 17, 3) := by decide +kernel
theorem dX7_fault_115 : decode cX7_fault 115 = .ok (.iload 5, 2) := by decide +kernel
theorem dX7_fault_117 : decode cX7_fault 117 = .ok (.bipush 61, 2) := by decide +kernel
theorem dX7_fault_119 : decode cX7_fault 119 = .ok (.if_icmp .eq 10, 3) := by decide +kernel
theorem dX7_fault_122 : decode cX7_fault 122 = .ok (.iload 5, 2) := by decide +kernel
theorem dX7_fault_124 : decode cX7_fault 124 = .ok (.bipush 33, 2) := by decide +kernel
theorem dX7_fault_126 : decode cX7_fault 126 = .ok (.if_icmp .ne 7, 3) := by decide +kernel
theorem dX7_fault_129 : decode cX7_fault 129 = .ok (.iconst 1, 1) := by decide +kernel
theorem dX7_fault_130 : decode cX7_fault 130 = .ok (.goto 4, 3) := by decide +kernel
theorem dX7_fault_133 : decode cX7_fault 133 = .ok (.iconst 0, 1) := by decide +kernel
theorem dX7_fault_134 : decode cX7_fault 134 = .ok (.istore 6, 2) := by decide +kernel
theorem dX7_fault_136 : decode cX7_fault 136 = .ok (.iload 6, 2) := by decide +kernel
theorem dX7_fault_138 : decode cX7_fault 138 = .ok (.ifCond .ne 6, 3) := by decide +kernel
theorem dX7_fault_141 : decode cX7_fault 141 = .ok (.iload 4, 2) := by decide +kernel
theorem dX7_fault_143 : decode cX7_fault 143 = .ok (.ireturn, 1) := by decide +kernel
theorem dX7_fault_144 : decode cX7_fault 144 = .ok (.iinc 4 1, 3) := by decide +kernel
theorem dX7_fault_147 : decode cX7_fault 147 = .ok (.iload 4, 2) := by decide +kernel
theorem dX7_fault_149 : decode cX7_fault 149 = .ok (.aload_n 0, 1) := by decide +kernel
theorem dX7_fault_150 : decode cX7_fault 150 = .ok (.getfield 122, 3) := by decide +kernel
theorem dX7_fault_153 : decode cX7_fault 153 = .ok (.if_icmp .ne 6, 3) := by decide +kernel
theorem dX7_fault_156 : decode cX7_fault 156 = .ok (.iload 4, 2) := by decide +kernel
theorem dX7_fault_158 : decode cX7_fault 158 = .ok (.ireturn, 1) := by decide +kernel
theorem dX7_fault_159 : decode cX7_fault 159 = .ok (.aload_n 0, 1) := by decide +kernel
theorem dX7_fault_160 : decode cX7_fault 160 = .ok (.getfield 7, 3) := by decide +kernel
theorem dX7_fault_163 : decode cX7_fault 163 = .ok (.iload 4, 2) := by decide +kernel
theorem dX7_fault_165 : decode cX7_fault 165 = .ok (.iaload, 1) := by decide +kernel
theorem dX7_fault_166 : decode cX7_fault 166 = .ok (.bipush 48, 2) := by decide +kernel
theorem dX7_fault_168 : decode cX7_fault 168 = .ok (.isub, 1) := by decide +kernel
theorem dX7_fault_169 : decode cX7_fault 169 = .ok (.istore 7, 2) := by decide +kernel
theorem dX7_fault_171 : decode cX7_fault 171 = .ok (.iload 5, 2) := by decide +kernel
theorem dX7_fault_173 : decode cX7_fault 173 = .ok (.invokestatic 132, 3) := by decide +kernel
theorem dX7_fault_176 : decode cX7_fault 176 = .ok (.ifCond .eq 16, 3) := by decide +kernel
theorem dX7_fault_179 : decode cX7_fault 179 = .ok (.iload 7, 2) := by decide +kernel
theorem dX7_fault_181 : decode cX7_fault 181 = .ok (.i2l, 1) := by decide +kernel
theorem dX7_fault_182 : decode cX7_fault 182 = .ok (.lconst 0, 1) := by decide +kernel
theorem dX7_fault_183 : decode cX7_fault 183 = .ok (.ldc2_w 140, 3) := by decide +kernel
theorem dX7_fault_186 : decode cX7_fault 186 = .ok (.invokestatic 118, 3) := by decide +kernel
theorem dX7_fault_189 : decode cX7_fault 189 = .ok (.goto 44, 3) := by decide +kernel
theorem dX7_fault_192 : decode cX7_fault 192 = .ok (.iload 5, 2) := by decide +kernel
theorem dX7_fault_194 : decode cX7_fault 194 = .ok (.bipush 35, 2) := by decide +kernel
theorem dX7_fault_196 : decode cX7_fault 196 = .ok (.if_icmp .ne 16, 3) := by decide +kernel
theorem dX7_fault_199 : decode cX7_fault 199 = .ok (.iload 7, 2) := by decide +kernel
theorem dX7_fault_201 : decode cX7_fault 201 = .ok (.i2l, 1) := by decide +kernel
theorem dX7_fault_202 : decode cX7_fault 202 = .ok (.lconst 1, 1) := by decide +kernel
theorem dX7_fault_203 : decode cX7_fault 203 = .ok (.ldc2_w 142, 3) := by decide +kernel
theorem dX7_fault_206 : decode cX7_fault 206 = .ok (.invokestatic 118, 3) := by decide +kernel
theorem dX7_fault_209 : decode cX7_fault 209 = .ok (.goto 24, 3) := by decide +kernel
theorem dX7_fault_212 : decode cX7_fault 212 = .ok (.iload 7, 2) := by decide +kernel
theorem dX7_fault_214 : decode cX7_fault 214 = .ok (.i2l, 1) := by decide +kernel
theorem dX7_fault_215 : decode cX7_fault 215 = .ok (.lconst 0, 1) := by decide +kernel
theorem dX7_fault_216 : decode cX7_fault 216 = .ok (.iload_n 2, 1) := by decide +kernel
theorem dX7_fault_217 : decode cX7_fault 217 = .ok (.bipush 9, 2) := by decide +kernel
theorem dX7_fault_219 : decode cX7_fault 219 = .ok (.if_icmp .ge 8, 3) := by decide +kernel
theorem dX7_fault_222 : decode cX7_fault 222 = .ok (.iload_n 2, 1) := by decide +kernel
theorem dX7_fault_223 : decode cX7_fault 223 = .ok (.i2l, 1) := by decide +kernel
theorem dX7_fault_224 : decode cX7_fault 224 = .ok (.goto 6, 3) := by decide +kernel
theorem dX7_fault_227 : decode cX7_fault 227 = .ok (.ldc2_w 144, 3) := by decide +kernel
theorem dX7_fault_230 : decode cX7_fault 230 = .ok (.invokestatic 118, 3) := by decide +kernel
theorem dX7_fault_233 : decode cX7_fault 233 = .ok (.istore 8, 2) := by decide +kernel
theorem dX7_fault_235 : decode cX7_fault 235 = .ok (.iload 8, 2) := by decide +kernel
theorem dX7_fault_237 : decode cX7_fault 237 = .ok (.ifCond .ne 6, 3) := by decide +kernel
theorem dX7_fault_240 : decode cX7_fault 240 = .ok (.iload 4, 2) := by decide +kernel
theorem dX7_fault_242 : decode cX7_fault 242 = .ok (.ireturn, 1) := by decide +kernel
theorem dX7_fault_243 : decode cX7_fault 243 = .ok (.iinc 4 1, 3) := by decide +kernel
theorem dX7_fault_246 : decode cX7_fault 246 = .ok (.goto (-237), 3) := by decide +kernel
theorem dX7_fault_249 : decode cX7_fault 249 = .ok (.iload_n 3, 1) := by decide +kernel
theorem dX7_fault_250 : decode cX7_fault 250 = .ok (.ifCond .eq 10, 3) := by decide +kernel
theorem dX7_fault_253 : decode cX7_fault 253 = .ok (.aload_n 0, 1) := by decide +kernel
theorem dX7_fault_254 : decode cX7_fault 254 = .ok (.getfield 122, 3) := by decide +kernel
theorem dX7_fault_257 : decode cX7_fault 257 = .ok (.goto 5, 3) := by decide +kernel
theorem dX7_fault_260 : decode cX7_fault 260 = .ok (.bipush (-4), 2) := by decide +kernel
theorem dX7_fault_262 : decode cX7_fault 262 = .ok (.ireturn, 1) := by decide +kernel
theorem dX7_lay_0 : decode cX7_lay 0 = .ok (.aload_n 0, 1) := by decide +kernel
theorem dX7_lay_1 : decode cX7_lay 1 = .ok (.invokevirtual 146, 3) := by decide +kernel
theorem dX7_lay_4 : decode cX7_lay 4 = .ok (.bipush (-4), 2) := by decide +kernel
theorem dX7_lay_6 : decode cX7_lay 6 = .ok (.if_icmp .eq 6, 3) := by decide +kernel
theorem dX7_lay_9 : decode cX7_lay 9 = .ok (.bipush (-2), 2) := by decide +kernel
theorem dX7_lay_11 : decode cX7_lay 11 = .ok (.ireturn, 1) := by decide +kernel
theorem dX7_lay_12 : decode cX7_lay 12 = .ok (.aload_n 0, 1) := by decide +kernel
theorem dX7_lay_13 : decode cX7_lay 13 = .ok (.getfield 13, 3) := by decide +kernel
theorem dX7_lay_16 : decode cX7_lay 16 = .ok (.iconst 0, 1) := by decide +kernel
theorem dX7_lay_17 : decode cX7_lay 17 = .ok (.aload_n 0, 1) := by decide +kernel
theorem dX7_lay_18 : decode cX7_lay 18 = .ok (.getfield 122, 3) := by decide +kernel
theorem dX7_lay_21 : decode cX7_lay 21 = .ok (.iastore, 1) := by decide +kernel
theorem dX7_lay_22 : decode cX7_lay 22 = .ok (.aload_n 0, 1) := by decide +kernel
theorem dX7_lay_23 : decode cX7_lay 23 = .ok (.getfield 19, 3) := by decide +kernel
theorem dX7_lay_26 : decode cX7_lay 26 = .ok (.iconst 0, 1) := by decide +kernel
theorem dX7_lay_27 : decode cX7_lay 27 = .ok (.iconst 0, 1) := by decide +kernel
theorem dX7_lay_28 : decode cX7_lay 28 = .ok (.iastore, 1) := by decide +kernel
theorem dX7_lay_29 : decode cX7_lay 29 = .ok (.iconst 0, 1) := by decide +kernel
theorem dX7_lay_30 : decode cX7_lay 30 = .ok (.istore_n 1, 1) := by decide +kernel
theorem dX7_lay_31 : decode cX7_lay 31 = .ok (.iload_n 1, 1) := by decide +kernel
theorem dX7_lay_32 : decode cX7_lay 32 = .ok (.aload_n 0, 1) := by decide +kernel
theorem dX7_lay_33 : decode cX7_lay 33 = .ok (.getfield 122, 3) := by decide +kernel
theorem dX7_lay_36 : decode cX7_lay 36 = .ok (.if_icmp .ge 21, 3) := by decide +kernel
theorem dX7_lay_39 : decode cX7_lay 39 = .ok (.aload_n 0, 1) := by decide +kernel
theorem dX7_lay_40 : decode cX7_lay 40 = .ok (.getfield 16, 3) := by decide +kernel
theorem dX7_lay_43 : decode cX7_lay 43 = .ok (.iload_n 1, 1) := by decide +kernel
theorem dX7_lay_44 : decode cX7_lay 44 = .ok (.aload_n 0, 1) := by decide +kernel
theorem dX7_lay_45 : decode cX7_lay 45 = .ok (.getfield 7, 3) := by decide +kernel
theorem dX7_lay_48 : decode cX7_lay 48 = .ok (.iload_n 1, 1) := by decide +kernel
theorem dX7_lay_49 : decode cX7_lay 49 = .ok (.iaload, 1) := by decide +kernel
theorem dX7_lay_50 : decode cX7_lay 50 = .ok (.iastore, 1) := by decide +kernel
theorem dX7_lay_51 : decode cX7_lay 51 = .ok (.iinc 1 1, 3) := by decide +kernel
theorem dX7_lay_54 : decode cX7_lay 54 = .ok (.goto (-23), 3) := by decide +kernel
theorem dX7_lay_57 : decode cX7_lay 57 = .ok (.aload_n 0, 1) := by decide +kernel
theorem dX7_lay_58 : decode cX7_lay 58 = .ok (.invokevirtual 150, 3) := by decide +kernel
theorem dX7_lay_61 : decode cX7_lay 61 = .ok (.ireturn, 1) := by decide +kernel
theorem dX7_walkMany_0 : decode cX7_walkMany 0 = .ok (.iconst 0, 1) := by decide +kernel
theorem dX7_walkMany_1 : decode cX7_walkMany 1 = .ok (.istore_n 1, 1) := by decide +kernel
theorem dX7_walkMany_2 : decode cX7_walkMany 2 = .ok (.iconst 0, 1) := by decide +kernel
theorem dX7_walkMany_3 : decode cX7_walkMany 3 = .ok (.istore_n 2, 1) := by decide +kernel
theorem dX7_walkMany_4 : decode cX7_walkMany 4 = .ok (.iload_n 2, 1) := by decide +kernel
theorem dX7_walkMany_5 : decode cX7_walkMany 5 = .ok (.aload_n 0, 1) := by decide +kernel
theorem dX7_walkMany_6 : decode cX7_walkMany 6 = .ok (.getfield 13, 3) := by decide +kernel
theorem dX7_walkMany_9 : decode cX7_walkMany 9 = .ok (.iconst 0, 1) := by decide +kernel
theorem dX7_walkMany_10 : decode cX7_walkMany 10 = .ok (.iaload, 1) := by decide +kernel
theorem dX7_walkMany_11 : decode cX7_walkMany 11 = .ok (.if_icmp .ge 28, 3) := by decide +kernel
theorem dX7_walkMany_14 : decode cX7_walkMany 14 = .ok (.iload_n 1, 1) := by decide +kernel
theorem dX7_walkMany_15 : decode cX7_walkMany 15 = .ok (.aload_n 0, 1) := by decide +kernel
theorem dX7_walkMany_16 : decode cX7_walkMany 16 = .ok (.getfield 16, 3) := by decide +kernel
theorem dX7_walkMany_19 : decode cX7_walkMany 19 = .ok (.iload_n 2, 1) := by decide +kernel
theorem dX7_walkMany_20 : decode cX7_walkMany 20 = .ok (.iaload, 1) := by decide +kernel
theorem dX7_walkMany_21 : decode cX7_walkMany 21 = .ok (.bipush 59, 2) := by decide +kernel
theorem dX7_walkMany_23 : decode cX7_walkMany 23 = .ok (.if_icmp .ne 7, 3) := by decide +kernel
theorem dX7_walkMany_26 : decode cX7_walkMany 26 = .ok (.iconst 1, 1) := by decide +kernel
theorem dX7_walkMany_27 : decode cX7_walkMany 27 = .ok (.goto 4, 3) := by decide +kernel
theorem dX7_walkMany_30 : decode cX7_walkMany 30 = .ok (.iconst 0, 1) := by decide +kernel
theorem dX7_walkMany_31 : decode cX7_walkMany 31 = .ok (.iadd, 1) := by decide +kernel
theorem dX7_walkMany_32 : decode cX7_walkMany 32 = .ok (.istore_n 1, 1) := by decide +kernel
theorem dX7_walkMany_33 : decode cX7_walkMany 33 = .ok (.iinc 2 1, 3) := by decide +kernel
theorem dX7_walkMany_36 : decode cX7_walkMany 36 = .ok (.goto (-32), 3) := by decide +kernel
theorem dX7_walkMany_39 : decode cX7_walkMany 39 = .ok (.iload_n 1, 1) := by decide +kernel
theorem dX7_walkMany_40 : decode cX7_walkMany 40 = .ok (.ireturn, 1) := by decide +kernel
theorem dX7_doubt_0 : decode cX7_doubt 0 = .ok (.iload_n 1, 1) := by decide +kernel
theorem dX7_doubt_1 : decode cX7_doubt 1 = .ok (.i2l, 1) := by decide +kernel
theorem dX7_doubt_2 : decode cX7_doubt 2 = .ok (.lconst 0, 1) := by decide +kernel
theorem dX7_doubt_3 : decode cX7_doubt 3 = .ok (.iconst 1, 1) := by decide +kernel
theorem dX7_doubt_4 : decode cX7_doubt 4 = .ok (.aload_n 0, 1) := by decide +kernel
theorem dX7_doubt_5 : decode cX7_doubt 5 = .ok (.invokevirtual 150, 3) := by decide +kernel
theorem dX7_doubt_8 : decode cX7_doubt 8 = .ok (.ishl, 1) := by decide +kernel
theorem dX7_doubt_9 : decode cX7_doubt 9 = .ok (.iconst 1, 1) := by decide +kernel
theorem dX7_doubt_10 : decode cX7_doubt 10 = .ok (.isub, 1) := by decide +kernel
theorem dX7_doubt_11 : decode cX7_doubt 11 = .ok (.i2l, 1) := by decide +kernel
theorem dX7_doubt_12 : decode cX7_doubt 12 = .ok (.invokestatic 118, 3) := by decide +kernel
theorem dX7_doubt_15 : decode cX7_doubt 15 = .ok (.ifCond .ne 5, 3) := by decide +kernel
theorem dX7_doubt_18 : decode cX7_doubt 18 = .ok (.iconst (-1), 1) := by decide +kernel
theorem dX7_doubt_19 : decode cX7_doubt 19 = .ok (.ireturn, 1) := by decide +kernel
theorem dX7_doubt_20 : decode cX7_doubt 20 = .ok (.aload_n 0, 1) := by decide +kernel
theorem dX7_doubt_21 : decode cX7_doubt 21 = .ok (.getfield 19, 3) := by decide +kernel
theorem dX7_doubt_24 : decode cX7_doubt 24 = .ok (.iconst 0, 1) := by decide +kernel
theorem dX7_doubt_25 : decode cX7_doubt 25 = .ok (.iaload, 1) := by decide +kernel
theorem dX7_doubt_26 : decode cX7_doubt 26 = .ok (.istore_n 2, 1) := by decide +kernel
theorem dX7_doubt_27 : decode cX7_doubt 27 = .ok (.aload_n 0, 1) := by decide +kernel
theorem dX7_doubt_28 : decode cX7_doubt 28 = .ok (.getfield 19, 3) := by decide +kernel
theorem dX7_doubt_31 : decode cX7_doubt 31 = .ok (.iconst 0, 1) := by decide +kernel
theorem dX7_doubt_32 : decode cX7_doubt 32 = .ok (.iload_n 1, 1) := by decide +kernel
theorem dX7_doubt_33 : decode cX7_doubt 33 = .ok (.iastore, 1) := by decide +kernel
theorem dX7_doubt_34 : decode cX7_doubt 34 = .ok (.iload_n 2, 1) := by decide +kernel
theorem dX7_doubt_35 : decode cX7_doubt 35 = .ok (.ireturn, 1) := by decide +kernel
theorem dX7_add_0 : decode cX7_add 0 = .ok (.aload_n 0, 1) := by decide +kernel
theorem dX7_add_1 : decode cX7_add 1 = .ok (.getfield 22, 3) := by decide +kernel
theorem dX7_add_4 : decode cX7_add 4 = .ok (.aload_n 0, 1) := by decide +kernel
theorem dX7_add_5 : decode cX7_add 5 = .ok (.getfield 153, 3) := by decide +kernel
theorem dX7_add_8 : decode cX7_add 8 = .ok (.aload_n 0, 1) := by decide +kernel
theorem dX7_add_9 : decode cX7_add 9 = .ok (.getfield 153, 3) := by decide +kernel
theorem dX7_add_12 : decode cX7_add 12 = .ok (.iastore, 1) := by decide +kernel
theorem dX7_add_13 : decode cX7_add 13 = .ok (.aload_n 0, 1) := by decide +kernel
theorem dX7_add_14 : decode cX7_add 14 = .ok (.getfield 25, 3) := by decide +kernel
theorem dX7_add_17 : decode cX7_add 17 = .ok (.aload_n 0, 1) := by decide +kernel
theorem dX7_add_18 : decode cX7_add 18 = .ok (.getfield 153, 3) := by decide +kernel
theorem dX7_add_21 : decode cX7_add 21 = .ok (.bipush (-4), 2) := by decide +kernel
theorem dX7_add_23 : decode cX7_add 23 = .ok (.iastore, 1) := by decide +kernel
theorem dX7_add_24 : decode cX7_add 24 = .ok (.aload_n 0, 1) := by decide +kernel
theorem dX7_add_25 : decode cX7_add 25 = .ok (.getfield 28, 3) := by decide +kernel
theorem dX7_add_28 : decode cX7_add 28 = .ok (.aload_n 0, 1) := by decide +kernel
theorem dX7_add_29 : decode cX7_add 29 = .ok (.getfield 153, 3) := by decide +kernel
theorem dX7_add_32 : decode cX7_add 32 = .ok (.bipush (-4), 2) := by decide +kernel
theorem dX7_add_34 : decode cX7_add 34 = .ok (.iastore, 1) := by decide +kernel
theorem dX7_add_35 : decode cX7_add 35 = .ok (.aload_n 0, 1) := by decide +kernel
theorem dX7_add_36 : decode cX7_add 36 = .ok (.getfield 31, 3) := by decide +kernel
theorem dX7_add_39 : decode cX7_add 39 = .ok (.aload_n 0, 1) := by decide +kernel
theorem dX7_add_40 : decode cX7_add 40 = .ok (.getfield 153, 3) := by decide +kernel
theorem dX7_add_43 : decode cX7_add 43 = .ok (.bipush (-4), 2) := by decide +kernel
theorem dX7_add_45 : decode cX7_add 45 = .ok (.iastore, 1) := by decide +kernel
theorem dX7_add_46 : decode cX7_add 46 = .ok (.aload_n 0, 1) := by decide +kernel
theorem dX7_add_47 : decode cX7_add 47 = .ok (.dup, 1) := by decide +kernel
theorem dX7_add_48 : decode cX7_add 48 = .ok (.getfield 153, 3) := by decide +kernel
theorem dX7_add_51 : decode cX7_add 51 = .ok (.iconst 1, 1) := by decide +kernel
theorem dX7_add_52 : decode cX7_add 52 = .ok (.iadd, 1) := by decide +kernel
theorem dX7_add_53 : decode cX7_add 53 = .ok (.putfield 153, 3) := by decide +kernel
theorem dX7_add_56 : decode cX7_add 56 = .ok (.aload_n 0, 1) := by decide +kernel
theorem dX7_add_57 : decode cX7_add 57 = .ok (.getfield 153, 3) := by decide +kernel
theorem dX7_add_60 : decode cX7_add 60 = .ok (.iconst 1, 1) := by decide +kernel
theorem dX7_add_61 : decode cX7_add 61 = .ok (.isub, 1) := by decide +kernel
theorem dX7_add_62 : decode cX7_add 62 = .ok (.ireturn, 1) := by decide +kernel
theorem dX7_find_0 : decode cX7_find 0 = .ok (.iload_n 1, 1) := by decide +kernel
theorem dX7_find_1 : decode cX7_find 1 = .ok (.istore_n 2, 1) := by decide +kernel
theorem dX7_find_2 : decode cX7_find 2 = .ok (.aload_n 0, 1) := by decide +kernel
theorem dX7_find_3 : decode cX7_find 3 = .ok (.getfield 22, 3) := by decide +kernel
theorem dX7_find_6 : decode cX7_find 6 = .ok (.iload_n 2, 1) := by decide +kernel
theorem dX7_find_7 : decode cX7_find 7 = .ok (.iaload, 1) := by decide +kernel
theorem dX7_find_8 : decode cX7_find 8 = .ok (.iload_n 2, 1) := by decide +kernel
theorem dX7_find_9 : decode cX7_find 9 = .ok (.if_icmp .eq 13, 3) := by decide +kernel
theorem dX7_find_12 : decode cX7_find 12 = .ok (.aload_n 0, 1) := by decide +kernel
theorem dX7_find_13 : decode cX7_find 13 = .ok (.getfield 22, 3) := by decide +kernel
theorem dX7_find_16 : decode cX7_find 16 = .ok (.iload_n 2, 1) := by decide +kernel
theorem dX7_find_17 : decode cX7_find 17 = .ok (.iaload, 1) := by decide +kernel
theorem dX7_find_18 : decode cX7_find 18 = .ok (.istore_n 2, 1) := by decide +kernel
theorem dX7_find_19 : decode cX7_find 19 = .ok (.goto (-17), 3) := by decide +kernel
theorem dX7_find_22 : decode cX7_find 22 = .ok (.iload_n 2, 1) := by decide +kernel
theorem dX7_find_23 : decode cX7_find 23 = .ok (.ireturn, 1) := by decide +kernel
theorem dX7_owe_0 : decode cX7_owe 0 = .ok (.aload_n 0, 1) := by decide +kernel
theorem dX7_owe_1 : decode cX7_owe 1 = .ok (.getfield 34, 3) := by decide +kernel
theorem dX7_owe_4 : decode cX7_owe 4 = .ok (.iconst 2, 1) := by decide +kernel
theorem dX7_owe_5 : decode cX7_owe 5 = .ok (.aload_n 0, 1) := by decide +kernel
theorem dX7_owe_6 : decode cX7_owe 6 = .ok (.getfield 156, 3) := by decide +kernel
theorem dX7_owe_9 : decode cX7_owe 9 = .ok (.imul, 1) := by decide +kernel
theorem dX7_owe_10 : decode cX7_owe 10 = .ok (.iload_n 1, 1) := by decide +kernel
theorem dX7_owe_11 : decode cX7_owe 11 = .ok (.iastore, 1) := by decide +kernel
theorem dX7_owe_12 : decode cX7_owe 12 = .ok (.aload_n 0, 1) := by decide +kernel
theorem dX7_owe_13 : decode cX7_owe 13 = .ok (.getfield 34, 3) := by decide +kernel
theorem dX7_owe_16 : decode cX7_owe 16 = .ok (.iconst 2, 1) := by decide +kernel
theorem dX7_owe_17 : decode cX7_owe 17 = .ok (.aload_n 0, 1) := by decide +kernel
theorem dX7_owe_18 : decode cX7_owe 18 = .ok (.getfield 156, 3) := by decide +kernel
theorem dX7_owe_21 : decode cX7_owe 21 = .ok (.imul, 1) := by decide +kernel
theorem dX7_owe_22 : decode cX7_owe 22 = .ok (.iconst 1, 1) := by decide +kernel
theorem dX7_owe_23 : decode cX7_owe 23 = .ok (.iadd, 1) := by decide +kernel
theorem dX7_owe_24 : decode cX7_owe 24 = .ok (.iload_n 2, 1) := by decide +kernel
theorem dX7_owe_25 : decode cX7_owe 25 = .ok (.iastore, 1) := by decide +kernel
theorem dX7_owe_26 : decode cX7_owe 26 = .ok (.aload_n 0, 1) := by decide +kernel
theorem dX7_owe_27 : decode cX7_owe 27 = .ok (.dup, 1) := by decide +kernel
theorem dX7_owe_28 : decode cX7_owe 28 = .ok (.getfield 156, 3) := by decide +kernel
theorem dX7_owe_31 : decode cX7_owe 31 = .ok (.iconst 1, 1) := by decide +kernel
theorem dX7_owe_32 : decode cX7_owe 32 = .ok (.iadd, 1) := by decide +kernel
theorem dX7_owe_33 : decode cX7_owe 33 = .ok (.putfield 156, 3) := by decide +kernel
theorem dX7_owe_36 : decode cX7_owe 36 = .ok (.return_, 1) := by decide +kernel
theorem dX7_unite_0 : decode cX7_unite 0 = .ok (.aload_n 0, 1) := by decide +kernel
theorem dX7_unite_1 : decode cX7_unite 1 = .ok (.iconst 0, 1) := by decide +kernel
theorem dX7_unite_2 : decode cX7_unite 2 = .ok (.putfield 156, 3) := by decide +kernel
theorem dX7_unite_5 : decode cX7_unite 5 = .ok (.aload_n 0, 1) := by decide +kernel
theorem dX7_unite_6 : decode cX7_unite 6 = .ok (.iload_n 1, 1) := by decide +kernel
theorem dX7_unite_7 : decode cX7_unite 7 = .ok (.iload_n 2, 1) := by decide +kernel
theorem dX7_unite_8 : decode cX7_unite 8 = .ok (.invokevirtual 159, 3) := by decide +kernel
theorem dX7_unite_11 : decode cX7_unite 11 = .ok (.aload_n 0, 1) := by decide +kernel
theorem dX7_unite_12 : decode cX7_unite 12 = .ok (.getfield 156, 3) := by decide +kernel
theorem dX7_unite_15 : decode cX7_unite 15 = .ok (.ifCond .le 266, 3) := by decide +kernel
theorem dX7_unite_18 : decode cX7_unite 18 = .ok (.aload_n 0, 1) := by decide +kernel
theorem dX7_unite_19 : decode cX7_unite 19 = .ok (.dup, 1) := by decide +kernel
theorem dX7_unite_20 : decode cX7_unite 20 = .ok (.getfield 156, 3) := by decide +kernel
theorem dX7_unite_23 : decode cX7_unite 23 = .ok (.iconst 1, 1) := by decide +kernel
theorem dX7_unite_24 : decode cX7_unite 24 = .ok (.isub, 1) := by decide +kernel
theorem dX7_unite_25 : decode cX7_unite 25 = .ok (.putfield 156, 3) := by decide +kernel
theorem dX7_unite_28 : decode cX7_unite 28 = .ok (.aload_n 0, 1) := by decide +kernel
theorem dX7_unite_29 : decode cX7_unite 29 = .ok (.aload_n 0, 1) := by decide +kernel
theorem dX7_unite_30 : decode cX7_unite 30 = .ok (.getfield 34, 3) := by decide +kernel
theorem dX7_unite_33 : decode cX7_unite 33 = .ok (.iconst 2, 1) := by decide +kernel
theorem dX7_unite_34 : decode cX7_unite 34 = .ok (.aload_n 0, 1) := by decide +kernel
theorem dX7_unite_35 : decode cX7_unite 35 = .ok (.getfield 156, 3) := by decide +kernel
theorem dX7_unite_38 : decode cX7_unite 38 = .ok (.imul, 1) := by decide +kernel
theorem dX7_unite_39 : decode cX7_unite 39 = .ok (.iaload, 1) := by decide +kernel
theorem dX7_unite_40 : decode cX7_unite 40 = .ok (.invokevirtual 163, 3) := by decide +kernel
theorem dX7_unite_43 : decode cX7_unite 43 = .ok (.istore_n 3, 1) := by decide +kernel
theorem dX7_unite_44 : decode cX7_unite 44 = .ok (.aload_n 0, 1) := by decide +kernel
theorem dX7_unite_45 : decode cX7_unite 45 = .ok (.aload_n 0, 1) := by decide +kernel
theorem dX7_unite_46 : decode cX7_unite 46 = .ok (.getfield 34, 3) := by decide +kernel
theorem dX7_unite_49 : decode cX7_unite 49 = .ok (.iconst 2, 1) := by decide +kernel
theorem dX7_unite_50 : decode cX7_unite 50 = .ok (.aload_n 0, 1) := by decide +kernel
theorem dX7_unite_51 : decode cX7_unite 51 = .ok (.getfield 156, 3) := by decide +kernel
theorem dX7_unite_54 : decode cX7_unite 54 = .ok (.imul, 1) := by decide +kernel
theorem dX7_unite_55 : decode cX7_unite 55 = .ok (.iconst 1, 1) := by decide +kernel
theorem dX7_unite_56 : decode cX7_unite 56 = .ok (.iadd, 1) := by decide +kernel
theorem dX7_unite_57 : decode cX7_unite 57 = .ok (.iaload, 1) := by decide +kernel
theorem dX7_unite_58 : decode cX7_unite 58 = .ok (.invokevirtual 163, 3) := by decide +kernel
theorem dX7_unite_61 : decode cX7_unite 61 = .ok (.istore 4, 2) := by decide +kernel
theorem dX7_unite_63 : decode cX7_unite 63 = .ok (.iload_n 3, 1) := by decide +kernel
theorem dX7_unite_64 : decode cX7_unite 64 = .ok (.iload 4, 2) := by decide +kernel
theorem dX7_unite_66 : decode cX7_unite 66 = .ok (.if_icmp .eq 212, 3) := by decide +kernel
theorem dX7_unite_69 : decode cX7_unite 69 = .ok (.aload_n 0, 1) := by decide +kernel
theorem dX7_unite_70 : decode cX7_unite 70 = .ok (.getfield 22, 3) := by decide +kernel
theorem dX7_unite_73 : decode cX7_unite 73 = .ok (.iload 4, 2) := by decide +kernel
theorem dX7_unite_75 : decode cX7_unite 75 = .ok (.iload_n 3, 1) := by decide +kernel
theorem dX7_unite_76 : decode cX7_unite 76 = .ok (.iastore, 1) := by decide +kernel
theorem dX7_unite_77 : decode cX7_unite 77 = .ok (.aload_n 0, 1) := by decide +kernel
theorem dX7_unite_78 : decode cX7_unite 78 = .ok (.getfield 25, 3) := by decide +kernel
theorem dX7_unite_81 : decode cX7_unite 81 = .ok (.iload_n 3, 1) := by decide +kernel
theorem dX7_unite_82 : decode cX7_unite 82 = .ok (.iaload, 1) := by decide +kernel
theorem dX7_unite_83 : decode cX7_unite 83 = .ok (.ifCond .lt 30, 3) := by decide +kernel
theorem dX7_unite_86 : decode cX7_unite 86 = .ok (.aload_n 0, 1) := by decide +kernel
theorem dX7_unite_87 : decode cX7_unite 87 = .ok (.getfield 25, 3) := by decide +kernel
theorem dX7_unite_90 : decode cX7_unite 90 = .ok (.iload 4, 2) := by decide +kernel
theorem dX7_unite_92 : decode cX7_unite 92 = .ok (.iaload, 1) := by decide +kernel
theorem dX7_unite_93 : decode cX7_unite 93 = .ok (.ifCond .lt 20, 3) := by decide +kernel
theorem dX7_unite_96 : decode cX7_unite 96 = .ok (.aload_n 0, 1) := by decide +kernel
theorem dX7_unite_97 : decode cX7_unite 97 = .ok (.aload_n 0, 1) := by decide +kernel
theorem dX7_unite_98 : decode cX7_unite 98 = .ok (.getfield 25, 3) := by decide +kernel
theorem dX7_unite_101 : decode cX7_unite 101 = .ok (.iload_n 3, 1) := by decide +kernel
theorem dX7_unite_102 : decode cX7_unite 102 = .ok (.iaload, 1) := by decide +kernel
theorem dX7_unite_103 : decode cX7_unite 103 = .ok (.aload_n 0, 1) := by decide +kernel
theorem dX7_unite_104 : decode cX7_unite 104 = .ok (.getfield 25, 3) := by decide +kernel
theorem dX7_unite_107 : decode cX7_unite 107 = .ok (.iload 4, 2) := by decide +kernel
theorem dX7_unite_109 : decode cX7_unite 109 = .ok (.iaload, 1) := by decide +kernel
theorem dX7_unite_110 : decode cX7_unite 110 = .ok (.invokevirtual 159, 3) := by decide +kernel
theorem dX7_unite_113 : decode cX7_unite 113 = .ok (.aload_n 0, 1) := by decide +kernel
theorem dX7_unite_114 : decode cX7_unite 114 = .ok (.getfield 28, 3) := by decide +kernel
theorem dX7_unite_117 : decode cX7_unite 117 = .ok (.iload_n 3, 1) := by decide +kernel
theorem dX7_unite_118 : decode cX7_unite 118 = .ok (.iaload, 1) := by decide +kernel
theorem dX7_unite_119 : decode cX7_unite 119 = .ok (.ifCond .lt 30, 3) := by decide +kernel
theorem dX7_unite_122 : decode cX7_unite 122 = .ok (.aload_n 0, 1) := by decide +kernel
theorem dX7_unite_123 : decode cX7_unite 123 = .ok (.getfield 28, 3) := by decide +kernel
theorem dX7_unite_126 : decode cX7_unite 126 = .ok (.iload 4, 2) := by decide +kernel
theorem dX7_unite_128 : decode cX7_unite 128 = .ok (.iaload, 1) := by decide +kernel
theorem dX7_unite_129 : decode cX7_unite 129 = .ok (.ifCond .lt 20, 3) := by decide +kernel
theorem dX7_unite_132 : decode cX7_unite 132 = .ok (.aload_n 0, 1) := by decide +kernel
theorem dX7_unite_133 : decode cX7_unite 133 = .ok (.aload_n 0, 1) := by decide +kernel
theorem dX7_unite_134 : decode cX7_unite 134 = .ok (.getfield 28, 3) := by decide +kernel
theorem dX7_unite_137 : decode cX7_unite 137 = .ok (.iload_n 3, 1) := by decide +kernel
theorem dX7_unite_138 : decode cX7_unite 138 = .ok (.iaload, 1) := by decide +kernel
theorem dX7_unite_139 : decode cX7_unite 139 = .ok (.aload_n 0, 1) := by decide +kernel
theorem dX7_unite_140 : decode cX7_unite 140 = .ok (.getfield 28, 3) := by decide +kernel
theorem dX7_unite_143 : decode cX7_unite 143 = .ok (.iload 4, 2) := by decide +kernel
theorem dX7_unite_145 : decode cX7_unite 145 = .ok (.iaload, 1) := by decide +kernel
theorem dX7_unite_146 : decode cX7_unite 146 = .ok (.invokevirtual 159, 3) := by decide +kernel
theorem dX7_unite_149 : decode cX7_unite 149 = .ok (.aload_n 0, 1) := by decide +kernel
theorem dX7_unite_150 : decode cX7_unite 150 = .ok (.getfield 31, 3) := by decide +kernel
theorem dX7_unite_153 : decode cX7_unite 153 = .ok (.iload_n 3, 1) := by decide +kernel
theorem dX7_unite_154 : decode cX7_unite 154 = .ok (.iaload, 1) := by decide +kernel
theorem dX7_unite_155 : decode cX7_unite 155 = .ok (.ifCond .lt 30, 3) := by decide +kernel
theorem dX7_unite_158 : decode cX7_unite 158 = .ok (.aload_n 0, 1) := by decide +kernel
theorem dX7_unite_159 : decode cX7_unite 159 = .ok (.getfield 31, 3) := by decide +kernel
theorem dX7_unite_162 : decode cX7_unite 162 = .ok (.iload 4, 2) := by decide +kernel
theorem dX7_unite_164 : decode cX7_unite 164 = .ok (.iaload, 1) := by decide +kernel
theorem dX7_unite_165 : decode cX7_unite 165 = .ok (.ifCond .lt 20, 3) := by decide +kernel
theorem dX7_unite_168 : decode cX7_unite 168 = .ok (.aload_n 0, 1) := by decide +kernel
theorem dX7_unite_169 : decode cX7_unite 169 = .ok (.aload_n 0, 1) := by decide +kernel
theorem dX7_unite_170 : decode cX7_unite 170 = .ok (.getfield 31, 3) := by decide +kernel
theorem dX7_unite_173 : decode cX7_unite 173 = .ok (.iload_n 3, 1) := by decide +kernel
theorem dX7_unite_174 : decode cX7_unite 174 = .ok (.iaload, 1) := by decide +kernel
theorem dX7_unite_175 : decode cX7_unite 175 = .ok (.aload_n 0, 1) := by decide +kernel
theorem dX7_unite_176 : decode cX7_unite 176 = .ok (.getfield 31, 3) := by decide +kernel
theorem dX7_unite_179 : decode cX7_unite 179 = .ok (.iload 4, 2) := by decide +kernel
theorem dX7_unite_181 : decode cX7_unite 181 = .ok (.iaload, 1) := by decide +kernel
theorem dX7_unite_182 : decode cX7_unite 182 = .ok (.invokevirtual 159, 3) := by decide +kernel
theorem dX7_unite_185 : decode cX7_unite 185 = .ok (.aload_n 0, 1) := by decide +kernel
theorem dX7_unite_186 : decode cX7_unite 186 = .ok (.getfield 25, 3) := by decide +kernel
theorem dX7_unite_189 : decode cX7_unite 189 = .ok (.iload_n 3, 1) := by decide +kernel
theorem dX7_unite_190 : decode cX7_unite 190 = .ok (.aload_n 0, 1) := by decide +kernel
theorem dX7_unite_191 : decode cX7_unite 191 = .ok (.getfield 25, 3) := by decide +kernel
theorem dX7_unite_194 : decode cX7_unite 194 = .ok (.iload_n 3, 1) := by decide +kernel
theorem dX7_unite_195 : decode cX7_unite 195 = .ok (.iaload, 1) := by decide +kernel
theorem dX7_unite_196 : decode cX7_unite 196 = .ok (.ifCond .lt 12, 3) := by decide +kernel
theorem dX7_unite_199 : decode cX7_unite 199 = .ok (.aload_n 0, 1) := by decide +kernel
theorem dX7_unite_200 : decode cX7_unite 200 = .ok (.getfield 25, 3) := by decide +kernel
theorem dX7_unite_203 : decode cX7_unite 203 = .ok (.iload_n 3, 1) := by decide +kernel
theorem dX7_unite_204 : decode cX7_unite 204 = .ok (.iaload, 1) := by decide +kernel
theorem dX7_unite_205 : decode cX7_unite 205 = .ok (.goto 10, 3) := by decide +kernel
theorem dX7_unite_208 : decode cX7_unite 208 = .ok (.aload_n 0, 1) := by decide +kernel
theorem dX7_unite_209 : decode cX7_unite 209 = .ok (.getfield 25, 3) := by decide +kernel
theorem dX7_unite_212 : decode cX7_unite 212 = .ok (.iload 4, 2) := by decide +kernel
theorem dX7_unite_214 : decode cX7_unite 214 = .ok (.iaload, 1) := by decide +kernel
theorem dX7_unite_215 : decode cX7_unite 215 = .ok (.iastore, 1) := by decide +kernel
theorem dX7_unite_216 : decode cX7_unite 216 = .ok (.aload_n 0, 1) := by decide +kernel
theorem dX7_unite_217 : decode cX7_unite 217 = .ok (.getfield 28, 3) := by decide +kernel
theorem dX7_unite_220 : decode cX7_unite 220 = .ok (.iload_n 3, 1) := by decide +kernel
theorem dX7_unite_221 : decode cX7_unite 221 = .ok (.aload_n 0, 1) := by decide +kernel
theorem dX7_unite_222 : decode cX7_unite 222 = .ok (.getfield 28, 3) := by decide +kernel
theorem dX7_unite_225 : decode cX7_unite 225 = .ok (.iload_n 3, 1) := by decide +kernel
theorem dX7_unite_226 : decode cX7_unite 226 = .ok (.iaload, 1) := by decide +kernel
theorem dX7_unite_227 : decode cX7_unite 227 = .ok (.ifCond .lt 12, 3) := by decide +kernel
theorem dX7_unite_230 : decode cX7_unite 230 = .ok (.aload_n 0, 1) := by decide +kernel
theorem dX7_unite_231 : decode cX7_unite 231 = .ok (.getfield 28, 3) := by decide +kernel
theorem dX7_unite_234 : decode cX7_unite 234 = .ok (.iload_n 3, 1) := by decide +kernel
theorem dX7_unite_235 : decode cX7_unite 235 = .ok (.iaload, 1) := by decide +kernel
theorem dX7_unite_236 : decode cX7_unite 236 = .ok (.goto 10, 3) := by decide +kernel
theorem dX7_unite_239 : decode cX7_unite 239 = .ok (.aload_n 0, 1) := by decide +kernel
theorem dX7_unite_240 : decode cX7_unite 240 = .ok (.getfield 28, 3) := by decide +kernel
theorem dX7_unite_243 : decode cX7_unite 243 = .ok (.iload 4, 2) := by decide +kernel
theorem dX7_unite_245 : decode cX7_unite 245 = .ok (.iaload, 1) := by decide +kernel
theorem dX7_unite_246 : decode cX7_unite 246 = .ok (.iastore, 1) := by decide +kernel
theorem dX7_unite_247 : decode cX7_unite 247 = .ok (.aload_n 0, 1) := by decide +kernel
theorem dX7_unite_248 : decode cX7_unite 248 = .ok (.getfield 31, 3) := by decide +kernel
theorem dX7_unite_251 : decode cX7_unite 251 = .ok (.iload_n 3, 1) := by decide +kernel
theorem dX7_unite_252 : decode cX7_unite 252 = .ok (.aload_n 0, 1) := by decide +kernel
theorem dX7_unite_253 : decode cX7_unite 253 = .ok (.getfield 31, 3) := by decide +kernel
theorem dX7_unite_256 : decode cX7_unite 256 = .ok (.iload_n 3, 1) := by decide +kernel
theorem dX7_unite_257 : decode cX7_unite 257 = .ok (.iaload, 1) := by decide +kernel
theorem dX7_unite_258 : decode cX7_unite 258 = .ok (.ifCond .lt 12, 3) := by decide +kernel
theorem dX7_unite_261 : decode cX7_unite 261 = .ok (.aload_n 0, 1) := by decide +kernel
theorem dX7_unite_262 : decode cX7_unite 262 = .ok (.getfield 31, 3) := by decide +kernel
theorem dX7_unite_265 : decode cX7_unite 265 = .ok (.iload_n 3, 1) := by decide +kernel
theorem dX7_unite_266 : decode cX7_unite 266 = .ok (.iaload, 1) := by decide +kernel
theorem dX7_unite_267 : decode cX7_unite 267 = .ok (.goto 10, 3) := by decide +kernel
theorem dX7_unite_270 : decode cX7_unite 270 = .ok (.aload_n 0, 1) := by decide +kernel
theorem dX7_unite_271 : decode cX7_unite 271 = .ok (.getfield 31, 3) := by decide +kernel
theorem dX7_unite_274 : decode cX7_unite 274 = .ok (.iload 4, 2) := by decide +kernel
theorem dX7_unite_276 : decode cX7_unite 276 = .ok (.iaload, 1) := by decide +kernel
theorem dX7_unite_277 : decode cX7_unite 277 = .ok (.iastore, 1) := by decide +kernel
theorem dX7_unite_278 : decode cX7_unite 278 = .ok (.goto (-267), 3) := by decide +kernel
theorem dX7_unite_281 : decode cX7_unite 281 = .ok (.return_, 1) := by decide +kernel
theorem dX7_goOn_0 : decode cX7_goOn 0 = .ok (.aload_n 0, 1) := by decide +kernel
theorem dX7_goOn_1 : decode cX7_goOn 1 = .ok (.iload_n 1, 1) := by decide +kernel
theorem dX7_goOn_2 : decode cX7_goOn 2 = .ok (.invokevirtual 163, 3) := by decide +kernel
theorem dX7_goOn_5 : decode cX7_goOn 5 = .ok (.istore_n 3, 1) := by decide +kernel
theorem dX7_goOn_6 : decode cX7_goOn 6 = .ok (.iconst 0, 1) := by decide +kernel
theorem dX7_goOn_7 : decode cX7_goOn 7 = .ok (.istore 4, 2) := by decide +kernel
theorem dX7_goOn_9 : decode cX7_goOn 9 = .ok (.iload 4, 2) := by decide +kernel
theorem dX7_goOn_11 : decode cX7_goOn 11 = .ok (.iload_n 2, 1) := by decide +kernel
theorem dX7_goOn_12 : decode cX7_goOn 12 = .ok (.if_icmp .ge 51, 3) := by decide +kernel
theorem dX7_goOn_15 : decode cX7_goOn 15 = .ok (.aload_n 0, 1) := by decide +kernel
theorem dX7_goOn_16 : decode cX7_goOn 16 = .ok (.getfield 25, 3) := by decide +kernel
theorem dX7_goOn_19 : decode cX7_goOn 19 = .ok (.iload_n 3, 1) := by decide +kernel
theorem dX7_goOn_20 : decode cX7_goOn 20 = .ok (.iaload, 1) := by decide +kernel
theorem dX7_goOn_21 : decode cX7_goOn 21 = .ok (.ifCond .ge 25, 3) := by decide +kernel
theorem dX7_goOn_24 : decode cX7_goOn 24 = .ok (.aload_n 0, 1) := by decide +kernel
theorem dX7_goOn_25 : decode cX7_goOn 25 = .ok (.invokevirtual 167, 3) := by decide +kernel
theorem dX7_goOn_28 : decode cX7_goOn 28 = .ok (.istore 5, 2) := by decide +kernel
theorem dX7_goOn_30 : decode cX7_goOn 30 = .ok (.aload_n 0, 1) := by decide +kernel
theorem dX7_goOn_31 : decode cX7_goOn 31 = .ok (.getfield 25, 3) := by decide +kernel
theorem dX7_goOn_34 : decode cX7_goOn 34 = .ok (.iload_n 3, 1) := by decide +kernel
theorem dX7_goOn_35 : decode cX7_goOn 35 = .ok (.iload 5, 2) := by decide +kernel
theorem dX7_goOn_37 : decode cX7_goOn 37 = .ok (.iastore, 1) := by decide +kernel
theorem dX7_goOn_38 : decode cX7_goOn 38 = .ok (.aload_n 0, 1) := by decide +kernel
theorem dX7_goOn_39 : decode cX7_goOn 39 = .ok (.getfield 28, 3) := by decide +kernel
theorem dX7_goOn_42 : decode cX7_goOn 42 = .ok (.iload 5, 2) := by decide +kernel
theorem dX7_goOn_44 : decode cX7_goOn 44 = .ok (.iload_n 3, 1) := by decide +kernel
theorem dX7_goOn_45 : decode cX7_goOn 45 = .ok (.iastore, 1) := by decide +kernel
theorem dX7_goOn_46 : decode cX7_goOn 46 = .ok (.aload_n 0, 1) := by decide +kernel
theorem dX7_goOn_47 : decode cX7_goOn 47 = .ok (.aload_n 0, 1) := by decide +kernel
theorem dX7_goOn_48 : decode cX7_goOn 48 = .ok (.getfield 25, 3) := by decide +kernel
theorem dX7_goOn_51 : decode cX7_goOn 51 = .ok (.iload_n 3, 1) := by decide +kernel
theorem dX7_goOn_52 : decode cX7_goOn 52 = .ok (.iaload, 1) := by decide +kernel
theorem dX7_goOn_53 : decode cX7_goOn 53 = .ok (.invokevirtual 163, 3) := by decide +kernel
theorem dX7_goOn_56 : decode cX7_goOn 56 = .ok (.istore_n 3, 1) := by decide +kernel
theorem dX7_goOn_57 : decode cX7_goOn 57 = .ok (.iinc 4 1, 3) := by decide +kernel
theorem dX7_goOn_60 : decode cX7_goOn 60 = .ok (.goto (-51), 3) := by decide +kernel
theorem dX7_goOn_63 : decode cX7_goOn 63 = .ok (.iload_n 3, 1) := by decide +kernel
theorem dX7_goOn_64 : decode cX7_goOn 64 = .ok (.ireturn, 1) := by decide +kernel
theorem dX7_across_0 : decode cX7_across 0 = .ok (.aload_n 0, 1) := by decide +kernel
theorem dX7_across_1 : decode cX7_across 1 = .ok (.iload_n 1, 1) := by decide +kernel
theorem dX7_across_2 : decode cX7_across 2 = .ok (.invokevirtual 163, 3) := by decide +kernel
theorem dX7_across_5 : decode cX7_across 5 = .ok (.istore_n 2, 1) := by decide +kernel
theorem dX7_across_6 : decode cX7_across 6 = .ok (.aload_n 0, 1) := by decide +kernel
theorem dX7_across_7 : decode cX7_across 7 = .ok (.getfield 31, 3) := by decide +kernel
theorem dX7_across_10 : decode cX7_across 10 = .ok (.iload_n 2, 1) := by decide +kernel
theorem dX7_across_11 : decode cX7_across 11 = .ok (.iaload, 1) := by decide +kernel
theorem dX7_across_12 : decode cX7_across 12 = .ok (.ifCond .ge 22, 3) := by decide +kernel
theorem dX7_across_15 : decode cX7_across 15 = .ok (.aload_n 0, 1) := by decide +kernel
theorem dX7_across_16 : decode cX7_across 16 = .ok (.invokevirtual 167, 3) := by decide +kernel
theorem dX7_across_19 : decode cX7_across 19 = .ok (.istore_n 3, 1) := by decide +kernel
theorem dX7_across_20 : decode cX7_across 20 = .ok (.aload_n 0, 1) := by decide +kernel
theorem dX7_across_21 : decode cX7_across 21 = .ok (.getfield 31, 3) := by decide +kernel
theorem dX7_across_24 : decode cX7_across 24 = .ok (.iload_n 2, 1) := by decide +kernel
theorem dX7_across_25 : decode cX7_across 25 = .ok (.iload_n 3, 1) := by decide +kernel
theorem dX7_across_26 : decode cX7_across 26 = .ok (.iastore, 1) := by decide +kernel
theorem dX7_across_27 : decode cX7_across 27 = .ok (.aload_n 0, 1) := by decide +kernel
theorem dX7_across_28 : decode cX7_across 28 = .ok (.getfield 31, 3) := by decide +kernel
theorem dX7_across_31 : decode cX7_across 31 = .ok (.iload_n 3, 1) := by decide +kernel
theorem dX7_across_32 : decode cX7_across 32 = .ok (.iload_n 2, 1) := by decide +kernel
theorem dX7_across_33 : decode cX7_across 33 = .ok (.iastore, 1) := by decide +kernel
theorem dX7_across_34 : decode cX7_across 34 = .ok (.aload_n 0, 1) := by decide +kernel
theorem dX7_across_35 : decode cX7_across 35 = .ok (.aload_n 0, 1) := by decide +kernel
theorem dX7_across_36 : decode cX7_across 36 = .ok (.getfield 31, 3) := by decide +kernel
theorem dX7_across_39 : decode cX7_across 39 = .ok (.iload_n 2, 1) := by decide +kernel
theorem dX7_across_40 : decode cX7_across 40 = .ok (.iaload, 1) := by decide +kernel
theorem dX7_across_41 : decode cX7_across 41 = .ok (.invokevirtual 163, 3) := by decide +kernel
theorem dX7_across_44 : decode cX7_across 44 = .ok (.ireturn, 1) := by decide +kernel
theorem dX7_firstOf_0 : decode cX7_firstOf 0 = .ok (.aload_n 0, 1) := by decide +kernel
theorem dX7_firstOf_1 : decode cX7_firstOf 1 = .ok (.getfield 49, 3) := by decide +kernel
theorem dX7_firstOf_4 : decode cX7_firstOf 4 = .ok (.iload_n 1, 1) := by decide +kernel
theorem dX7_firstOf_5 : decode cX7_firstOf 5 = .ok (.iaload, 1) := by decide +kernel
theorem dX7_firstOf_6 : decode cX7_firstOf 6 = .ok (.ifCond .ge 13, 3) := by decide +kernel
theorem dX7_firstOf_9 : decode cX7_firstOf 9 = .ok (.aload_n 0, 1) := by decide +kernel
theorem dX7_firstOf_10 : decode cX7_firstOf 10 = .ok (.getfield 49, 3) := by decide +kernel
theorem dX7_firstOf_13 : decode cX7_firstOf 13 = .ok (.iload_n 1, 1) := by decide +kernel
theorem dX7_firstOf_14 : decode cX7_firstOf 14 = .ok (.aload_n 0, 1) := by decide +kernel
theorem dX7_firstOf_15 : decode cX7_firstOf 15 = .ok (.invokevirtual 167, 3) := by decide +kernel
theorem dX7_firstOf_18 : decode cX7_firstOf 18 = .ok (.iastore, 1) := by decide +kernel
theorem dX7_firstOf_19 : decode cX7_firstOf 19 = .ok (.aload_n 0, 1) := by decide +kernel
theorem dX7_firstOf_20 : decode cX7_firstOf 20 = .ok (.getfield 49, 3) := by decide +kernel
theorem dX7_firstOf_23 : decode cX7_firstOf 23 = .ok (.iload_n 1, 1) := by decide +kernel
theorem dX7_firstOf_24 : decode cX7_firstOf 24 = .ok (.iaload, 1) := by decide +kernel
theorem dX7_firstOf_25 : decode cX7_firstOf 25 = .ok (.ireturn, 1) := by decide +kernel
theorem dX7_stop_0 : decode cX7_stop 0 = .ok (.aload_n 0, 1) := by decide +kernel
theorem dX7_stop_1 : decode cX7_stop 1 = .ok (.getfield 37, 3) := by decide +kernel
theorem dX7_stop_4 : decode cX7_stop 4 = .ok (.iconst 3, 1) := by decide +kernel
theorem dX7_stop_5 : decode cX7_stop 5 = .ok (.aload_n 0, 1) := by decide +kernel
theorem dX7_stop_6 : decode cX7_stop 6 = .ok (.getfield 170, 3) := by decide +kernel
theorem dX7_stop_9 : decode cX7_stop 9 = .ok (.imul, 1) := by decide +kernel
theorem dX7_stop_10 : decode cX7_stop 10 = .ok (.iload_n 1, 1) := by decide +kernel
theorem dX7_stop_11 : decode cX7_stop 11 = .ok (.iastore, 1) := by decide +kernel
theorem dX7_stop_12 : decode cX7_stop 12 = .ok (.aload_n 0, 1) := by decide +kernel
theorem dX7_stop_13 : decode cX7_stop 13 = .ok (.getfield 37, 3) := by decide +kernel
theorem dX7_stop_16 : decode cX7_stop 16 = .ok (.iconst 3, 1) := by decide +kernel
theorem dX7_stop_17 : decode cX7_stop 17 = .ok (.aload_n 0, 1) := by decide +kernel
theorem dX7_stop_18 : decode cX7_stop 18 = .ok (.getfield 170, 3) := by decide +kernel
theorem dX7_stop_21 : decode cX7_stop 21 = .ok (.imul, 1) := by decide +kernel
theorem dX7_stop_22 : decode cX7_stop 22 = .ok (.iconst 1, 1) := by decide +kernel
theorem dX7_stop_23 : decode cX7_stop 23 = .ok (.iadd, 1) := by decide +kernel
theorem dX7_stop_24 : decode cX7_stop 24 = .ok (.iload_n 2, 1) := by decide +kernel
theorem dX7_stop_25 : decode cX7_stop 25 = .ok (.iastore, 1) := by decide +kernel
theorem dX7_stop_26 : decode cX7_stop 26 = .ok (.aload_n 0, 1) := by decide +kernel
theorem dX7_stop_27 : decode cX7_stop 27 = .ok (.getfield 37, 3) := by decide +kernel
theorem dX7_stop_30 : decode cX7_stop 30 = .ok (.iconst 3, 1) := by decide +kernel
theorem dX7_stop_31 : decode cX7_stop 31 = .ok (.aload_n 0, 1) := by decide +kernel
theorem dX7_stop_32 : decode cX7_stop 32 = .ok (.getfield 170, 3) := by decide +kernel
theorem dX7_stop_35 : decode cX7_stop 35 = .ok (.imul, 1) := by decide +kernel
theorem dX7_stop_36 : decode cX7_stop 36 = .ok (.iconst 2, 1) := by decide +kernel
theorem dX7_stop_37 : decode cX7_stop 37 = .ok (.iadd, 1) := by decide +kernel
theorem dX7_stop_38 : decode cX7_stop 38 = .ok (.iload_n 3, 1) := by decide +kernel
theorem dX7_stop_39 : decode cX7_stop 39 = .ok (.iastore, 1) := by decide +kernel
theorem dX7_stop_40 : decode cX7_stop 40 = .ok (.aload_n 0, 1) := by decide +kernel
theorem dX7_stop_41 : decode cX7_stop 41 = .ok (.dup, 1) := by decide +kernel
theorem dX7_stop_42 : decode cX7_stop 42 = .ok (.getfield 170, 3) := by decide +kernel
theorem dX7_stop_45 : decode cX7_stop 45 = .ok (.iconst 1, 1) := by decide +kernel
theorem dX7_stop_46 : decode cX7_stop 46 = .ok (.iadd, 1) := by decide +kernel
theorem dX7_stop_47 : decode cX7_stop 47 = .ok (.putfield 170, 3) := by decide +kernel
theorem dX7_stop_50 : decode cX7_stop 50 = .ok (.return_, 1) := by decide +kernel
theorem dX7_stopAt_0 : decode cX7_stopAt 0 = .ok (.iconst 0, 1) := by decide +kernel
theorem dX7_stopAt_1 : decode cX7_stopAt 1 = .ok (.istore_n 3, 1) := by decide +kernel
theorem dX7_stopAt_2 : decode cX7_stopAt 2 = .ok (.iload_n 3, 1) := by decide +kernel
theorem dX7_stopAt_3 : decode cX7_stopAt 3 = .ok (.aload_n 0, 1) := by decide +kernel
theorem dX7_stopAt_4 : decode cX7_stopAt 4 = .ok (.getfield 170, 3) := by decide +kernel
theorem dX7_stopAt_7 : decode cX7_stopAt 7 = .ok (.if_icmp .ge 46, 3) := by decide +kernel
theorem dX7_stopAt_10 : decode cX7_stopAt 10 = .ok (.aload_n 0, 1) := by decide +kernel
theorem dX7_stopAt_11 : decode cX7_stopAt 11 = .ok (.getfield 37, 3) := by decide +kernel
theorem dX7_stopAt_14 : decode cX7_stopAt 14 = .ok (.iconst 3, 1) := by decide +kernel
theorem dX7_stopAt_15 : decode cX7_stopAt 15 = .ok (.iload_n 3, 1) := by decide +kernel
theorem dX7_stopAt_16 : decode cX7_stopAt 16 = .ok (.imul, 1) := by decide +kernel
theorem dX7_stopAt_17 : decode cX7_stopAt 17 = .ok (.iaload, 1) := by decide +kernel
theorem dX7_stopAt_18 : decode cX7_stopAt 18 = .ok (.iload_n 1, 1) := by decide +kernel
theorem dX7_stopAt_19 : decode cX7_stopAt 19 = .ok (.if_icmp .ne 28, 3) := by decide +kernel
theorem dX7_stopAt_22 : decode cX7_stopAt 22 = .ok (.aload_n 0, 1) := by decide +kernel
theorem dX7_stopAt_23 : decode cX7_stopAt 23 = .ok (.getfield 37, 3) := by decide +kernel
theorem dX7_stopAt_26 : decode cX7_stopAt 26 = .ok (.iconst 3, 1) := by decide +kernel
theorem dX7_stopAt_27 : decode cX7_stopAt 27 = .ok (.iload_n 3, 1) := by decide +kernel
theorem dX7_stopAt_28 : decode cX7_stopAt 28 = .ok (.imul, 1) := by decide +kernel
theorem dX7_stopAt_29 : decode cX7_stopAt 29 = .ok (.iconst 1, 1) := by decide +kernel
theorem dX7_stopAt_30 : decode cX7_stopAt 30 = .ok (.iadd, 1) := by decide +kernel
theorem dX7_stopAt_31 : decode cX7_stopAt 31 = .ok (.iaload, 1) := by decide +kernel
theorem dX7_stopAt_32 : decode cX7_stopAt 32 = .ok (.iload_n 2, 1) := by decide +kernel
theorem dX7_stopAt_33 : decode cX7_stopAt 33 = .ok (.if_icmp .ne 14, 3) := by decide +kernel
theorem dX7_stopAt_36 : decode cX7_stopAt 36 = .ok (.aload_n 0, 1) := by decide +kernel
theorem dX7_stopAt_37 : decode cX7_stopAt 37 = .ok (.getfield 37, 3) := by decide +kernel
theorem dX7_stopAt_40 : decode cX7_stopAt 40 = .ok (.iconst 3, 1) := by decide +kernel
theorem dX7_stopAt_41 : decode cX7_stopAt 41 = .ok (.iload_n 3, 1) := by decide +kernel
theorem dX7_stopAt_42 : decode cX7_stopAt 42 = .ok (.imul, 1) := by decide +kernel
theorem dX7_stopAt_43 : decode cX7_stopAt 43 = .ok (.iconst 2, 1) := by decide +kernel
theorem dX7_stopAt_44 : decode cX7_stopAt 44 = .ok (.iadd, 1) := by decide +kernel
theorem dX7_stopAt_45 : decode cX7_stopAt 45 = .ok (.iaload, 1) := by decide +kernel
theorem dX7_stopAt_46 : decode cX7_stopAt 46 = .ok (.ireturn, 1) := by decide +kernel
theorem dX7_stopAt_47 : decode cX7_stopAt 47 = .ok (.iinc 3 1, 3) := by decide +kernel
theorem dX7_stopAt_50 : decode cX7_stopAt 50 = .ok (.goto (-48), 3) := by decide +kernel
theorem dX7_stopAt_53 : decode cX7_stopAt 53 = .ok (.bipush (-4), 2) := by decide +kernel
theorem dX7_stopAt_55 : decode cX7_stopAt 55 = .ok (.ireturn, 1) := by decide +kernel
theorem dX7_layEnds_0 : decode cX7_layEnds 0 = .ok (.aload_n 0, 1) := by decide +kernel
theorem dX7_layEnds_1 : decode cX7_layEnds 1 = .ok (.iconst 0, 1) := by decide +kernel
theorem dX7_layEnds_2 : decode cX7_layEnds 2 = .ok (.putfield 153, 3) := by decide +kernel
theorem dX7_layEnds_5 : decode cX7_layEnds 5 = .ok (.aload_n 0, 1) := by decide +kernel
theorem dX7_layEnds_6 : decode cX7_layEnds 6 = .ok (.iconst 0, 1) := by decide +kernel
theorem dX7_layEnds_7 : decode cX7_layEnds 7 = .ok (.putfield 170, 3) := by decide +kernel
theorem dX7_layEnds_10 : decode cX7_layEnds 10 = .ok (.aload_n 0, 1) := by decide +kernel
theorem dX7_layEnds_11 : decode cX7_layEnds 11 = .ok (.iconst 0, 1) := by decide +kernel
theorem dX7_layEnds_12 : decode cX7_layEnds 12 = .ok (.putfield 173, 3) := by decide +kernel
theorem dX7_layEnds_15 : decode cX7_layEnds 15 = .ok (.aload_n 0, 1) := by decide +kernel
theorem dX7_layEnds_16 : decode cX7_layEnds 16 = .ok (.iconst 0, 1) := by decide +kernel
theorem dX7_layEnds_17 : decode cX7_layEnds 17 = .ok (.putfield 176, 3) := by decide +kernel
theorem dX7_layEnds_20 : decode cX7_layEnds 20 = .ok (.aload_n 0, 1) := by decide +kernel
theorem dX7_layEnds_21 : decode cX7_layEnds 21 = .ok (.iconst 0, 1) := by decide +kernel
theorem dX7_layEnds_22 : decode cX7_layEnds 22 = .ok (.putfield 179, 3) := by decide +kernel
theorem dX7_layEnds_25 : decode cX7_layEnds 25 = .ok (.iconst 0, 1) := by decide +kernel
theorem dX7_layEnds_26 : decode cX7_layEnds 26 = .ok (.istore_n 2, 1) := by decide +kernel
theorem dX7_layEnds_27 : decode cX7_layEnds 27 = .ok (.iload_n 2, 1) := by decide +kernel
theorem dX7_layEnds_28 : decode cX7_layEnds 28 = .ok (.bipush 8, 2) := by decide +kernel
theorem dX7_layEnds_30 : decode cX7_layEnds 30 = .ok (.if_icmp .ge 17, 3) := by decide +kernel
theorem dX7_layEnds_33 : decode cX7_layEnds 33 = .ok (.aload_n 0, 1) := by decide +kernel
theorem dX7_layEnds_34 : decode cX7_layEnds 34 = .ok (.getfield 49, 3) := by decide +kernel
theorem dX7_layEnds_37 : decode cX7_layEnds 37 = .ok (.iload_n 2, 1) := by decide +kernel
theorem dX7_layEnds_38 : decode cX7_layEnds 38 = .ok (.bipush (-4), 2) := by decide +kernel
theorem dX7_layEnds_40 : decode cX7_layEnds 40 = .ok (.iastore, 1) := by decide +kernel
theorem dX7_layEnds_41 : decode cX7_layEnds 41 = .ok (.iinc 2 1, 3) := by decide +kernel
theorem dX7_layEnds_44 : decode cX7_layEnds 44 = .ok (.goto (-17), 3) := by decide +kernel
theorem dX7_layEnds_47 : decode cX7_layEnds 47 = .ok (.iconst 0, 1) := by decide +kernel
theorem dX7_layEnds_48 : decode cX7_layEnds 48 = .ok (.istore_n 2, 1) := by decide +kernel
theorem dX7_layEnds_49 : decode cX7_layEnds 49 = .ok (.iconst 0, 1) := by decide +kernel
theorem dX7_layEnds_50 : decode cX7_layEnds 50 = .ok (.istore_n 3, 1) := by decide +kernel
theorem dX7_layEnds_51 : decode cX7_layEnds 51 = .ok (.bipush (-4), 2) := by decide +kernel
theorem dX7_layEnds_53 : decode cX7_layEnds 53 = .ok (.istore 4, 2) := by decide +kernel
theorem dX7_layEnds_55 : decode cX7_layEnds 55 = .ok (.iconst 0, 1) := by decide +kernel
theorem dX7_layEnds_56 : decode cX7_layEnds 56 = .ok (.istore 5, 2) := by decide +kernel
theorem dX7_layEnds_58 : decode cX7_layEnds 58 = .ok (.iload 5, 2) := by decide +kernel
theorem dX7_layEnds_60 : decode cX7_layEnds 60 = .ok (.aload_n 0, 1) := by decide +kernel
theorem dX7_layEnds_61 : decode cX7_layEnds 61 = .ok (.getfield 13, 3) := by decide +kernel
theorem dX7_layEnds_64 : decode cX7_layEnds 64 = .ok (.iconst 0, 1) := by decide +kernel
theorem dX7_layEnds_65 : decode cX7_layEnds 65 = .ok (.iaload, 1) := by decide +kernel
theorem dX7_layEnds_66 : decode cX7_layEnds 66 = .ok (.if_icmp .ge 286, 3) := by decide +kernel
theorem dX7_layEnds_69 : decode cX7_layEnds 69 = .ok (.aload_n 0, 1) := by decide +kernel
theorem dX7_layEnds_70 : decode cX7_layEnds 70 = .ok (.getfield 16, 3) := by decide +kernel
theorem dX7_layEnds_73 : decode cX7_layEnds 73 = .ok (.iload 5, 2) := by decide +kernel
theorem dX7_layEnds_75 : decode cX7_layEnds 75 = .ok (.iaload, 1) := by decide +kernel
theorem dX7_layEnds_76 : decode cX7_layEnds 76 = .ok (.istore 6, 2) := by decide +kernel
theorem dX7_layEnds_78 : decode cX7_layEnds 78 = .ok (.iload_n 1, 1) := by decide +kernel
theorem dX7_layEnds_79 : decode cX7_layEnds 79 = .ok (.iload_n 2, 1) := by decide +kernel
theorem dX7_layEnds_80 : decode cX7_layEnds 80 = .ok (.invokestatic 182, 3) := by decide +kernel
theorem dX7_layEnds_83 : decode cX7_layEnds 83 = .ok (.istore 7, 2) := by decide +kernel
theorem dX7_layEnds_85 : decode cX7_layEnds 85 = .ok (.iload 4, 2) := by decide +kernel
theorem dX7_layEnds_87 : decode cX7_layEnds 87 = .ok (.bipush (-4), 2) := by decide +kernel
theorem dX7_layEnds_89 : decode cX7_layEnds 89 = .ok (.if_icmp .eq 36, 3) := by decide +kernel
theorem dX7_layEnds_92 : decode cX7_layEnds 92 = .ok (.iload 6, 2) := by decide +kernel
theorem dX7_layEnds_94 : decode cX7_layEnds 94 = .ok (.invokestatic 132, 3) := by decide +kernel
theorem dX7_layEnds_97 : decode cX7_layEnds 97 = .ok (.ifCond .ne 24, 3) := by decide +kernel
theorem dX7_layEnds_100 : decode cX7_layEnds 100 = .ok (.iload 6, 2) := by decide +kernel
theorem dX7_layEnds_102 : decode cX7_layEnds 102 = .ok (.bipush 35, 2) := by decide +kernel
theorem dX7_layEnds_104 : decode cX7_layEnds 104 = .ok (.if_icmp .eq 17, 3) := by decide +kernel
theorem dX7_layEnds_107 : decode cX7_layEnds 107 = .ok (.iload 6, 2) := by decide +kernel
theorem dX7_layEnds_109 : decode cX7_layEnds 109 = .ok (.bipush 61, 2) := by decide +kernel
theorem dX7_layEnds_111 : decode cX7_layEnds 111 = .ok (.if_icmp .eq 10, 3) := by decide +kernel
theorem dX7_layEnds_114 : decode cX7_layEnds 114 = .ok (.iload 6, 2) := by decide +kernel
theorem dX7_layEnds_116 : decode cX7_layEnds 116 = .ok (.bipush 33, 2) := by decide +kernel
theorem dX7_layEnds_118 : decode cX7_layEnds 118 = .ok (.if_icmp .ne 7, 3) := by decide +kernel
theorem dX7_layEnds_121 : decode cX7_layEnds 121 = .ok (.iconst 1, 1) := by decide +kernel
theorem dX7_layEnds_122 : decode cX7_layEnds 122 = .ok (.goto 4, 3) := by decide +kernel
theorem dX7_layEnds_125 : decode cX7_layEnds 125 = .ok (.iconst 0, 1) := by decide +kernel
theorem dX7_layEnds_126 : decode cX7_layEnds 126 = .ok (.istore 8, 2) := by decide +kernel
theorem dX7_layEnds_128 : decode cX7_layEnds 128 = .ok (.iload 8, 2) := by decide +kernel
theorem dX7_layEnds_130 : decode cX7_layEnds 130 = .ok (.ifCond .eq 18, 3) := by decide +kernel
theorem dX7_layEnds_133 : decode cX7_layEnds 133 = .ok (.aload_n 0, 1) := by decide +kernel
theorem dX7_layEnds_134 : decode cX7_layEnds 134 = .ok (.getfield 16, 3) := by decide +kernel
theorem dX7_layEnds_137 : decode cX7_layEnds 137 = .ok (.iload 5, 2) := by decide +kernel
theorem dX7_layEnds_139 : decode cX7_layEnds 139 = .ok (.iconst 1, 1) := by decide +kernel
theorem dX7_layEnds_140 : decode cX7_layEnds 140 = .ok (.iadd, 1) := by decide +kernel
theorem dX7_layEnds_141 : decode cX7_layEnds 141 = .ok (.iaload, 1) := by decide +kernel
theorem dX7_layEnds_142 : decode cX7_layEnds 142 = .ok (.bipush 48, 2) := by decide +kernel
theorem dX7_layEnds_144 : decode cX7_layEnds 144 = .ok (.isub, 1) := by decide +kernel
theorem dX7_layEnds_145 : decode cX7_layEnds 145 = .ok (.goto 4, 3) := by decide +kernel
theorem dX7_layEnds_148 : decode cX7_layEnds 148 = .ok (.iconst 0, 1) := by decide +kernel
theorem dX7_layEnds_149 : decode cX7_layEnds 149 = .ok (.istore 9, 2) := by decide +kernel
theorem dX7_layEnds_151 : decode cX7_layEnds 151 = .ok (.iload 6, 2) := by decide +kernel
theorem dX7_layEnds_153 : decode cX7_layEnds 153 = .ok (.bipush 59, 2) := by decide +kernel
theorem dX7_layEnds_155 : decode cX7_layEnds 155 = .ok (.if_icmp .ne 13, 3) := by decide +kernel
theorem dX7_layEnds_158 : decode cX7_layEnds 158 = .ok (.iinc 2 1, 3) := by decide +kernel
theorem dX7_layEnds_161 : decode cX7_layEnds 161 = .ok (.bipush (-4), 2) := by decide +kernel
theorem dX7_layEnds_163 : decode cX7_layEnds 163 = .ok (.istore 4, 2) := by decide +kernel
theorem dX7_layEnds_165 : decode cX7_layEnds 165 = .ok (.goto 169, 3) := by decide +kernel
theorem dX7_layEnds_168 : decode cX7_layEnds 168 = .ok (.iload 4, 2) := by decide +kernel
theorem dX7_layEnds_170 : decode cX7_layEnds 170 = .ok (.bipush (-4), 2) := by decide +kernel
theorem dX7_layEnds_172 : decode cX7_layEnds 172 = .ok (.if_icmp .ne 41, 3) := by decide +kernel
theorem dX7_layEnds_175 : decode cX7_layEnds 175 = .ok (.iload 7, 2) := by decide +kernel
theorem dX7_layEnds_177 : decode cX7_layEnds 177 = .ok (.ifCond .eq 15, 3) := by decide +kernel
theorem dX7_layEnds_180 : decode cX7_layEnds 180 = .ok (.aload_n 0, 1) := by decide +kernel
theorem dX7_layEnds_181 : decode cX7_layEnds 181 = .ok (.iload 6, 2) := by decide +kernel
theorem dX7_layEnds_183 : decode cX7_layEnds 183 = .ok (.bipush 97, 2) := by decide +kernel
theorem dX7_layEnds_185 : decode cX7_layEnds 185 = .ok (.isub, 1) := by decide +kernel
theorem dX7_layEnds_186 : decode cX7_layEnds 186 = .ok (.invokevirtual 186, 3) := by decide +kernel
theorem dX7_layEnds_189 : decode cX7_layEnds 189 = .ok (.goto 4, 3) := by decide +kernel
theorem dX7_layEnds_192 : decode cX7_layEnds 192 = .ok (.iconst 0, 1) := by decide +kernel
theorem dX7_layEnds_193 : decode cX7_layEnds 193 = .ok (.istore 4, 2) := by decide +kernel
theorem dX7_layEnds_195 : decode cX7_layEnds 195 = .ok (.iconst 0, 1) := by decide +kernel
theorem dX7_layEnds_196 : decode cX7_layEnds 196 = .ok (.istore_n 3, 1) := by decide +kernel
theorem dX7_layEnds_197 : decode cX7_layEnds 197 = .ok (.iload 7, 2) := by decide +kernel
theorem dX7_layEnds_199 : decode cX7_layEnds 199 = .ok (.ifCond .eq 135, 3) := by decide +kernel
theorem dX7_layEnds_202 : decode cX7_layEnds 202 = .ok (.aload_n 0, 1) := by decide +kernel
theorem dX7_layEnds_203 : decode cX7_layEnds 203 = .ok (.iload_n 2, 1) := by decide +kernel
theorem dX7_layEnds_204 : decode cX7_layEnds 204 = .ok (.iconst 0, 1) := by decide +kernel
theorem dX7_layEnds_205 : decode cX7_layEnds 205 = .ok (.iload 4, 2) := by decide +kernel
theorem dX7_layEnds_207 : decode cX7_layEnds 207 = .ok (.invokevirtual 189, 3) := by decide +kernel
theorem dX7_layEnds_210 : decode cX7_layEnds 210 = .ok (.goto 124, 3) := by decide +kernel
theorem dX7_layEnds_213 : decode cX7_layEnds 213 = .ok (.iload 7, 2) := by decide +kernel
theorem dX7_layEnds_215 : decode cX7_layEnds 215 = .ok (.ifCond .eq 98, 3) := by decide +kernel
theorem dX7_layEnds_218 : decode cX7_layEnds 218 = .ok (.iload 6, 2) := by decide +kernel
theorem dX7_layEnds_220 : decode cX7_layEnds 220 = .ok (.i2l, 1) := by decide +kernel
theorem dX7_layEnds_221 : decode cX7_layEnds 221 = .ok (.ldc2_w 136, 3) := by decide +kernel
theorem dX7_layEnds_224 : decode cX7_layEnds 224 = .ok (.ldc2_w 138, 3) := by decide +kernel
theorem dX7_layEnds_227 : decode cX7_layEnds 227 = .ok (.invokestatic 118, 3) := by decide +kernel
theorem dX7_layEnds_230 : decode cX7_layEnds 230 = .ok (.ifCond .eq 83, 3) := by decide +kernel
theorem dX7_layEnds_233 : decode cX7_layEnds 233 = .ok (.aload_n 0, 1) := by decide +kernel
theorem dX7_layEnds_234 : decode cX7_layEnds 234 = .ok (.iload 4, 2) := by decide +kernel
theorem dX7_layEnds_236 : decode cX7_layEnds 236 = .ok (.iload 6, 2) := by decide +kernel
theorem dX7_layEnds_238 : decode cX7_layEnds 238 = .ok (.bipush 48, 2) := by decide +kernel
theorem dX7_layEnds_240 : decode cX7_layEnds 240 = .ok (.isub, 1) := by decide +kernel
theorem dX7_layEnds_241 : decode cX7_layEnds 241 = .ok (.invokevirtual 193, 3) := by decide +kernel
theorem dX7_layEnds_244 : decode cX7_layEnds 244 = .ok (.istore 10, 2) := by decide +kernel
theorem dX7_layEnds_246 : decode cX7_layEnds 246 = .ok (.iload 6, 2) := by decide +kernel
theorem dX7_layEnds_248 : decode cX7_layEnds 248 = .ok (.bipush 48, 2) := by decide +kernel
theorem dX7_layEnds_250 : decode cX7_layEnds 250 = .ok (.if_icmp .le 41, 3) := by decide +kernel
theorem dX7_layEnds_253 : decode cX7_layEnds 253 = .ok (.aload_n 0, 1) := by decide +kernel
theorem dX7_layEnds_254 : decode cX7_layEnds 254 = .ok (.getfield 40, 3) := by decide +kernel
theorem dX7_layEnds_257 : decode cX7_layEnds 257 = .ok (.iconst 2, 1) := by decide +kernel
theorem dX7_layEnds_258 : decode cX7_layEnds 258 = .ok (.aload_n 0, 1) := by decide +kernel
theorem dX7_layEnds_259 : decode cX7_layEnds 259 = .ok (.getfield 173, 3) := by decide +kernel
theorem dX7_layEnds_262 : decode cX7_layEnds 262 = .ok (.imul, 1) := by decide +kernel
theorem dX7_layEnds_263 : decode cX7_layEnds 263 = .ok (.iload 4, 2) := by decide +kernel
theorem dX7_layEnds_265 : decode cX7_layEnds 265 = .ok (.iastore, 1) := by decide +kernel
theorem dX7_layEnds_266 : decode cX7_layEnds 266 = .ok (.aload_n 0, 1) := by decide +kernel
theorem dX7_layEnds_267 : decode cX7_layEnds 267 = .ok (.getfield 40, 3) := by decide +kernel
theorem dX7_layEnds_270 : decode cX7_layEnds 270 = .ok (.iconst 2, 1) := by decide +kernel
theorem dX7_layEnds_271 : decode cX7_layEnds 271 = .ok (.aload_n 0, 1) := by decide +kernel
theorem dX7_layEnds_272 : decode cX7_layEnds 272 = .ok (.getfield 173, 3) := by decide +kernel
theorem dX7_layEnds_275 : decode cX7_layEnds 275 = .ok (.imul, 1) := by decide +kernel
theorem dX7_layEnds_276 : decode cX7_layEnds 276 = .ok (.iconst 1, 1) := by decide +kernel
theorem dX7_layEnds_277 : decode cX7_layEnds 277 = .ok (.iadd, 1) := by decide +kernel
theorem dX7_layEnds_278 : decode cX7_layEnds 278 = .ok (.iload 10, 2) := by decide +kernel
theorem dX7_layEnds_280 : decode cX7_layEnds 280 = .ok (.iastore, 1) := by decide +kernel
theorem dX7_layEnds_281 : decode cX7_layEnds 281 = .ok (.aload_n 0, 1) := by decide +kernel
theorem dX7_layEnds_282 : decode cX7_layEnds 282 = .ok (.dup, 1) := by decide +kernel
theorem dX7_layEnds_283 : decode cX7_layEnds 283 = .ok (.getfield 173, 3) := by decide +kernel
theorem dX7_layEnds_286 : decode cX7_layEnds 286 = .ok (.iconst 1, 1) := by decide +kernel
theorem dX7_layEnds_287 : decode cX7_layEnds 287 = .ok (.iadd, 1) := by decide +kernel
theorem dX7_layEnds_288 : decode cX7_layEnds 288 = .ok (.putfield 173, 3) := by decide +kernel
theorem dX7_layEnds_291 : decode cX7_layEnds 291 = .ok (.aload_n 0, 1) := by decide +kernel
theorem dX7_layEnds_292 : decode cX7_layEnds 292 = .ok (.iload 10, 2) := by decide +kernel
theorem dX7_layEnds_294 : decode cX7_layEnds 294 = .ok (.invokevirtual 197, 3) := by decide +kernel
theorem dX7_layEnds_297 : decode cX7_layEnds 297 = .ok (.istore 4, 2) := by decide +kernel
theorem dX7_layEnds_299 : decode cX7_layEnds 299 = .ok (.iinc 3 1, 3) := by decide +kernel
theorem dX7_layEnds_302 : decode cX7_layEnds 302 = .ok (.aload_n 0, 1) := by decide +kernel
theorem dX7_layEnds_303 : decode cX7_layEnds 303 = .ok (.iload_n 2, 1) := by decide +kernel
theorem dX7_layEnds_304 : decode cX7_layEnds 304 = .ok (.iload_n 3, 1) := by decide +kernel
theorem dX7_layEnds_305 : decode cX7_layEnds 305 = .ok (.iload 4, 2) := by decide +kernel
theorem dX7_layEnds_307 : decode cX7_layEnds 307 = .ok (.invokevirtual 189, 3) := by decide +kernel
theorem dX7_layEnds_310 : decode cX7_layEnds 310 = .ok (.goto 24, 3) := by decide +kernel
theorem dX7_layEnds_313 : decode cX7_layEnds 313 = .ok (.iload 7, 2) := by decide +kernel
theorem dX7_layEnds_315 : decode cX7_layEnds 315 = .ok (.ifCond .eq 19, 3) := by decide +kernel
theorem dX7_layEnds_318 : decode cX7_layEnds 318 = .ok (.iload 8, 2) := by decide +kernel
theorem dX7_layEnds_320 : decode cX7_layEnds 320 = .ok (.ifCond .eq 14, 3) := by decide +kernel
theorem dX7_layEnds_323 : decode cX7_layEnds 323 = .ok (.aload_n 0, 1) := by decide +kernel
theorem dX7_layEnds_324 : decode cX7_layEnds 324 = .ok (.iload_n 2, 1) := by decide +kernel
theorem dX7_layEnds_325 : decode cX7_layEnds 325 = .ok (.iload 4, 2) := by decide +kernel
theorem dX7_layEnds_327 : decode cX7_layEnds 327 = .ok (.iload 6, 2) := by decide +kernel
theorem dX7_layEnds_329 : decode cX7_layEnds 329 = .ok (.iload 9, 2) := by decide +kernel
theorem dX7_layEnds_331 : decode cX7_layEnds 331 = .ok (.invokevirtual 200, 3) := by decide +kernel
theorem dX7_layEnds_334 : decode cX7_layEnds 334 = .ok (.iload 5, 2) := by decide +kernel
theorem dX7_layEnds_336 : decode cX7_layEnds 336 = .ok (.iload 8, 2) := by decide +kernel
theorem dX7_layEnds_338 : decode cX7_layEnds 338 = .ok (.ifCond .eq 7, 3) := by decide +kernel
theorem dX7_layEnds_341 : decode cX7_layEnds 341 = .ok (.iconst 2, 1) := by decide +kernel
theorem dX7_layEnds_342 : decode cX7_layEnds 342 = .ok (.goto 4, 3) := by decide +kernel
theorem dX7_layEnds_345 : decode cX7_layEnds 345 = .ok (.iconst 1, 1) := by decide +kernel
theorem dX7_layEnds_346 : decode cX7_layEnds 346 = .ok (.iadd, 1) := by decide +kernel
theorem dX7_layEnds_347 : decode cX7_layEnds 347 = .ok (.istore 5, 2) := by decide +kernel
theorem dX7_layEnds_349 : decode cX7_layEnds 349 = .ok (.goto (-291), 3) := by decide +kernel
theorem dX7_layEnds_352 : decode cX7_layEnds 352 = .ok (.return_, 1) := by decide +kernel
theorem dX7_tell_0 : decode cX7_tell 0 = .ok (.iload_n 3, 1) := by decide +kernel
theorem dX7_tell_1 : decode cX7_tell 1 = .ok (.invokestatic 132, 3) := by decide +kernel
theorem dX7_tell_4 : decode cX7_tell 4 = .ok (.ifCond .eq 25, 3) := by decide +kernel
theorem dX7_tell_7 : decode cX7_tell 7 = .ok (.aload_n 0, 1) := by decide +kernel
theorem dX7_tell_8 : decode cX7_tell 8 = .ok (.iload_n 2, 1) := by decide +kernel
theorem dX7_tell_9 : decode cX7_tell 9 = .ok (.aload_n 0, 1) := by decide +kernel
theorem dX7_tell_10 : decode cX7_tell 10 = .ok (.aload_n 0, 1) := by decide +kernel
theorem dX7_tell_11 : decode cX7_tell 11 = .ok (.iload_n 3, 1) := by decide +kernel
theorem dX7_tell_12 : decode cX7_tell 12 = .ok (.bipush 97, 2) := by decide +kernel
theorem dX7_tell_14 : decode cX7_tell 14 = .ok (.isub, 1) := by decide +kernel
theorem dX7_tell_15 : decode cX7_tell 15 = .ok (.invokevirtual 186, 3) := by decide +kernel
theorem dX7_tell_18 : decode cX7_tell 18 = .ok (.iload 4, 2) := by decide +kernel
theorem dX7_tell_20 : decode cX7_tell 20 = .ok (.invokevirtual 193, 3) := by decide +kernel
theorem dX7_tell_23 : decode cX7_tell 23 = .ok (.invokevirtual 204, 3) := by decide +kernel
theorem dX7_tell_26 : decode cX7_tell 26 = .ok (.goto 124, 3) := by decide +kernel
theorem dX7_tell_29 : decode cX7_tell 29 = .ok (.iload_n 3, 1) := by decide +kernel
theorem dX7_tell_30 : decode cX7_tell 30 = .ok (.bipush 35, 2) := by decide +kernel
theorem dX7_tell_32 : decode cX7_tell 32 = .ok (.if_icmp .ne 55, 3) := by decide +kernel
theorem dX7_tell_35 : decode cX7_tell 35 = .ok (.aload_n 0, 1) := by decide +kernel
theorem dX7_tell_36 : decode cX7_tell 36 = .ok (.iload_n 2, 1) := by decide +kernel
theorem dX7_tell_37 : decode cX7_tell 37 = .ok (.aload_n 0, 1) := by decide +kernel
theorem dX7_tell_38 : decode cX7_tell 38 = .ok (.iload_n 2, 1) := by decide +kernel
theorem dX7_tell_39 : decode cX7_tell 39 = .ok (.iload 4, 2) := by decide +kernel
theorem dX7_tell_41 : decode cX7_tell 41 = .ok (.invokevirtual 193, 3) := by decide +kernel
theorem dX7_tell_44 : decode cX7_tell 44 = .ok (.invokevirtual 204, 3) := by decide +kernel
theorem dX7_tell_47 : decode cX7_tell 47 = .ok (.aload_n 0, 1) := by decide +kernel
theorem dX7_tell_48 : decode cX7_tell 48 = .ok (.getfield 43, 3) := by decide +kernel
theorem dX7_tell_51 : decode cX7_tell 51 = .ok (.iconst 2, 1) := by decide +kernel
theorem dX7_tell_52 : decode cX7_tell 52 = .ok (.aload_n 0, 1) := by decide +kernel
theorem dX7_tell_53 : decode cX7_tell 53 = .ok (.getfield 176, 3) := by decide +kernel
theorem dX7_tell_56 : decode cX7_tell 56 = .ok (.imul, 1) := by decide +kernel
theorem dX7_tell_57 : decode cX7_tell 57 = .ok (.iload_n 2, 1) := by decide +kernel
theorem dX7_tell_58 : decode cX7_tell 58 = .ok (.iastore, 1) := by decide +kernel
theorem dX7_tell_59 : decode cX7_tell 59 = .ok (.aload_n 0, 1) := by decide +kernel
theorem dX7_tell_60 : decode cX7_tell 60 = .ok (.getfield 43, 3) := by decide +kernel
theorem dX7_tell_63 : decode cX7_tell 63 = .ok (.iconst 2, 1) := by decide +kernel
theorem dX7_tell_64 : decode cX7_tell 64 = .ok (.aload_n 0, 1) := by decide +kernel
theorem dX7_tell_65 : decode cX7_tell 65 = .ok (.getfield 176, 3) := by decide +kernel
theorem dX7_tell_68 : decode cX7_tell 68 = .ok (.imul, 1) := by decide +kernel
theorem dX7_tell_69 : decode cX7_tell 69 = .ok (.iconst 1, 1) := by decide +kernel
theorem dX7_tell_70 : decode cX7_tell 70 = .ok (.iadd, 1) := by decide +kernel
theorem dX7_tell_71 : decode cX7_tell 71 = .ok (.iload 4, 2) := by decide +kernel
theorem dX7_tell_73 : decode cX7_tell 73 = .ok (.iastore, 1) := by decide +kernel
theorem dX7_tell_74 : decode cX7_tell 74 = .ok (.aload_n 0, 1) := by decide +kernel
theorem dX7_tell_75 : decode cX7_tell 75 = .ok (.dup, 1) := by decide +kernel
theorem dX7_tell_76 : decode cX7_tell 76 = .ok (.getfield 176, 3) := by decide +kernel
theorem dX7_tell_79 : decode cX7_tell 79 = .ok (.iconst 1, 1) := by decide +kernel
theorem dX7_tell_80 : decode cX7_tell 80 = .ok (.iadd, 1) := by decide +kernel
theorem dX7_tell_81 : decode cX7_tell 81 = .ok (.putfield 176, 3) := by decide +kernel
theorem dX7_tell_84 : decode cX7_tell 84 = .ok (.goto 66, 3) := by decide +kernel
theorem dX7_tell_87 : decode cX7_tell 87 = .ok (.iload_n 3, 1) := by decide +kernel
theorem dX7_tell_88 : decode cX7_tell 88 = .ok (.bipush 61, 2) := by decide +kernel
theorem dX7_tell_90 : decode cX7_tell 90 = .ok (.if_icmp .ne 18, 3) := by decide +kernel
theorem dX7_tell_93 : decode cX7_tell 93 = .ok (.aload_n 0, 1) := by decide +kernel
theorem dX7_tell_94 : decode cX7_tell 94 = .ok (.iload_n 2, 1) := by decide +kernel
theorem dX7_tell_95 : decode cX7_tell 95 = .ok (.aload_n 0, 1) := by decide +kernel
theorem dX7_tell_96 : decode cX7_tell 96 = .ok (.iload_n 1, 1) := by decide +kernel
theorem dX7_tell_97 : decode cX7_tell 97 = .ok (.iload 4, 2) := by decide +kernel
theorem dX7_tell_99 : decode cX7_tell 99 = .ok (.invokevirtual 207, 3) := by decide +kernel
theorem dX7_tell_102 : decode cX7_tell 102 = .ok (.invokevirtual 204, 3) := by decide +kernel
theorem dX7_tell_105 : decode cX7_tell 105 = .ok (.goto 45, 3) := by decide +kernel
theorem dX7_tell_108 : decode cX7_tell 108 = .ok (.aload_n 0, 1) := by decide +kernel
theorem dX7_tell_109 : decode cX7_tell 109 = .ok (.getfield 46, 3) := by decide +kernel
theorem dX7_tell_112 : decode cX7_tell 112 = .ok (.iconst 2, 1) := by decide +kernel
theorem dX7_tell_113 : decode cX7_tell 113 = .ok (.aload_n 0, 1) := by decide +kernel
theorem dX7_tell_114 : decode cX7_tell 114 = .ok (.getfield 179, 3) := by decide +kernel
theorem dX7_tell_117 : decode cX7_tell 117 = .ok (.imul, 1) := by decide +kernel
theorem dX7_tell_118 : decode cX7_tell 118 = .ok (.iload_n 2, 1) := by decide +kernel
theorem dX7_tell_119 : decode cX7_tell 119 = .ok (.iastore, 1) := by decide +kernel
theorem dX7_tell_120 : decode cX7_tell 120 = .ok (.aload_n 0, 1) := by decide +kernel
theorem dX7_tell_121 : decode cX7_tell 121 = .ok (.getfield 46, 3) := by decide +kernel
theorem dX7_tell_124 : decode cX7_tell 124 = .ok (.iconst 2, 1) := by decide +kernel
theorem dX7_tell_125 : decode cX7_tell 125 = .ok (.aload_n 0, 1) := by decide +kernel
theorem dX7_tell_126 : decode cX7_tell 126 = .ok (.getfield 179, 3) := by decide +kernel
theorem dX7_tell_129 : decode cX7_tell 129 = .ok (.imul, 1) := by decide +kernel
theorem dX7_tell_130 : decode cX7_tell 130 = .ok (.iconst 1, 1) := by decide +kernel
theorem dX7_tell_131 : decode cX7_tell 131 = .ok (.iadd, 1) := by decide +kernel
theorem dX7_tell_132 : decode cX7_tell 132 = .ok (.aload_n 0, 1) := by decide +kernel
theorem dX7_tell_133 : decode cX7_tell 133 = .ok (.iload_n 1, 1) := by decide +kernel
theorem dX7_tell_134 : decode cX7_tell 134 = .ok (.iload 4, 2) := by decide +kernel
theorem dX7_tell_136 : decode cX7_tell 136 = .ok (.invokevirtual 207, 3) := by decide +kernel
theorem dX7_tell_139 : decode cX7_tell 139 = .ok (.iastore, 1) := by decide +kernel
theorem dX7_tell_140 : decode cX7_tell 140 = .ok (.aload_n 0, 1) := by decide +kernel
theorem dX7_tell_141 : decode cX7_tell 141 = .ok (.dup, 1) := by decide +kernel
theorem dX7_tell_142 : decode cX7_tell 142 = .ok (.getfield 179, 3) := by decide +kernel
theorem dX7_tell_145 : decode cX7_tell 145 = .ok (.iconst 1, 1) := by decide +kernel
theorem dX7_tell_146 : decode cX7_tell 146 = .ok (.iadd, 1) := by decide +kernel
theorem dX7_tell_147 : decode cX7_tell 147 = .ok (.putfield 179, 3) := by decide +kernel
theorem dX7_tell_150 : decode cX7_tell 150 = .ok (.return_, 1) := by decide +kernel
theorem dX7_layCorners_0 : decode cX7_layCorners 0 = .ok (.aload_n 0, 1) := by decide +kernel
theorem dX7_layCorners_1 : decode cX7_layCorners 1 = .ok (.iconst 0, 1) := by decide +kernel
theorem dX7_layCorners_2 : decode cX7_layCorners 2 = .ok (.putfield 210, 3) := by decide +kernel
theorem dX7_layCorners_5 : decode cX7_layCorners 5 = .ok (.iconst 0, 1) := by decide +kernel
theorem dX7_layCorners_6 : decode cX7_layCorners 6 = .ok (.istore_n 1, 1) := by decide +kernel
theorem dX7_layCorners_7 : decode cX7_layCorners 7 = .ok (.iload_n 1, 1) := by decide +kernel
theorem dX7_layCorners_8 : decode cX7_layCorners 8 = .ok (.aload_n 0, 1) := by decide +kernel
theorem dX7_layCorners_9 : decode cX7_layCorners 9 = .ok (.getfield 153, 3) := by decide +kernel
theorem dX7_layCorners_12 : decode cX7_layCorners 12 = .ok (.if_icmp .ge 17, 3) := by decide +kernel
theorem dX7_layCorners_15 : decode cX7_layCorners 15 = .ok (.aload_n 0, 1) := by decide +kernel
theorem dX7_layCorners_16 : decode cX7_layCorners 16 = .ok (.getfield 52, 3) := by decide +kernel
theorem dX7_layCorners_19 : decode cX7_layCorners 19 = .ok (.iload_n 1, 1) := by decide +kernel
theorem dX7_layCorners_20 : decode cX7_layCorners 20 = .ok (.bipush (-4), 2) := by decide +kernel
theorem dX7_layCorners_22 : decode cX7_layCorners 22 = .ok (.iastore, 1) := by decide +kernel
theorem dX7_layCorners_23 : decode cX7_layCorners 23 = .ok (.iinc 1 1, 3) := by decide +kernel
theorem dX7_layCorners_26 : decode cX7_layCorners 26 = .ok (.goto (-19), 3) := by decide +kernel
theorem dX7_layCorners_29 : decode cX7_layCorners 29 = .ok (.iconst 0, 1) := by decide +kernel
theorem dX7_layCorners_30 : decode cX7_layCorners 30 = .ok (.istore_n 1, 1) := by decide +kernel
theorem dX7_layCorners_31 : decode cX7_layCorners 31 = .ok (.iload_n 1, 1) := by decide +kernel
theorem dX7_layCorners_32 : decode cX7_layCorners 32 = .ok (.aload_n 0, 1) := by decide +kernel
theorem dX7_layCorners_33 : decode cX7_layCorners 33 = .ok (.getfield 153, 3) := by decide +kernel
theorem dX7_layCorners_36 : decode cX7_layCorners 36 = .ok (.if_icmp .ge 99, 3) := by decide +kernel
theorem dX7_layCorners_39 : decode cX7_layCorners 39 = .ok (.aload_n 0, 1) := by decide +kernel
theorem dX7_layCorners_40 : decode cX7_layCorners 40 = .ok (.getfield 22, 3) := by decide +kernel
theorem dX7_layCorners_43 : decode cX7_layCorners 43 = .ok (.iload_n 1, 1) := by decide +kernel
theorem dX7_layCorners_44 : decode cX7_layCorners 44 = .ok (.iaload, 1) := by decide +kernel
theorem dX7_layCorners_45 : decode cX7_layCorners 45 = .ok (.iload_n 1, 1) := by decide +kernel
theorem dX7_layCorners_46 : decode cX7_layCorners 46 = .ok (.if_icmp .ne 83, 3) := by decide +kernel
theorem dX7_layCorners_49 : decode cX7_layCorners 49 = .ok (.aload_n 0, 1) := by decide +kernel
theorem dX7_layCorners_50 : decode cX7_layCorners 50 = .ok (.getfield 52, 3) := by decide +kernel
theorem dX7_layCorners_53 : decode cX7_layCorners 53 = .ok (.iload_n 1, 1) := by decide +kernel
theorem dX7_layCorners_54 : decode cX7_layCorners 54 = .ok (.iaload, 1) := by decide +kernel
theorem dX7_layCorners_55 : decode cX7_layCorners 55 = .ok (.bipush (-4), 2) := by decide +kernel
theorem dX7_layCorners_57 : decode cX7_layCorners 57 = .ok (.if_icmp .ne 72, 3) := by decide +kernel
theorem dX7_layCorners_60 : decode cX7_layCorners 60 = .ok (.aload_n 0, 1) := by decide +kernel
theorem dX7_layCorners_61 : decode cX7_layCorners 61 = .ok (.iload_n 1, 1) := by decide +kernel
theorem dX7_layCorners_62 : decode cX7_layCorners 62 = .ok (.invokevirtual 213, 3) := by decide +kernel
theorem dX7_layCorners_65 : decode cX7_layCorners 65 = .ok (.istore_n 2, 1) := by decide +kernel
theorem dX7_layCorners_66 : decode cX7_layCorners 66 = .ok (.iload_n 2, 1) := by decide +kernel
theorem dX7_layCorners_67 : decode cX7_layCorners 67 = .ok (.ifCond .lt 52, 3) := by decide +kernel
theorem dX7_layCorners_70 : decode cX7_layCorners 70 = .ok (.aload_n 0, 1) := by decide +kernel
theorem dX7_layCorners_71 : decode cX7_layCorners 71 = .ok (.getfield 52, 3) := by decide +kernel
theorem dX7_layCorners_74 : decode cX7_layCorners 74 = .ok (.iload_n 2, 1) := by decide +kernel
theorem dX7_layCorners_75 : decode cX7_layCorners 75 = .ok (.iaload, 1) := by decide +kernel
theorem dX7_layCorners_76 : decode cX7_layCorners 76 = .ok (.bipush (-4), 2) := by decide +kernel
theorem dX7_layCorners_78 : decode cX7_layCorners 78 = .ok (.if_icmp .ne 41, 3) := by decide +kernel
theorem dX7_layCorners_81 : decode cX7_layCorners 81 = .ok (.aload_n 0, 1) := by decide +kernel
theorem dX7_layCorners_82 : decode cX7_layCorners 82 = .ok (.getfield 52, 3) := by decide +kernel
theorem dX7_layCorners_85 : decode cX7_layCorners 85 = .ok (.iload_n 2, 1) := by decide +kernel
theorem dX7_layCorners_86 : decode cX7_layCorners 86 = .ok (.aload_n 0, 1) := by decide +kernel
theorem dX7_layCorners_87 : decode cX7_layCorners 87 = .ok (.getfield 210, 3) := by decide +kernel
theorem dX7_layCorners_90 : decode cX7_layCorners 90 = .ok (.iastore, 1) := by decide +kernel
theorem dX7_layCorners_91 : decode cX7_layCorners 91 = .ok (.aload_n 0, 1) := by decide +kernel
theorem dX7_layCorners_92 : decode cX7_layCorners 92 = .ok (.getfield 25, 3) := by decide +kernel
theorem dX7_layCorners_95 : decode cX7_layCorners 95 = .ok (.iload_n 2, 1) := by decide +kernel
theorem dX7_layCorners_96 : decode cX7_layCorners 96 = .ok (.iaload, 1) := by decide +kernel
theorem dX7_layCorners_97 : decode cX7_layCorners 97 = .ok (.ifCond .ge 8, 3) := by decide +kernel
theorem dX7_layCorners_100 : decode cX7_layCorners 100 = .ok (.bipush (-4), 2) := by decide +kernel
theorem dX7_layCorners_102 : decode cX7_layCorners 102 = .ok (.goto 13, 3) := by decide +kernel
theorem dX7_layCorners_105 : decode cX7_layCorners 105 = .ok (.aload_n 0, 1) := by decide +kernel
theorem dX7_layCorners_106 : decode cX7_layCorners 106 = .ok (.aload_n 0, 1) := by decide +kernel
theorem dX7_layCorners_107 : decode cX7_layCorners 107 = .ok (.getfield 25, 3) := by decide +kernel
theorem dX7_layCorners_110 : decode cX7_layCorners 110 = .ok (.iload_n 2, 1) := by decide +kernel
theorem dX7_layCorners_111 : decode cX7_layCorners 111 = .ok (.iaload, 1) := by decide +kernel
theorem dX7_layCorners_112 : decode cX7_layCorners 112 = .ok (.invokevirtual 163, 3) := by decide +kernel
theorem dX7_layCorners_115 : decode cX7_layCorners 115 = .ok (.istore_n 2, 1) := by decide +kernel
theorem dX7_layCorners_116 : decode cX7_layCorners 116 = .ok (.goto (-50), 3) := by decide +kernel
theorem dX7_layCorners_119 : decode cX7_layCorners 119 = .ok (.aload_n 0, 1) := by decide +kernel
theorem dX7_layCorners_120 : decode cX7_layCorners 120 = .ok (.dup, 1) := by decide +kernel
theorem dX7_layCorners_121 : decode cX7_layCorners 121 = .ok (.getfield 210, 3) := by decide +kernel
theorem dX7_layCorners_124 : decode cX7_layCorners 124 = .ok (.iconst 1, 1) := by decide +kernel
theorem dX7_layCorners_125 : decode cX7_layCorners 125 = .ok (.iadd, 1) := by decide +kernel
theorem dX7_layCorners_126 : decode cX7_layCorners 126 = .ok (.putfield 210, 3) := by decide +kernel
theorem dX7_layCorners_129 : decode cX7_layCorners 129 = .ok (.iinc 1 1, 3) := by decide +kernel
theorem dX7_layCorners_132 : decode cX7_layCorners 132 = .ok (.goto (-101), 3) := by decide +kernel
