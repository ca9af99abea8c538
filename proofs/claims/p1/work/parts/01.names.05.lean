theorem dX7_layCorners_135 : decode cX7_layCorners 135 = .ok (.return_, 1) := by decide +kernel
theorem dX7_startOf_0 : decode cX7_startOf 0 = .ok (.iload_n 1, 1) := by decide +kernel
theorem dX7_startOf_1 : decode cX7_startOf 1 = .ok (.istore_n 2, 1) := by decide +kernel
theorem dX7_startOf_2 : decode cX7_startOf 2 = .ok (.aload_n 0, 1) := by decide +kernel
theorem dX7_startOf_3 : decode cX7_startOf 3 = .ok (.getfield 28, 3) := by decide +kernel
theorem dX7_startOf_6 : decode cX7_startOf 6 = .ok (.iload_n 2, 1) := by decide +kernel
theorem dX7_startOf_7 : decode cX7_startOf 7 = .ok (.iaload, 1) := by decide +kernel
theorem dX7_startOf_8 : decode cX7_startOf 8 = .ok (.ifCond .lt 21, 3) := by decide +kernel
theorem dX7_startOf_11 : decode cX7_startOf 11 = .ok (.aload_n 0, 1) := by decide +kernel
theorem dX7_startOf_12 : decode cX7_startOf 12 = .ok (.aload_n 0, 1) := by decide +kernel
theorem dX7_startOf_13 : decode cX7_startOf 13 = .ok (.getfield 28, 3) := by decide +kernel
theorem dX7_startOf_16 : decode cX7_startOf 16 = .ok (.iload_n 2, 1) := by decide +kernel
theorem dX7_startOf_17 : decode cX7_startOf 17 = .ok (.iaload, 1) := by decide +kernel
theorem dX7_startOf_18 : decode cX7_startOf 18 = .ok (.invokevirtual 163, 3) := by decide +kernel
theorem dX7_startOf_21 : decode cX7_startOf 21 = .ok (.istore_n 2, 1) := by decide +kernel
theorem dX7_startOf_22 : decode cX7_startOf 22 = .ok (.iload_n 2, 1) := by decide +kernel
theorem dX7_startOf_23 : decode cX7_startOf 23 = .ok (.iload_n 1, 1) := by decide +kernel
theorem dX7_startOf_24 : decode cX7_startOf 24 = .ok (.if_icmp .ne (-22), 3) := by decide +kernel
theorem dX7_startOf_27 : decode cX7_startOf 27 = .ok (.iload_n 1, 1) := by decide +kernel
theorem dX7_startOf_28 : decode cX7_startOf 28 = .ok (.ireturn, 1) := by decide +kernel
theorem dX7_startOf_29 : decode cX7_startOf 29 = .ok (.iload_n 2, 1) := by decide +kernel
theorem dX7_startOf_30 : decode cX7_startOf 30 = .ok (.ireturn, 1) := by decide +kernel
theorem dX7_cornerAt_0 : decode cX7_cornerAt 0 = .ok (.aload_n 0, 1) := by decide +kernel
theorem dX7_cornerAt_1 : decode cX7_cornerAt 1 = .ok (.getfield 52, 3) := by decide +kernel
theorem dX7_cornerAt_4 : decode cX7_cornerAt 4 = .ok (.aload_n 0, 1) := by decide +kernel
theorem dX7_cornerAt_5 : decode cX7_cornerAt 5 = .ok (.iload_n 1, 1) := by decide +kernel
theorem dX7_cornerAt_6 : decode cX7_cornerAt 6 = .ok (.invokevirtual 163, 3) := by decide +kernel
theorem dX7_cornerAt_9 : decode cX7_cornerAt 9 = .ok (.iaload, 1) := by decide +kernel
theorem dX7_cornerAt_10 : decode cX7_cornerAt 10 = .ok (.ireturn, 1) := by decide +kernel
theorem dX7_bars_0 : decode cX7_bars 0 = .ok (.iconst 0, 1) := by decide +kernel
theorem dX7_bars_1 : decode cX7_bars 1 = .ok (.istore_n 1, 1) := by decide +kernel
theorem dX7_bars_2 : decode cX7_bars 2 = .ok (.iload_n 1, 1) := by decide +kernel
theorem dX7_bars_3 : decode cX7_bars 3 = .ok (.bipush 8, 2) := by decide +kernel
theorem dX7_bars_5 : decode cX7_bars 5 = .ok (.if_icmp .ge 65, 3) := by decide +kernel
theorem dX7_bars_8 : decode cX7_bars 8 = .ok (.iconst 0, 1) := by decide +kernel
theorem dX7_bars_9 : decode cX7_bars 9 = .ok (.istore_n 2, 1) := by decide +kernel
theorem dX7_bars_10 : decode cX7_bars 10 = .ok (.iload_n 2, 1) := by decide +kernel
theorem dX7_bars_11 : decode cX7_bars 11 = .ok (.iload_n 1, 1) := by decide +kernel
theorem dX7_bars_12 : decode cX7_bars 12 = .ok (.if_icmp .ge 52, 3) := by decide +kernel
theorem dX7_bars_15 : decode cX7_bars 15 = .ok (.aload_n 0, 1) := by decide +kernel
theorem dX7_bars_16 : decode cX7_bars 16 = .ok (.getfield 49, 3) := by decide +kernel
theorem dX7_bars_19 : decode cX7_bars 19 = .ok (.iload_n 1, 1) := by decide +kernel
theorem dX7_bars_20 : decode cX7_bars 20 = .ok (.iaload, 1) := by decide +kernel
theorem dX7_bars_21 : decode cX7_bars 21 = .ok (.ifCond .lt 37, 3) := by decide +kernel
theorem dX7_bars_24 : decode cX7_bars 24 = .ok (.aload_n 0, 1) := by decide +kernel
theorem dX7_bars_25 : decode cX7_bars 25 = .ok (.getfield 49, 3) := by decide +kernel
theorem dX7_bars_28 : decode cX7_bars 28 = .ok (.iload_n 2, 1) := by decide +kernel
theorem dX7_bars_29 : decode cX7_bars 29 = .ok (.iaload, 1) := by decide +kernel
theorem dX7_bars_30 : decode cX7_bars 30 = .ok (.ifCond .lt 28, 3) := by decide +kernel
theorem dX7_bars_33 : decode cX7_bars 33 = .ok (.aload_n 0, 1) := by decide +kernel
theorem dX7_bars_34 : decode cX7_bars 34 = .ok (.aload_n 0, 1) := by decide +kernel
theorem dX7_bars_35 : decode cX7_bars 35 = .ok (.getfield 49, 3) := by decide +kernel
theorem dX7_bars_38 : decode cX7_bars 38 = .ok (.iload_n 1, 1) := by decide +kernel
theorem dX7_bars_39 : decode cX7_bars 39 = .ok (.iaload, 1) := by decide +kernel
theorem dX7_bars_40 : decode cX7_bars 40 = .ok (.invokevirtual 216, 3) := by decide +kernel
theorem dX7_bars_43 : decode cX7_bars 43 = .ok (.aload_n 0, 1) := by decide +kernel
theorem dX7_bars_44 : decode cX7_bars 44 = .ok (.aload_n 0, 1) := by decide +kernel
theorem dX7_bars_45 : decode cX7_bars 45 = .ok (.getfield 49, 3) := by decide +kernel
theorem dX7_bars_48 : decode cX7_bars 48 = .ok (.iload_n 2, 1) := by decide +kernel
theorem dX7_bars_49 : decode cX7_bars 49 = .ok (.iaload, 1) := by decide +kernel
theorem dX7_bars_50 : decode cX7_bars 50 = .ok (.invokevirtual 216, 3) := by decide +kernel
theorem dX7_bars_53 : decode cX7_bars 53 = .ok (.if_icmp .ne 5, 3) := by decide +kernel
theorem dX7_bars_56 : decode cX7_bars 56 = .ok (.iconst 1, 1) := by decide +kernel
theorem dX7_bars_57 : decode cX7_bars 57 = .ok (.ireturn, 1) := by decide +kernel
theorem dX7_bars_58 : decode cX7_bars 58 = .ok (.iinc 2 1, 3) := by decide +kernel
theorem dX7_bars_61 : decode cX7_bars 61 = .ok (.goto (-51), 3) := by decide +kernel
theorem dX7_bars_64 : decode cX7_bars 64 = .ok (.iinc 1 1, 3) := by decide +kernel
theorem dX7_bars_67 : decode cX7_bars 67 = .ok (.goto (-65), 3) := by decide +kernel
theorem dX7_bars_70 : decode cX7_bars 70 = .ok (.iconst 0, 1) := by decide +kernel
theorem dX7_bars_71 : decode cX7_bars 71 = .ok (.istore_n 1, 1) := by decide +kernel
theorem dX7_bars_72 : decode cX7_bars 72 = .ok (.iload_n 1, 1) := by decide +kernel
theorem dX7_bars_73 : decode cX7_bars 73 = .ok (.aload_n 0, 1) := by decide +kernel
theorem dX7_bars_74 : decode cX7_bars 74 = .ok (.getfield 153, 3) := by decide +kernel
theorem dX7_bars_77 : decode cX7_bars 77 = .ok (.if_icmp .ge 44, 3) := by decide +kernel
theorem dX7_bars_80 : decode cX7_bars 80 = .ok (.aload_n 0, 1) := by decide +kernel
theorem dX7_bars_81 : decode cX7_bars 81 = .ok (.getfield 22, 3) := by decide +kernel
theorem dX7_bars_84 : decode cX7_bars 84 = .ok (.iload_n 1, 1) := by decide +kernel
theorem dX7_bars_85 : decode cX7_bars 85 = .ok (.iaload, 1) := by decide +kernel
theorem dX7_bars_86 : decode cX7_bars 86 = .ok (.iload_n 1, 1) := by decide +kernel
theorem dX7_bars_87 : decode cX7_bars 87 = .ok (.if_icmp .ne 28, 3) := by decide +kernel
theorem dX7_bars_90 : decode cX7_bars 90 = .ok (.aload_n 0, 1) := by decide +kernel
theorem dX7_bars_91 : decode cX7_bars 91 = .ok (.getfield 31, 3) := by decide +kernel
theorem dX7_bars_94 : decode cX7_bars 94 = .ok (.iload_n 1, 1) := by decide +kernel
theorem dX7_bars_95 : decode cX7_bars 95 = .ok (.iaload, 1) := by decide +kernel
theorem dX7_bars_96 : decode cX7_bars 96 = .ok (.ifCond .lt 19, 3) := by decide +kernel
theorem dX7_bars_99 : decode cX7_bars 99 = .ok (.aload_n 0, 1) := by decide +kernel
theorem dX7_bars_100 : decode cX7_bars 100 = .ok (.aload_n 0, 1) := by decide +kernel
theorem dX7_bars_101 : decode cX7_bars 101 = .ok (.getfield 31, 3) := by decide +kernel
theorem dX7_bars_104 : decode cX7_bars 104 = .ok (.iload_n 1, 1) := by decide +kernel
theorem dX7_bars_105 : decode cX7_bars 105 = .ok (.iaload, 1) := by decide +kernel
theorem dX7_bars_106 : decode cX7_bars 106 = .ok (.invokevirtual 163, 3) := by decide +kernel
theorem dX7_bars_109 : decode cX7_bars 109 = .ok (.iload_n 1, 1) := by decide +kernel
theorem dX7_bars_110 : decode cX7_bars 110 = .ok (.if_icmp .ne 5, 3) := by decide +kernel
theorem dX7_bars_113 : decode cX7_bars 113 = .ok (.iconst 1, 1) := by decide +kernel
theorem dX7_bars_114 : decode cX7_bars 114 = .ok (.ireturn, 1) := by decide +kernel
theorem dX7_bars_115 : decode cX7_bars 115 = .ok (.iinc 1 1, 3) := by decide +kernel
theorem dX7_bars_118 : decode cX7_bars 118 = .ok (.goto (-46), 3) := by decide +kernel
theorem dX7_bars_121 : decode cX7_bars 121 = .ok (.iconst 0, 1) := by decide +kernel
theorem dX7_bars_122 : decode cX7_bars 122 = .ok (.istore_n 1, 1) := by decide +kernel
theorem dX7_bars_123 : decode cX7_bars 123 = .ok (.iload_n 1, 1) := by decide +kernel
theorem dX7_bars_124 : decode cX7_bars 124 = .ok (.aload_n 0, 1) := by decide +kernel
theorem dX7_bars_125 : decode cX7_bars 125 = .ok (.getfield 173, 3) := by decide +kernel
theorem dX7_bars_128 : decode cX7_bars 128 = .ok (.if_icmp .ge 40, 3) := by decide +kernel
theorem dX7_bars_131 : decode cX7_bars 131 = .ok (.aload_n 0, 1) := by decide +kernel
theorem dX7_bars_132 : decode cX7_bars 132 = .ok (.aload_n 0, 1) := by decide +kernel
theorem dX7_bars_133 : decode cX7_bars 133 = .ok (.getfield 40, 3) := by decide +kernel
theorem dX7_bars_136 : decode cX7_bars 136 = .ok (.iconst 2, 1) := by decide +kernel
theorem dX7_bars_137 : decode cX7_bars 137 = .ok (.iload_n 1, 1) := by decide +kernel
theorem dX7_bars_138 : decode cX7_bars 138 = .ok (.imul, 1) := by decide +kernel
theorem dX7_bars_139 : decode cX7_bars 139 = .ok (.iaload, 1) := by decide +kernel
theorem dX7_bars_140 : decode cX7_bars 140 = .ok (.invokevirtual 163, 3) := by decide +kernel
theorem dX7_bars_143 : decode cX7_bars 143 = .ok (.aload_n 0, 1) := by decide +kernel
theorem dX7_bars_144 : decode cX7_bars 144 = .ok (.aload_n 0, 1) := by decide +kernel
theorem dX7_bars_145 : decode cX7_bars 145 = .ok (.getfield 40, 3) := by decide +kernel
theorem dX7_bars_148 : decode cX7_bars 148 = .ok (.iconst 2, 1) := by decide +kernel
theorem dX7_bars_149 : decode cX7_bars 149 = .ok (.iload_n 1, 1) := by decide +kernel
theorem dX7_bars_150 : decode cX7_bars 150 = .ok (.imul, 1) := by decide +kernel
theorem dX7_bars_151 : decode cX7_bars 151 = .ok (.iconst 1, 1) := by decide +kernel
theorem dX7_bars_152 : decode cX7_bars 152 = .ok (.iadd, 1) := by decide +kernel
theorem dX7_bars_153 : decode cX7_bars 153 = .ok (.iaload, 1) := by decide +kernel
theorem dX7_bars_154 : decode cX7_bars 154 = .ok (.invokevirtual 163, 3) := by decide +kernel
theorem dX7_bars_157 : decode cX7_bars 157 = .ok (.if_icmp .ne 5, 3) := by decide +kernel
theorem dX7_bars_160 : decode cX7_bars 160 = .ok (.iconst 1, 1) := by decide +kernel
theorem dX7_bars_161 : decode cX7_bars 161 = .ok (.ireturn, 1) := by decide +kernel
theorem dX7_bars_162 : decode cX7_bars 162 = .ok (.iinc 1 1, 3) := by decide +kernel
theorem dX7_bars_165 : decode cX7_bars 165 = .ok (.goto (-42), 3) := by decide +kernel
theorem dX7_bars_168 : decode cX7_bars 168 = .ok (.iconst 0, 1) := by decide +kernel
theorem dX7_bars_169 : decode cX7_bars 169 = .ok (.istore_n 1, 1) := by decide +kernel
theorem dX7_bars_170 : decode cX7_bars 170 = .ok (.iload_n 1, 1) := by decide +kernel
theorem dX7_bars_171 : decode cX7_bars 171 = .ok (.aload_n 0, 1) := by decide +kernel
theorem dX7_bars_172 : decode cX7_bars 172 = .ok (.getfield 176, 3) := by decide +kernel
theorem dX7_bars_175 : decode cX7_bars 175 = .ok (.if_icmp .ge 66, 3) := by decide +kernel
theorem dX7_bars_178 : decode cX7_bars 178 = .ok (.aload_n 0, 1) := by decide +kernel
theorem dX7_bars_179 : decode cX7_bars 179 = .ok (.aload_n 0, 1) := by decide +kernel
theorem dX7_bars_180 : decode cX7_bars 180 = .ok (.getfield 43, 3) := by decide +kernel
theorem dX7_bars_183 : decode cX7_bars 183 = .ok (.iconst 2, 1) := by decide +kernel
theorem dX7_bars_184 : decode cX7_bars 184 = .ok (.iload_n 1, 1) := by decide +kernel
theorem dX7_bars_185 : decode cX7_bars 185 = .ok (.imul, 1) := by decide +kernel
theorem dX7_bars_186 : decode cX7_bars 186 = .ok (.iaload, 1) := by decide +kernel
theorem dX7_bars_187 : decode cX7_bars 187 = .ok (.invokevirtual 163, 3) := by decide +kernel
theorem dX7_bars_190 : decode cX7_bars 190 = .ok (.istore_n 2, 1) := by decide +kernel
theorem dX7_bars_191 : decode cX7_bars 191 = .ok (.iload_n 2, 1) := by decide +kernel
theorem dX7_bars_192 : decode cX7_bars 192 = .ok (.istore_n 3, 1) := by decide +kernel
theorem dX7_bars_193 : decode cX7_bars 193 = .ok (.iconst 1, 1) := by decide +kernel
theorem dX7_bars_194 : decode cX7_bars 194 = .ok (.istore 4, 2) := by decide +kernel
theorem dX7_bars_196 : decode cX7_bars 196 = .ok (.iload 4, 2) := by decide +kernel
theorem dX7_bars_198 : decode cX7_bars 198 = .ok (.aload_n 0, 1) := by decide +kernel
theorem dX7_bars_199 : decode cX7_bars 199 = .ok (.getfield 43, 3) := by decide +kernel
theorem dX7_bars_202 : decode cX7_bars 202 = .ok (.iconst 2, 1) := by decide +kernel
theorem dX7_bars_203 : decode cX7_bars 203 = .ok (.iload_n 1, 1) := by decide +kernel
theorem dX7_bars_204 : decode cX7_bars 204 = .ok (.imul, 1) := by decide +kernel
theorem dX7_bars_205 : decode cX7_bars 205 = .ok (.iconst 1, 1) := by decide +kernel
theorem dX7_bars_206 : decode cX7_bars 206 = .ok (.iadd, 1) := by decide +kernel
theorem dX7_bars_207 : decode cX7_bars 207 = .ok (.iaload, 1) := by decide +kernel
theorem dX7_bars_208 : decode cX7_bars 208 = .ok (.if_icmp .ge 27, 3) := by decide +kernel
theorem dX7_bars_211 : decode cX7_bars 211 = .ok (.aload_n 0, 1) := by decide +kernel
theorem dX7_bars_212 : decode cX7_bars 212 = .ok (.aload_n 0, 1) := by decide +kernel
theorem dX7_bars_213 : decode cX7_bars 213 = .ok (.getfield 25, 3) := by decide +kernel
theorem dX7_bars_216 : decode cX7_bars 216 = .ok (.iload_n 3, 1) := by decide +kernel
theorem dX7_bars_217 : decode cX7_bars 217 = .ok (.iaload, 1) := by decide +kernel
theorem dX7_bars_218 : decode cX7_bars 218 = .ok (.invokevirtual 163, 3) := by decide +kernel
theorem dX7_bars_221 : decode cX7_bars 221 = .ok (.istore_n 3, 1) := by decide +kernel
theorem dX7_bars_222 : decode cX7_bars 222 = .ok (.iload_n 3, 1) := by decide +kernel
theorem dX7_bars_223 : decode cX7_bars 223 = .ok (.iload_n 2, 1) := by decide +kernel
theorem dX7_bars_224 : decode cX7_bars 224 = .ok (.if_icmp .ne 5, 3) := by decide +kernel
theorem dX7_bars_227 : decode cX7_bars 227 = .ok (.iconst 1, 1) := by decide +kernel
theorem dX7_bars_228 : decode cX7_bars 228 = .ok (.ireturn, 1) := by decide +kernel
theorem dX7_bars_229 : decode cX7_bars 229 = .ok (.iinc 4 1, 3) := by decide +kernel
theorem dX7_bars_232 : decode cX7_bars 232 = .ok (.goto (-36), 3) := by decide +kernel
theorem dX7_bars_235 : decode cX7_bars 235 = .ok (.iinc 1 1, 3) := by decide +kernel
theorem dX7_bars_238 : decode cX7_bars 238 = .ok (.goto (-68), 3) := by decide +kernel
theorem dX7_bars_241 : decode cX7_bars 241 = .ok (.iconst 0, 1) := by decide +kernel
theorem dX7_bars_242 : decode cX7_bars 242 = .ok (.istore_n 1, 1) := by decide +kernel
theorem dX7_bars_243 : decode cX7_bars 243 = .ok (.iload_n 1, 1) := by decide +kernel
theorem dX7_bars_244 : decode cX7_bars 244 = .ok (.aload_n 0, 1) := by decide +kernel
theorem dX7_bars_245 : decode cX7_bars 245 = .ok (.getfield 179, 3) := by decide +kernel
theorem dX7_bars_248 : decode cX7_bars 248 = .ok (.if_icmp .ge 40, 3) := by decide +kernel
theorem dX7_bars_251 : decode cX7_bars 251 = .ok (.aload_n 0, 1) := by decide +kernel
theorem dX7_bars_252 : decode cX7_bars 252 = .ok (.aload_n 0, 1) := by decide +kernel
theorem dX7_bars_253 : decode cX7_bars 253 = .ok (.getfield 46, 3) := by decide +kernel
theorem dX7_bars_256 : decode cX7_bars 256 = .ok (.iconst 2, 1) := by decide +kernel
theorem dX7_bars_257 : decode cX7_bars 257 = .ok (.iload_n 1, 1) := by decide +kernel
theorem dX7_bars_258 : decode cX7_bars 258 = .ok (.imul, 1) := by decide +kernel
theorem dX7_bars_259 : decode cX7_bars 259 = .ok (.iaload, 1) := by decide +kernel
theorem dX7_bars_260 : decode cX7_bars 260 = .ok (.invokevirtual 216, 3) := by decide +kernel
theorem dX7_bars_263 : decode cX7_bars 263 = .ok (.aload_n 0, 1) := by decide +kernel
theorem dX7_bars_264 : decode cX7_bars 264 = .ok (.aload_n 0, 1) := by decide +kernel
theorem dX7_bars_265 : decode cX7_bars 265 = .ok (.getfield 46, 3) := by decide +kernel
theorem dX7_bars_268 : decode cX7_bars 268 = .ok (.iconst 2, 1) := by decide +kernel
theorem dX7_bars_269 : decode cX7_bars 269 = .ok (.iload_n 1, 1) := by decide +kernel
theorem dX7_bars_270 : decode cX7_bars 270 = .ok (.imul, 1) := by decide +kernel
theorem dX7_bars_271 : decode cX7_bars 271 = .ok (.iconst 1, 1) := by decide +kernel
theorem dX7_bars_272 : decode cX7_bars 272 = .ok (.iadd, 1) := by decide +kernel
theorem dX7_bars_273 : decode cX7_bars 273 = .ok (.iaload, 1) := by decide +kernel
theorem dX7_bars_274 : decode cX7_bars 274 = .ok (.invokevirtual 216, 3) := by decide +kernel
theorem dX7_bars_277 : decode cX7_bars 277 = .ok (.if_icmp .ne 5, 3) := by decide +kernel
theorem dX7_bars_280 : decode cX7_bars 280 = .ok (.iconst 1, 1) := by decide +kernel
theorem dX7_bars_281 : decode cX7_bars 281 = .ok (.ireturn, 1) := by decide +kernel
theorem dX7_bars_282 : decode cX7_bars 282 = .ok (.iinc 1 1, 3) := by decide +kernel
theorem dX7_bars_285 : decode cX7_bars 285 = .ok (.goto (-42), 3) := by decide +kernel
theorem dX7_bars_288 : decode cX7_bars 288 = .ok (.iconst 0, 1) := by decide +kernel
theorem dX7_bars_289 : decode cX7_bars 289 = .ok (.ireturn, 1) := by decide +kernel
theorem dX7_barsBy_0 : decode cX7_barsBy 0 = .ok (.aload_n 0, 1) := by decide +kernel
theorem dX7_barsBy_1 : decode cX7_barsBy 1 = .ok (.iload_n 1, 1) := by decide +kernel
theorem dX7_barsBy_2 : decode cX7_barsBy 2 = .ok (.invokevirtual 219, 3) := by decide +kernel
theorem dX7_barsBy_5 : decode cX7_barsBy 5 = .ok (.aload_n 0, 1) := by decide +kernel
theorem dX7_barsBy_6 : decode cX7_barsBy 6 = .ok (.invokevirtual 223, 3) := by decide +kernel
theorem dX7_barsBy_9 : decode cX7_barsBy 9 = .ok (.aload_n 0, 1) := by decide +kernel
theorem dX7_barsBy_10 : decode cX7_barsBy 10 = .ok (.invokevirtual 226, 3) := by decide +kernel
theorem dX7_barsBy_13 : decode cX7_barsBy 13 = .ok (.ireturn, 1) := by decide +kernel
theorem dX7_why_0 : decode cX7_why 0 = .ok (.aload_n 0, 1) := by decide +kernel
theorem dX7_why_1 : decode cX7_why 1 = .ok (.invokevirtual 150, 3) := by decide +kernel
theorem dX7_why_4 : decode cX7_why 4 = .ok (.istore_n 1, 1) := by decide +kernel
theorem dX7_why_5 : decode cX7_why 5 = .ok (.iconst 0, 1) := by decide +kernel
theorem dX7_why_6 : decode cX7_why 6 = .ok (.istore_n 2, 1) := by decide +kernel
theorem dX7_why_7 : decode cX7_why 7 = .ok (.iload_n 2, 1) := by decide +kernel
theorem dX7_why_8 : decode cX7_why 8 = .ok (.iload_n 1, 1) := by decide +kernel
theorem dX7_why_9 : decode cX7_why 9 = .ok (.if_icmp .ge 44, 3) := by decide +kernel
theorem dX7_why_12 : decode cX7_why 12 = .ok (.iconst 1, 1) := by decide +kernel
theorem dX7_why_13 : decode cX7_why 13 = .ok (.iload_n 2, 1) := by decide +kernel
theorem dX7_why_14 : decode cX7_why 14 = .ok (.iconst 1, 1) := by decide +kernel
theorem dX7_why_15 : decode cX7_why 15 = .ok (.iadd, 1) := by decide +kernel
theorem dX7_why_16 : decode cX7_why 16 = .ok (.ishl, 1) := by decide +kernel
theorem dX7_why_17 : decode cX7_why 17 = .ok (.iconst 1, 1) := by decide +kernel
theorem dX7_why_18 : decode cX7_why 18 = .ok (.isub, 1) := by decide +kernel
theorem dX7_why_19 : decode cX7_why 19 = .ok (.aload_n 0, 1) := by decide +kernel
theorem dX7_why_20 : decode cX7_why 20 = .ok (.getfield 19, 3) := by decide +kernel
theorem dX7_why_23 : decode cX7_why 23 = .ok (.iconst 0, 1) := by decide +kernel
theorem dX7_why_24 : decode cX7_why 24 = .ok (.iaload, 1) := by decide +kernel
theorem dX7_why_25 : decode cX7_why 25 = .ok (.iconst (-1), 1) := by decide +kernel
theorem dX7_why_26 : decode cX7_why 26 = .ok (.ixor, 1) := by decide +kernel
theorem dX7_why_27 : decode cX7_why 27 = .ok (.iand, 1) := by decide +kernel
theorem dX7_why_28 : decode cX7_why 28 = .ok (.istore_n 3, 1) := by decide +kernel
theorem dX7_why_29 : decode cX7_why 29 = .ok (.iload_n 3, 1) := by decide +kernel
theorem dX7_why_30 : decode cX7_why 30 = .ok (.iload_n 2, 1) := by decide +kernel
theorem dX7_why_31 : decode cX7_why 31 = .ok (.invokestatic 182, 3) := by decide +kernel
theorem dX7_why_34 : decode cX7_why 34 = .ok (.ifCond .eq 13, 3) := by decide +kernel
theorem dX7_why_37 : decode cX7_why 37 = .ok (.aload_n 0, 1) := by decide +kernel
theorem dX7_why_38 : decode cX7_why 38 = .ok (.iload_n 3, 1) := by decide +kernel
theorem dX7_why_39 : decode cX7_why 39 = .ok (.invokevirtual 230, 3) := by decide +kernel
theorem dX7_why_42 : decode cX7_why 42 = .ok (.ifCond .eq 5, 3) := by decide +kernel
theorem dX7_why_45 : decode cX7_why 45 = .ok (.iload_n 2, 1) := by decide +kernel
theorem dX7_why_46 : decode cX7_why 46 = .ok (.ireturn, 1) := by decide +kernel
theorem dX7_why_47 : decode cX7_why 47 = .ok (.iinc 2 1, 3) := by decide +kernel
theorem dX7_why_50 : decode cX7_why 50 = .ok (.goto (-43), 3) := by decide +kernel
theorem dX7_why_53 : decode cX7_why 53 = .ok (.bipush (-4), 2) := by decide +kernel
theorem dX7_why_55 : decode cX7_why 55 = .ok (.ireturn, 1) := by decide +kernel
theorem dX7_fewest_0 : decode cX7_fewest 0 = .ok (.iconst 1, 1) := by decide +kernel
theorem dX7_fewest_1 : decode cX7_fewest 1 = .ok (.aload_n 0, 1) := by decide +kernel
theorem dX7_fewest_2 : decode cX7_fewest 2 = .ok (.invokevirtual 150, 3) := by decide +kernel
theorem dX7_fewest_5 : decode cX7_fewest 5 = .ok (.ishl, 1) := by decide +kernel
theorem dX7_fewest_6 : decode cX7_fewest 6 = .ok (.iconst 1, 1) := by decide +kernel
theorem dX7_fewest_7 : decode cX7_fewest 7 = .ok (.isub, 1) := by decide +kernel
theorem dX7_fewest_8 : decode cX7_fewest 8 = .ok (.istore_n 1, 1) := by decide +kernel
theorem dX7_fewest_9 : decode cX7_fewest 9 = .ok (.bipush (-4), 2) := by decide +kernel
theorem dX7_fewest_11 : decode cX7_fewest 11 = .ok (.istore_n 2, 1) := by decide +kernel
theorem dX7_fewest_12 : decode cX7_fewest 12 = .ok (.iconst 0, 1) := by decide +kernel
theorem dX7_fewest_13 : decode cX7_fewest 13 = .ok (.istore_n 3, 1) := by decide +kernel
theorem dX7_fewest_14 : decode cX7_fewest 14 = .ok (.iload_n 3, 1) := by decide +kernel
theorem dX7_fewest_15 : decode cX7_fewest 15 = .ok (.iload_n 1, 1) := by decide +kernel
theorem dX7_fewest_16 : decode cX7_fewest 16 = .ok (.if_icmp .gt 40, 3) := by decide +kernel
theorem dX7_fewest_19 : decode cX7_fewest 19 = .ok (.iload_n 2, 1) := by decide +kernel
theorem dX7_fewest_20 : decode cX7_fewest 20 = .ok (.bipush (-4), 2) := by decide +kernel
theorem dX7_fewest_22 : decode cX7_fewest 22 = .ok (.if_icmp .eq 14, 3) := by decide +kernel
theorem dX7_fewest_25 : decode cX7_fewest 25 = .ok (.iload_n 3, 1) := by decide +kernel
theorem dX7_fewest_26 : decode cX7_fewest 26 = .ok (.invokestatic 233, 3) := by decide +kernel
theorem dX7_fewest_29 : decode cX7_fewest 29 = .ok (.iload_n 2, 1) := by decide +kernel
theorem dX7_fewest_30 : decode cX7_fewest 30 = .ok (.invokestatic 233, 3) := by decide +kernel
theorem dX7_fewest_33 : decode cX7_fewest 33 = .ok (.if_icmp .ge 17, 3) := by decide +kernel
theorem dX7_fewest_36 : decode cX7_fewest 36 = .ok (.aload_n 0, 1) := by decide +kernel
theorem dX7_fewest_37 : decode cX7_fewest 37 = .ok (.iload_n 1, 1) := by decide +kernel
theorem dX7_fewest_38 : decode cX7_fewest 38 = .ok (.iload_n 3, 1) := by decide +kernel
theorem dX7_fewest_39 : decode cX7_fewest 39 = .ok (.iconst (-1), 1) := by decide +kernel
theorem dX7_fewest_40 : decode cX7_fewest 40 = .ok (.ixor, 1) := by decide +kernel
theorem dX7_fewest_41 : decode cX7_fewest 41 = .ok (.iand, 1) := by decide +kernel
theorem dX7_fewest_42 : decode cX7_fewest 42 = .ok (.invokevirtual 230, 3) := by decide +kernel
theorem dX7_fewest_45 : decode cX7_fewest 45 = .ok (.ifCond .ne 5, 3) := by decide +kernel
theorem dX7_fewest_48 : decode cX7_fewest 48 = .ok (.iload_n 3, 1) := by decide +kernel
theorem dX7_fewest_49 : decode cX7_fewest 49 = .ok (.istore_n 2, 1) := by decide +kernel
theorem dX7_fewest_50 : decode cX7_fewest 50 = .ok (.iinc 3 1, 3) := by decide +kernel
theorem dX7_fewest_53 : decode cX7_fewest 53 = .ok (.goto (-39), 3) := by decide +kernel
theorem dX7_fewest_56 : decode cX7_fewest 56 = .ok (.iload_n 2, 1) := by decide +kernel
theorem dX7_fewest_57 : decode cX7_fewest 57 = .ok (.ireturn, 1) := by decide +kernel
theorem dX7_smallOf_0 : decode cX7_smallOf 0 = .ok (.iload_n 1, 1) := by decide +kernel
theorem dX7_smallOf_1 : decode cX7_smallOf 1 = .ok (.ifCond .ge 8, 3) := by decide +kernel
theorem dX7_smallOf_4 : decode cX7_smallOf 4 = .ok (.bipush (-4), 2) := by decide +kernel
theorem dX7_smallOf_6 : decode cX7_smallOf 6 = .ok (.goto 13, 3) := by decide +kernel
theorem dX7_smallOf_9 : decode cX7_smallOf 9 = .ok (.aload_n 0, 1) := by decide +kernel
theorem dX7_smallOf_10 : decode cX7_smallOf 10 = .ok (.getfield 79, 3) := by decide +kernel
theorem dX7_smallOf_13 : decode cX7_smallOf 13 = .ok (.aload_n 0, 1) := by decide +kernel
theorem dX7_smallOf_14 : decode cX7_smallOf 14 = .ok (.iload_n 1, 1) := by decide +kernel
theorem dX7_smallOf_15 : decode cX7_smallOf 15 = .ok (.invokevirtual 163, 3) := by decide +kernel
theorem dX7_smallOf_18 : decode cX7_smallOf 18 = .ok (.iaload, 1) := by decide +kernel
theorem dX7_smallOf_19 : decode cX7_smallOf 19 = .ok (.ireturn, 1) := by decide +kernel
theorem dX7_layTown_0 : decode cX7_layTown 0 = .ok (.aload_n 0, 1) := by decide +kernel
theorem dX7_layTown_1 : decode cX7_layTown 1 = .ok (.iconst 1, 1) := by decide +kernel
theorem dX7_layTown_2 : decode cX7_layTown 2 = .ok (.aload_n 0, 1) := by decide +kernel
theorem dX7_layTown_3 : decode cX7_layTown 3 = .ok (.invokevirtual 150, 3) := by decide +kernel
theorem dX7_layTown_6 : decode cX7_layTown 6 = .ok (.ishl, 1) := by decide +kernel
theorem dX7_layTown_7 : decode cX7_layTown 7 = .ok (.iconst 1, 1) := by decide +kernel
theorem dX7_layTown_8 : decode cX7_layTown 8 = .ok (.isub, 1) := by decide +kernel
theorem dX7_layTown_9 : decode cX7_layTown 9 = .ok (.aload_n 0, 1) := by decide +kernel
theorem dX7_layTown_10 : decode cX7_layTown 10 = .ok (.getfield 19, 3) := by decide +kernel
theorem dX7_layTown_13 : decode cX7_layTown 13 = .ok (.iconst 0, 1) := by decide +kernel
theorem dX7_layTown_14 : decode cX7_layTown 14 = .ok (.iaload, 1) := by decide +kernel
theorem dX7_layTown_15 : decode cX7_layTown 15 = .ok (.iconst (-1), 1) := by decide +kernel
theorem dX7_layTown_16 : decode cX7_layTown 16 = .ok (.ixor, 1) := by decide +kernel
theorem dX7_layTown_17 : decode cX7_layTown 17 = .ok (.iand, 1) := by decide +kernel
theorem dX7_layTown_18 : decode cX7_layTown 18 = .ok (.invokevirtual 230, 3) := by decide +kernel
theorem dX7_layTown_21 : decode cX7_layTown 21 = .ok (.ifCond .eq 6, 3) := by decide +kernel
theorem dX7_layTown_24 : decode cX7_layTown 24 = .ok (.bipush (-2), 2) := by decide +kernel
theorem dX7_layTown_26 : decode cX7_layTown 26 = .ok (.ireturn, 1) := by decide +kernel
theorem dX7_layTown_27 : decode cX7_layTown 27 = .ok (.aload_n 0, 1) := by decide +kernel
theorem dX7_layTown_28 : decode cX7_layTown 28 = .ok (.iconst 0, 1) := by decide +kernel
theorem dX7_layTown_29 : decode cX7_layTown 29 = .ok (.putfield 236, 3) := by decide +kernel
theorem dX7_layTown_32 : decode cX7_layTown 32 = .ok (.iconst 0, 1) := by decide +kernel
theorem dX7_layTown_33 : decode cX7_layTown 33 = .ok (.istore_n 1, 1) := by decide +kernel
theorem dX7_layTown_34 : decode cX7_layTown 34 = .ok (.iload_n 1, 1) := by decide +kernel
theorem dX7_layTown_35 : decode cX7_layTown 35 = .ok (.aload_n 0, 1) := by decide +kernel
theorem dX7_layTown_36 : decode cX7_layTown 36 = .ok (.getfield 153, 3) := by decide +kernel
theorem dX7_layTown_39 : decode cX7_layTown 39 = .ok (.if_icmp .ge 39, 3) := by decide +kernel
theorem dX7_layTown_42 : decode cX7_layTown 42 = .ok (.aload_n 0, 1) := by decide +kernel
theorem dX7_layTown_43 : decode cX7_layTown 43 = .ok (.getfield 22, 3) := by decide +kernel
theorem dX7_layTown_46 : decode cX7_layTown 46 = .ok (.iload_n 1, 1) := by decide +kernel
theorem dX7_layTown_47 : decode cX7_layTown 47 = .ok (.iaload, 1) := by decide +kernel
theorem dX7_layTown_48 : decode cX7_layTown 48 = .ok (.iload_n 1, 1) := by decide +kernel
theorem dX7_layTown_49 : decode cX7_layTown 49 = .ok (.if_icmp .ne 23, 3) := by decide +kernel
theorem dX7_layTown_52 : decode cX7_layTown 52 = .ok (.aload_n 0, 1) := by decide +kernel
theorem dX7_layTown_53 : decode cX7_layTown 53 = .ok (.getfield 79, 3) := by decide +kernel
theorem dX7_layTown_56 : decode cX7_layTown 56 = .ok (.iload_n 1, 1) := by decide +kernel
theorem dX7_layTown_57 : decode cX7_layTown 57 = .ok (.aload_n 0, 1) := by decide +kernel
theorem dX7_layTown_58 : decode cX7_layTown 58 = .ok (.getfield 236, 3) := by decide +kernel
theorem dX7_layTown_61 : decode cX7_layTown 61 = .ok (.iastore, 1) := by decide +kernel
theorem dX7_layTown_62 : decode cX7_layTown 62 = .ok (.aload_n 0, 1) := by decide +kernel
theorem dX7_layTown_63 : decode cX7_layTown 63 = .ok (.dup, 1) := by decide +kernel
theorem dX7_layTown_64 : decode cX7_layTown 64 = .ok (.getfield 236, 3) := by decide +kernel
theorem dX7_layTown_67 : decode cX7_layTown 67 = .ok (.iconst 1, 1) := by decide +kernel
theorem dX7_layTown_68 : decode cX7_layTown 68 = .ok (.iadd, 1) := by decide +kernel
theorem dX7_layTown_69 : decode cX7_layTown 69 = .ok (.putfield 236, 3) := by decide +kernel
theorem dX7_layTown_72 : decode cX7_layTown 72 = .ok (.iinc 1 1, 3) := by decide +kernel
theorem dX7_layTown_75 : decode cX7_layTown 75 = .ok (.goto (-41), 3) := by decide +kernel
theorem dX7_layTown_78 : decode cX7_layTown 78 = .ok (.aload_n 0, 1) := by decide +kernel
theorem dX7_layTown_79 : decode cX7_layTown 79 = .ok (.iconst 0, 1) := by decide +kernel
theorem dX7_layTown_80 : decode cX7_layTown 80 = .ok (.putfield 239, 3) := by decide +kernel
theorem dX7_layTown_83 : decode cX7_layTown 83 = .ok (.iconst 0, 1) := by decide +kernel
theorem dX7_layTown_84 : decode cX7_layTown 84 = .ok (.istore_n 1, 1) := by decide +kernel
theorem dX7_layTown_85 : decode cX7_layTown 85 = .ok (.iload_n 1, 1) := by decide +kernel
theorem dX7_layTown_86 : decode cX7_layTown 86 = .ok (.aload_n 0, 1) := by decide +kernel
theorem dX7_layTown_87 : decode cX7_layTown 87 = .ok (.getfield 210, 3) := by decide +kernel
theorem dX7_layTown_90 : decode cX7_layTown 90 = .ok (.if_icmp .ge 17, 3) := by decide +kernel
theorem dX7_layTown_93 : decode cX7_layTown 93 = .ok (.aload_n 0, 1) := by decide +kernel
theorem dX7_layTown_94 : decode cX7_layTown 94 = .ok (.getfield 82, 3) := by decide +kernel
theorem dX7_layTown_97 : decode cX7_layTown 97 = .ok (.iload_n 1, 1) := by decide +kernel
theorem dX7_layTown_98 : decode cX7_layTown 98 = .ok (.bipush (-4), 2) := by decide +kernel
theorem dX7_layTown_100 : decode cX7_layTown 100 = .ok (.iastore, 1) := by decide +kernel
theorem dX7_layTown_101 : decode cX7_layTown 101 = .ok (.iinc 1 1, 3) := by decide +kernel
theorem dX7_layTown_104 : decode cX7_layTown 104 = .ok (.goto (-19), 3) := by decide +kernel
theorem dX7_layTown_107 : decode cX7_layTown 107 = .ok (.iconst 0, 1) := by decide +kernel
theorem dX7_layTown_108 : decode cX7_layTown 108 = .ok (.istore_n 1, 1) := by decide +kernel
theorem dX7_layTown_109 : decode cX7_layTown 109 = .ok (.iload_n 1, 1) := by decide +kernel
theorem dX7_layTown_110 : decode cX7_layTown 110 = .ok (.aload_n 0, 1) := by decide +kernel
theorem dX7_layTown_111 : decode cX7_layTown 111 = .ok (.getfield 170, 3) := by decide +kernel
theorem dX7_layTown_114 : decode cX7_layTown 114 = .ok (.if_icmp .ge 55, 3) := by decide +kernel
theorem dX7_layTown_117 : decode cX7_layTown 117 = .ok (.aload_n 0, 1) := by decide +kernel
theorem dX7_layTown_118 : decode cX7_layTown 118 = .ok (.aload_n 0, 1) := by decide +kernel
theorem dX7_layTown_119 : decode cX7_layTown 119 = .ok (.getfield 37, 3) := by decide +kernel
theorem dX7_layTown_122 : decode cX7_layTown 122 = .ok (.iconst 3, 1) := by decide +kernel
theorem dX7_layTown_123 : decode cX7_layTown 123 = .ok (.iload_n 1, 1) := by decide +kernel
theorem dX7_layTown_124 : decode cX7_layTown 124 = .ok (.imul, 1) := by decide +kernel
theorem dX7_layTown_125 : decode cX7_layTown 125 = .ok (.iconst 2, 1) := by decide +kernel
theorem dX7_layTown_126 : decode cX7_layTown 126 = .ok (.iadd, 1) := by decide +kernel
theorem dX7_layTown_127 : decode cX7_layTown 127 = .ok (.iaload, 1) := by decide +kernel
theorem dX7_layTown_128 : decode cX7_layTown 128 = .ok (.invokevirtual 216, 3) := by decide +kernel
theorem dX7_layTown_131 : decode cX7_layTown 131 = .ok (.istore_n 2, 1) := by decide +kernel
theorem dX7_layTown_132 : decode cX7_layTown 132 = .ok (.aload_n 0, 1) := by decide +kernel
theorem dX7_layTown_133 : decode cX7_layTown 133 = .ok (.getfield 82, 3) := by decide +kernel
theorem dX7_layTown_136 : decode cX7_layTown 136 = .ok (.iload_n 2, 1) := by decide +kernel
theorem dX7_layTown_137 : decode cX7_layTown 137 = .ok (.iaload, 1) := by decide +kernel
theorem dX7_layTown_138 : decode cX7_layTown 138 = .ok (.bipush (-4), 2) := by decide +kernel
theorem dX7_layTown_140 : decode cX7_layTown 140 = .ok (.if_icmp .ne 23, 3) := by decide +kernel
theorem dX7_layTown_143 : decode cX7_layTown 143 = .ok (.aload_n 0, 1) := by decide +kernel
theorem dX7_layTown_144 : decode cX7_layTown 144 = .ok (.getfield 82, 3) := by decide +kernel
theorem dX7_layTown_147 : decode cX7_layTown 147 = .ok (.iload_n 2, 1) := by decide +kernel
theorem dX7_layTown_148 : decode cX7_layTown 148 = .ok (.aload_n 0, 1) := by decide +kernel
theorem dX7_layTown_149 : decode cX7_layTown 149 = .ok (.getfield 239, 3) := by decide +kernel
theorem dX7_layTown_152 : decode cX7_layTown 152 = .ok (.iastore, 1) := by decide +kernel
theorem dX7_layTown_153 : decode cX7_layTown 153 = .ok (.aload_n 0, 1) := by decide +kernel
theorem dX7_layTown_154 : decode cX7_layTown 154 = .ok (.dup, 1) := by decide +kernel
theorem dX7_layTown_155 : decode cX7_layTown 155 = .ok (.getfield 239, 3) := by decide +kernel
theorem dX7_layTown_158 : decode cX7_layTown 158 = .ok (.iconst 1, 1) := by decide +kernel
theorem dX7_layTown_159 : decode cX7_layTown 159 = .ok (.iadd, 1) := by decide +kernel
theorem dX7_layTown_160 : decode cX7_layTown 160 = .ok (.putfield 239, 3) := by decide +kernel
theorem dX7_layTown_163 : decode cX7_layTown 163 = .ok (.iinc 1 1, 3) := by decide +kernel
theorem dX7_layTown_166 : decode cX7_layTown 166 = .ok (.goto (-57), 3) := by decide +kernel
theorem dX7_layTown_169 : decode cX7_layTown 169 = .ok (.aload_n 0, 1) := by decide +kernel
theorem dX7_layTown_170 : decode cX7_layTown 170 = .ok (.getfield 236, 3) := by decide +kernel
theorem dX7_layTown_173 : decode cX7_layTown 173 = .ok (.sipush 200, 3) := by decide +kernel
theorem dX7_layTown_176 : decode cX7_layTown 176 = .ok (.if_icmp .gt 12, 3) := by decide +kernel
theorem dX7_layTown_179 : decode cX7_layTown 179 = .ok (.aload_n 0, 1) := by decide +kernel
theorem dX7_layTown_180 : decode cX7_layTown 180 = .ok (.getfield 239, 3) := by decide +kernel
theorem dX7_layTown_183 : decode cX7_layTown 183 = .ok (.bipush 20, 2) := by decide +kernel
theorem dX7_layTown_185 : decode cX7_layTown 185 = .ok (.if_icmp .le 6, 3) := by decide +kernel
theorem dX7_layTown_188 : decode cX7_layTown 188 = .ok (.bipush (-3), 2) := by decide +kernel
theorem dX7_layTown_190 : decode cX7_layTown 190 = .ok (.ireturn, 1) := by decide +kernel
theorem dX7_layTown_191 : decode cX7_layTown 191 = .ok (.iconst 0, 1) := by decide +kernel
theorem dX7_layTown_192 : decode cX7_layTown 192 = .ok (.istore_n 1, 1) := by decide +kernel
theorem dX7_layTown_193 : decode cX7_layTown 193 = .ok (.iload_n 1, 1) := by decide +kernel
theorem dX7_layTown_194 : decode cX7_layTown 194 = .ok (.aload_n 0, 1) := by decide +kernel
theorem dX7_layTown_195 : decode cX7_layTown 195 = .ok (.getfield 153, 3) := by decide +kernel
theorem dX7_layTown_198 : decode cX7_layTown 198 = .ok (.if_icmp .ge 91, 3) := by decide +kernel
theorem dX7_layTown_201 : decode cX7_layTown 201 = .ok (.aload_n 0, 1) := by decide +kernel
theorem dX7_layTown_202 : decode cX7_layTown 202 = .ok (.getfield 22, 3) := by decide +kernel
theorem dX7_layTown_205 : decode cX7_layTown 205 = .ok (.iload_n 1, 1) := by decide +kernel
theorem dX7_layTown_206 : decode cX7_layTown 206 = .ok (.iaload, 1) := by decide +kernel
theorem dX7_layTown_207 : decode cX7_layTown 207 = .ok (.iload_n 1, 1) := by decide +kernel
theorem dX7_layTown_208 : decode cX7_layTown 208 = .ok (.if_icmp .ne 75, 3) := by decide +kernel
theorem dX7_layTown_211 : decode cX7_layTown 211 = .ok (.aload_n 0, 1) := by decide +kernel
theorem dX7_layTown_212 : decode cX7_layTown 212 = .ok (.getfield 79, 3) := by decide +kernel
theorem dX7_layTown_215 : decode cX7_layTown 215 = .ok (.iload_n 1, 1) := by decide +kernel
theorem dX7_layTown_216 : decode cX7_layTown 216 = .ok (.iaload, 1) := by decide +kernel
theorem dX7_layTown_217 : decode cX7_layTown 217 = .ok (.istore_n 2, 1) := by decide +kernel
theorem dX7_layTown_218 : decode cX7_layTown 218 = .ok (.aload_n 0, 1) := by decide +kernel
theorem dX7_layTown_219 : decode cX7_layTown 219 = .ok (.getfield 55, 3) := by decide +kernel
theorem dX7_layTown_222 : decode cX7_layTown 222 = .ok (.iload_n 2, 1) := by decide +kernel
theorem dX7_layTown_223 : decode cX7_layTown 223 = .ok (.aload_n 0, 1) := by decide +kernel
theorem dX7_layTown_224 : decode cX7_layTown 224 = .ok (.aload_n 0, 1) := by decide +kernel
theorem dX7_layTown_225 : decode cX7_layTown 225 = .ok (.getfield 25, 3) := by decide +kernel
theorem dX7_layTown_228 : decode cX7_layTown 228 = .ok (.iload_n 1, 1) := by decide +kernel
theorem dX7_layTown_229 : decode cX7_layTown 229 = .ok (.iaload, 1) := by decide +kernel
theorem dX7_layTown_230 : decode cX7_layTown 230 = .ok (.invokevirtual 242, 3) := by decide +kernel
theorem dX7_layTown_233 : decode cX7_layTown 233 = .ok (.iastore, 1) := by decide +kernel
theorem dX7_layTown_234 : decode cX7_layTown 234 = .ok (.aload_n 0, 1) := by decide +kernel
theorem dX7_layTown_235 : decode cX7_layTown 235 = .ok (.getfield 58, 3) := by decide +kernel
theorem dX7_layTown_238 : decode cX7_layTown 238 = .ok (.iload_n 2, 1) := by decide +kernel
theorem dX7_layTown_239 : decode cX7_layTown 239 = .ok (.aload_n 0, 1) := by decide +kernel
theorem dX7_layTown_240 : decode cX7_layTown 240 = .ok (.aload_n 0, 1) := by decide +kernel
theorem dX7_layTown_241 : decode cX7_layTown 241 = .ok (.getfield 28, 3) := by decide +kernel
theorem dX7_layTown_244 : decode cX7_layTown 244 = .ok (.iload_n 1, 1) := by decide +kernel
theorem dX7_layTown_245 : decode cX7_layTown 245 = .ok (.iaload, 1) := by decide +kernel
theorem dX7_layTown_246 : decode cX7_layTown 246 = .ok (.invokevirtual 242, 3) := by decide +kernel
theorem dX7_layTown_249 : decode cX7_layTown 249 = .ok (.iastore, 1) := by decide +kernel
theorem dX7_layTown_250 : decode cX7_layTown 250 = .ok (.aload_n 0, 1) := by decide +kernel
theorem dX7_layTown_251 : decode cX7_layTown 251 = .ok (.getfield 61, 3) := by decide +kernel
theorem dX7_layTown_254 : decode cX7_layTown 254 = .ok (.iload_n 2, 1) := by decide +kernel
theorem dX7_layTown_255 : decode cX7_layTown 255 = .ok (.aload_n 0, 1) := by decide +kernel
theorem dX7_layTown_256 : decode cX7_layTown 256 = .ok (.aload_n 0, 1) := by decide +kernel
theorem dX7_layTown_257 : decode cX7_layTown 257 = .ok (.getfield 31, 3) := by decide +kernel
theorem dX7_layTown_260 : decode cX7_layTown 260 = .ok (.iload_n 1, 1) := by decide +kernel
theorem dX7_layTown_261 : decode cX7_layTown 261 = .ok (.iaload, 1) := by decide +kernel
theorem dX7_layTown_262 : decode cX7_layTown 262 = .ok (.invokevirtual 242, 3) := by decide +kernel
theorem dX7_layTown_265 : decode cX7_layTown 265 = .ok (.iastore, 1) := by decide +kernel
theorem dX7_layTown_266 : decode cX7_layTown 266 = .ok (.aload_n 0, 1) := by decide +kernel
theorem dX7_layTown_267 : decode cX7_layTown 267 = .ok (.getfield 64, 3) := by decide +kernel
theorem dX7_layTown_270 : decode cX7_layTown 270 = .ok (.iload_n 2, 1) := by decide +kernel
theorem dX7_layTown_271 : decode cX7_layTown 271 = .ok (.aload_n 0, 1) := by decide +kernel
theorem dX7_layTown_272 : decode cX7_layTown 272 = .ok (.getfield 82, 3) := by decide +kernel
theorem dX7_layTown_275 : decode cX7_layTown 275 = .ok (.aload_n 0, 1) := by decide +kernel
theorem dX7_layTown_276 : decode cX7_layTown 276 = .ok (.getfield 52, 3) := by decide +kernel
theorem dX7_layTown_279 : decode cX7_layTown 279 = .ok (.iload_n 1, 1) := by decide +kernel
theorem dX7_layTown_280 : decode cX7_layTown 280 = .ok (.iaload, 1) := by decide +kernel
theorem dX7_layTown_281 : decode cX7_layTown 281 = .ok (.iaload, 1) := by decide +kernel
theorem dX7_layTown_282 : decode cX7_layTown 282 = .ok (.iastore, 1) := by decide +kernel
theorem dX7_layTown_283 : decode cX7_layTown 283 = .ok (.iinc 1 1, 3) := by decide +kernel
theorem dX7_layTown_286 : decode cX7_layTown 286 = .ok (.goto (-93), 3) := by decide +kernel
theorem dX7_layTown_289 : decode cX7_layTown 289 = .ok (.iconst 0, 1) := by decide +kernel
theorem dX7_layTown_290 : decode cX7_layTown 290 = .ok (.istore_n 1, 1) := by decide +kernel
theorem dX7_layTown_291 : decode cX7_layTown 291 = .ok (.iload_n 1, 1) := by decide +kernel
theorem dX7_layTown_292 : decode cX7_layTown 292 = .ok (.bipush 8, 2) := by decide +kernel
theorem dX7_layTown_294 : decode cX7_layTown 294 = .ok (.if_icmp .ge 25, 3) := by decide +kernel
theorem dX7_layTown_297 : decode cX7_layTown 297 = .ok (.aload_n 0, 1) := by decide +kernel
theorem dX7_layTown_298 : decode cX7_layTown 298 = .ok (.getfield 67, 3) := by decide +kernel
theorem dX7_layTown_301 : decode cX7_layTown 301 = .ok (.iload_n 1, 1) := by decide +kernel
theorem dX7_layTown_302 : decode cX7_layTown 302 = .ok (.aload_n 0, 1) := by decide +kernel
theorem dX7_layTown_303 : decode cX7_layTown 303 = .ok (.aload_n 0, 1) := by decide +kernel
theorem dX7_layTown_304 : decode cX7_layTown 304 = .ok (.getfield 49, 3) := by decide +kernel
theorem dX7_layTown_307 : decode cX7_layTown 307 = .ok (.iload_n 1, 1) := by decide +kernel
theorem dX7_layTown_308 : decode cX7_layTown 308 = .ok (.iaload, 1) := by decide +kernel
theorem dX7_layTown_309 : decode cX7_layTown 309 = .ok (.invokevirtual 242, 3) := by decide +kernel
theorem dX7_layTown_312 : decode cX7_layTown 312 = .ok (.iastore, 1) := by decide +kernel
theorem dX7_layTown_313 : decode cX7_layTown 313 = .ok (.iinc 1 1, 3) := by decide +kernel
theorem dX7_layTown_316 : decode cX7_layTown 316 = .ok (.goto (-25), 3) := by decide +kernel
theorem dX7_layTown_319 : decode cX7_layTown 319 = .ok (.aload_n 0, 1) := by decide +kernel
theorem dX7_layTown_320 : decode cX7_layTown 320 = .ok (.aload_n 0, 1) := by decide +kernel
theorem dX7_layTown_321 : decode cX7_layTown 321 = .ok (.getfield 173, 3) := by decide +kernel
theorem dX7_layTown_324 : decode cX7_layTown 324 = .ok (.putfield 245, 3) := by decide +kernel
theorem dX7_layTown_327 : decode cX7_layTown 327 = .ok (.iconst 0, 1) := by decide +kernel
theorem dX7_layTown_328 : decode cX7_layTown 328 = .ok (.istore_n 1, 1) := by decide +kernel
theorem dX7_layTown_329 : decode cX7_layTown 329 = .ok (.iload_n 1, 1) := by decide +kernel
theorem dX7_layTown_330 : decode cX7_layTown 330 = .ok (.iconst 2, 1) := by decide +kernel
theorem dX7_layTown_331 : decode cX7_layTown 331 = .ok (.aload_n 0, 1) := by decide +kernel
theorem dX7_layTown_332 : decode cX7_layTown 332 = .ok (.getfield 173, 3) := by decide +kernel
theorem dX7_layTown_335 : decode cX7_layTown 335 = .ok (.imul, 1) := by decide +kernel
theorem dX7_layTown_336 : decode cX7_layTown 336 = .ok (.if_icmp .ge 25, 3) := by decide +kernel
theorem dX7_layTown_339 : decode cX7_layTown 339 = .ok (.aload_n 0, 1) := by decide +kernel
theorem dX7_layTown_340 : decode cX7_layTown 340 = .ok (.getfield 70, 3) := by decide +kernel
theorem dX7_layTown_343 : decode cX7_layTown 343 = .ok (.iload_n 1, 1) := by decide +kernel
theorem dX7_layTown_344 : decode cX7_layTown 344 = .ok (.aload_n 0, 1) := by decide +kernel
theorem dX7_layTown_345 : decode cX7_layTown 345 = .ok (.aload_n 0, 1) := by decide +kernel
theorem dX7_layTown_346 : decode cX7_layTown 346 = .ok (.getfield 40, 3) := by decide +kernel
theorem dX7_layTown_349 : decode cX7_layTown 349 = .ok (.iload_n 1, 1) := by decide +kernel
theorem dX7_layTown_350 : decode cX7_layTown 350 = .ok (.iaload, 1) := by decide +kernel
theorem dX7_layTown_351 : decode cX7_layTown 351 = .ok (.invokevirtual 242, 3) := by decide +kernel
theorem dX7_layTown_354 : decode cX7_layTown 354 = .ok (.iastore, 1) := by decide +kernel
theorem dX7_layTown_355 : decode cX7_layTown 355 = .ok (.iinc 1 1, 3) := by decide +kernel
theorem dX7_layTown_358 : decode cX7_layTown 358 = .ok (.goto (-29), 3) := by decide +kernel
theorem dX7_layTown_361 : decode cX7_layTown 361 = .ok (.aload_n 0, 1) := by decide +kernel
theorem dX7_layTown_362 : decode cX7_layTown 362 = .ok (.aload_n 0, 1) := by decide +kernel
theorem dX7_layTown_363 : decode cX7_layTown 363 = .ok (.getfield 176, 3) := by decide +kernel
theorem dX7_layTown_366 : decode cX7_layTown 366 = .ok (.putfield 248, 3) := by decide +kernel
theorem dX7_layTown_369 : decode cX7_layTown 369 = .ok (.iconst 0, 1) := by decide +kernel
theorem dX7_layTown_370 : decode cX7_layTown 370 = .ok (.istore_n 1, 1) := by decide +kernel
theorem dX7_layTown_371 : decode cX7_layTown 371 = .ok (.iload_n 1, 1) := by decide +kernel
theorem dX7_layTown_372 : decode cX7_layTown 372 = .ok (.aload_n 0, 1) := by decide +kernel
theorem dX7_layTown_373 : decode cX7_layTown 373 = .ok (.getfield 176, 3) := by decide +kernel
theorem dX7_layTown_376 : decode cX7_layTown 376 = .ok (.if_icmp .ge 49, 3) := by decide +kernel
theorem dX7_layTown_379 : decode cX7_layTown 379 = .ok (.aload_n 0, 1) := by decide +kernel
theorem dX7_layTown_380 : decode cX7_layTown 380 = .ok (.getfield 73, 3) := by decide +kernel
theorem dX7_layTown_383 : decode cX7_layTown 383 = .ok (.iconst 2, 1) := by decide +kernel
theorem dX7_layTown_384 : decode cX7_layTown 384 = .ok (.iload_n 1, 1) := by decide +kernel
theorem dX7_layTown_385 : decode cX7_layTown 385 = .ok (.imul, 1) := by decide +kernel
theorem dX7_layTown_386 : decode cX7_layTown 386 = .ok (.aload_n 0, 1) := by decide +kernel
theorem dX7_layTown_387 : decode cX7_layTown 387 = .ok (.aload_n 0, 1) := by decide +kernel
theorem dX7_layTown_388 : decode cX7_layTown 388 = .ok (.getfield 43, 3) := by decide +kernel
theorem dX7_layTown_391 : decode cX7_layTown 391 = .ok (.iconst 2, 1) := by decide +kernel
theorem dX7_layTown_392 : decode cX7_layTown 392 = .ok (.iload_n 1, 1) := by decide +kernel
theorem dX7_layTown_393 : decode cX7_layTown 393 = .ok (.imul, 1) := by decide +kernel
theorem dX7_layTown_394 : decode cX7_layTown 394 = .ok (.iaload, 1) := by decide +kernel
theorem dX7_layTown_395 : decode cX7_layTown 395 = .ok (.invokevirtual 242, 3) := by decide +kernel
theorem dX7_layTown_398 : decode cX7_layTown 398 = .ok (.iastore, 1) := by decide +kernel
theorem dX7_layTown_399 : decode cX7_layTown 399 = .ok (.aload_n 0, 1) := by decide +kernel
theorem dX7_layTown_400 : decode cX7_layTown 400 = .ok (.getfield 73, 3) := by decide +kernel
theorem dX7_layTown_403 : decode cX7_layTown 403 = .ok (.iconst 2, 1) := by decide +kernel
theorem dX7_layTown_404 : decode cX7_layTown 404 = .ok (.iload_n 1, 1) := by decide +kernel
theorem dX7_layTown_405 : decode cX7_layTown 405 = .ok (.imul, 1) := by decide +kernel
theorem dX7_layTown_406 : decode cX7_layTown 406 = .ok (.iconst 1, 1) := by decide +kernel
theorem dX7_layTown_407 : decode cX7_layTown 407 = .ok (.iadd, 1) := by decide +kernel
theorem dX7_layTown_408 : decode cX7_layTown 408 = .ok (.aload_n 0, 1) := by decide +kernel
theorem dX7_layTown_409 : decode cX7_layTown 409 = .ok (.getfield 43, 3) := by decide +kernel
theorem dX7_layTown_412 : decode cX7_layTown 412 = .ok (.iconst 2, 1) := by decide +kernel
theorem dX7_layTown_413 : decode cX7_layTown 413 = .ok (.iload_n 1, 1) := by decide +kernel
theorem dX7_layTown_414 : decode cX7_layTown 414 = .ok (.imul, 1) := by decide +kernel
theorem dX7_layTown_415 : decode cX7_layTown 415 = .ok (.iconst 1, 1) := by decide +kernel
theorem dX7_layTown_416 : decode cX7_layTown 416 = .ok (.iadd, 1) := by decide +kernel
theorem dX7_layTown_417 : decode cX7_layTown 417 = .ok (.iaload, 1) := by decide +kernel
theorem dX7_layTown_418 : decode cX7_layTown 418 = .ok (.iastore, 1) := by decide +kernel
theorem dX7_layTown_419 : decode cX7_layTown 419 = .ok (.iinc 1 1, 3) := by decide +kernel
theorem dX7_layTown_422 : decode cX7_layTown 422 = .ok (.goto (-51), 3) := by decide +kernel
theorem dX7_layTown_425 : decode cX7_layTown 425 = .ok (.aload_n 0, 1) := by decide +kernel
theorem dX7_layTown_426 : decode cX7_layTown 426 = .ok (.aload_n 0, 1) := by decide +kernel
theorem dX7_layTown_427 : decode cX7_layTown 427 = .ok (.getfield 179, 3) := by decide +kernel
theorem dX7_layTown_430 : decode cX7_layTown 430 = .ok (.putfield 251, 3) := by decide +kernel
theorem dX7_layTown_433 : decode cX7_layTown 433 = .ok (.iconst 0, 1) := by decide +kernel
theorem dX7_layTown_434 : decode cX7_layTown 434 = .ok (.istore_n 1, 1) := by decide +kernel
theorem dX7_layTown_435 : decode cX7_layTown 435 = .ok (.iload_n 1, 1) := by decide +kernel
theorem dX7_layTown_436 : decode cX7_layTown 436 = .ok (.iconst 2, 1) := by decide +kernel
theorem dX7_layTown_437 : decode cX7_layTown 437 = .ok (.aload_n 0, 1) := by decide +kernel
theorem dX7_layTown_438 : decode cX7_layTown 438 = .ok (.getfield 179, 3) := by decide +kernel
theorem dX7_layTown_441 : decode cX7_layTown 441 = .ok (.imul, 1) := by decide +kernel
theorem dX7_layTown_442 : decode cX7_layTown 442 = .ok (.if_icmp .ge 25, 3) := by decide +kernel
theorem dX7_layTown_445 : decode cX7_layTown 445 = .ok (.aload_n 0, 1) := by decide +kernel
theorem dX7_layTown_446 : decode cX7_layTown 446 = .ok (.getfield 76, 3) := by decide +kernel
theorem dX7_layTown_449 : decode cX7_layTown 449 = .ok (.iload_n 1, 1) := by decide +kernel
theorem dX7_layTown_450 : decode cX7_layTown 450 = .ok (.aload_n 0, 1) := by decide +kernel
theorem dX7_layTown_451 : decode cX7_layTown 451 = .ok (.aload_n 0, 1) := by decide +kernel
theorem dX7_layTown_452 : decode cX7_layTown 452 = .ok (.getfield 46, 3) := by decide +kernel
theorem dX7_layTown_455 : decode cX7_layTown 455 = .ok (.iload_n 1, 1) := by decide +kernel
theorem dX7_layTown_456 : decode cX7_layTown 456 = .ok (.iaload, 1) := by decide +kernel
theorem dX7_layTown_457 : decode cX7_layTown 457 = .ok (.invokevirtual 242, 3) := by decide +kernel
theorem dX7_layTown_460 : decode cX7_layTown 460 = .ok (.iastore, 1) := by decide +kernel
theorem dX7_layTown_461 : decode cX7_layTown 461 = .ok (.iinc 1 1, 3) := by decide +kernel
theorem dX7_layTown_464 : decode cX7_layTown 464 = .ok (.goto (-29), 3) := by decide +kernel
theorem dX7_layTown_467 : decode cX7_layTown 467 = .ok (.iconst 0, 1) := by decide +kernel
theorem dX7_layTown_468 : decode cX7_layTown 468 = .ok (.ireturn, 1) := by decide +kernel
theorem dX7_load_0 : decode cX7_load 0 = .ok (.aload_n 0, 1) := by decide +kernel
theorem dX7_load_1 : decode cX7_load 1 = .ok (.aload_n 0, 1) := by decide +kernel
theorem dX7_load_2 : decode cX7_load 2 = .ok (.getfield 236, 3) := by decide +kernel
theorem dX7_load_5 : decode cX7_load 5 = .ok (.putfield 153, 3) := by decide +kernel
theorem dX7_load_8 : decode cX7_load 8 = .ok (.iconst 0, 1) := by decide +kernel
theorem dX7_load_9 : decode cX7_load 9 = .ok (.istore_n 1, 1) := by decide +kernel
theorem dX7_load_10 : decode cX7_load 10 = .ok (.iload_n 1, 1) := by decide +kernel
theorem dX7_load_11 : decode cX7_load 11 = .ok (.aload_n 0, 1) := by decide +kernel
theorem dX7_load_12 : decode cX7_load 12 = .ok (.getfield 236, 3) := by decide +kernel
theorem dX7_load_15 : decode cX7_load 15 = .ok (.if_icmp .ge 52, 3) := by decide +kernel
theorem dX7_load_18 : decode cX7_load 18 = .ok (.aload_n 0, 1) := by decide +kernel
theorem dX7_load_19 : decode cX7_load 19 = .ok (.getfield 22, 3) := by decide +kernel
theorem dX7_load_22 : decode cX7_load 22 = .ok (.iload_n 1, 1) := by decide +kernel
theorem dX7_load_23 : decode cX7_load 23 = .ok (.iload_n 1, 1) := by decide +kernel
theorem dX7_load_24 : decode cX7_load 24 = .ok (.iastore, 1) := by decide +kernel
theorem dX7_load_25 : decode cX7_load 25 = .ok (.aload_n 0, 1) := by decide +kernel
theorem dX7_load_26 : decode cX7_load 26 = .ok (.getfield 25, 3) := by decide +kernel
theorem dX7_load_29 : decode cX7_load 29 = .ok (.iload_n 1, 1) := by decide +kernel
theorem dX7_load_30 : decode cX7_load 30 = .ok (.aload_n 0, 1) := by decide +kernel
theorem dX7_load_31 : decode cX7_load 31 = .ok (.getfield 55, 3) := by decide +kernel
theorem dX7_load_34 : decode cX7_load 34 = .ok (.iload_n 1, 1) := by decide +kernel
theorem dX7_load_35 : decode cX7_load 35 = .ok (.iaload, 1) := by decide +kernel
theorem dX7_load_36 : decode cX7_load 36 = .ok (.iastore, 1) := by decide +kernel
theorem dX7_load_37 : decode cX7_load 37 = .ok (.aload_n 0, 1) := by decide +kernel
theorem dX7_load_38 : decode cX7_load 38 = .ok (.getfield 28, 3) := by decide +kernel
theorem dX7_load_41 : decode cX7_load 41 = .ok (.iload_n 1, 1) := by decide +kernel
theorem dX7_load_42 : decode cX7_load 42 = .ok (.aload_n 0, 1) := by decide +kernel
theorem dX7_load_43 : decode cX7_load 43 = .ok (.getfield 58, 3) := by decide +kernel
theorem dX7_load_46 : decode cX7_load 46 = .ok (.iload_n 1, 1) := by decide +kernel
theorem dX7_load_47 : decode cX7_load 47 = .ok (.iaload, 1) := by decide +kernel
theorem dX7_load_48 : decode cX7_load 48 = .ok (.iastore, 1) := by decide +kernel
theorem dX7_load_49 : decode cX7_load 49 = .ok (.aload_n 0, 1) := by decide +kernel
theorem dX7_load_50 : decode cX7_load 50 = .ok (.getfield 31, 3) := by decide +kernel
theorem dX7_load_53 : decode cX7_load 53 = .ok (.iload_n 1, 1) := by decide +kernel
theorem dX7_load_54 : decode cX7_load 54 = .ok (.aload_n 0, 1) := by decide +kernel
theorem dX7_load_55 : decode cX7_load 55 = .ok (.getfield 61, 3) := by decide +kernel
theorem dX7_load_58 : decode cX7_load 58 = .ok (.iload_n 1, 1) := by decide +kernel
theorem dX7_load_59 : decode cX7_load 59 = .ok (.iaload, 1) := by decide +kernel
theorem dX7_load_60 : decode cX7_load 60 = .ok (.iastore, 1) := by decide +kernel
theorem dX7_load_61 : decode cX7_load 61 = .ok (.iinc 1 1, 3) := by decide +kernel
theorem dX7_load_64 : decode cX7_load 64 = .ok (.goto (-54), 3) := by decide +kernel
theorem dX7_load_67 : decode cX7_load 67 = .ok (.aload_n 0, 1) := by decide +kernel
theorem dX7_load_68 : decode cX7_load 68 = .ok (.invokevirtual 254, 3) := by decide +kernel
theorem dX7_load_71 : decode cX7_load 71 = .ok (.return_, 1) := by decide +kernel
theorem dX7_loadRecords_0 : decode cX7_loadRecords 0 = .ok (.iconst 0, 1) := by decide +kernel
theorem dX7_loadRecords_1 : decode cX7_loadRecords 1 = .ok (.istore_n 1, 1) := by decide +kernel
theorem dX7_loadRecords_2 : decode cX7_loadRecords 2 = .ok (.iload_n 1, 1) := by decide +kernel
theorem dX7_loadRecords_3 : decode cX7_loadRecords 3 = .ok (.bipush 8, 2) := by decide +kernel
theorem dX7_loadRecords_5 : decode cX7_loadRecords 5 = .ok (.if_icmp .ge 21, 3) := by decide +kernel
theorem dX7_loadRecords_8 : decode cX7_loadRecords 8 = .ok (.aload_n 0, 1) := by decide +kernel
theorem dX7_loadRecords_9 : decode cX7_loadRecords 9 = .ok (.getfield 49, 3) := by decide +kernel
theorem dX7_loadRecords_12 : decode cX7_loadRecords 12 = .ok (.iload_n 1, 1) := by decide +kernel
theorem dX7_loadRecords_13 : decode cX7_loadRecords 13 = .ok (.aload_n 0, 1) := by decide +kernel
theorem dX7_loadRecords_14 : decode cX7_loadRecords 14 = .ok (.getfield 67, 3) := by decide +kernel
theorem dX7_loadRecords_17 : decode cX7_loadRecords 17 = .ok (.iload_n 1, 1) := by decide +kernel
theorem dX7_loadRecords_18 : decode cX7_loadRecords 18 = .ok (.iaload, 1) := by decide +kernel
theorem dX7_loadRecords_19 : decode cX7_loadRecords 19 = .ok (.iastore, 1) := by decide +kernel
theorem dX7_loadRecords_20 : decode cX7_loadRecords 20 = .ok (.iinc 1 1, 3) := by decide +kernel
theorem dX7_loadRecords_23 : decode cX7_loadRecords 23 = .ok (.goto (-21), 3) := by decide +kernel
theorem dX7_loadRecords_26 : decode cX7_loadRecords 26 = .ok (.aload_n 0, 1) := by decide +kernel
theorem dX7_loadRecords_27 : decode cX7_loadRecords 27 = .ok (.aload_n 0, 1) := by decide +kernel
theorem dX7_loadRecords_28 : decode cX7_loadRecords 28 = .ok (.getfield 245, 3) := by decide +kernel
theorem dX7_loadRecords_31 : decode cX7_loadRecords 31 = .ok (.putfield 173, 3) := by decide +kernel
theorem dX7_loadRecords_34 : decode cX7_loadRecords 34 = .ok (.iconst 0, 1) := by decide +kernel
theorem dX7_loadRecords_35 : decode cX7_loadRecords 35 = .ok (.istore_n 1, 1) := by decide +kernel
theorem dX7_loadRecords_36 : decode cX7_loadRecords 36 = .ok (.iload_n 1, 1) := by decide +kernel
theorem dX7_loadRecords_37 : decode cX7_loadRecords 37 = .ok (.iconst 2, 1) := by decide +kernel
theorem dX7_loadRecords_38 : decode cX7_loadRecords 38 = .ok (.aload_n 0, 1) := by decide +kernel
theorem dX7_loadRecords_39 : decode cX7_loadRecords 39 = .ok (.getfield 245, 3) := by decide +kernel
theorem dX7_loadRecords_42 : decode cX7_loadRecords 42 = .ok (.imul, 1) := by decide +kernel
theorem dX7_loadRecords_43 : decode cX7_loadRecords 43 = .ok (.if_icmp .ge 21, 3) := by decide +kernel
theorem dX7_loadRecords_46 : decode cX7_loadRecords 46 = .ok (.aload_n 0, 1) := by decide +kernel
theorem dX7_loadRecords_47 : decode cX7_loadRecords 47 = .ok (.getfield 40, 3) := by decide +kernel
theorem dX7_loadRecords_50 : decode cX7_loadRecords 50 = .ok (.iload_n 1, 1) := by decide +kernel
theorem dX7_loadRecords_51 : decode cX7_loadRecords 51 = .ok (.aload_n 0, 1) := by decide +kernel
theorem dX7_loadRecords_52 : decode cX7_loadRecords 52 = .ok (.getfield 70, 3) := by decide +kernel
theorem dX7_loadRecords_55 : decode cX7_loadRecords 55 = .ok (.iload_n 1, 1) := by decide +kernel
theorem dX7_loadRecords_56 : decode cX7_loadRecords 56 = .ok (.iaload, 1) := by decide +kernel
theorem dX7_loadRecords_57 : decode cX7_loadRecords 57 = .ok (.iastore, 1) := by decide +kernel
theorem dX7_loadRecords_58 : decode cX7_loadRecords 58 = .ok (.iinc 1 1, 3) := by decide +kernel
theorem dX7_loadRecords_61 : decode cX7_loadRecords 61 = .ok (.goto (-25), 3) := by decide +kernel
theorem dX7_loadRecords_64 : decode cX7_loadRecords 64 = .ok (.aload_n 0, 1) := by decide +kernel
theorem dX7_loadRecords_65 : decode cX7_loadRecords 65 = .ok (.aload_n 0, 1) := by decide +kernel
theorem dX7_loadRecords_66 : decode cX7_loadRecords 66 = .ok (.getfield 248, 3) := by decide +kernel
theorem dX7_loadRecords_69 : decode cX7_loadRecords 69 = .ok (.putfield 176, 3) := by decide +kernel
theorem dX7_loadRecords_72 : decode cX7_loadRecords 72 = .ok (.iconst 0, 1) := by decide +kernel
theorem dX7_loadRecords_73 : decode cX7_loadRecords 73 = .ok (.istore_n 1, 1) := by decide +kernel
theorem dX7_loadRecords_74 : decode cX7_loadRecords 74 = .ok (.iload_n 1, 1) := by decide +kernel
theorem dX7_loadRecords_75 : decode cX7_loadRecords 75 = .ok (.iconst 2, 1) := by decide +kernel
theorem dX7_loadRecords_76 : decode cX7_loadRecords 76 = .ok (.aload_n 0, 1) := by decide +kernel
theorem dX7_loadRecords_77 : decode cX7_loadRecords 77 = .ok (.getfield 248, 3) := by decide +kernel
theorem dX7_loadRecords_80 : decode cX7_loadRecords 80 = .ok (.imul, 1) := by decide +kernel
theorem dX7_loadRecords_81 : decode cX7_loadRecords 81 = .ok (.if_icmp .ge 21, 3) := by decide +kernel
theorem dX7_loadRecords_84 : decode cX7_loadRecords 84 = .ok (.aload_n 0, 1) := by decide +kernel
theorem dX7_loadRecords_85 : decode cX7_loadRecords 85 = .ok (.getfield 43, 3) := by decide +kernel
theorem dX7_loadRecords_88 : decode cX7_loadRecords 88 = .ok (.iload_n 1, 1) := by decide +kernel
theorem dX7_loadRecords_89 : decode cX7_loadRecords 89 = .ok (.aload_n 0, 1) := by decide +kernel
theorem dX7_loadRecords_90 : decode cX7_loadRecords 90 = .ok (.getfield 73, 3) := by decide +kernel
theorem dX7_loadRecords_93 : decode cX7_loadRecords 93 = .ok (.iload_n 1, 1) := by decide +kernel
theorem dX7_loadRecords_94 : decode cX7_loadRecords 94 = .ok (.iaload, 1) := by decide +kernel
theorem dX7_loadRecords_95 : decode cX7_loadRecords 95 = .ok (.iastore, 1) := by decide +kernel
theorem dX7_loadRecords_96 : decode cX7_loadRecords 96 = .ok (.iinc 1 1, 3) := by decide +kernel
theorem dX7_loadRecords_99 : decode cX7_loadRecords 99 = .ok (.goto (-25), 3) := by decide +kernel
theorem dX7_loadRecords_102 : decode cX7_loadRecords 102 = .ok (.aload_n 0, 1) := by decide +kernel
theorem dX7_loadRecords_103 : decode cX7_loadRecords 103 = .ok (.aload_n 0, 1) := by decide +kernel
theorem dX7_loadRecords_104 : decode cX7_loadRecords 104 = .ok (.getfield 251, 3) := by decide +kernel
theorem dX7_loadRecords_107 : decode cX7_loadRecords 107 = .ok (.putfield 179, 3) := by decide +kernel
theorem dX7_loadRecords_110 : decode cX7_loadRecords 110 = .ok (.iconst 0, 1) := by decide +kernel
theorem dX7_loadRecords_111 : decode cX7_loadRecords 111 = .ok (.istore_n 1, 1) := by decide +kernel
theorem dX7_loadRecords_112 : decode cX7_loadRecords 112 = .ok (.iload_n 1, 1) := by decide +kernel
theorem dX7_loadRecords_113 : decode cX7_loadRecords 113 = .ok (.iconst 2, 1) := by decide +kernel
theorem dX7_loadRecords_114 : decode cX7_loadRecords 114 = .ok (.aload_n 0, 1) := by decide +kernel
theorem dX7_loadRecords_115 : decode cX7_loadRecords 115 = .ok (.getfield 251, 3) := by decide +kernel
theorem dX7_loadRecords_118 : decode cX7_loadRecords 118 = .ok (.imul, 1) := by decide +kernel
theorem dX7_loadRecords_119 : decode cX7_loadRecords 119 = .ok (.if_icmp .ge 21, 3) := by decide +kernel
theorem dX7_loadRecords_122 : decode cX7_loadRecords 122 = .ok (.aload_n 0, 1) := by decide +kernel
theorem dX7_loadRecords_123 : decode cX7_loadRecords 123 = .ok (.getfield 46, 3) := by decide +kernel
theorem dX7_loadRecords_126 : decode cX7_loadRecords 126 = .ok (.iload_n 1, 1) := by decide +kernel
theorem dX7_loadRecords_127 : decode cX7_loadRecords 127 = .ok (.aload_n 0, 1) := by decide +kernel
theorem dX7_loadRecords_128 : decode cX7_loadRecords 128 = .ok (.getfield 76, 3) := by decide +kernel
theorem dX7_loadRecords_131 : decode cX7_loadRecords 131 = .ok (.iload_n 1, 1) := by decide +kernel
theorem dX7_loadRecords_132 : decode cX7_loadRecords 132 = .ok (.iaload, 1) := by decide +kernel
theorem dX7_loadRecords_133 : decode cX7_loadRecords 133 = .ok (.iastore, 1) := by decide +kernel
theorem dX7_loadRecords_134 : decode cX7_loadRecords 134 = .ok (.iinc 1 1, 3) := by decide +kernel
theorem dX7_loadRecords_137 : decode cX7_loadRecords 137 = .ok (.goto (-25), 3) := by decide +kernel
theorem dX7_loadRecords_140 : decode cX7_loadRecords 140 = .ok (.return_, 1) := by decide +kernel
theorem dX7_corners_0 : decode cX7_corners 0 = .ok (.aload_n 0, 1) := by decide +kernel
theorem dX7_corners_1 : decode cX7_corners 1 = .ok (.invokevirtual 257, 3) := by decide +kernel
theorem dX7_corners_4 : decode cX7_corners 4 = .ok (.istore_n 1, 1) := by decide +kernel
theorem dX7_corners_5 : decode cX7_corners 5 = .ok (.iload_n 1, 1) := by decide +kernel
theorem dX7_corners_6 : decode cX7_corners 6 = .ok (.ifCond .ge 7, 3) := by decide +kernel
theorem dX7_corners_9 : decode cX7_corners 9 = .ok (.iload_n 1, 1) := by decide +kernel
theorem dX7_corners_10 : decode cX7_corners 10 = .ok (.goto 7, 3) := by decide +kernel
theorem dX7_corners_13 : decode cX7_corners 13 = .ok (.aload_n 0, 1) := by decide +kernel
theorem dX7_corners_14 : decode cX7_corners 14 = .ok (.getfield 239, 3) := by decide +kernel
theorem dX7_corners_17 : decode cX7_corners 17 = .ok (.ireturn, 1) := by decide +kernel
theorem dX7_lanesOf_0 : decode cX7_lanesOf 0 = .ok (.iconst 0, 1) := by decide +kernel
theorem dX7_lanesOf_1 : decode cX7_lanesOf 1 = .ok (.istore_n 2, 1) := by decide +kernel
theorem dX7_lanesOf_2 : decode cX7_lanesOf 2 = .ok (.iconst 0, 1) := by decide +kernel
theorem dX7_lanesOf_3 : decode cX7_lanesOf 3 = .ok (.istore_n 3, 1) := by decide +kernel
theorem dX7_lanesOf_4 : decode cX7_lanesOf 4 = .ok (.iconst 0, 1) := by decide +kernel
theorem dX7_lanesOf_5 : decode cX7_lanesOf 5 = .ok (.istore 4, 2) := by decide +kernel
theorem dX7_lanesOf_7 : decode cX7_lanesOf 7 = .ok (.iload 4, 2) := by decide +kernel
theorem dX7_lanesOf_9 : decode cX7_lanesOf 9 = .ok (.aload_n 0, 1) := by decide +kernel
theorem dX7_lanesOf_10 : decode cX7_lanesOf 10 = .ok (.getfield 13, 3) := by decide +kernel
theorem dX7_lanesOf_13 : decode cX7_lanesOf 13 = .ok (.iconst 0, 1) := by decide +kernel
theorem dX7_lanesOf_14 : decode cX7_lanesOf 14 = .ok (.iaload, 1) := by decide +kernel
theorem dX7_lanesOf_15 : decode cX7_lanesOf 15 = .ok (.if_icmp .ge 110, 3) := by decide +kernel
theorem dX7_lanesOf_18 : decode cX7_lanesOf 18 = .ok (.aload_n 0, 1) := by decide +kernel
theorem dX7_lanesOf_19 : decode cX7_lanesOf 19 = .ok (.getfield 16, 3) := by decide +kernel
theorem dX7_lanesOf_22 : decode cX7_lanesOf 22 = .ok (.iload 4, 2) := by decide +kernel
theorem dX7_lanesOf_24 : decode cX7_lanesOf 24 = .ok (.iaload, 1) := by decide +kernel
theorem dX7_lanesOf_25 : decode cX7_lanesOf 25 = .ok (.istore 5, 2) := by decide +kernel
theorem dX7_lanesOf_27 : decode cX7_lanesOf 27 = .ok (.iload 4, 2) := by decide +kernel
theorem dX7_lanesOf_29 : decode cX7_lanesOf 29 = .ok (.ifCond .eq 17, 3) := by decide +kernel
theorem dX7_lanesOf_32 : decode cX7_lanesOf 32 = .ok (.aload_n 0, 1) := by decide +kernel
theorem dX7_lanesOf_33 : decode cX7_lanesOf 33 = .ok (.getfield 16, 3) := by decide +kernel
theorem dX7_lanesOf_36 : decode cX7_lanesOf 36 = .ok (.iload 4, 2) := by decide +kernel
theorem dX7_lanesOf_38 : decode cX7_lanesOf 38 = .ok (.iconst 1, 1) := by decide +kernel
theorem dX7_lanesOf_39 : decode cX7_lanesOf 39 = .ok (.isub, 1) := by decide +kernel
theorem dX7_lanesOf_40 : decode cX7_lanesOf 40 = .ok (.iaload, 1) := by decide +kernel
theorem dX7_lanesOf_41 : decode cX7_lanesOf 41 = .ok (.bipush 59, 2) := by decide +kernel
theorem dX7_lanesOf_43 : decode cX7_lanesOf 43 = .ok (.if_icmp .ne 7, 3) := by decide +kernel
theorem dX7_lanesOf_46 : decode cX7_lanesOf 46 = .ok (.iconst 1, 1) := by decide +kernel
theorem dX7_lanesOf_47 : decode cX7_lanesOf 47 = .ok (.goto 4, 3) := by decide +kernel
theorem dX7_lanesOf_50 : decode cX7_lanesOf 50 = .ok (.iconst 0, 1) := by decide +kernel
theorem dX7_lanesOf_51 : decode cX7_lanesOf 51 = .ok (.istore 6, 2) := by decide +kernel
theorem dX7_lanesOf_53 : decode cX7_lanesOf 53 = .ok (.iload 5, 2) := by decide +kernel
theorem dX7_lanesOf_55 : decode cX7_lanesOf 55 = .ok (.bipush 59, 2) := by decide +kernel
theorem dX7_lanesOf_57 : decode cX7_lanesOf 57 = .ok (.if_icmp .ne 9, 3) := by decide +kernel
theorem dX7_lanesOf_60 : decode cX7_lanesOf 60 = .ok (.iinc 2 1, 3) := by decide +kernel
theorem dX7_lanesOf_63 : decode cX7_lanesOf 63 = .ok (.goto 56, 3) := by decide +kernel
theorem dX7_lanesOf_66 : decode cX7_lanesOf 66 = .ok (.iload 6, 2) := by decide +kernel
theorem dX7_lanesOf_68 : decode cX7_lanesOf 68 = .ok (.ifCond .ne 38, 3) := by decide +kernel
theorem dX7_lanesOf_71 : decode cX7_lanesOf 71 = .ok (.iload 5, 2) := by decide +kernel
theorem dX7_lanesOf_73 : decode cX7_lanesOf 73 = .ok (.invokestatic 132, 3) := by decide +kernel
theorem dX7_lanesOf_76 : decode cX7_lanesOf 76 = .ok (.ifCond .ne 24, 3) := by decide +kernel
theorem dX7_lanesOf_79 : decode cX7_lanesOf 79 = .ok (.iload 5, 2) := by decide +kernel
theorem dX7_lanesOf_81 : decode cX7_lanesOf 81 = .ok (.bipush 35, 2) := by decide +kernel
theorem dX7_lanesOf_83 : decode cX7_lanesOf 83 = .ok (.if_icmp .eq 17, 3) := by decide +kernel
theorem dX7_lanesOf_86 : decode cX7_lanesOf 86 = .ok (.iload 5, 2) := by decide +kernel
theorem dX7_lanesOf_88 : decode cX7_lanesOf 88 = .ok (.bipush 61, 2) := by decide +kernel
theorem dX7_lanesOf_90 : decode cX7_lanesOf 90 = .ok (.if_icmp .eq 10, 3) := by decide +kernel
theorem dX7_lanesOf_93 : decode cX7_lanesOf 93 = .ok (.iload 5, 2) := by decide +kernel
theorem dX7_lanesOf_95 : decode cX7_lanesOf 95 = .ok (.bipush 33, 2) := by decide +kernel
theorem dX7_lanesOf_97 : decode cX7_lanesOf 97 = .ok (.if_icmp .ne 9, 3) := by decide +kernel
theorem dX7_lanesOf_100 : decode cX7_lanesOf 100 = .ok (.iinc 4 1, 3) := by decide +kernel
theorem dX7_lanesOf_103 : decode cX7_lanesOf 103 = .ok (.goto 16, 3) := by decide +kernel
theorem dX7_lanesOf_106 : decode cX7_lanesOf 106 = .ok (.iload 6, 2) := by decide +kernel
theorem dX7_lanesOf_108 : decode cX7_lanesOf 108 = .ok (.ifCond .ne 11, 3) := by decide +kernel
theorem dX7_lanesOf_111 : decode cX7_lanesOf 111 = .ok (.iload_n 2, 1) := by decide +kernel
theorem dX7_lanesOf_112 : decode cX7_lanesOf 112 = .ok (.iload_n 1, 1) := by decide +kernel
theorem dX7_lanesOf_113 : decode cX7_lanesOf 113 = .ok (.if_icmp .ne 6, 3) := by decide +kernel
theorem dX7_lanesOf_116 : decode cX7_lanesOf 116 = .ok (.iinc 3 1, 3) := by decide +kernel
theorem dX7_lanesOf_119 : decode cX7_lanesOf 119 = .ok (.iinc 4 1, 3) := by decide +kernel
theorem dX7_lanesOf_122 : decode cX7_lanesOf 122 = .ok (.goto (-115), 3) := by decide +kernel
theorem dX7_lanesOf_125 : decode cX7_lanesOf 125 = .ok (.iload_n 3, 1) := by decide +kernel
theorem dX7_lanesOf_126 : decode cX7_lanesOf 126 = .ok (.ireturn, 1) := by decide +kernel
theorem dX7_corner_0 : decode cX7_corner 0 = .ok (.iload_n 1, 1) := by decide +kernel
theorem dX7_corner_1 : decode cX7_corner 1 = .ok (.i2l, 1) := by decide +kernel
theorem dX7_corner_2 : decode cX7_corner 2 = .ok (.lconst 0, 1) := by decide +kernel
theorem dX7_corner_3 : decode cX7_corner 3 = .ok (.aload_n 0, 1) := by decide +kernel
theorem dX7_corner_4 : decode cX7_corner 4 = .ok (.invokevirtual 150, 3) := by decide +kernel
theorem dX7_corner_7 : decode cX7_corner 7 = .ok (.iconst 1, 1) := by decide +kernel
theorem dX7_corner_8 : decode cX7_corner 8 = .ok (.isub, 1) := by decide +kernel
theorem dX7_corner_9 : decode cX7_corner 9 = .ok (.i2l, 1) := by decide +kernel
theorem dX7_corner_10 : decode cX7_corner 10 = .ok (.invokestatic 118, 3) := by decide +kernel
theorem dX7_corner_13 : decode cX7_corner 13 = .ok (.ifCond .eq 31, 3) := by decide +kernel
theorem dX7_corner_16 : decode cX7_corner 16 = .ok (.aload_n 0, 1) := by decide +kernel
theorem dX7_corner_17 : decode cX7_corner 17 = .ok (.getfield 19, 3) := by decide +kernel
theorem dX7_corner_20 : decode cX7_corner 20 = .ok (.iconst 0, 1) := by decide +kernel
theorem dX7_corner_21 : decode cX7_corner 21 = .ok (.iaload, 1) := by decide +kernel
theorem dX7_corner_22 : decode cX7_corner 22 = .ok (.iload_n 1, 1) := by decide +kernel
theorem dX7_corner_23 : decode cX7_corner 23 = .ok (.invokestatic 182, 3) := by decide +kernel
theorem dX7_corner_26 : decode cX7_corner 26 = .ok (.ifCond .ne 18, 3) := by decide +kernel
theorem dX7_corner_29 : decode cX7_corner 29 = .ok (.iload_n 2, 1) := by decide +kernel
theorem dX7_corner_30 : decode cX7_corner 30 = .ok (.i2l, 1) := by decide +kernel
theorem dX7_corner_31 : decode cX7_corner 31 = .ok (.lconst 0, 1) := by decide +kernel
theorem dX7_corner_32 : decode cX7_corner 32 = .ok (.aload_n 0, 1) := by decide +kernel
theorem dX7_corner_33 : decode cX7_corner 33 = .ok (.iload_n 1, 1) := by decide +kernel
theorem dX7_corner_34 : decode cX7_corner 34 = .ok (.invokevirtual 260, 3) := by decide +kernel
theorem dX7_corner_37 : decode cX7_corner 37 = .ok (.i2l, 1) := by decide +kernel
theorem dX7_corner_38 : decode cX7_corner 38 = .ok (.invokestatic 118, 3) := by decide +kernel
theorem dX7_corner_41 : decode cX7_corner 41 = .ok (.ifCond .ne 5, 3) := by decide +kernel
theorem dX7_corner_44 : decode cX7_corner 44 = .ok (.iconst (-1), 1) := by decide +kernel
theorem dX7_corner_45 : decode cX7_corner 45 = .ok (.ireturn, 1) := by decide +kernel
theorem dX7_corner_46 : decode cX7_corner 46 = .ok (.aload_n 0, 1) := by decide +kernel
theorem dX7_corner_47 : decode cX7_corner 47 = .ok (.invokevirtual 257, 3) := by decide +kernel
theorem dX7_corner_50 : decode cX7_corner 50 = .ok (.istore_n 3, 1) := by decide +kernel
theorem dX7_corner_51 : decode cX7_corner 51 = .ok (.iload_n 3, 1) := by decide +kernel
theorem dX7_corner_52 : decode cX7_corner 52 = .ok (.ifCond .ge 7, 3) := by decide +kernel
theorem dX7_corner_55 : decode cX7_corner 55 = .ok (.iload_n 3, 1) := by decide +kernel
theorem dX7_corner_56 : decode cX7_corner 56 = .ok (.goto 18, 3) := by decide +kernel
theorem dX7_corner_59 : decode cX7_corner 59 = .ok (.aload_n 0, 1) := by decide +kernel
theorem dX7_corner_60 : decode cX7_corner 60 = .ok (.getfield 64, 3) := by decide +kernel
theorem dX7_corner_63 : decode cX7_corner 63 = .ok (.aload_n 0, 1) := by decide +kernel
theorem dX7_corner_64 : decode cX7_corner 64 = .ok (.aload_n 0, 1) := by decide +kernel
theorem dX7_corner_65 : decode cX7_corner 65 = .ok (.iload_n 1, 1) := by decide +kernel
theorem dX7_corner_66 : decode cX7_corner 66 = .ok (.iload_n 2, 1) := by decide +kernel
theorem dX7_corner_67 : decode cX7_corner 67 = .ok (.invokevirtual 207, 3) := by decide +kernel
theorem dX7_corner_70 : decode cX7_corner 70 = .ok (.invokevirtual 242, 3) := by decide +kernel
theorem dX7_corner_73 : decode cX7_corner 73 = .ok (.iaload, 1) := by decide +kernel
theorem dX7_corner_74 : decode cX7_corner 74 = .ok (.ireturn, 1) := by decide +kernel
theorem dX7_isCorner_0 : decode cX7_isCorner 0 = .ok (.iload_n 1, 1) := by decide +kernel
theorem dX7_isCorner_1 : decode cX7_isCorner 1 = .ok (.i2l, 1) := by decide +kernel
theorem dX7_isCorner_2 : decode cX7_isCorner 2 = .ok (.lconst 0, 1) := by decide +kernel
theorem dX7_isCorner_3 : decode cX7_isCorner 3 = .ok (.aload_n 0, 1) := by decide +kernel
theorem dX7_isCorner_4 : decode cX7_isCorner 4 = .ok (.getfield 239, 3) := by decide +kernel
theorem dX7_isCorner_7 : decode cX7_isCorner 7 = .ok (.iconst 1, 1) := by decide +kernel
theorem dX7_isCorner_8 : decode cX7_isCorner 8 = .ok (.isub, 1) := by decide +kernel
theorem dX7_isCorner_9 : decode cX7_isCorner 9 = .ok (.i2l, 1) := by decide +kernel
theorem dX7_isCorner_10 : decode cX7_isCorner 10 = .ok (.invokestatic 118, 3) := by decide +kernel
theorem dX7_isCorner_13 : decode cX7_isCorner 13 = .ok (.ireturn, 1) := by decide +kernel
theorem dX7_about_0 : decode cX7_about 0 = .ok (.iload_n 2, 1) := by decide +kernel
theorem dX7_about_1 : decode cX7_about 1 = .ok (.i2l, 1) := by decide +kernel
theorem dX7_about_2 : decode cX7_about 2 = .ok (.lconst 0, 1) := by decide +kernel
theorem dX7_about_3 : decode cX7_about 3 = .ok (.ldc2_w 263, 3) := by decide +kernel
theorem dX7_about_6 : decode cX7_about 6 = .ok (.invokestatic 118, 3) := by decide +kernel
theorem dX7_about_9 : decode cX7_about 9 = .ok (.ifCond .ne 5, 3) := by decide +kernel
theorem dX7_about_12 : decode cX7_about 12 = .ok (.iconst (-1), 1) := by decide +kernel
theorem dX7_about_13 : decode cX7_about 13 = .ok (.ireturn, 1) := by decide +kernel
theorem dX7_about_14 : decode cX7_about 14 = .ok (.aload_n 0, 1) := by decide +kernel
theorem dX7_about_15 : decode cX7_about 15 = .ok (.invokevirtual 257, 3) := by decide +kernel
theorem dX7_about_18 : decode cX7_about 18 = .ok (.istore_n 3, 1) := by decide +kernel
theorem dX7_about_19 : decode cX7_about 19 = .ok (.iload_n 3, 1) := by decide +kernel
theorem dX7_about_20 : decode cX7_about 20 = .ok (.ifCond .ge 5, 3) := by decide +kernel
theorem dX7_about_23 : decode cX7_about 23 = .ok (.iload_n 3, 1) := by decide +kernel
theorem dX7_about_24 : decode cX7_about 24 = .ok (.ireturn, 1) := by decide +kernel
theorem dX7_about_25 : decode cX7_about 25 = .ok (.aload_n 0, 1) := by decide +kernel
theorem dX7_about_26 : decode cX7_about 26 = .ok (.iload_n 1, 1) := by decide +kernel
theorem dX7_about_27 : decode cX7_about 27 = .ok (.invokevirtual 265, 3) := by decide +kernel
theorem dX7_about_30 : decode cX7_about 30 = .ok (.ifCond .ne 5, 3) := by decide +kernel
theorem dX7_about_33 : decode cX7_about 33 = .ok (.iconst (-1), 1) := by decide +kernel
theorem dX7_about_34 : decode cX7_about 34 = .ok (.ireturn, 1) := by decide +kernel
theorem dX7_about_35 : decode cX7_about 35 = .ok (.iconst 0, 1) := by decide +kernel
theorem dX7_about_36 : decode cX7_about 36 = .ok (.istore 4, 2) := by decide +kernel
theorem dX7_about_38 : decode cX7_about 38 = .ok (.iconst 0, 1) := by decide +kernel
theorem dX7_about_39 : decode cX7_about 39 = .ok (.istore 5, 2) := by decide +kernel
theorem dX7_about_41 : decode cX7_about 41 = .ok (.iconst 1, 1) := by decide +kernel
theorem dX7_about_42 : decode cX7_about 42 = .ok (.istore 6, 2) := by decide +kernel
theorem dX7_about_44 : decode cX7_about 44 = .ok (.iconst 0, 1) := by decide +kernel
theorem dX7_about_45 : decode cX7_about 45 = .ok (.istore 7, 2) := by decide +kernel
theorem dX7_about_47 : decode cX7_about 47 = .ok (.iload 7, 2) := by decide +kernel
theorem dX7_about_49 : decode cX7_about 49 = .ok (.aload_n 0, 1) := by decide +kernel
theorem dX7_about_50 : decode cX7_about 50 = .ok (.getfield 236, 3) := by decide +kernel
theorem dX7_about_53 : decode cX7_about 53 = .ok (.if_icmp .ge 65, 3) := by decide +kernel
theorem dX7_about_56 : decode cX7_about 56 = .ok (.aload_n 0, 1) := by decide +kernel
theorem dX7_about_57 : decode cX7_about 57 = .ok (.getfield 64, 3) := by decide +kernel
theorem dX7_about_60 : decode cX7_about 60 = .ok (.iload 7, 2) := by decide +kernel
theorem dX7_about_62 : decode cX7_about 62 = .ok (.iaload, 1) := by decide +kernel
theorem dX7_about_63 : decode cX7_about 63 = .ok (.iload_n 1, 1) := by decide +kernel
theorem dX7_about_64 : decode cX7_about 64 = .ok (.if_icmp .ne 48, 3) := by decide +kernel
theorem dX7_about_67 : decode cX7_about 67 = .ok (.iinc 4 1, 3) := by decide +kernel
theorem dX7_about_70 : decode cX7_about 70 = .ok (.iload 5, 2) := by decide +kernel
theorem dX7_about_72 : decode cX7_about 72 = .ok (.aload_n 0, 1) := by decide +kernel
theorem dX7_about_73 : decode cX7_about 73 = .ok (.getfield 61, 3) := by decide +kernel
theorem dX7_about_76 : decode cX7_about 76 = .ok (.iload 7, 2) := by decide +kernel
theorem dX7_about_78 : decode cX7_about 78 = .ok (.iaload, 1) := by decide +kernel
theorem dX7_about_79 : decode cX7_about 79 = .ok (.ifCond .ge 7, 3) := by decide +kernel
theorem dX7_about_82 : decode cX7_about 82 = .ok (.iconst 1, 1) := by decide +kernel
theorem dX7_about_83 : decode cX7_about 83 = .ok (.goto 4, 3) := by decide +kernel
theorem dX7_about_86 : decode cX7_about 86 = .ok (.iconst 0, 1) := by decide +kernel
theorem dX7_about_87 : decode cX7_about 87 = .ok (.iadd, 1) := by decide +kernel
theorem dX7_about_88 : decode cX7_about 88 = .ok (.istore 5, 2) := by decide +kernel
theorem dX7_about_90 : decode cX7_about 90 = .ok (.iload 6, 2) := by decide +kernel
theorem dX7_about_92 : decode cX7_about 92 = .ok (.ifCond .eq 17, 3) := by decide +kernel
theorem dX7_about_95 : decode cX7_about 95 = .ok (.aload_n 0, 1) := by decide +kernel
theorem dX7_about_96 : decode cX7_about 96 = .ok (.getfield 55, 3) := by decide +kernel
theorem dX7_about_99 : decode cX7_about 99 = .ok (.iload 7, 2) := by decide +kernel
theorem dX7_about_101 : decode cX7_about 101 = .ok (.iaload, 1) := by decide +kernel
theorem dX7_about_102 : decode cX7_about 102 = .ok (.ifCond .lt 7, 3) := by decide +kernel
theorem dX7_about_105 : decode cX7_about 105 = .ok (.iconst 1, 1) := by decide +kernel
theorem dX7_about_106 : decode cX7_about 106 = .ok (.goto 4, 3) := by decide +kernel
theorem dX7_about_109 : decode cX7_about 109 = .ok (.iconst 0, 1) := by decide +kernel
theorem dX7_about_110 : decode cX7_about 110 = .ok (.istore 6, 2) := by decide +kernel
theorem dX7_about_112 : decode cX7_about 112 = .ok (.iinc 7 1, 3) := by decide +kernel
theorem dX7_about_115 : decode cX7_about 115 = .ok (.goto (-68), 3) := by decide +kernel
theorem dX7_about_118 : decode cX7_about 118 = .ok (.iload_n 2, 1) := by decide +kernel
theorem dX7_about_119 : decode cX7_about 119 = .ok (.iconst 2, 1) := by decide +kernel
theorem dX7_about_120 : decode cX7_about 120 = .ok (.if_icmp .ne 51, 3) := by decide +kernel
theorem dX7_about_123 : decode cX7_about 123 = .ok (.iconst 0, 1) := by decide +kernel
theorem dX7_about_124 : decode cX7_about 124 = .ok (.istore 7, 2) := by decide +kernel
theorem dX7_about_126 : decode cX7_about 126 = .ok (.iload 7, 2) := by decide +kernel
theorem dX7_about_128 : decode cX7_about 128 = .ok (.bipush 8, 2) := by decide +kernel
theorem dX7_about_130 : decode cX7_about 130 = .ok (.if_icmp .ge 38, 3) := by decide +kernel
theorem dX7_about_133 : decode cX7_about 133 = .ok (.aload_n 0, 1) := by decide +kernel
theorem dX7_about_134 : decode cX7_about 134 = .ok (.getfield 67, 3) := by decide +kernel
theorem dX7_about_137 : decode cX7_about 137 = .ok (.iload 7, 2) := by decide +kernel
theorem dX7_about_139 : decode cX7_about 139 = .ok (.iaload, 1) := by decide +kernel
theorem dX7_about_140 : decode cX7_about 140 = .ok (.ifCond .lt 22, 3) := by decide +kernel
theorem dX7_about_143 : decode cX7_about 143 = .ok (.aload_n 0, 1) := by decide +kernel
theorem dX7_about_144 : decode cX7_about 144 = .ok (.getfield 64, 3) := by decide +kernel
theorem dX7_about_147 : decode cX7_about 147 = .ok (.aload_n 0, 1) := by decide +kernel
theorem dX7_about_148 : decode cX7_about 148 = .ok (.getfield 67, 3) := by decide +kernel
theorem dX7_about_151 : decode cX7_about 151 = .ok (.iload 7, 2) := by decide +kernel
theorem dX7_about_153 : decode cX7_about 153 = .ok (.iaload, 1) := by decide +kernel
theorem dX7_about_154 : decode cX7_about 154 = .ok (.iaload, 1) := by decide +kernel
theorem dX7_about_155 : decode cX7_about 155 = .ok (.iload_n 1, 1) := by decide +kernel
theorem dX7_about_156 : decode cX7_about 156 = .ok (.if_icmp .ne 6, 3) := by decide +kernel
theorem dX7_about_159 : decode cX7_about 159 = .ok (.iload 7, 2) := by decide +kernel
theorem dX7_about_161 : decode cX7_about 161 = .ok (.ireturn, 1) := by decide +kernel
theorem dX7_about_162 : decode cX7_about 162 = .ok (.iinc 7 1, 3) := by decide +kernel
theorem dX7_about_165 : decode cX7_about 165 = .ok (.goto (-39), 3) := by decide +kernel
theorem dX7_about_168 : decode cX7_about 168 = .ok (.bipush (-4), 2) := by decide +kernel
theorem dX7_about_170 : decode cX7_about 170 = .ok (.ireturn, 1) := by decide +kernel
theorem dX7_about_171 : decode cX7_about 171 = .ok (.iload_n 2, 1) := by decide +kernel
theorem dX7_about_172 : decode cX7_about 172 = .ok (.ifCond .ne 8, 3) := by decide +kernel
theorem dX7_about_175 : decode cX7_about 175 = .ok (.iload 4, 2) := by decide +kernel
theorem dX7_about_177 : decode cX7_about 177 = .ok (.goto 23, 3) := by decide +kernel
theorem dX7_about_180 : decode cX7_about 180 = .ok (.iload_n 2, 1) := by decide +kernel
theorem dX7_about_181 : decode cX7_about 181 = .ok (.iconst 3, 1) := by decide +kernel
theorem dX7_about_182 : decode cX7_about 182 = .ok (.if_icmp .ne 8, 3) := by decide +kernel
theorem dX7_about_185 : decode cX7_about 185 = .ok (.iload 5, 2) := by decide +kernel
theorem dX7_about_187 : decode cX7_about 187 = .ok (.goto 13, 3) := by decide +kernel
theorem dX7_about_190 : decode cX7_about 190 = .ok (.iload 6, 2) := by decide +kernel
theorem dX7_about_192 : decode cX7_about 192 = .ok (.ifCond .eq 7, 3) := by decide +kernel
theorem dX7_about_195 : decode cX7_about 195 = .ok (.iconst 1, 1) := by decide +kernel
theorem dX7_about_196 : decode cX7_about 196 = .ok (.goto 4, 3) := by decide +kernel
theorem dX7_about_199 : decode cX7_about 199 = .ok (.iconst 0, 1) := by decide +kernel
theorem dX7_about_200 : decode cX7_about 200 = .ok (.ireturn, 1) := by decide +kernel
theorem dX7_layParts_0 : decode cX7_layParts 0 = .ok (.iconst 0, 1) := by decide +kernel
theorem dX7_layParts_1 : decode cX7_layParts 1 = .ok (.istore_n 1, 1) := by decide +kernel
theorem dX7_layParts_2 : decode cX7_layParts 2 = .ok (.iload_n 1, 1) := by decide +kernel
theorem dX7_layParts_3 : decode cX7_layParts 3 = .ok (.aload_n 0, 1) := by decide +kernel
theorem dX7_layParts_4 : decode cX7_layParts 4 = .ok (.getfield 239, 3) := by decide +kernel
theorem dX7_layParts_7 : decode cX7_layParts 7 = .ok (.if_icmp .ge 16, 3) := by decide +kernel
theorem dX7_layParts_10 : decode cX7_layParts 10 = .ok (.aload_n 0, 1) := by decide +kernel
theorem dX7_layParts_11 : decode cX7_layParts 11 = .ok (.getfield 85, 3) := by decide +kernel
theorem dX7_layParts_14 : decode cX7_layParts 14 = .ok (.iload_n 1, 1) := by decide +kernel
theorem dX7_layParts_15 : decode cX7_layParts 15 = .ok (.iload_n 1, 1) := by decide +kernel
theorem dX7_layParts_16 : decode cX7_layParts 16 = .ok (.iastore, 1) := by decide +kernel
theorem dX7_layParts_17 : decode cX7_layParts 17 = .ok (.iinc 1 1, 3) := by decide +kernel
theorem dX7_layParts_20 : decode cX7_layParts 20 = .ok (.goto (-18), 3) := by decide +kernel
theorem dX7_layParts_23 : decode cX7_layParts 23 = .ok (.iconst 1, 1) := by decide +kernel
theorem dX7_layParts_24 : decode cX7_layParts 24 = .ok (.istore_n 1, 1) := by decide +kernel
theorem dX7_layParts_25 : decode cX7_layParts 25 = .ok (.iload_n 1, 1) := by decide +kernel
theorem dX7_layParts_26 : decode cX7_layParts 26 = .ok (.ifCond .eq 88, 3) := by decide +kernel
theorem dX7_layParts_29 : decode cX7_layParts 29 = .ok (.iconst 0, 1) := by decide +kernel
theorem dX7_layParts_30 : decode cX7_layParts 30 = .ok (.istore_n 1, 1) := by decide +kernel
theorem dX7_layParts_31 : decode cX7_layParts 31 = .ok (.iconst 0, 1) := by decide +kernel
theorem dX7_layParts_32 : decode cX7_layParts 32 = .ok (.istore_n 2, 1) := by decide +kernel
theorem dX7_layParts_33 : decode cX7_layParts 33 = .ok (.iload_n 2, 1) := by decide +kernel
theorem dX7_layParts_34 : decode cX7_layParts 34 = .ok (.aload_n 0, 1) := by decide +kernel
theorem dX7_layParts_35 : decode cX7_layParts 35 = .ok (.getfield 236, 3) := by decide +kernel
theorem dX7_layParts_38 : decode cX7_layParts 38 = .ok (.if_icmp .ge 73, 3) := by decide +kernel
theorem dX7_layParts_41 : decode cX7_layParts 41 = .ok (.aload_n 0, 1) := by decide +kernel
theorem dX7_layParts_42 : decode cX7_layParts 42 = .ok (.getfield 64, 3) := by decide +kernel
theorem dX7_layParts_45 : decode cX7_layParts 45 = .ok (.iload_n 2, 1) := by decide +kernel
theorem dX7_layParts_46 : decode cX7_layParts 46 = .ok (.iaload, 1) := by decide +kernel
theorem dX7_layParts_47 : decode cX7_layParts 47 = .ok (.istore_n 3, 1) := by decide +kernel
theorem dX7_layParts_48 : decode cX7_layParts 48 = .ok (.aload_n 0, 1) := by decide +kernel
theorem dX7_layParts_49 : decode cX7_layParts 49 = .ok (.getfield 61, 3) := by decide +kernel
theorem dX7_layParts_52 : decode cX7_layParts 52 = .ok (.iload_n 2, 1) := by decide +kernel
theorem dX7_layParts_53 : decode cX7_layParts 53 = .ok (.iaload, 1) := by decide +kernel
theorem dX7_layParts_54 : decode cX7_layParts 54 = .ok (.ifCond .ge 7, 3) := by decide +kernel
theorem dX7_layParts_57 : decode cX7_layParts 57 = .ok (.iload_n 3, 1) := by decide +kernel
theorem dX7_layParts_58 : decode cX7_layParts 58 = .ok (.goto 14, 3) := by decide +kernel
theorem dX7_layParts_61 : decode cX7_layParts 61 = .ok (.aload_n 0, 1) := by decide +kernel
theorem dX7_layParts_62 : decode cX7_layParts 62 = .ok (.getfield 64, 3) := by decide +kernel
theorem dX7_layParts_65 : decode cX7_layParts 65 = .ok (.aload_n 0, 1) := by decide +kernel
theorem dX7_layParts_66 : decode cX7_layParts 66 = .ok (.getfield 61, 3) := by decide +kernel
theorem dX7_layParts_69 : decode cX7_layParts 69 = .ok (.iload_n 2, 1) := by decide +kernel
theorem dX7_layParts_70 : decode cX7_layParts 70 = .ok (.iaload, 1) := by decide +kernel
theorem dX7_layParts_71 : decode cX7_layParts 71 = .ok (.iaload, 1) := by decide +kernel
theorem dX7_layParts_72 : decode cX7_layParts 72 = .ok (.istore 4, 2) := by decide +kernel
theorem dX7_layParts_74 : decode cX7_layParts 74 = .ok (.aload_n 0, 1) := by decide +kernel
theorem dX7_layParts_75 : decode cX7_layParts 75 = .ok (.getfield 85, 3) := by decide +kernel
theorem dX7_layParts_78 : decode cX7_layParts 78 = .ok (.iload 4, 2) := by decide +kernel
theorem dX7_layParts_80 : decode cX7_layParts 80 = .ok (.iaload, 1) := by decide +kernel
theorem dX7_layParts_81 : decode cX7_layParts 81 = .ok (.aload_n 0, 1) := by decide +kernel
theorem dX7_layParts_82 : decode cX7_layParts 82 = .ok (.getfield 85, 3) := by decide +kernel
theorem dX7_layParts_85 : decode cX7_layParts 85 = .ok (.iload_n 3, 1) := by decide +kernel
theorem dX7_layParts_86 : decode cX7_layParts 86 = .ok (.iaload, 1) := by decide +kernel
theorem dX7_layParts_87 : decode cX7_layParts 87 = .ok (.if_icmp .ge 18, 3) := by decide +kernel
theorem dX7_layParts_90 : decode cX7_layParts 90 = .ok (.aload_n 0, 1) := by decide +kernel
theorem dX7_layParts_91 : decode cX7_layParts 91 = .ok (.getfield 85, 3) := by decide +kernel
theorem dX7_layParts_94 : decode cX7_layParts 94 = .ok (.iload_n 3, 1) := by decide +kernel
theorem dX7_layParts_95 : decode cX7_layParts 95 = .ok (.aload_n 0, 1) := by decide +kernel
theorem dX7_layParts_96 : decode cX7_layParts 96 = .ok (.getfield 85, 3) := by decide +kernel
theorem dX7_layParts_99 : decode cX7_layParts 99 = .ok (.iload 4, 2) := by decide +kernel
theorem dX7_layParts_101 : decode cX7_layParts 101 = .ok (.iaload, 1) := by decide +kernel
theorem dX7_layParts_102 : decode cX7_layParts 102 = .ok (.iastore, 1) := by decide +kernel
theorem dX7_layParts_103 : decode cX7_layParts 103 = .ok (.iconst 1, 1) := by decide +kernel
theorem dX7_layParts_104 : decode cX7_layParts 104 = .ok (.istore_n 1, 1) := by decide +kernel
theorem dX7_layParts_105 : decode cX7_layParts 105 = .ok (.iinc 2 1, 3) := by decide +kernel
theorem dX7_layParts_108 : decode cX7_layParts 108 = .ok (.goto (-75), 3) := by decide +kernel
theorem dX7_layParts_111 : decode cX7_layParts 111 = .ok (.goto (-86), 3) := by decide +kernel
theorem dX7_layParts_114 : decode cX7_layParts 114 = .ok (.iconst 0, 1) := by decide +kernel
theorem dX7_layParts_115 : decode cX7_layParts 115 = .ok (.istore_n 2, 1) := by decide +kernel
theorem dX7_layParts_116 : decode cX7_layParts 116 = .ok (.iconst 0, 1) := by decide +kernel
theorem dX7_layParts_117 : decode cX7_layParts 117 = .ok (.istore_n 3, 1) := by decide +kernel
theorem dX7_layParts_118 : decode cX7_layParts 118 = .ok (.iload_n 3, 1) := by decide +kernel
theorem dX7_layParts_119 : decode cX7_layParts 119 = .ok (.aload_n 0, 1) := by decide +kernel
theorem dX7_layParts_120 : decode cX7_layParts 120 = .ok (.getfield 239, 3) := by decide +kernel
theorem dX7_layParts_123 : decode cX7_layParts 123 = .ok (.if_icmp .ge 27, 3) := by decide +kernel
theorem dX7_layParts_126 : decode cX7_layParts 126 = .ok (.iload_n 2, 1) := by decide +kernel
theorem dX7_layParts_127 : decode cX7_layParts 127 = .ok (.aload_n 0, 1) := by decide +kernel
theorem dX7_layParts_128 : decode cX7_layParts 128 = .ok (.getfield 85, 3) := by decide +kernel
theorem dX7_layParts_131 : decode cX7_layParts 131 = .ok (.iload_n 3, 1) := by decide +kernel
theorem dX7_layParts_132 : decode cX7_layParts 132 = .ok (.iaload, 1) := by decide +kernel
theorem dX7_layParts_133 : decode cX7_layParts 133 = .ok (.iload_n 3, 1) := by decide +kernel
theorem dX7_layParts_134 : decode cX7_layParts 134 = .ok (.if_icmp .ne 7, 3) := by decide +kernel
theorem dX7_layParts_137 : decode cX7_layParts 137 = .ok (.iconst 1, 1) := by decide +kernel
theorem dX7_layParts_138 : decode cX7_layParts 138 = .ok (.goto 4, 3) := by decide +kernel
theorem dX7_layParts_141 : decode cX7_layParts 141 = .ok (.iconst 0, 1) := by decide +kernel
theorem dX7_layParts_142 : decode cX7_layParts 142 = .ok (.iadd, 1) := by decide +kernel
theorem dX7_layParts_143 : decode cX7_layParts 143 = .ok (.istore_n 2, 1) := by decide +kernel
theorem dX7_layParts_144 : decode cX7_layParts 144 = .ok (.iinc 3 1, 3) := by decide +kernel
theorem dX7_layParts_147 : decode cX7_layParts 147 = .ok (.goto (-29), 3) := by decide +kernel
theorem dX7_layParts_150 : decode cX7_layParts 150 = .ok (.iload_n 2, 1) := by decide +kernel
theorem dX7_layParts_151 : decode cX7_layParts 151 = .ok (.ireturn, 1) := by decide +kernel
theorem dX7_nextLane_0 : decode cX7_nextLane 0 = .ok (.iload_n 1, 1) := by decide +kernel
theorem dX7_nextLane_1 : decode cX7_nextLane 1 = .ok (.istore_n 2, 1) := by decide +kernel
theorem dX7_nextLane_2 : decode cX7_nextLane 2 = .ok (.aload_n 0, 1) := by decide +kernel
theorem dX7_nextLane_3 : decode cX7_nextLane 3 = .ok (.getfield 55, 3) := by decide +kernel
theorem dX7_nextLane_6 : decode cX7_nextLane 6 = .ok (.iload_n 2, 1) := by decide +kernel
theorem dX7_nextLane_7 : decode cX7_nextLane 7 = .ok (.iaload, 1) := by decide +kernel
theorem dX7_nextLane_8 : decode cX7_nextLane 8 = .ok (.ifCond .lt 13, 3) := by decide +kernel
theorem dX7_nextLane_11 : decode cX7_nextLane 11 = .ok (.aload_n 0, 1) := by decide +kernel
theorem dX7_nextLane_12 : decode cX7_nextLane 12 = .ok (.getfield 55, 3) := by decide +kernel
theorem dX7_nextLane_15 : decode cX7_nextLane 15 = .ok (.iload_n 2, 1) := by decide +kernel
theorem dX7_nextLane_16 : decode cX7_nextLane 16 = .ok (.iaload, 1) := by decide +kernel
theorem dX7_nextLane_17 : decode cX7_nextLane 17 = .ok (.istore_n 2, 1) := by decide +kernel
theorem dX7_nextLane_18 : decode cX7_nextLane 18 = .ok (.goto 22, 3) := by decide +kernel
theorem dX7_nextLane_21 : decode cX7_nextLane 21 = .ok (.aload_n 0, 1) := by decide +kernel
theorem dX7_nextLane_22 : decode cX7_nextLane 22 = .ok (.getfield 58, 3) := by decide +kernel
theorem dX7_nextLane_25 : decode cX7_nextLane 25 = .ok (.iload_n 2, 1) := by decide +kernel
theorem dX7_nextLane_26 : decode cX7_nextLane 26 = .ok (.iaload, 1) := by decide +kernel
theorem dX7_nextLane_27 : decode cX7_nextLane 27 = .ok (.ifCond .lt 13, 3) := by decide +kernel
theorem dX7_nextLane_30 : decode cX7_nextLane 30 = .ok (.aload_n 0, 1) := by decide +kernel
theorem dX7_nextLane_31 : decode cX7_nextLane 31 = .ok (.getfield 58, 3) := by decide +kernel
theorem dX7_nextLane_34 : decode cX7_nextLane 34 = .ok (.iload_n 2, 1) := by decide +kernel
theorem dX7_nextLane_35 : decode cX7_nextLane 35 = .ok (.iaload, 1) := by decide +kernel
theorem dX7_nextLane_36 : decode cX7_nextLane 36 = .ok (.istore_n 2, 1) := by decide +kernel
theorem dX7_nextLane_37 : decode cX7_nextLane 37 = .ok (.goto (-16), 3) := by decide +kernel
theorem dX7_nextLane_40 : decode cX7_nextLane 40 = .ok (.aload_n 0, 1) := by decide +kernel
theorem dX7_nextLane_41 : decode cX7_nextLane 41 = .ok (.getfield 61, 3) := by decide +kernel
theorem dX7_nextLane_44 : decode cX7_nextLane 44 = .ok (.iload_n 2, 1) := by decide +kernel
theorem dX7_nextLane_45 : decode cX7_nextLane 45 = .ok (.iaload, 1) := by decide +kernel
theorem dX7_nextLane_46 : decode cX7_nextLane 46 = .ok (.ifCond .lt (-44), 3) := by decide +kernel
theorem dX7_nextLane_49 : decode cX7_nextLane 49 = .ok (.iload_n 2, 1) := by decide +kernel
theorem dX7_nextLane_50 : decode cX7_nextLane 50 = .ok (.ireturn, 1) := by decide +kernel
theorem dX7_isFlat_0 : decode cX7_isFlat 0 = .ok (.aload_n 0, 1) := by decide +kernel
theorem dX7_isFlat_1 : decode cX7_isFlat 1 = .ok (.invokevirtual 268, 3) := by decide +kernel
theorem dX7_isFlat_4 : decode cX7_isFlat 4 = .ok (.pop, 1) := by decide +kernel
theorem dX7_isFlat_5 : decode cX7_isFlat 5 = .ok (.iconst 0, 1) := by decide +kernel
theorem dX7_isFlat_6 : decode cX7_isFlat 6 = .ok (.istore_n 1, 1) := by decide +kernel
theorem dX7_isFlat_7 : decode cX7_isFlat 7 = .ok (.iload_n 1, 1) := by decide +kernel
theorem dX7_isFlat_8 : decode cX7_isFlat 8 = .ok (.aload_n 0, 1) := by decide +kernel
theorem dX7_isFlat_9 : decode cX7_isFlat 9 = .ok (.getfield 239, 3) := by decide +kernel
theorem dX7_isFlat_12 : decode cX7_isFlat 12 = .ok (.if_icmp .ge 195, 3) := by decide +kernel
theorem dX7_isFlat_15 : decode cX7_isFlat 15 = .ok (.iconst 0, 1) := by decide +kernel
theorem dX7_isFlat_16 : decode cX7_isFlat 16 = .ok (.istore_n 2, 1) := by decide +kernel
theorem dX7_isFlat_17 : decode cX7_isFlat 17 = .ok (.iconst 0, 1) := by decide +kernel
theorem dX7_isFlat_18 : decode cX7_isFlat 18 = .ok (.istore_n 3, 1) := by decide +kernel
theorem dX7_isFlat_19 : decode cX7_isFlat 19 = .ok (.iconst 0, 1) := by decide +kernel
theorem dX7_isFlat_20 : decode cX7_isFlat 20 = .ok (.istore 4, 2) := by decide +kernel
theorem dX7_isFlat_22 : decode cX7_isFlat 22 = .ok (.iconst 0, 1) := by decide +kernel
theorem dX7_isFlat_23 : decode cX7_isFlat 23 = .ok (.istore 5, 2) := by decide +kernel
theorem dX7_isFlat_25 : decode cX7_isFlat 25 = .ok (.iload 5, 2) := by decide +kernel
theorem dX7_isFlat_27 : decode cX7_isFlat 27 = .ok (.aload_n 0, 1) := by decide +kernel
theorem dX7_isFlat_28 : decode cX7_isFlat 28 = .ok (.getfield 239, 3) := by decide +kernel
theorem dX7_isFlat_31 : decode cX7_isFlat 31 = .ok (.if_icmp .ge 28, 3) := by decide +kernel
theorem dX7_isFlat_34 : decode cX7_isFlat 34 = .ok (.iload_n 2, 1) := by decide +kernel
theorem dX7_isFlat_35 : decode cX7_isFlat 35 = .ok (.aload_n 0, 1) := by decide +kernel
theorem dX7_isFlat_36 : decode cX7_isFlat 36 = .ok (.getfield 85, 3) := by decide +kernel
theorem dX7_isFlat_39 : decode cX7_isFlat 39 = .ok (.iload 5, 2) := by decide +kernel
theorem dX7_isFlat_41 : decode cX7_isFlat 41 = .ok (.iaload, 1) := by decide +kernel
theorem dX7_isFlat_42 : decode cX7_isFlat 42 = .ok (.iload_n 1, 1) := by decide +kernel
theorem dX7_isFlat_43 : decode cX7_isFlat 43 = .ok (.if_icmp .ne 7, 3) := by decide +kernel
theorem dX7_isFlat_46 : decode cX7_isFlat 46 = .ok (.iconst 1, 1) := by decide +kernel
theorem dX7_isFlat_47 : decode cX7_isFlat 47 = .ok (.goto 4, 3) := by decide +kernel
theorem dX7_isFlat_50 : decode cX7_isFlat 50 = .ok (.iconst 0, 1) := by decide +kernel
theorem dX7_isFlat_51 : decode cX7_isFlat 51 = .ok (.iadd, 1) := by decide +kernel
theorem dX7_isFlat_52 : decode cX7_isFlat 52 = .ok (.istore_n 2, 1) := by decide +kernel
theorem dX7_isFlat_53 : decode cX7_isFlat 53 = .ok (.iinc 5 1, 3) := by decide +kernel
theorem dX7_isFlat_56 : decode cX7_isFlat 56 = .ok (.goto (-31), 3) := by decide +kernel
theorem dX7_isFlat_59 : decode cX7_isFlat 59 = .ok (.iconst 0, 1) := by decide +kernel
theorem dX7_isFlat_60 : decode cX7_isFlat 60 = .ok (.istore 5, 2) := by decide +kernel
theorem dX7_isFlat_62 : decode cX7_isFlat 62 = .ok (.iload 5, 2) := by decide +kernel
theorem dX7_isFlat_64 : decode cX7_isFlat 64 = .ok (.aload_n 0, 1) := by decide +kernel
theorem dX7_isFlat_65 : decode cX7_isFlat 65 = .ok (.getfield 236, 3) := by decide +kernel
theorem dX7_isFlat_68 : decode cX7_isFlat 68 = .ok (.if_icmp .ge 17, 3) := by decide +kernel
theorem dX7_isFlat_71 : decode cX7_isFlat 71 = .ok (.aload_n 0, 1) := by decide +kernel
theorem dX7_isFlat_72 : decode cX7_isFlat 72 = .ok (.getfield 88, 3) := by decide +kernel
theorem dX7_isFlat_75 : decode cX7_isFlat 75 = .ok (.iload 5, 2) := by decide +kernel
theorem dX7_isFlat_77 : decode cX7_isFlat 77 = .ok (.iconst 0, 1) := by decide +kernel
theorem dX7_isFlat_78 : decode cX7_isFlat 78 = .ok (.bastore, 1) := by decide +kernel
theorem dX7_isFlat_79 : decode cX7_isFlat 79 = .ok (.iinc 5 1, 3) := by decide +kernel
theorem dX7_isFlat_82 : decode cX7_isFlat 82 = .ok (.goto (-20), 3) := by decide +kernel
theorem dX7_isFlat_85 : decode cX7_isFlat 85 = .ok (.iconst 0, 1) := by decide +kernel
theorem dX7_isFlat_86 : decode cX7_isFlat 86 = .ok (.istore 5, 2) := by decide +kernel
theorem dX7_isFlat_88 : decode cX7_isFlat 88 = .ok (.iload 5, 2) := by decide +kernel
theorem dX7_isFlat_90 : decode cX7_isFlat 90 = .ok (.aload_n 0, 1) := by decide +kernel
theorem dX7_isFlat_91 : decode cX7_isFlat 91 = .ok (.getfield 236, 3) := by decide +kernel
theorem dX7_isFlat_94 : decode cX7_isFlat 94 = .ok (.if_icmp .ge 89, 3) := by decide +kernel
theorem dX7_isFlat_97 : decode cX7_isFlat 97 = .ok (.aload_n 0, 1) := by decide +kernel
theorem dX7_isFlat_98 : decode cX7_isFlat 98 = .ok (.getfield 61, 3) := by decide +kernel
theorem dX7_isFlat_101 : decode cX7_isFlat 101 = .ok (.iload 5, 2) := by decide +kernel
theorem dX7_isFlat_103 : decode cX7_isFlat 103 = .ok (.iaload, 1) := by decide +kernel
theorem dX7_isFlat_104 : decode cX7_isFlat 104 = .ok (.ifCond .lt 73, 3) := by decide +kernel
theorem dX7_isFlat_107 : decode cX7_isFlat 107 = .ok (.aload_n 0, 1) := by decide +kernel
theorem dX7_isFlat_108 : decode cX7_isFlat 108 = .ok (.getfield 85, 3) := by decide +kernel
theorem dX7_isFlat_111 : decode cX7_isFlat 111 = .ok (.aload_n 0, 1) := by decide +kernel
theorem dX7_isFlat_112 : decode cX7_isFlat 112 = .ok (.getfield 64, 3) := by decide +kernel
theorem dX7_isFlat_115 : decode cX7_isFlat 115 = .ok (.iload 5, 2) := by decide +kernel
theorem dX7_isFlat_117 : decode cX7_isFlat 117 = .ok (.iaload, 1) := by decide +kernel
theorem dX7_isFlat_118 : decode cX7_isFlat 118 = .ok (.iaload, 1) := by decide +kernel
theorem dX7_isFlat_119 : decode cX7_isFlat 119 = .ok (.iload_n 1, 1) := by decide +kernel
theorem dX7_isFlat_120 : decode cX7_isFlat 120 = .ok (.if_icmp .ne 57, 3) := by decide +kernel
theorem dX7_isFlat_123 : decode cX7_isFlat 123 = .ok (.iinc 3 1, 3) := by decide +kernel
theorem dX7_isFlat_126 : decode cX7_isFlat 126 = .ok (.aload_n 0, 1) := by decide +kernel
theorem dX7_isFlat_127 : decode cX7_isFlat 127 = .ok (.getfield 88, 3) := by decide +kernel
theorem dX7_isFlat_130 : decode cX7_isFlat 130 = .ok (.iload 5, 2) := by decide +kernel
theorem dX7_isFlat_132 : decode cX7_isFlat 132 = .ok (.baload, 1) := by decide +kernel
theorem dX7_isFlat_133 : decode cX7_isFlat 133 = .ok (.ifCond .ne 44, 3) := by decide +kernel
theorem dX7_isFlat_136 : decode cX7_isFlat 136 = .ok (.iinc 4 1, 3) := by decide +kernel
theorem dX7_isFlat_139 : decode cX7_isFlat 139 = .ok (.iload 5, 2) := by decide +kernel
theorem dX7_isFlat_141 : decode cX7_isFlat 141 = .ok (.istore 6, 2) := by decide +kernel
theorem dX7_isFlat_143 : decode cX7_isFlat 143 = .ok (.aload_n 0, 1) := by decide +kernel
theorem dX7_isFlat_144 : decode cX7_isFlat 144 = .ok (.getfield 88, 3) := by decide +kernel
theorem dX7_isFlat_147 : decode cX7_isFlat 147 = .ok (.iload 6, 2) := by decide +kernel
theorem dX7_isFlat_149 : decode cX7_isFlat 149 = .ok (.baload, 1) := by decide +kernel
theorem dX7_isFlat_150 : decode cX7_isFlat 150 = .ok (.ifCond .ne 27, 3) := by decide +kernel
theorem dX7_isFlat_153 : decode cX7_isFlat 153 = .ok (.aload_n 0, 1) := by decide +kernel
theorem dX7_isFlat_154 : decode cX7_isFlat 154 = .ok (.getfield 88, 3) := by decide +kernel
theorem dX7_isFlat_157 : decode cX7_isFlat 157 = .ok (.iload 6, 2) := by decide +kernel
theorem dX7_isFlat_159 : decode cX7_isFlat 159 = .ok (.iconst 1, 1) := by decide +kernel
theorem dX7_isFlat_160 : decode cX7_isFlat 160 = .ok (.bastore, 1) := by decide +kernel
theorem dX7_isFlat_161 : decode cX7_isFlat 161 = .ok (.aload_n 0, 1) := by decide +kernel
theorem dX7_isFlat_162 : decode cX7_isFlat 162 = .ok (.aload_n 0, 1) := by decide +kernel
theorem dX7_isFlat_163 : decode cX7_isFlat 163 = .ok (.getfield 61, 3) := by decide +kernel
theorem dX7_isFlat_166 : decode cX7_isFlat 166 = .ok (.iload 6, 2) := by decide +kernel
theorem dX7_isFlat_168 : decode cX7_isFlat 168 = .ok (.iaload, 1) := by decide +kernel
theorem dX7_isFlat_169 : decode cX7_isFlat 169 = .ok (.invokevirtual 271, 3) := by decide +kernel
theorem dX7_isFlat_172 : decode cX7_isFlat 172 = .ok (.istore 6, 2) := by decide +kernel
theorem dX7_isFlat_174 : decode cX7_isFlat 174 = .ok (.goto (-31), 3) := by decide +kernel
theorem dX7_isFlat_177 : decode cX7_isFlat 177 = .ok (.iinc 5 1, 3) := by decide +kernel
theorem dX7_isFlat_180 : decode cX7_isFlat 180 = .ok (.goto (-92), 3) := by decide +kernel
theorem dX7_isFlat_183 : decode cX7_isFlat 183 = .ok (.iload_n 3, 1) := by decide +kernel
theorem dX7_isFlat_184 : decode cX7_isFlat 184 = .ok (.ifCond .le 17, 3) := by decide +kernel
theorem dX7_isFlat_187 : decode cX7_isFlat 187 = .ok (.iload_n 2, 1) := by decide +kernel
theorem dX7_isFlat_188 : decode cX7_isFlat 188 = .ok (.iload_n 3, 1) := by decide +kernel
theorem dX7_isFlat_189 : decode cX7_isFlat 189 = .ok (.iconst 2, 1) := by decide +kernel
theorem dX7_isFlat_190 : decode cX7_isFlat 190 = .ok (.idiv, 1) := by decide +kernel
theorem dX7_isFlat_191 : decode cX7_isFlat 191 = .ok (.isub, 1) := by decide +kernel
theorem dX7_isFlat_192 : decode cX7_isFlat 192 = .ok (.iload 4, 2) := by decide +kernel
theorem dX7_isFlat_194 : decode cX7_isFlat 194 = .ok (.iadd, 1) := by decide +kernel
theorem dX7_isFlat_195 : decode cX7_isFlat 195 = .ok (.iconst 2, 1) := by decide +kernel
theorem dX7_isFlat_196 : decode cX7_isFlat 196 = .ok (.if_icmp .eq 5, 3) := by decide +kernel
theorem dX7_isFlat_199 : decode cX7_isFlat 199 = .ok (.iconst 0, 1) := by decide +kernel
theorem dX7_isFlat_200 : decode cX7_isFlat 200 = .ok (.ireturn, 1) := by decide +kernel
theorem dX7_isFlat_201 : decode cX7_isFlat 201 = .ok (.iinc 1 1, 3) := by decide +kernel
theorem dX7_isFlat_204 : decode cX7_isFlat 204 = .ok (.goto (-197), 3) := by decide +kernel
theorem dX7_isFlat_207 : decode cX7_isFlat 207 = .ok (.iconst 1, 1) := by decide +kernel
theorem dX7_isFlat_208 : decode cX7_isFlat 208 = .ok (.ireturn, 1) := by decide +kernel
theorem dX7_town_0 : decode cX7_town 0 = .ok (.iload_n 1, 1) := by decide +kernel
theorem dX7_town_1 : decode cX7_town 1 = .ok (.i2l, 1) := by decide +kernel
theorem dX7_town_2 : decode cX7_town 2 = .ok (.lconst 0, 1) := by decide +kernel
theorem dX7_town_3 : decode cX7_town 3 = .ok (.ldc2_w 263, 3) := by decide +kernel
theorem dX7_town_6 : decode cX7_town 6 = .ok (.invokestatic 118, 3) := by decide +kernel
theorem dX7_town_9 : decode cX7_town 9 = .ok (.ifCond .ne 5, 3) := by decide +kernel
theorem dX7_town_12 : decode cX7_town 12 = .ok (.iconst (-1), 1) := by decide +kernel
theorem dX7_town_13 : decode cX7_town 13 = .ok (.ireturn, 1) := by decide +kernel
theorem dX7_town_14 : decode cX7_town 14 = .ok (.aload_n 0, 1) := by decide +kernel
theorem dX7_town_15 : decode cX7_town 15 = .ok (.invokevirtual 257, 3) := by decide +kernel
theorem dX7_town_18 : decode cX7_town 18 = .ok (.istore_n 2, 1) := by decide +kernel
theorem dX7_town_19 : decode cX7_town 19 = .ok (.iload_n 2, 1) := by decide +kernel
theorem dX7_town_20 : decode cX7_town 20 = .ok (.ifCond .ge 5, 3) := by decide +kernel
theorem dX7_town_23 : decode cX7_town 23 = .ok (.iload_n 2, 1) := by decide +kernel
theorem dX7_town_24 : decode cX7_town 24 = .ok (.ireturn, 1) := by decide +kernel
theorem dX7_town_25 : decode cX7_town 25 = .ok (.iload_n 1, 1) := by decide +kernel
theorem dX7_town_26 : decode cX7_town 26 = .ok (.iconst 3, 1) := by decide +kernel
theorem dX7_town_27 : decode cX7_town 27 = .ok (.if_icmp .ne 8, 3) := by decide +kernel
theorem dX7_town_30 : decode cX7_town 30 = .ok (.aload_n 0, 1) := by decide +kernel
theorem dX7_town_31 : decode cX7_town 31 = .ok (.invokevirtual 268, 3) := by decide +kernel
theorem dX7_town_34 : decode cX7_town 34 = .ok (.ireturn, 1) := by decide +kernel
theorem dX7_town_35 : decode cX7_town 35 = .ok (.iload_n 1, 1) := by decide +kernel
theorem dX7_town_36 : decode cX7_town 36 = .ok (.iconst 2, 1) := by decide +kernel
theorem dX7_town_37 : decode cX7_town 37 = .ok (.if_icmp .ne 16, 3) := by decide +kernel
theorem dX7_town_40 : decode cX7_town 40 = .ok (.aload_n 0, 1) := by decide +kernel
theorem dX7_town_41 : decode cX7_town 41 = .ok (.invokevirtual 274, 3) := by decide +kernel
theorem dX7_town_44 : decode cX7_town 44 = .ok (.ifCond .eq 7, 3) := by decide +kernel
theorem dX7_town_47 : decode cX7_town 47 = .ok (.iconst 1, 1) := by decide +kernel
theorem dX7_town_48 : decode cX7_town 48 = .ok (.goto 4, 3) := by decide +kernel
theorem dX7_town_51 : decode cX7_town 51 = .ok (.iconst 0, 1) := by decide +kernel
theorem dX7_town_52 : decode cX7_town 52 = .ok (.ireturn, 1) := by decide +kernel
theorem dX7_town_53 : decode cX7_town 53 = .ok (.iconst 0, 1) := by decide +kernel
theorem dX7_town_54 : decode cX7_town 54 = .ok (.istore_n 3, 1) := by decide +kernel
theorem dX7_town_55 : decode cX7_town 55 = .ok (.iconst 0, 1) := by decide +kernel
theorem dX7_town_56 : decode cX7_town 56 = .ok (.istore 4, 2) := by decide +kernel
theorem dX7_town_58 : decode cX7_town 58 = .ok (.iload 4, 2) := by decide +kernel
theorem dX7_town_60 : decode cX7_town 60 = .ok (.aload_n 0, 1) := by decide +kernel
theorem dX7_town_61 : decode cX7_town 61 = .ok (.getfield 236, 3) := by decide +kernel
theorem dX7_town_64 : decode cX7_town 64 = .ok (.if_icmp .ge 27, 3) := by decide +kernel
theorem dX7_town_67 : decode cX7_town 67 = .ok (.iload_n 3, 1) := by decide +kernel
theorem dX7_town_68 : decode cX7_town 68 = .ok (.aload_n 0, 1) := by decide +kernel
theorem dX7_town_69 : decode cX7_town 69 = .ok (.getfield 61, 3) := by decide +kernel
theorem dX7_town_72 : decode cX7_town 72 = .ok (.iload 4, 2) := by decide +kernel
theorem dX7_town_74 : decode cX7_town 74 = .ok (.iaload, 1) := by decide +kernel
theorem dX7_town_75 : decode cX7_town 75 = .ok (.ifCond .ge 7, 3) := by decide +kernel
theorem dX7_town_78 : decode cX7_town 78 = .ok (.iconst 1, 1) := by decide +kernel
theorem dX7_town_79 : decode cX7_town 79 = .ok (.goto 4, 3) := by decide +kernel
theorem dX7_town_82 : decode cX7_town 82 = .ok (.iconst 0, 1) := by decide +kernel
theorem dX7_town_83 : decode cX7_town 83 = .ok (.iadd, 1) := by decide +kernel
theorem dX7_town_84 : decode cX7_town 84 = .ok (.istore_n 3, 1) := by decide +kernel
theorem dX7_town_85 : decode cX7_town 85 = .ok (.iinc 4 1, 3) := by decide +kernel
theorem dX7_town_88 : decode cX7_town 88 = .ok (.goto (-30), 3) := by decide +kernel
theorem dX7_town_91 : decode cX7_town 91 = .ok (.iload_n 1, 1) := by decide +kernel
theorem dX7_town_92 : decode cX7_town 92 = .ok (.iconst 1, 1) := by decide +kernel
theorem dX7_town_93 : decode cX7_town 93 = .ok (.if_icmp .ne 7, 3) := by decide +kernel
theorem dX7_town_96 : decode cX7_town 96 = .ok (.iload_n 3, 1) := by decide +kernel
theorem dX7_town_97 : decode cX7_town 97 = .ok (.goto 11, 3) := by decide +kernel
theorem dX7_town_100 : decode cX7_town 100 = .ok (.aload_n 0, 1) := by decide +kernel
theorem dX7_town_101 : decode cX7_town 101 = .ok (.getfield 236, 3) := by decide +kernel
theorem dX7_town_104 : decode cX7_town 104 = .ok (.iload_n 3, 1) := by decide +kernel
theorem dX7_town_105 : decode cX7_town 105 = .ok (.isub, 1) := by decide +kernel
theorem dX7_town_106 : decode cX7_town 106 = .ok (.iconst 2, 1) := by decide +kernel
theorem dX7_town_107 : decode cX7_town 107 = .ok (.idiv, 1) := by decide +kernel
theorem dX7_town_108 : decode cX7_town 108 = .ok (.ireturn, 1) := by decide +kernel
theorem dX7_mayBeOne_0 : decode cX7_mayBeOne 0 = .ok (.iconst 0, 1) := by decide +kernel
theorem dX7_mayBeOne_1 : decode cX7_mayBeOne 1 = .ok (.istore_n 3, 1) := by decide +kernel
theorem dX7_mayBeOne_2 : decode cX7_mayBeOne 2 = .ok (.iload_n 3, 1) := by decide +kernel
theorem dX7_mayBeOne_3 : decode cX7_mayBeOne 3 = .ok (.aload_n 0, 1) := by decide +kernel
theorem dX7_mayBeOne_4 : decode cX7_mayBeOne 4 = .ok (.getfield 236, 3) := by decide +kernel
theorem dX7_mayBeOne_7 : decode cX7_mayBeOne 7 = .ok (.if_icmp .ge 72, 3) := by decide +kernel
theorem dX7_mayBeOne_10 : decode cX7_mayBeOne 10 = .ok (.iconst 0, 1) := by decide +kernel
theorem dX7_mayBeOne_11 : decode cX7_mayBeOne 11 = .ok (.istore 4, 2) := by decide +kernel
theorem dX7_mayBeOne_13 : decode cX7_mayBeOne 13 = .ok (.iload 4, 2) := by decide +kernel
theorem dX7_mayBeOne_15 : decode cX7_mayBeOne 15 = .ok (.aload_n 0, 1) := by decide +kernel
theorem dX7_mayBeOne_16 : decode cX7_mayBeOne 16 = .ok (.getfield 236, 3) := by decide +kernel
theorem dX7_mayBeOne_19 : decode cX7_mayBeOne 19 = .ok (.if_icmp .ge 54, 3) := by decide +kernel
theorem dX7_mayBeOne_22 : decode cX7_mayBeOne 22 = .ok (.aload_n 0, 1) := by decide +kernel
theorem dX7_mayBeOne_23 : decode cX7_mayBeOne 23 = .ok (.getfield 64, 3) := by decide +kernel
theorem dX7_mayBeOne_26 : decode cX7_mayBeOne 26 = .ok (.iload_n 3, 1) := by decide +kernel
theorem dX7_mayBeOne_27 : decode cX7_mayBeOne 27 = .ok (.iaload, 1) := by decide +kernel
theorem dX7_mayBeOne_28 : decode cX7_mayBeOne 28 = .ok (.iload_n 1, 1) := by decide +kernel
