theorem dX8_answer_0 : decode cX8_answer 0 = .ok (.aload_n 0, 1) := by decide +kernel
theorem dX8_answer_1 : decode cX8_answer 1 = .ok (.getfield 99, 3) := by decide +kernel
theorem dX8_answer_4 : decode cX8_answer 4 = .ok (.iload_n 1, 1) := by decide +kernel
theorem dX8_answer_5 : decode cX8_answer 5 = .ok (.iaload, 1) := by decide +kernel
theorem dX8_answer_6 : decode cX8_answer 6 = .ok (.istore_n 2, 1) := by decide +kernel
theorem dX8_answer_7 : decode cX8_answer 7 = .ok (.iconst 1, 1) := by decide +kernel
theorem dX8_answer_8 : decode cX8_answer 8 = .ok (.aload_n 0, 1) := by decide +kernel
theorem dX8_answer_9 : decode cX8_answer 9 = .ok (.getfield 96, 3) := by decide +kernel
theorem dX8_answer_12 : decode cX8_answer 12 = .ok (.iload_n 1, 1) := by decide +kernel
theorem dX8_answer_13 : decode cX8_answer 13 = .ok (.iaload, 1) := by decide +kernel
theorem dX8_answer_14 : decode cX8_answer 14 = .ok (.ishl, 1) := by decide +kernel
theorem dX8_answer_15 : decode cX8_answer 15 = .ok (.istore_n 3, 1) := by decide +kernel
theorem dX8_answer_16 : decode cX8_answer 16 = .ok (.aload_n 0, 1) := by decide +kernel
theorem dX8_answer_17 : decode cX8_answer 17 = .ok (.getfield 39, 3) := by decide +kernel
theorem dX8_answer_20 : decode cX8_answer 20 = .ok (.iload_n 2, 1) := by decide +kernel
theorem dX8_answer_21 : decode cX8_answer 21 = .ok (.iaload, 1) := by decide +kernel
theorem dX8_answer_22 : decode cX8_answer 22 = .ok (.ifCond .lt 63, 3) := by decide +kernel
theorem dX8_answer_25 : decode cX8_answer 25 = .ok (.aload_n 0, 1) := by decide +kernel
theorem dX8_answer_26 : decode cX8_answer 26 = .ok (.getfield 102, 3) := by decide +kernel
theorem dX8_answer_29 : decode cX8_answer 29 = .ok (.iload_n 1, 1) := by decide +kernel
theorem dX8_answer_30 : decode cX8_answer 30 = .ok (.iaload, 1) := by decide +kernel
theorem dX8_answer_31 : decode cX8_answer 31 = .ok (.aload_n 0, 1) := by decide +kernel
theorem dX8_answer_32 : decode cX8_answer 32 = .ok (.getfield 39, 3) := by decide +kernel
theorem dX8_answer_35 : decode cX8_answer 35 = .ok (.iload_n 2, 1) := by decide +kernel
theorem dX8_answer_36 : decode cX8_answer 36 = .ok (.iaload, 1) := by decide +kernel
theorem dX8_answer_37 : decode cX8_answer 37 = .ok (.if_icmp .ne 48, 3) := by decide +kernel
theorem dX8_answer_40 : decode cX8_answer 40 = .ok (.aload_n 0, 1) := by decide +kernel
theorem dX8_answer_41 : decode cX8_answer 41 = .ok (.getfield 105, 3) := by decide +kernel
theorem dX8_answer_44 : decode cX8_answer 44 = .ok (.iload_n 1, 1) := by decide +kernel
theorem dX8_answer_45 : decode cX8_answer 45 = .ok (.iaload, 1) := by decide +kernel
theorem dX8_answer_46 : decode cX8_answer 46 = .ok (.aload_n 0, 1) := by decide +kernel
theorem dX8_answer_47 : decode cX8_answer 47 = .ok (.getfield 42, 3) := by decide +kernel
theorem dX8_answer_50 : decode cX8_answer 50 = .ok (.iload_n 2, 1) := by decide +kernel
theorem dX8_answer_51 : decode cX8_answer 51 = .ok (.iaload, 1) := by decide +kernel
theorem dX8_answer_52 : decode cX8_answer 52 = .ok (.if_icmp .ne 33, 3) := by decide +kernel
theorem dX8_answer_55 : decode cX8_answer 55 = .ok (.aload_n 0, 1) := by decide +kernel
theorem dX8_answer_56 : decode cX8_answer 56 = .ok (.getfield 108, 3) := by decide +kernel
theorem dX8_answer_59 : decode cX8_answer 59 = .ok (.iload_n 1, 1) := by decide +kernel
theorem dX8_answer_60 : decode cX8_answer 60 = .ok (.iaload, 1) := by decide +kernel
theorem dX8_answer_61 : decode cX8_answer 61 = .ok (.aload_n 0, 1) := by decide +kernel
theorem dX8_answer_62 : decode cX8_answer 62 = .ok (.getfield 45, 3) := by decide +kernel
theorem dX8_answer_65 : decode cX8_answer 65 = .ok (.iload_n 2, 1) := by decide +kernel
theorem dX8_answer_66 : decode cX8_answer 66 = .ok (.iaload, 1) := by decide +kernel
theorem dX8_answer_67 : decode cX8_answer 67 = .ok (.if_icmp .ne 18, 3) := by decide +kernel
theorem dX8_answer_70 : decode cX8_answer 70 = .ok (.aload_n 0, 1) := by decide +kernel
theorem dX8_answer_71 : decode cX8_answer 71 = .ok (.getfield 57, 3) := by decide +kernel
theorem dX8_answer_74 : decode cX8_answer 74 = .ok (.iload_n 2, 1) := by decide +kernel
theorem dX8_answer_75 : decode cX8_answer 75 = .ok (.iaload, 1) := by decide +kernel
theorem dX8_answer_76 : decode cX8_answer 76 = .ok (.iload_n 3, 1) := by decide +kernel
theorem dX8_answer_77 : decode cX8_answer 77 = .ok (.iand, 1) := by decide +kernel
theorem dX8_answer_78 : decode cX8_answer 78 = .ok (.ifCond .ne 7, 3) := by decide +kernel
theorem dX8_answer_81 : decode cX8_answer 81 = .ok (.iconst 1, 1) := by decide +kernel
theorem dX8_answer_82 : decode cX8_answer 82 = .ok (.goto 4, 3) := by decide +kernel
theorem dX8_answer_85 : decode cX8_answer 85 = .ok (.iconst 0, 1) := by decide +kernel
theorem dX8_answer_86 : decode cX8_answer 86 = .ok (.istore 4, 2) := by decide +kernel
theorem dX8_answer_88 : decode cX8_answer 88 = .ok (.aload_n 0, 1) := by decide +kernel
theorem dX8_answer_89 : decode cX8_answer 89 = .ok (.getfield 111, 3) := by decide +kernel
theorem dX8_answer_92 : decode cX8_answer 92 = .ok (.iload_n 1, 1) := by decide +kernel
theorem dX8_answer_93 : decode cX8_answer 93 = .ok (.iaload, 1) := by decide +kernel
theorem dX8_answer_94 : decode cX8_answer 94 = .ok (.istore 5, 2) := by decide +kernel
theorem dX8_answer_96 : decode cX8_answer 96 = .ok (.aload_n 0, 1) := by decide +kernel
theorem dX8_answer_97 : decode cX8_answer 97 = .ok (.getfield 114, 3) := by decide +kernel
theorem dX8_answer_100 : decode cX8_answer 100 = .ok (.iload_n 1, 1) := by decide +kernel
theorem dX8_answer_101 : decode cX8_answer 101 = .ok (.iaload, 1) := by decide +kernel
theorem dX8_answer_102 : decode cX8_answer 102 = .ok (.istore 6, 2) := by decide +kernel
theorem dX8_answer_104 : decode cX8_answer 104 = .ok (.aload_n 0, 1) := by decide +kernel
theorem dX8_answer_105 : decode cX8_answer 105 = .ok (.getfield 126, 3) := by decide +kernel
theorem dX8_answer_108 : decode cX8_answer 108 = .ok (.iload_n 1, 1) := by decide +kernel
theorem dX8_answer_109 : decode cX8_answer 109 = .ok (.laload, 1) := by decide +kernel
theorem dX8_answer_110 : decode cX8_answer 110 = .ok (.lstore 7, 2) := by decide +kernel
theorem dX8_answer_112 : decode cX8_answer 112 = .ok (.aload_n 0, 1) := by decide +kernel
theorem dX8_answer_113 : decode cX8_answer 113 = .ok (.getfield 120, 3) := by decide +kernel
theorem dX8_answer_116 : decode cX8_answer 116 = .ok (.iload_n 1, 1) := by decide +kernel
theorem dX8_answer_117 : decode cX8_answer 117 = .ok (.iaload, 1) := by decide +kernel
theorem dX8_answer_118 : decode cX8_answer 118 = .ok (.istore 9, 2) := by decide +kernel
theorem dX8_answer_120 : decode cX8_answer 120 = .ok (.aload_n 0, 1) := by decide +kernel
theorem dX8_answer_121 : decode cX8_answer 121 = .ok (.getfield 123, 3) := by decide +kernel
theorem dX8_answer_124 : decode cX8_answer 124 = .ok (.iload_n 1, 1) := by decide +kernel
theorem dX8_answer_125 : decode cX8_answer 125 = .ok (.iaload, 1) := by decide +kernel
theorem dX8_answer_126 : decode cX8_answer 126 = .ok (.istore 10, 2) := by decide +kernel
theorem dX8_answer_128 : decode cX8_answer 128 = .ok (.aload_n 0, 1) := by decide +kernel
theorem dX8_answer_129 : decode cX8_answer 129 = .ok (.iload_n 1, 1) := by decide +kernel
theorem dX8_answer_130 : decode cX8_answer 130 = .ok (.invokevirtual 185, 3) := by decide +kernel
theorem dX8_answer_133 : decode cX8_answer 133 = .ok (.iload 4, 2) := by decide +kernel
theorem dX8_answer_135 : decode cX8_answer 135 = .ok (.ifCond .ne 4, 3) := by decide +kernel
theorem dX8_answer_138 : decode cX8_answer 138 = .ok (.return_, 1) := by decide +kernel
theorem dX8_answer_139 : decode cX8_answer 139 = .ok (.aload_n 0, 1) := by decide +kernel
theorem dX8_answer_140 : decode cX8_answer 140 = .ok (.getfield 57, 3) := by decide +kernel
theorem dX8_answer_143 : decode cX8_answer 143 = .ok (.iload_n 2, 1) := by decide +kernel
theorem dX8_answer_144 : decode cX8_answer 144 = .ok (.dup2, 1) := by decide +kernel
theorem dX8_answer_145 : decode cX8_answer 145 = .ok (.iaload, 1) := by decide +kernel
theorem dX8_answer_146 : decode cX8_answer 146 = .ok (.iload_n 3, 1) := by decide +kernel
theorem dX8_answer_147 : decode cX8_answer 147 = .ok (.ior, 1) := by decide +kernel
theorem dX8_answer_148 : decode cX8_answer 148 = .ok (.iastore, 1) := by decide +kernel
theorem dX8_answer_149 : decode cX8_answer 149 = .ok (.aload_n 0, 1) := by decide +kernel
theorem dX8_answer_150 : decode cX8_answer 150 = .ok (.getfield 42, 3) := by decide +kernel
theorem dX8_answer_153 : decode cX8_answer 153 = .ok (.iload_n 2, 1) := by decide +kernel
theorem dX8_answer_154 : decode cX8_answer 154 = .ok (.iaload, 1) := by decide +kernel
theorem dX8_answer_155 : decode cX8_answer 155 = .ok (.iconst 1, 1) := by decide +kernel
theorem dX8_answer_156 : decode cX8_answer 156 = .ok (.if_icmp .eq 13, 3) := by decide +kernel
theorem dX8_answer_159 : decode cX8_answer 159 = .ok (.aload_n 0, 1) := by decide +kernel
theorem dX8_answer_160 : decode cX8_answer 160 = .ok (.getfield 42, 3) := by decide +kernel
theorem dX8_answer_163 : decode cX8_answer 163 = .ok (.iload_n 2, 1) := by decide +kernel
theorem dX8_answer_164 : decode cX8_answer 164 = .ok (.iaload, 1) := by decide +kernel
theorem dX8_answer_165 : decode cX8_answer 165 = .ok (.iconst 3, 1) := by decide +kernel
theorem dX8_answer_166 : decode cX8_answer 166 = .ok (.if_icmp .ne 49, 3) := by decide +kernel
theorem dX8_answer_169 : decode cX8_answer 169 = .ok (.iload 5, 2) := by decide +kernel
theorem dX8_answer_171 : decode cX8_answer 171 = .ok (.iload 6, 2) := by decide +kernel
theorem dX8_answer_173 : decode cX8_answer 173 = .ok (.aload_n 0, 1) := by decide +kernel
theorem dX8_answer_174 : decode cX8_answer 174 = .ok (.getfield 60, 3) := by decide +kernel
theorem dX8_answer_177 : decode cX8_answer 177 = .ok (.iload_n 2, 1) := by decide +kernel
theorem dX8_answer_178 : decode cX8_answer 178 = .ok (.iaload, 1) := by decide +kernel
theorem dX8_answer_179 : decode cX8_answer 179 = .ok (.aload_n 0, 1) := by decide +kernel
theorem dX8_answer_180 : decode cX8_answer 180 = .ok (.getfield 63, 3) := by decide +kernel
theorem dX8_answer_183 : decode cX8_answer 183 = .ok (.iload_n 2, 1) := by decide +kernel
theorem dX8_answer_184 : decode cX8_answer 184 = .ok (.iaload, 1) := by decide +kernel
theorem dX8_answer_185 : decode cX8_answer 185 = .ok (.invokestatic 188, 3) := by decide +kernel
theorem dX8_answer_188 : decode cX8_answer 188 = .ok (.ifCond .eq 27, 3) := by decide +kernel
theorem dX8_answer_191 : decode cX8_answer 191 = .ok (.aload_n 0, 1) := by decide +kernel
theorem dX8_answer_192 : decode cX8_answer 192 = .ok (.getfield 60, 3) := by decide +kernel
theorem dX8_answer_195 : decode cX8_answer 195 = .ok (.iload_n 2, 1) := by decide +kernel
theorem dX8_answer_196 : decode cX8_answer 196 = .ok (.iload 5, 2) := by decide +kernel
theorem dX8_answer_198 : decode cX8_answer 198 = .ok (.iastore, 1) := by decide +kernel
theorem dX8_answer_199 : decode cX8_answer 199 = .ok (.aload_n 0, 1) := by decide +kernel
theorem dX8_answer_200 : decode cX8_answer 200 = .ok (.getfield 63, 3) := by decide +kernel
theorem dX8_answer_203 : decode cX8_answer 203 = .ok (.iload_n 2, 1) := by decide +kernel
theorem dX8_answer_204 : decode cX8_answer 204 = .ok (.iload 6, 2) := by decide +kernel
theorem dX8_answer_206 : decode cX8_answer 206 = .ok (.iastore, 1) := by decide +kernel
theorem dX8_answer_207 : decode cX8_answer 207 = .ok (.aload_n 0, 1) := by decide +kernel
theorem dX8_answer_208 : decode cX8_answer 208 = .ok (.getfield 66, 3) := by decide +kernel
theorem dX8_answer_211 : decode cX8_answer 211 = .ok (.iload_n 2, 1) := by decide +kernel
theorem dX8_answer_212 : decode cX8_answer 212 = .ok (.lload 7, 2) := by decide +kernel
theorem dX8_answer_214 : decode cX8_answer 214 = .ok (.lastore, 1) := by decide +kernel
theorem dX8_answer_215 : decode cX8_answer 215 = .ok (.iload 9, 2) := by decide +kernel
theorem dX8_answer_217 : decode cX8_answer 217 = .ok (.aload_n 0, 1) := by decide +kernel
theorem dX8_answer_218 : decode cX8_answer 218 = .ok (.getfield 48, 3) := by decide +kernel
theorem dX8_answer_221 : decode cX8_answer 221 = .ok (.iload_n 2, 1) := by decide +kernel
theorem dX8_answer_222 : decode cX8_answer 222 = .ok (.iaload, 1) := by decide +kernel
theorem dX8_answer_223 : decode cX8_answer 223 = .ok (.if_icmp .le 7, 3) := by decide +kernel
theorem dX8_answer_226 : decode cX8_answer 226 = .ok (.iconst 1, 1) := by decide +kernel
theorem dX8_answer_227 : decode cX8_answer 227 = .ok (.goto 4, 3) := by decide +kernel
theorem dX8_answer_230 : decode cX8_answer 230 = .ok (.iconst 0, 1) := by decide +kernel
theorem dX8_answer_231 : decode cX8_answer 231 = .ok (.istore 11, 2) := by decide +kernel
theorem dX8_answer_233 : decode cX8_answer 233 = .ok (.iload 11, 2) := by decide +kernel
theorem dX8_answer_235 : decode cX8_answer 235 = .ok (.ifCond .eq 11, 3) := by decide +kernel
theorem dX8_answer_238 : decode cX8_answer 238 = .ok (.aload_n 0, 1) := by decide +kernel
theorem dX8_answer_239 : decode cX8_answer 239 = .ok (.getfield 48, 3) := by decide +kernel
theorem dX8_answer_242 : decode cX8_answer 242 = .ok (.iload_n 2, 1) := by decide +kernel
theorem dX8_answer_243 : decode cX8_answer 243 = .ok (.iload 9, 2) := by decide +kernel
theorem dX8_answer_245 : decode cX8_answer 245 = .ok (.iastore, 1) := by decide +kernel
theorem dX8_answer_246 : decode cX8_answer 246 = .ok (.iload 10, 2) := by decide +kernel
theorem dX8_answer_248 : decode cX8_answer 248 = .ok (.aload_n 0, 1) := by decide +kernel
theorem dX8_answer_249 : decode cX8_answer 249 = .ok (.getfield 51, 3) := by decide +kernel
theorem dX8_answer_252 : decode cX8_answer 252 = .ok (.iload_n 2, 1) := by decide +kernel
theorem dX8_answer_253 : decode cX8_answer 253 = .ok (.iaload, 1) := by decide +kernel
theorem dX8_answer_254 : decode cX8_answer 254 = .ok (.if_icmp .le 11, 3) := by decide +kernel
theorem dX8_answer_257 : decode cX8_answer 257 = .ok (.aload_n 0, 1) := by decide +kernel
theorem dX8_answer_258 : decode cX8_answer 258 = .ok (.getfield 51, 3) := by decide +kernel
theorem dX8_answer_261 : decode cX8_answer 261 = .ok (.iload_n 2, 1) := by decide +kernel
theorem dX8_answer_262 : decode cX8_answer 262 = .ok (.iload 10, 2) := by decide +kernel
theorem dX8_answer_264 : decode cX8_answer 264 = .ok (.iastore, 1) := by decide +kernel
theorem dX8_answer_265 : decode cX8_answer 265 = .ok (.iload 11, 2) := by decide +kernel
theorem dX8_answer_267 : decode cX8_answer 267 = .ok (.ifCond .eq 22, 3) := by decide +kernel
theorem dX8_answer_270 : decode cX8_answer 270 = .ok (.aload_n 0, 1) := by decide +kernel
theorem dX8_answer_271 : decode cX8_answer 271 = .ok (.getfield 42, 3) := by decide +kernel
theorem dX8_answer_274 : decode cX8_answer 274 = .ok (.iload_n 2, 1) := by decide +kernel
theorem dX8_answer_275 : decode cX8_answer 275 = .ok (.iaload, 1) := by decide +kernel
theorem dX8_answer_276 : decode cX8_answer 276 = .ok (.iconst 1, 1) := by decide +kernel
theorem dX8_answer_277 : decode cX8_answer 277 = .ok (.if_icmp .ne 12, 3) := by decide +kernel
theorem dX8_answer_280 : decode cX8_answer 280 = .ok (.aload_n 0, 1) := by decide +kernel
theorem dX8_answer_281 : decode cX8_answer 281 = .ok (.iload_n 2, 1) := by decide +kernel
theorem dX8_answer_282 : decode cX8_answer 282 = .ok (.iconst 1, 1) := by decide +kernel
theorem dX8_answer_283 : decode cX8_answer 283 = .ok (.invokevirtual 160, 3) := by decide +kernel
theorem dX8_answer_286 : decode cX8_answer 286 = .ok (.goto 16, 3) := by decide +kernel
theorem dX8_answer_289 : decode cX8_answer 289 = .ok (.aload_n 0, 1) := by decide +kernel
theorem dX8_answer_290 : decode cX8_answer 290 = .ok (.iload_n 2, 1) := by decide +kernel
theorem dX8_answer_291 : decode cX8_answer 291 = .ok (.invokevirtual 191, 3) := by decide +kernel
theorem dX8_answer_294 : decode cX8_answer 294 = .ok (.ifCond .eq 8, 3) := by decide +kernel
theorem dX8_answer_297 : decode cX8_answer 297 = .ok (.aload_n 0, 1) := by decide +kernel
theorem dX8_answer_298 : decode cX8_answer 298 = .ok (.iload_n 2, 1) := by decide +kernel
theorem dX8_answer_299 : decode cX8_answer 299 = .ok (.invokevirtual 194, 3) := by decide +kernel
theorem dX8_answer_302 : decode cX8_answer 302 = .ok (.return_, 1) := by decide +kernel
theorem dX8_request_0 : decode cX8_request 0 = .ok (.aload_n 0, 1) := by decide +kernel
theorem dX8_request_1 : decode cX8_request 1 = .ok (.getfield 96, 3) := by decide +kernel
theorem dX8_request_4 : decode cX8_request 4 = .ok (.iload_n 1, 1) := by decide +kernel
theorem dX8_request_5 : decode cX8_request 5 = .ok (.iaload, 1) := by decide +kernel
theorem dX8_request_6 : decode cX8_request 6 = .ok (.istore_n 2, 1) := by decide +kernel
theorem dX8_request_7 : decode cX8_request 7 = .ok (.aload_n 0, 1) := by decide +kernel
theorem dX8_request_8 : decode cX8_request 8 = .ok (.getfield 99, 3) := by decide +kernel
theorem dX8_request_11 : decode cX8_request 11 = .ok (.iload_n 1, 1) := by decide +kernel
theorem dX8_request_12 : decode cX8_request 12 = .ok (.iaload, 1) := by decide +kernel
theorem dX8_request_13 : decode cX8_request 13 = .ok (.istore_n 3, 1) := by decide +kernel
theorem dX8_request_14 : decode cX8_request 14 = .ok (.aload_n 0, 1) := by decide +kernel
theorem dX8_request_15 : decode cX8_request 15 = .ok (.getfield 102, 3) := by decide +kernel
theorem dX8_request_18 : decode cX8_request 18 = .ok (.iload_n 1, 1) := by decide +kernel
theorem dX8_request_19 : decode cX8_request 19 = .ok (.iaload, 1) := by decide +kernel
theorem dX8_request_20 : decode cX8_request 20 = .ok (.istore 4, 2) := by decide +kernel
theorem dX8_request_22 : decode cX8_request 22 = .ok (.aload_n 0, 1) := by decide +kernel
theorem dX8_request_23 : decode cX8_request 23 = .ok (.getfield 105, 3) := by decide +kernel
theorem dX8_request_26 : decode cX8_request 26 = .ok (.iload_n 1, 1) := by decide +kernel
theorem dX8_request_27 : decode cX8_request 27 = .ok (.iaload, 1) := by decide +kernel
theorem dX8_request_28 : decode cX8_request 28 = .ok (.istore 5, 2) := by decide +kernel
theorem dX8_request_30 : decode cX8_request 30 = .ok (.aload_n 0, 1) := by decide +kernel
theorem dX8_request_31 : decode cX8_request 31 = .ok (.getfield 108, 3) := by decide +kernel
theorem dX8_request_34 : decode cX8_request 34 = .ok (.iload_n 1, 1) := by decide +kernel
theorem dX8_request_35 : decode cX8_request 35 = .ok (.iaload, 1) := by decide +kernel
theorem dX8_request_36 : decode cX8_request 36 = .ok (.istore 6, 2) := by decide +kernel
theorem dX8_request_38 : decode cX8_request 38 = .ok (.aload_n 0, 1) := by decide +kernel
theorem dX8_request_39 : decode cX8_request 39 = .ok (.getfield 117, 3) := by decide +kernel
theorem dX8_request_42 : decode cX8_request 42 = .ok (.iload_n 1, 1) := by decide +kernel
theorem dX8_request_43 : decode cX8_request 43 = .ok (.iaload, 1) := by decide +kernel
theorem dX8_request_44 : decode cX8_request 44 = .ok (.istore 7, 2) := by decide +kernel
theorem dX8_request_46 : decode cX8_request 46 = .ok (.iload 5, 2) := by decide +kernel
theorem dX8_request_48 : decode cX8_request 48 = .ok (.iconst 2, 1) := by decide +kernel
theorem dX8_request_49 : decode cX8_request 49 = .ok (.if_icmp .eq 9, 3) := by decide +kernel
theorem dX8_request_52 : decode cX8_request 52 = .ok (.iload 5, 2) := by decide +kernel
theorem dX8_request_54 : decode cX8_request 54 = .ok (.iconst 4, 1) := by decide +kernel
theorem dX8_request_55 : decode cX8_request 55 = .ok (.if_icmp .ne 69, 3) := by decide +kernel
theorem dX8_request_58 : decode cX8_request 58 = .ok (.aload_n 0, 1) := by decide +kernel
theorem dX8_request_59 : decode cX8_request 59 = .ok (.getfield 111, 3) := by decide +kernel
theorem dX8_request_62 : decode cX8_request 62 = .ok (.iload_n 1, 1) := by decide +kernel
theorem dX8_request_63 : decode cX8_request 63 = .ok (.iaload, 1) := by decide +kernel
theorem dX8_request_64 : decode cX8_request 64 = .ok (.aload_n 0, 1) := by decide +kernel
theorem dX8_request_65 : decode cX8_request 65 = .ok (.getfield 114, 3) := by decide +kernel
theorem dX8_request_68 : decode cX8_request 68 = .ok (.iload_n 1, 1) := by decide +kernel
theorem dX8_request_69 : decode cX8_request 69 = .ok (.iaload, 1) := by decide +kernel
theorem dX8_request_70 : decode cX8_request 70 = .ok (.aload_n 0, 1) := by decide +kernel
theorem dX8_request_71 : decode cX8_request 71 = .ok (.getfield 13, 3) := by decide +kernel
theorem dX8_request_74 : decode cX8_request 74 = .ok (.iload_n 2, 1) := by decide +kernel
theorem dX8_request_75 : decode cX8_request 75 = .ok (.iaload, 1) := by decide +kernel
theorem dX8_request_76 : decode cX8_request 76 = .ok (.aload_n 0, 1) := by decide +kernel
theorem dX8_request_77 : decode cX8_request 77 = .ok (.getfield 17, 3) := by decide +kernel
theorem dX8_request_80 : decode cX8_request 80 = .ok (.iload_n 2, 1) := by decide +kernel
theorem dX8_request_81 : decode cX8_request 81 = .ok (.iaload, 1) := by decide +kernel
theorem dX8_request_82 : decode cX8_request 82 = .ok (.invokestatic 188, 3) := by decide +kernel
theorem dX8_request_85 : decode cX8_request 85 = .ok (.ifCond .eq 39, 3) := by decide +kernel
theorem dX8_request_88 : decode cX8_request 88 = .ok (.aload_n 0, 1) := by decide +kernel
theorem dX8_request_89 : decode cX8_request 89 = .ok (.getfield 13, 3) := by decide +kernel
theorem dX8_request_92 : decode cX8_request 92 = .ok (.iload_n 2, 1) := by decide +kernel
theorem dX8_request_93 : decode cX8_request 93 = .ok (.aload_n 0, 1) := by decide +kernel
theorem dX8_request_94 : decode cX8_request 94 = .ok (.getfield 111, 3) := by decide +kernel
theorem dX8_request_97 : decode cX8_request 97 = .ok (.iload_n 1, 1) := by decide +kernel
theorem dX8_request_98 : decode cX8_request 98 = .ok (.iaload, 1) := by decide +kernel
theorem dX8_request_99 : decode cX8_request 99 = .ok (.iastore, 1) := by decide +kernel
theorem dX8_request_100 : decode cX8_request 100 = .ok (.aload_n 0, 1) := by decide +kernel
theorem dX8_request_101 : decode cX8_request 101 = .ok (.getfield 17, 3) := by decide +kernel
theorem dX8_request_104 : decode cX8_request 104 = .ok (.iload_n 2, 1) := by decide +kernel
theorem dX8_request_105 : decode cX8_request 105 = .ok (.aload_n 0, 1) := by decide +kernel
theorem dX8_request_106 : decode cX8_request 106 = .ok (.getfield 114, 3) := by decide +kernel
theorem dX8_request_109 : decode cX8_request 109 = .ok (.iload_n 1, 1) := by decide +kernel
theorem dX8_request_110 : decode cX8_request 110 = .ok (.iaload, 1) := by decide +kernel
theorem dX8_request_111 : decode cX8_request 111 = .ok (.iastore, 1) := by decide +kernel
theorem dX8_request_112 : decode cX8_request 112 = .ok (.aload_n 0, 1) := by decide +kernel
theorem dX8_request_113 : decode cX8_request 113 = .ok (.getfield 7, 3) := by decide +kernel
theorem dX8_request_116 : decode cX8_request 116 = .ok (.iload_n 2, 1) := by decide +kernel
theorem dX8_request_117 : decode cX8_request 117 = .ok (.aload_n 0, 1) := by decide +kernel
theorem dX8_request_118 : decode cX8_request 118 = .ok (.getfield 126, 3) := by decide +kernel
theorem dX8_request_121 : decode cX8_request 121 = .ok (.iload_n 1, 1) := by decide +kernel
theorem dX8_request_122 : decode cX8_request 122 = .ok (.laload, 1) := by decide +kernel
theorem dX8_request_123 : decode cX8_request 123 = .ok (.lastore, 1) := by decide +kernel
theorem dX8_request_124 : decode cX8_request 124 = .ok (.iload 5, 2) := by decide +kernel
theorem dX8_request_126 : decode cX8_request 126 = .ok (.iconst 3, 1) := by decide +kernel
theorem dX8_request_127 : decode cX8_request 127 = .ok (.if_icmp .eq 9, 3) := by decide +kernel
theorem dX8_request_130 : decode cX8_request 130 = .ok (.iload 5, 2) := by decide +kernel
theorem dX8_request_132 : decode cX8_request 132 = .ok (.iconst 5, 1) := by decide +kernel
theorem dX8_request_133 : decode cX8_request 133 = .ok (.if_icmp .ne 22, 3) := by decide +kernel
theorem dX8_request_136 : decode cX8_request 136 = .ok (.aload_n 0, 1) := by decide +kernel
theorem dX8_request_137 : decode cX8_request 137 = .ok (.getfield 23, 3) := by decide +kernel
theorem dX8_request_140 : decode cX8_request 140 = .ok (.iload_n 2, 1) := by decide +kernel
theorem dX8_request_141 : decode cX8_request 141 = .ok (.iaload, 1) := by decide +kernel
theorem dX8_request_142 : decode cX8_request 142 = .ok (.iload 7, 2) := by decide +kernel
theorem dX8_request_144 : decode cX8_request 144 = .ok (.if_icmp .ge 11, 3) := by decide +kernel
theorem dX8_request_147 : decode cX8_request 147 = .ok (.aload_n 0, 1) := by decide +kernel
theorem dX8_request_148 : decode cX8_request 148 = .ok (.getfield 23, 3) := by decide +kernel
theorem dX8_request_151 : decode cX8_request 151 = .ok (.iload_n 2, 1) := by decide +kernel
theorem dX8_request_152 : decode cX8_request 152 = .ok (.iload 7, 2) := by decide +kernel
theorem dX8_request_154 : decode cX8_request 154 = .ok (.iastore, 1) := by decide +kernel
theorem dX8_request_155 : decode cX8_request 155 = .ok (.iload 5, 2) := by decide +kernel
theorem dX8_request_157 : decode cX8_request 157 = .ok (.iconst 5, 1) := by decide +kernel
theorem dX8_request_158 : decode cX8_request 158 = .ok (.if_icmp .ne 22, 3) := by decide +kernel
theorem dX8_request_161 : decode cX8_request 161 = .ok (.aload_n 0, 1) := by decide +kernel
theorem dX8_request_162 : decode cX8_request 162 = .ok (.getfield 20, 3) := by decide +kernel
theorem dX8_request_165 : decode cX8_request 165 = .ok (.iload_n 2, 1) := by decide +kernel
theorem dX8_request_166 : decode cX8_request 166 = .ok (.iaload, 1) := by decide +kernel
theorem dX8_request_167 : decode cX8_request 167 = .ok (.iload 7, 2) := by decide +kernel
theorem dX8_request_169 : decode cX8_request 169 = .ok (.if_icmp .ge 11, 3) := by decide +kernel
theorem dX8_request_172 : decode cX8_request 172 = .ok (.aload_n 0, 1) := by decide +kernel
theorem dX8_request_173 : decode cX8_request 173 = .ok (.getfield 20, 3) := by decide +kernel
theorem dX8_request_176 : decode cX8_request 176 = .ok (.iload_n 2, 1) := by decide +kernel
theorem dX8_request_177 : decode cX8_request 177 = .ok (.iload 7, 2) := by decide +kernel
theorem dX8_request_179 : decode cX8_request 179 = .ok (.iastore, 1) := by decide +kernel
theorem dX8_request_180 : decode cX8_request 180 = .ok (.aload_n 0, 1) := by decide +kernel
theorem dX8_request_181 : decode cX8_request 181 = .ok (.iload_n 1, 1) := by decide +kernel
theorem dX8_request_182 : decode cX8_request 182 = .ok (.invokevirtual 185, 3) := by decide +kernel
theorem dX8_request_185 : decode cX8_request 185 = .ok (.aload_n 0, 1) := by decide +kernel
theorem dX8_request_186 : decode cX8_request 186 = .ok (.iconst 1, 1) := by decide +kernel
theorem dX8_request_187 : decode cX8_request 187 = .ok (.iload_n 2, 1) := by decide +kernel
theorem dX8_request_188 : decode cX8_request 188 = .ok (.iload_n 3, 1) := by decide +kernel
theorem dX8_request_189 : decode cX8_request 189 = .ok (.iload 4, 2) := by decide +kernel
theorem dX8_request_191 : decode cX8_request 191 = .ok (.iload 5, 2) := by decide +kernel
theorem dX8_request_193 : decode cX8_request 193 = .ok (.iload 6, 2) := by decide +kernel
theorem dX8_request_195 : decode cX8_request 195 = .ok (.aload_n 0, 1) := by decide +kernel
theorem dX8_request_196 : decode cX8_request 196 = .ok (.getfield 13, 3) := by decide +kernel
theorem dX8_request_199 : decode cX8_request 199 = .ok (.iload_n 2, 1) := by decide +kernel
theorem dX8_request_200 : decode cX8_request 200 = .ok (.iaload, 1) := by decide +kernel
theorem dX8_request_201 : decode cX8_request 201 = .ok (.aload_n 0, 1) := by decide +kernel
theorem dX8_request_202 : decode cX8_request 202 = .ok (.getfield 17, 3) := by decide +kernel
theorem dX8_request_205 : decode cX8_request 205 = .ok (.iload_n 2, 1) := by decide +kernel
theorem dX8_request_206 : decode cX8_request 206 = .ok (.iaload, 1) := by decide +kernel
theorem dX8_request_207 : decode cX8_request 207 = .ok (.aload_n 0, 1) := by decide +kernel
theorem dX8_request_208 : decode cX8_request 208 = .ok (.getfield 7, 3) := by decide +kernel
theorem dX8_request_211 : decode cX8_request 211 = .ok (.iload_n 2, 1) := by decide +kernel
theorem dX8_request_212 : decode cX8_request 212 = .ok (.laload, 1) := by decide +kernel
theorem dX8_request_213 : decode cX8_request 213 = .ok (.iconst (-1), 1) := by decide +kernel
theorem dX8_request_214 : decode cX8_request 214 = .ok (.aload_n 0, 1) := by decide +kernel
theorem dX8_request_215 : decode cX8_request 215 = .ok (.getfield 20, 3) := by decide +kernel
theorem dX8_request_218 : decode cX8_request 218 = .ok (.iload_n 2, 1) := by decide +kernel
theorem dX8_request_219 : decode cX8_request 219 = .ok (.iaload, 1) := by decide +kernel
theorem dX8_request_220 : decode cX8_request 220 = .ok (.aload_n 0, 1) := by decide +kernel
theorem dX8_request_221 : decode cX8_request 221 = .ok (.getfield 23, 3) := by decide +kernel
theorem dX8_request_224 : decode cX8_request 224 = .ok (.iload_n 2, 1) := by decide +kernel
theorem dX8_request_225 : decode cX8_request 225 = .ok (.iaload, 1) := by decide +kernel
theorem dX8_request_226 : decode cX8_request 226 = .ok (.invokevirtual 146, 3) := by decide +kernel
theorem dX8_request_229 : decode cX8_request 229 = .ok (.return_, 1) := by decide +kernel
theorem dX8_canBe_0 : decode cX8_canBe 0 = .ok (.aload_n 0, 1) := by decide +kernel
theorem dX8_canBe_1 : decode cX8_canBe 1 = .ok (.getfield 29, 3) := by decide +kernel
theorem dX8_canBe_4 : decode cX8_canBe 4 = .ok (.aload_n 0, 1) := by decide +kernel
theorem dX8_canBe_5 : decode cX8_canBe 5 = .ok (.getfield 96, 3) := by decide +kernel
theorem dX8_canBe_8 : decode cX8_canBe 8 = .ok (.iload_n 1, 1) := by decide +kernel
theorem dX8_canBe_9 : decode cX8_canBe 9 = .ok (.iaload, 1) := by decide +kernel
theorem dX8_canBe_10 : decode cX8_canBe 10 = .ok (.baload, 1) := by decide +kernel
theorem dX8_canBe_11 : decode cX8_canBe 11 = .ok (.ifCond .ne 32, 3) := by decide +kernel
theorem dX8_canBe_14 : decode cX8_canBe 14 = .ok (.aload_n 0, 1) := by decide +kernel
theorem dX8_canBe_15 : decode cX8_canBe 15 = .ok (.getfield 26, 3) := by decide +kernel
theorem dX8_canBe_18 : decode cX8_canBe 18 = .ok (.aload_n 0, 1) := by decide +kernel
theorem dX8_canBe_19 : decode cX8_canBe 19 = .ok (.getfield 96, 3) := by decide +kernel
theorem dX8_canBe_22 : decode cX8_canBe 22 = .ok (.iload_n 1, 1) := by decide +kernel
theorem dX8_canBe_23 : decode cX8_canBe 23 = .ok (.iaload, 1) := by decide +kernel
theorem dX8_canBe_24 : decode cX8_canBe 24 = .ok (.iaload, 1) := by decide +kernel
theorem dX8_canBe_25 : decode cX8_canBe 25 = .ok (.aload_n 0, 1) := by decide +kernel
theorem dX8_canBe_26 : decode cX8_canBe 26 = .ok (.getfield 54, 3) := by decide +kernel
theorem dX8_canBe_29 : decode cX8_canBe 29 = .ok (.aload_n 0, 1) := by decide +kernel
theorem dX8_canBe_30 : decode cX8_canBe 30 = .ok (.getfield 99, 3) := by decide +kernel
theorem dX8_canBe_33 : decode cX8_canBe 33 = .ok (.iload_n 1, 1) := by decide +kernel
theorem dX8_canBe_34 : decode cX8_canBe 34 = .ok (.iaload, 1) := by decide +kernel
theorem dX8_canBe_35 : decode cX8_canBe 35 = .ok (.iaload, 1) := by decide +kernel
theorem dX8_canBe_36 : decode cX8_canBe 36 = .ok (.if_icmp .ne 7, 3) := by decide +kernel
theorem dX8_canBe_39 : decode cX8_canBe 39 = .ok (.iconst 1, 1) := by decide +kernel
theorem dX8_canBe_40 : decode cX8_canBe 40 = .ok (.goto 4, 3) := by decide +kernel
theorem dX8_canBe_43 : decode cX8_canBe 43 = .ok (.iconst 0, 1) := by decide +kernel
theorem dX8_canBe_44 : decode cX8_canBe 44 = .ok (.ireturn, 1) := by decide +kernel
theorem dX8_deliver_0 : decode cX8_deliver 0 = .ok (.iload_n 1, 1) := by decide +kernel
theorem dX8_deliver_1 : decode cX8_deliver 1 = .ok (.ifCond .lt 19, 3) := by decide +kernel
theorem dX8_deliver_4 : decode cX8_deliver 4 = .ok (.iload_n 1, 1) := by decide +kernel
theorem dX8_deliver_5 : decode cX8_deliver 5 = .ok (.aload_n 0, 1) := by decide +kernel
theorem dX8_deliver_6 : decode cX8_deliver 6 = .ok (.getfield 140, 3) := by decide +kernel
theorem dX8_deliver_9 : decode cX8_deliver 9 = .ok (.if_icmp .ge 11, 3) := by decide +kernel
theorem dX8_deliver_12 : decode cX8_deliver 12 = .ok (.aload_n 0, 1) := by decide +kernel
theorem dX8_deliver_13 : decode cX8_deliver 13 = .ok (.iload_n 1, 1) := by decide +kernel
theorem dX8_deliver_14 : decode cX8_deliver 14 = .ok (.invokevirtual 197, 3) := by decide +kernel
theorem dX8_deliver_17 : decode cX8_deliver 17 = .ok (.ifCond .ne 5, 3) := by decide +kernel
theorem dX8_deliver_20 : decode cX8_deliver 20 = .ok (.iconst 0, 1) := by decide +kernel
theorem dX8_deliver_21 : decode cX8_deliver 21 = .ok (.ireturn, 1) := by decide +kernel
theorem dX8_deliver_22 : decode cX8_deliver 22 = .ok (.aload_n 0, 1) := by decide +kernel
theorem dX8_deliver_23 : decode cX8_deliver 23 = .ok (.dup, 1) := by decide +kernel
theorem dX8_deliver_24 : decode cX8_deliver 24 = .ok (.getfield 157, 3) := by decide +kernel
theorem dX8_deliver_27 : decode cX8_deliver 27 = .ok (.iconst 1, 1) := by decide +kernel
theorem dX8_deliver_28 : decode cX8_deliver 28 = .ok (.iadd, 1) := by decide +kernel
theorem dX8_deliver_29 : decode cX8_deliver 29 = .ok (.putfield 157, 3) := by decide +kernel
theorem dX8_deliver_32 : decode cX8_deliver 32 = .ok (.aload_n 0, 1) := by decide +kernel
theorem dX8_deliver_33 : decode cX8_deliver 33 = .ok (.getfield 93, 3) := by decide +kernel
theorem dX8_deliver_36 : decode cX8_deliver 36 = .ok (.iload_n 1, 1) := by decide +kernel
theorem dX8_deliver_37 : decode cX8_deliver 37 = .ok (.baload, 1) := by decide +kernel
theorem dX8_deliver_38 : decode cX8_deliver 38 = .ok (.ifCond .eq 11, 3) := by decide +kernel
theorem dX8_deliver_41 : decode cX8_deliver 41 = .ok (.aload_n 0, 1) := by decide +kernel
theorem dX8_deliver_42 : decode cX8_deliver 42 = .ok (.iload_n 1, 1) := by decide +kernel
theorem dX8_deliver_43 : decode cX8_deliver 43 = .ok (.invokevirtual 200, 3) := by decide +kernel
theorem dX8_deliver_46 : decode cX8_deliver 46 = .ok (.goto 8, 3) := by decide +kernel
theorem dX8_deliver_49 : decode cX8_deliver 49 = .ok (.aload_n 0, 1) := by decide +kernel
theorem dX8_deliver_50 : decode cX8_deliver 50 = .ok (.iload_n 1, 1) := by decide +kernel
theorem dX8_deliver_51 : decode cX8_deliver 51 = .ok (.invokevirtual 203, 3) := by decide +kernel
theorem dX8_deliver_54 : decode cX8_deliver 54 = .ok (.iconst 1, 1) := by decide +kernel
theorem dX8_deliver_55 : decode cX8_deliver 55 = .ok (.ireturn, 1) := by decide +kernel
theorem dX8_settle_0 : decode cX8_settle 0 = .ok (.iload_n 1, 1) := by decide +kernel
theorem dX8_settle_1 : decode cX8_settle 1 = .ok (.ifCond .ge 5, 3) := by decide +kernel
theorem dX8_settle_4 : decode cX8_settle 4 = .ok (.iconst (-1), 1) := by decide +kernel
theorem dX8_settle_5 : decode cX8_settle 5 = .ok (.ireturn, 1) := by decide +kernel
theorem dX8_settle_6 : decode cX8_settle 6 = .ok (.iconst 0, 1) := by decide +kernel
theorem dX8_settle_7 : decode cX8_settle 7 = .ok (.istore_n 2, 1) := by decide +kernel
theorem dX8_settle_8 : decode cX8_settle 8 = .ok (.iconst 1, 1) := by decide +kernel
theorem dX8_settle_9 : decode cX8_settle 9 = .ok (.istore_n 3, 1) := by decide +kernel
theorem dX8_settle_10 : decode cX8_settle 10 = .ok (.iload_n 3, 1) := by decide +kernel
theorem dX8_settle_11 : decode cX8_settle 11 = .ok (.ifCond .eq 52, 3) := by decide +kernel
theorem dX8_settle_14 : decode cX8_settle 14 = .ok (.iload_n 2, 1) := by decide +kernel
theorem dX8_settle_15 : decode cX8_settle 15 = .ok (.iload_n 1, 1) := by decide +kernel
theorem dX8_settle_16 : decode cX8_settle 16 = .ok (.if_icmp .ge 47, 3) := by decide +kernel
theorem dX8_settle_19 : decode cX8_settle 19 = .ok (.iconst 0, 1) := by decide +kernel
theorem dX8_settle_20 : decode cX8_settle 20 = .ok (.istore 4, 2) := by decide +kernel
theorem dX8_settle_22 : decode cX8_settle 22 = .ok (.iload 4, 2) := by decide +kernel
theorem dX8_settle_24 : decode cX8_settle 24 = .ok (.aload_n 0, 1) := by decide +kernel
theorem dX8_settle_25 : decode cX8_settle 25 = .ok (.getfield 140, 3) := by decide +kernel
theorem dX8_settle_28 : decode cX8_settle 28 = .ok (.if_icmp .ge 18, 3) := by decide +kernel
theorem dX8_settle_31 : decode cX8_settle 31 = .ok (.aload_n 0, 1) := by decide +kernel
theorem dX8_settle_32 : decode cX8_settle 32 = .ok (.iload 4, 2) := by decide +kernel
theorem dX8_settle_34 : decode cX8_settle 34 = .ok (.invokevirtual 197, 3) := by decide +kernel
theorem dX8_settle_37 : decode cX8_settle 37 = .ok (.ifCond .ne 9, 3) := by decide +kernel
theorem dX8_settle_40 : decode cX8_settle 40 = .ok (.iinc 4 1, 3) := by decide +kernel
theorem dX8_settle_43 : decode cX8_settle 43 = .ok (.goto (-21), 3) := by decide +kernel
theorem dX8_settle_46 : decode cX8_settle 46 = .ok (.aload_n 0, 1) := by decide +kernel
theorem dX8_settle_47 : decode cX8_settle 47 = .ok (.iload 4, 2) := by decide +kernel
theorem dX8_settle_49 : decode cX8_settle 49 = .ok (.invokevirtual 206, 3) := by decide +kernel
theorem dX8_settle_52 : decode cX8_settle 52 = .ok (.istore_n 3, 1) := by decide +kernel
theorem dX8_settle_53 : decode cX8_settle 53 = .ok (.iload_n 3, 1) := by decide +kernel
theorem dX8_settle_54 : decode cX8_settle 54 = .ok (.ifCond .eq 6, 3) := by decide +kernel
theorem dX8_settle_57 : decode cX8_settle 57 = .ok (.iinc 2 1, 3) := by decide +kernel
theorem dX8_settle_60 : decode cX8_settle 60 = .ok (.goto (-50), 3) := by decide +kernel
theorem dX8_settle_63 : decode cX8_settle 63 = .ok (.iload_n 2, 1) := by decide +kernel
theorem dX8_settle_64 : decode cX8_settle 64 = .ok (.ireturn, 1) := by decide +kernel
theorem dX8_lose_0 : decode cX8_lose 0 = .ok (.iload_n 1, 1) := by decide +kernel
theorem dX8_lose_1 : decode cX8_lose 1 = .ok (.ifCond .lt 11, 3) := by decide +kernel
theorem dX8_lose_4 : decode cX8_lose 4 = .ok (.iload_n 1, 1) := by decide +kernel
theorem dX8_lose_5 : decode cX8_lose 5 = .ok (.aload_n 0, 1) := by decide +kernel
theorem dX8_lose_6 : decode cX8_lose 6 = .ok (.getfield 140, 3) := by decide +kernel
theorem dX8_lose_9 : decode cX8_lose 9 = .ok (.if_icmp .lt 5, 3) := by decide +kernel
theorem dX8_lose_12 : decode cX8_lose 12 = .ok (.iconst 0, 1) := by decide +kernel
theorem dX8_lose_13 : decode cX8_lose 13 = .ok (.ireturn, 1) := by decide +kernel
theorem dX8_lose_14 : decode cX8_lose 14 = .ok (.aload_n 0, 1) := by decide +kernel
theorem dX8_lose_15 : decode cX8_lose 15 = .ok (.iload_n 1, 1) := by decide +kernel
theorem dX8_lose_16 : decode cX8_lose 16 = .ok (.invokevirtual 185, 3) := by decide +kernel
theorem dX8_lose_19 : decode cX8_lose 19 = .ok (.iconst 1, 1) := by decide +kernel
theorem dX8_lose_20 : decode cX8_lose 20 = .ok (.ireturn, 1) := by decide +kernel
theorem dX8_twice_0 : decode cX8_twice 0 = .ok (.iload_n 1, 1) := by decide +kernel
theorem dX8_twice_1 : decode cX8_twice 1 = .ok (.ifCond .lt 21, 3) := by decide +kernel
theorem dX8_twice_4 : decode cX8_twice 4 = .ok (.iload_n 1, 1) := by decide +kernel
theorem dX8_twice_5 : decode cX8_twice 5 = .ok (.aload_n 0, 1) := by decide +kernel
theorem dX8_twice_6 : decode cX8_twice 6 = .ok (.getfield 140, 3) := by decide +kernel
theorem dX8_twice_9 : decode cX8_twice 9 = .ok (.if_icmp .ge 13, 3) := by decide +kernel
theorem dX8_twice_12 : decode cX8_twice 12 = .ok (.aload_n 0, 1) := by decide +kernel
theorem dX8_twice_13 : decode cX8_twice 13 = .ok (.getfield 140, 3) := by decide +kernel
theorem dX8_twice_16 : decode cX8_twice 16 = .ok (.sipush 300, 3) := by decide +kernel
theorem dX8_twice_19 : decode cX8_twice 19 = .ok (.if_icmp .ne 5, 3) := by decide +kernel
theorem dX8_twice_22 : decode cX8_twice 22 = .ok (.iconst 0, 1) := by decide +kernel
theorem dX8_twice_23 : decode cX8_twice 23 = .ok (.ireturn, 1) := by decide +kernel
theorem dX8_twice_24 : decode cX8_twice 24 = .ok (.aload_n 0, 1) := by decide +kernel
theorem dX8_twice_25 : decode cX8_twice 25 = .ok (.aload_n 0, 1) := by decide +kernel
theorem dX8_twice_26 : decode cX8_twice 26 = .ok (.getfield 93, 3) := by decide +kernel
theorem dX8_twice_29 : decode cX8_twice 29 = .ok (.iload_n 1, 1) := by decide +kernel
theorem dX8_twice_30 : decode cX8_twice 30 = .ok (.baload, 1) := by decide +kernel
theorem dX8_twice_31 : decode cX8_twice 31 = .ok (.aload_n 0, 1) := by decide +kernel
theorem dX8_twice_32 : decode cX8_twice 32 = .ok (.getfield 96, 3) := by decide +kernel
theorem dX8_twice_35 : decode cX8_twice 35 = .ok (.iload_n 1, 1) := by decide +kernel
theorem dX8_twice_36 : decode cX8_twice 36 = .ok (.iaload, 1) := by decide +kernel
theorem dX8_twice_37 : decode cX8_twice 37 = .ok (.aload_n 0, 1) := by decide +kernel
theorem dX8_twice_38 : decode cX8_twice 38 = .ok (.getfield 99, 3) := by decide +kernel
theorem dX8_twice_41 : decode cX8_twice 41 = .ok (.iload_n 1, 1) := by decide +kernel
theorem dX8_twice_42 : decode cX8_twice 42 = .ok (.iaload, 1) := by decide +kernel
theorem dX8_twice_43 : decode cX8_twice 43 = .ok (.aload_n 0, 1) := by decide +kernel
theorem dX8_twice_44 : decode cX8_twice 44 = .ok (.getfield 102, 3) := by decide +kernel
theorem dX8_twice_47 : decode cX8_twice 47 = .ok (.iload_n 1, 1) := by decide +kernel
theorem dX8_twice_48 : decode cX8_twice 48 = .ok (.iaload, 1) := by decide +kernel
theorem dX8_twice_49 : decode cX8_twice 49 = .ok (.aload_n 0, 1) := by decide +kernel
theorem dX8_twice_50 : decode cX8_twice 50 = .ok (.getfield 105, 3) := by decide +kernel
theorem dX8_twice_53 : decode cX8_twice 53 = .ok (.iload_n 1, 1) := by decide +kernel
theorem dX8_twice_54 : decode cX8_twice 54 = .ok (.iaload, 1) := by decide +kernel
theorem dX8_twice_55 : decode cX8_twice 55 = .ok (.aload_n 0, 1) := by decide +kernel
theorem dX8_twice_56 : decode cX8_twice 56 = .ok (.getfield 108, 3) := by decide +kernel
theorem dX8_twice_59 : decode cX8_twice 59 = .ok (.iload_n 1, 1) := by decide +kernel
theorem dX8_twice_60 : decode cX8_twice 60 = .ok (.iaload, 1) := by decide +kernel
theorem dX8_twice_61 : decode cX8_twice 61 = .ok (.aload_n 0, 1) := by decide +kernel
theorem dX8_twice_62 : decode cX8_twice 62 = .ok (.getfield 111, 3) := by decide +kernel
theorem dX8_twice_65 : decode cX8_twice 65 = .ok (.iload_n 1, 1) := by decide +kernel
theorem dX8_twice_66 : decode cX8_twice 66 = .ok (.iaload, 1) := by decide +kernel
theorem dX8_twice_67 : decode cX8_twice 67 = .ok (.aload_n 0, 1) := by decide +kernel
theorem dX8_twice_68 : decode cX8_twice 68 = .ok (.getfield 114, 3) := by decide +kernel
theorem dX8_twice_71 : decode cX8_twice 71 = .ok (.iload_n 1, 1) := by decide +kernel
theorem dX8_twice_72 : decode cX8_twice 72 = .ok (.iaload, 1) := by decide +kernel
theorem dX8_twice_73 : decode cX8_twice 73 = .ok (.aload_n 0, 1) := by decide +kernel
theorem dX8_twice_74 : decode cX8_twice 74 = .ok (.getfield 126, 3) := by decide +kernel
theorem dX8_twice_77 : decode cX8_twice 77 = .ok (.iload_n 1, 1) := by decide +kernel
theorem dX8_twice_78 : decode cX8_twice 78 = .ok (.laload, 1) := by decide +kernel
theorem dX8_twice_79 : decode cX8_twice 79 = .ok (.aload_n 0, 1) := by decide +kernel
theorem dX8_twice_80 : decode cX8_twice 80 = .ok (.getfield 117, 3) := by decide +kernel
theorem dX8_twice_83 : decode cX8_twice 83 = .ok (.iload_n 1, 1) := by decide +kernel
theorem dX8_twice_84 : decode cX8_twice 84 = .ok (.iaload, 1) := by decide +kernel
theorem dX8_twice_85 : decode cX8_twice 85 = .ok (.aload_n 0, 1) := by decide +kernel
theorem dX8_twice_86 : decode cX8_twice 86 = .ok (.getfield 120, 3) := by decide +kernel
theorem dX8_twice_89 : decode cX8_twice 89 = .ok (.iload_n 1, 1) := by decide +kernel
theorem dX8_twice_90 : decode cX8_twice 90 = .ok (.iaload, 1) := by decide +kernel
theorem dX8_twice_91 : decode cX8_twice 91 = .ok (.aload_n 0, 1) := by decide +kernel
theorem dX8_twice_92 : decode cX8_twice 92 = .ok (.getfield 123, 3) := by decide +kernel
theorem dX8_twice_95 : decode cX8_twice 95 = .ok (.iload_n 1, 1) := by decide +kernel
theorem dX8_twice_96 : decode cX8_twice 96 = .ok (.iaload, 1) := by decide +kernel
theorem dX8_twice_97 : decode cX8_twice 97 = .ok (.invokevirtual 146, 3) := by decide +kernel
theorem dX8_twice_100 : decode cX8_twice 100 = .ok (.iconst 1, 1) := by decide +kernel
theorem dX8_twice_101 : decode cX8_twice 101 = .ok (.ireturn, 1) := by decide +kernel
theorem dX8_silent_0 : decode cX8_silent 0 = .ok (.aload_n 0, 1) := by decide +kernel
theorem dX8_silent_1 : decode cX8_silent 1 = .ok (.iload_n 1, 1) := by decide +kernel
theorem dX8_silent_2 : decode cX8_silent 2 = .ok (.invokevirtual 136, 3) := by decide +kernel
theorem dX8_silent_5 : decode cX8_silent 5 = .ok (.ifCond .ne 5, 3) := by decide +kernel
theorem dX8_silent_8 : decode cX8_silent 8 = .ok (.iconst 0, 1) := by decide +kernel
theorem dX8_silent_9 : decode cX8_silent 9 = .ok (.ireturn, 1) := by decide +kernel
theorem dX8_silent_10 : decode cX8_silent 10 = .ok (.aload_n 0, 1) := by decide +kernel
theorem dX8_silent_11 : decode cX8_silent 11 = .ok (.getfield 29, 3) := by decide +kernel
theorem dX8_silent_14 : decode cX8_silent 14 = .ok (.iload_n 1, 1) := by decide +kernel
theorem dX8_silent_15 : decode cX8_silent 15 = .ok (.iload_n 2, 1) := by decide +kernel
theorem dX8_silent_16 : decode cX8_silent 16 = .ok (.bastore, 1) := by decide +kernel
theorem dX8_silent_17 : decode cX8_silent 17 = .ok (.iconst 1, 1) := by decide +kernel
theorem dX8_silent_18 : decode cX8_silent 18 = .ok (.ireturn, 1) := by decide +kernel
theorem dX8_side_0 : decode cX8_side 0 = .ok (.iload_n 2, 1) := by decide +kernel
theorem dX8_side_1 : decode cX8_side 1 = .ok (.ifCond .lt 8, 3) := by decide +kernel
theorem dX8_side_4 : decode cX8_side 4 = .ok (.iload_n 2, 1) := by decide +kernel
theorem dX8_side_5 : decode cX8_side 5 = .ok (.iconst 3, 1) := by decide +kernel
theorem dX8_side_6 : decode cX8_side 6 = .ok (.if_icmp .le 5, 3) := by decide +kernel
theorem dX8_side_9 : decode cX8_side 9 = .ok (.iconst 0, 1) := by decide +kernel
theorem dX8_side_10 : decode cX8_side 10 = .ok (.ireturn, 1) := by decide +kernel
theorem dX8_side_11 : decode cX8_side 11 = .ok (.aload_n 0, 1) := by decide +kernel
theorem dX8_side_12 : decode cX8_side 12 = .ok (.iload_n 1, 1) := by decide +kernel
theorem dX8_side_13 : decode cX8_side 13 = .ok (.invokevirtual 136, 3) := by decide +kernel
theorem dX8_side_16 : decode cX8_side 16 = .ok (.ifCond .eq 13, 3) := by decide +kernel
theorem dX8_side_19 : decode cX8_side 19 = .ok (.aload_n 0, 1) := by decide +kernel
theorem dX8_side_20 : decode cX8_side 20 = .ok (.getfield 26, 3) := by decide +kernel
theorem dX8_side_23 : decode cX8_side 23 = .ok (.iload_n 1, 1) := by decide +kernel
theorem dX8_side_24 : decode cX8_side 24 = .ok (.iload_n 2, 1) := by decide +kernel
theorem dX8_side_25 : decode cX8_side 25 = .ok (.iastore, 1) := by decide +kernel
theorem dX8_side_26 : decode cX8_side 26 = .ok (.goto 28, 3) := by decide +kernel
theorem dX8_side_29 : decode cX8_side 29 = .ok (.iload_n 1, 1) := by decide +kernel
theorem dX8_side_30 : decode cX8_side 30 = .ok (.bipush 10, 2) := by decide +kernel
theorem dX8_side_32 : decode cX8_side 32 = .ok (.isub, 1) := by decide +kernel
theorem dX8_side_33 : decode cX8_side 33 = .ok (.invokestatic 167, 3) := by decide +kernel
theorem dX8_side_36 : decode cX8_side 36 = .ok (.ifCond .eq 16, 3) := by decide +kernel
theorem dX8_side_39 : decode cX8_side 39 = .ok (.aload_n 0, 1) := by decide +kernel
theorem dX8_side_40 : decode cX8_side 40 = .ok (.getfield 54, 3) := by decide +kernel
theorem dX8_side_43 : decode cX8_side 43 = .ok (.iload_n 1, 1) := by decide +kernel
theorem dX8_side_44 : decode cX8_side 44 = .ok (.bipush 10, 2) := by decide +kernel
theorem dX8_side_46 : decode cX8_side 46 = .ok (.isub, 1) := by decide +kernel
theorem dX8_side_47 : decode cX8_side 47 = .ok (.iload_n 2, 1) := by decide +kernel
theorem dX8_side_48 : decode cX8_side 48 = .ok (.iastore, 1) := by decide +kernel
theorem dX8_side_49 : decode cX8_side 49 = .ok (.goto 5, 3) := by decide +kernel
theorem dX8_side_52 : decode cX8_side 52 = .ok (.iconst 0, 1) := by decide +kernel
theorem dX8_side_53 : decode cX8_side 53 = .ok (.ireturn, 1) := by decide +kernel
theorem dX8_side_54 : decode cX8_side 54 = .ok (.iconst 1, 1) := by decide +kernel
theorem dX8_side_55 : decode cX8_side 55 = .ok (.ireturn, 1) := by decide +kernel
theorem dX8_halt_0 : decode cX8_halt 0 = .ok (.iload_n 1, 1) := by decide +kernel
theorem dX8_halt_1 : decode cX8_halt 1 = .ok (.invokestatic 167, 3) := by decide +kernel
theorem dX8_halt_4 : decode cX8_halt 4 = .ok (.ifCond .eq 12, 3) := by decide +kernel
theorem dX8_halt_7 : decode cX8_halt 7 = .ok (.aload_n 0, 1) := by decide +kernel
theorem dX8_halt_8 : decode cX8_halt 8 = .ok (.getfield 39, 3) := by decide +kernel
theorem dX8_halt_11 : decode cX8_halt 11 = .ok (.iload_n 1, 1) := by decide +kernel
theorem dX8_halt_12 : decode cX8_halt 12 = .ok (.iaload, 1) := by decide +kernel
theorem dX8_halt_13 : decode cX8_halt 13 = .ok (.ifCond .ge 5, 3) := by decide +kernel
theorem dX8_halt_16 : decode cX8_halt 16 = .ok (.iconst (-1), 1) := by decide +kernel
theorem dX8_halt_17 : decode cX8_halt 17 = .ok (.ireturn, 1) := by decide +kernel
theorem dX8_halt_18 : decode cX8_halt 18 = .ok (.aload_n 0, 1) := by decide +kernel
theorem dX8_halt_19 : decode cX8_halt 19 = .ok (.dup, 1) := by decide +kernel
theorem dX8_halt_20 : decode cX8_halt 20 = .ok (.getfield 157, 3) := by decide +kernel
theorem dX8_halt_23 : decode cX8_halt 23 = .ok (.iconst 1, 1) := by decide +kernel
theorem dX8_halt_24 : decode cX8_halt 24 = .ok (.iadd, 1) := by decide +kernel
theorem dX8_halt_25 : decode cX8_halt 25 = .ok (.putfield 157, 3) := by decide +kernel
theorem dX8_halt_28 : decode cX8_halt 28 = .ok (.aload_n 0, 1) := by decide +kernel
theorem dX8_halt_29 : decode cX8_halt 29 = .ok (.getfield 39, 3) := by decide +kernel
theorem dX8_halt_32 : decode cX8_halt 32 = .ok (.iload_n 1, 1) := by decide +kernel
theorem dX8_halt_33 : decode cX8_halt 33 = .ok (.iaload, 1) := by decide +kernel
theorem dX8_halt_34 : decode cX8_halt 34 = .ok (.istore_n 2, 1) := by decide +kernel
theorem dX8_halt_35 : decode cX8_halt 35 = .ok (.aload_n 0, 1) := by decide +kernel
theorem dX8_halt_36 : decode cX8_halt 36 = .ok (.iload_n 1, 1) := by decide +kernel
theorem dX8_halt_37 : decode cX8_halt 37 = .ok (.invokevirtual 178, 3) := by decide +kernel
theorem dX8_halt_40 : decode cX8_halt 40 = .ok (.iload_n 2, 1) := by decide +kernel
theorem dX8_halt_41 : decode cX8_halt 41 = .ok (.ireturn, 1) := by decide +kernel
theorem dX8_copy_0 : decode cX8_copy 0 = .ok (.aload_n 0, 1) := by decide +kernel
theorem dX8_copy_1 : decode cX8_copy 1 = .ok (.iload_n 1, 1) := by decide +kernel
theorem dX8_copy_2 : decode cX8_copy 2 = .ok (.invokevirtual 136, 3) := by decide +kernel
theorem dX8_copy_5 : decode cX8_copy 5 = .ok (.ifCond .ne 5, 3) := by decide +kernel
theorem dX8_copy_8 : decode cX8_copy 8 = .ok (.iconst (-1), 1) := by decide +kernel
theorem dX8_copy_9 : decode cX8_copy 9 = .ok (.ireturn, 1) := by decide +kernel
theorem dX8_copy_10 : decode cX8_copy 10 = .ok (.iload_n 2, 1) := by decide +kernel
theorem dX8_copy_11 : decode cX8_copy 11 = .ok (.tableswitch 87 0 5 #[37, 44, 51, 58, 65, 80], 37) := by decide +kernel
theorem dX8_copy_48 : decode cX8_copy 48 = .ok (.aload_n 0, 1) := by decide +kernel
theorem dX8_copy_49 : decode cX8_copy 49 = .ok (.getfield 13, 3) := by decide +kernel
theorem dX8_copy_52 : decode cX8_copy 52 = .ok (.iload_n 1, 1) := by decide +kernel
theorem dX8_copy_53 : decode cX8_copy 53 = .ok (.iaload, 1) := by decide +kernel
theorem dX8_copy_54 : decode cX8_copy 54 = .ok (.ireturn, 1) := by decide +kernel
theorem dX8_copy_55 : decode cX8_copy 55 = .ok (.aload_n 0, 1) := by decide +kernel
theorem dX8_copy_56 : decode cX8_copy 56 = .ok (.getfield 17, 3) := by decide +kernel
theorem dX8_copy_59 : decode cX8_copy 59 = .ok (.iload_n 1, 1) := by decide +kernel
theorem dX8_copy_60 : decode cX8_copy 60 = .ok (.iaload, 1) := by decide +kernel
theorem dX8_copy_61 : decode cX8_copy 61 = .ok (.ireturn, 1) := by decide +kernel
theorem dX8_copy_62 : decode cX8_copy 62 = .ok (.aload_n 0, 1) := by decide +kernel
theorem dX8_copy_63 : decode cX8_copy 63 = .ok (.getfield 20, 3) := by decide +kernel
theorem dX8_copy_66 : decode cX8_copy 66 = .ok (.iload_n 1, 1) := by decide +kernel
theorem dX8_copy_67 : decode cX8_copy 67 = .ok (.iaload, 1) := by decide +kernel
theorem dX8_copy_68 : decode cX8_copy 68 = .ok (.ireturn, 1) := by decide +kernel
theorem dX8_copy_69 : decode cX8_copy 69 = .ok (.aload_n 0, 1) := by decide +kernel
theorem dX8_copy_70 : decode cX8_copy 70 = .ok (.getfield 23, 3) := by decide +kernel
theorem dX8_copy_73 : decode cX8_copy 73 = .ok (.iload_n 1, 1) := by decide +kernel
theorem dX8_copy_74 : decode cX8_copy 74 = .ok (.iaload, 1) := by decide +kernel
theorem dX8_copy_75 : decode cX8_copy 75 = .ok (.ireturn, 1) := by decide +kernel
theorem dX8_copy_76 : decode cX8_copy 76 = .ok (.aload_n 0, 1) := by decide +kernel
theorem dX8_copy_77 : decode cX8_copy 77 = .ok (.getfield 29, 3) := by decide +kernel
theorem dX8_copy_80 : decode cX8_copy 80 = .ok (.iload_n 1, 1) := by decide +kernel
theorem dX8_copy_81 : decode cX8_copy 81 = .ok (.baload, 1) := by decide +kernel
theorem dX8_copy_82 : decode cX8_copy 82 = .ok (.ifCond .eq 7, 3) := by decide +kernel
theorem dX8_copy_85 : decode cX8_copy 85 = .ok (.iconst 1, 1) := by decide +kernel
theorem dX8_copy_86 : decode cX8_copy 86 = .ok (.goto 4, 3) := by decide +kernel
theorem dX8_copy_89 : decode cX8_copy 89 = .ok (.iconst 0, 1) := by decide +kernel
theorem dX8_copy_90 : decode cX8_copy 90 = .ok (.ireturn, 1) := by decide +kernel
theorem dX8_copy_91 : decode cX8_copy 91 = .ok (.aload_n 0, 1) := by decide +kernel
theorem dX8_copy_92 : decode cX8_copy 92 = .ok (.getfield 26, 3) := by decide +kernel
theorem dX8_copy_95 : decode cX8_copy 95 = .ok (.iload_n 1, 1) := by decide +kernel
theorem dX8_copy_96 : decode cX8_copy 96 = .ok (.iaload, 1) := by decide +kernel
theorem dX8_copy_97 : decode cX8_copy 97 = .ok (.ireturn, 1) := by decide +kernel
theorem dX8_copy_98 : decode cX8_copy 98 = .ok (.iconst (-1), 1) := by decide +kernel
theorem dX8_copy_99 : decode cX8_copy 99 = .ok (.ireturn, 1) := by decide +kernel
theorem dX8_kept_0 : decode cX8_kept 0 = .ok (.aload_n 0, 1) := by decide +kernel
theorem dX8_kept_1 : decode cX8_kept 1 = .ok (.iload_n 1, 1) := by decide +kernel
theorem dX8_kept_2 : decode cX8_kept 2 = .ok (.invokevirtual 136, 3) := by decide +kernel
theorem dX8_kept_5 : decode cX8_kept 5 = .ok (.ifCond .eq 12, 3) := by decide +kernel
theorem dX8_kept_8 : decode cX8_kept 8 = .ok (.aload_n 0, 1) := by decide +kernel
theorem dX8_kept_9 : decode cX8_kept 9 = .ok (.getfield 7, 3) := by decide +kernel
theorem dX8_kept_12 : decode cX8_kept 12 = .ok (.iload_n 1, 1) := by decide +kernel
theorem dX8_kept_13 : decode cX8_kept 13 = .ok (.laload, 1) := by decide +kernel
theorem dX8_kept_14 : decode cX8_kept 14 = .ok (.goto 4, 3) := by decide +kernel
theorem dX8_kept_17 : decode cX8_kept 17 = .ok (.lconst 0, 1) := by decide +kernel
theorem dX8_kept_18 : decode cX8_kept 18 = .ok (.lreturn, 1) := by decide +kernel
theorem dX8_client_0 : decode cX8_client 0 = .ok (.iload_n 1, 1) := by decide +kernel
theorem dX8_client_1 : decode cX8_client 1 = .ok (.invokestatic 167, 3) := by decide +kernel
theorem dX8_client_4 : decode cX8_client 4 = .ok (.ifCond .ne 5, 3) := by decide +kernel
theorem dX8_client_7 : decode cX8_client 7 = .ok (.iconst (-1), 1) := by decide +kernel
theorem dX8_client_8 : decode cX8_client 8 = .ok (.ireturn, 1) := by decide +kernel
theorem dX8_client_9 : decode cX8_client 9 = .ok (.iload_n 2, 1) := by decide +kernel
theorem dX8_client_10 : decode cX8_client 10 = .ok (.tableswitch 80 0 5 #[38, 45, 52, 59, 66, 73], 38) := by decide +kernel
theorem dX8_client_48 : decode cX8_client 48 = .ok (.aload_n 0, 1) := by decide +kernel
theorem dX8_client_49 : decode cX8_client 49 = .ok (.getfield 39, 3) := by decide +kernel
theorem dX8_client_52 : decode cX8_client 52 = .ok (.iload_n 1, 1) := by decide +kernel
theorem dX8_client_53 : decode cX8_client 53 = .ok (.iaload, 1) := by decide +kernel
theorem dX8_client_54 : decode cX8_client 54 = .ok (.ireturn, 1) := by decide +kernel
theorem dX8_client_55 : decode cX8_client 55 = .ok (.aload_n 0, 1) := by decide +kernel
theorem dX8_client_56 : decode cX8_client 56 = .ok (.getfield 42, 3) := by decide +kernel
theorem dX8_client_59 : decode cX8_client 59 = .ok (.iload_n 1, 1) := by decide +kernel
theorem dX8_client_60 : decode cX8_client 60 = .ok (.iaload, 1) := by decide +kernel
theorem dX8_client_61 : decode cX8_client 61 = .ok (.ireturn, 1) := by decide +kernel
theorem dX8_client_62 : decode cX8_client 62 = .ok (.aload_n 0, 1) := by decide +kernel
theorem dX8_client_63 : decode cX8_client 63 = .ok (.getfield 48, 3) := by decide +kernel
theorem dX8_client_66 : decode cX8_client 66 = .ok (.iload_n 1, 1) := by decide +kernel
theorem dX8_client_67 : decode cX8_client 67 = .ok (.iaload, 1) := by decide +kernel
theorem dX8_client_68 : decode cX8_client 68 = .ok (.ireturn, 1) := by decide +kernel
theorem dX8_client_69 : decode cX8_client 69 = .ok (.aload_n 0, 1) := by decide +kernel
theorem dX8_client_70 : decode cX8_client 70 = .ok (.getfield 51, 3) := by decide +kernel
theorem dX8_client_73 : decode cX8_client 73 = .ok (.iload_n 1, 1) := by decide +kernel
theorem dX8_client_74 : decode cX8_client 74 = .ok (.iaload, 1) := by decide +kernel
theorem dX8_client_75 : decode cX8_client 75 = .ok (.ireturn, 1) := by decide +kernel
theorem dX8_client_76 : decode cX8_client 76 = .ok (.aload_n 0, 1) := by decide +kernel
theorem dX8_client_77 : decode cX8_client 77 = .ok (.getfield 54, 3) := by decide +kernel
theorem dX8_client_80 : decode cX8_client 80 = .ok (.iload_n 1, 1) := by decide +kernel
theorem dX8_client_81 : decode cX8_client 81 = .ok (.iaload, 1) := by decide +kernel
theorem dX8_client_82 : decode cX8_client 82 = .ok (.ireturn, 1) := by decide +kernel
theorem dX8_client_83 : decode cX8_client 83 = .ok (.aload_n 0, 1) := by decide +kernel
theorem dX8_client_84 : decode cX8_client 84 = .ok (.getfield 57, 3) := by decide +kernel
theorem dX8_client_87 : decode cX8_client 87 = .ok (.iload_n 1, 1) := by decide +kernel
theorem dX8_client_88 : decode cX8_client 88 = .ok (.iaload, 1) := by decide +kernel
theorem dX8_client_89 : decode cX8_client 89 = .ok (.ireturn, 1) := by decide +kernel
theorem dX8_client_90 : decode cX8_client 90 = .ok (.iconst (-1), 1) := by decide +kernel
theorem dX8_client_91 : decode cX8_client 91 = .ok (.ireturn, 1) := by decide +kernel
theorem dX8_air_0 : decode cX8_air 0 = .ok (.iload_n 1, 1) := by decide +kernel
theorem dX8_air_1 : decode cX8_air 1 = .ok (.ifCond .lt 11, 3) := by decide +kernel
theorem dX8_air_4 : decode cX8_air 4 = .ok (.iload_n 1, 1) := by decide +kernel
theorem dX8_air_5 : decode cX8_air 5 = .ok (.aload_n 0, 1) := by decide +kernel
theorem dX8_air_6 : decode cX8_air 6 = .ok (.getfield 140, 3) := by decide +kernel
theorem dX8_air_9 : decode cX8_air 9 = .ok (.if_icmp .lt 5, 3) := by decide +kernel
theorem dX8_air_12 : decode cX8_air 12 = .ok (.iconst (-1), 1) := by decide +kernel
theorem dX8_air_13 : decode cX8_air 13 = .ok (.ireturn, 1) := by decide +kernel
theorem dX8_air_14 : decode cX8_air 14 = .ok (.iload_n 2, 1) := by decide +kernel
theorem dX8_air_15 : decode cX8_air 15 = .ok (.tableswitch 138 0 8 #[49, 64, 71, 78, 85, 92, 99, 106, 131], 49) := by decide +kernel
theorem dX8_air_64 : decode cX8_air 64 = .ok (.aload_n 0, 1) := by decide +kernel
theorem dX8_air_65 : decode cX8_air 65 = .ok (.getfield 93, 3) := by decide +kernel
theorem dX8_air_68 : decode cX8_air 68 = .ok (.iload_n 1, 1) := by decide +kernel
theorem dX8_air_69 : decode cX8_air 69 = .ok (.baload, 1) := by decide +kernel
theorem dX8_air_70 : decode cX8_air 70 = .ok (.ifCond .eq 7, 3) := by decide +kernel
theorem dX8_air_73 : decode cX8_air 73 = .ok (.iconst 1, 1) := by decide +kernel
theorem dX8_air_74 : decode cX8_air 74 = .ok (.goto 4, 3) := by decide +kernel
theorem dX8_air_77 : decode cX8_air 77 = .ok (.iconst 0, 1) := by decide +kernel
theorem dX8_air_78 : decode cX8_air 78 = .ok (.ireturn, 1) := by decide +kernel
theorem dX8_air_79 : decode cX8_air 79 = .ok (.aload_n 0, 1) := by decide +kernel
theorem dX8_air_80 : decode cX8_air 80 = .ok (.getfield 96, 3) := by decide +kernel
theorem dX8_air_83 : decode cX8_air 83 = .ok (.iload_n 1, 1) := by decide +kernel
theorem dX8_air_84 : decode cX8_air 84 = .ok (.iaload, 1) := by decide +kernel
theorem dX8_air_85 : decode cX8_air 85 = .ok (.ireturn, 1) := by decide +kernel
theorem dX8_air_86 : decode cX8_air 86 = .ok (.aload_n 0, 1) := by decide +kernel
theorem dX8_air_87 : decode cX8_air 87 = .ok (.getfield 99, 3) := by decide +kernel
theorem dX8_air_90 : decode cX8_air 90 = .ok (.iload_n 1, 1) := by decide +kernel
theorem dX8_air_91 : decode cX8_air 91 = .ok (.iaload, 1) := by decide +kernel
theorem dX8_air_92 : decode cX8_air 92 = .ok (.ireturn, 1) := by decide +kernel
theorem dX8_air_93 : decode cX8_air 93 = .ok (.aload_n 0, 1) := by decide +kernel
theorem dX8_air_94 : decode cX8_air 94 = .ok (.getfield 102, 3) := by decide +kernel
theorem dX8_air_97 : decode cX8_air 97 = .ok (.iload_n 1, 1) := by decide +kernel
theorem dX8_air_98 : decode cX8_air 98 = .ok (.iaload, 1) := by decide +kernel
theorem dX8_air_99 : decode cX8_air 99 = .ok (.ireturn, 1) := by decide +kernel
theorem dX8_air_100 : decode cX8_air 100 = .ok (.aload_n 0, 1) := by decide +kernel
theorem dX8_air_101 : decode cX8_air 101 = .ok (.getfield 105, 3) := by decide +kernel
theorem dX8_air_104 : decode cX8_air 104 = .ok (.iload_n 1, 1) := by decide +kernel
theorem dX8_air_105 : decode cX8_air 105 = .ok (.iaload, 1) := by decide +kernel
theorem dX8_air_106 : decode cX8_air 106 = .ok (.ireturn, 1) := by decide +kernel
theorem dX8_air_107 : decode cX8_air 107 = .ok (.aload_n 0, 1) := by decide +kernel
theorem dX8_air_108 : decode cX8_air 108 = .ok (.getfield 111, 3) := by decide +kernel
theorem dX8_air_111 : decode cX8_air 111 = .ok (.iload_n 1, 1) := by decide +kernel
theorem dX8_air_112 : decode cX8_air 112 = .ok (.iaload, 1) := by decide +kernel
theorem dX8_air_113 : decode cX8_air 113 = .ok (.ireturn, 1) := by decide +kernel
theorem dX8_air_114 : decode cX8_air 114 = .ok (.aload_n 0, 1) := by decide +kernel
theorem dX8_air_115 : decode cX8_air 115 = .ok (.getfield 114, 3) := by decide +kernel
theorem dX8_air_118 : decode cX8_air 118 = .ok (.iload_n 1, 1) := by decide +kernel
theorem dX8_air_119 : decode cX8_air 119 = .ok (.iaload, 1) := by decide +kernel
theorem dX8_air_120 : decode cX8_air 120 = .ok (.ireturn, 1) := by decide +kernel
theorem dX8_air_121 : decode cX8_air 121 = .ok (.aload_n 0, 1) := by decide +kernel
theorem dX8_air_122 : decode cX8_air 122 = .ok (.getfield 93, 3) := by decide +kernel
theorem dX8_air_125 : decode cX8_air 125 = .ok (.iload_n 1, 1) := by decide +kernel
theorem dX8_air_126 : decode cX8_air 126 = .ok (.baload, 1) := by decide +kernel
theorem dX8_air_127 : decode cX8_air 127 = .ok (.ifCond .eq 12, 3) := by decide +kernel
theorem dX8_air_130 : decode cX8_air 130 = .ok (.aload_n 0, 1) := by decide +kernel
theorem dX8_air_131 : decode cX8_air 131 = .ok (.getfield 123, 3) := by decide +kernel
theorem dX8_air_134 : decode cX8_air 134 = .ok (.iload_n 1, 1) := by decide +kernel
theorem dX8_air_135 : decode cX8_air 135 = .ok (.iaload, 1) := by decide +kernel
theorem dX8_air_136 : decode cX8_air 136 = .ok (.goto 9, 3) := by decide +kernel
theorem dX8_air_139 : decode cX8_air 139 = .ok (.aload_n 0, 1) := by decide +kernel
theorem dX8_air_140 : decode cX8_air 140 = .ok (.getfield 117, 3) := by decide +kernel
theorem dX8_air_143 : decode cX8_air 143 = .ok (.iload_n 1, 1) := by decide +kernel
theorem dX8_air_144 : decode cX8_air 144 = .ok (.iaload, 1) := by decide +kernel
theorem dX8_air_145 : decode cX8_air 145 = .ok (.ireturn, 1) := by decide +kernel
theorem dX8_air_146 : decode cX8_air 146 = .ok (.aload_n 0, 1) := by decide +kernel
theorem dX8_air_147 : decode cX8_air 147 = .ok (.getfield 108, 3) := by decide +kernel
theorem dX8_air_150 : decode cX8_air 150 = .ok (.iload_n 1, 1) := by decide +kernel
theorem dX8_air_151 : decode cX8_air 151 = .ok (.iaload, 1) := by decide +kernel
theorem dX8_air_152 : decode cX8_air 152 = .ok (.ireturn, 1) := by decide +kernel
theorem dX8_air_153 : decode cX8_air 153 = .ok (.iconst (-1), 1) := by decide +kernel
theorem dX8_air_154 : decode cX8_air 154 = .ok (.ireturn, 1) := by decide +kernel
