theorem dX9_byteAt_0 : decode cX9_byteAt 0 = .ok (.iload_n 1, 1) := by decide +kernel
theorem dX9_byteAt_1 : decode cX9_byteAt 1 = .ok (.aload_n 0, 1) := by decide +kernel
theorem dX9_byteAt_2 : decode cX9_byteAt 2 = .ok (.getfield 156, 3) := by decide +kernel
theorem dX9_byteAt_5 : decode cX9_byteAt 5 = .ok (.if_icmp .ge 12, 3) := by decide +kernel
theorem dX9_byteAt_8 : decode cX9_byteAt 8 = .ok (.aload_n 0, 1) := by decide +kernel
theorem dX9_byteAt_9 : decode cX9_byteAt 9 = .ok (.getfield 55, 3) := by decide +kernel
theorem dX9_byteAt_12 : decode cX9_byteAt 12 = .ok (.iload_n 1, 1) := by decide +kernel
theorem dX9_byteAt_13 : decode cX9_byteAt 13 = .ok (.iaload, 1) := by decide +kernel
theorem dX9_byteAt_14 : decode cX9_byteAt 14 = .ok (.goto 4, 3) := by decide +kernel
theorem dX9_byteAt_17 : decode cX9_byteAt 17 = .ok (.iconst (-1), 1) := by decide +kernel
theorem dX9_byteAt_18 : decode cX9_byteAt 18 = .ok (.ireturn, 1) := by decide +kernel
theorem dX9_next_0 : decode cX9_next 0 = .ok (.aload_n 0, 1) := by decide +kernel
theorem dX9_next_1 : decode cX9_next 1 = .ok (.aload_n 0, 1) := by decide +kernel
theorem dX9_next_2 : decode cX9_next 2 = .ok (.getfield 159, 3) := by decide +kernel
theorem dX9_next_5 : decode cX9_next 5 = .ok (.invokevirtual 162, 3) := by decide +kernel
theorem dX9_next_8 : decode cX9_next 8 = .ok (.bipush 32, 2) := by decide +kernel
theorem dX9_next_10 : decode cX9_next 10 = .ok (.if_icmp .eq 16, 3) := by decide +kernel
theorem dX9_next_13 : decode cX9_next 13 = .ok (.aload_n 0, 1) := by decide +kernel
theorem dX9_next_14 : decode cX9_next 14 = .ok (.aload_n 0, 1) := by decide +kernel
theorem dX9_next_15 : decode cX9_next 15 = .ok (.getfield 159, 3) := by decide +kernel
theorem dX9_next_18 : decode cX9_next 18 = .ok (.invokevirtual 162, 3) := by decide +kernel
theorem dX9_next_21 : decode cX9_next 21 = .ok (.bipush 10, 2) := by decide +kernel
theorem dX9_next_23 : decode cX9_next 23 = .ok (.if_icmp .ne 16, 3) := by decide +kernel
theorem dX9_next_26 : decode cX9_next 26 = .ok (.aload_n 0, 1) := by decide +kernel
theorem dX9_next_27 : decode cX9_next 27 = .ok (.dup, 1) := by decide +kernel
theorem dX9_next_28 : decode cX9_next 28 = .ok (.getfield 159, 3) := by decide +kernel
theorem dX9_next_31 : decode cX9_next 31 = .ok (.iconst 1, 1) := by decide +kernel
theorem dX9_next_32 : decode cX9_next 32 = .ok (.iadd, 1) := by decide +kernel
theorem dX9_next_33 : decode cX9_next 33 = .ok (.putfield 159, 3) := by decide +kernel
theorem dX9_next_36 : decode cX9_next 36 = .ok (.goto (-36), 3) := by decide +kernel
theorem dX9_next_39 : decode cX9_next 39 = .ok (.aload_n 0, 1) := by decide +kernel
theorem dX9_next_40 : decode cX9_next 40 = .ok (.aload_n 0, 1) := by decide +kernel
theorem dX9_next_41 : decode cX9_next 41 = .ok (.getfield 159, 3) := by decide +kernel
theorem dX9_next_44 : decode cX9_next 44 = .ok (.putfield 166, 3) := by decide +kernel
theorem dX9_next_47 : decode cX9_next 47 = .ok (.aload_n 0, 1) := by decide +kernel
theorem dX9_next_48 : decode cX9_next 48 = .ok (.aload_n 0, 1) := by decide +kernel
theorem dX9_next_49 : decode cX9_next 49 = .ok (.getfield 166, 3) := by decide +kernel
theorem dX9_next_52 : decode cX9_next 52 = .ok (.invokevirtual 162, 3) := by decide +kernel
theorem dX9_next_55 : decode cX9_next 55 = .ok (.istore_n 1, 1) := by decide +kernel
theorem dX9_next_56 : decode cX9_next 56 = .ok (.aload_n 0, 1) := by decide +kernel
theorem dX9_next_57 : decode cX9_next 57 = .ok (.iconst 0, 1) := by decide +kernel
theorem dX9_next_58 : decode cX9_next 58 = .ok (.putfield 169, 3) := by decide +kernel
theorem dX9_next_61 : decode cX9_next 61 = .ok (.iload_n 1, 1) := by decide +kernel
theorem dX9_next_62 : decode cX9_next 62 = .ok (.iconst (-1), 1) := by decide +kernel
theorem dX9_next_63 : decode cX9_next 63 = .ok (.if_icmp .ne 11, 3) := by decide +kernel
theorem dX9_next_66 : decode cX9_next 66 = .ok (.aload_n 0, 1) := by decide +kernel
theorem dX9_next_67 : decode cX9_next 67 = .ok (.iconst 0, 1) := by decide +kernel
theorem dX9_next_68 : decode cX9_next 68 = .ok (.putfield 172, 3) := by decide +kernel
theorem dX9_next_71 : decode cX9_next 71 = .ok (.goto 254, 3) := by decide +kernel
theorem dX9_next_74 : decode cX9_next 74 = .ok (.iload_n 1, 1) := by decide +kernel
theorem dX9_next_75 : decode cX9_next 75 = .ok (.invokestatic 175, 3) := by decide +kernel
theorem dX9_next_78 : decode cX9_next 78 = .ok (.ifCond .eq 97, 3) := by decide +kernel
theorem dX9_next_81 : decode cX9_next 81 = .ok (.aload_n 0, 1) := by decide +kernel
theorem dX9_next_82 : decode cX9_next 82 = .ok (.aload_n 0, 1) := by decide +kernel
theorem dX9_next_83 : decode cX9_next 83 = .ok (.getfield 159, 3) := by decide +kernel
theorem dX9_next_86 : decode cX9_next 86 = .ok (.invokevirtual 162, 3) := by decide +kernel
theorem dX9_next_89 : decode cX9_next 89 = .ok (.invokestatic 175, 3) := by decide +kernel
theorem dX9_next_92 : decode cX9_next 92 = .ok (.ifCond .eq 57, 3) := by decide +kernel
theorem dX9_next_95 : decode cX9_next 95 = .ok (.aload_n 0, 1) := by decide +kernel
theorem dX9_next_96 : decode cX9_next 96 = .ok (.aload_n 0, 1) := by decide +kernel
theorem dX9_next_97 : decode cX9_next 97 = .ok (.getfield 159, 3) := by decide +kernel
theorem dX9_next_100 : decode cX9_next 100 = .ok (.aload_n 0, 1) := by decide +kernel
theorem dX9_next_101 : decode cX9_next 101 = .ok (.getfield 166, 3) := by decide +kernel
theorem dX9_next_104 : decode cX9_next 104 = .ok (.isub, 1) := by decide +kernel
theorem dX9_next_105 : decode cX9_next 105 = .ok (.bipush 6, 2) := by decide +kernel
theorem dX9_next_107 : decode cX9_next 107 = .ok (.if_icmp .ge 25, 3) := by decide +kernel
theorem dX9_next_110 : decode cX9_next 110 = .ok (.aload_n 0, 1) := by decide +kernel
theorem dX9_next_111 : decode cX9_next 111 = .ok (.getfield 169, 3) := by decide +kernel
theorem dX9_next_114 : decode cX9_next 114 = .ok (.bipush 32, 2) := by decide +kernel
theorem dX9_next_116 : decode cX9_next 116 = .ok (.imul, 1) := by decide +kernel
theorem dX9_next_117 : decode cX9_next 117 = .ok (.aload_n 0, 1) := by decide +kernel
theorem dX9_next_118 : decode cX9_next 118 = .ok (.aload_n 0, 1) := by decide +kernel
theorem dX9_next_119 : decode cX9_next 119 = .ok (.getfield 159, 3) := by decide +kernel
theorem dX9_next_122 : decode cX9_next 122 = .ok (.invokevirtual 162, 3) := by decide +kernel
theorem dX9_next_125 : decode cX9_next 125 = .ok (.iadd, 1) := by decide +kernel
theorem dX9_next_126 : decode cX9_next 126 = .ok (.bipush 96, 2) := by decide +kernel
theorem dX9_next_128 : decode cX9_next 128 = .ok (.isub, 1) := by decide +kernel
theorem dX9_next_129 : decode cX9_next 129 = .ok (.goto 4, 3) := by decide +kernel
theorem dX9_next_132 : decode cX9_next 132 = .ok (.iconst (-1), 1) := by decide +kernel
theorem dX9_next_133 : decode cX9_next 133 = .ok (.putfield 169, 3) := by decide +kernel
theorem dX9_next_136 : decode cX9_next 136 = .ok (.aload_n 0, 1) := by decide +kernel
theorem dX9_next_137 : decode cX9_next 137 = .ok (.dup, 1) := by decide +kernel
theorem dX9_next_138 : decode cX9_next 138 = .ok (.getfield 159, 3) := by decide +kernel
theorem dX9_next_141 : decode cX9_next 141 = .ok (.iconst 1, 1) := by decide +kernel
theorem dX9_next_142 : decode cX9_next 142 = .ok (.iadd, 1) := by decide +kernel
theorem dX9_next_143 : decode cX9_next 143 = .ok (.putfield 159, 3) := by decide +kernel
theorem dX9_next_146 : decode cX9_next 146 = .ok (.goto (-65), 3) := by decide +kernel
theorem dX9_next_149 : decode cX9_next 149 = .ok (.aload_n 0, 1) := by decide +kernel
theorem dX9_next_150 : decode cX9_next 150 = .ok (.aload_n 0, 1) := by decide +kernel
theorem dX9_next_151 : decode cX9_next 151 = .ok (.getfield 159, 3) := by decide +kernel
theorem dX9_next_154 : decode cX9_next 154 = .ok (.aload_n 0, 1) := by decide +kernel
theorem dX9_next_155 : decode cX9_next 155 = .ok (.getfield 166, 3) := by decide +kernel
theorem dX9_next_158 : decode cX9_next 158 = .ok (.isub, 1) := by decide +kernel
theorem dX9_next_159 : decode cX9_next 159 = .ok (.bipush 6, 2) := by decide +kernel
theorem dX9_next_161 : decode cX9_next 161 = .ok (.if_icmp .le 7, 3) := by decide +kernel
theorem dX9_next_164 : decode cX9_next 164 = .ok (.iconst 4, 1) := by decide +kernel
theorem dX9_next_165 : decode cX9_next 165 = .ok (.goto 4, 3) := by decide +kernel
theorem dX9_next_168 : decode cX9_next 168 = .ok (.iconst 1, 1) := by decide +kernel
theorem dX9_next_169 : decode cX9_next 169 = .ok (.putfield 172, 3) := by decide +kernel
theorem dX9_next_172 : decode cX9_next 172 = .ok (.goto 153, 3) := by decide +kernel
theorem dX9_next_175 : decode cX9_next 175 = .ok (.iload_n 1, 1) := by decide +kernel
theorem dX9_next_176 : decode cX9_next 176 = .ok (.invokestatic 179, 3) := by decide +kernel
theorem dX9_next_179 : decode cX9_next 179 = .ok (.ifCond .eq 98, 3) := by decide +kernel
theorem dX9_next_182 : decode cX9_next 182 = .ok (.aload_n 0, 1) := by decide +kernel
theorem dX9_next_183 : decode cX9_next 183 = .ok (.aload_n 0, 1) := by decide +kernel
theorem dX9_next_184 : decode cX9_next 184 = .ok (.getfield 159, 3) := by decide +kernel
theorem dX9_next_187 : decode cX9_next 187 = .ok (.invokevirtual 162, 3) := by decide +kernel
theorem dX9_next_190 : decode cX9_next 190 = .ok (.invokestatic 179, 3) := by decide +kernel
theorem dX9_next_193 : decode cX9_next 193 = .ok (.ifCond .eq 45, 3) := by decide +kernel
theorem dX9_next_196 : decode cX9_next 196 = .ok (.aload_n 0, 1) := by decide +kernel
theorem dX9_next_197 : decode cX9_next 197 = .ok (.sipush 10000, 3) := by decide +kernel
theorem dX9_next_200 : decode cX9_next 200 = .ok (.aload_n 0, 1) := by decide +kernel
theorem dX9_next_201 : decode cX9_next 201 = .ok (.getfield 169, 3) := by decide +kernel
theorem dX9_next_204 : decode cX9_next 204 = .ok (.bipush 10, 2) := by decide +kernel
theorem dX9_next_206 : decode cX9_next 206 = .ok (.imul, 1) := by decide +kernel
theorem dX9_next_207 : decode cX9_next 207 = .ok (.aload_n 0, 1) := by decide +kernel
theorem dX9_next_208 : decode cX9_next 208 = .ok (.aload_n 0, 1) := by decide +kernel
theorem dX9_next_209 : decode cX9_next 209 = .ok (.getfield 159, 3) := by decide +kernel
theorem dX9_next_212 : decode cX9_next 212 = .ok (.invokevirtual 162, 3) := by decide +kernel
theorem dX9_next_215 : decode cX9_next 215 = .ok (.iadd, 1) := by decide +kernel
theorem dX9_next_216 : decode cX9_next 216 = .ok (.bipush 48, 2) := by decide +kernel
theorem dX9_next_218 : decode cX9_next 218 = .ok (.isub, 1) := by decide +kernel
theorem dX9_next_219 : decode cX9_next 219 = .ok (.invokestatic 182, 3) := by decide +kernel
theorem dX9_next_222 : decode cX9_next 222 = .ok (.putfield 169, 3) := by decide +kernel
theorem dX9_next_225 : decode cX9_next 225 = .ok (.aload_n 0, 1) := by decide +kernel
theorem dX9_next_226 : decode cX9_next 226 = .ok (.dup, 1) := by decide +kernel
theorem dX9_next_227 : decode cX9_next 227 = .ok (.getfield 159, 3) := by decide +kernel
theorem dX9_next_230 : decode cX9_next 230 = .ok (.iconst 1, 1) := by decide +kernel
theorem dX9_next_231 : decode cX9_next 231 = .ok (.iadd, 1) := by decide +kernel
theorem dX9_next_232 : decode cX9_next 232 = .ok (.putfield 159, 3) := by decide +kernel
theorem dX9_next_235 : decode cX9_next 235 = .ok (.goto (-53), 3) := by decide +kernel
theorem dX9_next_238 : decode cX9_next 238 = .ok (.aload_n 0, 1) := by decide +kernel
theorem dX9_next_239 : decode cX9_next 239 = .ok (.aload_n 0, 1) := by decide +kernel
theorem dX9_next_240 : decode cX9_next 240 = .ok (.getfield 159, 3) := by decide +kernel
theorem dX9_next_243 : decode cX9_next 243 = .ok (.aload_n 0, 1) := by decide +kernel
theorem dX9_next_244 : decode cX9_next 244 = .ok (.getfield 166, 3) := by decide +kernel
theorem dX9_next_247 : decode cX9_next 247 = .ok (.isub, 1) := by decide +kernel
theorem dX9_next_248 : decode cX9_next 248 = .ok (.iconst 3, 1) := by decide +kernel
theorem dX9_next_249 : decode cX9_next 249 = .ok (.if_icmp .gt 17, 3) := by decide +kernel
theorem dX9_next_252 : decode cX9_next 252 = .ok (.aload_n 0, 1) := by decide +kernel
theorem dX9_next_253 : decode cX9_next 253 = .ok (.aload_n 0, 1) := by decide +kernel
theorem dX9_next_254 : decode cX9_next 254 = .ok (.getfield 159, 3) := by decide +kernel
theorem dX9_next_257 : decode cX9_next 257 = .ok (.invokevirtual 162, 3) := by decide +kernel
theorem dX9_next_260 : decode cX9_next 260 = .ok (.invokestatic 175, 3) := by decide +kernel
theorem dX9_next_263 : decode cX9_next 263 = .ok (.ifCond .eq 7, 3) := by decide +kernel
theorem dX9_next_266 : decode cX9_next 266 = .ok (.iconst 4, 1) := by decide +kernel
theorem dX9_next_267 : decode cX9_next 267 = .ok (.goto 4, 3) := by decide +kernel
theorem dX9_next_270 : decode cX9_next 270 = .ok (.iconst 2, 1) := by decide +kernel
theorem dX9_next_271 : decode cX9_next 271 = .ok (.putfield 172, 3) := by decide +kernel
theorem dX9_next_274 : decode cX9_next 274 = .ok (.goto 51, 3) := by decide +kernel
theorem dX9_next_277 : decode cX9_next 277 = .ok (.aload_n 0, 1) := by decide +kernel
theorem dX9_next_278 : decode cX9_next 278 = .ok (.dup, 1) := by decide +kernel
theorem dX9_next_279 : decode cX9_next 279 = .ok (.getfield 159, 3) := by decide +kernel
theorem dX9_next_282 : decode cX9_next 282 = .ok (.iconst 1, 1) := by decide +kernel
theorem dX9_next_283 : decode cX9_next 283 = .ok (.iadd, 1) := by decide +kernel
theorem dX9_next_284 : decode cX9_next 284 = .ok (.putfield 159, 3) := by decide +kernel
theorem dX9_next_287 : decode cX9_next 287 = .ok (.aload_n 0, 1) := by decide +kernel
theorem dX9_next_288 : decode cX9_next 288 = .ok (.iload_n 1, 1) := by decide +kernel
theorem dX9_next_289 : decode cX9_next 289 = .ok (.putfield 169, 3) := by decide +kernel
theorem dX9_next_292 : decode cX9_next 292 = .ok (.aload_n 0, 1) := by decide +kernel
theorem dX9_next_293 : decode cX9_next 293 = .ok (.iload_n 1, 1) := by decide +kernel
theorem dX9_next_294 : decode cX9_next 294 = .ok (.bipush 60, 2) := by decide +kernel
theorem dX9_next_296 : decode cX9_next 296 = .ok (.if_icmp .eq 21, 3) := by decide +kernel
theorem dX9_next_299 : decode cX9_next 299 = .ok (.iload_n 1, 1) := by decide +kernel
theorem dX9_next_300 : decode cX9_next 300 = .ok (.bipush 61, 2) := by decide +kernel
theorem dX9_next_302 : decode cX9_next 302 = .ok (.if_icmp .eq 15, 3) := by decide +kernel
theorem dX9_next_305 : decode cX9_next 305 = .ok (.iload_n 1, 1) := by decide +kernel
theorem dX9_next_306 : decode cX9_next 306 = .ok (.bipush 62, 2) := by decide +kernel
theorem dX9_next_308 : decode cX9_next 308 = .ok (.if_icmp .eq 9, 3) := by decide +kernel
theorem dX9_next_311 : decode cX9_next 311 = .ok (.iload_n 1, 1) := by decide +kernel
theorem dX9_next_312 : decode cX9_next 312 = .ok (.bipush 59, 2) := by decide +kernel
theorem dX9_next_314 : decode cX9_next 314 = .ok (.if_icmp .ne 7, 3) := by decide +kernel
theorem dX9_next_317 : decode cX9_next 317 = .ok (.iconst 3, 1) := by decide +kernel
theorem dX9_next_318 : decode cX9_next 318 = .ok (.goto 4, 3) := by decide +kernel
theorem dX9_next_321 : decode cX9_next 321 = .ok (.iconst 4, 1) := by decide +kernel
theorem dX9_next_322 : decode cX9_next 322 = .ok (.putfield 172, 3) := by decide +kernel
theorem dX9_next_325 : decode cX9_next 325 = .ok (.return_, 1) := by decide +kernel
