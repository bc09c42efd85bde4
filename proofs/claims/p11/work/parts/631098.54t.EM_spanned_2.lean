theorem dX9_spanned_0 : decode cX9_spanned 0 = .ok (.aload_n 0, 1) := by decide +kernel
theorem dX9_spanned_1 : decode cX9_spanned 1 = .ok (.invokevirtual 444, 3) := by decide +kernel
theorem dX9_spanned_4 : decode cX9_spanned 4 = .ok (.aload_n 0, 1) := by decide +kernel
theorem dX9_spanned_5 : decode cX9_spanned 5 = .ok (.getfield 435, 3) := by decide +kernel
theorem dX9_spanned_8 : decode cX9_spanned 8 = .ok (.ifCond .eq 5, 3) := by decide +kernel
theorem dX9_spanned_11 : decode cX9_spanned 11 = .ok (.iconst (-1), 1) := by decide +kernel
theorem dX9_spanned_12 : decode cX9_spanned 12 = .ok (.ireturn, 1) := by decide +kernel
theorem dX9_spanned_13 : decode cX9_spanned 13 = .ok (.aload_n 0, 1) := by decide +kernel
theorem dX9_spanned_14 : decode cX9_spanned 14 = .ok (.getfield 429, 3) := by decide +kernel
theorem dX9_spanned_17 : decode cX9_spanned 17 = .ok (.iconst 1, 1) := by decide +kernel
theorem dX9_spanned_18 : decode cX9_spanned 18 = .ok (.iadd, 1) := by decide +kernel
theorem dX9_spanned_19 : decode cX9_spanned 19 = .ok (.istore_n 2, 1) := by decide +kernel
theorem dX9_spanned_20 : decode cX9_spanned 20 = .ok (.iconst 0, 1) := by decide +kernel
theorem dX9_spanned_21 : decode cX9_spanned 21 = .ok (.istore_n 3, 1) := by decide +kernel
theorem dX9_spanned_22 : decode cX9_spanned 22 = .ok (.iload_n 3, 1) := by decide +kernel
theorem dX9_spanned_23 : decode cX9_spanned 23 = .ok (.iload_n 2, 1) := by decide +kernel
theorem dX9_spanned_24 : decode cX9_spanned 24 = .ok (.if_icmp .ge 48, 3) := by decide +kernel
theorem dX9_spanned_27 : decode cX9_spanned 27 = .ok (.iconst 0, 1) := by decide +kernel
theorem dX9_spanned_28 : decode cX9_spanned 28 = .ok (.istore 4, 2) := by decide +kernel
theorem dX9_spanned_30 : decode cX9_spanned 30 = .ok (.iload 4, 2) := by decide +kernel
theorem dX9_spanned_32 : decode cX9_spanned 32 = .ok (.iload_n 2, 1) := by decide +kernel
theorem dX9_spanned_33 : decode cX9_spanned 33 = .ok (.if_icmp .ge 33, 3) := by decide +kernel
theorem dX9_spanned_36 : decode cX9_spanned 36 = .ok (.aload_n 0, 1) := by decide +kernel
theorem dX9_spanned_37 : decode cX9_spanned 37 = .ok (.getfield 136, 3) := by decide +kernel
theorem dX9_spanned_40 : decode cX9_spanned 40 = .ok (.iload_n 2, 1) := by decide +kernel
theorem dX9_spanned_41 : decode cX9_spanned 41 = .ok (.iload_n 3, 1) := by decide +kernel
theorem dX9_spanned_42 : decode cX9_spanned 42 = .ok (.imul, 1) := by decide +kernel
theorem dX9_spanned_43 : decode cX9_spanned 43 = .ok (.iload 4, 2) := by decide +kernel
theorem dX9_spanned_45 : decode cX9_spanned 45 = .ok (.iadd, 1) := by decide +kernel
theorem dX9_spanned_46 : decode cX9_spanned 46 = .ok (.iload_n 3, 1) := by decide +kernel
theorem dX9_spanned_47 : decode cX9_spanned 47 = .ok (.iload 4, 2) := by decide +kernel
theorem dX9_spanned_49 : decode cX9_spanned 49 = .ok (.if_icmp .ne 7, 3) := by decide +kernel
theorem dX9_spanned_52 : decode cX9_spanned 52 = .ok (.iconst 1, 1) := by decide +kernel
theorem dX9_spanned_53 : decode cX9_spanned 53 = .ok (.goto 6, 3) := by decide +kernel
theorem dX9_spanned_56 : decode cX9_spanned 56 = .ok (.ldc_w 327, 3) := by decide +kernel
theorem dX9_spanned_59 : decode cX9_spanned 59 = .ok (.iastore, 1) := by decide +kernel
theorem dX9_spanned_60 : decode cX9_spanned 60 = .ok (.iinc 4 1, 3) := by decide +kernel
theorem dX9_spanned_63 : decode cX9_spanned 63 = .ok (.goto (-33), 3) := by decide +kernel
theorem dX9_spanned_66 : decode cX9_spanned 66 = .ok (.iinc 3 1, 3) := by decide +kernel
theorem dX9_spanned_69 : decode cX9_spanned 69 = .ok (.goto (-47), 3) := by decide +kernel
theorem dX9_spanned_72 : decode cX9_spanned 72 = .ok (.iconst 0, 1) := by decide +kernel
theorem dX9_spanned_73 : decode cX9_spanned 73 = .ok (.istore_n 3, 1) := by decide +kernel
theorem dX9_spanned_74 : decode cX9_spanned 74 = .ok (.iload_n 3, 1) := by decide +kernel
theorem dX9_spanned_75 : decode cX9_spanned 75 = .ok (.aload_n 0, 1) := by decide +kernel
theorem dX9_spanned_76 : decode cX9_spanned 76 = .ok (.getfield 432, 3) := by decide +kernel
theorem dX9_spanned_79 : decode cX9_spanned 79 = .ok (.if_icmp .ge 49, 3) := by decide +kernel
theorem dX9_spanned_82 : decode cX9_spanned 82 = .ok (.iload_n 2, 1) := by decide +kernel
theorem dX9_spanned_83 : decode cX9_spanned 83 = .ok (.aload_n 0, 1) := by decide +kernel
theorem dX9_spanned_84 : decode cX9_spanned 84 = .ok (.getfield 121, 3) := by decide +kernel
theorem dX9_spanned_87 : decode cX9_spanned 87 = .ok (.iload_n 3, 1) := by decide +kernel
theorem dX9_spanned_88 : decode cX9_spanned 88 = .ok (.iaload, 1) := by decide +kernel
theorem dX9_spanned_89 : decode cX9_spanned 89 = .ok (.imul, 1) := by decide +kernel
theorem dX9_spanned_90 : decode cX9_spanned 90 = .ok (.aload_n 0, 1) := by decide +kernel
theorem dX9_spanned_91 : decode cX9_spanned 91 = .ok (.getfield 124, 3) := by decide +kernel
theorem dX9_spanned_94 : decode cX9_spanned 94 = .ok (.iload_n 3, 1) := by decide +kernel
theorem dX9_spanned_95 : decode cX9_spanned 95 = .ok (.iaload, 1) := by decide +kernel
theorem dX9_spanned_96 : decode cX9_spanned 96 = .ok (.iadd, 1) := by decide +kernel
theorem dX9_spanned_97 : decode cX9_spanned 97 = .ok (.istore 4, 2) := by decide +kernel
theorem dX9_spanned_99 : decode cX9_spanned 99 = .ok (.aload_n 0, 1) := by decide +kernel
theorem dX9_spanned_100 : decode cX9_spanned 100 = .ok (.getfield 136, 3) := by decide +kernel
theorem dX9_spanned_103 : decode cX9_spanned 103 = .ok (.iload 4, 2) := by decide +kernel
theorem dX9_spanned_105 : decode cX9_spanned 105 = .ok (.aload_n 0, 1) := by decide +kernel
theorem dX9_spanned_106 : decode cX9_spanned 106 = .ok (.getfield 136, 3) := by decide +kernel
theorem dX9_spanned_109 : decode cX9_spanned 109 = .ok (.iload 4, 2) := by decide +kernel
theorem dX9_spanned_111 : decode cX9_spanned 111 = .ok (.iaload, 1) := by decide +kernel
theorem dX9_spanned_112 : decode cX9_spanned 112 = .ok (.aload_n 0, 1) := by decide +kernel
theorem dX9_spanned_113 : decode cX9_spanned 113 = .ok (.getfield 127, 3) := by decide +kernel
theorem dX9_spanned_116 : decode cX9_spanned 116 = .ok (.iload_n 3, 1) := by decide +kernel
theorem dX9_spanned_117 : decode cX9_spanned 117 = .ok (.iaload, 1) := by decide +kernel
theorem dX9_spanned_118 : decode cX9_spanned 118 = .ok (.invokestatic 182, 3) := by decide +kernel
theorem dX9_spanned_121 : decode cX9_spanned 121 = .ok (.iastore, 1) := by decide +kernel
theorem dX9_spanned_122 : decode cX9_spanned 122 = .ok (.iinc 3 1, 3) := by decide +kernel
theorem dX9_spanned_125 : decode cX9_spanned 125 = .ok (.goto (-51), 3) := by decide +kernel
theorem dX9_spanned_128 : decode cX9_spanned 128 = .ok (.iconst 0, 1) := by decide +kernel
theorem dX9_spanned_129 : decode cX9_spanned 129 = .ok (.istore_n 3, 1) := by decide +kernel
theorem dX9_spanned_130 : decode cX9_spanned 130 = .ok (.iload_n 3, 1) := by decide +kernel
theorem dX9_spanned_131 : decode cX9_spanned 131 = .ok (.iload_n 2, 1) := by decide +kernel
theorem dX9_spanned_132 : decode cX9_spanned 132 = .ok (.if_icmp .ge 136, 3) := by decide +kernel
theorem dX9_spanned_135 : decode cX9_spanned 135 = .ok (.iconst 0, 1) := by decide +kernel
theorem dX9_spanned_136 : decode cX9_spanned 136 = .ok (.istore 4, 2) := by decide +kernel
theorem dX9_spanned_138 : decode cX9_spanned 138 = .ok (.iload 4, 2) := by decide +kernel
theorem dX9_spanned_140 : decode cX9_spanned 140 = .ok (.iload_n 2, 1) := by decide +kernel
theorem dX9_spanned_141 : decode cX9_spanned 141 = .ok (.if_icmp .ge 88, 3) := by decide +kernel
theorem dX9_spanned_144 : decode cX9_spanned 144 = .ok (.aload_n 0, 1) := by decide +kernel
theorem dX9_spanned_145 : decode cX9_spanned 145 = .ok (.getfield 136, 3) := by decide +kernel
theorem dX9_spanned_148 : decode cX9_spanned 148 = .ok (.iload_n 2, 1) := by decide +kernel
theorem dX9_spanned_149 : decode cX9_spanned 149 = .ok (.iload 4, 2) := by decide +kernel
theorem dX9_spanned_151 : decode cX9_spanned 151 = .ok (.imul, 1) := by decide +kernel
theorem dX9_spanned_152 : decode cX9_spanned 152 = .ok (.iload_n 3, 1) := by decide +kernel
theorem dX9_spanned_153 : decode cX9_spanned 153 = .ok (.iadd, 1) := by decide +kernel
theorem dX9_spanned_154 : decode cX9_spanned 154 = .ok (.iaload, 1) := by decide +kernel
theorem dX9_spanned_155 : decode cX9_spanned 155 = .ok (.istore 5, 2) := by decide +kernel
theorem dX9_spanned_157 : decode cX9_spanned 157 = .ok (.iconst 0, 1) := by decide +kernel
theorem dX9_spanned_158 : decode cX9_spanned 158 = .ok (.istore 6, 2) := by decide +kernel
theorem dX9_spanned_160 : decode cX9_spanned 160 = .ok (.iload 5, 2) := by decide +kernel
theorem dX9_spanned_162 : decode cX9_spanned 162 = .ok (.ldc_w 327, 3) := by decide +kernel
theorem dX9_spanned_165 : decode cX9_spanned 165 = .ok (.if_icmp .ge 58, 3) := by decide +kernel
theorem dX9_spanned_168 : decode cX9_spanned 168 = .ok (.iload 6, 2) := by decide +kernel
theorem dX9_spanned_170 : decode cX9_spanned 170 = .ok (.iload_n 2, 1) := by decide +kernel
theorem dX9_spanned_171 : decode cX9_spanned 171 = .ok (.if_icmp .ge 52, 3) := by decide +kernel
theorem dX9_spanned_174 : decode cX9_spanned 174 = .ok (.aload_n 0, 1) := by decide +kernel
theorem dX9_spanned_175 : decode cX9_spanned 175 = .ok (.getfield 136, 3) := by decide +kernel
theorem dX9_spanned_178 : decode cX9_spanned 178 = .ok (.iload_n 2, 1) := by decide +kernel
theorem dX9_spanned_179 : decode cX9_spanned 179 = .ok (.iload 4, 2) := by decide +kernel
theorem dX9_spanned_181 : decode cX9_spanned 181 = .ok (.imul, 1) := by decide +kernel
theorem dX9_spanned_182 : decode cX9_spanned 182 = .ok (.iload 6, 2) := by decide +kernel
theorem dX9_spanned_184 : decode cX9_spanned 184 = .ok (.iadd, 1) := by decide +kernel
theorem dX9_spanned_185 : decode cX9_spanned 185 = .ok (.aload_n 0, 1) := by decide +kernel
theorem dX9_spanned_186 : decode cX9_spanned 186 = .ok (.getfield 136, 3) := by decide +kernel
theorem dX9_spanned_189 : decode cX9_spanned 189 = .ok (.iload_n 2, 1) := by decide +kernel
theorem dX9_spanned_190 : decode cX9_spanned 190 = .ok (.iload 4, 2) := by decide +kernel
theorem dX9_spanned_192 : decode cX9_spanned 192 = .ok (.imul, 1) := by decide +kernel
theorem dX9_spanned_193 : decode cX9_spanned 193 = .ok (.iload 6, 2) := by decide +kernel
theorem dX9_spanned_195 : decode cX9_spanned 195 = .ok (.iadd, 1) := by decide +kernel
theorem dX9_spanned_196 : decode cX9_spanned 196 = .ok (.iaload, 1) := by decide +kernel
theorem dX9_spanned_197 : decode cX9_spanned 197 = .ok (.iload 5, 2) := by decide +kernel
theorem dX9_spanned_199 : decode cX9_spanned 199 = .ok (.aload_n 0, 1) := by decide +kernel
theorem dX9_spanned_200 : decode cX9_spanned 200 = .ok (.getfield 136, 3) := by decide +kernel
theorem dX9_spanned_203 : decode cX9_spanned 203 = .ok (.iload_n 2, 1) := by decide +kernel
theorem dX9_spanned_204 : decode cX9_spanned 204 = .ok (.iload_n 3, 1) := by decide +kernel
theorem dX9_spanned_205 : decode cX9_spanned 205 = .ok (.imul, 1) := by decide +kernel
theorem dX9_spanned_206 : decode cX9_spanned 206 = .ok (.iload 6, 2) := by decide +kernel
theorem dX9_spanned_208 : decode cX9_spanned 208 = .ok (.iadd, 1) := by decide +kernel
theorem dX9_spanned_209 : decode cX9_spanned 209 = .ok (.iaload, 1) := by decide +kernel
theorem dX9_spanned_210 : decode cX9_spanned 210 = .ok (.invokestatic 331, 3) := by decide +kernel
theorem dX9_spanned_213 : decode cX9_spanned 213 = .ok (.invokestatic 182, 3) := by decide +kernel
theorem dX9_spanned_216 : decode cX9_spanned 216 = .ok (.iastore, 1) := by decide +kernel
theorem dX9_spanned_217 : decode cX9_spanned 217 = .ok (.iinc 6 1, 3) := by decide +kernel
theorem dX9_spanned_220 : decode cX9_spanned 220 = .ok (.goto (-60), 3) := by decide +kernel
theorem dX9_spanned_223 : decode cX9_spanned 223 = .ok (.iinc 4 1, 3) := by decide +kernel
theorem dX9_spanned_226 : decode cX9_spanned 226 = .ok (.goto (-88), 3) := by decide +kernel
theorem dX9_spanned_229 : decode cX9_spanned 229 = .ok (.iconst 0, 1) := by decide +kernel
theorem dX9_spanned_230 : decode cX9_spanned 230 = .ok (.istore 4, 2) := by decide +kernel
theorem dX9_spanned_232 : decode cX9_spanned 232 = .ok (.iload 4, 2) := by decide +kernel
theorem dX9_spanned_234 : decode cX9_spanned 234 = .ok (.iload_n 2, 1) := by decide +kernel
theorem dX9_spanned_235 : decode cX9_spanned 235 = .ok (.if_icmp .ge 27, 3) := by decide +kernel
theorem dX9_spanned_238 : decode cX9_spanned 238 = .ok (.aload_n 0, 1) := by decide +kernel
theorem dX9_spanned_239 : decode cX9_spanned 239 = .ok (.getfield 136, 3) := by decide +kernel
theorem dX9_spanned_242 : decode cX9_spanned 242 = .ok (.iload_n 2, 1) := by decide +kernel
theorem dX9_spanned_243 : decode cX9_spanned 243 = .ok (.iload 4, 2) := by decide +kernel
theorem dX9_spanned_245 : decode cX9_spanned 245 = .ok (.imul, 1) := by decide +kernel
theorem dX9_spanned_246 : decode cX9_spanned 246 = .ok (.iload 4, 2) := by decide +kernel
theorem dX9_spanned_248 : decode cX9_spanned 248 = .ok (.iadd, 1) := by decide +kernel
theorem dX9_spanned_249 : decode cX9_spanned 249 = .ok (.iaload, 1) := by decide +kernel
theorem dX9_spanned_250 : decode cX9_spanned 250 = .ok (.iconst 1, 1) := by decide +kernel
theorem dX9_spanned_251 : decode cX9_spanned 251 = .ok (.if_icmp .ge 5, 3) := by decide +kernel
theorem dX9_spanned_254 : decode cX9_spanned 254 = .ok (.iconst (-1), 1) := by decide +kernel
theorem dX9_spanned_255 : decode cX9_spanned 255 = .ok (.ireturn, 1) := by decide +kernel
theorem dX9_spanned_256 : decode cX9_spanned 256 = .ok (.iinc 4 1, 3) := by decide +kernel
theorem dX9_spanned_259 : decode cX9_spanned 259 = .ok (.goto (-27), 3) := by decide +kernel
theorem dX9_spanned_262 : decode cX9_spanned 262 = .ok (.iinc 3 1, 3) := by decide +kernel
theorem dX9_spanned_265 : decode cX9_spanned 265 = .ok (.goto (-135), 3) := by decide +kernel
theorem dX9_spanned_268 : decode cX9_spanned 268 = .ok (.aload_n 0, 1) := by decide +kernel
theorem dX9_spanned_269 : decode cX9_spanned 269 = .ok (.getfield 136, 3) := by decide +kernel
theorem dX9_spanned_272 : decode cX9_spanned 272 = .ok (.aload_n 0, 1) := by decide +kernel
theorem dX9_spanned_273 : decode cX9_spanned 273 = .ok (.getfield 429, 3) := by decide +kernel
theorem dX9_spanned_276 : decode cX9_spanned 276 = .ok (.iaload, 1) := by decide +kernel
theorem dX9_spanned_277 : decode cX9_spanned 277 = .ok (.istore_n 3, 1) := by decide +kernel
theorem dX9_spanned_278 : decode cX9_spanned 278 = .ok (.aload_n 0, 1) := by decide +kernel
theorem dX9_spanned_279 : decode cX9_spanned 279 = .ok (.getfield 136, 3) := by decide +kernel
theorem dX9_spanned_282 : decode cX9_spanned 282 = .ok (.iload_n 2, 1) := by decide +kernel
theorem dX9_spanned_283 : decode cX9_spanned 283 = .ok (.aload_n 0, 1) := by decide +kernel
theorem dX9_spanned_284 : decode cX9_spanned 284 = .ok (.getfield 429, 3) := by decide +kernel
theorem dX9_spanned_287 : decode cX9_spanned 287 = .ok (.imul, 1) := by decide +kernel
theorem dX9_spanned_288 : decode cX9_spanned 288 = .ok (.iaload, 1) := by decide +kernel
theorem dX9_spanned_289 : decode cX9_spanned 289 = .ok (.istore 4, 2) := by decide +kernel
theorem dX9_spanned_291 : decode cX9_spanned 291 = .ok (.iload_n 1, 1) := by decide +kernel
theorem dX9_spanned_292 : decode cX9_spanned 292 = .ok (.tableswitch 56 0 2 #[28, 33, 37], 28) := by decide +kernel
theorem dX9_spanned_320 : decode cX9_spanned 320 = .ok (.iload_n 3, 1) := by decide +kernel
theorem dX9_spanned_321 : decode cX9_spanned 321 = .ok (.iconst 1, 1) := by decide +kernel
theorem dX9_spanned_322 : decode cX9_spanned 322 = .ok (.ishr, 1) := by decide +kernel
theorem dX9_spanned_323 : decode cX9_spanned 323 = .ok (.ineg, 1) := by decide +kernel
theorem dX9_spanned_324 : decode cX9_spanned 324 = .ok (.ireturn, 1) := by decide +kernel
theorem dX9_spanned_325 : decode cX9_spanned 325 = .ok (.iload_n 3, 1) := by decide +kernel
theorem dX9_spanned_326 : decode cX9_spanned 326 = .ok (.iconst 1, 1) := by decide +kernel
theorem dX9_spanned_327 : decode cX9_spanned 327 = .ok (.iand, 1) := by decide +kernel
theorem dX9_spanned_328 : decode cX9_spanned 328 = .ok (.ireturn, 1) := by decide +kernel
theorem dX9_spanned_329 : decode cX9_spanned 329 = .ok (.iload 4, 2) := by decide +kernel
theorem dX9_spanned_331 : decode cX9_spanned 331 = .ok (.ldc_w 327, 3) := by decide +kernel
theorem dX9_spanned_334 : decode cX9_spanned 334 = .ok (.if_icmp .lt 9, 3) := by decide +kernel
theorem dX9_spanned_337 : decode cX9_spanned 337 = .ok (.ldc_w 398, 3) := by decide +kernel
theorem dX9_spanned_340 : decode cX9_spanned 340 = .ok (.goto 7, 3) := by decide +kernel
theorem dX9_spanned_343 : decode cX9_spanned 343 = .ok (.iload 4, 2) := by decide +kernel
theorem dX9_spanned_345 : decode cX9_spanned 345 = .ok (.iconst 1, 1) := by decide +kernel
theorem dX9_spanned_346 : decode cX9_spanned 346 = .ok (.ishr, 1) := by decide +kernel
theorem dX9_spanned_347 : decode cX9_spanned 347 = .ok (.ireturn, 1) := by decide +kernel
theorem dX9_spanned_348 : decode cX9_spanned 348 = .ok (.iload 4, 2) := by decide +kernel
theorem dX9_spanned_350 : decode cX9_spanned 350 = .ok (.ldc_w 327, 3) := by decide +kernel
theorem dX9_spanned_353 : decode cX9_spanned 353 = .ok (.if_icmp .lt 7, 3) := by decide +kernel
theorem dX9_spanned_356 : decode cX9_spanned 356 = .ok (.iconst 0, 1) := by decide +kernel
theorem dX9_spanned_357 : decode cX9_spanned 357 = .ok (.goto 7, 3) := by decide +kernel
theorem dX9_spanned_360 : decode cX9_spanned 360 = .ok (.iload 4, 2) := by decide +kernel
theorem dX9_spanned_362 : decode cX9_spanned 362 = .ok (.iconst 1, 1) := by decide +kernel
theorem dX9_spanned_363 : decode cX9_spanned 363 = .ok (.iand, 1) := by decide +kernel
theorem dX9_spanned_364 : decode cX9_spanned 364 = .ok (.ireturn, 1) := by decide +kernel
abbrev vs_EM_spanned : List Cond := .code yX9_spanned cX9_spanned 7 (some .int) :: VM
theorem g_EM_spanned_EM_layGaps : GoodIn vs_EM_spanned (wsV RX9 444 RX9 yX9_layGaps vs_EM_layGaps) := gm_V vm_319 vm_320 vm_321 vm_19 vm_322
theorem g_EM_spanned_EM_together : GoodIn vs_EM_spanned (va_wsS RX9 331 yX9_together vs_EM_together) := gm_S vm_193 vm_194 vm_19 vm_195
theorem g_EM_spanned_EM_lesser : GoodIn vs_EM_spanned (va_wsS RX9 182 yX9_lesser vs_EM_lesser) := gm_S vm_59 vm_60 vm_19 vm_61
noncomputable def sp_EM_spanned_L1 (x61 : Nat) (z55_2 : Nat → Nat) (z56_3 : Nat → Nat) (z57_4 : Nat → Int32) (z58_5 : Nat → Nat) (z62_6 : Nat) (z63_7 : Nat) (g_35 : Nat) (g_58 : Nat → Int32) : (Nat) → (Nat) ⊕ (((Nat → Int32) × Nat) ⊕ (Int32 × (Nat → Nat) × (Nat → Nat) × (Nat → Int32) × (Nat → Nat) × (Nat → Int32) × Nat × Nat)) := fun g_68 => (if (x61 + 1) ≤ g_68 then (Sum.inr (Sum.inl (g_58, (g_35 + 1)))) else (slet (g_58 (((x61 + 1) * g_68) + g_68)) (fun y_78 => (if (1 : Int32) ≤ y_78 then (Sum.inl (g_68 + 1)) else (Sum.inr (Sum.inr ((-1), z55_2, z56_3, z57_4, z58_5, g_58, z62_6, z63_7)))))))
noncomputable def sp_EM_spanned_L2 (x61 : Nat) (g_35 : Nat) (g_59 : Nat) (y_82 : Int32) : ((Nat → Int32) × Nat) → ((Nat → Int32) × Nat) ⊕ (Nat × (Nat → Int32)) := fun (g_90, g_91) => (if (1048576 : Int32) ≤ y_82 then (Sum.inr (g_91, g_90)) else (if (x61 + 1) ≤ g_91 then (Sum.inr (g_91, g_90)) else (slet (g_90 (((x61 + 1) * g_59) + g_91)) (fun y_104 => (slet (g_90 (((x61 + 1) * g_35) + g_91)) (fun y_107 => (slet (sp_EM_together y_82 y_107) (fun r_108 => (slet (sp_EM_lesser y_104 r_108) (fun r_109 => (slet (upd g_90 (((x61 + 1) * g_59) + g_91) r_109) (fun f_110 => (Sum.inl (f_110, (g_91 + 1)))))))))))))))
noncomputable def sp_EM_spanned_L3 (x61 : Nat) (z55_2 : Nat → Nat) (z56_3 : Nat → Nat) (z57_4 : Nat → Int32) (z58_5 : Nat → Nat) (z62_6 : Nat) (z63_7 : Nat) (g_35 : Nat) : ((Nat → Int32) × Nat) → ((Nat → Int32) × Nat) ⊕ (((Nat → Int32) × Nat) ⊕ (Int32 × (Nat → Nat) × (Nat → Nat) × (Nat → Int32) × (Nat → Nat) × (Nat → Int32) × Nat × Nat)) := fun (g_58, g_59) => (if (x61 + 1) ≤ g_59 then (Sum.inr (itrv (α := Nat) (β := (((Nat → Int32) × Nat) ⊕ (Int32 × (Nat → Nat) × (Nat → Nat) × (Nat → Int32) × (Nat → Nat) × (Nat → Int32) × Nat × Nat))) (Sum.inr default) (sp_EM_spanned_L1 x61 z55_2 z56_3 z57_4 z58_5 z62_6 z63_7 g_35 g_58) 0)) else (slet (g_58 (((x61 + 1) * g_59) + g_35)) (fun y_82 => (slet (α := Nat × (Nat → Int32)) (itrv (α := (Nat → Int32) × Nat) (β := (Nat × (Nat → Int32))) default (sp_EM_spanned_L2 x61 g_35 g_59 y_82) (g_58, 0)) (fun (g_83, g_84) => (Sum.inl (g_84, (g_59 + 1))))))))
noncomputable def sp_EM_spanned_L4 (x61 : Nat) (p0 : Int32) (z55_2 : Nat → Nat) (z56_3 : Nat → Nat) (z57_4 : Nat → Int32) (z58_5 : Nat → Nat) (z62_6 : Nat) (z63_7 : Nat) : ((Nat → Int32) × Nat) → ((Nat → Int32) × Nat) ⊕ (Int32 × (Nat → Nat) × (Nat → Nat) × (Nat → Int32) × (Nat → Nat) × (Nat → Int32) × Nat × Nat) := fun (g_34, g_35) => (if (x61 + 1) ≤ g_35 then (Sum.inr (slet (g_34 x61) (fun y_43 => (slet (g_34 ((x61 + 1) * x61)) (fun y_45 => (if (p0 : Int32) = 0 then (slet ((y_43 : Int32) >>> ((1 : Int32) &&& 31)) (fun y_47 => (slet (-(y_47 : Int32)) (fun y_48 => (y_48, z55_2, z56_3, z57_4, z58_5, g_34, z62_6, z63_7))))) else (if (p0 : Int32) = 1 then (slet ((y_43 : Int32) &&& (1 : Int32)) (fun y_50 => (y_50, z55_2, z56_3, z57_4, z58_5, g_34, z62_6, z63_7))) else (if (p0 : Int32) = 2 then (if (y_45 : Int32) < 1048576 then (slet ((y_45 : Int32) >>> ((1 : Int32) &&& 31)) (fun y_53 => (y_53, z55_2, z56_3, z57_4, z58_5, g_34, z62_6, z63_7))) else (2147483647, z55_2, z56_3, z57_4, z58_5, g_34, z62_6, z63_7)) else (if (y_45 : Int32) < 1048576 then (slet ((y_45 : Int32) &&& (1 : Int32)) (fun y_55 => (y_55, z55_2, z56_3, z57_4, z58_5, g_34, z62_6, z63_7))) else (0, z55_2, z56_3, z57_4, z58_5, g_34, z62_6, z63_7)))))))))) else (itrv (α := (Nat → Int32) × Nat) (β := (((Nat → Int32) × Nat) ⊕ (Int32 × (Nat → Nat) × (Nat → Nat) × (Nat → Int32) × (Nat → Nat) × (Nat → Int32) × Nat × Nat))) (Sum.inr default) (sp_EM_spanned_L3 x61 z55_2 z56_3 z57_4 z58_5 z62_6 z63_7 g_35) (g_34, 0)))
noncomputable def sp_EM_spanned_L5 (x61 : Nat) (p0 : Int32) (z55_2 : Nat → Nat) (z56_3 : Nat → Nat) (z57_4 : Nat → Int32) (z58_5 : Nat → Nat) (z62_6 : Nat) (z63_7 : Nat) : ((Nat → Int32) × Nat) → ((Nat → Int32) × Nat) ⊕ (Int32 × (Nat → Nat) × (Nat → Nat) × (Nat → Int32) × (Nat → Nat) × (Nat → Int32) × Nat × Nat) := fun (g_23, g_24) => (if z62_6 ≤ g_24 then (Sum.inr (itrv (α := (Nat → Int32) × Nat) (β := (Int32 × (Nat → Nat) × (Nat → Nat) × (Nat → Int32) × (Nat → Nat) × (Nat → Int32) × Nat × Nat)) default (sp_EM_spanned_L4 x61 p0 z55_2 z56_3 z57_4 z58_5 z62_6 z63_7) (g_23, 0))) else (slet (min (z55_2 g_24) 120) (fun u_112 => (slet (min (z56_3 g_24) 120) (fun u_115 => (slet (g_23 (((x61 + 1) * u_112) + u_115)) (fun y_117 => (slet (z57_4 g_24) (fun y_118 => (slet (sp_EM_lesser y_117 y_118) (fun r_119 => (slet (upd g_23 (((x61 + 1) * u_112) + u_115) r_119) (fun f_120 => (Sum.inl (f_120, (g_24 + 1))))))))))))))))
noncomputable def sp_EM_spanned_L6 (x61 : Nat) (g_13 : Nat) : ((Nat → Int32) × Nat) → ((Nat → Int32) × Nat) ⊕ (((Nat → Int32) × Nat) ⊕ (Int32 × (Nat → Nat) × (Nat → Nat) × (Nat → Int32) × (Nat → Nat) × (Nat → Int32) × Nat × Nat)) := fun (g_123, g_124) => (if (x61 + 1) ≤ g_124 then (Sum.inr (Sum.inl (g_123, (g_13 + 1)))) else (slet (α := Nat) (if g_13 = g_124 then 1 else 1048576) (fun g_134 => (slet (upd g_123 (((x61 + 1) * g_13) + g_124) (nI g_134)) (fun f_138 => (Sum.inl (f_138, (g_124 + 1))))))))
noncomputable def sp_EM_spanned_L7 (x61 : Nat) (p0 : Int32) (z55_2 : Nat → Nat) (z56_3 : Nat → Nat) (z57_4 : Nat → Int32) (z58_5 : Nat → Nat) (z62_6 : Nat) (z63_7 : Nat) : ((Nat → Int32) × Nat) → ((Nat → Int32) × Nat) ⊕ (Int32 × (Nat → Nat) × (Nat → Nat) × (Nat → Int32) × (Nat → Nat) × (Nat → Int32) × Nat × Nat) := fun (g_12, g_13) => (if (x61 + 1) ≤ g_13 then (Sum.inr (itrv (α := (Nat → Int32) × Nat) (β := (Int32 × (Nat → Nat) × (Nat → Nat) × (Nat → Int32) × (Nat → Nat) × (Nat → Int32) × Nat × Nat)) default (sp_EM_spanned_L5 x61 p0 z55_2 z56_3 z57_4 z58_5 z62_6 z63_7) (g_12, 0))) else (itrv (α := (Nat → Int32) × Nat) (β := (((Nat → Int32) × Nat) ⊕ (Int32 × (Nat → Nat) × (Nat → Nat) × (Nat → Int32) × (Nat → Nat) × (Nat → Int32) × Nat × Nat))) (Sum.inr default) (sp_EM_spanned_L6 x61 g_13) (g_12, 0)))
noncomputable def sp_EM_spanned (x16 : Nat) (x61 : Nat) (f3 : Nat → Int32) (q4 : Nat → Nat) (q5 : Nat → Nat) (q6 : Nat → Nat) (q7 : Nat → Nat) (f8 : Nat → Int32) (q9 : Nat → Nat) (q10 : Nat → Nat) (f11 : Nat → Int32) (m12_0 : Nat) (m12_1 : Nat) (m13_0 : Nat) (m13_1 : Nat) (m14_0 : Nat) (m14_1 : Nat) (m15_0 : Nat) (m15_1 : Nat) (q54 : Nat → Nat) (q55 : Nat → Nat) (q56 : Nat → Nat) (f57 : Nat → Int32) (q58 : Nat → Nat) (f60 : Nat → Int32) (p0 : Int32) : Int32 × (Nat → Nat) × (Nat → Nat) × (Nat → Int32) × (Nat → Nat) × (Nat → Int32) × Nat × Nat := (slet (sp_EM_layGaps x16 x61 f3 q4 q5 q6 q7 f8 q9 q10 f11 m12_0 m12_1 m13_0 m13_1 m14_0 m14_1 m15_0 m15_1 q54 q55 q56 f57 q58) (fun (z55_2, z56_3, z57_4, z58_5, z62_6, z63_7) => (if z63_7 = 0 then (itrv (α := (Nat → Int32) × Nat) (β := (Int32 × (Nat → Nat) × (Nat → Nat) × (Nat → Int32) × (Nat → Nat) × (Nat → Int32) × Nat × Nat)) default (sp_EM_spanned_L7 x61 p0 z55_2 z56_3 z57_4 z58_5 z62_6 z63_7) (f60, 0)) else ((-1), z55_2, z56_3, z57_4, z58_5, f60, z62_6, z63_7))))
set_option maxHeartbeats 4000000 in
set_option maxRecDepth 100000 in
theorem c_EM_spanned (l : Launch) (dC : Nat → ClassId) (dI : Nat → Nat → Nat) (sz : Nat) (ad : Nat → Nat) (ck : Nat → ClassId) (x0 : Int32) (x16 : Nat) (x18 : Nat) (x19 : Nat) (x20 : Int32) (x21 : Nat) (x22 : Nat) (x23 : Int32) (x24 : Int32) (x25 : Int32) (x26 : Nat) (x27 : Int32) (x28 : Nat) (x29 : Nat) (x30 : Nat) (x33 : Nat) (x45 : Int32) (x46 : Nat) (x52 : Nat) (x53 : Nat) (x61 : Nat) (x62 : Nat) (x63 : Nat) (x65 : Nat) (x66 : Int32) (f1 : Nat → Int32) (f2 : Nat → Int32) (f3 : Nat → Int32) (q4 : Nat → Nat) (q5 : Nat → Nat) (q6 : Nat → Nat) (q7 : Nat → Nat) (f8 : Nat → Int32) (q9 : Nat → Nat) (q10 : Nat → Nat) (f11 : Nat → Int32) (m12_0 m12_1 : Nat) (m13_0 m13_1 : Nat) (m14_0 m14_1 : Nat) (m15_0 m15_1 : Nat) (f17 : Nat → Int32) (q31 : Nat → Nat) (f32 : Nat → Int32) (f34 : Nat → Int32) (f35 : Nat → Int32) (f36 : Nat → Int32) (f37 : Nat → Int32) (q38 : Nat → Nat) (f39 : Nat → Int32) (f40 : Nat → Int32) (f41 : Nat → Int32) (m42_0 m42_1 : Nat) (f43 : Nat → Int32) (f44 : Nat → Int32) (f47 : Nat → Int32) (f48 : Nat → Int32) (f49 : Nat → Int32) (f50 : Nat → Int32) (f51 : Nat → Int32) (q54 : Nat → Nat) (q55 : Nat → Nat) (q56 : Nat → Nat) (f57 : Nat → Int32) (q58 : Nat → Nat) (f59 : Nat → Int32) (f60 : Nat → Int32) (f64 : Nat → Int32) (p0 : Int32) (hx16 : x16 ≤ 1) (hx18 : x18 ≤ 900) (hx19 : x19 ≤ 900) (hx21 : x21 ≤ 900) (hx22 : x22 ≤ 4) (hx26 : x26 ≤ 6) (hx28 : x28 ≤ 1) (hx29 : x29 ≤ 1) (hx30 : x30 ≤ 1) (hx33 : x33 ≤ 20) (hx46 : x46 ≤ 5) (hx52 : x52 ≤ 2400) (hx53 : x53 ≤ 119) (hx61 : x61 ≤ 119) (hx62 : x62 ≤ 2000) (hx63 : x63 ≤ 1) (hx65 : x65 ≤ 7) (hm12_0 : m12_0 ≤ 3) (hm12_1 : m12_1 ≤ 3) (hm13_0 : m13_0 ≤ 8) (hm13_1 : m13_1 ≤ 8) (hm14_0 : m14_0 ≤ 14) (hm14_1 : m14_1 ≤ 14) (hm15_0 : m15_0 ≤ 8) (hm15_1 : m15_1 ≤ 8) (hm42_0 : m42_0 ≤ 120) (hm42_1 : m42_1 ≤ 400) (hbg : (x16 = 0 ∧ (m13_0 = 0 ∨ 1 ≤ m15_0)) ∨ (x16 = 1 ∧ (m13_1 = 0 ∨ 1 ≤ m15_1))) : Met l yX9_spanned vs_EM_spanned ({ frames := 5, cells := 0, slots := 0, locals := 112 }) (va_Pc [.ref (ad 0), .int p0] (pu_B (dC, dI) (mo_w ad ck x0 (nI x16) (nI x18) (nI x19) x20 (nI x21) (nI x22) x23 x24 x25 (nI x26) x27 (nI x28) (nI x29) (nI x30) (nI x33) x45 (nI x46) (nI x52) (nI x53) (nI x61) (nI x62) (nI x63) (nI x65) x66 f1 f2 f3 (bN 3 q4) (bN 7 q5) (bN 7 q6) (bN 4 q7) f8 (bN 2 q9) (bH q10) f11 (b2 m12_0 m12_1) (b2 m13_0 m13_1) (b2 m14_0 m14_1) (b2m m15_0 m15_1) f17 (bA 159 q31) f32 f34 f35 f36 f37 (bN 7 q38) f39 f40 f41 (b2 m42_0 m42_1) f43 f44 f47 f48 f49 f50 f51 (bN 13 q54) (bN 120 q55) (bN 120 q56) f57 (bN 120 q58) f59 f60 f64) (mo_t ck) sz)) (va_Qi (fun (r : Int32) (_ : Unit) => r = (sp_EM_spanned x16 x61 f3 q4 q5 q6 q7 f8 q9 q10 f11 m12_0 m12_1 m13_0 m13_1 m14_0 m14_1 m15_0 m15_1 q54 q55 q56 f57 q58 f60 p0).1) (fun _ t => ∃ (z55 : Nat → Nat) (z56 : Nat → Nat) (z57 : Nat → Int32) (z58 : Nat → Nat) (z60 : Nat → Int32) (z62 : Nat) (z63 : Nat), pu_E (dC, dI) (mo_w ad ck x0 (nI x16) (nI x18) (nI x19) x20 (nI x21) (nI x22) x23 x24 x25 (nI x26) x27 (nI x28) (nI x29) (nI x30) (nI x33) x45 (nI x46) (nI x52) (nI x53) (nI x61) (nI z62) (nI z63) (nI x65) x66 f1 f2 f3 (bN 3 q4) (bN 7 q5) (bN 7 q6) (bN 4 q7) f8 (bN 2 q9) (bH q10) f11 (b2 m12_0 m12_1) (b2 m13_0 m13_1) (b2 m14_0 m14_1) (b2m m15_0 m15_1) f17 (bA 159 q31) f32 f34 f35 f36 f37 (bN 7 q38) f39 f40 f41 (b2 m42_0 m42_1) f43 f44 f47 f48 f49 f50 f51 (bN 13 q54) (bN 120 z55) (bN 120 z56) z57 (bN 120 z58) f59 z60 f64) (mo_t ck) (va_A ((mo_w ad ck x0 (nI x16) (nI x18) (nI x19) x20 (nI x21) (nI x22) x23 x24 x25 (nI x26) x27 (nI x28) (nI x29) (nI x30) (nI x33) x45 (nI x46) (nI x52) (nI x53) (nI x61) (nI x62) (nI x63) (nI x65) x66 f1 f2 f3 (bN 3 q4) (bN 7 q5) (bN 7 q6) (bN 4 q7) f8 (bN 2 q9) (bH q10) f11 (b2 m12_0 m12_1) (b2 m13_0 m13_1) (b2 m14_0 m14_1) (b2m m15_0 m15_1) f17 (bA 159 q31) f32 f34 f35 f36 f37 (bN 7 q38) f39 f40 f41 (b2 m42_0 m42_1) f43 f44 f47 f48 f49 f50 f51 (bN 13 q54) (bN 120 q55) (bN 120 q56) f57 (bN 120 q58) f59 f60 f64)) sz) t ∧ (z62 ≤ 2000) ∧ (z63 ≤ 1) ∧ ((z55, z56, z57, z58, z60, z62, z63) = (sp_EM_spanned x16 x61 f3 q4 q5 q6 q7 f8 q9 q10 f11 m12_0 m12_1 m13_0 m13_1 m14_0 m14_1 m15_0 m15_1 q54 q55 q56 f57 q58 f60 p0).2)) (va_A ((mo_w ad ck x0 (nI x16) (nI x18) (nI x19) x20 (nI x21) (nI x22) x23 x24 x25 (nI x26) x27 (nI x28) (nI x29) (nI x30) (nI x33) x45 (nI x46) (nI x52) (nI x53) (nI x61) (nI x62) (nI x63) (nI x65) x66 f1 f2 f3 (bN 3 q4) (bN 7 q5) (bN 7 q6) (bN 4 q7) f8 (bN 2 q9) (bH q10) f11 (b2 m12_0 m12_1) (b2 m13_0 m13_1) (b2 m14_0 m14_1) (b2m m15_0 m15_1) f17 (bA 159 q31) f32 f34 f35 f36 f37 (bN 7 q38) f39 f40 f41 (b2 m42_0 m42_1) f43 f44 f47 f48 f49 f50 f51 (bN 13 q54) (bN 120 q55) (bN 120 q56) f57 (bN 120 q58) f59 f60 f64)) sz)) 0 0 (va_A ((mo_w ad ck x0 (nI x16) (nI x18) (nI x19) x20 (nI x21) (nI x22) x23 x24 x25 (nI x26) x27 (nI x28) (nI x29) (nI x30) (nI x33) x45 (nI x46) (nI x52) (nI x53) (nI x61) (nI x62) (nI x63) (nI x65) x66 f1 f2 f3 (bN 3 q4) (bN 7 q5) (bN 7 q6) (bN 4 q7) f8 (bN 2 q9) (bH q10) f11 (b2 m12_0 m12_1) (b2 m13_0 m13_1) (b2 m14_0 m14_1) (b2m m15_0 m15_1) f17 (bA 159 q31) f32 f34 f35 f36 f37 (bN 7 q38) f39 f40 f41 (b2 m42_0 m42_1) f43 f44 f47 f48 f49 f50 f51 (bN 13 q54) (bN 120 q55) (bN 120 q56) f57 (bN 120 q58) f59 f60 f64)) sz) := by
  refine Met.ofW (cc := cX9_spanned) (maxL := 7) (ret := (some .int)) (by decide) rfl ?_
  intro p e s m args below meth c s₁ B hml hv
  obtain ⟨rfl, rfl, hP, hK, hD0⟩ := hv
  have hx := B.exec
  have hb := B.bytes
  have hr := B.returns
  have hts := atoms_spec (ws := vs_EM_spanned) B.pre
  have v_6 := hts (.fieldLink RX9 435 "ClockReachModel" "isBroken" "Z") (List.mem_cons_of_mem _ vm_314)
  have v_7 := hts (.fieldLink RX9 429 "ClockReachModel" "pathMany" "I") (List.mem_cons_of_mem _ vm_303)
  have v_8 := hts (.fieldLink RX9 136 "ClockReachModel" "span" "[I") (List.mem_cons_of_mem _ vm_344)
  have v_9 := hts (.constant RX9 327 (1048576)) (List.mem_cons_of_mem _ vm_46)
  have v_10 := hts (.fieldLink RX9 432 "ClockReachModel" "gaps" "I") (List.mem_cons_of_mem _ vm_306)
  have v_11 := hts (.fieldLink RX9 121 "ClockReachModel" "later" "[I") (List.mem_cons_of_mem _ vm_305)
  have v_12 := hts (.fieldLink RX9 124 "ClockReachModel" "sooner" "[I") (List.mem_cons_of_mem _ vm_307)
  have v_13 := hts (.fieldLink RX9 127 "ClockReachModel" "gap" "[I") (List.mem_cons_of_mem _ vm_308)
  have v_20 := hts (.constant RX9 398 (2147483647)) (List.mem_cons_of_mem _ vm_271)
  have hown : s.vm.findClass RX9 = some m.cls := findClass_of_methodNamed B.named
  have hlocks := B.notSynchronized
  have hiX9 : ∀ w ∈ wsX90, w ∈ vs_EM_spanned := fun _ h => List.mem_cons_of_mem _ (vmi_L h)
  have hD := hD0.self (sz := s.heap.size)
  generalize hAe : va_A ((mo_w ad ck x0 (nI x16) (nI x18) (nI x19) x20 (nI x21) (nI x22) x23 x24 x25 (nI x26) x27 (nI x28) (nI x29) (nI x30) (nI x33) x45 (nI x46) (nI x52) (nI x53) (nI x61) (nI x62) (nI x63) (nI x65) x66 f1 f2 f3 (bN 3 q4) (bN 7 q5) (bN 7 q6) (bN 4 q7) f8 (bN 2 q9) (bH q10) f11 (b2 m12_0 m12_1) (b2 m13_0 m13_1) (b2 m14_0 m14_1) (b2m m15_0 m15_1) f17 (bA 159 q31) f32 f34 f35 f36 f37 (bN 7 q38) f39 f40 f41 (b2 m42_0 m42_1) f43 f44 f47 f48 f49 f50 f51 (bN 13 q54) (bN 120 q55) (bN 120 q56) f57 (bN 120 q58) f59 f60 f64)) s.heap.size = A at hD ⊢
  have hA : ∀ q : Nat, s.heap.size ≤ q → A q := fun q h => by rw [← hAe]; exact Or.inr h
  have hS : va_S A s.heap s.heap [] := va_S.rf
  have hl := lv_entry ([.ref (ad 0), .int p0]) (n := 7) (Nat.le_of_ble_eq_true rfl)
  rw [lg_entry_eq]
  generalize (lg_sl ([.ref (ad 0), .int p0]) ++ List.replicate (7 - (lg_sl ([.ref (ad 0), .int p0])).length) Slot.unset).toArray = ls at hl ⊢
  have hl : lv_has ls 7 [(0, .ref (ad 0)), (1, .int p0)] := hl
  obtain ⟨RR, hRR⟩ : ∃ x, x = (sp_EM_spanned x16 x61 f3 q4 q5 q6 q7 f8 q9 q10 f11 m12_0 m12_1 m13_0 m13_1 m14_0 m14_1 m15_0 m15_1 q54 q55 q56 f57 q58 f60 p0) := ⟨_, rfl⟩
  have hsp := hRR
  refine lv_aload_n hx hb dX9_spanned_0 rfl (lv_at hl 0 rfl) ?_
  have hFc := pu_free hD hS hA
  refine va_callv (va_runV (As := []) (rest := []) ⟨hx, hb, hml, hown, hts⟩ (c_EM_layGaps l dC dI _ ad ck x0 x16 x18 x19 x20 x21 x22 x23 x24 x25 x26 x27 x28 x29 x30 x33 x45 x46 x52 x53 x61 x62 x63 x65 x66 f1 f2 f3 q4 q5 q6 q7 f8 q9 q10 f11 m12_0 m12_1 m13_0 m13_1 m14_0 m14_1 m15_0 m15_1 f17 q31 f32 f34 f35 f36 f37 q38 f39 f40 f41 m42_0 m42_1 f43 f44 f47 f48 f49 f50 f51 q54 q55 q56 f57 q58 f59 f60 f64 hx16 hx18 hx19 hx21 hx22 hx26 hx28 hx29 hx30 hx33 hx46 hx52 hx53 hx61 hx62 hx63 hx65 hm12_0 hm12_1 hm13_0 hm13_1 hm14_0 hm14_1 hm15_0 hm15_1 hm42_0 hm42_1 (by first | assumption | omega)) (cwV 0 hts g_EM_spanned_EM_layGaps rfl rfl rfl (by decide +kernel) ⟨Nat.le_of_ble_eq_true rfl, Nat.le_of_ble_eq_true rfl⟩) ⟨pu_bl, va_recv hK hP (ci := 9) (q0 := 0) rfl rfl, pu_in hP hK hD⟩ rfl rfl hl.1 rfl (lv_room (Nat.le_of_ble_eq_true rfl)) dX9_spanned_1 ⟨Nat.le_of_ble_eq_true rfl, Nat.le_of_ble_eq_true rfl⟩) hS (fun q _ h => hFc q h) hFc (fun u t H1 locs ht hvm hw hB hz1 hk1 hS => ?_)
  obtain ⟨z55_2, z56_3, z57_4, z58_5, z62_6, z63_7, ⟨hP1, -, hD1⟩, hz62_6, hz63_7, xr_1_0⟩ := hB
  rw [ht] at hP1
  have hP := hP1
  have hD := pu_all hFc hD1
  clear hP1 hD1 hFc
  clear hk1 hz1 ht hvm
  generalize H1 = H at hP hS ⊢
  replace hsp := hsp.trans (slet_eq xr_1_0)
  refine lv_aload_n hx hb dX9_spanned_4 rfl (lv_at hl 0 rfl) ?_
  refine va_get (D := (dC, dI)) (ci := 9) (v := .int (nI z63_7)) (C := RX9) (T := TX9) (N := 67) hx hb hts hiX9 hown hK hP 0 rfl rfl 63 (by decide) v_6 (fun _ h9 => h9) rfl dX9_spanned_5 ?_
  refine lv_if_eq (tgt := 13) hx hb dX9_spanned_8 (by decide) (fun c_8 => ?_) (fun c_8 => ?_)
  · have c_8 : z63_7 = 0 := (nI_eq (a := z63_7) (b := 0) (Nat.lt_of_le_of_lt hz63_7 (Nat.le_of_ble_eq_true rfl)) (Nat.le_of_ble_eq_true rfl)).mp c_8
    replace hsp := hsp.trans (if_pos c_8)
    refine lv_aload_n hx hb dX9_spanned_13 rfl (lv_at hl 0 rfl) ?_
    refine va_get (D := (dC, dI)) (ci := 9) (v := .int (nI x61)) (C := RX9) (T := TX9) (N := 67) hx hb hts hiX9 hown hK hP 0 rfl rfl 61 (by decide) v_7 (fun _ h9 => h9) rfl dX9_spanned_14 ?_
    refine lv_iconst (v := 1) hx hb dX9_spanned_17 (by decide) ?_
    refine lv_iadd hx hb dX9_spanned_18 ?_
    refine lv_topi (fun y_9 ey_9 => ?_)
    obtain rfl : y_9 = (nI (x61 + 1)) := ey_9.trans (nI_add x61 1)
    refine lv_istore_n (lv' := [(2, .int (nI (x61 + 1))), (0, .ref (ad 0)), (1, .int p0)]) hx hb dX9_spanned_19 rfl hl (by decide) rfl (fun ls hl => ?_)
    refine lv_iconst (v := 0) hx hb dX9_spanned_20 (by decide) ?_
    refine lv_istore_n (lv' := [(3, .int 0), (2, .int (nI (x61 + 1))), (0, .ref (ad 0)), (1, .int p0)]) hx hb dX9_spanned_21 rfl hl (by decide) rfl (fun ls hl => ?_)
    obtain ⟨lf_15, dlf_15, hlf_15, hsp⟩ := itr_ex hsp
    delta sp_EM_spanned_L7 at hlf_15
    refine pu_while (fun nn H locs ls => ∃ (g_12 : Nat → Int32) (g_13 : Nat), nn = 120 - g_13 ∧ g_13 ≤ 120 ∧ RR = itrv dlf_15 lf_15 (g_12, g_13) ∧ va_P (dC, dI) vwCl (mo_w ad ck x0 (nI x16) (nI x18) (nI x19) x20 (nI x21) (nI x22) x23 x24 x25 (nI x26) x27 (nI x28) (nI x29) (nI x30) (nI x33) x45 (nI x46) (nI x52) (nI x53) (nI x61) (nI z62_6) (nI z63_7) (nI x65) x66 f1 f2 f3 (bN 3 q4) (bN 7 q5) (bN 7 q6) (bN 4 q7) f8 (bN 2 q9) (bH q10) f11 (b2 m12_0 m12_1) (b2 m13_0 m13_1) (b2 m14_0 m14_1) (b2m m15_0 m15_1) f17 (bA 159 q31) f32 f34 f35 f36 f37 (bN 7 q38) f39 f40 f41 (b2 m42_0 m42_1) f43 f44 f47 f48 f49 f50 f51 (bN 13 q54) (bN 120 z55_2) (bN 120 z56_3) z57_4 (bN 120 z58_5) f59 g_12 f64) H ∧ va_D A (mo_w ad ck x0 (nI x16) (nI x18) (nI x19) x20 (nI x21) (nI x22) x23 x24 x25 (nI x26) x27 (nI x28) (nI x29) (nI x30) (nI x33) x45 (nI x46) (nI x52) (nI x53) (nI x61) (nI z62_6) (nI z63_7) (nI x65) x66 f1 f2 f3 (bN 3 q4) (bN 7 q5) (bN 7 q6) (bN 4 q7) f8 (bN 2 q9) (bH q10) f11 (b2 m12_0 m12_1) (b2 m13_0 m13_1) (b2 m14_0 m14_1) (b2m m15_0 m15_1) f17 (bA 159 q31) f32 f34 f35 f36 f37 (bN 7 q38) f39 f40 f41 (b2 m42_0 m42_1) f43 f44 f47 f48 f49 f50 f51 (bN 13 q54) (bN 120 z55_2) (bN 120 z56_3) z57_4 (bN 120 z58_5) f59 g_12 f64) ∧ va_S A s.heap H locs ∧ lv_has ls 7 [(0, .ref (ad 0)), (1, .int p0), (2, .int (nI (x61 + 1))), (3, .int (nI g_13))]) 22 ?_ _ _ _ _ ⟨f60, 0, rfl, (Nat.le_of_ble_eq_true rfl), hsp, hP, hD, hS, lv_sub hl [2, 3, 1, 0] rfl⟩
    rintro nn ih_14 H locs ls ⟨g_12, g_13, rfl, hg_13, he_17, hP, hD, hS, hl⟩
    obtain ⟨S_16, hsp, hin_18, hout_19⟩ := itr_step hlf_15 he_17
    refine lv_iload_n hx hb dX9_spanned_22 rfl (lv_at hl 3 rfl) ?_
    refine lv_iload_n hx hb dX9_spanned_23 rfl (lv_at hl 2 rfl) ?_
    refine lv_icmp_ge (tgt := 72) hx hb dX9_spanned_24 (by decide) (fun c_20 => ?_) (fun c_20 => ?_)
    · have c_20 : (x61 + 1) ≤ g_13 := (nI_leI (a := (x61 + 1)) (b := g_13) (by omega) (Nat.lt_of_le_of_lt hg_13 (Nat.le_of_ble_eq_true rfl))).mp c_20
      replace hsp := hsp.trans (if_pos c_20)
      have hsp := hout_19 _ hsp
      refine lv_iconst (v := 0) hx hb dX9_spanned_72 (by decide) ?_
      refine lv_istore_n (lv' := [(3, .int 0), (0, .ref (ad 0)), (1, .int p0), (2, .int (nI (x61 + 1)))]) hx hb dX9_spanned_73 rfl hl (by decide) rfl (fun ls hl => ?_)
      obtain ⟨lf_26, dlf_26, hlf_26, hsp⟩ := itr_ex hsp
      delta sp_EM_spanned_L5 at hlf_26
      refine pu_while (fun nn H locs ls => ∃ (g_23 : Nat → Int32) (g_24 : Nat), nn = 2000 - g_24 ∧ g_24 ≤ 2000 ∧ RR = itrv dlf_26 lf_26 (g_23, g_24) ∧ va_P (dC, dI) vwCl (mo_w ad ck x0 (nI x16) (nI x18) (nI x19) x20 (nI x21) (nI x22) x23 x24 x25 (nI x26) x27 (nI x28) (nI x29) (nI x30) (nI x33) x45 (nI x46) (nI x52) (nI x53) (nI x61) (nI z62_6) (nI z63_7) (nI x65) x66 f1 f2 f3 (bN 3 q4) (bN 7 q5) (bN 7 q6) (bN 4 q7) f8 (bN 2 q9) (bH q10) f11 (b2 m12_0 m12_1) (b2 m13_0 m13_1) (b2 m14_0 m14_1) (b2m m15_0 m15_1) f17 (bA 159 q31) f32 f34 f35 f36 f37 (bN 7 q38) f39 f40 f41 (b2 m42_0 m42_1) f43 f44 f47 f48 f49 f50 f51 (bN 13 q54) (bN 120 z55_2) (bN 120 z56_3) z57_4 (bN 120 z58_5) f59 g_23 f64) H ∧ va_D A (mo_w ad ck x0 (nI x16) (nI x18) (nI x19) x20 (nI x21) (nI x22) x23 x24 x25 (nI x26) x27 (nI x28) (nI x29) (nI x30) (nI x33) x45 (nI x46) (nI x52) (nI x53) (nI x61) (nI z62_6) (nI z63_7) (nI x65) x66 f1 f2 f3 (bN 3 q4) (bN 7 q5) (bN 7 q6) (bN 4 q7) f8 (bN 2 q9) (bH q10) f11 (b2 m12_0 m12_1) (b2 m13_0 m13_1) (b2 m14_0 m14_1) (b2m m15_0 m15_1) f17 (bA 159 q31) f32 f34 f35 f36 f37 (bN 7 q38) f39 f40 f41 (b2 m42_0 m42_1) f43 f44 f47 f48 f49 f50 f51 (bN 13 q54) (bN 120 z55_2) (bN 120 z56_3) z57_4 (bN 120 z58_5) f59 g_23 f64) ∧ va_S A s.heap H locs ∧ lv_has ls 7 [(0, .ref (ad 0)), (1, .int p0), (2, .int (nI (x61 + 1))), (3, .int (nI g_24))]) 74 ?_ _ _ _ _ ⟨g_12, 0, rfl, (Nat.le_of_ble_eq_true rfl), hsp, hP, hD, hS, lv_sub hl [1, 2, 3, 0] rfl⟩
      rintro nn ih_25 H locs ls ⟨g_23, g_24, rfl, hg_24, he_28, hP, hD, hS, hl⟩
      obtain ⟨S_27, hsp, hin_29, hout_30⟩ := itr_step hlf_26 he_28
      refine lv_iload_n hx hb dX9_spanned_74 rfl (lv_at hl 3 rfl) ?_
      refine lv_aload_n hx hb dX9_spanned_75 rfl (lv_at hl 0 rfl) ?_
      refine va_get (D := (dC, dI)) (ci := 9) (v := .int (nI z62_6)) (C := RX9) (T := TX9) (N := 67) hx hb hts hiX9 hown hK hP 0 rfl rfl 62 (by decide) v_10 (fun _ h9 => h9) rfl dX9_spanned_76 ?_
      refine lv_icmp_ge (tgt := 128) hx hb dX9_spanned_79 (by decide) (fun c_31 => ?_) (fun c_31 => ?_)
      · have c_31 : z62_6 ≤ g_24 := (nI_leI (a := z62_6) (b := g_24) (Nat.lt_of_le_of_lt hz62_6 (Nat.le_of_ble_eq_true rfl)) (Nat.lt_of_le_of_lt hg_24 (Nat.le_of_ble_eq_true rfl))).mp c_31
        replace hsp := hsp.trans (if_pos c_31)
        have hsp := hout_30 _ hsp
        refine lv_iconst (v := 0) hx hb dX9_spanned_128 (by decide) ?_
        refine lv_istore_n (lv' := [(3, .int 0), (0, .ref (ad 0)), (1, .int p0), (2, .int (nI (x61 + 1)))]) hx hb dX9_spanned_129 rfl hl (by decide) rfl (fun ls hl => ?_)
        obtain ⟨lf_37, dlf_37, hlf_37, hsp⟩ := itr_ex hsp
        delta sp_EM_spanned_L4 at hlf_37
        refine pu_while (fun nn H locs ls => ∃ (g_34 : Nat → Int32) (g_35 : Nat), nn = 120 - g_35 ∧ g_35 ≤ 120 ∧ RR = itrv dlf_37 lf_37 (g_34, g_35) ∧ va_P (dC, dI) vwCl (mo_w ad ck x0 (nI x16) (nI x18) (nI x19) x20 (nI x21) (nI x22) x23 x24 x25 (nI x26) x27 (nI x28) (nI x29) (nI x30) (nI x33) x45 (nI x46) (nI x52) (nI x53) (nI x61) (nI z62_6) (nI z63_7) (nI x65) x66 f1 f2 f3 (bN 3 q4) (bN 7 q5) (bN 7 q6) (bN 4 q7) f8 (bN 2 q9) (bH q10) f11 (b2 m12_0 m12_1) (b2 m13_0 m13_1) (b2 m14_0 m14_1) (b2m m15_0 m15_1) f17 (bA 159 q31) f32 f34 f35 f36 f37 (bN 7 q38) f39 f40 f41 (b2 m42_0 m42_1) f43 f44 f47 f48 f49 f50 f51 (bN 13 q54) (bN 120 z55_2) (bN 120 z56_3) z57_4 (bN 120 z58_5) f59 g_34 f64) H ∧ va_D A (mo_w ad ck x0 (nI x16) (nI x18) (nI x19) x20 (nI x21) (nI x22) x23 x24 x25 (nI x26) x27 (nI x28) (nI x29) (nI x30) (nI x33) x45 (nI x46) (nI x52) (nI x53) (nI x61) (nI z62_6) (nI z63_7) (nI x65) x66 f1 f2 f3 (bN 3 q4) (bN 7 q5) (bN 7 q6) (bN 4 q7) f8 (bN 2 q9) (bH q10) f11 (b2 m12_0 m12_1) (b2 m13_0 m13_1) (b2 m14_0 m14_1) (b2m m15_0 m15_1) f17 (bA 159 q31) f32 f34 f35 f36 f37 (bN 7 q38) f39 f40 f41 (b2 m42_0 m42_1) f43 f44 f47 f48 f49 f50 f51 (bN 13 q54) (bN 120 z55_2) (bN 120 z56_3) z57_4 (bN 120 z58_5) f59 g_34 f64) ∧ va_S A s.heap H locs ∧ lv_has ls 7 [(0, .ref (ad 0)), (1, .int p0), (2, .int (nI (x61 + 1))), (3, .int (nI g_35))]) 130 ?_ _ _ _ _ ⟨g_23, 0, rfl, (Nat.le_of_ble_eq_true rfl), hsp, hP, hD, hS, lv_sub hl [1, 2, 3, 0] rfl⟩
        rintro nn ih_36 H locs ls ⟨g_34, g_35, rfl, hg_35, he_39, hP, hD, hS, hl⟩
        obtain ⟨S_38, hsp, hin_40, hout_41⟩ := itr_step hlf_37 he_39
        refine lv_iload_n hx hb dX9_spanned_130 rfl (lv_at hl 3 rfl) ?_
        refine lv_iload_n hx hb dX9_spanned_131 rfl (lv_at hl 2 rfl) ?_
        refine lv_icmp_ge (tgt := 268) hx hb dX9_spanned_132 (by decide) (fun c_42 => ?_) (fun c_42 => ?_)
        · have c_42 : (x61 + 1) ≤ g_35 := (nI_leI (a := (x61 + 1)) (b := g_35) (by omega) (Nat.lt_of_le_of_lt hg_35 (Nat.le_of_ble_eq_true rfl))).mp c_42
          replace hsp := hsp.trans (if_pos c_42)
          have hsp := hout_41 _ hsp
          refine lv_aload_n hx hb dX9_spanned_268 rfl (lv_at hl 0 rfl) ?_
          refine va_get (D := (dC, dI)) (ci := 9) (v := .ref (ad 60)) (C := RX9) (T := TX9) (N := 67) hx hb hts hiX9 hown hK hP 0 rfl rfl 60 (by decide) v_8 (fun _ h9 => h9) rfl dX9_spanned_269 ?_
          refine lv_aload_n hx hb dX9_spanned_272 rfl (lv_at hl 0 rfl) ?_
          refine va_get (D := (dC, dI)) (ci := 9) (v := .int (nI x61)) (C := RX9) (T := TX9) (N := 67) hx hb hts hiX9 hown hK hP 0 rfl rfl 61 (by decide) v_7 (fun _ h9 => h9) rfl dX9_spanned_273 ?_
          refine va_iald hx hb hK hP 41 40 rfl rfl (vp_in_nI (n := x61) (Nat.lt_of_le_of_lt hx61 (Nat.le_of_ble_eq_true rfl)) (Nat.le_of_ble_eq_true rfl)) dX9_spanned_276 ?_
          refine lv_topi (fun y_43 ey_43 => ?_)
          have ey_43 : y_43 = g_34 x61 := ey_43.trans (congrArg g_34 (nI_clamp (n := x61) (Nat.lt_of_le_of_lt hx61 (Nat.le_of_ble_eq_true rfl))))
          replace hsp := hsp.trans (slet_eq ey_43)
          refine lv_istore_n (lv' := [(3, .int y_43), (0, .ref (ad 0)), (1, .int p0), (2, .int (nI (x61 + 1)))]) hx hb dX9_spanned_277 rfl hl (by decide) rfl (fun ls hl => ?_)
          refine lv_aload_n hx hb dX9_spanned_278 rfl (lv_at hl 1 rfl) ?_
          refine va_get (D := (dC, dI)) (ci := 9) (v := .ref (ad 60)) (C := RX9) (T := TX9) (N := 67) hx hb hts hiX9 hown hK hP 0 rfl rfl 60 (by decide) v_8 (fun _ h9 => h9) rfl dX9_spanned_279 ?_
          refine lv_iload_n hx hb dX9_spanned_282 rfl (lv_at hl 3 rfl) ?_
          refine lv_aload_n hx hb dX9_spanned_283 rfl (lv_at hl 1 rfl) ?_
          refine va_get (D := (dC, dI)) (ci := 9) (v := .int (nI x61)) (C := RX9) (T := TX9) (N := 67) hx hb hts hiX9 hown hK hP 0 rfl rfl 61 (by decide) v_7 (fun _ h9 => h9) rfl dX9_spanned_284 ?_
          refine lv_imul hx hb dX9_spanned_287 ?_
          refine lv_topi (fun y_44 ey_44 => ?_)
          obtain rfl : y_44 = (nI ((x61 + 1) * x61)) := ey_44.trans (pk_mul (x61 + 1) x61)
          refine va_iald hx hb hK hP 41 40 rfl rfl (vp_in_nI (n := ((x61 + 1) * x61)) (by first | exact sp_ix (by omega) (by omega) (by omega) | exact sp_ix0 (by omega) (by omega)) (by omega)) dX9_spanned_288 ?_
          refine lv_topi (fun y_45 ey_45 => ?_)
          have ey_45 : y_45 = g_34 ((x61 + 1) * x61) := ey_45.trans (congrArg g_34 (nI_clamp (n := ((x61 + 1) * x61)) (by first | omega | exact Nat.lt_trans (sp_ix (by omega) (by omega) (by omega)) (by decide : 14641 < 2 ^ 31) | exact Nat.lt_trans (sp_ix0 (by omega) (by omega)) (by decide : 14641 < 2 ^ 31) | exact Nat.lt_trans (zx16 (by omega) (by omega) (by omega)) (Nat.le_of_ble_eq_true rfl) | exact Nat.lt_trans (zy16 (by omega) (by omega)) (Nat.le_of_ble_eq_true rfl) | exact Nat.lt_trans (zx25 (by omega) (by omega) (by omega)) (Nat.le_of_ble_eq_true rfl) | exact Nat.lt_trans (zy25 (by omega) (by omega)) (Nat.le_of_ble_eq_true rfl))))
          replace hsp := hsp.trans (slet_eq ey_45)
          refine lv_istore (lv' := [(4, .int y_45), (3, .int y_43), (0, .ref (ad 0)), (1, .int p0), (2, .int (nI (x61 + 1)))]) hx hb dX9_spanned_289 hl (by decide) rfl (fun ls hl => ?_)
          refine lv_iload_n hx hb dX9_spanned_291 rfl (lv_at hl 3 rfl) ?_
          by_cases w_46 : p0 = 0
          · subst w_46
            replace hsp := hsp.trans (if_pos rfl)
            refine lv_tableIn (tgt := 320) (off := 28) hx hb dX9_spanned_292 (by decide) (by decide) rfl (by decide) ?_
            refine lv_iload_n hx hb dX9_spanned_320 rfl (lv_at hl 1 rfl) ?_
            refine lv_iconst (v := 1) hx hb dX9_spanned_321 (by decide) ?_
            refine lv_ishr hx hb dX9_spanned_322 ?_
            refine lv_topi (fun y_47 ey_47 => ?_)
            replace hsp := hsp.trans (slet_eq ey_47)
            refine lv_ineg hx hb dX9_spanned_323 ?_
            refine lv_topi (fun y_48 ey_48 => ?_)
            replace hsp := hsp.trans (slet_eq ey_48)
            exact W.iret (v := y_48) hx hb hr (fun t ht hW => ⟨⟨y_48, (), rfl, (congrArg Prod.fst (hsp.symm.trans hRR)), ⟨z55_2, z56_3, z57_4, z58_5, g_34, z62_6, z63_7, ⟨by rw [ht]; exact hP, va_K.moved hW.alike hK, hD⟩, hz62_6, hz63_7, (congrArg Prod.snd (hsp.symm.trans hRR))⟩⟩, hS.F ht⟩) hS.2.2 dX9_spanned_324
          replace hsp := hsp.trans (if_neg w_46)
          by_cases w_49 : p0 = 1
          · subst w_49
            replace hsp := hsp.trans (if_pos rfl)
            refine lv_tableIn (tgt := 325) (off := 33) hx hb dX9_spanned_292 (by decide) (by decide) rfl (by decide) ?_
            refine lv_iload_n hx hb dX9_spanned_325 rfl (lv_at hl 1 rfl) ?_
            refine lv_iconst (v := 1) hx hb dX9_spanned_326 (by decide) ?_
            refine lv_iand hx hb dX9_spanned_327 ?_
            refine lv_topi (fun y_50 ey_50 => ?_)
            replace hsp := hsp.trans (slet_eq ey_50)
            exact W.iret (v := y_50) hx hb hr (fun t ht hW => ⟨⟨y_50, (), rfl, (congrArg Prod.fst (hsp.symm.trans hRR)), ⟨z55_2, z56_3, z57_4, z58_5, g_34, z62_6, z63_7, ⟨by rw [ht]; exact hP, va_K.moved hW.alike hK, hD⟩, hz62_6, hz63_7, (congrArg Prod.snd (hsp.symm.trans hRR))⟩⟩, hS.F ht⟩) hS.2.2 dX9_spanned_328
          replace hsp := hsp.trans (if_neg w_49)
          by_cases w_51 : p0 = 2
          · subst w_51
            replace hsp := hsp.trans (if_pos rfl)
            refine lv_tableIn (tgt := 329) (off := 37) hx hb dX9_spanned_292 (by decide) (by decide) rfl (by decide) ?_
            refine lv_iload hx hb dX9_spanned_329 (lv_at hl 0 rfl) ?_
            refine lv_ldcw hx hb hown v_9 dX9_spanned_331 ?_
            refine lv_icmp_lt (tgt := 343) hx hb dX9_spanned_334 (by decide) (fun c_52 => ?_) (fun c_52 => ?_)
            · have hcc_52 := c_52
              replace hsp := hsp.trans (if_pos c_52)
              refine lv_iload hx hb dX9_spanned_343 (lv_at hl 0 rfl) ?_
              refine lv_iconst (v := 1) hx hb dX9_spanned_345 (by decide) ?_
              refine lv_ishr hx hb dX9_spanned_346 ?_
              refine lv_topi (fun y_53 ey_53 => ?_)
              replace hsp := hsp.trans (slet_eq ey_53)
              exact W.iret (v := y_53) hx hb hr (fun t ht hW => ⟨⟨y_53, (), rfl, (congrArg Prod.fst (hsp.symm.trans hRR)), ⟨z55_2, z56_3, z57_4, z58_5, g_34, z62_6, z63_7, ⟨by rw [ht]; exact hP, va_K.moved hW.alike hK, hD⟩, hz62_6, hz63_7, (congrArg Prod.snd (hsp.symm.trans hRR))⟩⟩, hS.F ht⟩) hS.2.2 dX9_spanned_347
            · have hcc_52 := c_52
              replace hsp := hsp.trans (if_neg c_52)
              refine lv_ldcw hx hb hown v_20 dX9_spanned_337 ?_
              refine lv_goto (tgt := 347) hx hb dX9_spanned_340 (by decide) ?_
              exact W.iret (v := 2147483647) hx hb hr (fun t ht hW => ⟨⟨2147483647, (), rfl, (congrArg Prod.fst (hsp.symm.trans hRR)), ⟨z55_2, z56_3, z57_4, z58_5, g_34, z62_6, z63_7, ⟨by rw [ht]; exact hP, va_K.moved hW.alike hK, hD⟩, hz62_6, hz63_7, (congrArg Prod.snd (hsp.symm.trans hRR))⟩⟩, hS.F ht⟩) hS.2.2 dX9_spanned_347
          replace hsp := hsp.trans (if_neg w_51)
          refine lv_tableOut (tgt := 348) hx hb dX9_spanned_292 (by
              have zw_46 : Int32.toInt p0 ≠ 0 := fun g => w_46 ((fa_eq _ _).mpr g)
              have zw_49 : Int32.toInt p0 ≠ 1 := fun g => w_49 ((fa_eq _ _).mpr g)
              have zw_51 : Int32.toInt p0 ≠ 2 := fun g => w_51 ((fa_eq _ _).mpr g)
              omega) (by decide) ?_
          refine lv_iload hx hb dX9_spanned_348 (lv_at hl 0 rfl) ?_
          refine lv_ldcw hx hb hown v_9 dX9_spanned_350 ?_
          refine lv_icmp_lt (tgt := 360) hx hb dX9_spanned_353 (by decide) (fun c_54 => ?_) (fun c_54 => ?_)
          · have hcc_54 := c_54
            replace hsp := hsp.trans (if_pos c_54)
            refine lv_iload hx hb dX9_spanned_360 (lv_at hl 0 rfl) ?_
            refine lv_iconst (v := 1) hx hb dX9_spanned_362 (by decide) ?_
            refine lv_iand hx hb dX9_spanned_363 ?_
            refine lv_topi (fun y_55 ey_55 => ?_)
            replace hsp := hsp.trans (slet_eq ey_55)
            exact W.iret (v := y_55) hx hb hr (fun t ht hW => ⟨⟨y_55, (), rfl, (congrArg Prod.fst (hsp.symm.trans hRR)), ⟨z55_2, z56_3, z57_4, z58_5, g_34, z62_6, z63_7, ⟨by rw [ht]; exact hP, va_K.moved hW.alike hK, hD⟩, hz62_6, hz63_7, (congrArg Prod.snd (hsp.symm.trans hRR))⟩⟩, hS.F ht⟩) hS.2.2 dX9_spanned_364
          · have hcc_54 := c_54
            replace hsp := hsp.trans (if_neg c_54)
            refine lv_iconst (v := 0) hx hb dX9_spanned_356 (by decide) ?_
            refine lv_goto (tgt := 364) hx hb dX9_spanned_357 (by decide) ?_
            exact W.iret (v := 0) hx hb hr (fun t ht hW => ⟨⟨0, (), rfl, (congrArg Prod.fst (hsp.symm.trans hRR)), ⟨z55_2, z56_3, z57_4, z58_5, g_34, z62_6, z63_7, ⟨by rw [ht]; exact hP, va_K.moved hW.alike hK, hD⟩, hz62_6, hz63_7, (congrArg Prod.snd (hsp.symm.trans hRR))⟩⟩, hS.F ht⟩) hS.2.2 dX9_spanned_364
        · have c_42 : ¬ (x61 + 1) ≤ g_35 := fun z => c_42 ((nI_leI (a := (x61 + 1)) (b := g_35) (by omega) (Nat.lt_of_le_of_lt hg_35 (Nat.le_of_ble_eq_true rfl))).mpr z)
          replace hsp := hsp.trans (if_neg c_42)
          refine lv_iconst (v := 0) hx hb dX9_spanned_135 (by decide) ?_
          refine lv_istore (lv' := [(4, .int 0), (0, .ref (ad 0)), (1, .int p0), (2, .int (nI (x61 + 1))), (3, .int (nI g_35))]) hx hb dX9_spanned_136 hl (by decide) rfl (fun ls hl => ?_)
          obtain ⟨lf_61, dlf_61, hlf_61, hsp⟩ := itr_ex hsp
          delta sp_EM_spanned_L3 at hlf_61
          refine pu_while (fun nn H locs ls => ∃ (g_58 : Nat → Int32) (g_59 : Nat), nn = 120 - g_59 ∧ g_59 ≤ 120 ∧ S_38 = itrv dlf_61 lf_61 (g_58, g_59) ∧ va_P (dC, dI) vwCl (mo_w ad ck x0 (nI x16) (nI x18) (nI x19) x20 (nI x21) (nI x22) x23 x24 x25 (nI x26) x27 (nI x28) (nI x29) (nI x30) (nI x33) x45 (nI x46) (nI x52) (nI x53) (nI x61) (nI z62_6) (nI z63_7) (nI x65) x66 f1 f2 f3 (bN 3 q4) (bN 7 q5) (bN 7 q6) (bN 4 q7) f8 (bN 2 q9) (bH q10) f11 (b2 m12_0 m12_1) (b2 m13_0 m13_1) (b2 m14_0 m14_1) (b2m m15_0 m15_1) f17 (bA 159 q31) f32 f34 f35 f36 f37 (bN 7 q38) f39 f40 f41 (b2 m42_0 m42_1) f43 f44 f47 f48 f49 f50 f51 (bN 13 q54) (bN 120 z55_2) (bN 120 z56_3) z57_4 (bN 120 z58_5) f59 g_58 f64) H ∧ va_D A (mo_w ad ck x0 (nI x16) (nI x18) (nI x19) x20 (nI x21) (nI x22) x23 x24 x25 (nI x26) x27 (nI x28) (nI x29) (nI x30) (nI x33) x45 (nI x46) (nI x52) (nI x53) (nI x61) (nI z62_6) (nI z63_7) (nI x65) x66 f1 f2 f3 (bN 3 q4) (bN 7 q5) (bN 7 q6) (bN 4 q7) f8 (bN 2 q9) (bH q10) f11 (b2 m12_0 m12_1) (b2 m13_0 m13_1) (b2 m14_0 m14_1) (b2m m15_0 m15_1) f17 (bA 159 q31) f32 f34 f35 f36 f37 (bN 7 q38) f39 f40 f41 (b2 m42_0 m42_1) f43 f44 f47 f48 f49 f50 f51 (bN 13 q54) (bN 120 z55_2) (bN 120 z56_3) z57_4 (bN 120 z58_5) f59 g_58 f64) ∧ va_S A s.heap H locs ∧ lv_has ls 7 [(0, .ref (ad 0)), (1, .int p0), (2, .int (nI (x61 + 1))), (3, .int (nI g_35)), (4, .int (nI g_59))]) 138 ?_ _ _ _ _ ⟨g_34, 0, rfl, (Nat.le_of_ble_eq_true rfl), hsp, hP, hD, hS, lv_sub hl [1, 2, 3, 4, 0] rfl⟩
          rintro nn ih_60 H locs ls ⟨g_58, g_59, rfl, hg_59, he_63, hP, hD, hS, hl⟩
          obtain ⟨S_62, hsp, hin_64, hout_65⟩ := itr_step hlf_61 he_63
          refine lv_iload hx hb dX9_spanned_138 (lv_at hl 4 rfl) ?_
          refine lv_iload_n hx hb dX9_spanned_140 rfl (lv_at hl 2 rfl) ?_
          refine lv_icmp_ge (tgt := 229) hx hb dX9_spanned_141 (by decide) (fun c_66 => ?_) (fun c_66 => ?_)
          · have c_66 : (x61 + 1) ≤ g_59 := (nI_leI (a := (x61 + 1)) (b := g_59) (by omega) (Nat.lt_of_le_of_lt hg_59 (Nat.le_of_ble_eq_true rfl))).mp c_66
            replace hsp := hsp.trans (if_pos c_66)
            have hsp := hout_65 _ hsp
            refine lv_iconst (v := 0) hx hb dX9_spanned_229 (by decide) ?_
            refine lv_istore (lv' := [(4, .int 0), (0, .ref (ad 0)), (1, .int p0), (2, .int (nI (x61 + 1))), (3, .int (nI g_35))]) hx hb dX9_spanned_230 hl (by decide) rfl (fun ls hl => ?_)
            obtain ⟨lf_70, dlf_70, hlf_70, hsp⟩ := itr_ex hsp
            delta sp_EM_spanned_L1 at hlf_70
            refine pu_while (fun nn H locs ls => ∃ (g_68 : Nat), nn = 120 - g_68 ∧ g_68 ≤ 120 ∧ S_38 = itrv dlf_70 lf_70 g_68 ∧ va_P (dC, dI) vwCl (mo_w ad ck x0 (nI x16) (nI x18) (nI x19) x20 (nI x21) (nI x22) x23 x24 x25 (nI x26) x27 (nI x28) (nI x29) (nI x30) (nI x33) x45 (nI x46) (nI x52) (nI x53) (nI x61) (nI z62_6) (nI z63_7) (nI x65) x66 f1 f2 f3 (bN 3 q4) (bN 7 q5) (bN 7 q6) (bN 4 q7) f8 (bN 2 q9) (bH q10) f11 (b2 m12_0 m12_1) (b2 m13_0 m13_1) (b2 m14_0 m14_1) (b2m m15_0 m15_1) f17 (bA 159 q31) f32 f34 f35 f36 f37 (bN 7 q38) f39 f40 f41 (b2 m42_0 m42_1) f43 f44 f47 f48 f49 f50 f51 (bN 13 q54) (bN 120 z55_2) (bN 120 z56_3) z57_4 (bN 120 z58_5) f59 g_58 f64) H ∧ va_D A (mo_w ad ck x0 (nI x16) (nI x18) (nI x19) x20 (nI x21) (nI x22) x23 x24 x25 (nI x26) x27 (nI x28) (nI x29) (nI x30) (nI x33) x45 (nI x46) (nI x52) (nI x53) (nI x61) (nI z62_6) (nI z63_7) (nI x65) x66 f1 f2 f3 (bN 3 q4) (bN 7 q5) (bN 7 q6) (bN 4 q7) f8 (bN 2 q9) (bH q10) f11 (b2 m12_0 m12_1) (b2 m13_0 m13_1) (b2 m14_0 m14_1) (b2m m15_0 m15_1) f17 (bA 159 q31) f32 f34 f35 f36 f37 (bN 7 q38) f39 f40 f41 (b2 m42_0 m42_1) f43 f44 f47 f48 f49 f50 f51 (bN 13 q54) (bN 120 z55_2) (bN 120 z56_3) z57_4 (bN 120 z58_5) f59 g_58 f64) ∧ va_S A s.heap H locs ∧ lv_has ls 7 [(0, .ref (ad 0)), (1, .int p0), (2, .int (nI (x61 + 1))), (3, .int (nI g_35)), (4, .int (nI g_68))]) 232 ?_ _ _ _ _ ⟨0, rfl, (Nat.le_of_ble_eq_true rfl), hsp, hP, hD, hS, lv_sub hl [1, 2, 3, 4, 0] rfl⟩
            rintro nn ih_69 H locs ls ⟨g_68, rfl, hg_68, he_72, hP, hD, hS, hl⟩
            obtain ⟨S_71, hsp, hin_73, hout_74⟩ := itr_step hlf_70 he_72
            refine lv_iload hx hb dX9_spanned_232 (lv_at hl 4 rfl) ?_
            refine lv_iload_n hx hb dX9_spanned_234 rfl (lv_at hl 2 rfl) ?_
            refine lv_icmp_ge (tgt := 262) hx hb dX9_spanned_235 (by decide) (fun c_75 => ?_) (fun c_75 => ?_)
            · have c_75 : (x61 + 1) ≤ g_68 := (nI_leI (a := (x61 + 1)) (b := g_68) (by omega) (Nat.lt_of_le_of_lt hg_68 (Nat.le_of_ble_eq_true rfl))).mp c_75
              replace hsp := hsp.trans (if_pos c_75)
              have hsp := hout_74 _ hsp
              refine lv_iinc (v := (nI (g_35 + 1))) (lv' := [(3, .int (nI (g_35 + 1))), (0, .ref (ad 0)), (1, .int p0), (2, .int (nI (x61 + 1))), (4, .int (nI g_68))]) hx hb dX9_spanned_262 hl (k := 3) rfl (nI_1 _) (by decide) rfl (fun ls hl => ?_)
              refine lv_goto (tgt := 130) hx hb dX9_spanned_265 (by decide) ?_
              exact ih_36 (120 - (g_35 + 1)) (by omega) _ _ _ ⟨g_58, (g_35 + 1), rfl, (by omega), hin_40 _ hsp, hP, hD, hS, lv_sub hl [1, 2, 3, 0] rfl⟩
            · have c_75 : ¬ (x61 + 1) ≤ g_68 := fun z => c_75 ((nI_leI (a := (x61 + 1)) (b := g_68) (by omega) (Nat.lt_of_le_of_lt hg_68 (Nat.le_of_ble_eq_true rfl))).mpr z)
              replace hsp := hsp.trans (if_neg c_75)
              refine lv_aload_n hx hb dX9_spanned_238 rfl (lv_at hl 0 rfl) ?_
              refine va_get (D := (dC, dI)) (ci := 9) (v := .ref (ad 60)) (C := RX9) (T := TX9) (N := 67) hx hb hts hiX9 hown hK hP 0 rfl rfl 60 (by decide) v_8 (fun _ h9 => h9) rfl dX9_spanned_239 ?_
              refine lv_iload_n hx hb dX9_spanned_242 rfl (lv_at hl 2 rfl) ?_
              refine lv_iload hx hb dX9_spanned_243 (lv_at hl 4 rfl) ?_
              refine lv_imul hx hb dX9_spanned_245 ?_
              refine lv_topi (fun y_76 ey_76 => ?_)
              obtain rfl : y_76 = (nI ((x61 + 1) * g_68)) := ey_76.trans (pk_mul (x61 + 1) g_68)
              refine lv_iload hx hb dX9_spanned_246 (lv_at hl 4 rfl) ?_
              refine lv_iadd hx hb dX9_spanned_248 ?_
              refine lv_topi (fun y_77 ey_77 => ?_)
              obtain rfl : y_77 = (nI (((x61 + 1) * g_68) + g_68)) := ey_77.trans (nI_add ((x61 + 1) * g_68) g_68)
              refine va_iald hx hb hK hP 41 40 rfl rfl (vp_in_nI (n := (((x61 + 1) * g_68) + g_68)) (by first | exact sp_ix (by omega) (by omega) (by omega) | exact sp_ix0 (by omega) (by omega)) (by omega)) dX9_spanned_249 ?_
              refine lv_topi (fun y_78 ey_78 => ?_)
              have ey_78 : y_78 = g_58 (((x61 + 1) * g_68) + g_68) := ey_78.trans (congrArg g_58 (nI_clamp (n := (((x61 + 1) * g_68) + g_68)) (by first | omega | exact Nat.lt_trans (sp_ix (by omega) (by omega) (by omega)) (by decide : 14641 < 2 ^ 31) | exact Nat.lt_trans (sp_ix0 (by omega) (by omega)) (by decide : 14641 < 2 ^ 31) | exact Nat.lt_trans (zx16 (by omega) (by omega) (by omega)) (Nat.le_of_ble_eq_true rfl) | exact Nat.lt_trans (zy16 (by omega) (by omega)) (Nat.le_of_ble_eq_true rfl) | exact Nat.lt_trans (zx25 (by omega) (by omega) (by omega)) (Nat.le_of_ble_eq_true rfl) | exact Nat.lt_trans (zy25 (by omega) (by omega)) (Nat.le_of_ble_eq_true rfl))))
              replace hsp := hsp.trans (slet_eq ey_78)
              refine lv_iconst (v := 1) hx hb dX9_spanned_250 (by decide) ?_
              refine lv_icmp_ge (tgt := 256) hx hb dX9_spanned_251 (by decide) (fun c_79 => ?_) (fun c_79 => ?_)
              · have hcc_79 := c_79
                replace hsp := hsp.trans (if_pos c_79)
                refine lv_iinc (v := (nI (g_68 + 1))) (lv' := [(4, .int (nI (g_68 + 1))), (0, .ref (ad 0)), (1, .int p0), (2, .int (nI (x61 + 1))), (3, .int (nI g_35))]) hx hb dX9_spanned_256 hl (k := 4) rfl (nI_1 _) (by decide) rfl (fun ls hl => ?_)
                refine lv_goto (tgt := 232) hx hb dX9_spanned_259 (by decide) ?_
                exact ih_69 (120 - (g_68 + 1)) (by omega) _ _ _ ⟨(g_68 + 1), rfl, (by omega), hin_73 _ hsp, hP, hD, hS, lv_sub hl [1, 2, 3, 4, 0] rfl⟩
              · have hcc_79 := c_79
                replace hsp := hsp.trans (if_neg c_79)
                have hsp := hout_74 _ hsp
                have hsp := hout_41 _ hsp
                refine lv_iconst (v := (-1)) hx hb dX9_spanned_254 (by decide) ?_
                exact W.iret (v := (-1)) hx hb hr (fun t ht hW => ⟨⟨(-1), (), rfl, (congrArg Prod.fst (hsp.symm.trans hRR)), ⟨z55_2, z56_3, z57_4, z58_5, g_58, z62_6, z63_7, ⟨by rw [ht]; exact hP, va_K.moved hW.alike hK, hD⟩, hz62_6, hz63_7, (congrArg Prod.snd (hsp.symm.trans hRR))⟩⟩, hS.F ht⟩) hS.2.2 dX9_spanned_255
          · have c_66 : ¬ (x61 + 1) ≤ g_59 := fun z => c_66 ((nI_leI (a := (x61 + 1)) (b := g_59) (by omega) (Nat.lt_of_le_of_lt hg_59 (Nat.le_of_ble_eq_true rfl))).mpr z)
            replace hsp := hsp.trans (if_neg c_66)
            refine lv_aload_n hx hb dX9_spanned_144 rfl (lv_at hl 0 rfl) ?_
            refine va_get (D := (dC, dI)) (ci := 9) (v := .ref (ad 60)) (C := RX9) (T := TX9) (N := 67) hx hb hts hiX9 hown hK hP 0 rfl rfl 60 (by decide) v_8 (fun _ h9 => h9) rfl dX9_spanned_145 ?_
            refine lv_iload_n hx hb dX9_spanned_148 rfl (lv_at hl 2 rfl) ?_
            refine lv_iload hx hb dX9_spanned_149 (lv_at hl 4 rfl) ?_
            refine lv_imul hx hb dX9_spanned_151 ?_
            refine lv_topi (fun y_80 ey_80 => ?_)
            obtain rfl : y_80 = (nI ((x61 + 1) * g_59)) := ey_80.trans (pk_mul (x61 + 1) g_59)
            refine lv_iload_n hx hb dX9_spanned_152 rfl (lv_at hl 3 rfl) ?_
            refine lv_iadd hx hb dX9_spanned_153 ?_
            refine lv_topi (fun y_81 ey_81 => ?_)
            obtain rfl : y_81 = (nI (((x61 + 1) * g_59) + g_35)) := ey_81.trans (nI_add ((x61 + 1) * g_59) g_35)
            refine va_iald hx hb hK hP 41 40 rfl rfl (vp_in_nI (n := (((x61 + 1) * g_59) + g_35)) (by first | exact sp_ix (by omega) (by omega) (by omega) | exact sp_ix0 (by omega) (by omega)) (by omega)) dX9_spanned_154 ?_
            refine lv_topi (fun y_82 ey_82 => ?_)
            have ey_82 : y_82 = g_58 (((x61 + 1) * g_59) + g_35) := ey_82.trans (congrArg g_58 (nI_clamp (n := (((x61 + 1) * g_59) + g_35)) (by first | omega | exact Nat.lt_trans (sp_ix (by omega) (by omega) (by omega)) (by decide : 14641 < 2 ^ 31) | exact Nat.lt_trans (sp_ix0 (by omega) (by omega)) (by decide : 14641 < 2 ^ 31) | exact Nat.lt_trans (zx16 (by omega) (by omega) (by omega)) (Nat.le_of_ble_eq_true rfl) | exact Nat.lt_trans (zy16 (by omega) (by omega)) (Nat.le_of_ble_eq_true rfl) | exact Nat.lt_trans (zx25 (by omega) (by omega) (by omega)) (Nat.le_of_ble_eq_true rfl) | exact Nat.lt_trans (zy25 (by omega) (by omega)) (Nat.le_of_ble_eq_true rfl))))
            replace hsp := hsp.trans (slet_eq ey_82)
            refine lv_istore (lv' := [(5, .int y_82), (0, .ref (ad 0)), (1, .int p0), (2, .int (nI (x61 + 1))), (3, .int (nI g_35)), (4, .int (nI g_59))]) hx hb dX9_spanned_155 hl (by decide) rfl (fun ls hl => ?_)
            refine lv_iconst (v := 0) hx hb dX9_spanned_157 (by decide) ?_
            refine lv_istore (lv' := [(6, .int 0), (5, .int y_82), (0, .ref (ad 0)), (1, .int p0), (2, .int (nI (x61 + 1))), (3, .int (nI g_35)), (4, .int (nI g_59))]) hx hb dX9_spanned_158 hl (by decide) rfl (fun ls hl => ?_)
            obtain ⟨JR_86, hJR_86, hsp⟩ := slet_ex hsp
            refine pu_join (fun H locs ls st => ∃ (g_83 : Nat) (g_84 : Nat → Int32), st = [] ∧ g_83 ≤ 120 ∧ (g_83, g_84) = JR_86 ∧ va_P (dC, dI) vwCl (mo_w ad ck x0 (nI x16) (nI x18) (nI x19) x20 (nI x21) (nI x22) x23 x24 x25 (nI x26) x27 (nI x28) (nI x29) (nI x30) (nI x33) x45 (nI x46) (nI x52) (nI x53) (nI x61) (nI z62_6) (nI z63_7) (nI x65) x66 f1 f2 f3 (bN 3 q4) (bN 7 q5) (bN 7 q6) (bN 4 q7) f8 (bN 2 q9) (bH q10) f11 (b2 m12_0 m12_1) (b2 m13_0 m13_1) (b2 m14_0 m14_1) (b2m m15_0 m15_1) f17 (bA 159 q31) f32 f34 f35 f36 f37 (bN 7 q38) f39 f40 f41 (b2 m42_0 m42_1) f43 f44 f47 f48 f49 f50 f51 (bN 13 q54) (bN 120 z55_2) (bN 120 z56_3) z57_4 (bN 120 z58_5) f59 g_84 f64) H ∧ va_D A (mo_w ad ck x0 (nI x16) (nI x18) (nI x19) x20 (nI x21) (nI x22) x23 x24 x25 (nI x26) x27 (nI x28) (nI x29) (nI x30) (nI x33) x45 (nI x46) (nI x52) (nI x53) (nI x61) (nI z62_6) (nI z63_7) (nI x65) x66 f1 f2 f3 (bN 3 q4) (bN 7 q5) (bN 7 q6) (bN 4 q7) f8 (bN 2 q9) (bH q10) f11 (b2 m12_0 m12_1) (b2 m13_0 m13_1) (b2 m14_0 m14_1) (b2m m15_0 m15_1) f17 (bA 159 q31) f32 f34 f35 f36 f37 (bN 7 q38) f39 f40 f41 (b2 m42_0 m42_1) f43 f44 f47 f48 f49 f50 f51 (bN 13 q54) (bN 120 z55_2) (bN 120 z56_3) z57_4 (bN 120 z58_5) f59 g_84 f64) ∧ va_S A s.heap H locs ∧ lv_has ls 7 [(0, .ref (ad 0)), (1, .int p0), (2, .int (nI (x61 + 1))), (3, .int (nI g_35)), (4, .int (nI g_59)), (5, .int y_82), (6, .int (nI g_83))]) 223 ?_ (fun j_85 => ?_)
            · rintro H locs ls st ⟨g_83, g_84, rfl, hg_83, he_87, hP, hD, hS, hl⟩
              rw [← he_87] at hsp
              refine lv_iinc (v := (nI (g_59 + 1))) (lv' := [(4, .int (nI (g_59 + 1))), (0, .ref (ad 0)), (1, .int p0), (2, .int (nI (x61 + 1))), (3, .int (nI g_35)), (5, .int y_82), (6, .int (nI g_83))]) hx hb dX9_spanned_223 hl (k := 4) rfl (nI_1 _) (by decide) rfl (fun ls hl => ?_)
              refine lv_goto (tgt := 138) hx hb dX9_spanned_226 (by decide) ?_
              exact ih_60 (120 - (g_59 + 1)) (by omega) _ _ _ ⟨g_84, (g_59 + 1), rfl, (by omega), hin_64 _ hsp, hP, hD, hS, lv_sub hl [1, 2, 3, 4, 0] rfl⟩
            have hsp := hJR_86
            obtain ⟨lf_93, dlf_93, hlf_93, hsp⟩ := itr_ex hsp
            delta sp_EM_spanned_L2 at hlf_93
            refine pu_while (fun nn H locs ls => ∃ (g_90 : Nat → Int32) (g_91 : Nat), nn = 120 - g_91 ∧ g_91 ≤ 120 ∧ JR_86 = itrv dlf_93 lf_93 (g_90, g_91) ∧ va_P (dC, dI) vwCl (mo_w ad ck x0 (nI x16) (nI x18) (nI x19) x20 (nI x21) (nI x22) x23 x24 x25 (nI x26) x27 (nI x28) (nI x29) (nI x30) (nI x33) x45 (nI x46) (nI x52) (nI x53) (nI x61) (nI z62_6) (nI z63_7) (nI x65) x66 f1 f2 f3 (bN 3 q4) (bN 7 q5) (bN 7 q6) (bN 4 q7) f8 (bN 2 q9) (bH q10) f11 (b2 m12_0 m12_1) (b2 m13_0 m13_1) (b2 m14_0 m14_1) (b2m m15_0 m15_1) f17 (bA 159 q31) f32 f34 f35 f36 f37 (bN 7 q38) f39 f40 f41 (b2 m42_0 m42_1) f43 f44 f47 f48 f49 f50 f51 (bN 13 q54) (bN 120 z55_2) (bN 120 z56_3) z57_4 (bN 120 z58_5) f59 g_90 f64) H ∧ va_D A (mo_w ad ck x0 (nI x16) (nI x18) (nI x19) x20 (nI x21) (nI x22) x23 x24 x25 (nI x26) x27 (nI x28) (nI x29) (nI x30) (nI x33) x45 (nI x46) (nI x52) (nI x53) (nI x61) (nI z62_6) (nI z63_7) (nI x65) x66 f1 f2 f3 (bN 3 q4) (bN 7 q5) (bN 7 q6) (bN 4 q7) f8 (bN 2 q9) (bH q10) f11 (b2 m12_0 m12_1) (b2 m13_0 m13_1) (b2 m14_0 m14_1) (b2m m15_0 m15_1) f17 (bA 159 q31) f32 f34 f35 f36 f37 (bN 7 q38) f39 f40 f41 (b2 m42_0 m42_1) f43 f44 f47 f48 f49 f50 f51 (bN 13 q54) (bN 120 z55_2) (bN 120 z56_3) z57_4 (bN 120 z58_5) f59 g_90 f64) ∧ va_S A s.heap H locs ∧ lv_has ls 7 [(0, .ref (ad 0)), (1, .int p0), (2, .int (nI (x61 + 1))), (3, .int (nI g_35)), (4, .int (nI g_59)), (5, .int y_82), (6, .int (nI g_91))]) 160 ?_ _ _ _ _ ⟨g_58, 0, rfl, (Nat.le_of_ble_eq_true rfl), hsp, hP, hD, hS, lv_sub hl [2, 3, 4, 5, 6, 1, 0] rfl⟩
            rintro nn ih_92 H locs ls ⟨g_90, g_91, rfl, hg_91, he_95, hP, hD, hS, hl⟩
            obtain ⟨S_94, hsp, hin_96, hout_97⟩ := itr_step hlf_93 he_95
            refine lv_iload hx hb dX9_spanned_160 (lv_at hl 5 rfl) ?_
            refine lv_ldcw hx hb hown v_9 dX9_spanned_162 ?_
            refine lv_icmp_ge (tgt := 223) hx hb dX9_spanned_165 (by decide) (fun c_98 => ?_) (fun c_98 => ?_)
            · have hcc_98 := c_98
              replace hsp := hsp.trans (if_pos c_98)
              have hsp := hout_97 _ hsp
              exact j_85 _ _ _ _ ⟨g_91, g_90, rfl, hg_91, hsp.symm, hP, hD, hS, lv_sub hl [0, 1, 2, 3, 4, 5, 6] rfl⟩
            · have hcc_98 := c_98
              replace hsp := hsp.trans (if_neg c_98)
              refine lv_iload hx hb dX9_spanned_168 (lv_at hl 6 rfl) ?_
              refine lv_iload_n hx hb dX9_spanned_170 rfl (lv_at hl 2 rfl) ?_
              refine lv_icmp_ge (tgt := 223) hx hb dX9_spanned_171 (by decide) (fun c_99 => ?_) (fun c_99 => ?_)
              · have c_99 : (x61 + 1) ≤ g_91 := (nI_leI (a := (x61 + 1)) (b := g_91) (by omega) (Nat.lt_of_le_of_lt hg_91 (Nat.le_of_ble_eq_true rfl))).mp c_99
                replace hsp := hsp.trans (if_pos c_99)
                have hsp := hout_97 _ hsp
                exact j_85 _ _ _ _ ⟨g_91, g_90, rfl, hg_91, hsp.symm, hP, hD, hS, lv_sub hl [0, 1, 2, 3, 4, 5, 6] rfl⟩
              · have c_99 : ¬ (x61 + 1) ≤ g_91 := fun z => c_99 ((nI_leI (a := (x61 + 1)) (b := g_91) (by omega) (Nat.lt_of_le_of_lt hg_91 (Nat.le_of_ble_eq_true rfl))).mpr z)
                replace hsp := hsp.trans (if_neg c_99)
                refine lv_aload_n hx hb dX9_spanned_174 rfl (lv_at hl 0 rfl) ?_
                refine va_get (D := (dC, dI)) (ci := 9) (v := .ref (ad 60)) (C := RX9) (T := TX9) (N := 67) hx hb hts hiX9 hown hK hP 0 rfl rfl 60 (by decide) v_8 (fun _ h9 => h9) rfl dX9_spanned_175 ?_
                refine lv_iload_n hx hb dX9_spanned_178 rfl (lv_at hl 2 rfl) ?_
                refine lv_iload hx hb dX9_spanned_179 (lv_at hl 4 rfl) ?_
                refine lv_imul hx hb dX9_spanned_181 ?_
                refine lv_topi (fun y_100 ey_100 => ?_)
                obtain rfl : y_100 = (nI ((x61 + 1) * g_59)) := ey_100.trans (pk_mul (x61 + 1) g_59)
                refine lv_iload hx hb dX9_spanned_182 (lv_at hl 6 rfl) ?_
                refine lv_iadd hx hb dX9_spanned_184 ?_
                refine lv_topi (fun y_101 ey_101 => ?_)
                obtain rfl : y_101 = (nI (((x61 + 1) * g_59) + g_91)) := ey_101.trans (nI_add ((x61 + 1) * g_59) g_91)
                refine lv_aload_n hx hb dX9_spanned_185 rfl (lv_at hl 0 rfl) ?_
                refine va_get (D := (dC, dI)) (ci := 9) (v := .ref (ad 60)) (C := RX9) (T := TX9) (N := 67) hx hb hts hiX9 hown hK hP 0 rfl rfl 60 (by decide) v_8 (fun _ h9 => h9) rfl dX9_spanned_186 ?_
                refine lv_iload_n hx hb dX9_spanned_189 rfl (lv_at hl 2 rfl) ?_
                refine lv_iload hx hb dX9_spanned_190 (lv_at hl 4 rfl) ?_
                refine lv_imul hx hb dX9_spanned_192 ?_
                refine lv_topi (fun y_102 ey_102 => ?_)
                obtain rfl : y_102 = (nI ((x61 + 1) * g_59)) := ey_102.trans (pk_mul (x61 + 1) g_59)
                refine lv_iload hx hb dX9_spanned_193 (lv_at hl 6 rfl) ?_
                refine lv_iadd hx hb dX9_spanned_195 ?_
                refine lv_topi (fun y_103 ey_103 => ?_)
                obtain rfl : y_103 = (nI (((x61 + 1) * g_59) + g_91)) := ey_103.trans (nI_add ((x61 + 1) * g_59) g_91)
                refine va_iald hx hb hK hP 41 40 rfl rfl (vp_in_nI (n := (((x61 + 1) * g_59) + g_91)) (by first | exact sp_ix (by omega) (by omega) (by omega) | exact sp_ix0 (by omega) (by omega)) (by omega)) dX9_spanned_196 ?_
                refine lv_topi (fun y_104 ey_104 => ?_)
                have ey_104 : y_104 = g_90 (((x61 + 1) * g_59) + g_91) := ey_104.trans (congrArg g_90 (nI_clamp (n := (((x61 + 1) * g_59) + g_91)) (by first | omega | exact Nat.lt_trans (sp_ix (by omega) (by omega) (by omega)) (by decide : 14641 < 2 ^ 31) | exact Nat.lt_trans (sp_ix0 (by omega) (by omega)) (by decide : 14641 < 2 ^ 31) | exact Nat.lt_trans (zx16 (by omega) (by omega) (by omega)) (Nat.le_of_ble_eq_true rfl) | exact Nat.lt_trans (zy16 (by omega) (by omega)) (Nat.le_of_ble_eq_true rfl) | exact Nat.lt_trans (zx25 (by omega) (by omega) (by omega)) (Nat.le_of_ble_eq_true rfl) | exact Nat.lt_trans (zy25 (by omega) (by omega)) (Nat.le_of_ble_eq_true rfl))))
                replace hsp := hsp.trans (slet_eq ey_104)
                refine lv_iload hx hb dX9_spanned_197 (lv_at hl 5 rfl) ?_
                refine lv_aload_n hx hb dX9_spanned_199 rfl (lv_at hl 0 rfl) ?_
                refine va_get (D := (dC, dI)) (ci := 9) (v := .ref (ad 60)) (C := RX9) (T := TX9) (N := 67) hx hb hts hiX9 hown hK hP 0 rfl rfl 60 (by decide) v_8 (fun _ h9 => h9) rfl dX9_spanned_200 ?_
                refine lv_iload_n hx hb dX9_spanned_203 rfl (lv_at hl 2 rfl) ?_
                refine lv_iload_n hx hb dX9_spanned_204 rfl (lv_at hl 3 rfl) ?_
                refine lv_imul hx hb dX9_spanned_205 ?_
                refine lv_topi (fun y_105 ey_105 => ?_)
                obtain rfl : y_105 = (nI ((x61 + 1) * g_35)) := ey_105.trans (pk_mul (x61 + 1) g_35)
                refine lv_iload hx hb dX9_spanned_206 (lv_at hl 6 rfl) ?_
                refine lv_iadd hx hb dX9_spanned_208 ?_
                refine lv_topi (fun y_106 ey_106 => ?_)
                obtain rfl : y_106 = (nI (((x61 + 1) * g_35) + g_91)) := ey_106.trans (nI_add ((x61 + 1) * g_35) g_91)
                refine va_iald hx hb hK hP 41 40 rfl rfl (vp_in_nI (n := (((x61 + 1) * g_35) + g_91)) (by first | exact sp_ix (by omega) (by omega) (by omega) | exact sp_ix0 (by omega) (by omega)) (by omega)) dX9_spanned_209 ?_
                refine lv_topi (fun y_107 ey_107 => ?_)
                have ey_107 : y_107 = g_90 (((x61 + 1) * g_35) + g_91) := ey_107.trans (congrArg g_90 (nI_clamp (n := (((x61 + 1) * g_35) + g_91)) (by first | omega | exact Nat.lt_trans (sp_ix (by omega) (by omega) (by omega)) (by decide : 14641 < 2 ^ 31) | exact Nat.lt_trans (sp_ix0 (by omega) (by omega)) (by decide : 14641 < 2 ^ 31) | exact Nat.lt_trans (zx16 (by omega) (by omega) (by omega)) (Nat.le_of_ble_eq_true rfl) | exact Nat.lt_trans (zy16 (by omega) (by omega)) (Nat.le_of_ble_eq_true rfl) | exact Nat.lt_trans (zx25 (by omega) (by omega) (by omega)) (Nat.le_of_ble_eq_true rfl) | exact Nat.lt_trans (zy25 (by omega) (by omega)) (Nat.le_of_ble_eq_true rfl))))
                replace hsp := hsp.trans (slet_eq ey_107)
                refine va_calli (va_runS (As := [.int y_82, .int y_107]) (rest := [.int y_104, .int (nI (((x61 + 1) * g_59) + g_91)), .ref (ad 60)]) ⟨hx, hb, hml, hown, hts⟩ (c_EM_together l dC dI _ ad ck x0 x16 x18 x19 x20 x21 x22 x23 x24 x25 x26 x27 x28 x29 x30 x33 x45 x46 x52 x53 x61 z62_6 z63_7 x65 x66 f1 f2 f3 q4 q5 q6 q7 f8 q9 q10 f11 m12_0 m12_1 m13_0 m13_1 m14_0 m14_1 m15_0 m15_1 f17 q31 f32 f34 f35 f36 f37 q38 f39 f40 f41 m42_0 m42_1 f43 f44 f47 f48 f49 f50 f51 q54 z55_2 z56_3 z57_4 z58_5 f59 g_90 f64 y_82 y_107 hx16 hx18 hx19 hx21 hx22 hx26 hx28 hx29 hx30 hx33 hx46 hx52 hx53 hx61 hz62_6 hz63_7 hx65 hm12_0 hm12_1 hm13_0 hm13_1 hm14_0 hm14_1 hm15_0 hm15_1 hm42_0 hm42_1) (va_cwS 2 hts g_EM_spanned_EM_together rfl rfl rfl (by decide +kernel) ⟨Nat.le_of_ble_eq_true rfl, Nat.le_of_ble_eq_true rfl⟩) ⟨pu_bl, pu_in hP hK hD⟩ rfl rfl hl.1 rfl (lv_room (Nat.le_of_ble_eq_true rfl)) dX9_spanned_210 ⟨Nat.le_of_ble_eq_true rfl, Nat.le_of_ble_eq_true rfl⟩) hS (fun q _ h => pu_fr hS hA q h) (pu_fr hS hA) (fun r_108 u t H1 locs ht hvm hw hB hz1 hk1 hS => ?_)
                have hP := pu_keep hP hk1
                clear hk1 hz1 ht hvm
                generalize H1 = H at hP hS ⊢
                have ir_108 := hw
                replace hsp := hsp.trans (slet_eq ir_108)
                refine va_calli (va_runS (As := [.int y_104, .int r_108]) (rest := [.int (nI (((x61 + 1) * g_59) + g_91)), .ref (ad 60)]) ⟨hx, hb, hml, hown, hts⟩ (c_EM_lesser l dC dI _ ad ck x0 x16 x18 x19 x20 x21 x22 x23 x24 x25 x26 x27 x28 x29 x30 x33 x45 x46 x52 x53 x61 z62_6 z63_7 x65 x66 f1 f2 f3 q4 q5 q6 q7 f8 q9 q10 f11 m12_0 m12_1 m13_0 m13_1 m14_0 m14_1 m15_0 m15_1 f17 q31 f32 f34 f35 f36 f37 q38 f39 f40 f41 m42_0 m42_1 f43 f44 f47 f48 f49 f50 f51 q54 z55_2 z56_3 z57_4 z58_5 f59 g_90 f64 y_104 r_108 hx16 hx18 hx19 hx21 hx22 hx26 hx28 hx29 hx30 hx33 hx46 hx52 hx53 hx61 hz62_6 hz63_7 hx65 hm12_0 hm12_1 hm13_0 hm13_1 hm14_0 hm14_1 hm15_0 hm15_1 hm42_0 hm42_1) (va_cwS 2 hts g_EM_spanned_EM_lesser rfl rfl rfl (by decide +kernel) ⟨Nat.le_of_ble_eq_true rfl, Nat.le_of_ble_eq_true rfl⟩) ⟨pu_bl, pu_in hP hK hD⟩ rfl rfl hl.1 rfl (lv_room (Nat.le_of_ble_eq_true rfl)) dX9_spanned_213 ⟨Nat.le_of_ble_eq_true rfl, Nat.le_of_ble_eq_true rfl⟩) hS (fun q _ h => pu_fr hS hA q h) (pu_fr hS hA) (fun r_109 u t H1 locs ht hvm hw hB hz1 hk1 hS => ?_)
                have hP := pu_keep hP hk1
                clear hk1 hz1 ht hvm
                generalize H1 = H at hP hS ⊢
                have ir_109 := hw
                replace hsp := hsp.trans (slet_eq ir_109)
                refine va_iast hx hb hK hP hD hS 41 40 rfl rfl (vp_in_nI (n := (((x61 + 1) * g_59) + g_91)) (by first | exact sp_ix (by omega) (by omega) (by omega) | exact sp_ix0 (by omega) (by omega)) (by omega)) dX9_spanned_216 (fun H locs hP hD hS => ?_)
                obtain ⟨f_110, ef_110, xf_110⟩ := up_x g_90 (n := (((x61 + 1) * g_59) + g_91)) r_109 (by first | omega | exact Nat.lt_trans (sp_ix (by omega) (by omega) (by omega)) (by decide : 14641 < 2 ^ 31) | exact Nat.lt_trans (sp_ix0 (by omega) (by omega)) (by decide : 14641 < 2 ^ 31) | exact Nat.lt_trans (zx16 (by omega) (by omega) (by omega)) (Nat.le_of_ble_eq_true rfl) | exact Nat.lt_trans (zy16 (by omega) (by omega)) (Nat.le_of_ble_eq_true rfl) | exact Nat.lt_trans (zx25 (by omega) (by omega) (by omega)) (Nat.le_of_ble_eq_true rfl) | exact Nat.lt_trans (zy25 (by omega) (by omega)) (Nat.le_of_ble_eq_true rfl))
                have hP : va_P (dC, dI) vwCl (mo_w ad ck x0 (nI x16) (nI x18) (nI x19) x20 (nI x21) (nI x22) x23 x24 x25 (nI x26) x27 (nI x28) (nI x29) (nI x30) (nI x33) x45 (nI x46) (nI x52) (nI x53) (nI x61) (nI z62_6) (nI z63_7) (nI x65) x66 f1 f2 f3 (bN 3 q4) (bN 7 q5) (bN 7 q6) (bN 4 q7) f8 (bN 2 q9) (bH q10) f11 (b2 m12_0 m12_1) (b2 m13_0 m13_1) (b2 m14_0 m14_1) (b2m m15_0 m15_1) f17 (bA 159 q31) f32 f34 f35 f36 f37 (bN 7 q38) f39 f40 f41 (b2 m42_0 m42_1) f43 f44 f47 f48 f49 f50 f51 (bN 13 q54) (bN 120 z55_2) (bN 120 z56_3) z57_4 (bN 120 z58_5) f59 f_110 f64) H := by rw [← ef_110]; exact hP
                have hD : va_D A (mo_w ad ck x0 (nI x16) (nI x18) (nI x19) x20 (nI x21) (nI x22) x23 x24 x25 (nI x26) x27 (nI x28) (nI x29) (nI x30) (nI x33) x45 (nI x46) (nI x52) (nI x53) (nI x61) (nI z62_6) (nI z63_7) (nI x65) x66 f1 f2 f3 (bN 3 q4) (bN 7 q5) (bN 7 q6) (bN 4 q7) f8 (bN 2 q9) (bH q10) f11 (b2 m12_0 m12_1) (b2 m13_0 m13_1) (b2 m14_0 m14_1) (b2m m15_0 m15_1) f17 (bA 159 q31) f32 f34 f35 f36 f37 (bN 7 q38) f39 f40 f41 (b2 m42_0 m42_1) f43 f44 f47 f48 f49 f50 f51 (bN 13 q54) (bN 120 z55_2) (bN 120 z56_3) z57_4 (bN 120 z58_5) f59 f_110 f64) := by rw [← ef_110]; exact hD
                replace hsp := hsp.trans (slet_eq xf_110)
                refine lv_iinc (v := (nI (g_91 + 1))) (lv' := [(6, .int (nI (g_91 + 1))), (0, .ref (ad 0)), (1, .int p0), (2, .int (nI (x61 + 1))), (3, .int (nI g_35)), (4, .int (nI g_59)), (5, .int y_82)]) hx hb dX9_spanned_217 hl (k := 6) rfl (nI_1 _) (by decide) rfl (fun ls hl => ?_)
                refine lv_goto (tgt := 160) hx hb dX9_spanned_220 (by decide) ?_
                exact ih_92 (120 - (g_91 + 1)) (by omega) _ _ _ ⟨f_110, (g_91 + 1), rfl, (by omega), hin_96 _ hsp, hP, hD, hS, lv_sub hl [1, 2, 3, 4, 5, 6, 0] rfl⟩
      · have c_31 : ¬ z62_6 ≤ g_24 := fun z => c_31 ((nI_leI (a := z62_6) (b := g_24) (Nat.lt_of_le_of_lt hz62_6 (Nat.le_of_ble_eq_true rfl)) (Nat.lt_of_le_of_lt hg_24 (Nat.le_of_ble_eq_true rfl))).mpr z)
        replace hsp := hsp.trans (if_neg c_31)
        refine lv_iload_n hx hb dX9_spanned_82 rfl (lv_at hl 2 rfl) ?_
        refine lv_aload_n hx hb dX9_spanned_83 rfl (lv_at hl 0 rfl) ?_
        refine va_get (D := (dC, dI)) (ci := 9) (v := .ref (ad 55)) (C := RX9) (T := TX9) (N := 67) hx hb hts hiX9 hown hK hP 0 rfl rfl 55 (by decide) v_11 (fun _ h9 => h9) rfl dX9_spanned_84 ?_
        refine lv_iload_n hx hb dX9_spanned_87 rfl (lv_at hl 3 rfl) ?_
        refine va_iald hx hb hK hP 36 35 rfl rfl (vp_in_nI (n := g_24) (by omega) (Nat.le_of_ble_eq_true rfl)) dX9_spanned_88 ?_
        refine lv_topi (fun y_111 ey_111 => ?_)
        obtain ⟨u_112, hu_112, qu_112, xu_112⟩ := bN_getx 120 z55_2 (n := g_24) (Nat.lt_of_le_of_lt hg_24 (Nat.le_of_ble_eq_true rfl))
        obtain rfl : y_111 = nI u_112 := ey_111.trans qu_112
        replace hsp := hsp.trans (slet_eq xu_112)
        refine lv_imul hx hb dX9_spanned_89 ?_
        refine lv_topi (fun y_113 ey_113 => ?_)
        obtain rfl : y_113 = (nI ((x61 + 1) * u_112)) := ey_113.trans (pk_mul (x61 + 1) u_112)
        refine lv_aload_n hx hb dX9_spanned_90 rfl (lv_at hl 0 rfl) ?_
        refine va_get (D := (dC, dI)) (ci := 9) (v := .ref (ad 56)) (C := RX9) (T := TX9) (N := 67) hx hb hts hiX9 hown hK hP 0 rfl rfl 56 (by decide) v_12 (fun _ h9 => h9) rfl dX9_spanned_91 ?_
        refine lv_iload_n hx hb dX9_spanned_94 rfl (lv_at hl 3 rfl) ?_
        refine va_iald hx hb hK hP 37 36 rfl rfl (vp_in_nI (n := g_24) (by omega) (Nat.le_of_ble_eq_true rfl)) dX9_spanned_95 ?_
        refine lv_topi (fun y_114 ey_114 => ?_)
        obtain ⟨u_115, hu_115, qu_115, xu_115⟩ := bN_getx 120 z56_3 (n := g_24) (Nat.lt_of_le_of_lt hg_24 (Nat.le_of_ble_eq_true rfl))
        obtain rfl : y_114 = nI u_115 := ey_114.trans qu_115
        replace hsp := hsp.trans (slet_eq xu_115)
        refine lv_iadd hx hb dX9_spanned_96 ?_
        refine lv_topi (fun y_116 ey_116 => ?_)
        obtain rfl : y_116 = (nI (((x61 + 1) * u_112) + u_115)) := ey_116.trans (nI_add ((x61 + 1) * u_112) u_115)
        refine lv_istore (lv' := [(4, .int (nI (((x61 + 1) * u_112) + u_115))), (0, .ref (ad 0)), (1, .int p0), (2, .int (nI (x61 + 1))), (3, .int (nI g_24))]) hx hb dX9_spanned_97 hl (by decide) rfl (fun ls hl => ?_)
        refine lv_aload_n hx hb dX9_spanned_99 rfl (lv_at hl 1 rfl) ?_
        refine va_get (D := (dC, dI)) (ci := 9) (v := .ref (ad 60)) (C := RX9) (T := TX9) (N := 67) hx hb hts hiX9 hown hK hP 0 rfl rfl 60 (by decide) v_8 (fun _ h9 => h9) rfl dX9_spanned_100 ?_
        refine lv_iload hx hb dX9_spanned_103 (lv_at hl 0 rfl) ?_
        refine lv_aload_n hx hb dX9_spanned_105 rfl (lv_at hl 1 rfl) ?_
        refine va_get (D := (dC, dI)) (ci := 9) (v := .ref (ad 60)) (C := RX9) (T := TX9) (N := 67) hx hb hts hiX9 hown hK hP 0 rfl rfl 60 (by decide) v_8 (fun _ h9 => h9) rfl dX9_spanned_106 ?_
        refine lv_iload hx hb dX9_spanned_109 (lv_at hl 0 rfl) ?_
        refine va_iald hx hb hK hP 41 40 rfl rfl (vp_in_nI (n := (((x61 + 1) * u_112) + u_115)) (by first | exact sp_ix (by omega) (by omega) (by omega) | exact sp_ix0 (by omega) (by omega)) (by omega)) dX9_spanned_111 ?_
        refine lv_topi (fun y_117 ey_117 => ?_)
        have ey_117 : y_117 = g_23 (((x61 + 1) * u_112) + u_115) := ey_117.trans (congrArg g_23 (nI_clamp (n := (((x61 + 1) * u_112) + u_115)) (by first | omega | exact Nat.lt_trans (sp_ix (by omega) (by omega) (by omega)) (by decide : 14641 < 2 ^ 31) | exact Nat.lt_trans (sp_ix0 (by omega) (by omega)) (by decide : 14641 < 2 ^ 31) | exact Nat.lt_trans (zx16 (by omega) (by omega) (by omega)) (Nat.le_of_ble_eq_true rfl) | exact Nat.lt_trans (zy16 (by omega) (by omega)) (Nat.le_of_ble_eq_true rfl) | exact Nat.lt_trans (zx25 (by omega) (by omega) (by omega)) (Nat.le_of_ble_eq_true rfl) | exact Nat.lt_trans (zy25 (by omega) (by omega)) (Nat.le_of_ble_eq_true rfl))))
        replace hsp := hsp.trans (slet_eq ey_117)
        refine lv_aload_n hx hb dX9_spanned_112 rfl (lv_at hl 1 rfl) ?_
        refine va_get (D := (dC, dI)) (ci := 9) (v := .ref (ad 57)) (C := RX9) (T := TX9) (N := 67) hx hb hts hiX9 hown hK hP 0 rfl rfl 57 (by decide) v_13 (fun _ h9 => h9) rfl dX9_spanned_113 ?_
        refine lv_iload_n hx hb dX9_spanned_116 rfl (lv_at hl 4 rfl) ?_
        refine va_iald hx hb hK hP 38 37 rfl rfl (vp_in_nI (n := g_24) (by omega) (Nat.le_of_ble_eq_true rfl)) dX9_spanned_117 ?_
        refine lv_topi (fun y_118 ey_118 => ?_)
        have ey_118 : y_118 = z57_4 g_24 := ey_118.trans (congrArg z57_4 (nI_clamp (n := g_24) (Nat.lt_of_le_of_lt hg_24 (Nat.le_of_ble_eq_true rfl))))
        replace hsp := hsp.trans (slet_eq ey_118)
        refine va_calli (va_runS (As := [.int y_117, .int y_118]) (rest := [.int (nI (((x61 + 1) * u_112) + u_115)), .ref (ad 60)]) ⟨hx, hb, hml, hown, hts⟩ (c_EM_lesser l dC dI _ ad ck x0 x16 x18 x19 x20 x21 x22 x23 x24 x25 x26 x27 x28 x29 x30 x33 x45 x46 x52 x53 x61 z62_6 z63_7 x65 x66 f1 f2 f3 q4 q5 q6 q7 f8 q9 q10 f11 m12_0 m12_1 m13_0 m13_1 m14_0 m14_1 m15_0 m15_1 f17 q31 f32 f34 f35 f36 f37 q38 f39 f40 f41 m42_0 m42_1 f43 f44 f47 f48 f49 f50 f51 q54 z55_2 z56_3 z57_4 z58_5 f59 g_23 f64 y_117 y_118 hx16 hx18 hx19 hx21 hx22 hx26 hx28 hx29 hx30 hx33 hx46 hx52 hx53 hx61 hz62_6 hz63_7 hx65 hm12_0 hm12_1 hm13_0 hm13_1 hm14_0 hm14_1 hm15_0 hm15_1 hm42_0 hm42_1) (va_cwS 2 hts g_EM_spanned_EM_lesser rfl rfl rfl (by decide +kernel) ⟨Nat.le_of_ble_eq_true rfl, Nat.le_of_ble_eq_true rfl⟩) ⟨pu_bl, pu_in hP hK hD⟩ rfl rfl hl.1 rfl (lv_room (Nat.le_of_ble_eq_true rfl)) dX9_spanned_118 ⟨Nat.le_of_ble_eq_true rfl, Nat.le_of_ble_eq_true rfl⟩) hS (fun q _ h => pu_fr hS hA q h) (pu_fr hS hA) (fun r_119 u t H1 locs ht hvm hw hB hz1 hk1 hS => ?_)
        have hP := pu_keep hP hk1
        clear hk1 hz1 ht hvm
        generalize H1 = H at hP hS ⊢
        have ir_119 := hw
        replace hsp := hsp.trans (slet_eq ir_119)
        refine va_iast hx hb hK hP hD hS 41 40 rfl rfl (vp_in_nI (n := (((x61 + 1) * u_112) + u_115)) (by first | exact sp_ix (by omega) (by omega) (by omega) | exact sp_ix0 (by omega) (by omega)) (by omega)) dX9_spanned_121 (fun H locs hP hD hS => ?_)
        obtain ⟨f_120, ef_120, xf_120⟩ := up_x g_23 (n := (((x61 + 1) * u_112) + u_115)) r_119 (by first | omega | exact Nat.lt_trans (sp_ix (by omega) (by omega) (by omega)) (by decide : 14641 < 2 ^ 31) | exact Nat.lt_trans (sp_ix0 (by omega) (by omega)) (by decide : 14641 < 2 ^ 31) | exact Nat.lt_trans (zx16 (by omega) (by omega) (by omega)) (Nat.le_of_ble_eq_true rfl) | exact Nat.lt_trans (zy16 (by omega) (by omega)) (Nat.le_of_ble_eq_true rfl) | exact Nat.lt_trans (zx25 (by omega) (by omega) (by omega)) (Nat.le_of_ble_eq_true rfl) | exact Nat.lt_trans (zy25 (by omega) (by omega)) (Nat.le_of_ble_eq_true rfl))
        have hP : va_P (dC, dI) vwCl (mo_w ad ck x0 (nI x16) (nI x18) (nI x19) x20 (nI x21) (nI x22) x23 x24 x25 (nI x26) x27 (nI x28) (nI x29) (nI x30) (nI x33) x45 (nI x46) (nI x52) (nI x53) (nI x61) (nI z62_6) (nI z63_7) (nI x65) x66 f1 f2 f3 (bN 3 q4) (bN 7 q5) (bN 7 q6) (bN 4 q7) f8 (bN 2 q9) (bH q10) f11 (b2 m12_0 m12_1) (b2 m13_0 m13_1) (b2 m14_0 m14_1) (b2m m15_0 m15_1) f17 (bA 159 q31) f32 f34 f35 f36 f37 (bN 7 q38) f39 f40 f41 (b2 m42_0 m42_1) f43 f44 f47 f48 f49 f50 f51 (bN 13 q54) (bN 120 z55_2) (bN 120 z56_3) z57_4 (bN 120 z58_5) f59 f_120 f64) H := by rw [← ef_120]; exact hP
        have hD : va_D A (mo_w ad ck x0 (nI x16) (nI x18) (nI x19) x20 (nI x21) (nI x22) x23 x24 x25 (nI x26) x27 (nI x28) (nI x29) (nI x30) (nI x33) x45 (nI x46) (nI x52) (nI x53) (nI x61) (nI z62_6) (nI z63_7) (nI x65) x66 f1 f2 f3 (bN 3 q4) (bN 7 q5) (bN 7 q6) (bN 4 q7) f8 (bN 2 q9) (bH q10) f11 (b2 m12_0 m12_1) (b2 m13_0 m13_1) (b2 m14_0 m14_1) (b2m m15_0 m15_1) f17 (bA 159 q31) f32 f34 f35 f36 f37 (bN 7 q38) f39 f40 f41 (b2 m42_0 m42_1) f43 f44 f47 f48 f49 f50 f51 (bN 13 q54) (bN 120 z55_2) (bN 120 z56_3) z57_4 (bN 120 z58_5) f59 f_120 f64) := by rw [← ef_120]; exact hD
        replace hsp := hsp.trans (slet_eq xf_120)
        refine lv_iinc (v := (nI (g_24 + 1))) (lv' := [(3, .int (nI (g_24 + 1))), (4, .int (nI (((x61 + 1) * u_112) + u_115))), (0, .ref (ad 0)), (1, .int p0), (2, .int (nI (x61 + 1)))]) hx hb dX9_spanned_122 hl (k := 4) rfl (nI_1 _) (by decide) rfl (fun ls hl => ?_)
        refine lv_goto (tgt := 74) hx hb dX9_spanned_125 (by decide) ?_
        exact ih_25 (2000 - (g_24 + 1)) (by omega) _ _ _ ⟨f_120, (g_24 + 1), rfl, (by omega), hin_29 _ hsp, hP, hD, hS, lv_sub hl [2, 3, 4, 0] rfl⟩
    · have c_20 : ¬ (x61 + 1) ≤ g_13 := fun z => c_20 ((nI_leI (a := (x61 + 1)) (b := g_13) (by omega) (Nat.lt_of_le_of_lt hg_13 (Nat.le_of_ble_eq_true rfl))).mpr z)
      replace hsp := hsp.trans (if_neg c_20)
      refine lv_iconst (v := 0) hx hb dX9_spanned_27 (by decide) ?_
      refine lv_istore (lv' := [(4, .int 0), (0, .ref (ad 0)), (1, .int p0), (2, .int (nI (x61 + 1))), (3, .int (nI g_13))]) hx hb dX9_spanned_28 hl (by decide) rfl (fun ls hl => ?_)
      obtain ⟨lf_126, dlf_126, hlf_126, hsp⟩ := itr_ex hsp
      delta sp_EM_spanned_L6 at hlf_126
      refine pu_while (fun nn H locs ls => ∃ (g_123 : Nat → Int32) (g_124 : Nat), nn = 120 - g_124 ∧ g_124 ≤ 120 ∧ S_16 = itrv dlf_126 lf_126 (g_123, g_124) ∧ va_P (dC, dI) vwCl (mo_w ad ck x0 (nI x16) (nI x18) (nI x19) x20 (nI x21) (nI x22) x23 x24 x25 (nI x26) x27 (nI x28) (nI x29) (nI x30) (nI x33) x45 (nI x46) (nI x52) (nI x53) (nI x61) (nI z62_6) (nI z63_7) (nI x65) x66 f1 f2 f3 (bN 3 q4) (bN 7 q5) (bN 7 q6) (bN 4 q7) f8 (bN 2 q9) (bH q10) f11 (b2 m12_0 m12_1) (b2 m13_0 m13_1) (b2 m14_0 m14_1) (b2m m15_0 m15_1) f17 (bA 159 q31) f32 f34 f35 f36 f37 (bN 7 q38) f39 f40 f41 (b2 m42_0 m42_1) f43 f44 f47 f48 f49 f50 f51 (bN 13 q54) (bN 120 z55_2) (bN 120 z56_3) z57_4 (bN 120 z58_5) f59 g_123 f64) H ∧ va_D A (mo_w ad ck x0 (nI x16) (nI x18) (nI x19) x20 (nI x21) (nI x22) x23 x24 x25 (nI x26) x27 (nI x28) (nI x29) (nI x30) (nI x33) x45 (nI x46) (nI x52) (nI x53) (nI x61) (nI z62_6) (nI z63_7) (nI x65) x66 f1 f2 f3 (bN 3 q4) (bN 7 q5) (bN 7 q6) (bN 4 q7) f8 (bN 2 q9) (bH q10) f11 (b2 m12_0 m12_1) (b2 m13_0 m13_1) (b2 m14_0 m14_1) (b2m m15_0 m15_1) f17 (bA 159 q31) f32 f34 f35 f36 f37 (bN 7 q38) f39 f40 f41 (b2 m42_0 m42_1) f43 f44 f47 f48 f49 f50 f51 (bN 13 q54) (bN 120 z55_2) (bN 120 z56_3) z57_4 (bN 120 z58_5) f59 g_123 f64) ∧ va_S A s.heap H locs ∧ lv_has ls 7 [(0, .ref (ad 0)), (1, .int p0), (2, .int (nI (x61 + 1))), (3, .int (nI g_13)), (4, .int (nI g_124))]) 30 ?_ _ _ _ _ ⟨g_12, 0, rfl, (Nat.le_of_ble_eq_true rfl), hsp, hP, hD, hS, lv_sub hl [1, 2, 3, 4, 0] rfl⟩
      rintro nn ih_125 H locs ls ⟨g_123, g_124, rfl, hg_124, he_128, hP, hD, hS, hl⟩
      obtain ⟨S_127, hsp, hin_129, hout_130⟩ := itr_step hlf_126 he_128
      refine lv_iload hx hb dX9_spanned_30 (lv_at hl 4 rfl) ?_
      refine lv_iload_n hx hb dX9_spanned_32 rfl (lv_at hl 2 rfl) ?_
      refine lv_icmp_ge (tgt := 66) hx hb dX9_spanned_33 (by decide) (fun c_131 => ?_) (fun c_131 => ?_)
      · have c_131 : (x61 + 1) ≤ g_124 := (nI_leI (a := (x61 + 1)) (b := g_124) (by omega) (Nat.lt_of_le_of_lt hg_124 (Nat.le_of_ble_eq_true rfl))).mp c_131
        replace hsp := hsp.trans (if_pos c_131)
        have hsp := hout_130 _ hsp
        refine lv_iinc (v := (nI (g_13 + 1))) (lv' := [(3, .int (nI (g_13 + 1))), (0, .ref (ad 0)), (1, .int p0), (2, .int (nI (x61 + 1))), (4, .int (nI g_124))]) hx hb dX9_spanned_66 hl (k := 3) rfl (nI_1 _) (by decide) rfl (fun ls hl => ?_)
        refine lv_goto (tgt := 22) hx hb dX9_spanned_69 (by decide) ?_
        exact ih_14 (120 - (g_13 + 1)) (by omega) _ _ _ ⟨g_123, (g_13 + 1), rfl, (by omega), hin_18 _ hsp, hP, hD, hS, lv_sub hl [1, 2, 3, 0] rfl⟩
      · have c_131 : ¬ (x61 + 1) ≤ g_124 := fun z => c_131 ((nI_leI (a := (x61 + 1)) (b := g_124) (by omega) (Nat.lt_of_le_of_lt hg_124 (Nat.le_of_ble_eq_true rfl))).mpr z)
        replace hsp := hsp.trans (if_neg c_131)
        refine lv_aload_n hx hb dX9_spanned_36 rfl (lv_at hl 0 rfl) ?_
        refine va_get (D := (dC, dI)) (ci := 9) (v := .ref (ad 60)) (C := RX9) (T := TX9) (N := 67) hx hb hts hiX9 hown hK hP 0 rfl rfl 60 (by decide) v_8 (fun _ h9 => h9) rfl dX9_spanned_37 ?_
        refine lv_iload_n hx hb dX9_spanned_40 rfl (lv_at hl 2 rfl) ?_
        refine lv_iload_n hx hb dX9_spanned_41 rfl (lv_at hl 3 rfl) ?_
        refine lv_imul hx hb dX9_spanned_42 ?_
        refine lv_topi (fun y_132 ey_132 => ?_)
        obtain rfl : y_132 = (nI ((x61 + 1) * g_13)) := ey_132.trans (pk_mul (x61 + 1) g_13)
        refine lv_iload hx hb dX9_spanned_43 (lv_at hl 4 rfl) ?_
        refine lv_iadd hx hb dX9_spanned_45 ?_
        refine lv_topi (fun y_133 ey_133 => ?_)
        obtain rfl : y_133 = (nI (((x61 + 1) * g_13) + g_124)) := ey_133.trans (nI_add ((x61 + 1) * g_13) g_124)
        refine lv_iload_n hx hb dX9_spanned_46 rfl (lv_at hl 3 rfl) ?_
        refine lv_iload hx hb dX9_spanned_47 (lv_at hl 4 rfl) ?_
        obtain ⟨JR_136, hJR_136, hsp⟩ := slet_ex hsp
        refine pu_join (fun H locs ls st => ∃ (g_134 : Nat), st = [.int (nI g_134), .int (nI (((x61 + 1) * g_13) + g_124)), .ref (ad 60)] ∧ (1 ≤ g_134 ∧ g_134 ≤ 1048576) ∧ g_134 = JR_136 ∧ va_P (dC, dI) vwCl (mo_w ad ck x0 (nI x16) (nI x18) (nI x19) x20 (nI x21) (nI x22) x23 x24 x25 (nI x26) x27 (nI x28) (nI x29) (nI x30) (nI x33) x45 (nI x46) (nI x52) (nI x53) (nI x61) (nI z62_6) (nI z63_7) (nI x65) x66 f1 f2 f3 (bN 3 q4) (bN 7 q5) (bN 7 q6) (bN 4 q7) f8 (bN 2 q9) (bH q10) f11 (b2 m12_0 m12_1) (b2 m13_0 m13_1) (b2 m14_0 m14_1) (b2m m15_0 m15_1) f17 (bA 159 q31) f32 f34 f35 f36 f37 (bN 7 q38) f39 f40 f41 (b2 m42_0 m42_1) f43 f44 f47 f48 f49 f50 f51 (bN 13 q54) (bN 120 z55_2) (bN 120 z56_3) z57_4 (bN 120 z58_5) f59 g_123 f64) H ∧ va_D A (mo_w ad ck x0 (nI x16) (nI x18) (nI x19) x20 (nI x21) (nI x22) x23 x24 x25 (nI x26) x27 (nI x28) (nI x29) (nI x30) (nI x33) x45 (nI x46) (nI x52) (nI x53) (nI x61) (nI z62_6) (nI z63_7) (nI x65) x66 f1 f2 f3 (bN 3 q4) (bN 7 q5) (bN 7 q6) (bN 4 q7) f8 (bN 2 q9) (bH q10) f11 (b2 m12_0 m12_1) (b2 m13_0 m13_1) (b2 m14_0 m14_1) (b2m m15_0 m15_1) f17 (bA 159 q31) f32 f34 f35 f36 f37 (bN 7 q38) f39 f40 f41 (b2 m42_0 m42_1) f43 f44 f47 f48 f49 f50 f51 (bN 13 q54) (bN 120 z55_2) (bN 120 z56_3) z57_4 (bN 120 z58_5) f59 g_123 f64) ∧ va_S A s.heap H locs ∧ lv_has ls 7 [(0, .ref (ad 0)), (1, .int p0), (2, .int (nI (x61 + 1))), (3, .int (nI g_13)), (4, .int (nI g_124))]) 59 ?_ (fun j_135 => ?_)
        · rintro H locs ls st ⟨g_134, rfl, hg_134, he_137, hP, hD, hS, hl⟩
          rw [← he_137] at hsp
          refine va_iast hx hb hK hP hD hS 41 40 rfl rfl (vp_in_nI (n := (((x61 + 1) * g_13) + g_124)) (by first | exact sp_ix (by omega) (by omega) (by omega) | exact sp_ix0 (by omega) (by omega)) (by omega)) dX9_spanned_59 (fun H locs hP hD hS => ?_)
          obtain ⟨f_138, ef_138, xf_138⟩ := up_x g_123 (n := (((x61 + 1) * g_13) + g_124)) (nI g_134) (by first | omega | exact Nat.lt_trans (sp_ix (by omega) (by omega) (by omega)) (by decide : 14641 < 2 ^ 31) | exact Nat.lt_trans (sp_ix0 (by omega) (by omega)) (by decide : 14641 < 2 ^ 31) | exact Nat.lt_trans (zx16 (by omega) (by omega) (by omega)) (Nat.le_of_ble_eq_true rfl) | exact Nat.lt_trans (zy16 (by omega) (by omega)) (Nat.le_of_ble_eq_true rfl) | exact Nat.lt_trans (zx25 (by omega) (by omega) (by omega)) (Nat.le_of_ble_eq_true rfl) | exact Nat.lt_trans (zy25 (by omega) (by omega)) (Nat.le_of_ble_eq_true rfl))
          have hP : va_P (dC, dI) vwCl (mo_w ad ck x0 (nI x16) (nI x18) (nI x19) x20 (nI x21) (nI x22) x23 x24 x25 (nI x26) x27 (nI x28) (nI x29) (nI x30) (nI x33) x45 (nI x46) (nI x52) (nI x53) (nI x61) (nI z62_6) (nI z63_7) (nI x65) x66 f1 f2 f3 (bN 3 q4) (bN 7 q5) (bN 7 q6) (bN 4 q7) f8 (bN 2 q9) (bH q10) f11 (b2 m12_0 m12_1) (b2 m13_0 m13_1) (b2 m14_0 m14_1) (b2m m15_0 m15_1) f17 (bA 159 q31) f32 f34 f35 f36 f37 (bN 7 q38) f39 f40 f41 (b2 m42_0 m42_1) f43 f44 f47 f48 f49 f50 f51 (bN 13 q54) (bN 120 z55_2) (bN 120 z56_3) z57_4 (bN 120 z58_5) f59 f_138 f64) H := by rw [← ef_138]; exact hP
          have hD : va_D A (mo_w ad ck x0 (nI x16) (nI x18) (nI x19) x20 (nI x21) (nI x22) x23 x24 x25 (nI x26) x27 (nI x28) (nI x29) (nI x30) (nI x33) x45 (nI x46) (nI x52) (nI x53) (nI x61) (nI z62_6) (nI z63_7) (nI x65) x66 f1 f2 f3 (bN 3 q4) (bN 7 q5) (bN 7 q6) (bN 4 q7) f8 (bN 2 q9) (bH q10) f11 (b2 m12_0 m12_1) (b2 m13_0 m13_1) (b2 m14_0 m14_1) (b2m m15_0 m15_1) f17 (bA 159 q31) f32 f34 f35 f36 f37 (bN 7 q38) f39 f40 f41 (b2 m42_0 m42_1) f43 f44 f47 f48 f49 f50 f51 (bN 13 q54) (bN 120 z55_2) (bN 120 z56_3) z57_4 (bN 120 z58_5) f59 f_138 f64) := by rw [← ef_138]; exact hD
          replace hsp := hsp.trans (slet_eq xf_138)
          refine lv_iinc (v := (nI (g_124 + 1))) (lv' := [(4, .int (nI (g_124 + 1))), (0, .ref (ad 0)), (1, .int p0), (2, .int (nI (x61 + 1))), (3, .int (nI g_13))]) hx hb dX9_spanned_60 hl (k := 4) rfl (nI_1 _) (by decide) rfl (fun ls hl => ?_)
          refine lv_goto (tgt := 30) hx hb dX9_spanned_63 (by decide) ?_
          exact ih_125 (120 - (g_124 + 1)) (by omega) _ _ _ ⟨f_138, (g_124 + 1), rfl, (by omega), hin_129 _ hsp, hP, hD, hS, lv_sub hl [1, 2, 3, 4, 0] rfl⟩
        have hsp := hJR_136
        refine lv_icmp_ne (tgt := 56) hx hb dX9_spanned_49 (by decide) (fun c_139 => ?_) (fun c_139 => ?_)
        · have c_139 : ¬ g_13 = g_124 := fun z => c_139 ((nI_eq (a := g_13) (b := g_124) (Nat.lt_of_le_of_lt hg_13 (Nat.le_of_ble_eq_true rfl)) (Nat.lt_of_le_of_lt hg_124 (Nat.le_of_ble_eq_true rfl))).mpr z)
          replace hsp := hsp.trans (if_neg c_139)
          refine lv_ldcw hx hb hown v_9 dX9_spanned_56 ?_
          exact j_135 _ _ _ _ ⟨1048576, rfl, ⟨by omega, by omega⟩, hsp.symm, hP, hD, hS, lv_sub hl [0, 1, 2, 3, 4] rfl⟩
        · have c_139 : g_13 = g_124 := (nI_eq (a := g_13) (b := g_124) (Nat.lt_of_le_of_lt hg_13 (Nat.le_of_ble_eq_true rfl)) (Nat.lt_of_le_of_lt hg_124 (Nat.le_of_ble_eq_true rfl))).mp c_139
          replace hsp := hsp.trans (if_pos c_139)
          refine lv_iconst (v := 1) hx hb dX9_spanned_52 (by decide) ?_
          refine lv_goto (tgt := 59) hx hb dX9_spanned_53 (by decide) ?_
          exact j_135 _ _ _ _ ⟨1, rfl, ⟨by omega, by omega⟩, hsp.symm, hP, hD, hS, lv_sub hl [0, 1, 2, 3, 4] rfl⟩
  · have c_8 : ¬ z63_7 = 0 := fun z => c_8 ((nI_eq (a := z63_7) (b := 0) (Nat.lt_of_le_of_lt hz63_7 (Nat.le_of_ble_eq_true rfl)) (Nat.le_of_ble_eq_true rfl)).mpr z)
    replace hsp := hsp.trans (if_neg c_8)
    refine lv_iconst (v := (-1)) hx hb dX9_spanned_11 (by decide) ?_
    exact W.iret (v := (-1)) hx hb hr (fun t ht hW => ⟨⟨(-1), (), rfl, (congrArg Prod.fst (hsp.symm.trans hRR)), ⟨z55_2, z56_3, z57_4, z58_5, f60, z62_6, z63_7, ⟨by rw [ht]; exact hP, va_K.moved hW.alike hK, hD⟩, hz62_6, hz63_7, (congrArg Prod.snd (hsp.symm.trans hRR))⟩⟩, hS.F ht⟩) hS.2.2 dX9_spanned_12
theorem dX9_spans_0 : decode cX9_spans 0 = .ok (.aload_n 0, 1) := by decide +kernel
theorem dX9_spans_1 : decode cX9_spans 1 = .ok (.iconst 0, 1) := by decide +kernel
theorem dX9_spans_2 : decode cX9_spans 2 = .ok (.putfield 142, 3) := by decide +kernel
theorem dX9_spans_5 : decode cX9_spans 5 = .ok (.aload_n 0, 1) := by decide +kernel
theorem dX9_spans_6 : decode cX9_spans 6 = .ok (.iload_n 1, 1) := by decide +kernel
theorem dX9_spans_7 : decode cX9_spans 7 = .ok (.invokevirtual 387, 3) := by decide +kernel
theorem dX9_spans_10 : decode cX9_spans 10 = .ok (.ifCond .eq 12, 3) := by decide +kernel
theorem dX9_spans_13 : decode cX9_spans 13 = .ok (.iload_n 2, 1) := by decide +kernel
theorem dX9_spans_14 : decode cX9_spans 14 = .ok (.iconst 0, 1) := by decide +kernel
theorem dX9_spans_15 : decode cX9_spans 15 = .ok (.iconst 3, 1) := by decide +kernel
theorem dX9_spans_16 : decode cX9_spans 16 = .ok (.invokestatic 152, 3) := by decide +kernel
theorem dX9_spans_19 : decode cX9_spans 19 = .ok (.ifCond .ne 5, 3) := by decide +kernel
theorem dX9_spans_22 : decode cX9_spans 22 = .ok (.iconst (-1), 1) := by decide +kernel
theorem dX9_spans_23 : decode cX9_spans 23 = .ok (.ireturn, 1) := by decide +kernel
theorem dX9_spans_24 : decode cX9_spans 24 = .ok (.aload_n 0, 1) := by decide +kernel
theorem dX9_spans_25 : decode cX9_spans 25 = .ok (.iload_n 1, 1) := by decide +kernel
theorem dX9_spans_26 : decode cX9_spans 26 = .ok (.invokevirtual 451, 3) := by decide +kernel
theorem dX9_spans_29 : decode cX9_spans 29 = .ok (.aload_n 0, 1) := by decide +kernel
theorem dX9_spans_30 : decode cX9_spans 30 = .ok (.iload_n 2, 1) := by decide +kernel
theorem dX9_spans_31 : decode cX9_spans 31 = .ok (.invokevirtual 463, 3) := by decide +kernel
theorem dX9_spans_34 : decode cX9_spans 34 = .ok (.ireturn, 1) := by decide +kernel
abbrev vs_EM_spans : List Cond := .code yX9_spans cX9_spans 3 (some .int) :: VM
theorem g_EM_spans_X9_in : GoodIn vs_EM_spans (va_wsS RX9 152 yX9_in vs_X9_in) := gm_0 (fun w h => by
  rcases List.mem_cons.mp h with rfl | h
  · exact vm_137
  rcases List.mem_cons.mp h with rfl | h
  · exact vm_138
  rcases List.mem_cons.mp h with rfl | h
  · exact vm_19
  rcases List.mem_cons.mp h with rfl | h
  · exact vm_139
  exact absurd h (List.not_mem_nil))
theorem g_EM_spans_EM_isState : GoodIn vs_EM_spans (wsV RX9 387 RX9 yX9_isState vs_EM_isState) := gm_V vm_263 vm_264 vm_265 vm_19 vm_266
theorem g_EM_spans_EM_layPath : GoodIn vs_EM_spans (wsV RX9 451 RX9 yX9_layPath vs_EM_layPath) := gm_V vm_328 vm_329 vm_330 vm_19 vm_331
theorem g_EM_spans_EM_spanned : GoodIn vs_EM_spans (wsV RX9 463 RX9 yX9_spanned vs_EM_spanned) := gm_V vm_345 vm_346 vm_347 vm_19 vm_348
noncomputable def sp_EM_spans (x16 : Nat) (x29 : Nat) (x61 : Nat) (x62 : Nat) (x63 : Nat) (f3 : Nat → Int32) (q4 : Nat → Nat) (q5 : Nat → Nat) (q6 : Nat → Nat) (q7 : Nat → Nat) (f8 : Nat → Int32) (q9 : Nat → Nat) (q10 : Nat → Nat) (f11 : Nat → Int32) (m12_0 : Nat) (m12_1 : Nat) (m13_0 : Nat) (m13_1 : Nat) (m14_0 : Nat) (m14_1 : Nat) (m15_0 : Nat) (m15_1 : Nat) (f39 : Nat → Int32) (f40 : Nat → Int32) (f41 : Nat → Int32) (m42_0 : Nat) (q54 : Nat → Nat) (q55 : Nat → Nat) (q56 : Nat → Nat) (f57 : Nat → Int32) (q58 : Nat → Nat) (f60 : Nat → Int32) (p0 : Int32) (p1 : Int32) : Int32 × (Nat → Nat) × (Nat → Nat) × (Nat → Nat) × (Nat → Int32) × (Nat → Nat) × (Nat → Int32) × Int32 × Nat × Nat × Nat × Nat := (slet (sp_EM_isState x16 x29 m12_0 m12_1 m42_0 p0) (fun z46_2 => (if x29 = 1 ∧ (0 : Int32) ≤ p0 ∧ p0 < nI m42_0 then (slet ((p0 : Int32).toNatClampNeg) (fun n_3 => (if (0 : Int32) ≤ p1 ∧ p1 ≤ 3 then (slet ((p1 : Int32).toNatClampNeg) (fun n_5 => (slet (sp_EM_layPath f39 f40 f41 q54 n_3) (fun (z54_7, z61_8) => (slet (sp_EM_spanned x16 z61_8 f3 q4 q5 q6 q7 f8 q9 q10 f11 m12_0 m12_1 m13_0 m13_1 m14_0 m14_1 m15_0 m15_1 z54_7 q55 q56 f57 q58 f60 (nI n_5)) (fun (r_9, z55_10, z56_11, z57_12, z58_13, z60_14, z62_15, z63_16) => (r_9, z54_7, z55_10, z56_11, z57_12, z58_13, z60_14, 0, z46_2, z61_8, z62_15, z63_16))))))) else ((-1), q54, q55, q56, f57, q58, f60, 0, z46_2, x61, x62, x63)))) else ((-1), q54, q55, q56, f57, q58, f60, 0, z46_2, x61, x62, x63))))
set_option maxHeartbeats 4000000 in
set_option maxRecDepth 100000 in
theorem c_EM_spans (l : Launch) (dC : Nat → ClassId) (dI : Nat → Nat → Nat) (sz : Nat) (ad : Nat → Nat) (ck : Nat → ClassId) (x0 : Int32) (x16 : Nat) (x18 : Nat) (x19 : Nat) (x20 : Int32) (x21 : Nat) (x22 : Nat) (x23 : Int32) (x24 : Int32) (x25 : Int32) (x26 : Nat) (x27 : Int32) (x28 : Nat) (x29 : Nat) (x30 : Nat) (x33 : Nat) (x45 : Int32) (x46 : Nat) (x52 : Nat) (x53 : Nat) (x61 : Nat) (x62 : Nat) (x63 : Nat) (x65 : Nat) (x66 : Int32) (f1 : Nat → Int32) (f2 : Nat → Int32) (f3 : Nat → Int32) (q4 : Nat → Nat) (q5 : Nat → Nat) (q6 : Nat → Nat) (q7 : Nat → Nat) (f8 : Nat → Int32) (q9 : Nat → Nat) (q10 : Nat → Nat) (f11 : Nat → Int32) (m12_0 m12_1 : Nat) (m13_0 m13_1 : Nat) (m14_0 m14_1 : Nat) (m15_0 m15_1 : Nat) (f17 : Nat → Int32) (q31 : Nat → Nat) (f32 : Nat → Int32) (f34 : Nat → Int32) (f35 : Nat → Int32) (f36 : Nat → Int32) (f37 : Nat → Int32) (q38 : Nat → Nat) (f39 : Nat → Int32) (f40 : Nat → Int32) (f41 : Nat → Int32) (m42_0 m42_1 : Nat) (f43 : Nat → Int32) (f44 : Nat → Int32) (f47 : Nat → Int32) (f48 : Nat → Int32) (f49 : Nat → Int32) (f50 : Nat → Int32) (f51 : Nat → Int32) (q54 : Nat → Nat) (q55 : Nat → Nat) (q56 : Nat → Nat) (f57 : Nat → Int32) (q58 : Nat → Nat) (f59 : Nat → Int32) (f60 : Nat → Int32) (f64 : Nat → Int32) (p0 : Int32) (p1 : Int32) (hx16 : x16 ≤ 1) (hx18 : x18 ≤ 900) (hx19 : x19 ≤ 900) (hx21 : x21 ≤ 900) (hx22 : x22 ≤ 4) (hx26 : x26 ≤ 6) (hx28 : x28 ≤ 1) (hx29 : x29 ≤ 1) (hx30 : x30 ≤ 1) (hx33 : x33 ≤ 20) (hx46 : x46 ≤ 5) (hx52 : x52 ≤ 2400) (hx53 : x53 ≤ 119) (hx61 : x61 ≤ 119) (hx62 : x62 ≤ 2000) (hx63 : x63 ≤ 1) (hx65 : x65 ≤ 7) (hm12_0 : m12_0 ≤ 3) (hm12_1 : m12_1 ≤ 3) (hm13_0 : m13_0 ≤ 8) (hm13_1 : m13_1 ≤ 8) (hm14_0 : m14_0 ≤ 14) (hm14_1 : m14_1 ≤ 14) (hm15_0 : m15_0 ≤ 8) (hm15_1 : m15_1 ≤ 8) (hm42_0 : m42_0 ≤ 120) (hm42_1 : m42_1 ≤ 400) (hbg : (x16 = 0 ∧ (m13_0 = 0 ∨ 1 ≤ m15_0)) ∨ (x16 = 1 ∧ (m13_1 = 0 ∨ 1 ≤ m15_1))) (hgr : gz_ok m42_0 f39 f40 f41) : Met l yX9_spans vs_EM_spans ({ frames := 6, cells := 0, slots := 0, locals := 138 }) (va_Pc [.ref (ad 0), .int p0, .int p1] (pu_B (dC, dI) (mo_w ad ck x0 (nI x16) (nI x18) (nI x19) x20 (nI x21) (nI x22) x23 x24 x25 (nI x26) x27 (nI x28) (nI x29) (nI x30) (nI x33) x45 (nI x46) (nI x52) (nI x53) (nI x61) (nI x62) (nI x63) (nI x65) x66 f1 f2 f3 (bN 3 q4) (bN 7 q5) (bN 7 q6) (bN 4 q7) f8 (bN 2 q9) (bH q10) f11 (b2 m12_0 m12_1) (b2 m13_0 m13_1) (b2 m14_0 m14_1) (b2m m15_0 m15_1) f17 (bA 159 q31) f32 f34 f35 f36 f37 (bN 7 q38) f39 f40 f41 (b2 m42_0 m42_1) f43 f44 f47 f48 f49 f50 f51 (bN 13 q54) (bN 120 q55) (bN 120 q56) f57 (bN 120 q58) f59 f60 f64) (mo_t ck) sz)) (va_Qi (fun (r : Int32) (_ : Unit) => r = (sp_EM_spans x16 x29 x61 x62 x63 f3 q4 q5 q6 q7 f8 q9 q10 f11 m12_0 m12_1 m13_0 m13_1 m14_0 m14_1 m15_0 m15_1 f39 f40 f41 m42_0 q54 q55 q56 f57 q58 f60 p0 p1).1) (fun _ t => ∃ (z54 : Nat → Nat) (z55 : Nat → Nat) (z56 : Nat → Nat) (z57 : Nat → Int32) (z58 : Nat → Nat) (z60 : Nat → Int32) (z0 : Int32) (z46 : Nat) (z61 : Nat) (z62 : Nat) (z63 : Nat), pu_E (dC, dI) (mo_w ad ck z0 (nI x16) (nI x18) (nI x19) x20 (nI x21) (nI x22) x23 x24 x25 (nI x26) x27 (nI x28) (nI x29) (nI x30) (nI x33) x45 (nI z46) (nI x52) (nI x53) (nI z61) (nI z62) (nI z63) (nI x65) x66 f1 f2 f3 (bN 3 q4) (bN 7 q5) (bN 7 q6) (bN 4 q7) f8 (bN 2 q9) (bH q10) f11 (b2 m12_0 m12_1) (b2 m13_0 m13_1) (b2 m14_0 m14_1) (b2m m15_0 m15_1) f17 (bA 159 q31) f32 f34 f35 f36 f37 (bN 7 q38) f39 f40 f41 (b2 m42_0 m42_1) f43 f44 f47 f48 f49 f50 f51 (bN 13 z54) (bN 120 z55) (bN 120 z56) z57 (bN 120 z58) f59 z60 f64) (mo_t ck) (va_A ((mo_w ad ck x0 (nI x16) (nI x18) (nI x19) x20 (nI x21) (nI x22) x23 x24 x25 (nI x26) x27 (nI x28) (nI x29) (nI x30) (nI x33) x45 (nI x46) (nI x52) (nI x53) (nI x61) (nI x62) (nI x63) (nI x65) x66 f1 f2 f3 (bN 3 q4) (bN 7 q5) (bN 7 q6) (bN 4 q7) f8 (bN 2 q9) (bH q10) f11 (b2 m12_0 m12_1) (b2 m13_0 m13_1) (b2 m14_0 m14_1) (b2m m15_0 m15_1) f17 (bA 159 q31) f32 f34 f35 f36 f37 (bN 7 q38) f39 f40 f41 (b2 m42_0 m42_1) f43 f44 f47 f48 f49 f50 f51 (bN 13 q54) (bN 120 q55) (bN 120 q56) f57 (bN 120 q58) f59 f60 f64)) sz) t ∧ (z46 ≤ 5) ∧ (z61 ≤ 119) ∧ (z62 ≤ 2000) ∧ (z63 ≤ 1) ∧ ((z54, z55, z56, z57, z58, z60, z0, z46, z61, z62, z63) = (sp_EM_spans x16 x29 x61 x62 x63 f3 q4 q5 q6 q7 f8 q9 q10 f11 m12_0 m12_1 m13_0 m13_1 m14_0 m14_1 m15_0 m15_1 f39 f40 f41 m42_0 q54 q55 q56 f57 q58 f60 p0 p1).2)) (va_A ((mo_w ad ck x0 (nI x16) (nI x18) (nI x19) x20 (nI x21) (nI x22) x23 x24 x25 (nI x26) x27 (nI x28) (nI x29) (nI x30) (nI x33) x45 (nI x46) (nI x52) (nI x53) (nI x61) (nI x62) (nI x63) (nI x65) x66 f1 f2 f3 (bN 3 q4) (bN 7 q5) (bN 7 q6) (bN 4 q7) f8 (bN 2 q9) (bH q10) f11 (b2 m12_0 m12_1) (b2 m13_0 m13_1) (b2 m14_0 m14_1) (b2m m15_0 m15_1) f17 (bA 159 q31) f32 f34 f35 f36 f37 (bN 7 q38) f39 f40 f41 (b2 m42_0 m42_1) f43 f44 f47 f48 f49 f50 f51 (bN 13 q54) (bN 120 q55) (bN 120 q56) f57 (bN 120 q58) f59 f60 f64)) sz)) 0 0 (va_A ((mo_w ad ck x0 (nI x16) (nI x18) (nI x19) x20 (nI x21) (nI x22) x23 x24 x25 (nI x26) x27 (nI x28) (nI x29) (nI x30) (nI x33) x45 (nI x46) (nI x52) (nI x53) (nI x61) (nI x62) (nI x63) (nI x65) x66 f1 f2 f3 (bN 3 q4) (bN 7 q5) (bN 7 q6) (bN 4 q7) f8 (bN 2 q9) (bH q10) f11 (b2 m12_0 m12_1) (b2 m13_0 m13_1) (b2 m14_0 m14_1) (b2m m15_0 m15_1) f17 (bA 159 q31) f32 f34 f35 f36 f37 (bN 7 q38) f39 f40 f41 (b2 m42_0 m42_1) f43 f44 f47 f48 f49 f50 f51 (bN 13 q54) (bN 120 q55) (bN 120 q56) f57 (bN 120 q58) f59 f60 f64)) sz) := by
  refine Met.ofW (cc := cX9_spans) (maxL := 3) (ret := (some .int)) (by decide) rfl ?_
  intro p e s m args below meth c s₁ B hml hv
  obtain ⟨rfl, rfl, hP, hK, hD0⟩ := hv
  have hx := B.exec
  have hb := B.bytes
  have hr := B.returns
  have hts := atoms_spec (ws := vs_EM_spans) B.pre
  have v_1 := hts (.fieldLink RX9 142 "ClockReachModel" "thrown" "I") (List.mem_cons_of_mem _ vm_5)
  have hown : s.vm.findClass RX9 = some m.cls := findClass_of_methodNamed B.named
  have hlocks := B.notSynchronized
  have hiX9 : ∀ w ∈ wsX90, w ∈ vs_EM_spans := fun _ h => List.mem_cons_of_mem _ (vmi_L h)
  have hD := hD0.self (sz := s.heap.size)
  generalize hAe : va_A ((mo_w ad ck x0 (nI x16) (nI x18) (nI x19) x20 (nI x21) (nI x22) x23 x24 x25 (nI x26) x27 (nI x28) (nI x29) (nI x30) (nI x33) x45 (nI x46) (nI x52) (nI x53) (nI x61) (nI x62) (nI x63) (nI x65) x66 f1 f2 f3 (bN 3 q4) (bN 7 q5) (bN 7 q6) (bN 4 q7) f8 (bN 2 q9) (bH q10) f11 (b2 m12_0 m12_1) (b2 m13_0 m13_1) (b2 m14_0 m14_1) (b2m m15_0 m15_1) f17 (bA 159 q31) f32 f34 f35 f36 f37 (bN 7 q38) f39 f40 f41 (b2 m42_0 m42_1) f43 f44 f47 f48 f49 f50 f51 (bN 13 q54) (bN 120 q55) (bN 120 q56) f57 (bN 120 q58) f59 f60 f64)) s.heap.size = A at hD ⊢
  have hA : ∀ q : Nat, s.heap.size ≤ q → A q := fun q h => by rw [← hAe]; exact Or.inr h
  have hS : va_S A s.heap s.heap [] := va_S.rf
  have hl := lv_entry ([.ref (ad 0), .int p0, .int p1]) (n := 3) (Nat.le_of_ble_eq_true rfl)
  rw [lg_entry_eq]
  generalize (lg_sl ([.ref (ad 0), .int p0, .int p1]) ++ List.replicate (3 - (lg_sl ([.ref (ad 0), .int p0, .int p1])).length) Slot.unset).toArray = ls at hl ⊢
  have hl : lv_has ls 3 [(0, .ref (ad 0)), (1, .int p0), (2, .int p1)] := hl
  obtain ⟨RR, hRR⟩ : ∃ x, x = (sp_EM_spans x16 x29 x61 x62 x63 f3 q4 q5 q6 q7 f8 q9 q10 f11 m12_0 m12_1 m13_0 m13_1 m14_0 m14_1 m15_0 m15_1 f39 f40 f41 m42_0 q54 q55 q56 f57 q58 f60 p0 p1) := ⟨_, rfl⟩
  have hsp := hRR
  refine lv_aload_n hx hb dX9_spans_0 rfl (lv_at hl 0 rfl) ?_
  refine lv_iconst (v := 0) hx hb dX9_spans_1 (by decide) ?_
  refine va_put (D := (dC, dI)) (ci := 9) (v := .int 0) (ty := .int) (C := RX9) (T := TX9) (N := 67) hx hb hts hiX9 tyX9 tyX9_ok nmX9 hown hK hP hD hS 0 rfl rfl 0 (by decide) v_1 (fun _ h9 => h9) rfl (by decide +kernel) rfl rfl (Nat.le_of_ble_eq_true rfl) dX9_spans_2 (fun H locs hP hD hS => ?_)
  have hP : va_P (dC, dI) vwCl (mo_w ad ck 0 (nI x16) (nI x18) (nI x19) x20 (nI x21) (nI x22) x23 x24 x25 (nI x26) x27 (nI x28) (nI x29) (nI x30) (nI x33) x45 (nI x46) (nI x52) (nI x53) (nI x61) (nI x62) (nI x63) (nI x65) x66 f1 f2 f3 (bN 3 q4) (bN 7 q5) (bN 7 q6) (bN 4 q7) f8 (bN 2 q9) (bH q10) f11 (b2 m12_0 m12_1) (b2 m13_0 m13_1) (b2 m14_0 m14_1) (b2m m15_0 m15_1) f17 (bA 159 q31) f32 f34 f35 f36 f37 (bN 7 q38) f39 f40 f41 (b2 m42_0 m42_1) f43 f44 f47 f48 f49 f50 f51 (bN 13 q54) (bN 120 q55) (bN 120 q56) f57 (bN 120 q58) f59 f60 f64) H := hP
  have hD : va_D A (mo_w ad ck 0 (nI x16) (nI x18) (nI x19) x20 (nI x21) (nI x22) x23 x24 x25 (nI x26) x27 (nI x28) (nI x29) (nI x30) (nI x33) x45 (nI x46) (nI x52) (nI x53) (nI x61) (nI x62) (nI x63) (nI x65) x66 f1 f2 f3 (bN 3 q4) (bN 7 q5) (bN 7 q6) (bN 4 q7) f8 (bN 2 q9) (bH q10) f11 (b2 m12_0 m12_1) (b2 m13_0 m13_1) (b2 m14_0 m14_1) (b2m m15_0 m15_1) f17 (bA 159 q31) f32 f34 f35 f36 f37 (bN 7 q38) f39 f40 f41 (b2 m42_0 m42_1) f43 f44 f47 f48 f49 f50 f51 (bN 13 q54) (bN 120 q55) (bN 120 q56) f57 (bN 120 q58) f59 f60 f64) := hD
  refine lv_aload_n hx hb dX9_spans_5 rfl (lv_at hl 0 rfl) ?_
  refine lv_iload_n hx hb dX9_spans_6 rfl (lv_at hl 1 rfl) ?_
  have hFc := pu_free hD hS hA
  refine va_calli (va_runV (As := [.int p0]) (rest := []) ⟨hx, hb, hml, hown, hts⟩ (c_EM_isState l dC dI _ ad ck 0 x16 x18 x19 x20 x21 x22 x23 x24 x25 x26 x27 x28 x29 x30 x33 x45 x46 x52 x53 x61 x62 x63 x65 x66 f1 f2 f3 q4 q5 q6 q7 f8 q9 q10 f11 m12_0 m12_1 m13_0 m13_1 m14_0 m14_1 m15_0 m15_1 f17 q31 f32 f34 f35 f36 f37 q38 f39 f40 f41 m42_0 m42_1 f43 f44 f47 f48 f49 f50 f51 q54 q55 q56 f57 q58 f59 f60 f64 p0 hx16 hx18 hx19 hx21 hx22 hx26 hx28 hx29 hx30 hx33 hx46 hx52 hx53 hx61 hx62 hx63 hx65 hm12_0 hm12_1 hm13_0 hm13_1 hm14_0 hm14_1 hm15_0 hm15_1 hm42_0 hm42_1) (cwV 1 hts g_EM_spans_EM_isState rfl rfl rfl (by decide +kernel) ⟨Nat.le_of_ble_eq_true rfl, Nat.le_of_ble_eq_true rfl⟩) ⟨pu_bl, va_recv hK hP (ci := 9) (q0 := 0) rfl rfl, pu_in hP hK hD⟩ rfl rfl hl.1 rfl (lv_room (Nat.le_of_ble_eq_true rfl)) dX9_spans_7 ⟨Nat.le_of_ble_eq_true rfl, Nat.le_of_ble_eq_true rfl⟩) hS (fun q _ h => hFc q h) hFc (fun r_1 u t H1 locs ht hvm hw hB hz1 hk1 hS => ?_)
  obtain ⟨z46_2, ⟨hP1, -, hD1⟩, hz46_2, xr_1_0⟩ := hB
  rw [ht] at hP1
  have hP := hP1
  have hD := pu_all hFc hD1
  clear hP1 hD1 hFc
  clear hk1 hz1 ht hvm
  generalize H1 = H at hP hS ⊢
  replace hsp := hsp.trans (slet_eq xr_1_0)
  rcases hw with ⟨rfl, hw⟩ | ⟨rfl, hn⟩
  · obtain ⟨hs1, n_3, hn_3, rfl⟩ := hw
    replace hsp := hsp.trans (if_pos ⟨hs1, in_q hn_3 (by omega)⟩)
    replace hsp := hsp.trans (slet_eq (nI_cl (n := n_3) (by omega)))
    refine lv_if_eq (tgt := 22) hx hb dX9_spans_10 (by decide) (fun z => absurd z (by decide)) (fun _ => ?_)
    refine lv_iload_n hx hb dX9_spans_13 rfl (lv_at hl 2 rfl) ?_
    refine lv_iconst (v := 0) hx hb dX9_spans_14 (by decide) ?_
    refine lv_iconst (v := 3) hx hb dX9_spans_15 (by decide) ?_
    refine va_calli (va_runS (As := [.int p1, .int 0, .int 3]) (rest := []) ⟨hx, hb, hml, hown, hts⟩ (c_X9_in l dC dI _ p1 0 3) (va_cwS 3 hts g_EM_spans_X9_in rfl rfl rfl (by decide +kernel) ⟨Nat.le_of_ble_eq_true rfl, Nat.le_of_ble_eq_true rfl⟩) ⟨pu_bl, pu_in (hP.sub [] rfl) (hK.sub [] rfl) (hD.sub [] (by decide) rfl)⟩ rfl rfl hl.1 rfl (lv_room (Nat.le_of_ble_eq_true rfl)) dX9_spans_16 ⟨Nat.le_of_ble_eq_true rfl, Nat.le_of_ble_eq_true rfl⟩) hS (fun q _ h => pu_fr hS hA q h) (pu_fr hS hA) (fun r_4 u t H1 locs ht hvm hw hB hz1 hk1 hS => ?_)
    have hP := pu_keep hP hk1
    clear hk1 hz1 ht hvm
    generalize H1 = H at hP hS ⊢
    rcases hw with ⟨rfl, hi1, hi2⟩ | ⟨rfl, hi3⟩
    · replace hsp := hsp.trans (if_pos ⟨hi1, hi2⟩)
      obtain ⟨n_5, hn_5, rfl⟩ := pu_in0 (n := 3) (by omega) hi1 hi2
      replace hsp := hsp.trans (slet_eq (nI_cl (n := n_5) (by omega)))
      refine lv_if_ne (tgt := 24) hx hb dX9_spans_19 (by decide) (fun _ => ?_) (fun z => absurd z (by decide))
      refine lv_aload_n hx hb dX9_spans_24 rfl (lv_at hl 0 rfl) ?_
      refine lv_iload_n hx hb dX9_spans_25 rfl (lv_at hl 1 rfl) ?_
      have hFc := pu_free hD hS hA
      refine va_callv (va_runV (As := [.int (nI n_3)]) (rest := []) ⟨hx, hb, hml, hown, hts⟩ (c_EM_layPath l dC dI _ ad ck 0 x16 x18 x19 x20 x21 x22 x23 x24 x25 x26 x27 x28 x29 x30 x33 x45 z46_2 x52 x53 x61 x62 x63 x65 x66 f1 f2 f3 q4 q5 q6 q7 f8 q9 q10 f11 m12_0 m12_1 m13_0 m13_1 m14_0 m14_1 m15_0 m15_1 f17 q31 f32 f34 f35 f36 f37 q38 f39 f40 f41 m42_0 m42_1 f43 f44 f47 f48 f49 f50 f51 q54 q55 q56 f57 q58 f59 f60 f64 n_3 hx16 hx18 hx19 hx21 hx22 hx26 hx28 hx29 hx30 hx33 (Nat.le_trans hz46_2 (Nat.le_of_ble_eq_true rfl)) hx52 hx53 hx61 hx62 hx63 hx65 hm12_0 hm12_1 hm13_0 hm13_1 hm14_0 hm14_1 hm15_0 hm15_1 hm42_0 hm42_1 (by omega) (by first | assumption | exact gz_0) (by omega)) (cwV 1 hts g_EM_spans_EM_layPath rfl rfl rfl (by decide +kernel) ⟨Nat.le_of_ble_eq_true rfl, Nat.le_of_ble_eq_true rfl⟩) ⟨pu_bl, va_recv hK hP (ci := 9) (q0 := 0) rfl rfl, pu_in hP hK hD⟩ rfl rfl hl.1 rfl (lv_room (Nat.le_of_ble_eq_true rfl)) dX9_spans_26 ⟨Nat.le_of_ble_eq_true rfl, Nat.le_of_ble_eq_true rfl⟩) hS (fun q _ h => hFc q h) hFc (fun u t H1 locs ht hvm hw hB hz1 hk1 hS => ?_)
      obtain ⟨z54_7, z61_8, ⟨hP1, -, hD1⟩, hz61_8, xr_6_0, xr_6_1⟩ := hB
      rw [ht] at hP1
      have hP := hP1
      have hD := pu_all hFc hD1
      clear hP1 hD1 hFc
      clear hk1 hz1 ht hvm
      generalize H1 = H at hP hS ⊢
      replace hsp := hsp.trans (slet_eq xr_6_1)
      refine lv_aload_n hx hb dX9_spans_29 rfl (lv_at hl 0 rfl) ?_
      refine lv_iload_n hx hb dX9_spans_30 rfl (lv_at hl 2 rfl) ?_
      have hFc := pu_free hD hS hA
      refine va_calli (va_runV (As := [.int (nI n_5)]) (rest := []) ⟨hx, hb, hml, hown, hts⟩ (c_EM_spanned l dC dI _ ad ck 0 x16 x18 x19 x20 x21 x22 x23 x24 x25 x26 x27 x28 x29 x30 x33 x45 z46_2 x52 x53 z61_8 x62 x63 x65 x66 f1 f2 f3 q4 q5 q6 q7 f8 q9 q10 f11 m12_0 m12_1 m13_0 m13_1 m14_0 m14_1 m15_0 m15_1 f17 q31 f32 f34 f35 f36 f37 q38 f39 f40 f41 m42_0 m42_1 f43 f44 f47 f48 f49 f50 f51 z54_7 q55 q56 f57 q58 f59 f60 f64 (nI n_5) hx16 hx18 hx19 hx21 hx22 hx26 hx28 hx29 hx30 hx33 (Nat.le_trans hz46_2 (Nat.le_of_ble_eq_true rfl)) hx52 hx53 hz61_8 hx62 hx63 hx65 hm12_0 hm12_1 hm13_0 hm13_1 hm14_0 hm14_1 hm15_0 hm15_1 hm42_0 hm42_1 (by first | assumption | omega)) (cwV 1 hts g_EM_spans_EM_spanned rfl rfl rfl (by decide +kernel) ⟨Nat.le_of_ble_eq_true rfl, Nat.le_of_ble_eq_true rfl⟩) ⟨pu_bl, va_recv hK hP (ci := 9) (q0 := 0) rfl rfl, pu_in hP hK hD⟩ rfl rfl hl.1 rfl (lv_room (Nat.le_of_ble_eq_true rfl)) dX9_spans_31 ⟨Nat.le_of_ble_eq_true rfl, Nat.le_of_ble_eq_true rfl⟩) hS (fun q _ h => hFc q h) hFc (fun r_9 u t H1 locs ht hvm hw hB hz1 hk1 hS => ?_)
      obtain ⟨z55_10, z56_11, z57_12, z58_13, z60_14, z62_15, z63_16, ⟨hP1, -, hD1⟩, hz62_15, hz63_16, xr_9_0⟩ := hB
      rw [ht] at hP1
      have hP := hP1
      have hD := pu_all hFc hD1
      clear hP1 hD1 hFc
      clear hk1 hz1 ht hvm
      generalize H1 = H at hP hS ⊢
      have ir_9 := hw
      have ir_9 : (r_9, z55_10, z56_11, z57_12, z58_13, z60_14, z62_15, z63_16) = (sp_EM_spanned x16 z61_8 f3 q4 q5 q6 q7 f8 q9 q10 f11 m12_0 m12_1 m13_0 m13_1 m14_0 m14_1 m15_0 m15_1 z54_7 q55 q56 f57 q58 f60 (nI n_5)) := Prod.ext ir_9 xr_9_0
      replace hsp := hsp.trans (slet_eq ir_9)
      exact W.iret (v := r_9) hx hb hr (fun t ht hW => ⟨⟨r_9, (), rfl, (congrArg Prod.fst (hsp.symm.trans hRR)), ⟨z54_7, z55_10, z56_11, z57_12, z58_13, z60_14, 0, z46_2, z61_8, z62_15, z63_16, ⟨by rw [ht]; exact hP, va_K.moved hW.alike hK, hD⟩, (Nat.le_trans hz46_2 (Nat.le_of_ble_eq_true rfl)), hz61_8, hz62_15, hz63_16, (congrArg Prod.snd (hsp.symm.trans hRR))⟩⟩, hS.F ht⟩) hS.2.2 dX9_spans_34
    · replace hsp := hsp.trans (if_neg hi3)
      refine lv_if_ne (tgt := 24) hx hb dX9_spans_19 (by decide) (fun z => absurd z (by decide)) (fun _ => ?_)
      refine lv_iconst (v := (-1)) hx hb dX9_spans_22 (by decide) ?_
      exact W.iret (v := (-1)) hx hb hr (fun t ht hW => ⟨⟨(-1), (), rfl, (congrArg Prod.fst (hsp.symm.trans hRR)), ⟨q54, q55, q56, f57, q58, f60, 0, z46_2, x61, x62, x63, ⟨by rw [ht]; exact hP, va_K.moved hW.alike hK, hD⟩, (Nat.le_trans hz46_2 (Nat.le_of_ble_eq_true rfl)), hx61, hx62, hx63, (congrArg Prod.snd (hsp.symm.trans hRR))⟩⟩, hS.F ht⟩) hS.2.2 dX9_spans_23
  · replace hsp := hsp.trans (if_neg hn)
    refine lv_if_eq (tgt := 22) hx hb dX9_spans_10 (by decide) (fun _ => ?_) (fun z => absurd z (by decide))
    refine lv_iconst (v := (-1)) hx hb dX9_spans_22 (by decide) ?_
    exact W.iret (v := (-1)) hx hb hr (fun t ht hW => ⟨⟨(-1), (), rfl, (congrArg Prod.fst (hsp.symm.trans hRR)), ⟨q54, q55, q56, f57, q58, f60, 0, z46_2, x61, x62, x63, ⟨by rw [ht]; exact hP, va_K.moved hW.alike hK, hD⟩, (Nat.le_trans hz46_2 (Nat.le_of_ble_eq_true rfl)), hx61, hx62, hx63, (congrArg Prod.snd (hsp.symm.trans hRR))⟩⟩, hS.F ht⟩) hS.2.2 dX9_spans_23
