theorem dX9_automaton_0 : decode cX9_automaton 0 = .ok (.aload_n 0, 1) := by decide +kernel
theorem dX9_automaton_1 : decode cX9_automaton 1 = .ok (.iconst 0, 1) := by decide +kernel
theorem dX9_automaton_2 : decode cX9_automaton 2 = .ok (.putfield 142, 3) := by decide +kernel
theorem dX9_automaton_5 : decode cX9_automaton 5 = .ok (.aload_n 0, 1) := by decide +kernel
theorem dX9_automaton_6 : decode cX9_automaton 6 = .ok (.aload_n 0, 1) := by decide +kernel
theorem dX9_automaton_7 : decode cX9_automaton 7 = .ok (.getfield 145, 3) := by decide +kernel
theorem dX9_automaton_10 : decode cX9_automaton 10 = .ok (.putfield 156, 3) := by decide +kernel
theorem dX9_automaton_13 : decode cX9_automaton 13 = .ok (.aload_n 0, 1) := by decide +kernel
theorem dX9_automaton_14 : decode cX9_automaton 14 = .ok (.iconst 0, 1) := by decide +kernel
theorem dX9_automaton_15 : decode cX9_automaton 15 = .ok (.putfield 145, 3) := by decide +kernel
theorem dX9_automaton_18 : decode cX9_automaton 18 = .ok (.aload_n 0, 1) := by decide +kernel
theorem dX9_automaton_19 : decode cX9_automaton 19 = .ok (.iconst 0, 1) := by decide +kernel
theorem dX9_automaton_20 : decode cX9_automaton 20 = .ok (.putfield 159, 3) := by decide +kernel
theorem dX9_automaton_23 : decode cX9_automaton 23 = .ok (.aload_n 0, 1) := by decide +kernel
theorem dX9_automaton_24 : decode cX9_automaton 24 = .ok (.iconst 0, 1) := by decide +kernel
theorem dX9_automaton_25 : decode cX9_automaton 25 = .ok (.putfield 186, 3) := by decide +kernel
theorem dX9_automaton_28 : decode cX9_automaton 28 = .ok (.aload_n 0, 1) := by decide +kernel
theorem dX9_automaton_29 : decode cX9_automaton 29 = .ok (.iconst 1, 1) := by decide +kernel
theorem dX9_automaton_30 : decode cX9_automaton 30 = .ok (.aload_n 0, 1) := by decide +kernel
theorem dX9_automaton_31 : decode cX9_automaton 31 = .ok (.getfield 258, 3) := by decide +kernel
theorem dX9_automaton_34 : decode cX9_automaton 34 = .ok (.isub, 1) := by decide +kernel
theorem dX9_automaton_35 : decode cX9_automaton 35 = .ok (.putfield 203, 3) := by decide +kernel
theorem dX9_automaton_38 : decode cX9_automaton 38 = .ok (.aload_n 0, 1) := by decide +kernel
theorem dX9_automaton_39 : decode cX9_automaton 39 = .ok (.getfield 43, 3) := by decide +kernel
theorem dX9_automaton_42 : decode cX9_automaton 42 = .ok (.aload_n 0, 1) := by decide +kernel
theorem dX9_automaton_43 : decode cX9_automaton 43 = .ok (.getfield 203, 3) := by decide +kernel
theorem dX9_automaton_46 : decode cX9_automaton 46 = .ok (.iconst 0, 1) := by decide +kernel
theorem dX9_automaton_47 : decode cX9_automaton 47 = .ok (.iastore, 1) := by decide +kernel
theorem dX9_automaton_48 : decode cX9_automaton 48 = .ok (.aload_n 0, 1) := by decide +kernel
theorem dX9_automaton_49 : decode cX9_automaton 49 = .ok (.getfield 46, 3) := by decide +kernel
theorem dX9_automaton_52 : decode cX9_automaton 52 = .ok (.aload_n 0, 1) := by decide +kernel
theorem dX9_automaton_53 : decode cX9_automaton 53 = .ok (.getfield 203, 3) := by decide +kernel
theorem dX9_automaton_56 : decode cX9_automaton 56 = .ok (.iconst 0, 1) := by decide +kernel
theorem dX9_automaton_57 : decode cX9_automaton 57 = .ok (.iastore, 1) := by decide +kernel
theorem dX9_automaton_58 : decode cX9_automaton 58 = .ok (.aload_n 0, 1) := by decide +kernel
theorem dX9_automaton_59 : decode cX9_automaton 59 = .ok (.getfield 49, 3) := by decide +kernel
theorem dX9_automaton_62 : decode cX9_automaton 62 = .ok (.aload_n 0, 1) := by decide +kernel
theorem dX9_automaton_63 : decode cX9_automaton 63 = .ok (.getfield 203, 3) := by decide +kernel
theorem dX9_automaton_66 : decode cX9_automaton 66 = .ok (.iconst 0, 1) := by decide +kernel
theorem dX9_automaton_67 : decode cX9_automaton 67 = .ok (.iastore, 1) := by decide +kernel
theorem dX9_automaton_68 : decode cX9_automaton 68 = .ok (.aload_n 0, 1) := by decide +kernel
theorem dX9_automaton_69 : decode cX9_automaton 69 = .ok (.getfield 52, 3) := by decide +kernel
theorem dX9_automaton_72 : decode cX9_automaton 72 = .ok (.aload_n 0, 1) := by decide +kernel
theorem dX9_automaton_73 : decode cX9_automaton 73 = .ok (.getfield 203, 3) := by decide +kernel
theorem dX9_automaton_76 : decode cX9_automaton 76 = .ok (.iconst (-1), 1) := by decide +kernel
theorem dX9_automaton_77 : decode cX9_automaton 77 = .ok (.iastore, 1) := by decide +kernel
theorem dX9_automaton_78 : decode cX9_automaton 78 = .ok (.aload_n 0, 1) := by decide +kernel
theorem dX9_automaton_79 : decode cX9_automaton 79 = .ok (.invokevirtual 226, 3) := by decide +kernel
theorem dX9_automaton_82 : decode cX9_automaton 82 = .ok (.aload_n 0, 1) := by decide +kernel
theorem dX9_automaton_83 : decode cX9_automaton 83 = .ok (.invokevirtual 216, 3) := by decide +kernel
theorem dX9_automaton_86 : decode cX9_automaton 86 = .ok (.ifCond .eq 49, 3) := by decide +kernel
theorem dX9_automaton_89 : decode cX9_automaton 89 = .ok (.aload_n 0, 1) := by decide +kernel
theorem dX9_automaton_90 : decode cX9_automaton 90 = .ok (.getfield 172, 3) := by decide +kernel
theorem dX9_automaton_93 : decode cX9_automaton 93 = .ok (.ifCond .eq 42, 3) := by decide +kernel
theorem dX9_automaton_96 : decode cX9_automaton 96 = .ok (.aload_n 0, 1) := by decide +kernel
theorem dX9_automaton_97 : decode cX9_automaton 97 = .ok (.invokevirtual 261, 3) := by decide +kernel
theorem dX9_automaton_100 : decode cX9_automaton 100 = .ok (.aload_n 0, 1) := by decide +kernel
theorem dX9_automaton_101 : decode cX9_automaton 101 = .ok (.invokevirtual 216, 3) := by decide +kernel
theorem dX9_automaton_104 : decode cX9_automaton 104 = .ok (.ifCond .eq 17, 3) := by decide +kernel
theorem dX9_automaton_107 : decode cX9_automaton 107 = .ok (.aload_n 0, 1) := by decide +kernel
theorem dX9_automaton_108 : decode cX9_automaton 108 = .ok (.bipush 59, 2) := by decide +kernel
theorem dX9_automaton_110 : decode cX9_automaton 110 = .ok (.invokevirtual 235, 3) := by decide +kernel
theorem dX9_automaton_113 : decode cX9_automaton 113 = .ok (.ifCond .ne 8, 3) := by decide +kernel
theorem dX9_automaton_116 : decode cX9_automaton 116 = .ok (.aload_n 0, 1) := by decide +kernel
theorem dX9_automaton_117 : decode cX9_automaton 117 = .ok (.iconst 2, 1) := by decide +kernel
theorem dX9_automaton_118 : decode cX9_automaton 118 = .ok (.invokevirtual 210, 3) := by decide +kernel
theorem dX9_automaton_121 : decode cX9_automaton 121 = .ok (.aload_n 0, 1) := by decide +kernel
theorem dX9_automaton_122 : decode cX9_automaton 122 = .ok (.invokevirtual 216, 3) := by decide +kernel
theorem dX9_automaton_125 : decode cX9_automaton 125 = .ok (.ifCond .eq (-43), 3) := by decide +kernel
theorem dX9_automaton_128 : decode cX9_automaton 128 = .ok (.aload_n 0, 1) := by decide +kernel
theorem dX9_automaton_129 : decode cX9_automaton 129 = .ok (.invokevirtual 226, 3) := by decide +kernel
theorem dX9_automaton_132 : decode cX9_automaton 132 = .ok (.goto (-50), 3) := by decide +kernel
theorem dX9_automaton_135 : decode cX9_automaton 135 = .ok (.aload_n 0, 1) := by decide +kernel
theorem dX9_automaton_136 : decode cX9_automaton 136 = .ok (.invokevirtual 216, 3) := by decide +kernel
theorem dX9_automaton_139 : decode cX9_automaton 139 = .ok (.ifCond .eq 21, 3) := by decide +kernel
theorem dX9_automaton_142 : decode cX9_automaton 142 = .ok (.aload_n 0, 1) := by decide +kernel
theorem dX9_automaton_143 : decode cX9_automaton 143 = .ok (.getfield 46, 3) := by decide +kernel
theorem dX9_automaton_146 : decode cX9_automaton 146 = .ok (.aload_n 0, 1) := by decide +kernel
theorem dX9_automaton_147 : decode cX9_automaton 147 = .ok (.getfield 203, 3) := by decide +kernel
theorem dX9_automaton_150 : decode cX9_automaton 150 = .ok (.iaload, 1) := by decide +kernel
theorem dX9_automaton_151 : decode cX9_automaton 151 = .ok (.ifCond .ne 9, 3) := by decide +kernel
theorem dX9_automaton_154 : decode cX9_automaton 154 = .ok (.aload_n 0, 1) := by decide +kernel
theorem dX9_automaton_155 : decode cX9_automaton 155 = .ok (.bipush 6, 2) := by decide +kernel
theorem dX9_automaton_157 : decode cX9_automaton 157 = .ok (.invokevirtual 210, 3) := by decide +kernel
theorem dX9_automaton_160 : decode cX9_automaton 160 = .ok (.aload_n 0, 1) := by decide +kernel
theorem dX9_automaton_161 : decode cX9_automaton 161 = .ok (.aload_n 0, 1) := by decide +kernel
theorem dX9_automaton_162 : decode cX9_automaton 162 = .ok (.getfield 186, 3) := by decide +kernel
theorem dX9_automaton_165 : decode cX9_automaton 165 = .ok (.putfield 264, 3) := by decide +kernel
theorem dX9_automaton_168 : decode cX9_automaton 168 = .ok (.aload_n 0, 1) := by decide +kernel
theorem dX9_automaton_169 : decode cX9_automaton 169 = .ok (.aload_n 0, 1) := by decide +kernel
theorem dX9_automaton_170 : decode cX9_automaton 170 = .ok (.getfield 186, 3) := by decide +kernel
theorem dX9_automaton_173 : decode cX9_automaton 173 = .ok (.ifCond .ne 7, 3) := by decide +kernel
theorem dX9_automaton_176 : decode cX9_automaton 176 = .ok (.iconst (-1), 1) := by decide +kernel
theorem dX9_automaton_177 : decode cX9_automaton 177 = .ok (.goto 7, 3) := by decide +kernel
theorem dX9_automaton_180 : decode cX9_automaton 180 = .ok (.aload_n 0, 1) := by decide +kernel
theorem dX9_automaton_181 : decode cX9_automaton 181 = .ok (.getfield 189, 3) := by decide +kernel
theorem dX9_automaton_184 : decode cX9_automaton 184 = .ok (.putfield 58, 3) := by decide +kernel
theorem dX9_automaton_187 : decode cX9_automaton 187 = .ok (.aload_n 0, 1) := by decide +kernel
theorem dX9_automaton_188 : decode cX9_automaton 188 = .ok (.invokevirtual 216, 3) := by decide +kernel
theorem dX9_automaton_191 : decode cX9_automaton 191 = .ok (.ifCond .ne 5, 3) := by decide +kernel
theorem dX9_automaton_194 : decode cX9_automaton 194 = .ok (.iconst (-1), 1) := by decide +kernel
theorem dX9_automaton_195 : decode cX9_automaton 195 = .ok (.ireturn, 1) := by decide +kernel
theorem dX9_automaton_196 : decode cX9_automaton 196 = .ok (.aload_n 0, 1) := by decide +kernel
theorem dX9_automaton_197 : decode cX9_automaton 197 = .ok (.aload_n 0, 1) := by decide +kernel
theorem dX9_automaton_198 : decode cX9_automaton 198 = .ok (.getfield 203, 3) := by decide +kernel
theorem dX9_automaton_201 : decode cX9_automaton 201 = .ok (.putfield 258, 3) := by decide +kernel
theorem dX9_automaton_204 : decode cX9_automaton 204 = .ok (.aload_n 0, 1) := by decide +kernel
theorem dX9_automaton_205 : decode cX9_automaton 205 = .ok (.getfield 52, 3) := by decide +kernel
theorem dX9_automaton_208 : decode cX9_automaton 208 = .ok (.aload_n 0, 1) := by decide +kernel
theorem dX9_automaton_209 : decode cX9_automaton 209 = .ok (.getfield 258, 3) := by decide +kernel
theorem dX9_automaton_212 : decode cX9_automaton 212 = .ok (.iaload, 1) := by decide +kernel
theorem dX9_automaton_213 : decode cX9_automaton 213 = .ok (.ifCond .ge 13, 3) := by decide +kernel
theorem dX9_automaton_216 : decode cX9_automaton 216 = .ok (.aload_n 0, 1) := by decide +kernel
theorem dX9_automaton_217 : decode cX9_automaton 217 = .ok (.getfield 52, 3) := by decide +kernel
theorem dX9_automaton_220 : decode cX9_automaton 220 = .ok (.aload_n 0, 1) := by decide +kernel
theorem dX9_automaton_221 : decode cX9_automaton 221 = .ok (.getfield 258, 3) := by decide +kernel
theorem dX9_automaton_224 : decode cX9_automaton 224 = .ok (.iconst 0, 1) := by decide +kernel
theorem dX9_automaton_225 : decode cX9_automaton 225 = .ok (.iastore, 1) := by decide +kernel
theorem dX9_automaton_226 : decode cX9_automaton 226 = .ok (.aload_n 0, 1) := by decide +kernel
theorem dX9_automaton_227 : decode cX9_automaton 227 = .ok (.iconst 0, 1) := by decide +kernel
theorem dX9_automaton_228 : decode cX9_automaton 228 = .ok (.putfield 267, 3) := by decide +kernel
theorem dX9_automaton_231 : decode cX9_automaton 231 = .ok (.aload_n 0, 1) := by decide +kernel
theorem dX9_automaton_232 : decode cX9_automaton 232 = .ok (.invokevirtual 270, 3) := by decide +kernel
theorem dX9_automaton_235 : decode cX9_automaton 235 = .ok (.aload_n 0, 1) := by decide +kernel
theorem dX9_automaton_236 : decode cX9_automaton 236 = .ok (.getfield 46, 3) := by decide +kernel
theorem dX9_automaton_239 : decode cX9_automaton 239 = .ok (.aload_n 0, 1) := by decide +kernel
theorem dX9_automaton_240 : decode cX9_automaton 240 = .ok (.getfield 258, 3) := by decide +kernel
theorem dX9_automaton_243 : decode cX9_automaton 243 = .ok (.iaload, 1) := by decide +kernel
theorem dX9_automaton_244 : decode cX9_automaton 244 = .ok (.ireturn, 1) := by decide +kernel
abbrev vs_EM_automaton : List Cond := .code yX9_automaton cX9_automaton 1 (some .int) :: VM
theorem g_EM_automaton_EM_next : GoodIn vs_EM_automaton (wsV RX9 226 RX9 yX9_next vs_EM_next) := gm_V vm_75 vm_76 vm_77 vm_19 vm_78
theorem g_EM_automaton_EM_isGood : GoodIn vs_EM_automaton (wsV RX9 216 RX9 yX9_isGood vs_EM_isGood) := gm_V vm_71 vm_72 vm_73 vm_19 vm_74
theorem g_EM_automaton_EM_another : GoodIn vs_EM_automaton (wsV RX9 270 RX9 yX9_another vs_EM_another) := gm_V vm_127 vm_128 vm_129 vm_19 vm_130
theorem g_EM_automaton_EM_fails : GoodIn vs_EM_automaton (wsV RX9 210 RX9 yX9_fails vs_EM_fails) := gm_V vm_29 vm_30 vm_31 vm_19 vm_32
theorem g_EM_automaton_EM_readLine_1 : GoodIn vs_EM_automaton (wsV RX9 261 RX9 yX9_readLine vs_EM_readLine_1) := gm_V vm_131 vm_132 vm_133 vm_19 vm_134
theorem g_EM_automaton_EM_isSign : GoodIn vs_EM_automaton (wsV RX9 235 RX9 yX9_isSign vs_EM_isSign) := gm_V vm_94 vm_95 vm_96 vm_19 vm_97
theorem g_EM_automaton_EM_readLine_0 : GoodIn vs_EM_automaton (wsV RX9 261 RX9 yX9_readLine vs_EM_readLine_0) := gm_V vm_131 vm_132 vm_133 vm_19 vm_134
noncomputable def sp_EM_automaton_L1 (x18 : Nat) (f17 : Nat → Int32) : ((Nat → Int32) × (Nat → Nat) × (Nat → Int32) × (Nat → Int32) × (Nat → Int32) × (Nat → Nat) × (Nat → Nat) × (Nat → Nat) × (Nat → Nat) × (Nat → Int32) × (Nat → Nat) × Nat × Nat × Nat × Nat × Int32 × Nat × Nat × Int32 × Nat × Int32) → ((Nat → Int32) × (Nat → Nat) × (Nat → Int32) × (Nat → Int32) × (Nat → Int32) × (Nat → Nat) × (Nat → Nat) × (Nat → Nat) × (Nat → Nat) × (Nat → Int32) × (Nat → Nat) × Nat × Nat × Nat × Nat × Int32 × Nat × Nat × Int32 × Nat × Int32) ⊕ (Int32 × Nat × Nat × Int32 × Nat × Int32 × (Nat → Int32) × (Nat → Int32) × (Nat → Int32) × (Nat → Nat) × (Nat → Nat) × (Nat → Nat) × (Nat → Nat) × (Nat → Int32) × (Nat → Nat) × (Nat → Nat) × (Nat → Int32) × Nat × Nat × Nat × Nat) := fun (g_83, g_84, g_85, g_86, g_87, g_88, g_89, g_90, g_91, g_92, g_93, g_94, g_95, g_96, g_97, g_98, g_99, g_100, g_101, g_102, g_103) => (slet (sp_EM_isGood g_102) (fun u_111 => (if u_111 = 0 then (Sum.inr (g_98, g_99, g_100, g_101, g_102, g_103, g_83, g_86, g_87, g_88, g_89, g_90, g_91, g_92, g_93, g_84, g_85, g_94, g_95, g_96, g_97)) else (if g_100 = 0 then (Sum.inr (g_98, g_99, g_100, g_101, g_102, g_103, g_83, g_86, g_87, g_88, g_89, g_90, g_91, g_92, g_93, g_84, g_85, g_94, g_95, g_96, g_97)) else (slet (sp_EM_readLine_1 x18 g_98 g_99 g_100 g_101 g_102 g_103 g_83 g_86 g_87 g_88 g_89 g_90 g_91 g_92 g_93 g_84 g_85 g_94 g_95 g_96 g_97 f17) (fun (z1_115, z10_116, z11_117, z2_118, z3_119, z4_120, z5_121, z6_122, z7_123, z8_124, z9_125, z12_1_126, z13_1_127, z14_1_128, z15_1_129, z20_130, z21_131, z22_132, z23_133, z26_134, z27_135) => (slet (sp_EM_isGood z26_134) (fun u_137 => (slet (α := Nat × Int32) (if u_137 = 0 then (z26_134, z27_135) else (slet (sp_EM_isSign z22_132 z23_133 59) (fun u_155 => (if u_155 = 0 then (slet (sp_EM_fails z20_130 z22_132 z26_134 z27_135 2) (fun (z26_158, z27_159) => (z26_158, z27_159))) else (z26_134, z27_135))))) (fun (g_138, g_139) => (slet (sp_EM_isGood g_138) (fun u_146 => (if u_146 = 0 then (Sum.inl (z1_115, z10_116, z11_117, z2_118, z3_119, z4_120, z5_121, z6_122, z7_123, z8_124, z9_125, z12_1_126, z13_1_127, z14_1_128, z15_1_129, z20_130, z21_131, z22_132, z23_133, g_138, g_139)) else (slet (sp_EM_next x18 z21_131 f17) (fun (z20_149, z21_150, z22_151, z23_152) => (Sum.inl (z1_115, z10_116, z11_117, z2_118, z3_119, z4_120, z5_121, z6_122, z7_123, z8_124, z9_125, z12_1_126, z13_1_127, z14_1_128, z15_1_129, z20_149, z21_150, z22_151, z23_152, g_138, g_139)))))))))))))))))
noncomputable def sp_EM_automaton_L2 (x18 : Nat) (f17 : Nat → Int32) : ((Nat → Int32) × (Nat → Nat) × (Nat → Int32) × (Nat → Int32) × (Nat → Int32) × (Nat → Nat) × (Nat → Nat) × (Nat → Nat) × (Nat → Nat) × (Nat → Int32) × (Nat → Nat) × Nat × Nat × Nat × Nat × Int32 × Nat × Nat × Int32 × Nat × Int32) → ((Nat → Int32) × (Nat → Nat) × (Nat → Int32) × (Nat → Int32) × (Nat → Int32) × (Nat → Nat) × (Nat → Nat) × (Nat → Nat) × (Nat → Nat) × (Nat → Int32) × (Nat → Nat) × Nat × Nat × Nat × Nat × Int32 × Nat × Nat × Int32 × Nat × Int32) ⊕ (Int32 × Nat × Nat × Int32 × Nat × Int32 × (Nat → Int32) × (Nat → Int32) × (Nat → Int32) × (Nat → Nat) × (Nat → Nat) × (Nat → Nat) × (Nat → Nat) × (Nat → Int32) × (Nat → Nat) × (Nat → Nat) × (Nat → Int32) × Nat × Nat × Nat × Nat) := fun (g_242, g_243, g_244, g_245, g_246, g_247, g_248, g_249, g_250, g_251, g_252, g_253, g_254, g_255, g_256, g_257, g_258, g_259, g_260, g_261, g_262) => (slet (sp_EM_isGood g_261) (fun u_270 => (if u_270 = 0 then (Sum.inr (g_257, g_258, g_259, g_260, g_261, g_262, g_242, g_245, g_246, g_247, g_248, g_249, g_250, g_251, g_252, g_243, g_244, g_253, g_254, g_255, g_256)) else (if g_259 = 0 then (Sum.inr (g_257, g_258, g_259, g_260, g_261, g_262, g_242, g_245, g_246, g_247, g_248, g_249, g_250, g_251, g_252, g_243, g_244, g_253, g_254, g_255, g_256)) else (slet (sp_EM_readLine_0 x18 g_257 g_258 g_259 g_260 g_261 g_262 g_242 g_245 g_246 g_247 g_248 g_249 g_250 g_251 g_252 g_243 g_244 g_253 g_254 g_255 g_256 f17) (fun (z1_274, z10_275, z11_276, z2_277, z3_278, z4_279, z5_280, z6_281, z7_282, z8_283, z9_284, z12_0_285, z13_0_286, z14_0_287, z15_0_288, z20_289, z21_290, z22_291, z23_292, z26_293, z27_294) => (slet (sp_EM_isGood z26_293) (fun u_296 => (slet (α := Nat × Int32) (if u_296 = 0 then (z26_293, z27_294) else (slet (sp_EM_isSign z22_291 z23_292 59) (fun u_314 => (if u_314 = 0 then (slet (sp_EM_fails z20_289 z22_291 z26_293 z27_294 2) (fun (z26_317, z27_318) => (z26_317, z27_318))) else (z26_293, z27_294))))) (fun (g_297, g_298) => (slet (sp_EM_isGood g_297) (fun u_305 => (if u_305 = 0 then (Sum.inl (z1_274, z10_275, z11_276, z2_277, z3_278, z4_279, z5_280, z6_281, z7_282, z8_283, z9_284, z12_0_285, z13_0_286, z14_0_287, z15_0_288, z20_289, z21_290, z22_291, z23_292, g_297, g_298)) else (slet (sp_EM_next x18 z21_290 f17) (fun (z20_308, z21_309, z22_310, z23_311) => (Sum.inl (z1_274, z10_275, z11_276, z2_277, z3_278, z4_279, z5_280, z6_281, z7_282, z8_283, z9_284, z12_0_285, z13_0_286, z14_0_287, z15_0_288, z20_308, z21_309, z22_310, z23_311, g_297, g_298)))))))))))))))))
noncomputable def sp_EM_automaton (x16 : Nat) (x18 : Nat) (x27 : Int32) (x29 : Nat) (x30 : Nat) (x33 : Nat) (f1 : Nat → Int32) (f2 : Nat → Int32) (f3 : Nat → Int32) (q4 : Nat → Nat) (q5 : Nat → Nat) (q6 : Nat → Nat) (q7 : Nat → Nat) (f8 : Nat → Int32) (q9 : Nat → Nat) (q10 : Nat → Nat) (f11 : Nat → Int32) (m12_0 : Nat) (m12_1 : Nat) (m13_0 : Nat) (m13_1 : Nat) (m14_0 : Nat) (m14_1 : Nat) (m15_0 : Nat) (m15_1 : Nat) (f17 : Nat → Int32) : Int32 × (Nat → Int32) × (Nat → Nat) × (Nat → Int32) × (Nat → Int32) × (Nat → Int32) × (Nat → Nat) × (Nat → Nat) × (Nat → Nat) × (Nat → Nat) × (Nat → Int32) × (Nat → Nat) × Nat × Nat × Nat × Nat × Nat × Nat × Nat × Nat × Int32 × Nat × Nat × Int32 × Nat × Nat × Int32 × Int32 × Int32 × Nat × Int32 × Nat × Nat × Nat × Nat := (if x16 = 0 then (slet (sp_EM_next x18 0 f17) (fun (z20_3, z21_4, z22_5, z23_6) => (slet (α := Int32 × Nat × Nat × Int32 × Nat × Int32 × (Nat → Int32) × (Nat → Int32) × (Nat → Int32) × (Nat → Nat) × (Nat → Nat) × (Nat → Nat) × (Nat → Nat) × (Nat → Int32) × (Nat → Nat) × (Nat → Nat) × (Nat → Int32) × Nat × Nat × Nat × Nat) (itrv (α := (Nat → Int32) × (Nat → Nat) × (Nat → Int32) × (Nat → Int32) × (Nat → Int32) × (Nat → Nat) × (Nat → Nat) × (Nat → Nat) × (Nat → Nat) × (Nat → Int32) × (Nat → Nat) × Nat × Nat × Nat × Nat × Int32 × Nat × Nat × Int32 × Nat × Int32) (β := (Int32 × Nat × Nat × Int32 × Nat × Int32 × (Nat → Int32) × (Nat → Int32) × (Nat → Int32) × (Nat → Nat) × (Nat → Nat) × (Nat → Nat) × (Nat → Nat) × (Nat → Int32) × (Nat → Nat) × (Nat → Nat) × (Nat → Int32) × Nat × Nat × Nat × Nat)) default (sp_EM_automaton_L1 x18 f17) (f1, q10, f11, f2, f3, q4, q5, q6, q7, f8, q9, 0, 0, 0, 0, z20_3, z21_4, z22_5, z23_6, 0, x27)) (fun (g_7, g_8, g_9, g_10, g_11, g_12, g_13, g_14, g_15, g_16, g_17, g_18, g_19, g_20, g_21, g_22, g_23, g_24, g_25, g_26, g_27) => (slet (sp_EM_isGood g_11) (fun u_32 => (slet (α := Nat × Int32) (if u_32 = 0 then (g_11, g_12) else (if g_25 = 0 then (slet (sp_EM_fails g_7 g_9 g_11 g_12 6) (fun (z26_60, z27_61) => (z26_60, z27_61))) else (g_11, g_12))) (fun (g_33, g_34) => (slet (α := Int32) (if g_33 = 0 then (-1) else g_34) (fun g_38 => (slet (sp_EM_isGood g_33) (fun u_43 => (if u_43 = 0 then ((-1), g_13, g_22, g_23, g_14, g_15, g_16, g_17, g_18, g_19, g_20, g_21, m12_0, g_24, m13_0, g_25, m14_0, g_26, m15_0, g_27, 0, 0, x18, g_7, g_8, g_9, g_10, (nI g_33), g_38, g_33, g_34, 1, x29, x30, x33) else (if g_27 = 0 then (slet sp_EM_another (fun (z29_47, z30_48) => ((nI g_25), g_13, g_22, g_23, g_14, g_15, g_16, g_17, g_18, g_19, g_20, g_21, m12_0, g_24, m13_0, g_25, m14_0, g_26, m15_0, (0 + 1), 0, 1, x18, g_7, g_8, g_9, g_10, (nI g_33), g_38, g_33, g_34, 1, z29_47, z30_48, 0))) else (slet (g_27 - 1) (fun vy_45 => (slet sp_EM_another (fun (z29_52, z30_53) => ((nI g_25), g_13, g_22, g_23, g_14, g_15, g_16, g_17, g_18, g_19, g_20, g_21, m12_0, g_24, m13_0, g_25, m14_0, g_26, m15_0, g_27, 0, 1, x18, g_7, g_8, g_9, g_10, (nI g_33), g_38, g_33, g_34, 1, z29_52, z30_53, 0))))))))))))))))))) else (slet (sp_EM_next x18 0 f17) (fun (z20_162, z21_163, z22_164, z23_165) => (slet (α := Int32 × Nat × Nat × Int32 × Nat × Int32 × (Nat → Int32) × (Nat → Int32) × (Nat → Int32) × (Nat → Nat) × (Nat → Nat) × (Nat → Nat) × (Nat → Nat) × (Nat → Int32) × (Nat → Nat) × (Nat → Nat) × (Nat → Int32) × Nat × Nat × Nat × Nat) (itrv (α := (Nat → Int32) × (Nat → Nat) × (Nat → Int32) × (Nat → Int32) × (Nat → Int32) × (Nat → Nat) × (Nat → Nat) × (Nat → Nat) × (Nat → Nat) × (Nat → Int32) × (Nat → Nat) × Nat × Nat × Nat × Nat × Int32 × Nat × Nat × Int32 × Nat × Int32) (β := (Int32 × Nat × Nat × Int32 × Nat × Int32 × (Nat → Int32) × (Nat → Int32) × (Nat → Int32) × (Nat → Nat) × (Nat → Nat) × (Nat → Nat) × (Nat → Nat) × (Nat → Int32) × (Nat → Nat) × (Nat → Nat) × (Nat → Int32) × Nat × Nat × Nat × Nat)) default (sp_EM_automaton_L2 x18 f17) (f1, q10, f11, f2, f3, q4, q5, q6, q7, f8, q9, 0, 0, 0, 0, z20_162, z21_163, z22_164, z23_165, 0, x27)) (fun (g_166, g_167, g_168, g_169, g_170, g_171, g_172, g_173, g_174, g_175, g_176, g_177, g_178, g_179, g_180, g_181, g_182, g_183, g_184, g_185, g_186) => (slet (sp_EM_isGood g_170) (fun u_191 => (slet (α := Nat × Int32) (if u_191 = 0 then (g_170, g_171) else (if g_184 = 0 then (slet (sp_EM_fails g_166 g_168 g_170 g_171 6) (fun (z26_219, z27_220) => (z26_219, z27_220))) else (g_170, g_171))) (fun (g_192, g_193) => (slet (α := Int32) (if g_192 = 0 then (-1) else g_193) (fun g_197 => (slet (sp_EM_isGood g_192) (fun u_202 => (if u_202 = 0 then ((-1), g_172, g_181, g_182, g_173, g_174, g_175, g_176, g_177, g_178, g_179, g_180, g_183, m12_1, g_184, m13_1, g_185, m14_1, g_186, m15_1, 0, 1, x18, g_166, g_167, g_168, g_169, (nI g_192), g_197, g_192, g_193, 0, x29, x30, x33) else (if g_186 = 0 then (slet sp_EM_another (fun (z29_206, z30_207) => ((nI g_184), g_172, g_181, g_182, g_173, g_174, g_175, g_176, g_177, g_178, g_179, g_180, g_183, m12_1, g_184, m13_1, g_185, m14_1, (0 + 1), m15_1, 0, 0, x18, g_166, g_167, g_168, g_169, (nI g_192), g_197, g_192, g_193, 0, z29_206, z30_207, 0))) else (slet (g_186 - 1) (fun vy_204 => (slet sp_EM_another (fun (z29_211, z30_212) => ((nI g_184), g_172, g_181, g_182, g_173, g_174, g_175, g_176, g_177, g_178, g_179, g_180, g_183, m12_1, g_184, m13_1, g_185, m14_1, g_186, m15_1, 0, 0, x18, g_166, g_167, g_168, g_169, (nI g_192), g_197, g_192, g_193, 0, z29_211, z30_212, 0))))))))))))))))))))
set_option maxHeartbeats 4000000 in
set_option maxRecDepth 100000 in
theorem c_EM_automaton (l : Launch) (dC : Nat → ClassId) (dI : Nat → Nat → Nat) (sz : Nat) (ad : Nat → Nat) (ck : Nat → ClassId) (x0 : Int32) (x16 : Nat) (x18 : Nat) (x19 : Nat) (x20 : Int32) (x21 : Nat) (x22 : Nat) (x23 : Int32) (x24 : Int32) (x25 : Int32) (x26 : Nat) (x27 : Int32) (x28 : Nat) (x29 : Nat) (x30 : Nat) (x33 : Nat) (x45 : Int32) (x46 : Nat) (x52 : Nat) (x53 : Nat) (x61 : Nat) (x62 : Nat) (x63 : Nat) (x65 : Nat) (x66 : Int32) (f1 : Nat → Int32) (f2 : Nat → Int32) (f3 : Nat → Int32) (q4 : Nat → Nat) (q5 : Nat → Nat) (q6 : Nat → Nat) (q7 : Nat → Nat) (f8 : Nat → Int32) (q9 : Nat → Nat) (q10 : Nat → Nat) (f11 : Nat → Int32) (m12_0 m12_1 : Nat) (m13_0 m13_1 : Nat) (m14_0 m14_1 : Nat) (m15_0 m15_1 : Nat) (f17 : Nat → Int32) (q31 : Nat → Nat) (f32 : Nat → Int32) (f34 : Nat → Int32) (f35 : Nat → Int32) (f36 : Nat → Int32) (f37 : Nat → Int32) (q38 : Nat → Nat) (f39 : Nat → Int32) (f40 : Nat → Int32) (f41 : Nat → Int32) (m42_0 m42_1 : Nat) (f43 : Nat → Int32) (f44 : Nat → Int32) (f47 : Nat → Int32) (f48 : Nat → Int32) (f49 : Nat → Int32) (f50 : Nat → Int32) (f51 : Nat → Int32) (q54 : Nat → Nat) (q55 : Nat → Nat) (q56 : Nat → Nat) (f57 : Nat → Int32) (q58 : Nat → Nat) (f59 : Nat → Int32) (f60 : Nat → Int32) (f64 : Nat → Int32) (hx16 : x16 ≤ 1) (hx18 : x18 ≤ 900) (hx19 : x19 ≤ 900) (hx21 : x21 ≤ 900) (hx22 : x22 ≤ 4) (hx26 : x26 ≤ 6) (hx28 : x28 ≤ 1) (hx29 : x29 ≤ 1) (hx30 : x30 ≤ 1) (hx33 : x33 ≤ 20) (hx46 : x46 ≤ 5) (hx52 : x52 ≤ 2400) (hx53 : x53 ≤ 119) (hx61 : x61 ≤ 119) (hx62 : x62 ≤ 2000) (hx63 : x63 ≤ 1) (hx65 : x65 ≤ 7) (hm12_0 : m12_0 ≤ 3) (hm12_1 : m12_1 ≤ 3) (hm13_0 : m13_0 ≤ 8) (hm13_1 : m13_1 ≤ 8) (hm14_0 : m14_0 ≤ 14) (hm14_1 : m14_1 ≤ 14) (hm15_0 : m15_0 ≤ 8) (hm15_1 : m15_1 ≤ 8) (hm42_0 : m42_0 ≤ 120) (hm42_1 : m42_1 ≤ 400) (hbg : (x16 = 0 ∧ (m13_0 = 0 ∨ 1 ≤ m15_0)) ∨ (x16 = 1 ∧ (m13_1 = 0 ∨ 1 ≤ m15_1))) : Met l yX9_automaton vs_EM_automaton ({ frames := 7, cells := 0, slots := 0, locals := 154 }) (va_Pc [.ref (ad 0)] (pu_B (dC, dI) (mo_w ad ck x0 (nI x16) (nI x18) (nI x19) x20 (nI x21) (nI x22) x23 x24 x25 (nI x26) x27 (nI x28) (nI x29) (nI x30) (nI x33) x45 (nI x46) (nI x52) (nI x53) (nI x61) (nI x62) (nI x63) (nI x65) x66 f1 f2 f3 (bN 3 q4) (bN 7 q5) (bN 7 q6) (bN 4 q7) f8 (bN 2 q9) (bH q10) f11 (b2 m12_0 m12_1) (b2 m13_0 m13_1) (b2 m14_0 m14_1) (b2m m15_0 m15_1) f17 (bA 159 q31) f32 f34 f35 f36 f37 (bN 7 q38) f39 f40 f41 (b2 m42_0 m42_1) f43 f44 f47 f48 f49 f50 f51 (bN 13 q54) (bN 120 q55) (bN 120 q56) f57 (bN 120 q58) f59 f60 f64) (mo_t ck) sz)) (va_Qi (fun (r : Int32) (_ : Unit) => r = (sp_EM_automaton x16 x18 x27 x29 x30 x33 f1 f2 f3 q4 q5 q6 q7 f8 q9 q10 f11 m12_0 m12_1 m13_0 m13_1 m14_0 m14_1 m15_0 m15_1 f17).1) (fun _ t => ∃ (z1 : Nat → Int32) (z10 : Nat → Nat) (z11 : Nat → Int32) (z2 : Nat → Int32) (z3 : Nat → Int32) (z4 : Nat → Nat) (z5 : Nat → Nat) (z6 : Nat → Nat) (z7 : Nat → Nat) (z8 : Nat → Int32) (z9 : Nat → Nat) (z12_0 : Nat) (z12_1 : Nat) (z13_0 : Nat) (z13_1 : Nat) (z14_0 : Nat) (z14_1 : Nat) (z15_0 : Nat) (z15_1 : Nat) (z0 : Int32) (z16 : Nat) (z19 : Nat) (z20 : Int32) (z21 : Nat) (z22 : Nat) (z23 : Int32) (z24 : Int32) (z25 : Int32) (z26 : Nat) (z27 : Int32) (z28 : Nat) (z29 : Nat) (z30 : Nat) (z33 : Nat), pu_E (dC, dI) (mo_w ad ck z0 (nI z16) (nI 0) (nI z19) z20 (nI z21) (nI z22) z23 z24 z25 (nI z26) z27 (nI z28) (nI z29) (nI z30) (nI z33) x45 (nI x46) (nI x52) (nI x53) (nI x61) (nI x62) (nI x63) (nI x65) x66 z1 z2 z3 (bN 3 z4) (bN 7 z5) (bN 7 z6) (bN 4 z7) z8 (bN 2 z9) (bH z10) z11 (b2 z12_0 z12_1) (b2 z13_0 z13_1) (b2 z14_0 z14_1) (b2m z15_0 z15_1) f17 (bA 159 q31) f32 f34 f35 f36 f37 (bN 7 q38) f39 f40 f41 (b2 m42_0 m42_1) f43 f44 f47 f48 f49 f50 f51 (bN 13 q54) (bN 120 q55) (bN 120 q56) f57 (bN 120 q58) f59 f60 f64) (mo_t ck) (va_A ((mo_w ad ck x0 (nI x16) (nI x18) (nI x19) x20 (nI x21) (nI x22) x23 x24 x25 (nI x26) x27 (nI x28) (nI x29) (nI x30) (nI x33) x45 (nI x46) (nI x52) (nI x53) (nI x61) (nI x62) (nI x63) (nI x65) x66 f1 f2 f3 (bN 3 q4) (bN 7 q5) (bN 7 q6) (bN 4 q7) f8 (bN 2 q9) (bH q10) f11 (b2 m12_0 m12_1) (b2 m13_0 m13_1) (b2 m14_0 m14_1) (b2m m15_0 m15_1) f17 (bA 159 q31) f32 f34 f35 f36 f37 (bN 7 q38) f39 f40 f41 (b2 m42_0 m42_1) f43 f44 f47 f48 f49 f50 f51 (bN 13 q54) (bN 120 q55) (bN 120 q56) f57 (bN 120 q58) f59 f60 f64)) sz) t ∧ (z12_0 ≤ 3) ∧ (z12_1 ≤ 3) ∧ (z13_0 ≤ 8) ∧ (z13_1 ≤ 8) ∧ (z14_0 ≤ 14) ∧ (z14_1 ≤ 14) ∧ (z15_0 ≤ 8) ∧ (z15_1 ≤ 8) ∧ (z16 ≤ 1) ∧ (z19 ≤ 900) ∧ (z21 ≤ 900) ∧ (z22 ≤ 4) ∧ (z26 ≤ 6) ∧ (z28 ≤ 1) ∧ (z29 ≤ 1) ∧ (z30 ≤ 1) ∧ (z33 ≤ 20) ∧ ((z16 = 0 ∧ (z13_0 = 0 ∨ 1 ≤ z15_0)) ∨ (z16 = 1 ∧ (z13_1 = 0 ∨ 1 ≤ z15_1))) ∧ ((z1, z10, z11, z2, z3, z4, z5, z6, z7, z8, z9, z12_0, z12_1, z13_0, z13_1, z14_0, z14_1, z15_0, z15_1, z0, z16, z19, z20, z21, z22, z23, z24, z25, z26, z27, z28, z29, z30, z33) = (sp_EM_automaton x16 x18 x27 x29 x30 x33 f1 f2 f3 q4 q5 q6 q7 f8 q9 q10 f11 m12_0 m12_1 m13_0 m13_1 m14_0 m14_1 m15_0 m15_1 f17).2)) (va_A ((mo_w ad ck x0 (nI x16) (nI x18) (nI x19) x20 (nI x21) (nI x22) x23 x24 x25 (nI x26) x27 (nI x28) (nI x29) (nI x30) (nI x33) x45 (nI x46) (nI x52) (nI x53) (nI x61) (nI x62) (nI x63) (nI x65) x66 f1 f2 f3 (bN 3 q4) (bN 7 q5) (bN 7 q6) (bN 4 q7) f8 (bN 2 q9) (bH q10) f11 (b2 m12_0 m12_1) (b2 m13_0 m13_1) (b2 m14_0 m14_1) (b2m m15_0 m15_1) f17 (bA 159 q31) f32 f34 f35 f36 f37 (bN 7 q38) f39 f40 f41 (b2 m42_0 m42_1) f43 f44 f47 f48 f49 f50 f51 (bN 13 q54) (bN 120 q55) (bN 120 q56) f57 (bN 120 q58) f59 f60 f64)) sz)) 0 0 (va_A ((mo_w ad ck x0 (nI x16) (nI x18) (nI x19) x20 (nI x21) (nI x22) x23 x24 x25 (nI x26) x27 (nI x28) (nI x29) (nI x30) (nI x33) x45 (nI x46) (nI x52) (nI x53) (nI x61) (nI x62) (nI x63) (nI x65) x66 f1 f2 f3 (bN 3 q4) (bN 7 q5) (bN 7 q6) (bN 4 q7) f8 (bN 2 q9) (bH q10) f11 (b2 m12_0 m12_1) (b2 m13_0 m13_1) (b2 m14_0 m14_1) (b2m m15_0 m15_1) f17 (bA 159 q31) f32 f34 f35 f36 f37 (bN 7 q38) f39 f40 f41 (b2 m42_0 m42_1) f43 f44 f47 f48 f49 f50 f51 (bN 13 q54) (bN 120 q55) (bN 120 q56) f57 (bN 120 q58) f59 f60 f64)) sz) := by
  refine Met.ofW (cc := cX9_automaton) (maxL := 1) (ret := (some .int)) (by decide) rfl ?_
  intro p e s m args below meth c s₁ B hml hv
  obtain ⟨rfl, rfl, hP, hK, hD0⟩ := hv
  have hx := B.exec
  have hb := B.bytes
  have hr := B.returns
  have hts := atoms_spec (ws := vs_EM_automaton) B.pre
  have v_1 := hts (.fieldLink RX9 142 "ClockReachModel" "thrown" "I") (List.mem_cons_of_mem _ vm_5)
  have v_2 := hts (.fieldLink RX9 145 "ClockReachModel" "taped" "I") (List.mem_cons_of_mem _ vm_135)
  have v_3 := hts (.fieldLink RX9 156 "ClockReachModel" "size" "I") (List.mem_cons_of_mem _ vm_47)
  have v_4 := hts (.fieldLink RX9 159 "ClockReachModel" "behind" "I") (List.mem_cons_of_mem _ vm_62)
  have v_5 := hts (.fieldLink RX9 186 "ClockReachModel" "wrong" "I") (List.mem_cons_of_mem _ vm_0)
  have v_6 := hts (.fieldLink RX9 258 "ClockReachModel" "bank" "I") (List.mem_cons_of_mem _ vm_4)
  have v_7 := hts (.fieldLink RX9 203 "ClockReachModel" "rb" "I") (List.mem_cons_of_mem _ vm_63)
  have v_8 := hts (.fieldLink RX9 43 "ClockReachModel" "clockMany" "[I") (List.mem_cons_of_mem _ vm_3)
  have v_9 := hts (.fieldLink RX9 46 "ClockReachModel" "placeMany" "[I") (List.mem_cons_of_mem _ vm_65)
  have v_10 := hts (.fieldLink RX9 49 "ClockReachModel" "edgeMany" "[I") (List.mem_cons_of_mem _ vm_45)
  have v_11 := hts (.fieldLink RX9 52 "ClockReachModel" "begins" "[I") (List.mem_cons_of_mem _ vm_126)
  have v_21 := hts (.fieldLink RX9 172 "ClockReachModel" "token" "I") (List.mem_cons_of_mem _ vm_12)
  have v_34 := hts (.fieldLink RX9 264 "ClockReachModel" "faultKind" "I") (List.mem_cons_of_mem _ vm_7)
  have v_35 := hts (.fieldLink RX9 189 "ClockReachModel" "wrongAt" "I") (List.mem_cons_of_mem _ vm_15)
  have v_36 := hts (.fieldLink RX9 58 "ClockReachModel" "faultPlace" "I") (List.mem_cons_of_mem _ vm_6)
  have v_37 := hts (.fieldLink RX9 267 "ClockReachModel" "acts" "I") (List.mem_cons_of_mem _ vm_136)
  have hown : s.vm.findClass RX9 = some m.cls := findClass_of_methodNamed B.named
  have hlocks := B.notSynchronized
  have hiX9 : ∀ w ∈ wsX90, w ∈ vs_EM_automaton := fun _ h => List.mem_cons_of_mem _ (vmi_L h)
  have hD := hD0.self (sz := s.heap.size)
  generalize hAe : va_A ((mo_w ad ck x0 (nI x16) (nI x18) (nI x19) x20 (nI x21) (nI x22) x23 x24 x25 (nI x26) x27 (nI x28) (nI x29) (nI x30) (nI x33) x45 (nI x46) (nI x52) (nI x53) (nI x61) (nI x62) (nI x63) (nI x65) x66 f1 f2 f3 (bN 3 q4) (bN 7 q5) (bN 7 q6) (bN 4 q7) f8 (bN 2 q9) (bH q10) f11 (b2 m12_0 m12_1) (b2 m13_0 m13_1) (b2 m14_0 m14_1) (b2m m15_0 m15_1) f17 (bA 159 q31) f32 f34 f35 f36 f37 (bN 7 q38) f39 f40 f41 (b2 m42_0 m42_1) f43 f44 f47 f48 f49 f50 f51 (bN 13 q54) (bN 120 q55) (bN 120 q56) f57 (bN 120 q58) f59 f60 f64)) s.heap.size = A at hD ⊢
  have hA : ∀ q : Nat, s.heap.size ≤ q → A q := fun q h => by rw [← hAe]; exact Or.inr h
  have hS : va_S A s.heap s.heap [] := va_S.rf
  have hl := lv_entry ([.ref (ad 0)]) (n := 1) (Nat.le_of_ble_eq_true rfl)
  rw [lg_entry_eq]
  generalize (lg_sl ([.ref (ad 0)]) ++ List.replicate (1 - (lg_sl ([.ref (ad 0)])).length) Slot.unset).toArray = ls at hl ⊢
  have hl : lv_has ls 1 [(0, .ref (ad 0))] := hl
  obtain ⟨RR, hRR⟩ : ∃ x, x = (sp_EM_automaton x16 x18 x27 x29 x30 x33 f1 f2 f3 q4 q5 q6 q7 f8 q9 q10 f11 m12_0 m12_1 m13_0 m13_1 m14_0 m14_1 m15_0 m15_1 f17) := ⟨_, rfl⟩
  have hsp := hRR
  rcases pu_01 hx16 with rfl | rfl
  · have hsp := hsp.trans (if_pos rfl)
    refine lv_aload_n hx hb dX9_automaton_0 rfl (lv_at hl 0 rfl) ?_
    refine lv_iconst (v := 0) hx hb dX9_automaton_1 (by decide) ?_
    refine va_put (D := (dC, dI)) (ci := 9) (v := .int 0) (ty := .int) (C := RX9) (T := TX9) (N := 67) hx hb hts hiX9 tyX9 tyX9_ok nmX9 hown hK hP hD hS 0 rfl rfl 0 (by decide) v_1 (fun _ h9 => h9) rfl (by decide +kernel) rfl rfl (Nat.le_of_ble_eq_true rfl) dX9_automaton_2 (fun H locs hP hD hS => ?_)
    have hP : va_P (dC, dI) vwCl (mo_w ad ck 0 0 (nI x18) (nI x19) x20 (nI x21) (nI x22) x23 x24 x25 (nI x26) x27 (nI x28) (nI x29) (nI x30) (nI x33) x45 (nI x46) (nI x52) (nI x53) (nI x61) (nI x62) (nI x63) (nI x65) x66 f1 f2 f3 (bN 3 q4) (bN 7 q5) (bN 7 q6) (bN 4 q7) f8 (bN 2 q9) (bH q10) f11 (b2 m12_0 m12_1) (b2 m13_0 m13_1) (b2 m14_0 m14_1) (b2m m15_0 m15_1) f17 (bA 159 q31) f32 f34 f35 f36 f37 (bN 7 q38) f39 f40 f41 (b2 m42_0 m42_1) f43 f44 f47 f48 f49 f50 f51 (bN 13 q54) (bN 120 q55) (bN 120 q56) f57 (bN 120 q58) f59 f60 f64) H := hP
    have hD : va_D A (mo_w ad ck 0 0 (nI x18) (nI x19) x20 (nI x21) (nI x22) x23 x24 x25 (nI x26) x27 (nI x28) (nI x29) (nI x30) (nI x33) x45 (nI x46) (nI x52) (nI x53) (nI x61) (nI x62) (nI x63) (nI x65) x66 f1 f2 f3 (bN 3 q4) (bN 7 q5) (bN 7 q6) (bN 4 q7) f8 (bN 2 q9) (bH q10) f11 (b2 m12_0 m12_1) (b2 m13_0 m13_1) (b2 m14_0 m14_1) (b2m m15_0 m15_1) f17 (bA 159 q31) f32 f34 f35 f36 f37 (bN 7 q38) f39 f40 f41 (b2 m42_0 m42_1) f43 f44 f47 f48 f49 f50 f51 (bN 13 q54) (bN 120 q55) (bN 120 q56) f57 (bN 120 q58) f59 f60 f64) := hD
    refine lv_aload_n hx hb dX9_automaton_5 rfl (lv_at hl 0 rfl) ?_
    refine lv_aload_n hx hb dX9_automaton_6 rfl (lv_at hl 0 rfl) ?_
    refine va_get (D := (dC, dI)) (ci := 9) (v := .int (nI x18)) (C := RX9) (T := TX9) (N := 67) hx hb hts hiX9 hown hK hP 0 rfl rfl 18 (by decide) v_2 (fun _ h9 => h9) rfl dX9_automaton_7 ?_
    refine va_put (D := (dC, dI)) (ci := 9) (v := .int (nI x18)) (ty := .int) (C := RX9) (T := TX9) (N := 67) hx hb hts hiX9 tyX9 tyX9_ok nmX9 hown hK hP hD hS 0 rfl rfl 19 (by decide) v_3 (fun _ h9 => h9) rfl (by decide +kernel) rfl rfl (Nat.le_of_ble_eq_true rfl) dX9_automaton_10 (fun H locs hP hD hS => ?_)
    have hP : va_P (dC, dI) vwCl (mo_w ad ck 0 0 (nI x18) (nI x18) x20 (nI x21) (nI x22) x23 x24 x25 (nI x26) x27 (nI x28) (nI x29) (nI x30) (nI x33) x45 (nI x46) (nI x52) (nI x53) (nI x61) (nI x62) (nI x63) (nI x65) x66 f1 f2 f3 (bN 3 q4) (bN 7 q5) (bN 7 q6) (bN 4 q7) f8 (bN 2 q9) (bH q10) f11 (b2 m12_0 m12_1) (b2 m13_0 m13_1) (b2 m14_0 m14_1) (b2m m15_0 m15_1) f17 (bA 159 q31) f32 f34 f35 f36 f37 (bN 7 q38) f39 f40 f41 (b2 m42_0 m42_1) f43 f44 f47 f48 f49 f50 f51 (bN 13 q54) (bN 120 q55) (bN 120 q56) f57 (bN 120 q58) f59 f60 f64) H := hP
    have hD : va_D A (mo_w ad ck 0 0 (nI x18) (nI x18) x20 (nI x21) (nI x22) x23 x24 x25 (nI x26) x27 (nI x28) (nI x29) (nI x30) (nI x33) x45 (nI x46) (nI x52) (nI x53) (nI x61) (nI x62) (nI x63) (nI x65) x66 f1 f2 f3 (bN 3 q4) (bN 7 q5) (bN 7 q6) (bN 4 q7) f8 (bN 2 q9) (bH q10) f11 (b2 m12_0 m12_1) (b2 m13_0 m13_1) (b2 m14_0 m14_1) (b2m m15_0 m15_1) f17 (bA 159 q31) f32 f34 f35 f36 f37 (bN 7 q38) f39 f40 f41 (b2 m42_0 m42_1) f43 f44 f47 f48 f49 f50 f51 (bN 13 q54) (bN 120 q55) (bN 120 q56) f57 (bN 120 q58) f59 f60 f64) := hD
    refine lv_aload_n hx hb dX9_automaton_13 rfl (lv_at hl 0 rfl) ?_
    refine lv_iconst (v := 0) hx hb dX9_automaton_14 (by decide) ?_
    refine va_put (D := (dC, dI)) (ci := 9) (v := .int 0) (ty := .int) (C := RX9) (T := TX9) (N := 67) hx hb hts hiX9 tyX9 tyX9_ok nmX9 hown hK hP hD hS 0 rfl rfl 18 (by decide) v_2 (fun _ h9 => h9) rfl (by decide +kernel) rfl rfl (Nat.le_of_ble_eq_true rfl) dX9_automaton_15 (fun H locs hP hD hS => ?_)
    have hP : va_P (dC, dI) vwCl (mo_w ad ck 0 0 0 (nI x18) x20 (nI x21) (nI x22) x23 x24 x25 (nI x26) x27 (nI x28) (nI x29) (nI x30) (nI x33) x45 (nI x46) (nI x52) (nI x53) (nI x61) (nI x62) (nI x63) (nI x65) x66 f1 f2 f3 (bN 3 q4) (bN 7 q5) (bN 7 q6) (bN 4 q7) f8 (bN 2 q9) (bH q10) f11 (b2 m12_0 m12_1) (b2 m13_0 m13_1) (b2 m14_0 m14_1) (b2m m15_0 m15_1) f17 (bA 159 q31) f32 f34 f35 f36 f37 (bN 7 q38) f39 f40 f41 (b2 m42_0 m42_1) f43 f44 f47 f48 f49 f50 f51 (bN 13 q54) (bN 120 q55) (bN 120 q56) f57 (bN 120 q58) f59 f60 f64) H := hP
    have hD : va_D A (mo_w ad ck 0 0 0 (nI x18) x20 (nI x21) (nI x22) x23 x24 x25 (nI x26) x27 (nI x28) (nI x29) (nI x30) (nI x33) x45 (nI x46) (nI x52) (nI x53) (nI x61) (nI x62) (nI x63) (nI x65) x66 f1 f2 f3 (bN 3 q4) (bN 7 q5) (bN 7 q6) (bN 4 q7) f8 (bN 2 q9) (bH q10) f11 (b2 m12_0 m12_1) (b2 m13_0 m13_1) (b2 m14_0 m14_1) (b2m m15_0 m15_1) f17 (bA 159 q31) f32 f34 f35 f36 f37 (bN 7 q38) f39 f40 f41 (b2 m42_0 m42_1) f43 f44 f47 f48 f49 f50 f51 (bN 13 q54) (bN 120 q55) (bN 120 q56) f57 (bN 120 q58) f59 f60 f64) := hD
    refine lv_aload_n hx hb dX9_automaton_18 rfl (lv_at hl 0 rfl) ?_
    refine lv_iconst (v := 0) hx hb dX9_automaton_19 (by decide) ?_
    refine va_put (D := (dC, dI)) (ci := 9) (v := .int 0) (ty := .int) (C := RX9) (T := TX9) (N := 67) hx hb hts hiX9 tyX9 tyX9_ok nmX9 hown hK hP hD hS 0 rfl rfl 21 (by decide) v_4 (fun _ h9 => h9) rfl (by decide +kernel) rfl rfl (Nat.le_of_ble_eq_true rfl) dX9_automaton_20 (fun H locs hP hD hS => ?_)
    have hP : va_P (dC, dI) vwCl (mo_w ad ck 0 0 0 (nI x18) x20 0 (nI x22) x23 x24 x25 (nI x26) x27 (nI x28) (nI x29) (nI x30) (nI x33) x45 (nI x46) (nI x52) (nI x53) (nI x61) (nI x62) (nI x63) (nI x65) x66 f1 f2 f3 (bN 3 q4) (bN 7 q5) (bN 7 q6) (bN 4 q7) f8 (bN 2 q9) (bH q10) f11 (b2 m12_0 m12_1) (b2 m13_0 m13_1) (b2 m14_0 m14_1) (b2m m15_0 m15_1) f17 (bA 159 q31) f32 f34 f35 f36 f37 (bN 7 q38) f39 f40 f41 (b2 m42_0 m42_1) f43 f44 f47 f48 f49 f50 f51 (bN 13 q54) (bN 120 q55) (bN 120 q56) f57 (bN 120 q58) f59 f60 f64) H := hP
    have hD : va_D A (mo_w ad ck 0 0 0 (nI x18) x20 0 (nI x22) x23 x24 x25 (nI x26) x27 (nI x28) (nI x29) (nI x30) (nI x33) x45 (nI x46) (nI x52) (nI x53) (nI x61) (nI x62) (nI x63) (nI x65) x66 f1 f2 f3 (bN 3 q4) (bN 7 q5) (bN 7 q6) (bN 4 q7) f8 (bN 2 q9) (bH q10) f11 (b2 m12_0 m12_1) (b2 m13_0 m13_1) (b2 m14_0 m14_1) (b2m m15_0 m15_1) f17 (bA 159 q31) f32 f34 f35 f36 f37 (bN 7 q38) f39 f40 f41 (b2 m42_0 m42_1) f43 f44 f47 f48 f49 f50 f51 (bN 13 q54) (bN 120 q55) (bN 120 q56) f57 (bN 120 q58) f59 f60 f64) := hD
    refine lv_aload_n hx hb dX9_automaton_23 rfl (lv_at hl 0 rfl) ?_
    refine lv_iconst (v := 0) hx hb dX9_automaton_24 (by decide) ?_
    refine va_put (D := (dC, dI)) (ci := 9) (v := .int 0) (ty := .int) (C := RX9) (T := TX9) (N := 67) hx hb hts hiX9 tyX9 tyX9_ok nmX9 hown hK hP hD hS 0 rfl rfl 26 (by decide) v_5 (fun _ h9 => h9) rfl (by decide +kernel) rfl rfl (Nat.le_of_ble_eq_true rfl) dX9_automaton_25 (fun H locs hP hD hS => ?_)
    have hP : va_P (dC, dI) vwCl (mo_w ad ck 0 0 0 (nI x18) x20 0 (nI x22) x23 x24 x25 0 x27 (nI x28) (nI x29) (nI x30) (nI x33) x45 (nI x46) (nI x52) (nI x53) (nI x61) (nI x62) (nI x63) (nI x65) x66 f1 f2 f3 (bN 3 q4) (bN 7 q5) (bN 7 q6) (bN 4 q7) f8 (bN 2 q9) (bH q10) f11 (b2 m12_0 m12_1) (b2 m13_0 m13_1) (b2 m14_0 m14_1) (b2m m15_0 m15_1) f17 (bA 159 q31) f32 f34 f35 f36 f37 (bN 7 q38) f39 f40 f41 (b2 m42_0 m42_1) f43 f44 f47 f48 f49 f50 f51 (bN 13 q54) (bN 120 q55) (bN 120 q56) f57 (bN 120 q58) f59 f60 f64) H := hP
    have hD : va_D A (mo_w ad ck 0 0 0 (nI x18) x20 0 (nI x22) x23 x24 x25 0 x27 (nI x28) (nI x29) (nI x30) (nI x33) x45 (nI x46) (nI x52) (nI x53) (nI x61) (nI x62) (nI x63) (nI x65) x66 f1 f2 f3 (bN 3 q4) (bN 7 q5) (bN 7 q6) (bN 4 q7) f8 (bN 2 q9) (bH q10) f11 (b2 m12_0 m12_1) (b2 m13_0 m13_1) (b2 m14_0 m14_1) (b2m m15_0 m15_1) f17 (bA 159 q31) f32 f34 f35 f36 f37 (bN 7 q38) f39 f40 f41 (b2 m42_0 m42_1) f43 f44 f47 f48 f49 f50 f51 (bN 13 q54) (bN 120 q55) (bN 120 q56) f57 (bN 120 q58) f59 f60 f64) := hD
    refine lv_aload_n hx hb dX9_automaton_28 rfl (lv_at hl 0 rfl) ?_
    refine lv_iconst (v := 1) hx hb dX9_automaton_29 (by decide) ?_
    refine lv_aload_n hx hb dX9_automaton_30 rfl (lv_at hl 0 rfl) ?_
    refine va_get (D := (dC, dI)) (ci := 9) (v := .int 0) (C := RX9) (T := TX9) (N := 67) hx hb hts hiX9 hown hK hP 0 rfl rfl 16 (by decide) v_6 (fun _ h9 => h9) rfl dX9_automaton_31 ?_
    refine lv_isub hx hb dX9_automaton_34 ?_
    refine lv_topi (fun y_1 ey_1 => ?_)
    obtain rfl : y_1 = 1 := ey_1.trans (by decide)
    refine va_put (D := (dC, dI)) (ci := 9) (v := .int 1) (ty := .int) (C := RX9) (T := TX9) (N := 67) hx hb hts hiX9 tyX9 tyX9_ok nmX9 hown hK hP hD hS 0 rfl rfl 28 (by decide) v_7 (fun _ h9 => h9) rfl (by decide +kernel) rfl rfl (Nat.le_of_ble_eq_true rfl) dX9_automaton_35 (fun H locs hP hD hS => ?_)
    have hP : va_P (dC, dI) vwCl (mo_w ad ck 0 0 0 (nI x18) x20 0 (nI x22) x23 x24 x25 0 x27 1 (nI x29) (nI x30) (nI x33) x45 (nI x46) (nI x52) (nI x53) (nI x61) (nI x62) (nI x63) (nI x65) x66 f1 f2 f3 (bN 3 q4) (bN 7 q5) (bN 7 q6) (bN 4 q7) f8 (bN 2 q9) (bH q10) f11 (b2 m12_0 m12_1) (b2 m13_0 m13_1) (b2 m14_0 m14_1) (b2m m15_0 m15_1) f17 (bA 159 q31) f32 f34 f35 f36 f37 (bN 7 q38) f39 f40 f41 (b2 m42_0 m42_1) f43 f44 f47 f48 f49 f50 f51 (bN 13 q54) (bN 120 q55) (bN 120 q56) f57 (bN 120 q58) f59 f60 f64) H := hP
    have hD : va_D A (mo_w ad ck 0 0 0 (nI x18) x20 0 (nI x22) x23 x24 x25 0 x27 1 (nI x29) (nI x30) (nI x33) x45 (nI x46) (nI x52) (nI x53) (nI x61) (nI x62) (nI x63) (nI x65) x66 f1 f2 f3 (bN 3 q4) (bN 7 q5) (bN 7 q6) (bN 4 q7) f8 (bN 2 q9) (bH q10) f11 (b2 m12_0 m12_1) (b2 m13_0 m13_1) (b2 m14_0 m14_1) (b2m m15_0 m15_1) f17 (bA 159 q31) f32 f34 f35 f36 f37 (bN 7 q38) f39 f40 f41 (b2 m42_0 m42_1) f43 f44 f47 f48 f49 f50 f51 (bN 13 q54) (bN 120 q55) (bN 120 q56) f57 (bN 120 q58) f59 f60 f64) := hD
    refine lv_aload_n hx hb dX9_automaton_38 rfl (lv_at hl 0 rfl) ?_
    refine va_get (D := (dC, dI)) (ci := 9) (v := .ref (ad 12)) (C := RX9) (T := TX9) (N := 67) hx hb hts hiX9 hown hK hP 0 rfl rfl 12 (by decide) v_8 (fun _ h9 => h9) rfl dX9_automaton_39 ?_
    refine lv_aload_n hx hb dX9_automaton_42 rfl (lv_at hl 0 rfl) ?_
    refine va_get (D := (dC, dI)) (ci := 9) (v := .int 1) (C := RX9) (T := TX9) (N := 67) hx hb hts hiX9 hown hK hP 0 rfl rfl 28 (by decide) v_7 (fun _ h9 => h9) rfl dX9_automaton_43 ?_
    refine lv_iconst (v := 0) hx hb dX9_automaton_46 (by decide) ?_
    refine va_iast hx hb hK hP hD hS 12 11 rfl rfl (vp_in_nI (n := 1) (Nat.le_of_ble_eq_true rfl) (Nat.le_of_ble_eq_true rfl)) dX9_automaton_47 (fun H locs hP hD hS => ?_)
    have hP : va_P (dC, dI) vwCl (mo_w ad ck 0 0 0 (nI x18) x20 0 (nI x22) x23 x24 x25 0 x27 1 (nI x29) (nI x30) (nI x33) x45 (nI x46) (nI x52) (nI x53) (nI x61) (nI x62) (nI x63) (nI x65) x66 f1 f2 f3 (bN 3 q4) (bN 7 q5) (bN 7 q6) (bN 4 q7) f8 (bN 2 q9) (bH q10) f11 (b2 m12_0 0) (b2 m13_0 m13_1) (b2 m14_0 m14_1) (b2m m15_0 m15_1) f17 (bA 159 q31) f32 f34 f35 f36 f37 (bN 7 q38) f39 f40 f41 (b2 m42_0 m42_1) f43 f44 f47 f48 f49 f50 f51 (bN 13 q54) (bN 120 q55) (bN 120 q56) f57 (bN 120 q58) f59 f60 f64) H := by rw [← b2_up1 (a := m12_0) (b := m12_1) (v := 0)]; exact hP
    have hD : va_D A (mo_w ad ck 0 0 0 (nI x18) x20 0 (nI x22) x23 x24 x25 0 x27 1 (nI x29) (nI x30) (nI x33) x45 (nI x46) (nI x52) (nI x53) (nI x61) (nI x62) (nI x63) (nI x65) x66 f1 f2 f3 (bN 3 q4) (bN 7 q5) (bN 7 q6) (bN 4 q7) f8 (bN 2 q9) (bH q10) f11 (b2 m12_0 0) (b2 m13_0 m13_1) (b2 m14_0 m14_1) (b2m m15_0 m15_1) f17 (bA 159 q31) f32 f34 f35 f36 f37 (bN 7 q38) f39 f40 f41 (b2 m42_0 m42_1) f43 f44 f47 f48 f49 f50 f51 (bN 13 q54) (bN 120 q55) (bN 120 q56) f57 (bN 120 q58) f59 f60 f64) := by rw [← b2_up1 (a := m12_0) (b := m12_1) (v := 0)]; exact hD
    refine lv_aload_n hx hb dX9_automaton_48 rfl (lv_at hl 0 rfl) ?_
    refine va_get (D := (dC, dI)) (ci := 9) (v := .ref (ad 13)) (C := RX9) (T := TX9) (N := 67) hx hb hts hiX9 hown hK hP 0 rfl rfl 13 (by decide) v_9 (fun _ h9 => h9) rfl dX9_automaton_49 ?_
    refine lv_aload_n hx hb dX9_automaton_52 rfl (lv_at hl 0 rfl) ?_
    refine va_get (D := (dC, dI)) (ci := 9) (v := .int 1) (C := RX9) (T := TX9) (N := 67) hx hb hts hiX9 hown hK hP 0 rfl rfl 28 (by decide) v_7 (fun _ h9 => h9) rfl dX9_automaton_53 ?_
    refine lv_iconst (v := 0) hx hb dX9_automaton_56 (by decide) ?_
    refine va_iast hx hb hK hP hD hS 13 12 rfl rfl (vp_in_nI (n := 1) (Nat.le_of_ble_eq_true rfl) (Nat.le_of_ble_eq_true rfl)) dX9_automaton_57 (fun H locs hP hD hS => ?_)
    have hP : va_P (dC, dI) vwCl (mo_w ad ck 0 0 0 (nI x18) x20 0 (nI x22) x23 x24 x25 0 x27 1 (nI x29) (nI x30) (nI x33) x45 (nI x46) (nI x52) (nI x53) (nI x61) (nI x62) (nI x63) (nI x65) x66 f1 f2 f3 (bN 3 q4) (bN 7 q5) (bN 7 q6) (bN 4 q7) f8 (bN 2 q9) (bH q10) f11 (b2 m12_0 0) (b2 m13_0 0) (b2 m14_0 m14_1) (b2m m15_0 m15_1) f17 (bA 159 q31) f32 f34 f35 f36 f37 (bN 7 q38) f39 f40 f41 (b2 m42_0 m42_1) f43 f44 f47 f48 f49 f50 f51 (bN 13 q54) (bN 120 q55) (bN 120 q56) f57 (bN 120 q58) f59 f60 f64) H := by rw [← b2_up1 (a := m13_0) (b := m13_1) (v := 0)]; exact hP
    have hD : va_D A (mo_w ad ck 0 0 0 (nI x18) x20 0 (nI x22) x23 x24 x25 0 x27 1 (nI x29) (nI x30) (nI x33) x45 (nI x46) (nI x52) (nI x53) (nI x61) (nI x62) (nI x63) (nI x65) x66 f1 f2 f3 (bN 3 q4) (bN 7 q5) (bN 7 q6) (bN 4 q7) f8 (bN 2 q9) (bH q10) f11 (b2 m12_0 0) (b2 m13_0 0) (b2 m14_0 m14_1) (b2m m15_0 m15_1) f17 (bA 159 q31) f32 f34 f35 f36 f37 (bN 7 q38) f39 f40 f41 (b2 m42_0 m42_1) f43 f44 f47 f48 f49 f50 f51 (bN 13 q54) (bN 120 q55) (bN 120 q56) f57 (bN 120 q58) f59 f60 f64) := by rw [← b2_up1 (a := m13_0) (b := m13_1) (v := 0)]; exact hD
    refine lv_aload_n hx hb dX9_automaton_58 rfl (lv_at hl 0 rfl) ?_
    refine va_get (D := (dC, dI)) (ci := 9) (v := .ref (ad 14)) (C := RX9) (T := TX9) (N := 67) hx hb hts hiX9 hown hK hP 0 rfl rfl 14 (by decide) v_10 (fun _ h9 => h9) rfl dX9_automaton_59 ?_
    refine lv_aload_n hx hb dX9_automaton_62 rfl (lv_at hl 0 rfl) ?_
    refine va_get (D := (dC, dI)) (ci := 9) (v := .int 1) (C := RX9) (T := TX9) (N := 67) hx hb hts hiX9 hown hK hP 0 rfl rfl 28 (by decide) v_7 (fun _ h9 => h9) rfl dX9_automaton_63 ?_
    refine lv_iconst (v := 0) hx hb dX9_automaton_66 (by decide) ?_
    refine va_iast hx hb hK hP hD hS 14 13 rfl rfl (vp_in_nI (n := 1) (Nat.le_of_ble_eq_true rfl) (Nat.le_of_ble_eq_true rfl)) dX9_automaton_67 (fun H locs hP hD hS => ?_)
    have hP : va_P (dC, dI) vwCl (mo_w ad ck 0 0 0 (nI x18) x20 0 (nI x22) x23 x24 x25 0 x27 1 (nI x29) (nI x30) (nI x33) x45 (nI x46) (nI x52) (nI x53) (nI x61) (nI x62) (nI x63) (nI x65) x66 f1 f2 f3 (bN 3 q4) (bN 7 q5) (bN 7 q6) (bN 4 q7) f8 (bN 2 q9) (bH q10) f11 (b2 m12_0 0) (b2 m13_0 0) (b2 m14_0 0) (b2m m15_0 m15_1) f17 (bA 159 q31) f32 f34 f35 f36 f37 (bN 7 q38) f39 f40 f41 (b2 m42_0 m42_1) f43 f44 f47 f48 f49 f50 f51 (bN 13 q54) (bN 120 q55) (bN 120 q56) f57 (bN 120 q58) f59 f60 f64) H := by rw [← b2_up1 (a := m14_0) (b := m14_1) (v := 0)]; exact hP
    have hD : va_D A (mo_w ad ck 0 0 0 (nI x18) x20 0 (nI x22) x23 x24 x25 0 x27 1 (nI x29) (nI x30) (nI x33) x45 (nI x46) (nI x52) (nI x53) (nI x61) (nI x62) (nI x63) (nI x65) x66 f1 f2 f3 (bN 3 q4) (bN 7 q5) (bN 7 q6) (bN 4 q7) f8 (bN 2 q9) (bH q10) f11 (b2 m12_0 0) (b2 m13_0 0) (b2 m14_0 0) (b2m m15_0 m15_1) f17 (bA 159 q31) f32 f34 f35 f36 f37 (bN 7 q38) f39 f40 f41 (b2 m42_0 m42_1) f43 f44 f47 f48 f49 f50 f51 (bN 13 q54) (bN 120 q55) (bN 120 q56) f57 (bN 120 q58) f59 f60 f64) := by rw [← b2_up1 (a := m14_0) (b := m14_1) (v := 0)]; exact hD
    refine lv_aload_n hx hb dX9_automaton_68 rfl (lv_at hl 0 rfl) ?_
    refine va_get (D := (dC, dI)) (ci := 9) (v := .ref (ad 15)) (C := RX9) (T := TX9) (N := 67) hx hb hts hiX9 hown hK hP 0 rfl rfl 15 (by decide) v_11 (fun _ h9 => h9) rfl dX9_automaton_69 ?_
    refine lv_aload_n hx hb dX9_automaton_72 rfl (lv_at hl 0 rfl) ?_
    refine va_get (D := (dC, dI)) (ci := 9) (v := .int 1) (C := RX9) (T := TX9) (N := 67) hx hb hts hiX9 hown hK hP 0 rfl rfl 28 (by decide) v_7 (fun _ h9 => h9) rfl dX9_automaton_73 ?_
    refine lv_iconst (v := (-1)) hx hb dX9_automaton_76 (by decide) ?_
    refine va_iast hx hb hK hP hD hS 15 14 rfl rfl (vp_in_nI (n := 1) (Nat.le_of_ble_eq_true rfl) (Nat.le_of_ble_eq_true rfl)) dX9_automaton_77 (fun H locs hP hD hS => ?_)
    have hP : va_P (dC, dI) vwCl (mo_w ad ck 0 0 0 (nI x18) x20 0 (nI x22) x23 x24 x25 0 x27 1 (nI x29) (nI x30) (nI x33) x45 (nI x46) (nI x52) (nI x53) (nI x61) (nI x62) (nI x63) (nI x65) x66 f1 f2 f3 (bN 3 q4) (bN 7 q5) (bN 7 q6) (bN 4 q7) f8 (bN 2 q9) (bH q10) f11 (b2 m12_0 0) (b2 m13_0 0) (b2 m14_0 0) (b2m m15_0 0) f17 (bA 159 q31) f32 f34 f35 f36 f37 (bN 7 q38) f39 f40 f41 (b2 m42_0 m42_1) f43 f44 f47 f48 f49 f50 f51 (bN 13 q54) (bN 120 q55) (bN 120 q56) f57 (bN 120 q58) f59 f60 f64) H := by rw [← b2m_n1 (a := m15_0) (b := m15_1)]; exact hP
    have hD : va_D A (mo_w ad ck 0 0 0 (nI x18) x20 0 (nI x22) x23 x24 x25 0 x27 1 (nI x29) (nI x30) (nI x33) x45 (nI x46) (nI x52) (nI x53) (nI x61) (nI x62) (nI x63) (nI x65) x66 f1 f2 f3 (bN 3 q4) (bN 7 q5) (bN 7 q6) (bN 4 q7) f8 (bN 2 q9) (bH q10) f11 (b2 m12_0 0) (b2 m13_0 0) (b2 m14_0 0) (b2m m15_0 0) f17 (bA 159 q31) f32 f34 f35 f36 f37 (bN 7 q38) f39 f40 f41 (b2 m42_0 m42_1) f43 f44 f47 f48 f49 f50 f51 (bN 13 q54) (bN 120 q55) (bN 120 q56) f57 (bN 120 q58) f59 f60 f64) := by rw [← b2m_n1 (a := m15_0) (b := m15_1)]; exact hD
    refine lv_aload_n hx hb dX9_automaton_78 rfl (lv_at hl 0 rfl) ?_
    have hFc := pu_free hD hS hA
    refine va_callv (va_runV (As := []) (rest := []) ⟨hx, hb, hml, hown, hts⟩ (c_EM_next l dC dI _ ad ck 0 0 0 x18 x20 0 x22 x23 x24 x25 0 x27 1 x29 x30 x33 x45 x46 x52 x53 x61 x62 x63 x65 x66 f1 f2 f3 q4 q5 q6 q7 f8 q9 q10 f11 m12_0 0 m13_0 0 m14_0 0 m15_0 0 f17 q31 f32 f34 f35 f36 f37 q38 f39 f40 f41 m42_0 m42_1 f43 f44 f47 f48 f49 f50 f51 q54 q55 q56 f57 q58 f59 f60 f64 (Nat.le_of_ble_eq_true rfl) (Nat.le_of_ble_eq_true rfl) hx18 (Nat.le_of_ble_eq_true rfl) hx22 (Nat.le_of_ble_eq_true rfl) (Nat.le_of_ble_eq_true rfl) hx29 hx30 hx33 hx46 hx52 hx53 hx61 hx62 hx63 hx65 hm12_0 (Nat.le_of_ble_eq_true rfl) hm13_0 (Nat.le_of_ble_eq_true rfl) hm14_0 (Nat.le_of_ble_eq_true rfl) hm15_0 (Nat.le_of_ble_eq_true rfl) hm42_0 hm42_1) (cwV 0 hts g_EM_automaton_EM_next rfl rfl rfl (by decide +kernel) ⟨Nat.le_of_ble_eq_true rfl, Nat.le_of_ble_eq_true rfl⟩) ⟨pu_bl, va_recv hK hP (ci := 9) (q0 := 0) rfl rfl, pu_in hP hK hD⟩ rfl rfl hl.1 rfl (lv_room (Nat.le_of_ble_eq_true rfl)) dX9_automaton_79 ⟨Nat.le_of_ble_eq_true rfl, Nat.le_of_ble_eq_true rfl⟩) hS (fun q _ h => hFc q h) hFc (fun u t H1 locs ht hvm hw hB hz1 hk1 hS => ?_)
    obtain ⟨z20_3, z21_4, z22_5, z23_6, ⟨hP1, -, hD1⟩, hz21_4, hz22_5, xr_2_0, xr_2_1, xr_2_2⟩ := hB
    rw [ht] at hP1
    have hP := hP1
    have hD := pu_all hFc hD1
    clear hP1 hD1 hFc
    clear hk1 hz1 ht hvm
    generalize H1 = H at hP hS ⊢
    have hsp := hsp.trans (slet_eq xr_2_2)
    obtain ⟨JR_29, hJR_29, hsp⟩ := slet_ex hsp
    refine pu_join (fun H locs ls st => ∃ (g_7 : Int32) (g_8 : Nat) (g_9 : Nat) (g_10 : Int32) (g_11 : Nat) (g_12 : Int32) (g_13 : Nat → Int32) (g_14 : Nat → Int32) (g_15 : Nat → Int32) (g_16 : Nat → Nat) (g_17 : Nat → Nat) (g_18 : Nat → Nat) (g_19 : Nat → Nat) (g_20 : Nat → Int32) (g_21 : Nat → Nat) (g_22 : Nat → Nat) (g_23 : Nat → Int32) (g_24 : Nat) (g_25 : Nat) (g_26 : Nat) (g_27 : Nat), st = [] ∧ g_8 ≤ 900 ∧ g_9 ≤ 4 ∧ g_11 ≤ 6 ∧ g_24 ≤ 3 ∧ g_25 ≤ 8 ∧ g_26 ≤ 14 ∧ g_27 ≤ 8 ∧ (g_7, g_8, g_9, g_10, g_11, g_12, g_13, g_14, g_15, g_16, g_17, g_18, g_19, g_20, g_21, g_22, g_23, g_24, g_25, g_26, g_27) = JR_29 ∧ va_P (dC, dI) vwCl (mo_w ad ck 0 0 0 (nI x18) g_7 (nI g_8) (nI g_9) g_10 x24 x25 (nI g_11) g_12 1 (nI x29) (nI x30) (nI x33) x45 (nI x46) (nI x52) (nI x53) (nI x61) (nI x62) (nI x63) (nI x65) x66 g_13 g_14 g_15 (bN 3 g_16) (bN 7 g_17) (bN 7 g_18) (bN 4 g_19) g_20 (bN 2 g_21) (bH g_22) g_23 (b2 m12_0 g_24) (b2 m13_0 g_25) (b2 m14_0 g_26) (b2m m15_0 g_27) f17 (bA 159 q31) f32 f34 f35 f36 f37 (bN 7 q38) f39 f40 f41 (b2 m42_0 m42_1) f43 f44 f47 f48 f49 f50 f51 (bN 13 q54) (bN 120 q55) (bN 120 q56) f57 (bN 120 q58) f59 f60 f64) H ∧ va_D A (mo_w ad ck 0 0 0 (nI x18) g_7 (nI g_8) (nI g_9) g_10 x24 x25 (nI g_11) g_12 1 (nI x29) (nI x30) (nI x33) x45 (nI x46) (nI x52) (nI x53) (nI x61) (nI x62) (nI x63) (nI x65) x66 g_13 g_14 g_15 (bN 3 g_16) (bN 7 g_17) (bN 7 g_18) (bN 4 g_19) g_20 (bN 2 g_21) (bH g_22) g_23 (b2 m12_0 g_24) (b2 m13_0 g_25) (b2 m14_0 g_26) (b2m m15_0 g_27) f17 (bA 159 q31) f32 f34 f35 f36 f37 (bN 7 q38) f39 f40 f41 (b2 m42_0 m42_1) f43 f44 f47 f48 f49 f50 f51 (bN 13 q54) (bN 120 q55) (bN 120 q56) f57 (bN 120 q58) f59 f60 f64) ∧ va_S A s.heap H locs ∧ lv_has ls 1 [(0, .ref (ad 0))]) 135 ?_ (fun j_28 => ?_)
    · rintro H locs ls st ⟨g_7, g_8, g_9, g_10, g_11, g_12, g_13, g_14, g_15, g_16, g_17, g_18, g_19, g_20, g_21, g_22, g_23, g_24, g_25, g_26, g_27, rfl, hg_8, hg_9, hg_11, hg_24, hg_25, hg_26, hg_27, he_30, hP, hD, hS, hl⟩
      rw [← he_30] at hsp
      refine lv_aload_n hx hb dX9_automaton_135 rfl (lv_at hl 0 rfl) ?_
      refine va_calli (va_runV (As := []) (rest := []) ⟨hx, hb, hml, hown, hts⟩ (c_EM_isGood l dC dI _ ad ck 0 0 0 x18 g_7 g_8 g_9 g_10 x24 x25 g_11 g_12 1 x29 x30 x33 x45 x46 x52 x53 x61 x62 x63 x65 x66 g_13 g_14 g_15 g_16 g_17 g_18 g_19 g_20 g_21 g_22 g_23 m12_0 g_24 m13_0 g_25 m14_0 g_26 m15_0 g_27 f17 q31 f32 f34 f35 f36 f37 q38 f39 f40 f41 m42_0 m42_1 f43 f44 f47 f48 f49 f50 f51 q54 q55 q56 f57 q58 f59 f60 f64 (Nat.le_of_ble_eq_true rfl) (Nat.le_of_ble_eq_true rfl) hx18 hg_8 hg_9 hg_11 (Nat.le_of_ble_eq_true rfl) hx29 hx30 hx33 hx46 hx52 hx53 hx61 hx62 hx63 hx65 hm12_0 hg_24 hm13_0 hg_25 hm14_0 hg_26 hm15_0 hg_27 hm42_0 hm42_1) (cwV 0 hts g_EM_automaton_EM_isGood rfl rfl rfl (by decide +kernel) ⟨Nat.le_of_ble_eq_true rfl, Nat.le_of_ble_eq_true rfl⟩) ⟨pu_bl, va_recv hK hP (ci := 9) (q0 := 0) rfl rfl, pu_in hP hK hD⟩ rfl rfl hl.1 rfl (lv_room (Nat.le_of_ble_eq_true rfl)) dX9_automaton_136 ⟨Nat.le_of_ble_eq_true rfl, Nat.le_of_ble_eq_true rfl⟩) hS (fun q _ h => pu_fr hS hA q h) (pu_fr hS hA) (fun r_31 u t H1 locs ht hvm hw hB hz1 hk1 hS => ?_)
      have hP := pu_keep hP hk1
      clear hk1 hz1 ht hvm
      generalize H1 = H at hP hS ⊢
      obtain ⟨u_32, hu_32, rfl, ju_32, iu_32⟩ := hw
      have hsp := hsp.trans (slet_eq iu_32)
      obtain ⟨JR_36, hJR_36, hsp⟩ := slet_ex hsp
      refine pu_join (fun H locs ls st => ∃ (g_33 : Nat) (g_34 : Int32), st = [] ∧ g_33 ≤ 6 ∧ (g_33, g_34) = JR_36 ∧ va_P (dC, dI) vwCl (mo_w ad ck 0 0 0 (nI x18) g_7 (nI g_8) (nI g_9) g_10 x24 x25 (nI g_33) g_34 1 (nI x29) (nI x30) (nI x33) x45 (nI x46) (nI x52) (nI x53) (nI x61) (nI x62) (nI x63) (nI x65) x66 g_13 g_14 g_15 (bN 3 g_16) (bN 7 g_17) (bN 7 g_18) (bN 4 g_19) g_20 (bN 2 g_21) (bH g_22) g_23 (b2 m12_0 g_24) (b2 m13_0 g_25) (b2 m14_0 g_26) (b2m m15_0 g_27) f17 (bA 159 q31) f32 f34 f35 f36 f37 (bN 7 q38) f39 f40 f41 (b2 m42_0 m42_1) f43 f44 f47 f48 f49 f50 f51 (bN 13 q54) (bN 120 q55) (bN 120 q56) f57 (bN 120 q58) f59 f60 f64) H ∧ va_D A (mo_w ad ck 0 0 0 (nI x18) g_7 (nI g_8) (nI g_9) g_10 x24 x25 (nI g_33) g_34 1 (nI x29) (nI x30) (nI x33) x45 (nI x46) (nI x52) (nI x53) (nI x61) (nI x62) (nI x63) (nI x65) x66 g_13 g_14 g_15 (bN 3 g_16) (bN 7 g_17) (bN 7 g_18) (bN 4 g_19) g_20 (bN 2 g_21) (bH g_22) g_23 (b2 m12_0 g_24) (b2 m13_0 g_25) (b2 m14_0 g_26) (b2m m15_0 g_27) f17 (bA 159 q31) f32 f34 f35 f36 f37 (bN 7 q38) f39 f40 f41 (b2 m42_0 m42_1) f43 f44 f47 f48 f49 f50 f51 (bN 13 q54) (bN 120 q55) (bN 120 q56) f57 (bN 120 q58) f59 f60 f64) ∧ va_S A s.heap H locs ∧ lv_has ls 1 [(0, .ref (ad 0))]) 160 ?_ (fun j_35 => ?_)
      · rintro H locs ls st ⟨g_33, g_34, rfl, hg_33, he_37, hP, hD, hS, hl⟩
        rw [← he_37] at hsp
        refine lv_aload_n hx hb dX9_automaton_160 rfl (lv_at hl 0 rfl) ?_
        refine lv_aload_n hx hb dX9_automaton_161 rfl (lv_at hl 0 rfl) ?_
        refine va_get (D := (dC, dI)) (ci := 9) (v := .int (nI g_33)) (C := RX9) (T := TX9) (N := 67) hx hb hts hiX9 hown hK hP 0 rfl rfl 26 (by decide) v_5 (fun _ h9 => h9) rfl dX9_automaton_162 ?_
        refine va_put (D := (dC, dI)) (ci := 9) (v := .int (nI g_33)) (ty := .int) (C := RX9) (T := TX9) (N := 67) hx hb hts hiX9 tyX9 tyX9_ok nmX9 hown hK hP hD hS 0 rfl rfl 24 (by decide) v_34 (fun _ h9 => h9) rfl (by decide +kernel) rfl rfl (Nat.le_of_ble_eq_true rfl) dX9_automaton_165 (fun H locs hP hD hS => ?_)
        have hP : va_P (dC, dI) vwCl (mo_w ad ck 0 0 0 (nI x18) g_7 (nI g_8) (nI g_9) g_10 (nI g_33) x25 (nI g_33) g_34 1 (nI x29) (nI x30) (nI x33) x45 (nI x46) (nI x52) (nI x53) (nI x61) (nI x62) (nI x63) (nI x65) x66 g_13 g_14 g_15 (bN 3 g_16) (bN 7 g_17) (bN 7 g_18) (bN 4 g_19) g_20 (bN 2 g_21) (bH g_22) g_23 (b2 m12_0 g_24) (b2 m13_0 g_25) (b2 m14_0 g_26) (b2m m15_0 g_27) f17 (bA 159 q31) f32 f34 f35 f36 f37 (bN 7 q38) f39 f40 f41 (b2 m42_0 m42_1) f43 f44 f47 f48 f49 f50 f51 (bN 13 q54) (bN 120 q55) (bN 120 q56) f57 (bN 120 q58) f59 f60 f64) H := hP
        have hD : va_D A (mo_w ad ck 0 0 0 (nI x18) g_7 (nI g_8) (nI g_9) g_10 (nI g_33) x25 (nI g_33) g_34 1 (nI x29) (nI x30) (nI x33) x45 (nI x46) (nI x52) (nI x53) (nI x61) (nI x62) (nI x63) (nI x65) x66 g_13 g_14 g_15 (bN 3 g_16) (bN 7 g_17) (bN 7 g_18) (bN 4 g_19) g_20 (bN 2 g_21) (bH g_22) g_23 (b2 m12_0 g_24) (b2 m13_0 g_25) (b2 m14_0 g_26) (b2m m15_0 g_27) f17 (bA 159 q31) f32 f34 f35 f36 f37 (bN 7 q38) f39 f40 f41 (b2 m42_0 m42_1) f43 f44 f47 f48 f49 f50 f51 (bN 13 q54) (bN 120 q55) (bN 120 q56) f57 (bN 120 q58) f59 f60 f64) := hD
        refine lv_aload_n hx hb dX9_automaton_168 rfl (lv_at hl 0 rfl) ?_
        refine lv_aload_n hx hb dX9_automaton_169 rfl (lv_at hl 0 rfl) ?_
        refine va_get (D := (dC, dI)) (ci := 9) (v := .int (nI g_33)) (C := RX9) (T := TX9) (N := 67) hx hb hts hiX9 hown hK hP 0 rfl rfl 26 (by decide) v_5 (fun _ h9 => h9) rfl dX9_automaton_170 ?_
        obtain ⟨JR_40, hJR_40, hsp⟩ := slet_ex hsp
        refine pu_join (fun H locs ls st => ∃ (g_38 : Int32), st = [.int g_38, .ref (ad 0)] ∧ g_38 = JR_40 ∧ va_P (dC, dI) vwCl (mo_w ad ck 0 0 0 (nI x18) g_7 (nI g_8) (nI g_9) g_10 (nI g_33) x25 (nI g_33) g_34 1 (nI x29) (nI x30) (nI x33) x45 (nI x46) (nI x52) (nI x53) (nI x61) (nI x62) (nI x63) (nI x65) x66 g_13 g_14 g_15 (bN 3 g_16) (bN 7 g_17) (bN 7 g_18) (bN 4 g_19) g_20 (bN 2 g_21) (bH g_22) g_23 (b2 m12_0 g_24) (b2 m13_0 g_25) (b2 m14_0 g_26) (b2m m15_0 g_27) f17 (bA 159 q31) f32 f34 f35 f36 f37 (bN 7 q38) f39 f40 f41 (b2 m42_0 m42_1) f43 f44 f47 f48 f49 f50 f51 (bN 13 q54) (bN 120 q55) (bN 120 q56) f57 (bN 120 q58) f59 f60 f64) H ∧ va_D A (mo_w ad ck 0 0 0 (nI x18) g_7 (nI g_8) (nI g_9) g_10 (nI g_33) x25 (nI g_33) g_34 1 (nI x29) (nI x30) (nI x33) x45 (nI x46) (nI x52) (nI x53) (nI x61) (nI x62) (nI x63) (nI x65) x66 g_13 g_14 g_15 (bN 3 g_16) (bN 7 g_17) (bN 7 g_18) (bN 4 g_19) g_20 (bN 2 g_21) (bH g_22) g_23 (b2 m12_0 g_24) (b2 m13_0 g_25) (b2 m14_0 g_26) (b2m m15_0 g_27) f17 (bA 159 q31) f32 f34 f35 f36 f37 (bN 7 q38) f39 f40 f41 (b2 m42_0 m42_1) f43 f44 f47 f48 f49 f50 f51 (bN 13 q54) (bN 120 q55) (bN 120 q56) f57 (bN 120 q58) f59 f60 f64) ∧ va_S A s.heap H locs ∧ lv_has ls 1 [(0, .ref (ad 0))]) 184 ?_ (fun j_39 => ?_)
        · rintro H locs ls st ⟨g_38, rfl, he_41, hP, hD, hS, hl⟩
          rw [← he_41] at hsp
          refine va_put (D := (dC, dI)) (ci := 9) (v := .int g_38) (ty := .int) (C := RX9) (T := TX9) (N := 67) hx hb hts hiX9 tyX9 tyX9_ok nmX9 hown hK hP hD hS 0 rfl rfl 25 (by decide) v_36 (fun _ h9 => h9) rfl (by decide +kernel) rfl rfl (Nat.le_of_ble_eq_true rfl) dX9_automaton_184 (fun H locs hP hD hS => ?_)
          have hP : va_P (dC, dI) vwCl (mo_w ad ck 0 0 0 (nI x18) g_7 (nI g_8) (nI g_9) g_10 (nI g_33) g_38 (nI g_33) g_34 1 (nI x29) (nI x30) (nI x33) x45 (nI x46) (nI x52) (nI x53) (nI x61) (nI x62) (nI x63) (nI x65) x66 g_13 g_14 g_15 (bN 3 g_16) (bN 7 g_17) (bN 7 g_18) (bN 4 g_19) g_20 (bN 2 g_21) (bH g_22) g_23 (b2 m12_0 g_24) (b2 m13_0 g_25) (b2 m14_0 g_26) (b2m m15_0 g_27) f17 (bA 159 q31) f32 f34 f35 f36 f37 (bN 7 q38) f39 f40 f41 (b2 m42_0 m42_1) f43 f44 f47 f48 f49 f50 f51 (bN 13 q54) (bN 120 q55) (bN 120 q56) f57 (bN 120 q58) f59 f60 f64) H := hP
          have hD : va_D A (mo_w ad ck 0 0 0 (nI x18) g_7 (nI g_8) (nI g_9) g_10 (nI g_33) g_38 (nI g_33) g_34 1 (nI x29) (nI x30) (nI x33) x45 (nI x46) (nI x52) (nI x53) (nI x61) (nI x62) (nI x63) (nI x65) x66 g_13 g_14 g_15 (bN 3 g_16) (bN 7 g_17) (bN 7 g_18) (bN 4 g_19) g_20 (bN 2 g_21) (bH g_22) g_23 (b2 m12_0 g_24) (b2 m13_0 g_25) (b2 m14_0 g_26) (b2m m15_0 g_27) f17 (bA 159 q31) f32 f34 f35 f36 f37 (bN 7 q38) f39 f40 f41 (b2 m42_0 m42_1) f43 f44 f47 f48 f49 f50 f51 (bN 13 q54) (bN 120 q55) (bN 120 q56) f57 (bN 120 q58) f59 f60 f64) := hD
          refine lv_aload_n hx hb dX9_automaton_187 rfl (lv_at hl 0 rfl) ?_
          refine va_calli (va_runV (As := []) (rest := []) ⟨hx, hb, hml, hown, hts⟩ (c_EM_isGood l dC dI _ ad ck 0 0 0 x18 g_7 g_8 g_9 g_10 (nI g_33) g_38 g_33 g_34 1 x29 x30 x33 x45 x46 x52 x53 x61 x62 x63 x65 x66 g_13 g_14 g_15 g_16 g_17 g_18 g_19 g_20 g_21 g_22 g_23 m12_0 g_24 m13_0 g_25 m14_0 g_26 m15_0 g_27 f17 q31 f32 f34 f35 f36 f37 q38 f39 f40 f41 m42_0 m42_1 f43 f44 f47 f48 f49 f50 f51 q54 q55 q56 f57 q58 f59 f60 f64 (Nat.le_of_ble_eq_true rfl) (Nat.le_of_ble_eq_true rfl) hx18 hg_8 hg_9 hg_33 (Nat.le_of_ble_eq_true rfl) hx29 hx30 hx33 hx46 hx52 hx53 hx61 hx62 hx63 hx65 hm12_0 hg_24 hm13_0 hg_25 hm14_0 hg_26 hm15_0 hg_27 hm42_0 hm42_1) (cwV 0 hts g_EM_automaton_EM_isGood rfl rfl rfl (by decide +kernel) ⟨Nat.le_of_ble_eq_true rfl, Nat.le_of_ble_eq_true rfl⟩) ⟨pu_bl, va_recv hK hP (ci := 9) (q0 := 0) rfl rfl, pu_in hP hK hD⟩ rfl rfl hl.1 rfl (lv_room (Nat.le_of_ble_eq_true rfl)) dX9_automaton_188 ⟨Nat.le_of_ble_eq_true rfl, Nat.le_of_ble_eq_true rfl⟩) hS (fun q _ h => pu_fr hS hA q h) (pu_fr hS hA) (fun r_42 u t H1 locs ht hvm hw hB hz1 hk1 hS => ?_)
          have hP := pu_keep hP hk1
          clear hk1 hz1 ht hvm
          generalize H1 = H at hP hS ⊢
          obtain ⟨u_43, hu_43, rfl, ju_43, iu_43⟩ := hw
          have hsp := hsp.trans (slet_eq iu_43)
          refine lv_if_ne (tgt := 196) hx hb dX9_automaton_191 (by decide) (fun c_44 => ?_) (fun c_44 => ?_)
          · have c_44 : ¬ u_43 = 0 := fun z => c_44 ((nI_eq (a := u_43) (b := 0) (Nat.lt_of_le_of_lt hu_43 (Nat.le_of_ble_eq_true rfl)) (Nat.le_of_ble_eq_true rfl)).mpr z)
            have hsp := hsp.trans (if_neg c_44)
            refine lv_aload_n hx hb dX9_automaton_196 rfl (lv_at hl 0 rfl) ?_
            refine lv_aload_n hx hb dX9_automaton_197 rfl (lv_at hl 0 rfl) ?_
            refine va_get (D := (dC, dI)) (ci := 9) (v := .int 1) (C := RX9) (T := TX9) (N := 67) hx hb hts hiX9 hown hK hP 0 rfl rfl 28 (by decide) v_7 (fun _ h9 => h9) rfl dX9_automaton_198 ?_
            refine va_put (D := (dC, dI)) (ci := 9) (v := .int 1) (ty := .int) (C := RX9) (T := TX9) (N := 67) hx hb hts hiX9 tyX9 tyX9_ok nmX9 hown hK hP hD hS 0 rfl rfl 16 (by decide) v_6 (fun _ h9 => h9) rfl (by decide +kernel) rfl rfl (Nat.le_of_ble_eq_true rfl) dX9_automaton_201 (fun H locs hP hD hS => ?_)
            have hP : va_P (dC, dI) vwCl (mo_w ad ck 0 1 0 (nI x18) g_7 (nI g_8) (nI g_9) g_10 (nI g_33) g_38 (nI g_33) g_34 1 (nI x29) (nI x30) (nI x33) x45 (nI x46) (nI x52) (nI x53) (nI x61) (nI x62) (nI x63) (nI x65) x66 g_13 g_14 g_15 (bN 3 g_16) (bN 7 g_17) (bN 7 g_18) (bN 4 g_19) g_20 (bN 2 g_21) (bH g_22) g_23 (b2 m12_0 g_24) (b2 m13_0 g_25) (b2 m14_0 g_26) (b2m m15_0 g_27) f17 (bA 159 q31) f32 f34 f35 f36 f37 (bN 7 q38) f39 f40 f41 (b2 m42_0 m42_1) f43 f44 f47 f48 f49 f50 f51 (bN 13 q54) (bN 120 q55) (bN 120 q56) f57 (bN 120 q58) f59 f60 f64) H := hP
            have hD : va_D A (mo_w ad ck 0 1 0 (nI x18) g_7 (nI g_8) (nI g_9) g_10 (nI g_33) g_38 (nI g_33) g_34 1 (nI x29) (nI x30) (nI x33) x45 (nI x46) (nI x52) (nI x53) (nI x61) (nI x62) (nI x63) (nI x65) x66 g_13 g_14 g_15 (bN 3 g_16) (bN 7 g_17) (bN 7 g_18) (bN 4 g_19) g_20 (bN 2 g_21) (bH g_22) g_23 (b2 m12_0 g_24) (b2 m13_0 g_25) (b2 m14_0 g_26) (b2m m15_0 g_27) f17 (bA 159 q31) f32 f34 f35 f36 f37 (bN 7 q38) f39 f40 f41 (b2 m42_0 m42_1) f43 f44 f47 f48 f49 f50 f51 (bN 13 q54) (bN 120 q55) (bN 120 q56) f57 (bN 120 q58) f59 f60 f64) := hD
            refine lv_aload_n hx hb dX9_automaton_204 rfl (lv_at hl 0 rfl) ?_
            refine va_get (D := (dC, dI)) (ci := 9) (v := .ref (ad 15)) (C := RX9) (T := TX9) (N := 67) hx hb hts hiX9 hown hK hP 0 rfl rfl 15 (by decide) v_11 (fun _ h9 => h9) rfl dX9_automaton_205 ?_
            refine lv_aload_n hx hb dX9_automaton_208 rfl (lv_at hl 0 rfl) ?_
            refine va_get (D := (dC, dI)) (ci := 9) (v := .int 1) (C := RX9) (T := TX9) (N := 67) hx hb hts hiX9 hown hK hP 0 rfl rfl 16 (by decide) v_6 (fun _ h9 => h9) rfl dX9_automaton_209 ?_
            refine va_iald hx hb hK hP 15 14 rfl rfl (vp_in_nI (n := 1) (Nat.le_of_ble_eq_true rfl) (Nat.le_of_ble_eq_true rfl)) dX9_automaton_212 ?_
            refine lv_topi (fun y_45 ey_45 => ?_)
            have qy_45 := ey_45.trans b2m_1
            clear ey_45
            rcases mI_get g_27 with ⟨zy_45, wy_45⟩ | ⟨vy_45, zy_45, wy_45⟩
            · obtain rfl : y_45 = -1 := qy_45.trans wy_45
              have hsp := hsp.trans (if_pos zy_45)
              refine lv_if_ge (tgt := 226) hx hb dX9_automaton_213 (by decide) (fun z => absurd z (by decide)) (fun _ => ?_)
              refine lv_aload_n hx hb dX9_automaton_216 rfl (lv_at hl 0 rfl) ?_
              refine va_get (D := (dC, dI)) (ci := 9) (v := .ref (ad 15)) (C := RX9) (T := TX9) (N := 67) hx hb hts hiX9 hown hK hP 0 rfl rfl 15 (by decide) v_11 (fun _ h9 => h9) rfl dX9_automaton_217 ?_
              refine lv_aload_n hx hb dX9_automaton_220 rfl (lv_at hl 0 rfl) ?_
              refine va_get (D := (dC, dI)) (ci := 9) (v := .int 1) (C := RX9) (T := TX9) (N := 67) hx hb hts hiX9 hown hK hP 0 rfl rfl 16 (by decide) v_6 (fun _ h9 => h9) rfl dX9_automaton_221 ?_
              refine lv_iconst (v := 0) hx hb dX9_automaton_224 (by decide) ?_
              refine va_iast hx hb hK hP hD hS 15 14 rfl rfl (vp_in_nI (n := 1) (Nat.le_of_ble_eq_true rfl) (Nat.le_of_ble_eq_true rfl)) dX9_automaton_225 (fun H locs hP hD hS => ?_)
              have hP : va_P (dC, dI) vwCl (mo_w ad ck 0 1 0 (nI x18) g_7 (nI g_8) (nI g_9) g_10 (nI g_33) g_38 (nI g_33) g_34 1 (nI x29) (nI x30) (nI x33) x45 (nI x46) (nI x52) (nI x53) (nI x61) (nI x62) (nI x63) (nI x65) x66 g_13 g_14 g_15 (bN 3 g_16) (bN 7 g_17) (bN 7 g_18) (bN 4 g_19) g_20 (bN 2 g_21) (bH g_22) g_23 (b2 m12_0 g_24) (b2 m13_0 g_25) (b2 m14_0 g_26) (b2m m15_0 (0 + 1)) f17 (bA 159 q31) f32 f34 f35 f36 f37 (bN 7 q38) f39 f40 f41 (b2 m42_0 m42_1) f43 f44 f47 f48 f49 f50 f51 (bN 13 q54) (bN 120 q55) (bN 120 q56) f57 (bN 120 q58) f59 f60 f64) H := by rw [← b2m_up1 (a := m15_0) (b := g_27) (v := 0)]; exact hP
              have hD : va_D A (mo_w ad ck 0 1 0 (nI x18) g_7 (nI g_8) (nI g_9) g_10 (nI g_33) g_38 (nI g_33) g_34 1 (nI x29) (nI x30) (nI x33) x45 (nI x46) (nI x52) (nI x53) (nI x61) (nI x62) (nI x63) (nI x65) x66 g_13 g_14 g_15 (bN 3 g_16) (bN 7 g_17) (bN 7 g_18) (bN 4 g_19) g_20 (bN 2 g_21) (bH g_22) g_23 (b2 m12_0 g_24) (b2 m13_0 g_25) (b2 m14_0 g_26) (b2m m15_0 (0 + 1)) f17 (bA 159 q31) f32 f34 f35 f36 f37 (bN 7 q38) f39 f40 f41 (b2 m42_0 m42_1) f43 f44 f47 f48 f49 f50 f51 (bN 13 q54) (bN 120 q55) (bN 120 q56) f57 (bN 120 q58) f59 f60 f64) := by rw [← b2m_up1 (a := m15_0) (b := g_27) (v := 0)]; exact hD
              refine lv_aload_n hx hb dX9_automaton_226 rfl (lv_at hl 0 rfl) ?_
              refine lv_iconst (v := 0) hx hb dX9_automaton_227 (by decide) ?_
              refine va_put (D := (dC, dI)) (ci := 9) (v := .int 0) (ty := .int) (C := RX9) (T := TX9) (N := 67) hx hb hts hiX9 tyX9 tyX9_ok nmX9 hown hK hP hD hS 0 rfl rfl 33 (by decide) v_37 (fun _ h9 => h9) rfl (by decide +kernel) rfl rfl (Nat.le_of_ble_eq_true rfl) dX9_automaton_228 (fun H locs hP hD hS => ?_)
              have hP : va_P (dC, dI) vwCl (mo_w ad ck 0 1 0 (nI x18) g_7 (nI g_8) (nI g_9) g_10 (nI g_33) g_38 (nI g_33) g_34 1 (nI x29) (nI x30) 0 x45 (nI x46) (nI x52) (nI x53) (nI x61) (nI x62) (nI x63) (nI x65) x66 g_13 g_14 g_15 (bN 3 g_16) (bN 7 g_17) (bN 7 g_18) (bN 4 g_19) g_20 (bN 2 g_21) (bH g_22) g_23 (b2 m12_0 g_24) (b2 m13_0 g_25) (b2 m14_0 g_26) (b2m m15_0 (0 + 1)) f17 (bA 159 q31) f32 f34 f35 f36 f37 (bN 7 q38) f39 f40 f41 (b2 m42_0 m42_1) f43 f44 f47 f48 f49 f50 f51 (bN 13 q54) (bN 120 q55) (bN 120 q56) f57 (bN 120 q58) f59 f60 f64) H := hP
              have hD : va_D A (mo_w ad ck 0 1 0 (nI x18) g_7 (nI g_8) (nI g_9) g_10 (nI g_33) g_38 (nI g_33) g_34 1 (nI x29) (nI x30) 0 x45 (nI x46) (nI x52) (nI x53) (nI x61) (nI x62) (nI x63) (nI x65) x66 g_13 g_14 g_15 (bN 3 g_16) (bN 7 g_17) (bN 7 g_18) (bN 4 g_19) g_20 (bN 2 g_21) (bH g_22) g_23 (b2 m12_0 g_24) (b2 m13_0 g_25) (b2 m14_0 g_26) (b2m m15_0 (0 + 1)) f17 (bA 159 q31) f32 f34 f35 f36 f37 (bN 7 q38) f39 f40 f41 (b2 m42_0 m42_1) f43 f44 f47 f48 f49 f50 f51 (bN 13 q54) (bN 120 q55) (bN 120 q56) f57 (bN 120 q58) f59 f60 f64) := hD
              refine lv_aload_n hx hb dX9_automaton_231 rfl (lv_at hl 0 rfl) ?_
              have hFc := pu_free hD hS hA
              refine va_callv (va_runV (As := []) (rest := []) ⟨hx, hb, hml, hown, hts⟩ (c_EM_another l dC dI _ ad ck 0 1 0 x18 g_7 g_8 g_9 g_10 (nI g_33) g_38 g_33 g_34 1 x29 x30 0 x45 x46 x52 x53 x61 x62 x63 x65 x66 g_13 g_14 g_15 g_16 g_17 g_18 g_19 g_20 g_21 g_22 g_23 m12_0 g_24 m13_0 g_25 m14_0 g_26 m15_0 (0 + 1) f17 q31 f32 f34 f35 f36 f37 q38 f39 f40 f41 m42_0 m42_1 f43 f44 f47 f48 f49 f50 f51 q54 q55 q56 f57 q58 f59 f60 f64 (Nat.le_of_ble_eq_true rfl) (Nat.le_of_ble_eq_true rfl) hx18 hg_8 hg_9 hg_33 (Nat.le_of_ble_eq_true rfl) hx29 hx30 (Nat.le_of_ble_eq_true rfl) hx46 hx52 hx53 hx61 hx62 hx63 hx65 hm12_0 hg_24 hm13_0 hg_25 hm14_0 hg_26 hm15_0 (by omega) hm42_0 hm42_1) (cwV 0 hts g_EM_automaton_EM_another rfl rfl rfl (by decide +kernel) ⟨Nat.le_of_ble_eq_true rfl, Nat.le_of_ble_eq_true rfl⟩) ⟨pu_bl, va_recv hK hP (ci := 9) (q0 := 0) rfl rfl, pu_in hP hK hD⟩ rfl rfl hl.1 rfl (lv_room (Nat.le_of_ble_eq_true rfl)) dX9_automaton_232 ⟨Nat.le_of_ble_eq_true rfl, Nat.le_of_ble_eq_true rfl⟩) hS (fun q _ h => hFc q h) hFc (fun u t H1 locs ht hvm hw hB hz1 hk1 hS => ?_)
              obtain ⟨z29_47, z30_48, ⟨hP1, -, hD1⟩, hz29_47, hz30_48, xr_46_0⟩ := hB
              rw [ht] at hP1
              have hP := hP1
              have hD := pu_all hFc hD1
              clear hP1 hD1 hFc
              clear hk1 hz1 ht hvm
              generalize H1 = H at hP hS ⊢
              have hsp := hsp.trans (slet_eq xr_46_0)
              refine lv_aload_n hx hb dX9_automaton_235 rfl (lv_at hl 0 rfl) ?_
              refine va_get (D := (dC, dI)) (ci := 9) (v := .ref (ad 13)) (C := RX9) (T := TX9) (N := 67) hx hb hts hiX9 hown hK hP 0 rfl rfl 13 (by decide) v_9 (fun _ h9 => h9) rfl dX9_automaton_236 ?_
              refine lv_aload_n hx hb dX9_automaton_239 rfl (lv_at hl 0 rfl) ?_
              refine va_get (D := (dC, dI)) (ci := 9) (v := .int 1) (C := RX9) (T := TX9) (N := 67) hx hb hts hiX9 hown hK hP 0 rfl rfl 16 (by decide) v_6 (fun _ h9 => h9) rfl dX9_automaton_240 ?_
              refine va_iald hx hb hK hP 13 12 rfl rfl (vp_in_nI (n := 1) (Nat.le_of_ble_eq_true rfl) (Nat.le_of_ble_eq_true rfl)) dX9_automaton_243 ?_
              refine lv_topi (fun y_49 ey_49 => ?_)
              have qy_49 := ey_49.trans b2_1
              clear ey_49
              obtain rfl : y_49 = nI g_25 := qy_49
              exact W.iret (v := (nI g_25)) hx hb hr (fun t ht hW => ⟨⟨(nI g_25), (), rfl, (congrArg Prod.fst (hsp.symm.trans hRR)), ⟨g_13, g_22, g_23, g_14, g_15, g_16, g_17, g_18, g_19, g_20, g_21, m12_0, g_24, m13_0, g_25, m14_0, g_26, m15_0, (0 + 1), 0, 1, x18, g_7, g_8, g_9, g_10, (nI g_33), g_38, g_33, g_34, 1, z29_47, z30_48, 0, ⟨by rw [ht]; exact hP, va_K.moved hW.alike hK, hD⟩, hm12_0, hg_24, hm13_0, hg_25, hm14_0, hg_26, hm15_0, (by omega), (Nat.le_of_ble_eq_true rfl), hx18, hg_8, hg_9, hg_33, (Nat.le_of_ble_eq_true rfl), hz29_47, hz30_48, (Nat.le_of_ble_eq_true rfl), by omega, (congrArg Prod.snd (hsp.symm.trans hRR))⟩⟩, hS.F ht⟩) hS.2.2 dX9_automaton_244
            · obtain rfl : y_45 = nI vy_45 := qy_45.trans wy_45
              have hsp := hsp.trans (if_neg (by omega))
              have hsp := hsp.trans (slet_eq (by omega : vy_45 = g_27 - 1))
              refine lv_if_ge (tgt := 226) hx hb dX9_automaton_213 (by decide) (fun c_50 => ?_) (fun c_50 => ?_)
              · have c_50 : 0 ≤ vy_45 := (nI_leI (a := 0) (b := vy_45) (Nat.le_of_ble_eq_true rfl) (by omega)).mp c_50
                refine lv_aload_n hx hb dX9_automaton_226 rfl (lv_at hl 0 rfl) ?_
                refine lv_iconst (v := 0) hx hb dX9_automaton_227 (by decide) ?_
                refine va_put (D := (dC, dI)) (ci := 9) (v := .int 0) (ty := .int) (C := RX9) (T := TX9) (N := 67) hx hb hts hiX9 tyX9 tyX9_ok nmX9 hown hK hP hD hS 0 rfl rfl 33 (by decide) v_37 (fun _ h9 => h9) rfl (by decide +kernel) rfl rfl (Nat.le_of_ble_eq_true rfl) dX9_automaton_228 (fun H locs hP hD hS => ?_)
                have hP : va_P (dC, dI) vwCl (mo_w ad ck 0 1 0 (nI x18) g_7 (nI g_8) (nI g_9) g_10 (nI g_33) g_38 (nI g_33) g_34 1 (nI x29) (nI x30) 0 x45 (nI x46) (nI x52) (nI x53) (nI x61) (nI x62) (nI x63) (nI x65) x66 g_13 g_14 g_15 (bN 3 g_16) (bN 7 g_17) (bN 7 g_18) (bN 4 g_19) g_20 (bN 2 g_21) (bH g_22) g_23 (b2 m12_0 g_24) (b2 m13_0 g_25) (b2 m14_0 g_26) (b2m m15_0 g_27) f17 (bA 159 q31) f32 f34 f35 f36 f37 (bN 7 q38) f39 f40 f41 (b2 m42_0 m42_1) f43 f44 f47 f48 f49 f50 f51 (bN 13 q54) (bN 120 q55) (bN 120 q56) f57 (bN 120 q58) f59 f60 f64) H := hP
                have hD : va_D A (mo_w ad ck 0 1 0 (nI x18) g_7 (nI g_8) (nI g_9) g_10 (nI g_33) g_38 (nI g_33) g_34 1 (nI x29) (nI x30) 0 x45 (nI x46) (nI x52) (nI x53) (nI x61) (nI x62) (nI x63) (nI x65) x66 g_13 g_14 g_15 (bN 3 g_16) (bN 7 g_17) (bN 7 g_18) (bN 4 g_19) g_20 (bN 2 g_21) (bH g_22) g_23 (b2 m12_0 g_24) (b2 m13_0 g_25) (b2 m14_0 g_26) (b2m m15_0 g_27) f17 (bA 159 q31) f32 f34 f35 f36 f37 (bN 7 q38) f39 f40 f41 (b2 m42_0 m42_1) f43 f44 f47 f48 f49 f50 f51 (bN 13 q54) (bN 120 q55) (bN 120 q56) f57 (bN 120 q58) f59 f60 f64) := hD
                refine lv_aload_n hx hb dX9_automaton_231 rfl (lv_at hl 0 rfl) ?_
                have hFc := pu_free hD hS hA
                refine va_callv (va_runV (As := []) (rest := []) ⟨hx, hb, hml, hown, hts⟩ (c_EM_another l dC dI _ ad ck 0 1 0 x18 g_7 g_8 g_9 g_10 (nI g_33) g_38 g_33 g_34 1 x29 x30 0 x45 x46 x52 x53 x61 x62 x63 x65 x66 g_13 g_14 g_15 g_16 g_17 g_18 g_19 g_20 g_21 g_22 g_23 m12_0 g_24 m13_0 g_25 m14_0 g_26 m15_0 g_27 f17 q31 f32 f34 f35 f36 f37 q38 f39 f40 f41 m42_0 m42_1 f43 f44 f47 f48 f49 f50 f51 q54 q55 q56 f57 q58 f59 f60 f64 (Nat.le_of_ble_eq_true rfl) (Nat.le_of_ble_eq_true rfl) hx18 hg_8 hg_9 hg_33 (Nat.le_of_ble_eq_true rfl) hx29 hx30 (Nat.le_of_ble_eq_true rfl) hx46 hx52 hx53 hx61 hx62 hx63 hx65 hm12_0 hg_24 hm13_0 hg_25 hm14_0 hg_26 hm15_0 hg_27 hm42_0 hm42_1) (cwV 0 hts g_EM_automaton_EM_another rfl rfl rfl (by decide +kernel) ⟨Nat.le_of_ble_eq_true rfl, Nat.le_of_ble_eq_true rfl⟩) ⟨pu_bl, va_recv hK hP (ci := 9) (q0 := 0) rfl rfl, pu_in hP hK hD⟩ rfl rfl hl.1 rfl (lv_room (Nat.le_of_ble_eq_true rfl)) dX9_automaton_232 ⟨Nat.le_of_ble_eq_true rfl, Nat.le_of_ble_eq_true rfl⟩) hS (fun q _ h => hFc q h) hFc (fun u t H1 locs ht hvm hw hB hz1 hk1 hS => ?_)
                obtain ⟨z29_52, z30_53, ⟨hP1, -, hD1⟩, hz29_52, hz30_53, xr_51_0⟩ := hB
                rw [ht] at hP1
                have hP := hP1
                have hD := pu_all hFc hD1
                clear hP1 hD1 hFc
                clear hk1 hz1 ht hvm
                generalize H1 = H at hP hS ⊢
                have hsp := hsp.trans (slet_eq xr_51_0)
                refine lv_aload_n hx hb dX9_automaton_235 rfl (lv_at hl 0 rfl) ?_
                refine va_get (D := (dC, dI)) (ci := 9) (v := .ref (ad 13)) (C := RX9) (T := TX9) (N := 67) hx hb hts hiX9 hown hK hP 0 rfl rfl 13 (by decide) v_9 (fun _ h9 => h9) rfl dX9_automaton_236 ?_
                refine lv_aload_n hx hb dX9_automaton_239 rfl (lv_at hl 0 rfl) ?_
                refine va_get (D := (dC, dI)) (ci := 9) (v := .int 1) (C := RX9) (T := TX9) (N := 67) hx hb hts hiX9 hown hK hP 0 rfl rfl 16 (by decide) v_6 (fun _ h9 => h9) rfl dX9_automaton_240 ?_
                refine va_iald hx hb hK hP 13 12 rfl rfl (vp_in_nI (n := 1) (Nat.le_of_ble_eq_true rfl) (Nat.le_of_ble_eq_true rfl)) dX9_automaton_243 ?_
                refine lv_topi (fun y_54 ey_54 => ?_)
                have qy_54 := ey_54.trans b2_1
                clear ey_54
                obtain rfl : y_54 = nI g_25 := qy_54
                exact W.iret (v := (nI g_25)) hx hb hr (fun t ht hW => ⟨⟨(nI g_25), (), rfl, (congrArg Prod.fst (hsp.symm.trans hRR)), ⟨g_13, g_22, g_23, g_14, g_15, g_16, g_17, g_18, g_19, g_20, g_21, m12_0, g_24, m13_0, g_25, m14_0, g_26, m15_0, g_27, 0, 1, x18, g_7, g_8, g_9, g_10, (nI g_33), g_38, g_33, g_34, 1, z29_52, z30_53, 0, ⟨by rw [ht]; exact hP, va_K.moved hW.alike hK, hD⟩, hm12_0, hg_24, hm13_0, hg_25, hm14_0, hg_26, hm15_0, hg_27, (Nat.le_of_ble_eq_true rfl), hx18, hg_8, hg_9, hg_33, (Nat.le_of_ble_eq_true rfl), hz29_52, hz30_53, (Nat.le_of_ble_eq_true rfl), by omega, (congrArg Prod.snd (hsp.symm.trans hRR))⟩⟩, hS.F ht⟩) hS.2.2 dX9_automaton_244
              · have c_50 : ¬ 0 ≤ vy_45 := fun z => c_50 ((nI_leI (a := 0) (b := vy_45) (Nat.le_of_ble_eq_true rfl) (by omega)).mpr z)
                exfalso
                omega
          · have c_44 : u_43 = 0 := (nI_eq (a := u_43) (b := 0) (Nat.lt_of_le_of_lt hu_43 (Nat.le_of_ble_eq_true rfl)) (Nat.le_of_ble_eq_true rfl)).mp c_44
            have hsp := hsp.trans (if_pos c_44)
            refine lv_iconst (v := (-1)) hx hb dX9_automaton_194 (by decide) ?_
            exact W.iret (v := (-1)) hx hb hr (fun t ht hW => ⟨⟨(-1), (), rfl, (congrArg Prod.fst (hsp.symm.trans hRR)), ⟨g_13, g_22, g_23, g_14, g_15, g_16, g_17, g_18, g_19, g_20, g_21, m12_0, g_24, m13_0, g_25, m14_0, g_26, m15_0, g_27, 0, 0, x18, g_7, g_8, g_9, g_10, (nI g_33), g_38, g_33, g_34, 1, x29, x30, x33, ⟨by rw [ht]; exact hP, va_K.moved hW.alike hK, hD⟩, hm12_0, hg_24, hm13_0, hg_25, hm14_0, hg_26, hm15_0, hg_27, (Nat.le_of_ble_eq_true rfl), hx18, hg_8, hg_9, hg_33, (Nat.le_of_ble_eq_true rfl), hx29, hx30, hx33, by omega, (congrArg Prod.snd (hsp.symm.trans hRR))⟩⟩, hS.F ht⟩) hS.2.2 dX9_automaton_195
        have hsp := hJR_40
        refine lv_if_ne (tgt := 180) hx hb dX9_automaton_173 (by decide) (fun c_55 => ?_) (fun c_55 => ?_)
        · have c_55 : ¬ g_33 = 0 := fun z => c_55 ((nI_eq (a := g_33) (b := 0) (Nat.lt_of_le_of_lt hg_33 (Nat.le_of_ble_eq_true rfl)) (Nat.le_of_ble_eq_true rfl)).mpr z)
          have hsp := hsp.trans (if_neg c_55)
          refine lv_aload_n hx hb dX9_automaton_180 rfl (lv_at hl 0 rfl) ?_
          refine va_get (D := (dC, dI)) (ci := 9) (v := .int g_34) (C := RX9) (T := TX9) (N := 67) hx hb hts hiX9 hown hK hP 0 rfl rfl 27 (by decide) v_35 (fun _ h9 => h9) rfl dX9_automaton_181 ?_
          exact j_39 _ _ _ _ ⟨g_34, rfl, hsp.symm, hP, hD, hS, lv_sub hl [0] rfl⟩
        · have c_55 : g_33 = 0 := (nI_eq (a := g_33) (b := 0) (Nat.lt_of_le_of_lt hg_33 (Nat.le_of_ble_eq_true rfl)) (Nat.le_of_ble_eq_true rfl)).mp c_55
          have hsp := hsp.trans (if_pos c_55)
          refine lv_iconst (v := (-1)) hx hb dX9_automaton_176 (by decide) ?_
          refine lv_goto (tgt := 184) hx hb dX9_automaton_177 (by decide) ?_
          exact j_39 _ _ _ _ ⟨(-1), rfl, hsp.symm, hP, hD, hS, lv_sub hl [0] rfl⟩
      have hsp := hJR_36
      refine lv_if_eq (tgt := 160) hx hb dX9_automaton_139 (by decide) (fun c_56 => ?_) (fun c_56 => ?_)
      · have c_56 : u_32 = 0 := (nI_eq (a := u_32) (b := 0) (Nat.lt_of_le_of_lt hu_32 (Nat.le_of_ble_eq_true rfl)) (Nat.le_of_ble_eq_true rfl)).mp c_56
        have hsp := hsp.trans (if_pos c_56)
        exact j_35 _ _ _ _ ⟨g_11, g_12, rfl, hg_11, hsp.symm, hP, hD, hS, lv_sub hl [0] rfl⟩
      · have c_56 : ¬ u_32 = 0 := fun z => c_56 ((nI_eq (a := u_32) (b := 0) (Nat.lt_of_le_of_lt hu_32 (Nat.le_of_ble_eq_true rfl)) (Nat.le_of_ble_eq_true rfl)).mpr z)
        have hsp := hsp.trans (if_neg c_56)
        refine lv_aload_n hx hb dX9_automaton_142 rfl (lv_at hl 0 rfl) ?_
        refine va_get (D := (dC, dI)) (ci := 9) (v := .ref (ad 13)) (C := RX9) (T := TX9) (N := 67) hx hb hts hiX9 hown hK hP 0 rfl rfl 13 (by decide) v_9 (fun _ h9 => h9) rfl dX9_automaton_143 ?_
        refine lv_aload_n hx hb dX9_automaton_146 rfl (lv_at hl 0 rfl) ?_
        refine va_get (D := (dC, dI)) (ci := 9) (v := .int 1) (C := RX9) (T := TX9) (N := 67) hx hb hts hiX9 hown hK hP 0 rfl rfl 28 (by decide) v_7 (fun _ h9 => h9) rfl dX9_automaton_147 ?_
        refine va_iald hx hb hK hP 13 12 rfl rfl (vp_in_nI (n := 1) (Nat.le_of_ble_eq_true rfl) (Nat.le_of_ble_eq_true rfl)) dX9_automaton_150 ?_
        refine lv_topi (fun y_57 ey_57 => ?_)
        have qy_57 := ey_57.trans b2_1
        clear ey_57
        obtain rfl : y_57 = nI g_25 := qy_57
        refine lv_if_ne (tgt := 160) hx hb dX9_automaton_151 (by decide) (fun c_58 => ?_) (fun c_58 => ?_)
        · have c_58 : ¬ g_25 = 0 := fun z => c_58 ((nI_eq (a := g_25) (b := 0) (Nat.lt_of_le_of_lt hg_25 (Nat.le_of_ble_eq_true rfl)) (Nat.le_of_ble_eq_true rfl)).mpr z)
          have hsp := hsp.trans (if_neg c_58)
          exact j_35 _ _ _ _ ⟨g_11, g_12, rfl, hg_11, hsp.symm, hP, hD, hS, lv_sub hl [0] rfl⟩
        · have c_58 : g_25 = 0 := (nI_eq (a := g_25) (b := 0) (Nat.lt_of_le_of_lt hg_25 (Nat.le_of_ble_eq_true rfl)) (Nat.le_of_ble_eq_true rfl)).mp c_58
          have hsp := hsp.trans (if_pos c_58)
          refine lv_aload_n hx hb dX9_automaton_154 rfl (lv_at hl 0 rfl) ?_
          refine lv_bipush (v := 6) hx hb dX9_automaton_155 (by decide) ?_
          have hFc := pu_free hD hS hA
          refine va_callv (va_runV (As := [.int 6]) (rest := []) ⟨hx, hb, hml, hown, hts⟩ (c_EM_fails l dC dI _ ad ck 0 0 0 x18 g_7 g_8 g_9 g_10 x24 x25 g_11 g_12 1 x29 x30 x33 x45 x46 x52 x53 x61 x62 x63 x65 x66 g_13 g_14 g_15 g_16 g_17 g_18 g_19 g_20 g_21 g_22 g_23 m12_0 g_24 m13_0 g_25 m14_0 g_26 m15_0 g_27 f17 q31 f32 f34 f35 f36 f37 q38 f39 f40 f41 m42_0 m42_1 f43 f44 f47 f48 f49 f50 f51 q54 q55 q56 f57 q58 f59 f60 f64 6 (Nat.le_of_ble_eq_true rfl) (Nat.le_of_ble_eq_true rfl) hx18 hg_8 hg_9 hg_11 (Nat.le_of_ble_eq_true rfl) hx29 hx30 hx33 hx46 hx52 hx53 hx61 hx62 hx63 hx65 hm12_0 hg_24 hm13_0 hg_25 hm14_0 hg_26 hm15_0 hg_27 hm42_0 hm42_1 (Nat.le_of_ble_eq_true rfl) (by omega)) (cwV 1 hts g_EM_automaton_EM_fails rfl rfl rfl (by decide +kernel) ⟨Nat.le_of_ble_eq_true rfl, Nat.le_of_ble_eq_true rfl⟩) ⟨pu_bl, va_recv hK hP (ci := 9) (q0 := 0) rfl rfl, pu_in hP hK hD⟩ rfl rfl hl.1 rfl (lv_room (Nat.le_of_ble_eq_true rfl)) dX9_automaton_157 ⟨Nat.le_of_ble_eq_true rfl, Nat.le_of_ble_eq_true rfl⟩) hS (fun q _ h => hFc q h) hFc (fun u t H1 locs ht hvm hw hB hz1 hk1 hS => ?_)
          obtain ⟨z26_60, z27_61, ⟨hP1, -, hD1⟩, hz26_60, xr_59_0, xr_59_1⟩ := hB
          rw [ht] at hP1
          have hP := hP1
          have hD := pu_all hFc hD1
          clear hP1 hD1 hFc
          clear hk1 hz1 ht hvm
          generalize H1 = H at hP hS ⊢
          have hsp := hsp.trans (slet_eq xr_59_1)
          exact j_35 _ _ _ _ ⟨z26_60, z27_61, rfl, hz26_60, hsp.symm, hP, hD, hS, lv_sub hl [0] rfl⟩
    have hsp := hJR_29
    obtain ⟨lf_105, dlf_105, hlf_105, hsp⟩ := itr_ex hsp
    delta sp_EM_automaton_L1 at hlf_105
    refine pu_while (fun nn H locs ls => ∃ (g_83 : Nat → Int32) (g_84 : Nat → Nat) (g_85 : Nat → Int32) (g_86 : Nat → Int32) (g_87 : Nat → Int32) (g_88 : Nat → Nat) (g_89 : Nat → Nat) (g_90 : Nat → Nat) (g_91 : Nat → Nat) (g_92 : Nat → Int32) (g_93 : Nat → Nat) (g_94 : Nat) (g_95 : Nat) (g_96 : Nat) (g_97 : Nat) (g_98 : Int32) (g_99 : Nat) (g_100 : Nat) (g_101 : Int32) (g_102 : Nat) (g_103 : Int32), nn = 2 * mu g_99 g_100 + (1 - g_102) ∧ g_94 ≤ 3 ∧ g_95 ≤ 8 ∧ g_96 ≤ 14 ∧ g_97 ≤ 8 ∧ g_99 ≤ 900 ∧ g_100 ≤ 4 ∧ g_102 ≤ 6 ∧ JR_29 = itrv dlf_105 lf_105 (g_83, g_84, g_85, g_86, g_87, g_88, g_89, g_90, g_91, g_92, g_93, g_94, g_95, g_96, g_97, g_98, g_99, g_100, g_101, g_102, g_103) ∧ va_P (dC, dI) vwCl (mo_w ad ck 0 0 0 (nI x18) g_98 (nI g_99) (nI g_100) g_101 x24 x25 (nI g_102) g_103 1 (nI x29) (nI x30) (nI x33) x45 (nI x46) (nI x52) (nI x53) (nI x61) (nI x62) (nI x63) (nI x65) x66 g_83 g_86 g_87 (bN 3 g_88) (bN 7 g_89) (bN 7 g_90) (bN 4 g_91) g_92 (bN 2 g_93) (bH g_84) g_85 (b2 m12_0 g_94) (b2 m13_0 g_95) (b2 m14_0 g_96) (b2m m15_0 g_97) f17 (bA 159 q31) f32 f34 f35 f36 f37 (bN 7 q38) f39 f40 f41 (b2 m42_0 m42_1) f43 f44 f47 f48 f49 f50 f51 (bN 13 q54) (bN 120 q55) (bN 120 q56) f57 (bN 120 q58) f59 f60 f64) H ∧ va_D A (mo_w ad ck 0 0 0 (nI x18) g_98 (nI g_99) (nI g_100) g_101 x24 x25 (nI g_102) g_103 1 (nI x29) (nI x30) (nI x33) x45 (nI x46) (nI x52) (nI x53) (nI x61) (nI x62) (nI x63) (nI x65) x66 g_83 g_86 g_87 (bN 3 g_88) (bN 7 g_89) (bN 7 g_90) (bN 4 g_91) g_92 (bN 2 g_93) (bH g_84) g_85 (b2 m12_0 g_94) (b2 m13_0 g_95) (b2 m14_0 g_96) (b2m m15_0 g_97) f17 (bA 159 q31) f32 f34 f35 f36 f37 (bN 7 q38) f39 f40 f41 (b2 m42_0 m42_1) f43 f44 f47 f48 f49 f50 f51 (bN 13 q54) (bN 120 q55) (bN 120 q56) f57 (bN 120 q58) f59 f60 f64) ∧ va_S A s.heap H locs ∧ lv_has ls 1 [(0, .ref (ad 0))]) 82 ?_ _ _ _ _ ⟨f1, q10, f11, f2, f3, q4, q5, q6, q7, f8, q9, 0, 0, 0, 0, z20_3, z21_4, z22_5, z23_6, 0, x27, rfl, (Nat.le_of_ble_eq_true rfl), (Nat.le_of_ble_eq_true rfl), (Nat.le_of_ble_eq_true rfl), (Nat.le_of_ble_eq_true rfl), hz21_4, hz22_5, (Nat.le_of_ble_eq_true rfl), hsp, hP, hD, hS, lv_sub hl [0] rfl⟩
    rintro nn ih_104 H locs ls ⟨g_83, g_84, g_85, g_86, g_87, g_88, g_89, g_90, g_91, g_92, g_93, g_94, g_95, g_96, g_97, g_98, g_99, g_100, g_101, g_102, g_103, rfl, hg_94, hg_95, hg_96, hg_97, hg_99, hg_100, hg_102, he_107, hP, hD, hS, hl⟩
    obtain ⟨S_106, hsp, hin_108, hout_109⟩ := itr_step hlf_105 he_107
    refine lv_aload_n hx hb dX9_automaton_82 rfl (lv_at hl 0 rfl) ?_
    refine va_calli (va_runV (As := []) (rest := []) ⟨hx, hb, hml, hown, hts⟩ (c_EM_isGood l dC dI _ ad ck 0 0 0 x18 g_98 g_99 g_100 g_101 x24 x25 g_102 g_103 1 x29 x30 x33 x45 x46 x52 x53 x61 x62 x63 x65 x66 g_83 g_86 g_87 g_88 g_89 g_90 g_91 g_92 g_93 g_84 g_85 m12_0 g_94 m13_0 g_95 m14_0 g_96 m15_0 g_97 f17 q31 f32 f34 f35 f36 f37 q38 f39 f40 f41 m42_0 m42_1 f43 f44 f47 f48 f49 f50 f51 q54 q55 q56 f57 q58 f59 f60 f64 (Nat.le_of_ble_eq_true rfl) (Nat.le_of_ble_eq_true rfl) hx18 hg_99 hg_100 hg_102 (Nat.le_of_ble_eq_true rfl) hx29 hx30 hx33 hx46 hx52 hx53 hx61 hx62 hx63 hx65 hm12_0 hg_94 hm13_0 hg_95 hm14_0 hg_96 hm15_0 hg_97 hm42_0 hm42_1) (cwV 0 hts g_EM_automaton_EM_isGood rfl rfl rfl (by decide +kernel) ⟨Nat.le_of_ble_eq_true rfl, Nat.le_of_ble_eq_true rfl⟩) ⟨pu_bl, va_recv hK hP (ci := 9) (q0 := 0) rfl rfl, pu_in hP hK hD⟩ rfl rfl hl.1 rfl (lv_room (Nat.le_of_ble_eq_true rfl)) dX9_automaton_83 ⟨Nat.le_of_ble_eq_true rfl, Nat.le_of_ble_eq_true rfl⟩) hS (fun q _ h => pu_fr hS hA q h) (pu_fr hS hA) (fun r_110 u t H1 locs ht hvm hw hB hz1 hk1 hS => ?_)
    have hP := pu_keep hP hk1
    clear hk1 hz1 ht hvm
    generalize H1 = H at hP hS ⊢
    obtain ⟨u_111, hu_111, rfl, ju_111, iu_111⟩ := hw
    have hsp := hsp.trans (slet_eq iu_111)
    refine lv_if_eq (tgt := 135) hx hb dX9_automaton_86 (by decide) (fun c_112 => ?_) (fun c_112 => ?_)
    · have c_112 : u_111 = 0 := (nI_eq (a := u_111) (b := 0) (Nat.lt_of_le_of_lt hu_111 (Nat.le_of_ble_eq_true rfl)) (Nat.le_of_ble_eq_true rfl)).mp c_112
      have hsp := hsp.trans (if_pos c_112)
      have hsp := hout_109 _ hsp
      exact j_28 _ _ _ _ ⟨g_98, g_99, g_100, g_101, g_102, g_103, g_83, g_86, g_87, g_88, g_89, g_90, g_91, g_92, g_93, g_84, g_85, g_94, g_95, g_96, g_97, rfl, hg_99, hg_100, hg_102, hg_94, hg_95, hg_96, hg_97, hsp.symm, hP, hD, hS, lv_sub hl [0] rfl⟩
    · have c_112 : ¬ u_111 = 0 := fun z => c_112 ((nI_eq (a := u_111) (b := 0) (Nat.lt_of_le_of_lt hu_111 (Nat.le_of_ble_eq_true rfl)) (Nat.le_of_ble_eq_true rfl)).mpr z)
      have hsp := hsp.trans (if_neg c_112)
      refine lv_aload_n hx hb dX9_automaton_89 rfl (lv_at hl 0 rfl) ?_
      refine va_get (D := (dC, dI)) (ci := 9) (v := .int (nI g_100)) (C := RX9) (T := TX9) (N := 67) hx hb hts hiX9 hown hK hP 0 rfl rfl 22 (by decide) v_21 (fun _ h9 => h9) rfl dX9_automaton_90 ?_
      refine lv_if_eq (tgt := 135) hx hb dX9_automaton_93 (by decide) (fun c_113 => ?_) (fun c_113 => ?_)
      · have c_113 : g_100 = 0 := (nI_eq (a := g_100) (b := 0) (Nat.lt_of_le_of_lt hg_100 (Nat.le_of_ble_eq_true rfl)) (Nat.le_of_ble_eq_true rfl)).mp c_113
        have hsp := hsp.trans (if_pos c_113)
        have hsp := hout_109 _ hsp
        exact j_28 _ _ _ _ ⟨g_98, g_99, g_100, g_101, g_102, g_103, g_83, g_86, g_87, g_88, g_89, g_90, g_91, g_92, g_93, g_84, g_85, g_94, g_95, g_96, g_97, rfl, hg_99, hg_100, hg_102, hg_94, hg_95, hg_96, hg_97, hsp.symm, hP, hD, hS, lv_sub hl [0] rfl⟩
      · have c_113 : ¬ g_100 = 0 := fun z => c_113 ((nI_eq (a := g_100) (b := 0) (Nat.lt_of_le_of_lt hg_100 (Nat.le_of_ble_eq_true rfl)) (Nat.le_of_ble_eq_true rfl)).mpr z)
        have hsp := hsp.trans (if_neg c_113)
        refine lv_aload_n hx hb dX9_automaton_96 rfl (lv_at hl 0 rfl) ?_
        have hFc := pu_free hD hS hA
        refine va_callv (va_runV (As := []) (rest := []) ⟨hx, hb, hml, hown, hts⟩ (c_EM_readLine_1 l dC dI _ ad ck 0 0 0 x18 g_98 g_99 g_100 g_101 x24 x25 g_102 g_103 x29 x30 x33 x45 x46 x52 x53 x61 x62 x63 x65 x66 g_83 g_86 g_87 g_88 g_89 g_90 g_91 g_92 g_93 g_84 g_85 m12_0 g_94 m13_0 g_95 m14_0 g_96 m15_0 g_97 f17 q31 f32 f34 f35 f36 f37 q38 f39 f40 f41 m42_0 m42_1 f43 f44 f47 f48 f49 f50 f51 q54 q55 q56 f57 q58 f59 f60 f64 (Nat.le_of_ble_eq_true rfl) (Nat.le_of_ble_eq_true rfl) hx18 hg_99 hg_100 hg_102 hx29 hx30 hx33 hx46 hx52 hx53 hx61 hx62 hx63 hx65 hm12_0 hg_94 hm13_0 hg_95 hm14_0 hg_96 hm15_0 hg_97 hm42_0 hm42_1) (cwV 0 hts g_EM_automaton_EM_readLine_1 rfl rfl rfl (by decide +kernel) ⟨Nat.le_of_ble_eq_true rfl, Nat.le_of_ble_eq_true rfl⟩) ⟨pu_bl, va_recv hK hP (ci := 9) (q0 := 0) rfl rfl, pu_in hP hK hD⟩ rfl rfl hl.1 rfl (lv_room (Nat.le_of_ble_eq_true rfl)) dX9_automaton_97 ⟨Nat.le_of_ble_eq_true rfl, Nat.le_of_ble_eq_true rfl⟩) hS (fun q _ h => hFc q h) hFc (fun u t H1 locs ht hvm hw hB hz1 hk1 hS => ?_)
        obtain ⟨z1_115, z10_116, z11_117, z2_118, z3_119, z4_120, z5_121, z6_122, z7_123, z8_124, z9_125, z12_1_126, z13_1_127, z14_1_128, z15_1_129, z20_130, z21_131, z22_132, z23_133, z26_134, z27_135, ⟨hP1, -, hD1⟩, hz12_1_126, hz13_1_127, hz14_1_128, hz15_1_129, hz21_131, hz22_132, hz26_134, xr_114_0, xr_114_1, xr_114_2⟩ := hB
        rw [ht] at hP1
        have hP := hP1
        have hD := pu_all hFc hD1
        clear hP1 hD1 hFc
        clear hk1 hz1 ht hvm
        generalize H1 = H at hP hS ⊢
        have hsp := hsp.trans (slet_eq xr_114_2)
        refine lv_aload_n hx hb dX9_automaton_100 rfl (lv_at hl 0 rfl) ?_
        refine va_calli (va_runV (As := []) (rest := []) ⟨hx, hb, hml, hown, hts⟩ (c_EM_isGood l dC dI _ ad ck 0 0 0 x18 z20_130 z21_131 z22_132 z23_133 x24 x25 z26_134 z27_135 1 x29 x30 x33 x45 x46 x52 x53 x61 x62 x63 x65 x66 z1_115 z2_118 z3_119 z4_120 z5_121 z6_122 z7_123 z8_124 z9_125 z10_116 z11_117 m12_0 z12_1_126 m13_0 z13_1_127 m14_0 z14_1_128 m15_0 z15_1_129 f17 q31 f32 f34 f35 f36 f37 q38 f39 f40 f41 m42_0 m42_1 f43 f44 f47 f48 f49 f50 f51 q54 q55 q56 f57 q58 f59 f60 f64 (Nat.le_of_ble_eq_true rfl) (Nat.le_of_ble_eq_true rfl) hx18 hz21_131 hz22_132 hz26_134 (Nat.le_of_ble_eq_true rfl) hx29 hx30 hx33 hx46 hx52 hx53 hx61 hx62 hx63 hx65 hm12_0 hz12_1_126 hm13_0 hz13_1_127 hm14_0 hz14_1_128 hm15_0 hz15_1_129 hm42_0 hm42_1) (cwV 0 hts g_EM_automaton_EM_isGood rfl rfl rfl (by decide +kernel) ⟨Nat.le_of_ble_eq_true rfl, Nat.le_of_ble_eq_true rfl⟩) ⟨pu_bl, va_recv hK hP (ci := 9) (q0 := 0) rfl rfl, pu_in hP hK hD⟩ rfl rfl hl.1 rfl (lv_room (Nat.le_of_ble_eq_true rfl)) dX9_automaton_101 ⟨Nat.le_of_ble_eq_true rfl, Nat.le_of_ble_eq_true rfl⟩) hS (fun q _ h => pu_fr hS hA q h) (pu_fr hS hA) (fun r_136 u t H1 locs ht hvm hw hB hz1 hk1 hS => ?_)
        have hP := pu_keep hP hk1
        clear hk1 hz1 ht hvm
        generalize H1 = H at hP hS ⊢
        obtain ⟨u_137, hu_137, rfl, ju_137, iu_137⟩ := hw
        have hsp := hsp.trans (slet_eq iu_137)
        obtain ⟨JR_143, hJR_143, hsp⟩ := slet_ex hsp
        refine pu_join (fun H locs ls st => ∃ (g_138 : Nat) (g_139 : Int32), st = [] ∧ g_138 ≤ 6 ∧ (g_138 ≠ 0 ∨ mu z21_131 z22_132 < mu g_99 g_100) ∧ mu z21_131 z22_132 ≤ mu g_99 g_100 ∧ (g_138, g_139) = JR_143 ∧ va_P (dC, dI) vwCl (mo_w ad ck 0 0 0 (nI x18) z20_130 (nI z21_131) (nI z22_132) z23_133 x24 x25 (nI g_138) g_139 1 (nI x29) (nI x30) (nI x33) x45 (nI x46) (nI x52) (nI x53) (nI x61) (nI x62) (nI x63) (nI x65) x66 z1_115 z2_118 z3_119 (bN 3 z4_120) (bN 7 z5_121) (bN 7 z6_122) (bN 4 z7_123) z8_124 (bN 2 z9_125) (bH z10_116) z11_117 (b2 m12_0 z12_1_126) (b2 m13_0 z13_1_127) (b2 m14_0 z14_1_128) (b2m m15_0 z15_1_129) f17 (bA 159 q31) f32 f34 f35 f36 f37 (bN 7 q38) f39 f40 f41 (b2 m42_0 m42_1) f43 f44 f47 f48 f49 f50 f51 (bN 13 q54) (bN 120 q55) (bN 120 q56) f57 (bN 120 q58) f59 f60 f64) H ∧ va_D A (mo_w ad ck 0 0 0 (nI x18) z20_130 (nI z21_131) (nI z22_132) z23_133 x24 x25 (nI g_138) g_139 1 (nI x29) (nI x30) (nI x33) x45 (nI x46) (nI x52) (nI x53) (nI x61) (nI x62) (nI x63) (nI x65) x66 z1_115 z2_118 z3_119 (bN 3 z4_120) (bN 7 z5_121) (bN 7 z6_122) (bN 4 z7_123) z8_124 (bN 2 z9_125) (bH z10_116) z11_117 (b2 m12_0 z12_1_126) (b2 m13_0 z13_1_127) (b2 m14_0 z14_1_128) (b2m m15_0 z15_1_129) f17 (bA 159 q31) f32 f34 f35 f36 f37 (bN 7 q38) f39 f40 f41 (b2 m42_0 m42_1) f43 f44 f47 f48 f49 f50 f51 (bN 13 q54) (bN 120 q55) (bN 120 q56) f57 (bN 120 q58) f59 f60 f64) ∧ va_S A s.heap H locs ∧ lv_has ls 1 [(0, .ref (ad 0))]) 121 ?_ (fun j_142 => ?_)
        · rintro H locs ls st ⟨g_138, g_139, rfl, hg_138, he_140, he_141, he_144, hP, hD, hS, hl⟩
          rw [← he_144] at hsp
          refine lv_aload_n hx hb dX9_automaton_121 rfl (lv_at hl 0 rfl) ?_
          refine va_calli (va_runV (As := []) (rest := []) ⟨hx, hb, hml, hown, hts⟩ (c_EM_isGood l dC dI _ ad ck 0 0 0 x18 z20_130 z21_131 z22_132 z23_133 x24 x25 g_138 g_139 1 x29 x30 x33 x45 x46 x52 x53 x61 x62 x63 x65 x66 z1_115 z2_118 z3_119 z4_120 z5_121 z6_122 z7_123 z8_124 z9_125 z10_116 z11_117 m12_0 z12_1_126 m13_0 z13_1_127 m14_0 z14_1_128 m15_0 z15_1_129 f17 q31 f32 f34 f35 f36 f37 q38 f39 f40 f41 m42_0 m42_1 f43 f44 f47 f48 f49 f50 f51 q54 q55 q56 f57 q58 f59 f60 f64 (Nat.le_of_ble_eq_true rfl) (Nat.le_of_ble_eq_true rfl) hx18 hz21_131 hz22_132 hg_138 (Nat.le_of_ble_eq_true rfl) hx29 hx30 hx33 hx46 hx52 hx53 hx61 hx62 hx63 hx65 hm12_0 hz12_1_126 hm13_0 hz13_1_127 hm14_0 hz14_1_128 hm15_0 hz15_1_129 hm42_0 hm42_1) (cwV 0 hts g_EM_automaton_EM_isGood rfl rfl rfl (by decide +kernel) ⟨Nat.le_of_ble_eq_true rfl, Nat.le_of_ble_eq_true rfl⟩) ⟨pu_bl, va_recv hK hP (ci := 9) (q0 := 0) rfl rfl, pu_in hP hK hD⟩ rfl rfl hl.1 rfl (lv_room (Nat.le_of_ble_eq_true rfl)) dX9_automaton_122 ⟨Nat.le_of_ble_eq_true rfl, Nat.le_of_ble_eq_true rfl⟩) hS (fun q _ h => pu_fr hS hA q h) (pu_fr hS hA) (fun r_145 u t H1 locs ht hvm hw hB hz1 hk1 hS => ?_)
          have hP := pu_keep hP hk1
          clear hk1 hz1 ht hvm
          generalize H1 = H at hP hS ⊢
          obtain ⟨u_146, hu_146, rfl, ju_146, iu_146⟩ := hw
          have hsp := hsp.trans (slet_eq iu_146)
          refine lv_if_eq (tgt := 82) hx hb dX9_automaton_125 (by decide) (fun c_147 => ?_) (fun c_147 => ?_)
          · have c_147 : u_146 = 0 := (nI_eq (a := u_146) (b := 0) (Nat.lt_of_le_of_lt hu_146 (Nat.le_of_ble_eq_true rfl)) (Nat.le_of_ble_eq_true rfl)).mp c_147
            have hsp := hsp.trans (if_pos c_147)
            exact ih_104 (2 * mu z21_131 z22_132 + (1 - g_138)) (by omega) _ _ _ ⟨z1_115, z10_116, z11_117, z2_118, z3_119, z4_120, z5_121, z6_122, z7_123, z8_124, z9_125, z12_1_126, z13_1_127, z14_1_128, z15_1_129, z20_130, z21_131, z22_132, z23_133, g_138, g_139, rfl, hz12_1_126, hz13_1_127, hz14_1_128, hz15_1_129, hz21_131, hz22_132, hg_138, hin_108 _ hsp, hP, hD, hS, lv_sub hl [0] rfl⟩
          · have c_147 : ¬ u_146 = 0 := fun z => c_147 ((nI_eq (a := u_146) (b := 0) (Nat.lt_of_le_of_lt hu_146 (Nat.le_of_ble_eq_true rfl)) (Nat.le_of_ble_eq_true rfl)).mpr z)
            have hsp := hsp.trans (if_neg c_147)
            refine lv_aload_n hx hb dX9_automaton_128 rfl (lv_at hl 0 rfl) ?_
            have hFc := pu_free hD hS hA
            refine va_callv (va_runV (As := []) (rest := []) ⟨hx, hb, hml, hown, hts⟩ (c_EM_next l dC dI _ ad ck 0 0 0 x18 z20_130 z21_131 z22_132 z23_133 x24 x25 g_138 g_139 1 x29 x30 x33 x45 x46 x52 x53 x61 x62 x63 x65 x66 z1_115 z2_118 z3_119 z4_120 z5_121 z6_122 z7_123 z8_124 z9_125 z10_116 z11_117 m12_0 z12_1_126 m13_0 z13_1_127 m14_0 z14_1_128 m15_0 z15_1_129 f17 q31 f32 f34 f35 f36 f37 q38 f39 f40 f41 m42_0 m42_1 f43 f44 f47 f48 f49 f50 f51 q54 q55 q56 f57 q58 f59 f60 f64 (Nat.le_of_ble_eq_true rfl) (Nat.le_of_ble_eq_true rfl) hx18 hz21_131 hz22_132 hg_138 (Nat.le_of_ble_eq_true rfl) hx29 hx30 hx33 hx46 hx52 hx53 hx61 hx62 hx63 hx65 hm12_0 hz12_1_126 hm13_0 hz13_1_127 hm14_0 hz14_1_128 hm15_0 hz15_1_129 hm42_0 hm42_1) (cwV 0 hts g_EM_automaton_EM_next rfl rfl rfl (by decide +kernel) ⟨Nat.le_of_ble_eq_true rfl, Nat.le_of_ble_eq_true rfl⟩) ⟨pu_bl, va_recv hK hP (ci := 9) (q0 := 0) rfl rfl, pu_in hP hK hD⟩ rfl rfl hl.1 rfl (lv_room (Nat.le_of_ble_eq_true rfl)) dX9_automaton_129 ⟨Nat.le_of_ble_eq_true rfl, Nat.le_of_ble_eq_true rfl⟩) hS (fun q _ h => hFc q h) hFc (fun u t H1 locs ht hvm hw hB hz1 hk1 hS => ?_)
            obtain ⟨z20_149, z21_150, z22_151, z23_152, ⟨hP1, -, hD1⟩, hz21_150, hz22_151, xr_148_0, xr_148_1, xr_148_2⟩ := hB
            rw [ht] at hP1
            have hP := hP1
            have hD := pu_all hFc hD1
            clear hP1 hD1 hFc
            clear hk1 hz1 ht hvm
            generalize H1 = H at hP hS ⊢
            have hsp := hsp.trans (slet_eq xr_148_2)
            refine lv_goto (tgt := 82) hx hb dX9_automaton_132 (by decide) ?_
            exact ih_104 (2 * mu z21_150 z22_151 + (1 - g_138)) (by omega) _ _ _ ⟨z1_115, z10_116, z11_117, z2_118, z3_119, z4_120, z5_121, z6_122, z7_123, z8_124, z9_125, z12_1_126, z13_1_127, z14_1_128, z15_1_129, z20_149, z21_150, z22_151, z23_152, g_138, g_139, rfl, hz12_1_126, hz13_1_127, hz14_1_128, hz15_1_129, hz21_150, hz22_151, hg_138, hin_108 _ hsp, hP, hD, hS, lv_sub hl [0] rfl⟩
        have hsp := hJR_143
        refine lv_if_eq (tgt := 121) hx hb dX9_automaton_104 (by decide) (fun c_153 => ?_) (fun c_153 => ?_)
        · have c_153 : u_137 = 0 := (nI_eq (a := u_137) (b := 0) (Nat.lt_of_le_of_lt hu_137 (Nat.le_of_ble_eq_true rfl)) (Nat.le_of_ble_eq_true rfl)).mp c_153
          have hsp := hsp.trans (if_pos c_153)
          exact j_142 _ _ _ _ ⟨z26_134, z27_135, rfl, hz26_134, by omega, by omega, hsp.symm, hP, hD, hS, lv_sub hl [0] rfl⟩
        · have c_153 : ¬ u_137 = 0 := fun z => c_153 ((nI_eq (a := u_137) (b := 0) (Nat.lt_of_le_of_lt hu_137 (Nat.le_of_ble_eq_true rfl)) (Nat.le_of_ble_eq_true rfl)).mpr z)
          have hsp := hsp.trans (if_neg c_153)
          refine lv_aload_n hx hb dX9_automaton_107 rfl (lv_at hl 0 rfl) ?_
          refine lv_bipush (v := 59) hx hb dX9_automaton_108 (by decide) ?_
          refine va_calli (va_runV (As := [.int 59]) (rest := []) ⟨hx, hb, hml, hown, hts⟩ (c_EM_isSign l dC dI _ ad ck 0 0 0 x18 z20_130 z21_131 z22_132 z23_133 x24 x25 z26_134 z27_135 1 x29 x30 x33 x45 x46 x52 x53 x61 x62 x63 x65 x66 z1_115 z2_118 z3_119 z4_120 z5_121 z6_122 z7_123 z8_124 z9_125 z10_116 z11_117 m12_0 z12_1_126 m13_0 z13_1_127 m14_0 z14_1_128 m15_0 z15_1_129 f17 q31 f32 f34 f35 f36 f37 q38 f39 f40 f41 m42_0 m42_1 f43 f44 f47 f48 f49 f50 f51 q54 q55 q56 f57 q58 f59 f60 f64 59 (Nat.le_of_ble_eq_true rfl) (Nat.le_of_ble_eq_true rfl) hx18 hz21_131 hz22_132 hz26_134 (Nat.le_of_ble_eq_true rfl) hx29 hx30 hx33 hx46 hx52 hx53 hx61 hx62 hx63 hx65 hm12_0 hz12_1_126 hm13_0 hz13_1_127 hm14_0 hz14_1_128 hm15_0 hz15_1_129 hm42_0 hm42_1) (cwV 1 hts g_EM_automaton_EM_isSign rfl rfl rfl (by decide +kernel) ⟨Nat.le_of_ble_eq_true rfl, Nat.le_of_ble_eq_true rfl⟩) ⟨pu_bl, va_recv hK hP (ci := 9) (q0 := 0) rfl rfl, pu_in hP hK hD⟩ rfl rfl hl.1 rfl (lv_room (Nat.le_of_ble_eq_true rfl)) dX9_automaton_110 ⟨Nat.le_of_ble_eq_true rfl, Nat.le_of_ble_eq_true rfl⟩) hS (fun q _ h => pu_fr hS hA q h) (pu_fr hS hA) (fun r_154 u t H1 locs ht hvm hw hB hz1 hk1 hS => ?_)
          have hP := pu_keep hP hk1
          clear hk1 hz1 ht hvm
          generalize H1 = H at hP hS ⊢
          obtain ⟨u_155, hu_155, rfl, ju_155, iu_155⟩ := hw
          have hsp := hsp.trans (slet_eq iu_155)
          refine lv_if_ne (tgt := 121) hx hb dX9_automaton_113 (by decide) (fun c_156 => ?_) (fun c_156 => ?_)
          · have c_156 : ¬ u_155 = 0 := fun z => c_156 ((nI_eq (a := u_155) (b := 0) (Nat.lt_of_le_of_lt hu_155 (Nat.le_of_ble_eq_true rfl)) (Nat.le_of_ble_eq_true rfl)).mpr z)
            have hsp := hsp.trans (if_neg c_156)
            exact j_142 _ _ _ _ ⟨z26_134, z27_135, rfl, hz26_134, by omega, by omega, hsp.symm, hP, hD, hS, lv_sub hl [0] rfl⟩
          · have c_156 : u_155 = 0 := (nI_eq (a := u_155) (b := 0) (Nat.lt_of_le_of_lt hu_155 (Nat.le_of_ble_eq_true rfl)) (Nat.le_of_ble_eq_true rfl)).mp c_156
            have hsp := hsp.trans (if_pos c_156)
            refine lv_aload_n hx hb dX9_automaton_116 rfl (lv_at hl 0 rfl) ?_
            refine lv_iconst (v := 2) hx hb dX9_automaton_117 (by decide) ?_
            have hFc := pu_free hD hS hA
            refine va_callv (va_runV (As := [.int 2]) (rest := []) ⟨hx, hb, hml, hown, hts⟩ (c_EM_fails l dC dI _ ad ck 0 0 0 x18 z20_130 z21_131 z22_132 z23_133 x24 x25 z26_134 z27_135 1 x29 x30 x33 x45 x46 x52 x53 x61 x62 x63 x65 x66 z1_115 z2_118 z3_119 z4_120 z5_121 z6_122 z7_123 z8_124 z9_125 z10_116 z11_117 m12_0 z12_1_126 m13_0 z13_1_127 m14_0 z14_1_128 m15_0 z15_1_129 f17 q31 f32 f34 f35 f36 f37 q38 f39 f40 f41 m42_0 m42_1 f43 f44 f47 f48 f49 f50 f51 q54 q55 q56 f57 q58 f59 f60 f64 2 (Nat.le_of_ble_eq_true rfl) (Nat.le_of_ble_eq_true rfl) hx18 hz21_131 hz22_132 hz26_134 (Nat.le_of_ble_eq_true rfl) hx29 hx30 hx33 hx46 hx52 hx53 hx61 hx62 hx63 hx65 hm12_0 hz12_1_126 hm13_0 hz13_1_127 hm14_0 hz14_1_128 hm15_0 hz15_1_129 hm42_0 hm42_1 (Nat.le_of_ble_eq_true rfl) (by omega)) (cwV 1 hts g_EM_automaton_EM_fails rfl rfl rfl (by decide +kernel) ⟨Nat.le_of_ble_eq_true rfl, Nat.le_of_ble_eq_true rfl⟩) ⟨pu_bl, va_recv hK hP (ci := 9) (q0 := 0) rfl rfl, pu_in hP hK hD⟩ rfl rfl hl.1 rfl (lv_room (Nat.le_of_ble_eq_true rfl)) dX9_automaton_118 ⟨Nat.le_of_ble_eq_true rfl, Nat.le_of_ble_eq_true rfl⟩) hS (fun q _ h => hFc q h) hFc (fun u t H1 locs ht hvm hw hB hz1 hk1 hS => ?_)
            obtain ⟨z26_158, z27_159, ⟨hP1, -, hD1⟩, hz26_158, xr_157_0, xr_157_1⟩ := hB
            rw [ht] at hP1
            have hP := hP1
            have hD := pu_all hFc hD1
            clear hP1 hD1 hFc
            clear hk1 hz1 ht hvm
            generalize H1 = H at hP hS ⊢
            have hsp := hsp.trans (slet_eq xr_157_1)
            exact j_142 _ _ _ _ ⟨z26_158, z27_159, rfl, hz26_158, by omega, by omega, hsp.symm, hP, hD, hS, lv_sub hl [0] rfl⟩
  · have hsp := hsp.trans (if_neg (by decide))
    refine lv_aload_n hx hb dX9_automaton_0 rfl (lv_at hl 0 rfl) ?_
    refine lv_iconst (v := 0) hx hb dX9_automaton_1 (by decide) ?_
    refine va_put (D := (dC, dI)) (ci := 9) (v := .int 0) (ty := .int) (C := RX9) (T := TX9) (N := 67) hx hb hts hiX9 tyX9 tyX9_ok nmX9 hown hK hP hD hS 0 rfl rfl 0 (by decide) v_1 (fun _ h9 => h9) rfl (by decide +kernel) rfl rfl (Nat.le_of_ble_eq_true rfl) dX9_automaton_2 (fun H locs hP hD hS => ?_)
    have hP : va_P (dC, dI) vwCl (mo_w ad ck 0 1 (nI x18) (nI x19) x20 (nI x21) (nI x22) x23 x24 x25 (nI x26) x27 (nI x28) (nI x29) (nI x30) (nI x33) x45 (nI x46) (nI x52) (nI x53) (nI x61) (nI x62) (nI x63) (nI x65) x66 f1 f2 f3 (bN 3 q4) (bN 7 q5) (bN 7 q6) (bN 4 q7) f8 (bN 2 q9) (bH q10) f11 (b2 m12_0 m12_1) (b2 m13_0 m13_1) (b2 m14_0 m14_1) (b2m m15_0 m15_1) f17 (bA 159 q31) f32 f34 f35 f36 f37 (bN 7 q38) f39 f40 f41 (b2 m42_0 m42_1) f43 f44 f47 f48 f49 f50 f51 (bN 13 q54) (bN 120 q55) (bN 120 q56) f57 (bN 120 q58) f59 f60 f64) H := hP
    have hD : va_D A (mo_w ad ck 0 1 (nI x18) (nI x19) x20 (nI x21) (nI x22) x23 x24 x25 (nI x26) x27 (nI x28) (nI x29) (nI x30) (nI x33) x45 (nI x46) (nI x52) (nI x53) (nI x61) (nI x62) (nI x63) (nI x65) x66 f1 f2 f3 (bN 3 q4) (bN 7 q5) (bN 7 q6) (bN 4 q7) f8 (bN 2 q9) (bH q10) f11 (b2 m12_0 m12_1) (b2 m13_0 m13_1) (b2 m14_0 m14_1) (b2m m15_0 m15_1) f17 (bA 159 q31) f32 f34 f35 f36 f37 (bN 7 q38) f39 f40 f41 (b2 m42_0 m42_1) f43 f44 f47 f48 f49 f50 f51 (bN 13 q54) (bN 120 q55) (bN 120 q56) f57 (bN 120 q58) f59 f60 f64) := hD
    refine lv_aload_n hx hb dX9_automaton_5 rfl (lv_at hl 0 rfl) ?_
    refine lv_aload_n hx hb dX9_automaton_6 rfl (lv_at hl 0 rfl) ?_
    refine va_get (D := (dC, dI)) (ci := 9) (v := .int (nI x18)) (C := RX9) (T := TX9) (N := 67) hx hb hts hiX9 hown hK hP 0 rfl rfl 18 (by decide) v_2 (fun _ h9 => h9) rfl dX9_automaton_7 ?_
    refine va_put (D := (dC, dI)) (ci := 9) (v := .int (nI x18)) (ty := .int) (C := RX9) (T := TX9) (N := 67) hx hb hts hiX9 tyX9 tyX9_ok nmX9 hown hK hP hD hS 0 rfl rfl 19 (by decide) v_3 (fun _ h9 => h9) rfl (by decide +kernel) rfl rfl (Nat.le_of_ble_eq_true rfl) dX9_automaton_10 (fun H locs hP hD hS => ?_)
    have hP : va_P (dC, dI) vwCl (mo_w ad ck 0 1 (nI x18) (nI x18) x20 (nI x21) (nI x22) x23 x24 x25 (nI x26) x27 (nI x28) (nI x29) (nI x30) (nI x33) x45 (nI x46) (nI x52) (nI x53) (nI x61) (nI x62) (nI x63) (nI x65) x66 f1 f2 f3 (bN 3 q4) (bN 7 q5) (bN 7 q6) (bN 4 q7) f8 (bN 2 q9) (bH q10) f11 (b2 m12_0 m12_1) (b2 m13_0 m13_1) (b2 m14_0 m14_1) (b2m m15_0 m15_1) f17 (bA 159 q31) f32 f34 f35 f36 f37 (bN 7 q38) f39 f40 f41 (b2 m42_0 m42_1) f43 f44 f47 f48 f49 f50 f51 (bN 13 q54) (bN 120 q55) (bN 120 q56) f57 (bN 120 q58) f59 f60 f64) H := hP
    have hD : va_D A (mo_w ad ck 0 1 (nI x18) (nI x18) x20 (nI x21) (nI x22) x23 x24 x25 (nI x26) x27 (nI x28) (nI x29) (nI x30) (nI x33) x45 (nI x46) (nI x52) (nI x53) (nI x61) (nI x62) (nI x63) (nI x65) x66 f1 f2 f3 (bN 3 q4) (bN 7 q5) (bN 7 q6) (bN 4 q7) f8 (bN 2 q9) (bH q10) f11 (b2 m12_0 m12_1) (b2 m13_0 m13_1) (b2 m14_0 m14_1) (b2m m15_0 m15_1) f17 (bA 159 q31) f32 f34 f35 f36 f37 (bN 7 q38) f39 f40 f41 (b2 m42_0 m42_1) f43 f44 f47 f48 f49 f50 f51 (bN 13 q54) (bN 120 q55) (bN 120 q56) f57 (bN 120 q58) f59 f60 f64) := hD
    refine lv_aload_n hx hb dX9_automaton_13 rfl (lv_at hl 0 rfl) ?_
    refine lv_iconst (v := 0) hx hb dX9_automaton_14 (by decide) ?_
    refine va_put (D := (dC, dI)) (ci := 9) (v := .int 0) (ty := .int) (C := RX9) (T := TX9) (N := 67) hx hb hts hiX9 tyX9 tyX9_ok nmX9 hown hK hP hD hS 0 rfl rfl 18 (by decide) v_2 (fun _ h9 => h9) rfl (by decide +kernel) rfl rfl (Nat.le_of_ble_eq_true rfl) dX9_automaton_15 (fun H locs hP hD hS => ?_)
    have hP : va_P (dC, dI) vwCl (mo_w ad ck 0 1 0 (nI x18) x20 (nI x21) (nI x22) x23 x24 x25 (nI x26) x27 (nI x28) (nI x29) (nI x30) (nI x33) x45 (nI x46) (nI x52) (nI x53) (nI x61) (nI x62) (nI x63) (nI x65) x66 f1 f2 f3 (bN 3 q4) (bN 7 q5) (bN 7 q6) (bN 4 q7) f8 (bN 2 q9) (bH q10) f11 (b2 m12_0 m12_1) (b2 m13_0 m13_1) (b2 m14_0 m14_1) (b2m m15_0 m15_1) f17 (bA 159 q31) f32 f34 f35 f36 f37 (bN 7 q38) f39 f40 f41 (b2 m42_0 m42_1) f43 f44 f47 f48 f49 f50 f51 (bN 13 q54) (bN 120 q55) (bN 120 q56) f57 (bN 120 q58) f59 f60 f64) H := hP
    have hD : va_D A (mo_w ad ck 0 1 0 (nI x18) x20 (nI x21) (nI x22) x23 x24 x25 (nI x26) x27 (nI x28) (nI x29) (nI x30) (nI x33) x45 (nI x46) (nI x52) (nI x53) (nI x61) (nI x62) (nI x63) (nI x65) x66 f1 f2 f3 (bN 3 q4) (bN 7 q5) (bN 7 q6) (bN 4 q7) f8 (bN 2 q9) (bH q10) f11 (b2 m12_0 m12_1) (b2 m13_0 m13_1) (b2 m14_0 m14_1) (b2m m15_0 m15_1) f17 (bA 159 q31) f32 f34 f35 f36 f37 (bN 7 q38) f39 f40 f41 (b2 m42_0 m42_1) f43 f44 f47 f48 f49 f50 f51 (bN 13 q54) (bN 120 q55) (bN 120 q56) f57 (bN 120 q58) f59 f60 f64) := hD
    refine lv_aload_n hx hb dX9_automaton_18 rfl (lv_at hl 0 rfl) ?_
    refine lv_iconst (v := 0) hx hb dX9_automaton_19 (by decide) ?_
    refine va_put (D := (dC, dI)) (ci := 9) (v := .int 0) (ty := .int) (C := RX9) (T := TX9) (N := 67) hx hb hts hiX9 tyX9 tyX9_ok nmX9 hown hK hP hD hS 0 rfl rfl 21 (by decide) v_4 (fun _ h9 => h9) rfl (by decide +kernel) rfl rfl (Nat.le_of_ble_eq_true rfl) dX9_automaton_20 (fun H locs hP hD hS => ?_)
    have hP : va_P (dC, dI) vwCl (mo_w ad ck 0 1 0 (nI x18) x20 0 (nI x22) x23 x24 x25 (nI x26) x27 (nI x28) (nI x29) (nI x30) (nI x33) x45 (nI x46) (nI x52) (nI x53) (nI x61) (nI x62) (nI x63) (nI x65) x66 f1 f2 f3 (bN 3 q4) (bN 7 q5) (bN 7 q6) (bN 4 q7) f8 (bN 2 q9) (bH q10) f11 (b2 m12_0 m12_1) (b2 m13_0 m13_1) (b2 m14_0 m14_1) (b2m m15_0 m15_1) f17 (bA 159 q31) f32 f34 f35 f36 f37 (bN 7 q38) f39 f40 f41 (b2 m42_0 m42_1) f43 f44 f47 f48 f49 f50 f51 (bN 13 q54) (bN 120 q55) (bN 120 q56) f57 (bN 120 q58) f59 f60 f64) H := hP
    have hD : va_D A (mo_w ad ck 0 1 0 (nI x18) x20 0 (nI x22) x23 x24 x25 (nI x26) x27 (nI x28) (nI x29) (nI x30) (nI x33) x45 (nI x46) (nI x52) (nI x53) (nI x61) (nI x62) (nI x63) (nI x65) x66 f1 f2 f3 (bN 3 q4) (bN 7 q5) (bN 7 q6) (bN 4 q7) f8 (bN 2 q9) (bH q10) f11 (b2 m12_0 m12_1) (b2 m13_0 m13_1) (b2 m14_0 m14_1) (b2m m15_0 m15_1) f17 (bA 159 q31) f32 f34 f35 f36 f37 (bN 7 q38) f39 f40 f41 (b2 m42_0 m42_1) f43 f44 f47 f48 f49 f50 f51 (bN 13 q54) (bN 120 q55) (bN 120 q56) f57 (bN 120 q58) f59 f60 f64) := hD
    refine lv_aload_n hx hb dX9_automaton_23 rfl (lv_at hl 0 rfl) ?_
    refine lv_iconst (v := 0) hx hb dX9_automaton_24 (by decide) ?_
    refine va_put (D := (dC, dI)) (ci := 9) (v := .int 0) (ty := .int) (C := RX9) (T := TX9) (N := 67) hx hb hts hiX9 tyX9 tyX9_ok nmX9 hown hK hP hD hS 0 rfl rfl 26 (by decide) v_5 (fun _ h9 => h9) rfl (by decide +kernel) rfl rfl (Nat.le_of_ble_eq_true rfl) dX9_automaton_25 (fun H locs hP hD hS => ?_)
    have hP : va_P (dC, dI) vwCl (mo_w ad ck 0 1 0 (nI x18) x20 0 (nI x22) x23 x24 x25 0 x27 (nI x28) (nI x29) (nI x30) (nI x33) x45 (nI x46) (nI x52) (nI x53) (nI x61) (nI x62) (nI x63) (nI x65) x66 f1 f2 f3 (bN 3 q4) (bN 7 q5) (bN 7 q6) (bN 4 q7) f8 (bN 2 q9) (bH q10) f11 (b2 m12_0 m12_1) (b2 m13_0 m13_1) (b2 m14_0 m14_1) (b2m m15_0 m15_1) f17 (bA 159 q31) f32 f34 f35 f36 f37 (bN 7 q38) f39 f40 f41 (b2 m42_0 m42_1) f43 f44 f47 f48 f49 f50 f51 (bN 13 q54) (bN 120 q55) (bN 120 q56) f57 (bN 120 q58) f59 f60 f64) H := hP
    have hD : va_D A (mo_w ad ck 0 1 0 (nI x18) x20 0 (nI x22) x23 x24 x25 0 x27 (nI x28) (nI x29) (nI x30) (nI x33) x45 (nI x46) (nI x52) (nI x53) (nI x61) (nI x62) (nI x63) (nI x65) x66 f1 f2 f3 (bN 3 q4) (bN 7 q5) (bN 7 q6) (bN 4 q7) f8 (bN 2 q9) (bH q10) f11 (b2 m12_0 m12_1) (b2 m13_0 m13_1) (b2 m14_0 m14_1) (b2m m15_0 m15_1) f17 (bA 159 q31) f32 f34 f35 f36 f37 (bN 7 q38) f39 f40 f41 (b2 m42_0 m42_1) f43 f44 f47 f48 f49 f50 f51 (bN 13 q54) (bN 120 q55) (bN 120 q56) f57 (bN 120 q58) f59 f60 f64) := hD
    refine lv_aload_n hx hb dX9_automaton_28 rfl (lv_at hl 0 rfl) ?_
    refine lv_iconst (v := 1) hx hb dX9_automaton_29 (by decide) ?_
    refine lv_aload_n hx hb dX9_automaton_30 rfl (lv_at hl 0 rfl) ?_
    refine va_get (D := (dC, dI)) (ci := 9) (v := .int 1) (C := RX9) (T := TX9) (N := 67) hx hb hts hiX9 hown hK hP 0 rfl rfl 16 (by decide) v_6 (fun _ h9 => h9) rfl dX9_automaton_31 ?_
    refine lv_isub hx hb dX9_automaton_34 ?_
    refine lv_topi (fun y_160 ey_160 => ?_)
    obtain rfl : y_160 = 0 := ey_160.trans (by decide)
    refine va_put (D := (dC, dI)) (ci := 9) (v := .int 0) (ty := .int) (C := RX9) (T := TX9) (N := 67) hx hb hts hiX9 tyX9 tyX9_ok nmX9 hown hK hP hD hS 0 rfl rfl 28 (by decide) v_7 (fun _ h9 => h9) rfl (by decide +kernel) rfl rfl (Nat.le_of_ble_eq_true rfl) dX9_automaton_35 (fun H locs hP hD hS => ?_)
    have hP : va_P (dC, dI) vwCl (mo_w ad ck 0 1 0 (nI x18) x20 0 (nI x22) x23 x24 x25 0 x27 0 (nI x29) (nI x30) (nI x33) x45 (nI x46) (nI x52) (nI x53) (nI x61) (nI x62) (nI x63) (nI x65) x66 f1 f2 f3 (bN 3 q4) (bN 7 q5) (bN 7 q6) (bN 4 q7) f8 (bN 2 q9) (bH q10) f11 (b2 m12_0 m12_1) (b2 m13_0 m13_1) (b2 m14_0 m14_1) (b2m m15_0 m15_1) f17 (bA 159 q31) f32 f34 f35 f36 f37 (bN 7 q38) f39 f40 f41 (b2 m42_0 m42_1) f43 f44 f47 f48 f49 f50 f51 (bN 13 q54) (bN 120 q55) (bN 120 q56) f57 (bN 120 q58) f59 f60 f64) H := hP
    have hD : va_D A (mo_w ad ck 0 1 0 (nI x18) x20 0 (nI x22) x23 x24 x25 0 x27 0 (nI x29) (nI x30) (nI x33) x45 (nI x46) (nI x52) (nI x53) (nI x61) (nI x62) (nI x63) (nI x65) x66 f1 f2 f3 (bN 3 q4) (bN 7 q5) (bN 7 q6) (bN 4 q7) f8 (bN 2 q9) (bH q10) f11 (b2 m12_0 m12_1) (b2 m13_0 m13_1) (b2 m14_0 m14_1) (b2m m15_0 m15_1) f17 (bA 159 q31) f32 f34 f35 f36 f37 (bN 7 q38) f39 f40 f41 (b2 m42_0 m42_1) f43 f44 f47 f48 f49 f50 f51 (bN 13 q54) (bN 120 q55) (bN 120 q56) f57 (bN 120 q58) f59 f60 f64) := hD
    refine lv_aload_n hx hb dX9_automaton_38 rfl (lv_at hl 0 rfl) ?_
    refine va_get (D := (dC, dI)) (ci := 9) (v := .ref (ad 12)) (C := RX9) (T := TX9) (N := 67) hx hb hts hiX9 hown hK hP 0 rfl rfl 12 (by decide) v_8 (fun _ h9 => h9) rfl dX9_automaton_39 ?_
    refine lv_aload_n hx hb dX9_automaton_42 rfl (lv_at hl 0 rfl) ?_
    refine va_get (D := (dC, dI)) (ci := 9) (v := .int 0) (C := RX9) (T := TX9) (N := 67) hx hb hts hiX9 hown hK hP 0 rfl rfl 28 (by decide) v_7 (fun _ h9 => h9) rfl dX9_automaton_43 ?_
    refine lv_iconst (v := 0) hx hb dX9_automaton_46 (by decide) ?_
    refine va_iast hx hb hK hP hD hS 12 11 rfl rfl (vp_in_nI (n := 0) (Nat.le_of_ble_eq_true rfl) (Nat.le_of_ble_eq_true rfl)) dX9_automaton_47 (fun H locs hP hD hS => ?_)
    have hP : va_P (dC, dI) vwCl (mo_w ad ck 0 1 0 (nI x18) x20 0 (nI x22) x23 x24 x25 0 x27 0 (nI x29) (nI x30) (nI x33) x45 (nI x46) (nI x52) (nI x53) (nI x61) (nI x62) (nI x63) (nI x65) x66 f1 f2 f3 (bN 3 q4) (bN 7 q5) (bN 7 q6) (bN 4 q7) f8 (bN 2 q9) (bH q10) f11 (b2 0 m12_1) (b2 m13_0 m13_1) (b2 m14_0 m14_1) (b2m m15_0 m15_1) f17 (bA 159 q31) f32 f34 f35 f36 f37 (bN 7 q38) f39 f40 f41 (b2 m42_0 m42_1) f43 f44 f47 f48 f49 f50 f51 (bN 13 q54) (bN 120 q55) (bN 120 q56) f57 (bN 120 q58) f59 f60 f64) H := by rw [← b2_up0 (a := m12_0) (b := m12_1) (v := 0)]; exact hP
    have hD : va_D A (mo_w ad ck 0 1 0 (nI x18) x20 0 (nI x22) x23 x24 x25 0 x27 0 (nI x29) (nI x30) (nI x33) x45 (nI x46) (nI x52) (nI x53) (nI x61) (nI x62) (nI x63) (nI x65) x66 f1 f2 f3 (bN 3 q4) (bN 7 q5) (bN 7 q6) (bN 4 q7) f8 (bN 2 q9) (bH q10) f11 (b2 0 m12_1) (b2 m13_0 m13_1) (b2 m14_0 m14_1) (b2m m15_0 m15_1) f17 (bA 159 q31) f32 f34 f35 f36 f37 (bN 7 q38) f39 f40 f41 (b2 m42_0 m42_1) f43 f44 f47 f48 f49 f50 f51 (bN 13 q54) (bN 120 q55) (bN 120 q56) f57 (bN 120 q58) f59 f60 f64) := by rw [← b2_up0 (a := m12_0) (b := m12_1) (v := 0)]; exact hD
    refine lv_aload_n hx hb dX9_automaton_48 rfl (lv_at hl 0 rfl) ?_
    refine va_get (D := (dC, dI)) (ci := 9) (v := .ref (ad 13)) (C := RX9) (T := TX9) (N := 67) hx hb hts hiX9 hown hK hP 0 rfl rfl 13 (by decide) v_9 (fun _ h9 => h9) rfl dX9_automaton_49 ?_
    refine lv_aload_n hx hb dX9_automaton_52 rfl (lv_at hl 0 rfl) ?_
    refine va_get (D := (dC, dI)) (ci := 9) (v := .int 0) (C := RX9) (T := TX9) (N := 67) hx hb hts hiX9 hown hK hP 0 rfl rfl 28 (by decide) v_7 (fun _ h9 => h9) rfl dX9_automaton_53 ?_
    refine lv_iconst (v := 0) hx hb dX9_automaton_56 (by decide) ?_
    refine va_iast hx hb hK hP hD hS 13 12 rfl rfl (vp_in_nI (n := 0) (Nat.le_of_ble_eq_true rfl) (Nat.le_of_ble_eq_true rfl)) dX9_automaton_57 (fun H locs hP hD hS => ?_)
    have hP : va_P (dC, dI) vwCl (mo_w ad ck 0 1 0 (nI x18) x20 0 (nI x22) x23 x24 x25 0 x27 0 (nI x29) (nI x30) (nI x33) x45 (nI x46) (nI x52) (nI x53) (nI x61) (nI x62) (nI x63) (nI x65) x66 f1 f2 f3 (bN 3 q4) (bN 7 q5) (bN 7 q6) (bN 4 q7) f8 (bN 2 q9) (bH q10) f11 (b2 0 m12_1) (b2 0 m13_1) (b2 m14_0 m14_1) (b2m m15_0 m15_1) f17 (bA 159 q31) f32 f34 f35 f36 f37 (bN 7 q38) f39 f40 f41 (b2 m42_0 m42_1) f43 f44 f47 f48 f49 f50 f51 (bN 13 q54) (bN 120 q55) (bN 120 q56) f57 (bN 120 q58) f59 f60 f64) H := by rw [← b2_up0 (a := m13_0) (b := m13_1) (v := 0)]; exact hP
    have hD : va_D A (mo_w ad ck 0 1 0 (nI x18) x20 0 (nI x22) x23 x24 x25 0 x27 0 (nI x29) (nI x30) (nI x33) x45 (nI x46) (nI x52) (nI x53) (nI x61) (nI x62) (nI x63) (nI x65) x66 f1 f2 f3 (bN 3 q4) (bN 7 q5) (bN 7 q6) (bN 4 q7) f8 (bN 2 q9) (bH q10) f11 (b2 0 m12_1) (b2 0 m13_1) (b2 m14_0 m14_1) (b2m m15_0 m15_1) f17 (bA 159 q31) f32 f34 f35 f36 f37 (bN 7 q38) f39 f40 f41 (b2 m42_0 m42_1) f43 f44 f47 f48 f49 f50 f51 (bN 13 q54) (bN 120 q55) (bN 120 q56) f57 (bN 120 q58) f59 f60 f64) := by rw [← b2_up0 (a := m13_0) (b := m13_1) (v := 0)]; exact hD
    refine lv_aload_n hx hb dX9_automaton_58 rfl (lv_at hl 0 rfl) ?_
    refine va_get (D := (dC, dI)) (ci := 9) (v := .ref (ad 14)) (C := RX9) (T := TX9) (N := 67) hx hb hts hiX9 hown hK hP 0 rfl rfl 14 (by decide) v_10 (fun _ h9 => h9) rfl dX9_automaton_59 ?_
    refine lv_aload_n hx hb dX9_automaton_62 rfl (lv_at hl 0 rfl) ?_
    refine va_get (D := (dC, dI)) (ci := 9) (v := .int 0) (C := RX9) (T := TX9) (N := 67) hx hb hts hiX9 hown hK hP 0 rfl rfl 28 (by decide) v_7 (fun _ h9 => h9) rfl dX9_automaton_63 ?_
    refine lv_iconst (v := 0) hx hb dX9_automaton_66 (by decide) ?_
    refine va_iast hx hb hK hP hD hS 14 13 rfl rfl (vp_in_nI (n := 0) (Nat.le_of_ble_eq_true rfl) (Nat.le_of_ble_eq_true rfl)) dX9_automaton_67 (fun H locs hP hD hS => ?_)
    have hP : va_P (dC, dI) vwCl (mo_w ad ck 0 1 0 (nI x18) x20 0 (nI x22) x23 x24 x25 0 x27 0 (nI x29) (nI x30) (nI x33) x45 (nI x46) (nI x52) (nI x53) (nI x61) (nI x62) (nI x63) (nI x65) x66 f1 f2 f3 (bN 3 q4) (bN 7 q5) (bN 7 q6) (bN 4 q7) f8 (bN 2 q9) (bH q10) f11 (b2 0 m12_1) (b2 0 m13_1) (b2 0 m14_1) (b2m m15_0 m15_1) f17 (bA 159 q31) f32 f34 f35 f36 f37 (bN 7 q38) f39 f40 f41 (b2 m42_0 m42_1) f43 f44 f47 f48 f49 f50 f51 (bN 13 q54) (bN 120 q55) (bN 120 q56) f57 (bN 120 q58) f59 f60 f64) H := by rw [← b2_up0 (a := m14_0) (b := m14_1) (v := 0)]; exact hP
    have hD : va_D A (mo_w ad ck 0 1 0 (nI x18) x20 0 (nI x22) x23 x24 x25 0 x27 0 (nI x29) (nI x30) (nI x33) x45 (nI x46) (nI x52) (nI x53) (nI x61) (nI x62) (nI x63) (nI x65) x66 f1 f2 f3 (bN 3 q4) (bN 7 q5) (bN 7 q6) (bN 4 q7) f8 (bN 2 q9) (bH q10) f11 (b2 0 m12_1) (b2 0 m13_1) (b2 0 m14_1) (b2m m15_0 m15_1) f17 (bA 159 q31) f32 f34 f35 f36 f37 (bN 7 q38) f39 f40 f41 (b2 m42_0 m42_1) f43 f44 f47 f48 f49 f50 f51 (bN 13 q54) (bN 120 q55) (bN 120 q56) f57 (bN 120 q58) f59 f60 f64) := by rw [← b2_up0 (a := m14_0) (b := m14_1) (v := 0)]; exact hD
    refine lv_aload_n hx hb dX9_automaton_68 rfl (lv_at hl 0 rfl) ?_
    refine va_get (D := (dC, dI)) (ci := 9) (v := .ref (ad 15)) (C := RX9) (T := TX9) (N := 67) hx hb hts hiX9 hown hK hP 0 rfl rfl 15 (by decide) v_11 (fun _ h9 => h9) rfl dX9_automaton_69 ?_
    refine lv_aload_n hx hb dX9_automaton_72 rfl (lv_at hl 0 rfl) ?_
    refine va_get (D := (dC, dI)) (ci := 9) (v := .int 0) (C := RX9) (T := TX9) (N := 67) hx hb hts hiX9 hown hK hP 0 rfl rfl 28 (by decide) v_7 (fun _ h9 => h9) rfl dX9_automaton_73 ?_
    refine lv_iconst (v := (-1)) hx hb dX9_automaton_76 (by decide) ?_
    refine va_iast hx hb hK hP hD hS 15 14 rfl rfl (vp_in_nI (n := 0) (Nat.le_of_ble_eq_true rfl) (Nat.le_of_ble_eq_true rfl)) dX9_automaton_77 (fun H locs hP hD hS => ?_)
    have hP : va_P (dC, dI) vwCl (mo_w ad ck 0 1 0 (nI x18) x20 0 (nI x22) x23 x24 x25 0 x27 0 (nI x29) (nI x30) (nI x33) x45 (nI x46) (nI x52) (nI x53) (nI x61) (nI x62) (nI x63) (nI x65) x66 f1 f2 f3 (bN 3 q4) (bN 7 q5) (bN 7 q6) (bN 4 q7) f8 (bN 2 q9) (bH q10) f11 (b2 0 m12_1) (b2 0 m13_1) (b2 0 m14_1) (b2m 0 m15_1) f17 (bA 159 q31) f32 f34 f35 f36 f37 (bN 7 q38) f39 f40 f41 (b2 m42_0 m42_1) f43 f44 f47 f48 f49 f50 f51 (bN 13 q54) (bN 120 q55) (bN 120 q56) f57 (bN 120 q58) f59 f60 f64) H := by rw [← b2m_n0 (a := m15_0) (b := m15_1)]; exact hP
    have hD : va_D A (mo_w ad ck 0 1 0 (nI x18) x20 0 (nI x22) x23 x24 x25 0 x27 0 (nI x29) (nI x30) (nI x33) x45 (nI x46) (nI x52) (nI x53) (nI x61) (nI x62) (nI x63) (nI x65) x66 f1 f2 f3 (bN 3 q4) (bN 7 q5) (bN 7 q6) (bN 4 q7) f8 (bN 2 q9) (bH q10) f11 (b2 0 m12_1) (b2 0 m13_1) (b2 0 m14_1) (b2m 0 m15_1) f17 (bA 159 q31) f32 f34 f35 f36 f37 (bN 7 q38) f39 f40 f41 (b2 m42_0 m42_1) f43 f44 f47 f48 f49 f50 f51 (bN 13 q54) (bN 120 q55) (bN 120 q56) f57 (bN 120 q58) f59 f60 f64) := by rw [← b2m_n0 (a := m15_0) (b := m15_1)]; exact hD
    refine lv_aload_n hx hb dX9_automaton_78 rfl (lv_at hl 0 rfl) ?_
    have hFc := pu_free hD hS hA
    refine va_callv (va_runV (As := []) (rest := []) ⟨hx, hb, hml, hown, hts⟩ (c_EM_next l dC dI _ ad ck 0 1 0 x18 x20 0 x22 x23 x24 x25 0 x27 0 x29 x30 x33 x45 x46 x52 x53 x61 x62 x63 x65 x66 f1 f2 f3 q4 q5 q6 q7 f8 q9 q10 f11 0 m12_1 0 m13_1 0 m14_1 0 m15_1 f17 q31 f32 f34 f35 f36 f37 q38 f39 f40 f41 m42_0 m42_1 f43 f44 f47 f48 f49 f50 f51 q54 q55 q56 f57 q58 f59 f60 f64 (Nat.le_of_ble_eq_true rfl) (Nat.le_of_ble_eq_true rfl) hx18 (Nat.le_of_ble_eq_true rfl) hx22 (Nat.le_of_ble_eq_true rfl) (Nat.le_of_ble_eq_true rfl) hx29 hx30 hx33 hx46 hx52 hx53 hx61 hx62 hx63 hx65 (Nat.le_of_ble_eq_true rfl) hm12_1 (Nat.le_of_ble_eq_true rfl) hm13_1 (Nat.le_of_ble_eq_true rfl) hm14_1 (Nat.le_of_ble_eq_true rfl) hm15_1 hm42_0 hm42_1) (cwV 0 hts g_EM_automaton_EM_next rfl rfl rfl (by decide +kernel) ⟨Nat.le_of_ble_eq_true rfl, Nat.le_of_ble_eq_true rfl⟩) ⟨pu_bl, va_recv hK hP (ci := 9) (q0 := 0) rfl rfl, pu_in hP hK hD⟩ rfl rfl hl.1 rfl (lv_room (Nat.le_of_ble_eq_true rfl)) dX9_automaton_79 ⟨Nat.le_of_ble_eq_true rfl, Nat.le_of_ble_eq_true rfl⟩) hS (fun q _ h => hFc q h) hFc (fun u t H1 locs ht hvm hw hB hz1 hk1 hS => ?_)
    obtain ⟨z20_162, z21_163, z22_164, z23_165, ⟨hP1, -, hD1⟩, hz21_163, hz22_164, xr_161_0, xr_161_1, xr_161_2⟩ := hB
    rw [ht] at hP1
    have hP := hP1
    have hD := pu_all hFc hD1
    clear hP1 hD1 hFc
    clear hk1 hz1 ht hvm
    generalize H1 = H at hP hS ⊢
    have hsp := hsp.trans (slet_eq xr_161_2)
    obtain ⟨JR_188, hJR_188, hsp⟩ := slet_ex hsp
    refine pu_join (fun H locs ls st => ∃ (g_166 : Int32) (g_167 : Nat) (g_168 : Nat) (g_169 : Int32) (g_170 : Nat) (g_171 : Int32) (g_172 : Nat → Int32) (g_173 : Nat → Int32) (g_174 : Nat → Int32) (g_175 : Nat → Nat) (g_176 : Nat → Nat) (g_177 : Nat → Nat) (g_178 : Nat → Nat) (g_179 : Nat → Int32) (g_180 : Nat → Nat) (g_181 : Nat → Nat) (g_182 : Nat → Int32) (g_183 : Nat) (g_184 : Nat) (g_185 : Nat) (g_186 : Nat), st = [] ∧ g_167 ≤ 900 ∧ g_168 ≤ 4 ∧ g_170 ≤ 6 ∧ g_183 ≤ 3 ∧ g_184 ≤ 8 ∧ g_185 ≤ 14 ∧ g_186 ≤ 8 ∧ (g_166, g_167, g_168, g_169, g_170, g_171, g_172, g_173, g_174, g_175, g_176, g_177, g_178, g_179, g_180, g_181, g_182, g_183, g_184, g_185, g_186) = JR_188 ∧ va_P (dC, dI) vwCl (mo_w ad ck 0 1 0 (nI x18) g_166 (nI g_167) (nI g_168) g_169 x24 x25 (nI g_170) g_171 0 (nI x29) (nI x30) (nI x33) x45 (nI x46) (nI x52) (nI x53) (nI x61) (nI x62) (nI x63) (nI x65) x66 g_172 g_173 g_174 (bN 3 g_175) (bN 7 g_176) (bN 7 g_177) (bN 4 g_178) g_179 (bN 2 g_180) (bH g_181) g_182 (b2 g_183 m12_1) (b2 g_184 m13_1) (b2 g_185 m14_1) (b2m g_186 m15_1) f17 (bA 159 q31) f32 f34 f35 f36 f37 (bN 7 q38) f39 f40 f41 (b2 m42_0 m42_1) f43 f44 f47 f48 f49 f50 f51 (bN 13 q54) (bN 120 q55) (bN 120 q56) f57 (bN 120 q58) f59 f60 f64) H ∧ va_D A (mo_w ad ck 0 1 0 (nI x18) g_166 (nI g_167) (nI g_168) g_169 x24 x25 (nI g_170) g_171 0 (nI x29) (nI x30) (nI x33) x45 (nI x46) (nI x52) (nI x53) (nI x61) (nI x62) (nI x63) (nI x65) x66 g_172 g_173 g_174 (bN 3 g_175) (bN 7 g_176) (bN 7 g_177) (bN 4 g_178) g_179 (bN 2 g_180) (bH g_181) g_182 (b2 g_183 m12_1) (b2 g_184 m13_1) (b2 g_185 m14_1) (b2m g_186 m15_1) f17 (bA 159 q31) f32 f34 f35 f36 f37 (bN 7 q38) f39 f40 f41 (b2 m42_0 m42_1) f43 f44 f47 f48 f49 f50 f51 (bN 13 q54) (bN 120 q55) (bN 120 q56) f57 (bN 120 q58) f59 f60 f64) ∧ va_S A s.heap H locs ∧ lv_has ls 1 [(0, .ref (ad 0))]) 135 ?_ (fun j_187 => ?_)
    · rintro H locs ls st ⟨g_166, g_167, g_168, g_169, g_170, g_171, g_172, g_173, g_174, g_175, g_176, g_177, g_178, g_179, g_180, g_181, g_182, g_183, g_184, g_185, g_186, rfl, hg_167, hg_168, hg_170, hg_183, hg_184, hg_185, hg_186, he_189, hP, hD, hS, hl⟩
      rw [← he_189] at hsp
      refine lv_aload_n hx hb dX9_automaton_135 rfl (lv_at hl 0 rfl) ?_
      refine va_calli (va_runV (As := []) (rest := []) ⟨hx, hb, hml, hown, hts⟩ (c_EM_isGood l dC dI _ ad ck 0 1 0 x18 g_166 g_167 g_168 g_169 x24 x25 g_170 g_171 0 x29 x30 x33 x45 x46 x52 x53 x61 x62 x63 x65 x66 g_172 g_173 g_174 g_175 g_176 g_177 g_178 g_179 g_180 g_181 g_182 g_183 m12_1 g_184 m13_1 g_185 m14_1 g_186 m15_1 f17 q31 f32 f34 f35 f36 f37 q38 f39 f40 f41 m42_0 m42_1 f43 f44 f47 f48 f49 f50 f51 q54 q55 q56 f57 q58 f59 f60 f64 (Nat.le_of_ble_eq_true rfl) (Nat.le_of_ble_eq_true rfl) hx18 hg_167 hg_168 hg_170 (Nat.le_of_ble_eq_true rfl) hx29 hx30 hx33 hx46 hx52 hx53 hx61 hx62 hx63 hx65 hg_183 hm12_1 hg_184 hm13_1 hg_185 hm14_1 hg_186 hm15_1 hm42_0 hm42_1) (cwV 0 hts g_EM_automaton_EM_isGood rfl rfl rfl (by decide +kernel) ⟨Nat.le_of_ble_eq_true rfl, Nat.le_of_ble_eq_true rfl⟩) ⟨pu_bl, va_recv hK hP (ci := 9) (q0 := 0) rfl rfl, pu_in hP hK hD⟩ rfl rfl hl.1 rfl (lv_room (Nat.le_of_ble_eq_true rfl)) dX9_automaton_136 ⟨Nat.le_of_ble_eq_true rfl, Nat.le_of_ble_eq_true rfl⟩) hS (fun q _ h => pu_fr hS hA q h) (pu_fr hS hA) (fun r_190 u t H1 locs ht hvm hw hB hz1 hk1 hS => ?_)
      have hP := pu_keep hP hk1
      clear hk1 hz1 ht hvm
      generalize H1 = H at hP hS ⊢
      obtain ⟨u_191, hu_191, rfl, ju_191, iu_191⟩ := hw
      have hsp := hsp.trans (slet_eq iu_191)
      obtain ⟨JR_195, hJR_195, hsp⟩ := slet_ex hsp
      refine pu_join (fun H locs ls st => ∃ (g_192 : Nat) (g_193 : Int32), st = [] ∧ g_192 ≤ 6 ∧ (g_192, g_193) = JR_195 ∧ va_P (dC, dI) vwCl (mo_w ad ck 0 1 0 (nI x18) g_166 (nI g_167) (nI g_168) g_169 x24 x25 (nI g_192) g_193 0 (nI x29) (nI x30) (nI x33) x45 (nI x46) (nI x52) (nI x53) (nI x61) (nI x62) (nI x63) (nI x65) x66 g_172 g_173 g_174 (bN 3 g_175) (bN 7 g_176) (bN 7 g_177) (bN 4 g_178) g_179 (bN 2 g_180) (bH g_181) g_182 (b2 g_183 m12_1) (b2 g_184 m13_1) (b2 g_185 m14_1) (b2m g_186 m15_1) f17 (bA 159 q31) f32 f34 f35 f36 f37 (bN 7 q38) f39 f40 f41 (b2 m42_0 m42_1) f43 f44 f47 f48 f49 f50 f51 (bN 13 q54) (bN 120 q55) (bN 120 q56) f57 (bN 120 q58) f59 f60 f64) H ∧ va_D A (mo_w ad ck 0 1 0 (nI x18) g_166 (nI g_167) (nI g_168) g_169 x24 x25 (nI g_192) g_193 0 (nI x29) (nI x30) (nI x33) x45 (nI x46) (nI x52) (nI x53) (nI x61) (nI x62) (nI x63) (nI x65) x66 g_172 g_173 g_174 (bN 3 g_175) (bN 7 g_176) (bN 7 g_177) (bN 4 g_178) g_179 (bN 2 g_180) (bH g_181) g_182 (b2 g_183 m12_1) (b2 g_184 m13_1) (b2 g_185 m14_1) (b2m g_186 m15_1) f17 (bA 159 q31) f32 f34 f35 f36 f37 (bN 7 q38) f39 f40 f41 (b2 m42_0 m42_1) f43 f44 f47 f48 f49 f50 f51 (bN 13 q54) (bN 120 q55) (bN 120 q56) f57 (bN 120 q58) f59 f60 f64) ∧ va_S A s.heap H locs ∧ lv_has ls 1 [(0, .ref (ad 0))]) 160 ?_ (fun j_194 => ?_)
      · rintro H locs ls st ⟨g_192, g_193, rfl, hg_192, he_196, hP, hD, hS, hl⟩
        rw [← he_196] at hsp
        refine lv_aload_n hx hb dX9_automaton_160 rfl (lv_at hl 0 rfl) ?_
        refine lv_aload_n hx hb dX9_automaton_161 rfl (lv_at hl 0 rfl) ?_
        refine va_get (D := (dC, dI)) (ci := 9) (v := .int (nI g_192)) (C := RX9) (T := TX9) (N := 67) hx hb hts hiX9 hown hK hP 0 rfl rfl 26 (by decide) v_5 (fun _ h9 => h9) rfl dX9_automaton_162 ?_
        refine va_put (D := (dC, dI)) (ci := 9) (v := .int (nI g_192)) (ty := .int) (C := RX9) (T := TX9) (N := 67) hx hb hts hiX9 tyX9 tyX9_ok nmX9 hown hK hP hD hS 0 rfl rfl 24 (by decide) v_34 (fun _ h9 => h9) rfl (by decide +kernel) rfl rfl (Nat.le_of_ble_eq_true rfl) dX9_automaton_165 (fun H locs hP hD hS => ?_)
        have hP : va_P (dC, dI) vwCl (mo_w ad ck 0 1 0 (nI x18) g_166 (nI g_167) (nI g_168) g_169 (nI g_192) x25 (nI g_192) g_193 0 (nI x29) (nI x30) (nI x33) x45 (nI x46) (nI x52) (nI x53) (nI x61) (nI x62) (nI x63) (nI x65) x66 g_172 g_173 g_174 (bN 3 g_175) (bN 7 g_176) (bN 7 g_177) (bN 4 g_178) g_179 (bN 2 g_180) (bH g_181) g_182 (b2 g_183 m12_1) (b2 g_184 m13_1) (b2 g_185 m14_1) (b2m g_186 m15_1) f17 (bA 159 q31) f32 f34 f35 f36 f37 (bN 7 q38) f39 f40 f41 (b2 m42_0 m42_1) f43 f44 f47 f48 f49 f50 f51 (bN 13 q54) (bN 120 q55) (bN 120 q56) f57 (bN 120 q58) f59 f60 f64) H := hP
        have hD : va_D A (mo_w ad ck 0 1 0 (nI x18) g_166 (nI g_167) (nI g_168) g_169 (nI g_192) x25 (nI g_192) g_193 0 (nI x29) (nI x30) (nI x33) x45 (nI x46) (nI x52) (nI x53) (nI x61) (nI x62) (nI x63) (nI x65) x66 g_172 g_173 g_174 (bN 3 g_175) (bN 7 g_176) (bN 7 g_177) (bN 4 g_178) g_179 (bN 2 g_180) (bH g_181) g_182 (b2 g_183 m12_1) (b2 g_184 m13_1) (b2 g_185 m14_1) (b2m g_186 m15_1) f17 (bA 159 q31) f32 f34 f35 f36 f37 (bN 7 q38) f39 f40 f41 (b2 m42_0 m42_1) f43 f44 f47 f48 f49 f50 f51 (bN 13 q54) (bN 120 q55) (bN 120 q56) f57 (bN 120 q58) f59 f60 f64) := hD
        refine lv_aload_n hx hb dX9_automaton_168 rfl (lv_at hl 0 rfl) ?_
        refine lv_aload_n hx hb dX9_automaton_169 rfl (lv_at hl 0 rfl) ?_
        refine va_get (D := (dC, dI)) (ci := 9) (v := .int (nI g_192)) (C := RX9) (T := TX9) (N := 67) hx hb hts hiX9 hown hK hP 0 rfl rfl 26 (by decide) v_5 (fun _ h9 => h9) rfl dX9_automaton_170 ?_
        obtain ⟨JR_199, hJR_199, hsp⟩ := slet_ex hsp
        refine pu_join (fun H locs ls st => ∃ (g_197 : Int32), st = [.int g_197, .ref (ad 0)] ∧ g_197 = JR_199 ∧ va_P (dC, dI) vwCl (mo_w ad ck 0 1 0 (nI x18) g_166 (nI g_167) (nI g_168) g_169 (nI g_192) x25 (nI g_192) g_193 0 (nI x29) (nI x30) (nI x33) x45 (nI x46) (nI x52) (nI x53) (nI x61) (nI x62) (nI x63) (nI x65) x66 g_172 g_173 g_174 (bN 3 g_175) (bN 7 g_176) (bN 7 g_177) (bN 4 g_178) g_179 (bN 2 g_180) (bH g_181) g_182 (b2 g_183 m12_1) (b2 g_184 m13_1) (b2 g_185 m14_1) (b2m g_186 m15_1) f17 (bA 159 q31) f32 f34 f35 f36 f37 (bN 7 q38) f39 f40 f41 (b2 m42_0 m42_1) f43 f44 f47 f48 f49 f50 f51 (bN 13 q54) (bN 120 q55) (bN 120 q56) f57 (bN 120 q58) f59 f60 f64) H ∧ va_D A (mo_w ad ck 0 1 0 (nI x18) g_166 (nI g_167) (nI g_168) g_169 (nI g_192) x25 (nI g_192) g_193 0 (nI x29) (nI x30) (nI x33) x45 (nI x46) (nI x52) (nI x53) (nI x61) (nI x62) (nI x63) (nI x65) x66 g_172 g_173 g_174 (bN 3 g_175) (bN 7 g_176) (bN 7 g_177) (bN 4 g_178) g_179 (bN 2 g_180) (bH g_181) g_182 (b2 g_183 m12_1) (b2 g_184 m13_1) (b2 g_185 m14_1) (b2m g_186 m15_1) f17 (bA 159 q31) f32 f34 f35 f36 f37 (bN 7 q38) f39 f40 f41 (b2 m42_0 m42_1) f43 f44 f47 f48 f49 f50 f51 (bN 13 q54) (bN 120 q55) (bN 120 q56) f57 (bN 120 q58) f59 f60 f64) ∧ va_S A s.heap H locs ∧ lv_has ls 1 [(0, .ref (ad 0))]) 184 ?_ (fun j_198 => ?_)
        · rintro H locs ls st ⟨g_197, rfl, he_200, hP, hD, hS, hl⟩
          rw [← he_200] at hsp
          refine va_put (D := (dC, dI)) (ci := 9) (v := .int g_197) (ty := .int) (C := RX9) (T := TX9) (N := 67) hx hb hts hiX9 tyX9 tyX9_ok nmX9 hown hK hP hD hS 0 rfl rfl 25 (by decide) v_36 (fun _ h9 => h9) rfl (by decide +kernel) rfl rfl (Nat.le_of_ble_eq_true rfl) dX9_automaton_184 (fun H locs hP hD hS => ?_)
          have hP : va_P (dC, dI) vwCl (mo_w ad ck 0 1 0 (nI x18) g_166 (nI g_167) (nI g_168) g_169 (nI g_192) g_197 (nI g_192) g_193 0 (nI x29) (nI x30) (nI x33) x45 (nI x46) (nI x52) (nI x53) (nI x61) (nI x62) (nI x63) (nI x65) x66 g_172 g_173 g_174 (bN 3 g_175) (bN 7 g_176) (bN 7 g_177) (bN 4 g_178) g_179 (bN 2 g_180) (bH g_181) g_182 (b2 g_183 m12_1) (b2 g_184 m13_1) (b2 g_185 m14_1) (b2m g_186 m15_1) f17 (bA 159 q31) f32 f34 f35 f36 f37 (bN 7 q38) f39 f40 f41 (b2 m42_0 m42_1) f43 f44 f47 f48 f49 f50 f51 (bN 13 q54) (bN 120 q55) (bN 120 q56) f57 (bN 120 q58) f59 f60 f64) H := hP
          have hD : va_D A (mo_w ad ck 0 1 0 (nI x18) g_166 (nI g_167) (nI g_168) g_169 (nI g_192) g_197 (nI g_192) g_193 0 (nI x29) (nI x30) (nI x33) x45 (nI x46) (nI x52) (nI x53) (nI x61) (nI x62) (nI x63) (nI x65) x66 g_172 g_173 g_174 (bN 3 g_175) (bN 7 g_176) (bN 7 g_177) (bN 4 g_178) g_179 (bN 2 g_180) (bH g_181) g_182 (b2 g_183 m12_1) (b2 g_184 m13_1) (b2 g_185 m14_1) (b2m g_186 m15_1) f17 (bA 159 q31) f32 f34 f35 f36 f37 (bN 7 q38) f39 f40 f41 (b2 m42_0 m42_1) f43 f44 f47 f48 f49 f50 f51 (bN 13 q54) (bN 120 q55) (bN 120 q56) f57 (bN 120 q58) f59 f60 f64) := hD
          refine lv_aload_n hx hb dX9_automaton_187 rfl (lv_at hl 0 rfl) ?_
          refine va_calli (va_runV (As := []) (rest := []) ⟨hx, hb, hml, hown, hts⟩ (c_EM_isGood l dC dI _ ad ck 0 1 0 x18 g_166 g_167 g_168 g_169 (nI g_192) g_197 g_192 g_193 0 x29 x30 x33 x45 x46 x52 x53 x61 x62 x63 x65 x66 g_172 g_173 g_174 g_175 g_176 g_177 g_178 g_179 g_180 g_181 g_182 g_183 m12_1 g_184 m13_1 g_185 m14_1 g_186 m15_1 f17 q31 f32 f34 f35 f36 f37 q38 f39 f40 f41 m42_0 m42_1 f43 f44 f47 f48 f49 f50 f51 q54 q55 q56 f57 q58 f59 f60 f64 (Nat.le_of_ble_eq_true rfl) (Nat.le_of_ble_eq_true rfl) hx18 hg_167 hg_168 hg_192 (Nat.le_of_ble_eq_true rfl) hx29 hx30 hx33 hx46 hx52 hx53 hx61 hx62 hx63 hx65 hg_183 hm12_1 hg_184 hm13_1 hg_185 hm14_1 hg_186 hm15_1 hm42_0 hm42_1) (cwV 0 hts g_EM_automaton_EM_isGood rfl rfl rfl (by decide +kernel) ⟨Nat.le_of_ble_eq_true rfl, Nat.le_of_ble_eq_true rfl⟩) ⟨pu_bl, va_recv hK hP (ci := 9) (q0 := 0) rfl rfl, pu_in hP hK hD⟩ rfl rfl hl.1 rfl (lv_room (Nat.le_of_ble_eq_true rfl)) dX9_automaton_188 ⟨Nat.le_of_ble_eq_true rfl, Nat.le_of_ble_eq_true rfl⟩) hS (fun q _ h => pu_fr hS hA q h) (pu_fr hS hA) (fun r_201 u t H1 locs ht hvm hw hB hz1 hk1 hS => ?_)
          have hP := pu_keep hP hk1
          clear hk1 hz1 ht hvm
          generalize H1 = H at hP hS ⊢
          obtain ⟨u_202, hu_202, rfl, ju_202, iu_202⟩ := hw
          have hsp := hsp.trans (slet_eq iu_202)
          refine lv_if_ne (tgt := 196) hx hb dX9_automaton_191 (by decide) (fun c_203 => ?_) (fun c_203 => ?_)
          · have c_203 : ¬ u_202 = 0 := fun z => c_203 ((nI_eq (a := u_202) (b := 0) (Nat.lt_of_le_of_lt hu_202 (Nat.le_of_ble_eq_true rfl)) (Nat.le_of_ble_eq_true rfl)).mpr z)
            have hsp := hsp.trans (if_neg c_203)
            refine lv_aload_n hx hb dX9_automaton_196 rfl (lv_at hl 0 rfl) ?_
            refine lv_aload_n hx hb dX9_automaton_197 rfl (lv_at hl 0 rfl) ?_
            refine va_get (D := (dC, dI)) (ci := 9) (v := .int 0) (C := RX9) (T := TX9) (N := 67) hx hb hts hiX9 hown hK hP 0 rfl rfl 28 (by decide) v_7 (fun _ h9 => h9) rfl dX9_automaton_198 ?_
            refine va_put (D := (dC, dI)) (ci := 9) (v := .int 0) (ty := .int) (C := RX9) (T := TX9) (N := 67) hx hb hts hiX9 tyX9 tyX9_ok nmX9 hown hK hP hD hS 0 rfl rfl 16 (by decide) v_6 (fun _ h9 => h9) rfl (by decide +kernel) rfl rfl (Nat.le_of_ble_eq_true rfl) dX9_automaton_201 (fun H locs hP hD hS => ?_)
            have hP : va_P (dC, dI) vwCl (mo_w ad ck 0 0 0 (nI x18) g_166 (nI g_167) (nI g_168) g_169 (nI g_192) g_197 (nI g_192) g_193 0 (nI x29) (nI x30) (nI x33) x45 (nI x46) (nI x52) (nI x53) (nI x61) (nI x62) (nI x63) (nI x65) x66 g_172 g_173 g_174 (bN 3 g_175) (bN 7 g_176) (bN 7 g_177) (bN 4 g_178) g_179 (bN 2 g_180) (bH g_181) g_182 (b2 g_183 m12_1) (b2 g_184 m13_1) (b2 g_185 m14_1) (b2m g_186 m15_1) f17 (bA 159 q31) f32 f34 f35 f36 f37 (bN 7 q38) f39 f40 f41 (b2 m42_0 m42_1) f43 f44 f47 f48 f49 f50 f51 (bN 13 q54) (bN 120 q55) (bN 120 q56) f57 (bN 120 q58) f59 f60 f64) H := hP
            have hD : va_D A (mo_w ad ck 0 0 0 (nI x18) g_166 (nI g_167) (nI g_168) g_169 (nI g_192) g_197 (nI g_192) g_193 0 (nI x29) (nI x30) (nI x33) x45 (nI x46) (nI x52) (nI x53) (nI x61) (nI x62) (nI x63) (nI x65) x66 g_172 g_173 g_174 (bN 3 g_175) (bN 7 g_176) (bN 7 g_177) (bN 4 g_178) g_179 (bN 2 g_180) (bH g_181) g_182 (b2 g_183 m12_1) (b2 g_184 m13_1) (b2 g_185 m14_1) (b2m g_186 m15_1) f17 (bA 159 q31) f32 f34 f35 f36 f37 (bN 7 q38) f39 f40 f41 (b2 m42_0 m42_1) f43 f44 f47 f48 f49 f50 f51 (bN 13 q54) (bN 120 q55) (bN 120 q56) f57 (bN 120 q58) f59 f60 f64) := hD
            refine lv_aload_n hx hb dX9_automaton_204 rfl (lv_at hl 0 rfl) ?_
            refine va_get (D := (dC, dI)) (ci := 9) (v := .ref (ad 15)) (C := RX9) (T := TX9) (N := 67) hx hb hts hiX9 hown hK hP 0 rfl rfl 15 (by decide) v_11 (fun _ h9 => h9) rfl dX9_automaton_205 ?_
            refine lv_aload_n hx hb dX9_automaton_208 rfl (lv_at hl 0 rfl) ?_
            refine va_get (D := (dC, dI)) (ci := 9) (v := .int 0) (C := RX9) (T := TX9) (N := 67) hx hb hts hiX9 hown hK hP 0 rfl rfl 16 (by decide) v_6 (fun _ h9 => h9) rfl dX9_automaton_209 ?_
            refine va_iald hx hb hK hP 15 14 rfl rfl (vp_in_nI (n := 0) (Nat.le_of_ble_eq_true rfl) (Nat.le_of_ble_eq_true rfl)) dX9_automaton_212 ?_
            refine lv_topi (fun y_204 ey_204 => ?_)
            have qy_204 := ey_204.trans b2m_0
            clear ey_204
            rcases mI_get g_186 with ⟨zy_204, wy_204⟩ | ⟨vy_204, zy_204, wy_204⟩
            · obtain rfl : y_204 = -1 := qy_204.trans wy_204
              have hsp := hsp.trans (if_pos zy_204)
              refine lv_if_ge (tgt := 226) hx hb dX9_automaton_213 (by decide) (fun z => absurd z (by decide)) (fun _ => ?_)
              refine lv_aload_n hx hb dX9_automaton_216 rfl (lv_at hl 0 rfl) ?_
              refine va_get (D := (dC, dI)) (ci := 9) (v := .ref (ad 15)) (C := RX9) (T := TX9) (N := 67) hx hb hts hiX9 hown hK hP 0 rfl rfl 15 (by decide) v_11 (fun _ h9 => h9) rfl dX9_automaton_217 ?_
              refine lv_aload_n hx hb dX9_automaton_220 rfl (lv_at hl 0 rfl) ?_
              refine va_get (D := (dC, dI)) (ci := 9) (v := .int 0) (C := RX9) (T := TX9) (N := 67) hx hb hts hiX9 hown hK hP 0 rfl rfl 16 (by decide) v_6 (fun _ h9 => h9) rfl dX9_automaton_221 ?_
              refine lv_iconst (v := 0) hx hb dX9_automaton_224 (by decide) ?_
              refine va_iast hx hb hK hP hD hS 15 14 rfl rfl (vp_in_nI (n := 0) (Nat.le_of_ble_eq_true rfl) (Nat.le_of_ble_eq_true rfl)) dX9_automaton_225 (fun H locs hP hD hS => ?_)
              have hP : va_P (dC, dI) vwCl (mo_w ad ck 0 0 0 (nI x18) g_166 (nI g_167) (nI g_168) g_169 (nI g_192) g_197 (nI g_192) g_193 0 (nI x29) (nI x30) (nI x33) x45 (nI x46) (nI x52) (nI x53) (nI x61) (nI x62) (nI x63) (nI x65) x66 g_172 g_173 g_174 (bN 3 g_175) (bN 7 g_176) (bN 7 g_177) (bN 4 g_178) g_179 (bN 2 g_180) (bH g_181) g_182 (b2 g_183 m12_1) (b2 g_184 m13_1) (b2 g_185 m14_1) (b2m (0 + 1) m15_1) f17 (bA 159 q31) f32 f34 f35 f36 f37 (bN 7 q38) f39 f40 f41 (b2 m42_0 m42_1) f43 f44 f47 f48 f49 f50 f51 (bN 13 q54) (bN 120 q55) (bN 120 q56) f57 (bN 120 q58) f59 f60 f64) H := by rw [← b2m_up0 (a := g_186) (b := m15_1) (v := 0)]; exact hP
              have hD : va_D A (mo_w ad ck 0 0 0 (nI x18) g_166 (nI g_167) (nI g_168) g_169 (nI g_192) g_197 (nI g_192) g_193 0 (nI x29) (nI x30) (nI x33) x45 (nI x46) (nI x52) (nI x53) (nI x61) (nI x62) (nI x63) (nI x65) x66 g_172 g_173 g_174 (bN 3 g_175) (bN 7 g_176) (bN 7 g_177) (bN 4 g_178) g_179 (bN 2 g_180) (bH g_181) g_182 (b2 g_183 m12_1) (b2 g_184 m13_1) (b2 g_185 m14_1) (b2m (0 + 1) m15_1) f17 (bA 159 q31) f32 f34 f35 f36 f37 (bN 7 q38) f39 f40 f41 (b2 m42_0 m42_1) f43 f44 f47 f48 f49 f50 f51 (bN 13 q54) (bN 120 q55) (bN 120 q56) f57 (bN 120 q58) f59 f60 f64) := by rw [← b2m_up0 (a := g_186) (b := m15_1) (v := 0)]; exact hD
              refine lv_aload_n hx hb dX9_automaton_226 rfl (lv_at hl 0 rfl) ?_
              refine lv_iconst (v := 0) hx hb dX9_automaton_227 (by decide) ?_
              refine va_put (D := (dC, dI)) (ci := 9) (v := .int 0) (ty := .int) (C := RX9) (T := TX9) (N := 67) hx hb hts hiX9 tyX9 tyX9_ok nmX9 hown hK hP hD hS 0 rfl rfl 33 (by decide) v_37 (fun _ h9 => h9) rfl (by decide +kernel) rfl rfl (Nat.le_of_ble_eq_true rfl) dX9_automaton_228 (fun H locs hP hD hS => ?_)
              have hP : va_P (dC, dI) vwCl (mo_w ad ck 0 0 0 (nI x18) g_166 (nI g_167) (nI g_168) g_169 (nI g_192) g_197 (nI g_192) g_193 0 (nI x29) (nI x30) 0 x45 (nI x46) (nI x52) (nI x53) (nI x61) (nI x62) (nI x63) (nI x65) x66 g_172 g_173 g_174 (bN 3 g_175) (bN 7 g_176) (bN 7 g_177) (bN 4 g_178) g_179 (bN 2 g_180) (bH g_181) g_182 (b2 g_183 m12_1) (b2 g_184 m13_1) (b2 g_185 m14_1) (b2m (0 + 1) m15_1) f17 (bA 159 q31) f32 f34 f35 f36 f37 (bN 7 q38) f39 f40 f41 (b2 m42_0 m42_1) f43 f44 f47 f48 f49 f50 f51 (bN 13 q54) (bN 120 q55) (bN 120 q56) f57 (bN 120 q58) f59 f60 f64) H := hP
              have hD : va_D A (mo_w ad ck 0 0 0 (nI x18) g_166 (nI g_167) (nI g_168) g_169 (nI g_192) g_197 (nI g_192) g_193 0 (nI x29) (nI x30) 0 x45 (nI x46) (nI x52) (nI x53) (nI x61) (nI x62) (nI x63) (nI x65) x66 g_172 g_173 g_174 (bN 3 g_175) (bN 7 g_176) (bN 7 g_177) (bN 4 g_178) g_179 (bN 2 g_180) (bH g_181) g_182 (b2 g_183 m12_1) (b2 g_184 m13_1) (b2 g_185 m14_1) (b2m (0 + 1) m15_1) f17 (bA 159 q31) f32 f34 f35 f36 f37 (bN 7 q38) f39 f40 f41 (b2 m42_0 m42_1) f43 f44 f47 f48 f49 f50 f51 (bN 13 q54) (bN 120 q55) (bN 120 q56) f57 (bN 120 q58) f59 f60 f64) := hD
              refine lv_aload_n hx hb dX9_automaton_231 rfl (lv_at hl 0 rfl) ?_
              have hFc := pu_free hD hS hA
              refine va_callv (va_runV (As := []) (rest := []) ⟨hx, hb, hml, hown, hts⟩ (c_EM_another l dC dI _ ad ck 0 0 0 x18 g_166 g_167 g_168 g_169 (nI g_192) g_197 g_192 g_193 0 x29 x30 0 x45 x46 x52 x53 x61 x62 x63 x65 x66 g_172 g_173 g_174 g_175 g_176 g_177 g_178 g_179 g_180 g_181 g_182 g_183 m12_1 g_184 m13_1 g_185 m14_1 (0 + 1) m15_1 f17 q31 f32 f34 f35 f36 f37 q38 f39 f40 f41 m42_0 m42_1 f43 f44 f47 f48 f49 f50 f51 q54 q55 q56 f57 q58 f59 f60 f64 (Nat.le_of_ble_eq_true rfl) (Nat.le_of_ble_eq_true rfl) hx18 hg_167 hg_168 hg_192 (Nat.le_of_ble_eq_true rfl) hx29 hx30 (Nat.le_of_ble_eq_true rfl) hx46 hx52 hx53 hx61 hx62 hx63 hx65 hg_183 hm12_1 hg_184 hm13_1 hg_185 hm14_1 (by omega) hm15_1 hm42_0 hm42_1) (cwV 0 hts g_EM_automaton_EM_another rfl rfl rfl (by decide +kernel) ⟨Nat.le_of_ble_eq_true rfl, Nat.le_of_ble_eq_true rfl⟩) ⟨pu_bl, va_recv hK hP (ci := 9) (q0 := 0) rfl rfl, pu_in hP hK hD⟩ rfl rfl hl.1 rfl (lv_room (Nat.le_of_ble_eq_true rfl)) dX9_automaton_232 ⟨Nat.le_of_ble_eq_true rfl, Nat.le_of_ble_eq_true rfl⟩) hS (fun q _ h => hFc q h) hFc (fun u t H1 locs ht hvm hw hB hz1 hk1 hS => ?_)
              obtain ⟨z29_206, z30_207, ⟨hP1, -, hD1⟩, hz29_206, hz30_207, xr_205_0⟩ := hB
              rw [ht] at hP1
              have hP := hP1
              have hD := pu_all hFc hD1
              clear hP1 hD1 hFc
              clear hk1 hz1 ht hvm
              generalize H1 = H at hP hS ⊢
              have hsp := hsp.trans (slet_eq xr_205_0)
              refine lv_aload_n hx hb dX9_automaton_235 rfl (lv_at hl 0 rfl) ?_
              refine va_get (D := (dC, dI)) (ci := 9) (v := .ref (ad 13)) (C := RX9) (T := TX9) (N := 67) hx hb hts hiX9 hown hK hP 0 rfl rfl 13 (by decide) v_9 (fun _ h9 => h9) rfl dX9_automaton_236 ?_
              refine lv_aload_n hx hb dX9_automaton_239 rfl (lv_at hl 0 rfl) ?_
              refine va_get (D := (dC, dI)) (ci := 9) (v := .int 0) (C := RX9) (T := TX9) (N := 67) hx hb hts hiX9 hown hK hP 0 rfl rfl 16 (by decide) v_6 (fun _ h9 => h9) rfl dX9_automaton_240 ?_
              refine va_iald hx hb hK hP 13 12 rfl rfl (vp_in_nI (n := 0) (Nat.le_of_ble_eq_true rfl) (Nat.le_of_ble_eq_true rfl)) dX9_automaton_243 ?_
              refine lv_topi (fun y_208 ey_208 => ?_)
              have qy_208 := ey_208.trans b2_0
              clear ey_208
              obtain rfl : y_208 = nI g_184 := qy_208
              exact W.iret (v := (nI g_184)) hx hb hr (fun t ht hW => ⟨⟨(nI g_184), (), rfl, (congrArg Prod.fst (hsp.symm.trans hRR)), ⟨g_172, g_181, g_182, g_173, g_174, g_175, g_176, g_177, g_178, g_179, g_180, g_183, m12_1, g_184, m13_1, g_185, m14_1, (0 + 1), m15_1, 0, 0, x18, g_166, g_167, g_168, g_169, (nI g_192), g_197, g_192, g_193, 0, z29_206, z30_207, 0, ⟨by rw [ht]; exact hP, va_K.moved hW.alike hK, hD⟩, hg_183, hm12_1, hg_184, hm13_1, hg_185, hm14_1, (by omega), hm15_1, (Nat.le_of_ble_eq_true rfl), hx18, hg_167, hg_168, hg_192, (Nat.le_of_ble_eq_true rfl), hz29_206, hz30_207, (Nat.le_of_ble_eq_true rfl), by omega, (congrArg Prod.snd (hsp.symm.trans hRR))⟩⟩, hS.F ht⟩) hS.2.2 dX9_automaton_244
            · obtain rfl : y_204 = nI vy_204 := qy_204.trans wy_204
              have hsp := hsp.trans (if_neg (by omega))
              have hsp := hsp.trans (slet_eq (by omega : vy_204 = g_186 - 1))
              refine lv_if_ge (tgt := 226) hx hb dX9_automaton_213 (by decide) (fun c_209 => ?_) (fun c_209 => ?_)
              · have c_209 : 0 ≤ vy_204 := (nI_leI (a := 0) (b := vy_204) (Nat.le_of_ble_eq_true rfl) (by omega)).mp c_209
                refine lv_aload_n hx hb dX9_automaton_226 rfl (lv_at hl 0 rfl) ?_
                refine lv_iconst (v := 0) hx hb dX9_automaton_227 (by decide) ?_
                refine va_put (D := (dC, dI)) (ci := 9) (v := .int 0) (ty := .int) (C := RX9) (T := TX9) (N := 67) hx hb hts hiX9 tyX9 tyX9_ok nmX9 hown hK hP hD hS 0 rfl rfl 33 (by decide) v_37 (fun _ h9 => h9) rfl (by decide +kernel) rfl rfl (Nat.le_of_ble_eq_true rfl) dX9_automaton_228 (fun H locs hP hD hS => ?_)
                have hP : va_P (dC, dI) vwCl (mo_w ad ck 0 0 0 (nI x18) g_166 (nI g_167) (nI g_168) g_169 (nI g_192) g_197 (nI g_192) g_193 0 (nI x29) (nI x30) 0 x45 (nI x46) (nI x52) (nI x53) (nI x61) (nI x62) (nI x63) (nI x65) x66 g_172 g_173 g_174 (bN 3 g_175) (bN 7 g_176) (bN 7 g_177) (bN 4 g_178) g_179 (bN 2 g_180) (bH g_181) g_182 (b2 g_183 m12_1) (b2 g_184 m13_1) (b2 g_185 m14_1) (b2m g_186 m15_1) f17 (bA 159 q31) f32 f34 f35 f36 f37 (bN 7 q38) f39 f40 f41 (b2 m42_0 m42_1) f43 f44 f47 f48 f49 f50 f51 (bN 13 q54) (bN 120 q55) (bN 120 q56) f57 (bN 120 q58) f59 f60 f64) H := hP
                have hD : va_D A (mo_w ad ck 0 0 0 (nI x18) g_166 (nI g_167) (nI g_168) g_169 (nI g_192) g_197 (nI g_192) g_193 0 (nI x29) (nI x30) 0 x45 (nI x46) (nI x52) (nI x53) (nI x61) (nI x62) (nI x63) (nI x65) x66 g_172 g_173 g_174 (bN 3 g_175) (bN 7 g_176) (bN 7 g_177) (bN 4 g_178) g_179 (bN 2 g_180) (bH g_181) g_182 (b2 g_183 m12_1) (b2 g_184 m13_1) (b2 g_185 m14_1) (b2m g_186 m15_1) f17 (bA 159 q31) f32 f34 f35 f36 f37 (bN 7 q38) f39 f40 f41 (b2 m42_0 m42_1) f43 f44 f47 f48 f49 f50 f51 (bN 13 q54) (bN 120 q55) (bN 120 q56) f57 (bN 120 q58) f59 f60 f64) := hD
                refine lv_aload_n hx hb dX9_automaton_231 rfl (lv_at hl 0 rfl) ?_
                have hFc := pu_free hD hS hA
                refine va_callv (va_runV (As := []) (rest := []) ⟨hx, hb, hml, hown, hts⟩ (c_EM_another l dC dI _ ad ck 0 0 0 x18 g_166 g_167 g_168 g_169 (nI g_192) g_197 g_192 g_193 0 x29 x30 0 x45 x46 x52 x53 x61 x62 x63 x65 x66 g_172 g_173 g_174 g_175 g_176 g_177 g_178 g_179 g_180 g_181 g_182 g_183 m12_1 g_184 m13_1 g_185 m14_1 g_186 m15_1 f17 q31 f32 f34 f35 f36 f37 q38 f39 f40 f41 m42_0 m42_1 f43 f44 f47 f48 f49 f50 f51 q54 q55 q56 f57 q58 f59 f60 f64 (Nat.le_of_ble_eq_true rfl) (Nat.le_of_ble_eq_true rfl) hx18 hg_167 hg_168 hg_192 (Nat.le_of_ble_eq_true rfl) hx29 hx30 (Nat.le_of_ble_eq_true rfl) hx46 hx52 hx53 hx61 hx62 hx63 hx65 hg_183 hm12_1 hg_184 hm13_1 hg_185 hm14_1 hg_186 hm15_1 hm42_0 hm42_1) (cwV 0 hts g_EM_automaton_EM_another rfl rfl rfl (by decide +kernel) ⟨Nat.le_of_ble_eq_true rfl, Nat.le_of_ble_eq_true rfl⟩) ⟨pu_bl, va_recv hK hP (ci := 9) (q0 := 0) rfl rfl, pu_in hP hK hD⟩ rfl rfl hl.1 rfl (lv_room (Nat.le_of_ble_eq_true rfl)) dX9_automaton_232 ⟨Nat.le_of_ble_eq_true rfl, Nat.le_of_ble_eq_true rfl⟩) hS (fun q _ h => hFc q h) hFc (fun u t H1 locs ht hvm hw hB hz1 hk1 hS => ?_)
                obtain ⟨z29_211, z30_212, ⟨hP1, -, hD1⟩, hz29_211, hz30_212, xr_210_0⟩ := hB
                rw [ht] at hP1
                have hP := hP1
                have hD := pu_all hFc hD1
                clear hP1 hD1 hFc
                clear hk1 hz1 ht hvm
                generalize H1 = H at hP hS ⊢
                have hsp := hsp.trans (slet_eq xr_210_0)
                refine lv_aload_n hx hb dX9_automaton_235 rfl (lv_at hl 0 rfl) ?_
                refine va_get (D := (dC, dI)) (ci := 9) (v := .ref (ad 13)) (C := RX9) (T := TX9) (N := 67) hx hb hts hiX9 hown hK hP 0 rfl rfl 13 (by decide) v_9 (fun _ h9 => h9) rfl dX9_automaton_236 ?_
                refine lv_aload_n hx hb dX9_automaton_239 rfl (lv_at hl 0 rfl) ?_
                refine va_get (D := (dC, dI)) (ci := 9) (v := .int 0) (C := RX9) (T := TX9) (N := 67) hx hb hts hiX9 hown hK hP 0 rfl rfl 16 (by decide) v_6 (fun _ h9 => h9) rfl dX9_automaton_240 ?_
                refine va_iald hx hb hK hP 13 12 rfl rfl (vp_in_nI (n := 0) (Nat.le_of_ble_eq_true rfl) (Nat.le_of_ble_eq_true rfl)) dX9_automaton_243 ?_
                refine lv_topi (fun y_213 ey_213 => ?_)
                have qy_213 := ey_213.trans b2_0
                clear ey_213
                obtain rfl : y_213 = nI g_184 := qy_213
                exact W.iret (v := (nI g_184)) hx hb hr (fun t ht hW => ⟨⟨(nI g_184), (), rfl, (congrArg Prod.fst (hsp.symm.trans hRR)), ⟨g_172, g_181, g_182, g_173, g_174, g_175, g_176, g_177, g_178, g_179, g_180, g_183, m12_1, g_184, m13_1, g_185, m14_1, g_186, m15_1, 0, 0, x18, g_166, g_167, g_168, g_169, (nI g_192), g_197, g_192, g_193, 0, z29_211, z30_212, 0, ⟨by rw [ht]; exact hP, va_K.moved hW.alike hK, hD⟩, hg_183, hm12_1, hg_184, hm13_1, hg_185, hm14_1, hg_186, hm15_1, (Nat.le_of_ble_eq_true rfl), hx18, hg_167, hg_168, hg_192, (Nat.le_of_ble_eq_true rfl), hz29_211, hz30_212, (Nat.le_of_ble_eq_true rfl), by omega, (congrArg Prod.snd (hsp.symm.trans hRR))⟩⟩, hS.F ht⟩) hS.2.2 dX9_automaton_244
              · have c_209 : ¬ 0 ≤ vy_204 := fun z => c_209 ((nI_leI (a := 0) (b := vy_204) (Nat.le_of_ble_eq_true rfl) (by omega)).mpr z)
                exfalso
                omega
          · have c_203 : u_202 = 0 := (nI_eq (a := u_202) (b := 0) (Nat.lt_of_le_of_lt hu_202 (Nat.le_of_ble_eq_true rfl)) (Nat.le_of_ble_eq_true rfl)).mp c_203
            have hsp := hsp.trans (if_pos c_203)
            refine lv_iconst (v := (-1)) hx hb dX9_automaton_194 (by decide) ?_
            exact W.iret (v := (-1)) hx hb hr (fun t ht hW => ⟨⟨(-1), (), rfl, (congrArg Prod.fst (hsp.symm.trans hRR)), ⟨g_172, g_181, g_182, g_173, g_174, g_175, g_176, g_177, g_178, g_179, g_180, g_183, m12_1, g_184, m13_1, g_185, m14_1, g_186, m15_1, 0, 1, x18, g_166, g_167, g_168, g_169, (nI g_192), g_197, g_192, g_193, 0, x29, x30, x33, ⟨by rw [ht]; exact hP, va_K.moved hW.alike hK, hD⟩, hg_183, hm12_1, hg_184, hm13_1, hg_185, hm14_1, hg_186, hm15_1, (Nat.le_of_ble_eq_true rfl), hx18, hg_167, hg_168, hg_192, (Nat.le_of_ble_eq_true rfl), hx29, hx30, hx33, by omega, (congrArg Prod.snd (hsp.symm.trans hRR))⟩⟩, hS.F ht⟩) hS.2.2 dX9_automaton_195
        have hsp := hJR_199
        refine lv_if_ne (tgt := 180) hx hb dX9_automaton_173 (by decide) (fun c_214 => ?_) (fun c_214 => ?_)
        · have c_214 : ¬ g_192 = 0 := fun z => c_214 ((nI_eq (a := g_192) (b := 0) (Nat.lt_of_le_of_lt hg_192 (Nat.le_of_ble_eq_true rfl)) (Nat.le_of_ble_eq_true rfl)).mpr z)
          have hsp := hsp.trans (if_neg c_214)
          refine lv_aload_n hx hb dX9_automaton_180 rfl (lv_at hl 0 rfl) ?_
          refine va_get (D := (dC, dI)) (ci := 9) (v := .int g_193) (C := RX9) (T := TX9) (N := 67) hx hb hts hiX9 hown hK hP 0 rfl rfl 27 (by decide) v_35 (fun _ h9 => h9) rfl dX9_automaton_181 ?_
          exact j_198 _ _ _ _ ⟨g_193, rfl, hsp.symm, hP, hD, hS, lv_sub hl [0] rfl⟩
        · have c_214 : g_192 = 0 := (nI_eq (a := g_192) (b := 0) (Nat.lt_of_le_of_lt hg_192 (Nat.le_of_ble_eq_true rfl)) (Nat.le_of_ble_eq_true rfl)).mp c_214
          have hsp := hsp.trans (if_pos c_214)
          refine lv_iconst (v := (-1)) hx hb dX9_automaton_176 (by decide) ?_
          refine lv_goto (tgt := 184) hx hb dX9_automaton_177 (by decide) ?_
          exact j_198 _ _ _ _ ⟨(-1), rfl, hsp.symm, hP, hD, hS, lv_sub hl [0] rfl⟩
      have hsp := hJR_195
      refine lv_if_eq (tgt := 160) hx hb dX9_automaton_139 (by decide) (fun c_215 => ?_) (fun c_215 => ?_)
      · have c_215 : u_191 = 0 := (nI_eq (a := u_191) (b := 0) (Nat.lt_of_le_of_lt hu_191 (Nat.le_of_ble_eq_true rfl)) (Nat.le_of_ble_eq_true rfl)).mp c_215
        have hsp := hsp.trans (if_pos c_215)
        exact j_194 _ _ _ _ ⟨g_170, g_171, rfl, hg_170, hsp.symm, hP, hD, hS, lv_sub hl [0] rfl⟩
      · have c_215 : ¬ u_191 = 0 := fun z => c_215 ((nI_eq (a := u_191) (b := 0) (Nat.lt_of_le_of_lt hu_191 (Nat.le_of_ble_eq_true rfl)) (Nat.le_of_ble_eq_true rfl)).mpr z)
        have hsp := hsp.trans (if_neg c_215)
        refine lv_aload_n hx hb dX9_automaton_142 rfl (lv_at hl 0 rfl) ?_
        refine va_get (D := (dC, dI)) (ci := 9) (v := .ref (ad 13)) (C := RX9) (T := TX9) (N := 67) hx hb hts hiX9 hown hK hP 0 rfl rfl 13 (by decide) v_9 (fun _ h9 => h9) rfl dX9_automaton_143 ?_
        refine lv_aload_n hx hb dX9_automaton_146 rfl (lv_at hl 0 rfl) ?_
        refine va_get (D := (dC, dI)) (ci := 9) (v := .int 0) (C := RX9) (T := TX9) (N := 67) hx hb hts hiX9 hown hK hP 0 rfl rfl 28 (by decide) v_7 (fun _ h9 => h9) rfl dX9_automaton_147 ?_
        refine va_iald hx hb hK hP 13 12 rfl rfl (vp_in_nI (n := 0) (Nat.le_of_ble_eq_true rfl) (Nat.le_of_ble_eq_true rfl)) dX9_automaton_150 ?_
        refine lv_topi (fun y_216 ey_216 => ?_)
        have qy_216 := ey_216.trans b2_0
        clear ey_216
        obtain rfl : y_216 = nI g_184 := qy_216
        refine lv_if_ne (tgt := 160) hx hb dX9_automaton_151 (by decide) (fun c_217 => ?_) (fun c_217 => ?_)
        · have c_217 : ¬ g_184 = 0 := fun z => c_217 ((nI_eq (a := g_184) (b := 0) (Nat.lt_of_le_of_lt hg_184 (Nat.le_of_ble_eq_true rfl)) (Nat.le_of_ble_eq_true rfl)).mpr z)
          have hsp := hsp.trans (if_neg c_217)
          exact j_194 _ _ _ _ ⟨g_170, g_171, rfl, hg_170, hsp.symm, hP, hD, hS, lv_sub hl [0] rfl⟩
        · have c_217 : g_184 = 0 := (nI_eq (a := g_184) (b := 0) (Nat.lt_of_le_of_lt hg_184 (Nat.le_of_ble_eq_true rfl)) (Nat.le_of_ble_eq_true rfl)).mp c_217
          have hsp := hsp.trans (if_pos c_217)
          refine lv_aload_n hx hb dX9_automaton_154 rfl (lv_at hl 0 rfl) ?_
          refine lv_bipush (v := 6) hx hb dX9_automaton_155 (by decide) ?_
          have hFc := pu_free hD hS hA
          refine va_callv (va_runV (As := [.int 6]) (rest := []) ⟨hx, hb, hml, hown, hts⟩ (c_EM_fails l dC dI _ ad ck 0 1 0 x18 g_166 g_167 g_168 g_169 x24 x25 g_170 g_171 0 x29 x30 x33 x45 x46 x52 x53 x61 x62 x63 x65 x66 g_172 g_173 g_174 g_175 g_176 g_177 g_178 g_179 g_180 g_181 g_182 g_183 m12_1 g_184 m13_1 g_185 m14_1 g_186 m15_1 f17 q31 f32 f34 f35 f36 f37 q38 f39 f40 f41 m42_0 m42_1 f43 f44 f47 f48 f49 f50 f51 q54 q55 q56 f57 q58 f59 f60 f64 6 (Nat.le_of_ble_eq_true rfl) (Nat.le_of_ble_eq_true rfl) hx18 hg_167 hg_168 hg_170 (Nat.le_of_ble_eq_true rfl) hx29 hx30 hx33 hx46 hx52 hx53 hx61 hx62 hx63 hx65 hg_183 hm12_1 hg_184 hm13_1 hg_185 hm14_1 hg_186 hm15_1 hm42_0 hm42_1 (Nat.le_of_ble_eq_true rfl) (by omega)) (cwV 1 hts g_EM_automaton_EM_fails rfl rfl rfl (by decide +kernel) ⟨Nat.le_of_ble_eq_true rfl, Nat.le_of_ble_eq_true rfl⟩) ⟨pu_bl, va_recv hK hP (ci := 9) (q0 := 0) rfl rfl, pu_in hP hK hD⟩ rfl rfl hl.1 rfl (lv_room (Nat.le_of_ble_eq_true rfl)) dX9_automaton_157 ⟨Nat.le_of_ble_eq_true rfl, Nat.le_of_ble_eq_true rfl⟩) hS (fun q _ h => hFc q h) hFc (fun u t H1 locs ht hvm hw hB hz1 hk1 hS => ?_)
          obtain ⟨z26_219, z27_220, ⟨hP1, -, hD1⟩, hz26_219, xr_218_0, xr_218_1⟩ := hB
          rw [ht] at hP1
          have hP := hP1
          have hD := pu_all hFc hD1
          clear hP1 hD1 hFc
          clear hk1 hz1 ht hvm
          generalize H1 = H at hP hS ⊢
          have hsp := hsp.trans (slet_eq xr_218_1)
          exact j_194 _ _ _ _ ⟨z26_219, z27_220, rfl, hz26_219, hsp.symm, hP, hD, hS, lv_sub hl [0] rfl⟩
    have hsp := hJR_188
    obtain ⟨lf_264, dlf_264, hlf_264, hsp⟩ := itr_ex hsp
    delta sp_EM_automaton_L2 at hlf_264
    refine pu_while (fun nn H locs ls => ∃ (g_242 : Nat → Int32) (g_243 : Nat → Nat) (g_244 : Nat → Int32) (g_245 : Nat → Int32) (g_246 : Nat → Int32) (g_247 : Nat → Nat) (g_248 : Nat → Nat) (g_249 : Nat → Nat) (g_250 : Nat → Nat) (g_251 : Nat → Int32) (g_252 : Nat → Nat) (g_253 : Nat) (g_254 : Nat) (g_255 : Nat) (g_256 : Nat) (g_257 : Int32) (g_258 : Nat) (g_259 : Nat) (g_260 : Int32) (g_261 : Nat) (g_262 : Int32), nn = 2 * mu g_258 g_259 + (1 - g_261) ∧ g_253 ≤ 3 ∧ g_254 ≤ 8 ∧ g_255 ≤ 14 ∧ g_256 ≤ 8 ∧ g_258 ≤ 900 ∧ g_259 ≤ 4 ∧ g_261 ≤ 6 ∧ JR_188 = itrv dlf_264 lf_264 (g_242, g_243, g_244, g_245, g_246, g_247, g_248, g_249, g_250, g_251, g_252, g_253, g_254, g_255, g_256, g_257, g_258, g_259, g_260, g_261, g_262) ∧ va_P (dC, dI) vwCl (mo_w ad ck 0 1 0 (nI x18) g_257 (nI g_258) (nI g_259) g_260 x24 x25 (nI g_261) g_262 0 (nI x29) (nI x30) (nI x33) x45 (nI x46) (nI x52) (nI x53) (nI x61) (nI x62) (nI x63) (nI x65) x66 g_242 g_245 g_246 (bN 3 g_247) (bN 7 g_248) (bN 7 g_249) (bN 4 g_250) g_251 (bN 2 g_252) (bH g_243) g_244 (b2 g_253 m12_1) (b2 g_254 m13_1) (b2 g_255 m14_1) (b2m g_256 m15_1) f17 (bA 159 q31) f32 f34 f35 f36 f37 (bN 7 q38) f39 f40 f41 (b2 m42_0 m42_1) f43 f44 f47 f48 f49 f50 f51 (bN 13 q54) (bN 120 q55) (bN 120 q56) f57 (bN 120 q58) f59 f60 f64) H ∧ va_D A (mo_w ad ck 0 1 0 (nI x18) g_257 (nI g_258) (nI g_259) g_260 x24 x25 (nI g_261) g_262 0 (nI x29) (nI x30) (nI x33) x45 (nI x46) (nI x52) (nI x53) (nI x61) (nI x62) (nI x63) (nI x65) x66 g_242 g_245 g_246 (bN 3 g_247) (bN 7 g_248) (bN 7 g_249) (bN 4 g_250) g_251 (bN 2 g_252) (bH g_243) g_244 (b2 g_253 m12_1) (b2 g_254 m13_1) (b2 g_255 m14_1) (b2m g_256 m15_1) f17 (bA 159 q31) f32 f34 f35 f36 f37 (bN 7 q38) f39 f40 f41 (b2 m42_0 m42_1) f43 f44 f47 f48 f49 f50 f51 (bN 13 q54) (bN 120 q55) (bN 120 q56) f57 (bN 120 q58) f59 f60 f64) ∧ va_S A s.heap H locs ∧ lv_has ls 1 [(0, .ref (ad 0))]) 82 ?_ _ _ _ _ ⟨f1, q10, f11, f2, f3, q4, q5, q6, q7, f8, q9, 0, 0, 0, 0, z20_162, z21_163, z22_164, z23_165, 0, x27, rfl, (Nat.le_of_ble_eq_true rfl), (Nat.le_of_ble_eq_true rfl), (Nat.le_of_ble_eq_true rfl), (Nat.le_of_ble_eq_true rfl), hz21_163, hz22_164, (Nat.le_of_ble_eq_true rfl), hsp, hP, hD, hS, lv_sub hl [0] rfl⟩
    rintro nn ih_263 H locs ls ⟨g_242, g_243, g_244, g_245, g_246, g_247, g_248, g_249, g_250, g_251, g_252, g_253, g_254, g_255, g_256, g_257, g_258, g_259, g_260, g_261, g_262, rfl, hg_253, hg_254, hg_255, hg_256, hg_258, hg_259, hg_261, he_266, hP, hD, hS, hl⟩
    obtain ⟨S_265, hsp, hin_267, hout_268⟩ := itr_step hlf_264 he_266
    refine lv_aload_n hx hb dX9_automaton_82 rfl (lv_at hl 0 rfl) ?_
    refine va_calli (va_runV (As := []) (rest := []) ⟨hx, hb, hml, hown, hts⟩ (c_EM_isGood l dC dI _ ad ck 0 1 0 x18 g_257 g_258 g_259 g_260 x24 x25 g_261 g_262 0 x29 x30 x33 x45 x46 x52 x53 x61 x62 x63 x65 x66 g_242 g_245 g_246 g_247 g_248 g_249 g_250 g_251 g_252 g_243 g_244 g_253 m12_1 g_254 m13_1 g_255 m14_1 g_256 m15_1 f17 q31 f32 f34 f35 f36 f37 q38 f39 f40 f41 m42_0 m42_1 f43 f44 f47 f48 f49 f50 f51 q54 q55 q56 f57 q58 f59 f60 f64 (Nat.le_of_ble_eq_true rfl) (Nat.le_of_ble_eq_true rfl) hx18 hg_258 hg_259 hg_261 (Nat.le_of_ble_eq_true rfl) hx29 hx30 hx33 hx46 hx52 hx53 hx61 hx62 hx63 hx65 hg_253 hm12_1 hg_254 hm13_1 hg_255 hm14_1 hg_256 hm15_1 hm42_0 hm42_1) (cwV 0 hts g_EM_automaton_EM_isGood rfl rfl rfl (by decide +kernel) ⟨Nat.le_of_ble_eq_true rfl, Nat.le_of_ble_eq_true rfl⟩) ⟨pu_bl, va_recv hK hP (ci := 9) (q0 := 0) rfl rfl, pu_in hP hK hD⟩ rfl rfl hl.1 rfl (lv_room (Nat.le_of_ble_eq_true rfl)) dX9_automaton_83 ⟨Nat.le_of_ble_eq_true rfl, Nat.le_of_ble_eq_true rfl⟩) hS (fun q _ h => pu_fr hS hA q h) (pu_fr hS hA) (fun r_269 u t H1 locs ht hvm hw hB hz1 hk1 hS => ?_)
    have hP := pu_keep hP hk1
    clear hk1 hz1 ht hvm
    generalize H1 = H at hP hS ⊢
    obtain ⟨u_270, hu_270, rfl, ju_270, iu_270⟩ := hw
    have hsp := hsp.trans (slet_eq iu_270)
    refine lv_if_eq (tgt := 135) hx hb dX9_automaton_86 (by decide) (fun c_271 => ?_) (fun c_271 => ?_)
    · have c_271 : u_270 = 0 := (nI_eq (a := u_270) (b := 0) (Nat.lt_of_le_of_lt hu_270 (Nat.le_of_ble_eq_true rfl)) (Nat.le_of_ble_eq_true rfl)).mp c_271
      have hsp := hsp.trans (if_pos c_271)
      have hsp := hout_268 _ hsp
      exact j_187 _ _ _ _ ⟨g_257, g_258, g_259, g_260, g_261, g_262, g_242, g_245, g_246, g_247, g_248, g_249, g_250, g_251, g_252, g_243, g_244, g_253, g_254, g_255, g_256, rfl, hg_258, hg_259, hg_261, hg_253, hg_254, hg_255, hg_256, hsp.symm, hP, hD, hS, lv_sub hl [0] rfl⟩
    · have c_271 : ¬ u_270 = 0 := fun z => c_271 ((nI_eq (a := u_270) (b := 0) (Nat.lt_of_le_of_lt hu_270 (Nat.le_of_ble_eq_true rfl)) (Nat.le_of_ble_eq_true rfl)).mpr z)
      have hsp := hsp.trans (if_neg c_271)
      refine lv_aload_n hx hb dX9_automaton_89 rfl (lv_at hl 0 rfl) ?_
      refine va_get (D := (dC, dI)) (ci := 9) (v := .int (nI g_259)) (C := RX9) (T := TX9) (N := 67) hx hb hts hiX9 hown hK hP 0 rfl rfl 22 (by decide) v_21 (fun _ h9 => h9) rfl dX9_automaton_90 ?_
      refine lv_if_eq (tgt := 135) hx hb dX9_automaton_93 (by decide) (fun c_272 => ?_) (fun c_272 => ?_)
      · have c_272 : g_259 = 0 := (nI_eq (a := g_259) (b := 0) (Nat.lt_of_le_of_lt hg_259 (Nat.le_of_ble_eq_true rfl)) (Nat.le_of_ble_eq_true rfl)).mp c_272
        have hsp := hsp.trans (if_pos c_272)
        have hsp := hout_268 _ hsp
        exact j_187 _ _ _ _ ⟨g_257, g_258, g_259, g_260, g_261, g_262, g_242, g_245, g_246, g_247, g_248, g_249, g_250, g_251, g_252, g_243, g_244, g_253, g_254, g_255, g_256, rfl, hg_258, hg_259, hg_261, hg_253, hg_254, hg_255, hg_256, hsp.symm, hP, hD, hS, lv_sub hl [0] rfl⟩
      · have c_272 : ¬ g_259 = 0 := fun z => c_272 ((nI_eq (a := g_259) (b := 0) (Nat.lt_of_le_of_lt hg_259 (Nat.le_of_ble_eq_true rfl)) (Nat.le_of_ble_eq_true rfl)).mpr z)
        have hsp := hsp.trans (if_neg c_272)
        refine lv_aload_n hx hb dX9_automaton_96 rfl (lv_at hl 0 rfl) ?_
        have hFc := pu_free hD hS hA
        refine va_callv (va_runV (As := []) (rest := []) ⟨hx, hb, hml, hown, hts⟩ (c_EM_readLine_0 l dC dI _ ad ck 0 1 0 x18 g_257 g_258 g_259 g_260 x24 x25 g_261 g_262 x29 x30 x33 x45 x46 x52 x53 x61 x62 x63 x65 x66 g_242 g_245 g_246 g_247 g_248 g_249 g_250 g_251 g_252 g_243 g_244 g_253 m12_1 g_254 m13_1 g_255 m14_1 g_256 m15_1 f17 q31 f32 f34 f35 f36 f37 q38 f39 f40 f41 m42_0 m42_1 f43 f44 f47 f48 f49 f50 f51 q54 q55 q56 f57 q58 f59 f60 f64 (Nat.le_of_ble_eq_true rfl) (Nat.le_of_ble_eq_true rfl) hx18 hg_258 hg_259 hg_261 hx29 hx30 hx33 hx46 hx52 hx53 hx61 hx62 hx63 hx65 hg_253 hm12_1 hg_254 hm13_1 hg_255 hm14_1 hg_256 hm15_1 hm42_0 hm42_1) (cwV 0 hts g_EM_automaton_EM_readLine_0 rfl rfl rfl (by decide +kernel) ⟨Nat.le_of_ble_eq_true rfl, Nat.le_of_ble_eq_true rfl⟩) ⟨pu_bl, va_recv hK hP (ci := 9) (q0 := 0) rfl rfl, pu_in hP hK hD⟩ rfl rfl hl.1 rfl (lv_room (Nat.le_of_ble_eq_true rfl)) dX9_automaton_97 ⟨Nat.le_of_ble_eq_true rfl, Nat.le_of_ble_eq_true rfl⟩) hS (fun q _ h => hFc q h) hFc (fun u t H1 locs ht hvm hw hB hz1 hk1 hS => ?_)
        obtain ⟨z1_274, z10_275, z11_276, z2_277, z3_278, z4_279, z5_280, z6_281, z7_282, z8_283, z9_284, z12_0_285, z13_0_286, z14_0_287, z15_0_288, z20_289, z21_290, z22_291, z23_292, z26_293, z27_294, ⟨hP1, -, hD1⟩, hz12_0_285, hz13_0_286, hz14_0_287, hz15_0_288, hz21_290, hz22_291, hz26_293, xr_273_0, xr_273_1, xr_273_2⟩ := hB
        rw [ht] at hP1
        have hP := hP1
        have hD := pu_all hFc hD1
        clear hP1 hD1 hFc
        clear hk1 hz1 ht hvm
        generalize H1 = H at hP hS ⊢
        have hsp := hsp.trans (slet_eq xr_273_2)
        refine lv_aload_n hx hb dX9_automaton_100 rfl (lv_at hl 0 rfl) ?_
        refine va_calli (va_runV (As := []) (rest := []) ⟨hx, hb, hml, hown, hts⟩ (c_EM_isGood l dC dI _ ad ck 0 1 0 x18 z20_289 z21_290 z22_291 z23_292 x24 x25 z26_293 z27_294 0 x29 x30 x33 x45 x46 x52 x53 x61 x62 x63 x65 x66 z1_274 z2_277 z3_278 z4_279 z5_280 z6_281 z7_282 z8_283 z9_284 z10_275 z11_276 z12_0_285 m12_1 z13_0_286 m13_1 z14_0_287 m14_1 z15_0_288 m15_1 f17 q31 f32 f34 f35 f36 f37 q38 f39 f40 f41 m42_0 m42_1 f43 f44 f47 f48 f49 f50 f51 q54 q55 q56 f57 q58 f59 f60 f64 (Nat.le_of_ble_eq_true rfl) (Nat.le_of_ble_eq_true rfl) hx18 hz21_290 hz22_291 hz26_293 (Nat.le_of_ble_eq_true rfl) hx29 hx30 hx33 hx46 hx52 hx53 hx61 hx62 hx63 hx65 hz12_0_285 hm12_1 hz13_0_286 hm13_1 hz14_0_287 hm14_1 hz15_0_288 hm15_1 hm42_0 hm42_1) (cwV 0 hts g_EM_automaton_EM_isGood rfl rfl rfl (by decide +kernel) ⟨Nat.le_of_ble_eq_true rfl, Nat.le_of_ble_eq_true rfl⟩) ⟨pu_bl, va_recv hK hP (ci := 9) (q0 := 0) rfl rfl, pu_in hP hK hD⟩ rfl rfl hl.1 rfl (lv_room (Nat.le_of_ble_eq_true rfl)) dX9_automaton_101 ⟨Nat.le_of_ble_eq_true rfl, Nat.le_of_ble_eq_true rfl⟩) hS (fun q _ h => pu_fr hS hA q h) (pu_fr hS hA) (fun r_295 u t H1 locs ht hvm hw hB hz1 hk1 hS => ?_)
        have hP := pu_keep hP hk1
        clear hk1 hz1 ht hvm
        generalize H1 = H at hP hS ⊢
        obtain ⟨u_296, hu_296, rfl, ju_296, iu_296⟩ := hw
        have hsp := hsp.trans (slet_eq iu_296)
        obtain ⟨JR_302, hJR_302, hsp⟩ := slet_ex hsp
        refine pu_join (fun H locs ls st => ∃ (g_297 : Nat) (g_298 : Int32), st = [] ∧ g_297 ≤ 6 ∧ (g_297 ≠ 0 ∨ mu z21_290 z22_291 < mu g_258 g_259) ∧ mu z21_290 z22_291 ≤ mu g_258 g_259 ∧ (g_297, g_298) = JR_302 ∧ va_P (dC, dI) vwCl (mo_w ad ck 0 1 0 (nI x18) z20_289 (nI z21_290) (nI z22_291) z23_292 x24 x25 (nI g_297) g_298 0 (nI x29) (nI x30) (nI x33) x45 (nI x46) (nI x52) (nI x53) (nI x61) (nI x62) (nI x63) (nI x65) x66 z1_274 z2_277 z3_278 (bN 3 z4_279) (bN 7 z5_280) (bN 7 z6_281) (bN 4 z7_282) z8_283 (bN 2 z9_284) (bH z10_275) z11_276 (b2 z12_0_285 m12_1) (b2 z13_0_286 m13_1) (b2 z14_0_287 m14_1) (b2m z15_0_288 m15_1) f17 (bA 159 q31) f32 f34 f35 f36 f37 (bN 7 q38) f39 f40 f41 (b2 m42_0 m42_1) f43 f44 f47 f48 f49 f50 f51 (bN 13 q54) (bN 120 q55) (bN 120 q56) f57 (bN 120 q58) f59 f60 f64) H ∧ va_D A (mo_w ad ck 0 1 0 (nI x18) z20_289 (nI z21_290) (nI z22_291) z23_292 x24 x25 (nI g_297) g_298 0 (nI x29) (nI x30) (nI x33) x45 (nI x46) (nI x52) (nI x53) (nI x61) (nI x62) (nI x63) (nI x65) x66 z1_274 z2_277 z3_278 (bN 3 z4_279) (bN 7 z5_280) (bN 7 z6_281) (bN 4 z7_282) z8_283 (bN 2 z9_284) (bH z10_275) z11_276 (b2 z12_0_285 m12_1) (b2 z13_0_286 m13_1) (b2 z14_0_287 m14_1) (b2m z15_0_288 m15_1) f17 (bA 159 q31) f32 f34 f35 f36 f37 (bN 7 q38) f39 f40 f41 (b2 m42_0 m42_1) f43 f44 f47 f48 f49 f50 f51 (bN 13 q54) (bN 120 q55) (bN 120 q56) f57 (bN 120 q58) f59 f60 f64) ∧ va_S A s.heap H locs ∧ lv_has ls 1 [(0, .ref (ad 0))]) 121 ?_ (fun j_301 => ?_)
        · rintro H locs ls st ⟨g_297, g_298, rfl, hg_297, he_299, he_300, he_303, hP, hD, hS, hl⟩
          rw [← he_303] at hsp
          refine lv_aload_n hx hb dX9_automaton_121 rfl (lv_at hl 0 rfl) ?_
          refine va_calli (va_runV (As := []) (rest := []) ⟨hx, hb, hml, hown, hts⟩ (c_EM_isGood l dC dI _ ad ck 0 1 0 x18 z20_289 z21_290 z22_291 z23_292 x24 x25 g_297 g_298 0 x29 x30 x33 x45 x46 x52 x53 x61 x62 x63 x65 x66 z1_274 z2_277 z3_278 z4_279 z5_280 z6_281 z7_282 z8_283 z9_284 z10_275 z11_276 z12_0_285 m12_1 z13_0_286 m13_1 z14_0_287 m14_1 z15_0_288 m15_1 f17 q31 f32 f34 f35 f36 f37 q38 f39 f40 f41 m42_0 m42_1 f43 f44 f47 f48 f49 f50 f51 q54 q55 q56 f57 q58 f59 f60 f64 (Nat.le_of_ble_eq_true rfl) (Nat.le_of_ble_eq_true rfl) hx18 hz21_290 hz22_291 hg_297 (Nat.le_of_ble_eq_true rfl) hx29 hx30 hx33 hx46 hx52 hx53 hx61 hx62 hx63 hx65 hz12_0_285 hm12_1 hz13_0_286 hm13_1 hz14_0_287 hm14_1 hz15_0_288 hm15_1 hm42_0 hm42_1) (cwV 0 hts g_EM_automaton_EM_isGood rfl rfl rfl (by decide +kernel) ⟨Nat.le_of_ble_eq_true rfl, Nat.le_of_ble_eq_true rfl⟩) ⟨pu_bl, va_recv hK hP (ci := 9) (q0 := 0) rfl rfl, pu_in hP hK hD⟩ rfl rfl hl.1 rfl (lv_room (Nat.le_of_ble_eq_true rfl)) dX9_automaton_122 ⟨Nat.le_of_ble_eq_true rfl, Nat.le_of_ble_eq_true rfl⟩) hS (fun q _ h => pu_fr hS hA q h) (pu_fr hS hA) (fun r_304 u t H1 locs ht hvm hw hB hz1 hk1 hS => ?_)
          have hP := pu_keep hP hk1
          clear hk1 hz1 ht hvm
          generalize H1 = H at hP hS ⊢
          obtain ⟨u_305, hu_305, rfl, ju_305, iu_305⟩ := hw
          have hsp := hsp.trans (slet_eq iu_305)
          refine lv_if_eq (tgt := 82) hx hb dX9_automaton_125 (by decide) (fun c_306 => ?_) (fun c_306 => ?_)
          · have c_306 : u_305 = 0 := (nI_eq (a := u_305) (b := 0) (Nat.lt_of_le_of_lt hu_305 (Nat.le_of_ble_eq_true rfl)) (Nat.le_of_ble_eq_true rfl)).mp c_306
            have hsp := hsp.trans (if_pos c_306)
            exact ih_263 (2 * mu z21_290 z22_291 + (1 - g_297)) (by omega) _ _ _ ⟨z1_274, z10_275, z11_276, z2_277, z3_278, z4_279, z5_280, z6_281, z7_282, z8_283, z9_284, z12_0_285, z13_0_286, z14_0_287, z15_0_288, z20_289, z21_290, z22_291, z23_292, g_297, g_298, rfl, hz12_0_285, hz13_0_286, hz14_0_287, hz15_0_288, hz21_290, hz22_291, hg_297, hin_267 _ hsp, hP, hD, hS, lv_sub hl [0] rfl⟩
          · have c_306 : ¬ u_305 = 0 := fun z => c_306 ((nI_eq (a := u_305) (b := 0) (Nat.lt_of_le_of_lt hu_305 (Nat.le_of_ble_eq_true rfl)) (Nat.le_of_ble_eq_true rfl)).mpr z)
            have hsp := hsp.trans (if_neg c_306)
            refine lv_aload_n hx hb dX9_automaton_128 rfl (lv_at hl 0 rfl) ?_
            have hFc := pu_free hD hS hA
            refine va_callv (va_runV (As := []) (rest := []) ⟨hx, hb, hml, hown, hts⟩ (c_EM_next l dC dI _ ad ck 0 1 0 x18 z20_289 z21_290 z22_291 z23_292 x24 x25 g_297 g_298 0 x29 x30 x33 x45 x46 x52 x53 x61 x62 x63 x65 x66 z1_274 z2_277 z3_278 z4_279 z5_280 z6_281 z7_282 z8_283 z9_284 z10_275 z11_276 z12_0_285 m12_1 z13_0_286 m13_1 z14_0_287 m14_1 z15_0_288 m15_1 f17 q31 f32 f34 f35 f36 f37 q38 f39 f40 f41 m42_0 m42_1 f43 f44 f47 f48 f49 f50 f51 q54 q55 q56 f57 q58 f59 f60 f64 (Nat.le_of_ble_eq_true rfl) (Nat.le_of_ble_eq_true rfl) hx18 hz21_290 hz22_291 hg_297 (Nat.le_of_ble_eq_true rfl) hx29 hx30 hx33 hx46 hx52 hx53 hx61 hx62 hx63 hx65 hz12_0_285 hm12_1 hz13_0_286 hm13_1 hz14_0_287 hm14_1 hz15_0_288 hm15_1 hm42_0 hm42_1) (cwV 0 hts g_EM_automaton_EM_next rfl rfl rfl (by decide +kernel) ⟨Nat.le_of_ble_eq_true rfl, Nat.le_of_ble_eq_true rfl⟩) ⟨pu_bl, va_recv hK hP (ci := 9) (q0 := 0) rfl rfl, pu_in hP hK hD⟩ rfl rfl hl.1 rfl (lv_room (Nat.le_of_ble_eq_true rfl)) dX9_automaton_129 ⟨Nat.le_of_ble_eq_true rfl, Nat.le_of_ble_eq_true rfl⟩) hS (fun q _ h => hFc q h) hFc (fun u t H1 locs ht hvm hw hB hz1 hk1 hS => ?_)
            obtain ⟨z20_308, z21_309, z22_310, z23_311, ⟨hP1, -, hD1⟩, hz21_309, hz22_310, xr_307_0, xr_307_1, xr_307_2⟩ := hB
            rw [ht] at hP1
            have hP := hP1
            have hD := pu_all hFc hD1
            clear hP1 hD1 hFc
            clear hk1 hz1 ht hvm
            generalize H1 = H at hP hS ⊢
            have hsp := hsp.trans (slet_eq xr_307_2)
            refine lv_goto (tgt := 82) hx hb dX9_automaton_132 (by decide) ?_
            exact ih_263 (2 * mu z21_309 z22_310 + (1 - g_297)) (by omega) _ _ _ ⟨z1_274, z10_275, z11_276, z2_277, z3_278, z4_279, z5_280, z6_281, z7_282, z8_283, z9_284, z12_0_285, z13_0_286, z14_0_287, z15_0_288, z20_308, z21_309, z22_310, z23_311, g_297, g_298, rfl, hz12_0_285, hz13_0_286, hz14_0_287, hz15_0_288, hz21_309, hz22_310, hg_297, hin_267 _ hsp, hP, hD, hS, lv_sub hl [0] rfl⟩
        have hsp := hJR_302
        refine lv_if_eq (tgt := 121) hx hb dX9_automaton_104 (by decide) (fun c_312 => ?_) (fun c_312 => ?_)
        · have c_312 : u_296 = 0 := (nI_eq (a := u_296) (b := 0) (Nat.lt_of_le_of_lt hu_296 (Nat.le_of_ble_eq_true rfl)) (Nat.le_of_ble_eq_true rfl)).mp c_312
          have hsp := hsp.trans (if_pos c_312)
          exact j_301 _ _ _ _ ⟨z26_293, z27_294, rfl, hz26_293, by omega, by omega, hsp.symm, hP, hD, hS, lv_sub hl [0] rfl⟩
        · have c_312 : ¬ u_296 = 0 := fun z => c_312 ((nI_eq (a := u_296) (b := 0) (Nat.lt_of_le_of_lt hu_296 (Nat.le_of_ble_eq_true rfl)) (Nat.le_of_ble_eq_true rfl)).mpr z)
          have hsp := hsp.trans (if_neg c_312)
          refine lv_aload_n hx hb dX9_automaton_107 rfl (lv_at hl 0 rfl) ?_
          refine lv_bipush (v := 59) hx hb dX9_automaton_108 (by decide) ?_
          refine va_calli (va_runV (As := [.int 59]) (rest := []) ⟨hx, hb, hml, hown, hts⟩ (c_EM_isSign l dC dI _ ad ck 0 1 0 x18 z20_289 z21_290 z22_291 z23_292 x24 x25 z26_293 z27_294 0 x29 x30 x33 x45 x46 x52 x53 x61 x62 x63 x65 x66 z1_274 z2_277 z3_278 z4_279 z5_280 z6_281 z7_282 z8_283 z9_284 z10_275 z11_276 z12_0_285 m12_1 z13_0_286 m13_1 z14_0_287 m14_1 z15_0_288 m15_1 f17 q31 f32 f34 f35 f36 f37 q38 f39 f40 f41 m42_0 m42_1 f43 f44 f47 f48 f49 f50 f51 q54 q55 q56 f57 q58 f59 f60 f64 59 (Nat.le_of_ble_eq_true rfl) (Nat.le_of_ble_eq_true rfl) hx18 hz21_290 hz22_291 hz26_293 (Nat.le_of_ble_eq_true rfl) hx29 hx30 hx33 hx46 hx52 hx53 hx61 hx62 hx63 hx65 hz12_0_285 hm12_1 hz13_0_286 hm13_1 hz14_0_287 hm14_1 hz15_0_288 hm15_1 hm42_0 hm42_1) (cwV 1 hts g_EM_automaton_EM_isSign rfl rfl rfl (by decide +kernel) ⟨Nat.le_of_ble_eq_true rfl, Nat.le_of_ble_eq_true rfl⟩) ⟨pu_bl, va_recv hK hP (ci := 9) (q0 := 0) rfl rfl, pu_in hP hK hD⟩ rfl rfl hl.1 rfl (lv_room (Nat.le_of_ble_eq_true rfl)) dX9_automaton_110 ⟨Nat.le_of_ble_eq_true rfl, Nat.le_of_ble_eq_true rfl⟩) hS (fun q _ h => pu_fr hS hA q h) (pu_fr hS hA) (fun r_313 u t H1 locs ht hvm hw hB hz1 hk1 hS => ?_)
          have hP := pu_keep hP hk1
          clear hk1 hz1 ht hvm
          generalize H1 = H at hP hS ⊢
          obtain ⟨u_314, hu_314, rfl, ju_314, iu_314⟩ := hw
          have hsp := hsp.trans (slet_eq iu_314)
          refine lv_if_ne (tgt := 121) hx hb dX9_automaton_113 (by decide) (fun c_315 => ?_) (fun c_315 => ?_)
          · have c_315 : ¬ u_314 = 0 := fun z => c_315 ((nI_eq (a := u_314) (b := 0) (Nat.lt_of_le_of_lt hu_314 (Nat.le_of_ble_eq_true rfl)) (Nat.le_of_ble_eq_true rfl)).mpr z)
            have hsp := hsp.trans (if_neg c_315)
            exact j_301 _ _ _ _ ⟨z26_293, z27_294, rfl, hz26_293, by omega, by omega, hsp.symm, hP, hD, hS, lv_sub hl [0] rfl⟩
          · have c_315 : u_314 = 0 := (nI_eq (a := u_314) (b := 0) (Nat.lt_of_le_of_lt hu_314 (Nat.le_of_ble_eq_true rfl)) (Nat.le_of_ble_eq_true rfl)).mp c_315
            have hsp := hsp.trans (if_pos c_315)
            refine lv_aload_n hx hb dX9_automaton_116 rfl (lv_at hl 0 rfl) ?_
            refine lv_iconst (v := 2) hx hb dX9_automaton_117 (by decide) ?_
            have hFc := pu_free hD hS hA
            refine va_callv (va_runV (As := [.int 2]) (rest := []) ⟨hx, hb, hml, hown, hts⟩ (c_EM_fails l dC dI _ ad ck 0 1 0 x18 z20_289 z21_290 z22_291 z23_292 x24 x25 z26_293 z27_294 0 x29 x30 x33 x45 x46 x52 x53 x61 x62 x63 x65 x66 z1_274 z2_277 z3_278 z4_279 z5_280 z6_281 z7_282 z8_283 z9_284 z10_275 z11_276 z12_0_285 m12_1 z13_0_286 m13_1 z14_0_287 m14_1 z15_0_288 m15_1 f17 q31 f32 f34 f35 f36 f37 q38 f39 f40 f41 m42_0 m42_1 f43 f44 f47 f48 f49 f50 f51 q54 q55 q56 f57 q58 f59 f60 f64 2 (Nat.le_of_ble_eq_true rfl) (Nat.le_of_ble_eq_true rfl) hx18 hz21_290 hz22_291 hz26_293 (Nat.le_of_ble_eq_true rfl) hx29 hx30 hx33 hx46 hx52 hx53 hx61 hx62 hx63 hx65 hz12_0_285 hm12_1 hz13_0_286 hm13_1 hz14_0_287 hm14_1 hz15_0_288 hm15_1 hm42_0 hm42_1 (Nat.le_of_ble_eq_true rfl) (by omega)) (cwV 1 hts g_EM_automaton_EM_fails rfl rfl rfl (by decide +kernel) ⟨Nat.le_of_ble_eq_true rfl, Nat.le_of_ble_eq_true rfl⟩) ⟨pu_bl, va_recv hK hP (ci := 9) (q0 := 0) rfl rfl, pu_in hP hK hD⟩ rfl rfl hl.1 rfl (lv_room (Nat.le_of_ble_eq_true rfl)) dX9_automaton_118 ⟨Nat.le_of_ble_eq_true rfl, Nat.le_of_ble_eq_true rfl⟩) hS (fun q _ h => hFc q h) hFc (fun u t H1 locs ht hvm hw hB hz1 hk1 hS => ?_)
            obtain ⟨z26_317, z27_318, ⟨hP1, -, hD1⟩, hz26_317, xr_316_0, xr_316_1⟩ := hB
            rw [ht] at hP1
            have hP := hP1
            have hD := pu_all hFc hD1
            clear hP1 hD1 hFc
            clear hk1 hz1 ht hvm
            generalize H1 = H at hP hS ⊢
            have hsp := hsp.trans (slet_eq xr_316_1)
            exact j_301 _ _ _ _ ⟨z26_317, z27_318, rfl, hz26_317, by omega, by omega, hsp.symm, hP, hD, hS, lv_sub hl [0] rfl⟩
