theorem dX9_readEdge_0 : decode cX9_readEdge 0 = .ok (.bipush 14, 2) := by decide +kernel
theorem dX9_readEdge_2 : decode cX9_readEdge 2 = .ok (.aload_n 0, 1) := by decide +kernel
theorem dX9_readEdge_3 : decode cX9_readEdge 3 = .ok (.getfield 203, 3) := by decide +kernel
theorem dX9_readEdge_6 : decode cX9_readEdge 6 = .ok (.imul, 1) := by decide +kernel
theorem dX9_readEdge_7 : decode cX9_readEdge 7 = .ok (.aload_n 0, 1) := by decide +kernel
theorem dX9_readEdge_8 : decode cX9_readEdge 8 = .ok (.getfield 49, 3) := by decide +kernel
theorem dX9_readEdge_11 : decode cX9_readEdge 11 = .ok (.aload_n 0, 1) := by decide +kernel
theorem dX9_readEdge_12 : decode cX9_readEdge 12 = .ok (.getfield 203, 3) := by decide +kernel
theorem dX9_readEdge_15 : decode cX9_readEdge 15 = .ok (.iaload, 1) := by decide +kernel
theorem dX9_readEdge_16 : decode cX9_readEdge 16 = .ok (.iadd, 1) := by decide +kernel
theorem dX9_readEdge_17 : decode cX9_readEdge 17 = .ok (.istore_n 1, 1) := by decide +kernel
theorem dX9_readEdge_18 : decode cX9_readEdge 18 = .ok (.aload_n 0, 1) := by decide +kernel
theorem dX9_readEdge_19 : decode cX9_readEdge 19 = .ok (.getfield 22, 3) := by decide +kernel
theorem dX9_readEdge_22 : decode cX9_readEdge 22 = .ok (.iload_n 1, 1) := by decide +kernel
theorem dX9_readEdge_23 : decode cX9_readEdge 23 = .ok (.aload_n 0, 1) := by decide +kernel
theorem dX9_readEdge_24 : decode cX9_readEdge 24 = .ok (.invokevirtual 245, 3) := by decide +kernel
theorem dX9_readEdge_27 : decode cX9_readEdge 27 = .ok (.iastore, 1) := by decide +kernel
theorem dX9_readEdge_28 : decode cX9_readEdge 28 = .ok (.aload_n 0, 1) := by decide +kernel
theorem dX9_readEdge_29 : decode cX9_readEdge 29 = .ok (.getfield 25, 3) := by decide +kernel
theorem dX9_readEdge_32 : decode cX9_readEdge 32 = .ok (.iload_n 1, 1) := by decide +kernel
theorem dX9_readEdge_33 : decode cX9_readEdge 33 = .ok (.aload_n 0, 1) := by decide +kernel
theorem dX9_readEdge_34 : decode cX9_readEdge 34 = .ok (.invokevirtual 216, 3) := by decide +kernel
theorem dX9_readEdge_37 : decode cX9_readEdge 37 = .ok (.ifCond .eq 10, 3) := by decide +kernel
theorem dX9_readEdge_40 : decode cX9_readEdge 40 = .ok (.aload_n 0, 1) := by decide +kernel
theorem dX9_readEdge_41 : decode cX9_readEdge 41 = .ok (.invokevirtual 245, 3) := by decide +kernel
theorem dX9_readEdge_44 : decode cX9_readEdge 44 = .ok (.goto 4, 3) := by decide +kernel
theorem dX9_readEdge_47 : decode cX9_readEdge 47 = .ok (.iconst 0, 1) := by decide +kernel
theorem dX9_readEdge_48 : decode cX9_readEdge 48 = .ok (.iastore, 1) := by decide +kernel
theorem dX9_readEdge_49 : decode cX9_readEdge 49 = .ok (.aload_n 0, 1) := by decide +kernel
theorem dX9_readEdge_50 : decode cX9_readEdge 50 = .ok (.getfield 28, 3) := by decide +kernel
theorem dX9_readEdge_53 : decode cX9_readEdge 53 = .ok (.iload_n 1, 1) := by decide +kernel
theorem dX9_readEdge_54 : decode cX9_readEdge 54 = .ok (.iconst 0, 1) := by decide +kernel
theorem dX9_readEdge_55 : decode cX9_readEdge 55 = .ok (.iastore, 1) := by decide +kernel
theorem dX9_readEdge_56 : decode cX9_readEdge 56 = .ok (.aload_n 0, 1) := by decide +kernel
theorem dX9_readEdge_57 : decode cX9_readEdge 57 = .ok (.getfield 31, 3) := by decide +kernel
theorem dX9_readEdge_60 : decode cX9_readEdge 60 = .ok (.iload_n 1, 1) := by decide +kernel
theorem dX9_readEdge_61 : decode cX9_readEdge 61 = .ok (.iconst 0, 1) := by decide +kernel
theorem dX9_readEdge_62 : decode cX9_readEdge 62 = .ok (.iastore, 1) := by decide +kernel
theorem dX9_readEdge_63 : decode cX9_readEdge 63 = .ok (.aload_n 0, 1) := by decide +kernel
theorem dX9_readEdge_64 : decode cX9_readEdge 64 = .ok (.invokevirtual 216, 3) := by decide +kernel
theorem dX9_readEdge_67 : decode cX9_readEdge 67 = .ok (.ifCond .eq 72, 3) := by decide +kernel
theorem dX9_readEdge_70 : decode cX9_readEdge 70 = .ok (.aload_n 0, 1) := by decide +kernel
theorem dX9_readEdge_71 : decode cX9_readEdge 71 = .ok (.ldc 201, 2) := by decide +kernel
theorem dX9_readEdge_73 : decode cX9_readEdge 73 = .ok (.invokevirtual 193, 3) := by decide +kernel
theorem dX9_readEdge_76 : decode cX9_readEdge 76 = .ok (.ifCond .eq 63, 3) := by decide +kernel
theorem dX9_readEdge_79 : decode cX9_readEdge 79 = .ok (.aload_n 0, 1) := by decide +kernel
theorem dX9_readEdge_80 : decode cX9_readEdge 80 = .ok (.getfield 28, 3) := by decide +kernel
theorem dX9_readEdge_83 : decode cX9_readEdge 83 = .ok (.iload_n 1, 1) := by decide +kernel
theorem dX9_readEdge_84 : decode cX9_readEdge 84 = .ok (.iaload, 1) := by decide +kernel
theorem dX9_readEdge_85 : decode cX9_readEdge 85 = .ok (.iconst 4, 1) := by decide +kernel
theorem dX9_readEdge_86 : decode cX9_readEdge 86 = .ok (.if_icmp .ne 9, 3) := by decide +kernel
theorem dX9_readEdge_89 : decode cX9_readEdge 89 = .ok (.aload_n 0, 1) := by decide +kernel
theorem dX9_readEdge_90 : decode cX9_readEdge 90 = .ok (.iconst 5, 1) := by decide +kernel
theorem dX9_readEdge_91 : decode cX9_readEdge 91 = .ok (.invokevirtual 210, 3) := by decide +kernel
theorem dX9_readEdge_94 : decode cX9_readEdge 94 = .ok (.return_, 1) := by decide +kernel
theorem dX9_readEdge_95 : decode cX9_readEdge 95 = .ok (.aload_n 0, 1) := by decide +kernel
theorem dX9_readEdge_96 : decode cX9_readEdge 96 = .ok (.bipush 80, 2) := by decide +kernel
theorem dX9_readEdge_98 : decode cX9_readEdge 98 = .ok (.aload_n 0, 1) := by decide +kernel
theorem dX9_readEdge_99 : decode cX9_readEdge 99 = .ok (.getfield 203, 3) := by decide +kernel
theorem dX9_readEdge_102 : decode cX9_readEdge 102 = .ok (.imul, 1) := by decide +kernel
theorem dX9_readEdge_103 : decode cX9_readEdge 103 = .ok (.iconst 4, 1) := by decide +kernel
theorem dX9_readEdge_104 : decode cX9_readEdge 104 = .ok (.aload_n 0, 1) := by decide +kernel
theorem dX9_readEdge_105 : decode cX9_readEdge 105 = .ok (.getfield 49, 3) := by decide +kernel
theorem dX9_readEdge_108 : decode cX9_readEdge 108 = .ok (.aload_n 0, 1) := by decide +kernel
theorem dX9_readEdge_109 : decode cX9_readEdge 109 = .ok (.getfield 203, 3) := by decide +kernel
theorem dX9_readEdge_112 : decode cX9_readEdge 112 = .ok (.iaload, 1) := by decide +kernel
theorem dX9_readEdge_113 : decode cX9_readEdge 113 = .ok (.imul, 1) := by decide +kernel
theorem dX9_readEdge_114 : decode cX9_readEdge 114 = .ok (.iadd, 1) := by decide +kernel
theorem dX9_readEdge_115 : decode cX9_readEdge 115 = .ok (.aload_n 0, 1) := by decide +kernel
theorem dX9_readEdge_116 : decode cX9_readEdge 116 = .ok (.getfield 28, 3) := by decide +kernel
theorem dX9_readEdge_119 : decode cX9_readEdge 119 = .ok (.iload_n 1, 1) := by decide +kernel
theorem dX9_readEdge_120 : decode cX9_readEdge 120 = .ok (.iaload, 1) := by decide +kernel
theorem dX9_readEdge_121 : decode cX9_readEdge 121 = .ok (.iadd, 1) := by decide +kernel
theorem dX9_readEdge_122 : decode cX9_readEdge 122 = .ok (.iconst 0, 1) := by decide +kernel
theorem dX9_readEdge_123 : decode cX9_readEdge 123 = .ok (.invokevirtual 241, 3) := by decide +kernel
theorem dX9_readEdge_126 : decode cX9_readEdge 126 = .ok (.aload_n 0, 1) := by decide +kernel
theorem dX9_readEdge_127 : decode cX9_readEdge 127 = .ok (.getfield 28, 3) := by decide +kernel
theorem dX9_readEdge_130 : decode cX9_readEdge 130 = .ok (.iload_n 1, 1) := by decide +kernel
theorem dX9_readEdge_131 : decode cX9_readEdge 131 = .ok (.dup2, 1) := by decide +kernel
theorem dX9_readEdge_132 : decode cX9_readEdge 132 = .ok (.iaload, 1) := by decide +kernel
theorem dX9_readEdge_133 : decode cX9_readEdge 133 = .ok (.iconst 1, 1) := by decide +kernel
theorem dX9_readEdge_134 : decode cX9_readEdge 134 = .ok (.iadd, 1) := by decide +kernel
theorem dX9_readEdge_135 : decode cX9_readEdge 135 = .ok (.iastore, 1) := by decide +kernel
theorem dX9_readEdge_136 : decode cX9_readEdge 136 = .ok (.goto (-73), 3) := by decide +kernel
theorem dX9_readEdge_139 : decode cX9_readEdge 139 = .ok (.aload_n 0, 1) := by decide +kernel
theorem dX9_readEdge_140 : decode cX9_readEdge 140 = .ok (.invokevirtual 216, 3) := by decide +kernel
theorem dX9_readEdge_143 : decode cX9_readEdge 143 = .ok (.ifCond .eq 72, 3) := by decide +kernel
theorem dX9_readEdge_146 : decode cX9_readEdge 146 = .ok (.aload_n 0, 1) := by decide +kernel
theorem dX9_readEdge_147 : decode cX9_readEdge 147 = .ok (.ldc 202, 2) := by decide +kernel
theorem dX9_readEdge_149 : decode cX9_readEdge 149 = .ok (.invokevirtual 193, 3) := by decide +kernel
theorem dX9_readEdge_152 : decode cX9_readEdge 152 = .ok (.ifCond .eq 63, 3) := by decide +kernel
theorem dX9_readEdge_155 : decode cX9_readEdge 155 = .ok (.aload_n 0, 1) := by decide +kernel
theorem dX9_readEdge_156 : decode cX9_readEdge 156 = .ok (.invokevirtual 226, 3) := by decide +kernel
theorem dX9_readEdge_159 : decode cX9_readEdge 159 = .ok (.aload_n 0, 1) := by decide +kernel
theorem dX9_readEdge_160 : decode cX9_readEdge 160 = .ok (.invokevirtual 232, 3) := by decide +kernel
theorem dX9_readEdge_163 : decode cX9_readEdge 163 = .ok (.istore_n 2, 1) := by decide +kernel
theorem dX9_readEdge_164 : decode cX9_readEdge 164 = .ok (.aload_n 0, 1) := by decide +kernel
theorem dX9_readEdge_165 : decode cX9_readEdge 165 = .ok (.invokevirtual 216, 3) := by decide +kernel
theorem dX9_readEdge_168 : decode cX9_readEdge 168 = .ok (.ifCond .eq 21, 3) := by decide +kernel
theorem dX9_readEdge_171 : decode cX9_readEdge 171 = .ok (.aload_n 0, 1) := by decide +kernel
theorem dX9_readEdge_172 : decode cX9_readEdge 172 = .ok (.getfield 31, 3) := by decide +kernel
theorem dX9_readEdge_175 : decode cX9_readEdge 175 = .ok (.iload_n 1, 1) := by decide +kernel
theorem dX9_readEdge_176 : decode cX9_readEdge 176 = .ok (.iaload, 1) := by decide +kernel
theorem dX9_readEdge_177 : decode cX9_readEdge 177 = .ok (.iload_n 2, 1) := by decide +kernel
theorem dX9_readEdge_178 : decode cX9_readEdge 178 = .ok (.invokestatic 248, 3) := by decide +kernel
theorem dX9_readEdge_181 : decode cX9_readEdge 181 = .ok (.ifCond .eq 8, 3) := by decide +kernel
theorem dX9_readEdge_184 : decode cX9_readEdge 184 = .ok (.aload_n 0, 1) := by decide +kernel
theorem dX9_readEdge_185 : decode cX9_readEdge 185 = .ok (.iconst 5, 1) := by decide +kernel
theorem dX9_readEdge_186 : decode cX9_readEdge 186 = .ok (.invokevirtual 210, 3) := by decide +kernel
theorem dX9_readEdge_189 : decode cX9_readEdge 189 = .ok (.aload_n 0, 1) := by decide +kernel
theorem dX9_readEdge_190 : decode cX9_readEdge 190 = .ok (.getfield 31, 3) := by decide +kernel
theorem dX9_readEdge_193 : decode cX9_readEdge 193 = .ok (.iload_n 1, 1) := by decide +kernel
theorem dX9_readEdge_194 : decode cX9_readEdge 194 = .ok (.dup2, 1) := by decide +kernel
theorem dX9_readEdge_195 : decode cX9_readEdge 195 = .ok (.iaload, 1) := by decide +kernel
theorem dX9_readEdge_196 : decode cX9_readEdge 196 = .ok (.iconst 1, 1) := by decide +kernel
theorem dX9_readEdge_197 : decode cX9_readEdge 197 = .ok (.iload_n 2, 1) := by decide +kernel
theorem dX9_readEdge_198 : decode cX9_readEdge 198 = .ok (.ishl, 1) := by decide +kernel
theorem dX9_readEdge_199 : decode cX9_readEdge 199 = .ok (.ior, 1) := by decide +kernel
theorem dX9_readEdge_200 : decode cX9_readEdge 200 = .ok (.iastore, 1) := by decide +kernel
theorem dX9_readEdge_201 : decode cX9_readEdge 201 = .ok (.aload_n 0, 1) := by decide +kernel
theorem dX9_readEdge_202 : decode cX9_readEdge 202 = .ok (.invokevirtual 216, 3) := by decide +kernel
theorem dX9_readEdge_205 : decode cX9_readEdge 205 = .ok (.ifCond .eq 7, 3) := by decide +kernel
theorem dX9_readEdge_208 : decode cX9_readEdge 208 = .ok (.aload_n 0, 1) := by decide +kernel
theorem dX9_readEdge_209 : decode cX9_readEdge 209 = .ok (.invokevirtual 226, 3) := by decide +kernel
theorem dX9_readEdge_212 : decode cX9_readEdge 212 = .ok (.goto (-73), 3) := by decide +kernel
theorem dX9_readEdge_215 : decode cX9_readEdge 215 = .ok (.aload_n 0, 1) := by decide +kernel
theorem dX9_readEdge_216 : decode cX9_readEdge 216 = .ok (.getfield 49, 3) := by decide +kernel
theorem dX9_readEdge_219 : decode cX9_readEdge 219 = .ok (.aload_n 0, 1) := by decide +kernel
theorem dX9_readEdge_220 : decode cX9_readEdge 220 = .ok (.getfield 203, 3) := by decide +kernel
theorem dX9_readEdge_223 : decode cX9_readEdge 223 = .ok (.dup2, 1) := by decide +kernel
theorem dX9_readEdge_224 : decode cX9_readEdge 224 = .ok (.iaload, 1) := by decide +kernel
theorem dX9_readEdge_225 : decode cX9_readEdge 225 = .ok (.iconst 1, 1) := by decide +kernel
theorem dX9_readEdge_226 : decode cX9_readEdge 226 = .ok (.iadd, 1) := by decide +kernel
theorem dX9_readEdge_227 : decode cX9_readEdge 227 = .ok (.iastore, 1) := by decide +kernel
theorem dX9_readEdge_228 : decode cX9_readEdge 228 = .ok (.return_, 1) := by decide +kernel
abbrev vs_EM_readEdge_0 : List Cond := .code yX9_readEdge cX9_readEdge 3 none :: VM
theorem g_EM_readEdge_0_EM_toldPlace_0 : GoodIn vs_EM_readEdge_0 (wsV RX9 245 RX9 yX9_toldPlace vs_EM_toldPlace_0) := gm_V vm_110 vm_111 vm_112 vm_19 vm_113
theorem g_EM_readEdge_0_EM_isGood : GoodIn vs_EM_readEdge_0 (wsV RX9 216 RX9 yX9_isGood vs_EM_isGood) := gm_V vm_71 vm_72 vm_73 vm_19 vm_74
theorem g_EM_readEdge_0_EM_isWord : GoodIn vs_EM_readEdge_0 (wsV RX9 193 RX9 yX9_isWord vs_EM_isWord) := gm_V vm_16 vm_17 vm_18 vm_19 vm_20
theorem g_EM_readEdge_0_EM_next : GoodIn vs_EM_readEdge_0 (wsV RX9 226 RX9 yX9_next vs_EM_next) := gm_V vm_75 vm_76 vm_77 vm_19 vm_78
theorem g_EM_readEdge_0_EM_toldClock_0 : GoodIn vs_EM_readEdge_0 (wsV RX9 232 RX9 yX9_toldClock vs_EM_toldClock_0) := gm_V vm_90 vm_91 vm_92 vm_19 vm_93
theorem g_EM_readEdge_0_EM_isOf : GoodIn vs_EM_readEdge_0 (va_wsS RX9 248 yX9_isOf vs_EM_isOf) := gm_S vm_114 vm_115 vm_19 vm_116
theorem g_EM_readEdge_0_EM_fails : GoodIn vs_EM_readEdge_0 (wsV RX9 210 RX9 yX9_fails vs_EM_fails) := gm_V vm_29 vm_30 vm_31 vm_19 vm_32
theorem g_EM_readEdge_0_EM_readCondition0_0 : GoodIn vs_EM_readEdge_0 (wsV RX9 241 RX9 yX9_readCondition vs_EM_readCondition0_0) := gm_V vm_105 vm_106 vm_107 vm_19 vm_108
noncomputable def sp_EM_readEdge_0_L1 (x19 : Nat) (f1 : Nat → Int32) (m12_0 : Nat) (m14_0 : Nat) (f17 : Nat → Int32) : ((Nat → Int32) × Int32 × Nat × Nat × Int32 × Nat × Int32) → ((Nat → Int32) × Int32 × Nat × Nat × Int32 × Nat × Int32) ⊕ (Int32 × Nat × Nat × Int32 × Nat × Int32 × (Nat → Int32)) := fun (g_81, g_82, g_83, g_84, g_85, g_86, g_87) => (slet (sp_EM_isGood g_86) (fun u_96 => (if u_96 = 0 then (Sum.inr (g_82, g_83, g_84, g_85, g_86, g_87, g_81)) else (slet (sp_EM_isWord g_84 g_85 19057844) (fun u_99 => (if u_99 = 0 then (Sum.inr (g_82, g_83, g_84, g_85, g_86, g_87, g_81)) else (slet (sp_EM_next x19 g_83 f17) (fun (z20_102, z21_103, z22_104, z23_105) => (slet (sp_EM_toldClock_0 z20_102 z22_104 z23_105 g_86 g_87 f1 m12_0) (fun (u_109, z26_107, z27_108) => (slet (sp_EM_isGood z26_107) (fun u_111 => (slet (α := Nat × Int32) (if u_111 = 0 then (z26_107, z27_108) else (slet (g_81 (0 + m14_0)) (fun y_141 => (slet (sp_EM_isOf y_141 (nI u_109)) (fun u_143 => (if u_143 = 0 then (z26_107, z27_108) else (slet (sp_EM_fails z20_102 z22_104 z26_107 z27_108 5) (fun (z26_146, z27_147) => (z26_146, z27_147))))))))) (fun (g_112, g_113) => (slet (g_81 (0 + m14_0)) (fun y_119 => (slet ((1 : Int32) <<< (((nI u_109) : Int32) &&& 31)) (fun y_120 => (slet ((y_119 : Int32) ||| (y_120 : Int32)) (fun y_121 => (slet (upd g_81 (0 + m14_0) y_121) (fun f_122 => (slet (sp_EM_isGood g_112) (fun u_124 => (slet (α := Int32 × Nat × Nat × Int32) (if u_124 = 0 then (z20_102, z21_103, z22_104, z23_105) else (slet (sp_EM_next x19 z21_103 f17) (fun (z20_136, z21_137, z22_138, z23_139) => (z20_136, z21_137, z22_138, z23_139)))) (fun (g_125, g_126, g_127, g_128) => (Sum.inl (f_122, g_125, g_126, g_127, g_128, g_112, g_113))))))))))))))))))))))))))))
noncomputable def sp_EM_readEdge_0_L2 (x19 : Nat) (f1 : Nat → Int32) (m12_0 : Nat) (m14_0 : Nat) (f17 : Nat → Int32) : ((Nat → Int32) × Int32 × Nat × Nat × Int32 × Nat × Int32) → ((Nat → Int32) × Int32 × Nat × Nat × Int32 × Nat × Int32) ⊕ (Int32 × Nat × Nat × Int32 × Nat × Int32 × (Nat → Int32)) := fun (g_172, g_173, g_174, g_175, g_176, g_177, g_178) => (slet (sp_EM_isGood g_177) (fun u_187 => (if u_187 = 0 then (Sum.inr (g_173, g_174, g_175, g_176, g_177, g_178, g_172)) else (slet (sp_EM_isWord g_175 g_176 19057844) (fun u_190 => (if u_190 = 0 then (Sum.inr (g_173, g_174, g_175, g_176, g_177, g_178, g_172)) else (slet (sp_EM_next x19 g_174 f17) (fun (z20_193, z21_194, z22_195, z23_196) => (slet (sp_EM_toldClock_0 z20_193 z22_195 z23_196 g_177 g_178 f1 m12_0) (fun (u_200, z26_198, z27_199) => (slet (sp_EM_isGood z26_198) (fun u_202 => (slet (α := Nat × Int32) (if u_202 = 0 then (z26_198, z27_199) else (slet (g_172 (0 + m14_0)) (fun y_232 => (slet (sp_EM_isOf y_232 (nI u_200)) (fun u_234 => (if u_234 = 0 then (z26_198, z27_199) else (slet (sp_EM_fails z20_193 z22_195 z26_198 z27_199 5) (fun (z26_237, z27_238) => (z26_237, z27_238))))))))) (fun (g_203, g_204) => (slet (g_172 (0 + m14_0)) (fun y_210 => (slet ((1 : Int32) <<< (((nI u_200) : Int32) &&& 31)) (fun y_211 => (slet ((y_210 : Int32) ||| (y_211 : Int32)) (fun y_212 => (slet (upd g_172 (0 + m14_0) y_212) (fun f_213 => (slet (sp_EM_isGood g_203) (fun u_215 => (slet (α := Int32 × Nat × Nat × Int32) (if u_215 = 0 then (z20_193, z21_194, z22_195, z23_196) else (slet (sp_EM_next x19 z21_194 f17) (fun (z20_227, z21_228, z22_229, z23_230) => (z20_227, z21_228, z22_229, z23_230)))) (fun (g_216, g_217, g_218, g_219) => (Sum.inl (f_213, g_216, g_217, g_218, g_219, g_203, g_204))))))))))))))))))))))))))))
noncomputable def sp_EM_readEdge_0_L3 (x19 : Nat) (f1 : Nat → Int32) (m12_0 : Nat) (m14_0 : Nat) (f17 : Nat → Int32) (q_12 : Nat → Nat) (q_26 : Nat → Nat) (f_28 : Nat → Int32) : ((Nat → Nat) × (Nat → Int32) × (Nat → Nat) × (Nat → Nat) × Int32 × Nat × Nat × Int32 × Nat × Int32) → ((Nat → Nat) × (Nat → Int32) × (Nat → Nat) × (Nat → Nat) × Int32 × Nat × Nat × Int32 × Nat × Int32) ⊕ ((Nat → Nat) × (Nat → Int32) × (Nat → Nat) × (Nat → Nat) × (Nat → Nat) × (Nat → Int32) × (Nat → Nat) × Nat × Int32 × Nat × Nat × Int32 × Nat × Int32) := fun (g_40, g_41, g_42, g_43, g_44, g_45, g_46, g_47, g_48, g_49) => (slet (sp_EM_isGood g_48) (fun u_58 => (if u_58 = 0 then (Sum.inr (slet (α := Int32 × Nat × Nat × Int32 × Nat × Int32 × (Nat → Int32)) (itrv (α := (Nat → Int32) × Int32 × Nat × Nat × Int32 × Nat × Int32) (β := (Int32 × Nat × Nat × Int32 × Nat × Int32 × (Nat → Int32))) default (sp_EM_readEdge_0_L1 x19 f1 m12_0 m14_0 f17) (f_28, g_44, g_45, g_46, g_47, g_48, g_49)) (fun (g_60, g_61, g_62, g_63, g_64, g_65, g_66) => (g_40, g_41, q_12, q_26, g_42, g_66, g_43, (m14_0 + 1), g_60, g_61, g_62, g_63, g_64, g_65)))) else (slet (sp_EM_isWord g_46 g_47 762030) (fun u_149 => (if u_149 = 0 then (Sum.inr (slet (α := Int32 × Nat × Nat × Int32 × Nat × Int32 × (Nat → Int32)) (itrv (α := (Nat → Int32) × Int32 × Nat × Nat × Int32 × Nat × Int32) (β := (Int32 × Nat × Nat × Int32 × Nat × Int32 × (Nat → Int32))) default (sp_EM_readEdge_0_L2 x19 f1 m12_0 m14_0 f17) (f_28, g_44, g_45, g_46, g_47, g_48, g_49)) (fun (g_151, g_152, g_153, g_154, g_155, g_156, g_157) => (g_40, g_41, q_12, q_26, g_42, g_157, g_43, (m14_0 + 1), g_151, g_152, g_153, g_154, g_155, g_156)))) else (slet (min (g_42 (0 + m14_0)) 4) (fun u_240 => (if u_240 = 4 then (Sum.inr (slet (sp_EM_fails g_44 g_46 g_48 g_49 5) (fun (z26_264, z27_265) => (g_40, g_41, q_12, q_26, g_42, f_28, g_43, m14_0, g_44, g_45, g_46, g_47, z26_264, z27_265)))) else (slet (sp_EM_readCondition0_0 x19 g_45 g_48 g_49 f1 g_43 g_40 g_41 m12_0 f17 ((0 + (4 * m14_0)) + u_240)) (fun (z10_250, z11_251, z9_252, z20_253, z21_254, z22_255, z23_256, z26_257, z27_258) => (slet (updN g_42 (0 + m14_0) (u_240 + 1)) (fun q_262 => (Sum.inl (z10_250, z11_251, q_262, z9_252, z20_253, z21_254, z22_255, z23_256, z26_257, z27_258)))))))))))))))
noncomputable def sp_EM_readEdge_0 (x19 : Nat) (x20 : Int32) (x21 : Nat) (x22 : Nat) (x23 : Int32) (x26 : Nat) (x27 : Int32) (f1 : Nat → Int32) (f2 : Nat → Int32) (q5 : Nat → Nat) (q6 : Nat → Nat) (q7 : Nat → Nat) (f8 : Nat → Int32) (q9 : Nat → Nat) (q10 : Nat → Nat) (f11 : Nat → Int32) (m12_0 : Nat) (m13_0 : Nat) (m14_0 : Nat) (f17 : Nat → Int32) : (Nat → Nat) × (Nat → Int32) × (Nat → Nat) × (Nat → Nat) × (Nat → Nat) × (Nat → Int32) × (Nat → Nat) × Nat × Int32 × Nat × Nat × Int32 × Nat × Int32 := (slet (sp_EM_toldPlace_0 x19 x20 x21 x22 x23 x26 x27 f2 m13_0 f17) (fun (u_11, z20_5, z21_6, z22_7, z23_8, z26_9, z27_10) => (slet (updN q5 (0 + m14_0) u_11) (fun q_12 => (slet (sp_EM_isGood z26_9) (fun u_14 => (slet (α := Int32 × Nat × Nat × Int32 × Nat × Int32 × Nat) (if u_14 = 0 then (z20_5, z21_6, z22_7, z23_8, z26_9, z27_10, 0) else (slet (sp_EM_toldPlace_0 x19 z20_5 z21_6 z22_7 z23_8 z26_9 z27_10 f2 m13_0 f17) (fun (u_274, z20_268, z21_269, z22_270, z23_271, z26_272, z27_273) => (z20_268, z21_269, z22_270, z23_271, z26_272, z27_273, u_274)))) (fun (g_15, g_16, g_17, g_18, g_19, g_20, g_21) => (slet (updN q6 (0 + m14_0) g_21) (fun q_26 => (slet (updN q7 (0 + m14_0) 0) (fun q_27 => (slet (upd f8 (0 + m14_0) 0) (fun f_28 => (itrv (α := (Nat → Nat) × (Nat → Int32) × (Nat → Nat) × (Nat → Nat) × Int32 × Nat × Nat × Int32 × Nat × Int32) (β := ((Nat → Nat) × (Nat → Int32) × (Nat → Nat) × (Nat → Nat) × (Nat → Nat) × (Nat → Int32) × (Nat → Nat) × Nat × Int32 × Nat × Nat × Int32 × Nat × Int32)) default (sp_EM_readEdge_0_L3 x19 f1 m12_0 m14_0 f17 q_12 q_26 f_28) (q10, f11, q_27, q9, g_15, g_16, g_17, g_18, g_19, g_20))))))))))))))))
set_option maxHeartbeats 4000000 in
set_option maxRecDepth 100000 in
theorem c_EM_readEdge_0 (l : Launch) (dC : Nat → ClassId) (dI : Nat → Nat → Nat) (sz : Nat) (ad : Nat → Nat) (ck : Nat → ClassId) (x0 : Int32) (x16 : Nat) (x18 : Nat) (x19 : Nat) (x20 : Int32) (x21 : Nat) (x22 : Nat) (x23 : Int32) (x24 : Int32) (x25 : Int32) (x26 : Nat) (x27 : Int32) (x29 : Nat) (x30 : Nat) (x33 : Nat) (x45 : Int32) (x46 : Nat) (x52 : Nat) (x53 : Nat) (x61 : Nat) (x62 : Nat) (x63 : Nat) (x65 : Nat) (x66 : Int32) (f1 : Nat → Int32) (f2 : Nat → Int32) (f3 : Nat → Int32) (q4 : Nat → Nat) (q5 : Nat → Nat) (q6 : Nat → Nat) (q7 : Nat → Nat) (f8 : Nat → Int32) (q9 : Nat → Nat) (q10 : Nat → Nat) (f11 : Nat → Int32) (m12_0 m12_1 : Nat) (m13_0 m13_1 : Nat) (m14_0 m14_1 : Nat) (m15_0 m15_1 : Nat) (f17 : Nat → Int32) (q31 : Nat → Nat) (f32 : Nat → Int32) (f34 : Nat → Int32) (f35 : Nat → Int32) (f36 : Nat → Int32) (f37 : Nat → Int32) (q38 : Nat → Nat) (f39 : Nat → Int32) (f40 : Nat → Int32) (f41 : Nat → Int32) (m42_0 m42_1 : Nat) (f43 : Nat → Int32) (f44 : Nat → Int32) (f47 : Nat → Int32) (f48 : Nat → Int32) (f49 : Nat → Int32) (f50 : Nat → Int32) (f51 : Nat → Int32) (q54 : Nat → Nat) (q55 : Nat → Nat) (q56 : Nat → Nat) (f57 : Nat → Int32) (q58 : Nat → Nat) (f59 : Nat → Int32) (f60 : Nat → Int32) (f64 : Nat → Int32) (hx16 : x16 ≤ 1) (hx18 : x18 ≤ 900) (hx19 : x19 ≤ 900) (hx21 : x21 ≤ 900) (hx22 : x22 ≤ 4) (hx26 : x26 ≤ 6) (hx29 : x29 ≤ 1) (hx30 : x30 ≤ 1) (hx33 : x33 ≤ 20) (hx46 : x46 ≤ 5) (hx52 : x52 ≤ 2400) (hx53 : x53 ≤ 119) (hx61 : x61 ≤ 119) (hx62 : x62 ≤ 2000) (hx63 : x63 ≤ 1) (hx65 : x65 ≤ 7) (hm12_0 : m12_0 ≤ 3) (hm12_1 : m12_1 ≤ 3) (hm13_0 : m13_0 ≤ 8) (hm13_1 : m13_1 ≤ 8) (hm14_0 : m14_0 ≤ 13) (hm14_1 : m14_1 ≤ 14) (hm15_0 : m15_0 ≤ 8) (hm15_1 : m15_1 ≤ 8) (hm42_0 : m42_0 ≤ 120) (hm42_1 : m42_1 ≤ 400) : Met l yX9_readEdge vs_EM_readEdge_0 ({ frames := 5, cells := 0, slots := 0, locals := 108 }) (va_Pc [.ref (ad 0)] (pu_B (dC, dI) (mo_w ad ck x0 (nI x16) (nI x18) (nI x19) x20 (nI x21) (nI x22) x23 x24 x25 (nI x26) x27 0 (nI x29) (nI x30) (nI x33) x45 (nI x46) (nI x52) (nI x53) (nI x61) (nI x62) (nI x63) (nI x65) x66 f1 f2 f3 (bN 3 q4) (bN 7 q5) (bN 7 q6) (bN 4 q7) f8 (bN 2 q9) (bH q10) f11 (b2 m12_0 m12_1) (b2 m13_0 m13_1) (b2 m14_0 m14_1) (b2m m15_0 m15_1) f17 (bA 159 q31) f32 f34 f35 f36 f37 (bN 7 q38) f39 f40 f41 (b2 m42_0 m42_1) f43 f44 f47 f48 f49 f50 f51 (bN 13 q54) (bN 120 q55) (bN 120 q56) f57 (bN 120 q58) f59 f60 f64) (mo_t ck) sz)) (va_Qv (fun (_ : Unit) => True) (fun _ t => ∃ (z10 : Nat → Nat) (z11 : Nat → Int32) (z5 : Nat → Nat) (z6 : Nat → Nat) (z7 : Nat → Nat) (z8 : Nat → Int32) (z9 : Nat → Nat) (z14_0 : Nat) (z20 : Int32) (z21 : Nat) (z22 : Nat) (z23 : Int32) (z26 : Nat) (z27 : Int32), pu_E (dC, dI) (mo_w ad ck x0 (nI x16) (nI x18) (nI x19) z20 (nI z21) (nI z22) z23 x24 x25 (nI z26) z27 0 (nI x29) (nI x30) (nI x33) x45 (nI x46) (nI x52) (nI x53) (nI x61) (nI x62) (nI x63) (nI x65) x66 f1 f2 f3 (bN 3 q4) (bN 7 z5) (bN 7 z6) (bN 4 z7) z8 (bN 2 z9) (bH z10) z11 (b2 m12_0 m12_1) (b2 m13_0 m13_1) (b2 z14_0 m14_1) (b2m m15_0 m15_1) f17 (bA 159 q31) f32 f34 f35 f36 f37 (bN 7 q38) f39 f40 f41 (b2 m42_0 m42_1) f43 f44 f47 f48 f49 f50 f51 (bN 13 q54) (bN 120 q55) (bN 120 q56) f57 (bN 120 q58) f59 f60 f64) (mo_t ck) (va_A ((mo_w ad ck x0 (nI x16) (nI x18) (nI x19) x20 (nI x21) (nI x22) x23 x24 x25 (nI x26) x27 0 (nI x29) (nI x30) (nI x33) x45 (nI x46) (nI x52) (nI x53) (nI x61) (nI x62) (nI x63) (nI x65) x66 f1 f2 f3 (bN 3 q4) (bN 7 q5) (bN 7 q6) (bN 4 q7) f8 (bN 2 q9) (bH q10) f11 (b2 m12_0 m12_1) (b2 m13_0 m13_1) (b2 m14_0 m14_1) (b2m m15_0 m15_1) f17 (bA 159 q31) f32 f34 f35 f36 f37 (bN 7 q38) f39 f40 f41 (b2 m42_0 m42_1) f43 f44 f47 f48 f49 f50 f51 (bN 13 q54) (bN 120 q55) (bN 120 q56) f57 (bN 120 q58) f59 f60 f64)) sz) t ∧ (z14_0 ≤ 14) ∧ (z21 ≤ 900) ∧ (z22 ≤ 4) ∧ (z26 ≤ 6) ∧ (mu z21 z22 ≤ mu x21 x22) ∧ ((z10, z11, z5, z6, z7, z8, z9, z14_0, z20, z21, z22, z23, z26, z27) = (sp_EM_readEdge_0 x19 x20 x21 x22 x23 x26 x27 f1 f2 q5 q6 q7 f8 q9 q10 f11 m12_0 m13_0 m14_0 f17))) (va_A ((mo_w ad ck x0 (nI x16) (nI x18) (nI x19) x20 (nI x21) (nI x22) x23 x24 x25 (nI x26) x27 0 (nI x29) (nI x30) (nI x33) x45 (nI x46) (nI x52) (nI x53) (nI x61) (nI x62) (nI x63) (nI x65) x66 f1 f2 f3 (bN 3 q4) (bN 7 q5) (bN 7 q6) (bN 4 q7) f8 (bN 2 q9) (bH q10) f11 (b2 m12_0 m12_1) (b2 m13_0 m13_1) (b2 m14_0 m14_1) (b2m m15_0 m15_1) f17 (bA 159 q31) f32 f34 f35 f36 f37 (bN 7 q38) f39 f40 f41 (b2 m42_0 m42_1) f43 f44 f47 f48 f49 f50 f51 (bN 13 q54) (bN 120 q55) (bN 120 q56) f57 (bN 120 q58) f59 f60 f64)) sz)) 0 0 (va_A ((mo_w ad ck x0 (nI x16) (nI x18) (nI x19) x20 (nI x21) (nI x22) x23 x24 x25 (nI x26) x27 0 (nI x29) (nI x30) (nI x33) x45 (nI x46) (nI x52) (nI x53) (nI x61) (nI x62) (nI x63) (nI x65) x66 f1 f2 f3 (bN 3 q4) (bN 7 q5) (bN 7 q6) (bN 4 q7) f8 (bN 2 q9) (bH q10) f11 (b2 m12_0 m12_1) (b2 m13_0 m13_1) (b2 m14_0 m14_1) (b2m m15_0 m15_1) f17 (bA 159 q31) f32 f34 f35 f36 f37 (bN 7 q38) f39 f40 f41 (b2 m42_0 m42_1) f43 f44 f47 f48 f49 f50 f51 (bN 13 q54) (bN 120 q55) (bN 120 q56) f57 (bN 120 q58) f59 f60 f64)) sz) := by
  refine Met.ofW (cc := cX9_readEdge) (maxL := 3) (ret := none) (by decide) rfl ?_
  intro p e s m args below meth c s₁ B hml hv
  obtain ⟨rfl, rfl, hP, hK, hD0⟩ := hv
  have hx := B.exec
  have hb := B.bytes
  have hr := B.returns
  have hts := atoms_spec (ws := vs_EM_readEdge_0) B.pre
  have v_1 := hts (.fieldLink RX9 203 "ClockReachModel" "rb" "I") (List.mem_cons_of_mem _ vm_63)
  have v_2 := hts (.fieldLink RX9 49 "ClockReachModel" "edgeMany" "[I") (List.mem_cons_of_mem _ vm_45)
  have v_3 := hts (.fieldLink RX9 22 "ClockReachModel" "edgeFrom" "[I") (List.mem_cons_of_mem _ vm_8)
  have v_9 := hts (.fieldLink RX9 25 "ClockReachModel" "edgeTo" "[I") (List.mem_cons_of_mem _ vm_9)
  have v_14 := hts (.fieldLink RX9 28 "ClockReachModel" "whens" "[I") (List.mem_cons_of_mem _ vm_117)
  have v_15 := hts (.fieldLink RX9 31 "ClockReachModel" "sets" "[I") (List.mem_cons_of_mem _ vm_10)
  have v_16 := hts (.constant RX9 202 (19057844)) (List.mem_cons_of_mem _ vm_28)
  have v_36 := hts (.constant RX9 201 (762030)) (List.mem_cons_of_mem _ vm_27)
  have hown : s.vm.findClass RX9 = some m.cls := findClass_of_methodNamed B.named
  have hlocks := B.notSynchronized
  have hiX9 : ∀ w ∈ wsX90, w ∈ vs_EM_readEdge_0 := fun _ h => List.mem_cons_of_mem _ (vmi_L h)
  have hD := hD0.self (sz := s.heap.size)
  generalize hAe : va_A ((mo_w ad ck x0 (nI x16) (nI x18) (nI x19) x20 (nI x21) (nI x22) x23 x24 x25 (nI x26) x27 0 (nI x29) (nI x30) (nI x33) x45 (nI x46) (nI x52) (nI x53) (nI x61) (nI x62) (nI x63) (nI x65) x66 f1 f2 f3 (bN 3 q4) (bN 7 q5) (bN 7 q6) (bN 4 q7) f8 (bN 2 q9) (bH q10) f11 (b2 m12_0 m12_1) (b2 m13_0 m13_1) (b2 m14_0 m14_1) (b2m m15_0 m15_1) f17 (bA 159 q31) f32 f34 f35 f36 f37 (bN 7 q38) f39 f40 f41 (b2 m42_0 m42_1) f43 f44 f47 f48 f49 f50 f51 (bN 13 q54) (bN 120 q55) (bN 120 q56) f57 (bN 120 q58) f59 f60 f64)) s.heap.size = A at hD ⊢
  have hA : ∀ q : Nat, s.heap.size ≤ q → A q := fun q h => by rw [← hAe]; exact Or.inr h
  have hS : va_S A s.heap s.heap [] := va_S.rf
  have hl := lv_entry ([.ref (ad 0)]) (n := 3) (Nat.le_of_ble_eq_true rfl)
  rw [lg_entry_eq]
  generalize (lg_sl ([.ref (ad 0)]) ++ List.replicate (3 - (lg_sl ([.ref (ad 0)])).length) Slot.unset).toArray = ls at hl ⊢
  have hl : lv_has ls 3 [(0, .ref (ad 0))] := hl
  obtain ⟨RR, hRR⟩ : ∃ x, x = (sp_EM_readEdge_0 x19 x20 x21 x22 x23 x26 x27 f1 f2 q5 q6 q7 f8 q9 q10 f11 m12_0 m13_0 m14_0 f17) := ⟨_, rfl⟩
  have hsp := hRR
  refine lv_bipush (v := 14) hx hb dX9_readEdge_0 (by decide) ?_
  refine lv_aload_n hx hb dX9_readEdge_2 rfl (lv_at hl 0 rfl) ?_
  refine va_get (D := (dC, dI)) (ci := 9) (v := .int 0) (C := RX9) (T := TX9) (N := 67) hx hb hts hiX9 hown hK hP 0 rfl rfl 28 (by decide) v_1 (fun _ h9 => h9) rfl dX9_readEdge_3 ?_
  refine lv_imul hx hb dX9_readEdge_6 ?_
  refine lv_topi (fun y_1 ey_1 => ?_)
  obtain rfl : y_1 = 0 := ey_1.trans (by decide)
  refine lv_aload_n hx hb dX9_readEdge_7 rfl (lv_at hl 0 rfl) ?_
  refine va_get (D := (dC, dI)) (ci := 9) (v := .ref (ad 14)) (C := RX9) (T := TX9) (N := 67) hx hb hts hiX9 hown hK hP 0 rfl rfl 14 (by decide) v_2 (fun _ h9 => h9) rfl dX9_readEdge_8 ?_
  refine lv_aload_n hx hb dX9_readEdge_11 rfl (lv_at hl 0 rfl) ?_
  refine va_get (D := (dC, dI)) (ci := 9) (v := .int 0) (C := RX9) (T := TX9) (N := 67) hx hb hts hiX9 hown hK hP 0 rfl rfl 28 (by decide) v_1 (fun _ h9 => h9) rfl dX9_readEdge_12 ?_
  refine va_iald hx hb hK hP 14 13 rfl rfl (vp_in_nI (n := 0) (Nat.le_of_ble_eq_true rfl) (Nat.le_of_ble_eq_true rfl)) dX9_readEdge_15 ?_
  refine lv_topi (fun y_2 ey_2 => ?_)
  have qy_2 := ey_2.trans b2_0
  clear ey_2
  obtain rfl : y_2 = nI m14_0 := qy_2
  refine lv_iadd hx hb dX9_readEdge_16 ?_
  refine lv_topi (fun y_3 ey_3 => ?_)
  obtain rfl : y_3 = (nI (0 + m14_0)) := ey_3.trans (nI_add 0 m14_0)
  refine lv_istore_n (lv' := [(1, .int (nI (0 + m14_0))), (0, .ref (ad 0))]) hx hb dX9_readEdge_17 rfl hl (by decide) rfl (fun ls hl => ?_)
  refine lv_aload_n hx hb dX9_readEdge_18 rfl (lv_at hl 1 rfl) ?_
  refine va_get (D := (dC, dI)) (ci := 9) (v := .ref (ad 5)) (C := RX9) (T := TX9) (N := 67) hx hb hts hiX9 hown hK hP 0 rfl rfl 5 (by decide) v_3 (fun _ h9 => h9) rfl dX9_readEdge_19 ?_
  refine lv_iload_n hx hb dX9_readEdge_22 rfl (lv_at hl 0 rfl) ?_
  refine lv_aload_n hx hb dX9_readEdge_23 rfl (lv_at hl 1 rfl) ?_
  have hFc := pu_free hD hS hA
  refine va_calli (va_runV (As := []) (rest := [.int (nI (0 + m14_0)), .ref (ad 5)]) ⟨hx, hb, hml, hown, hts⟩ (c_EM_toldPlace_0 l dC dI _ ad ck x0 x16 x18 x19 x20 x21 x22 x23 x24 x25 x26 x27 x29 x30 x33 x45 x46 x52 x53 x61 x62 x63 x65 x66 f1 f2 f3 q4 q5 q6 q7 f8 q9 q10 f11 m12_0 m12_1 m13_0 m13_1 m14_0 m14_1 m15_0 m15_1 f17 q31 f32 f34 f35 f36 f37 q38 f39 f40 f41 m42_0 m42_1 f43 f44 f47 f48 f49 f50 f51 q54 q55 q56 f57 q58 f59 f60 f64 hx16 hx18 hx19 hx21 hx22 hx26 hx29 hx30 hx33 hx46 hx52 hx53 hx61 hx62 hx63 hx65 hm12_0 hm12_1 hm13_0 hm13_1 (Nat.le_trans hm14_0 (Nat.le_of_ble_eq_true rfl)) hm14_1 hm15_0 hm15_1 hm42_0 hm42_1) (cwV 0 hts g_EM_readEdge_0_EM_toldPlace_0 rfl rfl rfl (by decide +kernel) ⟨Nat.le_of_ble_eq_true rfl, Nat.le_of_ble_eq_true rfl⟩) ⟨pu_bl, va_recv hK hP (ci := 9) (q0 := 0) rfl rfl, pu_in hP hK hD⟩ rfl rfl hl.1 rfl (lv_room (Nat.le_of_ble_eq_true rfl)) dX9_readEdge_24 ⟨Nat.le_of_ble_eq_true rfl, Nat.le_of_ble_eq_true rfl⟩) hS (fun q _ h => hFc q h) hFc (fun r_4 u t H1 locs ht hvm hw hB hz1 hk1 hS => ?_)
  obtain ⟨z20_5, z21_6, z22_7, z23_8, z26_9, z27_10, ⟨hP1, -, hD1⟩, hz21_6, hz22_7, hz26_9, xr_4_0, xr_4_1⟩ := hB
  rw [ht] at hP1
  have hP := hP1
  have hD := pu_all hFc hD1
  clear hP1 hD1 hFc
  clear hk1 hz1 ht hvm
  generalize H1 = H at hP hS ⊢
  obtain ⟨u_11, hu_11, rfl, iu_11⟩ := hw
  have iu_11 : (u_11, z20_5, z21_6, z22_7, z23_8, z26_9, z27_10) = (sp_EM_toldPlace_0 x19 x20 x21 x22 x23 x26 x27 f2 m13_0 f17) := Prod.ext iu_11 xr_4_1
  have hsp := hsp.trans (slet_eq iu_11)
  refine va_iast hx hb hK hP hD hS 5 4 rfl rfl (vp_in_nI (n := (0 + m14_0)) (by omega) (Nat.le_of_ble_eq_true rfl)) dX9_readEdge_27 (fun H locs hP hD hS => ?_)
  obtain ⟨q_12, eq_12, kq_12, oq_12, xq_12⟩ := bN_upx 7 q5 (n := (0 + m14_0)) (v := u_11) (by omega) hu_11
  have hP : va_P (dC, dI) vwCl (mo_w ad ck x0 (nI x16) (nI x18) (nI x19) z20_5 (nI z21_6) (nI z22_7) z23_8 x24 x25 (nI z26_9) z27_10 0 (nI x29) (nI x30) (nI x33) x45 (nI x46) (nI x52) (nI x53) (nI x61) (nI x62) (nI x63) (nI x65) x66 f1 f2 f3 (bN 3 q4) (bN 7 q_12) (bN 7 q6) (bN 4 q7) f8 (bN 2 q9) (bH q10) f11 (b2 m12_0 m12_1) (b2 m13_0 m13_1) (b2 m14_0 m14_1) (b2m m15_0 m15_1) f17 (bA 159 q31) f32 f34 f35 f36 f37 (bN 7 q38) f39 f40 f41 (b2 m42_0 m42_1) f43 f44 f47 f48 f49 f50 f51 (bN 13 q54) (bN 120 q55) (bN 120 q56) f57 (bN 120 q58) f59 f60 f64) H := by rw [← eq_12]; exact hP
  have hD : va_D A (mo_w ad ck x0 (nI x16) (nI x18) (nI x19) z20_5 (nI z21_6) (nI z22_7) z23_8 x24 x25 (nI z26_9) z27_10 0 (nI x29) (nI x30) (nI x33) x45 (nI x46) (nI x52) (nI x53) (nI x61) (nI x62) (nI x63) (nI x65) x66 f1 f2 f3 (bN 3 q4) (bN 7 q_12) (bN 7 q6) (bN 4 q7) f8 (bN 2 q9) (bH q10) f11 (b2 m12_0 m12_1) (b2 m13_0 m13_1) (b2 m14_0 m14_1) (b2m m15_0 m15_1) f17 (bA 159 q31) f32 f34 f35 f36 f37 (bN 7 q38) f39 f40 f41 (b2 m42_0 m42_1) f43 f44 f47 f48 f49 f50 f51 (bN 13 q54) (bN 120 q55) (bN 120 q56) f57 (bN 120 q58) f59 f60 f64) := by rw [← eq_12]; exact hD
  have hsp := hsp.trans (slet_eq xq_12)
  refine lv_aload_n hx hb dX9_readEdge_28 rfl (lv_at hl 1 rfl) ?_
  refine va_get (D := (dC, dI)) (ci := 9) (v := .ref (ad 6)) (C := RX9) (T := TX9) (N := 67) hx hb hts hiX9 hown hK hP 0 rfl rfl 6 (by decide) v_9 (fun _ h9 => h9) rfl dX9_readEdge_29 ?_
  refine lv_iload_n hx hb dX9_readEdge_32 rfl (lv_at hl 0 rfl) ?_
  refine lv_aload_n hx hb dX9_readEdge_33 rfl (lv_at hl 1 rfl) ?_
  refine va_calli (va_runV (As := []) (rest := [.int (nI (0 + m14_0)), .ref (ad 6)]) ⟨hx, hb, hml, hown, hts⟩ (c_EM_isGood l dC dI _ ad ck x0 x16 x18 x19 z20_5 z21_6 z22_7 z23_8 x24 x25 z26_9 z27_10 0 x29 x30 x33 x45 x46 x52 x53 x61 x62 x63 x65 x66 f1 f2 f3 q4 q_12 q6 q7 f8 q9 q10 f11 m12_0 m12_1 m13_0 m13_1 m14_0 m14_1 m15_0 m15_1 f17 q31 f32 f34 f35 f36 f37 q38 f39 f40 f41 m42_0 m42_1 f43 f44 f47 f48 f49 f50 f51 q54 q55 q56 f57 q58 f59 f60 f64 hx16 hx18 hx19 hz21_6 hz22_7 hz26_9 (Nat.le_of_ble_eq_true rfl) hx29 hx30 hx33 hx46 hx52 hx53 hx61 hx62 hx63 hx65 hm12_0 hm12_1 hm13_0 hm13_1 (Nat.le_trans hm14_0 (Nat.le_of_ble_eq_true rfl)) hm14_1 hm15_0 hm15_1 hm42_0 hm42_1) (cwV 0 hts g_EM_readEdge_0_EM_isGood rfl rfl rfl (by decide +kernel) ⟨Nat.le_of_ble_eq_true rfl, Nat.le_of_ble_eq_true rfl⟩) ⟨pu_bl, va_recv hK hP (ci := 9) (q0 := 0) rfl rfl, pu_in hP hK hD⟩ rfl rfl hl.1 rfl (lv_room (Nat.le_of_ble_eq_true rfl)) dX9_readEdge_34 ⟨Nat.le_of_ble_eq_true rfl, Nat.le_of_ble_eq_true rfl⟩) hS (fun q _ h => pu_fr hS hA q h) (pu_fr hS hA) (fun r_13 u t H1 locs ht hvm hw hB hz1 hk1 hS => ?_)
  have hP := pu_keep hP hk1
  clear hk1 hz1 ht hvm
  generalize H1 = H at hP hS ⊢
  obtain ⟨u_14, hu_14, rfl, ju_14, iu_14⟩ := hw
  have hsp := hsp.trans (slet_eq iu_14)
  obtain ⟨JR_24, hJR_24, hsp⟩ := slet_ex hsp
  refine pu_join (fun H locs ls st => ∃ (g_15 : Int32) (g_16 : Nat) (g_17 : Nat) (g_18 : Int32) (g_19 : Nat) (g_20 : Int32) (g_21 : Nat), st = [.int (nI g_21), .int (nI (0 + m14_0)), .ref (ad 6)] ∧ g_16 ≤ 900 ∧ g_17 ≤ 4 ∧ g_19 ≤ 6 ∧ g_21 ≤ 7 ∧ mu g_16 g_17 ≤ mu x21 x22 ∧ (g_15, g_16, g_17, g_18, g_19, g_20, g_21) = JR_24 ∧ va_P (dC, dI) vwCl (mo_w ad ck x0 (nI x16) (nI x18) (nI x19) g_15 (nI g_16) (nI g_17) g_18 x24 x25 (nI g_19) g_20 0 (nI x29) (nI x30) (nI x33) x45 (nI x46) (nI x52) (nI x53) (nI x61) (nI x62) (nI x63) (nI x65) x66 f1 f2 f3 (bN 3 q4) (bN 7 q_12) (bN 7 q6) (bN 4 q7) f8 (bN 2 q9) (bH q10) f11 (b2 m12_0 m12_1) (b2 m13_0 m13_1) (b2 m14_0 m14_1) (b2m m15_0 m15_1) f17 (bA 159 q31) f32 f34 f35 f36 f37 (bN 7 q38) f39 f40 f41 (b2 m42_0 m42_1) f43 f44 f47 f48 f49 f50 f51 (bN 13 q54) (bN 120 q55) (bN 120 q56) f57 (bN 120 q58) f59 f60 f64) H ∧ va_D A (mo_w ad ck x0 (nI x16) (nI x18) (nI x19) g_15 (nI g_16) (nI g_17) g_18 x24 x25 (nI g_19) g_20 0 (nI x29) (nI x30) (nI x33) x45 (nI x46) (nI x52) (nI x53) (nI x61) (nI x62) (nI x63) (nI x65) x66 f1 f2 f3 (bN 3 q4) (bN 7 q_12) (bN 7 q6) (bN 4 q7) f8 (bN 2 q9) (bH q10) f11 (b2 m12_0 m12_1) (b2 m13_0 m13_1) (b2 m14_0 m14_1) (b2m m15_0 m15_1) f17 (bA 159 q31) f32 f34 f35 f36 f37 (bN 7 q38) f39 f40 f41 (b2 m42_0 m42_1) f43 f44 f47 f48 f49 f50 f51 (bN 13 q54) (bN 120 q55) (bN 120 q56) f57 (bN 120 q58) f59 f60 f64) ∧ va_S A s.heap H locs ∧ lv_has ls 3 [(0, .ref (ad 0)), (1, .int (nI (0 + m14_0)))]) 48 ?_ (fun j_23 => ?_)
  · rintro H locs ls st ⟨g_15, g_16, g_17, g_18, g_19, g_20, g_21, rfl, hg_16, hg_17, hg_19, hg_21, he_22, he_25, hP, hD, hS, hl⟩
    rw [← he_25] at hsp
    refine va_iast hx hb hK hP hD hS 6 5 rfl rfl (vp_in_nI (n := (0 + m14_0)) (by omega) (Nat.le_of_ble_eq_true rfl)) dX9_readEdge_48 (fun H locs hP hD hS => ?_)
    obtain ⟨q_26, eq_26, kq_26, oq_26, xq_26⟩ := bN_upx 7 q6 (n := (0 + m14_0)) (v := g_21) (by omega) hg_21
    have hP : va_P (dC, dI) vwCl (mo_w ad ck x0 (nI x16) (nI x18) (nI x19) g_15 (nI g_16) (nI g_17) g_18 x24 x25 (nI g_19) g_20 0 (nI x29) (nI x30) (nI x33) x45 (nI x46) (nI x52) (nI x53) (nI x61) (nI x62) (nI x63) (nI x65) x66 f1 f2 f3 (bN 3 q4) (bN 7 q_12) (bN 7 q_26) (bN 4 q7) f8 (bN 2 q9) (bH q10) f11 (b2 m12_0 m12_1) (b2 m13_0 m13_1) (b2 m14_0 m14_1) (b2m m15_0 m15_1) f17 (bA 159 q31) f32 f34 f35 f36 f37 (bN 7 q38) f39 f40 f41 (b2 m42_0 m42_1) f43 f44 f47 f48 f49 f50 f51 (bN 13 q54) (bN 120 q55) (bN 120 q56) f57 (bN 120 q58) f59 f60 f64) H := by rw [← eq_26]; exact hP
    have hD : va_D A (mo_w ad ck x0 (nI x16) (nI x18) (nI x19) g_15 (nI g_16) (nI g_17) g_18 x24 x25 (nI g_19) g_20 0 (nI x29) (nI x30) (nI x33) x45 (nI x46) (nI x52) (nI x53) (nI x61) (nI x62) (nI x63) (nI x65) x66 f1 f2 f3 (bN 3 q4) (bN 7 q_12) (bN 7 q_26) (bN 4 q7) f8 (bN 2 q9) (bH q10) f11 (b2 m12_0 m12_1) (b2 m13_0 m13_1) (b2 m14_0 m14_1) (b2m m15_0 m15_1) f17 (bA 159 q31) f32 f34 f35 f36 f37 (bN 7 q38) f39 f40 f41 (b2 m42_0 m42_1) f43 f44 f47 f48 f49 f50 f51 (bN 13 q54) (bN 120 q55) (bN 120 q56) f57 (bN 120 q58) f59 f60 f64) := by rw [← eq_26]; exact hD
    have hsp := hsp.trans (slet_eq xq_26)
    refine lv_aload_n hx hb dX9_readEdge_49 rfl (lv_at hl 0 rfl) ?_
    refine va_get (D := (dC, dI)) (ci := 9) (v := .ref (ad 7)) (C := RX9) (T := TX9) (N := 67) hx hb hts hiX9 hown hK hP 0 rfl rfl 7 (by decide) v_14 (fun _ h9 => h9) rfl dX9_readEdge_50 ?_
    refine lv_iload_n hx hb dX9_readEdge_53 rfl (lv_at hl 1 rfl) ?_
    refine lv_iconst (v := 0) hx hb dX9_readEdge_54 (by decide) ?_
    refine va_iast hx hb hK hP hD hS 7 6 rfl rfl (vp_in_nI (n := (0 + m14_0)) (by omega) (Nat.le_of_ble_eq_true rfl)) dX9_readEdge_55 (fun H locs hP hD hS => ?_)
    obtain ⟨q_27, eq_27, kq_27, oq_27, xq_27⟩ := bN_upx 4 q7 (n := (0 + m14_0)) (v := 0) (by omega) (Nat.le_of_ble_eq_true rfl)
    have hP : va_P (dC, dI) vwCl (mo_w ad ck x0 (nI x16) (nI x18) (nI x19) g_15 (nI g_16) (nI g_17) g_18 x24 x25 (nI g_19) g_20 0 (nI x29) (nI x30) (nI x33) x45 (nI x46) (nI x52) (nI x53) (nI x61) (nI x62) (nI x63) (nI x65) x66 f1 f2 f3 (bN 3 q4) (bN 7 q_12) (bN 7 q_26) (bN 4 q_27) f8 (bN 2 q9) (bH q10) f11 (b2 m12_0 m12_1) (b2 m13_0 m13_1) (b2 m14_0 m14_1) (b2m m15_0 m15_1) f17 (bA 159 q31) f32 f34 f35 f36 f37 (bN 7 q38) f39 f40 f41 (b2 m42_0 m42_1) f43 f44 f47 f48 f49 f50 f51 (bN 13 q54) (bN 120 q55) (bN 120 q56) f57 (bN 120 q58) f59 f60 f64) H := by rw [← eq_27]; exact hP
    have hD : va_D A (mo_w ad ck x0 (nI x16) (nI x18) (nI x19) g_15 (nI g_16) (nI g_17) g_18 x24 x25 (nI g_19) g_20 0 (nI x29) (nI x30) (nI x33) x45 (nI x46) (nI x52) (nI x53) (nI x61) (nI x62) (nI x63) (nI x65) x66 f1 f2 f3 (bN 3 q4) (bN 7 q_12) (bN 7 q_26) (bN 4 q_27) f8 (bN 2 q9) (bH q10) f11 (b2 m12_0 m12_1) (b2 m13_0 m13_1) (b2 m14_0 m14_1) (b2m m15_0 m15_1) f17 (bA 159 q31) f32 f34 f35 f36 f37 (bN 7 q38) f39 f40 f41 (b2 m42_0 m42_1) f43 f44 f47 f48 f49 f50 f51 (bN 13 q54) (bN 120 q55) (bN 120 q56) f57 (bN 120 q58) f59 f60 f64) := by rw [← eq_27]; exact hD
    have hsp := hsp.trans (slet_eq xq_27)
    refine lv_aload_n hx hb dX9_readEdge_56 rfl (lv_at hl 0 rfl) ?_
    refine va_get (D := (dC, dI)) (ci := 9) (v := .ref (ad 8)) (C := RX9) (T := TX9) (N := 67) hx hb hts hiX9 hown hK hP 0 rfl rfl 8 (by decide) v_15 (fun _ h9 => h9) rfl dX9_readEdge_57 ?_
    refine lv_iload_n hx hb dX9_readEdge_60 rfl (lv_at hl 1 rfl) ?_
    refine lv_iconst (v := 0) hx hb dX9_readEdge_61 (by decide) ?_
    refine va_iast hx hb hK hP hD hS 8 7 rfl rfl (vp_in_nI (n := (0 + m14_0)) (by omega) (Nat.le_of_ble_eq_true rfl)) dX9_readEdge_62 (fun H locs hP hD hS => ?_)
    obtain ⟨f_28, ef_28, xf_28⟩ := up_x f8 (n := (0 + m14_0)) 0 (by omega)
    have hP : va_P (dC, dI) vwCl (mo_w ad ck x0 (nI x16) (nI x18) (nI x19) g_15 (nI g_16) (nI g_17) g_18 x24 x25 (nI g_19) g_20 0 (nI x29) (nI x30) (nI x33) x45 (nI x46) (nI x52) (nI x53) (nI x61) (nI x62) (nI x63) (nI x65) x66 f1 f2 f3 (bN 3 q4) (bN 7 q_12) (bN 7 q_26) (bN 4 q_27) f_28 (bN 2 q9) (bH q10) f11 (b2 m12_0 m12_1) (b2 m13_0 m13_1) (b2 m14_0 m14_1) (b2m m15_0 m15_1) f17 (bA 159 q31) f32 f34 f35 f36 f37 (bN 7 q38) f39 f40 f41 (b2 m42_0 m42_1) f43 f44 f47 f48 f49 f50 f51 (bN 13 q54) (bN 120 q55) (bN 120 q56) f57 (bN 120 q58) f59 f60 f64) H := by rw [← ef_28]; exact hP
    have hD : va_D A (mo_w ad ck x0 (nI x16) (nI x18) (nI x19) g_15 (nI g_16) (nI g_17) g_18 x24 x25 (nI g_19) g_20 0 (nI x29) (nI x30) (nI x33) x45 (nI x46) (nI x52) (nI x53) (nI x61) (nI x62) (nI x63) (nI x65) x66 f1 f2 f3 (bN 3 q4) (bN 7 q_12) (bN 7 q_26) (bN 4 q_27) f_28 (bN 2 q9) (bH q10) f11 (b2 m12_0 m12_1) (b2 m13_0 m13_1) (b2 m14_0 m14_1) (b2m m15_0 m15_1) f17 (bA 159 q31) f32 f34 f35 f36 f37 (bN 7 q38) f39 f40 f41 (b2 m42_0 m42_1) f43 f44 f47 f48 f49 f50 f51 (bN 13 q54) (bN 120 q55) (bN 120 q56) f57 (bN 120 q58) f59 f60 f64) := by rw [← ef_28]; exact hD
    have hsp := hsp.trans (slet_eq xf_28)
    obtain ⟨lf_52, dlf_52, hlf_52, hsp⟩ := itr_ex hsp
    delta sp_EM_readEdge_0_L3 at hlf_52
    refine pu_while (fun nn H locs ls => ∃ (g_40 : Nat → Nat) (g_41 : Nat → Int32) (g_42 : Nat → Nat) (g_43 : Nat → Nat) (g_44 : Int32) (g_45 : Nat) (g_46 : Nat) (g_47 : Int32) (g_48 : Nat) (g_49 : Int32), nn = mu g_45 g_46 ∧ g_45 ≤ 900 ∧ g_46 ≤ 4 ∧ g_48 ≤ 6 ∧ mu g_45 g_46 ≤ mu x21 x22 ∧ RR = itrv dlf_52 lf_52 (g_40, g_41, g_42, g_43, g_44, g_45, g_46, g_47, g_48, g_49) ∧ va_P (dC, dI) vwCl (mo_w ad ck x0 (nI x16) (nI x18) (nI x19) g_44 (nI g_45) (nI g_46) g_47 x24 x25 (nI g_48) g_49 0 (nI x29) (nI x30) (nI x33) x45 (nI x46) (nI x52) (nI x53) (nI x61) (nI x62) (nI x63) (nI x65) x66 f1 f2 f3 (bN 3 q4) (bN 7 q_12) (bN 7 q_26) (bN 4 g_42) f_28 (bN 2 g_43) (bH g_40) g_41 (b2 m12_0 m12_1) (b2 m13_0 m13_1) (b2 m14_0 m14_1) (b2m m15_0 m15_1) f17 (bA 159 q31) f32 f34 f35 f36 f37 (bN 7 q38) f39 f40 f41 (b2 m42_0 m42_1) f43 f44 f47 f48 f49 f50 f51 (bN 13 q54) (bN 120 q55) (bN 120 q56) f57 (bN 120 q58) f59 f60 f64) H ∧ va_D A (mo_w ad ck x0 (nI x16) (nI x18) (nI x19) g_44 (nI g_45) (nI g_46) g_47 x24 x25 (nI g_48) g_49 0 (nI x29) (nI x30) (nI x33) x45 (nI x46) (nI x52) (nI x53) (nI x61) (nI x62) (nI x63) (nI x65) x66 f1 f2 f3 (bN 3 q4) (bN 7 q_12) (bN 7 q_26) (bN 4 g_42) f_28 (bN 2 g_43) (bH g_40) g_41 (b2 m12_0 m12_1) (b2 m13_0 m13_1) (b2 m14_0 m14_1) (b2m m15_0 m15_1) f17 (bA 159 q31) f32 f34 f35 f36 f37 (bN 7 q38) f39 f40 f41 (b2 m42_0 m42_1) f43 f44 f47 f48 f49 f50 f51 (bN 13 q54) (bN 120 q55) (bN 120 q56) f57 (bN 120 q58) f59 f60 f64) ∧ va_S A s.heap H locs ∧ lv_has ls 3 [(0, .ref (ad 0)), (1, .int (nI (0 + m14_0)))]) 63 ?_ _ _ _ _ ⟨q10, f11, q_27, q9, g_15, g_16, g_17, g_18, g_19, g_20, rfl, hg_16, hg_17, hg_19, by omega, hsp, hP, hD, hS, lv_sub hl [0, 1] rfl⟩
    rintro nn ih_51 H locs ls ⟨g_40, g_41, g_42, g_43, g_44, g_45, g_46, g_47, g_48, g_49, rfl, hg_45, hg_46, hg_48, he_50, he_54, hP, hD, hS, hl⟩
    obtain ⟨S_53, hsp, hin_55, hout_56⟩ := itr_step hlf_52 he_54
    refine lv_aload_n hx hb dX9_readEdge_63 rfl (lv_at hl 0 rfl) ?_
    refine va_calli (va_runV (As := []) (rest := []) ⟨hx, hb, hml, hown, hts⟩ (c_EM_isGood l dC dI _ ad ck x0 x16 x18 x19 g_44 g_45 g_46 g_47 x24 x25 g_48 g_49 0 x29 x30 x33 x45 x46 x52 x53 x61 x62 x63 x65 x66 f1 f2 f3 q4 q_12 q_26 g_42 f_28 g_43 g_40 g_41 m12_0 m12_1 m13_0 m13_1 m14_0 m14_1 m15_0 m15_1 f17 q31 f32 f34 f35 f36 f37 q38 f39 f40 f41 m42_0 m42_1 f43 f44 f47 f48 f49 f50 f51 q54 q55 q56 f57 q58 f59 f60 f64 hx16 hx18 hx19 hg_45 hg_46 hg_48 (Nat.le_of_ble_eq_true rfl) hx29 hx30 hx33 hx46 hx52 hx53 hx61 hx62 hx63 hx65 hm12_0 hm12_1 hm13_0 hm13_1 (Nat.le_trans hm14_0 (Nat.le_of_ble_eq_true rfl)) hm14_1 hm15_0 hm15_1 hm42_0 hm42_1) (cwV 0 hts g_EM_readEdge_0_EM_isGood rfl rfl rfl (by decide +kernel) ⟨Nat.le_of_ble_eq_true rfl, Nat.le_of_ble_eq_true rfl⟩) ⟨pu_bl, va_recv hK hP (ci := 9) (q0 := 0) rfl rfl, pu_in hP hK hD⟩ rfl rfl hl.1 rfl (lv_room (Nat.le_of_ble_eq_true rfl)) dX9_readEdge_64 ⟨Nat.le_of_ble_eq_true rfl, Nat.le_of_ble_eq_true rfl⟩) hS (fun q _ h => pu_fr hS hA q h) (pu_fr hS hA) (fun r_57 u t H1 locs ht hvm hw hB hz1 hk1 hS => ?_)
    have hP := pu_keep hP hk1
    clear hk1 hz1 ht hvm
    generalize H1 = H at hP hS ⊢
    obtain ⟨u_58, hu_58, rfl, ju_58, iu_58⟩ := hw
    have hsp := hsp.trans (slet_eq iu_58)
    refine lv_if_eq (tgt := 139) hx hb dX9_readEdge_67 (by decide) (fun c_59 => ?_) (fun c_59 => ?_)
    · have c_59 : u_58 = 0 := (nI_eq (a := u_58) (b := 0) (Nat.lt_of_le_of_lt hu_58 (Nat.le_of_ble_eq_true rfl)) (Nat.le_of_ble_eq_true rfl)).mp c_59
      have hsp := hsp.trans (if_pos c_59)
      have hsp := hout_56 _ hsp
      obtain ⟨JR_69, hJR_69, hsp⟩ := slet_ex hsp
      refine pu_join (fun H locs ls st => ∃ (g_60 : Int32) (g_61 : Nat) (g_62 : Nat) (g_63 : Int32) (g_64 : Nat) (g_65 : Int32) (g_66 : Nat → Int32), st = [] ∧ g_61 ≤ 900 ∧ g_62 ≤ 4 ∧ g_64 ≤ 6 ∧ mu g_61 g_62 ≤ mu x21 x22 ∧ (g_60, g_61, g_62, g_63, g_64, g_65, g_66) = JR_69 ∧ va_P (dC, dI) vwCl (mo_w ad ck x0 (nI x16) (nI x18) (nI x19) g_60 (nI g_61) (nI g_62) g_63 x24 x25 (nI g_64) g_65 0 (nI x29) (nI x30) (nI x33) x45 (nI x46) (nI x52) (nI x53) (nI x61) (nI x62) (nI x63) (nI x65) x66 f1 f2 f3 (bN 3 q4) (bN 7 q_12) (bN 7 q_26) (bN 4 g_42) g_66 (bN 2 g_43) (bH g_40) g_41 (b2 m12_0 m12_1) (b2 m13_0 m13_1) (b2 m14_0 m14_1) (b2m m15_0 m15_1) f17 (bA 159 q31) f32 f34 f35 f36 f37 (bN 7 q38) f39 f40 f41 (b2 m42_0 m42_1) f43 f44 f47 f48 f49 f50 f51 (bN 13 q54) (bN 120 q55) (bN 120 q56) f57 (bN 120 q58) f59 f60 f64) H ∧ va_D A (mo_w ad ck x0 (nI x16) (nI x18) (nI x19) g_60 (nI g_61) (nI g_62) g_63 x24 x25 (nI g_64) g_65 0 (nI x29) (nI x30) (nI x33) x45 (nI x46) (nI x52) (nI x53) (nI x61) (nI x62) (nI x63) (nI x65) x66 f1 f2 f3 (bN 3 q4) (bN 7 q_12) (bN 7 q_26) (bN 4 g_42) g_66 (bN 2 g_43) (bH g_40) g_41 (b2 m12_0 m12_1) (b2 m13_0 m13_1) (b2 m14_0 m14_1) (b2m m15_0 m15_1) f17 (bA 159 q31) f32 f34 f35 f36 f37 (bN 7 q38) f39 f40 f41 (b2 m42_0 m42_1) f43 f44 f47 f48 f49 f50 f51 (bN 13 q54) (bN 120 q55) (bN 120 q56) f57 (bN 120 q58) f59 f60 f64) ∧ va_S A s.heap H locs ∧ lv_has ls 3 [(0, .ref (ad 0)), (1, .int (nI (0 + m14_0)))]) 215 ?_ (fun j_68 => ?_)
      · rintro H locs ls st ⟨g_60, g_61, g_62, g_63, g_64, g_65, g_66, rfl, hg_61, hg_62, hg_64, he_67, he_70, hP, hD, hS, hl⟩
        rw [← he_70] at hsp
        refine lv_aload_n hx hb dX9_readEdge_215 rfl (lv_at hl 0 rfl) ?_
        refine va_get (D := (dC, dI)) (ci := 9) (v := .ref (ad 14)) (C := RX9) (T := TX9) (N := 67) hx hb hts hiX9 hown hK hP 0 rfl rfl 14 (by decide) v_2 (fun _ h9 => h9) rfl dX9_readEdge_216 ?_
        refine lv_aload_n hx hb dX9_readEdge_219 rfl (lv_at hl 0 rfl) ?_
        refine va_get (D := (dC, dI)) (ci := 9) (v := .int 0) (C := RX9) (T := TX9) (N := 67) hx hb hts hiX9 hown hK hP 0 rfl rfl 28 (by decide) v_1 (fun _ h9 => h9) rfl dX9_readEdge_220 ?_
        refine lv_dup2_11 hx hb dX9_readEdge_223 rfl rfl ?_
        refine va_iald hx hb hK hP 14 13 rfl rfl (vp_in_nI (n := 0) (Nat.le_of_ble_eq_true rfl) (Nat.le_of_ble_eq_true rfl)) dX9_readEdge_224 ?_
        refine lv_topi (fun y_71 ey_71 => ?_)
        have qy_71 := ey_71.trans b2_0
        clear ey_71
        obtain rfl : y_71 = nI m14_0 := qy_71
        refine lv_iconst (v := 1) hx hb dX9_readEdge_225 (by decide) ?_
        refine lv_iadd hx hb dX9_readEdge_226 ?_
        refine lv_topi (fun y_72 ey_72 => ?_)
        obtain rfl : y_72 = (nI (m14_0 + 1)) := ey_72.trans (nI_add m14_0 1)
        refine va_iast hx hb hK hP hD hS 14 13 rfl rfl (vp_in_nI (n := 0) (Nat.le_of_ble_eq_true rfl) (Nat.le_of_ble_eq_true rfl)) dX9_readEdge_227 (fun H locs hP hD hS => ?_)
        have hP : va_P (dC, dI) vwCl (mo_w ad ck x0 (nI x16) (nI x18) (nI x19) g_60 (nI g_61) (nI g_62) g_63 x24 x25 (nI g_64) g_65 0 (nI x29) (nI x30) (nI x33) x45 (nI x46) (nI x52) (nI x53) (nI x61) (nI x62) (nI x63) (nI x65) x66 f1 f2 f3 (bN 3 q4) (bN 7 q_12) (bN 7 q_26) (bN 4 g_42) g_66 (bN 2 g_43) (bH g_40) g_41 (b2 m12_0 m12_1) (b2 m13_0 m13_1) (b2 (m14_0 + 1) m14_1) (b2m m15_0 m15_1) f17 (bA 159 q31) f32 f34 f35 f36 f37 (bN 7 q38) f39 f40 f41 (b2 m42_0 m42_1) f43 f44 f47 f48 f49 f50 f51 (bN 13 q54) (bN 120 q55) (bN 120 q56) f57 (bN 120 q58) f59 f60 f64) H := by rw [← b2_up0 (a := m14_0) (b := m14_1) (v := (m14_0 + 1))]; exact hP
        have hD : va_D A (mo_w ad ck x0 (nI x16) (nI x18) (nI x19) g_60 (nI g_61) (nI g_62) g_63 x24 x25 (nI g_64) g_65 0 (nI x29) (nI x30) (nI x33) x45 (nI x46) (nI x52) (nI x53) (nI x61) (nI x62) (nI x63) (nI x65) x66 f1 f2 f3 (bN 3 q4) (bN 7 q_12) (bN 7 q_26) (bN 4 g_42) g_66 (bN 2 g_43) (bH g_40) g_41 (b2 m12_0 m12_1) (b2 m13_0 m13_1) (b2 (m14_0 + 1) m14_1) (b2m m15_0 m15_1) f17 (bA 159 q31) f32 f34 f35 f36 f37 (bN 7 q38) f39 f40 f41 (b2 m42_0 m42_1) f43 f44 f47 f48 f49 f50 f51 (bN 13 q54) (bN 120 q55) (bN 120 q56) f57 (bN 120 q58) f59 f60 f64) := by rw [← b2_up0 (a := m14_0) (b := m14_1) (v := (m14_0 + 1))]; exact hD
        exact W.vret hx hb hr (fun t ht hW => ⟨⟨(), rfl, trivial, ⟨g_40, g_41, q_12, q_26, g_42, g_66, g_43, (m14_0 + 1), g_60, g_61, g_62, g_63, g_64, g_65, ⟨by rw [ht]; exact hP, va_K.moved hW.alike hK, hD⟩, (by omega), hg_61, hg_62, hg_64, by omega, (hsp.symm.trans hRR)⟩⟩, hS.F ht⟩) hS.2.2 dX9_readEdge_228
      have hsp := hJR_69
      obtain ⟨lf_90, dlf_90, hlf_90, hsp⟩ := itr_ex hsp
      delta sp_EM_readEdge_0_L1 at hlf_90
      refine pu_while (fun nn H locs ls => ∃ (g_81 : Nat → Int32) (g_82 : Int32) (g_83 : Nat) (g_84 : Nat) (g_85 : Int32) (g_86 : Nat) (g_87 : Int32), nn = mu g_83 g_84 ∧ g_83 ≤ 900 ∧ g_84 ≤ 4 ∧ g_86 ≤ 6 ∧ mu g_83 g_84 ≤ mu x21 x22 ∧ JR_69 = itrv dlf_90 lf_90 (g_81, g_82, g_83, g_84, g_85, g_86, g_87) ∧ va_P (dC, dI) vwCl (mo_w ad ck x0 (nI x16) (nI x18) (nI x19) g_82 (nI g_83) (nI g_84) g_85 x24 x25 (nI g_86) g_87 0 (nI x29) (nI x30) (nI x33) x45 (nI x46) (nI x52) (nI x53) (nI x61) (nI x62) (nI x63) (nI x65) x66 f1 f2 f3 (bN 3 q4) (bN 7 q_12) (bN 7 q_26) (bN 4 g_42) g_81 (bN 2 g_43) (bH g_40) g_41 (b2 m12_0 m12_1) (b2 m13_0 m13_1) (b2 m14_0 m14_1) (b2m m15_0 m15_1) f17 (bA 159 q31) f32 f34 f35 f36 f37 (bN 7 q38) f39 f40 f41 (b2 m42_0 m42_1) f43 f44 f47 f48 f49 f50 f51 (bN 13 q54) (bN 120 q55) (bN 120 q56) f57 (bN 120 q58) f59 f60 f64) H ∧ va_D A (mo_w ad ck x0 (nI x16) (nI x18) (nI x19) g_82 (nI g_83) (nI g_84) g_85 x24 x25 (nI g_86) g_87 0 (nI x29) (nI x30) (nI x33) x45 (nI x46) (nI x52) (nI x53) (nI x61) (nI x62) (nI x63) (nI x65) x66 f1 f2 f3 (bN 3 q4) (bN 7 q_12) (bN 7 q_26) (bN 4 g_42) g_81 (bN 2 g_43) (bH g_40) g_41 (b2 m12_0 m12_1) (b2 m13_0 m13_1) (b2 m14_0 m14_1) (b2m m15_0 m15_1) f17 (bA 159 q31) f32 f34 f35 f36 f37 (bN 7 q38) f39 f40 f41 (b2 m42_0 m42_1) f43 f44 f47 f48 f49 f50 f51 (bN 13 q54) (bN 120 q55) (bN 120 q56) f57 (bN 120 q58) f59 f60 f64) ∧ va_S A s.heap H locs ∧ lv_has ls 3 [(0, .ref (ad 0)), (1, .int (nI (0 + m14_0)))]) 139 ?_ _ _ _ _ ⟨f_28, g_44, g_45, g_46, g_47, g_48, g_49, rfl, hg_45, hg_46, hg_48, by omega, hsp, hP, hD, hS, lv_sub hl [0, 1] rfl⟩
      rintro nn ih_89 H locs ls ⟨g_81, g_82, g_83, g_84, g_85, g_86, g_87, rfl, hg_83, hg_84, hg_86, he_88, he_92, hP, hD, hS, hl⟩
      obtain ⟨S_91, hsp, hin_93, hout_94⟩ := itr_step hlf_90 he_92
      refine lv_aload_n hx hb dX9_readEdge_139 rfl (lv_at hl 0 rfl) ?_
      refine va_calli (va_runV (As := []) (rest := []) ⟨hx, hb, hml, hown, hts⟩ (c_EM_isGood l dC dI _ ad ck x0 x16 x18 x19 g_82 g_83 g_84 g_85 x24 x25 g_86 g_87 0 x29 x30 x33 x45 x46 x52 x53 x61 x62 x63 x65 x66 f1 f2 f3 q4 q_12 q_26 g_42 g_81 g_43 g_40 g_41 m12_0 m12_1 m13_0 m13_1 m14_0 m14_1 m15_0 m15_1 f17 q31 f32 f34 f35 f36 f37 q38 f39 f40 f41 m42_0 m42_1 f43 f44 f47 f48 f49 f50 f51 q54 q55 q56 f57 q58 f59 f60 f64 hx16 hx18 hx19 hg_83 hg_84 hg_86 (Nat.le_of_ble_eq_true rfl) hx29 hx30 hx33 hx46 hx52 hx53 hx61 hx62 hx63 hx65 hm12_0 hm12_1 hm13_0 hm13_1 (Nat.le_trans hm14_0 (Nat.le_of_ble_eq_true rfl)) hm14_1 hm15_0 hm15_1 hm42_0 hm42_1) (cwV 0 hts g_EM_readEdge_0_EM_isGood rfl rfl rfl (by decide +kernel) ⟨Nat.le_of_ble_eq_true rfl, Nat.le_of_ble_eq_true rfl⟩) ⟨pu_bl, va_recv hK hP (ci := 9) (q0 := 0) rfl rfl, pu_in hP hK hD⟩ rfl rfl hl.1 rfl (lv_room (Nat.le_of_ble_eq_true rfl)) dX9_readEdge_140 ⟨Nat.le_of_ble_eq_true rfl, Nat.le_of_ble_eq_true rfl⟩) hS (fun q _ h => pu_fr hS hA q h) (pu_fr hS hA) (fun r_95 u t H1 locs ht hvm hw hB hz1 hk1 hS => ?_)
      have hP := pu_keep hP hk1
      clear hk1 hz1 ht hvm
      generalize H1 = H at hP hS ⊢
      obtain ⟨u_96, hu_96, rfl, ju_96, iu_96⟩ := hw
      have hsp := hsp.trans (slet_eq iu_96)
      refine lv_if_eq (tgt := 215) hx hb dX9_readEdge_143 (by decide) (fun c_97 => ?_) (fun c_97 => ?_)
      · have c_97 : u_96 = 0 := (nI_eq (a := u_96) (b := 0) (Nat.lt_of_le_of_lt hu_96 (Nat.le_of_ble_eq_true rfl)) (Nat.le_of_ble_eq_true rfl)).mp c_97
        have hsp := hsp.trans (if_pos c_97)
        have hsp := hout_94 _ hsp
        exact j_68 _ _ _ _ ⟨g_82, g_83, g_84, g_85, g_86, g_87, g_81, rfl, hg_83, hg_84, hg_86, by omega, hsp.symm, hP, hD, hS, lv_sub hl [0, 1] rfl⟩
      · have c_97 : ¬ u_96 = 0 := fun z => c_97 ((nI_eq (a := u_96) (b := 0) (Nat.lt_of_le_of_lt hu_96 (Nat.le_of_ble_eq_true rfl)) (Nat.le_of_ble_eq_true rfl)).mpr z)
        have hsp := hsp.trans (if_neg c_97)
        refine lv_aload_n hx hb dX9_readEdge_146 rfl (lv_at hl 0 rfl) ?_
        refine lv_ldc hx hb hown v_16 dX9_readEdge_147 ?_
        refine va_calli (va_runV (As := [.int 19057844]) (rest := []) ⟨hx, hb, hml, hown, hts⟩ (c_EM_isWord l dC dI _ ad ck x0 x16 x18 x19 g_82 g_83 g_84 g_85 x24 x25 g_86 g_87 0 x29 x30 x33 x45 x46 x52 x53 x61 x62 x63 x65 x66 f1 f2 f3 q4 q_12 q_26 g_42 g_81 g_43 g_40 g_41 m12_0 m12_1 m13_0 m13_1 m14_0 m14_1 m15_0 m15_1 f17 q31 f32 f34 f35 f36 f37 q38 f39 f40 f41 m42_0 m42_1 f43 f44 f47 f48 f49 f50 f51 q54 q55 q56 f57 q58 f59 f60 f64 19057844 hx16 hx18 hx19 hg_83 hg_84 hg_86 (Nat.le_of_ble_eq_true rfl) hx29 hx30 hx33 hx46 hx52 hx53 hx61 hx62 hx63 hx65 hm12_0 hm12_1 hm13_0 hm13_1 (Nat.le_trans hm14_0 (Nat.le_of_ble_eq_true rfl)) hm14_1 hm15_0 hm15_1 hm42_0 hm42_1) (cwV 1 hts g_EM_readEdge_0_EM_isWord rfl rfl rfl (by decide +kernel) ⟨Nat.le_of_ble_eq_true rfl, Nat.le_of_ble_eq_true rfl⟩) ⟨pu_bl, va_recv hK hP (ci := 9) (q0 := 0) rfl rfl, pu_in hP hK hD⟩ rfl rfl hl.1 rfl (lv_room (Nat.le_of_ble_eq_true rfl)) dX9_readEdge_149 ⟨Nat.le_of_ble_eq_true rfl, Nat.le_of_ble_eq_true rfl⟩) hS (fun q _ h => pu_fr hS hA q h) (pu_fr hS hA) (fun r_98 u t H1 locs ht hvm hw hB hz1 hk1 hS => ?_)
        have hP := pu_keep hP hk1
        clear hk1 hz1 ht hvm
        generalize H1 = H at hP hS ⊢
        obtain ⟨u_99, hu_99, rfl, ju_99, iu_99⟩ := hw
        have hsp := hsp.trans (slet_eq iu_99)
        refine lv_if_eq (tgt := 215) hx hb dX9_readEdge_152 (by decide) (fun c_100 => ?_) (fun c_100 => ?_)
        · have c_100 : u_99 = 0 := (nI_eq (a := u_99) (b := 0) (Nat.lt_of_le_of_lt hu_99 (Nat.le_of_ble_eq_true rfl)) (Nat.le_of_ble_eq_true rfl)).mp c_100
          have hsp := hsp.trans (if_pos c_100)
          have hsp := hout_94 _ hsp
          exact j_68 _ _ _ _ ⟨g_82, g_83, g_84, g_85, g_86, g_87, g_81, rfl, hg_83, hg_84, hg_86, by omega, hsp.symm, hP, hD, hS, lv_sub hl [0, 1] rfl⟩
        · have c_100 : ¬ u_99 = 0 := fun z => c_100 ((nI_eq (a := u_99) (b := 0) (Nat.lt_of_le_of_lt hu_99 (Nat.le_of_ble_eq_true rfl)) (Nat.le_of_ble_eq_true rfl)).mpr z)
          have hsp := hsp.trans (if_neg c_100)
          refine lv_aload_n hx hb dX9_readEdge_155 rfl (lv_at hl 0 rfl) ?_
          have hFc := pu_free hD hS hA
          refine va_callv (va_runV (As := []) (rest := []) ⟨hx, hb, hml, hown, hts⟩ (c_EM_next l dC dI _ ad ck x0 x16 x18 x19 g_82 g_83 g_84 g_85 x24 x25 g_86 g_87 0 x29 x30 x33 x45 x46 x52 x53 x61 x62 x63 x65 x66 f1 f2 f3 q4 q_12 q_26 g_42 g_81 g_43 g_40 g_41 m12_0 m12_1 m13_0 m13_1 m14_0 m14_1 m15_0 m15_1 f17 q31 f32 f34 f35 f36 f37 q38 f39 f40 f41 m42_0 m42_1 f43 f44 f47 f48 f49 f50 f51 q54 q55 q56 f57 q58 f59 f60 f64 hx16 hx18 hx19 hg_83 hg_84 hg_86 (Nat.le_of_ble_eq_true rfl) hx29 hx30 hx33 hx46 hx52 hx53 hx61 hx62 hx63 hx65 hm12_0 hm12_1 hm13_0 hm13_1 (Nat.le_trans hm14_0 (Nat.le_of_ble_eq_true rfl)) hm14_1 hm15_0 hm15_1 hm42_0 hm42_1) (cwV 0 hts g_EM_readEdge_0_EM_next rfl rfl rfl (by decide +kernel) ⟨Nat.le_of_ble_eq_true rfl, Nat.le_of_ble_eq_true rfl⟩) ⟨pu_bl, va_recv hK hP (ci := 9) (q0 := 0) rfl rfl, pu_in hP hK hD⟩ rfl rfl hl.1 rfl (lv_room (Nat.le_of_ble_eq_true rfl)) dX9_readEdge_156 ⟨Nat.le_of_ble_eq_true rfl, Nat.le_of_ble_eq_true rfl⟩) hS (fun q _ h => hFc q h) hFc (fun u t H1 locs ht hvm hw hB hz1 hk1 hS => ?_)
          obtain ⟨z20_102, z21_103, z22_104, z23_105, ⟨hP1, -, hD1⟩, hz21_103, hz22_104, xr_101_0, xr_101_1, xr_101_2⟩ := hB
          rw [ht] at hP1
          have hP := hP1
          have hD := pu_all hFc hD1
          clear hP1 hD1 hFc
          clear hk1 hz1 ht hvm
          generalize H1 = H at hP hS ⊢
          have hsp := hsp.trans (slet_eq xr_101_2)
          refine lv_aload_n hx hb dX9_readEdge_159 rfl (lv_at hl 0 rfl) ?_
          have hFc := pu_free hD hS hA
          refine va_calli (va_runV (As := []) (rest := []) ⟨hx, hb, hml, hown, hts⟩ (c_EM_toldClock_0 l dC dI _ ad ck x0 x16 x18 x19 z20_102 z21_103 z22_104 z23_105 x24 x25 g_86 g_87 x29 x30 x33 x45 x46 x52 x53 x61 x62 x63 x65 x66 f1 f2 f3 q4 q_12 q_26 g_42 g_81 g_43 g_40 g_41 m12_0 m12_1 m13_0 m13_1 m14_0 m14_1 m15_0 m15_1 f17 q31 f32 f34 f35 f36 f37 q38 f39 f40 f41 m42_0 m42_1 f43 f44 f47 f48 f49 f50 f51 q54 q55 q56 f57 q58 f59 f60 f64 hx16 hx18 hx19 hz21_103 hz22_104 hg_86 hx29 hx30 hx33 hx46 hx52 hx53 hx61 hx62 hx63 hx65 hm12_0 hm12_1 hm13_0 hm13_1 (Nat.le_trans hm14_0 (Nat.le_of_ble_eq_true rfl)) hm14_1 hm15_0 hm15_1 hm42_0 hm42_1) (cwV 0 hts g_EM_readEdge_0_EM_toldClock_0 rfl rfl rfl (by decide +kernel) ⟨Nat.le_of_ble_eq_true rfl, Nat.le_of_ble_eq_true rfl⟩) ⟨pu_bl, va_recv hK hP (ci := 9) (q0 := 0) rfl rfl, pu_in hP hK hD⟩ rfl rfl hl.1 rfl (lv_room (Nat.le_of_ble_eq_true rfl)) dX9_readEdge_160 ⟨Nat.le_of_ble_eq_true rfl, Nat.le_of_ble_eq_true rfl⟩) hS (fun q _ h => hFc q h) hFc (fun r_106 u t H1 locs ht hvm hw hB hz1 hk1 hS => ?_)
          obtain ⟨z26_107, z27_108, ⟨hP1, -, hD1⟩, hz26_107, xr_106_0⟩ := hB
          rw [ht] at hP1
          have hP := hP1
          have hD := pu_all hFc hD1
          clear hP1 hD1 hFc
          clear hk1 hz1 ht hvm
          generalize H1 = H at hP hS ⊢
          obtain ⟨u_109, hu_109, rfl, iu_109⟩ := hw
          have iu_109 : (u_109, z26_107, z27_108) = (sp_EM_toldClock_0 z20_102 z22_104 z23_105 g_86 g_87 f1 m12_0) := Prod.ext iu_109 xr_106_0
          have hsp := hsp.trans (slet_eq iu_109)
          refine lv_istore_n (lv' := [(2, .int (nI u_109)), (0, .ref (ad 0)), (1, .int (nI (0 + m14_0)))]) hx hb dX9_readEdge_163 rfl hl (by decide) rfl (fun ls hl => ?_)
          refine lv_aload_n hx hb dX9_readEdge_164 rfl (lv_at hl 1 rfl) ?_
          refine va_calli (va_runV (As := []) (rest := []) ⟨hx, hb, hml, hown, hts⟩ (c_EM_isGood l dC dI _ ad ck x0 x16 x18 x19 z20_102 z21_103 z22_104 z23_105 x24 x25 z26_107 z27_108 0 x29 x30 x33 x45 x46 x52 x53 x61 x62 x63 x65 x66 f1 f2 f3 q4 q_12 q_26 g_42 g_81 g_43 g_40 g_41 m12_0 m12_1 m13_0 m13_1 m14_0 m14_1 m15_0 m15_1 f17 q31 f32 f34 f35 f36 f37 q38 f39 f40 f41 m42_0 m42_1 f43 f44 f47 f48 f49 f50 f51 q54 q55 q56 f57 q58 f59 f60 f64 hx16 hx18 hx19 hz21_103 hz22_104 hz26_107 (Nat.le_of_ble_eq_true rfl) hx29 hx30 hx33 hx46 hx52 hx53 hx61 hx62 hx63 hx65 hm12_0 hm12_1 hm13_0 hm13_1 (Nat.le_trans hm14_0 (Nat.le_of_ble_eq_true rfl)) hm14_1 hm15_0 hm15_1 hm42_0 hm42_1) (cwV 0 hts g_EM_readEdge_0_EM_isGood rfl rfl rfl (by decide +kernel) ⟨Nat.le_of_ble_eq_true rfl, Nat.le_of_ble_eq_true rfl⟩) ⟨pu_bl, va_recv hK hP (ci := 9) (q0 := 0) rfl rfl, pu_in hP hK hD⟩ rfl rfl hl.1 rfl (lv_room (Nat.le_of_ble_eq_true rfl)) dX9_readEdge_165 ⟨Nat.le_of_ble_eq_true rfl, Nat.le_of_ble_eq_true rfl⟩) hS (fun q _ h => pu_fr hS hA q h) (pu_fr hS hA) (fun r_110 u t H1 locs ht hvm hw hB hz1 hk1 hS => ?_)
          have hP := pu_keep hP hk1
          clear hk1 hz1 ht hvm
          generalize H1 = H at hP hS ⊢
          obtain ⟨u_111, hu_111, rfl, ju_111, iu_111⟩ := hw
          have hsp := hsp.trans (slet_eq iu_111)
          obtain ⟨JR_117, hJR_117, hsp⟩ := slet_ex hsp
          refine pu_join (fun H locs ls st => ∃ (g_112 : Nat) (g_113 : Int32), st = [] ∧ g_112 ≤ 6 ∧ mu z21_103 z22_104 ≤ mu x21 x22 ∧ mu z21_103 z22_104 < mu g_83 g_84 ∧ (g_112, g_113) = JR_117 ∧ va_P (dC, dI) vwCl (mo_w ad ck x0 (nI x16) (nI x18) (nI x19) z20_102 (nI z21_103) (nI z22_104) z23_105 x24 x25 (nI g_112) g_113 0 (nI x29) (nI x30) (nI x33) x45 (nI x46) (nI x52) (nI x53) (nI x61) (nI x62) (nI x63) (nI x65) x66 f1 f2 f3 (bN 3 q4) (bN 7 q_12) (bN 7 q_26) (bN 4 g_42) g_81 (bN 2 g_43) (bH g_40) g_41 (b2 m12_0 m12_1) (b2 m13_0 m13_1) (b2 m14_0 m14_1) (b2m m15_0 m15_1) f17 (bA 159 q31) f32 f34 f35 f36 f37 (bN 7 q38) f39 f40 f41 (b2 m42_0 m42_1) f43 f44 f47 f48 f49 f50 f51 (bN 13 q54) (bN 120 q55) (bN 120 q56) f57 (bN 120 q58) f59 f60 f64) H ∧ va_D A (mo_w ad ck x0 (nI x16) (nI x18) (nI x19) z20_102 (nI z21_103) (nI z22_104) z23_105 x24 x25 (nI g_112) g_113 0 (nI x29) (nI x30) (nI x33) x45 (nI x46) (nI x52) (nI x53) (nI x61) (nI x62) (nI x63) (nI x65) x66 f1 f2 f3 (bN 3 q4) (bN 7 q_12) (bN 7 q_26) (bN 4 g_42) g_81 (bN 2 g_43) (bH g_40) g_41 (b2 m12_0 m12_1) (b2 m13_0 m13_1) (b2 m14_0 m14_1) (b2m m15_0 m15_1) f17 (bA 159 q31) f32 f34 f35 f36 f37 (bN 7 q38) f39 f40 f41 (b2 m42_0 m42_1) f43 f44 f47 f48 f49 f50 f51 (bN 13 q54) (bN 120 q55) (bN 120 q56) f57 (bN 120 q58) f59 f60 f64) ∧ va_S A s.heap H locs ∧ lv_has ls 3 [(0, .ref (ad 0)), (1, .int (nI (0 + m14_0))), (2, .int (nI u_109))]) 189 ?_ (fun j_116 => ?_)
          · rintro H locs ls st ⟨g_112, g_113, rfl, hg_112, he_114, he_115, he_118, hP, hD, hS, hl⟩
            rw [← he_118] at hsp
            refine lv_aload_n hx hb dX9_readEdge_189 rfl (lv_at hl 0 rfl) ?_
            refine va_get (D := (dC, dI)) (ci := 9) (v := .ref (ad 8)) (C := RX9) (T := TX9) (N := 67) hx hb hts hiX9 hown hK hP 0 rfl rfl 8 (by decide) v_15 (fun _ h9 => h9) rfl dX9_readEdge_190 ?_
            refine lv_iload_n hx hb dX9_readEdge_193 rfl (lv_at hl 1 rfl) ?_
            refine lv_dup2_11 hx hb dX9_readEdge_194 rfl rfl ?_
            refine va_iald hx hb hK hP 8 7 rfl rfl (vp_in_nI (n := (0 + m14_0)) (by omega) (Nat.le_of_ble_eq_true rfl)) dX9_readEdge_195 ?_
            refine lv_topi (fun y_119 ey_119 => ?_)
            have ey_119 : y_119 = g_81 (0 + m14_0) := ey_119.trans (congrArg g_81 (nI_clamp (n := (0 + m14_0)) (by omega)))
            have hsp := hsp.trans (slet_eq ey_119)
            refine lv_iconst (v := 1) hx hb dX9_readEdge_196 (by decide) ?_
            refine lv_iload_n hx hb dX9_readEdge_197 rfl (lv_at hl 2 rfl) ?_
            refine lv_ishl hx hb dX9_readEdge_198 ?_
            refine lv_topi (fun y_120 ey_120 => ?_)
            have hsp := hsp.trans (slet_eq ey_120)
            refine lv_ior hx hb dX9_readEdge_199 ?_
            refine lv_topi (fun y_121 ey_121 => ?_)
            have hsp := hsp.trans (slet_eq ey_121)
            refine va_iast hx hb hK hP hD hS 8 7 rfl rfl (vp_in_nI (n := (0 + m14_0)) (by omega) (Nat.le_of_ble_eq_true rfl)) dX9_readEdge_200 (fun H locs hP hD hS => ?_)
            obtain ⟨f_122, ef_122, xf_122⟩ := up_x g_81 (n := (0 + m14_0)) y_121 (by omega)
            have hP : va_P (dC, dI) vwCl (mo_w ad ck x0 (nI x16) (nI x18) (nI x19) z20_102 (nI z21_103) (nI z22_104) z23_105 x24 x25 (nI g_112) g_113 0 (nI x29) (nI x30) (nI x33) x45 (nI x46) (nI x52) (nI x53) (nI x61) (nI x62) (nI x63) (nI x65) x66 f1 f2 f3 (bN 3 q4) (bN 7 q_12) (bN 7 q_26) (bN 4 g_42) f_122 (bN 2 g_43) (bH g_40) g_41 (b2 m12_0 m12_1) (b2 m13_0 m13_1) (b2 m14_0 m14_1) (b2m m15_0 m15_1) f17 (bA 159 q31) f32 f34 f35 f36 f37 (bN 7 q38) f39 f40 f41 (b2 m42_0 m42_1) f43 f44 f47 f48 f49 f50 f51 (bN 13 q54) (bN 120 q55) (bN 120 q56) f57 (bN 120 q58) f59 f60 f64) H := by rw [← ef_122]; exact hP
            have hD : va_D A (mo_w ad ck x0 (nI x16) (nI x18) (nI x19) z20_102 (nI z21_103) (nI z22_104) z23_105 x24 x25 (nI g_112) g_113 0 (nI x29) (nI x30) (nI x33) x45 (nI x46) (nI x52) (nI x53) (nI x61) (nI x62) (nI x63) (nI x65) x66 f1 f2 f3 (bN 3 q4) (bN 7 q_12) (bN 7 q_26) (bN 4 g_42) f_122 (bN 2 g_43) (bH g_40) g_41 (b2 m12_0 m12_1) (b2 m13_0 m13_1) (b2 m14_0 m14_1) (b2m m15_0 m15_1) f17 (bA 159 q31) f32 f34 f35 f36 f37 (bN 7 q38) f39 f40 f41 (b2 m42_0 m42_1) f43 f44 f47 f48 f49 f50 f51 (bN 13 q54) (bN 120 q55) (bN 120 q56) f57 (bN 120 q58) f59 f60 f64) := by rw [← ef_122]; exact hD
            have hsp := hsp.trans (slet_eq xf_122)
            refine lv_aload_n hx hb dX9_readEdge_201 rfl (lv_at hl 0 rfl) ?_
            refine va_calli (va_runV (As := []) (rest := []) ⟨hx, hb, hml, hown, hts⟩ (c_EM_isGood l dC dI _ ad ck x0 x16 x18 x19 z20_102 z21_103 z22_104 z23_105 x24 x25 g_112 g_113 0 x29 x30 x33 x45 x46 x52 x53 x61 x62 x63 x65 x66 f1 f2 f3 q4 q_12 q_26 g_42 f_122 g_43 g_40 g_41 m12_0 m12_1 m13_0 m13_1 m14_0 m14_1 m15_0 m15_1 f17 q31 f32 f34 f35 f36 f37 q38 f39 f40 f41 m42_0 m42_1 f43 f44 f47 f48 f49 f50 f51 q54 q55 q56 f57 q58 f59 f60 f64 hx16 hx18 hx19 hz21_103 hz22_104 hg_112 (Nat.le_of_ble_eq_true rfl) hx29 hx30 hx33 hx46 hx52 hx53 hx61 hx62 hx63 hx65 hm12_0 hm12_1 hm13_0 hm13_1 (Nat.le_trans hm14_0 (Nat.le_of_ble_eq_true rfl)) hm14_1 hm15_0 hm15_1 hm42_0 hm42_1) (cwV 0 hts g_EM_readEdge_0_EM_isGood rfl rfl rfl (by decide +kernel) ⟨Nat.le_of_ble_eq_true rfl, Nat.le_of_ble_eq_true rfl⟩) ⟨pu_bl, va_recv hK hP (ci := 9) (q0 := 0) rfl rfl, pu_in hP hK hD⟩ rfl rfl hl.1 rfl (lv_room (Nat.le_of_ble_eq_true rfl)) dX9_readEdge_202 ⟨Nat.le_of_ble_eq_true rfl, Nat.le_of_ble_eq_true rfl⟩) hS (fun q _ h => pu_fr hS hA q h) (pu_fr hS hA) (fun r_123 u t H1 locs ht hvm hw hB hz1 hk1 hS => ?_)
            have hP := pu_keep hP hk1
            clear hk1 hz1 ht hvm
            generalize H1 = H at hP hS ⊢
            obtain ⟨u_124, hu_124, rfl, ju_124, iu_124⟩ := hw
            have hsp := hsp.trans (slet_eq iu_124)
            obtain ⟨JR_132, hJR_132, hsp⟩ := slet_ex hsp
            refine pu_join (fun H locs ls st => ∃ (g_125 : Int32) (g_126 : Nat) (g_127 : Nat) (g_128 : Int32), st = [] ∧ g_126 ≤ 900 ∧ g_127 ≤ 4 ∧ mu g_126 g_127 ≤ mu x21 x22 ∧ mu g_126 g_127 < mu g_83 g_84 ∧ (g_125, g_126, g_127, g_128) = JR_132 ∧ va_P (dC, dI) vwCl (mo_w ad ck x0 (nI x16) (nI x18) (nI x19) g_125 (nI g_126) (nI g_127) g_128 x24 x25 (nI g_112) g_113 0 (nI x29) (nI x30) (nI x33) x45 (nI x46) (nI x52) (nI x53) (nI x61) (nI x62) (nI x63) (nI x65) x66 f1 f2 f3 (bN 3 q4) (bN 7 q_12) (bN 7 q_26) (bN 4 g_42) f_122 (bN 2 g_43) (bH g_40) g_41 (b2 m12_0 m12_1) (b2 m13_0 m13_1) (b2 m14_0 m14_1) (b2m m15_0 m15_1) f17 (bA 159 q31) f32 f34 f35 f36 f37 (bN 7 q38) f39 f40 f41 (b2 m42_0 m42_1) f43 f44 f47 f48 f49 f50 f51 (bN 13 q54) (bN 120 q55) (bN 120 q56) f57 (bN 120 q58) f59 f60 f64) H ∧ va_D A (mo_w ad ck x0 (nI x16) (nI x18) (nI x19) g_125 (nI g_126) (nI g_127) g_128 x24 x25 (nI g_112) g_113 0 (nI x29) (nI x30) (nI x33) x45 (nI x46) (nI x52) (nI x53) (nI x61) (nI x62) (nI x63) (nI x65) x66 f1 f2 f3 (bN 3 q4) (bN 7 q_12) (bN 7 q_26) (bN 4 g_42) f_122 (bN 2 g_43) (bH g_40) g_41 (b2 m12_0 m12_1) (b2 m13_0 m13_1) (b2 m14_0 m14_1) (b2m m15_0 m15_1) f17 (bA 159 q31) f32 f34 f35 f36 f37 (bN 7 q38) f39 f40 f41 (b2 m42_0 m42_1) f43 f44 f47 f48 f49 f50 f51 (bN 13 q54) (bN 120 q55) (bN 120 q56) f57 (bN 120 q58) f59 f60 f64) ∧ va_S A s.heap H locs ∧ lv_has ls 3 [(0, .ref (ad 0)), (1, .int (nI (0 + m14_0))), (2, .int (nI u_109))]) 212 ?_ (fun j_131 => ?_)
            · rintro H locs ls st ⟨g_125, g_126, g_127, g_128, rfl, hg_126, hg_127, he_129, he_130, he_133, hP, hD, hS, hl⟩
              rw [← he_133] at hsp
              refine lv_goto (tgt := 139) hx hb dX9_readEdge_212 (by decide) ?_
              exact ih_89 (mu g_126 g_127) (by omega) _ _ _ ⟨f_122, g_125, g_126, g_127, g_128, g_112, g_113, rfl, hg_126, hg_127, hg_112, by omega, hin_93 _ hsp, hP, hD, hS, lv_sub hl [0, 1] rfl⟩
            have hsp := hJR_132
            refine lv_if_eq (tgt := 212) hx hb dX9_readEdge_205 (by decide) (fun c_134 => ?_) (fun c_134 => ?_)
            · have c_134 : u_124 = 0 := (nI_eq (a := u_124) (b := 0) (Nat.lt_of_le_of_lt hu_124 (Nat.le_of_ble_eq_true rfl)) (Nat.le_of_ble_eq_true rfl)).mp c_134
              have hsp := hsp.trans (if_pos c_134)
              exact j_131 _ _ _ _ ⟨z20_102, z21_103, z22_104, z23_105, rfl, hz21_103, hz22_104, by omega, by omega, hsp.symm, hP, hD, hS, lv_sub hl [0, 1, 2] rfl⟩
            · have c_134 : ¬ u_124 = 0 := fun z => c_134 ((nI_eq (a := u_124) (b := 0) (Nat.lt_of_le_of_lt hu_124 (Nat.le_of_ble_eq_true rfl)) (Nat.le_of_ble_eq_true rfl)).mpr z)
              have hsp := hsp.trans (if_neg c_134)
              refine lv_aload_n hx hb dX9_readEdge_208 rfl (lv_at hl 0 rfl) ?_
              have hFc := pu_free hD hS hA
              refine va_callv (va_runV (As := []) (rest := []) ⟨hx, hb, hml, hown, hts⟩ (c_EM_next l dC dI _ ad ck x0 x16 x18 x19 z20_102 z21_103 z22_104 z23_105 x24 x25 g_112 g_113 0 x29 x30 x33 x45 x46 x52 x53 x61 x62 x63 x65 x66 f1 f2 f3 q4 q_12 q_26 g_42 f_122 g_43 g_40 g_41 m12_0 m12_1 m13_0 m13_1 m14_0 m14_1 m15_0 m15_1 f17 q31 f32 f34 f35 f36 f37 q38 f39 f40 f41 m42_0 m42_1 f43 f44 f47 f48 f49 f50 f51 q54 q55 q56 f57 q58 f59 f60 f64 hx16 hx18 hx19 hz21_103 hz22_104 hg_112 (Nat.le_of_ble_eq_true rfl) hx29 hx30 hx33 hx46 hx52 hx53 hx61 hx62 hx63 hx65 hm12_0 hm12_1 hm13_0 hm13_1 (Nat.le_trans hm14_0 (Nat.le_of_ble_eq_true rfl)) hm14_1 hm15_0 hm15_1 hm42_0 hm42_1) (cwV 0 hts g_EM_readEdge_0_EM_next rfl rfl rfl (by decide +kernel) ⟨Nat.le_of_ble_eq_true rfl, Nat.le_of_ble_eq_true rfl⟩) ⟨pu_bl, va_recv hK hP (ci := 9) (q0 := 0) rfl rfl, pu_in hP hK hD⟩ rfl rfl hl.1 rfl (lv_room (Nat.le_of_ble_eq_true rfl)) dX9_readEdge_209 ⟨Nat.le_of_ble_eq_true rfl, Nat.le_of_ble_eq_true rfl⟩) hS (fun q _ h => hFc q h) hFc (fun u t H1 locs ht hvm hw hB hz1 hk1 hS => ?_)
              obtain ⟨z20_136, z21_137, z22_138, z23_139, ⟨hP1, -, hD1⟩, hz21_137, hz22_138, xr_135_0, xr_135_1, xr_135_2⟩ := hB
              rw [ht] at hP1
              have hP := hP1
              have hD := pu_all hFc hD1
              clear hP1 hD1 hFc
              clear hk1 hz1 ht hvm
              generalize H1 = H at hP hS ⊢
              have hsp := hsp.trans (slet_eq xr_135_2)
              exact j_131 _ _ _ _ ⟨z20_136, z21_137, z22_138, z23_139, rfl, hz21_137, hz22_138, by omega, by omega, hsp.symm, hP, hD, hS, lv_sub hl [0, 1, 2] rfl⟩
          have hsp := hJR_117
          refine lv_if_eq (tgt := 189) hx hb dX9_readEdge_168 (by decide) (fun c_140 => ?_) (fun c_140 => ?_)
          · have c_140 : u_111 = 0 := (nI_eq (a := u_111) (b := 0) (Nat.lt_of_le_of_lt hu_111 (Nat.le_of_ble_eq_true rfl)) (Nat.le_of_ble_eq_true rfl)).mp c_140
            have hsp := hsp.trans (if_pos c_140)
            exact j_116 _ _ _ _ ⟨z26_107, z27_108, rfl, hz26_107, by omega, by omega, hsp.symm, hP, hD, hS, lv_sub hl [1, 2, 0] rfl⟩
          · have c_140 : ¬ u_111 = 0 := fun z => c_140 ((nI_eq (a := u_111) (b := 0) (Nat.lt_of_le_of_lt hu_111 (Nat.le_of_ble_eq_true rfl)) (Nat.le_of_ble_eq_true rfl)).mpr z)
            have hsp := hsp.trans (if_neg c_140)
            refine lv_aload_n hx hb dX9_readEdge_171 rfl (lv_at hl 1 rfl) ?_
            refine va_get (D := (dC, dI)) (ci := 9) (v := .ref (ad 8)) (C := RX9) (T := TX9) (N := 67) hx hb hts hiX9 hown hK hP 0 rfl rfl 8 (by decide) v_15 (fun _ h9 => h9) rfl dX9_readEdge_172 ?_
            refine lv_iload_n hx hb dX9_readEdge_175 rfl (lv_at hl 2 rfl) ?_
            refine va_iald hx hb hK hP 8 7 rfl rfl (vp_in_nI (n := (0 + m14_0)) (by omega) (Nat.le_of_ble_eq_true rfl)) dX9_readEdge_176 ?_
            refine lv_topi (fun y_141 ey_141 => ?_)
            have ey_141 : y_141 = g_81 (0 + m14_0) := ey_141.trans (congrArg g_81 (nI_clamp (n := (0 + m14_0)) (by omega)))
            have hsp := hsp.trans (slet_eq ey_141)
            refine lv_iload_n hx hb dX9_readEdge_177 rfl (lv_at hl 0 rfl) ?_
            refine va_calli (va_runS (As := [.int y_141, .int (nI u_109)]) (rest := []) ⟨hx, hb, hml, hown, hts⟩ (c_EM_isOf l dC dI _ ad ck x0 x16 x18 x19 z20_102 z21_103 z22_104 z23_105 x24 x25 z26_107 z27_108 0 x29 x30 x33 x45 x46 x52 x53 x61 x62 x63 x65 x66 f1 f2 f3 q4 q_12 q_26 g_42 g_81 g_43 g_40 g_41 m12_0 m12_1 m13_0 m13_1 m14_0 m14_1 m15_0 m15_1 f17 q31 f32 f34 f35 f36 f37 q38 f39 f40 f41 m42_0 m42_1 f43 f44 f47 f48 f49 f50 f51 q54 q55 q56 f57 q58 f59 f60 f64 y_141 (nI u_109) hx16 hx18 hx19 hz21_103 hz22_104 hz26_107 (Nat.le_of_ble_eq_true rfl) hx29 hx30 hx33 hx46 hx52 hx53 hx61 hx62 hx63 hx65 hm12_0 hm12_1 hm13_0 hm13_1 (Nat.le_trans hm14_0 (Nat.le_of_ble_eq_true rfl)) hm14_1 hm15_0 hm15_1 hm42_0 hm42_1) (va_cwS 2 hts g_EM_readEdge_0_EM_isOf rfl rfl rfl (by decide +kernel) ⟨Nat.le_of_ble_eq_true rfl, Nat.le_of_ble_eq_true rfl⟩) ⟨pu_bl, pu_in hP hK hD⟩ rfl rfl hl.1 rfl (lv_room (Nat.le_of_ble_eq_true rfl)) dX9_readEdge_178 ⟨Nat.le_of_ble_eq_true rfl, Nat.le_of_ble_eq_true rfl⟩) hS (fun q _ h => pu_fr hS hA q h) (pu_fr hS hA) (fun r_142 u t H1 locs ht hvm hw hB hz1 hk1 hS => ?_)
            have hP := pu_keep hP hk1
            clear hk1 hz1 ht hvm
            generalize H1 = H at hP hS ⊢
            obtain ⟨u_143, hu_143, rfl, iu_143⟩ := hw
            have hsp := hsp.trans (slet_eq iu_143)
            refine lv_if_eq (tgt := 189) hx hb dX9_readEdge_181 (by decide) (fun c_144 => ?_) (fun c_144 => ?_)
            · have c_144 : u_143 = 0 := (nI_eq (a := u_143) (b := 0) (Nat.lt_of_le_of_lt hu_143 (Nat.le_of_ble_eq_true rfl)) (Nat.le_of_ble_eq_true rfl)).mp c_144
              have hsp := hsp.trans (if_pos c_144)
              exact j_116 _ _ _ _ ⟨z26_107, z27_108, rfl, hz26_107, by omega, by omega, hsp.symm, hP, hD, hS, lv_sub hl [1, 2, 0] rfl⟩
            · have c_144 : ¬ u_143 = 0 := fun z => c_144 ((nI_eq (a := u_143) (b := 0) (Nat.lt_of_le_of_lt hu_143 (Nat.le_of_ble_eq_true rfl)) (Nat.le_of_ble_eq_true rfl)).mpr z)
              have hsp := hsp.trans (if_neg c_144)
              refine lv_aload_n hx hb dX9_readEdge_184 rfl (lv_at hl 1 rfl) ?_
              refine lv_iconst (v := 5) hx hb dX9_readEdge_185 (by decide) ?_
              have hFc := pu_free hD hS hA
              refine va_callv (va_runV (As := [.int 5]) (rest := []) ⟨hx, hb, hml, hown, hts⟩ (c_EM_fails l dC dI _ ad ck x0 x16 x18 x19 z20_102 z21_103 z22_104 z23_105 x24 x25 z26_107 z27_108 0 x29 x30 x33 x45 x46 x52 x53 x61 x62 x63 x65 x66 f1 f2 f3 q4 q_12 q_26 g_42 g_81 g_43 g_40 g_41 m12_0 m12_1 m13_0 m13_1 m14_0 m14_1 m15_0 m15_1 f17 q31 f32 f34 f35 f36 f37 q38 f39 f40 f41 m42_0 m42_1 f43 f44 f47 f48 f49 f50 f51 q54 q55 q56 f57 q58 f59 f60 f64 5 hx16 hx18 hx19 hz21_103 hz22_104 hz26_107 (Nat.le_of_ble_eq_true rfl) hx29 hx30 hx33 hx46 hx52 hx53 hx61 hx62 hx63 hx65 hm12_0 hm12_1 hm13_0 hm13_1 (Nat.le_trans hm14_0 (Nat.le_of_ble_eq_true rfl)) hm14_1 hm15_0 hm15_1 hm42_0 hm42_1 (Nat.le_of_ble_eq_true rfl) (by omega)) (cwV 1 hts g_EM_readEdge_0_EM_fails rfl rfl rfl (by decide +kernel) ⟨Nat.le_of_ble_eq_true rfl, Nat.le_of_ble_eq_true rfl⟩) ⟨pu_bl, va_recv hK hP (ci := 9) (q0 := 0) rfl rfl, pu_in hP hK hD⟩ rfl rfl hl.1 rfl (lv_room (Nat.le_of_ble_eq_true rfl)) dX9_readEdge_186 ⟨Nat.le_of_ble_eq_true rfl, Nat.le_of_ble_eq_true rfl⟩) hS (fun q _ h => hFc q h) hFc (fun u t H1 locs ht hvm hw hB hz1 hk1 hS => ?_)
              obtain ⟨z26_146, z27_147, ⟨hP1, -, hD1⟩, hz26_146, xr_145_0, xr_145_1⟩ := hB
              rw [ht] at hP1
              have hP := hP1
              have hD := pu_all hFc hD1
              clear hP1 hD1 hFc
              clear hk1 hz1 ht hvm
              generalize H1 = H at hP hS ⊢
              have hsp := hsp.trans (slet_eq xr_145_1)
              exact j_116 _ _ _ _ ⟨z26_146, z27_147, rfl, hz26_146, by omega, by omega, hsp.symm, hP, hD, hS, lv_sub hl [1, 2, 0] rfl⟩
    · have c_59 : ¬ u_58 = 0 := fun z => c_59 ((nI_eq (a := u_58) (b := 0) (Nat.lt_of_le_of_lt hu_58 (Nat.le_of_ble_eq_true rfl)) (Nat.le_of_ble_eq_true rfl)).mpr z)
      have hsp := hsp.trans (if_neg c_59)
      refine lv_aload_n hx hb dX9_readEdge_70 rfl (lv_at hl 0 rfl) ?_
      refine lv_ldc hx hb hown v_36 dX9_readEdge_71 ?_
      refine va_calli (va_runV (As := [.int 762030]) (rest := []) ⟨hx, hb, hml, hown, hts⟩ (c_EM_isWord l dC dI _ ad ck x0 x16 x18 x19 g_44 g_45 g_46 g_47 x24 x25 g_48 g_49 0 x29 x30 x33 x45 x46 x52 x53 x61 x62 x63 x65 x66 f1 f2 f3 q4 q_12 q_26 g_42 f_28 g_43 g_40 g_41 m12_0 m12_1 m13_0 m13_1 m14_0 m14_1 m15_0 m15_1 f17 q31 f32 f34 f35 f36 f37 q38 f39 f40 f41 m42_0 m42_1 f43 f44 f47 f48 f49 f50 f51 q54 q55 q56 f57 q58 f59 f60 f64 762030 hx16 hx18 hx19 hg_45 hg_46 hg_48 (Nat.le_of_ble_eq_true rfl) hx29 hx30 hx33 hx46 hx52 hx53 hx61 hx62 hx63 hx65 hm12_0 hm12_1 hm13_0 hm13_1 (Nat.le_trans hm14_0 (Nat.le_of_ble_eq_true rfl)) hm14_1 hm15_0 hm15_1 hm42_0 hm42_1) (cwV 1 hts g_EM_readEdge_0_EM_isWord rfl rfl rfl (by decide +kernel) ⟨Nat.le_of_ble_eq_true rfl, Nat.le_of_ble_eq_true rfl⟩) ⟨pu_bl, va_recv hK hP (ci := 9) (q0 := 0) rfl rfl, pu_in hP hK hD⟩ rfl rfl hl.1 rfl (lv_room (Nat.le_of_ble_eq_true rfl)) dX9_readEdge_73 ⟨Nat.le_of_ble_eq_true rfl, Nat.le_of_ble_eq_true rfl⟩) hS (fun q _ h => pu_fr hS hA q h) (pu_fr hS hA) (fun r_148 u t H1 locs ht hvm hw hB hz1 hk1 hS => ?_)
      have hP := pu_keep hP hk1
      clear hk1 hz1 ht hvm
      generalize H1 = H at hP hS ⊢
      obtain ⟨u_149, hu_149, rfl, ju_149, iu_149⟩ := hw
      have hsp := hsp.trans (slet_eq iu_149)
      refine lv_if_eq (tgt := 139) hx hb dX9_readEdge_76 (by decide) (fun c_150 => ?_) (fun c_150 => ?_)
      · have c_150 : u_149 = 0 := (nI_eq (a := u_149) (b := 0) (Nat.lt_of_le_of_lt hu_149 (Nat.le_of_ble_eq_true rfl)) (Nat.le_of_ble_eq_true rfl)).mp c_150
        have hsp := hsp.trans (if_pos c_150)
        have hsp := hout_56 _ hsp
        obtain ⟨JR_160, hJR_160, hsp⟩ := slet_ex hsp
        refine pu_join (fun H locs ls st => ∃ (g_151 : Int32) (g_152 : Nat) (g_153 : Nat) (g_154 : Int32) (g_155 : Nat) (g_156 : Int32) (g_157 : Nat → Int32), st = [] ∧ g_152 ≤ 900 ∧ g_153 ≤ 4 ∧ g_155 ≤ 6 ∧ mu g_152 g_153 ≤ mu x21 x22 ∧ (g_151, g_152, g_153, g_154, g_155, g_156, g_157) = JR_160 ∧ va_P (dC, dI) vwCl (mo_w ad ck x0 (nI x16) (nI x18) (nI x19) g_151 (nI g_152) (nI g_153) g_154 x24 x25 (nI g_155) g_156 0 (nI x29) (nI x30) (nI x33) x45 (nI x46) (nI x52) (nI x53) (nI x61) (nI x62) (nI x63) (nI x65) x66 f1 f2 f3 (bN 3 q4) (bN 7 q_12) (bN 7 q_26) (bN 4 g_42) g_157 (bN 2 g_43) (bH g_40) g_41 (b2 m12_0 m12_1) (b2 m13_0 m13_1) (b2 m14_0 m14_1) (b2m m15_0 m15_1) f17 (bA 159 q31) f32 f34 f35 f36 f37 (bN 7 q38) f39 f40 f41 (b2 m42_0 m42_1) f43 f44 f47 f48 f49 f50 f51 (bN 13 q54) (bN 120 q55) (bN 120 q56) f57 (bN 120 q58) f59 f60 f64) H ∧ va_D A (mo_w ad ck x0 (nI x16) (nI x18) (nI x19) g_151 (nI g_152) (nI g_153) g_154 x24 x25 (nI g_155) g_156 0 (nI x29) (nI x30) (nI x33) x45 (nI x46) (nI x52) (nI x53) (nI x61) (nI x62) (nI x63) (nI x65) x66 f1 f2 f3 (bN 3 q4) (bN 7 q_12) (bN 7 q_26) (bN 4 g_42) g_157 (bN 2 g_43) (bH g_40) g_41 (b2 m12_0 m12_1) (b2 m13_0 m13_1) (b2 m14_0 m14_1) (b2m m15_0 m15_1) f17 (bA 159 q31) f32 f34 f35 f36 f37 (bN 7 q38) f39 f40 f41 (b2 m42_0 m42_1) f43 f44 f47 f48 f49 f50 f51 (bN 13 q54) (bN 120 q55) (bN 120 q56) f57 (bN 120 q58) f59 f60 f64) ∧ va_S A s.heap H locs ∧ lv_has ls 3 [(0, .ref (ad 0)), (1, .int (nI (0 + m14_0)))]) 215 ?_ (fun j_159 => ?_)
        · rintro H locs ls st ⟨g_151, g_152, g_153, g_154, g_155, g_156, g_157, rfl, hg_152, hg_153, hg_155, he_158, he_161, hP, hD, hS, hl⟩
          rw [← he_161] at hsp
          refine lv_aload_n hx hb dX9_readEdge_215 rfl (lv_at hl 0 rfl) ?_
          refine va_get (D := (dC, dI)) (ci := 9) (v := .ref (ad 14)) (C := RX9) (T := TX9) (N := 67) hx hb hts hiX9 hown hK hP 0 rfl rfl 14 (by decide) v_2 (fun _ h9 => h9) rfl dX9_readEdge_216 ?_
          refine lv_aload_n hx hb dX9_readEdge_219 rfl (lv_at hl 0 rfl) ?_
          refine va_get (D := (dC, dI)) (ci := 9) (v := .int 0) (C := RX9) (T := TX9) (N := 67) hx hb hts hiX9 hown hK hP 0 rfl rfl 28 (by decide) v_1 (fun _ h9 => h9) rfl dX9_readEdge_220 ?_
          refine lv_dup2_11 hx hb dX9_readEdge_223 rfl rfl ?_
          refine va_iald hx hb hK hP 14 13 rfl rfl (vp_in_nI (n := 0) (Nat.le_of_ble_eq_true rfl) (Nat.le_of_ble_eq_true rfl)) dX9_readEdge_224 ?_
          refine lv_topi (fun y_162 ey_162 => ?_)
          have qy_162 := ey_162.trans b2_0
          clear ey_162
          obtain rfl : y_162 = nI m14_0 := qy_162
          refine lv_iconst (v := 1) hx hb dX9_readEdge_225 (by decide) ?_
          refine lv_iadd hx hb dX9_readEdge_226 ?_
          refine lv_topi (fun y_163 ey_163 => ?_)
          obtain rfl : y_163 = (nI (m14_0 + 1)) := ey_163.trans (nI_add m14_0 1)
          refine va_iast hx hb hK hP hD hS 14 13 rfl rfl (vp_in_nI (n := 0) (Nat.le_of_ble_eq_true rfl) (Nat.le_of_ble_eq_true rfl)) dX9_readEdge_227 (fun H locs hP hD hS => ?_)
          have hP : va_P (dC, dI) vwCl (mo_w ad ck x0 (nI x16) (nI x18) (nI x19) g_151 (nI g_152) (nI g_153) g_154 x24 x25 (nI g_155) g_156 0 (nI x29) (nI x30) (nI x33) x45 (nI x46) (nI x52) (nI x53) (nI x61) (nI x62) (nI x63) (nI x65) x66 f1 f2 f3 (bN 3 q4) (bN 7 q_12) (bN 7 q_26) (bN 4 g_42) g_157 (bN 2 g_43) (bH g_40) g_41 (b2 m12_0 m12_1) (b2 m13_0 m13_1) (b2 (m14_0 + 1) m14_1) (b2m m15_0 m15_1) f17 (bA 159 q31) f32 f34 f35 f36 f37 (bN 7 q38) f39 f40 f41 (b2 m42_0 m42_1) f43 f44 f47 f48 f49 f50 f51 (bN 13 q54) (bN 120 q55) (bN 120 q56) f57 (bN 120 q58) f59 f60 f64) H := by rw [← b2_up0 (a := m14_0) (b := m14_1) (v := (m14_0 + 1))]; exact hP
          have hD : va_D A (mo_w ad ck x0 (nI x16) (nI x18) (nI x19) g_151 (nI g_152) (nI g_153) g_154 x24 x25 (nI g_155) g_156 0 (nI x29) (nI x30) (nI x33) x45 (nI x46) (nI x52) (nI x53) (nI x61) (nI x62) (nI x63) (nI x65) x66 f1 f2 f3 (bN 3 q4) (bN 7 q_12) (bN 7 q_26) (bN 4 g_42) g_157 (bN 2 g_43) (bH g_40) g_41 (b2 m12_0 m12_1) (b2 m13_0 m13_1) (b2 (m14_0 + 1) m14_1) (b2m m15_0 m15_1) f17 (bA 159 q31) f32 f34 f35 f36 f37 (bN 7 q38) f39 f40 f41 (b2 m42_0 m42_1) f43 f44 f47 f48 f49 f50 f51 (bN 13 q54) (bN 120 q55) (bN 120 q56) f57 (bN 120 q58) f59 f60 f64) := by rw [← b2_up0 (a := m14_0) (b := m14_1) (v := (m14_0 + 1))]; exact hD
          exact W.vret hx hb hr (fun t ht hW => ⟨⟨(), rfl, trivial, ⟨g_40, g_41, q_12, q_26, g_42, g_157, g_43, (m14_0 + 1), g_151, g_152, g_153, g_154, g_155, g_156, ⟨by rw [ht]; exact hP, va_K.moved hW.alike hK, hD⟩, (by omega), hg_152, hg_153, hg_155, by omega, (hsp.symm.trans hRR)⟩⟩, hS.F ht⟩) hS.2.2 dX9_readEdge_228
        have hsp := hJR_160
        obtain ⟨lf_181, dlf_181, hlf_181, hsp⟩ := itr_ex hsp
        delta sp_EM_readEdge_0_L2 at hlf_181
        refine pu_while (fun nn H locs ls => ∃ (g_172 : Nat → Int32) (g_173 : Int32) (g_174 : Nat) (g_175 : Nat) (g_176 : Int32) (g_177 : Nat) (g_178 : Int32), nn = mu g_174 g_175 ∧ g_174 ≤ 900 ∧ g_175 ≤ 4 ∧ g_177 ≤ 6 ∧ mu g_174 g_175 ≤ mu x21 x22 ∧ JR_160 = itrv dlf_181 lf_181 (g_172, g_173, g_174, g_175, g_176, g_177, g_178) ∧ va_P (dC, dI) vwCl (mo_w ad ck x0 (nI x16) (nI x18) (nI x19) g_173 (nI g_174) (nI g_175) g_176 x24 x25 (nI g_177) g_178 0 (nI x29) (nI x30) (nI x33) x45 (nI x46) (nI x52) (nI x53) (nI x61) (nI x62) (nI x63) (nI x65) x66 f1 f2 f3 (bN 3 q4) (bN 7 q_12) (bN 7 q_26) (bN 4 g_42) g_172 (bN 2 g_43) (bH g_40) g_41 (b2 m12_0 m12_1) (b2 m13_0 m13_1) (b2 m14_0 m14_1) (b2m m15_0 m15_1) f17 (bA 159 q31) f32 f34 f35 f36 f37 (bN 7 q38) f39 f40 f41 (b2 m42_0 m42_1) f43 f44 f47 f48 f49 f50 f51 (bN 13 q54) (bN 120 q55) (bN 120 q56) f57 (bN 120 q58) f59 f60 f64) H ∧ va_D A (mo_w ad ck x0 (nI x16) (nI x18) (nI x19) g_173 (nI g_174) (nI g_175) g_176 x24 x25 (nI g_177) g_178 0 (nI x29) (nI x30) (nI x33) x45 (nI x46) (nI x52) (nI x53) (nI x61) (nI x62) (nI x63) (nI x65) x66 f1 f2 f3 (bN 3 q4) (bN 7 q_12) (bN 7 q_26) (bN 4 g_42) g_172 (bN 2 g_43) (bH g_40) g_41 (b2 m12_0 m12_1) (b2 m13_0 m13_1) (b2 m14_0 m14_1) (b2m m15_0 m15_1) f17 (bA 159 q31) f32 f34 f35 f36 f37 (bN 7 q38) f39 f40 f41 (b2 m42_0 m42_1) f43 f44 f47 f48 f49 f50 f51 (bN 13 q54) (bN 120 q55) (bN 120 q56) f57 (bN 120 q58) f59 f60 f64) ∧ va_S A s.heap H locs ∧ lv_has ls 3 [(0, .ref (ad 0)), (1, .int (nI (0 + m14_0)))]) 139 ?_ _ _ _ _ ⟨f_28, g_44, g_45, g_46, g_47, g_48, g_49, rfl, hg_45, hg_46, hg_48, by omega, hsp, hP, hD, hS, lv_sub hl [0, 1] rfl⟩
        rintro nn ih_180 H locs ls ⟨g_172, g_173, g_174, g_175, g_176, g_177, g_178, rfl, hg_174, hg_175, hg_177, he_179, he_183, hP, hD, hS, hl⟩
        obtain ⟨S_182, hsp, hin_184, hout_185⟩ := itr_step hlf_181 he_183
        refine lv_aload_n hx hb dX9_readEdge_139 rfl (lv_at hl 0 rfl) ?_
        refine va_calli (va_runV (As := []) (rest := []) ⟨hx, hb, hml, hown, hts⟩ (c_EM_isGood l dC dI _ ad ck x0 x16 x18 x19 g_173 g_174 g_175 g_176 x24 x25 g_177 g_178 0 x29 x30 x33 x45 x46 x52 x53 x61 x62 x63 x65 x66 f1 f2 f3 q4 q_12 q_26 g_42 g_172 g_43 g_40 g_41 m12_0 m12_1 m13_0 m13_1 m14_0 m14_1 m15_0 m15_1 f17 q31 f32 f34 f35 f36 f37 q38 f39 f40 f41 m42_0 m42_1 f43 f44 f47 f48 f49 f50 f51 q54 q55 q56 f57 q58 f59 f60 f64 hx16 hx18 hx19 hg_174 hg_175 hg_177 (Nat.le_of_ble_eq_true rfl) hx29 hx30 hx33 hx46 hx52 hx53 hx61 hx62 hx63 hx65 hm12_0 hm12_1 hm13_0 hm13_1 (Nat.le_trans hm14_0 (Nat.le_of_ble_eq_true rfl)) hm14_1 hm15_0 hm15_1 hm42_0 hm42_1) (cwV 0 hts g_EM_readEdge_0_EM_isGood rfl rfl rfl (by decide +kernel) ⟨Nat.le_of_ble_eq_true rfl, Nat.le_of_ble_eq_true rfl⟩) ⟨pu_bl, va_recv hK hP (ci := 9) (q0 := 0) rfl rfl, pu_in hP hK hD⟩ rfl rfl hl.1 rfl (lv_room (Nat.le_of_ble_eq_true rfl)) dX9_readEdge_140 ⟨Nat.le_of_ble_eq_true rfl, Nat.le_of_ble_eq_true rfl⟩) hS (fun q _ h => pu_fr hS hA q h) (pu_fr hS hA) (fun r_186 u t H1 locs ht hvm hw hB hz1 hk1 hS => ?_)
        have hP := pu_keep hP hk1
        clear hk1 hz1 ht hvm
        generalize H1 = H at hP hS ⊢
        obtain ⟨u_187, hu_187, rfl, ju_187, iu_187⟩ := hw
        have hsp := hsp.trans (slet_eq iu_187)
        refine lv_if_eq (tgt := 215) hx hb dX9_readEdge_143 (by decide) (fun c_188 => ?_) (fun c_188 => ?_)
        · have c_188 : u_187 = 0 := (nI_eq (a := u_187) (b := 0) (Nat.lt_of_le_of_lt hu_187 (Nat.le_of_ble_eq_true rfl)) (Nat.le_of_ble_eq_true rfl)).mp c_188
          have hsp := hsp.trans (if_pos c_188)
          have hsp := hout_185 _ hsp
          exact j_159 _ _ _ _ ⟨g_173, g_174, g_175, g_176, g_177, g_178, g_172, rfl, hg_174, hg_175, hg_177, by omega, hsp.symm, hP, hD, hS, lv_sub hl [0, 1] rfl⟩
        · have c_188 : ¬ u_187 = 0 := fun z => c_188 ((nI_eq (a := u_187) (b := 0) (Nat.lt_of_le_of_lt hu_187 (Nat.le_of_ble_eq_true rfl)) (Nat.le_of_ble_eq_true rfl)).mpr z)
          have hsp := hsp.trans (if_neg c_188)
          refine lv_aload_n hx hb dX9_readEdge_146 rfl (lv_at hl 0 rfl) ?_
          refine lv_ldc hx hb hown v_16 dX9_readEdge_147 ?_
          refine va_calli (va_runV (As := [.int 19057844]) (rest := []) ⟨hx, hb, hml, hown, hts⟩ (c_EM_isWord l dC dI _ ad ck x0 x16 x18 x19 g_173 g_174 g_175 g_176 x24 x25 g_177 g_178 0 x29 x30 x33 x45 x46 x52 x53 x61 x62 x63 x65 x66 f1 f2 f3 q4 q_12 q_26 g_42 g_172 g_43 g_40 g_41 m12_0 m12_1 m13_0 m13_1 m14_0 m14_1 m15_0 m15_1 f17 q31 f32 f34 f35 f36 f37 q38 f39 f40 f41 m42_0 m42_1 f43 f44 f47 f48 f49 f50 f51 q54 q55 q56 f57 q58 f59 f60 f64 19057844 hx16 hx18 hx19 hg_174 hg_175 hg_177 (Nat.le_of_ble_eq_true rfl) hx29 hx30 hx33 hx46 hx52 hx53 hx61 hx62 hx63 hx65 hm12_0 hm12_1 hm13_0 hm13_1 (Nat.le_trans hm14_0 (Nat.le_of_ble_eq_true rfl)) hm14_1 hm15_0 hm15_1 hm42_0 hm42_1) (cwV 1 hts g_EM_readEdge_0_EM_isWord rfl rfl rfl (by decide +kernel) ⟨Nat.le_of_ble_eq_true rfl, Nat.le_of_ble_eq_true rfl⟩) ⟨pu_bl, va_recv hK hP (ci := 9) (q0 := 0) rfl rfl, pu_in hP hK hD⟩ rfl rfl hl.1 rfl (lv_room (Nat.le_of_ble_eq_true rfl)) dX9_readEdge_149 ⟨Nat.le_of_ble_eq_true rfl, Nat.le_of_ble_eq_true rfl⟩) hS (fun q _ h => pu_fr hS hA q h) (pu_fr hS hA) (fun r_189 u t H1 locs ht hvm hw hB hz1 hk1 hS => ?_)
          have hP := pu_keep hP hk1
          clear hk1 hz1 ht hvm
          generalize H1 = H at hP hS ⊢
          obtain ⟨u_190, hu_190, rfl, ju_190, iu_190⟩ := hw
          have hsp := hsp.trans (slet_eq iu_190)
          refine lv_if_eq (tgt := 215) hx hb dX9_readEdge_152 (by decide) (fun c_191 => ?_) (fun c_191 => ?_)
          · have c_191 : u_190 = 0 := (nI_eq (a := u_190) (b := 0) (Nat.lt_of_le_of_lt hu_190 (Nat.le_of_ble_eq_true rfl)) (Nat.le_of_ble_eq_true rfl)).mp c_191
            have hsp := hsp.trans (if_pos c_191)
            have hsp := hout_185 _ hsp
            exact j_159 _ _ _ _ ⟨g_173, g_174, g_175, g_176, g_177, g_178, g_172, rfl, hg_174, hg_175, hg_177, by omega, hsp.symm, hP, hD, hS, lv_sub hl [0, 1] rfl⟩
          · have c_191 : ¬ u_190 = 0 := fun z => c_191 ((nI_eq (a := u_190) (b := 0) (Nat.lt_of_le_of_lt hu_190 (Nat.le_of_ble_eq_true rfl)) (Nat.le_of_ble_eq_true rfl)).mpr z)
            have hsp := hsp.trans (if_neg c_191)
            refine lv_aload_n hx hb dX9_readEdge_155 rfl (lv_at hl 0 rfl) ?_
            have hFc := pu_free hD hS hA
            refine va_callv (va_runV (As := []) (rest := []) ⟨hx, hb, hml, hown, hts⟩ (c_EM_next l dC dI _ ad ck x0 x16 x18 x19 g_173 g_174 g_175 g_176 x24 x25 g_177 g_178 0 x29 x30 x33 x45 x46 x52 x53 x61 x62 x63 x65 x66 f1 f2 f3 q4 q_12 q_26 g_42 g_172 g_43 g_40 g_41 m12_0 m12_1 m13_0 m13_1 m14_0 m14_1 m15_0 m15_1 f17 q31 f32 f34 f35 f36 f37 q38 f39 f40 f41 m42_0 m42_1 f43 f44 f47 f48 f49 f50 f51 q54 q55 q56 f57 q58 f59 f60 f64 hx16 hx18 hx19 hg_174 hg_175 hg_177 (Nat.le_of_ble_eq_true rfl) hx29 hx30 hx33 hx46 hx52 hx53 hx61 hx62 hx63 hx65 hm12_0 hm12_1 hm13_0 hm13_1 (Nat.le_trans hm14_0 (Nat.le_of_ble_eq_true rfl)) hm14_1 hm15_0 hm15_1 hm42_0 hm42_1) (cwV 0 hts g_EM_readEdge_0_EM_next rfl rfl rfl (by decide +kernel) ⟨Nat.le_of_ble_eq_true rfl, Nat.le_of_ble_eq_true rfl⟩) ⟨pu_bl, va_recv hK hP (ci := 9) (q0 := 0) rfl rfl, pu_in hP hK hD⟩ rfl rfl hl.1 rfl (lv_room (Nat.le_of_ble_eq_true rfl)) dX9_readEdge_156 ⟨Nat.le_of_ble_eq_true rfl, Nat.le_of_ble_eq_true rfl⟩) hS (fun q _ h => hFc q h) hFc (fun u t H1 locs ht hvm hw hB hz1 hk1 hS => ?_)
            obtain ⟨z20_193, z21_194, z22_195, z23_196, ⟨hP1, -, hD1⟩, hz21_194, hz22_195, xr_192_0, xr_192_1, xr_192_2⟩ := hB
            rw [ht] at hP1
            have hP := hP1
            have hD := pu_all hFc hD1
            clear hP1 hD1 hFc
            clear hk1 hz1 ht hvm
            generalize H1 = H at hP hS ⊢
            have hsp := hsp.trans (slet_eq xr_192_2)
            refine lv_aload_n hx hb dX9_readEdge_159 rfl (lv_at hl 0 rfl) ?_
            have hFc := pu_free hD hS hA
            refine va_calli (va_runV (As := []) (rest := []) ⟨hx, hb, hml, hown, hts⟩ (c_EM_toldClock_0 l dC dI _ ad ck x0 x16 x18 x19 z20_193 z21_194 z22_195 z23_196 x24 x25 g_177 g_178 x29 x30 x33 x45 x46 x52 x53 x61 x62 x63 x65 x66 f1 f2 f3 q4 q_12 q_26 g_42 g_172 g_43 g_40 g_41 m12_0 m12_1 m13_0 m13_1 m14_0 m14_1 m15_0 m15_1 f17 q31 f32 f34 f35 f36 f37 q38 f39 f40 f41 m42_0 m42_1 f43 f44 f47 f48 f49 f50 f51 q54 q55 q56 f57 q58 f59 f60 f64 hx16 hx18 hx19 hz21_194 hz22_195 hg_177 hx29 hx30 hx33 hx46 hx52 hx53 hx61 hx62 hx63 hx65 hm12_0 hm12_1 hm13_0 hm13_1 (Nat.le_trans hm14_0 (Nat.le_of_ble_eq_true rfl)) hm14_1 hm15_0 hm15_1 hm42_0 hm42_1) (cwV 0 hts g_EM_readEdge_0_EM_toldClock_0 rfl rfl rfl (by decide +kernel) ⟨Nat.le_of_ble_eq_true rfl, Nat.le_of_ble_eq_true rfl⟩) ⟨pu_bl, va_recv hK hP (ci := 9) (q0 := 0) rfl rfl, pu_in hP hK hD⟩ rfl rfl hl.1 rfl (lv_room (Nat.le_of_ble_eq_true rfl)) dX9_readEdge_160 ⟨Nat.le_of_ble_eq_true rfl, Nat.le_of_ble_eq_true rfl⟩) hS (fun q _ h => hFc q h) hFc (fun r_197 u t H1 locs ht hvm hw hB hz1 hk1 hS => ?_)
            obtain ⟨z26_198, z27_199, ⟨hP1, -, hD1⟩, hz26_198, xr_197_0⟩ := hB
            rw [ht] at hP1
            have hP := hP1
            have hD := pu_all hFc hD1
            clear hP1 hD1 hFc
            clear hk1 hz1 ht hvm
            generalize H1 = H at hP hS ⊢
            obtain ⟨u_200, hu_200, rfl, iu_200⟩ := hw
            have iu_200 : (u_200, z26_198, z27_199) = (sp_EM_toldClock_0 z20_193 z22_195 z23_196 g_177 g_178 f1 m12_0) := Prod.ext iu_200 xr_197_0
            have hsp := hsp.trans (slet_eq iu_200)
            refine lv_istore_n (lv' := [(2, .int (nI u_200)), (0, .ref (ad 0)), (1, .int (nI (0 + m14_0)))]) hx hb dX9_readEdge_163 rfl hl (by decide) rfl (fun ls hl => ?_)
            refine lv_aload_n hx hb dX9_readEdge_164 rfl (lv_at hl 1 rfl) ?_
            refine va_calli (va_runV (As := []) (rest := []) ⟨hx, hb, hml, hown, hts⟩ (c_EM_isGood l dC dI _ ad ck x0 x16 x18 x19 z20_193 z21_194 z22_195 z23_196 x24 x25 z26_198 z27_199 0 x29 x30 x33 x45 x46 x52 x53 x61 x62 x63 x65 x66 f1 f2 f3 q4 q_12 q_26 g_42 g_172 g_43 g_40 g_41 m12_0 m12_1 m13_0 m13_1 m14_0 m14_1 m15_0 m15_1 f17 q31 f32 f34 f35 f36 f37 q38 f39 f40 f41 m42_0 m42_1 f43 f44 f47 f48 f49 f50 f51 q54 q55 q56 f57 q58 f59 f60 f64 hx16 hx18 hx19 hz21_194 hz22_195 hz26_198 (Nat.le_of_ble_eq_true rfl) hx29 hx30 hx33 hx46 hx52 hx53 hx61 hx62 hx63 hx65 hm12_0 hm12_1 hm13_0 hm13_1 (Nat.le_trans hm14_0 (Nat.le_of_ble_eq_true rfl)) hm14_1 hm15_0 hm15_1 hm42_0 hm42_1) (cwV 0 hts g_EM_readEdge_0_EM_isGood rfl rfl rfl (by decide +kernel) ⟨Nat.le_of_ble_eq_true rfl, Nat.le_of_ble_eq_true rfl⟩) ⟨pu_bl, va_recv hK hP (ci := 9) (q0 := 0) rfl rfl, pu_in hP hK hD⟩ rfl rfl hl.1 rfl (lv_room (Nat.le_of_ble_eq_true rfl)) dX9_readEdge_165 ⟨Nat.le_of_ble_eq_true rfl, Nat.le_of_ble_eq_true rfl⟩) hS (fun q _ h => pu_fr hS hA q h) (pu_fr hS hA) (fun r_201 u t H1 locs ht hvm hw hB hz1 hk1 hS => ?_)
            have hP := pu_keep hP hk1
            clear hk1 hz1 ht hvm
            generalize H1 = H at hP hS ⊢
            obtain ⟨u_202, hu_202, rfl, ju_202, iu_202⟩ := hw
            have hsp := hsp.trans (slet_eq iu_202)
            obtain ⟨JR_208, hJR_208, hsp⟩ := slet_ex hsp
            refine pu_join (fun H locs ls st => ∃ (g_203 : Nat) (g_204 : Int32), st = [] ∧ g_203 ≤ 6 ∧ mu z21_194 z22_195 ≤ mu x21 x22 ∧ mu z21_194 z22_195 < mu g_174 g_175 ∧ (g_203, g_204) = JR_208 ∧ va_P (dC, dI) vwCl (mo_w ad ck x0 (nI x16) (nI x18) (nI x19) z20_193 (nI z21_194) (nI z22_195) z23_196 x24 x25 (nI g_203) g_204 0 (nI x29) (nI x30) (nI x33) x45 (nI x46) (nI x52) (nI x53) (nI x61) (nI x62) (nI x63) (nI x65) x66 f1 f2 f3 (bN 3 q4) (bN 7 q_12) (bN 7 q_26) (bN 4 g_42) g_172 (bN 2 g_43) (bH g_40) g_41 (b2 m12_0 m12_1) (b2 m13_0 m13_1) (b2 m14_0 m14_1) (b2m m15_0 m15_1) f17 (bA 159 q31) f32 f34 f35 f36 f37 (bN 7 q38) f39 f40 f41 (b2 m42_0 m42_1) f43 f44 f47 f48 f49 f50 f51 (bN 13 q54) (bN 120 q55) (bN 120 q56) f57 (bN 120 q58) f59 f60 f64) H ∧ va_D A (mo_w ad ck x0 (nI x16) (nI x18) (nI x19) z20_193 (nI z21_194) (nI z22_195) z23_196 x24 x25 (nI g_203) g_204 0 (nI x29) (nI x30) (nI x33) x45 (nI x46) (nI x52) (nI x53) (nI x61) (nI x62) (nI x63) (nI x65) x66 f1 f2 f3 (bN 3 q4) (bN 7 q_12) (bN 7 q_26) (bN 4 g_42) g_172 (bN 2 g_43) (bH g_40) g_41 (b2 m12_0 m12_1) (b2 m13_0 m13_1) (b2 m14_0 m14_1) (b2m m15_0 m15_1) f17 (bA 159 q31) f32 f34 f35 f36 f37 (bN 7 q38) f39 f40 f41 (b2 m42_0 m42_1) f43 f44 f47 f48 f49 f50 f51 (bN 13 q54) (bN 120 q55) (bN 120 q56) f57 (bN 120 q58) f59 f60 f64) ∧ va_S A s.heap H locs ∧ lv_has ls 3 [(0, .ref (ad 0)), (1, .int (nI (0 + m14_0))), (2, .int (nI u_200))]) 189 ?_ (fun j_207 => ?_)
            · rintro H locs ls st ⟨g_203, g_204, rfl, hg_203, he_205, he_206, he_209, hP, hD, hS, hl⟩
              rw [← he_209] at hsp
              refine lv_aload_n hx hb dX9_readEdge_189 rfl (lv_at hl 0 rfl) ?_
              refine va_get (D := (dC, dI)) (ci := 9) (v := .ref (ad 8)) (C := RX9) (T := TX9) (N := 67) hx hb hts hiX9 hown hK hP 0 rfl rfl 8 (by decide) v_15 (fun _ h9 => h9) rfl dX9_readEdge_190 ?_
              refine lv_iload_n hx hb dX9_readEdge_193 rfl (lv_at hl 1 rfl) ?_
              refine lv_dup2_11 hx hb dX9_readEdge_194 rfl rfl ?_
              refine va_iald hx hb hK hP 8 7 rfl rfl (vp_in_nI (n := (0 + m14_0)) (by omega) (Nat.le_of_ble_eq_true rfl)) dX9_readEdge_195 ?_
              refine lv_topi (fun y_210 ey_210 => ?_)
              have ey_210 : y_210 = g_172 (0 + m14_0) := ey_210.trans (congrArg g_172 (nI_clamp (n := (0 + m14_0)) (by omega)))
              have hsp := hsp.trans (slet_eq ey_210)
              refine lv_iconst (v := 1) hx hb dX9_readEdge_196 (by decide) ?_
              refine lv_iload_n hx hb dX9_readEdge_197 rfl (lv_at hl 2 rfl) ?_
              refine lv_ishl hx hb dX9_readEdge_198 ?_
              refine lv_topi (fun y_211 ey_211 => ?_)
              have hsp := hsp.trans (slet_eq ey_211)
              refine lv_ior hx hb dX9_readEdge_199 ?_
              refine lv_topi (fun y_212 ey_212 => ?_)
              have hsp := hsp.trans (slet_eq ey_212)
              refine va_iast hx hb hK hP hD hS 8 7 rfl rfl (vp_in_nI (n := (0 + m14_0)) (by omega) (Nat.le_of_ble_eq_true rfl)) dX9_readEdge_200 (fun H locs hP hD hS => ?_)
              obtain ⟨f_213, ef_213, xf_213⟩ := up_x g_172 (n := (0 + m14_0)) y_212 (by omega)
              have hP : va_P (dC, dI) vwCl (mo_w ad ck x0 (nI x16) (nI x18) (nI x19) z20_193 (nI z21_194) (nI z22_195) z23_196 x24 x25 (nI g_203) g_204 0 (nI x29) (nI x30) (nI x33) x45 (nI x46) (nI x52) (nI x53) (nI x61) (nI x62) (nI x63) (nI x65) x66 f1 f2 f3 (bN 3 q4) (bN 7 q_12) (bN 7 q_26) (bN 4 g_42) f_213 (bN 2 g_43) (bH g_40) g_41 (b2 m12_0 m12_1) (b2 m13_0 m13_1) (b2 m14_0 m14_1) (b2m m15_0 m15_1) f17 (bA 159 q31) f32 f34 f35 f36 f37 (bN 7 q38) f39 f40 f41 (b2 m42_0 m42_1) f43 f44 f47 f48 f49 f50 f51 (bN 13 q54) (bN 120 q55) (bN 120 q56) f57 (bN 120 q58) f59 f60 f64) H := by rw [← ef_213]; exact hP
              have hD : va_D A (mo_w ad ck x0 (nI x16) (nI x18) (nI x19) z20_193 (nI z21_194) (nI z22_195) z23_196 x24 x25 (nI g_203) g_204 0 (nI x29) (nI x30) (nI x33) x45 (nI x46) (nI x52) (nI x53) (nI x61) (nI x62) (nI x63) (nI x65) x66 f1 f2 f3 (bN 3 q4) (bN 7 q_12) (bN 7 q_26) (bN 4 g_42) f_213 (bN 2 g_43) (bH g_40) g_41 (b2 m12_0 m12_1) (b2 m13_0 m13_1) (b2 m14_0 m14_1) (b2m m15_0 m15_1) f17 (bA 159 q31) f32 f34 f35 f36 f37 (bN 7 q38) f39 f40 f41 (b2 m42_0 m42_1) f43 f44 f47 f48 f49 f50 f51 (bN 13 q54) (bN 120 q55) (bN 120 q56) f57 (bN 120 q58) f59 f60 f64) := by rw [← ef_213]; exact hD
              have hsp := hsp.trans (slet_eq xf_213)
              refine lv_aload_n hx hb dX9_readEdge_201 rfl (lv_at hl 0 rfl) ?_
              refine va_calli (va_runV (As := []) (rest := []) ⟨hx, hb, hml, hown, hts⟩ (c_EM_isGood l dC dI _ ad ck x0 x16 x18 x19 z20_193 z21_194 z22_195 z23_196 x24 x25 g_203 g_204 0 x29 x30 x33 x45 x46 x52 x53 x61 x62 x63 x65 x66 f1 f2 f3 q4 q_12 q_26 g_42 f_213 g_43 g_40 g_41 m12_0 m12_1 m13_0 m13_1 m14_0 m14_1 m15_0 m15_1 f17 q31 f32 f34 f35 f36 f37 q38 f39 f40 f41 m42_0 m42_1 f43 f44 f47 f48 f49 f50 f51 q54 q55 q56 f57 q58 f59 f60 f64 hx16 hx18 hx19 hz21_194 hz22_195 hg_203 (Nat.le_of_ble_eq_true rfl) hx29 hx30 hx33 hx46 hx52 hx53 hx61 hx62 hx63 hx65 hm12_0 hm12_1 hm13_0 hm13_1 (Nat.le_trans hm14_0 (Nat.le_of_ble_eq_true rfl)) hm14_1 hm15_0 hm15_1 hm42_0 hm42_1) (cwV 0 hts g_EM_readEdge_0_EM_isGood rfl rfl rfl (by decide +kernel) ⟨Nat.le_of_ble_eq_true rfl, Nat.le_of_ble_eq_true rfl⟩) ⟨pu_bl, va_recv hK hP (ci := 9) (q0 := 0) rfl rfl, pu_in hP hK hD⟩ rfl rfl hl.1 rfl (lv_room (Nat.le_of_ble_eq_true rfl)) dX9_readEdge_202 ⟨Nat.le_of_ble_eq_true rfl, Nat.le_of_ble_eq_true rfl⟩) hS (fun q _ h => pu_fr hS hA q h) (pu_fr hS hA) (fun r_214 u t H1 locs ht hvm hw hB hz1 hk1 hS => ?_)
              have hP := pu_keep hP hk1
              clear hk1 hz1 ht hvm
              generalize H1 = H at hP hS ⊢
              obtain ⟨u_215, hu_215, rfl, ju_215, iu_215⟩ := hw
              have hsp := hsp.trans (slet_eq iu_215)
              obtain ⟨JR_223, hJR_223, hsp⟩ := slet_ex hsp
              refine pu_join (fun H locs ls st => ∃ (g_216 : Int32) (g_217 : Nat) (g_218 : Nat) (g_219 : Int32), st = [] ∧ g_217 ≤ 900 ∧ g_218 ≤ 4 ∧ mu g_217 g_218 ≤ mu x21 x22 ∧ mu g_217 g_218 < mu g_174 g_175 ∧ (g_216, g_217, g_218, g_219) = JR_223 ∧ va_P (dC, dI) vwCl (mo_w ad ck x0 (nI x16) (nI x18) (nI x19) g_216 (nI g_217) (nI g_218) g_219 x24 x25 (nI g_203) g_204 0 (nI x29) (nI x30) (nI x33) x45 (nI x46) (nI x52) (nI x53) (nI x61) (nI x62) (nI x63) (nI x65) x66 f1 f2 f3 (bN 3 q4) (bN 7 q_12) (bN 7 q_26) (bN 4 g_42) f_213 (bN 2 g_43) (bH g_40) g_41 (b2 m12_0 m12_1) (b2 m13_0 m13_1) (b2 m14_0 m14_1) (b2m m15_0 m15_1) f17 (bA 159 q31) f32 f34 f35 f36 f37 (bN 7 q38) f39 f40 f41 (b2 m42_0 m42_1) f43 f44 f47 f48 f49 f50 f51 (bN 13 q54) (bN 120 q55) (bN 120 q56) f57 (bN 120 q58) f59 f60 f64) H ∧ va_D A (mo_w ad ck x0 (nI x16) (nI x18) (nI x19) g_216 (nI g_217) (nI g_218) g_219 x24 x25 (nI g_203) g_204 0 (nI x29) (nI x30) (nI x33) x45 (nI x46) (nI x52) (nI x53) (nI x61) (nI x62) (nI x63) (nI x65) x66 f1 f2 f3 (bN 3 q4) (bN 7 q_12) (bN 7 q_26) (bN 4 g_42) f_213 (bN 2 g_43) (bH g_40) g_41 (b2 m12_0 m12_1) (b2 m13_0 m13_1) (b2 m14_0 m14_1) (b2m m15_0 m15_1) f17 (bA 159 q31) f32 f34 f35 f36 f37 (bN 7 q38) f39 f40 f41 (b2 m42_0 m42_1) f43 f44 f47 f48 f49 f50 f51 (bN 13 q54) (bN 120 q55) (bN 120 q56) f57 (bN 120 q58) f59 f60 f64) ∧ va_S A s.heap H locs ∧ lv_has ls 3 [(0, .ref (ad 0)), (1, .int (nI (0 + m14_0))), (2, .int (nI u_200))]) 212 ?_ (fun j_222 => ?_)
              · rintro H locs ls st ⟨g_216, g_217, g_218, g_219, rfl, hg_217, hg_218, he_220, he_221, he_224, hP, hD, hS, hl⟩
                rw [← he_224] at hsp
                refine lv_goto (tgt := 139) hx hb dX9_readEdge_212 (by decide) ?_
                exact ih_180 (mu g_217 g_218) (by omega) _ _ _ ⟨f_213, g_216, g_217, g_218, g_219, g_203, g_204, rfl, hg_217, hg_218, hg_203, by omega, hin_184 _ hsp, hP, hD, hS, lv_sub hl [0, 1] rfl⟩
              have hsp := hJR_223
              refine lv_if_eq (tgt := 212) hx hb dX9_readEdge_205 (by decide) (fun c_225 => ?_) (fun c_225 => ?_)
              · have c_225 : u_215 = 0 := (nI_eq (a := u_215) (b := 0) (Nat.lt_of_le_of_lt hu_215 (Nat.le_of_ble_eq_true rfl)) (Nat.le_of_ble_eq_true rfl)).mp c_225
                have hsp := hsp.trans (if_pos c_225)
                exact j_222 _ _ _ _ ⟨z20_193, z21_194, z22_195, z23_196, rfl, hz21_194, hz22_195, by omega, by omega, hsp.symm, hP, hD, hS, lv_sub hl [0, 1, 2] rfl⟩
              · have c_225 : ¬ u_215 = 0 := fun z => c_225 ((nI_eq (a := u_215) (b := 0) (Nat.lt_of_le_of_lt hu_215 (Nat.le_of_ble_eq_true rfl)) (Nat.le_of_ble_eq_true rfl)).mpr z)
                have hsp := hsp.trans (if_neg c_225)
                refine lv_aload_n hx hb dX9_readEdge_208 rfl (lv_at hl 0 rfl) ?_
                have hFc := pu_free hD hS hA
                refine va_callv (va_runV (As := []) (rest := []) ⟨hx, hb, hml, hown, hts⟩ (c_EM_next l dC dI _ ad ck x0 x16 x18 x19 z20_193 z21_194 z22_195 z23_196 x24 x25 g_203 g_204 0 x29 x30 x33 x45 x46 x52 x53 x61 x62 x63 x65 x66 f1 f2 f3 q4 q_12 q_26 g_42 f_213 g_43 g_40 g_41 m12_0 m12_1 m13_0 m13_1 m14_0 m14_1 m15_0 m15_1 f17 q31 f32 f34 f35 f36 f37 q38 f39 f40 f41 m42_0 m42_1 f43 f44 f47 f48 f49 f50 f51 q54 q55 q56 f57 q58 f59 f60 f64 hx16 hx18 hx19 hz21_194 hz22_195 hg_203 (Nat.le_of_ble_eq_true rfl) hx29 hx30 hx33 hx46 hx52 hx53 hx61 hx62 hx63 hx65 hm12_0 hm12_1 hm13_0 hm13_1 (Nat.le_trans hm14_0 (Nat.le_of_ble_eq_true rfl)) hm14_1 hm15_0 hm15_1 hm42_0 hm42_1) (cwV 0 hts g_EM_readEdge_0_EM_next rfl rfl rfl (by decide +kernel) ⟨Nat.le_of_ble_eq_true rfl, Nat.le_of_ble_eq_true rfl⟩) ⟨pu_bl, va_recv hK hP (ci := 9) (q0 := 0) rfl rfl, pu_in hP hK hD⟩ rfl rfl hl.1 rfl (lv_room (Nat.le_of_ble_eq_true rfl)) dX9_readEdge_209 ⟨Nat.le_of_ble_eq_true rfl, Nat.le_of_ble_eq_true rfl⟩) hS (fun q _ h => hFc q h) hFc (fun u t H1 locs ht hvm hw hB hz1 hk1 hS => ?_)
                obtain ⟨z20_227, z21_228, z22_229, z23_230, ⟨hP1, -, hD1⟩, hz21_228, hz22_229, xr_226_0, xr_226_1, xr_226_2⟩ := hB
                rw [ht] at hP1
                have hP := hP1
                have hD := pu_all hFc hD1
                clear hP1 hD1 hFc
                clear hk1 hz1 ht hvm
                generalize H1 = H at hP hS ⊢
                have hsp := hsp.trans (slet_eq xr_226_2)
                exact j_222 _ _ _ _ ⟨z20_227, z21_228, z22_229, z23_230, rfl, hz21_228, hz22_229, by omega, by omega, hsp.symm, hP, hD, hS, lv_sub hl [0, 1, 2] rfl⟩
            have hsp := hJR_208
            refine lv_if_eq (tgt := 189) hx hb dX9_readEdge_168 (by decide) (fun c_231 => ?_) (fun c_231 => ?_)
            · have c_231 : u_202 = 0 := (nI_eq (a := u_202) (b := 0) (Nat.lt_of_le_of_lt hu_202 (Nat.le_of_ble_eq_true rfl)) (Nat.le_of_ble_eq_true rfl)).mp c_231
              have hsp := hsp.trans (if_pos c_231)
              exact j_207 _ _ _ _ ⟨z26_198, z27_199, rfl, hz26_198, by omega, by omega, hsp.symm, hP, hD, hS, lv_sub hl [1, 2, 0] rfl⟩
            · have c_231 : ¬ u_202 = 0 := fun z => c_231 ((nI_eq (a := u_202) (b := 0) (Nat.lt_of_le_of_lt hu_202 (Nat.le_of_ble_eq_true rfl)) (Nat.le_of_ble_eq_true rfl)).mpr z)
              have hsp := hsp.trans (if_neg c_231)
              refine lv_aload_n hx hb dX9_readEdge_171 rfl (lv_at hl 1 rfl) ?_
              refine va_get (D := (dC, dI)) (ci := 9) (v := .ref (ad 8)) (C := RX9) (T := TX9) (N := 67) hx hb hts hiX9 hown hK hP 0 rfl rfl 8 (by decide) v_15 (fun _ h9 => h9) rfl dX9_readEdge_172 ?_
              refine lv_iload_n hx hb dX9_readEdge_175 rfl (lv_at hl 2 rfl) ?_
              refine va_iald hx hb hK hP 8 7 rfl rfl (vp_in_nI (n := (0 + m14_0)) (by omega) (Nat.le_of_ble_eq_true rfl)) dX9_readEdge_176 ?_
              refine lv_topi (fun y_232 ey_232 => ?_)
              have ey_232 : y_232 = g_172 (0 + m14_0) := ey_232.trans (congrArg g_172 (nI_clamp (n := (0 + m14_0)) (by omega)))
              have hsp := hsp.trans (slet_eq ey_232)
              refine lv_iload_n hx hb dX9_readEdge_177 rfl (lv_at hl 0 rfl) ?_
              refine va_calli (va_runS (As := [.int y_232, .int (nI u_200)]) (rest := []) ⟨hx, hb, hml, hown, hts⟩ (c_EM_isOf l dC dI _ ad ck x0 x16 x18 x19 z20_193 z21_194 z22_195 z23_196 x24 x25 z26_198 z27_199 0 x29 x30 x33 x45 x46 x52 x53 x61 x62 x63 x65 x66 f1 f2 f3 q4 q_12 q_26 g_42 g_172 g_43 g_40 g_41 m12_0 m12_1 m13_0 m13_1 m14_0 m14_1 m15_0 m15_1 f17 q31 f32 f34 f35 f36 f37 q38 f39 f40 f41 m42_0 m42_1 f43 f44 f47 f48 f49 f50 f51 q54 q55 q56 f57 q58 f59 f60 f64 y_232 (nI u_200) hx16 hx18 hx19 hz21_194 hz22_195 hz26_198 (Nat.le_of_ble_eq_true rfl) hx29 hx30 hx33 hx46 hx52 hx53 hx61 hx62 hx63 hx65 hm12_0 hm12_1 hm13_0 hm13_1 (Nat.le_trans hm14_0 (Nat.le_of_ble_eq_true rfl)) hm14_1 hm15_0 hm15_1 hm42_0 hm42_1) (va_cwS 2 hts g_EM_readEdge_0_EM_isOf rfl rfl rfl (by decide +kernel) ⟨Nat.le_of_ble_eq_true rfl, Nat.le_of_ble_eq_true rfl⟩) ⟨pu_bl, pu_in hP hK hD⟩ rfl rfl hl.1 rfl (lv_room (Nat.le_of_ble_eq_true rfl)) dX9_readEdge_178 ⟨Nat.le_of_ble_eq_true rfl, Nat.le_of_ble_eq_true rfl⟩) hS (fun q _ h => pu_fr hS hA q h) (pu_fr hS hA) (fun r_233 u t H1 locs ht hvm hw hB hz1 hk1 hS => ?_)
              have hP := pu_keep hP hk1
              clear hk1 hz1 ht hvm
              generalize H1 = H at hP hS ⊢
              obtain ⟨u_234, hu_234, rfl, iu_234⟩ := hw
              have hsp := hsp.trans (slet_eq iu_234)
              refine lv_if_eq (tgt := 189) hx hb dX9_readEdge_181 (by decide) (fun c_235 => ?_) (fun c_235 => ?_)
              · have c_235 : u_234 = 0 := (nI_eq (a := u_234) (b := 0) (Nat.lt_of_le_of_lt hu_234 (Nat.le_of_ble_eq_true rfl)) (Nat.le_of_ble_eq_true rfl)).mp c_235
                have hsp := hsp.trans (if_pos c_235)
                exact j_207 _ _ _ _ ⟨z26_198, z27_199, rfl, hz26_198, by omega, by omega, hsp.symm, hP, hD, hS, lv_sub hl [1, 2, 0] rfl⟩
              · have c_235 : ¬ u_234 = 0 := fun z => c_235 ((nI_eq (a := u_234) (b := 0) (Nat.lt_of_le_of_lt hu_234 (Nat.le_of_ble_eq_true rfl)) (Nat.le_of_ble_eq_true rfl)).mpr z)
                have hsp := hsp.trans (if_neg c_235)
                refine lv_aload_n hx hb dX9_readEdge_184 rfl (lv_at hl 1 rfl) ?_
                refine lv_iconst (v := 5) hx hb dX9_readEdge_185 (by decide) ?_
                have hFc := pu_free hD hS hA
                refine va_callv (va_runV (As := [.int 5]) (rest := []) ⟨hx, hb, hml, hown, hts⟩ (c_EM_fails l dC dI _ ad ck x0 x16 x18 x19 z20_193 z21_194 z22_195 z23_196 x24 x25 z26_198 z27_199 0 x29 x30 x33 x45 x46 x52 x53 x61 x62 x63 x65 x66 f1 f2 f3 q4 q_12 q_26 g_42 g_172 g_43 g_40 g_41 m12_0 m12_1 m13_0 m13_1 m14_0 m14_1 m15_0 m15_1 f17 q31 f32 f34 f35 f36 f37 q38 f39 f40 f41 m42_0 m42_1 f43 f44 f47 f48 f49 f50 f51 q54 q55 q56 f57 q58 f59 f60 f64 5 hx16 hx18 hx19 hz21_194 hz22_195 hz26_198 (Nat.le_of_ble_eq_true rfl) hx29 hx30 hx33 hx46 hx52 hx53 hx61 hx62 hx63 hx65 hm12_0 hm12_1 hm13_0 hm13_1 (Nat.le_trans hm14_0 (Nat.le_of_ble_eq_true rfl)) hm14_1 hm15_0 hm15_1 hm42_0 hm42_1 (Nat.le_of_ble_eq_true rfl) (by omega)) (cwV 1 hts g_EM_readEdge_0_EM_fails rfl rfl rfl (by decide +kernel) ⟨Nat.le_of_ble_eq_true rfl, Nat.le_of_ble_eq_true rfl⟩) ⟨pu_bl, va_recv hK hP (ci := 9) (q0 := 0) rfl rfl, pu_in hP hK hD⟩ rfl rfl hl.1 rfl (lv_room (Nat.le_of_ble_eq_true rfl)) dX9_readEdge_186 ⟨Nat.le_of_ble_eq_true rfl, Nat.le_of_ble_eq_true rfl⟩) hS (fun q _ h => hFc q h) hFc (fun u t H1 locs ht hvm hw hB hz1 hk1 hS => ?_)
                obtain ⟨z26_237, z27_238, ⟨hP1, -, hD1⟩, hz26_237, xr_236_0, xr_236_1⟩ := hB
                rw [ht] at hP1
                have hP := hP1
                have hD := pu_all hFc hD1
                clear hP1 hD1 hFc
                clear hk1 hz1 ht hvm
                generalize H1 = H at hP hS ⊢
                have hsp := hsp.trans (slet_eq xr_236_1)
                exact j_207 _ _ _ _ ⟨z26_237, z27_238, rfl, hz26_237, by omega, by omega, hsp.symm, hP, hD, hS, lv_sub hl [1, 2, 0] rfl⟩
      · have c_150 : ¬ u_149 = 0 := fun z => c_150 ((nI_eq (a := u_149) (b := 0) (Nat.lt_of_le_of_lt hu_149 (Nat.le_of_ble_eq_true rfl)) (Nat.le_of_ble_eq_true rfl)).mpr z)
        have hsp := hsp.trans (if_neg c_150)
        refine lv_aload_n hx hb dX9_readEdge_79 rfl (lv_at hl 0 rfl) ?_
        refine va_get (D := (dC, dI)) (ci := 9) (v := .ref (ad 7)) (C := RX9) (T := TX9) (N := 67) hx hb hts hiX9 hown hK hP 0 rfl rfl 7 (by decide) v_14 (fun _ h9 => h9) rfl dX9_readEdge_80 ?_
        refine lv_iload_n hx hb dX9_readEdge_83 rfl (lv_at hl 1 rfl) ?_
        refine va_iald hx hb hK hP 7 6 rfl rfl (vp_in_nI (n := (0 + m14_0)) (by omega) (Nat.le_of_ble_eq_true rfl)) dX9_readEdge_84 ?_
        refine lv_topi (fun y_239 ey_239 => ?_)
        obtain ⟨u_240, hu_240, qu_240, xu_240⟩ := bN_getx 4 g_42 (n := (0 + m14_0)) (by omega)
        obtain rfl : y_239 = nI u_240 := ey_239.trans qu_240
        have hsp := hsp.trans (slet_eq xu_240)
        refine lv_iconst (v := 4) hx hb dX9_readEdge_85 (by decide) ?_
        refine lv_icmp_ne (tgt := 95) hx hb dX9_readEdge_86 (by decide) (fun c_241 => ?_) (fun c_241 => ?_)
        · have c_241 : ¬ u_240 = 4 := fun z => c_241 ((nI_eq (a := u_240) (b := 4) (Nat.lt_of_le_of_lt hu_240 (Nat.le_of_ble_eq_true rfl)) (Nat.le_of_ble_eq_true rfl)).mpr z)
          have hsp := hsp.trans (if_neg c_241)
          refine lv_aload_n hx hb dX9_readEdge_95 rfl (lv_at hl 0 rfl) ?_
          refine lv_bipush (v := 80) hx hb dX9_readEdge_96 (by decide) ?_
          refine lv_aload_n hx hb dX9_readEdge_98 rfl (lv_at hl 0 rfl) ?_
          refine va_get (D := (dC, dI)) (ci := 9) (v := .int 0) (C := RX9) (T := TX9) (N := 67) hx hb hts hiX9 hown hK hP 0 rfl rfl 28 (by decide) v_1 (fun _ h9 => h9) rfl dX9_readEdge_99 ?_
          refine lv_imul hx hb dX9_readEdge_102 ?_
          refine lv_topi (fun y_242 ey_242 => ?_)
          obtain rfl : y_242 = 0 := ey_242.trans (by decide)
          refine lv_iconst (v := 4) hx hb dX9_readEdge_103 (by decide) ?_
          refine lv_aload_n hx hb dX9_readEdge_104 rfl (lv_at hl 0 rfl) ?_
          refine va_get (D := (dC, dI)) (ci := 9) (v := .ref (ad 14)) (C := RX9) (T := TX9) (N := 67) hx hb hts hiX9 hown hK hP 0 rfl rfl 14 (by decide) v_2 (fun _ h9 => h9) rfl dX9_readEdge_105 ?_
          refine lv_aload_n hx hb dX9_readEdge_108 rfl (lv_at hl 0 rfl) ?_
          refine va_get (D := (dC, dI)) (ci := 9) (v := .int 0) (C := RX9) (T := TX9) (N := 67) hx hb hts hiX9 hown hK hP 0 rfl rfl 28 (by decide) v_1 (fun _ h9 => h9) rfl dX9_readEdge_109 ?_
          refine va_iald hx hb hK hP 14 13 rfl rfl (vp_in_nI (n := 0) (Nat.le_of_ble_eq_true rfl) (Nat.le_of_ble_eq_true rfl)) dX9_readEdge_112 ?_
          refine lv_topi (fun y_243 ey_243 => ?_)
          have qy_243 := ey_243.trans b2_0
          clear ey_243
          obtain rfl : y_243 = nI m14_0 := qy_243
          refine lv_imul hx hb dX9_readEdge_113 ?_
          refine lv_topi (fun y_244 ey_244 => ?_)
          obtain rfl : y_244 = (nI (4 * m14_0)) := ey_244.trans (pk_mul 4 m14_0)
          refine lv_iadd hx hb dX9_readEdge_114 ?_
          refine lv_topi (fun y_245 ey_245 => ?_)
          obtain rfl : y_245 = (nI (0 + (4 * m14_0))) := ey_245.trans (nI_add 0 (4 * m14_0))
          refine lv_aload_n hx hb dX9_readEdge_115 rfl (lv_at hl 0 rfl) ?_
          refine va_get (D := (dC, dI)) (ci := 9) (v := .ref (ad 7)) (C := RX9) (T := TX9) (N := 67) hx hb hts hiX9 hown hK hP 0 rfl rfl 7 (by decide) v_14 (fun _ h9 => h9) rfl dX9_readEdge_116 ?_
          refine lv_iload_n hx hb dX9_readEdge_119 rfl (lv_at hl 1 rfl) ?_
          refine va_iald hx hb hK hP 7 6 rfl rfl (vp_in_nI (n := (0 + m14_0)) (by omega) (Nat.le_of_ble_eq_true rfl)) dX9_readEdge_120 ?_
          refine lv_topi (fun y_246 ey_246 => ?_)
          obtain rfl : y_246 = nI u_240 := ey_246.trans qu_240
          refine lv_iadd hx hb dX9_readEdge_121 ?_
          refine lv_topi (fun y_248 ey_248 => ?_)
          obtain rfl : y_248 = (nI ((0 + (4 * m14_0)) + u_240)) := ey_248.trans (nI_add (0 + (4 * m14_0)) u_240)
          refine lv_iconst (v := 0) hx hb dX9_readEdge_122 (by decide) ?_
          have hFc := pu_free hD hS hA
          refine va_callv (va_runV (As := [.int (nI ((0 + (4 * m14_0)) + u_240)), .int 0]) (rest := []) ⟨hx, hb, hml, hown, hts⟩ (c_EM_readCondition0_0 l dC dI _ ad ck x0 x16 x18 x19 g_44 g_45 g_46 g_47 x24 x25 g_48 g_49 x29 x30 x33 x45 x46 x52 x53 x61 x62 x63 x65 x66 f1 f2 f3 q4 q_12 q_26 g_42 f_28 g_43 g_40 g_41 m12_0 m12_1 m13_0 m13_1 m14_0 m14_1 m15_0 m15_1 f17 q31 f32 f34 f35 f36 f37 q38 f39 f40 f41 m42_0 m42_1 f43 f44 f47 f48 f49 f50 f51 q54 q55 q56 f57 q58 f59 f60 f64 ((0 + (4 * m14_0)) + u_240) hx16 hx18 hx19 hg_45 hg_46 hg_48 hx29 hx30 hx33 hx46 hx52 hx53 hx61 hx62 hx63 hx65 hm12_0 hm12_1 hm13_0 hm13_1 (Nat.le_trans hm14_0 (Nat.le_of_ble_eq_true rfl)) hm14_1 hm15_0 hm15_1 hm42_0 hm42_1 (by omega)) (cwV 2 hts g_EM_readEdge_0_EM_readCondition0_0 rfl rfl rfl (by decide +kernel) ⟨Nat.le_of_ble_eq_true rfl, Nat.le_of_ble_eq_true rfl⟩) ⟨pu_bl, va_recv hK hP (ci := 9) (q0 := 0) rfl rfl, pu_in hP hK hD⟩ rfl rfl hl.1 rfl (lv_room (Nat.le_of_ble_eq_true rfl)) dX9_readEdge_123 ⟨Nat.le_of_ble_eq_true rfl, Nat.le_of_ble_eq_true rfl⟩) hS (fun q _ h => hFc q h) hFc (fun u t H1 locs ht hvm hw hB hz1 hk1 hS => ?_)
          obtain ⟨z10_250, z11_251, z9_252, z20_253, z21_254, z22_255, z23_256, z26_257, z27_258, ⟨hP1, -, hD1⟩, hz21_254, hz22_255, hz26_257, xr_249_0, xr_249_1, xr_249_2⟩ := hB
          rw [ht] at hP1
          have hP := hP1
          have hD := pu_all hFc hD1
          clear hP1 hD1 hFc
          clear hk1 hz1 ht hvm
          generalize H1 = H at hP hS ⊢
          have hsp := hsp.trans (slet_eq xr_249_2)
          refine lv_aload_n hx hb dX9_readEdge_126 rfl (lv_at hl 0 rfl) ?_
          refine va_get (D := (dC, dI)) (ci := 9) (v := .ref (ad 7)) (C := RX9) (T := TX9) (N := 67) hx hb hts hiX9 hown hK hP 0 rfl rfl 7 (by decide) v_14 (fun _ h9 => h9) rfl dX9_readEdge_127 ?_
          refine lv_iload_n hx hb dX9_readEdge_130 rfl (lv_at hl 1 rfl) ?_
          refine lv_dup2_11 hx hb dX9_readEdge_131 rfl rfl ?_
          refine va_iald hx hb hK hP 7 6 rfl rfl (vp_in_nI (n := (0 + m14_0)) (by omega) (Nat.le_of_ble_eq_true rfl)) dX9_readEdge_132 ?_
          refine lv_topi (fun y_259 ey_259 => ?_)
          obtain rfl : y_259 = nI u_240 := ey_259.trans qu_240
          refine lv_iconst (v := 1) hx hb dX9_readEdge_133 (by decide) ?_
          refine lv_iadd hx hb dX9_readEdge_134 ?_
          refine lv_topi (fun y_261 ey_261 => ?_)
          obtain rfl : y_261 = (nI (u_240 + 1)) := ey_261.trans (nI_add u_240 1)
          refine va_iast hx hb hK hP hD hS 7 6 rfl rfl (vp_in_nI (n := (0 + m14_0)) (by omega) (Nat.le_of_ble_eq_true rfl)) dX9_readEdge_135 (fun H locs hP hD hS => ?_)
          obtain ⟨q_262, eq_262, kq_262, oq_262, xq_262⟩ := bN_upx 4 g_42 (n := (0 + m14_0)) (v := (u_240 + 1)) (by omega) (by omega)
          have hP : va_P (dC, dI) vwCl (mo_w ad ck x0 (nI x16) (nI x18) (nI x19) z20_253 (nI z21_254) (nI z22_255) z23_256 x24 x25 (nI z26_257) z27_258 0 (nI x29) (nI x30) (nI x33) x45 (nI x46) (nI x52) (nI x53) (nI x61) (nI x62) (nI x63) (nI x65) x66 f1 f2 f3 (bN 3 q4) (bN 7 q_12) (bN 7 q_26) (bN 4 q_262) f_28 (bN 2 z9_252) (bH z10_250) z11_251 (b2 m12_0 m12_1) (b2 m13_0 m13_1) (b2 m14_0 m14_1) (b2m m15_0 m15_1) f17 (bA 159 q31) f32 f34 f35 f36 f37 (bN 7 q38) f39 f40 f41 (b2 m42_0 m42_1) f43 f44 f47 f48 f49 f50 f51 (bN 13 q54) (bN 120 q55) (bN 120 q56) f57 (bN 120 q58) f59 f60 f64) H := by rw [← eq_262]; exact hP
          have hD : va_D A (mo_w ad ck x0 (nI x16) (nI x18) (nI x19) z20_253 (nI z21_254) (nI z22_255) z23_256 x24 x25 (nI z26_257) z27_258 0 (nI x29) (nI x30) (nI x33) x45 (nI x46) (nI x52) (nI x53) (nI x61) (nI x62) (nI x63) (nI x65) x66 f1 f2 f3 (bN 3 q4) (bN 7 q_12) (bN 7 q_26) (bN 4 q_262) f_28 (bN 2 z9_252) (bH z10_250) z11_251 (b2 m12_0 m12_1) (b2 m13_0 m13_1) (b2 m14_0 m14_1) (b2m m15_0 m15_1) f17 (bA 159 q31) f32 f34 f35 f36 f37 (bN 7 q38) f39 f40 f41 (b2 m42_0 m42_1) f43 f44 f47 f48 f49 f50 f51 (bN 13 q54) (bN 120 q55) (bN 120 q56) f57 (bN 120 q58) f59 f60 f64) := by rw [← eq_262]; exact hD
          have hsp := hsp.trans (slet_eq xq_262)
          refine lv_goto (tgt := 63) hx hb dX9_readEdge_136 (by decide) ?_
          exact ih_51 (mu z21_254 z22_255) (by omega) _ _ _ ⟨z10_250, z11_251, q_262, z9_252, z20_253, z21_254, z22_255, z23_256, z26_257, z27_258, rfl, hz21_254, hz22_255, hz26_257, by omega, hin_55 _ hsp, hP, hD, hS, lv_sub hl [0, 1] rfl⟩
        · have c_241 : u_240 = 4 := (nI_eq (a := u_240) (b := 4) (Nat.lt_of_le_of_lt hu_240 (Nat.le_of_ble_eq_true rfl)) (Nat.le_of_ble_eq_true rfl)).mp c_241
          have hsp := hsp.trans (if_pos c_241)
          have hsp := hout_56 _ hsp
          refine lv_aload_n hx hb dX9_readEdge_89 rfl (lv_at hl 0 rfl) ?_
          refine lv_iconst (v := 5) hx hb dX9_readEdge_90 (by decide) ?_
          have hFc := pu_free hD hS hA
          refine va_callv (va_runV (As := [.int 5]) (rest := []) ⟨hx, hb, hml, hown, hts⟩ (c_EM_fails l dC dI _ ad ck x0 x16 x18 x19 g_44 g_45 g_46 g_47 x24 x25 g_48 g_49 0 x29 x30 x33 x45 x46 x52 x53 x61 x62 x63 x65 x66 f1 f2 f3 q4 q_12 q_26 g_42 f_28 g_43 g_40 g_41 m12_0 m12_1 m13_0 m13_1 m14_0 m14_1 m15_0 m15_1 f17 q31 f32 f34 f35 f36 f37 q38 f39 f40 f41 m42_0 m42_1 f43 f44 f47 f48 f49 f50 f51 q54 q55 q56 f57 q58 f59 f60 f64 5 hx16 hx18 hx19 hg_45 hg_46 hg_48 (Nat.le_of_ble_eq_true rfl) hx29 hx30 hx33 hx46 hx52 hx53 hx61 hx62 hx63 hx65 hm12_0 hm12_1 hm13_0 hm13_1 (Nat.le_trans hm14_0 (Nat.le_of_ble_eq_true rfl)) hm14_1 hm15_0 hm15_1 hm42_0 hm42_1 (Nat.le_of_ble_eq_true rfl) (by omega)) (cwV 1 hts g_EM_readEdge_0_EM_fails rfl rfl rfl (by decide +kernel) ⟨Nat.le_of_ble_eq_true rfl, Nat.le_of_ble_eq_true rfl⟩) ⟨pu_bl, va_recv hK hP (ci := 9) (q0 := 0) rfl rfl, pu_in hP hK hD⟩ rfl rfl hl.1 rfl (lv_room (Nat.le_of_ble_eq_true rfl)) dX9_readEdge_91 ⟨Nat.le_of_ble_eq_true rfl, Nat.le_of_ble_eq_true rfl⟩) hS (fun q _ h => hFc q h) hFc (fun u t H1 locs ht hvm hw hB hz1 hk1 hS => ?_)
          obtain ⟨z26_264, z27_265, ⟨hP1, -, hD1⟩, hz26_264, xr_263_0, xr_263_1⟩ := hB
          rw [ht] at hP1
          have hP := hP1
          have hD := pu_all hFc hD1
          clear hP1 hD1 hFc
          clear hk1 hz1 ht hvm
          generalize H1 = H at hP hS ⊢
          have hsp := hsp.trans (slet_eq xr_263_1)
          exact W.vret hx hb hr (fun t ht hW => ⟨⟨(), rfl, trivial, ⟨g_40, g_41, q_12, q_26, g_42, f_28, g_43, m14_0, g_44, g_45, g_46, g_47, z26_264, z27_265, ⟨by rw [ht]; exact hP, va_K.moved hW.alike hK, hD⟩, (Nat.le_trans hm14_0 (Nat.le_of_ble_eq_true rfl)), hg_45, hg_46, hz26_264, by omega, (hsp.symm.trans hRR)⟩⟩, hS.F ht⟩) hS.2.2 dX9_readEdge_94
  have hsp := hJR_24
  refine lv_if_eq (tgt := 47) hx hb dX9_readEdge_37 (by decide) (fun c_266 => ?_) (fun c_266 => ?_)
  · have c_266 : u_14 = 0 := (nI_eq (a := u_14) (b := 0) (Nat.lt_of_le_of_lt hu_14 (Nat.le_of_ble_eq_true rfl)) (Nat.le_of_ble_eq_true rfl)).mp c_266
    have hsp := hsp.trans (if_pos c_266)
    refine lv_iconst (v := 0) hx hb dX9_readEdge_47 (by decide) ?_
    exact j_23 _ _ _ _ ⟨z20_5, z21_6, z22_7, z23_8, z26_9, z27_10, 0, rfl, hz21_6, hz22_7, hz26_9, (Nat.le_of_ble_eq_true rfl), by omega, hsp.symm, hP, hD, hS, lv_sub hl [1, 0] rfl⟩
  · have c_266 : ¬ u_14 = 0 := fun z => c_266 ((nI_eq (a := u_14) (b := 0) (Nat.lt_of_le_of_lt hu_14 (Nat.le_of_ble_eq_true rfl)) (Nat.le_of_ble_eq_true rfl)).mpr z)
    have hsp := hsp.trans (if_neg c_266)
    refine lv_aload_n hx hb dX9_readEdge_40 rfl (lv_at hl 1 rfl) ?_
    have hFc := pu_free hD hS hA
    refine va_calli (va_runV (As := []) (rest := [.int (nI (0 + m14_0)), .ref (ad 6)]) ⟨hx, hb, hml, hown, hts⟩ (c_EM_toldPlace_0 l dC dI _ ad ck x0 x16 x18 x19 z20_5 z21_6 z22_7 z23_8 x24 x25 z26_9 z27_10 x29 x30 x33 x45 x46 x52 x53 x61 x62 x63 x65 x66 f1 f2 f3 q4 q_12 q6 q7 f8 q9 q10 f11 m12_0 m12_1 m13_0 m13_1 m14_0 m14_1 m15_0 m15_1 f17 q31 f32 f34 f35 f36 f37 q38 f39 f40 f41 m42_0 m42_1 f43 f44 f47 f48 f49 f50 f51 q54 q55 q56 f57 q58 f59 f60 f64 hx16 hx18 hx19 hz21_6 hz22_7 hz26_9 hx29 hx30 hx33 hx46 hx52 hx53 hx61 hx62 hx63 hx65 hm12_0 hm12_1 hm13_0 hm13_1 (Nat.le_trans hm14_0 (Nat.le_of_ble_eq_true rfl)) hm14_1 hm15_0 hm15_1 hm42_0 hm42_1) (cwV 0 hts g_EM_readEdge_0_EM_toldPlace_0 rfl rfl rfl (by decide +kernel) ⟨Nat.le_of_ble_eq_true rfl, Nat.le_of_ble_eq_true rfl⟩) ⟨pu_bl, va_recv hK hP (ci := 9) (q0 := 0) rfl rfl, pu_in hP hK hD⟩ rfl rfl hl.1 rfl (lv_room (Nat.le_of_ble_eq_true rfl)) dX9_readEdge_41 ⟨Nat.le_of_ble_eq_true rfl, Nat.le_of_ble_eq_true rfl⟩) hS (fun q _ h => hFc q h) hFc (fun r_267 u t H1 locs ht hvm hw hB hz1 hk1 hS => ?_)
    obtain ⟨z20_268, z21_269, z22_270, z23_271, z26_272, z27_273, ⟨hP1, -, hD1⟩, hz21_269, hz22_270, hz26_272, xr_267_0, xr_267_1⟩ := hB
    rw [ht] at hP1
    have hP := hP1
    have hD := pu_all hFc hD1
    clear hP1 hD1 hFc
    clear hk1 hz1 ht hvm
    generalize H1 = H at hP hS ⊢
    obtain ⟨u_274, hu_274, rfl, iu_274⟩ := hw
    have iu_274 : (u_274, z20_268, z21_269, z22_270, z23_271, z26_272, z27_273) = (sp_EM_toldPlace_0 x19 z20_5 z21_6 z22_7 z23_8 z26_9 z27_10 f2 m13_0 f17) := Prod.ext iu_274 xr_267_1
    have hsp := hsp.trans (slet_eq iu_274)
    refine lv_goto (tgt := 48) hx hb dX9_readEdge_44 (by decide) ?_
    exact j_23 _ _ _ _ ⟨z20_268, z21_269, z22_270, z23_271, z26_272, z27_273, u_274, rfl, hz21_269, hz22_270, hz26_272, hu_274, by omega, hsp.symm, hP, hD, hS, lv_sub hl [1, 0] rfl⟩
