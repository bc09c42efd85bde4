theorem dX9_readLine_0 : decode cX9_readLine 0 = .ok (.aload_n 0, 1) := by decide +kernel
theorem dX9_readLine_1 : decode cX9_readLine 1 = .ok (.ldc 192, 2) := by decide +kernel
theorem dX9_readLine_3 : decode cX9_readLine 3 = .ok (.invokevirtual 193, 3) := by decide +kernel
theorem dX9_readLine_6 : decode cX9_readLine 6 = .ok (.istore_n 1, 1) := by decide +kernel
theorem dX9_readLine_7 : decode cX9_readLine 7 = .ok (.aload_n 0, 1) := by decide +kernel
theorem dX9_readLine_8 : decode cX9_readLine 8 = .ok (.ldc 196, 2) := by decide +kernel
theorem dX9_readLine_10 : decode cX9_readLine 10 = .ok (.invokevirtual 193, 3) := by decide +kernel
theorem dX9_readLine_13 : decode cX9_readLine 13 = .ok (.istore_n 2, 1) := by decide +kernel
theorem dX9_readLine_14 : decode cX9_readLine 14 = .ok (.aload_n 0, 1) := by decide +kernel
theorem dX9_readLine_15 : decode cX9_readLine 15 = .ok (.ldc 199, 2) := by decide +kernel
theorem dX9_readLine_17 : decode cX9_readLine 17 = .ok (.invokevirtual 193, 3) := by decide +kernel
theorem dX9_readLine_20 : decode cX9_readLine 20 = .ok (.istore_n 3, 1) := by decide +kernel
theorem dX9_readLine_21 : decode cX9_readLine 21 = .ok (.aload_n 0, 1) := by decide +kernel
theorem dX9_readLine_22 : decode cX9_readLine 22 = .ok (.ldc 200, 2) := by decide +kernel
theorem dX9_readLine_24 : decode cX9_readLine 24 = .ok (.invokevirtual 193, 3) := by decide +kernel
theorem dX9_readLine_27 : decode cX9_readLine 27 = .ok (.istore 4, 2) := by decide +kernel
theorem dX9_readLine_29 : decode cX9_readLine 29 = .ok (.iload_n 1, 1) := by decide +kernel
theorem dX9_readLine_30 : decode cX9_readLine 30 = .ok (.ifCond .ne 24, 3) := by decide +kernel
theorem dX9_readLine_33 : decode cX9_readLine 33 = .ok (.iload_n 2, 1) := by decide +kernel
theorem dX9_readLine_34 : decode cX9_readLine 34 = .ok (.ifCond .ne 20, 3) := by decide +kernel
theorem dX9_readLine_37 : decode cX9_readLine 37 = .ok (.iload_n 3, 1) := by decide +kernel
theorem dX9_readLine_38 : decode cX9_readLine 38 = .ok (.ifCond .ne 16, 3) := by decide +kernel
theorem dX9_readLine_41 : decode cX9_readLine 41 = .ok (.iload 4, 2) := by decide +kernel
theorem dX9_readLine_43 : decode cX9_readLine 43 = .ok (.ifCond .ne 11, 3) := by decide +kernel
theorem dX9_readLine_46 : decode cX9_readLine 46 = .ok (.aload_n 0, 1) := by decide +kernel
theorem dX9_readLine_47 : decode cX9_readLine 47 = .ok (.iconst 2, 1) := by decide +kernel
theorem dX9_readLine_48 : decode cX9_readLine 48 = .ok (.invokevirtual 210, 3) := by decide +kernel
theorem dX9_readLine_51 : decode cX9_readLine 51 = .ok (.goto 78, 3) := by decide +kernel
theorem dX9_readLine_54 : decode cX9_readLine 54 = .ok (.iload_n 1, 1) := by decide +kernel
theorem dX9_readLine_55 : decode cX9_readLine 55 = .ok (.ifCond .eq 16, 3) := by decide +kernel
theorem dX9_readLine_58 : decode cX9_readLine 58 = .ok (.aload_n 0, 1) := by decide +kernel
theorem dX9_readLine_59 : decode cX9_readLine 59 = .ok (.getfield 43, 3) := by decide +kernel
theorem dX9_readLine_62 : decode cX9_readLine 62 = .ok (.aload_n 0, 1) := by decide +kernel
theorem dX9_readLine_63 : decode cX9_readLine 63 = .ok (.getfield 203, 3) := by decide +kernel
theorem dX9_readLine_66 : decode cX9_readLine 66 = .ok (.iaload, 1) := by decide +kernel
theorem dX9_readLine_67 : decode cX9_readLine 67 = .ok (.iconst 3, 1) := by decide +kernel
theorem dX9_readLine_68 : decode cX9_readLine 68 = .ok (.if_icmp .eq 56, 3) := by decide +kernel
theorem dX9_readLine_71 : decode cX9_readLine 71 = .ok (.iload_n 2, 1) := by decide +kernel
theorem dX9_readLine_72 : decode cX9_readLine 72 = .ok (.ifCond .eq 17, 3) := by decide +kernel
theorem dX9_readLine_75 : decode cX9_readLine 75 = .ok (.aload_n 0, 1) := by decide +kernel
theorem dX9_readLine_76 : decode cX9_readLine 76 = .ok (.getfield 46, 3) := by decide +kernel
theorem dX9_readLine_79 : decode cX9_readLine 79 = .ok (.aload_n 0, 1) := by decide +kernel
theorem dX9_readLine_80 : decode cX9_readLine 80 = .ok (.getfield 203, 3) := by decide +kernel
theorem dX9_readLine_83 : decode cX9_readLine 83 = .ok (.iaload, 1) := by decide +kernel
theorem dX9_readLine_84 : decode cX9_readLine 84 = .ok (.bipush 8, 2) := by decide +kernel
theorem dX9_readLine_86 : decode cX9_readLine 86 = .ok (.if_icmp .eq 38, 3) := by decide +kernel
theorem dX9_readLine_89 : decode cX9_readLine 89 = .ok (.iload_n 3, 1) := by decide +kernel
theorem dX9_readLine_90 : decode cX9_readLine 90 = .ok (.ifCond .eq 15, 3) := by decide +kernel
theorem dX9_readLine_93 : decode cX9_readLine 93 = .ok (.aload_n 0, 1) := by decide +kernel
theorem dX9_readLine_94 : decode cX9_readLine 94 = .ok (.getfield 52, 3) := by decide +kernel
theorem dX9_readLine_97 : decode cX9_readLine 97 = .ok (.aload_n 0, 1) := by decide +kernel
theorem dX9_readLine_98 : decode cX9_readLine 98 = .ok (.getfield 203, 3) := by decide +kernel
theorem dX9_readLine_101 : decode cX9_readLine 101 = .ok (.iaload, 1) := by decide +kernel
theorem dX9_readLine_102 : decode cX9_readLine 102 = .ok (.ifCond .ge 22, 3) := by decide +kernel
theorem dX9_readLine_105 : decode cX9_readLine 105 = .ok (.iload 4, 2) := by decide +kernel
theorem dX9_readLine_107 : decode cX9_readLine 107 = .ok (.ifCond .eq 22, 3) := by decide +kernel
theorem dX9_readLine_110 : decode cX9_readLine 110 = .ok (.aload_n 0, 1) := by decide +kernel
theorem dX9_readLine_111 : decode cX9_readLine 111 = .ok (.getfield 49, 3) := by decide +kernel
theorem dX9_readLine_114 : decode cX9_readLine 114 = .ok (.aload_n 0, 1) := by decide +kernel
theorem dX9_readLine_115 : decode cX9_readLine 115 = .ok (.getfield 203, 3) := by decide +kernel
theorem dX9_readLine_118 : decode cX9_readLine 118 = .ok (.iaload, 1) := by decide +kernel
theorem dX9_readLine_119 : decode cX9_readLine 119 = .ok (.bipush 14, 2) := by decide +kernel
theorem dX9_readLine_121 : decode cX9_readLine 121 = .ok (.if_icmp .ne 8, 3) := by decide +kernel
theorem dX9_readLine_124 : decode cX9_readLine 124 = .ok (.aload_n 0, 1) := by decide +kernel
theorem dX9_readLine_125 : decode cX9_readLine 125 = .ok (.iconst 5, 1) := by decide +kernel
theorem dX9_readLine_126 : decode cX9_readLine 126 = .ok (.invokevirtual 210, 3) := by decide +kernel
theorem dX9_readLine_129 : decode cX9_readLine 129 = .ok (.aload_n 0, 1) := by decide +kernel
theorem dX9_readLine_130 : decode cX9_readLine 130 = .ok (.invokevirtual 216, 3) := by decide +kernel
theorem dX9_readLine_133 : decode cX9_readLine 133 = .ok (.ifCond .ne 4, 3) := by decide +kernel
theorem dX9_readLine_136 : decode cX9_readLine 136 = .ok (.return_, 1) := by decide +kernel
theorem dX9_readLine_137 : decode cX9_readLine 137 = .ok (.aload_n 0, 1) := by decide +kernel
theorem dX9_readLine_138 : decode cX9_readLine 138 = .ok (.invokevirtual 226, 3) := by decide +kernel
theorem dX9_readLine_141 : decode cX9_readLine 141 = .ok (.iload_n 1, 1) := by decide +kernel
theorem dX9_readLine_142 : decode cX9_readLine 142 = .ok (.ifCond .eq 44, 3) := by decide +kernel
theorem dX9_readLine_145 : decode cX9_readLine 145 = .ok (.aload_n 0, 1) := by decide +kernel
theorem dX9_readLine_146 : decode cX9_readLine 146 = .ok (.getfield 7, 3) := by decide +kernel
theorem dX9_readLine_149 : decode cX9_readLine 149 = .ok (.iconst 3, 1) := by decide +kernel
theorem dX9_readLine_150 : decode cX9_readLine 150 = .ok (.aload_n 0, 1) := by decide +kernel
theorem dX9_readLine_151 : decode cX9_readLine 151 = .ok (.getfield 203, 3) := by decide +kernel
theorem dX9_readLine_154 : decode cX9_readLine 154 = .ok (.imul, 1) := by decide +kernel
theorem dX9_readLine_155 : decode cX9_readLine 155 = .ok (.aload_n 0, 1) := by decide +kernel
theorem dX9_readLine_156 : decode cX9_readLine 156 = .ok (.getfield 43, 3) := by decide +kernel
theorem dX9_readLine_159 : decode cX9_readLine 159 = .ok (.aload_n 0, 1) := by decide +kernel
theorem dX9_readLine_160 : decode cX9_readLine 160 = .ok (.getfield 203, 3) := by decide +kernel
theorem dX9_readLine_163 : decode cX9_readLine 163 = .ok (.iaload, 1) := by decide +kernel
theorem dX9_readLine_164 : decode cX9_readLine 164 = .ok (.iadd, 1) := by decide +kernel
theorem dX9_readLine_165 : decode cX9_readLine 165 = .ok (.aload_n 0, 1) := by decide +kernel
theorem dX9_readLine_166 : decode cX9_readLine 166 = .ok (.invokevirtual 238, 3) := by decide +kernel
theorem dX9_readLine_169 : decode cX9_readLine 169 = .ok (.iastore, 1) := by decide +kernel
theorem dX9_readLine_170 : decode cX9_readLine 170 = .ok (.aload_n 0, 1) := by decide +kernel
theorem dX9_readLine_171 : decode cX9_readLine 171 = .ok (.getfield 43, 3) := by decide +kernel
theorem dX9_readLine_174 : decode cX9_readLine 174 = .ok (.aload_n 0, 1) := by decide +kernel
theorem dX9_readLine_175 : decode cX9_readLine 175 = .ok (.getfield 203, 3) := by decide +kernel
theorem dX9_readLine_178 : decode cX9_readLine 178 = .ok (.dup2, 1) := by decide +kernel
theorem dX9_readLine_179 : decode cX9_readLine 179 = .ok (.iaload, 1) := by decide +kernel
theorem dX9_readLine_180 : decode cX9_readLine 180 = .ok (.iconst 1, 1) := by decide +kernel
theorem dX9_readLine_181 : decode cX9_readLine 181 = .ok (.iadd, 1) := by decide +kernel
theorem dX9_readLine_182 : decode cX9_readLine 182 = .ok (.iastore, 1) := by decide +kernel
theorem dX9_readLine_183 : decode cX9_readLine 183 = .ok (.goto 38, 3) := by decide +kernel
theorem dX9_readLine_186 : decode cX9_readLine 186 = .ok (.iload_n 2, 1) := by decide +kernel
theorem dX9_readLine_187 : decode cX9_readLine 187 = .ok (.ifCond .eq 10, 3) := by decide +kernel
theorem dX9_readLine_190 : decode cX9_readLine 190 = .ok (.aload_n 0, 1) := by decide +kernel
theorem dX9_readLine_191 : decode cX9_readLine 191 = .ok (.invokevirtual 252, 3) := by decide +kernel
theorem dX9_readLine_194 : decode cX9_readLine 194 = .ok (.goto 27, 3) := by decide +kernel
theorem dX9_readLine_197 : decode cX9_readLine 197 = .ok (.iload_n 3, 1) := by decide +kernel
theorem dX9_readLine_198 : decode cX9_readLine 198 = .ok (.ifCond .eq 19, 3) := by decide +kernel
theorem dX9_readLine_201 : decode cX9_readLine 201 = .ok (.aload_n 0, 1) := by decide +kernel
theorem dX9_readLine_202 : decode cX9_readLine 202 = .ok (.getfield 52, 3) := by decide +kernel
theorem dX9_readLine_205 : decode cX9_readLine 205 = .ok (.aload_n 0, 1) := by decide +kernel
theorem dX9_readLine_206 : decode cX9_readLine 206 = .ok (.getfield 203, 3) := by decide +kernel
theorem dX9_readLine_209 : decode cX9_readLine 209 = .ok (.aload_n 0, 1) := by decide +kernel
theorem dX9_readLine_210 : decode cX9_readLine 210 = .ok (.invokevirtual 245, 3) := by decide +kernel
theorem dX9_readLine_213 : decode cX9_readLine 213 = .ok (.iastore, 1) := by decide +kernel
theorem dX9_readLine_214 : decode cX9_readLine 214 = .ok (.goto 7, 3) := by decide +kernel
theorem dX9_readLine_217 : decode cX9_readLine 217 = .ok (.aload_n 0, 1) := by decide +kernel
theorem dX9_readLine_218 : decode cX9_readLine 218 = .ok (.invokevirtual 255, 3) := by decide +kernel
theorem dX9_readLine_221 : decode cX9_readLine 221 = .ok (.return_, 1) := by decide +kernel
abbrev vs_EM_readLine_0 : List Cond := .code yX9_readLine cX9_readLine 5 none :: VM
theorem g_EM_readLine_0_EM_isWord : GoodIn vs_EM_readLine_0 (wsV RX9 193 RX9 yX9_isWord vs_EM_isWord) := gm_V vm_16 vm_17 vm_18 vm_19 vm_20
theorem g_EM_readLine_0_EM_isGood : GoodIn vs_EM_readLine_0 (wsV RX9 216 RX9 yX9_isGood vs_EM_isGood) := gm_V vm_71 vm_72 vm_73 vm_19 vm_74
theorem g_EM_readLine_0_EM_next : GoodIn vs_EM_readLine_0 (wsV RX9 226 RX9 yX9_next vs_EM_next) := gm_V vm_75 vm_76 vm_77 vm_19 vm_78
theorem g_EM_readLine_0_EM_readEdge_0 : GoodIn vs_EM_readLine_0 (wsV RX9 255 RX9 yX9_readEdge vs_EM_readEdge_0) := gm_V vm_118 vm_119 vm_120 vm_19 vm_121
theorem g_EM_readLine_0_EM_toldPlace_0 : GoodIn vs_EM_readLine_0 (wsV RX9 245 RX9 yX9_toldPlace vs_EM_toldPlace_0) := gm_V vm_110 vm_111 vm_112 vm_19 vm_113
theorem g_EM_readLine_0_EM_readPlace_0 : GoodIn vs_EM_readLine_0 (wsV RX9 252 RX9 yX9_readPlace vs_EM_readPlace_0) := gm_V vm_122 vm_123 vm_124 vm_19 vm_125
theorem g_EM_readLine_0_EM_freshName_0 : GoodIn vs_EM_readLine_0 (wsV RX9 238 RX9 yX9_freshName vs_EM_freshName_0) := gm_V vm_101 vm_102 vm_103 vm_19 vm_104
theorem g_EM_readLine_0_EM_fails : GoodIn vs_EM_readLine_0 (wsV RX9 210 RX9 yX9_fails vs_EM_fails) := gm_V vm_29 vm_30 vm_31 vm_19 vm_32
noncomputable def sp_EM_readLine_0 (x19 : Nat) (x20 : Int32) (x21 : Nat) (x22 : Nat) (x23 : Int32) (x26 : Nat) (x27 : Int32) (f1 : Nat → Int32) (f2 : Nat → Int32) (f3 : Nat → Int32) (q4 : Nat → Nat) (q5 : Nat → Nat) (q6 : Nat → Nat) (q7 : Nat → Nat) (f8 : Nat → Int32) (q9 : Nat → Nat) (q10 : Nat → Nat) (f11 : Nat → Int32) (m12_0 : Nat) (m13_0 : Nat) (m14_0 : Nat) (m15_0 : Nat) (f17 : Nat → Int32) : (Nat → Int32) × (Nat → Nat) × (Nat → Int32) × (Nat → Int32) × (Nat → Int32) × (Nat → Nat) × (Nat → Nat) × (Nat → Nat) × (Nat → Nat) × (Nat → Int32) × (Nat → Nat) × Nat × Nat × Nat × Nat × Int32 × Nat × Nat × Int32 × Nat × Int32 := (slet (sp_EM_isWord x22 x23 3554411) (fun u_2 => (slet (sp_EM_isWord x22 x23 17171557) (fun u_4 => (slet (sp_EM_isWord x22 x23 20579924) (fun u_6 => (slet (sp_EM_isWord x22 x23 168165) (fun u_8 => (slet (α := Nat × Int32) (if u_2 = 0 then (if u_4 = 0 then (if u_6 = 0 then (if u_8 = 0 then (slet (sp_EM_fails x20 x22 x26 x27 2) (fun (z26_181, z27_182) => (z26_181, z27_182))) else (if m14_0 = 14 then (slet (sp_EM_fails x20 x22 x26 x27 5) (fun (z26_178, z27_179) => (z26_178, z27_179))) else (x26, x27))) else (if m15_0 = 0 then (if u_8 = 0 then (x26, x27) else (if m14_0 = 14 then (slet (sp_EM_fails x20 x22 x26 x27 5) (fun (z26_164, z27_165) => (z26_164, z27_165))) else (x26, x27))) else (slet (m15_0 - 1) (fun vy_159 => (slet (sp_EM_fails x20 x22 x26 x27 5) (fun (z26_168, z27_169) => (z26_168, z27_169))))))) else (if m13_0 = 8 then (slet (sp_EM_fails x20 x22 x26 x27 5) (fun (z26_135, z27_136) => (z26_135, z27_136))) else (if u_6 = 0 then (if u_8 = 0 then (x26, x27) else (if m14_0 = 14 then (slet (sp_EM_fails x20 x22 x26 x27 5) (fun (z26_142, z27_143) => (z26_142, z27_143))) else (x26, x27))) else (if m15_0 = 0 then (if u_8 = 0 then (x26, x27) else (if m14_0 = 14 then (slet (sp_EM_fails x20 x22 x26 x27 5) (fun (z26_149, z27_150) => (z26_149, z27_150))) else (x26, x27))) else (slet (m15_0 - 1) (fun vy_144 => (slet (sp_EM_fails x20 x22 x26 x27 5) (fun (z26_153, z27_154) => (z26_153, z27_154))))))))) else (if m12_0 = 3 then (slet (sp_EM_fails x20 x22 x26 x27 5) (fun (z26_85, z27_86) => (z26_85, z27_86))) else (if u_4 = 0 then (if u_6 = 0 then (if u_8 = 0 then (x26, x27) else (if m14_0 = 14 then (slet (sp_EM_fails x20 x22 x26 x27 5) (fun (z26_93, z27_94) => (z26_93, z27_94))) else (x26, x27))) else (if m15_0 = 0 then (if u_8 = 0 then (x26, x27) else (if m14_0 = 14 then (slet (sp_EM_fails x20 x22 x26 x27 5) (fun (z26_100, z27_101) => (z26_100, z27_101))) else (x26, x27))) else (slet (m15_0 - 1) (fun vy_95 => (slet (sp_EM_fails x20 x22 x26 x27 5) (fun (z26_104, z27_105) => (z26_104, z27_105))))))) else (if m13_0 = 8 then (slet (sp_EM_fails x20 x22 x26 x27 5) (fun (z26_109, z27_110) => (z26_109, z27_110))) else (if u_6 = 0 then (if u_8 = 0 then (x26, x27) else (if m14_0 = 14 then (slet (sp_EM_fails x20 x22 x26 x27 5) (fun (z26_116, z27_117) => (z26_116, z27_117))) else (x26, x27))) else (if m15_0 = 0 then (if u_8 = 0 then (x26, x27) else (if m14_0 = 14 then (slet (sp_EM_fails x20 x22 x26 x27 5) (fun (z26_123, z27_124) => (z26_123, z27_124))) else (x26, x27))) else (slet (m15_0 - 1) (fun vy_118 => (slet (sp_EM_fails x20 x22 x26 x27 5) (fun (z26_127, z27_128) => (z26_127, z27_128))))))))))) (fun (g_9, g_10) => (slet (sp_EM_isGood g_9) (fun u_20 => (if u_20 = 0 then (f1, q10, f11, f2, f3, q4, q5, q6, q7, f8, q9, m12_0, m13_0, m14_0, m15_0, x20, x21, x22, x23, g_9, g_10) else (slet (sp_EM_next x19 x21 f17) (fun (z20_23, z21_24, z22_25, z23_26) => (if u_2 = 0 then (if u_4 = 0 then (if u_6 = 0 then (slet (sp_EM_readEdge_0 x19 z20_23 z21_24 z22_25 z23_26 g_9 g_10 f1 f2 q5 q6 q7 f8 q9 q10 f11 m12_0 m13_0 m14_0 f17) (fun (z10_31, z11_32, z5_33, z6_34, z7_35, z8_36, z9_37, z14_0_38, z20_39, z21_40, z22_41, z23_42, z26_43, z27_44) => (f1, z10_31, z11_32, f2, f3, q4, z5_33, z6_34, z7_35, z8_36, z9_37, m12_0, m13_0, z14_0_38, m15_0, z20_39, z21_40, z22_41, z23_42, z26_43, z27_44))) else (slet (sp_EM_toldPlace_0 x19 z20_23 z21_24 z22_25 z23_26 g_9 g_10 f2 m13_0 f17) (fun (u_52, z20_46, z21_47, z22_48, z23_49, z26_50, z27_51) => (f1, q10, f11, f2, f3, q4, q5, q6, q7, f8, q9, m12_0, m13_0, m14_0, (u_52 + 1), z20_46, z21_47, z22_48, z23_49, z26_50, z27_51)))) else (slet (sp_EM_readPlace_0 x19 z20_23 z21_24 z22_25 z23_26 g_9 g_10 f1 f2 f3 q4 q9 q10 f11 m12_0 m13_0 f17) (fun (z10_54, z11_55, z2_56, z3_57, z4_58, z9_59, z13_0_60, z20_61, z21_62, z22_63, z23_64, z26_65, z27_66) => (f1, z10_54, z11_55, z2_56, z3_57, z4_58, q5, q6, q7, f8, z9_59, m12_0, z13_0_60, m14_0, m15_0, z20_61, z21_62, z22_63, z23_64, z26_65, z27_66)))) else (slet (sp_EM_freshName_0 x19 z20_23 z21_24 z22_25 z23_26 g_9 g_10 f1 f2 m12_0 m13_0 f17) (fun (r_70, z20_71, z21_72, z22_73, z23_74, z26_75, z27_76) => (slet (upd f1 (0 + m12_0) r_70) (fun f_77 => (f_77, q10, f11, f2, f3, q4, q5, q6, q7, f8, q9, (m12_0 + 1), m13_0, m14_0, m15_0, z20_71, z21_72, z22_73, z23_74, z26_75, z27_76)))))))))))))))))))))
set_option maxHeartbeats 4000000 in
set_option maxRecDepth 100000 in
theorem c_EM_readLine_0 (l : Launch) (dC : Nat → ClassId) (dI : Nat → Nat → Nat) (sz : Nat) (ad : Nat → Nat) (ck : Nat → ClassId) (x0 : Int32) (x16 : Nat) (x18 : Nat) (x19 : Nat) (x20 : Int32) (x21 : Nat) (x22 : Nat) (x23 : Int32) (x24 : Int32) (x25 : Int32) (x26 : Nat) (x27 : Int32) (x29 : Nat) (x30 : Nat) (x33 : Nat) (x45 : Int32) (x46 : Nat) (x52 : Nat) (x53 : Nat) (x61 : Nat) (x62 : Nat) (x63 : Nat) (x65 : Nat) (x66 : Int32) (f1 : Nat → Int32) (f2 : Nat → Int32) (f3 : Nat → Int32) (q4 : Nat → Nat) (q5 : Nat → Nat) (q6 : Nat → Nat) (q7 : Nat → Nat) (f8 : Nat → Int32) (q9 : Nat → Nat) (q10 : Nat → Nat) (f11 : Nat → Int32) (m12_0 m12_1 : Nat) (m13_0 m13_1 : Nat) (m14_0 m14_1 : Nat) (m15_0 m15_1 : Nat) (f17 : Nat → Int32) (q31 : Nat → Nat) (f32 : Nat → Int32) (f34 : Nat → Int32) (f35 : Nat → Int32) (f36 : Nat → Int32) (f37 : Nat → Int32) (q38 : Nat → Nat) (f39 : Nat → Int32) (f40 : Nat → Int32) (f41 : Nat → Int32) (m42_0 m42_1 : Nat) (f43 : Nat → Int32) (f44 : Nat → Int32) (f47 : Nat → Int32) (f48 : Nat → Int32) (f49 : Nat → Int32) (f50 : Nat → Int32) (f51 : Nat → Int32) (q54 : Nat → Nat) (q55 : Nat → Nat) (q56 : Nat → Nat) (f57 : Nat → Int32) (q58 : Nat → Nat) (f59 : Nat → Int32) (f60 : Nat → Int32) (f64 : Nat → Int32) (hx16 : x16 ≤ 1) (hx18 : x18 ≤ 900) (hx19 : x19 ≤ 900) (hx21 : x21 ≤ 900) (hx22 : x22 ≤ 4) (hx26 : x26 ≤ 6) (hx29 : x29 ≤ 1) (hx30 : x30 ≤ 1) (hx33 : x33 ≤ 20) (hx46 : x46 ≤ 5) (hx52 : x52 ≤ 2400) (hx53 : x53 ≤ 119) (hx61 : x61 ≤ 119) (hx62 : x62 ≤ 2000) (hx63 : x63 ≤ 1) (hx65 : x65 ≤ 7) (hm12_0 : m12_0 ≤ 3) (hm12_1 : m12_1 ≤ 3) (hm13_0 : m13_0 ≤ 8) (hm13_1 : m13_1 ≤ 8) (hm14_0 : m14_0 ≤ 14) (hm14_1 : m14_1 ≤ 14) (hm15_0 : m15_0 ≤ 8) (hm15_1 : m15_1 ≤ 8) (hm42_0 : m42_0 ≤ 120) (hm42_1 : m42_1 ≤ 400) : Met l yX9_readLine vs_EM_readLine_0 ({ frames := 6, cells := 0, slots := 0, locals := 130 }) (va_Pc [.ref (ad 0)] (pu_B (dC, dI) (mo_w ad ck x0 (nI x16) (nI x18) (nI x19) x20 (nI x21) (nI x22) x23 x24 x25 (nI x26) x27 0 (nI x29) (nI x30) (nI x33) x45 (nI x46) (nI x52) (nI x53) (nI x61) (nI x62) (nI x63) (nI x65) x66 f1 f2 f3 (bN 3 q4) (bN 7 q5) (bN 7 q6) (bN 4 q7) f8 (bN 2 q9) (bH q10) f11 (b2 m12_0 m12_1) (b2 m13_0 m13_1) (b2 m14_0 m14_1) (b2m m15_0 m15_1) f17 (bA 159 q31) f32 f34 f35 f36 f37 (bN 7 q38) f39 f40 f41 (b2 m42_0 m42_1) f43 f44 f47 f48 f49 f50 f51 (bN 13 q54) (bN 120 q55) (bN 120 q56) f57 (bN 120 q58) f59 f60 f64) (mo_t ck) sz)) (va_Qv (fun (_ : Unit) => True) (fun _ t => ∃ (z1 : Nat → Int32) (z10 : Nat → Nat) (z11 : Nat → Int32) (z2 : Nat → Int32) (z3 : Nat → Int32) (z4 : Nat → Nat) (z5 : Nat → Nat) (z6 : Nat → Nat) (z7 : Nat → Nat) (z8 : Nat → Int32) (z9 : Nat → Nat) (z12_0 : Nat) (z13_0 : Nat) (z14_0 : Nat) (z15_0 : Nat) (z20 : Int32) (z21 : Nat) (z22 : Nat) (z23 : Int32) (z26 : Nat) (z27 : Int32), pu_E (dC, dI) (mo_w ad ck x0 (nI x16) (nI x18) (nI x19) z20 (nI z21) (nI z22) z23 x24 x25 (nI z26) z27 0 (nI x29) (nI x30) (nI x33) x45 (nI x46) (nI x52) (nI x53) (nI x61) (nI x62) (nI x63) (nI x65) x66 z1 z2 z3 (bN 3 z4) (bN 7 z5) (bN 7 z6) (bN 4 z7) z8 (bN 2 z9) (bH z10) z11 (b2 z12_0 m12_1) (b2 z13_0 m13_1) (b2 z14_0 m14_1) (b2m z15_0 m15_1) f17 (bA 159 q31) f32 f34 f35 f36 f37 (bN 7 q38) f39 f40 f41 (b2 m42_0 m42_1) f43 f44 f47 f48 f49 f50 f51 (bN 13 q54) (bN 120 q55) (bN 120 q56) f57 (bN 120 q58) f59 f60 f64) (mo_t ck) (va_A ((mo_w ad ck x0 (nI x16) (nI x18) (nI x19) x20 (nI x21) (nI x22) x23 x24 x25 (nI x26) x27 0 (nI x29) (nI x30) (nI x33) x45 (nI x46) (nI x52) (nI x53) (nI x61) (nI x62) (nI x63) (nI x65) x66 f1 f2 f3 (bN 3 q4) (bN 7 q5) (bN 7 q6) (bN 4 q7) f8 (bN 2 q9) (bH q10) f11 (b2 m12_0 m12_1) (b2 m13_0 m13_1) (b2 m14_0 m14_1) (b2m m15_0 m15_1) f17 (bA 159 q31) f32 f34 f35 f36 f37 (bN 7 q38) f39 f40 f41 (b2 m42_0 m42_1) f43 f44 f47 f48 f49 f50 f51 (bN 13 q54) (bN 120 q55) (bN 120 q56) f57 (bN 120 q58) f59 f60 f64)) sz) t ∧ (z12_0 ≤ 3) ∧ (z13_0 ≤ 8) ∧ (z14_0 ≤ 14) ∧ (z15_0 ≤ 8) ∧ (z21 ≤ 900) ∧ (z22 ≤ 4) ∧ (z26 ≤ 6) ∧ (mu z21 z22 ≤ mu x21 x22) ∧ (z26 ≠ 0 ∨ x22 = 0 ∨ mu z21 z22 < mu x21 x22) ∧ ((z1, z10, z11, z2, z3, z4, z5, z6, z7, z8, z9, z12_0, z13_0, z14_0, z15_0, z20, z21, z22, z23, z26, z27) = (sp_EM_readLine_0 x19 x20 x21 x22 x23 x26 x27 f1 f2 f3 q4 q5 q6 q7 f8 q9 q10 f11 m12_0 m13_0 m14_0 m15_0 f17))) (va_A ((mo_w ad ck x0 (nI x16) (nI x18) (nI x19) x20 (nI x21) (nI x22) x23 x24 x25 (nI x26) x27 0 (nI x29) (nI x30) (nI x33) x45 (nI x46) (nI x52) (nI x53) (nI x61) (nI x62) (nI x63) (nI x65) x66 f1 f2 f3 (bN 3 q4) (bN 7 q5) (bN 7 q6) (bN 4 q7) f8 (bN 2 q9) (bH q10) f11 (b2 m12_0 m12_1) (b2 m13_0 m13_1) (b2 m14_0 m14_1) (b2m m15_0 m15_1) f17 (bA 159 q31) f32 f34 f35 f36 f37 (bN 7 q38) f39 f40 f41 (b2 m42_0 m42_1) f43 f44 f47 f48 f49 f50 f51 (bN 13 q54) (bN 120 q55) (bN 120 q56) f57 (bN 120 q58) f59 f60 f64)) sz)) 0 0 (va_A ((mo_w ad ck x0 (nI x16) (nI x18) (nI x19) x20 (nI x21) (nI x22) x23 x24 x25 (nI x26) x27 0 (nI x29) (nI x30) (nI x33) x45 (nI x46) (nI x52) (nI x53) (nI x61) (nI x62) (nI x63) (nI x65) x66 f1 f2 f3 (bN 3 q4) (bN 7 q5) (bN 7 q6) (bN 4 q7) f8 (bN 2 q9) (bH q10) f11 (b2 m12_0 m12_1) (b2 m13_0 m13_1) (b2 m14_0 m14_1) (b2m m15_0 m15_1) f17 (bA 159 q31) f32 f34 f35 f36 f37 (bN 7 q38) f39 f40 f41 (b2 m42_0 m42_1) f43 f44 f47 f48 f49 f50 f51 (bN 13 q54) (bN 120 q55) (bN 120 q56) f57 (bN 120 q58) f59 f60 f64)) sz) := by
  refine Met.ofW (cc := cX9_readLine) (maxL := 5) (ret := none) (by decide) rfl ?_
  intro p e s m args below meth c s₁ B hml hv
  obtain ⟨rfl, rfl, hP, hK, hD0⟩ := hv
  have hx := B.exec
  have hb := B.bytes
  have hr := B.returns
  have hts := atoms_spec (ws := vs_EM_readLine_0) B.pre
  have v_1 := hts (.constant RX9 192 (3554411)) (List.mem_cons_of_mem _ vm_21)
  have v_7 := hts (.constant RX9 196 (17171557)) (List.mem_cons_of_mem _ vm_22)
  have v_8 := hts (.constant RX9 199 (20579924)) (List.mem_cons_of_mem _ vm_25)
  have v_9 := hts (.constant RX9 200 (168165)) (List.mem_cons_of_mem _ vm_26)
  have v_10 := hts (.fieldLink RX9 43 "ClockReachModel" "clockMany" "[I") (List.mem_cons_of_mem _ vm_3)
  have v_11 := hts (.fieldLink RX9 203 "ClockReachModel" "rb" "I") (List.mem_cons_of_mem _ vm_63)
  have v_16 := hts (.fieldLink RX9 49 "ClockReachModel" "edgeMany" "[I") (List.mem_cons_of_mem _ vm_45)
  have v_17 := hts (.fieldLink RX9 52 "ClockReachModel" "begins" "[I") (List.mem_cons_of_mem _ vm_126)
  have v_18 := hts (.fieldLink RX9 46 "ClockReachModel" "placeMany" "[I") (List.mem_cons_of_mem _ vm_65)
  have v_39 := hts (.fieldLink RX9 7 "ClockReachModel" "clockName" "[I") (List.mem_cons_of_mem _ vm_64)
  have hown : s.vm.findClass RX9 = some m.cls := findClass_of_methodNamed B.named
  have hlocks := B.notSynchronized
  have hiX9 : ∀ w ∈ wsX90, w ∈ vs_EM_readLine_0 := fun _ h => List.mem_cons_of_mem _ (vmi_L h)
  have hD := hD0.self (sz := s.heap.size)
  generalize hAe : va_A ((mo_w ad ck x0 (nI x16) (nI x18) (nI x19) x20 (nI x21) (nI x22) x23 x24 x25 (nI x26) x27 0 (nI x29) (nI x30) (nI x33) x45 (nI x46) (nI x52) (nI x53) (nI x61) (nI x62) (nI x63) (nI x65) x66 f1 f2 f3 (bN 3 q4) (bN 7 q5) (bN 7 q6) (bN 4 q7) f8 (bN 2 q9) (bH q10) f11 (b2 m12_0 m12_1) (b2 m13_0 m13_1) (b2 m14_0 m14_1) (b2m m15_0 m15_1) f17 (bA 159 q31) f32 f34 f35 f36 f37 (bN 7 q38) f39 f40 f41 (b2 m42_0 m42_1) f43 f44 f47 f48 f49 f50 f51 (bN 13 q54) (bN 120 q55) (bN 120 q56) f57 (bN 120 q58) f59 f60 f64)) s.heap.size = A at hD ⊢
  have hA : ∀ q : Nat, s.heap.size ≤ q → A q := fun q h => by rw [← hAe]; exact Or.inr h
  have hS : va_S A s.heap s.heap [] := va_S.rf
  have hl := lv_entry ([.ref (ad 0)]) (n := 5) (Nat.le_of_ble_eq_true rfl)
  rw [lg_entry_eq]
  generalize (lg_sl ([.ref (ad 0)]) ++ List.replicate (5 - (lg_sl ([.ref (ad 0)])).length) Slot.unset).toArray = ls at hl ⊢
  have hl : lv_has ls 5 [(0, .ref (ad 0))] := hl
  obtain ⟨RR, hRR⟩ : ∃ x, x = (sp_EM_readLine_0 x19 x20 x21 x22 x23 x26 x27 f1 f2 f3 q4 q5 q6 q7 f8 q9 q10 f11 m12_0 m13_0 m14_0 m15_0 f17) := ⟨_, rfl⟩
  have hsp := hRR
  refine lv_aload_n hx hb dX9_readLine_0 rfl (lv_at hl 0 rfl) ?_
  refine lv_ldc hx hb hown v_1 dX9_readLine_1 ?_
  refine va_calli (va_runV (As := [.int 3554411]) (rest := []) ⟨hx, hb, hml, hown, hts⟩ (c_EM_isWord l dC dI _ ad ck x0 x16 x18 x19 x20 x21 x22 x23 x24 x25 x26 x27 0 x29 x30 x33 x45 x46 x52 x53 x61 x62 x63 x65 x66 f1 f2 f3 q4 q5 q6 q7 f8 q9 q10 f11 m12_0 m12_1 m13_0 m13_1 m14_0 m14_1 m15_0 m15_1 f17 q31 f32 f34 f35 f36 f37 q38 f39 f40 f41 m42_0 m42_1 f43 f44 f47 f48 f49 f50 f51 q54 q55 q56 f57 q58 f59 f60 f64 3554411 hx16 hx18 hx19 hx21 hx22 hx26 (Nat.le_of_ble_eq_true rfl) hx29 hx30 hx33 hx46 hx52 hx53 hx61 hx62 hx63 hx65 hm12_0 hm12_1 hm13_0 hm13_1 hm14_0 hm14_1 hm15_0 hm15_1 hm42_0 hm42_1) (cwV 1 hts g_EM_readLine_0_EM_isWord rfl rfl rfl (by decide +kernel) ⟨Nat.le_of_ble_eq_true rfl, Nat.le_of_ble_eq_true rfl⟩) ⟨pu_bl, va_recv hK hP (ci := 9) (q0 := 0) rfl rfl, pu_in hP hK hD⟩ rfl rfl hl.1 rfl (lv_room (Nat.le_of_ble_eq_true rfl)) dX9_readLine_3 ⟨Nat.le_of_ble_eq_true rfl, Nat.le_of_ble_eq_true rfl⟩) hS (fun q _ h => pu_fr hS hA q h) (pu_fr hS hA) (fun r_1 u t H1 locs ht hvm hw hB hz1 hk1 hS => ?_)
  have hP := pu_keep hP hk1
  clear hk1 hz1 ht hvm
  generalize H1 = H at hP hS ⊢
  obtain ⟨u_2, hu_2, rfl, ju_2, iu_2⟩ := hw
  have hsp := hsp.trans (slet_eq iu_2)
  refine lv_istore_n (lv' := [(1, .int (nI u_2)), (0, .ref (ad 0))]) hx hb dX9_readLine_6 rfl hl (by decide) rfl (fun ls hl => ?_)
  refine lv_aload_n hx hb dX9_readLine_7 rfl (lv_at hl 1 rfl) ?_
  refine lv_ldc hx hb hown v_7 dX9_readLine_8 ?_
  refine va_calli (va_runV (As := [.int 17171557]) (rest := []) ⟨hx, hb, hml, hown, hts⟩ (c_EM_isWord l dC dI _ ad ck x0 x16 x18 x19 x20 x21 x22 x23 x24 x25 x26 x27 0 x29 x30 x33 x45 x46 x52 x53 x61 x62 x63 x65 x66 f1 f2 f3 q4 q5 q6 q7 f8 q9 q10 f11 m12_0 m12_1 m13_0 m13_1 m14_0 m14_1 m15_0 m15_1 f17 q31 f32 f34 f35 f36 f37 q38 f39 f40 f41 m42_0 m42_1 f43 f44 f47 f48 f49 f50 f51 q54 q55 q56 f57 q58 f59 f60 f64 17171557 hx16 hx18 hx19 hx21 hx22 hx26 (Nat.le_of_ble_eq_true rfl) hx29 hx30 hx33 hx46 hx52 hx53 hx61 hx62 hx63 hx65 hm12_0 hm12_1 hm13_0 hm13_1 hm14_0 hm14_1 hm15_0 hm15_1 hm42_0 hm42_1) (cwV 1 hts g_EM_readLine_0_EM_isWord rfl rfl rfl (by decide +kernel) ⟨Nat.le_of_ble_eq_true rfl, Nat.le_of_ble_eq_true rfl⟩) ⟨pu_bl, va_recv hK hP (ci := 9) (q0 := 0) rfl rfl, pu_in hP hK hD⟩ rfl rfl hl.1 rfl (lv_room (Nat.le_of_ble_eq_true rfl)) dX9_readLine_10 ⟨Nat.le_of_ble_eq_true rfl, Nat.le_of_ble_eq_true rfl⟩) hS (fun q _ h => pu_fr hS hA q h) (pu_fr hS hA) (fun r_3 u t H1 locs ht hvm hw hB hz1 hk1 hS => ?_)
  have hP := pu_keep hP hk1
  clear hk1 hz1 ht hvm
  generalize H1 = H at hP hS ⊢
  obtain ⟨u_4, hu_4, rfl, ju_4, iu_4⟩ := hw
  have hsp := hsp.trans (slet_eq iu_4)
  refine lv_istore_n (lv' := [(2, .int (nI u_4)), (1, .int (nI u_2)), (0, .ref (ad 0))]) hx hb dX9_readLine_13 rfl hl (by decide) rfl (fun ls hl => ?_)
  refine lv_aload_n hx hb dX9_readLine_14 rfl (lv_at hl 2 rfl) ?_
  refine lv_ldc hx hb hown v_8 dX9_readLine_15 ?_
  refine va_calli (va_runV (As := [.int 20579924]) (rest := []) ⟨hx, hb, hml, hown, hts⟩ (c_EM_isWord l dC dI _ ad ck x0 x16 x18 x19 x20 x21 x22 x23 x24 x25 x26 x27 0 x29 x30 x33 x45 x46 x52 x53 x61 x62 x63 x65 x66 f1 f2 f3 q4 q5 q6 q7 f8 q9 q10 f11 m12_0 m12_1 m13_0 m13_1 m14_0 m14_1 m15_0 m15_1 f17 q31 f32 f34 f35 f36 f37 q38 f39 f40 f41 m42_0 m42_1 f43 f44 f47 f48 f49 f50 f51 q54 q55 q56 f57 q58 f59 f60 f64 20579924 hx16 hx18 hx19 hx21 hx22 hx26 (Nat.le_of_ble_eq_true rfl) hx29 hx30 hx33 hx46 hx52 hx53 hx61 hx62 hx63 hx65 hm12_0 hm12_1 hm13_0 hm13_1 hm14_0 hm14_1 hm15_0 hm15_1 hm42_0 hm42_1) (cwV 1 hts g_EM_readLine_0_EM_isWord rfl rfl rfl (by decide +kernel) ⟨Nat.le_of_ble_eq_true rfl, Nat.le_of_ble_eq_true rfl⟩) ⟨pu_bl, va_recv hK hP (ci := 9) (q0 := 0) rfl rfl, pu_in hP hK hD⟩ rfl rfl hl.1 rfl (lv_room (Nat.le_of_ble_eq_true rfl)) dX9_readLine_17 ⟨Nat.le_of_ble_eq_true rfl, Nat.le_of_ble_eq_true rfl⟩) hS (fun q _ h => pu_fr hS hA q h) (pu_fr hS hA) (fun r_5 u t H1 locs ht hvm hw hB hz1 hk1 hS => ?_)
  have hP := pu_keep hP hk1
  clear hk1 hz1 ht hvm
  generalize H1 = H at hP hS ⊢
  obtain ⟨u_6, hu_6, rfl, ju_6, iu_6⟩ := hw
  have hsp := hsp.trans (slet_eq iu_6)
  refine lv_istore_n (lv' := [(3, .int (nI u_6)), (2, .int (nI u_4)), (1, .int (nI u_2)), (0, .ref (ad 0))]) hx hb dX9_readLine_20 rfl hl (by decide) rfl (fun ls hl => ?_)
  refine lv_aload_n hx hb dX9_readLine_21 rfl (lv_at hl 3 rfl) ?_
  refine lv_ldc hx hb hown v_9 dX9_readLine_22 ?_
  refine va_calli (va_runV (As := [.int 168165]) (rest := []) ⟨hx, hb, hml, hown, hts⟩ (c_EM_isWord l dC dI _ ad ck x0 x16 x18 x19 x20 x21 x22 x23 x24 x25 x26 x27 0 x29 x30 x33 x45 x46 x52 x53 x61 x62 x63 x65 x66 f1 f2 f3 q4 q5 q6 q7 f8 q9 q10 f11 m12_0 m12_1 m13_0 m13_1 m14_0 m14_1 m15_0 m15_1 f17 q31 f32 f34 f35 f36 f37 q38 f39 f40 f41 m42_0 m42_1 f43 f44 f47 f48 f49 f50 f51 q54 q55 q56 f57 q58 f59 f60 f64 168165 hx16 hx18 hx19 hx21 hx22 hx26 (Nat.le_of_ble_eq_true rfl) hx29 hx30 hx33 hx46 hx52 hx53 hx61 hx62 hx63 hx65 hm12_0 hm12_1 hm13_0 hm13_1 hm14_0 hm14_1 hm15_0 hm15_1 hm42_0 hm42_1) (cwV 1 hts g_EM_readLine_0_EM_isWord rfl rfl rfl (by decide +kernel) ⟨Nat.le_of_ble_eq_true rfl, Nat.le_of_ble_eq_true rfl⟩) ⟨pu_bl, va_recv hK hP (ci := 9) (q0 := 0) rfl rfl, pu_in hP hK hD⟩ rfl rfl hl.1 rfl (lv_room (Nat.le_of_ble_eq_true rfl)) dX9_readLine_24 ⟨Nat.le_of_ble_eq_true rfl, Nat.le_of_ble_eq_true rfl⟩) hS (fun q _ h => pu_fr hS hA q h) (pu_fr hS hA) (fun r_7 u t H1 locs ht hvm hw hB hz1 hk1 hS => ?_)
  have hP := pu_keep hP hk1
  clear hk1 hz1 ht hvm
  generalize H1 = H at hP hS ⊢
  obtain ⟨u_8, hu_8, rfl, ju_8, iu_8⟩ := hw
  have hsp := hsp.trans (slet_eq iu_8)
  refine lv_istore (lv' := [(4, .int (nI u_8)), (3, .int (nI u_6)), (2, .int (nI u_4)), (1, .int (nI u_2)), (0, .ref (ad 0))]) hx hb dX9_readLine_27 hl (by decide) rfl (fun ls hl => ?_)
  refine lv_iload_n hx hb dX9_readLine_29 rfl (lv_at hl 3 rfl) ?_
  obtain ⟨JR_17, hJR_17, hsp⟩ := slet_ex hsp
  refine pu_join (fun H locs ls st => ∃ (g_9 : Nat) (g_10 : Int32), st = [] ∧ g_9 ≤ 6 ∧ mu x21 x22 ≤ mu x21 x22 ∧ (u_2 = 0 ∨ g_9 ≠ 0 ∨ m12_0 ≤ 2) ∧ (u_4 = 0 ∨ g_9 ≠ 0 ∨ m13_0 ≤ 7) ∧ (u_8 = 0 ∨ g_9 ≠ 0 ∨ m14_0 ≤ 13) ∧ (g_9 ≠ 0 ∨ u_2 = 1 ∨ u_4 = 1 ∨ u_6 = 1 ∨ u_8 = 1) ∧ (g_9, g_10) = JR_17 ∧ va_P (dC, dI) vwCl (mo_w ad ck x0 (nI x16) (nI x18) (nI x19) x20 (nI x21) (nI x22) x23 x24 x25 (nI g_9) g_10 0 (nI x29) (nI x30) (nI x33) x45 (nI x46) (nI x52) (nI x53) (nI x61) (nI x62) (nI x63) (nI x65) x66 f1 f2 f3 (bN 3 q4) (bN 7 q5) (bN 7 q6) (bN 4 q7) f8 (bN 2 q9) (bH q10) f11 (b2 m12_0 m12_1) (b2 m13_0 m13_1) (b2 m14_0 m14_1) (b2m m15_0 m15_1) f17 (bA 159 q31) f32 f34 f35 f36 f37 (bN 7 q38) f39 f40 f41 (b2 m42_0 m42_1) f43 f44 f47 f48 f49 f50 f51 (bN 13 q54) (bN 120 q55) (bN 120 q56) f57 (bN 120 q58) f59 f60 f64) H ∧ va_D A (mo_w ad ck x0 (nI x16) (nI x18) (nI x19) x20 (nI x21) (nI x22) x23 x24 x25 (nI g_9) g_10 0 (nI x29) (nI x30) (nI x33) x45 (nI x46) (nI x52) (nI x53) (nI x61) (nI x62) (nI x63) (nI x65) x66 f1 f2 f3 (bN 3 q4) (bN 7 q5) (bN 7 q6) (bN 4 q7) f8 (bN 2 q9) (bH q10) f11 (b2 m12_0 m12_1) (b2 m13_0 m13_1) (b2 m14_0 m14_1) (b2m m15_0 m15_1) f17 (bA 159 q31) f32 f34 f35 f36 f37 (bN 7 q38) f39 f40 f41 (b2 m42_0 m42_1) f43 f44 f47 f48 f49 f50 f51 (bN 13 q54) (bN 120 q55) (bN 120 q56) f57 (bN 120 q58) f59 f60 f64) ∧ va_S A s.heap H locs ∧ lv_has ls 5 [(0, .ref (ad 0)), (1, .int (nI u_2)), (2, .int (nI u_4)), (3, .int (nI u_6)), (4, .int (nI u_8))]) 129 ?_ (fun j_16 => ?_)
  · rintro H locs ls st ⟨g_9, g_10, rfl, hg_9, he_11, he_12, he_13, he_14, he_15, he_18, hP, hD, hS, hl⟩
    rw [← he_18] at hsp
    refine lv_aload_n hx hb dX9_readLine_129 rfl (lv_at hl 0 rfl) ?_
    refine va_calli (va_runV (As := []) (rest := []) ⟨hx, hb, hml, hown, hts⟩ (c_EM_isGood l dC dI _ ad ck x0 x16 x18 x19 x20 x21 x22 x23 x24 x25 g_9 g_10 0 x29 x30 x33 x45 x46 x52 x53 x61 x62 x63 x65 x66 f1 f2 f3 q4 q5 q6 q7 f8 q9 q10 f11 m12_0 m12_1 m13_0 m13_1 m14_0 m14_1 m15_0 m15_1 f17 q31 f32 f34 f35 f36 f37 q38 f39 f40 f41 m42_0 m42_1 f43 f44 f47 f48 f49 f50 f51 q54 q55 q56 f57 q58 f59 f60 f64 hx16 hx18 hx19 hx21 hx22 hg_9 (Nat.le_of_ble_eq_true rfl) hx29 hx30 hx33 hx46 hx52 hx53 hx61 hx62 hx63 hx65 hm12_0 hm12_1 hm13_0 hm13_1 hm14_0 hm14_1 hm15_0 hm15_1 hm42_0 hm42_1) (cwV 0 hts g_EM_readLine_0_EM_isGood rfl rfl rfl (by decide +kernel) ⟨Nat.le_of_ble_eq_true rfl, Nat.le_of_ble_eq_true rfl⟩) ⟨pu_bl, va_recv hK hP (ci := 9) (q0 := 0) rfl rfl, pu_in hP hK hD⟩ rfl rfl hl.1 rfl (lv_room (Nat.le_of_ble_eq_true rfl)) dX9_readLine_130 ⟨Nat.le_of_ble_eq_true rfl, Nat.le_of_ble_eq_true rfl⟩) hS (fun q _ h => pu_fr hS hA q h) (pu_fr hS hA) (fun r_19 u t H1 locs ht hvm hw hB hz1 hk1 hS => ?_)
    have hP := pu_keep hP hk1
    clear hk1 hz1 ht hvm
    generalize H1 = H at hP hS ⊢
    obtain ⟨u_20, hu_20, rfl, ju_20, iu_20⟩ := hw
    have hsp := hsp.trans (slet_eq iu_20)
    refine lv_if_ne (tgt := 137) hx hb dX9_readLine_133 (by decide) (fun c_21 => ?_) (fun c_21 => ?_)
    · have c_21 : ¬ u_20 = 0 := fun z => c_21 ((nI_eq (a := u_20) (b := 0) (Nat.lt_of_le_of_lt hu_20 (Nat.le_of_ble_eq_true rfl)) (Nat.le_of_ble_eq_true rfl)).mpr z)
      have hsp := hsp.trans (if_neg c_21)
      refine lv_aload_n hx hb dX9_readLine_137 rfl (lv_at hl 0 rfl) ?_
      have hFc := pu_free hD hS hA
      refine va_callv (va_runV (As := []) (rest := []) ⟨hx, hb, hml, hown, hts⟩ (c_EM_next l dC dI _ ad ck x0 x16 x18 x19 x20 x21 x22 x23 x24 x25 g_9 g_10 0 x29 x30 x33 x45 x46 x52 x53 x61 x62 x63 x65 x66 f1 f2 f3 q4 q5 q6 q7 f8 q9 q10 f11 m12_0 m12_1 m13_0 m13_1 m14_0 m14_1 m15_0 m15_1 f17 q31 f32 f34 f35 f36 f37 q38 f39 f40 f41 m42_0 m42_1 f43 f44 f47 f48 f49 f50 f51 q54 q55 q56 f57 q58 f59 f60 f64 hx16 hx18 hx19 hx21 hx22 hg_9 (Nat.le_of_ble_eq_true rfl) hx29 hx30 hx33 hx46 hx52 hx53 hx61 hx62 hx63 hx65 hm12_0 hm12_1 hm13_0 hm13_1 hm14_0 hm14_1 hm15_0 hm15_1 hm42_0 hm42_1) (cwV 0 hts g_EM_readLine_0_EM_next rfl rfl rfl (by decide +kernel) ⟨Nat.le_of_ble_eq_true rfl, Nat.le_of_ble_eq_true rfl⟩) ⟨pu_bl, va_recv hK hP (ci := 9) (q0 := 0) rfl rfl, pu_in hP hK hD⟩ rfl rfl hl.1 rfl (lv_room (Nat.le_of_ble_eq_true rfl)) dX9_readLine_138 ⟨Nat.le_of_ble_eq_true rfl, Nat.le_of_ble_eq_true rfl⟩) hS (fun q _ h => hFc q h) hFc (fun u t H1 locs ht hvm hw hB hz1 hk1 hS => ?_)
      obtain ⟨z20_23, z21_24, z22_25, z23_26, ⟨hP1, -, hD1⟩, hz21_24, hz22_25, xr_22_0, xr_22_1, xr_22_2⟩ := hB
      rw [ht] at hP1
      have hP := hP1
      have hD := pu_all hFc hD1
      clear hP1 hD1 hFc
      clear hk1 hz1 ht hvm
      generalize H1 = H at hP hS ⊢
      have hsp := hsp.trans (slet_eq xr_22_2)
      refine lv_iload_n hx hb dX9_readLine_141 rfl (lv_at hl 1 rfl) ?_
      refine lv_if_eq (tgt := 186) hx hb dX9_readLine_142 (by decide) (fun c_27 => ?_) (fun c_27 => ?_)
      · have c_27 : u_2 = 0 := (nI_eq (a := u_2) (b := 0) (Nat.lt_of_le_of_lt hu_2 (Nat.le_of_ble_eq_true rfl)) (Nat.le_of_ble_eq_true rfl)).mp c_27
        have hsp := hsp.trans (if_pos c_27)
        refine lv_iload_n hx hb dX9_readLine_186 rfl (lv_at hl 2 rfl) ?_
        refine lv_if_eq (tgt := 197) hx hb dX9_readLine_187 (by decide) (fun c_28 => ?_) (fun c_28 => ?_)
        · have c_28 : u_4 = 0 := (nI_eq (a := u_4) (b := 0) (Nat.lt_of_le_of_lt hu_4 (Nat.le_of_ble_eq_true rfl)) (Nat.le_of_ble_eq_true rfl)).mp c_28
          have hsp := hsp.trans (if_pos c_28)
          refine lv_iload_n hx hb dX9_readLine_197 rfl (lv_at hl 3 rfl) ?_
          refine lv_if_eq (tgt := 217) hx hb dX9_readLine_198 (by decide) (fun c_29 => ?_) (fun c_29 => ?_)
          · have c_29 : u_6 = 0 := (nI_eq (a := u_6) (b := 0) (Nat.lt_of_le_of_lt hu_6 (Nat.le_of_ble_eq_true rfl)) (Nat.le_of_ble_eq_true rfl)).mp c_29
            have hsp := hsp.trans (if_pos c_29)
            refine lv_aload_n hx hb dX9_readLine_217 rfl (lv_at hl 0 rfl) ?_
            have hFc := pu_free hD hS hA
            refine va_callv (va_runV (As := []) (rest := []) ⟨hx, hb, hml, hown, hts⟩ (c_EM_readEdge_0 l dC dI _ ad ck x0 x16 x18 x19 z20_23 z21_24 z22_25 z23_26 x24 x25 g_9 g_10 x29 x30 x33 x45 x46 x52 x53 x61 x62 x63 x65 x66 f1 f2 f3 q4 q5 q6 q7 f8 q9 q10 f11 m12_0 m12_1 m13_0 m13_1 m14_0 m14_1 m15_0 m15_1 f17 q31 f32 f34 f35 f36 f37 q38 f39 f40 f41 m42_0 m42_1 f43 f44 f47 f48 f49 f50 f51 q54 q55 q56 f57 q58 f59 f60 f64 hx16 hx18 hx19 hz21_24 hz22_25 hg_9 hx29 hx30 hx33 hx46 hx52 hx53 hx61 hx62 hx63 hx65 hm12_0 hm12_1 hm13_0 hm13_1 (by omega) hm14_1 hm15_0 hm15_1 hm42_0 hm42_1) (cwV 0 hts g_EM_readLine_0_EM_readEdge_0 rfl rfl rfl (by decide +kernel) ⟨Nat.le_of_ble_eq_true rfl, Nat.le_of_ble_eq_true rfl⟩) ⟨pu_bl, va_recv hK hP (ci := 9) (q0 := 0) rfl rfl, pu_in hP hK hD⟩ rfl rfl hl.1 rfl (lv_room (Nat.le_of_ble_eq_true rfl)) dX9_readLine_218 ⟨Nat.le_of_ble_eq_true rfl, Nat.le_of_ble_eq_true rfl⟩) hS (fun q _ h => hFc q h) hFc (fun u t H1 locs ht hvm hw hB hz1 hk1 hS => ?_)
            obtain ⟨z10_31, z11_32, z5_33, z6_34, z7_35, z8_36, z9_37, z14_0_38, z20_39, z21_40, z22_41, z23_42, z26_43, z27_44, ⟨hP1, -, hD1⟩, hz14_0_38, hz21_40, hz22_41, hz26_43, xr_30_0, xr_30_1⟩ := hB
            rw [ht] at hP1
            have hP := hP1
            have hD := pu_all hFc hD1
            clear hP1 hD1 hFc
            clear hk1 hz1 ht hvm
            generalize H1 = H at hP hS ⊢
            have hsp := hsp.trans (slet_eq xr_30_1)
            exact W.vret hx hb hr (fun t ht hW => ⟨⟨(), rfl, trivial, ⟨f1, z10_31, z11_32, f2, f3, q4, z5_33, z6_34, z7_35, z8_36, z9_37, m12_0, m13_0, z14_0_38, m15_0, z20_39, z21_40, z22_41, z23_42, z26_43, z27_44, ⟨by rw [ht]; exact hP, va_K.moved hW.alike hK, hD⟩, hm12_0, hm13_0, hz14_0_38, hm15_0, hz21_40, hz22_41, hz26_43, by omega, by omega, (hsp.symm.trans hRR)⟩⟩, hS.F ht⟩) hS.2.2 dX9_readLine_221
          · have c_29 : ¬ u_6 = 0 := fun z => c_29 ((nI_eq (a := u_6) (b := 0) (Nat.lt_of_le_of_lt hu_6 (Nat.le_of_ble_eq_true rfl)) (Nat.le_of_ble_eq_true rfl)).mpr z)
            have hsp := hsp.trans (if_neg c_29)
            refine lv_aload_n hx hb dX9_readLine_201 rfl (lv_at hl 0 rfl) ?_
            refine va_get (D := (dC, dI)) (ci := 9) (v := .ref (ad 15)) (C := RX9) (T := TX9) (N := 67) hx hb hts hiX9 hown hK hP 0 rfl rfl 15 (by decide) v_17 (fun _ h9 => h9) rfl dX9_readLine_202 ?_
            refine lv_aload_n hx hb dX9_readLine_205 rfl (lv_at hl 0 rfl) ?_
            refine va_get (D := (dC, dI)) (ci := 9) (v := .int 0) (C := RX9) (T := TX9) (N := 67) hx hb hts hiX9 hown hK hP 0 rfl rfl 28 (by decide) v_11 (fun _ h9 => h9) rfl dX9_readLine_206 ?_
            refine lv_aload_n hx hb dX9_readLine_209 rfl (lv_at hl 0 rfl) ?_
            have hFc := pu_free hD hS hA
            refine va_calli (va_runV (As := []) (rest := [.int 0, .ref (ad 15)]) ⟨hx, hb, hml, hown, hts⟩ (c_EM_toldPlace_0 l dC dI _ ad ck x0 x16 x18 x19 z20_23 z21_24 z22_25 z23_26 x24 x25 g_9 g_10 x29 x30 x33 x45 x46 x52 x53 x61 x62 x63 x65 x66 f1 f2 f3 q4 q5 q6 q7 f8 q9 q10 f11 m12_0 m12_1 m13_0 m13_1 m14_0 m14_1 m15_0 m15_1 f17 q31 f32 f34 f35 f36 f37 q38 f39 f40 f41 m42_0 m42_1 f43 f44 f47 f48 f49 f50 f51 q54 q55 q56 f57 q58 f59 f60 f64 hx16 hx18 hx19 hz21_24 hz22_25 hg_9 hx29 hx30 hx33 hx46 hx52 hx53 hx61 hx62 hx63 hx65 hm12_0 hm12_1 hm13_0 hm13_1 hm14_0 hm14_1 hm15_0 hm15_1 hm42_0 hm42_1) (cwV 0 hts g_EM_readLine_0_EM_toldPlace_0 rfl rfl rfl (by decide +kernel) ⟨Nat.le_of_ble_eq_true rfl, Nat.le_of_ble_eq_true rfl⟩) ⟨pu_bl, va_recv hK hP (ci := 9) (q0 := 0) rfl rfl, pu_in hP hK hD⟩ rfl rfl hl.1 rfl (lv_room (Nat.le_of_ble_eq_true rfl)) dX9_readLine_210 ⟨Nat.le_of_ble_eq_true rfl, Nat.le_of_ble_eq_true rfl⟩) hS (fun q _ h => hFc q h) hFc (fun r_45 u t H1 locs ht hvm hw hB hz1 hk1 hS => ?_)
            obtain ⟨z20_46, z21_47, z22_48, z23_49, z26_50, z27_51, ⟨hP1, -, hD1⟩, hz21_47, hz22_48, hz26_50, xr_45_0, xr_45_1⟩ := hB
            rw [ht] at hP1
            have hP := hP1
            have hD := pu_all hFc hD1
            clear hP1 hD1 hFc
            clear hk1 hz1 ht hvm
            generalize H1 = H at hP hS ⊢
            obtain ⟨u_52, hu_52, rfl, iu_52⟩ := hw
            have iu_52 : (u_52, z20_46, z21_47, z22_48, z23_49, z26_50, z27_51) = (sp_EM_toldPlace_0 x19 z20_23 z21_24 z22_25 z23_26 g_9 g_10 f2 m13_0 f17) := Prod.ext iu_52 xr_45_1
            have hsp := hsp.trans (slet_eq iu_52)
            refine va_iast hx hb hK hP hD hS 15 14 rfl rfl (vp_in_nI (n := 0) (Nat.le_of_ble_eq_true rfl) (Nat.le_of_ble_eq_true rfl)) dX9_readLine_213 (fun H locs hP hD hS => ?_)
            have hP : va_P (dC, dI) vwCl (mo_w ad ck x0 (nI x16) (nI x18) (nI x19) z20_46 (nI z21_47) (nI z22_48) z23_49 x24 x25 (nI z26_50) z27_51 0 (nI x29) (nI x30) (nI x33) x45 (nI x46) (nI x52) (nI x53) (nI x61) (nI x62) (nI x63) (nI x65) x66 f1 f2 f3 (bN 3 q4) (bN 7 q5) (bN 7 q6) (bN 4 q7) f8 (bN 2 q9) (bH q10) f11 (b2 m12_0 m12_1) (b2 m13_0 m13_1) (b2 m14_0 m14_1) (b2m (u_52 + 1) m15_1) f17 (bA 159 q31) f32 f34 f35 f36 f37 (bN 7 q38) f39 f40 f41 (b2 m42_0 m42_1) f43 f44 f47 f48 f49 f50 f51 (bN 13 q54) (bN 120 q55) (bN 120 q56) f57 (bN 120 q58) f59 f60 f64) H := by rw [← b2m_up0 (a := m15_0) (b := m15_1) (v := u_52)]; exact hP
            have hD : va_D A (mo_w ad ck x0 (nI x16) (nI x18) (nI x19) z20_46 (nI z21_47) (nI z22_48) z23_49 x24 x25 (nI z26_50) z27_51 0 (nI x29) (nI x30) (nI x33) x45 (nI x46) (nI x52) (nI x53) (nI x61) (nI x62) (nI x63) (nI x65) x66 f1 f2 f3 (bN 3 q4) (bN 7 q5) (bN 7 q6) (bN 4 q7) f8 (bN 2 q9) (bH q10) f11 (b2 m12_0 m12_1) (b2 m13_0 m13_1) (b2 m14_0 m14_1) (b2m (u_52 + 1) m15_1) f17 (bA 159 q31) f32 f34 f35 f36 f37 (bN 7 q38) f39 f40 f41 (b2 m42_0 m42_1) f43 f44 f47 f48 f49 f50 f51 (bN 13 q54) (bN 120 q55) (bN 120 q56) f57 (bN 120 q58) f59 f60 f64) := by rw [← b2m_up0 (a := m15_0) (b := m15_1) (v := u_52)]; exact hD
            refine lv_goto (tgt := 221) hx hb dX9_readLine_214 (by decide) ?_
            exact W.vret hx hb hr (fun t ht hW => ⟨⟨(), rfl, trivial, ⟨f1, q10, f11, f2, f3, q4, q5, q6, q7, f8, q9, m12_0, m13_0, m14_0, (u_52 + 1), z20_46, z21_47, z22_48, z23_49, z26_50, z27_51, ⟨by rw [ht]; exact hP, va_K.moved hW.alike hK, hD⟩, hm12_0, hm13_0, hm14_0, (by omega), hz21_47, hz22_48, hz26_50, by omega, by omega, (hsp.symm.trans hRR)⟩⟩, hS.F ht⟩) hS.2.2 dX9_readLine_221
        · have c_28 : ¬ u_4 = 0 := fun z => c_28 ((nI_eq (a := u_4) (b := 0) (Nat.lt_of_le_of_lt hu_4 (Nat.le_of_ble_eq_true rfl)) (Nat.le_of_ble_eq_true rfl)).mpr z)
          have hsp := hsp.trans (if_neg c_28)
          refine lv_aload_n hx hb dX9_readLine_190 rfl (lv_at hl 0 rfl) ?_
          have hFc := pu_free hD hS hA
          refine va_callv (va_runV (As := []) (rest := []) ⟨hx, hb, hml, hown, hts⟩ (c_EM_readPlace_0 l dC dI _ ad ck x0 x16 x18 x19 z20_23 z21_24 z22_25 z23_26 x24 x25 g_9 g_10 x29 x30 x33 x45 x46 x52 x53 x61 x62 x63 x65 x66 f1 f2 f3 q4 q5 q6 q7 f8 q9 q10 f11 m12_0 m12_1 m13_0 m13_1 m14_0 m14_1 m15_0 m15_1 f17 q31 f32 f34 f35 f36 f37 q38 f39 f40 f41 m42_0 m42_1 f43 f44 f47 f48 f49 f50 f51 q54 q55 q56 f57 q58 f59 f60 f64 hx16 hx18 hx19 hz21_24 hz22_25 hg_9 hx29 hx30 hx33 hx46 hx52 hx53 hx61 hx62 hx63 hx65 hm12_0 hm12_1 (by omega) hm13_1 hm14_0 hm14_1 hm15_0 hm15_1 hm42_0 hm42_1) (cwV 0 hts g_EM_readLine_0_EM_readPlace_0 rfl rfl rfl (by decide +kernel) ⟨Nat.le_of_ble_eq_true rfl, Nat.le_of_ble_eq_true rfl⟩) ⟨pu_bl, va_recv hK hP (ci := 9) (q0 := 0) rfl rfl, pu_in hP hK hD⟩ rfl rfl hl.1 rfl (lv_room (Nat.le_of_ble_eq_true rfl)) dX9_readLine_191 ⟨Nat.le_of_ble_eq_true rfl, Nat.le_of_ble_eq_true rfl⟩) hS (fun q _ h => hFc q h) hFc (fun u t H1 locs ht hvm hw hB hz1 hk1 hS => ?_)
          obtain ⟨z10_54, z11_55, z2_56, z3_57, z4_58, z9_59, z13_0_60, z20_61, z21_62, z22_63, z23_64, z26_65, z27_66, ⟨hP1, -, hD1⟩, hz13_0_60, hz21_62, hz22_63, hz26_65, xr_53_0, xr_53_1⟩ := hB
          rw [ht] at hP1
          have hP := hP1
          have hD := pu_all hFc hD1
          clear hP1 hD1 hFc
          clear hk1 hz1 ht hvm
          generalize H1 = H at hP hS ⊢
          have hsp := hsp.trans (slet_eq xr_53_1)
          refine lv_goto (tgt := 221) hx hb dX9_readLine_194 (by decide) ?_
          exact W.vret hx hb hr (fun t ht hW => ⟨⟨(), rfl, trivial, ⟨f1, z10_54, z11_55, z2_56, z3_57, z4_58, q5, q6, q7, f8, z9_59, m12_0, z13_0_60, m14_0, m15_0, z20_61, z21_62, z22_63, z23_64, z26_65, z27_66, ⟨by rw [ht]; exact hP, va_K.moved hW.alike hK, hD⟩, hm12_0, hz13_0_60, hm14_0, hm15_0, hz21_62, hz22_63, hz26_65, by omega, by omega, (hsp.symm.trans hRR)⟩⟩, hS.F ht⟩) hS.2.2 dX9_readLine_221
      · have c_27 : ¬ u_2 = 0 := fun z => c_27 ((nI_eq (a := u_2) (b := 0) (Nat.lt_of_le_of_lt hu_2 (Nat.le_of_ble_eq_true rfl)) (Nat.le_of_ble_eq_true rfl)).mpr z)
        have hsp := hsp.trans (if_neg c_27)
        refine lv_aload_n hx hb dX9_readLine_145 rfl (lv_at hl 0 rfl) ?_
        refine va_get (D := (dC, dI)) (ci := 9) (v := .ref (ad 1)) (C := RX9) (T := TX9) (N := 67) hx hb hts hiX9 hown hK hP 0 rfl rfl 1 (by decide) v_39 (fun _ h9 => h9) rfl dX9_readLine_146 ?_
        refine lv_iconst (v := 3) hx hb dX9_readLine_149 (by decide) ?_
        refine lv_aload_n hx hb dX9_readLine_150 rfl (lv_at hl 0 rfl) ?_
        refine va_get (D := (dC, dI)) (ci := 9) (v := .int 0) (C := RX9) (T := TX9) (N := 67) hx hb hts hiX9 hown hK hP 0 rfl rfl 28 (by decide) v_11 (fun _ h9 => h9) rfl dX9_readLine_151 ?_
        refine lv_imul hx hb dX9_readLine_154 ?_
        refine lv_topi (fun y_67 ey_67 => ?_)
        obtain rfl : y_67 = 0 := ey_67.trans (by decide)
        refine lv_aload_n hx hb dX9_readLine_155 rfl (lv_at hl 0 rfl) ?_
        refine va_get (D := (dC, dI)) (ci := 9) (v := .ref (ad 12)) (C := RX9) (T := TX9) (N := 67) hx hb hts hiX9 hown hK hP 0 rfl rfl 12 (by decide) v_10 (fun _ h9 => h9) rfl dX9_readLine_156 ?_
        refine lv_aload_n hx hb dX9_readLine_159 rfl (lv_at hl 0 rfl) ?_
        refine va_get (D := (dC, dI)) (ci := 9) (v := .int 0) (C := RX9) (T := TX9) (N := 67) hx hb hts hiX9 hown hK hP 0 rfl rfl 28 (by decide) v_11 (fun _ h9 => h9) rfl dX9_readLine_160 ?_
        refine va_iald hx hb hK hP 12 11 rfl rfl (vp_in_nI (n := 0) (Nat.le_of_ble_eq_true rfl) (Nat.le_of_ble_eq_true rfl)) dX9_readLine_163 ?_
        refine lv_topi (fun y_68 ey_68 => ?_)
        have qy_68 := ey_68.trans b2_0
        clear ey_68
        obtain rfl : y_68 = nI m12_0 := qy_68
        refine lv_iadd hx hb dX9_readLine_164 ?_
        refine lv_topi (fun y_69 ey_69 => ?_)
        obtain rfl : y_69 = (nI (0 + m12_0)) := ey_69.trans (nI_add 0 m12_0)
        refine lv_aload_n hx hb dX9_readLine_165 rfl (lv_at hl 0 rfl) ?_
        have hFc := pu_free hD hS hA
        refine va_calli (va_runV (As := []) (rest := [.int (nI (0 + m12_0)), .ref (ad 1)]) ⟨hx, hb, hml, hown, hts⟩ (c_EM_freshName_0 l dC dI _ ad ck x0 x16 x18 x19 z20_23 z21_24 z22_25 z23_26 x24 x25 g_9 g_10 x29 x30 x33 x45 x46 x52 x53 x61 x62 x63 x65 x66 f1 f2 f3 q4 q5 q6 q7 f8 q9 q10 f11 m12_0 m12_1 m13_0 m13_1 m14_0 m14_1 m15_0 m15_1 f17 q31 f32 f34 f35 f36 f37 q38 f39 f40 f41 m42_0 m42_1 f43 f44 f47 f48 f49 f50 f51 q54 q55 q56 f57 q58 f59 f60 f64 hx16 hx18 hx19 hz21_24 hz22_25 hg_9 hx29 hx30 hx33 hx46 hx52 hx53 hx61 hx62 hx63 hx65 hm12_0 hm12_1 hm13_0 hm13_1 hm14_0 hm14_1 hm15_0 hm15_1 hm42_0 hm42_1) (cwV 0 hts g_EM_readLine_0_EM_freshName_0 rfl rfl rfl (by decide +kernel) ⟨Nat.le_of_ble_eq_true rfl, Nat.le_of_ble_eq_true rfl⟩) ⟨pu_bl, va_recv hK hP (ci := 9) (q0 := 0) rfl rfl, pu_in hP hK hD⟩ rfl rfl hl.1 rfl (lv_room (Nat.le_of_ble_eq_true rfl)) dX9_readLine_166 ⟨Nat.le_of_ble_eq_true rfl, Nat.le_of_ble_eq_true rfl⟩) hS (fun q _ h => hFc q h) hFc (fun r_70 u t H1 locs ht hvm hw hB hz1 hk1 hS => ?_)
        obtain ⟨z20_71, z21_72, z22_73, z23_74, z26_75, z27_76, ⟨hP1, -, hD1⟩, hz21_72, hz22_73, hz26_75, xr_70_0, xr_70_1⟩ := hB
        rw [ht] at hP1
        have hP := hP1
        have hD := pu_all hFc hD1
        clear hP1 hD1 hFc
        clear hk1 hz1 ht hvm
        generalize H1 = H at hP hS ⊢
        have ir_70 := hw
        have ir_70 : (r_70, z20_71, z21_72, z22_73, z23_74, z26_75, z27_76) = (sp_EM_freshName_0 x19 z20_23 z21_24 z22_25 z23_26 g_9 g_10 f1 f2 m12_0 m13_0 f17) := Prod.ext ir_70 xr_70_1
        have hsp := hsp.trans (slet_eq ir_70)
        refine va_iast hx hb hK hP hD hS 1 0 rfl rfl (vp_in_nI (n := (0 + m12_0)) (by omega) (Nat.le_of_ble_eq_true rfl)) dX9_readLine_169 (fun H locs hP hD hS => ?_)
        obtain ⟨f_77, ef_77, xf_77⟩ := up_x f1 (n := (0 + m12_0)) r_70 (by omega)
        have hP : va_P (dC, dI) vwCl (mo_w ad ck x0 (nI x16) (nI x18) (nI x19) z20_71 (nI z21_72) (nI z22_73) z23_74 x24 x25 (nI z26_75) z27_76 0 (nI x29) (nI x30) (nI x33) x45 (nI x46) (nI x52) (nI x53) (nI x61) (nI x62) (nI x63) (nI x65) x66 f_77 f2 f3 (bN 3 q4) (bN 7 q5) (bN 7 q6) (bN 4 q7) f8 (bN 2 q9) (bH q10) f11 (b2 m12_0 m12_1) (b2 m13_0 m13_1) (b2 m14_0 m14_1) (b2m m15_0 m15_1) f17 (bA 159 q31) f32 f34 f35 f36 f37 (bN 7 q38) f39 f40 f41 (b2 m42_0 m42_1) f43 f44 f47 f48 f49 f50 f51 (bN 13 q54) (bN 120 q55) (bN 120 q56) f57 (bN 120 q58) f59 f60 f64) H := by rw [← ef_77]; exact hP
        have hD : va_D A (mo_w ad ck x0 (nI x16) (nI x18) (nI x19) z20_71 (nI z21_72) (nI z22_73) z23_74 x24 x25 (nI z26_75) z27_76 0 (nI x29) (nI x30) (nI x33) x45 (nI x46) (nI x52) (nI x53) (nI x61) (nI x62) (nI x63) (nI x65) x66 f_77 f2 f3 (bN 3 q4) (bN 7 q5) (bN 7 q6) (bN 4 q7) f8 (bN 2 q9) (bH q10) f11 (b2 m12_0 m12_1) (b2 m13_0 m13_1) (b2 m14_0 m14_1) (b2m m15_0 m15_1) f17 (bA 159 q31) f32 f34 f35 f36 f37 (bN 7 q38) f39 f40 f41 (b2 m42_0 m42_1) f43 f44 f47 f48 f49 f50 f51 (bN 13 q54) (bN 120 q55) (bN 120 q56) f57 (bN 120 q58) f59 f60 f64) := by rw [← ef_77]; exact hD
        have hsp := hsp.trans (slet_eq xf_77)
        refine lv_aload_n hx hb dX9_readLine_170 rfl (lv_at hl 0 rfl) ?_
        refine va_get (D := (dC, dI)) (ci := 9) (v := .ref (ad 12)) (C := RX9) (T := TX9) (N := 67) hx hb hts hiX9 hown hK hP 0 rfl rfl 12 (by decide) v_10 (fun _ h9 => h9) rfl dX9_readLine_171 ?_
        refine lv_aload_n hx hb dX9_readLine_174 rfl (lv_at hl 0 rfl) ?_
        refine va_get (D := (dC, dI)) (ci := 9) (v := .int 0) (C := RX9) (T := TX9) (N := 67) hx hb hts hiX9 hown hK hP 0 rfl rfl 28 (by decide) v_11 (fun _ h9 => h9) rfl dX9_readLine_175 ?_
        refine lv_dup2_11 hx hb dX9_readLine_178 rfl rfl ?_
        refine va_iald hx hb hK hP 12 11 rfl rfl (vp_in_nI (n := 0) (Nat.le_of_ble_eq_true rfl) (Nat.le_of_ble_eq_true rfl)) dX9_readLine_179 ?_
        refine lv_topi (fun y_78 ey_78 => ?_)
        have qy_78 := ey_78.trans b2_0
        clear ey_78
        obtain rfl : y_78 = nI m12_0 := qy_78
        refine lv_iconst (v := 1) hx hb dX9_readLine_180 (by decide) ?_
        refine lv_iadd hx hb dX9_readLine_181 ?_
        refine lv_topi (fun y_79 ey_79 => ?_)
        obtain rfl : y_79 = (nI (m12_0 + 1)) := ey_79.trans (nI_add m12_0 1)
        refine va_iast hx hb hK hP hD hS 12 11 rfl rfl (vp_in_nI (n := 0) (Nat.le_of_ble_eq_true rfl) (Nat.le_of_ble_eq_true rfl)) dX9_readLine_182 (fun H locs hP hD hS => ?_)
        have hP : va_P (dC, dI) vwCl (mo_w ad ck x0 (nI x16) (nI x18) (nI x19) z20_71 (nI z21_72) (nI z22_73) z23_74 x24 x25 (nI z26_75) z27_76 0 (nI x29) (nI x30) (nI x33) x45 (nI x46) (nI x52) (nI x53) (nI x61) (nI x62) (nI x63) (nI x65) x66 f_77 f2 f3 (bN 3 q4) (bN 7 q5) (bN 7 q6) (bN 4 q7) f8 (bN 2 q9) (bH q10) f11 (b2 (m12_0 + 1) m12_1) (b2 m13_0 m13_1) (b2 m14_0 m14_1) (b2m m15_0 m15_1) f17 (bA 159 q31) f32 f34 f35 f36 f37 (bN 7 q38) f39 f40 f41 (b2 m42_0 m42_1) f43 f44 f47 f48 f49 f50 f51 (bN 13 q54) (bN 120 q55) (bN 120 q56) f57 (bN 120 q58) f59 f60 f64) H := by rw [← b2_up0 (a := m12_0) (b := m12_1) (v := (m12_0 + 1))]; exact hP
        have hD : va_D A (mo_w ad ck x0 (nI x16) (nI x18) (nI x19) z20_71 (nI z21_72) (nI z22_73) z23_74 x24 x25 (nI z26_75) z27_76 0 (nI x29) (nI x30) (nI x33) x45 (nI x46) (nI x52) (nI x53) (nI x61) (nI x62) (nI x63) (nI x65) x66 f_77 f2 f3 (bN 3 q4) (bN 7 q5) (bN 7 q6) (bN 4 q7) f8 (bN 2 q9) (bH q10) f11 (b2 (m12_0 + 1) m12_1) (b2 m13_0 m13_1) (b2 m14_0 m14_1) (b2m m15_0 m15_1) f17 (bA 159 q31) f32 f34 f35 f36 f37 (bN 7 q38) f39 f40 f41 (b2 m42_0 m42_1) f43 f44 f47 f48 f49 f50 f51 (bN 13 q54) (bN 120 q55) (bN 120 q56) f57 (bN 120 q58) f59 f60 f64) := by rw [← b2_up0 (a := m12_0) (b := m12_1) (v := (m12_0 + 1))]; exact hD
        refine lv_goto (tgt := 221) hx hb dX9_readLine_183 (by decide) ?_
        exact W.vret hx hb hr (fun t ht hW => ⟨⟨(), rfl, trivial, ⟨f_77, q10, f11, f2, f3, q4, q5, q6, q7, f8, q9, (m12_0 + 1), m13_0, m14_0, m15_0, z20_71, z21_72, z22_73, z23_74, z26_75, z27_76, ⟨by rw [ht]; exact hP, va_K.moved hW.alike hK, hD⟩, (by omega), hm13_0, hm14_0, hm15_0, hz21_72, hz22_73, hz26_75, by omega, by omega, (hsp.symm.trans hRR)⟩⟩, hS.F ht⟩) hS.2.2 dX9_readLine_221
    · have c_21 : u_20 = 0 := (nI_eq (a := u_20) (b := 0) (Nat.lt_of_le_of_lt hu_20 (Nat.le_of_ble_eq_true rfl)) (Nat.le_of_ble_eq_true rfl)).mp c_21
      have hsp := hsp.trans (if_pos c_21)
      exact W.vret hx hb hr (fun t ht hW => ⟨⟨(), rfl, trivial, ⟨f1, q10, f11, f2, f3, q4, q5, q6, q7, f8, q9, m12_0, m13_0, m14_0, m15_0, x20, x21, x22, x23, g_9, g_10, ⟨by rw [ht]; exact hP, va_K.moved hW.alike hK, hD⟩, hm12_0, hm13_0, hm14_0, hm15_0, hx21, hx22, hg_9, by omega, by omega, (hsp.symm.trans hRR)⟩⟩, hS.F ht⟩) hS.2.2 dX9_readLine_136
  have hsp := hJR_17
  refine lv_if_ne (tgt := 54) hx hb dX9_readLine_30 (by decide) (fun c_80 => ?_) (fun c_80 => ?_)
  · have c_80 : ¬ u_2 = 0 := fun z => c_80 ((nI_eq (a := u_2) (b := 0) (Nat.lt_of_le_of_lt hu_2 (Nat.le_of_ble_eq_true rfl)) (Nat.le_of_ble_eq_true rfl)).mpr z)
    have hsp := hsp.trans (if_neg c_80)
    refine lv_iload_n hx hb dX9_readLine_54 rfl (lv_at hl 3 rfl) ?_
    refine lv_if_eq (tgt := 71) hx hb dX9_readLine_55 (by decide) (fun c_81 => ?_) (fun c_81 => ?_)
    · have c_81 : u_2 = 0 := (nI_eq (a := u_2) (b := 0) (Nat.lt_of_le_of_lt hu_2 (Nat.le_of_ble_eq_true rfl)) (Nat.le_of_ble_eq_true rfl)).mp c_81
      exfalso
      omega
    · have c_81 : ¬ u_2 = 0 := fun z => c_81 ((nI_eq (a := u_2) (b := 0) (Nat.lt_of_le_of_lt hu_2 (Nat.le_of_ble_eq_true rfl)) (Nat.le_of_ble_eq_true rfl)).mpr z)
      refine lv_aload_n hx hb dX9_readLine_58 rfl (lv_at hl 4 rfl) ?_
      refine va_get (D := (dC, dI)) (ci := 9) (v := .ref (ad 12)) (C := RX9) (T := TX9) (N := 67) hx hb hts hiX9 hown hK hP 0 rfl rfl 12 (by decide) v_10 (fun _ h9 => h9) rfl dX9_readLine_59 ?_
      refine lv_aload_n hx hb dX9_readLine_62 rfl (lv_at hl 4 rfl) ?_
      refine va_get (D := (dC, dI)) (ci := 9) (v := .int 0) (C := RX9) (T := TX9) (N := 67) hx hb hts hiX9 hown hK hP 0 rfl rfl 28 (by decide) v_11 (fun _ h9 => h9) rfl dX9_readLine_63 ?_
      refine va_iald hx hb hK hP 12 11 rfl rfl (vp_in_nI (n := 0) (Nat.le_of_ble_eq_true rfl) (Nat.le_of_ble_eq_true rfl)) dX9_readLine_66 ?_
      refine lv_topi (fun y_82 ey_82 => ?_)
      have qy_82 := ey_82.trans b2_0
      clear ey_82
      obtain rfl : y_82 = nI m12_0 := qy_82
      refine lv_iconst (v := 3) hx hb dX9_readLine_67 (by decide) ?_
      refine lv_icmp_eq (tgt := 124) hx hb dX9_readLine_68 (by decide) (fun c_83 => ?_) (fun c_83 => ?_)
      · have c_83 : m12_0 = 3 := (nI_eq (a := m12_0) (b := 3) (Nat.lt_of_le_of_lt hm12_0 (Nat.le_of_ble_eq_true rfl)) (Nat.le_of_ble_eq_true rfl)).mp c_83
        have hsp := hsp.trans (if_pos c_83)
        refine lv_aload_n hx hb dX9_readLine_124 rfl (lv_at hl 4 rfl) ?_
        refine lv_iconst (v := 5) hx hb dX9_readLine_125 (by decide) ?_
        have hFc := pu_free hD hS hA
        refine va_callv (va_runV (As := [.int 5]) (rest := []) ⟨hx, hb, hml, hown, hts⟩ (c_EM_fails l dC dI _ ad ck x0 x16 x18 x19 x20 x21 x22 x23 x24 x25 x26 x27 0 x29 x30 x33 x45 x46 x52 x53 x61 x62 x63 x65 x66 f1 f2 f3 q4 q5 q6 q7 f8 q9 q10 f11 m12_0 m12_1 m13_0 m13_1 m14_0 m14_1 m15_0 m15_1 f17 q31 f32 f34 f35 f36 f37 q38 f39 f40 f41 m42_0 m42_1 f43 f44 f47 f48 f49 f50 f51 q54 q55 q56 f57 q58 f59 f60 f64 5 hx16 hx18 hx19 hx21 hx22 hx26 (Nat.le_of_ble_eq_true rfl) hx29 hx30 hx33 hx46 hx52 hx53 hx61 hx62 hx63 hx65 hm12_0 hm12_1 hm13_0 hm13_1 hm14_0 hm14_1 hm15_0 hm15_1 hm42_0 hm42_1 (Nat.le_of_ble_eq_true rfl) (by omega)) (cwV 1 hts g_EM_readLine_0_EM_fails rfl rfl rfl (by decide +kernel) ⟨Nat.le_of_ble_eq_true rfl, Nat.le_of_ble_eq_true rfl⟩) ⟨pu_bl, va_recv hK hP (ci := 9) (q0 := 0) rfl rfl, pu_in hP hK hD⟩ rfl rfl hl.1 rfl (lv_room (Nat.le_of_ble_eq_true rfl)) dX9_readLine_126 ⟨Nat.le_of_ble_eq_true rfl, Nat.le_of_ble_eq_true rfl⟩) hS (fun q _ h => hFc q h) hFc (fun u t H1 locs ht hvm hw hB hz1 hk1 hS => ?_)
        obtain ⟨z26_85, z27_86, ⟨hP1, -, hD1⟩, hz26_85, xr_84_0, xr_84_1⟩ := hB
        rw [ht] at hP1
        have hP := hP1
        have hD := pu_all hFc hD1
        clear hP1 hD1 hFc
        clear hk1 hz1 ht hvm
        generalize H1 = H at hP hS ⊢
        have hsp := hsp.trans (slet_eq xr_84_1)
        exact j_16 _ _ _ _ ⟨z26_85, z27_86, rfl, hz26_85, by omega, by omega, by omega, by omega, by omega, hsp.symm, hP, hD, hS, lv_sub hl [4, 3, 2, 1, 0] rfl⟩
      · have c_83 : ¬ m12_0 = 3 := fun z => c_83 ((nI_eq (a := m12_0) (b := 3) (Nat.lt_of_le_of_lt hm12_0 (Nat.le_of_ble_eq_true rfl)) (Nat.le_of_ble_eq_true rfl)).mpr z)
        have hsp := hsp.trans (if_neg c_83)
        refine lv_iload_n hx hb dX9_readLine_71 rfl (lv_at hl 2 rfl) ?_
        refine lv_if_eq (tgt := 89) hx hb dX9_readLine_72 (by decide) (fun c_87 => ?_) (fun c_87 => ?_)
        · have c_87 : u_4 = 0 := (nI_eq (a := u_4) (b := 0) (Nat.lt_of_le_of_lt hu_4 (Nat.le_of_ble_eq_true rfl)) (Nat.le_of_ble_eq_true rfl)).mp c_87
          have hsp := hsp.trans (if_pos c_87)
          refine lv_iload_n hx hb dX9_readLine_89 rfl (lv_at hl 1 rfl) ?_
          refine lv_if_eq (tgt := 105) hx hb dX9_readLine_90 (by decide) (fun c_88 => ?_) (fun c_88 => ?_)
          · have c_88 : u_6 = 0 := (nI_eq (a := u_6) (b := 0) (Nat.lt_of_le_of_lt hu_6 (Nat.le_of_ble_eq_true rfl)) (Nat.le_of_ble_eq_true rfl)).mp c_88
            have hsp := hsp.trans (if_pos c_88)
            refine lv_iload hx hb dX9_readLine_105 (lv_at hl 0 rfl) ?_
            refine lv_if_eq (tgt := 129) hx hb dX9_readLine_107 (by decide) (fun c_89 => ?_) (fun c_89 => ?_)
            · have c_89 : u_8 = 0 := (nI_eq (a := u_8) (b := 0) (Nat.lt_of_le_of_lt hu_8 (Nat.le_of_ble_eq_true rfl)) (Nat.le_of_ble_eq_true rfl)).mp c_89
              have hsp := hsp.trans (if_pos c_89)
              exact j_16 _ _ _ _ ⟨x26, x27, rfl, hx26, by omega, by omega, by omega, by omega, by omega, hsp.symm, hP, hD, hS, lv_sub hl [4, 3, 2, 1, 0] rfl⟩
            · have c_89 : ¬ u_8 = 0 := fun z => c_89 ((nI_eq (a := u_8) (b := 0) (Nat.lt_of_le_of_lt hu_8 (Nat.le_of_ble_eq_true rfl)) (Nat.le_of_ble_eq_true rfl)).mpr z)
              have hsp := hsp.trans (if_neg c_89)
              refine lv_aload_n hx hb dX9_readLine_110 rfl (lv_at hl 4 rfl) ?_
              refine va_get (D := (dC, dI)) (ci := 9) (v := .ref (ad 14)) (C := RX9) (T := TX9) (N := 67) hx hb hts hiX9 hown hK hP 0 rfl rfl 14 (by decide) v_16 (fun _ h9 => h9) rfl dX9_readLine_111 ?_
              refine lv_aload_n hx hb dX9_readLine_114 rfl (lv_at hl 4 rfl) ?_
              refine va_get (D := (dC, dI)) (ci := 9) (v := .int 0) (C := RX9) (T := TX9) (N := 67) hx hb hts hiX9 hown hK hP 0 rfl rfl 28 (by decide) v_11 (fun _ h9 => h9) rfl dX9_readLine_115 ?_
              refine va_iald hx hb hK hP 14 13 rfl rfl (vp_in_nI (n := 0) (Nat.le_of_ble_eq_true rfl) (Nat.le_of_ble_eq_true rfl)) dX9_readLine_118 ?_
              refine lv_topi (fun y_90 ey_90 => ?_)
              have qy_90 := ey_90.trans b2_0
              clear ey_90
              obtain rfl : y_90 = nI m14_0 := qy_90
              refine lv_bipush (v := 14) hx hb dX9_readLine_119 (by decide) ?_
              refine lv_icmp_ne (tgt := 129) hx hb dX9_readLine_121 (by decide) (fun c_91 => ?_) (fun c_91 => ?_)
              · have c_91 : ¬ m14_0 = 14 := fun z => c_91 ((nI_eq (a := m14_0) (b := 14) (Nat.lt_of_le_of_lt hm14_0 (Nat.le_of_ble_eq_true rfl)) (Nat.le_of_ble_eq_true rfl)).mpr z)
                have hsp := hsp.trans (if_neg c_91)
                exact j_16 _ _ _ _ ⟨x26, x27, rfl, hx26, by omega, by omega, by omega, by omega, by omega, hsp.symm, hP, hD, hS, lv_sub hl [4, 3, 2, 1, 0] rfl⟩
              · have c_91 : m14_0 = 14 := (nI_eq (a := m14_0) (b := 14) (Nat.lt_of_le_of_lt hm14_0 (Nat.le_of_ble_eq_true rfl)) (Nat.le_of_ble_eq_true rfl)).mp c_91
                have hsp := hsp.trans (if_pos c_91)
                refine lv_aload_n hx hb dX9_readLine_124 rfl (lv_at hl 4 rfl) ?_
                refine lv_iconst (v := 5) hx hb dX9_readLine_125 (by decide) ?_
                have hFc := pu_free hD hS hA
                refine va_callv (va_runV (As := [.int 5]) (rest := []) ⟨hx, hb, hml, hown, hts⟩ (c_EM_fails l dC dI _ ad ck x0 x16 x18 x19 x20 x21 x22 x23 x24 x25 x26 x27 0 x29 x30 x33 x45 x46 x52 x53 x61 x62 x63 x65 x66 f1 f2 f3 q4 q5 q6 q7 f8 q9 q10 f11 m12_0 m12_1 m13_0 m13_1 m14_0 m14_1 m15_0 m15_1 f17 q31 f32 f34 f35 f36 f37 q38 f39 f40 f41 m42_0 m42_1 f43 f44 f47 f48 f49 f50 f51 q54 q55 q56 f57 q58 f59 f60 f64 5 hx16 hx18 hx19 hx21 hx22 hx26 (Nat.le_of_ble_eq_true rfl) hx29 hx30 hx33 hx46 hx52 hx53 hx61 hx62 hx63 hx65 hm12_0 hm12_1 hm13_0 hm13_1 hm14_0 hm14_1 hm15_0 hm15_1 hm42_0 hm42_1 (Nat.le_of_ble_eq_true rfl) (by omega)) (cwV 1 hts g_EM_readLine_0_EM_fails rfl rfl rfl (by decide +kernel) ⟨Nat.le_of_ble_eq_true rfl, Nat.le_of_ble_eq_true rfl⟩) ⟨pu_bl, va_recv hK hP (ci := 9) (q0 := 0) rfl rfl, pu_in hP hK hD⟩ rfl rfl hl.1 rfl (lv_room (Nat.le_of_ble_eq_true rfl)) dX9_readLine_126 ⟨Nat.le_of_ble_eq_true rfl, Nat.le_of_ble_eq_true rfl⟩) hS (fun q _ h => hFc q h) hFc (fun u t H1 locs ht hvm hw hB hz1 hk1 hS => ?_)
                obtain ⟨z26_93, z27_94, ⟨hP1, -, hD1⟩, hz26_93, xr_92_0, xr_92_1⟩ := hB
                rw [ht] at hP1
                have hP := hP1
                have hD := pu_all hFc hD1
                clear hP1 hD1 hFc
                clear hk1 hz1 ht hvm
                generalize H1 = H at hP hS ⊢
                have hsp := hsp.trans (slet_eq xr_92_1)
                exact j_16 _ _ _ _ ⟨z26_93, z27_94, rfl, hz26_93, by omega, by omega, by omega, by omega, by omega, hsp.symm, hP, hD, hS, lv_sub hl [4, 3, 2, 1, 0] rfl⟩
          · have c_88 : ¬ u_6 = 0 := fun z => c_88 ((nI_eq (a := u_6) (b := 0) (Nat.lt_of_le_of_lt hu_6 (Nat.le_of_ble_eq_true rfl)) (Nat.le_of_ble_eq_true rfl)).mpr z)
            have hsp := hsp.trans (if_neg c_88)
            refine lv_aload_n hx hb dX9_readLine_93 rfl (lv_at hl 4 rfl) ?_
            refine va_get (D := (dC, dI)) (ci := 9) (v := .ref (ad 15)) (C := RX9) (T := TX9) (N := 67) hx hb hts hiX9 hown hK hP 0 rfl rfl 15 (by decide) v_17 (fun _ h9 => h9) rfl dX9_readLine_94 ?_
            refine lv_aload_n hx hb dX9_readLine_97 rfl (lv_at hl 4 rfl) ?_
            refine va_get (D := (dC, dI)) (ci := 9) (v := .int 0) (C := RX9) (T := TX9) (N := 67) hx hb hts hiX9 hown hK hP 0 rfl rfl 28 (by decide) v_11 (fun _ h9 => h9) rfl dX9_readLine_98 ?_
            refine va_iald hx hb hK hP 15 14 rfl rfl (vp_in_nI (n := 0) (Nat.le_of_ble_eq_true rfl) (Nat.le_of_ble_eq_true rfl)) dX9_readLine_101 ?_
            refine lv_topi (fun y_95 ey_95 => ?_)
            have qy_95 := ey_95.trans b2m_0
            clear ey_95
            rcases mI_get m15_0 with ⟨zy_95, wy_95⟩ | ⟨vy_95, zy_95, wy_95⟩
            · obtain rfl : y_95 = -1 := qy_95.trans wy_95
              have hsp := hsp.trans (if_pos zy_95)
              refine lv_if_ge (tgt := 124) hx hb dX9_readLine_102 (by decide) (fun z => absurd z (by decide)) (fun _ => ?_)
              refine lv_iload hx hb dX9_readLine_105 (lv_at hl 0 rfl) ?_
              refine lv_if_eq (tgt := 129) hx hb dX9_readLine_107 (by decide) (fun c_96 => ?_) (fun c_96 => ?_)
              · have c_96 : u_8 = 0 := (nI_eq (a := u_8) (b := 0) (Nat.lt_of_le_of_lt hu_8 (Nat.le_of_ble_eq_true rfl)) (Nat.le_of_ble_eq_true rfl)).mp c_96
                have hsp := hsp.trans (if_pos c_96)
                exact j_16 _ _ _ _ ⟨x26, x27, rfl, hx26, by omega, by omega, by omega, by omega, by omega, hsp.symm, hP, hD, hS, lv_sub hl [4, 3, 2, 1, 0] rfl⟩
              · have c_96 : ¬ u_8 = 0 := fun z => c_96 ((nI_eq (a := u_8) (b := 0) (Nat.lt_of_le_of_lt hu_8 (Nat.le_of_ble_eq_true rfl)) (Nat.le_of_ble_eq_true rfl)).mpr z)
                have hsp := hsp.trans (if_neg c_96)
                refine lv_aload_n hx hb dX9_readLine_110 rfl (lv_at hl 4 rfl) ?_
                refine va_get (D := (dC, dI)) (ci := 9) (v := .ref (ad 14)) (C := RX9) (T := TX9) (N := 67) hx hb hts hiX9 hown hK hP 0 rfl rfl 14 (by decide) v_16 (fun _ h9 => h9) rfl dX9_readLine_111 ?_
                refine lv_aload_n hx hb dX9_readLine_114 rfl (lv_at hl 4 rfl) ?_
                refine va_get (D := (dC, dI)) (ci := 9) (v := .int 0) (C := RX9) (T := TX9) (N := 67) hx hb hts hiX9 hown hK hP 0 rfl rfl 28 (by decide) v_11 (fun _ h9 => h9) rfl dX9_readLine_115 ?_
                refine va_iald hx hb hK hP 14 13 rfl rfl (vp_in_nI (n := 0) (Nat.le_of_ble_eq_true rfl) (Nat.le_of_ble_eq_true rfl)) dX9_readLine_118 ?_
                refine lv_topi (fun y_97 ey_97 => ?_)
                have qy_97 := ey_97.trans b2_0
                clear ey_97
                obtain rfl : y_97 = nI m14_0 := qy_97
                refine lv_bipush (v := 14) hx hb dX9_readLine_119 (by decide) ?_
                refine lv_icmp_ne (tgt := 129) hx hb dX9_readLine_121 (by decide) (fun c_98 => ?_) (fun c_98 => ?_)
                · have c_98 : ¬ m14_0 = 14 := fun z => c_98 ((nI_eq (a := m14_0) (b := 14) (Nat.lt_of_le_of_lt hm14_0 (Nat.le_of_ble_eq_true rfl)) (Nat.le_of_ble_eq_true rfl)).mpr z)
                  have hsp := hsp.trans (if_neg c_98)
                  exact j_16 _ _ _ _ ⟨x26, x27, rfl, hx26, by omega, by omega, by omega, by omega, by omega, hsp.symm, hP, hD, hS, lv_sub hl [4, 3, 2, 1, 0] rfl⟩
                · have c_98 : m14_0 = 14 := (nI_eq (a := m14_0) (b := 14) (Nat.lt_of_le_of_lt hm14_0 (Nat.le_of_ble_eq_true rfl)) (Nat.le_of_ble_eq_true rfl)).mp c_98
                  have hsp := hsp.trans (if_pos c_98)
                  refine lv_aload_n hx hb dX9_readLine_124 rfl (lv_at hl 4 rfl) ?_
                  refine lv_iconst (v := 5) hx hb dX9_readLine_125 (by decide) ?_
                  have hFc := pu_free hD hS hA
                  refine va_callv (va_runV (As := [.int 5]) (rest := []) ⟨hx, hb, hml, hown, hts⟩ (c_EM_fails l dC dI _ ad ck x0 x16 x18 x19 x20 x21 x22 x23 x24 x25 x26 x27 0 x29 x30 x33 x45 x46 x52 x53 x61 x62 x63 x65 x66 f1 f2 f3 q4 q5 q6 q7 f8 q9 q10 f11 m12_0 m12_1 m13_0 m13_1 m14_0 m14_1 m15_0 m15_1 f17 q31 f32 f34 f35 f36 f37 q38 f39 f40 f41 m42_0 m42_1 f43 f44 f47 f48 f49 f50 f51 q54 q55 q56 f57 q58 f59 f60 f64 5 hx16 hx18 hx19 hx21 hx22 hx26 (Nat.le_of_ble_eq_true rfl) hx29 hx30 hx33 hx46 hx52 hx53 hx61 hx62 hx63 hx65 hm12_0 hm12_1 hm13_0 hm13_1 hm14_0 hm14_1 hm15_0 hm15_1 hm42_0 hm42_1 (Nat.le_of_ble_eq_true rfl) (by omega)) (cwV 1 hts g_EM_readLine_0_EM_fails rfl rfl rfl (by decide +kernel) ⟨Nat.le_of_ble_eq_true rfl, Nat.le_of_ble_eq_true rfl⟩) ⟨pu_bl, va_recv hK hP (ci := 9) (q0 := 0) rfl rfl, pu_in hP hK hD⟩ rfl rfl hl.1 rfl (lv_room (Nat.le_of_ble_eq_true rfl)) dX9_readLine_126 ⟨Nat.le_of_ble_eq_true rfl, Nat.le_of_ble_eq_true rfl⟩) hS (fun q _ h => hFc q h) hFc (fun u t H1 locs ht hvm hw hB hz1 hk1 hS => ?_)
                  obtain ⟨z26_100, z27_101, ⟨hP1, -, hD1⟩, hz26_100, xr_99_0, xr_99_1⟩ := hB
                  rw [ht] at hP1
                  have hP := hP1
                  have hD := pu_all hFc hD1
                  clear hP1 hD1 hFc
                  clear hk1 hz1 ht hvm
                  generalize H1 = H at hP hS ⊢
                  have hsp := hsp.trans (slet_eq xr_99_1)
                  exact j_16 _ _ _ _ ⟨z26_100, z27_101, rfl, hz26_100, by omega, by omega, by omega, by omega, by omega, hsp.symm, hP, hD, hS, lv_sub hl [4, 3, 2, 1, 0] rfl⟩
            · obtain rfl : y_95 = nI vy_95 := qy_95.trans wy_95
              have hsp := hsp.trans (if_neg (by omega))
              have hsp := hsp.trans (slet_eq (by omega : vy_95 = m15_0 - 1))
              refine lv_if_ge (tgt := 124) hx hb dX9_readLine_102 (by decide) (fun c_102 => ?_) (fun c_102 => ?_)
              · have c_102 : 0 ≤ vy_95 := (nI_leI (a := 0) (b := vy_95) (Nat.le_of_ble_eq_true rfl) (by omega)).mp c_102
                refine lv_aload_n hx hb dX9_readLine_124 rfl (lv_at hl 4 rfl) ?_
                refine lv_iconst (v := 5) hx hb dX9_readLine_125 (by decide) ?_
                have hFc := pu_free hD hS hA
                refine va_callv (va_runV (As := [.int 5]) (rest := []) ⟨hx, hb, hml, hown, hts⟩ (c_EM_fails l dC dI _ ad ck x0 x16 x18 x19 x20 x21 x22 x23 x24 x25 x26 x27 0 x29 x30 x33 x45 x46 x52 x53 x61 x62 x63 x65 x66 f1 f2 f3 q4 q5 q6 q7 f8 q9 q10 f11 m12_0 m12_1 m13_0 m13_1 m14_0 m14_1 m15_0 m15_1 f17 q31 f32 f34 f35 f36 f37 q38 f39 f40 f41 m42_0 m42_1 f43 f44 f47 f48 f49 f50 f51 q54 q55 q56 f57 q58 f59 f60 f64 5 hx16 hx18 hx19 hx21 hx22 hx26 (Nat.le_of_ble_eq_true rfl) hx29 hx30 hx33 hx46 hx52 hx53 hx61 hx62 hx63 hx65 hm12_0 hm12_1 hm13_0 hm13_1 hm14_0 hm14_1 hm15_0 hm15_1 hm42_0 hm42_1 (Nat.le_of_ble_eq_true rfl) (by omega)) (cwV 1 hts g_EM_readLine_0_EM_fails rfl rfl rfl (by decide +kernel) ⟨Nat.le_of_ble_eq_true rfl, Nat.le_of_ble_eq_true rfl⟩) ⟨pu_bl, va_recv hK hP (ci := 9) (q0 := 0) rfl rfl, pu_in hP hK hD⟩ rfl rfl hl.1 rfl (lv_room (Nat.le_of_ble_eq_true rfl)) dX9_readLine_126 ⟨Nat.le_of_ble_eq_true rfl, Nat.le_of_ble_eq_true rfl⟩) hS (fun q _ h => hFc q h) hFc (fun u t H1 locs ht hvm hw hB hz1 hk1 hS => ?_)
                obtain ⟨z26_104, z27_105, ⟨hP1, -, hD1⟩, hz26_104, xr_103_0, xr_103_1⟩ := hB
                rw [ht] at hP1
                have hP := hP1
                have hD := pu_all hFc hD1
                clear hP1 hD1 hFc
                clear hk1 hz1 ht hvm
                generalize H1 = H at hP hS ⊢
                have hsp := hsp.trans (slet_eq xr_103_1)
                exact j_16 _ _ _ _ ⟨z26_104, z27_105, rfl, hz26_104, by omega, by omega, by omega, by omega, by omega, hsp.symm, hP, hD, hS, lv_sub hl [4, 3, 2, 1, 0] rfl⟩
              · have c_102 : ¬ 0 ≤ vy_95 := fun z => c_102 ((nI_leI (a := 0) (b := vy_95) (Nat.le_of_ble_eq_true rfl) (by omega)).mpr z)
                exfalso
                omega
        · have c_87 : ¬ u_4 = 0 := fun z => c_87 ((nI_eq (a := u_4) (b := 0) (Nat.lt_of_le_of_lt hu_4 (Nat.le_of_ble_eq_true rfl)) (Nat.le_of_ble_eq_true rfl)).mpr z)
          have hsp := hsp.trans (if_neg c_87)
          refine lv_aload_n hx hb dX9_readLine_75 rfl (lv_at hl 4 rfl) ?_
          refine va_get (D := (dC, dI)) (ci := 9) (v := .ref (ad 13)) (C := RX9) (T := TX9) (N := 67) hx hb hts hiX9 hown hK hP 0 rfl rfl 13 (by decide) v_18 (fun _ h9 => h9) rfl dX9_readLine_76 ?_
          refine lv_aload_n hx hb dX9_readLine_79 rfl (lv_at hl 4 rfl) ?_
          refine va_get (D := (dC, dI)) (ci := 9) (v := .int 0) (C := RX9) (T := TX9) (N := 67) hx hb hts hiX9 hown hK hP 0 rfl rfl 28 (by decide) v_11 (fun _ h9 => h9) rfl dX9_readLine_80 ?_
          refine va_iald hx hb hK hP 13 12 rfl rfl (vp_in_nI (n := 0) (Nat.le_of_ble_eq_true rfl) (Nat.le_of_ble_eq_true rfl)) dX9_readLine_83 ?_
          refine lv_topi (fun y_106 ey_106 => ?_)
          have qy_106 := ey_106.trans b2_0
          clear ey_106
          obtain rfl : y_106 = nI m13_0 := qy_106
          refine lv_bipush (v := 8) hx hb dX9_readLine_84 (by decide) ?_
          refine lv_icmp_eq (tgt := 124) hx hb dX9_readLine_86 (by decide) (fun c_107 => ?_) (fun c_107 => ?_)
          · have c_107 : m13_0 = 8 := (nI_eq (a := m13_0) (b := 8) (Nat.lt_of_le_of_lt hm13_0 (Nat.le_of_ble_eq_true rfl)) (Nat.le_of_ble_eq_true rfl)).mp c_107
            have hsp := hsp.trans (if_pos c_107)
            refine lv_aload_n hx hb dX9_readLine_124 rfl (lv_at hl 4 rfl) ?_
            refine lv_iconst (v := 5) hx hb dX9_readLine_125 (by decide) ?_
            have hFc := pu_free hD hS hA
            refine va_callv (va_runV (As := [.int 5]) (rest := []) ⟨hx, hb, hml, hown, hts⟩ (c_EM_fails l dC dI _ ad ck x0 x16 x18 x19 x20 x21 x22 x23 x24 x25 x26 x27 0 x29 x30 x33 x45 x46 x52 x53 x61 x62 x63 x65 x66 f1 f2 f3 q4 q5 q6 q7 f8 q9 q10 f11 m12_0 m12_1 m13_0 m13_1 m14_0 m14_1 m15_0 m15_1 f17 q31 f32 f34 f35 f36 f37 q38 f39 f40 f41 m42_0 m42_1 f43 f44 f47 f48 f49 f50 f51 q54 q55 q56 f57 q58 f59 f60 f64 5 hx16 hx18 hx19 hx21 hx22 hx26 (Nat.le_of_ble_eq_true rfl) hx29 hx30 hx33 hx46 hx52 hx53 hx61 hx62 hx63 hx65 hm12_0 hm12_1 hm13_0 hm13_1 hm14_0 hm14_1 hm15_0 hm15_1 hm42_0 hm42_1 (Nat.le_of_ble_eq_true rfl) (by omega)) (cwV 1 hts g_EM_readLine_0_EM_fails rfl rfl rfl (by decide +kernel) ⟨Nat.le_of_ble_eq_true rfl, Nat.le_of_ble_eq_true rfl⟩) ⟨pu_bl, va_recv hK hP (ci := 9) (q0 := 0) rfl rfl, pu_in hP hK hD⟩ rfl rfl hl.1 rfl (lv_room (Nat.le_of_ble_eq_true rfl)) dX9_readLine_126 ⟨Nat.le_of_ble_eq_true rfl, Nat.le_of_ble_eq_true rfl⟩) hS (fun q _ h => hFc q h) hFc (fun u t H1 locs ht hvm hw hB hz1 hk1 hS => ?_)
            obtain ⟨z26_109, z27_110, ⟨hP1, -, hD1⟩, hz26_109, xr_108_0, xr_108_1⟩ := hB
            rw [ht] at hP1
            have hP := hP1
            have hD := pu_all hFc hD1
            clear hP1 hD1 hFc
            clear hk1 hz1 ht hvm
            generalize H1 = H at hP hS ⊢
            have hsp := hsp.trans (slet_eq xr_108_1)
            exact j_16 _ _ _ _ ⟨z26_109, z27_110, rfl, hz26_109, by omega, by omega, by omega, by omega, by omega, hsp.symm, hP, hD, hS, lv_sub hl [4, 3, 2, 1, 0] rfl⟩
          · have c_107 : ¬ m13_0 = 8 := fun z => c_107 ((nI_eq (a := m13_0) (b := 8) (Nat.lt_of_le_of_lt hm13_0 (Nat.le_of_ble_eq_true rfl)) (Nat.le_of_ble_eq_true rfl)).mpr z)
            have hsp := hsp.trans (if_neg c_107)
            refine lv_iload_n hx hb dX9_readLine_89 rfl (lv_at hl 1 rfl) ?_
            refine lv_if_eq (tgt := 105) hx hb dX9_readLine_90 (by decide) (fun c_111 => ?_) (fun c_111 => ?_)
            · have c_111 : u_6 = 0 := (nI_eq (a := u_6) (b := 0) (Nat.lt_of_le_of_lt hu_6 (Nat.le_of_ble_eq_true rfl)) (Nat.le_of_ble_eq_true rfl)).mp c_111
              have hsp := hsp.trans (if_pos c_111)
              refine lv_iload hx hb dX9_readLine_105 (lv_at hl 0 rfl) ?_
              refine lv_if_eq (tgt := 129) hx hb dX9_readLine_107 (by decide) (fun c_112 => ?_) (fun c_112 => ?_)
              · have c_112 : u_8 = 0 := (nI_eq (a := u_8) (b := 0) (Nat.lt_of_le_of_lt hu_8 (Nat.le_of_ble_eq_true rfl)) (Nat.le_of_ble_eq_true rfl)).mp c_112
                have hsp := hsp.trans (if_pos c_112)
                exact j_16 _ _ _ _ ⟨x26, x27, rfl, hx26, by omega, by omega, by omega, by omega, by omega, hsp.symm, hP, hD, hS, lv_sub hl [4, 3, 2, 1, 0] rfl⟩
              · have c_112 : ¬ u_8 = 0 := fun z => c_112 ((nI_eq (a := u_8) (b := 0) (Nat.lt_of_le_of_lt hu_8 (Nat.le_of_ble_eq_true rfl)) (Nat.le_of_ble_eq_true rfl)).mpr z)
                have hsp := hsp.trans (if_neg c_112)
                refine lv_aload_n hx hb dX9_readLine_110 rfl (lv_at hl 4 rfl) ?_
                refine va_get (D := (dC, dI)) (ci := 9) (v := .ref (ad 14)) (C := RX9) (T := TX9) (N := 67) hx hb hts hiX9 hown hK hP 0 rfl rfl 14 (by decide) v_16 (fun _ h9 => h9) rfl dX9_readLine_111 ?_
                refine lv_aload_n hx hb dX9_readLine_114 rfl (lv_at hl 4 rfl) ?_
                refine va_get (D := (dC, dI)) (ci := 9) (v := .int 0) (C := RX9) (T := TX9) (N := 67) hx hb hts hiX9 hown hK hP 0 rfl rfl 28 (by decide) v_11 (fun _ h9 => h9) rfl dX9_readLine_115 ?_
                refine va_iald hx hb hK hP 14 13 rfl rfl (vp_in_nI (n := 0) (Nat.le_of_ble_eq_true rfl) (Nat.le_of_ble_eq_true rfl)) dX9_readLine_118 ?_
                refine lv_topi (fun y_113 ey_113 => ?_)
                have qy_113 := ey_113.trans b2_0
                clear ey_113
                obtain rfl : y_113 = nI m14_0 := qy_113
                refine lv_bipush (v := 14) hx hb dX9_readLine_119 (by decide) ?_
                refine lv_icmp_ne (tgt := 129) hx hb dX9_readLine_121 (by decide) (fun c_114 => ?_) (fun c_114 => ?_)
                · have c_114 : ¬ m14_0 = 14 := fun z => c_114 ((nI_eq (a := m14_0) (b := 14) (Nat.lt_of_le_of_lt hm14_0 (Nat.le_of_ble_eq_true rfl)) (Nat.le_of_ble_eq_true rfl)).mpr z)
                  have hsp := hsp.trans (if_neg c_114)
                  exact j_16 _ _ _ _ ⟨x26, x27, rfl, hx26, by omega, by omega, by omega, by omega, by omega, hsp.symm, hP, hD, hS, lv_sub hl [4, 3, 2, 1, 0] rfl⟩
                · have c_114 : m14_0 = 14 := (nI_eq (a := m14_0) (b := 14) (Nat.lt_of_le_of_lt hm14_0 (Nat.le_of_ble_eq_true rfl)) (Nat.le_of_ble_eq_true rfl)).mp c_114
                  have hsp := hsp.trans (if_pos c_114)
                  refine lv_aload_n hx hb dX9_readLine_124 rfl (lv_at hl 4 rfl) ?_
                  refine lv_iconst (v := 5) hx hb dX9_readLine_125 (by decide) ?_
                  have hFc := pu_free hD hS hA
                  refine va_callv (va_runV (As := [.int 5]) (rest := []) ⟨hx, hb, hml, hown, hts⟩ (c_EM_fails l dC dI _ ad ck x0 x16 x18 x19 x20 x21 x22 x23 x24 x25 x26 x27 0 x29 x30 x33 x45 x46 x52 x53 x61 x62 x63 x65 x66 f1 f2 f3 q4 q5 q6 q7 f8 q9 q10 f11 m12_0 m12_1 m13_0 m13_1 m14_0 m14_1 m15_0 m15_1 f17 q31 f32 f34 f35 f36 f37 q38 f39 f40 f41 m42_0 m42_1 f43 f44 f47 f48 f49 f50 f51 q54 q55 q56 f57 q58 f59 f60 f64 5 hx16 hx18 hx19 hx21 hx22 hx26 (Nat.le_of_ble_eq_true rfl) hx29 hx30 hx33 hx46 hx52 hx53 hx61 hx62 hx63 hx65 hm12_0 hm12_1 hm13_0 hm13_1 hm14_0 hm14_1 hm15_0 hm15_1 hm42_0 hm42_1 (Nat.le_of_ble_eq_true rfl) (by omega)) (cwV 1 hts g_EM_readLine_0_EM_fails rfl rfl rfl (by decide +kernel) ⟨Nat.le_of_ble_eq_true rfl, Nat.le_of_ble_eq_true rfl⟩) ⟨pu_bl, va_recv hK hP (ci := 9) (q0 := 0) rfl rfl, pu_in hP hK hD⟩ rfl rfl hl.1 rfl (lv_room (Nat.le_of_ble_eq_true rfl)) dX9_readLine_126 ⟨Nat.le_of_ble_eq_true rfl, Nat.le_of_ble_eq_true rfl⟩) hS (fun q _ h => hFc q h) hFc (fun u t H1 locs ht hvm hw hB hz1 hk1 hS => ?_)
                  obtain ⟨z26_116, z27_117, ⟨hP1, -, hD1⟩, hz26_116, xr_115_0, xr_115_1⟩ := hB
                  rw [ht] at hP1
                  have hP := hP1
                  have hD := pu_all hFc hD1
                  clear hP1 hD1 hFc
                  clear hk1 hz1 ht hvm
                  generalize H1 = H at hP hS ⊢
                  have hsp := hsp.trans (slet_eq xr_115_1)
                  exact j_16 _ _ _ _ ⟨z26_116, z27_117, rfl, hz26_116, by omega, by omega, by omega, by omega, by omega, hsp.symm, hP, hD, hS, lv_sub hl [4, 3, 2, 1, 0] rfl⟩
            · have c_111 : ¬ u_6 = 0 := fun z => c_111 ((nI_eq (a := u_6) (b := 0) (Nat.lt_of_le_of_lt hu_6 (Nat.le_of_ble_eq_true rfl)) (Nat.le_of_ble_eq_true rfl)).mpr z)
              have hsp := hsp.trans (if_neg c_111)
              refine lv_aload_n hx hb dX9_readLine_93 rfl (lv_at hl 4 rfl) ?_
              refine va_get (D := (dC, dI)) (ci := 9) (v := .ref (ad 15)) (C := RX9) (T := TX9) (N := 67) hx hb hts hiX9 hown hK hP 0 rfl rfl 15 (by decide) v_17 (fun _ h9 => h9) rfl dX9_readLine_94 ?_
              refine lv_aload_n hx hb dX9_readLine_97 rfl (lv_at hl 4 rfl) ?_
              refine va_get (D := (dC, dI)) (ci := 9) (v := .int 0) (C := RX9) (T := TX9) (N := 67) hx hb hts hiX9 hown hK hP 0 rfl rfl 28 (by decide) v_11 (fun _ h9 => h9) rfl dX9_readLine_98 ?_
              refine va_iald hx hb hK hP 15 14 rfl rfl (vp_in_nI (n := 0) (Nat.le_of_ble_eq_true rfl) (Nat.le_of_ble_eq_true rfl)) dX9_readLine_101 ?_
              refine lv_topi (fun y_118 ey_118 => ?_)
              have qy_118 := ey_118.trans b2m_0
              clear ey_118
              rcases mI_get m15_0 with ⟨zy_118, wy_118⟩ | ⟨vy_118, zy_118, wy_118⟩
              · obtain rfl : y_118 = -1 := qy_118.trans wy_118
                have hsp := hsp.trans (if_pos zy_118)
                refine lv_if_ge (tgt := 124) hx hb dX9_readLine_102 (by decide) (fun z => absurd z (by decide)) (fun _ => ?_)
                refine lv_iload hx hb dX9_readLine_105 (lv_at hl 0 rfl) ?_
                refine lv_if_eq (tgt := 129) hx hb dX9_readLine_107 (by decide) (fun c_119 => ?_) (fun c_119 => ?_)
                · have c_119 : u_8 = 0 := (nI_eq (a := u_8) (b := 0) (Nat.lt_of_le_of_lt hu_8 (Nat.le_of_ble_eq_true rfl)) (Nat.le_of_ble_eq_true rfl)).mp c_119
                  have hsp := hsp.trans (if_pos c_119)
                  exact j_16 _ _ _ _ ⟨x26, x27, rfl, hx26, by omega, by omega, by omega, by omega, by omega, hsp.symm, hP, hD, hS, lv_sub hl [4, 3, 2, 1, 0] rfl⟩
                · have c_119 : ¬ u_8 = 0 := fun z => c_119 ((nI_eq (a := u_8) (b := 0) (Nat.lt_of_le_of_lt hu_8 (Nat.le_of_ble_eq_true rfl)) (Nat.le_of_ble_eq_true rfl)).mpr z)
                  have hsp := hsp.trans (if_neg c_119)
                  refine lv_aload_n hx hb dX9_readLine_110 rfl (lv_at hl 4 rfl) ?_
                  refine va_get (D := (dC, dI)) (ci := 9) (v := .ref (ad 14)) (C := RX9) (T := TX9) (N := 67) hx hb hts hiX9 hown hK hP 0 rfl rfl 14 (by decide) v_16 (fun _ h9 => h9) rfl dX9_readLine_111 ?_
                  refine lv_aload_n hx hb dX9_readLine_114 rfl (lv_at hl 4 rfl) ?_
                  refine va_get (D := (dC, dI)) (ci := 9) (v := .int 0) (C := RX9) (T := TX9) (N := 67) hx hb hts hiX9 hown hK hP 0 rfl rfl 28 (by decide) v_11 (fun _ h9 => h9) rfl dX9_readLine_115 ?_
                  refine va_iald hx hb hK hP 14 13 rfl rfl (vp_in_nI (n := 0) (Nat.le_of_ble_eq_true rfl) (Nat.le_of_ble_eq_true rfl)) dX9_readLine_118 ?_
                  refine lv_topi (fun y_120 ey_120 => ?_)
                  have qy_120 := ey_120.trans b2_0
                  clear ey_120
                  obtain rfl : y_120 = nI m14_0 := qy_120
                  refine lv_bipush (v := 14) hx hb dX9_readLine_119 (by decide) ?_
                  refine lv_icmp_ne (tgt := 129) hx hb dX9_readLine_121 (by decide) (fun c_121 => ?_) (fun c_121 => ?_)
                  · have c_121 : ¬ m14_0 = 14 := fun z => c_121 ((nI_eq (a := m14_0) (b := 14) (Nat.lt_of_le_of_lt hm14_0 (Nat.le_of_ble_eq_true rfl)) (Nat.le_of_ble_eq_true rfl)).mpr z)
                    have hsp := hsp.trans (if_neg c_121)
                    exact j_16 _ _ _ _ ⟨x26, x27, rfl, hx26, by omega, by omega, by omega, by omega, by omega, hsp.symm, hP, hD, hS, lv_sub hl [4, 3, 2, 1, 0] rfl⟩
                  · have c_121 : m14_0 = 14 := (nI_eq (a := m14_0) (b := 14) (Nat.lt_of_le_of_lt hm14_0 (Nat.le_of_ble_eq_true rfl)) (Nat.le_of_ble_eq_true rfl)).mp c_121
                    have hsp := hsp.trans (if_pos c_121)
                    refine lv_aload_n hx hb dX9_readLine_124 rfl (lv_at hl 4 rfl) ?_
                    refine lv_iconst (v := 5) hx hb dX9_readLine_125 (by decide) ?_
                    have hFc := pu_free hD hS hA
                    refine va_callv (va_runV (As := [.int 5]) (rest := []) ⟨hx, hb, hml, hown, hts⟩ (c_EM_fails l dC dI _ ad ck x0 x16 x18 x19 x20 x21 x22 x23 x24 x25 x26 x27 0 x29 x30 x33 x45 x46 x52 x53 x61 x62 x63 x65 x66 f1 f2 f3 q4 q5 q6 q7 f8 q9 q10 f11 m12_0 m12_1 m13_0 m13_1 m14_0 m14_1 m15_0 m15_1 f17 q31 f32 f34 f35 f36 f37 q38 f39 f40 f41 m42_0 m42_1 f43 f44 f47 f48 f49 f50 f51 q54 q55 q56 f57 q58 f59 f60 f64 5 hx16 hx18 hx19 hx21 hx22 hx26 (Nat.le_of_ble_eq_true rfl) hx29 hx30 hx33 hx46 hx52 hx53 hx61 hx62 hx63 hx65 hm12_0 hm12_1 hm13_0 hm13_1 hm14_0 hm14_1 hm15_0 hm15_1 hm42_0 hm42_1 (Nat.le_of_ble_eq_true rfl) (by omega)) (cwV 1 hts g_EM_readLine_0_EM_fails rfl rfl rfl (by decide +kernel) ⟨Nat.le_of_ble_eq_true rfl, Nat.le_of_ble_eq_true rfl⟩) ⟨pu_bl, va_recv hK hP (ci := 9) (q0 := 0) rfl rfl, pu_in hP hK hD⟩ rfl rfl hl.1 rfl (lv_room (Nat.le_of_ble_eq_true rfl)) dX9_readLine_126 ⟨Nat.le_of_ble_eq_true rfl, Nat.le_of_ble_eq_true rfl⟩) hS (fun q _ h => hFc q h) hFc (fun u t H1 locs ht hvm hw hB hz1 hk1 hS => ?_)
                    obtain ⟨z26_123, z27_124, ⟨hP1, -, hD1⟩, hz26_123, xr_122_0, xr_122_1⟩ := hB
                    rw [ht] at hP1
                    have hP := hP1
                    have hD := pu_all hFc hD1
                    clear hP1 hD1 hFc
                    clear hk1 hz1 ht hvm
                    generalize H1 = H at hP hS ⊢
                    have hsp := hsp.trans (slet_eq xr_122_1)
                    exact j_16 _ _ _ _ ⟨z26_123, z27_124, rfl, hz26_123, by omega, by omega, by omega, by omega, by omega, hsp.symm, hP, hD, hS, lv_sub hl [4, 3, 2, 1, 0] rfl⟩
              · obtain rfl : y_118 = nI vy_118 := qy_118.trans wy_118
                have hsp := hsp.trans (if_neg (by omega))
                have hsp := hsp.trans (slet_eq (by omega : vy_118 = m15_0 - 1))
                refine lv_if_ge (tgt := 124) hx hb dX9_readLine_102 (by decide) (fun c_125 => ?_) (fun c_125 => ?_)
                · have c_125 : 0 ≤ vy_118 := (nI_leI (a := 0) (b := vy_118) (Nat.le_of_ble_eq_true rfl) (by omega)).mp c_125
                  refine lv_aload_n hx hb dX9_readLine_124 rfl (lv_at hl 4 rfl) ?_
                  refine lv_iconst (v := 5) hx hb dX9_readLine_125 (by decide) ?_
                  have hFc := pu_free hD hS hA
                  refine va_callv (va_runV (As := [.int 5]) (rest := []) ⟨hx, hb, hml, hown, hts⟩ (c_EM_fails l dC dI _ ad ck x0 x16 x18 x19 x20 x21 x22 x23 x24 x25 x26 x27 0 x29 x30 x33 x45 x46 x52 x53 x61 x62 x63 x65 x66 f1 f2 f3 q4 q5 q6 q7 f8 q9 q10 f11 m12_0 m12_1 m13_0 m13_1 m14_0 m14_1 m15_0 m15_1 f17 q31 f32 f34 f35 f36 f37 q38 f39 f40 f41 m42_0 m42_1 f43 f44 f47 f48 f49 f50 f51 q54 q55 q56 f57 q58 f59 f60 f64 5 hx16 hx18 hx19 hx21 hx22 hx26 (Nat.le_of_ble_eq_true rfl) hx29 hx30 hx33 hx46 hx52 hx53 hx61 hx62 hx63 hx65 hm12_0 hm12_1 hm13_0 hm13_1 hm14_0 hm14_1 hm15_0 hm15_1 hm42_0 hm42_1 (Nat.le_of_ble_eq_true rfl) (by omega)) (cwV 1 hts g_EM_readLine_0_EM_fails rfl rfl rfl (by decide +kernel) ⟨Nat.le_of_ble_eq_true rfl, Nat.le_of_ble_eq_true rfl⟩) ⟨pu_bl, va_recv hK hP (ci := 9) (q0 := 0) rfl rfl, pu_in hP hK hD⟩ rfl rfl hl.1 rfl (lv_room (Nat.le_of_ble_eq_true rfl)) dX9_readLine_126 ⟨Nat.le_of_ble_eq_true rfl, Nat.le_of_ble_eq_true rfl⟩) hS (fun q _ h => hFc q h) hFc (fun u t H1 locs ht hvm hw hB hz1 hk1 hS => ?_)
                  obtain ⟨z26_127, z27_128, ⟨hP1, -, hD1⟩, hz26_127, xr_126_0, xr_126_1⟩ := hB
                  rw [ht] at hP1
                  have hP := hP1
                  have hD := pu_all hFc hD1
                  clear hP1 hD1 hFc
                  clear hk1 hz1 ht hvm
                  generalize H1 = H at hP hS ⊢
                  have hsp := hsp.trans (slet_eq xr_126_1)
                  exact j_16 _ _ _ _ ⟨z26_127, z27_128, rfl, hz26_127, by omega, by omega, by omega, by omega, by omega, hsp.symm, hP, hD, hS, lv_sub hl [4, 3, 2, 1, 0] rfl⟩
                · have c_125 : ¬ 0 ≤ vy_118 := fun z => c_125 ((nI_leI (a := 0) (b := vy_118) (Nat.le_of_ble_eq_true rfl) (by omega)).mpr z)
                  exfalso
                  omega
  · have c_80 : u_2 = 0 := (nI_eq (a := u_2) (b := 0) (Nat.lt_of_le_of_lt hu_2 (Nat.le_of_ble_eq_true rfl)) (Nat.le_of_ble_eq_true rfl)).mp c_80
    have hsp := hsp.trans (if_pos c_80)
    refine lv_iload_n hx hb dX9_readLine_33 rfl (lv_at hl 2 rfl) ?_
    refine lv_if_ne (tgt := 54) hx hb dX9_readLine_34 (by decide) (fun c_129 => ?_) (fun c_129 => ?_)
    · have c_129 : ¬ u_4 = 0 := fun z => c_129 ((nI_eq (a := u_4) (b := 0) (Nat.lt_of_le_of_lt hu_4 (Nat.le_of_ble_eq_true rfl)) (Nat.le_of_ble_eq_true rfl)).mpr z)
      have hsp := hsp.trans (if_neg c_129)
      refine lv_iload_n hx hb dX9_readLine_54 rfl (lv_at hl 3 rfl) ?_
      refine lv_if_eq (tgt := 71) hx hb dX9_readLine_55 (by decide) (fun c_130 => ?_) (fun c_130 => ?_)
      · have c_130 : u_2 = 0 := (nI_eq (a := u_2) (b := 0) (Nat.lt_of_le_of_lt hu_2 (Nat.le_of_ble_eq_true rfl)) (Nat.le_of_ble_eq_true rfl)).mp c_130
        refine lv_iload_n hx hb dX9_readLine_71 rfl (lv_at hl 2 rfl) ?_
        refine lv_if_eq (tgt := 89) hx hb dX9_readLine_72 (by decide) (fun c_131 => ?_) (fun c_131 => ?_)
        · have c_131 : u_4 = 0 := (nI_eq (a := u_4) (b := 0) (Nat.lt_of_le_of_lt hu_4 (Nat.le_of_ble_eq_true rfl)) (Nat.le_of_ble_eq_true rfl)).mp c_131
          exfalso
          omega
        · have c_131 : ¬ u_4 = 0 := fun z => c_131 ((nI_eq (a := u_4) (b := 0) (Nat.lt_of_le_of_lt hu_4 (Nat.le_of_ble_eq_true rfl)) (Nat.le_of_ble_eq_true rfl)).mpr z)
          refine lv_aload_n hx hb dX9_readLine_75 rfl (lv_at hl 4 rfl) ?_
          refine va_get (D := (dC, dI)) (ci := 9) (v := .ref (ad 13)) (C := RX9) (T := TX9) (N := 67) hx hb hts hiX9 hown hK hP 0 rfl rfl 13 (by decide) v_18 (fun _ h9 => h9) rfl dX9_readLine_76 ?_
          refine lv_aload_n hx hb dX9_readLine_79 rfl (lv_at hl 4 rfl) ?_
          refine va_get (D := (dC, dI)) (ci := 9) (v := .int 0) (C := RX9) (T := TX9) (N := 67) hx hb hts hiX9 hown hK hP 0 rfl rfl 28 (by decide) v_11 (fun _ h9 => h9) rfl dX9_readLine_80 ?_
          refine va_iald hx hb hK hP 13 12 rfl rfl (vp_in_nI (n := 0) (Nat.le_of_ble_eq_true rfl) (Nat.le_of_ble_eq_true rfl)) dX9_readLine_83 ?_
          refine lv_topi (fun y_132 ey_132 => ?_)
          have qy_132 := ey_132.trans b2_0
          clear ey_132
          obtain rfl : y_132 = nI m13_0 := qy_132
          refine lv_bipush (v := 8) hx hb dX9_readLine_84 (by decide) ?_
          refine lv_icmp_eq (tgt := 124) hx hb dX9_readLine_86 (by decide) (fun c_133 => ?_) (fun c_133 => ?_)
          · have c_133 : m13_0 = 8 := (nI_eq (a := m13_0) (b := 8) (Nat.lt_of_le_of_lt hm13_0 (Nat.le_of_ble_eq_true rfl)) (Nat.le_of_ble_eq_true rfl)).mp c_133
            have hsp := hsp.trans (if_pos c_133)
            refine lv_aload_n hx hb dX9_readLine_124 rfl (lv_at hl 4 rfl) ?_
            refine lv_iconst (v := 5) hx hb dX9_readLine_125 (by decide) ?_
            have hFc := pu_free hD hS hA
            refine va_callv (va_runV (As := [.int 5]) (rest := []) ⟨hx, hb, hml, hown, hts⟩ (c_EM_fails l dC dI _ ad ck x0 x16 x18 x19 x20 x21 x22 x23 x24 x25 x26 x27 0 x29 x30 x33 x45 x46 x52 x53 x61 x62 x63 x65 x66 f1 f2 f3 q4 q5 q6 q7 f8 q9 q10 f11 m12_0 m12_1 m13_0 m13_1 m14_0 m14_1 m15_0 m15_1 f17 q31 f32 f34 f35 f36 f37 q38 f39 f40 f41 m42_0 m42_1 f43 f44 f47 f48 f49 f50 f51 q54 q55 q56 f57 q58 f59 f60 f64 5 hx16 hx18 hx19 hx21 hx22 hx26 (Nat.le_of_ble_eq_true rfl) hx29 hx30 hx33 hx46 hx52 hx53 hx61 hx62 hx63 hx65 hm12_0 hm12_1 hm13_0 hm13_1 hm14_0 hm14_1 hm15_0 hm15_1 hm42_0 hm42_1 (Nat.le_of_ble_eq_true rfl) (by omega)) (cwV 1 hts g_EM_readLine_0_EM_fails rfl rfl rfl (by decide +kernel) ⟨Nat.le_of_ble_eq_true rfl, Nat.le_of_ble_eq_true rfl⟩) ⟨pu_bl, va_recv hK hP (ci := 9) (q0 := 0) rfl rfl, pu_in hP hK hD⟩ rfl rfl hl.1 rfl (lv_room (Nat.le_of_ble_eq_true rfl)) dX9_readLine_126 ⟨Nat.le_of_ble_eq_true rfl, Nat.le_of_ble_eq_true rfl⟩) hS (fun q _ h => hFc q h) hFc (fun u t H1 locs ht hvm hw hB hz1 hk1 hS => ?_)
            obtain ⟨z26_135, z27_136, ⟨hP1, -, hD1⟩, hz26_135, xr_134_0, xr_134_1⟩ := hB
            rw [ht] at hP1
            have hP := hP1
            have hD := pu_all hFc hD1
            clear hP1 hD1 hFc
            clear hk1 hz1 ht hvm
            generalize H1 = H at hP hS ⊢
            have hsp := hsp.trans (slet_eq xr_134_1)
            exact j_16 _ _ _ _ ⟨z26_135, z27_136, rfl, hz26_135, by omega, by omega, by omega, by omega, by omega, hsp.symm, hP, hD, hS, lv_sub hl [4, 3, 2, 1, 0] rfl⟩
          · have c_133 : ¬ m13_0 = 8 := fun z => c_133 ((nI_eq (a := m13_0) (b := 8) (Nat.lt_of_le_of_lt hm13_0 (Nat.le_of_ble_eq_true rfl)) (Nat.le_of_ble_eq_true rfl)).mpr z)
            have hsp := hsp.trans (if_neg c_133)
            refine lv_iload_n hx hb dX9_readLine_89 rfl (lv_at hl 1 rfl) ?_
            refine lv_if_eq (tgt := 105) hx hb dX9_readLine_90 (by decide) (fun c_137 => ?_) (fun c_137 => ?_)
            · have c_137 : u_6 = 0 := (nI_eq (a := u_6) (b := 0) (Nat.lt_of_le_of_lt hu_6 (Nat.le_of_ble_eq_true rfl)) (Nat.le_of_ble_eq_true rfl)).mp c_137
              have hsp := hsp.trans (if_pos c_137)
              refine lv_iload hx hb dX9_readLine_105 (lv_at hl 0 rfl) ?_
              refine lv_if_eq (tgt := 129) hx hb dX9_readLine_107 (by decide) (fun c_138 => ?_) (fun c_138 => ?_)
              · have c_138 : u_8 = 0 := (nI_eq (a := u_8) (b := 0) (Nat.lt_of_le_of_lt hu_8 (Nat.le_of_ble_eq_true rfl)) (Nat.le_of_ble_eq_true rfl)).mp c_138
                have hsp := hsp.trans (if_pos c_138)
                exact j_16 _ _ _ _ ⟨x26, x27, rfl, hx26, by omega, by omega, by omega, by omega, by omega, hsp.symm, hP, hD, hS, lv_sub hl [4, 3, 2, 1, 0] rfl⟩
              · have c_138 : ¬ u_8 = 0 := fun z => c_138 ((nI_eq (a := u_8) (b := 0) (Nat.lt_of_le_of_lt hu_8 (Nat.le_of_ble_eq_true rfl)) (Nat.le_of_ble_eq_true rfl)).mpr z)
                have hsp := hsp.trans (if_neg c_138)
                refine lv_aload_n hx hb dX9_readLine_110 rfl (lv_at hl 4 rfl) ?_
                refine va_get (D := (dC, dI)) (ci := 9) (v := .ref (ad 14)) (C := RX9) (T := TX9) (N := 67) hx hb hts hiX9 hown hK hP 0 rfl rfl 14 (by decide) v_16 (fun _ h9 => h9) rfl dX9_readLine_111 ?_
                refine lv_aload_n hx hb dX9_readLine_114 rfl (lv_at hl 4 rfl) ?_
                refine va_get (D := (dC, dI)) (ci := 9) (v := .int 0) (C := RX9) (T := TX9) (N := 67) hx hb hts hiX9 hown hK hP 0 rfl rfl 28 (by decide) v_11 (fun _ h9 => h9) rfl dX9_readLine_115 ?_
                refine va_iald hx hb hK hP 14 13 rfl rfl (vp_in_nI (n := 0) (Nat.le_of_ble_eq_true rfl) (Nat.le_of_ble_eq_true rfl)) dX9_readLine_118 ?_
                refine lv_topi (fun y_139 ey_139 => ?_)
                have qy_139 := ey_139.trans b2_0
                clear ey_139
                obtain rfl : y_139 = nI m14_0 := qy_139
                refine lv_bipush (v := 14) hx hb dX9_readLine_119 (by decide) ?_
                refine lv_icmp_ne (tgt := 129) hx hb dX9_readLine_121 (by decide) (fun c_140 => ?_) (fun c_140 => ?_)
                · have c_140 : ¬ m14_0 = 14 := fun z => c_140 ((nI_eq (a := m14_0) (b := 14) (Nat.lt_of_le_of_lt hm14_0 (Nat.le_of_ble_eq_true rfl)) (Nat.le_of_ble_eq_true rfl)).mpr z)
                  have hsp := hsp.trans (if_neg c_140)
                  exact j_16 _ _ _ _ ⟨x26, x27, rfl, hx26, by omega, by omega, by omega, by omega, by omega, hsp.symm, hP, hD, hS, lv_sub hl [4, 3, 2, 1, 0] rfl⟩
                · have c_140 : m14_0 = 14 := (nI_eq (a := m14_0) (b := 14) (Nat.lt_of_le_of_lt hm14_0 (Nat.le_of_ble_eq_true rfl)) (Nat.le_of_ble_eq_true rfl)).mp c_140
                  have hsp := hsp.trans (if_pos c_140)
                  refine lv_aload_n hx hb dX9_readLine_124 rfl (lv_at hl 4 rfl) ?_
                  refine lv_iconst (v := 5) hx hb dX9_readLine_125 (by decide) ?_
                  have hFc := pu_free hD hS hA
                  refine va_callv (va_runV (As := [.int 5]) (rest := []) ⟨hx, hb, hml, hown, hts⟩ (c_EM_fails l dC dI _ ad ck x0 x16 x18 x19 x20 x21 x22 x23 x24 x25 x26 x27 0 x29 x30 x33 x45 x46 x52 x53 x61 x62 x63 x65 x66 f1 f2 f3 q4 q5 q6 q7 f8 q9 q10 f11 m12_0 m12_1 m13_0 m13_1 m14_0 m14_1 m15_0 m15_1 f17 q31 f32 f34 f35 f36 f37 q38 f39 f40 f41 m42_0 m42_1 f43 f44 f47 f48 f49 f50 f51 q54 q55 q56 f57 q58 f59 f60 f64 5 hx16 hx18 hx19 hx21 hx22 hx26 (Nat.le_of_ble_eq_true rfl) hx29 hx30 hx33 hx46 hx52 hx53 hx61 hx62 hx63 hx65 hm12_0 hm12_1 hm13_0 hm13_1 hm14_0 hm14_1 hm15_0 hm15_1 hm42_0 hm42_1 (Nat.le_of_ble_eq_true rfl) (by omega)) (cwV 1 hts g_EM_readLine_0_EM_fails rfl rfl rfl (by decide +kernel) ⟨Nat.le_of_ble_eq_true rfl, Nat.le_of_ble_eq_true rfl⟩) ⟨pu_bl, va_recv hK hP (ci := 9) (q0 := 0) rfl rfl, pu_in hP hK hD⟩ rfl rfl hl.1 rfl (lv_room (Nat.le_of_ble_eq_true rfl)) dX9_readLine_126 ⟨Nat.le_of_ble_eq_true rfl, Nat.le_of_ble_eq_true rfl⟩) hS (fun q _ h => hFc q h) hFc (fun u t H1 locs ht hvm hw hB hz1 hk1 hS => ?_)
                  obtain ⟨z26_142, z27_143, ⟨hP1, -, hD1⟩, hz26_142, xr_141_0, xr_141_1⟩ := hB
                  rw [ht] at hP1
                  have hP := hP1
                  have hD := pu_all hFc hD1
                  clear hP1 hD1 hFc
                  clear hk1 hz1 ht hvm
                  generalize H1 = H at hP hS ⊢
                  have hsp := hsp.trans (slet_eq xr_141_1)
                  exact j_16 _ _ _ _ ⟨z26_142, z27_143, rfl, hz26_142, by omega, by omega, by omega, by omega, by omega, hsp.symm, hP, hD, hS, lv_sub hl [4, 3, 2, 1, 0] rfl⟩
            · have c_137 : ¬ u_6 = 0 := fun z => c_137 ((nI_eq (a := u_6) (b := 0) (Nat.lt_of_le_of_lt hu_6 (Nat.le_of_ble_eq_true rfl)) (Nat.le_of_ble_eq_true rfl)).mpr z)
              have hsp := hsp.trans (if_neg c_137)
              refine lv_aload_n hx hb dX9_readLine_93 rfl (lv_at hl 4 rfl) ?_
              refine va_get (D := (dC, dI)) (ci := 9) (v := .ref (ad 15)) (C := RX9) (T := TX9) (N := 67) hx hb hts hiX9 hown hK hP 0 rfl rfl 15 (by decide) v_17 (fun _ h9 => h9) rfl dX9_readLine_94 ?_
              refine lv_aload_n hx hb dX9_readLine_97 rfl (lv_at hl 4 rfl) ?_
              refine va_get (D := (dC, dI)) (ci := 9) (v := .int 0) (C := RX9) (T := TX9) (N := 67) hx hb hts hiX9 hown hK hP 0 rfl rfl 28 (by decide) v_11 (fun _ h9 => h9) rfl dX9_readLine_98 ?_
              refine va_iald hx hb hK hP 15 14 rfl rfl (vp_in_nI (n := 0) (Nat.le_of_ble_eq_true rfl) (Nat.le_of_ble_eq_true rfl)) dX9_readLine_101 ?_
              refine lv_topi (fun y_144 ey_144 => ?_)
              have qy_144 := ey_144.trans b2m_0
              clear ey_144
              rcases mI_get m15_0 with ⟨zy_144, wy_144⟩ | ⟨vy_144, zy_144, wy_144⟩
              · obtain rfl : y_144 = -1 := qy_144.trans wy_144
                have hsp := hsp.trans (if_pos zy_144)
                refine lv_if_ge (tgt := 124) hx hb dX9_readLine_102 (by decide) (fun z => absurd z (by decide)) (fun _ => ?_)
                refine lv_iload hx hb dX9_readLine_105 (lv_at hl 0 rfl) ?_
                refine lv_if_eq (tgt := 129) hx hb dX9_readLine_107 (by decide) (fun c_145 => ?_) (fun c_145 => ?_)
                · have c_145 : u_8 = 0 := (nI_eq (a := u_8) (b := 0) (Nat.lt_of_le_of_lt hu_8 (Nat.le_of_ble_eq_true rfl)) (Nat.le_of_ble_eq_true rfl)).mp c_145
                  have hsp := hsp.trans (if_pos c_145)
                  exact j_16 _ _ _ _ ⟨x26, x27, rfl, hx26, by omega, by omega, by omega, by omega, by omega, hsp.symm, hP, hD, hS, lv_sub hl [4, 3, 2, 1, 0] rfl⟩
                · have c_145 : ¬ u_8 = 0 := fun z => c_145 ((nI_eq (a := u_8) (b := 0) (Nat.lt_of_le_of_lt hu_8 (Nat.le_of_ble_eq_true rfl)) (Nat.le_of_ble_eq_true rfl)).mpr z)
                  have hsp := hsp.trans (if_neg c_145)
                  refine lv_aload_n hx hb dX9_readLine_110 rfl (lv_at hl 4 rfl) ?_
                  refine va_get (D := (dC, dI)) (ci := 9) (v := .ref (ad 14)) (C := RX9) (T := TX9) (N := 67) hx hb hts hiX9 hown hK hP 0 rfl rfl 14 (by decide) v_16 (fun _ h9 => h9) rfl dX9_readLine_111 ?_
                  refine lv_aload_n hx hb dX9_readLine_114 rfl (lv_at hl 4 rfl) ?_
                  refine va_get (D := (dC, dI)) (ci := 9) (v := .int 0) (C := RX9) (T := TX9) (N := 67) hx hb hts hiX9 hown hK hP 0 rfl rfl 28 (by decide) v_11 (fun _ h9 => h9) rfl dX9_readLine_115 ?_
                  refine va_iald hx hb hK hP 14 13 rfl rfl (vp_in_nI (n := 0) (Nat.le_of_ble_eq_true rfl) (Nat.le_of_ble_eq_true rfl)) dX9_readLine_118 ?_
                  refine lv_topi (fun y_146 ey_146 => ?_)
                  have qy_146 := ey_146.trans b2_0
                  clear ey_146
                  obtain rfl : y_146 = nI m14_0 := qy_146
                  refine lv_bipush (v := 14) hx hb dX9_readLine_119 (by decide) ?_
                  refine lv_icmp_ne (tgt := 129) hx hb dX9_readLine_121 (by decide) (fun c_147 => ?_) (fun c_147 => ?_)
                  · have c_147 : ¬ m14_0 = 14 := fun z => c_147 ((nI_eq (a := m14_0) (b := 14) (Nat.lt_of_le_of_lt hm14_0 (Nat.le_of_ble_eq_true rfl)) (Nat.le_of_ble_eq_true rfl)).mpr z)
                    have hsp := hsp.trans (if_neg c_147)
                    exact j_16 _ _ _ _ ⟨x26, x27, rfl, hx26, by omega, by omega, by omega, by omega, by omega, hsp.symm, hP, hD, hS, lv_sub hl [4, 3, 2, 1, 0] rfl⟩
                  · have c_147 : m14_0 = 14 := (nI_eq (a := m14_0) (b := 14) (Nat.lt_of_le_of_lt hm14_0 (Nat.le_of_ble_eq_true rfl)) (Nat.le_of_ble_eq_true rfl)).mp c_147
                    have hsp := hsp.trans (if_pos c_147)
                    refine lv_aload_n hx hb dX9_readLine_124 rfl (lv_at hl 4 rfl) ?_
                    refine lv_iconst (v := 5) hx hb dX9_readLine_125 (by decide) ?_
                    have hFc := pu_free hD hS hA
                    refine va_callv (va_runV (As := [.int 5]) (rest := []) ⟨hx, hb, hml, hown, hts⟩ (c_EM_fails l dC dI _ ad ck x0 x16 x18 x19 x20 x21 x22 x23 x24 x25 x26 x27 0 x29 x30 x33 x45 x46 x52 x53 x61 x62 x63 x65 x66 f1 f2 f3 q4 q5 q6 q7 f8 q9 q10 f11 m12_0 m12_1 m13_0 m13_1 m14_0 m14_1 m15_0 m15_1 f17 q31 f32 f34 f35 f36 f37 q38 f39 f40 f41 m42_0 m42_1 f43 f44 f47 f48 f49 f50 f51 q54 q55 q56 f57 q58 f59 f60 f64 5 hx16 hx18 hx19 hx21 hx22 hx26 (Nat.le_of_ble_eq_true rfl) hx29 hx30 hx33 hx46 hx52 hx53 hx61 hx62 hx63 hx65 hm12_0 hm12_1 hm13_0 hm13_1 hm14_0 hm14_1 hm15_0 hm15_1 hm42_0 hm42_1 (Nat.le_of_ble_eq_true rfl) (by omega)) (cwV 1 hts g_EM_readLine_0_EM_fails rfl rfl rfl (by decide +kernel) ⟨Nat.le_of_ble_eq_true rfl, Nat.le_of_ble_eq_true rfl⟩) ⟨pu_bl, va_recv hK hP (ci := 9) (q0 := 0) rfl rfl, pu_in hP hK hD⟩ rfl rfl hl.1 rfl (lv_room (Nat.le_of_ble_eq_true rfl)) dX9_readLine_126 ⟨Nat.le_of_ble_eq_true rfl, Nat.le_of_ble_eq_true rfl⟩) hS (fun q _ h => hFc q h) hFc (fun u t H1 locs ht hvm hw hB hz1 hk1 hS => ?_)
                    obtain ⟨z26_149, z27_150, ⟨hP1, -, hD1⟩, hz26_149, xr_148_0, xr_148_1⟩ := hB
                    rw [ht] at hP1
                    have hP := hP1
                    have hD := pu_all hFc hD1
                    clear hP1 hD1 hFc
                    clear hk1 hz1 ht hvm
                    generalize H1 = H at hP hS ⊢
                    have hsp := hsp.trans (slet_eq xr_148_1)
                    exact j_16 _ _ _ _ ⟨z26_149, z27_150, rfl, hz26_149, by omega, by omega, by omega, by omega, by omega, hsp.symm, hP, hD, hS, lv_sub hl [4, 3, 2, 1, 0] rfl⟩
              · obtain rfl : y_144 = nI vy_144 := qy_144.trans wy_144
                have hsp := hsp.trans (if_neg (by omega))
                have hsp := hsp.trans (slet_eq (by omega : vy_144 = m15_0 - 1))
                refine lv_if_ge (tgt := 124) hx hb dX9_readLine_102 (by decide) (fun c_151 => ?_) (fun c_151 => ?_)
                · have c_151 : 0 ≤ vy_144 := (nI_leI (a := 0) (b := vy_144) (Nat.le_of_ble_eq_true rfl) (by omega)).mp c_151
                  refine lv_aload_n hx hb dX9_readLine_124 rfl (lv_at hl 4 rfl) ?_
                  refine lv_iconst (v := 5) hx hb dX9_readLine_125 (by decide) ?_
                  have hFc := pu_free hD hS hA
                  refine va_callv (va_runV (As := [.int 5]) (rest := []) ⟨hx, hb, hml, hown, hts⟩ (c_EM_fails l dC dI _ ad ck x0 x16 x18 x19 x20 x21 x22 x23 x24 x25 x26 x27 0 x29 x30 x33 x45 x46 x52 x53 x61 x62 x63 x65 x66 f1 f2 f3 q4 q5 q6 q7 f8 q9 q10 f11 m12_0 m12_1 m13_0 m13_1 m14_0 m14_1 m15_0 m15_1 f17 q31 f32 f34 f35 f36 f37 q38 f39 f40 f41 m42_0 m42_1 f43 f44 f47 f48 f49 f50 f51 q54 q55 q56 f57 q58 f59 f60 f64 5 hx16 hx18 hx19 hx21 hx22 hx26 (Nat.le_of_ble_eq_true rfl) hx29 hx30 hx33 hx46 hx52 hx53 hx61 hx62 hx63 hx65 hm12_0 hm12_1 hm13_0 hm13_1 hm14_0 hm14_1 hm15_0 hm15_1 hm42_0 hm42_1 (Nat.le_of_ble_eq_true rfl) (by omega)) (cwV 1 hts g_EM_readLine_0_EM_fails rfl rfl rfl (by decide +kernel) ⟨Nat.le_of_ble_eq_true rfl, Nat.le_of_ble_eq_true rfl⟩) ⟨pu_bl, va_recv hK hP (ci := 9) (q0 := 0) rfl rfl, pu_in hP hK hD⟩ rfl rfl hl.1 rfl (lv_room (Nat.le_of_ble_eq_true rfl)) dX9_readLine_126 ⟨Nat.le_of_ble_eq_true rfl, Nat.le_of_ble_eq_true rfl⟩) hS (fun q _ h => hFc q h) hFc (fun u t H1 locs ht hvm hw hB hz1 hk1 hS => ?_)
                  obtain ⟨z26_153, z27_154, ⟨hP1, -, hD1⟩, hz26_153, xr_152_0, xr_152_1⟩ := hB
                  rw [ht] at hP1
                  have hP := hP1
                  have hD := pu_all hFc hD1
                  clear hP1 hD1 hFc
                  clear hk1 hz1 ht hvm
                  generalize H1 = H at hP hS ⊢
                  have hsp := hsp.trans (slet_eq xr_152_1)
                  exact j_16 _ _ _ _ ⟨z26_153, z27_154, rfl, hz26_153, by omega, by omega, by omega, by omega, by omega, hsp.symm, hP, hD, hS, lv_sub hl [4, 3, 2, 1, 0] rfl⟩
                · have c_151 : ¬ 0 ≤ vy_144 := fun z => c_151 ((nI_leI (a := 0) (b := vy_144) (Nat.le_of_ble_eq_true rfl) (by omega)).mpr z)
                  exfalso
                  omega
      · have c_130 : ¬ u_2 = 0 := fun z => c_130 ((nI_eq (a := u_2) (b := 0) (Nat.lt_of_le_of_lt hu_2 (Nat.le_of_ble_eq_true rfl)) (Nat.le_of_ble_eq_true rfl)).mpr z)
        exfalso
        omega
    · have c_129 : u_4 = 0 := (nI_eq (a := u_4) (b := 0) (Nat.lt_of_le_of_lt hu_4 (Nat.le_of_ble_eq_true rfl)) (Nat.le_of_ble_eq_true rfl)).mp c_129
      have hsp := hsp.trans (if_pos c_129)
      refine lv_iload_n hx hb dX9_readLine_37 rfl (lv_at hl 1 rfl) ?_
      refine lv_if_ne (tgt := 54) hx hb dX9_readLine_38 (by decide) (fun c_155 => ?_) (fun c_155 => ?_)
      · have c_155 : ¬ u_6 = 0 := fun z => c_155 ((nI_eq (a := u_6) (b := 0) (Nat.lt_of_le_of_lt hu_6 (Nat.le_of_ble_eq_true rfl)) (Nat.le_of_ble_eq_true rfl)).mpr z)
        have hsp := hsp.trans (if_neg c_155)
        refine lv_iload_n hx hb dX9_readLine_54 rfl (lv_at hl 3 rfl) ?_
        refine lv_if_eq (tgt := 71) hx hb dX9_readLine_55 (by decide) (fun c_156 => ?_) (fun c_156 => ?_)
        · have c_156 : u_2 = 0 := (nI_eq (a := u_2) (b := 0) (Nat.lt_of_le_of_lt hu_2 (Nat.le_of_ble_eq_true rfl)) (Nat.le_of_ble_eq_true rfl)).mp c_156
          refine lv_iload_n hx hb dX9_readLine_71 rfl (lv_at hl 2 rfl) ?_
          refine lv_if_eq (tgt := 89) hx hb dX9_readLine_72 (by decide) (fun c_157 => ?_) (fun c_157 => ?_)
          · have c_157 : u_4 = 0 := (nI_eq (a := u_4) (b := 0) (Nat.lt_of_le_of_lt hu_4 (Nat.le_of_ble_eq_true rfl)) (Nat.le_of_ble_eq_true rfl)).mp c_157
            refine lv_iload_n hx hb dX9_readLine_89 rfl (lv_at hl 1 rfl) ?_
            refine lv_if_eq (tgt := 105) hx hb dX9_readLine_90 (by decide) (fun c_158 => ?_) (fun c_158 => ?_)
            · have c_158 : u_6 = 0 := (nI_eq (a := u_6) (b := 0) (Nat.lt_of_le_of_lt hu_6 (Nat.le_of_ble_eq_true rfl)) (Nat.le_of_ble_eq_true rfl)).mp c_158
              exfalso
              omega
            · have c_158 : ¬ u_6 = 0 := fun z => c_158 ((nI_eq (a := u_6) (b := 0) (Nat.lt_of_le_of_lt hu_6 (Nat.le_of_ble_eq_true rfl)) (Nat.le_of_ble_eq_true rfl)).mpr z)
              refine lv_aload_n hx hb dX9_readLine_93 rfl (lv_at hl 4 rfl) ?_
              refine va_get (D := (dC, dI)) (ci := 9) (v := .ref (ad 15)) (C := RX9) (T := TX9) (N := 67) hx hb hts hiX9 hown hK hP 0 rfl rfl 15 (by decide) v_17 (fun _ h9 => h9) rfl dX9_readLine_94 ?_
              refine lv_aload_n hx hb dX9_readLine_97 rfl (lv_at hl 4 rfl) ?_
              refine va_get (D := (dC, dI)) (ci := 9) (v := .int 0) (C := RX9) (T := TX9) (N := 67) hx hb hts hiX9 hown hK hP 0 rfl rfl 28 (by decide) v_11 (fun _ h9 => h9) rfl dX9_readLine_98 ?_
              refine va_iald hx hb hK hP 15 14 rfl rfl (vp_in_nI (n := 0) (Nat.le_of_ble_eq_true rfl) (Nat.le_of_ble_eq_true rfl)) dX9_readLine_101 ?_
              refine lv_topi (fun y_159 ey_159 => ?_)
              have qy_159 := ey_159.trans b2m_0
              clear ey_159
              rcases mI_get m15_0 with ⟨zy_159, wy_159⟩ | ⟨vy_159, zy_159, wy_159⟩
              · obtain rfl : y_159 = -1 := qy_159.trans wy_159
                have hsp := hsp.trans (if_pos zy_159)
                refine lv_if_ge (tgt := 124) hx hb dX9_readLine_102 (by decide) (fun z => absurd z (by decide)) (fun _ => ?_)
                refine lv_iload hx hb dX9_readLine_105 (lv_at hl 0 rfl) ?_
                refine lv_if_eq (tgt := 129) hx hb dX9_readLine_107 (by decide) (fun c_160 => ?_) (fun c_160 => ?_)
                · have c_160 : u_8 = 0 := (nI_eq (a := u_8) (b := 0) (Nat.lt_of_le_of_lt hu_8 (Nat.le_of_ble_eq_true rfl)) (Nat.le_of_ble_eq_true rfl)).mp c_160
                  have hsp := hsp.trans (if_pos c_160)
                  exact j_16 _ _ _ _ ⟨x26, x27, rfl, hx26, by omega, by omega, by omega, by omega, by omega, hsp.symm, hP, hD, hS, lv_sub hl [4, 3, 2, 1, 0] rfl⟩
                · have c_160 : ¬ u_8 = 0 := fun z => c_160 ((nI_eq (a := u_8) (b := 0) (Nat.lt_of_le_of_lt hu_8 (Nat.le_of_ble_eq_true rfl)) (Nat.le_of_ble_eq_true rfl)).mpr z)
                  have hsp := hsp.trans (if_neg c_160)
                  refine lv_aload_n hx hb dX9_readLine_110 rfl (lv_at hl 4 rfl) ?_
                  refine va_get (D := (dC, dI)) (ci := 9) (v := .ref (ad 14)) (C := RX9) (T := TX9) (N := 67) hx hb hts hiX9 hown hK hP 0 rfl rfl 14 (by decide) v_16 (fun _ h9 => h9) rfl dX9_readLine_111 ?_
                  refine lv_aload_n hx hb dX9_readLine_114 rfl (lv_at hl 4 rfl) ?_
                  refine va_get (D := (dC, dI)) (ci := 9) (v := .int 0) (C := RX9) (T := TX9) (N := 67) hx hb hts hiX9 hown hK hP 0 rfl rfl 28 (by decide) v_11 (fun _ h9 => h9) rfl dX9_readLine_115 ?_
                  refine va_iald hx hb hK hP 14 13 rfl rfl (vp_in_nI (n := 0) (Nat.le_of_ble_eq_true rfl) (Nat.le_of_ble_eq_true rfl)) dX9_readLine_118 ?_
                  refine lv_topi (fun y_161 ey_161 => ?_)
                  have qy_161 := ey_161.trans b2_0
                  clear ey_161
                  obtain rfl : y_161 = nI m14_0 := qy_161
                  refine lv_bipush (v := 14) hx hb dX9_readLine_119 (by decide) ?_
                  refine lv_icmp_ne (tgt := 129) hx hb dX9_readLine_121 (by decide) (fun c_162 => ?_) (fun c_162 => ?_)
                  · have c_162 : ¬ m14_0 = 14 := fun z => c_162 ((nI_eq (a := m14_0) (b := 14) (Nat.lt_of_le_of_lt hm14_0 (Nat.le_of_ble_eq_true rfl)) (Nat.le_of_ble_eq_true rfl)).mpr z)
                    have hsp := hsp.trans (if_neg c_162)
                    exact j_16 _ _ _ _ ⟨x26, x27, rfl, hx26, by omega, by omega, by omega, by omega, by omega, hsp.symm, hP, hD, hS, lv_sub hl [4, 3, 2, 1, 0] rfl⟩
                  · have c_162 : m14_0 = 14 := (nI_eq (a := m14_0) (b := 14) (Nat.lt_of_le_of_lt hm14_0 (Nat.le_of_ble_eq_true rfl)) (Nat.le_of_ble_eq_true rfl)).mp c_162
                    have hsp := hsp.trans (if_pos c_162)
                    refine lv_aload_n hx hb dX9_readLine_124 rfl (lv_at hl 4 rfl) ?_
                    refine lv_iconst (v := 5) hx hb dX9_readLine_125 (by decide) ?_
                    have hFc := pu_free hD hS hA
                    refine va_callv (va_runV (As := [.int 5]) (rest := []) ⟨hx, hb, hml, hown, hts⟩ (c_EM_fails l dC dI _ ad ck x0 x16 x18 x19 x20 x21 x22 x23 x24 x25 x26 x27 0 x29 x30 x33 x45 x46 x52 x53 x61 x62 x63 x65 x66 f1 f2 f3 q4 q5 q6 q7 f8 q9 q10 f11 m12_0 m12_1 m13_0 m13_1 m14_0 m14_1 m15_0 m15_1 f17 q31 f32 f34 f35 f36 f37 q38 f39 f40 f41 m42_0 m42_1 f43 f44 f47 f48 f49 f50 f51 q54 q55 q56 f57 q58 f59 f60 f64 5 hx16 hx18 hx19 hx21 hx22 hx26 (Nat.le_of_ble_eq_true rfl) hx29 hx30 hx33 hx46 hx52 hx53 hx61 hx62 hx63 hx65 hm12_0 hm12_1 hm13_0 hm13_1 hm14_0 hm14_1 hm15_0 hm15_1 hm42_0 hm42_1 (Nat.le_of_ble_eq_true rfl) (by omega)) (cwV 1 hts g_EM_readLine_0_EM_fails rfl rfl rfl (by decide +kernel) ⟨Nat.le_of_ble_eq_true rfl, Nat.le_of_ble_eq_true rfl⟩) ⟨pu_bl, va_recv hK hP (ci := 9) (q0 := 0) rfl rfl, pu_in hP hK hD⟩ rfl rfl hl.1 rfl (lv_room (Nat.le_of_ble_eq_true rfl)) dX9_readLine_126 ⟨Nat.le_of_ble_eq_true rfl, Nat.le_of_ble_eq_true rfl⟩) hS (fun q _ h => hFc q h) hFc (fun u t H1 locs ht hvm hw hB hz1 hk1 hS => ?_)
                    obtain ⟨z26_164, z27_165, ⟨hP1, -, hD1⟩, hz26_164, xr_163_0, xr_163_1⟩ := hB
                    rw [ht] at hP1
                    have hP := hP1
                    have hD := pu_all hFc hD1
                    clear hP1 hD1 hFc
                    clear hk1 hz1 ht hvm
                    generalize H1 = H at hP hS ⊢
                    have hsp := hsp.trans (slet_eq xr_163_1)
                    exact j_16 _ _ _ _ ⟨z26_164, z27_165, rfl, hz26_164, by omega, by omega, by omega, by omega, by omega, hsp.symm, hP, hD, hS, lv_sub hl [4, 3, 2, 1, 0] rfl⟩
              · obtain rfl : y_159 = nI vy_159 := qy_159.trans wy_159
                have hsp := hsp.trans (if_neg (by omega))
                have hsp := hsp.trans (slet_eq (by omega : vy_159 = m15_0 - 1))
                refine lv_if_ge (tgt := 124) hx hb dX9_readLine_102 (by decide) (fun c_166 => ?_) (fun c_166 => ?_)
                · have c_166 : 0 ≤ vy_159 := (nI_leI (a := 0) (b := vy_159) (Nat.le_of_ble_eq_true rfl) (by omega)).mp c_166
                  refine lv_aload_n hx hb dX9_readLine_124 rfl (lv_at hl 4 rfl) ?_
                  refine lv_iconst (v := 5) hx hb dX9_readLine_125 (by decide) ?_
                  have hFc := pu_free hD hS hA
                  refine va_callv (va_runV (As := [.int 5]) (rest := []) ⟨hx, hb, hml, hown, hts⟩ (c_EM_fails l dC dI _ ad ck x0 x16 x18 x19 x20 x21 x22 x23 x24 x25 x26 x27 0 x29 x30 x33 x45 x46 x52 x53 x61 x62 x63 x65 x66 f1 f2 f3 q4 q5 q6 q7 f8 q9 q10 f11 m12_0 m12_1 m13_0 m13_1 m14_0 m14_1 m15_0 m15_1 f17 q31 f32 f34 f35 f36 f37 q38 f39 f40 f41 m42_0 m42_1 f43 f44 f47 f48 f49 f50 f51 q54 q55 q56 f57 q58 f59 f60 f64 5 hx16 hx18 hx19 hx21 hx22 hx26 (Nat.le_of_ble_eq_true rfl) hx29 hx30 hx33 hx46 hx52 hx53 hx61 hx62 hx63 hx65 hm12_0 hm12_1 hm13_0 hm13_1 hm14_0 hm14_1 hm15_0 hm15_1 hm42_0 hm42_1 (Nat.le_of_ble_eq_true rfl) (by omega)) (cwV 1 hts g_EM_readLine_0_EM_fails rfl rfl rfl (by decide +kernel) ⟨Nat.le_of_ble_eq_true rfl, Nat.le_of_ble_eq_true rfl⟩) ⟨pu_bl, va_recv hK hP (ci := 9) (q0 := 0) rfl rfl, pu_in hP hK hD⟩ rfl rfl hl.1 rfl (lv_room (Nat.le_of_ble_eq_true rfl)) dX9_readLine_126 ⟨Nat.le_of_ble_eq_true rfl, Nat.le_of_ble_eq_true rfl⟩) hS (fun q _ h => hFc q h) hFc (fun u t H1 locs ht hvm hw hB hz1 hk1 hS => ?_)
                  obtain ⟨z26_168, z27_169, ⟨hP1, -, hD1⟩, hz26_168, xr_167_0, xr_167_1⟩ := hB
                  rw [ht] at hP1
                  have hP := hP1
                  have hD := pu_all hFc hD1
                  clear hP1 hD1 hFc
                  clear hk1 hz1 ht hvm
                  generalize H1 = H at hP hS ⊢
                  have hsp := hsp.trans (slet_eq xr_167_1)
                  exact j_16 _ _ _ _ ⟨z26_168, z27_169, rfl, hz26_168, by omega, by omega, by omega, by omega, by omega, hsp.symm, hP, hD, hS, lv_sub hl [4, 3, 2, 1, 0] rfl⟩
                · have c_166 : ¬ 0 ≤ vy_159 := fun z => c_166 ((nI_leI (a := 0) (b := vy_159) (Nat.le_of_ble_eq_true rfl) (by omega)).mpr z)
                  exfalso
                  omega
          · have c_157 : ¬ u_4 = 0 := fun z => c_157 ((nI_eq (a := u_4) (b := 0) (Nat.lt_of_le_of_lt hu_4 (Nat.le_of_ble_eq_true rfl)) (Nat.le_of_ble_eq_true rfl)).mpr z)
            exfalso
            omega
        · have c_156 : ¬ u_2 = 0 := fun z => c_156 ((nI_eq (a := u_2) (b := 0) (Nat.lt_of_le_of_lt hu_2 (Nat.le_of_ble_eq_true rfl)) (Nat.le_of_ble_eq_true rfl)).mpr z)
          exfalso
          omega
      · have c_155 : u_6 = 0 := (nI_eq (a := u_6) (b := 0) (Nat.lt_of_le_of_lt hu_6 (Nat.le_of_ble_eq_true rfl)) (Nat.le_of_ble_eq_true rfl)).mp c_155
        have hsp := hsp.trans (if_pos c_155)
        refine lv_iload hx hb dX9_readLine_41 (lv_at hl 0 rfl) ?_
        refine lv_if_ne (tgt := 54) hx hb dX9_readLine_43 (by decide) (fun c_170 => ?_) (fun c_170 => ?_)
        · have c_170 : ¬ u_8 = 0 := fun z => c_170 ((nI_eq (a := u_8) (b := 0) (Nat.lt_of_le_of_lt hu_8 (Nat.le_of_ble_eq_true rfl)) (Nat.le_of_ble_eq_true rfl)).mpr z)
          have hsp := hsp.trans (if_neg c_170)
          refine lv_iload_n hx hb dX9_readLine_54 rfl (lv_at hl 3 rfl) ?_
          refine lv_if_eq (tgt := 71) hx hb dX9_readLine_55 (by decide) (fun c_171 => ?_) (fun c_171 => ?_)
          · have c_171 : u_2 = 0 := (nI_eq (a := u_2) (b := 0) (Nat.lt_of_le_of_lt hu_2 (Nat.le_of_ble_eq_true rfl)) (Nat.le_of_ble_eq_true rfl)).mp c_171
            refine lv_iload_n hx hb dX9_readLine_71 rfl (lv_at hl 2 rfl) ?_
            refine lv_if_eq (tgt := 89) hx hb dX9_readLine_72 (by decide) (fun c_172 => ?_) (fun c_172 => ?_)
            · have c_172 : u_4 = 0 := (nI_eq (a := u_4) (b := 0) (Nat.lt_of_le_of_lt hu_4 (Nat.le_of_ble_eq_true rfl)) (Nat.le_of_ble_eq_true rfl)).mp c_172
              refine lv_iload_n hx hb dX9_readLine_89 rfl (lv_at hl 1 rfl) ?_
              refine lv_if_eq (tgt := 105) hx hb dX9_readLine_90 (by decide) (fun c_173 => ?_) (fun c_173 => ?_)
              · have c_173 : u_6 = 0 := (nI_eq (a := u_6) (b := 0) (Nat.lt_of_le_of_lt hu_6 (Nat.le_of_ble_eq_true rfl)) (Nat.le_of_ble_eq_true rfl)).mp c_173
                refine lv_iload hx hb dX9_readLine_105 (lv_at hl 0 rfl) ?_
                refine lv_if_eq (tgt := 129) hx hb dX9_readLine_107 (by decide) (fun c_174 => ?_) (fun c_174 => ?_)
                · have c_174 : u_8 = 0 := (nI_eq (a := u_8) (b := 0) (Nat.lt_of_le_of_lt hu_8 (Nat.le_of_ble_eq_true rfl)) (Nat.le_of_ble_eq_true rfl)).mp c_174
                  exfalso
                  omega
                · have c_174 : ¬ u_8 = 0 := fun z => c_174 ((nI_eq (a := u_8) (b := 0) (Nat.lt_of_le_of_lt hu_8 (Nat.le_of_ble_eq_true rfl)) (Nat.le_of_ble_eq_true rfl)).mpr z)
                  refine lv_aload_n hx hb dX9_readLine_110 rfl (lv_at hl 4 rfl) ?_
                  refine va_get (D := (dC, dI)) (ci := 9) (v := .ref (ad 14)) (C := RX9) (T := TX9) (N := 67) hx hb hts hiX9 hown hK hP 0 rfl rfl 14 (by decide) v_16 (fun _ h9 => h9) rfl dX9_readLine_111 ?_
                  refine lv_aload_n hx hb dX9_readLine_114 rfl (lv_at hl 4 rfl) ?_
                  refine va_get (D := (dC, dI)) (ci := 9) (v := .int 0) (C := RX9) (T := TX9) (N := 67) hx hb hts hiX9 hown hK hP 0 rfl rfl 28 (by decide) v_11 (fun _ h9 => h9) rfl dX9_readLine_115 ?_
                  refine va_iald hx hb hK hP 14 13 rfl rfl (vp_in_nI (n := 0) (Nat.le_of_ble_eq_true rfl) (Nat.le_of_ble_eq_true rfl)) dX9_readLine_118 ?_
                  refine lv_topi (fun y_175 ey_175 => ?_)
                  have qy_175 := ey_175.trans b2_0
                  clear ey_175
                  obtain rfl : y_175 = nI m14_0 := qy_175
                  refine lv_bipush (v := 14) hx hb dX9_readLine_119 (by decide) ?_
                  refine lv_icmp_ne (tgt := 129) hx hb dX9_readLine_121 (by decide) (fun c_176 => ?_) (fun c_176 => ?_)
                  · have c_176 : ¬ m14_0 = 14 := fun z => c_176 ((nI_eq (a := m14_0) (b := 14) (Nat.lt_of_le_of_lt hm14_0 (Nat.le_of_ble_eq_true rfl)) (Nat.le_of_ble_eq_true rfl)).mpr z)
                    have hsp := hsp.trans (if_neg c_176)
                    exact j_16 _ _ _ _ ⟨x26, x27, rfl, hx26, by omega, by omega, by omega, by omega, by omega, hsp.symm, hP, hD, hS, lv_sub hl [4, 3, 2, 1, 0] rfl⟩
                  · have c_176 : m14_0 = 14 := (nI_eq (a := m14_0) (b := 14) (Nat.lt_of_le_of_lt hm14_0 (Nat.le_of_ble_eq_true rfl)) (Nat.le_of_ble_eq_true rfl)).mp c_176
                    have hsp := hsp.trans (if_pos c_176)
                    refine lv_aload_n hx hb dX9_readLine_124 rfl (lv_at hl 4 rfl) ?_
                    refine lv_iconst (v := 5) hx hb dX9_readLine_125 (by decide) ?_
                    have hFc := pu_free hD hS hA
                    refine va_callv (va_runV (As := [.int 5]) (rest := []) ⟨hx, hb, hml, hown, hts⟩ (c_EM_fails l dC dI _ ad ck x0 x16 x18 x19 x20 x21 x22 x23 x24 x25 x26 x27 0 x29 x30 x33 x45 x46 x52 x53 x61 x62 x63 x65 x66 f1 f2 f3 q4 q5 q6 q7 f8 q9 q10 f11 m12_0 m12_1 m13_0 m13_1 m14_0 m14_1 m15_0 m15_1 f17 q31 f32 f34 f35 f36 f37 q38 f39 f40 f41 m42_0 m42_1 f43 f44 f47 f48 f49 f50 f51 q54 q55 q56 f57 q58 f59 f60 f64 5 hx16 hx18 hx19 hx21 hx22 hx26 (Nat.le_of_ble_eq_true rfl) hx29 hx30 hx33 hx46 hx52 hx53 hx61 hx62 hx63 hx65 hm12_0 hm12_1 hm13_0 hm13_1 hm14_0 hm14_1 hm15_0 hm15_1 hm42_0 hm42_1 (Nat.le_of_ble_eq_true rfl) (by omega)) (cwV 1 hts g_EM_readLine_0_EM_fails rfl rfl rfl (by decide +kernel) ⟨Nat.le_of_ble_eq_true rfl, Nat.le_of_ble_eq_true rfl⟩) ⟨pu_bl, va_recv hK hP (ci := 9) (q0 := 0) rfl rfl, pu_in hP hK hD⟩ rfl rfl hl.1 rfl (lv_room (Nat.le_of_ble_eq_true rfl)) dX9_readLine_126 ⟨Nat.le_of_ble_eq_true rfl, Nat.le_of_ble_eq_true rfl⟩) hS (fun q _ h => hFc q h) hFc (fun u t H1 locs ht hvm hw hB hz1 hk1 hS => ?_)
                    obtain ⟨z26_178, z27_179, ⟨hP1, -, hD1⟩, hz26_178, xr_177_0, xr_177_1⟩ := hB
                    rw [ht] at hP1
                    have hP := hP1
                    have hD := pu_all hFc hD1
                    clear hP1 hD1 hFc
                    clear hk1 hz1 ht hvm
                    generalize H1 = H at hP hS ⊢
                    have hsp := hsp.trans (slet_eq xr_177_1)
                    exact j_16 _ _ _ _ ⟨z26_178, z27_179, rfl, hz26_178, by omega, by omega, by omega, by omega, by omega, hsp.symm, hP, hD, hS, lv_sub hl [4, 3, 2, 1, 0] rfl⟩
              · have c_173 : ¬ u_6 = 0 := fun z => c_173 ((nI_eq (a := u_6) (b := 0) (Nat.lt_of_le_of_lt hu_6 (Nat.le_of_ble_eq_true rfl)) (Nat.le_of_ble_eq_true rfl)).mpr z)
                exfalso
                omega
            · have c_172 : ¬ u_4 = 0 := fun z => c_172 ((nI_eq (a := u_4) (b := 0) (Nat.lt_of_le_of_lt hu_4 (Nat.le_of_ble_eq_true rfl)) (Nat.le_of_ble_eq_true rfl)).mpr z)
              exfalso
              omega
          · have c_171 : ¬ u_2 = 0 := fun z => c_171 ((nI_eq (a := u_2) (b := 0) (Nat.lt_of_le_of_lt hu_2 (Nat.le_of_ble_eq_true rfl)) (Nat.le_of_ble_eq_true rfl)).mpr z)
            exfalso
            omega
        · have c_170 : u_8 = 0 := (nI_eq (a := u_8) (b := 0) (Nat.lt_of_le_of_lt hu_8 (Nat.le_of_ble_eq_true rfl)) (Nat.le_of_ble_eq_true rfl)).mp c_170
          have hsp := hsp.trans (if_pos c_170)
          refine lv_aload_n hx hb dX9_readLine_46 rfl (lv_at hl 4 rfl) ?_
          refine lv_iconst (v := 2) hx hb dX9_readLine_47 (by decide) ?_
          have hFc := pu_free hD hS hA
          refine va_callv (va_runV (As := [.int 2]) (rest := []) ⟨hx, hb, hml, hown, hts⟩ (c_EM_fails l dC dI _ ad ck x0 x16 x18 x19 x20 x21 x22 x23 x24 x25 x26 x27 0 x29 x30 x33 x45 x46 x52 x53 x61 x62 x63 x65 x66 f1 f2 f3 q4 q5 q6 q7 f8 q9 q10 f11 m12_0 m12_1 m13_0 m13_1 m14_0 m14_1 m15_0 m15_1 f17 q31 f32 f34 f35 f36 f37 q38 f39 f40 f41 m42_0 m42_1 f43 f44 f47 f48 f49 f50 f51 q54 q55 q56 f57 q58 f59 f60 f64 2 hx16 hx18 hx19 hx21 hx22 hx26 (Nat.le_of_ble_eq_true rfl) hx29 hx30 hx33 hx46 hx52 hx53 hx61 hx62 hx63 hx65 hm12_0 hm12_1 hm13_0 hm13_1 hm14_0 hm14_1 hm15_0 hm15_1 hm42_0 hm42_1 (Nat.le_of_ble_eq_true rfl) (by omega)) (cwV 1 hts g_EM_readLine_0_EM_fails rfl rfl rfl (by decide +kernel) ⟨Nat.le_of_ble_eq_true rfl, Nat.le_of_ble_eq_true rfl⟩) ⟨pu_bl, va_recv hK hP (ci := 9) (q0 := 0) rfl rfl, pu_in hP hK hD⟩ rfl rfl hl.1 rfl (lv_room (Nat.le_of_ble_eq_true rfl)) dX9_readLine_48 ⟨Nat.le_of_ble_eq_true rfl, Nat.le_of_ble_eq_true rfl⟩) hS (fun q _ h => hFc q h) hFc (fun u t H1 locs ht hvm hw hB hz1 hk1 hS => ?_)
          obtain ⟨z26_181, z27_182, ⟨hP1, -, hD1⟩, hz26_181, xr_180_0, xr_180_1⟩ := hB
          rw [ht] at hP1
          have hP := hP1
          have hD := pu_all hFc hD1
          clear hP1 hD1 hFc
          clear hk1 hz1 ht hvm
          generalize H1 = H at hP hS ⊢
          have hsp := hsp.trans (slet_eq xr_180_1)
          refine lv_goto (tgt := 129) hx hb dX9_readLine_51 (by decide) ?_
          exact j_16 _ _ _ _ ⟨z26_181, z27_182, rfl, hz26_181, by omega, by omega, by omega, by omega, by omega, hsp.symm, hP, hD, hS, lv_sub hl [4, 3, 2, 1, 0] rfl⟩
