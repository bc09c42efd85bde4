theorem dX9_layAhead_0 : decode cX9_layAhead 0 = .ok (.iconst 0, 1) := by decide +kernel
theorem dX9_layAhead_1 : decode cX9_layAhead 1 = .ok (.istore_n 2, 1) := by decide +kernel
theorem dX9_layAhead_2 : decode cX9_layAhead 2 = .ok (.iload_n 2, 1) := by decide +kernel
theorem dX9_layAhead_3 : decode cX9_layAhead 3 = .ok (.bipush 25, 2) := by decide +kernel
theorem dX9_layAhead_5 : decode cX9_layAhead 5 = .ok (.if_icmp .ge 18, 3) := by decide +kernel
theorem dX9_layAhead_8 : decode cX9_layAhead 8 = .ok (.aload_n 0, 1) := by decide +kernel
theorem dX9_layAhead_9 : decode cX9_layAhead 9 = .ok (.getfield 71, 3) := by decide +kernel
theorem dX9_layAhead_12 : decode cX9_layAhead 12 = .ok (.iload_n 2, 1) := by decide +kernel
theorem dX9_layAhead_13 : decode cX9_layAhead 13 = .ok (.ldc_w 327, 3) := by decide +kernel
theorem dX9_layAhead_16 : decode cX9_layAhead 16 = .ok (.iastore, 1) := by decide +kernel
theorem dX9_layAhead_17 : decode cX9_layAhead 17 = .ok (.iinc 2 1, 3) := by decide +kernel
theorem dX9_layAhead_20 : decode cX9_layAhead 20 = .ok (.goto (-18), 3) := by decide +kernel
theorem dX9_layAhead_23 : decode cX9_layAhead 23 = .ok (.iconst 0, 1) := by decide +kernel
theorem dX9_layAhead_24 : decode cX9_layAhead 24 = .ok (.istore_n 2, 1) := by decide +kernel
theorem dX9_layAhead_25 : decode cX9_layAhead 25 = .ok (.iload_n 2, 1) := by decide +kernel
theorem dX9_layAhead_26 : decode cX9_layAhead 26 = .ok (.aload_n 0, 1) := by decide +kernel
theorem dX9_layAhead_27 : decode cX9_layAhead 27 = .ok (.getfield 328, 3) := by decide +kernel
theorem dX9_layAhead_30 : decode cX9_layAhead 30 = .ok (.if_icmp .ge 27, 3) := by decide +kernel
theorem dX9_layAhead_33 : decode cX9_layAhead 33 = .ok (.aload_n 0, 1) := by decide +kernel
theorem dX9_layAhead_34 : decode cX9_layAhead 34 = .ok (.getfield 71, 3) := by decide +kernel
theorem dX9_layAhead_37 : decode cX9_layAhead 37 = .ok (.iconst 5, 1) := by decide +kernel
theorem dX9_layAhead_38 : decode cX9_layAhead 38 = .ok (.iload_n 2, 1) := by decide +kernel
theorem dX9_layAhead_39 : decode cX9_layAhead 39 = .ok (.imul, 1) := by decide +kernel
theorem dX9_layAhead_40 : decode cX9_layAhead 40 = .ok (.iload_n 2, 1) := by decide +kernel
theorem dX9_layAhead_41 : decode cX9_layAhead 41 = .ok (.iadd, 1) := by decide +kernel
theorem dX9_layAhead_42 : decode cX9_layAhead 42 = .ok (.iconst 1, 1) := by decide +kernel
theorem dX9_layAhead_43 : decode cX9_layAhead 43 = .ok (.iastore, 1) := by decide +kernel
theorem dX9_layAhead_44 : decode cX9_layAhead 44 = .ok (.aload_n 0, 1) := by decide +kernel
theorem dX9_layAhead_45 : decode cX9_layAhead 45 = .ok (.getfield 71, 3) := by decide +kernel
theorem dX9_layAhead_48 : decode cX9_layAhead 48 = .ok (.iload_n 2, 1) := by decide +kernel
theorem dX9_layAhead_49 : decode cX9_layAhead 49 = .ok (.iconst 1, 1) := by decide +kernel
theorem dX9_layAhead_50 : decode cX9_layAhead 50 = .ok (.iastore, 1) := by decide +kernel
theorem dX9_layAhead_51 : decode cX9_layAhead 51 = .ok (.iinc 2 1, 3) := by decide +kernel
theorem dX9_layAhead_54 : decode cX9_layAhead 54 = .ok (.goto (-29), 3) := by decide +kernel
theorem dX9_layAhead_57 : decode cX9_layAhead 57 = .ok (.aload_n 0, 1) := by decide +kernel
theorem dX9_layAhead_58 : decode cX9_layAhead 58 = .ok (.aload_n 0, 1) := by decide +kernel
theorem dX9_layAhead_59 : decode cX9_layAhead 59 = .ok (.getfield 71, 3) := by decide +kernel
theorem dX9_layAhead_62 : decode cX9_layAhead 62 = .ok (.iload_n 1, 1) := by decide +kernel
theorem dX9_layAhead_63 : decode cX9_layAhead 63 = .ok (.invokevirtual 342, 3) := by decide +kernel
theorem dX9_layAhead_66 : decode cX9_layAhead 66 = .ok (.aload_n 0, 1) := by decide +kernel
theorem dX9_layAhead_67 : decode cX9_layAhead 67 = .ok (.aload_n 0, 1) := by decide +kernel
theorem dX9_layAhead_68 : decode cX9_layAhead 68 = .ok (.getfield 71, 3) := by decide +kernel
theorem dX9_layAhead_71 : decode cX9_layAhead 71 = .ok (.bipush 100, 2) := by decide +kernel
theorem dX9_layAhead_73 : decode cX9_layAhead 73 = .ok (.aload_n 0, 1) := by decide +kernel
theorem dX9_layAhead_74 : decode cX9_layAhead 74 = .ok (.iload_n 1, 1) := by decide +kernel
theorem dX9_layAhead_75 : decode cX9_layAhead 75 = .ok (.invokevirtual 289, 3) := by decide +kernel
theorem dX9_layAhead_78 : decode cX9_layAhead 78 = .ok (.iadd, 1) := by decide +kernel
theorem dX9_layAhead_79 : decode cX9_layAhead 79 = .ok (.invokevirtual 342, 3) := by decide +kernel
theorem dX9_layAhead_82 : decode cX9_layAhead 82 = .ok (.iconst 0, 1) := by decide +kernel
theorem dX9_layAhead_83 : decode cX9_layAhead 83 = .ok (.istore_n 2, 1) := by decide +kernel
theorem dX9_layAhead_84 : decode cX9_layAhead 84 = .ok (.iload_n 2, 1) := by decide +kernel
theorem dX9_layAhead_85 : decode cX9_layAhead 85 = .ok (.aload_n 0, 1) := by decide +kernel
theorem dX9_layAhead_86 : decode cX9_layAhead 86 = .ok (.bipush 100, 2) := by decide +kernel
theorem dX9_layAhead_88 : decode cX9_layAhead 88 = .ok (.aload_n 0, 1) := by decide +kernel
theorem dX9_layAhead_89 : decode cX9_layAhead 89 = .ok (.iload_n 1, 1) := by decide +kernel
theorem dX9_layAhead_90 : decode cX9_layAhead 90 = .ok (.invokevirtual 292, 3) := by decide +kernel
theorem dX9_layAhead_93 : decode cX9_layAhead 93 = .ok (.iadd, 1) := by decide +kernel
theorem dX9_layAhead_94 : decode cX9_layAhead 94 = .ok (.invokevirtual 295, 3) := by decide +kernel
theorem dX9_layAhead_97 : decode cX9_layAhead 97 = .ok (.if_icmp .ge 72, 3) := by decide +kernel
theorem dX9_layAhead_100 : decode cX9_layAhead 100 = .ok (.aload_n 0, 1) := by decide +kernel
theorem dX9_layAhead_101 : decode cX9_layAhead 101 = .ok (.bipush 100, 2) := by decide +kernel
theorem dX9_layAhead_103 : decode cX9_layAhead 103 = .ok (.aload_n 0, 1) := by decide +kernel
theorem dX9_layAhead_104 : decode cX9_layAhead 104 = .ok (.iload_n 1, 1) := by decide +kernel
theorem dX9_layAhead_105 : decode cX9_layAhead 105 = .ok (.invokevirtual 292, 3) := by decide +kernel
theorem dX9_layAhead_108 : decode cX9_layAhead 108 = .ok (.iadd, 1) := by decide +kernel
theorem dX9_layAhead_109 : decode cX9_layAhead 109 = .ok (.iload_n 2, 1) := by decide +kernel
theorem dX9_layAhead_110 : decode cX9_layAhead 110 = .ok (.invokevirtual 311, 3) := by decide +kernel
theorem dX9_layAhead_113 : decode cX9_layAhead 113 = .ok (.istore_n 3, 1) := by decide +kernel
theorem dX9_layAhead_114 : decode cX9_layAhead 114 = .ok (.aload_n 0, 1) := by decide +kernel
theorem dX9_layAhead_115 : decode cX9_layAhead 115 = .ok (.iload_n 1, 1) := by decide +kernel
theorem dX9_layAhead_116 : decode cX9_layAhead 116 = .ok (.invokevirtual 305, 3) := by decide +kernel
theorem dX9_layAhead_119 : decode cX9_layAhead 119 = .ok (.aload_n 0, 1) := by decide +kernel
theorem dX9_layAhead_120 : decode cX9_layAhead 120 = .ok (.getfield 34, 3) := by decide +kernel
theorem dX9_layAhead_123 : decode cX9_layAhead 123 = .ok (.iload_n 3, 1) := by decide +kernel
theorem dX9_layAhead_124 : decode cX9_layAhead 124 = .ok (.iaload, 1) := by decide +kernel
theorem dX9_layAhead_125 : decode cX9_layAhead 125 = .ok (.invokestatic 248, 3) := by decide +kernel
theorem dX9_layAhead_128 : decode cX9_layAhead 128 = .ok (.ifCond .ne 15, 3) := by decide +kernel
theorem dX9_layAhead_131 : decode cX9_layAhead 131 = .ok (.aload_n 0, 1) := by decide +kernel
theorem dX9_layAhead_132 : decode cX9_layAhead 132 = .ok (.aload_n 0, 1) := by decide +kernel
theorem dX9_layAhead_133 : decode cX9_layAhead 133 = .ok (.getfield 71, 3) := by decide +kernel
theorem dX9_layAhead_136 : decode cX9_layAhead 136 = .ok (.iload_n 3, 1) := by decide +kernel
theorem dX9_layAhead_137 : decode cX9_layAhead 137 = .ok (.invokevirtual 338, 3) := by decide +kernel
theorem dX9_layAhead_140 : decode cX9_layAhead 140 = .ok (.goto 23, 3) := by decide +kernel
theorem dX9_layAhead_143 : decode cX9_layAhead 143 = .ok (.aload_n 0, 1) := by decide +kernel
theorem dX9_layAhead_144 : decode cX9_layAhead 144 = .ok (.getfield 37, 3) := by decide +kernel
theorem dX9_layAhead_147 : decode cX9_layAhead 147 = .ok (.iload_n 3, 1) := by decide +kernel
theorem dX9_layAhead_148 : decode cX9_layAhead 148 = .ok (.iaload, 1) := by decide +kernel
theorem dX9_layAhead_149 : decode cX9_layAhead 149 = .ok (.ifCond .ne 14, 3) := by decide +kernel
theorem dX9_layAhead_152 : decode cX9_layAhead 152 = .ok (.aload_n 0, 1) := by decide +kernel
theorem dX9_layAhead_153 : decode cX9_layAhead 153 = .ok (.getfield 40, 3) := by decide +kernel
theorem dX9_layAhead_156 : decode cX9_layAhead 156 = .ok (.iload_n 3, 1) := by decide +kernel
theorem dX9_layAhead_157 : decode cX9_layAhead 157 = .ok (.iaload, 1) := by decide +kernel
theorem dX9_layAhead_158 : decode cX9_layAhead 158 = .ok (.ifCond .ne 5, 3) := by decide +kernel
theorem dX9_layAhead_161 : decode cX9_layAhead 161 = .ok (.iconst 0, 1) := by decide +kernel
theorem dX9_layAhead_162 : decode cX9_layAhead 162 = .ok (.ireturn, 1) := by decide +kernel
theorem dX9_layAhead_163 : decode cX9_layAhead 163 = .ok (.iinc 2 1, 3) := by decide +kernel
theorem dX9_layAhead_166 : decode cX9_layAhead 166 = .ok (.goto (-82), 3) := by decide +kernel
theorem dX9_layAhead_169 : decode cX9_layAhead 169 = .ok (.aload_n 0, 1) := by decide +kernel
theorem dX9_layAhead_170 : decode cX9_layAhead 170 = .ok (.aload_n 0, 1) := by decide +kernel
theorem dX9_layAhead_171 : decode cX9_layAhead 171 = .ok (.getfield 71, 3) := by decide +kernel
theorem dX9_layAhead_174 : decode cX9_layAhead 174 = .ok (.invokevirtual 345, 3) := by decide +kernel
theorem dX9_layAhead_177 : decode cX9_layAhead 177 = .ok (.ifCond .ne 5, 3) := by decide +kernel
theorem dX9_layAhead_180 : decode cX9_layAhead 180 = .ok (.iconst 0, 1) := by decide +kernel
theorem dX9_layAhead_181 : decode cX9_layAhead 181 = .ok (.ireturn, 1) := by decide +kernel
theorem dX9_layAhead_182 : decode cX9_layAhead 182 = .ok (.aload_n 0, 1) := by decide +kernel
theorem dX9_layAhead_183 : decode cX9_layAhead 183 = .ok (.aload_n 0, 1) := by decide +kernel
theorem dX9_layAhead_184 : decode cX9_layAhead 184 = .ok (.iload_n 1, 1) := by decide +kernel
theorem dX9_layAhead_185 : decode cX9_layAhead 185 = .ok (.invokevirtual 289, 3) := by decide +kernel
theorem dX9_layAhead_188 : decode cX9_layAhead 188 = .ok (.invokevirtual 324, 3) := by decide +kernel
theorem dX9_layAhead_191 : decode cX9_layAhead 191 = .ok (.ifCond .ne 35, 3) := by decide +kernel
theorem dX9_layAhead_194 : decode cX9_layAhead 194 = .ok (.iconst 1, 1) := by decide +kernel
theorem dX9_layAhead_195 : decode cX9_layAhead 195 = .ok (.istore_n 2, 1) := by decide +kernel
theorem dX9_layAhead_196 : decode cX9_layAhead 196 = .ok (.iload_n 2, 1) := by decide +kernel
theorem dX9_layAhead_197 : decode cX9_layAhead 197 = .ok (.aload_n 0, 1) := by decide +kernel
theorem dX9_layAhead_198 : decode cX9_layAhead 198 = .ok (.getfield 328, 3) := by decide +kernel
theorem dX9_layAhead_201 : decode cX9_layAhead 201 = .ok (.if_icmp .ge 16, 3) := by decide +kernel
theorem dX9_layAhead_204 : decode cX9_layAhead 204 = .ok (.aload_n 0, 1) := by decide +kernel
theorem dX9_layAhead_205 : decode cX9_layAhead 205 = .ok (.getfield 71, 3) := by decide +kernel
theorem dX9_layAhead_208 : decode cX9_layAhead 208 = .ok (.iload_n 2, 1) := by decide +kernel
theorem dX9_layAhead_209 : decode cX9_layAhead 209 = .ok (.iconst 1, 1) := by decide +kernel
theorem dX9_layAhead_210 : decode cX9_layAhead 210 = .ok (.iastore, 1) := by decide +kernel
theorem dX9_layAhead_211 : decode cX9_layAhead 211 = .ok (.iinc 2 1, 3) := by decide +kernel
theorem dX9_layAhead_214 : decode cX9_layAhead 214 = .ok (.goto (-18), 3) := by decide +kernel
theorem dX9_layAhead_217 : decode cX9_layAhead 217 = .ok (.aload_n 0, 1) := by decide +kernel
theorem dX9_layAhead_218 : decode cX9_layAhead 218 = .ok (.aload_n 0, 1) := by decide +kernel
theorem dX9_layAhead_219 : decode cX9_layAhead 219 = .ok (.getfield 71, 3) := by decide +kernel
theorem dX9_layAhead_222 : decode cX9_layAhead 222 = .ok (.invokevirtual 345, 3) := by decide +kernel
theorem dX9_layAhead_225 : decode cX9_layAhead 225 = .ok (.pop, 1) := by decide +kernel
theorem dX9_layAhead_226 : decode cX9_layAhead 226 = .ok (.iconst 1, 1) := by decide +kernel
theorem dX9_layAhead_227 : decode cX9_layAhead 227 = .ok (.ireturn, 1) := by decide +kernel
abbrev vs_EM_layAhead : List Cond := .code yX9_layAhead cX9_layAhead 4 (some .boolean) :: VM
theorem g_EM_layAhead_EM_holdsAll_e : GoodIn vs_EM_layAhead (wsV RX9 342 RX9 yX9_holdsAll vs_EM_holdsAll_e) := gm_V vm_204 vm_205 vm_206 vm_19 vm_207
theorem g_EM_layAhead_EM_outOf : GoodIn vs_EM_layAhead (wsV RX9 289 RX9 yX9_outOf vs_EM_outOf) := gm_V vm_41 vm_42 vm_43 vm_19 vm_44
theorem g_EM_layAhead_EM_holdsAll_p : GoodIn vs_EM_layAhead (wsV RX9 342 RX9 yX9_holdsAll vs_EM_holdsAll_p) := gm_V vm_204 vm_205 vm_206 vm_19 vm_207
theorem g_EM_layAhead_EM_into : GoodIn vs_EM_layAhead (wsV RX9 292 RX9 yX9_into vs_EM_into) := gm_V vm_37 vm_38 vm_39 vm_19 vm_40
theorem g_EM_layAhead_EM_manyOf_p : GoodIn vs_EM_layAhead (wsV RX9 295 RX9 yX9_manyOf vs_EM_manyOf_p) := gm_V vm_152 vm_153 vm_154 vm_19 vm_155
theorem g_EM_layAhead_EM_closes_z : GoodIn vs_EM_layAhead (wsV RX9 345 RX9 yX9_closes vs_EM_closes_z) := gm_V vm_208 vm_209 vm_210 vm_19 vm_211
theorem g_EM_layAhead_EM_isUrgent : GoodIn vs_EM_layAhead (wsV RX9 324 RX9 yX9_isUrgent vs_EM_isUrgent) := gm_V vm_189 vm_190 vm_191 vm_19 vm_192
theorem g_EM_layAhead_EM_spot_p : GoodIn vs_EM_layAhead (wsV RX9 311 RX9 yX9_spot vs_EM_spot_p) := gm_V vm_160 vm_161 vm_162 vm_19 vm_163
theorem g_EM_layAhead_EM_setBy : GoodIn vs_EM_layAhead (wsV RX9 305 RX9 yX9_setBy vs_EM_setBy) := gm_V vm_171 vm_172 vm_173 vm_19 vm_174
theorem g_EM_layAhead_EM_isOf : GoodIn vs_EM_layAhead (va_wsS RX9 248 yX9_isOf vs_EM_isOf) := gm_S vm_114 vm_115 vm_19 vm_116
theorem g_EM_layAhead_EM_holds : GoodIn vs_EM_layAhead (wsV RX9 338 RX9 yX9_holds vs_EM_holds) := gm_V vm_200 vm_201 vm_202 vm_19 vm_203
noncomputable def sp_EM_layAhead_L1 (x46 : Nat) : ((Nat → Int32) × Nat) → ((Nat → Int32) × Nat) ⊕ (Nat × (Nat → Int32)) := fun (g_57, g_58) => (if x46 ≤ g_58 then (Sum.inr (slet (sp_EM_closes_z x46 g_57) (fun (u_68, z35_67) => (1, z35_67)))) else (slet (upd g_57 g_58 1) (fun f_69 => (Sum.inl (f_69, (g_58 + 1))))))
noncomputable def sp_EM_layAhead_L2 (x46 : Nat) : ((Nat → Int32) × Nat) → ((Nat → Int32) × Nat) ⊕ (Nat × (Nat → Int32)) := fun (g_82, g_83) => (if x46 ≤ g_83 then (Sum.inr (slet (sp_EM_closes_z x46 g_82) (fun (u_93, z35_92) => (1, z35_92)))) else (slet (upd g_82 g_83 1) (fun f_94 => (Sum.inl (f_94, (g_83 + 1))))))
noncomputable def sp_EM_layAhead_L3 (x16 : Nat) (x46 : Nat) (f3 : Nat → Int32) (q4 : Nat → Nat) (q5 : Nat → Nat) (q6 : Nat → Nat) (f8 : Nat → Int32) (q9 : Nat → Nat) (q10 : Nat → Nat) (f11 : Nat → Int32) (m13_0 : Nat) (m13_1 : Nat) (a0 : Nat) : ((Nat → Int32) × Nat) → ((Nat → Int32) × Nat) ⊕ (Nat × (Nat → Int32)) := fun (g_32, g_33) => (slet (sp_EM_into x16 q6 a0) (fun u_41 => (slet (sp_EM_manyOf_p x16 q4 m13_0 m13_1 (100 + u_41)) (fun u_44 => (if u_44 = 0 then (Sum.inr (slet (sp_EM_closes_z x46 g_32) (fun (u_48, z35_47) => (if u_48 = 0 then (0, z35_47) else (slet (sp_EM_outOf x16 q5 a0) (fun u_51 => (slet (sp_EM_isUrgent x16 f3 u_51) (fun u_53 => (if u_53 = 0 then (itrv (α := (Nat → Int32) × Nat) (β := (Nat × (Nat → Int32))) default (sp_EM_layAhead_L1 x46) (z35_47, 1)) else (1, z35_47)))))))))) else (slet (u_44 - 1) (fun n_45 => (if n_45 ≤ g_33 then (Sum.inr (slet (sp_EM_closes_z x46 g_32) (fun (u_73, z35_72) => (if u_73 = 0 then (0, z35_72) else (slet (sp_EM_outOf x16 q5 a0) (fun u_76 => (slet (sp_EM_isUrgent x16 f3 u_76) (fun u_78 => (if u_78 = 0 then (itrv (α := (Nat → Int32) × Nat) (β := (Nat × (Nat → Int32))) default (sp_EM_layAhead_L2 x46) (z35_72, 1)) else (1, z35_72)))))))))) else (slet (sp_EM_into x16 q6 a0) (fun u_96 => (slet (sp_EM_setBy x16 f8 a0) (fun r_99 => (slet (min (q9 (80 * x16 + (56 + 3 * ((100 + u_96) - 100)) + g_33)) 2) (fun u_101 => (slet (sp_EM_isOf r_99 (nI u_101)) (fun u_103 => (if u_103 = 0 then (slet (sp_EM_holds q9 q10 f11 g_32 (80 * x16 + (56 + 3 * ((100 + u_96) - 100)) + g_33)) (fun z35_111 => (Sum.inl (z35_111, (g_33 + 1))))) else (slet (min (q10 (80 * x16 + (56 + 3 * ((100 + u_96) - 100)) + g_33)) (if (80 * x16 + (56 + 3 * ((100 + u_96) - 100)) + g_33) % 80 < 56 then 4 else 1)) (fun u_106 => (if u_106 = 0 then (slet (f11 (80 * x16 + (56 + 3 * ((100 + u_96) - 100)) + g_33)) (fun y_108 => (if (y_108 : Int32) = 0 then (Sum.inr (0, g_32)) else (Sum.inl (g_32, (g_33 + 1)))))) else (Sum.inl (g_32, (g_33 + 1)))))))))))))))))))))))
noncomputable def sp_EM_layAhead_L4 (x16 : Nat) (x46 : Nat) (f3 : Nat → Int32) (q4 : Nat → Nat) (q5 : Nat → Nat) (q6 : Nat → Nat) (q7 : Nat → Nat) (f8 : Nat → Int32) (q9 : Nat → Nat) (q10 : Nat → Nat) (f11 : Nat → Int32) (m13_0 : Nat) (m13_1 : Nat) (m14_0 : Nat) (m14_1 : Nat) (a0 : Nat) : ((Nat → Int32) × Nat) → ((Nat → Int32) × Nat) ⊕ (Nat × (Nat → Int32)) := fun (g_14, g_15) => (if x46 ≤ g_15 then (Sum.inr (slet (sp_EM_holdsAll_e x16 q7 q9 q10 f11 m13_0 m13_1 m14_0 m14_1 g_14 a0) (fun z35_24 => (slet (sp_EM_outOf x16 q5 a0) (fun u_26 => (slet (sp_EM_holdsAll_p x16 q4 q9 q10 f11 m13_0 m13_1 z35_24 (100 + u_26)) (fun z35_29 => (itrv (α := (Nat → Int32) × Nat) (β := (Nat × (Nat → Int32))) default (sp_EM_layAhead_L3 x16 x46 f3 q4 q5 q6 f8 q9 q10 f11 m13_0 m13_1 a0) (z35_29, 0))))))))) else (slet (upd g_14 ((5 * g_15) + g_15) 1) (fun f_114 => (slet (upd f_114 g_15 1) (fun f_115 => (Sum.inl (f_115, (g_15 + 1))))))))
noncomputable def sp_EM_layAhead_L5 (x16 : Nat) (x46 : Nat) (f3 : Nat → Int32) (q4 : Nat → Nat) (q5 : Nat → Nat) (q6 : Nat → Nat) (q7 : Nat → Nat) (f8 : Nat → Int32) (q9 : Nat → Nat) (q10 : Nat → Nat) (f11 : Nat → Int32) (m13_0 : Nat) (m13_1 : Nat) (m14_0 : Nat) (m14_1 : Nat) (a0 : Nat) : ((Nat → Int32) × Nat) → ((Nat → Int32) × Nat) ⊕ (Nat × (Nat → Int32)) := fun (g_3, g_4) => (if 25 ≤ g_4 then (Sum.inr (itrv (α := (Nat → Int32) × Nat) (β := (Nat × (Nat → Int32))) default (sp_EM_layAhead_L4 x16 x46 f3 q4 q5 q6 q7 f8 q9 q10 f11 m13_0 m13_1 m14_0 m14_1 a0) (g_3, 0))) else (slet (upd g_3 g_4 1048576) (fun f_116 => (Sum.inl (f_116, (g_4 + 1))))))
noncomputable def sp_EM_layAhead (x16 : Nat) (x46 : Nat) (f3 : Nat → Int32) (q4 : Nat → Nat) (q5 : Nat → Nat) (q6 : Nat → Nat) (q7 : Nat → Nat) (f8 : Nat → Int32) (q9 : Nat → Nat) (q10 : Nat → Nat) (f11 : Nat → Int32) (m13_0 : Nat) (m13_1 : Nat) (m14_0 : Nat) (m14_1 : Nat) (f35 : Nat → Int32) (a0 : Nat) : Nat × (Nat → Int32) := (itrv (α := (Nat → Int32) × Nat) (β := (Nat × (Nat → Int32))) default (sp_EM_layAhead_L5 x16 x46 f3 q4 q5 q6 q7 f8 q9 q10 f11 m13_0 m13_1 m14_0 m14_1 a0) (f35, 0))
set_option maxHeartbeats 4000000 in
set_option maxRecDepth 100000 in
theorem c_EM_layAhead (l : Launch) (dC : Nat → ClassId) (dI : Nat → Nat → Nat) (sz : Nat) (ad : Nat → Nat) (ck : Nat → ClassId) (x0 : Int32) (x16 : Nat) (x18 : Nat) (x19 : Nat) (x20 : Int32) (x21 : Nat) (x22 : Nat) (x23 : Int32) (x24 : Int32) (x25 : Int32) (x26 : Nat) (x27 : Int32) (x28 : Nat) (x29 : Nat) (x30 : Nat) (x33 : Nat) (x45 : Int32) (x46 : Nat) (x52 : Nat) (x53 : Nat) (x61 : Nat) (x62 : Nat) (x63 : Nat) (x65 : Nat) (x66 : Int32) (f1 : Nat → Int32) (f2 : Nat → Int32) (f3 : Nat → Int32) (q4 : Nat → Nat) (q5 : Nat → Nat) (q6 : Nat → Nat) (q7 : Nat → Nat) (f8 : Nat → Int32) (q9 : Nat → Nat) (q10 : Nat → Nat) (f11 : Nat → Int32) (m12_0 m12_1 : Nat) (m13_0 m13_1 : Nat) (m14_0 m14_1 : Nat) (m15_0 m15_1 : Nat) (f17 : Nat → Int32) (q31 : Nat → Nat) (f32 : Nat → Int32) (f34 : Nat → Int32) (f35 : Nat → Int32) (f36 : Nat → Int32) (f37 : Nat → Int32) (q38 : Nat → Nat) (f39 : Nat → Int32) (f40 : Nat → Int32) (f41 : Nat → Int32) (m42_0 m42_1 : Nat) (f43 : Nat → Int32) (f44 : Nat → Int32) (f47 : Nat → Int32) (f48 : Nat → Int32) (f49 : Nat → Int32) (f50 : Nat → Int32) (f51 : Nat → Int32) (q54 : Nat → Nat) (q55 : Nat → Nat) (q56 : Nat → Nat) (f57 : Nat → Int32) (q58 : Nat → Nat) (f59 : Nat → Int32) (f60 : Nat → Int32) (f64 : Nat → Int32) (a0 : Nat) (hx16 : x16 ≤ 1) (hx18 : x18 ≤ 900) (hx19 : x19 ≤ 900) (hx21 : x21 ≤ 900) (hx22 : x22 ≤ 4) (hx26 : x26 ≤ 6) (hx28 : x28 ≤ 1) (hx29 : x29 ≤ 1) (hx30 : x30 ≤ 1) (hx33 : x33 ≤ 20) (hx46 : x46 ≤ 5) (hx52 : x52 ≤ 2400) (hx53 : x53 ≤ 119) (hx61 : x61 ≤ 119) (hx62 : x62 ≤ 2000) (hx63 : x63 ≤ 1) (hx65 : x65 ≤ 7) (hm12_0 : m12_0 ≤ 3) (hm12_1 : m12_1 ≤ 3) (hm13_0 : m13_0 ≤ 8) (hm13_1 : m13_1 ≤ 8) (hm14_0 : m14_0 ≤ 14) (hm14_1 : m14_1 ≤ 14) (hm15_0 : m15_0 ≤ 8) (hm15_1 : m15_1 ≤ 8) (hm42_0 : m42_0 ≤ 120) (hm42_1 : m42_1 ≤ 400) (ha0 : a0 ≤ 13) : Met l yX9_layAhead vs_EM_layAhead ({ frames := 4, cells := 0, slots := 0, locals := 90 }) (va_Pc [.ref (ad 0), .int (nI a0)] (pu_B (dC, dI) (mo_w ad ck x0 (nI x16) (nI x18) (nI x19) x20 (nI x21) (nI x22) x23 x24 x25 (nI x26) x27 (nI x28) (nI x29) (nI x30) (nI x33) x45 (nI x46) (nI x52) (nI x53) (nI x61) (nI x62) (nI x63) (nI x65) x66 f1 f2 f3 (bN 3 q4) (bN 7 q5) (bN 7 q6) (bN 4 q7) f8 (bN 2 q9) (bH q10) f11 (b2 m12_0 m12_1) (b2 m13_0 m13_1) (b2 m14_0 m14_1) (b2m m15_0 m15_1) f17 (bA 159 q31) f32 f34 f35 f36 f37 (bN 7 q38) f39 f40 f41 (b2 m42_0 m42_1) f43 f44 f47 f48 f49 f50 f51 (bN 13 q54) (bN 120 q55) (bN 120 q56) f57 (bN 120 q58) f59 f60 f64) (mo_t ck) sz)) (va_Qi (fun (r : Int32) (_ : Unit) => ∃ v : Nat, v ≤ 1 ∧ r = nI v ∧ v = (sp_EM_layAhead x16 x46 f3 q4 q5 q6 q7 f8 q9 q10 f11 m13_0 m13_1 m14_0 m14_1 f35 a0).1) (fun _ t => ∃ (z35 : Nat → Int32), pu_E (dC, dI) (mo_w ad ck x0 (nI x16) (nI x18) (nI x19) x20 (nI x21) (nI x22) x23 x24 x25 (nI x26) x27 (nI x28) (nI x29) (nI x30) (nI x33) x45 (nI x46) (nI x52) (nI x53) (nI x61) (nI x62) (nI x63) (nI x65) x66 f1 f2 f3 (bN 3 q4) (bN 7 q5) (bN 7 q6) (bN 4 q7) f8 (bN 2 q9) (bH q10) f11 (b2 m12_0 m12_1) (b2 m13_0 m13_1) (b2 m14_0 m14_1) (b2m m15_0 m15_1) f17 (bA 159 q31) f32 f34 z35 f36 f37 (bN 7 q38) f39 f40 f41 (b2 m42_0 m42_1) f43 f44 f47 f48 f49 f50 f51 (bN 13 q54) (bN 120 q55) (bN 120 q56) f57 (bN 120 q58) f59 f60 f64) (mo_t ck) (va_A ((mo_w ad ck x0 (nI x16) (nI x18) (nI x19) x20 (nI x21) (nI x22) x23 x24 x25 (nI x26) x27 (nI x28) (nI x29) (nI x30) (nI x33) x45 (nI x46) (nI x52) (nI x53) (nI x61) (nI x62) (nI x63) (nI x65) x66 f1 f2 f3 (bN 3 q4) (bN 7 q5) (bN 7 q6) (bN 4 q7) f8 (bN 2 q9) (bH q10) f11 (b2 m12_0 m12_1) (b2 m13_0 m13_1) (b2 m14_0 m14_1) (b2m m15_0 m15_1) f17 (bA 159 q31) f32 f34 f35 f36 f37 (bN 7 q38) f39 f40 f41 (b2 m42_0 m42_1) f43 f44 f47 f48 f49 f50 f51 (bN 13 q54) (bN 120 q55) (bN 120 q56) f57 (bN 120 q58) f59 f60 f64)) sz) t ∧ (z35 = (sp_EM_layAhead x16 x46 f3 q4 q5 q6 q7 f8 q9 q10 f11 m13_0 m13_1 m14_0 m14_1 f35 a0).2)) (va_A ((mo_w ad ck x0 (nI x16) (nI x18) (nI x19) x20 (nI x21) (nI x22) x23 x24 x25 (nI x26) x27 (nI x28) (nI x29) (nI x30) (nI x33) x45 (nI x46) (nI x52) (nI x53) (nI x61) (nI x62) (nI x63) (nI x65) x66 f1 f2 f3 (bN 3 q4) (bN 7 q5) (bN 7 q6) (bN 4 q7) f8 (bN 2 q9) (bH q10) f11 (b2 m12_0 m12_1) (b2 m13_0 m13_1) (b2 m14_0 m14_1) (b2m m15_0 m15_1) f17 (bA 159 q31) f32 f34 f35 f36 f37 (bN 7 q38) f39 f40 f41 (b2 m42_0 m42_1) f43 f44 f47 f48 f49 f50 f51 (bN 13 q54) (bN 120 q55) (bN 120 q56) f57 (bN 120 q58) f59 f60 f64)) sz)) 0 0 (va_A ((mo_w ad ck x0 (nI x16) (nI x18) (nI x19) x20 (nI x21) (nI x22) x23 x24 x25 (nI x26) x27 (nI x28) (nI x29) (nI x30) (nI x33) x45 (nI x46) (nI x52) (nI x53) (nI x61) (nI x62) (nI x63) (nI x65) x66 f1 f2 f3 (bN 3 q4) (bN 7 q5) (bN 7 q6) (bN 4 q7) f8 (bN 2 q9) (bH q10) f11 (b2 m12_0 m12_1) (b2 m13_0 m13_1) (b2 m14_0 m14_1) (b2m m15_0 m15_1) f17 (bA 159 q31) f32 f34 f35 f36 f37 (bN 7 q38) f39 f40 f41 (b2 m42_0 m42_1) f43 f44 f47 f48 f49 f50 f51 (bN 13 q54) (bN 120 q55) (bN 120 q56) f57 (bN 120 q58) f59 f60 f64)) sz) := by
  refine Met.ofW (cc := cX9_layAhead) (maxL := 4) (ret := (some .boolean)) (by decide) rfl ?_
  intro p e s m args below meth c s₁ B hml hv
  obtain ⟨rfl, rfl, hP, hK, hD0⟩ := hv
  have hx := B.exec
  have hb := B.bytes
  have hr := B.returns
  have hts := atoms_spec (ws := vs_EM_layAhead) B.pre
  have v_1 := hts (.fieldLink RX9 71 "ClockReachModel" "z" "[I") (List.mem_cons_of_mem _ vm_219)
  have v_2 := hts (.constant RX9 327 (1048576)) (List.mem_cons_of_mem _ vm_46)
  have v_3 := hts (.fieldLink RX9 328 "ClockReachModel" "side" "I") (List.mem_cons_of_mem _ vm_196)
  have v_37 := hts (.fieldLink RX9 34 "ClockReachModel" "ofClock" "[I") (List.mem_cons_of_mem _ vm_98)
  have v_41 := hts (.fieldLink RX9 37 "ClockReachModel" "how" "[I") (List.mem_cons_of_mem _ vm_99)
  have v_42 := hts (.fieldLink RX9 40 "ClockReachModel" "limit" "[I") (List.mem_cons_of_mem _ vm_100)
  have hown : s.vm.findClass RX9 = some m.cls := findClass_of_methodNamed B.named
  have hlocks := B.notSynchronized
  have hiX9 : ∀ w ∈ wsX90, w ∈ vs_EM_layAhead := fun _ h => List.mem_cons_of_mem _ (vmi_L h)
  have hD := hD0.self (sz := s.heap.size)
  generalize hAe : va_A ((mo_w ad ck x0 (nI x16) (nI x18) (nI x19) x20 (nI x21) (nI x22) x23 x24 x25 (nI x26) x27 (nI x28) (nI x29) (nI x30) (nI x33) x45 (nI x46) (nI x52) (nI x53) (nI x61) (nI x62) (nI x63) (nI x65) x66 f1 f2 f3 (bN 3 q4) (bN 7 q5) (bN 7 q6) (bN 4 q7) f8 (bN 2 q9) (bH q10) f11 (b2 m12_0 m12_1) (b2 m13_0 m13_1) (b2 m14_0 m14_1) (b2m m15_0 m15_1) f17 (bA 159 q31) f32 f34 f35 f36 f37 (bN 7 q38) f39 f40 f41 (b2 m42_0 m42_1) f43 f44 f47 f48 f49 f50 f51 (bN 13 q54) (bN 120 q55) (bN 120 q56) f57 (bN 120 q58) f59 f60 f64)) s.heap.size = A at hD ⊢
  have hA : ∀ q : Nat, s.heap.size ≤ q → A q := fun q h => by rw [← hAe]; exact Or.inr h
  have hS : va_S A s.heap s.heap [] := va_S.rf
  have hl := lv_entry ([.ref (ad 0), .int (nI a0)]) (n := 4) (Nat.le_of_ble_eq_true rfl)
  rw [lg_entry_eq]
  generalize (lg_sl ([.ref (ad 0), .int (nI a0)]) ++ List.replicate (4 - (lg_sl ([.ref (ad 0), .int (nI a0)])).length) Slot.unset).toArray = ls at hl ⊢
  have hl : lv_has ls 4 [(0, .ref (ad 0)), (1, .int (nI a0))] := hl
  obtain ⟨RR, hRR⟩ : ∃ x, x = (sp_EM_layAhead x16 x46 f3 q4 q5 q6 q7 f8 q9 q10 f11 m13_0 m13_1 m14_0 m14_1 f35 a0) := ⟨_, rfl⟩
  have hsp := hRR
  refine lv_iconst (v := 0) hx hb dX9_layAhead_0 (by decide) ?_
  refine lv_istore_n (lv' := [(2, .int 0), (0, .ref (ad 0)), (1, .int (nI a0))]) hx hb dX9_layAhead_1 rfl hl (by decide) rfl (fun ls hl => ?_)
  obtain ⟨lf_6, dlf_6, hlf_6, hsp⟩ := itr_ex hsp
  delta sp_EM_layAhead_L5 at hlf_6
  refine pu_while (fun nn H locs ls => ∃ (g_3 : Nat → Int32) (g_4 : Nat), nn = 25 - g_4 ∧ g_4 ≤ 25 ∧ RR = itrv dlf_6 lf_6 (g_3, g_4) ∧ va_P (dC, dI) vwCl (mo_w ad ck x0 (nI x16) (nI x18) (nI x19) x20 (nI x21) (nI x22) x23 x24 x25 (nI x26) x27 (nI x28) (nI x29) (nI x30) (nI x33) x45 (nI x46) (nI x52) (nI x53) (nI x61) (nI x62) (nI x63) (nI x65) x66 f1 f2 f3 (bN 3 q4) (bN 7 q5) (bN 7 q6) (bN 4 q7) f8 (bN 2 q9) (bH q10) f11 (b2 m12_0 m12_1) (b2 m13_0 m13_1) (b2 m14_0 m14_1) (b2m m15_0 m15_1) f17 (bA 159 q31) f32 f34 g_3 f36 f37 (bN 7 q38) f39 f40 f41 (b2 m42_0 m42_1) f43 f44 f47 f48 f49 f50 f51 (bN 13 q54) (bN 120 q55) (bN 120 q56) f57 (bN 120 q58) f59 f60 f64) H ∧ va_D A (mo_w ad ck x0 (nI x16) (nI x18) (nI x19) x20 (nI x21) (nI x22) x23 x24 x25 (nI x26) x27 (nI x28) (nI x29) (nI x30) (nI x33) x45 (nI x46) (nI x52) (nI x53) (nI x61) (nI x62) (nI x63) (nI x65) x66 f1 f2 f3 (bN 3 q4) (bN 7 q5) (bN 7 q6) (bN 4 q7) f8 (bN 2 q9) (bH q10) f11 (b2 m12_0 m12_1) (b2 m13_0 m13_1) (b2 m14_0 m14_1) (b2m m15_0 m15_1) f17 (bA 159 q31) f32 f34 g_3 f36 f37 (bN 7 q38) f39 f40 f41 (b2 m42_0 m42_1) f43 f44 f47 f48 f49 f50 f51 (bN 13 q54) (bN 120 q55) (bN 120 q56) f57 (bN 120 q58) f59 f60 f64) ∧ va_S A s.heap H locs ∧ lv_has ls 4 [(0, .ref (ad 0)), (1, .int (nI a0)), (2, .int (nI g_4))]) 2 ?_ _ _ _ _ ⟨f35, 0, rfl, (Nat.le_of_ble_eq_true rfl), hsp, hP, hD, hS, lv_sub hl [1, 2, 0] rfl⟩
  rintro nn ih_5 H locs ls ⟨g_3, g_4, rfl, hg_4, he_8, hP, hD, hS, hl⟩
  obtain ⟨S_7, hsp, hin_9, hout_10⟩ := itr_step hlf_6 he_8
  refine lv_iload_n hx hb dX9_layAhead_2 rfl (lv_at hl 2 rfl) ?_
  refine lv_bipush (v := 25) hx hb dX9_layAhead_3 (by decide) ?_
  refine lv_icmp_ge (tgt := 23) hx hb dX9_layAhead_5 (by decide) (fun c_11 => ?_) (fun c_11 => ?_)
  · have c_11 : 25 ≤ g_4 := (nI_leI (a := 25) (b := g_4) (Nat.le_of_ble_eq_true rfl) (Nat.lt_of_le_of_lt hg_4 (Nat.le_of_ble_eq_true rfl))).mp c_11
    replace hsp := hsp.trans (if_pos c_11)
    have hsp := hout_10 _ hsp
    refine lv_iconst (v := 0) hx hb dX9_layAhead_23 (by decide) ?_
    refine lv_istore_n (lv' := [(2, .int 0), (0, .ref (ad 0)), (1, .int (nI a0))]) hx hb dX9_layAhead_24 rfl hl (by decide) rfl (fun ls hl => ?_)
    obtain ⟨lf_17, dlf_17, hlf_17, hsp⟩ := itr_ex hsp
    delta sp_EM_layAhead_L4 at hlf_17
    refine pu_while (fun nn H locs ls => ∃ (g_14 : Nat → Int32) (g_15 : Nat), nn = 5 - g_15 ∧ g_15 ≤ 5 ∧ RR = itrv dlf_17 lf_17 (g_14, g_15) ∧ va_P (dC, dI) vwCl (mo_w ad ck x0 (nI x16) (nI x18) (nI x19) x20 (nI x21) (nI x22) x23 x24 x25 (nI x26) x27 (nI x28) (nI x29) (nI x30) (nI x33) x45 (nI x46) (nI x52) (nI x53) (nI x61) (nI x62) (nI x63) (nI x65) x66 f1 f2 f3 (bN 3 q4) (bN 7 q5) (bN 7 q6) (bN 4 q7) f8 (bN 2 q9) (bH q10) f11 (b2 m12_0 m12_1) (b2 m13_0 m13_1) (b2 m14_0 m14_1) (b2m m15_0 m15_1) f17 (bA 159 q31) f32 f34 g_14 f36 f37 (bN 7 q38) f39 f40 f41 (b2 m42_0 m42_1) f43 f44 f47 f48 f49 f50 f51 (bN 13 q54) (bN 120 q55) (bN 120 q56) f57 (bN 120 q58) f59 f60 f64) H ∧ va_D A (mo_w ad ck x0 (nI x16) (nI x18) (nI x19) x20 (nI x21) (nI x22) x23 x24 x25 (nI x26) x27 (nI x28) (nI x29) (nI x30) (nI x33) x45 (nI x46) (nI x52) (nI x53) (nI x61) (nI x62) (nI x63) (nI x65) x66 f1 f2 f3 (bN 3 q4) (bN 7 q5) (bN 7 q6) (bN 4 q7) f8 (bN 2 q9) (bH q10) f11 (b2 m12_0 m12_1) (b2 m13_0 m13_1) (b2 m14_0 m14_1) (b2m m15_0 m15_1) f17 (bA 159 q31) f32 f34 g_14 f36 f37 (bN 7 q38) f39 f40 f41 (b2 m42_0 m42_1) f43 f44 f47 f48 f49 f50 f51 (bN 13 q54) (bN 120 q55) (bN 120 q56) f57 (bN 120 q58) f59 f60 f64) ∧ va_S A s.heap H locs ∧ lv_has ls 4 [(0, .ref (ad 0)), (1, .int (nI a0)), (2, .int (nI g_15))]) 25 ?_ _ _ _ _ ⟨g_3, 0, rfl, (Nat.le_of_ble_eq_true rfl), hsp, hP, hD, hS, lv_sub hl [1, 2, 0] rfl⟩
    rintro nn ih_16 H locs ls ⟨g_14, g_15, rfl, hg_15, he_19, hP, hD, hS, hl⟩
    obtain ⟨S_18, hsp, hin_20, hout_21⟩ := itr_step hlf_17 he_19
    refine lv_iload_n hx hb dX9_layAhead_25 rfl (lv_at hl 2 rfl) ?_
    refine lv_aload_n hx hb dX9_layAhead_26 rfl (lv_at hl 0 rfl) ?_
    refine va_get (D := (dC, dI)) (ci := 9) (v := .int (nI x46)) (C := RX9) (T := TX9) (N := 67) hx hb hts hiX9 hown hK hP 0 rfl rfl 46 (by decide) v_3 (fun _ h9 => h9) rfl dX9_layAhead_27 ?_
    refine lv_icmp_ge (tgt := 57) hx hb dX9_layAhead_30 (by decide) (fun c_22 => ?_) (fun c_22 => ?_)
    · have c_22 : x46 ≤ g_15 := (nI_leI (a := x46) (b := g_15) (Nat.lt_of_le_of_lt hx46 (Nat.le_of_ble_eq_true rfl)) (Nat.lt_of_le_of_lt hg_15 (Nat.le_of_ble_eq_true rfl))).mp c_22
      replace hsp := hsp.trans (if_pos c_22)
      have hsp := hout_21 _ hsp
      refine lv_aload_n hx hb dX9_layAhead_57 rfl (lv_at hl 0 rfl) ?_
      refine lv_aload_n hx hb dX9_layAhead_58 rfl (lv_at hl 0 rfl) ?_
      refine va_get (D := (dC, dI)) (ci := 9) (v := .ref (ad 35)) (C := RX9) (T := TX9) (N := 67) hx hb hts hiX9 hown hK hP 0 rfl rfl 35 (by decide) v_1 (fun _ h9 => h9) rfl dX9_layAhead_59 ?_
      refine lv_iload_n hx hb dX9_layAhead_62 rfl (lv_at hl 1 rfl) ?_
      have hFc := pu_free hD hS hA
      refine va_callv (va_runV (As := [.ref (ad 35), .int (nI a0)]) (rest := []) ⟨hx, hb, hml, hown, hts⟩ (c_EM_holdsAll_e l dC dI _ ad ck x0 x16 x18 x19 x20 x21 x22 x23 x24 x25 x26 x27 x28 x29 x30 x33 x45 x46 x52 x53 x61 x62 x63 x65 x66 f1 f2 f3 q4 q5 q6 q7 f8 q9 q10 f11 m12_0 m12_1 m13_0 m13_1 m14_0 m14_1 m15_0 m15_1 f17 q31 f32 f34 g_14 f36 f37 q38 f39 f40 f41 m42_0 m42_1 f43 f44 f47 f48 f49 f50 f51 q54 q55 q56 f57 q58 f59 f60 f64 a0 hx16 hx18 hx19 hx21 hx22 hx26 hx28 hx29 hx30 hx33 hx46 hx52 hx53 hx61 hx62 hx63 hx65 hm12_0 hm12_1 hm13_0 hm13_1 hm14_0 hm14_1 hm15_0 hm15_1 hm42_0 hm42_1 ha0) (cwV 2 hts g_EM_layAhead_EM_holdsAll_e rfl rfl rfl (by decide +kernel) ⟨Nat.le_of_ble_eq_true rfl, Nat.le_of_ble_eq_true rfl⟩) ⟨pu_bl, va_recv hK hP (ci := 9) (q0 := 0) rfl rfl, pu_in hP hK hD⟩ rfl rfl hl.1 rfl (lv_room (Nat.le_of_ble_eq_true rfl)) dX9_layAhead_63 ⟨Nat.le_of_ble_eq_true rfl, Nat.le_of_ble_eq_true rfl⟩) hS (fun q _ h => hFc q h) hFc (fun u t H1 locs ht hvm hw hB hz1 hk1 hS => ?_)
      obtain ⟨z35_24, ⟨hP1, -, hD1⟩, xr_23_0⟩ := hB
      rw [ht] at hP1
      have hP := hP1
      have hD := pu_all hFc hD1
      clear hP1 hD1 hFc
      clear hk1 hz1 ht hvm
      generalize H1 = H at hP hS ⊢
      replace hsp := hsp.trans (slet_eq xr_23_0)
      refine lv_aload_n hx hb dX9_layAhead_66 rfl (lv_at hl 0 rfl) ?_
      refine lv_aload_n hx hb dX9_layAhead_67 rfl (lv_at hl 0 rfl) ?_
      refine va_get (D := (dC, dI)) (ci := 9) (v := .ref (ad 35)) (C := RX9) (T := TX9) (N := 67) hx hb hts hiX9 hown hK hP 0 rfl rfl 35 (by decide) v_1 (fun _ h9 => h9) rfl dX9_layAhead_68 ?_
      refine lv_bipush (v := 100) hx hb dX9_layAhead_71 (by decide) ?_
      refine lv_aload_n hx hb dX9_layAhead_73 rfl (lv_at hl 0 rfl) ?_
      refine lv_iload_n hx hb dX9_layAhead_74 rfl (lv_at hl 1 rfl) ?_
      refine va_calli (va_runV (As := [.int (nI a0)]) (rest := [.int 100, .ref (ad 35), .ref (ad 0)]) ⟨hx, hb, hml, hown, hts⟩ (c_EM_outOf l dC dI _ ad ck x0 x16 x18 x19 x20 x21 x22 x23 x24 x25 x26 x27 x28 x29 x30 x33 x45 x46 x52 x53 x61 x62 x63 x65 x66 f1 f2 f3 q4 q5 q6 q7 f8 q9 q10 f11 m12_0 m12_1 m13_0 m13_1 m14_0 m14_1 m15_0 m15_1 f17 q31 f32 f34 z35_24 f36 f37 q38 f39 f40 f41 m42_0 m42_1 f43 f44 f47 f48 f49 f50 f51 q54 q55 q56 f57 q58 f59 f60 f64 a0 hx16 hx18 hx19 hx21 hx22 hx26 hx28 hx29 hx30 hx33 hx46 hx52 hx53 hx61 hx62 hx63 hx65 hm12_0 hm12_1 hm13_0 hm13_1 hm14_0 hm14_1 hm15_0 hm15_1 hm42_0 hm42_1 ha0) (cwV 1 hts g_EM_layAhead_EM_outOf rfl rfl rfl (by decide +kernel) ⟨Nat.le_of_ble_eq_true rfl, Nat.le_of_ble_eq_true rfl⟩) ⟨pu_bl, va_recv hK hP (ci := 9) (q0 := 0) rfl rfl, pu_in hP hK hD⟩ rfl rfl hl.1 rfl (lv_room (Nat.le_of_ble_eq_true rfl)) dX9_layAhead_75 ⟨Nat.le_of_ble_eq_true rfl, Nat.le_of_ble_eq_true rfl⟩) hS (fun q _ h => pu_fr hS hA q h) (pu_fr hS hA) (fun r_25 u t H1 locs ht hvm hw hB hz1 hk1 hS => ?_)
      have hP := pu_keep hP hk1
      clear hk1 hz1 ht hvm
      generalize H1 = H at hP hS ⊢
      obtain ⟨u_26, hu_26, rfl, iu_26⟩ := hw
      replace hsp := hsp.trans (slet_eq iu_26)
      refine lv_iadd hx hb dX9_layAhead_78 ?_
      refine lv_topi (fun y_27 ey_27 => ?_)
      obtain rfl : y_27 = (nI (100 + u_26)) := ey_27.trans (nI_add 100 u_26)
      have hFc := pu_free hD hS hA
      refine va_callv (va_runV (As := [.ref (ad 35), .int (nI (100 + u_26))]) (rest := []) ⟨hx, hb, hml, hown, hts⟩ (c_EM_holdsAll_p l dC dI _ ad ck x0 x16 x18 x19 x20 x21 x22 x23 x24 x25 x26 x27 x28 x29 x30 x33 x45 x46 x52 x53 x61 x62 x63 x65 x66 f1 f2 f3 q4 q5 q6 q7 f8 q9 q10 f11 m12_0 m12_1 m13_0 m13_1 m14_0 m14_1 m15_0 m15_1 f17 q31 f32 f34 z35_24 f36 f37 q38 f39 f40 f41 m42_0 m42_1 f43 f44 f47 f48 f49 f50 f51 q54 q55 q56 f57 q58 f59 f60 f64 (100 + u_26) hx16 hx18 hx19 hx21 hx22 hx26 hx28 hx29 hx30 hx33 hx46 hx52 hx53 hx61 hx62 hx63 hx65 hm12_0 hm12_1 hm13_0 hm13_1 hm14_0 hm14_1 hm15_0 hm15_1 hm42_0 hm42_1 (by omega) (by omega)) (cwV 2 hts g_EM_layAhead_EM_holdsAll_p rfl rfl rfl (by decide +kernel) ⟨Nat.le_of_ble_eq_true rfl, Nat.le_of_ble_eq_true rfl⟩) ⟨pu_bl, va_recv hK hP (ci := 9) (q0 := 0) rfl rfl, pu_in hP hK hD⟩ rfl rfl hl.1 rfl (lv_room (Nat.le_of_ble_eq_true rfl)) dX9_layAhead_79 ⟨Nat.le_of_ble_eq_true rfl, Nat.le_of_ble_eq_true rfl⟩) hS (fun q _ h => hFc q h) hFc (fun u t H1 locs ht hvm hw hB hz1 hk1 hS => ?_)
      obtain ⟨z35_29, ⟨hP1, -, hD1⟩, xr_28_0⟩ := hB
      rw [ht] at hP1
      have hP := hP1
      have hD := pu_all hFc hD1
      clear hP1 hD1 hFc
      clear hk1 hz1 ht hvm
      generalize H1 = H at hP hS ⊢
      replace hsp := hsp.trans (slet_eq xr_28_0)
      refine lv_iconst (v := 0) hx hb dX9_layAhead_82 (by decide) ?_
      refine lv_istore_n (lv' := [(2, .int 0), (0, .ref (ad 0)), (1, .int (nI a0))]) hx hb dX9_layAhead_83 rfl hl (by decide) rfl (fun ls hl => ?_)
      obtain ⟨lf_35, dlf_35, hlf_35, hsp⟩ := itr_ex hsp
      delta sp_EM_layAhead_L3 at hlf_35
      refine pu_while (fun nn H locs ls => ∃ (g_32 : Nat → Int32) (g_33 : Nat), nn = 3 - g_33 ∧ g_33 ≤ 3 ∧ RR = itrv dlf_35 lf_35 (g_32, g_33) ∧ va_P (dC, dI) vwCl (mo_w ad ck x0 (nI x16) (nI x18) (nI x19) x20 (nI x21) (nI x22) x23 x24 x25 (nI x26) x27 (nI x28) (nI x29) (nI x30) (nI x33) x45 (nI x46) (nI x52) (nI x53) (nI x61) (nI x62) (nI x63) (nI x65) x66 f1 f2 f3 (bN 3 q4) (bN 7 q5) (bN 7 q6) (bN 4 q7) f8 (bN 2 q9) (bH q10) f11 (b2 m12_0 m12_1) (b2 m13_0 m13_1) (b2 m14_0 m14_1) (b2m m15_0 m15_1) f17 (bA 159 q31) f32 f34 g_32 f36 f37 (bN 7 q38) f39 f40 f41 (b2 m42_0 m42_1) f43 f44 f47 f48 f49 f50 f51 (bN 13 q54) (bN 120 q55) (bN 120 q56) f57 (bN 120 q58) f59 f60 f64) H ∧ va_D A (mo_w ad ck x0 (nI x16) (nI x18) (nI x19) x20 (nI x21) (nI x22) x23 x24 x25 (nI x26) x27 (nI x28) (nI x29) (nI x30) (nI x33) x45 (nI x46) (nI x52) (nI x53) (nI x61) (nI x62) (nI x63) (nI x65) x66 f1 f2 f3 (bN 3 q4) (bN 7 q5) (bN 7 q6) (bN 4 q7) f8 (bN 2 q9) (bH q10) f11 (b2 m12_0 m12_1) (b2 m13_0 m13_1) (b2 m14_0 m14_1) (b2m m15_0 m15_1) f17 (bA 159 q31) f32 f34 g_32 f36 f37 (bN 7 q38) f39 f40 f41 (b2 m42_0 m42_1) f43 f44 f47 f48 f49 f50 f51 (bN 13 q54) (bN 120 q55) (bN 120 q56) f57 (bN 120 q58) f59 f60 f64) ∧ va_S A s.heap H locs ∧ lv_has ls 4 [(0, .ref (ad 0)), (1, .int (nI a0)), (2, .int (nI g_33))]) 84 ?_ _ _ _ _ ⟨z35_29, 0, rfl, (Nat.le_of_ble_eq_true rfl), hsp, hP, hD, hS, lv_sub hl [1, 2, 0] rfl⟩
      rintro nn ih_34 H locs ls ⟨g_32, g_33, rfl, hg_33, he_37, hP, hD, hS, hl⟩
      obtain ⟨S_36, hsp, hin_38, hout_39⟩ := itr_step hlf_35 he_37
      refine lv_iload_n hx hb dX9_layAhead_84 rfl (lv_at hl 2 rfl) ?_
      refine lv_aload_n hx hb dX9_layAhead_85 rfl (lv_at hl 0 rfl) ?_
      refine lv_bipush (v := 100) hx hb dX9_layAhead_86 (by decide) ?_
      refine lv_aload_n hx hb dX9_layAhead_88 rfl (lv_at hl 0 rfl) ?_
      refine lv_iload_n hx hb dX9_layAhead_89 rfl (lv_at hl 1 rfl) ?_
      refine va_calli (va_runV (As := [.int (nI a0)]) (rest := [.int 100, .ref (ad 0), .int (nI g_33)]) ⟨hx, hb, hml, hown, hts⟩ (c_EM_into l dC dI _ ad ck x0 x16 x18 x19 x20 x21 x22 x23 x24 x25 x26 x27 x28 x29 x30 x33 x45 x46 x52 x53 x61 x62 x63 x65 x66 f1 f2 f3 q4 q5 q6 q7 f8 q9 q10 f11 m12_0 m12_1 m13_0 m13_1 m14_0 m14_1 m15_0 m15_1 f17 q31 f32 f34 g_32 f36 f37 q38 f39 f40 f41 m42_0 m42_1 f43 f44 f47 f48 f49 f50 f51 q54 q55 q56 f57 q58 f59 f60 f64 a0 hx16 hx18 hx19 hx21 hx22 hx26 hx28 hx29 hx30 hx33 hx46 hx52 hx53 hx61 hx62 hx63 hx65 hm12_0 hm12_1 hm13_0 hm13_1 hm14_0 hm14_1 hm15_0 hm15_1 hm42_0 hm42_1 ha0) (cwV 1 hts g_EM_layAhead_EM_into rfl rfl rfl (by decide +kernel) ⟨Nat.le_of_ble_eq_true rfl, Nat.le_of_ble_eq_true rfl⟩) ⟨pu_bl, va_recv hK hP (ci := 9) (q0 := 0) rfl rfl, pu_in hP hK hD⟩ rfl rfl hl.1 rfl (lv_room (Nat.le_of_ble_eq_true rfl)) dX9_layAhead_90 ⟨Nat.le_of_ble_eq_true rfl, Nat.le_of_ble_eq_true rfl⟩) hS (fun q _ h => pu_fr hS hA q h) (pu_fr hS hA) (fun r_40 u t H1 locs ht hvm hw hB hz1 hk1 hS => ?_)
      have hP := pu_keep hP hk1
      clear hk1 hz1 ht hvm
      generalize H1 = H at hP hS ⊢
      obtain ⟨u_41, hu_41, rfl, iu_41⟩ := hw
      replace hsp := hsp.trans (slet_eq iu_41)
      refine lv_iadd hx hb dX9_layAhead_93 ?_
      refine lv_topi (fun y_42 ey_42 => ?_)
      obtain rfl : y_42 = (nI (100 + u_41)) := ey_42.trans (nI_add 100 u_41)
      refine va_calli (va_runV (As := [.int (nI (100 + u_41))]) (rest := [.int (nI g_33)]) ⟨hx, hb, hml, hown, hts⟩ (c_EM_manyOf_p l dC dI _ ad ck x0 x16 x18 x19 x20 x21 x22 x23 x24 x25 x26 x27 x28 x29 x30 x33 x45 x46 x52 x53 x61 x62 x63 x65 x66 f1 f2 f3 q4 q5 q6 q7 f8 q9 q10 f11 m12_0 m12_1 m13_0 m13_1 m14_0 m14_1 m15_0 m15_1 f17 q31 f32 f34 g_32 f36 f37 q38 f39 f40 f41 m42_0 m42_1 f43 f44 f47 f48 f49 f50 f51 q54 q55 q56 f57 q58 f59 f60 f64 (100 + u_41) hx16 hx18 hx19 hx21 hx22 hx26 hx28 hx29 hx30 hx33 hx46 hx52 hx53 hx61 hx62 hx63 hx65 hm12_0 hm12_1 hm13_0 hm13_1 hm14_0 hm14_1 hm15_0 hm15_1 hm42_0 hm42_1 (by omega) (by omega)) (cwV 1 hts g_EM_layAhead_EM_manyOf_p rfl rfl rfl (by decide +kernel) ⟨Nat.le_of_ble_eq_true rfl, Nat.le_of_ble_eq_true rfl⟩) ⟨pu_bl, va_recv hK hP (ci := 9) (q0 := 0) rfl rfl, pu_in hP hK hD⟩ rfl rfl hl.1 rfl (lv_room (Nat.le_of_ble_eq_true rfl)) dX9_layAhead_94 ⟨Nat.le_of_ble_eq_true rfl, Nat.le_of_ble_eq_true rfl⟩) hS (fun q _ h => pu_fr hS hA q h) (pu_fr hS hA) (fun r_43 u t H1 locs ht hvm hw hB hz1 hk1 hS => ?_)
      have hP := pu_keep hP hk1
      clear hk1 hz1 ht hvm
      generalize H1 = H at hP hS ⊢
      obtain ⟨u_44, hu_44, mu_44, iu_44⟩ := hw
      replace hsp := hsp.trans (slet_eq iu_44)
      rcases mI_get u_44 with ⟨zn_45, wn_45⟩ | ⟨n_45, zn_45, wn_45⟩
      · obtain rfl : r_43 = -1 := mu_44.trans wn_45
        replace hsp := hsp.trans (if_pos zn_45)
        refine lv_icmp_ge (tgt := 169) hx hb dX9_layAhead_97 (by decide) (fun _ => ?_) (fun z => absurd (pu_negle (n := g_33) (by omega) (by decide)) z)
        have hsp := hout_39 _ hsp
        refine lv_aload_n hx hb dX9_layAhead_169 rfl (lv_at hl 0 rfl) ?_
        refine lv_aload_n hx hb dX9_layAhead_170 rfl (lv_at hl 0 rfl) ?_
        refine va_get (D := (dC, dI)) (ci := 9) (v := .ref (ad 35)) (C := RX9) (T := TX9) (N := 67) hx hb hts hiX9 hown hK hP 0 rfl rfl 35 (by decide) v_1 (fun _ h9 => h9) rfl dX9_layAhead_171 ?_
        have hFc := pu_free hD hS hA
        refine va_calli (va_runV (As := [.ref (ad 35)]) (rest := []) ⟨hx, hb, hml, hown, hts⟩ (c_EM_closes_z l dC dI _ ad ck x0 x16 x18 x19 x20 x21 x22 x23 x24 x25 x26 x27 x28 x29 x30 x33 x45 x46 x52 x53 x61 x62 x63 x65 x66 f1 f2 f3 q4 q5 q6 q7 f8 q9 q10 f11 m12_0 m12_1 m13_0 m13_1 m14_0 m14_1 m15_0 m15_1 f17 q31 f32 f34 g_32 f36 f37 q38 f39 f40 f41 m42_0 m42_1 f43 f44 f47 f48 f49 f50 f51 q54 q55 q56 f57 q58 f59 f60 f64 hx16 hx18 hx19 hx21 hx22 hx26 hx28 hx29 hx30 hx33 hx46 hx52 hx53 hx61 hx62 hx63 hx65 hm12_0 hm12_1 hm13_0 hm13_1 hm14_0 hm14_1 hm15_0 hm15_1 hm42_0 hm42_1) (cwV 1 hts g_EM_layAhead_EM_closes_z rfl rfl rfl (by decide +kernel) ⟨Nat.le_of_ble_eq_true rfl, Nat.le_of_ble_eq_true rfl⟩) ⟨pu_bl, va_recv hK hP (ci := 9) (q0 := 0) rfl rfl, pu_in hP hK hD⟩ rfl rfl hl.1 rfl (lv_room (Nat.le_of_ble_eq_true rfl)) dX9_layAhead_174 ⟨Nat.le_of_ble_eq_true rfl, Nat.le_of_ble_eq_true rfl⟩) hS (fun q _ h => hFc q h) hFc (fun r_46 u t H1 locs ht hvm hw hB hz1 hk1 hS => ?_)
        obtain ⟨z35_47, ⟨hP1, -, hD1⟩, xr_46_0⟩ := hB
        rw [ht] at hP1
        have hP := hP1
        have hD := pu_all hFc hD1
        clear hP1 hD1 hFc
        clear hk1 hz1 ht hvm
        generalize H1 = H at hP hS ⊢
        obtain ⟨u_48, hu_48, rfl, iu_48⟩ := hw
        have iu_48 : (u_48, z35_47) = (sp_EM_closes_z x46 g_32) := Prod.ext iu_48 xr_46_0
        replace hsp := hsp.trans (slet_eq iu_48)
        refine lv_if_ne (tgt := 182) hx hb dX9_layAhead_177 (by decide) (fun c_49 => ?_) (fun c_49 => ?_)
        · have c_49 : ¬ u_48 = 0 := fun z => c_49 ((nI_eq (a := u_48) (b := 0) (Nat.lt_of_le_of_lt hu_48 (Nat.le_of_ble_eq_true rfl)) (Nat.le_of_ble_eq_true rfl)).mpr z)
          replace hsp := hsp.trans (if_neg c_49)
          refine lv_aload_n hx hb dX9_layAhead_182 rfl (lv_at hl 0 rfl) ?_
          refine lv_aload_n hx hb dX9_layAhead_183 rfl (lv_at hl 0 rfl) ?_
          refine lv_iload_n hx hb dX9_layAhead_184 rfl (lv_at hl 1 rfl) ?_
          refine va_calli (va_runV (As := [.int (nI a0)]) (rest := [.ref (ad 0)]) ⟨hx, hb, hml, hown, hts⟩ (c_EM_outOf l dC dI _ ad ck x0 x16 x18 x19 x20 x21 x22 x23 x24 x25 x26 x27 x28 x29 x30 x33 x45 x46 x52 x53 x61 x62 x63 x65 x66 f1 f2 f3 q4 q5 q6 q7 f8 q9 q10 f11 m12_0 m12_1 m13_0 m13_1 m14_0 m14_1 m15_0 m15_1 f17 q31 f32 f34 z35_47 f36 f37 q38 f39 f40 f41 m42_0 m42_1 f43 f44 f47 f48 f49 f50 f51 q54 q55 q56 f57 q58 f59 f60 f64 a0 hx16 hx18 hx19 hx21 hx22 hx26 hx28 hx29 hx30 hx33 hx46 hx52 hx53 hx61 hx62 hx63 hx65 hm12_0 hm12_1 hm13_0 hm13_1 hm14_0 hm14_1 hm15_0 hm15_1 hm42_0 hm42_1 ha0) (cwV 1 hts g_EM_layAhead_EM_outOf rfl rfl rfl (by decide +kernel) ⟨Nat.le_of_ble_eq_true rfl, Nat.le_of_ble_eq_true rfl⟩) ⟨pu_bl, va_recv hK hP (ci := 9) (q0 := 0) rfl rfl, pu_in hP hK hD⟩ rfl rfl hl.1 rfl (lv_room (Nat.le_of_ble_eq_true rfl)) dX9_layAhead_185 ⟨Nat.le_of_ble_eq_true rfl, Nat.le_of_ble_eq_true rfl⟩) hS (fun q _ h => pu_fr hS hA q h) (pu_fr hS hA) (fun r_50 u t H1 locs ht hvm hw hB hz1 hk1 hS => ?_)
          have hP := pu_keep hP hk1
          clear hk1 hz1 ht hvm
          generalize H1 = H at hP hS ⊢
          obtain ⟨u_51, hu_51, rfl, iu_51⟩ := hw
          replace hsp := hsp.trans (slet_eq iu_51)
          refine va_calli (va_runV (As := [.int (nI u_51)]) (rest := []) ⟨hx, hb, hml, hown, hts⟩ (c_EM_isUrgent l dC dI _ ad ck x0 x16 x18 x19 x20 x21 x22 x23 x24 x25 x26 x27 x28 x29 x30 x33 x45 x46 x52 x53 x61 x62 x63 x65 x66 f1 f2 f3 q4 q5 q6 q7 f8 q9 q10 f11 m12_0 m12_1 m13_0 m13_1 m14_0 m14_1 m15_0 m15_1 f17 q31 f32 f34 z35_47 f36 f37 q38 f39 f40 f41 m42_0 m42_1 f43 f44 f47 f48 f49 f50 f51 q54 q55 q56 f57 q58 f59 f60 f64 u_51 hx16 hx18 hx19 hx21 hx22 hx26 hx28 hx29 hx30 hx33 hx46 hx52 hx53 hx61 hx62 hx63 hx65 hm12_0 hm12_1 hm13_0 hm13_1 hm14_0 hm14_1 hm15_0 hm15_1 hm42_0 hm42_1 hu_51) (cwV 1 hts g_EM_layAhead_EM_isUrgent rfl rfl rfl (by decide +kernel) ⟨Nat.le_of_ble_eq_true rfl, Nat.le_of_ble_eq_true rfl⟩) ⟨pu_bl, va_recv hK hP (ci := 9) (q0 := 0) rfl rfl, pu_in hP hK hD⟩ rfl rfl hl.1 rfl (lv_room (Nat.le_of_ble_eq_true rfl)) dX9_layAhead_188 ⟨Nat.le_of_ble_eq_true rfl, Nat.le_of_ble_eq_true rfl⟩) hS (fun q _ h => pu_fr hS hA q h) (pu_fr hS hA) (fun r_52 u t H1 locs ht hvm hw hB hz1 hk1 hS => ?_)
          have hP := pu_keep hP hk1
          clear hk1 hz1 ht hvm
          generalize H1 = H at hP hS ⊢
          obtain ⟨u_53, hu_53, rfl, iu_53⟩ := hw
          replace hsp := hsp.trans (slet_eq iu_53)
          refine lv_if_ne (tgt := 226) hx hb dX9_layAhead_191 (by decide) (fun c_54 => ?_) (fun c_54 => ?_)
          · have c_54 : ¬ u_53 = 0 := fun z => c_54 ((nI_eq (a := u_53) (b := 0) (Nat.lt_of_le_of_lt hu_53 (Nat.le_of_ble_eq_true rfl)) (Nat.le_of_ble_eq_true rfl)).mpr z)
            replace hsp := hsp.trans (if_neg c_54)
            refine lv_iconst (v := 1) hx hb dX9_layAhead_226 (by decide) ?_
            exact W.zret (v := 1) (ty := .boolean) hx hb hr (rfl) (fun t ht hW => ⟨⟨1, (), rfl, ⟨1, (Nat.le_of_ble_eq_true rfl), rfl, (congrArg Prod.fst (hsp.symm.trans hRR))⟩, ⟨z35_47, ⟨by rw [ht]; exact hP, va_K.moved hW.alike hK, hD⟩, (congrArg Prod.snd (hsp.symm.trans hRR))⟩⟩, hS.F ht⟩) hS.2.2 dX9_layAhead_227
          · have c_54 : u_53 = 0 := (nI_eq (a := u_53) (b := 0) (Nat.lt_of_le_of_lt hu_53 (Nat.le_of_ble_eq_true rfl)) (Nat.le_of_ble_eq_true rfl)).mp c_54
            replace hsp := hsp.trans (if_pos c_54)
            refine lv_iconst (v := 1) hx hb dX9_layAhead_194 (by decide) ?_
            refine lv_istore_n (lv' := [(2, .int 1), (0, .ref (ad 0)), (1, .int (nI a0))]) hx hb dX9_layAhead_195 rfl hl (by decide) rfl (fun ls hl => ?_)
            obtain ⟨lf_60, dlf_60, hlf_60, hsp⟩ := itr_ex hsp
            delta sp_EM_layAhead_L1 at hlf_60
            refine pu_while (fun nn H locs ls => ∃ (g_57 : Nat → Int32) (g_58 : Nat), nn = 5 - g_58 ∧ (1 ≤ g_58 ∧ g_58 ≤ 5) ∧ RR = itrv dlf_60 lf_60 (g_57, g_58) ∧ va_P (dC, dI) vwCl (mo_w ad ck x0 (nI x16) (nI x18) (nI x19) x20 (nI x21) (nI x22) x23 x24 x25 (nI x26) x27 (nI x28) (nI x29) (nI x30) (nI x33) x45 (nI x46) (nI x52) (nI x53) (nI x61) (nI x62) (nI x63) (nI x65) x66 f1 f2 f3 (bN 3 q4) (bN 7 q5) (bN 7 q6) (bN 4 q7) f8 (bN 2 q9) (bH q10) f11 (b2 m12_0 m12_1) (b2 m13_0 m13_1) (b2 m14_0 m14_1) (b2m m15_0 m15_1) f17 (bA 159 q31) f32 f34 g_57 f36 f37 (bN 7 q38) f39 f40 f41 (b2 m42_0 m42_1) f43 f44 f47 f48 f49 f50 f51 (bN 13 q54) (bN 120 q55) (bN 120 q56) f57 (bN 120 q58) f59 f60 f64) H ∧ va_D A (mo_w ad ck x0 (nI x16) (nI x18) (nI x19) x20 (nI x21) (nI x22) x23 x24 x25 (nI x26) x27 (nI x28) (nI x29) (nI x30) (nI x33) x45 (nI x46) (nI x52) (nI x53) (nI x61) (nI x62) (nI x63) (nI x65) x66 f1 f2 f3 (bN 3 q4) (bN 7 q5) (bN 7 q6) (bN 4 q7) f8 (bN 2 q9) (bH q10) f11 (b2 m12_0 m12_1) (b2 m13_0 m13_1) (b2 m14_0 m14_1) (b2m m15_0 m15_1) f17 (bA 159 q31) f32 f34 g_57 f36 f37 (bN 7 q38) f39 f40 f41 (b2 m42_0 m42_1) f43 f44 f47 f48 f49 f50 f51 (bN 13 q54) (bN 120 q55) (bN 120 q56) f57 (bN 120 q58) f59 f60 f64) ∧ va_S A s.heap H locs ∧ lv_has ls 4 [(0, .ref (ad 0)), (1, .int (nI a0)), (2, .int (nI g_58))]) 196 ?_ _ _ _ _ ⟨z35_47, 1, rfl, ⟨by omega, by omega⟩, hsp, hP, hD, hS, lv_sub hl [1, 2, 0] rfl⟩
            rintro nn ih_59 H locs ls ⟨g_57, g_58, rfl, hg_58, he_62, hP, hD, hS, hl⟩
            obtain ⟨S_61, hsp, hin_63, hout_64⟩ := itr_step hlf_60 he_62
            refine lv_iload_n hx hb dX9_layAhead_196 rfl (lv_at hl 2 rfl) ?_
            refine lv_aload_n hx hb dX9_layAhead_197 rfl (lv_at hl 0 rfl) ?_
            refine va_get (D := (dC, dI)) (ci := 9) (v := .int (nI x46)) (C := RX9) (T := TX9) (N := 67) hx hb hts hiX9 hown hK hP 0 rfl rfl 46 (by decide) v_3 (fun _ h9 => h9) rfl dX9_layAhead_198 ?_
            refine lv_icmp_ge (tgt := 217) hx hb dX9_layAhead_201 (by decide) (fun c_65 => ?_) (fun c_65 => ?_)
            · have c_65 : x46 ≤ g_58 := (nI_leI (a := x46) (b := g_58) (Nat.lt_of_le_of_lt hx46 (Nat.le_of_ble_eq_true rfl)) (Nat.lt_of_le_of_lt hg_58.2 (Nat.le_of_ble_eq_true rfl))).mp c_65
              replace hsp := hsp.trans (if_pos c_65)
              have hsp := hout_64 _ hsp
              refine lv_aload_n hx hb dX9_layAhead_217 rfl (lv_at hl 0 rfl) ?_
              refine lv_aload_n hx hb dX9_layAhead_218 rfl (lv_at hl 0 rfl) ?_
              refine va_get (D := (dC, dI)) (ci := 9) (v := .ref (ad 35)) (C := RX9) (T := TX9) (N := 67) hx hb hts hiX9 hown hK hP 0 rfl rfl 35 (by decide) v_1 (fun _ h9 => h9) rfl dX9_layAhead_219 ?_
              have hFc := pu_free hD hS hA
              refine va_calli (va_runV (As := [.ref (ad 35)]) (rest := []) ⟨hx, hb, hml, hown, hts⟩ (c_EM_closes_z l dC dI _ ad ck x0 x16 x18 x19 x20 x21 x22 x23 x24 x25 x26 x27 x28 x29 x30 x33 x45 x46 x52 x53 x61 x62 x63 x65 x66 f1 f2 f3 q4 q5 q6 q7 f8 q9 q10 f11 m12_0 m12_1 m13_0 m13_1 m14_0 m14_1 m15_0 m15_1 f17 q31 f32 f34 g_57 f36 f37 q38 f39 f40 f41 m42_0 m42_1 f43 f44 f47 f48 f49 f50 f51 q54 q55 q56 f57 q58 f59 f60 f64 hx16 hx18 hx19 hx21 hx22 hx26 hx28 hx29 hx30 hx33 hx46 hx52 hx53 hx61 hx62 hx63 hx65 hm12_0 hm12_1 hm13_0 hm13_1 hm14_0 hm14_1 hm15_0 hm15_1 hm42_0 hm42_1) (cwV 1 hts g_EM_layAhead_EM_closes_z rfl rfl rfl (by decide +kernel) ⟨Nat.le_of_ble_eq_true rfl, Nat.le_of_ble_eq_true rfl⟩) ⟨pu_bl, va_recv hK hP (ci := 9) (q0 := 0) rfl rfl, pu_in hP hK hD⟩ rfl rfl hl.1 rfl (lv_room (Nat.le_of_ble_eq_true rfl)) dX9_layAhead_222 ⟨Nat.le_of_ble_eq_true rfl, Nat.le_of_ble_eq_true rfl⟩) hS (fun q _ h => hFc q h) hFc (fun r_66 u t H1 locs ht hvm hw hB hz1 hk1 hS => ?_)
              obtain ⟨z35_67, ⟨hP1, -, hD1⟩, xr_66_0⟩ := hB
              rw [ht] at hP1
              have hP := hP1
              have hD := pu_all hFc hD1
              clear hP1 hD1 hFc
              clear hk1 hz1 ht hvm
              generalize H1 = H at hP hS ⊢
              obtain ⟨u_68, hu_68, rfl, iu_68⟩ := hw
              have iu_68 : (u_68, z35_67) = (sp_EM_closes_z x46 g_57) := Prod.ext iu_68 xr_66_0
              replace hsp := hsp.trans (slet_eq iu_68)
              refine lv_pop hx hb dX9_layAhead_225 rfl ?_
              refine lv_iconst (v := 1) hx hb dX9_layAhead_226 (by decide) ?_
              exact W.zret (v := 1) (ty := .boolean) hx hb hr (rfl) (fun t ht hW => ⟨⟨1, (), rfl, ⟨1, (Nat.le_of_ble_eq_true rfl), rfl, (congrArg Prod.fst (hsp.symm.trans hRR))⟩, ⟨z35_67, ⟨by rw [ht]; exact hP, va_K.moved hW.alike hK, hD⟩, (congrArg Prod.snd (hsp.symm.trans hRR))⟩⟩, hS.F ht⟩) hS.2.2 dX9_layAhead_227
            · have c_65 : ¬ x46 ≤ g_58 := fun z => c_65 ((nI_leI (a := x46) (b := g_58) (Nat.lt_of_le_of_lt hx46 (Nat.le_of_ble_eq_true rfl)) (Nat.lt_of_le_of_lt hg_58.2 (Nat.le_of_ble_eq_true rfl))).mpr z)
              replace hsp := hsp.trans (if_neg c_65)
              refine lv_aload_n hx hb dX9_layAhead_204 rfl (lv_at hl 0 rfl) ?_
              refine va_get (D := (dC, dI)) (ci := 9) (v := .ref (ad 35)) (C := RX9) (T := TX9) (N := 67) hx hb hts hiX9 hown hK hP 0 rfl rfl 35 (by decide) v_1 (fun _ h9 => h9) rfl dX9_layAhead_205 ?_
              refine lv_iload_n hx hb dX9_layAhead_208 rfl (lv_at hl 2 rfl) ?_
              refine lv_iconst (v := 1) hx hb dX9_layAhead_209 (by decide) ?_
              refine va_iast hx hb hK hP hD hS 20 19 rfl rfl (vp_in_nI (n := g_58) (Nat.lt_of_le_of_lt hg_58.2 (Nat.le_of_ble_eq_true rfl)) (Nat.le_of_ble_eq_true rfl)) dX9_layAhead_210 (fun H locs hP hD hS => ?_)
              obtain ⟨f_69, ef_69, xf_69⟩ := up_x g_57 (n := g_58) 1 (Nat.lt_of_le_of_lt hg_58.2 (Nat.le_of_ble_eq_true rfl))
              have hP : va_P (dC, dI) vwCl (mo_w ad ck x0 (nI x16) (nI x18) (nI x19) x20 (nI x21) (nI x22) x23 x24 x25 (nI x26) x27 (nI x28) (nI x29) (nI x30) (nI x33) x45 (nI x46) (nI x52) (nI x53) (nI x61) (nI x62) (nI x63) (nI x65) x66 f1 f2 f3 (bN 3 q4) (bN 7 q5) (bN 7 q6) (bN 4 q7) f8 (bN 2 q9) (bH q10) f11 (b2 m12_0 m12_1) (b2 m13_0 m13_1) (b2 m14_0 m14_1) (b2m m15_0 m15_1) f17 (bA 159 q31) f32 f34 f_69 f36 f37 (bN 7 q38) f39 f40 f41 (b2 m42_0 m42_1) f43 f44 f47 f48 f49 f50 f51 (bN 13 q54) (bN 120 q55) (bN 120 q56) f57 (bN 120 q58) f59 f60 f64) H := by rw [← ef_69]; exact hP
              have hD : va_D A (mo_w ad ck x0 (nI x16) (nI x18) (nI x19) x20 (nI x21) (nI x22) x23 x24 x25 (nI x26) x27 (nI x28) (nI x29) (nI x30) (nI x33) x45 (nI x46) (nI x52) (nI x53) (nI x61) (nI x62) (nI x63) (nI x65) x66 f1 f2 f3 (bN 3 q4) (bN 7 q5) (bN 7 q6) (bN 4 q7) f8 (bN 2 q9) (bH q10) f11 (b2 m12_0 m12_1) (b2 m13_0 m13_1) (b2 m14_0 m14_1) (b2m m15_0 m15_1) f17 (bA 159 q31) f32 f34 f_69 f36 f37 (bN 7 q38) f39 f40 f41 (b2 m42_0 m42_1) f43 f44 f47 f48 f49 f50 f51 (bN 13 q54) (bN 120 q55) (bN 120 q56) f57 (bN 120 q58) f59 f60 f64) := by rw [← ef_69]; exact hD
              replace hsp := hsp.trans (slet_eq xf_69)
              refine lv_iinc (v := (nI (g_58 + 1))) (lv' := [(2, .int (nI (g_58 + 1))), (0, .ref (ad 0)), (1, .int (nI a0))]) hx hb dX9_layAhead_211 hl (k := 2) rfl (nI_1 _) (by decide) rfl (fun ls hl => ?_)
              refine lv_goto (tgt := 196) hx hb dX9_layAhead_214 (by decide) ?_
              exact ih_59 (5 - (g_58 + 1)) (by omega) _ _ _ ⟨f_69, (g_58 + 1), rfl, ⟨by omega, by omega⟩, hin_63 _ hsp, hP, hD, hS, lv_sub hl [1, 2, 0] rfl⟩
        · have c_49 : u_48 = 0 := (nI_eq (a := u_48) (b := 0) (Nat.lt_of_le_of_lt hu_48 (Nat.le_of_ble_eq_true rfl)) (Nat.le_of_ble_eq_true rfl)).mp c_49
          replace hsp := hsp.trans (if_pos c_49)
          refine lv_iconst (v := 0) hx hb dX9_layAhead_180 (by decide) ?_
          exact W.zret (v := 0) (ty := .boolean) hx hb hr (rfl) (fun t ht hW => ⟨⟨0, (), rfl, ⟨0, (Nat.le_of_ble_eq_true rfl), rfl, (congrArg Prod.fst (hsp.symm.trans hRR))⟩, ⟨z35_47, ⟨by rw [ht]; exact hP, va_K.moved hW.alike hK, hD⟩, (congrArg Prod.snd (hsp.symm.trans hRR))⟩⟩, hS.F ht⟩) hS.2.2 dX9_layAhead_181
      · obtain rfl : r_43 = nI n_45 := mu_44.trans wn_45
        have hn_45 : n_45 ≤ 3 := by omega
        replace hsp := hsp.trans (if_neg (by omega))
        replace hsp := hsp.trans (slet_eq (by omega : n_45 = u_44 - 1))
        refine lv_icmp_ge (tgt := 169) hx hb dX9_layAhead_97 (by decide) (fun c_70 => ?_) (fun c_70 => ?_)
        · have c_70 : n_45 ≤ g_33 := (nI_leI (a := n_45) (b := g_33) (Nat.lt_of_le_of_lt hn_45 (Nat.le_of_ble_eq_true rfl)) (Nat.lt_of_le_of_lt hg_33 (Nat.le_of_ble_eq_true rfl))).mp c_70
          replace hsp := hsp.trans (if_pos c_70)
          have hsp := hout_39 _ hsp
          refine lv_aload_n hx hb dX9_layAhead_169 rfl (lv_at hl 0 rfl) ?_
          refine lv_aload_n hx hb dX9_layAhead_170 rfl (lv_at hl 0 rfl) ?_
          refine va_get (D := (dC, dI)) (ci := 9) (v := .ref (ad 35)) (C := RX9) (T := TX9) (N := 67) hx hb hts hiX9 hown hK hP 0 rfl rfl 35 (by decide) v_1 (fun _ h9 => h9) rfl dX9_layAhead_171 ?_
          have hFc := pu_free hD hS hA
          refine va_calli (va_runV (As := [.ref (ad 35)]) (rest := []) ⟨hx, hb, hml, hown, hts⟩ (c_EM_closes_z l dC dI _ ad ck x0 x16 x18 x19 x20 x21 x22 x23 x24 x25 x26 x27 x28 x29 x30 x33 x45 x46 x52 x53 x61 x62 x63 x65 x66 f1 f2 f3 q4 q5 q6 q7 f8 q9 q10 f11 m12_0 m12_1 m13_0 m13_1 m14_0 m14_1 m15_0 m15_1 f17 q31 f32 f34 g_32 f36 f37 q38 f39 f40 f41 m42_0 m42_1 f43 f44 f47 f48 f49 f50 f51 q54 q55 q56 f57 q58 f59 f60 f64 hx16 hx18 hx19 hx21 hx22 hx26 hx28 hx29 hx30 hx33 hx46 hx52 hx53 hx61 hx62 hx63 hx65 hm12_0 hm12_1 hm13_0 hm13_1 hm14_0 hm14_1 hm15_0 hm15_1 hm42_0 hm42_1) (cwV 1 hts g_EM_layAhead_EM_closes_z rfl rfl rfl (by decide +kernel) ⟨Nat.le_of_ble_eq_true rfl, Nat.le_of_ble_eq_true rfl⟩) ⟨pu_bl, va_recv hK hP (ci := 9) (q0 := 0) rfl rfl, pu_in hP hK hD⟩ rfl rfl hl.1 rfl (lv_room (Nat.le_of_ble_eq_true rfl)) dX9_layAhead_174 ⟨Nat.le_of_ble_eq_true rfl, Nat.le_of_ble_eq_true rfl⟩) hS (fun q _ h => hFc q h) hFc (fun r_71 u t H1 locs ht hvm hw hB hz1 hk1 hS => ?_)
          obtain ⟨z35_72, ⟨hP1, -, hD1⟩, xr_71_0⟩ := hB
          rw [ht] at hP1
          have hP := hP1
          have hD := pu_all hFc hD1
          clear hP1 hD1 hFc
          clear hk1 hz1 ht hvm
          generalize H1 = H at hP hS ⊢
          obtain ⟨u_73, hu_73, rfl, iu_73⟩ := hw
          have iu_73 : (u_73, z35_72) = (sp_EM_closes_z x46 g_32) := Prod.ext iu_73 xr_71_0
          replace hsp := hsp.trans (slet_eq iu_73)
          refine lv_if_ne (tgt := 182) hx hb dX9_layAhead_177 (by decide) (fun c_74 => ?_) (fun c_74 => ?_)
          · have c_74 : ¬ u_73 = 0 := fun z => c_74 ((nI_eq (a := u_73) (b := 0) (Nat.lt_of_le_of_lt hu_73 (Nat.le_of_ble_eq_true rfl)) (Nat.le_of_ble_eq_true rfl)).mpr z)
            replace hsp := hsp.trans (if_neg c_74)
            refine lv_aload_n hx hb dX9_layAhead_182 rfl (lv_at hl 0 rfl) ?_
            refine lv_aload_n hx hb dX9_layAhead_183 rfl (lv_at hl 0 rfl) ?_
            refine lv_iload_n hx hb dX9_layAhead_184 rfl (lv_at hl 1 rfl) ?_
            refine va_calli (va_runV (As := [.int (nI a0)]) (rest := [.ref (ad 0)]) ⟨hx, hb, hml, hown, hts⟩ (c_EM_outOf l dC dI _ ad ck x0 x16 x18 x19 x20 x21 x22 x23 x24 x25 x26 x27 x28 x29 x30 x33 x45 x46 x52 x53 x61 x62 x63 x65 x66 f1 f2 f3 q4 q5 q6 q7 f8 q9 q10 f11 m12_0 m12_1 m13_0 m13_1 m14_0 m14_1 m15_0 m15_1 f17 q31 f32 f34 z35_72 f36 f37 q38 f39 f40 f41 m42_0 m42_1 f43 f44 f47 f48 f49 f50 f51 q54 q55 q56 f57 q58 f59 f60 f64 a0 hx16 hx18 hx19 hx21 hx22 hx26 hx28 hx29 hx30 hx33 hx46 hx52 hx53 hx61 hx62 hx63 hx65 hm12_0 hm12_1 hm13_0 hm13_1 hm14_0 hm14_1 hm15_0 hm15_1 hm42_0 hm42_1 ha0) (cwV 1 hts g_EM_layAhead_EM_outOf rfl rfl rfl (by decide +kernel) ⟨Nat.le_of_ble_eq_true rfl, Nat.le_of_ble_eq_true rfl⟩) ⟨pu_bl, va_recv hK hP (ci := 9) (q0 := 0) rfl rfl, pu_in hP hK hD⟩ rfl rfl hl.1 rfl (lv_room (Nat.le_of_ble_eq_true rfl)) dX9_layAhead_185 ⟨Nat.le_of_ble_eq_true rfl, Nat.le_of_ble_eq_true rfl⟩) hS (fun q _ h => pu_fr hS hA q h) (pu_fr hS hA) (fun r_75 u t H1 locs ht hvm hw hB hz1 hk1 hS => ?_)
            have hP := pu_keep hP hk1
            clear hk1 hz1 ht hvm
            generalize H1 = H at hP hS ⊢
            obtain ⟨u_76, hu_76, rfl, iu_76⟩ := hw
            replace hsp := hsp.trans (slet_eq iu_76)
            refine va_calli (va_runV (As := [.int (nI u_76)]) (rest := []) ⟨hx, hb, hml, hown, hts⟩ (c_EM_isUrgent l dC dI _ ad ck x0 x16 x18 x19 x20 x21 x22 x23 x24 x25 x26 x27 x28 x29 x30 x33 x45 x46 x52 x53 x61 x62 x63 x65 x66 f1 f2 f3 q4 q5 q6 q7 f8 q9 q10 f11 m12_0 m12_1 m13_0 m13_1 m14_0 m14_1 m15_0 m15_1 f17 q31 f32 f34 z35_72 f36 f37 q38 f39 f40 f41 m42_0 m42_1 f43 f44 f47 f48 f49 f50 f51 q54 q55 q56 f57 q58 f59 f60 f64 u_76 hx16 hx18 hx19 hx21 hx22 hx26 hx28 hx29 hx30 hx33 hx46 hx52 hx53 hx61 hx62 hx63 hx65 hm12_0 hm12_1 hm13_0 hm13_1 hm14_0 hm14_1 hm15_0 hm15_1 hm42_0 hm42_1 hu_76) (cwV 1 hts g_EM_layAhead_EM_isUrgent rfl rfl rfl (by decide +kernel) ⟨Nat.le_of_ble_eq_true rfl, Nat.le_of_ble_eq_true rfl⟩) ⟨pu_bl, va_recv hK hP (ci := 9) (q0 := 0) rfl rfl, pu_in hP hK hD⟩ rfl rfl hl.1 rfl (lv_room (Nat.le_of_ble_eq_true rfl)) dX9_layAhead_188 ⟨Nat.le_of_ble_eq_true rfl, Nat.le_of_ble_eq_true rfl⟩) hS (fun q _ h => pu_fr hS hA q h) (pu_fr hS hA) (fun r_77 u t H1 locs ht hvm hw hB hz1 hk1 hS => ?_)
            have hP := pu_keep hP hk1
            clear hk1 hz1 ht hvm
            generalize H1 = H at hP hS ⊢
            obtain ⟨u_78, hu_78, rfl, iu_78⟩ := hw
            replace hsp := hsp.trans (slet_eq iu_78)
            refine lv_if_ne (tgt := 226) hx hb dX9_layAhead_191 (by decide) (fun c_79 => ?_) (fun c_79 => ?_)
            · have c_79 : ¬ u_78 = 0 := fun z => c_79 ((nI_eq (a := u_78) (b := 0) (Nat.lt_of_le_of_lt hu_78 (Nat.le_of_ble_eq_true rfl)) (Nat.le_of_ble_eq_true rfl)).mpr z)
              replace hsp := hsp.trans (if_neg c_79)
              refine lv_iconst (v := 1) hx hb dX9_layAhead_226 (by decide) ?_
              exact W.zret (v := 1) (ty := .boolean) hx hb hr (rfl) (fun t ht hW => ⟨⟨1, (), rfl, ⟨1, (Nat.le_of_ble_eq_true rfl), rfl, (congrArg Prod.fst (hsp.symm.trans hRR))⟩, ⟨z35_72, ⟨by rw [ht]; exact hP, va_K.moved hW.alike hK, hD⟩, (congrArg Prod.snd (hsp.symm.trans hRR))⟩⟩, hS.F ht⟩) hS.2.2 dX9_layAhead_227
            · have c_79 : u_78 = 0 := (nI_eq (a := u_78) (b := 0) (Nat.lt_of_le_of_lt hu_78 (Nat.le_of_ble_eq_true rfl)) (Nat.le_of_ble_eq_true rfl)).mp c_79
              replace hsp := hsp.trans (if_pos c_79)
              refine lv_iconst (v := 1) hx hb dX9_layAhead_194 (by decide) ?_
              refine lv_istore_n (lv' := [(2, .int 1), (0, .ref (ad 0)), (1, .int (nI a0))]) hx hb dX9_layAhead_195 rfl hl (by decide) rfl (fun ls hl => ?_)
              obtain ⟨lf_85, dlf_85, hlf_85, hsp⟩ := itr_ex hsp
              delta sp_EM_layAhead_L2 at hlf_85
              refine pu_while (fun nn H locs ls => ∃ (g_82 : Nat → Int32) (g_83 : Nat), nn = 5 - g_83 ∧ (1 ≤ g_83 ∧ g_83 ≤ 5) ∧ RR = itrv dlf_85 lf_85 (g_82, g_83) ∧ va_P (dC, dI) vwCl (mo_w ad ck x0 (nI x16) (nI x18) (nI x19) x20 (nI x21) (nI x22) x23 x24 x25 (nI x26) x27 (nI x28) (nI x29) (nI x30) (nI x33) x45 (nI x46) (nI x52) (nI x53) (nI x61) (nI x62) (nI x63) (nI x65) x66 f1 f2 f3 (bN 3 q4) (bN 7 q5) (bN 7 q6) (bN 4 q7) f8 (bN 2 q9) (bH q10) f11 (b2 m12_0 m12_1) (b2 m13_0 m13_1) (b2 m14_0 m14_1) (b2m m15_0 m15_1) f17 (bA 159 q31) f32 f34 g_82 f36 f37 (bN 7 q38) f39 f40 f41 (b2 m42_0 m42_1) f43 f44 f47 f48 f49 f50 f51 (bN 13 q54) (bN 120 q55) (bN 120 q56) f57 (bN 120 q58) f59 f60 f64) H ∧ va_D A (mo_w ad ck x0 (nI x16) (nI x18) (nI x19) x20 (nI x21) (nI x22) x23 x24 x25 (nI x26) x27 (nI x28) (nI x29) (nI x30) (nI x33) x45 (nI x46) (nI x52) (nI x53) (nI x61) (nI x62) (nI x63) (nI x65) x66 f1 f2 f3 (bN 3 q4) (bN 7 q5) (bN 7 q6) (bN 4 q7) f8 (bN 2 q9) (bH q10) f11 (b2 m12_0 m12_1) (b2 m13_0 m13_1) (b2 m14_0 m14_1) (b2m m15_0 m15_1) f17 (bA 159 q31) f32 f34 g_82 f36 f37 (bN 7 q38) f39 f40 f41 (b2 m42_0 m42_1) f43 f44 f47 f48 f49 f50 f51 (bN 13 q54) (bN 120 q55) (bN 120 q56) f57 (bN 120 q58) f59 f60 f64) ∧ va_S A s.heap H locs ∧ lv_has ls 4 [(0, .ref (ad 0)), (1, .int (nI a0)), (2, .int (nI g_83))]) 196 ?_ _ _ _ _ ⟨z35_72, 1, rfl, ⟨by omega, by omega⟩, hsp, hP, hD, hS, lv_sub hl [1, 2, 0] rfl⟩
              rintro nn ih_84 H locs ls ⟨g_82, g_83, rfl, hg_83, he_87, hP, hD, hS, hl⟩
              obtain ⟨S_86, hsp, hin_88, hout_89⟩ := itr_step hlf_85 he_87
              refine lv_iload_n hx hb dX9_layAhead_196 rfl (lv_at hl 2 rfl) ?_
              refine lv_aload_n hx hb dX9_layAhead_197 rfl (lv_at hl 0 rfl) ?_
              refine va_get (D := (dC, dI)) (ci := 9) (v := .int (nI x46)) (C := RX9) (T := TX9) (N := 67) hx hb hts hiX9 hown hK hP 0 rfl rfl 46 (by decide) v_3 (fun _ h9 => h9) rfl dX9_layAhead_198 ?_
              refine lv_icmp_ge (tgt := 217) hx hb dX9_layAhead_201 (by decide) (fun c_90 => ?_) (fun c_90 => ?_)
              · have c_90 : x46 ≤ g_83 := (nI_leI (a := x46) (b := g_83) (Nat.lt_of_le_of_lt hx46 (Nat.le_of_ble_eq_true rfl)) (Nat.lt_of_le_of_lt hg_83.2 (Nat.le_of_ble_eq_true rfl))).mp c_90
                replace hsp := hsp.trans (if_pos c_90)
                have hsp := hout_89 _ hsp
                refine lv_aload_n hx hb dX9_layAhead_217 rfl (lv_at hl 0 rfl) ?_
                refine lv_aload_n hx hb dX9_layAhead_218 rfl (lv_at hl 0 rfl) ?_
                refine va_get (D := (dC, dI)) (ci := 9) (v := .ref (ad 35)) (C := RX9) (T := TX9) (N := 67) hx hb hts hiX9 hown hK hP 0 rfl rfl 35 (by decide) v_1 (fun _ h9 => h9) rfl dX9_layAhead_219 ?_
                have hFc := pu_free hD hS hA
                refine va_calli (va_runV (As := [.ref (ad 35)]) (rest := []) ⟨hx, hb, hml, hown, hts⟩ (c_EM_closes_z l dC dI _ ad ck x0 x16 x18 x19 x20 x21 x22 x23 x24 x25 x26 x27 x28 x29 x30 x33 x45 x46 x52 x53 x61 x62 x63 x65 x66 f1 f2 f3 q4 q5 q6 q7 f8 q9 q10 f11 m12_0 m12_1 m13_0 m13_1 m14_0 m14_1 m15_0 m15_1 f17 q31 f32 f34 g_82 f36 f37 q38 f39 f40 f41 m42_0 m42_1 f43 f44 f47 f48 f49 f50 f51 q54 q55 q56 f57 q58 f59 f60 f64 hx16 hx18 hx19 hx21 hx22 hx26 hx28 hx29 hx30 hx33 hx46 hx52 hx53 hx61 hx62 hx63 hx65 hm12_0 hm12_1 hm13_0 hm13_1 hm14_0 hm14_1 hm15_0 hm15_1 hm42_0 hm42_1) (cwV 1 hts g_EM_layAhead_EM_closes_z rfl rfl rfl (by decide +kernel) ⟨Nat.le_of_ble_eq_true rfl, Nat.le_of_ble_eq_true rfl⟩) ⟨pu_bl, va_recv hK hP (ci := 9) (q0 := 0) rfl rfl, pu_in hP hK hD⟩ rfl rfl hl.1 rfl (lv_room (Nat.le_of_ble_eq_true rfl)) dX9_layAhead_222 ⟨Nat.le_of_ble_eq_true rfl, Nat.le_of_ble_eq_true rfl⟩) hS (fun q _ h => hFc q h) hFc (fun r_91 u t H1 locs ht hvm hw hB hz1 hk1 hS => ?_)
                obtain ⟨z35_92, ⟨hP1, -, hD1⟩, xr_91_0⟩ := hB
                rw [ht] at hP1
                have hP := hP1
                have hD := pu_all hFc hD1
                clear hP1 hD1 hFc
                clear hk1 hz1 ht hvm
                generalize H1 = H at hP hS ⊢
                obtain ⟨u_93, hu_93, rfl, iu_93⟩ := hw
                have iu_93 : (u_93, z35_92) = (sp_EM_closes_z x46 g_82) := Prod.ext iu_93 xr_91_0
                replace hsp := hsp.trans (slet_eq iu_93)
                refine lv_pop hx hb dX9_layAhead_225 rfl ?_
                refine lv_iconst (v := 1) hx hb dX9_layAhead_226 (by decide) ?_
                exact W.zret (v := 1) (ty := .boolean) hx hb hr (rfl) (fun t ht hW => ⟨⟨1, (), rfl, ⟨1, (Nat.le_of_ble_eq_true rfl), rfl, (congrArg Prod.fst (hsp.symm.trans hRR))⟩, ⟨z35_92, ⟨by rw [ht]; exact hP, va_K.moved hW.alike hK, hD⟩, (congrArg Prod.snd (hsp.symm.trans hRR))⟩⟩, hS.F ht⟩) hS.2.2 dX9_layAhead_227
              · have c_90 : ¬ x46 ≤ g_83 := fun z => c_90 ((nI_leI (a := x46) (b := g_83) (Nat.lt_of_le_of_lt hx46 (Nat.le_of_ble_eq_true rfl)) (Nat.lt_of_le_of_lt hg_83.2 (Nat.le_of_ble_eq_true rfl))).mpr z)
                replace hsp := hsp.trans (if_neg c_90)
                refine lv_aload_n hx hb dX9_layAhead_204 rfl (lv_at hl 0 rfl) ?_
                refine va_get (D := (dC, dI)) (ci := 9) (v := .ref (ad 35)) (C := RX9) (T := TX9) (N := 67) hx hb hts hiX9 hown hK hP 0 rfl rfl 35 (by decide) v_1 (fun _ h9 => h9) rfl dX9_layAhead_205 ?_
                refine lv_iload_n hx hb dX9_layAhead_208 rfl (lv_at hl 2 rfl) ?_
                refine lv_iconst (v := 1) hx hb dX9_layAhead_209 (by decide) ?_
                refine va_iast hx hb hK hP hD hS 20 19 rfl rfl (vp_in_nI (n := g_83) (Nat.lt_of_le_of_lt hg_83.2 (Nat.le_of_ble_eq_true rfl)) (Nat.le_of_ble_eq_true rfl)) dX9_layAhead_210 (fun H locs hP hD hS => ?_)
                obtain ⟨f_94, ef_94, xf_94⟩ := up_x g_82 (n := g_83) 1 (Nat.lt_of_le_of_lt hg_83.2 (Nat.le_of_ble_eq_true rfl))
                have hP : va_P (dC, dI) vwCl (mo_w ad ck x0 (nI x16) (nI x18) (nI x19) x20 (nI x21) (nI x22) x23 x24 x25 (nI x26) x27 (nI x28) (nI x29) (nI x30) (nI x33) x45 (nI x46) (nI x52) (nI x53) (nI x61) (nI x62) (nI x63) (nI x65) x66 f1 f2 f3 (bN 3 q4) (bN 7 q5) (bN 7 q6) (bN 4 q7) f8 (bN 2 q9) (bH q10) f11 (b2 m12_0 m12_1) (b2 m13_0 m13_1) (b2 m14_0 m14_1) (b2m m15_0 m15_1) f17 (bA 159 q31) f32 f34 f_94 f36 f37 (bN 7 q38) f39 f40 f41 (b2 m42_0 m42_1) f43 f44 f47 f48 f49 f50 f51 (bN 13 q54) (bN 120 q55) (bN 120 q56) f57 (bN 120 q58) f59 f60 f64) H := by rw [← ef_94]; exact hP
                have hD : va_D A (mo_w ad ck x0 (nI x16) (nI x18) (nI x19) x20 (nI x21) (nI x22) x23 x24 x25 (nI x26) x27 (nI x28) (nI x29) (nI x30) (nI x33) x45 (nI x46) (nI x52) (nI x53) (nI x61) (nI x62) (nI x63) (nI x65) x66 f1 f2 f3 (bN 3 q4) (bN 7 q5) (bN 7 q6) (bN 4 q7) f8 (bN 2 q9) (bH q10) f11 (b2 m12_0 m12_1) (b2 m13_0 m13_1) (b2 m14_0 m14_1) (b2m m15_0 m15_1) f17 (bA 159 q31) f32 f34 f_94 f36 f37 (bN 7 q38) f39 f40 f41 (b2 m42_0 m42_1) f43 f44 f47 f48 f49 f50 f51 (bN 13 q54) (bN 120 q55) (bN 120 q56) f57 (bN 120 q58) f59 f60 f64) := by rw [← ef_94]; exact hD
                replace hsp := hsp.trans (slet_eq xf_94)
                refine lv_iinc (v := (nI (g_83 + 1))) (lv' := [(2, .int (nI (g_83 + 1))), (0, .ref (ad 0)), (1, .int (nI a0))]) hx hb dX9_layAhead_211 hl (k := 2) rfl (nI_1 _) (by decide) rfl (fun ls hl => ?_)
                refine lv_goto (tgt := 196) hx hb dX9_layAhead_214 (by decide) ?_
                exact ih_84 (5 - (g_83 + 1)) (by omega) _ _ _ ⟨f_94, (g_83 + 1), rfl, ⟨by omega, by omega⟩, hin_88 _ hsp, hP, hD, hS, lv_sub hl [1, 2, 0] rfl⟩
          · have c_74 : u_73 = 0 := (nI_eq (a := u_73) (b := 0) (Nat.lt_of_le_of_lt hu_73 (Nat.le_of_ble_eq_true rfl)) (Nat.le_of_ble_eq_true rfl)).mp c_74
            replace hsp := hsp.trans (if_pos c_74)
            refine lv_iconst (v := 0) hx hb dX9_layAhead_180 (by decide) ?_
            exact W.zret (v := 0) (ty := .boolean) hx hb hr (rfl) (fun t ht hW => ⟨⟨0, (), rfl, ⟨0, (Nat.le_of_ble_eq_true rfl), rfl, (congrArg Prod.fst (hsp.symm.trans hRR))⟩, ⟨z35_72, ⟨by rw [ht]; exact hP, va_K.moved hW.alike hK, hD⟩, (congrArg Prod.snd (hsp.symm.trans hRR))⟩⟩, hS.F ht⟩) hS.2.2 dX9_layAhead_181
        · have c_70 : ¬ n_45 ≤ g_33 := fun z => c_70 ((nI_leI (a := n_45) (b := g_33) (Nat.lt_of_le_of_lt hn_45 (Nat.le_of_ble_eq_true rfl)) (Nat.lt_of_le_of_lt hg_33 (Nat.le_of_ble_eq_true rfl))).mpr z)
          replace hsp := hsp.trans (if_neg c_70)
          refine lv_aload_n hx hb dX9_layAhead_100 rfl (lv_at hl 0 rfl) ?_
          refine lv_bipush (v := 100) hx hb dX9_layAhead_101 (by decide) ?_
          refine lv_aload_n hx hb dX9_layAhead_103 rfl (lv_at hl 0 rfl) ?_
          refine lv_iload_n hx hb dX9_layAhead_104 rfl (lv_at hl 1 rfl) ?_
          refine va_calli (va_runV (As := [.int (nI a0)]) (rest := [.int 100, .ref (ad 0)]) ⟨hx, hb, hml, hown, hts⟩ (c_EM_into l dC dI _ ad ck x0 x16 x18 x19 x20 x21 x22 x23 x24 x25 x26 x27 x28 x29 x30 x33 x45 x46 x52 x53 x61 x62 x63 x65 x66 f1 f2 f3 q4 q5 q6 q7 f8 q9 q10 f11 m12_0 m12_1 m13_0 m13_1 m14_0 m14_1 m15_0 m15_1 f17 q31 f32 f34 g_32 f36 f37 q38 f39 f40 f41 m42_0 m42_1 f43 f44 f47 f48 f49 f50 f51 q54 q55 q56 f57 q58 f59 f60 f64 a0 hx16 hx18 hx19 hx21 hx22 hx26 hx28 hx29 hx30 hx33 hx46 hx52 hx53 hx61 hx62 hx63 hx65 hm12_0 hm12_1 hm13_0 hm13_1 hm14_0 hm14_1 hm15_0 hm15_1 hm42_0 hm42_1 ha0) (cwV 1 hts g_EM_layAhead_EM_into rfl rfl rfl (by decide +kernel) ⟨Nat.le_of_ble_eq_true rfl, Nat.le_of_ble_eq_true rfl⟩) ⟨pu_bl, va_recv hK hP (ci := 9) (q0 := 0) rfl rfl, pu_in hP hK hD⟩ rfl rfl hl.1 rfl (lv_room (Nat.le_of_ble_eq_true rfl)) dX9_layAhead_105 ⟨Nat.le_of_ble_eq_true rfl, Nat.le_of_ble_eq_true rfl⟩) hS (fun q _ h => pu_fr hS hA q h) (pu_fr hS hA) (fun r_95 u t H1 locs ht hvm hw hB hz1 hk1 hS => ?_)
          have hP := pu_keep hP hk1
          clear hk1 hz1 ht hvm
          generalize H1 = H at hP hS ⊢
          obtain ⟨u_96, hu_96, rfl, iu_96⟩ := hw
          replace hsp := hsp.trans (slet_eq iu_96)
          refine lv_iadd hx hb dX9_layAhead_108 ?_
          refine lv_topi (fun y_97 ey_97 => ?_)
          obtain rfl : y_97 = (nI (100 + u_96)) := ey_97.trans (nI_add 100 u_96)
          refine lv_iload_n hx hb dX9_layAhead_109 rfl (lv_at hl 2 rfl) ?_
          refine va_calli (va_runV (As := [.int (nI (100 + u_96)), .int (nI g_33)]) (rest := []) ⟨hx, hb, hml, hown, hts⟩ (c_EM_spot_p l dC dI _ ad ck x0 x16 x18 x19 x20 x21 x22 x23 x24 x25 x26 x27 x28 x29 x30 x33 x45 x46 x52 x53 x61 x62 x63 x65 x66 f1 f2 f3 q4 q5 q6 q7 f8 q9 q10 f11 m12_0 m12_1 m13_0 m13_1 m14_0 m14_1 m15_0 m15_1 f17 q31 f32 f34 g_32 f36 f37 q38 f39 f40 f41 m42_0 m42_1 f43 f44 f47 f48 f49 f50 f51 q54 q55 q56 f57 q58 f59 f60 f64 (100 + u_96) g_33 hx16 hx18 hx19 hx21 hx22 hx26 hx28 hx29 hx30 hx33 hx46 hx52 hx53 hx61 hx62 hx63 hx65 hm12_0 hm12_1 hm13_0 hm13_1 hm14_0 hm14_1 hm15_0 hm15_1 hm42_0 hm42_1 (by omega) (by omega) (by omega)) (cwV 2 hts g_EM_layAhead_EM_spot_p rfl rfl rfl (by decide +kernel) ⟨Nat.le_of_ble_eq_true rfl, Nat.le_of_ble_eq_true rfl⟩) ⟨pu_bl, va_recv hK hP (ci := 9) (q0 := 0) rfl rfl, pu_in hP hK hD⟩ rfl rfl hl.1 rfl (lv_room (Nat.le_of_ble_eq_true rfl)) dX9_layAhead_110 ⟨Nat.le_of_ble_eq_true rfl, Nat.le_of_ble_eq_true rfl⟩) hS (fun q _ h => pu_fr hS hA q h) (pu_fr hS hA) (fun r_98 u t H1 locs ht hvm hw hB hz1 hk1 hS => ?_)
          have hP := pu_keep hP hk1
          clear hk1 hz1 ht hvm
          generalize H1 = H at hP hS ⊢
          obtain rfl : r_98 = nI (80 * x16 + (56 + 3 * ((100 + u_96) - 100)) + g_33) := hw
          refine lv_istore_n (lv' := [(3, .int (nI (80 * x16 + (56 + 3 * ((100 + u_96) - 100)) + g_33))), (0, .ref (ad 0)), (1, .int (nI a0)), (2, .int (nI g_33))]) hx hb dX9_layAhead_113 rfl hl (by decide) rfl (fun ls hl => ?_)
          refine lv_aload_n hx hb dX9_layAhead_114 rfl (lv_at hl 1 rfl) ?_
          refine lv_iload_n hx hb dX9_layAhead_115 rfl (lv_at hl 2 rfl) ?_
          refine va_calli (va_runV (As := [.int (nI a0)]) (rest := []) ⟨hx, hb, hml, hown, hts⟩ (c_EM_setBy l dC dI _ ad ck x0 x16 x18 x19 x20 x21 x22 x23 x24 x25 x26 x27 x28 x29 x30 x33 x45 x46 x52 x53 x61 x62 x63 x65 x66 f1 f2 f3 q4 q5 q6 q7 f8 q9 q10 f11 m12_0 m12_1 m13_0 m13_1 m14_0 m14_1 m15_0 m15_1 f17 q31 f32 f34 g_32 f36 f37 q38 f39 f40 f41 m42_0 m42_1 f43 f44 f47 f48 f49 f50 f51 q54 q55 q56 f57 q58 f59 f60 f64 a0 hx16 hx18 hx19 hx21 hx22 hx26 hx28 hx29 hx30 hx33 hx46 hx52 hx53 hx61 hx62 hx63 hx65 hm12_0 hm12_1 hm13_0 hm13_1 hm14_0 hm14_1 hm15_0 hm15_1 hm42_0 hm42_1 ha0) (cwV 1 hts g_EM_layAhead_EM_setBy rfl rfl rfl (by decide +kernel) ⟨Nat.le_of_ble_eq_true rfl, Nat.le_of_ble_eq_true rfl⟩) ⟨pu_bl, va_recv hK hP (ci := 9) (q0 := 0) rfl rfl, pu_in hP hK hD⟩ rfl rfl hl.1 rfl (lv_room (Nat.le_of_ble_eq_true rfl)) dX9_layAhead_116 ⟨Nat.le_of_ble_eq_true rfl, Nat.le_of_ble_eq_true rfl⟩) hS (fun q _ h => pu_fr hS hA q h) (pu_fr hS hA) (fun r_99 u t H1 locs ht hvm hw hB hz1 hk1 hS => ?_)
          have hP := pu_keep hP hk1
          clear hk1 hz1 ht hvm
          generalize H1 = H at hP hS ⊢
          have ir_99 := hw
          replace hsp := hsp.trans (slet_eq ir_99)
          refine lv_aload_n hx hb dX9_layAhead_119 rfl (lv_at hl 1 rfl) ?_
          refine va_get (D := (dC, dI)) (ci := 9) (v := .ref (ad 9)) (C := RX9) (T := TX9) (N := 67) hx hb hts hiX9 hown hK hP 0 rfl rfl 9 (by decide) v_37 (fun _ h9 => h9) rfl dX9_layAhead_120 ?_
          refine lv_iload_n hx hb dX9_layAhead_123 rfl (lv_at hl 0 rfl) ?_
          refine va_iald hx hb hK hP 9 8 rfl rfl (vp_in_nI (n := (80 * x16 + (56 + 3 * ((100 + u_96) - 100)) + g_33)) (by omega) (Nat.le_of_ble_eq_true rfl)) dX9_layAhead_124 ?_
          refine lv_topi (fun y_100 ey_100 => ?_)
          obtain ⟨u_101, hu_101, qu_101, xu_101⟩ := bN_getx 2 q9 (n := (80 * x16 + (56 + 3 * ((100 + u_96) - 100)) + g_33)) (by first | omega | exact Nat.lt_trans (zx16 (by omega) (by omega) (by omega)) (Nat.le_of_ble_eq_true rfl) | exact Nat.lt_trans (zy16 (by omega) (by omega)) (Nat.le_of_ble_eq_true rfl) | exact Nat.lt_trans (zx25 (by omega) (by omega) (by omega)) (Nat.le_of_ble_eq_true rfl) | exact Nat.lt_trans (zy25 (by omega) (by omega)) (Nat.le_of_ble_eq_true rfl))
          obtain rfl : y_100 = nI u_101 := ey_100.trans qu_101
          replace hsp := hsp.trans (slet_eq xu_101)
          refine va_calli (va_runS (As := [.int r_99, .int (nI u_101)]) (rest := []) ⟨hx, hb, hml, hown, hts⟩ (c_EM_isOf l dC dI _ ad ck x0 x16 x18 x19 x20 x21 x22 x23 x24 x25 x26 x27 x28 x29 x30 x33 x45 x46 x52 x53 x61 x62 x63 x65 x66 f1 f2 f3 q4 q5 q6 q7 f8 q9 q10 f11 m12_0 m12_1 m13_0 m13_1 m14_0 m14_1 m15_0 m15_1 f17 q31 f32 f34 g_32 f36 f37 q38 f39 f40 f41 m42_0 m42_1 f43 f44 f47 f48 f49 f50 f51 q54 q55 q56 f57 q58 f59 f60 f64 r_99 (nI u_101) hx16 hx18 hx19 hx21 hx22 hx26 hx28 hx29 hx30 hx33 hx46 hx52 hx53 hx61 hx62 hx63 hx65 hm12_0 hm12_1 hm13_0 hm13_1 hm14_0 hm14_1 hm15_0 hm15_1 hm42_0 hm42_1) (va_cwS 2 hts g_EM_layAhead_EM_isOf rfl rfl rfl (by decide +kernel) ⟨Nat.le_of_ble_eq_true rfl, Nat.le_of_ble_eq_true rfl⟩) ⟨pu_bl, pu_in hP hK hD⟩ rfl rfl hl.1 rfl (lv_room (Nat.le_of_ble_eq_true rfl)) dX9_layAhead_125 ⟨Nat.le_of_ble_eq_true rfl, Nat.le_of_ble_eq_true rfl⟩) hS (fun q _ h => pu_fr hS hA q h) (pu_fr hS hA) (fun r_102 u t H1 locs ht hvm hw hB hz1 hk1 hS => ?_)
          have hP := pu_keep hP hk1
          clear hk1 hz1 ht hvm
          generalize H1 = H at hP hS ⊢
          obtain ⟨u_103, hu_103, rfl, iu_103⟩ := hw
          replace hsp := hsp.trans (slet_eq iu_103)
          refine lv_if_ne (tgt := 143) hx hb dX9_layAhead_128 (by decide) (fun c_104 => ?_) (fun c_104 => ?_)
          · have c_104 : ¬ u_103 = 0 := fun z => c_104 ((nI_eq (a := u_103) (b := 0) (Nat.lt_of_le_of_lt hu_103 (Nat.le_of_ble_eq_true rfl)) (Nat.le_of_ble_eq_true rfl)).mpr z)
            replace hsp := hsp.trans (if_neg c_104)
            refine lv_aload_n hx hb dX9_layAhead_143 rfl (lv_at hl 1 rfl) ?_
            refine va_get (D := (dC, dI)) (ci := 9) (v := .ref (ad 10)) (C := RX9) (T := TX9) (N := 67) hx hb hts hiX9 hown hK hP 0 rfl rfl 10 (by decide) v_41 (fun _ h9 => h9) rfl dX9_layAhead_144 ?_
            refine lv_iload_n hx hb dX9_layAhead_147 rfl (lv_at hl 0 rfl) ?_
            refine va_iald hx hb hK hP 10 9 rfl rfl (vp_in_nI (n := (80 * x16 + (56 + 3 * ((100 + u_96) - 100)) + g_33)) (by omega) (Nat.le_of_ble_eq_true rfl)) dX9_layAhead_148 ?_
            refine lv_topi (fun y_105 ey_105 => ?_)
            obtain ⟨u_106, hu_106, qu_106, xu_106⟩ := bH_getx q10 (i := (80 * x16 + (56 + 3 * ((100 + u_96) - 100)) + g_33)) (by omega)
            obtain rfl : y_105 = nI u_106 := ey_105.trans qu_106
            replace hsp := hsp.trans (slet_eq xu_106)
            refine lv_if_ne (tgt := 163) hx hb dX9_layAhead_149 (by decide) (fun c_107 => ?_) (fun c_107 => ?_)
            · have c_107 : ¬ u_106 = 0 := fun z => c_107 ((nI_eq (a := u_106) (b := 0) (by omega) (Nat.le_of_ble_eq_true rfl)).mpr z)
              replace hsp := hsp.trans (if_neg c_107)
              refine lv_iinc (v := (nI (g_33 + 1))) (lv' := [(2, .int (nI (g_33 + 1))), (3, .int (nI (80 * x16 + (56 + 3 * ((100 + u_96) - 100)) + g_33))), (0, .ref (ad 0)), (1, .int (nI a0))]) hx hb dX9_layAhead_163 hl (k := 3) rfl (nI_1 _) (by decide) rfl (fun ls hl => ?_)
              refine lv_goto (tgt := 84) hx hb dX9_layAhead_166 (by decide) ?_
              exact ih_34 (3 - (g_33 + 1)) (by omega) _ _ _ ⟨g_32, (g_33 + 1), rfl, (by omega), hin_38 _ hsp, hP, hD, hS, lv_sub hl [2, 3, 0] rfl⟩
            · have c_107 : u_106 = 0 := (nI_eq (a := u_106) (b := 0) (by omega) (Nat.le_of_ble_eq_true rfl)).mp c_107
              replace hsp := hsp.trans (if_pos c_107)
              refine lv_aload_n hx hb dX9_layAhead_152 rfl (lv_at hl 1 rfl) ?_
              refine va_get (D := (dC, dI)) (ci := 9) (v := .ref (ad 11)) (C := RX9) (T := TX9) (N := 67) hx hb hts hiX9 hown hK hP 0 rfl rfl 11 (by decide) v_42 (fun _ h9 => h9) rfl dX9_layAhead_153 ?_
              refine lv_iload_n hx hb dX9_layAhead_156 rfl (lv_at hl 0 rfl) ?_
              refine va_iald hx hb hK hP 11 10 rfl rfl (vp_in_nI (n := (80 * x16 + (56 + 3 * ((100 + u_96) - 100)) + g_33)) (by omega) (Nat.le_of_ble_eq_true rfl)) dX9_layAhead_157 ?_
              refine lv_topi (fun y_108 ey_108 => ?_)
              have ey_108 : y_108 = f11 (80 * x16 + (56 + 3 * ((100 + u_96) - 100)) + g_33) := ey_108.trans (congrArg f11 (nI_clamp (n := (80 * x16 + (56 + 3 * ((100 + u_96) - 100)) + g_33)) (by first | omega | exact Nat.lt_trans (zx16 (by omega) (by omega) (by omega)) (Nat.le_of_ble_eq_true rfl) | exact Nat.lt_trans (zy16 (by omega) (by omega)) (Nat.le_of_ble_eq_true rfl) | exact Nat.lt_trans (zx25 (by omega) (by omega) (by omega)) (Nat.le_of_ble_eq_true rfl) | exact Nat.lt_trans (zy25 (by omega) (by omega)) (Nat.le_of_ble_eq_true rfl))))
              replace hsp := hsp.trans (slet_eq ey_108)
              refine lv_if_ne (tgt := 163) hx hb dX9_layAhead_158 (by decide) (fun c_109 => ?_) (fun c_109 => ?_)
              · have hcc_109 := c_109
                replace hsp := hsp.trans (if_neg c_109)
                refine lv_iinc (v := (nI (g_33 + 1))) (lv' := [(2, .int (nI (g_33 + 1))), (3, .int (nI (80 * x16 + (56 + 3 * ((100 + u_96) - 100)) + g_33))), (0, .ref (ad 0)), (1, .int (nI a0))]) hx hb dX9_layAhead_163 hl (k := 3) rfl (nI_1 _) (by decide) rfl (fun ls hl => ?_)
                refine lv_goto (tgt := 84) hx hb dX9_layAhead_166 (by decide) ?_
                exact ih_34 (3 - (g_33 + 1)) (by omega) _ _ _ ⟨g_32, (g_33 + 1), rfl, (by omega), hin_38 _ hsp, hP, hD, hS, lv_sub hl [2, 3, 0] rfl⟩
              · have hcc_109 := c_109
                replace hsp := hsp.trans (if_pos c_109)
                have hsp := hout_39 _ hsp
                refine lv_iconst (v := 0) hx hb dX9_layAhead_161 (by decide) ?_
                exact W.zret (v := 0) (ty := .boolean) hx hb hr (rfl) (fun t ht hW => ⟨⟨0, (), rfl, ⟨0, (Nat.le_of_ble_eq_true rfl), rfl, (congrArg Prod.fst (hsp.symm.trans hRR))⟩, ⟨g_32, ⟨by rw [ht]; exact hP, va_K.moved hW.alike hK, hD⟩, (congrArg Prod.snd (hsp.symm.trans hRR))⟩⟩, hS.F ht⟩) hS.2.2 dX9_layAhead_162
          · have c_104 : u_103 = 0 := (nI_eq (a := u_103) (b := 0) (Nat.lt_of_le_of_lt hu_103 (Nat.le_of_ble_eq_true rfl)) (Nat.le_of_ble_eq_true rfl)).mp c_104
            replace hsp := hsp.trans (if_pos c_104)
            refine lv_aload_n hx hb dX9_layAhead_131 rfl (lv_at hl 1 rfl) ?_
            refine lv_aload_n hx hb dX9_layAhead_132 rfl (lv_at hl 1 rfl) ?_
            refine va_get (D := (dC, dI)) (ci := 9) (v := .ref (ad 35)) (C := RX9) (T := TX9) (N := 67) hx hb hts hiX9 hown hK hP 0 rfl rfl 35 (by decide) v_1 (fun _ h9 => h9) rfl dX9_layAhead_133 ?_
            refine lv_iload_n hx hb dX9_layAhead_136 rfl (lv_at hl 0 rfl) ?_
            have hFc := pu_free hD hS hA
            refine va_callv (va_runV (As := [.ref (ad 35), .int (nI (80 * x16 + (56 + 3 * ((100 + u_96) - 100)) + g_33))]) (rest := []) ⟨hx, hb, hml, hown, hts⟩ (c_EM_holds l dC dI _ ad ck x0 x16 x18 x19 x20 x21 x22 x23 x24 x25 x26 x27 x28 x29 x30 x33 x45 x46 x52 x53 x61 x62 x63 x65 x66 f1 f2 f3 q4 q5 q6 q7 f8 q9 q10 f11 m12_0 m12_1 m13_0 m13_1 m14_0 m14_1 m15_0 m15_1 f17 q31 f32 f34 g_32 f36 f37 q38 f39 f40 f41 m42_0 m42_1 f43 f44 f47 f48 f49 f50 f51 q54 q55 q56 f57 q58 f59 f60 f64 (80 * x16 + (56 + 3 * ((100 + u_96) - 100)) + g_33) hx16 hx18 hx19 hx21 hx22 hx26 hx28 hx29 hx30 hx33 hx46 hx52 hx53 hx61 hx62 hx63 hx65 hm12_0 hm12_1 hm13_0 hm13_1 hm14_0 hm14_1 hm15_0 hm15_1 hm42_0 hm42_1 (by omega)) (cwV 2 hts g_EM_layAhead_EM_holds rfl rfl rfl (by decide +kernel) ⟨Nat.le_of_ble_eq_true rfl, Nat.le_of_ble_eq_true rfl⟩) ⟨pu_bl, va_recv hK hP (ci := 9) (q0 := 0) rfl rfl, pu_in hP hK hD⟩ rfl rfl hl.1 rfl (lv_room (Nat.le_of_ble_eq_true rfl)) dX9_layAhead_137 ⟨Nat.le_of_ble_eq_true rfl, Nat.le_of_ble_eq_true rfl⟩) hS (fun q _ h => hFc q h) hFc (fun u t H1 locs ht hvm hw hB hz1 hk1 hS => ?_)
            obtain ⟨z35_111, ⟨hP1, -, hD1⟩, xr_110_0⟩ := hB
            rw [ht] at hP1
            have hP := hP1
            have hD := pu_all hFc hD1
            clear hP1 hD1 hFc
            clear hk1 hz1 ht hvm
            generalize H1 = H at hP hS ⊢
            replace hsp := hsp.trans (slet_eq xr_110_0)
            refine lv_goto (tgt := 163) hx hb dX9_layAhead_140 (by decide) ?_
            refine lv_iinc (v := (nI (g_33 + 1))) (lv' := [(2, .int (nI (g_33 + 1))), (3, .int (nI (80 * x16 + (56 + 3 * ((100 + u_96) - 100)) + g_33))), (0, .ref (ad 0)), (1, .int (nI a0))]) hx hb dX9_layAhead_163 hl (k := 3) rfl (nI_1 _) (by decide) rfl (fun ls hl => ?_)
            refine lv_goto (tgt := 84) hx hb dX9_layAhead_166 (by decide) ?_
            exact ih_34 (3 - (g_33 + 1)) (by omega) _ _ _ ⟨z35_111, (g_33 + 1), rfl, (by omega), hin_38 _ hsp, hP, hD, hS, lv_sub hl [2, 3, 0] rfl⟩
    · have c_22 : ¬ x46 ≤ g_15 := fun z => c_22 ((nI_leI (a := x46) (b := g_15) (Nat.lt_of_le_of_lt hx46 (Nat.le_of_ble_eq_true rfl)) (Nat.lt_of_le_of_lt hg_15 (Nat.le_of_ble_eq_true rfl))).mpr z)
      replace hsp := hsp.trans (if_neg c_22)
      refine lv_aload_n hx hb dX9_layAhead_33 rfl (lv_at hl 0 rfl) ?_
      refine va_get (D := (dC, dI)) (ci := 9) (v := .ref (ad 35)) (C := RX9) (T := TX9) (N := 67) hx hb hts hiX9 hown hK hP 0 rfl rfl 35 (by decide) v_1 (fun _ h9 => h9) rfl dX9_layAhead_34 ?_
      refine lv_iconst (v := 5) hx hb dX9_layAhead_37 (by decide) ?_
      refine lv_iload_n hx hb dX9_layAhead_38 rfl (lv_at hl 2 rfl) ?_
      refine lv_imul hx hb dX9_layAhead_39 ?_
      refine lv_topi (fun y_112 ey_112 => ?_)
      obtain rfl : y_112 = (nI (5 * g_15)) := ey_112.trans (pk_mul 5 g_15)
      refine lv_iload_n hx hb dX9_layAhead_40 rfl (lv_at hl 2 rfl) ?_
      refine lv_iadd hx hb dX9_layAhead_41 ?_
      refine lv_topi (fun y_113 ey_113 => ?_)
      obtain rfl : y_113 = (nI ((5 * g_15) + g_15)) := ey_113.trans (nI_add (5 * g_15) g_15)
      refine lv_iconst (v := 1) hx hb dX9_layAhead_42 (by decide) ?_
      refine va_iast hx hb hK hP hD hS 20 19 rfl rfl (vp_in_nI (n := ((5 * g_15) + g_15)) (by omega) (Nat.le_of_ble_eq_true rfl)) dX9_layAhead_43 (fun H locs hP hD hS => ?_)
      obtain ⟨f_114, ef_114, xf_114⟩ := up_x g_14 (n := ((5 * g_15) + g_15)) 1 (by first | omega | exact Nat.lt_trans (zx16 (by omega) (by omega) (by omega)) (Nat.le_of_ble_eq_true rfl) | exact Nat.lt_trans (zy16 (by omega) (by omega)) (Nat.le_of_ble_eq_true rfl) | exact Nat.lt_trans (zx25 (by omega) (by omega) (by omega)) (Nat.le_of_ble_eq_true rfl) | exact Nat.lt_trans (zy25 (by omega) (by omega)) (Nat.le_of_ble_eq_true rfl))
      have hP : va_P (dC, dI) vwCl (mo_w ad ck x0 (nI x16) (nI x18) (nI x19) x20 (nI x21) (nI x22) x23 x24 x25 (nI x26) x27 (nI x28) (nI x29) (nI x30) (nI x33) x45 (nI x46) (nI x52) (nI x53) (nI x61) (nI x62) (nI x63) (nI x65) x66 f1 f2 f3 (bN 3 q4) (bN 7 q5) (bN 7 q6) (bN 4 q7) f8 (bN 2 q9) (bH q10) f11 (b2 m12_0 m12_1) (b2 m13_0 m13_1) (b2 m14_0 m14_1) (b2m m15_0 m15_1) f17 (bA 159 q31) f32 f34 f_114 f36 f37 (bN 7 q38) f39 f40 f41 (b2 m42_0 m42_1) f43 f44 f47 f48 f49 f50 f51 (bN 13 q54) (bN 120 q55) (bN 120 q56) f57 (bN 120 q58) f59 f60 f64) H := by rw [← ef_114]; exact hP
      have hD : va_D A (mo_w ad ck x0 (nI x16) (nI x18) (nI x19) x20 (nI x21) (nI x22) x23 x24 x25 (nI x26) x27 (nI x28) (nI x29) (nI x30) (nI x33) x45 (nI x46) (nI x52) (nI x53) (nI x61) (nI x62) (nI x63) (nI x65) x66 f1 f2 f3 (bN 3 q4) (bN 7 q5) (bN 7 q6) (bN 4 q7) f8 (bN 2 q9) (bH q10) f11 (b2 m12_0 m12_1) (b2 m13_0 m13_1) (b2 m14_0 m14_1) (b2m m15_0 m15_1) f17 (bA 159 q31) f32 f34 f_114 f36 f37 (bN 7 q38) f39 f40 f41 (b2 m42_0 m42_1) f43 f44 f47 f48 f49 f50 f51 (bN 13 q54) (bN 120 q55) (bN 120 q56) f57 (bN 120 q58) f59 f60 f64) := by rw [← ef_114]; exact hD
      replace hsp := hsp.trans (slet_eq xf_114)
      refine lv_aload_n hx hb dX9_layAhead_44 rfl (lv_at hl 0 rfl) ?_
      refine va_get (D := (dC, dI)) (ci := 9) (v := .ref (ad 35)) (C := RX9) (T := TX9) (N := 67) hx hb hts hiX9 hown hK hP 0 rfl rfl 35 (by decide) v_1 (fun _ h9 => h9) rfl dX9_layAhead_45 ?_
      refine lv_iload_n hx hb dX9_layAhead_48 rfl (lv_at hl 2 rfl) ?_
      refine lv_iconst (v := 1) hx hb dX9_layAhead_49 (by decide) ?_
      refine va_iast hx hb hK hP hD hS 20 19 rfl rfl (vp_in_nI (n := g_15) (Nat.lt_of_le_of_lt hg_15 (Nat.le_of_ble_eq_true rfl)) (Nat.le_of_ble_eq_true rfl)) dX9_layAhead_50 (fun H locs hP hD hS => ?_)
      obtain ⟨f_115, ef_115, xf_115⟩ := up_x f_114 (n := g_15) 1 (Nat.lt_of_le_of_lt hg_15 (Nat.le_of_ble_eq_true rfl))
      have hP : va_P (dC, dI) vwCl (mo_w ad ck x0 (nI x16) (nI x18) (nI x19) x20 (nI x21) (nI x22) x23 x24 x25 (nI x26) x27 (nI x28) (nI x29) (nI x30) (nI x33) x45 (nI x46) (nI x52) (nI x53) (nI x61) (nI x62) (nI x63) (nI x65) x66 f1 f2 f3 (bN 3 q4) (bN 7 q5) (bN 7 q6) (bN 4 q7) f8 (bN 2 q9) (bH q10) f11 (b2 m12_0 m12_1) (b2 m13_0 m13_1) (b2 m14_0 m14_1) (b2m m15_0 m15_1) f17 (bA 159 q31) f32 f34 f_115 f36 f37 (bN 7 q38) f39 f40 f41 (b2 m42_0 m42_1) f43 f44 f47 f48 f49 f50 f51 (bN 13 q54) (bN 120 q55) (bN 120 q56) f57 (bN 120 q58) f59 f60 f64) H := by rw [← ef_115]; exact hP
      have hD : va_D A (mo_w ad ck x0 (nI x16) (nI x18) (nI x19) x20 (nI x21) (nI x22) x23 x24 x25 (nI x26) x27 (nI x28) (nI x29) (nI x30) (nI x33) x45 (nI x46) (nI x52) (nI x53) (nI x61) (nI x62) (nI x63) (nI x65) x66 f1 f2 f3 (bN 3 q4) (bN 7 q5) (bN 7 q6) (bN 4 q7) f8 (bN 2 q9) (bH q10) f11 (b2 m12_0 m12_1) (b2 m13_0 m13_1) (b2 m14_0 m14_1) (b2m m15_0 m15_1) f17 (bA 159 q31) f32 f34 f_115 f36 f37 (bN 7 q38) f39 f40 f41 (b2 m42_0 m42_1) f43 f44 f47 f48 f49 f50 f51 (bN 13 q54) (bN 120 q55) (bN 120 q56) f57 (bN 120 q58) f59 f60 f64) := by rw [← ef_115]; exact hD
      replace hsp := hsp.trans (slet_eq xf_115)
      refine lv_iinc (v := (nI (g_15 + 1))) (lv' := [(2, .int (nI (g_15 + 1))), (0, .ref (ad 0)), (1, .int (nI a0))]) hx hb dX9_layAhead_51 hl (k := 2) rfl (nI_1 _) (by decide) rfl (fun ls hl => ?_)
      refine lv_goto (tgt := 25) hx hb dX9_layAhead_54 (by decide) ?_
      exact ih_16 (5 - (g_15 + 1)) (by omega) _ _ _ ⟨f_115, (g_15 + 1), rfl, (by omega), hin_20 _ hsp, hP, hD, hS, lv_sub hl [1, 2, 0] rfl⟩
  · have c_11 : ¬ 25 ≤ g_4 := fun z => c_11 ((nI_leI (a := 25) (b := g_4) (Nat.le_of_ble_eq_true rfl) (Nat.lt_of_le_of_lt hg_4 (Nat.le_of_ble_eq_true rfl))).mpr z)
    replace hsp := hsp.trans (if_neg c_11)
    refine lv_aload_n hx hb dX9_layAhead_8 rfl (lv_at hl 0 rfl) ?_
    refine va_get (D := (dC, dI)) (ci := 9) (v := .ref (ad 35)) (C := RX9) (T := TX9) (N := 67) hx hb hts hiX9 hown hK hP 0 rfl rfl 35 (by decide) v_1 (fun _ h9 => h9) rfl dX9_layAhead_9 ?_
    refine lv_iload_n hx hb dX9_layAhead_12 rfl (lv_at hl 2 rfl) ?_
    refine lv_ldcw hx hb hown v_2 dX9_layAhead_13 ?_
    refine va_iast hx hb hK hP hD hS 20 19 rfl rfl (vp_in_nI (n := g_4) (by omega) (Nat.le_of_ble_eq_true rfl)) dX9_layAhead_16 (fun H locs hP hD hS => ?_)
    obtain ⟨f_116, ef_116, xf_116⟩ := up_x g_3 (n := g_4) 1048576 (Nat.lt_of_le_of_lt hg_4 (Nat.le_of_ble_eq_true rfl))
    have hP : va_P (dC, dI) vwCl (mo_w ad ck x0 (nI x16) (nI x18) (nI x19) x20 (nI x21) (nI x22) x23 x24 x25 (nI x26) x27 (nI x28) (nI x29) (nI x30) (nI x33) x45 (nI x46) (nI x52) (nI x53) (nI x61) (nI x62) (nI x63) (nI x65) x66 f1 f2 f3 (bN 3 q4) (bN 7 q5) (bN 7 q6) (bN 4 q7) f8 (bN 2 q9) (bH q10) f11 (b2 m12_0 m12_1) (b2 m13_0 m13_1) (b2 m14_0 m14_1) (b2m m15_0 m15_1) f17 (bA 159 q31) f32 f34 f_116 f36 f37 (bN 7 q38) f39 f40 f41 (b2 m42_0 m42_1) f43 f44 f47 f48 f49 f50 f51 (bN 13 q54) (bN 120 q55) (bN 120 q56) f57 (bN 120 q58) f59 f60 f64) H := by rw [← ef_116]; exact hP
    have hD : va_D A (mo_w ad ck x0 (nI x16) (nI x18) (nI x19) x20 (nI x21) (nI x22) x23 x24 x25 (nI x26) x27 (nI x28) (nI x29) (nI x30) (nI x33) x45 (nI x46) (nI x52) (nI x53) (nI x61) (nI x62) (nI x63) (nI x65) x66 f1 f2 f3 (bN 3 q4) (bN 7 q5) (bN 7 q6) (bN 4 q7) f8 (bN 2 q9) (bH q10) f11 (b2 m12_0 m12_1) (b2 m13_0 m13_1) (b2 m14_0 m14_1) (b2m m15_0 m15_1) f17 (bA 159 q31) f32 f34 f_116 f36 f37 (bN 7 q38) f39 f40 f41 (b2 m42_0 m42_1) f43 f44 f47 f48 f49 f50 f51 (bN 13 q54) (bN 120 q55) (bN 120 q56) f57 (bN 120 q58) f59 f60 f64) := by rw [← ef_116]; exact hD
    replace hsp := hsp.trans (slet_eq xf_116)
    refine lv_iinc (v := (nI (g_4 + 1))) (lv' := [(2, .int (nI (g_4 + 1))), (0, .ref (ad 0)), (1, .int (nI a0))]) hx hb dX9_layAhead_17 hl (k := 2) rfl (nI_1 _) (by decide) rfl (fun ls hl => ?_)
    refine lv_goto (tgt := 2) hx hb dX9_layAhead_20 (by decide) ?_
    exact ih_5 (25 - (g_4 + 1)) (by omega) _ _ _ ⟨f_116, (g_4 + 1), rfl, (by omega), hin_9 _ hsp, hP, hD, hS, lv_sub hl [1, 2, 0] rfl⟩
theorem dX9_isStuck_0 : decode cX9_isStuck 0 = .ok (.aload_n 0, 1) := by decide +kernel
theorem dX9_isStuck_1 : decode cX9_isStuck 1 = .ok (.iconst 0, 1) := by decide +kernel
theorem dX9_isStuck_2 : decode cX9_isStuck 2 = .ok (.putfield 411, 3) := by decide +kernel
theorem dX9_isStuck_5 : decode cX9_isStuck 5 = .ok (.iconst 0, 1) := by decide +kernel
theorem dX9_isStuck_6 : decode cX9_isStuck 6 = .ok (.istore_n 2, 1) := by decide +kernel
theorem dX9_isStuck_7 : decode cX9_isStuck 7 = .ok (.iload_n 2, 1) := by decide +kernel
theorem dX9_isStuck_8 : decode cX9_isStuck 8 = .ok (.aload_n 0, 1) := by decide +kernel
theorem dX9_isStuck_9 : decode cX9_isStuck 9 = .ok (.getfield 49, 3) := by decide +kernel
theorem dX9_isStuck_12 : decode cX9_isStuck 12 = .ok (.aload_n 0, 1) := by decide +kernel
theorem dX9_isStuck_13 : decode cX9_isStuck 13 = .ok (.getfield 258, 3) := by decide +kernel
theorem dX9_isStuck_16 : decode cX9_isStuck 16 = .ok (.iaload, 1) := by decide +kernel
theorem dX9_isStuck_17 : decode cX9_isStuck 17 = .ok (.if_icmp .ge 60, 3) := by decide +kernel
theorem dX9_isStuck_20 : decode cX9_isStuck 20 = .ok (.aload_n 0, 1) := by decide +kernel
theorem dX9_isStuck_21 : decode cX9_isStuck 21 = .ok (.iload_n 2, 1) := by decide +kernel
theorem dX9_isStuck_22 : decode cX9_isStuck 22 = .ok (.invokevirtual 289, 3) := by decide +kernel
theorem dX9_isStuck_25 : decode cX9_isStuck 25 = .ok (.aload_n 0, 1) := by decide +kernel
theorem dX9_isStuck_26 : decode cX9_isStuck 26 = .ok (.getfield 80, 3) := by decide +kernel
theorem dX9_isStuck_29 : decode cX9_isStuck 29 = .ok (.iload_n 1, 1) := by decide +kernel
theorem dX9_isStuck_30 : decode cX9_isStuck 30 = .ok (.iaload, 1) := by decide +kernel
theorem dX9_isStuck_31 : decode cX9_isStuck 31 = .ok (.if_icmp .ne 40, 3) := by decide +kernel
theorem dX9_isStuck_34 : decode cX9_isStuck 34 = .ok (.aload_n 0, 1) := by decide +kernel
theorem dX9_isStuck_35 : decode cX9_isStuck 35 = .ok (.iload_n 2, 1) := by decide +kernel
theorem dX9_isStuck_36 : decode cX9_isStuck 36 = .ok (.invokevirtual 420, 3) := by decide +kernel
theorem dX9_isStuck_39 : decode cX9_isStuck 39 = .ok (.ifCond .eq 32, 3) := by decide +kernel
theorem dX9_isStuck_42 : decode cX9_isStuck 42 = .ok (.aload_n 0, 1) := by decide +kernel
theorem dX9_isStuck_43 : decode cX9_isStuck 43 = .ok (.getfield 71, 3) := by decide +kernel
theorem dX9_isStuck_46 : decode cX9_isStuck 46 = .ok (.iconst 0, 1) := by decide +kernel
theorem dX9_isStuck_47 : decode cX9_isStuck 47 = .ok (.aload_n 0, 1) := by decide +kernel
theorem dX9_isStuck_48 : decode cX9_isStuck 48 = .ok (.getfield 115, 3) := by decide +kernel
theorem dX9_isStuck_51 : decode cX9_isStuck 51 = .ok (.bipush 25, 2) := by decide +kernel
theorem dX9_isStuck_53 : decode cX9_isStuck 53 = .ok (.aload_n 0, 1) := by decide +kernel
theorem dX9_isStuck_54 : decode cX9_isStuck 54 = .ok (.getfield 411, 3) := by decide +kernel
theorem dX9_isStuck_57 : decode cX9_isStuck 57 = .ok (.imul, 1) := by decide +kernel
theorem dX9_isStuck_58 : decode cX9_isStuck 58 = .ok (.invokestatic 362, 3) := by decide +kernel
theorem dX9_isStuck_61 : decode cX9_isStuck 61 = .ok (.aload_n 0, 1) := by decide +kernel
theorem dX9_isStuck_62 : decode cX9_isStuck 62 = .ok (.dup, 1) := by decide +kernel
theorem dX9_isStuck_63 : decode cX9_isStuck 63 = .ok (.getfield 411, 3) := by decide +kernel
theorem dX9_isStuck_66 : decode cX9_isStuck 66 = .ok (.iconst 1, 1) := by decide +kernel
theorem dX9_isStuck_67 : decode cX9_isStuck 67 = .ok (.iadd, 1) := by decide +kernel
theorem dX9_isStuck_68 : decode cX9_isStuck 68 = .ok (.putfield 411, 3) := by decide +kernel
theorem dX9_isStuck_71 : decode cX9_isStuck 71 = .ok (.iinc 2 1, 3) := by decide +kernel
theorem dX9_isStuck_74 : decode cX9_isStuck 74 = .ok (.goto (-67), 3) := by decide +kernel
theorem dX9_isStuck_77 : decode cX9_isStuck 77 = .ok (.aload_n 0, 1) := by decide +kernel
theorem dX9_isStuck_78 : decode cX9_isStuck 78 = .ok (.getfield 68, 3) := by decide +kernel
theorem dX9_isStuck_81 : decode cX9_isStuck 81 = .ok (.bipush 25, 2) := by decide +kernel
theorem dX9_isStuck_83 : decode cX9_isStuck 83 = .ok (.iload_n 1, 1) := by decide +kernel
theorem dX9_isStuck_84 : decode cX9_isStuck 84 = .ok (.imul, 1) := by decide +kernel
theorem dX9_isStuck_85 : decode cX9_isStuck 85 = .ok (.aload_n 0, 1) := by decide +kernel
theorem dX9_isStuck_86 : decode cX9_isStuck 86 = .ok (.getfield 71, 3) := by decide +kernel
theorem dX9_isStuck_89 : decode cX9_isStuck 89 = .ok (.iconst 0, 1) := by decide +kernel
theorem dX9_isStuck_90 : decode cX9_isStuck 90 = .ok (.invokestatic 362, 3) := by decide +kernel
theorem dX9_isStuck_93 : decode cX9_isStuck 93 = .ok (.aload_n 0, 1) := by decide +kernel
theorem dX9_isStuck_94 : decode cX9_isStuck 94 = .ok (.invokevirtual 417, 3) := by decide +kernel
theorem dX9_isStuck_97 : decode cX9_isStuck 97 = .ok (.ireturn, 1) := by decide +kernel
abbrev vs_EM_isStuck : List Cond := .code yX9_isStuck cX9_isStuck 3 (some .boolean) :: VM
theorem g_EM_isStuck_EM_copies_nz : GoodIn vs_EM_isStuck (va_wsS RX9 362 yX9_copies vs_EM_copies_nz) := gm_S vm_228 vm_229 vm_19 vm_230
theorem g_EM_isStuck_EM_isOver : GoodIn vs_EM_isStuck (wsV RX9 417 RX9 yX9_isOver vs_EM_isOver) := gm_V vm_291 vm_292 vm_293 vm_19 vm_294
theorem g_EM_isStuck_EM_outOf : GoodIn vs_EM_isStuck (wsV RX9 289 RX9 yX9_outOf vs_EM_outOf) := gm_V vm_41 vm_42 vm_43 vm_19 vm_44
theorem g_EM_isStuck_EM_layAhead : GoodIn vs_EM_isStuck (wsV RX9 420 RX9 yX9_layAhead vs_EM_layAhead) := gm_V vm_295 vm_296 vm_297 vm_19 vm_298
theorem g_EM_isStuck_EM_copies_zc : GoodIn vs_EM_isStuck (va_wsS RX9 362 yX9_copies vs_EM_copies_zc) := gm_S vm_228 vm_229 vm_19 vm_230
noncomputable def sp_EM_isStuck_L1 (x16 : Nat) (x46 : Nat) (f3 : Nat → Int32) (q4 : Nat → Nat) (q5 : Nat → Nat) (q6 : Nat → Nat) (q7 : Nat → Nat) (f8 : Nat → Int32) (q9 : Nat → Nat) (q10 : Nat → Nat) (f11 : Nat → Int32) (m13_0 : Nat) (m13_1 : Nat) (m14_0 : Nat) (m14_1 : Nat) (f34 : Nat → Int32) (f36 : Nat → Int32) (q38 : Nat → Nat) (f49 : Nat → Int32) (f50 : Nat → Int32) (a0 : Nat) : ((Nat → Int32) × (Nat → Int32) × Nat × Nat) → ((Nat → Int32) × (Nat → Int32) × Nat × Nat) ⊕ (Nat × (Nat → Int32) × (Nat → Int32) × (Nat → Int32) × (Nat → Int32) × (Nat → Int32) × Nat × Nat) := fun (g_6, g_7, g_8, g_9) => (slet (if x16 = 0 then m14_0 else m14_1) (fun u_18 => (if u_18 ≤ g_9 then (Sum.inr (slet (sp_EM_copies_nz f34 g_6 (25 * a0)) (fun z35_22 => (slet (sp_EM_isOver x46 g_8 z35_22 f36 f49 f50 g_7) (fun (u_29, z35_24, z36_25, z49_26, z50_27, z52_28) => (u_29, z35_24, z36_25, z49_26, z50_27, g_7, z52_28, g_8)))))) else (slet (sp_EM_outOf x16 q5 g_9) (fun u_31 => (slet (min (q38 a0) 7) (fun u_33 => (if u_31 = u_33 then (slet (sp_EM_layAhead x16 x46 f3 q4 q5 q6 q7 f8 q9 q10 f11 m13_0 m13_1 m14_0 m14_1 g_6 g_9) (fun (u_37, z35_36) => (if u_37 = 0 then (Sum.inl (z35_36, g_7, g_8, (g_9 + 1))) else (slet (sp_EM_copies_zc z35_36 g_7 (25 * g_8)) (fun z51_41 => (Sum.inl (z35_36, z51_41, (g_8 + 1), (g_9 + 1)))))))) else (Sum.inl (g_6, g_7, g_8, (g_9 + 1)))))))))))
noncomputable def sp_EM_isStuck (x16 : Nat) (x46 : Nat) (f3 : Nat → Int32) (q4 : Nat → Nat) (q5 : Nat → Nat) (q6 : Nat → Nat) (q7 : Nat → Nat) (f8 : Nat → Int32) (q9 : Nat → Nat) (q10 : Nat → Nat) (f11 : Nat → Int32) (m13_0 : Nat) (m13_1 : Nat) (m14_0 : Nat) (m14_1 : Nat) (f34 : Nat → Int32) (f35 : Nat → Int32) (f36 : Nat → Int32) (q38 : Nat → Nat) (f49 : Nat → Int32) (f50 : Nat → Int32) (f51 : Nat → Int32) (a0 : Nat) : Nat × (Nat → Int32) × (Nat → Int32) × (Nat → Int32) × (Nat → Int32) × (Nat → Int32) × Nat × Nat := (itrv (α := (Nat → Int32) × (Nat → Int32) × Nat × Nat) (β := (Nat × (Nat → Int32) × (Nat → Int32) × (Nat → Int32) × (Nat → Int32) × (Nat → Int32) × Nat × Nat)) default (sp_EM_isStuck_L1 x16 x46 f3 q4 q5 q6 q7 f8 q9 q10 f11 m13_0 m13_1 m14_0 m14_1 f34 f36 q38 f49 f50 a0) (f35, f51, 0, 0))
set_option maxHeartbeats 4000000 in
set_option maxRecDepth 100000 in
theorem c_EM_isStuck (l : Launch) (dC : Nat → ClassId) (dI : Nat → Nat → Nat) (sz : Nat) (ad : Nat → Nat) (ck : Nat → ClassId) (x0 : Int32) (x16 : Nat) (x18 : Nat) (x19 : Nat) (x20 : Int32) (x21 : Nat) (x22 : Nat) (x23 : Int32) (x24 : Int32) (x25 : Int32) (x26 : Nat) (x27 : Int32) (x28 : Nat) (x29 : Nat) (x30 : Nat) (x33 : Nat) (x45 : Int32) (x46 : Nat) (x52 : Nat) (x53 : Nat) (x61 : Nat) (x62 : Nat) (x63 : Nat) (x65 : Nat) (x66 : Int32) (f1 : Nat → Int32) (f2 : Nat → Int32) (f3 : Nat → Int32) (q4 : Nat → Nat) (q5 : Nat → Nat) (q6 : Nat → Nat) (q7 : Nat → Nat) (f8 : Nat → Int32) (q9 : Nat → Nat) (q10 : Nat → Nat) (f11 : Nat → Int32) (m12_0 m12_1 : Nat) (m13_0 m13_1 : Nat) (m14_0 m14_1 : Nat) (m15_0 m15_1 : Nat) (f17 : Nat → Int32) (q31 : Nat → Nat) (f32 : Nat → Int32) (f34 : Nat → Int32) (f35 : Nat → Int32) (f36 : Nat → Int32) (f37 : Nat → Int32) (q38 : Nat → Nat) (f39 : Nat → Int32) (f40 : Nat → Int32) (f41 : Nat → Int32) (m42_0 m42_1 : Nat) (f43 : Nat → Int32) (f44 : Nat → Int32) (f47 : Nat → Int32) (f48 : Nat → Int32) (f49 : Nat → Int32) (f50 : Nat → Int32) (f51 : Nat → Int32) (q54 : Nat → Nat) (q55 : Nat → Nat) (q56 : Nat → Nat) (f57 : Nat → Int32) (q58 : Nat → Nat) (f59 : Nat → Int32) (f60 : Nat → Int32) (f64 : Nat → Int32) (a0 : Nat) (hx16 : x16 ≤ 1) (hx18 : x18 ≤ 900) (hx19 : x19 ≤ 900) (hx21 : x21 ≤ 900) (hx22 : x22 ≤ 4) (hx26 : x26 ≤ 6) (hx28 : x28 ≤ 1) (hx29 : x29 ≤ 1) (hx30 : x30 ≤ 1) (hx33 : x33 ≤ 20) (hx46 : x46 ≤ 5) (hx52 : x52 ≤ 2400) (hx53 : x53 ≤ 119) (hx61 : x61 ≤ 119) (hx62 : x62 ≤ 2000) (hx63 : x63 ≤ 1) (hx65 : x65 ≤ 7) (hm12_0 : m12_0 ≤ 3) (hm12_1 : m12_1 ≤ 3) (hm13_0 : m13_0 ≤ 8) (hm13_1 : m13_1 ≤ 8) (hm14_0 : m14_0 ≤ 14) (hm14_1 : m14_1 ≤ 14) (hm15_0 : m15_0 ≤ 8) (hm15_1 : m15_1 ≤ 8) (hm42_0 : m42_0 ≤ 120) (hm42_1 : m42_1 ≤ 400) (ha0 : a0 ≤ 119) : Met l yX9_isStuck vs_EM_isStuck ({ frames := 5, cells := 0, slots := 0, locals := 113 }) (va_Pc [.ref (ad 0), .int (nI a0)] (pu_B (dC, dI) (mo_w ad ck x0 (nI x16) (nI x18) (nI x19) x20 (nI x21) (nI x22) x23 x24 x25 (nI x26) x27 (nI x28) (nI x29) (nI x30) (nI x33) x45 (nI x46) (nI x52) (nI x53) (nI x61) (nI x62) (nI x63) (nI x65) x66 f1 f2 f3 (bN 3 q4) (bN 7 q5) (bN 7 q6) (bN 4 q7) f8 (bN 2 q9) (bH q10) f11 (b2 m12_0 m12_1) (b2 m13_0 m13_1) (b2 m14_0 m14_1) (b2m m15_0 m15_1) f17 (bA 159 q31) f32 f34 f35 f36 f37 (bN 7 q38) f39 f40 f41 (b2 m42_0 m42_1) f43 f44 f47 f48 f49 f50 f51 (bN 13 q54) (bN 120 q55) (bN 120 q56) f57 (bN 120 q58) f59 f60 f64) (mo_t ck) sz)) (va_Qi (fun (r : Int32) (_ : Unit) => ∃ v : Nat, v ≤ 1 ∧ r = nI v ∧ v = (sp_EM_isStuck x16 x46 f3 q4 q5 q6 q7 f8 q9 q10 f11 m13_0 m13_1 m14_0 m14_1 f34 f35 f36 q38 f49 f50 f51 a0).1) (fun _ t => ∃ (z35 : Nat → Int32) (z36 : Nat → Int32) (z49 : Nat → Int32) (z50 : Nat → Int32) (z51 : Nat → Int32) (z52 : Nat) (z53 : Nat), pu_E (dC, dI) (mo_w ad ck x0 (nI x16) (nI x18) (nI x19) x20 (nI x21) (nI x22) x23 x24 x25 (nI x26) x27 (nI x28) (nI x29) (nI x30) (nI x33) x45 (nI x46) (nI z52) (nI z53) (nI x61) (nI x62) (nI x63) (nI x65) x66 f1 f2 f3 (bN 3 q4) (bN 7 q5) (bN 7 q6) (bN 4 q7) f8 (bN 2 q9) (bH q10) f11 (b2 m12_0 m12_1) (b2 m13_0 m13_1) (b2 m14_0 m14_1) (b2m m15_0 m15_1) f17 (bA 159 q31) f32 f34 z35 z36 f37 (bN 7 q38) f39 f40 f41 (b2 m42_0 m42_1) f43 f44 f47 f48 z49 z50 z51 (bN 13 q54) (bN 120 q55) (bN 120 q56) f57 (bN 120 q58) f59 f60 f64) (mo_t ck) (va_A ((mo_w ad ck x0 (nI x16) (nI x18) (nI x19) x20 (nI x21) (nI x22) x23 x24 x25 (nI x26) x27 (nI x28) (nI x29) (nI x30) (nI x33) x45 (nI x46) (nI x52) (nI x53) (nI x61) (nI x62) (nI x63) (nI x65) x66 f1 f2 f3 (bN 3 q4) (bN 7 q5) (bN 7 q6) (bN 4 q7) f8 (bN 2 q9) (bH q10) f11 (b2 m12_0 m12_1) (b2 m13_0 m13_1) (b2 m14_0 m14_1) (b2m m15_0 m15_1) f17 (bA 159 q31) f32 f34 f35 f36 f37 (bN 7 q38) f39 f40 f41 (b2 m42_0 m42_1) f43 f44 f47 f48 f49 f50 f51 (bN 13 q54) (bN 120 q55) (bN 120 q56) f57 (bN 120 q58) f59 f60 f64)) sz) t ∧ (z52 ≤ 2400) ∧ (z53 ≤ 119) ∧ ((z35, z36, z49, z50, z51, z52, z53) = (sp_EM_isStuck x16 x46 f3 q4 q5 q6 q7 f8 q9 q10 f11 m13_0 m13_1 m14_0 m14_1 f34 f35 f36 q38 f49 f50 f51 a0).2)) (va_A ((mo_w ad ck x0 (nI x16) (nI x18) (nI x19) x20 (nI x21) (nI x22) x23 x24 x25 (nI x26) x27 (nI x28) (nI x29) (nI x30) (nI x33) x45 (nI x46) (nI x52) (nI x53) (nI x61) (nI x62) (nI x63) (nI x65) x66 f1 f2 f3 (bN 3 q4) (bN 7 q5) (bN 7 q6) (bN 4 q7) f8 (bN 2 q9) (bH q10) f11 (b2 m12_0 m12_1) (b2 m13_0 m13_1) (b2 m14_0 m14_1) (b2m m15_0 m15_1) f17 (bA 159 q31) f32 f34 f35 f36 f37 (bN 7 q38) f39 f40 f41 (b2 m42_0 m42_1) f43 f44 f47 f48 f49 f50 f51 (bN 13 q54) (bN 120 q55) (bN 120 q56) f57 (bN 120 q58) f59 f60 f64)) sz)) 0 0 (va_A ((mo_w ad ck x0 (nI x16) (nI x18) (nI x19) x20 (nI x21) (nI x22) x23 x24 x25 (nI x26) x27 (nI x28) (nI x29) (nI x30) (nI x33) x45 (nI x46) (nI x52) (nI x53) (nI x61) (nI x62) (nI x63) (nI x65) x66 f1 f2 f3 (bN 3 q4) (bN 7 q5) (bN 7 q6) (bN 4 q7) f8 (bN 2 q9) (bH q10) f11 (b2 m12_0 m12_1) (b2 m13_0 m13_1) (b2 m14_0 m14_1) (b2m m15_0 m15_1) f17 (bA 159 q31) f32 f34 f35 f36 f37 (bN 7 q38) f39 f40 f41 (b2 m42_0 m42_1) f43 f44 f47 f48 f49 f50 f51 (bN 13 q54) (bN 120 q55) (bN 120 q56) f57 (bN 120 q58) f59 f60 f64)) sz) := by
  refine Met.ofW (cc := cX9_isStuck) (maxL := 3) (ret := (some .boolean)) (by decide) rfl ?_
  intro p e s m args below meth c s₁ B hml hv
  obtain ⟨rfl, rfl, hP, hK, hD0⟩ := hv
  have hx := B.exec
  have hb := B.bytes
  have hr := B.returns
  have hts := atoms_spec (ws := vs_EM_isStuck) B.pre
  have v_1 := hts (.fieldLink RX9 411 "ClockReachModel" "coverMany" "I") (List.mem_cons_of_mem _ vm_290)
  have v_2 := hts (.fieldLink RX9 49 "ClockReachModel" "edgeMany" "[I") (List.mem_cons_of_mem _ vm_45)
  have v_3 := hts (.fieldLink RX9 258 "ClockReachModel" "bank" "I") (List.mem_cons_of_mem _ vm_4)
  have v_4 := hts (.fieldLink RX9 68 "ClockReachModel" "zone" "[I") (List.mem_cons_of_mem _ vm_214)
  have v_5 := hts (.fieldLink RX9 71 "ClockReachModel" "z" "[I") (List.mem_cons_of_mem _ vm_219)
  have v_18 := hts (.fieldLink RX9 80 "ClockReachModel" "statePlace" "[I") (List.mem_cons_of_mem _ vm_223)
  have v_23 := hts (.fieldLink RX9 115 "ClockReachModel" "covers" "[I") (List.mem_cons_of_mem _ vm_285)
  have hown : s.vm.findClass RX9 = some m.cls := findClass_of_methodNamed B.named
  have hlocks := B.notSynchronized
  have hiX9 : ∀ w ∈ wsX90, w ∈ vs_EM_isStuck := fun _ h => List.mem_cons_of_mem _ (vmi_L h)
  have hD := hD0.self (sz := s.heap.size)
  generalize hAe : va_A ((mo_w ad ck x0 (nI x16) (nI x18) (nI x19) x20 (nI x21) (nI x22) x23 x24 x25 (nI x26) x27 (nI x28) (nI x29) (nI x30) (nI x33) x45 (nI x46) (nI x52) (nI x53) (nI x61) (nI x62) (nI x63) (nI x65) x66 f1 f2 f3 (bN 3 q4) (bN 7 q5) (bN 7 q6) (bN 4 q7) f8 (bN 2 q9) (bH q10) f11 (b2 m12_0 m12_1) (b2 m13_0 m13_1) (b2 m14_0 m14_1) (b2m m15_0 m15_1) f17 (bA 159 q31) f32 f34 f35 f36 f37 (bN 7 q38) f39 f40 f41 (b2 m42_0 m42_1) f43 f44 f47 f48 f49 f50 f51 (bN 13 q54) (bN 120 q55) (bN 120 q56) f57 (bN 120 q58) f59 f60 f64)) s.heap.size = A at hD ⊢
  have hA : ∀ q : Nat, s.heap.size ≤ q → A q := fun q h => by rw [← hAe]; exact Or.inr h
  have hS : va_S A s.heap s.heap [] := va_S.rf
  have hl := lv_entry ([.ref (ad 0), .int (nI a0)]) (n := 3) (Nat.le_of_ble_eq_true rfl)
  rw [lg_entry_eq]
  generalize (lg_sl ([.ref (ad 0), .int (nI a0)]) ++ List.replicate (3 - (lg_sl ([.ref (ad 0), .int (nI a0)])).length) Slot.unset).toArray = ls at hl ⊢
  have hl : lv_has ls 3 [(0, .ref (ad 0)), (1, .int (nI a0))] := hl
  obtain ⟨RR, hRR⟩ : ∃ x, x = (sp_EM_isStuck x16 x46 f3 q4 q5 q6 q7 f8 q9 q10 f11 m13_0 m13_1 m14_0 m14_1 f34 f35 f36 q38 f49 f50 f51 a0) := ⟨_, rfl⟩
  have hsp := hRR
  refine lv_aload_n hx hb dX9_isStuck_0 rfl (lv_at hl 0 rfl) ?_
  refine lv_iconst (v := 0) hx hb dX9_isStuck_1 (by decide) ?_
  refine va_put (D := (dC, dI)) (ci := 9) (v := .int 0) (ty := .int) (C := RX9) (T := TX9) (N := 67) hx hb hts hiX9 tyX9 tyX9_ok nmX9 hown hK hP hD hS 0 rfl rfl 53 (by decide) v_1 (fun _ h9 => h9) rfl (by decide +kernel) rfl rfl (Nat.le_of_ble_eq_true rfl) dX9_isStuck_2 (fun H locs hP hD hS => ?_)
  have hP : va_P (dC, dI) vwCl (mo_w ad ck x0 (nI x16) (nI x18) (nI x19) x20 (nI x21) (nI x22) x23 x24 x25 (nI x26) x27 (nI x28) (nI x29) (nI x30) (nI x33) x45 (nI x46) (nI x52) 0 (nI x61) (nI x62) (nI x63) (nI x65) x66 f1 f2 f3 (bN 3 q4) (bN 7 q5) (bN 7 q6) (bN 4 q7) f8 (bN 2 q9) (bH q10) f11 (b2 m12_0 m12_1) (b2 m13_0 m13_1) (b2 m14_0 m14_1) (b2m m15_0 m15_1) f17 (bA 159 q31) f32 f34 f35 f36 f37 (bN 7 q38) f39 f40 f41 (b2 m42_0 m42_1) f43 f44 f47 f48 f49 f50 f51 (bN 13 q54) (bN 120 q55) (bN 120 q56) f57 (bN 120 q58) f59 f60 f64) H := hP
  have hD : va_D A (mo_w ad ck x0 (nI x16) (nI x18) (nI x19) x20 (nI x21) (nI x22) x23 x24 x25 (nI x26) x27 (nI x28) (nI x29) (nI x30) (nI x33) x45 (nI x46) (nI x52) 0 (nI x61) (nI x62) (nI x63) (nI x65) x66 f1 f2 f3 (bN 3 q4) (bN 7 q5) (bN 7 q6) (bN 4 q7) f8 (bN 2 q9) (bH q10) f11 (b2 m12_0 m12_1) (b2 m13_0 m13_1) (b2 m14_0 m14_1) (b2m m15_0 m15_1) f17 (bA 159 q31) f32 f34 f35 f36 f37 (bN 7 q38) f39 f40 f41 (b2 m42_0 m42_1) f43 f44 f47 f48 f49 f50 f51 (bN 13 q54) (bN 120 q55) (bN 120 q56) f57 (bN 120 q58) f59 f60 f64) := hD
  refine lv_iconst (v := 0) hx hb dX9_isStuck_5 (by decide) ?_
  refine lv_istore_n (lv' := [(2, .int 0), (0, .ref (ad 0)), (1, .int (nI a0))]) hx hb dX9_isStuck_6 rfl hl (by decide) rfl (fun ls hl => ?_)
  obtain ⟨lf_12, dlf_12, hlf_12, hsp⟩ := itr_ex hsp
  delta sp_EM_isStuck_L1 at hlf_12
  refine pu_while (fun nn H locs ls => ∃ (g_6 : Nat → Int32) (g_7 : Nat → Int32) (g_8 : Nat) (g_9 : Nat), nn = 14 - g_9 ∧ g_8 ≤ 14 ∧ g_9 ≤ 14 ∧ g_8 ≤ g_9 ∧ RR = itrv dlf_12 lf_12 (g_6, g_7, g_8, g_9) ∧ va_P (dC, dI) vwCl (mo_w ad ck x0 (nI x16) (nI x18) (nI x19) x20 (nI x21) (nI x22) x23 x24 x25 (nI x26) x27 (nI x28) (nI x29) (nI x30) (nI x33) x45 (nI x46) (nI x52) (nI g_8) (nI x61) (nI x62) (nI x63) (nI x65) x66 f1 f2 f3 (bN 3 q4) (bN 7 q5) (bN 7 q6) (bN 4 q7) f8 (bN 2 q9) (bH q10) f11 (b2 m12_0 m12_1) (b2 m13_0 m13_1) (b2 m14_0 m14_1) (b2m m15_0 m15_1) f17 (bA 159 q31) f32 f34 g_6 f36 f37 (bN 7 q38) f39 f40 f41 (b2 m42_0 m42_1) f43 f44 f47 f48 f49 f50 g_7 (bN 13 q54) (bN 120 q55) (bN 120 q56) f57 (bN 120 q58) f59 f60 f64) H ∧ va_D A (mo_w ad ck x0 (nI x16) (nI x18) (nI x19) x20 (nI x21) (nI x22) x23 x24 x25 (nI x26) x27 (nI x28) (nI x29) (nI x30) (nI x33) x45 (nI x46) (nI x52) (nI g_8) (nI x61) (nI x62) (nI x63) (nI x65) x66 f1 f2 f3 (bN 3 q4) (bN 7 q5) (bN 7 q6) (bN 4 q7) f8 (bN 2 q9) (bH q10) f11 (b2 m12_0 m12_1) (b2 m13_0 m13_1) (b2 m14_0 m14_1) (b2m m15_0 m15_1) f17 (bA 159 q31) f32 f34 g_6 f36 f37 (bN 7 q38) f39 f40 f41 (b2 m42_0 m42_1) f43 f44 f47 f48 f49 f50 g_7 (bN 13 q54) (bN 120 q55) (bN 120 q56) f57 (bN 120 q58) f59 f60 f64) ∧ va_S A s.heap H locs ∧ lv_has ls 3 [(0, .ref (ad 0)), (1, .int (nI a0)), (2, .int (nI g_9))]) 7 ?_ _ _ _ _ ⟨f35, f51, 0, 0, rfl, (Nat.le_of_ble_eq_true rfl), (Nat.le_of_ble_eq_true rfl), by omega, hsp, hP, hD, hS, lv_sub hl [1, 2, 0] rfl⟩
  rintro nn ih_11 H locs ls ⟨g_6, g_7, g_8, g_9, rfl, hg_8, hg_9, he_10, he_14, hP, hD, hS, hl⟩
  obtain ⟨S_13, hsp, hin_15, hout_16⟩ := itr_step hlf_12 he_14
  refine lv_iload_n hx hb dX9_isStuck_7 rfl (lv_at hl 2 rfl) ?_
  refine lv_aload_n hx hb dX9_isStuck_8 rfl (lv_at hl 0 rfl) ?_
  refine va_get (D := (dC, dI)) (ci := 9) (v := .ref (ad 14)) (C := RX9) (T := TX9) (N := 67) hx hb hts hiX9 hown hK hP 0 rfl rfl 14 (by decide) v_2 (fun _ h9 => h9) rfl dX9_isStuck_9 ?_
  refine lv_aload_n hx hb dX9_isStuck_12 rfl (lv_at hl 0 rfl) ?_
  refine va_get (D := (dC, dI)) (ci := 9) (v := .int (nI x16)) (C := RX9) (T := TX9) (N := 67) hx hb hts hiX9 hown hK hP 0 rfl rfl 16 (by decide) v_3 (fun _ h9 => h9) rfl dX9_isStuck_13 ?_
  refine va_iald hx hb hK hP 14 13 rfl rfl (vp_in_nI (n := x16) (Nat.lt_of_le_of_lt hx16 (Nat.le_of_ble_eq_true rfl)) (Nat.le_of_ble_eq_true rfl)) dX9_isStuck_16 ?_
  refine lv_topi (fun y_17 ey_17 => ?_)
  obtain ⟨u_18, hu_18, fu_18, xu_18⟩ := b2_getx (a := m14_0) (b := m14_1) (i := x16) (by omega)
  have qy_17 := ey_17.trans fu_18
  replace hsp := hsp.trans (slet_eq xu_18)
  obtain rfl : y_17 = nI u_18 := qy_17
  refine lv_icmp_ge (tgt := 77) hx hb dX9_isStuck_17 (by decide) (fun c_19 => ?_) (fun c_19 => ?_)
  · have c_19 : u_18 ≤ g_9 := (nI_leI (a := u_18) (b := g_9) (by omega) (Nat.lt_of_le_of_lt hg_9 (Nat.le_of_ble_eq_true rfl))).mp c_19
    replace hsp := hsp.trans (if_pos c_19)
    have hsp := hout_16 _ hsp
    refine lv_aload_n hx hb dX9_isStuck_77 rfl (lv_at hl 0 rfl) ?_
    refine va_get (D := (dC, dI)) (ci := 9) (v := .ref (ad 34)) (C := RX9) (T := TX9) (N := 67) hx hb hts hiX9 hown hK hP 0 rfl rfl 34 (by decide) v_4 (fun _ h9 => h9) rfl dX9_isStuck_78 ?_
    refine lv_bipush (v := 25) hx hb dX9_isStuck_81 (by decide) ?_
    refine lv_iload_n hx hb dX9_isStuck_83 rfl (lv_at hl 1 rfl) ?_
    refine lv_imul hx hb dX9_isStuck_84 ?_
    refine lv_topi (fun y_20 ey_20 => ?_)
    obtain rfl : y_20 = (nI (25 * a0)) := ey_20.trans (pk_mul 25 a0)
    refine lv_aload_n hx hb dX9_isStuck_85 rfl (lv_at hl 0 rfl) ?_
    refine va_get (D := (dC, dI)) (ci := 9) (v := .ref (ad 35)) (C := RX9) (T := TX9) (N := 67) hx hb hts hiX9 hown hK hP 0 rfl rfl 35 (by decide) v_5 (fun _ h9 => h9) rfl dX9_isStuck_86 ?_
    refine lv_iconst (v := 0) hx hb dX9_isStuck_89 (by decide) ?_
    have hFc := pu_free hD hS hA
    refine va_callv (va_runS (As := [.ref (ad 34), .int (nI (25 * a0)), .ref (ad 35), .int 0]) (rest := []) ⟨hx, hb, hml, hown, hts⟩ (c_EM_copies_nz l dC dI _ ad ck x0 x16 x18 x19 x20 x21 x22 x23 x24 x25 x26 x27 x28 x29 x30 x33 x45 x46 x52 g_8 x61 x62 x63 x65 x66 f1 f2 f3 q4 q5 q6 q7 f8 q9 q10 f11 m12_0 m12_1 m13_0 m13_1 m14_0 m14_1 m15_0 m15_1 f17 q31 f32 f34 g_6 f36 f37 q38 f39 f40 f41 m42_0 m42_1 f43 f44 f47 f48 f49 f50 g_7 q54 q55 q56 f57 q58 f59 f60 f64 (25 * a0) hx16 hx18 hx19 hx21 hx22 hx26 hx28 hx29 hx30 hx33 hx46 hx52 (Nat.le_trans hg_8 (Nat.le_of_ble_eq_true rfl)) hx61 hx62 hx63 hx65 hm12_0 hm12_1 hm13_0 hm13_1 hm14_0 hm14_1 hm15_0 hm15_1 hm42_0 hm42_1 (by omega)) (va_cwS 4 hts g_EM_isStuck_EM_copies_nz rfl rfl rfl (by decide +kernel) ⟨Nat.le_of_ble_eq_true rfl, Nat.le_of_ble_eq_true rfl⟩) ⟨pu_bl, pu_in hP hK hD⟩ rfl rfl hl.1 rfl (lv_room (Nat.le_of_ble_eq_true rfl)) dX9_isStuck_90 ⟨Nat.le_of_ble_eq_true rfl, Nat.le_of_ble_eq_true rfl⟩) hS (fun q _ h => hFc q h) hFc (fun u t H1 locs ht hvm hw hB hz1 hk1 hS => ?_)
    obtain ⟨z35_22, ⟨hP1, -, hD1⟩, xr_21_0⟩ := hB
    rw [ht] at hP1
    have hP := hP1
    have hD := pu_all hFc hD1
    clear hP1 hD1 hFc
    clear hk1 hz1 ht hvm
    generalize H1 = H at hP hS ⊢
    replace hsp := hsp.trans (slet_eq xr_21_0)
    refine lv_aload_n hx hb dX9_isStuck_93 rfl (lv_at hl 0 rfl) ?_
    have hFc := pu_free hD hS hA
    refine va_calli (va_runV (As := []) (rest := []) ⟨hx, hb, hml, hown, hts⟩ (c_EM_isOver l dC dI _ ad ck x0 x16 x18 x19 x20 x21 x22 x23 x24 x25 x26 x27 x28 x29 x30 x33 x45 x46 x52 g_8 x61 x62 x63 x65 x66 f1 f2 f3 q4 q5 q6 q7 f8 q9 q10 f11 m12_0 m12_1 m13_0 m13_1 m14_0 m14_1 m15_0 m15_1 f17 q31 f32 f34 z35_22 f36 f37 q38 f39 f40 f41 m42_0 m42_1 f43 f44 f47 f48 f49 f50 g_7 q54 q55 q56 f57 q58 f59 f60 f64 hx16 hx18 hx19 hx21 hx22 hx26 hx28 hx29 hx30 hx33 hx46 hx52 (Nat.le_trans hg_8 (Nat.le_of_ble_eq_true rfl)) hx61 hx62 hx63 hx65 hm12_0 hm12_1 hm13_0 hm13_1 hm14_0 hm14_1 hm15_0 hm15_1 hm42_0 hm42_1) (cwV 0 hts g_EM_isStuck_EM_isOver rfl rfl rfl (by decide +kernel) ⟨Nat.le_of_ble_eq_true rfl, Nat.le_of_ble_eq_true rfl⟩) ⟨pu_bl, va_recv hK hP (ci := 9) (q0 := 0) rfl rfl, pu_in hP hK hD⟩ rfl rfl hl.1 rfl (lv_room (Nat.le_of_ble_eq_true rfl)) dX9_isStuck_94 ⟨Nat.le_of_ble_eq_true rfl, Nat.le_of_ble_eq_true rfl⟩) hS (fun q _ h => hFc q h) hFc (fun r_23 u t H1 locs ht hvm hw hB hz1 hk1 hS => ?_)
    obtain ⟨z35_24, z36_25, z49_26, z50_27, z52_28, ⟨hP1, -, hD1⟩, hz52_28, xr_23_0⟩ := hB
    rw [ht] at hP1
    have hP := hP1
    have hD := pu_all hFc hD1
    clear hP1 hD1 hFc
    clear hk1 hz1 ht hvm
    generalize H1 = H at hP hS ⊢
    obtain ⟨u_29, hu_29, rfl, iu_29⟩ := hw
    have iu_29 : (u_29, z35_24, z36_25, z49_26, z50_27, z52_28) = (sp_EM_isOver x46 g_8 z35_22 f36 f49 f50 g_7) := Prod.ext iu_29 xr_23_0
    replace hsp := hsp.trans (slet_eq iu_29)
    exact W.zret (v := (nI u_29)) (ty := .boolean) hx hb hr (pu_nz (pu_b1 (n := u_29) (by omega))) (fun t ht hW => ⟨⟨(nI u_29), (), rfl, ⟨u_29, hu_29, rfl, (congrArg Prod.fst (hsp.symm.trans hRR))⟩, ⟨z35_24, z36_25, z49_26, z50_27, g_7, z52_28, g_8, ⟨by rw [ht]; exact hP, va_K.moved hW.alike hK, hD⟩, hz52_28, (Nat.le_trans hg_8 (Nat.le_of_ble_eq_true rfl)), (congrArg Prod.snd (hsp.symm.trans hRR))⟩⟩, hS.F ht⟩) hS.2.2 dX9_isStuck_97
  · have c_19 : ¬ u_18 ≤ g_9 := fun z => c_19 ((nI_leI (a := u_18) (b := g_9) (by omega) (Nat.lt_of_le_of_lt hg_9 (Nat.le_of_ble_eq_true rfl))).mpr z)
    replace hsp := hsp.trans (if_neg c_19)
    refine lv_aload_n hx hb dX9_isStuck_20 rfl (lv_at hl 0 rfl) ?_
    refine lv_iload_n hx hb dX9_isStuck_21 rfl (lv_at hl 2 rfl) ?_
    refine va_calli (va_runV (As := [.int (nI g_9)]) (rest := []) ⟨hx, hb, hml, hown, hts⟩ (c_EM_outOf l dC dI _ ad ck x0 x16 x18 x19 x20 x21 x22 x23 x24 x25 x26 x27 x28 x29 x30 x33 x45 x46 x52 g_8 x61 x62 x63 x65 x66 f1 f2 f3 q4 q5 q6 q7 f8 q9 q10 f11 m12_0 m12_1 m13_0 m13_1 m14_0 m14_1 m15_0 m15_1 f17 q31 f32 f34 g_6 f36 f37 q38 f39 f40 f41 m42_0 m42_1 f43 f44 f47 f48 f49 f50 g_7 q54 q55 q56 f57 q58 f59 f60 f64 g_9 hx16 hx18 hx19 hx21 hx22 hx26 hx28 hx29 hx30 hx33 hx46 hx52 (Nat.le_trans hg_8 (Nat.le_of_ble_eq_true rfl)) hx61 hx62 hx63 hx65 hm12_0 hm12_1 hm13_0 hm13_1 hm14_0 hm14_1 hm15_0 hm15_1 hm42_0 hm42_1 (by omega)) (cwV 1 hts g_EM_isStuck_EM_outOf rfl rfl rfl (by decide +kernel) ⟨Nat.le_of_ble_eq_true rfl, Nat.le_of_ble_eq_true rfl⟩) ⟨pu_bl, va_recv hK hP (ci := 9) (q0 := 0) rfl rfl, pu_in hP hK hD⟩ rfl rfl hl.1 rfl (lv_room (Nat.le_of_ble_eq_true rfl)) dX9_isStuck_22 ⟨Nat.le_of_ble_eq_true rfl, Nat.le_of_ble_eq_true rfl⟩) hS (fun q _ h => pu_fr hS hA q h) (pu_fr hS hA) (fun r_30 u t H1 locs ht hvm hw hB hz1 hk1 hS => ?_)
    have hP := pu_keep hP hk1
    clear hk1 hz1 ht hvm
    generalize H1 = H at hP hS ⊢
    obtain ⟨u_31, hu_31, rfl, iu_31⟩ := hw
    replace hsp := hsp.trans (slet_eq iu_31)
    refine lv_aload_n hx hb dX9_isStuck_25 rfl (lv_at hl 0 rfl) ?_
    refine va_get (D := (dC, dI)) (ci := 9) (v := .ref (ad 38)) (C := RX9) (T := TX9) (N := 67) hx hb hts hiX9 hown hK hP 0 rfl rfl 38 (by decide) v_18 (fun _ h9 => h9) rfl dX9_isStuck_26 ?_
    refine lv_iload_n hx hb dX9_isStuck_29 rfl (lv_at hl 1 rfl) ?_
    refine va_iald hx hb hK hP 23 22 rfl rfl (vp_in_nI (n := a0) (Nat.lt_of_le_of_lt ha0 (Nat.le_of_ble_eq_true rfl)) (Nat.le_of_ble_eq_true rfl)) dX9_isStuck_30 ?_
    refine lv_topi (fun y_32 ey_32 => ?_)
    obtain ⟨u_33, hu_33, qu_33, xu_33⟩ := bN_getx 7 q38 (n := a0) (Nat.lt_of_le_of_lt ha0 (Nat.le_of_ble_eq_true rfl))
    obtain rfl : y_32 = nI u_33 := ey_32.trans qu_33
    replace hsp := hsp.trans (slet_eq xu_33)
    refine lv_icmp_ne (tgt := 71) hx hb dX9_isStuck_31 (by decide) (fun c_34 => ?_) (fun c_34 => ?_)
    · have c_34 : ¬ u_31 = u_33 := fun z => c_34 ((nI_eq (a := u_31) (b := u_33) (Nat.lt_of_le_of_lt hu_31 (Nat.le_of_ble_eq_true rfl)) (Nat.lt_of_le_of_lt hu_33 (Nat.le_of_ble_eq_true rfl))).mpr z)
      replace hsp := hsp.trans (if_neg c_34)
      refine lv_iinc (v := (nI (g_9 + 1))) (lv' := [(2, .int (nI (g_9 + 1))), (0, .ref (ad 0)), (1, .int (nI a0))]) hx hb dX9_isStuck_71 hl (k := 2) rfl (nI_1 _) (by decide) rfl (fun ls hl => ?_)
      refine lv_goto (tgt := 7) hx hb dX9_isStuck_74 (by decide) ?_
      exact ih_11 (14 - (g_9 + 1)) (by omega) _ _ _ ⟨g_6, g_7, g_8, (g_9 + 1), rfl, hg_8, (by omega), by omega, hin_15 _ hsp, hP, hD, hS, lv_sub hl [1, 2, 0] rfl⟩
    · have c_34 : u_31 = u_33 := (nI_eq (a := u_31) (b := u_33) (Nat.lt_of_le_of_lt hu_31 (Nat.le_of_ble_eq_true rfl)) (Nat.lt_of_le_of_lt hu_33 (Nat.le_of_ble_eq_true rfl))).mp c_34
      replace hsp := hsp.trans (if_pos c_34)
      refine lv_aload_n hx hb dX9_isStuck_34 rfl (lv_at hl 0 rfl) ?_
      refine lv_iload_n hx hb dX9_isStuck_35 rfl (lv_at hl 2 rfl) ?_
      have hFc := pu_free hD hS hA
      refine va_calli (va_runV (As := [.int (nI g_9)]) (rest := []) ⟨hx, hb, hml, hown, hts⟩ (c_EM_layAhead l dC dI _ ad ck x0 x16 x18 x19 x20 x21 x22 x23 x24 x25 x26 x27 x28 x29 x30 x33 x45 x46 x52 g_8 x61 x62 x63 x65 x66 f1 f2 f3 q4 q5 q6 q7 f8 q9 q10 f11 m12_0 m12_1 m13_0 m13_1 m14_0 m14_1 m15_0 m15_1 f17 q31 f32 f34 g_6 f36 f37 q38 f39 f40 f41 m42_0 m42_1 f43 f44 f47 f48 f49 f50 g_7 q54 q55 q56 f57 q58 f59 f60 f64 g_9 hx16 hx18 hx19 hx21 hx22 hx26 hx28 hx29 hx30 hx33 hx46 hx52 (Nat.le_trans hg_8 (Nat.le_of_ble_eq_true rfl)) hx61 hx62 hx63 hx65 hm12_0 hm12_1 hm13_0 hm13_1 hm14_0 hm14_1 hm15_0 hm15_1 hm42_0 hm42_1 (by omega)) (cwV 1 hts g_EM_isStuck_EM_layAhead rfl rfl rfl (by decide +kernel) ⟨Nat.le_of_ble_eq_true rfl, Nat.le_of_ble_eq_true rfl⟩) ⟨pu_bl, va_recv hK hP (ci := 9) (q0 := 0) rfl rfl, pu_in hP hK hD⟩ rfl rfl hl.1 rfl (lv_room (Nat.le_of_ble_eq_true rfl)) dX9_isStuck_36 ⟨Nat.le_of_ble_eq_true rfl, Nat.le_of_ble_eq_true rfl⟩) hS (fun q _ h => hFc q h) hFc (fun r_35 u t H1 locs ht hvm hw hB hz1 hk1 hS => ?_)
      obtain ⟨z35_36, ⟨hP1, -, hD1⟩, xr_35_0⟩ := hB
      rw [ht] at hP1
      have hP := hP1
      have hD := pu_all hFc hD1
      clear hP1 hD1 hFc
      clear hk1 hz1 ht hvm
      generalize H1 = H at hP hS ⊢
      obtain ⟨u_37, hu_37, rfl, iu_37⟩ := hw
      have iu_37 : (u_37, z35_36) = (sp_EM_layAhead x16 x46 f3 q4 q5 q6 q7 f8 q9 q10 f11 m13_0 m13_1 m14_0 m14_1 g_6 g_9) := Prod.ext iu_37 xr_35_0
      replace hsp := hsp.trans (slet_eq iu_37)
      refine lv_if_eq (tgt := 71) hx hb dX9_isStuck_39 (by decide) (fun c_38 => ?_) (fun c_38 => ?_)
      · have c_38 : u_37 = 0 := (nI_eq (a := u_37) (b := 0) (Nat.lt_of_le_of_lt hu_37 (Nat.le_of_ble_eq_true rfl)) (Nat.le_of_ble_eq_true rfl)).mp c_38
        replace hsp := hsp.trans (if_pos c_38)
        refine lv_iinc (v := (nI (g_9 + 1))) (lv' := [(2, .int (nI (g_9 + 1))), (0, .ref (ad 0)), (1, .int (nI a0))]) hx hb dX9_isStuck_71 hl (k := 2) rfl (nI_1 _) (by decide) rfl (fun ls hl => ?_)
        refine lv_goto (tgt := 7) hx hb dX9_isStuck_74 (by decide) ?_
        exact ih_11 (14 - (g_9 + 1)) (by omega) _ _ _ ⟨z35_36, g_7, g_8, (g_9 + 1), rfl, hg_8, (by omega), by omega, hin_15 _ hsp, hP, hD, hS, lv_sub hl [1, 2, 0] rfl⟩
      · have c_38 : ¬ u_37 = 0 := fun z => c_38 ((nI_eq (a := u_37) (b := 0) (Nat.lt_of_le_of_lt hu_37 (Nat.le_of_ble_eq_true rfl)) (Nat.le_of_ble_eq_true rfl)).mpr z)
        replace hsp := hsp.trans (if_neg c_38)
        refine lv_aload_n hx hb dX9_isStuck_42 rfl (lv_at hl 0 rfl) ?_
        refine va_get (D := (dC, dI)) (ci := 9) (v := .ref (ad 35)) (C := RX9) (T := TX9) (N := 67) hx hb hts hiX9 hown hK hP 0 rfl rfl 35 (by decide) v_5 (fun _ h9 => h9) rfl dX9_isStuck_43 ?_
        refine lv_iconst (v := 0) hx hb dX9_isStuck_46 (by decide) ?_
        refine lv_aload_n hx hb dX9_isStuck_47 rfl (lv_at hl 0 rfl) ?_
        refine va_get (D := (dC, dI)) (ci := 9) (v := .ref (ad 51)) (C := RX9) (T := TX9) (N := 67) hx hb hts hiX9 hown hK hP 0 rfl rfl 51 (by decide) v_23 (fun _ h9 => h9) rfl dX9_isStuck_48 ?_
        refine lv_bipush (v := 25) hx hb dX9_isStuck_51 (by decide) ?_
        refine lv_aload_n hx hb dX9_isStuck_53 rfl (lv_at hl 0 rfl) ?_
        refine va_get (D := (dC, dI)) (ci := 9) (v := .int (nI g_8)) (C := RX9) (T := TX9) (N := 67) hx hb hts hiX9 hown hK hP 0 rfl rfl 53 (by decide) v_1 (fun _ h9 => h9) rfl dX9_isStuck_54 ?_
        refine lv_imul hx hb dX9_isStuck_57 ?_
        refine lv_topi (fun y_39 ey_39 => ?_)
        obtain rfl : y_39 = (nI (25 * g_8)) := ey_39.trans (pk_mul 25 g_8)
        have hFc := pu_free hD hS hA
        refine va_callv (va_runS (As := [.ref (ad 35), .int 0, .ref (ad 51), .int (nI (25 * g_8))]) (rest := []) ⟨hx, hb, hml, hown, hts⟩ (c_EM_copies_zc l dC dI _ ad ck x0 x16 x18 x19 x20 x21 x22 x23 x24 x25 x26 x27 x28 x29 x30 x33 x45 x46 x52 g_8 x61 x62 x63 x65 x66 f1 f2 f3 q4 q5 q6 q7 f8 q9 q10 f11 m12_0 m12_1 m13_0 m13_1 m14_0 m14_1 m15_0 m15_1 f17 q31 f32 f34 z35_36 f36 f37 q38 f39 f40 f41 m42_0 m42_1 f43 f44 f47 f48 f49 f50 g_7 q54 q55 q56 f57 q58 f59 f60 f64 (25 * g_8) hx16 hx18 hx19 hx21 hx22 hx26 hx28 hx29 hx30 hx33 hx46 hx52 (Nat.le_trans hg_8 (Nat.le_of_ble_eq_true rfl)) hx61 hx62 hx63 hx65 hm12_0 hm12_1 hm13_0 hm13_1 hm14_0 hm14_1 hm15_0 hm15_1 hm42_0 hm42_1 (by omega)) (va_cwS 4 hts g_EM_isStuck_EM_copies_zc rfl rfl rfl (by decide +kernel) ⟨Nat.le_of_ble_eq_true rfl, Nat.le_of_ble_eq_true rfl⟩) ⟨pu_bl, pu_in hP hK hD⟩ rfl rfl hl.1 rfl (lv_room (Nat.le_of_ble_eq_true rfl)) dX9_isStuck_58 ⟨Nat.le_of_ble_eq_true rfl, Nat.le_of_ble_eq_true rfl⟩) hS (fun q _ h => hFc q h) hFc (fun u t H1 locs ht hvm hw hB hz1 hk1 hS => ?_)
        obtain ⟨z51_41, ⟨hP1, -, hD1⟩, xr_40_0⟩ := hB
        rw [ht] at hP1
        have hP := hP1
        have hD := pu_all hFc hD1
        clear hP1 hD1 hFc
        clear hk1 hz1 ht hvm
        generalize H1 = H at hP hS ⊢
        replace hsp := hsp.trans (slet_eq xr_40_0)
        refine lv_aload_n hx hb dX9_isStuck_61 rfl (lv_at hl 0 rfl) ?_
        refine lv_dup hx hb dX9_isStuck_62 rfl ?_
        refine va_get (D := (dC, dI)) (ci := 9) (v := .int (nI g_8)) (C := RX9) (T := TX9) (N := 67) hx hb hts hiX9 hown hK hP 0 rfl rfl 53 (by decide) v_1 (fun _ h9 => h9) rfl dX9_isStuck_63 ?_
        refine lv_iconst (v := 1) hx hb dX9_isStuck_66 (by decide) ?_
        refine lv_iadd hx hb dX9_isStuck_67 ?_
        refine lv_topi (fun y_42 ey_42 => ?_)
        obtain rfl : y_42 = (nI (g_8 + 1)) := ey_42.trans (nI_add g_8 1)
        refine va_put (D := (dC, dI)) (ci := 9) (v := .int (nI (g_8 + 1))) (ty := .int) (C := RX9) (T := TX9) (N := 67) hx hb hts hiX9 tyX9 tyX9_ok nmX9 hown hK hP hD hS 0 rfl rfl 53 (by decide) v_1 (fun _ h9 => h9) rfl (by decide +kernel) rfl rfl (Nat.le_of_ble_eq_true rfl) dX9_isStuck_68 (fun H locs hP hD hS => ?_)
        have hP : va_P (dC, dI) vwCl (mo_w ad ck x0 (nI x16) (nI x18) (nI x19) x20 (nI x21) (nI x22) x23 x24 x25 (nI x26) x27 (nI x28) (nI x29) (nI x30) (nI x33) x45 (nI x46) (nI x52) (nI (g_8 + 1)) (nI x61) (nI x62) (nI x63) (nI x65) x66 f1 f2 f3 (bN 3 q4) (bN 7 q5) (bN 7 q6) (bN 4 q7) f8 (bN 2 q9) (bH q10) f11 (b2 m12_0 m12_1) (b2 m13_0 m13_1) (b2 m14_0 m14_1) (b2m m15_0 m15_1) f17 (bA 159 q31) f32 f34 z35_36 f36 f37 (bN 7 q38) f39 f40 f41 (b2 m42_0 m42_1) f43 f44 f47 f48 f49 f50 z51_41 (bN 13 q54) (bN 120 q55) (bN 120 q56) f57 (bN 120 q58) f59 f60 f64) H := hP
        have hD : va_D A (mo_w ad ck x0 (nI x16) (nI x18) (nI x19) x20 (nI x21) (nI x22) x23 x24 x25 (nI x26) x27 (nI x28) (nI x29) (nI x30) (nI x33) x45 (nI x46) (nI x52) (nI (g_8 + 1)) (nI x61) (nI x62) (nI x63) (nI x65) x66 f1 f2 f3 (bN 3 q4) (bN 7 q5) (bN 7 q6) (bN 4 q7) f8 (bN 2 q9) (bH q10) f11 (b2 m12_0 m12_1) (b2 m13_0 m13_1) (b2 m14_0 m14_1) (b2m m15_0 m15_1) f17 (bA 159 q31) f32 f34 z35_36 f36 f37 (bN 7 q38) f39 f40 f41 (b2 m42_0 m42_1) f43 f44 f47 f48 f49 f50 z51_41 (bN 13 q54) (bN 120 q55) (bN 120 q56) f57 (bN 120 q58) f59 f60 f64) := hD
        refine lv_iinc (v := (nI (g_9 + 1))) (lv' := [(2, .int (nI (g_9 + 1))), (0, .ref (ad 0)), (1, .int (nI a0))]) hx hb dX9_isStuck_71 hl (k := 2) rfl (nI_1 _) (by decide) rfl (fun ls hl => ?_)
        refine lv_goto (tgt := 7) hx hb dX9_isStuck_74 (by decide) ?_
        exact ih_11 (14 - (g_9 + 1)) (by omega) _ _ _ ⟨z35_36, z51_41, (g_8 + 1), (g_9 + 1), rfl, (by omega), (by omega), by omega, hin_15 _ hsp, hP, hD, hS, lv_sub hl [1, 2, 0] rfl⟩
