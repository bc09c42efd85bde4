theorem dX9_lets_0 : decode cX9_lets 0 = .ok (.aload_n 0, 1) := by decide +kernel
theorem dX9_lets_1 : decode cX9_lets 1 = .ok (.iconst 0, 1) := by decide +kernel
theorem dX9_lets_2 : decode cX9_lets 2 = .ok (.putfield 142, 3) := by decide +kernel
theorem dX9_lets_5 : decode cX9_lets 5 = .ok (.aload_n 0, 1) := by decide +kernel
theorem dX9_lets_6 : decode cX9_lets 6 = .ok (.iload_n 1, 1) := by decide +kernel
theorem dX9_lets_7 : decode cX9_lets 7 = .ok (.iload_n 2, 1) := by decide +kernel
theorem dX9_lets_8 : decode cX9_lets 8 = .ok (.invokevirtual 308, 3) := by decide +kernel
theorem dX9_lets_11 : decode cX9_lets 11 = .ok (.ifCond .eq 21, 3) := by decide +kernel
theorem dX9_lets_14 : decode cX9_lets 14 = .ok (.aload_n 0, 1) := by decide +kernel
theorem dX9_lets_15 : decode cX9_lets 15 = .ok (.iload_n 3, 1) := by decide +kernel
theorem dX9_lets_16 : decode cX9_lets 16 = .ok (.invokevirtual 286, 3) := by decide +kernel
theorem dX9_lets_19 : decode cX9_lets 19 = .ok (.ifCond .eq 13, 3) := by decide +kernel
theorem dX9_lets_22 : decode cX9_lets 22 = .ok (.iload 4, 2) := by decide +kernel
theorem dX9_lets_24 : decode cX9_lets 24 = .ok (.iconst 0, 1) := by decide +kernel
theorem dX9_lets_25 : decode cX9_lets 25 = .ok (.iconst 1, 1) := by decide +kernel
theorem dX9_lets_26 : decode cX9_lets 26 = .ok (.invokestatic 152, 3) := by decide +kernel
theorem dX9_lets_29 : decode cX9_lets 29 = .ok (.ifCond .ne 5, 3) := by decide +kernel
theorem dX9_lets_32 : decode cX9_lets 32 = .ok (.iconst (-1), 1) := by decide +kernel
theorem dX9_lets_33 : decode cX9_lets 33 = .ok (.ireturn, 1) := by decide +kernel
theorem dX9_lets_34 : decode cX9_lets 34 = .ok (.aload_n 0, 1) := by decide +kernel
theorem dX9_lets_35 : decode cX9_lets 35 = .ok (.iload_n 1, 1) := by decide +kernel
theorem dX9_lets_36 : decode cX9_lets 36 = .ok (.iload_n 2, 1) := by decide +kernel
theorem dX9_lets_37 : decode cX9_lets 37 = .ok (.invokevirtual 311, 3) := by decide +kernel
theorem dX9_lets_40 : decode cX9_lets 40 = .ok (.istore 5, 2) := by decide +kernel
theorem dX9_lets_42 : decode cX9_lets 42 = .ok (.aload_n 0, 1) := by decide +kernel
theorem dX9_lets_43 : decode cX9_lets 43 = .ok (.getfield 40, 3) := by decide +kernel
theorem dX9_lets_46 : decode cX9_lets 46 = .ok (.iload 5, 2) := by decide +kernel
theorem dX9_lets_48 : decode cX9_lets 48 = .ok (.iaload, 1) := by decide +kernel
theorem dX9_lets_49 : decode cX9_lets 49 = .ok (.istore 6, 2) := by decide +kernel
theorem dX9_lets_51 : decode cX9_lets 51 = .ok (.bipush (-2), 2) := by decide +kernel
theorem dX9_lets_53 : decode cX9_lets 53 = .ok (.istore 7, 2) := by decide +kernel
theorem dX9_lets_55 : decode cX9_lets 55 = .ok (.iconst 0, 1) := by decide +kernel
theorem dX9_lets_56 : decode cX9_lets 56 = .ok (.istore 8, 2) := by decide +kernel
theorem dX9_lets_58 : decode cX9_lets 58 = .ok (.iload 8, 2) := by decide +kernel
theorem dX9_lets_60 : decode cX9_lets 60 = .ok (.bipush 20, 2) := by decide +kernel
theorem dX9_lets_62 : decode cX9_lets 62 = .ok (.if_icmp .gt 95, 3) := by decide +kernel
theorem dX9_lets_65 : decode cX9_lets 65 = .ok (.iload 7, 2) := by decide +kernel
theorem dX9_lets_67 : decode cX9_lets 67 = .ok (.ifCond .ge 90, 3) := by decide +kernel
theorem dX9_lets_70 : decode cX9_lets 70 = .ok (.aload_n 0, 1) := by decide +kernel
theorem dX9_lets_71 : decode cX9_lets 71 = .ok (.getfield 40, 3) := by decide +kernel
theorem dX9_lets_74 : decode cX9_lets 74 = .ok (.iload 5, 2) := by decide +kernel
theorem dX9_lets_76 : decode cX9_lets 76 = .ok (.iload 4, 2) := by decide +kernel
theorem dX9_lets_78 : decode cX9_lets 78 = .ok (.ifCond .ne 8, 3) := by decide +kernel
theorem dX9_lets_81 : decode cX9_lets 81 = .ok (.iload 8, 2) := by decide +kernel
theorem dX9_lets_83 : decode cX9_lets 83 = .ok (.goto 8, 3) := by decide +kernel
theorem dX9_lets_86 : decode cX9_lets 86 = .ok (.bipush 20, 2) := by decide +kernel
theorem dX9_lets_88 : decode cX9_lets 88 = .ok (.iload 8, 2) := by decide +kernel
theorem dX9_lets_90 : decode cX9_lets 90 = .ok (.isub, 1) := by decide +kernel
theorem dX9_lets_91 : decode cX9_lets 91 = .ok (.iastore, 1) := by decide +kernel
theorem dX9_lets_92 : decode cX9_lets 92 = .ok (.aload_n 0, 1) := by decide +kernel
theorem dX9_lets_93 : decode cX9_lets 93 = .ok (.aload_n 0, 1) := by decide +kernel
theorem dX9_lets_94 : decode cX9_lets 94 = .ok (.invokevirtual 280, 3) := by decide +kernel
theorem dX9_lets_97 : decode cX9_lets 97 = .ok (.iconst 1, 1) := by decide +kernel
theorem dX9_lets_98 : decode cX9_lets 98 = .ok (.iadd, 1) := by decide +kernel
theorem dX9_lets_99 : decode cX9_lets 99 = .ok (.putfield 328, 3) := by decide +kernel
theorem dX9_lets_102 : decode cX9_lets 102 = .ok (.aload_n 0, 1) := by decide +kernel
theorem dX9_lets_103 : decode cX9_lets 103 = .ok (.iconst 0, 1) := by decide +kernel
theorem dX9_lets_104 : decode cX9_lets 104 = .ok (.iconst 0, 1) := by decide +kernel
theorem dX9_lets_105 : decode cX9_lets 105 = .ok (.iconst 0, 1) := by decide +kernel
theorem dX9_lets_106 : decode cX9_lets 106 = .ok (.invokevirtual 379, 3) := by decide +kernel
theorem dX9_lets_109 : decode cX9_lets 109 = .ok (.aload_n 0, 1) := by decide +kernel
theorem dX9_lets_110 : decode cX9_lets 110 = .ok (.iconst 1, 1) := by decide +kernel
theorem dX9_lets_111 : decode cX9_lets 111 = .ok (.aload_n 0, 1) := by decide +kernel
theorem dX9_lets_112 : decode cX9_lets 112 = .ok (.getfield 52, 3) := by decide +kernel
theorem dX9_lets_115 : decode cX9_lets 115 = .ok (.aload_n 0, 1) := by decide +kernel
theorem dX9_lets_116 : decode cX9_lets 116 = .ok (.getfield 258, 3) := by decide +kernel
theorem dX9_lets_119 : decode cX9_lets 119 = .ok (.iaload, 1) := by decide +kernel
theorem dX9_lets_120 : decode cX9_lets 120 = .ok (.iconst 2, 1) := by decide +kernel
theorem dX9_lets_121 : decode cX9_lets 121 = .ok (.iconst 1, 1) := by decide +kernel
theorem dX9_lets_122 : decode cX9_lets 122 = .ok (.bipush 120, 2) := by decide +kernel
theorem dX9_lets_124 : decode cX9_lets 124 = .ok (.iconst (-1), 1) := by decide +kernel
theorem dX9_lets_125 : decode cX9_lets 125 = .ok (.invokevirtual 383, 3) := by decide +kernel
theorem dX9_lets_128 : decode cX9_lets 128 = .ok (.aload_n 0, 1) := by decide +kernel
theorem dX9_lets_129 : decode cX9_lets 129 = .ok (.iconst 1, 1) := by decide +kernel
theorem dX9_lets_130 : decode cX9_lets 130 = .ok (.iload_n 3, 1) := by decide +kernel
theorem dX9_lets_131 : decode cX9_lets 131 = .ok (.invokevirtual 426, 3) := by decide +kernel
theorem dX9_lets_134 : decode cX9_lets 134 = .ok (.ifCond .eq 13, 3) := by decide +kernel
theorem dX9_lets_137 : decode cX9_lets 137 = .ok (.aload_n 0, 1) := by decide +kernel
theorem dX9_lets_138 : decode cX9_lets 138 = .ok (.getfield 40, 3) := by decide +kernel
theorem dX9_lets_141 : decode cX9_lets 141 = .ok (.iload 5, 2) := by decide +kernel
theorem dX9_lets_143 : decode cX9_lets 143 = .ok (.iaload, 1) := by decide +kernel
theorem dX9_lets_144 : decode cX9_lets 144 = .ok (.goto 5, 3) := by decide +kernel
theorem dX9_lets_147 : decode cX9_lets 147 = .ok (.iload 7, 2) := by decide +kernel
theorem dX9_lets_149 : decode cX9_lets 149 = .ok (.istore 7, 2) := by decide +kernel
theorem dX9_lets_151 : decode cX9_lets 151 = .ok (.iinc 8 1, 3) := by decide +kernel
theorem dX9_lets_154 : decode cX9_lets 154 = .ok (.goto (-96), 3) := by decide +kernel
theorem dX9_lets_157 : decode cX9_lets 157 = .ok (.aload_n 0, 1) := by decide +kernel
theorem dX9_lets_158 : decode cX9_lets 158 = .ok (.getfield 40, 3) := by decide +kernel
theorem dX9_lets_161 : decode cX9_lets 161 = .ok (.iload 5, 2) := by decide +kernel
theorem dX9_lets_163 : decode cX9_lets 163 = .ok (.iload 6, 2) := by decide +kernel
theorem dX9_lets_165 : decode cX9_lets 165 = .ok (.iastore, 1) := by decide +kernel
theorem dX9_lets_166 : decode cX9_lets 166 = .ok (.iload 7, 2) := by decide +kernel
theorem dX9_lets_168 : decode cX9_lets 168 = .ok (.ireturn, 1) := by decide +kernel
abbrev vs_EM_lets : List Cond := .code yX9_lets cX9_lets 9 (some .int) :: VM
theorem g_EM_lets_X9_in : GoodIn vs_EM_lets (va_wsS RX9 152 yX9_in vs_X9_in) := gm_0 (fun w h => by
  rcases List.mem_cons.mp h with rfl | h
  · exact vm_137
  rcases List.mem_cons.mp h with rfl | h
  · exact vm_138
  rcases List.mem_cons.mp h with rfl | h
  · exact vm_19
  rcases List.mem_cons.mp h with rfl | h
  · exact vm_139
  exact absurd h (List.not_mem_nil))
theorem g_EM_lets_EM_isCondition : GoodIn vs_EM_lets (wsV RX9 308 RX9 yX9_isCondition vs_EM_isCondition) := gm_V vm_156 vm_157 vm_158 vm_19 vm_159
theorem g_EM_lets_EM_isPlace : GoodIn vs_EM_lets (wsV RX9 286 RX9 yX9_isPlace vs_EM_isPlace) := gm_V vm_148 vm_149 vm_150 vm_19 vm_151
theorem g_EM_lets_EM_spot_e : GoodIn vs_EM_lets (wsV RX9 311 RX9 yX9_spot vs_EM_spot_e) := gm_V vm_160 vm_161 vm_162 vm_19 vm_163
theorem g_EM_lets_EM_clocks : GoodIn vs_EM_lets (wsV RX9 280 RX9 yX9_clocks vs_EM_clocks) := gm_V vm_140 vm_141 vm_142 vm_19 vm_143
theorem g_EM_lets_EM_layPoint : GoodIn vs_EM_lets (wsV RX9 379 RX9 yX9_layPoint vs_EM_layPoint) := gm_V vm_255 vm_256 vm_257 vm_19 vm_258
theorem g_EM_lets_EM_explores_1_120 : GoodIn vs_EM_lets (wsV RX9 383 RX9 yX9_explores vs_EM_explores_1_120) := gm_V vm_259 vm_260 vm_261 vm_19 vm_262
theorem g_EM_lets_EM_hasPlace_1 : GoodIn vs_EM_lets (wsV RX9 426 RX9 yX9_hasPlace vs_EM_hasPlace_1) := gm_V vm_354 vm_355 vm_356 vm_19 vm_357
theorem g_EM_lets_EM_spot_p : GoodIn vs_EM_lets (wsV RX9 311 RX9 yX9_spot vs_EM_spot_p) := gm_V vm_160 vm_161 vm_162 vm_19 vm_163
noncomputable def sp_EM_lets_L1 (x16 : Nat) (f3 : Nat → Int32) (q4 : Nat → Nat) (q5 : Nat → Nat) (q6 : Nat → Nat) (q7 : Nat → Nat) (f8 : Nat → Int32) (q9 : Nat → Nat) (q10 : Nat → Nat) (m12_0 : Nat) (m12_1 : Nat) (m13_0 : Nat) (m13_1 : Nat) (m14_0 : Nat) (m14_1 : Nat) (m15_0 : Nat) (m15_1 : Nat) (n_3 : Nat) (n_4 : Nat) (n_6 : Nat) (n_8 : Nat) : ((Nat → Int32) × (Nat → Int32) × (Nat → Int32) × (Nat → Nat) × (Nat → Int32) × (Nat → Int32) × (Nat → Int32) × (Nat → Int32) × (Nat → Int32) × (Nat → Int32) × (Nat → Int32) × Nat × Nat × Int32 × Nat) → ((Nat → Int32) × (Nat → Int32) × (Nat → Int32) × (Nat → Nat) × (Nat → Int32) × (Nat → Int32) × (Nat → Int32) × (Nat → Int32) × (Nat → Int32) × (Nat → Int32) × (Nat → Int32) × Nat × Nat × Int32 × Nat) ⊕ (Int32 × Nat × Nat × (Nat → Int32) × (Nat → Int32) × (Nat → Int32) × (Nat → Nat) × (Nat → Int32) × (Nat → Int32) × (Nat → Int32) × Nat × (Nat → Int32) × (Nat → Int32) × (Nat → Int32) × (Nat → Int32)) := fun (g_47, g_48, g_49, g_50, g_51, g_52, g_53, g_54, g_55, g_56, g_57, g_58, g_59, g_60, g_61) => (if 20 < g_61 then (Sum.inr (g_60, g_61, g_59, g_47, g_48, g_49, g_50, g_51, g_52, g_53, g_58, g_54, g_55, g_56, g_57)) else (if (0 : Int32) ≤ g_60 then (Sum.inr (g_60, g_61, g_59, g_47, g_48, g_49, g_50, g_51, g_52, g_53, g_58, g_54, g_55, g_56, g_57)) else (slet (α := Nat) (if n_8 = 0 then g_61 else (20 - g_61)) (fun g_71 => (slet (upd g_47 (80 * x16 + 4 * n_3 + n_4) (nI g_71)) (fun f_76 => (slet (sp_EM_clocks x16 m12_0 m12_1) (fun u_78 => (slet (sp_EM_layPoint g_49 0 0 0) (fun z35_81 => (slet (if x16 = 0 then m15_0 else m15_1) (fun u_83 => (slet (u_83 - 1) (fun vy_82 => (slet (sp_EM_explores_1_120 x16 (u_78 + 1) f3 q4 q5 q6 q7 f8 q9 q10 f_76 m12_0 m12_1 m13_0 m13_1 m14_0 m14_1 g_48 z35_81 g_50 g_51 g_52 g_53 g_54 g_55 g_56 g_57 vy_82 2 1 (-1)) (fun (z34_85, z35_86, z38_87, z39_88, z40_89, z41_90, z43_91, z44_92, z47_93, z48_94, z42_1_95) => (slet (sp_EM_hasPlace_1 z38_87 z42_1_95 (nI n_6)) (fun u_97 => (slet (α := Int32) (if u_97 = 0 then g_60 else (slet (f_76 (80 * x16 + 4 * n_3 + n_4)) (fun y_104 => y_104))) (fun g_98 => (Sum.inl (f_76, z34_85, z35_86, z38_87, z39_88, z40_89, z41_90, z43_91, z44_92, z47_93, z48_94, z42_1_95, (u_78 + 1), g_98, (g_61 + 1)))))))))))))))))))))))
noncomputable def sp_EM_lets_L2 (x16 : Nat) (f3 : Nat → Int32) (q4 : Nat → Nat) (q5 : Nat → Nat) (q6 : Nat → Nat) (q7 : Nat → Nat) (f8 : Nat → Int32) (q9 : Nat → Nat) (q10 : Nat → Nat) (m12_0 : Nat) (m12_1 : Nat) (m13_0 : Nat) (m13_1 : Nat) (m14_0 : Nat) (m14_1 : Nat) (m15_0 : Nat) (m15_1 : Nat) (n_3 : Nat) (n_4 : Nat) (n_108 : Nat) (n_110 : Nat) : ((Nat → Int32) × (Nat → Int32) × (Nat → Int32) × (Nat → Nat) × (Nat → Int32) × (Nat → Int32) × (Nat → Int32) × (Nat → Int32) × (Nat → Int32) × (Nat → Int32) × (Nat → Int32) × Nat × Nat × Int32 × Nat) → ((Nat → Int32) × (Nat → Int32) × (Nat → Int32) × (Nat → Nat) × (Nat → Int32) × (Nat → Int32) × (Nat → Int32) × (Nat → Int32) × (Nat → Int32) × (Nat → Int32) × (Nat → Int32) × Nat × Nat × Int32 × Nat) ⊕ (Int32 × Nat × Nat × (Nat → Int32) × (Nat → Int32) × (Nat → Int32) × (Nat → Nat) × (Nat → Int32) × (Nat → Int32) × (Nat → Int32) × Nat × (Nat → Int32) × (Nat → Int32) × (Nat → Int32) × (Nat → Int32)) := fun (g_149, g_150, g_151, g_152, g_153, g_154, g_155, g_156, g_157, g_158, g_159, g_160, g_161, g_162, g_163) => (if 20 < g_163 then (Sum.inr (g_162, g_163, g_161, g_149, g_150, g_151, g_152, g_153, g_154, g_155, g_160, g_156, g_157, g_158, g_159)) else (if (0 : Int32) ≤ g_162 then (Sum.inr (g_162, g_163, g_161, g_149, g_150, g_151, g_152, g_153, g_154, g_155, g_160, g_156, g_157, g_158, g_159)) else (slet (α := Nat) (if n_110 = 0 then g_163 else (20 - g_163)) (fun g_173 => (slet (upd g_149 (80 * x16 + (56 + 3 * ((100 + n_3) - 100)) + n_4) (nI g_173)) (fun f_178 => (slet (sp_EM_clocks x16 m12_0 m12_1) (fun u_180 => (slet (sp_EM_layPoint g_151 0 0 0) (fun z35_183 => (slet (if x16 = 0 then m15_0 else m15_1) (fun u_185 => (slet (u_185 - 1) (fun vy_184 => (slet (sp_EM_explores_1_120 x16 (u_180 + 1) f3 q4 q5 q6 q7 f8 q9 q10 f_178 m12_0 m12_1 m13_0 m13_1 m14_0 m14_1 g_150 z35_183 g_152 g_153 g_154 g_155 g_156 g_157 g_158 g_159 vy_184 2 1 (-1)) (fun (z34_187, z35_188, z38_189, z39_190, z40_191, z41_192, z43_193, z44_194, z47_195, z48_196, z42_1_197) => (slet (sp_EM_hasPlace_1 z38_189 z42_1_197 (nI n_108)) (fun u_199 => (slet (α := Int32) (if u_199 = 0 then g_162 else (slet (f_178 (80 * x16 + (56 + 3 * ((100 + n_3) - 100)) + n_4)) (fun y_206 => y_206))) (fun g_200 => (Sum.inl (f_178, z34_187, z35_188, z38_189, z39_190, z40_191, z41_192, z43_193, z44_194, z47_195, z48_196, z42_1_197, (u_180 + 1), g_200, (g_163 + 1)))))))))))))))))))))))
noncomputable def sp_EM_lets (x16 : Nat) (x46 : Nat) (f3 : Nat → Int32) (q4 : Nat → Nat) (q5 : Nat → Nat) (q6 : Nat → Nat) (q7 : Nat → Nat) (f8 : Nat → Int32) (q9 : Nat → Nat) (q10 : Nat → Nat) (f11 : Nat → Int32) (m12_0 : Nat) (m12_1 : Nat) (m13_0 : Nat) (m13_1 : Nat) (m14_0 : Nat) (m14_1 : Nat) (m15_0 : Nat) (m15_1 : Nat) (f34 : Nat → Int32) (f35 : Nat → Int32) (q38 : Nat → Nat) (f39 : Nat → Int32) (f40 : Nat → Int32) (f41 : Nat → Int32) (m42_1 : Nat) (f43 : Nat → Int32) (f44 : Nat → Int32) (f47 : Nat → Int32) (f48 : Nat → Int32) (p0 : Int32) (p1 : Int32) (p2 : Int32) (p3 : Int32) : Int32 × (Nat → Int32) × (Nat → Int32) × (Nat → Int32) × (Nat → Nat) × (Nat → Int32) × (Nat → Int32) × (Nat → Int32) × (Nat → Int32) × (Nat → Int32) × (Nat → Int32) × (Nat → Int32) × Nat × Int32 × Nat := (slet (sp_EM_isCondition x16 q4 q7 m13_0 m13_1 m14_0 m14_1 p0 p1) (fun u_2 => (if u_2 = 1 then (if (p0 : Int32) < 100 then (slet ((p0 : Int32).toNatClampNeg) (fun n_3 => (slet ((p1 : Int32).toNatClampNeg) (fun n_4 => (if (0 : Int32) ≤ p2 ∧ p2 < nI (bkN x16 m13_0 m13_1) then (slet ((p2 : Int32).toNatClampNeg) (fun n_6 => (if (0 : Int32) ≤ p3 ∧ p3 ≤ 1 then (slet ((p3 : Int32).toNatClampNeg) (fun n_8 => (slet (f11 (80 * x16 + 4 * n_3 + n_4)) (fun y_10 => (slet (α := Int32 × Nat × Nat × (Nat → Int32) × (Nat → Int32) × (Nat → Int32) × (Nat → Nat) × (Nat → Int32) × (Nat → Int32) × (Nat → Int32) × Nat × (Nat → Int32) × (Nat → Int32) × (Nat → Int32) × (Nat → Int32)) (itrv (α := (Nat → Int32) × (Nat → Int32) × (Nat → Int32) × (Nat → Nat) × (Nat → Int32) × (Nat → Int32) × (Nat → Int32) × (Nat → Int32) × (Nat → Int32) × (Nat → Int32) × (Nat → Int32) × Nat × Nat × Int32 × Nat) (β := (Int32 × Nat × Nat × (Nat → Int32) × (Nat → Int32) × (Nat → Int32) × (Nat → Nat) × (Nat → Int32) × (Nat → Int32) × (Nat → Int32) × Nat × (Nat → Int32) × (Nat → Int32) × (Nat → Int32) × (Nat → Int32))) default (sp_EM_lets_L1 x16 f3 q4 q5 q6 q7 f8 q9 q10 m12_0 m12_1 m13_0 m13_1 m14_0 m14_1 m15_0 m15_1 n_3 n_4 n_6 n_8) (f11, f34, f35, q38, f39, f40, f41, f43, f44, f47, f48, m42_1, x46, (-2), 0)) (fun (g_11, g_12, g_13, g_14, g_15, g_16, g_17, g_18, g_19, g_20, g_21, g_22, g_23, g_24, g_25) => (slet (upd g_14 (80 * x16 + 4 * n_3 + n_4) y_10) (fun f_30 => (g_11, f_30, g_15, g_16, g_17, g_18, g_19, g_20, g_22, g_23, g_24, g_25, g_21, 0, g_13))))))))) else ((-1), f11, f34, f35, q38, f39, f40, f41, f43, f44, f47, f48, m42_1, 0, x46)))) else ((-1), f11, f34, f35, q38, f39, f40, f41, f43, f44, f47, f48, m42_1, 0, x46)))))) else (slet (((p0 : Int32) - 100).toNatClampNeg) (fun n_3 => (slet ((p1 : Int32).toNatClampNeg) (fun n_4 => (if (0 : Int32) ≤ p2 ∧ p2 < nI (bkN x16 m13_0 m13_1) then (slet ((p2 : Int32).toNatClampNeg) (fun n_108 => (if (0 : Int32) ≤ p3 ∧ p3 ≤ 1 then (slet ((p3 : Int32).toNatClampNeg) (fun n_110 => (slet (f11 (80 * x16 + (56 + 3 * ((100 + n_3) - 100)) + n_4)) (fun y_112 => (slet (α := Int32 × Nat × Nat × (Nat → Int32) × (Nat → Int32) × (Nat → Int32) × (Nat → Nat) × (Nat → Int32) × (Nat → Int32) × (Nat → Int32) × Nat × (Nat → Int32) × (Nat → Int32) × (Nat → Int32) × (Nat → Int32)) (itrv (α := (Nat → Int32) × (Nat → Int32) × (Nat → Int32) × (Nat → Nat) × (Nat → Int32) × (Nat → Int32) × (Nat → Int32) × (Nat → Int32) × (Nat → Int32) × (Nat → Int32) × (Nat → Int32) × Nat × Nat × Int32 × Nat) (β := (Int32 × Nat × Nat × (Nat → Int32) × (Nat → Int32) × (Nat → Int32) × (Nat → Nat) × (Nat → Int32) × (Nat → Int32) × (Nat → Int32) × Nat × (Nat → Int32) × (Nat → Int32) × (Nat → Int32) × (Nat → Int32))) default (sp_EM_lets_L2 x16 f3 q4 q5 q6 q7 f8 q9 q10 m12_0 m12_1 m13_0 m13_1 m14_0 m14_1 m15_0 m15_1 n_3 n_4 n_108 n_110) (f11, f34, f35, q38, f39, f40, f41, f43, f44, f47, f48, m42_1, x46, (-2), 0)) (fun (g_113, g_114, g_115, g_116, g_117, g_118, g_119, g_120, g_121, g_122, g_123, g_124, g_125, g_126, g_127) => (slet (upd g_116 (80 * x16 + (56 + 3 * ((100 + n_3) - 100)) + n_4) y_112) (fun f_132 => (g_113, f_132, g_117, g_118, g_119, g_120, g_121, g_122, g_124, g_125, g_126, g_127, g_123, 0, g_115))))))))) else ((-1), f11, f34, f35, q38, f39, f40, f41, f43, f44, f47, f48, m42_1, 0, x46)))) else ((-1), f11, f34, f35, q38, f39, f40, f41, f43, f44, f47, f48, m42_1, 0, x46))))))) else ((-1), f11, f34, f35, q38, f39, f40, f41, f43, f44, f47, f48, m42_1, 0, x46))))
set_option maxHeartbeats 4000000 in
set_option maxRecDepth 100000 in
theorem c_EM_lets (l : Launch) (dC : Nat → ClassId) (dI : Nat → Nat → Nat) (sz : Nat) (ad : Nat → Nat) (ck : Nat → ClassId) (x0 : Int32) (x16 : Nat) (x18 : Nat) (x19 : Nat) (x20 : Int32) (x21 : Nat) (x22 : Nat) (x23 : Int32) (x24 : Int32) (x25 : Int32) (x26 : Nat) (x27 : Int32) (x28 : Nat) (x29 : Nat) (x30 : Nat) (x33 : Nat) (x45 : Int32) (x46 : Nat) (x52 : Nat) (x53 : Nat) (x61 : Nat) (x62 : Nat) (x63 : Nat) (x65 : Nat) (x66 : Int32) (f1 : Nat → Int32) (f2 : Nat → Int32) (f3 : Nat → Int32) (q4 : Nat → Nat) (q5 : Nat → Nat) (q6 : Nat → Nat) (q7 : Nat → Nat) (f8 : Nat → Int32) (q9 : Nat → Nat) (q10 : Nat → Nat) (f11 : Nat → Int32) (m12_0 m12_1 : Nat) (m13_0 m13_1 : Nat) (m14_0 m14_1 : Nat) (m15_0 m15_1 : Nat) (f17 : Nat → Int32) (q31 : Nat → Nat) (f32 : Nat → Int32) (f34 : Nat → Int32) (f35 : Nat → Int32) (f36 : Nat → Int32) (f37 : Nat → Int32) (q38 : Nat → Nat) (f39 : Nat → Int32) (f40 : Nat → Int32) (f41 : Nat → Int32) (m42_0 m42_1 : Nat) (f43 : Nat → Int32) (f44 : Nat → Int32) (f47 : Nat → Int32) (f48 : Nat → Int32) (f49 : Nat → Int32) (f50 : Nat → Int32) (f51 : Nat → Int32) (q54 : Nat → Nat) (q55 : Nat → Nat) (q56 : Nat → Nat) (f57 : Nat → Int32) (q58 : Nat → Nat) (f59 : Nat → Int32) (f60 : Nat → Int32) (f64 : Nat → Int32) (p0 : Int32) (p1 : Int32) (p2 : Int32) (p3 : Int32) (hx16 : x16 ≤ 1) (hx18 : x18 ≤ 900) (hx19 : x19 ≤ 900) (hx21 : x21 ≤ 900) (hx22 : x22 ≤ 4) (hx26 : x26 ≤ 6) (hx28 : x28 ≤ 1) (hx29 : x29 ≤ 1) (hx30 : x30 ≤ 1) (hx33 : x33 ≤ 20) (hx46 : x46 ≤ 5) (hx52 : x52 ≤ 2400) (hx53 : x53 ≤ 119) (hx61 : x61 ≤ 119) (hx62 : x62 ≤ 2000) (hx63 : x63 ≤ 1) (hx65 : x65 ≤ 7) (hm12_0 : m12_0 ≤ 3) (hm12_1 : m12_1 ≤ 3) (hm13_0 : m13_0 ≤ 8) (hm13_1 : m13_1 ≤ 8) (hm14_0 : m14_0 ≤ 14) (hm14_1 : m14_1 ≤ 14) (hm15_0 : m15_0 ≤ 8) (hm15_1 : m15_1 ≤ 8) (hm42_0 : m42_0 ≤ 120) (hm42_1 : m42_1 ≤ 400) (hbg : (x16 = 0 ∧ (m13_0 = 0 ∨ 1 ≤ m15_0)) ∨ (x16 = 1 ∧ (m13_1 = 0 ∨ 1 ≤ m15_1))) (hgr : gz_ok m42_0 f39 f40 f41) : Met l yX9_lets vs_EM_lets ({ frames := 7, cells := 0, slots := 0, locals := 171 }) (va_Pc [.ref (ad 0), .int p0, .int p1, .int p2, .int p3] (pu_B (dC, dI) (mo_w ad ck x0 (nI x16) (nI x18) (nI x19) x20 (nI x21) (nI x22) x23 x24 x25 (nI x26) x27 (nI x28) (nI x29) (nI x30) (nI x33) x45 (nI x46) (nI x52) (nI x53) (nI x61) (nI x62) (nI x63) (nI x65) x66 f1 f2 f3 (bN 3 q4) (bN 7 q5) (bN 7 q6) (bN 4 q7) f8 (bN 2 q9) (bH q10) f11 (b2 m12_0 m12_1) (b2 m13_0 m13_1) (b2 m14_0 m14_1) (b2m m15_0 m15_1) f17 (bA 159 q31) f32 f34 f35 f36 f37 (bN 7 q38) f39 f40 f41 (b2 m42_0 m42_1) f43 f44 f47 f48 f49 f50 f51 (bN 13 q54) (bN 120 q55) (bN 120 q56) f57 (bN 120 q58) f59 f60 f64) (mo_t ck) sz)) (va_Qi (fun (r : Int32) (_ : Unit) => r = (sp_EM_lets x16 x46 f3 q4 q5 q6 q7 f8 q9 q10 f11 m12_0 m12_1 m13_0 m13_1 m14_0 m14_1 m15_0 m15_1 f34 f35 q38 f39 f40 f41 m42_1 f43 f44 f47 f48 p0 p1 p2 p3).1) (fun _ t => ∃ (z11 : Nat → Int32) (z34 : Nat → Int32) (z35 : Nat → Int32) (z38 : Nat → Nat) (z39 : Nat → Int32) (z40 : Nat → Int32) (z41 : Nat → Int32) (z43 : Nat → Int32) (z44 : Nat → Int32) (z47 : Nat → Int32) (z48 : Nat → Int32) (z42_1 : Nat) (z0 : Int32) (z46 : Nat), pu_E (dC, dI) (mo_w ad ck z0 (nI x16) (nI x18) (nI x19) x20 (nI x21) (nI x22) x23 x24 x25 (nI x26) x27 (nI x28) (nI x29) (nI x30) (nI x33) x45 (nI z46) (nI x52) (nI x53) (nI x61) (nI x62) (nI x63) (nI x65) x66 f1 f2 f3 (bN 3 q4) (bN 7 q5) (bN 7 q6) (bN 4 q7) f8 (bN 2 q9) (bH q10) z11 (b2 m12_0 m12_1) (b2 m13_0 m13_1) (b2 m14_0 m14_1) (b2m m15_0 m15_1) f17 (bA 159 q31) f32 z34 z35 f36 f37 (bN 7 z38) z39 z40 z41 (b2 m42_0 z42_1) z43 z44 z47 z48 f49 f50 f51 (bN 13 q54) (bN 120 q55) (bN 120 q56) f57 (bN 120 q58) f59 f60 f64) (mo_t ck) (va_A ((mo_w ad ck x0 (nI x16) (nI x18) (nI x19) x20 (nI x21) (nI x22) x23 x24 x25 (nI x26) x27 (nI x28) (nI x29) (nI x30) (nI x33) x45 (nI x46) (nI x52) (nI x53) (nI x61) (nI x62) (nI x63) (nI x65) x66 f1 f2 f3 (bN 3 q4) (bN 7 q5) (bN 7 q6) (bN 4 q7) f8 (bN 2 q9) (bH q10) f11 (b2 m12_0 m12_1) (b2 m13_0 m13_1) (b2 m14_0 m14_1) (b2m m15_0 m15_1) f17 (bA 159 q31) f32 f34 f35 f36 f37 (bN 7 q38) f39 f40 f41 (b2 m42_0 m42_1) f43 f44 f47 f48 f49 f50 f51 (bN 13 q54) (bN 120 q55) (bN 120 q56) f57 (bN 120 q58) f59 f60 f64)) sz) t ∧ (z42_1 ≤ 400) ∧ (z46 ≤ 5) ∧ (gz_ok m42_0 z39 z40 z41) ∧ ((z11, z34, z35, z38, z39, z40, z41, z43, z44, z47, z48, z42_1, z0, z46) = (sp_EM_lets x16 x46 f3 q4 q5 q6 q7 f8 q9 q10 f11 m12_0 m12_1 m13_0 m13_1 m14_0 m14_1 m15_0 m15_1 f34 f35 q38 f39 f40 f41 m42_1 f43 f44 f47 f48 p0 p1 p2 p3).2)) (va_A ((mo_w ad ck x0 (nI x16) (nI x18) (nI x19) x20 (nI x21) (nI x22) x23 x24 x25 (nI x26) x27 (nI x28) (nI x29) (nI x30) (nI x33) x45 (nI x46) (nI x52) (nI x53) (nI x61) (nI x62) (nI x63) (nI x65) x66 f1 f2 f3 (bN 3 q4) (bN 7 q5) (bN 7 q6) (bN 4 q7) f8 (bN 2 q9) (bH q10) f11 (b2 m12_0 m12_1) (b2 m13_0 m13_1) (b2 m14_0 m14_1) (b2m m15_0 m15_1) f17 (bA 159 q31) f32 f34 f35 f36 f37 (bN 7 q38) f39 f40 f41 (b2 m42_0 m42_1) f43 f44 f47 f48 f49 f50 f51 (bN 13 q54) (bN 120 q55) (bN 120 q56) f57 (bN 120 q58) f59 f60 f64)) sz)) 0 0 (va_A ((mo_w ad ck x0 (nI x16) (nI x18) (nI x19) x20 (nI x21) (nI x22) x23 x24 x25 (nI x26) x27 (nI x28) (nI x29) (nI x30) (nI x33) x45 (nI x46) (nI x52) (nI x53) (nI x61) (nI x62) (nI x63) (nI x65) x66 f1 f2 f3 (bN 3 q4) (bN 7 q5) (bN 7 q6) (bN 4 q7) f8 (bN 2 q9) (bH q10) f11 (b2 m12_0 m12_1) (b2 m13_0 m13_1) (b2 m14_0 m14_1) (b2m m15_0 m15_1) f17 (bA 159 q31) f32 f34 f35 f36 f37 (bN 7 q38) f39 f40 f41 (b2 m42_0 m42_1) f43 f44 f47 f48 f49 f50 f51 (bN 13 q54) (bN 120 q55) (bN 120 q56) f57 (bN 120 q58) f59 f60 f64)) sz) := by
  refine Met.ofW (cc := cX9_lets) (maxL := 9) (ret := (some .int)) (by decide) rfl ?_
  intro p e s m args below meth c s₁ B hml hv
  obtain ⟨rfl, rfl, hP, hK, hD0⟩ := hv
  have hx := B.exec
  have hb := B.bytes
  have hr := B.returns
  have hts := atoms_spec (ws := vs_EM_lets) B.pre
  have v_1 := hts (.fieldLink RX9 142 "ClockReachModel" "thrown" "I") (List.mem_cons_of_mem _ vm_5)
  have v_18 := hts (.fieldLink RX9 40 "ClockReachModel" "limit" "[I") (List.mem_cons_of_mem _ vm_100)
  have v_23 := hts (.fieldLink RX9 328 "ClockReachModel" "side" "I") (List.mem_cons_of_mem _ vm_196)
  have v_28 := hts (.fieldLink RX9 52 "ClockReachModel" "begins" "[I") (List.mem_cons_of_mem _ vm_126)
  have v_29 := hts (.fieldLink RX9 258 "ClockReachModel" "bank" "I") (List.mem_cons_of_mem _ vm_4)
  have hown : s.vm.findClass RX9 = some m.cls := findClass_of_methodNamed B.named
  have hlocks := B.notSynchronized
  have hiX9 : ∀ w ∈ wsX90, w ∈ vs_EM_lets := fun _ h => List.mem_cons_of_mem _ (vmi_L h)
  have hD := hD0.self (sz := s.heap.size)
  generalize hAe : va_A ((mo_w ad ck x0 (nI x16) (nI x18) (nI x19) x20 (nI x21) (nI x22) x23 x24 x25 (nI x26) x27 (nI x28) (nI x29) (nI x30) (nI x33) x45 (nI x46) (nI x52) (nI x53) (nI x61) (nI x62) (nI x63) (nI x65) x66 f1 f2 f3 (bN 3 q4) (bN 7 q5) (bN 7 q6) (bN 4 q7) f8 (bN 2 q9) (bH q10) f11 (b2 m12_0 m12_1) (b2 m13_0 m13_1) (b2 m14_0 m14_1) (b2m m15_0 m15_1) f17 (bA 159 q31) f32 f34 f35 f36 f37 (bN 7 q38) f39 f40 f41 (b2 m42_0 m42_1) f43 f44 f47 f48 f49 f50 f51 (bN 13 q54) (bN 120 q55) (bN 120 q56) f57 (bN 120 q58) f59 f60 f64)) s.heap.size = A at hD ⊢
  have hA : ∀ q : Nat, s.heap.size ≤ q → A q := fun q h => by rw [← hAe]; exact Or.inr h
  have hS : va_S A s.heap s.heap [] := va_S.rf
  have hl := lv_entry ([.ref (ad 0), .int p0, .int p1, .int p2, .int p3]) (n := 9) (Nat.le_of_ble_eq_true rfl)
  rw [lg_entry_eq]
  generalize (lg_sl ([.ref (ad 0), .int p0, .int p1, .int p2, .int p3]) ++ List.replicate (9 - (lg_sl ([.ref (ad 0), .int p0, .int p1, .int p2, .int p3])).length) Slot.unset).toArray = ls at hl ⊢
  have hl : lv_has ls 9 [(0, .ref (ad 0)), (1, .int p0), (2, .int p1), (3, .int p2), (4, .int p3)] := hl
  obtain ⟨RR, hRR⟩ : ∃ x, x = (sp_EM_lets x16 x46 f3 q4 q5 q6 q7 f8 q9 q10 f11 m12_0 m12_1 m13_0 m13_1 m14_0 m14_1 m15_0 m15_1 f34 f35 q38 f39 f40 f41 m42_1 f43 f44 f47 f48 p0 p1 p2 p3) := ⟨_, rfl⟩
  have hsp := hRR
  refine lv_aload_n hx hb dX9_lets_0 rfl (lv_at hl 0 rfl) ?_
  refine lv_iconst (v := 0) hx hb dX9_lets_1 (by decide) ?_
  refine va_put (D := (dC, dI)) (ci := 9) (v := .int 0) (ty := .int) (C := RX9) (T := TX9) (N := 67) hx hb hts hiX9 tyX9 tyX9_ok nmX9 hown hK hP hD hS 0 rfl rfl 0 (by decide) v_1 (fun _ h9 => h9) rfl (by decide +kernel) rfl rfl (Nat.le_of_ble_eq_true rfl) dX9_lets_2 (fun H locs hP hD hS => ?_)
  have hP : va_P (dC, dI) vwCl (mo_w ad ck 0 (nI x16) (nI x18) (nI x19) x20 (nI x21) (nI x22) x23 x24 x25 (nI x26) x27 (nI x28) (nI x29) (nI x30) (nI x33) x45 (nI x46) (nI x52) (nI x53) (nI x61) (nI x62) (nI x63) (nI x65) x66 f1 f2 f3 (bN 3 q4) (bN 7 q5) (bN 7 q6) (bN 4 q7) f8 (bN 2 q9) (bH q10) f11 (b2 m12_0 m12_1) (b2 m13_0 m13_1) (b2 m14_0 m14_1) (b2m m15_0 m15_1) f17 (bA 159 q31) f32 f34 f35 f36 f37 (bN 7 q38) f39 f40 f41 (b2 m42_0 m42_1) f43 f44 f47 f48 f49 f50 f51 (bN 13 q54) (bN 120 q55) (bN 120 q56) f57 (bN 120 q58) f59 f60 f64) H := hP
  have hD : va_D A (mo_w ad ck 0 (nI x16) (nI x18) (nI x19) x20 (nI x21) (nI x22) x23 x24 x25 (nI x26) x27 (nI x28) (nI x29) (nI x30) (nI x33) x45 (nI x46) (nI x52) (nI x53) (nI x61) (nI x62) (nI x63) (nI x65) x66 f1 f2 f3 (bN 3 q4) (bN 7 q5) (bN 7 q6) (bN 4 q7) f8 (bN 2 q9) (bH q10) f11 (b2 m12_0 m12_1) (b2 m13_0 m13_1) (b2 m14_0 m14_1) (b2m m15_0 m15_1) f17 (bA 159 q31) f32 f34 f35 f36 f37 (bN 7 q38) f39 f40 f41 (b2 m42_0 m42_1) f43 f44 f47 f48 f49 f50 f51 (bN 13 q54) (bN 120 q55) (bN 120 q56) f57 (bN 120 q58) f59 f60 f64) := hD
  refine lv_aload_n hx hb dX9_lets_5 rfl (lv_at hl 0 rfl) ?_
  refine lv_iload_n hx hb dX9_lets_6 rfl (lv_at hl 1 rfl) ?_
  refine lv_iload_n hx hb dX9_lets_7 rfl (lv_at hl 2 rfl) ?_
  refine va_calli (va_runV (As := [.int p0, .int p1]) (rest := []) ⟨hx, hb, hml, hown, hts⟩ (c_EM_isCondition l dC dI _ ad ck 0 x16 x18 x19 x20 x21 x22 x23 x24 x25 x26 x27 x28 x29 x30 x33 x45 x46 x52 x53 x61 x62 x63 x65 x66 f1 f2 f3 q4 q5 q6 q7 f8 q9 q10 f11 m12_0 m12_1 m13_0 m13_1 m14_0 m14_1 m15_0 m15_1 f17 q31 f32 f34 f35 f36 f37 q38 f39 f40 f41 m42_0 m42_1 f43 f44 f47 f48 f49 f50 f51 q54 q55 q56 f57 q58 f59 f60 f64 p0 p1 hx16 hx18 hx19 hx21 hx22 hx26 hx28 hx29 hx30 hx33 hx46 hx52 hx53 hx61 hx62 hx63 hx65 hm12_0 hm12_1 hm13_0 hm13_1 hm14_0 hm14_1 hm15_0 hm15_1 hm42_0 hm42_1) (cwV 2 hts g_EM_lets_EM_isCondition rfl rfl rfl (by decide +kernel) ⟨Nat.le_of_ble_eq_true rfl, Nat.le_of_ble_eq_true rfl⟩) ⟨pu_bl, va_recv hK hP (ci := 9) (q0 := 0) rfl rfl, pu_in hP hK hD⟩ rfl rfl hl.1 rfl (lv_room (Nat.le_of_ble_eq_true rfl)) dX9_lets_8 ⟨Nat.le_of_ble_eq_true rfl, Nat.le_of_ble_eq_true rfl⟩) hS (fun q _ h => pu_fr hS hA q h) (pu_fr hS hA) (fun r_1 u t H1 locs ht hvm hw hB hz1 hk1 hS => ?_)
  have hP := pu_keep hP hk1
  clear hk1 hz1 ht hvm
  generalize H1 = H at hP hS ⊢
  obtain ⟨u_2, hu_2, rfl, ju_2, iu_2⟩ := hw
  replace hsp := hsp.trans (slet_eq iu_2)
  rcases ju_2 with ⟨rfl, ⟨n_3, n_4, hn_3, hn_4, rfl, rfl⟩ | ⟨n_3, n_4, hn_3, hn_4, rfl, rfl⟩⟩ | rfl
  · replace hsp := hsp.trans (if_pos rfl)
    replace hsp := hsp.trans (if_pos (nI_lt (a := n_3) (b := 100) (by omega) (by decide)))
    replace hsp := hsp.trans (slet_eq (nI_cl (n := n_3) (by omega)))
    replace hsp := hsp.trans (slet_eq (nI_cl (n := n_4) (by omega)))
    refine lv_if_eq (tgt := 32) hx hb dX9_lets_11 (by decide) (fun z => absurd z (by decide)) (fun _ => ?_)
    refine lv_aload_n hx hb dX9_lets_14 rfl (lv_at hl 0 rfl) ?_
    refine lv_iload_n hx hb dX9_lets_15 rfl (lv_at hl 3 rfl) ?_
    refine va_calli (va_runV (As := [.int p2]) (rest := []) ⟨hx, hb, hml, hown, hts⟩ (c_EM_isPlace l dC dI _ ad ck 0 x16 x18 x19 x20 x21 x22 x23 x24 x25 x26 x27 x28 x29 x30 x33 x45 x46 x52 x53 x61 x62 x63 x65 x66 f1 f2 f3 q4 q5 q6 q7 f8 q9 q10 f11 m12_0 m12_1 m13_0 m13_1 m14_0 m14_1 m15_0 m15_1 f17 q31 f32 f34 f35 f36 f37 q38 f39 f40 f41 m42_0 m42_1 f43 f44 f47 f48 f49 f50 f51 q54 q55 q56 f57 q58 f59 f60 f64 p2 hx16 hx18 hx19 hx21 hx22 hx26 hx28 hx29 hx30 hx33 hx46 hx52 hx53 hx61 hx62 hx63 hx65 hm12_0 hm12_1 hm13_0 hm13_1 hm14_0 hm14_1 hm15_0 hm15_1 hm42_0 hm42_1) (cwV 1 hts g_EM_lets_EM_isPlace rfl rfl rfl (by decide +kernel) ⟨Nat.le_of_ble_eq_true rfl, Nat.le_of_ble_eq_true rfl⟩) ⟨pu_bl, va_recv hK hP (ci := 9) (q0 := 0) rfl rfl, pu_in hP hK hD⟩ rfl rfl hl.1 rfl (lv_room (Nat.le_of_ble_eq_true rfl)) dX9_lets_16 ⟨Nat.le_of_ble_eq_true rfl, Nat.le_of_ble_eq_true rfl⟩) hS (fun q _ h => pu_fr hS hA q h) (pu_fr hS hA) (fun r_5 u t H1 locs ht hvm hw hB hz1 hk1 hS => ?_)
    have hP := pu_keep hP hk1
    clear hk1 hz1 ht hvm
    generalize H1 = H at hP hS ⊢
    rcases hw with ⟨rfl, hw⟩ | ⟨rfl, hn⟩
    · obtain ⟨n_6, hn_6, en_6⟩ := hw
      replace hsp := hsp.trans (if_pos (in_c hn_6 ⟨by omega, by omega⟩ en_6))
      subst en_6
      replace hsp := hsp.trans (slet_eq (nI_cl (n := n_6) (by omega)))
      refine lv_if_eq (tgt := 32) hx hb dX9_lets_19 (by decide) (fun z => absurd z (by decide)) (fun _ => ?_)
      refine lv_iload hx hb dX9_lets_22 (lv_at hl 4 rfl) ?_
      refine lv_iconst (v := 0) hx hb dX9_lets_24 (by decide) ?_
      refine lv_iconst (v := 1) hx hb dX9_lets_25 (by decide) ?_
      refine va_calli (va_runS (As := [.int p3, .int 0, .int 1]) (rest := []) ⟨hx, hb, hml, hown, hts⟩ (c_X9_in l dC dI _ p3 0 1) (va_cwS 3 hts g_EM_lets_X9_in rfl rfl rfl (by decide +kernel) ⟨Nat.le_of_ble_eq_true rfl, Nat.le_of_ble_eq_true rfl⟩) ⟨pu_bl, pu_in (hP.sub [] rfl) (hK.sub [] rfl) (hD.sub [] (by decide) rfl)⟩ rfl rfl hl.1 rfl (lv_room (Nat.le_of_ble_eq_true rfl)) dX9_lets_26 ⟨Nat.le_of_ble_eq_true rfl, Nat.le_of_ble_eq_true rfl⟩) hS (fun q _ h => pu_fr hS hA q h) (pu_fr hS hA) (fun r_7 u t H1 locs ht hvm hw hB hz1 hk1 hS => ?_)
      have hP := pu_keep hP hk1
      clear hk1 hz1 ht hvm
      generalize H1 = H at hP hS ⊢
      rcases hw with ⟨rfl, hi1, hi2⟩ | ⟨rfl, hi3⟩
      · replace hsp := hsp.trans (if_pos ⟨hi1, hi2⟩)
        obtain ⟨n_8, hn_8, rfl⟩ := pu_in0 (n := 1) (by omega) hi1 hi2
        replace hsp := hsp.trans (slet_eq (nI_cl (n := n_8) (by omega)))
        refine lv_if_ne (tgt := 34) hx hb dX9_lets_29 (by decide) (fun _ => ?_) (fun z => absurd z (by decide))
        refine lv_aload_n hx hb dX9_lets_34 rfl (lv_at hl 0 rfl) ?_
        refine lv_iload_n hx hb dX9_lets_35 rfl (lv_at hl 1 rfl) ?_
        refine lv_iload_n hx hb dX9_lets_36 rfl (lv_at hl 2 rfl) ?_
        refine va_calli (va_runV (As := [.int (nI n_3), .int (nI n_4)]) (rest := []) ⟨hx, hb, hml, hown, hts⟩ (c_EM_spot_e l dC dI _ ad ck 0 x16 x18 x19 x20 x21 x22 x23 x24 x25 x26 x27 x28 x29 x30 x33 x45 x46 x52 x53 x61 x62 x63 x65 x66 f1 f2 f3 q4 q5 q6 q7 f8 q9 q10 f11 m12_0 m12_1 m13_0 m13_1 m14_0 m14_1 m15_0 m15_1 f17 q31 f32 f34 f35 f36 f37 q38 f39 f40 f41 m42_0 m42_1 f43 f44 f47 f48 f49 f50 f51 q54 q55 q56 f57 q58 f59 f60 f64 n_3 n_4 hx16 hx18 hx19 hx21 hx22 hx26 hx28 hx29 hx30 hx33 hx46 hx52 hx53 hx61 hx62 hx63 hx65 hm12_0 hm12_1 hm13_0 hm13_1 hm14_0 hm14_1 hm15_0 hm15_1 hm42_0 hm42_1 (by omega) (by omega)) (cwV 2 hts g_EM_lets_EM_spot_e rfl rfl rfl (by decide +kernel) ⟨Nat.le_of_ble_eq_true rfl, Nat.le_of_ble_eq_true rfl⟩) ⟨pu_bl, va_recv hK hP (ci := 9) (q0 := 0) rfl rfl, pu_in hP hK hD⟩ rfl rfl hl.1 rfl (lv_room (Nat.le_of_ble_eq_true rfl)) dX9_lets_37 ⟨Nat.le_of_ble_eq_true rfl, Nat.le_of_ble_eq_true rfl⟩) hS (fun q _ h => pu_fr hS hA q h) (pu_fr hS hA) (fun r_9 u t H1 locs ht hvm hw hB hz1 hk1 hS => ?_)
        have hP := pu_keep hP hk1
        clear hk1 hz1 ht hvm
        generalize H1 = H at hP hS ⊢
        obtain rfl : r_9 = nI (80 * x16 + 4 * n_3 + n_4) := hw
        refine lv_istore (lv' := [(5, .int (nI (80 * x16 + 4 * n_3 + n_4))), (0, .ref (ad 0)), (1, .int (nI n_3)), (2, .int (nI n_4)), (3, .int (nI n_6)), (4, .int (nI n_8))]) hx hb dX9_lets_40 hl (by decide) rfl (fun ls hl => ?_)
        refine lv_aload_n hx hb dX9_lets_42 rfl (lv_at hl 1 rfl) ?_
        refine va_get (D := (dC, dI)) (ci := 9) (v := .ref (ad 11)) (C := RX9) (T := TX9) (N := 67) hx hb hts hiX9 hown hK hP 0 rfl rfl 11 (by decide) v_18 (fun _ h9 => h9) rfl dX9_lets_43 ?_
        refine lv_iload hx hb dX9_lets_46 (lv_at hl 0 rfl) ?_
        refine va_iald hx hb hK hP 11 10 rfl rfl (vp_in_nI (n := (80 * x16 + 4 * n_3 + n_4)) (by omega) (Nat.le_of_ble_eq_true rfl)) dX9_lets_48 ?_
        refine lv_topi (fun y_10 ey_10 => ?_)
        have ey_10 : y_10 = f11 (80 * x16 + 4 * n_3 + n_4) := ey_10.trans (congrArg f11 (nI_clamp (n := (80 * x16 + 4 * n_3 + n_4)) (by first | omega | exact Nat.lt_trans (sp_ix (by omega) (by omega) (by omega)) (by decide : 14641 < 2 ^ 31) | exact Nat.lt_trans (sp_ix0 (by omega) (by omega)) (by decide : 14641 < 2 ^ 31) | exact Nat.lt_trans (zx16 (by omega) (by omega) (by omega)) (Nat.le_of_ble_eq_true rfl) | exact Nat.lt_trans (zy16 (by omega) (by omega)) (Nat.le_of_ble_eq_true rfl) | exact Nat.lt_trans (zx25 (by omega) (by omega) (by omega)) (Nat.le_of_ble_eq_true rfl) | exact Nat.lt_trans (zy25 (by omega) (by omega)) (Nat.le_of_ble_eq_true rfl))))
        replace hsp := hsp.trans (slet_eq ey_10)
        refine lv_istore (lv' := [(6, .int y_10), (5, .int (nI (80 * x16 + 4 * n_3 + n_4))), (0, .ref (ad 0)), (1, .int (nI n_3)), (2, .int (nI n_4)), (3, .int (nI n_6)), (4, .int (nI n_8))]) hx hb dX9_lets_49 hl (by decide) rfl (fun ls hl => ?_)
        refine lv_bipush (v := (-2)) hx hb dX9_lets_51 (by decide) ?_
        refine lv_istore (lv' := [(7, .int (-2)), (6, .int y_10), (5, .int (nI (80 * x16 + 4 * n_3 + n_4))), (0, .ref (ad 0)), (1, .int (nI n_3)), (2, .int (nI n_4)), (3, .int (nI n_6)), (4, .int (nI n_8))]) hx hb dX9_lets_53 hl (by decide) rfl (fun ls hl => ?_)
        refine lv_iconst (v := 0) hx hb dX9_lets_55 (by decide) ?_
        refine lv_istore (lv' := [(8, .int 0), (7, .int (-2)), (6, .int y_10), (5, .int (nI (80 * x16 + 4 * n_3 + n_4))), (0, .ref (ad 0)), (1, .int (nI n_3)), (2, .int (nI n_4)), (3, .int (nI n_6)), (4, .int (nI n_8))]) hx hb dX9_lets_56 hl (by decide) rfl (fun ls hl => ?_)
        obtain ⟨JR_28, hJR_28, hsp⟩ := slet_ex hsp
        refine pu_join (fun H locs ls st => ∃ (g_11 : Int32) (g_12 : Nat) (g_13 : Nat) (g_14 : Nat → Int32) (g_15 : Nat → Int32) (g_16 : Nat → Int32) (g_17 : Nat → Nat) (g_18 : Nat → Int32) (g_19 : Nat → Int32) (g_20 : Nat → Int32) (g_21 : Nat) (g_22 : Nat → Int32) (g_23 : Nat → Int32) (g_24 : Nat → Int32) (g_25 : Nat → Int32), st = [] ∧ g_12 ≤ 21 ∧ g_13 ≤ 5 ∧ g_21 ≤ 400 ∧ gz_ok m42_0 g_18 g_19 g_20 ∧ (g_11, g_12, g_13, g_14, g_15, g_16, g_17, g_18, g_19, g_20, g_21, g_22, g_23, g_24, g_25) = JR_28 ∧ va_P (dC, dI) vwCl (mo_w ad ck 0 (nI x16) (nI x18) (nI x19) x20 (nI x21) (nI x22) x23 x24 x25 (nI x26) x27 (nI x28) (nI x29) (nI x30) (nI x33) x45 (nI g_13) (nI x52) (nI x53) (nI x61) (nI x62) (nI x63) (nI x65) x66 f1 f2 f3 (bN 3 q4) (bN 7 q5) (bN 7 q6) (bN 4 q7) f8 (bN 2 q9) (bH q10) g_14 (b2 m12_0 m12_1) (b2 m13_0 m13_1) (b2 m14_0 m14_1) (b2m m15_0 m15_1) f17 (bA 159 q31) f32 g_15 g_16 f36 f37 (bN 7 g_17) g_18 g_19 g_20 (b2 m42_0 g_21) g_22 g_23 g_24 g_25 f49 f50 f51 (bN 13 q54) (bN 120 q55) (bN 120 q56) f57 (bN 120 q58) f59 f60 f64) H ∧ va_D A (mo_w ad ck 0 (nI x16) (nI x18) (nI x19) x20 (nI x21) (nI x22) x23 x24 x25 (nI x26) x27 (nI x28) (nI x29) (nI x30) (nI x33) x45 (nI g_13) (nI x52) (nI x53) (nI x61) (nI x62) (nI x63) (nI x65) x66 f1 f2 f3 (bN 3 q4) (bN 7 q5) (bN 7 q6) (bN 4 q7) f8 (bN 2 q9) (bH q10) g_14 (b2 m12_0 m12_1) (b2 m13_0 m13_1) (b2 m14_0 m14_1) (b2m m15_0 m15_1) f17 (bA 159 q31) f32 g_15 g_16 f36 f37 (bN 7 g_17) g_18 g_19 g_20 (b2 m42_0 g_21) g_22 g_23 g_24 g_25 f49 f50 f51 (bN 13 q54) (bN 120 q55) (bN 120 q56) f57 (bN 120 q58) f59 f60 f64) ∧ va_S A s.heap H locs ∧ lv_has ls 9 [(0, .ref (ad 0)), (1, .int (nI n_3)), (2, .int (nI n_4)), (3, .int (nI n_6)), (4, .int (nI n_8)), (5, .int (nI (80 * x16 + 4 * n_3 + n_4))), (6, .int y_10), (7, .int g_11), (8, .int (nI g_12))]) 157 ?_ (fun j_27 => ?_)
        · rintro H locs ls st ⟨g_11, g_12, g_13, g_14, g_15, g_16, g_17, g_18, g_19, g_20, g_21, g_22, g_23, g_24, g_25, rfl, hg_12, hg_13, hg_21, he_26, he_29, hP, hD, hS, hl⟩
          rw [← he_29] at hsp
          refine lv_aload_n hx hb dX9_lets_157 rfl (lv_at hl 0 rfl) ?_
          refine va_get (D := (dC, dI)) (ci := 9) (v := .ref (ad 11)) (C := RX9) (T := TX9) (N := 67) hx hb hts hiX9 hown hK hP 0 rfl rfl 11 (by decide) v_18 (fun _ h9 => h9) rfl dX9_lets_158 ?_
          refine lv_iload hx hb dX9_lets_161 (lv_at hl 5 rfl) ?_
          refine lv_iload hx hb dX9_lets_163 (lv_at hl 6 rfl) ?_
          refine va_iast hx hb hK hP hD hS 11 10 rfl rfl (vp_in_nI (n := (80 * x16 + 4 * n_3 + n_4)) (by omega) (Nat.le_of_ble_eq_true rfl)) dX9_lets_165 (fun H locs hP hD hS => ?_)
          obtain ⟨f_30, ef_30, xf_30⟩ := up_x g_14 (n := (80 * x16 + 4 * n_3 + n_4)) y_10 (by first | omega | exact Nat.lt_trans (sp_ix (by omega) (by omega) (by omega)) (by decide : 14641 < 2 ^ 31) | exact Nat.lt_trans (sp_ix0 (by omega) (by omega)) (by decide : 14641 < 2 ^ 31) | exact Nat.lt_trans (zx16 (by omega) (by omega) (by omega)) (Nat.le_of_ble_eq_true rfl) | exact Nat.lt_trans (zy16 (by omega) (by omega)) (Nat.le_of_ble_eq_true rfl) | exact Nat.lt_trans (zx25 (by omega) (by omega) (by omega)) (Nat.le_of_ble_eq_true rfl) | exact Nat.lt_trans (zy25 (by omega) (by omega)) (Nat.le_of_ble_eq_true rfl))
          have hP : va_P (dC, dI) vwCl (mo_w ad ck 0 (nI x16) (nI x18) (nI x19) x20 (nI x21) (nI x22) x23 x24 x25 (nI x26) x27 (nI x28) (nI x29) (nI x30) (nI x33) x45 (nI g_13) (nI x52) (nI x53) (nI x61) (nI x62) (nI x63) (nI x65) x66 f1 f2 f3 (bN 3 q4) (bN 7 q5) (bN 7 q6) (bN 4 q7) f8 (bN 2 q9) (bH q10) f_30 (b2 m12_0 m12_1) (b2 m13_0 m13_1) (b2 m14_0 m14_1) (b2m m15_0 m15_1) f17 (bA 159 q31) f32 g_15 g_16 f36 f37 (bN 7 g_17) g_18 g_19 g_20 (b2 m42_0 g_21) g_22 g_23 g_24 g_25 f49 f50 f51 (bN 13 q54) (bN 120 q55) (bN 120 q56) f57 (bN 120 q58) f59 f60 f64) H := by rw [← ef_30]; exact hP
          have hD : va_D A (mo_w ad ck 0 (nI x16) (nI x18) (nI x19) x20 (nI x21) (nI x22) x23 x24 x25 (nI x26) x27 (nI x28) (nI x29) (nI x30) (nI x33) x45 (nI g_13) (nI x52) (nI x53) (nI x61) (nI x62) (nI x63) (nI x65) x66 f1 f2 f3 (bN 3 q4) (bN 7 q5) (bN 7 q6) (bN 4 q7) f8 (bN 2 q9) (bH q10) f_30 (b2 m12_0 m12_1) (b2 m13_0 m13_1) (b2 m14_0 m14_1) (b2m m15_0 m15_1) f17 (bA 159 q31) f32 g_15 g_16 f36 f37 (bN 7 g_17) g_18 g_19 g_20 (b2 m42_0 g_21) g_22 g_23 g_24 g_25 f49 f50 f51 (bN 13 q54) (bN 120 q55) (bN 120 q56) f57 (bN 120 q58) f59 f60 f64) := by rw [← ef_30]; exact hD
          replace hsp := hsp.trans (slet_eq xf_30)
          refine lv_iload hx hb dX9_lets_166 (lv_at hl 7 rfl) ?_
          exact W.iret (v := g_11) hx hb hr (fun t ht hW => ⟨⟨g_11, (), rfl, (congrArg Prod.fst (hsp.symm.trans hRR)), ⟨f_30, g_15, g_16, g_17, g_18, g_19, g_20, g_22, g_23, g_24, g_25, g_21, 0, g_13, ⟨by rw [ht]; exact hP, va_K.moved hW.alike hK, hD⟩, hg_21, hg_13, by first | assumption | exact gz_0, (congrArg Prod.snd (hsp.symm.trans hRR))⟩⟩, hS.F ht⟩) hS.2.2 dX9_lets_168
        have hsp := hJR_28
        obtain ⟨lf_64, dlf_64, hlf_64, hsp⟩ := itr_ex hsp
        delta sp_EM_lets_L1 at hlf_64
        refine pu_while (fun nn H locs ls => ∃ (g_47 : Nat → Int32) (g_48 : Nat → Int32) (g_49 : Nat → Int32) (g_50 : Nat → Nat) (g_51 : Nat → Int32) (g_52 : Nat → Int32) (g_53 : Nat → Int32) (g_54 : Nat → Int32) (g_55 : Nat → Int32) (g_56 : Nat → Int32) (g_57 : Nat → Int32) (g_58 : Nat) (g_59 : Nat) (g_60 : Int32) (g_61 : Nat), nn = 21 - g_61 ∧ g_58 ≤ 400 ∧ g_59 ≤ 5 ∧ g_61 ≤ 21 ∧ gz_ok m42_0 g_51 g_52 g_53 ∧ JR_28 = itrv dlf_64 lf_64 (g_47, g_48, g_49, g_50, g_51, g_52, g_53, g_54, g_55, g_56, g_57, g_58, g_59, g_60, g_61) ∧ va_P (dC, dI) vwCl (mo_w ad ck 0 (nI x16) (nI x18) (nI x19) x20 (nI x21) (nI x22) x23 x24 x25 (nI x26) x27 (nI x28) (nI x29) (nI x30) (nI x33) x45 (nI g_59) (nI x52) (nI x53) (nI x61) (nI x62) (nI x63) (nI x65) x66 f1 f2 f3 (bN 3 q4) (bN 7 q5) (bN 7 q6) (bN 4 q7) f8 (bN 2 q9) (bH q10) g_47 (b2 m12_0 m12_1) (b2 m13_0 m13_1) (b2 m14_0 m14_1) (b2m m15_0 m15_1) f17 (bA 159 q31) f32 g_48 g_49 f36 f37 (bN 7 g_50) g_51 g_52 g_53 (b2 m42_0 g_58) g_54 g_55 g_56 g_57 f49 f50 f51 (bN 13 q54) (bN 120 q55) (bN 120 q56) f57 (bN 120 q58) f59 f60 f64) H ∧ va_D A (mo_w ad ck 0 (nI x16) (nI x18) (nI x19) x20 (nI x21) (nI x22) x23 x24 x25 (nI x26) x27 (nI x28) (nI x29) (nI x30) (nI x33) x45 (nI g_59) (nI x52) (nI x53) (nI x61) (nI x62) (nI x63) (nI x65) x66 f1 f2 f3 (bN 3 q4) (bN 7 q5) (bN 7 q6) (bN 4 q7) f8 (bN 2 q9) (bH q10) g_47 (b2 m12_0 m12_1) (b2 m13_0 m13_1) (b2 m14_0 m14_1) (b2m m15_0 m15_1) f17 (bA 159 q31) f32 g_48 g_49 f36 f37 (bN 7 g_50) g_51 g_52 g_53 (b2 m42_0 g_58) g_54 g_55 g_56 g_57 f49 f50 f51 (bN 13 q54) (bN 120 q55) (bN 120 q56) f57 (bN 120 q58) f59 f60 f64) ∧ va_S A s.heap H locs ∧ lv_has ls 9 [(0, .ref (ad 0)), (1, .int (nI n_3)), (2, .int (nI n_4)), (3, .int (nI n_6)), (4, .int (nI n_8)), (5, .int (nI (80 * x16 + 4 * n_3 + n_4))), (6, .int y_10), (7, .int g_60), (8, .int (nI g_61))]) 58 ?_ _ _ _ _ ⟨f11, f34, f35, q38, f39, f40, f41, f43, f44, f47, f48, m42_1, x46, (-2), 0, rfl, hm42_1, hx46, (Nat.le_of_ble_eq_true rfl), by first | assumption | exact gz_0, hsp, hP, hD, hS, lv_sub hl [4, 5, 6, 7, 8, 3, 2, 1, 0] rfl⟩
        rintro nn ih_63 H locs ls ⟨g_47, g_48, g_49, g_50, g_51, g_52, g_53, g_54, g_55, g_56, g_57, g_58, g_59, g_60, g_61, rfl, hg_58, hg_59, hg_61, he_62, he_66, hP, hD, hS, hl⟩
        obtain ⟨S_65, hsp, hin_67, hout_68⟩ := itr_step hlf_64 he_66
        refine lv_iload hx hb dX9_lets_58 (lv_at hl 8 rfl) ?_
        refine lv_bipush (v := 20) hx hb dX9_lets_60 (by decide) ?_
        refine lv_icmp_gt (tgt := 157) hx hb dX9_lets_62 (by decide) (fun c_69 => ?_) (fun c_69 => ?_)
        · have c_69 : 20 < g_61 := (nI_ltI (a := 20) (b := g_61) (Nat.le_of_ble_eq_true rfl) (Nat.lt_of_le_of_lt hg_61 (Nat.le_of_ble_eq_true rfl))).mp c_69
          replace hsp := hsp.trans (if_pos c_69)
          replace hsp := hout_68 _ hsp
          exact j_27 _ _ _ _ ⟨g_60, g_61, g_59, g_47, g_48, g_49, g_50, g_51, g_52, g_53, g_58, g_54, g_55, g_56, g_57, rfl, hg_61, hg_59, hg_58, by first | assumption | exact gz_0, hsp.symm, hP, hD, hS, lv_sub hl [0, 1, 2, 3, 4, 5, 6, 7, 8] rfl⟩
        · have c_69 : ¬ 20 < g_61 := fun z => c_69 ((nI_ltI (a := 20) (b := g_61) (Nat.le_of_ble_eq_true rfl) (Nat.lt_of_le_of_lt hg_61 (Nat.le_of_ble_eq_true rfl))).mpr z)
          replace hsp := hsp.trans (if_neg c_69)
          refine lv_iload hx hb dX9_lets_65 (lv_at hl 7 rfl) ?_
          refine lv_if_ge (tgt := 157) hx hb dX9_lets_67 (by decide) (fun c_70 => ?_) (fun c_70 => ?_)
          · have hcc_70 := c_70
            replace hsp := hsp.trans (if_pos c_70)
            replace hsp := hout_68 _ hsp
            exact j_27 _ _ _ _ ⟨g_60, g_61, g_59, g_47, g_48, g_49, g_50, g_51, g_52, g_53, g_58, g_54, g_55, g_56, g_57, rfl, hg_61, hg_59, hg_58, by first | assumption | exact gz_0, hsp.symm, hP, hD, hS, lv_sub hl [0, 1, 2, 3, 4, 5, 6, 7, 8] rfl⟩
          · have hcc_70 := c_70
            replace hsp := hsp.trans (if_neg c_70)
            refine lv_aload_n hx hb dX9_lets_70 rfl (lv_at hl 0 rfl) ?_
            refine va_get (D := (dC, dI)) (ci := 9) (v := .ref (ad 11)) (C := RX9) (T := TX9) (N := 67) hx hb hts hiX9 hown hK hP 0 rfl rfl 11 (by decide) v_18 (fun _ h9 => h9) rfl dX9_lets_71 ?_
            refine lv_iload hx hb dX9_lets_74 (lv_at hl 5 rfl) ?_
            refine lv_iload hx hb dX9_lets_76 (lv_at hl 4 rfl) ?_
            obtain ⟨JR_74, hJR_74, hsp⟩ := slet_ex hsp
            refine pu_join (fun H locs ls st => ∃ (g_71 : Nat), st = [.int (nI g_71), .int (nI (80 * x16 + 4 * n_3 + n_4)), .ref (ad 11)] ∧ g_71 ≤ 20 ∧ gz_ok m42_0 g_51 g_52 g_53 ∧ g_71 = JR_74 ∧ va_P (dC, dI) vwCl (mo_w ad ck 0 (nI x16) (nI x18) (nI x19) x20 (nI x21) (nI x22) x23 x24 x25 (nI x26) x27 (nI x28) (nI x29) (nI x30) (nI x33) x45 (nI g_59) (nI x52) (nI x53) (nI x61) (nI x62) (nI x63) (nI x65) x66 f1 f2 f3 (bN 3 q4) (bN 7 q5) (bN 7 q6) (bN 4 q7) f8 (bN 2 q9) (bH q10) g_47 (b2 m12_0 m12_1) (b2 m13_0 m13_1) (b2 m14_0 m14_1) (b2m m15_0 m15_1) f17 (bA 159 q31) f32 g_48 g_49 f36 f37 (bN 7 g_50) g_51 g_52 g_53 (b2 m42_0 g_58) g_54 g_55 g_56 g_57 f49 f50 f51 (bN 13 q54) (bN 120 q55) (bN 120 q56) f57 (bN 120 q58) f59 f60 f64) H ∧ va_D A (mo_w ad ck 0 (nI x16) (nI x18) (nI x19) x20 (nI x21) (nI x22) x23 x24 x25 (nI x26) x27 (nI x28) (nI x29) (nI x30) (nI x33) x45 (nI g_59) (nI x52) (nI x53) (nI x61) (nI x62) (nI x63) (nI x65) x66 f1 f2 f3 (bN 3 q4) (bN 7 q5) (bN 7 q6) (bN 4 q7) f8 (bN 2 q9) (bH q10) g_47 (b2 m12_0 m12_1) (b2 m13_0 m13_1) (b2 m14_0 m14_1) (b2m m15_0 m15_1) f17 (bA 159 q31) f32 g_48 g_49 f36 f37 (bN 7 g_50) g_51 g_52 g_53 (b2 m42_0 g_58) g_54 g_55 g_56 g_57 f49 f50 f51 (bN 13 q54) (bN 120 q55) (bN 120 q56) f57 (bN 120 q58) f59 f60 f64) ∧ va_S A s.heap H locs ∧ lv_has ls 9 [(0, .ref (ad 0)), (1, .int (nI n_3)), (2, .int (nI n_4)), (3, .int (nI n_6)), (4, .int (nI n_8)), (5, .int (nI (80 * x16 + 4 * n_3 + n_4))), (6, .int y_10), (7, .int g_60), (8, .int (nI g_61))]) 91 ?_ (fun j_73 => ?_)
            · rintro H locs ls st ⟨g_71, rfl, hg_71, he_72, he_75, hP, hD, hS, hl⟩
              rw [← he_75] at hsp
              refine va_iast hx hb hK hP hD hS 11 10 rfl rfl (vp_in_nI (n := (80 * x16 + 4 * n_3 + n_4)) (by omega) (Nat.le_of_ble_eq_true rfl)) dX9_lets_91 (fun H locs hP hD hS => ?_)
              obtain ⟨f_76, ef_76, xf_76⟩ := up_x g_47 (n := (80 * x16 + 4 * n_3 + n_4)) (nI g_71) (by first | omega | exact Nat.lt_trans (sp_ix (by omega) (by omega) (by omega)) (by decide : 14641 < 2 ^ 31) | exact Nat.lt_trans (sp_ix0 (by omega) (by omega)) (by decide : 14641 < 2 ^ 31) | exact Nat.lt_trans (zx16 (by omega) (by omega) (by omega)) (Nat.le_of_ble_eq_true rfl) | exact Nat.lt_trans (zy16 (by omega) (by omega)) (Nat.le_of_ble_eq_true rfl) | exact Nat.lt_trans (zx25 (by omega) (by omega) (by omega)) (Nat.le_of_ble_eq_true rfl) | exact Nat.lt_trans (zy25 (by omega) (by omega)) (Nat.le_of_ble_eq_true rfl))
              have hP : va_P (dC, dI) vwCl (mo_w ad ck 0 (nI x16) (nI x18) (nI x19) x20 (nI x21) (nI x22) x23 x24 x25 (nI x26) x27 (nI x28) (nI x29) (nI x30) (nI x33) x45 (nI g_59) (nI x52) (nI x53) (nI x61) (nI x62) (nI x63) (nI x65) x66 f1 f2 f3 (bN 3 q4) (bN 7 q5) (bN 7 q6) (bN 4 q7) f8 (bN 2 q9) (bH q10) f_76 (b2 m12_0 m12_1) (b2 m13_0 m13_1) (b2 m14_0 m14_1) (b2m m15_0 m15_1) f17 (bA 159 q31) f32 g_48 g_49 f36 f37 (bN 7 g_50) g_51 g_52 g_53 (b2 m42_0 g_58) g_54 g_55 g_56 g_57 f49 f50 f51 (bN 13 q54) (bN 120 q55) (bN 120 q56) f57 (bN 120 q58) f59 f60 f64) H := by rw [← ef_76]; exact hP
              have hD : va_D A (mo_w ad ck 0 (nI x16) (nI x18) (nI x19) x20 (nI x21) (nI x22) x23 x24 x25 (nI x26) x27 (nI x28) (nI x29) (nI x30) (nI x33) x45 (nI g_59) (nI x52) (nI x53) (nI x61) (nI x62) (nI x63) (nI x65) x66 f1 f2 f3 (bN 3 q4) (bN 7 q5) (bN 7 q6) (bN 4 q7) f8 (bN 2 q9) (bH q10) f_76 (b2 m12_0 m12_1) (b2 m13_0 m13_1) (b2 m14_0 m14_1) (b2m m15_0 m15_1) f17 (bA 159 q31) f32 g_48 g_49 f36 f37 (bN 7 g_50) g_51 g_52 g_53 (b2 m42_0 g_58) g_54 g_55 g_56 g_57 f49 f50 f51 (bN 13 q54) (bN 120 q55) (bN 120 q56) f57 (bN 120 q58) f59 f60 f64) := by rw [← ef_76]; exact hD
              replace hsp := hsp.trans (slet_eq xf_76)
              refine lv_aload_n hx hb dX9_lets_92 rfl (lv_at hl 0 rfl) ?_
              refine lv_aload_n hx hb dX9_lets_93 rfl (lv_at hl 0 rfl) ?_
              refine va_calli (va_runV (As := []) (rest := [.ref (ad 0)]) ⟨hx, hb, hml, hown, hts⟩ (c_EM_clocks l dC dI _ ad ck 0 x16 x18 x19 x20 x21 x22 x23 x24 x25 x26 x27 x28 x29 x30 x33 x45 g_59 x52 x53 x61 x62 x63 x65 x66 f1 f2 f3 q4 q5 q6 q7 f8 q9 q10 f_76 m12_0 m12_1 m13_0 m13_1 m14_0 m14_1 m15_0 m15_1 f17 q31 f32 g_48 g_49 f36 f37 g_50 g_51 g_52 g_53 m42_0 g_58 g_54 g_55 g_56 g_57 f49 f50 f51 q54 q55 q56 f57 q58 f59 f60 f64 hx16 hx18 hx19 hx21 hx22 hx26 hx28 hx29 hx30 hx33 hg_59 hx52 hx53 hx61 hx62 hx63 hx65 hm12_0 hm12_1 hm13_0 hm13_1 hm14_0 hm14_1 hm15_0 hm15_1 hm42_0 hg_58) (cwV 0 hts g_EM_lets_EM_clocks rfl rfl rfl (by decide +kernel) ⟨Nat.le_of_ble_eq_true rfl, Nat.le_of_ble_eq_true rfl⟩) ⟨pu_bl, va_recv hK hP (ci := 9) (q0 := 0) rfl rfl, pu_in hP hK hD⟩ rfl rfl hl.1 rfl (lv_room (Nat.le_of_ble_eq_true rfl)) dX9_lets_94 ⟨Nat.le_of_ble_eq_true rfl, Nat.le_of_ble_eq_true rfl⟩) hS (fun q _ h => pu_fr hS hA q h) (pu_fr hS hA) (fun r_77 u t H1 locs ht hvm hw hB hz1 hk1 hS => ?_)
              have hP := pu_keep hP hk1
              clear hk1 hz1 ht hvm
              generalize H1 = H at hP hS ⊢
              obtain ⟨u_78, hu_78, rfl, iu_78⟩ := hw
              replace hsp := hsp.trans (slet_eq iu_78)
              refine lv_iconst (v := 1) hx hb dX9_lets_97 (by decide) ?_
              refine lv_iadd hx hb dX9_lets_98 ?_
              refine lv_topi (fun y_79 ey_79 => ?_)
              obtain rfl : y_79 = (nI (u_78 + 1)) := ey_79.trans (nI_add u_78 1)
              refine va_put (D := (dC, dI)) (ci := 9) (v := .int (nI (u_78 + 1))) (ty := .int) (C := RX9) (T := TX9) (N := 67) hx hb hts hiX9 tyX9 tyX9_ok nmX9 hown hK hP hD hS 0 rfl rfl 46 (by decide) v_23 (fun _ h9 => h9) rfl (by decide +kernel) rfl rfl (Nat.le_of_ble_eq_true rfl) dX9_lets_99 (fun H locs hP hD hS => ?_)
              have hP : va_P (dC, dI) vwCl (mo_w ad ck 0 (nI x16) (nI x18) (nI x19) x20 (nI x21) (nI x22) x23 x24 x25 (nI x26) x27 (nI x28) (nI x29) (nI x30) (nI x33) x45 (nI (u_78 + 1)) (nI x52) (nI x53) (nI x61) (nI x62) (nI x63) (nI x65) x66 f1 f2 f3 (bN 3 q4) (bN 7 q5) (bN 7 q6) (bN 4 q7) f8 (bN 2 q9) (bH q10) f_76 (b2 m12_0 m12_1) (b2 m13_0 m13_1) (b2 m14_0 m14_1) (b2m m15_0 m15_1) f17 (bA 159 q31) f32 g_48 g_49 f36 f37 (bN 7 g_50) g_51 g_52 g_53 (b2 m42_0 g_58) g_54 g_55 g_56 g_57 f49 f50 f51 (bN 13 q54) (bN 120 q55) (bN 120 q56) f57 (bN 120 q58) f59 f60 f64) H := hP
              have hD : va_D A (mo_w ad ck 0 (nI x16) (nI x18) (nI x19) x20 (nI x21) (nI x22) x23 x24 x25 (nI x26) x27 (nI x28) (nI x29) (nI x30) (nI x33) x45 (nI (u_78 + 1)) (nI x52) (nI x53) (nI x61) (nI x62) (nI x63) (nI x65) x66 f1 f2 f3 (bN 3 q4) (bN 7 q5) (bN 7 q6) (bN 4 q7) f8 (bN 2 q9) (bH q10) f_76 (b2 m12_0 m12_1) (b2 m13_0 m13_1) (b2 m14_0 m14_1) (b2m m15_0 m15_1) f17 (bA 159 q31) f32 g_48 g_49 f36 f37 (bN 7 g_50) g_51 g_52 g_53 (b2 m42_0 g_58) g_54 g_55 g_56 g_57 f49 f50 f51 (bN 13 q54) (bN 120 q55) (bN 120 q56) f57 (bN 120 q58) f59 f60 f64) := hD
              refine lv_aload_n hx hb dX9_lets_102 rfl (lv_at hl 0 rfl) ?_
              refine lv_iconst (v := 0) hx hb dX9_lets_103 (by decide) ?_
              refine lv_iconst (v := 0) hx hb dX9_lets_104 (by decide) ?_
              refine lv_iconst (v := 0) hx hb dX9_lets_105 (by decide) ?_
              have hFc := pu_free hD hS hA
              refine va_callv (va_runV (As := [.int 0, .int 0, .int 0]) (rest := []) ⟨hx, hb, hml, hown, hts⟩ (c_EM_layPoint l dC dI _ ad ck 0 x16 x18 x19 x20 x21 x22 x23 x24 x25 x26 x27 x28 x29 x30 x33 x45 (u_78 + 1) x52 x53 x61 x62 x63 x65 x66 f1 f2 f3 q4 q5 q6 q7 f8 q9 q10 f_76 m12_0 m12_1 m13_0 m13_1 m14_0 m14_1 m15_0 m15_1 f17 q31 f32 g_48 g_49 f36 f37 g_50 g_51 g_52 g_53 m42_0 g_58 g_54 g_55 g_56 g_57 f49 f50 f51 q54 q55 q56 f57 q58 f59 f60 f64 0 0 0 hx16 hx18 hx19 hx21 hx22 hx26 hx28 hx29 hx30 hx33 (by omega) hx52 hx53 hx61 hx62 hx63 hx65 hm12_0 hm12_1 hm13_0 hm13_1 hm14_0 hm14_1 hm15_0 hm15_1 hm42_0 hg_58) (cwV 3 hts g_EM_lets_EM_layPoint rfl rfl rfl (by decide +kernel) ⟨Nat.le_of_ble_eq_true rfl, Nat.le_of_ble_eq_true rfl⟩) ⟨pu_bl, va_recv hK hP (ci := 9) (q0 := 0) rfl rfl, pu_in hP hK hD⟩ rfl rfl hl.1 rfl (lv_room (Nat.le_of_ble_eq_true rfl)) dX9_lets_106 ⟨Nat.le_of_ble_eq_true rfl, Nat.le_of_ble_eq_true rfl⟩) hS (fun q _ h => hFc q h) hFc (fun u t H1 locs ht hvm hw hB hz1 hk1 hS => ?_)
              obtain ⟨z35_81, ⟨hP1, -, hD1⟩, xr_80_0⟩ := hB
              rw [ht] at hP1
              have hP := hP1
              have hD := pu_all hFc hD1
              clear hP1 hD1 hFc
              clear hk1 hz1 ht hvm
              generalize H1 = H at hP hS ⊢
              replace hsp := hsp.trans (slet_eq xr_80_0)
              refine lv_aload_n hx hb dX9_lets_109 rfl (lv_at hl 0 rfl) ?_
              refine lv_iconst (v := 1) hx hb dX9_lets_110 (by decide) ?_
              refine lv_aload_n hx hb dX9_lets_111 rfl (lv_at hl 0 rfl) ?_
              refine va_get (D := (dC, dI)) (ci := 9) (v := .ref (ad 15)) (C := RX9) (T := TX9) (N := 67) hx hb hts hiX9 hown hK hP 0 rfl rfl 15 (by decide) v_28 (fun _ h9 => h9) rfl dX9_lets_112 ?_
              refine lv_aload_n hx hb dX9_lets_115 rfl (lv_at hl 0 rfl) ?_
              refine va_get (D := (dC, dI)) (ci := 9) (v := .int (nI x16)) (C := RX9) (T := TX9) (N := 67) hx hb hts hiX9 hown hK hP 0 rfl rfl 16 (by decide) v_29 (fun _ h9 => h9) rfl dX9_lets_116 ?_
              refine va_iald hx hb hK hP 15 14 rfl rfl (vp_in_nI (n := x16) (Nat.lt_of_le_of_lt hx16 (Nat.le_of_ble_eq_true rfl)) (Nat.le_of_ble_eq_true rfl)) dX9_lets_119 ?_
              refine lv_topi (fun y_82 ey_82 => ?_)
              obtain ⟨u_83, hu_83, fu_83, xu_83⟩ := b2m_getx (a := m15_0) (b := m15_1) (i := x16) (by omega)
              have qy_82 := ey_82.trans fu_83
              replace hsp := hsp.trans (slet_eq xu_83)
              rcases mI_get u_83 with ⟨zy_82, wy_82⟩ | ⟨vy_82, zy_82, wy_82⟩
              · exfalso
                have hbq : bkN x16 m13_0 m13_1 = (if x16 = 0 then m13_0 else m13_1) := rfl
                have hbk := hbg_bk hbg
                omega
              · obtain rfl : y_82 = nI vy_82 := qy_82.trans wy_82
                replace hsp := hsp.trans (slet_eq (by omega : vy_82 = u_83 - 1))
                refine lv_iconst (v := 2) hx hb dX9_lets_120 (by decide) ?_
                refine lv_iconst (v := 1) hx hb dX9_lets_121 (by decide) ?_
                refine lv_bipush (v := 120) hx hb dX9_lets_122 (by decide) ?_
                refine lv_iconst (v := (-1)) hx hb dX9_lets_124 (by decide) ?_
                have hFc := pu_free hD hS hA
                refine va_callv (va_runV (As := [.int 1, .int (nI vy_82), .int 2, .int 1, .int 120, .int (-1)]) (rest := []) ⟨hx, hb, hml, hown, hts⟩ (c_EM_explores_1_120 l dC dI _ ad ck 0 x16 x18 x19 x20 x21 x22 x23 x24 x25 x26 x27 x28 x29 x30 x33 x45 (u_78 + 1) x52 x53 x61 x62 x63 x65 x66 f1 f2 f3 q4 q5 q6 q7 f8 q9 q10 f_76 m12_0 m12_1 m13_0 m13_1 m14_0 m14_1 m15_0 m15_1 f17 q31 f32 g_48 z35_81 f36 f37 g_50 g_51 g_52 g_53 m42_0 g_58 g_54 g_55 g_56 g_57 f49 f50 f51 q54 q55 q56 f57 q58 f59 f60 f64 vy_82 2 1 (-1) hx16 hx18 hx19 hx21 hx22 hx26 hx28 hx29 hx30 hx33 (by omega) hx52 hx53 hx61 hx62 hx63 hx65 hm12_0 hm12_1 hm13_0 hm13_1 hm14_0 hm14_1 hm15_0 hm15_1 hm42_0 hg_58 (by omega) (Nat.le_of_ble_eq_true rfl) (by first | assumption | exact gz_0)) (cwV 6 hts g_EM_lets_EM_explores_1_120 rfl rfl rfl (by decide +kernel) ⟨Nat.le_of_ble_eq_true rfl, Nat.le_of_ble_eq_true rfl⟩) ⟨pu_bl, va_recv hK hP (ci := 9) (q0 := 0) rfl rfl, pu_in hP hK hD⟩ rfl rfl hl.1 rfl (lv_room (Nat.le_of_ble_eq_true rfl)) dX9_lets_125 ⟨Nat.le_of_ble_eq_true rfl, Nat.le_of_ble_eq_true rfl⟩) hS (fun q _ h => hFc q h) hFc (fun u t H1 locs ht hvm hw hB hz1 hk1 hS => ?_)
                obtain ⟨z34_85, z35_86, z38_87, z39_88, z40_89, z41_90, z43_91, z44_92, z47_93, z48_94, z42_1_95, ⟨hP1, -, hD1⟩, hz42_1_95, xr_84_0, xr_84_1⟩ := hB
                rw [ht] at hP1
                have hP := hP1
                have hD := pu_all hFc hD1
                clear hP1 hD1 hFc
                clear hk1 hz1 ht hvm
                generalize H1 = H at hP hS ⊢
                replace hsp := hsp.trans (slet_eq xr_84_1)
                refine lv_aload_n hx hb dX9_lets_128 rfl (lv_at hl 0 rfl) ?_
                refine lv_iconst (v := 1) hx hb dX9_lets_129 (by decide) ?_
                refine lv_iload_n hx hb dX9_lets_130 rfl (lv_at hl 3 rfl) ?_
                refine va_calli (va_runV (As := [.int 1, .int (nI n_6)]) (rest := []) ⟨hx, hb, hml, hown, hts⟩ (c_EM_hasPlace_1 l dC dI _ ad ck 0 x16 x18 x19 x20 x21 x22 x23 x24 x25 x26 x27 x28 x29 x30 x33 x45 (u_78 + 1) x52 x53 x61 x62 x63 x65 x66 f1 f2 f3 q4 q5 q6 q7 f8 q9 q10 f_76 m12_0 m12_1 m13_0 m13_1 m14_0 m14_1 m15_0 m15_1 f17 q31 f32 z34_85 z35_86 f36 f37 z38_87 z39_88 z40_89 z41_90 m42_0 z42_1_95 z43_91 z44_92 z47_93 z48_94 f49 f50 f51 q54 q55 q56 f57 q58 f59 f60 f64 (nI n_6) hx16 hx18 hx19 hx21 hx22 hx26 hx28 hx29 hx30 hx33 (by omega) hx52 hx53 hx61 hx62 hx63 hx65 hm12_0 hm12_1 hm13_0 hm13_1 hm14_0 hm14_1 hm15_0 hm15_1 hm42_0 (Nat.le_trans hz42_1_95 (Nat.le_of_ble_eq_true rfl))) (cwV 2 hts g_EM_lets_EM_hasPlace_1 rfl rfl rfl (by decide +kernel) ⟨Nat.le_of_ble_eq_true rfl, Nat.le_of_ble_eq_true rfl⟩) ⟨pu_bl, va_recv hK hP (ci := 9) (q0 := 0) rfl rfl, pu_in hP hK hD⟩ rfl rfl hl.1 rfl (lv_room (Nat.le_of_ble_eq_true rfl)) dX9_lets_131 ⟨Nat.le_of_ble_eq_true rfl, Nat.le_of_ble_eq_true rfl⟩) hS (fun q _ h => pu_fr hS hA q h) (pu_fr hS hA) (fun r_96 u t H1 locs ht hvm hw hB hz1 hk1 hS => ?_)
                have hP := pu_keep hP hk1
                clear hk1 hz1 ht hvm
                generalize H1 = H at hP hS ⊢
                obtain ⟨u_97, hu_97, rfl, iu_97⟩ := hw
                replace hsp := hsp.trans (slet_eq iu_97)
                obtain ⟨JR_101, hJR_101, hsp⟩ := slet_ex hsp
                refine pu_join (fun H locs ls st => ∃ (g_98 : Int32), st = [.int g_98] ∧ gz_ok m42_0 z39_88 z40_89 z41_90 ∧ g_98 = JR_101 ∧ va_P (dC, dI) vwCl (mo_w ad ck 0 (nI x16) (nI x18) (nI x19) x20 (nI x21) (nI x22) x23 x24 x25 (nI x26) x27 (nI x28) (nI x29) (nI x30) (nI x33) x45 (nI (u_78 + 1)) (nI x52) (nI x53) (nI x61) (nI x62) (nI x63) (nI x65) x66 f1 f2 f3 (bN 3 q4) (bN 7 q5) (bN 7 q6) (bN 4 q7) f8 (bN 2 q9) (bH q10) f_76 (b2 m12_0 m12_1) (b2 m13_0 m13_1) (b2 m14_0 m14_1) (b2m m15_0 m15_1) f17 (bA 159 q31) f32 z34_85 z35_86 f36 f37 (bN 7 z38_87) z39_88 z40_89 z41_90 (b2 m42_0 z42_1_95) z43_91 z44_92 z47_93 z48_94 f49 f50 f51 (bN 13 q54) (bN 120 q55) (bN 120 q56) f57 (bN 120 q58) f59 f60 f64) H ∧ va_D A (mo_w ad ck 0 (nI x16) (nI x18) (nI x19) x20 (nI x21) (nI x22) x23 x24 x25 (nI x26) x27 (nI x28) (nI x29) (nI x30) (nI x33) x45 (nI (u_78 + 1)) (nI x52) (nI x53) (nI x61) (nI x62) (nI x63) (nI x65) x66 f1 f2 f3 (bN 3 q4) (bN 7 q5) (bN 7 q6) (bN 4 q7) f8 (bN 2 q9) (bH q10) f_76 (b2 m12_0 m12_1) (b2 m13_0 m13_1) (b2 m14_0 m14_1) (b2m m15_0 m15_1) f17 (bA 159 q31) f32 z34_85 z35_86 f36 f37 (bN 7 z38_87) z39_88 z40_89 z41_90 (b2 m42_0 z42_1_95) z43_91 z44_92 z47_93 z48_94 f49 f50 f51 (bN 13 q54) (bN 120 q55) (bN 120 q56) f57 (bN 120 q58) f59 f60 f64) ∧ va_S A s.heap H locs ∧ lv_has ls 9 [(0, .ref (ad 0)), (1, .int (nI n_3)), (2, .int (nI n_4)), (3, .int (nI n_6)), (4, .int (nI n_8)), (5, .int (nI (80 * x16 + 4 * n_3 + n_4))), (6, .int y_10), (7, .int g_60), (8, .int (nI g_61))]) 149 ?_ (fun j_100 => ?_)
                · rintro H locs ls st ⟨g_98, rfl, he_99, he_102, hP, hD, hS, hl⟩
                  rw [← he_102] at hsp
                  refine lv_istore (lv' := [(7, .int g_98), (0, .ref (ad 0)), (1, .int (nI n_3)), (2, .int (nI n_4)), (3, .int (nI n_6)), (4, .int (nI n_8)), (5, .int (nI (80 * x16 + 4 * n_3 + n_4))), (6, .int y_10), (8, .int (nI g_61))]) hx hb dX9_lets_149 hl (by decide) rfl (fun ls hl => ?_)
                  refine lv_iinc (v := (nI (g_61 + 1))) (lv' := [(8, .int (nI (g_61 + 1))), (7, .int g_98), (0, .ref (ad 0)), (1, .int (nI n_3)), (2, .int (nI n_4)), (3, .int (nI n_6)), (4, .int (nI n_8)), (5, .int (nI (80 * x16 + 4 * n_3 + n_4))), (6, .int y_10)]) hx hb dX9_lets_151 hl (k := 8) rfl (nI_1 _) (by decide) rfl (fun ls hl => ?_)
                  refine lv_goto (tgt := 58) hx hb dX9_lets_154 (by decide) ?_
                  exact ih_63 (21 - (g_61 + 1)) (by omega) _ _ _ ⟨f_76, z34_85, z35_86, z38_87, z39_88, z40_89, z41_90, z43_91, z44_92, z47_93, z48_94, z42_1_95, (u_78 + 1), g_98, (g_61 + 1), rfl, (Nat.le_trans hz42_1_95 (Nat.le_of_ble_eq_true rfl)), (by omega), (by omega), by first | assumption | exact gz_0, hin_67 _ hsp, hP, hD, hS, lv_sub hl [2, 3, 4, 5, 6, 7, 8, 1, 0] rfl⟩
                have hsp := hJR_101
                refine lv_if_eq (tgt := 147) hx hb dX9_lets_134 (by decide) (fun c_103 => ?_) (fun c_103 => ?_)
                · have c_103 : u_97 = 0 := (nI_eq (a := u_97) (b := 0) (Nat.lt_of_le_of_lt hu_97 (Nat.le_of_ble_eq_true rfl)) (Nat.le_of_ble_eq_true rfl)).mp c_103
                  replace hsp := hsp.trans (if_pos c_103)
                  refine lv_iload hx hb dX9_lets_147 (lv_at hl 7 rfl) ?_
                  exact j_100 _ _ _ _ ⟨g_60, rfl, by first | assumption | exact gz_0, hsp.symm, hP, hD, hS, lv_sub hl [0, 1, 2, 3, 4, 5, 6, 7, 8] rfl⟩
                · have c_103 : ¬ u_97 = 0 := fun z => c_103 ((nI_eq (a := u_97) (b := 0) (Nat.lt_of_le_of_lt hu_97 (Nat.le_of_ble_eq_true rfl)) (Nat.le_of_ble_eq_true rfl)).mpr z)
                  replace hsp := hsp.trans (if_neg c_103)
                  refine lv_aload_n hx hb dX9_lets_137 rfl (lv_at hl 0 rfl) ?_
                  refine va_get (D := (dC, dI)) (ci := 9) (v := .ref (ad 11)) (C := RX9) (T := TX9) (N := 67) hx hb hts hiX9 hown hK hP 0 rfl rfl 11 (by decide) v_18 (fun _ h9 => h9) rfl dX9_lets_138 ?_
                  refine lv_iload hx hb dX9_lets_141 (lv_at hl 5 rfl) ?_
                  refine va_iald hx hb hK hP 11 10 rfl rfl (vp_in_nI (n := (80 * x16 + 4 * n_3 + n_4)) (by omega) (Nat.le_of_ble_eq_true rfl)) dX9_lets_143 ?_
                  refine lv_topi (fun y_104 ey_104 => ?_)
                  have ey_104 : y_104 = f_76 (80 * x16 + 4 * n_3 + n_4) := ey_104.trans (congrArg f_76 (nI_clamp (n := (80 * x16 + 4 * n_3 + n_4)) (by first | omega | exact Nat.lt_trans (sp_ix (by omega) (by omega) (by omega)) (by decide : 14641 < 2 ^ 31) | exact Nat.lt_trans (sp_ix0 (by omega) (by omega)) (by decide : 14641 < 2 ^ 31) | exact Nat.lt_trans (zx16 (by omega) (by omega) (by omega)) (Nat.le_of_ble_eq_true rfl) | exact Nat.lt_trans (zy16 (by omega) (by omega)) (Nat.le_of_ble_eq_true rfl) | exact Nat.lt_trans (zx25 (by omega) (by omega) (by omega)) (Nat.le_of_ble_eq_true rfl) | exact Nat.lt_trans (zy25 (by omega) (by omega)) (Nat.le_of_ble_eq_true rfl))))
                  replace hsp := hsp.trans (slet_eq ey_104)
                  refine lv_goto (tgt := 149) hx hb dX9_lets_144 (by decide) ?_
                  exact j_100 _ _ _ _ ⟨y_104, rfl, by first | assumption | exact gz_0, hsp.symm, hP, hD, hS, lv_sub hl [0, 1, 2, 3, 4, 5, 6, 7, 8] rfl⟩
            have hsp := hJR_74
            refine lv_if_ne (tgt := 86) hx hb dX9_lets_78 (by decide) (fun c_105 => ?_) (fun c_105 => ?_)
            · have c_105 : ¬ n_8 = 0 := fun z => c_105 ((nI_eq (a := n_8) (b := 0) (by omega) (Nat.le_of_ble_eq_true rfl)).mpr z)
              replace hsp := hsp.trans (if_neg c_105)
              refine lv_bipush (v := 20) hx hb dX9_lets_86 (by decide) ?_
              refine lv_iload hx hb dX9_lets_88 (lv_at hl 8 rfl) ?_
              refine lv_isub hx hb dX9_lets_90 ?_
              refine lv_topi (fun y_106 ey_106 => ?_)
              obtain rfl : y_106 = (nI (20 - g_61)) := ey_106.trans (pk_sub (a := 20) (b := g_61) (by omega))
              exact j_73 _ _ _ _ ⟨(20 - g_61), rfl, (by omega), by first | assumption | exact gz_0, hsp.symm, hP, hD, hS, lv_sub hl [0, 1, 2, 3, 4, 5, 6, 7, 8] rfl⟩
            · have c_105 : n_8 = 0 := (nI_eq (a := n_8) (b := 0) (by omega) (Nat.le_of_ble_eq_true rfl)).mp c_105
              replace hsp := hsp.trans (if_pos c_105)
              refine lv_iload hx hb dX9_lets_81 (lv_at hl 8 rfl) ?_
              refine lv_goto (tgt := 91) hx hb dX9_lets_83 (by decide) ?_
              exact j_73 _ _ _ _ ⟨g_61, rfl, (by omega), by first | assumption | exact gz_0, hsp.symm, hP, hD, hS, lv_sub hl [0, 1, 2, 3, 4, 5, 6, 7, 8] rfl⟩
      · replace hsp := hsp.trans (if_neg hi3)
        refine lv_if_ne (tgt := 34) hx hb dX9_lets_29 (by decide) (fun z => absurd z (by decide)) (fun _ => ?_)
        refine lv_iconst (v := (-1)) hx hb dX9_lets_32 (by decide) ?_
        exact W.iret (v := (-1)) hx hb hr (fun t ht hW => ⟨⟨(-1), (), rfl, (congrArg Prod.fst (hsp.symm.trans hRR)), ⟨f11, f34, f35, q38, f39, f40, f41, f43, f44, f47, f48, m42_1, 0, x46, ⟨by rw [ht]; exact hP, va_K.moved hW.alike hK, hD⟩, hm42_1, hx46, by first | assumption | exact gz_0, (congrArg Prod.snd (hsp.symm.trans hRR))⟩⟩, hS.F ht⟩) hS.2.2 dX9_lets_33
    · replace hsp := hsp.trans (if_neg hn)
      refine lv_if_eq (tgt := 32) hx hb dX9_lets_19 (by decide) (fun _ => ?_) (fun z => absurd z (by decide))
      refine lv_iconst (v := (-1)) hx hb dX9_lets_32 (by decide) ?_
      exact W.iret (v := (-1)) hx hb hr (fun t ht hW => ⟨⟨(-1), (), rfl, (congrArg Prod.fst (hsp.symm.trans hRR)), ⟨f11, f34, f35, q38, f39, f40, f41, f43, f44, f47, f48, m42_1, 0, x46, ⟨by rw [ht]; exact hP, va_K.moved hW.alike hK, hD⟩, hm42_1, hx46, by first | assumption | exact gz_0, (congrArg Prod.snd (hsp.symm.trans hRR))⟩⟩, hS.F ht⟩) hS.2.2 dX9_lets_33
  · replace hsp := hsp.trans (if_pos rfl)
    replace hsp := hsp.trans (if_neg (Int32.not_lt.mpr (nI_le (a := 100) (b := 100 + n_3) (by omega) (by omega))))
    replace hsp := hsp.trans (slet_eq (cl_100 (n := n_3) (by omega)))
    replace hsp := hsp.trans (slet_eq (nI_cl (n := n_4) (by omega)))
    refine lv_if_eq (tgt := 32) hx hb dX9_lets_11 (by decide) (fun z => absurd z (by decide)) (fun _ => ?_)
    refine lv_aload_n hx hb dX9_lets_14 rfl (lv_at hl 0 rfl) ?_
    refine lv_iload_n hx hb dX9_lets_15 rfl (lv_at hl 3 rfl) ?_
    refine va_calli (va_runV (As := [.int p2]) (rest := []) ⟨hx, hb, hml, hown, hts⟩ (c_EM_isPlace l dC dI _ ad ck 0 x16 x18 x19 x20 x21 x22 x23 x24 x25 x26 x27 x28 x29 x30 x33 x45 x46 x52 x53 x61 x62 x63 x65 x66 f1 f2 f3 q4 q5 q6 q7 f8 q9 q10 f11 m12_0 m12_1 m13_0 m13_1 m14_0 m14_1 m15_0 m15_1 f17 q31 f32 f34 f35 f36 f37 q38 f39 f40 f41 m42_0 m42_1 f43 f44 f47 f48 f49 f50 f51 q54 q55 q56 f57 q58 f59 f60 f64 p2 hx16 hx18 hx19 hx21 hx22 hx26 hx28 hx29 hx30 hx33 hx46 hx52 hx53 hx61 hx62 hx63 hx65 hm12_0 hm12_1 hm13_0 hm13_1 hm14_0 hm14_1 hm15_0 hm15_1 hm42_0 hm42_1) (cwV 1 hts g_EM_lets_EM_isPlace rfl rfl rfl (by decide +kernel) ⟨Nat.le_of_ble_eq_true rfl, Nat.le_of_ble_eq_true rfl⟩) ⟨pu_bl, va_recv hK hP (ci := 9) (q0 := 0) rfl rfl, pu_in hP hK hD⟩ rfl rfl hl.1 rfl (lv_room (Nat.le_of_ble_eq_true rfl)) dX9_lets_16 ⟨Nat.le_of_ble_eq_true rfl, Nat.le_of_ble_eq_true rfl⟩) hS (fun q _ h => pu_fr hS hA q h) (pu_fr hS hA) (fun r_107 u t H1 locs ht hvm hw hB hz1 hk1 hS => ?_)
    have hP := pu_keep hP hk1
    clear hk1 hz1 ht hvm
    generalize H1 = H at hP hS ⊢
    rcases hw with ⟨rfl, hw⟩ | ⟨rfl, hn⟩
    · obtain ⟨n_108, hn_108, en_108⟩ := hw
      replace hsp := hsp.trans (if_pos (in_c hn_108 ⟨by omega, by omega⟩ en_108))
      subst en_108
      replace hsp := hsp.trans (slet_eq (nI_cl (n := n_108) (by omega)))
      refine lv_if_eq (tgt := 32) hx hb dX9_lets_19 (by decide) (fun z => absurd z (by decide)) (fun _ => ?_)
      refine lv_iload hx hb dX9_lets_22 (lv_at hl 4 rfl) ?_
      refine lv_iconst (v := 0) hx hb dX9_lets_24 (by decide) ?_
      refine lv_iconst (v := 1) hx hb dX9_lets_25 (by decide) ?_
      refine va_calli (va_runS (As := [.int p3, .int 0, .int 1]) (rest := []) ⟨hx, hb, hml, hown, hts⟩ (c_X9_in l dC dI _ p3 0 1) (va_cwS 3 hts g_EM_lets_X9_in rfl rfl rfl (by decide +kernel) ⟨Nat.le_of_ble_eq_true rfl, Nat.le_of_ble_eq_true rfl⟩) ⟨pu_bl, pu_in (hP.sub [] rfl) (hK.sub [] rfl) (hD.sub [] (by decide) rfl)⟩ rfl rfl hl.1 rfl (lv_room (Nat.le_of_ble_eq_true rfl)) dX9_lets_26 ⟨Nat.le_of_ble_eq_true rfl, Nat.le_of_ble_eq_true rfl⟩) hS (fun q _ h => pu_fr hS hA q h) (pu_fr hS hA) (fun r_109 u t H1 locs ht hvm hw hB hz1 hk1 hS => ?_)
      have hP := pu_keep hP hk1
      clear hk1 hz1 ht hvm
      generalize H1 = H at hP hS ⊢
      rcases hw with ⟨rfl, hi1, hi2⟩ | ⟨rfl, hi3⟩
      · replace hsp := hsp.trans (if_pos ⟨hi1, hi2⟩)
        obtain ⟨n_110, hn_110, rfl⟩ := pu_in0 (n := 1) (by omega) hi1 hi2
        replace hsp := hsp.trans (slet_eq (nI_cl (n := n_110) (by omega)))
        refine lv_if_ne (tgt := 34) hx hb dX9_lets_29 (by decide) (fun _ => ?_) (fun z => absurd z (by decide))
        refine lv_aload_n hx hb dX9_lets_34 rfl (lv_at hl 0 rfl) ?_
        refine lv_iload_n hx hb dX9_lets_35 rfl (lv_at hl 1 rfl) ?_
        refine lv_iload_n hx hb dX9_lets_36 rfl (lv_at hl 2 rfl) ?_
        refine va_calli (va_runV (As := [.int (nI (100 + n_3)), .int (nI n_4)]) (rest := []) ⟨hx, hb, hml, hown, hts⟩ (c_EM_spot_p l dC dI _ ad ck 0 x16 x18 x19 x20 x21 x22 x23 x24 x25 x26 x27 x28 x29 x30 x33 x45 x46 x52 x53 x61 x62 x63 x65 x66 f1 f2 f3 q4 q5 q6 q7 f8 q9 q10 f11 m12_0 m12_1 m13_0 m13_1 m14_0 m14_1 m15_0 m15_1 f17 q31 f32 f34 f35 f36 f37 q38 f39 f40 f41 m42_0 m42_1 f43 f44 f47 f48 f49 f50 f51 q54 q55 q56 f57 q58 f59 f60 f64 (100 + n_3) n_4 hx16 hx18 hx19 hx21 hx22 hx26 hx28 hx29 hx30 hx33 hx46 hx52 hx53 hx61 hx62 hx63 hx65 hm12_0 hm12_1 hm13_0 hm13_1 hm14_0 hm14_1 hm15_0 hm15_1 hm42_0 hm42_1 (by omega) (by omega) (by omega)) (cwV 2 hts g_EM_lets_EM_spot_p rfl rfl rfl (by decide +kernel) ⟨Nat.le_of_ble_eq_true rfl, Nat.le_of_ble_eq_true rfl⟩) ⟨pu_bl, va_recv hK hP (ci := 9) (q0 := 0) rfl rfl, pu_in hP hK hD⟩ rfl rfl hl.1 rfl (lv_room (Nat.le_of_ble_eq_true rfl)) dX9_lets_37 ⟨Nat.le_of_ble_eq_true rfl, Nat.le_of_ble_eq_true rfl⟩) hS (fun q _ h => pu_fr hS hA q h) (pu_fr hS hA) (fun r_111 u t H1 locs ht hvm hw hB hz1 hk1 hS => ?_)
        have hP := pu_keep hP hk1
        clear hk1 hz1 ht hvm
        generalize H1 = H at hP hS ⊢
        obtain rfl : r_111 = nI (80 * x16 + (56 + 3 * ((100 + n_3) - 100)) + n_4) := hw
        refine lv_istore (lv' := [(5, .int (nI (80 * x16 + (56 + 3 * ((100 + n_3) - 100)) + n_4))), (0, .ref (ad 0)), (1, .int (nI (100 + n_3))), (2, .int (nI n_4)), (3, .int (nI n_108)), (4, .int (nI n_110))]) hx hb dX9_lets_40 hl (by decide) rfl (fun ls hl => ?_)
        refine lv_aload_n hx hb dX9_lets_42 rfl (lv_at hl 1 rfl) ?_
        refine va_get (D := (dC, dI)) (ci := 9) (v := .ref (ad 11)) (C := RX9) (T := TX9) (N := 67) hx hb hts hiX9 hown hK hP 0 rfl rfl 11 (by decide) v_18 (fun _ h9 => h9) rfl dX9_lets_43 ?_
        refine lv_iload hx hb dX9_lets_46 (lv_at hl 0 rfl) ?_
        refine va_iald hx hb hK hP 11 10 rfl rfl (vp_in_nI (n := (80 * x16 + (56 + 3 * ((100 + n_3) - 100)) + n_4)) (by omega) (Nat.le_of_ble_eq_true rfl)) dX9_lets_48 ?_
        refine lv_topi (fun y_112 ey_112 => ?_)
        have ey_112 : y_112 = f11 (80 * x16 + (56 + 3 * ((100 + n_3) - 100)) + n_4) := ey_112.trans (congrArg f11 (nI_clamp (n := (80 * x16 + (56 + 3 * ((100 + n_3) - 100)) + n_4)) (by first | omega | exact Nat.lt_trans (sp_ix (by omega) (by omega) (by omega)) (by decide : 14641 < 2 ^ 31) | exact Nat.lt_trans (sp_ix0 (by omega) (by omega)) (by decide : 14641 < 2 ^ 31) | exact Nat.lt_trans (zx16 (by omega) (by omega) (by omega)) (Nat.le_of_ble_eq_true rfl) | exact Nat.lt_trans (zy16 (by omega) (by omega)) (Nat.le_of_ble_eq_true rfl) | exact Nat.lt_trans (zx25 (by omega) (by omega) (by omega)) (Nat.le_of_ble_eq_true rfl) | exact Nat.lt_trans (zy25 (by omega) (by omega)) (Nat.le_of_ble_eq_true rfl))))
        replace hsp := hsp.trans (slet_eq ey_112)
        refine lv_istore (lv' := [(6, .int y_112), (5, .int (nI (80 * x16 + (56 + 3 * ((100 + n_3) - 100)) + n_4))), (0, .ref (ad 0)), (1, .int (nI (100 + n_3))), (2, .int (nI n_4)), (3, .int (nI n_108)), (4, .int (nI n_110))]) hx hb dX9_lets_49 hl (by decide) rfl (fun ls hl => ?_)
        refine lv_bipush (v := (-2)) hx hb dX9_lets_51 (by decide) ?_
        refine lv_istore (lv' := [(7, .int (-2)), (6, .int y_112), (5, .int (nI (80 * x16 + (56 + 3 * ((100 + n_3) - 100)) + n_4))), (0, .ref (ad 0)), (1, .int (nI (100 + n_3))), (2, .int (nI n_4)), (3, .int (nI n_108)), (4, .int (nI n_110))]) hx hb dX9_lets_53 hl (by decide) rfl (fun ls hl => ?_)
        refine lv_iconst (v := 0) hx hb dX9_lets_55 (by decide) ?_
        refine lv_istore (lv' := [(8, .int 0), (7, .int (-2)), (6, .int y_112), (5, .int (nI (80 * x16 + (56 + 3 * ((100 + n_3) - 100)) + n_4))), (0, .ref (ad 0)), (1, .int (nI (100 + n_3))), (2, .int (nI n_4)), (3, .int (nI n_108)), (4, .int (nI n_110))]) hx hb dX9_lets_56 hl (by decide) rfl (fun ls hl => ?_)
        obtain ⟨JR_130, hJR_130, hsp⟩ := slet_ex hsp
        refine pu_join (fun H locs ls st => ∃ (g_113 : Int32) (g_114 : Nat) (g_115 : Nat) (g_116 : Nat → Int32) (g_117 : Nat → Int32) (g_118 : Nat → Int32) (g_119 : Nat → Nat) (g_120 : Nat → Int32) (g_121 : Nat → Int32) (g_122 : Nat → Int32) (g_123 : Nat) (g_124 : Nat → Int32) (g_125 : Nat → Int32) (g_126 : Nat → Int32) (g_127 : Nat → Int32), st = [] ∧ g_114 ≤ 21 ∧ g_115 ≤ 5 ∧ g_123 ≤ 400 ∧ gz_ok m42_0 g_120 g_121 g_122 ∧ (g_113, g_114, g_115, g_116, g_117, g_118, g_119, g_120, g_121, g_122, g_123, g_124, g_125, g_126, g_127) = JR_130 ∧ va_P (dC, dI) vwCl (mo_w ad ck 0 (nI x16) (nI x18) (nI x19) x20 (nI x21) (nI x22) x23 x24 x25 (nI x26) x27 (nI x28) (nI x29) (nI x30) (nI x33) x45 (nI g_115) (nI x52) (nI x53) (nI x61) (nI x62) (nI x63) (nI x65) x66 f1 f2 f3 (bN 3 q4) (bN 7 q5) (bN 7 q6) (bN 4 q7) f8 (bN 2 q9) (bH q10) g_116 (b2 m12_0 m12_1) (b2 m13_0 m13_1) (b2 m14_0 m14_1) (b2m m15_0 m15_1) f17 (bA 159 q31) f32 g_117 g_118 f36 f37 (bN 7 g_119) g_120 g_121 g_122 (b2 m42_0 g_123) g_124 g_125 g_126 g_127 f49 f50 f51 (bN 13 q54) (bN 120 q55) (bN 120 q56) f57 (bN 120 q58) f59 f60 f64) H ∧ va_D A (mo_w ad ck 0 (nI x16) (nI x18) (nI x19) x20 (nI x21) (nI x22) x23 x24 x25 (nI x26) x27 (nI x28) (nI x29) (nI x30) (nI x33) x45 (nI g_115) (nI x52) (nI x53) (nI x61) (nI x62) (nI x63) (nI x65) x66 f1 f2 f3 (bN 3 q4) (bN 7 q5) (bN 7 q6) (bN 4 q7) f8 (bN 2 q9) (bH q10) g_116 (b2 m12_0 m12_1) (b2 m13_0 m13_1) (b2 m14_0 m14_1) (b2m m15_0 m15_1) f17 (bA 159 q31) f32 g_117 g_118 f36 f37 (bN 7 g_119) g_120 g_121 g_122 (b2 m42_0 g_123) g_124 g_125 g_126 g_127 f49 f50 f51 (bN 13 q54) (bN 120 q55) (bN 120 q56) f57 (bN 120 q58) f59 f60 f64) ∧ va_S A s.heap H locs ∧ lv_has ls 9 [(0, .ref (ad 0)), (1, .int (nI (100 + n_3))), (2, .int (nI n_4)), (3, .int (nI n_108)), (4, .int (nI n_110)), (5, .int (nI (80 * x16 + (56 + 3 * ((100 + n_3) - 100)) + n_4))), (6, .int y_112), (7, .int g_113), (8, .int (nI g_114))]) 157 ?_ (fun j_129 => ?_)
        · rintro H locs ls st ⟨g_113, g_114, g_115, g_116, g_117, g_118, g_119, g_120, g_121, g_122, g_123, g_124, g_125, g_126, g_127, rfl, hg_114, hg_115, hg_123, he_128, he_131, hP, hD, hS, hl⟩
          rw [← he_131] at hsp
          refine lv_aload_n hx hb dX9_lets_157 rfl (lv_at hl 0 rfl) ?_
          refine va_get (D := (dC, dI)) (ci := 9) (v := .ref (ad 11)) (C := RX9) (T := TX9) (N := 67) hx hb hts hiX9 hown hK hP 0 rfl rfl 11 (by decide) v_18 (fun _ h9 => h9) rfl dX9_lets_158 ?_
          refine lv_iload hx hb dX9_lets_161 (lv_at hl 5 rfl) ?_
          refine lv_iload hx hb dX9_lets_163 (lv_at hl 6 rfl) ?_
          refine va_iast hx hb hK hP hD hS 11 10 rfl rfl (vp_in_nI (n := (80 * x16 + (56 + 3 * ((100 + n_3) - 100)) + n_4)) (by omega) (Nat.le_of_ble_eq_true rfl)) dX9_lets_165 (fun H locs hP hD hS => ?_)
          obtain ⟨f_132, ef_132, xf_132⟩ := up_x g_116 (n := (80 * x16 + (56 + 3 * ((100 + n_3) - 100)) + n_4)) y_112 (by first | omega | exact Nat.lt_trans (sp_ix (by omega) (by omega) (by omega)) (by decide : 14641 < 2 ^ 31) | exact Nat.lt_trans (sp_ix0 (by omega) (by omega)) (by decide : 14641 < 2 ^ 31) | exact Nat.lt_trans (zx16 (by omega) (by omega) (by omega)) (Nat.le_of_ble_eq_true rfl) | exact Nat.lt_trans (zy16 (by omega) (by omega)) (Nat.le_of_ble_eq_true rfl) | exact Nat.lt_trans (zx25 (by omega) (by omega) (by omega)) (Nat.le_of_ble_eq_true rfl) | exact Nat.lt_trans (zy25 (by omega) (by omega)) (Nat.le_of_ble_eq_true rfl))
          have hP : va_P (dC, dI) vwCl (mo_w ad ck 0 (nI x16) (nI x18) (nI x19) x20 (nI x21) (nI x22) x23 x24 x25 (nI x26) x27 (nI x28) (nI x29) (nI x30) (nI x33) x45 (nI g_115) (nI x52) (nI x53) (nI x61) (nI x62) (nI x63) (nI x65) x66 f1 f2 f3 (bN 3 q4) (bN 7 q5) (bN 7 q6) (bN 4 q7) f8 (bN 2 q9) (bH q10) f_132 (b2 m12_0 m12_1) (b2 m13_0 m13_1) (b2 m14_0 m14_1) (b2m m15_0 m15_1) f17 (bA 159 q31) f32 g_117 g_118 f36 f37 (bN 7 g_119) g_120 g_121 g_122 (b2 m42_0 g_123) g_124 g_125 g_126 g_127 f49 f50 f51 (bN 13 q54) (bN 120 q55) (bN 120 q56) f57 (bN 120 q58) f59 f60 f64) H := by rw [← ef_132]; exact hP
          have hD : va_D A (mo_w ad ck 0 (nI x16) (nI x18) (nI x19) x20 (nI x21) (nI x22) x23 x24 x25 (nI x26) x27 (nI x28) (nI x29) (nI x30) (nI x33) x45 (nI g_115) (nI x52) (nI x53) (nI x61) (nI x62) (nI x63) (nI x65) x66 f1 f2 f3 (bN 3 q4) (bN 7 q5) (bN 7 q6) (bN 4 q7) f8 (bN 2 q9) (bH q10) f_132 (b2 m12_0 m12_1) (b2 m13_0 m13_1) (b2 m14_0 m14_1) (b2m m15_0 m15_1) f17 (bA 159 q31) f32 g_117 g_118 f36 f37 (bN 7 g_119) g_120 g_121 g_122 (b2 m42_0 g_123) g_124 g_125 g_126 g_127 f49 f50 f51 (bN 13 q54) (bN 120 q55) (bN 120 q56) f57 (bN 120 q58) f59 f60 f64) := by rw [← ef_132]; exact hD
          replace hsp := hsp.trans (slet_eq xf_132)
          refine lv_iload hx hb dX9_lets_166 (lv_at hl 7 rfl) ?_
          exact W.iret (v := g_113) hx hb hr (fun t ht hW => ⟨⟨g_113, (), rfl, (congrArg Prod.fst (hsp.symm.trans hRR)), ⟨f_132, g_117, g_118, g_119, g_120, g_121, g_122, g_124, g_125, g_126, g_127, g_123, 0, g_115, ⟨by rw [ht]; exact hP, va_K.moved hW.alike hK, hD⟩, hg_123, hg_115, by first | assumption | exact gz_0, (congrArg Prod.snd (hsp.symm.trans hRR))⟩⟩, hS.F ht⟩) hS.2.2 dX9_lets_168
        have hsp := hJR_130
        obtain ⟨lf_166, dlf_166, hlf_166, hsp⟩ := itr_ex hsp
        delta sp_EM_lets_L2 at hlf_166
        refine pu_while (fun nn H locs ls => ∃ (g_149 : Nat → Int32) (g_150 : Nat → Int32) (g_151 : Nat → Int32) (g_152 : Nat → Nat) (g_153 : Nat → Int32) (g_154 : Nat → Int32) (g_155 : Nat → Int32) (g_156 : Nat → Int32) (g_157 : Nat → Int32) (g_158 : Nat → Int32) (g_159 : Nat → Int32) (g_160 : Nat) (g_161 : Nat) (g_162 : Int32) (g_163 : Nat), nn = 21 - g_163 ∧ g_160 ≤ 400 ∧ g_161 ≤ 5 ∧ g_163 ≤ 21 ∧ gz_ok m42_0 g_153 g_154 g_155 ∧ JR_130 = itrv dlf_166 lf_166 (g_149, g_150, g_151, g_152, g_153, g_154, g_155, g_156, g_157, g_158, g_159, g_160, g_161, g_162, g_163) ∧ va_P (dC, dI) vwCl (mo_w ad ck 0 (nI x16) (nI x18) (nI x19) x20 (nI x21) (nI x22) x23 x24 x25 (nI x26) x27 (nI x28) (nI x29) (nI x30) (nI x33) x45 (nI g_161) (nI x52) (nI x53) (nI x61) (nI x62) (nI x63) (nI x65) x66 f1 f2 f3 (bN 3 q4) (bN 7 q5) (bN 7 q6) (bN 4 q7) f8 (bN 2 q9) (bH q10) g_149 (b2 m12_0 m12_1) (b2 m13_0 m13_1) (b2 m14_0 m14_1) (b2m m15_0 m15_1) f17 (bA 159 q31) f32 g_150 g_151 f36 f37 (bN 7 g_152) g_153 g_154 g_155 (b2 m42_0 g_160) g_156 g_157 g_158 g_159 f49 f50 f51 (bN 13 q54) (bN 120 q55) (bN 120 q56) f57 (bN 120 q58) f59 f60 f64) H ∧ va_D A (mo_w ad ck 0 (nI x16) (nI x18) (nI x19) x20 (nI x21) (nI x22) x23 x24 x25 (nI x26) x27 (nI x28) (nI x29) (nI x30) (nI x33) x45 (nI g_161) (nI x52) (nI x53) (nI x61) (nI x62) (nI x63) (nI x65) x66 f1 f2 f3 (bN 3 q4) (bN 7 q5) (bN 7 q6) (bN 4 q7) f8 (bN 2 q9) (bH q10) g_149 (b2 m12_0 m12_1) (b2 m13_0 m13_1) (b2 m14_0 m14_1) (b2m m15_0 m15_1) f17 (bA 159 q31) f32 g_150 g_151 f36 f37 (bN 7 g_152) g_153 g_154 g_155 (b2 m42_0 g_160) g_156 g_157 g_158 g_159 f49 f50 f51 (bN 13 q54) (bN 120 q55) (bN 120 q56) f57 (bN 120 q58) f59 f60 f64) ∧ va_S A s.heap H locs ∧ lv_has ls 9 [(0, .ref (ad 0)), (1, .int (nI (100 + n_3))), (2, .int (nI n_4)), (3, .int (nI n_108)), (4, .int (nI n_110)), (5, .int (nI (80 * x16 + (56 + 3 * ((100 + n_3) - 100)) + n_4))), (6, .int y_112), (7, .int g_162), (8, .int (nI g_163))]) 58 ?_ _ _ _ _ ⟨f11, f34, f35, q38, f39, f40, f41, f43, f44, f47, f48, m42_1, x46, (-2), 0, rfl, hm42_1, hx46, (Nat.le_of_ble_eq_true rfl), by first | assumption | exact gz_0, hsp, hP, hD, hS, lv_sub hl [4, 5, 6, 7, 8, 3, 2, 1, 0] rfl⟩
        rintro nn ih_165 H locs ls ⟨g_149, g_150, g_151, g_152, g_153, g_154, g_155, g_156, g_157, g_158, g_159, g_160, g_161, g_162, g_163, rfl, hg_160, hg_161, hg_163, he_164, he_168, hP, hD, hS, hl⟩
        obtain ⟨S_167, hsp, hin_169, hout_170⟩ := itr_step hlf_166 he_168
        refine lv_iload hx hb dX9_lets_58 (lv_at hl 8 rfl) ?_
        refine lv_bipush (v := 20) hx hb dX9_lets_60 (by decide) ?_
        refine lv_icmp_gt (tgt := 157) hx hb dX9_lets_62 (by decide) (fun c_171 => ?_) (fun c_171 => ?_)
        · have c_171 : 20 < g_163 := (nI_ltI (a := 20) (b := g_163) (Nat.le_of_ble_eq_true rfl) (Nat.lt_of_le_of_lt hg_163 (Nat.le_of_ble_eq_true rfl))).mp c_171
          replace hsp := hsp.trans (if_pos c_171)
          replace hsp := hout_170 _ hsp
          exact j_129 _ _ _ _ ⟨g_162, g_163, g_161, g_149, g_150, g_151, g_152, g_153, g_154, g_155, g_160, g_156, g_157, g_158, g_159, rfl, hg_163, hg_161, hg_160, by first | assumption | exact gz_0, hsp.symm, hP, hD, hS, lv_sub hl [0, 1, 2, 3, 4, 5, 6, 7, 8] rfl⟩
        · have c_171 : ¬ 20 < g_163 := fun z => c_171 ((nI_ltI (a := 20) (b := g_163) (Nat.le_of_ble_eq_true rfl) (Nat.lt_of_le_of_lt hg_163 (Nat.le_of_ble_eq_true rfl))).mpr z)
          replace hsp := hsp.trans (if_neg c_171)
          refine lv_iload hx hb dX9_lets_65 (lv_at hl 7 rfl) ?_
          refine lv_if_ge (tgt := 157) hx hb dX9_lets_67 (by decide) (fun c_172 => ?_) (fun c_172 => ?_)
          · have hcc_172 := c_172
            replace hsp := hsp.trans (if_pos c_172)
            replace hsp := hout_170 _ hsp
            exact j_129 _ _ _ _ ⟨g_162, g_163, g_161, g_149, g_150, g_151, g_152, g_153, g_154, g_155, g_160, g_156, g_157, g_158, g_159, rfl, hg_163, hg_161, hg_160, by first | assumption | exact gz_0, hsp.symm, hP, hD, hS, lv_sub hl [0, 1, 2, 3, 4, 5, 6, 7, 8] rfl⟩
          · have hcc_172 := c_172
            replace hsp := hsp.trans (if_neg c_172)
            refine lv_aload_n hx hb dX9_lets_70 rfl (lv_at hl 0 rfl) ?_
            refine va_get (D := (dC, dI)) (ci := 9) (v := .ref (ad 11)) (C := RX9) (T := TX9) (N := 67) hx hb hts hiX9 hown hK hP 0 rfl rfl 11 (by decide) v_18 (fun _ h9 => h9) rfl dX9_lets_71 ?_
            refine lv_iload hx hb dX9_lets_74 (lv_at hl 5 rfl) ?_
            refine lv_iload hx hb dX9_lets_76 (lv_at hl 4 rfl) ?_
            obtain ⟨JR_176, hJR_176, hsp⟩ := slet_ex hsp
            refine pu_join (fun H locs ls st => ∃ (g_173 : Nat), st = [.int (nI g_173), .int (nI (80 * x16 + (56 + 3 * ((100 + n_3) - 100)) + n_4)), .ref (ad 11)] ∧ g_173 ≤ 20 ∧ gz_ok m42_0 g_153 g_154 g_155 ∧ g_173 = JR_176 ∧ va_P (dC, dI) vwCl (mo_w ad ck 0 (nI x16) (nI x18) (nI x19) x20 (nI x21) (nI x22) x23 x24 x25 (nI x26) x27 (nI x28) (nI x29) (nI x30) (nI x33) x45 (nI g_161) (nI x52) (nI x53) (nI x61) (nI x62) (nI x63) (nI x65) x66 f1 f2 f3 (bN 3 q4) (bN 7 q5) (bN 7 q6) (bN 4 q7) f8 (bN 2 q9) (bH q10) g_149 (b2 m12_0 m12_1) (b2 m13_0 m13_1) (b2 m14_0 m14_1) (b2m m15_0 m15_1) f17 (bA 159 q31) f32 g_150 g_151 f36 f37 (bN 7 g_152) g_153 g_154 g_155 (b2 m42_0 g_160) g_156 g_157 g_158 g_159 f49 f50 f51 (bN 13 q54) (bN 120 q55) (bN 120 q56) f57 (bN 120 q58) f59 f60 f64) H ∧ va_D A (mo_w ad ck 0 (nI x16) (nI x18) (nI x19) x20 (nI x21) (nI x22) x23 x24 x25 (nI x26) x27 (nI x28) (nI x29) (nI x30) (nI x33) x45 (nI g_161) (nI x52) (nI x53) (nI x61) (nI x62) (nI x63) (nI x65) x66 f1 f2 f3 (bN 3 q4) (bN 7 q5) (bN 7 q6) (bN 4 q7) f8 (bN 2 q9) (bH q10) g_149 (b2 m12_0 m12_1) (b2 m13_0 m13_1) (b2 m14_0 m14_1) (b2m m15_0 m15_1) f17 (bA 159 q31) f32 g_150 g_151 f36 f37 (bN 7 g_152) g_153 g_154 g_155 (b2 m42_0 g_160) g_156 g_157 g_158 g_159 f49 f50 f51 (bN 13 q54) (bN 120 q55) (bN 120 q56) f57 (bN 120 q58) f59 f60 f64) ∧ va_S A s.heap H locs ∧ lv_has ls 9 [(0, .ref (ad 0)), (1, .int (nI (100 + n_3))), (2, .int (nI n_4)), (3, .int (nI n_108)), (4, .int (nI n_110)), (5, .int (nI (80 * x16 + (56 + 3 * ((100 + n_3) - 100)) + n_4))), (6, .int y_112), (7, .int g_162), (8, .int (nI g_163))]) 91 ?_ (fun j_175 => ?_)
            · rintro H locs ls st ⟨g_173, rfl, hg_173, he_174, he_177, hP, hD, hS, hl⟩
              rw [← he_177] at hsp
              refine va_iast hx hb hK hP hD hS 11 10 rfl rfl (vp_in_nI (n := (80 * x16 + (56 + 3 * ((100 + n_3) - 100)) + n_4)) (by omega) (Nat.le_of_ble_eq_true rfl)) dX9_lets_91 (fun H locs hP hD hS => ?_)
              obtain ⟨f_178, ef_178, xf_178⟩ := up_x g_149 (n := (80 * x16 + (56 + 3 * ((100 + n_3) - 100)) + n_4)) (nI g_173) (by first | omega | exact Nat.lt_trans (sp_ix (by omega) (by omega) (by omega)) (by decide : 14641 < 2 ^ 31) | exact Nat.lt_trans (sp_ix0 (by omega) (by omega)) (by decide : 14641 < 2 ^ 31) | exact Nat.lt_trans (zx16 (by omega) (by omega) (by omega)) (Nat.le_of_ble_eq_true rfl) | exact Nat.lt_trans (zy16 (by omega) (by omega)) (Nat.le_of_ble_eq_true rfl) | exact Nat.lt_trans (zx25 (by omega) (by omega) (by omega)) (Nat.le_of_ble_eq_true rfl) | exact Nat.lt_trans (zy25 (by omega) (by omega)) (Nat.le_of_ble_eq_true rfl))
              have hP : va_P (dC, dI) vwCl (mo_w ad ck 0 (nI x16) (nI x18) (nI x19) x20 (nI x21) (nI x22) x23 x24 x25 (nI x26) x27 (nI x28) (nI x29) (nI x30) (nI x33) x45 (nI g_161) (nI x52) (nI x53) (nI x61) (nI x62) (nI x63) (nI x65) x66 f1 f2 f3 (bN 3 q4) (bN 7 q5) (bN 7 q6) (bN 4 q7) f8 (bN 2 q9) (bH q10) f_178 (b2 m12_0 m12_1) (b2 m13_0 m13_1) (b2 m14_0 m14_1) (b2m m15_0 m15_1) f17 (bA 159 q31) f32 g_150 g_151 f36 f37 (bN 7 g_152) g_153 g_154 g_155 (b2 m42_0 g_160) g_156 g_157 g_158 g_159 f49 f50 f51 (bN 13 q54) (bN 120 q55) (bN 120 q56) f57 (bN 120 q58) f59 f60 f64) H := by rw [← ef_178]; exact hP
              have hD : va_D A (mo_w ad ck 0 (nI x16) (nI x18) (nI x19) x20 (nI x21) (nI x22) x23 x24 x25 (nI x26) x27 (nI x28) (nI x29) (nI x30) (nI x33) x45 (nI g_161) (nI x52) (nI x53) (nI x61) (nI x62) (nI x63) (nI x65) x66 f1 f2 f3 (bN 3 q4) (bN 7 q5) (bN 7 q6) (bN 4 q7) f8 (bN 2 q9) (bH q10) f_178 (b2 m12_0 m12_1) (b2 m13_0 m13_1) (b2 m14_0 m14_1) (b2m m15_0 m15_1) f17 (bA 159 q31) f32 g_150 g_151 f36 f37 (bN 7 g_152) g_153 g_154 g_155 (b2 m42_0 g_160) g_156 g_157 g_158 g_159 f49 f50 f51 (bN 13 q54) (bN 120 q55) (bN 120 q56) f57 (bN 120 q58) f59 f60 f64) := by rw [← ef_178]; exact hD
              replace hsp := hsp.trans (slet_eq xf_178)
              refine lv_aload_n hx hb dX9_lets_92 rfl (lv_at hl 0 rfl) ?_
              refine lv_aload_n hx hb dX9_lets_93 rfl (lv_at hl 0 rfl) ?_
              refine va_calli (va_runV (As := []) (rest := [.ref (ad 0)]) ⟨hx, hb, hml, hown, hts⟩ (c_EM_clocks l dC dI _ ad ck 0 x16 x18 x19 x20 x21 x22 x23 x24 x25 x26 x27 x28 x29 x30 x33 x45 g_161 x52 x53 x61 x62 x63 x65 x66 f1 f2 f3 q4 q5 q6 q7 f8 q9 q10 f_178 m12_0 m12_1 m13_0 m13_1 m14_0 m14_1 m15_0 m15_1 f17 q31 f32 g_150 g_151 f36 f37 g_152 g_153 g_154 g_155 m42_0 g_160 g_156 g_157 g_158 g_159 f49 f50 f51 q54 q55 q56 f57 q58 f59 f60 f64 hx16 hx18 hx19 hx21 hx22 hx26 hx28 hx29 hx30 hx33 hg_161 hx52 hx53 hx61 hx62 hx63 hx65 hm12_0 hm12_1 hm13_0 hm13_1 hm14_0 hm14_1 hm15_0 hm15_1 hm42_0 hg_160) (cwV 0 hts g_EM_lets_EM_clocks rfl rfl rfl (by decide +kernel) ⟨Nat.le_of_ble_eq_true rfl, Nat.le_of_ble_eq_true rfl⟩) ⟨pu_bl, va_recv hK hP (ci := 9) (q0 := 0) rfl rfl, pu_in hP hK hD⟩ rfl rfl hl.1 rfl (lv_room (Nat.le_of_ble_eq_true rfl)) dX9_lets_94 ⟨Nat.le_of_ble_eq_true rfl, Nat.le_of_ble_eq_true rfl⟩) hS (fun q _ h => pu_fr hS hA q h) (pu_fr hS hA) (fun r_179 u t H1 locs ht hvm hw hB hz1 hk1 hS => ?_)
              have hP := pu_keep hP hk1
              clear hk1 hz1 ht hvm
              generalize H1 = H at hP hS ⊢
              obtain ⟨u_180, hu_180, rfl, iu_180⟩ := hw
              replace hsp := hsp.trans (slet_eq iu_180)
              refine lv_iconst (v := 1) hx hb dX9_lets_97 (by decide) ?_
              refine lv_iadd hx hb dX9_lets_98 ?_
              refine lv_topi (fun y_181 ey_181 => ?_)
              obtain rfl : y_181 = (nI (u_180 + 1)) := ey_181.trans (nI_add u_180 1)
              refine va_put (D := (dC, dI)) (ci := 9) (v := .int (nI (u_180 + 1))) (ty := .int) (C := RX9) (T := TX9) (N := 67) hx hb hts hiX9 tyX9 tyX9_ok nmX9 hown hK hP hD hS 0 rfl rfl 46 (by decide) v_23 (fun _ h9 => h9) rfl (by decide +kernel) rfl rfl (Nat.le_of_ble_eq_true rfl) dX9_lets_99 (fun H locs hP hD hS => ?_)
              have hP : va_P (dC, dI) vwCl (mo_w ad ck 0 (nI x16) (nI x18) (nI x19) x20 (nI x21) (nI x22) x23 x24 x25 (nI x26) x27 (nI x28) (nI x29) (nI x30) (nI x33) x45 (nI (u_180 + 1)) (nI x52) (nI x53) (nI x61) (nI x62) (nI x63) (nI x65) x66 f1 f2 f3 (bN 3 q4) (bN 7 q5) (bN 7 q6) (bN 4 q7) f8 (bN 2 q9) (bH q10) f_178 (b2 m12_0 m12_1) (b2 m13_0 m13_1) (b2 m14_0 m14_1) (b2m m15_0 m15_1) f17 (bA 159 q31) f32 g_150 g_151 f36 f37 (bN 7 g_152) g_153 g_154 g_155 (b2 m42_0 g_160) g_156 g_157 g_158 g_159 f49 f50 f51 (bN 13 q54) (bN 120 q55) (bN 120 q56) f57 (bN 120 q58) f59 f60 f64) H := hP
              have hD : va_D A (mo_w ad ck 0 (nI x16) (nI x18) (nI x19) x20 (nI x21) (nI x22) x23 x24 x25 (nI x26) x27 (nI x28) (nI x29) (nI x30) (nI x33) x45 (nI (u_180 + 1)) (nI x52) (nI x53) (nI x61) (nI x62) (nI x63) (nI x65) x66 f1 f2 f3 (bN 3 q4) (bN 7 q5) (bN 7 q6) (bN 4 q7) f8 (bN 2 q9) (bH q10) f_178 (b2 m12_0 m12_1) (b2 m13_0 m13_1) (b2 m14_0 m14_1) (b2m m15_0 m15_1) f17 (bA 159 q31) f32 g_150 g_151 f36 f37 (bN 7 g_152) g_153 g_154 g_155 (b2 m42_0 g_160) g_156 g_157 g_158 g_159 f49 f50 f51 (bN 13 q54) (bN 120 q55) (bN 120 q56) f57 (bN 120 q58) f59 f60 f64) := hD
              refine lv_aload_n hx hb dX9_lets_102 rfl (lv_at hl 0 rfl) ?_
              refine lv_iconst (v := 0) hx hb dX9_lets_103 (by decide) ?_
              refine lv_iconst (v := 0) hx hb dX9_lets_104 (by decide) ?_
              refine lv_iconst (v := 0) hx hb dX9_lets_105 (by decide) ?_
              have hFc := pu_free hD hS hA
              refine va_callv (va_runV (As := [.int 0, .int 0, .int 0]) (rest := []) ⟨hx, hb, hml, hown, hts⟩ (c_EM_layPoint l dC dI _ ad ck 0 x16 x18 x19 x20 x21 x22 x23 x24 x25 x26 x27 x28 x29 x30 x33 x45 (u_180 + 1) x52 x53 x61 x62 x63 x65 x66 f1 f2 f3 q4 q5 q6 q7 f8 q9 q10 f_178 m12_0 m12_1 m13_0 m13_1 m14_0 m14_1 m15_0 m15_1 f17 q31 f32 g_150 g_151 f36 f37 g_152 g_153 g_154 g_155 m42_0 g_160 g_156 g_157 g_158 g_159 f49 f50 f51 q54 q55 q56 f57 q58 f59 f60 f64 0 0 0 hx16 hx18 hx19 hx21 hx22 hx26 hx28 hx29 hx30 hx33 (by omega) hx52 hx53 hx61 hx62 hx63 hx65 hm12_0 hm12_1 hm13_0 hm13_1 hm14_0 hm14_1 hm15_0 hm15_1 hm42_0 hg_160) (cwV 3 hts g_EM_lets_EM_layPoint rfl rfl rfl (by decide +kernel) ⟨Nat.le_of_ble_eq_true rfl, Nat.le_of_ble_eq_true rfl⟩) ⟨pu_bl, va_recv hK hP (ci := 9) (q0 := 0) rfl rfl, pu_in hP hK hD⟩ rfl rfl hl.1 rfl (lv_room (Nat.le_of_ble_eq_true rfl)) dX9_lets_106 ⟨Nat.le_of_ble_eq_true rfl, Nat.le_of_ble_eq_true rfl⟩) hS (fun q _ h => hFc q h) hFc (fun u t H1 locs ht hvm hw hB hz1 hk1 hS => ?_)
              obtain ⟨z35_183, ⟨hP1, -, hD1⟩, xr_182_0⟩ := hB
              rw [ht] at hP1
              have hP := hP1
              have hD := pu_all hFc hD1
              clear hP1 hD1 hFc
              clear hk1 hz1 ht hvm
              generalize H1 = H at hP hS ⊢
              replace hsp := hsp.trans (slet_eq xr_182_0)
              refine lv_aload_n hx hb dX9_lets_109 rfl (lv_at hl 0 rfl) ?_
              refine lv_iconst (v := 1) hx hb dX9_lets_110 (by decide) ?_
              refine lv_aload_n hx hb dX9_lets_111 rfl (lv_at hl 0 rfl) ?_
              refine va_get (D := (dC, dI)) (ci := 9) (v := .ref (ad 15)) (C := RX9) (T := TX9) (N := 67) hx hb hts hiX9 hown hK hP 0 rfl rfl 15 (by decide) v_28 (fun _ h9 => h9) rfl dX9_lets_112 ?_
              refine lv_aload_n hx hb dX9_lets_115 rfl (lv_at hl 0 rfl) ?_
              refine va_get (D := (dC, dI)) (ci := 9) (v := .int (nI x16)) (C := RX9) (T := TX9) (N := 67) hx hb hts hiX9 hown hK hP 0 rfl rfl 16 (by decide) v_29 (fun _ h9 => h9) rfl dX9_lets_116 ?_
              refine va_iald hx hb hK hP 15 14 rfl rfl (vp_in_nI (n := x16) (Nat.lt_of_le_of_lt hx16 (Nat.le_of_ble_eq_true rfl)) (Nat.le_of_ble_eq_true rfl)) dX9_lets_119 ?_
              refine lv_topi (fun y_184 ey_184 => ?_)
              obtain ⟨u_185, hu_185, fu_185, xu_185⟩ := b2m_getx (a := m15_0) (b := m15_1) (i := x16) (by omega)
              have qy_184 := ey_184.trans fu_185
              replace hsp := hsp.trans (slet_eq xu_185)
              rcases mI_get u_185 with ⟨zy_184, wy_184⟩ | ⟨vy_184, zy_184, wy_184⟩
              · exfalso
                have hbq : bkN x16 m13_0 m13_1 = (if x16 = 0 then m13_0 else m13_1) := rfl
                have hbk := hbg_bk hbg
                omega
              · obtain rfl : y_184 = nI vy_184 := qy_184.trans wy_184
                replace hsp := hsp.trans (slet_eq (by omega : vy_184 = u_185 - 1))
                refine lv_iconst (v := 2) hx hb dX9_lets_120 (by decide) ?_
                refine lv_iconst (v := 1) hx hb dX9_lets_121 (by decide) ?_
                refine lv_bipush (v := 120) hx hb dX9_lets_122 (by decide) ?_
                refine lv_iconst (v := (-1)) hx hb dX9_lets_124 (by decide) ?_
                have hFc := pu_free hD hS hA
                refine va_callv (va_runV (As := [.int 1, .int (nI vy_184), .int 2, .int 1, .int 120, .int (-1)]) (rest := []) ⟨hx, hb, hml, hown, hts⟩ (c_EM_explores_1_120 l dC dI _ ad ck 0 x16 x18 x19 x20 x21 x22 x23 x24 x25 x26 x27 x28 x29 x30 x33 x45 (u_180 + 1) x52 x53 x61 x62 x63 x65 x66 f1 f2 f3 q4 q5 q6 q7 f8 q9 q10 f_178 m12_0 m12_1 m13_0 m13_1 m14_0 m14_1 m15_0 m15_1 f17 q31 f32 g_150 z35_183 f36 f37 g_152 g_153 g_154 g_155 m42_0 g_160 g_156 g_157 g_158 g_159 f49 f50 f51 q54 q55 q56 f57 q58 f59 f60 f64 vy_184 2 1 (-1) hx16 hx18 hx19 hx21 hx22 hx26 hx28 hx29 hx30 hx33 (by omega) hx52 hx53 hx61 hx62 hx63 hx65 hm12_0 hm12_1 hm13_0 hm13_1 hm14_0 hm14_1 hm15_0 hm15_1 hm42_0 hg_160 (by omega) (Nat.le_of_ble_eq_true rfl) (by first | assumption | exact gz_0)) (cwV 6 hts g_EM_lets_EM_explores_1_120 rfl rfl rfl (by decide +kernel) ⟨Nat.le_of_ble_eq_true rfl, Nat.le_of_ble_eq_true rfl⟩) ⟨pu_bl, va_recv hK hP (ci := 9) (q0 := 0) rfl rfl, pu_in hP hK hD⟩ rfl rfl hl.1 rfl (lv_room (Nat.le_of_ble_eq_true rfl)) dX9_lets_125 ⟨Nat.le_of_ble_eq_true rfl, Nat.le_of_ble_eq_true rfl⟩) hS (fun q _ h => hFc q h) hFc (fun u t H1 locs ht hvm hw hB hz1 hk1 hS => ?_)
                obtain ⟨z34_187, z35_188, z38_189, z39_190, z40_191, z41_192, z43_193, z44_194, z47_195, z48_196, z42_1_197, ⟨hP1, -, hD1⟩, hz42_1_197, xr_186_0, xr_186_1⟩ := hB
                rw [ht] at hP1
                have hP := hP1
                have hD := pu_all hFc hD1
                clear hP1 hD1 hFc
                clear hk1 hz1 ht hvm
                generalize H1 = H at hP hS ⊢
                replace hsp := hsp.trans (slet_eq xr_186_1)
                refine lv_aload_n hx hb dX9_lets_128 rfl (lv_at hl 0 rfl) ?_
                refine lv_iconst (v := 1) hx hb dX9_lets_129 (by decide) ?_
                refine lv_iload_n hx hb dX9_lets_130 rfl (lv_at hl 3 rfl) ?_
                refine va_calli (va_runV (As := [.int 1, .int (nI n_108)]) (rest := []) ⟨hx, hb, hml, hown, hts⟩ (c_EM_hasPlace_1 l dC dI _ ad ck 0 x16 x18 x19 x20 x21 x22 x23 x24 x25 x26 x27 x28 x29 x30 x33 x45 (u_180 + 1) x52 x53 x61 x62 x63 x65 x66 f1 f2 f3 q4 q5 q6 q7 f8 q9 q10 f_178 m12_0 m12_1 m13_0 m13_1 m14_0 m14_1 m15_0 m15_1 f17 q31 f32 z34_187 z35_188 f36 f37 z38_189 z39_190 z40_191 z41_192 m42_0 z42_1_197 z43_193 z44_194 z47_195 z48_196 f49 f50 f51 q54 q55 q56 f57 q58 f59 f60 f64 (nI n_108) hx16 hx18 hx19 hx21 hx22 hx26 hx28 hx29 hx30 hx33 (by omega) hx52 hx53 hx61 hx62 hx63 hx65 hm12_0 hm12_1 hm13_0 hm13_1 hm14_0 hm14_1 hm15_0 hm15_1 hm42_0 (Nat.le_trans hz42_1_197 (Nat.le_of_ble_eq_true rfl))) (cwV 2 hts g_EM_lets_EM_hasPlace_1 rfl rfl rfl (by decide +kernel) ⟨Nat.le_of_ble_eq_true rfl, Nat.le_of_ble_eq_true rfl⟩) ⟨pu_bl, va_recv hK hP (ci := 9) (q0 := 0) rfl rfl, pu_in hP hK hD⟩ rfl rfl hl.1 rfl (lv_room (Nat.le_of_ble_eq_true rfl)) dX9_lets_131 ⟨Nat.le_of_ble_eq_true rfl, Nat.le_of_ble_eq_true rfl⟩) hS (fun q _ h => pu_fr hS hA q h) (pu_fr hS hA) (fun r_198 u t H1 locs ht hvm hw hB hz1 hk1 hS => ?_)
                have hP := pu_keep hP hk1
                clear hk1 hz1 ht hvm
                generalize H1 = H at hP hS ⊢
                obtain ⟨u_199, hu_199, rfl, iu_199⟩ := hw
                replace hsp := hsp.trans (slet_eq iu_199)
                obtain ⟨JR_203, hJR_203, hsp⟩ := slet_ex hsp
                refine pu_join (fun H locs ls st => ∃ (g_200 : Int32), st = [.int g_200] ∧ gz_ok m42_0 z39_190 z40_191 z41_192 ∧ g_200 = JR_203 ∧ va_P (dC, dI) vwCl (mo_w ad ck 0 (nI x16) (nI x18) (nI x19) x20 (nI x21) (nI x22) x23 x24 x25 (nI x26) x27 (nI x28) (nI x29) (nI x30) (nI x33) x45 (nI (u_180 + 1)) (nI x52) (nI x53) (nI x61) (nI x62) (nI x63) (nI x65) x66 f1 f2 f3 (bN 3 q4) (bN 7 q5) (bN 7 q6) (bN 4 q7) f8 (bN 2 q9) (bH q10) f_178 (b2 m12_0 m12_1) (b2 m13_0 m13_1) (b2 m14_0 m14_1) (b2m m15_0 m15_1) f17 (bA 159 q31) f32 z34_187 z35_188 f36 f37 (bN 7 z38_189) z39_190 z40_191 z41_192 (b2 m42_0 z42_1_197) z43_193 z44_194 z47_195 z48_196 f49 f50 f51 (bN 13 q54) (bN 120 q55) (bN 120 q56) f57 (bN 120 q58) f59 f60 f64) H ∧ va_D A (mo_w ad ck 0 (nI x16) (nI x18) (nI x19) x20 (nI x21) (nI x22) x23 x24 x25 (nI x26) x27 (nI x28) (nI x29) (nI x30) (nI x33) x45 (nI (u_180 + 1)) (nI x52) (nI x53) (nI x61) (nI x62) (nI x63) (nI x65) x66 f1 f2 f3 (bN 3 q4) (bN 7 q5) (bN 7 q6) (bN 4 q7) f8 (bN 2 q9) (bH q10) f_178 (b2 m12_0 m12_1) (b2 m13_0 m13_1) (b2 m14_0 m14_1) (b2m m15_0 m15_1) f17 (bA 159 q31) f32 z34_187 z35_188 f36 f37 (bN 7 z38_189) z39_190 z40_191 z41_192 (b2 m42_0 z42_1_197) z43_193 z44_194 z47_195 z48_196 f49 f50 f51 (bN 13 q54) (bN 120 q55) (bN 120 q56) f57 (bN 120 q58) f59 f60 f64) ∧ va_S A s.heap H locs ∧ lv_has ls 9 [(0, .ref (ad 0)), (1, .int (nI (100 + n_3))), (2, .int (nI n_4)), (3, .int (nI n_108)), (4, .int (nI n_110)), (5, .int (nI (80 * x16 + (56 + 3 * ((100 + n_3) - 100)) + n_4))), (6, .int y_112), (7, .int g_162), (8, .int (nI g_163))]) 149 ?_ (fun j_202 => ?_)
                · rintro H locs ls st ⟨g_200, rfl, he_201, he_204, hP, hD, hS, hl⟩
                  rw [← he_204] at hsp
                  refine lv_istore (lv' := [(7, .int g_200), (0, .ref (ad 0)), (1, .int (nI (100 + n_3))), (2, .int (nI n_4)), (3, .int (nI n_108)), (4, .int (nI n_110)), (5, .int (nI (80 * x16 + (56 + 3 * ((100 + n_3) - 100)) + n_4))), (6, .int y_112), (8, .int (nI g_163))]) hx hb dX9_lets_149 hl (by decide) rfl (fun ls hl => ?_)
                  refine lv_iinc (v := (nI (g_163 + 1))) (lv' := [(8, .int (nI (g_163 + 1))), (7, .int g_200), (0, .ref (ad 0)), (1, .int (nI (100 + n_3))), (2, .int (nI n_4)), (3, .int (nI n_108)), (4, .int (nI n_110)), (5, .int (nI (80 * x16 + (56 + 3 * ((100 + n_3) - 100)) + n_4))), (6, .int y_112)]) hx hb dX9_lets_151 hl (k := 8) rfl (nI_1 _) (by decide) rfl (fun ls hl => ?_)
                  refine lv_goto (tgt := 58) hx hb dX9_lets_154 (by decide) ?_
                  exact ih_165 (21 - (g_163 + 1)) (by omega) _ _ _ ⟨f_178, z34_187, z35_188, z38_189, z39_190, z40_191, z41_192, z43_193, z44_194, z47_195, z48_196, z42_1_197, (u_180 + 1), g_200, (g_163 + 1), rfl, (Nat.le_trans hz42_1_197 (Nat.le_of_ble_eq_true rfl)), (by omega), (by omega), by first | assumption | exact gz_0, hin_169 _ hsp, hP, hD, hS, lv_sub hl [2, 3, 4, 5, 6, 7, 8, 1, 0] rfl⟩
                have hsp := hJR_203
                refine lv_if_eq (tgt := 147) hx hb dX9_lets_134 (by decide) (fun c_205 => ?_) (fun c_205 => ?_)
                · have c_205 : u_199 = 0 := (nI_eq (a := u_199) (b := 0) (Nat.lt_of_le_of_lt hu_199 (Nat.le_of_ble_eq_true rfl)) (Nat.le_of_ble_eq_true rfl)).mp c_205
                  replace hsp := hsp.trans (if_pos c_205)
                  refine lv_iload hx hb dX9_lets_147 (lv_at hl 7 rfl) ?_
                  exact j_202 _ _ _ _ ⟨g_162, rfl, by first | assumption | exact gz_0, hsp.symm, hP, hD, hS, lv_sub hl [0, 1, 2, 3, 4, 5, 6, 7, 8] rfl⟩
                · have c_205 : ¬ u_199 = 0 := fun z => c_205 ((nI_eq (a := u_199) (b := 0) (Nat.lt_of_le_of_lt hu_199 (Nat.le_of_ble_eq_true rfl)) (Nat.le_of_ble_eq_true rfl)).mpr z)
                  replace hsp := hsp.trans (if_neg c_205)
                  refine lv_aload_n hx hb dX9_lets_137 rfl (lv_at hl 0 rfl) ?_
                  refine va_get (D := (dC, dI)) (ci := 9) (v := .ref (ad 11)) (C := RX9) (T := TX9) (N := 67) hx hb hts hiX9 hown hK hP 0 rfl rfl 11 (by decide) v_18 (fun _ h9 => h9) rfl dX9_lets_138 ?_
                  refine lv_iload hx hb dX9_lets_141 (lv_at hl 5 rfl) ?_
                  refine va_iald hx hb hK hP 11 10 rfl rfl (vp_in_nI (n := (80 * x16 + (56 + 3 * ((100 + n_3) - 100)) + n_4)) (by omega) (Nat.le_of_ble_eq_true rfl)) dX9_lets_143 ?_
                  refine lv_topi (fun y_206 ey_206 => ?_)
                  have ey_206 : y_206 = f_178 (80 * x16 + (56 + 3 * ((100 + n_3) - 100)) + n_4) := ey_206.trans (congrArg f_178 (nI_clamp (n := (80 * x16 + (56 + 3 * ((100 + n_3) - 100)) + n_4)) (by first | omega | exact Nat.lt_trans (sp_ix (by omega) (by omega) (by omega)) (by decide : 14641 < 2 ^ 31) | exact Nat.lt_trans (sp_ix0 (by omega) (by omega)) (by decide : 14641 < 2 ^ 31) | exact Nat.lt_trans (zx16 (by omega) (by omega) (by omega)) (Nat.le_of_ble_eq_true rfl) | exact Nat.lt_trans (zy16 (by omega) (by omega)) (Nat.le_of_ble_eq_true rfl) | exact Nat.lt_trans (zx25 (by omega) (by omega) (by omega)) (Nat.le_of_ble_eq_true rfl) | exact Nat.lt_trans (zy25 (by omega) (by omega)) (Nat.le_of_ble_eq_true rfl))))
                  replace hsp := hsp.trans (slet_eq ey_206)
                  refine lv_goto (tgt := 149) hx hb dX9_lets_144 (by decide) ?_
                  exact j_202 _ _ _ _ ⟨y_206, rfl, by first | assumption | exact gz_0, hsp.symm, hP, hD, hS, lv_sub hl [0, 1, 2, 3, 4, 5, 6, 7, 8] rfl⟩
            have hsp := hJR_176
            refine lv_if_ne (tgt := 86) hx hb dX9_lets_78 (by decide) (fun c_207 => ?_) (fun c_207 => ?_)
            · have c_207 : ¬ n_110 = 0 := fun z => c_207 ((nI_eq (a := n_110) (b := 0) (by omega) (Nat.le_of_ble_eq_true rfl)).mpr z)
              replace hsp := hsp.trans (if_neg c_207)
              refine lv_bipush (v := 20) hx hb dX9_lets_86 (by decide) ?_
              refine lv_iload hx hb dX9_lets_88 (lv_at hl 8 rfl) ?_
              refine lv_isub hx hb dX9_lets_90 ?_
              refine lv_topi (fun y_208 ey_208 => ?_)
              obtain rfl : y_208 = (nI (20 - g_163)) := ey_208.trans (pk_sub (a := 20) (b := g_163) (by omega))
              exact j_175 _ _ _ _ ⟨(20 - g_163), rfl, (by omega), by first | assumption | exact gz_0, hsp.symm, hP, hD, hS, lv_sub hl [0, 1, 2, 3, 4, 5, 6, 7, 8] rfl⟩
            · have c_207 : n_110 = 0 := (nI_eq (a := n_110) (b := 0) (by omega) (Nat.le_of_ble_eq_true rfl)).mp c_207
              replace hsp := hsp.trans (if_pos c_207)
              refine lv_iload hx hb dX9_lets_81 (lv_at hl 8 rfl) ?_
              refine lv_goto (tgt := 91) hx hb dX9_lets_83 (by decide) ?_
              exact j_175 _ _ _ _ ⟨g_163, rfl, (by omega), by first | assumption | exact gz_0, hsp.symm, hP, hD, hS, lv_sub hl [0, 1, 2, 3, 4, 5, 6, 7, 8] rfl⟩
      · replace hsp := hsp.trans (if_neg hi3)
        refine lv_if_ne (tgt := 34) hx hb dX9_lets_29 (by decide) (fun z => absurd z (by decide)) (fun _ => ?_)
        refine lv_iconst (v := (-1)) hx hb dX9_lets_32 (by decide) ?_
        exact W.iret (v := (-1)) hx hb hr (fun t ht hW => ⟨⟨(-1), (), rfl, (congrArg Prod.fst (hsp.symm.trans hRR)), ⟨f11, f34, f35, q38, f39, f40, f41, f43, f44, f47, f48, m42_1, 0, x46, ⟨by rw [ht]; exact hP, va_K.moved hW.alike hK, hD⟩, hm42_1, hx46, by first | assumption | exact gz_0, (congrArg Prod.snd (hsp.symm.trans hRR))⟩⟩, hS.F ht⟩) hS.2.2 dX9_lets_33
    · replace hsp := hsp.trans (if_neg hn)
      refine lv_if_eq (tgt := 32) hx hb dX9_lets_19 (by decide) (fun _ => ?_) (fun z => absurd z (by decide))
      refine lv_iconst (v := (-1)) hx hb dX9_lets_32 (by decide) ?_
      exact W.iret (v := (-1)) hx hb hr (fun t ht hW => ⟨⟨(-1), (), rfl, (congrArg Prod.fst (hsp.symm.trans hRR)), ⟨f11, f34, f35, q38, f39, f40, f41, f43, f44, f47, f48, m42_1, 0, x46, ⟨by rw [ht]; exact hP, va_K.moved hW.alike hK, hD⟩, hm42_1, hx46, by first | assumption | exact gz_0, (congrArg Prod.snd (hsp.symm.trans hRR))⟩⟩, hS.F ht⟩) hS.2.2 dX9_lets_33
  · replace hsp := hsp.trans (if_neg (by decide))
    refine lv_if_eq (tgt := 32) hx hb dX9_lets_11 (by decide) (fun _ => ?_) (fun z => absurd z (by decide))
    refine lv_iconst (v := (-1)) hx hb dX9_lets_32 (by decide) ?_
    exact W.iret (v := (-1)) hx hb hr (fun t ht hW => ⟨⟨(-1), (), rfl, (congrArg Prod.fst (hsp.symm.trans hRR)), ⟨f11, f34, f35, q38, f39, f40, f41, f43, f44, f47, f48, m42_1, 0, x46, ⟨by rw [ht]; exact hP, va_K.moved hW.alike hK, hD⟩, hm42_1, hx46, by first | assumption | exact gz_0, (congrArg Prod.snd (hsp.symm.trans hRR))⟩⟩, hS.F ht⟩) hS.2.2 dX9_lets_33
