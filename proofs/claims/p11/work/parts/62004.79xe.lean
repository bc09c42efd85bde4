theorem eX4_reads_0 : decode cX4_reads 0 = .ok (.aload_n 0, 1) := by decide +kernel
theorem eX4_reads_1 : decode cX4_reads 1 = .ok (.aload_n 1, 1) := by decide +kernel
theorem eX4_reads_2 : decode cX4_reads 2 = .ok (.putfield 55, 3) := by decide +kernel
theorem eX4_reads_5 : decode cX4_reads 5 = .ok (.aload_n 0, 1) := by decide +kernel
theorem eX4_reads_6 : decode cX4_reads 6 = .ok (.iload_n 2, 1) := by decide +kernel
theorem eX4_reads_7 : decode cX4_reads 7 = .ok (.putfield 58, 3) := by decide +kernel
theorem eX4_reads_10 : decode cX4_reads 10 = .ok (.aload_n 0, 1) := by decide +kernel
theorem eX4_reads_11 : decode cX4_reads 11 = .ok (.iconst 0, 1) := by decide +kernel
theorem eX4_reads_12 : decode cX4_reads 12 = .ok (.putfield 60, 3) := by decide +kernel
theorem eX4_reads_15 : decode cX4_reads 15 = .ok (.aload_n 0, 1) := by decide +kernel
theorem eX4_reads_16 : decode cX4_reads 16 = .ok (.iconst 0, 1) := by decide +kernel
theorem eX4_reads_17 : decode cX4_reads 17 = .ok (.putfield 63, 3) := by decide +kernel
theorem eX4_reads_20 : decode cX4_reads 20 = .ok (.aload_n 0, 1) := by decide +kernel
theorem eX4_reads_21 : decode cX4_reads 21 = .ok (.iconst (-1), 1) := by decide +kernel
theorem eX4_reads_22 : decode cX4_reads 22 = .ok (.putfield 9, 3) := by decide +kernel
theorem eX4_reads_25 : decode cX4_reads 25 = .ok (.aload_n 0, 1) := by decide +kernel
theorem eX4_reads_26 : decode cX4_reads 26 = .ok (.aload_n 3, 1) := by decide +kernel
theorem eX4_reads_27 : decode cX4_reads 27 = .ok (.putfield 66, 3) := by decide +kernel
theorem eX4_reads_30 : decode cX4_reads 30 = .ok (.aload_n 0, 1) := by decide +kernel
theorem eX4_reads_31 : decode cX4_reads 31 = .ok (.getfield 66, 3) := by decide +kernel
theorem eX4_reads_34 : decode cX4_reads 34 = .ok (.invokevirtual 70, 3) := by decide +kernel
theorem eX4_reads_37 : decode cX4_reads 37 = .ok (.aload_n 0, 1) := by decide +kernel
theorem eX4_reads_38 : decode cX4_reads 38 = .ok (.invokevirtual 75, 3) := by decide +kernel
theorem eX4_reads_41 : decode cX4_reads 41 = .ok (.iconst 0, 1) := by decide +kernel
theorem eX4_reads_42 : decode cX4_reads 42 = .ok (.istore 4, 2) := by decide +kernel
theorem eX4_reads_44 : decode cX4_reads 44 = .ok (.iload 4, 2) := by decide +kernel
theorem eX4_reads_46 : decode cX4_reads 46 = .ok (.aload_n 0, 1) := by decide +kernel
theorem eX4_reads_47 : decode cX4_reads 47 = .ok (.getfield 58, 3) := by decide +kernel
theorem eX4_reads_50 : decode cX4_reads 50 = .ok (.if_icmp .gt 101, 3) := by decide +kernel
theorem eX4_reads_53 : decode cX4_reads 53 = .ok (.aload_n 0, 1) := by decide +kernel
theorem eX4_reads_54 : decode cX4_reads 54 = .ok (.getfield 78, 3) := by decide +kernel
theorem eX4_reads_57 : decode cX4_reads 57 = .ok (.iconst 1, 1) := by decide +kernel
theorem eX4_reads_58 : decode cX4_reads 58 = .ok (.if_icmp .eq 93, 3) := by decide +kernel
theorem eX4_reads_61 : decode cX4_reads 61 = .ok (.aload_n 0, 1) := by decide +kernel
theorem eX4_reads_62 : decode cX4_reads 62 = .ok (.getfield 78, 3) := by decide +kernel
theorem eX4_reads_65 : decode cX4_reads 65 = .ok (.bipush 8, 2) := by decide +kernel
theorem eX4_reads_67 : decode cX4_reads 67 = .ok (.if_icmp .ne 10, 3) := by decide +kernel
theorem eX4_reads_70 : decode cX4_reads 70 = .ok (.aload_n 0, 1) := by decide +kernel
theorem eX4_reads_71 : decode cX4_reads 71 = .ok (.invokevirtual 81, 3) := by decide +kernel
theorem eX4_reads_74 : decode cX4_reads 74 = .ok (.goto 55, 3) := by decide +kernel
theorem eX4_reads_77 : decode cX4_reads 77 = .ok (.aload_n 0, 1) := by decide +kernel
theorem eX4_reads_78 : decode cX4_reads 78 = .ok (.getfield 78, 3) := by decide +kernel
theorem eX4_reads_81 : decode cX4_reads 81 = .ok (.bipush 9, 2) := by decide +kernel
theorem eX4_reads_83 : decode cX4_reads 83 = .ok (.if_icmp .ne 10, 3) := by decide +kernel
theorem eX4_reads_86 : decode cX4_reads 86 = .ok (.aload_n 0, 1) := by decide +kernel
theorem eX4_reads_87 : decode cX4_reads 87 = .ok (.invokevirtual 85, 3) := by decide +kernel
theorem eX4_reads_90 : decode cX4_reads 90 = .ok (.goto 39, 3) := by decide +kernel
theorem eX4_reads_93 : decode cX4_reads 93 = .ok (.aload_n 0, 1) := by decide +kernel
theorem eX4_reads_94 : decode cX4_reads 94 = .ok (.getfield 78, 3) := by decide +kernel
theorem eX4_reads_97 : decode cX4_reads 97 = .ok (.bipush 12, 2) := by decide +kernel
theorem eX4_reads_99 : decode cX4_reads 99 = .ok (.if_icmp .ne 10, 3) := by decide +kernel
theorem eX4_reads_102 : decode cX4_reads 102 = .ok (.aload_n 0, 1) := by decide +kernel
theorem eX4_reads_103 : decode cX4_reads 103 = .ok (.invokevirtual 88, 3) := by decide +kernel
theorem eX4_reads_106 : decode cX4_reads 106 = .ok (.goto 23, 3) := by decide +kernel
theorem eX4_reads_109 : decode cX4_reads 109 = .ok (.aload_n 0, 1) := by decide +kernel
theorem eX4_reads_110 : decode cX4_reads 110 = .ok (.getfield 78, 3) := by decide +kernel
theorem eX4_reads_113 : decode cX4_reads 113 = .ok (.bipush 13, 2) := by decide +kernel
theorem eX4_reads_115 : decode cX4_reads 115 = .ok (.if_icmp .ne 10, 3) := by decide +kernel
theorem eX4_reads_118 : decode cX4_reads 118 = .ok (.aload_n 0, 1) := by decide +kernel
theorem eX4_reads_119 : decode cX4_reads 119 = .ok (.invokevirtual 91, 3) := by decide +kernel
theorem eX4_reads_122 : decode cX4_reads 122 = .ok (.goto 7, 3) := by decide +kernel
theorem eX4_reads_125 : decode cX4_reads 125 = .ok (.aload_n 0, 1) := by decide +kernel
theorem eX4_reads_126 : decode cX4_reads 126 = .ok (.invokevirtual 94, 3) := by decide +kernel
theorem eX4_reads_129 : decode cX4_reads 129 = .ok (.istore 5, 2) := by decide +kernel
theorem eX4_reads_131 : decode cX4_reads 131 = .ok (.iload 5, 2) := by decide +kernel
theorem eX4_reads_133 : decode cX4_reads 133 = .ok (.ifCond .eq 10, 3) := by decide +kernel
theorem eX4_reads_136 : decode cX4_reads 136 = .ok (.aload_n 0, 1) := by decide +kernel
theorem eX4_reads_137 : decode cX4_reads 137 = .ok (.invokevirtual 97, 3) := by decide +kernel
theorem eX4_reads_140 : decode cX4_reads 140 = .ok (.ifCond .ne 5, 3) := by decide +kernel
theorem eX4_reads_143 : decode cX4_reads 143 = .ok (.iconst 0, 1) := by decide +kernel
theorem eX4_reads_144 : decode cX4_reads 144 = .ok (.ireturn, 1) := by decide +kernel
theorem eX4_reads_145 : decode cX4_reads 145 = .ok (.iinc 4 1, 3) := by decide +kernel
theorem eX4_reads_148 : decode cX4_reads 148 = .ok (.goto (-104), 3) := by decide +kernel
theorem eX4_reads_151 : decode cX4_reads 151 = .ok (.aload_n 0, 1) := by decide +kernel
theorem eX4_reads_152 : decode cX4_reads 152 = .ok (.getfield 66, 3) := by decide +kernel
theorem eX4_reads_155 : decode cX4_reads 155 = .ok (.getfield 100, 3) := by decide +kernel
theorem eX4_reads_158 : decode cX4_reads 158 = .ok (.ifCond .ne 10, 3) := by decide +kernel
theorem eX4_reads_161 : decode cX4_reads 161 = .ok (.aload_n 0, 1) := by decide +kernel
theorem eX4_reads_162 : decode cX4_reads 162 = .ok (.bipush 6, 2) := by decide +kernel
theorem eX4_reads_164 : decode cX4_reads 164 = .ok (.invokevirtual 103, 3) := by decide +kernel
theorem eX4_reads_167 : decode cX4_reads 167 = .ok (.ireturn, 1) := by decide +kernel
theorem eX4_reads_168 : decode cX4_reads 168 = .ok (.aload_n 0, 1) := by decide +kernel
theorem eX4_reads_169 : decode cX4_reads 169 = .ok (.getfield 66, 3) := by decide +kernel
theorem eX4_reads_172 : decode cX4_reads 172 = .ok (.aload_n 0, 1) := by decide +kernel
theorem eX4_reads_173 : decode cX4_reads 173 = .ok (.getfield 66, 3) := by decide +kernel
theorem eX4_reads_176 : decode cX4_reads 176 = .ok (.getfield 107, 3) := by decide +kernel
theorem eX4_reads_179 : decode cX4_reads 179 = .ok (.iconst 0, 1) := by decide +kernel
theorem eX4_reads_180 : decode cX4_reads 180 = .ok (.invokestatic 109, 3) := by decide +kernel
theorem eX4_reads_183 : decode cX4_reads 183 = .ok (.putfield 107, 3) := by decide +kernel
theorem eX4_reads_186 : decode cX4_reads 186 = .ok (.aload_n 0, 1) := by decide +kernel
theorem eX4_reads_187 : decode cX4_reads 187 = .ok (.getfield 66, 3) := by decide +kernel
theorem eX4_reads_190 : decode cX4_reads 190 = .ok (.invokevirtual 115, 3) := by decide +kernel
theorem eX4_reads_193 : decode cX4_reads 193 = .ok (.iconst 1, 1) := by decide +kernel
theorem eX4_reads_194 : decode cX4_reads 194 = .ok (.ireturn, 1) := by decide +kernel
abbrev vs_E_4_reads : List Cond := .code yX4_reads cX4_reads 6 (some .boolean) :: CM
theorem g_E_4_reads_E_0_clear : GoodIn vs_E_4_reads (wsV RX4 70 RX0 yX0_clear vs_E_0_clear) := cm_gV cm_226 cm_227 cm_228 cm_19 cm_2
theorem g_E_4_reads_E_4_advance : GoodIn vs_E_4_reads (wsV RX4 75 RX4 yX4_advance vs_E_4_advance) := cm_gV cm_229 cm_230 cm_231 cm_232 cm_233
theorem g_E_4_reads_E_0_measure : GoodIn vs_E_4_reads (wsV RX4 115 RX0 yX0_measure vs_E_0_measure) := cm_gV cm_314 cm_29 cm_30 cm_19 cm_31
theorem g_E_4_reads_E_4_refuse : GoodIn vs_E_4_reads (wsV RX4 103 RX4 yX4_refuse vs_E_4_refuse) := cm_gV cm_255 cm_256 cm_257 cm_232 cm_258
theorem g_E_4_reads_E_4_readsStop : GoodIn vs_E_4_reads (wsV RX4 97 RX4 yX4_readsStop vs_E_4_readsStop) := cm_gV cm_310 cm_311 cm_312 cm_232 cm_313
theorem g_E_4_reads_E_4_refuseToken : GoodIn vs_E_4_reads (wsV RX4 94 RX4 yX4_refuseToken vs_E_4_refuseToken) := cm_gV cm_264 cm_265 cm_266 cm_232 cm_267
theorem g_E_4_reads_E_4_readsEdge : GoodIn vs_E_4_reads (wsV RX4 91 RX4 yX4_readsEdge vs_E_4_readsEdge) := cm_gV cm_297 cm_298 cm_299 cm_232 cm_300
theorem g_E_4_reads_E_4_readsStart : GoodIn vs_E_4_reads (wsV RX4 88 RX4 yX4_readsStart vs_E_4_readsStart) := cm_gV cm_293 cm_294 cm_295 cm_232 cm_296
theorem g_E_4_reads_E_4_readsPlace : GoodIn vs_E_4_reads (wsV RX4 85 RX4 yX4_readsPlace vs_E_4_readsPlace) := cm_gV cm_272 cm_273 cm_274 cm_232 cm_275
theorem g_E_4_reads_E_4_readsClock : GoodIn vs_E_4_reads (wsV RX4 81 RX4 yX4_readsClock vs_E_4_readsClock) := cm_gV cm_249 cm_250 cm_251 cm_232 cm_252
noncomputable def sp_E_4_reads_L1 (ft : Nat → Int32) (fw : Nat → Int32) (f14 : Nat → Int32) (f15 : Nat → Int32) (f16 : Nat → Int32) (a1 : Nat) : ((Nat → Nat) × (Nat → Nat) × (Nat → Int32) × (Nat → Int32) × (Nat → Int32) × (Nat → Int32) × (Nat → Int32) × (Nat → Int32) × (Nat → Int32) × (Nat → Nat) × (Nat → Nat) × (Nat → Int32) × Int32 × Int32 × Nat × Nat × Int32 × Int32 × Nat × Nat × Nat × Int32 × Nat) → ((Nat → Nat) × (Nat → Nat) × (Nat → Int32) × (Nat → Int32) × (Nat → Int32) × (Nat → Int32) × (Nat → Int32) × (Nat → Int32) × (Nat → Int32) × (Nat → Nat) × (Nat → Nat) × (Nat → Int32) × Int32 × Int32 × Nat × Nat × Int32 × Int32 × Nat × Nat × Nat × Int32 × Nat) ⊕ (Nat × (Nat → Nat) × (Nat → Nat) × (Nat → Int32) × (Nat → Int32) × (Nat → Int32) × (Nat → Int32) × (Nat → Int32) × (Nat → Int32) × (Nat → Int32) × (Nat → Int32) × (Nat → Int32) × (Nat → Int32) × (Nat → Nat) × (Nat → Nat) × (Nat → Int32) × Int32 × Int32 × Nat × Nat × Nat × Int32 × Int32 × Nat × Nat × Nat × Int32) := fun (g_33, g_34, g_35, g_36, g_37, g_38, g_39, g_40, g_41, g_42, g_43, g_44, g_45, g_46, g_47, g_48, g_49, g_50, g_51, g_52, g_53, g_54, g_55) => (if a1 < g_55 then (Sum.inr (if g_52 = 0 then (slet (sp_E_4_refuse g_50 6) (fun (z_fa_78, z_fat_79) => (0, g_33, g_34, g_35, g_36, g_37, g_38, f14, f15, f16, g_39, g_40, g_41, g_42, g_43, g_44, z_fa_78, z_fat_79, a1, g_47, g_48, g_49, g_50, g_51, g_52, g_53, g_54))) else (if (g_54 : Int32) = -1 then (slet (sp_E_0_measure g_33 g_34 g_35 g_36 f14 f15 f16) (fun (z_f14_69, z_f15_70, z_f16_71) => (1, g_33, g_34, g_35, g_36, g_37, g_38, z_f14_69, z_f15_70, z_f16_71, g_39, g_40, g_41, g_42, g_43, g_44, g_45, g_46, a1, g_47, g_48, g_49, g_50, g_51, g_52, g_53, 0))) else (slet ((g_54 : Int32).toNatClampNeg) (fun n_66 => (slet (sp_E_0_measure g_33 g_34 g_35 g_36 f14 f15 f16) (fun (z_f14_74, z_f15_75, z_f16_76) => (1, g_33, g_34, g_35, g_36, g_37, g_38, z_f14_74, z_f15_75, z_f16_76, g_39, g_40, g_41, g_42, g_43, g_44, g_45, g_46, a1, g_47, g_48, g_49, g_50, g_51, g_52, g_53, (nI n_66))))))))) else (if g_48 = 1 then (Sum.inr (if g_52 = 0 then (slet (sp_E_4_refuse g_50 6) (fun (z_fa_95, z_fat_96) => (0, g_33, g_34, g_35, g_36, g_37, g_38, f14, f15, f16, g_39, g_40, g_41, g_42, g_43, g_44, z_fa_95, z_fat_96, a1, g_47, g_48, g_49, g_50, g_51, g_52, g_53, g_54))) else (if (g_54 : Int32) = -1 then (slet (sp_E_0_measure g_33 g_34 g_35 g_36 f14 f15 f16) (fun (z_f14_86, z_f15_87, z_f16_88) => (1, g_33, g_34, g_35, g_36, g_37, g_38, z_f14_86, z_f15_87, z_f16_88, g_39, g_40, g_41, g_42, g_43, g_44, g_45, g_46, a1, g_47, g_48, g_49, g_50, g_51, g_52, g_53, 0))) else (slet ((g_54 : Int32).toNatClampNeg) (fun n_83 => (slet (sp_E_0_measure g_33 g_34 g_35 g_36 f14 f15 f16) (fun (z_f14_91, z_f15_92, z_f16_93) => (1, g_33, g_34, g_35, g_36, g_37, g_38, z_f14_91, z_f15_92, z_f16_93, g_39, g_40, g_41, g_42, g_43, g_44, g_45, g_46, a1, g_47, g_48, g_49, g_50, g_51, g_52, g_53, (nI n_83))))))))) else (slet (α := Int32 × Int32 × Nat × Nat × Int32 × Int32 × (Nat → Int32) × (Nat → Int32) × Nat × Nat × Nat × Int32 × (Nat → Int32) × (Nat → Nat) × (Nat → Nat) × (Nat → Int32) × (Nat → Nat) × (Nat → Nat) × (Nat → Int32) × (Nat → Int32) × (Nat → Int32) × (Nat → Int32) × Nat) (if g_48 = 8 then (slet (sp_E_4_readsClock g_45 g_46 a1 g_47 g_48 g_49 g_50 ft fw g_39 g_40 g_51 g_52) (fun (u_194, z_fcn_186, z_fa_187, z_fat_188, z_pos_189, z_kd_190, z_vl_191, z_tka_192, z_nc_193) => (z_fa_187, z_fat_188, z_pos_189, z_kd_190, z_vl_191, z_tka_192, z_fcn_186, g_40, z_nc_193, g_52, g_53, g_54, g_41, g_42, g_43, g_44, g_33, g_34, g_35, g_36, g_37, g_38, u_194))) else (if g_48 = 9 then (slet (sp_E_4_readsPlace g_45 g_46 a1 g_47 g_48 g_49 g_50 ft fw g_39 g_40 g_51 g_52 g_41 g_33 g_34 g_35 g_36 g_37 g_38) (fun (u_184, z_f8_169, z_f9_170, z_f10_171, z_f11_172, z_f12_173, z_f13_174, z_fpn_175, z_f4_176, z_fa_177, z_fat_178, z_pos_179, z_kd_180, z_vl_181, z_tka_182, z_np_183) => (z_fa_177, z_fat_178, z_pos_179, z_kd_180, z_vl_181, z_tka_182, g_39, z_fpn_175, g_51, z_np_183, g_53, g_54, z_f4_176, g_42, g_43, g_44, z_f8_169, z_f9_170, z_f10_171, z_f11_172, z_f12_173, z_f13_174, u_184))) else (if g_48 = 12 then (slet (sp_E_4_readsStart g_45 g_46 a1 g_47 g_48 g_49 g_50 ft fw g_40 g_52 g_54) (fun (u_167, z_fa_160, z_fat_161, z_pos_162, z_kd_163, z_vl_164, z_tka_165, z_st0_166) => (z_fa_160, z_fat_161, z_pos_162, z_kd_163, z_vl_164, z_tka_165, g_39, g_40, g_51, g_52, g_53, z_st0_166, g_41, g_42, g_43, g_44, g_33, g_34, g_35, g_36, g_37, g_38, u_167))) else (if g_48 = 13 then (slet (sp_E_4_readsEdge g_45 g_46 a1 g_47 g_48 g_49 g_50 ft fw g_39 g_40 g_51 g_52 g_53 g_42 g_43 g_44 g_33 g_34 g_35 g_36 g_37 g_38) (fun (u_158, z_f8_142, z_f9_143, z_f10_144, z_f11_145, z_f12_146, z_f13_147, z_f5_148, z_f6_149, z_f7_150, z_fa_151, z_fat_152, z_pos_153, z_kd_154, z_vl_155, z_tka_156, z_ne_157) => (z_fa_151, z_fat_152, z_pos_153, z_kd_154, z_vl_155, z_tka_156, g_39, g_40, g_51, g_52, z_ne_157, g_54, g_41, z_f5_148, z_f6_149, z_f7_150, z_f8_142, z_f9_143, z_f10_144, z_f11_145, z_f12_146, z_f13_147, u_158))) else (slet (sp_E_4_refuseToken g_48 g_50) (fun (z_fa_139, z_fat_140) => (z_fa_139, z_fat_140, g_47, g_48, g_49, g_50, g_39, g_40, g_51, g_52, g_53, g_54, g_41, g_42, g_43, g_44, g_33, g_34, g_35, g_36, g_37, g_38, 0))))))) (fun (g_97, g_98, g_99, g_100, g_101, g_102, g_103, g_104, g_105, g_106, g_107, g_108, g_109, g_110, g_111, g_112, g_113, g_114, g_115, g_116, g_117, g_118, g_119) => (if g_119 = 0 then (Sum.inr (0, g_113, g_114, g_115, g_116, g_117, g_118, f14, f15, f16, g_103, g_104, g_109, g_110, g_111, g_112, g_97, g_98, a1, g_99, g_100, g_101, g_102, g_105, g_106, g_107, g_108)) else (slet (sp_E_4_readsStop g_97 g_98 a1 g_99 g_100 g_101 g_102 ft fw) (fun (u_132, z_fa_126, z_fat_127, z_pos_128, z_kd_129, z_vl_130, z_tka_131) => (if u_132 = 0 then (Sum.inr (0, g_113, g_114, g_115, g_116, g_117, g_118, f14, f15, f16, g_103, g_104, g_109, g_110, g_111, g_112, z_fa_126, z_fat_127, a1, z_pos_128, z_kd_129, z_vl_130, z_tka_131, g_105, g_106, g_107, g_108)) else (Sum.inl (g_113, g_114, g_115, g_116, g_117, g_118, g_103, g_104, g_109, g_110, g_111, g_112, z_fa_126, z_fat_127, z_pos_128, z_kd_129, z_vl_130, z_tka_131, g_105, g_106, g_107, g_108, (g_55 + 1)))))))))))
noncomputable def sp_E_4_reads (vl : Int32) (ft : Nat → Int32) (fw : Nat → Int32) (fcn : Nat → Int32) (fpn : Nat → Int32) (f4 : Nat → Int32) (q_f5 : Nat → Nat) (q_f6 : Nat → Nat) (f7 : Nat → Int32) (q_f8 : Nat → Nat) (q_f9 : Nat → Nat) (f10 : Nat → Int32) (f11 : Nat → Int32) (f12 : Nat → Int32) (f13 : Nat → Int32) (f14 : Nat → Int32) (f15 : Nat → Int32) (f16 : Nat → Int32) (a1 : Nat) : Nat × (Nat → Nat) × (Nat → Nat) × (Nat → Int32) × (Nat → Int32) × (Nat → Int32) × (Nat → Int32) × (Nat → Int32) × (Nat → Int32) × (Nat → Int32) × (Nat → Int32) × (Nat → Int32) × (Nat → Int32) × (Nat → Nat) × (Nat → Nat) × (Nat → Int32) × Int32 × Int32 × Nat × Nat × Nat × Int32 × Int32 × Nat × Nat × Nat × Int32 := (slet (sp_E_0_clear f4 q_f8) (fun (z_f4_2, z_f8_3) => (slet (sp_E_4_advance a1 0 vl ft fw) (fun (z_pos_5, z_kd_6, z_vl_7, z_tka_8) => (itrv (α := (Nat → Nat) × (Nat → Nat) × (Nat → Int32) × (Nat → Int32) × (Nat → Int32) × (Nat → Int32) × (Nat → Int32) × (Nat → Int32) × (Nat → Int32) × (Nat → Nat) × (Nat → Nat) × (Nat → Int32) × Int32 × Int32 × Nat × Nat × Int32 × Int32 × Nat × Nat × Nat × Int32 × Nat) (β := (Nat × (Nat → Nat) × (Nat → Nat) × (Nat → Int32) × (Nat → Int32) × (Nat → Int32) × (Nat → Int32) × (Nat → Int32) × (Nat → Int32) × (Nat → Int32) × (Nat → Int32) × (Nat → Int32) × (Nat → Int32) × (Nat → Nat) × (Nat → Nat) × (Nat → Int32) × Int32 × Int32 × Nat × Nat × Nat × Int32 × Int32 × Nat × Nat × Nat × Int32)) default (sp_E_4_reads_L1 ft fw f14 f15 f16 a1) (z_f8_3, q_f9, f10, f11, f12, f13, fcn, fpn, z_f4_2, q_f5, q_f6, f7, 0, (-1), z_pos_5, z_kd_6, z_vl_7, z_tka_8, 0, 0, 0, (-1), 0))))))
set_option maxHeartbeats 4000000 in
set_option maxRecDepth 100000 in
theorem c_E_4_reads (l : Launch) (dC : Nat → ClassId) (dI : Nat → Nat → Nat) (sz : Nat) (rd : Nat) (fa : Int32) (fat : Int32) (tx0 : Value) (len : Nat) (pos : Nat) (kd : Nat) (vl : Int32) (tka : Int32) (in0 : Value) (rw : Nat) (rc : Nat) (rp : Nat) (tp : Nat) (k_ft : ClassId) (ft : Nat → Int32) (k_fw : ClassId) (fw : Nat → Int32) (k_fcn : ClassId) (fcn : Nat → Int32) (k_fpn : ClassId) (fpn : Nat → Int32) (au : Nat) (nc : Nat) (np : Nat) (ne : Nat) (st0 : Int32) (q4 : Nat) (q5 : Nat) (q6 : Nat) (q7 : Nat) (q8 : Nat) (q9 : Nat) (q10 : Nat) (q11 : Nat) (q12 : Nat) (q13 : Nat) (q14 : Nat) (q15 : Nat) (q16 : Nat) (k_f4 : ClassId) (f4 : Nat → Int32) (k_f5 : ClassId) (q_f5 : Nat → Nat) (k_f6 : ClassId) (q_f6 : Nat → Nat) (k_f7 : ClassId) (f7 : Nat → Int32) (k_f8 : ClassId) (q_f8 : Nat → Nat) (k_f9 : ClassId) (q_f9 : Nat → Nat) (k_f10 : ClassId) (f10 : Nat → Int32) (k_f11 : ClassId) (f11 : Nat → Int32) (k_f12 : ClassId) (f12 : Nat → Int32) (k_f13 : ClassId) (f13 : Nat → Int32) (k_f14 : ClassId) (f14 : Nat → Int32) (k_f15 : ClassId) (f15 : Nat → Int32) (k_f16 : ClassId) (f16 : Nat → Int32) (a1 : Nat) (hlen : len ≤ 900) (hpos : pos ≤ 900) (hkd : kd ≤ 15) (hnc : nc ≤ 3) (hnp : np ≤ 8) (hne : ne ≤ 14) (hst0 : pm1 7 st0) (ha1 : a1 ≤ 900) : Met l yX4_reads vs_E_4_reads ({ frames := 5, cells := 0, slots := 0, locals := 113 }) (va_Pc [.ref rd, .ref tp, .int (nI a1), .ref au] (pu_B (dC, dI) (rb__w rd fa fat (tx0) (nI len) (nI pos) (nI kd) vl tka (in0) rw rc rp tp k_ft ft k_fw fw k_fcn fcn k_fpn fpn au (nI nc) (nI np) (nI ne) st0 q4 q5 q6 q7 q8 q9 q10 q11 q12 q13 q14 q15 q16 k_f4 f4 k_f5 (bN 7 q_f5) k_f6 (bN 7 q_f6) k_f7 f7 k_f8 (bN 4 q_f8) k_f9 (bN 2 q_f9) k_f10 f10 k_f11 f11 k_f12 f12 k_f13 f13 k_f14 f14 k_f15 f15 k_f16 f16) (rb__t k_ft k_fw k_fcn k_fpn k_f4 k_f5 k_f6 k_f7 k_f8 k_f9 k_f10 k_f11 k_f12 k_f13 k_f14 k_f15 k_f16) sz)) (va_Qi (fun (r : Int32) (_ : Unit) => ∃ v : Nat, v ≤ 1 ∧ r = nI v ∧ v = (sp_E_4_reads vl ft fw fcn fpn f4 q_f5 q_f6 f7 q_f8 q_f9 f10 f11 f12 f13 f14 f15 f16 a1).1) (fun _ t => ∃ (z_f8 : Nat → Nat) (z_f9 : Nat → Nat) (z_f10 : Nat → Int32) (z_f11 : Nat → Int32) (z_f12 : Nat → Int32) (z_f13 : Nat → Int32) (z_f14 : Nat → Int32) (z_f15 : Nat → Int32) (z_f16 : Nat → Int32) (z_fcn : Nat → Int32) (z_fpn : Nat → Int32) (z_f4 : Nat → Int32) (z_f5 : Nat → Nat) (z_f6 : Nat → Nat) (z_f7 : Nat → Int32) (z_fa : Int32) (z_fat : Int32) (z_len : Nat) (z_pos : Nat) (z_kd : Nat) (z_vl : Int32) (z_tka : Int32) (z_nc : Nat) (z_np : Nat) (z_ne : Nat) (z_st0 : Int32), pu_E (dC, dI) (rb__w rd z_fa z_fat (.ref tp) (nI z_len) (nI z_pos) (nI z_kd) z_vl z_tka (.ref au) rw rc rp tp k_ft ft k_fw fw k_fcn z_fcn k_fpn z_fpn au (nI z_nc) (nI z_np) (nI z_ne) z_st0 q4 q5 q6 q7 q8 q9 q10 q11 q12 q13 q14 q15 q16 k_f4 z_f4 k_f5 (bN 7 z_f5) k_f6 (bN 7 z_f6) k_f7 z_f7 k_f8 (bN 4 z_f8) k_f9 (bN 2 z_f9) k_f10 z_f10 k_f11 z_f11 k_f12 z_f12 k_f13 z_f13 k_f14 z_f14 k_f15 z_f15 k_f16 z_f16) (rb__t k_ft k_fw k_fcn k_fpn k_f4 k_f5 k_f6 k_f7 k_f8 k_f9 k_f10 k_f11 k_f12 k_f13 k_f14 k_f15 k_f16) (va_A ((rb__w rd fa fat (tx0) (nI len) (nI pos) (nI kd) vl tka (in0) rw rc rp tp k_ft ft k_fw fw k_fcn fcn k_fpn fpn au (nI nc) (nI np) (nI ne) st0 q4 q5 q6 q7 q8 q9 q10 q11 q12 q13 q14 q15 q16 k_f4 f4 k_f5 (bN 7 q_f5) k_f6 (bN 7 q_f6) k_f7 f7 k_f8 (bN 4 q_f8) k_f9 (bN 2 q_f9) k_f10 f10 k_f11 f11 k_f12 f12 k_f13 f13 k_f14 f14 k_f15 f15 k_f16 f16)) sz) t ∧ (z_len ≤ 900) ∧ (z_pos ≤ 900) ∧ (z_kd ≤ 15) ∧ (z_nc ≤ 3) ∧ (z_np ≤ 8) ∧ (z_ne ≤ 14) ∧ (z_st0 = -1 ∨ (∃ q : Nat, q ≤ 7 ∧ z_st0 = nI q)) ∧ ((z_f8, z_f9, z_f10, z_f11, z_f12, z_f13, z_f14, z_f15, z_f16, z_fcn, z_fpn, z_f4, z_f5, z_f6, z_f7, z_fa, z_fat, z_len, z_pos, z_kd, z_vl, z_tka, z_nc, z_np, z_ne, z_st0) = (sp_E_4_reads vl ft fw fcn fpn f4 q_f5 q_f6 f7 q_f8 q_f9 f10 f11 f12 f13 f14 f15 f16 a1).2)) (va_A ((rb__w rd fa fat (tx0) (nI len) (nI pos) (nI kd) vl tka (in0) rw rc rp tp k_ft ft k_fw fw k_fcn fcn k_fpn fpn au (nI nc) (nI np) (nI ne) st0 q4 q5 q6 q7 q8 q9 q10 q11 q12 q13 q14 q15 q16 k_f4 f4 k_f5 (bN 7 q_f5) k_f6 (bN 7 q_f6) k_f7 f7 k_f8 (bN 4 q_f8) k_f9 (bN 2 q_f9) k_f10 f10 k_f11 f11 k_f12 f12 k_f13 f13 k_f14 f14 k_f15 f15 k_f16 f16)) sz)) 0 0 (va_A ((rb__w rd fa fat (tx0) (nI len) (nI pos) (nI kd) vl tka (in0) rw rc rp tp k_ft ft k_fw fw k_fcn fcn k_fpn fpn au (nI nc) (nI np) (nI ne) st0 q4 q5 q6 q7 q8 q9 q10 q11 q12 q13 q14 q15 q16 k_f4 f4 k_f5 (bN 7 q_f5) k_f6 (bN 7 q_f6) k_f7 f7 k_f8 (bN 4 q_f8) k_f9 (bN 2 q_f9) k_f10 f10 k_f11 f11 k_f12 f12 k_f13 f13 k_f14 f14 k_f15 f15 k_f16 f16)) sz) := by
  refine Met.ofW (cc := cX4_reads) (maxL := 6) (ret := (some .boolean)) (by decide) rfl ?_
  intro p e s m args below meth c s₁ B hml hv
  obtain ⟨rfl, rfl, hP, hK, hD0⟩ := hv
  have hx := B.exec
  have hb := B.bytes
  have hr := B.returns
  have hts := atoms_spec (ws := vs_E_4_reads) B.pre
  have v_1 := hts (.fieldLink RX4 55 "ClockReach$Reader" "text" "[I") (List.mem_cons_of_mem _ cm_216)
  have v_2 := hts (.fieldLink RX4 58 "ClockReach$Reader" "length" "I") (List.mem_cons_of_mem _ cm_217)
  have v_3 := hts (.fieldLink RX4 60 "ClockReach$Reader" "position" "I") (List.mem_cons_of_mem _ cm_218)
  have v_4 := hts (.fieldLink RX4 63 "ClockReach$Reader" "fault" "I") (List.mem_cons_of_mem _ cm_219)
  have v_5 := hts (.fieldLink RX4 9 "ClockReach$Reader" "faultAt" "I") (List.mem_cons_of_mem _ cm_220)
  have v_6 := hts (.fieldLink RX4 66 "ClockReach$Reader" "into" "LClockReach$Automaton;") (List.mem_cons_of_mem _ cm_221)
  have v_17 := hts (.fieldLink RX4 78 "ClockReach$Reader" "kind" "I") (List.mem_cons_of_mem _ cm_222)
  have v_18 := hts (.fieldLink RX4 100 "ClockReach$Automaton" "places" "I") (List.mem_cons_of_mem _ cm_223)
  have v_47 := hts (.fieldLink RX4 107 "ClockReach$Automaton" "start" "I") (List.mem_cons_of_mem _ cm_224)
  have v_48 := hts (.methodLink RX4 109 Lib.Math.max.name) (List.mem_cons_of_mem _ cm_225)
  have v_49 := hts (.static Lib.Math.max.name) (List.mem_cons_of_mem _ cm_36)
  have v_50 := hts (.initialized "java/lang/Math") (List.mem_cons_of_mem _ cm_37)
  have v_51 := hts (.code Lib.Math.max.name Lib.Math.max.code 2 (some .int)) (List.mem_cons_of_mem _ cm_38)
  have hown : s.vm.findClass RX4 = some m.cls := findClass_of_methodNamed B.named
  have hlocks := B.notSynchronized
  have hiX0 : ∀ w ∈ wsX00, w ∈ vs_E_4_reads := fun _ h => List.mem_cons_of_mem _ (cm_X0 h)
  have hiX4 : ∀ w ∈ wsX40, w ∈ vs_E_4_reads := fun _ h => List.mem_cons_of_mem _ (cm_X4 h)
  have hD := hD0.self (sz := s.heap.size)
  generalize hAe : va_A ((rb__w rd fa fat (tx0) (nI len) (nI pos) (nI kd) vl tka (in0) rw rc rp tp k_ft ft k_fw fw k_fcn fcn k_fpn fpn au (nI nc) (nI np) (nI ne) st0 q4 q5 q6 q7 q8 q9 q10 q11 q12 q13 q14 q15 q16 k_f4 f4 k_f5 (bN 7 q_f5) k_f6 (bN 7 q_f6) k_f7 f7 k_f8 (bN 4 q_f8) k_f9 (bN 2 q_f9) k_f10 f10 k_f11 f11 k_f12 f12 k_f13 f13 k_f14 f14 k_f15 f15 k_f16 f16)) s.heap.size = A at hD ⊢
  have hA : ∀ q : Nat, s.heap.size ≤ q → A q := fun q h => by rw [← hAe]; exact Or.inr h
  have hS : va_S A s.heap s.heap [] := va_S.rf
  have hl := lv_entry ([.ref rd, .ref tp, .int (nI a1), .ref au]) (n := 6) (Nat.le_of_ble_eq_true rfl)
  rw [lg_entry_eq]
  generalize (lg_sl ([.ref rd, .ref tp, .int (nI a1), .ref au]) ++ List.replicate (6 - (lg_sl ([.ref rd, .ref tp, .int (nI a1), .ref au])).length) Slot.unset).toArray = ls at hl ⊢
  have hl : lv_has ls 6 [(0, .ref rd), (1, .ref tp), (2, .int (nI a1)), (3, .ref au)] := hl
  obtain ⟨RR, hRR⟩ : ∃ x, x = (sp_E_4_reads vl ft fw fcn fpn f4 q_f5 q_f6 f7 q_f8 q_f9 f10 f11 f12 f13 f14 f15 f16 a1) := ⟨_, rfl⟩
  have hsp := hRR
  refine lv_aload_n hx hb eX4_reads_0 rfl (lv_at hl 0 rfl) ?_
  refine lv_aload_n hx hb eX4_reads_1 rfl (lv_at hl 1 rfl) ?_
  refine va_put (D := (dC, dI)) (ci := 4) (v := .ref tp) (ty := .array .int) (C := RX4) (T := TX4) (N := 12) hx hb hts hiX4 tyX4 tyX4_ok nmX4 hown hK hP hD hS 0 rfl rfl 2 (by decide) v_1 (fun _ h9 => h9) rfl (by decide +kernel) rfl rfl (Nat.le_of_ble_eq_true rfl) eX4_reads_2 (fun H locs hP hD hS => ?_)
  have hP : va_P (dC, dI) vwCl (rb__w rd fa fat (.ref tp) (nI len) (nI pos) (nI kd) vl tka (in0) rw rc rp tp k_ft ft k_fw fw k_fcn fcn k_fpn fpn au (nI nc) (nI np) (nI ne) st0 q4 q5 q6 q7 q8 q9 q10 q11 q12 q13 q14 q15 q16 k_f4 f4 k_f5 (bN 7 q_f5) k_f6 (bN 7 q_f6) k_f7 f7 k_f8 (bN 4 q_f8) k_f9 (bN 2 q_f9) k_f10 f10 k_f11 f11 k_f12 f12 k_f13 f13 k_f14 f14 k_f15 f15 k_f16 f16) H := hP
  have hD : va_D A (rb__w rd fa fat (.ref tp) (nI len) (nI pos) (nI kd) vl tka (in0) rw rc rp tp k_ft ft k_fw fw k_fcn fcn k_fpn fpn au (nI nc) (nI np) (nI ne) st0 q4 q5 q6 q7 q8 q9 q10 q11 q12 q13 q14 q15 q16 k_f4 f4 k_f5 (bN 7 q_f5) k_f6 (bN 7 q_f6) k_f7 f7 k_f8 (bN 4 q_f8) k_f9 (bN 2 q_f9) k_f10 f10 k_f11 f11 k_f12 f12 k_f13 f13 k_f14 f14 k_f15 f15 k_f16 f16) := hD
  refine lv_aload_n hx hb eX4_reads_5 rfl (lv_at hl 0 rfl) ?_
  refine lv_iload_n hx hb eX4_reads_6 rfl (lv_at hl 2 rfl) ?_
  refine va_put (D := (dC, dI)) (ci := 4) (v := .int (nI a1)) (ty := .int) (C := RX4) (T := TX4) (N := 12) hx hb hts hiX4 tyX4 tyX4_ok nmX4 hown hK hP hD hS 0 rfl rfl 3 (by decide) v_2 (fun _ h9 => h9) rfl (by decide +kernel) rfl rfl (Nat.le_of_ble_eq_true rfl) eX4_reads_7 (fun H locs hP hD hS => ?_)
  have hP : va_P (dC, dI) vwCl (rb__w rd fa fat (.ref tp) (nI a1) (nI pos) (nI kd) vl tka (in0) rw rc rp tp k_ft ft k_fw fw k_fcn fcn k_fpn fpn au (nI nc) (nI np) (nI ne) st0 q4 q5 q6 q7 q8 q9 q10 q11 q12 q13 q14 q15 q16 k_f4 f4 k_f5 (bN 7 q_f5) k_f6 (bN 7 q_f6) k_f7 f7 k_f8 (bN 4 q_f8) k_f9 (bN 2 q_f9) k_f10 f10 k_f11 f11 k_f12 f12 k_f13 f13 k_f14 f14 k_f15 f15 k_f16 f16) H := hP
  have hD : va_D A (rb__w rd fa fat (.ref tp) (nI a1) (nI pos) (nI kd) vl tka (in0) rw rc rp tp k_ft ft k_fw fw k_fcn fcn k_fpn fpn au (nI nc) (nI np) (nI ne) st0 q4 q5 q6 q7 q8 q9 q10 q11 q12 q13 q14 q15 q16 k_f4 f4 k_f5 (bN 7 q_f5) k_f6 (bN 7 q_f6) k_f7 f7 k_f8 (bN 4 q_f8) k_f9 (bN 2 q_f9) k_f10 f10 k_f11 f11 k_f12 f12 k_f13 f13 k_f14 f14 k_f15 f15 k_f16 f16) := hD
  refine lv_aload_n hx hb eX4_reads_10 rfl (lv_at hl 0 rfl) ?_
  refine lv_iconst (v := 0) hx hb eX4_reads_11 (by decide) ?_
  refine va_put (D := (dC, dI)) (ci := 4) (v := .int 0) (ty := .int) (C := RX4) (T := TX4) (N := 12) hx hb hts hiX4 tyX4 tyX4_ok nmX4 hown hK hP hD hS 0 rfl rfl 4 (by decide) v_3 (fun _ h9 => h9) rfl (by decide +kernel) rfl rfl (Nat.le_of_ble_eq_true rfl) eX4_reads_12 (fun H locs hP hD hS => ?_)
  have hP : va_P (dC, dI) vwCl (rb__w rd fa fat (.ref tp) (nI a1) 0 (nI kd) vl tka (in0) rw rc rp tp k_ft ft k_fw fw k_fcn fcn k_fpn fpn au (nI nc) (nI np) (nI ne) st0 q4 q5 q6 q7 q8 q9 q10 q11 q12 q13 q14 q15 q16 k_f4 f4 k_f5 (bN 7 q_f5) k_f6 (bN 7 q_f6) k_f7 f7 k_f8 (bN 4 q_f8) k_f9 (bN 2 q_f9) k_f10 f10 k_f11 f11 k_f12 f12 k_f13 f13 k_f14 f14 k_f15 f15 k_f16 f16) H := hP
  have hD : va_D A (rb__w rd fa fat (.ref tp) (nI a1) 0 (nI kd) vl tka (in0) rw rc rp tp k_ft ft k_fw fw k_fcn fcn k_fpn fpn au (nI nc) (nI np) (nI ne) st0 q4 q5 q6 q7 q8 q9 q10 q11 q12 q13 q14 q15 q16 k_f4 f4 k_f5 (bN 7 q_f5) k_f6 (bN 7 q_f6) k_f7 f7 k_f8 (bN 4 q_f8) k_f9 (bN 2 q_f9) k_f10 f10 k_f11 f11 k_f12 f12 k_f13 f13 k_f14 f14 k_f15 f15 k_f16 f16) := hD
  refine lv_aload_n hx hb eX4_reads_15 rfl (lv_at hl 0 rfl) ?_
  refine lv_iconst (v := 0) hx hb eX4_reads_16 (by decide) ?_
  refine va_put (D := (dC, dI)) (ci := 4) (v := .int 0) (ty := .int) (C := RX4) (T := TX4) (N := 12) hx hb hts hiX4 tyX4 tyX4_ok nmX4 hown hK hP hD hS 0 rfl rfl 0 (by decide) v_4 (fun _ h9 => h9) rfl (by decide +kernel) rfl rfl (Nat.le_of_ble_eq_true rfl) eX4_reads_17 (fun H locs hP hD hS => ?_)
  have hP : va_P (dC, dI) vwCl (rb__w rd 0 fat (.ref tp) (nI a1) 0 (nI kd) vl tka (in0) rw rc rp tp k_ft ft k_fw fw k_fcn fcn k_fpn fpn au (nI nc) (nI np) (nI ne) st0 q4 q5 q6 q7 q8 q9 q10 q11 q12 q13 q14 q15 q16 k_f4 f4 k_f5 (bN 7 q_f5) k_f6 (bN 7 q_f6) k_f7 f7 k_f8 (bN 4 q_f8) k_f9 (bN 2 q_f9) k_f10 f10 k_f11 f11 k_f12 f12 k_f13 f13 k_f14 f14 k_f15 f15 k_f16 f16) H := hP
  have hD : va_D A (rb__w rd 0 fat (.ref tp) (nI a1) 0 (nI kd) vl tka (in0) rw rc rp tp k_ft ft k_fw fw k_fcn fcn k_fpn fpn au (nI nc) (nI np) (nI ne) st0 q4 q5 q6 q7 q8 q9 q10 q11 q12 q13 q14 q15 q16 k_f4 f4 k_f5 (bN 7 q_f5) k_f6 (bN 7 q_f6) k_f7 f7 k_f8 (bN 4 q_f8) k_f9 (bN 2 q_f9) k_f10 f10 k_f11 f11 k_f12 f12 k_f13 f13 k_f14 f14 k_f15 f15 k_f16 f16) := hD
  refine lv_aload_n hx hb eX4_reads_20 rfl (lv_at hl 0 rfl) ?_
  refine lv_iconst (v := (-1)) hx hb eX4_reads_21 (by decide) ?_
  refine va_put (D := (dC, dI)) (ci := 4) (v := .int (-1)) (ty := .int) (C := RX4) (T := TX4) (N := 12) hx hb hts hiX4 tyX4 tyX4_ok nmX4 hown hK hP hD hS 0 rfl rfl 1 (by decide) v_5 (fun _ h9 => h9) rfl (by decide +kernel) rfl rfl (Nat.le_of_ble_eq_true rfl) eX4_reads_22 (fun H locs hP hD hS => ?_)
  have hP : va_P (dC, dI) vwCl (rb__w rd 0 (-1) (.ref tp) (nI a1) 0 (nI kd) vl tka (in0) rw rc rp tp k_ft ft k_fw fw k_fcn fcn k_fpn fpn au (nI nc) (nI np) (nI ne) st0 q4 q5 q6 q7 q8 q9 q10 q11 q12 q13 q14 q15 q16 k_f4 f4 k_f5 (bN 7 q_f5) k_f6 (bN 7 q_f6) k_f7 f7 k_f8 (bN 4 q_f8) k_f9 (bN 2 q_f9) k_f10 f10 k_f11 f11 k_f12 f12 k_f13 f13 k_f14 f14 k_f15 f15 k_f16 f16) H := hP
  have hD : va_D A (rb__w rd 0 (-1) (.ref tp) (nI a1) 0 (nI kd) vl tka (in0) rw rc rp tp k_ft ft k_fw fw k_fcn fcn k_fpn fpn au (nI nc) (nI np) (nI ne) st0 q4 q5 q6 q7 q8 q9 q10 q11 q12 q13 q14 q15 q16 k_f4 f4 k_f5 (bN 7 q_f5) k_f6 (bN 7 q_f6) k_f7 f7 k_f8 (bN 4 q_f8) k_f9 (bN 2 q_f9) k_f10 f10 k_f11 f11 k_f12 f12 k_f13 f13 k_f14 f14 k_f15 f15 k_f16 f16) := hD
  refine lv_aload_n hx hb eX4_reads_25 rfl (lv_at hl 0 rfl) ?_
  refine lv_aload_n hx hb eX4_reads_26 rfl (lv_at hl 3 rfl) ?_
  refine va_put (D := (dC, dI)) (ci := 4) (v := .ref au) (ty := .object "ClockReach$Automaton") (C := RX4) (T := TX4) (N := 12) hx hb hts hiX4 tyX4 tyX4_ok nmX4 hown hK hP hD hS 0 rfl rfl 8 (by decide) v_6 (fun _ h9 => h9) rfl (by decide +kernel) rfl rfl (Nat.le_of_ble_eq_true rfl) eX4_reads_27 (fun H locs hP hD hS => ?_)
  have hP : va_P (dC, dI) vwCl (rb__w rd 0 (-1) (.ref tp) (nI a1) 0 (nI kd) vl tka (.ref au) rw rc rp tp k_ft ft k_fw fw k_fcn fcn k_fpn fpn au (nI nc) (nI np) (nI ne) st0 q4 q5 q6 q7 q8 q9 q10 q11 q12 q13 q14 q15 q16 k_f4 f4 k_f5 (bN 7 q_f5) k_f6 (bN 7 q_f6) k_f7 f7 k_f8 (bN 4 q_f8) k_f9 (bN 2 q_f9) k_f10 f10 k_f11 f11 k_f12 f12 k_f13 f13 k_f14 f14 k_f15 f15 k_f16 f16) H := hP
  have hD : va_D A (rb__w rd 0 (-1) (.ref tp) (nI a1) 0 (nI kd) vl tka (.ref au) rw rc rp tp k_ft ft k_fw fw k_fcn fcn k_fpn fpn au (nI nc) (nI np) (nI ne) st0 q4 q5 q6 q7 q8 q9 q10 q11 q12 q13 q14 q15 q16 k_f4 f4 k_f5 (bN 7 q_f5) k_f6 (bN 7 q_f6) k_f7 f7 k_f8 (bN 4 q_f8) k_f9 (bN 2 q_f9) k_f10 f10 k_f11 f11 k_f12 f12 k_f13 f13 k_f14 f14 k_f15 f15 k_f16 f16) := hD
  refine lv_aload_n hx hb eX4_reads_30 rfl (lv_at hl 0 rfl) ?_
  refine va_get (D := (dC, dI)) (ci := 4) (v := .ref au) (C := RX4) (T := TX4) (N := 12) hx hb hts hiX4 hown hK hP 0 rfl rfl 8 (by decide) v_6 (fun _ h9 => h9) rfl eX4_reads_31 ?_
  have hPc : va_P (dC, dI) vwCl (au__w au (nI nc) (nI np) (nI ne) st0 q4 q5 q6 q7 q8 q9 q10 q11 q12 q13 q14 q15 q16 k_f4 f4 k_f5 (bN 7 q_f5) k_f6 (bN 7 q_f6) k_f7 f7 k_f8 (bN 4 q_f8) k_f9 (bN 2 q_f9) k_f10 f10 k_f11 f11 k_f12 f12 k_f13 f13 k_f14 f14 k_f15 f15 k_f16 f16) _ := hP.sub [5, 6, 7, 8, 9, 10, 11, 12, 13, 14, 15, 16, 17, 18] rfl
  have hDc := hD.sub (ws' := (au__w au (nI nc) (nI np) (nI ne) st0 q4 q5 q6 q7 q8 q9 q10 q11 q12 q13 q14 q15 q16 k_f4 f4 k_f5 (bN 7 q_f5) k_f6 (bN 7 q_f6) k_f7 f7 k_f8 (bN 4 q_f8) k_f9 (bN 2 q_f9) k_f10 f10 k_f11 f11 k_f12 f12 k_f13 f13 k_f14 f14 k_f15 f15 k_f16 f16)) [5, 6, 7, 8, 9, 10, 11, 12, 13, 14, 15, 16, 17, 18] (by decide) rfl
  have hKc : va_K (dC, dI) vwCl (au__t k_f4 k_f5 k_f6 k_f7 k_f8 k_f9 k_f10 k_f11 k_f12 k_f13 k_f14 k_f15 k_f16) s := hK.sub [4, 5, 6, 7, 8, 9, 10, 11, 12, 13, 14, 15, 16] rfl
  have hFc := pu_free hDc hS hA
  refine va_callv (va_runV (As := []) (rest := []) ⟨hx, hb, hml, hown, hts⟩ (c_E_0_clear l dC dI _ au nc np ne st0 q4 q5 q6 q7 q8 q9 q10 q11 q12 q13 q14 q15 q16 k_f4 f4 k_f5 q_f5 k_f6 q_f6 k_f7 f7 k_f8 q_f8 k_f9 q_f9 k_f10 f10 k_f11 f11 k_f12 f12 k_f13 f13 k_f14 f14 k_f15 f15 k_f16 f16 hnc hnp hne (hst0)) (cwV 0 hts g_E_4_reads_E_0_clear rfl rfl rfl (by decide +kernel) ⟨Nat.le_of_ble_eq_true rfl, Nat.le_of_ble_eq_true rfl⟩) ⟨pu_bl, va_recv hK hP (ci := 0) (q0 := 5) rfl rfl, pu_in hPc hKc hDc⟩ rfl rfl hl.1 rfl (lv_room (Nat.le_of_ble_eq_true rfl)) eX4_reads_34 ⟨Nat.le_of_ble_eq_true rfl, Nat.le_of_ble_eq_true rfl⟩) hS (fun q _ h => hFc q h) hFc (fun u t H1 locs ht hvm hw hB hz1 hk1 hS => ?_)
  obtain ⟨z_f4_2, z_f8_3, ⟨hP1, -, hD1⟩, xr_1_0, xr_1_1⟩ := hB
  rw [ht] at hP1
  obtain ⟨hP, hD⟩ := pj_a (X := (rb__w rd 0 (-1) (.ref tp) (nI a1) 0 (nI kd) vl tka (.ref au) rw rc rp tp k_ft ft k_fw fw k_fcn fcn k_fpn fpn au (nI nc) (nI np) (nI ne) st0 q4 q5 q6 q7 q8 q9 q10 q11 q12 q13 q14 q15 q16 k_f4 f4 k_f5 (bN 7 q_f5) k_f6 (bN 7 q_f6) k_f7 f7 k_f8 (bN 4 q_f8) k_f9 (bN 2 q_f9) k_f10 f10 k_f11 f11 k_f12 f12 k_f13 f13 k_f14 f14 k_f15 f15 k_f16 f16)) (X' := (rb__w rd 0 (-1) (.ref tp) (nI a1) 0 (nI kd) vl tka (.ref au) rw rc rp tp k_ft ft k_fw fw k_fcn fcn k_fpn fpn au 0 0 0 (-1) q4 q5 q6 q7 q8 q9 q10 q11 q12 q13 q14 q15 q16 k_f4 z_f4_2 k_f5 (bN 7 q_f5) k_f6 (bN 7 q_f6) k_f7 f7 k_f8 (bN 4 z_f8_3) k_f9 (bN 2 q_f9) k_f10 f10 k_f11 f11 k_f12 f12 k_f13 f13 k_f14 f14 k_f15 f15 k_f16 f16)) (wc := (au__w au (nI nc) (nI np) (nI ne) st0 q4 q5 q6 q7 q8 q9 q10 q11 q12 q13 q14 q15 q16 k_f4 f4 k_f5 (bN 7 q_f5) k_f6 (bN 7 q_f6) k_f7 f7 k_f8 (bN 4 q_f8) k_f9 (bN 2 q_f9) k_f10 f10 k_f11 f11 k_f12 f12 k_f13 f13 k_f14 f14 k_f15 f15 k_f16 f16)) (w1 := (au__w au 0 0 0 (-1) q4 q5 q6 q7 q8 q9 q10 q11 q12 q13 q14 q15 q16 k_f4 z_f4_2 k_f5 (bN 7 q_f5) k_f6 (bN 7 q_f6) k_f7 f7 k_f8 (bN 4 z_f8_3) k_f9 (bN 2 q_f9) k_f10 f10 k_f11 f11 k_f12 f12 k_f13 f13 k_f14 f14 k_f15 f15 k_f16 f16)) hP hD [5, 6, 7, 8, 9, 10, 11, 12, 13, 14, 15, 16, 17, 18] [14, 15, 16, 17, 18, 0, 1, 2, 3, 4, 5, 6, 7, 8, 9, 10, 11, 12, 13] 14 rfl hk1 hP1 rfl rfl rfl (by decide)
  clear hP1 hD1 hFc hPc hDc hKc
  clear hk1 hz1 ht hvm
  generalize H1 = H at hP hS ⊢
  have hsp := hsp.trans (slet_eq xr_1_1)
  refine lv_aload_n hx hb eX4_reads_37 rfl (lv_at hl 0 rfl) ?_
  have hPc : va_P (dC, dI) vwCl (rd__w rd 0 (-1) tp (nI a1) 0 (nI kd) vl tka au rw rc rp k_ft ft k_fw fw k_fcn fcn k_fpn fpn) _ := hP.sub [0, 1, 2, 3, 4] rfl
  have hDc := hD.sub (ws' := (rd__w rd 0 (-1) tp (nI a1) 0 (nI kd) vl tka au rw rc rp k_ft ft k_fw fw k_fcn fcn k_fpn fpn)) [0, 1, 2, 3, 4] (by decide) rfl
  have hKc : va_K (dC, dI) vwCl (rd__t k_ft k_fw k_fcn k_fpn) s := hK.sub [0, 1, 2, 3] rfl
  have hFc := pu_free hDc hS hA
  refine va_callv (va_runV (As := []) (rest := []) ⟨hx, hb, hml, hown, hts⟩ (c_E_4_advance l dC dI _ rd 0 (-1) tp a1 0 kd vl tka au rw rc rp k_ft ft k_fw fw k_fcn fcn k_fpn fpn ha1 (Nat.le_of_ble_eq_true rfl) hkd) (cwV 0 hts g_E_4_reads_E_4_advance rfl rfl rfl (by decide +kernel) ⟨Nat.le_of_ble_eq_true rfl, Nat.le_of_ble_eq_true rfl⟩) ⟨pu_bl, va_recv hK hP (ci := 4) (q0 := 0) rfl rfl, pu_in hPc hKc hDc⟩ rfl rfl hl.1 rfl (lv_room (Nat.le_of_ble_eq_true rfl)) eX4_reads_38 ⟨Nat.le_of_ble_eq_true rfl, Nat.le_of_ble_eq_true rfl⟩) hS (fun q _ h => hFc q h) hFc (fun u t H1 locs ht hvm hw hB hz1 hk1 hS => ?_)
  obtain ⟨z_pos_5, z_kd_6, z_vl_7, z_tka_8, ⟨hP1, -, hD1⟩, hz_pos_5, hz_kd_6, xr_4_0⟩ := hB
  rw [ht] at hP1
  obtain ⟨hP, hD⟩ := pj_a (X := (rb__w rd 0 (-1) (.ref tp) (nI a1) 0 (nI kd) vl tka (.ref au) rw rc rp tp k_ft ft k_fw fw k_fcn fcn k_fpn fpn au 0 0 0 (-1) q4 q5 q6 q7 q8 q9 q10 q11 q12 q13 q14 q15 q16 k_f4 z_f4_2 k_f5 (bN 7 q_f5) k_f6 (bN 7 q_f6) k_f7 f7 k_f8 (bN 4 z_f8_3) k_f9 (bN 2 q_f9) k_f10 f10 k_f11 f11 k_f12 f12 k_f13 f13 k_f14 f14 k_f15 f15 k_f16 f16)) (X' := (rb__w rd 0 (-1) (.ref tp) (nI a1) (nI z_pos_5) (nI z_kd_6) z_vl_7 z_tka_8 (.ref au) rw rc rp tp k_ft ft k_fw fw k_fcn fcn k_fpn fpn au 0 0 0 (-1) q4 q5 q6 q7 q8 q9 q10 q11 q12 q13 q14 q15 q16 k_f4 z_f4_2 k_f5 (bN 7 q_f5) k_f6 (bN 7 q_f6) k_f7 f7 k_f8 (bN 4 z_f8_3) k_f9 (bN 2 q_f9) k_f10 f10 k_f11 f11 k_f12 f12 k_f13 f13 k_f14 f14 k_f15 f15 k_f16 f16)) (wc := (rd__w rd 0 (-1) tp (nI a1) 0 (nI kd) vl tka au rw rc rp k_ft ft k_fw fw k_fcn fcn k_fpn fpn)) (w1 := (rd__w rd 0 (-1) tp (nI a1) (nI z_pos_5) (nI z_kd_6) z_vl_7 z_tka_8 au rw rc rp k_ft ft k_fw fw k_fcn fcn k_fpn fpn)) hP hD [0, 1, 2, 3, 4] [0, 1, 2, 3, 4, 10, 11, 12, 13, 14, 15, 16, 17, 18, 19, 20, 21, 22, 23] 5 rfl hk1 hP1 rfl rfl rfl (by decide)
  clear hP1 hD1 hFc hPc hDc hKc
  clear hk1 hz1 ht hvm
  generalize H1 = H at hP hS ⊢
  have hsp := hsp.trans (slet_eq xr_4_0)
  refine lv_iconst (v := 0) hx hb eX4_reads_41 (by decide) ?_
  refine lv_istore (lv' := [(4, .int 0), (0, .ref rd), (1, .ref tp), (2, .int (nI a1)), (3, .ref au)]) hx hb eX4_reads_42 hl (by decide) rfl (fun ls hl => ?_)
  obtain ⟨lf_58, dlf_58, hlf_58, hsp⟩ := itr_ex hsp
  delta sp_E_4_reads_L1 at hlf_58
  refine pu_while (fun nn H locs ls => ∃ (g_33 : Nat → Nat) (g_34 : Nat → Nat) (g_35 : Nat → Int32) (g_36 : Nat → Int32) (g_37 : Nat → Int32) (g_38 : Nat → Int32) (g_39 : Nat → Int32) (g_40 : Nat → Int32) (g_41 : Nat → Int32) (g_42 : Nat → Nat) (g_43 : Nat → Nat) (g_44 : Nat → Int32) (g_45 : Int32) (g_46 : Int32) (g_47 : Nat) (g_48 : Nat) (g_49 : Int32) (g_50 : Int32) (g_51 : Nat) (g_52 : Nat) (g_53 : Nat) (g_54 : Int32) (g_55 : Nat), nn = 901 - g_55 ∧ g_47 ≤ 900 ∧ g_48 ≤ 15 ∧ g_51 ≤ 3 ∧ g_52 ≤ 8 ∧ g_53 ≤ 14 ∧ g_55 ≤ 901 ∧ cz g_52 g_53 g_33 ∧ (g_54 = -1 ∨ (∃ q : Nat, q ≤ 7 ∧ g_54 = nI q)) ∧ RR = itrv dlf_58 lf_58 (g_33, g_34, g_35, g_36, g_37, g_38, g_39, g_40, g_41, g_42, g_43, g_44, g_45, g_46, g_47, g_48, g_49, g_50, g_51, g_52, g_53, g_54, g_55) ∧ va_P (dC, dI) vwCl (rb__w rd g_45 g_46 (.ref tp) (nI a1) (nI g_47) (nI g_48) g_49 g_50 (.ref au) rw rc rp tp k_ft ft k_fw fw k_fcn g_39 k_fpn g_40 au (nI g_51) (nI g_52) (nI g_53) g_54 q4 q5 q6 q7 q8 q9 q10 q11 q12 q13 q14 q15 q16 k_f4 g_41 k_f5 (bN 7 g_42) k_f6 (bN 7 g_43) k_f7 g_44 k_f8 (bN 4 g_33) k_f9 (bN 2 g_34) k_f10 g_35 k_f11 g_36 k_f12 g_37 k_f13 g_38 k_f14 f14 k_f15 f15 k_f16 f16) H ∧ va_D A (rb__w rd g_45 g_46 (.ref tp) (nI a1) (nI g_47) (nI g_48) g_49 g_50 (.ref au) rw rc rp tp k_ft ft k_fw fw k_fcn g_39 k_fpn g_40 au (nI g_51) (nI g_52) (nI g_53) g_54 q4 q5 q6 q7 q8 q9 q10 q11 q12 q13 q14 q15 q16 k_f4 g_41 k_f5 (bN 7 g_42) k_f6 (bN 7 g_43) k_f7 g_44 k_f8 (bN 4 g_33) k_f9 (bN 2 g_34) k_f10 g_35 k_f11 g_36 k_f12 g_37 k_f13 g_38 k_f14 f14 k_f15 f15 k_f16 f16) ∧ va_S A s.heap H locs ∧ lv_has ls 6 [(0, .ref rd), (1, .ref tp), (2, .int (nI a1)), (3, .ref au), (4, .int (nI g_55))]) 44 ?_ _ _ _ _ ⟨z_f8_3, q_f9, f10, f11, f12, f13, fcn, fpn, z_f4_2, q_f5, q_f6, f7, 0, (-1), z_pos_5, z_kd_6, z_vl_7, z_tka_8, 0, 0, 0, (-1), 0, rfl, hz_pos_5, hz_kd_6, (Nat.le_of_ble_eq_true rfl), (Nat.le_of_ble_eq_true rfl), (Nat.le_of_ble_eq_true rfl), (Nat.le_of_ble_eq_true rfl), by assumption, Or.inl rfl, hsp, hP, hD, hS, lv_sub hl [1, 2, 3, 4, 0] rfl⟩
  rintro nn ih_57 H locs ls ⟨g_33, g_34, g_35, g_36, g_37, g_38, g_39, g_40, g_41, g_42, g_43, g_44, g_45, g_46, g_47, g_48, g_49, g_50, g_51, g_52, g_53, g_54, g_55, rfl, hg_47, hg_48, hg_51, hg_52, hg_53, hg_55, he_56, hg_54, he_60, hP, hD, hS, hl⟩
  obtain ⟨S_59, hsp, hin_61, hout_62⟩ := itr_step hlf_58 he_60
  refine lv_iload hx hb eX4_reads_44 (lv_at hl 4 rfl) ?_
  refine lv_aload_n hx hb eX4_reads_46 rfl (lv_at hl 0 rfl) ?_
  refine va_get (D := (dC, dI)) (ci := 4) (v := .int (nI a1)) (C := RX4) (T := TX4) (N := 12) hx hb hts hiX4 hown hK hP 0 rfl rfl 3 (by decide) v_2 (fun _ h9 => h9) rfl eX4_reads_47 ?_
  refine lv_icmp_gt (tgt := 151) hx hb eX4_reads_50 (by decide) (fun c_63 => ?_) (fun c_63 => ?_)
  · have c_63 : a1 < g_55 := (nI_ltI (a := a1) (b := g_55) (Nat.lt_of_le_of_lt ha1 (Nat.le_of_ble_eq_true rfl)) (Nat.lt_of_le_of_lt hg_55 (Nat.le_of_ble_eq_true rfl))).mp c_63
    have hsp := hsp.trans (if_pos c_63)
    have hsp := hout_62 _ hsp
    refine lv_aload_n hx hb eX4_reads_151 rfl (lv_at hl 0 rfl) ?_
    refine va_get (D := (dC, dI)) (ci := 4) (v := .ref au) (C := RX4) (T := TX4) (N := 12) hx hb hts hiX4 hown hK hP 0 rfl rfl 8 (by decide) v_6 (fun _ h9 => h9) rfl eX4_reads_152 ?_
    refine va_get (D := (dC, dI)) (ci := 0) (v := .int (nI g_52)) (C := RX0) (T := TX0) (N := 17) hx hb hts hiX0 hown hK hP 5 rfl rfl 1 (by decide) v_18 (fun _ h9 => h9) rfl eX4_reads_155 ?_
    refine lv_if_ne (tgt := 168) hx hb eX4_reads_158 (by decide) (fun c_64 => ?_) (fun c_64 => ?_)
    · have c_64 : ¬ g_52 = 0 := fun z => c_64 ((nI_eq (a := g_52) (b := 0) (Nat.lt_of_le_of_lt hg_52 (Nat.le_of_ble_eq_true rfl)) (Nat.le_of_ble_eq_true rfl)).mpr z)
      have hsp := hsp.trans (if_neg c_64)
      refine lv_aload_n hx hb eX4_reads_168 rfl (lv_at hl 0 rfl) ?_
      refine va_get (D := (dC, dI)) (ci := 4) (v := .ref au) (C := RX4) (T := TX4) (N := 12) hx hb hts hiX4 hown hK hP 0 rfl rfl 8 (by decide) v_6 (fun _ h9 => h9) rfl eX4_reads_169 ?_
      refine lv_aload_n hx hb eX4_reads_172 rfl (lv_at hl 0 rfl) ?_
      refine va_get (D := (dC, dI)) (ci := 4) (v := .ref au) (C := RX4) (T := TX4) (N := 12) hx hb hts hiX4 hown hK hP 0 rfl rfl 8 (by decide) v_6 (fun _ h9 => h9) rfl eX4_reads_173 ?_
      refine va_get (D := (dC, dI)) (ci := 0) (v := .int g_54) (C := RX0) (T := TX0) (N := 17) hx hb hts hiX0 hown hK hP 5 rfl rfl 3 (by decide) v_47 (fun _ h9 => h9) rfl eX4_reads_176 ?_
      refine lv_topi (fun y_65 ey_65 => ?_)
      have mn_66 := hg_54
      rcases mn_66 with en_66 | ⟨n_66, hn_66, en_66⟩
      · obtain rfl : y_65 = (-1) := ey_65.trans en_66
        have hsp := hsp.trans (if_pos en_66)
        refine lv_iconst (v := 0) hx hb eX4_reads_179 (by decide) ?_
        refine va_mmax hx hb (hml.trans hl.1.symm) hown v_48 v_49 v_50 v_51 (Nat.le_of_ble_eq_true rfl) (Nat.le_of_ble_eq_true rfl) (Nat.le_of_ble_eq_true rfl) (Nat.le_of_ble_eq_true rfl) eX4_reads_180 ?_
        refine lv_topi (fun y_67 ey_67 => ?_)
        obtain rfl : y_67 = 0 := ey_67.trans (by decide)
        refine va_put (D := (dC, dI)) (ci := 0) (v := .int 0) (ty := .int) (C := RX0) (T := TX0) (N := 17) hx hb hts hiX0 tyX0 tyX0_ok nmX0 hown hK hP hD hS 5 rfl rfl 3 (by decide) v_47 (fun _ h9 => h9) rfl (by decide +kernel) rfl rfl (Nat.le_of_ble_eq_true rfl) eX4_reads_183 (fun H locs hP hD hS => ?_)
        have hP : va_P (dC, dI) vwCl (rb__w rd g_45 g_46 (.ref tp) (nI a1) (nI g_47) (nI g_48) g_49 g_50 (.ref au) rw rc rp tp k_ft ft k_fw fw k_fcn g_39 k_fpn g_40 au (nI g_51) (nI g_52) (nI g_53) 0 q4 q5 q6 q7 q8 q9 q10 q11 q12 q13 q14 q15 q16 k_f4 g_41 k_f5 (bN 7 g_42) k_f6 (bN 7 g_43) k_f7 g_44 k_f8 (bN 4 g_33) k_f9 (bN 2 g_34) k_f10 g_35 k_f11 g_36 k_f12 g_37 k_f13 g_38 k_f14 f14 k_f15 f15 k_f16 f16) H := hP
        have hD : va_D A (rb__w rd g_45 g_46 (.ref tp) (nI a1) (nI g_47) (nI g_48) g_49 g_50 (.ref au) rw rc rp tp k_ft ft k_fw fw k_fcn g_39 k_fpn g_40 au (nI g_51) (nI g_52) (nI g_53) 0 q4 q5 q6 q7 q8 q9 q10 q11 q12 q13 q14 q15 q16 k_f4 g_41 k_f5 (bN 7 g_42) k_f6 (bN 7 g_43) k_f7 g_44 k_f8 (bN 4 g_33) k_f9 (bN 2 g_34) k_f10 g_35 k_f11 g_36 k_f12 g_37 k_f13 g_38 k_f14 f14 k_f15 f15 k_f16 f16) := hD
        refine lv_aload_n hx hb eX4_reads_186 rfl (lv_at hl 0 rfl) ?_
        refine va_get (D := (dC, dI)) (ci := 4) (v := .ref au) (C := RX4) (T := TX4) (N := 12) hx hb hts hiX4 hown hK hP 0 rfl rfl 8 (by decide) v_6 (fun _ h9 => h9) rfl eX4_reads_187 ?_
        have hPc : va_P (dC, dI) vwCl (au__w au (nI g_51) (nI g_52) (nI g_53) 0 q4 q5 q6 q7 q8 q9 q10 q11 q12 q13 q14 q15 q16 k_f4 g_41 k_f5 (bN 7 g_42) k_f6 (bN 7 g_43) k_f7 g_44 k_f8 (bN 4 g_33) k_f9 (bN 2 g_34) k_f10 g_35 k_f11 g_36 k_f12 g_37 k_f13 g_38 k_f14 f14 k_f15 f15 k_f16 f16) _ := hP.sub [5, 6, 7, 8, 9, 10, 11, 12, 13, 14, 15, 16, 17, 18] rfl
        have hDc := hD.sub (ws' := (au__w au (nI g_51) (nI g_52) (nI g_53) 0 q4 q5 q6 q7 q8 q9 q10 q11 q12 q13 q14 q15 q16 k_f4 g_41 k_f5 (bN 7 g_42) k_f6 (bN 7 g_43) k_f7 g_44 k_f8 (bN 4 g_33) k_f9 (bN 2 g_34) k_f10 g_35 k_f11 g_36 k_f12 g_37 k_f13 g_38 k_f14 f14 k_f15 f15 k_f16 f16)) [5, 6, 7, 8, 9, 10, 11, 12, 13, 14, 15, 16, 17, 18] (by decide) rfl
        have hKc : va_K (dC, dI) vwCl (au__t k_f4 k_f5 k_f6 k_f7 k_f8 k_f9 k_f10 k_f11 k_f12 k_f13 k_f14 k_f15 k_f16) s := hK.sub [4, 5, 6, 7, 8, 9, 10, 11, 12, 13, 14, 15, 16] rfl
        have hFc := pu_free hDc hS hA
        refine va_callv (va_runV (As := []) (rest := []) ⟨hx, hb, hml, hown, hts⟩ (c_E_0_measure l dC dI _ au g_51 g_52 g_53 0 q4 q5 q6 q7 q8 q9 q10 q11 q12 q13 q14 q15 q16 k_f4 g_41 k_f5 g_42 k_f6 g_43 k_f7 g_44 k_f8 g_33 k_f9 g_34 k_f10 g_35 k_f11 g_36 k_f12 g_37 k_f13 g_38 k_f14 f14 k_f15 f15 k_f16 f16 hg_51 hg_52 hg_53 (Or.inr ⟨0, (Nat.le_of_ble_eq_true rfl), rfl⟩)) (cwV 0 hts g_E_4_reads_E_0_measure rfl rfl rfl (by decide +kernel) ⟨Nat.le_of_ble_eq_true rfl, Nat.le_of_ble_eq_true rfl⟩) ⟨pu_bl, va_recv hK hP (ci := 0) (q0 := 5) rfl rfl, pu_in hPc hKc hDc⟩ rfl rfl hl.1 rfl (lv_room (Nat.le_of_ble_eq_true rfl)) eX4_reads_190 ⟨Nat.le_of_ble_eq_true rfl, Nat.le_of_ble_eq_true rfl⟩) hS (fun q _ h => hFc q h) hFc (fun u t H1 locs ht hvm hw hB hz1 hk1 hS => ?_)
        obtain ⟨z_f14_69, z_f15_70, z_f16_71, ⟨hP1, -, hD1⟩, xr_68_0⟩ := hB
        rw [ht] at hP1
        obtain ⟨hP, hD⟩ := pj_a (X := (rb__w rd g_45 g_46 (.ref tp) (nI a1) (nI g_47) (nI g_48) g_49 g_50 (.ref au) rw rc rp tp k_ft ft k_fw fw k_fcn g_39 k_fpn g_40 au (nI g_51) (nI g_52) (nI g_53) 0 q4 q5 q6 q7 q8 q9 q10 q11 q12 q13 q14 q15 q16 k_f4 g_41 k_f5 (bN 7 g_42) k_f6 (bN 7 g_43) k_f7 g_44 k_f8 (bN 4 g_33) k_f9 (bN 2 g_34) k_f10 g_35 k_f11 g_36 k_f12 g_37 k_f13 g_38 k_f14 f14 k_f15 f15 k_f16 f16)) (X' := (rb__w rd g_45 g_46 (.ref tp) (nI a1) (nI g_47) (nI g_48) g_49 g_50 (.ref au) rw rc rp tp k_ft ft k_fw fw k_fcn g_39 k_fpn g_40 au (nI g_51) (nI g_52) (nI g_53) 0 q4 q5 q6 q7 q8 q9 q10 q11 q12 q13 q14 q15 q16 k_f4 g_41 k_f5 (bN 7 g_42) k_f6 (bN 7 g_43) k_f7 g_44 k_f8 (bN 4 g_33) k_f9 (bN 2 g_34) k_f10 g_35 k_f11 g_36 k_f12 g_37 k_f13 g_38 k_f14 z_f14_69 k_f15 z_f15_70 k_f16 z_f16_71)) (wc := (au__w au (nI g_51) (nI g_52) (nI g_53) 0 q4 q5 q6 q7 q8 q9 q10 q11 q12 q13 q14 q15 q16 k_f4 g_41 k_f5 (bN 7 g_42) k_f6 (bN 7 g_43) k_f7 g_44 k_f8 (bN 4 g_33) k_f9 (bN 2 g_34) k_f10 g_35 k_f11 g_36 k_f12 g_37 k_f13 g_38 k_f14 f14 k_f15 f15 k_f16 f16)) (w1 := (au__w au (nI g_51) (nI g_52) (nI g_53) 0 q4 q5 q6 q7 q8 q9 q10 q11 q12 q13 q14 q15 q16 k_f4 g_41 k_f5 (bN 7 g_42) k_f6 (bN 7 g_43) k_f7 g_44 k_f8 (bN 4 g_33) k_f9 (bN 2 g_34) k_f10 g_35 k_f11 g_36 k_f12 g_37 k_f13 g_38 k_f14 z_f14_69 k_f15 z_f15_70 k_f16 z_f16_71)) hP hD [5, 6, 7, 8, 9, 10, 11, 12, 13, 14, 15, 16, 17, 18] [14, 15, 16, 17, 18, 0, 1, 2, 3, 4, 5, 6, 7, 8, 9, 10, 11, 12, 13] 14 rfl hk1 hP1 rfl rfl rfl (by decide)
        clear hP1 hD1 hFc hPc hDc hKc
        clear hk1 hz1 ht hvm
        generalize H1 = H at hP hS ⊢
        have hsp := hsp.trans (slet_eq xr_68_0)
        refine lv_iconst (v := 1) hx hb eX4_reads_193 (by decide) ?_
        exact W.zret (v := 1) (ty := .boolean) hx hb hr (rfl) (fun t ht hW => ⟨⟨1, (), rfl, ⟨1, (Nat.le_of_ble_eq_true rfl), rfl, (congrArg Prod.fst (hsp.symm.trans hRR))⟩, ⟨g_33, g_34, g_35, g_36, g_37, g_38, z_f14_69, z_f15_70, z_f16_71, g_39, g_40, g_41, g_42, g_43, g_44, g_45, g_46, a1, g_47, g_48, g_49, g_50, g_51, g_52, g_53, 0, ⟨by rw [ht]; exact hP, va_K.moved hW.alike hK, hD⟩, ha1, hg_47, hg_48, hg_51, hg_52, hg_53, Or.inr ⟨0, (Nat.le_of_ble_eq_true rfl), rfl⟩, (congrArg Prod.snd (hsp.symm.trans hRR))⟩⟩, hS.F ht⟩) hS.2.2 eX4_reads_194
      · obtain rfl : y_65 = (nI n_66) := ey_65.trans en_66
        have hsp := hsp.trans (if_neg (fun z => pu_nneg (n := n_66) (k := -1) (by omega) (by decide) (en_66.symm.trans z)))
        have hsp := hsp.trans (slet_eq (by rw [en_66]; exact nI_cl (by omega) : n_66 = (g_54 : Int32).toNatClampNeg))
        refine lv_iconst (v := 0) hx hb eX4_reads_179 (by decide) ?_
        refine va_mmax hx hb (hml.trans hl.1.symm) hown v_48 v_49 v_50 v_51 (Nat.le_of_ble_eq_true rfl) (Nat.le_of_ble_eq_true rfl) (Nat.le_of_ble_eq_true rfl) (Nat.le_of_ble_eq_true rfl) eX4_reads_180 ?_
        refine lv_topi (fun y_72 ey_72 => ?_)
        obtain rfl : y_72 = nI n_66 := ey_72.trans (by first | exact mx_n0 (by omega) | exact mx_n1 (by omega))
        refine va_put (D := (dC, dI)) (ci := 0) (v := .int (nI n_66)) (ty := .int) (C := RX0) (T := TX0) (N := 17) hx hb hts hiX0 tyX0 tyX0_ok nmX0 hown hK hP hD hS 5 rfl rfl 3 (by decide) v_47 (fun _ h9 => h9) rfl (by decide +kernel) rfl rfl (Nat.le_of_ble_eq_true rfl) eX4_reads_183 (fun H locs hP hD hS => ?_)
        have hP : va_P (dC, dI) vwCl (rb__w rd g_45 g_46 (.ref tp) (nI a1) (nI g_47) (nI g_48) g_49 g_50 (.ref au) rw rc rp tp k_ft ft k_fw fw k_fcn g_39 k_fpn g_40 au (nI g_51) (nI g_52) (nI g_53) (nI n_66) q4 q5 q6 q7 q8 q9 q10 q11 q12 q13 q14 q15 q16 k_f4 g_41 k_f5 (bN 7 g_42) k_f6 (bN 7 g_43) k_f7 g_44 k_f8 (bN 4 g_33) k_f9 (bN 2 g_34) k_f10 g_35 k_f11 g_36 k_f12 g_37 k_f13 g_38 k_f14 f14 k_f15 f15 k_f16 f16) H := hP
        have hD : va_D A (rb__w rd g_45 g_46 (.ref tp) (nI a1) (nI g_47) (nI g_48) g_49 g_50 (.ref au) rw rc rp tp k_ft ft k_fw fw k_fcn g_39 k_fpn g_40 au (nI g_51) (nI g_52) (nI g_53) (nI n_66) q4 q5 q6 q7 q8 q9 q10 q11 q12 q13 q14 q15 q16 k_f4 g_41 k_f5 (bN 7 g_42) k_f6 (bN 7 g_43) k_f7 g_44 k_f8 (bN 4 g_33) k_f9 (bN 2 g_34) k_f10 g_35 k_f11 g_36 k_f12 g_37 k_f13 g_38 k_f14 f14 k_f15 f15 k_f16 f16) := hD
        refine lv_aload_n hx hb eX4_reads_186 rfl (lv_at hl 0 rfl) ?_
        refine va_get (D := (dC, dI)) (ci := 4) (v := .ref au) (C := RX4) (T := TX4) (N := 12) hx hb hts hiX4 hown hK hP 0 rfl rfl 8 (by decide) v_6 (fun _ h9 => h9) rfl eX4_reads_187 ?_
        have hPc : va_P (dC, dI) vwCl (au__w au (nI g_51) (nI g_52) (nI g_53) (nI n_66) q4 q5 q6 q7 q8 q9 q10 q11 q12 q13 q14 q15 q16 k_f4 g_41 k_f5 (bN 7 g_42) k_f6 (bN 7 g_43) k_f7 g_44 k_f8 (bN 4 g_33) k_f9 (bN 2 g_34) k_f10 g_35 k_f11 g_36 k_f12 g_37 k_f13 g_38 k_f14 f14 k_f15 f15 k_f16 f16) _ := hP.sub [5, 6, 7, 8, 9, 10, 11, 12, 13, 14, 15, 16, 17, 18] rfl
        have hDc := hD.sub (ws' := (au__w au (nI g_51) (nI g_52) (nI g_53) (nI n_66) q4 q5 q6 q7 q8 q9 q10 q11 q12 q13 q14 q15 q16 k_f4 g_41 k_f5 (bN 7 g_42) k_f6 (bN 7 g_43) k_f7 g_44 k_f8 (bN 4 g_33) k_f9 (bN 2 g_34) k_f10 g_35 k_f11 g_36 k_f12 g_37 k_f13 g_38 k_f14 f14 k_f15 f15 k_f16 f16)) [5, 6, 7, 8, 9, 10, 11, 12, 13, 14, 15, 16, 17, 18] (by decide) rfl
        have hKc : va_K (dC, dI) vwCl (au__t k_f4 k_f5 k_f6 k_f7 k_f8 k_f9 k_f10 k_f11 k_f12 k_f13 k_f14 k_f15 k_f16) s := hK.sub [4, 5, 6, 7, 8, 9, 10, 11, 12, 13, 14, 15, 16] rfl
        have hFc := pu_free hDc hS hA
        refine va_callv (va_runV (As := []) (rest := []) ⟨hx, hb, hml, hown, hts⟩ (c_E_0_measure l dC dI _ au g_51 g_52 g_53 (nI n_66) q4 q5 q6 q7 q8 q9 q10 q11 q12 q13 q14 q15 q16 k_f4 g_41 k_f5 g_42 k_f6 g_43 k_f7 g_44 k_f8 g_33 k_f9 g_34 k_f10 g_35 k_f11 g_36 k_f12 g_37 k_f13 g_38 k_f14 f14 k_f15 f15 k_f16 f16 hg_51 hg_52 hg_53 (Or.inr ⟨n_66, hn_66, rfl⟩)) (cwV 0 hts g_E_4_reads_E_0_measure rfl rfl rfl (by decide +kernel) ⟨Nat.le_of_ble_eq_true rfl, Nat.le_of_ble_eq_true rfl⟩) ⟨pu_bl, va_recv hK hP (ci := 0) (q0 := 5) rfl rfl, pu_in hPc hKc hDc⟩ rfl rfl hl.1 rfl (lv_room (Nat.le_of_ble_eq_true rfl)) eX4_reads_190 ⟨Nat.le_of_ble_eq_true rfl, Nat.le_of_ble_eq_true rfl⟩) hS (fun q _ h => hFc q h) hFc (fun u t H1 locs ht hvm hw hB hz1 hk1 hS => ?_)
        obtain ⟨z_f14_74, z_f15_75, z_f16_76, ⟨hP1, -, hD1⟩, xr_73_0⟩ := hB
        rw [ht] at hP1
        obtain ⟨hP, hD⟩ := pj_a (X := (rb__w rd g_45 g_46 (.ref tp) (nI a1) (nI g_47) (nI g_48) g_49 g_50 (.ref au) rw rc rp tp k_ft ft k_fw fw k_fcn g_39 k_fpn g_40 au (nI g_51) (nI g_52) (nI g_53) (nI n_66) q4 q5 q6 q7 q8 q9 q10 q11 q12 q13 q14 q15 q16 k_f4 g_41 k_f5 (bN 7 g_42) k_f6 (bN 7 g_43) k_f7 g_44 k_f8 (bN 4 g_33) k_f9 (bN 2 g_34) k_f10 g_35 k_f11 g_36 k_f12 g_37 k_f13 g_38 k_f14 f14 k_f15 f15 k_f16 f16)) (X' := (rb__w rd g_45 g_46 (.ref tp) (nI a1) (nI g_47) (nI g_48) g_49 g_50 (.ref au) rw rc rp tp k_ft ft k_fw fw k_fcn g_39 k_fpn g_40 au (nI g_51) (nI g_52) (nI g_53) (nI n_66) q4 q5 q6 q7 q8 q9 q10 q11 q12 q13 q14 q15 q16 k_f4 g_41 k_f5 (bN 7 g_42) k_f6 (bN 7 g_43) k_f7 g_44 k_f8 (bN 4 g_33) k_f9 (bN 2 g_34) k_f10 g_35 k_f11 g_36 k_f12 g_37 k_f13 g_38 k_f14 z_f14_74 k_f15 z_f15_75 k_f16 z_f16_76)) (wc := (au__w au (nI g_51) (nI g_52) (nI g_53) (nI n_66) q4 q5 q6 q7 q8 q9 q10 q11 q12 q13 q14 q15 q16 k_f4 g_41 k_f5 (bN 7 g_42) k_f6 (bN 7 g_43) k_f7 g_44 k_f8 (bN 4 g_33) k_f9 (bN 2 g_34) k_f10 g_35 k_f11 g_36 k_f12 g_37 k_f13 g_38 k_f14 f14 k_f15 f15 k_f16 f16)) (w1 := (au__w au (nI g_51) (nI g_52) (nI g_53) (nI n_66) q4 q5 q6 q7 q8 q9 q10 q11 q12 q13 q14 q15 q16 k_f4 g_41 k_f5 (bN 7 g_42) k_f6 (bN 7 g_43) k_f7 g_44 k_f8 (bN 4 g_33) k_f9 (bN 2 g_34) k_f10 g_35 k_f11 g_36 k_f12 g_37 k_f13 g_38 k_f14 z_f14_74 k_f15 z_f15_75 k_f16 z_f16_76)) hP hD [5, 6, 7, 8, 9, 10, 11, 12, 13, 14, 15, 16, 17, 18] [14, 15, 16, 17, 18, 0, 1, 2, 3, 4, 5, 6, 7, 8, 9, 10, 11, 12, 13] 14 rfl hk1 hP1 rfl rfl rfl (by decide)
        clear hP1 hD1 hFc hPc hDc hKc
        clear hk1 hz1 ht hvm
        generalize H1 = H at hP hS ⊢
        have hsp := hsp.trans (slet_eq xr_73_0)
        refine lv_iconst (v := 1) hx hb eX4_reads_193 (by decide) ?_
        exact W.zret (v := 1) (ty := .boolean) hx hb hr (rfl) (fun t ht hW => ⟨⟨1, (), rfl, ⟨1, (Nat.le_of_ble_eq_true rfl), rfl, (congrArg Prod.fst (hsp.symm.trans hRR))⟩, ⟨g_33, g_34, g_35, g_36, g_37, g_38, z_f14_74, z_f15_75, z_f16_76, g_39, g_40, g_41, g_42, g_43, g_44, g_45, g_46, a1, g_47, g_48, g_49, g_50, g_51, g_52, g_53, (nI n_66), ⟨by rw [ht]; exact hP, va_K.moved hW.alike hK, hD⟩, ha1, hg_47, hg_48, hg_51, hg_52, hg_53, Or.inr ⟨n_66, hn_66, rfl⟩, (congrArg Prod.snd (hsp.symm.trans hRR))⟩⟩, hS.F ht⟩) hS.2.2 eX4_reads_194
    · have c_64 : g_52 = 0 := (nI_eq (a := g_52) (b := 0) (Nat.lt_of_le_of_lt hg_52 (Nat.le_of_ble_eq_true rfl)) (Nat.le_of_ble_eq_true rfl)).mp c_64
      have hsp := hsp.trans (if_pos c_64)
      refine lv_aload_n hx hb eX4_reads_161 rfl (lv_at hl 0 rfl) ?_
      refine lv_bipush (v := 6) hx hb eX4_reads_162 (by decide) ?_
      have hPc : va_P (dC, dI) vwCl (rd__w rd g_45 g_46 tp (nI a1) (nI g_47) (nI g_48) g_49 g_50 au rw rc rp k_ft ft k_fw fw k_fcn g_39 k_fpn g_40) _ := hP.sub [0, 1, 2, 3, 4] rfl
      have hDc := hD.sub (ws' := (rd__w rd g_45 g_46 tp (nI a1) (nI g_47) (nI g_48) g_49 g_50 au rw rc rp k_ft ft k_fw fw k_fcn g_39 k_fpn g_40)) [0, 1, 2, 3, 4] (by decide) rfl
      have hKc : va_K (dC, dI) vwCl (rd__t k_ft k_fw k_fcn k_fpn) s := hK.sub [0, 1, 2, 3] rfl
      have hFc := pu_free hDc hS hA
      refine va_calli (va_runV (As := [.int 6]) (rest := []) ⟨hx, hb, hml, hown, hts⟩ (c_E_4_refuse l dC dI _ rd g_45 g_46 tp a1 g_47 g_48 g_49 g_50 au rw rc rp k_ft ft k_fw fw k_fcn g_39 k_fpn g_40 6 ha1 hg_47 hg_48) (cwV 1 hts g_E_4_reads_E_4_refuse rfl rfl rfl (by decide +kernel) ⟨Nat.le_of_ble_eq_true rfl, Nat.le_of_ble_eq_true rfl⟩) ⟨pu_bl, va_recv hK hP (ci := 4) (q0 := 0) rfl rfl, pu_in hPc hKc hDc⟩ rfl rfl hl.1 rfl (lv_room (Nat.le_of_ble_eq_true rfl)) eX4_reads_164 ⟨Nat.le_of_ble_eq_true rfl, Nat.le_of_ble_eq_true rfl⟩) hS (fun q _ h => hFc q h) hFc (fun r_77 u t H1 locs ht hvm hw hB hz1 hk1 hS => ?_)
      obtain ⟨z_fa_78, z_fat_79, ⟨hP1, -, hD1⟩, xr_77_0⟩ := hB
      rw [ht] at hP1
      obtain ⟨hP, hD⟩ := pj_a (X := (rb__w rd g_45 g_46 (.ref tp) (nI a1) (nI g_47) (nI g_48) g_49 g_50 (.ref au) rw rc rp tp k_ft ft k_fw fw k_fcn g_39 k_fpn g_40 au (nI g_51) (nI g_52) (nI g_53) g_54 q4 q5 q6 q7 q8 q9 q10 q11 q12 q13 q14 q15 q16 k_f4 g_41 k_f5 (bN 7 g_42) k_f6 (bN 7 g_43) k_f7 g_44 k_f8 (bN 4 g_33) k_f9 (bN 2 g_34) k_f10 g_35 k_f11 g_36 k_f12 g_37 k_f13 g_38 k_f14 f14 k_f15 f15 k_f16 f16)) (X' := (rb__w rd z_fa_78 z_fat_79 (.ref tp) (nI a1) (nI g_47) (nI g_48) g_49 g_50 (.ref au) rw rc rp tp k_ft ft k_fw fw k_fcn g_39 k_fpn g_40 au (nI g_51) (nI g_52) (nI g_53) g_54 q4 q5 q6 q7 q8 q9 q10 q11 q12 q13 q14 q15 q16 k_f4 g_41 k_f5 (bN 7 g_42) k_f6 (bN 7 g_43) k_f7 g_44 k_f8 (bN 4 g_33) k_f9 (bN 2 g_34) k_f10 g_35 k_f11 g_36 k_f12 g_37 k_f13 g_38 k_f14 f14 k_f15 f15 k_f16 f16)) (wc := (rd__w rd g_45 g_46 tp (nI a1) (nI g_47) (nI g_48) g_49 g_50 au rw rc rp k_ft ft k_fw fw k_fcn g_39 k_fpn g_40)) (w1 := (rd__w rd z_fa_78 z_fat_79 tp (nI a1) (nI g_47) (nI g_48) g_49 g_50 au rw rc rp k_ft ft k_fw fw k_fcn g_39 k_fpn g_40)) hP hD [0, 1, 2, 3, 4] [0, 1, 2, 3, 4, 10, 11, 12, 13, 14, 15, 16, 17, 18, 19, 20, 21, 22, 23] 5 rfl hk1 hP1 rfl rfl rfl (by decide)
      clear hP1 hD1 hFc hPc hDc hKc
      clear hk1 hz1 ht hvm
      generalize H1 = H at hP hS ⊢
      have hsp := hsp.trans (slet_eq xr_77_0)
      obtain rfl : r_77 = 0 := hw
      exact W.zret (v := 0) (ty := .boolean) hx hb hr (rfl) (fun t ht hW => ⟨⟨0, (), rfl, ⟨0, (Nat.le_of_ble_eq_true rfl), rfl, (congrArg Prod.fst (hsp.symm.trans hRR))⟩, ⟨g_33, g_34, g_35, g_36, g_37, g_38, f14, f15, f16, g_39, g_40, g_41, g_42, g_43, g_44, z_fa_78, z_fat_79, a1, g_47, g_48, g_49, g_50, g_51, g_52, g_53, g_54, ⟨by rw [ht]; exact hP, va_K.moved hW.alike hK, hD⟩, ha1, hg_47, hg_48, hg_51, hg_52, hg_53, hg_54, (congrArg Prod.snd (hsp.symm.trans hRR))⟩⟩, hS.F ht⟩) hS.2.2 eX4_reads_167
  · have c_63 : ¬ a1 < g_55 := fun z => c_63 ((nI_ltI (a := a1) (b := g_55) (Nat.lt_of_le_of_lt ha1 (Nat.le_of_ble_eq_true rfl)) (Nat.lt_of_le_of_lt hg_55 (Nat.le_of_ble_eq_true rfl))).mpr z)
    have hsp := hsp.trans (if_neg c_63)
    refine lv_aload_n hx hb eX4_reads_53 rfl (lv_at hl 0 rfl) ?_
    refine va_get (D := (dC, dI)) (ci := 4) (v := .int (nI g_48)) (C := RX4) (T := TX4) (N := 12) hx hb hts hiX4 hown hK hP 0 rfl rfl 5 (by decide) v_17 (fun _ h9 => h9) rfl eX4_reads_54 ?_
    refine lv_iconst (v := 1) hx hb eX4_reads_57 (by decide) ?_
    refine lv_icmp_eq (tgt := 151) hx hb eX4_reads_58 (by decide) (fun c_80 => ?_) (fun c_80 => ?_)
    · have c_80 : g_48 = 1 := (nI_eq (a := g_48) (b := 1) (Nat.lt_of_le_of_lt hg_48 (Nat.le_of_ble_eq_true rfl)) (Nat.le_of_ble_eq_true rfl)).mp c_80
      have hsp := hsp.trans (if_pos c_80)
      have hsp := hout_62 _ hsp
      refine lv_aload_n hx hb eX4_reads_151 rfl (lv_at hl 0 rfl) ?_
      refine va_get (D := (dC, dI)) (ci := 4) (v := .ref au) (C := RX4) (T := TX4) (N := 12) hx hb hts hiX4 hown hK hP 0 rfl rfl 8 (by decide) v_6 (fun _ h9 => h9) rfl eX4_reads_152 ?_
      refine va_get (D := (dC, dI)) (ci := 0) (v := .int (nI g_52)) (C := RX0) (T := TX0) (N := 17) hx hb hts hiX0 hown hK hP 5 rfl rfl 1 (by decide) v_18 (fun _ h9 => h9) rfl eX4_reads_155 ?_
      refine lv_if_ne (tgt := 168) hx hb eX4_reads_158 (by decide) (fun c_81 => ?_) (fun c_81 => ?_)
      · have c_81 : ¬ g_52 = 0 := fun z => c_81 ((nI_eq (a := g_52) (b := 0) (Nat.lt_of_le_of_lt hg_52 (Nat.le_of_ble_eq_true rfl)) (Nat.le_of_ble_eq_true rfl)).mpr z)
        have hsp := hsp.trans (if_neg c_81)
        refine lv_aload_n hx hb eX4_reads_168 rfl (lv_at hl 0 rfl) ?_
        refine va_get (D := (dC, dI)) (ci := 4) (v := .ref au) (C := RX4) (T := TX4) (N := 12) hx hb hts hiX4 hown hK hP 0 rfl rfl 8 (by decide) v_6 (fun _ h9 => h9) rfl eX4_reads_169 ?_
        refine lv_aload_n hx hb eX4_reads_172 rfl (lv_at hl 0 rfl) ?_
        refine va_get (D := (dC, dI)) (ci := 4) (v := .ref au) (C := RX4) (T := TX4) (N := 12) hx hb hts hiX4 hown hK hP 0 rfl rfl 8 (by decide) v_6 (fun _ h9 => h9) rfl eX4_reads_173 ?_
        refine va_get (D := (dC, dI)) (ci := 0) (v := .int g_54) (C := RX0) (T := TX0) (N := 17) hx hb hts hiX0 hown hK hP 5 rfl rfl 3 (by decide) v_47 (fun _ h9 => h9) rfl eX4_reads_176 ?_
        refine lv_topi (fun y_82 ey_82 => ?_)
        have mn_83 := hg_54
        rcases mn_83 with en_83 | ⟨n_83, hn_83, en_83⟩
        · obtain rfl : y_82 = (-1) := ey_82.trans en_83
          have hsp := hsp.trans (if_pos en_83)
          refine lv_iconst (v := 0) hx hb eX4_reads_179 (by decide) ?_
          refine va_mmax hx hb (hml.trans hl.1.symm) hown v_48 v_49 v_50 v_51 (Nat.le_of_ble_eq_true rfl) (Nat.le_of_ble_eq_true rfl) (Nat.le_of_ble_eq_true rfl) (Nat.le_of_ble_eq_true rfl) eX4_reads_180 ?_
          refine lv_topi (fun y_84 ey_84 => ?_)
          obtain rfl : y_84 = 0 := ey_84.trans (by decide)
          refine va_put (D := (dC, dI)) (ci := 0) (v := .int 0) (ty := .int) (C := RX0) (T := TX0) (N := 17) hx hb hts hiX0 tyX0 tyX0_ok nmX0 hown hK hP hD hS 5 rfl rfl 3 (by decide) v_47 (fun _ h9 => h9) rfl (by decide +kernel) rfl rfl (Nat.le_of_ble_eq_true rfl) eX4_reads_183 (fun H locs hP hD hS => ?_)
          have hP : va_P (dC, dI) vwCl (rb__w rd g_45 g_46 (.ref tp) (nI a1) (nI g_47) (nI g_48) g_49 g_50 (.ref au) rw rc rp tp k_ft ft k_fw fw k_fcn g_39 k_fpn g_40 au (nI g_51) (nI g_52) (nI g_53) 0 q4 q5 q6 q7 q8 q9 q10 q11 q12 q13 q14 q15 q16 k_f4 g_41 k_f5 (bN 7 g_42) k_f6 (bN 7 g_43) k_f7 g_44 k_f8 (bN 4 g_33) k_f9 (bN 2 g_34) k_f10 g_35 k_f11 g_36 k_f12 g_37 k_f13 g_38 k_f14 f14 k_f15 f15 k_f16 f16) H := hP
          have hD : va_D A (rb__w rd g_45 g_46 (.ref tp) (nI a1) (nI g_47) (nI g_48) g_49 g_50 (.ref au) rw rc rp tp k_ft ft k_fw fw k_fcn g_39 k_fpn g_40 au (nI g_51) (nI g_52) (nI g_53) 0 q4 q5 q6 q7 q8 q9 q10 q11 q12 q13 q14 q15 q16 k_f4 g_41 k_f5 (bN 7 g_42) k_f6 (bN 7 g_43) k_f7 g_44 k_f8 (bN 4 g_33) k_f9 (bN 2 g_34) k_f10 g_35 k_f11 g_36 k_f12 g_37 k_f13 g_38 k_f14 f14 k_f15 f15 k_f16 f16) := hD
          refine lv_aload_n hx hb eX4_reads_186 rfl (lv_at hl 0 rfl) ?_
          refine va_get (D := (dC, dI)) (ci := 4) (v := .ref au) (C := RX4) (T := TX4) (N := 12) hx hb hts hiX4 hown hK hP 0 rfl rfl 8 (by decide) v_6 (fun _ h9 => h9) rfl eX4_reads_187 ?_
          have hPc : va_P (dC, dI) vwCl (au__w au (nI g_51) (nI g_52) (nI g_53) 0 q4 q5 q6 q7 q8 q9 q10 q11 q12 q13 q14 q15 q16 k_f4 g_41 k_f5 (bN 7 g_42) k_f6 (bN 7 g_43) k_f7 g_44 k_f8 (bN 4 g_33) k_f9 (bN 2 g_34) k_f10 g_35 k_f11 g_36 k_f12 g_37 k_f13 g_38 k_f14 f14 k_f15 f15 k_f16 f16) _ := hP.sub [5, 6, 7, 8, 9, 10, 11, 12, 13, 14, 15, 16, 17, 18] rfl
          have hDc := hD.sub (ws' := (au__w au (nI g_51) (nI g_52) (nI g_53) 0 q4 q5 q6 q7 q8 q9 q10 q11 q12 q13 q14 q15 q16 k_f4 g_41 k_f5 (bN 7 g_42) k_f6 (bN 7 g_43) k_f7 g_44 k_f8 (bN 4 g_33) k_f9 (bN 2 g_34) k_f10 g_35 k_f11 g_36 k_f12 g_37 k_f13 g_38 k_f14 f14 k_f15 f15 k_f16 f16)) [5, 6, 7, 8, 9, 10, 11, 12, 13, 14, 15, 16, 17, 18] (by decide) rfl
          have hKc : va_K (dC, dI) vwCl (au__t k_f4 k_f5 k_f6 k_f7 k_f8 k_f9 k_f10 k_f11 k_f12 k_f13 k_f14 k_f15 k_f16) s := hK.sub [4, 5, 6, 7, 8, 9, 10, 11, 12, 13, 14, 15, 16] rfl
          have hFc := pu_free hDc hS hA
          refine va_callv (va_runV (As := []) (rest := []) ⟨hx, hb, hml, hown, hts⟩ (c_E_0_measure l dC dI _ au g_51 g_52 g_53 0 q4 q5 q6 q7 q8 q9 q10 q11 q12 q13 q14 q15 q16 k_f4 g_41 k_f5 g_42 k_f6 g_43 k_f7 g_44 k_f8 g_33 k_f9 g_34 k_f10 g_35 k_f11 g_36 k_f12 g_37 k_f13 g_38 k_f14 f14 k_f15 f15 k_f16 f16 hg_51 hg_52 hg_53 (Or.inr ⟨0, (Nat.le_of_ble_eq_true rfl), rfl⟩)) (cwV 0 hts g_E_4_reads_E_0_measure rfl rfl rfl (by decide +kernel) ⟨Nat.le_of_ble_eq_true rfl, Nat.le_of_ble_eq_true rfl⟩) ⟨pu_bl, va_recv hK hP (ci := 0) (q0 := 5) rfl rfl, pu_in hPc hKc hDc⟩ rfl rfl hl.1 rfl (lv_room (Nat.le_of_ble_eq_true rfl)) eX4_reads_190 ⟨Nat.le_of_ble_eq_true rfl, Nat.le_of_ble_eq_true rfl⟩) hS (fun q _ h => hFc q h) hFc (fun u t H1 locs ht hvm hw hB hz1 hk1 hS => ?_)
          obtain ⟨z_f14_86, z_f15_87, z_f16_88, ⟨hP1, -, hD1⟩, xr_85_0⟩ := hB
          rw [ht] at hP1
          obtain ⟨hP, hD⟩ := pj_a (X := (rb__w rd g_45 g_46 (.ref tp) (nI a1) (nI g_47) (nI g_48) g_49 g_50 (.ref au) rw rc rp tp k_ft ft k_fw fw k_fcn g_39 k_fpn g_40 au (nI g_51) (nI g_52) (nI g_53) 0 q4 q5 q6 q7 q8 q9 q10 q11 q12 q13 q14 q15 q16 k_f4 g_41 k_f5 (bN 7 g_42) k_f6 (bN 7 g_43) k_f7 g_44 k_f8 (bN 4 g_33) k_f9 (bN 2 g_34) k_f10 g_35 k_f11 g_36 k_f12 g_37 k_f13 g_38 k_f14 f14 k_f15 f15 k_f16 f16)) (X' := (rb__w rd g_45 g_46 (.ref tp) (nI a1) (nI g_47) (nI g_48) g_49 g_50 (.ref au) rw rc rp tp k_ft ft k_fw fw k_fcn g_39 k_fpn g_40 au (nI g_51) (nI g_52) (nI g_53) 0 q4 q5 q6 q7 q8 q9 q10 q11 q12 q13 q14 q15 q16 k_f4 g_41 k_f5 (bN 7 g_42) k_f6 (bN 7 g_43) k_f7 g_44 k_f8 (bN 4 g_33) k_f9 (bN 2 g_34) k_f10 g_35 k_f11 g_36 k_f12 g_37 k_f13 g_38 k_f14 z_f14_86 k_f15 z_f15_87 k_f16 z_f16_88)) (wc := (au__w au (nI g_51) (nI g_52) (nI g_53) 0 q4 q5 q6 q7 q8 q9 q10 q11 q12 q13 q14 q15 q16 k_f4 g_41 k_f5 (bN 7 g_42) k_f6 (bN 7 g_43) k_f7 g_44 k_f8 (bN 4 g_33) k_f9 (bN 2 g_34) k_f10 g_35 k_f11 g_36 k_f12 g_37 k_f13 g_38 k_f14 f14 k_f15 f15 k_f16 f16)) (w1 := (au__w au (nI g_51) (nI g_52) (nI g_53) 0 q4 q5 q6 q7 q8 q9 q10 q11 q12 q13 q14 q15 q16 k_f4 g_41 k_f5 (bN 7 g_42) k_f6 (bN 7 g_43) k_f7 g_44 k_f8 (bN 4 g_33) k_f9 (bN 2 g_34) k_f10 g_35 k_f11 g_36 k_f12 g_37 k_f13 g_38 k_f14 z_f14_86 k_f15 z_f15_87 k_f16 z_f16_88)) hP hD [5, 6, 7, 8, 9, 10, 11, 12, 13, 14, 15, 16, 17, 18] [14, 15, 16, 17, 18, 0, 1, 2, 3, 4, 5, 6, 7, 8, 9, 10, 11, 12, 13] 14 rfl hk1 hP1 rfl rfl rfl (by decide)
          clear hP1 hD1 hFc hPc hDc hKc
          clear hk1 hz1 ht hvm
          generalize H1 = H at hP hS ⊢
          have hsp := hsp.trans (slet_eq xr_85_0)
          refine lv_iconst (v := 1) hx hb eX4_reads_193 (by decide) ?_
          exact W.zret (v := 1) (ty := .boolean) hx hb hr (rfl) (fun t ht hW => ⟨⟨1, (), rfl, ⟨1, (Nat.le_of_ble_eq_true rfl), rfl, (congrArg Prod.fst (hsp.symm.trans hRR))⟩, ⟨g_33, g_34, g_35, g_36, g_37, g_38, z_f14_86, z_f15_87, z_f16_88, g_39, g_40, g_41, g_42, g_43, g_44, g_45, g_46, a1, g_47, g_48, g_49, g_50, g_51, g_52, g_53, 0, ⟨by rw [ht]; exact hP, va_K.moved hW.alike hK, hD⟩, ha1, hg_47, hg_48, hg_51, hg_52, hg_53, Or.inr ⟨0, (Nat.le_of_ble_eq_true rfl), rfl⟩, (congrArg Prod.snd (hsp.symm.trans hRR))⟩⟩, hS.F ht⟩) hS.2.2 eX4_reads_194
        · obtain rfl : y_82 = (nI n_83) := ey_82.trans en_83
          have hsp := hsp.trans (if_neg (fun z => pu_nneg (n := n_83) (k := -1) (by omega) (by decide) (en_83.symm.trans z)))
          have hsp := hsp.trans (slet_eq (by rw [en_83]; exact nI_cl (by omega) : n_83 = (g_54 : Int32).toNatClampNeg))
          refine lv_iconst (v := 0) hx hb eX4_reads_179 (by decide) ?_
          refine va_mmax hx hb (hml.trans hl.1.symm) hown v_48 v_49 v_50 v_51 (Nat.le_of_ble_eq_true rfl) (Nat.le_of_ble_eq_true rfl) (Nat.le_of_ble_eq_true rfl) (Nat.le_of_ble_eq_true rfl) eX4_reads_180 ?_
          refine lv_topi (fun y_89 ey_89 => ?_)
          obtain rfl : y_89 = nI n_83 := ey_89.trans (by first | exact mx_n0 (by omega) | exact mx_n1 (by omega))
          refine va_put (D := (dC, dI)) (ci := 0) (v := .int (nI n_83)) (ty := .int) (C := RX0) (T := TX0) (N := 17) hx hb hts hiX0 tyX0 tyX0_ok nmX0 hown hK hP hD hS 5 rfl rfl 3 (by decide) v_47 (fun _ h9 => h9) rfl (by decide +kernel) rfl rfl (Nat.le_of_ble_eq_true rfl) eX4_reads_183 (fun H locs hP hD hS => ?_)
          have hP : va_P (dC, dI) vwCl (rb__w rd g_45 g_46 (.ref tp) (nI a1) (nI g_47) (nI g_48) g_49 g_50 (.ref au) rw rc rp tp k_ft ft k_fw fw k_fcn g_39 k_fpn g_40 au (nI g_51) (nI g_52) (nI g_53) (nI n_83) q4 q5 q6 q7 q8 q9 q10 q11 q12 q13 q14 q15 q16 k_f4 g_41 k_f5 (bN 7 g_42) k_f6 (bN 7 g_43) k_f7 g_44 k_f8 (bN 4 g_33) k_f9 (bN 2 g_34) k_f10 g_35 k_f11 g_36 k_f12 g_37 k_f13 g_38 k_f14 f14 k_f15 f15 k_f16 f16) H := hP
          have hD : va_D A (rb__w rd g_45 g_46 (.ref tp) (nI a1) (nI g_47) (nI g_48) g_49 g_50 (.ref au) rw rc rp tp k_ft ft k_fw fw k_fcn g_39 k_fpn g_40 au (nI g_51) (nI g_52) (nI g_53) (nI n_83) q4 q5 q6 q7 q8 q9 q10 q11 q12 q13 q14 q15 q16 k_f4 g_41 k_f5 (bN 7 g_42) k_f6 (bN 7 g_43) k_f7 g_44 k_f8 (bN 4 g_33) k_f9 (bN 2 g_34) k_f10 g_35 k_f11 g_36 k_f12 g_37 k_f13 g_38 k_f14 f14 k_f15 f15 k_f16 f16) := hD
          refine lv_aload_n hx hb eX4_reads_186 rfl (lv_at hl 0 rfl) ?_
          refine va_get (D := (dC, dI)) (ci := 4) (v := .ref au) (C := RX4) (T := TX4) (N := 12) hx hb hts hiX4 hown hK hP 0 rfl rfl 8 (by decide) v_6 (fun _ h9 => h9) rfl eX4_reads_187 ?_
          have hPc : va_P (dC, dI) vwCl (au__w au (nI g_51) (nI g_52) (nI g_53) (nI n_83) q4 q5 q6 q7 q8 q9 q10 q11 q12 q13 q14 q15 q16 k_f4 g_41 k_f5 (bN 7 g_42) k_f6 (bN 7 g_43) k_f7 g_44 k_f8 (bN 4 g_33) k_f9 (bN 2 g_34) k_f10 g_35 k_f11 g_36 k_f12 g_37 k_f13 g_38 k_f14 f14 k_f15 f15 k_f16 f16) _ := hP.sub [5, 6, 7, 8, 9, 10, 11, 12, 13, 14, 15, 16, 17, 18] rfl
          have hDc := hD.sub (ws' := (au__w au (nI g_51) (nI g_52) (nI g_53) (nI n_83) q4 q5 q6 q7 q8 q9 q10 q11 q12 q13 q14 q15 q16 k_f4 g_41 k_f5 (bN 7 g_42) k_f6 (bN 7 g_43) k_f7 g_44 k_f8 (bN 4 g_33) k_f9 (bN 2 g_34) k_f10 g_35 k_f11 g_36 k_f12 g_37 k_f13 g_38 k_f14 f14 k_f15 f15 k_f16 f16)) [5, 6, 7, 8, 9, 10, 11, 12, 13, 14, 15, 16, 17, 18] (by decide) rfl
          have hKc : va_K (dC, dI) vwCl (au__t k_f4 k_f5 k_f6 k_f7 k_f8 k_f9 k_f10 k_f11 k_f12 k_f13 k_f14 k_f15 k_f16) s := hK.sub [4, 5, 6, 7, 8, 9, 10, 11, 12, 13, 14, 15, 16] rfl
          have hFc := pu_free hDc hS hA
          refine va_callv (va_runV (As := []) (rest := []) ⟨hx, hb, hml, hown, hts⟩ (c_E_0_measure l dC dI _ au g_51 g_52 g_53 (nI n_83) q4 q5 q6 q7 q8 q9 q10 q11 q12 q13 q14 q15 q16 k_f4 g_41 k_f5 g_42 k_f6 g_43 k_f7 g_44 k_f8 g_33 k_f9 g_34 k_f10 g_35 k_f11 g_36 k_f12 g_37 k_f13 g_38 k_f14 f14 k_f15 f15 k_f16 f16 hg_51 hg_52 hg_53 (Or.inr ⟨n_83, hn_83, rfl⟩)) (cwV 0 hts g_E_4_reads_E_0_measure rfl rfl rfl (by decide +kernel) ⟨Nat.le_of_ble_eq_true rfl, Nat.le_of_ble_eq_true rfl⟩) ⟨pu_bl, va_recv hK hP (ci := 0) (q0 := 5) rfl rfl, pu_in hPc hKc hDc⟩ rfl rfl hl.1 rfl (lv_room (Nat.le_of_ble_eq_true rfl)) eX4_reads_190 ⟨Nat.le_of_ble_eq_true rfl, Nat.le_of_ble_eq_true rfl⟩) hS (fun q _ h => hFc q h) hFc (fun u t H1 locs ht hvm hw hB hz1 hk1 hS => ?_)
          obtain ⟨z_f14_91, z_f15_92, z_f16_93, ⟨hP1, -, hD1⟩, xr_90_0⟩ := hB
          rw [ht] at hP1
          obtain ⟨hP, hD⟩ := pj_a (X := (rb__w rd g_45 g_46 (.ref tp) (nI a1) (nI g_47) (nI g_48) g_49 g_50 (.ref au) rw rc rp tp k_ft ft k_fw fw k_fcn g_39 k_fpn g_40 au (nI g_51) (nI g_52) (nI g_53) (nI n_83) q4 q5 q6 q7 q8 q9 q10 q11 q12 q13 q14 q15 q16 k_f4 g_41 k_f5 (bN 7 g_42) k_f6 (bN 7 g_43) k_f7 g_44 k_f8 (bN 4 g_33) k_f9 (bN 2 g_34) k_f10 g_35 k_f11 g_36 k_f12 g_37 k_f13 g_38 k_f14 f14 k_f15 f15 k_f16 f16)) (X' := (rb__w rd g_45 g_46 (.ref tp) (nI a1) (nI g_47) (nI g_48) g_49 g_50 (.ref au) rw rc rp tp k_ft ft k_fw fw k_fcn g_39 k_fpn g_40 au (nI g_51) (nI g_52) (nI g_53) (nI n_83) q4 q5 q6 q7 q8 q9 q10 q11 q12 q13 q14 q15 q16 k_f4 g_41 k_f5 (bN 7 g_42) k_f6 (bN 7 g_43) k_f7 g_44 k_f8 (bN 4 g_33) k_f9 (bN 2 g_34) k_f10 g_35 k_f11 g_36 k_f12 g_37 k_f13 g_38 k_f14 z_f14_91 k_f15 z_f15_92 k_f16 z_f16_93)) (wc := (au__w au (nI g_51) (nI g_52) (nI g_53) (nI n_83) q4 q5 q6 q7 q8 q9 q10 q11 q12 q13 q14 q15 q16 k_f4 g_41 k_f5 (bN 7 g_42) k_f6 (bN 7 g_43) k_f7 g_44 k_f8 (bN 4 g_33) k_f9 (bN 2 g_34) k_f10 g_35 k_f11 g_36 k_f12 g_37 k_f13 g_38 k_f14 f14 k_f15 f15 k_f16 f16)) (w1 := (au__w au (nI g_51) (nI g_52) (nI g_53) (nI n_83) q4 q5 q6 q7 q8 q9 q10 q11 q12 q13 q14 q15 q16 k_f4 g_41 k_f5 (bN 7 g_42) k_f6 (bN 7 g_43) k_f7 g_44 k_f8 (bN 4 g_33) k_f9 (bN 2 g_34) k_f10 g_35 k_f11 g_36 k_f12 g_37 k_f13 g_38 k_f14 z_f14_91 k_f15 z_f15_92 k_f16 z_f16_93)) hP hD [5, 6, 7, 8, 9, 10, 11, 12, 13, 14, 15, 16, 17, 18] [14, 15, 16, 17, 18, 0, 1, 2, 3, 4, 5, 6, 7, 8, 9, 10, 11, 12, 13] 14 rfl hk1 hP1 rfl rfl rfl (by decide)
          clear hP1 hD1 hFc hPc hDc hKc
          clear hk1 hz1 ht hvm
          generalize H1 = H at hP hS ⊢
          have hsp := hsp.trans (slet_eq xr_90_0)
          refine lv_iconst (v := 1) hx hb eX4_reads_193 (by decide) ?_
          exact W.zret (v := 1) (ty := .boolean) hx hb hr (rfl) (fun t ht hW => ⟨⟨1, (), rfl, ⟨1, (Nat.le_of_ble_eq_true rfl), rfl, (congrArg Prod.fst (hsp.symm.trans hRR))⟩, ⟨g_33, g_34, g_35, g_36, g_37, g_38, z_f14_91, z_f15_92, z_f16_93, g_39, g_40, g_41, g_42, g_43, g_44, g_45, g_46, a1, g_47, g_48, g_49, g_50, g_51, g_52, g_53, (nI n_83), ⟨by rw [ht]; exact hP, va_K.moved hW.alike hK, hD⟩, ha1, hg_47, hg_48, hg_51, hg_52, hg_53, Or.inr ⟨n_83, hn_83, rfl⟩, (congrArg Prod.snd (hsp.symm.trans hRR))⟩⟩, hS.F ht⟩) hS.2.2 eX4_reads_194
      · have c_81 : g_52 = 0 := (nI_eq (a := g_52) (b := 0) (Nat.lt_of_le_of_lt hg_52 (Nat.le_of_ble_eq_true rfl)) (Nat.le_of_ble_eq_true rfl)).mp c_81
        have hsp := hsp.trans (if_pos c_81)
        refine lv_aload_n hx hb eX4_reads_161 rfl (lv_at hl 0 rfl) ?_
        refine lv_bipush (v := 6) hx hb eX4_reads_162 (by decide) ?_
        have hPc : va_P (dC, dI) vwCl (rd__w rd g_45 g_46 tp (nI a1) (nI g_47) (nI g_48) g_49 g_50 au rw rc rp k_ft ft k_fw fw k_fcn g_39 k_fpn g_40) _ := hP.sub [0, 1, 2, 3, 4] rfl
        have hDc := hD.sub (ws' := (rd__w rd g_45 g_46 tp (nI a1) (nI g_47) (nI g_48) g_49 g_50 au rw rc rp k_ft ft k_fw fw k_fcn g_39 k_fpn g_40)) [0, 1, 2, 3, 4] (by decide) rfl
        have hKc : va_K (dC, dI) vwCl (rd__t k_ft k_fw k_fcn k_fpn) s := hK.sub [0, 1, 2, 3] rfl
        have hFc := pu_free hDc hS hA
        refine va_calli (va_runV (As := [.int 6]) (rest := []) ⟨hx, hb, hml, hown, hts⟩ (c_E_4_refuse l dC dI _ rd g_45 g_46 tp a1 g_47 g_48 g_49 g_50 au rw rc rp k_ft ft k_fw fw k_fcn g_39 k_fpn g_40 6 ha1 hg_47 hg_48) (cwV 1 hts g_E_4_reads_E_4_refuse rfl rfl rfl (by decide +kernel) ⟨Nat.le_of_ble_eq_true rfl, Nat.le_of_ble_eq_true rfl⟩) ⟨pu_bl, va_recv hK hP (ci := 4) (q0 := 0) rfl rfl, pu_in hPc hKc hDc⟩ rfl rfl hl.1 rfl (lv_room (Nat.le_of_ble_eq_true rfl)) eX4_reads_164 ⟨Nat.le_of_ble_eq_true rfl, Nat.le_of_ble_eq_true rfl⟩) hS (fun q _ h => hFc q h) hFc (fun r_94 u t H1 locs ht hvm hw hB hz1 hk1 hS => ?_)
        obtain ⟨z_fa_95, z_fat_96, ⟨hP1, -, hD1⟩, xr_94_0⟩ := hB
        rw [ht] at hP1
        obtain ⟨hP, hD⟩ := pj_a (X := (rb__w rd g_45 g_46 (.ref tp) (nI a1) (nI g_47) (nI g_48) g_49 g_50 (.ref au) rw rc rp tp k_ft ft k_fw fw k_fcn g_39 k_fpn g_40 au (nI g_51) (nI g_52) (nI g_53) g_54 q4 q5 q6 q7 q8 q9 q10 q11 q12 q13 q14 q15 q16 k_f4 g_41 k_f5 (bN 7 g_42) k_f6 (bN 7 g_43) k_f7 g_44 k_f8 (bN 4 g_33) k_f9 (bN 2 g_34) k_f10 g_35 k_f11 g_36 k_f12 g_37 k_f13 g_38 k_f14 f14 k_f15 f15 k_f16 f16)) (X' := (rb__w rd z_fa_95 z_fat_96 (.ref tp) (nI a1) (nI g_47) (nI g_48) g_49 g_50 (.ref au) rw rc rp tp k_ft ft k_fw fw k_fcn g_39 k_fpn g_40 au (nI g_51) (nI g_52) (nI g_53) g_54 q4 q5 q6 q7 q8 q9 q10 q11 q12 q13 q14 q15 q16 k_f4 g_41 k_f5 (bN 7 g_42) k_f6 (bN 7 g_43) k_f7 g_44 k_f8 (bN 4 g_33) k_f9 (bN 2 g_34) k_f10 g_35 k_f11 g_36 k_f12 g_37 k_f13 g_38 k_f14 f14 k_f15 f15 k_f16 f16)) (wc := (rd__w rd g_45 g_46 tp (nI a1) (nI g_47) (nI g_48) g_49 g_50 au rw rc rp k_ft ft k_fw fw k_fcn g_39 k_fpn g_40)) (w1 := (rd__w rd z_fa_95 z_fat_96 tp (nI a1) (nI g_47) (nI g_48) g_49 g_50 au rw rc rp k_ft ft k_fw fw k_fcn g_39 k_fpn g_40)) hP hD [0, 1, 2, 3, 4] [0, 1, 2, 3, 4, 10, 11, 12, 13, 14, 15, 16, 17, 18, 19, 20, 21, 22, 23] 5 rfl hk1 hP1 rfl rfl rfl (by decide)
        clear hP1 hD1 hFc hPc hDc hKc
        clear hk1 hz1 ht hvm
        generalize H1 = H at hP hS ⊢
        have hsp := hsp.trans (slet_eq xr_94_0)
        obtain rfl : r_94 = 0 := hw
        exact W.zret (v := 0) (ty := .boolean) hx hb hr (rfl) (fun t ht hW => ⟨⟨0, (), rfl, ⟨0, (Nat.le_of_ble_eq_true rfl), rfl, (congrArg Prod.fst (hsp.symm.trans hRR))⟩, ⟨g_33, g_34, g_35, g_36, g_37, g_38, f14, f15, f16, g_39, g_40, g_41, g_42, g_43, g_44, z_fa_95, z_fat_96, a1, g_47, g_48, g_49, g_50, g_51, g_52, g_53, g_54, ⟨by rw [ht]; exact hP, va_K.moved hW.alike hK, hD⟩, ha1, hg_47, hg_48, hg_51, hg_52, hg_53, hg_54, (congrArg Prod.snd (hsp.symm.trans hRR))⟩⟩, hS.F ht⟩) hS.2.2 eX4_reads_167
    · have c_80 : ¬ g_48 = 1 := fun z => c_80 ((nI_eq (a := g_48) (b := 1) (Nat.lt_of_le_of_lt hg_48 (Nat.le_of_ble_eq_true rfl)) (Nat.le_of_ble_eq_true rfl)).mpr z)
      have hsp := hsp.trans (if_neg c_80)
      refine lv_aload_n hx hb eX4_reads_61 rfl (lv_at hl 0 rfl) ?_
      refine va_get (D := (dC, dI)) (ci := 4) (v := .int (nI g_48)) (C := RX4) (T := TX4) (N := 12) hx hb hts hiX4 hown hK hP 0 rfl rfl 5 (by decide) v_17 (fun _ h9 => h9) rfl eX4_reads_62 ?_
      refine lv_bipush (v := 8) hx hb eX4_reads_65 (by decide) ?_
      obtain ⟨JR_122, hJR_122, hsp⟩ := slet_ex hsp
      refine pu_join (fun H locs ls st => ∃ (g_97 : Int32) (g_98 : Int32) (g_99 : Nat) (g_100 : Nat) (g_101 : Int32) (g_102 : Int32) (g_103 : Nat → Int32) (g_104 : Nat → Int32) (g_105 : Nat) (g_106 : Nat) (g_107 : Nat) (g_108 : Int32) (g_109 : Nat → Int32) (g_110 : Nat → Nat) (g_111 : Nat → Nat) (g_112 : Nat → Int32) (g_113 : Nat → Nat) (g_114 : Nat → Nat) (g_115 : Nat → Int32) (g_116 : Nat → Int32) (g_117 : Nat → Int32) (g_118 : Nat → Int32) (g_119 : Nat), st = [.int (nI g_119)] ∧ g_99 ≤ 900 ∧ g_100 ≤ 15 ∧ g_105 ≤ 3 ∧ g_106 ≤ 8 ∧ g_107 ≤ 14 ∧ g_119 ≤ 1 ∧ cz g_106 g_107 g_113 ∧ (g_108 = -1 ∨ (∃ q : Nat, q ≤ 7 ∧ g_108 = nI q)) ∧ (g_97, g_98, g_99, g_100, g_101, g_102, g_103, g_104, g_105, g_106, g_107, g_108, g_109, g_110, g_111, g_112, g_113, g_114, g_115, g_116, g_117, g_118, g_119) = JR_122 ∧ va_P (dC, dI) vwCl (rb__w rd g_97 g_98 (.ref tp) (nI a1) (nI g_99) (nI g_100) g_101 g_102 (.ref au) rw rc rp tp k_ft ft k_fw fw k_fcn g_103 k_fpn g_104 au (nI g_105) (nI g_106) (nI g_107) g_108 q4 q5 q6 q7 q8 q9 q10 q11 q12 q13 q14 q15 q16 k_f4 g_109 k_f5 (bN 7 g_110) k_f6 (bN 7 g_111) k_f7 g_112 k_f8 (bN 4 g_113) k_f9 (bN 2 g_114) k_f10 g_115 k_f11 g_116 k_f12 g_117 k_f13 g_118 k_f14 f14 k_f15 f15 k_f16 f16) H ∧ va_D A (rb__w rd g_97 g_98 (.ref tp) (nI a1) (nI g_99) (nI g_100) g_101 g_102 (.ref au) rw rc rp tp k_ft ft k_fw fw k_fcn g_103 k_fpn g_104 au (nI g_105) (nI g_106) (nI g_107) g_108 q4 q5 q6 q7 q8 q9 q10 q11 q12 q13 q14 q15 q16 k_f4 g_109 k_f5 (bN 7 g_110) k_f6 (bN 7 g_111) k_f7 g_112 k_f8 (bN 4 g_113) k_f9 (bN 2 g_114) k_f10 g_115 k_f11 g_116 k_f12 g_117 k_f13 g_118 k_f14 f14 k_f15 f15 k_f16 f16) ∧ va_S A s.heap H locs ∧ lv_has ls 6 [(0, .ref rd), (1, .ref tp), (2, .int (nI a1)), (3, .ref au), (4, .int (nI g_55))]) 129 ?_ (fun j_121 => ?_)
      · rintro H locs ls st ⟨g_97, g_98, g_99, g_100, g_101, g_102, g_103, g_104, g_105, g_106, g_107, g_108, g_109, g_110, g_111, g_112, g_113, g_114, g_115, g_116, g_117, g_118, g_119, rfl, hg_99, hg_100, hg_105, hg_106, hg_107, hg_119, he_120, hg_108, he_123, hP, hD, hS, hl⟩
        rw [← he_123] at hsp
        refine lv_istore (lv' := [(5, .int (nI g_119)), (0, .ref rd), (1, .ref tp), (2, .int (nI a1)), (3, .ref au), (4, .int (nI g_55))]) hx hb eX4_reads_129 hl (by decide) rfl (fun ls hl => ?_)
        refine lv_iload hx hb eX4_reads_131 (lv_at hl 0 rfl) ?_
        refine lv_if_eq (tgt := 143) hx hb eX4_reads_133 (by decide) (fun c_124 => ?_) (fun c_124 => ?_)
        · have c_124 : g_119 = 0 := (nI_eq (a := g_119) (b := 0) (Nat.lt_of_le_of_lt hg_119 (Nat.le_of_ble_eq_true rfl)) (Nat.le_of_ble_eq_true rfl)).mp c_124
          have hsp := hsp.trans (if_pos c_124)
          have hsp := hout_62 _ hsp
          refine lv_iconst (v := 0) hx hb eX4_reads_143 (by decide) ?_
          exact W.zret (v := 0) (ty := .boolean) hx hb hr (rfl) (fun t ht hW => ⟨⟨0, (), rfl, ⟨0, (Nat.le_of_ble_eq_true rfl), rfl, (congrArg Prod.fst (hsp.symm.trans hRR))⟩, ⟨g_113, g_114, g_115, g_116, g_117, g_118, f14, f15, f16, g_103, g_104, g_109, g_110, g_111, g_112, g_97, g_98, a1, g_99, g_100, g_101, g_102, g_105, g_106, g_107, g_108, ⟨by rw [ht]; exact hP, va_K.moved hW.alike hK, hD⟩, ha1, hg_99, hg_100, hg_105, hg_106, hg_107, hg_108, (congrArg Prod.snd (hsp.symm.trans hRR))⟩⟩, hS.F ht⟩) hS.2.2 eX4_reads_144
        · have c_124 : ¬ g_119 = 0 := fun z => c_124 ((nI_eq (a := g_119) (b := 0) (Nat.lt_of_le_of_lt hg_119 (Nat.le_of_ble_eq_true rfl)) (Nat.le_of_ble_eq_true rfl)).mpr z)
          have hsp := hsp.trans (if_neg c_124)
          refine lv_aload_n hx hb eX4_reads_136 rfl (lv_at hl 1 rfl) ?_
          have hPc : va_P (dC, dI) vwCl (rd__w rd g_97 g_98 tp (nI a1) (nI g_99) (nI g_100) g_101 g_102 au rw rc rp k_ft ft k_fw fw k_fcn g_103 k_fpn g_104) _ := hP.sub [0, 1, 2, 3, 4] rfl
          have hDc := hD.sub (ws' := (rd__w rd g_97 g_98 tp (nI a1) (nI g_99) (nI g_100) g_101 g_102 au rw rc rp k_ft ft k_fw fw k_fcn g_103 k_fpn g_104)) [0, 1, 2, 3, 4] (by decide) rfl
          have hKc : va_K (dC, dI) vwCl (rd__t k_ft k_fw k_fcn k_fpn) s := hK.sub [0, 1, 2, 3] rfl
          have hFc := pu_free hDc hS hA
          refine va_calli (va_runV (As := []) (rest := []) ⟨hx, hb, hml, hown, hts⟩ (c_E_4_readsStop l dC dI _ rd g_97 g_98 tp a1 g_99 g_100 g_101 g_102 au rw rc rp k_ft ft k_fw fw k_fcn g_103 k_fpn g_104 ha1 hg_99 hg_100) (cwV 0 hts g_E_4_reads_E_4_readsStop rfl rfl rfl (by decide +kernel) ⟨Nat.le_of_ble_eq_true rfl, Nat.le_of_ble_eq_true rfl⟩) ⟨pu_bl, va_recv hK hP (ci := 4) (q0 := 0) rfl rfl, pu_in hPc hKc hDc⟩ rfl rfl hl.1 rfl (lv_room (Nat.le_of_ble_eq_true rfl)) eX4_reads_137 ⟨Nat.le_of_ble_eq_true rfl, Nat.le_of_ble_eq_true rfl⟩) hS (fun q _ h => hFc q h) hFc (fun r_125 u t H1 locs ht hvm hw hB hz1 hk1 hS => ?_)
          obtain ⟨z_fa_126, z_fat_127, z_pos_128, z_kd_129, z_vl_130, z_tka_131, ⟨hP1, -, hD1⟩, hz_pos_128, hz_kd_129, xr_125_0⟩ := hB
          rw [ht] at hP1
          obtain ⟨hP, hD⟩ := pj_a (X := (rb__w rd g_97 g_98 (.ref tp) (nI a1) (nI g_99) (nI g_100) g_101 g_102 (.ref au) rw rc rp tp k_ft ft k_fw fw k_fcn g_103 k_fpn g_104 au (nI g_105) (nI g_106) (nI g_107) g_108 q4 q5 q6 q7 q8 q9 q10 q11 q12 q13 q14 q15 q16 k_f4 g_109 k_f5 (bN 7 g_110) k_f6 (bN 7 g_111) k_f7 g_112 k_f8 (bN 4 g_113) k_f9 (bN 2 g_114) k_f10 g_115 k_f11 g_116 k_f12 g_117 k_f13 g_118 k_f14 f14 k_f15 f15 k_f16 f16)) (X' := (rb__w rd z_fa_126 z_fat_127 (.ref tp) (nI a1) (nI z_pos_128) (nI z_kd_129) z_vl_130 z_tka_131 (.ref au) rw rc rp tp k_ft ft k_fw fw k_fcn g_103 k_fpn g_104 au (nI g_105) (nI g_106) (nI g_107) g_108 q4 q5 q6 q7 q8 q9 q10 q11 q12 q13 q14 q15 q16 k_f4 g_109 k_f5 (bN 7 g_110) k_f6 (bN 7 g_111) k_f7 g_112 k_f8 (bN 4 g_113) k_f9 (bN 2 g_114) k_f10 g_115 k_f11 g_116 k_f12 g_117 k_f13 g_118 k_f14 f14 k_f15 f15 k_f16 f16)) (wc := (rd__w rd g_97 g_98 tp (nI a1) (nI g_99) (nI g_100) g_101 g_102 au rw rc rp k_ft ft k_fw fw k_fcn g_103 k_fpn g_104)) (w1 := (rd__w rd z_fa_126 z_fat_127 tp (nI a1) (nI z_pos_128) (nI z_kd_129) z_vl_130 z_tka_131 au rw rc rp k_ft ft k_fw fw k_fcn g_103 k_fpn g_104)) hP hD [0, 1, 2, 3, 4] [0, 1, 2, 3, 4, 10, 11, 12, 13, 14, 15, 16, 17, 18, 19, 20, 21, 22, 23] 5 rfl hk1 hP1 rfl rfl rfl (by decide)
          clear hP1 hD1 hFc hPc hDc hKc
          clear hk1 hz1 ht hvm
          generalize H1 = H at hP hS ⊢
          obtain ⟨u_132, hu_132, rfl, iu_132⟩ := hw
          have iu_132 : (u_132, z_fa_126, z_fat_127, z_pos_128, z_kd_129, z_vl_130, z_tka_131) = (sp_E_4_readsStop g_97 g_98 a1 g_99 g_100 g_101 g_102 ft fw) := Prod.ext iu_132 xr_125_0
          have hsp := hsp.trans (slet_eq iu_132)
          refine lv_if_ne (tgt := 145) hx hb eX4_reads_140 (by decide) (fun c_133 => ?_) (fun c_133 => ?_)
          · have c_133 : ¬ u_132 = 0 := fun z => c_133 ((nI_eq (a := u_132) (b := 0) (Nat.lt_of_le_of_lt hu_132 (Nat.le_of_ble_eq_true rfl)) (Nat.le_of_ble_eq_true rfl)).mpr z)
            have hsp := hsp.trans (if_neg c_133)
            refine lv_iinc (v := (nI (g_55 + 1))) (lv' := [(4, .int (nI (g_55 + 1))), (5, .int (nI g_119)), (0, .ref rd), (1, .ref tp), (2, .int (nI a1)), (3, .ref au)]) hx hb eX4_reads_145 hl (k := 5) rfl (nI_1 _) (by decide) rfl (fun ls hl => ?_)
            refine lv_goto (tgt := 44) hx hb eX4_reads_148 (by decide) ?_
            exact ih_57 (901 - (g_55 + 1)) (by omega) _ _ _ ⟨g_113, g_114, g_115, g_116, g_117, g_118, g_103, g_104, g_109, g_110, g_111, g_112, z_fa_126, z_fat_127, z_pos_128, z_kd_129, z_vl_130, z_tka_131, g_105, g_106, g_107, g_108, (g_55 + 1), rfl, hz_pos_128, hz_kd_129, hg_105, hg_106, hg_107, (by omega), by assumption, hg_108, hin_61 _ hsp, hP, hD, hS, lv_sub hl [2, 3, 4, 5, 0] rfl⟩
          · have c_133 : u_132 = 0 := (nI_eq (a := u_132) (b := 0) (Nat.lt_of_le_of_lt hu_132 (Nat.le_of_ble_eq_true rfl)) (Nat.le_of_ble_eq_true rfl)).mp c_133
            have hsp := hsp.trans (if_pos c_133)
            have hsp := hout_62 _ hsp
            refine lv_iconst (v := 0) hx hb eX4_reads_143 (by decide) ?_
            exact W.zret (v := 0) (ty := .boolean) hx hb hr (rfl) (fun t ht hW => ⟨⟨0, (), rfl, ⟨0, (Nat.le_of_ble_eq_true rfl), rfl, (congrArg Prod.fst (hsp.symm.trans hRR))⟩, ⟨g_113, g_114, g_115, g_116, g_117, g_118, f14, f15, f16, g_103, g_104, g_109, g_110, g_111, g_112, z_fa_126, z_fat_127, a1, z_pos_128, z_kd_129, z_vl_130, z_tka_131, g_105, g_106, g_107, g_108, ⟨by rw [ht]; exact hP, va_K.moved hW.alike hK, hD⟩, ha1, hz_pos_128, hz_kd_129, hg_105, hg_106, hg_107, hg_108, (congrArg Prod.snd (hsp.symm.trans hRR))⟩⟩, hS.F ht⟩) hS.2.2 eX4_reads_144
      have hsp := hJR_122
      refine lv_icmp_ne (tgt := 77) hx hb eX4_reads_67 (by decide) (fun c_134 => ?_) (fun c_134 => ?_)
      · have c_134 : ¬ g_48 = 8 := fun z => c_134 ((nI_eq (a := g_48) (b := 8) (Nat.lt_of_le_of_lt hg_48 (Nat.le_of_ble_eq_true rfl)) (Nat.le_of_ble_eq_true rfl)).mpr z)
        have hsp := hsp.trans (if_neg c_134)
        refine lv_aload_n hx hb eX4_reads_77 rfl (lv_at hl 0 rfl) ?_
        refine va_get (D := (dC, dI)) (ci := 4) (v := .int (nI g_48)) (C := RX4) (T := TX4) (N := 12) hx hb hts hiX4 hown hK hP 0 rfl rfl 5 (by decide) v_17 (fun _ h9 => h9) rfl eX4_reads_78 ?_
        refine lv_bipush (v := 9) hx hb eX4_reads_81 (by decide) ?_
        refine lv_icmp_ne (tgt := 93) hx hb eX4_reads_83 (by decide) (fun c_135 => ?_) (fun c_135 => ?_)
        · have c_135 : ¬ g_48 = 9 := fun z => c_135 ((nI_eq (a := g_48) (b := 9) (Nat.lt_of_le_of_lt hg_48 (Nat.le_of_ble_eq_true rfl)) (Nat.le_of_ble_eq_true rfl)).mpr z)
          have hsp := hsp.trans (if_neg c_135)
          refine lv_aload_n hx hb eX4_reads_93 rfl (lv_at hl 0 rfl) ?_
          refine va_get (D := (dC, dI)) (ci := 4) (v := .int (nI g_48)) (C := RX4) (T := TX4) (N := 12) hx hb hts hiX4 hown hK hP 0 rfl rfl 5 (by decide) v_17 (fun _ h9 => h9) rfl eX4_reads_94 ?_
          refine lv_bipush (v := 12) hx hb eX4_reads_97 (by decide) ?_
          refine lv_icmp_ne (tgt := 109) hx hb eX4_reads_99 (by decide) (fun c_136 => ?_) (fun c_136 => ?_)
          · have c_136 : ¬ g_48 = 12 := fun z => c_136 ((nI_eq (a := g_48) (b := 12) (Nat.lt_of_le_of_lt hg_48 (Nat.le_of_ble_eq_true rfl)) (Nat.le_of_ble_eq_true rfl)).mpr z)
            have hsp := hsp.trans (if_neg c_136)
            refine lv_aload_n hx hb eX4_reads_109 rfl (lv_at hl 0 rfl) ?_
            refine va_get (D := (dC, dI)) (ci := 4) (v := .int (nI g_48)) (C := RX4) (T := TX4) (N := 12) hx hb hts hiX4 hown hK hP 0 rfl rfl 5 (by decide) v_17 (fun _ h9 => h9) rfl eX4_reads_110 ?_
            refine lv_bipush (v := 13) hx hb eX4_reads_113 (by decide) ?_
            refine lv_icmp_ne (tgt := 125) hx hb eX4_reads_115 (by decide) (fun c_137 => ?_) (fun c_137 => ?_)
            · have c_137 : ¬ g_48 = 13 := fun z => c_137 ((nI_eq (a := g_48) (b := 13) (Nat.lt_of_le_of_lt hg_48 (Nat.le_of_ble_eq_true rfl)) (Nat.le_of_ble_eq_true rfl)).mpr z)
              have hsp := hsp.trans (if_neg c_137)
              refine lv_aload_n hx hb eX4_reads_125 rfl (lv_at hl 0 rfl) ?_
              have hPc : va_P (dC, dI) vwCl (rd__w rd g_45 g_46 tp (nI a1) (nI g_47) (nI g_48) g_49 g_50 au rw rc rp k_ft ft k_fw fw k_fcn g_39 k_fpn g_40) _ := hP.sub [0, 1, 2, 3, 4] rfl
              have hDc := hD.sub (ws' := (rd__w rd g_45 g_46 tp (nI a1) (nI g_47) (nI g_48) g_49 g_50 au rw rc rp k_ft ft k_fw fw k_fcn g_39 k_fpn g_40)) [0, 1, 2, 3, 4] (by decide) rfl
              have hKc : va_K (dC, dI) vwCl (rd__t k_ft k_fw k_fcn k_fpn) s := hK.sub [0, 1, 2, 3] rfl
              have hFc := pu_free hDc hS hA
              refine va_calli (va_runV (As := []) (rest := []) ⟨hx, hb, hml, hown, hts⟩ (c_E_4_refuseToken l dC dI _ rd g_45 g_46 tp a1 g_47 g_48 g_49 g_50 au rw rc rp k_ft ft k_fw fw k_fcn g_39 k_fpn g_40 ha1 hg_47 hg_48) (cwV 0 hts g_E_4_reads_E_4_refuseToken rfl rfl rfl (by decide +kernel) ⟨Nat.le_of_ble_eq_true rfl, Nat.le_of_ble_eq_true rfl⟩) ⟨pu_bl, va_recv hK hP (ci := 4) (q0 := 0) rfl rfl, pu_in hPc hKc hDc⟩ rfl rfl hl.1 rfl (lv_room (Nat.le_of_ble_eq_true rfl)) eX4_reads_126 ⟨Nat.le_of_ble_eq_true rfl, Nat.le_of_ble_eq_true rfl⟩) hS (fun q _ h => hFc q h) hFc (fun r_138 u t H1 locs ht hvm hw hB hz1 hk1 hS => ?_)
              obtain ⟨z_fa_139, z_fat_140, ⟨hP1, -, hD1⟩, xr_138_0⟩ := hB
              rw [ht] at hP1
              obtain ⟨hP, hD⟩ := pj_a (X := (rb__w rd g_45 g_46 (.ref tp) (nI a1) (nI g_47) (nI g_48) g_49 g_50 (.ref au) rw rc rp tp k_ft ft k_fw fw k_fcn g_39 k_fpn g_40 au (nI g_51) (nI g_52) (nI g_53) g_54 q4 q5 q6 q7 q8 q9 q10 q11 q12 q13 q14 q15 q16 k_f4 g_41 k_f5 (bN 7 g_42) k_f6 (bN 7 g_43) k_f7 g_44 k_f8 (bN 4 g_33) k_f9 (bN 2 g_34) k_f10 g_35 k_f11 g_36 k_f12 g_37 k_f13 g_38 k_f14 f14 k_f15 f15 k_f16 f16)) (X' := (rb__w rd z_fa_139 z_fat_140 (.ref tp) (nI a1) (nI g_47) (nI g_48) g_49 g_50 (.ref au) rw rc rp tp k_ft ft k_fw fw k_fcn g_39 k_fpn g_40 au (nI g_51) (nI g_52) (nI g_53) g_54 q4 q5 q6 q7 q8 q9 q10 q11 q12 q13 q14 q15 q16 k_f4 g_41 k_f5 (bN 7 g_42) k_f6 (bN 7 g_43) k_f7 g_44 k_f8 (bN 4 g_33) k_f9 (bN 2 g_34) k_f10 g_35 k_f11 g_36 k_f12 g_37 k_f13 g_38 k_f14 f14 k_f15 f15 k_f16 f16)) (wc := (rd__w rd g_45 g_46 tp (nI a1) (nI g_47) (nI g_48) g_49 g_50 au rw rc rp k_ft ft k_fw fw k_fcn g_39 k_fpn g_40)) (w1 := (rd__w rd z_fa_139 z_fat_140 tp (nI a1) (nI g_47) (nI g_48) g_49 g_50 au rw rc rp k_ft ft k_fw fw k_fcn g_39 k_fpn g_40)) hP hD [0, 1, 2, 3, 4] [0, 1, 2, 3, 4, 10, 11, 12, 13, 14, 15, 16, 17, 18, 19, 20, 21, 22, 23] 5 rfl hk1 hP1 rfl rfl rfl (by decide)
              clear hP1 hD1 hFc hPc hDc hKc
              clear hk1 hz1 ht hvm
              generalize H1 = H at hP hS ⊢
              have hsp := hsp.trans (slet_eq xr_138_0)
              obtain rfl : r_138 = 0 := hw
              exact j_121 _ _ _ _ ⟨z_fa_139, z_fat_140, g_47, g_48, g_49, g_50, g_39, g_40, g_51, g_52, g_53, g_54, g_41, g_42, g_43, g_44, g_33, g_34, g_35, g_36, g_37, g_38, 0, rfl, hg_47, hg_48, hg_51, hg_52, hg_53, (Nat.le_of_ble_eq_true rfl), by assumption, hg_54, hsp.symm, hP, hD, hS, lv_sub hl [0, 1, 2, 3, 4] rfl⟩
            · have c_137 : g_48 = 13 := (nI_eq (a := g_48) (b := 13) (Nat.lt_of_le_of_lt hg_48 (Nat.le_of_ble_eq_true rfl)) (Nat.le_of_ble_eq_true rfl)).mp c_137
              have hsp := hsp.trans (if_pos c_137)
              refine lv_aload_n hx hb eX4_reads_118 rfl (lv_at hl 0 rfl) ?_
              have hFc := pu_free hD hS hA
              refine va_calli (va_runV (As := []) (rest := []) ⟨hx, hb, hml, hown, hts⟩ (c_E_4_readsEdge l dC dI _ rd g_45 g_46 tp a1 g_47 g_48 g_49 g_50 au rw rc rp k_ft ft k_fw fw k_fcn g_39 k_fpn g_40 g_51 g_52 g_53 g_54 q4 q5 q6 q7 q8 q9 q10 q11 q12 q13 q14 q15 q16 k_f4 g_41 k_f5 g_42 k_f6 g_43 k_f7 g_44 k_f8 g_33 k_f9 g_34 k_f10 g_35 k_f11 g_36 k_f12 g_37 k_f13 g_38 k_f14 f14 k_f15 f15 k_f16 f16 ha1 hg_47 hg_48 hg_51 hg_52 hg_53 (hg_54) (by assumption)) (cwV 0 hts g_E_4_reads_E_4_readsEdge rfl rfl rfl (by decide +kernel) ⟨Nat.le_of_ble_eq_true rfl, Nat.le_of_ble_eq_true rfl⟩) ⟨pu_bl, va_recv hK hP (ci := 4) (q0 := 0) rfl rfl, pu_in hP hK hD⟩ rfl rfl hl.1 rfl (lv_room (Nat.le_of_ble_eq_true rfl)) eX4_reads_119 ⟨Nat.le_of_ble_eq_true rfl, Nat.le_of_ble_eq_true rfl⟩) hS (fun q _ h => hFc q h) hFc (fun r_141 u t H1 locs ht hvm hw hB hz1 hk1 hS => ?_)
              obtain ⟨z_f8_142, z_f9_143, z_f10_144, z_f11_145, z_f12_146, z_f13_147, z_f5_148, z_f6_149, z_f7_150, z_fa_151, z_fat_152, z_pos_153, z_kd_154, z_vl_155, z_tka_156, z_ne_157, ⟨hP1, -, hD1⟩, hz_pos_153, hz_kd_154, hz_ne_157, xr_141_0, xr_141_1⟩ := hB
              rw [ht] at hP1
              have hP := hP1
              have hD := pu_all hFc hD1
              clear hP1 hD1 hFc
              clear hk1 hz1 ht hvm
              generalize H1 = H at hP hS ⊢
              obtain ⟨u_158, hu_158, rfl, iu_158⟩ := hw
              have iu_158 : (u_158, z_f8_142, z_f9_143, z_f10_144, z_f11_145, z_f12_146, z_f13_147, z_f5_148, z_f6_149, z_f7_150, z_fa_151, z_fat_152, z_pos_153, z_kd_154, z_vl_155, z_tka_156, z_ne_157) = (sp_E_4_readsEdge g_45 g_46 a1 g_47 g_48 g_49 g_50 ft fw g_39 g_40 g_51 g_52 g_53 g_42 g_43 g_44 g_33 g_34 g_35 g_36 g_37 g_38) := Prod.ext iu_158 xr_141_1
              have hsp := hsp.trans (slet_eq iu_158)
              refine lv_goto (tgt := 129) hx hb eX4_reads_122 (by decide) ?_
              exact j_121 _ _ _ _ ⟨z_fa_151, z_fat_152, z_pos_153, z_kd_154, z_vl_155, z_tka_156, g_39, g_40, g_51, g_52, z_ne_157, g_54, g_41, z_f5_148, z_f6_149, z_f7_150, z_f8_142, z_f9_143, z_f10_144, z_f11_145, z_f12_146, z_f13_147, u_158, rfl, hz_pos_153, hz_kd_154, hg_51, hg_52, hz_ne_157, hu_158, by assumption, hg_54, hsp.symm, hP, hD, hS, lv_sub hl [0, 1, 2, 3, 4] rfl⟩
          · have c_136 : g_48 = 12 := (nI_eq (a := g_48) (b := 12) (Nat.lt_of_le_of_lt hg_48 (Nat.le_of_ble_eq_true rfl)) (Nat.le_of_ble_eq_true rfl)).mp c_136
            have hsp := hsp.trans (if_pos c_136)
            refine lv_aload_n hx hb eX4_reads_102 rfl (lv_at hl 0 rfl) ?_
            have hFc := pu_free hD hS hA
            refine va_calli (va_runV (As := []) (rest := []) ⟨hx, hb, hml, hown, hts⟩ (c_E_4_readsStart l dC dI _ rd g_45 g_46 tp a1 g_47 g_48 g_49 g_50 au rw rc rp k_ft ft k_fw fw k_fcn g_39 k_fpn g_40 g_51 g_52 g_53 g_54 q4 q5 q6 q7 q8 q9 q10 q11 q12 q13 q14 q15 q16 k_f4 g_41 k_f5 g_42 k_f6 g_43 k_f7 g_44 k_f8 g_33 k_f9 g_34 k_f10 g_35 k_f11 g_36 k_f12 g_37 k_f13 g_38 k_f14 f14 k_f15 f15 k_f16 f16 ha1 hg_47 hg_48 hg_51 hg_52 hg_53 (hg_54)) (cwV 0 hts g_E_4_reads_E_4_readsStart rfl rfl rfl (by decide +kernel) ⟨Nat.le_of_ble_eq_true rfl, Nat.le_of_ble_eq_true rfl⟩) ⟨pu_bl, va_recv hK hP (ci := 4) (q0 := 0) rfl rfl, pu_in hP hK hD⟩ rfl rfl hl.1 rfl (lv_room (Nat.le_of_ble_eq_true rfl)) eX4_reads_103 ⟨Nat.le_of_ble_eq_true rfl, Nat.le_of_ble_eq_true rfl⟩) hS (fun q _ h => hFc q h) hFc (fun r_159 u t H1 locs ht hvm hw hB hz1 hk1 hS => ?_)
            obtain ⟨z_fa_160, z_fat_161, z_pos_162, z_kd_163, z_vl_164, z_tka_165, z_st0_166, ⟨hP1, -, hD1⟩, hz_pos_162, hz_kd_163, hz_st0_166, xr_159_0⟩ := hB
            rw [ht] at hP1
            have hP := hP1
            have hD := pu_all hFc hD1
            clear hP1 hD1 hFc
            clear hk1 hz1 ht hvm
            generalize H1 = H at hP hS ⊢
            obtain ⟨u_167, hu_167, rfl, iu_167⟩ := hw
            have iu_167 : (u_167, z_fa_160, z_fat_161, z_pos_162, z_kd_163, z_vl_164, z_tka_165, z_st0_166) = (sp_E_4_readsStart g_45 g_46 a1 g_47 g_48 g_49 g_50 ft fw g_40 g_52 g_54) := Prod.ext iu_167 xr_159_0
            have hsp := hsp.trans (slet_eq iu_167)
            refine lv_goto (tgt := 129) hx hb eX4_reads_106 (by decide) ?_
            exact j_121 _ _ _ _ ⟨z_fa_160, z_fat_161, z_pos_162, z_kd_163, z_vl_164, z_tka_165, g_39, g_40, g_51, g_52, g_53, z_st0_166, g_41, g_42, g_43, g_44, g_33, g_34, g_35, g_36, g_37, g_38, u_167, rfl, hz_pos_162, hz_kd_163, hg_51, hg_52, hg_53, hu_167, by assumption, hz_st0_166, hsp.symm, hP, hD, hS, lv_sub hl [0, 1, 2, 3, 4] rfl⟩
        · have c_135 : g_48 = 9 := (nI_eq (a := g_48) (b := 9) (Nat.lt_of_le_of_lt hg_48 (Nat.le_of_ble_eq_true rfl)) (Nat.le_of_ble_eq_true rfl)).mp c_135
          have hsp := hsp.trans (if_pos c_135)
          refine lv_aload_n hx hb eX4_reads_86 rfl (lv_at hl 0 rfl) ?_
          have hFc := pu_free hD hS hA
          refine va_calli (va_runV (As := []) (rest := []) ⟨hx, hb, hml, hown, hts⟩ (c_E_4_readsPlace l dC dI _ rd g_45 g_46 tp a1 g_47 g_48 g_49 g_50 au rw rc rp k_ft ft k_fw fw k_fcn g_39 k_fpn g_40 g_51 g_52 g_53 g_54 q4 q5 q6 q7 q8 q9 q10 q11 q12 q13 q14 q15 q16 k_f4 g_41 k_f5 g_42 k_f6 g_43 k_f7 g_44 k_f8 g_33 k_f9 g_34 k_f10 g_35 k_f11 g_36 k_f12 g_37 k_f13 g_38 k_f14 f14 k_f15 f15 k_f16 f16 ha1 hg_47 hg_48 hg_51 hg_52 hg_53 (hg_54) (by assumption)) (cwV 0 hts g_E_4_reads_E_4_readsPlace rfl rfl rfl (by decide +kernel) ⟨Nat.le_of_ble_eq_true rfl, Nat.le_of_ble_eq_true rfl⟩) ⟨pu_bl, va_recv hK hP (ci := 4) (q0 := 0) rfl rfl, pu_in hP hK hD⟩ rfl rfl hl.1 rfl (lv_room (Nat.le_of_ble_eq_true rfl)) eX4_reads_87 ⟨Nat.le_of_ble_eq_true rfl, Nat.le_of_ble_eq_true rfl⟩) hS (fun q _ h => hFc q h) hFc (fun r_168 u t H1 locs ht hvm hw hB hz1 hk1 hS => ?_)
          obtain ⟨z_f8_169, z_f9_170, z_f10_171, z_f11_172, z_f12_173, z_f13_174, z_fpn_175, z_f4_176, z_fa_177, z_fat_178, z_pos_179, z_kd_180, z_vl_181, z_tka_182, z_np_183, ⟨hP1, -, hD1⟩, hz_pos_179, hz_kd_180, hz_np_183, xr_168_0, xr_168_1⟩ := hB
          rw [ht] at hP1
          have hP := hP1
          have hD := pu_all hFc hD1
          clear hP1 hD1 hFc
          clear hk1 hz1 ht hvm
          generalize H1 = H at hP hS ⊢
          obtain ⟨u_184, hu_184, rfl, iu_184⟩ := hw
          have iu_184 : (u_184, z_f8_169, z_f9_170, z_f10_171, z_f11_172, z_f12_173, z_f13_174, z_fpn_175, z_f4_176, z_fa_177, z_fat_178, z_pos_179, z_kd_180, z_vl_181, z_tka_182, z_np_183) = (sp_E_4_readsPlace g_45 g_46 a1 g_47 g_48 g_49 g_50 ft fw g_39 g_40 g_51 g_52 g_41 g_33 g_34 g_35 g_36 g_37 g_38) := Prod.ext iu_184 xr_168_1
          have hsp := hsp.trans (slet_eq iu_184)
          refine lv_goto (tgt := 129) hx hb eX4_reads_90 (by decide) ?_
          exact j_121 _ _ _ _ ⟨z_fa_177, z_fat_178, z_pos_179, z_kd_180, z_vl_181, z_tka_182, g_39, z_fpn_175, g_51, z_np_183, g_53, g_54, z_f4_176, g_42, g_43, g_44, z_f8_169, z_f9_170, z_f10_171, z_f11_172, z_f12_173, z_f13_174, u_184, rfl, hz_pos_179, hz_kd_180, hg_51, hz_np_183, hg_53, hu_184, by assumption, hg_54, hsp.symm, hP, hD, hS, lv_sub hl [0, 1, 2, 3, 4] rfl⟩
      · have c_134 : g_48 = 8 := (nI_eq (a := g_48) (b := 8) (Nat.lt_of_le_of_lt hg_48 (Nat.le_of_ble_eq_true rfl)) (Nat.le_of_ble_eq_true rfl)).mp c_134
        have hsp := hsp.trans (if_pos c_134)
        refine lv_aload_n hx hb eX4_reads_70 rfl (lv_at hl 0 rfl) ?_
        have hFc := pu_free hD hS hA
        refine va_calli (va_runV (As := []) (rest := []) ⟨hx, hb, hml, hown, hts⟩ (c_E_4_readsClock l dC dI _ rd g_45 g_46 tp a1 g_47 g_48 g_49 g_50 au rw rc rp k_ft ft k_fw fw k_fcn g_39 k_fpn g_40 g_51 g_52 g_53 g_54 q4 q5 q6 q7 q8 q9 q10 q11 q12 q13 q14 q15 q16 k_f4 g_41 k_f5 g_42 k_f6 g_43 k_f7 g_44 k_f8 g_33 k_f9 g_34 k_f10 g_35 k_f11 g_36 k_f12 g_37 k_f13 g_38 k_f14 f14 k_f15 f15 k_f16 f16 ha1 hg_47 hg_48 hg_51 hg_52 hg_53 (hg_54)) (cwV 0 hts g_E_4_reads_E_4_readsClock rfl rfl rfl (by decide +kernel) ⟨Nat.le_of_ble_eq_true rfl, Nat.le_of_ble_eq_true rfl⟩) ⟨pu_bl, va_recv hK hP (ci := 4) (q0 := 0) rfl rfl, pu_in hP hK hD⟩ rfl rfl hl.1 rfl (lv_room (Nat.le_of_ble_eq_true rfl)) eX4_reads_71 ⟨Nat.le_of_ble_eq_true rfl, Nat.le_of_ble_eq_true rfl⟩) hS (fun q _ h => hFc q h) hFc (fun r_185 u t H1 locs ht hvm hw hB hz1 hk1 hS => ?_)
        obtain ⟨z_fcn_186, z_fa_187, z_fat_188, z_pos_189, z_kd_190, z_vl_191, z_tka_192, z_nc_193, ⟨hP1, -, hD1⟩, hz_pos_189, hz_kd_190, hz_nc_193, xr_185_0⟩ := hB
        rw [ht] at hP1
        have hP := hP1
        have hD := pu_all hFc hD1
        clear hP1 hD1 hFc
        clear hk1 hz1 ht hvm
        generalize H1 = H at hP hS ⊢
        obtain ⟨u_194, hu_194, rfl, iu_194⟩ := hw
        have iu_194 : (u_194, z_fcn_186, z_fa_187, z_fat_188, z_pos_189, z_kd_190, z_vl_191, z_tka_192, z_nc_193) = (sp_E_4_readsClock g_45 g_46 a1 g_47 g_48 g_49 g_50 ft fw g_39 g_40 g_51 g_52) := Prod.ext iu_194 xr_185_0
        have hsp := hsp.trans (slet_eq iu_194)
        refine lv_goto (tgt := 129) hx hb eX4_reads_74 (by decide) ?_
        exact j_121 _ _ _ _ ⟨z_fa_187, z_fat_188, z_pos_189, z_kd_190, z_vl_191, z_tka_192, z_fcn_186, g_40, z_nc_193, g_52, g_53, g_54, g_41, g_42, g_43, g_44, g_33, g_34, g_35, g_36, g_37, g_38, u_194, rfl, hz_pos_189, hz_kd_190, hz_nc_193, hg_52, hg_53, hu_194, by assumption, hg_54, hsp.symm, hP, hD, hS, lv_sub hl [0, 1, 2, 3, 4] rfl⟩
