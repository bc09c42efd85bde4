theorem dX9_from_0 : decode cX9_from 0 = .ok (.aload_n 0, 1) := by decide +kernel
theorem dX9_from_1 : decode cX9_from 1 = .ok (.iconst 0, 1) := by decide +kernel
theorem dX9_from_2 : decode cX9_from 2 = .ok (.putfield 142, 3) := by decide +kernel
theorem dX9_from_5 : decode cX9_from 5 = .ok (.aload_n 0, 1) := by decide +kernel
theorem dX9_from_6 : decode cX9_from 6 = .ok (.iload_n 1, 1) := by decide +kernel
theorem dX9_from_7 : decode cX9_from 7 = .ok (.invokevirtual 286, 3) := by decide +kernel
theorem dX9_from_10 : decode cX9_from 10 = .ok (.ifCond .eq 16, 3) := by decide +kernel
theorem dX9_from_13 : decode cX9_from 13 = .ok (.aload_n 0, 1) := by decide +kernel
theorem dX9_from_14 : decode cX9_from 14 = .ok (.iload 5, 2) := by decide +kernel
theorem dX9_from_16 : decode cX9_from 16 = .ok (.invokevirtual 286, 3) := by decide +kernel
theorem dX9_from_19 : decode cX9_from 19 = .ok (.ifCond .eq 7, 3) := by decide +kernel
theorem dX9_from_22 : decode cX9_from 22 = .ok (.iconst 1, 1) := by decide +kernel
theorem dX9_from_23 : decode cX9_from 23 = .ok (.goto 4, 3) := by decide +kernel
theorem dX9_from_26 : decode cX9_from 26 = .ok (.iconst 0, 1) := by decide +kernel
theorem dX9_from_27 : decode cX9_from 27 = .ok (.istore 6, 2) := by decide +kernel
theorem dX9_from_29 : decode cX9_from 29 = .ok (.iload 6, 2) := by decide +kernel
theorem dX9_from_31 : decode cX9_from 31 = .ok (.ifCond .eq 62, 3) := by decide +kernel
theorem dX9_from_34 : decode cX9_from 34 = .ok (.aload_n 0, 1) := by decide +kernel
theorem dX9_from_35 : decode cX9_from 35 = .ok (.invokevirtual 280, 3) := by decide +kernel
theorem dX9_from_38 : decode cX9_from 38 = .ok (.iconst 1, 1) := by decide +kernel
theorem dX9_from_39 : decode cX9_from 39 = .ok (.if_icmp .lt 13, 3) := by decide +kernel
theorem dX9_from_42 : decode cX9_from 42 = .ok (.iload_n 2, 1) := by decide +kernel
theorem dX9_from_43 : decode cX9_from 43 = .ok (.iconst 0, 1) := by decide +kernel
theorem dX9_from_44 : decode cX9_from 44 = .ok (.bipush 60, 2) := by decide +kernel
theorem dX9_from_46 : decode cX9_from 46 = .ok (.invokestatic 152, 3) := by decide +kernel
theorem dX9_from_49 : decode cX9_from 49 = .ok (.ifCond .eq 44, 3) := by decide +kernel
theorem dX9_from_52 : decode cX9_from 52 = .ok (.aload_n 0, 1) := by decide +kernel
theorem dX9_from_53 : decode cX9_from 53 = .ok (.invokevirtual 280, 3) := by decide +kernel
theorem dX9_from_56 : decode cX9_from 56 = .ok (.iconst 2, 1) := by decide +kernel
theorem dX9_from_57 : decode cX9_from 57 = .ok (.if_icmp .lt 13, 3) := by decide +kernel
theorem dX9_from_60 : decode cX9_from 60 = .ok (.iload_n 3, 1) := by decide +kernel
theorem dX9_from_61 : decode cX9_from 61 = .ok (.iconst 0, 1) := by decide +kernel
theorem dX9_from_62 : decode cX9_from 62 = .ok (.bipush 60, 2) := by decide +kernel
theorem dX9_from_64 : decode cX9_from 64 = .ok (.invokestatic 152, 3) := by decide +kernel
theorem dX9_from_67 : decode cX9_from 67 = .ok (.ifCond .eq 26, 3) := by decide +kernel
theorem dX9_from_70 : decode cX9_from 70 = .ok (.aload_n 0, 1) := by decide +kernel
theorem dX9_from_71 : decode cX9_from 71 = .ok (.invokevirtual 280, 3) := by decide +kernel
theorem dX9_from_74 : decode cX9_from 74 = .ok (.iconst 3, 1) := by decide +kernel
theorem dX9_from_75 : decode cX9_from 75 = .ok (.if_icmp .lt 14, 3) := by decide +kernel
theorem dX9_from_78 : decode cX9_from 78 = .ok (.iload 4, 2) := by decide +kernel
theorem dX9_from_80 : decode cX9_from 80 = .ok (.iconst 0, 1) := by decide +kernel
theorem dX9_from_81 : decode cX9_from 81 = .ok (.bipush 60, 2) := by decide +kernel
theorem dX9_from_83 : decode cX9_from 83 = .ok (.invokestatic 152, 3) := by decide +kernel
theorem dX9_from_86 : decode cX9_from 86 = .ok (.ifCond .eq 7, 3) := by decide +kernel
theorem dX9_from_89 : decode cX9_from 89 = .ok (.iconst 1, 1) := by decide +kernel
theorem dX9_from_90 : decode cX9_from 90 = .ok (.goto 4, 3) := by decide +kernel
theorem dX9_from_93 : decode cX9_from 93 = .ok (.iconst 0, 1) := by decide +kernel
theorem dX9_from_94 : decode cX9_from 94 = .ok (.istore 6, 2) := by decide +kernel
theorem dX9_from_96 : decode cX9_from 96 = .ok (.iload 6, 2) := by decide +kernel
theorem dX9_from_98 : decode cX9_from 98 = .ok (.ifCond .ne 5, 3) := by decide +kernel
theorem dX9_from_101 : decode cX9_from 101 = .ok (.iconst (-1), 1) := by decide +kernel
theorem dX9_from_102 : decode cX9_from 102 = .ok (.ireturn, 1) := by decide +kernel
theorem dX9_from_103 : decode cX9_from 103 = .ok (.aload_n 0, 1) := by decide +kernel
theorem dX9_from_104 : decode cX9_from 104 = .ok (.aload_n 0, 1) := by decide +kernel
theorem dX9_from_105 : decode cX9_from 105 = .ok (.invokevirtual 280, 3) := by decide +kernel
theorem dX9_from_108 : decode cX9_from 108 = .ok (.iconst 1, 1) := by decide +kernel
theorem dX9_from_109 : decode cX9_from 109 = .ok (.iadd, 1) := by decide +kernel
theorem dX9_from_110 : decode cX9_from 110 = .ok (.putfield 328, 3) := by decide +kernel
theorem dX9_from_113 : decode cX9_from 113 = .ok (.aload_n 0, 1) := by decide +kernel
theorem dX9_from_114 : decode cX9_from 114 = .ok (.iload_n 2, 1) := by decide +kernel
theorem dX9_from_115 : decode cX9_from 115 = .ok (.iload_n 3, 1) := by decide +kernel
theorem dX9_from_116 : decode cX9_from 116 = .ok (.iload 4, 2) := by decide +kernel
theorem dX9_from_118 : decode cX9_from 118 = .ok (.invokevirtual 379, 3) := by decide +kernel
theorem dX9_from_121 : decode cX9_from 121 = .ok (.aload_n 0, 1) := by decide +kernel
theorem dX9_from_122 : decode cX9_from 122 = .ok (.iconst 1, 1) := by decide +kernel
theorem dX9_from_123 : decode cX9_from 123 = .ok (.iload_n 1, 1) := by decide +kernel
theorem dX9_from_124 : decode cX9_from 124 = .ok (.iconst 2, 1) := by decide +kernel
theorem dX9_from_125 : decode cX9_from 125 = .ok (.iconst 1, 1) := by decide +kernel
theorem dX9_from_126 : decode cX9_from 126 = .ok (.bipush 120, 2) := by decide +kernel
theorem dX9_from_128 : decode cX9_from 128 = .ok (.iconst (-1), 1) := by decide +kernel
theorem dX9_from_129 : decode cX9_from 129 = .ok (.invokevirtual 383, 3) := by decide +kernel
theorem dX9_from_132 : decode cX9_from 132 = .ok (.aload_n 0, 1) := by decide +kernel
theorem dX9_from_133 : decode cX9_from 133 = .ok (.iconst 1, 1) := by decide +kernel
theorem dX9_from_134 : decode cX9_from 134 = .ok (.iload 5, 2) := by decide +kernel
theorem dX9_from_136 : decode cX9_from 136 = .ok (.invokevirtual 426, 3) := by decide +kernel
theorem dX9_from_139 : decode cX9_from 139 = .ok (.ifCond .eq 7, 3) := by decide +kernel
theorem dX9_from_142 : decode cX9_from 142 = .ok (.iconst 1, 1) := by decide +kernel
theorem dX9_from_143 : decode cX9_from 143 = .ok (.goto 4, 3) := by decide +kernel
theorem dX9_from_146 : decode cX9_from 146 = .ok (.iconst 0, 1) := by decide +kernel
theorem dX9_from_147 : decode cX9_from 147 = .ok (.ireturn, 1) := by decide +kernel
abbrev vs_EM_from : List Cond := .code yX9_from cX9_from 7 (some .int) :: VM
theorem g_EM_from_X9_in : GoodIn vs_EM_from (va_wsS RX9 152 yX9_in vs_X9_in) := gm_0 (fun w h => by
  rcases List.mem_cons.mp h with rfl | h
  · exact vm_137
  rcases List.mem_cons.mp h with rfl | h
  · exact vm_138
  rcases List.mem_cons.mp h with rfl | h
  · exact vm_19
  rcases List.mem_cons.mp h with rfl | h
  · exact vm_139
  exact absurd h (List.not_mem_nil))
theorem g_EM_from_EM_isPlace : GoodIn vs_EM_from (wsV RX9 286 RX9 yX9_isPlace vs_EM_isPlace) := gm_V vm_148 vm_149 vm_150 vm_19 vm_151
theorem g_EM_from_EM_clocks : GoodIn vs_EM_from (wsV RX9 280 RX9 yX9_clocks vs_EM_clocks) := gm_V vm_140 vm_141 vm_142 vm_19 vm_143
theorem g_EM_from_EM_layPoint : GoodIn vs_EM_from (wsV RX9 379 RX9 yX9_layPoint vs_EM_layPoint) := gm_V vm_255 vm_256 vm_257 vm_19 vm_258
theorem g_EM_from_EM_explores_1_120 : GoodIn vs_EM_from (wsV RX9 383 RX9 yX9_explores vs_EM_explores_1_120) := gm_V vm_259 vm_260 vm_261 vm_19 vm_262
theorem g_EM_from_EM_hasPlace_1 : GoodIn vs_EM_from (wsV RX9 426 RX9 yX9_hasPlace vs_EM_hasPlace_1) := gm_V vm_354 vm_355 vm_356 vm_19 vm_357
noncomputable def sp_EM_from (x16 : Nat) (x46 : Nat) (f3 : Nat → Int32) (q4 : Nat → Nat) (q5 : Nat → Nat) (q6 : Nat → Nat) (q7 : Nat → Nat) (f8 : Nat → Int32) (q9 : Nat → Nat) (q10 : Nat → Nat) (f11 : Nat → Int32) (m12_0 : Nat) (m12_1 : Nat) (m13_0 : Nat) (m13_1 : Nat) (m14_0 : Nat) (m14_1 : Nat) (f34 : Nat → Int32) (f35 : Nat → Int32) (q38 : Nat → Nat) (f39 : Nat → Int32) (f40 : Nat → Int32) (f41 : Nat → Int32) (m42_1 : Nat) (f43 : Nat → Int32) (f44 : Nat → Int32) (f47 : Nat → Int32) (f48 : Nat → Int32) (p0 : Int32) (p1 : Int32) (p2 : Int32) (p3 : Int32) (p4 : Int32) : Int32 × (Nat → Int32) × (Nat → Int32) × (Nat → Nat) × (Nat → Int32) × (Nat → Int32) × (Nat → Int32) × (Nat → Int32) × (Nat → Int32) × (Nat → Int32) × (Nat → Int32) × Nat × Int32 × Nat := (if (0 : Int32) ≤ p0 ∧ p0 < nI (bkN x16 m13_0 m13_1) then (slet ((p0 : Int32).toNatClampNeg) (fun n_2 => (if (0 : Int32) ≤ p4 ∧ p4 < nI (bkN x16 m13_0 m13_1) then (slet ((p4 : Int32).toNatClampNeg) (fun n_4 => (slet (sp_EM_clocks x16 m12_0 m12_1) (fun u_6 => (if u_6 < 1 then (slet (sp_EM_clocks x16 m12_0 m12_1) (fun u_9 => (if u_9 < 2 then (slet (sp_EM_clocks x16 m12_0 m12_1) (fun u_12 => (if u_12 < 3 then (slet (sp_EM_clocks x16 m12_0 m12_1) (fun u_15 => (slet (sp_EM_layPoint f35 p1 p2 p3) (fun z35_18 => (slet (sp_EM_explores_1_120 x16 (u_15 + 1) f3 q4 q5 q6 q7 f8 q9 q10 f11 m12_0 m12_1 m13_0 m13_1 m14_0 m14_1 f34 z35_18 q38 f39 f40 f41 f43 f44 f47 f48 n_2 2 1 (-1)) (fun (z34_20, z35_21, z38_22, z39_23, z40_24, z41_25, z43_26, z44_27, z47_28, z48_29, z42_1_30) => (slet (sp_EM_hasPlace_1 z38_22 z42_1_30 (nI n_4)) (fun u_32 => (if u_32 = 0 then (0, z34_20, z35_21, z38_22, z39_23, z40_24, z41_25, z43_26, z44_27, z47_28, z48_29, z42_1_30, 0, (u_15 + 1)) else (1, z34_20, z35_21, z38_22, z39_23, z40_24, z41_25, z43_26, z44_27, z47_28, z48_29, z42_1_30, 0, (u_15 + 1))))))))))) else (if (0 : Int32) ≤ p3 ∧ p3 ≤ 60 then (slet ((p3 : Int32).toNatClampNeg) (fun n_35 => (slet (sp_EM_clocks x16 m12_0 m12_1) (fun u_37 => (slet (sp_EM_layPoint f35 p1 p2 (nI n_35)) (fun z35_40 => (slet (sp_EM_explores_1_120 x16 (u_37 + 1) f3 q4 q5 q6 q7 f8 q9 q10 f11 m12_0 m12_1 m13_0 m13_1 m14_0 m14_1 f34 z35_40 q38 f39 f40 f41 f43 f44 f47 f48 n_2 2 1 (-1)) (fun (z34_42, z35_43, z38_44, z39_45, z40_46, z41_47, z43_48, z44_49, z47_50, z48_51, z42_1_52) => (slet (sp_EM_hasPlace_1 z38_44 z42_1_52 (nI n_4)) (fun u_54 => (if u_54 = 0 then (0, z34_42, z35_43, z38_44, z39_45, z40_46, z41_47, z43_48, z44_49, z47_50, z48_51, z42_1_52, 0, (u_37 + 1)) else (1, z34_42, z35_43, z38_44, z39_45, z40_46, z41_47, z43_48, z44_49, z47_50, z48_51, z42_1_52, 0, (u_37 + 1))))))))))))) else ((-1), f34, f35, q38, f39, f40, f41, f43, f44, f47, f48, m42_1, 0, x46))))) else (if (0 : Int32) ≤ p2 ∧ p2 ≤ 60 then (slet ((p2 : Int32).toNatClampNeg) (fun n_57 => (slet (sp_EM_clocks x16 m12_0 m12_1) (fun u_59 => (if u_59 < 3 then (slet (sp_EM_clocks x16 m12_0 m12_1) (fun u_62 => (slet (sp_EM_layPoint f35 p1 (nI n_57) p3) (fun z35_65 => (slet (sp_EM_explores_1_120 x16 (u_62 + 1) f3 q4 q5 q6 q7 f8 q9 q10 f11 m12_0 m12_1 m13_0 m13_1 m14_0 m14_1 f34 z35_65 q38 f39 f40 f41 f43 f44 f47 f48 n_2 2 1 (-1)) (fun (z34_67, z35_68, z38_69, z39_70, z40_71, z41_72, z43_73, z44_74, z47_75, z48_76, z42_1_77) => (slet (sp_EM_hasPlace_1 z38_69 z42_1_77 (nI n_4)) (fun u_79 => (if u_79 = 0 then (0, z34_67, z35_68, z38_69, z39_70, z40_71, z41_72, z43_73, z44_74, z47_75, z48_76, z42_1_77, 0, (u_62 + 1)) else (1, z34_67, z35_68, z38_69, z39_70, z40_71, z41_72, z43_73, z44_74, z47_75, z48_76, z42_1_77, 0, (u_62 + 1))))))))))) else (if (0 : Int32) ≤ p3 ∧ p3 ≤ 60 then (slet ((p3 : Int32).toNatClampNeg) (fun n_82 => (slet (sp_EM_clocks x16 m12_0 m12_1) (fun u_84 => (slet (sp_EM_layPoint f35 p1 (nI n_57) (nI n_82)) (fun z35_87 => (slet (sp_EM_explores_1_120 x16 (u_84 + 1) f3 q4 q5 q6 q7 f8 q9 q10 f11 m12_0 m12_1 m13_0 m13_1 m14_0 m14_1 f34 z35_87 q38 f39 f40 f41 f43 f44 f47 f48 n_2 2 1 (-1)) (fun (z34_89, z35_90, z38_91, z39_92, z40_93, z41_94, z43_95, z44_96, z47_97, z48_98, z42_1_99) => (slet (sp_EM_hasPlace_1 z38_91 z42_1_99 (nI n_4)) (fun u_101 => (if u_101 = 0 then (0, z34_89, z35_90, z38_91, z39_92, z40_93, z41_94, z43_95, z44_96, z47_97, z48_98, z42_1_99, 0, (u_84 + 1)) else (1, z34_89, z35_90, z38_91, z39_92, z40_93, z41_94, z43_95, z44_96, z47_97, z48_98, z42_1_99, 0, (u_84 + 1))))))))))))) else ((-1), f34, f35, q38, f39, f40, f41, f43, f44, f47, f48, m42_1, 0, x46))))))) else ((-1), f34, f35, q38, f39, f40, f41, f43, f44, f47, f48, m42_1, 0, x46))))) else (if (0 : Int32) ≤ p1 ∧ p1 ≤ 60 then (slet ((p1 : Int32).toNatClampNeg) (fun n_104 => (slet (sp_EM_clocks x16 m12_0 m12_1) (fun u_106 => (if u_106 < 2 then (slet (sp_EM_clocks x16 m12_0 m12_1) (fun u_109 => (if u_109 < 3 then (slet (sp_EM_clocks x16 m12_0 m12_1) (fun u_112 => (slet (sp_EM_layPoint f35 (nI n_104) p2 p3) (fun z35_115 => (slet (sp_EM_explores_1_120 x16 (u_112 + 1) f3 q4 q5 q6 q7 f8 q9 q10 f11 m12_0 m12_1 m13_0 m13_1 m14_0 m14_1 f34 z35_115 q38 f39 f40 f41 f43 f44 f47 f48 n_2 2 1 (-1)) (fun (z34_117, z35_118, z38_119, z39_120, z40_121, z41_122, z43_123, z44_124, z47_125, z48_126, z42_1_127) => (slet (sp_EM_hasPlace_1 z38_119 z42_1_127 (nI n_4)) (fun u_129 => (if u_129 = 0 then (0, z34_117, z35_118, z38_119, z39_120, z40_121, z41_122, z43_123, z44_124, z47_125, z48_126, z42_1_127, 0, (u_112 + 1)) else (1, z34_117, z35_118, z38_119, z39_120, z40_121, z41_122, z43_123, z44_124, z47_125, z48_126, z42_1_127, 0, (u_112 + 1))))))))))) else (if (0 : Int32) ≤ p3 ∧ p3 ≤ 60 then (slet ((p3 : Int32).toNatClampNeg) (fun n_132 => (slet (sp_EM_clocks x16 m12_0 m12_1) (fun u_134 => (slet (sp_EM_layPoint f35 (nI n_104) p2 (nI n_132)) (fun z35_137 => (slet (sp_EM_explores_1_120 x16 (u_134 + 1) f3 q4 q5 q6 q7 f8 q9 q10 f11 m12_0 m12_1 m13_0 m13_1 m14_0 m14_1 f34 z35_137 q38 f39 f40 f41 f43 f44 f47 f48 n_2 2 1 (-1)) (fun (z34_139, z35_140, z38_141, z39_142, z40_143, z41_144, z43_145, z44_146, z47_147, z48_148, z42_1_149) => (slet (sp_EM_hasPlace_1 z38_141 z42_1_149 (nI n_4)) (fun u_151 => (if u_151 = 0 then (0, z34_139, z35_140, z38_141, z39_142, z40_143, z41_144, z43_145, z44_146, z47_147, z48_148, z42_1_149, 0, (u_134 + 1)) else (1, z34_139, z35_140, z38_141, z39_142, z40_143, z41_144, z43_145, z44_146, z47_147, z48_148, z42_1_149, 0, (u_134 + 1))))))))))))) else ((-1), f34, f35, q38, f39, f40, f41, f43, f44, f47, f48, m42_1, 0, x46))))) else (if (0 : Int32) ≤ p2 ∧ p2 ≤ 60 then (slet ((p2 : Int32).toNatClampNeg) (fun n_154 => (slet (sp_EM_clocks x16 m12_0 m12_1) (fun u_156 => (if u_156 < 3 then (slet (sp_EM_clocks x16 m12_0 m12_1) (fun u_159 => (slet (sp_EM_layPoint f35 (nI n_104) (nI n_154) p3) (fun z35_162 => (slet (sp_EM_explores_1_120 x16 (u_159 + 1) f3 q4 q5 q6 q7 f8 q9 q10 f11 m12_0 m12_1 m13_0 m13_1 m14_0 m14_1 f34 z35_162 q38 f39 f40 f41 f43 f44 f47 f48 n_2 2 1 (-1)) (fun (z34_164, z35_165, z38_166, z39_167, z40_168, z41_169, z43_170, z44_171, z47_172, z48_173, z42_1_174) => (slet (sp_EM_hasPlace_1 z38_166 z42_1_174 (nI n_4)) (fun u_176 => (if u_176 = 0 then (0, z34_164, z35_165, z38_166, z39_167, z40_168, z41_169, z43_170, z44_171, z47_172, z48_173, z42_1_174, 0, (u_159 + 1)) else (1, z34_164, z35_165, z38_166, z39_167, z40_168, z41_169, z43_170, z44_171, z47_172, z48_173, z42_1_174, 0, (u_159 + 1))))))))))) else (if (0 : Int32) ≤ p3 ∧ p3 ≤ 60 then (slet ((p3 : Int32).toNatClampNeg) (fun n_179 => (slet (sp_EM_clocks x16 m12_0 m12_1) (fun u_181 => (slet (sp_EM_layPoint f35 (nI n_104) (nI n_154) (nI n_179)) (fun z35_184 => (slet (sp_EM_explores_1_120 x16 (u_181 + 1) f3 q4 q5 q6 q7 f8 q9 q10 f11 m12_0 m12_1 m13_0 m13_1 m14_0 m14_1 f34 z35_184 q38 f39 f40 f41 f43 f44 f47 f48 n_2 2 1 (-1)) (fun (z34_186, z35_187, z38_188, z39_189, z40_190, z41_191, z43_192, z44_193, z47_194, z48_195, z42_1_196) => (slet (sp_EM_hasPlace_1 z38_188 z42_1_196 (nI n_4)) (fun u_198 => (if u_198 = 0 then (0, z34_186, z35_187, z38_188, z39_189, z40_190, z41_191, z43_192, z44_193, z47_194, z48_195, z42_1_196, 0, (u_181 + 1)) else (1, z34_186, z35_187, z38_188, z39_189, z40_190, z41_191, z43_192, z44_193, z47_194, z48_195, z42_1_196, 0, (u_181 + 1))))))))))))) else ((-1), f34, f35, q38, f39, f40, f41, f43, f44, f47, f48, m42_1, 0, x46))))))) else ((-1), f34, f35, q38, f39, f40, f41, f43, f44, f47, f48, m42_1, 0, x46))))))) else ((-1), f34, f35, q38, f39, f40, f41, f43, f44, f47, f48, m42_1, 0, x46))))))) else ((-1), f34, f35, q38, f39, f40, f41, f43, f44, f47, f48, m42_1, 0, x46)))) else ((-1), f34, f35, q38, f39, f40, f41, f43, f44, f47, f48, m42_1, 0, x46))
set_option maxHeartbeats 4000000 in
set_option maxRecDepth 100000 in
theorem c_EM_from (l : Launch) (dC : Nat → ClassId) (dI : Nat → Nat → Nat) (sz : Nat) (ad : Nat → Nat) (ck : Nat → ClassId) (x0 : Int32) (x16 : Nat) (x18 : Nat) (x19 : Nat) (x20 : Int32) (x21 : Nat) (x22 : Nat) (x23 : Int32) (x24 : Int32) (x25 : Int32) (x26 : Nat) (x27 : Int32) (x28 : Nat) (x29 : Nat) (x30 : Nat) (x33 : Nat) (x45 : Int32) (x46 : Nat) (x52 : Nat) (x53 : Nat) (x61 : Nat) (x62 : Nat) (x63 : Nat) (x65 : Nat) (x66 : Int32) (f1 : Nat → Int32) (f2 : Nat → Int32) (f3 : Nat → Int32) (q4 : Nat → Nat) (q5 : Nat → Nat) (q6 : Nat → Nat) (q7 : Nat → Nat) (f8 : Nat → Int32) (q9 : Nat → Nat) (q10 : Nat → Nat) (f11 : Nat → Int32) (m12_0 m12_1 : Nat) (m13_0 m13_1 : Nat) (m14_0 m14_1 : Nat) (m15_0 m15_1 : Nat) (f17 : Nat → Int32) (q31 : Nat → Nat) (f32 : Nat → Int32) (f34 : Nat → Int32) (f35 : Nat → Int32) (f36 : Nat → Int32) (f37 : Nat → Int32) (q38 : Nat → Nat) (f39 : Nat → Int32) (f40 : Nat → Int32) (f41 : Nat → Int32) (m42_0 m42_1 : Nat) (f43 : Nat → Int32) (f44 : Nat → Int32) (f47 : Nat → Int32) (f48 : Nat → Int32) (f49 : Nat → Int32) (f50 : Nat → Int32) (f51 : Nat → Int32) (q54 : Nat → Nat) (q55 : Nat → Nat) (q56 : Nat → Nat) (f57 : Nat → Int32) (q58 : Nat → Nat) (f59 : Nat → Int32) (f60 : Nat → Int32) (f64 : Nat → Int32) (p0 : Int32) (p1 : Int32) (p2 : Int32) (p3 : Int32) (p4 : Int32) (hx16 : x16 ≤ 1) (hx18 : x18 ≤ 900) (hx19 : x19 ≤ 900) (hx21 : x21 ≤ 900) (hx22 : x22 ≤ 4) (hx26 : x26 ≤ 6) (hx28 : x28 ≤ 1) (hx29 : x29 ≤ 1) (hx30 : x30 ≤ 1) (hx33 : x33 ≤ 20) (hx46 : x46 ≤ 5) (hx52 : x52 ≤ 2400) (hx53 : x53 ≤ 119) (hx61 : x61 ≤ 119) (hx62 : x62 ≤ 2000) (hx63 : x63 ≤ 1) (hx65 : x65 ≤ 7) (hm12_0 : m12_0 ≤ 3) (hm12_1 : m12_1 ≤ 3) (hm13_0 : m13_0 ≤ 8) (hm13_1 : m13_1 ≤ 8) (hm14_0 : m14_0 ≤ 14) (hm14_1 : m14_1 ≤ 14) (hm15_0 : m15_0 ≤ 8) (hm15_1 : m15_1 ≤ 8) (hm42_0 : m42_0 ≤ 120) (hm42_1 : m42_1 ≤ 400) (hbg : (x16 = 0 ∧ (m13_0 = 0 ∨ 1 ≤ m15_0)) ∨ (x16 = 1 ∧ (m13_1 = 0 ∨ 1 ≤ m15_1))) (hgr : gz_ok m42_0 f39 f40 f41) : Met l yX9_from vs_EM_from ({ frames := 7, cells := 0, slots := 0, locals := 171 }) (va_Pc [.ref (ad 0), .int p0, .int p1, .int p2, .int p3, .int p4] (pu_B (dC, dI) (mo_w ad ck x0 (nI x16) (nI x18) (nI x19) x20 (nI x21) (nI x22) x23 x24 x25 (nI x26) x27 (nI x28) (nI x29) (nI x30) (nI x33) x45 (nI x46) (nI x52) (nI x53) (nI x61) (nI x62) (nI x63) (nI x65) x66 f1 f2 f3 (bN 3 q4) (bN 7 q5) (bN 7 q6) (bN 4 q7) f8 (bN 2 q9) (bH q10) f11 (b2 m12_0 m12_1) (b2 m13_0 m13_1) (b2 m14_0 m14_1) (b2m m15_0 m15_1) f17 (bA 159 q31) f32 f34 f35 f36 f37 (bN 7 q38) f39 f40 f41 (b2 m42_0 m42_1) f43 f44 f47 f48 f49 f50 f51 (bN 13 q54) (bN 120 q55) (bN 120 q56) f57 (bN 120 q58) f59 f60 f64) (mo_t ck) sz)) (va_Qi (fun (r : Int32) (_ : Unit) => r = (sp_EM_from x16 x46 f3 q4 q5 q6 q7 f8 q9 q10 f11 m12_0 m12_1 m13_0 m13_1 m14_0 m14_1 f34 f35 q38 f39 f40 f41 m42_1 f43 f44 f47 f48 p0 p1 p2 p3 p4).1) (fun _ t => ∃ (z34 : Nat → Int32) (z35 : Nat → Int32) (z38 : Nat → Nat) (z39 : Nat → Int32) (z40 : Nat → Int32) (z41 : Nat → Int32) (z43 : Nat → Int32) (z44 : Nat → Int32) (z47 : Nat → Int32) (z48 : Nat → Int32) (z42_1 : Nat) (z0 : Int32) (z46 : Nat), pu_E (dC, dI) (mo_w ad ck z0 (nI x16) (nI x18) (nI x19) x20 (nI x21) (nI x22) x23 x24 x25 (nI x26) x27 (nI x28) (nI x29) (nI x30) (nI x33) x45 (nI z46) (nI x52) (nI x53) (nI x61) (nI x62) (nI x63) (nI x65) x66 f1 f2 f3 (bN 3 q4) (bN 7 q5) (bN 7 q6) (bN 4 q7) f8 (bN 2 q9) (bH q10) f11 (b2 m12_0 m12_1) (b2 m13_0 m13_1) (b2 m14_0 m14_1) (b2m m15_0 m15_1) f17 (bA 159 q31) f32 z34 z35 f36 f37 (bN 7 z38) z39 z40 z41 (b2 m42_0 z42_1) z43 z44 z47 z48 f49 f50 f51 (bN 13 q54) (bN 120 q55) (bN 120 q56) f57 (bN 120 q58) f59 f60 f64) (mo_t ck) (va_A ((mo_w ad ck x0 (nI x16) (nI x18) (nI x19) x20 (nI x21) (nI x22) x23 x24 x25 (nI x26) x27 (nI x28) (nI x29) (nI x30) (nI x33) x45 (nI x46) (nI x52) (nI x53) (nI x61) (nI x62) (nI x63) (nI x65) x66 f1 f2 f3 (bN 3 q4) (bN 7 q5) (bN 7 q6) (bN 4 q7) f8 (bN 2 q9) (bH q10) f11 (b2 m12_0 m12_1) (b2 m13_0 m13_1) (b2 m14_0 m14_1) (b2m m15_0 m15_1) f17 (bA 159 q31) f32 f34 f35 f36 f37 (bN 7 q38) f39 f40 f41 (b2 m42_0 m42_1) f43 f44 f47 f48 f49 f50 f51 (bN 13 q54) (bN 120 q55) (bN 120 q56) f57 (bN 120 q58) f59 f60 f64)) sz) t ∧ (z42_1 ≤ 400) ∧ (z46 ≤ 5) ∧ (gz_ok m42_0 z39 z40 z41) ∧ ((z34, z35, z38, z39, z40, z41, z43, z44, z47, z48, z42_1, z0, z46) = (sp_EM_from x16 x46 f3 q4 q5 q6 q7 f8 q9 q10 f11 m12_0 m12_1 m13_0 m13_1 m14_0 m14_1 f34 f35 q38 f39 f40 f41 m42_1 f43 f44 f47 f48 p0 p1 p2 p3 p4).2)) (va_A ((mo_w ad ck x0 (nI x16) (nI x18) (nI x19) x20 (nI x21) (nI x22) x23 x24 x25 (nI x26) x27 (nI x28) (nI x29) (nI x30) (nI x33) x45 (nI x46) (nI x52) (nI x53) (nI x61) (nI x62) (nI x63) (nI x65) x66 f1 f2 f3 (bN 3 q4) (bN 7 q5) (bN 7 q6) (bN 4 q7) f8 (bN 2 q9) (bH q10) f11 (b2 m12_0 m12_1) (b2 m13_0 m13_1) (b2 m14_0 m14_1) (b2m m15_0 m15_1) f17 (bA 159 q31) f32 f34 f35 f36 f37 (bN 7 q38) f39 f40 f41 (b2 m42_0 m42_1) f43 f44 f47 f48 f49 f50 f51 (bN 13 q54) (bN 120 q55) (bN 120 q56) f57 (bN 120 q58) f59 f60 f64)) sz)) 0 0 (va_A ((mo_w ad ck x0 (nI x16) (nI x18) (nI x19) x20 (nI x21) (nI x22) x23 x24 x25 (nI x26) x27 (nI x28) (nI x29) (nI x30) (nI x33) x45 (nI x46) (nI x52) (nI x53) (nI x61) (nI x62) (nI x63) (nI x65) x66 f1 f2 f3 (bN 3 q4) (bN 7 q5) (bN 7 q6) (bN 4 q7) f8 (bN 2 q9) (bH q10) f11 (b2 m12_0 m12_1) (b2 m13_0 m13_1) (b2 m14_0 m14_1) (b2m m15_0 m15_1) f17 (bA 159 q31) f32 f34 f35 f36 f37 (bN 7 q38) f39 f40 f41 (b2 m42_0 m42_1) f43 f44 f47 f48 f49 f50 f51 (bN 13 q54) (bN 120 q55) (bN 120 q56) f57 (bN 120 q58) f59 f60 f64)) sz) := by
  refine Met.ofW (cc := cX9_from) (maxL := 7) (ret := (some .int)) (by decide) rfl ?_
  intro p e s m args below meth c s₁ B hml hv
  obtain ⟨rfl, rfl, hP, hK, hD0⟩ := hv
  have hx := B.exec
  have hb := B.bytes
  have hr := B.returns
  have hts := atoms_spec (ws := vs_EM_from) B.pre
  have v_1 := hts (.fieldLink RX9 142 "ClockReachModel" "thrown" "I") (List.mem_cons_of_mem _ vm_5)
  have v_11 := hts (.fieldLink RX9 328 "ClockReachModel" "side" "I") (List.mem_cons_of_mem _ vm_196)
  have hown : s.vm.findClass RX9 = some m.cls := findClass_of_methodNamed B.named
  have hlocks := B.notSynchronized
  have hiX9 : ∀ w ∈ wsX90, w ∈ vs_EM_from := fun _ h => List.mem_cons_of_mem _ (vmi_L h)
  have hD := hD0.self (sz := s.heap.size)
  generalize hAe : va_A ((mo_w ad ck x0 (nI x16) (nI x18) (nI x19) x20 (nI x21) (nI x22) x23 x24 x25 (nI x26) x27 (nI x28) (nI x29) (nI x30) (nI x33) x45 (nI x46) (nI x52) (nI x53) (nI x61) (nI x62) (nI x63) (nI x65) x66 f1 f2 f3 (bN 3 q4) (bN 7 q5) (bN 7 q6) (bN 4 q7) f8 (bN 2 q9) (bH q10) f11 (b2 m12_0 m12_1) (b2 m13_0 m13_1) (b2 m14_0 m14_1) (b2m m15_0 m15_1) f17 (bA 159 q31) f32 f34 f35 f36 f37 (bN 7 q38) f39 f40 f41 (b2 m42_0 m42_1) f43 f44 f47 f48 f49 f50 f51 (bN 13 q54) (bN 120 q55) (bN 120 q56) f57 (bN 120 q58) f59 f60 f64)) s.heap.size = A at hD ⊢
  have hA : ∀ q : Nat, s.heap.size ≤ q → A q := fun q h => by rw [← hAe]; exact Or.inr h
  have hS : va_S A s.heap s.heap [] := va_S.rf
  have hl := lv_entry ([.ref (ad 0), .int p0, .int p1, .int p2, .int p3, .int p4]) (n := 7) (Nat.le_of_ble_eq_true rfl)
  rw [lg_entry_eq]
  generalize (lg_sl ([.ref (ad 0), .int p0, .int p1, .int p2, .int p3, .int p4]) ++ List.replicate (7 - (lg_sl ([.ref (ad 0), .int p0, .int p1, .int p2, .int p3, .int p4])).length) Slot.unset).toArray = ls at hl ⊢
  have hl : lv_has ls 7 [(0, .ref (ad 0)), (1, .int p0), (2, .int p1), (3, .int p2), (4, .int p3), (5, .int p4)] := hl
  obtain ⟨RR, hRR⟩ : ∃ x, x = (sp_EM_from x16 x46 f3 q4 q5 q6 q7 f8 q9 q10 f11 m12_0 m12_1 m13_0 m13_1 m14_0 m14_1 f34 f35 q38 f39 f40 f41 m42_1 f43 f44 f47 f48 p0 p1 p2 p3 p4) := ⟨_, rfl⟩
  have hsp := hRR
  refine lv_aload_n hx hb dX9_from_0 rfl (lv_at hl 0 rfl) ?_
  refine lv_iconst (v := 0) hx hb dX9_from_1 (by decide) ?_
  refine va_put (D := (dC, dI)) (ci := 9) (v := .int 0) (ty := .int) (C := RX9) (T := TX9) (N := 67) hx hb hts hiX9 tyX9 tyX9_ok nmX9 hown hK hP hD hS 0 rfl rfl 0 (by decide) v_1 (fun _ h9 => h9) rfl (by decide +kernel) rfl rfl (Nat.le_of_ble_eq_true rfl) dX9_from_2 (fun H locs hP hD hS => ?_)
  have hP : va_P (dC, dI) vwCl (mo_w ad ck 0 (nI x16) (nI x18) (nI x19) x20 (nI x21) (nI x22) x23 x24 x25 (nI x26) x27 (nI x28) (nI x29) (nI x30) (nI x33) x45 (nI x46) (nI x52) (nI x53) (nI x61) (nI x62) (nI x63) (nI x65) x66 f1 f2 f3 (bN 3 q4) (bN 7 q5) (bN 7 q6) (bN 4 q7) f8 (bN 2 q9) (bH q10) f11 (b2 m12_0 m12_1) (b2 m13_0 m13_1) (b2 m14_0 m14_1) (b2m m15_0 m15_1) f17 (bA 159 q31) f32 f34 f35 f36 f37 (bN 7 q38) f39 f40 f41 (b2 m42_0 m42_1) f43 f44 f47 f48 f49 f50 f51 (bN 13 q54) (bN 120 q55) (bN 120 q56) f57 (bN 120 q58) f59 f60 f64) H := hP
  have hD : va_D A (mo_w ad ck 0 (nI x16) (nI x18) (nI x19) x20 (nI x21) (nI x22) x23 x24 x25 (nI x26) x27 (nI x28) (nI x29) (nI x30) (nI x33) x45 (nI x46) (nI x52) (nI x53) (nI x61) (nI x62) (nI x63) (nI x65) x66 f1 f2 f3 (bN 3 q4) (bN 7 q5) (bN 7 q6) (bN 4 q7) f8 (bN 2 q9) (bH q10) f11 (b2 m12_0 m12_1) (b2 m13_0 m13_1) (b2 m14_0 m14_1) (b2m m15_0 m15_1) f17 (bA 159 q31) f32 f34 f35 f36 f37 (bN 7 q38) f39 f40 f41 (b2 m42_0 m42_1) f43 f44 f47 f48 f49 f50 f51 (bN 13 q54) (bN 120 q55) (bN 120 q56) f57 (bN 120 q58) f59 f60 f64) := hD
  refine lv_aload_n hx hb dX9_from_5 rfl (lv_at hl 0 rfl) ?_
  refine lv_iload_n hx hb dX9_from_6 rfl (lv_at hl 1 rfl) ?_
  refine va_calli (va_runV (As := [.int p0]) (rest := []) ⟨hx, hb, hml, hown, hts⟩ (c_EM_isPlace l dC dI _ ad ck 0 x16 x18 x19 x20 x21 x22 x23 x24 x25 x26 x27 x28 x29 x30 x33 x45 x46 x52 x53 x61 x62 x63 x65 x66 f1 f2 f3 q4 q5 q6 q7 f8 q9 q10 f11 m12_0 m12_1 m13_0 m13_1 m14_0 m14_1 m15_0 m15_1 f17 q31 f32 f34 f35 f36 f37 q38 f39 f40 f41 m42_0 m42_1 f43 f44 f47 f48 f49 f50 f51 q54 q55 q56 f57 q58 f59 f60 f64 p0 hx16 hx18 hx19 hx21 hx22 hx26 hx28 hx29 hx30 hx33 hx46 hx52 hx53 hx61 hx62 hx63 hx65 hm12_0 hm12_1 hm13_0 hm13_1 hm14_0 hm14_1 hm15_0 hm15_1 hm42_0 hm42_1) (cwV 1 hts g_EM_from_EM_isPlace rfl rfl rfl (by decide +kernel) ⟨Nat.le_of_ble_eq_true rfl, Nat.le_of_ble_eq_true rfl⟩) ⟨pu_bl, va_recv hK hP (ci := 9) (q0 := 0) rfl rfl, pu_in hP hK hD⟩ rfl rfl hl.1 rfl (lv_room (Nat.le_of_ble_eq_true rfl)) dX9_from_7 ⟨Nat.le_of_ble_eq_true rfl, Nat.le_of_ble_eq_true rfl⟩) hS (fun q _ h => pu_fr hS hA q h) (pu_fr hS hA) (fun r_1 u t H1 locs ht hvm hw hB hz1 hk1 hS => ?_)
  have hP := pu_keep hP hk1
  clear hk1 hz1 ht hvm
  generalize H1 = H at hP hS ⊢
  rcases hw with ⟨rfl, hw⟩ | ⟨rfl, hn⟩
  · obtain ⟨n_2, hn_2, en_2⟩ := hw
    replace hsp := hsp.trans (if_pos (in_c hn_2 ⟨by omega, by omega⟩ en_2))
    subst en_2
    replace hsp := hsp.trans (slet_eq (nI_cl (n := n_2) (by omega)))
    refine lv_if_eq (tgt := 26) hx hb dX9_from_10 (by decide) (fun z => absurd z (by decide)) (fun _ => ?_)
    refine lv_aload_n hx hb dX9_from_13 rfl (lv_at hl 0 rfl) ?_
    refine lv_iload hx hb dX9_from_14 (lv_at hl 5 rfl) ?_
    refine va_calli (va_runV (As := [.int p4]) (rest := []) ⟨hx, hb, hml, hown, hts⟩ (c_EM_isPlace l dC dI _ ad ck 0 x16 x18 x19 x20 x21 x22 x23 x24 x25 x26 x27 x28 x29 x30 x33 x45 x46 x52 x53 x61 x62 x63 x65 x66 f1 f2 f3 q4 q5 q6 q7 f8 q9 q10 f11 m12_0 m12_1 m13_0 m13_1 m14_0 m14_1 m15_0 m15_1 f17 q31 f32 f34 f35 f36 f37 q38 f39 f40 f41 m42_0 m42_1 f43 f44 f47 f48 f49 f50 f51 q54 q55 q56 f57 q58 f59 f60 f64 p4 hx16 hx18 hx19 hx21 hx22 hx26 hx28 hx29 hx30 hx33 hx46 hx52 hx53 hx61 hx62 hx63 hx65 hm12_0 hm12_1 hm13_0 hm13_1 hm14_0 hm14_1 hm15_0 hm15_1 hm42_0 hm42_1) (cwV 1 hts g_EM_from_EM_isPlace rfl rfl rfl (by decide +kernel) ⟨Nat.le_of_ble_eq_true rfl, Nat.le_of_ble_eq_true rfl⟩) ⟨pu_bl, va_recv hK hP (ci := 9) (q0 := 0) rfl rfl, pu_in hP hK hD⟩ rfl rfl hl.1 rfl (lv_room (Nat.le_of_ble_eq_true rfl)) dX9_from_16 ⟨Nat.le_of_ble_eq_true rfl, Nat.le_of_ble_eq_true rfl⟩) hS (fun q _ h => pu_fr hS hA q h) (pu_fr hS hA) (fun r_3 u t H1 locs ht hvm hw hB hz1 hk1 hS => ?_)
    have hP := pu_keep hP hk1
    clear hk1 hz1 ht hvm
    generalize H1 = H at hP hS ⊢
    rcases hw with ⟨rfl, hw⟩ | ⟨rfl, hn⟩
    · obtain ⟨n_4, hn_4, en_4⟩ := hw
      replace hsp := hsp.trans (if_pos (in_c hn_4 ⟨by omega, by omega⟩ en_4))
      subst en_4
      replace hsp := hsp.trans (slet_eq (nI_cl (n := n_4) (by omega)))
      refine lv_if_eq (tgt := 26) hx hb dX9_from_19 (by decide) (fun z => absurd z (by decide)) (fun _ => ?_)
      refine lv_iconst (v := 1) hx hb dX9_from_22 (by decide) ?_
      refine lv_goto (tgt := 27) hx hb dX9_from_23 (by decide) ?_
      refine lv_istore (lv' := [(6, .int 1), (0, .ref (ad 0)), (1, .int (nI n_2)), (2, .int p1), (3, .int p2), (4, .int p3), (5, .int (nI n_4))]) hx hb dX9_from_27 hl (by decide) rfl (fun ls hl => ?_)
      refine lv_iload hx hb dX9_from_29 (lv_at hl 0 rfl) ?_
      refine lv_if_eq (tgt := 93) hx hb dX9_from_31 (by decide) (fun z => absurd z (by decide)) (fun _ => ?_)
      refine lv_aload_n hx hb dX9_from_34 rfl (lv_at hl 1 rfl) ?_
      refine va_calli (va_runV (As := []) (rest := []) ⟨hx, hb, hml, hown, hts⟩ (c_EM_clocks l dC dI _ ad ck 0 x16 x18 x19 x20 x21 x22 x23 x24 x25 x26 x27 x28 x29 x30 x33 x45 x46 x52 x53 x61 x62 x63 x65 x66 f1 f2 f3 q4 q5 q6 q7 f8 q9 q10 f11 m12_0 m12_1 m13_0 m13_1 m14_0 m14_1 m15_0 m15_1 f17 q31 f32 f34 f35 f36 f37 q38 f39 f40 f41 m42_0 m42_1 f43 f44 f47 f48 f49 f50 f51 q54 q55 q56 f57 q58 f59 f60 f64 hx16 hx18 hx19 hx21 hx22 hx26 hx28 hx29 hx30 hx33 hx46 hx52 hx53 hx61 hx62 hx63 hx65 hm12_0 hm12_1 hm13_0 hm13_1 hm14_0 hm14_1 hm15_0 hm15_1 hm42_0 hm42_1) (cwV 0 hts g_EM_from_EM_clocks rfl rfl rfl (by decide +kernel) ⟨Nat.le_of_ble_eq_true rfl, Nat.le_of_ble_eq_true rfl⟩) ⟨pu_bl, va_recv hK hP (ci := 9) (q0 := 0) rfl rfl, pu_in hP hK hD⟩ rfl rfl hl.1 rfl (lv_room (Nat.le_of_ble_eq_true rfl)) dX9_from_35 ⟨Nat.le_of_ble_eq_true rfl, Nat.le_of_ble_eq_true rfl⟩) hS (fun q _ h => pu_fr hS hA q h) (pu_fr hS hA) (fun r_5 u t H1 locs ht hvm hw hB hz1 hk1 hS => ?_)
      have hP := pu_keep hP hk1
      clear hk1 hz1 ht hvm
      generalize H1 = H at hP hS ⊢
      obtain ⟨u_6, hu_6, rfl, iu_6⟩ := hw
      replace hsp := hsp.trans (slet_eq iu_6)
      refine lv_iconst (v := 1) hx hb dX9_from_38 (by decide) ?_
      refine lv_icmp_lt (tgt := 52) hx hb dX9_from_39 (by decide) (fun c_7 => ?_) (fun c_7 => ?_)
      · have c_7 : u_6 < 1 := (nI_ltI (a := u_6) (b := 1) (Nat.lt_of_le_of_lt hu_6 (Nat.le_of_ble_eq_true rfl)) (Nat.le_of_ble_eq_true rfl)).mp c_7
        replace hsp := hsp.trans (if_pos c_7)
        refine lv_aload_n hx hb dX9_from_52 rfl (lv_at hl 1 rfl) ?_
        refine va_calli (va_runV (As := []) (rest := []) ⟨hx, hb, hml, hown, hts⟩ (c_EM_clocks l dC dI _ ad ck 0 x16 x18 x19 x20 x21 x22 x23 x24 x25 x26 x27 x28 x29 x30 x33 x45 x46 x52 x53 x61 x62 x63 x65 x66 f1 f2 f3 q4 q5 q6 q7 f8 q9 q10 f11 m12_0 m12_1 m13_0 m13_1 m14_0 m14_1 m15_0 m15_1 f17 q31 f32 f34 f35 f36 f37 q38 f39 f40 f41 m42_0 m42_1 f43 f44 f47 f48 f49 f50 f51 q54 q55 q56 f57 q58 f59 f60 f64 hx16 hx18 hx19 hx21 hx22 hx26 hx28 hx29 hx30 hx33 hx46 hx52 hx53 hx61 hx62 hx63 hx65 hm12_0 hm12_1 hm13_0 hm13_1 hm14_0 hm14_1 hm15_0 hm15_1 hm42_0 hm42_1) (cwV 0 hts g_EM_from_EM_clocks rfl rfl rfl (by decide +kernel) ⟨Nat.le_of_ble_eq_true rfl, Nat.le_of_ble_eq_true rfl⟩) ⟨pu_bl, va_recv hK hP (ci := 9) (q0 := 0) rfl rfl, pu_in hP hK hD⟩ rfl rfl hl.1 rfl (lv_room (Nat.le_of_ble_eq_true rfl)) dX9_from_53 ⟨Nat.le_of_ble_eq_true rfl, Nat.le_of_ble_eq_true rfl⟩) hS (fun q _ h => pu_fr hS hA q h) (pu_fr hS hA) (fun r_8 u t H1 locs ht hvm hw hB hz1 hk1 hS => ?_)
        have hP := pu_keep hP hk1
        clear hk1 hz1 ht hvm
        generalize H1 = H at hP hS ⊢
        obtain ⟨u_9, hu_9, rfl, iu_9⟩ := hw
        replace hsp := hsp.trans (slet_eq iu_9)
        refine lv_iconst (v := 2) hx hb dX9_from_56 (by decide) ?_
        refine lv_icmp_lt (tgt := 70) hx hb dX9_from_57 (by decide) (fun c_10 => ?_) (fun c_10 => ?_)
        · have c_10 : u_9 < 2 := (nI_ltI (a := u_9) (b := 2) (Nat.lt_of_le_of_lt hu_9 (Nat.le_of_ble_eq_true rfl)) (Nat.le_of_ble_eq_true rfl)).mp c_10
          replace hsp := hsp.trans (if_pos c_10)
          refine lv_aload_n hx hb dX9_from_70 rfl (lv_at hl 1 rfl) ?_
          refine va_calli (va_runV (As := []) (rest := []) ⟨hx, hb, hml, hown, hts⟩ (c_EM_clocks l dC dI _ ad ck 0 x16 x18 x19 x20 x21 x22 x23 x24 x25 x26 x27 x28 x29 x30 x33 x45 x46 x52 x53 x61 x62 x63 x65 x66 f1 f2 f3 q4 q5 q6 q7 f8 q9 q10 f11 m12_0 m12_1 m13_0 m13_1 m14_0 m14_1 m15_0 m15_1 f17 q31 f32 f34 f35 f36 f37 q38 f39 f40 f41 m42_0 m42_1 f43 f44 f47 f48 f49 f50 f51 q54 q55 q56 f57 q58 f59 f60 f64 hx16 hx18 hx19 hx21 hx22 hx26 hx28 hx29 hx30 hx33 hx46 hx52 hx53 hx61 hx62 hx63 hx65 hm12_0 hm12_1 hm13_0 hm13_1 hm14_0 hm14_1 hm15_0 hm15_1 hm42_0 hm42_1) (cwV 0 hts g_EM_from_EM_clocks rfl rfl rfl (by decide +kernel) ⟨Nat.le_of_ble_eq_true rfl, Nat.le_of_ble_eq_true rfl⟩) ⟨pu_bl, va_recv hK hP (ci := 9) (q0 := 0) rfl rfl, pu_in hP hK hD⟩ rfl rfl hl.1 rfl (lv_room (Nat.le_of_ble_eq_true rfl)) dX9_from_71 ⟨Nat.le_of_ble_eq_true rfl, Nat.le_of_ble_eq_true rfl⟩) hS (fun q _ h => pu_fr hS hA q h) (pu_fr hS hA) (fun r_11 u t H1 locs ht hvm hw hB hz1 hk1 hS => ?_)
          have hP := pu_keep hP hk1
          clear hk1 hz1 ht hvm
          generalize H1 = H at hP hS ⊢
          obtain ⟨u_12, hu_12, rfl, iu_12⟩ := hw
          replace hsp := hsp.trans (slet_eq iu_12)
          refine lv_iconst (v := 3) hx hb dX9_from_74 (by decide) ?_
          refine lv_icmp_lt (tgt := 89) hx hb dX9_from_75 (by decide) (fun c_13 => ?_) (fun c_13 => ?_)
          · have c_13 : u_12 < 3 := (nI_ltI (a := u_12) (b := 3) (Nat.lt_of_le_of_lt hu_12 (Nat.le_of_ble_eq_true rfl)) (Nat.le_of_ble_eq_true rfl)).mp c_13
            replace hsp := hsp.trans (if_pos c_13)
            refine lv_iconst (v := 1) hx hb dX9_from_89 (by decide) ?_
            refine lv_goto (tgt := 94) hx hb dX9_from_90 (by decide) ?_
            refine lv_istore (lv' := [(6, .int 1), (0, .ref (ad 0)), (1, .int (nI n_2)), (2, .int p1), (3, .int p2), (4, .int p3), (5, .int (nI n_4))]) hx hb dX9_from_94 hl (by decide) rfl (fun ls hl => ?_)
            refine lv_iload hx hb dX9_from_96 (lv_at hl 0 rfl) ?_
            refine lv_if_ne (tgt := 103) hx hb dX9_from_98 (by decide) (fun _ => ?_) (fun z => absurd z (by decide))
            refine lv_aload_n hx hb dX9_from_103 rfl (lv_at hl 1 rfl) ?_
            refine lv_aload_n hx hb dX9_from_104 rfl (lv_at hl 1 rfl) ?_
            refine va_calli (va_runV (As := []) (rest := [.ref (ad 0)]) ⟨hx, hb, hml, hown, hts⟩ (c_EM_clocks l dC dI _ ad ck 0 x16 x18 x19 x20 x21 x22 x23 x24 x25 x26 x27 x28 x29 x30 x33 x45 x46 x52 x53 x61 x62 x63 x65 x66 f1 f2 f3 q4 q5 q6 q7 f8 q9 q10 f11 m12_0 m12_1 m13_0 m13_1 m14_0 m14_1 m15_0 m15_1 f17 q31 f32 f34 f35 f36 f37 q38 f39 f40 f41 m42_0 m42_1 f43 f44 f47 f48 f49 f50 f51 q54 q55 q56 f57 q58 f59 f60 f64 hx16 hx18 hx19 hx21 hx22 hx26 hx28 hx29 hx30 hx33 hx46 hx52 hx53 hx61 hx62 hx63 hx65 hm12_0 hm12_1 hm13_0 hm13_1 hm14_0 hm14_1 hm15_0 hm15_1 hm42_0 hm42_1) (cwV 0 hts g_EM_from_EM_clocks rfl rfl rfl (by decide +kernel) ⟨Nat.le_of_ble_eq_true rfl, Nat.le_of_ble_eq_true rfl⟩) ⟨pu_bl, va_recv hK hP (ci := 9) (q0 := 0) rfl rfl, pu_in hP hK hD⟩ rfl rfl hl.1 rfl (lv_room (Nat.le_of_ble_eq_true rfl)) dX9_from_105 ⟨Nat.le_of_ble_eq_true rfl, Nat.le_of_ble_eq_true rfl⟩) hS (fun q _ h => pu_fr hS hA q h) (pu_fr hS hA) (fun r_14 u t H1 locs ht hvm hw hB hz1 hk1 hS => ?_)
            have hP := pu_keep hP hk1
            clear hk1 hz1 ht hvm
            generalize H1 = H at hP hS ⊢
            obtain ⟨u_15, hu_15, rfl, iu_15⟩ := hw
            replace hsp := hsp.trans (slet_eq iu_15)
            refine lv_iconst (v := 1) hx hb dX9_from_108 (by decide) ?_
            refine lv_iadd hx hb dX9_from_109 ?_
            refine lv_topi (fun y_16 ey_16 => ?_)
            obtain rfl : y_16 = (nI (u_15 + 1)) := ey_16.trans (nI_add u_15 1)
            refine va_put (D := (dC, dI)) (ci := 9) (v := .int (nI (u_15 + 1))) (ty := .int) (C := RX9) (T := TX9) (N := 67) hx hb hts hiX9 tyX9 tyX9_ok nmX9 hown hK hP hD hS 0 rfl rfl 46 (by decide) v_11 (fun _ h9 => h9) rfl (by decide +kernel) rfl rfl (Nat.le_of_ble_eq_true rfl) dX9_from_110 (fun H locs hP hD hS => ?_)
            have hP : va_P (dC, dI) vwCl (mo_w ad ck 0 (nI x16) (nI x18) (nI x19) x20 (nI x21) (nI x22) x23 x24 x25 (nI x26) x27 (nI x28) (nI x29) (nI x30) (nI x33) x45 (nI (u_15 + 1)) (nI x52) (nI x53) (nI x61) (nI x62) (nI x63) (nI x65) x66 f1 f2 f3 (bN 3 q4) (bN 7 q5) (bN 7 q6) (bN 4 q7) f8 (bN 2 q9) (bH q10) f11 (b2 m12_0 m12_1) (b2 m13_0 m13_1) (b2 m14_0 m14_1) (b2m m15_0 m15_1) f17 (bA 159 q31) f32 f34 f35 f36 f37 (bN 7 q38) f39 f40 f41 (b2 m42_0 m42_1) f43 f44 f47 f48 f49 f50 f51 (bN 13 q54) (bN 120 q55) (bN 120 q56) f57 (bN 120 q58) f59 f60 f64) H := hP
            have hD : va_D A (mo_w ad ck 0 (nI x16) (nI x18) (nI x19) x20 (nI x21) (nI x22) x23 x24 x25 (nI x26) x27 (nI x28) (nI x29) (nI x30) (nI x33) x45 (nI (u_15 + 1)) (nI x52) (nI x53) (nI x61) (nI x62) (nI x63) (nI x65) x66 f1 f2 f3 (bN 3 q4) (bN 7 q5) (bN 7 q6) (bN 4 q7) f8 (bN 2 q9) (bH q10) f11 (b2 m12_0 m12_1) (b2 m13_0 m13_1) (b2 m14_0 m14_1) (b2m m15_0 m15_1) f17 (bA 159 q31) f32 f34 f35 f36 f37 (bN 7 q38) f39 f40 f41 (b2 m42_0 m42_1) f43 f44 f47 f48 f49 f50 f51 (bN 13 q54) (bN 120 q55) (bN 120 q56) f57 (bN 120 q58) f59 f60 f64) := hD
            refine lv_aload_n hx hb dX9_from_113 rfl (lv_at hl 1 rfl) ?_
            refine lv_iload_n hx hb dX9_from_114 rfl (lv_at hl 3 rfl) ?_
            refine lv_iload_n hx hb dX9_from_115 rfl (lv_at hl 4 rfl) ?_
            refine lv_iload hx hb dX9_from_116 (lv_at hl 5 rfl) ?_
            have hFc := pu_free hD hS hA
            refine va_callv (va_runV (As := [.int p1, .int p2, .int p3]) (rest := []) ⟨hx, hb, hml, hown, hts⟩ (c_EM_layPoint l dC dI _ ad ck 0 x16 x18 x19 x20 x21 x22 x23 x24 x25 x26 x27 x28 x29 x30 x33 x45 (u_15 + 1) x52 x53 x61 x62 x63 x65 x66 f1 f2 f3 q4 q5 q6 q7 f8 q9 q10 f11 m12_0 m12_1 m13_0 m13_1 m14_0 m14_1 m15_0 m15_1 f17 q31 f32 f34 f35 f36 f37 q38 f39 f40 f41 m42_0 m42_1 f43 f44 f47 f48 f49 f50 f51 q54 q55 q56 f57 q58 f59 f60 f64 p1 p2 p3 hx16 hx18 hx19 hx21 hx22 hx26 hx28 hx29 hx30 hx33 (by omega) hx52 hx53 hx61 hx62 hx63 hx65 hm12_0 hm12_1 hm13_0 hm13_1 hm14_0 hm14_1 hm15_0 hm15_1 hm42_0 hm42_1) (cwV 3 hts g_EM_from_EM_layPoint rfl rfl rfl (by decide +kernel) ⟨Nat.le_of_ble_eq_true rfl, Nat.le_of_ble_eq_true rfl⟩) ⟨pu_bl, va_recv hK hP (ci := 9) (q0 := 0) rfl rfl, pu_in hP hK hD⟩ rfl rfl hl.1 rfl (lv_room (Nat.le_of_ble_eq_true rfl)) dX9_from_118 ⟨Nat.le_of_ble_eq_true rfl, Nat.le_of_ble_eq_true rfl⟩) hS (fun q _ h => hFc q h) hFc (fun u t H1 locs ht hvm hw hB hz1 hk1 hS => ?_)
            obtain ⟨z35_18, ⟨hP1, -, hD1⟩, xr_17_0⟩ := hB
            rw [ht] at hP1
            have hP := hP1
            have hD := pu_all hFc hD1
            clear hP1 hD1 hFc
            clear hk1 hz1 ht hvm
            generalize H1 = H at hP hS ⊢
            replace hsp := hsp.trans (slet_eq xr_17_0)
            refine lv_aload_n hx hb dX9_from_121 rfl (lv_at hl 1 rfl) ?_
            refine lv_iconst (v := 1) hx hb dX9_from_122 (by decide) ?_
            refine lv_iload_n hx hb dX9_from_123 rfl (lv_at hl 2 rfl) ?_
            refine lv_iconst (v := 2) hx hb dX9_from_124 (by decide) ?_
            refine lv_iconst (v := 1) hx hb dX9_from_125 (by decide) ?_
            refine lv_bipush (v := 120) hx hb dX9_from_126 (by decide) ?_
            refine lv_iconst (v := (-1)) hx hb dX9_from_128 (by decide) ?_
            have hFc := pu_free hD hS hA
            refine va_callv (va_runV (As := [.int 1, .int (nI n_2), .int 2, .int 1, .int 120, .int (-1)]) (rest := []) ⟨hx, hb, hml, hown, hts⟩ (c_EM_explores_1_120 l dC dI _ ad ck 0 x16 x18 x19 x20 x21 x22 x23 x24 x25 x26 x27 x28 x29 x30 x33 x45 (u_15 + 1) x52 x53 x61 x62 x63 x65 x66 f1 f2 f3 q4 q5 q6 q7 f8 q9 q10 f11 m12_0 m12_1 m13_0 m13_1 m14_0 m14_1 m15_0 m15_1 f17 q31 f32 f34 z35_18 f36 f37 q38 f39 f40 f41 m42_0 m42_1 f43 f44 f47 f48 f49 f50 f51 q54 q55 q56 f57 q58 f59 f60 f64 n_2 2 1 (-1) hx16 hx18 hx19 hx21 hx22 hx26 hx28 hx29 hx30 hx33 (by omega) hx52 hx53 hx61 hx62 hx63 hx65 hm12_0 hm12_1 hm13_0 hm13_1 hm14_0 hm14_1 hm15_0 hm15_1 hm42_0 hm42_1 (by omega) (Nat.le_of_ble_eq_true rfl) (by first | assumption | exact gz_0)) (cwV 6 hts g_EM_from_EM_explores_1_120 rfl rfl rfl (by decide +kernel) ⟨Nat.le_of_ble_eq_true rfl, Nat.le_of_ble_eq_true rfl⟩) ⟨pu_bl, va_recv hK hP (ci := 9) (q0 := 0) rfl rfl, pu_in hP hK hD⟩ rfl rfl hl.1 rfl (lv_room (Nat.le_of_ble_eq_true rfl)) dX9_from_129 ⟨Nat.le_of_ble_eq_true rfl, Nat.le_of_ble_eq_true rfl⟩) hS (fun q _ h => hFc q h) hFc (fun u t H1 locs ht hvm hw hB hz1 hk1 hS => ?_)
            obtain ⟨z34_20, z35_21, z38_22, z39_23, z40_24, z41_25, z43_26, z44_27, z47_28, z48_29, z42_1_30, ⟨hP1, -, hD1⟩, hz42_1_30, xr_19_0, xr_19_1⟩ := hB
            rw [ht] at hP1
            have hP := hP1
            have hD := pu_all hFc hD1
            clear hP1 hD1 hFc
            clear hk1 hz1 ht hvm
            generalize H1 = H at hP hS ⊢
            replace hsp := hsp.trans (slet_eq xr_19_1)
            refine lv_aload_n hx hb dX9_from_132 rfl (lv_at hl 1 rfl) ?_
            refine lv_iconst (v := 1) hx hb dX9_from_133 (by decide) ?_
            refine lv_iload hx hb dX9_from_134 (lv_at hl 6 rfl) ?_
            refine va_calli (va_runV (As := [.int 1, .int (nI n_4)]) (rest := []) ⟨hx, hb, hml, hown, hts⟩ (c_EM_hasPlace_1 l dC dI _ ad ck 0 x16 x18 x19 x20 x21 x22 x23 x24 x25 x26 x27 x28 x29 x30 x33 x45 (u_15 + 1) x52 x53 x61 x62 x63 x65 x66 f1 f2 f3 q4 q5 q6 q7 f8 q9 q10 f11 m12_0 m12_1 m13_0 m13_1 m14_0 m14_1 m15_0 m15_1 f17 q31 f32 z34_20 z35_21 f36 f37 z38_22 z39_23 z40_24 z41_25 m42_0 z42_1_30 z43_26 z44_27 z47_28 z48_29 f49 f50 f51 q54 q55 q56 f57 q58 f59 f60 f64 (nI n_4) hx16 hx18 hx19 hx21 hx22 hx26 hx28 hx29 hx30 hx33 (by omega) hx52 hx53 hx61 hx62 hx63 hx65 hm12_0 hm12_1 hm13_0 hm13_1 hm14_0 hm14_1 hm15_0 hm15_1 hm42_0 (Nat.le_trans hz42_1_30 (Nat.le_of_ble_eq_true rfl))) (cwV 2 hts g_EM_from_EM_hasPlace_1 rfl rfl rfl (by decide +kernel) ⟨Nat.le_of_ble_eq_true rfl, Nat.le_of_ble_eq_true rfl⟩) ⟨pu_bl, va_recv hK hP (ci := 9) (q0 := 0) rfl rfl, pu_in hP hK hD⟩ rfl rfl hl.1 rfl (lv_room (Nat.le_of_ble_eq_true rfl)) dX9_from_136 ⟨Nat.le_of_ble_eq_true rfl, Nat.le_of_ble_eq_true rfl⟩) hS (fun q _ h => pu_fr hS hA q h) (pu_fr hS hA) (fun r_31 u t H1 locs ht hvm hw hB hz1 hk1 hS => ?_)
            have hP := pu_keep hP hk1
            clear hk1 hz1 ht hvm
            generalize H1 = H at hP hS ⊢
            obtain ⟨u_32, hu_32, rfl, iu_32⟩ := hw
            replace hsp := hsp.trans (slet_eq iu_32)
            refine lv_if_eq (tgt := 146) hx hb dX9_from_139 (by decide) (fun c_33 => ?_) (fun c_33 => ?_)
            · have c_33 : u_32 = 0 := (nI_eq (a := u_32) (b := 0) (Nat.lt_of_le_of_lt hu_32 (Nat.le_of_ble_eq_true rfl)) (Nat.le_of_ble_eq_true rfl)).mp c_33
              replace hsp := hsp.trans (if_pos c_33)
              refine lv_iconst (v := 0) hx hb dX9_from_146 (by decide) ?_
              exact W.iret (v := 0) hx hb hr (fun t ht hW => ⟨⟨0, (), rfl, (congrArg Prod.fst (hsp.symm.trans hRR)), ⟨z34_20, z35_21, z38_22, z39_23, z40_24, z41_25, z43_26, z44_27, z47_28, z48_29, z42_1_30, 0, (u_15 + 1), ⟨by rw [ht]; exact hP, va_K.moved hW.alike hK, hD⟩, (Nat.le_trans hz42_1_30 (Nat.le_of_ble_eq_true rfl)), (by omega), by first | assumption | exact gz_0, (congrArg Prod.snd (hsp.symm.trans hRR))⟩⟩, hS.F ht⟩) hS.2.2 dX9_from_147
            · have c_33 : ¬ u_32 = 0 := fun z => c_33 ((nI_eq (a := u_32) (b := 0) (Nat.lt_of_le_of_lt hu_32 (Nat.le_of_ble_eq_true rfl)) (Nat.le_of_ble_eq_true rfl)).mpr z)
              replace hsp := hsp.trans (if_neg c_33)
              refine lv_iconst (v := 1) hx hb dX9_from_142 (by decide) ?_
              refine lv_goto (tgt := 147) hx hb dX9_from_143 (by decide) ?_
              exact W.iret (v := 1) hx hb hr (fun t ht hW => ⟨⟨1, (), rfl, (congrArg Prod.fst (hsp.symm.trans hRR)), ⟨z34_20, z35_21, z38_22, z39_23, z40_24, z41_25, z43_26, z44_27, z47_28, z48_29, z42_1_30, 0, (u_15 + 1), ⟨by rw [ht]; exact hP, va_K.moved hW.alike hK, hD⟩, (Nat.le_trans hz42_1_30 (Nat.le_of_ble_eq_true rfl)), (by omega), by first | assumption | exact gz_0, (congrArg Prod.snd (hsp.symm.trans hRR))⟩⟩, hS.F ht⟩) hS.2.2 dX9_from_147
          · have c_13 : ¬ u_12 < 3 := fun z => c_13 ((nI_ltI (a := u_12) (b := 3) (Nat.lt_of_le_of_lt hu_12 (Nat.le_of_ble_eq_true rfl)) (Nat.le_of_ble_eq_true rfl)).mpr z)
            replace hsp := hsp.trans (if_neg c_13)
            refine lv_iload hx hb dX9_from_78 (lv_at hl 5 rfl) ?_
            refine lv_iconst (v := 0) hx hb dX9_from_80 (by decide) ?_
            refine lv_bipush (v := 60) hx hb dX9_from_81 (by decide) ?_
            refine va_calli (va_runS (As := [.int p3, .int 0, .int 60]) (rest := []) ⟨hx, hb, hml, hown, hts⟩ (c_X9_in l dC dI _ p3 0 60) (va_cwS 3 hts g_EM_from_X9_in rfl rfl rfl (by decide +kernel) ⟨Nat.le_of_ble_eq_true rfl, Nat.le_of_ble_eq_true rfl⟩) ⟨pu_bl, pu_in (hP.sub [] rfl) (hK.sub [] rfl) (hD.sub [] (by decide) rfl)⟩ rfl rfl hl.1 rfl (lv_room (Nat.le_of_ble_eq_true rfl)) dX9_from_83 ⟨Nat.le_of_ble_eq_true rfl, Nat.le_of_ble_eq_true rfl⟩) hS (fun q _ h => pu_fr hS hA q h) (pu_fr hS hA) (fun r_34 u t H1 locs ht hvm hw hB hz1 hk1 hS => ?_)
            have hP := pu_keep hP hk1
            clear hk1 hz1 ht hvm
            generalize H1 = H at hP hS ⊢
            rcases hw with ⟨rfl, hi1, hi2⟩ | ⟨rfl, hi3⟩
            · replace hsp := hsp.trans (if_pos ⟨hi1, hi2⟩)
              obtain ⟨n_35, hn_35, rfl⟩ := pu_in0 (n := 60) (by omega) hi1 hi2
              replace hsp := hsp.trans (slet_eq (nI_cl (n := n_35) (by omega)))
              refine lv_if_eq (tgt := 93) hx hb dX9_from_86 (by decide) (fun z => absurd z (by decide)) (fun _ => ?_)
              refine lv_iconst (v := 1) hx hb dX9_from_89 (by decide) ?_
              refine lv_goto (tgt := 94) hx hb dX9_from_90 (by decide) ?_
              refine lv_istore (lv' := [(6, .int 1), (0, .ref (ad 0)), (1, .int (nI n_2)), (2, .int p1), (3, .int p2), (4, .int (nI n_35)), (5, .int (nI n_4))]) hx hb dX9_from_94 hl (by decide) rfl (fun ls hl => ?_)
              refine lv_iload hx hb dX9_from_96 (lv_at hl 0 rfl) ?_
              refine lv_if_ne (tgt := 103) hx hb dX9_from_98 (by decide) (fun _ => ?_) (fun z => absurd z (by decide))
              refine lv_aload_n hx hb dX9_from_103 rfl (lv_at hl 1 rfl) ?_
              refine lv_aload_n hx hb dX9_from_104 rfl (lv_at hl 1 rfl) ?_
              refine va_calli (va_runV (As := []) (rest := [.ref (ad 0)]) ⟨hx, hb, hml, hown, hts⟩ (c_EM_clocks l dC dI _ ad ck 0 x16 x18 x19 x20 x21 x22 x23 x24 x25 x26 x27 x28 x29 x30 x33 x45 x46 x52 x53 x61 x62 x63 x65 x66 f1 f2 f3 q4 q5 q6 q7 f8 q9 q10 f11 m12_0 m12_1 m13_0 m13_1 m14_0 m14_1 m15_0 m15_1 f17 q31 f32 f34 f35 f36 f37 q38 f39 f40 f41 m42_0 m42_1 f43 f44 f47 f48 f49 f50 f51 q54 q55 q56 f57 q58 f59 f60 f64 hx16 hx18 hx19 hx21 hx22 hx26 hx28 hx29 hx30 hx33 hx46 hx52 hx53 hx61 hx62 hx63 hx65 hm12_0 hm12_1 hm13_0 hm13_1 hm14_0 hm14_1 hm15_0 hm15_1 hm42_0 hm42_1) (cwV 0 hts g_EM_from_EM_clocks rfl rfl rfl (by decide +kernel) ⟨Nat.le_of_ble_eq_true rfl, Nat.le_of_ble_eq_true rfl⟩) ⟨pu_bl, va_recv hK hP (ci := 9) (q0 := 0) rfl rfl, pu_in hP hK hD⟩ rfl rfl hl.1 rfl (lv_room (Nat.le_of_ble_eq_true rfl)) dX9_from_105 ⟨Nat.le_of_ble_eq_true rfl, Nat.le_of_ble_eq_true rfl⟩) hS (fun q _ h => pu_fr hS hA q h) (pu_fr hS hA) (fun r_36 u t H1 locs ht hvm hw hB hz1 hk1 hS => ?_)
              have hP := pu_keep hP hk1
              clear hk1 hz1 ht hvm
              generalize H1 = H at hP hS ⊢
              obtain ⟨u_37, hu_37, rfl, iu_37⟩ := hw
              replace hsp := hsp.trans (slet_eq iu_37)
              refine lv_iconst (v := 1) hx hb dX9_from_108 (by decide) ?_
              refine lv_iadd hx hb dX9_from_109 ?_
              refine lv_topi (fun y_38 ey_38 => ?_)
              obtain rfl : y_38 = (nI (u_37 + 1)) := ey_38.trans (nI_add u_37 1)
              refine va_put (D := (dC, dI)) (ci := 9) (v := .int (nI (u_37 + 1))) (ty := .int) (C := RX9) (T := TX9) (N := 67) hx hb hts hiX9 tyX9 tyX9_ok nmX9 hown hK hP hD hS 0 rfl rfl 46 (by decide) v_11 (fun _ h9 => h9) rfl (by decide +kernel) rfl rfl (Nat.le_of_ble_eq_true rfl) dX9_from_110 (fun H locs hP hD hS => ?_)
              have hP : va_P (dC, dI) vwCl (mo_w ad ck 0 (nI x16) (nI x18) (nI x19) x20 (nI x21) (nI x22) x23 x24 x25 (nI x26) x27 (nI x28) (nI x29) (nI x30) (nI x33) x45 (nI (u_37 + 1)) (nI x52) (nI x53) (nI x61) (nI x62) (nI x63) (nI x65) x66 f1 f2 f3 (bN 3 q4) (bN 7 q5) (bN 7 q6) (bN 4 q7) f8 (bN 2 q9) (bH q10) f11 (b2 m12_0 m12_1) (b2 m13_0 m13_1) (b2 m14_0 m14_1) (b2m m15_0 m15_1) f17 (bA 159 q31) f32 f34 f35 f36 f37 (bN 7 q38) f39 f40 f41 (b2 m42_0 m42_1) f43 f44 f47 f48 f49 f50 f51 (bN 13 q54) (bN 120 q55) (bN 120 q56) f57 (bN 120 q58) f59 f60 f64) H := hP
              have hD : va_D A (mo_w ad ck 0 (nI x16) (nI x18) (nI x19) x20 (nI x21) (nI x22) x23 x24 x25 (nI x26) x27 (nI x28) (nI x29) (nI x30) (nI x33) x45 (nI (u_37 + 1)) (nI x52) (nI x53) (nI x61) (nI x62) (nI x63) (nI x65) x66 f1 f2 f3 (bN 3 q4) (bN 7 q5) (bN 7 q6) (bN 4 q7) f8 (bN 2 q9) (bH q10) f11 (b2 m12_0 m12_1) (b2 m13_0 m13_1) (b2 m14_0 m14_1) (b2m m15_0 m15_1) f17 (bA 159 q31) f32 f34 f35 f36 f37 (bN 7 q38) f39 f40 f41 (b2 m42_0 m42_1) f43 f44 f47 f48 f49 f50 f51 (bN 13 q54) (bN 120 q55) (bN 120 q56) f57 (bN 120 q58) f59 f60 f64) := hD
              refine lv_aload_n hx hb dX9_from_113 rfl (lv_at hl 1 rfl) ?_
              refine lv_iload_n hx hb dX9_from_114 rfl (lv_at hl 3 rfl) ?_
              refine lv_iload_n hx hb dX9_from_115 rfl (lv_at hl 4 rfl) ?_
              refine lv_iload hx hb dX9_from_116 (lv_at hl 5 rfl) ?_
              have hFc := pu_free hD hS hA
              refine va_callv (va_runV (As := [.int p1, .int p2, .int (nI n_35)]) (rest := []) ⟨hx, hb, hml, hown, hts⟩ (c_EM_layPoint l dC dI _ ad ck 0 x16 x18 x19 x20 x21 x22 x23 x24 x25 x26 x27 x28 x29 x30 x33 x45 (u_37 + 1) x52 x53 x61 x62 x63 x65 x66 f1 f2 f3 q4 q5 q6 q7 f8 q9 q10 f11 m12_0 m12_1 m13_0 m13_1 m14_0 m14_1 m15_0 m15_1 f17 q31 f32 f34 f35 f36 f37 q38 f39 f40 f41 m42_0 m42_1 f43 f44 f47 f48 f49 f50 f51 q54 q55 q56 f57 q58 f59 f60 f64 p1 p2 (nI n_35) hx16 hx18 hx19 hx21 hx22 hx26 hx28 hx29 hx30 hx33 (by omega) hx52 hx53 hx61 hx62 hx63 hx65 hm12_0 hm12_1 hm13_0 hm13_1 hm14_0 hm14_1 hm15_0 hm15_1 hm42_0 hm42_1) (cwV 3 hts g_EM_from_EM_layPoint rfl rfl rfl (by decide +kernel) ⟨Nat.le_of_ble_eq_true rfl, Nat.le_of_ble_eq_true rfl⟩) ⟨pu_bl, va_recv hK hP (ci := 9) (q0 := 0) rfl rfl, pu_in hP hK hD⟩ rfl rfl hl.1 rfl (lv_room (Nat.le_of_ble_eq_true rfl)) dX9_from_118 ⟨Nat.le_of_ble_eq_true rfl, Nat.le_of_ble_eq_true rfl⟩) hS (fun q _ h => hFc q h) hFc (fun u t H1 locs ht hvm hw hB hz1 hk1 hS => ?_)
              obtain ⟨z35_40, ⟨hP1, -, hD1⟩, xr_39_0⟩ := hB
              rw [ht] at hP1
              have hP := hP1
              have hD := pu_all hFc hD1
              clear hP1 hD1 hFc
              clear hk1 hz1 ht hvm
              generalize H1 = H at hP hS ⊢
              replace hsp := hsp.trans (slet_eq xr_39_0)
              refine lv_aload_n hx hb dX9_from_121 rfl (lv_at hl 1 rfl) ?_
              refine lv_iconst (v := 1) hx hb dX9_from_122 (by decide) ?_
              refine lv_iload_n hx hb dX9_from_123 rfl (lv_at hl 2 rfl) ?_
              refine lv_iconst (v := 2) hx hb dX9_from_124 (by decide) ?_
              refine lv_iconst (v := 1) hx hb dX9_from_125 (by decide) ?_
              refine lv_bipush (v := 120) hx hb dX9_from_126 (by decide) ?_
              refine lv_iconst (v := (-1)) hx hb dX9_from_128 (by decide) ?_
              have hFc := pu_free hD hS hA
              refine va_callv (va_runV (As := [.int 1, .int (nI n_2), .int 2, .int 1, .int 120, .int (-1)]) (rest := []) ⟨hx, hb, hml, hown, hts⟩ (c_EM_explores_1_120 l dC dI _ ad ck 0 x16 x18 x19 x20 x21 x22 x23 x24 x25 x26 x27 x28 x29 x30 x33 x45 (u_37 + 1) x52 x53 x61 x62 x63 x65 x66 f1 f2 f3 q4 q5 q6 q7 f8 q9 q10 f11 m12_0 m12_1 m13_0 m13_1 m14_0 m14_1 m15_0 m15_1 f17 q31 f32 f34 z35_40 f36 f37 q38 f39 f40 f41 m42_0 m42_1 f43 f44 f47 f48 f49 f50 f51 q54 q55 q56 f57 q58 f59 f60 f64 n_2 2 1 (-1) hx16 hx18 hx19 hx21 hx22 hx26 hx28 hx29 hx30 hx33 (by omega) hx52 hx53 hx61 hx62 hx63 hx65 hm12_0 hm12_1 hm13_0 hm13_1 hm14_0 hm14_1 hm15_0 hm15_1 hm42_0 hm42_1 (by omega) (Nat.le_of_ble_eq_true rfl) (by first | assumption | exact gz_0)) (cwV 6 hts g_EM_from_EM_explores_1_120 rfl rfl rfl (by decide +kernel) ⟨Nat.le_of_ble_eq_true rfl, Nat.le_of_ble_eq_true rfl⟩) ⟨pu_bl, va_recv hK hP (ci := 9) (q0 := 0) rfl rfl, pu_in hP hK hD⟩ rfl rfl hl.1 rfl (lv_room (Nat.le_of_ble_eq_true rfl)) dX9_from_129 ⟨Nat.le_of_ble_eq_true rfl, Nat.le_of_ble_eq_true rfl⟩) hS (fun q _ h => hFc q h) hFc (fun u t H1 locs ht hvm hw hB hz1 hk1 hS => ?_)
              obtain ⟨z34_42, z35_43, z38_44, z39_45, z40_46, z41_47, z43_48, z44_49, z47_50, z48_51, z42_1_52, ⟨hP1, -, hD1⟩, hz42_1_52, xr_41_0, xr_41_1⟩ := hB
              rw [ht] at hP1
              have hP := hP1
              have hD := pu_all hFc hD1
              clear hP1 hD1 hFc
              clear hk1 hz1 ht hvm
              generalize H1 = H at hP hS ⊢
              replace hsp := hsp.trans (slet_eq xr_41_1)
              refine lv_aload_n hx hb dX9_from_132 rfl (lv_at hl 1 rfl) ?_
              refine lv_iconst (v := 1) hx hb dX9_from_133 (by decide) ?_
              refine lv_iload hx hb dX9_from_134 (lv_at hl 6 rfl) ?_
              refine va_calli (va_runV (As := [.int 1, .int (nI n_4)]) (rest := []) ⟨hx, hb, hml, hown, hts⟩ (c_EM_hasPlace_1 l dC dI _ ad ck 0 x16 x18 x19 x20 x21 x22 x23 x24 x25 x26 x27 x28 x29 x30 x33 x45 (u_37 + 1) x52 x53 x61 x62 x63 x65 x66 f1 f2 f3 q4 q5 q6 q7 f8 q9 q10 f11 m12_0 m12_1 m13_0 m13_1 m14_0 m14_1 m15_0 m15_1 f17 q31 f32 z34_42 z35_43 f36 f37 z38_44 z39_45 z40_46 z41_47 m42_0 z42_1_52 z43_48 z44_49 z47_50 z48_51 f49 f50 f51 q54 q55 q56 f57 q58 f59 f60 f64 (nI n_4) hx16 hx18 hx19 hx21 hx22 hx26 hx28 hx29 hx30 hx33 (by omega) hx52 hx53 hx61 hx62 hx63 hx65 hm12_0 hm12_1 hm13_0 hm13_1 hm14_0 hm14_1 hm15_0 hm15_1 hm42_0 (Nat.le_trans hz42_1_52 (Nat.le_of_ble_eq_true rfl))) (cwV 2 hts g_EM_from_EM_hasPlace_1 rfl rfl rfl (by decide +kernel) ⟨Nat.le_of_ble_eq_true rfl, Nat.le_of_ble_eq_true rfl⟩) ⟨pu_bl, va_recv hK hP (ci := 9) (q0 := 0) rfl rfl, pu_in hP hK hD⟩ rfl rfl hl.1 rfl (lv_room (Nat.le_of_ble_eq_true rfl)) dX9_from_136 ⟨Nat.le_of_ble_eq_true rfl, Nat.le_of_ble_eq_true rfl⟩) hS (fun q _ h => pu_fr hS hA q h) (pu_fr hS hA) (fun r_53 u t H1 locs ht hvm hw hB hz1 hk1 hS => ?_)
              have hP := pu_keep hP hk1
              clear hk1 hz1 ht hvm
              generalize H1 = H at hP hS ⊢
              obtain ⟨u_54, hu_54, rfl, iu_54⟩ := hw
              replace hsp := hsp.trans (slet_eq iu_54)
              refine lv_if_eq (tgt := 146) hx hb dX9_from_139 (by decide) (fun c_55 => ?_) (fun c_55 => ?_)
              · have c_55 : u_54 = 0 := (nI_eq (a := u_54) (b := 0) (Nat.lt_of_le_of_lt hu_54 (Nat.le_of_ble_eq_true rfl)) (Nat.le_of_ble_eq_true rfl)).mp c_55
                replace hsp := hsp.trans (if_pos c_55)
                refine lv_iconst (v := 0) hx hb dX9_from_146 (by decide) ?_
                exact W.iret (v := 0) hx hb hr (fun t ht hW => ⟨⟨0, (), rfl, (congrArg Prod.fst (hsp.symm.trans hRR)), ⟨z34_42, z35_43, z38_44, z39_45, z40_46, z41_47, z43_48, z44_49, z47_50, z48_51, z42_1_52, 0, (u_37 + 1), ⟨by rw [ht]; exact hP, va_K.moved hW.alike hK, hD⟩, (Nat.le_trans hz42_1_52 (Nat.le_of_ble_eq_true rfl)), (by omega), by first | assumption | exact gz_0, (congrArg Prod.snd (hsp.symm.trans hRR))⟩⟩, hS.F ht⟩) hS.2.2 dX9_from_147
              · have c_55 : ¬ u_54 = 0 := fun z => c_55 ((nI_eq (a := u_54) (b := 0) (Nat.lt_of_le_of_lt hu_54 (Nat.le_of_ble_eq_true rfl)) (Nat.le_of_ble_eq_true rfl)).mpr z)
                replace hsp := hsp.trans (if_neg c_55)
                refine lv_iconst (v := 1) hx hb dX9_from_142 (by decide) ?_
                refine lv_goto (tgt := 147) hx hb dX9_from_143 (by decide) ?_
                exact W.iret (v := 1) hx hb hr (fun t ht hW => ⟨⟨1, (), rfl, (congrArg Prod.fst (hsp.symm.trans hRR)), ⟨z34_42, z35_43, z38_44, z39_45, z40_46, z41_47, z43_48, z44_49, z47_50, z48_51, z42_1_52, 0, (u_37 + 1), ⟨by rw [ht]; exact hP, va_K.moved hW.alike hK, hD⟩, (Nat.le_trans hz42_1_52 (Nat.le_of_ble_eq_true rfl)), (by omega), by first | assumption | exact gz_0, (congrArg Prod.snd (hsp.symm.trans hRR))⟩⟩, hS.F ht⟩) hS.2.2 dX9_from_147
            · replace hsp := hsp.trans (if_neg hi3)
              refine lv_if_eq (tgt := 93) hx hb dX9_from_86 (by decide) (fun _ => ?_) (fun z => absurd z (by decide))
              refine lv_iconst (v := 0) hx hb dX9_from_93 (by decide) ?_
              refine lv_istore (lv' := [(6, .int 0), (0, .ref (ad 0)), (1, .int (nI n_2)), (2, .int p1), (3, .int p2), (4, .int p3), (5, .int (nI n_4))]) hx hb dX9_from_94 hl (by decide) rfl (fun ls hl => ?_)
              refine lv_iload hx hb dX9_from_96 (lv_at hl 0 rfl) ?_
              refine lv_if_ne (tgt := 103) hx hb dX9_from_98 (by decide) (fun z => absurd z (by decide)) (fun _ => ?_)
              refine lv_iconst (v := (-1)) hx hb dX9_from_101 (by decide) ?_
              exact W.iret (v := (-1)) hx hb hr (fun t ht hW => ⟨⟨(-1), (), rfl, (congrArg Prod.fst (hsp.symm.trans hRR)), ⟨f34, f35, q38, f39, f40, f41, f43, f44, f47, f48, m42_1, 0, x46, ⟨by rw [ht]; exact hP, va_K.moved hW.alike hK, hD⟩, hm42_1, hx46, by first | assumption | exact gz_0, (congrArg Prod.snd (hsp.symm.trans hRR))⟩⟩, hS.F ht⟩) hS.2.2 dX9_from_102
        · have c_10 : ¬ u_9 < 2 := fun z => c_10 ((nI_ltI (a := u_9) (b := 2) (Nat.lt_of_le_of_lt hu_9 (Nat.le_of_ble_eq_true rfl)) (Nat.le_of_ble_eq_true rfl)).mpr z)
          replace hsp := hsp.trans (if_neg c_10)
          refine lv_iload_n hx hb dX9_from_60 rfl (lv_at hl 4 rfl) ?_
          refine lv_iconst (v := 0) hx hb dX9_from_61 (by decide) ?_
          refine lv_bipush (v := 60) hx hb dX9_from_62 (by decide) ?_
          refine va_calli (va_runS (As := [.int p2, .int 0, .int 60]) (rest := []) ⟨hx, hb, hml, hown, hts⟩ (c_X9_in l dC dI _ p2 0 60) (va_cwS 3 hts g_EM_from_X9_in rfl rfl rfl (by decide +kernel) ⟨Nat.le_of_ble_eq_true rfl, Nat.le_of_ble_eq_true rfl⟩) ⟨pu_bl, pu_in (hP.sub [] rfl) (hK.sub [] rfl) (hD.sub [] (by decide) rfl)⟩ rfl rfl hl.1 rfl (lv_room (Nat.le_of_ble_eq_true rfl)) dX9_from_64 ⟨Nat.le_of_ble_eq_true rfl, Nat.le_of_ble_eq_true rfl⟩) hS (fun q _ h => pu_fr hS hA q h) (pu_fr hS hA) (fun r_56 u t H1 locs ht hvm hw hB hz1 hk1 hS => ?_)
          have hP := pu_keep hP hk1
          clear hk1 hz1 ht hvm
          generalize H1 = H at hP hS ⊢
          rcases hw with ⟨rfl, hi1, hi2⟩ | ⟨rfl, hi3⟩
          · replace hsp := hsp.trans (if_pos ⟨hi1, hi2⟩)
            obtain ⟨n_57, hn_57, rfl⟩ := pu_in0 (n := 60) (by omega) hi1 hi2
            replace hsp := hsp.trans (slet_eq (nI_cl (n := n_57) (by omega)))
            refine lv_if_eq (tgt := 93) hx hb dX9_from_67 (by decide) (fun z => absurd z (by decide)) (fun _ => ?_)
            refine lv_aload_n hx hb dX9_from_70 rfl (lv_at hl 1 rfl) ?_
            refine va_calli (va_runV (As := []) (rest := []) ⟨hx, hb, hml, hown, hts⟩ (c_EM_clocks l dC dI _ ad ck 0 x16 x18 x19 x20 x21 x22 x23 x24 x25 x26 x27 x28 x29 x30 x33 x45 x46 x52 x53 x61 x62 x63 x65 x66 f1 f2 f3 q4 q5 q6 q7 f8 q9 q10 f11 m12_0 m12_1 m13_0 m13_1 m14_0 m14_1 m15_0 m15_1 f17 q31 f32 f34 f35 f36 f37 q38 f39 f40 f41 m42_0 m42_1 f43 f44 f47 f48 f49 f50 f51 q54 q55 q56 f57 q58 f59 f60 f64 hx16 hx18 hx19 hx21 hx22 hx26 hx28 hx29 hx30 hx33 hx46 hx52 hx53 hx61 hx62 hx63 hx65 hm12_0 hm12_1 hm13_0 hm13_1 hm14_0 hm14_1 hm15_0 hm15_1 hm42_0 hm42_1) (cwV 0 hts g_EM_from_EM_clocks rfl rfl rfl (by decide +kernel) ⟨Nat.le_of_ble_eq_true rfl, Nat.le_of_ble_eq_true rfl⟩) ⟨pu_bl, va_recv hK hP (ci := 9) (q0 := 0) rfl rfl, pu_in hP hK hD⟩ rfl rfl hl.1 rfl (lv_room (Nat.le_of_ble_eq_true rfl)) dX9_from_71 ⟨Nat.le_of_ble_eq_true rfl, Nat.le_of_ble_eq_true rfl⟩) hS (fun q _ h => pu_fr hS hA q h) (pu_fr hS hA) (fun r_58 u t H1 locs ht hvm hw hB hz1 hk1 hS => ?_)
            have hP := pu_keep hP hk1
            clear hk1 hz1 ht hvm
            generalize H1 = H at hP hS ⊢
            obtain ⟨u_59, hu_59, rfl, iu_59⟩ := hw
            replace hsp := hsp.trans (slet_eq iu_59)
            refine lv_iconst (v := 3) hx hb dX9_from_74 (by decide) ?_
            refine lv_icmp_lt (tgt := 89) hx hb dX9_from_75 (by decide) (fun c_60 => ?_) (fun c_60 => ?_)
            · have c_60 : u_59 < 3 := (nI_ltI (a := u_59) (b := 3) (Nat.lt_of_le_of_lt hu_59 (Nat.le_of_ble_eq_true rfl)) (Nat.le_of_ble_eq_true rfl)).mp c_60
              replace hsp := hsp.trans (if_pos c_60)
              refine lv_iconst (v := 1) hx hb dX9_from_89 (by decide) ?_
              refine lv_goto (tgt := 94) hx hb dX9_from_90 (by decide) ?_
              refine lv_istore (lv' := [(6, .int 1), (0, .ref (ad 0)), (1, .int (nI n_2)), (2, .int p1), (3, .int (nI n_57)), (4, .int p3), (5, .int (nI n_4))]) hx hb dX9_from_94 hl (by decide) rfl (fun ls hl => ?_)
              refine lv_iload hx hb dX9_from_96 (lv_at hl 0 rfl) ?_
              refine lv_if_ne (tgt := 103) hx hb dX9_from_98 (by decide) (fun _ => ?_) (fun z => absurd z (by decide))
              refine lv_aload_n hx hb dX9_from_103 rfl (lv_at hl 1 rfl) ?_
              refine lv_aload_n hx hb dX9_from_104 rfl (lv_at hl 1 rfl) ?_
              refine va_calli (va_runV (As := []) (rest := [.ref (ad 0)]) ⟨hx, hb, hml, hown, hts⟩ (c_EM_clocks l dC dI _ ad ck 0 x16 x18 x19 x20 x21 x22 x23 x24 x25 x26 x27 x28 x29 x30 x33 x45 x46 x52 x53 x61 x62 x63 x65 x66 f1 f2 f3 q4 q5 q6 q7 f8 q9 q10 f11 m12_0 m12_1 m13_0 m13_1 m14_0 m14_1 m15_0 m15_1 f17 q31 f32 f34 f35 f36 f37 q38 f39 f40 f41 m42_0 m42_1 f43 f44 f47 f48 f49 f50 f51 q54 q55 q56 f57 q58 f59 f60 f64 hx16 hx18 hx19 hx21 hx22 hx26 hx28 hx29 hx30 hx33 hx46 hx52 hx53 hx61 hx62 hx63 hx65 hm12_0 hm12_1 hm13_0 hm13_1 hm14_0 hm14_1 hm15_0 hm15_1 hm42_0 hm42_1) (cwV 0 hts g_EM_from_EM_clocks rfl rfl rfl (by decide +kernel) ⟨Nat.le_of_ble_eq_true rfl, Nat.le_of_ble_eq_true rfl⟩) ⟨pu_bl, va_recv hK hP (ci := 9) (q0 := 0) rfl rfl, pu_in hP hK hD⟩ rfl rfl hl.1 rfl (lv_room (Nat.le_of_ble_eq_true rfl)) dX9_from_105 ⟨Nat.le_of_ble_eq_true rfl, Nat.le_of_ble_eq_true rfl⟩) hS (fun q _ h => pu_fr hS hA q h) (pu_fr hS hA) (fun r_61 u t H1 locs ht hvm hw hB hz1 hk1 hS => ?_)
              have hP := pu_keep hP hk1
              clear hk1 hz1 ht hvm
              generalize H1 = H at hP hS ⊢
              obtain ⟨u_62, hu_62, rfl, iu_62⟩ := hw
              replace hsp := hsp.trans (slet_eq iu_62)
              refine lv_iconst (v := 1) hx hb dX9_from_108 (by decide) ?_
              refine lv_iadd hx hb dX9_from_109 ?_
              refine lv_topi (fun y_63 ey_63 => ?_)
              obtain rfl : y_63 = (nI (u_62 + 1)) := ey_63.trans (nI_add u_62 1)
              refine va_put (D := (dC, dI)) (ci := 9) (v := .int (nI (u_62 + 1))) (ty := .int) (C := RX9) (T := TX9) (N := 67) hx hb hts hiX9 tyX9 tyX9_ok nmX9 hown hK hP hD hS 0 rfl rfl 46 (by decide) v_11 (fun _ h9 => h9) rfl (by decide +kernel) rfl rfl (Nat.le_of_ble_eq_true rfl) dX9_from_110 (fun H locs hP hD hS => ?_)
              have hP : va_P (dC, dI) vwCl (mo_w ad ck 0 (nI x16) (nI x18) (nI x19) x20 (nI x21) (nI x22) x23 x24 x25 (nI x26) x27 (nI x28) (nI x29) (nI x30) (nI x33) x45 (nI (u_62 + 1)) (nI x52) (nI x53) (nI x61) (nI x62) (nI x63) (nI x65) x66 f1 f2 f3 (bN 3 q4) (bN 7 q5) (bN 7 q6) (bN 4 q7) f8 (bN 2 q9) (bH q10) f11 (b2 m12_0 m12_1) (b2 m13_0 m13_1) (b2 m14_0 m14_1) (b2m m15_0 m15_1) f17 (bA 159 q31) f32 f34 f35 f36 f37 (bN 7 q38) f39 f40 f41 (b2 m42_0 m42_1) f43 f44 f47 f48 f49 f50 f51 (bN 13 q54) (bN 120 q55) (bN 120 q56) f57 (bN 120 q58) f59 f60 f64) H := hP
              have hD : va_D A (mo_w ad ck 0 (nI x16) (nI x18) (nI x19) x20 (nI x21) (nI x22) x23 x24 x25 (nI x26) x27 (nI x28) (nI x29) (nI x30) (nI x33) x45 (nI (u_62 + 1)) (nI x52) (nI x53) (nI x61) (nI x62) (nI x63) (nI x65) x66 f1 f2 f3 (bN 3 q4) (bN 7 q5) (bN 7 q6) (bN 4 q7) f8 (bN 2 q9) (bH q10) f11 (b2 m12_0 m12_1) (b2 m13_0 m13_1) (b2 m14_0 m14_1) (b2m m15_0 m15_1) f17 (bA 159 q31) f32 f34 f35 f36 f37 (bN 7 q38) f39 f40 f41 (b2 m42_0 m42_1) f43 f44 f47 f48 f49 f50 f51 (bN 13 q54) (bN 120 q55) (bN 120 q56) f57 (bN 120 q58) f59 f60 f64) := hD
              refine lv_aload_n hx hb dX9_from_113 rfl (lv_at hl 1 rfl) ?_
              refine lv_iload_n hx hb dX9_from_114 rfl (lv_at hl 3 rfl) ?_
              refine lv_iload_n hx hb dX9_from_115 rfl (lv_at hl 4 rfl) ?_
              refine lv_iload hx hb dX9_from_116 (lv_at hl 5 rfl) ?_
              have hFc := pu_free hD hS hA
              refine va_callv (va_runV (As := [.int p1, .int (nI n_57), .int p3]) (rest := []) ⟨hx, hb, hml, hown, hts⟩ (c_EM_layPoint l dC dI _ ad ck 0 x16 x18 x19 x20 x21 x22 x23 x24 x25 x26 x27 x28 x29 x30 x33 x45 (u_62 + 1) x52 x53 x61 x62 x63 x65 x66 f1 f2 f3 q4 q5 q6 q7 f8 q9 q10 f11 m12_0 m12_1 m13_0 m13_1 m14_0 m14_1 m15_0 m15_1 f17 q31 f32 f34 f35 f36 f37 q38 f39 f40 f41 m42_0 m42_1 f43 f44 f47 f48 f49 f50 f51 q54 q55 q56 f57 q58 f59 f60 f64 p1 (nI n_57) p3 hx16 hx18 hx19 hx21 hx22 hx26 hx28 hx29 hx30 hx33 (by omega) hx52 hx53 hx61 hx62 hx63 hx65 hm12_0 hm12_1 hm13_0 hm13_1 hm14_0 hm14_1 hm15_0 hm15_1 hm42_0 hm42_1) (cwV 3 hts g_EM_from_EM_layPoint rfl rfl rfl (by decide +kernel) ⟨Nat.le_of_ble_eq_true rfl, Nat.le_of_ble_eq_true rfl⟩) ⟨pu_bl, va_recv hK hP (ci := 9) (q0 := 0) rfl rfl, pu_in hP hK hD⟩ rfl rfl hl.1 rfl (lv_room (Nat.le_of_ble_eq_true rfl)) dX9_from_118 ⟨Nat.le_of_ble_eq_true rfl, Nat.le_of_ble_eq_true rfl⟩) hS (fun q _ h => hFc q h) hFc (fun u t H1 locs ht hvm hw hB hz1 hk1 hS => ?_)
              obtain ⟨z35_65, ⟨hP1, -, hD1⟩, xr_64_0⟩ := hB
              rw [ht] at hP1
              have hP := hP1
              have hD := pu_all hFc hD1
              clear hP1 hD1 hFc
              clear hk1 hz1 ht hvm
              generalize H1 = H at hP hS ⊢
              replace hsp := hsp.trans (slet_eq xr_64_0)
              refine lv_aload_n hx hb dX9_from_121 rfl (lv_at hl 1 rfl) ?_
              refine lv_iconst (v := 1) hx hb dX9_from_122 (by decide) ?_
              refine lv_iload_n hx hb dX9_from_123 rfl (lv_at hl 2 rfl) ?_
              refine lv_iconst (v := 2) hx hb dX9_from_124 (by decide) ?_
              refine lv_iconst (v := 1) hx hb dX9_from_125 (by decide) ?_
              refine lv_bipush (v := 120) hx hb dX9_from_126 (by decide) ?_
              refine lv_iconst (v := (-1)) hx hb dX9_from_128 (by decide) ?_
              have hFc := pu_free hD hS hA
              refine va_callv (va_runV (As := [.int 1, .int (nI n_2), .int 2, .int 1, .int 120, .int (-1)]) (rest := []) ⟨hx, hb, hml, hown, hts⟩ (c_EM_explores_1_120 l dC dI _ ad ck 0 x16 x18 x19 x20 x21 x22 x23 x24 x25 x26 x27 x28 x29 x30 x33 x45 (u_62 + 1) x52 x53 x61 x62 x63 x65 x66 f1 f2 f3 q4 q5 q6 q7 f8 q9 q10 f11 m12_0 m12_1 m13_0 m13_1 m14_0 m14_1 m15_0 m15_1 f17 q31 f32 f34 z35_65 f36 f37 q38 f39 f40 f41 m42_0 m42_1 f43 f44 f47 f48 f49 f50 f51 q54 q55 q56 f57 q58 f59 f60 f64 n_2 2 1 (-1) hx16 hx18 hx19 hx21 hx22 hx26 hx28 hx29 hx30 hx33 (by omega) hx52 hx53 hx61 hx62 hx63 hx65 hm12_0 hm12_1 hm13_0 hm13_1 hm14_0 hm14_1 hm15_0 hm15_1 hm42_0 hm42_1 (by omega) (Nat.le_of_ble_eq_true rfl) (by first | assumption | exact gz_0)) (cwV 6 hts g_EM_from_EM_explores_1_120 rfl rfl rfl (by decide +kernel) ⟨Nat.le_of_ble_eq_true rfl, Nat.le_of_ble_eq_true rfl⟩) ⟨pu_bl, va_recv hK hP (ci := 9) (q0 := 0) rfl rfl, pu_in hP hK hD⟩ rfl rfl hl.1 rfl (lv_room (Nat.le_of_ble_eq_true rfl)) dX9_from_129 ⟨Nat.le_of_ble_eq_true rfl, Nat.le_of_ble_eq_true rfl⟩) hS (fun q _ h => hFc q h) hFc (fun u t H1 locs ht hvm hw hB hz1 hk1 hS => ?_)
              obtain ⟨z34_67, z35_68, z38_69, z39_70, z40_71, z41_72, z43_73, z44_74, z47_75, z48_76, z42_1_77, ⟨hP1, -, hD1⟩, hz42_1_77, xr_66_0, xr_66_1⟩ := hB
              rw [ht] at hP1
              have hP := hP1
              have hD := pu_all hFc hD1
              clear hP1 hD1 hFc
              clear hk1 hz1 ht hvm
              generalize H1 = H at hP hS ⊢
              replace hsp := hsp.trans (slet_eq xr_66_1)
              refine lv_aload_n hx hb dX9_from_132 rfl (lv_at hl 1 rfl) ?_
              refine lv_iconst (v := 1) hx hb dX9_from_133 (by decide) ?_
              refine lv_iload hx hb dX9_from_134 (lv_at hl 6 rfl) ?_
              refine va_calli (va_runV (As := [.int 1, .int (nI n_4)]) (rest := []) ⟨hx, hb, hml, hown, hts⟩ (c_EM_hasPlace_1 l dC dI _ ad ck 0 x16 x18 x19 x20 x21 x22 x23 x24 x25 x26 x27 x28 x29 x30 x33 x45 (u_62 + 1) x52 x53 x61 x62 x63 x65 x66 f1 f2 f3 q4 q5 q6 q7 f8 q9 q10 f11 m12_0 m12_1 m13_0 m13_1 m14_0 m14_1 m15_0 m15_1 f17 q31 f32 z34_67 z35_68 f36 f37 z38_69 z39_70 z40_71 z41_72 m42_0 z42_1_77 z43_73 z44_74 z47_75 z48_76 f49 f50 f51 q54 q55 q56 f57 q58 f59 f60 f64 (nI n_4) hx16 hx18 hx19 hx21 hx22 hx26 hx28 hx29 hx30 hx33 (by omega) hx52 hx53 hx61 hx62 hx63 hx65 hm12_0 hm12_1 hm13_0 hm13_1 hm14_0 hm14_1 hm15_0 hm15_1 hm42_0 (Nat.le_trans hz42_1_77 (Nat.le_of_ble_eq_true rfl))) (cwV 2 hts g_EM_from_EM_hasPlace_1 rfl rfl rfl (by decide +kernel) ⟨Nat.le_of_ble_eq_true rfl, Nat.le_of_ble_eq_true rfl⟩) ⟨pu_bl, va_recv hK hP (ci := 9) (q0 := 0) rfl rfl, pu_in hP hK hD⟩ rfl rfl hl.1 rfl (lv_room (Nat.le_of_ble_eq_true rfl)) dX9_from_136 ⟨Nat.le_of_ble_eq_true rfl, Nat.le_of_ble_eq_true rfl⟩) hS (fun q _ h => pu_fr hS hA q h) (pu_fr hS hA) (fun r_78 u t H1 locs ht hvm hw hB hz1 hk1 hS => ?_)
              have hP := pu_keep hP hk1
              clear hk1 hz1 ht hvm
              generalize H1 = H at hP hS ⊢
              obtain ⟨u_79, hu_79, rfl, iu_79⟩ := hw
              replace hsp := hsp.trans (slet_eq iu_79)
              refine lv_if_eq (tgt := 146) hx hb dX9_from_139 (by decide) (fun c_80 => ?_) (fun c_80 => ?_)
              · have c_80 : u_79 = 0 := (nI_eq (a := u_79) (b := 0) (Nat.lt_of_le_of_lt hu_79 (Nat.le_of_ble_eq_true rfl)) (Nat.le_of_ble_eq_true rfl)).mp c_80
                replace hsp := hsp.trans (if_pos c_80)
                refine lv_iconst (v := 0) hx hb dX9_from_146 (by decide) ?_
                exact W.iret (v := 0) hx hb hr (fun t ht hW => ⟨⟨0, (), rfl, (congrArg Prod.fst (hsp.symm.trans hRR)), ⟨z34_67, z35_68, z38_69, z39_70, z40_71, z41_72, z43_73, z44_74, z47_75, z48_76, z42_1_77, 0, (u_62 + 1), ⟨by rw [ht]; exact hP, va_K.moved hW.alike hK, hD⟩, (Nat.le_trans hz42_1_77 (Nat.le_of_ble_eq_true rfl)), (by omega), by first | assumption | exact gz_0, (congrArg Prod.snd (hsp.symm.trans hRR))⟩⟩, hS.F ht⟩) hS.2.2 dX9_from_147
              · have c_80 : ¬ u_79 = 0 := fun z => c_80 ((nI_eq (a := u_79) (b := 0) (Nat.lt_of_le_of_lt hu_79 (Nat.le_of_ble_eq_true rfl)) (Nat.le_of_ble_eq_true rfl)).mpr z)
                replace hsp := hsp.trans (if_neg c_80)
                refine lv_iconst (v := 1) hx hb dX9_from_142 (by decide) ?_
                refine lv_goto (tgt := 147) hx hb dX9_from_143 (by decide) ?_
                exact W.iret (v := 1) hx hb hr (fun t ht hW => ⟨⟨1, (), rfl, (congrArg Prod.fst (hsp.symm.trans hRR)), ⟨z34_67, z35_68, z38_69, z39_70, z40_71, z41_72, z43_73, z44_74, z47_75, z48_76, z42_1_77, 0, (u_62 + 1), ⟨by rw [ht]; exact hP, va_K.moved hW.alike hK, hD⟩, (Nat.le_trans hz42_1_77 (Nat.le_of_ble_eq_true rfl)), (by omega), by first | assumption | exact gz_0, (congrArg Prod.snd (hsp.symm.trans hRR))⟩⟩, hS.F ht⟩) hS.2.2 dX9_from_147
            · have c_60 : ¬ u_59 < 3 := fun z => c_60 ((nI_ltI (a := u_59) (b := 3) (Nat.lt_of_le_of_lt hu_59 (Nat.le_of_ble_eq_true rfl)) (Nat.le_of_ble_eq_true rfl)).mpr z)
              replace hsp := hsp.trans (if_neg c_60)
              refine lv_iload hx hb dX9_from_78 (lv_at hl 5 rfl) ?_
              refine lv_iconst (v := 0) hx hb dX9_from_80 (by decide) ?_
              refine lv_bipush (v := 60) hx hb dX9_from_81 (by decide) ?_
              refine va_calli (va_runS (As := [.int p3, .int 0, .int 60]) (rest := []) ⟨hx, hb, hml, hown, hts⟩ (c_X9_in l dC dI _ p3 0 60) (va_cwS 3 hts g_EM_from_X9_in rfl rfl rfl (by decide +kernel) ⟨Nat.le_of_ble_eq_true rfl, Nat.le_of_ble_eq_true rfl⟩) ⟨pu_bl, pu_in (hP.sub [] rfl) (hK.sub [] rfl) (hD.sub [] (by decide) rfl)⟩ rfl rfl hl.1 rfl (lv_room (Nat.le_of_ble_eq_true rfl)) dX9_from_83 ⟨Nat.le_of_ble_eq_true rfl, Nat.le_of_ble_eq_true rfl⟩) hS (fun q _ h => pu_fr hS hA q h) (pu_fr hS hA) (fun r_81 u t H1 locs ht hvm hw hB hz1 hk1 hS => ?_)
              have hP := pu_keep hP hk1
              clear hk1 hz1 ht hvm
              generalize H1 = H at hP hS ⊢
              rcases hw with ⟨rfl, hi1, hi2⟩ | ⟨rfl, hi3⟩
              · replace hsp := hsp.trans (if_pos ⟨hi1, hi2⟩)
                obtain ⟨n_82, hn_82, rfl⟩ := pu_in0 (n := 60) (by omega) hi1 hi2
                replace hsp := hsp.trans (slet_eq (nI_cl (n := n_82) (by omega)))
                refine lv_if_eq (tgt := 93) hx hb dX9_from_86 (by decide) (fun z => absurd z (by decide)) (fun _ => ?_)
                refine lv_iconst (v := 1) hx hb dX9_from_89 (by decide) ?_
                refine lv_goto (tgt := 94) hx hb dX9_from_90 (by decide) ?_
                refine lv_istore (lv' := [(6, .int 1), (0, .ref (ad 0)), (1, .int (nI n_2)), (2, .int p1), (3, .int (nI n_57)), (4, .int (nI n_82)), (5, .int (nI n_4))]) hx hb dX9_from_94 hl (by decide) rfl (fun ls hl => ?_)
                refine lv_iload hx hb dX9_from_96 (lv_at hl 0 rfl) ?_
                refine lv_if_ne (tgt := 103) hx hb dX9_from_98 (by decide) (fun _ => ?_) (fun z => absurd z (by decide))
                refine lv_aload_n hx hb dX9_from_103 rfl (lv_at hl 1 rfl) ?_
                refine lv_aload_n hx hb dX9_from_104 rfl (lv_at hl 1 rfl) ?_
                refine va_calli (va_runV (As := []) (rest := [.ref (ad 0)]) ⟨hx, hb, hml, hown, hts⟩ (c_EM_clocks l dC dI _ ad ck 0 x16 x18 x19 x20 x21 x22 x23 x24 x25 x26 x27 x28 x29 x30 x33 x45 x46 x52 x53 x61 x62 x63 x65 x66 f1 f2 f3 q4 q5 q6 q7 f8 q9 q10 f11 m12_0 m12_1 m13_0 m13_1 m14_0 m14_1 m15_0 m15_1 f17 q31 f32 f34 f35 f36 f37 q38 f39 f40 f41 m42_0 m42_1 f43 f44 f47 f48 f49 f50 f51 q54 q55 q56 f57 q58 f59 f60 f64 hx16 hx18 hx19 hx21 hx22 hx26 hx28 hx29 hx30 hx33 hx46 hx52 hx53 hx61 hx62 hx63 hx65 hm12_0 hm12_1 hm13_0 hm13_1 hm14_0 hm14_1 hm15_0 hm15_1 hm42_0 hm42_1) (cwV 0 hts g_EM_from_EM_clocks rfl rfl rfl (by decide +kernel) ⟨Nat.le_of_ble_eq_true rfl, Nat.le_of_ble_eq_true rfl⟩) ⟨pu_bl, va_recv hK hP (ci := 9) (q0 := 0) rfl rfl, pu_in hP hK hD⟩ rfl rfl hl.1 rfl (lv_room (Nat.le_of_ble_eq_true rfl)) dX9_from_105 ⟨Nat.le_of_ble_eq_true rfl, Nat.le_of_ble_eq_true rfl⟩) hS (fun q _ h => pu_fr hS hA q h) (pu_fr hS hA) (fun r_83 u t H1 locs ht hvm hw hB hz1 hk1 hS => ?_)
                have hP := pu_keep hP hk1
                clear hk1 hz1 ht hvm
                generalize H1 = H at hP hS ⊢
                obtain ⟨u_84, hu_84, rfl, iu_84⟩ := hw
                replace hsp := hsp.trans (slet_eq iu_84)
                refine lv_iconst (v := 1) hx hb dX9_from_108 (by decide) ?_
                refine lv_iadd hx hb dX9_from_109 ?_
                refine lv_topi (fun y_85 ey_85 => ?_)
                obtain rfl : y_85 = (nI (u_84 + 1)) := ey_85.trans (nI_add u_84 1)
                refine va_put (D := (dC, dI)) (ci := 9) (v := .int (nI (u_84 + 1))) (ty := .int) (C := RX9) (T := TX9) (N := 67) hx hb hts hiX9 tyX9 tyX9_ok nmX9 hown hK hP hD hS 0 rfl rfl 46 (by decide) v_11 (fun _ h9 => h9) rfl (by decide +kernel) rfl rfl (Nat.le_of_ble_eq_true rfl) dX9_from_110 (fun H locs hP hD hS => ?_)
                have hP : va_P (dC, dI) vwCl (mo_w ad ck 0 (nI x16) (nI x18) (nI x19) x20 (nI x21) (nI x22) x23 x24 x25 (nI x26) x27 (nI x28) (nI x29) (nI x30) (nI x33) x45 (nI (u_84 + 1)) (nI x52) (nI x53) (nI x61) (nI x62) (nI x63) (nI x65) x66 f1 f2 f3 (bN 3 q4) (bN 7 q5) (bN 7 q6) (bN 4 q7) f8 (bN 2 q9) (bH q10) f11 (b2 m12_0 m12_1) (b2 m13_0 m13_1) (b2 m14_0 m14_1) (b2m m15_0 m15_1) f17 (bA 159 q31) f32 f34 f35 f36 f37 (bN 7 q38) f39 f40 f41 (b2 m42_0 m42_1) f43 f44 f47 f48 f49 f50 f51 (bN 13 q54) (bN 120 q55) (bN 120 q56) f57 (bN 120 q58) f59 f60 f64) H := hP
                have hD : va_D A (mo_w ad ck 0 (nI x16) (nI x18) (nI x19) x20 (nI x21) (nI x22) x23 x24 x25 (nI x26) x27 (nI x28) (nI x29) (nI x30) (nI x33) x45 (nI (u_84 + 1)) (nI x52) (nI x53) (nI x61) (nI x62) (nI x63) (nI x65) x66 f1 f2 f3 (bN 3 q4) (bN 7 q5) (bN 7 q6) (bN 4 q7) f8 (bN 2 q9) (bH q10) f11 (b2 m12_0 m12_1) (b2 m13_0 m13_1) (b2 m14_0 m14_1) (b2m m15_0 m15_1) f17 (bA 159 q31) f32 f34 f35 f36 f37 (bN 7 q38) f39 f40 f41 (b2 m42_0 m42_1) f43 f44 f47 f48 f49 f50 f51 (bN 13 q54) (bN 120 q55) (bN 120 q56) f57 (bN 120 q58) f59 f60 f64) := hD
                refine lv_aload_n hx hb dX9_from_113 rfl (lv_at hl 1 rfl) ?_
                refine lv_iload_n hx hb dX9_from_114 rfl (lv_at hl 3 rfl) ?_
                refine lv_iload_n hx hb dX9_from_115 rfl (lv_at hl 4 rfl) ?_
                refine lv_iload hx hb dX9_from_116 (lv_at hl 5 rfl) ?_
                have hFc := pu_free hD hS hA
                refine va_callv (va_runV (As := [.int p1, .int (nI n_57), .int (nI n_82)]) (rest := []) ⟨hx, hb, hml, hown, hts⟩ (c_EM_layPoint l dC dI _ ad ck 0 x16 x18 x19 x20 x21 x22 x23 x24 x25 x26 x27 x28 x29 x30 x33 x45 (u_84 + 1) x52 x53 x61 x62 x63 x65 x66 f1 f2 f3 q4 q5 q6 q7 f8 q9 q10 f11 m12_0 m12_1 m13_0 m13_1 m14_0 m14_1 m15_0 m15_1 f17 q31 f32 f34 f35 f36 f37 q38 f39 f40 f41 m42_0 m42_1 f43 f44 f47 f48 f49 f50 f51 q54 q55 q56 f57 q58 f59 f60 f64 p1 (nI n_57) (nI n_82) hx16 hx18 hx19 hx21 hx22 hx26 hx28 hx29 hx30 hx33 (by omega) hx52 hx53 hx61 hx62 hx63 hx65 hm12_0 hm12_1 hm13_0 hm13_1 hm14_0 hm14_1 hm15_0 hm15_1 hm42_0 hm42_1) (cwV 3 hts g_EM_from_EM_layPoint rfl rfl rfl (by decide +kernel) ⟨Nat.le_of_ble_eq_true rfl, Nat.le_of_ble_eq_true rfl⟩) ⟨pu_bl, va_recv hK hP (ci := 9) (q0 := 0) rfl rfl, pu_in hP hK hD⟩ rfl rfl hl.1 rfl (lv_room (Nat.le_of_ble_eq_true rfl)) dX9_from_118 ⟨Nat.le_of_ble_eq_true rfl, Nat.le_of_ble_eq_true rfl⟩) hS (fun q _ h => hFc q h) hFc (fun u t H1 locs ht hvm hw hB hz1 hk1 hS => ?_)
                obtain ⟨z35_87, ⟨hP1, -, hD1⟩, xr_86_0⟩ := hB
                rw [ht] at hP1
                have hP := hP1
                have hD := pu_all hFc hD1
                clear hP1 hD1 hFc
                clear hk1 hz1 ht hvm
                generalize H1 = H at hP hS ⊢
                replace hsp := hsp.trans (slet_eq xr_86_0)
                refine lv_aload_n hx hb dX9_from_121 rfl (lv_at hl 1 rfl) ?_
                refine lv_iconst (v := 1) hx hb dX9_from_122 (by decide) ?_
                refine lv_iload_n hx hb dX9_from_123 rfl (lv_at hl 2 rfl) ?_
                refine lv_iconst (v := 2) hx hb dX9_from_124 (by decide) ?_
                refine lv_iconst (v := 1) hx hb dX9_from_125 (by decide) ?_
                refine lv_bipush (v := 120) hx hb dX9_from_126 (by decide) ?_
                refine lv_iconst (v := (-1)) hx hb dX9_from_128 (by decide) ?_
                have hFc := pu_free hD hS hA
                refine va_callv (va_runV (As := [.int 1, .int (nI n_2), .int 2, .int 1, .int 120, .int (-1)]) (rest := []) ⟨hx, hb, hml, hown, hts⟩ (c_EM_explores_1_120 l dC dI _ ad ck 0 x16 x18 x19 x20 x21 x22 x23 x24 x25 x26 x27 x28 x29 x30 x33 x45 (u_84 + 1) x52 x53 x61 x62 x63 x65 x66 f1 f2 f3 q4 q5 q6 q7 f8 q9 q10 f11 m12_0 m12_1 m13_0 m13_1 m14_0 m14_1 m15_0 m15_1 f17 q31 f32 f34 z35_87 f36 f37 q38 f39 f40 f41 m42_0 m42_1 f43 f44 f47 f48 f49 f50 f51 q54 q55 q56 f57 q58 f59 f60 f64 n_2 2 1 (-1) hx16 hx18 hx19 hx21 hx22 hx26 hx28 hx29 hx30 hx33 (by omega) hx52 hx53 hx61 hx62 hx63 hx65 hm12_0 hm12_1 hm13_0 hm13_1 hm14_0 hm14_1 hm15_0 hm15_1 hm42_0 hm42_1 (by omega) (Nat.le_of_ble_eq_true rfl) (by first | assumption | exact gz_0)) (cwV 6 hts g_EM_from_EM_explores_1_120 rfl rfl rfl (by decide +kernel) ⟨Nat.le_of_ble_eq_true rfl, Nat.le_of_ble_eq_true rfl⟩) ⟨pu_bl, va_recv hK hP (ci := 9) (q0 := 0) rfl rfl, pu_in hP hK hD⟩ rfl rfl hl.1 rfl (lv_room (Nat.le_of_ble_eq_true rfl)) dX9_from_129 ⟨Nat.le_of_ble_eq_true rfl, Nat.le_of_ble_eq_true rfl⟩) hS (fun q _ h => hFc q h) hFc (fun u t H1 locs ht hvm hw hB hz1 hk1 hS => ?_)
                obtain ⟨z34_89, z35_90, z38_91, z39_92, z40_93, z41_94, z43_95, z44_96, z47_97, z48_98, z42_1_99, ⟨hP1, -, hD1⟩, hz42_1_99, xr_88_0, xr_88_1⟩ := hB
                rw [ht] at hP1
                have hP := hP1
                have hD := pu_all hFc hD1
                clear hP1 hD1 hFc
                clear hk1 hz1 ht hvm
                generalize H1 = H at hP hS ⊢
                replace hsp := hsp.trans (slet_eq xr_88_1)
                refine lv_aload_n hx hb dX9_from_132 rfl (lv_at hl 1 rfl) ?_
                refine lv_iconst (v := 1) hx hb dX9_from_133 (by decide) ?_
                refine lv_iload hx hb dX9_from_134 (lv_at hl 6 rfl) ?_
                refine va_calli (va_runV (As := [.int 1, .int (nI n_4)]) (rest := []) ⟨hx, hb, hml, hown, hts⟩ (c_EM_hasPlace_1 l dC dI _ ad ck 0 x16 x18 x19 x20 x21 x22 x23 x24 x25 x26 x27 x28 x29 x30 x33 x45 (u_84 + 1) x52 x53 x61 x62 x63 x65 x66 f1 f2 f3 q4 q5 q6 q7 f8 q9 q10 f11 m12_0 m12_1 m13_0 m13_1 m14_0 m14_1 m15_0 m15_1 f17 q31 f32 z34_89 z35_90 f36 f37 z38_91 z39_92 z40_93 z41_94 m42_0 z42_1_99 z43_95 z44_96 z47_97 z48_98 f49 f50 f51 q54 q55 q56 f57 q58 f59 f60 f64 (nI n_4) hx16 hx18 hx19 hx21 hx22 hx26 hx28 hx29 hx30 hx33 (by omega) hx52 hx53 hx61 hx62 hx63 hx65 hm12_0 hm12_1 hm13_0 hm13_1 hm14_0 hm14_1 hm15_0 hm15_1 hm42_0 (Nat.le_trans hz42_1_99 (Nat.le_of_ble_eq_true rfl))) (cwV 2 hts g_EM_from_EM_hasPlace_1 rfl rfl rfl (by decide +kernel) ⟨Nat.le_of_ble_eq_true rfl, Nat.le_of_ble_eq_true rfl⟩) ⟨pu_bl, va_recv hK hP (ci := 9) (q0 := 0) rfl rfl, pu_in hP hK hD⟩ rfl rfl hl.1 rfl (lv_room (Nat.le_of_ble_eq_true rfl)) dX9_from_136 ⟨Nat.le_of_ble_eq_true rfl, Nat.le_of_ble_eq_true rfl⟩) hS (fun q _ h => pu_fr hS hA q h) (pu_fr hS hA) (fun r_100 u t H1 locs ht hvm hw hB hz1 hk1 hS => ?_)
                have hP := pu_keep hP hk1
                clear hk1 hz1 ht hvm
                generalize H1 = H at hP hS ⊢
                obtain ⟨u_101, hu_101, rfl, iu_101⟩ := hw
                replace hsp := hsp.trans (slet_eq iu_101)
                refine lv_if_eq (tgt := 146) hx hb dX9_from_139 (by decide) (fun c_102 => ?_) (fun c_102 => ?_)
                · have c_102 : u_101 = 0 := (nI_eq (a := u_101) (b := 0) (Nat.lt_of_le_of_lt hu_101 (Nat.le_of_ble_eq_true rfl)) (Nat.le_of_ble_eq_true rfl)).mp c_102
                  replace hsp := hsp.trans (if_pos c_102)
                  refine lv_iconst (v := 0) hx hb dX9_from_146 (by decide) ?_
                  exact W.iret (v := 0) hx hb hr (fun t ht hW => ⟨⟨0, (), rfl, (congrArg Prod.fst (hsp.symm.trans hRR)), ⟨z34_89, z35_90, z38_91, z39_92, z40_93, z41_94, z43_95, z44_96, z47_97, z48_98, z42_1_99, 0, (u_84 + 1), ⟨by rw [ht]; exact hP, va_K.moved hW.alike hK, hD⟩, (Nat.le_trans hz42_1_99 (Nat.le_of_ble_eq_true rfl)), (by omega), by first | assumption | exact gz_0, (congrArg Prod.snd (hsp.symm.trans hRR))⟩⟩, hS.F ht⟩) hS.2.2 dX9_from_147
                · have c_102 : ¬ u_101 = 0 := fun z => c_102 ((nI_eq (a := u_101) (b := 0) (Nat.lt_of_le_of_lt hu_101 (Nat.le_of_ble_eq_true rfl)) (Nat.le_of_ble_eq_true rfl)).mpr z)
                  replace hsp := hsp.trans (if_neg c_102)
                  refine lv_iconst (v := 1) hx hb dX9_from_142 (by decide) ?_
                  refine lv_goto (tgt := 147) hx hb dX9_from_143 (by decide) ?_
                  exact W.iret (v := 1) hx hb hr (fun t ht hW => ⟨⟨1, (), rfl, (congrArg Prod.fst (hsp.symm.trans hRR)), ⟨z34_89, z35_90, z38_91, z39_92, z40_93, z41_94, z43_95, z44_96, z47_97, z48_98, z42_1_99, 0, (u_84 + 1), ⟨by rw [ht]; exact hP, va_K.moved hW.alike hK, hD⟩, (Nat.le_trans hz42_1_99 (Nat.le_of_ble_eq_true rfl)), (by omega), by first | assumption | exact gz_0, (congrArg Prod.snd (hsp.symm.trans hRR))⟩⟩, hS.F ht⟩) hS.2.2 dX9_from_147
              · replace hsp := hsp.trans (if_neg hi3)
                refine lv_if_eq (tgt := 93) hx hb dX9_from_86 (by decide) (fun _ => ?_) (fun z => absurd z (by decide))
                refine lv_iconst (v := 0) hx hb dX9_from_93 (by decide) ?_
                refine lv_istore (lv' := [(6, .int 0), (0, .ref (ad 0)), (1, .int (nI n_2)), (2, .int p1), (3, .int (nI n_57)), (4, .int p3), (5, .int (nI n_4))]) hx hb dX9_from_94 hl (by decide) rfl (fun ls hl => ?_)
                refine lv_iload hx hb dX9_from_96 (lv_at hl 0 rfl) ?_
                refine lv_if_ne (tgt := 103) hx hb dX9_from_98 (by decide) (fun z => absurd z (by decide)) (fun _ => ?_)
                refine lv_iconst (v := (-1)) hx hb dX9_from_101 (by decide) ?_
                exact W.iret (v := (-1)) hx hb hr (fun t ht hW => ⟨⟨(-1), (), rfl, (congrArg Prod.fst (hsp.symm.trans hRR)), ⟨f34, f35, q38, f39, f40, f41, f43, f44, f47, f48, m42_1, 0, x46, ⟨by rw [ht]; exact hP, va_K.moved hW.alike hK, hD⟩, hm42_1, hx46, by first | assumption | exact gz_0, (congrArg Prod.snd (hsp.symm.trans hRR))⟩⟩, hS.F ht⟩) hS.2.2 dX9_from_102
          · replace hsp := hsp.trans (if_neg hi3)
            refine lv_if_eq (tgt := 93) hx hb dX9_from_67 (by decide) (fun _ => ?_) (fun z => absurd z (by decide))
            refine lv_iconst (v := 0) hx hb dX9_from_93 (by decide) ?_
            refine lv_istore (lv' := [(6, .int 0), (0, .ref (ad 0)), (1, .int (nI n_2)), (2, .int p1), (3, .int p2), (4, .int p3), (5, .int (nI n_4))]) hx hb dX9_from_94 hl (by decide) rfl (fun ls hl => ?_)
            refine lv_iload hx hb dX9_from_96 (lv_at hl 0 rfl) ?_
            refine lv_if_ne (tgt := 103) hx hb dX9_from_98 (by decide) (fun z => absurd z (by decide)) (fun _ => ?_)
            refine lv_iconst (v := (-1)) hx hb dX9_from_101 (by decide) ?_
            exact W.iret (v := (-1)) hx hb hr (fun t ht hW => ⟨⟨(-1), (), rfl, (congrArg Prod.fst (hsp.symm.trans hRR)), ⟨f34, f35, q38, f39, f40, f41, f43, f44, f47, f48, m42_1, 0, x46, ⟨by rw [ht]; exact hP, va_K.moved hW.alike hK, hD⟩, hm42_1, hx46, by first | assumption | exact gz_0, (congrArg Prod.snd (hsp.symm.trans hRR))⟩⟩, hS.F ht⟩) hS.2.2 dX9_from_102
      · have c_7 : ¬ u_6 < 1 := fun z => c_7 ((nI_ltI (a := u_6) (b := 1) (Nat.lt_of_le_of_lt hu_6 (Nat.le_of_ble_eq_true rfl)) (Nat.le_of_ble_eq_true rfl)).mpr z)
        replace hsp := hsp.trans (if_neg c_7)
        refine lv_iload_n hx hb dX9_from_42 rfl (lv_at hl 3 rfl) ?_
        refine lv_iconst (v := 0) hx hb dX9_from_43 (by decide) ?_
        refine lv_bipush (v := 60) hx hb dX9_from_44 (by decide) ?_
        refine va_calli (va_runS (As := [.int p1, .int 0, .int 60]) (rest := []) ⟨hx, hb, hml, hown, hts⟩ (c_X9_in l dC dI _ p1 0 60) (va_cwS 3 hts g_EM_from_X9_in rfl rfl rfl (by decide +kernel) ⟨Nat.le_of_ble_eq_true rfl, Nat.le_of_ble_eq_true rfl⟩) ⟨pu_bl, pu_in (hP.sub [] rfl) (hK.sub [] rfl) (hD.sub [] (by decide) rfl)⟩ rfl rfl hl.1 rfl (lv_room (Nat.le_of_ble_eq_true rfl)) dX9_from_46 ⟨Nat.le_of_ble_eq_true rfl, Nat.le_of_ble_eq_true rfl⟩) hS (fun q _ h => pu_fr hS hA q h) (pu_fr hS hA) (fun r_103 u t H1 locs ht hvm hw hB hz1 hk1 hS => ?_)
        have hP := pu_keep hP hk1
        clear hk1 hz1 ht hvm
        generalize H1 = H at hP hS ⊢
        rcases hw with ⟨rfl, hi1, hi2⟩ | ⟨rfl, hi3⟩
        · replace hsp := hsp.trans (if_pos ⟨hi1, hi2⟩)
          obtain ⟨n_104, hn_104, rfl⟩ := pu_in0 (n := 60) (by omega) hi1 hi2
          replace hsp := hsp.trans (slet_eq (nI_cl (n := n_104) (by omega)))
          refine lv_if_eq (tgt := 93) hx hb dX9_from_49 (by decide) (fun z => absurd z (by decide)) (fun _ => ?_)
          refine lv_aload_n hx hb dX9_from_52 rfl (lv_at hl 1 rfl) ?_
          refine va_calli (va_runV (As := []) (rest := []) ⟨hx, hb, hml, hown, hts⟩ (c_EM_clocks l dC dI _ ad ck 0 x16 x18 x19 x20 x21 x22 x23 x24 x25 x26 x27 x28 x29 x30 x33 x45 x46 x52 x53 x61 x62 x63 x65 x66 f1 f2 f3 q4 q5 q6 q7 f8 q9 q10 f11 m12_0 m12_1 m13_0 m13_1 m14_0 m14_1 m15_0 m15_1 f17 q31 f32 f34 f35 f36 f37 q38 f39 f40 f41 m42_0 m42_1 f43 f44 f47 f48 f49 f50 f51 q54 q55 q56 f57 q58 f59 f60 f64 hx16 hx18 hx19 hx21 hx22 hx26 hx28 hx29 hx30 hx33 hx46 hx52 hx53 hx61 hx62 hx63 hx65 hm12_0 hm12_1 hm13_0 hm13_1 hm14_0 hm14_1 hm15_0 hm15_1 hm42_0 hm42_1) (cwV 0 hts g_EM_from_EM_clocks rfl rfl rfl (by decide +kernel) ⟨Nat.le_of_ble_eq_true rfl, Nat.le_of_ble_eq_true rfl⟩) ⟨pu_bl, va_recv hK hP (ci := 9) (q0 := 0) rfl rfl, pu_in hP hK hD⟩ rfl rfl hl.1 rfl (lv_room (Nat.le_of_ble_eq_true rfl)) dX9_from_53 ⟨Nat.le_of_ble_eq_true rfl, Nat.le_of_ble_eq_true rfl⟩) hS (fun q _ h => pu_fr hS hA q h) (pu_fr hS hA) (fun r_105 u t H1 locs ht hvm hw hB hz1 hk1 hS => ?_)
          have hP := pu_keep hP hk1
          clear hk1 hz1 ht hvm
          generalize H1 = H at hP hS ⊢
          obtain ⟨u_106, hu_106, rfl, iu_106⟩ := hw
          replace hsp := hsp.trans (slet_eq iu_106)
          refine lv_iconst (v := 2) hx hb dX9_from_56 (by decide) ?_
          refine lv_icmp_lt (tgt := 70) hx hb dX9_from_57 (by decide) (fun c_107 => ?_) (fun c_107 => ?_)
          · have c_107 : u_106 < 2 := (nI_ltI (a := u_106) (b := 2) (Nat.lt_of_le_of_lt hu_106 (Nat.le_of_ble_eq_true rfl)) (Nat.le_of_ble_eq_true rfl)).mp c_107
            replace hsp := hsp.trans (if_pos c_107)
            refine lv_aload_n hx hb dX9_from_70 rfl (lv_at hl 1 rfl) ?_
            refine va_calli (va_runV (As := []) (rest := []) ⟨hx, hb, hml, hown, hts⟩ (c_EM_clocks l dC dI _ ad ck 0 x16 x18 x19 x20 x21 x22 x23 x24 x25 x26 x27 x28 x29 x30 x33 x45 x46 x52 x53 x61 x62 x63 x65 x66 f1 f2 f3 q4 q5 q6 q7 f8 q9 q10 f11 m12_0 m12_1 m13_0 m13_1 m14_0 m14_1 m15_0 m15_1 f17 q31 f32 f34 f35 f36 f37 q38 f39 f40 f41 m42_0 m42_1 f43 f44 f47 f48 f49 f50 f51 q54 q55 q56 f57 q58 f59 f60 f64 hx16 hx18 hx19 hx21 hx22 hx26 hx28 hx29 hx30 hx33 hx46 hx52 hx53 hx61 hx62 hx63 hx65 hm12_0 hm12_1 hm13_0 hm13_1 hm14_0 hm14_1 hm15_0 hm15_1 hm42_0 hm42_1) (cwV 0 hts g_EM_from_EM_clocks rfl rfl rfl (by decide +kernel) ⟨Nat.le_of_ble_eq_true rfl, Nat.le_of_ble_eq_true rfl⟩) ⟨pu_bl, va_recv hK hP (ci := 9) (q0 := 0) rfl rfl, pu_in hP hK hD⟩ rfl rfl hl.1 rfl (lv_room (Nat.le_of_ble_eq_true rfl)) dX9_from_71 ⟨Nat.le_of_ble_eq_true rfl, Nat.le_of_ble_eq_true rfl⟩) hS (fun q _ h => pu_fr hS hA q h) (pu_fr hS hA) (fun r_108 u t H1 locs ht hvm hw hB hz1 hk1 hS => ?_)
            have hP := pu_keep hP hk1
            clear hk1 hz1 ht hvm
            generalize H1 = H at hP hS ⊢
            obtain ⟨u_109, hu_109, rfl, iu_109⟩ := hw
            replace hsp := hsp.trans (slet_eq iu_109)
            refine lv_iconst (v := 3) hx hb dX9_from_74 (by decide) ?_
            refine lv_icmp_lt (tgt := 89) hx hb dX9_from_75 (by decide) (fun c_110 => ?_) (fun c_110 => ?_)
            · have c_110 : u_109 < 3 := (nI_ltI (a := u_109) (b := 3) (Nat.lt_of_le_of_lt hu_109 (Nat.le_of_ble_eq_true rfl)) (Nat.le_of_ble_eq_true rfl)).mp c_110
              replace hsp := hsp.trans (if_pos c_110)
              refine lv_iconst (v := 1) hx hb dX9_from_89 (by decide) ?_
              refine lv_goto (tgt := 94) hx hb dX9_from_90 (by decide) ?_
              refine lv_istore (lv' := [(6, .int 1), (0, .ref (ad 0)), (1, .int (nI n_2)), (2, .int (nI n_104)), (3, .int p2), (4, .int p3), (5, .int (nI n_4))]) hx hb dX9_from_94 hl (by decide) rfl (fun ls hl => ?_)
              refine lv_iload hx hb dX9_from_96 (lv_at hl 0 rfl) ?_
              refine lv_if_ne (tgt := 103) hx hb dX9_from_98 (by decide) (fun _ => ?_) (fun z => absurd z (by decide))
              refine lv_aload_n hx hb dX9_from_103 rfl (lv_at hl 1 rfl) ?_
              refine lv_aload_n hx hb dX9_from_104 rfl (lv_at hl 1 rfl) ?_
              refine va_calli (va_runV (As := []) (rest := [.ref (ad 0)]) ⟨hx, hb, hml, hown, hts⟩ (c_EM_clocks l dC dI _ ad ck 0 x16 x18 x19 x20 x21 x22 x23 x24 x25 x26 x27 x28 x29 x30 x33 x45 x46 x52 x53 x61 x62 x63 x65 x66 f1 f2 f3 q4 q5 q6 q7 f8 q9 q10 f11 m12_0 m12_1 m13_0 m13_1 m14_0 m14_1 m15_0 m15_1 f17 q31 f32 f34 f35 f36 f37 q38 f39 f40 f41 m42_0 m42_1 f43 f44 f47 f48 f49 f50 f51 q54 q55 q56 f57 q58 f59 f60 f64 hx16 hx18 hx19 hx21 hx22 hx26 hx28 hx29 hx30 hx33 hx46 hx52 hx53 hx61 hx62 hx63 hx65 hm12_0 hm12_1 hm13_0 hm13_1 hm14_0 hm14_1 hm15_0 hm15_1 hm42_0 hm42_1) (cwV 0 hts g_EM_from_EM_clocks rfl rfl rfl (by decide +kernel) ⟨Nat.le_of_ble_eq_true rfl, Nat.le_of_ble_eq_true rfl⟩) ⟨pu_bl, va_recv hK hP (ci := 9) (q0 := 0) rfl rfl, pu_in hP hK hD⟩ rfl rfl hl.1 rfl (lv_room (Nat.le_of_ble_eq_true rfl)) dX9_from_105 ⟨Nat.le_of_ble_eq_true rfl, Nat.le_of_ble_eq_true rfl⟩) hS (fun q _ h => pu_fr hS hA q h) (pu_fr hS hA) (fun r_111 u t H1 locs ht hvm hw hB hz1 hk1 hS => ?_)
              have hP := pu_keep hP hk1
              clear hk1 hz1 ht hvm
              generalize H1 = H at hP hS ⊢
              obtain ⟨u_112, hu_112, rfl, iu_112⟩ := hw
              replace hsp := hsp.trans (slet_eq iu_112)
              refine lv_iconst (v := 1) hx hb dX9_from_108 (by decide) ?_
              refine lv_iadd hx hb dX9_from_109 ?_
              refine lv_topi (fun y_113 ey_113 => ?_)
              obtain rfl : y_113 = (nI (u_112 + 1)) := ey_113.trans (nI_add u_112 1)
              refine va_put (D := (dC, dI)) (ci := 9) (v := .int (nI (u_112 + 1))) (ty := .int) (C := RX9) (T := TX9) (N := 67) hx hb hts hiX9 tyX9 tyX9_ok nmX9 hown hK hP hD hS 0 rfl rfl 46 (by decide) v_11 (fun _ h9 => h9) rfl (by decide +kernel) rfl rfl (Nat.le_of_ble_eq_true rfl) dX9_from_110 (fun H locs hP hD hS => ?_)
              have hP : va_P (dC, dI) vwCl (mo_w ad ck 0 (nI x16) (nI x18) (nI x19) x20 (nI x21) (nI x22) x23 x24 x25 (nI x26) x27 (nI x28) (nI x29) (nI x30) (nI x33) x45 (nI (u_112 + 1)) (nI x52) (nI x53) (nI x61) (nI x62) (nI x63) (nI x65) x66 f1 f2 f3 (bN 3 q4) (bN 7 q5) (bN 7 q6) (bN 4 q7) f8 (bN 2 q9) (bH q10) f11 (b2 m12_0 m12_1) (b2 m13_0 m13_1) (b2 m14_0 m14_1) (b2m m15_0 m15_1) f17 (bA 159 q31) f32 f34 f35 f36 f37 (bN 7 q38) f39 f40 f41 (b2 m42_0 m42_1) f43 f44 f47 f48 f49 f50 f51 (bN 13 q54) (bN 120 q55) (bN 120 q56) f57 (bN 120 q58) f59 f60 f64) H := hP
              have hD : va_D A (mo_w ad ck 0 (nI x16) (nI x18) (nI x19) x20 (nI x21) (nI x22) x23 x24 x25 (nI x26) x27 (nI x28) (nI x29) (nI x30) (nI x33) x45 (nI (u_112 + 1)) (nI x52) (nI x53) (nI x61) (nI x62) (nI x63) (nI x65) x66 f1 f2 f3 (bN 3 q4) (bN 7 q5) (bN 7 q6) (bN 4 q7) f8 (bN 2 q9) (bH q10) f11 (b2 m12_0 m12_1) (b2 m13_0 m13_1) (b2 m14_0 m14_1) (b2m m15_0 m15_1) f17 (bA 159 q31) f32 f34 f35 f36 f37 (bN 7 q38) f39 f40 f41 (b2 m42_0 m42_1) f43 f44 f47 f48 f49 f50 f51 (bN 13 q54) (bN 120 q55) (bN 120 q56) f57 (bN 120 q58) f59 f60 f64) := hD
              refine lv_aload_n hx hb dX9_from_113 rfl (lv_at hl 1 rfl) ?_
              refine lv_iload_n hx hb dX9_from_114 rfl (lv_at hl 3 rfl) ?_
              refine lv_iload_n hx hb dX9_from_115 rfl (lv_at hl 4 rfl) ?_
              refine lv_iload hx hb dX9_from_116 (lv_at hl 5 rfl) ?_
              have hFc := pu_free hD hS hA
              refine va_callv (va_runV (As := [.int (nI n_104), .int p2, .int p3]) (rest := []) ⟨hx, hb, hml, hown, hts⟩ (c_EM_layPoint l dC dI _ ad ck 0 x16 x18 x19 x20 x21 x22 x23 x24 x25 x26 x27 x28 x29 x30 x33 x45 (u_112 + 1) x52 x53 x61 x62 x63 x65 x66 f1 f2 f3 q4 q5 q6 q7 f8 q9 q10 f11 m12_0 m12_1 m13_0 m13_1 m14_0 m14_1 m15_0 m15_1 f17 q31 f32 f34 f35 f36 f37 q38 f39 f40 f41 m42_0 m42_1 f43 f44 f47 f48 f49 f50 f51 q54 q55 q56 f57 q58 f59 f60 f64 (nI n_104) p2 p3 hx16 hx18 hx19 hx21 hx22 hx26 hx28 hx29 hx30 hx33 (by omega) hx52 hx53 hx61 hx62 hx63 hx65 hm12_0 hm12_1 hm13_0 hm13_1 hm14_0 hm14_1 hm15_0 hm15_1 hm42_0 hm42_1) (cwV 3 hts g_EM_from_EM_layPoint rfl rfl rfl (by decide +kernel) ⟨Nat.le_of_ble_eq_true rfl, Nat.le_of_ble_eq_true rfl⟩) ⟨pu_bl, va_recv hK hP (ci := 9) (q0 := 0) rfl rfl, pu_in hP hK hD⟩ rfl rfl hl.1 rfl (lv_room (Nat.le_of_ble_eq_true rfl)) dX9_from_118 ⟨Nat.le_of_ble_eq_true rfl, Nat.le_of_ble_eq_true rfl⟩) hS (fun q _ h => hFc q h) hFc (fun u t H1 locs ht hvm hw hB hz1 hk1 hS => ?_)
              obtain ⟨z35_115, ⟨hP1, -, hD1⟩, xr_114_0⟩ := hB
              rw [ht] at hP1
              have hP := hP1
              have hD := pu_all hFc hD1
              clear hP1 hD1 hFc
              clear hk1 hz1 ht hvm
              generalize H1 = H at hP hS ⊢
              replace hsp := hsp.trans (slet_eq xr_114_0)
              refine lv_aload_n hx hb dX9_from_121 rfl (lv_at hl 1 rfl) ?_
              refine lv_iconst (v := 1) hx hb dX9_from_122 (by decide) ?_
              refine lv_iload_n hx hb dX9_from_123 rfl (lv_at hl 2 rfl) ?_
              refine lv_iconst (v := 2) hx hb dX9_from_124 (by decide) ?_
              refine lv_iconst (v := 1) hx hb dX9_from_125 (by decide) ?_
              refine lv_bipush (v := 120) hx hb dX9_from_126 (by decide) ?_
              refine lv_iconst (v := (-1)) hx hb dX9_from_128 (by decide) ?_
              have hFc := pu_free hD hS hA
              refine va_callv (va_runV (As := [.int 1, .int (nI n_2), .int 2, .int 1, .int 120, .int (-1)]) (rest := []) ⟨hx, hb, hml, hown, hts⟩ (c_EM_explores_1_120 l dC dI _ ad ck 0 x16 x18 x19 x20 x21 x22 x23 x24 x25 x26 x27 x28 x29 x30 x33 x45 (u_112 + 1) x52 x53 x61 x62 x63 x65 x66 f1 f2 f3 q4 q5 q6 q7 f8 q9 q10 f11 m12_0 m12_1 m13_0 m13_1 m14_0 m14_1 m15_0 m15_1 f17 q31 f32 f34 z35_115 f36 f37 q38 f39 f40 f41 m42_0 m42_1 f43 f44 f47 f48 f49 f50 f51 q54 q55 q56 f57 q58 f59 f60 f64 n_2 2 1 (-1) hx16 hx18 hx19 hx21 hx22 hx26 hx28 hx29 hx30 hx33 (by omega) hx52 hx53 hx61 hx62 hx63 hx65 hm12_0 hm12_1 hm13_0 hm13_1 hm14_0 hm14_1 hm15_0 hm15_1 hm42_0 hm42_1 (by omega) (Nat.le_of_ble_eq_true rfl) (by first | assumption | exact gz_0)) (cwV 6 hts g_EM_from_EM_explores_1_120 rfl rfl rfl (by decide +kernel) ⟨Nat.le_of_ble_eq_true rfl, Nat.le_of_ble_eq_true rfl⟩) ⟨pu_bl, va_recv hK hP (ci := 9) (q0 := 0) rfl rfl, pu_in hP hK hD⟩ rfl rfl hl.1 rfl (lv_room (Nat.le_of_ble_eq_true rfl)) dX9_from_129 ⟨Nat.le_of_ble_eq_true rfl, Nat.le_of_ble_eq_true rfl⟩) hS (fun q _ h => hFc q h) hFc (fun u t H1 locs ht hvm hw hB hz1 hk1 hS => ?_)
              obtain ⟨z34_117, z35_118, z38_119, z39_120, z40_121, z41_122, z43_123, z44_124, z47_125, z48_126, z42_1_127, ⟨hP1, -, hD1⟩, hz42_1_127, xr_116_0, xr_116_1⟩ := hB
              rw [ht] at hP1
              have hP := hP1
              have hD := pu_all hFc hD1
              clear hP1 hD1 hFc
              clear hk1 hz1 ht hvm
              generalize H1 = H at hP hS ⊢
              replace hsp := hsp.trans (slet_eq xr_116_1)
              refine lv_aload_n hx hb dX9_from_132 rfl (lv_at hl 1 rfl) ?_
              refine lv_iconst (v := 1) hx hb dX9_from_133 (by decide) ?_
              refine lv_iload hx hb dX9_from_134 (lv_at hl 6 rfl) ?_
              refine va_calli (va_runV (As := [.int 1, .int (nI n_4)]) (rest := []) ⟨hx, hb, hml, hown, hts⟩ (c_EM_hasPlace_1 l dC dI _ ad ck 0 x16 x18 x19 x20 x21 x22 x23 x24 x25 x26 x27 x28 x29 x30 x33 x45 (u_112 + 1) x52 x53 x61 x62 x63 x65 x66 f1 f2 f3 q4 q5 q6 q7 f8 q9 q10 f11 m12_0 m12_1 m13_0 m13_1 m14_0 m14_1 m15_0 m15_1 f17 q31 f32 z34_117 z35_118 f36 f37 z38_119 z39_120 z40_121 z41_122 m42_0 z42_1_127 z43_123 z44_124 z47_125 z48_126 f49 f50 f51 q54 q55 q56 f57 q58 f59 f60 f64 (nI n_4) hx16 hx18 hx19 hx21 hx22 hx26 hx28 hx29 hx30 hx33 (by omega) hx52 hx53 hx61 hx62 hx63 hx65 hm12_0 hm12_1 hm13_0 hm13_1 hm14_0 hm14_1 hm15_0 hm15_1 hm42_0 (Nat.le_trans hz42_1_127 (Nat.le_of_ble_eq_true rfl))) (cwV 2 hts g_EM_from_EM_hasPlace_1 rfl rfl rfl (by decide +kernel) ⟨Nat.le_of_ble_eq_true rfl, Nat.le_of_ble_eq_true rfl⟩) ⟨pu_bl, va_recv hK hP (ci := 9) (q0 := 0) rfl rfl, pu_in hP hK hD⟩ rfl rfl hl.1 rfl (lv_room (Nat.le_of_ble_eq_true rfl)) dX9_from_136 ⟨Nat.le_of_ble_eq_true rfl, Nat.le_of_ble_eq_true rfl⟩) hS (fun q _ h => pu_fr hS hA q h) (pu_fr hS hA) (fun r_128 u t H1 locs ht hvm hw hB hz1 hk1 hS => ?_)
              have hP := pu_keep hP hk1
              clear hk1 hz1 ht hvm
              generalize H1 = H at hP hS ⊢
              obtain ⟨u_129, hu_129, rfl, iu_129⟩ := hw
              replace hsp := hsp.trans (slet_eq iu_129)
              refine lv_if_eq (tgt := 146) hx hb dX9_from_139 (by decide) (fun c_130 => ?_) (fun c_130 => ?_)
              · have c_130 : u_129 = 0 := (nI_eq (a := u_129) (b := 0) (Nat.lt_of_le_of_lt hu_129 (Nat.le_of_ble_eq_true rfl)) (Nat.le_of_ble_eq_true rfl)).mp c_130
                replace hsp := hsp.trans (if_pos c_130)
                refine lv_iconst (v := 0) hx hb dX9_from_146 (by decide) ?_
                exact W.iret (v := 0) hx hb hr (fun t ht hW => ⟨⟨0, (), rfl, (congrArg Prod.fst (hsp.symm.trans hRR)), ⟨z34_117, z35_118, z38_119, z39_120, z40_121, z41_122, z43_123, z44_124, z47_125, z48_126, z42_1_127, 0, (u_112 + 1), ⟨by rw [ht]; exact hP, va_K.moved hW.alike hK, hD⟩, (Nat.le_trans hz42_1_127 (Nat.le_of_ble_eq_true rfl)), (by omega), by first | assumption | exact gz_0, (congrArg Prod.snd (hsp.symm.trans hRR))⟩⟩, hS.F ht⟩) hS.2.2 dX9_from_147
              · have c_130 : ¬ u_129 = 0 := fun z => c_130 ((nI_eq (a := u_129) (b := 0) (Nat.lt_of_le_of_lt hu_129 (Nat.le_of_ble_eq_true rfl)) (Nat.le_of_ble_eq_true rfl)).mpr z)
                replace hsp := hsp.trans (if_neg c_130)
                refine lv_iconst (v := 1) hx hb dX9_from_142 (by decide) ?_
                refine lv_goto (tgt := 147) hx hb dX9_from_143 (by decide) ?_
                exact W.iret (v := 1) hx hb hr (fun t ht hW => ⟨⟨1, (), rfl, (congrArg Prod.fst (hsp.symm.trans hRR)), ⟨z34_117, z35_118, z38_119, z39_120, z40_121, z41_122, z43_123, z44_124, z47_125, z48_126, z42_1_127, 0, (u_112 + 1), ⟨by rw [ht]; exact hP, va_K.moved hW.alike hK, hD⟩, (Nat.le_trans hz42_1_127 (Nat.le_of_ble_eq_true rfl)), (by omega), by first | assumption | exact gz_0, (congrArg Prod.snd (hsp.symm.trans hRR))⟩⟩, hS.F ht⟩) hS.2.2 dX9_from_147
            · have c_110 : ¬ u_109 < 3 := fun z => c_110 ((nI_ltI (a := u_109) (b := 3) (Nat.lt_of_le_of_lt hu_109 (Nat.le_of_ble_eq_true rfl)) (Nat.le_of_ble_eq_true rfl)).mpr z)
              replace hsp := hsp.trans (if_neg c_110)
              refine lv_iload hx hb dX9_from_78 (lv_at hl 5 rfl) ?_
              refine lv_iconst (v := 0) hx hb dX9_from_80 (by decide) ?_
              refine lv_bipush (v := 60) hx hb dX9_from_81 (by decide) ?_
              refine va_calli (va_runS (As := [.int p3, .int 0, .int 60]) (rest := []) ⟨hx, hb, hml, hown, hts⟩ (c_X9_in l dC dI _ p3 0 60) (va_cwS 3 hts g_EM_from_X9_in rfl rfl rfl (by decide +kernel) ⟨Nat.le_of_ble_eq_true rfl, Nat.le_of_ble_eq_true rfl⟩) ⟨pu_bl, pu_in (hP.sub [] rfl) (hK.sub [] rfl) (hD.sub [] (by decide) rfl)⟩ rfl rfl hl.1 rfl (lv_room (Nat.le_of_ble_eq_true rfl)) dX9_from_83 ⟨Nat.le_of_ble_eq_true rfl, Nat.le_of_ble_eq_true rfl⟩) hS (fun q _ h => pu_fr hS hA q h) (pu_fr hS hA) (fun r_131 u t H1 locs ht hvm hw hB hz1 hk1 hS => ?_)
              have hP := pu_keep hP hk1
              clear hk1 hz1 ht hvm
              generalize H1 = H at hP hS ⊢
              rcases hw with ⟨rfl, hi1, hi2⟩ | ⟨rfl, hi3⟩
              · replace hsp := hsp.trans (if_pos ⟨hi1, hi2⟩)
                obtain ⟨n_132, hn_132, rfl⟩ := pu_in0 (n := 60) (by omega) hi1 hi2
                replace hsp := hsp.trans (slet_eq (nI_cl (n := n_132) (by omega)))
                refine lv_if_eq (tgt := 93) hx hb dX9_from_86 (by decide) (fun z => absurd z (by decide)) (fun _ => ?_)
                refine lv_iconst (v := 1) hx hb dX9_from_89 (by decide) ?_
                refine lv_goto (tgt := 94) hx hb dX9_from_90 (by decide) ?_
                refine lv_istore (lv' := [(6, .int 1), (0, .ref (ad 0)), (1, .int (nI n_2)), (2, .int (nI n_104)), (3, .int p2), (4, .int (nI n_132)), (5, .int (nI n_4))]) hx hb dX9_from_94 hl (by decide) rfl (fun ls hl => ?_)
                refine lv_iload hx hb dX9_from_96 (lv_at hl 0 rfl) ?_
                refine lv_if_ne (tgt := 103) hx hb dX9_from_98 (by decide) (fun _ => ?_) (fun z => absurd z (by decide))
                refine lv_aload_n hx hb dX9_from_103 rfl (lv_at hl 1 rfl) ?_
                refine lv_aload_n hx hb dX9_from_104 rfl (lv_at hl 1 rfl) ?_
                refine va_calli (va_runV (As := []) (rest := [.ref (ad 0)]) ⟨hx, hb, hml, hown, hts⟩ (c_EM_clocks l dC dI _ ad ck 0 x16 x18 x19 x20 x21 x22 x23 x24 x25 x26 x27 x28 x29 x30 x33 x45 x46 x52 x53 x61 x62 x63 x65 x66 f1 f2 f3 q4 q5 q6 q7 f8 q9 q10 f11 m12_0 m12_1 m13_0 m13_1 m14_0 m14_1 m15_0 m15_1 f17 q31 f32 f34 f35 f36 f37 q38 f39 f40 f41 m42_0 m42_1 f43 f44 f47 f48 f49 f50 f51 q54 q55 q56 f57 q58 f59 f60 f64 hx16 hx18 hx19 hx21 hx22 hx26 hx28 hx29 hx30 hx33 hx46 hx52 hx53 hx61 hx62 hx63 hx65 hm12_0 hm12_1 hm13_0 hm13_1 hm14_0 hm14_1 hm15_0 hm15_1 hm42_0 hm42_1) (cwV 0 hts g_EM_from_EM_clocks rfl rfl rfl (by decide +kernel) ⟨Nat.le_of_ble_eq_true rfl, Nat.le_of_ble_eq_true rfl⟩) ⟨pu_bl, va_recv hK hP (ci := 9) (q0 := 0) rfl rfl, pu_in hP hK hD⟩ rfl rfl hl.1 rfl (lv_room (Nat.le_of_ble_eq_true rfl)) dX9_from_105 ⟨Nat.le_of_ble_eq_true rfl, Nat.le_of_ble_eq_true rfl⟩) hS (fun q _ h => pu_fr hS hA q h) (pu_fr hS hA) (fun r_133 u t H1 locs ht hvm hw hB hz1 hk1 hS => ?_)
                have hP := pu_keep hP hk1
                clear hk1 hz1 ht hvm
                generalize H1 = H at hP hS ⊢
                obtain ⟨u_134, hu_134, rfl, iu_134⟩ := hw
                replace hsp := hsp.trans (slet_eq iu_134)
                refine lv_iconst (v := 1) hx hb dX9_from_108 (by decide) ?_
                refine lv_iadd hx hb dX9_from_109 ?_
                refine lv_topi (fun y_135 ey_135 => ?_)
                obtain rfl : y_135 = (nI (u_134 + 1)) := ey_135.trans (nI_add u_134 1)
                refine va_put (D := (dC, dI)) (ci := 9) (v := .int (nI (u_134 + 1))) (ty := .int) (C := RX9) (T := TX9) (N := 67) hx hb hts hiX9 tyX9 tyX9_ok nmX9 hown hK hP hD hS 0 rfl rfl 46 (by decide) v_11 (fun _ h9 => h9) rfl (by decide +kernel) rfl rfl (Nat.le_of_ble_eq_true rfl) dX9_from_110 (fun H locs hP hD hS => ?_)
                have hP : va_P (dC, dI) vwCl (mo_w ad ck 0 (nI x16) (nI x18) (nI x19) x20 (nI x21) (nI x22) x23 x24 x25 (nI x26) x27 (nI x28) (nI x29) (nI x30) (nI x33) x45 (nI (u_134 + 1)) (nI x52) (nI x53) (nI x61) (nI x62) (nI x63) (nI x65) x66 f1 f2 f3 (bN 3 q4) (bN 7 q5) (bN 7 q6) (bN 4 q7) f8 (bN 2 q9) (bH q10) f11 (b2 m12_0 m12_1) (b2 m13_0 m13_1) (b2 m14_0 m14_1) (b2m m15_0 m15_1) f17 (bA 159 q31) f32 f34 f35 f36 f37 (bN 7 q38) f39 f40 f41 (b2 m42_0 m42_1) f43 f44 f47 f48 f49 f50 f51 (bN 13 q54) (bN 120 q55) (bN 120 q56) f57 (bN 120 q58) f59 f60 f64) H := hP
                have hD : va_D A (mo_w ad ck 0 (nI x16) (nI x18) (nI x19) x20 (nI x21) (nI x22) x23 x24 x25 (nI x26) x27 (nI x28) (nI x29) (nI x30) (nI x33) x45 (nI (u_134 + 1)) (nI x52) (nI x53) (nI x61) (nI x62) (nI x63) (nI x65) x66 f1 f2 f3 (bN 3 q4) (bN 7 q5) (bN 7 q6) (bN 4 q7) f8 (bN 2 q9) (bH q10) f11 (b2 m12_0 m12_1) (b2 m13_0 m13_1) (b2 m14_0 m14_1) (b2m m15_0 m15_1) f17 (bA 159 q31) f32 f34 f35 f36 f37 (bN 7 q38) f39 f40 f41 (b2 m42_0 m42_1) f43 f44 f47 f48 f49 f50 f51 (bN 13 q54) (bN 120 q55) (bN 120 q56) f57 (bN 120 q58) f59 f60 f64) := hD
                refine lv_aload_n hx hb dX9_from_113 rfl (lv_at hl 1 rfl) ?_
                refine lv_iload_n hx hb dX9_from_114 rfl (lv_at hl 3 rfl) ?_
                refine lv_iload_n hx hb dX9_from_115 rfl (lv_at hl 4 rfl) ?_
                refine lv_iload hx hb dX9_from_116 (lv_at hl 5 rfl) ?_
                have hFc := pu_free hD hS hA
                refine va_callv (va_runV (As := [.int (nI n_104), .int p2, .int (nI n_132)]) (rest := []) ⟨hx, hb, hml, hown, hts⟩ (c_EM_layPoint l dC dI _ ad ck 0 x16 x18 x19 x20 x21 x22 x23 x24 x25 x26 x27 x28 x29 x30 x33 x45 (u_134 + 1) x52 x53 x61 x62 x63 x65 x66 f1 f2 f3 q4 q5 q6 q7 f8 q9 q10 f11 m12_0 m12_1 m13_0 m13_1 m14_0 m14_1 m15_0 m15_1 f17 q31 f32 f34 f35 f36 f37 q38 f39 f40 f41 m42_0 m42_1 f43 f44 f47 f48 f49 f50 f51 q54 q55 q56 f57 q58 f59 f60 f64 (nI n_104) p2 (nI n_132) hx16 hx18 hx19 hx21 hx22 hx26 hx28 hx29 hx30 hx33 (by omega) hx52 hx53 hx61 hx62 hx63 hx65 hm12_0 hm12_1 hm13_0 hm13_1 hm14_0 hm14_1 hm15_0 hm15_1 hm42_0 hm42_1) (cwV 3 hts g_EM_from_EM_layPoint rfl rfl rfl (by decide +kernel) ⟨Nat.le_of_ble_eq_true rfl, Nat.le_of_ble_eq_true rfl⟩) ⟨pu_bl, va_recv hK hP (ci := 9) (q0 := 0) rfl rfl, pu_in hP hK hD⟩ rfl rfl hl.1 rfl (lv_room (Nat.le_of_ble_eq_true rfl)) dX9_from_118 ⟨Nat.le_of_ble_eq_true rfl, Nat.le_of_ble_eq_true rfl⟩) hS (fun q _ h => hFc q h) hFc (fun u t H1 locs ht hvm hw hB hz1 hk1 hS => ?_)
                obtain ⟨z35_137, ⟨hP1, -, hD1⟩, xr_136_0⟩ := hB
                rw [ht] at hP1
                have hP := hP1
                have hD := pu_all hFc hD1
                clear hP1 hD1 hFc
                clear hk1 hz1 ht hvm
                generalize H1 = H at hP hS ⊢
                replace hsp := hsp.trans (slet_eq xr_136_0)
                refine lv_aload_n hx hb dX9_from_121 rfl (lv_at hl 1 rfl) ?_
                refine lv_iconst (v := 1) hx hb dX9_from_122 (by decide) ?_
                refine lv_iload_n hx hb dX9_from_123 rfl (lv_at hl 2 rfl) ?_
                refine lv_iconst (v := 2) hx hb dX9_from_124 (by decide) ?_
                refine lv_iconst (v := 1) hx hb dX9_from_125 (by decide) ?_
                refine lv_bipush (v := 120) hx hb dX9_from_126 (by decide) ?_
                refine lv_iconst (v := (-1)) hx hb dX9_from_128 (by decide) ?_
                have hFc := pu_free hD hS hA
                refine va_callv (va_runV (As := [.int 1, .int (nI n_2), .int 2, .int 1, .int 120, .int (-1)]) (rest := []) ⟨hx, hb, hml, hown, hts⟩ (c_EM_explores_1_120 l dC dI _ ad ck 0 x16 x18 x19 x20 x21 x22 x23 x24 x25 x26 x27 x28 x29 x30 x33 x45 (u_134 + 1) x52 x53 x61 x62 x63 x65 x66 f1 f2 f3 q4 q5 q6 q7 f8 q9 q10 f11 m12_0 m12_1 m13_0 m13_1 m14_0 m14_1 m15_0 m15_1 f17 q31 f32 f34 z35_137 f36 f37 q38 f39 f40 f41 m42_0 m42_1 f43 f44 f47 f48 f49 f50 f51 q54 q55 q56 f57 q58 f59 f60 f64 n_2 2 1 (-1) hx16 hx18 hx19 hx21 hx22 hx26 hx28 hx29 hx30 hx33 (by omega) hx52 hx53 hx61 hx62 hx63 hx65 hm12_0 hm12_1 hm13_0 hm13_1 hm14_0 hm14_1 hm15_0 hm15_1 hm42_0 hm42_1 (by omega) (Nat.le_of_ble_eq_true rfl) (by first | assumption | exact gz_0)) (cwV 6 hts g_EM_from_EM_explores_1_120 rfl rfl rfl (by decide +kernel) ⟨Nat.le_of_ble_eq_true rfl, Nat.le_of_ble_eq_true rfl⟩) ⟨pu_bl, va_recv hK hP (ci := 9) (q0 := 0) rfl rfl, pu_in hP hK hD⟩ rfl rfl hl.1 rfl (lv_room (Nat.le_of_ble_eq_true rfl)) dX9_from_129 ⟨Nat.le_of_ble_eq_true rfl, Nat.le_of_ble_eq_true rfl⟩) hS (fun q _ h => hFc q h) hFc (fun u t H1 locs ht hvm hw hB hz1 hk1 hS => ?_)
                obtain ⟨z34_139, z35_140, z38_141, z39_142, z40_143, z41_144, z43_145, z44_146, z47_147, z48_148, z42_1_149, ⟨hP1, -, hD1⟩, hz42_1_149, xr_138_0, xr_138_1⟩ := hB
                rw [ht] at hP1
                have hP := hP1
                have hD := pu_all hFc hD1
                clear hP1 hD1 hFc
                clear hk1 hz1 ht hvm
                generalize H1 = H at hP hS ⊢
                replace hsp := hsp.trans (slet_eq xr_138_1)
                refine lv_aload_n hx hb dX9_from_132 rfl (lv_at hl 1 rfl) ?_
                refine lv_iconst (v := 1) hx hb dX9_from_133 (by decide) ?_
                refine lv_iload hx hb dX9_from_134 (lv_at hl 6 rfl) ?_
                refine va_calli (va_runV (As := [.int 1, .int (nI n_4)]) (rest := []) ⟨hx, hb, hml, hown, hts⟩ (c_EM_hasPlace_1 l dC dI _ ad ck 0 x16 x18 x19 x20 x21 x22 x23 x24 x25 x26 x27 x28 x29 x30 x33 x45 (u_134 + 1) x52 x53 x61 x62 x63 x65 x66 f1 f2 f3 q4 q5 q6 q7 f8 q9 q10 f11 m12_0 m12_1 m13_0 m13_1 m14_0 m14_1 m15_0 m15_1 f17 q31 f32 z34_139 z35_140 f36 f37 z38_141 z39_142 z40_143 z41_144 m42_0 z42_1_149 z43_145 z44_146 z47_147 z48_148 f49 f50 f51 q54 q55 q56 f57 q58 f59 f60 f64 (nI n_4) hx16 hx18 hx19 hx21 hx22 hx26 hx28 hx29 hx30 hx33 (by omega) hx52 hx53 hx61 hx62 hx63 hx65 hm12_0 hm12_1 hm13_0 hm13_1 hm14_0 hm14_1 hm15_0 hm15_1 hm42_0 (Nat.le_trans hz42_1_149 (Nat.le_of_ble_eq_true rfl))) (cwV 2 hts g_EM_from_EM_hasPlace_1 rfl rfl rfl (by decide +kernel) ⟨Nat.le_of_ble_eq_true rfl, Nat.le_of_ble_eq_true rfl⟩) ⟨pu_bl, va_recv hK hP (ci := 9) (q0 := 0) rfl rfl, pu_in hP hK hD⟩ rfl rfl hl.1 rfl (lv_room (Nat.le_of_ble_eq_true rfl)) dX9_from_136 ⟨Nat.le_of_ble_eq_true rfl, Nat.le_of_ble_eq_true rfl⟩) hS (fun q _ h => pu_fr hS hA q h) (pu_fr hS hA) (fun r_150 u t H1 locs ht hvm hw hB hz1 hk1 hS => ?_)
                have hP := pu_keep hP hk1
                clear hk1 hz1 ht hvm
                generalize H1 = H at hP hS ⊢
                obtain ⟨u_151, hu_151, rfl, iu_151⟩ := hw
                replace hsp := hsp.trans (slet_eq iu_151)
                refine lv_if_eq (tgt := 146) hx hb dX9_from_139 (by decide) (fun c_152 => ?_) (fun c_152 => ?_)
                · have c_152 : u_151 = 0 := (nI_eq (a := u_151) (b := 0) (Nat.lt_of_le_of_lt hu_151 (Nat.le_of_ble_eq_true rfl)) (Nat.le_of_ble_eq_true rfl)).mp c_152
                  replace hsp := hsp.trans (if_pos c_152)
                  refine lv_iconst (v := 0) hx hb dX9_from_146 (by decide) ?_
                  exact W.iret (v := 0) hx hb hr (fun t ht hW => ⟨⟨0, (), rfl, (congrArg Prod.fst (hsp.symm.trans hRR)), ⟨z34_139, z35_140, z38_141, z39_142, z40_143, z41_144, z43_145, z44_146, z47_147, z48_148, z42_1_149, 0, (u_134 + 1), ⟨by rw [ht]; exact hP, va_K.moved hW.alike hK, hD⟩, (Nat.le_trans hz42_1_149 (Nat.le_of_ble_eq_true rfl)), (by omega), by first | assumption | exact gz_0, (congrArg Prod.snd (hsp.symm.trans hRR))⟩⟩, hS.F ht⟩) hS.2.2 dX9_from_147
                · have c_152 : ¬ u_151 = 0 := fun z => c_152 ((nI_eq (a := u_151) (b := 0) (Nat.lt_of_le_of_lt hu_151 (Nat.le_of_ble_eq_true rfl)) (Nat.le_of_ble_eq_true rfl)).mpr z)
                  replace hsp := hsp.trans (if_neg c_152)
                  refine lv_iconst (v := 1) hx hb dX9_from_142 (by decide) ?_
                  refine lv_goto (tgt := 147) hx hb dX9_from_143 (by decide) ?_
                  exact W.iret (v := 1) hx hb hr (fun t ht hW => ⟨⟨1, (), rfl, (congrArg Prod.fst (hsp.symm.trans hRR)), ⟨z34_139, z35_140, z38_141, z39_142, z40_143, z41_144, z43_145, z44_146, z47_147, z48_148, z42_1_149, 0, (u_134 + 1), ⟨by rw [ht]; exact hP, va_K.moved hW.alike hK, hD⟩, (Nat.le_trans hz42_1_149 (Nat.le_of_ble_eq_true rfl)), (by omega), by first | assumption | exact gz_0, (congrArg Prod.snd (hsp.symm.trans hRR))⟩⟩, hS.F ht⟩) hS.2.2 dX9_from_147
              · replace hsp := hsp.trans (if_neg hi3)
                refine lv_if_eq (tgt := 93) hx hb dX9_from_86 (by decide) (fun _ => ?_) (fun z => absurd z (by decide))
                refine lv_iconst (v := 0) hx hb dX9_from_93 (by decide) ?_
                refine lv_istore (lv' := [(6, .int 0), (0, .ref (ad 0)), (1, .int (nI n_2)), (2, .int (nI n_104)), (3, .int p2), (4, .int p3), (5, .int (nI n_4))]) hx hb dX9_from_94 hl (by decide) rfl (fun ls hl => ?_)
                refine lv_iload hx hb dX9_from_96 (lv_at hl 0 rfl) ?_
                refine lv_if_ne (tgt := 103) hx hb dX9_from_98 (by decide) (fun z => absurd z (by decide)) (fun _ => ?_)
                refine lv_iconst (v := (-1)) hx hb dX9_from_101 (by decide) ?_
                exact W.iret (v := (-1)) hx hb hr (fun t ht hW => ⟨⟨(-1), (), rfl, (congrArg Prod.fst (hsp.symm.trans hRR)), ⟨f34, f35, q38, f39, f40, f41, f43, f44, f47, f48, m42_1, 0, x46, ⟨by rw [ht]; exact hP, va_K.moved hW.alike hK, hD⟩, hm42_1, hx46, by first | assumption | exact gz_0, (congrArg Prod.snd (hsp.symm.trans hRR))⟩⟩, hS.F ht⟩) hS.2.2 dX9_from_102
          · have c_107 : ¬ u_106 < 2 := fun z => c_107 ((nI_ltI (a := u_106) (b := 2) (Nat.lt_of_le_of_lt hu_106 (Nat.le_of_ble_eq_true rfl)) (Nat.le_of_ble_eq_true rfl)).mpr z)
            replace hsp := hsp.trans (if_neg c_107)
            refine lv_iload_n hx hb dX9_from_60 rfl (lv_at hl 4 rfl) ?_
            refine lv_iconst (v := 0) hx hb dX9_from_61 (by decide) ?_
            refine lv_bipush (v := 60) hx hb dX9_from_62 (by decide) ?_
            refine va_calli (va_runS (As := [.int p2, .int 0, .int 60]) (rest := []) ⟨hx, hb, hml, hown, hts⟩ (c_X9_in l dC dI _ p2 0 60) (va_cwS 3 hts g_EM_from_X9_in rfl rfl rfl (by decide +kernel) ⟨Nat.le_of_ble_eq_true rfl, Nat.le_of_ble_eq_true rfl⟩) ⟨pu_bl, pu_in (hP.sub [] rfl) (hK.sub [] rfl) (hD.sub [] (by decide) rfl)⟩ rfl rfl hl.1 rfl (lv_room (Nat.le_of_ble_eq_true rfl)) dX9_from_64 ⟨Nat.le_of_ble_eq_true rfl, Nat.le_of_ble_eq_true rfl⟩) hS (fun q _ h => pu_fr hS hA q h) (pu_fr hS hA) (fun r_153 u t H1 locs ht hvm hw hB hz1 hk1 hS => ?_)
            have hP := pu_keep hP hk1
            clear hk1 hz1 ht hvm
            generalize H1 = H at hP hS ⊢
            rcases hw with ⟨rfl, hi1, hi2⟩ | ⟨rfl, hi3⟩
            · replace hsp := hsp.trans (if_pos ⟨hi1, hi2⟩)
              obtain ⟨n_154, hn_154, rfl⟩ := pu_in0 (n := 60) (by omega) hi1 hi2
              replace hsp := hsp.trans (slet_eq (nI_cl (n := n_154) (by omega)))
              refine lv_if_eq (tgt := 93) hx hb dX9_from_67 (by decide) (fun z => absurd z (by decide)) (fun _ => ?_)
              refine lv_aload_n hx hb dX9_from_70 rfl (lv_at hl 1 rfl) ?_
              refine va_calli (va_runV (As := []) (rest := []) ⟨hx, hb, hml, hown, hts⟩ (c_EM_clocks l dC dI _ ad ck 0 x16 x18 x19 x20 x21 x22 x23 x24 x25 x26 x27 x28 x29 x30 x33 x45 x46 x52 x53 x61 x62 x63 x65 x66 f1 f2 f3 q4 q5 q6 q7 f8 q9 q10 f11 m12_0 m12_1 m13_0 m13_1 m14_0 m14_1 m15_0 m15_1 f17 q31 f32 f34 f35 f36 f37 q38 f39 f40 f41 m42_0 m42_1 f43 f44 f47 f48 f49 f50 f51 q54 q55 q56 f57 q58 f59 f60 f64 hx16 hx18 hx19 hx21 hx22 hx26 hx28 hx29 hx30 hx33 hx46 hx52 hx53 hx61 hx62 hx63 hx65 hm12_0 hm12_1 hm13_0 hm13_1 hm14_0 hm14_1 hm15_0 hm15_1 hm42_0 hm42_1) (cwV 0 hts g_EM_from_EM_clocks rfl rfl rfl (by decide +kernel) ⟨Nat.le_of_ble_eq_true rfl, Nat.le_of_ble_eq_true rfl⟩) ⟨pu_bl, va_recv hK hP (ci := 9) (q0 := 0) rfl rfl, pu_in hP hK hD⟩ rfl rfl hl.1 rfl (lv_room (Nat.le_of_ble_eq_true rfl)) dX9_from_71 ⟨Nat.le_of_ble_eq_true rfl, Nat.le_of_ble_eq_true rfl⟩) hS (fun q _ h => pu_fr hS hA q h) (pu_fr hS hA) (fun r_155 u t H1 locs ht hvm hw hB hz1 hk1 hS => ?_)
              have hP := pu_keep hP hk1
              clear hk1 hz1 ht hvm
              generalize H1 = H at hP hS ⊢
              obtain ⟨u_156, hu_156, rfl, iu_156⟩ := hw
              replace hsp := hsp.trans (slet_eq iu_156)
              refine lv_iconst (v := 3) hx hb dX9_from_74 (by decide) ?_
              refine lv_icmp_lt (tgt := 89) hx hb dX9_from_75 (by decide) (fun c_157 => ?_) (fun c_157 => ?_)
              · have c_157 : u_156 < 3 := (nI_ltI (a := u_156) (b := 3) (Nat.lt_of_le_of_lt hu_156 (Nat.le_of_ble_eq_true rfl)) (Nat.le_of_ble_eq_true rfl)).mp c_157
                replace hsp := hsp.trans (if_pos c_157)
                refine lv_iconst (v := 1) hx hb dX9_from_89 (by decide) ?_
                refine lv_goto (tgt := 94) hx hb dX9_from_90 (by decide) ?_
                refine lv_istore (lv' := [(6, .int 1), (0, .ref (ad 0)), (1, .int (nI n_2)), (2, .int (nI n_104)), (3, .int (nI n_154)), (4, .int p3), (5, .int (nI n_4))]) hx hb dX9_from_94 hl (by decide) rfl (fun ls hl => ?_)
                refine lv_iload hx hb dX9_from_96 (lv_at hl 0 rfl) ?_
                refine lv_if_ne (tgt := 103) hx hb dX9_from_98 (by decide) (fun _ => ?_) (fun z => absurd z (by decide))
                refine lv_aload_n hx hb dX9_from_103 rfl (lv_at hl 1 rfl) ?_
                refine lv_aload_n hx hb dX9_from_104 rfl (lv_at hl 1 rfl) ?_
                refine va_calli (va_runV (As := []) (rest := [.ref (ad 0)]) ⟨hx, hb, hml, hown, hts⟩ (c_EM_clocks l dC dI _ ad ck 0 x16 x18 x19 x20 x21 x22 x23 x24 x25 x26 x27 x28 x29 x30 x33 x45 x46 x52 x53 x61 x62 x63 x65 x66 f1 f2 f3 q4 q5 q6 q7 f8 q9 q10 f11 m12_0 m12_1 m13_0 m13_1 m14_0 m14_1 m15_0 m15_1 f17 q31 f32 f34 f35 f36 f37 q38 f39 f40 f41 m42_0 m42_1 f43 f44 f47 f48 f49 f50 f51 q54 q55 q56 f57 q58 f59 f60 f64 hx16 hx18 hx19 hx21 hx22 hx26 hx28 hx29 hx30 hx33 hx46 hx52 hx53 hx61 hx62 hx63 hx65 hm12_0 hm12_1 hm13_0 hm13_1 hm14_0 hm14_1 hm15_0 hm15_1 hm42_0 hm42_1) (cwV 0 hts g_EM_from_EM_clocks rfl rfl rfl (by decide +kernel) ⟨Nat.le_of_ble_eq_true rfl, Nat.le_of_ble_eq_true rfl⟩) ⟨pu_bl, va_recv hK hP (ci := 9) (q0 := 0) rfl rfl, pu_in hP hK hD⟩ rfl rfl hl.1 rfl (lv_room (Nat.le_of_ble_eq_true rfl)) dX9_from_105 ⟨Nat.le_of_ble_eq_true rfl, Nat.le_of_ble_eq_true rfl⟩) hS (fun q _ h => pu_fr hS hA q h) (pu_fr hS hA) (fun r_158 u t H1 locs ht hvm hw hB hz1 hk1 hS => ?_)
                have hP := pu_keep hP hk1
                clear hk1 hz1 ht hvm
                generalize H1 = H at hP hS ⊢
                obtain ⟨u_159, hu_159, rfl, iu_159⟩ := hw
                replace hsp := hsp.trans (slet_eq iu_159)
                refine lv_iconst (v := 1) hx hb dX9_from_108 (by decide) ?_
                refine lv_iadd hx hb dX9_from_109 ?_
                refine lv_topi (fun y_160 ey_160 => ?_)
                obtain rfl : y_160 = (nI (u_159 + 1)) := ey_160.trans (nI_add u_159 1)
                refine va_put (D := (dC, dI)) (ci := 9) (v := .int (nI (u_159 + 1))) (ty := .int) (C := RX9) (T := TX9) (N := 67) hx hb hts hiX9 tyX9 tyX9_ok nmX9 hown hK hP hD hS 0 rfl rfl 46 (by decide) v_11 (fun _ h9 => h9) rfl (by decide +kernel) rfl rfl (Nat.le_of_ble_eq_true rfl) dX9_from_110 (fun H locs hP hD hS => ?_)
                have hP : va_P (dC, dI) vwCl (mo_w ad ck 0 (nI x16) (nI x18) (nI x19) x20 (nI x21) (nI x22) x23 x24 x25 (nI x26) x27 (nI x28) (nI x29) (nI x30) (nI x33) x45 (nI (u_159 + 1)) (nI x52) (nI x53) (nI x61) (nI x62) (nI x63) (nI x65) x66 f1 f2 f3 (bN 3 q4) (bN 7 q5) (bN 7 q6) (bN 4 q7) f8 (bN 2 q9) (bH q10) f11 (b2 m12_0 m12_1) (b2 m13_0 m13_1) (b2 m14_0 m14_1) (b2m m15_0 m15_1) f17 (bA 159 q31) f32 f34 f35 f36 f37 (bN 7 q38) f39 f40 f41 (b2 m42_0 m42_1) f43 f44 f47 f48 f49 f50 f51 (bN 13 q54) (bN 120 q55) (bN 120 q56) f57 (bN 120 q58) f59 f60 f64) H := hP
                have hD : va_D A (mo_w ad ck 0 (nI x16) (nI x18) (nI x19) x20 (nI x21) (nI x22) x23 x24 x25 (nI x26) x27 (nI x28) (nI x29) (nI x30) (nI x33) x45 (nI (u_159 + 1)) (nI x52) (nI x53) (nI x61) (nI x62) (nI x63) (nI x65) x66 f1 f2 f3 (bN 3 q4) (bN 7 q5) (bN 7 q6) (bN 4 q7) f8 (bN 2 q9) (bH q10) f11 (b2 m12_0 m12_1) (b2 m13_0 m13_1) (b2 m14_0 m14_1) (b2m m15_0 m15_1) f17 (bA 159 q31) f32 f34 f35 f36 f37 (bN 7 q38) f39 f40 f41 (b2 m42_0 m42_1) f43 f44 f47 f48 f49 f50 f51 (bN 13 q54) (bN 120 q55) (bN 120 q56) f57 (bN 120 q58) f59 f60 f64) := hD
                refine lv_aload_n hx hb dX9_from_113 rfl (lv_at hl 1 rfl) ?_
                refine lv_iload_n hx hb dX9_from_114 rfl (lv_at hl 3 rfl) ?_
                refine lv_iload_n hx hb dX9_from_115 rfl (lv_at hl 4 rfl) ?_
                refine lv_iload hx hb dX9_from_116 (lv_at hl 5 rfl) ?_
                have hFc := pu_free hD hS hA
                refine va_callv (va_runV (As := [.int (nI n_104), .int (nI n_154), .int p3]) (rest := []) ⟨hx, hb, hml, hown, hts⟩ (c_EM_layPoint l dC dI _ ad ck 0 x16 x18 x19 x20 x21 x22 x23 x24 x25 x26 x27 x28 x29 x30 x33 x45 (u_159 + 1) x52 x53 x61 x62 x63 x65 x66 f1 f2 f3 q4 q5 q6 q7 f8 q9 q10 f11 m12_0 m12_1 m13_0 m13_1 m14_0 m14_1 m15_0 m15_1 f17 q31 f32 f34 f35 f36 f37 q38 f39 f40 f41 m42_0 m42_1 f43 f44 f47 f48 f49 f50 f51 q54 q55 q56 f57 q58 f59 f60 f64 (nI n_104) (nI n_154) p3 hx16 hx18 hx19 hx21 hx22 hx26 hx28 hx29 hx30 hx33 (by omega) hx52 hx53 hx61 hx62 hx63 hx65 hm12_0 hm12_1 hm13_0 hm13_1 hm14_0 hm14_1 hm15_0 hm15_1 hm42_0 hm42_1) (cwV 3 hts g_EM_from_EM_layPoint rfl rfl rfl (by decide +kernel) ⟨Nat.le_of_ble_eq_true rfl, Nat.le_of_ble_eq_true rfl⟩) ⟨pu_bl, va_recv hK hP (ci := 9) (q0 := 0) rfl rfl, pu_in hP hK hD⟩ rfl rfl hl.1 rfl (lv_room (Nat.le_of_ble_eq_true rfl)) dX9_from_118 ⟨Nat.le_of_ble_eq_true rfl, Nat.le_of_ble_eq_true rfl⟩) hS (fun q _ h => hFc q h) hFc (fun u t H1 locs ht hvm hw hB hz1 hk1 hS => ?_)
                obtain ⟨z35_162, ⟨hP1, -, hD1⟩, xr_161_0⟩ := hB
                rw [ht] at hP1
                have hP := hP1
                have hD := pu_all hFc hD1
                clear hP1 hD1 hFc
                clear hk1 hz1 ht hvm
                generalize H1 = H at hP hS ⊢
                replace hsp := hsp.trans (slet_eq xr_161_0)
                refine lv_aload_n hx hb dX9_from_121 rfl (lv_at hl 1 rfl) ?_
                refine lv_iconst (v := 1) hx hb dX9_from_122 (by decide) ?_
                refine lv_iload_n hx hb dX9_from_123 rfl (lv_at hl 2 rfl) ?_
                refine lv_iconst (v := 2) hx hb dX9_from_124 (by decide) ?_
                refine lv_iconst (v := 1) hx hb dX9_from_125 (by decide) ?_
                refine lv_bipush (v := 120) hx hb dX9_from_126 (by decide) ?_
                refine lv_iconst (v := (-1)) hx hb dX9_from_128 (by decide) ?_
                have hFc := pu_free hD hS hA
                refine va_callv (va_runV (As := [.int 1, .int (nI n_2), .int 2, .int 1, .int 120, .int (-1)]) (rest := []) ⟨hx, hb, hml, hown, hts⟩ (c_EM_explores_1_120 l dC dI _ ad ck 0 x16 x18 x19 x20 x21 x22 x23 x24 x25 x26 x27 x28 x29 x30 x33 x45 (u_159 + 1) x52 x53 x61 x62 x63 x65 x66 f1 f2 f3 q4 q5 q6 q7 f8 q9 q10 f11 m12_0 m12_1 m13_0 m13_1 m14_0 m14_1 m15_0 m15_1 f17 q31 f32 f34 z35_162 f36 f37 q38 f39 f40 f41 m42_0 m42_1 f43 f44 f47 f48 f49 f50 f51 q54 q55 q56 f57 q58 f59 f60 f64 n_2 2 1 (-1) hx16 hx18 hx19 hx21 hx22 hx26 hx28 hx29 hx30 hx33 (by omega) hx52 hx53 hx61 hx62 hx63 hx65 hm12_0 hm12_1 hm13_0 hm13_1 hm14_0 hm14_1 hm15_0 hm15_1 hm42_0 hm42_1 (by omega) (Nat.le_of_ble_eq_true rfl) (by first | assumption | exact gz_0)) (cwV 6 hts g_EM_from_EM_explores_1_120 rfl rfl rfl (by decide +kernel) ⟨Nat.le_of_ble_eq_true rfl, Nat.le_of_ble_eq_true rfl⟩) ⟨pu_bl, va_recv hK hP (ci := 9) (q0 := 0) rfl rfl, pu_in hP hK hD⟩ rfl rfl hl.1 rfl (lv_room (Nat.le_of_ble_eq_true rfl)) dX9_from_129 ⟨Nat.le_of_ble_eq_true rfl, Nat.le_of_ble_eq_true rfl⟩) hS (fun q _ h => hFc q h) hFc (fun u t H1 locs ht hvm hw hB hz1 hk1 hS => ?_)
                obtain ⟨z34_164, z35_165, z38_166, z39_167, z40_168, z41_169, z43_170, z44_171, z47_172, z48_173, z42_1_174, ⟨hP1, -, hD1⟩, hz42_1_174, xr_163_0, xr_163_1⟩ := hB
                rw [ht] at hP1
                have hP := hP1
                have hD := pu_all hFc hD1
                clear hP1 hD1 hFc
                clear hk1 hz1 ht hvm
                generalize H1 = H at hP hS ⊢
                replace hsp := hsp.trans (slet_eq xr_163_1)
                refine lv_aload_n hx hb dX9_from_132 rfl (lv_at hl 1 rfl) ?_
                refine lv_iconst (v := 1) hx hb dX9_from_133 (by decide) ?_
                refine lv_iload hx hb dX9_from_134 (lv_at hl 6 rfl) ?_
                refine va_calli (va_runV (As := [.int 1, .int (nI n_4)]) (rest := []) ⟨hx, hb, hml, hown, hts⟩ (c_EM_hasPlace_1 l dC dI _ ad ck 0 x16 x18 x19 x20 x21 x22 x23 x24 x25 x26 x27 x28 x29 x30 x33 x45 (u_159 + 1) x52 x53 x61 x62 x63 x65 x66 f1 f2 f3 q4 q5 q6 q7 f8 q9 q10 f11 m12_0 m12_1 m13_0 m13_1 m14_0 m14_1 m15_0 m15_1 f17 q31 f32 z34_164 z35_165 f36 f37 z38_166 z39_167 z40_168 z41_169 m42_0 z42_1_174 z43_170 z44_171 z47_172 z48_173 f49 f50 f51 q54 q55 q56 f57 q58 f59 f60 f64 (nI n_4) hx16 hx18 hx19 hx21 hx22 hx26 hx28 hx29 hx30 hx33 (by omega) hx52 hx53 hx61 hx62 hx63 hx65 hm12_0 hm12_1 hm13_0 hm13_1 hm14_0 hm14_1 hm15_0 hm15_1 hm42_0 (Nat.le_trans hz42_1_174 (Nat.le_of_ble_eq_true rfl))) (cwV 2 hts g_EM_from_EM_hasPlace_1 rfl rfl rfl (by decide +kernel) ⟨Nat.le_of_ble_eq_true rfl, Nat.le_of_ble_eq_true rfl⟩) ⟨pu_bl, va_recv hK hP (ci := 9) (q0 := 0) rfl rfl, pu_in hP hK hD⟩ rfl rfl hl.1 rfl (lv_room (Nat.le_of_ble_eq_true rfl)) dX9_from_136 ⟨Nat.le_of_ble_eq_true rfl, Nat.le_of_ble_eq_true rfl⟩) hS (fun q _ h => pu_fr hS hA q h) (pu_fr hS hA) (fun r_175 u t H1 locs ht hvm hw hB hz1 hk1 hS => ?_)
                have hP := pu_keep hP hk1
                clear hk1 hz1 ht hvm
                generalize H1 = H at hP hS ⊢
                obtain ⟨u_176, hu_176, rfl, iu_176⟩ := hw
                replace hsp := hsp.trans (slet_eq iu_176)
                refine lv_if_eq (tgt := 146) hx hb dX9_from_139 (by decide) (fun c_177 => ?_) (fun c_177 => ?_)
                · have c_177 : u_176 = 0 := (nI_eq (a := u_176) (b := 0) (Nat.lt_of_le_of_lt hu_176 (Nat.le_of_ble_eq_true rfl)) (Nat.le_of_ble_eq_true rfl)).mp c_177
                  replace hsp := hsp.trans (if_pos c_177)
                  refine lv_iconst (v := 0) hx hb dX9_from_146 (by decide) ?_
                  exact W.iret (v := 0) hx hb hr (fun t ht hW => ⟨⟨0, (), rfl, (congrArg Prod.fst (hsp.symm.trans hRR)), ⟨z34_164, z35_165, z38_166, z39_167, z40_168, z41_169, z43_170, z44_171, z47_172, z48_173, z42_1_174, 0, (u_159 + 1), ⟨by rw [ht]; exact hP, va_K.moved hW.alike hK, hD⟩, (Nat.le_trans hz42_1_174 (Nat.le_of_ble_eq_true rfl)), (by omega), by first | assumption | exact gz_0, (congrArg Prod.snd (hsp.symm.trans hRR))⟩⟩, hS.F ht⟩) hS.2.2 dX9_from_147
                · have c_177 : ¬ u_176 = 0 := fun z => c_177 ((nI_eq (a := u_176) (b := 0) (Nat.lt_of_le_of_lt hu_176 (Nat.le_of_ble_eq_true rfl)) (Nat.le_of_ble_eq_true rfl)).mpr z)
                  replace hsp := hsp.trans (if_neg c_177)
                  refine lv_iconst (v := 1) hx hb dX9_from_142 (by decide) ?_
                  refine lv_goto (tgt := 147) hx hb dX9_from_143 (by decide) ?_
                  exact W.iret (v := 1) hx hb hr (fun t ht hW => ⟨⟨1, (), rfl, (congrArg Prod.fst (hsp.symm.trans hRR)), ⟨z34_164, z35_165, z38_166, z39_167, z40_168, z41_169, z43_170, z44_171, z47_172, z48_173, z42_1_174, 0, (u_159 + 1), ⟨by rw [ht]; exact hP, va_K.moved hW.alike hK, hD⟩, (Nat.le_trans hz42_1_174 (Nat.le_of_ble_eq_true rfl)), (by omega), by first | assumption | exact gz_0, (congrArg Prod.snd (hsp.symm.trans hRR))⟩⟩, hS.F ht⟩) hS.2.2 dX9_from_147
              · have c_157 : ¬ u_156 < 3 := fun z => c_157 ((nI_ltI (a := u_156) (b := 3) (Nat.lt_of_le_of_lt hu_156 (Nat.le_of_ble_eq_true rfl)) (Nat.le_of_ble_eq_true rfl)).mpr z)
                replace hsp := hsp.trans (if_neg c_157)
                refine lv_iload hx hb dX9_from_78 (lv_at hl 5 rfl) ?_
                refine lv_iconst (v := 0) hx hb dX9_from_80 (by decide) ?_
                refine lv_bipush (v := 60) hx hb dX9_from_81 (by decide) ?_
                refine va_calli (va_runS (As := [.int p3, .int 0, .int 60]) (rest := []) ⟨hx, hb, hml, hown, hts⟩ (c_X9_in l dC dI _ p3 0 60) (va_cwS 3 hts g_EM_from_X9_in rfl rfl rfl (by decide +kernel) ⟨Nat.le_of_ble_eq_true rfl, Nat.le_of_ble_eq_true rfl⟩) ⟨pu_bl, pu_in (hP.sub [] rfl) (hK.sub [] rfl) (hD.sub [] (by decide) rfl)⟩ rfl rfl hl.1 rfl (lv_room (Nat.le_of_ble_eq_true rfl)) dX9_from_83 ⟨Nat.le_of_ble_eq_true rfl, Nat.le_of_ble_eq_true rfl⟩) hS (fun q _ h => pu_fr hS hA q h) (pu_fr hS hA) (fun r_178 u t H1 locs ht hvm hw hB hz1 hk1 hS => ?_)
                have hP := pu_keep hP hk1
                clear hk1 hz1 ht hvm
                generalize H1 = H at hP hS ⊢
                rcases hw with ⟨rfl, hi1, hi2⟩ | ⟨rfl, hi3⟩
                · replace hsp := hsp.trans (if_pos ⟨hi1, hi2⟩)
                  obtain ⟨n_179, hn_179, rfl⟩ := pu_in0 (n := 60) (by omega) hi1 hi2
                  replace hsp := hsp.trans (slet_eq (nI_cl (n := n_179) (by omega)))
                  refine lv_if_eq (tgt := 93) hx hb dX9_from_86 (by decide) (fun z => absurd z (by decide)) (fun _ => ?_)
                  refine lv_iconst (v := 1) hx hb dX9_from_89 (by decide) ?_
                  refine lv_goto (tgt := 94) hx hb dX9_from_90 (by decide) ?_
                  refine lv_istore (lv' := [(6, .int 1), (0, .ref (ad 0)), (1, .int (nI n_2)), (2, .int (nI n_104)), (3, .int (nI n_154)), (4, .int (nI n_179)), (5, .int (nI n_4))]) hx hb dX9_from_94 hl (by decide) rfl (fun ls hl => ?_)
                  refine lv_iload hx hb dX9_from_96 (lv_at hl 0 rfl) ?_
                  refine lv_if_ne (tgt := 103) hx hb dX9_from_98 (by decide) (fun _ => ?_) (fun z => absurd z (by decide))
                  refine lv_aload_n hx hb dX9_from_103 rfl (lv_at hl 1 rfl) ?_
                  refine lv_aload_n hx hb dX9_from_104 rfl (lv_at hl 1 rfl) ?_
                  refine va_calli (va_runV (As := []) (rest := [.ref (ad 0)]) ⟨hx, hb, hml, hown, hts⟩ (c_EM_clocks l dC dI _ ad ck 0 x16 x18 x19 x20 x21 x22 x23 x24 x25 x26 x27 x28 x29 x30 x33 x45 x46 x52 x53 x61 x62 x63 x65 x66 f1 f2 f3 q4 q5 q6 q7 f8 q9 q10 f11 m12_0 m12_1 m13_0 m13_1 m14_0 m14_1 m15_0 m15_1 f17 q31 f32 f34 f35 f36 f37 q38 f39 f40 f41 m42_0 m42_1 f43 f44 f47 f48 f49 f50 f51 q54 q55 q56 f57 q58 f59 f60 f64 hx16 hx18 hx19 hx21 hx22 hx26 hx28 hx29 hx30 hx33 hx46 hx52 hx53 hx61 hx62 hx63 hx65 hm12_0 hm12_1 hm13_0 hm13_1 hm14_0 hm14_1 hm15_0 hm15_1 hm42_0 hm42_1) (cwV 0 hts g_EM_from_EM_clocks rfl rfl rfl (by decide +kernel) ⟨Nat.le_of_ble_eq_true rfl, Nat.le_of_ble_eq_true rfl⟩) ⟨pu_bl, va_recv hK hP (ci := 9) (q0 := 0) rfl rfl, pu_in hP hK hD⟩ rfl rfl hl.1 rfl (lv_room (Nat.le_of_ble_eq_true rfl)) dX9_from_105 ⟨Nat.le_of_ble_eq_true rfl, Nat.le_of_ble_eq_true rfl⟩) hS (fun q _ h => pu_fr hS hA q h) (pu_fr hS hA) (fun r_180 u t H1 locs ht hvm hw hB hz1 hk1 hS => ?_)
                  have hP := pu_keep hP hk1
                  clear hk1 hz1 ht hvm
                  generalize H1 = H at hP hS ⊢
                  obtain ⟨u_181, hu_181, rfl, iu_181⟩ := hw
                  replace hsp := hsp.trans (slet_eq iu_181)
                  refine lv_iconst (v := 1) hx hb dX9_from_108 (by decide) ?_
                  refine lv_iadd hx hb dX9_from_109 ?_
                  refine lv_topi (fun y_182 ey_182 => ?_)
                  obtain rfl : y_182 = (nI (u_181 + 1)) := ey_182.trans (nI_add u_181 1)
                  refine va_put (D := (dC, dI)) (ci := 9) (v := .int (nI (u_181 + 1))) (ty := .int) (C := RX9) (T := TX9) (N := 67) hx hb hts hiX9 tyX9 tyX9_ok nmX9 hown hK hP hD hS 0 rfl rfl 46 (by decide) v_11 (fun _ h9 => h9) rfl (by decide +kernel) rfl rfl (Nat.le_of_ble_eq_true rfl) dX9_from_110 (fun H locs hP hD hS => ?_)
                  have hP : va_P (dC, dI) vwCl (mo_w ad ck 0 (nI x16) (nI x18) (nI x19) x20 (nI x21) (nI x22) x23 x24 x25 (nI x26) x27 (nI x28) (nI x29) (nI x30) (nI x33) x45 (nI (u_181 + 1)) (nI x52) (nI x53) (nI x61) (nI x62) (nI x63) (nI x65) x66 f1 f2 f3 (bN 3 q4) (bN 7 q5) (bN 7 q6) (bN 4 q7) f8 (bN 2 q9) (bH q10) f11 (b2 m12_0 m12_1) (b2 m13_0 m13_1) (b2 m14_0 m14_1) (b2m m15_0 m15_1) f17 (bA 159 q31) f32 f34 f35 f36 f37 (bN 7 q38) f39 f40 f41 (b2 m42_0 m42_1) f43 f44 f47 f48 f49 f50 f51 (bN 13 q54) (bN 120 q55) (bN 120 q56) f57 (bN 120 q58) f59 f60 f64) H := hP
                  have hD : va_D A (mo_w ad ck 0 (nI x16) (nI x18) (nI x19) x20 (nI x21) (nI x22) x23 x24 x25 (nI x26) x27 (nI x28) (nI x29) (nI x30) (nI x33) x45 (nI (u_181 + 1)) (nI x52) (nI x53) (nI x61) (nI x62) (nI x63) (nI x65) x66 f1 f2 f3 (bN 3 q4) (bN 7 q5) (bN 7 q6) (bN 4 q7) f8 (bN 2 q9) (bH q10) f11 (b2 m12_0 m12_1) (b2 m13_0 m13_1) (b2 m14_0 m14_1) (b2m m15_0 m15_1) f17 (bA 159 q31) f32 f34 f35 f36 f37 (bN 7 q38) f39 f40 f41 (b2 m42_0 m42_1) f43 f44 f47 f48 f49 f50 f51 (bN 13 q54) (bN 120 q55) (bN 120 q56) f57 (bN 120 q58) f59 f60 f64) := hD
                  refine lv_aload_n hx hb dX9_from_113 rfl (lv_at hl 1 rfl) ?_
                  refine lv_iload_n hx hb dX9_from_114 rfl (lv_at hl 3 rfl) ?_
                  refine lv_iload_n hx hb dX9_from_115 rfl (lv_at hl 4 rfl) ?_
                  refine lv_iload hx hb dX9_from_116 (lv_at hl 5 rfl) ?_
                  have hFc := pu_free hD hS hA
                  refine va_callv (va_runV (As := [.int (nI n_104), .int (nI n_154), .int (nI n_179)]) (rest := []) ⟨hx, hb, hml, hown, hts⟩ (c_EM_layPoint l dC dI _ ad ck 0 x16 x18 x19 x20 x21 x22 x23 x24 x25 x26 x27 x28 x29 x30 x33 x45 (u_181 + 1) x52 x53 x61 x62 x63 x65 x66 f1 f2 f3 q4 q5 q6 q7 f8 q9 q10 f11 m12_0 m12_1 m13_0 m13_1 m14_0 m14_1 m15_0 m15_1 f17 q31 f32 f34 f35 f36 f37 q38 f39 f40 f41 m42_0 m42_1 f43 f44 f47 f48 f49 f50 f51 q54 q55 q56 f57 q58 f59 f60 f64 (nI n_104) (nI n_154) (nI n_179) hx16 hx18 hx19 hx21 hx22 hx26 hx28 hx29 hx30 hx33 (by omega) hx52 hx53 hx61 hx62 hx63 hx65 hm12_0 hm12_1 hm13_0 hm13_1 hm14_0 hm14_1 hm15_0 hm15_1 hm42_0 hm42_1) (cwV 3 hts g_EM_from_EM_layPoint rfl rfl rfl (by decide +kernel) ⟨Nat.le_of_ble_eq_true rfl, Nat.le_of_ble_eq_true rfl⟩) ⟨pu_bl, va_recv hK hP (ci := 9) (q0 := 0) rfl rfl, pu_in hP hK hD⟩ rfl rfl hl.1 rfl (lv_room (Nat.le_of_ble_eq_true rfl)) dX9_from_118 ⟨Nat.le_of_ble_eq_true rfl, Nat.le_of_ble_eq_true rfl⟩) hS (fun q _ h => hFc q h) hFc (fun u t H1 locs ht hvm hw hB hz1 hk1 hS => ?_)
                  obtain ⟨z35_184, ⟨hP1, -, hD1⟩, xr_183_0⟩ := hB
                  rw [ht] at hP1
                  have hP := hP1
                  have hD := pu_all hFc hD1
                  clear hP1 hD1 hFc
                  clear hk1 hz1 ht hvm
                  generalize H1 = H at hP hS ⊢
                  replace hsp := hsp.trans (slet_eq xr_183_0)
                  refine lv_aload_n hx hb dX9_from_121 rfl (lv_at hl 1 rfl) ?_
                  refine lv_iconst (v := 1) hx hb dX9_from_122 (by decide) ?_
                  refine lv_iload_n hx hb dX9_from_123 rfl (lv_at hl 2 rfl) ?_
                  refine lv_iconst (v := 2) hx hb dX9_from_124 (by decide) ?_
                  refine lv_iconst (v := 1) hx hb dX9_from_125 (by decide) ?_
                  refine lv_bipush (v := 120) hx hb dX9_from_126 (by decide) ?_
                  refine lv_iconst (v := (-1)) hx hb dX9_from_128 (by decide) ?_
                  have hFc := pu_free hD hS hA
                  refine va_callv (va_runV (As := [.int 1, .int (nI n_2), .int 2, .int 1, .int 120, .int (-1)]) (rest := []) ⟨hx, hb, hml, hown, hts⟩ (c_EM_explores_1_120 l dC dI _ ad ck 0 x16 x18 x19 x20 x21 x22 x23 x24 x25 x26 x27 x28 x29 x30 x33 x45 (u_181 + 1) x52 x53 x61 x62 x63 x65 x66 f1 f2 f3 q4 q5 q6 q7 f8 q9 q10 f11 m12_0 m12_1 m13_0 m13_1 m14_0 m14_1 m15_0 m15_1 f17 q31 f32 f34 z35_184 f36 f37 q38 f39 f40 f41 m42_0 m42_1 f43 f44 f47 f48 f49 f50 f51 q54 q55 q56 f57 q58 f59 f60 f64 n_2 2 1 (-1) hx16 hx18 hx19 hx21 hx22 hx26 hx28 hx29 hx30 hx33 (by omega) hx52 hx53 hx61 hx62 hx63 hx65 hm12_0 hm12_1 hm13_0 hm13_1 hm14_0 hm14_1 hm15_0 hm15_1 hm42_0 hm42_1 (by omega) (Nat.le_of_ble_eq_true rfl) (by first | assumption | exact gz_0)) (cwV 6 hts g_EM_from_EM_explores_1_120 rfl rfl rfl (by decide +kernel) ⟨Nat.le_of_ble_eq_true rfl, Nat.le_of_ble_eq_true rfl⟩) ⟨pu_bl, va_recv hK hP (ci := 9) (q0 := 0) rfl rfl, pu_in hP hK hD⟩ rfl rfl hl.1 rfl (lv_room (Nat.le_of_ble_eq_true rfl)) dX9_from_129 ⟨Nat.le_of_ble_eq_true rfl, Nat.le_of_ble_eq_true rfl⟩) hS (fun q _ h => hFc q h) hFc (fun u t H1 locs ht hvm hw hB hz1 hk1 hS => ?_)
                  obtain ⟨z34_186, z35_187, z38_188, z39_189, z40_190, z41_191, z43_192, z44_193, z47_194, z48_195, z42_1_196, ⟨hP1, -, hD1⟩, hz42_1_196, xr_185_0, xr_185_1⟩ := hB
                  rw [ht] at hP1
                  have hP := hP1
                  have hD := pu_all hFc hD1
                  clear hP1 hD1 hFc
                  clear hk1 hz1 ht hvm
                  generalize H1 = H at hP hS ⊢
                  replace hsp := hsp.trans (slet_eq xr_185_1)
                  refine lv_aload_n hx hb dX9_from_132 rfl (lv_at hl 1 rfl) ?_
                  refine lv_iconst (v := 1) hx hb dX9_from_133 (by decide) ?_
                  refine lv_iload hx hb dX9_from_134 (lv_at hl 6 rfl) ?_
                  refine va_calli (va_runV (As := [.int 1, .int (nI n_4)]) (rest := []) ⟨hx, hb, hml, hown, hts⟩ (c_EM_hasPlace_1 l dC dI _ ad ck 0 x16 x18 x19 x20 x21 x22 x23 x24 x25 x26 x27 x28 x29 x30 x33 x45 (u_181 + 1) x52 x53 x61 x62 x63 x65 x66 f1 f2 f3 q4 q5 q6 q7 f8 q9 q10 f11 m12_0 m12_1 m13_0 m13_1 m14_0 m14_1 m15_0 m15_1 f17 q31 f32 z34_186 z35_187 f36 f37 z38_188 z39_189 z40_190 z41_191 m42_0 z42_1_196 z43_192 z44_193 z47_194 z48_195 f49 f50 f51 q54 q55 q56 f57 q58 f59 f60 f64 (nI n_4) hx16 hx18 hx19 hx21 hx22 hx26 hx28 hx29 hx30 hx33 (by omega) hx52 hx53 hx61 hx62 hx63 hx65 hm12_0 hm12_1 hm13_0 hm13_1 hm14_0 hm14_1 hm15_0 hm15_1 hm42_0 (Nat.le_trans hz42_1_196 (Nat.le_of_ble_eq_true rfl))) (cwV 2 hts g_EM_from_EM_hasPlace_1 rfl rfl rfl (by decide +kernel) ⟨Nat.le_of_ble_eq_true rfl, Nat.le_of_ble_eq_true rfl⟩) ⟨pu_bl, va_recv hK hP (ci := 9) (q0 := 0) rfl rfl, pu_in hP hK hD⟩ rfl rfl hl.1 rfl (lv_room (Nat.le_of_ble_eq_true rfl)) dX9_from_136 ⟨Nat.le_of_ble_eq_true rfl, Nat.le_of_ble_eq_true rfl⟩) hS (fun q _ h => pu_fr hS hA q h) (pu_fr hS hA) (fun r_197 u t H1 locs ht hvm hw hB hz1 hk1 hS => ?_)
                  have hP := pu_keep hP hk1
                  clear hk1 hz1 ht hvm
                  generalize H1 = H at hP hS ⊢
                  obtain ⟨u_198, hu_198, rfl, iu_198⟩ := hw
                  replace hsp := hsp.trans (slet_eq iu_198)
                  refine lv_if_eq (tgt := 146) hx hb dX9_from_139 (by decide) (fun c_199 => ?_) (fun c_199 => ?_)
                  · have c_199 : u_198 = 0 := (nI_eq (a := u_198) (b := 0) (Nat.lt_of_le_of_lt hu_198 (Nat.le_of_ble_eq_true rfl)) (Nat.le_of_ble_eq_true rfl)).mp c_199
                    replace hsp := hsp.trans (if_pos c_199)
                    refine lv_iconst (v := 0) hx hb dX9_from_146 (by decide) ?_
                    exact W.iret (v := 0) hx hb hr (fun t ht hW => ⟨⟨0, (), rfl, (congrArg Prod.fst (hsp.symm.trans hRR)), ⟨z34_186, z35_187, z38_188, z39_189, z40_190, z41_191, z43_192, z44_193, z47_194, z48_195, z42_1_196, 0, (u_181 + 1), ⟨by rw [ht]; exact hP, va_K.moved hW.alike hK, hD⟩, (Nat.le_trans hz42_1_196 (Nat.le_of_ble_eq_true rfl)), (by omega), by first | assumption | exact gz_0, (congrArg Prod.snd (hsp.symm.trans hRR))⟩⟩, hS.F ht⟩) hS.2.2 dX9_from_147
                  · have c_199 : ¬ u_198 = 0 := fun z => c_199 ((nI_eq (a := u_198) (b := 0) (Nat.lt_of_le_of_lt hu_198 (Nat.le_of_ble_eq_true rfl)) (Nat.le_of_ble_eq_true rfl)).mpr z)
                    replace hsp := hsp.trans (if_neg c_199)
                    refine lv_iconst (v := 1) hx hb dX9_from_142 (by decide) ?_
                    refine lv_goto (tgt := 147) hx hb dX9_from_143 (by decide) ?_
                    exact W.iret (v := 1) hx hb hr (fun t ht hW => ⟨⟨1, (), rfl, (congrArg Prod.fst (hsp.symm.trans hRR)), ⟨z34_186, z35_187, z38_188, z39_189, z40_190, z41_191, z43_192, z44_193, z47_194, z48_195, z42_1_196, 0, (u_181 + 1), ⟨by rw [ht]; exact hP, va_K.moved hW.alike hK, hD⟩, (Nat.le_trans hz42_1_196 (Nat.le_of_ble_eq_true rfl)), (by omega), by first | assumption | exact gz_0, (congrArg Prod.snd (hsp.symm.trans hRR))⟩⟩, hS.F ht⟩) hS.2.2 dX9_from_147
                · replace hsp := hsp.trans (if_neg hi3)
                  refine lv_if_eq (tgt := 93) hx hb dX9_from_86 (by decide) (fun _ => ?_) (fun z => absurd z (by decide))
                  refine lv_iconst (v := 0) hx hb dX9_from_93 (by decide) ?_
                  refine lv_istore (lv' := [(6, .int 0), (0, .ref (ad 0)), (1, .int (nI n_2)), (2, .int (nI n_104)), (3, .int (nI n_154)), (4, .int p3), (5, .int (nI n_4))]) hx hb dX9_from_94 hl (by decide) rfl (fun ls hl => ?_)
                  refine lv_iload hx hb dX9_from_96 (lv_at hl 0 rfl) ?_
                  refine lv_if_ne (tgt := 103) hx hb dX9_from_98 (by decide) (fun z => absurd z (by decide)) (fun _ => ?_)
                  refine lv_iconst (v := (-1)) hx hb dX9_from_101 (by decide) ?_
                  exact W.iret (v := (-1)) hx hb hr (fun t ht hW => ⟨⟨(-1), (), rfl, (congrArg Prod.fst (hsp.symm.trans hRR)), ⟨f34, f35, q38, f39, f40, f41, f43, f44, f47, f48, m42_1, 0, x46, ⟨by rw [ht]; exact hP, va_K.moved hW.alike hK, hD⟩, hm42_1, hx46, by first | assumption | exact gz_0, (congrArg Prod.snd (hsp.symm.trans hRR))⟩⟩, hS.F ht⟩) hS.2.2 dX9_from_102
            · replace hsp := hsp.trans (if_neg hi3)
              refine lv_if_eq (tgt := 93) hx hb dX9_from_67 (by decide) (fun _ => ?_) (fun z => absurd z (by decide))
              refine lv_iconst (v := 0) hx hb dX9_from_93 (by decide) ?_
              refine lv_istore (lv' := [(6, .int 0), (0, .ref (ad 0)), (1, .int (nI n_2)), (2, .int (nI n_104)), (3, .int p2), (4, .int p3), (5, .int (nI n_4))]) hx hb dX9_from_94 hl (by decide) rfl (fun ls hl => ?_)
              refine lv_iload hx hb dX9_from_96 (lv_at hl 0 rfl) ?_
              refine lv_if_ne (tgt := 103) hx hb dX9_from_98 (by decide) (fun z => absurd z (by decide)) (fun _ => ?_)
              refine lv_iconst (v := (-1)) hx hb dX9_from_101 (by decide) ?_
              exact W.iret (v := (-1)) hx hb hr (fun t ht hW => ⟨⟨(-1), (), rfl, (congrArg Prod.fst (hsp.symm.trans hRR)), ⟨f34, f35, q38, f39, f40, f41, f43, f44, f47, f48, m42_1, 0, x46, ⟨by rw [ht]; exact hP, va_K.moved hW.alike hK, hD⟩, hm42_1, hx46, by first | assumption | exact gz_0, (congrArg Prod.snd (hsp.symm.trans hRR))⟩⟩, hS.F ht⟩) hS.2.2 dX9_from_102
        · replace hsp := hsp.trans (if_neg hi3)
          refine lv_if_eq (tgt := 93) hx hb dX9_from_49 (by decide) (fun _ => ?_) (fun z => absurd z (by decide))
          refine lv_iconst (v := 0) hx hb dX9_from_93 (by decide) ?_
          refine lv_istore (lv' := [(6, .int 0), (0, .ref (ad 0)), (1, .int (nI n_2)), (2, .int p1), (3, .int p2), (4, .int p3), (5, .int (nI n_4))]) hx hb dX9_from_94 hl (by decide) rfl (fun ls hl => ?_)
          refine lv_iload hx hb dX9_from_96 (lv_at hl 0 rfl) ?_
          refine lv_if_ne (tgt := 103) hx hb dX9_from_98 (by decide) (fun z => absurd z (by decide)) (fun _ => ?_)
          refine lv_iconst (v := (-1)) hx hb dX9_from_101 (by decide) ?_
          exact W.iret (v := (-1)) hx hb hr (fun t ht hW => ⟨⟨(-1), (), rfl, (congrArg Prod.fst (hsp.symm.trans hRR)), ⟨f34, f35, q38, f39, f40, f41, f43, f44, f47, f48, m42_1, 0, x46, ⟨by rw [ht]; exact hP, va_K.moved hW.alike hK, hD⟩, hm42_1, hx46, by first | assumption | exact gz_0, (congrArg Prod.snd (hsp.symm.trans hRR))⟩⟩, hS.F ht⟩) hS.2.2 dX9_from_102
    · replace hsp := hsp.trans (if_neg hn)
      refine lv_if_eq (tgt := 26) hx hb dX9_from_19 (by decide) (fun _ => ?_) (fun z => absurd z (by decide))
      refine lv_iconst (v := 0) hx hb dX9_from_26 (by decide) ?_
      refine lv_istore (lv' := [(6, .int 0), (0, .ref (ad 0)), (1, .int (nI n_2)), (2, .int p1), (3, .int p2), (4, .int p3), (5, .int p4)]) hx hb dX9_from_27 hl (by decide) rfl (fun ls hl => ?_)
      refine lv_iload hx hb dX9_from_29 (lv_at hl 0 rfl) ?_
      refine lv_if_eq (tgt := 93) hx hb dX9_from_31 (by decide) (fun _ => ?_) (fun z => absurd z (by decide))
      refine lv_iconst (v := 0) hx hb dX9_from_93 (by decide) ?_
      refine lv_istore (lv' := [(6, .int 0), (0, .ref (ad 0)), (1, .int (nI n_2)), (2, .int p1), (3, .int p2), (4, .int p3), (5, .int p4)]) hx hb dX9_from_94 hl (by decide) rfl (fun ls hl => ?_)
      refine lv_iload hx hb dX9_from_96 (lv_at hl 0 rfl) ?_
      refine lv_if_ne (tgt := 103) hx hb dX9_from_98 (by decide) (fun z => absurd z (by decide)) (fun _ => ?_)
      refine lv_iconst (v := (-1)) hx hb dX9_from_101 (by decide) ?_
      exact W.iret (v := (-1)) hx hb hr (fun t ht hW => ⟨⟨(-1), (), rfl, (congrArg Prod.fst (hsp.symm.trans hRR)), ⟨f34, f35, q38, f39, f40, f41, f43, f44, f47, f48, m42_1, 0, x46, ⟨by rw [ht]; exact hP, va_K.moved hW.alike hK, hD⟩, hm42_1, hx46, by first | assumption | exact gz_0, (congrArg Prod.snd (hsp.symm.trans hRR))⟩⟩, hS.F ht⟩) hS.2.2 dX9_from_102
  · replace hsp := hsp.trans (if_neg hn)
    refine lv_if_eq (tgt := 26) hx hb dX9_from_10 (by decide) (fun _ => ?_) (fun z => absurd z (by decide))
    refine lv_iconst (v := 0) hx hb dX9_from_26 (by decide) ?_
    refine lv_istore (lv' := [(6, .int 0), (0, .ref (ad 0)), (1, .int p0), (2, .int p1), (3, .int p2), (4, .int p3), (5, .int p4)]) hx hb dX9_from_27 hl (by decide) rfl (fun ls hl => ?_)
    refine lv_iload hx hb dX9_from_29 (lv_at hl 0 rfl) ?_
    refine lv_if_eq (tgt := 93) hx hb dX9_from_31 (by decide) (fun _ => ?_) (fun z => absurd z (by decide))
    refine lv_iconst (v := 0) hx hb dX9_from_93 (by decide) ?_
    refine lv_istore (lv' := [(6, .int 0), (0, .ref (ad 0)), (1, .int p0), (2, .int p1), (3, .int p2), (4, .int p3), (5, .int p4)]) hx hb dX9_from_94 hl (by decide) rfl (fun ls hl => ?_)
    refine lv_iload hx hb dX9_from_96 (lv_at hl 0 rfl) ?_
    refine lv_if_ne (tgt := 103) hx hb dX9_from_98 (by decide) (fun z => absurd z (by decide)) (fun _ => ?_)
    refine lv_iconst (v := (-1)) hx hb dX9_from_101 (by decide) ?_
    exact W.iret (v := (-1)) hx hb hr (fun t ht hW => ⟨⟨(-1), (), rfl, (congrArg Prod.fst (hsp.symm.trans hRR)), ⟨f34, f35, q38, f39, f40, f41, f43, f44, f47, f48, m42_1, 0, x46, ⟨by rw [ht]; exact hP, va_K.moved hW.alike hK, hD⟩, hm42_1, hx46, by first | assumption | exact gz_0, (congrArg Prod.snd (hsp.symm.trans hRR))⟩⟩, hS.F ht⟩) hS.2.2 dX9_from_102
