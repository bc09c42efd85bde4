theorem dX9_layGaps_0 : decode cX9_layGaps 0 = .ok (.aload_n 0, 1) := by decide +kernel
theorem dX9_layGaps_1 : decode cX9_layGaps 1 = .ok (.iconst 0, 1) := by decide +kernel
theorem dX9_layGaps_2 : decode cX9_layGaps 2 = .ok (.putfield 432, 3) := by decide +kernel
theorem dX9_layGaps_5 : decode cX9_layGaps 5 = .ok (.aload_n 0, 1) := by decide +kernel
theorem dX9_layGaps_6 : decode cX9_layGaps 6 = .ok (.iconst 0, 1) := by decide +kernel
theorem dX9_layGaps_7 : decode cX9_layGaps 7 = .ok (.putfield 435, 3) := by decide +kernel
theorem dX9_layGaps_10 : decode cX9_layGaps 10 = .ok (.iconst 0, 1) := by decide +kernel
theorem dX9_layGaps_11 : decode cX9_layGaps 11 = .ok (.istore_n 1, 1) := by decide +kernel
theorem dX9_layGaps_12 : decode cX9_layGaps 12 = .ok (.iload_n 1, 1) := by decide +kernel
theorem dX9_layGaps_13 : decode cX9_layGaps 13 = .ok (.iconst 3, 1) := by decide +kernel
theorem dX9_layGaps_14 : decode cX9_layGaps 14 = .ok (.if_icmp .ge 16, 3) := by decide +kernel
theorem dX9_layGaps_17 : decode cX9_layGaps 17 = .ok (.aload_n 0, 1) := by decide +kernel
theorem dX9_layGaps_18 : decode cX9_layGaps 18 = .ok (.getfield 130, 3) := by decide +kernel
theorem dX9_layGaps_21 : decode cX9_layGaps 21 = .ok (.iload_n 1, 1) := by decide +kernel
theorem dX9_layGaps_22 : decode cX9_layGaps 22 = .ok (.iconst 0, 1) := by decide +kernel
theorem dX9_layGaps_23 : decode cX9_layGaps 23 = .ok (.iastore, 1) := by decide +kernel
theorem dX9_layGaps_24 : decode cX9_layGaps 24 = .ok (.iinc 1 1, 3) := by decide +kernel
theorem dX9_layGaps_27 : decode cX9_layGaps 27 = .ok (.goto (-15), 3) := by decide +kernel
theorem dX9_layGaps_30 : decode cX9_layGaps 30 = .ok (.aload_n 0, 1) := by decide +kernel
theorem dX9_layGaps_31 : decode cX9_layGaps 31 = .ok (.bipush 100, 2) := by decide +kernel
theorem dX9_layGaps_33 : decode cX9_layGaps 33 = .ok (.aload_n 0, 1) := by decide +kernel
theorem dX9_layGaps_34 : decode cX9_layGaps 34 = .ok (.getfield 52, 3) := by decide +kernel
theorem dX9_layGaps_37 : decode cX9_layGaps 37 = .ok (.aload_n 0, 1) := by decide +kernel
theorem dX9_layGaps_38 : decode cX9_layGaps 38 = .ok (.getfield 258, 3) := by decide +kernel
theorem dX9_layGaps_41 : decode cX9_layGaps 41 = .ok (.iaload, 1) := by decide +kernel
theorem dX9_layGaps_42 : decode cX9_layGaps 42 = .ok (.iadd, 1) := by decide +kernel
theorem dX9_layGaps_43 : decode cX9_layGaps 43 = .ok (.iconst 0, 1) := by decide +kernel
theorem dX9_layGaps_44 : decode cX9_layGaps 44 = .ok (.invokevirtual 441, 3) := by decide +kernel
theorem dX9_layGaps_47 : decode cX9_layGaps 47 = .ok (.iconst 1, 1) := by decide +kernel
theorem dX9_layGaps_48 : decode cX9_layGaps 48 = .ok (.istore_n 1, 1) := by decide +kernel
theorem dX9_layGaps_49 : decode cX9_layGaps 49 = .ok (.iload_n 1, 1) := by decide +kernel
theorem dX9_layGaps_50 : decode cX9_layGaps 50 = .ok (.aload_n 0, 1) := by decide +kernel
theorem dX9_layGaps_51 : decode cX9_layGaps 51 = .ok (.getfield 429, 3) := by decide +kernel
theorem dX9_layGaps_54 : decode cX9_layGaps 54 = .ok (.if_icmp .gt 124, 3) := by decide +kernel
theorem dX9_layGaps_57 : decode cX9_layGaps 57 = .ok (.aload_n 0, 1) := by decide +kernel
theorem dX9_layGaps_58 : decode cX9_layGaps 58 = .ok (.getfield 118, 3) := by decide +kernel
theorem dX9_layGaps_61 : decode cX9_layGaps 61 = .ok (.iload_n 1, 1) := by decide +kernel
theorem dX9_layGaps_62 : decode cX9_layGaps 62 = .ok (.iconst 1, 1) := by decide +kernel
theorem dX9_layGaps_63 : decode cX9_layGaps 63 = .ok (.isub, 1) := by decide +kernel
theorem dX9_layGaps_64 : decode cX9_layGaps 64 = .ok (.iaload, 1) := by decide +kernel
theorem dX9_layGaps_65 : decode cX9_layGaps 65 = .ok (.istore_n 2, 1) := by decide +kernel
theorem dX9_layGaps_66 : decode cX9_layGaps 66 = .ok (.aload_n 0, 1) := by decide +kernel
theorem dX9_layGaps_67 : decode cX9_layGaps 67 = .ok (.iload_n 1, 1) := by decide +kernel
theorem dX9_layGaps_68 : decode cX9_layGaps 68 = .ok (.iconst 1, 1) := by decide +kernel
theorem dX9_layGaps_69 : decode cX9_layGaps 69 = .ok (.isub, 1) := by decide +kernel
theorem dX9_layGaps_70 : decode cX9_layGaps 70 = .ok (.iload_n 1, 1) := by decide +kernel
theorem dX9_layGaps_71 : decode cX9_layGaps 71 = .ok (.iconst 1, 1) := by decide +kernel
theorem dX9_layGaps_72 : decode cX9_layGaps 72 = .ok (.invokevirtual 438, 3) := by decide +kernel
theorem dX9_layGaps_75 : decode cX9_layGaps 75 = .ok (.aload_n 0, 1) := by decide +kernel
theorem dX9_layGaps_76 : decode cX9_layGaps 76 = .ok (.aload_n 0, 1) := by decide +kernel
theorem dX9_layGaps_77 : decode cX9_layGaps 77 = .ok (.iload_n 2, 1) := by decide +kernel
theorem dX9_layGaps_78 : decode cX9_layGaps 78 = .ok (.invokevirtual 289, 3) := by decide +kernel
theorem dX9_layGaps_81 : decode cX9_layGaps 81 = .ok (.invokevirtual 324, 3) := by decide +kernel
theorem dX9_layGaps_84 : decode cX9_layGaps 84 = .ok (.ifCond .eq 12, 3) := by decide +kernel
theorem dX9_layGaps_87 : decode cX9_layGaps 87 = .ok (.aload_n 0, 1) := by decide +kernel
theorem dX9_layGaps_88 : decode cX9_layGaps 88 = .ok (.iload_n 1, 1) := by decide +kernel
theorem dX9_layGaps_89 : decode cX9_layGaps 89 = .ok (.iload_n 1, 1) := by decide +kernel
theorem dX9_layGaps_90 : decode cX9_layGaps 90 = .ok (.iconst 1, 1) := by decide +kernel
theorem dX9_layGaps_91 : decode cX9_layGaps 91 = .ok (.isub, 1) := by decide +kernel
theorem dX9_layGaps_92 : decode cX9_layGaps 92 = .ok (.iconst 1, 1) := by decide +kernel
theorem dX9_layGaps_93 : decode cX9_layGaps 93 = .ok (.invokevirtual 438, 3) := by decide +kernel
theorem dX9_layGaps_96 : decode cX9_layGaps 96 = .ok (.aload_n 0, 1) := by decide +kernel
theorem dX9_layGaps_97 : decode cX9_layGaps 97 = .ok (.bipush 100, 2) := by decide +kernel
theorem dX9_layGaps_99 : decode cX9_layGaps 99 = .ok (.aload_n 0, 1) := by decide +kernel
theorem dX9_layGaps_100 : decode cX9_layGaps 100 = .ok (.iload_n 2, 1) := by decide +kernel
theorem dX9_layGaps_101 : decode cX9_layGaps 101 = .ok (.invokevirtual 289, 3) := by decide +kernel
theorem dX9_layGaps_104 : decode cX9_layGaps 104 = .ok (.iadd, 1) := by decide +kernel
theorem dX9_layGaps_105 : decode cX9_layGaps 105 = .ok (.iload_n 1, 1) := by decide +kernel
theorem dX9_layGaps_106 : decode cX9_layGaps 106 = .ok (.invokevirtual 441, 3) := by decide +kernel
theorem dX9_layGaps_109 : decode cX9_layGaps 109 = .ok (.aload_n 0, 1) := by decide +kernel
theorem dX9_layGaps_110 : decode cX9_layGaps 110 = .ok (.iload_n 2, 1) := by decide +kernel
theorem dX9_layGaps_111 : decode cX9_layGaps 111 = .ok (.iload_n 1, 1) := by decide +kernel
theorem dX9_layGaps_112 : decode cX9_layGaps 112 = .ok (.invokevirtual 441, 3) := by decide +kernel
theorem dX9_layGaps_115 : decode cX9_layGaps 115 = .ok (.iconst 0, 1) := by decide +kernel
theorem dX9_layGaps_116 : decode cX9_layGaps 116 = .ok (.istore_n 3, 1) := by decide +kernel
theorem dX9_layGaps_117 : decode cX9_layGaps 117 = .ok (.iload_n 3, 1) := by decide +kernel
theorem dX9_layGaps_118 : decode cX9_layGaps 118 = .ok (.aload_n 0, 1) := by decide +kernel
theorem dX9_layGaps_119 : decode cX9_layGaps 119 = .ok (.invokevirtual 280, 3) := by decide +kernel
theorem dX9_layGaps_122 : decode cX9_layGaps 122 = .ok (.if_icmp .ge 37, 3) := by decide +kernel
theorem dX9_layGaps_125 : decode cX9_layGaps 125 = .ok (.aload_n 0, 1) := by decide +kernel
theorem dX9_layGaps_126 : decode cX9_layGaps 126 = .ok (.getfield 130, 3) := by decide +kernel
theorem dX9_layGaps_129 : decode cX9_layGaps 129 = .ok (.iload_n 3, 1) := by decide +kernel
theorem dX9_layGaps_130 : decode cX9_layGaps 130 = .ok (.aload_n 0, 1) := by decide +kernel
theorem dX9_layGaps_131 : decode cX9_layGaps 131 = .ok (.iload_n 2, 1) := by decide +kernel
theorem dX9_layGaps_132 : decode cX9_layGaps 132 = .ok (.invokevirtual 305, 3) := by decide +kernel
theorem dX9_layGaps_135 : decode cX9_layGaps 135 = .ok (.iload_n 3, 1) := by decide +kernel
theorem dX9_layGaps_136 : decode cX9_layGaps 136 = .ok (.invokestatic 248, 3) := by decide +kernel
theorem dX9_layGaps_139 : decode cX9_layGaps 139 = .ok (.ifCond .eq 7, 3) := by decide +kernel
theorem dX9_layGaps_142 : decode cX9_layGaps 142 = .ok (.iload_n 1, 1) := by decide +kernel
theorem dX9_layGaps_143 : decode cX9_layGaps 143 = .ok (.goto 9, 3) := by decide +kernel
theorem dX9_layGaps_146 : decode cX9_layGaps 146 = .ok (.aload_n 0, 1) := by decide +kernel
theorem dX9_layGaps_147 : decode cX9_layGaps 147 = .ok (.getfield 130, 3) := by decide +kernel
theorem dX9_layGaps_150 : decode cX9_layGaps 150 = .ok (.iload_n 3, 1) := by decide +kernel
theorem dX9_layGaps_151 : decode cX9_layGaps 151 = .ok (.iaload, 1) := by decide +kernel
theorem dX9_layGaps_152 : decode cX9_layGaps 152 = .ok (.iastore, 1) := by decide +kernel
theorem dX9_layGaps_153 : decode cX9_layGaps 153 = .ok (.iinc 3 1, 3) := by decide +kernel
theorem dX9_layGaps_156 : decode cX9_layGaps 156 = .ok (.goto (-39), 3) := by decide +kernel
theorem dX9_layGaps_159 : decode cX9_layGaps 159 = .ok (.aload_n 0, 1) := by decide +kernel
theorem dX9_layGaps_160 : decode cX9_layGaps 160 = .ok (.bipush 100, 2) := by decide +kernel
theorem dX9_layGaps_162 : decode cX9_layGaps 162 = .ok (.aload_n 0, 1) := by decide +kernel
theorem dX9_layGaps_163 : decode cX9_layGaps 163 = .ok (.iload_n 2, 1) := by decide +kernel
theorem dX9_layGaps_164 : decode cX9_layGaps 164 = .ok (.invokevirtual 292, 3) := by decide +kernel
theorem dX9_layGaps_167 : decode cX9_layGaps 167 = .ok (.iadd, 1) := by decide +kernel
theorem dX9_layGaps_168 : decode cX9_layGaps 168 = .ok (.iload_n 1, 1) := by decide +kernel
theorem dX9_layGaps_169 : decode cX9_layGaps 169 = .ok (.invokevirtual 441, 3) := by decide +kernel
theorem dX9_layGaps_172 : decode cX9_layGaps 172 = .ok (.iinc 1 1, 3) := by decide +kernel
theorem dX9_layGaps_175 : decode cX9_layGaps 175 = .ok (.goto (-126), 3) := by decide +kernel
theorem dX9_layGaps_178 : decode cX9_layGaps 178 = .ok (.return_, 1) := by decide +kernel
abbrev vs_EM_layGaps : List Cond := .code yX9_layGaps cX9_layGaps 4 none :: VM
theorem g_EM_layGaps_EM_layConditions_z : GoodIn vs_EM_layGaps (wsV RX9 441 RX9 yX9_layConditions vs_EM_layConditions_z) := gm_V vm_315 vm_316 vm_317 vm_19 vm_318
theorem g_EM_layGaps_EM_holdsApart : GoodIn vs_EM_layGaps (wsV RX9 438 RX9 yX9_holdsApart vs_EM_holdsApart) := gm_V vm_309 vm_310 vm_311 vm_19 vm_312
theorem g_EM_layGaps_EM_outOf : GoodIn vs_EM_layGaps (wsV RX9 289 RX9 yX9_outOf vs_EM_outOf) := gm_V vm_41 vm_42 vm_43 vm_19 vm_44
theorem g_EM_layGaps_EM_isUrgent : GoodIn vs_EM_layGaps (wsV RX9 324 RX9 yX9_isUrgent vs_EM_isUrgent) := gm_V vm_189 vm_190 vm_191 vm_19 vm_192
theorem g_EM_layGaps_EM_layConditions_p : GoodIn vs_EM_layGaps (wsV RX9 441 RX9 yX9_layConditions vs_EM_layConditions_p) := gm_V vm_315 vm_316 vm_317 vm_19 vm_318
theorem g_EM_layGaps_EM_layConditions_e : GoodIn vs_EM_layGaps (wsV RX9 441 RX9 yX9_layConditions vs_EM_layConditions_e) := gm_V vm_315 vm_316 vm_317 vm_19 vm_318
theorem g_EM_layGaps_EM_clocks : GoodIn vs_EM_layGaps (wsV RX9 280 RX9 yX9_clocks vs_EM_clocks) := gm_V vm_140 vm_141 vm_142 vm_19 vm_143
theorem g_EM_layGaps_EM_into : GoodIn vs_EM_layGaps (wsV RX9 292 RX9 yX9_into vs_EM_into) := gm_V vm_37 vm_38 vm_39 vm_19 vm_40
theorem g_EM_layGaps_EM_setBy : GoodIn vs_EM_layGaps (wsV RX9 305 RX9 yX9_setBy vs_EM_setBy) := gm_V vm_171 vm_172 vm_173 vm_19 vm_174
theorem g_EM_layGaps_EM_isOf : GoodIn vs_EM_layGaps (va_wsS RX9 248 yX9_isOf vs_EM_isOf) := gm_S vm_114 vm_115 vm_19 vm_116
noncomputable def sp_EM_layGaps_L1 (x16 : Nat) (q4 : Nat → Nat) (q6 : Nat → Nat) (f8 : Nat → Int32) (q9 : Nat → Nat) (q10 : Nat → Nat) (f11 : Nat → Int32) (m12_0 : Nat) (m12_1 : Nat) (m13_0 : Nat) (m13_1 : Nat) (g_32 : Nat) (z55_71 : Nat → Nat) (z56_72 : Nat → Nat) (z57_73 : Nat → Int32) (z62_74 : Nat) (z63_75 : Nat) (u_43 : Nat) : ((Nat → Nat) × Nat) → ((Nat → Nat) × Nat) ⊕ (((Nat → Nat) × (Nat → Nat) × (Nat → Int32) × (Nat → Nat) × Nat × Nat × Nat) ⊕ ((Nat → Nat) × (Nat → Nat) × (Nat → Int32) × (Nat → Nat) × Nat × Nat)) := fun (g_78, g_79) => (slet (sp_EM_clocks x16 m12_0 m12_1) (fun u_87 => (if u_87 ≤ g_79 then (Sum.inr (slet (sp_EM_into x16 q6 u_43) (fun u_90 => (slet (sp_EM_layConditions_p x16 z62_74 z63_75 q4 q9 q10 f11 m13_0 m13_1 z55_71 z56_72 z57_73 g_78 (100 + u_90) g_32) (fun (z55_93, z56_94, z57_95, z62_96, z63_97) => (Sum.inl (z55_93, z56_94, z57_95, g_78, z62_96, z63_97, (g_32 + 1)))))))) else (slet (sp_EM_setBy x16 f8 u_43) (fun r_98 => (slet (α := Nat) (slet (sp_EM_isOf r_98 (nI g_79)) (fun u_105 => (if u_105 = 0 then (slet (min (g_78 g_79) 120) (fun u_108 => u_108)) else g_32))) (fun g_99 => (slet (updN g_78 g_79 g_99) (fun q_103 => (Sum.inl (q_103, (g_79 + 1))))))))))))
noncomputable def sp_EM_layGaps_L2 (x16 : Nat) (x61 : Nat) (f3 : Nat → Int32) (q4 : Nat → Nat) (q5 : Nat → Nat) (q6 : Nat → Nat) (q7 : Nat → Nat) (f8 : Nat → Int32) (q9 : Nat → Nat) (q10 : Nat → Nat) (f11 : Nat → Int32) (m12_0 : Nat) (m12_1 : Nat) (m13_0 : Nat) (m13_1 : Nat) (m14_0 : Nat) (m14_1 : Nat) (q54 : Nat → Nat) : ((Nat → Nat) × (Nat → Nat) × (Nat → Int32) × (Nat → Nat) × Nat × Nat × Nat) → ((Nat → Nat) × (Nat → Nat) × (Nat → Int32) × (Nat → Nat) × Nat × Nat × Nat) ⊕ ((Nat → Nat) × (Nat → Nat) × (Nat → Int32) × (Nat → Nat) × Nat × Nat) := fun (g_26, g_27, g_28, g_29, g_30, g_31, g_32) => (if x61 < g_32 then (Sum.inr (g_26, g_27, g_28, g_29, g_30, g_31)) else (slet (min (q54 (g_32 - 1)) 13) (fun u_43 => (slet (sp_EM_holdsApart g_30 g_26 g_27 g_28 (g_32 - 1) g_32 1) (fun (z55_46, z56_47, z57_48) => (slet (sp_EM_outOf x16 q5 u_43) (fun u_50 => (slet (sp_EM_isUrgent x16 f3 u_50) (fun u_52 => (slet (α := Nat × (Nat → Nat) × (Nat → Nat) × (Nat → Int32)) (if u_52 = 0 then ((g_30 + 1), z55_46, z56_47, z57_48) else (slet (sp_EM_holdsApart (g_30 + 1) z55_46 z56_47 z57_48 g_32 (g_32 - 1) 1) (fun (z55_112, z56_113, z57_114) => (((g_30 + 1) + 1), z55_112, z56_113, z57_114)))) (fun (g_53, g_54, g_55, g_56) => (slet (sp_EM_outOf x16 q5 u_43) (fun u_62 => (slet (sp_EM_layConditions_p x16 g_53 g_31 q4 q9 q10 f11 m13_0 m13_1 g_54 g_55 g_56 g_29 (100 + u_62) g_32) (fun (z55_65, z56_66, z57_67, z62_68, z63_69) => (slet (sp_EM_layConditions_e x16 z62_68 z63_69 q7 q9 q10 f11 m13_0 m13_1 m14_0 m14_1 z55_65 z56_66 z57_67 g_29 u_43 g_32) (fun (z55_71, z56_72, z57_73, z62_74, z63_75) => (itrv (α := (Nat → Nat) × Nat) (β := (((Nat → Nat) × (Nat → Nat) × (Nat → Int32) × (Nat → Nat) × Nat × Nat × Nat) ⊕ ((Nat → Nat) × (Nat → Nat) × (Nat → Int32) × (Nat → Nat) × Nat × Nat))) (Sum.inr default) (sp_EM_layGaps_L1 x16 q4 q6 f8 q9 q10 f11 m12_0 m12_1 m13_0 m13_1 g_32 z55_71 z56_72 z57_73 z62_74 z63_75 u_43) (g_29, 0)))))))))))))))))))
noncomputable def sp_EM_layGaps_L3 (x16 : Nat) (q4 : Nat → Nat) (q6 : Nat → Nat) (f8 : Nat → Int32) (q9 : Nat → Nat) (q10 : Nat → Nat) (f11 : Nat → Int32) (m12_0 : Nat) (m12_1 : Nat) (m13_0 : Nat) (m13_1 : Nat) (z55_175 : Nat → Nat) (z56_176 : Nat → Nat) (z57_177 : Nat → Int32) (z62_178 : Nat) (z63_179 : Nat) (g_136 : Nat) (u_147 : Nat) : ((Nat → Nat) × Nat) → ((Nat → Nat) × Nat) ⊕ (((Nat → Nat) × (Nat → Nat) × (Nat → Int32) × (Nat → Nat) × Nat × Nat × Nat) ⊕ ((Nat → Nat) × (Nat → Nat) × (Nat → Int32) × (Nat → Nat) × Nat × Nat)) := fun (g_182, g_183) => (slet (sp_EM_clocks x16 m12_0 m12_1) (fun u_191 => (if u_191 ≤ g_183 then (Sum.inr (slet (sp_EM_into x16 q6 u_147) (fun u_194 => (slet (sp_EM_layConditions_p x16 z62_178 z63_179 q4 q9 q10 f11 m13_0 m13_1 z55_175 z56_176 z57_177 g_182 (100 + u_194) g_136) (fun (z55_197, z56_198, z57_199, z62_200, z63_201) => (Sum.inl (z55_197, z56_198, z57_199, g_182, z62_200, z63_201, (g_136 + 1)))))))) else (slet (sp_EM_setBy x16 f8 u_147) (fun r_202 => (slet (α := Nat) (slet (sp_EM_isOf r_202 (nI g_183)) (fun u_209 => (if u_209 = 0 then (slet (min (g_182 g_183) 120) (fun u_212 => u_212)) else g_136))) (fun g_203 => (slet (updN g_182 g_183 g_203) (fun q_207 => (Sum.inl (q_207, (g_183 + 1))))))))))))
noncomputable def sp_EM_layGaps_L4 (x16 : Nat) (x61 : Nat) (f3 : Nat → Int32) (q4 : Nat → Nat) (q5 : Nat → Nat) (q6 : Nat → Nat) (q7 : Nat → Nat) (f8 : Nat → Int32) (q9 : Nat → Nat) (q10 : Nat → Nat) (f11 : Nat → Int32) (m12_0 : Nat) (m12_1 : Nat) (m13_0 : Nat) (m13_1 : Nat) (m14_0 : Nat) (m14_1 : Nat) (q54 : Nat → Nat) : ((Nat → Nat) × (Nat → Nat) × (Nat → Int32) × (Nat → Nat) × Nat × Nat × Nat) → ((Nat → Nat) × (Nat → Nat) × (Nat → Int32) × (Nat → Nat) × Nat × Nat × Nat) ⊕ ((Nat → Nat) × (Nat → Nat) × (Nat → Int32) × (Nat → Nat) × Nat × Nat) := fun (g_130, g_131, g_132, g_133, g_134, g_135, g_136) => (if x61 < g_136 then (Sum.inr (g_130, g_131, g_132, g_133, g_134, g_135)) else (slet (min (q54 (g_136 - 1)) 13) (fun u_147 => (slet (sp_EM_holdsApart g_134 g_130 g_131 g_132 (g_136 - 1) g_136 1) (fun (z55_150, z56_151, z57_152) => (slet (sp_EM_outOf x16 q5 u_147) (fun u_154 => (slet (sp_EM_isUrgent x16 f3 u_154) (fun u_156 => (slet (α := Nat × (Nat → Nat) × (Nat → Nat) × (Nat → Int32)) (if u_156 = 0 then ((g_134 + 1), z55_150, z56_151, z57_152) else (slet (sp_EM_holdsApart (g_134 + 1) z55_150 z56_151 z57_152 g_136 (g_136 - 1) 1) (fun (z55_216, z56_217, z57_218) => (((g_134 + 1) + 1), z55_216, z56_217, z57_218)))) (fun (g_157, g_158, g_159, g_160) => (slet (sp_EM_outOf x16 q5 u_147) (fun u_166 => (slet (sp_EM_layConditions_p x16 g_157 g_135 q4 q9 q10 f11 m13_0 m13_1 g_158 g_159 g_160 g_133 (100 + u_166) g_136) (fun (z55_169, z56_170, z57_171, z62_172, z63_173) => (slet (sp_EM_layConditions_e x16 z62_172 z63_173 q7 q9 q10 f11 m13_0 m13_1 m14_0 m14_1 z55_169 z56_170 z57_171 g_133 u_147 g_136) (fun (z55_175, z56_176, z57_177, z62_178, z63_179) => (itrv (α := (Nat → Nat) × Nat) (β := (((Nat → Nat) × (Nat → Nat) × (Nat → Int32) × (Nat → Nat) × Nat × Nat × Nat) ⊕ ((Nat → Nat) × (Nat → Nat) × (Nat → Int32) × (Nat → Nat) × Nat × Nat))) (Sum.inr default) (sp_EM_layGaps_L3 x16 q4 q6 f8 q9 q10 f11 m12_0 m12_1 m13_0 m13_1 z55_175 z56_176 z57_177 z62_178 z63_179 g_136 u_147) (g_133, 0)))))))))))))))))))
noncomputable def sp_EM_layGaps_L5 (x16 : Nat) (x61 : Nat) (f3 : Nat → Int32) (q4 : Nat → Nat) (q5 : Nat → Nat) (q6 : Nat → Nat) (q7 : Nat → Nat) (f8 : Nat → Int32) (q9 : Nat → Nat) (q10 : Nat → Nat) (f11 : Nat → Int32) (m12_0 : Nat) (m12_1 : Nat) (m13_0 : Nat) (m13_1 : Nat) (m14_0 : Nat) (m14_1 : Nat) (m15_0 : Nat) (m15_1 : Nat) (q54 : Nat → Nat) (q55 : Nat → Nat) (q56 : Nat → Nat) (f57 : Nat → Int32) : ((Nat → Nat) × Nat) → ((Nat → Nat) × Nat) ⊕ ((Nat → Nat) × (Nat → Nat) × (Nat → Int32) × (Nat → Nat) × Nat × Nat) := fun (g_4, g_5) => (if 3 ≤ g_5 then (Sum.inr (slet (if x16 = 0 then m15_0 else m15_1) (fun u_15 => (if u_15 = 0 then (itrv (α := (Nat → Nat) × (Nat → Nat) × (Nat → Int32) × (Nat → Nat) × Nat × Nat × Nat) (β := ((Nat → Nat) × (Nat → Nat) × (Nat → Int32) × (Nat → Nat) × Nat × Nat)) default (sp_EM_layGaps_L2 x16 x61 f3 q4 q5 q6 q7 f8 q9 q10 f11 m12_0 m12_1 m13_0 m13_1 m14_0 m14_1 q54) (q55, q56, f57, g_4, 0, 0, 1)) else (slet (u_15 - 1) (fun vy_14 => (slet (sp_EM_layConditions_p x16 0 0 q4 q9 q10 f11 m13_0 m13_1 q55 q56 f57 g_4 (100 + vy_14) 0) (fun (z55_117, z56_118, z57_119, z62_120, z63_121) => (itrv (α := (Nat → Nat) × (Nat → Nat) × (Nat → Int32) × (Nat → Nat) × Nat × Nat × Nat) (β := ((Nat → Nat) × (Nat → Nat) × (Nat → Int32) × (Nat → Nat) × Nat × Nat)) default (sp_EM_layGaps_L4 x16 x61 f3 q4 q5 q6 q7 f8 q9 q10 f11 m12_0 m12_1 m13_0 m13_1 m14_0 m14_1 q54) (z55_117, z56_118, z57_119, g_4, z62_120, z63_121, 1)))))))))) else (slet (updN g_4 g_5 0) (fun q_219 => (Sum.inl (q_219, (g_5 + 1))))))
noncomputable def sp_EM_layGaps (x16 : Nat) (x61 : Nat) (f3 : Nat → Int32) (q4 : Nat → Nat) (q5 : Nat → Nat) (q6 : Nat → Nat) (q7 : Nat → Nat) (f8 : Nat → Int32) (q9 : Nat → Nat) (q10 : Nat → Nat) (f11 : Nat → Int32) (m12_0 : Nat) (m12_1 : Nat) (m13_0 : Nat) (m13_1 : Nat) (m14_0 : Nat) (m14_1 : Nat) (m15_0 : Nat) (m15_1 : Nat) (q54 : Nat → Nat) (q55 : Nat → Nat) (q56 : Nat → Nat) (f57 : Nat → Int32) (q58 : Nat → Nat) : (Nat → Nat) × (Nat → Nat) × (Nat → Int32) × (Nat → Nat) × Nat × Nat := (itrv (α := (Nat → Nat) × Nat) (β := ((Nat → Nat) × (Nat → Nat) × (Nat → Int32) × (Nat → Nat) × Nat × Nat)) default (sp_EM_layGaps_L5 x16 x61 f3 q4 q5 q6 q7 f8 q9 q10 f11 m12_0 m12_1 m13_0 m13_1 m14_0 m14_1 m15_0 m15_1 q54 q55 q56 f57) (q58, 0))
set_option maxHeartbeats 4000000 in
set_option maxRecDepth 100000 in
theorem c_EM_layGaps (l : Launch) (dC : Nat → ClassId) (dI : Nat → Nat → Nat) (sz : Nat) (ad : Nat → Nat) (ck : Nat → ClassId) (x0 : Int32) (x16 : Nat) (x18 : Nat) (x19 : Nat) (x20 : Int32) (x21 : Nat) (x22 : Nat) (x23 : Int32) (x24 : Int32) (x25 : Int32) (x26 : Nat) (x27 : Int32) (x28 : Nat) (x29 : Nat) (x30 : Nat) (x33 : Nat) (x45 : Int32) (x46 : Nat) (x52 : Nat) (x53 : Nat) (x61 : Nat) (x62 : Nat) (x63 : Nat) (x65 : Nat) (x66 : Int32) (f1 : Nat → Int32) (f2 : Nat → Int32) (f3 : Nat → Int32) (q4 : Nat → Nat) (q5 : Nat → Nat) (q6 : Nat → Nat) (q7 : Nat → Nat) (f8 : Nat → Int32) (q9 : Nat → Nat) (q10 : Nat → Nat) (f11 : Nat → Int32) (m12_0 m12_1 : Nat) (m13_0 m13_1 : Nat) (m14_0 m14_1 : Nat) (m15_0 m15_1 : Nat) (f17 : Nat → Int32) (q31 : Nat → Nat) (f32 : Nat → Int32) (f34 : Nat → Int32) (f35 : Nat → Int32) (f36 : Nat → Int32) (f37 : Nat → Int32) (q38 : Nat → Nat) (f39 : Nat → Int32) (f40 : Nat → Int32) (f41 : Nat → Int32) (m42_0 m42_1 : Nat) (f43 : Nat → Int32) (f44 : Nat → Int32) (f47 : Nat → Int32) (f48 : Nat → Int32) (f49 : Nat → Int32) (f50 : Nat → Int32) (f51 : Nat → Int32) (q54 : Nat → Nat) (q55 : Nat → Nat) (q56 : Nat → Nat) (f57 : Nat → Int32) (q58 : Nat → Nat) (f59 : Nat → Int32) (f60 : Nat → Int32) (f64 : Nat → Int32) (hx16 : x16 ≤ 1) (hx18 : x18 ≤ 900) (hx19 : x19 ≤ 900) (hx21 : x21 ≤ 900) (hx22 : x22 ≤ 4) (hx26 : x26 ≤ 6) (hx28 : x28 ≤ 1) (hx29 : x29 ≤ 1) (hx30 : x30 ≤ 1) (hx33 : x33 ≤ 20) (hx46 : x46 ≤ 5) (hx52 : x52 ≤ 2400) (hx53 : x53 ≤ 119) (hx61 : x61 ≤ 119) (hx62 : x62 ≤ 2000) (hx63 : x63 ≤ 1) (hx65 : x65 ≤ 7) (hm12_0 : m12_0 ≤ 3) (hm12_1 : m12_1 ≤ 3) (hm13_0 : m13_0 ≤ 8) (hm13_1 : m13_1 ≤ 8) (hm14_0 : m14_0 ≤ 14) (hm14_1 : m14_1 ≤ 14) (hm15_0 : m15_0 ≤ 8) (hm15_1 : m15_1 ≤ 8) (hm42_0 : m42_0 ≤ 120) (hm42_1 : m42_1 ≤ 400) (hbg : (x16 = 0 ∧ (m13_0 = 0 ∨ 1 ≤ m15_0)) ∨ (x16 = 1 ∧ (m13_1 = 0 ∨ 1 ≤ m15_1))) : Met l yX9_layGaps vs_EM_layGaps ({ frames := 4, cells := 0, slots := 0, locals := 89 }) (va_Pc [.ref (ad 0)] (pu_B (dC, dI) (mo_w ad ck x0 (nI x16) (nI x18) (nI x19) x20 (nI x21) (nI x22) x23 x24 x25 (nI x26) x27 (nI x28) (nI x29) (nI x30) (nI x33) x45 (nI x46) (nI x52) (nI x53) (nI x61) (nI x62) (nI x63) (nI x65) x66 f1 f2 f3 (bN 3 q4) (bN 7 q5) (bN 7 q6) (bN 4 q7) f8 (bN 2 q9) (bH q10) f11 (b2 m12_0 m12_1) (b2 m13_0 m13_1) (b2 m14_0 m14_1) (b2m m15_0 m15_1) f17 (bA 159 q31) f32 f34 f35 f36 f37 (bN 7 q38) f39 f40 f41 (b2 m42_0 m42_1) f43 f44 f47 f48 f49 f50 f51 (bN 13 q54) (bN 120 q55) (bN 120 q56) f57 (bN 120 q58) f59 f60 f64) (mo_t ck) sz)) (va_Qv (fun (_ : Unit) => True) (fun _ t => ∃ (z55 : Nat → Nat) (z56 : Nat → Nat) (z57 : Nat → Int32) (z58 : Nat → Nat) (z62 : Nat) (z63 : Nat), pu_E (dC, dI) (mo_w ad ck x0 (nI x16) (nI x18) (nI x19) x20 (nI x21) (nI x22) x23 x24 x25 (nI x26) x27 (nI x28) (nI x29) (nI x30) (nI x33) x45 (nI x46) (nI x52) (nI x53) (nI x61) (nI z62) (nI z63) (nI x65) x66 f1 f2 f3 (bN 3 q4) (bN 7 q5) (bN 7 q6) (bN 4 q7) f8 (bN 2 q9) (bH q10) f11 (b2 m12_0 m12_1) (b2 m13_0 m13_1) (b2 m14_0 m14_1) (b2m m15_0 m15_1) f17 (bA 159 q31) f32 f34 f35 f36 f37 (bN 7 q38) f39 f40 f41 (b2 m42_0 m42_1) f43 f44 f47 f48 f49 f50 f51 (bN 13 q54) (bN 120 z55) (bN 120 z56) z57 (bN 120 z58) f59 f60 f64) (mo_t ck) (va_A ((mo_w ad ck x0 (nI x16) (nI x18) (nI x19) x20 (nI x21) (nI x22) x23 x24 x25 (nI x26) x27 (nI x28) (nI x29) (nI x30) (nI x33) x45 (nI x46) (nI x52) (nI x53) (nI x61) (nI x62) (nI x63) (nI x65) x66 f1 f2 f3 (bN 3 q4) (bN 7 q5) (bN 7 q6) (bN 4 q7) f8 (bN 2 q9) (bH q10) f11 (b2 m12_0 m12_1) (b2 m13_0 m13_1) (b2 m14_0 m14_1) (b2m m15_0 m15_1) f17 (bA 159 q31) f32 f34 f35 f36 f37 (bN 7 q38) f39 f40 f41 (b2 m42_0 m42_1) f43 f44 f47 f48 f49 f50 f51 (bN 13 q54) (bN 120 q55) (bN 120 q56) f57 (bN 120 q58) f59 f60 f64)) sz) t ∧ (z62 ≤ 2000) ∧ (z63 ≤ 1) ∧ ((z55, z56, z57, z58, z62, z63) = (sp_EM_layGaps x16 x61 f3 q4 q5 q6 q7 f8 q9 q10 f11 m12_0 m12_1 m13_0 m13_1 m14_0 m14_1 m15_0 m15_1 q54 q55 q56 f57 q58))) (va_A ((mo_w ad ck x0 (nI x16) (nI x18) (nI x19) x20 (nI x21) (nI x22) x23 x24 x25 (nI x26) x27 (nI x28) (nI x29) (nI x30) (nI x33) x45 (nI x46) (nI x52) (nI x53) (nI x61) (nI x62) (nI x63) (nI x65) x66 f1 f2 f3 (bN 3 q4) (bN 7 q5) (bN 7 q6) (bN 4 q7) f8 (bN 2 q9) (bH q10) f11 (b2 m12_0 m12_1) (b2 m13_0 m13_1) (b2 m14_0 m14_1) (b2m m15_0 m15_1) f17 (bA 159 q31) f32 f34 f35 f36 f37 (bN 7 q38) f39 f40 f41 (b2 m42_0 m42_1) f43 f44 f47 f48 f49 f50 f51 (bN 13 q54) (bN 120 q55) (bN 120 q56) f57 (bN 120 q58) f59 f60 f64)) sz)) 0 0 (va_A ((mo_w ad ck x0 (nI x16) (nI x18) (nI x19) x20 (nI x21) (nI x22) x23 x24 x25 (nI x26) x27 (nI x28) (nI x29) (nI x30) (nI x33) x45 (nI x46) (nI x52) (nI x53) (nI x61) (nI x62) (nI x63) (nI x65) x66 f1 f2 f3 (bN 3 q4) (bN 7 q5) (bN 7 q6) (bN 4 q7) f8 (bN 2 q9) (bH q10) f11 (b2 m12_0 m12_1) (b2 m13_0 m13_1) (b2 m14_0 m14_1) (b2m m15_0 m15_1) f17 (bA 159 q31) f32 f34 f35 f36 f37 (bN 7 q38) f39 f40 f41 (b2 m42_0 m42_1) f43 f44 f47 f48 f49 f50 f51 (bN 13 q54) (bN 120 q55) (bN 120 q56) f57 (bN 120 q58) f59 f60 f64)) sz) := by
  refine Met.ofW (cc := cX9_layGaps) (maxL := 4) (ret := none) (by decide) rfl ?_
  intro p e s m args below meth c s₁ B hml hv
  obtain ⟨rfl, rfl, hP, hK, hD0⟩ := hv
  have hx := B.exec
  have hb := B.bytes
  have hr := B.returns
  have hts := atoms_spec (ws := vs_EM_layGaps) B.pre
  have v_1 := hts (.fieldLink RX9 432 "ClockReachModel" "gaps" "I") (List.mem_cons_of_mem _ vm_306)
  have v_2 := hts (.fieldLink RX9 435 "ClockReachModel" "isBroken" "Z") (List.mem_cons_of_mem _ vm_314)
  have v_3 := hts (.fieldLink RX9 130 "ClockReachModel" "setAt" "[I") (List.mem_cons_of_mem _ vm_313)
  have v_4 := hts (.fieldLink RX9 52 "ClockReachModel" "begins" "[I") (List.mem_cons_of_mem _ vm_126)
  have v_5 := hts (.fieldLink RX9 258 "ClockReachModel" "bank" "I") (List.mem_cons_of_mem _ vm_4)
  have v_11 := hts (.fieldLink RX9 429 "ClockReachModel" "pathMany" "I") (List.mem_cons_of_mem _ vm_303)
  have v_12 := hts (.fieldLink RX9 118 "ClockReachModel" "path" "[I") (List.mem_cons_of_mem _ vm_304)
  have hown : s.vm.findClass RX9 = some m.cls := findClass_of_methodNamed B.named
  have hlocks := B.notSynchronized
  have hiX9 : ∀ w ∈ wsX90, w ∈ vs_EM_layGaps := fun _ h => List.mem_cons_of_mem _ (vmi_L h)
  have hD := hD0.self (sz := s.heap.size)
  generalize hAe : va_A ((mo_w ad ck x0 (nI x16) (nI x18) (nI x19) x20 (nI x21) (nI x22) x23 x24 x25 (nI x26) x27 (nI x28) (nI x29) (nI x30) (nI x33) x45 (nI x46) (nI x52) (nI x53) (nI x61) (nI x62) (nI x63) (nI x65) x66 f1 f2 f3 (bN 3 q4) (bN 7 q5) (bN 7 q6) (bN 4 q7) f8 (bN 2 q9) (bH q10) f11 (b2 m12_0 m12_1) (b2 m13_0 m13_1) (b2 m14_0 m14_1) (b2m m15_0 m15_1) f17 (bA 159 q31) f32 f34 f35 f36 f37 (bN 7 q38) f39 f40 f41 (b2 m42_0 m42_1) f43 f44 f47 f48 f49 f50 f51 (bN 13 q54) (bN 120 q55) (bN 120 q56) f57 (bN 120 q58) f59 f60 f64)) s.heap.size = A at hD ⊢
  have hA : ∀ q : Nat, s.heap.size ≤ q → A q := fun q h => by rw [← hAe]; exact Or.inr h
  have hS : va_S A s.heap s.heap [] := va_S.rf
  have hl := lv_entry ([.ref (ad 0)]) (n := 4) (Nat.le_of_ble_eq_true rfl)
  rw [lg_entry_eq]
  generalize (lg_sl ([.ref (ad 0)]) ++ List.replicate (4 - (lg_sl ([.ref (ad 0)])).length) Slot.unset).toArray = ls at hl ⊢
  have hl : lv_has ls 4 [(0, .ref (ad 0))] := hl
  obtain ⟨RR, hRR⟩ : ∃ x, x = (sp_EM_layGaps x16 x61 f3 q4 q5 q6 q7 f8 q9 q10 f11 m12_0 m12_1 m13_0 m13_1 m14_0 m14_1 m15_0 m15_1 q54 q55 q56 f57 q58) := ⟨_, rfl⟩
  have hsp := hRR
  refine lv_aload_n hx hb dX9_layGaps_0 rfl (lv_at hl 0 rfl) ?_
  refine lv_iconst (v := 0) hx hb dX9_layGaps_1 (by decide) ?_
  refine va_put (D := (dC, dI)) (ci := 9) (v := .int 0) (ty := .int) (C := RX9) (T := TX9) (N := 67) hx hb hts hiX9 tyX9 tyX9_ok nmX9 hown hK hP hD hS 0 rfl rfl 62 (by decide) v_1 (fun _ h9 => h9) rfl (by decide +kernel) rfl rfl (Nat.le_of_ble_eq_true rfl) dX9_layGaps_2 (fun H locs hP hD hS => ?_)
  have hP : va_P (dC, dI) vwCl (mo_w ad ck x0 (nI x16) (nI x18) (nI x19) x20 (nI x21) (nI x22) x23 x24 x25 (nI x26) x27 (nI x28) (nI x29) (nI x30) (nI x33) x45 (nI x46) (nI x52) (nI x53) (nI x61) 0 (nI x63) (nI x65) x66 f1 f2 f3 (bN 3 q4) (bN 7 q5) (bN 7 q6) (bN 4 q7) f8 (bN 2 q9) (bH q10) f11 (b2 m12_0 m12_1) (b2 m13_0 m13_1) (b2 m14_0 m14_1) (b2m m15_0 m15_1) f17 (bA 159 q31) f32 f34 f35 f36 f37 (bN 7 q38) f39 f40 f41 (b2 m42_0 m42_1) f43 f44 f47 f48 f49 f50 f51 (bN 13 q54) (bN 120 q55) (bN 120 q56) f57 (bN 120 q58) f59 f60 f64) H := hP
  have hD : va_D A (mo_w ad ck x0 (nI x16) (nI x18) (nI x19) x20 (nI x21) (nI x22) x23 x24 x25 (nI x26) x27 (nI x28) (nI x29) (nI x30) (nI x33) x45 (nI x46) (nI x52) (nI x53) (nI x61) 0 (nI x63) (nI x65) x66 f1 f2 f3 (bN 3 q4) (bN 7 q5) (bN 7 q6) (bN 4 q7) f8 (bN 2 q9) (bH q10) f11 (b2 m12_0 m12_1) (b2 m13_0 m13_1) (b2 m14_0 m14_1) (b2m m15_0 m15_1) f17 (bA 159 q31) f32 f34 f35 f36 f37 (bN 7 q38) f39 f40 f41 (b2 m42_0 m42_1) f43 f44 f47 f48 f49 f50 f51 (bN 13 q54) (bN 120 q55) (bN 120 q56) f57 (bN 120 q58) f59 f60 f64) := hD
  refine lv_aload_n hx hb dX9_layGaps_5 rfl (lv_at hl 0 rfl) ?_
  refine lv_iconst (v := 0) hx hb dX9_layGaps_6 (by decide) ?_
  refine va_put (D := (dC, dI)) (ci := 9) (v := .int 0) (ty := .boolean) (C := RX9) (T := TX9) (N := 67) hx hb hts hiX9 tyX9 tyX9_ok nmX9 hown hK hP hD hS 0 rfl rfl 63 (by decide) v_2 (fun _ h9 => h9) rfl (by decide +kernel) rfl rfl (Nat.le_of_ble_eq_true rfl) dX9_layGaps_7 (fun H locs hP hD hS => ?_)
  have hP : va_P (dC, dI) vwCl (mo_w ad ck x0 (nI x16) (nI x18) (nI x19) x20 (nI x21) (nI x22) x23 x24 x25 (nI x26) x27 (nI x28) (nI x29) (nI x30) (nI x33) x45 (nI x46) (nI x52) (nI x53) (nI x61) 0 0 (nI x65) x66 f1 f2 f3 (bN 3 q4) (bN 7 q5) (bN 7 q6) (bN 4 q7) f8 (bN 2 q9) (bH q10) f11 (b2 m12_0 m12_1) (b2 m13_0 m13_1) (b2 m14_0 m14_1) (b2m m15_0 m15_1) f17 (bA 159 q31) f32 f34 f35 f36 f37 (bN 7 q38) f39 f40 f41 (b2 m42_0 m42_1) f43 f44 f47 f48 f49 f50 f51 (bN 13 q54) (bN 120 q55) (bN 120 q56) f57 (bN 120 q58) f59 f60 f64) H := hP
  have hD : va_D A (mo_w ad ck x0 (nI x16) (nI x18) (nI x19) x20 (nI x21) (nI x22) x23 x24 x25 (nI x26) x27 (nI x28) (nI x29) (nI x30) (nI x33) x45 (nI x46) (nI x52) (nI x53) (nI x61) 0 0 (nI x65) x66 f1 f2 f3 (bN 3 q4) (bN 7 q5) (bN 7 q6) (bN 4 q7) f8 (bN 2 q9) (bH q10) f11 (b2 m12_0 m12_1) (b2 m13_0 m13_1) (b2 m14_0 m14_1) (b2m m15_0 m15_1) f17 (bA 159 q31) f32 f34 f35 f36 f37 (bN 7 q38) f39 f40 f41 (b2 m42_0 m42_1) f43 f44 f47 f48 f49 f50 f51 (bN 13 q54) (bN 120 q55) (bN 120 q56) f57 (bN 120 q58) f59 f60 f64) := hD
  refine lv_iconst (v := 0) hx hb dX9_layGaps_10 (by decide) ?_
  refine lv_istore_n (lv' := [(1, .int 0), (0, .ref (ad 0))]) hx hb dX9_layGaps_11 rfl hl (by decide) rfl (fun ls hl => ?_)
  obtain ⟨lf_8, dlf_8, hlf_8, hsp⟩ := itr_ex hsp
  delta sp_EM_layGaps_L5 at hlf_8
  refine pu_while (fun nn H locs ls => ∃ (g_4 : Nat → Nat) (g_5 : Nat), nn = 3 - g_5 ∧ g_5 ≤ 3 ∧ 0 = 0 ∧ RR = itrv dlf_8 lf_8 (g_4, g_5) ∧ va_P (dC, dI) vwCl (mo_w ad ck x0 (nI x16) (nI x18) (nI x19) x20 (nI x21) (nI x22) x23 x24 x25 (nI x26) x27 (nI x28) (nI x29) (nI x30) (nI x33) x45 (nI x46) (nI x52) (nI x53) (nI x61) 0 0 (nI x65) x66 f1 f2 f3 (bN 3 q4) (bN 7 q5) (bN 7 q6) (bN 4 q7) f8 (bN 2 q9) (bH q10) f11 (b2 m12_0 m12_1) (b2 m13_0 m13_1) (b2 m14_0 m14_1) (b2m m15_0 m15_1) f17 (bA 159 q31) f32 f34 f35 f36 f37 (bN 7 q38) f39 f40 f41 (b2 m42_0 m42_1) f43 f44 f47 f48 f49 f50 f51 (bN 13 q54) (bN 120 q55) (bN 120 q56) f57 (bN 120 g_4) f59 f60 f64) H ∧ va_D A (mo_w ad ck x0 (nI x16) (nI x18) (nI x19) x20 (nI x21) (nI x22) x23 x24 x25 (nI x26) x27 (nI x28) (nI x29) (nI x30) (nI x33) x45 (nI x46) (nI x52) (nI x53) (nI x61) 0 0 (nI x65) x66 f1 f2 f3 (bN 3 q4) (bN 7 q5) (bN 7 q6) (bN 4 q7) f8 (bN 2 q9) (bH q10) f11 (b2 m12_0 m12_1) (b2 m13_0 m13_1) (b2 m14_0 m14_1) (b2m m15_0 m15_1) f17 (bA 159 q31) f32 f34 f35 f36 f37 (bN 7 q38) f39 f40 f41 (b2 m42_0 m42_1) f43 f44 f47 f48 f49 f50 f51 (bN 13 q54) (bN 120 q55) (bN 120 q56) f57 (bN 120 g_4) f59 f60 f64) ∧ va_S A s.heap H locs ∧ lv_has ls 4 [(0, .ref (ad 0)), (1, .int (nI g_5))]) 12 ?_ _ _ _ _ ⟨q58, 0, rfl, (Nat.le_of_ble_eq_true rfl), by omega, hsp, hP, hD, hS, lv_sub hl [1, 0] rfl⟩
  rintro nn ih_7 H locs ls ⟨g_4, g_5, rfl, hg_5, he_6, he_10, hP, hD, hS, hl⟩
  obtain ⟨S_9, hsp, hin_11, hout_12⟩ := itr_step hlf_8 he_10
  refine lv_iload_n hx hb dX9_layGaps_12 rfl (lv_at hl 1 rfl) ?_
  refine lv_iconst (v := 3) hx hb dX9_layGaps_13 (by decide) ?_
  refine lv_icmp_ge (tgt := 30) hx hb dX9_layGaps_14 (by decide) (fun c_13 => ?_) (fun c_13 => ?_)
  · have c_13 : 3 ≤ g_5 := (nI_leI (a := 3) (b := g_5) (Nat.le_of_ble_eq_true rfl) (Nat.lt_of_le_of_lt hg_5 (Nat.le_of_ble_eq_true rfl))).mp c_13
    replace hsp := hsp.trans (if_pos c_13)
    have hsp := hout_12 _ hsp
    refine lv_aload_n hx hb dX9_layGaps_30 rfl (lv_at hl 0 rfl) ?_
    refine lv_bipush (v := 100) hx hb dX9_layGaps_31 (by decide) ?_
    refine lv_aload_n hx hb dX9_layGaps_33 rfl (lv_at hl 0 rfl) ?_
    refine va_get (D := (dC, dI)) (ci := 9) (v := .ref (ad 15)) (C := RX9) (T := TX9) (N := 67) hx hb hts hiX9 hown hK hP 0 rfl rfl 15 (by decide) v_4 (fun _ h9 => h9) rfl dX9_layGaps_34 ?_
    refine lv_aload_n hx hb dX9_layGaps_37 rfl (lv_at hl 0 rfl) ?_
    refine va_get (D := (dC, dI)) (ci := 9) (v := .int (nI x16)) (C := RX9) (T := TX9) (N := 67) hx hb hts hiX9 hown hK hP 0 rfl rfl 16 (by decide) v_5 (fun _ h9 => h9) rfl dX9_layGaps_38 ?_
    refine va_iald hx hb hK hP 15 14 rfl rfl (vp_in_nI (n := x16) (Nat.lt_of_le_of_lt hx16 (Nat.le_of_ble_eq_true rfl)) (Nat.le_of_ble_eq_true rfl)) dX9_layGaps_41 ?_
    refine lv_topi (fun y_14 ey_14 => ?_)
    obtain ⟨u_15, hu_15, fu_15, xu_15⟩ := b2m_getx (a := m15_0) (b := m15_1) (i := x16) (by omega)
    have qy_14 := ey_14.trans fu_15
    replace hsp := hsp.trans (slet_eq xu_15)
    rcases mI_get u_15 with ⟨zy_14, wy_14⟩ | ⟨vy_14, zy_14, wy_14⟩
    · obtain rfl : y_14 = -1 := qy_14.trans wy_14
      replace hsp := hsp.trans (if_pos zy_14)
      refine lv_iadd hx hb dX9_layGaps_42 ?_
      refine lv_topi (fun y_16 ey_16 => ?_)
      obtain rfl : y_16 = 99 := ey_16.trans (by decide)
      refine lv_iconst (v := 0) hx hb dX9_layGaps_43 (by decide) ?_
      refine va_callv (va_runV (As := [.int 99, .int 0]) (rest := []) ⟨hx, hb, hml, hown, hts⟩ (c_EM_layConditions_z l dC dI _ ad ck x0 x16 x18 x19 x20 x21 x22 x23 x24 x25 x26 x27 x28 x29 x30 x33 x45 x46 x52 x53 x61 0 0 x65 x66 f1 f2 f3 q4 q5 q6 q7 f8 q9 q10 f11 m12_0 m12_1 m13_0 m13_1 m14_0 m14_1 m15_0 m15_1 f17 q31 f32 f34 f35 f36 f37 q38 f39 f40 f41 m42_0 m42_1 f43 f44 f47 f48 f49 f50 f51 q54 q55 q56 f57 g_4 f59 f60 f64 99 0 hx16 hx18 hx19 hx21 hx22 hx26 hx28 hx29 hx30 hx33 hx46 hx52 hx53 hx61 (Nat.le_of_ble_eq_true rfl) (Nat.le_of_ble_eq_true rfl) hx65 hm12_0 hm12_1 hm13_0 hm13_1 hm14_0 hm14_1 hm15_0 hm15_1 hm42_0 hm42_1 (Nat.le_of_ble_eq_true rfl) (by omega) (Nat.le_of_ble_eq_true rfl)) (cwV 2 hts g_EM_layGaps_EM_layConditions_z rfl rfl rfl (by decide +kernel) ⟨Nat.le_of_ble_eq_true rfl, Nat.le_of_ble_eq_true rfl⟩) ⟨pu_bl, va_recv hK hP (ci := 9) (q0 := 0) rfl rfl, pu_in hP hK hD⟩ rfl rfl hl.1 rfl (lv_room (Nat.le_of_ble_eq_true rfl)) dX9_layGaps_44 ⟨Nat.le_of_ble_eq_true rfl, Nat.le_of_ble_eq_true rfl⟩) hS (fun q _ h => pu_fr hS hA q h) (pu_fr hS hA) (fun u t H1 locs ht hvm hw hB hz1 hk1 hS => ?_)
      have hP := pu_keep hP hk1
      clear hk1 hz1 ht hvm
      generalize H1 = H at hP hS ⊢
      refine lv_iconst (v := 1) hx hb dX9_layGaps_47 (by decide) ?_
      refine lv_istore_n (lv' := [(1, .int 1), (0, .ref (ad 0))]) hx hb dX9_layGaps_48 rfl hl (by decide) rfl (fun ls hl => ?_)
      obtain ⟨lf_35, dlf_35, hlf_35, hsp⟩ := itr_ex hsp
      delta sp_EM_layGaps_L2 at hlf_35
      refine pu_while (fun nn H locs ls => ∃ (g_26 : Nat → Nat) (g_27 : Nat → Nat) (g_28 : Nat → Int32) (g_29 : Nat → Nat) (g_30 : Nat) (g_31 : Nat) (g_32 : Nat), nn = 120 - g_32 ∧ g_30 ≤ 1907 ∧ g_31 ≤ 1 ∧ (1 ≤ g_32 ∧ g_32 ≤ 120) ∧ g_30 + 13 ≤ 16 * g_32 ∧ RR = itrv dlf_35 lf_35 (g_26, g_27, g_28, g_29, g_30, g_31, g_32) ∧ va_P (dC, dI) vwCl (mo_w ad ck x0 (nI x16) (nI x18) (nI x19) x20 (nI x21) (nI x22) x23 x24 x25 (nI x26) x27 (nI x28) (nI x29) (nI x30) (nI x33) x45 (nI x46) (nI x52) (nI x53) (nI x61) (nI g_30) (nI g_31) (nI x65) x66 f1 f2 f3 (bN 3 q4) (bN 7 q5) (bN 7 q6) (bN 4 q7) f8 (bN 2 q9) (bH q10) f11 (b2 m12_0 m12_1) (b2 m13_0 m13_1) (b2 m14_0 m14_1) (b2m m15_0 m15_1) f17 (bA 159 q31) f32 f34 f35 f36 f37 (bN 7 q38) f39 f40 f41 (b2 m42_0 m42_1) f43 f44 f47 f48 f49 f50 f51 (bN 13 q54) (bN 120 g_26) (bN 120 g_27) g_28 (bN 120 g_29) f59 f60 f64) H ∧ va_D A (mo_w ad ck x0 (nI x16) (nI x18) (nI x19) x20 (nI x21) (nI x22) x23 x24 x25 (nI x26) x27 (nI x28) (nI x29) (nI x30) (nI x33) x45 (nI x46) (nI x52) (nI x53) (nI x61) (nI g_30) (nI g_31) (nI x65) x66 f1 f2 f3 (bN 3 q4) (bN 7 q5) (bN 7 q6) (bN 4 q7) f8 (bN 2 q9) (bH q10) f11 (b2 m12_0 m12_1) (b2 m13_0 m13_1) (b2 m14_0 m14_1) (b2m m15_0 m15_1) f17 (bA 159 q31) f32 f34 f35 f36 f37 (bN 7 q38) f39 f40 f41 (b2 m42_0 m42_1) f43 f44 f47 f48 f49 f50 f51 (bN 13 q54) (bN 120 g_26) (bN 120 g_27) g_28 (bN 120 g_29) f59 f60 f64) ∧ va_S A s.heap H locs ∧ lv_has ls 4 [(0, .ref (ad 0)), (1, .int (nI g_32))]) 49 ?_ _ _ _ _ ⟨q55, q56, f57, g_4, 0, 0, 1, rfl, (Nat.le_of_ble_eq_true rfl), (Nat.le_of_ble_eq_true rfl), ⟨by omega, by omega⟩, by omega, hsp, hP, hD, hS, lv_sub hl [1, 0] rfl⟩
      rintro nn ih_34 H locs ls ⟨g_26, g_27, g_28, g_29, g_30, g_31, g_32, rfl, hg_30, hg_31, hg_32, he_33, he_37, hP, hD, hS, hl⟩
      obtain ⟨S_36, hsp, hin_38, hout_39⟩ := itr_step hlf_35 he_37
      refine lv_iload_n hx hb dX9_layGaps_49 rfl (lv_at hl 1 rfl) ?_
      refine lv_aload_n hx hb dX9_layGaps_50 rfl (lv_at hl 0 rfl) ?_
      refine va_get (D := (dC, dI)) (ci := 9) (v := .int (nI x61)) (C := RX9) (T := TX9) (N := 67) hx hb hts hiX9 hown hK hP 0 rfl rfl 61 (by decide) v_11 (fun _ h9 => h9) rfl dX9_layGaps_51 ?_
      refine lv_icmp_gt (tgt := 178) hx hb dX9_layGaps_54 (by decide) (fun c_40 => ?_) (fun c_40 => ?_)
      · have c_40 : x61 < g_32 := (nI_ltI (a := x61) (b := g_32) (Nat.lt_of_le_of_lt hx61 (Nat.le_of_ble_eq_true rfl)) (Nat.lt_of_le_of_lt hg_32.2 (Nat.le_of_ble_eq_true rfl))).mp c_40
        replace hsp := hsp.trans (if_pos c_40)
        have hsp := hout_39 _ hsp
        exact W.vret hx hb hr (fun t ht hW => ⟨⟨(), rfl, trivial, ⟨g_26, g_27, g_28, g_29, g_30, g_31, ⟨by rw [ht]; exact hP, va_K.moved hW.alike hK, hD⟩, (Nat.le_trans hg_30 (Nat.le_of_ble_eq_true rfl)), hg_31, (hsp.symm.trans hRR)⟩⟩, hS.F ht⟩) hS.2.2 dX9_layGaps_178
      · have c_40 : ¬ x61 < g_32 := fun z => c_40 ((nI_ltI (a := x61) (b := g_32) (Nat.lt_of_le_of_lt hx61 (Nat.le_of_ble_eq_true rfl)) (Nat.lt_of_le_of_lt hg_32.2 (Nat.le_of_ble_eq_true rfl))).mpr z)
        replace hsp := hsp.trans (if_neg c_40)
        refine lv_aload_n hx hb dX9_layGaps_57 rfl (lv_at hl 0 rfl) ?_
        refine va_get (D := (dC, dI)) (ci := 9) (v := .ref (ad 54)) (C := RX9) (T := TX9) (N := 67) hx hb hts hiX9 hown hK hP 0 rfl rfl 54 (by decide) v_12 (fun _ h9 => h9) rfl dX9_layGaps_58 ?_
        refine lv_iload_n hx hb dX9_layGaps_61 rfl (lv_at hl 1 rfl) ?_
        refine lv_iconst (v := 1) hx hb dX9_layGaps_62 (by decide) ?_
        refine lv_isub hx hb dX9_layGaps_63 ?_
        refine lv_topi (fun y_41 ey_41 => ?_)
        obtain rfl : y_41 = (nI (g_32 - 1)) := ey_41.trans (pk_sub (a := g_32) (b := 1) (by omega))
        refine va_iald hx hb hK hP 35 34 rfl rfl (vp_in_nI (n := (g_32 - 1)) (by omega) (Nat.le_of_ble_eq_true rfl)) dX9_layGaps_64 ?_
        refine lv_topi (fun y_42 ey_42 => ?_)
        obtain ⟨u_43, hu_43, qu_43, xu_43⟩ := bN_getx 13 q54 (n := (g_32 - 1)) (by omega)
        obtain rfl : y_42 = nI u_43 := ey_42.trans qu_43
        replace hsp := hsp.trans (slet_eq xu_43)
        refine lv_istore_n (lv' := [(2, .int (nI u_43)), (0, .ref (ad 0)), (1, .int (nI g_32))]) hx hb dX9_layGaps_65 rfl hl (by decide) rfl (fun ls hl => ?_)
        refine lv_aload_n hx hb dX9_layGaps_66 rfl (lv_at hl 1 rfl) ?_
        refine lv_iload_n hx hb dX9_layGaps_67 rfl (lv_at hl 2 rfl) ?_
        refine lv_iconst (v := 1) hx hb dX9_layGaps_68 (by decide) ?_
        refine lv_isub hx hb dX9_layGaps_69 ?_
        refine lv_topi (fun y_44 ey_44 => ?_)
        obtain rfl : y_44 = (nI (g_32 - 1)) := ey_44.trans (pk_sub (a := g_32) (b := 1) (by omega))
        refine lv_iload_n hx hb dX9_layGaps_70 rfl (lv_at hl 2 rfl) ?_
        refine lv_iconst (v := 1) hx hb dX9_layGaps_71 (by decide) ?_
        have hFc := pu_free hD hS hA
        refine va_callv (va_runV (As := [.int (nI (g_32 - 1)), .int (nI g_32), .int 1]) (rest := []) ⟨hx, hb, hml, hown, hts⟩ (c_EM_holdsApart l dC dI _ ad ck x0 x16 x18 x19 x20 x21 x22 x23 x24 x25 x26 x27 x28 x29 x30 x33 x45 x46 x52 x53 x61 g_30 g_31 x65 x66 f1 f2 f3 q4 q5 q6 q7 f8 q9 q10 f11 m12_0 m12_1 m13_0 m13_1 m14_0 m14_1 m15_0 m15_1 f17 q31 f32 f34 f35 f36 f37 q38 f39 f40 f41 m42_0 m42_1 f43 f44 f47 f48 f49 f50 f51 q54 g_26 g_27 g_28 g_29 f59 f60 f64 (g_32 - 1) g_32 1 hx16 hx18 hx19 hx21 hx22 hx26 hx28 hx29 hx30 hx33 hx46 hx52 hx53 hx61 (Nat.le_trans hg_30 (Nat.le_of_ble_eq_true rfl)) hg_31 hx65 hm12_0 hm12_1 hm13_0 hm13_1 hm14_0 hm14_1 hm15_0 hm15_1 hm42_0 hm42_1 (by omega) hg_32.2) (cwV 3 hts g_EM_layGaps_EM_holdsApart rfl rfl rfl (by decide +kernel) ⟨Nat.le_of_ble_eq_true rfl, Nat.le_of_ble_eq_true rfl⟩) ⟨pu_bl, va_recv hK hP (ci := 9) (q0 := 0) rfl rfl, pu_in hP hK hD⟩ rfl rfl hl.1 rfl (lv_room (Nat.le_of_ble_eq_true rfl)) dX9_layGaps_72 ⟨Nat.le_of_ble_eq_true rfl, Nat.le_of_ble_eq_true rfl⟩) hS (fun q _ h => hFc q h) hFc (fun u t H1 locs ht hvm hw hB hz1 hk1 hS => ?_)
        obtain ⟨z55_46, z56_47, z57_48, ⟨hP1, -, hD1⟩, xr_45_0⟩ := hB
        rw [ht] at hP1
        have hP := hP1
        have hD := pu_all hFc hD1
        clear hP1 hD1 hFc
        clear hk1 hz1 ht hvm
        generalize H1 = H at hP hS ⊢
        replace hsp := hsp.trans (slet_eq xr_45_0)
        refine lv_aload_n hx hb dX9_layGaps_75 rfl (lv_at hl 1 rfl) ?_
        refine lv_aload_n hx hb dX9_layGaps_76 rfl (lv_at hl 1 rfl) ?_
        refine lv_iload_n hx hb dX9_layGaps_77 rfl (lv_at hl 0 rfl) ?_
        refine va_calli (va_runV (As := [.int (nI u_43)]) (rest := [.ref (ad 0)]) ⟨hx, hb, hml, hown, hts⟩ (c_EM_outOf l dC dI _ ad ck x0 x16 x18 x19 x20 x21 x22 x23 x24 x25 x26 x27 x28 x29 x30 x33 x45 x46 x52 x53 x61 (g_30 + 1) g_31 x65 x66 f1 f2 f3 q4 q5 q6 q7 f8 q9 q10 f11 m12_0 m12_1 m13_0 m13_1 m14_0 m14_1 m15_0 m15_1 f17 q31 f32 f34 f35 f36 f37 q38 f39 f40 f41 m42_0 m42_1 f43 f44 f47 f48 f49 f50 f51 q54 z55_46 z56_47 z57_48 g_29 f59 f60 f64 u_43 hx16 hx18 hx19 hx21 hx22 hx26 hx28 hx29 hx30 hx33 hx46 hx52 hx53 hx61 (by omega) hg_31 hx65 hm12_0 hm12_1 hm13_0 hm13_1 hm14_0 hm14_1 hm15_0 hm15_1 hm42_0 hm42_1 hu_43) (cwV 1 hts g_EM_layGaps_EM_outOf rfl rfl rfl (by decide +kernel) ⟨Nat.le_of_ble_eq_true rfl, Nat.le_of_ble_eq_true rfl⟩) ⟨pu_bl, va_recv hK hP (ci := 9) (q0 := 0) rfl rfl, pu_in hP hK hD⟩ rfl rfl hl.1 rfl (lv_room (Nat.le_of_ble_eq_true rfl)) dX9_layGaps_78 ⟨Nat.le_of_ble_eq_true rfl, Nat.le_of_ble_eq_true rfl⟩) hS (fun q _ h => pu_fr hS hA q h) (pu_fr hS hA) (fun r_49 u t H1 locs ht hvm hw hB hz1 hk1 hS => ?_)
        have hP := pu_keep hP hk1
        clear hk1 hz1 ht hvm
        generalize H1 = H at hP hS ⊢
        obtain ⟨u_50, hu_50, rfl, iu_50⟩ := hw
        replace hsp := hsp.trans (slet_eq iu_50)
        refine va_calli (va_runV (As := [.int (nI u_50)]) (rest := []) ⟨hx, hb, hml, hown, hts⟩ (c_EM_isUrgent l dC dI _ ad ck x0 x16 x18 x19 x20 x21 x22 x23 x24 x25 x26 x27 x28 x29 x30 x33 x45 x46 x52 x53 x61 (g_30 + 1) g_31 x65 x66 f1 f2 f3 q4 q5 q6 q7 f8 q9 q10 f11 m12_0 m12_1 m13_0 m13_1 m14_0 m14_1 m15_0 m15_1 f17 q31 f32 f34 f35 f36 f37 q38 f39 f40 f41 m42_0 m42_1 f43 f44 f47 f48 f49 f50 f51 q54 z55_46 z56_47 z57_48 g_29 f59 f60 f64 u_50 hx16 hx18 hx19 hx21 hx22 hx26 hx28 hx29 hx30 hx33 hx46 hx52 hx53 hx61 (by omega) hg_31 hx65 hm12_0 hm12_1 hm13_0 hm13_1 hm14_0 hm14_1 hm15_0 hm15_1 hm42_0 hm42_1 hu_50) (cwV 1 hts g_EM_layGaps_EM_isUrgent rfl rfl rfl (by decide +kernel) ⟨Nat.le_of_ble_eq_true rfl, Nat.le_of_ble_eq_true rfl⟩) ⟨pu_bl, va_recv hK hP (ci := 9) (q0 := 0) rfl rfl, pu_in hP hK hD⟩ rfl rfl hl.1 rfl (lv_room (Nat.le_of_ble_eq_true rfl)) dX9_layGaps_81 ⟨Nat.le_of_ble_eq_true rfl, Nat.le_of_ble_eq_true rfl⟩) hS (fun q _ h => pu_fr hS hA q h) (pu_fr hS hA) (fun r_51 u t H1 locs ht hvm hw hB hz1 hk1 hS => ?_)
        have hP := pu_keep hP hk1
        clear hk1 hz1 ht hvm
        generalize H1 = H at hP hS ⊢
        obtain ⟨u_52, hu_52, rfl, iu_52⟩ := hw
        replace hsp := hsp.trans (slet_eq iu_52)
        obtain ⟨JR_59, hJR_59, hsp⟩ := slet_ex hsp
        refine pu_join (fun H locs ls st => ∃ (g_53 : Nat) (g_54 : Nat → Nat) (g_55 : Nat → Nat) (g_56 : Nat → Int32), st = [] ∧ (1 ≤ g_53 ∧ g_53 ≤ 1909) ∧ g_53 + 13 ≤ 16 * g_32 + 2 ∧ (g_53, g_54, g_55, g_56) = JR_59 ∧ va_P (dC, dI) vwCl (mo_w ad ck x0 (nI x16) (nI x18) (nI x19) x20 (nI x21) (nI x22) x23 x24 x25 (nI x26) x27 (nI x28) (nI x29) (nI x30) (nI x33) x45 (nI x46) (nI x52) (nI x53) (nI x61) (nI g_53) (nI g_31) (nI x65) x66 f1 f2 f3 (bN 3 q4) (bN 7 q5) (bN 7 q6) (bN 4 q7) f8 (bN 2 q9) (bH q10) f11 (b2 m12_0 m12_1) (b2 m13_0 m13_1) (b2 m14_0 m14_1) (b2m m15_0 m15_1) f17 (bA 159 q31) f32 f34 f35 f36 f37 (bN 7 q38) f39 f40 f41 (b2 m42_0 m42_1) f43 f44 f47 f48 f49 f50 f51 (bN 13 q54) (bN 120 g_54) (bN 120 g_55) g_56 (bN 120 g_29) f59 f60 f64) H ∧ va_D A (mo_w ad ck x0 (nI x16) (nI x18) (nI x19) x20 (nI x21) (nI x22) x23 x24 x25 (nI x26) x27 (nI x28) (nI x29) (nI x30) (nI x33) x45 (nI x46) (nI x52) (nI x53) (nI x61) (nI g_53) (nI g_31) (nI x65) x66 f1 f2 f3 (bN 3 q4) (bN 7 q5) (bN 7 q6) (bN 4 q7) f8 (bN 2 q9) (bH q10) f11 (b2 m12_0 m12_1) (b2 m13_0 m13_1) (b2 m14_0 m14_1) (b2m m15_0 m15_1) f17 (bA 159 q31) f32 f34 f35 f36 f37 (bN 7 q38) f39 f40 f41 (b2 m42_0 m42_1) f43 f44 f47 f48 f49 f50 f51 (bN 13 q54) (bN 120 g_54) (bN 120 g_55) g_56 (bN 120 g_29) f59 f60 f64) ∧ va_S A s.heap H locs ∧ lv_has ls 4 [(0, .ref (ad 0)), (1, .int (nI g_32)), (2, .int (nI u_43))]) 96 ?_ (fun j_58 => ?_)
        · rintro H locs ls st ⟨g_53, g_54, g_55, g_56, rfl, hg_53, he_57, he_60, hP, hD, hS, hl⟩
          rw [← he_60] at hsp
          refine lv_aload_n hx hb dX9_layGaps_96 rfl (lv_at hl 0 rfl) ?_
          refine lv_bipush (v := 100) hx hb dX9_layGaps_97 (by decide) ?_
          refine lv_aload_n hx hb dX9_layGaps_99 rfl (lv_at hl 0 rfl) ?_
          refine lv_iload_n hx hb dX9_layGaps_100 rfl (lv_at hl 2 rfl) ?_
          refine va_calli (va_runV (As := [.int (nI u_43)]) (rest := [.int 100, .ref (ad 0)]) ⟨hx, hb, hml, hown, hts⟩ (c_EM_outOf l dC dI _ ad ck x0 x16 x18 x19 x20 x21 x22 x23 x24 x25 x26 x27 x28 x29 x30 x33 x45 x46 x52 x53 x61 g_53 g_31 x65 x66 f1 f2 f3 q4 q5 q6 q7 f8 q9 q10 f11 m12_0 m12_1 m13_0 m13_1 m14_0 m14_1 m15_0 m15_1 f17 q31 f32 f34 f35 f36 f37 q38 f39 f40 f41 m42_0 m42_1 f43 f44 f47 f48 f49 f50 f51 q54 g_54 g_55 g_56 g_29 f59 f60 f64 u_43 hx16 hx18 hx19 hx21 hx22 hx26 hx28 hx29 hx30 hx33 hx46 hx52 hx53 hx61 (Nat.le_trans hg_53.2 (Nat.le_of_ble_eq_true rfl)) hg_31 hx65 hm12_0 hm12_1 hm13_0 hm13_1 hm14_0 hm14_1 hm15_0 hm15_1 hm42_0 hm42_1 hu_43) (cwV 1 hts g_EM_layGaps_EM_outOf rfl rfl rfl (by decide +kernel) ⟨Nat.le_of_ble_eq_true rfl, Nat.le_of_ble_eq_true rfl⟩) ⟨pu_bl, va_recv hK hP (ci := 9) (q0 := 0) rfl rfl, pu_in hP hK hD⟩ rfl rfl hl.1 rfl (lv_room (Nat.le_of_ble_eq_true rfl)) dX9_layGaps_101 ⟨Nat.le_of_ble_eq_true rfl, Nat.le_of_ble_eq_true rfl⟩) hS (fun q _ h => pu_fr hS hA q h) (pu_fr hS hA) (fun r_61 u t H1 locs ht hvm hw hB hz1 hk1 hS => ?_)
          have hP := pu_keep hP hk1
          clear hk1 hz1 ht hvm
          generalize H1 = H at hP hS ⊢
          obtain ⟨u_62, hu_62, rfl, iu_62⟩ := hw
          replace hsp := hsp.trans (slet_eq iu_62)
          refine lv_iadd hx hb dX9_layGaps_104 ?_
          refine lv_topi (fun y_63 ey_63 => ?_)
          obtain rfl : y_63 = (nI (100 + u_62)) := ey_63.trans (nI_add 100 u_62)
          refine lv_iload_n hx hb dX9_layGaps_105 rfl (lv_at hl 1 rfl) ?_
          have hFc := pu_free hD hS hA
          refine va_callv (va_runV (As := [.int (nI (100 + u_62)), .int (nI g_32)]) (rest := []) ⟨hx, hb, hml, hown, hts⟩ (c_EM_layConditions_p l dC dI _ ad ck x0 x16 x18 x19 x20 x21 x22 x23 x24 x25 x26 x27 x28 x29 x30 x33 x45 x46 x52 x53 x61 g_53 g_31 x65 x66 f1 f2 f3 q4 q5 q6 q7 f8 q9 q10 f11 m12_0 m12_1 m13_0 m13_1 m14_0 m14_1 m15_0 m15_1 f17 q31 f32 f34 f35 f36 f37 q38 f39 f40 f41 m42_0 m42_1 f43 f44 f47 f48 f49 f50 f51 q54 g_54 g_55 g_56 g_29 f59 f60 f64 (100 + u_62) g_32 hx16 hx18 hx19 hx21 hx22 hx26 hx28 hx29 hx30 hx33 hx46 hx52 hx53 hx61 (Nat.le_trans hg_53.2 (Nat.le_of_ble_eq_true rfl)) hg_31 hx65 hm12_0 hm12_1 hm13_0 hm13_1 hm14_0 hm14_1 hm15_0 hm15_1 hm42_0 hm42_1 (by omega) (by omega) (by omega)) (cwV 2 hts g_EM_layGaps_EM_layConditions_p rfl rfl rfl (by decide +kernel) ⟨Nat.le_of_ble_eq_true rfl, Nat.le_of_ble_eq_true rfl⟩) ⟨pu_bl, va_recv hK hP (ci := 9) (q0 := 0) rfl rfl, pu_in hP hK hD⟩ rfl rfl hl.1 rfl (lv_room (Nat.le_of_ble_eq_true rfl)) dX9_layGaps_106 ⟨Nat.le_of_ble_eq_true rfl, Nat.le_of_ble_eq_true rfl⟩) hS (fun q _ h => hFc q h) hFc (fun u t H1 locs ht hvm hw hB hz1 hk1 hS => ?_)
          obtain ⟨z55_65, z56_66, z57_67, z62_68, z63_69, ⟨hP1, -, hD1⟩, hz62_68, hz63_69, xr_64_0, xr_64_1⟩ := hB
          rw [ht] at hP1
          have hP := hP1
          have hD := pu_all hFc hD1
          clear hP1 hD1 hFc
          clear hk1 hz1 ht hvm
          generalize H1 = H at hP hS ⊢
          replace hsp := hsp.trans (slet_eq xr_64_1)
          refine lv_aload_n hx hb dX9_layGaps_109 rfl (lv_at hl 0 rfl) ?_
          refine lv_iload_n hx hb dX9_layGaps_110 rfl (lv_at hl 2 rfl) ?_
          refine lv_iload_n hx hb dX9_layGaps_111 rfl (lv_at hl 1 rfl) ?_
          have hFc := pu_free hD hS hA
          refine va_callv (va_runV (As := [.int (nI u_43), .int (nI g_32)]) (rest := []) ⟨hx, hb, hml, hown, hts⟩ (c_EM_layConditions_e l dC dI _ ad ck x0 x16 x18 x19 x20 x21 x22 x23 x24 x25 x26 x27 x28 x29 x30 x33 x45 x46 x52 x53 x61 z62_68 z63_69 x65 x66 f1 f2 f3 q4 q5 q6 q7 f8 q9 q10 f11 m12_0 m12_1 m13_0 m13_1 m14_0 m14_1 m15_0 m15_1 f17 q31 f32 f34 f35 f36 f37 q38 f39 f40 f41 m42_0 m42_1 f43 f44 f47 f48 f49 f50 f51 q54 z55_65 z56_66 z57_67 g_29 f59 f60 f64 u_43 g_32 hx16 hx18 hx19 hx21 hx22 hx26 hx28 hx29 hx30 hx33 hx46 hx52 hx53 hx61 (by omega) hz63_69 hx65 hm12_0 hm12_1 hm13_0 hm13_1 hm14_0 hm14_1 hm15_0 hm15_1 hm42_0 hm42_1 hu_43 (by omega)) (cwV 2 hts g_EM_layGaps_EM_layConditions_e rfl rfl rfl (by decide +kernel) ⟨Nat.le_of_ble_eq_true rfl, Nat.le_of_ble_eq_true rfl⟩) ⟨pu_bl, va_recv hK hP (ci := 9) (q0 := 0) rfl rfl, pu_in hP hK hD⟩ rfl rfl hl.1 rfl (lv_room (Nat.le_of_ble_eq_true rfl)) dX9_layGaps_112 ⟨Nat.le_of_ble_eq_true rfl, Nat.le_of_ble_eq_true rfl⟩) hS (fun q _ h => hFc q h) hFc (fun u t H1 locs ht hvm hw hB hz1 hk1 hS => ?_)
          obtain ⟨z55_71, z56_72, z57_73, z62_74, z63_75, ⟨hP1, -, hD1⟩, hz62_74, hz63_75, xr_70_0, xr_70_1⟩ := hB
          rw [ht] at hP1
          have hP := hP1
          have hD := pu_all hFc hD1
          clear hP1 hD1 hFc
          clear hk1 hz1 ht hvm
          generalize H1 = H at hP hS ⊢
          replace hsp := hsp.trans (slet_eq xr_70_1)
          refine lv_iconst (v := 0) hx hb dX9_layGaps_115 (by decide) ?_
          refine lv_istore_n (lv' := [(3, .int 0), (0, .ref (ad 0)), (1, .int (nI g_32)), (2, .int (nI u_43))]) hx hb dX9_layGaps_116 rfl hl (by decide) rfl (fun ls hl => ?_)
          obtain ⟨lf_81, dlf_81, hlf_81, hsp⟩ := itr_ex hsp
          delta sp_EM_layGaps_L1 at hlf_81
          refine pu_while (fun nn H locs ls => ∃ (g_78 : Nat → Nat) (g_79 : Nat), nn = 3 - g_79 ∧ g_79 ≤ 3 ∧ S_36 = itrv dlf_81 lf_81 (g_78, g_79) ∧ va_P (dC, dI) vwCl (mo_w ad ck x0 (nI x16) (nI x18) (nI x19) x20 (nI x21) (nI x22) x23 x24 x25 (nI x26) x27 (nI x28) (nI x29) (nI x30) (nI x33) x45 (nI x46) (nI x52) (nI x53) (nI x61) (nI z62_74) (nI z63_75) (nI x65) x66 f1 f2 f3 (bN 3 q4) (bN 7 q5) (bN 7 q6) (bN 4 q7) f8 (bN 2 q9) (bH q10) f11 (b2 m12_0 m12_1) (b2 m13_0 m13_1) (b2 m14_0 m14_1) (b2m m15_0 m15_1) f17 (bA 159 q31) f32 f34 f35 f36 f37 (bN 7 q38) f39 f40 f41 (b2 m42_0 m42_1) f43 f44 f47 f48 f49 f50 f51 (bN 13 q54) (bN 120 z55_71) (bN 120 z56_72) z57_73 (bN 120 g_78) f59 f60 f64) H ∧ va_D A (mo_w ad ck x0 (nI x16) (nI x18) (nI x19) x20 (nI x21) (nI x22) x23 x24 x25 (nI x26) x27 (nI x28) (nI x29) (nI x30) (nI x33) x45 (nI x46) (nI x52) (nI x53) (nI x61) (nI z62_74) (nI z63_75) (nI x65) x66 f1 f2 f3 (bN 3 q4) (bN 7 q5) (bN 7 q6) (bN 4 q7) f8 (bN 2 q9) (bH q10) f11 (b2 m12_0 m12_1) (b2 m13_0 m13_1) (b2 m14_0 m14_1) (b2m m15_0 m15_1) f17 (bA 159 q31) f32 f34 f35 f36 f37 (bN 7 q38) f39 f40 f41 (b2 m42_0 m42_1) f43 f44 f47 f48 f49 f50 f51 (bN 13 q54) (bN 120 z55_71) (bN 120 z56_72) z57_73 (bN 120 g_78) f59 f60 f64) ∧ va_S A s.heap H locs ∧ lv_has ls 4 [(0, .ref (ad 0)), (1, .int (nI g_32)), (2, .int (nI u_43)), (3, .int (nI g_79))]) 117 ?_ _ _ _ _ ⟨g_29, 0, rfl, (Nat.le_of_ble_eq_true rfl), hsp, hP, hD, hS, lv_sub hl [1, 2, 3, 0] rfl⟩
          rintro nn ih_80 H locs ls ⟨g_78, g_79, rfl, hg_79, he_83, hP, hD, hS, hl⟩
          obtain ⟨S_82, hsp, hin_84, hout_85⟩ := itr_step hlf_81 he_83
          refine lv_iload_n hx hb dX9_layGaps_117 rfl (lv_at hl 3 rfl) ?_
          refine lv_aload_n hx hb dX9_layGaps_118 rfl (lv_at hl 0 rfl) ?_
          refine va_calli (va_runV (As := []) (rest := [.int (nI g_79)]) ⟨hx, hb, hml, hown, hts⟩ (c_EM_clocks l dC dI _ ad ck x0 x16 x18 x19 x20 x21 x22 x23 x24 x25 x26 x27 x28 x29 x30 x33 x45 x46 x52 x53 x61 z62_74 z63_75 x65 x66 f1 f2 f3 q4 q5 q6 q7 f8 q9 q10 f11 m12_0 m12_1 m13_0 m13_1 m14_0 m14_1 m15_0 m15_1 f17 q31 f32 f34 f35 f36 f37 q38 f39 f40 f41 m42_0 m42_1 f43 f44 f47 f48 f49 f50 f51 q54 z55_71 z56_72 z57_73 g_78 f59 f60 f64 hx16 hx18 hx19 hx21 hx22 hx26 hx28 hx29 hx30 hx33 hx46 hx52 hx53 hx61 hz62_74 hz63_75 hx65 hm12_0 hm12_1 hm13_0 hm13_1 hm14_0 hm14_1 hm15_0 hm15_1 hm42_0 hm42_1) (cwV 0 hts g_EM_layGaps_EM_clocks rfl rfl rfl (by decide +kernel) ⟨Nat.le_of_ble_eq_true rfl, Nat.le_of_ble_eq_true rfl⟩) ⟨pu_bl, va_recv hK hP (ci := 9) (q0 := 0) rfl rfl, pu_in hP hK hD⟩ rfl rfl hl.1 rfl (lv_room (Nat.le_of_ble_eq_true rfl)) dX9_layGaps_119 ⟨Nat.le_of_ble_eq_true rfl, Nat.le_of_ble_eq_true rfl⟩) hS (fun q _ h => pu_fr hS hA q h) (pu_fr hS hA) (fun r_86 u t H1 locs ht hvm hw hB hz1 hk1 hS => ?_)
          have hP := pu_keep hP hk1
          clear hk1 hz1 ht hvm
          generalize H1 = H at hP hS ⊢
          obtain ⟨u_87, hu_87, rfl, iu_87⟩ := hw
          replace hsp := hsp.trans (slet_eq iu_87)
          refine lv_icmp_ge (tgt := 159) hx hb dX9_layGaps_122 (by decide) (fun c_88 => ?_) (fun c_88 => ?_)
          · have c_88 : u_87 ≤ g_79 := (nI_leI (a := u_87) (b := g_79) (Nat.lt_of_le_of_lt hu_87 (Nat.le_of_ble_eq_true rfl)) (Nat.lt_of_le_of_lt hg_79 (Nat.le_of_ble_eq_true rfl))).mp c_88
            replace hsp := hsp.trans (if_pos c_88)
            have hsp := hout_85 _ hsp
            refine lv_aload_n hx hb dX9_layGaps_159 rfl (lv_at hl 0 rfl) ?_
            refine lv_bipush (v := 100) hx hb dX9_layGaps_160 (by decide) ?_
            refine lv_aload_n hx hb dX9_layGaps_162 rfl (lv_at hl 0 rfl) ?_
            refine lv_iload_n hx hb dX9_layGaps_163 rfl (lv_at hl 2 rfl) ?_
            refine va_calli (va_runV (As := [.int (nI u_43)]) (rest := [.int 100, .ref (ad 0)]) ⟨hx, hb, hml, hown, hts⟩ (c_EM_into l dC dI _ ad ck x0 x16 x18 x19 x20 x21 x22 x23 x24 x25 x26 x27 x28 x29 x30 x33 x45 x46 x52 x53 x61 z62_74 z63_75 x65 x66 f1 f2 f3 q4 q5 q6 q7 f8 q9 q10 f11 m12_0 m12_1 m13_0 m13_1 m14_0 m14_1 m15_0 m15_1 f17 q31 f32 f34 f35 f36 f37 q38 f39 f40 f41 m42_0 m42_1 f43 f44 f47 f48 f49 f50 f51 q54 z55_71 z56_72 z57_73 g_78 f59 f60 f64 u_43 hx16 hx18 hx19 hx21 hx22 hx26 hx28 hx29 hx30 hx33 hx46 hx52 hx53 hx61 hz62_74 hz63_75 hx65 hm12_0 hm12_1 hm13_0 hm13_1 hm14_0 hm14_1 hm15_0 hm15_1 hm42_0 hm42_1 hu_43) (cwV 1 hts g_EM_layGaps_EM_into rfl rfl rfl (by decide +kernel) ⟨Nat.le_of_ble_eq_true rfl, Nat.le_of_ble_eq_true rfl⟩) ⟨pu_bl, va_recv hK hP (ci := 9) (q0 := 0) rfl rfl, pu_in hP hK hD⟩ rfl rfl hl.1 rfl (lv_room (Nat.le_of_ble_eq_true rfl)) dX9_layGaps_164 ⟨Nat.le_of_ble_eq_true rfl, Nat.le_of_ble_eq_true rfl⟩) hS (fun q _ h => pu_fr hS hA q h) (pu_fr hS hA) (fun r_89 u t H1 locs ht hvm hw hB hz1 hk1 hS => ?_)
            have hP := pu_keep hP hk1
            clear hk1 hz1 ht hvm
            generalize H1 = H at hP hS ⊢
            obtain ⟨u_90, hu_90, rfl, iu_90⟩ := hw
            replace hsp := hsp.trans (slet_eq iu_90)
            refine lv_iadd hx hb dX9_layGaps_167 ?_
            refine lv_topi (fun y_91 ey_91 => ?_)
            obtain rfl : y_91 = (nI (100 + u_90)) := ey_91.trans (nI_add 100 u_90)
            refine lv_iload_n hx hb dX9_layGaps_168 rfl (lv_at hl 1 rfl) ?_
            have hFc := pu_free hD hS hA
            refine va_callv (va_runV (As := [.int (nI (100 + u_90)), .int (nI g_32)]) (rest := []) ⟨hx, hb, hml, hown, hts⟩ (c_EM_layConditions_p l dC dI _ ad ck x0 x16 x18 x19 x20 x21 x22 x23 x24 x25 x26 x27 x28 x29 x30 x33 x45 x46 x52 x53 x61 z62_74 z63_75 x65 x66 f1 f2 f3 q4 q5 q6 q7 f8 q9 q10 f11 m12_0 m12_1 m13_0 m13_1 m14_0 m14_1 m15_0 m15_1 f17 q31 f32 f34 f35 f36 f37 q38 f39 f40 f41 m42_0 m42_1 f43 f44 f47 f48 f49 f50 f51 q54 z55_71 z56_72 z57_73 g_78 f59 f60 f64 (100 + u_90) g_32 hx16 hx18 hx19 hx21 hx22 hx26 hx28 hx29 hx30 hx33 hx46 hx52 hx53 hx61 (by omega) hz63_75 hx65 hm12_0 hm12_1 hm13_0 hm13_1 hm14_0 hm14_1 hm15_0 hm15_1 hm42_0 hm42_1 (by omega) (by omega) (by omega)) (cwV 2 hts g_EM_layGaps_EM_layConditions_p rfl rfl rfl (by decide +kernel) ⟨Nat.le_of_ble_eq_true rfl, Nat.le_of_ble_eq_true rfl⟩) ⟨pu_bl, va_recv hK hP (ci := 9) (q0 := 0) rfl rfl, pu_in hP hK hD⟩ rfl rfl hl.1 rfl (lv_room (Nat.le_of_ble_eq_true rfl)) dX9_layGaps_169 ⟨Nat.le_of_ble_eq_true rfl, Nat.le_of_ble_eq_true rfl⟩) hS (fun q _ h => hFc q h) hFc (fun u t H1 locs ht hvm hw hB hz1 hk1 hS => ?_)
            obtain ⟨z55_93, z56_94, z57_95, z62_96, z63_97, ⟨hP1, -, hD1⟩, hz62_96, hz63_97, xr_92_0, xr_92_1⟩ := hB
            rw [ht] at hP1
            have hP := hP1
            have hD := pu_all hFc hD1
            clear hP1 hD1 hFc
            clear hk1 hz1 ht hvm
            generalize H1 = H at hP hS ⊢
            replace hsp := hsp.trans (slet_eq xr_92_1)
            refine lv_iinc (v := (nI (g_32 + 1))) (lv' := [(1, .int (nI (g_32 + 1))), (0, .ref (ad 0)), (2, .int (nI u_43)), (3, .int (nI g_79))]) hx hb dX9_layGaps_172 hl (k := 1) rfl (nI_1 _) (by decide) rfl (fun ls hl => ?_)
            refine lv_goto (tgt := 49) hx hb dX9_layGaps_175 (by decide) ?_
            exact ih_34 (120 - (g_32 + 1)) (by omega) _ _ _ ⟨z55_93, z56_94, z57_95, g_78, z62_96, z63_97, (g_32 + 1), rfl, (by omega), hz63_97, ⟨by omega, by omega⟩, by omega, hin_38 _ hsp, hP, hD, hS, lv_sub hl [1, 0] rfl⟩
          · have c_88 : ¬ u_87 ≤ g_79 := fun z => c_88 ((nI_leI (a := u_87) (b := g_79) (Nat.lt_of_le_of_lt hu_87 (Nat.le_of_ble_eq_true rfl)) (Nat.lt_of_le_of_lt hg_79 (Nat.le_of_ble_eq_true rfl))).mpr z)
            replace hsp := hsp.trans (if_neg c_88)
            refine lv_aload_n hx hb dX9_layGaps_125 rfl (lv_at hl 0 rfl) ?_
            refine va_get (D := (dC, dI)) (ci := 9) (v := .ref (ad 58)) (C := RX9) (T := TX9) (N := 67) hx hb hts hiX9 hown hK hP 0 rfl rfl 58 (by decide) v_3 (fun _ h9 => h9) rfl dX9_layGaps_126 ?_
            refine lv_iload_n hx hb dX9_layGaps_129 rfl (lv_at hl 3 rfl) ?_
            refine lv_aload_n hx hb dX9_layGaps_130 rfl (lv_at hl 0 rfl) ?_
            refine lv_iload_n hx hb dX9_layGaps_131 rfl (lv_at hl 2 rfl) ?_
            refine va_calli (va_runV (As := [.int (nI u_43)]) (rest := [.int (nI g_79), .ref (ad 58)]) ⟨hx, hb, hml, hown, hts⟩ (c_EM_setBy l dC dI _ ad ck x0 x16 x18 x19 x20 x21 x22 x23 x24 x25 x26 x27 x28 x29 x30 x33 x45 x46 x52 x53 x61 z62_74 z63_75 x65 x66 f1 f2 f3 q4 q5 q6 q7 f8 q9 q10 f11 m12_0 m12_1 m13_0 m13_1 m14_0 m14_1 m15_0 m15_1 f17 q31 f32 f34 f35 f36 f37 q38 f39 f40 f41 m42_0 m42_1 f43 f44 f47 f48 f49 f50 f51 q54 z55_71 z56_72 z57_73 g_78 f59 f60 f64 u_43 hx16 hx18 hx19 hx21 hx22 hx26 hx28 hx29 hx30 hx33 hx46 hx52 hx53 hx61 hz62_74 hz63_75 hx65 hm12_0 hm12_1 hm13_0 hm13_1 hm14_0 hm14_1 hm15_0 hm15_1 hm42_0 hm42_1 hu_43) (cwV 1 hts g_EM_layGaps_EM_setBy rfl rfl rfl (by decide +kernel) ⟨Nat.le_of_ble_eq_true rfl, Nat.le_of_ble_eq_true rfl⟩) ⟨pu_bl, va_recv hK hP (ci := 9) (q0 := 0) rfl rfl, pu_in hP hK hD⟩ rfl rfl hl.1 rfl (lv_room (Nat.le_of_ble_eq_true rfl)) dX9_layGaps_132 ⟨Nat.le_of_ble_eq_true rfl, Nat.le_of_ble_eq_true rfl⟩) hS (fun q _ h => pu_fr hS hA q h) (pu_fr hS hA) (fun r_98 u t H1 locs ht hvm hw hB hz1 hk1 hS => ?_)
            have hP := pu_keep hP hk1
            clear hk1 hz1 ht hvm
            generalize H1 = H at hP hS ⊢
            have ir_98 := hw
            replace hsp := hsp.trans (slet_eq ir_98)
            refine lv_iload_n hx hb dX9_layGaps_135 rfl (lv_at hl 3 rfl) ?_
            obtain ⟨JR_101, hJR_101, hsp⟩ := slet_ex hsp
            refine pu_join (fun H locs ls st => ∃ (g_99 : Nat), st = [.int (nI g_99), .int (nI g_79), .ref (ad 58)] ∧ g_99 ≤ 120 ∧ g_99 = JR_101 ∧ va_P (dC, dI) vwCl (mo_w ad ck x0 (nI x16) (nI x18) (nI x19) x20 (nI x21) (nI x22) x23 x24 x25 (nI x26) x27 (nI x28) (nI x29) (nI x30) (nI x33) x45 (nI x46) (nI x52) (nI x53) (nI x61) (nI z62_74) (nI z63_75) (nI x65) x66 f1 f2 f3 (bN 3 q4) (bN 7 q5) (bN 7 q6) (bN 4 q7) f8 (bN 2 q9) (bH q10) f11 (b2 m12_0 m12_1) (b2 m13_0 m13_1) (b2 m14_0 m14_1) (b2m m15_0 m15_1) f17 (bA 159 q31) f32 f34 f35 f36 f37 (bN 7 q38) f39 f40 f41 (b2 m42_0 m42_1) f43 f44 f47 f48 f49 f50 f51 (bN 13 q54) (bN 120 z55_71) (bN 120 z56_72) z57_73 (bN 120 g_78) f59 f60 f64) H ∧ va_D A (mo_w ad ck x0 (nI x16) (nI x18) (nI x19) x20 (nI x21) (nI x22) x23 x24 x25 (nI x26) x27 (nI x28) (nI x29) (nI x30) (nI x33) x45 (nI x46) (nI x52) (nI x53) (nI x61) (nI z62_74) (nI z63_75) (nI x65) x66 f1 f2 f3 (bN 3 q4) (bN 7 q5) (bN 7 q6) (bN 4 q7) f8 (bN 2 q9) (bH q10) f11 (b2 m12_0 m12_1) (b2 m13_0 m13_1) (b2 m14_0 m14_1) (b2m m15_0 m15_1) f17 (bA 159 q31) f32 f34 f35 f36 f37 (bN 7 q38) f39 f40 f41 (b2 m42_0 m42_1) f43 f44 f47 f48 f49 f50 f51 (bN 13 q54) (bN 120 z55_71) (bN 120 z56_72) z57_73 (bN 120 g_78) f59 f60 f64) ∧ va_S A s.heap H locs ∧ lv_has ls 4 [(0, .ref (ad 0)), (1, .int (nI g_32)), (2, .int (nI u_43)), (3, .int (nI g_79))]) 152 ?_ (fun j_100 => ?_)
            · rintro H locs ls st ⟨g_99, rfl, hg_99, he_102, hP, hD, hS, hl⟩
              rw [← he_102] at hsp
              refine va_iast hx hb hK hP hD hS 39 38 rfl rfl (vp_in_nI (n := g_79) (by omega) (Nat.le_of_ble_eq_true rfl)) dX9_layGaps_152 (fun H locs hP hD hS => ?_)
              obtain ⟨q_103, eq_103, kq_103, oq_103, xq_103⟩ := bN_upx 120 g_78 (n := g_79) (v := g_99) (Nat.lt_of_le_of_lt hg_79 (Nat.le_of_ble_eq_true rfl)) hg_99
              have hP : va_P (dC, dI) vwCl (mo_w ad ck x0 (nI x16) (nI x18) (nI x19) x20 (nI x21) (nI x22) x23 x24 x25 (nI x26) x27 (nI x28) (nI x29) (nI x30) (nI x33) x45 (nI x46) (nI x52) (nI x53) (nI x61) (nI z62_74) (nI z63_75) (nI x65) x66 f1 f2 f3 (bN 3 q4) (bN 7 q5) (bN 7 q6) (bN 4 q7) f8 (bN 2 q9) (bH q10) f11 (b2 m12_0 m12_1) (b2 m13_0 m13_1) (b2 m14_0 m14_1) (b2m m15_0 m15_1) f17 (bA 159 q31) f32 f34 f35 f36 f37 (bN 7 q38) f39 f40 f41 (b2 m42_0 m42_1) f43 f44 f47 f48 f49 f50 f51 (bN 13 q54) (bN 120 z55_71) (bN 120 z56_72) z57_73 (bN 120 q_103) f59 f60 f64) H := by rw [← eq_103]; exact hP
              have hD : va_D A (mo_w ad ck x0 (nI x16) (nI x18) (nI x19) x20 (nI x21) (nI x22) x23 x24 x25 (nI x26) x27 (nI x28) (nI x29) (nI x30) (nI x33) x45 (nI x46) (nI x52) (nI x53) (nI x61) (nI z62_74) (nI z63_75) (nI x65) x66 f1 f2 f3 (bN 3 q4) (bN 7 q5) (bN 7 q6) (bN 4 q7) f8 (bN 2 q9) (bH q10) f11 (b2 m12_0 m12_1) (b2 m13_0 m13_1) (b2 m14_0 m14_1) (b2m m15_0 m15_1) f17 (bA 159 q31) f32 f34 f35 f36 f37 (bN 7 q38) f39 f40 f41 (b2 m42_0 m42_1) f43 f44 f47 f48 f49 f50 f51 (bN 13 q54) (bN 120 z55_71) (bN 120 z56_72) z57_73 (bN 120 q_103) f59 f60 f64) := by rw [← eq_103]; exact hD
              replace hsp := hsp.trans (slet_eq xq_103)
              refine lv_iinc (v := (nI (g_79 + 1))) (lv' := [(3, .int (nI (g_79 + 1))), (0, .ref (ad 0)), (1, .int (nI g_32)), (2, .int (nI u_43))]) hx hb dX9_layGaps_153 hl (k := 3) rfl (nI_1 _) (by decide) rfl (fun ls hl => ?_)
              refine lv_goto (tgt := 117) hx hb dX9_layGaps_156 (by decide) ?_
              exact ih_80 (3 - (g_79 + 1)) (by omega) _ _ _ ⟨q_103, (g_79 + 1), rfl, (by omega), hin_84 _ hsp, hP, hD, hS, lv_sub hl [1, 2, 3, 0] rfl⟩
            have hsp := hJR_101
            refine va_calli (va_runS (As := [.int r_98, .int (nI g_79)]) (rest := [.int (nI g_79), .ref (ad 58)]) ⟨hx, hb, hml, hown, hts⟩ (c_EM_isOf l dC dI _ ad ck x0 x16 x18 x19 x20 x21 x22 x23 x24 x25 x26 x27 x28 x29 x30 x33 x45 x46 x52 x53 x61 z62_74 z63_75 x65 x66 f1 f2 f3 q4 q5 q6 q7 f8 q9 q10 f11 m12_0 m12_1 m13_0 m13_1 m14_0 m14_1 m15_0 m15_1 f17 q31 f32 f34 f35 f36 f37 q38 f39 f40 f41 m42_0 m42_1 f43 f44 f47 f48 f49 f50 f51 q54 z55_71 z56_72 z57_73 g_78 f59 f60 f64 r_98 (nI g_79) hx16 hx18 hx19 hx21 hx22 hx26 hx28 hx29 hx30 hx33 hx46 hx52 hx53 hx61 hz62_74 hz63_75 hx65 hm12_0 hm12_1 hm13_0 hm13_1 hm14_0 hm14_1 hm15_0 hm15_1 hm42_0 hm42_1) (va_cwS 2 hts g_EM_layGaps_EM_isOf rfl rfl rfl (by decide +kernel) ⟨Nat.le_of_ble_eq_true rfl, Nat.le_of_ble_eq_true rfl⟩) ⟨pu_bl, pu_in hP hK hD⟩ rfl rfl hl.1 rfl (lv_room (Nat.le_of_ble_eq_true rfl)) dX9_layGaps_136 ⟨Nat.le_of_ble_eq_true rfl, Nat.le_of_ble_eq_true rfl⟩) hS (fun q _ h => pu_fr hS hA q h) (pu_fr hS hA) (fun r_104 u t H1 locs ht hvm hw hB hz1 hk1 hS => ?_)
            have hP := pu_keep hP hk1
            clear hk1 hz1 ht hvm
            generalize H1 = H at hP hS ⊢
            obtain ⟨u_105, hu_105, rfl, iu_105⟩ := hw
            replace hsp := hsp.trans (slet_eq iu_105)
            refine lv_if_eq (tgt := 146) hx hb dX9_layGaps_139 (by decide) (fun c_106 => ?_) (fun c_106 => ?_)
            · have c_106 : u_105 = 0 := (nI_eq (a := u_105) (b := 0) (Nat.lt_of_le_of_lt hu_105 (Nat.le_of_ble_eq_true rfl)) (Nat.le_of_ble_eq_true rfl)).mp c_106
              replace hsp := hsp.trans (if_pos c_106)
              refine lv_aload_n hx hb dX9_layGaps_146 rfl (lv_at hl 0 rfl) ?_
              refine va_get (D := (dC, dI)) (ci := 9) (v := .ref (ad 58)) (C := RX9) (T := TX9) (N := 67) hx hb hts hiX9 hown hK hP 0 rfl rfl 58 (by decide) v_3 (fun _ h9 => h9) rfl dX9_layGaps_147 ?_
              refine lv_iload_n hx hb dX9_layGaps_150 rfl (lv_at hl 3 rfl) ?_
              refine va_iald hx hb hK hP 39 38 rfl rfl (vp_in_nI (n := g_79) (by omega) (Nat.le_of_ble_eq_true rfl)) dX9_layGaps_151 ?_
              refine lv_topi (fun y_107 ey_107 => ?_)
              obtain ⟨u_108, hu_108, qu_108, xu_108⟩ := bN_getx 120 g_78 (n := g_79) (Nat.lt_of_le_of_lt hg_79 (Nat.le_of_ble_eq_true rfl))
              obtain rfl : y_107 = nI u_108 := ey_107.trans qu_108
              replace hsp := hsp.trans (slet_eq xu_108)
              exact j_100 _ _ _ _ ⟨u_108, rfl, hu_108, hsp.symm, hP, hD, hS, lv_sub hl [0, 1, 2, 3] rfl⟩
            · have c_106 : ¬ u_105 = 0 := fun z => c_106 ((nI_eq (a := u_105) (b := 0) (Nat.lt_of_le_of_lt hu_105 (Nat.le_of_ble_eq_true rfl)) (Nat.le_of_ble_eq_true rfl)).mpr z)
              replace hsp := hsp.trans (if_neg c_106)
              refine lv_iload_n hx hb dX9_layGaps_142 rfl (lv_at hl 1 rfl) ?_
              refine lv_goto (tgt := 152) hx hb dX9_layGaps_143 (by decide) ?_
              exact j_100 _ _ _ _ ⟨g_32, rfl, hg_32.2, hsp.symm, hP, hD, hS, lv_sub hl [0, 1, 2, 3] rfl⟩
        have hsp := hJR_59
        refine lv_if_eq (tgt := 96) hx hb dX9_layGaps_84 (by decide) (fun c_109 => ?_) (fun c_109 => ?_)
        · have c_109 : u_52 = 0 := (nI_eq (a := u_52) (b := 0) (Nat.lt_of_le_of_lt hu_52 (Nat.le_of_ble_eq_true rfl)) (Nat.le_of_ble_eq_true rfl)).mp c_109
          replace hsp := hsp.trans (if_pos c_109)
          exact j_58 _ _ _ _ ⟨(g_30 + 1), z55_46, z56_47, z57_48, rfl, ⟨by omega, by omega⟩, by omega, hsp.symm, hP, hD, hS, lv_sub hl [1, 2, 0] rfl⟩
        · have c_109 : ¬ u_52 = 0 := fun z => c_109 ((nI_eq (a := u_52) (b := 0) (Nat.lt_of_le_of_lt hu_52 (Nat.le_of_ble_eq_true rfl)) (Nat.le_of_ble_eq_true rfl)).mpr z)
          replace hsp := hsp.trans (if_neg c_109)
          refine lv_aload_n hx hb dX9_layGaps_87 rfl (lv_at hl 1 rfl) ?_
          refine lv_iload_n hx hb dX9_layGaps_88 rfl (lv_at hl 2 rfl) ?_
          refine lv_iload_n hx hb dX9_layGaps_89 rfl (lv_at hl 2 rfl) ?_
          refine lv_iconst (v := 1) hx hb dX9_layGaps_90 (by decide) ?_
          refine lv_isub hx hb dX9_layGaps_91 ?_
          refine lv_topi (fun y_110 ey_110 => ?_)
          obtain rfl : y_110 = (nI (g_32 - 1)) := ey_110.trans (pk_sub (a := g_32) (b := 1) (by omega))
          refine lv_iconst (v := 1) hx hb dX9_layGaps_92 (by decide) ?_
          have hFc := pu_free hD hS hA
          refine va_callv (va_runV (As := [.int (nI g_32), .int (nI (g_32 - 1)), .int 1]) (rest := []) ⟨hx, hb, hml, hown, hts⟩ (c_EM_holdsApart l dC dI _ ad ck x0 x16 x18 x19 x20 x21 x22 x23 x24 x25 x26 x27 x28 x29 x30 x33 x45 x46 x52 x53 x61 (g_30 + 1) g_31 x65 x66 f1 f2 f3 q4 q5 q6 q7 f8 q9 q10 f11 m12_0 m12_1 m13_0 m13_1 m14_0 m14_1 m15_0 m15_1 f17 q31 f32 f34 f35 f36 f37 q38 f39 f40 f41 m42_0 m42_1 f43 f44 f47 f48 f49 f50 f51 q54 z55_46 z56_47 z57_48 g_29 f59 f60 f64 g_32 (g_32 - 1) 1 hx16 hx18 hx19 hx21 hx22 hx26 hx28 hx29 hx30 hx33 hx46 hx52 hx53 hx61 (by omega) hg_31 hx65 hm12_0 hm12_1 hm13_0 hm13_1 hm14_0 hm14_1 hm15_0 hm15_1 hm42_0 hm42_1 hg_32.2 (by omega)) (cwV 3 hts g_EM_layGaps_EM_holdsApart rfl rfl rfl (by decide +kernel) ⟨Nat.le_of_ble_eq_true rfl, Nat.le_of_ble_eq_true rfl⟩) ⟨pu_bl, va_recv hK hP (ci := 9) (q0 := 0) rfl rfl, pu_in hP hK hD⟩ rfl rfl hl.1 rfl (lv_room (Nat.le_of_ble_eq_true rfl)) dX9_layGaps_93 ⟨Nat.le_of_ble_eq_true rfl, Nat.le_of_ble_eq_true rfl⟩) hS (fun q _ h => hFc q h) hFc (fun u t H1 locs ht hvm hw hB hz1 hk1 hS => ?_)
          obtain ⟨z55_112, z56_113, z57_114, ⟨hP1, -, hD1⟩, xr_111_0⟩ := hB
          rw [ht] at hP1
          have hP := hP1
          have hD := pu_all hFc hD1
          clear hP1 hD1 hFc
          clear hk1 hz1 ht hvm
          generalize H1 = H at hP hS ⊢
          replace hsp := hsp.trans (slet_eq xr_111_0)
          exact j_58 _ _ _ _ ⟨((g_30 + 1) + 1), z55_112, z56_113, z57_114, rfl, ⟨by omega, by omega⟩, by omega, hsp.symm, hP, hD, hS, lv_sub hl [1, 2, 0] rfl⟩
    · obtain rfl : y_14 = nI vy_14 := qy_14.trans wy_14
      replace hsp := hsp.trans (if_neg (by omega))
      replace hsp := hsp.trans (slet_eq (by omega : vy_14 = u_15 - 1))
      refine lv_iadd hx hb dX9_layGaps_42 ?_
      refine lv_topi (fun y_115 ey_115 => ?_)
      obtain rfl : y_115 = (nI (100 + vy_14)) := ey_115.trans (nI_add 100 vy_14)
      refine lv_iconst (v := 0) hx hb dX9_layGaps_43 (by decide) ?_
      have hFc := pu_free hD hS hA
      refine va_callv (va_runV (As := [.int (nI (100 + vy_14)), .int 0]) (rest := []) ⟨hx, hb, hml, hown, hts⟩ (c_EM_layConditions_p l dC dI _ ad ck x0 x16 x18 x19 x20 x21 x22 x23 x24 x25 x26 x27 x28 x29 x30 x33 x45 x46 x52 x53 x61 0 0 x65 x66 f1 f2 f3 q4 q5 q6 q7 f8 q9 q10 f11 m12_0 m12_1 m13_0 m13_1 m14_0 m14_1 m15_0 m15_1 f17 q31 f32 f34 f35 f36 f37 q38 f39 f40 f41 m42_0 m42_1 f43 f44 f47 f48 f49 f50 f51 q54 q55 q56 f57 g_4 f59 f60 f64 (100 + vy_14) 0 hx16 hx18 hx19 hx21 hx22 hx26 hx28 hx29 hx30 hx33 hx46 hx52 hx53 hx61 (Nat.le_of_ble_eq_true rfl) (Nat.le_of_ble_eq_true rfl) hx65 hm12_0 hm12_1 hm13_0 hm13_1 hm14_0 hm14_1 hm15_0 hm15_1 hm42_0 hm42_1 (by omega) (by omega) (Nat.le_of_ble_eq_true rfl)) (cwV 2 hts g_EM_layGaps_EM_layConditions_p rfl rfl rfl (by decide +kernel) ⟨Nat.le_of_ble_eq_true rfl, Nat.le_of_ble_eq_true rfl⟩) ⟨pu_bl, va_recv hK hP (ci := 9) (q0 := 0) rfl rfl, pu_in hP hK hD⟩ rfl rfl hl.1 rfl (lv_room (Nat.le_of_ble_eq_true rfl)) dX9_layGaps_44 ⟨Nat.le_of_ble_eq_true rfl, Nat.le_of_ble_eq_true rfl⟩) hS (fun q _ h => hFc q h) hFc (fun u t H1 locs ht hvm hw hB hz1 hk1 hS => ?_)
      obtain ⟨z55_117, z56_118, z57_119, z62_120, z63_121, ⟨hP1, -, hD1⟩, hz62_120, hz63_121, xr_116_0, xr_116_1⟩ := hB
      rw [ht] at hP1
      have hP := hP1
      have hD := pu_all hFc hD1
      clear hP1 hD1 hFc
      clear hk1 hz1 ht hvm
      generalize H1 = H at hP hS ⊢
      replace hsp := hsp.trans (slet_eq xr_116_1)
      refine lv_iconst (v := 1) hx hb dX9_layGaps_47 (by decide) ?_
      refine lv_istore_n (lv' := [(1, .int 1), (0, .ref (ad 0))]) hx hb dX9_layGaps_48 rfl hl (by decide) rfl (fun ls hl => ?_)
      obtain ⟨lf_139, dlf_139, hlf_139, hsp⟩ := itr_ex hsp
      delta sp_EM_layGaps_L4 at hlf_139
      refine pu_while (fun nn H locs ls => ∃ (g_130 : Nat → Nat) (g_131 : Nat → Nat) (g_132 : Nat → Int32) (g_133 : Nat → Nat) (g_134 : Nat) (g_135 : Nat) (g_136 : Nat), nn = 120 - g_136 ∧ g_134 ≤ 1907 ∧ g_135 ≤ 1 ∧ (1 ≤ g_136 ∧ g_136 ≤ 120) ∧ g_134 + 13 ≤ 16 * g_136 ∧ RR = itrv dlf_139 lf_139 (g_130, g_131, g_132, g_133, g_134, g_135, g_136) ∧ va_P (dC, dI) vwCl (mo_w ad ck x0 (nI x16) (nI x18) (nI x19) x20 (nI x21) (nI x22) x23 x24 x25 (nI x26) x27 (nI x28) (nI x29) (nI x30) (nI x33) x45 (nI x46) (nI x52) (nI x53) (nI x61) (nI g_134) (nI g_135) (nI x65) x66 f1 f2 f3 (bN 3 q4) (bN 7 q5) (bN 7 q6) (bN 4 q7) f8 (bN 2 q9) (bH q10) f11 (b2 m12_0 m12_1) (b2 m13_0 m13_1) (b2 m14_0 m14_1) (b2m m15_0 m15_1) f17 (bA 159 q31) f32 f34 f35 f36 f37 (bN 7 q38) f39 f40 f41 (b2 m42_0 m42_1) f43 f44 f47 f48 f49 f50 f51 (bN 13 q54) (bN 120 g_130) (bN 120 g_131) g_132 (bN 120 g_133) f59 f60 f64) H ∧ va_D A (mo_w ad ck x0 (nI x16) (nI x18) (nI x19) x20 (nI x21) (nI x22) x23 x24 x25 (nI x26) x27 (nI x28) (nI x29) (nI x30) (nI x33) x45 (nI x46) (nI x52) (nI x53) (nI x61) (nI g_134) (nI g_135) (nI x65) x66 f1 f2 f3 (bN 3 q4) (bN 7 q5) (bN 7 q6) (bN 4 q7) f8 (bN 2 q9) (bH q10) f11 (b2 m12_0 m12_1) (b2 m13_0 m13_1) (b2 m14_0 m14_1) (b2m m15_0 m15_1) f17 (bA 159 q31) f32 f34 f35 f36 f37 (bN 7 q38) f39 f40 f41 (b2 m42_0 m42_1) f43 f44 f47 f48 f49 f50 f51 (bN 13 q54) (bN 120 g_130) (bN 120 g_131) g_132 (bN 120 g_133) f59 f60 f64) ∧ va_S A s.heap H locs ∧ lv_has ls 4 [(0, .ref (ad 0)), (1, .int (nI g_136))]) 49 ?_ _ _ _ _ ⟨z55_117, z56_118, z57_119, g_4, z62_120, z63_121, 1, rfl, (by omega), hz63_121, ⟨by omega, by omega⟩, by omega, hsp, hP, hD, hS, lv_sub hl [1, 0] rfl⟩
      rintro nn ih_138 H locs ls ⟨g_130, g_131, g_132, g_133, g_134, g_135, g_136, rfl, hg_134, hg_135, hg_136, he_137, he_141, hP, hD, hS, hl⟩
      obtain ⟨S_140, hsp, hin_142, hout_143⟩ := itr_step hlf_139 he_141
      refine lv_iload_n hx hb dX9_layGaps_49 rfl (lv_at hl 1 rfl) ?_
      refine lv_aload_n hx hb dX9_layGaps_50 rfl (lv_at hl 0 rfl) ?_
      refine va_get (D := (dC, dI)) (ci := 9) (v := .int (nI x61)) (C := RX9) (T := TX9) (N := 67) hx hb hts hiX9 hown hK hP 0 rfl rfl 61 (by decide) v_11 (fun _ h9 => h9) rfl dX9_layGaps_51 ?_
      refine lv_icmp_gt (tgt := 178) hx hb dX9_layGaps_54 (by decide) (fun c_144 => ?_) (fun c_144 => ?_)
      · have c_144 : x61 < g_136 := (nI_ltI (a := x61) (b := g_136) (Nat.lt_of_le_of_lt hx61 (Nat.le_of_ble_eq_true rfl)) (Nat.lt_of_le_of_lt hg_136.2 (Nat.le_of_ble_eq_true rfl))).mp c_144
        replace hsp := hsp.trans (if_pos c_144)
        have hsp := hout_143 _ hsp
        exact W.vret hx hb hr (fun t ht hW => ⟨⟨(), rfl, trivial, ⟨g_130, g_131, g_132, g_133, g_134, g_135, ⟨by rw [ht]; exact hP, va_K.moved hW.alike hK, hD⟩, (Nat.le_trans hg_134 (Nat.le_of_ble_eq_true rfl)), hg_135, (hsp.symm.trans hRR)⟩⟩, hS.F ht⟩) hS.2.2 dX9_layGaps_178
      · have c_144 : ¬ x61 < g_136 := fun z => c_144 ((nI_ltI (a := x61) (b := g_136) (Nat.lt_of_le_of_lt hx61 (Nat.le_of_ble_eq_true rfl)) (Nat.lt_of_le_of_lt hg_136.2 (Nat.le_of_ble_eq_true rfl))).mpr z)
        replace hsp := hsp.trans (if_neg c_144)
        refine lv_aload_n hx hb dX9_layGaps_57 rfl (lv_at hl 0 rfl) ?_
        refine va_get (D := (dC, dI)) (ci := 9) (v := .ref (ad 54)) (C := RX9) (T := TX9) (N := 67) hx hb hts hiX9 hown hK hP 0 rfl rfl 54 (by decide) v_12 (fun _ h9 => h9) rfl dX9_layGaps_58 ?_
        refine lv_iload_n hx hb dX9_layGaps_61 rfl (lv_at hl 1 rfl) ?_
        refine lv_iconst (v := 1) hx hb dX9_layGaps_62 (by decide) ?_
        refine lv_isub hx hb dX9_layGaps_63 ?_
        refine lv_topi (fun y_145 ey_145 => ?_)
        obtain rfl : y_145 = (nI (g_136 - 1)) := ey_145.trans (pk_sub (a := g_136) (b := 1) (by omega))
        refine va_iald hx hb hK hP 35 34 rfl rfl (vp_in_nI (n := (g_136 - 1)) (by omega) (Nat.le_of_ble_eq_true rfl)) dX9_layGaps_64 ?_
        refine lv_topi (fun y_146 ey_146 => ?_)
        obtain ⟨u_147, hu_147, qu_147, xu_147⟩ := bN_getx 13 q54 (n := (g_136 - 1)) (by omega)
        obtain rfl : y_146 = nI u_147 := ey_146.trans qu_147
        replace hsp := hsp.trans (slet_eq xu_147)
        refine lv_istore_n (lv' := [(2, .int (nI u_147)), (0, .ref (ad 0)), (1, .int (nI g_136))]) hx hb dX9_layGaps_65 rfl hl (by decide) rfl (fun ls hl => ?_)
        refine lv_aload_n hx hb dX9_layGaps_66 rfl (lv_at hl 1 rfl) ?_
        refine lv_iload_n hx hb dX9_layGaps_67 rfl (lv_at hl 2 rfl) ?_
        refine lv_iconst (v := 1) hx hb dX9_layGaps_68 (by decide) ?_
        refine lv_isub hx hb dX9_layGaps_69 ?_
        refine lv_topi (fun y_148 ey_148 => ?_)
        obtain rfl : y_148 = (nI (g_136 - 1)) := ey_148.trans (pk_sub (a := g_136) (b := 1) (by omega))
        refine lv_iload_n hx hb dX9_layGaps_70 rfl (lv_at hl 2 rfl) ?_
        refine lv_iconst (v := 1) hx hb dX9_layGaps_71 (by decide) ?_
        have hFc := pu_free hD hS hA
        refine va_callv (va_runV (As := [.int (nI (g_136 - 1)), .int (nI g_136), .int 1]) (rest := []) ⟨hx, hb, hml, hown, hts⟩ (c_EM_holdsApart l dC dI _ ad ck x0 x16 x18 x19 x20 x21 x22 x23 x24 x25 x26 x27 x28 x29 x30 x33 x45 x46 x52 x53 x61 g_134 g_135 x65 x66 f1 f2 f3 q4 q5 q6 q7 f8 q9 q10 f11 m12_0 m12_1 m13_0 m13_1 m14_0 m14_1 m15_0 m15_1 f17 q31 f32 f34 f35 f36 f37 q38 f39 f40 f41 m42_0 m42_1 f43 f44 f47 f48 f49 f50 f51 q54 g_130 g_131 g_132 g_133 f59 f60 f64 (g_136 - 1) g_136 1 hx16 hx18 hx19 hx21 hx22 hx26 hx28 hx29 hx30 hx33 hx46 hx52 hx53 hx61 (Nat.le_trans hg_134 (Nat.le_of_ble_eq_true rfl)) hg_135 hx65 hm12_0 hm12_1 hm13_0 hm13_1 hm14_0 hm14_1 hm15_0 hm15_1 hm42_0 hm42_1 (by omega) hg_136.2) (cwV 3 hts g_EM_layGaps_EM_holdsApart rfl rfl rfl (by decide +kernel) ⟨Nat.le_of_ble_eq_true rfl, Nat.le_of_ble_eq_true rfl⟩) ⟨pu_bl, va_recv hK hP (ci := 9) (q0 := 0) rfl rfl, pu_in hP hK hD⟩ rfl rfl hl.1 rfl (lv_room (Nat.le_of_ble_eq_true rfl)) dX9_layGaps_72 ⟨Nat.le_of_ble_eq_true rfl, Nat.le_of_ble_eq_true rfl⟩) hS (fun q _ h => hFc q h) hFc (fun u t H1 locs ht hvm hw hB hz1 hk1 hS => ?_)
        obtain ⟨z55_150, z56_151, z57_152, ⟨hP1, -, hD1⟩, xr_149_0⟩ := hB
        rw [ht] at hP1
        have hP := hP1
        have hD := pu_all hFc hD1
        clear hP1 hD1 hFc
        clear hk1 hz1 ht hvm
        generalize H1 = H at hP hS ⊢
        replace hsp := hsp.trans (slet_eq xr_149_0)
        refine lv_aload_n hx hb dX9_layGaps_75 rfl (lv_at hl 1 rfl) ?_
        refine lv_aload_n hx hb dX9_layGaps_76 rfl (lv_at hl 1 rfl) ?_
        refine lv_iload_n hx hb dX9_layGaps_77 rfl (lv_at hl 0 rfl) ?_
        refine va_calli (va_runV (As := [.int (nI u_147)]) (rest := [.ref (ad 0)]) ⟨hx, hb, hml, hown, hts⟩ (c_EM_outOf l dC dI _ ad ck x0 x16 x18 x19 x20 x21 x22 x23 x24 x25 x26 x27 x28 x29 x30 x33 x45 x46 x52 x53 x61 (g_134 + 1) g_135 x65 x66 f1 f2 f3 q4 q5 q6 q7 f8 q9 q10 f11 m12_0 m12_1 m13_0 m13_1 m14_0 m14_1 m15_0 m15_1 f17 q31 f32 f34 f35 f36 f37 q38 f39 f40 f41 m42_0 m42_1 f43 f44 f47 f48 f49 f50 f51 q54 z55_150 z56_151 z57_152 g_133 f59 f60 f64 u_147 hx16 hx18 hx19 hx21 hx22 hx26 hx28 hx29 hx30 hx33 hx46 hx52 hx53 hx61 (by omega) hg_135 hx65 hm12_0 hm12_1 hm13_0 hm13_1 hm14_0 hm14_1 hm15_0 hm15_1 hm42_0 hm42_1 hu_147) (cwV 1 hts g_EM_layGaps_EM_outOf rfl rfl rfl (by decide +kernel) ⟨Nat.le_of_ble_eq_true rfl, Nat.le_of_ble_eq_true rfl⟩) ⟨pu_bl, va_recv hK hP (ci := 9) (q0 := 0) rfl rfl, pu_in hP hK hD⟩ rfl rfl hl.1 rfl (lv_room (Nat.le_of_ble_eq_true rfl)) dX9_layGaps_78 ⟨Nat.le_of_ble_eq_true rfl, Nat.le_of_ble_eq_true rfl⟩) hS (fun q _ h => pu_fr hS hA q h) (pu_fr hS hA) (fun r_153 u t H1 locs ht hvm hw hB hz1 hk1 hS => ?_)
        have hP := pu_keep hP hk1
        clear hk1 hz1 ht hvm
        generalize H1 = H at hP hS ⊢
        obtain ⟨u_154, hu_154, rfl, iu_154⟩ := hw
        replace hsp := hsp.trans (slet_eq iu_154)
        refine va_calli (va_runV (As := [.int (nI u_154)]) (rest := []) ⟨hx, hb, hml, hown, hts⟩ (c_EM_isUrgent l dC dI _ ad ck x0 x16 x18 x19 x20 x21 x22 x23 x24 x25 x26 x27 x28 x29 x30 x33 x45 x46 x52 x53 x61 (g_134 + 1) g_135 x65 x66 f1 f2 f3 q4 q5 q6 q7 f8 q9 q10 f11 m12_0 m12_1 m13_0 m13_1 m14_0 m14_1 m15_0 m15_1 f17 q31 f32 f34 f35 f36 f37 q38 f39 f40 f41 m42_0 m42_1 f43 f44 f47 f48 f49 f50 f51 q54 z55_150 z56_151 z57_152 g_133 f59 f60 f64 u_154 hx16 hx18 hx19 hx21 hx22 hx26 hx28 hx29 hx30 hx33 hx46 hx52 hx53 hx61 (by omega) hg_135 hx65 hm12_0 hm12_1 hm13_0 hm13_1 hm14_0 hm14_1 hm15_0 hm15_1 hm42_0 hm42_1 hu_154) (cwV 1 hts g_EM_layGaps_EM_isUrgent rfl rfl rfl (by decide +kernel) ⟨Nat.le_of_ble_eq_true rfl, Nat.le_of_ble_eq_true rfl⟩) ⟨pu_bl, va_recv hK hP (ci := 9) (q0 := 0) rfl rfl, pu_in hP hK hD⟩ rfl rfl hl.1 rfl (lv_room (Nat.le_of_ble_eq_true rfl)) dX9_layGaps_81 ⟨Nat.le_of_ble_eq_true rfl, Nat.le_of_ble_eq_true rfl⟩) hS (fun q _ h => pu_fr hS hA q h) (pu_fr hS hA) (fun r_155 u t H1 locs ht hvm hw hB hz1 hk1 hS => ?_)
        have hP := pu_keep hP hk1
        clear hk1 hz1 ht hvm
        generalize H1 = H at hP hS ⊢
        obtain ⟨u_156, hu_156, rfl, iu_156⟩ := hw
        replace hsp := hsp.trans (slet_eq iu_156)
        obtain ⟨JR_163, hJR_163, hsp⟩ := slet_ex hsp
        refine pu_join (fun H locs ls st => ∃ (g_157 : Nat) (g_158 : Nat → Nat) (g_159 : Nat → Nat) (g_160 : Nat → Int32), st = [] ∧ (1 ≤ g_157 ∧ g_157 ≤ 1909) ∧ g_157 + 13 ≤ 16 * g_136 + 2 ∧ (g_157, g_158, g_159, g_160) = JR_163 ∧ va_P (dC, dI) vwCl (mo_w ad ck x0 (nI x16) (nI x18) (nI x19) x20 (nI x21) (nI x22) x23 x24 x25 (nI x26) x27 (nI x28) (nI x29) (nI x30) (nI x33) x45 (nI x46) (nI x52) (nI x53) (nI x61) (nI g_157) (nI g_135) (nI x65) x66 f1 f2 f3 (bN 3 q4) (bN 7 q5) (bN 7 q6) (bN 4 q7) f8 (bN 2 q9) (bH q10) f11 (b2 m12_0 m12_1) (b2 m13_0 m13_1) (b2 m14_0 m14_1) (b2m m15_0 m15_1) f17 (bA 159 q31) f32 f34 f35 f36 f37 (bN 7 q38) f39 f40 f41 (b2 m42_0 m42_1) f43 f44 f47 f48 f49 f50 f51 (bN 13 q54) (bN 120 g_158) (bN 120 g_159) g_160 (bN 120 g_133) f59 f60 f64) H ∧ va_D A (mo_w ad ck x0 (nI x16) (nI x18) (nI x19) x20 (nI x21) (nI x22) x23 x24 x25 (nI x26) x27 (nI x28) (nI x29) (nI x30) (nI x33) x45 (nI x46) (nI x52) (nI x53) (nI x61) (nI g_157) (nI g_135) (nI x65) x66 f1 f2 f3 (bN 3 q4) (bN 7 q5) (bN 7 q6) (bN 4 q7) f8 (bN 2 q9) (bH q10) f11 (b2 m12_0 m12_1) (b2 m13_0 m13_1) (b2 m14_0 m14_1) (b2m m15_0 m15_1) f17 (bA 159 q31) f32 f34 f35 f36 f37 (bN 7 q38) f39 f40 f41 (b2 m42_0 m42_1) f43 f44 f47 f48 f49 f50 f51 (bN 13 q54) (bN 120 g_158) (bN 120 g_159) g_160 (bN 120 g_133) f59 f60 f64) ∧ va_S A s.heap H locs ∧ lv_has ls 4 [(0, .ref (ad 0)), (1, .int (nI g_136)), (2, .int (nI u_147))]) 96 ?_ (fun j_162 => ?_)
        · rintro H locs ls st ⟨g_157, g_158, g_159, g_160, rfl, hg_157, he_161, he_164, hP, hD, hS, hl⟩
          rw [← he_164] at hsp
          refine lv_aload_n hx hb dX9_layGaps_96 rfl (lv_at hl 0 rfl) ?_
          refine lv_bipush (v := 100) hx hb dX9_layGaps_97 (by decide) ?_
          refine lv_aload_n hx hb dX9_layGaps_99 rfl (lv_at hl 0 rfl) ?_
          refine lv_iload_n hx hb dX9_layGaps_100 rfl (lv_at hl 2 rfl) ?_
          refine va_calli (va_runV (As := [.int (nI u_147)]) (rest := [.int 100, .ref (ad 0)]) ⟨hx, hb, hml, hown, hts⟩ (c_EM_outOf l dC dI _ ad ck x0 x16 x18 x19 x20 x21 x22 x23 x24 x25 x26 x27 x28 x29 x30 x33 x45 x46 x52 x53 x61 g_157 g_135 x65 x66 f1 f2 f3 q4 q5 q6 q7 f8 q9 q10 f11 m12_0 m12_1 m13_0 m13_1 m14_0 m14_1 m15_0 m15_1 f17 q31 f32 f34 f35 f36 f37 q38 f39 f40 f41 m42_0 m42_1 f43 f44 f47 f48 f49 f50 f51 q54 g_158 g_159 g_160 g_133 f59 f60 f64 u_147 hx16 hx18 hx19 hx21 hx22 hx26 hx28 hx29 hx30 hx33 hx46 hx52 hx53 hx61 (Nat.le_trans hg_157.2 (Nat.le_of_ble_eq_true rfl)) hg_135 hx65 hm12_0 hm12_1 hm13_0 hm13_1 hm14_0 hm14_1 hm15_0 hm15_1 hm42_0 hm42_1 hu_147) (cwV 1 hts g_EM_layGaps_EM_outOf rfl rfl rfl (by decide +kernel) ⟨Nat.le_of_ble_eq_true rfl, Nat.le_of_ble_eq_true rfl⟩) ⟨pu_bl, va_recv hK hP (ci := 9) (q0 := 0) rfl rfl, pu_in hP hK hD⟩ rfl rfl hl.1 rfl (lv_room (Nat.le_of_ble_eq_true rfl)) dX9_layGaps_101 ⟨Nat.le_of_ble_eq_true rfl, Nat.le_of_ble_eq_true rfl⟩) hS (fun q _ h => pu_fr hS hA q h) (pu_fr hS hA) (fun r_165 u t H1 locs ht hvm hw hB hz1 hk1 hS => ?_)
          have hP := pu_keep hP hk1
          clear hk1 hz1 ht hvm
          generalize H1 = H at hP hS ⊢
          obtain ⟨u_166, hu_166, rfl, iu_166⟩ := hw
          replace hsp := hsp.trans (slet_eq iu_166)
          refine lv_iadd hx hb dX9_layGaps_104 ?_
          refine lv_topi (fun y_167 ey_167 => ?_)
          obtain rfl : y_167 = (nI (100 + u_166)) := ey_167.trans (nI_add 100 u_166)
          refine lv_iload_n hx hb dX9_layGaps_105 rfl (lv_at hl 1 rfl) ?_
          have hFc := pu_free hD hS hA
          refine va_callv (va_runV (As := [.int (nI (100 + u_166)), .int (nI g_136)]) (rest := []) ⟨hx, hb, hml, hown, hts⟩ (c_EM_layConditions_p l dC dI _ ad ck x0 x16 x18 x19 x20 x21 x22 x23 x24 x25 x26 x27 x28 x29 x30 x33 x45 x46 x52 x53 x61 g_157 g_135 x65 x66 f1 f2 f3 q4 q5 q6 q7 f8 q9 q10 f11 m12_0 m12_1 m13_0 m13_1 m14_0 m14_1 m15_0 m15_1 f17 q31 f32 f34 f35 f36 f37 q38 f39 f40 f41 m42_0 m42_1 f43 f44 f47 f48 f49 f50 f51 q54 g_158 g_159 g_160 g_133 f59 f60 f64 (100 + u_166) g_136 hx16 hx18 hx19 hx21 hx22 hx26 hx28 hx29 hx30 hx33 hx46 hx52 hx53 hx61 (Nat.le_trans hg_157.2 (Nat.le_of_ble_eq_true rfl)) hg_135 hx65 hm12_0 hm12_1 hm13_0 hm13_1 hm14_0 hm14_1 hm15_0 hm15_1 hm42_0 hm42_1 (by omega) (by omega) (by omega)) (cwV 2 hts g_EM_layGaps_EM_layConditions_p rfl rfl rfl (by decide +kernel) ⟨Nat.le_of_ble_eq_true rfl, Nat.le_of_ble_eq_true rfl⟩) ⟨pu_bl, va_recv hK hP (ci := 9) (q0 := 0) rfl rfl, pu_in hP hK hD⟩ rfl rfl hl.1 rfl (lv_room (Nat.le_of_ble_eq_true rfl)) dX9_layGaps_106 ⟨Nat.le_of_ble_eq_true rfl, Nat.le_of_ble_eq_true rfl⟩) hS (fun q _ h => hFc q h) hFc (fun u t H1 locs ht hvm hw hB hz1 hk1 hS => ?_)
          obtain ⟨z55_169, z56_170, z57_171, z62_172, z63_173, ⟨hP1, -, hD1⟩, hz62_172, hz63_173, xr_168_0, xr_168_1⟩ := hB
          rw [ht] at hP1
          have hP := hP1
          have hD := pu_all hFc hD1
          clear hP1 hD1 hFc
          clear hk1 hz1 ht hvm
          generalize H1 = H at hP hS ⊢
          replace hsp := hsp.trans (slet_eq xr_168_1)
          refine lv_aload_n hx hb dX9_layGaps_109 rfl (lv_at hl 0 rfl) ?_
          refine lv_iload_n hx hb dX9_layGaps_110 rfl (lv_at hl 2 rfl) ?_
          refine lv_iload_n hx hb dX9_layGaps_111 rfl (lv_at hl 1 rfl) ?_
          have hFc := pu_free hD hS hA
          refine va_callv (va_runV (As := [.int (nI u_147), .int (nI g_136)]) (rest := []) ⟨hx, hb, hml, hown, hts⟩ (c_EM_layConditions_e l dC dI _ ad ck x0 x16 x18 x19 x20 x21 x22 x23 x24 x25 x26 x27 x28 x29 x30 x33 x45 x46 x52 x53 x61 z62_172 z63_173 x65 x66 f1 f2 f3 q4 q5 q6 q7 f8 q9 q10 f11 m12_0 m12_1 m13_0 m13_1 m14_0 m14_1 m15_0 m15_1 f17 q31 f32 f34 f35 f36 f37 q38 f39 f40 f41 m42_0 m42_1 f43 f44 f47 f48 f49 f50 f51 q54 z55_169 z56_170 z57_171 g_133 f59 f60 f64 u_147 g_136 hx16 hx18 hx19 hx21 hx22 hx26 hx28 hx29 hx30 hx33 hx46 hx52 hx53 hx61 (by omega) hz63_173 hx65 hm12_0 hm12_1 hm13_0 hm13_1 hm14_0 hm14_1 hm15_0 hm15_1 hm42_0 hm42_1 hu_147 (by omega)) (cwV 2 hts g_EM_layGaps_EM_layConditions_e rfl rfl rfl (by decide +kernel) ⟨Nat.le_of_ble_eq_true rfl, Nat.le_of_ble_eq_true rfl⟩) ⟨pu_bl, va_recv hK hP (ci := 9) (q0 := 0) rfl rfl, pu_in hP hK hD⟩ rfl rfl hl.1 rfl (lv_room (Nat.le_of_ble_eq_true rfl)) dX9_layGaps_112 ⟨Nat.le_of_ble_eq_true rfl, Nat.le_of_ble_eq_true rfl⟩) hS (fun q _ h => hFc q h) hFc (fun u t H1 locs ht hvm hw hB hz1 hk1 hS => ?_)
          obtain ⟨z55_175, z56_176, z57_177, z62_178, z63_179, ⟨hP1, -, hD1⟩, hz62_178, hz63_179, xr_174_0, xr_174_1⟩ := hB
          rw [ht] at hP1
          have hP := hP1
          have hD := pu_all hFc hD1
          clear hP1 hD1 hFc
          clear hk1 hz1 ht hvm
          generalize H1 = H at hP hS ⊢
          replace hsp := hsp.trans (slet_eq xr_174_1)
          refine lv_iconst (v := 0) hx hb dX9_layGaps_115 (by decide) ?_
          refine lv_istore_n (lv' := [(3, .int 0), (0, .ref (ad 0)), (1, .int (nI g_136)), (2, .int (nI u_147))]) hx hb dX9_layGaps_116 rfl hl (by decide) rfl (fun ls hl => ?_)
          obtain ⟨lf_185, dlf_185, hlf_185, hsp⟩ := itr_ex hsp
          delta sp_EM_layGaps_L3 at hlf_185
          refine pu_while (fun nn H locs ls => ∃ (g_182 : Nat → Nat) (g_183 : Nat), nn = 3 - g_183 ∧ g_183 ≤ 3 ∧ S_140 = itrv dlf_185 lf_185 (g_182, g_183) ∧ va_P (dC, dI) vwCl (mo_w ad ck x0 (nI x16) (nI x18) (nI x19) x20 (nI x21) (nI x22) x23 x24 x25 (nI x26) x27 (nI x28) (nI x29) (nI x30) (nI x33) x45 (nI x46) (nI x52) (nI x53) (nI x61) (nI z62_178) (nI z63_179) (nI x65) x66 f1 f2 f3 (bN 3 q4) (bN 7 q5) (bN 7 q6) (bN 4 q7) f8 (bN 2 q9) (bH q10) f11 (b2 m12_0 m12_1) (b2 m13_0 m13_1) (b2 m14_0 m14_1) (b2m m15_0 m15_1) f17 (bA 159 q31) f32 f34 f35 f36 f37 (bN 7 q38) f39 f40 f41 (b2 m42_0 m42_1) f43 f44 f47 f48 f49 f50 f51 (bN 13 q54) (bN 120 z55_175) (bN 120 z56_176) z57_177 (bN 120 g_182) f59 f60 f64) H ∧ va_D A (mo_w ad ck x0 (nI x16) (nI x18) (nI x19) x20 (nI x21) (nI x22) x23 x24 x25 (nI x26) x27 (nI x28) (nI x29) (nI x30) (nI x33) x45 (nI x46) (nI x52) (nI x53) (nI x61) (nI z62_178) (nI z63_179) (nI x65) x66 f1 f2 f3 (bN 3 q4) (bN 7 q5) (bN 7 q6) (bN 4 q7) f8 (bN 2 q9) (bH q10) f11 (b2 m12_0 m12_1) (b2 m13_0 m13_1) (b2 m14_0 m14_1) (b2m m15_0 m15_1) f17 (bA 159 q31) f32 f34 f35 f36 f37 (bN 7 q38) f39 f40 f41 (b2 m42_0 m42_1) f43 f44 f47 f48 f49 f50 f51 (bN 13 q54) (bN 120 z55_175) (bN 120 z56_176) z57_177 (bN 120 g_182) f59 f60 f64) ∧ va_S A s.heap H locs ∧ lv_has ls 4 [(0, .ref (ad 0)), (1, .int (nI g_136)), (2, .int (nI u_147)), (3, .int (nI g_183))]) 117 ?_ _ _ _ _ ⟨g_133, 0, rfl, (Nat.le_of_ble_eq_true rfl), hsp, hP, hD, hS, lv_sub hl [1, 2, 3, 0] rfl⟩
          rintro nn ih_184 H locs ls ⟨g_182, g_183, rfl, hg_183, he_187, hP, hD, hS, hl⟩
          obtain ⟨S_186, hsp, hin_188, hout_189⟩ := itr_step hlf_185 he_187
          refine lv_iload_n hx hb dX9_layGaps_117 rfl (lv_at hl 3 rfl) ?_
          refine lv_aload_n hx hb dX9_layGaps_118 rfl (lv_at hl 0 rfl) ?_
          refine va_calli (va_runV (As := []) (rest := [.int (nI g_183)]) ⟨hx, hb, hml, hown, hts⟩ (c_EM_clocks l dC dI _ ad ck x0 x16 x18 x19 x20 x21 x22 x23 x24 x25 x26 x27 x28 x29 x30 x33 x45 x46 x52 x53 x61 z62_178 z63_179 x65 x66 f1 f2 f3 q4 q5 q6 q7 f8 q9 q10 f11 m12_0 m12_1 m13_0 m13_1 m14_0 m14_1 m15_0 m15_1 f17 q31 f32 f34 f35 f36 f37 q38 f39 f40 f41 m42_0 m42_1 f43 f44 f47 f48 f49 f50 f51 q54 z55_175 z56_176 z57_177 g_182 f59 f60 f64 hx16 hx18 hx19 hx21 hx22 hx26 hx28 hx29 hx30 hx33 hx46 hx52 hx53 hx61 hz62_178 hz63_179 hx65 hm12_0 hm12_1 hm13_0 hm13_1 hm14_0 hm14_1 hm15_0 hm15_1 hm42_0 hm42_1) (cwV 0 hts g_EM_layGaps_EM_clocks rfl rfl rfl (by decide +kernel) ⟨Nat.le_of_ble_eq_true rfl, Nat.le_of_ble_eq_true rfl⟩) ⟨pu_bl, va_recv hK hP (ci := 9) (q0 := 0) rfl rfl, pu_in hP hK hD⟩ rfl rfl hl.1 rfl (lv_room (Nat.le_of_ble_eq_true rfl)) dX9_layGaps_119 ⟨Nat.le_of_ble_eq_true rfl, Nat.le_of_ble_eq_true rfl⟩) hS (fun q _ h => pu_fr hS hA q h) (pu_fr hS hA) (fun r_190 u t H1 locs ht hvm hw hB hz1 hk1 hS => ?_)
          have hP := pu_keep hP hk1
          clear hk1 hz1 ht hvm
          generalize H1 = H at hP hS ⊢
          obtain ⟨u_191, hu_191, rfl, iu_191⟩ := hw
          replace hsp := hsp.trans (slet_eq iu_191)
          refine lv_icmp_ge (tgt := 159) hx hb dX9_layGaps_122 (by decide) (fun c_192 => ?_) (fun c_192 => ?_)
          · have c_192 : u_191 ≤ g_183 := (nI_leI (a := u_191) (b := g_183) (Nat.lt_of_le_of_lt hu_191 (Nat.le_of_ble_eq_true rfl)) (Nat.lt_of_le_of_lt hg_183 (Nat.le_of_ble_eq_true rfl))).mp c_192
            replace hsp := hsp.trans (if_pos c_192)
            have hsp := hout_189 _ hsp
            refine lv_aload_n hx hb dX9_layGaps_159 rfl (lv_at hl 0 rfl) ?_
            refine lv_bipush (v := 100) hx hb dX9_layGaps_160 (by decide) ?_
            refine lv_aload_n hx hb dX9_layGaps_162 rfl (lv_at hl 0 rfl) ?_
            refine lv_iload_n hx hb dX9_layGaps_163 rfl (lv_at hl 2 rfl) ?_
            refine va_calli (va_runV (As := [.int (nI u_147)]) (rest := [.int 100, .ref (ad 0)]) ⟨hx, hb, hml, hown, hts⟩ (c_EM_into l dC dI _ ad ck x0 x16 x18 x19 x20 x21 x22 x23 x24 x25 x26 x27 x28 x29 x30 x33 x45 x46 x52 x53 x61 z62_178 z63_179 x65 x66 f1 f2 f3 q4 q5 q6 q7 f8 q9 q10 f11 m12_0 m12_1 m13_0 m13_1 m14_0 m14_1 m15_0 m15_1 f17 q31 f32 f34 f35 f36 f37 q38 f39 f40 f41 m42_0 m42_1 f43 f44 f47 f48 f49 f50 f51 q54 z55_175 z56_176 z57_177 g_182 f59 f60 f64 u_147 hx16 hx18 hx19 hx21 hx22 hx26 hx28 hx29 hx30 hx33 hx46 hx52 hx53 hx61 hz62_178 hz63_179 hx65 hm12_0 hm12_1 hm13_0 hm13_1 hm14_0 hm14_1 hm15_0 hm15_1 hm42_0 hm42_1 hu_147) (cwV 1 hts g_EM_layGaps_EM_into rfl rfl rfl (by decide +kernel) ⟨Nat.le_of_ble_eq_true rfl, Nat.le_of_ble_eq_true rfl⟩) ⟨pu_bl, va_recv hK hP (ci := 9) (q0 := 0) rfl rfl, pu_in hP hK hD⟩ rfl rfl hl.1 rfl (lv_room (Nat.le_of_ble_eq_true rfl)) dX9_layGaps_164 ⟨Nat.le_of_ble_eq_true rfl, Nat.le_of_ble_eq_true rfl⟩) hS (fun q _ h => pu_fr hS hA q h) (pu_fr hS hA) (fun r_193 u t H1 locs ht hvm hw hB hz1 hk1 hS => ?_)
            have hP := pu_keep hP hk1
            clear hk1 hz1 ht hvm
            generalize H1 = H at hP hS ⊢
            obtain ⟨u_194, hu_194, rfl, iu_194⟩ := hw
            replace hsp := hsp.trans (slet_eq iu_194)
            refine lv_iadd hx hb dX9_layGaps_167 ?_
            refine lv_topi (fun y_195 ey_195 => ?_)
            obtain rfl : y_195 = (nI (100 + u_194)) := ey_195.trans (nI_add 100 u_194)
            refine lv_iload_n hx hb dX9_layGaps_168 rfl (lv_at hl 1 rfl) ?_
            have hFc := pu_free hD hS hA
            refine va_callv (va_runV (As := [.int (nI (100 + u_194)), .int (nI g_136)]) (rest := []) ⟨hx, hb, hml, hown, hts⟩ (c_EM_layConditions_p l dC dI _ ad ck x0 x16 x18 x19 x20 x21 x22 x23 x24 x25 x26 x27 x28 x29 x30 x33 x45 x46 x52 x53 x61 z62_178 z63_179 x65 x66 f1 f2 f3 q4 q5 q6 q7 f8 q9 q10 f11 m12_0 m12_1 m13_0 m13_1 m14_0 m14_1 m15_0 m15_1 f17 q31 f32 f34 f35 f36 f37 q38 f39 f40 f41 m42_0 m42_1 f43 f44 f47 f48 f49 f50 f51 q54 z55_175 z56_176 z57_177 g_182 f59 f60 f64 (100 + u_194) g_136 hx16 hx18 hx19 hx21 hx22 hx26 hx28 hx29 hx30 hx33 hx46 hx52 hx53 hx61 (by omega) hz63_179 hx65 hm12_0 hm12_1 hm13_0 hm13_1 hm14_0 hm14_1 hm15_0 hm15_1 hm42_0 hm42_1 (by omega) (by omega) (by omega)) (cwV 2 hts g_EM_layGaps_EM_layConditions_p rfl rfl rfl (by decide +kernel) ⟨Nat.le_of_ble_eq_true rfl, Nat.le_of_ble_eq_true rfl⟩) ⟨pu_bl, va_recv hK hP (ci := 9) (q0 := 0) rfl rfl, pu_in hP hK hD⟩ rfl rfl hl.1 rfl (lv_room (Nat.le_of_ble_eq_true rfl)) dX9_layGaps_169 ⟨Nat.le_of_ble_eq_true rfl, Nat.le_of_ble_eq_true rfl⟩) hS (fun q _ h => hFc q h) hFc (fun u t H1 locs ht hvm hw hB hz1 hk1 hS => ?_)
            obtain ⟨z55_197, z56_198, z57_199, z62_200, z63_201, ⟨hP1, -, hD1⟩, hz62_200, hz63_201, xr_196_0, xr_196_1⟩ := hB
            rw [ht] at hP1
            have hP := hP1
            have hD := pu_all hFc hD1
            clear hP1 hD1 hFc
            clear hk1 hz1 ht hvm
            generalize H1 = H at hP hS ⊢
            replace hsp := hsp.trans (slet_eq xr_196_1)
            refine lv_iinc (v := (nI (g_136 + 1))) (lv' := [(1, .int (nI (g_136 + 1))), (0, .ref (ad 0)), (2, .int (nI u_147)), (3, .int (nI g_183))]) hx hb dX9_layGaps_172 hl (k := 1) rfl (nI_1 _) (by decide) rfl (fun ls hl => ?_)
            refine lv_goto (tgt := 49) hx hb dX9_layGaps_175 (by decide) ?_
            exact ih_138 (120 - (g_136 + 1)) (by omega) _ _ _ ⟨z55_197, z56_198, z57_199, g_182, z62_200, z63_201, (g_136 + 1), rfl, (by omega), hz63_201, ⟨by omega, by omega⟩, by omega, hin_142 _ hsp, hP, hD, hS, lv_sub hl [1, 0] rfl⟩
          · have c_192 : ¬ u_191 ≤ g_183 := fun z => c_192 ((nI_leI (a := u_191) (b := g_183) (Nat.lt_of_le_of_lt hu_191 (Nat.le_of_ble_eq_true rfl)) (Nat.lt_of_le_of_lt hg_183 (Nat.le_of_ble_eq_true rfl))).mpr z)
            replace hsp := hsp.trans (if_neg c_192)
            refine lv_aload_n hx hb dX9_layGaps_125 rfl (lv_at hl 0 rfl) ?_
            refine va_get (D := (dC, dI)) (ci := 9) (v := .ref (ad 58)) (C := RX9) (T := TX9) (N := 67) hx hb hts hiX9 hown hK hP 0 rfl rfl 58 (by decide) v_3 (fun _ h9 => h9) rfl dX9_layGaps_126 ?_
            refine lv_iload_n hx hb dX9_layGaps_129 rfl (lv_at hl 3 rfl) ?_
            refine lv_aload_n hx hb dX9_layGaps_130 rfl (lv_at hl 0 rfl) ?_
            refine lv_iload_n hx hb dX9_layGaps_131 rfl (lv_at hl 2 rfl) ?_
            refine va_calli (va_runV (As := [.int (nI u_147)]) (rest := [.int (nI g_183), .ref (ad 58)]) ⟨hx, hb, hml, hown, hts⟩ (c_EM_setBy l dC dI _ ad ck x0 x16 x18 x19 x20 x21 x22 x23 x24 x25 x26 x27 x28 x29 x30 x33 x45 x46 x52 x53 x61 z62_178 z63_179 x65 x66 f1 f2 f3 q4 q5 q6 q7 f8 q9 q10 f11 m12_0 m12_1 m13_0 m13_1 m14_0 m14_1 m15_0 m15_1 f17 q31 f32 f34 f35 f36 f37 q38 f39 f40 f41 m42_0 m42_1 f43 f44 f47 f48 f49 f50 f51 q54 z55_175 z56_176 z57_177 g_182 f59 f60 f64 u_147 hx16 hx18 hx19 hx21 hx22 hx26 hx28 hx29 hx30 hx33 hx46 hx52 hx53 hx61 hz62_178 hz63_179 hx65 hm12_0 hm12_1 hm13_0 hm13_1 hm14_0 hm14_1 hm15_0 hm15_1 hm42_0 hm42_1 hu_147) (cwV 1 hts g_EM_layGaps_EM_setBy rfl rfl rfl (by decide +kernel) ⟨Nat.le_of_ble_eq_true rfl, Nat.le_of_ble_eq_true rfl⟩) ⟨pu_bl, va_recv hK hP (ci := 9) (q0 := 0) rfl rfl, pu_in hP hK hD⟩ rfl rfl hl.1 rfl (lv_room (Nat.le_of_ble_eq_true rfl)) dX9_layGaps_132 ⟨Nat.le_of_ble_eq_true rfl, Nat.le_of_ble_eq_true rfl⟩) hS (fun q _ h => pu_fr hS hA q h) (pu_fr hS hA) (fun r_202 u t H1 locs ht hvm hw hB hz1 hk1 hS => ?_)
            have hP := pu_keep hP hk1
            clear hk1 hz1 ht hvm
            generalize H1 = H at hP hS ⊢
            have ir_202 := hw
            replace hsp := hsp.trans (slet_eq ir_202)
            refine lv_iload_n hx hb dX9_layGaps_135 rfl (lv_at hl 3 rfl) ?_
            obtain ⟨JR_205, hJR_205, hsp⟩ := slet_ex hsp
            refine pu_join (fun H locs ls st => ∃ (g_203 : Nat), st = [.int (nI g_203), .int (nI g_183), .ref (ad 58)] ∧ g_203 ≤ 120 ∧ g_203 = JR_205 ∧ va_P (dC, dI) vwCl (mo_w ad ck x0 (nI x16) (nI x18) (nI x19) x20 (nI x21) (nI x22) x23 x24 x25 (nI x26) x27 (nI x28) (nI x29) (nI x30) (nI x33) x45 (nI x46) (nI x52) (nI x53) (nI x61) (nI z62_178) (nI z63_179) (nI x65) x66 f1 f2 f3 (bN 3 q4) (bN 7 q5) (bN 7 q6) (bN 4 q7) f8 (bN 2 q9) (bH q10) f11 (b2 m12_0 m12_1) (b2 m13_0 m13_1) (b2 m14_0 m14_1) (b2m m15_0 m15_1) f17 (bA 159 q31) f32 f34 f35 f36 f37 (bN 7 q38) f39 f40 f41 (b2 m42_0 m42_1) f43 f44 f47 f48 f49 f50 f51 (bN 13 q54) (bN 120 z55_175) (bN 120 z56_176) z57_177 (bN 120 g_182) f59 f60 f64) H ∧ va_D A (mo_w ad ck x0 (nI x16) (nI x18) (nI x19) x20 (nI x21) (nI x22) x23 x24 x25 (nI x26) x27 (nI x28) (nI x29) (nI x30) (nI x33) x45 (nI x46) (nI x52) (nI x53) (nI x61) (nI z62_178) (nI z63_179) (nI x65) x66 f1 f2 f3 (bN 3 q4) (bN 7 q5) (bN 7 q6) (bN 4 q7) f8 (bN 2 q9) (bH q10) f11 (b2 m12_0 m12_1) (b2 m13_0 m13_1) (b2 m14_0 m14_1) (b2m m15_0 m15_1) f17 (bA 159 q31) f32 f34 f35 f36 f37 (bN 7 q38) f39 f40 f41 (b2 m42_0 m42_1) f43 f44 f47 f48 f49 f50 f51 (bN 13 q54) (bN 120 z55_175) (bN 120 z56_176) z57_177 (bN 120 g_182) f59 f60 f64) ∧ va_S A s.heap H locs ∧ lv_has ls 4 [(0, .ref (ad 0)), (1, .int (nI g_136)), (2, .int (nI u_147)), (3, .int (nI g_183))]) 152 ?_ (fun j_204 => ?_)
            · rintro H locs ls st ⟨g_203, rfl, hg_203, he_206, hP, hD, hS, hl⟩
              rw [← he_206] at hsp
              refine va_iast hx hb hK hP hD hS 39 38 rfl rfl (vp_in_nI (n := g_183) (by omega) (Nat.le_of_ble_eq_true rfl)) dX9_layGaps_152 (fun H locs hP hD hS => ?_)
              obtain ⟨q_207, eq_207, kq_207, oq_207, xq_207⟩ := bN_upx 120 g_182 (n := g_183) (v := g_203) (Nat.lt_of_le_of_lt hg_183 (Nat.le_of_ble_eq_true rfl)) hg_203
              have hP : va_P (dC, dI) vwCl (mo_w ad ck x0 (nI x16) (nI x18) (nI x19) x20 (nI x21) (nI x22) x23 x24 x25 (nI x26) x27 (nI x28) (nI x29) (nI x30) (nI x33) x45 (nI x46) (nI x52) (nI x53) (nI x61) (nI z62_178) (nI z63_179) (nI x65) x66 f1 f2 f3 (bN 3 q4) (bN 7 q5) (bN 7 q6) (bN 4 q7) f8 (bN 2 q9) (bH q10) f11 (b2 m12_0 m12_1) (b2 m13_0 m13_1) (b2 m14_0 m14_1) (b2m m15_0 m15_1) f17 (bA 159 q31) f32 f34 f35 f36 f37 (bN 7 q38) f39 f40 f41 (b2 m42_0 m42_1) f43 f44 f47 f48 f49 f50 f51 (bN 13 q54) (bN 120 z55_175) (bN 120 z56_176) z57_177 (bN 120 q_207) f59 f60 f64) H := by rw [← eq_207]; exact hP
              have hD : va_D A (mo_w ad ck x0 (nI x16) (nI x18) (nI x19) x20 (nI x21) (nI x22) x23 x24 x25 (nI x26) x27 (nI x28) (nI x29) (nI x30) (nI x33) x45 (nI x46) (nI x52) (nI x53) (nI x61) (nI z62_178) (nI z63_179) (nI x65) x66 f1 f2 f3 (bN 3 q4) (bN 7 q5) (bN 7 q6) (bN 4 q7) f8 (bN 2 q9) (bH q10) f11 (b2 m12_0 m12_1) (b2 m13_0 m13_1) (b2 m14_0 m14_1) (b2m m15_0 m15_1) f17 (bA 159 q31) f32 f34 f35 f36 f37 (bN 7 q38) f39 f40 f41 (b2 m42_0 m42_1) f43 f44 f47 f48 f49 f50 f51 (bN 13 q54) (bN 120 z55_175) (bN 120 z56_176) z57_177 (bN 120 q_207) f59 f60 f64) := by rw [← eq_207]; exact hD
              replace hsp := hsp.trans (slet_eq xq_207)
              refine lv_iinc (v := (nI (g_183 + 1))) (lv' := [(3, .int (nI (g_183 + 1))), (0, .ref (ad 0)), (1, .int (nI g_136)), (2, .int (nI u_147))]) hx hb dX9_layGaps_153 hl (k := 3) rfl (nI_1 _) (by decide) rfl (fun ls hl => ?_)
              refine lv_goto (tgt := 117) hx hb dX9_layGaps_156 (by decide) ?_
              exact ih_184 (3 - (g_183 + 1)) (by omega) _ _ _ ⟨q_207, (g_183 + 1), rfl, (by omega), hin_188 _ hsp, hP, hD, hS, lv_sub hl [1, 2, 3, 0] rfl⟩
            have hsp := hJR_205
            refine va_calli (va_runS (As := [.int r_202, .int (nI g_183)]) (rest := [.int (nI g_183), .ref (ad 58)]) ⟨hx, hb, hml, hown, hts⟩ (c_EM_isOf l dC dI _ ad ck x0 x16 x18 x19 x20 x21 x22 x23 x24 x25 x26 x27 x28 x29 x30 x33 x45 x46 x52 x53 x61 z62_178 z63_179 x65 x66 f1 f2 f3 q4 q5 q6 q7 f8 q9 q10 f11 m12_0 m12_1 m13_0 m13_1 m14_0 m14_1 m15_0 m15_1 f17 q31 f32 f34 f35 f36 f37 q38 f39 f40 f41 m42_0 m42_1 f43 f44 f47 f48 f49 f50 f51 q54 z55_175 z56_176 z57_177 g_182 f59 f60 f64 r_202 (nI g_183) hx16 hx18 hx19 hx21 hx22 hx26 hx28 hx29 hx30 hx33 hx46 hx52 hx53 hx61 hz62_178 hz63_179 hx65 hm12_0 hm12_1 hm13_0 hm13_1 hm14_0 hm14_1 hm15_0 hm15_1 hm42_0 hm42_1) (va_cwS 2 hts g_EM_layGaps_EM_isOf rfl rfl rfl (by decide +kernel) ⟨Nat.le_of_ble_eq_true rfl, Nat.le_of_ble_eq_true rfl⟩) ⟨pu_bl, pu_in hP hK hD⟩ rfl rfl hl.1 rfl (lv_room (Nat.le_of_ble_eq_true rfl)) dX9_layGaps_136 ⟨Nat.le_of_ble_eq_true rfl, Nat.le_of_ble_eq_true rfl⟩) hS (fun q _ h => pu_fr hS hA q h) (pu_fr hS hA) (fun r_208 u t H1 locs ht hvm hw hB hz1 hk1 hS => ?_)
            have hP := pu_keep hP hk1
            clear hk1 hz1 ht hvm
            generalize H1 = H at hP hS ⊢
            obtain ⟨u_209, hu_209, rfl, iu_209⟩ := hw
            replace hsp := hsp.trans (slet_eq iu_209)
            refine lv_if_eq (tgt := 146) hx hb dX9_layGaps_139 (by decide) (fun c_210 => ?_) (fun c_210 => ?_)
            · have c_210 : u_209 = 0 := (nI_eq (a := u_209) (b := 0) (Nat.lt_of_le_of_lt hu_209 (Nat.le_of_ble_eq_true rfl)) (Nat.le_of_ble_eq_true rfl)).mp c_210
              replace hsp := hsp.trans (if_pos c_210)
              refine lv_aload_n hx hb dX9_layGaps_146 rfl (lv_at hl 0 rfl) ?_
              refine va_get (D := (dC, dI)) (ci := 9) (v := .ref (ad 58)) (C := RX9) (T := TX9) (N := 67) hx hb hts hiX9 hown hK hP 0 rfl rfl 58 (by decide) v_3 (fun _ h9 => h9) rfl dX9_layGaps_147 ?_
              refine lv_iload_n hx hb dX9_layGaps_150 rfl (lv_at hl 3 rfl) ?_
              refine va_iald hx hb hK hP 39 38 rfl rfl (vp_in_nI (n := g_183) (by omega) (Nat.le_of_ble_eq_true rfl)) dX9_layGaps_151 ?_
              refine lv_topi (fun y_211 ey_211 => ?_)
              obtain ⟨u_212, hu_212, qu_212, xu_212⟩ := bN_getx 120 g_182 (n := g_183) (Nat.lt_of_le_of_lt hg_183 (Nat.le_of_ble_eq_true rfl))
              obtain rfl : y_211 = nI u_212 := ey_211.trans qu_212
              replace hsp := hsp.trans (slet_eq xu_212)
              exact j_204 _ _ _ _ ⟨u_212, rfl, hu_212, hsp.symm, hP, hD, hS, lv_sub hl [0, 1, 2, 3] rfl⟩
            · have c_210 : ¬ u_209 = 0 := fun z => c_210 ((nI_eq (a := u_209) (b := 0) (Nat.lt_of_le_of_lt hu_209 (Nat.le_of_ble_eq_true rfl)) (Nat.le_of_ble_eq_true rfl)).mpr z)
              replace hsp := hsp.trans (if_neg c_210)
              refine lv_iload_n hx hb dX9_layGaps_142 rfl (lv_at hl 1 rfl) ?_
              refine lv_goto (tgt := 152) hx hb dX9_layGaps_143 (by decide) ?_
              exact j_204 _ _ _ _ ⟨g_136, rfl, hg_136.2, hsp.symm, hP, hD, hS, lv_sub hl [0, 1, 2, 3] rfl⟩
        have hsp := hJR_163
        refine lv_if_eq (tgt := 96) hx hb dX9_layGaps_84 (by decide) (fun c_213 => ?_) (fun c_213 => ?_)
        · have c_213 : u_156 = 0 := (nI_eq (a := u_156) (b := 0) (Nat.lt_of_le_of_lt hu_156 (Nat.le_of_ble_eq_true rfl)) (Nat.le_of_ble_eq_true rfl)).mp c_213
          replace hsp := hsp.trans (if_pos c_213)
          exact j_162 _ _ _ _ ⟨(g_134 + 1), z55_150, z56_151, z57_152, rfl, ⟨by omega, by omega⟩, by omega, hsp.symm, hP, hD, hS, lv_sub hl [1, 2, 0] rfl⟩
        · have c_213 : ¬ u_156 = 0 := fun z => c_213 ((nI_eq (a := u_156) (b := 0) (Nat.lt_of_le_of_lt hu_156 (Nat.le_of_ble_eq_true rfl)) (Nat.le_of_ble_eq_true rfl)).mpr z)
          replace hsp := hsp.trans (if_neg c_213)
          refine lv_aload_n hx hb dX9_layGaps_87 rfl (lv_at hl 1 rfl) ?_
          refine lv_iload_n hx hb dX9_layGaps_88 rfl (lv_at hl 2 rfl) ?_
          refine lv_iload_n hx hb dX9_layGaps_89 rfl (lv_at hl 2 rfl) ?_
          refine lv_iconst (v := 1) hx hb dX9_layGaps_90 (by decide) ?_
          refine lv_isub hx hb dX9_layGaps_91 ?_
          refine lv_topi (fun y_214 ey_214 => ?_)
          obtain rfl : y_214 = (nI (g_136 - 1)) := ey_214.trans (pk_sub (a := g_136) (b := 1) (by omega))
          refine lv_iconst (v := 1) hx hb dX9_layGaps_92 (by decide) ?_
          have hFc := pu_free hD hS hA
          refine va_callv (va_runV (As := [.int (nI g_136), .int (nI (g_136 - 1)), .int 1]) (rest := []) ⟨hx, hb, hml, hown, hts⟩ (c_EM_holdsApart l dC dI _ ad ck x0 x16 x18 x19 x20 x21 x22 x23 x24 x25 x26 x27 x28 x29 x30 x33 x45 x46 x52 x53 x61 (g_134 + 1) g_135 x65 x66 f1 f2 f3 q4 q5 q6 q7 f8 q9 q10 f11 m12_0 m12_1 m13_0 m13_1 m14_0 m14_1 m15_0 m15_1 f17 q31 f32 f34 f35 f36 f37 q38 f39 f40 f41 m42_0 m42_1 f43 f44 f47 f48 f49 f50 f51 q54 z55_150 z56_151 z57_152 g_133 f59 f60 f64 g_136 (g_136 - 1) 1 hx16 hx18 hx19 hx21 hx22 hx26 hx28 hx29 hx30 hx33 hx46 hx52 hx53 hx61 (by omega) hg_135 hx65 hm12_0 hm12_1 hm13_0 hm13_1 hm14_0 hm14_1 hm15_0 hm15_1 hm42_0 hm42_1 hg_136.2 (by omega)) (cwV 3 hts g_EM_layGaps_EM_holdsApart rfl rfl rfl (by decide +kernel) ⟨Nat.le_of_ble_eq_true rfl, Nat.le_of_ble_eq_true rfl⟩) ⟨pu_bl, va_recv hK hP (ci := 9) (q0 := 0) rfl rfl, pu_in hP hK hD⟩ rfl rfl hl.1 rfl (lv_room (Nat.le_of_ble_eq_true rfl)) dX9_layGaps_93 ⟨Nat.le_of_ble_eq_true rfl, Nat.le_of_ble_eq_true rfl⟩) hS (fun q _ h => hFc q h) hFc (fun u t H1 locs ht hvm hw hB hz1 hk1 hS => ?_)
          obtain ⟨z55_216, z56_217, z57_218, ⟨hP1, -, hD1⟩, xr_215_0⟩ := hB
          rw [ht] at hP1
          have hP := hP1
          have hD := pu_all hFc hD1
          clear hP1 hD1 hFc
          clear hk1 hz1 ht hvm
          generalize H1 = H at hP hS ⊢
          replace hsp := hsp.trans (slet_eq xr_215_0)
          exact j_162 _ _ _ _ ⟨((g_134 + 1) + 1), z55_216, z56_217, z57_218, rfl, ⟨by omega, by omega⟩, by omega, hsp.symm, hP, hD, hS, lv_sub hl [1, 2, 0] rfl⟩
  · have c_13 : ¬ 3 ≤ g_5 := fun z => c_13 ((nI_leI (a := 3) (b := g_5) (Nat.le_of_ble_eq_true rfl) (Nat.lt_of_le_of_lt hg_5 (Nat.le_of_ble_eq_true rfl))).mpr z)
    replace hsp := hsp.trans (if_neg c_13)
    refine lv_aload_n hx hb dX9_layGaps_17 rfl (lv_at hl 0 rfl) ?_
    refine va_get (D := (dC, dI)) (ci := 9) (v := .ref (ad 58)) (C := RX9) (T := TX9) (N := 67) hx hb hts hiX9 hown hK hP 0 rfl rfl 58 (by decide) v_3 (fun _ h9 => h9) rfl dX9_layGaps_18 ?_
    refine lv_iload_n hx hb dX9_layGaps_21 rfl (lv_at hl 1 rfl) ?_
    refine lv_iconst (v := 0) hx hb dX9_layGaps_22 (by decide) ?_
    refine va_iast hx hb hK hP hD hS 39 38 rfl rfl (vp_in_nI (n := g_5) (by omega) (Nat.le_of_ble_eq_true rfl)) dX9_layGaps_23 (fun H locs hP hD hS => ?_)
    obtain ⟨q_219, eq_219, kq_219, oq_219, xq_219⟩ := bN_upx 120 g_4 (n := g_5) (v := 0) (Nat.lt_of_le_of_lt hg_5 (Nat.le_of_ble_eq_true rfl)) (Nat.le_of_ble_eq_true rfl)
    have hP : va_P (dC, dI) vwCl (mo_w ad ck x0 (nI x16) (nI x18) (nI x19) x20 (nI x21) (nI x22) x23 x24 x25 (nI x26) x27 (nI x28) (nI x29) (nI x30) (nI x33) x45 (nI x46) (nI x52) (nI x53) (nI x61) 0 0 (nI x65) x66 f1 f2 f3 (bN 3 q4) (bN 7 q5) (bN 7 q6) (bN 4 q7) f8 (bN 2 q9) (bH q10) f11 (b2 m12_0 m12_1) (b2 m13_0 m13_1) (b2 m14_0 m14_1) (b2m m15_0 m15_1) f17 (bA 159 q31) f32 f34 f35 f36 f37 (bN 7 q38) f39 f40 f41 (b2 m42_0 m42_1) f43 f44 f47 f48 f49 f50 f51 (bN 13 q54) (bN 120 q55) (bN 120 q56) f57 (bN 120 q_219) f59 f60 f64) H := by rw [← eq_219]; exact hP
    have hD : va_D A (mo_w ad ck x0 (nI x16) (nI x18) (nI x19) x20 (nI x21) (nI x22) x23 x24 x25 (nI x26) x27 (nI x28) (nI x29) (nI x30) (nI x33) x45 (nI x46) (nI x52) (nI x53) (nI x61) 0 0 (nI x65) x66 f1 f2 f3 (bN 3 q4) (bN 7 q5) (bN 7 q6) (bN 4 q7) f8 (bN 2 q9) (bH q10) f11 (b2 m12_0 m12_1) (b2 m13_0 m13_1) (b2 m14_0 m14_1) (b2m m15_0 m15_1) f17 (bA 159 q31) f32 f34 f35 f36 f37 (bN 7 q38) f39 f40 f41 (b2 m42_0 m42_1) f43 f44 f47 f48 f49 f50 f51 (bN 13 q54) (bN 120 q55) (bN 120 q56) f57 (bN 120 q_219) f59 f60 f64) := by rw [← eq_219]; exact hD
    replace hsp := hsp.trans (slet_eq xq_219)
    refine lv_iinc (v := (nI (g_5 + 1))) (lv' := [(1, .int (nI (g_5 + 1))), (0, .ref (ad 0))]) hx hb dX9_layGaps_24 hl (k := 1) rfl (nI_1 _) (by decide) rfl (fun ls hl => ?_)
    refine lv_goto (tgt := 12) hx hb dX9_layGaps_27 (by decide) ?_
    exact ih_7 (3 - (g_5 + 1)) (by omega) _ _ _ ⟨q_219, (g_5 + 1), rfl, (by omega), by omega, hin_11 _ hsp, hP, hD, hS, lv_sub hl [1, 0] rfl⟩
