theorem dX9_hasTimes_0 : decode cX9_hasTimes 0 = .ok (.iconst (-1), 1) := by decide +kernel
theorem dX9_hasTimes_1 : decode cX9_hasTimes 1 = .ok (.istore 5, 2) := by decide +kernel
theorem dX9_hasTimes_3 : decode cX9_hasTimes 3 = .ok (.iload 5, 2) := by decide +kernel
theorem dX9_hasTimes_5 : decode cX9_hasTimes 5 = .ok (.aload_n 0, 1) := by decide +kernel
theorem dX9_hasTimes_6 : decode cX9_hasTimes 6 = .ok (.invokevirtual 280, 3) := by decide +kernel
theorem dX9_hasTimes_9 : decode cX9_hasTimes 9 = .ok (.if_icmp .ge 146, 3) := by decide +kernel
theorem dX9_hasTimes_12 : decode cX9_hasTimes 12 = .ok (.iconst (-1), 1) := by decide +kernel
theorem dX9_hasTimes_13 : decode cX9_hasTimes 13 = .ok (.istore 6, 2) := by decide +kernel
theorem dX9_hasTimes_15 : decode cX9_hasTimes 15 = .ok (.iload 6, 2) := by decide +kernel
theorem dX9_hasTimes_17 : decode cX9_hasTimes 17 = .ok (.aload_n 0, 1) := by decide +kernel
theorem dX9_hasTimes_18 : decode cX9_hasTimes 18 = .ok (.invokevirtual 280, 3) := by decide +kernel
theorem dX9_hasTimes_21 : decode cX9_hasTimes 21 = .ok (.if_icmp .ge 128, 3) := by decide +kernel
theorem dX9_hasTimes_24 : decode cX9_hasTimes 24 = .ok (.iload 5, 2) := by decide +kernel
theorem dX9_hasTimes_26 : decode cX9_hasTimes 26 = .ok (.ifCond .ne 8, 3) := by decide +kernel
theorem dX9_hasTimes_29 : decode cX9_hasTimes 29 = .ok (.iload_n 2, 1) := by decide +kernel
theorem dX9_hasTimes_30 : decode cX9_hasTimes 30 = .ok (.i2l, 1) := by decide +kernel
theorem dX9_hasTimes_31 : decode cX9_hasTimes 31 = .ok (.goto 27, 3) := by decide +kernel
theorem dX9_hasTimes_34 : decode cX9_hasTimes 34 = .ok (.iload 5, 2) := by decide +kernel
theorem dX9_hasTimes_36 : decode cX9_hasTimes 36 = .ok (.iconst 1, 1) := by decide +kernel
theorem dX9_hasTimes_37 : decode cX9_hasTimes 37 = .ok (.if_icmp .ne 8, 3) := by decide +kernel
theorem dX9_hasTimes_40 : decode cX9_hasTimes 40 = .ok (.iload_n 3, 1) := by decide +kernel
theorem dX9_hasTimes_41 : decode cX9_hasTimes 41 = .ok (.i2l, 1) := by decide +kernel
theorem dX9_hasTimes_42 : decode cX9_hasTimes 42 = .ok (.goto 16, 3) := by decide +kernel
theorem dX9_hasTimes_45 : decode cX9_hasTimes 45 = .ok (.iload 5, 2) := by decide +kernel
theorem dX9_hasTimes_47 : decode cX9_hasTimes 47 = .ok (.iconst 2, 1) := by decide +kernel
theorem dX9_hasTimes_48 : decode cX9_hasTimes 48 = .ok (.if_icmp .ne 9, 3) := by decide +kernel
theorem dX9_hasTimes_51 : decode cX9_hasTimes 51 = .ok (.iload 4, 2) := by decide +kernel
theorem dX9_hasTimes_53 : decode cX9_hasTimes 53 = .ok (.i2l, 1) := by decide +kernel
theorem dX9_hasTimes_54 : decode cX9_hasTimes 54 = .ok (.goto 4, 3) := by decide +kernel
theorem dX9_hasTimes_57 : decode cX9_hasTimes 57 = .ok (.lconst 0, 1) := by decide +kernel
theorem dX9_hasTimes_58 : decode cX9_hasTimes 58 = .ok (.lstore 7, 2) := by decide +kernel
theorem dX9_hasTimes_60 : decode cX9_hasTimes 60 = .ok (.iload 6, 2) := by decide +kernel
theorem dX9_hasTimes_62 : decode cX9_hasTimes 62 = .ok (.ifCond .ne 8, 3) := by decide +kernel
theorem dX9_hasTimes_65 : decode cX9_hasTimes 65 = .ok (.iload_n 2, 1) := by decide +kernel
theorem dX9_hasTimes_66 : decode cX9_hasTimes 66 = .ok (.i2l, 1) := by decide +kernel
theorem dX9_hasTimes_67 : decode cX9_hasTimes 67 = .ok (.goto 27, 3) := by decide +kernel
theorem dX9_hasTimes_70 : decode cX9_hasTimes 70 = .ok (.iload 6, 2) := by decide +kernel
theorem dX9_hasTimes_72 : decode cX9_hasTimes 72 = .ok (.iconst 1, 1) := by decide +kernel
theorem dX9_hasTimes_73 : decode cX9_hasTimes 73 = .ok (.if_icmp .ne 8, 3) := by decide +kernel
theorem dX9_hasTimes_76 : decode cX9_hasTimes 76 = .ok (.iload_n 3, 1) := by decide +kernel
theorem dX9_hasTimes_77 : decode cX9_hasTimes 77 = .ok (.i2l, 1) := by decide +kernel
theorem dX9_hasTimes_78 : decode cX9_hasTimes 78 = .ok (.goto 16, 3) := by decide +kernel
theorem dX9_hasTimes_81 : decode cX9_hasTimes 81 = .ok (.iload 6, 2) := by decide +kernel
theorem dX9_hasTimes_83 : decode cX9_hasTimes 83 = .ok (.iconst 2, 1) := by decide +kernel
theorem dX9_hasTimes_84 : decode cX9_hasTimes 84 = .ok (.if_icmp .ne 9, 3) := by decide +kernel
theorem dX9_hasTimes_87 : decode cX9_hasTimes 87 = .ok (.iload 4, 2) := by decide +kernel
theorem dX9_hasTimes_89 : decode cX9_hasTimes 89 = .ok (.i2l, 1) := by decide +kernel
theorem dX9_hasTimes_90 : decode cX9_hasTimes 90 = .ok (.goto 4, 3) := by decide +kernel
theorem dX9_hasTimes_93 : decode cX9_hasTimes 93 = .ok (.lconst 0, 1) := by decide +kernel
theorem dX9_hasTimes_94 : decode cX9_hasTimes 94 = .ok (.lstore 9, 2) := by decide +kernel
theorem dX9_hasTimes_96 : decode cX9_hasTimes 96 = .ok (.aload_n 0, 1) := by decide +kernel
theorem dX9_hasTimes_97 : decode cX9_hasTimes 97 = .ok (.iload_n 1, 1) := by decide +kernel
theorem dX9_hasTimes_98 : decode cX9_hasTimes 98 = .ok (.iload 5, 2) := by decide +kernel
theorem dX9_hasTimes_100 : decode cX9_hasTimes 100 = .ok (.iload 6, 2) := by decide +kernel
theorem dX9_hasTimes_102 : decode cX9_hasTimes 102 = .ok (.invokevirtual 394, 3) := by decide +kernel
theorem dX9_hasTimes_105 : decode cX9_hasTimes 105 = .ok (.istore 11, 2) := by decide +kernel
theorem dX9_hasTimes_107 : decode cX9_hasTimes 107 = .ok (.iload 11, 2) := by decide +kernel
theorem dX9_hasTimes_109 : decode cX9_hasTimes 109 = .ok (.ldc_w 327, 3) := by decide +kernel
theorem dX9_hasTimes_112 : decode cX9_hasTimes 112 = .ok (.if_icmp .ge 31, 3) := by decide +kernel
theorem dX9_hasTimes_115 : decode cX9_hasTimes 115 = .ok (.lload 7, 2) := by decide +kernel
theorem dX9_hasTimes_117 : decode cX9_hasTimes 117 = .ok (.lload 9, 2) := by decide +kernel
theorem dX9_hasTimes_119 : decode cX9_hasTimes 119 = .ok (.lsub, 1) := by decide +kernel
theorem dX9_hasTimes_120 : decode cX9_hasTimes 120 = .ok (.iload 11, 2) := by decide +kernel
theorem dX9_hasTimes_122 : decode cX9_hasTimes 122 = .ok (.iconst 1, 1) := by decide +kernel
theorem dX9_hasTimes_123 : decode cX9_hasTimes 123 = .ok (.ishr, 1) := by decide +kernel
theorem dX9_hasTimes_124 : decode cX9_hasTimes 124 = .ok (.i2l, 1) := by decide +kernel
theorem dX9_hasTimes_125 : decode cX9_hasTimes 125 = .ok (.ldc2_w 399, 3) := by decide +kernel
theorem dX9_hasTimes_128 : decode cX9_hasTimes 128 = .ok (.lmul, 1) := by decide +kernel
theorem dX9_hasTimes_129 : decode cX9_hasTimes 129 = .ok (.lconst 1, 1) := by decide +kernel
theorem dX9_hasTimes_130 : decode cX9_hasTimes 130 = .ok (.lsub, 1) := by decide +kernel
theorem dX9_hasTimes_131 : decode cX9_hasTimes 131 = .ok (.iload 11, 2) := by decide +kernel
theorem dX9_hasTimes_133 : decode cX9_hasTimes 133 = .ok (.iconst 1, 1) := by decide +kernel
theorem dX9_hasTimes_134 : decode cX9_hasTimes 134 = .ok (.iand, 1) := by decide +kernel
theorem dX9_hasTimes_135 : decode cX9_hasTimes 135 = .ok (.i2l, 1) := by decide +kernel
theorem dX9_hasTimes_136 : decode cX9_hasTimes 136 = .ok (.ladd, 1) := by decide +kernel
theorem dX9_hasTimes_137 : decode cX9_hasTimes 137 = .ok (.lcmp, 1) := by decide +kernel
theorem dX9_hasTimes_138 : decode cX9_hasTimes 138 = .ok (.ifCond .le 5, 3) := by decide +kernel
theorem dX9_hasTimes_141 : decode cX9_hasTimes 141 = .ok (.iconst 0, 1) := by decide +kernel
theorem dX9_hasTimes_142 : decode cX9_hasTimes 142 = .ok (.ireturn, 1) := by decide +kernel
theorem dX9_hasTimes_143 : decode cX9_hasTimes 143 = .ok (.iinc 6 1, 3) := by decide +kernel
theorem dX9_hasTimes_146 : decode cX9_hasTimes 146 = .ok (.goto (-131), 3) := by decide +kernel
theorem dX9_hasTimes_149 : decode cX9_hasTimes 149 = .ok (.iinc 5 1, 3) := by decide +kernel
theorem dX9_hasTimes_152 : decode cX9_hasTimes 152 = .ok (.goto (-149), 3) := by decide +kernel
theorem dX9_hasTimes_155 : decode cX9_hasTimes 155 = .ok (.iconst 1, 1) := by decide +kernel
theorem dX9_hasTimes_156 : decode cX9_hasTimes 156 = .ok (.ireturn, 1) := by decide +kernel
abbrev vs_EM_hasTimes : List Cond := .code yX9_hasTimes cX9_hasTimes 12 (some .boolean) :: VM
theorem g_EM_hasTimes_EM_clocks : GoodIn vs_EM_hasTimes (wsV RX9 280 RX9 yX9_clocks vs_EM_clocks) := gm_V vm_140 vm_141 vm_142 vm_19 vm_143
theorem g_EM_hasTimes_EM_boundOf_10 : GoodIn vs_EM_hasTimes (wsV RX9 394 RX9 yX9_boundOf vs_EM_boundOf_10) := gm_V vm_267 vm_268 vm_269 vm_19 vm_270
theorem g_EM_hasTimes_EM_boundOf_11 : GoodIn vs_EM_hasTimes (wsV RX9 394 RX9 yX9_boundOf vs_EM_boundOf_11) := gm_V vm_267 vm_268 vm_269 vm_19 vm_270
theorem g_EM_hasTimes_EM_boundOf_00 : GoodIn vs_EM_hasTimes (wsV RX9 394 RX9 yX9_boundOf vs_EM_boundOf_00) := gm_V vm_267 vm_268 vm_269 vm_19 vm_270
theorem g_EM_hasTimes_EM_boundOf_01 : GoodIn vs_EM_hasTimes (wsV RX9 394 RX9 yX9_boundOf vs_EM_boundOf_01) := gm_V vm_267 vm_268 vm_269 vm_19 vm_270
noncomputable def sp_EM_hasTimes_L1 (x16 : Nat) (m12_0 : Nat) (m12_1 : Nat) (f34 : Nat → Int32) (a0 : Nat) (p1 : Int32) (p2 : Int32) (p3 : Int32) (g_12 : Nat) : (Int32 × Nat × Int64 × Int64) → (Int32 × Nat × Int64 × Int64) ⊕ ((Nat × Int32) ⊕ (Nat)) := fun (g_36, g_37, g_38, g_39) => (slet (sp_EM_clocks x16 m12_0 m12_1) (fun u_47 => (if u_47 ≤ g_37 then (Sum.inr (Sum.inl ((g_12 + 1), (nI g_37)))) else (slet (α := Int64) (if g_12 = 0 then (slet ((p1 : Int32).toInt64) (fun y_80 => y_80)) else (if g_12 = 1 then (slet ((p2 : Int32).toInt64) (fun y_79 => y_79)) else (slet ((p3 : Int32).toInt64) (fun y_78 => y_78)))) (fun g_49 => (slet (α := Int64) (if g_37 = 0 then (slet ((p1 : Int32).toInt64) (fun y_74 => y_74)) else (if g_37 = 1 then (slet ((p2 : Int32).toInt64) (fun y_73 => y_73)) else (slet ((p3 : Int32).toInt64) (fun y_72 => y_72)))) (fun g_53 => (slet (sp_EM_boundOf_11 f34 a0 g_12 g_37) (fun r_57 => (if (1048576 : Int32) ≤ r_57 then (Sum.inl (r_57, (g_37 + 1), g_49, g_53)) else (slet ((g_49 : Int64) - g_53) (fun y_59 => (slet ((r_57 : Int32) >>> ((1 : Int32) &&& 31)) (fun y_60 => (slet ((y_60 : Int32).toInt64) (fun y_61 => (slet ((y_61 : Int64) * ((256) : Int64)) (fun y_62 => (slet ((y_62 : Int64) - (1 : Int64)) (fun y_63 => (slet ((r_57 : Int32) &&& (1 : Int32)) (fun y_64 => (slet ((y_64 : Int32).toInt64) (fun y_65 => (slet ((y_63 : Int64) + y_65) (fun y_66 => (slet (lg_cmp (y_59 : Int64) y_66) (fun y_67 => (if (y_67 : Int32) ≤ 0 then (Sum.inl (r_57, (g_37 + 1), g_49, g_53)) else (Sum.inr (Sum.inr 0)))))))))))))))))))))))))))))))
noncomputable def sp_EM_hasTimes_L2 (x16 : Nat) (m12_0 : Nat) (m12_1 : Nat) (f34 : Nat → Int32) (a0 : Nat) (p1 : Int32) (p2 : Int32) (p3 : Int32) (g_12 : Nat) : (Int32 × Nat × Int64 × Int64) → (Int32 × Nat × Int64 × Int64) ⊕ ((Nat × Int32) ⊕ (Nat)) := fun (g_95, g_96, g_97, g_98) => (slet (sp_EM_clocks x16 m12_0 m12_1) (fun u_106 => (if u_106 ≤ g_96 then (Sum.inr (Sum.inl ((g_12 + 1), (nI g_96)))) else (slet (α := Int64) (if g_12 = 0 then (slet ((p1 : Int32).toInt64) (fun y_139 => y_139)) else (if g_12 = 1 then (slet ((p2 : Int32).toInt64) (fun y_138 => y_138)) else (slet ((p3 : Int32).toInt64) (fun y_137 => y_137)))) (fun g_108 => (slet (α := Int64) (if g_96 = 0 then (slet ((p1 : Int32).toInt64) (fun y_133 => y_133)) else (if g_96 = 1 then (slet ((p2 : Int32).toInt64) (fun y_132 => y_132)) else (slet ((p3 : Int32).toInt64) (fun y_131 => y_131)))) (fun g_112 => (slet (sp_EM_boundOf_11 f34 a0 g_12 g_96) (fun r_116 => (if (1048576 : Int32) ≤ r_116 then (Sum.inl (r_116, (g_96 + 1), g_108, g_112)) else (slet ((g_108 : Int64) - g_112) (fun y_118 => (slet ((r_116 : Int32) >>> ((1 : Int32) &&& 31)) (fun y_119 => (slet ((y_119 : Int32).toInt64) (fun y_120 => (slet ((y_120 : Int64) * ((256) : Int64)) (fun y_121 => (slet ((y_121 : Int64) - (1 : Int64)) (fun y_122 => (slet ((r_116 : Int32) &&& (1 : Int32)) (fun y_123 => (slet ((y_123 : Int32).toInt64) (fun y_124 => (slet ((y_122 : Int64) + y_124) (fun y_125 => (slet (lg_cmp (y_118 : Int64) y_125) (fun y_126 => (if (y_126 : Int32) ≤ 0 then (Sum.inl (r_116, (g_96 + 1), g_108, g_112)) else (Sum.inr (Sum.inr 0)))))))))))))))))))))))))))))))
noncomputable def sp_EM_hasTimes_L3 (x16 : Nat) (m12_0 : Nat) (m12_1 : Nat) (f34 : Nat → Int32) (a0 : Nat) (p1 : Int32) (p2 : Int32) (p3 : Int32) : (Nat × Int32) → (Nat × Int32) ⊕ (Nat) := fun (g_12, g_13) => (slet (sp_EM_clocks x16 m12_0 m12_1) (fun u_21 => (if u_21 ≤ g_12 then (Sum.inr 1) else (slet (sp_EM_clocks x16 m12_0 m12_1) (fun u_24 => (if ((nI u_24) : Int32) ≤ (-1) then (Sum.inl ((g_12 + 1), (-1))) else (slet (α := Int64) (if g_12 = 0 then (slet ((p1 : Int32).toInt64) (fun y_145 => y_145)) else (if g_12 = 1 then (slet ((p2 : Int32).toInt64) (fun y_144 => y_144)) else (slet ((p3 : Int32).toInt64) (fun y_143 => y_143)))) (fun g_26 => (slet (sp_EM_boundOf_10 f34 a0 g_12) (fun r_30 => (if (1048576 : Int32) ≤ r_30 then (itrv (α := Int32 × Nat × Int64 × Int64) (β := ((Nat × Int32) ⊕ (Nat))) (Sum.inr default) (sp_EM_hasTimes_L1 x16 m12_0 m12_1 f34 a0 p1 p2 p3 g_12) (r_30, 0, g_26, (0 : Int64))) else (slet ((g_26 : Int64) - (0 : Int64)) (fun y_81 => (slet ((r_30 : Int32) >>> ((1 : Int32) &&& 31)) (fun y_82 => (slet ((y_82 : Int32).toInt64) (fun y_83 => (slet ((y_83 : Int64) * ((256) : Int64)) (fun y_84 => (slet ((y_84 : Int64) - (1 : Int64)) (fun y_85 => (slet ((r_30 : Int32) &&& (1 : Int32)) (fun y_86 => (slet ((y_86 : Int32).toInt64) (fun y_87 => (slet ((y_85 : Int64) + y_87) (fun y_88 => (slet (lg_cmp (y_81 : Int64) y_88) (fun y_89 => (if (y_89 : Int32) ≤ 0 then (itrv (α := Int32 × Nat × Int64 × Int64) (β := ((Nat × Int32) ⊕ (Nat))) (Sum.inr default) (sp_EM_hasTimes_L2 x16 m12_0 m12_1 f34 a0 p1 p2 p3 g_12) (r_30, 0, g_26, (0 : Int64))) else (Sum.inr 0)))))))))))))))))))))))))))))))
noncomputable def sp_EM_hasTimes_L4 (x16 : Nat) (m12_0 : Nat) (m12_1 : Nat) (f34 : Nat → Int32) (a0 : Nat) (p1 : Int32) (p2 : Int32) (p3 : Int32) (g_171 : Nat) : (Int32 × Nat × Int64 × Int64) → (Int32 × Nat × Int64 × Int64) ⊕ ((Int32 × Nat × Int32 × Int64 × Int64) ⊕ (Nat)) := fun (g_197, g_198, g_199, g_200) => (slet (sp_EM_clocks x16 m12_0 m12_1) (fun u_208 => (if u_208 ≤ g_198 then (Sum.inr (Sum.inl (g_197, (g_171 + 1), (nI g_198), g_199, g_200))) else (slet (α := Int64) (if g_171 = 0 then (slet ((p1 : Int32).toInt64) (fun y_241 => y_241)) else (if g_171 = 1 then (slet ((p2 : Int32).toInt64) (fun y_240 => y_240)) else (slet ((p3 : Int32).toInt64) (fun y_239 => y_239)))) (fun g_210 => (slet (α := Int64) (if g_198 = 0 then (slet ((p1 : Int32).toInt64) (fun y_235 => y_235)) else (if g_198 = 1 then (slet ((p2 : Int32).toInt64) (fun y_234 => y_234)) else (slet ((p3 : Int32).toInt64) (fun y_233 => y_233)))) (fun g_214 => (slet (sp_EM_boundOf_11 f34 a0 g_171 g_198) (fun r_218 => (if (1048576 : Int32) ≤ r_218 then (Sum.inl (r_218, (g_198 + 1), g_210, g_214)) else (slet ((g_210 : Int64) - g_214) (fun y_220 => (slet ((r_218 : Int32) >>> ((1 : Int32) &&& 31)) (fun y_221 => (slet ((y_221 : Int32).toInt64) (fun y_222 => (slet ((y_222 : Int64) * ((256) : Int64)) (fun y_223 => (slet ((y_223 : Int64) - (1 : Int64)) (fun y_224 => (slet ((r_218 : Int32) &&& (1 : Int32)) (fun y_225 => (slet ((y_225 : Int32).toInt64) (fun y_226 => (slet ((y_224 : Int64) + y_226) (fun y_227 => (slet (lg_cmp (y_220 : Int64) y_227) (fun y_228 => (if (y_228 : Int32) ≤ 0 then (Sum.inl (r_218, (g_198 + 1), g_210, g_214)) else (Sum.inr (Sum.inr 0)))))))))))))))))))))))))))))))
noncomputable def sp_EM_hasTimes_L5 (x16 : Nat) (m12_0 : Nat) (m12_1 : Nat) (f34 : Nat → Int32) (a0 : Nat) (p1 : Int32) (p2 : Int32) (p3 : Int32) (g_171 : Nat) : (Int32 × Nat × Int64 × Int64) → (Int32 × Nat × Int64 × Int64) ⊕ ((Int32 × Nat × Int32 × Int64 × Int64) ⊕ (Nat)) := fun (g_256, g_257, g_258, g_259) => (slet (sp_EM_clocks x16 m12_0 m12_1) (fun u_267 => (if u_267 ≤ g_257 then (Sum.inr (Sum.inl (g_256, (g_171 + 1), (nI g_257), g_258, g_259))) else (slet (α := Int64) (if g_171 = 0 then (slet ((p1 : Int32).toInt64) (fun y_300 => y_300)) else (if g_171 = 1 then (slet ((p2 : Int32).toInt64) (fun y_299 => y_299)) else (slet ((p3 : Int32).toInt64) (fun y_298 => y_298)))) (fun g_269 => (slet (α := Int64) (if g_257 = 0 then (slet ((p1 : Int32).toInt64) (fun y_294 => y_294)) else (if g_257 = 1 then (slet ((p2 : Int32).toInt64) (fun y_293 => y_293)) else (slet ((p3 : Int32).toInt64) (fun y_292 => y_292)))) (fun g_273 => (slet (sp_EM_boundOf_11 f34 a0 g_171 g_257) (fun r_277 => (if (1048576 : Int32) ≤ r_277 then (Sum.inl (r_277, (g_257 + 1), g_269, g_273)) else (slet ((g_269 : Int64) - g_273) (fun y_279 => (slet ((r_277 : Int32) >>> ((1 : Int32) &&& 31)) (fun y_280 => (slet ((y_280 : Int32).toInt64) (fun y_281 => (slet ((y_281 : Int64) * ((256) : Int64)) (fun y_282 => (slet ((y_282 : Int64) - (1 : Int64)) (fun y_283 => (slet ((r_277 : Int32) &&& (1 : Int32)) (fun y_284 => (slet ((y_284 : Int32).toInt64) (fun y_285 => (slet ((y_283 : Int64) + y_285) (fun y_286 => (slet (lg_cmp (y_279 : Int64) y_286) (fun y_287 => (if (y_287 : Int32) ≤ 0 then (Sum.inl (r_277, (g_257 + 1), g_269, g_273)) else (Sum.inr (Sum.inr 0)))))))))))))))))))))))))))))))
noncomputable def sp_EM_hasTimes_L6 (x16 : Nat) (m12_0 : Nat) (m12_1 : Nat) (f34 : Nat → Int32) (a0 : Nat) (p1 : Int32) (p2 : Int32) (p3 : Int32) : (Int32 × Nat × Int32 × Int64 × Int64) → (Int32 × Nat × Int32 × Int64 × Int64) ⊕ (Nat) := fun (g_170, g_171, g_172, g_173, g_174) => (slet (sp_EM_clocks x16 m12_0 m12_1) (fun u_182 => (if u_182 ≤ g_171 then (Sum.inr 1) else (slet (sp_EM_clocks x16 m12_0 m12_1) (fun u_185 => (if ((nI u_185) : Int32) ≤ (-1) then (Sum.inl (g_170, (g_171 + 1), (-1), g_173, g_174)) else (slet (α := Int64) (if g_171 = 0 then (slet ((p1 : Int32).toInt64) (fun y_306 => y_306)) else (if g_171 = 1 then (slet ((p2 : Int32).toInt64) (fun y_305 => y_305)) else (slet ((p3 : Int32).toInt64) (fun y_304 => y_304)))) (fun g_187 => (slet (sp_EM_boundOf_10 f34 a0 g_171) (fun r_191 => (if (1048576 : Int32) ≤ r_191 then (itrv (α := Int32 × Nat × Int64 × Int64) (β := ((Int32 × Nat × Int32 × Int64 × Int64) ⊕ (Nat))) (Sum.inr default) (sp_EM_hasTimes_L4 x16 m12_0 m12_1 f34 a0 p1 p2 p3 g_171) (r_191, 0, g_187, (0 : Int64))) else (slet ((g_187 : Int64) - (0 : Int64)) (fun y_242 => (slet ((r_191 : Int32) >>> ((1 : Int32) &&& 31)) (fun y_243 => (slet ((y_243 : Int32).toInt64) (fun y_244 => (slet ((y_244 : Int64) * ((256) : Int64)) (fun y_245 => (slet ((y_245 : Int64) - (1 : Int64)) (fun y_246 => (slet ((r_191 : Int32) &&& (1 : Int32)) (fun y_247 => (slet ((y_247 : Int32).toInt64) (fun y_248 => (slet ((y_246 : Int64) + y_248) (fun y_249 => (slet (lg_cmp (y_242 : Int64) y_249) (fun y_250 => (if (y_250 : Int32) ≤ 0 then (itrv (α := Int32 × Nat × Int64 × Int64) (β := ((Int32 × Nat × Int32 × Int64 × Int64) ⊕ (Nat))) (Sum.inr default) (sp_EM_hasTimes_L5 x16 m12_0 m12_1 f34 a0 p1 p2 p3 g_171) (r_191, 0, g_187, (0 : Int64))) else (Sum.inr 0)))))))))))))))))))))))))))))))
noncomputable def sp_EM_hasTimes_L7 (x16 : Nat) (m12_0 : Nat) (m12_1 : Nat) (f34 : Nat → Int32) (a0 : Nat) (p1 : Int32) (p2 : Int32) (p3 : Int32) : (Int32 × Nat × Int64 × Int64) → (Int32 × Nat × Int64 × Int64) ⊕ (Nat) := fun (g_152, g_153, g_154, g_155) => (slet (sp_EM_clocks x16 m12_0 m12_1) (fun u_163 => (if u_163 ≤ g_153 then (Sum.inr (itrv (α := Int32 × Nat × Int32 × Int64 × Int64) (β := (Nat)) default (sp_EM_hasTimes_L6 x16 m12_0 m12_1 f34 a0 p1 p2 p3) (g_152, 0, (nI g_153), g_154, g_155))) else (slet (α := Int64) (if g_153 = 0 then (slet ((p1 : Int32).toInt64) (fun y_328 => y_328)) else (if g_153 = 1 then (slet ((p2 : Int32).toInt64) (fun y_327 => y_327)) else (slet ((p3 : Int32).toInt64) (fun y_326 => y_326)))) (fun g_307 => (slet (sp_EM_boundOf_01 f34 a0 g_153) (fun r_311 => (if (1048576 : Int32) ≤ r_311 then (Sum.inl (r_311, (g_153 + 1), (0 : Int64), g_307)) else (slet (((0 : Int64) : Int64) - g_307) (fun y_313 => (slet ((r_311 : Int32) >>> ((1 : Int32) &&& 31)) (fun y_314 => (slet ((y_314 : Int32).toInt64) (fun y_315 => (slet ((y_315 : Int64) * ((256) : Int64)) (fun y_316 => (slet ((y_316 : Int64) - (1 : Int64)) (fun y_317 => (slet ((r_311 : Int32) &&& (1 : Int32)) (fun y_318 => (slet ((y_318 : Int32).toInt64) (fun y_319 => (slet ((y_317 : Int64) + y_319) (fun y_320 => (slet (lg_cmp (y_313 : Int64) y_320) (fun y_321 => (if (y_321 : Int32) ≤ 0 then (Sum.inl (r_311, (g_153 + 1), (0 : Int64), g_307)) else (Sum.inr 0))))))))))))))))))))))))))))
noncomputable def sp_EM_hasTimes_L8 (x16 : Nat) (m12_0 : Nat) (m12_1 : Nat) (f34 : Nat → Int32) (a0 : Nat) (p1 : Int32) (p2 : Int32) (p3 : Int32) (g_362 : Nat) : (Int32 × Nat × Int64 × Int64) → (Int32 × Nat × Int64 × Int64) ⊕ ((Int32 × Nat × Int32 × Int64 × Int64) ⊕ (Nat)) := fun (g_388, g_389, g_390, g_391) => (slet (sp_EM_clocks x16 m12_0 m12_1) (fun u_399 => (if u_399 ≤ g_389 then (Sum.inr (Sum.inl (g_388, (g_362 + 1), (nI g_389), g_390, g_391))) else (slet (α := Int64) (if g_362 = 0 then (slet ((p1 : Int32).toInt64) (fun y_432 => y_432)) else (if g_362 = 1 then (slet ((p2 : Int32).toInt64) (fun y_431 => y_431)) else (slet ((p3 : Int32).toInt64) (fun y_430 => y_430)))) (fun g_401 => (slet (α := Int64) (if g_389 = 0 then (slet ((p1 : Int32).toInt64) (fun y_426 => y_426)) else (if g_389 = 1 then (slet ((p2 : Int32).toInt64) (fun y_425 => y_425)) else (slet ((p3 : Int32).toInt64) (fun y_424 => y_424)))) (fun g_405 => (slet (sp_EM_boundOf_11 f34 a0 g_362 g_389) (fun r_409 => (if (1048576 : Int32) ≤ r_409 then (Sum.inl (r_409, (g_389 + 1), g_401, g_405)) else (slet ((g_401 : Int64) - g_405) (fun y_411 => (slet ((r_409 : Int32) >>> ((1 : Int32) &&& 31)) (fun y_412 => (slet ((y_412 : Int32).toInt64) (fun y_413 => (slet ((y_413 : Int64) * ((256) : Int64)) (fun y_414 => (slet ((y_414 : Int64) - (1 : Int64)) (fun y_415 => (slet ((r_409 : Int32) &&& (1 : Int32)) (fun y_416 => (slet ((y_416 : Int32).toInt64) (fun y_417 => (slet ((y_415 : Int64) + y_417) (fun y_418 => (slet (lg_cmp (y_411 : Int64) y_418) (fun y_419 => (if (y_419 : Int32) ≤ 0 then (Sum.inl (r_409, (g_389 + 1), g_401, g_405)) else (Sum.inr (Sum.inr 0)))))))))))))))))))))))))))))))
noncomputable def sp_EM_hasTimes_L9 (x16 : Nat) (m12_0 : Nat) (m12_1 : Nat) (f34 : Nat → Int32) (a0 : Nat) (p1 : Int32) (p2 : Int32) (p3 : Int32) (g_362 : Nat) : (Int32 × Nat × Int64 × Int64) → (Int32 × Nat × Int64 × Int64) ⊕ ((Int32 × Nat × Int32 × Int64 × Int64) ⊕ (Nat)) := fun (g_447, g_448, g_449, g_450) => (slet (sp_EM_clocks x16 m12_0 m12_1) (fun u_458 => (if u_458 ≤ g_448 then (Sum.inr (Sum.inl (g_447, (g_362 + 1), (nI g_448), g_449, g_450))) else (slet (α := Int64) (if g_362 = 0 then (slet ((p1 : Int32).toInt64) (fun y_491 => y_491)) else (if g_362 = 1 then (slet ((p2 : Int32).toInt64) (fun y_490 => y_490)) else (slet ((p3 : Int32).toInt64) (fun y_489 => y_489)))) (fun g_460 => (slet (α := Int64) (if g_448 = 0 then (slet ((p1 : Int32).toInt64) (fun y_485 => y_485)) else (if g_448 = 1 then (slet ((p2 : Int32).toInt64) (fun y_484 => y_484)) else (slet ((p3 : Int32).toInt64) (fun y_483 => y_483)))) (fun g_464 => (slet (sp_EM_boundOf_11 f34 a0 g_362 g_448) (fun r_468 => (if (1048576 : Int32) ≤ r_468 then (Sum.inl (r_468, (g_448 + 1), g_460, g_464)) else (slet ((g_460 : Int64) - g_464) (fun y_470 => (slet ((r_468 : Int32) >>> ((1 : Int32) &&& 31)) (fun y_471 => (slet ((y_471 : Int32).toInt64) (fun y_472 => (slet ((y_472 : Int64) * ((256) : Int64)) (fun y_473 => (slet ((y_473 : Int64) - (1 : Int64)) (fun y_474 => (slet ((r_468 : Int32) &&& (1 : Int32)) (fun y_475 => (slet ((y_475 : Int32).toInt64) (fun y_476 => (slet ((y_474 : Int64) + y_476) (fun y_477 => (slet (lg_cmp (y_470 : Int64) y_477) (fun y_478 => (if (y_478 : Int32) ≤ 0 then (Sum.inl (r_468, (g_448 + 1), g_460, g_464)) else (Sum.inr (Sum.inr 0)))))))))))))))))))))))))))))))
noncomputable def sp_EM_hasTimes_L10 (x16 : Nat) (m12_0 : Nat) (m12_1 : Nat) (f34 : Nat → Int32) (a0 : Nat) (p1 : Int32) (p2 : Int32) (p3 : Int32) : (Int32 × Nat × Int32 × Int64 × Int64) → (Int32 × Nat × Int32 × Int64 × Int64) ⊕ (Nat) := fun (g_361, g_362, g_363, g_364, g_365) => (slet (sp_EM_clocks x16 m12_0 m12_1) (fun u_373 => (if u_373 ≤ g_362 then (Sum.inr 1) else (slet (sp_EM_clocks x16 m12_0 m12_1) (fun u_376 => (if ((nI u_376) : Int32) ≤ (-1) then (Sum.inl (g_361, (g_362 + 1), (-1), g_364, g_365)) else (slet (α := Int64) (if g_362 = 0 then (slet ((p1 : Int32).toInt64) (fun y_497 => y_497)) else (if g_362 = 1 then (slet ((p2 : Int32).toInt64) (fun y_496 => y_496)) else (slet ((p3 : Int32).toInt64) (fun y_495 => y_495)))) (fun g_378 => (slet (sp_EM_boundOf_10 f34 a0 g_362) (fun r_382 => (if (1048576 : Int32) ≤ r_382 then (itrv (α := Int32 × Nat × Int64 × Int64) (β := ((Int32 × Nat × Int32 × Int64 × Int64) ⊕ (Nat))) (Sum.inr default) (sp_EM_hasTimes_L8 x16 m12_0 m12_1 f34 a0 p1 p2 p3 g_362) (r_382, 0, g_378, (0 : Int64))) else (slet ((g_378 : Int64) - (0 : Int64)) (fun y_433 => (slet ((r_382 : Int32) >>> ((1 : Int32) &&& 31)) (fun y_434 => (slet ((y_434 : Int32).toInt64) (fun y_435 => (slet ((y_435 : Int64) * ((256) : Int64)) (fun y_436 => (slet ((y_436 : Int64) - (1 : Int64)) (fun y_437 => (slet ((r_382 : Int32) &&& (1 : Int32)) (fun y_438 => (slet ((y_438 : Int32).toInt64) (fun y_439 => (slet ((y_437 : Int64) + y_439) (fun y_440 => (slet (lg_cmp (y_433 : Int64) y_440) (fun y_441 => (if (y_441 : Int32) ≤ 0 then (itrv (α := Int32 × Nat × Int64 × Int64) (β := ((Int32 × Nat × Int32 × Int64 × Int64) ⊕ (Nat))) (Sum.inr default) (sp_EM_hasTimes_L9 x16 m12_0 m12_1 f34 a0 p1 p2 p3 g_362) (r_382, 0, g_378, (0 : Int64))) else (Sum.inr 0)))))))))))))))))))))))))))))))
noncomputable def sp_EM_hasTimes_L11 (x16 : Nat) (m12_0 : Nat) (m12_1 : Nat) (f34 : Nat → Int32) (a0 : Nat) (p1 : Int32) (p2 : Int32) (p3 : Int32) : (Int32 × Nat × Int64 × Int64) → (Int32 × Nat × Int64 × Int64) ⊕ (Nat) := fun (g_343, g_344, g_345, g_346) => (slet (sp_EM_clocks x16 m12_0 m12_1) (fun u_354 => (if u_354 ≤ g_344 then (Sum.inr (itrv (α := Int32 × Nat × Int32 × Int64 × Int64) (β := (Nat)) default (sp_EM_hasTimes_L10 x16 m12_0 m12_1 f34 a0 p1 p2 p3) (g_343, 0, (nI g_344), g_345, g_346))) else (slet (α := Int64) (if g_344 = 0 then (slet ((p1 : Int32).toInt64) (fun y_519 => y_519)) else (if g_344 = 1 then (slet ((p2 : Int32).toInt64) (fun y_518 => y_518)) else (slet ((p3 : Int32).toInt64) (fun y_517 => y_517)))) (fun g_498 => (slet (sp_EM_boundOf_01 f34 a0 g_344) (fun r_502 => (if (1048576 : Int32) ≤ r_502 then (Sum.inl (r_502, (g_344 + 1), (0 : Int64), g_498)) else (slet (((0 : Int64) : Int64) - g_498) (fun y_504 => (slet ((r_502 : Int32) >>> ((1 : Int32) &&& 31)) (fun y_505 => (slet ((y_505 : Int32).toInt64) (fun y_506 => (slet ((y_506 : Int64) * ((256) : Int64)) (fun y_507 => (slet ((y_507 : Int64) - (1 : Int64)) (fun y_508 => (slet ((r_502 : Int32) &&& (1 : Int32)) (fun y_509 => (slet ((y_509 : Int32).toInt64) (fun y_510 => (slet ((y_508 : Int64) + y_510) (fun y_511 => (slet (lg_cmp (y_504 : Int64) y_511) (fun y_512 => (if (y_512 : Int32) ≤ 0 then (Sum.inl (r_502, (g_344 + 1), (0 : Int64), g_498)) else (Sum.inr 0))))))))))))))))))))))))))))
noncomputable def sp_EM_hasTimes (x16 : Nat) (m12_0 : Nat) (m12_1 : Nat) (f34 : Nat → Int32) (a0 : Nat) (p1 : Int32) (p2 : Int32) (p3 : Int32) : Nat := (slet (sp_EM_clocks x16 m12_0 m12_1) (fun u_2 => (if ((nI u_2) : Int32) ≤ (-1) then 1 else (slet (sp_EM_clocks x16 m12_0 m12_1) (fun u_5 => (if ((nI u_5) : Int32) ≤ (-1) then (itrv (α := Nat × Int32) (β := (Nat)) default (sp_EM_hasTimes_L3 x16 m12_0 m12_1 f34 a0 p1 p2 p3) (0, (-1))) else (slet (sp_EM_boundOf_00 f34 a0) (fun r_146 => (if (1048576 : Int32) ≤ r_146 then (itrv (α := Int32 × Nat × Int64 × Int64) (β := (Nat)) default (sp_EM_hasTimes_L7 x16 m12_0 m12_1 f34 a0 p1 p2 p3) (r_146, 0, (0 : Int64), (0 : Int64))) else (slet (((0 : Int64) : Int64) - (0 : Int64)) (fun y_329 => (slet ((r_146 : Int32) >>> ((1 : Int32) &&& 31)) (fun y_330 => (slet ((y_330 : Int32).toInt64) (fun y_331 => (slet ((y_331 : Int64) * ((256) : Int64)) (fun y_332 => (slet ((y_332 : Int64) - (1 : Int64)) (fun y_333 => (slet ((r_146 : Int32) &&& (1 : Int32)) (fun y_334 => (slet ((y_334 : Int32).toInt64) (fun y_335 => (slet ((y_333 : Int64) + y_335) (fun y_336 => (slet (lg_cmp (y_329 : Int64) y_336) (fun y_337 => (if (y_337 : Int32) ≤ 0 then (itrv (α := Int32 × Nat × Int64 × Int64) (β := (Nat)) default (sp_EM_hasTimes_L11 x16 m12_0 m12_1 f34 a0 p1 p2 p3) (r_146, 0, (0 : Int64), (0 : Int64))) else 0))))))))))))))))))))))))))))
set_option maxHeartbeats 4000000 in
set_option maxRecDepth 100000 in
theorem c_EM_hasTimes (l : Launch) (dC : Nat → ClassId) (dI : Nat → Nat → Nat) (sz : Nat) (ad : Nat → Nat) (ck : Nat → ClassId) (x0 : Int32) (x16 : Nat) (x18 : Nat) (x19 : Nat) (x20 : Int32) (x21 : Nat) (x22 : Nat) (x23 : Int32) (x24 : Int32) (x25 : Int32) (x26 : Nat) (x27 : Int32) (x28 : Nat) (x29 : Nat) (x30 : Nat) (x33 : Nat) (x45 : Int32) (x46 : Nat) (x52 : Nat) (x53 : Nat) (x61 : Nat) (x62 : Nat) (x63 : Nat) (x65 : Nat) (x66 : Int32) (f1 : Nat → Int32) (f2 : Nat → Int32) (f3 : Nat → Int32) (q4 : Nat → Nat) (q5 : Nat → Nat) (q6 : Nat → Nat) (q7 : Nat → Nat) (f8 : Nat → Int32) (q9 : Nat → Nat) (q10 : Nat → Nat) (f11 : Nat → Int32) (m12_0 m12_1 : Nat) (m13_0 m13_1 : Nat) (m14_0 m14_1 : Nat) (m15_0 m15_1 : Nat) (f17 : Nat → Int32) (q31 : Nat → Nat) (f32 : Nat → Int32) (f34 : Nat → Int32) (f35 : Nat → Int32) (f36 : Nat → Int32) (f37 : Nat → Int32) (q38 : Nat → Nat) (f39 : Nat → Int32) (f40 : Nat → Int32) (f41 : Nat → Int32) (m42_0 m42_1 : Nat) (f43 : Nat → Int32) (f44 : Nat → Int32) (f47 : Nat → Int32) (f48 : Nat → Int32) (f49 : Nat → Int32) (f50 : Nat → Int32) (f51 : Nat → Int32) (q54 : Nat → Nat) (q55 : Nat → Nat) (q56 : Nat → Nat) (f57 : Nat → Int32) (q58 : Nat → Nat) (f59 : Nat → Int32) (f60 : Nat → Int32) (f64 : Nat → Int32) (a0 : Nat) (p1 : Int32) (p2 : Int32) (p3 : Int32) (hx16 : x16 ≤ 1) (hx18 : x18 ≤ 900) (hx19 : x19 ≤ 900) (hx21 : x21 ≤ 900) (hx22 : x22 ≤ 4) (hx26 : x26 ≤ 6) (hx28 : x28 ≤ 1) (hx29 : x29 ≤ 1) (hx30 : x30 ≤ 1) (hx33 : x33 ≤ 20) (hx46 : x46 ≤ 5) (hx52 : x52 ≤ 2400) (hx53 : x53 ≤ 119) (hx61 : x61 ≤ 119) (hx62 : x62 ≤ 2000) (hx63 : x63 ≤ 1) (hx65 : x65 ≤ 7) (hm12_0 : m12_0 ≤ 3) (hm12_1 : m12_1 ≤ 3) (hm13_0 : m13_0 ≤ 8) (hm13_1 : m13_1 ≤ 8) (hm14_0 : m14_0 ≤ 14) (hm14_1 : m14_1 ≤ 14) (hm15_0 : m15_0 ≤ 8) (hm15_1 : m15_1 ≤ 8) (hm42_0 : m42_0 ≤ 120) (hm42_1 : m42_1 ≤ 400) (ha0 : a0 ≤ 519) : Met l yX9_hasTimes vs_EM_hasTimes ({ frames := 1, cells := 0, slots := 0, locals := 23 }) (va_Pc [.ref (ad 0), .int (nI a0), .int p1, .int p2, .int p3] (pu_B (dC, dI) (mo_w ad ck x0 (nI x16) (nI x18) (nI x19) x20 (nI x21) (nI x22) x23 x24 x25 (nI x26) x27 (nI x28) (nI x29) (nI x30) (nI x33) x45 (nI x46) (nI x52) (nI x53) (nI x61) (nI x62) (nI x63) (nI x65) x66 f1 f2 f3 (bN 3 q4) (bN 7 q5) (bN 7 q6) (bN 4 q7) f8 (bN 2 q9) (bH q10) f11 (b2 m12_0 m12_1) (b2 m13_0 m13_1) (b2 m14_0 m14_1) (b2m m15_0 m15_1) f17 (bA 159 q31) f32 f34 f35 f36 f37 (bN 7 q38) f39 f40 f41 (b2 m42_0 m42_1) f43 f44 f47 f48 f49 f50 f51 (bN 13 q54) (bN 120 q55) (bN 120 q56) f57 (bN 120 q58) f59 f60 f64) (mo_t ck) sz)) (va_Qi (fun (r : Int32) (_ : Unit) => ∃ v : Nat, v ≤ 1 ∧ r = nI v ∧ v = (sp_EM_hasTimes x16 m12_0 m12_1 f34 a0 p1 p2 p3)) (fun _ _ => True) (va_A [] sz)) 0 0 (va_A [] sz) := by
  refine Met.ofW (cc := cX9_hasTimes) (maxL := 12) (ret := (some .boolean)) (by decide) rfl ?_
  intro p e s m args below meth c s₁ B hml hv
  obtain ⟨rfl, rfl, hP, hK, hD0⟩ := hv
  have hx := B.exec
  have hb := B.bytes
  have hr := B.returns
  have hts := atoms_spec (ws := vs_EM_hasTimes) B.pre
  have v_10 := hts (.constant RX9 327 (1048576)) (List.mem_cons_of_mem _ vm_46)
  have v_11 := hts (.constantLong RX9 399 (256)) (List.mem_cons_of_mem _ vm_349)
  have hown : s.vm.findClass RX9 = some m.cls := findClass_of_methodNamed B.named
  have hlocks := B.notSynchronized
  have hD := hD0
  have hA : ∀ q : Nat, s.heap.size ≤ q → va_A [] s.heap.size q := fun _ h => Or.inr h
  have hS : va_S (va_A [] s.heap.size) s.heap s.heap [] := va_S.rf
  have hl := lv_entry ([.ref (ad 0), .int (nI a0), .int p1, .int p2, .int p3]) (n := 12) (Nat.le_of_ble_eq_true rfl)
  rw [lg_entry_eq]
  generalize (lg_sl ([.ref (ad 0), .int (nI a0), .int p1, .int p2, .int p3]) ++ List.replicate (12 - (lg_sl ([.ref (ad 0), .int (nI a0), .int p1, .int p2, .int p3])).length) Slot.unset).toArray = ls at hl ⊢
  have hl : lv_has ls 12 [(0, .ref (ad 0)), (1, .int (nI a0)), (2, .int p1), (3, .int p2), (4, .int p3)] := hl
  obtain ⟨RR, hRR⟩ : ∃ x, x = (sp_EM_hasTimes x16 m12_0 m12_1 f34 a0 p1 p2 p3) := ⟨_, rfl⟩
  have hsp := hRR
  refine lv_iconst (v := (-1)) hx hb dX9_hasTimes_0 (by decide) ?_
  refine lv_istore (lv' := [(5, .int (-1)), (0, .ref (ad 0)), (1, .int (nI a0)), (2, .int p1), (3, .int p2), (4, .int p3)]) hx hb dX9_hasTimes_1 hl (by decide) rfl (fun ls hl => ?_)
  refine lv_iload hx hb dX9_hasTimes_3 (lv_at hl 0 rfl) ?_
  refine lv_aload_n hx hb dX9_hasTimes_5 rfl (lv_at hl 1 rfl) ?_
  refine va_calli (va_runV (As := []) (rest := [.int (-1)]) ⟨hx, hb, hml, hown, hts⟩ (c_EM_clocks l dC dI _ ad ck x0 x16 x18 x19 x20 x21 x22 x23 x24 x25 x26 x27 x28 x29 x30 x33 x45 x46 x52 x53 x61 x62 x63 x65 x66 f1 f2 f3 q4 q5 q6 q7 f8 q9 q10 f11 m12_0 m12_1 m13_0 m13_1 m14_0 m14_1 m15_0 m15_1 f17 q31 f32 f34 f35 f36 f37 q38 f39 f40 f41 m42_0 m42_1 f43 f44 f47 f48 f49 f50 f51 q54 q55 q56 f57 q58 f59 f60 f64 hx16 hx18 hx19 hx21 hx22 hx26 hx28 hx29 hx30 hx33 hx46 hx52 hx53 hx61 hx62 hx63 hx65 hm12_0 hm12_1 hm13_0 hm13_1 hm14_0 hm14_1 hm15_0 hm15_1 hm42_0 hm42_1) (cwV 0 hts g_EM_hasTimes_EM_clocks rfl rfl rfl (by decide +kernel) ⟨Nat.le_of_ble_eq_true rfl, Nat.le_of_ble_eq_true rfl⟩) ⟨pu_bl, va_recv hK hP (ci := 9) (q0 := 0) rfl rfl, pu_in hP hK hD⟩ rfl rfl hl.1 rfl (lv_room (Nat.le_of_ble_eq_true rfl)) dX9_hasTimes_6 ⟨Nat.le_of_ble_eq_true rfl, Nat.le_of_ble_eq_true rfl⟩) hS (fun q _ h => pu_fr hS hA q h) (pu_fr hS hA) (fun r_1 u t H1 locs ht hvm hw hB hz1 hk1 hS => ?_)
  have hP := pu_keep hP hk1
  clear hk1 hz1 ht hvm
  generalize H1 = H at hP hS ⊢
  obtain ⟨u_2, hu_2, rfl, iu_2⟩ := hw
  replace hsp := hsp.trans (slet_eq iu_2)
  refine lv_icmp_ge (tgt := 155) hx hb dX9_hasTimes_9 (by decide) (fun c_3 => ?_) (fun c_3 => ?_)
  · have hcc_3 := c_3
    replace hsp := hsp.trans (if_pos c_3)
    refine lv_iconst (v := 1) hx hb dX9_hasTimes_155 (by decide) ?_
    exact W.zret (v := 1) (ty := .boolean) hx hb hr (rfl) (fun t ht hW => ⟨⟨1, (), rfl, ⟨1, (Nat.le_of_ble_eq_true rfl), rfl, (hsp.symm.trans hRR)⟩, trivial⟩, hS.F ht⟩) hS.2.2 dX9_hasTimes_156
  · have hcc_3 := c_3
    replace hsp := hsp.trans (if_neg c_3)
    refine lv_iconst (v := (-1)) hx hb dX9_hasTimes_12 (by decide) ?_
    refine lv_istore (lv' := [(6, .int (-1)), (5, .int (-1)), (0, .ref (ad 0)), (1, .int (nI a0)), (2, .int p1), (3, .int p2), (4, .int p3)]) hx hb dX9_hasTimes_13 hl (by decide) rfl (fun ls hl => ?_)
    refine lv_iload hx hb dX9_hasTimes_15 (lv_at hl 0 rfl) ?_
    refine lv_aload_n hx hb dX9_hasTimes_17 rfl (lv_at hl 2 rfl) ?_
    refine va_calli (va_runV (As := []) (rest := [.int (-1)]) ⟨hx, hb, hml, hown, hts⟩ (c_EM_clocks l dC dI _ ad ck x0 x16 x18 x19 x20 x21 x22 x23 x24 x25 x26 x27 x28 x29 x30 x33 x45 x46 x52 x53 x61 x62 x63 x65 x66 f1 f2 f3 q4 q5 q6 q7 f8 q9 q10 f11 m12_0 m12_1 m13_0 m13_1 m14_0 m14_1 m15_0 m15_1 f17 q31 f32 f34 f35 f36 f37 q38 f39 f40 f41 m42_0 m42_1 f43 f44 f47 f48 f49 f50 f51 q54 q55 q56 f57 q58 f59 f60 f64 hx16 hx18 hx19 hx21 hx22 hx26 hx28 hx29 hx30 hx33 hx46 hx52 hx53 hx61 hx62 hx63 hx65 hm12_0 hm12_1 hm13_0 hm13_1 hm14_0 hm14_1 hm15_0 hm15_1 hm42_0 hm42_1) (cwV 0 hts g_EM_hasTimes_EM_clocks rfl rfl rfl (by decide +kernel) ⟨Nat.le_of_ble_eq_true rfl, Nat.le_of_ble_eq_true rfl⟩) ⟨pu_bl, va_recv hK hP (ci := 9) (q0 := 0) rfl rfl, pu_in hP hK hD⟩ rfl rfl hl.1 rfl (lv_room (Nat.le_of_ble_eq_true rfl)) dX9_hasTimes_18 ⟨Nat.le_of_ble_eq_true rfl, Nat.le_of_ble_eq_true rfl⟩) hS (fun q _ h => pu_fr hS hA q h) (pu_fr hS hA) (fun r_4 u t H1 locs ht hvm hw hB hz1 hk1 hS => ?_)
    have hP := pu_keep hP hk1
    clear hk1 hz1 ht hvm
    generalize H1 = H at hP hS ⊢
    obtain ⟨u_5, hu_5, rfl, iu_5⟩ := hw
    replace hsp := hsp.trans (slet_eq iu_5)
    refine lv_icmp_ge (tgt := 149) hx hb dX9_hasTimes_21 (by decide) (fun c_6 => ?_) (fun c_6 => ?_)
    · have hcc_6 := c_6
      replace hsp := hsp.trans (if_pos c_6)
      refine lv_iinc (v := 0) (lv' := [(5, .int 0), (6, .int (-1)), (0, .ref (ad 0)), (1, .int (nI a0)), (2, .int p1), (3, .int p2), (4, .int p3)]) hx hb dX9_hasTimes_149 hl (k := 1) rfl (by decide) (by decide) rfl (fun ls hl => ?_)
      refine lv_goto (tgt := 3) hx hb dX9_hasTimes_152 (by decide) ?_
      obtain ⟨lf_15, dlf_15, hlf_15, hsp⟩ := itr_ex hsp
      delta sp_EM_hasTimes_L3 at hlf_15
      refine pu_while (fun nn H locs ls => ∃ (g_12 : Nat) (g_13 : Int32), nn = 3 - g_12 ∧ g_12 ≤ 3 ∧ RR = itrv dlf_15 lf_15 (g_12, g_13) ∧ va_P (dC, dI) vwCl (mo_w ad ck x0 (nI x16) (nI x18) (nI x19) x20 (nI x21) (nI x22) x23 x24 x25 (nI x26) x27 (nI x28) (nI x29) (nI x30) (nI x33) x45 (nI x46) (nI x52) (nI x53) (nI x61) (nI x62) (nI x63) (nI x65) x66 f1 f2 f3 (bN 3 q4) (bN 7 q5) (bN 7 q6) (bN 4 q7) f8 (bN 2 q9) (bH q10) f11 (b2 m12_0 m12_1) (b2 m13_0 m13_1) (b2 m14_0 m14_1) (b2m m15_0 m15_1) f17 (bA 159 q31) f32 f34 f35 f36 f37 (bN 7 q38) f39 f40 f41 (b2 m42_0 m42_1) f43 f44 f47 f48 f49 f50 f51 (bN 13 q54) (bN 120 q55) (bN 120 q56) f57 (bN 120 q58) f59 f60 f64) H ∧ va_D (fun _ => True) (mo_w ad ck x0 (nI x16) (nI x18) (nI x19) x20 (nI x21) (nI x22) x23 x24 x25 (nI x26) x27 (nI x28) (nI x29) (nI x30) (nI x33) x45 (nI x46) (nI x52) (nI x53) (nI x61) (nI x62) (nI x63) (nI x65) x66 f1 f2 f3 (bN 3 q4) (bN 7 q5) (bN 7 q6) (bN 4 q7) f8 (bN 2 q9) (bH q10) f11 (b2 m12_0 m12_1) (b2 m13_0 m13_1) (b2 m14_0 m14_1) (b2m m15_0 m15_1) f17 (bA 159 q31) f32 f34 f35 f36 f37 (bN 7 q38) f39 f40 f41 (b2 m42_0 m42_1) f43 f44 f47 f48 f49 f50 f51 (bN 13 q54) (bN 120 q55) (bN 120 q56) f57 (bN 120 q58) f59 f60 f64) ∧ va_S (va_A [] s.heap.size) s.heap H locs ∧ lv_has ls 12 [(0, .ref (ad 0)), (1, .int (nI a0)), (2, .int p1), (3, .int p2), (4, .int p3), (5, .int (nI g_12)), (6, .int g_13)]) 3 ?_ _ _ _ _ ⟨0, (-1), rfl, (Nat.le_of_ble_eq_true rfl), hsp, hP, hD, hS, lv_sub hl [2, 3, 4, 5, 6, 0, 1] rfl⟩
      rintro nn ih_14 H locs ls ⟨g_12, g_13, rfl, hg_12, he_17, hP, hD, hS, hl⟩
      obtain ⟨S_16, hsp, hin_18, hout_19⟩ := itr_step hlf_15 he_17
      refine lv_iload hx hb dX9_hasTimes_3 (lv_at hl 5 rfl) ?_
      refine lv_aload_n hx hb dX9_hasTimes_5 rfl (lv_at hl 0 rfl) ?_
      refine va_calli (va_runV (As := []) (rest := [.int (nI g_12)]) ⟨hx, hb, hml, hown, hts⟩ (c_EM_clocks l dC dI _ ad ck x0 x16 x18 x19 x20 x21 x22 x23 x24 x25 x26 x27 x28 x29 x30 x33 x45 x46 x52 x53 x61 x62 x63 x65 x66 f1 f2 f3 q4 q5 q6 q7 f8 q9 q10 f11 m12_0 m12_1 m13_0 m13_1 m14_0 m14_1 m15_0 m15_1 f17 q31 f32 f34 f35 f36 f37 q38 f39 f40 f41 m42_0 m42_1 f43 f44 f47 f48 f49 f50 f51 q54 q55 q56 f57 q58 f59 f60 f64 hx16 hx18 hx19 hx21 hx22 hx26 hx28 hx29 hx30 hx33 hx46 hx52 hx53 hx61 hx62 hx63 hx65 hm12_0 hm12_1 hm13_0 hm13_1 hm14_0 hm14_1 hm15_0 hm15_1 hm42_0 hm42_1) (cwV 0 hts g_EM_hasTimes_EM_clocks rfl rfl rfl (by decide +kernel) ⟨Nat.le_of_ble_eq_true rfl, Nat.le_of_ble_eq_true rfl⟩) ⟨pu_bl, va_recv hK hP (ci := 9) (q0 := 0) rfl rfl, pu_in hP hK hD⟩ rfl rfl hl.1 rfl (lv_room (Nat.le_of_ble_eq_true rfl)) dX9_hasTimes_6 ⟨Nat.le_of_ble_eq_true rfl, Nat.le_of_ble_eq_true rfl⟩) hS (fun q _ h => pu_fr hS hA q h) (pu_fr hS hA) (fun r_20 u t H1 locs ht hvm hw hB hz1 hk1 hS => ?_)
      have hP := pu_keep hP hk1
      clear hk1 hz1 ht hvm
      generalize H1 = H at hP hS ⊢
      obtain ⟨u_21, hu_21, rfl, iu_21⟩ := hw
      replace hsp := hsp.trans (slet_eq iu_21)
      refine lv_icmp_ge (tgt := 155) hx hb dX9_hasTimes_9 (by decide) (fun c_22 => ?_) (fun c_22 => ?_)
      · have c_22 : u_21 ≤ g_12 := (nI_leI (a := u_21) (b := g_12) (Nat.lt_of_le_of_lt hu_21 (Nat.le_of_ble_eq_true rfl)) (Nat.lt_of_le_of_lt hg_12 (Nat.le_of_ble_eq_true rfl))).mp c_22
        replace hsp := hsp.trans (if_pos c_22)
        replace hsp := hout_19 _ hsp
        refine lv_iconst (v := 1) hx hb dX9_hasTimes_155 (by decide) ?_
        exact W.zret (v := 1) (ty := .boolean) hx hb hr (rfl) (fun t ht hW => ⟨⟨1, (), rfl, ⟨1, (Nat.le_of_ble_eq_true rfl), rfl, (hsp.symm.trans hRR)⟩, trivial⟩, hS.F ht⟩) hS.2.2 dX9_hasTimes_156
      · have c_22 : ¬ u_21 ≤ g_12 := fun z => c_22 ((nI_leI (a := u_21) (b := g_12) (Nat.lt_of_le_of_lt hu_21 (Nat.le_of_ble_eq_true rfl)) (Nat.lt_of_le_of_lt hg_12 (Nat.le_of_ble_eq_true rfl))).mpr z)
        replace hsp := hsp.trans (if_neg c_22)
        refine lv_iconst (v := (-1)) hx hb dX9_hasTimes_12 (by decide) ?_
        refine lv_istore (lv' := [(6, .int (-1)), (0, .ref (ad 0)), (1, .int (nI a0)), (2, .int p1), (3, .int p2), (4, .int p3), (5, .int (nI g_12))]) hx hb dX9_hasTimes_13 hl (by decide) rfl (fun ls hl => ?_)
        refine lv_iload hx hb dX9_hasTimes_15 (lv_at hl 0 rfl) ?_
        refine lv_aload_n hx hb dX9_hasTimes_17 rfl (lv_at hl 1 rfl) ?_
        refine va_calli (va_runV (As := []) (rest := [.int (-1)]) ⟨hx, hb, hml, hown, hts⟩ (c_EM_clocks l dC dI _ ad ck x0 x16 x18 x19 x20 x21 x22 x23 x24 x25 x26 x27 x28 x29 x30 x33 x45 x46 x52 x53 x61 x62 x63 x65 x66 f1 f2 f3 q4 q5 q6 q7 f8 q9 q10 f11 m12_0 m12_1 m13_0 m13_1 m14_0 m14_1 m15_0 m15_1 f17 q31 f32 f34 f35 f36 f37 q38 f39 f40 f41 m42_0 m42_1 f43 f44 f47 f48 f49 f50 f51 q54 q55 q56 f57 q58 f59 f60 f64 hx16 hx18 hx19 hx21 hx22 hx26 hx28 hx29 hx30 hx33 hx46 hx52 hx53 hx61 hx62 hx63 hx65 hm12_0 hm12_1 hm13_0 hm13_1 hm14_0 hm14_1 hm15_0 hm15_1 hm42_0 hm42_1) (cwV 0 hts g_EM_hasTimes_EM_clocks rfl rfl rfl (by decide +kernel) ⟨Nat.le_of_ble_eq_true rfl, Nat.le_of_ble_eq_true rfl⟩) ⟨pu_bl, va_recv hK hP (ci := 9) (q0 := 0) rfl rfl, pu_in hP hK hD⟩ rfl rfl hl.1 rfl (lv_room (Nat.le_of_ble_eq_true rfl)) dX9_hasTimes_18 ⟨Nat.le_of_ble_eq_true rfl, Nat.le_of_ble_eq_true rfl⟩) hS (fun q _ h => pu_fr hS hA q h) (pu_fr hS hA) (fun r_23 u t H1 locs ht hvm hw hB hz1 hk1 hS => ?_)
        have hP := pu_keep hP hk1
        clear hk1 hz1 ht hvm
        generalize H1 = H at hP hS ⊢
        obtain ⟨u_24, hu_24, rfl, iu_24⟩ := hw
        replace hsp := hsp.trans (slet_eq iu_24)
        refine lv_icmp_ge (tgt := 149) hx hb dX9_hasTimes_21 (by decide) (fun c_25 => ?_) (fun c_25 => ?_)
        · have hcc_25 := c_25
          replace hsp := hsp.trans (if_pos c_25)
          refine lv_iinc (v := (nI (g_12 + 1))) (lv' := [(5, .int (nI (g_12 + 1))), (6, .int (-1)), (0, .ref (ad 0)), (1, .int (nI a0)), (2, .int p1), (3, .int p2), (4, .int p3)]) hx hb dX9_hasTimes_149 hl (k := 6) rfl (nI_1 _) (by decide) rfl (fun ls hl => ?_)
          refine lv_goto (tgt := 3) hx hb dX9_hasTimes_152 (by decide) ?_
          exact ih_14 (3 - (g_12 + 1)) (by omega) _ _ _ ⟨(g_12 + 1), (-1), rfl, (by omega), hin_18 _ hsp, hP, hD, hS, lv_sub hl [2, 3, 4, 5, 6, 0, 1] rfl⟩
        · have hcc_25 := c_25
          replace hsp := hsp.trans (if_neg c_25)
          refine lv_iload hx hb dX9_hasTimes_24 (lv_at hl 6 rfl) ?_
          obtain ⟨JR_28, hJR_28, hsp⟩ := slet_ex hsp
          refine pu_join (fun H locs ls st => ∃ (g_26 : Int64), st = [.long g_26] ∧ g_26 = JR_28 ∧ va_P (dC, dI) vwCl (mo_w ad ck x0 (nI x16) (nI x18) (nI x19) x20 (nI x21) (nI x22) x23 x24 x25 (nI x26) x27 (nI x28) (nI x29) (nI x30) (nI x33) x45 (nI x46) (nI x52) (nI x53) (nI x61) (nI x62) (nI x63) (nI x65) x66 f1 f2 f3 (bN 3 q4) (bN 7 q5) (bN 7 q6) (bN 4 q7) f8 (bN 2 q9) (bH q10) f11 (b2 m12_0 m12_1) (b2 m13_0 m13_1) (b2 m14_0 m14_1) (b2m m15_0 m15_1) f17 (bA 159 q31) f32 f34 f35 f36 f37 (bN 7 q38) f39 f40 f41 (b2 m42_0 m42_1) f43 f44 f47 f48 f49 f50 f51 (bN 13 q54) (bN 120 q55) (bN 120 q56) f57 (bN 120 q58) f59 f60 f64) H ∧ va_D (fun _ => True) (mo_w ad ck x0 (nI x16) (nI x18) (nI x19) x20 (nI x21) (nI x22) x23 x24 x25 (nI x26) x27 (nI x28) (nI x29) (nI x30) (nI x33) x45 (nI x46) (nI x52) (nI x53) (nI x61) (nI x62) (nI x63) (nI x65) x66 f1 f2 f3 (bN 3 q4) (bN 7 q5) (bN 7 q6) (bN 4 q7) f8 (bN 2 q9) (bH q10) f11 (b2 m12_0 m12_1) (b2 m13_0 m13_1) (b2 m14_0 m14_1) (b2m m15_0 m15_1) f17 (bA 159 q31) f32 f34 f35 f36 f37 (bN 7 q38) f39 f40 f41 (b2 m42_0 m42_1) f43 f44 f47 f48 f49 f50 f51 (bN 13 q54) (bN 120 q55) (bN 120 q56) f57 (bN 120 q58) f59 f60 f64) ∧ va_S (va_A [] s.heap.size) s.heap H locs ∧ lv_has ls 12 [(0, .ref (ad 0)), (1, .int (nI a0)), (2, .int p1), (3, .int p2), (4, .int p3), (5, .int (nI g_12)), (6, .int (-1))]) 58 ?_ (fun j_27 => ?_)
          · rintro H locs ls st ⟨g_26, rfl, he_29, hP, hD, hS, hl⟩
            rw [← he_29] at hsp
            refine lv_lstore (lv' := [(7, .long g_26), (0, .ref (ad 0)), (1, .int (nI a0)), (2, .int p1), (3, .int p2), (4, .int p3), (5, .int (nI g_12)), (6, .int (-1))]) hx hb dX9_hasTimes_58 hl (by decide) rfl (fun ls hl => ?_)
            refine lv_iload hx hb dX9_hasTimes_60 (lv_at hl 7 rfl) ?_
            refine lv_if_ne (tgt := 70) hx hb dX9_hasTimes_62 (by decide) (fun _ => ?_) (fun z => absurd z (by decide))
            refine lv_iload hx hb dX9_hasTimes_70 (lv_at hl 7 rfl) ?_
            refine lv_iconst (v := 1) hx hb dX9_hasTimes_72 (by decide) ?_
            refine lv_icmp_ne (tgt := 81) hx hb dX9_hasTimes_73 (by decide) (fun _ => ?_) (fun z => absurd z (by decide))
            refine lv_iload hx hb dX9_hasTimes_81 (lv_at hl 7 rfl) ?_
            refine lv_iconst (v := 2) hx hb dX9_hasTimes_83 (by decide) ?_
            refine lv_icmp_ne (tgt := 93) hx hb dX9_hasTimes_84 (by decide) (fun _ => ?_) (fun z => absurd z (by decide))
            refine lv_lconst (v := (0 : Int64)) hx hb dX9_hasTimes_93 rfl ?_
            refine lv_lstore (lv' := [(9, .long (0 : Int64)), (7, .long g_26), (0, .ref (ad 0)), (1, .int (nI a0)), (2, .int p1), (3, .int p2), (4, .int p3), (5, .int (nI g_12)), (6, .int (-1))]) hx hb dX9_hasTimes_94 hl (by decide) rfl (fun ls hl => ?_)
            refine lv_aload_n hx hb dX9_hasTimes_96 rfl (lv_at hl 2 rfl) ?_
            refine lv_iload_n hx hb dX9_hasTimes_97 rfl (lv_at hl 3 rfl) ?_
            refine lv_iload hx hb dX9_hasTimes_98 (lv_at hl 7 rfl) ?_
            refine lv_iload hx hb dX9_hasTimes_100 (lv_at hl 8 rfl) ?_
            refine va_calli (va_runV (As := [.int (nI a0), .int (nI g_12), .int (-1)]) (rest := []) ⟨hx, hb, hml, hown, hts⟩ (c_EM_boundOf_10 l dC dI _ ad ck x0 x16 x18 x19 x20 x21 x22 x23 x24 x25 x26 x27 x28 x29 x30 x33 x45 x46 x52 x53 x61 x62 x63 x65 x66 f1 f2 f3 q4 q5 q6 q7 f8 q9 q10 f11 m12_0 m12_1 m13_0 m13_1 m14_0 m14_1 m15_0 m15_1 f17 q31 f32 f34 f35 f36 f37 q38 f39 f40 f41 m42_0 m42_1 f43 f44 f47 f48 f49 f50 f51 q54 q55 q56 f57 q58 f59 f60 f64 a0 g_12 hx16 hx18 hx19 hx21 hx22 hx26 hx28 hx29 hx30 hx33 hx46 hx52 hx53 hx61 hx62 hx63 hx65 hm12_0 hm12_1 hm13_0 hm13_1 hm14_0 hm14_1 hm15_0 hm15_1 hm42_0 hm42_1 ha0 hg_12) (cwV 3 hts g_EM_hasTimes_EM_boundOf_10 rfl rfl rfl (by decide +kernel) ⟨Nat.le_of_ble_eq_true rfl, Nat.le_of_ble_eq_true rfl⟩) ⟨pu_bl, va_recv hK hP (ci := 9) (q0 := 0) rfl rfl, pu_in hP hK hD⟩ rfl rfl hl.1 rfl (lv_room (Nat.le_of_ble_eq_true rfl)) dX9_hasTimes_102 ⟨Nat.le_of_ble_eq_true rfl, Nat.le_of_ble_eq_true rfl⟩) hS (fun q _ h => pu_fr hS hA q h) (pu_fr hS hA) (fun r_30 u t H1 locs ht hvm hw hB hz1 hk1 hS => ?_)
            have hP := pu_keep hP hk1
            clear hk1 hz1 ht hvm
            generalize H1 = H at hP hS ⊢
            have ir_30 := hw
            replace hsp := hsp.trans (slet_eq ir_30)
            refine lv_istore (lv' := [(11, .int r_30), (9, .long (0 : Int64)), (7, .long g_26), (0, .ref (ad 0)), (1, .int (nI a0)), (2, .int p1), (3, .int p2), (4, .int p3), (5, .int (nI g_12)), (6, .int (-1))]) hx hb dX9_hasTimes_105 hl (by decide) rfl (fun ls hl => ?_)
            refine lv_iload hx hb dX9_hasTimes_107 (lv_at hl 0 rfl) ?_
            refine lv_ldcw hx hb hown v_10 dX9_hasTimes_109 ?_
            refine lv_icmp_ge (tgt := 143) hx hb dX9_hasTimes_112 (by decide) (fun c_31 => ?_) (fun c_31 => ?_)
            · have hcc_31 := c_31
              replace hsp := hsp.trans (if_pos c_31)
              refine lv_iinc (v := 0) (lv' := [(6, .int 0), (11, .int r_30), (9, .long (0 : Int64)), (7, .long g_26), (0, .ref (ad 0)), (1, .int (nI a0)), (2, .int p1), (3, .int p2), (4, .int p3), (5, .int (nI g_12))]) hx hb dX9_hasTimes_143 hl (k := 9) rfl (by decide) (by decide) rfl (fun ls hl => ?_)
              refine lv_goto (tgt := 15) hx hb dX9_hasTimes_146 (by decide) ?_
              obtain ⟨lf_41, dlf_41, hlf_41, hsp⟩ := itr_ex hsp
              delta sp_EM_hasTimes_L1 at hlf_41
              refine pu_while (fun nn H locs ls => ∃ (g_36 : Int32) (g_37 : Nat) (g_38 : Int64) (g_39 : Int64), nn = 3 - g_37 ∧ g_37 ≤ 3 ∧ S_16 = itrv dlf_41 lf_41 (g_36, g_37, g_38, g_39) ∧ va_P (dC, dI) vwCl (mo_w ad ck x0 (nI x16) (nI x18) (nI x19) x20 (nI x21) (nI x22) x23 x24 x25 (nI x26) x27 (nI x28) (nI x29) (nI x30) (nI x33) x45 (nI x46) (nI x52) (nI x53) (nI x61) (nI x62) (nI x63) (nI x65) x66 f1 f2 f3 (bN 3 q4) (bN 7 q5) (bN 7 q6) (bN 4 q7) f8 (bN 2 q9) (bH q10) f11 (b2 m12_0 m12_1) (b2 m13_0 m13_1) (b2 m14_0 m14_1) (b2m m15_0 m15_1) f17 (bA 159 q31) f32 f34 f35 f36 f37 (bN 7 q38) f39 f40 f41 (b2 m42_0 m42_1) f43 f44 f47 f48 f49 f50 f51 (bN 13 q54) (bN 120 q55) (bN 120 q56) f57 (bN 120 q58) f59 f60 f64) H ∧ va_D (fun _ => True) (mo_w ad ck x0 (nI x16) (nI x18) (nI x19) x20 (nI x21) (nI x22) x23 x24 x25 (nI x26) x27 (nI x28) (nI x29) (nI x30) (nI x33) x45 (nI x46) (nI x52) (nI x53) (nI x61) (nI x62) (nI x63) (nI x65) x66 f1 f2 f3 (bN 3 q4) (bN 7 q5) (bN 7 q6) (bN 4 q7) f8 (bN 2 q9) (bH q10) f11 (b2 m12_0 m12_1) (b2 m13_0 m13_1) (b2 m14_0 m14_1) (b2m m15_0 m15_1) f17 (bA 159 q31) f32 f34 f35 f36 f37 (bN 7 q38) f39 f40 f41 (b2 m42_0 m42_1) f43 f44 f47 f48 f49 f50 f51 (bN 13 q54) (bN 120 q55) (bN 120 q56) f57 (bN 120 q58) f59 f60 f64) ∧ va_S (va_A [] s.heap.size) s.heap H locs ∧ lv_has ls 12 [(0, .ref (ad 0)), (1, .int (nI a0)), (2, .int p1), (3, .int p2), (4, .int p3), (5, .int (nI g_12)), (6, .int (nI g_37)), (7, .long g_38), (9, .long g_39), (11, .int g_36)]) 15 ?_ _ _ _ _ ⟨r_30, 0, g_26, (0 : Int64), rfl, (Nat.le_of_ble_eq_true rfl), hsp, hP, hD, hS, lv_sub hl [4, 5, 6, 7, 8, 9, 0, 3, 2, 1] rfl⟩
              rintro nn ih_40 H locs ls ⟨g_36, g_37, g_38, g_39, rfl, hg_37, he_43, hP, hD, hS, hl⟩
              obtain ⟨S_42, hsp, hin_44, hout_45⟩ := itr_step hlf_41 he_43
              refine lv_iload hx hb dX9_hasTimes_15 (lv_at hl 6 rfl) ?_
              refine lv_aload_n hx hb dX9_hasTimes_17 rfl (lv_at hl 0 rfl) ?_
              refine va_calli (va_runV (As := []) (rest := [.int (nI g_37)]) ⟨hx, hb, hml, hown, hts⟩ (c_EM_clocks l dC dI _ ad ck x0 x16 x18 x19 x20 x21 x22 x23 x24 x25 x26 x27 x28 x29 x30 x33 x45 x46 x52 x53 x61 x62 x63 x65 x66 f1 f2 f3 q4 q5 q6 q7 f8 q9 q10 f11 m12_0 m12_1 m13_0 m13_1 m14_0 m14_1 m15_0 m15_1 f17 q31 f32 f34 f35 f36 f37 q38 f39 f40 f41 m42_0 m42_1 f43 f44 f47 f48 f49 f50 f51 q54 q55 q56 f57 q58 f59 f60 f64 hx16 hx18 hx19 hx21 hx22 hx26 hx28 hx29 hx30 hx33 hx46 hx52 hx53 hx61 hx62 hx63 hx65 hm12_0 hm12_1 hm13_0 hm13_1 hm14_0 hm14_1 hm15_0 hm15_1 hm42_0 hm42_1) (cwV 0 hts g_EM_hasTimes_EM_clocks rfl rfl rfl (by decide +kernel) ⟨Nat.le_of_ble_eq_true rfl, Nat.le_of_ble_eq_true rfl⟩) ⟨pu_bl, va_recv hK hP (ci := 9) (q0 := 0) rfl rfl, pu_in hP hK hD⟩ rfl rfl hl.1 rfl (lv_room (Nat.le_of_ble_eq_true rfl)) dX9_hasTimes_18 ⟨Nat.le_of_ble_eq_true rfl, Nat.le_of_ble_eq_true rfl⟩) hS (fun q _ h => pu_fr hS hA q h) (pu_fr hS hA) (fun r_46 u t H1 locs ht hvm hw hB hz1 hk1 hS => ?_)
              have hP := pu_keep hP hk1
              clear hk1 hz1 ht hvm
              generalize H1 = H at hP hS ⊢
              obtain ⟨u_47, hu_47, rfl, iu_47⟩ := hw
              replace hsp := hsp.trans (slet_eq iu_47)
              refine lv_icmp_ge (tgt := 149) hx hb dX9_hasTimes_21 (by decide) (fun c_48 => ?_) (fun c_48 => ?_)
              · have c_48 : u_47 ≤ g_37 := (nI_leI (a := u_47) (b := g_37) (Nat.lt_of_le_of_lt hu_47 (Nat.le_of_ble_eq_true rfl)) (Nat.lt_of_le_of_lt hg_37 (Nat.le_of_ble_eq_true rfl))).mp c_48
                replace hsp := hsp.trans (if_pos c_48)
                replace hsp := hout_45 _ hsp
                refine lv_iinc (v := (nI (g_12 + 1))) (lv' := [(5, .int (nI (g_12 + 1))), (0, .ref (ad 0)), (1, .int (nI a0)), (2, .int p1), (3, .int p2), (4, .int p3), (6, .int (nI g_37)), (7, .long g_38), (9, .long g_39), (11, .int g_36)]) hx hb dX9_hasTimes_149 hl (k := 5) rfl (nI_1 _) (by decide) rfl (fun ls hl => ?_)
                refine lv_goto (tgt := 3) hx hb dX9_hasTimes_152 (by decide) ?_
                exact ih_14 (3 - (g_12 + 1)) (by omega) _ _ _ ⟨(g_12 + 1), (nI g_37), rfl, (by omega), hin_18 _ hsp, hP, hD, hS, lv_sub hl [1, 2, 3, 4, 5, 0, 6] rfl⟩
              · have c_48 : ¬ u_47 ≤ g_37 := fun z => c_48 ((nI_leI (a := u_47) (b := g_37) (Nat.lt_of_le_of_lt hu_47 (Nat.le_of_ble_eq_true rfl)) (Nat.lt_of_le_of_lt hg_37 (Nat.le_of_ble_eq_true rfl))).mpr z)
                replace hsp := hsp.trans (if_neg c_48)
                refine lv_iload hx hb dX9_hasTimes_24 (lv_at hl 5 rfl) ?_
                obtain ⟨JR_51, hJR_51, hsp⟩ := slet_ex hsp
                refine pu_join (fun H locs ls st => ∃ (g_49 : Int64), st = [.long g_49] ∧ g_49 = JR_51 ∧ va_P (dC, dI) vwCl (mo_w ad ck x0 (nI x16) (nI x18) (nI x19) x20 (nI x21) (nI x22) x23 x24 x25 (nI x26) x27 (nI x28) (nI x29) (nI x30) (nI x33) x45 (nI x46) (nI x52) (nI x53) (nI x61) (nI x62) (nI x63) (nI x65) x66 f1 f2 f3 (bN 3 q4) (bN 7 q5) (bN 7 q6) (bN 4 q7) f8 (bN 2 q9) (bH q10) f11 (b2 m12_0 m12_1) (b2 m13_0 m13_1) (b2 m14_0 m14_1) (b2m m15_0 m15_1) f17 (bA 159 q31) f32 f34 f35 f36 f37 (bN 7 q38) f39 f40 f41 (b2 m42_0 m42_1) f43 f44 f47 f48 f49 f50 f51 (bN 13 q54) (bN 120 q55) (bN 120 q56) f57 (bN 120 q58) f59 f60 f64) H ∧ va_D (fun _ => True) (mo_w ad ck x0 (nI x16) (nI x18) (nI x19) x20 (nI x21) (nI x22) x23 x24 x25 (nI x26) x27 (nI x28) (nI x29) (nI x30) (nI x33) x45 (nI x46) (nI x52) (nI x53) (nI x61) (nI x62) (nI x63) (nI x65) x66 f1 f2 f3 (bN 3 q4) (bN 7 q5) (bN 7 q6) (bN 4 q7) f8 (bN 2 q9) (bH q10) f11 (b2 m12_0 m12_1) (b2 m13_0 m13_1) (b2 m14_0 m14_1) (b2m m15_0 m15_1) f17 (bA 159 q31) f32 f34 f35 f36 f37 (bN 7 q38) f39 f40 f41 (b2 m42_0 m42_1) f43 f44 f47 f48 f49 f50 f51 (bN 13 q54) (bN 120 q55) (bN 120 q56) f57 (bN 120 q58) f59 f60 f64) ∧ va_S (va_A [] s.heap.size) s.heap H locs ∧ lv_has ls 12 [(0, .ref (ad 0)), (1, .int (nI a0)), (2, .int p1), (3, .int p2), (4, .int p3), (5, .int (nI g_12)), (6, .int (nI g_37)), (7, .long g_38), (9, .long g_39), (11, .int g_36)]) 58 ?_ (fun j_50 => ?_)
                · rintro H locs ls st ⟨g_49, rfl, he_52, hP, hD, hS, hl⟩
                  rw [← he_52] at hsp
                  refine lv_lstore (lv' := [(7, .long g_49), (0, .ref (ad 0)), (1, .int (nI a0)), (2, .int p1), (3, .int p2), (4, .int p3), (5, .int (nI g_12)), (6, .int (nI g_37)), (9, .long g_39), (11, .int g_36)]) hx hb dX9_hasTimes_58 hl (by decide) rfl (fun ls hl => ?_)
                  refine lv_iload hx hb dX9_hasTimes_60 (lv_at hl 7 rfl) ?_
                  obtain ⟨JR_55, hJR_55, hsp⟩ := slet_ex hsp
                  refine pu_join (fun H locs ls st => ∃ (g_53 : Int64), st = [.long g_53] ∧ g_53 = JR_55 ∧ va_P (dC, dI) vwCl (mo_w ad ck x0 (nI x16) (nI x18) (nI x19) x20 (nI x21) (nI x22) x23 x24 x25 (nI x26) x27 (nI x28) (nI x29) (nI x30) (nI x33) x45 (nI x46) (nI x52) (nI x53) (nI x61) (nI x62) (nI x63) (nI x65) x66 f1 f2 f3 (bN 3 q4) (bN 7 q5) (bN 7 q6) (bN 4 q7) f8 (bN 2 q9) (bH q10) f11 (b2 m12_0 m12_1) (b2 m13_0 m13_1) (b2 m14_0 m14_1) (b2m m15_0 m15_1) f17 (bA 159 q31) f32 f34 f35 f36 f37 (bN 7 q38) f39 f40 f41 (b2 m42_0 m42_1) f43 f44 f47 f48 f49 f50 f51 (bN 13 q54) (bN 120 q55) (bN 120 q56) f57 (bN 120 q58) f59 f60 f64) H ∧ va_D (fun _ => True) (mo_w ad ck x0 (nI x16) (nI x18) (nI x19) x20 (nI x21) (nI x22) x23 x24 x25 (nI x26) x27 (nI x28) (nI x29) (nI x30) (nI x33) x45 (nI x46) (nI x52) (nI x53) (nI x61) (nI x62) (nI x63) (nI x65) x66 f1 f2 f3 (bN 3 q4) (bN 7 q5) (bN 7 q6) (bN 4 q7) f8 (bN 2 q9) (bH q10) f11 (b2 m12_0 m12_1) (b2 m13_0 m13_1) (b2 m14_0 m14_1) (b2m m15_0 m15_1) f17 (bA 159 q31) f32 f34 f35 f36 f37 (bN 7 q38) f39 f40 f41 (b2 m42_0 m42_1) f43 f44 f47 f48 f49 f50 f51 (bN 13 q54) (bN 120 q55) (bN 120 q56) f57 (bN 120 q58) f59 f60 f64) ∧ va_S (va_A [] s.heap.size) s.heap H locs ∧ lv_has ls 12 [(0, .ref (ad 0)), (1, .int (nI a0)), (2, .int p1), (3, .int p2), (4, .int p3), (5, .int (nI g_12)), (6, .int (nI g_37)), (7, .long g_49), (9, .long g_39), (11, .int g_36)]) 94 ?_ (fun j_54 => ?_)
                  · rintro H locs ls st ⟨g_53, rfl, he_56, hP, hD, hS, hl⟩
                    rw [← he_56] at hsp
                    refine lv_lstore (lv' := [(9, .long g_53), (0, .ref (ad 0)), (1, .int (nI a0)), (2, .int p1), (3, .int p2), (4, .int p3), (5, .int (nI g_12)), (6, .int (nI g_37)), (7, .long g_49), (11, .int g_36)]) hx hb dX9_hasTimes_94 hl (by decide) rfl (fun ls hl => ?_)
                    refine lv_aload_n hx hb dX9_hasTimes_96 rfl (lv_at hl 1 rfl) ?_
                    refine lv_iload_n hx hb dX9_hasTimes_97 rfl (lv_at hl 2 rfl) ?_
                    refine lv_iload hx hb dX9_hasTimes_98 (lv_at hl 6 rfl) ?_
                    refine lv_iload hx hb dX9_hasTimes_100 (lv_at hl 7 rfl) ?_
                    refine va_calli (va_runV (As := [.int (nI a0), .int (nI g_12), .int (nI g_37)]) (rest := []) ⟨hx, hb, hml, hown, hts⟩ (c_EM_boundOf_11 l dC dI _ ad ck x0 x16 x18 x19 x20 x21 x22 x23 x24 x25 x26 x27 x28 x29 x30 x33 x45 x46 x52 x53 x61 x62 x63 x65 x66 f1 f2 f3 q4 q5 q6 q7 f8 q9 q10 f11 m12_0 m12_1 m13_0 m13_1 m14_0 m14_1 m15_0 m15_1 f17 q31 f32 f34 f35 f36 f37 q38 f39 f40 f41 m42_0 m42_1 f43 f44 f47 f48 f49 f50 f51 q54 q55 q56 f57 q58 f59 f60 f64 a0 g_12 g_37 hx16 hx18 hx19 hx21 hx22 hx26 hx28 hx29 hx30 hx33 hx46 hx52 hx53 hx61 hx62 hx63 hx65 hm12_0 hm12_1 hm13_0 hm13_1 hm14_0 hm14_1 hm15_0 hm15_1 hm42_0 hm42_1 ha0 hg_12 hg_37) (cwV 3 hts g_EM_hasTimes_EM_boundOf_11 rfl rfl rfl (by decide +kernel) ⟨Nat.le_of_ble_eq_true rfl, Nat.le_of_ble_eq_true rfl⟩) ⟨pu_bl, va_recv hK hP (ci := 9) (q0 := 0) rfl rfl, pu_in hP hK hD⟩ rfl rfl hl.1 rfl (lv_room (Nat.le_of_ble_eq_true rfl)) dX9_hasTimes_102 ⟨Nat.le_of_ble_eq_true rfl, Nat.le_of_ble_eq_true rfl⟩) hS (fun q _ h => pu_fr hS hA q h) (pu_fr hS hA) (fun r_57 u t H1 locs ht hvm hw hB hz1 hk1 hS => ?_)
                    have hP := pu_keep hP hk1
                    clear hk1 hz1 ht hvm
                    generalize H1 = H at hP hS ⊢
                    have ir_57 := hw
                    replace hsp := hsp.trans (slet_eq ir_57)
                    refine lv_istore (lv' := [(11, .int r_57), (9, .long g_53), (0, .ref (ad 0)), (1, .int (nI a0)), (2, .int p1), (3, .int p2), (4, .int p3), (5, .int (nI g_12)), (6, .int (nI g_37)), (7, .long g_49)]) hx hb dX9_hasTimes_105 hl (by decide) rfl (fun ls hl => ?_)
                    refine lv_iload hx hb dX9_hasTimes_107 (lv_at hl 0 rfl) ?_
                    refine lv_ldcw hx hb hown v_10 dX9_hasTimes_109 ?_
                    refine lv_icmp_ge (tgt := 143) hx hb dX9_hasTimes_112 (by decide) (fun c_58 => ?_) (fun c_58 => ?_)
                    · have hcc_58 := c_58
                      replace hsp := hsp.trans (if_pos c_58)
                      refine lv_iinc (v := (nI (g_37 + 1))) (lv' := [(6, .int (nI (g_37 + 1))), (11, .int r_57), (9, .long g_53), (0, .ref (ad 0)), (1, .int (nI a0)), (2, .int p1), (3, .int p2), (4, .int p3), (5, .int (nI g_12)), (7, .long g_49)]) hx hb dX9_hasTimes_143 hl (k := 8) rfl (nI_1 _) (by decide) rfl (fun ls hl => ?_)
                      refine lv_goto (tgt := 15) hx hb dX9_hasTimes_146 (by decide) ?_
                      exact ih_40 (3 - (g_37 + 1)) (by omega) _ _ _ ⟨r_57, (g_37 + 1), g_49, g_53, rfl, (by omega), hin_44 _ hsp, hP, hD, hS, lv_sub hl [3, 4, 5, 6, 7, 8, 0, 9, 2, 1] rfl⟩
                    · have hcc_58 := c_58
                      replace hsp := hsp.trans (if_neg c_58)
                      refine lv_lload hx hb dX9_hasTimes_115 (lv_at hl 9 rfl) ?_
                      refine lv_lload hx hb dX9_hasTimes_117 (lv_at hl 1 rfl) ?_
                      refine lv_lsub hx hb dX9_hasTimes_119 ?_
                      refine lv_topl (fun y_59 ey_59 => ?_)
                      replace hsp := hsp.trans (slet_eq ey_59)
                      refine lv_iload hx hb dX9_hasTimes_120 (lv_at hl 0 rfl) ?_
                      refine lv_iconst (v := 1) hx hb dX9_hasTimes_122 (by decide) ?_
                      refine lv_ishr hx hb dX9_hasTimes_123 ?_
                      refine lv_topi (fun y_60 ey_60 => ?_)
                      replace hsp := hsp.trans (slet_eq ey_60)
                      refine lv_i2l (v := y_60.toInt64) hx hb dX9_hasTimes_124 rfl ?_
                      refine lv_topl (fun y_61 ey_61 => ?_)
                      replace hsp := hsp.trans (slet_eq ey_61)
                      refine lv_ldc2 (v := (256)) hx hb hown v_11 dX9_hasTimes_125 ?_
                      refine lv_lmul hx hb dX9_hasTimes_128 ?_
                      refine lv_topl (fun y_62 ey_62 => ?_)
                      replace hsp := hsp.trans (slet_eq ey_62)
                      refine lv_lconst (v := (1 : Int64)) hx hb dX9_hasTimes_129 rfl ?_
                      refine lv_lsub hx hb dX9_hasTimes_130 ?_
                      refine lv_topl (fun y_63 ey_63 => ?_)
                      replace hsp := hsp.trans (slet_eq ey_63)
                      refine lv_iload hx hb dX9_hasTimes_131 (lv_at hl 0 rfl) ?_
                      refine lv_iconst (v := 1) hx hb dX9_hasTimes_133 (by decide) ?_
                      refine lv_iand hx hb dX9_hasTimes_134 ?_
                      refine lv_topi (fun y_64 ey_64 => ?_)
                      replace hsp := hsp.trans (slet_eq ey_64)
                      refine lv_i2l (v := y_64.toInt64) hx hb dX9_hasTimes_135 rfl ?_
                      refine lv_topl (fun y_65 ey_65 => ?_)
                      replace hsp := hsp.trans (slet_eq ey_65)
                      refine lv_ladd hx hb dX9_hasTimes_136 ?_
                      refine lv_topl (fun y_66 ey_66 => ?_)
                      replace hsp := hsp.trans (slet_eq ey_66)
                      refine W.lcmp hx hb dX9_hasTimes_137 ?_
                      refine lv_topi (fun y_67 ey_67 => ?_)
                      replace hsp := hsp.trans (slet_eq ey_67)
                      refine lv_if_le (tgt := 143) hx hb dX9_hasTimes_138 (by decide) (fun c_68 => ?_) (fun c_68 => ?_)
                      · have hcc_68 := c_68
                        replace hsp := hsp.trans (if_pos c_68)
                        refine lv_iinc (v := (nI (g_37 + 1))) (lv' := [(6, .int (nI (g_37 + 1))), (11, .int r_57), (9, .long g_53), (0, .ref (ad 0)), (1, .int (nI a0)), (2, .int p1), (3, .int p2), (4, .int p3), (5, .int (nI g_12)), (7, .long g_49)]) hx hb dX9_hasTimes_143 hl (k := 8) rfl (nI_1 _) (by decide) rfl (fun ls hl => ?_)
                        refine lv_goto (tgt := 15) hx hb dX9_hasTimes_146 (by decide) ?_
                        exact ih_40 (3 - (g_37 + 1)) (by omega) _ _ _ ⟨r_57, (g_37 + 1), g_49, g_53, rfl, (by omega), hin_44 _ hsp, hP, hD, hS, lv_sub hl [3, 4, 5, 6, 7, 8, 0, 9, 2, 1] rfl⟩
                      · have hcc_68 := c_68
                        replace hsp := hsp.trans (if_neg c_68)
                        replace hsp := hout_45 _ hsp
                        replace hsp := hout_19 _ hsp
                        refine lv_iconst (v := 0) hx hb dX9_hasTimes_141 (by decide) ?_
                        exact W.zret (v := 0) (ty := .boolean) hx hb hr (rfl) (fun t ht hW => ⟨⟨0, (), rfl, ⟨0, (Nat.le_of_ble_eq_true rfl), rfl, (hsp.symm.trans hRR)⟩, trivial⟩, hS.F ht⟩) hS.2.2 dX9_hasTimes_142
                  have hsp := hJR_55
                  refine lv_if_ne (tgt := 70) hx hb dX9_hasTimes_62 (by decide) (fun c_69 => ?_) (fun c_69 => ?_)
                  · have c_69 : ¬ g_37 = 0 := fun z => c_69 ((nI_eq (a := g_37) (b := 0) (Nat.lt_of_le_of_lt hg_37 (Nat.le_of_ble_eq_true rfl)) (Nat.le_of_ble_eq_true rfl)).mpr z)
                    replace hsp := hsp.trans (if_neg c_69)
                    refine lv_iload hx hb dX9_hasTimes_70 (lv_at hl 7 rfl) ?_
                    refine lv_iconst (v := 1) hx hb dX9_hasTimes_72 (by decide) ?_
                    refine lv_icmp_ne (tgt := 81) hx hb dX9_hasTimes_73 (by decide) (fun c_70 => ?_) (fun c_70 => ?_)
                    · have c_70 : ¬ g_37 = 1 := fun z => c_70 ((nI_eq (a := g_37) (b := 1) (Nat.lt_of_le_of_lt hg_37 (Nat.le_of_ble_eq_true rfl)) (Nat.le_of_ble_eq_true rfl)).mpr z)
                      replace hsp := hsp.trans (if_neg c_70)
                      refine lv_iload hx hb dX9_hasTimes_81 (lv_at hl 7 rfl) ?_
                      refine lv_iconst (v := 2) hx hb dX9_hasTimes_83 (by decide) ?_
                      refine lv_icmp_ne (tgt := 93) hx hb dX9_hasTimes_84 (by decide) (fun c_71 => ?_) (fun c_71 => ?_)
                      · have c_71 : ¬ g_37 = 2 := fun z => c_71 ((nI_eq (a := g_37) (b := 2) (Nat.lt_of_le_of_lt hg_37 (Nat.le_of_ble_eq_true rfl)) (Nat.le_of_ble_eq_true rfl)).mpr z)
                        exfalso
                        omega
                      · have c_71 : g_37 = 2 := (nI_eq (a := g_37) (b := 2) (Nat.lt_of_le_of_lt hg_37 (Nat.le_of_ble_eq_true rfl)) (Nat.le_of_ble_eq_true rfl)).mp c_71
                        refine lv_iload hx hb dX9_hasTimes_87 (lv_at hl 5 rfl) ?_
                        refine lv_i2l (v := p3.toInt64) hx hb dX9_hasTimes_89 rfl ?_
                        refine lv_topl (fun y_72 ey_72 => ?_)
                        replace hsp := hsp.trans (slet_eq ey_72)
                        refine lv_goto (tgt := 94) hx hb dX9_hasTimes_90 (by decide) ?_
                        exact j_54 _ _ _ _ ⟨y_72, rfl, hsp.symm, hP, hD, hS, lv_sub hl [1, 2, 3, 4, 5, 6, 7, 0, 8, 9] rfl⟩
                    · have c_70 : g_37 = 1 := (nI_eq (a := g_37) (b := 1) (Nat.lt_of_le_of_lt hg_37 (Nat.le_of_ble_eq_true rfl)) (Nat.le_of_ble_eq_true rfl)).mp c_70
                      replace hsp := hsp.trans (if_pos c_70)
                      refine lv_iload_n hx hb dX9_hasTimes_76 rfl (lv_at hl 4 rfl) ?_
                      refine lv_i2l (v := p2.toInt64) hx hb dX9_hasTimes_77 rfl ?_
                      refine lv_topl (fun y_73 ey_73 => ?_)
                      replace hsp := hsp.trans (slet_eq ey_73)
                      refine lv_goto (tgt := 94) hx hb dX9_hasTimes_78 (by decide) ?_
                      exact j_54 _ _ _ _ ⟨y_73, rfl, hsp.symm, hP, hD, hS, lv_sub hl [1, 2, 3, 4, 5, 6, 7, 0, 8, 9] rfl⟩
                  · have c_69 : g_37 = 0 := (nI_eq (a := g_37) (b := 0) (Nat.lt_of_le_of_lt hg_37 (Nat.le_of_ble_eq_true rfl)) (Nat.le_of_ble_eq_true rfl)).mp c_69
                    replace hsp := hsp.trans (if_pos c_69)
                    refine lv_iload_n hx hb dX9_hasTimes_65 rfl (lv_at hl 3 rfl) ?_
                    refine lv_i2l (v := p1.toInt64) hx hb dX9_hasTimes_66 rfl ?_
                    refine lv_topl (fun y_74 ey_74 => ?_)
                    replace hsp := hsp.trans (slet_eq ey_74)
                    refine lv_goto (tgt := 94) hx hb dX9_hasTimes_67 (by decide) ?_
                    exact j_54 _ _ _ _ ⟨y_74, rfl, hsp.symm, hP, hD, hS, lv_sub hl [1, 2, 3, 4, 5, 6, 7, 0, 8, 9] rfl⟩
                have hsp := hJR_51
                refine lv_if_ne (tgt := 34) hx hb dX9_hasTimes_26 (by decide) (fun c_75 => ?_) (fun c_75 => ?_)
                · have c_75 : ¬ g_12 = 0 := fun z => c_75 ((nI_eq (a := g_12) (b := 0) (Nat.lt_of_le_of_lt hg_12 (Nat.le_of_ble_eq_true rfl)) (Nat.le_of_ble_eq_true rfl)).mpr z)
                  replace hsp := hsp.trans (if_neg c_75)
                  refine lv_iload hx hb dX9_hasTimes_34 (lv_at hl 5 rfl) ?_
                  refine lv_iconst (v := 1) hx hb dX9_hasTimes_36 (by decide) ?_
                  refine lv_icmp_ne (tgt := 45) hx hb dX9_hasTimes_37 (by decide) (fun c_76 => ?_) (fun c_76 => ?_)
                  · have c_76 : ¬ g_12 = 1 := fun z => c_76 ((nI_eq (a := g_12) (b := 1) (Nat.lt_of_le_of_lt hg_12 (Nat.le_of_ble_eq_true rfl)) (Nat.le_of_ble_eq_true rfl)).mpr z)
                    replace hsp := hsp.trans (if_neg c_76)
                    refine lv_iload hx hb dX9_hasTimes_45 (lv_at hl 5 rfl) ?_
                    refine lv_iconst (v := 2) hx hb dX9_hasTimes_47 (by decide) ?_
                    refine lv_icmp_ne (tgt := 57) hx hb dX9_hasTimes_48 (by decide) (fun c_77 => ?_) (fun c_77 => ?_)
                    · have c_77 : ¬ g_12 = 2 := fun z => c_77 ((nI_eq (a := g_12) (b := 2) (Nat.lt_of_le_of_lt hg_12 (Nat.le_of_ble_eq_true rfl)) (Nat.le_of_ble_eq_true rfl)).mpr z)
                      exfalso
                      omega
                    · have c_77 : g_12 = 2 := (nI_eq (a := g_12) (b := 2) (Nat.lt_of_le_of_lt hg_12 (Nat.le_of_ble_eq_true rfl)) (Nat.le_of_ble_eq_true rfl)).mp c_77
                      refine lv_iload hx hb dX9_hasTimes_51 (lv_at hl 4 rfl) ?_
                      refine lv_i2l (v := p3.toInt64) hx hb dX9_hasTimes_53 rfl ?_
                      refine lv_topl (fun y_78 ey_78 => ?_)
                      replace hsp := hsp.trans (slet_eq ey_78)
                      refine lv_goto (tgt := 58) hx hb dX9_hasTimes_54 (by decide) ?_
                      exact j_50 _ _ _ _ ⟨y_78, rfl, hsp.symm, hP, hD, hS, lv_sub hl [0, 1, 2, 3, 4, 5, 6, 7, 8, 9] rfl⟩
                  · have c_76 : g_12 = 1 := (nI_eq (a := g_12) (b := 1) (Nat.lt_of_le_of_lt hg_12 (Nat.le_of_ble_eq_true rfl)) (Nat.le_of_ble_eq_true rfl)).mp c_76
                    replace hsp := hsp.trans (if_pos c_76)
                    refine lv_iload_n hx hb dX9_hasTimes_40 rfl (lv_at hl 3 rfl) ?_
                    refine lv_i2l (v := p2.toInt64) hx hb dX9_hasTimes_41 rfl ?_
                    refine lv_topl (fun y_79 ey_79 => ?_)
                    replace hsp := hsp.trans (slet_eq ey_79)
                    refine lv_goto (tgt := 58) hx hb dX9_hasTimes_42 (by decide) ?_
                    exact j_50 _ _ _ _ ⟨y_79, rfl, hsp.symm, hP, hD, hS, lv_sub hl [0, 1, 2, 3, 4, 5, 6, 7, 8, 9] rfl⟩
                · have c_75 : g_12 = 0 := (nI_eq (a := g_12) (b := 0) (Nat.lt_of_le_of_lt hg_12 (Nat.le_of_ble_eq_true rfl)) (Nat.le_of_ble_eq_true rfl)).mp c_75
                  replace hsp := hsp.trans (if_pos c_75)
                  refine lv_iload_n hx hb dX9_hasTimes_29 rfl (lv_at hl 2 rfl) ?_
                  refine lv_i2l (v := p1.toInt64) hx hb dX9_hasTimes_30 rfl ?_
                  refine lv_topl (fun y_80 ey_80 => ?_)
                  replace hsp := hsp.trans (slet_eq ey_80)
                  refine lv_goto (tgt := 58) hx hb dX9_hasTimes_31 (by decide) ?_
                  exact j_50 _ _ _ _ ⟨y_80, rfl, hsp.symm, hP, hD, hS, lv_sub hl [0, 1, 2, 3, 4, 5, 6, 7, 8, 9] rfl⟩
            · have hcc_31 := c_31
              replace hsp := hsp.trans (if_neg c_31)
              refine lv_lload hx hb dX9_hasTimes_115 (lv_at hl 2 rfl) ?_
              refine lv_lload hx hb dX9_hasTimes_117 (lv_at hl 1 rfl) ?_
              refine lv_lsub hx hb dX9_hasTimes_119 ?_
              refine lv_topl (fun y_81 ey_81 => ?_)
              replace hsp := hsp.trans (slet_eq ey_81)
              refine lv_iload hx hb dX9_hasTimes_120 (lv_at hl 0 rfl) ?_
              refine lv_iconst (v := 1) hx hb dX9_hasTimes_122 (by decide) ?_
              refine lv_ishr hx hb dX9_hasTimes_123 ?_
              refine lv_topi (fun y_82 ey_82 => ?_)
              replace hsp := hsp.trans (slet_eq ey_82)
              refine lv_i2l (v := y_82.toInt64) hx hb dX9_hasTimes_124 rfl ?_
              refine lv_topl (fun y_83 ey_83 => ?_)
              replace hsp := hsp.trans (slet_eq ey_83)
              refine lv_ldc2 (v := (256)) hx hb hown v_11 dX9_hasTimes_125 ?_
              refine lv_lmul hx hb dX9_hasTimes_128 ?_
              refine lv_topl (fun y_84 ey_84 => ?_)
              replace hsp := hsp.trans (slet_eq ey_84)
              refine lv_lconst (v := (1 : Int64)) hx hb dX9_hasTimes_129 rfl ?_
              refine lv_lsub hx hb dX9_hasTimes_130 ?_
              refine lv_topl (fun y_85 ey_85 => ?_)
              replace hsp := hsp.trans (slet_eq ey_85)
              refine lv_iload hx hb dX9_hasTimes_131 (lv_at hl 0 rfl) ?_
              refine lv_iconst (v := 1) hx hb dX9_hasTimes_133 (by decide) ?_
              refine lv_iand hx hb dX9_hasTimes_134 ?_
              refine lv_topi (fun y_86 ey_86 => ?_)
              replace hsp := hsp.trans (slet_eq ey_86)
              refine lv_i2l (v := y_86.toInt64) hx hb dX9_hasTimes_135 rfl ?_
              refine lv_topl (fun y_87 ey_87 => ?_)
              replace hsp := hsp.trans (slet_eq ey_87)
              refine lv_ladd hx hb dX9_hasTimes_136 ?_
              refine lv_topl (fun y_88 ey_88 => ?_)
              replace hsp := hsp.trans (slet_eq ey_88)
              refine W.lcmp hx hb dX9_hasTimes_137 ?_
              refine lv_topi (fun y_89 ey_89 => ?_)
              replace hsp := hsp.trans (slet_eq ey_89)
              refine lv_if_le (tgt := 143) hx hb dX9_hasTimes_138 (by decide) (fun c_90 => ?_) (fun c_90 => ?_)
              · have hcc_90 := c_90
                replace hsp := hsp.trans (if_pos c_90)
                refine lv_iinc (v := 0) (lv' := [(6, .int 0), (11, .int r_30), (9, .long (0 : Int64)), (7, .long g_26), (0, .ref (ad 0)), (1, .int (nI a0)), (2, .int p1), (3, .int p2), (4, .int p3), (5, .int (nI g_12))]) hx hb dX9_hasTimes_143 hl (k := 9) rfl (by decide) (by decide) rfl (fun ls hl => ?_)
                refine lv_goto (tgt := 15) hx hb dX9_hasTimes_146 (by decide) ?_
                obtain ⟨lf_100, dlf_100, hlf_100, hsp⟩ := itr_ex hsp
                delta sp_EM_hasTimes_L2 at hlf_100
                refine pu_while (fun nn H locs ls => ∃ (g_95 : Int32) (g_96 : Nat) (g_97 : Int64) (g_98 : Int64), nn = 3 - g_96 ∧ g_96 ≤ 3 ∧ S_16 = itrv dlf_100 lf_100 (g_95, g_96, g_97, g_98) ∧ va_P (dC, dI) vwCl (mo_w ad ck x0 (nI x16) (nI x18) (nI x19) x20 (nI x21) (nI x22) x23 x24 x25 (nI x26) x27 (nI x28) (nI x29) (nI x30) (nI x33) x45 (nI x46) (nI x52) (nI x53) (nI x61) (nI x62) (nI x63) (nI x65) x66 f1 f2 f3 (bN 3 q4) (bN 7 q5) (bN 7 q6) (bN 4 q7) f8 (bN 2 q9) (bH q10) f11 (b2 m12_0 m12_1) (b2 m13_0 m13_1) (b2 m14_0 m14_1) (b2m m15_0 m15_1) f17 (bA 159 q31) f32 f34 f35 f36 f37 (bN 7 q38) f39 f40 f41 (b2 m42_0 m42_1) f43 f44 f47 f48 f49 f50 f51 (bN 13 q54) (bN 120 q55) (bN 120 q56) f57 (bN 120 q58) f59 f60 f64) H ∧ va_D (fun _ => True) (mo_w ad ck x0 (nI x16) (nI x18) (nI x19) x20 (nI x21) (nI x22) x23 x24 x25 (nI x26) x27 (nI x28) (nI x29) (nI x30) (nI x33) x45 (nI x46) (nI x52) (nI x53) (nI x61) (nI x62) (nI x63) (nI x65) x66 f1 f2 f3 (bN 3 q4) (bN 7 q5) (bN 7 q6) (bN 4 q7) f8 (bN 2 q9) (bH q10) f11 (b2 m12_0 m12_1) (b2 m13_0 m13_1) (b2 m14_0 m14_1) (b2m m15_0 m15_1) f17 (bA 159 q31) f32 f34 f35 f36 f37 (bN 7 q38) f39 f40 f41 (b2 m42_0 m42_1) f43 f44 f47 f48 f49 f50 f51 (bN 13 q54) (bN 120 q55) (bN 120 q56) f57 (bN 120 q58) f59 f60 f64) ∧ va_S (va_A [] s.heap.size) s.heap H locs ∧ lv_has ls 12 [(0, .ref (ad 0)), (1, .int (nI a0)), (2, .int p1), (3, .int p2), (4, .int p3), (5, .int (nI g_12)), (6, .int (nI g_96)), (7, .long g_97), (9, .long g_98), (11, .int g_95)]) 15 ?_ _ _ _ _ ⟨r_30, 0, g_26, (0 : Int64), rfl, (Nat.le_of_ble_eq_true rfl), hsp, hP, hD, hS, lv_sub hl [4, 5, 6, 7, 8, 9, 0, 3, 2, 1] rfl⟩
                rintro nn ih_99 H locs ls ⟨g_95, g_96, g_97, g_98, rfl, hg_96, he_102, hP, hD, hS, hl⟩
                obtain ⟨S_101, hsp, hin_103, hout_104⟩ := itr_step hlf_100 he_102
                refine lv_iload hx hb dX9_hasTimes_15 (lv_at hl 6 rfl) ?_
                refine lv_aload_n hx hb dX9_hasTimes_17 rfl (lv_at hl 0 rfl) ?_
                refine va_calli (va_runV (As := []) (rest := [.int (nI g_96)]) ⟨hx, hb, hml, hown, hts⟩ (c_EM_clocks l dC dI _ ad ck x0 x16 x18 x19 x20 x21 x22 x23 x24 x25 x26 x27 x28 x29 x30 x33 x45 x46 x52 x53 x61 x62 x63 x65 x66 f1 f2 f3 q4 q5 q6 q7 f8 q9 q10 f11 m12_0 m12_1 m13_0 m13_1 m14_0 m14_1 m15_0 m15_1 f17 q31 f32 f34 f35 f36 f37 q38 f39 f40 f41 m42_0 m42_1 f43 f44 f47 f48 f49 f50 f51 q54 q55 q56 f57 q58 f59 f60 f64 hx16 hx18 hx19 hx21 hx22 hx26 hx28 hx29 hx30 hx33 hx46 hx52 hx53 hx61 hx62 hx63 hx65 hm12_0 hm12_1 hm13_0 hm13_1 hm14_0 hm14_1 hm15_0 hm15_1 hm42_0 hm42_1) (cwV 0 hts g_EM_hasTimes_EM_clocks rfl rfl rfl (by decide +kernel) ⟨Nat.le_of_ble_eq_true rfl, Nat.le_of_ble_eq_true rfl⟩) ⟨pu_bl, va_recv hK hP (ci := 9) (q0 := 0) rfl rfl, pu_in hP hK hD⟩ rfl rfl hl.1 rfl (lv_room (Nat.le_of_ble_eq_true rfl)) dX9_hasTimes_18 ⟨Nat.le_of_ble_eq_true rfl, Nat.le_of_ble_eq_true rfl⟩) hS (fun q _ h => pu_fr hS hA q h) (pu_fr hS hA) (fun r_105 u t H1 locs ht hvm hw hB hz1 hk1 hS => ?_)
                have hP := pu_keep hP hk1
                clear hk1 hz1 ht hvm
                generalize H1 = H at hP hS ⊢
                obtain ⟨u_106, hu_106, rfl, iu_106⟩ := hw
                replace hsp := hsp.trans (slet_eq iu_106)
                refine lv_icmp_ge (tgt := 149) hx hb dX9_hasTimes_21 (by decide) (fun c_107 => ?_) (fun c_107 => ?_)
                · have c_107 : u_106 ≤ g_96 := (nI_leI (a := u_106) (b := g_96) (Nat.lt_of_le_of_lt hu_106 (Nat.le_of_ble_eq_true rfl)) (Nat.lt_of_le_of_lt hg_96 (Nat.le_of_ble_eq_true rfl))).mp c_107
                  replace hsp := hsp.trans (if_pos c_107)
                  replace hsp := hout_104 _ hsp
                  refine lv_iinc (v := (nI (g_12 + 1))) (lv' := [(5, .int (nI (g_12 + 1))), (0, .ref (ad 0)), (1, .int (nI a0)), (2, .int p1), (3, .int p2), (4, .int p3), (6, .int (nI g_96)), (7, .long g_97), (9, .long g_98), (11, .int g_95)]) hx hb dX9_hasTimes_149 hl (k := 5) rfl (nI_1 _) (by decide) rfl (fun ls hl => ?_)
                  refine lv_goto (tgt := 3) hx hb dX9_hasTimes_152 (by decide) ?_
                  exact ih_14 (3 - (g_12 + 1)) (by omega) _ _ _ ⟨(g_12 + 1), (nI g_96), rfl, (by omega), hin_18 _ hsp, hP, hD, hS, lv_sub hl [1, 2, 3, 4, 5, 0, 6] rfl⟩
                · have c_107 : ¬ u_106 ≤ g_96 := fun z => c_107 ((nI_leI (a := u_106) (b := g_96) (Nat.lt_of_le_of_lt hu_106 (Nat.le_of_ble_eq_true rfl)) (Nat.lt_of_le_of_lt hg_96 (Nat.le_of_ble_eq_true rfl))).mpr z)
                  replace hsp := hsp.trans (if_neg c_107)
                  refine lv_iload hx hb dX9_hasTimes_24 (lv_at hl 5 rfl) ?_
                  obtain ⟨JR_110, hJR_110, hsp⟩ := slet_ex hsp
                  refine pu_join (fun H locs ls st => ∃ (g_108 : Int64), st = [.long g_108] ∧ g_108 = JR_110 ∧ va_P (dC, dI) vwCl (mo_w ad ck x0 (nI x16) (nI x18) (nI x19) x20 (nI x21) (nI x22) x23 x24 x25 (nI x26) x27 (nI x28) (nI x29) (nI x30) (nI x33) x45 (nI x46) (nI x52) (nI x53) (nI x61) (nI x62) (nI x63) (nI x65) x66 f1 f2 f3 (bN 3 q4) (bN 7 q5) (bN 7 q6) (bN 4 q7) f8 (bN 2 q9) (bH q10) f11 (b2 m12_0 m12_1) (b2 m13_0 m13_1) (b2 m14_0 m14_1) (b2m m15_0 m15_1) f17 (bA 159 q31) f32 f34 f35 f36 f37 (bN 7 q38) f39 f40 f41 (b2 m42_0 m42_1) f43 f44 f47 f48 f49 f50 f51 (bN 13 q54) (bN 120 q55) (bN 120 q56) f57 (bN 120 q58) f59 f60 f64) H ∧ va_D (fun _ => True) (mo_w ad ck x0 (nI x16) (nI x18) (nI x19) x20 (nI x21) (nI x22) x23 x24 x25 (nI x26) x27 (nI x28) (nI x29) (nI x30) (nI x33) x45 (nI x46) (nI x52) (nI x53) (nI x61) (nI x62) (nI x63) (nI x65) x66 f1 f2 f3 (bN 3 q4) (bN 7 q5) (bN 7 q6) (bN 4 q7) f8 (bN 2 q9) (bH q10) f11 (b2 m12_0 m12_1) (b2 m13_0 m13_1) (b2 m14_0 m14_1) (b2m m15_0 m15_1) f17 (bA 159 q31) f32 f34 f35 f36 f37 (bN 7 q38) f39 f40 f41 (b2 m42_0 m42_1) f43 f44 f47 f48 f49 f50 f51 (bN 13 q54) (bN 120 q55) (bN 120 q56) f57 (bN 120 q58) f59 f60 f64) ∧ va_S (va_A [] s.heap.size) s.heap H locs ∧ lv_has ls 12 [(0, .ref (ad 0)), (1, .int (nI a0)), (2, .int p1), (3, .int p2), (4, .int p3), (5, .int (nI g_12)), (6, .int (nI g_96)), (7, .long g_97), (9, .long g_98), (11, .int g_95)]) 58 ?_ (fun j_109 => ?_)
                  · rintro H locs ls st ⟨g_108, rfl, he_111, hP, hD, hS, hl⟩
                    rw [← he_111] at hsp
                    refine lv_lstore (lv' := [(7, .long g_108), (0, .ref (ad 0)), (1, .int (nI a0)), (2, .int p1), (3, .int p2), (4, .int p3), (5, .int (nI g_12)), (6, .int (nI g_96)), (9, .long g_98), (11, .int g_95)]) hx hb dX9_hasTimes_58 hl (by decide) rfl (fun ls hl => ?_)
                    refine lv_iload hx hb dX9_hasTimes_60 (lv_at hl 7 rfl) ?_
                    obtain ⟨JR_114, hJR_114, hsp⟩ := slet_ex hsp
                    refine pu_join (fun H locs ls st => ∃ (g_112 : Int64), st = [.long g_112] ∧ g_112 = JR_114 ∧ va_P (dC, dI) vwCl (mo_w ad ck x0 (nI x16) (nI x18) (nI x19) x20 (nI x21) (nI x22) x23 x24 x25 (nI x26) x27 (nI x28) (nI x29) (nI x30) (nI x33) x45 (nI x46) (nI x52) (nI x53) (nI x61) (nI x62) (nI x63) (nI x65) x66 f1 f2 f3 (bN 3 q4) (bN 7 q5) (bN 7 q6) (bN 4 q7) f8 (bN 2 q9) (bH q10) f11 (b2 m12_0 m12_1) (b2 m13_0 m13_1) (b2 m14_0 m14_1) (b2m m15_0 m15_1) f17 (bA 159 q31) f32 f34 f35 f36 f37 (bN 7 q38) f39 f40 f41 (b2 m42_0 m42_1) f43 f44 f47 f48 f49 f50 f51 (bN 13 q54) (bN 120 q55) (bN 120 q56) f57 (bN 120 q58) f59 f60 f64) H ∧ va_D (fun _ => True) (mo_w ad ck x0 (nI x16) (nI x18) (nI x19) x20 (nI x21) (nI x22) x23 x24 x25 (nI x26) x27 (nI x28) (nI x29) (nI x30) (nI x33) x45 (nI x46) (nI x52) (nI x53) (nI x61) (nI x62) (nI x63) (nI x65) x66 f1 f2 f3 (bN 3 q4) (bN 7 q5) (bN 7 q6) (bN 4 q7) f8 (bN 2 q9) (bH q10) f11 (b2 m12_0 m12_1) (b2 m13_0 m13_1) (b2 m14_0 m14_1) (b2m m15_0 m15_1) f17 (bA 159 q31) f32 f34 f35 f36 f37 (bN 7 q38) f39 f40 f41 (b2 m42_0 m42_1) f43 f44 f47 f48 f49 f50 f51 (bN 13 q54) (bN 120 q55) (bN 120 q56) f57 (bN 120 q58) f59 f60 f64) ∧ va_S (va_A [] s.heap.size) s.heap H locs ∧ lv_has ls 12 [(0, .ref (ad 0)), (1, .int (nI a0)), (2, .int p1), (3, .int p2), (4, .int p3), (5, .int (nI g_12)), (6, .int (nI g_96)), (7, .long g_108), (9, .long g_98), (11, .int g_95)]) 94 ?_ (fun j_113 => ?_)
                    · rintro H locs ls st ⟨g_112, rfl, he_115, hP, hD, hS, hl⟩
                      rw [← he_115] at hsp
                      refine lv_lstore (lv' := [(9, .long g_112), (0, .ref (ad 0)), (1, .int (nI a0)), (2, .int p1), (3, .int p2), (4, .int p3), (5, .int (nI g_12)), (6, .int (nI g_96)), (7, .long g_108), (11, .int g_95)]) hx hb dX9_hasTimes_94 hl (by decide) rfl (fun ls hl => ?_)
                      refine lv_aload_n hx hb dX9_hasTimes_96 rfl (lv_at hl 1 rfl) ?_
                      refine lv_iload_n hx hb dX9_hasTimes_97 rfl (lv_at hl 2 rfl) ?_
                      refine lv_iload hx hb dX9_hasTimes_98 (lv_at hl 6 rfl) ?_
                      refine lv_iload hx hb dX9_hasTimes_100 (lv_at hl 7 rfl) ?_
                      refine va_calli (va_runV (As := [.int (nI a0), .int (nI g_12), .int (nI g_96)]) (rest := []) ⟨hx, hb, hml, hown, hts⟩ (c_EM_boundOf_11 l dC dI _ ad ck x0 x16 x18 x19 x20 x21 x22 x23 x24 x25 x26 x27 x28 x29 x30 x33 x45 x46 x52 x53 x61 x62 x63 x65 x66 f1 f2 f3 q4 q5 q6 q7 f8 q9 q10 f11 m12_0 m12_1 m13_0 m13_1 m14_0 m14_1 m15_0 m15_1 f17 q31 f32 f34 f35 f36 f37 q38 f39 f40 f41 m42_0 m42_1 f43 f44 f47 f48 f49 f50 f51 q54 q55 q56 f57 q58 f59 f60 f64 a0 g_12 g_96 hx16 hx18 hx19 hx21 hx22 hx26 hx28 hx29 hx30 hx33 hx46 hx52 hx53 hx61 hx62 hx63 hx65 hm12_0 hm12_1 hm13_0 hm13_1 hm14_0 hm14_1 hm15_0 hm15_1 hm42_0 hm42_1 ha0 hg_12 hg_96) (cwV 3 hts g_EM_hasTimes_EM_boundOf_11 rfl rfl rfl (by decide +kernel) ⟨Nat.le_of_ble_eq_true rfl, Nat.le_of_ble_eq_true rfl⟩) ⟨pu_bl, va_recv hK hP (ci := 9) (q0 := 0) rfl rfl, pu_in hP hK hD⟩ rfl rfl hl.1 rfl (lv_room (Nat.le_of_ble_eq_true rfl)) dX9_hasTimes_102 ⟨Nat.le_of_ble_eq_true rfl, Nat.le_of_ble_eq_true rfl⟩) hS (fun q _ h => pu_fr hS hA q h) (pu_fr hS hA) (fun r_116 u t H1 locs ht hvm hw hB hz1 hk1 hS => ?_)
                      have hP := pu_keep hP hk1
                      clear hk1 hz1 ht hvm
                      generalize H1 = H at hP hS ⊢
                      have ir_116 := hw
                      replace hsp := hsp.trans (slet_eq ir_116)
                      refine lv_istore (lv' := [(11, .int r_116), (9, .long g_112), (0, .ref (ad 0)), (1, .int (nI a0)), (2, .int p1), (3, .int p2), (4, .int p3), (5, .int (nI g_12)), (6, .int (nI g_96)), (7, .long g_108)]) hx hb dX9_hasTimes_105 hl (by decide) rfl (fun ls hl => ?_)
                      refine lv_iload hx hb dX9_hasTimes_107 (lv_at hl 0 rfl) ?_
                      refine lv_ldcw hx hb hown v_10 dX9_hasTimes_109 ?_
                      refine lv_icmp_ge (tgt := 143) hx hb dX9_hasTimes_112 (by decide) (fun c_117 => ?_) (fun c_117 => ?_)
                      · have hcc_117 := c_117
                        replace hsp := hsp.trans (if_pos c_117)
                        refine lv_iinc (v := (nI (g_96 + 1))) (lv' := [(6, .int (nI (g_96 + 1))), (11, .int r_116), (9, .long g_112), (0, .ref (ad 0)), (1, .int (nI a0)), (2, .int p1), (3, .int p2), (4, .int p3), (5, .int (nI g_12)), (7, .long g_108)]) hx hb dX9_hasTimes_143 hl (k := 8) rfl (nI_1 _) (by decide) rfl (fun ls hl => ?_)
                        refine lv_goto (tgt := 15) hx hb dX9_hasTimes_146 (by decide) ?_
                        exact ih_99 (3 - (g_96 + 1)) (by omega) _ _ _ ⟨r_116, (g_96 + 1), g_108, g_112, rfl, (by omega), hin_103 _ hsp, hP, hD, hS, lv_sub hl [3, 4, 5, 6, 7, 8, 0, 9, 2, 1] rfl⟩
                      · have hcc_117 := c_117
                        replace hsp := hsp.trans (if_neg c_117)
                        refine lv_lload hx hb dX9_hasTimes_115 (lv_at hl 9 rfl) ?_
                        refine lv_lload hx hb dX9_hasTimes_117 (lv_at hl 1 rfl) ?_
                        refine lv_lsub hx hb dX9_hasTimes_119 ?_
                        refine lv_topl (fun y_118 ey_118 => ?_)
                        replace hsp := hsp.trans (slet_eq ey_118)
                        refine lv_iload hx hb dX9_hasTimes_120 (lv_at hl 0 rfl) ?_
                        refine lv_iconst (v := 1) hx hb dX9_hasTimes_122 (by decide) ?_
                        refine lv_ishr hx hb dX9_hasTimes_123 ?_
                        refine lv_topi (fun y_119 ey_119 => ?_)
                        replace hsp := hsp.trans (slet_eq ey_119)
                        refine lv_i2l (v := y_119.toInt64) hx hb dX9_hasTimes_124 rfl ?_
                        refine lv_topl (fun y_120 ey_120 => ?_)
                        replace hsp := hsp.trans (slet_eq ey_120)
                        refine lv_ldc2 (v := (256)) hx hb hown v_11 dX9_hasTimes_125 ?_
                        refine lv_lmul hx hb dX9_hasTimes_128 ?_
                        refine lv_topl (fun y_121 ey_121 => ?_)
                        replace hsp := hsp.trans (slet_eq ey_121)
                        refine lv_lconst (v := (1 : Int64)) hx hb dX9_hasTimes_129 rfl ?_
                        refine lv_lsub hx hb dX9_hasTimes_130 ?_
                        refine lv_topl (fun y_122 ey_122 => ?_)
                        replace hsp := hsp.trans (slet_eq ey_122)
                        refine lv_iload hx hb dX9_hasTimes_131 (lv_at hl 0 rfl) ?_
                        refine lv_iconst (v := 1) hx hb dX9_hasTimes_133 (by decide) ?_
                        refine lv_iand hx hb dX9_hasTimes_134 ?_
                        refine lv_topi (fun y_123 ey_123 => ?_)
                        replace hsp := hsp.trans (slet_eq ey_123)
                        refine lv_i2l (v := y_123.toInt64) hx hb dX9_hasTimes_135 rfl ?_
                        refine lv_topl (fun y_124 ey_124 => ?_)
                        replace hsp := hsp.trans (slet_eq ey_124)
                        refine lv_ladd hx hb dX9_hasTimes_136 ?_
                        refine lv_topl (fun y_125 ey_125 => ?_)
                        replace hsp := hsp.trans (slet_eq ey_125)
                        refine W.lcmp hx hb dX9_hasTimes_137 ?_
                        refine lv_topi (fun y_126 ey_126 => ?_)
                        replace hsp := hsp.trans (slet_eq ey_126)
                        refine lv_if_le (tgt := 143) hx hb dX9_hasTimes_138 (by decide) (fun c_127 => ?_) (fun c_127 => ?_)
                        · have hcc_127 := c_127
                          replace hsp := hsp.trans (if_pos c_127)
                          refine lv_iinc (v := (nI (g_96 + 1))) (lv' := [(6, .int (nI (g_96 + 1))), (11, .int r_116), (9, .long g_112), (0, .ref (ad 0)), (1, .int (nI a0)), (2, .int p1), (3, .int p2), (4, .int p3), (5, .int (nI g_12)), (7, .long g_108)]) hx hb dX9_hasTimes_143 hl (k := 8) rfl (nI_1 _) (by decide) rfl (fun ls hl => ?_)
                          refine lv_goto (tgt := 15) hx hb dX9_hasTimes_146 (by decide) ?_
                          exact ih_99 (3 - (g_96 + 1)) (by omega) _ _ _ ⟨r_116, (g_96 + 1), g_108, g_112, rfl, (by omega), hin_103 _ hsp, hP, hD, hS, lv_sub hl [3, 4, 5, 6, 7, 8, 0, 9, 2, 1] rfl⟩
                        · have hcc_127 := c_127
                          replace hsp := hsp.trans (if_neg c_127)
                          replace hsp := hout_104 _ hsp
                          replace hsp := hout_19 _ hsp
                          refine lv_iconst (v := 0) hx hb dX9_hasTimes_141 (by decide) ?_
                          exact W.zret (v := 0) (ty := .boolean) hx hb hr (rfl) (fun t ht hW => ⟨⟨0, (), rfl, ⟨0, (Nat.le_of_ble_eq_true rfl), rfl, (hsp.symm.trans hRR)⟩, trivial⟩, hS.F ht⟩) hS.2.2 dX9_hasTimes_142
                    have hsp := hJR_114
                    refine lv_if_ne (tgt := 70) hx hb dX9_hasTimes_62 (by decide) (fun c_128 => ?_) (fun c_128 => ?_)
                    · have c_128 : ¬ g_96 = 0 := fun z => c_128 ((nI_eq (a := g_96) (b := 0) (Nat.lt_of_le_of_lt hg_96 (Nat.le_of_ble_eq_true rfl)) (Nat.le_of_ble_eq_true rfl)).mpr z)
                      replace hsp := hsp.trans (if_neg c_128)
                      refine lv_iload hx hb dX9_hasTimes_70 (lv_at hl 7 rfl) ?_
                      refine lv_iconst (v := 1) hx hb dX9_hasTimes_72 (by decide) ?_
                      refine lv_icmp_ne (tgt := 81) hx hb dX9_hasTimes_73 (by decide) (fun c_129 => ?_) (fun c_129 => ?_)
                      · have c_129 : ¬ g_96 = 1 := fun z => c_129 ((nI_eq (a := g_96) (b := 1) (Nat.lt_of_le_of_lt hg_96 (Nat.le_of_ble_eq_true rfl)) (Nat.le_of_ble_eq_true rfl)).mpr z)
                        replace hsp := hsp.trans (if_neg c_129)
                        refine lv_iload hx hb dX9_hasTimes_81 (lv_at hl 7 rfl) ?_
                        refine lv_iconst (v := 2) hx hb dX9_hasTimes_83 (by decide) ?_
                        refine lv_icmp_ne (tgt := 93) hx hb dX9_hasTimes_84 (by decide) (fun c_130 => ?_) (fun c_130 => ?_)
                        · have c_130 : ¬ g_96 = 2 := fun z => c_130 ((nI_eq (a := g_96) (b := 2) (Nat.lt_of_le_of_lt hg_96 (Nat.le_of_ble_eq_true rfl)) (Nat.le_of_ble_eq_true rfl)).mpr z)
                          exfalso
                          omega
                        · have c_130 : g_96 = 2 := (nI_eq (a := g_96) (b := 2) (Nat.lt_of_le_of_lt hg_96 (Nat.le_of_ble_eq_true rfl)) (Nat.le_of_ble_eq_true rfl)).mp c_130
                          refine lv_iload hx hb dX9_hasTimes_87 (lv_at hl 5 rfl) ?_
                          refine lv_i2l (v := p3.toInt64) hx hb dX9_hasTimes_89 rfl ?_
                          refine lv_topl (fun y_131 ey_131 => ?_)
                          replace hsp := hsp.trans (slet_eq ey_131)
                          refine lv_goto (tgt := 94) hx hb dX9_hasTimes_90 (by decide) ?_
                          exact j_113 _ _ _ _ ⟨y_131, rfl, hsp.symm, hP, hD, hS, lv_sub hl [1, 2, 3, 4, 5, 6, 7, 0, 8, 9] rfl⟩
                      · have c_129 : g_96 = 1 := (nI_eq (a := g_96) (b := 1) (Nat.lt_of_le_of_lt hg_96 (Nat.le_of_ble_eq_true rfl)) (Nat.le_of_ble_eq_true rfl)).mp c_129
                        replace hsp := hsp.trans (if_pos c_129)
                        refine lv_iload_n hx hb dX9_hasTimes_76 rfl (lv_at hl 4 rfl) ?_
                        refine lv_i2l (v := p2.toInt64) hx hb dX9_hasTimes_77 rfl ?_
                        refine lv_topl (fun y_132 ey_132 => ?_)
                        replace hsp := hsp.trans (slet_eq ey_132)
                        refine lv_goto (tgt := 94) hx hb dX9_hasTimes_78 (by decide) ?_
                        exact j_113 _ _ _ _ ⟨y_132, rfl, hsp.symm, hP, hD, hS, lv_sub hl [1, 2, 3, 4, 5, 6, 7, 0, 8, 9] rfl⟩
                    · have c_128 : g_96 = 0 := (nI_eq (a := g_96) (b := 0) (Nat.lt_of_le_of_lt hg_96 (Nat.le_of_ble_eq_true rfl)) (Nat.le_of_ble_eq_true rfl)).mp c_128
                      replace hsp := hsp.trans (if_pos c_128)
                      refine lv_iload_n hx hb dX9_hasTimes_65 rfl (lv_at hl 3 rfl) ?_
                      refine lv_i2l (v := p1.toInt64) hx hb dX9_hasTimes_66 rfl ?_
                      refine lv_topl (fun y_133 ey_133 => ?_)
                      replace hsp := hsp.trans (slet_eq ey_133)
                      refine lv_goto (tgt := 94) hx hb dX9_hasTimes_67 (by decide) ?_
                      exact j_113 _ _ _ _ ⟨y_133, rfl, hsp.symm, hP, hD, hS, lv_sub hl [1, 2, 3, 4, 5, 6, 7, 0, 8, 9] rfl⟩
                  have hsp := hJR_110
                  refine lv_if_ne (tgt := 34) hx hb dX9_hasTimes_26 (by decide) (fun c_134 => ?_) (fun c_134 => ?_)
                  · have c_134 : ¬ g_12 = 0 := fun z => c_134 ((nI_eq (a := g_12) (b := 0) (Nat.lt_of_le_of_lt hg_12 (Nat.le_of_ble_eq_true rfl)) (Nat.le_of_ble_eq_true rfl)).mpr z)
                    replace hsp := hsp.trans (if_neg c_134)
                    refine lv_iload hx hb dX9_hasTimes_34 (lv_at hl 5 rfl) ?_
                    refine lv_iconst (v := 1) hx hb dX9_hasTimes_36 (by decide) ?_
                    refine lv_icmp_ne (tgt := 45) hx hb dX9_hasTimes_37 (by decide) (fun c_135 => ?_) (fun c_135 => ?_)
                    · have c_135 : ¬ g_12 = 1 := fun z => c_135 ((nI_eq (a := g_12) (b := 1) (Nat.lt_of_le_of_lt hg_12 (Nat.le_of_ble_eq_true rfl)) (Nat.le_of_ble_eq_true rfl)).mpr z)
                      replace hsp := hsp.trans (if_neg c_135)
                      refine lv_iload hx hb dX9_hasTimes_45 (lv_at hl 5 rfl) ?_
                      refine lv_iconst (v := 2) hx hb dX9_hasTimes_47 (by decide) ?_
                      refine lv_icmp_ne (tgt := 57) hx hb dX9_hasTimes_48 (by decide) (fun c_136 => ?_) (fun c_136 => ?_)
                      · have c_136 : ¬ g_12 = 2 := fun z => c_136 ((nI_eq (a := g_12) (b := 2) (Nat.lt_of_le_of_lt hg_12 (Nat.le_of_ble_eq_true rfl)) (Nat.le_of_ble_eq_true rfl)).mpr z)
                        exfalso
                        omega
                      · have c_136 : g_12 = 2 := (nI_eq (a := g_12) (b := 2) (Nat.lt_of_le_of_lt hg_12 (Nat.le_of_ble_eq_true rfl)) (Nat.le_of_ble_eq_true rfl)).mp c_136
                        refine lv_iload hx hb dX9_hasTimes_51 (lv_at hl 4 rfl) ?_
                        refine lv_i2l (v := p3.toInt64) hx hb dX9_hasTimes_53 rfl ?_
                        refine lv_topl (fun y_137 ey_137 => ?_)
                        replace hsp := hsp.trans (slet_eq ey_137)
                        refine lv_goto (tgt := 58) hx hb dX9_hasTimes_54 (by decide) ?_
                        exact j_109 _ _ _ _ ⟨y_137, rfl, hsp.symm, hP, hD, hS, lv_sub hl [0, 1, 2, 3, 4, 5, 6, 7, 8, 9] rfl⟩
                    · have c_135 : g_12 = 1 := (nI_eq (a := g_12) (b := 1) (Nat.lt_of_le_of_lt hg_12 (Nat.le_of_ble_eq_true rfl)) (Nat.le_of_ble_eq_true rfl)).mp c_135
                      replace hsp := hsp.trans (if_pos c_135)
                      refine lv_iload_n hx hb dX9_hasTimes_40 rfl (lv_at hl 3 rfl) ?_
                      refine lv_i2l (v := p2.toInt64) hx hb dX9_hasTimes_41 rfl ?_
                      refine lv_topl (fun y_138 ey_138 => ?_)
                      replace hsp := hsp.trans (slet_eq ey_138)
                      refine lv_goto (tgt := 58) hx hb dX9_hasTimes_42 (by decide) ?_
                      exact j_109 _ _ _ _ ⟨y_138, rfl, hsp.symm, hP, hD, hS, lv_sub hl [0, 1, 2, 3, 4, 5, 6, 7, 8, 9] rfl⟩
                  · have c_134 : g_12 = 0 := (nI_eq (a := g_12) (b := 0) (Nat.lt_of_le_of_lt hg_12 (Nat.le_of_ble_eq_true rfl)) (Nat.le_of_ble_eq_true rfl)).mp c_134
                    replace hsp := hsp.trans (if_pos c_134)
                    refine lv_iload_n hx hb dX9_hasTimes_29 rfl (lv_at hl 2 rfl) ?_
                    refine lv_i2l (v := p1.toInt64) hx hb dX9_hasTimes_30 rfl ?_
                    refine lv_topl (fun y_139 ey_139 => ?_)
                    replace hsp := hsp.trans (slet_eq ey_139)
                    refine lv_goto (tgt := 58) hx hb dX9_hasTimes_31 (by decide) ?_
                    exact j_109 _ _ _ _ ⟨y_139, rfl, hsp.symm, hP, hD, hS, lv_sub hl [0, 1, 2, 3, 4, 5, 6, 7, 8, 9] rfl⟩
              · have hcc_90 := c_90
                replace hsp := hsp.trans (if_neg c_90)
                replace hsp := hout_19 _ hsp
                refine lv_iconst (v := 0) hx hb dX9_hasTimes_141 (by decide) ?_
                exact W.zret (v := 0) (ty := .boolean) hx hb hr (rfl) (fun t ht hW => ⟨⟨0, (), rfl, ⟨0, (Nat.le_of_ble_eq_true rfl), rfl, (hsp.symm.trans hRR)⟩, trivial⟩, hS.F ht⟩) hS.2.2 dX9_hasTimes_142
          have hsp := hJR_28
          refine lv_if_ne (tgt := 34) hx hb dX9_hasTimes_26 (by decide) (fun c_140 => ?_) (fun c_140 => ?_)
          · have c_140 : ¬ g_12 = 0 := fun z => c_140 ((nI_eq (a := g_12) (b := 0) (Nat.lt_of_le_of_lt hg_12 (Nat.le_of_ble_eq_true rfl)) (Nat.le_of_ble_eq_true rfl)).mpr z)
            replace hsp := hsp.trans (if_neg c_140)
            refine lv_iload hx hb dX9_hasTimes_34 (lv_at hl 6 rfl) ?_
            refine lv_iconst (v := 1) hx hb dX9_hasTimes_36 (by decide) ?_
            refine lv_icmp_ne (tgt := 45) hx hb dX9_hasTimes_37 (by decide) (fun c_141 => ?_) (fun c_141 => ?_)
            · have c_141 : ¬ g_12 = 1 := fun z => c_141 ((nI_eq (a := g_12) (b := 1) (Nat.lt_of_le_of_lt hg_12 (Nat.le_of_ble_eq_true rfl)) (Nat.le_of_ble_eq_true rfl)).mpr z)
              replace hsp := hsp.trans (if_neg c_141)
              refine lv_iload hx hb dX9_hasTimes_45 (lv_at hl 6 rfl) ?_
              refine lv_iconst (v := 2) hx hb dX9_hasTimes_47 (by decide) ?_
              refine lv_icmp_ne (tgt := 57) hx hb dX9_hasTimes_48 (by decide) (fun c_142 => ?_) (fun c_142 => ?_)
              · have c_142 : ¬ g_12 = 2 := fun z => c_142 ((nI_eq (a := g_12) (b := 2) (Nat.lt_of_le_of_lt hg_12 (Nat.le_of_ble_eq_true rfl)) (Nat.le_of_ble_eq_true rfl)).mpr z)
                exfalso
                omega
              · have c_142 : g_12 = 2 := (nI_eq (a := g_12) (b := 2) (Nat.lt_of_le_of_lt hg_12 (Nat.le_of_ble_eq_true rfl)) (Nat.le_of_ble_eq_true rfl)).mp c_142
                refine lv_iload hx hb dX9_hasTimes_51 (lv_at hl 5 rfl) ?_
                refine lv_i2l (v := p3.toInt64) hx hb dX9_hasTimes_53 rfl ?_
                refine lv_topl (fun y_143 ey_143 => ?_)
                replace hsp := hsp.trans (slet_eq ey_143)
                refine lv_goto (tgt := 58) hx hb dX9_hasTimes_54 (by decide) ?_
                exact j_27 _ _ _ _ ⟨y_143, rfl, hsp.symm, hP, hD, hS, lv_sub hl [1, 2, 3, 4, 5, 6, 0] rfl⟩
            · have c_141 : g_12 = 1 := (nI_eq (a := g_12) (b := 1) (Nat.lt_of_le_of_lt hg_12 (Nat.le_of_ble_eq_true rfl)) (Nat.le_of_ble_eq_true rfl)).mp c_141
              replace hsp := hsp.trans (if_pos c_141)
              refine lv_iload_n hx hb dX9_hasTimes_40 rfl (lv_at hl 4 rfl) ?_
              refine lv_i2l (v := p2.toInt64) hx hb dX9_hasTimes_41 rfl ?_
              refine lv_topl (fun y_144 ey_144 => ?_)
              replace hsp := hsp.trans (slet_eq ey_144)
              refine lv_goto (tgt := 58) hx hb dX9_hasTimes_42 (by decide) ?_
              exact j_27 _ _ _ _ ⟨y_144, rfl, hsp.symm, hP, hD, hS, lv_sub hl [1, 2, 3, 4, 5, 6, 0] rfl⟩
          · have c_140 : g_12 = 0 := (nI_eq (a := g_12) (b := 0) (Nat.lt_of_le_of_lt hg_12 (Nat.le_of_ble_eq_true rfl)) (Nat.le_of_ble_eq_true rfl)).mp c_140
            replace hsp := hsp.trans (if_pos c_140)
            refine lv_iload_n hx hb dX9_hasTimes_29 rfl (lv_at hl 3 rfl) ?_
            refine lv_i2l (v := p1.toInt64) hx hb dX9_hasTimes_30 rfl ?_
            refine lv_topl (fun y_145 ey_145 => ?_)
            replace hsp := hsp.trans (slet_eq ey_145)
            refine lv_goto (tgt := 58) hx hb dX9_hasTimes_31 (by decide) ?_
            exact j_27 _ _ _ _ ⟨y_145, rfl, hsp.symm, hP, hD, hS, lv_sub hl [1, 2, 3, 4, 5, 6, 0] rfl⟩
    · have hcc_6 := c_6
      replace hsp := hsp.trans (if_neg c_6)
      refine lv_iload hx hb dX9_hasTimes_24 (lv_at hl 1 rfl) ?_
      refine lv_if_ne (tgt := 34) hx hb dX9_hasTimes_26 (by decide) (fun _ => ?_) (fun z => absurd z (by decide))
      refine lv_iload hx hb dX9_hasTimes_34 (lv_at hl 1 rfl) ?_
      refine lv_iconst (v := 1) hx hb dX9_hasTimes_36 (by decide) ?_
      refine lv_icmp_ne (tgt := 45) hx hb dX9_hasTimes_37 (by decide) (fun _ => ?_) (fun z => absurd z (by decide))
      refine lv_iload hx hb dX9_hasTimes_45 (lv_at hl 1 rfl) ?_
      refine lv_iconst (v := 2) hx hb dX9_hasTimes_47 (by decide) ?_
      refine lv_icmp_ne (tgt := 57) hx hb dX9_hasTimes_48 (by decide) (fun _ => ?_) (fun z => absurd z (by decide))
      refine lv_lconst (v := (0 : Int64)) hx hb dX9_hasTimes_57 rfl ?_
      refine lv_lstore (lv' := [(7, .long (0 : Int64)), (6, .int (-1)), (5, .int (-1)), (0, .ref (ad 0)), (1, .int (nI a0)), (2, .int p1), (3, .int p2), (4, .int p3)]) hx hb dX9_hasTimes_58 hl (by decide) rfl (fun ls hl => ?_)
      refine lv_iload hx hb dX9_hasTimes_60 (lv_at hl 1 rfl) ?_
      refine lv_if_ne (tgt := 70) hx hb dX9_hasTimes_62 (by decide) (fun _ => ?_) (fun z => absurd z (by decide))
      refine lv_iload hx hb dX9_hasTimes_70 (lv_at hl 1 rfl) ?_
      refine lv_iconst (v := 1) hx hb dX9_hasTimes_72 (by decide) ?_
      refine lv_icmp_ne (tgt := 81) hx hb dX9_hasTimes_73 (by decide) (fun _ => ?_) (fun z => absurd z (by decide))
      refine lv_iload hx hb dX9_hasTimes_81 (lv_at hl 1 rfl) ?_
      refine lv_iconst (v := 2) hx hb dX9_hasTimes_83 (by decide) ?_
      refine lv_icmp_ne (tgt := 93) hx hb dX9_hasTimes_84 (by decide) (fun _ => ?_) (fun z => absurd z (by decide))
      refine lv_lconst (v := (0 : Int64)) hx hb dX9_hasTimes_93 rfl ?_
      refine lv_lstore (lv' := [(9, .long (0 : Int64)), (7, .long (0 : Int64)), (6, .int (-1)), (5, .int (-1)), (0, .ref (ad 0)), (1, .int (nI a0)), (2, .int p1), (3, .int p2), (4, .int p3)]) hx hb dX9_hasTimes_94 hl (by decide) rfl (fun ls hl => ?_)
      refine lv_aload_n hx hb dX9_hasTimes_96 rfl (lv_at hl 4 rfl) ?_
      refine lv_iload_n hx hb dX9_hasTimes_97 rfl (lv_at hl 5 rfl) ?_
      refine lv_iload hx hb dX9_hasTimes_98 (lv_at hl 3 rfl) ?_
      refine lv_iload hx hb dX9_hasTimes_100 (lv_at hl 2 rfl) ?_
      refine va_calli (va_runV (As := [.int (nI a0), .int (-1), .int (-1)]) (rest := []) ⟨hx, hb, hml, hown, hts⟩ (c_EM_boundOf_00 l dC dI _ ad ck x0 x16 x18 x19 x20 x21 x22 x23 x24 x25 x26 x27 x28 x29 x30 x33 x45 x46 x52 x53 x61 x62 x63 x65 x66 f1 f2 f3 q4 q5 q6 q7 f8 q9 q10 f11 m12_0 m12_1 m13_0 m13_1 m14_0 m14_1 m15_0 m15_1 f17 q31 f32 f34 f35 f36 f37 q38 f39 f40 f41 m42_0 m42_1 f43 f44 f47 f48 f49 f50 f51 q54 q55 q56 f57 q58 f59 f60 f64 a0 hx16 hx18 hx19 hx21 hx22 hx26 hx28 hx29 hx30 hx33 hx46 hx52 hx53 hx61 hx62 hx63 hx65 hm12_0 hm12_1 hm13_0 hm13_1 hm14_0 hm14_1 hm15_0 hm15_1 hm42_0 hm42_1 ha0) (cwV 3 hts g_EM_hasTimes_EM_boundOf_00 rfl rfl rfl (by decide +kernel) ⟨Nat.le_of_ble_eq_true rfl, Nat.le_of_ble_eq_true rfl⟩) ⟨pu_bl, va_recv hK hP (ci := 9) (q0 := 0) rfl rfl, pu_in hP hK hD⟩ rfl rfl hl.1 rfl (lv_room (Nat.le_of_ble_eq_true rfl)) dX9_hasTimes_102 ⟨Nat.le_of_ble_eq_true rfl, Nat.le_of_ble_eq_true rfl⟩) hS (fun q _ h => pu_fr hS hA q h) (pu_fr hS hA) (fun r_146 u t H1 locs ht hvm hw hB hz1 hk1 hS => ?_)
      have hP := pu_keep hP hk1
      clear hk1 hz1 ht hvm
      generalize H1 = H at hP hS ⊢
      have ir_146 := hw
      replace hsp := hsp.trans (slet_eq ir_146)
      refine lv_istore (lv' := [(11, .int r_146), (9, .long (0 : Int64)), (7, .long (0 : Int64)), (6, .int (-1)), (5, .int (-1)), (0, .ref (ad 0)), (1, .int (nI a0)), (2, .int p1), (3, .int p2), (4, .int p3)]) hx hb dX9_hasTimes_105 hl (by decide) rfl (fun ls hl => ?_)
      refine lv_iload hx hb dX9_hasTimes_107 (lv_at hl 0 rfl) ?_
      refine lv_ldcw hx hb hown v_10 dX9_hasTimes_109 ?_
      refine lv_icmp_ge (tgt := 143) hx hb dX9_hasTimes_112 (by decide) (fun c_147 => ?_) (fun c_147 => ?_)
      · have hcc_147 := c_147
        replace hsp := hsp.trans (if_pos c_147)
        refine lv_iinc (v := 0) (lv' := [(6, .int 0), (11, .int r_146), (9, .long (0 : Int64)), (7, .long (0 : Int64)), (5, .int (-1)), (0, .ref (ad 0)), (1, .int (nI a0)), (2, .int p1), (3, .int p2), (4, .int p3)]) hx hb dX9_hasTimes_143 hl (k := 3) rfl (by decide) (by decide) rfl (fun ls hl => ?_)
        refine lv_goto (tgt := 15) hx hb dX9_hasTimes_146 (by decide) ?_
        obtain ⟨lf_157, dlf_157, hlf_157, hsp⟩ := itr_ex hsp
        delta sp_EM_hasTimes_L7 at hlf_157
        refine pu_while (fun nn H locs ls => ∃ (g_152 : Int32) (g_153 : Nat) (g_154 : Int64) (g_155 : Int64), nn = 3 - g_153 ∧ g_153 ≤ 3 ∧ RR = itrv dlf_157 lf_157 (g_152, g_153, g_154, g_155) ∧ va_P (dC, dI) vwCl (mo_w ad ck x0 (nI x16) (nI x18) (nI x19) x20 (nI x21) (nI x22) x23 x24 x25 (nI x26) x27 (nI x28) (nI x29) (nI x30) (nI x33) x45 (nI x46) (nI x52) (nI x53) (nI x61) (nI x62) (nI x63) (nI x65) x66 f1 f2 f3 (bN 3 q4) (bN 7 q5) (bN 7 q6) (bN 4 q7) f8 (bN 2 q9) (bH q10) f11 (b2 m12_0 m12_1) (b2 m13_0 m13_1) (b2 m14_0 m14_1) (b2m m15_0 m15_1) f17 (bA 159 q31) f32 f34 f35 f36 f37 (bN 7 q38) f39 f40 f41 (b2 m42_0 m42_1) f43 f44 f47 f48 f49 f50 f51 (bN 13 q54) (bN 120 q55) (bN 120 q56) f57 (bN 120 q58) f59 f60 f64) H ∧ va_D (fun _ => True) (mo_w ad ck x0 (nI x16) (nI x18) (nI x19) x20 (nI x21) (nI x22) x23 x24 x25 (nI x26) x27 (nI x28) (nI x29) (nI x30) (nI x33) x45 (nI x46) (nI x52) (nI x53) (nI x61) (nI x62) (nI x63) (nI x65) x66 f1 f2 f3 (bN 3 q4) (bN 7 q5) (bN 7 q6) (bN 4 q7) f8 (bN 2 q9) (bH q10) f11 (b2 m12_0 m12_1) (b2 m13_0 m13_1) (b2 m14_0 m14_1) (b2m m15_0 m15_1) f17 (bA 159 q31) f32 f34 f35 f36 f37 (bN 7 q38) f39 f40 f41 (b2 m42_0 m42_1) f43 f44 f47 f48 f49 f50 f51 (bN 13 q54) (bN 120 q55) (bN 120 q56) f57 (bN 120 q58) f59 f60 f64) ∧ va_S (va_A [] s.heap.size) s.heap H locs ∧ lv_has ls 12 [(0, .ref (ad 0)), (1, .int (nI a0)), (2, .int p1), (3, .int p2), (4, .int p3), (5, .int (-1)), (6, .int (nI g_153)), (7, .long g_154), (9, .long g_155), (11, .int g_152)]) 15 ?_ _ _ _ _ ⟨r_146, 0, (0 : Int64), (0 : Int64), rfl, (Nat.le_of_ble_eq_true rfl), hsp, hP, hD, hS, lv_sub hl [5, 6, 7, 8, 9, 4, 0, 3, 2, 1] rfl⟩
        rintro nn ih_156 H locs ls ⟨g_152, g_153, g_154, g_155, rfl, hg_153, he_159, hP, hD, hS, hl⟩
        obtain ⟨S_158, hsp, hin_160, hout_161⟩ := itr_step hlf_157 he_159
        refine lv_iload hx hb dX9_hasTimes_15 (lv_at hl 6 rfl) ?_
        refine lv_aload_n hx hb dX9_hasTimes_17 rfl (lv_at hl 0 rfl) ?_
        refine va_calli (va_runV (As := []) (rest := [.int (nI g_153)]) ⟨hx, hb, hml, hown, hts⟩ (c_EM_clocks l dC dI _ ad ck x0 x16 x18 x19 x20 x21 x22 x23 x24 x25 x26 x27 x28 x29 x30 x33 x45 x46 x52 x53 x61 x62 x63 x65 x66 f1 f2 f3 q4 q5 q6 q7 f8 q9 q10 f11 m12_0 m12_1 m13_0 m13_1 m14_0 m14_1 m15_0 m15_1 f17 q31 f32 f34 f35 f36 f37 q38 f39 f40 f41 m42_0 m42_1 f43 f44 f47 f48 f49 f50 f51 q54 q55 q56 f57 q58 f59 f60 f64 hx16 hx18 hx19 hx21 hx22 hx26 hx28 hx29 hx30 hx33 hx46 hx52 hx53 hx61 hx62 hx63 hx65 hm12_0 hm12_1 hm13_0 hm13_1 hm14_0 hm14_1 hm15_0 hm15_1 hm42_0 hm42_1) (cwV 0 hts g_EM_hasTimes_EM_clocks rfl rfl rfl (by decide +kernel) ⟨Nat.le_of_ble_eq_true rfl, Nat.le_of_ble_eq_true rfl⟩) ⟨pu_bl, va_recv hK hP (ci := 9) (q0 := 0) rfl rfl, pu_in hP hK hD⟩ rfl rfl hl.1 rfl (lv_room (Nat.le_of_ble_eq_true rfl)) dX9_hasTimes_18 ⟨Nat.le_of_ble_eq_true rfl, Nat.le_of_ble_eq_true rfl⟩) hS (fun q _ h => pu_fr hS hA q h) (pu_fr hS hA) (fun r_162 u t H1 locs ht hvm hw hB hz1 hk1 hS => ?_)
        have hP := pu_keep hP hk1
        clear hk1 hz1 ht hvm
        generalize H1 = H at hP hS ⊢
        obtain ⟨u_163, hu_163, rfl, iu_163⟩ := hw
        replace hsp := hsp.trans (slet_eq iu_163)
        refine lv_icmp_ge (tgt := 149) hx hb dX9_hasTimes_21 (by decide) (fun c_164 => ?_) (fun c_164 => ?_)
        · have c_164 : u_163 ≤ g_153 := (nI_leI (a := u_163) (b := g_153) (Nat.lt_of_le_of_lt hu_163 (Nat.le_of_ble_eq_true rfl)) (Nat.lt_of_le_of_lt hg_153 (Nat.le_of_ble_eq_true rfl))).mp c_164
          replace hsp := hsp.trans (if_pos c_164)
          replace hsp := hout_161 _ hsp
          refine lv_iinc (v := 0) (lv' := [(5, .int 0), (0, .ref (ad 0)), (1, .int (nI a0)), (2, .int p1), (3, .int p2), (4, .int p3), (6, .int (nI g_153)), (7, .long g_154), (9, .long g_155), (11, .int g_152)]) hx hb dX9_hasTimes_149 hl (k := 5) rfl (by decide) (by decide) rfl (fun ls hl => ?_)
          refine lv_goto (tgt := 3) hx hb dX9_hasTimes_152 (by decide) ?_
          obtain ⟨lf_176, dlf_176, hlf_176, hsp⟩ := itr_ex hsp
          delta sp_EM_hasTimes_L6 at hlf_176
          refine pu_while (fun nn H locs ls => ∃ (g_170 : Int32) (g_171 : Nat) (g_172 : Int32) (g_173 : Int64) (g_174 : Int64), nn = 3 - g_171 ∧ g_171 ≤ 3 ∧ RR = itrv dlf_176 lf_176 (g_170, g_171, g_172, g_173, g_174) ∧ va_P (dC, dI) vwCl (mo_w ad ck x0 (nI x16) (nI x18) (nI x19) x20 (nI x21) (nI x22) x23 x24 x25 (nI x26) x27 (nI x28) (nI x29) (nI x30) (nI x33) x45 (nI x46) (nI x52) (nI x53) (nI x61) (nI x62) (nI x63) (nI x65) x66 f1 f2 f3 (bN 3 q4) (bN 7 q5) (bN 7 q6) (bN 4 q7) f8 (bN 2 q9) (bH q10) f11 (b2 m12_0 m12_1) (b2 m13_0 m13_1) (b2 m14_0 m14_1) (b2m m15_0 m15_1) f17 (bA 159 q31) f32 f34 f35 f36 f37 (bN 7 q38) f39 f40 f41 (b2 m42_0 m42_1) f43 f44 f47 f48 f49 f50 f51 (bN 13 q54) (bN 120 q55) (bN 120 q56) f57 (bN 120 q58) f59 f60 f64) H ∧ va_D (fun _ => True) (mo_w ad ck x0 (nI x16) (nI x18) (nI x19) x20 (nI x21) (nI x22) x23 x24 x25 (nI x26) x27 (nI x28) (nI x29) (nI x30) (nI x33) x45 (nI x46) (nI x52) (nI x53) (nI x61) (nI x62) (nI x63) (nI x65) x66 f1 f2 f3 (bN 3 q4) (bN 7 q5) (bN 7 q6) (bN 4 q7) f8 (bN 2 q9) (bH q10) f11 (b2 m12_0 m12_1) (b2 m13_0 m13_1) (b2 m14_0 m14_1) (b2m m15_0 m15_1) f17 (bA 159 q31) f32 f34 f35 f36 f37 (bN 7 q38) f39 f40 f41 (b2 m42_0 m42_1) f43 f44 f47 f48 f49 f50 f51 (bN 13 q54) (bN 120 q55) (bN 120 q56) f57 (bN 120 q58) f59 f60 f64) ∧ va_S (va_A [] s.heap.size) s.heap H locs ∧ lv_has ls 12 [(0, .ref (ad 0)), (1, .int (nI a0)), (2, .int p1), (3, .int p2), (4, .int p3), (5, .int (nI g_171)), (6, .int g_172), (7, .long g_173), (9, .long g_174), (11, .int g_170)]) 3 ?_ _ _ _ _ ⟨g_152, 0, (nI g_153), g_154, g_155, rfl, (Nat.le_of_ble_eq_true rfl), hsp, hP, hD, hS, lv_sub hl [1, 2, 3, 4, 5, 0, 6, 7, 8, 9] rfl⟩
          rintro nn ih_175 H locs ls ⟨g_170, g_171, g_172, g_173, g_174, rfl, hg_171, he_178, hP, hD, hS, hl⟩
          obtain ⟨S_177, hsp, hin_179, hout_180⟩ := itr_step hlf_176 he_178
          refine lv_iload hx hb dX9_hasTimes_3 (lv_at hl 5 rfl) ?_
          refine lv_aload_n hx hb dX9_hasTimes_5 rfl (lv_at hl 0 rfl) ?_
          refine va_calli (va_runV (As := []) (rest := [.int (nI g_171)]) ⟨hx, hb, hml, hown, hts⟩ (c_EM_clocks l dC dI _ ad ck x0 x16 x18 x19 x20 x21 x22 x23 x24 x25 x26 x27 x28 x29 x30 x33 x45 x46 x52 x53 x61 x62 x63 x65 x66 f1 f2 f3 q4 q5 q6 q7 f8 q9 q10 f11 m12_0 m12_1 m13_0 m13_1 m14_0 m14_1 m15_0 m15_1 f17 q31 f32 f34 f35 f36 f37 q38 f39 f40 f41 m42_0 m42_1 f43 f44 f47 f48 f49 f50 f51 q54 q55 q56 f57 q58 f59 f60 f64 hx16 hx18 hx19 hx21 hx22 hx26 hx28 hx29 hx30 hx33 hx46 hx52 hx53 hx61 hx62 hx63 hx65 hm12_0 hm12_1 hm13_0 hm13_1 hm14_0 hm14_1 hm15_0 hm15_1 hm42_0 hm42_1) (cwV 0 hts g_EM_hasTimes_EM_clocks rfl rfl rfl (by decide +kernel) ⟨Nat.le_of_ble_eq_true rfl, Nat.le_of_ble_eq_true rfl⟩) ⟨pu_bl, va_recv hK hP (ci := 9) (q0 := 0) rfl rfl, pu_in hP hK hD⟩ rfl rfl hl.1 rfl (lv_room (Nat.le_of_ble_eq_true rfl)) dX9_hasTimes_6 ⟨Nat.le_of_ble_eq_true rfl, Nat.le_of_ble_eq_true rfl⟩) hS (fun q _ h => pu_fr hS hA q h) (pu_fr hS hA) (fun r_181 u t H1 locs ht hvm hw hB hz1 hk1 hS => ?_)
          have hP := pu_keep hP hk1
          clear hk1 hz1 ht hvm
          generalize H1 = H at hP hS ⊢
          obtain ⟨u_182, hu_182, rfl, iu_182⟩ := hw
          replace hsp := hsp.trans (slet_eq iu_182)
          refine lv_icmp_ge (tgt := 155) hx hb dX9_hasTimes_9 (by decide) (fun c_183 => ?_) (fun c_183 => ?_)
          · have c_183 : u_182 ≤ g_171 := (nI_leI (a := u_182) (b := g_171) (Nat.lt_of_le_of_lt hu_182 (Nat.le_of_ble_eq_true rfl)) (Nat.lt_of_le_of_lt hg_171 (Nat.le_of_ble_eq_true rfl))).mp c_183
            replace hsp := hsp.trans (if_pos c_183)
            replace hsp := hout_180 _ hsp
            refine lv_iconst (v := 1) hx hb dX9_hasTimes_155 (by decide) ?_
            exact W.zret (v := 1) (ty := .boolean) hx hb hr (rfl) (fun t ht hW => ⟨⟨1, (), rfl, ⟨1, (Nat.le_of_ble_eq_true rfl), rfl, (hsp.symm.trans hRR)⟩, trivial⟩, hS.F ht⟩) hS.2.2 dX9_hasTimes_156
          · have c_183 : ¬ u_182 ≤ g_171 := fun z => c_183 ((nI_leI (a := u_182) (b := g_171) (Nat.lt_of_le_of_lt hu_182 (Nat.le_of_ble_eq_true rfl)) (Nat.lt_of_le_of_lt hg_171 (Nat.le_of_ble_eq_true rfl))).mpr z)
            replace hsp := hsp.trans (if_neg c_183)
            refine lv_iconst (v := (-1)) hx hb dX9_hasTimes_12 (by decide) ?_
            refine lv_istore (lv' := [(6, .int (-1)), (0, .ref (ad 0)), (1, .int (nI a0)), (2, .int p1), (3, .int p2), (4, .int p3), (5, .int (nI g_171)), (7, .long g_173), (9, .long g_174), (11, .int g_170)]) hx hb dX9_hasTimes_13 hl (by decide) rfl (fun ls hl => ?_)
            refine lv_iload hx hb dX9_hasTimes_15 (lv_at hl 0 rfl) ?_
            refine lv_aload_n hx hb dX9_hasTimes_17 rfl (lv_at hl 1 rfl) ?_
            refine va_calli (va_runV (As := []) (rest := [.int (-1)]) ⟨hx, hb, hml, hown, hts⟩ (c_EM_clocks l dC dI _ ad ck x0 x16 x18 x19 x20 x21 x22 x23 x24 x25 x26 x27 x28 x29 x30 x33 x45 x46 x52 x53 x61 x62 x63 x65 x66 f1 f2 f3 q4 q5 q6 q7 f8 q9 q10 f11 m12_0 m12_1 m13_0 m13_1 m14_0 m14_1 m15_0 m15_1 f17 q31 f32 f34 f35 f36 f37 q38 f39 f40 f41 m42_0 m42_1 f43 f44 f47 f48 f49 f50 f51 q54 q55 q56 f57 q58 f59 f60 f64 hx16 hx18 hx19 hx21 hx22 hx26 hx28 hx29 hx30 hx33 hx46 hx52 hx53 hx61 hx62 hx63 hx65 hm12_0 hm12_1 hm13_0 hm13_1 hm14_0 hm14_1 hm15_0 hm15_1 hm42_0 hm42_1) (cwV 0 hts g_EM_hasTimes_EM_clocks rfl rfl rfl (by decide +kernel) ⟨Nat.le_of_ble_eq_true rfl, Nat.le_of_ble_eq_true rfl⟩) ⟨pu_bl, va_recv hK hP (ci := 9) (q0 := 0) rfl rfl, pu_in hP hK hD⟩ rfl rfl hl.1 rfl (lv_room (Nat.le_of_ble_eq_true rfl)) dX9_hasTimes_18 ⟨Nat.le_of_ble_eq_true rfl, Nat.le_of_ble_eq_true rfl⟩) hS (fun q _ h => pu_fr hS hA q h) (pu_fr hS hA) (fun r_184 u t H1 locs ht hvm hw hB hz1 hk1 hS => ?_)
            have hP := pu_keep hP hk1
            clear hk1 hz1 ht hvm
            generalize H1 = H at hP hS ⊢
            obtain ⟨u_185, hu_185, rfl, iu_185⟩ := hw
            replace hsp := hsp.trans (slet_eq iu_185)
            refine lv_icmp_ge (tgt := 149) hx hb dX9_hasTimes_21 (by decide) (fun c_186 => ?_) (fun c_186 => ?_)
            · have hcc_186 := c_186
              replace hsp := hsp.trans (if_pos c_186)
              refine lv_iinc (v := (nI (g_171 + 1))) (lv' := [(5, .int (nI (g_171 + 1))), (6, .int (-1)), (0, .ref (ad 0)), (1, .int (nI a0)), (2, .int p1), (3, .int p2), (4, .int p3), (7, .long g_173), (9, .long g_174), (11, .int g_170)]) hx hb dX9_hasTimes_149 hl (k := 6) rfl (nI_1 _) (by decide) rfl (fun ls hl => ?_)
              refine lv_goto (tgt := 3) hx hb dX9_hasTimes_152 (by decide) ?_
              exact ih_175 (3 - (g_171 + 1)) (by omega) _ _ _ ⟨g_170, (g_171 + 1), (-1), g_173, g_174, rfl, (by omega), hin_179 _ hsp, hP, hD, hS, lv_sub hl [2, 3, 4, 5, 6, 0, 1, 7, 8, 9] rfl⟩
            · have hcc_186 := c_186
              replace hsp := hsp.trans (if_neg c_186)
              refine lv_iload hx hb dX9_hasTimes_24 (lv_at hl 6 rfl) ?_
              obtain ⟨JR_189, hJR_189, hsp⟩ := slet_ex hsp
              refine pu_join (fun H locs ls st => ∃ (g_187 : Int64), st = [.long g_187] ∧ g_187 = JR_189 ∧ va_P (dC, dI) vwCl (mo_w ad ck x0 (nI x16) (nI x18) (nI x19) x20 (nI x21) (nI x22) x23 x24 x25 (nI x26) x27 (nI x28) (nI x29) (nI x30) (nI x33) x45 (nI x46) (nI x52) (nI x53) (nI x61) (nI x62) (nI x63) (nI x65) x66 f1 f2 f3 (bN 3 q4) (bN 7 q5) (bN 7 q6) (bN 4 q7) f8 (bN 2 q9) (bH q10) f11 (b2 m12_0 m12_1) (b2 m13_0 m13_1) (b2 m14_0 m14_1) (b2m m15_0 m15_1) f17 (bA 159 q31) f32 f34 f35 f36 f37 (bN 7 q38) f39 f40 f41 (b2 m42_0 m42_1) f43 f44 f47 f48 f49 f50 f51 (bN 13 q54) (bN 120 q55) (bN 120 q56) f57 (bN 120 q58) f59 f60 f64) H ∧ va_D (fun _ => True) (mo_w ad ck x0 (nI x16) (nI x18) (nI x19) x20 (nI x21) (nI x22) x23 x24 x25 (nI x26) x27 (nI x28) (nI x29) (nI x30) (nI x33) x45 (nI x46) (nI x52) (nI x53) (nI x61) (nI x62) (nI x63) (nI x65) x66 f1 f2 f3 (bN 3 q4) (bN 7 q5) (bN 7 q6) (bN 4 q7) f8 (bN 2 q9) (bH q10) f11 (b2 m12_0 m12_1) (b2 m13_0 m13_1) (b2 m14_0 m14_1) (b2m m15_0 m15_1) f17 (bA 159 q31) f32 f34 f35 f36 f37 (bN 7 q38) f39 f40 f41 (b2 m42_0 m42_1) f43 f44 f47 f48 f49 f50 f51 (bN 13 q54) (bN 120 q55) (bN 120 q56) f57 (bN 120 q58) f59 f60 f64) ∧ va_S (va_A [] s.heap.size) s.heap H locs ∧ lv_has ls 12 [(0, .ref (ad 0)), (1, .int (nI a0)), (2, .int p1), (3, .int p2), (4, .int p3), (5, .int (nI g_171)), (6, .int (-1)), (7, .long g_173), (9, .long g_174), (11, .int g_170)]) 58 ?_ (fun j_188 => ?_)
              · rintro H locs ls st ⟨g_187, rfl, he_190, hP, hD, hS, hl⟩
                rw [← he_190] at hsp
                refine lv_lstore (lv' := [(7, .long g_187), (0, .ref (ad 0)), (1, .int (nI a0)), (2, .int p1), (3, .int p2), (4, .int p3), (5, .int (nI g_171)), (6, .int (-1)), (9, .long g_174), (11, .int g_170)]) hx hb dX9_hasTimes_58 hl (by decide) rfl (fun ls hl => ?_)
                refine lv_iload hx hb dX9_hasTimes_60 (lv_at hl 7 rfl) ?_
                refine lv_if_ne (tgt := 70) hx hb dX9_hasTimes_62 (by decide) (fun _ => ?_) (fun z => absurd z (by decide))
                refine lv_iload hx hb dX9_hasTimes_70 (lv_at hl 7 rfl) ?_
                refine lv_iconst (v := 1) hx hb dX9_hasTimes_72 (by decide) ?_
                refine lv_icmp_ne (tgt := 81) hx hb dX9_hasTimes_73 (by decide) (fun _ => ?_) (fun z => absurd z (by decide))
                refine lv_iload hx hb dX9_hasTimes_81 (lv_at hl 7 rfl) ?_
                refine lv_iconst (v := 2) hx hb dX9_hasTimes_83 (by decide) ?_
                refine lv_icmp_ne (tgt := 93) hx hb dX9_hasTimes_84 (by decide) (fun _ => ?_) (fun z => absurd z (by decide))
                refine lv_lconst (v := (0 : Int64)) hx hb dX9_hasTimes_93 rfl ?_
                refine lv_lstore (lv' := [(9, .long (0 : Int64)), (7, .long g_187), (0, .ref (ad 0)), (1, .int (nI a0)), (2, .int p1), (3, .int p2), (4, .int p3), (5, .int (nI g_171)), (6, .int (-1)), (11, .int g_170)]) hx hb dX9_hasTimes_94 hl (by decide) rfl (fun ls hl => ?_)
                refine lv_aload_n hx hb dX9_hasTimes_96 rfl (lv_at hl 2 rfl) ?_
                refine lv_iload_n hx hb dX9_hasTimes_97 rfl (lv_at hl 3 rfl) ?_
                refine lv_iload hx hb dX9_hasTimes_98 (lv_at hl 7 rfl) ?_
                refine lv_iload hx hb dX9_hasTimes_100 (lv_at hl 8 rfl) ?_
                refine va_calli (va_runV (As := [.int (nI a0), .int (nI g_171), .int (-1)]) (rest := []) ⟨hx, hb, hml, hown, hts⟩ (c_EM_boundOf_10 l dC dI _ ad ck x0 x16 x18 x19 x20 x21 x22 x23 x24 x25 x26 x27 x28 x29 x30 x33 x45 x46 x52 x53 x61 x62 x63 x65 x66 f1 f2 f3 q4 q5 q6 q7 f8 q9 q10 f11 m12_0 m12_1 m13_0 m13_1 m14_0 m14_1 m15_0 m15_1 f17 q31 f32 f34 f35 f36 f37 q38 f39 f40 f41 m42_0 m42_1 f43 f44 f47 f48 f49 f50 f51 q54 q55 q56 f57 q58 f59 f60 f64 a0 g_171 hx16 hx18 hx19 hx21 hx22 hx26 hx28 hx29 hx30 hx33 hx46 hx52 hx53 hx61 hx62 hx63 hx65 hm12_0 hm12_1 hm13_0 hm13_1 hm14_0 hm14_1 hm15_0 hm15_1 hm42_0 hm42_1 ha0 hg_171) (cwV 3 hts g_EM_hasTimes_EM_boundOf_10 rfl rfl rfl (by decide +kernel) ⟨Nat.le_of_ble_eq_true rfl, Nat.le_of_ble_eq_true rfl⟩) ⟨pu_bl, va_recv hK hP (ci := 9) (q0 := 0) rfl rfl, pu_in hP hK hD⟩ rfl rfl hl.1 rfl (lv_room (Nat.le_of_ble_eq_true rfl)) dX9_hasTimes_102 ⟨Nat.le_of_ble_eq_true rfl, Nat.le_of_ble_eq_true rfl⟩) hS (fun q _ h => pu_fr hS hA q h) (pu_fr hS hA) (fun r_191 u t H1 locs ht hvm hw hB hz1 hk1 hS => ?_)
                have hP := pu_keep hP hk1
                clear hk1 hz1 ht hvm
                generalize H1 = H at hP hS ⊢
                have ir_191 := hw
                replace hsp := hsp.trans (slet_eq ir_191)
                refine lv_istore (lv' := [(11, .int r_191), (9, .long (0 : Int64)), (7, .long g_187), (0, .ref (ad 0)), (1, .int (nI a0)), (2, .int p1), (3, .int p2), (4, .int p3), (5, .int (nI g_171)), (6, .int (-1))]) hx hb dX9_hasTimes_105 hl (by decide) rfl (fun ls hl => ?_)
                refine lv_iload hx hb dX9_hasTimes_107 (lv_at hl 0 rfl) ?_
                refine lv_ldcw hx hb hown v_10 dX9_hasTimes_109 ?_
                refine lv_icmp_ge (tgt := 143) hx hb dX9_hasTimes_112 (by decide) (fun c_192 => ?_) (fun c_192 => ?_)
                · have hcc_192 := c_192
                  replace hsp := hsp.trans (if_pos c_192)
                  refine lv_iinc (v := 0) (lv' := [(6, .int 0), (11, .int r_191), (9, .long (0 : Int64)), (7, .long g_187), (0, .ref (ad 0)), (1, .int (nI a0)), (2, .int p1), (3, .int p2), (4, .int p3), (5, .int (nI g_171))]) hx hb dX9_hasTimes_143 hl (k := 9) rfl (by decide) (by decide) rfl (fun ls hl => ?_)
                  refine lv_goto (tgt := 15) hx hb dX9_hasTimes_146 (by decide) ?_
                  obtain ⟨lf_202, dlf_202, hlf_202, hsp⟩ := itr_ex hsp
                  delta sp_EM_hasTimes_L4 at hlf_202
                  refine pu_while (fun nn H locs ls => ∃ (g_197 : Int32) (g_198 : Nat) (g_199 : Int64) (g_200 : Int64), nn = 3 - g_198 ∧ g_198 ≤ 3 ∧ S_177 = itrv dlf_202 lf_202 (g_197, g_198, g_199, g_200) ∧ va_P (dC, dI) vwCl (mo_w ad ck x0 (nI x16) (nI x18) (nI x19) x20 (nI x21) (nI x22) x23 x24 x25 (nI x26) x27 (nI x28) (nI x29) (nI x30) (nI x33) x45 (nI x46) (nI x52) (nI x53) (nI x61) (nI x62) (nI x63) (nI x65) x66 f1 f2 f3 (bN 3 q4) (bN 7 q5) (bN 7 q6) (bN 4 q7) f8 (bN 2 q9) (bH q10) f11 (b2 m12_0 m12_1) (b2 m13_0 m13_1) (b2 m14_0 m14_1) (b2m m15_0 m15_1) f17 (bA 159 q31) f32 f34 f35 f36 f37 (bN 7 q38) f39 f40 f41 (b2 m42_0 m42_1) f43 f44 f47 f48 f49 f50 f51 (bN 13 q54) (bN 120 q55) (bN 120 q56) f57 (bN 120 q58) f59 f60 f64) H ∧ va_D (fun _ => True) (mo_w ad ck x0 (nI x16) (nI x18) (nI x19) x20 (nI x21) (nI x22) x23 x24 x25 (nI x26) x27 (nI x28) (nI x29) (nI x30) (nI x33) x45 (nI x46) (nI x52) (nI x53) (nI x61) (nI x62) (nI x63) (nI x65) x66 f1 f2 f3 (bN 3 q4) (bN 7 q5) (bN 7 q6) (bN 4 q7) f8 (bN 2 q9) (bH q10) f11 (b2 m12_0 m12_1) (b2 m13_0 m13_1) (b2 m14_0 m14_1) (b2m m15_0 m15_1) f17 (bA 159 q31) f32 f34 f35 f36 f37 (bN 7 q38) f39 f40 f41 (b2 m42_0 m42_1) f43 f44 f47 f48 f49 f50 f51 (bN 13 q54) (bN 120 q55) (bN 120 q56) f57 (bN 120 q58) f59 f60 f64) ∧ va_S (va_A [] s.heap.size) s.heap H locs ∧ lv_has ls 12 [(0, .ref (ad 0)), (1, .int (nI a0)), (2, .int p1), (3, .int p2), (4, .int p3), (5, .int (nI g_171)), (6, .int (nI g_198)), (7, .long g_199), (9, .long g_200), (11, .int g_197)]) 15 ?_ _ _ _ _ ⟨r_191, 0, g_187, (0 : Int64), rfl, (Nat.le_of_ble_eq_true rfl), hsp, hP, hD, hS, lv_sub hl [4, 5, 6, 7, 8, 9, 0, 3, 2, 1] rfl⟩
                  rintro nn ih_201 H locs ls ⟨g_197, g_198, g_199, g_200, rfl, hg_198, he_204, hP, hD, hS, hl⟩
                  obtain ⟨S_203, hsp, hin_205, hout_206⟩ := itr_step hlf_202 he_204
                  refine lv_iload hx hb dX9_hasTimes_15 (lv_at hl 6 rfl) ?_
                  refine lv_aload_n hx hb dX9_hasTimes_17 rfl (lv_at hl 0 rfl) ?_
                  refine va_calli (va_runV (As := []) (rest := [.int (nI g_198)]) ⟨hx, hb, hml, hown, hts⟩ (c_EM_clocks l dC dI _ ad ck x0 x16 x18 x19 x20 x21 x22 x23 x24 x25 x26 x27 x28 x29 x30 x33 x45 x46 x52 x53 x61 x62 x63 x65 x66 f1 f2 f3 q4 q5 q6 q7 f8 q9 q10 f11 m12_0 m12_1 m13_0 m13_1 m14_0 m14_1 m15_0 m15_1 f17 q31 f32 f34 f35 f36 f37 q38 f39 f40 f41 m42_0 m42_1 f43 f44 f47 f48 f49 f50 f51 q54 q55 q56 f57 q58 f59 f60 f64 hx16 hx18 hx19 hx21 hx22 hx26 hx28 hx29 hx30 hx33 hx46 hx52 hx53 hx61 hx62 hx63 hx65 hm12_0 hm12_1 hm13_0 hm13_1 hm14_0 hm14_1 hm15_0 hm15_1 hm42_0 hm42_1) (cwV 0 hts g_EM_hasTimes_EM_clocks rfl rfl rfl (by decide +kernel) ⟨Nat.le_of_ble_eq_true rfl, Nat.le_of_ble_eq_true rfl⟩) ⟨pu_bl, va_recv hK hP (ci := 9) (q0 := 0) rfl rfl, pu_in hP hK hD⟩ rfl rfl hl.1 rfl (lv_room (Nat.le_of_ble_eq_true rfl)) dX9_hasTimes_18 ⟨Nat.le_of_ble_eq_true rfl, Nat.le_of_ble_eq_true rfl⟩) hS (fun q _ h => pu_fr hS hA q h) (pu_fr hS hA) (fun r_207 u t H1 locs ht hvm hw hB hz1 hk1 hS => ?_)
                  have hP := pu_keep hP hk1
                  clear hk1 hz1 ht hvm
                  generalize H1 = H at hP hS ⊢
                  obtain ⟨u_208, hu_208, rfl, iu_208⟩ := hw
                  replace hsp := hsp.trans (slet_eq iu_208)
                  refine lv_icmp_ge (tgt := 149) hx hb dX9_hasTimes_21 (by decide) (fun c_209 => ?_) (fun c_209 => ?_)
                  · have c_209 : u_208 ≤ g_198 := (nI_leI (a := u_208) (b := g_198) (Nat.lt_of_le_of_lt hu_208 (Nat.le_of_ble_eq_true rfl)) (Nat.lt_of_le_of_lt hg_198 (Nat.le_of_ble_eq_true rfl))).mp c_209
                    replace hsp := hsp.trans (if_pos c_209)
                    replace hsp := hout_206 _ hsp
                    refine lv_iinc (v := (nI (g_171 + 1))) (lv' := [(5, .int (nI (g_171 + 1))), (0, .ref (ad 0)), (1, .int (nI a0)), (2, .int p1), (3, .int p2), (4, .int p3), (6, .int (nI g_198)), (7, .long g_199), (9, .long g_200), (11, .int g_197)]) hx hb dX9_hasTimes_149 hl (k := 5) rfl (nI_1 _) (by decide) rfl (fun ls hl => ?_)
                    refine lv_goto (tgt := 3) hx hb dX9_hasTimes_152 (by decide) ?_
                    exact ih_175 (3 - (g_171 + 1)) (by omega) _ _ _ ⟨g_197, (g_171 + 1), (nI g_198), g_199, g_200, rfl, (by omega), hin_179 _ hsp, hP, hD, hS, lv_sub hl [1, 2, 3, 4, 5, 0, 6, 7, 8, 9] rfl⟩
                  · have c_209 : ¬ u_208 ≤ g_198 := fun z => c_209 ((nI_leI (a := u_208) (b := g_198) (Nat.lt_of_le_of_lt hu_208 (Nat.le_of_ble_eq_true rfl)) (Nat.lt_of_le_of_lt hg_198 (Nat.le_of_ble_eq_true rfl))).mpr z)
                    replace hsp := hsp.trans (if_neg c_209)
                    refine lv_iload hx hb dX9_hasTimes_24 (lv_at hl 5 rfl) ?_
                    obtain ⟨JR_212, hJR_212, hsp⟩ := slet_ex hsp
                    refine pu_join (fun H locs ls st => ∃ (g_210 : Int64), st = [.long g_210] ∧ g_210 = JR_212 ∧ va_P (dC, dI) vwCl (mo_w ad ck x0 (nI x16) (nI x18) (nI x19) x20 (nI x21) (nI x22) x23 x24 x25 (nI x26) x27 (nI x28) (nI x29) (nI x30) (nI x33) x45 (nI x46) (nI x52) (nI x53) (nI x61) (nI x62) (nI x63) (nI x65) x66 f1 f2 f3 (bN 3 q4) (bN 7 q5) (bN 7 q6) (bN 4 q7) f8 (bN 2 q9) (bH q10) f11 (b2 m12_0 m12_1) (b2 m13_0 m13_1) (b2 m14_0 m14_1) (b2m m15_0 m15_1) f17 (bA 159 q31) f32 f34 f35 f36 f37 (bN 7 q38) f39 f40 f41 (b2 m42_0 m42_1) f43 f44 f47 f48 f49 f50 f51 (bN 13 q54) (bN 120 q55) (bN 120 q56) f57 (bN 120 q58) f59 f60 f64) H ∧ va_D (fun _ => True) (mo_w ad ck x0 (nI x16) (nI x18) (nI x19) x20 (nI x21) (nI x22) x23 x24 x25 (nI x26) x27 (nI x28) (nI x29) (nI x30) (nI x33) x45 (nI x46) (nI x52) (nI x53) (nI x61) (nI x62) (nI x63) (nI x65) x66 f1 f2 f3 (bN 3 q4) (bN 7 q5) (bN 7 q6) (bN 4 q7) f8 (bN 2 q9) (bH q10) f11 (b2 m12_0 m12_1) (b2 m13_0 m13_1) (b2 m14_0 m14_1) (b2m m15_0 m15_1) f17 (bA 159 q31) f32 f34 f35 f36 f37 (bN 7 q38) f39 f40 f41 (b2 m42_0 m42_1) f43 f44 f47 f48 f49 f50 f51 (bN 13 q54) (bN 120 q55) (bN 120 q56) f57 (bN 120 q58) f59 f60 f64) ∧ va_S (va_A [] s.heap.size) s.heap H locs ∧ lv_has ls 12 [(0, .ref (ad 0)), (1, .int (nI a0)), (2, .int p1), (3, .int p2), (4, .int p3), (5, .int (nI g_171)), (6, .int (nI g_198)), (7, .long g_199), (9, .long g_200), (11, .int g_197)]) 58 ?_ (fun j_211 => ?_)
                    · rintro H locs ls st ⟨g_210, rfl, he_213, hP, hD, hS, hl⟩
                      rw [← he_213] at hsp
                      refine lv_lstore (lv' := [(7, .long g_210), (0, .ref (ad 0)), (1, .int (nI a0)), (2, .int p1), (3, .int p2), (4, .int p3), (5, .int (nI g_171)), (6, .int (nI g_198)), (9, .long g_200), (11, .int g_197)]) hx hb dX9_hasTimes_58 hl (by decide) rfl (fun ls hl => ?_)
                      refine lv_iload hx hb dX9_hasTimes_60 (lv_at hl 7 rfl) ?_
                      obtain ⟨JR_216, hJR_216, hsp⟩ := slet_ex hsp
                      refine pu_join (fun H locs ls st => ∃ (g_214 : Int64), st = [.long g_214] ∧ g_214 = JR_216 ∧ va_P (dC, dI) vwCl (mo_w ad ck x0 (nI x16) (nI x18) (nI x19) x20 (nI x21) (nI x22) x23 x24 x25 (nI x26) x27 (nI x28) (nI x29) (nI x30) (nI x33) x45 (nI x46) (nI x52) (nI x53) (nI x61) (nI x62) (nI x63) (nI x65) x66 f1 f2 f3 (bN 3 q4) (bN 7 q5) (bN 7 q6) (bN 4 q7) f8 (bN 2 q9) (bH q10) f11 (b2 m12_0 m12_1) (b2 m13_0 m13_1) (b2 m14_0 m14_1) (b2m m15_0 m15_1) f17 (bA 159 q31) f32 f34 f35 f36 f37 (bN 7 q38) f39 f40 f41 (b2 m42_0 m42_1) f43 f44 f47 f48 f49 f50 f51 (bN 13 q54) (bN 120 q55) (bN 120 q56) f57 (bN 120 q58) f59 f60 f64) H ∧ va_D (fun _ => True) (mo_w ad ck x0 (nI x16) (nI x18) (nI x19) x20 (nI x21) (nI x22) x23 x24 x25 (nI x26) x27 (nI x28) (nI x29) (nI x30) (nI x33) x45 (nI x46) (nI x52) (nI x53) (nI x61) (nI x62) (nI x63) (nI x65) x66 f1 f2 f3 (bN 3 q4) (bN 7 q5) (bN 7 q6) (bN 4 q7) f8 (bN 2 q9) (bH q10) f11 (b2 m12_0 m12_1) (b2 m13_0 m13_1) (b2 m14_0 m14_1) (b2m m15_0 m15_1) f17 (bA 159 q31) f32 f34 f35 f36 f37 (bN 7 q38) f39 f40 f41 (b2 m42_0 m42_1) f43 f44 f47 f48 f49 f50 f51 (bN 13 q54) (bN 120 q55) (bN 120 q56) f57 (bN 120 q58) f59 f60 f64) ∧ va_S (va_A [] s.heap.size) s.heap H locs ∧ lv_has ls 12 [(0, .ref (ad 0)), (1, .int (nI a0)), (2, .int p1), (3, .int p2), (4, .int p3), (5, .int (nI g_171)), (6, .int (nI g_198)), (7, .long g_210), (9, .long g_200), (11, .int g_197)]) 94 ?_ (fun j_215 => ?_)
                      · rintro H locs ls st ⟨g_214, rfl, he_217, hP, hD, hS, hl⟩
                        rw [← he_217] at hsp
                        refine lv_lstore (lv' := [(9, .long g_214), (0, .ref (ad 0)), (1, .int (nI a0)), (2, .int p1), (3, .int p2), (4, .int p3), (5, .int (nI g_171)), (6, .int (nI g_198)), (7, .long g_210), (11, .int g_197)]) hx hb dX9_hasTimes_94 hl (by decide) rfl (fun ls hl => ?_)
                        refine lv_aload_n hx hb dX9_hasTimes_96 rfl (lv_at hl 1 rfl) ?_
                        refine lv_iload_n hx hb dX9_hasTimes_97 rfl (lv_at hl 2 rfl) ?_
                        refine lv_iload hx hb dX9_hasTimes_98 (lv_at hl 6 rfl) ?_
                        refine lv_iload hx hb dX9_hasTimes_100 (lv_at hl 7 rfl) ?_
                        refine va_calli (va_runV (As := [.int (nI a0), .int (nI g_171), .int (nI g_198)]) (rest := []) ⟨hx, hb, hml, hown, hts⟩ (c_EM_boundOf_11 l dC dI _ ad ck x0 x16 x18 x19 x20 x21 x22 x23 x24 x25 x26 x27 x28 x29 x30 x33 x45 x46 x52 x53 x61 x62 x63 x65 x66 f1 f2 f3 q4 q5 q6 q7 f8 q9 q10 f11 m12_0 m12_1 m13_0 m13_1 m14_0 m14_1 m15_0 m15_1 f17 q31 f32 f34 f35 f36 f37 q38 f39 f40 f41 m42_0 m42_1 f43 f44 f47 f48 f49 f50 f51 q54 q55 q56 f57 q58 f59 f60 f64 a0 g_171 g_198 hx16 hx18 hx19 hx21 hx22 hx26 hx28 hx29 hx30 hx33 hx46 hx52 hx53 hx61 hx62 hx63 hx65 hm12_0 hm12_1 hm13_0 hm13_1 hm14_0 hm14_1 hm15_0 hm15_1 hm42_0 hm42_1 ha0 hg_171 hg_198) (cwV 3 hts g_EM_hasTimes_EM_boundOf_11 rfl rfl rfl (by decide +kernel) ⟨Nat.le_of_ble_eq_true rfl, Nat.le_of_ble_eq_true rfl⟩) ⟨pu_bl, va_recv hK hP (ci := 9) (q0 := 0) rfl rfl, pu_in hP hK hD⟩ rfl rfl hl.1 rfl (lv_room (Nat.le_of_ble_eq_true rfl)) dX9_hasTimes_102 ⟨Nat.le_of_ble_eq_true rfl, Nat.le_of_ble_eq_true rfl⟩) hS (fun q _ h => pu_fr hS hA q h) (pu_fr hS hA) (fun r_218 u t H1 locs ht hvm hw hB hz1 hk1 hS => ?_)
                        have hP := pu_keep hP hk1
                        clear hk1 hz1 ht hvm
                        generalize H1 = H at hP hS ⊢
                        have ir_218 := hw
                        replace hsp := hsp.trans (slet_eq ir_218)
                        refine lv_istore (lv' := [(11, .int r_218), (9, .long g_214), (0, .ref (ad 0)), (1, .int (nI a0)), (2, .int p1), (3, .int p2), (4, .int p3), (5, .int (nI g_171)), (6, .int (nI g_198)), (7, .long g_210)]) hx hb dX9_hasTimes_105 hl (by decide) rfl (fun ls hl => ?_)
                        refine lv_iload hx hb dX9_hasTimes_107 (lv_at hl 0 rfl) ?_
                        refine lv_ldcw hx hb hown v_10 dX9_hasTimes_109 ?_
                        refine lv_icmp_ge (tgt := 143) hx hb dX9_hasTimes_112 (by decide) (fun c_219 => ?_) (fun c_219 => ?_)
                        · have hcc_219 := c_219
                          replace hsp := hsp.trans (if_pos c_219)
                          refine lv_iinc (v := (nI (g_198 + 1))) (lv' := [(6, .int (nI (g_198 + 1))), (11, .int r_218), (9, .long g_214), (0, .ref (ad 0)), (1, .int (nI a0)), (2, .int p1), (3, .int p2), (4, .int p3), (5, .int (nI g_171)), (7, .long g_210)]) hx hb dX9_hasTimes_143 hl (k := 8) rfl (nI_1 _) (by decide) rfl (fun ls hl => ?_)
                          refine lv_goto (tgt := 15) hx hb dX9_hasTimes_146 (by decide) ?_
                          exact ih_201 (3 - (g_198 + 1)) (by omega) _ _ _ ⟨r_218, (g_198 + 1), g_210, g_214, rfl, (by omega), hin_205 _ hsp, hP, hD, hS, lv_sub hl [3, 4, 5, 6, 7, 8, 0, 9, 2, 1] rfl⟩
                        · have hcc_219 := c_219
                          replace hsp := hsp.trans (if_neg c_219)
                          refine lv_lload hx hb dX9_hasTimes_115 (lv_at hl 9 rfl) ?_
                          refine lv_lload hx hb dX9_hasTimes_117 (lv_at hl 1 rfl) ?_
                          refine lv_lsub hx hb dX9_hasTimes_119 ?_
                          refine lv_topl (fun y_220 ey_220 => ?_)
                          replace hsp := hsp.trans (slet_eq ey_220)
                          refine lv_iload hx hb dX9_hasTimes_120 (lv_at hl 0 rfl) ?_
                          refine lv_iconst (v := 1) hx hb dX9_hasTimes_122 (by decide) ?_
                          refine lv_ishr hx hb dX9_hasTimes_123 ?_
                          refine lv_topi (fun y_221 ey_221 => ?_)
                          replace hsp := hsp.trans (slet_eq ey_221)
                          refine lv_i2l (v := y_221.toInt64) hx hb dX9_hasTimes_124 rfl ?_
                          refine lv_topl (fun y_222 ey_222 => ?_)
                          replace hsp := hsp.trans (slet_eq ey_222)
                          refine lv_ldc2 (v := (256)) hx hb hown v_11 dX9_hasTimes_125 ?_
                          refine lv_lmul hx hb dX9_hasTimes_128 ?_
                          refine lv_topl (fun y_223 ey_223 => ?_)
                          replace hsp := hsp.trans (slet_eq ey_223)
                          refine lv_lconst (v := (1 : Int64)) hx hb dX9_hasTimes_129 rfl ?_
                          refine lv_lsub hx hb dX9_hasTimes_130 ?_
                          refine lv_topl (fun y_224 ey_224 => ?_)
                          replace hsp := hsp.trans (slet_eq ey_224)
                          refine lv_iload hx hb dX9_hasTimes_131 (lv_at hl 0 rfl) ?_
                          refine lv_iconst (v := 1) hx hb dX9_hasTimes_133 (by decide) ?_
                          refine lv_iand hx hb dX9_hasTimes_134 ?_
                          refine lv_topi (fun y_225 ey_225 => ?_)
                          replace hsp := hsp.trans (slet_eq ey_225)
                          refine lv_i2l (v := y_225.toInt64) hx hb dX9_hasTimes_135 rfl ?_
                          refine lv_topl (fun y_226 ey_226 => ?_)
                          replace hsp := hsp.trans (slet_eq ey_226)
                          refine lv_ladd hx hb dX9_hasTimes_136 ?_
                          refine lv_topl (fun y_227 ey_227 => ?_)
                          replace hsp := hsp.trans (slet_eq ey_227)
                          refine W.lcmp hx hb dX9_hasTimes_137 ?_
                          refine lv_topi (fun y_228 ey_228 => ?_)
                          replace hsp := hsp.trans (slet_eq ey_228)
                          refine lv_if_le (tgt := 143) hx hb dX9_hasTimes_138 (by decide) (fun c_229 => ?_) (fun c_229 => ?_)
                          · have hcc_229 := c_229
                            replace hsp := hsp.trans (if_pos c_229)
                            refine lv_iinc (v := (nI (g_198 + 1))) (lv' := [(6, .int (nI (g_198 + 1))), (11, .int r_218), (9, .long g_214), (0, .ref (ad 0)), (1, .int (nI a0)), (2, .int p1), (3, .int p2), (4, .int p3), (5, .int (nI g_171)), (7, .long g_210)]) hx hb dX9_hasTimes_143 hl (k := 8) rfl (nI_1 _) (by decide) rfl (fun ls hl => ?_)
                            refine lv_goto (tgt := 15) hx hb dX9_hasTimes_146 (by decide) ?_
                            exact ih_201 (3 - (g_198 + 1)) (by omega) _ _ _ ⟨r_218, (g_198 + 1), g_210, g_214, rfl, (by omega), hin_205 _ hsp, hP, hD, hS, lv_sub hl [3, 4, 5, 6, 7, 8, 0, 9, 2, 1] rfl⟩
                          · have hcc_229 := c_229
                            replace hsp := hsp.trans (if_neg c_229)
                            replace hsp := hout_206 _ hsp
                            replace hsp := hout_180 _ hsp
                            refine lv_iconst (v := 0) hx hb dX9_hasTimes_141 (by decide) ?_
                            exact W.zret (v := 0) (ty := .boolean) hx hb hr (rfl) (fun t ht hW => ⟨⟨0, (), rfl, ⟨0, (Nat.le_of_ble_eq_true rfl), rfl, (hsp.symm.trans hRR)⟩, trivial⟩, hS.F ht⟩) hS.2.2 dX9_hasTimes_142
                      have hsp := hJR_216
                      refine lv_if_ne (tgt := 70) hx hb dX9_hasTimes_62 (by decide) (fun c_230 => ?_) (fun c_230 => ?_)
                      · have c_230 : ¬ g_198 = 0 := fun z => c_230 ((nI_eq (a := g_198) (b := 0) (Nat.lt_of_le_of_lt hg_198 (Nat.le_of_ble_eq_true rfl)) (Nat.le_of_ble_eq_true rfl)).mpr z)
                        replace hsp := hsp.trans (if_neg c_230)
                        refine lv_iload hx hb dX9_hasTimes_70 (lv_at hl 7 rfl) ?_
                        refine lv_iconst (v := 1) hx hb dX9_hasTimes_72 (by decide) ?_
                        refine lv_icmp_ne (tgt := 81) hx hb dX9_hasTimes_73 (by decide) (fun c_231 => ?_) (fun c_231 => ?_)
                        · have c_231 : ¬ g_198 = 1 := fun z => c_231 ((nI_eq (a := g_198) (b := 1) (Nat.lt_of_le_of_lt hg_198 (Nat.le_of_ble_eq_true rfl)) (Nat.le_of_ble_eq_true rfl)).mpr z)
                          replace hsp := hsp.trans (if_neg c_231)
                          refine lv_iload hx hb dX9_hasTimes_81 (lv_at hl 7 rfl) ?_
                          refine lv_iconst (v := 2) hx hb dX9_hasTimes_83 (by decide) ?_
                          refine lv_icmp_ne (tgt := 93) hx hb dX9_hasTimes_84 (by decide) (fun c_232 => ?_) (fun c_232 => ?_)
                          · have c_232 : ¬ g_198 = 2 := fun z => c_232 ((nI_eq (a := g_198) (b := 2) (Nat.lt_of_le_of_lt hg_198 (Nat.le_of_ble_eq_true rfl)) (Nat.le_of_ble_eq_true rfl)).mpr z)
                            exfalso
                            omega
                          · have c_232 : g_198 = 2 := (nI_eq (a := g_198) (b := 2) (Nat.lt_of_le_of_lt hg_198 (Nat.le_of_ble_eq_true rfl)) (Nat.le_of_ble_eq_true rfl)).mp c_232
                            refine lv_iload hx hb dX9_hasTimes_87 (lv_at hl 5 rfl) ?_
                            refine lv_i2l (v := p3.toInt64) hx hb dX9_hasTimes_89 rfl ?_
                            refine lv_topl (fun y_233 ey_233 => ?_)
                            replace hsp := hsp.trans (slet_eq ey_233)
                            refine lv_goto (tgt := 94) hx hb dX9_hasTimes_90 (by decide) ?_
                            exact j_215 _ _ _ _ ⟨y_233, rfl, hsp.symm, hP, hD, hS, lv_sub hl [1, 2, 3, 4, 5, 6, 7, 0, 8, 9] rfl⟩
                        · have c_231 : g_198 = 1 := (nI_eq (a := g_198) (b := 1) (Nat.lt_of_le_of_lt hg_198 (Nat.le_of_ble_eq_true rfl)) (Nat.le_of_ble_eq_true rfl)).mp c_231
                          replace hsp := hsp.trans (if_pos c_231)
                          refine lv_iload_n hx hb dX9_hasTimes_76 rfl (lv_at hl 4 rfl) ?_
                          refine lv_i2l (v := p2.toInt64) hx hb dX9_hasTimes_77 rfl ?_
                          refine lv_topl (fun y_234 ey_234 => ?_)
                          replace hsp := hsp.trans (slet_eq ey_234)
                          refine lv_goto (tgt := 94) hx hb dX9_hasTimes_78 (by decide) ?_
                          exact j_215 _ _ _ _ ⟨y_234, rfl, hsp.symm, hP, hD, hS, lv_sub hl [1, 2, 3, 4, 5, 6, 7, 0, 8, 9] rfl⟩
                      · have c_230 : g_198 = 0 := (nI_eq (a := g_198) (b := 0) (Nat.lt_of_le_of_lt hg_198 (Nat.le_of_ble_eq_true rfl)) (Nat.le_of_ble_eq_true rfl)).mp c_230
                        replace hsp := hsp.trans (if_pos c_230)
                        refine lv_iload_n hx hb dX9_hasTimes_65 rfl (lv_at hl 3 rfl) ?_
                        refine lv_i2l (v := p1.toInt64) hx hb dX9_hasTimes_66 rfl ?_
                        refine lv_topl (fun y_235 ey_235 => ?_)
                        replace hsp := hsp.trans (slet_eq ey_235)
                        refine lv_goto (tgt := 94) hx hb dX9_hasTimes_67 (by decide) ?_
                        exact j_215 _ _ _ _ ⟨y_235, rfl, hsp.symm, hP, hD, hS, lv_sub hl [1, 2, 3, 4, 5, 6, 7, 0, 8, 9] rfl⟩
                    have hsp := hJR_212
                    refine lv_if_ne (tgt := 34) hx hb dX9_hasTimes_26 (by decide) (fun c_236 => ?_) (fun c_236 => ?_)
                    · have c_236 : ¬ g_171 = 0 := fun z => c_236 ((nI_eq (a := g_171) (b := 0) (Nat.lt_of_le_of_lt hg_171 (Nat.le_of_ble_eq_true rfl)) (Nat.le_of_ble_eq_true rfl)).mpr z)
                      replace hsp := hsp.trans (if_neg c_236)
                      refine lv_iload hx hb dX9_hasTimes_34 (lv_at hl 5 rfl) ?_
                      refine lv_iconst (v := 1) hx hb dX9_hasTimes_36 (by decide) ?_
                      refine lv_icmp_ne (tgt := 45) hx hb dX9_hasTimes_37 (by decide) (fun c_237 => ?_) (fun c_237 => ?_)
                      · have c_237 : ¬ g_171 = 1 := fun z => c_237 ((nI_eq (a := g_171) (b := 1) (Nat.lt_of_le_of_lt hg_171 (Nat.le_of_ble_eq_true rfl)) (Nat.le_of_ble_eq_true rfl)).mpr z)
                        replace hsp := hsp.trans (if_neg c_237)
                        refine lv_iload hx hb dX9_hasTimes_45 (lv_at hl 5 rfl) ?_
                        refine lv_iconst (v := 2) hx hb dX9_hasTimes_47 (by decide) ?_
                        refine lv_icmp_ne (tgt := 57) hx hb dX9_hasTimes_48 (by decide) (fun c_238 => ?_) (fun c_238 => ?_)
                        · have c_238 : ¬ g_171 = 2 := fun z => c_238 ((nI_eq (a := g_171) (b := 2) (Nat.lt_of_le_of_lt hg_171 (Nat.le_of_ble_eq_true rfl)) (Nat.le_of_ble_eq_true rfl)).mpr z)
                          exfalso
                          omega
                        · have c_238 : g_171 = 2 := (nI_eq (a := g_171) (b := 2) (Nat.lt_of_le_of_lt hg_171 (Nat.le_of_ble_eq_true rfl)) (Nat.le_of_ble_eq_true rfl)).mp c_238
                          refine lv_iload hx hb dX9_hasTimes_51 (lv_at hl 4 rfl) ?_
                          refine lv_i2l (v := p3.toInt64) hx hb dX9_hasTimes_53 rfl ?_
                          refine lv_topl (fun y_239 ey_239 => ?_)
                          replace hsp := hsp.trans (slet_eq ey_239)
                          refine lv_goto (tgt := 58) hx hb dX9_hasTimes_54 (by decide) ?_
                          exact j_211 _ _ _ _ ⟨y_239, rfl, hsp.symm, hP, hD, hS, lv_sub hl [0, 1, 2, 3, 4, 5, 6, 7, 8, 9] rfl⟩
                      · have c_237 : g_171 = 1 := (nI_eq (a := g_171) (b := 1) (Nat.lt_of_le_of_lt hg_171 (Nat.le_of_ble_eq_true rfl)) (Nat.le_of_ble_eq_true rfl)).mp c_237
                        replace hsp := hsp.trans (if_pos c_237)
                        refine lv_iload_n hx hb dX9_hasTimes_40 rfl (lv_at hl 3 rfl) ?_
                        refine lv_i2l (v := p2.toInt64) hx hb dX9_hasTimes_41 rfl ?_
                        refine lv_topl (fun y_240 ey_240 => ?_)
                        replace hsp := hsp.trans (slet_eq ey_240)
                        refine lv_goto (tgt := 58) hx hb dX9_hasTimes_42 (by decide) ?_
                        exact j_211 _ _ _ _ ⟨y_240, rfl, hsp.symm, hP, hD, hS, lv_sub hl [0, 1, 2, 3, 4, 5, 6, 7, 8, 9] rfl⟩
                    · have c_236 : g_171 = 0 := (nI_eq (a := g_171) (b := 0) (Nat.lt_of_le_of_lt hg_171 (Nat.le_of_ble_eq_true rfl)) (Nat.le_of_ble_eq_true rfl)).mp c_236
                      replace hsp := hsp.trans (if_pos c_236)
                      refine lv_iload_n hx hb dX9_hasTimes_29 rfl (lv_at hl 2 rfl) ?_
                      refine lv_i2l (v := p1.toInt64) hx hb dX9_hasTimes_30 rfl ?_
                      refine lv_topl (fun y_241 ey_241 => ?_)
                      replace hsp := hsp.trans (slet_eq ey_241)
                      refine lv_goto (tgt := 58) hx hb dX9_hasTimes_31 (by decide) ?_
                      exact j_211 _ _ _ _ ⟨y_241, rfl, hsp.symm, hP, hD, hS, lv_sub hl [0, 1, 2, 3, 4, 5, 6, 7, 8, 9] rfl⟩
                · have hcc_192 := c_192
                  replace hsp := hsp.trans (if_neg c_192)
                  refine lv_lload hx hb dX9_hasTimes_115 (lv_at hl 2 rfl) ?_
                  refine lv_lload hx hb dX9_hasTimes_117 (lv_at hl 1 rfl) ?_
                  refine lv_lsub hx hb dX9_hasTimes_119 ?_
                  refine lv_topl (fun y_242 ey_242 => ?_)
                  replace hsp := hsp.trans (slet_eq ey_242)
                  refine lv_iload hx hb dX9_hasTimes_120 (lv_at hl 0 rfl) ?_
                  refine lv_iconst (v := 1) hx hb dX9_hasTimes_122 (by decide) ?_
                  refine lv_ishr hx hb dX9_hasTimes_123 ?_
                  refine lv_topi (fun y_243 ey_243 => ?_)
                  replace hsp := hsp.trans (slet_eq ey_243)
                  refine lv_i2l (v := y_243.toInt64) hx hb dX9_hasTimes_124 rfl ?_
                  refine lv_topl (fun y_244 ey_244 => ?_)
                  replace hsp := hsp.trans (slet_eq ey_244)
                  refine lv_ldc2 (v := (256)) hx hb hown v_11 dX9_hasTimes_125 ?_
                  refine lv_lmul hx hb dX9_hasTimes_128 ?_
                  refine lv_topl (fun y_245 ey_245 => ?_)
                  replace hsp := hsp.trans (slet_eq ey_245)
                  refine lv_lconst (v := (1 : Int64)) hx hb dX9_hasTimes_129 rfl ?_
                  refine lv_lsub hx hb dX9_hasTimes_130 ?_
                  refine lv_topl (fun y_246 ey_246 => ?_)
                  replace hsp := hsp.trans (slet_eq ey_246)
                  refine lv_iload hx hb dX9_hasTimes_131 (lv_at hl 0 rfl) ?_
                  refine lv_iconst (v := 1) hx hb dX9_hasTimes_133 (by decide) ?_
                  refine lv_iand hx hb dX9_hasTimes_134 ?_
                  refine lv_topi (fun y_247 ey_247 => ?_)
                  replace hsp := hsp.trans (slet_eq ey_247)
                  refine lv_i2l (v := y_247.toInt64) hx hb dX9_hasTimes_135 rfl ?_
                  refine lv_topl (fun y_248 ey_248 => ?_)
                  replace hsp := hsp.trans (slet_eq ey_248)
                  refine lv_ladd hx hb dX9_hasTimes_136 ?_
                  refine lv_topl (fun y_249 ey_249 => ?_)
                  replace hsp := hsp.trans (slet_eq ey_249)
                  refine W.lcmp hx hb dX9_hasTimes_137 ?_
                  refine lv_topi (fun y_250 ey_250 => ?_)
                  replace hsp := hsp.trans (slet_eq ey_250)
                  refine lv_if_le (tgt := 143) hx hb dX9_hasTimes_138 (by decide) (fun c_251 => ?_) (fun c_251 => ?_)
                  · have hcc_251 := c_251
                    replace hsp := hsp.trans (if_pos c_251)
                    refine lv_iinc (v := 0) (lv' := [(6, .int 0), (11, .int r_191), (9, .long (0 : Int64)), (7, .long g_187), (0, .ref (ad 0)), (1, .int (nI a0)), (2, .int p1), (3, .int p2), (4, .int p3), (5, .int (nI g_171))]) hx hb dX9_hasTimes_143 hl (k := 9) rfl (by decide) (by decide) rfl (fun ls hl => ?_)
                    refine lv_goto (tgt := 15) hx hb dX9_hasTimes_146 (by decide) ?_
                    obtain ⟨lf_261, dlf_261, hlf_261, hsp⟩ := itr_ex hsp
                    delta sp_EM_hasTimes_L5 at hlf_261
                    refine pu_while (fun nn H locs ls => ∃ (g_256 : Int32) (g_257 : Nat) (g_258 : Int64) (g_259 : Int64), nn = 3 - g_257 ∧ g_257 ≤ 3 ∧ S_177 = itrv dlf_261 lf_261 (g_256, g_257, g_258, g_259) ∧ va_P (dC, dI) vwCl (mo_w ad ck x0 (nI x16) (nI x18) (nI x19) x20 (nI x21) (nI x22) x23 x24 x25 (nI x26) x27 (nI x28) (nI x29) (nI x30) (nI x33) x45 (nI x46) (nI x52) (nI x53) (nI x61) (nI x62) (nI x63) (nI x65) x66 f1 f2 f3 (bN 3 q4) (bN 7 q5) (bN 7 q6) (bN 4 q7) f8 (bN 2 q9) (bH q10) f11 (b2 m12_0 m12_1) (b2 m13_0 m13_1) (b2 m14_0 m14_1) (b2m m15_0 m15_1) f17 (bA 159 q31) f32 f34 f35 f36 f37 (bN 7 q38) f39 f40 f41 (b2 m42_0 m42_1) f43 f44 f47 f48 f49 f50 f51 (bN 13 q54) (bN 120 q55) (bN 120 q56) f57 (bN 120 q58) f59 f60 f64) H ∧ va_D (fun _ => True) (mo_w ad ck x0 (nI x16) (nI x18) (nI x19) x20 (nI x21) (nI x22) x23 x24 x25 (nI x26) x27 (nI x28) (nI x29) (nI x30) (nI x33) x45 (nI x46) (nI x52) (nI x53) (nI x61) (nI x62) (nI x63) (nI x65) x66 f1 f2 f3 (bN 3 q4) (bN 7 q5) (bN 7 q6) (bN 4 q7) f8 (bN 2 q9) (bH q10) f11 (b2 m12_0 m12_1) (b2 m13_0 m13_1) (b2 m14_0 m14_1) (b2m m15_0 m15_1) f17 (bA 159 q31) f32 f34 f35 f36 f37 (bN 7 q38) f39 f40 f41 (b2 m42_0 m42_1) f43 f44 f47 f48 f49 f50 f51 (bN 13 q54) (bN 120 q55) (bN 120 q56) f57 (bN 120 q58) f59 f60 f64) ∧ va_S (va_A [] s.heap.size) s.heap H locs ∧ lv_has ls 12 [(0, .ref (ad 0)), (1, .int (nI a0)), (2, .int p1), (3, .int p2), (4, .int p3), (5, .int (nI g_171)), (6, .int (nI g_257)), (7, .long g_258), (9, .long g_259), (11, .int g_256)]) 15 ?_ _ _ _ _ ⟨r_191, 0, g_187, (0 : Int64), rfl, (Nat.le_of_ble_eq_true rfl), hsp, hP, hD, hS, lv_sub hl [4, 5, 6, 7, 8, 9, 0, 3, 2, 1] rfl⟩
                    rintro nn ih_260 H locs ls ⟨g_256, g_257, g_258, g_259, rfl, hg_257, he_263, hP, hD, hS, hl⟩
                    obtain ⟨S_262, hsp, hin_264, hout_265⟩ := itr_step hlf_261 he_263
                    refine lv_iload hx hb dX9_hasTimes_15 (lv_at hl 6 rfl) ?_
                    refine lv_aload_n hx hb dX9_hasTimes_17 rfl (lv_at hl 0 rfl) ?_
                    refine va_calli (va_runV (As := []) (rest := [.int (nI g_257)]) ⟨hx, hb, hml, hown, hts⟩ (c_EM_clocks l dC dI _ ad ck x0 x16 x18 x19 x20 x21 x22 x23 x24 x25 x26 x27 x28 x29 x30 x33 x45 x46 x52 x53 x61 x62 x63 x65 x66 f1 f2 f3 q4 q5 q6 q7 f8 q9 q10 f11 m12_0 m12_1 m13_0 m13_1 m14_0 m14_1 m15_0 m15_1 f17 q31 f32 f34 f35 f36 f37 q38 f39 f40 f41 m42_0 m42_1 f43 f44 f47 f48 f49 f50 f51 q54 q55 q56 f57 q58 f59 f60 f64 hx16 hx18 hx19 hx21 hx22 hx26 hx28 hx29 hx30 hx33 hx46 hx52 hx53 hx61 hx62 hx63 hx65 hm12_0 hm12_1 hm13_0 hm13_1 hm14_0 hm14_1 hm15_0 hm15_1 hm42_0 hm42_1) (cwV 0 hts g_EM_hasTimes_EM_clocks rfl rfl rfl (by decide +kernel) ⟨Nat.le_of_ble_eq_true rfl, Nat.le_of_ble_eq_true rfl⟩) ⟨pu_bl, va_recv hK hP (ci := 9) (q0 := 0) rfl rfl, pu_in hP hK hD⟩ rfl rfl hl.1 rfl (lv_room (Nat.le_of_ble_eq_true rfl)) dX9_hasTimes_18 ⟨Nat.le_of_ble_eq_true rfl, Nat.le_of_ble_eq_true rfl⟩) hS (fun q _ h => pu_fr hS hA q h) (pu_fr hS hA) (fun r_266 u t H1 locs ht hvm hw hB hz1 hk1 hS => ?_)
                    have hP := pu_keep hP hk1
                    clear hk1 hz1 ht hvm
                    generalize H1 = H at hP hS ⊢
                    obtain ⟨u_267, hu_267, rfl, iu_267⟩ := hw
                    replace hsp := hsp.trans (slet_eq iu_267)
                    refine lv_icmp_ge (tgt := 149) hx hb dX9_hasTimes_21 (by decide) (fun c_268 => ?_) (fun c_268 => ?_)
                    · have c_268 : u_267 ≤ g_257 := (nI_leI (a := u_267) (b := g_257) (Nat.lt_of_le_of_lt hu_267 (Nat.le_of_ble_eq_true rfl)) (Nat.lt_of_le_of_lt hg_257 (Nat.le_of_ble_eq_true rfl))).mp c_268
                      replace hsp := hsp.trans (if_pos c_268)
                      replace hsp := hout_265 _ hsp
                      refine lv_iinc (v := (nI (g_171 + 1))) (lv' := [(5, .int (nI (g_171 + 1))), (0, .ref (ad 0)), (1, .int (nI a0)), (2, .int p1), (3, .int p2), (4, .int p3), (6, .int (nI g_257)), (7, .long g_258), (9, .long g_259), (11, .int g_256)]) hx hb dX9_hasTimes_149 hl (k := 5) rfl (nI_1 _) (by decide) rfl (fun ls hl => ?_)
                      refine lv_goto (tgt := 3) hx hb dX9_hasTimes_152 (by decide) ?_
                      exact ih_175 (3 - (g_171 + 1)) (by omega) _ _ _ ⟨g_256, (g_171 + 1), (nI g_257), g_258, g_259, rfl, (by omega), hin_179 _ hsp, hP, hD, hS, lv_sub hl [1, 2, 3, 4, 5, 0, 6, 7, 8, 9] rfl⟩
                    · have c_268 : ¬ u_267 ≤ g_257 := fun z => c_268 ((nI_leI (a := u_267) (b := g_257) (Nat.lt_of_le_of_lt hu_267 (Nat.le_of_ble_eq_true rfl)) (Nat.lt_of_le_of_lt hg_257 (Nat.le_of_ble_eq_true rfl))).mpr z)
                      replace hsp := hsp.trans (if_neg c_268)
                      refine lv_iload hx hb dX9_hasTimes_24 (lv_at hl 5 rfl) ?_
                      obtain ⟨JR_271, hJR_271, hsp⟩ := slet_ex hsp
                      refine pu_join (fun H locs ls st => ∃ (g_269 : Int64), st = [.long g_269] ∧ g_269 = JR_271 ∧ va_P (dC, dI) vwCl (mo_w ad ck x0 (nI x16) (nI x18) (nI x19) x20 (nI x21) (nI x22) x23 x24 x25 (nI x26) x27 (nI x28) (nI x29) (nI x30) (nI x33) x45 (nI x46) (nI x52) (nI x53) (nI x61) (nI x62) (nI x63) (nI x65) x66 f1 f2 f3 (bN 3 q4) (bN 7 q5) (bN 7 q6) (bN 4 q7) f8 (bN 2 q9) (bH q10) f11 (b2 m12_0 m12_1) (b2 m13_0 m13_1) (b2 m14_0 m14_1) (b2m m15_0 m15_1) f17 (bA 159 q31) f32 f34 f35 f36 f37 (bN 7 q38) f39 f40 f41 (b2 m42_0 m42_1) f43 f44 f47 f48 f49 f50 f51 (bN 13 q54) (bN 120 q55) (bN 120 q56) f57 (bN 120 q58) f59 f60 f64) H ∧ va_D (fun _ => True) (mo_w ad ck x0 (nI x16) (nI x18) (nI x19) x20 (nI x21) (nI x22) x23 x24 x25 (nI x26) x27 (nI x28) (nI x29) (nI x30) (nI x33) x45 (nI x46) (nI x52) (nI x53) (nI x61) (nI x62) (nI x63) (nI x65) x66 f1 f2 f3 (bN 3 q4) (bN 7 q5) (bN 7 q6) (bN 4 q7) f8 (bN 2 q9) (bH q10) f11 (b2 m12_0 m12_1) (b2 m13_0 m13_1) (b2 m14_0 m14_1) (b2m m15_0 m15_1) f17 (bA 159 q31) f32 f34 f35 f36 f37 (bN 7 q38) f39 f40 f41 (b2 m42_0 m42_1) f43 f44 f47 f48 f49 f50 f51 (bN 13 q54) (bN 120 q55) (bN 120 q56) f57 (bN 120 q58) f59 f60 f64) ∧ va_S (va_A [] s.heap.size) s.heap H locs ∧ lv_has ls 12 [(0, .ref (ad 0)), (1, .int (nI a0)), (2, .int p1), (3, .int p2), (4, .int p3), (5, .int (nI g_171)), (6, .int (nI g_257)), (7, .long g_258), (9, .long g_259), (11, .int g_256)]) 58 ?_ (fun j_270 => ?_)
                      · rintro H locs ls st ⟨g_269, rfl, he_272, hP, hD, hS, hl⟩
                        rw [← he_272] at hsp
                        refine lv_lstore (lv' := [(7, .long g_269), (0, .ref (ad 0)), (1, .int (nI a0)), (2, .int p1), (3, .int p2), (4, .int p3), (5, .int (nI g_171)), (6, .int (nI g_257)), (9, .long g_259), (11, .int g_256)]) hx hb dX9_hasTimes_58 hl (by decide) rfl (fun ls hl => ?_)
                        refine lv_iload hx hb dX9_hasTimes_60 (lv_at hl 7 rfl) ?_
                        obtain ⟨JR_275, hJR_275, hsp⟩ := slet_ex hsp
                        refine pu_join (fun H locs ls st => ∃ (g_273 : Int64), st = [.long g_273] ∧ g_273 = JR_275 ∧ va_P (dC, dI) vwCl (mo_w ad ck x0 (nI x16) (nI x18) (nI x19) x20 (nI x21) (nI x22) x23 x24 x25 (nI x26) x27 (nI x28) (nI x29) (nI x30) (nI x33) x45 (nI x46) (nI x52) (nI x53) (nI x61) (nI x62) (nI x63) (nI x65) x66 f1 f2 f3 (bN 3 q4) (bN 7 q5) (bN 7 q6) (bN 4 q7) f8 (bN 2 q9) (bH q10) f11 (b2 m12_0 m12_1) (b2 m13_0 m13_1) (b2 m14_0 m14_1) (b2m m15_0 m15_1) f17 (bA 159 q31) f32 f34 f35 f36 f37 (bN 7 q38) f39 f40 f41 (b2 m42_0 m42_1) f43 f44 f47 f48 f49 f50 f51 (bN 13 q54) (bN 120 q55) (bN 120 q56) f57 (bN 120 q58) f59 f60 f64) H ∧ va_D (fun _ => True) (mo_w ad ck x0 (nI x16) (nI x18) (nI x19) x20 (nI x21) (nI x22) x23 x24 x25 (nI x26) x27 (nI x28) (nI x29) (nI x30) (nI x33) x45 (nI x46) (nI x52) (nI x53) (nI x61) (nI x62) (nI x63) (nI x65) x66 f1 f2 f3 (bN 3 q4) (bN 7 q5) (bN 7 q6) (bN 4 q7) f8 (bN 2 q9) (bH q10) f11 (b2 m12_0 m12_1) (b2 m13_0 m13_1) (b2 m14_0 m14_1) (b2m m15_0 m15_1) f17 (bA 159 q31) f32 f34 f35 f36 f37 (bN 7 q38) f39 f40 f41 (b2 m42_0 m42_1) f43 f44 f47 f48 f49 f50 f51 (bN 13 q54) (bN 120 q55) (bN 120 q56) f57 (bN 120 q58) f59 f60 f64) ∧ va_S (va_A [] s.heap.size) s.heap H locs ∧ lv_has ls 12 [(0, .ref (ad 0)), (1, .int (nI a0)), (2, .int p1), (3, .int p2), (4, .int p3), (5, .int (nI g_171)), (6, .int (nI g_257)), (7, .long g_269), (9, .long g_259), (11, .int g_256)]) 94 ?_ (fun j_274 => ?_)
                        · rintro H locs ls st ⟨g_273, rfl, he_276, hP, hD, hS, hl⟩
                          rw [← he_276] at hsp
                          refine lv_lstore (lv' := [(9, .long g_273), (0, .ref (ad 0)), (1, .int (nI a0)), (2, .int p1), (3, .int p2), (4, .int p3), (5, .int (nI g_171)), (6, .int (nI g_257)), (7, .long g_269), (11, .int g_256)]) hx hb dX9_hasTimes_94 hl (by decide) rfl (fun ls hl => ?_)
                          refine lv_aload_n hx hb dX9_hasTimes_96 rfl (lv_at hl 1 rfl) ?_
                          refine lv_iload_n hx hb dX9_hasTimes_97 rfl (lv_at hl 2 rfl) ?_
                          refine lv_iload hx hb dX9_hasTimes_98 (lv_at hl 6 rfl) ?_
                          refine lv_iload hx hb dX9_hasTimes_100 (lv_at hl 7 rfl) ?_
                          refine va_calli (va_runV (As := [.int (nI a0), .int (nI g_171), .int (nI g_257)]) (rest := []) ⟨hx, hb, hml, hown, hts⟩ (c_EM_boundOf_11 l dC dI _ ad ck x0 x16 x18 x19 x20 x21 x22 x23 x24 x25 x26 x27 x28 x29 x30 x33 x45 x46 x52 x53 x61 x62 x63 x65 x66 f1 f2 f3 q4 q5 q6 q7 f8 q9 q10 f11 m12_0 m12_1 m13_0 m13_1 m14_0 m14_1 m15_0 m15_1 f17 q31 f32 f34 f35 f36 f37 q38 f39 f40 f41 m42_0 m42_1 f43 f44 f47 f48 f49 f50 f51 q54 q55 q56 f57 q58 f59 f60 f64 a0 g_171 g_257 hx16 hx18 hx19 hx21 hx22 hx26 hx28 hx29 hx30 hx33 hx46 hx52 hx53 hx61 hx62 hx63 hx65 hm12_0 hm12_1 hm13_0 hm13_1 hm14_0 hm14_1 hm15_0 hm15_1 hm42_0 hm42_1 ha0 hg_171 hg_257) (cwV 3 hts g_EM_hasTimes_EM_boundOf_11 rfl rfl rfl (by decide +kernel) ⟨Nat.le_of_ble_eq_true rfl, Nat.le_of_ble_eq_true rfl⟩) ⟨pu_bl, va_recv hK hP (ci := 9) (q0 := 0) rfl rfl, pu_in hP hK hD⟩ rfl rfl hl.1 rfl (lv_room (Nat.le_of_ble_eq_true rfl)) dX9_hasTimes_102 ⟨Nat.le_of_ble_eq_true rfl, Nat.le_of_ble_eq_true rfl⟩) hS (fun q _ h => pu_fr hS hA q h) (pu_fr hS hA) (fun r_277 u t H1 locs ht hvm hw hB hz1 hk1 hS => ?_)
                          have hP := pu_keep hP hk1
                          clear hk1 hz1 ht hvm
                          generalize H1 = H at hP hS ⊢
                          have ir_277 := hw
                          replace hsp := hsp.trans (slet_eq ir_277)
                          refine lv_istore (lv' := [(11, .int r_277), (9, .long g_273), (0, .ref (ad 0)), (1, .int (nI a0)), (2, .int p1), (3, .int p2), (4, .int p3), (5, .int (nI g_171)), (6, .int (nI g_257)), (7, .long g_269)]) hx hb dX9_hasTimes_105 hl (by decide) rfl (fun ls hl => ?_)
                          refine lv_iload hx hb dX9_hasTimes_107 (lv_at hl 0 rfl) ?_
                          refine lv_ldcw hx hb hown v_10 dX9_hasTimes_109 ?_
                          refine lv_icmp_ge (tgt := 143) hx hb dX9_hasTimes_112 (by decide) (fun c_278 => ?_) (fun c_278 => ?_)
                          · have hcc_278 := c_278
                            replace hsp := hsp.trans (if_pos c_278)
                            refine lv_iinc (v := (nI (g_257 + 1))) (lv' := [(6, .int (nI (g_257 + 1))), (11, .int r_277), (9, .long g_273), (0, .ref (ad 0)), (1, .int (nI a0)), (2, .int p1), (3, .int p2), (4, .int p3), (5, .int (nI g_171)), (7, .long g_269)]) hx hb dX9_hasTimes_143 hl (k := 8) rfl (nI_1 _) (by decide) rfl (fun ls hl => ?_)
                            refine lv_goto (tgt := 15) hx hb dX9_hasTimes_146 (by decide) ?_
                            exact ih_260 (3 - (g_257 + 1)) (by omega) _ _ _ ⟨r_277, (g_257 + 1), g_269, g_273, rfl, (by omega), hin_264 _ hsp, hP, hD, hS, lv_sub hl [3, 4, 5, 6, 7, 8, 0, 9, 2, 1] rfl⟩
                          · have hcc_278 := c_278
                            replace hsp := hsp.trans (if_neg c_278)
                            refine lv_lload hx hb dX9_hasTimes_115 (lv_at hl 9 rfl) ?_
                            refine lv_lload hx hb dX9_hasTimes_117 (lv_at hl 1 rfl) ?_
                            refine lv_lsub hx hb dX9_hasTimes_119 ?_
                            refine lv_topl (fun y_279 ey_279 => ?_)
                            replace hsp := hsp.trans (slet_eq ey_279)
                            refine lv_iload hx hb dX9_hasTimes_120 (lv_at hl 0 rfl) ?_
                            refine lv_iconst (v := 1) hx hb dX9_hasTimes_122 (by decide) ?_
                            refine lv_ishr hx hb dX9_hasTimes_123 ?_
                            refine lv_topi (fun y_280 ey_280 => ?_)
                            replace hsp := hsp.trans (slet_eq ey_280)
                            refine lv_i2l (v := y_280.toInt64) hx hb dX9_hasTimes_124 rfl ?_
                            refine lv_topl (fun y_281 ey_281 => ?_)
                            replace hsp := hsp.trans (slet_eq ey_281)
                            refine lv_ldc2 (v := (256)) hx hb hown v_11 dX9_hasTimes_125 ?_
                            refine lv_lmul hx hb dX9_hasTimes_128 ?_
                            refine lv_topl (fun y_282 ey_282 => ?_)
                            replace hsp := hsp.trans (slet_eq ey_282)
                            refine lv_lconst (v := (1 : Int64)) hx hb dX9_hasTimes_129 rfl ?_
                            refine lv_lsub hx hb dX9_hasTimes_130 ?_
                            refine lv_topl (fun y_283 ey_283 => ?_)
                            replace hsp := hsp.trans (slet_eq ey_283)
                            refine lv_iload hx hb dX9_hasTimes_131 (lv_at hl 0 rfl) ?_
                            refine lv_iconst (v := 1) hx hb dX9_hasTimes_133 (by decide) ?_
                            refine lv_iand hx hb dX9_hasTimes_134 ?_
                            refine lv_topi (fun y_284 ey_284 => ?_)
                            replace hsp := hsp.trans (slet_eq ey_284)
                            refine lv_i2l (v := y_284.toInt64) hx hb dX9_hasTimes_135 rfl ?_
                            refine lv_topl (fun y_285 ey_285 => ?_)
                            replace hsp := hsp.trans (slet_eq ey_285)
                            refine lv_ladd hx hb dX9_hasTimes_136 ?_
                            refine lv_topl (fun y_286 ey_286 => ?_)
                            replace hsp := hsp.trans (slet_eq ey_286)
                            refine W.lcmp hx hb dX9_hasTimes_137 ?_
                            refine lv_topi (fun y_287 ey_287 => ?_)
                            replace hsp := hsp.trans (slet_eq ey_287)
                            refine lv_if_le (tgt := 143) hx hb dX9_hasTimes_138 (by decide) (fun c_288 => ?_) (fun c_288 => ?_)
                            · have hcc_288 := c_288
                              replace hsp := hsp.trans (if_pos c_288)
                              refine lv_iinc (v := (nI (g_257 + 1))) (lv' := [(6, .int (nI (g_257 + 1))), (11, .int r_277), (9, .long g_273), (0, .ref (ad 0)), (1, .int (nI a0)), (2, .int p1), (3, .int p2), (4, .int p3), (5, .int (nI g_171)), (7, .long g_269)]) hx hb dX9_hasTimes_143 hl (k := 8) rfl (nI_1 _) (by decide) rfl (fun ls hl => ?_)
                              refine lv_goto (tgt := 15) hx hb dX9_hasTimes_146 (by decide) ?_
                              exact ih_260 (3 - (g_257 + 1)) (by omega) _ _ _ ⟨r_277, (g_257 + 1), g_269, g_273, rfl, (by omega), hin_264 _ hsp, hP, hD, hS, lv_sub hl [3, 4, 5, 6, 7, 8, 0, 9, 2, 1] rfl⟩
                            · have hcc_288 := c_288
                              replace hsp := hsp.trans (if_neg c_288)
                              replace hsp := hout_265 _ hsp
                              replace hsp := hout_180 _ hsp
                              refine lv_iconst (v := 0) hx hb dX9_hasTimes_141 (by decide) ?_
                              exact W.zret (v := 0) (ty := .boolean) hx hb hr (rfl) (fun t ht hW => ⟨⟨0, (), rfl, ⟨0, (Nat.le_of_ble_eq_true rfl), rfl, (hsp.symm.trans hRR)⟩, trivial⟩, hS.F ht⟩) hS.2.2 dX9_hasTimes_142
                        have hsp := hJR_275
                        refine lv_if_ne (tgt := 70) hx hb dX9_hasTimes_62 (by decide) (fun c_289 => ?_) (fun c_289 => ?_)
                        · have c_289 : ¬ g_257 = 0 := fun z => c_289 ((nI_eq (a := g_257) (b := 0) (Nat.lt_of_le_of_lt hg_257 (Nat.le_of_ble_eq_true rfl)) (Nat.le_of_ble_eq_true rfl)).mpr z)
                          replace hsp := hsp.trans (if_neg c_289)
                          refine lv_iload hx hb dX9_hasTimes_70 (lv_at hl 7 rfl) ?_
                          refine lv_iconst (v := 1) hx hb dX9_hasTimes_72 (by decide) ?_
                          refine lv_icmp_ne (tgt := 81) hx hb dX9_hasTimes_73 (by decide) (fun c_290 => ?_) (fun c_290 => ?_)
                          · have c_290 : ¬ g_257 = 1 := fun z => c_290 ((nI_eq (a := g_257) (b := 1) (Nat.lt_of_le_of_lt hg_257 (Nat.le_of_ble_eq_true rfl)) (Nat.le_of_ble_eq_true rfl)).mpr z)
                            replace hsp := hsp.trans (if_neg c_290)
                            refine lv_iload hx hb dX9_hasTimes_81 (lv_at hl 7 rfl) ?_
                            refine lv_iconst (v := 2) hx hb dX9_hasTimes_83 (by decide) ?_
                            refine lv_icmp_ne (tgt := 93) hx hb dX9_hasTimes_84 (by decide) (fun c_291 => ?_) (fun c_291 => ?_)
                            · have c_291 : ¬ g_257 = 2 := fun z => c_291 ((nI_eq (a := g_257) (b := 2) (Nat.lt_of_le_of_lt hg_257 (Nat.le_of_ble_eq_true rfl)) (Nat.le_of_ble_eq_true rfl)).mpr z)
                              exfalso
                              omega
                            · have c_291 : g_257 = 2 := (nI_eq (a := g_257) (b := 2) (Nat.lt_of_le_of_lt hg_257 (Nat.le_of_ble_eq_true rfl)) (Nat.le_of_ble_eq_true rfl)).mp c_291
                              refine lv_iload hx hb dX9_hasTimes_87 (lv_at hl 5 rfl) ?_
                              refine lv_i2l (v := p3.toInt64) hx hb dX9_hasTimes_89 rfl ?_
                              refine lv_topl (fun y_292 ey_292 => ?_)
                              replace hsp := hsp.trans (slet_eq ey_292)
                              refine lv_goto (tgt := 94) hx hb dX9_hasTimes_90 (by decide) ?_
                              exact j_274 _ _ _ _ ⟨y_292, rfl, hsp.symm, hP, hD, hS, lv_sub hl [1, 2, 3, 4, 5, 6, 7, 0, 8, 9] rfl⟩
                          · have c_290 : g_257 = 1 := (nI_eq (a := g_257) (b := 1) (Nat.lt_of_le_of_lt hg_257 (Nat.le_of_ble_eq_true rfl)) (Nat.le_of_ble_eq_true rfl)).mp c_290
                            replace hsp := hsp.trans (if_pos c_290)
                            refine lv_iload_n hx hb dX9_hasTimes_76 rfl (lv_at hl 4 rfl) ?_
                            refine lv_i2l (v := p2.toInt64) hx hb dX9_hasTimes_77 rfl ?_
                            refine lv_topl (fun y_293 ey_293 => ?_)
                            replace hsp := hsp.trans (slet_eq ey_293)
                            refine lv_goto (tgt := 94) hx hb dX9_hasTimes_78 (by decide) ?_
                            exact j_274 _ _ _ _ ⟨y_293, rfl, hsp.symm, hP, hD, hS, lv_sub hl [1, 2, 3, 4, 5, 6, 7, 0, 8, 9] rfl⟩
                        · have c_289 : g_257 = 0 := (nI_eq (a := g_257) (b := 0) (Nat.lt_of_le_of_lt hg_257 (Nat.le_of_ble_eq_true rfl)) (Nat.le_of_ble_eq_true rfl)).mp c_289
                          replace hsp := hsp.trans (if_pos c_289)
                          refine lv_iload_n hx hb dX9_hasTimes_65 rfl (lv_at hl 3 rfl) ?_
                          refine lv_i2l (v := p1.toInt64) hx hb dX9_hasTimes_66 rfl ?_
                          refine lv_topl (fun y_294 ey_294 => ?_)
                          replace hsp := hsp.trans (slet_eq ey_294)
                          refine lv_goto (tgt := 94) hx hb dX9_hasTimes_67 (by decide) ?_
                          exact j_274 _ _ _ _ ⟨y_294, rfl, hsp.symm, hP, hD, hS, lv_sub hl [1, 2, 3, 4, 5, 6, 7, 0, 8, 9] rfl⟩
                      have hsp := hJR_271
                      refine lv_if_ne (tgt := 34) hx hb dX9_hasTimes_26 (by decide) (fun c_295 => ?_) (fun c_295 => ?_)
                      · have c_295 : ¬ g_171 = 0 := fun z => c_295 ((nI_eq (a := g_171) (b := 0) (Nat.lt_of_le_of_lt hg_171 (Nat.le_of_ble_eq_true rfl)) (Nat.le_of_ble_eq_true rfl)).mpr z)
                        replace hsp := hsp.trans (if_neg c_295)
                        refine lv_iload hx hb dX9_hasTimes_34 (lv_at hl 5 rfl) ?_
                        refine lv_iconst (v := 1) hx hb dX9_hasTimes_36 (by decide) ?_
                        refine lv_icmp_ne (tgt := 45) hx hb dX9_hasTimes_37 (by decide) (fun c_296 => ?_) (fun c_296 => ?_)
                        · have c_296 : ¬ g_171 = 1 := fun z => c_296 ((nI_eq (a := g_171) (b := 1) (Nat.lt_of_le_of_lt hg_171 (Nat.le_of_ble_eq_true rfl)) (Nat.le_of_ble_eq_true rfl)).mpr z)
                          replace hsp := hsp.trans (if_neg c_296)
                          refine lv_iload hx hb dX9_hasTimes_45 (lv_at hl 5 rfl) ?_
                          refine lv_iconst (v := 2) hx hb dX9_hasTimes_47 (by decide) ?_
                          refine lv_icmp_ne (tgt := 57) hx hb dX9_hasTimes_48 (by decide) (fun c_297 => ?_) (fun c_297 => ?_)
                          · have c_297 : ¬ g_171 = 2 := fun z => c_297 ((nI_eq (a := g_171) (b := 2) (Nat.lt_of_le_of_lt hg_171 (Nat.le_of_ble_eq_true rfl)) (Nat.le_of_ble_eq_true rfl)).mpr z)
                            exfalso
                            omega
                          · have c_297 : g_171 = 2 := (nI_eq (a := g_171) (b := 2) (Nat.lt_of_le_of_lt hg_171 (Nat.le_of_ble_eq_true rfl)) (Nat.le_of_ble_eq_true rfl)).mp c_297
                            refine lv_iload hx hb dX9_hasTimes_51 (lv_at hl 4 rfl) ?_
                            refine lv_i2l (v := p3.toInt64) hx hb dX9_hasTimes_53 rfl ?_
                            refine lv_topl (fun y_298 ey_298 => ?_)
                            replace hsp := hsp.trans (slet_eq ey_298)
                            refine lv_goto (tgt := 58) hx hb dX9_hasTimes_54 (by decide) ?_
                            exact j_270 _ _ _ _ ⟨y_298, rfl, hsp.symm, hP, hD, hS, lv_sub hl [0, 1, 2, 3, 4, 5, 6, 7, 8, 9] rfl⟩
                        · have c_296 : g_171 = 1 := (nI_eq (a := g_171) (b := 1) (Nat.lt_of_le_of_lt hg_171 (Nat.le_of_ble_eq_true rfl)) (Nat.le_of_ble_eq_true rfl)).mp c_296
                          replace hsp := hsp.trans (if_pos c_296)
                          refine lv_iload_n hx hb dX9_hasTimes_40 rfl (lv_at hl 3 rfl) ?_
                          refine lv_i2l (v := p2.toInt64) hx hb dX9_hasTimes_41 rfl ?_
                          refine lv_topl (fun y_299 ey_299 => ?_)
                          replace hsp := hsp.trans (slet_eq ey_299)
                          refine lv_goto (tgt := 58) hx hb dX9_hasTimes_42 (by decide) ?_
                          exact j_270 _ _ _ _ ⟨y_299, rfl, hsp.symm, hP, hD, hS, lv_sub hl [0, 1, 2, 3, 4, 5, 6, 7, 8, 9] rfl⟩
                      · have c_295 : g_171 = 0 := (nI_eq (a := g_171) (b := 0) (Nat.lt_of_le_of_lt hg_171 (Nat.le_of_ble_eq_true rfl)) (Nat.le_of_ble_eq_true rfl)).mp c_295
                        replace hsp := hsp.trans (if_pos c_295)
                        refine lv_iload_n hx hb dX9_hasTimes_29 rfl (lv_at hl 2 rfl) ?_
                        refine lv_i2l (v := p1.toInt64) hx hb dX9_hasTimes_30 rfl ?_
                        refine lv_topl (fun y_300 ey_300 => ?_)
                        replace hsp := hsp.trans (slet_eq ey_300)
                        refine lv_goto (tgt := 58) hx hb dX9_hasTimes_31 (by decide) ?_
                        exact j_270 _ _ _ _ ⟨y_300, rfl, hsp.symm, hP, hD, hS, lv_sub hl [0, 1, 2, 3, 4, 5, 6, 7, 8, 9] rfl⟩
                  · have hcc_251 := c_251
                    replace hsp := hsp.trans (if_neg c_251)
                    replace hsp := hout_180 _ hsp
                    refine lv_iconst (v := 0) hx hb dX9_hasTimes_141 (by decide) ?_
                    exact W.zret (v := 0) (ty := .boolean) hx hb hr (rfl) (fun t ht hW => ⟨⟨0, (), rfl, ⟨0, (Nat.le_of_ble_eq_true rfl), rfl, (hsp.symm.trans hRR)⟩, trivial⟩, hS.F ht⟩) hS.2.2 dX9_hasTimes_142
              have hsp := hJR_189
              refine lv_if_ne (tgt := 34) hx hb dX9_hasTimes_26 (by decide) (fun c_301 => ?_) (fun c_301 => ?_)
              · have c_301 : ¬ g_171 = 0 := fun z => c_301 ((nI_eq (a := g_171) (b := 0) (Nat.lt_of_le_of_lt hg_171 (Nat.le_of_ble_eq_true rfl)) (Nat.le_of_ble_eq_true rfl)).mpr z)
                replace hsp := hsp.trans (if_neg c_301)
                refine lv_iload hx hb dX9_hasTimes_34 (lv_at hl 6 rfl) ?_
                refine lv_iconst (v := 1) hx hb dX9_hasTimes_36 (by decide) ?_
                refine lv_icmp_ne (tgt := 45) hx hb dX9_hasTimes_37 (by decide) (fun c_302 => ?_) (fun c_302 => ?_)
                · have c_302 : ¬ g_171 = 1 := fun z => c_302 ((nI_eq (a := g_171) (b := 1) (Nat.lt_of_le_of_lt hg_171 (Nat.le_of_ble_eq_true rfl)) (Nat.le_of_ble_eq_true rfl)).mpr z)
                  replace hsp := hsp.trans (if_neg c_302)
                  refine lv_iload hx hb dX9_hasTimes_45 (lv_at hl 6 rfl) ?_
                  refine lv_iconst (v := 2) hx hb dX9_hasTimes_47 (by decide) ?_
                  refine lv_icmp_ne (tgt := 57) hx hb dX9_hasTimes_48 (by decide) (fun c_303 => ?_) (fun c_303 => ?_)
                  · have c_303 : ¬ g_171 = 2 := fun z => c_303 ((nI_eq (a := g_171) (b := 2) (Nat.lt_of_le_of_lt hg_171 (Nat.le_of_ble_eq_true rfl)) (Nat.le_of_ble_eq_true rfl)).mpr z)
                    exfalso
                    omega
                  · have c_303 : g_171 = 2 := (nI_eq (a := g_171) (b := 2) (Nat.lt_of_le_of_lt hg_171 (Nat.le_of_ble_eq_true rfl)) (Nat.le_of_ble_eq_true rfl)).mp c_303
                    refine lv_iload hx hb dX9_hasTimes_51 (lv_at hl 5 rfl) ?_
                    refine lv_i2l (v := p3.toInt64) hx hb dX9_hasTimes_53 rfl ?_
                    refine lv_topl (fun y_304 ey_304 => ?_)
                    replace hsp := hsp.trans (slet_eq ey_304)
                    refine lv_goto (tgt := 58) hx hb dX9_hasTimes_54 (by decide) ?_
                    exact j_188 _ _ _ _ ⟨y_304, rfl, hsp.symm, hP, hD, hS, lv_sub hl [1, 2, 3, 4, 5, 6, 0, 7, 8, 9] rfl⟩
                · have c_302 : g_171 = 1 := (nI_eq (a := g_171) (b := 1) (Nat.lt_of_le_of_lt hg_171 (Nat.le_of_ble_eq_true rfl)) (Nat.le_of_ble_eq_true rfl)).mp c_302
                  replace hsp := hsp.trans (if_pos c_302)
                  refine lv_iload_n hx hb dX9_hasTimes_40 rfl (lv_at hl 4 rfl) ?_
                  refine lv_i2l (v := p2.toInt64) hx hb dX9_hasTimes_41 rfl ?_
                  refine lv_topl (fun y_305 ey_305 => ?_)
                  replace hsp := hsp.trans (slet_eq ey_305)
                  refine lv_goto (tgt := 58) hx hb dX9_hasTimes_42 (by decide) ?_
                  exact j_188 _ _ _ _ ⟨y_305, rfl, hsp.symm, hP, hD, hS, lv_sub hl [1, 2, 3, 4, 5, 6, 0, 7, 8, 9] rfl⟩
              · have c_301 : g_171 = 0 := (nI_eq (a := g_171) (b := 0) (Nat.lt_of_le_of_lt hg_171 (Nat.le_of_ble_eq_true rfl)) (Nat.le_of_ble_eq_true rfl)).mp c_301
                replace hsp := hsp.trans (if_pos c_301)
                refine lv_iload_n hx hb dX9_hasTimes_29 rfl (lv_at hl 3 rfl) ?_
                refine lv_i2l (v := p1.toInt64) hx hb dX9_hasTimes_30 rfl ?_
                refine lv_topl (fun y_306 ey_306 => ?_)
                replace hsp := hsp.trans (slet_eq ey_306)
                refine lv_goto (tgt := 58) hx hb dX9_hasTimes_31 (by decide) ?_
                exact j_188 _ _ _ _ ⟨y_306, rfl, hsp.symm, hP, hD, hS, lv_sub hl [1, 2, 3, 4, 5, 6, 0, 7, 8, 9] rfl⟩
        · have c_164 : ¬ u_163 ≤ g_153 := fun z => c_164 ((nI_leI (a := u_163) (b := g_153) (Nat.lt_of_le_of_lt hu_163 (Nat.le_of_ble_eq_true rfl)) (Nat.lt_of_le_of_lt hg_153 (Nat.le_of_ble_eq_true rfl))).mpr z)
          replace hsp := hsp.trans (if_neg c_164)
          refine lv_iload hx hb dX9_hasTimes_24 (lv_at hl 5 rfl) ?_
          refine lv_if_ne (tgt := 34) hx hb dX9_hasTimes_26 (by decide) (fun _ => ?_) (fun z => absurd z (by decide))
          refine lv_iload hx hb dX9_hasTimes_34 (lv_at hl 5 rfl) ?_
          refine lv_iconst (v := 1) hx hb dX9_hasTimes_36 (by decide) ?_
          refine lv_icmp_ne (tgt := 45) hx hb dX9_hasTimes_37 (by decide) (fun _ => ?_) (fun z => absurd z (by decide))
          refine lv_iload hx hb dX9_hasTimes_45 (lv_at hl 5 rfl) ?_
          refine lv_iconst (v := 2) hx hb dX9_hasTimes_47 (by decide) ?_
          refine lv_icmp_ne (tgt := 57) hx hb dX9_hasTimes_48 (by decide) (fun _ => ?_) (fun z => absurd z (by decide))
          refine lv_lconst (v := (0 : Int64)) hx hb dX9_hasTimes_57 rfl ?_
          refine lv_lstore (lv' := [(7, .long (0 : Int64)), (0, .ref (ad 0)), (1, .int (nI a0)), (2, .int p1), (3, .int p2), (4, .int p3), (5, .int (-1)), (6, .int (nI g_153)), (9, .long g_155), (11, .int g_152)]) hx hb dX9_hasTimes_58 hl (by decide) rfl (fun ls hl => ?_)
          refine lv_iload hx hb dX9_hasTimes_60 (lv_at hl 7 rfl) ?_
          obtain ⟨JR_309, hJR_309, hsp⟩ := slet_ex hsp
          refine pu_join (fun H locs ls st => ∃ (g_307 : Int64), st = [.long g_307] ∧ g_307 = JR_309 ∧ va_P (dC, dI) vwCl (mo_w ad ck x0 (nI x16) (nI x18) (nI x19) x20 (nI x21) (nI x22) x23 x24 x25 (nI x26) x27 (nI x28) (nI x29) (nI x30) (nI x33) x45 (nI x46) (nI x52) (nI x53) (nI x61) (nI x62) (nI x63) (nI x65) x66 f1 f2 f3 (bN 3 q4) (bN 7 q5) (bN 7 q6) (bN 4 q7) f8 (bN 2 q9) (bH q10) f11 (b2 m12_0 m12_1) (b2 m13_0 m13_1) (b2 m14_0 m14_1) (b2m m15_0 m15_1) f17 (bA 159 q31) f32 f34 f35 f36 f37 (bN 7 q38) f39 f40 f41 (b2 m42_0 m42_1) f43 f44 f47 f48 f49 f50 f51 (bN 13 q54) (bN 120 q55) (bN 120 q56) f57 (bN 120 q58) f59 f60 f64) H ∧ va_D (fun _ => True) (mo_w ad ck x0 (nI x16) (nI x18) (nI x19) x20 (nI x21) (nI x22) x23 x24 x25 (nI x26) x27 (nI x28) (nI x29) (nI x30) (nI x33) x45 (nI x46) (nI x52) (nI x53) (nI x61) (nI x62) (nI x63) (nI x65) x66 f1 f2 f3 (bN 3 q4) (bN 7 q5) (bN 7 q6) (bN 4 q7) f8 (bN 2 q9) (bH q10) f11 (b2 m12_0 m12_1) (b2 m13_0 m13_1) (b2 m14_0 m14_1) (b2m m15_0 m15_1) f17 (bA 159 q31) f32 f34 f35 f36 f37 (bN 7 q38) f39 f40 f41 (b2 m42_0 m42_1) f43 f44 f47 f48 f49 f50 f51 (bN 13 q54) (bN 120 q55) (bN 120 q56) f57 (bN 120 q58) f59 f60 f64) ∧ va_S (va_A [] s.heap.size) s.heap H locs ∧ lv_has ls 12 [(0, .ref (ad 0)), (1, .int (nI a0)), (2, .int p1), (3, .int p2), (4, .int p3), (5, .int (-1)), (6, .int (nI g_153)), (7, .long (0 : Int64)), (9, .long g_155), (11, .int g_152)]) 94 ?_ (fun j_308 => ?_)
          · rintro H locs ls st ⟨g_307, rfl, he_310, hP, hD, hS, hl⟩
            rw [← he_310] at hsp
            refine lv_lstore (lv' := [(9, .long g_307), (0, .ref (ad 0)), (1, .int (nI a0)), (2, .int p1), (3, .int p2), (4, .int p3), (5, .int (-1)), (6, .int (nI g_153)), (7, .long (0 : Int64)), (11, .int g_152)]) hx hb dX9_hasTimes_94 hl (by decide) rfl (fun ls hl => ?_)
            refine lv_aload_n hx hb dX9_hasTimes_96 rfl (lv_at hl 1 rfl) ?_
            refine lv_iload_n hx hb dX9_hasTimes_97 rfl (lv_at hl 2 rfl) ?_
            refine lv_iload hx hb dX9_hasTimes_98 (lv_at hl 6 rfl) ?_
            refine lv_iload hx hb dX9_hasTimes_100 (lv_at hl 7 rfl) ?_
            refine va_calli (va_runV (As := [.int (nI a0), .int (-1), .int (nI g_153)]) (rest := []) ⟨hx, hb, hml, hown, hts⟩ (c_EM_boundOf_01 l dC dI _ ad ck x0 x16 x18 x19 x20 x21 x22 x23 x24 x25 x26 x27 x28 x29 x30 x33 x45 x46 x52 x53 x61 x62 x63 x65 x66 f1 f2 f3 q4 q5 q6 q7 f8 q9 q10 f11 m12_0 m12_1 m13_0 m13_1 m14_0 m14_1 m15_0 m15_1 f17 q31 f32 f34 f35 f36 f37 q38 f39 f40 f41 m42_0 m42_1 f43 f44 f47 f48 f49 f50 f51 q54 q55 q56 f57 q58 f59 f60 f64 a0 g_153 hx16 hx18 hx19 hx21 hx22 hx26 hx28 hx29 hx30 hx33 hx46 hx52 hx53 hx61 hx62 hx63 hx65 hm12_0 hm12_1 hm13_0 hm13_1 hm14_0 hm14_1 hm15_0 hm15_1 hm42_0 hm42_1 ha0 hg_153) (cwV 3 hts g_EM_hasTimes_EM_boundOf_01 rfl rfl rfl (by decide +kernel) ⟨Nat.le_of_ble_eq_true rfl, Nat.le_of_ble_eq_true rfl⟩) ⟨pu_bl, va_recv hK hP (ci := 9) (q0 := 0) rfl rfl, pu_in hP hK hD⟩ rfl rfl hl.1 rfl (lv_room (Nat.le_of_ble_eq_true rfl)) dX9_hasTimes_102 ⟨Nat.le_of_ble_eq_true rfl, Nat.le_of_ble_eq_true rfl⟩) hS (fun q _ h => pu_fr hS hA q h) (pu_fr hS hA) (fun r_311 u t H1 locs ht hvm hw hB hz1 hk1 hS => ?_)
            have hP := pu_keep hP hk1
            clear hk1 hz1 ht hvm
            generalize H1 = H at hP hS ⊢
            have ir_311 := hw
            replace hsp := hsp.trans (slet_eq ir_311)
            refine lv_istore (lv' := [(11, .int r_311), (9, .long g_307), (0, .ref (ad 0)), (1, .int (nI a0)), (2, .int p1), (3, .int p2), (4, .int p3), (5, .int (-1)), (6, .int (nI g_153)), (7, .long (0 : Int64))]) hx hb dX9_hasTimes_105 hl (by decide) rfl (fun ls hl => ?_)
            refine lv_iload hx hb dX9_hasTimes_107 (lv_at hl 0 rfl) ?_
            refine lv_ldcw hx hb hown v_10 dX9_hasTimes_109 ?_
            refine lv_icmp_ge (tgt := 143) hx hb dX9_hasTimes_112 (by decide) (fun c_312 => ?_) (fun c_312 => ?_)
            · have hcc_312 := c_312
              replace hsp := hsp.trans (if_pos c_312)
              refine lv_iinc (v := (nI (g_153 + 1))) (lv' := [(6, .int (nI (g_153 + 1))), (11, .int r_311), (9, .long g_307), (0, .ref (ad 0)), (1, .int (nI a0)), (2, .int p1), (3, .int p2), (4, .int p3), (5, .int (-1)), (7, .long (0 : Int64))]) hx hb dX9_hasTimes_143 hl (k := 8) rfl (nI_1 _) (by decide) rfl (fun ls hl => ?_)
              refine lv_goto (tgt := 15) hx hb dX9_hasTimes_146 (by decide) ?_
              exact ih_156 (3 - (g_153 + 1)) (by omega) _ _ _ ⟨r_311, (g_153 + 1), (0 : Int64), g_307, rfl, (by omega), hin_160 _ hsp, hP, hD, hS, lv_sub hl [3, 4, 5, 6, 7, 8, 0, 9, 2, 1] rfl⟩
            · have hcc_312 := c_312
              replace hsp := hsp.trans (if_neg c_312)
              refine lv_lload hx hb dX9_hasTimes_115 (lv_at hl 9 rfl) ?_
              refine lv_lload hx hb dX9_hasTimes_117 (lv_at hl 1 rfl) ?_
              refine lv_lsub hx hb dX9_hasTimes_119 ?_
              refine lv_topl (fun y_313 ey_313 => ?_)
              replace hsp := hsp.trans (slet_eq ey_313)
              refine lv_iload hx hb dX9_hasTimes_120 (lv_at hl 0 rfl) ?_
              refine lv_iconst (v := 1) hx hb dX9_hasTimes_122 (by decide) ?_
              refine lv_ishr hx hb dX9_hasTimes_123 ?_
              refine lv_topi (fun y_314 ey_314 => ?_)
              replace hsp := hsp.trans (slet_eq ey_314)
              refine lv_i2l (v := y_314.toInt64) hx hb dX9_hasTimes_124 rfl ?_
              refine lv_topl (fun y_315 ey_315 => ?_)
              replace hsp := hsp.trans (slet_eq ey_315)
              refine lv_ldc2 (v := (256)) hx hb hown v_11 dX9_hasTimes_125 ?_
              refine lv_lmul hx hb dX9_hasTimes_128 ?_
              refine lv_topl (fun y_316 ey_316 => ?_)
              replace hsp := hsp.trans (slet_eq ey_316)
              refine lv_lconst (v := (1 : Int64)) hx hb dX9_hasTimes_129 rfl ?_
              refine lv_lsub hx hb dX9_hasTimes_130 ?_
              refine lv_topl (fun y_317 ey_317 => ?_)
              replace hsp := hsp.trans (slet_eq ey_317)
              refine lv_iload hx hb dX9_hasTimes_131 (lv_at hl 0 rfl) ?_
              refine lv_iconst (v := 1) hx hb dX9_hasTimes_133 (by decide) ?_
              refine lv_iand hx hb dX9_hasTimes_134 ?_
              refine lv_topi (fun y_318 ey_318 => ?_)
              replace hsp := hsp.trans (slet_eq ey_318)
              refine lv_i2l (v := y_318.toInt64) hx hb dX9_hasTimes_135 rfl ?_
              refine lv_topl (fun y_319 ey_319 => ?_)
              replace hsp := hsp.trans (slet_eq ey_319)
              refine lv_ladd hx hb dX9_hasTimes_136 ?_
              refine lv_topl (fun y_320 ey_320 => ?_)
              replace hsp := hsp.trans (slet_eq ey_320)
              refine W.lcmp hx hb dX9_hasTimes_137 ?_
              refine lv_topi (fun y_321 ey_321 => ?_)
              replace hsp := hsp.trans (slet_eq ey_321)
              refine lv_if_le (tgt := 143) hx hb dX9_hasTimes_138 (by decide) (fun c_322 => ?_) (fun c_322 => ?_)
              · have hcc_322 := c_322
                replace hsp := hsp.trans (if_pos c_322)
                refine lv_iinc (v := (nI (g_153 + 1))) (lv' := [(6, .int (nI (g_153 + 1))), (11, .int r_311), (9, .long g_307), (0, .ref (ad 0)), (1, .int (nI a0)), (2, .int p1), (3, .int p2), (4, .int p3), (5, .int (-1)), (7, .long (0 : Int64))]) hx hb dX9_hasTimes_143 hl (k := 8) rfl (nI_1 _) (by decide) rfl (fun ls hl => ?_)
                refine lv_goto (tgt := 15) hx hb dX9_hasTimes_146 (by decide) ?_
                exact ih_156 (3 - (g_153 + 1)) (by omega) _ _ _ ⟨r_311, (g_153 + 1), (0 : Int64), g_307, rfl, (by omega), hin_160 _ hsp, hP, hD, hS, lv_sub hl [3, 4, 5, 6, 7, 8, 0, 9, 2, 1] rfl⟩
              · have hcc_322 := c_322
                replace hsp := hsp.trans (if_neg c_322)
                replace hsp := hout_161 _ hsp
                refine lv_iconst (v := 0) hx hb dX9_hasTimes_141 (by decide) ?_
                exact W.zret (v := 0) (ty := .boolean) hx hb hr (rfl) (fun t ht hW => ⟨⟨0, (), rfl, ⟨0, (Nat.le_of_ble_eq_true rfl), rfl, (hsp.symm.trans hRR)⟩, trivial⟩, hS.F ht⟩) hS.2.2 dX9_hasTimes_142
          have hsp := hJR_309
          refine lv_if_ne (tgt := 70) hx hb dX9_hasTimes_62 (by decide) (fun c_323 => ?_) (fun c_323 => ?_)
          · have c_323 : ¬ g_153 = 0 := fun z => c_323 ((nI_eq (a := g_153) (b := 0) (Nat.lt_of_le_of_lt hg_153 (Nat.le_of_ble_eq_true rfl)) (Nat.le_of_ble_eq_true rfl)).mpr z)
            replace hsp := hsp.trans (if_neg c_323)
            refine lv_iload hx hb dX9_hasTimes_70 (lv_at hl 7 rfl) ?_
            refine lv_iconst (v := 1) hx hb dX9_hasTimes_72 (by decide) ?_
            refine lv_icmp_ne (tgt := 81) hx hb dX9_hasTimes_73 (by decide) (fun c_324 => ?_) (fun c_324 => ?_)
            · have c_324 : ¬ g_153 = 1 := fun z => c_324 ((nI_eq (a := g_153) (b := 1) (Nat.lt_of_le_of_lt hg_153 (Nat.le_of_ble_eq_true rfl)) (Nat.le_of_ble_eq_true rfl)).mpr z)
              replace hsp := hsp.trans (if_neg c_324)
              refine lv_iload hx hb dX9_hasTimes_81 (lv_at hl 7 rfl) ?_
              refine lv_iconst (v := 2) hx hb dX9_hasTimes_83 (by decide) ?_
              refine lv_icmp_ne (tgt := 93) hx hb dX9_hasTimes_84 (by decide) (fun c_325 => ?_) (fun c_325 => ?_)
              · have c_325 : ¬ g_153 = 2 := fun z => c_325 ((nI_eq (a := g_153) (b := 2) (Nat.lt_of_le_of_lt hg_153 (Nat.le_of_ble_eq_true rfl)) (Nat.le_of_ble_eq_true rfl)).mpr z)
                exfalso
                omega
              · have c_325 : g_153 = 2 := (nI_eq (a := g_153) (b := 2) (Nat.lt_of_le_of_lt hg_153 (Nat.le_of_ble_eq_true rfl)) (Nat.le_of_ble_eq_true rfl)).mp c_325
                refine lv_iload hx hb dX9_hasTimes_87 (lv_at hl 5 rfl) ?_
                refine lv_i2l (v := p3.toInt64) hx hb dX9_hasTimes_89 rfl ?_
                refine lv_topl (fun y_326 ey_326 => ?_)
                replace hsp := hsp.trans (slet_eq ey_326)
                refine lv_goto (tgt := 94) hx hb dX9_hasTimes_90 (by decide) ?_
                exact j_308 _ _ _ _ ⟨y_326, rfl, hsp.symm, hP, hD, hS, lv_sub hl [1, 2, 3, 4, 5, 6, 7, 0, 8, 9] rfl⟩
            · have c_324 : g_153 = 1 := (nI_eq (a := g_153) (b := 1) (Nat.lt_of_le_of_lt hg_153 (Nat.le_of_ble_eq_true rfl)) (Nat.le_of_ble_eq_true rfl)).mp c_324
              replace hsp := hsp.trans (if_pos c_324)
              refine lv_iload_n hx hb dX9_hasTimes_76 rfl (lv_at hl 4 rfl) ?_
              refine lv_i2l (v := p2.toInt64) hx hb dX9_hasTimes_77 rfl ?_
              refine lv_topl (fun y_327 ey_327 => ?_)
              replace hsp := hsp.trans (slet_eq ey_327)
              refine lv_goto (tgt := 94) hx hb dX9_hasTimes_78 (by decide) ?_
              exact j_308 _ _ _ _ ⟨y_327, rfl, hsp.symm, hP, hD, hS, lv_sub hl [1, 2, 3, 4, 5, 6, 7, 0, 8, 9] rfl⟩
          · have c_323 : g_153 = 0 := (nI_eq (a := g_153) (b := 0) (Nat.lt_of_le_of_lt hg_153 (Nat.le_of_ble_eq_true rfl)) (Nat.le_of_ble_eq_true rfl)).mp c_323
            replace hsp := hsp.trans (if_pos c_323)
            refine lv_iload_n hx hb dX9_hasTimes_65 rfl (lv_at hl 3 rfl) ?_
            refine lv_i2l (v := p1.toInt64) hx hb dX9_hasTimes_66 rfl ?_
            refine lv_topl (fun y_328 ey_328 => ?_)
            replace hsp := hsp.trans (slet_eq ey_328)
            refine lv_goto (tgt := 94) hx hb dX9_hasTimes_67 (by decide) ?_
            exact j_308 _ _ _ _ ⟨y_328, rfl, hsp.symm, hP, hD, hS, lv_sub hl [1, 2, 3, 4, 5, 6, 7, 0, 8, 9] rfl⟩
      · have hcc_147 := c_147
        replace hsp := hsp.trans (if_neg c_147)
        refine lv_lload hx hb dX9_hasTimes_115 (lv_at hl 2 rfl) ?_
        refine lv_lload hx hb dX9_hasTimes_117 (lv_at hl 1 rfl) ?_
        refine lv_lsub hx hb dX9_hasTimes_119 ?_
        refine lv_topl (fun y_329 ey_329 => ?_)
        replace hsp := hsp.trans (slet_eq ey_329)
        refine lv_iload hx hb dX9_hasTimes_120 (lv_at hl 0 rfl) ?_
        refine lv_iconst (v := 1) hx hb dX9_hasTimes_122 (by decide) ?_
        refine lv_ishr hx hb dX9_hasTimes_123 ?_
        refine lv_topi (fun y_330 ey_330 => ?_)
        replace hsp := hsp.trans (slet_eq ey_330)
        refine lv_i2l (v := y_330.toInt64) hx hb dX9_hasTimes_124 rfl ?_
        refine lv_topl (fun y_331 ey_331 => ?_)
        replace hsp := hsp.trans (slet_eq ey_331)
        refine lv_ldc2 (v := (256)) hx hb hown v_11 dX9_hasTimes_125 ?_
        refine lv_lmul hx hb dX9_hasTimes_128 ?_
        refine lv_topl (fun y_332 ey_332 => ?_)
        replace hsp := hsp.trans (slet_eq ey_332)
        refine lv_lconst (v := (1 : Int64)) hx hb dX9_hasTimes_129 rfl ?_
        refine lv_lsub hx hb dX9_hasTimes_130 ?_
        refine lv_topl (fun y_333 ey_333 => ?_)
        replace hsp := hsp.trans (slet_eq ey_333)
        refine lv_iload hx hb dX9_hasTimes_131 (lv_at hl 0 rfl) ?_
        refine lv_iconst (v := 1) hx hb dX9_hasTimes_133 (by decide) ?_
        refine lv_iand hx hb dX9_hasTimes_134 ?_
        refine lv_topi (fun y_334 ey_334 => ?_)
        replace hsp := hsp.trans (slet_eq ey_334)
        refine lv_i2l (v := y_334.toInt64) hx hb dX9_hasTimes_135 rfl ?_
        refine lv_topl (fun y_335 ey_335 => ?_)
        replace hsp := hsp.trans (slet_eq ey_335)
        refine lv_ladd hx hb dX9_hasTimes_136 ?_
        refine lv_topl (fun y_336 ey_336 => ?_)
        replace hsp := hsp.trans (slet_eq ey_336)
        refine W.lcmp hx hb dX9_hasTimes_137 ?_
        refine lv_topi (fun y_337 ey_337 => ?_)
        replace hsp := hsp.trans (slet_eq ey_337)
        refine lv_if_le (tgt := 143) hx hb dX9_hasTimes_138 (by decide) (fun c_338 => ?_) (fun c_338 => ?_)
        · have hcc_338 := c_338
          replace hsp := hsp.trans (if_pos c_338)
          refine lv_iinc (v := 0) (lv' := [(6, .int 0), (11, .int r_146), (9, .long (0 : Int64)), (7, .long (0 : Int64)), (5, .int (-1)), (0, .ref (ad 0)), (1, .int (nI a0)), (2, .int p1), (3, .int p2), (4, .int p3)]) hx hb dX9_hasTimes_143 hl (k := 3) rfl (by decide) (by decide) rfl (fun ls hl => ?_)
          refine lv_goto (tgt := 15) hx hb dX9_hasTimes_146 (by decide) ?_
          obtain ⟨lf_348, dlf_348, hlf_348, hsp⟩ := itr_ex hsp
          delta sp_EM_hasTimes_L11 at hlf_348
          refine pu_while (fun nn H locs ls => ∃ (g_343 : Int32) (g_344 : Nat) (g_345 : Int64) (g_346 : Int64), nn = 3 - g_344 ∧ g_344 ≤ 3 ∧ RR = itrv dlf_348 lf_348 (g_343, g_344, g_345, g_346) ∧ va_P (dC, dI) vwCl (mo_w ad ck x0 (nI x16) (nI x18) (nI x19) x20 (nI x21) (nI x22) x23 x24 x25 (nI x26) x27 (nI x28) (nI x29) (nI x30) (nI x33) x45 (nI x46) (nI x52) (nI x53) (nI x61) (nI x62) (nI x63) (nI x65) x66 f1 f2 f3 (bN 3 q4) (bN 7 q5) (bN 7 q6) (bN 4 q7) f8 (bN 2 q9) (bH q10) f11 (b2 m12_0 m12_1) (b2 m13_0 m13_1) (b2 m14_0 m14_1) (b2m m15_0 m15_1) f17 (bA 159 q31) f32 f34 f35 f36 f37 (bN 7 q38) f39 f40 f41 (b2 m42_0 m42_1) f43 f44 f47 f48 f49 f50 f51 (bN 13 q54) (bN 120 q55) (bN 120 q56) f57 (bN 120 q58) f59 f60 f64) H ∧ va_D (fun _ => True) (mo_w ad ck x0 (nI x16) (nI x18) (nI x19) x20 (nI x21) (nI x22) x23 x24 x25 (nI x26) x27 (nI x28) (nI x29) (nI x30) (nI x33) x45 (nI x46) (nI x52) (nI x53) (nI x61) (nI x62) (nI x63) (nI x65) x66 f1 f2 f3 (bN 3 q4) (bN 7 q5) (bN 7 q6) (bN 4 q7) f8 (bN 2 q9) (bH q10) f11 (b2 m12_0 m12_1) (b2 m13_0 m13_1) (b2 m14_0 m14_1) (b2m m15_0 m15_1) f17 (bA 159 q31) f32 f34 f35 f36 f37 (bN 7 q38) f39 f40 f41 (b2 m42_0 m42_1) f43 f44 f47 f48 f49 f50 f51 (bN 13 q54) (bN 120 q55) (bN 120 q56) f57 (bN 120 q58) f59 f60 f64) ∧ va_S (va_A [] s.heap.size) s.heap H locs ∧ lv_has ls 12 [(0, .ref (ad 0)), (1, .int (nI a0)), (2, .int p1), (3, .int p2), (4, .int p3), (5, .int (-1)), (6, .int (nI g_344)), (7, .long g_345), (9, .long g_346), (11, .int g_343)]) 15 ?_ _ _ _ _ ⟨r_146, 0, (0 : Int64), (0 : Int64), rfl, (Nat.le_of_ble_eq_true rfl), hsp, hP, hD, hS, lv_sub hl [5, 6, 7, 8, 9, 4, 0, 3, 2, 1] rfl⟩
          rintro nn ih_347 H locs ls ⟨g_343, g_344, g_345, g_346, rfl, hg_344, he_350, hP, hD, hS, hl⟩
          obtain ⟨S_349, hsp, hin_351, hout_352⟩ := itr_step hlf_348 he_350
          refine lv_iload hx hb dX9_hasTimes_15 (lv_at hl 6 rfl) ?_
          refine lv_aload_n hx hb dX9_hasTimes_17 rfl (lv_at hl 0 rfl) ?_
          refine va_calli (va_runV (As := []) (rest := [.int (nI g_344)]) ⟨hx, hb, hml, hown, hts⟩ (c_EM_clocks l dC dI _ ad ck x0 x16 x18 x19 x20 x21 x22 x23 x24 x25 x26 x27 x28 x29 x30 x33 x45 x46 x52 x53 x61 x62 x63 x65 x66 f1 f2 f3 q4 q5 q6 q7 f8 q9 q10 f11 m12_0 m12_1 m13_0 m13_1 m14_0 m14_1 m15_0 m15_1 f17 q31 f32 f34 f35 f36 f37 q38 f39 f40 f41 m42_0 m42_1 f43 f44 f47 f48 f49 f50 f51 q54 q55 q56 f57 q58 f59 f60 f64 hx16 hx18 hx19 hx21 hx22 hx26 hx28 hx29 hx30 hx33 hx46 hx52 hx53 hx61 hx62 hx63 hx65 hm12_0 hm12_1 hm13_0 hm13_1 hm14_0 hm14_1 hm15_0 hm15_1 hm42_0 hm42_1) (cwV 0 hts g_EM_hasTimes_EM_clocks rfl rfl rfl (by decide +kernel) ⟨Nat.le_of_ble_eq_true rfl, Nat.le_of_ble_eq_true rfl⟩) ⟨pu_bl, va_recv hK hP (ci := 9) (q0 := 0) rfl rfl, pu_in hP hK hD⟩ rfl rfl hl.1 rfl (lv_room (Nat.le_of_ble_eq_true rfl)) dX9_hasTimes_18 ⟨Nat.le_of_ble_eq_true rfl, Nat.le_of_ble_eq_true rfl⟩) hS (fun q _ h => pu_fr hS hA q h) (pu_fr hS hA) (fun r_353 u t H1 locs ht hvm hw hB hz1 hk1 hS => ?_)
          have hP := pu_keep hP hk1
          clear hk1 hz1 ht hvm
          generalize H1 = H at hP hS ⊢
          obtain ⟨u_354, hu_354, rfl, iu_354⟩ := hw
          replace hsp := hsp.trans (slet_eq iu_354)
          refine lv_icmp_ge (tgt := 149) hx hb dX9_hasTimes_21 (by decide) (fun c_355 => ?_) (fun c_355 => ?_)
          · have c_355 : u_354 ≤ g_344 := (nI_leI (a := u_354) (b := g_344) (Nat.lt_of_le_of_lt hu_354 (Nat.le_of_ble_eq_true rfl)) (Nat.lt_of_le_of_lt hg_344 (Nat.le_of_ble_eq_true rfl))).mp c_355
            replace hsp := hsp.trans (if_pos c_355)
            replace hsp := hout_352 _ hsp
            refine lv_iinc (v := 0) (lv' := [(5, .int 0), (0, .ref (ad 0)), (1, .int (nI a0)), (2, .int p1), (3, .int p2), (4, .int p3), (6, .int (nI g_344)), (7, .long g_345), (9, .long g_346), (11, .int g_343)]) hx hb dX9_hasTimes_149 hl (k := 5) rfl (by decide) (by decide) rfl (fun ls hl => ?_)
            refine lv_goto (tgt := 3) hx hb dX9_hasTimes_152 (by decide) ?_
            obtain ⟨lf_367, dlf_367, hlf_367, hsp⟩ := itr_ex hsp
            delta sp_EM_hasTimes_L10 at hlf_367
            refine pu_while (fun nn H locs ls => ∃ (g_361 : Int32) (g_362 : Nat) (g_363 : Int32) (g_364 : Int64) (g_365 : Int64), nn = 3 - g_362 ∧ g_362 ≤ 3 ∧ RR = itrv dlf_367 lf_367 (g_361, g_362, g_363, g_364, g_365) ∧ va_P (dC, dI) vwCl (mo_w ad ck x0 (nI x16) (nI x18) (nI x19) x20 (nI x21) (nI x22) x23 x24 x25 (nI x26) x27 (nI x28) (nI x29) (nI x30) (nI x33) x45 (nI x46) (nI x52) (nI x53) (nI x61) (nI x62) (nI x63) (nI x65) x66 f1 f2 f3 (bN 3 q4) (bN 7 q5) (bN 7 q6) (bN 4 q7) f8 (bN 2 q9) (bH q10) f11 (b2 m12_0 m12_1) (b2 m13_0 m13_1) (b2 m14_0 m14_1) (b2m m15_0 m15_1) f17 (bA 159 q31) f32 f34 f35 f36 f37 (bN 7 q38) f39 f40 f41 (b2 m42_0 m42_1) f43 f44 f47 f48 f49 f50 f51 (bN 13 q54) (bN 120 q55) (bN 120 q56) f57 (bN 120 q58) f59 f60 f64) H ∧ va_D (fun _ => True) (mo_w ad ck x0 (nI x16) (nI x18) (nI x19) x20 (nI x21) (nI x22) x23 x24 x25 (nI x26) x27 (nI x28) (nI x29) (nI x30) (nI x33) x45 (nI x46) (nI x52) (nI x53) (nI x61) (nI x62) (nI x63) (nI x65) x66 f1 f2 f3 (bN 3 q4) (bN 7 q5) (bN 7 q6) (bN 4 q7) f8 (bN 2 q9) (bH q10) f11 (b2 m12_0 m12_1) (b2 m13_0 m13_1) (b2 m14_0 m14_1) (b2m m15_0 m15_1) f17 (bA 159 q31) f32 f34 f35 f36 f37 (bN 7 q38) f39 f40 f41 (b2 m42_0 m42_1) f43 f44 f47 f48 f49 f50 f51 (bN 13 q54) (bN 120 q55) (bN 120 q56) f57 (bN 120 q58) f59 f60 f64) ∧ va_S (va_A [] s.heap.size) s.heap H locs ∧ lv_has ls 12 [(0, .ref (ad 0)), (1, .int (nI a0)), (2, .int p1), (3, .int p2), (4, .int p3), (5, .int (nI g_362)), (6, .int g_363), (7, .long g_364), (9, .long g_365), (11, .int g_361)]) 3 ?_ _ _ _ _ ⟨g_343, 0, (nI g_344), g_345, g_346, rfl, (Nat.le_of_ble_eq_true rfl), hsp, hP, hD, hS, lv_sub hl [1, 2, 3, 4, 5, 0, 6, 7, 8, 9] rfl⟩
            rintro nn ih_366 H locs ls ⟨g_361, g_362, g_363, g_364, g_365, rfl, hg_362, he_369, hP, hD, hS, hl⟩
            obtain ⟨S_368, hsp, hin_370, hout_371⟩ := itr_step hlf_367 he_369
            refine lv_iload hx hb dX9_hasTimes_3 (lv_at hl 5 rfl) ?_
            refine lv_aload_n hx hb dX9_hasTimes_5 rfl (lv_at hl 0 rfl) ?_
            refine va_calli (va_runV (As := []) (rest := [.int (nI g_362)]) ⟨hx, hb, hml, hown, hts⟩ (c_EM_clocks l dC dI _ ad ck x0 x16 x18 x19 x20 x21 x22 x23 x24 x25 x26 x27 x28 x29 x30 x33 x45 x46 x52 x53 x61 x62 x63 x65 x66 f1 f2 f3 q4 q5 q6 q7 f8 q9 q10 f11 m12_0 m12_1 m13_0 m13_1 m14_0 m14_1 m15_0 m15_1 f17 q31 f32 f34 f35 f36 f37 q38 f39 f40 f41 m42_0 m42_1 f43 f44 f47 f48 f49 f50 f51 q54 q55 q56 f57 q58 f59 f60 f64 hx16 hx18 hx19 hx21 hx22 hx26 hx28 hx29 hx30 hx33 hx46 hx52 hx53 hx61 hx62 hx63 hx65 hm12_0 hm12_1 hm13_0 hm13_1 hm14_0 hm14_1 hm15_0 hm15_1 hm42_0 hm42_1) (cwV 0 hts g_EM_hasTimes_EM_clocks rfl rfl rfl (by decide +kernel) ⟨Nat.le_of_ble_eq_true rfl, Nat.le_of_ble_eq_true rfl⟩) ⟨pu_bl, va_recv hK hP (ci := 9) (q0 := 0) rfl rfl, pu_in hP hK hD⟩ rfl rfl hl.1 rfl (lv_room (Nat.le_of_ble_eq_true rfl)) dX9_hasTimes_6 ⟨Nat.le_of_ble_eq_true rfl, Nat.le_of_ble_eq_true rfl⟩) hS (fun q _ h => pu_fr hS hA q h) (pu_fr hS hA) (fun r_372 u t H1 locs ht hvm hw hB hz1 hk1 hS => ?_)
            have hP := pu_keep hP hk1
            clear hk1 hz1 ht hvm
            generalize H1 = H at hP hS ⊢
            obtain ⟨u_373, hu_373, rfl, iu_373⟩ := hw
            replace hsp := hsp.trans (slet_eq iu_373)
            refine lv_icmp_ge (tgt := 155) hx hb dX9_hasTimes_9 (by decide) (fun c_374 => ?_) (fun c_374 => ?_)
            · have c_374 : u_373 ≤ g_362 := (nI_leI (a := u_373) (b := g_362) (Nat.lt_of_le_of_lt hu_373 (Nat.le_of_ble_eq_true rfl)) (Nat.lt_of_le_of_lt hg_362 (Nat.le_of_ble_eq_true rfl))).mp c_374
              replace hsp := hsp.trans (if_pos c_374)
              replace hsp := hout_371 _ hsp
              refine lv_iconst (v := 1) hx hb dX9_hasTimes_155 (by decide) ?_
              exact W.zret (v := 1) (ty := .boolean) hx hb hr (rfl) (fun t ht hW => ⟨⟨1, (), rfl, ⟨1, (Nat.le_of_ble_eq_true rfl), rfl, (hsp.symm.trans hRR)⟩, trivial⟩, hS.F ht⟩) hS.2.2 dX9_hasTimes_156
            · have c_374 : ¬ u_373 ≤ g_362 := fun z => c_374 ((nI_leI (a := u_373) (b := g_362) (Nat.lt_of_le_of_lt hu_373 (Nat.le_of_ble_eq_true rfl)) (Nat.lt_of_le_of_lt hg_362 (Nat.le_of_ble_eq_true rfl))).mpr z)
              replace hsp := hsp.trans (if_neg c_374)
              refine lv_iconst (v := (-1)) hx hb dX9_hasTimes_12 (by decide) ?_
              refine lv_istore (lv' := [(6, .int (-1)), (0, .ref (ad 0)), (1, .int (nI a0)), (2, .int p1), (3, .int p2), (4, .int p3), (5, .int (nI g_362)), (7, .long g_364), (9, .long g_365), (11, .int g_361)]) hx hb dX9_hasTimes_13 hl (by decide) rfl (fun ls hl => ?_)
              refine lv_iload hx hb dX9_hasTimes_15 (lv_at hl 0 rfl) ?_
              refine lv_aload_n hx hb dX9_hasTimes_17 rfl (lv_at hl 1 rfl) ?_
              refine va_calli (va_runV (As := []) (rest := [.int (-1)]) ⟨hx, hb, hml, hown, hts⟩ (c_EM_clocks l dC dI _ ad ck x0 x16 x18 x19 x20 x21 x22 x23 x24 x25 x26 x27 x28 x29 x30 x33 x45 x46 x52 x53 x61 x62 x63 x65 x66 f1 f2 f3 q4 q5 q6 q7 f8 q9 q10 f11 m12_0 m12_1 m13_0 m13_1 m14_0 m14_1 m15_0 m15_1 f17 q31 f32 f34 f35 f36 f37 q38 f39 f40 f41 m42_0 m42_1 f43 f44 f47 f48 f49 f50 f51 q54 q55 q56 f57 q58 f59 f60 f64 hx16 hx18 hx19 hx21 hx22 hx26 hx28 hx29 hx30 hx33 hx46 hx52 hx53 hx61 hx62 hx63 hx65 hm12_0 hm12_1 hm13_0 hm13_1 hm14_0 hm14_1 hm15_0 hm15_1 hm42_0 hm42_1) (cwV 0 hts g_EM_hasTimes_EM_clocks rfl rfl rfl (by decide +kernel) ⟨Nat.le_of_ble_eq_true rfl, Nat.le_of_ble_eq_true rfl⟩) ⟨pu_bl, va_recv hK hP (ci := 9) (q0 := 0) rfl rfl, pu_in hP hK hD⟩ rfl rfl hl.1 rfl (lv_room (Nat.le_of_ble_eq_true rfl)) dX9_hasTimes_18 ⟨Nat.le_of_ble_eq_true rfl, Nat.le_of_ble_eq_true rfl⟩) hS (fun q _ h => pu_fr hS hA q h) (pu_fr hS hA) (fun r_375 u t H1 locs ht hvm hw hB hz1 hk1 hS => ?_)
              have hP := pu_keep hP hk1
              clear hk1 hz1 ht hvm
              generalize H1 = H at hP hS ⊢
              obtain ⟨u_376, hu_376, rfl, iu_376⟩ := hw
              replace hsp := hsp.trans (slet_eq iu_376)
              refine lv_icmp_ge (tgt := 149) hx hb dX9_hasTimes_21 (by decide) (fun c_377 => ?_) (fun c_377 => ?_)
              · have hcc_377 := c_377
                replace hsp := hsp.trans (if_pos c_377)
                refine lv_iinc (v := (nI (g_362 + 1))) (lv' := [(5, .int (nI (g_362 + 1))), (6, .int (-1)), (0, .ref (ad 0)), (1, .int (nI a0)), (2, .int p1), (3, .int p2), (4, .int p3), (7, .long g_364), (9, .long g_365), (11, .int g_361)]) hx hb dX9_hasTimes_149 hl (k := 6) rfl (nI_1 _) (by decide) rfl (fun ls hl => ?_)
                refine lv_goto (tgt := 3) hx hb dX9_hasTimes_152 (by decide) ?_
                exact ih_366 (3 - (g_362 + 1)) (by omega) _ _ _ ⟨g_361, (g_362 + 1), (-1), g_364, g_365, rfl, (by omega), hin_370 _ hsp, hP, hD, hS, lv_sub hl [2, 3, 4, 5, 6, 0, 1, 7, 8, 9] rfl⟩
              · have hcc_377 := c_377
                replace hsp := hsp.trans (if_neg c_377)
                refine lv_iload hx hb dX9_hasTimes_24 (lv_at hl 6 rfl) ?_
                obtain ⟨JR_380, hJR_380, hsp⟩ := slet_ex hsp
                refine pu_join (fun H locs ls st => ∃ (g_378 : Int64), st = [.long g_378] ∧ g_378 = JR_380 ∧ va_P (dC, dI) vwCl (mo_w ad ck x0 (nI x16) (nI x18) (nI x19) x20 (nI x21) (nI x22) x23 x24 x25 (nI x26) x27 (nI x28) (nI x29) (nI x30) (nI x33) x45 (nI x46) (nI x52) (nI x53) (nI x61) (nI x62) (nI x63) (nI x65) x66 f1 f2 f3 (bN 3 q4) (bN 7 q5) (bN 7 q6) (bN 4 q7) f8 (bN 2 q9) (bH q10) f11 (b2 m12_0 m12_1) (b2 m13_0 m13_1) (b2 m14_0 m14_1) (b2m m15_0 m15_1) f17 (bA 159 q31) f32 f34 f35 f36 f37 (bN 7 q38) f39 f40 f41 (b2 m42_0 m42_1) f43 f44 f47 f48 f49 f50 f51 (bN 13 q54) (bN 120 q55) (bN 120 q56) f57 (bN 120 q58) f59 f60 f64) H ∧ va_D (fun _ => True) (mo_w ad ck x0 (nI x16) (nI x18) (nI x19) x20 (nI x21) (nI x22) x23 x24 x25 (nI x26) x27 (nI x28) (nI x29) (nI x30) (nI x33) x45 (nI x46) (nI x52) (nI x53) (nI x61) (nI x62) (nI x63) (nI x65) x66 f1 f2 f3 (bN 3 q4) (bN 7 q5) (bN 7 q6) (bN 4 q7) f8 (bN 2 q9) (bH q10) f11 (b2 m12_0 m12_1) (b2 m13_0 m13_1) (b2 m14_0 m14_1) (b2m m15_0 m15_1) f17 (bA 159 q31) f32 f34 f35 f36 f37 (bN 7 q38) f39 f40 f41 (b2 m42_0 m42_1) f43 f44 f47 f48 f49 f50 f51 (bN 13 q54) (bN 120 q55) (bN 120 q56) f57 (bN 120 q58) f59 f60 f64) ∧ va_S (va_A [] s.heap.size) s.heap H locs ∧ lv_has ls 12 [(0, .ref (ad 0)), (1, .int (nI a0)), (2, .int p1), (3, .int p2), (4, .int p3), (5, .int (nI g_362)), (6, .int (-1)), (7, .long g_364), (9, .long g_365), (11, .int g_361)]) 58 ?_ (fun j_379 => ?_)
                · rintro H locs ls st ⟨g_378, rfl, he_381, hP, hD, hS, hl⟩
                  rw [← he_381] at hsp
                  refine lv_lstore (lv' := [(7, .long g_378), (0, .ref (ad 0)), (1, .int (nI a0)), (2, .int p1), (3, .int p2), (4, .int p3), (5, .int (nI g_362)), (6, .int (-1)), (9, .long g_365), (11, .int g_361)]) hx hb dX9_hasTimes_58 hl (by decide) rfl (fun ls hl => ?_)
                  refine lv_iload hx hb dX9_hasTimes_60 (lv_at hl 7 rfl) ?_
                  refine lv_if_ne (tgt := 70) hx hb dX9_hasTimes_62 (by decide) (fun _ => ?_) (fun z => absurd z (by decide))
                  refine lv_iload hx hb dX9_hasTimes_70 (lv_at hl 7 rfl) ?_
                  refine lv_iconst (v := 1) hx hb dX9_hasTimes_72 (by decide) ?_
                  refine lv_icmp_ne (tgt := 81) hx hb dX9_hasTimes_73 (by decide) (fun _ => ?_) (fun z => absurd z (by decide))
                  refine lv_iload hx hb dX9_hasTimes_81 (lv_at hl 7 rfl) ?_
                  refine lv_iconst (v := 2) hx hb dX9_hasTimes_83 (by decide) ?_
                  refine lv_icmp_ne (tgt := 93) hx hb dX9_hasTimes_84 (by decide) (fun _ => ?_) (fun z => absurd z (by decide))
                  refine lv_lconst (v := (0 : Int64)) hx hb dX9_hasTimes_93 rfl ?_
                  refine lv_lstore (lv' := [(9, .long (0 : Int64)), (7, .long g_378), (0, .ref (ad 0)), (1, .int (nI a0)), (2, .int p1), (3, .int p2), (4, .int p3), (5, .int (nI g_362)), (6, .int (-1)), (11, .int g_361)]) hx hb dX9_hasTimes_94 hl (by decide) rfl (fun ls hl => ?_)
                  refine lv_aload_n hx hb dX9_hasTimes_96 rfl (lv_at hl 2 rfl) ?_
                  refine lv_iload_n hx hb dX9_hasTimes_97 rfl (lv_at hl 3 rfl) ?_
                  refine lv_iload hx hb dX9_hasTimes_98 (lv_at hl 7 rfl) ?_
                  refine lv_iload hx hb dX9_hasTimes_100 (lv_at hl 8 rfl) ?_
                  refine va_calli (va_runV (As := [.int (nI a0), .int (nI g_362), .int (-1)]) (rest := []) ⟨hx, hb, hml, hown, hts⟩ (c_EM_boundOf_10 l dC dI _ ad ck x0 x16 x18 x19 x20 x21 x22 x23 x24 x25 x26 x27 x28 x29 x30 x33 x45 x46 x52 x53 x61 x62 x63 x65 x66 f1 f2 f3 q4 q5 q6 q7 f8 q9 q10 f11 m12_0 m12_1 m13_0 m13_1 m14_0 m14_1 m15_0 m15_1 f17 q31 f32 f34 f35 f36 f37 q38 f39 f40 f41 m42_0 m42_1 f43 f44 f47 f48 f49 f50 f51 q54 q55 q56 f57 q58 f59 f60 f64 a0 g_362 hx16 hx18 hx19 hx21 hx22 hx26 hx28 hx29 hx30 hx33 hx46 hx52 hx53 hx61 hx62 hx63 hx65 hm12_0 hm12_1 hm13_0 hm13_1 hm14_0 hm14_1 hm15_0 hm15_1 hm42_0 hm42_1 ha0 hg_362) (cwV 3 hts g_EM_hasTimes_EM_boundOf_10 rfl rfl rfl (by decide +kernel) ⟨Nat.le_of_ble_eq_true rfl, Nat.le_of_ble_eq_true rfl⟩) ⟨pu_bl, va_recv hK hP (ci := 9) (q0 := 0) rfl rfl, pu_in hP hK hD⟩ rfl rfl hl.1 rfl (lv_room (Nat.le_of_ble_eq_true rfl)) dX9_hasTimes_102 ⟨Nat.le_of_ble_eq_true rfl, Nat.le_of_ble_eq_true rfl⟩) hS (fun q _ h => pu_fr hS hA q h) (pu_fr hS hA) (fun r_382 u t H1 locs ht hvm hw hB hz1 hk1 hS => ?_)
                  have hP := pu_keep hP hk1
                  clear hk1 hz1 ht hvm
                  generalize H1 = H at hP hS ⊢
                  have ir_382 := hw
                  replace hsp := hsp.trans (slet_eq ir_382)
                  refine lv_istore (lv' := [(11, .int r_382), (9, .long (0 : Int64)), (7, .long g_378), (0, .ref (ad 0)), (1, .int (nI a0)), (2, .int p1), (3, .int p2), (4, .int p3), (5, .int (nI g_362)), (6, .int (-1))]) hx hb dX9_hasTimes_105 hl (by decide) rfl (fun ls hl => ?_)
                  refine lv_iload hx hb dX9_hasTimes_107 (lv_at hl 0 rfl) ?_
                  refine lv_ldcw hx hb hown v_10 dX9_hasTimes_109 ?_
                  refine lv_icmp_ge (tgt := 143) hx hb dX9_hasTimes_112 (by decide) (fun c_383 => ?_) (fun c_383 => ?_)
                  · have hcc_383 := c_383
                    replace hsp := hsp.trans (if_pos c_383)
                    refine lv_iinc (v := 0) (lv' := [(6, .int 0), (11, .int r_382), (9, .long (0 : Int64)), (7, .long g_378), (0, .ref (ad 0)), (1, .int (nI a0)), (2, .int p1), (3, .int p2), (4, .int p3), (5, .int (nI g_362))]) hx hb dX9_hasTimes_143 hl (k := 9) rfl (by decide) (by decide) rfl (fun ls hl => ?_)
                    refine lv_goto (tgt := 15) hx hb dX9_hasTimes_146 (by decide) ?_
                    obtain ⟨lf_393, dlf_393, hlf_393, hsp⟩ := itr_ex hsp
                    delta sp_EM_hasTimes_L8 at hlf_393
                    refine pu_while (fun nn H locs ls => ∃ (g_388 : Int32) (g_389 : Nat) (g_390 : Int64) (g_391 : Int64), nn = 3 - g_389 ∧ g_389 ≤ 3 ∧ S_368 = itrv dlf_393 lf_393 (g_388, g_389, g_390, g_391) ∧ va_P (dC, dI) vwCl (mo_w ad ck x0 (nI x16) (nI x18) (nI x19) x20 (nI x21) (nI x22) x23 x24 x25 (nI x26) x27 (nI x28) (nI x29) (nI x30) (nI x33) x45 (nI x46) (nI x52) (nI x53) (nI x61) (nI x62) (nI x63) (nI x65) x66 f1 f2 f3 (bN 3 q4) (bN 7 q5) (bN 7 q6) (bN 4 q7) f8 (bN 2 q9) (bH q10) f11 (b2 m12_0 m12_1) (b2 m13_0 m13_1) (b2 m14_0 m14_1) (b2m m15_0 m15_1) f17 (bA 159 q31) f32 f34 f35 f36 f37 (bN 7 q38) f39 f40 f41 (b2 m42_0 m42_1) f43 f44 f47 f48 f49 f50 f51 (bN 13 q54) (bN 120 q55) (bN 120 q56) f57 (bN 120 q58) f59 f60 f64) H ∧ va_D (fun _ => True) (mo_w ad ck x0 (nI x16) (nI x18) (nI x19) x20 (nI x21) (nI x22) x23 x24 x25 (nI x26) x27 (nI x28) (nI x29) (nI x30) (nI x33) x45 (nI x46) (nI x52) (nI x53) (nI x61) (nI x62) (nI x63) (nI x65) x66 f1 f2 f3 (bN 3 q4) (bN 7 q5) (bN 7 q6) (bN 4 q7) f8 (bN 2 q9) (bH q10) f11 (b2 m12_0 m12_1) (b2 m13_0 m13_1) (b2 m14_0 m14_1) (b2m m15_0 m15_1) f17 (bA 159 q31) f32 f34 f35 f36 f37 (bN 7 q38) f39 f40 f41 (b2 m42_0 m42_1) f43 f44 f47 f48 f49 f50 f51 (bN 13 q54) (bN 120 q55) (bN 120 q56) f57 (bN 120 q58) f59 f60 f64) ∧ va_S (va_A [] s.heap.size) s.heap H locs ∧ lv_has ls 12 [(0, .ref (ad 0)), (1, .int (nI a0)), (2, .int p1), (3, .int p2), (4, .int p3), (5, .int (nI g_362)), (6, .int (nI g_389)), (7, .long g_390), (9, .long g_391), (11, .int g_388)]) 15 ?_ _ _ _ _ ⟨r_382, 0, g_378, (0 : Int64), rfl, (Nat.le_of_ble_eq_true rfl), hsp, hP, hD, hS, lv_sub hl [4, 5, 6, 7, 8, 9, 0, 3, 2, 1] rfl⟩
                    rintro nn ih_392 H locs ls ⟨g_388, g_389, g_390, g_391, rfl, hg_389, he_395, hP, hD, hS, hl⟩
                    obtain ⟨S_394, hsp, hin_396, hout_397⟩ := itr_step hlf_393 he_395
                    refine lv_iload hx hb dX9_hasTimes_15 (lv_at hl 6 rfl) ?_
                    refine lv_aload_n hx hb dX9_hasTimes_17 rfl (lv_at hl 0 rfl) ?_
                    refine va_calli (va_runV (As := []) (rest := [.int (nI g_389)]) ⟨hx, hb, hml, hown, hts⟩ (c_EM_clocks l dC dI _ ad ck x0 x16 x18 x19 x20 x21 x22 x23 x24 x25 x26 x27 x28 x29 x30 x33 x45 x46 x52 x53 x61 x62 x63 x65 x66 f1 f2 f3 q4 q5 q6 q7 f8 q9 q10 f11 m12_0 m12_1 m13_0 m13_1 m14_0 m14_1 m15_0 m15_1 f17 q31 f32 f34 f35 f36 f37 q38 f39 f40 f41 m42_0 m42_1 f43 f44 f47 f48 f49 f50 f51 q54 q55 q56 f57 q58 f59 f60 f64 hx16 hx18 hx19 hx21 hx22 hx26 hx28 hx29 hx30 hx33 hx46 hx52 hx53 hx61 hx62 hx63 hx65 hm12_0 hm12_1 hm13_0 hm13_1 hm14_0 hm14_1 hm15_0 hm15_1 hm42_0 hm42_1) (cwV 0 hts g_EM_hasTimes_EM_clocks rfl rfl rfl (by decide +kernel) ⟨Nat.le_of_ble_eq_true rfl, Nat.le_of_ble_eq_true rfl⟩) ⟨pu_bl, va_recv hK hP (ci := 9) (q0 := 0) rfl rfl, pu_in hP hK hD⟩ rfl rfl hl.1 rfl (lv_room (Nat.le_of_ble_eq_true rfl)) dX9_hasTimes_18 ⟨Nat.le_of_ble_eq_true rfl, Nat.le_of_ble_eq_true rfl⟩) hS (fun q _ h => pu_fr hS hA q h) (pu_fr hS hA) (fun r_398 u t H1 locs ht hvm hw hB hz1 hk1 hS => ?_)
                    have hP := pu_keep hP hk1
                    clear hk1 hz1 ht hvm
                    generalize H1 = H at hP hS ⊢
                    obtain ⟨u_399, hu_399, rfl, iu_399⟩ := hw
                    replace hsp := hsp.trans (slet_eq iu_399)
                    refine lv_icmp_ge (tgt := 149) hx hb dX9_hasTimes_21 (by decide) (fun c_400 => ?_) (fun c_400 => ?_)
                    · have c_400 : u_399 ≤ g_389 := (nI_leI (a := u_399) (b := g_389) (Nat.lt_of_le_of_lt hu_399 (Nat.le_of_ble_eq_true rfl)) (Nat.lt_of_le_of_lt hg_389 (Nat.le_of_ble_eq_true rfl))).mp c_400
                      replace hsp := hsp.trans (if_pos c_400)
                      replace hsp := hout_397 _ hsp
                      refine lv_iinc (v := (nI (g_362 + 1))) (lv' := [(5, .int (nI (g_362 + 1))), (0, .ref (ad 0)), (1, .int (nI a0)), (2, .int p1), (3, .int p2), (4, .int p3), (6, .int (nI g_389)), (7, .long g_390), (9, .long g_391), (11, .int g_388)]) hx hb dX9_hasTimes_149 hl (k := 5) rfl (nI_1 _) (by decide) rfl (fun ls hl => ?_)
                      refine lv_goto (tgt := 3) hx hb dX9_hasTimes_152 (by decide) ?_
                      exact ih_366 (3 - (g_362 + 1)) (by omega) _ _ _ ⟨g_388, (g_362 + 1), (nI g_389), g_390, g_391, rfl, (by omega), hin_370 _ hsp, hP, hD, hS, lv_sub hl [1, 2, 3, 4, 5, 0, 6, 7, 8, 9] rfl⟩
                    · have c_400 : ¬ u_399 ≤ g_389 := fun z => c_400 ((nI_leI (a := u_399) (b := g_389) (Nat.lt_of_le_of_lt hu_399 (Nat.le_of_ble_eq_true rfl)) (Nat.lt_of_le_of_lt hg_389 (Nat.le_of_ble_eq_true rfl))).mpr z)
                      replace hsp := hsp.trans (if_neg c_400)
                      refine lv_iload hx hb dX9_hasTimes_24 (lv_at hl 5 rfl) ?_
                      obtain ⟨JR_403, hJR_403, hsp⟩ := slet_ex hsp
                      refine pu_join (fun H locs ls st => ∃ (g_401 : Int64), st = [.long g_401] ∧ g_401 = JR_403 ∧ va_P (dC, dI) vwCl (mo_w ad ck x0 (nI x16) (nI x18) (nI x19) x20 (nI x21) (nI x22) x23 x24 x25 (nI x26) x27 (nI x28) (nI x29) (nI x30) (nI x33) x45 (nI x46) (nI x52) (nI x53) (nI x61) (nI x62) (nI x63) (nI x65) x66 f1 f2 f3 (bN 3 q4) (bN 7 q5) (bN 7 q6) (bN 4 q7) f8 (bN 2 q9) (bH q10) f11 (b2 m12_0 m12_1) (b2 m13_0 m13_1) (b2 m14_0 m14_1) (b2m m15_0 m15_1) f17 (bA 159 q31) f32 f34 f35 f36 f37 (bN 7 q38) f39 f40 f41 (b2 m42_0 m42_1) f43 f44 f47 f48 f49 f50 f51 (bN 13 q54) (bN 120 q55) (bN 120 q56) f57 (bN 120 q58) f59 f60 f64) H ∧ va_D (fun _ => True) (mo_w ad ck x0 (nI x16) (nI x18) (nI x19) x20 (nI x21) (nI x22) x23 x24 x25 (nI x26) x27 (nI x28) (nI x29) (nI x30) (nI x33) x45 (nI x46) (nI x52) (nI x53) (nI x61) (nI x62) (nI x63) (nI x65) x66 f1 f2 f3 (bN 3 q4) (bN 7 q5) (bN 7 q6) (bN 4 q7) f8 (bN 2 q9) (bH q10) f11 (b2 m12_0 m12_1) (b2 m13_0 m13_1) (b2 m14_0 m14_1) (b2m m15_0 m15_1) f17 (bA 159 q31) f32 f34 f35 f36 f37 (bN 7 q38) f39 f40 f41 (b2 m42_0 m42_1) f43 f44 f47 f48 f49 f50 f51 (bN 13 q54) (bN 120 q55) (bN 120 q56) f57 (bN 120 q58) f59 f60 f64) ∧ va_S (va_A [] s.heap.size) s.heap H locs ∧ lv_has ls 12 [(0, .ref (ad 0)), (1, .int (nI a0)), (2, .int p1), (3, .int p2), (4, .int p3), (5, .int (nI g_362)), (6, .int (nI g_389)), (7, .long g_390), (9, .long g_391), (11, .int g_388)]) 58 ?_ (fun j_402 => ?_)
                      · rintro H locs ls st ⟨g_401, rfl, he_404, hP, hD, hS, hl⟩
                        rw [← he_404] at hsp
                        refine lv_lstore (lv' := [(7, .long g_401), (0, .ref (ad 0)), (1, .int (nI a0)), (2, .int p1), (3, .int p2), (4, .int p3), (5, .int (nI g_362)), (6, .int (nI g_389)), (9, .long g_391), (11, .int g_388)]) hx hb dX9_hasTimes_58 hl (by decide) rfl (fun ls hl => ?_)
                        refine lv_iload hx hb dX9_hasTimes_60 (lv_at hl 7 rfl) ?_
                        obtain ⟨JR_407, hJR_407, hsp⟩ := slet_ex hsp
                        refine pu_join (fun H locs ls st => ∃ (g_405 : Int64), st = [.long g_405] ∧ g_405 = JR_407 ∧ va_P (dC, dI) vwCl (mo_w ad ck x0 (nI x16) (nI x18) (nI x19) x20 (nI x21) (nI x22) x23 x24 x25 (nI x26) x27 (nI x28) (nI x29) (nI x30) (nI x33) x45 (nI x46) (nI x52) (nI x53) (nI x61) (nI x62) (nI x63) (nI x65) x66 f1 f2 f3 (bN 3 q4) (bN 7 q5) (bN 7 q6) (bN 4 q7) f8 (bN 2 q9) (bH q10) f11 (b2 m12_0 m12_1) (b2 m13_0 m13_1) (b2 m14_0 m14_1) (b2m m15_0 m15_1) f17 (bA 159 q31) f32 f34 f35 f36 f37 (bN 7 q38) f39 f40 f41 (b2 m42_0 m42_1) f43 f44 f47 f48 f49 f50 f51 (bN 13 q54) (bN 120 q55) (bN 120 q56) f57 (bN 120 q58) f59 f60 f64) H ∧ va_D (fun _ => True) (mo_w ad ck x0 (nI x16) (nI x18) (nI x19) x20 (nI x21) (nI x22) x23 x24 x25 (nI x26) x27 (nI x28) (nI x29) (nI x30) (nI x33) x45 (nI x46) (nI x52) (nI x53) (nI x61) (nI x62) (nI x63) (nI x65) x66 f1 f2 f3 (bN 3 q4) (bN 7 q5) (bN 7 q6) (bN 4 q7) f8 (bN 2 q9) (bH q10) f11 (b2 m12_0 m12_1) (b2 m13_0 m13_1) (b2 m14_0 m14_1) (b2m m15_0 m15_1) f17 (bA 159 q31) f32 f34 f35 f36 f37 (bN 7 q38) f39 f40 f41 (b2 m42_0 m42_1) f43 f44 f47 f48 f49 f50 f51 (bN 13 q54) (bN 120 q55) (bN 120 q56) f57 (bN 120 q58) f59 f60 f64) ∧ va_S (va_A [] s.heap.size) s.heap H locs ∧ lv_has ls 12 [(0, .ref (ad 0)), (1, .int (nI a0)), (2, .int p1), (3, .int p2), (4, .int p3), (5, .int (nI g_362)), (6, .int (nI g_389)), (7, .long g_401), (9, .long g_391), (11, .int g_388)]) 94 ?_ (fun j_406 => ?_)
                        · rintro H locs ls st ⟨g_405, rfl, he_408, hP, hD, hS, hl⟩
                          rw [← he_408] at hsp
                          refine lv_lstore (lv' := [(9, .long g_405), (0, .ref (ad 0)), (1, .int (nI a0)), (2, .int p1), (3, .int p2), (4, .int p3), (5, .int (nI g_362)), (6, .int (nI g_389)), (7, .long g_401), (11, .int g_388)]) hx hb dX9_hasTimes_94 hl (by decide) rfl (fun ls hl => ?_)
                          refine lv_aload_n hx hb dX9_hasTimes_96 rfl (lv_at hl 1 rfl) ?_
                          refine lv_iload_n hx hb dX9_hasTimes_97 rfl (lv_at hl 2 rfl) ?_
                          refine lv_iload hx hb dX9_hasTimes_98 (lv_at hl 6 rfl) ?_
                          refine lv_iload hx hb dX9_hasTimes_100 (lv_at hl 7 rfl) ?_
                          refine va_calli (va_runV (As := [.int (nI a0), .int (nI g_362), .int (nI g_389)]) (rest := []) ⟨hx, hb, hml, hown, hts⟩ (c_EM_boundOf_11 l dC dI _ ad ck x0 x16 x18 x19 x20 x21 x22 x23 x24 x25 x26 x27 x28 x29 x30 x33 x45 x46 x52 x53 x61 x62 x63 x65 x66 f1 f2 f3 q4 q5 q6 q7 f8 q9 q10 f11 m12_0 m12_1 m13_0 m13_1 m14_0 m14_1 m15_0 m15_1 f17 q31 f32 f34 f35 f36 f37 q38 f39 f40 f41 m42_0 m42_1 f43 f44 f47 f48 f49 f50 f51 q54 q55 q56 f57 q58 f59 f60 f64 a0 g_362 g_389 hx16 hx18 hx19 hx21 hx22 hx26 hx28 hx29 hx30 hx33 hx46 hx52 hx53 hx61 hx62 hx63 hx65 hm12_0 hm12_1 hm13_0 hm13_1 hm14_0 hm14_1 hm15_0 hm15_1 hm42_0 hm42_1 ha0 hg_362 hg_389) (cwV 3 hts g_EM_hasTimes_EM_boundOf_11 rfl rfl rfl (by decide +kernel) ⟨Nat.le_of_ble_eq_true rfl, Nat.le_of_ble_eq_true rfl⟩) ⟨pu_bl, va_recv hK hP (ci := 9) (q0 := 0) rfl rfl, pu_in hP hK hD⟩ rfl rfl hl.1 rfl (lv_room (Nat.le_of_ble_eq_true rfl)) dX9_hasTimes_102 ⟨Nat.le_of_ble_eq_true rfl, Nat.le_of_ble_eq_true rfl⟩) hS (fun q _ h => pu_fr hS hA q h) (pu_fr hS hA) (fun r_409 u t H1 locs ht hvm hw hB hz1 hk1 hS => ?_)
                          have hP := pu_keep hP hk1
                          clear hk1 hz1 ht hvm
                          generalize H1 = H at hP hS ⊢
                          have ir_409 := hw
                          replace hsp := hsp.trans (slet_eq ir_409)
                          refine lv_istore (lv' := [(11, .int r_409), (9, .long g_405), (0, .ref (ad 0)), (1, .int (nI a0)), (2, .int p1), (3, .int p2), (4, .int p3), (5, .int (nI g_362)), (6, .int (nI g_389)), (7, .long g_401)]) hx hb dX9_hasTimes_105 hl (by decide) rfl (fun ls hl => ?_)
                          refine lv_iload hx hb dX9_hasTimes_107 (lv_at hl 0 rfl) ?_
                          refine lv_ldcw hx hb hown v_10 dX9_hasTimes_109 ?_
                          refine lv_icmp_ge (tgt := 143) hx hb dX9_hasTimes_112 (by decide) (fun c_410 => ?_) (fun c_410 => ?_)
                          · have hcc_410 := c_410
                            replace hsp := hsp.trans (if_pos c_410)
                            refine lv_iinc (v := (nI (g_389 + 1))) (lv' := [(6, .int (nI (g_389 + 1))), (11, .int r_409), (9, .long g_405), (0, .ref (ad 0)), (1, .int (nI a0)), (2, .int p1), (3, .int p2), (4, .int p3), (5, .int (nI g_362)), (7, .long g_401)]) hx hb dX9_hasTimes_143 hl (k := 8) rfl (nI_1 _) (by decide) rfl (fun ls hl => ?_)
                            refine lv_goto (tgt := 15) hx hb dX9_hasTimes_146 (by decide) ?_
                            exact ih_392 (3 - (g_389 + 1)) (by omega) _ _ _ ⟨r_409, (g_389 + 1), g_401, g_405, rfl, (by omega), hin_396 _ hsp, hP, hD, hS, lv_sub hl [3, 4, 5, 6, 7, 8, 0, 9, 2, 1] rfl⟩
                          · have hcc_410 := c_410
                            replace hsp := hsp.trans (if_neg c_410)
                            refine lv_lload hx hb dX9_hasTimes_115 (lv_at hl 9 rfl) ?_
                            refine lv_lload hx hb dX9_hasTimes_117 (lv_at hl 1 rfl) ?_
                            refine lv_lsub hx hb dX9_hasTimes_119 ?_
                            refine lv_topl (fun y_411 ey_411 => ?_)
                            replace hsp := hsp.trans (slet_eq ey_411)
                            refine lv_iload hx hb dX9_hasTimes_120 (lv_at hl 0 rfl) ?_
                            refine lv_iconst (v := 1) hx hb dX9_hasTimes_122 (by decide) ?_
                            refine lv_ishr hx hb dX9_hasTimes_123 ?_
                            refine lv_topi (fun y_412 ey_412 => ?_)
                            replace hsp := hsp.trans (slet_eq ey_412)
                            refine lv_i2l (v := y_412.toInt64) hx hb dX9_hasTimes_124 rfl ?_
                            refine lv_topl (fun y_413 ey_413 => ?_)
                            replace hsp := hsp.trans (slet_eq ey_413)
                            refine lv_ldc2 (v := (256)) hx hb hown v_11 dX9_hasTimes_125 ?_
                            refine lv_lmul hx hb dX9_hasTimes_128 ?_
                            refine lv_topl (fun y_414 ey_414 => ?_)
                            replace hsp := hsp.trans (slet_eq ey_414)
                            refine lv_lconst (v := (1 : Int64)) hx hb dX9_hasTimes_129 rfl ?_
                            refine lv_lsub hx hb dX9_hasTimes_130 ?_
                            refine lv_topl (fun y_415 ey_415 => ?_)
                            replace hsp := hsp.trans (slet_eq ey_415)
                            refine lv_iload hx hb dX9_hasTimes_131 (lv_at hl 0 rfl) ?_
                            refine lv_iconst (v := 1) hx hb dX9_hasTimes_133 (by decide) ?_
                            refine lv_iand hx hb dX9_hasTimes_134 ?_
                            refine lv_topi (fun y_416 ey_416 => ?_)
                            replace hsp := hsp.trans (slet_eq ey_416)
                            refine lv_i2l (v := y_416.toInt64) hx hb dX9_hasTimes_135 rfl ?_
                            refine lv_topl (fun y_417 ey_417 => ?_)
                            replace hsp := hsp.trans (slet_eq ey_417)
                            refine lv_ladd hx hb dX9_hasTimes_136 ?_
                            refine lv_topl (fun y_418 ey_418 => ?_)
                            replace hsp := hsp.trans (slet_eq ey_418)
                            refine W.lcmp hx hb dX9_hasTimes_137 ?_
                            refine lv_topi (fun y_419 ey_419 => ?_)
                            replace hsp := hsp.trans (slet_eq ey_419)
                            refine lv_if_le (tgt := 143) hx hb dX9_hasTimes_138 (by decide) (fun c_420 => ?_) (fun c_420 => ?_)
                            · have hcc_420 := c_420
                              replace hsp := hsp.trans (if_pos c_420)
                              refine lv_iinc (v := (nI (g_389 + 1))) (lv' := [(6, .int (nI (g_389 + 1))), (11, .int r_409), (9, .long g_405), (0, .ref (ad 0)), (1, .int (nI a0)), (2, .int p1), (3, .int p2), (4, .int p3), (5, .int (nI g_362)), (7, .long g_401)]) hx hb dX9_hasTimes_143 hl (k := 8) rfl (nI_1 _) (by decide) rfl (fun ls hl => ?_)
                              refine lv_goto (tgt := 15) hx hb dX9_hasTimes_146 (by decide) ?_
                              exact ih_392 (3 - (g_389 + 1)) (by omega) _ _ _ ⟨r_409, (g_389 + 1), g_401, g_405, rfl, (by omega), hin_396 _ hsp, hP, hD, hS, lv_sub hl [3, 4, 5, 6, 7, 8, 0, 9, 2, 1] rfl⟩
                            · have hcc_420 := c_420
                              replace hsp := hsp.trans (if_neg c_420)
                              replace hsp := hout_397 _ hsp
                              replace hsp := hout_371 _ hsp
                              refine lv_iconst (v := 0) hx hb dX9_hasTimes_141 (by decide) ?_
                              exact W.zret (v := 0) (ty := .boolean) hx hb hr (rfl) (fun t ht hW => ⟨⟨0, (), rfl, ⟨0, (Nat.le_of_ble_eq_true rfl), rfl, (hsp.symm.trans hRR)⟩, trivial⟩, hS.F ht⟩) hS.2.2 dX9_hasTimes_142
                        have hsp := hJR_407
                        refine lv_if_ne (tgt := 70) hx hb dX9_hasTimes_62 (by decide) (fun c_421 => ?_) (fun c_421 => ?_)
                        · have c_421 : ¬ g_389 = 0 := fun z => c_421 ((nI_eq (a := g_389) (b := 0) (Nat.lt_of_le_of_lt hg_389 (Nat.le_of_ble_eq_true rfl)) (Nat.le_of_ble_eq_true rfl)).mpr z)
                          replace hsp := hsp.trans (if_neg c_421)
                          refine lv_iload hx hb dX9_hasTimes_70 (lv_at hl 7 rfl) ?_
                          refine lv_iconst (v := 1) hx hb dX9_hasTimes_72 (by decide) ?_
                          refine lv_icmp_ne (tgt := 81) hx hb dX9_hasTimes_73 (by decide) (fun c_422 => ?_) (fun c_422 => ?_)
                          · have c_422 : ¬ g_389 = 1 := fun z => c_422 ((nI_eq (a := g_389) (b := 1) (Nat.lt_of_le_of_lt hg_389 (Nat.le_of_ble_eq_true rfl)) (Nat.le_of_ble_eq_true rfl)).mpr z)
                            replace hsp := hsp.trans (if_neg c_422)
                            refine lv_iload hx hb dX9_hasTimes_81 (lv_at hl 7 rfl) ?_
                            refine lv_iconst (v := 2) hx hb dX9_hasTimes_83 (by decide) ?_
                            refine lv_icmp_ne (tgt := 93) hx hb dX9_hasTimes_84 (by decide) (fun c_423 => ?_) (fun c_423 => ?_)
                            · have c_423 : ¬ g_389 = 2 := fun z => c_423 ((nI_eq (a := g_389) (b := 2) (Nat.lt_of_le_of_lt hg_389 (Nat.le_of_ble_eq_true rfl)) (Nat.le_of_ble_eq_true rfl)).mpr z)
                              exfalso
                              omega
                            · have c_423 : g_389 = 2 := (nI_eq (a := g_389) (b := 2) (Nat.lt_of_le_of_lt hg_389 (Nat.le_of_ble_eq_true rfl)) (Nat.le_of_ble_eq_true rfl)).mp c_423
                              refine lv_iload hx hb dX9_hasTimes_87 (lv_at hl 5 rfl) ?_
                              refine lv_i2l (v := p3.toInt64) hx hb dX9_hasTimes_89 rfl ?_
                              refine lv_topl (fun y_424 ey_424 => ?_)
                              replace hsp := hsp.trans (slet_eq ey_424)
                              refine lv_goto (tgt := 94) hx hb dX9_hasTimes_90 (by decide) ?_
                              exact j_406 _ _ _ _ ⟨y_424, rfl, hsp.symm, hP, hD, hS, lv_sub hl [1, 2, 3, 4, 5, 6, 7, 0, 8, 9] rfl⟩
                          · have c_422 : g_389 = 1 := (nI_eq (a := g_389) (b := 1) (Nat.lt_of_le_of_lt hg_389 (Nat.le_of_ble_eq_true rfl)) (Nat.le_of_ble_eq_true rfl)).mp c_422
                            replace hsp := hsp.trans (if_pos c_422)
                            refine lv_iload_n hx hb dX9_hasTimes_76 rfl (lv_at hl 4 rfl) ?_
                            refine lv_i2l (v := p2.toInt64) hx hb dX9_hasTimes_77 rfl ?_
                            refine lv_topl (fun y_425 ey_425 => ?_)
                            replace hsp := hsp.trans (slet_eq ey_425)
                            refine lv_goto (tgt := 94) hx hb dX9_hasTimes_78 (by decide) ?_
                            exact j_406 _ _ _ _ ⟨y_425, rfl, hsp.symm, hP, hD, hS, lv_sub hl [1, 2, 3, 4, 5, 6, 7, 0, 8, 9] rfl⟩
                        · have c_421 : g_389 = 0 := (nI_eq (a := g_389) (b := 0) (Nat.lt_of_le_of_lt hg_389 (Nat.le_of_ble_eq_true rfl)) (Nat.le_of_ble_eq_true rfl)).mp c_421
                          replace hsp := hsp.trans (if_pos c_421)
                          refine lv_iload_n hx hb dX9_hasTimes_65 rfl (lv_at hl 3 rfl) ?_
                          refine lv_i2l (v := p1.toInt64) hx hb dX9_hasTimes_66 rfl ?_
                          refine lv_topl (fun y_426 ey_426 => ?_)
                          replace hsp := hsp.trans (slet_eq ey_426)
                          refine lv_goto (tgt := 94) hx hb dX9_hasTimes_67 (by decide) ?_
                          exact j_406 _ _ _ _ ⟨y_426, rfl, hsp.symm, hP, hD, hS, lv_sub hl [1, 2, 3, 4, 5, 6, 7, 0, 8, 9] rfl⟩
                      have hsp := hJR_403
                      refine lv_if_ne (tgt := 34) hx hb dX9_hasTimes_26 (by decide) (fun c_427 => ?_) (fun c_427 => ?_)
                      · have c_427 : ¬ g_362 = 0 := fun z => c_427 ((nI_eq (a := g_362) (b := 0) (Nat.lt_of_le_of_lt hg_362 (Nat.le_of_ble_eq_true rfl)) (Nat.le_of_ble_eq_true rfl)).mpr z)
                        replace hsp := hsp.trans (if_neg c_427)
                        refine lv_iload hx hb dX9_hasTimes_34 (lv_at hl 5 rfl) ?_
                        refine lv_iconst (v := 1) hx hb dX9_hasTimes_36 (by decide) ?_
                        refine lv_icmp_ne (tgt := 45) hx hb dX9_hasTimes_37 (by decide) (fun c_428 => ?_) (fun c_428 => ?_)
                        · have c_428 : ¬ g_362 = 1 := fun z => c_428 ((nI_eq (a := g_362) (b := 1) (Nat.lt_of_le_of_lt hg_362 (Nat.le_of_ble_eq_true rfl)) (Nat.le_of_ble_eq_true rfl)).mpr z)
                          replace hsp := hsp.trans (if_neg c_428)
                          refine lv_iload hx hb dX9_hasTimes_45 (lv_at hl 5 rfl) ?_
                          refine lv_iconst (v := 2) hx hb dX9_hasTimes_47 (by decide) ?_
                          refine lv_icmp_ne (tgt := 57) hx hb dX9_hasTimes_48 (by decide) (fun c_429 => ?_) (fun c_429 => ?_)
                          · have c_429 : ¬ g_362 = 2 := fun z => c_429 ((nI_eq (a := g_362) (b := 2) (Nat.lt_of_le_of_lt hg_362 (Nat.le_of_ble_eq_true rfl)) (Nat.le_of_ble_eq_true rfl)).mpr z)
                            exfalso
                            omega
                          · have c_429 : g_362 = 2 := (nI_eq (a := g_362) (b := 2) (Nat.lt_of_le_of_lt hg_362 (Nat.le_of_ble_eq_true rfl)) (Nat.le_of_ble_eq_true rfl)).mp c_429
                            refine lv_iload hx hb dX9_hasTimes_51 (lv_at hl 4 rfl) ?_
                            refine lv_i2l (v := p3.toInt64) hx hb dX9_hasTimes_53 rfl ?_
                            refine lv_topl (fun y_430 ey_430 => ?_)
                            replace hsp := hsp.trans (slet_eq ey_430)
                            refine lv_goto (tgt := 58) hx hb dX9_hasTimes_54 (by decide) ?_
                            exact j_402 _ _ _ _ ⟨y_430, rfl, hsp.symm, hP, hD, hS, lv_sub hl [0, 1, 2, 3, 4, 5, 6, 7, 8, 9] rfl⟩
                        · have c_428 : g_362 = 1 := (nI_eq (a := g_362) (b := 1) (Nat.lt_of_le_of_lt hg_362 (Nat.le_of_ble_eq_true rfl)) (Nat.le_of_ble_eq_true rfl)).mp c_428
                          replace hsp := hsp.trans (if_pos c_428)
                          refine lv_iload_n hx hb dX9_hasTimes_40 rfl (lv_at hl 3 rfl) ?_
                          refine lv_i2l (v := p2.toInt64) hx hb dX9_hasTimes_41 rfl ?_
                          refine lv_topl (fun y_431 ey_431 => ?_)
                          replace hsp := hsp.trans (slet_eq ey_431)
                          refine lv_goto (tgt := 58) hx hb dX9_hasTimes_42 (by decide) ?_
                          exact j_402 _ _ _ _ ⟨y_431, rfl, hsp.symm, hP, hD, hS, lv_sub hl [0, 1, 2, 3, 4, 5, 6, 7, 8, 9] rfl⟩
                      · have c_427 : g_362 = 0 := (nI_eq (a := g_362) (b := 0) (Nat.lt_of_le_of_lt hg_362 (Nat.le_of_ble_eq_true rfl)) (Nat.le_of_ble_eq_true rfl)).mp c_427
                        replace hsp := hsp.trans (if_pos c_427)
                        refine lv_iload_n hx hb dX9_hasTimes_29 rfl (lv_at hl 2 rfl) ?_
                        refine lv_i2l (v := p1.toInt64) hx hb dX9_hasTimes_30 rfl ?_
                        refine lv_topl (fun y_432 ey_432 => ?_)
                        replace hsp := hsp.trans (slet_eq ey_432)
                        refine lv_goto (tgt := 58) hx hb dX9_hasTimes_31 (by decide) ?_
                        exact j_402 _ _ _ _ ⟨y_432, rfl, hsp.symm, hP, hD, hS, lv_sub hl [0, 1, 2, 3, 4, 5, 6, 7, 8, 9] rfl⟩
                  · have hcc_383 := c_383
                    replace hsp := hsp.trans (if_neg c_383)
                    refine lv_lload hx hb dX9_hasTimes_115 (lv_at hl 2 rfl) ?_
                    refine lv_lload hx hb dX9_hasTimes_117 (lv_at hl 1 rfl) ?_
                    refine lv_lsub hx hb dX9_hasTimes_119 ?_
                    refine lv_topl (fun y_433 ey_433 => ?_)
                    replace hsp := hsp.trans (slet_eq ey_433)
                    refine lv_iload hx hb dX9_hasTimes_120 (lv_at hl 0 rfl) ?_
                    refine lv_iconst (v := 1) hx hb dX9_hasTimes_122 (by decide) ?_
                    refine lv_ishr hx hb dX9_hasTimes_123 ?_
                    refine lv_topi (fun y_434 ey_434 => ?_)
                    replace hsp := hsp.trans (slet_eq ey_434)
                    refine lv_i2l (v := y_434.toInt64) hx hb dX9_hasTimes_124 rfl ?_
                    refine lv_topl (fun y_435 ey_435 => ?_)
                    replace hsp := hsp.trans (slet_eq ey_435)
                    refine lv_ldc2 (v := (256)) hx hb hown v_11 dX9_hasTimes_125 ?_
                    refine lv_lmul hx hb dX9_hasTimes_128 ?_
                    refine lv_topl (fun y_436 ey_436 => ?_)
                    replace hsp := hsp.trans (slet_eq ey_436)
                    refine lv_lconst (v := (1 : Int64)) hx hb dX9_hasTimes_129 rfl ?_
                    refine lv_lsub hx hb dX9_hasTimes_130 ?_
                    refine lv_topl (fun y_437 ey_437 => ?_)
                    replace hsp := hsp.trans (slet_eq ey_437)
                    refine lv_iload hx hb dX9_hasTimes_131 (lv_at hl 0 rfl) ?_
                    refine lv_iconst (v := 1) hx hb dX9_hasTimes_133 (by decide) ?_
                    refine lv_iand hx hb dX9_hasTimes_134 ?_
                    refine lv_topi (fun y_438 ey_438 => ?_)
                    replace hsp := hsp.trans (slet_eq ey_438)
                    refine lv_i2l (v := y_438.toInt64) hx hb dX9_hasTimes_135 rfl ?_
                    refine lv_topl (fun y_439 ey_439 => ?_)
                    replace hsp := hsp.trans (slet_eq ey_439)
                    refine lv_ladd hx hb dX9_hasTimes_136 ?_
                    refine lv_topl (fun y_440 ey_440 => ?_)
                    replace hsp := hsp.trans (slet_eq ey_440)
                    refine W.lcmp hx hb dX9_hasTimes_137 ?_
                    refine lv_topi (fun y_441 ey_441 => ?_)
                    replace hsp := hsp.trans (slet_eq ey_441)
                    refine lv_if_le (tgt := 143) hx hb dX9_hasTimes_138 (by decide) (fun c_442 => ?_) (fun c_442 => ?_)
                    · have hcc_442 := c_442
                      replace hsp := hsp.trans (if_pos c_442)
                      refine lv_iinc (v := 0) (lv' := [(6, .int 0), (11, .int r_382), (9, .long (0 : Int64)), (7, .long g_378), (0, .ref (ad 0)), (1, .int (nI a0)), (2, .int p1), (3, .int p2), (4, .int p3), (5, .int (nI g_362))]) hx hb dX9_hasTimes_143 hl (k := 9) rfl (by decide) (by decide) rfl (fun ls hl => ?_)
                      refine lv_goto (tgt := 15) hx hb dX9_hasTimes_146 (by decide) ?_
                      obtain ⟨lf_452, dlf_452, hlf_452, hsp⟩ := itr_ex hsp
                      delta sp_EM_hasTimes_L9 at hlf_452
                      refine pu_while (fun nn H locs ls => ∃ (g_447 : Int32) (g_448 : Nat) (g_449 : Int64) (g_450 : Int64), nn = 3 - g_448 ∧ g_448 ≤ 3 ∧ S_368 = itrv dlf_452 lf_452 (g_447, g_448, g_449, g_450) ∧ va_P (dC, dI) vwCl (mo_w ad ck x0 (nI x16) (nI x18) (nI x19) x20 (nI x21) (nI x22) x23 x24 x25 (nI x26) x27 (nI x28) (nI x29) (nI x30) (nI x33) x45 (nI x46) (nI x52) (nI x53) (nI x61) (nI x62) (nI x63) (nI x65) x66 f1 f2 f3 (bN 3 q4) (bN 7 q5) (bN 7 q6) (bN 4 q7) f8 (bN 2 q9) (bH q10) f11 (b2 m12_0 m12_1) (b2 m13_0 m13_1) (b2 m14_0 m14_1) (b2m m15_0 m15_1) f17 (bA 159 q31) f32 f34 f35 f36 f37 (bN 7 q38) f39 f40 f41 (b2 m42_0 m42_1) f43 f44 f47 f48 f49 f50 f51 (bN 13 q54) (bN 120 q55) (bN 120 q56) f57 (bN 120 q58) f59 f60 f64) H ∧ va_D (fun _ => True) (mo_w ad ck x0 (nI x16) (nI x18) (nI x19) x20 (nI x21) (nI x22) x23 x24 x25 (nI x26) x27 (nI x28) (nI x29) (nI x30) (nI x33) x45 (nI x46) (nI x52) (nI x53) (nI x61) (nI x62) (nI x63) (nI x65) x66 f1 f2 f3 (bN 3 q4) (bN 7 q5) (bN 7 q6) (bN 4 q7) f8 (bN 2 q9) (bH q10) f11 (b2 m12_0 m12_1) (b2 m13_0 m13_1) (b2 m14_0 m14_1) (b2m m15_0 m15_1) f17 (bA 159 q31) f32 f34 f35 f36 f37 (bN 7 q38) f39 f40 f41 (b2 m42_0 m42_1) f43 f44 f47 f48 f49 f50 f51 (bN 13 q54) (bN 120 q55) (bN 120 q56) f57 (bN 120 q58) f59 f60 f64) ∧ va_S (va_A [] s.heap.size) s.heap H locs ∧ lv_has ls 12 [(0, .ref (ad 0)), (1, .int (nI a0)), (2, .int p1), (3, .int p2), (4, .int p3), (5, .int (nI g_362)), (6, .int (nI g_448)), (7, .long g_449), (9, .long g_450), (11, .int g_447)]) 15 ?_ _ _ _ _ ⟨r_382, 0, g_378, (0 : Int64), rfl, (Nat.le_of_ble_eq_true rfl), hsp, hP, hD, hS, lv_sub hl [4, 5, 6, 7, 8, 9, 0, 3, 2, 1] rfl⟩
                      rintro nn ih_451 H locs ls ⟨g_447, g_448, g_449, g_450, rfl, hg_448, he_454, hP, hD, hS, hl⟩
                      obtain ⟨S_453, hsp, hin_455, hout_456⟩ := itr_step hlf_452 he_454
                      refine lv_iload hx hb dX9_hasTimes_15 (lv_at hl 6 rfl) ?_
                      refine lv_aload_n hx hb dX9_hasTimes_17 rfl (lv_at hl 0 rfl) ?_
                      refine va_calli (va_runV (As := []) (rest := [.int (nI g_448)]) ⟨hx, hb, hml, hown, hts⟩ (c_EM_clocks l dC dI _ ad ck x0 x16 x18 x19 x20 x21 x22 x23 x24 x25 x26 x27 x28 x29 x30 x33 x45 x46 x52 x53 x61 x62 x63 x65 x66 f1 f2 f3 q4 q5 q6 q7 f8 q9 q10 f11 m12_0 m12_1 m13_0 m13_1 m14_0 m14_1 m15_0 m15_1 f17 q31 f32 f34 f35 f36 f37 q38 f39 f40 f41 m42_0 m42_1 f43 f44 f47 f48 f49 f50 f51 q54 q55 q56 f57 q58 f59 f60 f64 hx16 hx18 hx19 hx21 hx22 hx26 hx28 hx29 hx30 hx33 hx46 hx52 hx53 hx61 hx62 hx63 hx65 hm12_0 hm12_1 hm13_0 hm13_1 hm14_0 hm14_1 hm15_0 hm15_1 hm42_0 hm42_1) (cwV 0 hts g_EM_hasTimes_EM_clocks rfl rfl rfl (by decide +kernel) ⟨Nat.le_of_ble_eq_true rfl, Nat.le_of_ble_eq_true rfl⟩) ⟨pu_bl, va_recv hK hP (ci := 9) (q0 := 0) rfl rfl, pu_in hP hK hD⟩ rfl rfl hl.1 rfl (lv_room (Nat.le_of_ble_eq_true rfl)) dX9_hasTimes_18 ⟨Nat.le_of_ble_eq_true rfl, Nat.le_of_ble_eq_true rfl⟩) hS (fun q _ h => pu_fr hS hA q h) (pu_fr hS hA) (fun r_457 u t H1 locs ht hvm hw hB hz1 hk1 hS => ?_)
                      have hP := pu_keep hP hk1
                      clear hk1 hz1 ht hvm
                      generalize H1 = H at hP hS ⊢
                      obtain ⟨u_458, hu_458, rfl, iu_458⟩ := hw
                      replace hsp := hsp.trans (slet_eq iu_458)
                      refine lv_icmp_ge (tgt := 149) hx hb dX9_hasTimes_21 (by decide) (fun c_459 => ?_) (fun c_459 => ?_)
                      · have c_459 : u_458 ≤ g_448 := (nI_leI (a := u_458) (b := g_448) (Nat.lt_of_le_of_lt hu_458 (Nat.le_of_ble_eq_true rfl)) (Nat.lt_of_le_of_lt hg_448 (Nat.le_of_ble_eq_true rfl))).mp c_459
                        replace hsp := hsp.trans (if_pos c_459)
                        replace hsp := hout_456 _ hsp
                        refine lv_iinc (v := (nI (g_362 + 1))) (lv' := [(5, .int (nI (g_362 + 1))), (0, .ref (ad 0)), (1, .int (nI a0)), (2, .int p1), (3, .int p2), (4, .int p3), (6, .int (nI g_448)), (7, .long g_449), (9, .long g_450), (11, .int g_447)]) hx hb dX9_hasTimes_149 hl (k := 5) rfl (nI_1 _) (by decide) rfl (fun ls hl => ?_)
                        refine lv_goto (tgt := 3) hx hb dX9_hasTimes_152 (by decide) ?_
                        exact ih_366 (3 - (g_362 + 1)) (by omega) _ _ _ ⟨g_447, (g_362 + 1), (nI g_448), g_449, g_450, rfl, (by omega), hin_370 _ hsp, hP, hD, hS, lv_sub hl [1, 2, 3, 4, 5, 0, 6, 7, 8, 9] rfl⟩
                      · have c_459 : ¬ u_458 ≤ g_448 := fun z => c_459 ((nI_leI (a := u_458) (b := g_448) (Nat.lt_of_le_of_lt hu_458 (Nat.le_of_ble_eq_true rfl)) (Nat.lt_of_le_of_lt hg_448 (Nat.le_of_ble_eq_true rfl))).mpr z)
                        replace hsp := hsp.trans (if_neg c_459)
                        refine lv_iload hx hb dX9_hasTimes_24 (lv_at hl 5 rfl) ?_
                        obtain ⟨JR_462, hJR_462, hsp⟩ := slet_ex hsp
                        refine pu_join (fun H locs ls st => ∃ (g_460 : Int64), st = [.long g_460] ∧ g_460 = JR_462 ∧ va_P (dC, dI) vwCl (mo_w ad ck x0 (nI x16) (nI x18) (nI x19) x20 (nI x21) (nI x22) x23 x24 x25 (nI x26) x27 (nI x28) (nI x29) (nI x30) (nI x33) x45 (nI x46) (nI x52) (nI x53) (nI x61) (nI x62) (nI x63) (nI x65) x66 f1 f2 f3 (bN 3 q4) (bN 7 q5) (bN 7 q6) (bN 4 q7) f8 (bN 2 q9) (bH q10) f11 (b2 m12_0 m12_1) (b2 m13_0 m13_1) (b2 m14_0 m14_1) (b2m m15_0 m15_1) f17 (bA 159 q31) f32 f34 f35 f36 f37 (bN 7 q38) f39 f40 f41 (b2 m42_0 m42_1) f43 f44 f47 f48 f49 f50 f51 (bN 13 q54) (bN 120 q55) (bN 120 q56) f57 (bN 120 q58) f59 f60 f64) H ∧ va_D (fun _ => True) (mo_w ad ck x0 (nI x16) (nI x18) (nI x19) x20 (nI x21) (nI x22) x23 x24 x25 (nI x26) x27 (nI x28) (nI x29) (nI x30) (nI x33) x45 (nI x46) (nI x52) (nI x53) (nI x61) (nI x62) (nI x63) (nI x65) x66 f1 f2 f3 (bN 3 q4) (bN 7 q5) (bN 7 q6) (bN 4 q7) f8 (bN 2 q9) (bH q10) f11 (b2 m12_0 m12_1) (b2 m13_0 m13_1) (b2 m14_0 m14_1) (b2m m15_0 m15_1) f17 (bA 159 q31) f32 f34 f35 f36 f37 (bN 7 q38) f39 f40 f41 (b2 m42_0 m42_1) f43 f44 f47 f48 f49 f50 f51 (bN 13 q54) (bN 120 q55) (bN 120 q56) f57 (bN 120 q58) f59 f60 f64) ∧ va_S (va_A [] s.heap.size) s.heap H locs ∧ lv_has ls 12 [(0, .ref (ad 0)), (1, .int (nI a0)), (2, .int p1), (3, .int p2), (4, .int p3), (5, .int (nI g_362)), (6, .int (nI g_448)), (7, .long g_449), (9, .long g_450), (11, .int g_447)]) 58 ?_ (fun j_461 => ?_)
                        · rintro H locs ls st ⟨g_460, rfl, he_463, hP, hD, hS, hl⟩
                          rw [← he_463] at hsp
                          refine lv_lstore (lv' := [(7, .long g_460), (0, .ref (ad 0)), (1, .int (nI a0)), (2, .int p1), (3, .int p2), (4, .int p3), (5, .int (nI g_362)), (6, .int (nI g_448)), (9, .long g_450), (11, .int g_447)]) hx hb dX9_hasTimes_58 hl (by decide) rfl (fun ls hl => ?_)
                          refine lv_iload hx hb dX9_hasTimes_60 (lv_at hl 7 rfl) ?_
                          obtain ⟨JR_466, hJR_466, hsp⟩ := slet_ex hsp
                          refine pu_join (fun H locs ls st => ∃ (g_464 : Int64), st = [.long g_464] ∧ g_464 = JR_466 ∧ va_P (dC, dI) vwCl (mo_w ad ck x0 (nI x16) (nI x18) (nI x19) x20 (nI x21) (nI x22) x23 x24 x25 (nI x26) x27 (nI x28) (nI x29) (nI x30) (nI x33) x45 (nI x46) (nI x52) (nI x53) (nI x61) (nI x62) (nI x63) (nI x65) x66 f1 f2 f3 (bN 3 q4) (bN 7 q5) (bN 7 q6) (bN 4 q7) f8 (bN 2 q9) (bH q10) f11 (b2 m12_0 m12_1) (b2 m13_0 m13_1) (b2 m14_0 m14_1) (b2m m15_0 m15_1) f17 (bA 159 q31) f32 f34 f35 f36 f37 (bN 7 q38) f39 f40 f41 (b2 m42_0 m42_1) f43 f44 f47 f48 f49 f50 f51 (bN 13 q54) (bN 120 q55) (bN 120 q56) f57 (bN 120 q58) f59 f60 f64) H ∧ va_D (fun _ => True) (mo_w ad ck x0 (nI x16) (nI x18) (nI x19) x20 (nI x21) (nI x22) x23 x24 x25 (nI x26) x27 (nI x28) (nI x29) (nI x30) (nI x33) x45 (nI x46) (nI x52) (nI x53) (nI x61) (nI x62) (nI x63) (nI x65) x66 f1 f2 f3 (bN 3 q4) (bN 7 q5) (bN 7 q6) (bN 4 q7) f8 (bN 2 q9) (bH q10) f11 (b2 m12_0 m12_1) (b2 m13_0 m13_1) (b2 m14_0 m14_1) (b2m m15_0 m15_1) f17 (bA 159 q31) f32 f34 f35 f36 f37 (bN 7 q38) f39 f40 f41 (b2 m42_0 m42_1) f43 f44 f47 f48 f49 f50 f51 (bN 13 q54) (bN 120 q55) (bN 120 q56) f57 (bN 120 q58) f59 f60 f64) ∧ va_S (va_A [] s.heap.size) s.heap H locs ∧ lv_has ls 12 [(0, .ref (ad 0)), (1, .int (nI a0)), (2, .int p1), (3, .int p2), (4, .int p3), (5, .int (nI g_362)), (6, .int (nI g_448)), (7, .long g_460), (9, .long g_450), (11, .int g_447)]) 94 ?_ (fun j_465 => ?_)
                          · rintro H locs ls st ⟨g_464, rfl, he_467, hP, hD, hS, hl⟩
                            rw [← he_467] at hsp
                            refine lv_lstore (lv' := [(9, .long g_464), (0, .ref (ad 0)), (1, .int (nI a0)), (2, .int p1), (3, .int p2), (4, .int p3), (5, .int (nI g_362)), (6, .int (nI g_448)), (7, .long g_460), (11, .int g_447)]) hx hb dX9_hasTimes_94 hl (by decide) rfl (fun ls hl => ?_)
                            refine lv_aload_n hx hb dX9_hasTimes_96 rfl (lv_at hl 1 rfl) ?_
                            refine lv_iload_n hx hb dX9_hasTimes_97 rfl (lv_at hl 2 rfl) ?_
                            refine lv_iload hx hb dX9_hasTimes_98 (lv_at hl 6 rfl) ?_
                            refine lv_iload hx hb dX9_hasTimes_100 (lv_at hl 7 rfl) ?_
                            refine va_calli (va_runV (As := [.int (nI a0), .int (nI g_362), .int (nI g_448)]) (rest := []) ⟨hx, hb, hml, hown, hts⟩ (c_EM_boundOf_11 l dC dI _ ad ck x0 x16 x18 x19 x20 x21 x22 x23 x24 x25 x26 x27 x28 x29 x30 x33 x45 x46 x52 x53 x61 x62 x63 x65 x66 f1 f2 f3 q4 q5 q6 q7 f8 q9 q10 f11 m12_0 m12_1 m13_0 m13_1 m14_0 m14_1 m15_0 m15_1 f17 q31 f32 f34 f35 f36 f37 q38 f39 f40 f41 m42_0 m42_1 f43 f44 f47 f48 f49 f50 f51 q54 q55 q56 f57 q58 f59 f60 f64 a0 g_362 g_448 hx16 hx18 hx19 hx21 hx22 hx26 hx28 hx29 hx30 hx33 hx46 hx52 hx53 hx61 hx62 hx63 hx65 hm12_0 hm12_1 hm13_0 hm13_1 hm14_0 hm14_1 hm15_0 hm15_1 hm42_0 hm42_1 ha0 hg_362 hg_448) (cwV 3 hts g_EM_hasTimes_EM_boundOf_11 rfl rfl rfl (by decide +kernel) ⟨Nat.le_of_ble_eq_true rfl, Nat.le_of_ble_eq_true rfl⟩) ⟨pu_bl, va_recv hK hP (ci := 9) (q0 := 0) rfl rfl, pu_in hP hK hD⟩ rfl rfl hl.1 rfl (lv_room (Nat.le_of_ble_eq_true rfl)) dX9_hasTimes_102 ⟨Nat.le_of_ble_eq_true rfl, Nat.le_of_ble_eq_true rfl⟩) hS (fun q _ h => pu_fr hS hA q h) (pu_fr hS hA) (fun r_468 u t H1 locs ht hvm hw hB hz1 hk1 hS => ?_)
                            have hP := pu_keep hP hk1
                            clear hk1 hz1 ht hvm
                            generalize H1 = H at hP hS ⊢
                            have ir_468 := hw
                            replace hsp := hsp.trans (slet_eq ir_468)
                            refine lv_istore (lv' := [(11, .int r_468), (9, .long g_464), (0, .ref (ad 0)), (1, .int (nI a0)), (2, .int p1), (3, .int p2), (4, .int p3), (5, .int (nI g_362)), (6, .int (nI g_448)), (7, .long g_460)]) hx hb dX9_hasTimes_105 hl (by decide) rfl (fun ls hl => ?_)
                            refine lv_iload hx hb dX9_hasTimes_107 (lv_at hl 0 rfl) ?_
                            refine lv_ldcw hx hb hown v_10 dX9_hasTimes_109 ?_
                            refine lv_icmp_ge (tgt := 143) hx hb dX9_hasTimes_112 (by decide) (fun c_469 => ?_) (fun c_469 => ?_)
                            · have hcc_469 := c_469
                              replace hsp := hsp.trans (if_pos c_469)
                              refine lv_iinc (v := (nI (g_448 + 1))) (lv' := [(6, .int (nI (g_448 + 1))), (11, .int r_468), (9, .long g_464), (0, .ref (ad 0)), (1, .int (nI a0)), (2, .int p1), (3, .int p2), (4, .int p3), (5, .int (nI g_362)), (7, .long g_460)]) hx hb dX9_hasTimes_143 hl (k := 8) rfl (nI_1 _) (by decide) rfl (fun ls hl => ?_)
                              refine lv_goto (tgt := 15) hx hb dX9_hasTimes_146 (by decide) ?_
                              exact ih_451 (3 - (g_448 + 1)) (by omega) _ _ _ ⟨r_468, (g_448 + 1), g_460, g_464, rfl, (by omega), hin_455 _ hsp, hP, hD, hS, lv_sub hl [3, 4, 5, 6, 7, 8, 0, 9, 2, 1] rfl⟩
                            · have hcc_469 := c_469
                              replace hsp := hsp.trans (if_neg c_469)
                              refine lv_lload hx hb dX9_hasTimes_115 (lv_at hl 9 rfl) ?_
                              refine lv_lload hx hb dX9_hasTimes_117 (lv_at hl 1 rfl) ?_
                              refine lv_lsub hx hb dX9_hasTimes_119 ?_
                              refine lv_topl (fun y_470 ey_470 => ?_)
                              replace hsp := hsp.trans (slet_eq ey_470)
                              refine lv_iload hx hb dX9_hasTimes_120 (lv_at hl 0 rfl) ?_
                              refine lv_iconst (v := 1) hx hb dX9_hasTimes_122 (by decide) ?_
                              refine lv_ishr hx hb dX9_hasTimes_123 ?_
                              refine lv_topi (fun y_471 ey_471 => ?_)
                              replace hsp := hsp.trans (slet_eq ey_471)
                              refine lv_i2l (v := y_471.toInt64) hx hb dX9_hasTimes_124 rfl ?_
                              refine lv_topl (fun y_472 ey_472 => ?_)
                              replace hsp := hsp.trans (slet_eq ey_472)
                              refine lv_ldc2 (v := (256)) hx hb hown v_11 dX9_hasTimes_125 ?_
                              refine lv_lmul hx hb dX9_hasTimes_128 ?_
                              refine lv_topl (fun y_473 ey_473 => ?_)
                              replace hsp := hsp.trans (slet_eq ey_473)
                              refine lv_lconst (v := (1 : Int64)) hx hb dX9_hasTimes_129 rfl ?_
                              refine lv_lsub hx hb dX9_hasTimes_130 ?_
                              refine lv_topl (fun y_474 ey_474 => ?_)
                              replace hsp := hsp.trans (slet_eq ey_474)
                              refine lv_iload hx hb dX9_hasTimes_131 (lv_at hl 0 rfl) ?_
                              refine lv_iconst (v := 1) hx hb dX9_hasTimes_133 (by decide) ?_
                              refine lv_iand hx hb dX9_hasTimes_134 ?_
                              refine lv_topi (fun y_475 ey_475 => ?_)
                              replace hsp := hsp.trans (slet_eq ey_475)
                              refine lv_i2l (v := y_475.toInt64) hx hb dX9_hasTimes_135 rfl ?_
                              refine lv_topl (fun y_476 ey_476 => ?_)
                              replace hsp := hsp.trans (slet_eq ey_476)
                              refine lv_ladd hx hb dX9_hasTimes_136 ?_
                              refine lv_topl (fun y_477 ey_477 => ?_)
                              replace hsp := hsp.trans (slet_eq ey_477)
                              refine W.lcmp hx hb dX9_hasTimes_137 ?_
                              refine lv_topi (fun y_478 ey_478 => ?_)
                              replace hsp := hsp.trans (slet_eq ey_478)
                              refine lv_if_le (tgt := 143) hx hb dX9_hasTimes_138 (by decide) (fun c_479 => ?_) (fun c_479 => ?_)
                              · have hcc_479 := c_479
                                replace hsp := hsp.trans (if_pos c_479)
                                refine lv_iinc (v := (nI (g_448 + 1))) (lv' := [(6, .int (nI (g_448 + 1))), (11, .int r_468), (9, .long g_464), (0, .ref (ad 0)), (1, .int (nI a0)), (2, .int p1), (3, .int p2), (4, .int p3), (5, .int (nI g_362)), (7, .long g_460)]) hx hb dX9_hasTimes_143 hl (k := 8) rfl (nI_1 _) (by decide) rfl (fun ls hl => ?_)
                                refine lv_goto (tgt := 15) hx hb dX9_hasTimes_146 (by decide) ?_
                                exact ih_451 (3 - (g_448 + 1)) (by omega) _ _ _ ⟨r_468, (g_448 + 1), g_460, g_464, rfl, (by omega), hin_455 _ hsp, hP, hD, hS, lv_sub hl [3, 4, 5, 6, 7, 8, 0, 9, 2, 1] rfl⟩
                              · have hcc_479 := c_479
                                replace hsp := hsp.trans (if_neg c_479)
                                replace hsp := hout_456 _ hsp
                                replace hsp := hout_371 _ hsp
                                refine lv_iconst (v := 0) hx hb dX9_hasTimes_141 (by decide) ?_
                                exact W.zret (v := 0) (ty := .boolean) hx hb hr (rfl) (fun t ht hW => ⟨⟨0, (), rfl, ⟨0, (Nat.le_of_ble_eq_true rfl), rfl, (hsp.symm.trans hRR)⟩, trivial⟩, hS.F ht⟩) hS.2.2 dX9_hasTimes_142
                          have hsp := hJR_466
                          refine lv_if_ne (tgt := 70) hx hb dX9_hasTimes_62 (by decide) (fun c_480 => ?_) (fun c_480 => ?_)
                          · have c_480 : ¬ g_448 = 0 := fun z => c_480 ((nI_eq (a := g_448) (b := 0) (Nat.lt_of_le_of_lt hg_448 (Nat.le_of_ble_eq_true rfl)) (Nat.le_of_ble_eq_true rfl)).mpr z)
                            replace hsp := hsp.trans (if_neg c_480)
                            refine lv_iload hx hb dX9_hasTimes_70 (lv_at hl 7 rfl) ?_
                            refine lv_iconst (v := 1) hx hb dX9_hasTimes_72 (by decide) ?_
                            refine lv_icmp_ne (tgt := 81) hx hb dX9_hasTimes_73 (by decide) (fun c_481 => ?_) (fun c_481 => ?_)
                            · have c_481 : ¬ g_448 = 1 := fun z => c_481 ((nI_eq (a := g_448) (b := 1) (Nat.lt_of_le_of_lt hg_448 (Nat.le_of_ble_eq_true rfl)) (Nat.le_of_ble_eq_true rfl)).mpr z)
                              replace hsp := hsp.trans (if_neg c_481)
                              refine lv_iload hx hb dX9_hasTimes_81 (lv_at hl 7 rfl) ?_
                              refine lv_iconst (v := 2) hx hb dX9_hasTimes_83 (by decide) ?_
                              refine lv_icmp_ne (tgt := 93) hx hb dX9_hasTimes_84 (by decide) (fun c_482 => ?_) (fun c_482 => ?_)
                              · have c_482 : ¬ g_448 = 2 := fun z => c_482 ((nI_eq (a := g_448) (b := 2) (Nat.lt_of_le_of_lt hg_448 (Nat.le_of_ble_eq_true rfl)) (Nat.le_of_ble_eq_true rfl)).mpr z)
                                exfalso
                                omega
                              · have c_482 : g_448 = 2 := (nI_eq (a := g_448) (b := 2) (Nat.lt_of_le_of_lt hg_448 (Nat.le_of_ble_eq_true rfl)) (Nat.le_of_ble_eq_true rfl)).mp c_482
                                refine lv_iload hx hb dX9_hasTimes_87 (lv_at hl 5 rfl) ?_
                                refine lv_i2l (v := p3.toInt64) hx hb dX9_hasTimes_89 rfl ?_
                                refine lv_topl (fun y_483 ey_483 => ?_)
                                replace hsp := hsp.trans (slet_eq ey_483)
                                refine lv_goto (tgt := 94) hx hb dX9_hasTimes_90 (by decide) ?_
                                exact j_465 _ _ _ _ ⟨y_483, rfl, hsp.symm, hP, hD, hS, lv_sub hl [1, 2, 3, 4, 5, 6, 7, 0, 8, 9] rfl⟩
                            · have c_481 : g_448 = 1 := (nI_eq (a := g_448) (b := 1) (Nat.lt_of_le_of_lt hg_448 (Nat.le_of_ble_eq_true rfl)) (Nat.le_of_ble_eq_true rfl)).mp c_481
                              replace hsp := hsp.trans (if_pos c_481)
                              refine lv_iload_n hx hb dX9_hasTimes_76 rfl (lv_at hl 4 rfl) ?_
                              refine lv_i2l (v := p2.toInt64) hx hb dX9_hasTimes_77 rfl ?_
                              refine lv_topl (fun y_484 ey_484 => ?_)
                              replace hsp := hsp.trans (slet_eq ey_484)
                              refine lv_goto (tgt := 94) hx hb dX9_hasTimes_78 (by decide) ?_
                              exact j_465 _ _ _ _ ⟨y_484, rfl, hsp.symm, hP, hD, hS, lv_sub hl [1, 2, 3, 4, 5, 6, 7, 0, 8, 9] rfl⟩
                          · have c_480 : g_448 = 0 := (nI_eq (a := g_448) (b := 0) (Nat.lt_of_le_of_lt hg_448 (Nat.le_of_ble_eq_true rfl)) (Nat.le_of_ble_eq_true rfl)).mp c_480
                            replace hsp := hsp.trans (if_pos c_480)
                            refine lv_iload_n hx hb dX9_hasTimes_65 rfl (lv_at hl 3 rfl) ?_
                            refine lv_i2l (v := p1.toInt64) hx hb dX9_hasTimes_66 rfl ?_
                            refine lv_topl (fun y_485 ey_485 => ?_)
                            replace hsp := hsp.trans (slet_eq ey_485)
                            refine lv_goto (tgt := 94) hx hb dX9_hasTimes_67 (by decide) ?_
                            exact j_465 _ _ _ _ ⟨y_485, rfl, hsp.symm, hP, hD, hS, lv_sub hl [1, 2, 3, 4, 5, 6, 7, 0, 8, 9] rfl⟩
                        have hsp := hJR_462
                        refine lv_if_ne (tgt := 34) hx hb dX9_hasTimes_26 (by decide) (fun c_486 => ?_) (fun c_486 => ?_)
                        · have c_486 : ¬ g_362 = 0 := fun z => c_486 ((nI_eq (a := g_362) (b := 0) (Nat.lt_of_le_of_lt hg_362 (Nat.le_of_ble_eq_true rfl)) (Nat.le_of_ble_eq_true rfl)).mpr z)
                          replace hsp := hsp.trans (if_neg c_486)
                          refine lv_iload hx hb dX9_hasTimes_34 (lv_at hl 5 rfl) ?_
                          refine lv_iconst (v := 1) hx hb dX9_hasTimes_36 (by decide) ?_
                          refine lv_icmp_ne (tgt := 45) hx hb dX9_hasTimes_37 (by decide) (fun c_487 => ?_) (fun c_487 => ?_)
                          · have c_487 : ¬ g_362 = 1 := fun z => c_487 ((nI_eq (a := g_362) (b := 1) (Nat.lt_of_le_of_lt hg_362 (Nat.le_of_ble_eq_true rfl)) (Nat.le_of_ble_eq_true rfl)).mpr z)
                            replace hsp := hsp.trans (if_neg c_487)
                            refine lv_iload hx hb dX9_hasTimes_45 (lv_at hl 5 rfl) ?_
                            refine lv_iconst (v := 2) hx hb dX9_hasTimes_47 (by decide) ?_
                            refine lv_icmp_ne (tgt := 57) hx hb dX9_hasTimes_48 (by decide) (fun c_488 => ?_) (fun c_488 => ?_)
                            · have c_488 : ¬ g_362 = 2 := fun z => c_488 ((nI_eq (a := g_362) (b := 2) (Nat.lt_of_le_of_lt hg_362 (Nat.le_of_ble_eq_true rfl)) (Nat.le_of_ble_eq_true rfl)).mpr z)
                              exfalso
                              omega
                            · have c_488 : g_362 = 2 := (nI_eq (a := g_362) (b := 2) (Nat.lt_of_le_of_lt hg_362 (Nat.le_of_ble_eq_true rfl)) (Nat.le_of_ble_eq_true rfl)).mp c_488
                              refine lv_iload hx hb dX9_hasTimes_51 (lv_at hl 4 rfl) ?_
                              refine lv_i2l (v := p3.toInt64) hx hb dX9_hasTimes_53 rfl ?_
                              refine lv_topl (fun y_489 ey_489 => ?_)
                              replace hsp := hsp.trans (slet_eq ey_489)
                              refine lv_goto (tgt := 58) hx hb dX9_hasTimes_54 (by decide) ?_
                              exact j_461 _ _ _ _ ⟨y_489, rfl, hsp.symm, hP, hD, hS, lv_sub hl [0, 1, 2, 3, 4, 5, 6, 7, 8, 9] rfl⟩
                          · have c_487 : g_362 = 1 := (nI_eq (a := g_362) (b := 1) (Nat.lt_of_le_of_lt hg_362 (Nat.le_of_ble_eq_true rfl)) (Nat.le_of_ble_eq_true rfl)).mp c_487
                            replace hsp := hsp.trans (if_pos c_487)
                            refine lv_iload_n hx hb dX9_hasTimes_40 rfl (lv_at hl 3 rfl) ?_
                            refine lv_i2l (v := p2.toInt64) hx hb dX9_hasTimes_41 rfl ?_
                            refine lv_topl (fun y_490 ey_490 => ?_)
                            replace hsp := hsp.trans (slet_eq ey_490)
                            refine lv_goto (tgt := 58) hx hb dX9_hasTimes_42 (by decide) ?_
                            exact j_461 _ _ _ _ ⟨y_490, rfl, hsp.symm, hP, hD, hS, lv_sub hl [0, 1, 2, 3, 4, 5, 6, 7, 8, 9] rfl⟩
                        · have c_486 : g_362 = 0 := (nI_eq (a := g_362) (b := 0) (Nat.lt_of_le_of_lt hg_362 (Nat.le_of_ble_eq_true rfl)) (Nat.le_of_ble_eq_true rfl)).mp c_486
                          replace hsp := hsp.trans (if_pos c_486)
                          refine lv_iload_n hx hb dX9_hasTimes_29 rfl (lv_at hl 2 rfl) ?_
                          refine lv_i2l (v := p1.toInt64) hx hb dX9_hasTimes_30 rfl ?_
                          refine lv_topl (fun y_491 ey_491 => ?_)
                          replace hsp := hsp.trans (slet_eq ey_491)
                          refine lv_goto (tgt := 58) hx hb dX9_hasTimes_31 (by decide) ?_
                          exact j_461 _ _ _ _ ⟨y_491, rfl, hsp.symm, hP, hD, hS, lv_sub hl [0, 1, 2, 3, 4, 5, 6, 7, 8, 9] rfl⟩
                    · have hcc_442 := c_442
                      replace hsp := hsp.trans (if_neg c_442)
                      replace hsp := hout_371 _ hsp
                      refine lv_iconst (v := 0) hx hb dX9_hasTimes_141 (by decide) ?_
                      exact W.zret (v := 0) (ty := .boolean) hx hb hr (rfl) (fun t ht hW => ⟨⟨0, (), rfl, ⟨0, (Nat.le_of_ble_eq_true rfl), rfl, (hsp.symm.trans hRR)⟩, trivial⟩, hS.F ht⟩) hS.2.2 dX9_hasTimes_142
                have hsp := hJR_380
                refine lv_if_ne (tgt := 34) hx hb dX9_hasTimes_26 (by decide) (fun c_492 => ?_) (fun c_492 => ?_)
                · have c_492 : ¬ g_362 = 0 := fun z => c_492 ((nI_eq (a := g_362) (b := 0) (Nat.lt_of_le_of_lt hg_362 (Nat.le_of_ble_eq_true rfl)) (Nat.le_of_ble_eq_true rfl)).mpr z)
                  replace hsp := hsp.trans (if_neg c_492)
                  refine lv_iload hx hb dX9_hasTimes_34 (lv_at hl 6 rfl) ?_
                  refine lv_iconst (v := 1) hx hb dX9_hasTimes_36 (by decide) ?_
                  refine lv_icmp_ne (tgt := 45) hx hb dX9_hasTimes_37 (by decide) (fun c_493 => ?_) (fun c_493 => ?_)
                  · have c_493 : ¬ g_362 = 1 := fun z => c_493 ((nI_eq (a := g_362) (b := 1) (Nat.lt_of_le_of_lt hg_362 (Nat.le_of_ble_eq_true rfl)) (Nat.le_of_ble_eq_true rfl)).mpr z)
                    replace hsp := hsp.trans (if_neg c_493)
                    refine lv_iload hx hb dX9_hasTimes_45 (lv_at hl 6 rfl) ?_
                    refine lv_iconst (v := 2) hx hb dX9_hasTimes_47 (by decide) ?_
                    refine lv_icmp_ne (tgt := 57) hx hb dX9_hasTimes_48 (by decide) (fun c_494 => ?_) (fun c_494 => ?_)
                    · have c_494 : ¬ g_362 = 2 := fun z => c_494 ((nI_eq (a := g_362) (b := 2) (Nat.lt_of_le_of_lt hg_362 (Nat.le_of_ble_eq_true rfl)) (Nat.le_of_ble_eq_true rfl)).mpr z)
                      exfalso
                      omega
                    · have c_494 : g_362 = 2 := (nI_eq (a := g_362) (b := 2) (Nat.lt_of_le_of_lt hg_362 (Nat.le_of_ble_eq_true rfl)) (Nat.le_of_ble_eq_true rfl)).mp c_494
                      refine lv_iload hx hb dX9_hasTimes_51 (lv_at hl 5 rfl) ?_
                      refine lv_i2l (v := p3.toInt64) hx hb dX9_hasTimes_53 rfl ?_
                      refine lv_topl (fun y_495 ey_495 => ?_)
                      replace hsp := hsp.trans (slet_eq ey_495)
                      refine lv_goto (tgt := 58) hx hb dX9_hasTimes_54 (by decide) ?_
                      exact j_379 _ _ _ _ ⟨y_495, rfl, hsp.symm, hP, hD, hS, lv_sub hl [1, 2, 3, 4, 5, 6, 0, 7, 8, 9] rfl⟩
                  · have c_493 : g_362 = 1 := (nI_eq (a := g_362) (b := 1) (Nat.lt_of_le_of_lt hg_362 (Nat.le_of_ble_eq_true rfl)) (Nat.le_of_ble_eq_true rfl)).mp c_493
                    replace hsp := hsp.trans (if_pos c_493)
                    refine lv_iload_n hx hb dX9_hasTimes_40 rfl (lv_at hl 4 rfl) ?_
                    refine lv_i2l (v := p2.toInt64) hx hb dX9_hasTimes_41 rfl ?_
                    refine lv_topl (fun y_496 ey_496 => ?_)
                    replace hsp := hsp.trans (slet_eq ey_496)
                    refine lv_goto (tgt := 58) hx hb dX9_hasTimes_42 (by decide) ?_
                    exact j_379 _ _ _ _ ⟨y_496, rfl, hsp.symm, hP, hD, hS, lv_sub hl [1, 2, 3, 4, 5, 6, 0, 7, 8, 9] rfl⟩
                · have c_492 : g_362 = 0 := (nI_eq (a := g_362) (b := 0) (Nat.lt_of_le_of_lt hg_362 (Nat.le_of_ble_eq_true rfl)) (Nat.le_of_ble_eq_true rfl)).mp c_492
                  replace hsp := hsp.trans (if_pos c_492)
                  refine lv_iload_n hx hb dX9_hasTimes_29 rfl (lv_at hl 3 rfl) ?_
                  refine lv_i2l (v := p1.toInt64) hx hb dX9_hasTimes_30 rfl ?_
                  refine lv_topl (fun y_497 ey_497 => ?_)
                  replace hsp := hsp.trans (slet_eq ey_497)
                  refine lv_goto (tgt := 58) hx hb dX9_hasTimes_31 (by decide) ?_
                  exact j_379 _ _ _ _ ⟨y_497, rfl, hsp.symm, hP, hD, hS, lv_sub hl [1, 2, 3, 4, 5, 6, 0, 7, 8, 9] rfl⟩
          · have c_355 : ¬ u_354 ≤ g_344 := fun z => c_355 ((nI_leI (a := u_354) (b := g_344) (Nat.lt_of_le_of_lt hu_354 (Nat.le_of_ble_eq_true rfl)) (Nat.lt_of_le_of_lt hg_344 (Nat.le_of_ble_eq_true rfl))).mpr z)
            replace hsp := hsp.trans (if_neg c_355)
            refine lv_iload hx hb dX9_hasTimes_24 (lv_at hl 5 rfl) ?_
            refine lv_if_ne (tgt := 34) hx hb dX9_hasTimes_26 (by decide) (fun _ => ?_) (fun z => absurd z (by decide))
            refine lv_iload hx hb dX9_hasTimes_34 (lv_at hl 5 rfl) ?_
            refine lv_iconst (v := 1) hx hb dX9_hasTimes_36 (by decide) ?_
            refine lv_icmp_ne (tgt := 45) hx hb dX9_hasTimes_37 (by decide) (fun _ => ?_) (fun z => absurd z (by decide))
            refine lv_iload hx hb dX9_hasTimes_45 (lv_at hl 5 rfl) ?_
            refine lv_iconst (v := 2) hx hb dX9_hasTimes_47 (by decide) ?_
            refine lv_icmp_ne (tgt := 57) hx hb dX9_hasTimes_48 (by decide) (fun _ => ?_) (fun z => absurd z (by decide))
            refine lv_lconst (v := (0 : Int64)) hx hb dX9_hasTimes_57 rfl ?_
            refine lv_lstore (lv' := [(7, .long (0 : Int64)), (0, .ref (ad 0)), (1, .int (nI a0)), (2, .int p1), (3, .int p2), (4, .int p3), (5, .int (-1)), (6, .int (nI g_344)), (9, .long g_346), (11, .int g_343)]) hx hb dX9_hasTimes_58 hl (by decide) rfl (fun ls hl => ?_)
            refine lv_iload hx hb dX9_hasTimes_60 (lv_at hl 7 rfl) ?_
            obtain ⟨JR_500, hJR_500, hsp⟩ := slet_ex hsp
            refine pu_join (fun H locs ls st => ∃ (g_498 : Int64), st = [.long g_498] ∧ g_498 = JR_500 ∧ va_P (dC, dI) vwCl (mo_w ad ck x0 (nI x16) (nI x18) (nI x19) x20 (nI x21) (nI x22) x23 x24 x25 (nI x26) x27 (nI x28) (nI x29) (nI x30) (nI x33) x45 (nI x46) (nI x52) (nI x53) (nI x61) (nI x62) (nI x63) (nI x65) x66 f1 f2 f3 (bN 3 q4) (bN 7 q5) (bN 7 q6) (bN 4 q7) f8 (bN 2 q9) (bH q10) f11 (b2 m12_0 m12_1) (b2 m13_0 m13_1) (b2 m14_0 m14_1) (b2m m15_0 m15_1) f17 (bA 159 q31) f32 f34 f35 f36 f37 (bN 7 q38) f39 f40 f41 (b2 m42_0 m42_1) f43 f44 f47 f48 f49 f50 f51 (bN 13 q54) (bN 120 q55) (bN 120 q56) f57 (bN 120 q58) f59 f60 f64) H ∧ va_D (fun _ => True) (mo_w ad ck x0 (nI x16) (nI x18) (nI x19) x20 (nI x21) (nI x22) x23 x24 x25 (nI x26) x27 (nI x28) (nI x29) (nI x30) (nI x33) x45 (nI x46) (nI x52) (nI x53) (nI x61) (nI x62) (nI x63) (nI x65) x66 f1 f2 f3 (bN 3 q4) (bN 7 q5) (bN 7 q6) (bN 4 q7) f8 (bN 2 q9) (bH q10) f11 (b2 m12_0 m12_1) (b2 m13_0 m13_1) (b2 m14_0 m14_1) (b2m m15_0 m15_1) f17 (bA 159 q31) f32 f34 f35 f36 f37 (bN 7 q38) f39 f40 f41 (b2 m42_0 m42_1) f43 f44 f47 f48 f49 f50 f51 (bN 13 q54) (bN 120 q55) (bN 120 q56) f57 (bN 120 q58) f59 f60 f64) ∧ va_S (va_A [] s.heap.size) s.heap H locs ∧ lv_has ls 12 [(0, .ref (ad 0)), (1, .int (nI a0)), (2, .int p1), (3, .int p2), (4, .int p3), (5, .int (-1)), (6, .int (nI g_344)), (7, .long (0 : Int64)), (9, .long g_346), (11, .int g_343)]) 94 ?_ (fun j_499 => ?_)
            · rintro H locs ls st ⟨g_498, rfl, he_501, hP, hD, hS, hl⟩
              rw [← he_501] at hsp
              refine lv_lstore (lv' := [(9, .long g_498), (0, .ref (ad 0)), (1, .int (nI a0)), (2, .int p1), (3, .int p2), (4, .int p3), (5, .int (-1)), (6, .int (nI g_344)), (7, .long (0 : Int64)), (11, .int g_343)]) hx hb dX9_hasTimes_94 hl (by decide) rfl (fun ls hl => ?_)
              refine lv_aload_n hx hb dX9_hasTimes_96 rfl (lv_at hl 1 rfl) ?_
              refine lv_iload_n hx hb dX9_hasTimes_97 rfl (lv_at hl 2 rfl) ?_
              refine lv_iload hx hb dX9_hasTimes_98 (lv_at hl 6 rfl) ?_
              refine lv_iload hx hb dX9_hasTimes_100 (lv_at hl 7 rfl) ?_
              refine va_calli (va_runV (As := [.int (nI a0), .int (-1), .int (nI g_344)]) (rest := []) ⟨hx, hb, hml, hown, hts⟩ (c_EM_boundOf_01 l dC dI _ ad ck x0 x16 x18 x19 x20 x21 x22 x23 x24 x25 x26 x27 x28 x29 x30 x33 x45 x46 x52 x53 x61 x62 x63 x65 x66 f1 f2 f3 q4 q5 q6 q7 f8 q9 q10 f11 m12_0 m12_1 m13_0 m13_1 m14_0 m14_1 m15_0 m15_1 f17 q31 f32 f34 f35 f36 f37 q38 f39 f40 f41 m42_0 m42_1 f43 f44 f47 f48 f49 f50 f51 q54 q55 q56 f57 q58 f59 f60 f64 a0 g_344 hx16 hx18 hx19 hx21 hx22 hx26 hx28 hx29 hx30 hx33 hx46 hx52 hx53 hx61 hx62 hx63 hx65 hm12_0 hm12_1 hm13_0 hm13_1 hm14_0 hm14_1 hm15_0 hm15_1 hm42_0 hm42_1 ha0 hg_344) (cwV 3 hts g_EM_hasTimes_EM_boundOf_01 rfl rfl rfl (by decide +kernel) ⟨Nat.le_of_ble_eq_true rfl, Nat.le_of_ble_eq_true rfl⟩) ⟨pu_bl, va_recv hK hP (ci := 9) (q0 := 0) rfl rfl, pu_in hP hK hD⟩ rfl rfl hl.1 rfl (lv_room (Nat.le_of_ble_eq_true rfl)) dX9_hasTimes_102 ⟨Nat.le_of_ble_eq_true rfl, Nat.le_of_ble_eq_true rfl⟩) hS (fun q _ h => pu_fr hS hA q h) (pu_fr hS hA) (fun r_502 u t H1 locs ht hvm hw hB hz1 hk1 hS => ?_)
              have hP := pu_keep hP hk1
              clear hk1 hz1 ht hvm
              generalize H1 = H at hP hS ⊢
              have ir_502 := hw
              replace hsp := hsp.trans (slet_eq ir_502)
              refine lv_istore (lv' := [(11, .int r_502), (9, .long g_498), (0, .ref (ad 0)), (1, .int (nI a0)), (2, .int p1), (3, .int p2), (4, .int p3), (5, .int (-1)), (6, .int (nI g_344)), (7, .long (0 : Int64))]) hx hb dX9_hasTimes_105 hl (by decide) rfl (fun ls hl => ?_)
              refine lv_iload hx hb dX9_hasTimes_107 (lv_at hl 0 rfl) ?_
              refine lv_ldcw hx hb hown v_10 dX9_hasTimes_109 ?_
              refine lv_icmp_ge (tgt := 143) hx hb dX9_hasTimes_112 (by decide) (fun c_503 => ?_) (fun c_503 => ?_)
              · have hcc_503 := c_503
                replace hsp := hsp.trans (if_pos c_503)
                refine lv_iinc (v := (nI (g_344 + 1))) (lv' := [(6, .int (nI (g_344 + 1))), (11, .int r_502), (9, .long g_498), (0, .ref (ad 0)), (1, .int (nI a0)), (2, .int p1), (3, .int p2), (4, .int p3), (5, .int (-1)), (7, .long (0 : Int64))]) hx hb dX9_hasTimes_143 hl (k := 8) rfl (nI_1 _) (by decide) rfl (fun ls hl => ?_)
                refine lv_goto (tgt := 15) hx hb dX9_hasTimes_146 (by decide) ?_
                exact ih_347 (3 - (g_344 + 1)) (by omega) _ _ _ ⟨r_502, (g_344 + 1), (0 : Int64), g_498, rfl, (by omega), hin_351 _ hsp, hP, hD, hS, lv_sub hl [3, 4, 5, 6, 7, 8, 0, 9, 2, 1] rfl⟩
              · have hcc_503 := c_503
                replace hsp := hsp.trans (if_neg c_503)
                refine lv_lload hx hb dX9_hasTimes_115 (lv_at hl 9 rfl) ?_
                refine lv_lload hx hb dX9_hasTimes_117 (lv_at hl 1 rfl) ?_
                refine lv_lsub hx hb dX9_hasTimes_119 ?_
                refine lv_topl (fun y_504 ey_504 => ?_)
                replace hsp := hsp.trans (slet_eq ey_504)
                refine lv_iload hx hb dX9_hasTimes_120 (lv_at hl 0 rfl) ?_
                refine lv_iconst (v := 1) hx hb dX9_hasTimes_122 (by decide) ?_
                refine lv_ishr hx hb dX9_hasTimes_123 ?_
                refine lv_topi (fun y_505 ey_505 => ?_)
                replace hsp := hsp.trans (slet_eq ey_505)
                refine lv_i2l (v := y_505.toInt64) hx hb dX9_hasTimes_124 rfl ?_
                refine lv_topl (fun y_506 ey_506 => ?_)
                replace hsp := hsp.trans (slet_eq ey_506)
                refine lv_ldc2 (v := (256)) hx hb hown v_11 dX9_hasTimes_125 ?_
                refine lv_lmul hx hb dX9_hasTimes_128 ?_
                refine lv_topl (fun y_507 ey_507 => ?_)
                replace hsp := hsp.trans (slet_eq ey_507)
                refine lv_lconst (v := (1 : Int64)) hx hb dX9_hasTimes_129 rfl ?_
                refine lv_lsub hx hb dX9_hasTimes_130 ?_
                refine lv_topl (fun y_508 ey_508 => ?_)
                replace hsp := hsp.trans (slet_eq ey_508)
                refine lv_iload hx hb dX9_hasTimes_131 (lv_at hl 0 rfl) ?_
                refine lv_iconst (v := 1) hx hb dX9_hasTimes_133 (by decide) ?_
                refine lv_iand hx hb dX9_hasTimes_134 ?_
                refine lv_topi (fun y_509 ey_509 => ?_)
                replace hsp := hsp.trans (slet_eq ey_509)
                refine lv_i2l (v := y_509.toInt64) hx hb dX9_hasTimes_135 rfl ?_
                refine lv_topl (fun y_510 ey_510 => ?_)
                replace hsp := hsp.trans (slet_eq ey_510)
                refine lv_ladd hx hb dX9_hasTimes_136 ?_
                refine lv_topl (fun y_511 ey_511 => ?_)
                replace hsp := hsp.trans (slet_eq ey_511)
                refine W.lcmp hx hb dX9_hasTimes_137 ?_
                refine lv_topi (fun y_512 ey_512 => ?_)
                replace hsp := hsp.trans (slet_eq ey_512)
                refine lv_if_le (tgt := 143) hx hb dX9_hasTimes_138 (by decide) (fun c_513 => ?_) (fun c_513 => ?_)
                · have hcc_513 := c_513
                  replace hsp := hsp.trans (if_pos c_513)
                  refine lv_iinc (v := (nI (g_344 + 1))) (lv' := [(6, .int (nI (g_344 + 1))), (11, .int r_502), (9, .long g_498), (0, .ref (ad 0)), (1, .int (nI a0)), (2, .int p1), (3, .int p2), (4, .int p3), (5, .int (-1)), (7, .long (0 : Int64))]) hx hb dX9_hasTimes_143 hl (k := 8) rfl (nI_1 _) (by decide) rfl (fun ls hl => ?_)
                  refine lv_goto (tgt := 15) hx hb dX9_hasTimes_146 (by decide) ?_
                  exact ih_347 (3 - (g_344 + 1)) (by omega) _ _ _ ⟨r_502, (g_344 + 1), (0 : Int64), g_498, rfl, (by omega), hin_351 _ hsp, hP, hD, hS, lv_sub hl [3, 4, 5, 6, 7, 8, 0, 9, 2, 1] rfl⟩
                · have hcc_513 := c_513
                  replace hsp := hsp.trans (if_neg c_513)
                  replace hsp := hout_352 _ hsp
                  refine lv_iconst (v := 0) hx hb dX9_hasTimes_141 (by decide) ?_
                  exact W.zret (v := 0) (ty := .boolean) hx hb hr (rfl) (fun t ht hW => ⟨⟨0, (), rfl, ⟨0, (Nat.le_of_ble_eq_true rfl), rfl, (hsp.symm.trans hRR)⟩, trivial⟩, hS.F ht⟩) hS.2.2 dX9_hasTimes_142
            have hsp := hJR_500
            refine lv_if_ne (tgt := 70) hx hb dX9_hasTimes_62 (by decide) (fun c_514 => ?_) (fun c_514 => ?_)
            · have c_514 : ¬ g_344 = 0 := fun z => c_514 ((nI_eq (a := g_344) (b := 0) (Nat.lt_of_le_of_lt hg_344 (Nat.le_of_ble_eq_true rfl)) (Nat.le_of_ble_eq_true rfl)).mpr z)
              replace hsp := hsp.trans (if_neg c_514)
              refine lv_iload hx hb dX9_hasTimes_70 (lv_at hl 7 rfl) ?_
              refine lv_iconst (v := 1) hx hb dX9_hasTimes_72 (by decide) ?_
              refine lv_icmp_ne (tgt := 81) hx hb dX9_hasTimes_73 (by decide) (fun c_515 => ?_) (fun c_515 => ?_)
              · have c_515 : ¬ g_344 = 1 := fun z => c_515 ((nI_eq (a := g_344) (b := 1) (Nat.lt_of_le_of_lt hg_344 (Nat.le_of_ble_eq_true rfl)) (Nat.le_of_ble_eq_true rfl)).mpr z)
                replace hsp := hsp.trans (if_neg c_515)
                refine lv_iload hx hb dX9_hasTimes_81 (lv_at hl 7 rfl) ?_
                refine lv_iconst (v := 2) hx hb dX9_hasTimes_83 (by decide) ?_
                refine lv_icmp_ne (tgt := 93) hx hb dX9_hasTimes_84 (by decide) (fun c_516 => ?_) (fun c_516 => ?_)
                · have c_516 : ¬ g_344 = 2 := fun z => c_516 ((nI_eq (a := g_344) (b := 2) (Nat.lt_of_le_of_lt hg_344 (Nat.le_of_ble_eq_true rfl)) (Nat.le_of_ble_eq_true rfl)).mpr z)
                  exfalso
                  omega
                · have c_516 : g_344 = 2 := (nI_eq (a := g_344) (b := 2) (Nat.lt_of_le_of_lt hg_344 (Nat.le_of_ble_eq_true rfl)) (Nat.le_of_ble_eq_true rfl)).mp c_516
                  refine lv_iload hx hb dX9_hasTimes_87 (lv_at hl 5 rfl) ?_
                  refine lv_i2l (v := p3.toInt64) hx hb dX9_hasTimes_89 rfl ?_
                  refine lv_topl (fun y_517 ey_517 => ?_)
                  replace hsp := hsp.trans (slet_eq ey_517)
                  refine lv_goto (tgt := 94) hx hb dX9_hasTimes_90 (by decide) ?_
                  exact j_499 _ _ _ _ ⟨y_517, rfl, hsp.symm, hP, hD, hS, lv_sub hl [1, 2, 3, 4, 5, 6, 7, 0, 8, 9] rfl⟩
              · have c_515 : g_344 = 1 := (nI_eq (a := g_344) (b := 1) (Nat.lt_of_le_of_lt hg_344 (Nat.le_of_ble_eq_true rfl)) (Nat.le_of_ble_eq_true rfl)).mp c_515
                replace hsp := hsp.trans (if_pos c_515)
                refine lv_iload_n hx hb dX9_hasTimes_76 rfl (lv_at hl 4 rfl) ?_
                refine lv_i2l (v := p2.toInt64) hx hb dX9_hasTimes_77 rfl ?_
                refine lv_topl (fun y_518 ey_518 => ?_)
                replace hsp := hsp.trans (slet_eq ey_518)
                refine lv_goto (tgt := 94) hx hb dX9_hasTimes_78 (by decide) ?_
                exact j_499 _ _ _ _ ⟨y_518, rfl, hsp.symm, hP, hD, hS, lv_sub hl [1, 2, 3, 4, 5, 6, 7, 0, 8, 9] rfl⟩
            · have c_514 : g_344 = 0 := (nI_eq (a := g_344) (b := 0) (Nat.lt_of_le_of_lt hg_344 (Nat.le_of_ble_eq_true rfl)) (Nat.le_of_ble_eq_true rfl)).mp c_514
              replace hsp := hsp.trans (if_pos c_514)
              refine lv_iload_n hx hb dX9_hasTimes_65 rfl (lv_at hl 3 rfl) ?_
              refine lv_i2l (v := p1.toInt64) hx hb dX9_hasTimes_66 rfl ?_
              refine lv_topl (fun y_519 ey_519 => ?_)
              replace hsp := hsp.trans (slet_eq ey_519)
              refine lv_goto (tgt := 94) hx hb dX9_hasTimes_67 (by decide) ?_
              exact j_499 _ _ _ _ ⟨y_519, rfl, hsp.symm, hP, hD, hS, lv_sub hl [1, 2, 3, 4, 5, 6, 7, 0, 8, 9] rfl⟩
        · have hcc_338 := c_338
          replace hsp := hsp.trans (if_neg c_338)
          refine lv_iconst (v := 0) hx hb dX9_hasTimes_141 (by decide) ?_
          exact W.zret (v := 0) (ty := .boolean) hx hb hr (rfl) (fun t ht hW => ⟨⟨0, (), rfl, ⟨0, (Nat.le_of_ble_eq_true rfl), rfl, (hsp.symm.trans hRR)⟩, trivial⟩, hS.F ht⟩) hS.2.2 dX9_hasTimes_142
