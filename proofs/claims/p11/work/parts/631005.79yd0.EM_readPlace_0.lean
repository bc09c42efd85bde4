theorem dX9_readPlace_0 : decode cX9_readPlace 0 = .ok (.bipush 8, 2) := by decide +kernel
theorem dX9_readPlace_2 : decode cX9_readPlace 2 = .ok (.aload_n 0, 1) := by decide +kernel
theorem dX9_readPlace_3 : decode cX9_readPlace 3 = .ok (.getfield 203, 3) := by decide +kernel
theorem dX9_readPlace_6 : decode cX9_readPlace 6 = .ok (.imul, 1) := by decide +kernel
theorem dX9_readPlace_7 : decode cX9_readPlace 7 = .ok (.aload_n 0, 1) := by decide +kernel
theorem dX9_readPlace_8 : decode cX9_readPlace 8 = .ok (.getfield 46, 3) := by decide +kernel
theorem dX9_readPlace_11 : decode cX9_readPlace 11 = .ok (.aload_n 0, 1) := by decide +kernel
theorem dX9_readPlace_12 : decode cX9_readPlace 12 = .ok (.getfield 203, 3) := by decide +kernel
theorem dX9_readPlace_15 : decode cX9_readPlace 15 = .ok (.iaload, 1) := by decide +kernel
theorem dX9_readPlace_16 : decode cX9_readPlace 16 = .ok (.iadd, 1) := by decide +kernel
theorem dX9_readPlace_17 : decode cX9_readPlace 17 = .ok (.istore_n 1, 1) := by decide +kernel
theorem dX9_readPlace_18 : decode cX9_readPlace 18 = .ok (.aload_n 0, 1) := by decide +kernel
theorem dX9_readPlace_19 : decode cX9_readPlace 19 = .ok (.getfield 13, 3) := by decide +kernel
theorem dX9_readPlace_22 : decode cX9_readPlace 22 = .ok (.iload_n 1, 1) := by decide +kernel
theorem dX9_readPlace_23 : decode cX9_readPlace 23 = .ok (.aload_n 0, 1) := by decide +kernel
theorem dX9_readPlace_24 : decode cX9_readPlace 24 = .ok (.invokevirtual 238, 3) := by decide +kernel
theorem dX9_readPlace_27 : decode cX9_readPlace 27 = .ok (.iastore, 1) := by decide +kernel
theorem dX9_readPlace_28 : decode cX9_readPlace 28 = .ok (.aload_n 0, 1) := by decide +kernel
theorem dX9_readPlace_29 : decode cX9_readPlace 29 = .ok (.getfield 16, 3) := by decide +kernel
theorem dX9_readPlace_32 : decode cX9_readPlace 32 = .ok (.iload_n 1, 1) := by decide +kernel
theorem dX9_readPlace_33 : decode cX9_readPlace 33 = .ok (.iconst 0, 1) := by decide +kernel
theorem dX9_readPlace_34 : decode cX9_readPlace 34 = .ok (.iastore, 1) := by decide +kernel
theorem dX9_readPlace_35 : decode cX9_readPlace 35 = .ok (.aload_n 0, 1) := by decide +kernel
theorem dX9_readPlace_36 : decode cX9_readPlace 36 = .ok (.getfield 19, 3) := by decide +kernel
theorem dX9_readPlace_39 : decode cX9_readPlace 39 = .ok (.iload_n 1, 1) := by decide +kernel
theorem dX9_readPlace_40 : decode cX9_readPlace 40 = .ok (.iconst 0, 1) := by decide +kernel
theorem dX9_readPlace_41 : decode cX9_readPlace 41 = .ok (.iastore, 1) := by decide +kernel
theorem dX9_readPlace_42 : decode cX9_readPlace 42 = .ok (.aload_n 0, 1) := by decide +kernel
theorem dX9_readPlace_43 : decode cX9_readPlace 43 = .ok (.invokevirtual 216, 3) := by decide +kernel
theorem dX9_readPlace_46 : decode cX9_readPlace 46 = .ok (.ifCond .eq 23, 3) := by decide +kernel
theorem dX9_readPlace_49 : decode cX9_readPlace 49 = .ok (.aload_n 0, 1) := by decide +kernel
theorem dX9_readPlace_50 : decode cX9_readPlace 50 = .ok (.ldc 197, 2) := by decide +kernel
theorem dX9_readPlace_52 : decode cX9_readPlace 52 = .ok (.invokevirtual 193, 3) := by decide +kernel
theorem dX9_readPlace_55 : decode cX9_readPlace 55 = .ok (.ifCond .eq 14, 3) := by decide +kernel
theorem dX9_readPlace_58 : decode cX9_readPlace 58 = .ok (.aload_n 0, 1) := by decide +kernel
theorem dX9_readPlace_59 : decode cX9_readPlace 59 = .ok (.getfield 16, 3) := by decide +kernel
theorem dX9_readPlace_62 : decode cX9_readPlace 62 = .ok (.iload_n 1, 1) := by decide +kernel
theorem dX9_readPlace_63 : decode cX9_readPlace 63 = .ok (.iconst 1, 1) := by decide +kernel
theorem dX9_readPlace_64 : decode cX9_readPlace 64 = .ok (.iastore, 1) := by decide +kernel
theorem dX9_readPlace_65 : decode cX9_readPlace 65 = .ok (.aload_n 0, 1) := by decide +kernel
theorem dX9_readPlace_66 : decode cX9_readPlace 66 = .ok (.invokevirtual 226, 3) := by decide +kernel
theorem dX9_readPlace_69 : decode cX9_readPlace 69 = .ok (.aload_n 0, 1) := by decide +kernel
theorem dX9_readPlace_70 : decode cX9_readPlace 70 = .ok (.invokevirtual 216, 3) := by decide +kernel
theorem dX9_readPlace_73 : decode cX9_readPlace 73 = .ok (.ifCond .eq 75, 3) := by decide +kernel
theorem dX9_readPlace_76 : decode cX9_readPlace 76 = .ok (.aload_n 0, 1) := by decide +kernel
theorem dX9_readPlace_77 : decode cX9_readPlace 77 = .ok (.ldc 198, 2) := by decide +kernel
theorem dX9_readPlace_79 : decode cX9_readPlace 79 = .ok (.invokevirtual 193, 3) := by decide +kernel
theorem dX9_readPlace_82 : decode cX9_readPlace 82 = .ok (.ifCond .eq 66, 3) := by decide +kernel
theorem dX9_readPlace_85 : decode cX9_readPlace 85 = .ok (.aload_n 0, 1) := by decide +kernel
theorem dX9_readPlace_86 : decode cX9_readPlace 86 = .ok (.getfield 19, 3) := by decide +kernel
theorem dX9_readPlace_89 : decode cX9_readPlace 89 = .ok (.iload_n 1, 1) := by decide +kernel
theorem dX9_readPlace_90 : decode cX9_readPlace 90 = .ok (.iaload, 1) := by decide +kernel
theorem dX9_readPlace_91 : decode cX9_readPlace 91 = .ok (.iconst 3, 1) := by decide +kernel
theorem dX9_readPlace_92 : decode cX9_readPlace 92 = .ok (.if_icmp .ne 9, 3) := by decide +kernel
theorem dX9_readPlace_95 : decode cX9_readPlace 95 = .ok (.aload_n 0, 1) := by decide +kernel
theorem dX9_readPlace_96 : decode cX9_readPlace 96 = .ok (.iconst 5, 1) := by decide +kernel
theorem dX9_readPlace_97 : decode cX9_readPlace 97 = .ok (.invokevirtual 210, 3) := by decide +kernel
theorem dX9_readPlace_100 : decode cX9_readPlace 100 = .ok (.return_, 1) := by decide +kernel
theorem dX9_readPlace_101 : decode cX9_readPlace 101 = .ok (.aload_n 0, 1) := by decide +kernel
theorem dX9_readPlace_102 : decode cX9_readPlace 102 = .ok (.bipush 80, 2) := by decide +kernel
theorem dX9_readPlace_104 : decode cX9_readPlace 104 = .ok (.aload_n 0, 1) := by decide +kernel
theorem dX9_readPlace_105 : decode cX9_readPlace 105 = .ok (.getfield 203, 3) := by decide +kernel
theorem dX9_readPlace_108 : decode cX9_readPlace 108 = .ok (.imul, 1) := by decide +kernel
theorem dX9_readPlace_109 : decode cX9_readPlace 109 = .ok (.bipush 56, 2) := by decide +kernel
theorem dX9_readPlace_111 : decode cX9_readPlace 111 = .ok (.iadd, 1) := by decide +kernel
theorem dX9_readPlace_112 : decode cX9_readPlace 112 = .ok (.iconst 3, 1) := by decide +kernel
theorem dX9_readPlace_113 : decode cX9_readPlace 113 = .ok (.aload_n 0, 1) := by decide +kernel
theorem dX9_readPlace_114 : decode cX9_readPlace 114 = .ok (.getfield 46, 3) := by decide +kernel
theorem dX9_readPlace_117 : decode cX9_readPlace 117 = .ok (.aload_n 0, 1) := by decide +kernel
theorem dX9_readPlace_118 : decode cX9_readPlace 118 = .ok (.getfield 203, 3) := by decide +kernel
theorem dX9_readPlace_121 : decode cX9_readPlace 121 = .ok (.iaload, 1) := by decide +kernel
theorem dX9_readPlace_122 : decode cX9_readPlace 122 = .ok (.imul, 1) := by decide +kernel
theorem dX9_readPlace_123 : decode cX9_readPlace 123 = .ok (.iadd, 1) := by decide +kernel
theorem dX9_readPlace_124 : decode cX9_readPlace 124 = .ok (.aload_n 0, 1) := by decide +kernel
theorem dX9_readPlace_125 : decode cX9_readPlace 125 = .ok (.getfield 19, 3) := by decide +kernel
theorem dX9_readPlace_128 : decode cX9_readPlace 128 = .ok (.iload_n 1, 1) := by decide +kernel
theorem dX9_readPlace_129 : decode cX9_readPlace 129 = .ok (.iaload, 1) := by decide +kernel
theorem dX9_readPlace_130 : decode cX9_readPlace 130 = .ok (.iadd, 1) := by decide +kernel
theorem dX9_readPlace_131 : decode cX9_readPlace 131 = .ok (.iconst 1, 1) := by decide +kernel
theorem dX9_readPlace_132 : decode cX9_readPlace 132 = .ok (.invokevirtual 241, 3) := by decide +kernel
theorem dX9_readPlace_135 : decode cX9_readPlace 135 = .ok (.aload_n 0, 1) := by decide +kernel
theorem dX9_readPlace_136 : decode cX9_readPlace 136 = .ok (.getfield 19, 3) := by decide +kernel
theorem dX9_readPlace_139 : decode cX9_readPlace 139 = .ok (.iload_n 1, 1) := by decide +kernel
theorem dX9_readPlace_140 : decode cX9_readPlace 140 = .ok (.dup2, 1) := by decide +kernel
theorem dX9_readPlace_141 : decode cX9_readPlace 141 = .ok (.iaload, 1) := by decide +kernel
theorem dX9_readPlace_142 : decode cX9_readPlace 142 = .ok (.iconst 1, 1) := by decide +kernel
theorem dX9_readPlace_143 : decode cX9_readPlace 143 = .ok (.iadd, 1) := by decide +kernel
theorem dX9_readPlace_144 : decode cX9_readPlace 144 = .ok (.iastore, 1) := by decide +kernel
theorem dX9_readPlace_145 : decode cX9_readPlace 145 = .ok (.goto (-76), 3) := by decide +kernel
theorem dX9_readPlace_148 : decode cX9_readPlace 148 = .ok (.aload_n 0, 1) := by decide +kernel
theorem dX9_readPlace_149 : decode cX9_readPlace 149 = .ok (.getfield 46, 3) := by decide +kernel
theorem dX9_readPlace_152 : decode cX9_readPlace 152 = .ok (.aload_n 0, 1) := by decide +kernel
theorem dX9_readPlace_153 : decode cX9_readPlace 153 = .ok (.getfield 203, 3) := by decide +kernel
theorem dX9_readPlace_156 : decode cX9_readPlace 156 = .ok (.dup2, 1) := by decide +kernel
theorem dX9_readPlace_157 : decode cX9_readPlace 157 = .ok (.iaload, 1) := by decide +kernel
theorem dX9_readPlace_158 : decode cX9_readPlace 158 = .ok (.iconst 1, 1) := by decide +kernel
theorem dX9_readPlace_159 : decode cX9_readPlace 159 = .ok (.iadd, 1) := by decide +kernel
theorem dX9_readPlace_160 : decode cX9_readPlace 160 = .ok (.iastore, 1) := by decide +kernel
theorem dX9_readPlace_161 : decode cX9_readPlace 161 = .ok (.return_, 1) := by decide +kernel
abbrev vs_EM_readPlace_0 : List Cond := .code yX9_readPlace cX9_readPlace 2 none :: VM
theorem g_EM_readPlace_0_EM_freshName_0 : GoodIn vs_EM_readPlace_0 (wsV RX9 238 RX9 yX9_freshName vs_EM_freshName_0) := gm_V vm_101 vm_102 vm_103 vm_19 vm_104
theorem g_EM_readPlace_0_EM_isGood : GoodIn vs_EM_readPlace_0 (wsV RX9 216 RX9 yX9_isGood vs_EM_isGood) := gm_V vm_71 vm_72 vm_73 vm_19 vm_74
theorem g_EM_readPlace_0_EM_isWord : GoodIn vs_EM_readPlace_0 (wsV RX9 193 RX9 yX9_isWord vs_EM_isWord) := gm_V vm_16 vm_17 vm_18 vm_19 vm_20
theorem g_EM_readPlace_0_EM_readCondition1_0 : GoodIn vs_EM_readPlace_0 (wsV RX9 241 RX9 yX9_readCondition vs_EM_readCondition1_0) := gm_V vm_105 vm_106 vm_107 vm_19 vm_108
theorem g_EM_readPlace_0_EM_fails : GoodIn vs_EM_readPlace_0 (wsV RX9 210 RX9 yX9_fails vs_EM_fails) := gm_V vm_29 vm_30 vm_31 vm_19 vm_32
theorem g_EM_readPlace_0_EM_next : GoodIn vs_EM_readPlace_0 (wsV RX9 226 RX9 yX9_next vs_EM_next) := gm_V vm_75 vm_76 vm_77 vm_19 vm_78
noncomputable def sp_EM_readPlace_0_L1 (x19 : Nat) (f1 : Nat → Int32) (m12_0 : Nat) (m13_0 : Nat) (f17 : Nat → Int32) (f_11 : Nat → Int32) (g_20 : Nat → Int32) : ((Nat → Nat) × (Nat → Int32) × (Nat → Nat) × (Nat → Nat) × Int32 × Nat × Nat × Int32 × Nat × Int32) → ((Nat → Nat) × (Nat → Int32) × (Nat → Nat) × (Nat → Nat) × Int32 × Nat × Nat × Int32 × Nat × Int32) ⊕ ((Nat → Nat) × (Nat → Int32) × (Nat → Int32) × (Nat → Int32) × (Nat → Nat) × (Nat → Nat) × Nat × Int32 × Nat × Nat × Int32 × Nat × Int32) := fun (g_36, g_37, g_38, g_39, g_40, g_41, g_42, g_43, g_44, g_45) => (slet (sp_EM_isGood g_44) (fun u_54 => (if u_54 = 0 then (Sum.inr (g_36, g_37, f_11, g_20, g_38, g_39, (m13_0 + 1), g_40, g_41, g_42, g_43, g_44, g_45)) else (slet (sp_EM_isWord g_42 g_43 22499628) (fun u_59 => (if u_59 = 0 then (Sum.inr (g_36, g_37, f_11, g_20, g_38, g_39, (m13_0 + 1), g_40, g_41, g_42, g_43, g_44, g_45)) else (slet (min (g_38 (0 + m13_0)) 3) (fun u_64 => (if u_64 = 3 then (Sum.inr (slet (sp_EM_fails g_40 g_42 g_44 g_45 5) (fun (z26_89, z27_90) => (g_36, g_37, f_11, g_20, g_38, g_39, m13_0, g_40, g_41, g_42, g_43, z26_89, z27_90)))) else (slet (sp_EM_readCondition1_0 x19 g_41 g_44 g_45 f1 g_39 g_36 g_37 m12_0 f17 ((56 + (3 * m13_0)) + u_64)) (fun (z10_75, z11_76, z9_77, z20_78, z21_79, z22_80, z23_81, z26_82, z27_83) => (slet (updN g_38 (0 + m13_0) (u_64 + 1)) (fun q_87 => (Sum.inl (z10_75, z11_76, q_87, z9_77, z20_78, z21_79, z22_80, z23_81, z26_82, z27_83)))))))))))))))
noncomputable def sp_EM_readPlace_0 (x19 : Nat) (x20 : Int32) (x21 : Nat) (x22 : Nat) (x23 : Int32) (x26 : Nat) (x27 : Int32) (f1 : Nat → Int32) (f2 : Nat → Int32) (f3 : Nat → Int32) (q4 : Nat → Nat) (q9 : Nat → Nat) (q10 : Nat → Nat) (f11 : Nat → Int32) (m12_0 : Nat) (m13_0 : Nat) (f17 : Nat → Int32) : (Nat → Nat) × (Nat → Int32) × (Nat → Int32) × (Nat → Int32) × (Nat → Nat) × (Nat → Nat) × Nat × Int32 × Nat × Nat × Int32 × Nat × Int32 := (slet (sp_EM_freshName_0 x19 x20 x21 x22 x23 x26 x27 f1 f2 m12_0 m13_0 f17) (fun (r_4, z20_5, z21_6, z22_7, z23_8, z26_9, z27_10) => (slet (upd f2 (0 + m13_0) r_4) (fun f_11 => (slet (upd f3 (0 + m13_0) 0) (fun f_12 => (slet (updN q4 (0 + m13_0) 0) (fun q_13 => (slet (sp_EM_isGood z26_9) (fun u_15 => (slet (α := Int32 × Nat × Nat × Int32 × (Nat → Int32)) (if u_15 = 0 then (z20_5, z21_6, z22_7, z23_8, f_12) else (slet (sp_EM_isWord z22_7 z23_8 723752404) (fun u_93 => (if u_93 = 0 then (z20_5, z21_6, z22_7, z23_8, f_12) else (slet (upd f_12 (0 + m13_0) 1) (fun f_95 => (slet (sp_EM_next x19 z21_6 f17) (fun (z20_97, z21_98, z22_99, z23_100) => (z20_97, z21_98, z22_99, z23_100, f_95))))))))) (fun (g_16, g_17, g_18, g_19, g_20) => (itrv (α := (Nat → Nat) × (Nat → Int32) × (Nat → Nat) × (Nat → Nat) × Int32 × Nat × Nat × Int32 × Nat × Int32) (β := ((Nat → Nat) × (Nat → Int32) × (Nat → Int32) × (Nat → Int32) × (Nat → Nat) × (Nat → Nat) × Nat × Int32 × Nat × Nat × Int32 × Nat × Int32)) default (sp_EM_readPlace_0_L1 x19 f1 m12_0 m13_0 f17 f_11 g_20) (q10, f11, q_13, q9, g_16, g_17, g_18, g_19, z26_9, z27_10))))))))))))))
set_option maxHeartbeats 4000000 in
set_option maxRecDepth 100000 in
theorem c_EM_readPlace_0 (l : Launch) (dC : Nat → ClassId) (dI : Nat → Nat → Nat) (sz : Nat) (ad : Nat → Nat) (ck : Nat → ClassId) (x0 : Int32) (x16 : Nat) (x18 : Nat) (x19 : Nat) (x20 : Int32) (x21 : Nat) (x22 : Nat) (x23 : Int32) (x24 : Int32) (x25 : Int32) (x26 : Nat) (x27 : Int32) (x29 : Nat) (x30 : Nat) (x33 : Nat) (x45 : Int32) (x46 : Nat) (x52 : Nat) (x53 : Nat) (x61 : Nat) (x62 : Nat) (x63 : Nat) (x65 : Nat) (x66 : Int32) (f1 : Nat → Int32) (f2 : Nat → Int32) (f3 : Nat → Int32) (q4 : Nat → Nat) (q5 : Nat → Nat) (q6 : Nat → Nat) (q7 : Nat → Nat) (f8 : Nat → Int32) (q9 : Nat → Nat) (q10 : Nat → Nat) (f11 : Nat → Int32) (m12_0 m12_1 : Nat) (m13_0 m13_1 : Nat) (m14_0 m14_1 : Nat) (m15_0 m15_1 : Nat) (f17 : Nat → Int32) (q31 : Nat → Nat) (f32 : Nat → Int32) (f34 : Nat → Int32) (f35 : Nat → Int32) (f36 : Nat → Int32) (f37 : Nat → Int32) (q38 : Nat → Nat) (f39 : Nat → Int32) (f40 : Nat → Int32) (f41 : Nat → Int32) (m42_0 m42_1 : Nat) (f43 : Nat → Int32) (f44 : Nat → Int32) (f47 : Nat → Int32) (f48 : Nat → Int32) (f49 : Nat → Int32) (f50 : Nat → Int32) (f51 : Nat → Int32) (q54 : Nat → Nat) (q55 : Nat → Nat) (q56 : Nat → Nat) (f57 : Nat → Int32) (q58 : Nat → Nat) (f59 : Nat → Int32) (f60 : Nat → Int32) (f64 : Nat → Int32) (hx16 : x16 ≤ 1) (hx18 : x18 ≤ 900) (hx19 : x19 ≤ 900) (hx21 : x21 ≤ 900) (hx22 : x22 ≤ 4) (hx26 : x26 ≤ 6) (hx29 : x29 ≤ 1) (hx30 : x30 ≤ 1) (hx33 : x33 ≤ 20) (hx46 : x46 ≤ 5) (hx52 : x52 ≤ 2400) (hx53 : x53 ≤ 119) (hx61 : x61 ≤ 119) (hx62 : x62 ≤ 2000) (hx63 : x63 ≤ 1) (hx65 : x65 ≤ 7) (hm12_0 : m12_0 ≤ 3) (hm12_1 : m12_1 ≤ 3) (hm13_0 : m13_0 ≤ 7) (hm13_1 : m13_1 ≤ 8) (hm14_0 : m14_0 ≤ 14) (hm14_1 : m14_1 ≤ 14) (hm15_0 : m15_0 ≤ 8) (hm15_1 : m15_1 ≤ 8) (hm42_0 : m42_0 ≤ 120) (hm42_1 : m42_1 ≤ 400) : Met l yX9_readPlace vs_EM_readPlace_0 ({ frames := 5, cells := 0, slots := 0, locals := 108 }) (va_Pc [.ref (ad 0)] (pu_B (dC, dI) (mo_w ad ck x0 (nI x16) (nI x18) (nI x19) x20 (nI x21) (nI x22) x23 x24 x25 (nI x26) x27 0 (nI x29) (nI x30) (nI x33) x45 (nI x46) (nI x52) (nI x53) (nI x61) (nI x62) (nI x63) (nI x65) x66 f1 f2 f3 (bN 3 q4) (bN 7 q5) (bN 7 q6) (bN 4 q7) f8 (bN 2 q9) (bH q10) f11 (b2 m12_0 m12_1) (b2 m13_0 m13_1) (b2 m14_0 m14_1) (b2m m15_0 m15_1) f17 (bA 159 q31) f32 f34 f35 f36 f37 (bN 7 q38) f39 f40 f41 (b2 m42_0 m42_1) f43 f44 f47 f48 f49 f50 f51 (bN 13 q54) (bN 120 q55) (bN 120 q56) f57 (bN 120 q58) f59 f60 f64) (mo_t ck) sz)) (va_Qv (fun (_ : Unit) => True) (fun _ t => ∃ (z10 : Nat → Nat) (z11 : Nat → Int32) (z2 : Nat → Int32) (z3 : Nat → Int32) (z4 : Nat → Nat) (z9 : Nat → Nat) (z13_0 : Nat) (z20 : Int32) (z21 : Nat) (z22 : Nat) (z23 : Int32) (z26 : Nat) (z27 : Int32), pu_E (dC, dI) (mo_w ad ck x0 (nI x16) (nI x18) (nI x19) z20 (nI z21) (nI z22) z23 x24 x25 (nI z26) z27 0 (nI x29) (nI x30) (nI x33) x45 (nI x46) (nI x52) (nI x53) (nI x61) (nI x62) (nI x63) (nI x65) x66 f1 z2 z3 (bN 3 z4) (bN 7 q5) (bN 7 q6) (bN 4 q7) f8 (bN 2 z9) (bH z10) z11 (b2 m12_0 m12_1) (b2 z13_0 m13_1) (b2 m14_0 m14_1) (b2m m15_0 m15_1) f17 (bA 159 q31) f32 f34 f35 f36 f37 (bN 7 q38) f39 f40 f41 (b2 m42_0 m42_1) f43 f44 f47 f48 f49 f50 f51 (bN 13 q54) (bN 120 q55) (bN 120 q56) f57 (bN 120 q58) f59 f60 f64) (mo_t ck) (va_A ((mo_w ad ck x0 (nI x16) (nI x18) (nI x19) x20 (nI x21) (nI x22) x23 x24 x25 (nI x26) x27 0 (nI x29) (nI x30) (nI x33) x45 (nI x46) (nI x52) (nI x53) (nI x61) (nI x62) (nI x63) (nI x65) x66 f1 f2 f3 (bN 3 q4) (bN 7 q5) (bN 7 q6) (bN 4 q7) f8 (bN 2 q9) (bH q10) f11 (b2 m12_0 m12_1) (b2 m13_0 m13_1) (b2 m14_0 m14_1) (b2m m15_0 m15_1) f17 (bA 159 q31) f32 f34 f35 f36 f37 (bN 7 q38) f39 f40 f41 (b2 m42_0 m42_1) f43 f44 f47 f48 f49 f50 f51 (bN 13 q54) (bN 120 q55) (bN 120 q56) f57 (bN 120 q58) f59 f60 f64)) sz) t ∧ (z13_0 ≤ 8) ∧ (z21 ≤ 900) ∧ (z22 ≤ 4) ∧ (z26 ≤ 6) ∧ (mu z21 z22 ≤ mu x21 x22) ∧ ((z10, z11, z2, z3, z4, z9, z13_0, z20, z21, z22, z23, z26, z27) = (sp_EM_readPlace_0 x19 x20 x21 x22 x23 x26 x27 f1 f2 f3 q4 q9 q10 f11 m12_0 m13_0 f17))) (va_A ((mo_w ad ck x0 (nI x16) (nI x18) (nI x19) x20 (nI x21) (nI x22) x23 x24 x25 (nI x26) x27 0 (nI x29) (nI x30) (nI x33) x45 (nI x46) (nI x52) (nI x53) (nI x61) (nI x62) (nI x63) (nI x65) x66 f1 f2 f3 (bN 3 q4) (bN 7 q5) (bN 7 q6) (bN 4 q7) f8 (bN 2 q9) (bH q10) f11 (b2 m12_0 m12_1) (b2 m13_0 m13_1) (b2 m14_0 m14_1) (b2m m15_0 m15_1) f17 (bA 159 q31) f32 f34 f35 f36 f37 (bN 7 q38) f39 f40 f41 (b2 m42_0 m42_1) f43 f44 f47 f48 f49 f50 f51 (bN 13 q54) (bN 120 q55) (bN 120 q56) f57 (bN 120 q58) f59 f60 f64)) sz)) 0 0 (va_A ((mo_w ad ck x0 (nI x16) (nI x18) (nI x19) x20 (nI x21) (nI x22) x23 x24 x25 (nI x26) x27 0 (nI x29) (nI x30) (nI x33) x45 (nI x46) (nI x52) (nI x53) (nI x61) (nI x62) (nI x63) (nI x65) x66 f1 f2 f3 (bN 3 q4) (bN 7 q5) (bN 7 q6) (bN 4 q7) f8 (bN 2 q9) (bH q10) f11 (b2 m12_0 m12_1) (b2 m13_0 m13_1) (b2 m14_0 m14_1) (b2m m15_0 m15_1) f17 (bA 159 q31) f32 f34 f35 f36 f37 (bN 7 q38) f39 f40 f41 (b2 m42_0 m42_1) f43 f44 f47 f48 f49 f50 f51 (bN 13 q54) (bN 120 q55) (bN 120 q56) f57 (bN 120 q58) f59 f60 f64)) sz) := by
  refine Met.ofW (cc := cX9_readPlace) (maxL := 2) (ret := none) (by decide) rfl ?_
  intro p e s m args below meth c s₁ B hml hv
  obtain ⟨rfl, rfl, hP, hK, hD0⟩ := hv
  have hx := B.exec
  have hb := B.bytes
  have hr := B.returns
  have hts := atoms_spec (ws := vs_EM_readPlace_0) B.pre
  have v_1 := hts (.fieldLink RX9 203 "ClockReachModel" "rb" "I") (List.mem_cons_of_mem _ vm_63)
  have v_2 := hts (.fieldLink RX9 46 "ClockReachModel" "placeMany" "[I") (List.mem_cons_of_mem _ vm_65)
  have v_3 := hts (.fieldLink RX9 13 "ClockReachModel" "placeName" "[I") (List.mem_cons_of_mem _ vm_66)
  have v_9 := hts (.fieldLink RX9 16 "ClockReachModel" "urgent" "[I") (List.mem_cons_of_mem _ vm_11)
  have v_10 := hts (.fieldLink RX9 19 "ClockReachModel" "untils" "[I") (List.mem_cons_of_mem _ vm_109)
  have v_15 := hts (.constant RX9 197 (723752404)) (List.mem_cons_of_mem _ vm_23)
  have v_24 := hts (.constant RX9 198 (22499628)) (List.mem_cons_of_mem _ vm_24)
  have hown : s.vm.findClass RX9 = some m.cls := findClass_of_methodNamed B.named
  have hlocks := B.notSynchronized
  have hiX9 : ∀ w ∈ wsX90, w ∈ vs_EM_readPlace_0 := fun _ h => List.mem_cons_of_mem _ (vmi_L h)
  have hD := hD0.self (sz := s.heap.size)
  generalize hAe : va_A ((mo_w ad ck x0 (nI x16) (nI x18) (nI x19) x20 (nI x21) (nI x22) x23 x24 x25 (nI x26) x27 0 (nI x29) (nI x30) (nI x33) x45 (nI x46) (nI x52) (nI x53) (nI x61) (nI x62) (nI x63) (nI x65) x66 f1 f2 f3 (bN 3 q4) (bN 7 q5) (bN 7 q6) (bN 4 q7) f8 (bN 2 q9) (bH q10) f11 (b2 m12_0 m12_1) (b2 m13_0 m13_1) (b2 m14_0 m14_1) (b2m m15_0 m15_1) f17 (bA 159 q31) f32 f34 f35 f36 f37 (bN 7 q38) f39 f40 f41 (b2 m42_0 m42_1) f43 f44 f47 f48 f49 f50 f51 (bN 13 q54) (bN 120 q55) (bN 120 q56) f57 (bN 120 q58) f59 f60 f64)) s.heap.size = A at hD ⊢
  have hA : ∀ q : Nat, s.heap.size ≤ q → A q := fun q h => by rw [← hAe]; exact Or.inr h
  have hS : va_S A s.heap s.heap [] := va_S.rf
  have hl := lv_entry ([.ref (ad 0)]) (n := 2) (Nat.le_of_ble_eq_true rfl)
  rw [lg_entry_eq]
  generalize (lg_sl ([.ref (ad 0)]) ++ List.replicate (2 - (lg_sl ([.ref (ad 0)])).length) Slot.unset).toArray = ls at hl ⊢
  have hl : lv_has ls 2 [(0, .ref (ad 0))] := hl
  obtain ⟨RR, hRR⟩ : ∃ x, x = (sp_EM_readPlace_0 x19 x20 x21 x22 x23 x26 x27 f1 f2 f3 q4 q9 q10 f11 m12_0 m13_0 f17) := ⟨_, rfl⟩
  have hsp := hRR
  refine lv_bipush (v := 8) hx hb dX9_readPlace_0 (by decide) ?_
  refine lv_aload_n hx hb dX9_readPlace_2 rfl (lv_at hl 0 rfl) ?_
  refine va_get (D := (dC, dI)) (ci := 9) (v := .int 0) (C := RX9) (T := TX9) (N := 67) hx hb hts hiX9 hown hK hP 0 rfl rfl 28 (by decide) v_1 (fun _ h9 => h9) rfl dX9_readPlace_3 ?_
  refine lv_imul hx hb dX9_readPlace_6 ?_
  refine lv_topi (fun y_1 ey_1 => ?_)
  obtain rfl : y_1 = 0 := ey_1.trans (by decide)
  refine lv_aload_n hx hb dX9_readPlace_7 rfl (lv_at hl 0 rfl) ?_
  refine va_get (D := (dC, dI)) (ci := 9) (v := .ref (ad 13)) (C := RX9) (T := TX9) (N := 67) hx hb hts hiX9 hown hK hP 0 rfl rfl 13 (by decide) v_2 (fun _ h9 => h9) rfl dX9_readPlace_8 ?_
  refine lv_aload_n hx hb dX9_readPlace_11 rfl (lv_at hl 0 rfl) ?_
  refine va_get (D := (dC, dI)) (ci := 9) (v := .int 0) (C := RX9) (T := TX9) (N := 67) hx hb hts hiX9 hown hK hP 0 rfl rfl 28 (by decide) v_1 (fun _ h9 => h9) rfl dX9_readPlace_12 ?_
  refine va_iald hx hb hK hP 13 12 rfl rfl (vp_in_nI (n := 0) (Nat.le_of_ble_eq_true rfl) (Nat.le_of_ble_eq_true rfl)) dX9_readPlace_15 ?_
  refine lv_topi (fun y_2 ey_2 => ?_)
  have qy_2 := ey_2.trans b2_0
  clear ey_2
  obtain rfl : y_2 = nI m13_0 := qy_2
  refine lv_iadd hx hb dX9_readPlace_16 ?_
  refine lv_topi (fun y_3 ey_3 => ?_)
  obtain rfl : y_3 = (nI (0 + m13_0)) := ey_3.trans (nI_add 0 m13_0)
  refine lv_istore_n (lv' := [(1, .int (nI (0 + m13_0))), (0, .ref (ad 0))]) hx hb dX9_readPlace_17 rfl hl (by decide) rfl (fun ls hl => ?_)
  refine lv_aload_n hx hb dX9_readPlace_18 rfl (lv_at hl 1 rfl) ?_
  refine va_get (D := (dC, dI)) (ci := 9) (v := .ref (ad 2)) (C := RX9) (T := TX9) (N := 67) hx hb hts hiX9 hown hK hP 0 rfl rfl 2 (by decide) v_3 (fun _ h9 => h9) rfl dX9_readPlace_19 ?_
  refine lv_iload_n hx hb dX9_readPlace_22 rfl (lv_at hl 0 rfl) ?_
  refine lv_aload_n hx hb dX9_readPlace_23 rfl (lv_at hl 1 rfl) ?_
  have hFc := pu_free hD hS hA
  refine va_calli (va_runV (As := []) (rest := [.int (nI (0 + m13_0)), .ref (ad 2)]) ⟨hx, hb, hml, hown, hts⟩ (c_EM_freshName_0 l dC dI _ ad ck x0 x16 x18 x19 x20 x21 x22 x23 x24 x25 x26 x27 x29 x30 x33 x45 x46 x52 x53 x61 x62 x63 x65 x66 f1 f2 f3 q4 q5 q6 q7 f8 q9 q10 f11 m12_0 m12_1 m13_0 m13_1 m14_0 m14_1 m15_0 m15_1 f17 q31 f32 f34 f35 f36 f37 q38 f39 f40 f41 m42_0 m42_1 f43 f44 f47 f48 f49 f50 f51 q54 q55 q56 f57 q58 f59 f60 f64 hx16 hx18 hx19 hx21 hx22 hx26 hx29 hx30 hx33 hx46 hx52 hx53 hx61 hx62 hx63 hx65 hm12_0 hm12_1 (Nat.le_trans hm13_0 (Nat.le_of_ble_eq_true rfl)) hm13_1 hm14_0 hm14_1 hm15_0 hm15_1 hm42_0 hm42_1) (cwV 0 hts g_EM_readPlace_0_EM_freshName_0 rfl rfl rfl (by decide +kernel) ⟨Nat.le_of_ble_eq_true rfl, Nat.le_of_ble_eq_true rfl⟩) ⟨pu_bl, va_recv hK hP (ci := 9) (q0 := 0) rfl rfl, pu_in hP hK hD⟩ rfl rfl hl.1 rfl (lv_room (Nat.le_of_ble_eq_true rfl)) dX9_readPlace_24 ⟨Nat.le_of_ble_eq_true rfl, Nat.le_of_ble_eq_true rfl⟩) hS (fun q _ h => hFc q h) hFc (fun r_4 u t H1 locs ht hvm hw hB hz1 hk1 hS => ?_)
  obtain ⟨z20_5, z21_6, z22_7, z23_8, z26_9, z27_10, ⟨hP1, -, hD1⟩, hz21_6, hz22_7, hz26_9, xr_4_0, xr_4_1⟩ := hB
  rw [ht] at hP1
  have hP := hP1
  have hD := pu_all hFc hD1
  clear hP1 hD1 hFc
  clear hk1 hz1 ht hvm
  generalize H1 = H at hP hS ⊢
  have ir_4 := hw
  have ir_4 : (r_4, z20_5, z21_6, z22_7, z23_8, z26_9, z27_10) = (sp_EM_freshName_0 x19 x20 x21 x22 x23 x26 x27 f1 f2 m12_0 m13_0 f17) := Prod.ext ir_4 xr_4_1
  have hsp := hsp.trans (slet_eq ir_4)
  refine va_iast hx hb hK hP hD hS 2 1 rfl rfl (vp_in_nI (n := (0 + m13_0)) (by omega) (Nat.le_of_ble_eq_true rfl)) dX9_readPlace_27 (fun H locs hP hD hS => ?_)
  obtain ⟨f_11, ef_11, xf_11⟩ := up_x f2 (n := (0 + m13_0)) r_4 (by omega)
  have hP : va_P (dC, dI) vwCl (mo_w ad ck x0 (nI x16) (nI x18) (nI x19) z20_5 (nI z21_6) (nI z22_7) z23_8 x24 x25 (nI z26_9) z27_10 0 (nI x29) (nI x30) (nI x33) x45 (nI x46) (nI x52) (nI x53) (nI x61) (nI x62) (nI x63) (nI x65) x66 f1 f_11 f3 (bN 3 q4) (bN 7 q5) (bN 7 q6) (bN 4 q7) f8 (bN 2 q9) (bH q10) f11 (b2 m12_0 m12_1) (b2 m13_0 m13_1) (b2 m14_0 m14_1) (b2m m15_0 m15_1) f17 (bA 159 q31) f32 f34 f35 f36 f37 (bN 7 q38) f39 f40 f41 (b2 m42_0 m42_1) f43 f44 f47 f48 f49 f50 f51 (bN 13 q54) (bN 120 q55) (bN 120 q56) f57 (bN 120 q58) f59 f60 f64) H := by rw [← ef_11]; exact hP
  have hD : va_D A (mo_w ad ck x0 (nI x16) (nI x18) (nI x19) z20_5 (nI z21_6) (nI z22_7) z23_8 x24 x25 (nI z26_9) z27_10 0 (nI x29) (nI x30) (nI x33) x45 (nI x46) (nI x52) (nI x53) (nI x61) (nI x62) (nI x63) (nI x65) x66 f1 f_11 f3 (bN 3 q4) (bN 7 q5) (bN 7 q6) (bN 4 q7) f8 (bN 2 q9) (bH q10) f11 (b2 m12_0 m12_1) (b2 m13_0 m13_1) (b2 m14_0 m14_1) (b2m m15_0 m15_1) f17 (bA 159 q31) f32 f34 f35 f36 f37 (bN 7 q38) f39 f40 f41 (b2 m42_0 m42_1) f43 f44 f47 f48 f49 f50 f51 (bN 13 q54) (bN 120 q55) (bN 120 q56) f57 (bN 120 q58) f59 f60 f64) := by rw [← ef_11]; exact hD
  have hsp := hsp.trans (slet_eq xf_11)
  refine lv_aload_n hx hb dX9_readPlace_28 rfl (lv_at hl 1 rfl) ?_
  refine va_get (D := (dC, dI)) (ci := 9) (v := .ref (ad 3)) (C := RX9) (T := TX9) (N := 67) hx hb hts hiX9 hown hK hP 0 rfl rfl 3 (by decide) v_9 (fun _ h9 => h9) rfl dX9_readPlace_29 ?_
  refine lv_iload_n hx hb dX9_readPlace_32 rfl (lv_at hl 0 rfl) ?_
  refine lv_iconst (v := 0) hx hb dX9_readPlace_33 (by decide) ?_
  refine va_iast hx hb hK hP hD hS 3 2 rfl rfl (vp_in_nI (n := (0 + m13_0)) (by omega) (Nat.le_of_ble_eq_true rfl)) dX9_readPlace_34 (fun H locs hP hD hS => ?_)
  obtain ⟨f_12, ef_12, xf_12⟩ := up_x f3 (n := (0 + m13_0)) 0 (by omega)
  have hP : va_P (dC, dI) vwCl (mo_w ad ck x0 (nI x16) (nI x18) (nI x19) z20_5 (nI z21_6) (nI z22_7) z23_8 x24 x25 (nI z26_9) z27_10 0 (nI x29) (nI x30) (nI x33) x45 (nI x46) (nI x52) (nI x53) (nI x61) (nI x62) (nI x63) (nI x65) x66 f1 f_11 f_12 (bN 3 q4) (bN 7 q5) (bN 7 q6) (bN 4 q7) f8 (bN 2 q9) (bH q10) f11 (b2 m12_0 m12_1) (b2 m13_0 m13_1) (b2 m14_0 m14_1) (b2m m15_0 m15_1) f17 (bA 159 q31) f32 f34 f35 f36 f37 (bN 7 q38) f39 f40 f41 (b2 m42_0 m42_1) f43 f44 f47 f48 f49 f50 f51 (bN 13 q54) (bN 120 q55) (bN 120 q56) f57 (bN 120 q58) f59 f60 f64) H := by rw [← ef_12]; exact hP
  have hD : va_D A (mo_w ad ck x0 (nI x16) (nI x18) (nI x19) z20_5 (nI z21_6) (nI z22_7) z23_8 x24 x25 (nI z26_9) z27_10 0 (nI x29) (nI x30) (nI x33) x45 (nI x46) (nI x52) (nI x53) (nI x61) (nI x62) (nI x63) (nI x65) x66 f1 f_11 f_12 (bN 3 q4) (bN 7 q5) (bN 7 q6) (bN 4 q7) f8 (bN 2 q9) (bH q10) f11 (b2 m12_0 m12_1) (b2 m13_0 m13_1) (b2 m14_0 m14_1) (b2m m15_0 m15_1) f17 (bA 159 q31) f32 f34 f35 f36 f37 (bN 7 q38) f39 f40 f41 (b2 m42_0 m42_1) f43 f44 f47 f48 f49 f50 f51 (bN 13 q54) (bN 120 q55) (bN 120 q56) f57 (bN 120 q58) f59 f60 f64) := by rw [← ef_12]; exact hD
  have hsp := hsp.trans (slet_eq xf_12)
  refine lv_aload_n hx hb dX9_readPlace_35 rfl (lv_at hl 1 rfl) ?_
  refine va_get (D := (dC, dI)) (ci := 9) (v := .ref (ad 4)) (C := RX9) (T := TX9) (N := 67) hx hb hts hiX9 hown hK hP 0 rfl rfl 4 (by decide) v_10 (fun _ h9 => h9) rfl dX9_readPlace_36 ?_
  refine lv_iload_n hx hb dX9_readPlace_39 rfl (lv_at hl 0 rfl) ?_
  refine lv_iconst (v := 0) hx hb dX9_readPlace_40 (by decide) ?_
  refine va_iast hx hb hK hP hD hS 4 3 rfl rfl (vp_in_nI (n := (0 + m13_0)) (by omega) (Nat.le_of_ble_eq_true rfl)) dX9_readPlace_41 (fun H locs hP hD hS => ?_)
  obtain ⟨q_13, eq_13, kq_13, oq_13, xq_13⟩ := bN_upx 3 q4 (n := (0 + m13_0)) (v := 0) (by omega) (Nat.le_of_ble_eq_true rfl)
  have hP : va_P (dC, dI) vwCl (mo_w ad ck x0 (nI x16) (nI x18) (nI x19) z20_5 (nI z21_6) (nI z22_7) z23_8 x24 x25 (nI z26_9) z27_10 0 (nI x29) (nI x30) (nI x33) x45 (nI x46) (nI x52) (nI x53) (nI x61) (nI x62) (nI x63) (nI x65) x66 f1 f_11 f_12 (bN 3 q_13) (bN 7 q5) (bN 7 q6) (bN 4 q7) f8 (bN 2 q9) (bH q10) f11 (b2 m12_0 m12_1) (b2 m13_0 m13_1) (b2 m14_0 m14_1) (b2m m15_0 m15_1) f17 (bA 159 q31) f32 f34 f35 f36 f37 (bN 7 q38) f39 f40 f41 (b2 m42_0 m42_1) f43 f44 f47 f48 f49 f50 f51 (bN 13 q54) (bN 120 q55) (bN 120 q56) f57 (bN 120 q58) f59 f60 f64) H := by rw [← eq_13]; exact hP
  have hD : va_D A (mo_w ad ck x0 (nI x16) (nI x18) (nI x19) z20_5 (nI z21_6) (nI z22_7) z23_8 x24 x25 (nI z26_9) z27_10 0 (nI x29) (nI x30) (nI x33) x45 (nI x46) (nI x52) (nI x53) (nI x61) (nI x62) (nI x63) (nI x65) x66 f1 f_11 f_12 (bN 3 q_13) (bN 7 q5) (bN 7 q6) (bN 4 q7) f8 (bN 2 q9) (bH q10) f11 (b2 m12_0 m12_1) (b2 m13_0 m13_1) (b2 m14_0 m14_1) (b2m m15_0 m15_1) f17 (bA 159 q31) f32 f34 f35 f36 f37 (bN 7 q38) f39 f40 f41 (b2 m42_0 m42_1) f43 f44 f47 f48 f49 f50 f51 (bN 13 q54) (bN 120 q55) (bN 120 q56) f57 (bN 120 q58) f59 f60 f64) := by rw [← eq_13]; exact hD
  have hsp := hsp.trans (slet_eq xq_13)
  refine lv_aload_n hx hb dX9_readPlace_42 rfl (lv_at hl 1 rfl) ?_
  refine va_calli (va_runV (As := []) (rest := []) ⟨hx, hb, hml, hown, hts⟩ (c_EM_isGood l dC dI _ ad ck x0 x16 x18 x19 z20_5 z21_6 z22_7 z23_8 x24 x25 z26_9 z27_10 0 x29 x30 x33 x45 x46 x52 x53 x61 x62 x63 x65 x66 f1 f_11 f_12 q_13 q5 q6 q7 f8 q9 q10 f11 m12_0 m12_1 m13_0 m13_1 m14_0 m14_1 m15_0 m15_1 f17 q31 f32 f34 f35 f36 f37 q38 f39 f40 f41 m42_0 m42_1 f43 f44 f47 f48 f49 f50 f51 q54 q55 q56 f57 q58 f59 f60 f64 hx16 hx18 hx19 hz21_6 hz22_7 hz26_9 (Nat.le_of_ble_eq_true rfl) hx29 hx30 hx33 hx46 hx52 hx53 hx61 hx62 hx63 hx65 hm12_0 hm12_1 (Nat.le_trans hm13_0 (Nat.le_of_ble_eq_true rfl)) hm13_1 hm14_0 hm14_1 hm15_0 hm15_1 hm42_0 hm42_1) (cwV 0 hts g_EM_readPlace_0_EM_isGood rfl rfl rfl (by decide +kernel) ⟨Nat.le_of_ble_eq_true rfl, Nat.le_of_ble_eq_true rfl⟩) ⟨pu_bl, va_recv hK hP (ci := 9) (q0 := 0) rfl rfl, pu_in hP hK hD⟩ rfl rfl hl.1 rfl (lv_room (Nat.le_of_ble_eq_true rfl)) dX9_readPlace_43 ⟨Nat.le_of_ble_eq_true rfl, Nat.le_of_ble_eq_true rfl⟩) hS (fun q _ h => pu_fr hS hA q h) (pu_fr hS hA) (fun r_14 u t H1 locs ht hvm hw hB hz1 hk1 hS => ?_)
  have hP := pu_keep hP hk1
  clear hk1 hz1 ht hvm
  generalize H1 = H at hP hS ⊢
  obtain ⟨u_15, hu_15, rfl, ju_15, iu_15⟩ := hw
  have hsp := hsp.trans (slet_eq iu_15)
  obtain ⟨JR_23, hJR_23, hsp⟩ := slet_ex hsp
  refine pu_join (fun H locs ls st => ∃ (g_16 : Int32) (g_17 : Nat) (g_18 : Nat) (g_19 : Int32) (g_20 : Nat → Int32), st = [] ∧ g_17 ≤ 900 ∧ g_18 ≤ 4 ∧ mu g_17 g_18 ≤ mu x21 x22 ∧ (g_16, g_17, g_18, g_19, g_20) = JR_23 ∧ va_P (dC, dI) vwCl (mo_w ad ck x0 (nI x16) (nI x18) (nI x19) g_16 (nI g_17) (nI g_18) g_19 x24 x25 (nI z26_9) z27_10 0 (nI x29) (nI x30) (nI x33) x45 (nI x46) (nI x52) (nI x53) (nI x61) (nI x62) (nI x63) (nI x65) x66 f1 f_11 g_20 (bN 3 q_13) (bN 7 q5) (bN 7 q6) (bN 4 q7) f8 (bN 2 q9) (bH q10) f11 (b2 m12_0 m12_1) (b2 m13_0 m13_1) (b2 m14_0 m14_1) (b2m m15_0 m15_1) f17 (bA 159 q31) f32 f34 f35 f36 f37 (bN 7 q38) f39 f40 f41 (b2 m42_0 m42_1) f43 f44 f47 f48 f49 f50 f51 (bN 13 q54) (bN 120 q55) (bN 120 q56) f57 (bN 120 q58) f59 f60 f64) H ∧ va_D A (mo_w ad ck x0 (nI x16) (nI x18) (nI x19) g_16 (nI g_17) (nI g_18) g_19 x24 x25 (nI z26_9) z27_10 0 (nI x29) (nI x30) (nI x33) x45 (nI x46) (nI x52) (nI x53) (nI x61) (nI x62) (nI x63) (nI x65) x66 f1 f_11 g_20 (bN 3 q_13) (bN 7 q5) (bN 7 q6) (bN 4 q7) f8 (bN 2 q9) (bH q10) f11 (b2 m12_0 m12_1) (b2 m13_0 m13_1) (b2 m14_0 m14_1) (b2m m15_0 m15_1) f17 (bA 159 q31) f32 f34 f35 f36 f37 (bN 7 q38) f39 f40 f41 (b2 m42_0 m42_1) f43 f44 f47 f48 f49 f50 f51 (bN 13 q54) (bN 120 q55) (bN 120 q56) f57 (bN 120 q58) f59 f60 f64) ∧ va_S A s.heap H locs ∧ lv_has ls 2 [(0, .ref (ad 0)), (1, .int (nI (0 + m13_0)))]) 69 ?_ (fun j_22 => ?_)
  · rintro H locs ls st ⟨g_16, g_17, g_18, g_19, g_20, rfl, hg_17, hg_18, he_21, he_24, hP, hD, hS, hl⟩
    rw [← he_24] at hsp
    obtain ⟨lf_48, dlf_48, hlf_48, hsp⟩ := itr_ex hsp
    delta sp_EM_readPlace_0_L1 at hlf_48
    refine pu_while (fun nn H locs ls => ∃ (g_36 : Nat → Nat) (g_37 : Nat → Int32) (g_38 : Nat → Nat) (g_39 : Nat → Nat) (g_40 : Int32) (g_41 : Nat) (g_42 : Nat) (g_43 : Int32) (g_44 : Nat) (g_45 : Int32), nn = mu g_41 g_42 ∧ g_41 ≤ 900 ∧ g_42 ≤ 4 ∧ g_44 ≤ 6 ∧ mu g_41 g_42 ≤ mu x21 x22 ∧ RR = itrv dlf_48 lf_48 (g_36, g_37, g_38, g_39, g_40, g_41, g_42, g_43, g_44, g_45) ∧ va_P (dC, dI) vwCl (mo_w ad ck x0 (nI x16) (nI x18) (nI x19) g_40 (nI g_41) (nI g_42) g_43 x24 x25 (nI g_44) g_45 0 (nI x29) (nI x30) (nI x33) x45 (nI x46) (nI x52) (nI x53) (nI x61) (nI x62) (nI x63) (nI x65) x66 f1 f_11 g_20 (bN 3 g_38) (bN 7 q5) (bN 7 q6) (bN 4 q7) f8 (bN 2 g_39) (bH g_36) g_37 (b2 m12_0 m12_1) (b2 m13_0 m13_1) (b2 m14_0 m14_1) (b2m m15_0 m15_1) f17 (bA 159 q31) f32 f34 f35 f36 f37 (bN 7 q38) f39 f40 f41 (b2 m42_0 m42_1) f43 f44 f47 f48 f49 f50 f51 (bN 13 q54) (bN 120 q55) (bN 120 q56) f57 (bN 120 q58) f59 f60 f64) H ∧ va_D A (mo_w ad ck x0 (nI x16) (nI x18) (nI x19) g_40 (nI g_41) (nI g_42) g_43 x24 x25 (nI g_44) g_45 0 (nI x29) (nI x30) (nI x33) x45 (nI x46) (nI x52) (nI x53) (nI x61) (nI x62) (nI x63) (nI x65) x66 f1 f_11 g_20 (bN 3 g_38) (bN 7 q5) (bN 7 q6) (bN 4 q7) f8 (bN 2 g_39) (bH g_36) g_37 (b2 m12_0 m12_1) (b2 m13_0 m13_1) (b2 m14_0 m14_1) (b2m m15_0 m15_1) f17 (bA 159 q31) f32 f34 f35 f36 f37 (bN 7 q38) f39 f40 f41 (b2 m42_0 m42_1) f43 f44 f47 f48 f49 f50 f51 (bN 13 q54) (bN 120 q55) (bN 120 q56) f57 (bN 120 q58) f59 f60 f64) ∧ va_S A s.heap H locs ∧ lv_has ls 2 [(0, .ref (ad 0)), (1, .int (nI (0 + m13_0)))]) 69 ?_ _ _ _ _ ⟨q10, f11, q_13, q9, g_16, g_17, g_18, g_19, z26_9, z27_10, rfl, hg_17, hg_18, hz26_9, by omega, hsp, hP, hD, hS, lv_sub hl [0, 1] rfl⟩
    rintro nn ih_47 H locs ls ⟨g_36, g_37, g_38, g_39, g_40, g_41, g_42, g_43, g_44, g_45, rfl, hg_41, hg_42, hg_44, he_46, he_50, hP, hD, hS, hl⟩
    obtain ⟨S_49, hsp, hin_51, hout_52⟩ := itr_step hlf_48 he_50
    refine lv_aload_n hx hb dX9_readPlace_69 rfl (lv_at hl 0 rfl) ?_
    refine va_calli (va_runV (As := []) (rest := []) ⟨hx, hb, hml, hown, hts⟩ (c_EM_isGood l dC dI _ ad ck x0 x16 x18 x19 g_40 g_41 g_42 g_43 x24 x25 g_44 g_45 0 x29 x30 x33 x45 x46 x52 x53 x61 x62 x63 x65 x66 f1 f_11 g_20 g_38 q5 q6 q7 f8 g_39 g_36 g_37 m12_0 m12_1 m13_0 m13_1 m14_0 m14_1 m15_0 m15_1 f17 q31 f32 f34 f35 f36 f37 q38 f39 f40 f41 m42_0 m42_1 f43 f44 f47 f48 f49 f50 f51 q54 q55 q56 f57 q58 f59 f60 f64 hx16 hx18 hx19 hg_41 hg_42 hg_44 (Nat.le_of_ble_eq_true rfl) hx29 hx30 hx33 hx46 hx52 hx53 hx61 hx62 hx63 hx65 hm12_0 hm12_1 (Nat.le_trans hm13_0 (Nat.le_of_ble_eq_true rfl)) hm13_1 hm14_0 hm14_1 hm15_0 hm15_1 hm42_0 hm42_1) (cwV 0 hts g_EM_readPlace_0_EM_isGood rfl rfl rfl (by decide +kernel) ⟨Nat.le_of_ble_eq_true rfl, Nat.le_of_ble_eq_true rfl⟩) ⟨pu_bl, va_recv hK hP (ci := 9) (q0 := 0) rfl rfl, pu_in hP hK hD⟩ rfl rfl hl.1 rfl (lv_room (Nat.le_of_ble_eq_true rfl)) dX9_readPlace_70 ⟨Nat.le_of_ble_eq_true rfl, Nat.le_of_ble_eq_true rfl⟩) hS (fun q _ h => pu_fr hS hA q h) (pu_fr hS hA) (fun r_53 u t H1 locs ht hvm hw hB hz1 hk1 hS => ?_)
    have hP := pu_keep hP hk1
    clear hk1 hz1 ht hvm
    generalize H1 = H at hP hS ⊢
    obtain ⟨u_54, hu_54, rfl, ju_54, iu_54⟩ := hw
    have hsp := hsp.trans (slet_eq iu_54)
    refine lv_if_eq (tgt := 148) hx hb dX9_readPlace_73 (by decide) (fun c_55 => ?_) (fun c_55 => ?_)
    · have c_55 : u_54 = 0 := (nI_eq (a := u_54) (b := 0) (Nat.lt_of_le_of_lt hu_54 (Nat.le_of_ble_eq_true rfl)) (Nat.le_of_ble_eq_true rfl)).mp c_55
      have hsp := hsp.trans (if_pos c_55)
      have hsp := hout_52 _ hsp
      refine lv_aload_n hx hb dX9_readPlace_148 rfl (lv_at hl 0 rfl) ?_
      refine va_get (D := (dC, dI)) (ci := 9) (v := .ref (ad 13)) (C := RX9) (T := TX9) (N := 67) hx hb hts hiX9 hown hK hP 0 rfl rfl 13 (by decide) v_2 (fun _ h9 => h9) rfl dX9_readPlace_149 ?_
      refine lv_aload_n hx hb dX9_readPlace_152 rfl (lv_at hl 0 rfl) ?_
      refine va_get (D := (dC, dI)) (ci := 9) (v := .int 0) (C := RX9) (T := TX9) (N := 67) hx hb hts hiX9 hown hK hP 0 rfl rfl 28 (by decide) v_1 (fun _ h9 => h9) rfl dX9_readPlace_153 ?_
      refine lv_dup2_11 hx hb dX9_readPlace_156 rfl rfl ?_
      refine va_iald hx hb hK hP 13 12 rfl rfl (vp_in_nI (n := 0) (Nat.le_of_ble_eq_true rfl) (Nat.le_of_ble_eq_true rfl)) dX9_readPlace_157 ?_
      refine lv_topi (fun y_56 ey_56 => ?_)
      have qy_56 := ey_56.trans b2_0
      clear ey_56
      obtain rfl : y_56 = nI m13_0 := qy_56
      refine lv_iconst (v := 1) hx hb dX9_readPlace_158 (by decide) ?_
      refine lv_iadd hx hb dX9_readPlace_159 ?_
      refine lv_topi (fun y_57 ey_57 => ?_)
      obtain rfl : y_57 = (nI (m13_0 + 1)) := ey_57.trans (nI_add m13_0 1)
      refine va_iast hx hb hK hP hD hS 13 12 rfl rfl (vp_in_nI (n := 0) (Nat.le_of_ble_eq_true rfl) (Nat.le_of_ble_eq_true rfl)) dX9_readPlace_160 (fun H locs hP hD hS => ?_)
      have hP : va_P (dC, dI) vwCl (mo_w ad ck x0 (nI x16) (nI x18) (nI x19) g_40 (nI g_41) (nI g_42) g_43 x24 x25 (nI g_44) g_45 0 (nI x29) (nI x30) (nI x33) x45 (nI x46) (nI x52) (nI x53) (nI x61) (nI x62) (nI x63) (nI x65) x66 f1 f_11 g_20 (bN 3 g_38) (bN 7 q5) (bN 7 q6) (bN 4 q7) f8 (bN 2 g_39) (bH g_36) g_37 (b2 m12_0 m12_1) (b2 (m13_0 + 1) m13_1) (b2 m14_0 m14_1) (b2m m15_0 m15_1) f17 (bA 159 q31) f32 f34 f35 f36 f37 (bN 7 q38) f39 f40 f41 (b2 m42_0 m42_1) f43 f44 f47 f48 f49 f50 f51 (bN 13 q54) (bN 120 q55) (bN 120 q56) f57 (bN 120 q58) f59 f60 f64) H := by rw [← b2_up0 (a := m13_0) (b := m13_1) (v := (m13_0 + 1))]; exact hP
      have hD : va_D A (mo_w ad ck x0 (nI x16) (nI x18) (nI x19) g_40 (nI g_41) (nI g_42) g_43 x24 x25 (nI g_44) g_45 0 (nI x29) (nI x30) (nI x33) x45 (nI x46) (nI x52) (nI x53) (nI x61) (nI x62) (nI x63) (nI x65) x66 f1 f_11 g_20 (bN 3 g_38) (bN 7 q5) (bN 7 q6) (bN 4 q7) f8 (bN 2 g_39) (bH g_36) g_37 (b2 m12_0 m12_1) (b2 (m13_0 + 1) m13_1) (b2 m14_0 m14_1) (b2m m15_0 m15_1) f17 (bA 159 q31) f32 f34 f35 f36 f37 (bN 7 q38) f39 f40 f41 (b2 m42_0 m42_1) f43 f44 f47 f48 f49 f50 f51 (bN 13 q54) (bN 120 q55) (bN 120 q56) f57 (bN 120 q58) f59 f60 f64) := by rw [← b2_up0 (a := m13_0) (b := m13_1) (v := (m13_0 + 1))]; exact hD
      exact W.vret hx hb hr (fun t ht hW => ⟨⟨(), rfl, trivial, ⟨g_36, g_37, f_11, g_20, g_38, g_39, (m13_0 + 1), g_40, g_41, g_42, g_43, g_44, g_45, ⟨by rw [ht]; exact hP, va_K.moved hW.alike hK, hD⟩, (by omega), hg_41, hg_42, hg_44, by omega, (hsp.symm.trans hRR)⟩⟩, hS.F ht⟩) hS.2.2 dX9_readPlace_161
    · have c_55 : ¬ u_54 = 0 := fun z => c_55 ((nI_eq (a := u_54) (b := 0) (Nat.lt_of_le_of_lt hu_54 (Nat.le_of_ble_eq_true rfl)) (Nat.le_of_ble_eq_true rfl)).mpr z)
      have hsp := hsp.trans (if_neg c_55)
      refine lv_aload_n hx hb dX9_readPlace_76 rfl (lv_at hl 0 rfl) ?_
      refine lv_ldc hx hb hown v_24 dX9_readPlace_77 ?_
      refine va_calli (va_runV (As := [.int 22499628]) (rest := []) ⟨hx, hb, hml, hown, hts⟩ (c_EM_isWord l dC dI _ ad ck x0 x16 x18 x19 g_40 g_41 g_42 g_43 x24 x25 g_44 g_45 0 x29 x30 x33 x45 x46 x52 x53 x61 x62 x63 x65 x66 f1 f_11 g_20 g_38 q5 q6 q7 f8 g_39 g_36 g_37 m12_0 m12_1 m13_0 m13_1 m14_0 m14_1 m15_0 m15_1 f17 q31 f32 f34 f35 f36 f37 q38 f39 f40 f41 m42_0 m42_1 f43 f44 f47 f48 f49 f50 f51 q54 q55 q56 f57 q58 f59 f60 f64 22499628 hx16 hx18 hx19 hg_41 hg_42 hg_44 (Nat.le_of_ble_eq_true rfl) hx29 hx30 hx33 hx46 hx52 hx53 hx61 hx62 hx63 hx65 hm12_0 hm12_1 (Nat.le_trans hm13_0 (Nat.le_of_ble_eq_true rfl)) hm13_1 hm14_0 hm14_1 hm15_0 hm15_1 hm42_0 hm42_1) (cwV 1 hts g_EM_readPlace_0_EM_isWord rfl rfl rfl (by decide +kernel) ⟨Nat.le_of_ble_eq_true rfl, Nat.le_of_ble_eq_true rfl⟩) ⟨pu_bl, va_recv hK hP (ci := 9) (q0 := 0) rfl rfl, pu_in hP hK hD⟩ rfl rfl hl.1 rfl (lv_room (Nat.le_of_ble_eq_true rfl)) dX9_readPlace_79 ⟨Nat.le_of_ble_eq_true rfl, Nat.le_of_ble_eq_true rfl⟩) hS (fun q _ h => pu_fr hS hA q h) (pu_fr hS hA) (fun r_58 u t H1 locs ht hvm hw hB hz1 hk1 hS => ?_)
      have hP := pu_keep hP hk1
      clear hk1 hz1 ht hvm
      generalize H1 = H at hP hS ⊢
      obtain ⟨u_59, hu_59, rfl, ju_59, iu_59⟩ := hw
      have hsp := hsp.trans (slet_eq iu_59)
      refine lv_if_eq (tgt := 148) hx hb dX9_readPlace_82 (by decide) (fun c_60 => ?_) (fun c_60 => ?_)
      · have c_60 : u_59 = 0 := (nI_eq (a := u_59) (b := 0) (Nat.lt_of_le_of_lt hu_59 (Nat.le_of_ble_eq_true rfl)) (Nat.le_of_ble_eq_true rfl)).mp c_60
        have hsp := hsp.trans (if_pos c_60)
        have hsp := hout_52 _ hsp
        refine lv_aload_n hx hb dX9_readPlace_148 rfl (lv_at hl 0 rfl) ?_
        refine va_get (D := (dC, dI)) (ci := 9) (v := .ref (ad 13)) (C := RX9) (T := TX9) (N := 67) hx hb hts hiX9 hown hK hP 0 rfl rfl 13 (by decide) v_2 (fun _ h9 => h9) rfl dX9_readPlace_149 ?_
        refine lv_aload_n hx hb dX9_readPlace_152 rfl (lv_at hl 0 rfl) ?_
        refine va_get (D := (dC, dI)) (ci := 9) (v := .int 0) (C := RX9) (T := TX9) (N := 67) hx hb hts hiX9 hown hK hP 0 rfl rfl 28 (by decide) v_1 (fun _ h9 => h9) rfl dX9_readPlace_153 ?_
        refine lv_dup2_11 hx hb dX9_readPlace_156 rfl rfl ?_
        refine va_iald hx hb hK hP 13 12 rfl rfl (vp_in_nI (n := 0) (Nat.le_of_ble_eq_true rfl) (Nat.le_of_ble_eq_true rfl)) dX9_readPlace_157 ?_
        refine lv_topi (fun y_61 ey_61 => ?_)
        have qy_61 := ey_61.trans b2_0
        clear ey_61
        obtain rfl : y_61 = nI m13_0 := qy_61
        refine lv_iconst (v := 1) hx hb dX9_readPlace_158 (by decide) ?_
        refine lv_iadd hx hb dX9_readPlace_159 ?_
        refine lv_topi (fun y_62 ey_62 => ?_)
        obtain rfl : y_62 = (nI (m13_0 + 1)) := ey_62.trans (nI_add m13_0 1)
        refine va_iast hx hb hK hP hD hS 13 12 rfl rfl (vp_in_nI (n := 0) (Nat.le_of_ble_eq_true rfl) (Nat.le_of_ble_eq_true rfl)) dX9_readPlace_160 (fun H locs hP hD hS => ?_)
        have hP : va_P (dC, dI) vwCl (mo_w ad ck x0 (nI x16) (nI x18) (nI x19) g_40 (nI g_41) (nI g_42) g_43 x24 x25 (nI g_44) g_45 0 (nI x29) (nI x30) (nI x33) x45 (nI x46) (nI x52) (nI x53) (nI x61) (nI x62) (nI x63) (nI x65) x66 f1 f_11 g_20 (bN 3 g_38) (bN 7 q5) (bN 7 q6) (bN 4 q7) f8 (bN 2 g_39) (bH g_36) g_37 (b2 m12_0 m12_1) (b2 (m13_0 + 1) m13_1) (b2 m14_0 m14_1) (b2m m15_0 m15_1) f17 (bA 159 q31) f32 f34 f35 f36 f37 (bN 7 q38) f39 f40 f41 (b2 m42_0 m42_1) f43 f44 f47 f48 f49 f50 f51 (bN 13 q54) (bN 120 q55) (bN 120 q56) f57 (bN 120 q58) f59 f60 f64) H := by rw [← b2_up0 (a := m13_0) (b := m13_1) (v := (m13_0 + 1))]; exact hP
        have hD : va_D A (mo_w ad ck x0 (nI x16) (nI x18) (nI x19) g_40 (nI g_41) (nI g_42) g_43 x24 x25 (nI g_44) g_45 0 (nI x29) (nI x30) (nI x33) x45 (nI x46) (nI x52) (nI x53) (nI x61) (nI x62) (nI x63) (nI x65) x66 f1 f_11 g_20 (bN 3 g_38) (bN 7 q5) (bN 7 q6) (bN 4 q7) f8 (bN 2 g_39) (bH g_36) g_37 (b2 m12_0 m12_1) (b2 (m13_0 + 1) m13_1) (b2 m14_0 m14_1) (b2m m15_0 m15_1) f17 (bA 159 q31) f32 f34 f35 f36 f37 (bN 7 q38) f39 f40 f41 (b2 m42_0 m42_1) f43 f44 f47 f48 f49 f50 f51 (bN 13 q54) (bN 120 q55) (bN 120 q56) f57 (bN 120 q58) f59 f60 f64) := by rw [← b2_up0 (a := m13_0) (b := m13_1) (v := (m13_0 + 1))]; exact hD
        exact W.vret hx hb hr (fun t ht hW => ⟨⟨(), rfl, trivial, ⟨g_36, g_37, f_11, g_20, g_38, g_39, (m13_0 + 1), g_40, g_41, g_42, g_43, g_44, g_45, ⟨by rw [ht]; exact hP, va_K.moved hW.alike hK, hD⟩, (by omega), hg_41, hg_42, hg_44, by omega, (hsp.symm.trans hRR)⟩⟩, hS.F ht⟩) hS.2.2 dX9_readPlace_161
      · have c_60 : ¬ u_59 = 0 := fun z => c_60 ((nI_eq (a := u_59) (b := 0) (Nat.lt_of_le_of_lt hu_59 (Nat.le_of_ble_eq_true rfl)) (Nat.le_of_ble_eq_true rfl)).mpr z)
        have hsp := hsp.trans (if_neg c_60)
        refine lv_aload_n hx hb dX9_readPlace_85 rfl (lv_at hl 0 rfl) ?_
        refine va_get (D := (dC, dI)) (ci := 9) (v := .ref (ad 4)) (C := RX9) (T := TX9) (N := 67) hx hb hts hiX9 hown hK hP 0 rfl rfl 4 (by decide) v_10 (fun _ h9 => h9) rfl dX9_readPlace_86 ?_
        refine lv_iload_n hx hb dX9_readPlace_89 rfl (lv_at hl 1 rfl) ?_
        refine va_iald hx hb hK hP 4 3 rfl rfl (vp_in_nI (n := (0 + m13_0)) (by omega) (Nat.le_of_ble_eq_true rfl)) dX9_readPlace_90 ?_
        refine lv_topi (fun y_63 ey_63 => ?_)
        obtain ⟨u_64, hu_64, qu_64, xu_64⟩ := bN_getx 3 g_38 (n := (0 + m13_0)) (by omega)
        obtain rfl : y_63 = nI u_64 := ey_63.trans qu_64
        have hsp := hsp.trans (slet_eq xu_64)
        refine lv_iconst (v := 3) hx hb dX9_readPlace_91 (by decide) ?_
        refine lv_icmp_ne (tgt := 101) hx hb dX9_readPlace_92 (by decide) (fun c_65 => ?_) (fun c_65 => ?_)
        · have c_65 : ¬ u_64 = 3 := fun z => c_65 ((nI_eq (a := u_64) (b := 3) (Nat.lt_of_le_of_lt hu_64 (Nat.le_of_ble_eq_true rfl)) (Nat.le_of_ble_eq_true rfl)).mpr z)
          have hsp := hsp.trans (if_neg c_65)
          refine lv_aload_n hx hb dX9_readPlace_101 rfl (lv_at hl 0 rfl) ?_
          refine lv_bipush (v := 80) hx hb dX9_readPlace_102 (by decide) ?_
          refine lv_aload_n hx hb dX9_readPlace_104 rfl (lv_at hl 0 rfl) ?_
          refine va_get (D := (dC, dI)) (ci := 9) (v := .int 0) (C := RX9) (T := TX9) (N := 67) hx hb hts hiX9 hown hK hP 0 rfl rfl 28 (by decide) v_1 (fun _ h9 => h9) rfl dX9_readPlace_105 ?_
          refine lv_imul hx hb dX9_readPlace_108 ?_
          refine lv_topi (fun y_66 ey_66 => ?_)
          obtain rfl : y_66 = 0 := ey_66.trans (by decide)
          refine lv_bipush (v := 56) hx hb dX9_readPlace_109 (by decide) ?_
          refine lv_iadd hx hb dX9_readPlace_111 ?_
          refine lv_topi (fun y_67 ey_67 => ?_)
          obtain rfl : y_67 = 56 := ey_67.trans (by decide)
          refine lv_iconst (v := 3) hx hb dX9_readPlace_112 (by decide) ?_
          refine lv_aload_n hx hb dX9_readPlace_113 rfl (lv_at hl 0 rfl) ?_
          refine va_get (D := (dC, dI)) (ci := 9) (v := .ref (ad 13)) (C := RX9) (T := TX9) (N := 67) hx hb hts hiX9 hown hK hP 0 rfl rfl 13 (by decide) v_2 (fun _ h9 => h9) rfl dX9_readPlace_114 ?_
          refine lv_aload_n hx hb dX9_readPlace_117 rfl (lv_at hl 0 rfl) ?_
          refine va_get (D := (dC, dI)) (ci := 9) (v := .int 0) (C := RX9) (T := TX9) (N := 67) hx hb hts hiX9 hown hK hP 0 rfl rfl 28 (by decide) v_1 (fun _ h9 => h9) rfl dX9_readPlace_118 ?_
          refine va_iald hx hb hK hP 13 12 rfl rfl (vp_in_nI (n := 0) (Nat.le_of_ble_eq_true rfl) (Nat.le_of_ble_eq_true rfl)) dX9_readPlace_121 ?_
          refine lv_topi (fun y_68 ey_68 => ?_)
          have qy_68 := ey_68.trans b2_0
          clear ey_68
          obtain rfl : y_68 = nI m13_0 := qy_68
          refine lv_imul hx hb dX9_readPlace_122 ?_
          refine lv_topi (fun y_69 ey_69 => ?_)
          obtain rfl : y_69 = (nI (3 * m13_0)) := ey_69.trans (pk_mul 3 m13_0)
          refine lv_iadd hx hb dX9_readPlace_123 ?_
          refine lv_topi (fun y_70 ey_70 => ?_)
          obtain rfl : y_70 = (nI (56 + (3 * m13_0))) := ey_70.trans (nI_add 56 (3 * m13_0))
          refine lv_aload_n hx hb dX9_readPlace_124 rfl (lv_at hl 0 rfl) ?_
          refine va_get (D := (dC, dI)) (ci := 9) (v := .ref (ad 4)) (C := RX9) (T := TX9) (N := 67) hx hb hts hiX9 hown hK hP 0 rfl rfl 4 (by decide) v_10 (fun _ h9 => h9) rfl dX9_readPlace_125 ?_
          refine lv_iload_n hx hb dX9_readPlace_128 rfl (lv_at hl 1 rfl) ?_
          refine va_iald hx hb hK hP 4 3 rfl rfl (vp_in_nI (n := (0 + m13_0)) (by omega) (Nat.le_of_ble_eq_true rfl)) dX9_readPlace_129 ?_
          refine lv_topi (fun y_71 ey_71 => ?_)
          obtain rfl : y_71 = nI u_64 := ey_71.trans qu_64
          refine lv_iadd hx hb dX9_readPlace_130 ?_
          refine lv_topi (fun y_73 ey_73 => ?_)
          obtain rfl : y_73 = (nI ((56 + (3 * m13_0)) + u_64)) := ey_73.trans (nI_add (56 + (3 * m13_0)) u_64)
          refine lv_iconst (v := 1) hx hb dX9_readPlace_131 (by decide) ?_
          have hFc := pu_free hD hS hA
          refine va_callv (va_runV (As := [.int (nI ((56 + (3 * m13_0)) + u_64)), .int 1]) (rest := []) ⟨hx, hb, hml, hown, hts⟩ (c_EM_readCondition1_0 l dC dI _ ad ck x0 x16 x18 x19 g_40 g_41 g_42 g_43 x24 x25 g_44 g_45 x29 x30 x33 x45 x46 x52 x53 x61 x62 x63 x65 x66 f1 f_11 g_20 g_38 q5 q6 q7 f8 g_39 g_36 g_37 m12_0 m12_1 m13_0 m13_1 m14_0 m14_1 m15_0 m15_1 f17 q31 f32 f34 f35 f36 f37 q38 f39 f40 f41 m42_0 m42_1 f43 f44 f47 f48 f49 f50 f51 q54 q55 q56 f57 q58 f59 f60 f64 ((56 + (3 * m13_0)) + u_64) hx16 hx18 hx19 hg_41 hg_42 hg_44 hx29 hx30 hx33 hx46 hx52 hx53 hx61 hx62 hx63 hx65 hm12_0 hm12_1 (Nat.le_trans hm13_0 (Nat.le_of_ble_eq_true rfl)) hm13_1 hm14_0 hm14_1 hm15_0 hm15_1 hm42_0 hm42_1 (by omega) (by omega)) (cwV 2 hts g_EM_readPlace_0_EM_readCondition1_0 rfl rfl rfl (by decide +kernel) ⟨Nat.le_of_ble_eq_true rfl, Nat.le_of_ble_eq_true rfl⟩) ⟨pu_bl, va_recv hK hP (ci := 9) (q0 := 0) rfl rfl, pu_in hP hK hD⟩ rfl rfl hl.1 rfl (lv_room (Nat.le_of_ble_eq_true rfl)) dX9_readPlace_132 ⟨Nat.le_of_ble_eq_true rfl, Nat.le_of_ble_eq_true rfl⟩) hS (fun q _ h => hFc q h) hFc (fun u t H1 locs ht hvm hw hB hz1 hk1 hS => ?_)
          obtain ⟨z10_75, z11_76, z9_77, z20_78, z21_79, z22_80, z23_81, z26_82, z27_83, ⟨hP1, -, hD1⟩, hz21_79, hz22_80, hz26_82, xr_74_0, xr_74_1, xr_74_2⟩ := hB
          rw [ht] at hP1
          have hP := hP1
          have hD := pu_all hFc hD1
          clear hP1 hD1 hFc
          clear hk1 hz1 ht hvm
          generalize H1 = H at hP hS ⊢
          have hsp := hsp.trans (slet_eq xr_74_2)
          refine lv_aload_n hx hb dX9_readPlace_135 rfl (lv_at hl 0 rfl) ?_
          refine va_get (D := (dC, dI)) (ci := 9) (v := .ref (ad 4)) (C := RX9) (T := TX9) (N := 67) hx hb hts hiX9 hown hK hP 0 rfl rfl 4 (by decide) v_10 (fun _ h9 => h9) rfl dX9_readPlace_136 ?_
          refine lv_iload_n hx hb dX9_readPlace_139 rfl (lv_at hl 1 rfl) ?_
          refine lv_dup2_11 hx hb dX9_readPlace_140 rfl rfl ?_
          refine va_iald hx hb hK hP 4 3 rfl rfl (vp_in_nI (n := (0 + m13_0)) (by omega) (Nat.le_of_ble_eq_true rfl)) dX9_readPlace_141 ?_
          refine lv_topi (fun y_84 ey_84 => ?_)
          obtain rfl : y_84 = nI u_64 := ey_84.trans qu_64
          refine lv_iconst (v := 1) hx hb dX9_readPlace_142 (by decide) ?_
          refine lv_iadd hx hb dX9_readPlace_143 ?_
          refine lv_topi (fun y_86 ey_86 => ?_)
          obtain rfl : y_86 = (nI (u_64 + 1)) := ey_86.trans (nI_add u_64 1)
          refine va_iast hx hb hK hP hD hS 4 3 rfl rfl (vp_in_nI (n := (0 + m13_0)) (by omega) (Nat.le_of_ble_eq_true rfl)) dX9_readPlace_144 (fun H locs hP hD hS => ?_)
          obtain ⟨q_87, eq_87, kq_87, oq_87, xq_87⟩ := bN_upx 3 g_38 (n := (0 + m13_0)) (v := (u_64 + 1)) (by omega) (by omega)
          have hP : va_P (dC, dI) vwCl (mo_w ad ck x0 (nI x16) (nI x18) (nI x19) z20_78 (nI z21_79) (nI z22_80) z23_81 x24 x25 (nI z26_82) z27_83 0 (nI x29) (nI x30) (nI x33) x45 (nI x46) (nI x52) (nI x53) (nI x61) (nI x62) (nI x63) (nI x65) x66 f1 f_11 g_20 (bN 3 q_87) (bN 7 q5) (bN 7 q6) (bN 4 q7) f8 (bN 2 z9_77) (bH z10_75) z11_76 (b2 m12_0 m12_1) (b2 m13_0 m13_1) (b2 m14_0 m14_1) (b2m m15_0 m15_1) f17 (bA 159 q31) f32 f34 f35 f36 f37 (bN 7 q38) f39 f40 f41 (b2 m42_0 m42_1) f43 f44 f47 f48 f49 f50 f51 (bN 13 q54) (bN 120 q55) (bN 120 q56) f57 (bN 120 q58) f59 f60 f64) H := by rw [← eq_87]; exact hP
          have hD : va_D A (mo_w ad ck x0 (nI x16) (nI x18) (nI x19) z20_78 (nI z21_79) (nI z22_80) z23_81 x24 x25 (nI z26_82) z27_83 0 (nI x29) (nI x30) (nI x33) x45 (nI x46) (nI x52) (nI x53) (nI x61) (nI x62) (nI x63) (nI x65) x66 f1 f_11 g_20 (bN 3 q_87) (bN 7 q5) (bN 7 q6) (bN 4 q7) f8 (bN 2 z9_77) (bH z10_75) z11_76 (b2 m12_0 m12_1) (b2 m13_0 m13_1) (b2 m14_0 m14_1) (b2m m15_0 m15_1) f17 (bA 159 q31) f32 f34 f35 f36 f37 (bN 7 q38) f39 f40 f41 (b2 m42_0 m42_1) f43 f44 f47 f48 f49 f50 f51 (bN 13 q54) (bN 120 q55) (bN 120 q56) f57 (bN 120 q58) f59 f60 f64) := by rw [← eq_87]; exact hD
          have hsp := hsp.trans (slet_eq xq_87)
          refine lv_goto (tgt := 69) hx hb dX9_readPlace_145 (by decide) ?_
          exact ih_47 (mu z21_79 z22_80) (by omega) _ _ _ ⟨z10_75, z11_76, q_87, z9_77, z20_78, z21_79, z22_80, z23_81, z26_82, z27_83, rfl, hz21_79, hz22_80, hz26_82, by omega, hin_51 _ hsp, hP, hD, hS, lv_sub hl [0, 1] rfl⟩
        · have c_65 : u_64 = 3 := (nI_eq (a := u_64) (b := 3) (Nat.lt_of_le_of_lt hu_64 (Nat.le_of_ble_eq_true rfl)) (Nat.le_of_ble_eq_true rfl)).mp c_65
          have hsp := hsp.trans (if_pos c_65)
          have hsp := hout_52 _ hsp
          refine lv_aload_n hx hb dX9_readPlace_95 rfl (lv_at hl 0 rfl) ?_
          refine lv_iconst (v := 5) hx hb dX9_readPlace_96 (by decide) ?_
          have hFc := pu_free hD hS hA
          refine va_callv (va_runV (As := [.int 5]) (rest := []) ⟨hx, hb, hml, hown, hts⟩ (c_EM_fails l dC dI _ ad ck x0 x16 x18 x19 g_40 g_41 g_42 g_43 x24 x25 g_44 g_45 0 x29 x30 x33 x45 x46 x52 x53 x61 x62 x63 x65 x66 f1 f_11 g_20 g_38 q5 q6 q7 f8 g_39 g_36 g_37 m12_0 m12_1 m13_0 m13_1 m14_0 m14_1 m15_0 m15_1 f17 q31 f32 f34 f35 f36 f37 q38 f39 f40 f41 m42_0 m42_1 f43 f44 f47 f48 f49 f50 f51 q54 q55 q56 f57 q58 f59 f60 f64 5 hx16 hx18 hx19 hg_41 hg_42 hg_44 (Nat.le_of_ble_eq_true rfl) hx29 hx30 hx33 hx46 hx52 hx53 hx61 hx62 hx63 hx65 hm12_0 hm12_1 (Nat.le_trans hm13_0 (Nat.le_of_ble_eq_true rfl)) hm13_1 hm14_0 hm14_1 hm15_0 hm15_1 hm42_0 hm42_1 (Nat.le_of_ble_eq_true rfl) (by omega)) (cwV 1 hts g_EM_readPlace_0_EM_fails rfl rfl rfl (by decide +kernel) ⟨Nat.le_of_ble_eq_true rfl, Nat.le_of_ble_eq_true rfl⟩) ⟨pu_bl, va_recv hK hP (ci := 9) (q0 := 0) rfl rfl, pu_in hP hK hD⟩ rfl rfl hl.1 rfl (lv_room (Nat.le_of_ble_eq_true rfl)) dX9_readPlace_97 ⟨Nat.le_of_ble_eq_true rfl, Nat.le_of_ble_eq_true rfl⟩) hS (fun q _ h => hFc q h) hFc (fun u t H1 locs ht hvm hw hB hz1 hk1 hS => ?_)
          obtain ⟨z26_89, z27_90, ⟨hP1, -, hD1⟩, hz26_89, xr_88_0, xr_88_1⟩ := hB
          rw [ht] at hP1
          have hP := hP1
          have hD := pu_all hFc hD1
          clear hP1 hD1 hFc
          clear hk1 hz1 ht hvm
          generalize H1 = H at hP hS ⊢
          have hsp := hsp.trans (slet_eq xr_88_1)
          exact W.vret hx hb hr (fun t ht hW => ⟨⟨(), rfl, trivial, ⟨g_36, g_37, f_11, g_20, g_38, g_39, m13_0, g_40, g_41, g_42, g_43, z26_89, z27_90, ⟨by rw [ht]; exact hP, va_K.moved hW.alike hK, hD⟩, (Nat.le_trans hm13_0 (Nat.le_of_ble_eq_true rfl)), hg_41, hg_42, hz26_89, by omega, (hsp.symm.trans hRR)⟩⟩, hS.F ht⟩) hS.2.2 dX9_readPlace_100
  have hsp := hJR_23
  refine lv_if_eq (tgt := 69) hx hb dX9_readPlace_46 (by decide) (fun c_91 => ?_) (fun c_91 => ?_)
  · have c_91 : u_15 = 0 := (nI_eq (a := u_15) (b := 0) (Nat.lt_of_le_of_lt hu_15 (Nat.le_of_ble_eq_true rfl)) (Nat.le_of_ble_eq_true rfl)).mp c_91
    have hsp := hsp.trans (if_pos c_91)
    exact j_22 _ _ _ _ ⟨z20_5, z21_6, z22_7, z23_8, f_12, rfl, hz21_6, hz22_7, by omega, hsp.symm, hP, hD, hS, lv_sub hl [1, 0] rfl⟩
  · have c_91 : ¬ u_15 = 0 := fun z => c_91 ((nI_eq (a := u_15) (b := 0) (Nat.lt_of_le_of_lt hu_15 (Nat.le_of_ble_eq_true rfl)) (Nat.le_of_ble_eq_true rfl)).mpr z)
    have hsp := hsp.trans (if_neg c_91)
    refine lv_aload_n hx hb dX9_readPlace_49 rfl (lv_at hl 1 rfl) ?_
    refine lv_ldc hx hb hown v_15 dX9_readPlace_50 ?_
    refine va_calli (va_runV (As := [.int 723752404]) (rest := []) ⟨hx, hb, hml, hown, hts⟩ (c_EM_isWord l dC dI _ ad ck x0 x16 x18 x19 z20_5 z21_6 z22_7 z23_8 x24 x25 z26_9 z27_10 0 x29 x30 x33 x45 x46 x52 x53 x61 x62 x63 x65 x66 f1 f_11 f_12 q_13 q5 q6 q7 f8 q9 q10 f11 m12_0 m12_1 m13_0 m13_1 m14_0 m14_1 m15_0 m15_1 f17 q31 f32 f34 f35 f36 f37 q38 f39 f40 f41 m42_0 m42_1 f43 f44 f47 f48 f49 f50 f51 q54 q55 q56 f57 q58 f59 f60 f64 723752404 hx16 hx18 hx19 hz21_6 hz22_7 hz26_9 (Nat.le_of_ble_eq_true rfl) hx29 hx30 hx33 hx46 hx52 hx53 hx61 hx62 hx63 hx65 hm12_0 hm12_1 (Nat.le_trans hm13_0 (Nat.le_of_ble_eq_true rfl)) hm13_1 hm14_0 hm14_1 hm15_0 hm15_1 hm42_0 hm42_1) (cwV 1 hts g_EM_readPlace_0_EM_isWord rfl rfl rfl (by decide +kernel) ⟨Nat.le_of_ble_eq_true rfl, Nat.le_of_ble_eq_true rfl⟩) ⟨pu_bl, va_recv hK hP (ci := 9) (q0 := 0) rfl rfl, pu_in hP hK hD⟩ rfl rfl hl.1 rfl (lv_room (Nat.le_of_ble_eq_true rfl)) dX9_readPlace_52 ⟨Nat.le_of_ble_eq_true rfl, Nat.le_of_ble_eq_true rfl⟩) hS (fun q _ h => pu_fr hS hA q h) (pu_fr hS hA) (fun r_92 u t H1 locs ht hvm hw hB hz1 hk1 hS => ?_)
    have hP := pu_keep hP hk1
    clear hk1 hz1 ht hvm
    generalize H1 = H at hP hS ⊢
    obtain ⟨u_93, hu_93, rfl, ju_93, iu_93⟩ := hw
    have hsp := hsp.trans (slet_eq iu_93)
    refine lv_if_eq (tgt := 69) hx hb dX9_readPlace_55 (by decide) (fun c_94 => ?_) (fun c_94 => ?_)
    · have c_94 : u_93 = 0 := (nI_eq (a := u_93) (b := 0) (Nat.lt_of_le_of_lt hu_93 (Nat.le_of_ble_eq_true rfl)) (Nat.le_of_ble_eq_true rfl)).mp c_94
      have hsp := hsp.trans (if_pos c_94)
      exact j_22 _ _ _ _ ⟨z20_5, z21_6, z22_7, z23_8, f_12, rfl, hz21_6, hz22_7, by omega, hsp.symm, hP, hD, hS, lv_sub hl [1, 0] rfl⟩
    · have c_94 : ¬ u_93 = 0 := fun z => c_94 ((nI_eq (a := u_93) (b := 0) (Nat.lt_of_le_of_lt hu_93 (Nat.le_of_ble_eq_true rfl)) (Nat.le_of_ble_eq_true rfl)).mpr z)
      have hsp := hsp.trans (if_neg c_94)
      refine lv_aload_n hx hb dX9_readPlace_58 rfl (lv_at hl 1 rfl) ?_
      refine va_get (D := (dC, dI)) (ci := 9) (v := .ref (ad 3)) (C := RX9) (T := TX9) (N := 67) hx hb hts hiX9 hown hK hP 0 rfl rfl 3 (by decide) v_9 (fun _ h9 => h9) rfl dX9_readPlace_59 ?_
      refine lv_iload_n hx hb dX9_readPlace_62 rfl (lv_at hl 0 rfl) ?_
      refine lv_iconst (v := 1) hx hb dX9_readPlace_63 (by decide) ?_
      refine va_iast hx hb hK hP hD hS 3 2 rfl rfl (vp_in_nI (n := (0 + m13_0)) (by omega) (Nat.le_of_ble_eq_true rfl)) dX9_readPlace_64 (fun H locs hP hD hS => ?_)
      obtain ⟨f_95, ef_95, xf_95⟩ := up_x f_12 (n := (0 + m13_0)) 1 (by omega)
      have hP : va_P (dC, dI) vwCl (mo_w ad ck x0 (nI x16) (nI x18) (nI x19) z20_5 (nI z21_6) (nI z22_7) z23_8 x24 x25 (nI z26_9) z27_10 0 (nI x29) (nI x30) (nI x33) x45 (nI x46) (nI x52) (nI x53) (nI x61) (nI x62) (nI x63) (nI x65) x66 f1 f_11 f_95 (bN 3 q_13) (bN 7 q5) (bN 7 q6) (bN 4 q7) f8 (bN 2 q9) (bH q10) f11 (b2 m12_0 m12_1) (b2 m13_0 m13_1) (b2 m14_0 m14_1) (b2m m15_0 m15_1) f17 (bA 159 q31) f32 f34 f35 f36 f37 (bN 7 q38) f39 f40 f41 (b2 m42_0 m42_1) f43 f44 f47 f48 f49 f50 f51 (bN 13 q54) (bN 120 q55) (bN 120 q56) f57 (bN 120 q58) f59 f60 f64) H := by rw [← ef_95]; exact hP
      have hD : va_D A (mo_w ad ck x0 (nI x16) (nI x18) (nI x19) z20_5 (nI z21_6) (nI z22_7) z23_8 x24 x25 (nI z26_9) z27_10 0 (nI x29) (nI x30) (nI x33) x45 (nI x46) (nI x52) (nI x53) (nI x61) (nI x62) (nI x63) (nI x65) x66 f1 f_11 f_95 (bN 3 q_13) (bN 7 q5) (bN 7 q6) (bN 4 q7) f8 (bN 2 q9) (bH q10) f11 (b2 m12_0 m12_1) (b2 m13_0 m13_1) (b2 m14_0 m14_1) (b2m m15_0 m15_1) f17 (bA 159 q31) f32 f34 f35 f36 f37 (bN 7 q38) f39 f40 f41 (b2 m42_0 m42_1) f43 f44 f47 f48 f49 f50 f51 (bN 13 q54) (bN 120 q55) (bN 120 q56) f57 (bN 120 q58) f59 f60 f64) := by rw [← ef_95]; exact hD
      have hsp := hsp.trans (slet_eq xf_95)
      refine lv_aload_n hx hb dX9_readPlace_65 rfl (lv_at hl 1 rfl) ?_
      have hFc := pu_free hD hS hA
      refine va_callv (va_runV (As := []) (rest := []) ⟨hx, hb, hml, hown, hts⟩ (c_EM_next l dC dI _ ad ck x0 x16 x18 x19 z20_5 z21_6 z22_7 z23_8 x24 x25 z26_9 z27_10 0 x29 x30 x33 x45 x46 x52 x53 x61 x62 x63 x65 x66 f1 f_11 f_95 q_13 q5 q6 q7 f8 q9 q10 f11 m12_0 m12_1 m13_0 m13_1 m14_0 m14_1 m15_0 m15_1 f17 q31 f32 f34 f35 f36 f37 q38 f39 f40 f41 m42_0 m42_1 f43 f44 f47 f48 f49 f50 f51 q54 q55 q56 f57 q58 f59 f60 f64 hx16 hx18 hx19 hz21_6 hz22_7 hz26_9 (Nat.le_of_ble_eq_true rfl) hx29 hx30 hx33 hx46 hx52 hx53 hx61 hx62 hx63 hx65 hm12_0 hm12_1 (Nat.le_trans hm13_0 (Nat.le_of_ble_eq_true rfl)) hm13_1 hm14_0 hm14_1 hm15_0 hm15_1 hm42_0 hm42_1) (cwV 0 hts g_EM_readPlace_0_EM_next rfl rfl rfl (by decide +kernel) ⟨Nat.le_of_ble_eq_true rfl, Nat.le_of_ble_eq_true rfl⟩) ⟨pu_bl, va_recv hK hP (ci := 9) (q0 := 0) rfl rfl, pu_in hP hK hD⟩ rfl rfl hl.1 rfl (lv_room (Nat.le_of_ble_eq_true rfl)) dX9_readPlace_66 ⟨Nat.le_of_ble_eq_true rfl, Nat.le_of_ble_eq_true rfl⟩) hS (fun q _ h => hFc q h) hFc (fun u t H1 locs ht hvm hw hB hz1 hk1 hS => ?_)
      obtain ⟨z20_97, z21_98, z22_99, z23_100, ⟨hP1, -, hD1⟩, hz21_98, hz22_99, xr_96_0, xr_96_1, xr_96_2⟩ := hB
      rw [ht] at hP1
      have hP := hP1
      have hD := pu_all hFc hD1
      clear hP1 hD1 hFc
      clear hk1 hz1 ht hvm
      generalize H1 = H at hP hS ⊢
      have hsp := hsp.trans (slet_eq xr_96_2)
      exact j_22 _ _ _ _ ⟨z20_97, z21_98, z22_99, z23_100, f_95, rfl, hz21_98, hz22_99, by omega, hsp.symm, hP, hD, hS, lv_sub hl [1, 0] rfl⟩
