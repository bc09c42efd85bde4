theorem dX9_automaton_0 : decode cX9_automaton 0 = .ok (.aload_n 0, 1) := by decide +kernel
theorem dX9_automaton_1 : decode cX9_automaton 1 = .ok (.iconst 0, 1) := by decide +kernel
theorem dX9_automaton_2 : decode cX9_automaton 2 = .ok (.putfield 142, 3) := by decide +kernel
theorem dX9_automaton_5 : decode cX9_automaton 5 = .ok (.aload_n 0, 1) := by decide +kernel
theorem dX9_automaton_6 : decode cX9_automaton 6 = .ok (.aload_n 0, 1) := by decide +kernel
theorem dX9_automaton_7 : decode cX9_automaton 7 = .ok (.getfield 145, 3) := by decide +kernel
theorem dX9_automaton_10 : decode cX9_automaton 10 = .ok (.putfield 156, 3) := by decide +kernel
theorem dX9_automaton_13 : decode cX9_automaton 13 = .ok (.aload_n 0, 1) := by decide +kernel
theorem dX9_automaton_14 : decode cX9_automaton 14 = .ok (.iconst 0, 1) := by decide +kernel
theorem dX9_automaton_15 : decode cX9_automaton 15 = .ok (.putfield 145, 3) := by decide +kernel
theorem dX9_automaton_18 : decode cX9_automaton 18 = .ok (.aload_n 0, 1) := by decide +kernel
theorem dX9_automaton_19 : decode cX9_automaton 19 = .ok (.iconst 0, 1) := by decide +kernel
theorem dX9_automaton_20 : decode cX9_automaton 20 = .ok (.putfield 159, 3) := by decide +kernel
theorem dX9_automaton_23 : decode cX9_automaton 23 = .ok (.aload_n 0, 1) := by decide +kernel
theorem dX9_automaton_24 : decode cX9_automaton 24 = .ok (.iconst 0, 1) := by decide +kernel
theorem dX9_automaton_25 : decode cX9_automaton 25 = .ok (.putfield 186, 3) := by decide +kernel
theorem dX9_automaton_28 : decode cX9_automaton 28 = .ok (.aload_n 0, 1) := by decide +kernel
theorem dX9_automaton_29 : decode cX9_automaton 29 = .ok (.iconst 1, 1) := by decide +kernel
theorem dX9_automaton_30 : decode cX9_automaton 30 = .ok (.aload_n 0, 1) := by decide +kernel
theorem dX9_automaton_31 : decode cX9_automaton 31 = .ok (.getfield 258, 3) := by decide +kernel
theorem dX9_automaton_34 : decode cX9_automaton 34 = .ok (.isub, 1) := by decide +kernel
theorem dX9_automaton_35 : decode cX9_automaton 35 = .ok (.putfield 203, 3) := by decide +kernel
theorem dX9_automaton_38 : decode cX9_automaton 38 = .ok (.aload_n 0, 1) := by decide +kernel
theorem dX9_automaton_39 : decode cX9_automaton 39 = .ok (.getfield 43, 3) := by decide +kernel
theorem dX9_automaton_42 : decode cX9_automaton 42 = .ok (.aload_n 0, 1) := by decide +kernel
theorem dX9_automaton_43 : decode cX9_automaton 43 = .ok (.getfield 203, 3) := by decide +kernel
theorem dX9_automaton_46 : decode cX9_automaton 46 = .ok (.iconst 0, 1) := by decide +kernel
theorem dX9_automaton_47 : decode cX9_automaton 47 = .ok (.iastore, 1) := by decide +kernel
theorem dX9_automaton_48 : decode cX9_automaton 48 = .ok (.aload_n 0, 1) := by decide +kernel
theorem dX9_automaton_49 : decode cX9_automaton 49 = .ok (.getfield 46, 3) := by decide +kernel
theorem dX9_automaton_52 : decode cX9_automaton 52 = .ok (.aload_n 0, 1) := by decide +kernel
theorem dX9_automaton_53 : decode cX9_automaton 53 = .ok (.getfield 203, 3) := by decide +kernel
theorem dX9_automaton_56 : decode cX9_automaton 56 = .ok (.iconst 0, 1) := by decide +kernel
theorem dX9_automaton_57 : decode cX9_automaton 57 = .ok (.iastore, 1) := by decide +kernel
theorem dX9_automaton_58 : decode cX9_automaton 58 = .ok (.aload_n 0, 1) := by decide +kernel
theorem dX9_automaton_59 : decode cX9_automaton 59 = .ok (.getfield 49, 3) := by decide +kernel
theorem dX9_automaton_62 : decode cX9_automaton 62 = .ok (.aload_n 0, 1) := by decide +kernel
theorem dX9_automaton_63 : decode cX9_automaton 63 = .ok (.getfield 203, 3) := by decide +kernel
theorem dX9_automaton_66 : decode cX9_automaton 66 = .ok (.iconst 0, 1) := by decide +kernel
theorem dX9_automaton_67 : decode cX9_automaton 67 = .ok (.iastore, 1) := by decide +kernel
theorem dX9_automaton_68 : decode cX9_automaton 68 = .ok (.aload_n 0, 1) := by decide +kernel
theorem dX9_automaton_69 : decode cX9_automaton 69 = .ok (.getfield 52, 3) := by decide +kernel
theorem dX9_automaton_72 : decode cX9_automaton 72 = .ok (.aload_n 0, 1) := by decide +kernel
theorem dX9_automaton_73 : decode cX9_automaton 73 = .ok (.getfield 203, 3) := by decide +kernel
theorem dX9_automaton_76 : decode cX9_automaton 76 = .ok (.iconst (-1), 1) := by decide +kernel
theorem dX9_automaton_77 : decode cX9_automaton 77 = .ok (.iastore, 1) := by decide +kernel
theorem dX9_automaton_78 : decode cX9_automaton 78 = .ok (.aload_n 0, 1) := by decide +kernel
theorem dX9_automaton_79 : decode cX9_automaton 79 = .ok (.invokevirtual 226, 3) := by decide +kernel
theorem dX9_automaton_82 : decode cX9_automaton 82 = .ok (.aload_n 0, 1) := by decide +kernel
theorem dX9_automaton_83 : decode cX9_automaton 83 = .ok (.invokevirtual 216, 3) := by decide +kernel
theorem dX9_automaton_86 : decode cX9_automaton 86 = .ok (.ifCond .eq 49, 3) := by decide +kernel
theorem dX9_automaton_89 : decode cX9_automaton 89 = .ok (.aload_n 0, 1) := by decide +kernel
theorem dX9_automaton_90 : decode cX9_automaton 90 = .ok (.getfield 172, 3) := by decide +kernel
theorem dX9_automaton_93 : decode cX9_automaton 93 = .ok (.ifCond .eq 42, 3) := by decide +kernel
theorem dX9_automaton_96 : decode cX9_automaton 96 = .ok (.aload_n 0, 1) := by decide +kernel
theorem dX9_automaton_97 : decode cX9_automaton 97 = .ok (.invokevirtual 261, 3) := by decide +kernel
theorem dX9_automaton_100 : decode cX9_automaton 100 = .ok (.aload_n 0, 1) := by decide +kernel
theorem dX9_automaton_101 : decode cX9_automaton 101 = .ok (.invokevirtual 216, 3) := by decide +kernel
theorem dX9_automaton_104 : decode cX9_automaton 104 = .ok (.ifCond .eq 17, 3) := by decide +kernel
theorem dX9_automaton_107 : decode cX9_automaton 107 = .ok (.aload_n 0, 1) := by decide +kernel
theorem dX9_automaton_108 : decode cX9_automaton 108 = .ok (.bipush 59, 2) := by decide +kernel
theorem dX9_automaton_110 : decode cX9_automaton 110 = .ok (.invokevirtual 235, 3) := by decide +kernel
theorem dX9_automaton_113 : decode cX9_automaton 113 = .ok (.ifCond .ne 8, 3) := by decide +kernel
theorem dX9_automaton_116 : decode cX9_automaton 116 = .ok (.aload_n 0, 1) := by decide +kernel
theorem dX9_automaton_117 : decode cX9_automaton 117 = .ok (.iconst 2, 1) := by decide +kernel
theorem dX9_automaton_118 : decode cX9_automaton 118 = .ok (.invokevirtual 210, 3) := by decide +kernel
theorem dX9_automaton_121 : decode cX9_automaton 121 = .ok (.aload_n 0, 1) := by decide +kernel
theorem dX9_automaton_122 : decode cX9_automaton 122 = .ok (.invokevirtual 216, 3) := by decide +kernel
theorem dX9_automaton_125 : decode cX9_automaton 125 = .ok (.ifCond .eq (-43), 3) := by decide +kernel
theorem dX9_automaton_128 : decode cX9_automaton 128 = .ok (.aload_n 0, 1) := by decide +kernel
theorem dX9_automaton_129 : decode cX9_automaton 129 = .ok (.invokevirtual 226, 3) := by decide +kernel
theorem dX9_automaton_132 : decode cX9_automaton 132 = .ok (.goto (-50), 3) := by decide +kernel
theorem dX9_automaton_135 : decode cX9_automaton 135 = .ok (.aload_n 0, 1) := by decide +kernel
theorem dX9_automaton_136 : decode cX9_automaton 136 = .ok (.invokevirtual 216, 3) := by decide +kernel
theorem dX9_automaton_139 : decode cX9_automaton 139 = .ok (.ifCond .eq 21, 3) := by decide +kernel
theorem dX9_automaton_142 : decode cX9_automaton 142 = .ok (.aload_n 0, 1) := by decide +kernel
theorem dX9_automaton_143 : decode cX9_automaton 143 = .ok (.getfield 46, 3) := by decide +kernel
theorem dX9_automaton_146 : decode cX9_automaton 146 = .ok (.aload_n 0, 1) := by decide +kernel
theorem dX9_automaton_147 : decode cX9_automaton 147 = .ok (.getfield 203, 3) := by decide +kernel
theorem dX9_automaton_150 : decode cX9_automaton 150 = .ok (.iaload, 1) := by decide +kernel
theorem dX9_automaton_151 : decode cX9_automaton 151 = .ok (.ifCond .ne 9, 3) := by decide +kernel
theorem dX9_automaton_154 : decode cX9_automaton 154 = .ok (.aload_n 0, 1) := by decide +kernel
theorem dX9_automaton_155 : decode cX9_automaton 155 = .ok (.bipush 6, 2) := by decide +kernel
theorem dX9_automaton_157 : decode cX9_automaton 157 = .ok (.invokevirtual 210, 3) := by decide +kernel
theorem dX9_automaton_160 : decode cX9_automaton 160 = .ok (.aload_n 0, 1) := by decide +kernel
theorem dX9_automaton_161 : decode cX9_automaton 161 = .ok (.aload_n 0, 1) := by decide +kernel
theorem dX9_automaton_162 : decode cX9_automaton 162 = .ok (.getfield 186, 3) := by decide +kernel
theorem dX9_automaton_165 : decode cX9_automaton 165 = .ok (.putfield 264, 3) := by decide +kernel
theorem dX9_automaton_168 : decode cX9_automaton 168 = .ok (.aload_n 0, 1) := by decide +kernel
theorem dX9_automaton_169 : decode cX9_automaton 169 = .ok (.aload_n 0, 1) := by decide +kernel
theorem dX9_automaton_170 : decode cX9_automaton 170 = .ok (.getfield 186, 3) := by decide +kernel
theorem dX9_automaton_173 : decode cX9_automaton 173 = .ok (.ifCond .ne 7, 3) := by decide +kernel
theorem dX9_automaton_176 : decode cX9_automaton 176 = .ok (.iconst (-1), 1) := by decide +kernel
theorem dX9_automaton_177 : decode cX9_automaton 177 = .ok (.goto 7, 3) := by decide +kernel
theorem dX9_automaton_180 : decode cX9_automaton 180 = .ok (.aload_n 0, 1) := by decide +kernel
theorem dX9_automaton_181 : decode cX9_automaton 181 = .ok (.getfield 189, 3) := by decide +kernel
theorem dX9_automaton_184 : decode cX9_automaton 184 = .ok (.putfield 58, 3) := by decide +kernel
theorem dX9_automaton_187 : decode cX9_automaton 187 = .ok (.aload_n 0, 1) := by decide +kernel
theorem dX9_automaton_188 : decode cX9_automaton 188 = .ok (.invokevirtual 216, 3) := by decide +kernel
theorem dX9_automaton_191 : decode cX9_automaton 191 = .ok (.ifCond .ne 5, 3) := by decide +kernel
theorem dX9_automaton_194 : decode cX9_automaton 194 = .ok (.iconst (-1), 1) := by decide +kernel
theorem dX9_automaton_195 : decode cX9_automaton 195 = .ok (.ireturn, 1) := by decide +kernel
theorem dX9_automaton_196 : decode cX9_automaton 196 = .ok (.aload_n 0, 1) := by decide +kernel
theorem dX9_automaton_197 : decode cX9_automaton 197 = .ok (.aload_n 0, 1) := by decide +kernel
theorem dX9_automaton_198 : decode cX9_automaton 198 = .ok (.getfield 203, 3) := by decide +kernel
theorem dX9_automaton_201 : decode cX9_automaton 201 = .ok (.putfield 258, 3) := by decide +kernel
theorem dX9_automaton_204 : decode cX9_automaton 204 = .ok (.aload_n 0, 1) := by decide +kernel
theorem dX9_automaton_205 : decode cX9_automaton 205 = .ok (.getfield 52, 3) := by decide +kernel
theorem dX9_automaton_208 : decode cX9_automaton 208 = .ok (.aload_n 0, 1) := by decide +kernel
theorem dX9_automaton_209 : decode cX9_automaton 209 = .ok (.getfield 258, 3) := by decide +kernel
theorem dX9_automaton_212 : decode cX9_automaton 212 = .ok (.iaload, 1) := by decide +kernel
theorem dX9_automaton_213 : decode cX9_automaton 213 = .ok (.ifCond .ge 13, 3) := by decide +kernel
theorem dX9_automaton_216 : decode cX9_automaton 216 = .ok (.aload_n 0, 1) := by decide +kernel
theorem dX9_automaton_217 : decode cX9_automaton 217 = .ok (.getfield 52, 3) := by decide +kernel
theorem dX9_automaton_220 : decode cX9_automaton 220 = .ok (.aload_n 0, 1) := by decide +kernel
theorem dX9_automaton_221 : decode cX9_automaton 221 = .ok (.getfield 258, 3) := by decide +kernel
theorem dX9_automaton_224 : decode cX9_automaton 224 = .ok (.iconst 0, 1) := by decide +kernel
theorem dX9_automaton_225 : decode cX9_automaton 225 = .ok (.iastore, 1) := by decide +kernel
theorem dX9_automaton_226 : decode cX9_automaton 226 = .ok (.aload_n 0, 1) := by decide +kernel
theorem dX9_automaton_227 : decode cX9_automaton 227 = .ok (.iconst 0, 1) := by decide +kernel
theorem dX9_automaton_228 : decode cX9_automaton 228 = .ok (.putfield 267, 3) := by decide +kernel
theorem dX9_automaton_231 : decode cX9_automaton 231 = .ok (.aload_n 0, 1) := by decide +kernel
theorem dX9_automaton_232 : decode cX9_automaton 232 = .ok (.invokevirtual 270, 3) := by decide +kernel
theorem dX9_automaton_235 : decode cX9_automaton 235 = .ok (.aload_n 0, 1) := by decide +kernel
theorem dX9_automaton_236 : decode cX9_automaton 236 = .ok (.getfield 46, 3) := by decide +kernel
theorem dX9_automaton_239 : decode cX9_automaton 239 = .ok (.aload_n 0, 1) := by decide +kernel
theorem dX9_automaton_240 : decode cX9_automaton 240 = .ok (.getfield 258, 3) := by decide +kernel
theorem dX9_automaton_243 : decode cX9_automaton 243 = .ok (.iaload, 1) := by decide +kernel
theorem dX9_automaton_244 : decode cX9_automaton 244 = .ok (.ireturn, 1) := by decide +kernel
abbrev vs_M_automaton : List Cond := .code yX9_automaton cX9_automaton 1 (some .int) :: VM
theorem g_M_automaton_M_next : GoodIn vs_M_automaton (wsV RX9 226 RX9 yX9_next vs_M_next) := gm_V vm_100 vm_101 vm_102 vm_12 vm_72
theorem g_M_automaton_M_isGood : GoodIn vs_M_automaton (wsV RX9 216 RX9 yX9_isGood vs_M_isGood) := gm_V vm_91 vm_92 vm_93 vm_12 vm_15
theorem g_M_automaton_M_another : GoodIn vs_M_automaton (wsV RX9 270 RX9 yX9_another vs_M_another) := gm_V vm_146 vm_147 vm_148 vm_12 vm_17
theorem g_M_automaton_M_fails : GoodIn vs_M_automaton (wsV RX9 210 RX9 yX9_fails vs_M_fails) := gm_V vm_55 vm_56 vm_57 vm_12 vm_39
theorem g_M_automaton_M_readLine_1 : GoodIn vs_M_automaton (wsV RX9 261 RX9 yX9_readLine vs_M_readLine_1) := gm_V vm_142 vm_143 vm_144 vm_12 vm_132
theorem g_M_automaton_M_isSign : GoodIn vs_M_automaton (wsV RX9 235 RX9 yX9_isSign vs_M_isSign) := gm_V vm_112 vm_113 vm_114 vm_12 vm_38
theorem g_M_automaton_M_readLine_0 : GoodIn vs_M_automaton (wsV RX9 261 RX9 yX9_readLine vs_M_readLine_0) := gm_V vm_142 vm_143 vm_144 vm_12 vm_132
set_option maxHeartbeats 4000000 in
set_option maxRecDepth 100000 in
theorem c_M_automaton (l : Launch) (dC : Nat → ClassId) (dI : Nat → Nat → Nat) (sz : Nat) (ad : Nat → Nat) (ck : Nat → ClassId) (x0 : Int32) (x16 : Nat) (x18 : Nat) (x19 : Nat) (x20 : Int32) (x21 : Nat) (x22 : Nat) (x23 : Int32) (x24 : Int32) (x25 : Int32) (x26 : Nat) (x27 : Int32) (x28 : Nat) (x29 : Nat) (x30 : Nat) (x33 : Nat) (x45 : Int32) (x46 : Nat) (x52 : Nat) (x53 : Nat) (x61 : Nat) (x62 : Nat) (x63 : Nat) (x65 : Nat) (x66 : Int32) (f1 : Nat → Int32) (f2 : Nat → Int32) (f3 : Nat → Int32) (q4 : Nat → Nat) (q5 : Nat → Nat) (q6 : Nat → Nat) (q7 : Nat → Nat) (f8 : Nat → Int32) (q9 : Nat → Nat) (q10 : Nat → Nat) (f11 : Nat → Int32) (m12_0 m12_1 : Nat) (m13_0 m13_1 : Nat) (m14_0 m14_1 : Nat) (m15_0 m15_1 : Nat) (f17 : Nat → Int32) (q31 : Nat → Nat) (f32 : Nat → Int32) (f34 : Nat → Int32) (f35 : Nat → Int32) (f36 : Nat → Int32) (f37 : Nat → Int32) (q38 : Nat → Nat) (f39 : Nat → Int32) (f40 : Nat → Int32) (f41 : Nat → Int32) (m42_0 m42_1 : Nat) (f43 : Nat → Int32) (f44 : Nat → Int32) (f47 : Nat → Int32) (f48 : Nat → Int32) (f49 : Nat → Int32) (f50 : Nat → Int32) (f51 : Nat → Int32) (q54 : Nat → Nat) (q55 : Nat → Nat) (q56 : Nat → Nat) (f57 : Nat → Int32) (q58 : Nat → Nat) (f59 : Nat → Int32) (f60 : Nat → Int32) (f64 : Nat → Int32) (hx16 : x16 ≤ 1) (hx18 : x18 ≤ 900) (hx19 : x19 ≤ 900) (hx21 : x21 ≤ 900) (hx22 : x22 ≤ 4) (hx26 : x26 ≤ 6) (hx28 : x28 ≤ 1) (hx29 : x29 ≤ 1) (hx30 : x30 ≤ 1) (hx33 : x33 ≤ 20) (hx46 : x46 ≤ 5) (hx52 : x52 ≤ 2400) (hx53 : x53 ≤ 119) (hx61 : x61 ≤ 119) (hx62 : x62 ≤ 2000) (hx63 : x63 ≤ 1) (hx65 : x65 ≤ 7) (hm12_0 : m12_0 ≤ 3) (hm12_1 : m12_1 ≤ 3) (hm13_0 : m13_0 ≤ 8) (hm13_1 : m13_1 ≤ 8) (hm14_0 : m14_0 ≤ 14) (hm14_1 : m14_1 ≤ 14) (hm15_0 : m15_0 ≤ 8) (hm15_1 : m15_1 ≤ 8) (hm42_0 : m42_0 ≤ 120) (hm42_1 : m42_1 ≤ 400) (hbg : (x16 = 0 ∧ (m13_0 = 0 ∨ 1 ≤ m15_0)) ∨ (x16 = 1 ∧ (m13_1 = 0 ∨ 1 ≤ m15_1))) : Met l yX9_automaton vs_M_automaton ({ frames := 7, cells := 0, slots := 0, locals := 154 }) (va_Pc [.ref (ad 0)] (pu_B (dC, dI) (mo_w ad ck x0 (nI x16) (nI x18) (nI x19) x20 (nI x21) (nI x22) x23 x24 x25 (nI x26) x27 (nI x28) (nI x29) (nI x30) (nI x33) x45 (nI x46) (nI x52) (nI x53) (nI x61) (nI x62) (nI x63) (nI x65) x66 f1 f2 f3 (bN 3 q4) (bN 7 q5) (bN 7 q6) (bN 4 q7) f8 (bN 2 q9) (bH q10) f11 (b2 m12_0 m12_1) (b2 m13_0 m13_1) (b2 m14_0 m14_1) (b2m m15_0 m15_1) f17 (bA 159 q31) f32 f34 f35 f36 f37 (bN 7 q38) f39 f40 f41 (b2 m42_0 m42_1) f43 f44 f47 f48 f49 f50 f51 (bN 13 q54) (bN 120 q55) (bN 120 q56) f57 (bN 120 q58) f59 f60 f64) (mo_t ck) sz)) (va_Qi (fun (r : Int32) (_ : Unit) => True) (fun _ t => ∃ (z1 : Nat → Int32) (z10 : Nat → Nat) (z11 : Nat → Int32) (z2 : Nat → Int32) (z3 : Nat → Int32) (z4 : Nat → Nat) (z5 : Nat → Nat) (z6 : Nat → Nat) (z7 : Nat → Nat) (z8 : Nat → Int32) (z9 : Nat → Nat) (z12_0 : Nat) (z12_1 : Nat) (z13_0 : Nat) (z13_1 : Nat) (z14_0 : Nat) (z14_1 : Nat) (z15_0 : Nat) (z15_1 : Nat) (z0 : Int32) (z16 : Nat) (z19 : Nat) (z20 : Int32) (z21 : Nat) (z22 : Nat) (z23 : Int32) (z24 : Int32) (z25 : Int32) (z26 : Nat) (z27 : Int32) (z28 : Nat) (z29 : Nat) (z30 : Nat) (z33 : Nat), pu_E (dC, dI) (mo_w ad ck z0 (nI z16) (nI 0) (nI z19) z20 (nI z21) (nI z22) z23 z24 z25 (nI z26) z27 (nI z28) (nI z29) (nI z30) (nI z33) x45 (nI x46) (nI x52) (nI x53) (nI x61) (nI x62) (nI x63) (nI x65) x66 z1 z2 z3 (bN 3 z4) (bN 7 z5) (bN 7 z6) (bN 4 z7) z8 (bN 2 z9) (bH z10) z11 (b2 z12_0 z12_1) (b2 z13_0 z13_1) (b2 z14_0 z14_1) (b2m z15_0 z15_1) f17 (bA 159 q31) f32 f34 f35 f36 f37 (bN 7 q38) f39 f40 f41 (b2 m42_0 m42_1) f43 f44 f47 f48 f49 f50 f51 (bN 13 q54) (bN 120 q55) (bN 120 q56) f57 (bN 120 q58) f59 f60 f64) (mo_t ck) (va_A ((mo_w ad ck x0 (nI x16) (nI x18) (nI x19) x20 (nI x21) (nI x22) x23 x24 x25 (nI x26) x27 (nI x28) (nI x29) (nI x30) (nI x33) x45 (nI x46) (nI x52) (nI x53) (nI x61) (nI x62) (nI x63) (nI x65) x66 f1 f2 f3 (bN 3 q4) (bN 7 q5) (bN 7 q6) (bN 4 q7) f8 (bN 2 q9) (bH q10) f11 (b2 m12_0 m12_1) (b2 m13_0 m13_1) (b2 m14_0 m14_1) (b2m m15_0 m15_1) f17 (bA 159 q31) f32 f34 f35 f36 f37 (bN 7 q38) f39 f40 f41 (b2 m42_0 m42_1) f43 f44 f47 f48 f49 f50 f51 (bN 13 q54) (bN 120 q55) (bN 120 q56) f57 (bN 120 q58) f59 f60 f64)) sz) t ∧ (z12_0 ≤ 3) ∧ (z12_1 ≤ 3) ∧ (z13_0 ≤ 8) ∧ (z13_1 ≤ 8) ∧ (z14_0 ≤ 14) ∧ (z14_1 ≤ 14) ∧ (z15_0 ≤ 8) ∧ (z15_1 ≤ 8) ∧ (z16 ≤ 1) ∧ (z19 ≤ 900) ∧ (z21 ≤ 900) ∧ (z22 ≤ 4) ∧ (z26 ≤ 6) ∧ (z28 ≤ 1) ∧ (z29 ≤ 1) ∧ (z30 ≤ 1) ∧ (z33 ≤ 20) ∧ ((z16 = 0 ∧ (z13_0 = 0 ∨ 1 ≤ z15_0)) ∨ (z16 = 1 ∧ (z13_1 = 0 ∨ 1 ≤ z15_1)))) (va_A ((mo_w ad ck x0 (nI x16) (nI x18) (nI x19) x20 (nI x21) (nI x22) x23 x24 x25 (nI x26) x27 (nI x28) (nI x29) (nI x30) (nI x33) x45 (nI x46) (nI x52) (nI x53) (nI x61) (nI x62) (nI x63) (nI x65) x66 f1 f2 f3 (bN 3 q4) (bN 7 q5) (bN 7 q6) (bN 4 q7) f8 (bN 2 q9) (bH q10) f11 (b2 m12_0 m12_1) (b2 m13_0 m13_1) (b2 m14_0 m14_1) (b2m m15_0 m15_1) f17 (bA 159 q31) f32 f34 f35 f36 f37 (bN 7 q38) f39 f40 f41 (b2 m42_0 m42_1) f43 f44 f47 f48 f49 f50 f51 (bN 13 q54) (bN 120 q55) (bN 120 q56) f57 (bN 120 q58) f59 f60 f64)) sz)) 0 0 (va_A ((mo_w ad ck x0 (nI x16) (nI x18) (nI x19) x20 (nI x21) (nI x22) x23 x24 x25 (nI x26) x27 (nI x28) (nI x29) (nI x30) (nI x33) x45 (nI x46) (nI x52) (nI x53) (nI x61) (nI x62) (nI x63) (nI x65) x66 f1 f2 f3 (bN 3 q4) (bN 7 q5) (bN 7 q6) (bN 4 q7) f8 (bN 2 q9) (bH q10) f11 (b2 m12_0 m12_1) (b2 m13_0 m13_1) (b2 m14_0 m14_1) (b2m m15_0 m15_1) f17 (bA 159 q31) f32 f34 f35 f36 f37 (bN 7 q38) f39 f40 f41 (b2 m42_0 m42_1) f43 f44 f47 f48 f49 f50 f51 (bN 13 q54) (bN 120 q55) (bN 120 q56) f57 (bN 120 q58) f59 f60 f64)) sz) := by
  refine Met.ofW (cc := cX9_automaton) (maxL := 1) (ret := (some .int)) (by decide) rfl ?_
  intro p e s m args below meth c s₁ B hml hv
  obtain ⟨rfl, rfl, hP, hK, hD0⟩ := hv
  have hx := B.exec
  have hb := B.bytes
  have hr := B.returns
  have hts := atoms_spec (ws := vs_M_automaton) B.pre
  have v_1 := hts (.fieldLink RX9 142 "ClockReachModel" "thrown" "I") (List.mem_cons_of_mem _ vm_24)
  have v_2 := hts (.fieldLink RX9 145 "ClockReachModel" "taped" "I") (List.mem_cons_of_mem _ vm_141)
  have v_3 := hts (.fieldLink RX9 156 "ClockReachModel" "size" "I") (List.mem_cons_of_mem _ vm_70)
  have v_4 := hts (.fieldLink RX9 159 "ClockReachModel" "behind" "I") (List.mem_cons_of_mem _ vm_73)
  have v_5 := hts (.fieldLink RX9 186 "ClockReachModel" "wrong" "I") (List.mem_cons_of_mem _ vm_16)
  have v_6 := hts (.fieldLink RX9 258 "ClockReachModel" "bank" "I") (List.mem_cons_of_mem _ vm_22)
  have v_7 := hts (.fieldLink RX9 203 "ClockReachModel" "rb" "I") (List.mem_cons_of_mem _ vm_82)
  have v_8 := hts (.fieldLink RX9 43 "ClockReachModel" "clockMany" "[I") (List.mem_cons_of_mem _ vm_21)
  have v_9 := hts (.fieldLink RX9 46 "ClockReachModel" "placeMany" "[I") (List.mem_cons_of_mem _ vm_85)
  have v_10 := hts (.fieldLink RX9 49 "ClockReachModel" "edgeMany" "[I") (List.mem_cons_of_mem _ vm_62)
  have v_11 := hts (.fieldLink RX9 52 "ClockReachModel" "begins" "[I") (List.mem_cons_of_mem _ vm_133)
  have v_21 := hts (.fieldLink RX9 172 "ClockReachModel" "token" "I") (List.mem_cons_of_mem _ vm_36)
  have v_34 := hts (.fieldLink RX9 264 "ClockReachModel" "faultKind" "I") (List.mem_cons_of_mem _ vm_26)
  have v_35 := hts (.fieldLink RX9 189 "ClockReachModel" "wrongAt" "I") (List.mem_cons_of_mem _ vm_41)
  have v_36 := hts (.fieldLink RX9 58 "ClockReachModel" "faultPlace" "I") (List.mem_cons_of_mem _ vm_25)
  have v_37 := hts (.fieldLink RX9 267 "ClockReachModel" "acts" "I") (List.mem_cons_of_mem _ vm_145)
  have hown : s.vm.findClass RX9 = some m.cls := findClass_of_methodNamed B.named
  have hlocks := B.notSynchronized
  have hiX9 : ∀ w ∈ wsX90, w ∈ vs_M_automaton := fun _ h => List.mem_cons_of_mem _ (List.mem_append_right _ h)
  have hD := hD0.self (sz := s.heap.size)
  generalize hAe : va_A ((mo_w ad ck x0 (nI x16) (nI x18) (nI x19) x20 (nI x21) (nI x22) x23 x24 x25 (nI x26) x27 (nI x28) (nI x29) (nI x30) (nI x33) x45 (nI x46) (nI x52) (nI x53) (nI x61) (nI x62) (nI x63) (nI x65) x66 f1 f2 f3 (bN 3 q4) (bN 7 q5) (bN 7 q6) (bN 4 q7) f8 (bN 2 q9) (bH q10) f11 (b2 m12_0 m12_1) (b2 m13_0 m13_1) (b2 m14_0 m14_1) (b2m m15_0 m15_1) f17 (bA 159 q31) f32 f34 f35 f36 f37 (bN 7 q38) f39 f40 f41 (b2 m42_0 m42_1) f43 f44 f47 f48 f49 f50 f51 (bN 13 q54) (bN 120 q55) (bN 120 q56) f57 (bN 120 q58) f59 f60 f64)) s.heap.size = A at hD ⊢
  have hA : ∀ q : Nat, s.heap.size ≤ q → A q := fun q h => by rw [← hAe]; exact Or.inr h
  have hS : va_S A s.heap s.heap [] := va_S.rf
  have hl := lv_entry ([.ref (ad 0)]) (n := 1) (Nat.le_of_ble_eq_true rfl)
  rw [lg_entry_eq]
  generalize (lg_sl ([.ref (ad 0)]) ++ List.replicate (1 - (lg_sl ([.ref (ad 0)])).length) Slot.unset).toArray = ls at hl ⊢
  have hl : lv_has ls 1 [(0, .ref (ad 0))] := hl
  rcases pu_01 hx16 with rfl | rfl
  · refine lv_aload_n hx hb dX9_automaton_0 rfl (lv_at hl 0 rfl) ?_
    refine lv_iconst (v := 0) hx hb dX9_automaton_1 (by decide) ?_
    refine va_put (D := (dC, dI)) (ci := 9) (v := .int 0) (ty := .int) (C := RX9) (T := TX9) (N := 67) hx hb hts hiX9 tyX9 tyX9_ok nmX9 hown hK hP hD hS 0 rfl rfl 0 (by decide) v_1 (fun _ h9 => h9) rfl (by decide +kernel) rfl rfl (Nat.le_of_ble_eq_true rfl) dX9_automaton_2 (fun H locs hP hD hS => ?_)
    have hP : va_P (dC, dI) vwCl (mo_w ad ck 0 0 (nI x18) (nI x19) x20 (nI x21) (nI x22) x23 x24 x25 (nI x26) x27 (nI x28) (nI x29) (nI x30) (nI x33) x45 (nI x46) (nI x52) (nI x53) (nI x61) (nI x62) (nI x63) (nI x65) x66 f1 f2 f3 (bN 3 q4) (bN 7 q5) (bN 7 q6) (bN 4 q7) f8 (bN 2 q9) (bH q10) f11 (b2 m12_0 m12_1) (b2 m13_0 m13_1) (b2 m14_0 m14_1) (b2m m15_0 m15_1) f17 (bA 159 q31) f32 f34 f35 f36 f37 (bN 7 q38) f39 f40 f41 (b2 m42_0 m42_1) f43 f44 f47 f48 f49 f50 f51 (bN 13 q54) (bN 120 q55) (bN 120 q56) f57 (bN 120 q58) f59 f60 f64) H := hP
    have hD : va_D A (mo_w ad ck 0 0 (nI x18) (nI x19) x20 (nI x21) (nI x22) x23 x24 x25 (nI x26) x27 (nI x28) (nI x29) (nI x30) (nI x33) x45 (nI x46) (nI x52) (nI x53) (nI x61) (nI x62) (nI x63) (nI x65) x66 f1 f2 f3 (bN 3 q4) (bN 7 q5) (bN 7 q6) (bN 4 q7) f8 (bN 2 q9) (bH q10) f11 (b2 m12_0 m12_1) (b2 m13_0 m13_1) (b2 m14_0 m14_1) (b2m m15_0 m15_1) f17 (bA 159 q31) f32 f34 f35 f36 f37 (bN 7 q38) f39 f40 f41 (b2 m42_0 m42_1) f43 f44 f47 f48 f49 f50 f51 (bN 13 q54) (bN 120 q55) (bN 120 q56) f57 (bN 120 q58) f59 f60 f64) := hD
    refine lv_aload_n hx hb dX9_automaton_5 rfl (lv_at hl 0 rfl) ?_
    refine lv_aload_n hx hb dX9_automaton_6 rfl (lv_at hl 0 rfl) ?_
    refine va_get (D := (dC, dI)) (ci := 9) (v := .int (nI x18)) (C := RX9) (T := TX9) (N := 67) hx hb hts hiX9 hown hK hP 0 rfl rfl 18 (by decide) v_2 (fun _ h9 => h9) rfl dX9_automaton_7 ?_
    refine va_put (D := (dC, dI)) (ci := 9) (v := .int (nI x18)) (ty := .int) (C := RX9) (T := TX9) (N := 67) hx hb hts hiX9 tyX9 tyX9_ok nmX9 hown hK hP hD hS 0 rfl rfl 19 (by decide) v_3 (fun _ h9 => h9) rfl (by decide +kernel) rfl rfl (Nat.le_of_ble_eq_true rfl) dX9_automaton_10 (fun H locs hP hD hS => ?_)
    have hP : va_P (dC, dI) vwCl (mo_w ad ck 0 0 (nI x18) (nI x18) x20 (nI x21) (nI x22) x23 x24 x25 (nI x26) x27 (nI x28) (nI x29) (nI x30) (nI x33) x45 (nI x46) (nI x52) (nI x53) (nI x61) (nI x62) (nI x63) (nI x65) x66 f1 f2 f3 (bN 3 q4) (bN 7 q5) (bN 7 q6) (bN 4 q7) f8 (bN 2 q9) (bH q10) f11 (b2 m12_0 m12_1) (b2 m13_0 m13_1) (b2 m14_0 m14_1) (b2m m15_0 m15_1) f17 (bA 159 q31) f32 f34 f35 f36 f37 (bN 7 q38) f39 f40 f41 (b2 m42_0 m42_1) f43 f44 f47 f48 f49 f50 f51 (bN 13 q54) (bN 120 q55) (bN 120 q56) f57 (bN 120 q58) f59 f60 f64) H := hP
    have hD : va_D A (mo_w ad ck 0 0 (nI x18) (nI x18) x20 (nI x21) (nI x22) x23 x24 x25 (nI x26) x27 (nI x28) (nI x29) (nI x30) (nI x33) x45 (nI x46) (nI x52) (nI x53) (nI x61) (nI x62) (nI x63) (nI x65) x66 f1 f2 f3 (bN 3 q4) (bN 7 q5) (bN 7 q6) (bN 4 q7) f8 (bN 2 q9) (bH q10) f11 (b2 m12_0 m12_1) (b2 m13_0 m13_1) (b2 m14_0 m14_1) (b2m m15_0 m15_1) f17 (bA 159 q31) f32 f34 f35 f36 f37 (bN 7 q38) f39 f40 f41 (b2 m42_0 m42_1) f43 f44 f47 f48 f49 f50 f51 (bN 13 q54) (bN 120 q55) (bN 120 q56) f57 (bN 120 q58) f59 f60 f64) := hD
    refine lv_aload_n hx hb dX9_automaton_13 rfl (lv_at hl 0 rfl) ?_
    refine lv_iconst (v := 0) hx hb dX9_automaton_14 (by decide) ?_
    refine va_put (D := (dC, dI)) (ci := 9) (v := .int 0) (ty := .int) (C := RX9) (T := TX9) (N := 67) hx hb hts hiX9 tyX9 tyX9_ok nmX9 hown hK hP hD hS 0 rfl rfl 18 (by decide) v_2 (fun _ h9 => h9) rfl (by decide +kernel) rfl rfl (Nat.le_of_ble_eq_true rfl) dX9_automaton_15 (fun H locs hP hD hS => ?_)
    have hP : va_P (dC, dI) vwCl (mo_w ad ck 0 0 0 (nI x18) x20 (nI x21) (nI x22) x23 x24 x25 (nI x26) x27 (nI x28) (nI x29) (nI x30) (nI x33) x45 (nI x46) (nI x52) (nI x53) (nI x61) (nI x62) (nI x63) (nI x65) x66 f1 f2 f3 (bN 3 q4) (bN 7 q5) (bN 7 q6) (bN 4 q7) f8 (bN 2 q9) (bH q10) f11 (b2 m12_0 m12_1) (b2 m13_0 m13_1) (b2 m14_0 m14_1) (b2m m15_0 m15_1) f17 (bA 159 q31) f32 f34 f35 f36 f37 (bN 7 q38) f39 f40 f41 (b2 m42_0 m42_1) f43 f44 f47 f48 f49 f50 f51 (bN 13 q54) (bN 120 q55) (bN 120 q56) f57 (bN 120 q58) f59 f60 f64) H := hP
    have hD : va_D A (mo_w ad ck 0 0 0 (nI x18) x20 (nI x21) (nI x22) x23 x24 x25 (nI x26) x27 (nI x28) (nI x29) (nI x30) (nI x33) x45 (nI x46) (nI x52) (nI x53) (nI x61) (nI x62) (nI x63) (nI x65) x66 f1 f2 f3 (bN 3 q4) (bN 7 q5) (bN 7 q6) (bN 4 q7) f8 (bN 2 q9) (bH q10) f11 (b2 m12_0 m12_1) (b2 m13_0 m13_1) (b2 m14_0 m14_1) (b2m m15_0 m15_1) f17 (bA 159 q31) f32 f34 f35 f36 f37 (bN 7 q38) f39 f40 f41 (b2 m42_0 m42_1) f43 f44 f47 f48 f49 f50 f51 (bN 13 q54) (bN 120 q55) (bN 120 q56) f57 (bN 120 q58) f59 f60 f64) := hD
    refine lv_aload_n hx hb dX9_automaton_18 rfl (lv_at hl 0 rfl) ?_
    refine lv_iconst (v := 0) hx hb dX9_automaton_19 (by decide) ?_
    refine va_put (D := (dC, dI)) (ci := 9) (v := .int 0) (ty := .int) (C := RX9) (T := TX9) (N := 67) hx hb hts hiX9 tyX9 tyX9_ok nmX9 hown hK hP hD hS 0 rfl rfl 21 (by decide) v_4 (fun _ h9 => h9) rfl (by decide +kernel) rfl rfl (Nat.le_of_ble_eq_true rfl) dX9_automaton_20 (fun H locs hP hD hS => ?_)
    have hP : va_P (dC, dI) vwCl (mo_w ad ck 0 0 0 (nI x18) x20 0 (nI x22) x23 x24 x25 (nI x26) x27 (nI x28) (nI x29) (nI x30) (nI x33) x45 (nI x46) (nI x52) (nI x53) (nI x61) (nI x62) (nI x63) (nI x65) x66 f1 f2 f3 (bN 3 q4) (bN 7 q5) (bN 7 q6) (bN 4 q7) f8 (bN 2 q9) (bH q10) f11 (b2 m12_0 m12_1) (b2 m13_0 m13_1) (b2 m14_0 m14_1) (b2m m15_0 m15_1) f17 (bA 159 q31) f32 f34 f35 f36 f37 (bN 7 q38) f39 f40 f41 (b2 m42_0 m42_1) f43 f44 f47 f48 f49 f50 f51 (bN 13 q54) (bN 120 q55) (bN 120 q56) f57 (bN 120 q58) f59 f60 f64) H := hP
    have hD : va_D A (mo_w ad ck 0 0 0 (nI x18) x20 0 (nI x22) x23 x24 x25 (nI x26) x27 (nI x28) (nI x29) (nI x30) (nI x33) x45 (nI x46) (nI x52) (nI x53) (nI x61) (nI x62) (nI x63) (nI x65) x66 f1 f2 f3 (bN 3 q4) (bN 7 q5) (bN 7 q6) (bN 4 q7) f8 (bN 2 q9) (bH q10) f11 (b2 m12_0 m12_1) (b2 m13_0 m13_1) (b2 m14_0 m14_1) (b2m m15_0 m15_1) f17 (bA 159 q31) f32 f34 f35 f36 f37 (bN 7 q38) f39 f40 f41 (b2 m42_0 m42_1) f43 f44 f47 f48 f49 f50 f51 (bN 13 q54) (bN 120 q55) (bN 120 q56) f57 (bN 120 q58) f59 f60 f64) := hD
    refine lv_aload_n hx hb dX9_automaton_23 rfl (lv_at hl 0 rfl) ?_
    refine lv_iconst (v := 0) hx hb dX9_automaton_24 (by decide) ?_
    refine va_put (D := (dC, dI)) (ci := 9) (v := .int 0) (ty := .int) (C := RX9) (T := TX9) (N := 67) hx hb hts hiX9 tyX9 tyX9_ok nmX9 hown hK hP hD hS 0 rfl rfl 26 (by decide) v_5 (fun _ h9 => h9) rfl (by decide +kernel) rfl rfl (Nat.le_of_ble_eq_true rfl) dX9_automaton_25 (fun H locs hP hD hS => ?_)
    have hP : va_P (dC, dI) vwCl (mo_w ad ck 0 0 0 (nI x18) x20 0 (nI x22) x23 x24 x25 0 x27 (nI x28) (nI x29) (nI x30) (nI x33) x45 (nI x46) (nI x52) (nI x53) (nI x61) (nI x62) (nI x63) (nI x65) x66 f1 f2 f3 (bN 3 q4) (bN 7 q5) (bN 7 q6) (bN 4 q7) f8 (bN 2 q9) (bH q10) f11 (b2 m12_0 m12_1) (b2 m13_0 m13_1) (b2 m14_0 m14_1) (b2m m15_0 m15_1) f17 (bA 159 q31) f32 f34 f35 f36 f37 (bN 7 q38) f39 f40 f41 (b2 m42_0 m42_1) f43 f44 f47 f48 f49 f50 f51 (bN 13 q54) (bN 120 q55) (bN 120 q56) f57 (bN 120 q58) f59 f60 f64) H := hP
    have hD : va_D A (mo_w ad ck 0 0 0 (nI x18) x20 0 (nI x22) x23 x24 x25 0 x27 (nI x28) (nI x29) (nI x30) (nI x33) x45 (nI x46) (nI x52) (nI x53) (nI x61) (nI x62) (nI x63) (nI x65) x66 f1 f2 f3 (bN 3 q4) (bN 7 q5) (bN 7 q6) (bN 4 q7) f8 (bN 2 q9) (bH q10) f11 (b2 m12_0 m12_1) (b2 m13_0 m13_1) (b2 m14_0 m14_1) (b2m m15_0 m15_1) f17 (bA 159 q31) f32 f34 f35 f36 f37 (bN 7 q38) f39 f40 f41 (b2 m42_0 m42_1) f43 f44 f47 f48 f49 f50 f51 (bN 13 q54) (bN 120 q55) (bN 120 q56) f57 (bN 120 q58) f59 f60 f64) := hD
    refine lv_aload_n hx hb dX9_automaton_28 rfl (lv_at hl 0 rfl) ?_
    refine lv_iconst (v := 1) hx hb dX9_automaton_29 (by decide) ?_
    refine lv_aload_n hx hb dX9_automaton_30 rfl (lv_at hl 0 rfl) ?_
    refine va_get (D := (dC, dI)) (ci := 9) (v := .int 0) (C := RX9) (T := TX9) (N := 67) hx hb hts hiX9 hown hK hP 0 rfl rfl 16 (by decide) v_6 (fun _ h9 => h9) rfl dX9_automaton_31 ?_
    refine lv_isub hx hb dX9_automaton_34 ?_
    refine lv_topi (fun y_1 ey_1 => ?_)
    obtain rfl : y_1 = 1 := ey_1.trans (by decide)
    refine va_put (D := (dC, dI)) (ci := 9) (v := .int 1) (ty := .int) (C := RX9) (T := TX9) (N := 67) hx hb hts hiX9 tyX9 tyX9_ok nmX9 hown hK hP hD hS 0 rfl rfl 28 (by decide) v_7 (fun _ h9 => h9) rfl (by decide +kernel) rfl rfl (Nat.le_of_ble_eq_true rfl) dX9_automaton_35 (fun H locs hP hD hS => ?_)
    have hP : va_P (dC, dI) vwCl (mo_w ad ck 0 0 0 (nI x18) x20 0 (nI x22) x23 x24 x25 0 x27 1 (nI x29) (nI x30) (nI x33) x45 (nI x46) (nI x52) (nI x53) (nI x61) (nI x62) (nI x63) (nI x65) x66 f1 f2 f3 (bN 3 q4) (bN 7 q5) (bN 7 q6) (bN 4 q7) f8 (bN 2 q9) (bH q10) f11 (b2 m12_0 m12_1) (b2 m13_0 m13_1) (b2 m14_0 m14_1) (b2m m15_0 m15_1) f17 (bA 159 q31) f32 f34 f35 f36 f37 (bN 7 q38) f39 f40 f41 (b2 m42_0 m42_1) f43 f44 f47 f48 f49 f50 f51 (bN 13 q54) (bN 120 q55) (bN 120 q56) f57 (bN 120 q58) f59 f60 f64) H := hP
    have hD : va_D A (mo_w ad ck 0 0 0 (nI x18) x20 0 (nI x22) x23 x24 x25 0 x27 1 (nI x29) (nI x30) (nI x33) x45 (nI x46) (nI x52) (nI x53) (nI x61) (nI x62) (nI x63) (nI x65) x66 f1 f2 f3 (bN 3 q4) (bN 7 q5) (bN 7 q6) (bN 4 q7) f8 (bN 2 q9) (bH q10) f11 (b2 m12_0 m12_1) (b2 m13_0 m13_1) (b2 m14_0 m14_1) (b2m m15_0 m15_1) f17 (bA 159 q31) f32 f34 f35 f36 f37 (bN 7 q38) f39 f40 f41 (b2 m42_0 m42_1) f43 f44 f47 f48 f49 f50 f51 (bN 13 q54) (bN 120 q55) (bN 120 q56) f57 (bN 120 q58) f59 f60 f64) := hD
    refine lv_aload_n hx hb dX9_automaton_38 rfl (lv_at hl 0 rfl) ?_
    refine va_get (D := (dC, dI)) (ci := 9) (v := .ref (ad 12)) (C := RX9) (T := TX9) (N := 67) hx hb hts hiX9 hown hK hP 0 rfl rfl 12 (by decide) v_8 (fun _ h9 => h9) rfl dX9_automaton_39 ?_
    refine lv_aload_n hx hb dX9_automaton_42 rfl (lv_at hl 0 rfl) ?_
    refine va_get (D := (dC, dI)) (ci := 9) (v := .int 1) (C := RX9) (T := TX9) (N := 67) hx hb hts hiX9 hown hK hP 0 rfl rfl 28 (by decide) v_7 (fun _ h9 => h9) rfl dX9_automaton_43 ?_
    refine lv_iconst (v := 0) hx hb dX9_automaton_46 (by decide) ?_
    refine va_iast hx hb hK hP hD hS 12 11 rfl rfl (vp_in_nI (n := 1) (Nat.le_of_ble_eq_true rfl) (Nat.le_of_ble_eq_true rfl)) dX9_automaton_47 (fun H locs hP hD hS => ?_)
    have hP : va_P (dC, dI) vwCl (mo_w ad ck 0 0 0 (nI x18) x20 0 (nI x22) x23 x24 x25 0 x27 1 (nI x29) (nI x30) (nI x33) x45 (nI x46) (nI x52) (nI x53) (nI x61) (nI x62) (nI x63) (nI x65) x66 f1 f2 f3 (bN 3 q4) (bN 7 q5) (bN 7 q6) (bN 4 q7) f8 (bN 2 q9) (bH q10) f11 (b2 m12_0 0) (b2 m13_0 m13_1) (b2 m14_0 m14_1) (b2m m15_0 m15_1) f17 (bA 159 q31) f32 f34 f35 f36 f37 (bN 7 q38) f39 f40 f41 (b2 m42_0 m42_1) f43 f44 f47 f48 f49 f50 f51 (bN 13 q54) (bN 120 q55) (bN 120 q56) f57 (bN 120 q58) f59 f60 f64) H := by rw [← b2_up1 (a := m12_0) (b := m12_1) (v := 0)]; exact hP
    have hD : va_D A (mo_w ad ck 0 0 0 (nI x18) x20 0 (nI x22) x23 x24 x25 0 x27 1 (nI x29) (nI x30) (nI x33) x45 (nI x46) (nI x52) (nI x53) (nI x61) (nI x62) (nI x63) (nI x65) x66 f1 f2 f3 (bN 3 q4) (bN 7 q5) (bN 7 q6) (bN 4 q7) f8 (bN 2 q9) (bH q10) f11 (b2 m12_0 0) (b2 m13_0 m13_1) (b2 m14_0 m14_1) (b2m m15_0 m15_1) f17 (bA 159 q31) f32 f34 f35 f36 f37 (bN 7 q38) f39 f40 f41 (b2 m42_0 m42_1) f43 f44 f47 f48 f49 f50 f51 (bN 13 q54) (bN 120 q55) (bN 120 q56) f57 (bN 120 q58) f59 f60 f64) := by rw [← b2_up1 (a := m12_0) (b := m12_1) (v := 0)]; exact hD
    refine lv_aload_n hx hb dX9_automaton_48 rfl (lv_at hl 0 rfl) ?_
    refine va_get (D := (dC, dI)) (ci := 9) (v := .ref (ad 13)) (C := RX9) (T := TX9) (N := 67) hx hb hts hiX9 hown hK hP 0 rfl rfl 13 (by decide) v_9 (fun _ h9 => h9) rfl dX9_automaton_49 ?_
    refine lv_aload_n hx hb dX9_automaton_52 rfl (lv_at hl 0 rfl) ?_
    refine va_get (D := (dC, dI)) (ci := 9) (v := .int 1) (C := RX9) (T := TX9) (N := 67) hx hb hts hiX9 hown hK hP 0 rfl rfl 28 (by decide) v_7 (fun _ h9 => h9) rfl dX9_automaton_53 ?_
    refine lv_iconst (v := 0) hx hb dX9_automaton_56 (by decide) ?_
    refine va_iast hx hb hK hP hD hS 13 12 rfl rfl (vp_in_nI (n := 1) (Nat.le_of_ble_eq_true rfl) (Nat.le_of_ble_eq_true rfl)) dX9_automaton_57 (fun H locs hP hD hS => ?_)
    have hP : va_P (dC, dI) vwCl (mo_w ad ck 0 0 0 (nI x18) x20 0 (nI x22) x23 x24 x25 0 x27 1 (nI x29) (nI x30) (nI x33) x45 (nI x46) (nI x52) (nI x53) (nI x61) (nI x62) (nI x63) (nI x65) x66 f1 f2 f3 (bN 3 q4) (bN 7 q5) (bN 7 q6) (bN 4 q7) f8 (bN 2 q9) (bH q10) f11 (b2 m12_0 0) (b2 m13_0 0) (b2 m14_0 m14_1) (b2m m15_0 m15_1) f17 (bA 159 q31) f32 f34 f35 f36 f37 (bN 7 q38) f39 f40 f41 (b2 m42_0 m42_1) f43 f44 f47 f48 f49 f50 f51 (bN 13 q54) (bN 120 q55) (bN 120 q56) f57 (bN 120 q58) f59 f60 f64) H := by rw [← b2_up1 (a := m13_0) (b := m13_1) (v := 0)]; exact hP
    have hD : va_D A (mo_w ad ck 0 0 0 (nI x18) x20 0 (nI x22) x23 x24 x25 0 x27 1 (nI x29) (nI x30) (nI x33) x45 (nI x46) (nI x52) (nI x53) (nI x61) (nI x62) (nI x63) (nI x65) x66 f1 f2 f3 (bN 3 q4) (bN 7 q5) (bN 7 q6) (bN 4 q7) f8 (bN 2 q9) (bH q10) f11 (b2 m12_0 0) (b2 m13_0 0) (b2 m14_0 m14_1) (b2m m15_0 m15_1) f17 (bA 159 q31) f32 f34 f35 f36 f37 (bN 7 q38) f39 f40 f41 (b2 m42_0 m42_1) f43 f44 f47 f48 f49 f50 f51 (bN 13 q54) (bN 120 q55) (bN 120 q56) f57 (bN 120 q58) f59 f60 f64) := by rw [← b2_up1 (a := m13_0) (b := m13_1) (v := 0)]; exact hD
    refine lv_aload_n hx hb dX9_automaton_58 rfl (lv_at hl 0 rfl) ?_
    refine va_get (D := (dC, dI)) (ci := 9) (v := .ref (ad 14)) (C := RX9) (T := TX9) (N := 67) hx hb hts hiX9 hown hK hP 0 rfl rfl 14 (by decide) v_10 (fun _ h9 => h9) rfl dX9_automaton_59 ?_
    refine lv_aload_n hx hb dX9_automaton_62 rfl (lv_at hl 0 rfl) ?_
    refine va_get (D := (dC, dI)) (ci := 9) (v := .int 1) (C := RX9) (T := TX9) (N := 67) hx hb hts hiX9 hown hK hP 0 rfl rfl 28 (by decide) v_7 (fun _ h9 => h9) rfl dX9_automaton_63 ?_
    refine lv_iconst (v := 0) hx hb dX9_automaton_66 (by decide) ?_
    refine va_iast hx hb hK hP hD hS 14 13 rfl rfl (vp_in_nI (n := 1) (Nat.le_of_ble_eq_true rfl) (Nat.le_of_ble_eq_true rfl)) dX9_automaton_67 (fun H locs hP hD hS => ?_)
    have hP : va_P (dC, dI) vwCl (mo_w ad ck 0 0 0 (nI x18) x20 0 (nI x22) x23 x24 x25 0 x27 1 (nI x29) (nI x30) (nI x33) x45 (nI x46) (nI x52) (nI x53) (nI x61) (nI x62) (nI x63) (nI x65) x66 f1 f2 f3 (bN 3 q4) (bN 7 q5) (bN 7 q6) (bN 4 q7) f8 (bN 2 q9) (bH q10) f11 (b2 m12_0 0) (b2 m13_0 0) (b2 m14_0 0) (b2m m15_0 m15_1) f17 (bA 159 q31) f32 f34 f35 f36 f37 (bN 7 q38) f39 f40 f41 (b2 m42_0 m42_1) f43 f44 f47 f48 f49 f50 f51 (bN 13 q54) (bN 120 q55) (bN 120 q56) f57 (bN 120 q58) f59 f60 f64) H := by rw [← b2_up1 (a := m14_0) (b := m14_1) (v := 0)]; exact hP
    have hD : va_D A (mo_w ad ck 0 0 0 (nI x18) x20 0 (nI x22) x23 x24 x25 0 x27 1 (nI x29) (nI x30) (nI x33) x45 (nI x46) (nI x52) (nI x53) (nI x61) (nI x62) (nI x63) (nI x65) x66 f1 f2 f3 (bN 3 q4) (bN 7 q5) (bN 7 q6) (bN 4 q7) f8 (bN 2 q9) (bH q10) f11 (b2 m12_0 0) (b2 m13_0 0) (b2 m14_0 0) (b2m m15_0 m15_1) f17 (bA 159 q31) f32 f34 f35 f36 f37 (bN 7 q38) f39 f40 f41 (b2 m42_0 m42_1) f43 f44 f47 f48 f49 f50 f51 (bN 13 q54) (bN 120 q55) (bN 120 q56) f57 (bN 120 q58) f59 f60 f64) := by rw [← b2_up1 (a := m14_0) (b := m14_1) (v := 0)]; exact hD
    refine lv_aload_n hx hb dX9_automaton_68 rfl (lv_at hl 0 rfl) ?_
    refine va_get (D := (dC, dI)) (ci := 9) (v := .ref (ad 15)) (C := RX9) (T := TX9) (N := 67) hx hb hts hiX9 hown hK hP 0 rfl rfl 15 (by decide) v_11 (fun _ h9 => h9) rfl dX9_automaton_69 ?_
    refine lv_aload_n hx hb dX9_automaton_72 rfl (lv_at hl 0 rfl) ?_
    refine va_get (D := (dC, dI)) (ci := 9) (v := .int 1) (C := RX9) (T := TX9) (N := 67) hx hb hts hiX9 hown hK hP 0 rfl rfl 28 (by decide) v_7 (fun _ h9 => h9) rfl dX9_automaton_73 ?_
    refine lv_iconst (v := (-1)) hx hb dX9_automaton_76 (by decide) ?_
    refine va_iast hx hb hK hP hD hS 15 14 rfl rfl (vp_in_nI (n := 1) (Nat.le_of_ble_eq_true rfl) (Nat.le_of_ble_eq_true rfl)) dX9_automaton_77 (fun H locs hP hD hS => ?_)
    have hP : va_P (dC, dI) vwCl (mo_w ad ck 0 0 0 (nI x18) x20 0 (nI x22) x23 x24 x25 0 x27 1 (nI x29) (nI x30) (nI x33) x45 (nI x46) (nI x52) (nI x53) (nI x61) (nI x62) (nI x63) (nI x65) x66 f1 f2 f3 (bN 3 q4) (bN 7 q5) (bN 7 q6) (bN 4 q7) f8 (bN 2 q9) (bH q10) f11 (b2 m12_0 0) (b2 m13_0 0) (b2 m14_0 0) (b2m m15_0 0) f17 (bA 159 q31) f32 f34 f35 f36 f37 (bN 7 q38) f39 f40 f41 (b2 m42_0 m42_1) f43 f44 f47 f48 f49 f50 f51 (bN 13 q54) (bN 120 q55) (bN 120 q56) f57 (bN 120 q58) f59 f60 f64) H := by rw [← b2m_n1 (a := m15_0) (b := m15_1)]; exact hP
    have hD : va_D A (mo_w ad ck 0 0 0 (nI x18) x20 0 (nI x22) x23 x24 x25 0 x27 1 (nI x29) (nI x30) (nI x33) x45 (nI x46) (nI x52) (nI x53) (nI x61) (nI x62) (nI x63) (nI x65) x66 f1 f2 f3 (bN 3 q4) (bN 7 q5) (bN 7 q6) (bN 4 q7) f8 (bN 2 q9) (bH q10) f11 (b2 m12_0 0) (b2 m13_0 0) (b2 m14_0 0) (b2m m15_0 0) f17 (bA 159 q31) f32 f34 f35 f36 f37 (bN 7 q38) f39 f40 f41 (b2 m42_0 m42_1) f43 f44 f47 f48 f49 f50 f51 (bN 13 q54) (bN 120 q55) (bN 120 q56) f57 (bN 120 q58) f59 f60 f64) := by rw [← b2m_n1 (a := m15_0) (b := m15_1)]; exact hD
    refine lv_aload_n hx hb dX9_automaton_78 rfl (lv_at hl 0 rfl) ?_
    have hFc := pu_free hD hS hA
    refine va_callv (va_runV (As := []) (rest := []) ⟨hx, hb, hml, hown, hts⟩ (c_M_next l dC dI _ ad ck 0 0 0 x18 x20 0 x22 x23 x24 x25 0 x27 1 x29 x30 x33 x45 x46 x52 x53 x61 x62 x63 x65 x66 f1 f2 f3 q4 q5 q6 q7 f8 q9 q10 f11 m12_0 0 m13_0 0 m14_0 0 m15_0 0 f17 q31 f32 f34 f35 f36 f37 q38 f39 f40 f41 m42_0 m42_1 f43 f44 f47 f48 f49 f50 f51 q54 q55 q56 f57 q58 f59 f60 f64 (Nat.le_of_ble_eq_true rfl) (Nat.le_of_ble_eq_true rfl) hx18 (Nat.le_of_ble_eq_true rfl) hx22 (Nat.le_of_ble_eq_true rfl) (Nat.le_of_ble_eq_true rfl) hx29 hx30 hx33 hx46 hx52 hx53 hx61 hx62 hx63 hx65 hm12_0 (Nat.le_of_ble_eq_true rfl) hm13_0 (Nat.le_of_ble_eq_true rfl) hm14_0 (Nat.le_of_ble_eq_true rfl) hm15_0 (Nat.le_of_ble_eq_true rfl) hm42_0 hm42_1) (cwV 0 hts g_M_automaton_M_next rfl rfl rfl (by decide +kernel) ⟨Nat.le_of_ble_eq_true rfl, Nat.le_of_ble_eq_true rfl⟩) ⟨pu_bl, va_recv hK hP (ci := 9) (q0 := 0) rfl rfl, pu_in hP hK hD⟩ rfl rfl hl.1 rfl (lv_room (Nat.le_of_ble_eq_true rfl)) dX9_automaton_79 ⟨Nat.le_of_ble_eq_true rfl, Nat.le_of_ble_eq_true rfl⟩) hS (fun q _ h => hFc q h) hFc (fun u t H1 locs ht hvm hw hB hz1 hk1 hS => ?_)
    obtain ⟨z20_3, z21_4, z22_5, z23_6, ⟨hP1, -, hD1⟩, hz21_4, hz22_5, xr_2_0, xr_2_1⟩ := hB
    rw [ht] at hP1
    have hP := hP1
    have hD := pu_all hFc hD1
    clear hP1 hD1 hFc
    clear hk1 hz1 ht hvm
    generalize H1 = H at hP hS ⊢
    refine pu_while (fun nn H locs ls => ∃ (g_32 : Nat → Int32) (g_33 : Nat → Nat) (g_34 : Nat → Int32) (g_35 : Nat → Int32) (g_36 : Nat → Int32) (g_37 : Nat → Nat) (g_38 : Nat → Nat) (g_39 : Nat → Nat) (g_40 : Nat → Nat) (g_41 : Nat → Int32) (g_42 : Nat → Nat) (g_43 : Nat) (g_44 : Nat) (g_45 : Nat) (g_46 : Nat) (g_47 : Nat) (g_48 : Nat) (g_49 : Nat) (g_50 : Nat) (g_51 : Int32) (g_52 : Nat) (g_53 : Nat) (g_54 : Int32) (g_55 : Nat) (g_56 : Int32), nn = mu g_52 g_53 ∧ g_43 ≤ 3 ∧ g_44 ≤ 3 ∧ g_45 ≤ 8 ∧ g_46 ≤ 8 ∧ g_47 ≤ 14 ∧ g_48 ≤ 14 ∧ g_49 ≤ 8 ∧ g_50 ≤ 8 ∧ g_52 ≤ 900 ∧ g_53 ≤ 4 ∧ g_55 ≤ 6 ∧ va_P (dC, dI) vwCl (mo_w ad ck 0 0 0 (nI x18) g_51 (nI g_52) (nI g_53) g_54 x24 x25 (nI g_55) g_56 1 (nI x29) (nI x30) (nI x33) x45 (nI x46) (nI x52) (nI x53) (nI x61) (nI x62) (nI x63) (nI x65) x66 g_32 g_35 g_36 (bN 3 g_37) (bN 7 g_38) (bN 7 g_39) (bN 4 g_40) g_41 (bN 2 g_42) (bH g_33) g_34 (b2 g_43 g_44) (b2 g_45 g_46) (b2 g_47 g_48) (b2m g_49 g_50) f17 (bA 159 q31) f32 f34 f35 f36 f37 (bN 7 q38) f39 f40 f41 (b2 m42_0 m42_1) f43 f44 f47 f48 f49 f50 f51 (bN 13 q54) (bN 120 q55) (bN 120 q56) f57 (bN 120 q58) f59 f60 f64) H ∧ va_D A (mo_w ad ck 0 0 0 (nI x18) g_51 (nI g_52) (nI g_53) g_54 x24 x25 (nI g_55) g_56 1 (nI x29) (nI x30) (nI x33) x45 (nI x46) (nI x52) (nI x53) (nI x61) (nI x62) (nI x63) (nI x65) x66 g_32 g_35 g_36 (bN 3 g_37) (bN 7 g_38) (bN 7 g_39) (bN 4 g_40) g_41 (bN 2 g_42) (bH g_33) g_34 (b2 g_43 g_44) (b2 g_45 g_46) (b2 g_47 g_48) (b2m g_49 g_50) f17 (bA 159 q31) f32 f34 f35 f36 f37 (bN 7 q38) f39 f40 f41 (b2 m42_0 m42_1) f43 f44 f47 f48 f49 f50 f51 (bN 13 q54) (bN 120 q55) (bN 120 q56) f57 (bN 120 q58) f59 f60 f64) ∧ va_S A s.heap H locs ∧ lv_has ls 1 [(0, .ref (ad 0))]) 82 ?_ _ _ _ _ ⟨f1, q10, f11, f2, f3, q4, q5, q6, q7, f8, q9, m12_0, 0, m13_0, 0, m14_0, 0, m15_0, 0, z20_3, z21_4, z22_5, z23_6, 0, x27, rfl, hm12_0, (Nat.le_of_ble_eq_true rfl), hm13_0, (Nat.le_of_ble_eq_true rfl), hm14_0, (Nat.le_of_ble_eq_true rfl), hm15_0, (Nat.le_of_ble_eq_true rfl), hz21_4, hz22_5, (Nat.le_of_ble_eq_true rfl), hP, hD, hS, lv_sub hl [0] rfl⟩
    rintro nn ih_57 H locs ls ⟨g_32, g_33, g_34, g_35, g_36, g_37, g_38, g_39, g_40, g_41, g_42, g_43, g_44, g_45, g_46, g_47, g_48, g_49, g_50, g_51, g_52, g_53, g_54, g_55, g_56, rfl, hg_43, hg_44, hg_45, hg_46, hg_47, hg_48, hg_49, hg_50, hg_52, hg_53, hg_55, hP, hD, hS, hl⟩
    refine lv_aload_n hx hb dX9_automaton_82 rfl (lv_at hl 0 rfl) ?_
    refine va_calli (va_runV (As := []) (rest := []) ⟨hx, hb, hml, hown, hts⟩ (c_M_isGood l dC dI _ ad ck 0 0 0 x18 g_51 g_52 g_53 g_54 x24 x25 g_55 g_56 1 x29 x30 x33 x45 x46 x52 x53 x61 x62 x63 x65 x66 g_32 g_35 g_36 g_37 g_38 g_39 g_40 g_41 g_42 g_33 g_34 g_43 g_44 g_45 g_46 g_47 g_48 g_49 g_50 f17 q31 f32 f34 f35 f36 f37 q38 f39 f40 f41 m42_0 m42_1 f43 f44 f47 f48 f49 f50 f51 q54 q55 q56 f57 q58 f59 f60 f64 (Nat.le_of_ble_eq_true rfl) (Nat.le_of_ble_eq_true rfl) hx18 hg_52 hg_53 hg_55 (Nat.le_of_ble_eq_true rfl) hx29 hx30 hx33 hx46 hx52 hx53 hx61 hx62 hx63 hx65 hg_43 hg_44 hg_45 hg_46 hg_47 hg_48 hg_49 hg_50 hm42_0 hm42_1) (cwV 0 hts g_M_automaton_M_isGood rfl rfl rfl (by decide +kernel) ⟨Nat.le_of_ble_eq_true rfl, Nat.le_of_ble_eq_true rfl⟩) ⟨pu_bl, va_recv hK hP (ci := 9) (q0 := 0) rfl rfl, pu_in hP hK hD⟩ rfl rfl hl.1 rfl (lv_room (Nat.le_of_ble_eq_true rfl)) dX9_automaton_83 ⟨Nat.le_of_ble_eq_true rfl, Nat.le_of_ble_eq_true rfl⟩) hS (fun q _ h => pu_fr hS hA q h) (pu_fr hS hA) (fun r_58 u t H1 locs ht hvm hw hB hz1 hk1 hS => ?_)
    have hP := pu_keep hP hk1
    clear hk1 hz1 ht hvm
    generalize H1 = H at hP hS ⊢
    obtain ⟨u_59, hu_59, rfl, iu_59⟩ := hw
    refine pu_join (fun H locs ls st => st = [] ∧ va_P (dC, dI) vwCl (mo_w ad ck 0 0 0 (nI x18) g_51 (nI g_52) (nI g_53) g_54 x24 x25 (nI g_55) g_56 1 (nI x29) (nI x30) (nI x33) x45 (nI x46) (nI x52) (nI x53) (nI x61) (nI x62) (nI x63) (nI x65) x66 g_32 g_35 g_36 (bN 3 g_37) (bN 7 g_38) (bN 7 g_39) (bN 4 g_40) g_41 (bN 2 g_42) (bH g_33) g_34 (b2 g_43 g_44) (b2 g_45 g_46) (b2 g_47 g_48) (b2m g_49 g_50) f17 (bA 159 q31) f32 f34 f35 f36 f37 (bN 7 q38) f39 f40 f41 (b2 m42_0 m42_1) f43 f44 f47 f48 f49 f50 f51 (bN 13 q54) (bN 120 q55) (bN 120 q56) f57 (bN 120 q58) f59 f60 f64) H ∧ va_D A (mo_w ad ck 0 0 0 (nI x18) g_51 (nI g_52) (nI g_53) g_54 x24 x25 (nI g_55) g_56 1 (nI x29) (nI x30) (nI x33) x45 (nI x46) (nI x52) (nI x53) (nI x61) (nI x62) (nI x63) (nI x65) x66 g_32 g_35 g_36 (bN 3 g_37) (bN 7 g_38) (bN 7 g_39) (bN 4 g_40) g_41 (bN 2 g_42) (bH g_33) g_34 (b2 g_43 g_44) (b2 g_45 g_46) (b2 g_47 g_48) (b2m g_49 g_50) f17 (bA 159 q31) f32 f34 f35 f36 f37 (bN 7 q38) f39 f40 f41 (b2 m42_0 m42_1) f43 f44 f47 f48 f49 f50 f51 (bN 13 q54) (bN 120 q55) (bN 120 q56) f57 (bN 120 q58) f59 f60 f64) ∧ va_S A s.heap H locs ∧ lv_has ls 1 [(0, .ref (ad 0))]) 135 ?_ (fun j_60 => ?_)
    · rintro H locs ls st ⟨rfl, hP, hD, hS, hl⟩
      refine lv_aload_n hx hb dX9_automaton_135 rfl (lv_at hl 0 rfl) ?_
      refine va_calli (va_runV (As := []) (rest := []) ⟨hx, hb, hml, hown, hts⟩ (c_M_isGood l dC dI _ ad ck 0 0 0 x18 g_51 g_52 g_53 g_54 x24 x25 g_55 g_56 1 x29 x30 x33 x45 x46 x52 x53 x61 x62 x63 x65 x66 g_32 g_35 g_36 g_37 g_38 g_39 g_40 g_41 g_42 g_33 g_34 g_43 g_44 g_45 g_46 g_47 g_48 g_49 g_50 f17 q31 f32 f34 f35 f36 f37 q38 f39 f40 f41 m42_0 m42_1 f43 f44 f47 f48 f49 f50 f51 q54 q55 q56 f57 q58 f59 f60 f64 (Nat.le_of_ble_eq_true rfl) (Nat.le_of_ble_eq_true rfl) hx18 hg_52 hg_53 hg_55 (Nat.le_of_ble_eq_true rfl) hx29 hx30 hx33 hx46 hx52 hx53 hx61 hx62 hx63 hx65 hg_43 hg_44 hg_45 hg_46 hg_47 hg_48 hg_49 hg_50 hm42_0 hm42_1) (cwV 0 hts g_M_automaton_M_isGood rfl rfl rfl (by decide +kernel) ⟨Nat.le_of_ble_eq_true rfl, Nat.le_of_ble_eq_true rfl⟩) ⟨pu_bl, va_recv hK hP (ci := 9) (q0 := 0) rfl rfl, pu_in hP hK hD⟩ rfl rfl hl.1 rfl (lv_room (Nat.le_of_ble_eq_true rfl)) dX9_automaton_136 ⟨Nat.le_of_ble_eq_true rfl, Nat.le_of_ble_eq_true rfl⟩) hS (fun q _ h => pu_fr hS hA q h) (pu_fr hS hA) (fun r_61 u t H1 locs ht hvm hw hB hz1 hk1 hS => ?_)
      have hP := pu_keep hP hk1
      clear hk1 hz1 ht hvm
      generalize H1 = H at hP hS ⊢
      obtain ⟨u_62, hu_62, rfl, iu_62⟩ := hw
      refine pu_join (fun H locs ls st => ∃ (g_63 : Nat) (g_64 : Int32), st = [] ∧ g_63 ≤ 6 ∧ va_P (dC, dI) vwCl (mo_w ad ck 0 0 0 (nI x18) g_51 (nI g_52) (nI g_53) g_54 x24 x25 (nI g_63) g_64 1 (nI x29) (nI x30) (nI x33) x45 (nI x46) (nI x52) (nI x53) (nI x61) (nI x62) (nI x63) (nI x65) x66 g_32 g_35 g_36 (bN 3 g_37) (bN 7 g_38) (bN 7 g_39) (bN 4 g_40) g_41 (bN 2 g_42) (bH g_33) g_34 (b2 g_43 g_44) (b2 g_45 g_46) (b2 g_47 g_48) (b2m g_49 g_50) f17 (bA 159 q31) f32 f34 f35 f36 f37 (bN 7 q38) f39 f40 f41 (b2 m42_0 m42_1) f43 f44 f47 f48 f49 f50 f51 (bN 13 q54) (bN 120 q55) (bN 120 q56) f57 (bN 120 q58) f59 f60 f64) H ∧ va_D A (mo_w ad ck 0 0 0 (nI x18) g_51 (nI g_52) (nI g_53) g_54 x24 x25 (nI g_63) g_64 1 (nI x29) (nI x30) (nI x33) x45 (nI x46) (nI x52) (nI x53) (nI x61) (nI x62) (nI x63) (nI x65) x66 g_32 g_35 g_36 (bN 3 g_37) (bN 7 g_38) (bN 7 g_39) (bN 4 g_40) g_41 (bN 2 g_42) (bH g_33) g_34 (b2 g_43 g_44) (b2 g_45 g_46) (b2 g_47 g_48) (b2m g_49 g_50) f17 (bA 159 q31) f32 f34 f35 f36 f37 (bN 7 q38) f39 f40 f41 (b2 m42_0 m42_1) f43 f44 f47 f48 f49 f50 f51 (bN 13 q54) (bN 120 q55) (bN 120 q56) f57 (bN 120 q58) f59 f60 f64) ∧ va_S A s.heap H locs ∧ lv_has ls 1 [(0, .ref (ad 0))]) 160 ?_ (fun j_65 => ?_)
      · rintro H locs ls st ⟨g_63, g_64, rfl, hg_63, hP, hD, hS, hl⟩
        refine lv_aload_n hx hb dX9_automaton_160 rfl (lv_at hl 0 rfl) ?_
        refine lv_aload_n hx hb dX9_automaton_161 rfl (lv_at hl 0 rfl) ?_
        refine va_get (D := (dC, dI)) (ci := 9) (v := .int (nI g_63)) (C := RX9) (T := TX9) (N := 67) hx hb hts hiX9 hown hK hP 0 rfl rfl 26 (by decide) v_5 (fun _ h9 => h9) rfl dX9_automaton_162 ?_
        refine va_put (D := (dC, dI)) (ci := 9) (v := .int (nI g_63)) (ty := .int) (C := RX9) (T := TX9) (N := 67) hx hb hts hiX9 tyX9 tyX9_ok nmX9 hown hK hP hD hS 0 rfl rfl 24 (by decide) v_34 (fun _ h9 => h9) rfl (by decide +kernel) rfl rfl (Nat.le_of_ble_eq_true rfl) dX9_automaton_165 (fun H locs hP hD hS => ?_)
        have hP : va_P (dC, dI) vwCl (mo_w ad ck 0 0 0 (nI x18) g_51 (nI g_52) (nI g_53) g_54 (nI g_63) x25 (nI g_63) g_64 1 (nI x29) (nI x30) (nI x33) x45 (nI x46) (nI x52) (nI x53) (nI x61) (nI x62) (nI x63) (nI x65) x66 g_32 g_35 g_36 (bN 3 g_37) (bN 7 g_38) (bN 7 g_39) (bN 4 g_40) g_41 (bN 2 g_42) (bH g_33) g_34 (b2 g_43 g_44) (b2 g_45 g_46) (b2 g_47 g_48) (b2m g_49 g_50) f17 (bA 159 q31) f32 f34 f35 f36 f37 (bN 7 q38) f39 f40 f41 (b2 m42_0 m42_1) f43 f44 f47 f48 f49 f50 f51 (bN 13 q54) (bN 120 q55) (bN 120 q56) f57 (bN 120 q58) f59 f60 f64) H := hP
        have hD : va_D A (mo_w ad ck 0 0 0 (nI x18) g_51 (nI g_52) (nI g_53) g_54 (nI g_63) x25 (nI g_63) g_64 1 (nI x29) (nI x30) (nI x33) x45 (nI x46) (nI x52) (nI x53) (nI x61) (nI x62) (nI x63) (nI x65) x66 g_32 g_35 g_36 (bN 3 g_37) (bN 7 g_38) (bN 7 g_39) (bN 4 g_40) g_41 (bN 2 g_42) (bH g_33) g_34 (b2 g_43 g_44) (b2 g_45 g_46) (b2 g_47 g_48) (b2m g_49 g_50) f17 (bA 159 q31) f32 f34 f35 f36 f37 (bN 7 q38) f39 f40 f41 (b2 m42_0 m42_1) f43 f44 f47 f48 f49 f50 f51 (bN 13 q54) (bN 120 q55) (bN 120 q56) f57 (bN 120 q58) f59 f60 f64) := hD
        refine lv_aload_n hx hb dX9_automaton_168 rfl (lv_at hl 0 rfl) ?_
        refine lv_aload_n hx hb dX9_automaton_169 rfl (lv_at hl 0 rfl) ?_
        refine va_get (D := (dC, dI)) (ci := 9) (v := .int (nI g_63)) (C := RX9) (T := TX9) (N := 67) hx hb hts hiX9 hown hK hP 0 rfl rfl 26 (by decide) v_5 (fun _ h9 => h9) rfl dX9_automaton_170 ?_
        refine pu_join (fun H locs ls st => ∃ (g_66 : Int32), st = [.int g_66, .ref (ad 0)] ∧ va_P (dC, dI) vwCl (mo_w ad ck 0 0 0 (nI x18) g_51 (nI g_52) (nI g_53) g_54 (nI g_63) x25 (nI g_63) g_64 1 (nI x29) (nI x30) (nI x33) x45 (nI x46) (nI x52) (nI x53) (nI x61) (nI x62) (nI x63) (nI x65) x66 g_32 g_35 g_36 (bN 3 g_37) (bN 7 g_38) (bN 7 g_39) (bN 4 g_40) g_41 (bN 2 g_42) (bH g_33) g_34 (b2 g_43 g_44) (b2 g_45 g_46) (b2 g_47 g_48) (b2m g_49 g_50) f17 (bA 159 q31) f32 f34 f35 f36 f37 (bN 7 q38) f39 f40 f41 (b2 m42_0 m42_1) f43 f44 f47 f48 f49 f50 f51 (bN 13 q54) (bN 120 q55) (bN 120 q56) f57 (bN 120 q58) f59 f60 f64) H ∧ va_D A (mo_w ad ck 0 0 0 (nI x18) g_51 (nI g_52) (nI g_53) g_54 (nI g_63) x25 (nI g_63) g_64 1 (nI x29) (nI x30) (nI x33) x45 (nI x46) (nI x52) (nI x53) (nI x61) (nI x62) (nI x63) (nI x65) x66 g_32 g_35 g_36 (bN 3 g_37) (bN 7 g_38) (bN 7 g_39) (bN 4 g_40) g_41 (bN 2 g_42) (bH g_33) g_34 (b2 g_43 g_44) (b2 g_45 g_46) (b2 g_47 g_48) (b2m g_49 g_50) f17 (bA 159 q31) f32 f34 f35 f36 f37 (bN 7 q38) f39 f40 f41 (b2 m42_0 m42_1) f43 f44 f47 f48 f49 f50 f51 (bN 13 q54) (bN 120 q55) (bN 120 q56) f57 (bN 120 q58) f59 f60 f64) ∧ va_S A s.heap H locs ∧ lv_has ls 1 [(0, .ref (ad 0))]) 184 ?_ (fun j_67 => ?_)
        · rintro H locs ls st ⟨g_66, rfl, hP, hD, hS, hl⟩
          refine va_put (D := (dC, dI)) (ci := 9) (v := .int g_66) (ty := .int) (C := RX9) (T := TX9) (N := 67) hx hb hts hiX9 tyX9 tyX9_ok nmX9 hown hK hP hD hS 0 rfl rfl 25 (by decide) v_36 (fun _ h9 => h9) rfl (by decide +kernel) rfl rfl (Nat.le_of_ble_eq_true rfl) dX9_automaton_184 (fun H locs hP hD hS => ?_)
          have hP : va_P (dC, dI) vwCl (mo_w ad ck 0 0 0 (nI x18) g_51 (nI g_52) (nI g_53) g_54 (nI g_63) g_66 (nI g_63) g_64 1 (nI x29) (nI x30) (nI x33) x45 (nI x46) (nI x52) (nI x53) (nI x61) (nI x62) (nI x63) (nI x65) x66 g_32 g_35 g_36 (bN 3 g_37) (bN 7 g_38) (bN 7 g_39) (bN 4 g_40) g_41 (bN 2 g_42) (bH g_33) g_34 (b2 g_43 g_44) (b2 g_45 g_46) (b2 g_47 g_48) (b2m g_49 g_50) f17 (bA 159 q31) f32 f34 f35 f36 f37 (bN 7 q38) f39 f40 f41 (b2 m42_0 m42_1) f43 f44 f47 f48 f49 f50 f51 (bN 13 q54) (bN 120 q55) (bN 120 q56) f57 (bN 120 q58) f59 f60 f64) H := hP
          have hD : va_D A (mo_w ad ck 0 0 0 (nI x18) g_51 (nI g_52) (nI g_53) g_54 (nI g_63) g_66 (nI g_63) g_64 1 (nI x29) (nI x30) (nI x33) x45 (nI x46) (nI x52) (nI x53) (nI x61) (nI x62) (nI x63) (nI x65) x66 g_32 g_35 g_36 (bN 3 g_37) (bN 7 g_38) (bN 7 g_39) (bN 4 g_40) g_41 (bN 2 g_42) (bH g_33) g_34 (b2 g_43 g_44) (b2 g_45 g_46) (b2 g_47 g_48) (b2m g_49 g_50) f17 (bA 159 q31) f32 f34 f35 f36 f37 (bN 7 q38) f39 f40 f41 (b2 m42_0 m42_1) f43 f44 f47 f48 f49 f50 f51 (bN 13 q54) (bN 120 q55) (bN 120 q56) f57 (bN 120 q58) f59 f60 f64) := hD
          refine lv_aload_n hx hb dX9_automaton_187 rfl (lv_at hl 0 rfl) ?_
          refine va_calli (va_runV (As := []) (rest := []) ⟨hx, hb, hml, hown, hts⟩ (c_M_isGood l dC dI _ ad ck 0 0 0 x18 g_51 g_52 g_53 g_54 (nI g_63) g_66 g_63 g_64 1 x29 x30 x33 x45 x46 x52 x53 x61 x62 x63 x65 x66 g_32 g_35 g_36 g_37 g_38 g_39 g_40 g_41 g_42 g_33 g_34 g_43 g_44 g_45 g_46 g_47 g_48 g_49 g_50 f17 q31 f32 f34 f35 f36 f37 q38 f39 f40 f41 m42_0 m42_1 f43 f44 f47 f48 f49 f50 f51 q54 q55 q56 f57 q58 f59 f60 f64 (Nat.le_of_ble_eq_true rfl) (Nat.le_of_ble_eq_true rfl) hx18 hg_52 hg_53 hg_63 (Nat.le_of_ble_eq_true rfl) hx29 hx30 hx33 hx46 hx52 hx53 hx61 hx62 hx63 hx65 hg_43 hg_44 hg_45 hg_46 hg_47 hg_48 hg_49 hg_50 hm42_0 hm42_1) (cwV 0 hts g_M_automaton_M_isGood rfl rfl rfl (by decide +kernel) ⟨Nat.le_of_ble_eq_true rfl, Nat.le_of_ble_eq_true rfl⟩) ⟨pu_bl, va_recv hK hP (ci := 9) (q0 := 0) rfl rfl, pu_in hP hK hD⟩ rfl rfl hl.1 rfl (lv_room (Nat.le_of_ble_eq_true rfl)) dX9_automaton_188 ⟨Nat.le_of_ble_eq_true rfl, Nat.le_of_ble_eq_true rfl⟩) hS (fun q _ h => pu_fr hS hA q h) (pu_fr hS hA) (fun r_68 u t H1 locs ht hvm hw hB hz1 hk1 hS => ?_)
          have hP := pu_keep hP hk1
          clear hk1 hz1 ht hvm
          generalize H1 = H at hP hS ⊢
          obtain ⟨u_69, hu_69, rfl, iu_69⟩ := hw
          refine lv_if_ne (tgt := 196) hx hb dX9_automaton_191 (by decide) (fun c_70 => ?_) (fun c_70 => ?_)
          · have c_70 : ¬ u_69 = 0 := fun z => c_70 ((nI_eq (a := u_69) (b := 0) (Nat.lt_of_le_of_lt hu_69 (Nat.le_of_ble_eq_true rfl)) (Nat.le_of_ble_eq_true rfl)).mpr z)
            refine lv_aload_n hx hb dX9_automaton_196 rfl (lv_at hl 0 rfl) ?_
            refine lv_aload_n hx hb dX9_automaton_197 rfl (lv_at hl 0 rfl) ?_
            refine va_get (D := (dC, dI)) (ci := 9) (v := .int 1) (C := RX9) (T := TX9) (N := 67) hx hb hts hiX9 hown hK hP 0 rfl rfl 28 (by decide) v_7 (fun _ h9 => h9) rfl dX9_automaton_198 ?_
            refine va_put (D := (dC, dI)) (ci := 9) (v := .int 1) (ty := .int) (C := RX9) (T := TX9) (N := 67) hx hb hts hiX9 tyX9 tyX9_ok nmX9 hown hK hP hD hS 0 rfl rfl 16 (by decide) v_6 (fun _ h9 => h9) rfl (by decide +kernel) rfl rfl (Nat.le_of_ble_eq_true rfl) dX9_automaton_201 (fun H locs hP hD hS => ?_)
            have hP : va_P (dC, dI) vwCl (mo_w ad ck 0 1 0 (nI x18) g_51 (nI g_52) (nI g_53) g_54 (nI g_63) g_66 (nI g_63) g_64 1 (nI x29) (nI x30) (nI x33) x45 (nI x46) (nI x52) (nI x53) (nI x61) (nI x62) (nI x63) (nI x65) x66 g_32 g_35 g_36 (bN 3 g_37) (bN 7 g_38) (bN 7 g_39) (bN 4 g_40) g_41 (bN 2 g_42) (bH g_33) g_34 (b2 g_43 g_44) (b2 g_45 g_46) (b2 g_47 g_48) (b2m g_49 g_50) f17 (bA 159 q31) f32 f34 f35 f36 f37 (bN 7 q38) f39 f40 f41 (b2 m42_0 m42_1) f43 f44 f47 f48 f49 f50 f51 (bN 13 q54) (bN 120 q55) (bN 120 q56) f57 (bN 120 q58) f59 f60 f64) H := hP
            have hD : va_D A (mo_w ad ck 0 1 0 (nI x18) g_51 (nI g_52) (nI g_53) g_54 (nI g_63) g_66 (nI g_63) g_64 1 (nI x29) (nI x30) (nI x33) x45 (nI x46) (nI x52) (nI x53) (nI x61) (nI x62) (nI x63) (nI x65) x66 g_32 g_35 g_36 (bN 3 g_37) (bN 7 g_38) (bN 7 g_39) (bN 4 g_40) g_41 (bN 2 g_42) (bH g_33) g_34 (b2 g_43 g_44) (b2 g_45 g_46) (b2 g_47 g_48) (b2m g_49 g_50) f17 (bA 159 q31) f32 f34 f35 f36 f37 (bN 7 q38) f39 f40 f41 (b2 m42_0 m42_1) f43 f44 f47 f48 f49 f50 f51 (bN 13 q54) (bN 120 q55) (bN 120 q56) f57 (bN 120 q58) f59 f60 f64) := hD
            refine lv_aload_n hx hb dX9_automaton_204 rfl (lv_at hl 0 rfl) ?_
            refine va_get (D := (dC, dI)) (ci := 9) (v := .ref (ad 15)) (C := RX9) (T := TX9) (N := 67) hx hb hts hiX9 hown hK hP 0 rfl rfl 15 (by decide) v_11 (fun _ h9 => h9) rfl dX9_automaton_205 ?_
            refine lv_aload_n hx hb dX9_automaton_208 rfl (lv_at hl 0 rfl) ?_
            refine va_get (D := (dC, dI)) (ci := 9) (v := .int 1) (C := RX9) (T := TX9) (N := 67) hx hb hts hiX9 hown hK hP 0 rfl rfl 16 (by decide) v_6 (fun _ h9 => h9) rfl dX9_automaton_209 ?_
            refine va_iald hx hb hK hP 15 14 rfl rfl (vp_in_nI (n := 1) (Nat.le_of_ble_eq_true rfl) (Nat.le_of_ble_eq_true rfl)) dX9_automaton_212 ?_
            refine lv_topi (fun y_71 ey_71 => ?_)
            have qy_71 := ey_71.trans b2m_1
            clear ey_71
            rcases mI_get g_50 with ⟨zy_71, wy_71⟩ | ⟨vy_71, zy_71, wy_71⟩
            · obtain rfl : y_71 = -1 := qy_71.trans wy_71
              refine lv_if_ge (tgt := 226) hx hb dX9_automaton_213 (by decide) (fun z => absurd z (by decide)) (fun _ => ?_)
              refine lv_aload_n hx hb dX9_automaton_216 rfl (lv_at hl 0 rfl) ?_
              refine va_get (D := (dC, dI)) (ci := 9) (v := .ref (ad 15)) (C := RX9) (T := TX9) (N := 67) hx hb hts hiX9 hown hK hP 0 rfl rfl 15 (by decide) v_11 (fun _ h9 => h9) rfl dX9_automaton_217 ?_
              refine lv_aload_n hx hb dX9_automaton_220 rfl (lv_at hl 0 rfl) ?_
              refine va_get (D := (dC, dI)) (ci := 9) (v := .int 1) (C := RX9) (T := TX9) (N := 67) hx hb hts hiX9 hown hK hP 0 rfl rfl 16 (by decide) v_6 (fun _ h9 => h9) rfl dX9_automaton_221 ?_
              refine lv_iconst (v := 0) hx hb dX9_automaton_224 (by decide) ?_
              refine va_iast hx hb hK hP hD hS 15 14 rfl rfl (vp_in_nI (n := 1) (Nat.le_of_ble_eq_true rfl) (Nat.le_of_ble_eq_true rfl)) dX9_automaton_225 (fun H locs hP hD hS => ?_)
              have hP : va_P (dC, dI) vwCl (mo_w ad ck 0 1 0 (nI x18) g_51 (nI g_52) (nI g_53) g_54 (nI g_63) g_66 (nI g_63) g_64 1 (nI x29) (nI x30) (nI x33) x45 (nI x46) (nI x52) (nI x53) (nI x61) (nI x62) (nI x63) (nI x65) x66 g_32 g_35 g_36 (bN 3 g_37) (bN 7 g_38) (bN 7 g_39) (bN 4 g_40) g_41 (bN 2 g_42) (bH g_33) g_34 (b2 g_43 g_44) (b2 g_45 g_46) (b2 g_47 g_48) (b2m g_49 (0 + 1)) f17 (bA 159 q31) f32 f34 f35 f36 f37 (bN 7 q38) f39 f40 f41 (b2 m42_0 m42_1) f43 f44 f47 f48 f49 f50 f51 (bN 13 q54) (bN 120 q55) (bN 120 q56) f57 (bN 120 q58) f59 f60 f64) H := by rw [← b2m_up1 (a := g_49) (b := g_50) (v := 0)]; exact hP
              have hD : va_D A (mo_w ad ck 0 1 0 (nI x18) g_51 (nI g_52) (nI g_53) g_54 (nI g_63) g_66 (nI g_63) g_64 1 (nI x29) (nI x30) (nI x33) x45 (nI x46) (nI x52) (nI x53) (nI x61) (nI x62) (nI x63) (nI x65) x66 g_32 g_35 g_36 (bN 3 g_37) (bN 7 g_38) (bN 7 g_39) (bN 4 g_40) g_41 (bN 2 g_42) (bH g_33) g_34 (b2 g_43 g_44) (b2 g_45 g_46) (b2 g_47 g_48) (b2m g_49 (0 + 1)) f17 (bA 159 q31) f32 f34 f35 f36 f37 (bN 7 q38) f39 f40 f41 (b2 m42_0 m42_1) f43 f44 f47 f48 f49 f50 f51 (bN 13 q54) (bN 120 q55) (bN 120 q56) f57 (bN 120 q58) f59 f60 f64) := by rw [← b2m_up1 (a := g_49) (b := g_50) (v := 0)]; exact hD
              refine lv_aload_n hx hb dX9_automaton_226 rfl (lv_at hl 0 rfl) ?_
              refine lv_iconst (v := 0) hx hb dX9_automaton_227 (by decide) ?_
              refine va_put (D := (dC, dI)) (ci := 9) (v := .int 0) (ty := .int) (C := RX9) (T := TX9) (N := 67) hx hb hts hiX9 tyX9 tyX9_ok nmX9 hown hK hP hD hS 0 rfl rfl 33 (by decide) v_37 (fun _ h9 => h9) rfl (by decide +kernel) rfl rfl (Nat.le_of_ble_eq_true rfl) dX9_automaton_228 (fun H locs hP hD hS => ?_)
              have hP : va_P (dC, dI) vwCl (mo_w ad ck 0 1 0 (nI x18) g_51 (nI g_52) (nI g_53) g_54 (nI g_63) g_66 (nI g_63) g_64 1 (nI x29) (nI x30) 0 x45 (nI x46) (nI x52) (nI x53) (nI x61) (nI x62) (nI x63) (nI x65) x66 g_32 g_35 g_36 (bN 3 g_37) (bN 7 g_38) (bN 7 g_39) (bN 4 g_40) g_41 (bN 2 g_42) (bH g_33) g_34 (b2 g_43 g_44) (b2 g_45 g_46) (b2 g_47 g_48) (b2m g_49 (0 + 1)) f17 (bA 159 q31) f32 f34 f35 f36 f37 (bN 7 q38) f39 f40 f41 (b2 m42_0 m42_1) f43 f44 f47 f48 f49 f50 f51 (bN 13 q54) (bN 120 q55) (bN 120 q56) f57 (bN 120 q58) f59 f60 f64) H := hP
              have hD : va_D A (mo_w ad ck 0 1 0 (nI x18) g_51 (nI g_52) (nI g_53) g_54 (nI g_63) g_66 (nI g_63) g_64 1 (nI x29) (nI x30) 0 x45 (nI x46) (nI x52) (nI x53) (nI x61) (nI x62) (nI x63) (nI x65) x66 g_32 g_35 g_36 (bN 3 g_37) (bN 7 g_38) (bN 7 g_39) (bN 4 g_40) g_41 (bN 2 g_42) (bH g_33) g_34 (b2 g_43 g_44) (b2 g_45 g_46) (b2 g_47 g_48) (b2m g_49 (0 + 1)) f17 (bA 159 q31) f32 f34 f35 f36 f37 (bN 7 q38) f39 f40 f41 (b2 m42_0 m42_1) f43 f44 f47 f48 f49 f50 f51 (bN 13 q54) (bN 120 q55) (bN 120 q56) f57 (bN 120 q58) f59 f60 f64) := hD
              refine lv_aload_n hx hb dX9_automaton_231 rfl (lv_at hl 0 rfl) ?_
              have hFc := pu_free hD hS hA
              refine va_callv (va_runV (As := []) (rest := []) ⟨hx, hb, hml, hown, hts⟩ (c_M_another l dC dI _ ad ck 0 1 0 x18 g_51 g_52 g_53 g_54 (nI g_63) g_66 g_63 g_64 1 x29 x30 0 x45 x46 x52 x53 x61 x62 x63 x65 x66 g_32 g_35 g_36 g_37 g_38 g_39 g_40 g_41 g_42 g_33 g_34 g_43 g_44 g_45 g_46 g_47 g_48 g_49 (0 + 1) f17 q31 f32 f34 f35 f36 f37 q38 f39 f40 f41 m42_0 m42_1 f43 f44 f47 f48 f49 f50 f51 q54 q55 q56 f57 q58 f59 f60 f64 (Nat.le_of_ble_eq_true rfl) (Nat.le_of_ble_eq_true rfl) hx18 hg_52 hg_53 hg_63 (Nat.le_of_ble_eq_true rfl) hx29 hx30 (Nat.le_of_ble_eq_true rfl) hx46 hx52 hx53 hx61 hx62 hx63 hx65 hg_43 hg_44 hg_45 hg_46 hg_47 hg_48 hg_49 (by omega) hm42_0 hm42_1) (cwV 0 hts g_M_automaton_M_another rfl rfl rfl (by decide +kernel) ⟨Nat.le_of_ble_eq_true rfl, Nat.le_of_ble_eq_true rfl⟩) ⟨pu_bl, va_recv hK hP (ci := 9) (q0 := 0) rfl rfl, pu_in hP hK hD⟩ rfl rfl hl.1 rfl (lv_room (Nat.le_of_ble_eq_true rfl)) dX9_automaton_232 ⟨Nat.le_of_ble_eq_true rfl, Nat.le_of_ble_eq_true rfl⟩) hS (fun q _ h => hFc q h) hFc (fun u t H1 locs ht hvm hw hB hz1 hk1 hS => ?_)
              obtain ⟨z29_73, z30_74, ⟨hP1, -, hD1⟩, hz29_73, hz30_74⟩ := hB
              rw [ht] at hP1
              have hP := hP1
              have hD := pu_all hFc hD1
              clear hP1 hD1 hFc
              clear hk1 hz1 ht hvm
              generalize H1 = H at hP hS ⊢
              refine lv_aload_n hx hb dX9_automaton_235 rfl (lv_at hl 0 rfl) ?_
              refine va_get (D := (dC, dI)) (ci := 9) (v := .ref (ad 13)) (C := RX9) (T := TX9) (N := 67) hx hb hts hiX9 hown hK hP 0 rfl rfl 13 (by decide) v_9 (fun _ h9 => h9) rfl dX9_automaton_236 ?_
              refine lv_aload_n hx hb dX9_automaton_239 rfl (lv_at hl 0 rfl) ?_
              refine va_get (D := (dC, dI)) (ci := 9) (v := .int 1) (C := RX9) (T := TX9) (N := 67) hx hb hts hiX9 hown hK hP 0 rfl rfl 16 (by decide) v_6 (fun _ h9 => h9) rfl dX9_automaton_240 ?_
              refine va_iald hx hb hK hP 13 12 rfl rfl (vp_in_nI (n := 1) (Nat.le_of_ble_eq_true rfl) (Nat.le_of_ble_eq_true rfl)) dX9_automaton_243 ?_
              refine lv_topi (fun y_75 ey_75 => ?_)
              have qy_75 := ey_75.trans b2_1
              clear ey_75
              obtain rfl : y_75 = nI g_46 := qy_75
              exact W.iret (v := (nI g_46)) hx hb hr (fun t ht hW => ⟨⟨(nI g_46), (), rfl, trivial, ⟨g_32, g_33, g_34, g_35, g_36, g_37, g_38, g_39, g_40, g_41, g_42, g_43, g_44, g_45, g_46, g_47, g_48, g_49, (0 + 1), 0, 1, x18, g_51, g_52, g_53, g_54, (nI g_63), g_66, g_63, g_64, 1, z29_73, z30_74, 0, ⟨by rw [ht]; exact hP, va_K.moved hW.alike hK, hD⟩, hg_43, hg_44, hg_45, hg_46, hg_47, hg_48, hg_49, (by omega), (Nat.le_of_ble_eq_true rfl), hx18, hg_52, hg_53, hg_63, (Nat.le_of_ble_eq_true rfl), hz29_73, hz30_74, (Nat.le_of_ble_eq_true rfl), by omega⟩⟩, hS.F ht⟩) hS.2.2 dX9_automaton_244
            · obtain rfl : y_71 = nI vy_71 := qy_71.trans wy_71
              refine lv_if_ge (tgt := 226) hx hb dX9_automaton_213 (by decide) (fun c_76 => ?_) (fun c_76 => ?_)
              · have c_76 : 0 ≤ vy_71 := (nI_leI (a := 0) (b := vy_71) (Nat.le_of_ble_eq_true rfl) (by omega)).mp c_76
                refine lv_aload_n hx hb dX9_automaton_226 rfl (lv_at hl 0 rfl) ?_
                refine lv_iconst (v := 0) hx hb dX9_automaton_227 (by decide) ?_
                refine va_put (D := (dC, dI)) (ci := 9) (v := .int 0) (ty := .int) (C := RX9) (T := TX9) (N := 67) hx hb hts hiX9 tyX9 tyX9_ok nmX9 hown hK hP hD hS 0 rfl rfl 33 (by decide) v_37 (fun _ h9 => h9) rfl (by decide +kernel) rfl rfl (Nat.le_of_ble_eq_true rfl) dX9_automaton_228 (fun H locs hP hD hS => ?_)
                have hP : va_P (dC, dI) vwCl (mo_w ad ck 0 1 0 (nI x18) g_51 (nI g_52) (nI g_53) g_54 (nI g_63) g_66 (nI g_63) g_64 1 (nI x29) (nI x30) 0 x45 (nI x46) (nI x52) (nI x53) (nI x61) (nI x62) (nI x63) (nI x65) x66 g_32 g_35 g_36 (bN 3 g_37) (bN 7 g_38) (bN 7 g_39) (bN 4 g_40) g_41 (bN 2 g_42) (bH g_33) g_34 (b2 g_43 g_44) (b2 g_45 g_46) (b2 g_47 g_48) (b2m g_49 g_50) f17 (bA 159 q31) f32 f34 f35 f36 f37 (bN 7 q38) f39 f40 f41 (b2 m42_0 m42_1) f43 f44 f47 f48 f49 f50 f51 (bN 13 q54) (bN 120 q55) (bN 120 q56) f57 (bN 120 q58) f59 f60 f64) H := hP
                have hD : va_D A (mo_w ad ck 0 1 0 (nI x18) g_51 (nI g_52) (nI g_53) g_54 (nI g_63) g_66 (nI g_63) g_64 1 (nI x29) (nI x30) 0 x45 (nI x46) (nI x52) (nI x53) (nI x61) (nI x62) (nI x63) (nI x65) x66 g_32 g_35 g_36 (bN 3 g_37) (bN 7 g_38) (bN 7 g_39) (bN 4 g_40) g_41 (bN 2 g_42) (bH g_33) g_34 (b2 g_43 g_44) (b2 g_45 g_46) (b2 g_47 g_48) (b2m g_49 g_50) f17 (bA 159 q31) f32 f34 f35 f36 f37 (bN 7 q38) f39 f40 f41 (b2 m42_0 m42_1) f43 f44 f47 f48 f49 f50 f51 (bN 13 q54) (bN 120 q55) (bN 120 q56) f57 (bN 120 q58) f59 f60 f64) := hD
                refine lv_aload_n hx hb dX9_automaton_231 rfl (lv_at hl 0 rfl) ?_
                have hFc := pu_free hD hS hA
                refine va_callv (va_runV (As := []) (rest := []) ⟨hx, hb, hml, hown, hts⟩ (c_M_another l dC dI _ ad ck 0 1 0 x18 g_51 g_52 g_53 g_54 (nI g_63) g_66 g_63 g_64 1 x29 x30 0 x45 x46 x52 x53 x61 x62 x63 x65 x66 g_32 g_35 g_36 g_37 g_38 g_39 g_40 g_41 g_42 g_33 g_34 g_43 g_44 g_45 g_46 g_47 g_48 g_49 g_50 f17 q31 f32 f34 f35 f36 f37 q38 f39 f40 f41 m42_0 m42_1 f43 f44 f47 f48 f49 f50 f51 q54 q55 q56 f57 q58 f59 f60 f64 (Nat.le_of_ble_eq_true rfl) (Nat.le_of_ble_eq_true rfl) hx18 hg_52 hg_53 hg_63 (Nat.le_of_ble_eq_true rfl) hx29 hx30 (Nat.le_of_ble_eq_true rfl) hx46 hx52 hx53 hx61 hx62 hx63 hx65 hg_43 hg_44 hg_45 hg_46 hg_47 hg_48 hg_49 hg_50 hm42_0 hm42_1) (cwV 0 hts g_M_automaton_M_another rfl rfl rfl (by decide +kernel) ⟨Nat.le_of_ble_eq_true rfl, Nat.le_of_ble_eq_true rfl⟩) ⟨pu_bl, va_recv hK hP (ci := 9) (q0 := 0) rfl rfl, pu_in hP hK hD⟩ rfl rfl hl.1 rfl (lv_room (Nat.le_of_ble_eq_true rfl)) dX9_automaton_232 ⟨Nat.le_of_ble_eq_true rfl, Nat.le_of_ble_eq_true rfl⟩) hS (fun q _ h => hFc q h) hFc (fun u t H1 locs ht hvm hw hB hz1 hk1 hS => ?_)
                obtain ⟨z29_78, z30_79, ⟨hP1, -, hD1⟩, hz29_78, hz30_79⟩ := hB
                rw [ht] at hP1
                have hP := hP1
                have hD := pu_all hFc hD1
                clear hP1 hD1 hFc
                clear hk1 hz1 ht hvm
                generalize H1 = H at hP hS ⊢
                refine lv_aload_n hx hb dX9_automaton_235 rfl (lv_at hl 0 rfl) ?_
                refine va_get (D := (dC, dI)) (ci := 9) (v := .ref (ad 13)) (C := RX9) (T := TX9) (N := 67) hx hb hts hiX9 hown hK hP 0 rfl rfl 13 (by decide) v_9 (fun _ h9 => h9) rfl dX9_automaton_236 ?_
                refine lv_aload_n hx hb dX9_automaton_239 rfl (lv_at hl 0 rfl) ?_
                refine va_get (D := (dC, dI)) (ci := 9) (v := .int 1) (C := RX9) (T := TX9) (N := 67) hx hb hts hiX9 hown hK hP 0 rfl rfl 16 (by decide) v_6 (fun _ h9 => h9) rfl dX9_automaton_240 ?_
                refine va_iald hx hb hK hP 13 12 rfl rfl (vp_in_nI (n := 1) (Nat.le_of_ble_eq_true rfl) (Nat.le_of_ble_eq_true rfl)) dX9_automaton_243 ?_
                refine lv_topi (fun y_80 ey_80 => ?_)
                have qy_80 := ey_80.trans b2_1
                clear ey_80
                obtain rfl : y_80 = nI g_46 := qy_80
                exact W.iret (v := (nI g_46)) hx hb hr (fun t ht hW => ⟨⟨(nI g_46), (), rfl, trivial, ⟨g_32, g_33, g_34, g_35, g_36, g_37, g_38, g_39, g_40, g_41, g_42, g_43, g_44, g_45, g_46, g_47, g_48, g_49, g_50, 0, 1, x18, g_51, g_52, g_53, g_54, (nI g_63), g_66, g_63, g_64, 1, z29_78, z30_79, 0, ⟨by rw [ht]; exact hP, va_K.moved hW.alike hK, hD⟩, hg_43, hg_44, hg_45, hg_46, hg_47, hg_48, hg_49, hg_50, (Nat.le_of_ble_eq_true rfl), hx18, hg_52, hg_53, hg_63, (Nat.le_of_ble_eq_true rfl), hz29_78, hz30_79, (Nat.le_of_ble_eq_true rfl), by omega⟩⟩, hS.F ht⟩) hS.2.2 dX9_automaton_244
              · have c_76 : ¬ 0 ≤ vy_71 := fun z => c_76 ((nI_leI (a := 0) (b := vy_71) (Nat.le_of_ble_eq_true rfl) (by omega)).mpr z)
                exfalso
                omega
          · have c_70 : u_69 = 0 := (nI_eq (a := u_69) (b := 0) (Nat.lt_of_le_of_lt hu_69 (Nat.le_of_ble_eq_true rfl)) (Nat.le_of_ble_eq_true rfl)).mp c_70
            refine lv_iconst (v := (-1)) hx hb dX9_automaton_194 (by decide) ?_
            exact W.iret (v := (-1)) hx hb hr (fun t ht hW => ⟨⟨(-1), (), rfl, trivial, ⟨g_32, g_33, g_34, g_35, g_36, g_37, g_38, g_39, g_40, g_41, g_42, g_43, g_44, g_45, g_46, g_47, g_48, g_49, g_50, 0, 0, x18, g_51, g_52, g_53, g_54, (nI g_63), g_66, g_63, g_64, 1, x29, x30, x33, ⟨by rw [ht]; exact hP, va_K.moved hW.alike hK, hD⟩, hg_43, hg_44, hg_45, hg_46, hg_47, hg_48, hg_49, hg_50, (Nat.le_of_ble_eq_true rfl), hx18, hg_52, hg_53, hg_63, (Nat.le_of_ble_eq_true rfl), hx29, hx30, hx33, by omega⟩⟩, hS.F ht⟩) hS.2.2 dX9_automaton_195
        refine lv_if_ne (tgt := 180) hx hb dX9_automaton_173 (by decide) (fun c_81 => ?_) (fun c_81 => ?_)
        · have c_81 : ¬ g_63 = 0 := fun z => c_81 ((nI_eq (a := g_63) (b := 0) (Nat.lt_of_le_of_lt hg_63 (Nat.le_of_ble_eq_true rfl)) (Nat.le_of_ble_eq_true rfl)).mpr z)
          refine lv_aload_n hx hb dX9_automaton_180 rfl (lv_at hl 0 rfl) ?_
          refine va_get (D := (dC, dI)) (ci := 9) (v := .int g_64) (C := RX9) (T := TX9) (N := 67) hx hb hts hiX9 hown hK hP 0 rfl rfl 27 (by decide) v_35 (fun _ h9 => h9) rfl dX9_automaton_181 ?_
          exact j_67 _ _ _ _ ⟨g_64, rfl, hP, hD, hS, lv_sub hl [0] rfl⟩
        · have c_81 : g_63 = 0 := (nI_eq (a := g_63) (b := 0) (Nat.lt_of_le_of_lt hg_63 (Nat.le_of_ble_eq_true rfl)) (Nat.le_of_ble_eq_true rfl)).mp c_81
          refine lv_iconst (v := (-1)) hx hb dX9_automaton_176 (by decide) ?_
          refine lv_goto (tgt := 184) hx hb dX9_automaton_177 (by decide) ?_
          exact j_67 _ _ _ _ ⟨(-1), rfl, hP, hD, hS, lv_sub hl [0] rfl⟩
      refine lv_if_eq (tgt := 160) hx hb dX9_automaton_139 (by decide) (fun c_82 => ?_) (fun c_82 => ?_)
      · have c_82 : u_62 = 0 := (nI_eq (a := u_62) (b := 0) (Nat.lt_of_le_of_lt hu_62 (Nat.le_of_ble_eq_true rfl)) (Nat.le_of_ble_eq_true rfl)).mp c_82
        exact j_65 _ _ _ _ ⟨g_55, g_56, rfl, hg_55, hP, hD, hS, lv_sub hl [0] rfl⟩
      · have c_82 : ¬ u_62 = 0 := fun z => c_82 ((nI_eq (a := u_62) (b := 0) (Nat.lt_of_le_of_lt hu_62 (Nat.le_of_ble_eq_true rfl)) (Nat.le_of_ble_eq_true rfl)).mpr z)
        refine lv_aload_n hx hb dX9_automaton_142 rfl (lv_at hl 0 rfl) ?_
        refine va_get (D := (dC, dI)) (ci := 9) (v := .ref (ad 13)) (C := RX9) (T := TX9) (N := 67) hx hb hts hiX9 hown hK hP 0 rfl rfl 13 (by decide) v_9 (fun _ h9 => h9) rfl dX9_automaton_143 ?_
        refine lv_aload_n hx hb dX9_automaton_146 rfl (lv_at hl 0 rfl) ?_
        refine va_get (D := (dC, dI)) (ci := 9) (v := .int 1) (C := RX9) (T := TX9) (N := 67) hx hb hts hiX9 hown hK hP 0 rfl rfl 28 (by decide) v_7 (fun _ h9 => h9) rfl dX9_automaton_147 ?_
        refine va_iald hx hb hK hP 13 12 rfl rfl (vp_in_nI (n := 1) (Nat.le_of_ble_eq_true rfl) (Nat.le_of_ble_eq_true rfl)) dX9_automaton_150 ?_
        refine lv_topi (fun y_83 ey_83 => ?_)
        have qy_83 := ey_83.trans b2_1
        clear ey_83
        obtain rfl : y_83 = nI g_46 := qy_83
        refine lv_if_ne (tgt := 160) hx hb dX9_automaton_151 (by decide) (fun c_84 => ?_) (fun c_84 => ?_)
        · have c_84 : ¬ g_46 = 0 := fun z => c_84 ((nI_eq (a := g_46) (b := 0) (Nat.lt_of_le_of_lt hg_46 (Nat.le_of_ble_eq_true rfl)) (Nat.le_of_ble_eq_true rfl)).mpr z)
          exact j_65 _ _ _ _ ⟨g_55, g_56, rfl, hg_55, hP, hD, hS, lv_sub hl [0] rfl⟩
        · have c_84 : g_46 = 0 := (nI_eq (a := g_46) (b := 0) (Nat.lt_of_le_of_lt hg_46 (Nat.le_of_ble_eq_true rfl)) (Nat.le_of_ble_eq_true rfl)).mp c_84
          refine lv_aload_n hx hb dX9_automaton_154 rfl (lv_at hl 0 rfl) ?_
          refine lv_bipush (v := 6) hx hb dX9_automaton_155 (by decide) ?_
          have hFc := pu_free hD hS hA
          refine va_callv (va_runV (As := [.int 6]) (rest := []) ⟨hx, hb, hml, hown, hts⟩ (c_M_fails l dC dI _ ad ck 0 0 0 x18 g_51 g_52 g_53 g_54 x24 x25 g_55 g_56 1 x29 x30 x33 x45 x46 x52 x53 x61 x62 x63 x65 x66 g_32 g_35 g_36 g_37 g_38 g_39 g_40 g_41 g_42 g_33 g_34 g_43 g_44 g_45 g_46 g_47 g_48 g_49 g_50 f17 q31 f32 f34 f35 f36 f37 q38 f39 f40 f41 m42_0 m42_1 f43 f44 f47 f48 f49 f50 f51 q54 q55 q56 f57 q58 f59 f60 f64 6 (Nat.le_of_ble_eq_true rfl) (Nat.le_of_ble_eq_true rfl) hx18 hg_52 hg_53 hg_55 (Nat.le_of_ble_eq_true rfl) hx29 hx30 hx33 hx46 hx52 hx53 hx61 hx62 hx63 hx65 hg_43 hg_44 hg_45 hg_46 hg_47 hg_48 hg_49 hg_50 hm42_0 hm42_1 (Nat.le_of_ble_eq_true rfl) (by omega)) (cwV 1 hts g_M_automaton_M_fails rfl rfl rfl (by decide +kernel) ⟨Nat.le_of_ble_eq_true rfl, Nat.le_of_ble_eq_true rfl⟩) ⟨pu_bl, va_recv hK hP (ci := 9) (q0 := 0) rfl rfl, pu_in hP hK hD⟩ rfl rfl hl.1 rfl (lv_room (Nat.le_of_ble_eq_true rfl)) dX9_automaton_157 ⟨Nat.le_of_ble_eq_true rfl, Nat.le_of_ble_eq_true rfl⟩) hS (fun q _ h => hFc q h) hFc (fun u t H1 locs ht hvm hw hB hz1 hk1 hS => ?_)
          obtain ⟨z26_86, z27_87, ⟨hP1, -, hD1⟩, hz26_86, xr_85_0⟩ := hB
          rw [ht] at hP1
          have hP := hP1
          have hD := pu_all hFc hD1
          clear hP1 hD1 hFc
          clear hk1 hz1 ht hvm
          generalize H1 = H at hP hS ⊢
          exact j_65 _ _ _ _ ⟨z26_86, z27_87, rfl, hz26_86, hP, hD, hS, lv_sub hl [0] rfl⟩
    refine lv_if_eq (tgt := 135) hx hb dX9_automaton_86 (by decide) (fun c_88 => ?_) (fun c_88 => ?_)
    · have c_88 : u_59 = 0 := (nI_eq (a := u_59) (b := 0) (Nat.lt_of_le_of_lt hu_59 (Nat.le_of_ble_eq_true rfl)) (Nat.le_of_ble_eq_true rfl)).mp c_88
      exact j_60 _ _ _ _ ⟨rfl, hP, hD, hS, lv_sub hl [0] rfl⟩
    · have c_88 : ¬ u_59 = 0 := fun z => c_88 ((nI_eq (a := u_59) (b := 0) (Nat.lt_of_le_of_lt hu_59 (Nat.le_of_ble_eq_true rfl)) (Nat.le_of_ble_eq_true rfl)).mpr z)
      refine lv_aload_n hx hb dX9_automaton_89 rfl (lv_at hl 0 rfl) ?_
      refine va_get (D := (dC, dI)) (ci := 9) (v := .int (nI g_53)) (C := RX9) (T := TX9) (N := 67) hx hb hts hiX9 hown hK hP 0 rfl rfl 22 (by decide) v_21 (fun _ h9 => h9) rfl dX9_automaton_90 ?_
      refine lv_if_eq (tgt := 135) hx hb dX9_automaton_93 (by decide) (fun c_89 => ?_) (fun c_89 => ?_)
      · have c_89 : g_53 = 0 := (nI_eq (a := g_53) (b := 0) (Nat.lt_of_le_of_lt hg_53 (Nat.le_of_ble_eq_true rfl)) (Nat.le_of_ble_eq_true rfl)).mp c_89
        exact j_60 _ _ _ _ ⟨rfl, hP, hD, hS, lv_sub hl [0] rfl⟩
      · have c_89 : ¬ g_53 = 0 := fun z => c_89 ((nI_eq (a := g_53) (b := 0) (Nat.lt_of_le_of_lt hg_53 (Nat.le_of_ble_eq_true rfl)) (Nat.le_of_ble_eq_true rfl)).mpr z)
        refine lv_aload_n hx hb dX9_automaton_96 rfl (lv_at hl 0 rfl) ?_
        have hFc := pu_free hD hS hA
        refine va_callv (va_runV (As := []) (rest := []) ⟨hx, hb, hml, hown, hts⟩ (c_M_readLine_1 l dC dI _ ad ck 0 0 0 x18 g_51 g_52 g_53 g_54 x24 x25 g_55 g_56 x29 x30 x33 x45 x46 x52 x53 x61 x62 x63 x65 x66 g_32 g_35 g_36 g_37 g_38 g_39 g_40 g_41 g_42 g_33 g_34 g_43 g_44 g_45 g_46 g_47 g_48 g_49 g_50 f17 q31 f32 f34 f35 f36 f37 q38 f39 f40 f41 m42_0 m42_1 f43 f44 f47 f48 f49 f50 f51 q54 q55 q56 f57 q58 f59 f60 f64 (Nat.le_of_ble_eq_true rfl) (Nat.le_of_ble_eq_true rfl) hx18 hg_52 hg_53 hg_55 hx29 hx30 hx33 hx46 hx52 hx53 hx61 hx62 hx63 hx65 hg_43 hg_44 hg_45 hg_46 hg_47 hg_48 hg_49 hg_50 hm42_0 hm42_1) (cwV 0 hts g_M_automaton_M_readLine_1 rfl rfl rfl (by decide +kernel) ⟨Nat.le_of_ble_eq_true rfl, Nat.le_of_ble_eq_true rfl⟩) ⟨pu_bl, va_recv hK hP (ci := 9) (q0 := 0) rfl rfl, pu_in hP hK hD⟩ rfl rfl hl.1 rfl (lv_room (Nat.le_of_ble_eq_true rfl)) dX9_automaton_97 ⟨Nat.le_of_ble_eq_true rfl, Nat.le_of_ble_eq_true rfl⟩) hS (fun q _ h => hFc q h) hFc (fun u t H1 locs ht hvm hw hB hz1 hk1 hS => ?_)
        obtain ⟨z1_91, z10_92, z11_93, z2_94, z3_95, z4_96, z5_97, z6_98, z7_99, z8_100, z9_101, z12_1_102, z13_1_103, z14_1_104, z15_1_105, z20_106, z21_107, z22_108, z23_109, z26_110, z27_111, ⟨hP1, -, hD1⟩, hz12_1_102, hz13_1_103, hz14_1_104, hz15_1_105, hz21_107, hz22_108, hz26_110, xr_90_0, xr_90_1⟩ := hB
        rw [ht] at hP1
        have hP := hP1
        have hD := pu_all hFc hD1
        clear hP1 hD1 hFc
        clear hk1 hz1 ht hvm
        generalize H1 = H at hP hS ⊢
        refine lv_aload_n hx hb dX9_automaton_100 rfl (lv_at hl 0 rfl) ?_
        refine va_calli (va_runV (As := []) (rest := []) ⟨hx, hb, hml, hown, hts⟩ (c_M_isGood l dC dI _ ad ck 0 0 0 x18 z20_106 z21_107 z22_108 z23_109 x24 x25 z26_110 z27_111 1 x29 x30 x33 x45 x46 x52 x53 x61 x62 x63 x65 x66 z1_91 z2_94 z3_95 z4_96 z5_97 z6_98 z7_99 z8_100 z9_101 z10_92 z11_93 g_43 z12_1_102 g_45 z13_1_103 g_47 z14_1_104 g_49 z15_1_105 f17 q31 f32 f34 f35 f36 f37 q38 f39 f40 f41 m42_0 m42_1 f43 f44 f47 f48 f49 f50 f51 q54 q55 q56 f57 q58 f59 f60 f64 (Nat.le_of_ble_eq_true rfl) (Nat.le_of_ble_eq_true rfl) hx18 hz21_107 hz22_108 hz26_110 (Nat.le_of_ble_eq_true rfl) hx29 hx30 hx33 hx46 hx52 hx53 hx61 hx62 hx63 hx65 hg_43 hz12_1_102 hg_45 hz13_1_103 hg_47 hz14_1_104 hg_49 hz15_1_105 hm42_0 hm42_1) (cwV 0 hts g_M_automaton_M_isGood rfl rfl rfl (by decide +kernel) ⟨Nat.le_of_ble_eq_true rfl, Nat.le_of_ble_eq_true rfl⟩) ⟨pu_bl, va_recv hK hP (ci := 9) (q0 := 0) rfl rfl, pu_in hP hK hD⟩ rfl rfl hl.1 rfl (lv_room (Nat.le_of_ble_eq_true rfl)) dX9_automaton_101 ⟨Nat.le_of_ble_eq_true rfl, Nat.le_of_ble_eq_true rfl⟩) hS (fun q _ h => pu_fr hS hA q h) (pu_fr hS hA) (fun r_112 u t H1 locs ht hvm hw hB hz1 hk1 hS => ?_)
        have hP := pu_keep hP hk1
        clear hk1 hz1 ht hvm
        generalize H1 = H at hP hS ⊢
        obtain ⟨u_113, hu_113, rfl, iu_113⟩ := hw
        refine pu_join (fun H locs ls st => ∃ (g_114 : Nat) (g_115 : Int32), st = [] ∧ g_114 ≤ 6 ∧ va_P (dC, dI) vwCl (mo_w ad ck 0 0 0 (nI x18) z20_106 (nI z21_107) (nI z22_108) z23_109 x24 x25 (nI g_114) g_115 1 (nI x29) (nI x30) (nI x33) x45 (nI x46) (nI x52) (nI x53) (nI x61) (nI x62) (nI x63) (nI x65) x66 z1_91 z2_94 z3_95 (bN 3 z4_96) (bN 7 z5_97) (bN 7 z6_98) (bN 4 z7_99) z8_100 (bN 2 z9_101) (bH z10_92) z11_93 (b2 g_43 z12_1_102) (b2 g_45 z13_1_103) (b2 g_47 z14_1_104) (b2m g_49 z15_1_105) f17 (bA 159 q31) f32 f34 f35 f36 f37 (bN 7 q38) f39 f40 f41 (b2 m42_0 m42_1) f43 f44 f47 f48 f49 f50 f51 (bN 13 q54) (bN 120 q55) (bN 120 q56) f57 (bN 120 q58) f59 f60 f64) H ∧ va_D A (mo_w ad ck 0 0 0 (nI x18) z20_106 (nI z21_107) (nI z22_108) z23_109 x24 x25 (nI g_114) g_115 1 (nI x29) (nI x30) (nI x33) x45 (nI x46) (nI x52) (nI x53) (nI x61) (nI x62) (nI x63) (nI x65) x66 z1_91 z2_94 z3_95 (bN 3 z4_96) (bN 7 z5_97) (bN 7 z6_98) (bN 4 z7_99) z8_100 (bN 2 z9_101) (bH z10_92) z11_93 (b2 g_43 z12_1_102) (b2 g_45 z13_1_103) (b2 g_47 z14_1_104) (b2m g_49 z15_1_105) f17 (bA 159 q31) f32 f34 f35 f36 f37 (bN 7 q38) f39 f40 f41 (b2 m42_0 m42_1) f43 f44 f47 f48 f49 f50 f51 (bN 13 q54) (bN 120 q55) (bN 120 q56) f57 (bN 120 q58) f59 f60 f64) ∧ va_S A s.heap H locs ∧ lv_has ls 1 [(0, .ref (ad 0))]) 121 ?_ (fun j_116 => ?_)
        · rintro H locs ls st ⟨g_114, g_115, rfl, hg_114, hP, hD, hS, hl⟩
          refine lv_aload_n hx hb dX9_automaton_121 rfl (lv_at hl 0 rfl) ?_
          refine va_calli (va_runV (As := []) (rest := []) ⟨hx, hb, hml, hown, hts⟩ (c_M_isGood l dC dI _ ad ck 0 0 0 x18 z20_106 z21_107 z22_108 z23_109 x24 x25 g_114 g_115 1 x29 x30 x33 x45 x46 x52 x53 x61 x62 x63 x65 x66 z1_91 z2_94 z3_95 z4_96 z5_97 z6_98 z7_99 z8_100 z9_101 z10_92 z11_93 g_43 z12_1_102 g_45 z13_1_103 g_47 z14_1_104 g_49 z15_1_105 f17 q31 f32 f34 f35 f36 f37 q38 f39 f40 f41 m42_0 m42_1 f43 f44 f47 f48 f49 f50 f51 q54 q55 q56 f57 q58 f59 f60 f64 (Nat.le_of_ble_eq_true rfl) (Nat.le_of_ble_eq_true rfl) hx18 hz21_107 hz22_108 hg_114 (Nat.le_of_ble_eq_true rfl) hx29 hx30 hx33 hx46 hx52 hx53 hx61 hx62 hx63 hx65 hg_43 hz12_1_102 hg_45 hz13_1_103 hg_47 hz14_1_104 hg_49 hz15_1_105 hm42_0 hm42_1) (cwV 0 hts g_M_automaton_M_isGood rfl rfl rfl (by decide +kernel) ⟨Nat.le_of_ble_eq_true rfl, Nat.le_of_ble_eq_true rfl⟩) ⟨pu_bl, va_recv hK hP (ci := 9) (q0 := 0) rfl rfl, pu_in hP hK hD⟩ rfl rfl hl.1 rfl (lv_room (Nat.le_of_ble_eq_true rfl)) dX9_automaton_122 ⟨Nat.le_of_ble_eq_true rfl, Nat.le_of_ble_eq_true rfl⟩) hS (fun q _ h => pu_fr hS hA q h) (pu_fr hS hA) (fun r_117 u t H1 locs ht hvm hw hB hz1 hk1 hS => ?_)
          have hP := pu_keep hP hk1
          clear hk1 hz1 ht hvm
          generalize H1 = H at hP hS ⊢
          obtain ⟨u_118, hu_118, rfl, iu_118⟩ := hw
          refine lv_if_eq (tgt := 82) hx hb dX9_automaton_125 (by decide) (fun c_119 => ?_) (fun c_119 => ?_)
          · have c_119 : u_118 = 0 := (nI_eq (a := u_118) (b := 0) (Nat.lt_of_le_of_lt hu_118 (Nat.le_of_ble_eq_true rfl)) (Nat.le_of_ble_eq_true rfl)).mp c_119
            exact ih_57 (mu z21_107 z22_108) (by omega) _ _ _ ⟨z1_91, z10_92, z11_93, z2_94, z3_95, z4_96, z5_97, z6_98, z7_99, z8_100, z9_101, g_43, z12_1_102, g_45, z13_1_103, g_47, z14_1_104, g_49, z15_1_105, z20_106, z21_107, z22_108, z23_109, g_114, g_115, rfl, hg_43, hz12_1_102, hg_45, hz13_1_103, hg_47, hz14_1_104, hg_49, hz15_1_105, hz21_107, hz22_108, hg_114, hP, hD, hS, lv_sub hl [0] rfl⟩
          · have c_119 : ¬ u_118 = 0 := fun z => c_119 ((nI_eq (a := u_118) (b := 0) (Nat.lt_of_le_of_lt hu_118 (Nat.le_of_ble_eq_true rfl)) (Nat.le_of_ble_eq_true rfl)).mpr z)
            refine lv_aload_n hx hb dX9_automaton_128 rfl (lv_at hl 0 rfl) ?_
            have hFc := pu_free hD hS hA
            refine va_callv (va_runV (As := []) (rest := []) ⟨hx, hb, hml, hown, hts⟩ (c_M_next l dC dI _ ad ck 0 0 0 x18 z20_106 z21_107 z22_108 z23_109 x24 x25 g_114 g_115 1 x29 x30 x33 x45 x46 x52 x53 x61 x62 x63 x65 x66 z1_91 z2_94 z3_95 z4_96 z5_97 z6_98 z7_99 z8_100 z9_101 z10_92 z11_93 g_43 z12_1_102 g_45 z13_1_103 g_47 z14_1_104 g_49 z15_1_105 f17 q31 f32 f34 f35 f36 f37 q38 f39 f40 f41 m42_0 m42_1 f43 f44 f47 f48 f49 f50 f51 q54 q55 q56 f57 q58 f59 f60 f64 (Nat.le_of_ble_eq_true rfl) (Nat.le_of_ble_eq_true rfl) hx18 hz21_107 hz22_108 hg_114 (Nat.le_of_ble_eq_true rfl) hx29 hx30 hx33 hx46 hx52 hx53 hx61 hx62 hx63 hx65 hg_43 hz12_1_102 hg_45 hz13_1_103 hg_47 hz14_1_104 hg_49 hz15_1_105 hm42_0 hm42_1) (cwV 0 hts g_M_automaton_M_next rfl rfl rfl (by decide +kernel) ⟨Nat.le_of_ble_eq_true rfl, Nat.le_of_ble_eq_true rfl⟩) ⟨pu_bl, va_recv hK hP (ci := 9) (q0 := 0) rfl rfl, pu_in hP hK hD⟩ rfl rfl hl.1 rfl (lv_room (Nat.le_of_ble_eq_true rfl)) dX9_automaton_129 ⟨Nat.le_of_ble_eq_true rfl, Nat.le_of_ble_eq_true rfl⟩) hS (fun q _ h => hFc q h) hFc (fun u t H1 locs ht hvm hw hB hz1 hk1 hS => ?_)
            obtain ⟨z20_121, z21_122, z22_123, z23_124, ⟨hP1, -, hD1⟩, hz21_122, hz22_123, xr_120_0, xr_120_1⟩ := hB
            rw [ht] at hP1
            have hP := hP1
            have hD := pu_all hFc hD1
            clear hP1 hD1 hFc
            clear hk1 hz1 ht hvm
            generalize H1 = H at hP hS ⊢
            refine lv_goto (tgt := 82) hx hb dX9_automaton_132 (by decide) ?_
            exact ih_57 (mu z21_122 z22_123) (by omega) _ _ _ ⟨z1_91, z10_92, z11_93, z2_94, z3_95, z4_96, z5_97, z6_98, z7_99, z8_100, z9_101, g_43, z12_1_102, g_45, z13_1_103, g_47, z14_1_104, g_49, z15_1_105, z20_121, z21_122, z22_123, z23_124, g_114, g_115, rfl, hg_43, hz12_1_102, hg_45, hz13_1_103, hg_47, hz14_1_104, hg_49, hz15_1_105, hz21_122, hz22_123, hg_114, hP, hD, hS, lv_sub hl [0] rfl⟩
        refine lv_if_eq (tgt := 121) hx hb dX9_automaton_104 (by decide) (fun c_125 => ?_) (fun c_125 => ?_)
        · have c_125 : u_113 = 0 := (nI_eq (a := u_113) (b := 0) (Nat.lt_of_le_of_lt hu_113 (Nat.le_of_ble_eq_true rfl)) (Nat.le_of_ble_eq_true rfl)).mp c_125
          exact j_116 _ _ _ _ ⟨z26_110, z27_111, rfl, hz26_110, hP, hD, hS, lv_sub hl [0] rfl⟩
        · have c_125 : ¬ u_113 = 0 := fun z => c_125 ((nI_eq (a := u_113) (b := 0) (Nat.lt_of_le_of_lt hu_113 (Nat.le_of_ble_eq_true rfl)) (Nat.le_of_ble_eq_true rfl)).mpr z)
          refine lv_aload_n hx hb dX9_automaton_107 rfl (lv_at hl 0 rfl) ?_
          refine lv_bipush (v := 59) hx hb dX9_automaton_108 (by decide) ?_
          refine va_calli (va_runV (As := [.int 59]) (rest := []) ⟨hx, hb, hml, hown, hts⟩ (c_M_isSign l dC dI _ ad ck 0 0 0 x18 z20_106 z21_107 z22_108 z23_109 x24 x25 z26_110 z27_111 1 x29 x30 x33 x45 x46 x52 x53 x61 x62 x63 x65 x66 z1_91 z2_94 z3_95 z4_96 z5_97 z6_98 z7_99 z8_100 z9_101 z10_92 z11_93 g_43 z12_1_102 g_45 z13_1_103 g_47 z14_1_104 g_49 z15_1_105 f17 q31 f32 f34 f35 f36 f37 q38 f39 f40 f41 m42_0 m42_1 f43 f44 f47 f48 f49 f50 f51 q54 q55 q56 f57 q58 f59 f60 f64 59 (Nat.le_of_ble_eq_true rfl) (Nat.le_of_ble_eq_true rfl) hx18 hz21_107 hz22_108 hz26_110 (Nat.le_of_ble_eq_true rfl) hx29 hx30 hx33 hx46 hx52 hx53 hx61 hx62 hx63 hx65 hg_43 hz12_1_102 hg_45 hz13_1_103 hg_47 hz14_1_104 hg_49 hz15_1_105 hm42_0 hm42_1) (cwV 1 hts g_M_automaton_M_isSign rfl rfl rfl (by decide +kernel) ⟨Nat.le_of_ble_eq_true rfl, Nat.le_of_ble_eq_true rfl⟩) ⟨pu_bl, va_recv hK hP (ci := 9) (q0 := 0) rfl rfl, pu_in hP hK hD⟩ rfl rfl hl.1 rfl (lv_room (Nat.le_of_ble_eq_true rfl)) dX9_automaton_110 ⟨Nat.le_of_ble_eq_true rfl, Nat.le_of_ble_eq_true rfl⟩) hS (fun q _ h => pu_fr hS hA q h) (pu_fr hS hA) (fun r_126 u t H1 locs ht hvm hw hB hz1 hk1 hS => ?_)
          have hP := pu_keep hP hk1
          clear hk1 hz1 ht hvm
          generalize H1 = H at hP hS ⊢
          obtain ⟨u_127, hu_127, rfl, iu_127⟩ := hw
          refine lv_if_ne (tgt := 121) hx hb dX9_automaton_113 (by decide) (fun c_128 => ?_) (fun c_128 => ?_)
          · have c_128 : ¬ u_127 = 0 := fun z => c_128 ((nI_eq (a := u_127) (b := 0) (Nat.lt_of_le_of_lt hu_127 (Nat.le_of_ble_eq_true rfl)) (Nat.le_of_ble_eq_true rfl)).mpr z)
            exact j_116 _ _ _ _ ⟨z26_110, z27_111, rfl, hz26_110, hP, hD, hS, lv_sub hl [0] rfl⟩
          · have c_128 : u_127 = 0 := (nI_eq (a := u_127) (b := 0) (Nat.lt_of_le_of_lt hu_127 (Nat.le_of_ble_eq_true rfl)) (Nat.le_of_ble_eq_true rfl)).mp c_128
            refine lv_aload_n hx hb dX9_automaton_116 rfl (lv_at hl 0 rfl) ?_
            refine lv_iconst (v := 2) hx hb dX9_automaton_117 (by decide) ?_
            have hFc := pu_free hD hS hA
            refine va_callv (va_runV (As := [.int 2]) (rest := []) ⟨hx, hb, hml, hown, hts⟩ (c_M_fails l dC dI _ ad ck 0 0 0 x18 z20_106 z21_107 z22_108 z23_109 x24 x25 z26_110 z27_111 1 x29 x30 x33 x45 x46 x52 x53 x61 x62 x63 x65 x66 z1_91 z2_94 z3_95 z4_96 z5_97 z6_98 z7_99 z8_100 z9_101 z10_92 z11_93 g_43 z12_1_102 g_45 z13_1_103 g_47 z14_1_104 g_49 z15_1_105 f17 q31 f32 f34 f35 f36 f37 q38 f39 f40 f41 m42_0 m42_1 f43 f44 f47 f48 f49 f50 f51 q54 q55 q56 f57 q58 f59 f60 f64 2 (Nat.le_of_ble_eq_true rfl) (Nat.le_of_ble_eq_true rfl) hx18 hz21_107 hz22_108 hz26_110 (Nat.le_of_ble_eq_true rfl) hx29 hx30 hx33 hx46 hx52 hx53 hx61 hx62 hx63 hx65 hg_43 hz12_1_102 hg_45 hz13_1_103 hg_47 hz14_1_104 hg_49 hz15_1_105 hm42_0 hm42_1 (Nat.le_of_ble_eq_true rfl) (by omega)) (cwV 1 hts g_M_automaton_M_fails rfl rfl rfl (by decide +kernel) ⟨Nat.le_of_ble_eq_true rfl, Nat.le_of_ble_eq_true rfl⟩) ⟨pu_bl, va_recv hK hP (ci := 9) (q0 := 0) rfl rfl, pu_in hP hK hD⟩ rfl rfl hl.1 rfl (lv_room (Nat.le_of_ble_eq_true rfl)) dX9_automaton_118 ⟨Nat.le_of_ble_eq_true rfl, Nat.le_of_ble_eq_true rfl⟩) hS (fun q _ h => hFc q h) hFc (fun u t H1 locs ht hvm hw hB hz1 hk1 hS => ?_)
            obtain ⟨z26_130, z27_131, ⟨hP1, -, hD1⟩, hz26_130, xr_129_0⟩ := hB
            rw [ht] at hP1
            have hP := hP1
            have hD := pu_all hFc hD1
            clear hP1 hD1 hFc
            clear hk1 hz1 ht hvm
            generalize H1 = H at hP hS ⊢
            exact j_116 _ _ _ _ ⟨z26_130, z27_131, rfl, hz26_130, hP, hD, hS, lv_sub hl [0] rfl⟩
  · refine lv_aload_n hx hb dX9_automaton_0 rfl (lv_at hl 0 rfl) ?_
    refine lv_iconst (v := 0) hx hb dX9_automaton_1 (by decide) ?_
    refine va_put (D := (dC, dI)) (ci := 9) (v := .int 0) (ty := .int) (C := RX9) (T := TX9) (N := 67) hx hb hts hiX9 tyX9 tyX9_ok nmX9 hown hK hP hD hS 0 rfl rfl 0 (by decide) v_1 (fun _ h9 => h9) rfl (by decide +kernel) rfl rfl (Nat.le_of_ble_eq_true rfl) dX9_automaton_2 (fun H locs hP hD hS => ?_)
    have hP : va_P (dC, dI) vwCl (mo_w ad ck 0 1 (nI x18) (nI x19) x20 (nI x21) (nI x22) x23 x24 x25 (nI x26) x27 (nI x28) (nI x29) (nI x30) (nI x33) x45 (nI x46) (nI x52) (nI x53) (nI x61) (nI x62) (nI x63) (nI x65) x66 f1 f2 f3 (bN 3 q4) (bN 7 q5) (bN 7 q6) (bN 4 q7) f8 (bN 2 q9) (bH q10) f11 (b2 m12_0 m12_1) (b2 m13_0 m13_1) (b2 m14_0 m14_1) (b2m m15_0 m15_1) f17 (bA 159 q31) f32 f34 f35 f36 f37 (bN 7 q38) f39 f40 f41 (b2 m42_0 m42_1) f43 f44 f47 f48 f49 f50 f51 (bN 13 q54) (bN 120 q55) (bN 120 q56) f57 (bN 120 q58) f59 f60 f64) H := hP
    have hD : va_D A (mo_w ad ck 0 1 (nI x18) (nI x19) x20 (nI x21) (nI x22) x23 x24 x25 (nI x26) x27 (nI x28) (nI x29) (nI x30) (nI x33) x45 (nI x46) (nI x52) (nI x53) (nI x61) (nI x62) (nI x63) (nI x65) x66 f1 f2 f3 (bN 3 q4) (bN 7 q5) (bN 7 q6) (bN 4 q7) f8 (bN 2 q9) (bH q10) f11 (b2 m12_0 m12_1) (b2 m13_0 m13_1) (b2 m14_0 m14_1) (b2m m15_0 m15_1) f17 (bA 159 q31) f32 f34 f35 f36 f37 (bN 7 q38) f39 f40 f41 (b2 m42_0 m42_1) f43 f44 f47 f48 f49 f50 f51 (bN 13 q54) (bN 120 q55) (bN 120 q56) f57 (bN 120 q58) f59 f60 f64) := hD
    refine lv_aload_n hx hb dX9_automaton_5 rfl (lv_at hl 0 rfl) ?_
    refine lv_aload_n hx hb dX9_automaton_6 rfl (lv_at hl 0 rfl) ?_
    refine va_get (D := (dC, dI)) (ci := 9) (v := .int (nI x18)) (C := RX9) (T := TX9) (N := 67) hx hb hts hiX9 hown hK hP 0 rfl rfl 18 (by decide) v_2 (fun _ h9 => h9) rfl dX9_automaton_7 ?_
    refine va_put (D := (dC, dI)) (ci := 9) (v := .int (nI x18)) (ty := .int) (C := RX9) (T := TX9) (N := 67) hx hb hts hiX9 tyX9 tyX9_ok nmX9 hown hK hP hD hS 0 rfl rfl 19 (by decide) v_3 (fun _ h9 => h9) rfl (by decide +kernel) rfl rfl (Nat.le_of_ble_eq_true rfl) dX9_automaton_10 (fun H locs hP hD hS => ?_)
    have hP : va_P (dC, dI) vwCl (mo_w ad ck 0 1 (nI x18) (nI x18) x20 (nI x21) (nI x22) x23 x24 x25 (nI x26) x27 (nI x28) (nI x29) (nI x30) (nI x33) x45 (nI x46) (nI x52) (nI x53) (nI x61) (nI x62) (nI x63) (nI x65) x66 f1 f2 f3 (bN 3 q4) (bN 7 q5) (bN 7 q6) (bN 4 q7) f8 (bN 2 q9) (bH q10) f11 (b2 m12_0 m12_1) (b2 m13_0 m13_1) (b2 m14_0 m14_1) (b2m m15_0 m15_1) f17 (bA 159 q31) f32 f34 f35 f36 f37 (bN 7 q38) f39 f40 f41 (b2 m42_0 m42_1) f43 f44 f47 f48 f49 f50 f51 (bN 13 q54) (bN 120 q55) (bN 120 q56) f57 (bN 120 q58) f59 f60 f64) H := hP
    have hD : va_D A (mo_w ad ck 0 1 (nI x18) (nI x18) x20 (nI x21) (nI x22) x23 x24 x25 (nI x26) x27 (nI x28) (nI x29) (nI x30) (nI x33) x45 (nI x46) (nI x52) (nI x53) (nI x61) (nI x62) (nI x63) (nI x65) x66 f1 f2 f3 (bN 3 q4) (bN 7 q5) (bN 7 q6) (bN 4 q7) f8 (bN 2 q9) (bH q10) f11 (b2 m12_0 m12_1) (b2 m13_0 m13_1) (b2 m14_0 m14_1) (b2m m15_0 m15_1) f17 (bA 159 q31) f32 f34 f35 f36 f37 (bN 7 q38) f39 f40 f41 (b2 m42_0 m42_1) f43 f44 f47 f48 f49 f50 f51 (bN 13 q54) (bN 120 q55) (bN 120 q56) f57 (bN 120 q58) f59 f60 f64) := hD
    refine lv_aload_n hx hb dX9_automaton_13 rfl (lv_at hl 0 rfl) ?_
    refine lv_iconst (v := 0) hx hb dX9_automaton_14 (by decide) ?_
    refine va_put (D := (dC, dI)) (ci := 9) (v := .int 0) (ty := .int) (C := RX9) (T := TX9) (N := 67) hx hb hts hiX9 tyX9 tyX9_ok nmX9 hown hK hP hD hS 0 rfl rfl 18 (by decide) v_2 (fun _ h9 => h9) rfl (by decide +kernel) rfl rfl (Nat.le_of_ble_eq_true rfl) dX9_automaton_15 (fun H locs hP hD hS => ?_)
    have hP : va_P (dC, dI) vwCl (mo_w ad ck 0 1 0 (nI x18) x20 (nI x21) (nI x22) x23 x24 x25 (nI x26) x27 (nI x28) (nI x29) (nI x30) (nI x33) x45 (nI x46) (nI x52) (nI x53) (nI x61) (nI x62) (nI x63) (nI x65) x66 f1 f2 f3 (bN 3 q4) (bN 7 q5) (bN 7 q6) (bN 4 q7) f8 (bN 2 q9) (bH q10) f11 (b2 m12_0 m12_1) (b2 m13_0 m13_1) (b2 m14_0 m14_1) (b2m m15_0 m15_1) f17 (bA 159 q31) f32 f34 f35 f36 f37 (bN 7 q38) f39 f40 f41 (b2 m42_0 m42_1) f43 f44 f47 f48 f49 f50 f51 (bN 13 q54) (bN 120 q55) (bN 120 q56) f57 (bN 120 q58) f59 f60 f64) H := hP
    have hD : va_D A (mo_w ad ck 0 1 0 (nI x18) x20 (nI x21) (nI x22) x23 x24 x25 (nI x26) x27 (nI x28) (nI x29) (nI x30) (nI x33) x45 (nI x46) (nI x52) (nI x53) (nI x61) (nI x62) (nI x63) (nI x65) x66 f1 f2 f3 (bN 3 q4) (bN 7 q5) (bN 7 q6) (bN 4 q7) f8 (bN 2 q9) (bH q10) f11 (b2 m12_0 m12_1) (b2 m13_0 m13_1) (b2 m14_0 m14_1) (b2m m15_0 m15_1) f17 (bA 159 q31) f32 f34 f35 f36 f37 (bN 7 q38) f39 f40 f41 (b2 m42_0 m42_1) f43 f44 f47 f48 f49 f50 f51 (bN 13 q54) (bN 120 q55) (bN 120 q56) f57 (bN 120 q58) f59 f60 f64) := hD
    refine lv_aload_n hx hb dX9_automaton_18 rfl (lv_at hl 0 rfl) ?_
    refine lv_iconst (v := 0) hx hb dX9_automaton_19 (by decide) ?_
    refine va_put (D := (dC, dI)) (ci := 9) (v := .int 0) (ty := .int) (C := RX9) (T := TX9) (N := 67) hx hb hts hiX9 tyX9 tyX9_ok nmX9 hown hK hP hD hS 0 rfl rfl 21 (by decide) v_4 (fun _ h9 => h9) rfl (by decide +kernel) rfl rfl (Nat.le_of_ble_eq_true rfl) dX9_automaton_20 (fun H locs hP hD hS => ?_)
    have hP : va_P (dC, dI) vwCl (mo_w ad ck 0 1 0 (nI x18) x20 0 (nI x22) x23 x24 x25 (nI x26) x27 (nI x28) (nI x29) (nI x30) (nI x33) x45 (nI x46) (nI x52) (nI x53) (nI x61) (nI x62) (nI x63) (nI x65) x66 f1 f2 f3 (bN 3 q4) (bN 7 q5) (bN 7 q6) (bN 4 q7) f8 (bN 2 q9) (bH q10) f11 (b2 m12_0 m12_1) (b2 m13_0 m13_1) (b2 m14_0 m14_1) (b2m m15_0 m15_1) f17 (bA 159 q31) f32 f34 f35 f36 f37 (bN 7 q38) f39 f40 f41 (b2 m42_0 m42_1) f43 f44 f47 f48 f49 f50 f51 (bN 13 q54) (bN 120 q55) (bN 120 q56) f57 (bN 120 q58) f59 f60 f64) H := hP
    have hD : va_D A (mo_w ad ck 0 1 0 (nI x18) x20 0 (nI x22) x23 x24 x25 (nI x26) x27 (nI x28) (nI x29) (nI x30) (nI x33) x45 (nI x46) (nI x52) (nI x53) (nI x61) (nI x62) (nI x63) (nI x65) x66 f1 f2 f3 (bN 3 q4) (bN 7 q5) (bN 7 q6) (bN 4 q7) f8 (bN 2 q9) (bH q10) f11 (b2 m12_0 m12_1) (b2 m13_0 m13_1) (b2 m14_0 m14_1) (b2m m15_0 m15_1) f17 (bA 159 q31) f32 f34 f35 f36 f37 (bN 7 q38) f39 f40 f41 (b2 m42_0 m42_1) f43 f44 f47 f48 f49 f50 f51 (bN 13 q54) (bN 120 q55) (bN 120 q56) f57 (bN 120 q58) f59 f60 f64) := hD
    refine lv_aload_n hx hb dX9_automaton_23 rfl (lv_at hl 0 rfl) ?_
    refine lv_iconst (v := 0) hx hb dX9_automaton_24 (by decide) ?_
    refine va_put (D := (dC, dI)) (ci := 9) (v := .int 0) (ty := .int) (C := RX9) (T := TX9) (N := 67) hx hb hts hiX9 tyX9 tyX9_ok nmX9 hown hK hP hD hS 0 rfl rfl 26 (by decide) v_5 (fun _ h9 => h9) rfl (by decide +kernel) rfl rfl (Nat.le_of_ble_eq_true rfl) dX9_automaton_25 (fun H locs hP hD hS => ?_)
    have hP : va_P (dC, dI) vwCl (mo_w ad ck 0 1 0 (nI x18) x20 0 (nI x22) x23 x24 x25 0 x27 (nI x28) (nI x29) (nI x30) (nI x33) x45 (nI x46) (nI x52) (nI x53) (nI x61) (nI x62) (nI x63) (nI x65) x66 f1 f2 f3 (bN 3 q4) (bN 7 q5) (bN 7 q6) (bN 4 q7) f8 (bN 2 q9) (bH q10) f11 (b2 m12_0 m12_1) (b2 m13_0 m13_1) (b2 m14_0 m14_1) (b2m m15_0 m15_1) f17 (bA 159 q31) f32 f34 f35 f36 f37 (bN 7 q38) f39 f40 f41 (b2 m42_0 m42_1) f43 f44 f47 f48 f49 f50 f51 (bN 13 q54) (bN 120 q55) (bN 120 q56) f57 (bN 120 q58) f59 f60 f64) H := hP
    have hD : va_D A (mo_w ad ck 0 1 0 (nI x18) x20 0 (nI x22) x23 x24 x25 0 x27 (nI x28) (nI x29) (nI x30) (nI x33) x45 (nI x46) (nI x52) (nI x53) (nI x61) (nI x62) (nI x63) (nI x65) x66 f1 f2 f3 (bN 3 q4) (bN 7 q5) (bN 7 q6) (bN 4 q7) f8 (bN 2 q9) (bH q10) f11 (b2 m12_0 m12_1) (b2 m13_0 m13_1) (b2 m14_0 m14_1) (b2m m15_0 m15_1) f17 (bA 159 q31) f32 f34 f35 f36 f37 (bN 7 q38) f39 f40 f41 (b2 m42_0 m42_1) f43 f44 f47 f48 f49 f50 f51 (bN 13 q54) (bN 120 q55) (bN 120 q56) f57 (bN 120 q58) f59 f60 f64) := hD
    refine lv_aload_n hx hb dX9_automaton_28 rfl (lv_at hl 0 rfl) ?_
    refine lv_iconst (v := 1) hx hb dX9_automaton_29 (by decide) ?_
    refine lv_aload_n hx hb dX9_automaton_30 rfl (lv_at hl 0 rfl) ?_
    refine va_get (D := (dC, dI)) (ci := 9) (v := .int 1) (C := RX9) (T := TX9) (N := 67) hx hb hts hiX9 hown hK hP 0 rfl rfl 16 (by decide) v_6 (fun _ h9 => h9) rfl dX9_automaton_31 ?_
    refine lv_isub hx hb dX9_automaton_34 ?_
    refine lv_topi (fun y_132 ey_132 => ?_)
    obtain rfl : y_132 = 0 := ey_132.trans (by decide)
    refine va_put (D := (dC, dI)) (ci := 9) (v := .int 0) (ty := .int) (C := RX9) (T := TX9) (N := 67) hx hb hts hiX9 tyX9 tyX9_ok nmX9 hown hK hP hD hS 0 rfl rfl 28 (by decide) v_7 (fun _ h9 => h9) rfl (by decide +kernel) rfl rfl (Nat.le_of_ble_eq_true rfl) dX9_automaton_35 (fun H locs hP hD hS => ?_)
    have hP : va_P (dC, dI) vwCl (mo_w ad ck 0 1 0 (nI x18) x20 0 (nI x22) x23 x24 x25 0 x27 0 (nI x29) (nI x30) (nI x33) x45 (nI x46) (nI x52) (nI x53) (nI x61) (nI x62) (nI x63) (nI x65) x66 f1 f2 f3 (bN 3 q4) (bN 7 q5) (bN 7 q6) (bN 4 q7) f8 (bN 2 q9) (bH q10) f11 (b2 m12_0 m12_1) (b2 m13_0 m13_1) (b2 m14_0 m14_1) (b2m m15_0 m15_1) f17 (bA 159 q31) f32 f34 f35 f36 f37 (bN 7 q38) f39 f40 f41 (b2 m42_0 m42_1) f43 f44 f47 f48 f49 f50 f51 (bN 13 q54) (bN 120 q55) (bN 120 q56) f57 (bN 120 q58) f59 f60 f64) H := hP
    have hD : va_D A (mo_w ad ck 0 1 0 (nI x18) x20 0 (nI x22) x23 x24 x25 0 x27 0 (nI x29) (nI x30) (nI x33) x45 (nI x46) (nI x52) (nI x53) (nI x61) (nI x62) (nI x63) (nI x65) x66 f1 f2 f3 (bN 3 q4) (bN 7 q5) (bN 7 q6) (bN 4 q7) f8 (bN 2 q9) (bH q10) f11 (b2 m12_0 m12_1) (b2 m13_0 m13_1) (b2 m14_0 m14_1) (b2m m15_0 m15_1) f17 (bA 159 q31) f32 f34 f35 f36 f37 (bN 7 q38) f39 f40 f41 (b2 m42_0 m42_1) f43 f44 f47 f48 f49 f50 f51 (bN 13 q54) (bN 120 q55) (bN 120 q56) f57 (bN 120 q58) f59 f60 f64) := hD
    refine lv_aload_n hx hb dX9_automaton_38 rfl (lv_at hl 0 rfl) ?_
    refine va_get (D := (dC, dI)) (ci := 9) (v := .ref (ad 12)) (C := RX9) (T := TX9) (N := 67) hx hb hts hiX9 hown hK hP 0 rfl rfl 12 (by decide) v_8 (fun _ h9 => h9) rfl dX9_automaton_39 ?_
    refine lv_aload_n hx hb dX9_automaton_42 rfl (lv_at hl 0 rfl) ?_
    refine va_get (D := (dC, dI)) (ci := 9) (v := .int 0) (C := RX9) (T := TX9) (N := 67) hx hb hts hiX9 hown hK hP 0 rfl rfl 28 (by decide) v_7 (fun _ h9 => h9) rfl dX9_automaton_43 ?_
    refine lv_iconst (v := 0) hx hb dX9_automaton_46 (by decide) ?_
    refine va_iast hx hb hK hP hD hS 12 11 rfl rfl (vp_in_nI (n := 0) (Nat.le_of_ble_eq_true rfl) (Nat.le_of_ble_eq_true rfl)) dX9_automaton_47 (fun H locs hP hD hS => ?_)
    have hP : va_P (dC, dI) vwCl (mo_w ad ck 0 1 0 (nI x18) x20 0 (nI x22) x23 x24 x25 0 x27 0 (nI x29) (nI x30) (nI x33) x45 (nI x46) (nI x52) (nI x53) (nI x61) (nI x62) (nI x63) (nI x65) x66 f1 f2 f3 (bN 3 q4) (bN 7 q5) (bN 7 q6) (bN 4 q7) f8 (bN 2 q9) (bH q10) f11 (b2 0 m12_1) (b2 m13_0 m13_1) (b2 m14_0 m14_1) (b2m m15_0 m15_1) f17 (bA 159 q31) f32 f34 f35 f36 f37 (bN 7 q38) f39 f40 f41 (b2 m42_0 m42_1) f43 f44 f47 f48 f49 f50 f51 (bN 13 q54) (bN 120 q55) (bN 120 q56) f57 (bN 120 q58) f59 f60 f64) H := by rw [← b2_up0 (a := m12_0) (b := m12_1) (v := 0)]; exact hP
    have hD : va_D A (mo_w ad ck 0 1 0 (nI x18) x20 0 (nI x22) x23 x24 x25 0 x27 0 (nI x29) (nI x30) (nI x33) x45 (nI x46) (nI x52) (nI x53) (nI x61) (nI x62) (nI x63) (nI x65) x66 f1 f2 f3 (bN 3 q4) (bN 7 q5) (bN 7 q6) (bN 4 q7) f8 (bN 2 q9) (bH q10) f11 (b2 0 m12_1) (b2 m13_0 m13_1) (b2 m14_0 m14_1) (b2m m15_0 m15_1) f17 (bA 159 q31) f32 f34 f35 f36 f37 (bN 7 q38) f39 f40 f41 (b2 m42_0 m42_1) f43 f44 f47 f48 f49 f50 f51 (bN 13 q54) (bN 120 q55) (bN 120 q56) f57 (bN 120 q58) f59 f60 f64) := by rw [← b2_up0 (a := m12_0) (b := m12_1) (v := 0)]; exact hD
    refine lv_aload_n hx hb dX9_automaton_48 rfl (lv_at hl 0 rfl) ?_
    refine va_get (D := (dC, dI)) (ci := 9) (v := .ref (ad 13)) (C := RX9) (T := TX9) (N := 67) hx hb hts hiX9 hown hK hP 0 rfl rfl 13 (by decide) v_9 (fun _ h9 => h9) rfl dX9_automaton_49 ?_
    refine lv_aload_n hx hb dX9_automaton_52 rfl (lv_at hl 0 rfl) ?_
    refine va_get (D := (dC, dI)) (ci := 9) (v := .int 0) (C := RX9) (T := TX9) (N := 67) hx hb hts hiX9 hown hK hP 0 rfl rfl 28 (by decide) v_7 (fun _ h9 => h9) rfl dX9_automaton_53 ?_
    refine lv_iconst (v := 0) hx hb dX9_automaton_56 (by decide) ?_
    refine va_iast hx hb hK hP hD hS 13 12 rfl rfl (vp_in_nI (n := 0) (Nat.le_of_ble_eq_true rfl) (Nat.le_of_ble_eq_true rfl)) dX9_automaton_57 (fun H locs hP hD hS => ?_)
    have hP : va_P (dC, dI) vwCl (mo_w ad ck 0 1 0 (nI x18) x20 0 (nI x22) x23 x24 x25 0 x27 0 (nI x29) (nI x30) (nI x33) x45 (nI x46) (nI x52) (nI x53) (nI x61) (nI x62) (nI x63) (nI x65) x66 f1 f2 f3 (bN 3 q4) (bN 7 q5) (bN 7 q6) (bN 4 q7) f8 (bN 2 q9) (bH q10) f11 (b2 0 m12_1) (b2 0 m13_1) (b2 m14_0 m14_1) (b2m m15_0 m15_1) f17 (bA 159 q31) f32 f34 f35 f36 f37 (bN 7 q38) f39 f40 f41 (b2 m42_0 m42_1) f43 f44 f47 f48 f49 f50 f51 (bN 13 q54) (bN 120 q55) (bN 120 q56) f57 (bN 120 q58) f59 f60 f64) H := by rw [← b2_up0 (a := m13_0) (b := m13_1) (v := 0)]; exact hP
    have hD : va_D A (mo_w ad ck 0 1 0 (nI x18) x20 0 (nI x22) x23 x24 x25 0 x27 0 (nI x29) (nI x30) (nI x33) x45 (nI x46) (nI x52) (nI x53) (nI x61) (nI x62) (nI x63) (nI x65) x66 f1 f2 f3 (bN 3 q4) (bN 7 q5) (bN 7 q6) (bN 4 q7) f8 (bN 2 q9) (bH q10) f11 (b2 0 m12_1) (b2 0 m13_1) (b2 m14_0 m14_1) (b2m m15_0 m15_1) f17 (bA 159 q31) f32 f34 f35 f36 f37 (bN 7 q38) f39 f40 f41 (b2 m42_0 m42_1) f43 f44 f47 f48 f49 f50 f51 (bN 13 q54) (bN 120 q55) (bN 120 q56) f57 (bN 120 q58) f59 f60 f64) := by rw [← b2_up0 (a := m13_0) (b := m13_1) (v := 0)]; exact hD
    refine lv_aload_n hx hb dX9_automaton_58 rfl (lv_at hl 0 rfl) ?_
    refine va_get (D := (dC, dI)) (ci := 9) (v := .ref (ad 14)) (C := RX9) (T := TX9) (N := 67) hx hb hts hiX9 hown hK hP 0 rfl rfl 14 (by decide) v_10 (fun _ h9 => h9) rfl dX9_automaton_59 ?_
    refine lv_aload_n hx hb dX9_automaton_62 rfl (lv_at hl 0 rfl) ?_
    refine va_get (D := (dC, dI)) (ci := 9) (v := .int 0) (C := RX9) (T := TX9) (N := 67) hx hb hts hiX9 hown hK hP 0 rfl rfl 28 (by decide) v_7 (fun _ h9 => h9) rfl dX9_automaton_63 ?_
    refine lv_iconst (v := 0) hx hb dX9_automaton_66 (by decide) ?_
    refine va_iast hx hb hK hP hD hS 14 13 rfl rfl (vp_in_nI (n := 0) (Nat.le_of_ble_eq_true rfl) (Nat.le_of_ble_eq_true rfl)) dX9_automaton_67 (fun H locs hP hD hS => ?_)
    have hP : va_P (dC, dI) vwCl (mo_w ad ck 0 1 0 (nI x18) x20 0 (nI x22) x23 x24 x25 0 x27 0 (nI x29) (nI x30) (nI x33) x45 (nI x46) (nI x52) (nI x53) (nI x61) (nI x62) (nI x63) (nI x65) x66 f1 f2 f3 (bN 3 q4) (bN 7 q5) (bN 7 q6) (bN 4 q7) f8 (bN 2 q9) (bH q10) f11 (b2 0 m12_1) (b2 0 m13_1) (b2 0 m14_1) (b2m m15_0 m15_1) f17 (bA 159 q31) f32 f34 f35 f36 f37 (bN 7 q38) f39 f40 f41 (b2 m42_0 m42_1) f43 f44 f47 f48 f49 f50 f51 (bN 13 q54) (bN 120 q55) (bN 120 q56) f57 (bN 120 q58) f59 f60 f64) H := by rw [← b2_up0 (a := m14_0) (b := m14_1) (v := 0)]; exact hP
    have hD : va_D A (mo_w ad ck 0 1 0 (nI x18) x20 0 (nI x22) x23 x24 x25 0 x27 0 (nI x29) (nI x30) (nI x33) x45 (nI x46) (nI x52) (nI x53) (nI x61) (nI x62) (nI x63) (nI x65) x66 f1 f2 f3 (bN 3 q4) (bN 7 q5) (bN 7 q6) (bN 4 q7) f8 (bN 2 q9) (bH q10) f11 (b2 0 m12_1) (b2 0 m13_1) (b2 0 m14_1) (b2m m15_0 m15_1) f17 (bA 159 q31) f32 f34 f35 f36 f37 (bN 7 q38) f39 f40 f41 (b2 m42_0 m42_1) f43 f44 f47 f48 f49 f50 f51 (bN 13 q54) (bN 120 q55) (bN 120 q56) f57 (bN 120 q58) f59 f60 f64) := by rw [← b2_up0 (a := m14_0) (b := m14_1) (v := 0)]; exact hD
    refine lv_aload_n hx hb dX9_automaton_68 rfl (lv_at hl 0 rfl) ?_
    refine va_get (D := (dC, dI)) (ci := 9) (v := .ref (ad 15)) (C := RX9) (T := TX9) (N := 67) hx hb hts hiX9 hown hK hP 0 rfl rfl 15 (by decide) v_11 (fun _ h9 => h9) rfl dX9_automaton_69 ?_
    refine lv_aload_n hx hb dX9_automaton_72 rfl (lv_at hl 0 rfl) ?_
    refine va_get (D := (dC, dI)) (ci := 9) (v := .int 0) (C := RX9) (T := TX9) (N := 67) hx hb hts hiX9 hown hK hP 0 rfl rfl 28 (by decide) v_7 (fun _ h9 => h9) rfl dX9_automaton_73 ?_
    refine lv_iconst (v := (-1)) hx hb dX9_automaton_76 (by decide) ?_
    refine va_iast hx hb hK hP hD hS 15 14 rfl rfl (vp_in_nI (n := 0) (Nat.le_of_ble_eq_true rfl) (Nat.le_of_ble_eq_true rfl)) dX9_automaton_77 (fun H locs hP hD hS => ?_)
    have hP : va_P (dC, dI) vwCl (mo_w ad ck 0 1 0 (nI x18) x20 0 (nI x22) x23 x24 x25 0 x27 0 (nI x29) (nI x30) (nI x33) x45 (nI x46) (nI x52) (nI x53) (nI x61) (nI x62) (nI x63) (nI x65) x66 f1 f2 f3 (bN 3 q4) (bN 7 q5) (bN 7 q6) (bN 4 q7) f8 (bN 2 q9) (bH q10) f11 (b2 0 m12_1) (b2 0 m13_1) (b2 0 m14_1) (b2m 0 m15_1) f17 (bA 159 q31) f32 f34 f35 f36 f37 (bN 7 q38) f39 f40 f41 (b2 m42_0 m42_1) f43 f44 f47 f48 f49 f50 f51 (bN 13 q54) (bN 120 q55) (bN 120 q56) f57 (bN 120 q58) f59 f60 f64) H := by rw [← b2m_n0 (a := m15_0) (b := m15_1)]; exact hP
    have hD : va_D A (mo_w ad ck 0 1 0 (nI x18) x20 0 (nI x22) x23 x24 x25 0 x27 0 (nI x29) (nI x30) (nI x33) x45 (nI x46) (nI x52) (nI x53) (nI x61) (nI x62) (nI x63) (nI x65) x66 f1 f2 f3 (bN 3 q4) (bN 7 q5) (bN 7 q6) (bN 4 q7) f8 (bN 2 q9) (bH q10) f11 (b2 0 m12_1) (b2 0 m13_1) (b2 0 m14_1) (b2m 0 m15_1) f17 (bA 159 q31) f32 f34 f35 f36 f37 (bN 7 q38) f39 f40 f41 (b2 m42_0 m42_1) f43 f44 f47 f48 f49 f50 f51 (bN 13 q54) (bN 120 q55) (bN 120 q56) f57 (bN 120 q58) f59 f60 f64) := by rw [← b2m_n0 (a := m15_0) (b := m15_1)]; exact hD
    refine lv_aload_n hx hb dX9_automaton_78 rfl (lv_at hl 0 rfl) ?_
    have hFc := pu_free hD hS hA
    refine va_callv (va_runV (As := []) (rest := []) ⟨hx, hb, hml, hown, hts⟩ (c_M_next l dC dI _ ad ck 0 1 0 x18 x20 0 x22 x23 x24 x25 0 x27 0 x29 x30 x33 x45 x46 x52 x53 x61 x62 x63 x65 x66 f1 f2 f3 q4 q5 q6 q7 f8 q9 q10 f11 0 m12_1 0 m13_1 0 m14_1 0 m15_1 f17 q31 f32 f34 f35 f36 f37 q38 f39 f40 f41 m42_0 m42_1 f43 f44 f47 f48 f49 f50 f51 q54 q55 q56 f57 q58 f59 f60 f64 (Nat.le_of_ble_eq_true rfl) (Nat.le_of_ble_eq_true rfl) hx18 (Nat.le_of_ble_eq_true rfl) hx22 (Nat.le_of_ble_eq_true rfl) (Nat.le_of_ble_eq_true rfl) hx29 hx30 hx33 hx46 hx52 hx53 hx61 hx62 hx63 hx65 (Nat.le_of_ble_eq_true rfl) hm12_1 (Nat.le_of_ble_eq_true rfl) hm13_1 (Nat.le_of_ble_eq_true rfl) hm14_1 (Nat.le_of_ble_eq_true rfl) hm15_1 hm42_0 hm42_1) (cwV 0 hts g_M_automaton_M_next rfl rfl rfl (by decide +kernel) ⟨Nat.le_of_ble_eq_true rfl, Nat.le_of_ble_eq_true rfl⟩) ⟨pu_bl, va_recv hK hP (ci := 9) (q0 := 0) rfl rfl, pu_in hP hK hD⟩ rfl rfl hl.1 rfl (lv_room (Nat.le_of_ble_eq_true rfl)) dX9_automaton_79 ⟨Nat.le_of_ble_eq_true rfl, Nat.le_of_ble_eq_true rfl⟩) hS (fun q _ h => hFc q h) hFc (fun u t H1 locs ht hvm hw hB hz1 hk1 hS => ?_)
    obtain ⟨z20_134, z21_135, z22_136, z23_137, ⟨hP1, -, hD1⟩, hz21_135, hz22_136, xr_133_0, xr_133_1⟩ := hB
    rw [ht] at hP1
    have hP := hP1
    have hD := pu_all hFc hD1
    clear hP1 hD1 hFc
    clear hk1 hz1 ht hvm
    generalize H1 = H at hP hS ⊢
    refine pu_while (fun nn H locs ls => ∃ (g_163 : Nat → Int32) (g_164 : Nat → Nat) (g_165 : Nat → Int32) (g_166 : Nat → Int32) (g_167 : Nat → Int32) (g_168 : Nat → Nat) (g_169 : Nat → Nat) (g_170 : Nat → Nat) (g_171 : Nat → Nat) (g_172 : Nat → Int32) (g_173 : Nat → Nat) (g_174 : Nat) (g_175 : Nat) (g_176 : Nat) (g_177 : Nat) (g_178 : Nat) (g_179 : Nat) (g_180 : Nat) (g_181 : Nat) (g_182 : Int32) (g_183 : Nat) (g_184 : Nat) (g_185 : Int32) (g_186 : Nat) (g_187 : Int32), nn = mu g_183 g_184 ∧ g_174 ≤ 3 ∧ g_175 ≤ 3 ∧ g_176 ≤ 8 ∧ g_177 ≤ 8 ∧ g_178 ≤ 14 ∧ g_179 ≤ 14 ∧ g_180 ≤ 8 ∧ g_181 ≤ 8 ∧ g_183 ≤ 900 ∧ g_184 ≤ 4 ∧ g_186 ≤ 6 ∧ va_P (dC, dI) vwCl (mo_w ad ck 0 1 0 (nI x18) g_182 (nI g_183) (nI g_184) g_185 x24 x25 (nI g_186) g_187 0 (nI x29) (nI x30) (nI x33) x45 (nI x46) (nI x52) (nI x53) (nI x61) (nI x62) (nI x63) (nI x65) x66 g_163 g_166 g_167 (bN 3 g_168) (bN 7 g_169) (bN 7 g_170) (bN 4 g_171) g_172 (bN 2 g_173) (bH g_164) g_165 (b2 g_174 g_175) (b2 g_176 g_177) (b2 g_178 g_179) (b2m g_180 g_181) f17 (bA 159 q31) f32 f34 f35 f36 f37 (bN 7 q38) f39 f40 f41 (b2 m42_0 m42_1) f43 f44 f47 f48 f49 f50 f51 (bN 13 q54) (bN 120 q55) (bN 120 q56) f57 (bN 120 q58) f59 f60 f64) H ∧ va_D A (mo_w ad ck 0 1 0 (nI x18) g_182 (nI g_183) (nI g_184) g_185 x24 x25 (nI g_186) g_187 0 (nI x29) (nI x30) (nI x33) x45 (nI x46) (nI x52) (nI x53) (nI x61) (nI x62) (nI x63) (nI x65) x66 g_163 g_166 g_167 (bN 3 g_168) (bN 7 g_169) (bN 7 g_170) (bN 4 g_171) g_172 (bN 2 g_173) (bH g_164) g_165 (b2 g_174 g_175) (b2 g_176 g_177) (b2 g_178 g_179) (b2m g_180 g_181) f17 (bA 159 q31) f32 f34 f35 f36 f37 (bN 7 q38) f39 f40 f41 (b2 m42_0 m42_1) f43 f44 f47 f48 f49 f50 f51 (bN 13 q54) (bN 120 q55) (bN 120 q56) f57 (bN 120 q58) f59 f60 f64) ∧ va_S A s.heap H locs ∧ lv_has ls 1 [(0, .ref (ad 0))]) 82 ?_ _ _ _ _ ⟨f1, q10, f11, f2, f3, q4, q5, q6, q7, f8, q9, 0, m12_1, 0, m13_1, 0, m14_1, 0, m15_1, z20_134, z21_135, z22_136, z23_137, 0, x27, rfl, (Nat.le_of_ble_eq_true rfl), hm12_1, (Nat.le_of_ble_eq_true rfl), hm13_1, (Nat.le_of_ble_eq_true rfl), hm14_1, (Nat.le_of_ble_eq_true rfl), hm15_1, hz21_135, hz22_136, (Nat.le_of_ble_eq_true rfl), hP, hD, hS, lv_sub hl [0] rfl⟩
    rintro nn ih_188 H locs ls ⟨g_163, g_164, g_165, g_166, g_167, g_168, g_169, g_170, g_171, g_172, g_173, g_174, g_175, g_176, g_177, g_178, g_179, g_180, g_181, g_182, g_183, g_184, g_185, g_186, g_187, rfl, hg_174, hg_175, hg_176, hg_177, hg_178, hg_179, hg_180, hg_181, hg_183, hg_184, hg_186, hP, hD, hS, hl⟩
    refine lv_aload_n hx hb dX9_automaton_82 rfl (lv_at hl 0 rfl) ?_
    refine va_calli (va_runV (As := []) (rest := []) ⟨hx, hb, hml, hown, hts⟩ (c_M_isGood l dC dI _ ad ck 0 1 0 x18 g_182 g_183 g_184 g_185 x24 x25 g_186 g_187 0 x29 x30 x33 x45 x46 x52 x53 x61 x62 x63 x65 x66 g_163 g_166 g_167 g_168 g_169 g_170 g_171 g_172 g_173 g_164 g_165 g_174 g_175 g_176 g_177 g_178 g_179 g_180 g_181 f17 q31 f32 f34 f35 f36 f37 q38 f39 f40 f41 m42_0 m42_1 f43 f44 f47 f48 f49 f50 f51 q54 q55 q56 f57 q58 f59 f60 f64 (Nat.le_of_ble_eq_true rfl) (Nat.le_of_ble_eq_true rfl) hx18 hg_183 hg_184 hg_186 (Nat.le_of_ble_eq_true rfl) hx29 hx30 hx33 hx46 hx52 hx53 hx61 hx62 hx63 hx65 hg_174 hg_175 hg_176 hg_177 hg_178 hg_179 hg_180 hg_181 hm42_0 hm42_1) (cwV 0 hts g_M_automaton_M_isGood rfl rfl rfl (by decide +kernel) ⟨Nat.le_of_ble_eq_true rfl, Nat.le_of_ble_eq_true rfl⟩) ⟨pu_bl, va_recv hK hP (ci := 9) (q0 := 0) rfl rfl, pu_in hP hK hD⟩ rfl rfl hl.1 rfl (lv_room (Nat.le_of_ble_eq_true rfl)) dX9_automaton_83 ⟨Nat.le_of_ble_eq_true rfl, Nat.le_of_ble_eq_true rfl⟩) hS (fun q _ h => pu_fr hS hA q h) (pu_fr hS hA) (fun r_189 u t H1 locs ht hvm hw hB hz1 hk1 hS => ?_)
    have hP := pu_keep hP hk1
    clear hk1 hz1 ht hvm
    generalize H1 = H at hP hS ⊢
    obtain ⟨u_190, hu_190, rfl, iu_190⟩ := hw
    refine pu_join (fun H locs ls st => st = [] ∧ va_P (dC, dI) vwCl (mo_w ad ck 0 1 0 (nI x18) g_182 (nI g_183) (nI g_184) g_185 x24 x25 (nI g_186) g_187 0 (nI x29) (nI x30) (nI x33) x45 (nI x46) (nI x52) (nI x53) (nI x61) (nI x62) (nI x63) (nI x65) x66 g_163 g_166 g_167 (bN 3 g_168) (bN 7 g_169) (bN 7 g_170) (bN 4 g_171) g_172 (bN 2 g_173) (bH g_164) g_165 (b2 g_174 g_175) (b2 g_176 g_177) (b2 g_178 g_179) (b2m g_180 g_181) f17 (bA 159 q31) f32 f34 f35 f36 f37 (bN 7 q38) f39 f40 f41 (b2 m42_0 m42_1) f43 f44 f47 f48 f49 f50 f51 (bN 13 q54) (bN 120 q55) (bN 120 q56) f57 (bN 120 q58) f59 f60 f64) H ∧ va_D A (mo_w ad ck 0 1 0 (nI x18) g_182 (nI g_183) (nI g_184) g_185 x24 x25 (nI g_186) g_187 0 (nI x29) (nI x30) (nI x33) x45 (nI x46) (nI x52) (nI x53) (nI x61) (nI x62) (nI x63) (nI x65) x66 g_163 g_166 g_167 (bN 3 g_168) (bN 7 g_169) (bN 7 g_170) (bN 4 g_171) g_172 (bN 2 g_173) (bH g_164) g_165 (b2 g_174 g_175) (b2 g_176 g_177) (b2 g_178 g_179) (b2m g_180 g_181) f17 (bA 159 q31) f32 f34 f35 f36 f37 (bN 7 q38) f39 f40 f41 (b2 m42_0 m42_1) f43 f44 f47 f48 f49 f50 f51 (bN 13 q54) (bN 120 q55) (bN 120 q56) f57 (bN 120 q58) f59 f60 f64) ∧ va_S A s.heap H locs ∧ lv_has ls 1 [(0, .ref (ad 0))]) 135 ?_ (fun j_191 => ?_)
    · rintro H locs ls st ⟨rfl, hP, hD, hS, hl⟩
      refine lv_aload_n hx hb dX9_automaton_135 rfl (lv_at hl 0 rfl) ?_
      refine va_calli (va_runV (As := []) (rest := []) ⟨hx, hb, hml, hown, hts⟩ (c_M_isGood l dC dI _ ad ck 0 1 0 x18 g_182 g_183 g_184 g_185 x24 x25 g_186 g_187 0 x29 x30 x33 x45 x46 x52 x53 x61 x62 x63 x65 x66 g_163 g_166 g_167 g_168 g_169 g_170 g_171 g_172 g_173 g_164 g_165 g_174 g_175 g_176 g_177 g_178 g_179 g_180 g_181 f17 q31 f32 f34 f35 f36 f37 q38 f39 f40 f41 m42_0 m42_1 f43 f44 f47 f48 f49 f50 f51 q54 q55 q56 f57 q58 f59 f60 f64 (Nat.le_of_ble_eq_true rfl) (Nat.le_of_ble_eq_true rfl) hx18 hg_183 hg_184 hg_186 (Nat.le_of_ble_eq_true rfl) hx29 hx30 hx33 hx46 hx52 hx53 hx61 hx62 hx63 hx65 hg_174 hg_175 hg_176 hg_177 hg_178 hg_179 hg_180 hg_181 hm42_0 hm42_1) (cwV 0 hts g_M_automaton_M_isGood rfl rfl rfl (by decide +kernel) ⟨Nat.le_of_ble_eq_true rfl, Nat.le_of_ble_eq_true rfl⟩) ⟨pu_bl, va_recv hK hP (ci := 9) (q0 := 0) rfl rfl, pu_in hP hK hD⟩ rfl rfl hl.1 rfl (lv_room (Nat.le_of_ble_eq_true rfl)) dX9_automaton_136 ⟨Nat.le_of_ble_eq_true rfl, Nat.le_of_ble_eq_true rfl⟩) hS (fun q _ h => pu_fr hS hA q h) (pu_fr hS hA) (fun r_192 u t H1 locs ht hvm hw hB hz1 hk1 hS => ?_)
      have hP := pu_keep hP hk1
      clear hk1 hz1 ht hvm
      generalize H1 = H at hP hS ⊢
      obtain ⟨u_193, hu_193, rfl, iu_193⟩ := hw
      refine pu_join (fun H locs ls st => ∃ (g_194 : Nat) (g_195 : Int32), st = [] ∧ g_194 ≤ 6 ∧ va_P (dC, dI) vwCl (mo_w ad ck 0 1 0 (nI x18) g_182 (nI g_183) (nI g_184) g_185 x24 x25 (nI g_194) g_195 0 (nI x29) (nI x30) (nI x33) x45 (nI x46) (nI x52) (nI x53) (nI x61) (nI x62) (nI x63) (nI x65) x66 g_163 g_166 g_167 (bN 3 g_168) (bN 7 g_169) (bN 7 g_170) (bN 4 g_171) g_172 (bN 2 g_173) (bH g_164) g_165 (b2 g_174 g_175) (b2 g_176 g_177) (b2 g_178 g_179) (b2m g_180 g_181) f17 (bA 159 q31) f32 f34 f35 f36 f37 (bN 7 q38) f39 f40 f41 (b2 m42_0 m42_1) f43 f44 f47 f48 f49 f50 f51 (bN 13 q54) (bN 120 q55) (bN 120 q56) f57 (bN 120 q58) f59 f60 f64) H ∧ va_D A (mo_w ad ck 0 1 0 (nI x18) g_182 (nI g_183) (nI g_184) g_185 x24 x25 (nI g_194) g_195 0 (nI x29) (nI x30) (nI x33) x45 (nI x46) (nI x52) (nI x53) (nI x61) (nI x62) (nI x63) (nI x65) x66 g_163 g_166 g_167 (bN 3 g_168) (bN 7 g_169) (bN 7 g_170) (bN 4 g_171) g_172 (bN 2 g_173) (bH g_164) g_165 (b2 g_174 g_175) (b2 g_176 g_177) (b2 g_178 g_179) (b2m g_180 g_181) f17 (bA 159 q31) f32 f34 f35 f36 f37 (bN 7 q38) f39 f40 f41 (b2 m42_0 m42_1) f43 f44 f47 f48 f49 f50 f51 (bN 13 q54) (bN 120 q55) (bN 120 q56) f57 (bN 120 q58) f59 f60 f64) ∧ va_S A s.heap H locs ∧ lv_has ls 1 [(0, .ref (ad 0))]) 160 ?_ (fun j_196 => ?_)
      · rintro H locs ls st ⟨g_194, g_195, rfl, hg_194, hP, hD, hS, hl⟩
        refine lv_aload_n hx hb dX9_automaton_160 rfl (lv_at hl 0 rfl) ?_
        refine lv_aload_n hx hb dX9_automaton_161 rfl (lv_at hl 0 rfl) ?_
        refine va_get (D := (dC, dI)) (ci := 9) (v := .int (nI g_194)) (C := RX9) (T := TX9) (N := 67) hx hb hts hiX9 hown hK hP 0 rfl rfl 26 (by decide) v_5 (fun _ h9 => h9) rfl dX9_automaton_162 ?_
        refine va_put (D := (dC, dI)) (ci := 9) (v := .int (nI g_194)) (ty := .int) (C := RX9) (T := TX9) (N := 67) hx hb hts hiX9 tyX9 tyX9_ok nmX9 hown hK hP hD hS 0 rfl rfl 24 (by decide) v_34 (fun _ h9 => h9) rfl (by decide +kernel) rfl rfl (Nat.le_of_ble_eq_true rfl) dX9_automaton_165 (fun H locs hP hD hS => ?_)
        have hP : va_P (dC, dI) vwCl (mo_w ad ck 0 1 0 (nI x18) g_182 (nI g_183) (nI g_184) g_185 (nI g_194) x25 (nI g_194) g_195 0 (nI x29) (nI x30) (nI x33) x45 (nI x46) (nI x52) (nI x53) (nI x61) (nI x62) (nI x63) (nI x65) x66 g_163 g_166 g_167 (bN 3 g_168) (bN 7 g_169) (bN 7 g_170) (bN 4 g_171) g_172 (bN 2 g_173) (bH g_164) g_165 (b2 g_174 g_175) (b2 g_176 g_177) (b2 g_178 g_179) (b2m g_180 g_181) f17 (bA 159 q31) f32 f34 f35 f36 f37 (bN 7 q38) f39 f40 f41 (b2 m42_0 m42_1) f43 f44 f47 f48 f49 f50 f51 (bN 13 q54) (bN 120 q55) (bN 120 q56) f57 (bN 120 q58) f59 f60 f64) H := hP
        have hD : va_D A (mo_w ad ck 0 1 0 (nI x18) g_182 (nI g_183) (nI g_184) g_185 (nI g_194) x25 (nI g_194) g_195 0 (nI x29) (nI x30) (nI x33) x45 (nI x46) (nI x52) (nI x53) (nI x61) (nI x62) (nI x63) (nI x65) x66 g_163 g_166 g_167 (bN 3 g_168) (bN 7 g_169) (bN 7 g_170) (bN 4 g_171) g_172 (bN 2 g_173) (bH g_164) g_165 (b2 g_174 g_175) (b2 g_176 g_177) (b2 g_178 g_179) (b2m g_180 g_181) f17 (bA 159 q31) f32 f34 f35 f36 f37 (bN 7 q38) f39 f40 f41 (b2 m42_0 m42_1) f43 f44 f47 f48 f49 f50 f51 (bN 13 q54) (bN 120 q55) (bN 120 q56) f57 (bN 120 q58) f59 f60 f64) := hD
        refine lv_aload_n hx hb dX9_automaton_168 rfl (lv_at hl 0 rfl) ?_
        refine lv_aload_n hx hb dX9_automaton_169 rfl (lv_at hl 0 rfl) ?_
        refine va_get (D := (dC, dI)) (ci := 9) (v := .int (nI g_194)) (C := RX9) (T := TX9) (N := 67) hx hb hts hiX9 hown hK hP 0 rfl rfl 26 (by decide) v_5 (fun _ h9 => h9) rfl dX9_automaton_170 ?_
        refine pu_join (fun H locs ls st => ∃ (g_197 : Int32), st = [.int g_197, .ref (ad 0)] ∧ va_P (dC, dI) vwCl (mo_w ad ck 0 1 0 (nI x18) g_182 (nI g_183) (nI g_184) g_185 (nI g_194) x25 (nI g_194) g_195 0 (nI x29) (nI x30) (nI x33) x45 (nI x46) (nI x52) (nI x53) (nI x61) (nI x62) (nI x63) (nI x65) x66 g_163 g_166 g_167 (bN 3 g_168) (bN 7 g_169) (bN 7 g_170) (bN 4 g_171) g_172 (bN 2 g_173) (bH g_164) g_165 (b2 g_174 g_175) (b2 g_176 g_177) (b2 g_178 g_179) (b2m g_180 g_181) f17 (bA 159 q31) f32 f34 f35 f36 f37 (bN 7 q38) f39 f40 f41 (b2 m42_0 m42_1) f43 f44 f47 f48 f49 f50 f51 (bN 13 q54) (bN 120 q55) (bN 120 q56) f57 (bN 120 q58) f59 f60 f64) H ∧ va_D A (mo_w ad ck 0 1 0 (nI x18) g_182 (nI g_183) (nI g_184) g_185 (nI g_194) x25 (nI g_194) g_195 0 (nI x29) (nI x30) (nI x33) x45 (nI x46) (nI x52) (nI x53) (nI x61) (nI x62) (nI x63) (nI x65) x66 g_163 g_166 g_167 (bN 3 g_168) (bN 7 g_169) (bN 7 g_170) (bN 4 g_171) g_172 (bN 2 g_173) (bH g_164) g_165 (b2 g_174 g_175) (b2 g_176 g_177) (b2 g_178 g_179) (b2m g_180 g_181) f17 (bA 159 q31) f32 f34 f35 f36 f37 (bN 7 q38) f39 f40 f41 (b2 m42_0 m42_1) f43 f44 f47 f48 f49 f50 f51 (bN 13 q54) (bN 120 q55) (bN 120 q56) f57 (bN 120 q58) f59 f60 f64) ∧ va_S A s.heap H locs ∧ lv_has ls 1 [(0, .ref (ad 0))]) 184 ?_ (fun j_198 => ?_)
        · rintro H locs ls st ⟨g_197, rfl, hP, hD, hS, hl⟩
          refine va_put (D := (dC, dI)) (ci := 9) (v := .int g_197) (ty := .int) (C := RX9) (T := TX9) (N := 67) hx hb hts hiX9 tyX9 tyX9_ok nmX9 hown hK hP hD hS 0 rfl rfl 25 (by decide) v_36 (fun _ h9 => h9) rfl (by decide +kernel) rfl rfl (Nat.le_of_ble_eq_true rfl) dX9_automaton_184 (fun H locs hP hD hS => ?_)
          have hP : va_P (dC, dI) vwCl (mo_w ad ck 0 1 0 (nI x18) g_182 (nI g_183) (nI g_184) g_185 (nI g_194) g_197 (nI g_194) g_195 0 (nI x29) (nI x30) (nI x33) x45 (nI x46) (nI x52) (nI x53) (nI x61) (nI x62) (nI x63) (nI x65) x66 g_163 g_166 g_167 (bN 3 g_168) (bN 7 g_169) (bN 7 g_170) (bN 4 g_171) g_172 (bN 2 g_173) (bH g_164) g_165 (b2 g_174 g_175) (b2 g_176 g_177) (b2 g_178 g_179) (b2m g_180 g_181) f17 (bA 159 q31) f32 f34 f35 f36 f37 (bN 7 q38) f39 f40 f41 (b2 m42_0 m42_1) f43 f44 f47 f48 f49 f50 f51 (bN 13 q54) (bN 120 q55) (bN 120 q56) f57 (bN 120 q58) f59 f60 f64) H := hP
          have hD : va_D A (mo_w ad ck 0 1 0 (nI x18) g_182 (nI g_183) (nI g_184) g_185 (nI g_194) g_197 (nI g_194) g_195 0 (nI x29) (nI x30) (nI x33) x45 (nI x46) (nI x52) (nI x53) (nI x61) (nI x62) (nI x63) (nI x65) x66 g_163 g_166 g_167 (bN 3 g_168) (bN 7 g_169) (bN 7 g_170) (bN 4 g_171) g_172 (bN 2 g_173) (bH g_164) g_165 (b2 g_174 g_175) (b2 g_176 g_177) (b2 g_178 g_179) (b2m g_180 g_181) f17 (bA 159 q31) f32 f34 f35 f36 f37 (bN 7 q38) f39 f40 f41 (b2 m42_0 m42_1) f43 f44 f47 f48 f49 f50 f51 (bN 13 q54) (bN 120 q55) (bN 120 q56) f57 (bN 120 q58) f59 f60 f64) := hD
          refine lv_aload_n hx hb dX9_automaton_187 rfl (lv_at hl 0 rfl) ?_
          refine va_calli (va_runV (As := []) (rest := []) ⟨hx, hb, hml, hown, hts⟩ (c_M_isGood l dC dI _ ad ck 0 1 0 x18 g_182 g_183 g_184 g_185 (nI g_194) g_197 g_194 g_195 0 x29 x30 x33 x45 x46 x52 x53 x61 x62 x63 x65 x66 g_163 g_166 g_167 g_168 g_169 g_170 g_171 g_172 g_173 g_164 g_165 g_174 g_175 g_176 g_177 g_178 g_179 g_180 g_181 f17 q31 f32 f34 f35 f36 f37 q38 f39 f40 f41 m42_0 m42_1 f43 f44 f47 f48 f49 f50 f51 q54 q55 q56 f57 q58 f59 f60 f64 (Nat.le_of_ble_eq_true rfl) (Nat.le_of_ble_eq_true rfl) hx18 hg_183 hg_184 hg_194 (Nat.le_of_ble_eq_true rfl) hx29 hx30 hx33 hx46 hx52 hx53 hx61 hx62 hx63 hx65 hg_174 hg_175 hg_176 hg_177 hg_178 hg_179 hg_180 hg_181 hm42_0 hm42_1) (cwV 0 hts g_M_automaton_M_isGood rfl rfl rfl (by decide +kernel) ⟨Nat.le_of_ble_eq_true rfl, Nat.le_of_ble_eq_true rfl⟩) ⟨pu_bl, va_recv hK hP (ci := 9) (q0 := 0) rfl rfl, pu_in hP hK hD⟩ rfl rfl hl.1 rfl (lv_room (Nat.le_of_ble_eq_true rfl)) dX9_automaton_188 ⟨Nat.le_of_ble_eq_true rfl, Nat.le_of_ble_eq_true rfl⟩) hS (fun q _ h => pu_fr hS hA q h) (pu_fr hS hA) (fun r_199 u t H1 locs ht hvm hw hB hz1 hk1 hS => ?_)
          have hP := pu_keep hP hk1
          clear hk1 hz1 ht hvm
          generalize H1 = H at hP hS ⊢
          obtain ⟨u_200, hu_200, rfl, iu_200⟩ := hw
          refine lv_if_ne (tgt := 196) hx hb dX9_automaton_191 (by decide) (fun c_201 => ?_) (fun c_201 => ?_)
          · have c_201 : ¬ u_200 = 0 := fun z => c_201 ((nI_eq (a := u_200) (b := 0) (Nat.lt_of_le_of_lt hu_200 (Nat.le_of_ble_eq_true rfl)) (Nat.le_of_ble_eq_true rfl)).mpr z)
            refine lv_aload_n hx hb dX9_automaton_196 rfl (lv_at hl 0 rfl) ?_
            refine lv_aload_n hx hb dX9_automaton_197 rfl (lv_at hl 0 rfl) ?_
            refine va_get (D := (dC, dI)) (ci := 9) (v := .int 0) (C := RX9) (T := TX9) (N := 67) hx hb hts hiX9 hown hK hP 0 rfl rfl 28 (by decide) v_7 (fun _ h9 => h9) rfl dX9_automaton_198 ?_
            refine va_put (D := (dC, dI)) (ci := 9) (v := .int 0) (ty := .int) (C := RX9) (T := TX9) (N := 67) hx hb hts hiX9 tyX9 tyX9_ok nmX9 hown hK hP hD hS 0 rfl rfl 16 (by decide) v_6 (fun _ h9 => h9) rfl (by decide +kernel) rfl rfl (Nat.le_of_ble_eq_true rfl) dX9_automaton_201 (fun H locs hP hD hS => ?_)
            have hP : va_P (dC, dI) vwCl (mo_w ad ck 0 0 0 (nI x18) g_182 (nI g_183) (nI g_184) g_185 (nI g_194) g_197 (nI g_194) g_195 0 (nI x29) (nI x30) (nI x33) x45 (nI x46) (nI x52) (nI x53) (nI x61) (nI x62) (nI x63) (nI x65) x66 g_163 g_166 g_167 (bN 3 g_168) (bN 7 g_169) (bN 7 g_170) (bN 4 g_171) g_172 (bN 2 g_173) (bH g_164) g_165 (b2 g_174 g_175) (b2 g_176 g_177) (b2 g_178 g_179) (b2m g_180 g_181) f17 (bA 159 q31) f32 f34 f35 f36 f37 (bN 7 q38) f39 f40 f41 (b2 m42_0 m42_1) f43 f44 f47 f48 f49 f50 f51 (bN 13 q54) (bN 120 q55) (bN 120 q56) f57 (bN 120 q58) f59 f60 f64) H := hP
            have hD : va_D A (mo_w ad ck 0 0 0 (nI x18) g_182 (nI g_183) (nI g_184) g_185 (nI g_194) g_197 (nI g_194) g_195 0 (nI x29) (nI x30) (nI x33) x45 (nI x46) (nI x52) (nI x53) (nI x61) (nI x62) (nI x63) (nI x65) x66 g_163 g_166 g_167 (bN 3 g_168) (bN 7 g_169) (bN 7 g_170) (bN 4 g_171) g_172 (bN 2 g_173) (bH g_164) g_165 (b2 g_174 g_175) (b2 g_176 g_177) (b2 g_178 g_179) (b2m g_180 g_181) f17 (bA 159 q31) f32 f34 f35 f36 f37 (bN 7 q38) f39 f40 f41 (b2 m42_0 m42_1) f43 f44 f47 f48 f49 f50 f51 (bN 13 q54) (bN 120 q55) (bN 120 q56) f57 (bN 120 q58) f59 f60 f64) := hD
            refine lv_aload_n hx hb dX9_automaton_204 rfl (lv_at hl 0 rfl) ?_
            refine va_get (D := (dC, dI)) (ci := 9) (v := .ref (ad 15)) (C := RX9) (T := TX9) (N := 67) hx hb hts hiX9 hown hK hP 0 rfl rfl 15 (by decide) v_11 (fun _ h9 => h9) rfl dX9_automaton_205 ?_
            refine lv_aload_n hx hb dX9_automaton_208 rfl (lv_at hl 0 rfl) ?_
            refine va_get (D := (dC, dI)) (ci := 9) (v := .int 0) (C := RX9) (T := TX9) (N := 67) hx hb hts hiX9 hown hK hP 0 rfl rfl 16 (by decide) v_6 (fun _ h9 => h9) rfl dX9_automaton_209 ?_
            refine va_iald hx hb hK hP 15 14 rfl rfl (vp_in_nI (n := 0) (Nat.le_of_ble_eq_true rfl) (Nat.le_of_ble_eq_true rfl)) dX9_automaton_212 ?_
            refine lv_topi (fun y_202 ey_202 => ?_)
            have qy_202 := ey_202.trans b2m_0
            clear ey_202
            rcases mI_get g_180 with ⟨zy_202, wy_202⟩ | ⟨vy_202, zy_202, wy_202⟩
            · obtain rfl : y_202 = -1 := qy_202.trans wy_202
              refine lv_if_ge (tgt := 226) hx hb dX9_automaton_213 (by decide) (fun z => absurd z (by decide)) (fun _ => ?_)
              refine lv_aload_n hx hb dX9_automaton_216 rfl (lv_at hl 0 rfl) ?_
              refine va_get (D := (dC, dI)) (ci := 9) (v := .ref (ad 15)) (C := RX9) (T := TX9) (N := 67) hx hb hts hiX9 hown hK hP 0 rfl rfl 15 (by decide) v_11 (fun _ h9 => h9) rfl dX9_automaton_217 ?_
              refine lv_aload_n hx hb dX9_automaton_220 rfl (lv_at hl 0 rfl) ?_
              refine va_get (D := (dC, dI)) (ci := 9) (v := .int 0) (C := RX9) (T := TX9) (N := 67) hx hb hts hiX9 hown hK hP 0 rfl rfl 16 (by decide) v_6 (fun _ h9 => h9) rfl dX9_automaton_221 ?_
              refine lv_iconst (v := 0) hx hb dX9_automaton_224 (by decide) ?_
              refine va_iast hx hb hK hP hD hS 15 14 rfl rfl (vp_in_nI (n := 0) (Nat.le_of_ble_eq_true rfl) (Nat.le_of_ble_eq_true rfl)) dX9_automaton_225 (fun H locs hP hD hS => ?_)
              have hP : va_P (dC, dI) vwCl (mo_w ad ck 0 0 0 (nI x18) g_182 (nI g_183) (nI g_184) g_185 (nI g_194) g_197 (nI g_194) g_195 0 (nI x29) (nI x30) (nI x33) x45 (nI x46) (nI x52) (nI x53) (nI x61) (nI x62) (nI x63) (nI x65) x66 g_163 g_166 g_167 (bN 3 g_168) (bN 7 g_169) (bN 7 g_170) (bN 4 g_171) g_172 (bN 2 g_173) (bH g_164) g_165 (b2 g_174 g_175) (b2 g_176 g_177) (b2 g_178 g_179) (b2m (0 + 1) g_181) f17 (bA 159 q31) f32 f34 f35 f36 f37 (bN 7 q38) f39 f40 f41 (b2 m42_0 m42_1) f43 f44 f47 f48 f49 f50 f51 (bN 13 q54) (bN 120 q55) (bN 120 q56) f57 (bN 120 q58) f59 f60 f64) H := by rw [← b2m_up0 (a := g_180) (b := g_181) (v := 0)]; exact hP
              have hD : va_D A (mo_w ad ck 0 0 0 (nI x18) g_182 (nI g_183) (nI g_184) g_185 (nI g_194) g_197 (nI g_194) g_195 0 (nI x29) (nI x30) (nI x33) x45 (nI x46) (nI x52) (nI x53) (nI x61) (nI x62) (nI x63) (nI x65) x66 g_163 g_166 g_167 (bN 3 g_168) (bN 7 g_169) (bN 7 g_170) (bN 4 g_171) g_172 (bN 2 g_173) (bH g_164) g_165 (b2 g_174 g_175) (b2 g_176 g_177) (b2 g_178 g_179) (b2m (0 + 1) g_181) f17 (bA 159 q31) f32 f34 f35 f36 f37 (bN 7 q38) f39 f40 f41 (b2 m42_0 m42_1) f43 f44 f47 f48 f49 f50 f51 (bN 13 q54) (bN 120 q55) (bN 120 q56) f57 (bN 120 q58) f59 f60 f64) := by rw [← b2m_up0 (a := g_180) (b := g_181) (v := 0)]; exact hD
              refine lv_aload_n hx hb dX9_automaton_226 rfl (lv_at hl 0 rfl) ?_
              refine lv_iconst (v := 0) hx hb dX9_automaton_227 (by decide) ?_
              refine va_put (D := (dC, dI)) (ci := 9) (v := .int 0) (ty := .int) (C := RX9) (T := TX9) (N := 67) hx hb hts hiX9 tyX9 tyX9_ok nmX9 hown hK hP hD hS 0 rfl rfl 33 (by decide) v_37 (fun _ h9 => h9) rfl (by decide +kernel) rfl rfl (Nat.le_of_ble_eq_true rfl) dX9_automaton_228 (fun H locs hP hD hS => ?_)
              have hP : va_P (dC, dI) vwCl (mo_w ad ck 0 0 0 (nI x18) g_182 (nI g_183) (nI g_184) g_185 (nI g_194) g_197 (nI g_194) g_195 0 (nI x29) (nI x30) 0 x45 (nI x46) (nI x52) (nI x53) (nI x61) (nI x62) (nI x63) (nI x65) x66 g_163 g_166 g_167 (bN 3 g_168) (bN 7 g_169) (bN 7 g_170) (bN 4 g_171) g_172 (bN 2 g_173) (bH g_164) g_165 (b2 g_174 g_175) (b2 g_176 g_177) (b2 g_178 g_179) (b2m (0 + 1) g_181) f17 (bA 159 q31) f32 f34 f35 f36 f37 (bN 7 q38) f39 f40 f41 (b2 m42_0 m42_1) f43 f44 f47 f48 f49 f50 f51 (bN 13 q54) (bN 120 q55) (bN 120 q56) f57 (bN 120 q58) f59 f60 f64) H := hP
              have hD : va_D A (mo_w ad ck 0 0 0 (nI x18) g_182 (nI g_183) (nI g_184) g_185 (nI g_194) g_197 (nI g_194) g_195 0 (nI x29) (nI x30) 0 x45 (nI x46) (nI x52) (nI x53) (nI x61) (nI x62) (nI x63) (nI x65) x66 g_163 g_166 g_167 (bN 3 g_168) (bN 7 g_169) (bN 7 g_170) (bN 4 g_171) g_172 (bN 2 g_173) (bH g_164) g_165 (b2 g_174 g_175) (b2 g_176 g_177) (b2 g_178 g_179) (b2m (0 + 1) g_181) f17 (bA 159 q31) f32 f34 f35 f36 f37 (bN 7 q38) f39 f40 f41 (b2 m42_0 m42_1) f43 f44 f47 f48 f49 f50 f51 (bN 13 q54) (bN 120 q55) (bN 120 q56) f57 (bN 120 q58) f59 f60 f64) := hD
              refine lv_aload_n hx hb dX9_automaton_231 rfl (lv_at hl 0 rfl) ?_
              have hFc := pu_free hD hS hA
              refine va_callv (va_runV (As := []) (rest := []) ⟨hx, hb, hml, hown, hts⟩ (c_M_another l dC dI _ ad ck 0 0 0 x18 g_182 g_183 g_184 g_185 (nI g_194) g_197 g_194 g_195 0 x29 x30 0 x45 x46 x52 x53 x61 x62 x63 x65 x66 g_163 g_166 g_167 g_168 g_169 g_170 g_171 g_172 g_173 g_164 g_165 g_174 g_175 g_176 g_177 g_178 g_179 (0 + 1) g_181 f17 q31 f32 f34 f35 f36 f37 q38 f39 f40 f41 m42_0 m42_1 f43 f44 f47 f48 f49 f50 f51 q54 q55 q56 f57 q58 f59 f60 f64 (Nat.le_of_ble_eq_true rfl) (Nat.le_of_ble_eq_true rfl) hx18 hg_183 hg_184 hg_194 (Nat.le_of_ble_eq_true rfl) hx29 hx30 (Nat.le_of_ble_eq_true rfl) hx46 hx52 hx53 hx61 hx62 hx63 hx65 hg_174 hg_175 hg_176 hg_177 hg_178 hg_179 (by omega) hg_181 hm42_0 hm42_1) (cwV 0 hts g_M_automaton_M_another rfl rfl rfl (by decide +kernel) ⟨Nat.le_of_ble_eq_true rfl, Nat.le_of_ble_eq_true rfl⟩) ⟨pu_bl, va_recv hK hP (ci := 9) (q0 := 0) rfl rfl, pu_in hP hK hD⟩ rfl rfl hl.1 rfl (lv_room (Nat.le_of_ble_eq_true rfl)) dX9_automaton_232 ⟨Nat.le_of_ble_eq_true rfl, Nat.le_of_ble_eq_true rfl⟩) hS (fun q _ h => hFc q h) hFc (fun u t H1 locs ht hvm hw hB hz1 hk1 hS => ?_)
              obtain ⟨z29_204, z30_205, ⟨hP1, -, hD1⟩, hz29_204, hz30_205⟩ := hB
              rw [ht] at hP1
              have hP := hP1
              have hD := pu_all hFc hD1
              clear hP1 hD1 hFc
              clear hk1 hz1 ht hvm
              generalize H1 = H at hP hS ⊢
              refine lv_aload_n hx hb dX9_automaton_235 rfl (lv_at hl 0 rfl) ?_
              refine va_get (D := (dC, dI)) (ci := 9) (v := .ref (ad 13)) (C := RX9) (T := TX9) (N := 67) hx hb hts hiX9 hown hK hP 0 rfl rfl 13 (by decide) v_9 (fun _ h9 => h9) rfl dX9_automaton_236 ?_
              refine lv_aload_n hx hb dX9_automaton_239 rfl (lv_at hl 0 rfl) ?_
              refine va_get (D := (dC, dI)) (ci := 9) (v := .int 0) (C := RX9) (T := TX9) (N := 67) hx hb hts hiX9 hown hK hP 0 rfl rfl 16 (by decide) v_6 (fun _ h9 => h9) rfl dX9_automaton_240 ?_
              refine va_iald hx hb hK hP 13 12 rfl rfl (vp_in_nI (n := 0) (Nat.le_of_ble_eq_true rfl) (Nat.le_of_ble_eq_true rfl)) dX9_automaton_243 ?_
              refine lv_topi (fun y_206 ey_206 => ?_)
              have qy_206 := ey_206.trans b2_0
              clear ey_206
              obtain rfl : y_206 = nI g_176 := qy_206
              exact W.iret (v := (nI g_176)) hx hb hr (fun t ht hW => ⟨⟨(nI g_176), (), rfl, trivial, ⟨g_163, g_164, g_165, g_166, g_167, g_168, g_169, g_170, g_171, g_172, g_173, g_174, g_175, g_176, g_177, g_178, g_179, (0 + 1), g_181, 0, 0, x18, g_182, g_183, g_184, g_185, (nI g_194), g_197, g_194, g_195, 0, z29_204, z30_205, 0, ⟨by rw [ht]; exact hP, va_K.moved hW.alike hK, hD⟩, hg_174, hg_175, hg_176, hg_177, hg_178, hg_179, (by omega), hg_181, (Nat.le_of_ble_eq_true rfl), hx18, hg_183, hg_184, hg_194, (Nat.le_of_ble_eq_true rfl), hz29_204, hz30_205, (Nat.le_of_ble_eq_true rfl), by omega⟩⟩, hS.F ht⟩) hS.2.2 dX9_automaton_244
            · obtain rfl : y_202 = nI vy_202 := qy_202.trans wy_202
              refine lv_if_ge (tgt := 226) hx hb dX9_automaton_213 (by decide) (fun c_207 => ?_) (fun c_207 => ?_)
              · have c_207 : 0 ≤ vy_202 := (nI_leI (a := 0) (b := vy_202) (Nat.le_of_ble_eq_true rfl) (by omega)).mp c_207
                refine lv_aload_n hx hb dX9_automaton_226 rfl (lv_at hl 0 rfl) ?_
                refine lv_iconst (v := 0) hx hb dX9_automaton_227 (by decide) ?_
                refine va_put (D := (dC, dI)) (ci := 9) (v := .int 0) (ty := .int) (C := RX9) (T := TX9) (N := 67) hx hb hts hiX9 tyX9 tyX9_ok nmX9 hown hK hP hD hS 0 rfl rfl 33 (by decide) v_37 (fun _ h9 => h9) rfl (by decide +kernel) rfl rfl (Nat.le_of_ble_eq_true rfl) dX9_automaton_228 (fun H locs hP hD hS => ?_)
                have hP : va_P (dC, dI) vwCl (mo_w ad ck 0 0 0 (nI x18) g_182 (nI g_183) (nI g_184) g_185 (nI g_194) g_197 (nI g_194) g_195 0 (nI x29) (nI x30) 0 x45 (nI x46) (nI x52) (nI x53) (nI x61) (nI x62) (nI x63) (nI x65) x66 g_163 g_166 g_167 (bN 3 g_168) (bN 7 g_169) (bN 7 g_170) (bN 4 g_171) g_172 (bN 2 g_173) (bH g_164) g_165 (b2 g_174 g_175) (b2 g_176 g_177) (b2 g_178 g_179) (b2m g_180 g_181) f17 (bA 159 q31) f32 f34 f35 f36 f37 (bN 7 q38) f39 f40 f41 (b2 m42_0 m42_1) f43 f44 f47 f48 f49 f50 f51 (bN 13 q54) (bN 120 q55) (bN 120 q56) f57 (bN 120 q58) f59 f60 f64) H := hP
                have hD : va_D A (mo_w ad ck 0 0 0 (nI x18) g_182 (nI g_183) (nI g_184) g_185 (nI g_194) g_197 (nI g_194) g_195 0 (nI x29) (nI x30) 0 x45 (nI x46) (nI x52) (nI x53) (nI x61) (nI x62) (nI x63) (nI x65) x66 g_163 g_166 g_167 (bN 3 g_168) (bN 7 g_169) (bN 7 g_170) (bN 4 g_171) g_172 (bN 2 g_173) (bH g_164) g_165 (b2 g_174 g_175) (b2 g_176 g_177) (b2 g_178 g_179) (b2m g_180 g_181) f17 (bA 159 q31) f32 f34 f35 f36 f37 (bN 7 q38) f39 f40 f41 (b2 m42_0 m42_1) f43 f44 f47 f48 f49 f50 f51 (bN 13 q54) (bN 120 q55) (bN 120 q56) f57 (bN 120 q58) f59 f60 f64) := hD
                refine lv_aload_n hx hb dX9_automaton_231 rfl (lv_at hl 0 rfl) ?_
                have hFc := pu_free hD hS hA
                refine va_callv (va_runV (As := []) (rest := []) ⟨hx, hb, hml, hown, hts⟩ (c_M_another l dC dI _ ad ck 0 0 0 x18 g_182 g_183 g_184 g_185 (nI g_194) g_197 g_194 g_195 0 x29 x30 0 x45 x46 x52 x53 x61 x62 x63 x65 x66 g_163 g_166 g_167 g_168 g_169 g_170 g_171 g_172 g_173 g_164 g_165 g_174 g_175 g_176 g_177 g_178 g_179 g_180 g_181 f17 q31 f32 f34 f35 f36 f37 q38 f39 f40 f41 m42_0 m42_1 f43 f44 f47 f48 f49 f50 f51 q54 q55 q56 f57 q58 f59 f60 f64 (Nat.le_of_ble_eq_true rfl) (Nat.le_of_ble_eq_true rfl) hx18 hg_183 hg_184 hg_194 (Nat.le_of_ble_eq_true rfl) hx29 hx30 (Nat.le_of_ble_eq_true rfl) hx46 hx52 hx53 hx61 hx62 hx63 hx65 hg_174 hg_175 hg_176 hg_177 hg_178 hg_179 hg_180 hg_181 hm42_0 hm42_1) (cwV 0 hts g_M_automaton_M_another rfl rfl rfl (by decide +kernel) ⟨Nat.le_of_ble_eq_true rfl, Nat.le_of_ble_eq_true rfl⟩) ⟨pu_bl, va_recv hK hP (ci := 9) (q0 := 0) rfl rfl, pu_in hP hK hD⟩ rfl rfl hl.1 rfl (lv_room (Nat.le_of_ble_eq_true rfl)) dX9_automaton_232 ⟨Nat.le_of_ble_eq_true rfl, Nat.le_of_ble_eq_true rfl⟩) hS (fun q _ h => hFc q h) hFc (fun u t H1 locs ht hvm hw hB hz1 hk1 hS => ?_)
                obtain ⟨z29_209, z30_210, ⟨hP1, -, hD1⟩, hz29_209, hz30_210⟩ := hB
                rw [ht] at hP1
                have hP := hP1
                have hD := pu_all hFc hD1
                clear hP1 hD1 hFc
                clear hk1 hz1 ht hvm
                generalize H1 = H at hP hS ⊢
                refine lv_aload_n hx hb dX9_automaton_235 rfl (lv_at hl 0 rfl) ?_
                refine va_get (D := (dC, dI)) (ci := 9) (v := .ref (ad 13)) (C := RX9) (T := TX9) (N := 67) hx hb hts hiX9 hown hK hP 0 rfl rfl 13 (by decide) v_9 (fun _ h9 => h9) rfl dX9_automaton_236 ?_
                refine lv_aload_n hx hb dX9_automaton_239 rfl (lv_at hl 0 rfl) ?_
                refine va_get (D := (dC, dI)) (ci := 9) (v := .int 0) (C := RX9) (T := TX9) (N := 67) hx hb hts hiX9 hown hK hP 0 rfl rfl 16 (by decide) v_6 (fun _ h9 => h9) rfl dX9_automaton_240 ?_
                refine va_iald hx hb hK hP 13 12 rfl rfl (vp_in_nI (n := 0) (Nat.le_of_ble_eq_true rfl) (Nat.le_of_ble_eq_true rfl)) dX9_automaton_243 ?_
                refine lv_topi (fun y_211 ey_211 => ?_)
                have qy_211 := ey_211.trans b2_0
                clear ey_211
                obtain rfl : y_211 = nI g_176 := qy_211
                exact W.iret (v := (nI g_176)) hx hb hr (fun t ht hW => ⟨⟨(nI g_176), (), rfl, trivial, ⟨g_163, g_164, g_165, g_166, g_167, g_168, g_169, g_170, g_171, g_172, g_173, g_174, g_175, g_176, g_177, g_178, g_179, g_180, g_181, 0, 0, x18, g_182, g_183, g_184, g_185, (nI g_194), g_197, g_194, g_195, 0, z29_209, z30_210, 0, ⟨by rw [ht]; exact hP, va_K.moved hW.alike hK, hD⟩, hg_174, hg_175, hg_176, hg_177, hg_178, hg_179, hg_180, hg_181, (Nat.le_of_ble_eq_true rfl), hx18, hg_183, hg_184, hg_194, (Nat.le_of_ble_eq_true rfl), hz29_209, hz30_210, (Nat.le_of_ble_eq_true rfl), by omega⟩⟩, hS.F ht⟩) hS.2.2 dX9_automaton_244
              · have c_207 : ¬ 0 ≤ vy_202 := fun z => c_207 ((nI_leI (a := 0) (b := vy_202) (Nat.le_of_ble_eq_true rfl) (by omega)).mpr z)
                exfalso
                omega
          · have c_201 : u_200 = 0 := (nI_eq (a := u_200) (b := 0) (Nat.lt_of_le_of_lt hu_200 (Nat.le_of_ble_eq_true rfl)) (Nat.le_of_ble_eq_true rfl)).mp c_201
            refine lv_iconst (v := (-1)) hx hb dX9_automaton_194 (by decide) ?_
            exact W.iret (v := (-1)) hx hb hr (fun t ht hW => ⟨⟨(-1), (), rfl, trivial, ⟨g_163, g_164, g_165, g_166, g_167, g_168, g_169, g_170, g_171, g_172, g_173, g_174, g_175, g_176, g_177, g_178, g_179, g_180, g_181, 0, 1, x18, g_182, g_183, g_184, g_185, (nI g_194), g_197, g_194, g_195, 0, x29, x30, x33, ⟨by rw [ht]; exact hP, va_K.moved hW.alike hK, hD⟩, hg_174, hg_175, hg_176, hg_177, hg_178, hg_179, hg_180, hg_181, (Nat.le_of_ble_eq_true rfl), hx18, hg_183, hg_184, hg_194, (Nat.le_of_ble_eq_true rfl), hx29, hx30, hx33, by omega⟩⟩, hS.F ht⟩) hS.2.2 dX9_automaton_195
        refine lv_if_ne (tgt := 180) hx hb dX9_automaton_173 (by decide) (fun c_212 => ?_) (fun c_212 => ?_)
        · have c_212 : ¬ g_194 = 0 := fun z => c_212 ((nI_eq (a := g_194) (b := 0) (Nat.lt_of_le_of_lt hg_194 (Nat.le_of_ble_eq_true rfl)) (Nat.le_of_ble_eq_true rfl)).mpr z)
          refine lv_aload_n hx hb dX9_automaton_180 rfl (lv_at hl 0 rfl) ?_
          refine va_get (D := (dC, dI)) (ci := 9) (v := .int g_195) (C := RX9) (T := TX9) (N := 67) hx hb hts hiX9 hown hK hP 0 rfl rfl 27 (by decide) v_35 (fun _ h9 => h9) rfl dX9_automaton_181 ?_
          exact j_198 _ _ _ _ ⟨g_195, rfl, hP, hD, hS, lv_sub hl [0] rfl⟩
        · have c_212 : g_194 = 0 := (nI_eq (a := g_194) (b := 0) (Nat.lt_of_le_of_lt hg_194 (Nat.le_of_ble_eq_true rfl)) (Nat.le_of_ble_eq_true rfl)).mp c_212
          refine lv_iconst (v := (-1)) hx hb dX9_automaton_176 (by decide) ?_
          refine lv_goto (tgt := 184) hx hb dX9_automaton_177 (by decide) ?_
          exact j_198 _ _ _ _ ⟨(-1), rfl, hP, hD, hS, lv_sub hl [0] rfl⟩
      refine lv_if_eq (tgt := 160) hx hb dX9_automaton_139 (by decide) (fun c_213 => ?_) (fun c_213 => ?_)
      · have c_213 : u_193 = 0 := (nI_eq (a := u_193) (b := 0) (Nat.lt_of_le_of_lt hu_193 (Nat.le_of_ble_eq_true rfl)) (Nat.le_of_ble_eq_true rfl)).mp c_213
        exact j_196 _ _ _ _ ⟨g_186, g_187, rfl, hg_186, hP, hD, hS, lv_sub hl [0] rfl⟩
      · have c_213 : ¬ u_193 = 0 := fun z => c_213 ((nI_eq (a := u_193) (b := 0) (Nat.lt_of_le_of_lt hu_193 (Nat.le_of_ble_eq_true rfl)) (Nat.le_of_ble_eq_true rfl)).mpr z)
        refine lv_aload_n hx hb dX9_automaton_142 rfl (lv_at hl 0 rfl) ?_
        refine va_get (D := (dC, dI)) (ci := 9) (v := .ref (ad 13)) (C := RX9) (T := TX9) (N := 67) hx hb hts hiX9 hown hK hP 0 rfl rfl 13 (by decide) v_9 (fun _ h9 => h9) rfl dX9_automaton_143 ?_
        refine lv_aload_n hx hb dX9_automaton_146 rfl (lv_at hl 0 rfl) ?_
        refine va_get (D := (dC, dI)) (ci := 9) (v := .int 0) (C := RX9) (T := TX9) (N := 67) hx hb hts hiX9 hown hK hP 0 rfl rfl 28 (by decide) v_7 (fun _ h9 => h9) rfl dX9_automaton_147 ?_
        refine va_iald hx hb hK hP 13 12 rfl rfl (vp_in_nI (n := 0) (Nat.le_of_ble_eq_true rfl) (Nat.le_of_ble_eq_true rfl)) dX9_automaton_150 ?_
        refine lv_topi (fun y_214 ey_214 => ?_)
        have qy_214 := ey_214.trans b2_0
        clear ey_214
        obtain rfl : y_214 = nI g_176 := qy_214
        refine lv_if_ne (tgt := 160) hx hb dX9_automaton_151 (by decide) (fun c_215 => ?_) (fun c_215 => ?_)
        · have c_215 : ¬ g_176 = 0 := fun z => c_215 ((nI_eq (a := g_176) (b := 0) (Nat.lt_of_le_of_lt hg_176 (Nat.le_of_ble_eq_true rfl)) (Nat.le_of_ble_eq_true rfl)).mpr z)
          exact j_196 _ _ _ _ ⟨g_186, g_187, rfl, hg_186, hP, hD, hS, lv_sub hl [0] rfl⟩
        · have c_215 : g_176 = 0 := (nI_eq (a := g_176) (b := 0) (Nat.lt_of_le_of_lt hg_176 (Nat.le_of_ble_eq_true rfl)) (Nat.le_of_ble_eq_true rfl)).mp c_215
          refine lv_aload_n hx hb dX9_automaton_154 rfl (lv_at hl 0 rfl) ?_
          refine lv_bipush (v := 6) hx hb dX9_automaton_155 (by decide) ?_
          have hFc := pu_free hD hS hA
          refine va_callv (va_runV (As := [.int 6]) (rest := []) ⟨hx, hb, hml, hown, hts⟩ (c_M_fails l dC dI _ ad ck 0 1 0 x18 g_182 g_183 g_184 g_185 x24 x25 g_186 g_187 0 x29 x30 x33 x45 x46 x52 x53 x61 x62 x63 x65 x66 g_163 g_166 g_167 g_168 g_169 g_170 g_171 g_172 g_173 g_164 g_165 g_174 g_175 g_176 g_177 g_178 g_179 g_180 g_181 f17 q31 f32 f34 f35 f36 f37 q38 f39 f40 f41 m42_0 m42_1 f43 f44 f47 f48 f49 f50 f51 q54 q55 q56 f57 q58 f59 f60 f64 6 (Nat.le_of_ble_eq_true rfl) (Nat.le_of_ble_eq_true rfl) hx18 hg_183 hg_184 hg_186 (Nat.le_of_ble_eq_true rfl) hx29 hx30 hx33 hx46 hx52 hx53 hx61 hx62 hx63 hx65 hg_174 hg_175 hg_176 hg_177 hg_178 hg_179 hg_180 hg_181 hm42_0 hm42_1 (Nat.le_of_ble_eq_true rfl) (by omega)) (cwV 1 hts g_M_automaton_M_fails rfl rfl rfl (by decide +kernel) ⟨Nat.le_of_ble_eq_true rfl, Nat.le_of_ble_eq_true rfl⟩) ⟨pu_bl, va_recv hK hP (ci := 9) (q0 := 0) rfl rfl, pu_in hP hK hD⟩ rfl rfl hl.1 rfl (lv_room (Nat.le_of_ble_eq_true rfl)) dX9_automaton_157 ⟨Nat.le_of_ble_eq_true rfl, Nat.le_of_ble_eq_true rfl⟩) hS (fun q _ h => hFc q h) hFc (fun u t H1 locs ht hvm hw hB hz1 hk1 hS => ?_)
          obtain ⟨z26_217, z27_218, ⟨hP1, -, hD1⟩, hz26_217, xr_216_0⟩ := hB
          rw [ht] at hP1
          have hP := hP1
          have hD := pu_all hFc hD1
          clear hP1 hD1 hFc
          clear hk1 hz1 ht hvm
          generalize H1 = H at hP hS ⊢
          exact j_196 _ _ _ _ ⟨z26_217, z27_218, rfl, hz26_217, hP, hD, hS, lv_sub hl [0] rfl⟩
    refine lv_if_eq (tgt := 135) hx hb dX9_automaton_86 (by decide) (fun c_219 => ?_) (fun c_219 => ?_)
    · have c_219 : u_190 = 0 := (nI_eq (a := u_190) (b := 0) (Nat.lt_of_le_of_lt hu_190 (Nat.le_of_ble_eq_true rfl)) (Nat.le_of_ble_eq_true rfl)).mp c_219
      exact j_191 _ _ _ _ ⟨rfl, hP, hD, hS, lv_sub hl [0] rfl⟩
    · have c_219 : ¬ u_190 = 0 := fun z => c_219 ((nI_eq (a := u_190) (b := 0) (Nat.lt_of_le_of_lt hu_190 (Nat.le_of_ble_eq_true rfl)) (Nat.le_of_ble_eq_true rfl)).mpr z)
      refine lv_aload_n hx hb dX9_automaton_89 rfl (lv_at hl 0 rfl) ?_
      refine va_get (D := (dC, dI)) (ci := 9) (v := .int (nI g_184)) (C := RX9) (T := TX9) (N := 67) hx hb hts hiX9 hown hK hP 0 rfl rfl 22 (by decide) v_21 (fun _ h9 => h9) rfl dX9_automaton_90 ?_
      refine lv_if_eq (tgt := 135) hx hb dX9_automaton_93 (by decide) (fun c_220 => ?_) (fun c_220 => ?_)
      · have c_220 : g_184 = 0 := (nI_eq (a := g_184) (b := 0) (Nat.lt_of_le_of_lt hg_184 (Nat.le_of_ble_eq_true rfl)) (Nat.le_of_ble_eq_true rfl)).mp c_220
        exact j_191 _ _ _ _ ⟨rfl, hP, hD, hS, lv_sub hl [0] rfl⟩
      · have c_220 : ¬ g_184 = 0 := fun z => c_220 ((nI_eq (a := g_184) (b := 0) (Nat.lt_of_le_of_lt hg_184 (Nat.le_of_ble_eq_true rfl)) (Nat.le_of_ble_eq_true rfl)).mpr z)
        refine lv_aload_n hx hb dX9_automaton_96 rfl (lv_at hl 0 rfl) ?_
        have hFc := pu_free hD hS hA
        refine va_callv (va_runV (As := []) (rest := []) ⟨hx, hb, hml, hown, hts⟩ (c_M_readLine_0 l dC dI _ ad ck 0 1 0 x18 g_182 g_183 g_184 g_185 x24 x25 g_186 g_187 x29 x30 x33 x45 x46 x52 x53 x61 x62 x63 x65 x66 g_163 g_166 g_167 g_168 g_169 g_170 g_171 g_172 g_173 g_164 g_165 g_174 g_175 g_176 g_177 g_178 g_179 g_180 g_181 f17 q31 f32 f34 f35 f36 f37 q38 f39 f40 f41 m42_0 m42_1 f43 f44 f47 f48 f49 f50 f51 q54 q55 q56 f57 q58 f59 f60 f64 (Nat.le_of_ble_eq_true rfl) (Nat.le_of_ble_eq_true rfl) hx18 hg_183 hg_184 hg_186 hx29 hx30 hx33 hx46 hx52 hx53 hx61 hx62 hx63 hx65 hg_174 hg_175 hg_176 hg_177 hg_178 hg_179 hg_180 hg_181 hm42_0 hm42_1) (cwV 0 hts g_M_automaton_M_readLine_0 rfl rfl rfl (by decide +kernel) ⟨Nat.le_of_ble_eq_true rfl, Nat.le_of_ble_eq_true rfl⟩) ⟨pu_bl, va_recv hK hP (ci := 9) (q0 := 0) rfl rfl, pu_in hP hK hD⟩ rfl rfl hl.1 rfl (lv_room (Nat.le_of_ble_eq_true rfl)) dX9_automaton_97 ⟨Nat.le_of_ble_eq_true rfl, Nat.le_of_ble_eq_true rfl⟩) hS (fun q _ h => hFc q h) hFc (fun u t H1 locs ht hvm hw hB hz1 hk1 hS => ?_)
        obtain ⟨z1_222, z10_223, z11_224, z2_225, z3_226, z4_227, z5_228, z6_229, z7_230, z8_231, z9_232, z12_0_233, z13_0_234, z14_0_235, z15_0_236, z20_237, z21_238, z22_239, z23_240, z26_241, z27_242, ⟨hP1, -, hD1⟩, hz12_0_233, hz13_0_234, hz14_0_235, hz15_0_236, hz21_238, hz22_239, hz26_241, xr_221_0, xr_221_1⟩ := hB
        rw [ht] at hP1
        have hP := hP1
        have hD := pu_all hFc hD1
        clear hP1 hD1 hFc
        clear hk1 hz1 ht hvm
        generalize H1 = H at hP hS ⊢
        refine lv_aload_n hx hb dX9_automaton_100 rfl (lv_at hl 0 rfl) ?_
        refine va_calli (va_runV (As := []) (rest := []) ⟨hx, hb, hml, hown, hts⟩ (c_M_isGood l dC dI _ ad ck 0 1 0 x18 z20_237 z21_238 z22_239 z23_240 x24 x25 z26_241 z27_242 0 x29 x30 x33 x45 x46 x52 x53 x61 x62 x63 x65 x66 z1_222 z2_225 z3_226 z4_227 z5_228 z6_229 z7_230 z8_231 z9_232 z10_223 z11_224 z12_0_233 g_175 z13_0_234 g_177 z14_0_235 g_179 z15_0_236 g_181 f17 q31 f32 f34 f35 f36 f37 q38 f39 f40 f41 m42_0 m42_1 f43 f44 f47 f48 f49 f50 f51 q54 q55 q56 f57 q58 f59 f60 f64 (Nat.le_of_ble_eq_true rfl) (Nat.le_of_ble_eq_true rfl) hx18 hz21_238 hz22_239 hz26_241 (Nat.le_of_ble_eq_true rfl) hx29 hx30 hx33 hx46 hx52 hx53 hx61 hx62 hx63 hx65 hz12_0_233 hg_175 hz13_0_234 hg_177 hz14_0_235 hg_179 hz15_0_236 hg_181 hm42_0 hm42_1) (cwV 0 hts g_M_automaton_M_isGood rfl rfl rfl (by decide +kernel) ⟨Nat.le_of_ble_eq_true rfl, Nat.le_of_ble_eq_true rfl⟩) ⟨pu_bl, va_recv hK hP (ci := 9) (q0 := 0) rfl rfl, pu_in hP hK hD⟩ rfl rfl hl.1 rfl (lv_room (Nat.le_of_ble_eq_true rfl)) dX9_automaton_101 ⟨Nat.le_of_ble_eq_true rfl, Nat.le_of_ble_eq_true rfl⟩) hS (fun q _ h => pu_fr hS hA q h) (pu_fr hS hA) (fun r_243 u t H1 locs ht hvm hw hB hz1 hk1 hS => ?_)
        have hP := pu_keep hP hk1
        clear hk1 hz1 ht hvm
        generalize H1 = H at hP hS ⊢
        obtain ⟨u_244, hu_244, rfl, iu_244⟩ := hw
        refine pu_join (fun H locs ls st => ∃ (g_245 : Nat) (g_246 : Int32), st = [] ∧ g_245 ≤ 6 ∧ va_P (dC, dI) vwCl (mo_w ad ck 0 1 0 (nI x18) z20_237 (nI z21_238) (nI z22_239) z23_240 x24 x25 (nI g_245) g_246 0 (nI x29) (nI x30) (nI x33) x45 (nI x46) (nI x52) (nI x53) (nI x61) (nI x62) (nI x63) (nI x65) x66 z1_222 z2_225 z3_226 (bN 3 z4_227) (bN 7 z5_228) (bN 7 z6_229) (bN 4 z7_230) z8_231 (bN 2 z9_232) (bH z10_223) z11_224 (b2 z12_0_233 g_175) (b2 z13_0_234 g_177) (b2 z14_0_235 g_179) (b2m z15_0_236 g_181) f17 (bA 159 q31) f32 f34 f35 f36 f37 (bN 7 q38) f39 f40 f41 (b2 m42_0 m42_1) f43 f44 f47 f48 f49 f50 f51 (bN 13 q54) (bN 120 q55) (bN 120 q56) f57 (bN 120 q58) f59 f60 f64) H ∧ va_D A (mo_w ad ck 0 1 0 (nI x18) z20_237 (nI z21_238) (nI z22_239) z23_240 x24 x25 (nI g_245) g_246 0 (nI x29) (nI x30) (nI x33) x45 (nI x46) (nI x52) (nI x53) (nI x61) (nI x62) (nI x63) (nI x65) x66 z1_222 z2_225 z3_226 (bN 3 z4_227) (bN 7 z5_228) (bN 7 z6_229) (bN 4 z7_230) z8_231 (bN 2 z9_232) (bH z10_223) z11_224 (b2 z12_0_233 g_175) (b2 z13_0_234 g_177) (b2 z14_0_235 g_179) (b2m z15_0_236 g_181) f17 (bA 159 q31) f32 f34 f35 f36 f37 (bN 7 q38) f39 f40 f41 (b2 m42_0 m42_1) f43 f44 f47 f48 f49 f50 f51 (bN 13 q54) (bN 120 q55) (bN 120 q56) f57 (bN 120 q58) f59 f60 f64) ∧ va_S A s.heap H locs ∧ lv_has ls 1 [(0, .ref (ad 0))]) 121 ?_ (fun j_247 => ?_)
        · rintro H locs ls st ⟨g_245, g_246, rfl, hg_245, hP, hD, hS, hl⟩
          refine lv_aload_n hx hb dX9_automaton_121 rfl (lv_at hl 0 rfl) ?_
          refine va_calli (va_runV (As := []) (rest := []) ⟨hx, hb, hml, hown, hts⟩ (c_M_isGood l dC dI _ ad ck 0 1 0 x18 z20_237 z21_238 z22_239 z23_240 x24 x25 g_245 g_246 0 x29 x30 x33 x45 x46 x52 x53 x61 x62 x63 x65 x66 z1_222 z2_225 z3_226 z4_227 z5_228 z6_229 z7_230 z8_231 z9_232 z10_223 z11_224 z12_0_233 g_175 z13_0_234 g_177 z14_0_235 g_179 z15_0_236 g_181 f17 q31 f32 f34 f35 f36 f37 q38 f39 f40 f41 m42_0 m42_1 f43 f44 f47 f48 f49 f50 f51 q54 q55 q56 f57 q58 f59 f60 f64 (Nat.le_of_ble_eq_true rfl) (Nat.le_of_ble_eq_true rfl) hx18 hz21_238 hz22_239 hg_245 (Nat.le_of_ble_eq_true rfl) hx29 hx30 hx33 hx46 hx52 hx53 hx61 hx62 hx63 hx65 hz12_0_233 hg_175 hz13_0_234 hg_177 hz14_0_235 hg_179 hz15_0_236 hg_181 hm42_0 hm42_1) (cwV 0 hts g_M_automaton_M_isGood rfl rfl rfl (by decide +kernel) ⟨Nat.le_of_ble_eq_true rfl, Nat.le_of_ble_eq_true rfl⟩) ⟨pu_bl, va_recv hK hP (ci := 9) (q0 := 0) rfl rfl, pu_in hP hK hD⟩ rfl rfl hl.1 rfl (lv_room (Nat.le_of_ble_eq_true rfl)) dX9_automaton_122 ⟨Nat.le_of_ble_eq_true rfl, Nat.le_of_ble_eq_true rfl⟩) hS (fun q _ h => pu_fr hS hA q h) (pu_fr hS hA) (fun r_248 u t H1 locs ht hvm hw hB hz1 hk1 hS => ?_)
          have hP := pu_keep hP hk1
          clear hk1 hz1 ht hvm
          generalize H1 = H at hP hS ⊢
          obtain ⟨u_249, hu_249, rfl, iu_249⟩ := hw
          refine lv_if_eq (tgt := 82) hx hb dX9_automaton_125 (by decide) (fun c_250 => ?_) (fun c_250 => ?_)
          · have c_250 : u_249 = 0 := (nI_eq (a := u_249) (b := 0) (Nat.lt_of_le_of_lt hu_249 (Nat.le_of_ble_eq_true rfl)) (Nat.le_of_ble_eq_true rfl)).mp c_250
            exact ih_188 (mu z21_238 z22_239) (by omega) _ _ _ ⟨z1_222, z10_223, z11_224, z2_225, z3_226, z4_227, z5_228, z6_229, z7_230, z8_231, z9_232, z12_0_233, g_175, z13_0_234, g_177, z14_0_235, g_179, z15_0_236, g_181, z20_237, z21_238, z22_239, z23_240, g_245, g_246, rfl, hz12_0_233, hg_175, hz13_0_234, hg_177, hz14_0_235, hg_179, hz15_0_236, hg_181, hz21_238, hz22_239, hg_245, hP, hD, hS, lv_sub hl [0] rfl⟩
          · have c_250 : ¬ u_249 = 0 := fun z => c_250 ((nI_eq (a := u_249) (b := 0) (Nat.lt_of_le_of_lt hu_249 (Nat.le_of_ble_eq_true rfl)) (Nat.le_of_ble_eq_true rfl)).mpr z)
            refine lv_aload_n hx hb dX9_automaton_128 rfl (lv_at hl 0 rfl) ?_
            have hFc := pu_free hD hS hA
            refine va_callv (va_runV (As := []) (rest := []) ⟨hx, hb, hml, hown, hts⟩ (c_M_next l dC dI _ ad ck 0 1 0 x18 z20_237 z21_238 z22_239 z23_240 x24 x25 g_245 g_246 0 x29 x30 x33 x45 x46 x52 x53 x61 x62 x63 x65 x66 z1_222 z2_225 z3_226 z4_227 z5_228 z6_229 z7_230 z8_231 z9_232 z10_223 z11_224 z12_0_233 g_175 z13_0_234 g_177 z14_0_235 g_179 z15_0_236 g_181 f17 q31 f32 f34 f35 f36 f37 q38 f39 f40 f41 m42_0 m42_1 f43 f44 f47 f48 f49 f50 f51 q54 q55 q56 f57 q58 f59 f60 f64 (Nat.le_of_ble_eq_true rfl) (Nat.le_of_ble_eq_true rfl) hx18 hz21_238 hz22_239 hg_245 (Nat.le_of_ble_eq_true rfl) hx29 hx30 hx33 hx46 hx52 hx53 hx61 hx62 hx63 hx65 hz12_0_233 hg_175 hz13_0_234 hg_177 hz14_0_235 hg_179 hz15_0_236 hg_181 hm42_0 hm42_1) (cwV 0 hts g_M_automaton_M_next rfl rfl rfl (by decide +kernel) ⟨Nat.le_of_ble_eq_true rfl, Nat.le_of_ble_eq_true rfl⟩) ⟨pu_bl, va_recv hK hP (ci := 9) (q0 := 0) rfl rfl, pu_in hP hK hD⟩ rfl rfl hl.1 rfl (lv_room (Nat.le_of_ble_eq_true rfl)) dX9_automaton_129 ⟨Nat.le_of_ble_eq_true rfl, Nat.le_of_ble_eq_true rfl⟩) hS (fun q _ h => hFc q h) hFc (fun u t H1 locs ht hvm hw hB hz1 hk1 hS => ?_)
            obtain ⟨z20_252, z21_253, z22_254, z23_255, ⟨hP1, -, hD1⟩, hz21_253, hz22_254, xr_251_0, xr_251_1⟩ := hB
            rw [ht] at hP1
            have hP := hP1
            have hD := pu_all hFc hD1
            clear hP1 hD1 hFc
            clear hk1 hz1 ht hvm
            generalize H1 = H at hP hS ⊢
            refine lv_goto (tgt := 82) hx hb dX9_automaton_132 (by decide) ?_
            exact ih_188 (mu z21_253 z22_254) (by omega) _ _ _ ⟨z1_222, z10_223, z11_224, z2_225, z3_226, z4_227, z5_228, z6_229, z7_230, z8_231, z9_232, z12_0_233, g_175, z13_0_234, g_177, z14_0_235, g_179, z15_0_236, g_181, z20_252, z21_253, z22_254, z23_255, g_245, g_246, rfl, hz12_0_233, hg_175, hz13_0_234, hg_177, hz14_0_235, hg_179, hz15_0_236, hg_181, hz21_253, hz22_254, hg_245, hP, hD, hS, lv_sub hl [0] rfl⟩
        refine lv_if_eq (tgt := 121) hx hb dX9_automaton_104 (by decide) (fun c_256 => ?_) (fun c_256 => ?_)
        · have c_256 : u_244 = 0 := (nI_eq (a := u_244) (b := 0) (Nat.lt_of_le_of_lt hu_244 (Nat.le_of_ble_eq_true rfl)) (Nat.le_of_ble_eq_true rfl)).mp c_256
          exact j_247 _ _ _ _ ⟨z26_241, z27_242, rfl, hz26_241, hP, hD, hS, lv_sub hl [0] rfl⟩
        · have c_256 : ¬ u_244 = 0 := fun z => c_256 ((nI_eq (a := u_244) (b := 0) (Nat.lt_of_le_of_lt hu_244 (Nat.le_of_ble_eq_true rfl)) (Nat.le_of_ble_eq_true rfl)).mpr z)
          refine lv_aload_n hx hb dX9_automaton_107 rfl (lv_at hl 0 rfl) ?_
          refine lv_bipush (v := 59) hx hb dX9_automaton_108 (by decide) ?_
          refine va_calli (va_runV (As := [.int 59]) (rest := []) ⟨hx, hb, hml, hown, hts⟩ (c_M_isSign l dC dI _ ad ck 0 1 0 x18 z20_237 z21_238 z22_239 z23_240 x24 x25 z26_241 z27_242 0 x29 x30 x33 x45 x46 x52 x53 x61 x62 x63 x65 x66 z1_222 z2_225 z3_226 z4_227 z5_228 z6_229 z7_230 z8_231 z9_232 z10_223 z11_224 z12_0_233 g_175 z13_0_234 g_177 z14_0_235 g_179 z15_0_236 g_181 f17 q31 f32 f34 f35 f36 f37 q38 f39 f40 f41 m42_0 m42_1 f43 f44 f47 f48 f49 f50 f51 q54 q55 q56 f57 q58 f59 f60 f64 59 (Nat.le_of_ble_eq_true rfl) (Nat.le_of_ble_eq_true rfl) hx18 hz21_238 hz22_239 hz26_241 (Nat.le_of_ble_eq_true rfl) hx29 hx30 hx33 hx46 hx52 hx53 hx61 hx62 hx63 hx65 hz12_0_233 hg_175 hz13_0_234 hg_177 hz14_0_235 hg_179 hz15_0_236 hg_181 hm42_0 hm42_1) (cwV 1 hts g_M_automaton_M_isSign rfl rfl rfl (by decide +kernel) ⟨Nat.le_of_ble_eq_true rfl, Nat.le_of_ble_eq_true rfl⟩) ⟨pu_bl, va_recv hK hP (ci := 9) (q0 := 0) rfl rfl, pu_in hP hK hD⟩ rfl rfl hl.1 rfl (lv_room (Nat.le_of_ble_eq_true rfl)) dX9_automaton_110 ⟨Nat.le_of_ble_eq_true rfl, Nat.le_of_ble_eq_true rfl⟩) hS (fun q _ h => pu_fr hS hA q h) (pu_fr hS hA) (fun r_257 u t H1 locs ht hvm hw hB hz1 hk1 hS => ?_)
          have hP := pu_keep hP hk1
          clear hk1 hz1 ht hvm
          generalize H1 = H at hP hS ⊢
          obtain ⟨u_258, hu_258, rfl, iu_258⟩ := hw
          refine lv_if_ne (tgt := 121) hx hb dX9_automaton_113 (by decide) (fun c_259 => ?_) (fun c_259 => ?_)
          · have c_259 : ¬ u_258 = 0 := fun z => c_259 ((nI_eq (a := u_258) (b := 0) (Nat.lt_of_le_of_lt hu_258 (Nat.le_of_ble_eq_true rfl)) (Nat.le_of_ble_eq_true rfl)).mpr z)
            exact j_247 _ _ _ _ ⟨z26_241, z27_242, rfl, hz26_241, hP, hD, hS, lv_sub hl [0] rfl⟩
          · have c_259 : u_258 = 0 := (nI_eq (a := u_258) (b := 0) (Nat.lt_of_le_of_lt hu_258 (Nat.le_of_ble_eq_true rfl)) (Nat.le_of_ble_eq_true rfl)).mp c_259
            refine lv_aload_n hx hb dX9_automaton_116 rfl (lv_at hl 0 rfl) ?_
            refine lv_iconst (v := 2) hx hb dX9_automaton_117 (by decide) ?_
            have hFc := pu_free hD hS hA
            refine va_callv (va_runV (As := [.int 2]) (rest := []) ⟨hx, hb, hml, hown, hts⟩ (c_M_fails l dC dI _ ad ck 0 1 0 x18 z20_237 z21_238 z22_239 z23_240 x24 x25 z26_241 z27_242 0 x29 x30 x33 x45 x46 x52 x53 x61 x62 x63 x65 x66 z1_222 z2_225 z3_226 z4_227 z5_228 z6_229 z7_230 z8_231 z9_232 z10_223 z11_224 z12_0_233 g_175 z13_0_234 g_177 z14_0_235 g_179 z15_0_236 g_181 f17 q31 f32 f34 f35 f36 f37 q38 f39 f40 f41 m42_0 m42_1 f43 f44 f47 f48 f49 f50 f51 q54 q55 q56 f57 q58 f59 f60 f64 2 (Nat.le_of_ble_eq_true rfl) (Nat.le_of_ble_eq_true rfl) hx18 hz21_238 hz22_239 hz26_241 (Nat.le_of_ble_eq_true rfl) hx29 hx30 hx33 hx46 hx52 hx53 hx61 hx62 hx63 hx65 hz12_0_233 hg_175 hz13_0_234 hg_177 hz14_0_235 hg_179 hz15_0_236 hg_181 hm42_0 hm42_1 (Nat.le_of_ble_eq_true rfl) (by omega)) (cwV 1 hts g_M_automaton_M_fails rfl rfl rfl (by decide +kernel) ⟨Nat.le_of_ble_eq_true rfl, Nat.le_of_ble_eq_true rfl⟩) ⟨pu_bl, va_recv hK hP (ci := 9) (q0 := 0) rfl rfl, pu_in hP hK hD⟩ rfl rfl hl.1 rfl (lv_room (Nat.le_of_ble_eq_true rfl)) dX9_automaton_118 ⟨Nat.le_of_ble_eq_true rfl, Nat.le_of_ble_eq_true rfl⟩) hS (fun q _ h => hFc q h) hFc (fun u t H1 locs ht hvm hw hB hz1 hk1 hS => ?_)
            obtain ⟨z26_261, z27_262, ⟨hP1, -, hD1⟩, hz26_261, xr_260_0⟩ := hB
            rw [ht] at hP1
            have hP := hP1
            have hD := pu_all hFc hD1
            clear hP1 hD1 hFc
            clear hk1 hz1 ht hvm
            generalize H1 = H at hP hS ⊢
            exact j_247 _ _ _ _ ⟨z26_261, z27_262, rfl, hz26_261, hP, hD, hS, lv_sub hl [0] rfl⟩
