theorem dX9_automaton_0 : decode cX9_automaton 0 = .ok (.aload_n 0, 1) := by decide +kernel
theorem dX9_automaton_1 : decode cX9_automaton 1 = .ok (.iconst 0, 1) := by decide +kernel
theorem dX9_automaton_2 : decode cX9_automaton 2 = .ok (.putfield 142, 3) := by decide +kernel
theorem dX9_automaton_5 : decode cX9_automaton 5 = .ok (.aload_n 0, 1) := by decide +kernel
theorem dX9_automaton_6 : decode cX9_automaton 6 = .ok (.aload_n 0, 1) := by decide +kernel
theorem dX9_automaton_7 : decode cX9_automaton 7 = .ok (.getfield 145, 3) := by decide +kernel
theorem dX9_automaton_10 : decode cX9_automaton 10 = .ok (.putfield 156, 3) := by decide +kernel
theorem dX9_automaton_13 : decode cX9_automaton 13 = .ok (.aload_n 0, 1) := by decide +kernel
theorem dX9_automaton_14 : decode cX9_automaton 14 = .ok (.iconst 0, 1) := by decide +kernel
theorem dX9_automaton_15 : decode cX9_automaton 15 = .ok (.putfield 145, 3) := by decide +kernel
theorem dX9_automaton_18 : decode cX9_automaton 18 = .ok (.aload_n 0, 1) := by decide +kernel
theorem dX9_automaton_19 : decode cX9_automaton 19 = .ok (.iconst 0, 1) := by decide +kernel
theorem dX9_automaton_20 : decode cX9_automaton 20 = .ok (.putfield 159, 3) := by decide +kernel
theorem dX9_automaton_23 : decode cX9_automaton 23 = .ok (.aload_n 0, 1) := by decide +kernel
theorem dX9_automaton_24 : decode cX9_automaton 24 = .ok (.iconst 0, 1) := by decide +kernel
theorem dX9_automaton_25 : decode cX9_automaton 25 = .ok (.putfield 186, 3) := by decide +kernel
theorem dX9_automaton_28 : decode cX9_automaton 28 = .ok (.aload_n 0, 1) := by decide +kernel
theorem dX9_automaton_29 : decode cX9_automaton 29 = .ok (.iconst 1, 1) := by decide +kernel
theorem dX9_automaton_30 : decode cX9_automaton 30 = .ok (.aload_n 0, 1) := by decide +kernel
theorem dX9_automaton_31 : decode cX9_automaton 31 = .ok (.getfield 258, 3) := by decide +kernel
theorem dX9_automaton_34 : decode cX9_automaton 34 = .ok (.isub, 1) := by decide +kernel
theorem dX9_automaton_35 : decode cX9_automaton 35 = .ok (.putfield 203, 3) := by decide +kernel
theorem dX9_automaton_38 : decode cX9_automaton 38 = .ok (.aload_n 0, 1) := by decide +kernel
theorem dX9_automaton_39 : decode cX9_automaton 39 = .ok (.getfield 43, 3) := by decide +kernel
theorem dX9_automaton_42 : decode cX9_automaton 42 = .ok (.aload_n 0, 1) := by decide +kernel
theorem dX9_automaton_43 : decode cX9_automaton 43 = .ok (.getfield 203, 3) := by decide +kernel
theorem dX9_automaton_46 : decode cX9_automaton 46 = .ok (.iconst 0, 1) := by decide +kernel
theorem dX9_automaton_47 : decode cX9_automaton 47 = .ok (.iastore, 1) := by decide +kernel
theorem dX9_automaton_48 : decode cX9_automaton 48 = .ok (.aload_n 0, 1) := by decide +kernel
theorem dX9_automaton_49 : decode cX9_automaton 49 = .ok (.getfield 46, 3) := by decide +kernel
theorem dX9_automaton_52 : decode cX9_automaton 52 = .ok (.aload_n 0, 1) := by decide +kernel
theorem dX9_automaton_53 : decode cX9_automaton 53 = .ok (.getfield 203, 3) := by decide +kernel
theorem dX9_automaton_56 : decode cX9_automaton 56 = .ok (.iconst 0, 1) := by decide +kernel
theorem dX9_automaton_57 : decode cX9_automaton 57 = .ok (.iastore, 1) := by decide +kernel
theorem dX9_automaton_58 : decode cX9_automaton 58 = .ok (.aload_n 0, 1) := by decide +kernel
theorem dX9_automaton_59 : decode cX9_automaton 59 = .ok (.getfield 49, 3) := by decide +kernel
theorem dX9_automaton_62 : decode cX9_automaton 62 = .ok (.aload_n 0, 1) := by decide +kernel
theorem dX9_automaton_63 : decode cX9_automaton 63 = .ok (.getfield 203, 3) := by decide +kernel
theorem dX9_automaton_66 : decode cX9_automaton 66 = .ok (.iconst 0, 1) := by decide +kernel
theorem dX9_automaton_67 : decode cX9_automaton 67 = .ok (.iastore, 1) := by decide +kernel
theorem dX9_automaton_68 : decode cX9_automaton 68 = .ok (.aload_n 0, 1) := by decide +kernel
theorem dX9_automaton_69 : decode cX9_automaton 69 = .ok (.getfield 52, 3) := by decide +kernel
theorem dX9_automaton_72 : decode cX9_automaton 72 = .ok (.aload_n 0, 1) := by decide +kernel
theorem dX9_automaton_73 : decode cX9_automaton 73 = .ok (.getfield 203, 3) := by decide +kernel
theorem dX9_automaton_76 : decode cX9_automaton 76 = .ok (.iconst (-1), 1) := by decide +kernel
theorem dX9_automaton_77 : decode cX9_automaton 77 = .ok (.iastore, 1) := by decide +kernel
theorem dX9_automaton_78 : decode cX9_automaton 78 = .ok (.aload_n 0, 1) := by decide +kernel
theorem dX9_automaton_79 : decode cX9_automaton 79 = .ok (.invokevirtual 226, 3) := by decide +kernel
theorem dX9_automaton_82 : decode cX9_automaton 82 = .ok (.aload_n 0, 1) := by decide +kernel
theorem dX9_automaton_83 : decode cX9_automaton 83 = .ok (.invokevirtual 216, 3) := by decide +kernel
theorem dX9_automaton_86 : decode cX9_automaton 86 = .ok (.ifCond .eq 49, 3) := by decide +kernel
theorem dX9_automaton_89 : decode cX9_automaton 89 = .ok (.aload_n 0, 1) := by decide +kernel
theorem dX9_automaton_90 : decode cX9_automaton 90 = .ok (.getfield 172, 3) := by decide +kernel
theorem dX9_automaton_93 : decode cX9_automaton 93 = .ok (.ifCond .eq 42, 3) := by decide +kernel
theorem dX9_automaton_96 : decode cX9_automaton 96 = .ok (.aload_n 0, 1) := by decide +kernel
theorem dX9_automaton_97 : decode cX9_automaton 97 = .ok (.invokevirtual 261, 3) := by decide +kernel
theorem dX9_automaton_100 : decode cX9_automaton 100 = .ok (.aload_n 0, 1) := by decide +kernel
theorem dX9_automaton_101 : decode cX9_automaton 101 = .ok (.invokevirtual 216, 3) := by decide +kernel
theorem dX9_automaton_104 : decode cX9_automaton 104 = .ok (.ifCond .eq 17, 3) := by decide +kernel
theorem dX9_automaton_107 : decode cX9_automaton 107 = .ok (.aload_n 0, 1) := by decide +kernel
theorem dX9_automaton_108 : decode cX9_automaton 108 = .ok (.bipush 59, 2) := by decide +kernel
theorem dX9_automaton_110 : decode cX9_automaton 110 = .ok (.invokevirtual 235, 3) := by decide +kernel
theorem dX9_automaton_113 : decode cX9_automaton 113 = .ok (.ifCond .ne 8, 3) := by decide +kernel
theorem dX9_automaton_116 : decode cX9_automaton 116 = .ok (.aload_n 0, 1) := by decide +kernel
theorem dX9_automaton_117 : decode cX9_automaton 117 = .ok (.iconst 2, 1) := by decide +kernel
theorem dX9_automaton_118 : decode cX9_automaton 118 = .ok (.invokevirtual 210, 3) := by decide +kernel
theorem dX9_automaton_121 : decode cX9_automaton 121 = .ok (.aload_n 0, 1) := by decide +kernel
theorem dX9_automaton_122 : decode cX9_automaton 122 = .ok (.invokevirtual 216, 3) := by decide +kernel
theorem dX9_automaton_125 : decode cX9_automaton 125 = .ok (.ifCond .eq (-43), 3) := by decide +kernel
theorem dX9_automaton_128 : decode cX9_automaton 128 = .ok (.aload_n 0, 1) := by decide +kernel
theorem dX9_automaton_129 : decode cX9_automaton 129 = .ok (.invokevirtual 226, 3) := by decide +kernel
theorem dX9_automaton_132 : decode cX9_automaton 132 = .ok (.goto (-50), 3) := by decide +kernel
theorem dX9_automaton_135 : decode cX9_automaton 135 = .ok (.aload_n 0, 1) := by decide +kernel
theorem dX9_automaton_136 : decode cX9_automaton 136 = .ok (.invokevirtual 216, 3) := by decide +kernel
theorem dX9_automaton_139 : decode cX9_automaton 139 = .ok (.ifCond .eq 21, 3) := by decide +kernel
theorem dX9_automaton_142 : decode cX9_automaton 142 = .ok (.aload_n 0, 1) := by decide +kernel
theorem dX9_automaton_143 : decode cX9_automaton 143 = .ok (.getfield 46, 3) := by decide +kernel
theorem dX9_automaton_146 : decode cX9_automaton 146 = .ok (.aload_n 0, 1) := by decide +kernel
theorem dX9_automaton_147 : decode cX9_automaton 147 = .ok (.getfield 203, 3) := by decide +kernel
theorem dX9_automaton_150 : decode cX9_automaton 150 = .ok (.iaload, 1) := by decide +kernel
theorem dX9_automaton_151 : decode cX9_automaton 151 = .ok (.ifCond .ne 9, 3) := by decide +kernel
theorem dX9_automaton_154 : decode cX9_automaton 154 = .ok (.aload_n 0, 1) := by decide +kernel
theorem dX9_automaton_155 : decode cX9_automaton 155 = .ok (.bipush 6, 2) := by decide +kernel
theorem dX9_automaton_157 : decode cX9_automaton 157 = .ok (.invokevirtual 210, 3) := by decide +kernel
theorem dX9_automaton_160 : decode cX9_automaton 160 = .ok (.aload_n 0, 1) := by decide +kernel
theorem dX9_automaton_161 : decode cX9_automaton 161 = .ok (.aload_n 0, 1) := by decide +kernel
theorem dX9_automaton_162 : decode cX9_automaton 162 = .ok (.getfield 186, 3) := by decide +kernel
theorem dX9_automaton_165 : decode cX9_automaton 165 = .ok (.putfield 264, 3) := by decide +kernel
theorem dX9_automaton_168 : decode cX9_automaton 168 = .ok (.aload_n 0, 1) := by decide +kernel
theorem dX9_automaton_169 : decode cX9_automaton 169 = .ok (.aload_n 0, 1) := by decide +kernel
theorem dX9_automaton_170 : decode cX9_automaton 170 = .ok (.getfield 186, 3) := by decide +kernel
theorem dX9_automaton_173 : decode cX9_automaton 173 = .ok (.ifCond .ne 7, 3) := by decide +kernel
theorem dX9_automaton_176 : decode cX9_automaton 176 = .ok (.iconst (-1), 1) := by decide +kernel
theorem dX9_automaton_177 : decode cX9_automaton 177 = .ok (.goto 7, 3) := by decide +kernel
theorem dX9_automaton_180 : decode cX9_automaton 180 = .ok (.aload_n 0, 1) := by decide +kernel
theorem dX9_automaton_181 : decode cX9_automaton 181 = .ok (.getfield 189, 3) := by decide +kernel
theorem dX9_automaton_184 : decode cX9_automaton 184 = .ok (.putfield 58, 3) := by decide +kernel
theorem dX9_automaton_187 : decode cX9_automaton 187 = .ok (.aload_n 0, 1) := by decide +kernel
theorem dX9_automaton_188 : decode cX9_automaton 188 = .ok (.invokevirtual 216, 3) := by decide +kernel
theorem dX9_automaton_191 : decode cX9_automaton 191 = .ok (.ifCond .ne 5, 3) := by decide +kernel
theorem dX9_automaton_194 : decode cX9_automaton 194 = .ok (.iconst (-1), 1) := by decide +kernel
theorem dX9_automaton_195 : decode cX9_automaton 195 = .ok (.ireturn, 1) := by decide +kernel
theorem dX9_automaton_196 : decode cX9_automaton 196 = .ok (.aload_n 0, 1) := by decide +kernel
theorem dX9_automaton_197 : decode cX9_automaton 197 = .ok (.aload_n 0, 1) := by decide +kernel
theorem dX9_automaton_198 : decode cX9_automaton 198 = .ok (.getfield 203, 3) := by decide +kernel
theorem dX9_automaton_201 : decode cX9_automaton 201 = .ok (.putfield 258, 3) := by decide +kernel
theorem dX9_automaton_204 : decode cX9_automaton 204 = .ok (.aload_n 0, 1) := by decide +kernel
theorem dX9_automaton_205 : decode cX9_automaton 205 = .ok (.getfield 52, 3) := by decide +kernel
theorem dX9_automaton_208 : decode cX9_automaton 208 = .ok (.aload_n 0, 1) := by decide +kernel
theorem dX9_automaton_209 : decode cX9_automaton 209 = .ok (.getfield 258, 3) := by decide +kernel
theorem dX9_automaton_212 : decode cX9_automaton 212 = .ok (.iaload, 1) := by decide +kernel
theorem dX9_automaton_213 : decode cX9_automaton 213 = .ok (.ifCond .ge 13, 3) := by decide +kernel
theorem dX9_automaton_216 : decode cX9_automaton 216 = .ok (.aload_n 0, 1) := by decide +kernel
theorem dX9_automaton_217 : decode cX9_automaton 217 = .ok (.getfield 52, 3) := by decide +kernel
theorem dX9_automaton_220 : decode cX9_automaton 220 = .ok (.aload_n 0, 1) := by decide +kernel
theorem dX9_automaton_221 : decode cX9_automaton 221 = .ok (.getfield 258, 3) := by decide +kernel
theorem dX9_automaton_224 : decode cX9_automaton 224 = .ok (.iconst 0, 1) := by decide +kernel
theorem dX9_automaton_225 : decode cX9_automaton 225 = .ok (.iastore, 1) := by decide +kernel
theorem dX9_automaton_226 : decode cX9_automaton 226 = .ok (.aload_n 0, 1) := by decide +kernel
theorem dX9_automaton_227 : decode cX9_automaton 227 = .ok (.iconst 0, 1) := by decide +kernel
theorem dX9_automaton_228 : decode cX9_automaton 228 = .ok (.putfield 267, 3) := by decide +kernel
theorem dX9_automaton_231 : decode cX9_automaton 231 = .ok (.aload_n 0, 1) := by decide +kernel
theorem dX9_automaton_232 : decode cX9_automaton 232 = .ok (.invokevirtual 270, 3) := by decide +kernel
theorem dX9_automaton_235 : decode cX9_automaton 235 = .ok (.aload_n 0, 1) := by decide +kernel
theorem dX9_automaton_236 : decode cX9_automaton 236 = .ok (.getfield 46, 3) := by decide +kernel
theorem dX9_automaton_239 : decode cX9_automaton 239 = .ok (.aload_n 0, 1) := by decide +kernel
theorem dX9_automaton_240 : decode cX9_automaton 240 = .ok (.getfield 258, 3) := by decide +kernel
theorem dX9_automaton_243 : decode cX9_automaton 243 = .ok (.iaload, 1) := by decide +kernel
theorem dX9_automaton_244 : decode cX9_automaton 244 = .ok (.ireturn, 1) := by decide +kernel
abbrev vs_M_automaton : List Cond := .code yX9_automaton cX9_automaton 1 (some .int) :: VM
theorem g_M_automaton_M_next : GoodIn vs_M_automaton (wsV RX9 226 RX9 yX9_next vs_M_next) := gm_V vm_100 vm_101 vm_102 vm_12 vm_72
theorem g_M_automaton_M_isGood : GoodIn vs_M_automaton (wsV RX9 216 RX9 yX9_isGood vs_M_isGood) := gm_V vm_91 vm_92 vm_93 vm_12 vm_15
theorem g_M_automaton_M_another : GoodIn vs_M_automaton (wsV RX9 270 RX9 yX9_another vs_M_another) := gm_V vm_146 vm_147 vm_148 vm_12 vm_17
theorem g_M_automaton_M_fails : GoodIn vs_M_automaton (wsV RX9 210 RX9 yX9_fails vs_M_fails) := gm_V vm_55 vm_56 vm_57 vm_12 vm_39
theorem g_M_automaton_M_readLine_1 : GoodIn vs_M_automaton (wsV RX9 261 RX9 yX9_readLine vs_M_readLine_1) := gm_V vm_142 vm_143 vm_144 vm_12 vm_132
theorem g_M_automaton_M_isSign : GoodIn vs_M_automaton (wsV RX9 235 RX9 yX9_isSign vs_M_isSign) := gm_V vm_112 vm_113 vm_114 vm_12 vm_38
theorem g_M_automaton_M_readLine_0 : GoodIn vs_M_automaton (wsV RX9 261 RX9 yX9_readLine vs_M_readLine_0) := gm_V vm_142 vm_143 vm_144 vm_12 vm_132
set_option maxHeartbeats 4000000 in
set_option maxRecDepth 100000 in
theorem c_M_automaton (l : Launch) (dC : Nat → ClassId) (dI : Nat → Nat → Nat) (sz : Nat) (ad : Nat → Nat) (ck : Nat → ClassId) (x0 : Int32) (x16 : Nat) (x18 : Nat) (x19 : Nat) (x20 : Int32) (x21 : Nat) (x22 : Nat) (x23 : Int32) (x24 : Int32) (x25 : Int32) (x26 : Nat) (x27 : Int32) (x28 : Nat) (x29 : Nat) (x30 : Nat) (x33 : Nat) (x45 : Int32) (x46 : Nat) (x52 : Nat) (x53 : Nat) (x61 : Nat) (x62 : Nat) (x63 : Nat) (x65 : Nat) (x66 : Int32) (f1 : Nat → Int32) (f2 : Nat → Int32) (f3 : Nat → Int32) (q4 : Nat → Nat) (q5 : Nat → Nat) (q6 : Nat → Nat) (q7 : Nat → Nat) (f8 : Nat → Int32) (q9 : Nat → Nat) (q10 : Nat → Nat) (f11 : Nat → Int32) (m12_0 m12_1 : Nat) (m13_0 m13_1 : Nat) (m14_0 m14_1 : Nat) (m15_0 m15_1 : Nat) (f17 : Nat → Int32) (q31 : Nat → Nat) (f32 : Nat → Int32) (f34 : Nat → Int32) (f35 : Nat → Int32) (f36 : Nat → Int32) (f37 : Nat → Int32) (q38 : Nat → Nat) (f39 : Nat → Int32) (f40 : Nat → Int32) (f41 : Nat → Int32) (m42_0 m42_1 : Nat) (f43 : Nat → Int32) (f44 : Nat → Int32) (f47 : Nat → Int32) (f48 : Nat → Int32) (f49 : Nat → Int32) (f50 : Nat → Int32) (f51 : Nat → Int32) (q54 : Nat → Nat) (q55 : Nat → Nat) (q56 : Nat → Nat) (f57 : Nat → Int32) (q58 : Nat → Nat) (f59 : Nat → Int32) (f60 : Nat → Int32) (f64 : Nat → Int32) (hx16 : x16 ≤ 1) (hx18 : x18 ≤ 900) (hx19 : x19 ≤ 900) (hx21 : x21 ≤ 900) (hx22 : x22 ≤ 4) (hx26 : x26 ≤ 6) (hx28 : x28 ≤ 1) (hx29 : x29 ≤ 1) (hx30 : x30 ≤ 1) (hx33 : x33 ≤ 20) (hx46 : x46 ≤ 5) (hx52 : x52 ≤ 2400) (hx53 : x53 ≤ 119) (hx61 : x61 ≤ 119) (hx62 : x62 ≤ 2000) (hx63 : x63 ≤ 1) (hx65 : x65 ≤ 7) (hm12_0 : m12_0 ≤ 3) (hm12_1 : m12_1 ≤ 3) (hm13_0 : m13_0 ≤ 8) (hm13_1 : m13_1 ≤ 8) (hm14_0 : m14_0 ≤ 14) (hm14_1 : m14_1 ≤ 14) (hm15_0 : m15_0 ≤ 8) (hm15_1 : m15_1 ≤ 8) (hm42_0 : m42_0 ≤ 120) (hm42_1 : m42_1 ≤ 400) (hbg : (x16 = 0 ∧ (m13_0 = 0 ∨ 1 ≤ m15_0)) ∨ (x16 = 1 ∧ (m13_1 = 0 ∨ 1 ≤ m15_1))) : Met l yX9_automaton vs_M_automaton ({ frames := 7, cells := 0, slots := 0, locals := 154 }) (va_Pc [.ref (ad 0)] (pu_B (dC, dI) (mo_w ad ck x0 (nI x16) (nI x18) (nI x19) x20 (nI x21) (nI x22) x23 x24 x25 (nI x26) x27 (nI x28) (nI x29) (nI x30) (nI x33) x45 (nI x46) (nI x52) (nI x53) (nI x61) (nI x62) (nI x63) (nI x65) x66 f1 f2 f3 (bN 3 q4) (bN 7 q5) (bN 7 q6) (bN 4 q7) f8 (bN 2 q9) (bH q10) f11 (b2 m12_0 m12_1) (b2 m13_0 m13_1) (b2 m14_0 m14_1) (b2m m15_0 m15_1) f17 (bA 159 q31) f32 f34 f35 f36 f37 (bN 7 q38) f39 f40 f41 (b2 m42_0 m42_1) f43 f44 f47 f48 f49 f50 f51 (bN 13 q54) (bN 120 q55) (bN 120 q56) f57 (bN 120 q58) f59 f60 f64) (mo_t ck) sz)) (va_Qi (fun (r : Int32) (_ : Unit) => True) (fun _ t => ∃ (z1 : Nat → Int32) (z10 : Nat → Nat) (z11 : Nat → Int32) (z2 : Nat → Int32) (z3 : Nat → Int32) (z4 : Nat → Nat) (z5 : Nat → Nat) (z6 : Nat → Nat) (z7 : Nat → Nat) (z8 : Nat → Int32) (z9 : Nat → Nat) (z12_0 : Nat) (z12_1 : Nat) (z13_0 : Nat) (z13_1 : Nat) (z14_0 : Nat) (z14_1 : Nat) (z15_0 : Nat) (z15_1 : Nat) (z0 : Int32) (z16 : Nat) (z19 : Nat) (z20 : Int32) (z21 : Nat) (z22 : Nat) (z23 : Int32) (z24 : Int32) (z25 : Int32) (z26 : Nat) (z27 : Int32) (z28 : Nat) (z29 : Nat) (z30 : Nat) (z33 : Nat), pu_E (dC, dI) (mo_w ad ck z0 (nI z16) (nI 0) (nI z19) z20 (nI z21) (nI z22) z23 z24 z25 (nI z26) z27 (nI z28) (nI z29) (nI z30) (nI z33) x45 (nI x46) (nI x52) (nI x53) (nI x61) (nI x62) (nI x63) (nI x65) x66 z1 z2 z3 (bN 3 z4) (bN 7 z5) (bN 7 z6) (bN 4 z7) z8 (bN 2 z9) (bH z10) z11 (b2 z12_0 z12_1) (b2 z13_0 z13_1) (b2 z14_0 z14_1) (b2m z15_0 z15_1) f17 (bA 159 q31) f32 f34 f35 f36 f37 (bN 7 q38) f39 f40 f41 (b2 m42_0 m42_1) f43 f44 f47 f48 f49 f50 f51 (bN 13 q54) (bN 120 q55) (bN 120 q56) f57 (bN 120 q58) f59 f60 f64) (mo_t ck) (va_A ((mo_w ad ck x0 (nI x16) (nI x18) (nI x19) x20 (nI x21) (nI x22) x23 x24 x25 (nI x26) x27 (nI x28) (nI x29) (nI x30) (nI x33) x45 (nI x46) (nI x52) (nI x53) (nI x61) (nI x62) (nI x63) (nI x65) x66 f1 f2 f3 (bN 3 q4) (bN 7 q5) (bN 7 q6) (bN 4 q7) f8 (bN 2 q9) (bH q10) f11 (b2 m12_0 m12_1) (b2 m13_0 m13_1) (b2 m14_0 m14_1) (b2m m15_0 m15_1) f17 (bA 159 q31) f32 f34 f35 f36 f37 (bN 7 q38) f39 f40 f41 (b2 m42_0 m42_1) f43 f44 f47 f48 f49 f50 f51 (bN 13 q54) (bN 120 q55) (bN 120 q56) f57 (bN 120 q58) f59 f60 f64)) sz) t ∧ (z12_0 ≤ 3) ∧ (z12_1 ≤ 3) ∧ (z13_0 ≤ 8) ∧ (z13_1 ≤ 8) ∧ (z14_0 ≤ 14) ∧ (z14_1 ≤ 14) ∧ (z15_0 ≤ 8) ∧ (z15_1 ≤ 8) ∧ (z16 ≤ 1) ∧ (z19 ≤ 900) ∧ (z21 ≤ 900) ∧ (z22 ≤ 4) ∧ (z26 ≤ 6) ∧ (z28 ≤ 1) ∧ (z29 ≤ 1) ∧ (z30 ≤ 1) ∧ (z33 ≤ 20) ∧ ((z16 = 0 ∧ (z13_0 = 0 ∨ 1 ≤ z15_0)) ∨ (z16 = 1 ∧ (z13_1 = 0 ∨ 1 ≤ z15_1)))) (va_A ((mo_w ad ck x0 (nI x16) (nI x18) (nI x19) x20 (nI x21) (nI x22) x23 x24 x25 (nI x26) x27 (nI x28) (nI x29) (nI x30) (nI x33) x45 (nI x46) (nI x52) (nI x53) (nI x61) (nI x62) (nI x63) (nI x65) x66 f1 f2 f3 (bN 3 q4) (bN 7 q5) (bN 7 q6) (bN 4 q7) f8 (bN 2 q9) (bH q10) f11 (b2 m12_0 m12_1) (b2 m13_0 m13_1) (b2 m14_0 m14_1) (b2m m15_0 m15_1) f17 (bA 159 q31) f32 f34 f35 f36 f37 (bN 7 q38) f39 f40 f41 (b2 m42_0 m42_1) f43 f44 f47 f48 f49 f50 f51 (bN 13 q54) (bN 120 q55) (bN 120 q56) f57 (bN 120 q58) f59 f60 f64)) sz)) 0 0 (va_A ((mo_w ad ck x0 (nI x16) (nI x18) (nI x19) x20 (nI x21) (nI x22) x23 x24 x25 (nI x26) x27 (nI x28) (nI x29) (nI x30) (nI x33) x45 (nI x46) (nI x52) (nI x53) (nI x61) (nI x62) (nI x63) (nI x65) x66 f1 f2 f3 (bN 3 q4) (bN 7 q5) (bN 7 q6) (bN 4 q7) f8 (bN 2 q9) (bH q10) f11 (b2 m12_0 m12_1) (b2 m13_0 m13_1) (b2 m14_0 m14_1) (b2m m15_0 m15_1) f17 (bA 159 q31) f32 f34 f35 f36 f37 (bN 7 q38) f39 f40 f41 (b2 m42_0 m42_1) f43 f44 f47 f48 f49 f50 f51 (bN 13 q54) (bN 120 q55) (bN 120 q56) f57 (bN 120 q58) f59 f60 f64)) sz) := by
  refine Met.ofW (cc := cX9_automaton) (maxL := 1) (ret := (some .int)) (by decide) rfl ?_
  intro p e s m args below meth c s₁ B hml hv
  obtain ⟨rfl, rfl, hP, hK, hD0⟩ := hv
  have hx := B.exec
  have hb := B.bytes
  have hr := B.returns
  have hts := atoms_spec (ws := vs_M_automaton) B.pre
  have v_1 := hts (.fieldLink RX9 142 "ClockReachModel" "thrown" "I") (List.mem_cons_of_mem _ vm_24)
  have v_2 := hts (.fieldLink RX9 145 "ClockReachModel" "taped" "I") (List.mem_cons_of_mem _ vm_141)
  have v_3 := hts (.fieldLink RX9 156 "ClockReachModel" "size" "I") (List.mem_cons_of_mem _ vm_70)
  have v_4 := hts (.fieldLink RX9 159 "ClockReachModel" "behind" "I") (List.mem_cons_of_mem _ vm_73)
  have v_5 := hts (.fieldLink RX9 186 "ClockReachModel" "wrong" "I") (List.mem_cons_of_mem _ vm_16)
  have v_6 := hts (.fieldLink RX9 258 "ClockReachModel" "bank" "I") (List.mem_cons_of_mem _ vm_22)
  have v_7 := hts (.fieldLink RX9 203 "ClockReachModel" "rb" "I") (List.mem_cons_of_mem _ vm_82)
  have v_8 := hts (.fieldLink RX9 43 "ClockReachModel" "clockMany" "[I") (List.mem_cons_of_mem _ vm_21)
  have v_9 := hts (.fieldLink RX9 46 "ClockReachModel" "placeMany" "[I") (List.mem_cons_of_mem _ vm_85)
  have v_10 := hts (.fieldLink RX9 49 "ClockReachModel" "edgeMany" "[I") (List.mem_cons_of_mem _ vm_62)
  have v_11 := hts (.fieldLink RX9 52 "ClockReachModel" "begins" "[I") (List.mem_cons_of_mem _ vm_133)
  have v_21 := hts (.fieldLink RX9 172 "ClockReachModel" "token" "I") (List.mem_cons_of_mem _ vm_36)
  have v_34 := hts (.fieldLink RX9 264 "ClockReachModel" "faultKind" "I") (List.mem_cons_of_mem _ vm_26)
  have v_35 := hts (.fieldLink RX9 189 "ClockReachModel" "wrongAt" "I") (List.mem_cons_of_mem _ vm_41)
  have v_36 := hts (.fieldLink RX9 58 "ClockReachModel" "faultPlace" "I") (List.mem_cons_of_mem _ vm_25)
  have v_37 := hts (.fieldLink RX9 267 "ClockReachModel" "acts" "I") (List.mem_cons_of_mem _ vm_145)
  have hown : s.vm.findClass RX9 = some m.cls := findClass_of_methodNamed B.named
  have hlocks := B.notSynchronized
  have hiX9 : ∀ w ∈ wsX90, w ∈ vs_M_automaton := fun _ h => List.mem_cons_of_mem _ (List.mem_append_right _ h)
  have hD := hD0.self (sz := s.heap.size)
  generalize hAe : va_A ((mo_w ad ck x0 (nI x16) (nI x18) (nI x19) x20 (nI x21) (nI x22) x23 x24 x25 (nI x26) x27 (nI x28) (nI x29) (nI x30) (nI x33) x45 (nI x46) (nI x52) (nI x53) (nI x61) (nI x62) (nI x63) (nI x65) x66 f1 f2 f3 (bN 3 q4) (bN 7 q5) (bN 7 q6) (bN 4 q7) f8 (bN 2 q9) (bH q10) f11 (b2 m12_0 m12_1) (b2 m13_0 m13_1) (b2 m14_0 m14_1) (b2m m15_0 m15_1) f17 (bA 159 q31) f32 f34 f35 f36 f37 (bN 7 q38) f39 f40 f41 (b2 m42_0 m42_1) f43 f44 f47 f48 f49 f50 f51 (bN 13 q54) (bN 120 q55) (bN 120 q56) f57 (bN 120 q58) f59 f60 f64)) s.heap.size = A at hD ⊢
  have hA : ∀ q : Nat, s.heap.size ≤ q → A q := fun q h => by rw [← hAe]; exact Or.inr h
  have hS : va_S A s.heap s.heap [] := va_S.rf
  have hl := lv_entry ([.ref (ad 0)]) (n := 1) (Nat.le_of_ble_eq_true rfl)
  rw [lg_entry_eq]
  generalize (lg_sl ([.ref (ad 0)]) ++ List.replicate (1 - (lg_sl ([.ref (ad 0)])).length) Slot.unset).toArray = ls at hl ⊢
  have hl : lv_has ls 1 [(0, .ref (ad 0))] := hl
  rcases pu_01 hx16 with rfl | rfl
  · refine lv_aload_n hx hb dX9_automaton_0 rfl (lv_at hl 0 rfl) ?_
    refine lv_iconst (v := 0) hx hb dX9_automaton_1 (by decide) ?_
    refine va_put (D := (dC, dI)) (ci := 9) (v := .int 0) (ty := .int) (C := RX9) (T := TX9) (N := 67) hx hb hts hiX9 tyX9 tyX9_ok nmX9 hown hK hP hD hS 0 rfl rfl 0 (by decide) v_1 (fun _ h9 => h9) rfl (by decide +kernel) rfl rfl (Nat.le_of_ble_eq_true rfl) dX9_automaton_2 (fun H locs hP hD hS => ?_)
    have hP : va_P (dC, dI) vwCl (mo_w ad ck 0 0 (nI x18) (nI x19) x20 (nI x21) (nI x22) x23 x24 x25 (nI x26) x27 (nI x28) (nI x29) (nI x30) (nI x33) x45 (nI x46) (nI x52) (nI x53) (nI x61) (nI x62) (nI x63) (nI x65) x66 f1 f2 f3 (bN 3 q4) (bN 7 q5) (bN 7 q6) (bN 4 q7) f8 (bN 2 q9) (bH q10) f11 (b2 m12_0 m12_1) (b2 m13_0 m13_1) (b2 m14_0 m14_1) (b2m m15_0 m15_1) f17 (bA 159 q31) f32 f34 f35 f36 f37 (bN 7 q38) f39 f40 f41 (b2 m42_0 m42_1) f43 f44 f47 f48 f49 f50 f51 (bN 13 q54) (bN 120 q55) (bN 120 q56) f57 (bN 120 q58) f59 f60 f64) H := hP
    have hD : va_D A (mo_w ad ck 0 0 (nI x18) (nI x19) x20 (nI x21) (nI x22) x23 x24 x25 (nI x26) x27 (nI x28) (nI x29) (nI x30) (nI x33) x45 (nI x46) (nI x52) (nI x53) (nI x61) (nI x62) (nI x63) (nI x65) x66 f1 f2 f3 (bN 3 q4) (bN 7 q5) (bN 7 q6) (bN 4 q7) f8 (bN 2 q9) (bH q10) f11 (b2 m12_0 m12_1) (b2 m13_0 m13_1) (b2 m14_0 m14_1) (b2m m15_0 m15_1) f17 (bA 159 q31) f32 f34 f35 f36 f37 (bN 7 q38) f39 f40 f41 (b2 m42_0 m42_1) f43 f44 f47 f48 f49 f50 f51 (bN 13 q54) (bN 120 q55) (bN 120 q56) f57 (bN 120 q58) f59 f60 f64) := hD
    refine lv_aload_n hx hb dX9_automaton_5 rfl (lv_at hl 0 rfl) ?_
    refine lv_aload_n hx hb dX9_automaton_6 rfl (lv_at hl 0 rfl) ?_
    refine va_get (D := (dC, dI)) (ci := 9) (v := .int (nI x18)) (C := RX9) (T := TX9) (N := 67) hx hb hts hiX9 hown hK hP 0 rfl rfl 18 (by decide) v_2 (fun _ h9 => h9) rfl dX9_automaton_7 ?_
    refine va_put (D := (dC, dI)) (ci := 9) (v := .int (nI x18)) (ty := .int) (C := RX9) (T := TX9) (N := 67) hx hb hts hiX9 tyX9 tyX9_ok nmX9 hown hK hP hD hS 0 rfl rfl 19 (by decide) v_3 (fun _ h9 => h9) rfl (by decide +kernel) rfl rfl (Nat.le_of_ble_eq_true rfl) dX9_automaton_10 (fun H locs hP hD hS => ?_)
    have hP : va_P (dC, dI) vwCl (mo_w ad ck 0 0 (nI x18) (nI x18) x20 (nI x21) (nI x22) x23 x24 x25 (nI x26) x27 (nI x28) (nI x29) (nI x30) (nI x33) x45 (nI x46) (nI x52) (nI x53) (nI x61) (nI x62) (nI x63) (nI x65) x66 f1 f2 f3 (bN 3 q4) (bN 7 q5) (bN 7 q6) (bN 4 q7) f8 (bN 2 q9) (bH q10) f11 (b2 m12_0 m12_1) (b2 m13_0 m13_1) (b2 m14_0 m14_1) (b2m m15_0 m15_1) f17 (bA 159 q31) f32 f34 f35 f36 f37 (bN 7 q38) f39 f40 f41 (b2 m42_0 m42_1) f43 f44 f47 f48 f49 f50 f51 (bN 13 q54) (bN 120 q55) (bN 120 q56) f57 (bN 120 q58) f59 f60 f64) H := hP
    have hD : va_D A (mo_w ad ck 0 0 (nI x18) (nI x18) x20 (nI x21) (nI x22) x23 x24 x25 (nI x26) x27 (nI x28) (nI x29) (nI x30) (nI x33) x45 (nI x46) (nI x52) (nI x53) (nI x61) (nI x62) (nI x63) (nI x65) x66 f1 f2 f3 (bN 3 q4) (bN 7 q5) (bN 7 q6) (bN 4 q7) f8 (bN 2 q9) (bH q10) f11 (b2 m12_0 m12_1) (b2 m13_0 m13_1) (b2 m14_0 m14_1) (b2m m15_0 m15_1) f17 (bA 159 q31) f32 f34 f35 f36 f37 (bN 7 q38) f39 f40 f41 (b2 m42_0 m42_1) f43 f44 f47 f48 f49 f50 f51 (bN 13 q54) (bN 120 q55) (bN 120 q56) f57 (bN 120 q58) f59 f60 f64) := hD
    refine lv_aload_n hx hb dX9_automaton_13 rfl (lv_at hl 0 rfl) ?_
    refine lv_iconst (v := 0) hx hb dX9_automaton_14 (by decide) ?_
    refine va_put (D := (dC, dI)) (ci := 9) (v := .int 0) (ty := .int) (C := RX9) (T := TX9) (N := 67) hx hb hts hiX9 tyX9 tyX9_ok nmX9 hown hK hP hD hS 0 rfl rfl 18 (by decide) v_2 (fun _ h9 => h9) rfl (by decide +kernel) rfl rfl (Nat.le_of_ble_eq_true rfl) dX9_automaton_15 (fun H locs hP hD hS => ?_)
    have hP : va_P (dC, dI) vwCl (mo_w ad ck 0 0 0 (nI x18) x20 (nI x21) (nI x22) x23 x24 x25 (nI x26) x27 (nI x28) (nI x29) (nI x30) (nI x33) x45 (nI x46) (nI x52) (nI x53) (nI x61) (nI x62) (nI x63) (nI x65) x66 f1 f2 f3 (bN 3 q4) (bN 7 q5) (bN 7 q6) (bN 4 q7) f8 (bN 2 q9) (bH q10) f11 (b2 m12_0 m12_1) (b2 m13_0 m13_1) (b2 m14_0 m14_1) (b2m m15_0 m15_1) f17 (bA 159 q31) f32 f34 f35 f36 f37 (bN 7 q38) f39 f40 f41 (b2 m42_0 m42_1) f43 f44 f47 f48 f49 f50 f51 (bN 13 q54) (bN 120 q55) (bN 120 q56) f57 (bN 120 q58) f59 f60 f64) H := hP
    have hD : va_D A (mo_w ad ck 0 0 0 (nI x18) x20 (nI x21) (nI x22) x23 x24 x25 (nI x26) x27 (nI x28) (nI x29) (nI x30) (nI x33) x45 (nI x46) (nI x52) (nI x53) (nI x61) (nI x62) (nI x63) (nI x65) x66 f1 f2 f3 (bN 3 q4) (bN 7 q5) (bN 7 q6) (bN 4 q7) f8 (bN 2 q9) (bH q10) f11 (b2 m12_0 m12_1) (b2 m13_0 m13_1) (b2 m14_0 m14_1) (b2m m15_0 m15_1) f17 (bA 159 q31) f32 f34 f35 f36 f37 (bN 7 q38) f39 f40 f41 (b2 m42_0 m42_1) f43 f44 f47 f48 f49 f50 f51 (bN 13 q54) (bN 120 q55) (bN 120 q56) f57 (bN 120 q58) f59 f60 f64) := hD
    refine lv_aload_n hx hb dX9_automaton_18 rfl (lv_at hl 0 rfl) ?_
    refine lv_iconst (v := 0) hx hb dX9_automaton_19 (by decide) ?_
    refine va_put (D := (dC, dI)) (ci := 9) (v := .int 0) (ty := .int) (C := RX9) (T := TX9) (N := 67) hx hb hts hiX9 tyX9 tyX9_ok nmX9 hown hK hP hD hS 0 rfl rfl 21 (by decide) v_4 (fun _ h9 => h9) rfl (by decide +kernel) rfl rfl (Nat.le_of_ble_eq_true rfl) dX9_automaton_20 (fun H locs hP hD hS => ?_)
    have hP : va_P (dC, dI) vwCl (mo_w ad ck 0 0 0 (nI x18) x20 0 (nI x22) x23 x24 x25 (nI x26) x27 (nI x28) (nI x29) (nI x30) (nI x33) x45 (nI x46) (nI x52) (nI x53) (nI x61) (nI x62) (nI x63) (nI x65) x66 f1 f2 f3 (bN 3 q4) (bN 7 q5) (bN 7 q6) (bN 4 q7) f8 (bN 2 q9) (bH q10) f11 (b2 m12_0 m12_1) (b2 m13_0 m13_1) (b2 m14_0 m14_1) (b2m m15_0 m15_1) f17 (bA 159 q31) f32 f34 f35 f36 f37 (bN 7 q38) f39 f40 f41 (b2 m42_0 m42_1) f43 f44 f47 f48 f49 f50 f51 (bN 13 q54) (bN 120 q55) (bN 120 q56) f57 (bN 120 q58) f59 f60 f64) H := hP
    have hD : va_D A (mo_w ad ck 0 0 0 (nI x18) x20 0 (nI x22) x23 x24 x25 (nI x26) x27 (nI x28) (nI x29) (nI x30) (nI x33) x45 (nI x46) (nI x52) (nI x53) (nI x61) (nI x62) (nI x63) (nI x65) x66 f1 f2 f3 (bN 3 q4) (bN 7 q5) (bN 7 q6) (bN 4 q7) f8 (bN 2 q9) (bH q10) f11 (b2 m12_0 m12_1) (b2 m13_0 m13_1) (b2 m14_0 m14_1) (b2m m15_0 m15_1) f17 (bA 159 q31) f32 f34 f35 f36 f37 (bN 7 q38) f39 f40 f41 (b2 m42_0 m42_1) f43 f44 f47 f48 f49 f50 f51 (bN 13 q54) (bN 120 q55) (bN 120 q56) f57 (bN 120 q58) f59 f60 f64) := hD
    refine lv_aload_n hx hb dX9_automaton_23 rfl (lv_at hl 0 rfl) ?_
    refine lv_iconst (v := 0) hx hb dX9_automaton_24 (by decide) ?_
    refine va_put (D := (dC, dI)) (ci := 9) (v := .int 0) (ty := .int) (C := RX9) (T := TX9) (N := 67) hx hb hts hiX9 tyX9 tyX9_ok nmX9 hown hK hP hD hS 0 rfl rfl 26 (by decide) v_5 (fun _ h9 => h9) rfl (by decide +kernel) rfl rfl (Nat.le_of_ble_eq_true rfl) dX9_automaton_25 (fun H locs hP hD hS => ?_)
    have hP : va_P (dC, dI) vwCl (mo_w ad ck 0 0 0 (nI x18) x20 0 (nI x22) x23 x24 x25 0 x27 (nI x28) (nI x29) (nI x30) (nI x33) x45 (nI x46) (nI x52) (nI x53) (nI x61) (nI x62) (nI x63) (nI x65) x66 f1 f2 f3 (bN 3 q4) (bN 7 q5) (bN 7 q6) (bN 4 q7) f8 (bN 2 q9) (bH q10) f11 (b2 m12_0 m12_1) (b2 m13_0 m13_1) (b2 m14_0 m14_1) (b2m m15_0 m15_1) f17 (bA 159 q31) f32 f34 f35 f36 f37 (bN 7 q38) f39 f40 f41 (b2 m42_0 m42_1) f43 f44 f47 f48 f49 f50 f51 (bN 13 q54) (bN 120 q55) (bN 120 q56) f57 (bN 120 q58) f59 f60 f64) H := hP
    have hD : va_D A (mo_w ad ck 0 0 0 (nI x18) x20 0 (nI x22) x23 x24 x25 0 x27 (nI x28) (nI x29) (nI x30) (nI x33) x45 (nI x46) (nI x52) (nI x53) (nI x61) (nI x62) (nI x63) (nI x65) x66 f1 f2 f3 (bN 3 q4) (bN 7 q5) (bN 7 q6) (bN 4 q7) f8 (bN 2 q9) (bH q10) f11 (b2 m12_0 m12_1) (b2 m13_0 m13_1) (b2 m14_0 m14_1) (b2m m15_0 m15_1) f17 (bA 159 q31) f32 f34 f35 f36 f37 (bN 7 q38) f39 f40 f41 (b2 m42_0 m42_1) f43 f44 f47 f48 f49 f50 f51 (bN 13 q54) (bN 120 q55) (bN 120 q56) f57 (bN 120 q58) f59 f60 f64) := hD
    refine lv_aload_n hx hb dX9_automaton_28 rfl (lv_at hl 0 rfl) ?_
    refine lv_iconst (v := 1) hx hb dX9_automaton_29 (by decide) ?_
    refine lv_aload_n hx hb dX9_automaton_30 rfl (lv_at hl 0 rfl) ?_
    refine va_get (D := (dC, dI)) (ci := 9) (v := .int 0) (C := RX9) (T := TX9) (N := 67) hx hb hts hiX9 hown hK hP 0 rfl rfl 16 (by decide) v_6 (fun _ h9 => h9) rfl dX9_automaton_31 ?_
    refine lv_isub hx hb dX9_automaton_34 ?_
    refine lv_topi (fun y_1 ey_1 => ?_)
    obtain rfl : y_1 = 1 := ey_1.trans (by decide)
    refine va_put (D := (dC, dI)) (ci := 9) (v := .int 1) (ty := .int) (C := RX9) (T := TX9) (N := 67) hx hb hts hiX9 tyX9 tyX9_ok nmX9 hown hK hP hD hS 0 rfl rfl 28 (by decide) v_7 (fun _ h9 => h9) rfl (by decide +kernel) rfl rfl (Nat.le_of_ble_eq_true rfl) dX9_automaton_35 (fun H locs hP hD hS => ?_)
    have hP : va_P (dC, dI) vwCl (mo_w ad ck 0 0 0 (nI x18) x20 0 (nI x22) x23 x24 x25 0 x27 1 (nI x29) (nI x30) (nI x33) x45 (nI x46) (nI x52) (nI x53) (nI x61) (nI x62) (nI x63) (nI x65) x66 f1 f2 f3 (bN 3 q4) (bN 7 q5) (bN 7 q6) (bN 4 q7) f8 (bN 2 q9) (bH q10) f11 (b2 m12_0 m12_1) (b2 m13_0 m13_1) (b2 m14_0 m14_1) (b2m m15_0 m15_1) f17 (bA 159 q31) f32 f34 f35 f36 f37 (bN 7 q38) f39 f40 f41 (b2 m42_0 m42_1) f43 f44 f47 f48 f49 f50 f51 (bN 13 q54) (bN 120 q55) (bN 120 q56) f57 (bN 120 q58) f59 f60 f64) H := hP
    have hD : va_D A (mo_w ad ck 0 0 0 (nI x18) x20 0 (nI x22) x23 x24 x25 0 x27 1 (nI x29) (nI x30) (nI x33) x45 (nI x46) (nI x52) (nI x53) (nI x61) (nI x62) (nI x63) (nI x65) x66 f1 f2 f3 (bN 3 q4) (bN 7 q5) (bN 7 q6) (bN 4 q7) f8 (bN 2 q9) (bH q10) f11 (b2 m12_0 m12_1) (b2 m13_0 m13_1) (b2 m14_0 m14_1) (b2m m15_0 m15_1) f17 (bA 159 q31) f32 f34 f35 f36 f37 (bN 7 q38) f39 f40 f41 (b2 m42_0 m42_1) f43 f44 f47 f48 f49 f50 f51 (bN 13 q54) (bN 120 q55) (bN 120 q56) f57 (bN 120 q58) f59 f60 f64) := hD
    refine lv_aload_n hx hb dX9_automaton_38 rfl (lv_at hl 0 rfl) ?_
    refine va_get (D := (dC, dI)) (ci := 9) (v := .ref (ad 12)) (C := RX9) (T := TX9) (N := 67) hx hb hts hiX9 hown hK hP 0 rfl rfl 12 (by decide) v_8 (fun _ h9 => h9) rfl dX9_automaton_39 ?_
    refine lv_aload_n hx hb dX9_automaton_42 rfl (lv_at hl 0 rfl) ?_
    refine va_get (D := (dC, dI)) (ci := 9) (v := .int 1) (C := RX9) (T := TX9) (N := 67) hx hb hts hiX9 hown hK hP 0 rfl rfl 28 (by decide) v_7 (fun _ h9 => h9) rfl dX9_automaton_43 ?_
    refine lv_iconst (v := 0) hx hb dX9_automaton_46 (by decide) ?_
    refine va_iast hx hb hK hP hD hS 12 11 rfl rfl (vp_in_nI (n := 1) (Nat.le_of_ble_eq_true rfl) (Nat.le_of_ble_eq_true rfl)) dX9_automaton_47 (fun H locs hP hD hS => ?_)
    have hP : va_P (dC, dI) vwCl (mo_w ad ck 0 0 0 (nI x18) x20 0 (nI x22) x23 x24 x25 0 x27 1 (nI x29) (nI x30) (nI x33) x45 (nI x46) (nI x52) (nI x53) (nI x61) (nI x62) (nI x63) (nI x65) x66 f1 f2 f3 (bN 3 q4) (bN 7 q5) (bN 7 q6) (bN 4 q7) f8 (bN 2 q9) (bH q10) f11 (b2 m12_0 0) (b2 m13_0 m13_1) (b2 m14_0 m14_1) (b2m m15_0 m15_1) f17 (bA 159 q31) f32 f34 f35 f36 f37 (bN 7 q38) f39 f40 f41 (b2 m42_0 m42_1) f43 f44 f47 f48 f49 f50 f51 (bN 13 q54) (bN 120 q55) (bN 120 q56) f57 (bN 120 q58) f59 f60 f64) H := by rw [← b2_up1 (a := m12_0) (b := m12_1) (v := 0)]; exact hP
    have hD : va_D A (mo_w ad ck 0 0 0 (nI x18) x20 0 (nI x22) x23 x24 x25 0 x27 1 (nI x29) (nI x30) (nI x33) x45 (nI x46) (nI x52) (nI x53) (nI x61) (nI x62) (nI x63) (nI x65) x66 f1 f2 f3 (bN 3 q4) (bN 7 q5) (bN 7 q6) (bN 4 q7) f8 (bN 2 q9) (bH q10) f11 (b2 m12_0 0) (b2 m13_0 m13_1) (b2 m14_0 m14_1) (b2m m15_0 m15_1) f17 (bA 159 q31) f32 f34 f35 f36 f37 (bN 7 q38) f39 f40 f41 (b2 m42_0 m42_1) f43 f44 f47 f48 f49 f50 f51 (bN 13 q54) (bN 120 q55) (bN 120 q56) f57 (bN 120 q58) f59 f60 f64) := by rw [← b2_up1 (a := m12_0) (b := m12_1) (v := 0)]; exact hD
    refine lv_aload_n hx hb dX9_automaton_48 rfl (lv_at hl 0 rfl) ?_
    refine va_get (D := (dC, dI)) (ci := 9) (v := .ref (ad 13)) (C := RX9) (T := TX9) (N := 67) hx hb hts hiX9 hown hK hP 0 rfl rfl 13 (by decide) v_9 (fun _ h9 => h9) rfl dX9_automaton_49 ?_
    refine lv_aload_n hx hb dX9_automaton_52 rfl (lv_at hl 0 rfl) ?_
    refine va_get (D := (dC, dI)) (ci := 9) (v := .int 1) (C := RX9) (T := TX9) (N := 67) hx hb hts hiX9 hown hK hP 0 rfl rfl 28 (by decide) v_7 (fun _ h9 => h9) rfl dX9_automaton_53 ?_
    refine lv_iconst (v := 0) hx hb dX9_automaton_56 (by decide) ?_
    refine va_iast hx hb hK hP hD hS 13 12 rfl rfl (vp_in_nI (n := 1) (Nat.le_of_ble_eq_true rfl) (Nat.le_of_ble_eq_true rfl)) dX9_automaton_57 (fun H locs hP hD hS => ?_)
    have hP : va_P (dC, dI) vwCl (mo_w ad ck 0 0 0 (nI x18) x20 0 (nI x22) x23 x24 x25 0 x27 1 (nI x29) (nI x30) (nI x33) x45 (nI x46) (nI x52) (nI x53) (nI x61) (nI x62) (nI x63) (nI x65) x66 f1 f2 f3 (bN 3 q4) (bN 7 q5) (bN 7 q6) (bN 4 q7) f8 (bN 2 q9) (bH q10) f11 (b2 m12_0 0) (b2 m13_0 0) (b2 m14_0 m14_1) (b2m m15_0 m15_1) f17 (bA 159 q31) f32 f34 f35 f36 f37 (bN 7 q38) f39 f40 f41 (b2 m42_0 m42_1) f43 f44 f47 f48 f49 f50 f51 (bN 13 q54) (bN 120 q55) (bN 120 q56) f57 (bN 120 q58) f59 f60 f64) H := by rw [← b2_up1 (a := m13_0) (b := m13_1) (v := 0)]; exact hP
    have hD : va_D A (mo_w ad ck 0 0 0 (nI x18) x20 0 (nI x22) x23 x24 x25 0 x27 1 (nI x29) (nI x30) (nI x33) x45 (nI x46) (nI x52) (nI x53) (nI x61) (nI x62) (nI x63) (nI x65) x66 f1 f2 f3 (bN 3 q4) (bN 7 q5) (bN 7 q6) (bN 4 q7) f8 (bN 2 q9) (bH q10) f11 (b2 m12_0 0) (b2 m13_0 0) (b2 m14_0 m14_1) (b2m m15_0 m15_1) f17 (bA 159 q31) f32 f34 f35 f36 f37 (bN 7 q38) f39 f40 f41 (b2 m42_0 m42_1) f43 f44 f47 f48 f49 f50 f51 (bN 13 q54) (bN 120 q55) (bN 120 q56) f57 (bN 120 q58) f59 f60 f64) := by rw [← b2_up1 (a := m13_0) (b := m13_1) (v := 0)]; exact hD
    refine lv_aload_n hx hb dX9_automaton_58 rfl (lv_at hl 0 rfl) ?_
    refine va_get (D := (dC, dI)) (ci := 9) (v := .ref (ad 14)) (C := RX9) (T := TX9) (N := 67) hx hb hts hiX9 hown hK hP 0 rfl rfl 14 (by decide) v_10 (fun _ h9 => h9) rfl dX9_automaton_59 ?_
    refine lv_aload_n hx hb dX9_automaton_62 rfl (lv_at hl 0 rfl) ?_
    refine va_get (D := (dC, dI)) (ci := 9) (v := .int 1) (C := RX9) (T := TX9) (N := 67) hx hb hts hiX9 hown hK hP 0 rfl rfl 28 (by decide) v_7 (fun _ h9 => h9) rfl dX9_automaton_63 ?_
    refine lv_iconst (v := 0) hx hb dX9_automaton_66 (by decide) ?_
    refine va_iast hx hb hK hP hD hS 14 13 rfl rfl (vp_in_nI (n := 1) (Nat.le_of_ble_eq_true rfl) (Nat.le_of_ble_eq_true rfl)) dX9_automaton_67 (fun H locs hP hD hS => ?_)
    have hP : va_P (dC, dI) vwCl (mo_w ad ck 0 0 0 (nI x18) x20 0 (nI x22) x23 x24 x25 0 x27 1 (nI x29) (nI x30) (nI x33) x45 (nI x46) (nI x52) (nI x53) (nI x61) (nI x62) (nI x63) (nI x65) x66 f1 f2 f3 (bN 3 q4) (bN 7 q5) (bN 7 q6) (bN 4 q7) f8 (bN 2 q9) (bH q10) f11 (b2 m12_0 0) (b2 m13_0 0) (b2 m14_0 0) (b2m m15_0 m15_1) f17 (bA 159 q31) f32 f34 f35 f36 f37 (bN 7 q38) f39 f40 f41 (b2 m42_0 m42_1) f43 f44 f47 f48 f49 f50 f51 (bN 13 q54) (bN 120 q55) (bN 120 q56) f57 (bN 120 q58) f59 f60 f64) H := by rw [← b2_up1 (a := m14_0) (b := m14_1) (v := 0)]; exact hP
    have hD : va_D A (mo_w ad ck 0 0 0 (nI x18) x20 0 (nI x22) x23 x24 x25 0 x27 1 (nI x29) (nI x30) (nI x33) x45 (nI x46) (nI x52) (nI x53) (nI x61) (nI x62) (nI x63) (nI x65) x66 f1 f2 f3 (bN 3 q4) (bN 7 q5) (bN 7 q6) (bN 4 q7) f8 (bN 2 q9) (bH q10) f11 (b2 m12_0 0) (b2 m13_0 0) (b2 m14_0 0) (b2m m15_0 m15_1) f17 (bA 159 q31) f32 f34 f35 f36 f37 (bN 7 q38) f39 f40 f41 (b2 m42_0 m42_1) f43 f44 f47 f48 f49 f50 f51 (bN 13 q54) (bN 120 q55) (bN 120 q56) f57 (bN 120 q58) f59 f60 f64) := by rw [← b2_up1 (a := m14_0) (b := m14_1) (v := 0)]; exact hD
    refine lv_aload_n hx hb dX9_automaton_68 rfl (lv_at hl 0 rfl) ?_
    refine va_get (D := (dC, dI)) (ci := 9) (v := .ref (ad 15)) (C := RX9) (T := TX9) (N := 67) hx hb hts hiX9 hown hK hP 0 rfl rfl 15 (by decide) v_11 (fun _ h9 => h9) rfl dX9_automaton_69 ?_
    refine lv_aload_n hx hb dX9_automaton_72 rfl (lv_at hl 0 rfl) ?_
    refine va_get (D := (dC, dI)) (ci := 9) (v := .int 1) (C := RX9) (T := TX9) (N := 67) hx hb hts hiX9 hown hK hP 0 rfl rfl 28 (by decide) v_7 (fun _ h9 => h9) rfl dX9_automaton_73 ?_
    refine lv_iconst (v := (-1)) hx hb dX9_automaton_76 (by decide) ?_
    refine va_iast hx hb hK hP hD hS 15 14 rfl rfl (vp_in_nI (n := 1) (Nat.le_of_ble_eq_true rfl) (Nat.le_of_ble_eq_true rfl)) dX9_automaton_77 (fun H locs hP hD hS => ?_)
    have hP : va_P (dC, dI) vwCl (mo_w ad ck 0 0 0 (nI x18) x20 0 (nI x22) x23 x24 x25 0 x27 1 (nI x29) (nI x30) (nI x33) x45 (nI x46) (nI x52) (nI x53) (nI x61) (nI x62) (nI x63) (nI x65) x66 f1 f2 f3 (bN 3 q4) (bN 7 q5) (bN 7 q6) (bN 4 q7) f8 (bN 2 q9) (bH q10) f11 (b2 m12_0 0) (b2 m13_0 0) (b2 m14_0 0) (b2m m15_0 0) f17 (bA 159 q31) f32 f34 f35 f36 f37 (bN 7 q38) f39 f40 f41 (b2 m42_0 m42_1) f43 f44 f47 f48 f49 f50 f51 (bN 13 q54) (bN 120 q55) (bN 120 q56) f57 (bN 120 q58) f59 f60 f64) H := by rw [← b2m_n1 (a := m15_0) (b := m15_1)]; exact hP
    have hD : va_D A (mo_w ad ck 0 0 0 (nI x18) x20 0 (nI x22) x23 x24 x25 0 x27 1 (nI x29) (nI x30) (nI x33) x45 (nI x46) (nI x52) (nI x53) (nI x61) (nI x62) (nI x63) (nI x65) x66 f1 f2 f3 (bN 3 q4) (bN 7 q5) (bN 7 q6) (bN 4 q7) f8 (bN 2 q9) (bH q10) f11 (b2 m12_0 0) (b2 m13_0 0) (b2 m14_0 0) (b2m m15_0 0) f17 (bA 159 q31) f32 f34 f35 f36 f37 (bN 7 q38) f39 f40 f41 (b2 m42_0 m42_1) f43 f44 f47 f48 f49 f50 f51 (bN 13 q54) (bN 120 q55) (bN 120 q56) f57 (bN 120 q58) f59 f60 f64) := by rw [← b2m_n1 (a := m15_0) (b := m15_1)]; exact hD
    refine lv_aload_n hx hb dX9_automaton_78 rfl (lv_at hl 0 rfl) ?_
    have hFc := pu_free hD hS hA
    refine va_callv (va_runV (As := []) (rest := []) ⟨hx, hb, hml, hown, hts⟩ (c_M_next l dC dI _ ad ck 0 0 0 x18 x20 0 x22 x23 x24 x25 0 x27 1 x29 x30 x33 x45 x46 x52 x53 x61 x62 x63 x65 x66 f1 f2 f3 q4 q5 q6 q7 f8 q9 q10 f11 m12_0 0 m13_0 0 m14_0 0 m15_0 0 f17 q31 f32 f34 f35 f36 f37 q38 f39 f40 f41 m42_0 m42_1 f43 f44 f47 f48 f49 f50 f51 q54 q55 q56 f57 q58 f59 f60 f64 (Nat.le_of_ble_eq_true rfl) (Nat.le_of_ble_eq_true rfl) hx18 (Nat.le_of_ble_eq_true rfl) hx22 (Nat.le_of_ble_eq_true rfl) (Nat.le_of_ble_eq_true rfl) hx29 hx30 hx33 hx46 hx52 hx53 hx61 hx62 hx63 hx65 hm12_0 (Nat.le_of_ble_eq_true rfl) hm13_0 (Nat.le_of_ble_eq_true rfl) hm14_0 (Nat.le_of_ble_eq_true rfl) hm15_0 (Nat.le_of_ble_eq_true rfl) hm42_0 hm42_1) (cwV 0 hts g_M_automaton_M_next rfl rfl rfl (by decide +kernel) ⟨Nat.le_of_ble_eq_true rfl, Nat.le_of_ble_eq_true rfl⟩) ⟨pu_bl, va_recv hK hP (ci := 9) (q0 := 0) rfl rfl, pu_in hP hK hD⟩ rfl rfl hl.1 rfl (lv_room (Nat.le_of_ble_eq_true rfl)) dX9_automaton_79 ⟨Nat.le_of_ble_eq_true rfl, Nat.le_of_ble_eq_true rfl⟩) hS (fun q _ h => hFc q h) hFc (fun u t H1 locs ht hvm hw hB hz1 hk1 hS => ?_)
    obtain ⟨z20_3, z21_4, z22_5, z23_6, ⟨hP1, -, hD1⟩, hz21_4, hz22_5, xr_2_0, xr_2_1⟩ := hB
    rw [ht] at hP1
    have hP := hP1
    have hD := pu_all hFc hD1
    clear hP1 hD1 hFc
    clear hk1 hz1 ht hvm
    generalize H1 = H at hP hS ⊢
    refine pu_while (fun nn H locs ls => ∃ (g_28 : Nat → Int32) (g_29 : Nat → Nat) (g_30 : Nat → Int32) (g_31 : Nat → Int32) (g_32 : Nat → Int32) (g_33 : Nat → Nat) (g_34 : Nat → Nat) (g_35 : Nat → Nat) (g_36 : Nat → Nat) (g_37 : Nat → Int32) (g_38 : Nat → Nat) (g_39 : Nat) (g_40 : Nat) (g_41 : Nat) (g_42 : Nat) (g_43 : Int32) (g_44 : Nat) (g_45 : Nat) (g_46 : Int32) (g_47 : Nat) (g_48 : Int32), nn = 2 * mu g_44 g_45 + (1 - g_47) ∧ g_39 ≤ 3 ∧ g_40 ≤ 8 ∧ g_41 ≤ 14 ∧ g_42 ≤ 8 ∧ g_44 ≤ 900 ∧ g_45 ≤ 4 ∧ g_47 ≤ 6 ∧ va_P (dC, dI) vwCl (mo_w ad ck 0 0 0 (nI x18) g_43 (nI g_44) (nI g_45) g_46 x24 x25 (nI g_47) g_48 1 (nI x29) (nI x30) (nI x33) x45 (nI x46) (nI x52) (nI x53) (nI x61) (nI x62) (nI x63) (nI x65) x66 g_28 g_31 g_32 (bN 3 g_33) (bN 7 g_34) (bN 7 g_35) (bN 4 g_36) g_37 (bN 2 g_38) (bH g_29) g_30 (b2 m12_0 g_39) (b2 m13_0 g_40) (b2 m14_0 g_41) (b2m m15_0 g_42) f17 (bA 159 q31) f32 f34 f35 f36 f37 (bN 7 q38) f39 f40 f41 (b2 m42_0 m42_1) f43 f44 f47 f48 f49 f50 f51 (bN 13 q54) (bN 120 q55) (bN 120 q56) f57 (bN 120 q58) f59 f60 f64) H ∧ va_D A (mo_w ad ck 0 0 0 (nI x18) g_43 (nI g_44) (nI g_45) g_46 x24 x25 (nI g_47) g_48 1 (nI x29) (nI x30) (nI x33) x45 (nI x46) (nI x52) (nI x53) (nI x61) (nI x62) (nI x63) (nI x65) x66 g_28 g_31 g_32 (bN 3 g_33) (bN 7 g_34) (bN 7 g_35) (bN 4 g_36) g_37 (bN 2 g_38) (bH g_29) g_30 (b2 m12_0 g_39) (b2 m13_0 g_40) (b2 m14_0 g_41) (b2m m15_0 g_42) f17 (bA 159 q31) f32 f34 f35 f36 f37 (bN 7 q38) f39 f40 f41 (b2 m42_0 m42_1) f43 f44 f47 f48 f49 f50 f51 (bN 13 q54) (bN 120 q55) (bN 120 q56) f57 (bN 120 q58) f59 f60 f64) ∧ va_S A s.heap H locs ∧ lv_has ls 1 [(0, .ref (ad 0))]) 82 ?_ _ _ _ _ ⟨f1, q10, f11, f2, f3, q4, q5, q6, q7, f8, q9, 0, 0, 0, 0, z20_3, z21_4, z22_5, z23_6, 0, x27, rfl, (Nat.le_of_ble_eq_true rfl), (Nat.le_of_ble_eq_true rfl), (Nat.le_of_ble_eq_true rfl), (Nat.le_of_ble_eq_true rfl), hz21_4, hz22_5, (Nat.le_of_ble_eq_true rfl), hP, hD, hS, lv_sub hl [0] rfl⟩
    rintro nn ih_49 H locs ls ⟨g_28, g_29, g_30, g_31, g_32, g_33, g_34, g_35, g_36, g_37, g_38, g_39, g_40, g_41, g_42, g_43, g_44, g_45, g_46, g_47, g_48, rfl, hg_39, hg_40, hg_41, hg_42, hg_44, hg_45, hg_47, hP, hD, hS, hl⟩
    refine lv_aload_n hx hb dX9_automaton_82 rfl (lv_at hl 0 rfl) ?_
    refine va_calli (va_runV (As := []) (rest := []) ⟨hx, hb, hml, hown, hts⟩ (c_M_isGood l dC dI _ ad ck 0 0 0 x18 g_43 g_44 g_45 g_46 x24 x25 g_47 g_48 1 x29 x30 x33 x45 x46 x52 x53 x61 x62 x63 x65 x66 g_28 g_31 g_32 g_33 g_34 g_35 g_36 g_37 g_38 g_29 g_30 m12_0 g_39 m13_0 g_40 m14_0 g_41 m15_0 g_42 f17 q31 f32 f34 f35 f36 f37 q38 f39 f40 f41 m42_0 m42_1 f43 f44 f47 f48 f49 f50 f51 q54 q55 q56 f57 q58 f59 f60 f64 (Nat.le_of_ble_eq_true rfl) (Nat.le_of_ble_eq_true rfl) hx18 hg_44 hg_45 hg_47 (Nat.le_of_ble_eq_true rfl) hx29 hx30 hx33 hx46 hx52 hx53 hx61 hx62 hx63 hx65 hm12_0 hg_39 hm13_0 hg_40 hm14_0 hg_41 hm15_0 hg_42 hm42_0 hm42_1) (cwV 0 hts g_M_automaton_M_isGood rfl rfl rfl (by decide +kernel) ⟨Nat.le_of_ble_eq_true rfl, Nat.le_of_ble_eq_true rfl⟩) ⟨pu_bl, va_recv hK hP (ci := 9) (q0 := 0) rfl rfl, pu_in hP hK hD⟩ rfl rfl hl.1 rfl (lv_room (Nat.le_of_ble_eq_true rfl)) dX9_automaton_83 ⟨Nat.le_of_ble_eq_true rfl, Nat.le_of_ble_eq_true rfl⟩) hS (fun q _ h => pu_fr hS hA q h) (pu_fr hS hA) (fun r_50 u t H1 locs ht hvm hw hB hz1 hk1 hS => ?_)
    have hP := pu_keep hP hk1
    clear hk1 hz1 ht hvm
    generalize H1 = H at hP hS ⊢
    obtain ⟨u_51, hu_51, rfl, iu_51⟩ := hw
    refine pu_join (fun H locs ls st => st = [] ∧ va_P (dC, dI) vwCl (mo_w ad ck 0 0 0 (nI x18) g_43 (nI g_44) (nI g_45) g_46 x24 x25 (nI g_47) g_48 1 (nI x29) (nI x30) (nI x33) x45 (nI x46) (nI x52) (nI x53) (nI x61) (nI x62) (nI x63) (nI x65) x66 g_28 g_31 g_32 (bN 3 g_33) (bN 7 g_34) (bN 7 g_35) (bN 4 g_36) g_37 (bN 2 g_38) (bH g_29) g_30 (b2 m12_0 g_39) (b2 m13_0 g_40) (b2 m14_0 g_41) (b2m m15_0 g_42) f17 (bA 159 q31) f32 f34 f35 f36 f37 (bN 7 q38) f39 f40 f41 (b2 m42_0 m42_1) f43 f44 f47 f48 f49 f50 f51 (bN 13 q54) (bN 120 q55) (bN 120 q56) f57 (bN 120 q58) f59 f60 f64) H ∧ va_D A (mo_w ad ck 0 0 0 (nI x18) g_43 (nI g_44) (nI g_45) g_46 x24 x25 (nI g_47) g_48 1 (nI x29) (nI x30) (nI x33) x45 (nI x46) (nI x52) (nI x53) (nI x61) (nI x62) (nI x63) (nI x65) x66 g_28 g_31 g_32 (bN 3 g_33) (bN 7 g_34) (bN 7 g_35) (bN 4 g_36) g_37 (bN 2 g_38) (bH g_29) g_30 (b2 m12_0 g_39) (b2 m13_0 g_40) (b2 m14_0 g_41) (b2m m15_0 g_42) f17 (bA 159 q31) f32 f34 f35 f36 f37 (bN 7 q38) f39 f40 f41 (b2 m42_0 m42_1) f43 f44 f47 f48 f49 f50 f51 (bN 13 q54) (bN 120 q55) (bN 120 q56) f57 (bN 120 q58) f59 f60 f64) ∧ va_S A s.heap H locs ∧ lv_has ls 1 [(0, .ref (ad 0))]) 135 ?_ (fun j_52 => ?_)
    · rintro H locs ls st ⟨rfl, hP, hD, hS, hl⟩
      refine lv_aload_n hx hb dX9_automaton_135 rfl (lv_at hl 0 rfl) ?_
      refine va_calli (va_runV (As := []) (rest := []) ⟨hx, hb, hml, hown, hts⟩ (c_M_isGood l dC dI _ ad ck 0 0 0 x18 g_43 g_44 g_45 g_46 x24 x25 g_47 g_48 1 x29 x30 x33 x45 x46 x52 x53 x61 x62 x63 x65 x66 g_28 g_31 g_32 g_33 g_34 g_35 g_36 g_37 g_38 g_29 g_30 m12_0 g_39 m13_0 g_40 m14_0 g_41 m15_0 g_42 f17 q31 f32 f34 f35 f36 f37 q38 f39 f40 f41 m42_0 m42_1 f43 f44 f47 f48 f49 f50 f51 q54 q55 q56 f57 q58 f59 f60 f64 (Nat.le_of_ble_eq_true rfl) (Nat.le_of_ble_eq_true rfl) hx18 hg_44 hg_45 hg_47 (Nat.le_of_ble_eq_true rfl) hx29 hx30 hx33 hx46 hx52 hx53 hx61 hx62 hx63 hx65 hm12_0 hg_39 hm13_0 hg_40 hm14_0 hg_41 hm15_0 hg_42 hm42_0 hm42_1) (cwV 0 hts g_M_automaton_M_isGood rfl rfl rfl (by decide +kernel) ⟨Nat.le_of_ble_eq_true rfl, Nat.le_of_ble_eq_true rfl⟩) ⟨pu_bl, va_recv hK hP (ci := 9) (q0 := 0) rfl rfl, pu_in hP hK hD⟩ rfl rfl hl.1 rfl (lv_room (Nat.le_of_ble_eq_true rfl)) dX9_automaton_136 ⟨Nat.le_of_ble_eq_true rfl, Nat.le_of_ble_eq_true rfl⟩) hS (fun q _ h => pu_fr hS hA q h) (pu_fr hS hA) (fun r_53 u t H1 locs ht hvm hw hB hz1 hk1 hS => ?_)
      have hP := pu_keep hP hk1
      clear hk1 hz1 ht hvm
      generalize H1 = H at hP hS ⊢
      obtain ⟨u_54, hu_54, rfl, iu_54⟩ := hw
      refine pu_join (fun H locs ls st => ∃ (g_55 : Nat) (g_56 : Int32), st = [] ∧ g_55 ≤ 6 ∧ va_P (dC, dI) vwCl (mo_w ad ck 0 0 0 (nI x18) g_43 (nI g_44) (nI g_45) g_46 x24 x25 (nI g_55) g_56 1 (nI x29) (nI x30) (nI x33) x45 (nI x46) (nI x52) (nI x53) (nI x61) (nI x62) (nI x63) (nI x65) x66 g_28 g_31 g_32 (bN 3 g_33) (bN 7 g_34) (bN 7 g_35) (bN 4 g_36) g_37 (bN 2 g_38) (bH g_29) g_30 (b2 m12_0 g_39) (b2 m13_0 g_40) (b2 m14_0 g_41) (b2m m15_0 g_42) f17 (bA 159 q31) f32 f34 f35 f36 f37 (bN 7 q38) f39 f40 f41 (b2 m42_0 m42_1) f43 f44 f47 f48 f49 f50 f51 (bN 13 q54) (bN 120 q55) (bN 120 q56) f57 (bN 120 q58) f59 f60 f64) H ∧ va_D A (mo_w ad ck 0 0 0 (nI x18) g_43 (nI g_44) (nI g_45) g_46 x24 x25 (nI g_55) g_56 1 (nI x29) (nI x30) (nI x33) x45 (nI x46) (nI x52) (nI x53) (nI x61) (nI x62) (nI x63) (nI x65) x66 g_28 g_31 g_32 (bN 3 g_33) (bN 7 g_34) (bN 7 g_35) (bN 4 g_36) g_37 (bN 2 g_38) (bH g_29) g_30 (b2 m12_0 g_39) (b2 m13_0 g_40) (b2 m14_0 g_41) (b2m m15_0 g_42) f17 (bA 159 q31) f32 f34 f35 f36 f37 (bN 7 q38) f39 f40 f41 (b2 m42_0 m42_1) f43 f44 f47 f48 f49 f50 f51 (bN 13 q54) (bN 120 q55) (bN 120 q56) f57 (bN 120 q58) f59 f60 f64) ∧ va_S A s.heap H locs ∧ lv_has ls 1 [(0, .ref (ad 0))]) 160 ?_ (fun j_57 => ?_)
      · rintro H locs ls st ⟨g_55, g_56, rfl, hg_55, hP, hD, hS, hl⟩
        refine lv_aload_n hx hb dX9_automaton_160 rfl (lv_at hl 0 rfl) ?_
        refine lv_aload_n hx hb dX9_automaton_161 rfl (lv_at hl 0 rfl) ?_
        refine va_get (D := (dC, dI)) (ci := 9) (v := .int (nI g_55)) (C := RX9) (T := TX9) (N := 67) hx hb hts hiX9 hown hK hP 0 rfl rfl 26 (by decide) v_5 (fun _ h9 => h9) rfl dX9_automaton_162 ?_
        refine va_put (D := (dC, dI)) (ci := 9) (v := .int (nI g_55)) (ty := .int) (C := RX9) (T := TX9) (N := 67) hx hb hts hiX9 tyX9 tyX9_ok nmX9 hown hK hP hD hS 0 rfl rfl 24 (by decide) v_34 (fun _ h9 => h9) rfl (by decide +kernel) rfl rfl (Nat.le_of_ble_eq_true rfl) dX9_automaton_165 (fun H locs hP hD hS => ?_)
        have hP : va_P (dC, dI) vwCl (mo_w ad ck 0 0 0 (nI x18) g_43 (nI g_44) (nI g_45) g_46 (nI g_55) x25 (nI g_55) g_56 1 (nI x29) (nI x30) (nI x33) x45 (nI x46) (nI x52) (nI x53) (nI x61) (nI x62) (nI x63) (nI x65) x66 g_28 g_31 g_32 (bN 3 g_33) (bN 7 g_34) (bN 7 g_35) (bN 4 g_36) g_37 (bN 2 g_38) (bH g_29) g_30 (b2 m12_0 g_39) (b2 m13_0 g_40) (b2 m14_0 g_41) (b2m m15_0 g_42) f17 (bA 159 q31) f32 f34 f35 f36 f37 (bN 7 q38) f39 f40 f41 (b2 m42_0 m42_1) f43 f44 f47 f48 f49 f50 f51 (bN 13 q54) (bN 120 q55) (bN 120 q56) f57 (bN 120 q58) f59 f60 f64) H := hP
        have hD : va_D A (mo_w ad ck 0 0 0 (nI x18) g_43 (nI g_44) (nI g_45) g_46 (nI g_55) x25 (nI g_55) g_56 1 (nI x29) (nI x30) (nI x33) x45 (nI x46) (nI x52) (nI x53) (nI x61) (nI x62) (nI x63) (nI x65) x66 g_28 g_31 g_32 (bN 3 g_33) (bN 7 g_34) (bN 7 g_35) (bN 4 g_36) g_37 (bN 2 g_38) (bH g_29) g_30 (b2 m12_0 g_39) (b2 m13_0 g_40) (b2 m14_0 g_41) (b2m m15_0 g_42) f17 (bA 159 q31) f32 f34 f35 f36 f37 (bN 7 q38) f39 f40 f41 (b2 m42_0 m42_1) f43 f44 f47 f48 f49 f50 f51 (bN 13 q54) (bN 120 q55) (bN 120 q56) f57 (bN 120 q58) f59 f60 f64) := hD
        refine lv_aload_n hx hb dX9_automaton_168 rfl (lv_at hl 0 rfl) ?_
        refine lv_aload_n hx hb dX9_automaton_169 rfl (lv_at hl 0 rfl) ?_
        refine va_get (D := (dC, dI)) (ci := 9) (v := .int (nI g_55)) (C := RX9) (T := TX9) (N := 67) hx hb hts hiX9 hown hK hP 0 rfl rfl 26 (by decide) v_5 (fun _ h9 => h9) rfl dX9_automaton_170 ?_
        refine pu_join (fun H locs ls st => ∃ (g_58 : Int32), st = [.int g_58, .ref (ad 0)] ∧ va_P (dC, dI) vwCl (mo_w ad ck 0 0 0 (nI x18) g_43 (nI g_44) (nI g_45) g_46 (nI g_55) x25 (nI g_55) g_56 1 (nI x29) (nI x30) (nI x33) x45 (nI x46) (nI x52) (nI x53) (nI x61) (nI x62) (nI x63) (nI x65) x66 g_28 g_31 g_32 (bN 3 g_33) (bN 7 g_34) (bN 7 g_35) (bN 4 g_36) g_37 (bN 2 g_38) (bH g_29) g_30 (b2 m12_0 g_39) (b2 m13_0 g_40) (b2 m14_0 g_41) (b2m m15_0 g_42) f17 (bA 159 q31) f32 f34 f35 f36 f37 (bN 7 q38) f39 f40 f41 (b2 m42_0 m42_1) f43 f44 f47 f48 f49 f50 f51 (bN 13 q54) (bN 120 q55) (bN 120 q56) f57 (bN 120 q58) f59 f60 f64) H ∧ va_D A (mo_w ad ck 0 0 0 (nI x18) g_43 (nI g_44) (nI g_45) g_46 (nI g_55) x25 (nI g_55) g_56 1 (nI x29) (nI x30) (nI x33) x45 (nI x46) (nI x52) (nI x53) (nI x61) (nI x62) (nI x63) (nI x65) x66 g_28 g_31 g_32 (bN 3 g_33) (bN 7 g_34) (bN 7 g_35) (bN 4 g_36) g_37 (bN 2 g_38) (bH g_29) g_30 (b2 m12_0 g_39) (b2 m13_0 g_40) (b2 m14_0 g_41) (b2m m15_0 g_42) f17 (bA 159 q31) f32 f34 f35 f36 f37 (bN 7 q38) f39 f40 f41 (b2 m42_0 m42_1) f43 f44 f47 f48 f49 f50 f51 (bN 13 q54) (bN 120 q55) (bN 120 q56) f57 (bN 120 q58) f59 f60 f64) ∧ va_S A s.heap H locs ∧ lv_has ls 1 [(0, .ref (ad 0))]) 184 ?_ (fun j_59 => ?_)
        · rintro H locs ls st ⟨g_58, rfl, hP, hD, hS, hl⟩
          refine va_put (D := (dC, dI)) (ci := 9) (v := .int g_58) (ty := .int) (C := RX9) (T := TX9) (N := 67) hx hb hts hiX9 tyX9 tyX9_ok nmX9 hown hK hP hD hS 0 rfl rfl 25 (by decide) v_36 (fun _ h9 => h9) rfl (by decide +kernel) rfl rfl (Nat.le_of_ble_eq_true rfl) dX9_automaton_184 (fun H locs hP hD hS => ?_)
          have hP : va_P (dC, dI) vwCl (mo_w ad ck 0 0 0 (nI x18) g_43 (nI g_44) (nI g_45) g_46 (nI g_55) g_58 (nI g_55) g_56 1 (nI x29) (nI x30) (nI x33) x45 (nI x46) (nI x52) (nI x53) (nI x61) (nI x62) (nI x63) (nI x65) x66 g_28 g_31 g_32 (bN 3 g_33) (bN 7 g_34) (bN 7 g_35) (bN 4 g_36) g_37 (bN 2 g_38) (bH g_29) g_30 (b2 m12_0 g_39) (b2 m13_0 g_40) (b2 m14_0 g_41) (b2m m15_0 g_42) f17 (bA 159 q31) f32 f34 f35 f36 f37 (bN 7 q38) f39 f40 f41 (b2 m42_0 m42_1) f43 f44 f47 f48 f49 f50 f51 (bN 13 q54) (bN 120 q55) (bN 120 q56) f57 (bN 120 q58) f59 f60 f64) H := hP
          have hD : va_D A (mo_w ad ck 0 0 0 (nI x18) g_43 (nI g_44) (nI g_45) g_46 (nI g_55) g_58 (nI g_55) g_56 1 (nI x29) (nI x30) (nI x33) x45 (nI x46) (nI x52) (nI x53) (nI x61) (nI x62) (nI x63) (nI x65) x66 g_28 g_31 g_32 (bN 3 g_33) (bN 7 g_34) (bN 7 g_35) (bN 4 g_36) g_37 (bN 2 g_38) (bH g_29) g_30 (b2 m12_0 g_39) (b2 m13_0 g_40) (b2 m14_0 g_41) (b2m m15_0 g_42) f17 (bA 159 q31) f32 f34 f35 f36 f37 (bN 7 q38) f39 f40 f41 (b2 m42_0 m42_1) f43 f44 f47 f48 f49 f50 f51 (bN 13 q54) (bN 120 q55) (bN 120 q56) f57 (bN 120 q58) f59 f60 f64) := hD
          refine lv_aload_n hx hb dX9_automaton_187 rfl (lv_at hl 0 rfl) ?_
          refine va_calli (va_runV (As := []) (rest := []) ⟨hx, hb, hml, hown, hts⟩ (c_M_isGood l dC dI _ ad ck 0 0 0 x18 g_43 g_44 g_45 g_46 (nI g_55) g_58 g_55 g_56 1 x29 x30 x33 x45 x46 x52 x53 x61 x62 x63 x65 x66 g_28 g_31 g_32 g_33 g_34 g_35 g_36 g_37 g_38 g_29 g_30 m12_0 g_39 m13_0 g_40 m14_0 g_41 m15_0 g_42 f17 q31 f32 f34 f35 f36 f37 q38 f39 f40 f41 m42_0 m42_1 f43 f44 f47 f48 f49 f50 f51 q54 q55 q56 f57 q58 f59 f60 f64 (Nat.le_of_ble_eq_true rfl) (Nat.le_of_ble_eq_true rfl) hx18 hg_44 hg_45 hg_55 (Nat.le_of_ble_eq_true rfl) hx29 hx30 hx33 hx46 hx52 hx53 hx61 hx62 hx63 hx65 hm12_0 hg_39 hm13_0 hg_40 hm14_0 hg_41 hm15_0 hg_42 hm42_0 hm42_1) (cwV 0 hts g_M_automaton_M_isGood rfl rfl rfl (by decide +kernel) ⟨Nat.le_of_ble_eq_true rfl, Nat.le_of_ble_eq_true rfl⟩) ⟨pu_bl, va_recv hK hP (ci := 9) (q0 := 0) rfl rfl, pu_in hP hK hD⟩ rfl rfl hl.1 rfl (lv_room (Nat.le_of_ble_eq_true rfl)) dX9_automaton_188 ⟨Nat.le_of_ble_eq_true rfl, Nat.le_of_ble_eq_true rfl⟩) hS (fun q _ h => pu_fr hS hA q h) (pu_fr hS hA) (fun r_60 u t H1 locs ht hvm hw hB hz1 hk1 hS => ?_)
          have hP := pu_keep hP hk1
          clear hk1 hz1 ht hvm
          generalize H1 = H at hP hS ⊢
          obtain ⟨u_61, hu_61, rfl, iu_61⟩ := hw
          refine lv_if_ne (tgt := 196) hx hb dX9_automaton_191 (by decide) (fun c_62 => ?_) (fun c_62 => ?_)
          · have c_62 : ¬ u_61 = 0 := fun z => c_62 ((nI_eq (a := u_61) (b := 0) (Nat.lt_of_le_of_lt hu_61 (Nat.le_of_ble_eq_true rfl)) (Nat.le_of_ble_eq_true rfl)).mpr z)
            refine lv_aload_n hx hb dX9_automaton_196 rfl (lv_at hl 0 rfl) ?_
            refine lv_aload_n hx hb dX9_automaton_197 rfl (lv_at hl 0 rfl) ?_
            refine va_get (D := (dC, dI)) (ci := 9) (v := .int 1) (C := RX9) (T := TX9) (N := 67) hx hb hts hiX9 hown hK hP 0 rfl rfl 28 (by decide) v_7 (fun _ h9 => h9) rfl dX9_automaton_198 ?_
            refine va_put (D := (dC, dI)) (ci := 9) (v := .int 1) (ty := .int) (C := RX9) (T := TX9) (N := 67) hx hb hts hiX9 tyX9 tyX9_ok nmX9 hown hK hP hD hS 0 rfl rfl 16 (by decide) v_6 (fun _ h9 => h9) rfl (by decide +kernel) rfl rfl (Nat.le_of_ble_eq_true rfl) dX9_automaton_201 (fun H locs hP hD hS => ?_)
            have hP : va_P (dC, dI) vwCl (mo_w ad ck 0 1 0 (nI x18) g_43 (nI g_44) (nI g_45) g_46 (nI g_55) g_58 (nI g_55) g_56 1 (nI x29) (nI x30) (nI x33) x45 (nI x46) (nI x52) (nI x53) (nI x61) (nI x62) (nI x63) (nI x65) x66 g_28 g_31 g_32 (bN 3 g_33) (bN 7 g_34) (bN 7 g_35) (bN 4 g_36) g_37 (bN 2 g_38) (bH g_29) g_30 (b2 m12_0 g_39) (b2 m13_0 g_40) (b2 m14_0 g_41) (b2m m15_0 g_42) f17 (bA 159 q31) f32 f34 f35 f36 f37 (bN 7 q38) f39 f40 f41 (b2 m42_0 m42_1) f43 f44 f47 f48 f49 f50 f51 (bN 13 q54) (bN 120 q55) (bN 120 q56) f57 (bN 120 q58) f59 f60 f64) H := hP
            have hD : va_D A (mo_w ad ck 0 1 0 (nI x18) g_43 (nI g_44) (nI g_45) g_46 (nI g_55) g_58 (nI g_55) g_56 1 (nI x29) (nI x30) (nI x33) x45 (nI x46) (nI x52) (nI x53) (nI x61) (nI x62) (nI x63) (nI x65) x66 g_28 g_31 g_32 (bN 3 g_33) (bN 7 g_34) (bN 7 g_35) (bN 4 g_36) g_37 (bN 2 g_38) (bH g_29) g_30 (b2 m12_0 g_39) (b2 m13_0 g_40) (b2 m14_0 g_41) (b2m m15_0 g_42) f17 (bA 159 q31) f32 f34 f35 f36 f37 (bN 7 q38) f39 f40 f41 (b2 m42_0 m42_1) f43 f44 f47 f48 f49 f50 f51 (bN 13 q54) (bN 120 q55) (bN 120 q56) f57 (bN 120 q58) f59 f60 f64) := hD
            refine lv_aload_n hx hb dX9_automaton_204 rfl (lv_at hl 0 rfl) ?_
            refine va_get (D := (dC, dI)) (ci := 9) (v := .ref (ad 15)) (C := RX9) (T := TX9) (N := 67) hx hb hts hiX9 hown hK hP 0 rfl rfl 15 (by decide) v_11 (fun _ h9 => h9) rfl dX9_automaton_205 ?_
            refine lv_aload_n hx hb dX9_automaton_208 rfl (lv_at hl 0 rfl) ?_
            refine va_get (D := (dC, dI)) (ci := 9) (v := .int 1) (C := RX9) (T := TX9) (N := 67) hx hb hts hiX9 hown hK hP 0 rfl rfl 16 (by decide) v_6 (fun _ h9 => h9) rfl dX9_automaton_209 ?_
            refine va_iald hx hb hK hP 15 14 rfl rfl (vp_in_nI (n := 1) (Nat.le_of_ble_eq_true rfl) (Nat.le_of_ble_eq_true rfl)) dX9_automaton_212 ?_
            refine lv_topi (fun y_63 ey_63 => ?_)
            have qy_63 := ey_63.trans b2m_1
            clear ey_63
            rcases mI_get g_42 with ⟨zy_63, wy_63⟩ | ⟨vy_63, zy_63, wy_63⟩
            · obtain rfl : y_63 = -1 := qy_63.trans wy_63
              refine lv_if_ge (tgt := 226) hx hb dX9_automaton_213 (by decide) (fun z => absurd z (by decide)) (fun _ => ?_)
              refine lv_aload_n hx hb dX9_automaton_216 rfl (lv_at hl 0 rfl) ?_
              refine va_get (D := (dC, dI)) (ci := 9) (v := .ref (ad 15)) (C := RX9) (T := TX9) (N := 67) hx hb hts hiX9 hown hK hP 0 rfl rfl 15 (by decide) v_11 (fun _ h9 => h9) rfl dX9_automaton_217 ?_
              refine lv_aload_n hx hb dX9_automaton_220 rfl (lv_at hl 0 rfl) ?_
              refine va_get (D := (dC, dI)) (ci := 9) (v := .int 1) (C := RX9) (T := TX9) (N := 67) hx hb hts hiX9 hown hK hP 0 rfl rfl 16 (by decide) v_6 (fun _ h9 => h9) rfl dX9_automaton_221 ?_
              refine lv_iconst (v := 0) hx hb dX9_automaton_224 (by decide) ?_
              refine va_iast hx hb hK hP hD hS 15 14 rfl rfl (vp_in_nI (n := 1) (Nat.le_of_ble_eq_true rfl) (Nat.le_of_ble_eq_true rfl)) dX9_automaton_225 (fun H locs hP hD hS => ?_)
              have hP : va_P (dC, dI) vwCl (mo_w ad ck 0 1 0 (nI x18) g_43 (nI g_44) (nI g_45) g_46 (nI g_55) g_58 (nI g_55) g_56 1 (nI x29) (nI x30) (nI x33) x45 (nI x46) (nI x52) (nI x53) (nI x61) (nI x62) (nI x63) (nI x65) x66 g_28 g_31 g_32 (bN 3 g_33) (bN 7 g_34) (bN 7 g_35) (bN 4 g_36) g_37 (bN 2 g_38) (bH g_29) g_30 (b2 m12_0 g_39) (b2 m13_0 g_40) (b2 m14_0 g_41) (b2m m15_0 (0 + 1)) f17 (bA 159 q31) f32 f34 f35 f36 f37 (bN 7 q38) f39 f40 f41 (b2 m42_0 m42_1) f43 f44 f47 f48 f49 f50 f51 (bN 13 q54) (bN 120 q55) (bN 120 q56) f57 (bN 120 q58) f59 f60 f64) H := by rw [← b2m_up1 (a := m15_0) (b := g_42) (v := 0)]; exact hP
              have hD : va_D A (mo_w ad ck 0 1 0 (nI x18) g_43 (nI g_44) (nI g_45) g_46 (nI g_55) g_58 (nI g_55) g_56 1 (nI x29) (nI x30) (nI x33) x45 (nI x46) (nI x52) (nI x53) (nI x61) (nI x62) (nI x63) (nI x65) x66 g_28 g_31 g_32 (bN 3 g_33) (bN 7 g_34) (bN 7 g_35) (bN 4 g_36) g_37 (bN 2 g_38) (bH g_29) g_30 (b2 m12_0 g_39) (b2 m13_0 g_40) (b2 m14_0 g_41) (b2m m15_0 (0 + 1)) f17 (bA 159 q31) f32 f34 f35 f36 f37 (bN 7 q38) f39 f40 f41 (b2 m42_0 m42_1) f43 f44 f47 f48 f49 f50 f51 (bN 13 q54) (bN 120 q55) (bN 120 q56) f57 (bN 120 q58) f59 f60 f64) := by rw [← b2m_up1 (a := m15_0) (b := g_42) (v := 0)]; exact hD
              refine lv_aload_n hx hb dX9_automaton_226 rfl (lv_at hl 0 rfl) ?_
              refine lv_iconst (v := 0) hx hb dX9_automaton_227 (by decide) ?_
              refine va_put (D := (dC, dI)) (ci := 9) (v := .int 0) (ty := .int) (C := RX9) (T := TX9) (N := 67) hx hb hts hiX9 tyX9 tyX9_ok nmX9 hown hK hP hD hS 0 rfl rfl 33 (by decide) v_37 (fun _ h9 => h9) rfl (by decide +kernel) rfl rfl (Nat.le_of_ble_eq_true rfl) dX9_automaton_228 (fun H locs hP hD hS => ?_)
              have hP : va_P (dC, dI) vwCl (mo_w ad ck 0 1 0 (nI x18) g_43 (nI g_44) (nI g_45) g_46 (nI g_55) g_58 (nI g_55) g_56 1 (nI x29) (nI x30) 0 x45 (nI x46) (nI x52) (nI x53) (nI x61) (nI x62) (nI x63) (nI x65) x66 g_28 g_31 g_32 (bN 3 g_33) (bN 7 g_34) (bN 7 g_35) (bN 4 g_36) g_37 (bN 2 g_38) (bH g_29) g_30 (b2 m12_0 g_39) (b2 m13_0 g_40) (b2 m14_0 g_41) (b2m m15_0 (0 + 1)) f17 (bA 159 q31) f32 f34 f35 f36 f37 (bN 7 q38) f39 f40 f41 (b2 m42_0 m42_1) f43 f44 f47 f48 f49 f50 f51 (bN 13 q54) (bN 120 q55) (bN 120 q56) f57 (bN 120 q58) f59 f60 f64) H := hP
              have hD : va_D A (mo_w ad ck 0 1 0 (nI x18) g_43 (nI g_44) (nI g_45) g_46 (nI g_55) g_58 (nI g_55) g_56 1 (nI x29) (nI x30) 0 x45 (nI x46) (nI x52) (nI x53) (nI x61) (nI x62) (nI x63) (nI x65) x66 g_28 g_31 g_32 (bN 3 g_33) (bN 7 g_34) (bN 7 g_35) (bN 4 g_36) g_37 (bN 2 g_38) (bH g_29) g_30 (b2 m12_0 g_39) (b2 m13_0 g_40) (b2 m14_0 g_41) (b2m m15_0 (0 + 1)) f17 (bA 159 q31) f32 f34 f35 f36 f37 (bN 7 q38) f39 f40 f41 (b2 m42_0 m42_1) f43 f44 f47 f48 f49 f50 f51 (bN 13 q54) (bN 120 q55) (bN 120 q56) f57 (bN 120 q58) f59 f60 f64) := hD
              refine lv_aload_n hx hb dX9_automaton_231 rfl (lv_at hl 0 rfl) ?_
              have hFc := pu_free hD hS hA
              refine va_callv (va_runV (As := []) (rest := []) ⟨hx, hb, hml, hown, hts⟩ (c_M_another l dC dI _ ad ck 0 1 0 x18 g_43 g_44 g_45 g_46 (nI g_55) g_58 g_55 g_56 1 x29 x30 0 x45 x46 x52 x53 x61 x62 x63 x65 x66 g_28 g_31 g_32 g_33 g_34 g_35 g_36 g_37 g_38 g_29 g_30 m12_0 g_39 m13_0 g_40 m14_0 g_41 m15_0 (0 + 1) f17 q31 f32 f34 f35 f36 f37 q38 f39 f40 f41 m42_0 m42_1 f43 f44 f47 f48 f49 f50 f51 q54 q55 q56 f57 q58 f59 f60 f64 (Nat.le_of_ble_eq_true rfl) (Nat.le_of_ble_eq_true rfl) hx18 hg_44 hg_45 hg_55 (Nat.le_of_ble_eq_true rfl) hx29 hx30 (Nat.le_of_ble_eq_true rfl) hx46 hx52 hx53 hx61 hx62 hx63 hx65 hm12_0 hg_39 hm13_0 hg_40 hm14_0 hg_41 hm15_0 (by omega) hm42_0 hm42_1) (cwV 0 hts g_M_automaton_M_another rfl rfl rfl (by decide +kernel) ⟨Nat.le_of_ble_eq_true rfl, Nat.le_of_ble_eq_true rfl⟩) ⟨pu_bl, va_recv hK hP (ci := 9) (q0 := 0) rfl rfl, pu_in hP hK hD⟩ rfl rfl hl.1 rfl (lv_room (Nat.le_of_ble_eq_true rfl)) dX9_automaton_232 ⟨Nat.le_of_ble_eq_true rfl, Nat.le_of_ble_eq_true rfl⟩) hS (fun q _ h => hFc q h) hFc (fun u t H1 locs ht hvm hw hB hz1 hk1 hS => ?_)
              obtain ⟨z29_65, z30_66, ⟨hP1, -, hD1⟩, hz29_65, hz30_66⟩ := hB
              rw [ht] at hP1
              have hP := hP1
              have hD := pu_all hFc hD1
              clear hP1 hD1 hFc
              clear hk1 hz1 ht hvm
              generalize H1 = H at hP hS ⊢
              refine lv_aload_n hx hb dX9_automaton_235 rfl (lv_at hl 0 rfl) ?_
              refine va_get (D := (dC, dI)) (ci := 9) (v := .ref (ad 13)) (C := RX9) (T := TX9) (N := 67) hx hb hts hiX9 hown hK hP 0 rfl rfl 13 (by decide) v_9 (fun _ h9 => h9) rfl dX9_automaton_236 ?_
              refine lv_aload_n hx hb dX9_automaton_239 rfl (lv_at hl 0 rfl) ?_
              refine va_get (D := (dC, dI)) (ci := 9) (v := .int 1) (C := RX9) (T := TX9) (N := 67) hx hb hts hiX9 hown hK hP 0 rfl rfl 16 (by decide) v_6 (fun _ h9 => h9) rfl dX9_automaton_240 ?_
              refine va_iald hx hb hK hP 13 12 rfl rfl (vp_in_nI (n := 1) (Nat.le_of_ble_eq_true rfl) (Nat.le_of_ble_eq_true rfl)) dX9_automaton_243 ?_
              refine lv_topi (fun y_67 ey_67 => ?_)
              have qy_67 := ey_67.trans b2_1
              clear ey_67
              obtain rfl : y_67 = nI g_40 := qy_67
              exact W.iret (v := (nI g_40)) hx hb hr (fun t ht hW => ⟨⟨(nI g_40), (), rfl, trivial, ⟨g_28, g_29, g_30, g_31, g_32, g_33, g_34, g_35, g_36, g_37, g_38, m12_0, g_39, m13_0, g_40, m14_0, g_41, m15_0, (0 + 1), 0, 1, x18, g_43, g_44, g_45, g_46, (nI g_55), g_58, g_55, g_56, 1, z29_65, z30_66, 0, ⟨by rw [ht]; exact hP, va_K.moved hW.alike hK, hD⟩, hm12_0, hg_39, hm13_0, hg_40, hm14_0, hg_41, hm15_0, (by omega), (Nat.le_of_ble_eq_true rfl), hx18, hg_44, hg_45, hg_55, (Nat.le_of_ble_eq_true rfl), hz29_65, hz30_66, (Nat.le_of_ble_eq_true rfl), by omega⟩⟩, hS.F ht⟩) hS.2.2 dX9_automaton_244
            · obtain rfl : y_63 = nI vy_63 := qy_63.trans wy_63
              refine lv_if_ge (tgt := 226) hx hb dX9_automaton_213 (by decide) (fun c_68 => ?_) (fun c_68 => ?_)
              · have c_68 : 0 ≤ vy_63 := (nI_leI (a := 0) (b := vy_63) (Nat.le_of_ble_eq_true rfl) (by omega)).mp c_68
                refine lv_aload_n hx hb dX9_automaton_226 rfl (lv_at hl 0 rfl) ?_
                refine lv_iconst (v := 0) hx hb dX9_automaton_227 (by decide) ?_
                refine va_put (D := (dC, dI)) (ci := 9) (v := .int 0) (ty := .int) (C := RX9) (T := TX9) (N := 67) hx hb hts hiX9 tyX9 tyX9_ok nmX9 hown hK hP hD hS 0 rfl rfl 33 (by decide) v_37 (fun _ h9 => h9) rfl (by decide +kernel) rfl rfl (Nat.le_of_ble_eq_true rfl) dX9_automaton_228 (fun H locs hP hD hS => ?_)
                have hP : va_P (dC, dI) vwCl (mo_w ad ck 0 1 0 (nI x18) g_43 (nI g_44) (nI g_45) g_46 (nI g_55) g_58 (nI g_55) g_56 1 (nI x29) (nI x30) 0 x45 (nI x46) (nI x52) (nI x53) (nI x61) (nI x62) (nI x63) (nI x65) x66 g_28 g_31 g_32 (bN 3 g_33) (bN 7 g_34) (bN 7 g_35) (bN 4 g_36) g_37 (bN 2 g_38) (bH g_29) g_30 (b2 m12_0 g_39) (b2 m13_0 g_40) (b2 m14_0 g_41) (b2m m15_0 g_42) f17 (bA 159 q31) f32 f34 f35 f36 f37 (bN 7 q38) f39 f40 f41 (b2 m42_0 m42_1) f43 f44 f47 f48 f49 f50 f51 (bN 13 q54) (bN 120 q55) (bN 120 q56) f57 (bN 120 q58) f59 f60 f64) H := hP
                have hD : va_D A (mo_w ad ck 0 1 0 (nI x18) g_43 (nI g_44) (nI g_45) g_46 (nI g_55) g_58 (nI g_55) g_56 1 (nI x29) (nI x30) 0 x45 (nI x46) (nI x52) (nI x53) (nI x61) (nI x62) (nI x63) (nI x65) x66 g_28 g_31 g_32 (bN 3 g_33) (bN 7 g_34) (bN 7 g_35) (bN 4 g_36) g_37 (bN 2 g_38) (bH g_29) g_30 (b2 m12_0 g_39) (b2 m13_0 g_40) (b2 m14_0 g_41) (b2m m15_0 g_42) f17 (bA 159 q31) f32 f34 f35 f36 f37 (bN 7 q38) f39 f40 f41 (b2 m42_0 m42_1) f43 f44 f47 f48 f49 f50 f51 (bN 13 q54) (bN 120 q55) (bN 120 q56) f57 (bN 120 q58) f59 f60 f64) := hD
                refine lv_aload_n hx hb dX9_automaton_231 rfl (lv_at hl 0 rfl) ?_
                have hFc := pu_free hD hS hA
                refine va_callv (va_runV (As := []) (rest := []) ⟨hx, hb, hml, hown, hts⟩ (c_M_another l dC dI _ ad ck 0 1 0 x18 g_43 g_44 g_45 g_46 (nI g_55) g_58 g_55 g_56 1 x29 x30 0 x45 x46 x52 x53 x61 x62 x63 x65 x66 g_28 g_31 g_32 g_33 g_34 g_35 g_36 g_37 g_38 g_29 g_30 m12_0 g_39 m13_0 g_40 m14_0 g_41 m15_0 g_42 f17 q31 f32 f34 f35 f36 f37 q38 f39 f40 f41 m42_0 m42_1 f43 f44 f47 f48 f49 f50 f51 q54 q55 q56 f57 q58 f59 f60 f64 (Nat.le_of_ble_eq_true rfl) (Nat.le_of_ble_eq_true rfl) hx18 hg_44 hg_45 hg_55 (Nat.le_of_ble_eq_true rfl) hx29 hx30 (Nat.le_of_ble_eq_true rfl) hx46 hx52 hx53 hx61 hx62 hx63 hx65 hm12_0 hg_39 hm13_0 hg_40 hm14_0 hg_41 hm15_0 hg_42 hm42_0 hm42_1) (cwV 0 hts g_M_automaton_M_another rfl rfl rfl (by decide +kernel) ⟨Nat.le_of_ble_eq_true rfl, Nat.le_of_ble_eq_true rfl⟩) ⟨pu_bl, va_recv hK hP (ci := 9) (q0 := 0) rfl rfl, pu_in hP hK hD⟩ rfl rfl hl.1 rfl (lv_room (Nat.le_of_ble_eq_true rfl)) dX9_automaton_232 ⟨Nat.le_of_ble_eq_true rfl, Nat.le_of_ble_eq_true rfl⟩) hS (fun q _ h => hFc q h) hFc (fun u t H1 locs ht hvm hw hB hz1 hk1 hS => ?_)
                obtain ⟨z29_70, z30_71, ⟨hP1, -, hD1⟩, hz29_70, hz30_71⟩ := hB
                rw [ht] at hP1
                have hP := hP1
                have hD := pu_all hFc hD1
                clear hP1 hD1 hFc
                clear hk1 hz1 ht hvm
                generalize H1 = H at hP hS ⊢
                refine lv_aload_n hx hb dX9_automaton_235 rfl (lv_at hl 0 rfl) ?_
                refine va_get (D := (dC, dI)) (ci := 9) (v := .ref (ad 13)) (C := RX9) (T := TX9) (N := 67) hx hb hts hiX9 hown hK hP 0 rfl rfl 13 (by decide) v_9 (fun _ h9 => h9) rfl dX9_automaton_236 ?_
                refine lv_aload_n hx hb dX9_automaton_239 rfl (lv_at hl 0 rfl) ?_
                refine va_get (D := (dC, dI)) (ci := 9) (v := .int 1) (C := RX9) (T := TX9) (N := 67) hx hb hts hiX9 hown hK hP 0 rfl rfl 16 (by decide) v_6 (fun _ h9 => h9) rfl dX9_automaton_240 ?_
                refine va_iald hx hb hK hP 13 12 rfl rfl (vp_in_nI (n := 1) (Nat.le_of_ble_eq_true rfl) (Nat.le_of_ble_eq_true rfl)) dX9_automaton_243 ?_
                refine lv_topi (fun y_72 ey_72 => ?_)
                have qy_72 := ey_72.trans b2_1
                clear ey_72
                obtain rfl : y_72 = nI g_40 := qy_72
                exact W.iret (v := (nI g_40)) hx hb hr (fun t ht hW => ⟨⟨(nI g_40), (), rfl, trivial, ⟨g_28, g_29, g_30, g_31, g_32, g_33, g_34, g_35, g_36, g_37, g_38, m12_0, g_39, m13_0, g_40, m14_0, g_41, m15_0, g_42, 0, 1, x18, g_43, g_44, g_45, g_46, (nI g_55), g_58, g_55, g_56, 1, z29_70, z30_71, 0, ⟨by rw [ht]; exact hP, va_K.moved hW.alike hK, hD⟩, hm12_0, hg_39, hm13_0, hg_40, hm14_0, hg_41, hm15_0, hg_42, (Nat.le_of_ble_eq_true rfl), hx18, hg_44, hg_45, hg_55, (Nat.le_of_ble_eq_true rfl), hz29_70, hz30_71, (Nat.le_of_ble_eq_true rfl), by omega⟩⟩, hS.F ht⟩) hS.2.2 dX9_automaton_244
              · have c_68 : ¬ 0 ≤ vy_63 := fun z => c_68 ((nI_leI (a := 0) (b := vy_63) (Nat.le_of_ble_eq_true rfl) (by omega)).mpr z)
                exfalso
                omega
          · have c_62 : u_61 = 0 := (nI_eq (a := u_61) (b := 0) (Nat.lt_of_le_of_lt hu_61 (Nat.le_of_ble_eq_true rfl)) (Nat.le_of_ble_eq_true rfl)).mp c_62
            refine lv_iconst (v := (-1)) hx hb dX9_automaton_194 (by decide) ?_
            exact W.iret (v := (-1)) hx hb hr (fun t ht hW => ⟨⟨(-1), (), rfl, trivial, ⟨g_28, g_29, g_30, g_31, g_32, g_33, g_34, g_35, g_36, g_37, g_38, m12_0, g_39, m13_0, g_40, m14_0, g_41, m15_0, g_42, 0, 0, x18, g_43, g_44, g_45, g_46, (nI g_55), g_58, g_55, g_56, 1, x29, x30, x33, ⟨by rw [ht]; exact hP, va_K.moved hW.alike hK, hD⟩, hm12_0, hg_39, hm13_0, hg_40, hm14_0, hg_41, hm15_0, hg_42, (Nat.le_of_ble_eq_true rfl), hx18, hg_44, hg_45, hg_55, (Nat.le_of_ble_eq_true rfl), hx29, hx30, hx33, by omega⟩⟩, hS.F ht⟩) hS.2.2 dX9_automaton_195
        refine lv_if_ne (tgt := 180) hx hb dX9_automaton_173 (by decide) (fun c_73 => ?_) (fun c_73 => ?_)
        · have c_73 : ¬ g_55 = 0 := fun z => c_73 ((nI_eq (a := g_55) (b := 0) (Nat.lt_of_le_of_lt hg_55 (Nat.le_of_ble_eq_true rfl)) (Nat.le_of_ble_eq_true rfl)).mpr z)
          refine lv_aload_n hx hb dX9_automaton_180 rfl (lv_at hl 0 rfl) ?_
          refine va_get (D := (dC, dI)) (ci := 9) (v := .int g_56) (C := RX9) (T := TX9) (N := 67) hx hb hts hiX9 hown hK hP 0 rfl rfl 27 (by decide) v_35 (fun _ h9 => h9) rfl dX9_automaton_181 ?_
          exact j_59 _ _ _ _ ⟨g_56, rfl, hP, hD, hS, lv_sub hl [0] rfl⟩
        · have c_73 : g_55 = 0 := (nI_eq (a := g_55) (b := 0) (Nat.lt_of_le_of_lt hg_55 (Nat.le_of_ble_eq_true rfl)) (Nat.le_of_ble_eq_true rfl)).mp c_73
          refine lv_iconst (v := (-1)) hx hb dX9_automaton_176 (by decide) ?_
          refine lv_goto (tgt := 184) hx hb dX9_automaton_177 (by decide) ?_
          exact j_59 _ _ _ _ ⟨(-1), rfl, hP, hD, hS, lv_sub hl [0] rfl⟩
      refine lv_if_eq (tgt := 160) hx hb dX9_automaton_139 (by decide) (fun c_74 => ?_) (fun c_74 => ?_)
      · have c_74 : u_54 = 0 := (nI_eq (a := u_54) (b := 0) (Nat.lt_of_le_of_lt hu_54 (Nat.le_of_ble_eq_true rfl)) (Nat.le_of_ble_eq_true rfl)).mp c_74
        exact j_57 _ _ _ _ ⟨g_47, g_48, rfl, hg_47, hP, hD, hS, lv_sub hl [0] rfl⟩
      · have c_74 : ¬ u_54 = 0 := fun z => c_74 ((nI_eq (a := u_54) (b := 0) (Nat.lt_of_le_of_lt hu_54 (Nat.le_of_ble_eq_true rfl)) (Nat.le_of_ble_eq_true rfl)).mpr z)
        refine lv_aload_n hx hb dX9_automaton_142 rfl (lv_at hl 0 rfl) ?_
        refine va_get (D := (dC, dI)) (ci := 9) (v := .ref (ad 13)) (C := RX9) (T := TX9) (N := 67) hx hb hts hiX9 hown hK hP 0 rfl rfl 13 (by decide) v_9 (fun _ h9 => h9) rfl dX9_automaton_143 ?_
        refine lv_aload_n hx hb dX9_automaton_146 rfl (lv_at hl 0 rfl) ?_
        refine va_get (D := (dC, dI)) (ci := 9) (v := .int 1) (C := RX9) (T := TX9) (N := 67) hx hb hts hiX9 hown hK hP 0 rfl rfl 28 (by decide) v_7 (fun _ h9 => h9) rfl dX9_automaton_147 ?_
        refine va_iald hx hb hK hP 13 12 rfl rfl (vp_in_nI (n := 1) (Nat.le_of_ble_eq_true rfl) (Nat.le_of_ble_eq_true rfl)) dX9_automaton_150 ?_
        refine lv_topi (fun y_75 ey_75 => ?_)
        have qy_75 := ey_75.trans b2_1
        clear ey_75
        obtain rfl : y_75 = nI g_40 := qy_75
        refine lv_if_ne (tgt := 160) hx hb dX9_automaton_151 (by decide) (fun c_76 => ?_) (fun c_76 => ?_)
        · have c_76 : ¬ g_40 = 0 := fun z => c_76 ((nI_eq (a := g_40) (b := 0) (Nat.lt_of_le_of_lt hg_40 (Nat.le_of_ble_eq_true rfl)) (Nat.le_of_ble_eq_true rfl)).mpr z)
          exact j_57 _ _ _ _ ⟨g_47, g_48, rfl, hg_47, hP, hD, hS, lv_sub hl [0] rfl⟩
        · have c_76 : g_40 = 0 := (nI_eq (a := g_40) (b := 0) (Nat.lt_of_le_of_lt hg_40 (Nat.le_of_ble_eq_true rfl)) (Nat.le_of_ble_eq_true rfl)).mp c_76
          refine lv_aload_n hx hb dX9_automaton_154 rfl (lv_at hl 0 rfl) ?_
          refine lv_bipush (v := 6) hx hb dX9_automaton_155 (by decide) ?_
          have hFc := pu_free hD hS hA
          refine va_callv (va_runV (As := [.int 6]) (rest := []) ⟨hx, hb, hml, hown, hts⟩ (c_M_fails l dC dI _ ad ck 0 0 0 x18 g_43 g_44 g_45 g_46 x24 x25 g_47 g_48 1 x29 x30 x33 x45 x46 x52 x53 x61 x62 x63 x65 x66 g_28 g_31 g_32 g_33 g_34 g_35 g_36 g_37 g_38 g_29 g_30 m12_0 g_39 m13_0 g_40 m14_0 g_41 m15_0 g_42 f17 q31 f32 f34 f35 f36 f37 q38 f39 f40 f41 m42_0 m42_1 f43 f44 f47 f48 f49 f50 f51 q54 q55 q56 f57 q58 f59 f60 f64 6 (Nat.le_of_ble_eq_true rfl) (Nat.le_of_ble_eq_true rfl) hx18 hg_44 hg_45 hg_47 (Nat.le_of_ble_eq_true rfl) hx29 hx30 hx33 hx46 hx52 hx53 hx61 hx62 hx63 hx65 hm12_0 hg_39 hm13_0 hg_40 hm14_0 hg_41 hm15_0 hg_42 hm42_0 hm42_1 (Nat.le_of_ble_eq_true rfl) (by omega)) (cwV 1 hts g_M_automaton_M_fails rfl rfl rfl (by decide +kernel) ⟨Nat.le_of_ble_eq_true rfl, Nat.le_of_ble_eq_true rfl⟩) ⟨pu_bl, va_recv hK hP (ci := 9) (q0 := 0) rfl rfl, pu_in hP hK hD⟩ rfl rfl hl.1 rfl (lv_room (Nat.le_of_ble_eq_true rfl)) dX9_automaton_157 ⟨Nat.le_of_ble_eq_true rfl, Nat.le_of_ble_eq_true rfl⟩) hS (fun q _ h => hFc q h) hFc (fun u t H1 locs ht hvm hw hB hz1 hk1 hS => ?_)
          obtain ⟨z26_78, z27_79, ⟨hP1, -, hD1⟩, hz26_78, xr_77_0⟩ := hB
          rw [ht] at hP1
          have hP := hP1
          have hD := pu_all hFc hD1
          clear hP1 hD1 hFc
          clear hk1 hz1 ht hvm
          generalize H1 = H at hP hS ⊢
          exact j_57 _ _ _ _ ⟨z26_78, z27_79, rfl, hz26_78, hP, hD, hS, lv_sub hl [0] rfl⟩
    refine lv_if_eq (tgt := 135) hx hb dX9_automaton_86 (by decide) (fun c_80 => ?_) (fun c_80 => ?_)
    · have c_80 : u_51 = 0 := (nI_eq (a := u_51) (b := 0) (Nat.lt_of_le_of_lt hu_51 (Nat.le_of_ble_eq_true rfl)) (Nat.le_of_ble_eq_true rfl)).mp c_80
      exact j_52 _ _ _ _ ⟨rfl, hP, hD, hS, lv_sub hl [0] rfl⟩
    · have c_80 : ¬ u_51 = 0 := fun z => c_80 ((nI_eq (a := u_51) (b := 0) (Nat.lt_of_le_of_lt hu_51 (Nat.le_of_ble_eq_true rfl)) (Nat.le_of_ble_eq_true rfl)).mpr z)
      refine lv_aload_n hx hb dX9_automaton_89 rfl (lv_at hl 0 rfl) ?_
      refine va_get (D := (dC, dI)) (ci := 9) (v := .int (nI g_45)) (C := RX9) (T := TX9) (N := 67) hx hb hts hiX9 hown hK hP 0 rfl rfl 22 (by decide) v_21 (fun _ h9 => h9) rfl dX9_automaton_90 ?_
      refine lv_if_eq (tgt := 135) hx hb dX9_automaton_93 (by decide) (fun c_81 => ?_) (fun c_81 => ?_)
      · have c_81 : g_45 = 0 := (nI_eq (a := g_45) (b := 0) (Nat.lt_of_le_of_lt hg_45 (Nat.le_of_ble_eq_true rfl)) (Nat.le_of_ble_eq_true rfl)).mp c_81
        exact j_52 _ _ _ _ ⟨rfl, hP, hD, hS, lv_sub hl [0] rfl⟩
      · have c_81 : ¬ g_45 = 0 := fun z => c_81 ((nI_eq (a := g_45) (b := 0) (Nat.lt_of_le_of_lt hg_45 (Nat.le_of_ble_eq_true rfl)) (Nat.le_of_ble_eq_true rfl)).mpr z)
        refine lv_aload_n hx hb dX9_automaton_96 rfl (lv_at hl 0 rfl) ?_
        have hFc := pu_free hD hS hA
        refine va_callv (va_runV (As := []) (rest := []) ⟨hx, hb, hml, hown, hts⟩ (c_M_readLine_1 l dC dI _ ad ck 0 0 0 x18 g_43 g_44 g_45 g_46 x24 x25 g_47 g_48 x29 x30 x33 x45 x46 x52 x53 x61 x62 x63 x65 x66 g_28 g_31 g_32 g_33 g_34 g_35 g_36 g_37 g_38 g_29 g_30 m12_0 g_39 m13_0 g_40 m14_0 g_41 m15_0 g_42 f17 q31 f32 f34 f35 f36 f37 q38 f39 f40 f41 m42_0 m42_1 f43 f44 f47 f48 f49 f50 f51 q54 q55 q56 f57 q58 f59 f60 f64 (Nat.le_of_ble_eq_true rfl) (Nat.le_of_ble_eq_true rfl) hx18 hg_44 hg_45 hg_47 hx29 hx30 hx33 hx46 hx52 hx53 hx61 hx62 hx63 hx65 hm12_0 hg_39 hm13_0 hg_40 hm14_0 hg_41 hm15_0 hg_42 hm42_0 hm42_1) (cwV 0 hts g_M_automaton_M_readLine_1 rfl rfl rfl (by decide +kernel) ⟨Nat.le_of_ble_eq_true rfl, Nat.le_of_ble_eq_true rfl⟩) ⟨pu_bl, va_recv hK hP (ci := 9) (q0 := 0) rfl rfl, pu_in hP hK hD⟩ rfl rfl hl.1 rfl (lv_room (Nat.le_of_ble_eq_true rfl)) dX9_automaton_97 ⟨Nat.le_of_ble_eq_true rfl, Nat.le_of_ble_eq_true rfl⟩) hS (fun q _ h => hFc q h) hFc (fun u t H1 locs ht hvm hw hB hz1 hk1 hS => ?_)
        obtain ⟨z1_83, z10_84, z11_85, z2_86, z3_87, z4_88, z5_89, z6_90, z7_91, z8_92, z9_93, z12_1_94, z13_1_95, z14_1_96, z15_1_97, z20_98, z21_99, z22_100, z23_101, z26_102, z27_103, ⟨hP1, -, hD1⟩, hz12_1_94, hz13_1_95, hz14_1_96, hz15_1_97, hz21_99, hz22_100, hz26_102, xr_82_0, xr_82_1⟩ := hB
        rw [ht] at hP1
        have hP := hP1
        have hD := pu_all hFc hD1
        clear hP1 hD1 hFc
        clear hk1 hz1 ht hvm
        generalize H1 = H at hP hS ⊢
        refine lv_aload_n hx hb dX9_automaton_100 rfl (lv_at hl 0 rfl) ?_
        refine va_calli (va_runV (As := []) (rest := []) ⟨hx, hb, hml, hown, hts⟩ (c_M_isGood l dC dI _ ad ck 0 0 0 x18 z20_98 z21_99 z22_100 z23_101 x24 x25 z26_102 z27_103 1 x29 x30 x33 x45 x46 x52 x53 x61 x62 x63 x65 x66 z1_83 z2_86 z3_87 z4_88 z5_89 z6_90 z7_91 z8_92 z9_93 z10_84 z11_85 m12_0 z12_1_94 m13_0 z13_1_95 m14_0 z14_1_96 m15_0 z15_1_97 f17 q31 f32 f34 f35 f36 f37 q38 f39 f40 f41 m42_0 m42_1 f43 f44 f47 f48 f49 f50 f51 q54 q55 q56 f57 q58 f59 f60 f64 (Nat.le_of_ble_eq_true rfl) (Nat.le_of_ble_eq_true rfl) hx18 hz21_99 hz22_100 hz26_102 (Nat.le_of_ble_eq_true rfl) hx29 hx30 hx33 hx46 hx52 hx53 hx61 hx62 hx63 hx65 hm12_0 hz12_1_94 hm13_0 hz13_1_95 hm14_0 hz14_1_96 hm15_0 hz15_1_97 hm42_0 hm42_1) (cwV 0 hts g_M_automaton_M_isGood rfl rfl rfl (by decide +kernel) ⟨Nat.le_of_ble_eq_true rfl, Nat.le_of_ble_eq_true rfl⟩) ⟨pu_bl, va_recv hK hP (ci := 9) (q0 := 0) rfl rfl, pu_in hP hK hD⟩ rfl rfl hl.1 rfl (lv_room (Nat.le_of_ble_eq_true rfl)) dX9_automaton_101 ⟨Nat.le_of_ble_eq_true rfl, Nat.le_of_ble_eq_true rfl⟩) hS (fun q _ h => pu_fr hS hA q h) (pu_fr hS hA) (fun r_104 u t H1 locs ht hvm hw hB hz1 hk1 hS => ?_)
        have hP := pu_keep hP hk1
        clear hk1 hz1 ht hvm
        generalize H1 = H at hP hS ⊢
        obtain ⟨u_105, hu_105, rfl, iu_105⟩ := hw
        refine pu_join (fun H locs ls st => ∃ (g_106 : Nat) (g_107 : Int32), st = [] ∧ g_106 ≤ 6 ∧ (g_106 ≠ 0 ∨ mu z21_99 z22_100 < mu g_44 g_45) ∧ mu z21_99 z22_100 ≤ mu g_44 g_45 ∧ va_P (dC, dI) vwCl (mo_w ad ck 0 0 0 (nI x18) z20_98 (nI z21_99) (nI z22_100) z23_101 x24 x25 (nI g_106) g_107 1 (nI x29) (nI x30) (nI x33) x45 (nI x46) (nI x52) (nI x53) (nI x61) (nI x62) (nI x63) (nI x65) x66 z1_83 z2_86 z3_87 (bN 3 z4_88) (bN 7 z5_89) (bN 7 z6_90) (bN 4 z7_91) z8_92 (bN 2 z9_93) (bH z10_84) z11_85 (b2 m12_0 z12_1_94) (b2 m13_0 z13_1_95) (b2 m14_0 z14_1_96) (b2m m15_0 z15_1_97) f17 (bA 159 q31) f32 f34 f35 f36 f37 (bN 7 q38) f39 f40 f41 (b2 m42_0 m42_1) f43 f44 f47 f48 f49 f50 f51 (bN 13 q54) (bN 120 q55) (bN 120 q56) f57 (bN 120 q58) f59 f60 f64) H ∧ va_D A (mo_w ad ck 0 0 0 (nI x18) z20_98 (nI z21_99) (nI z22_100) z23_101 x24 x25 (nI g_106) g_107 1 (nI x29) (nI x30) (nI x33) x45 (nI x46) (nI x52) (nI x53) (nI x61) (nI x62) (nI x63) (nI x65) x66 z1_83 z2_86 z3_87 (bN 3 z4_88) (bN 7 z5_89) (bN 7 z6_90) (bN 4 z7_91) z8_92 (bN 2 z9_93) (bH z10_84) z11_85 (b2 m12_0 z12_1_94) (b2 m13_0 z13_1_95) (b2 m14_0 z14_1_96) (b2m m15_0 z15_1_97) f17 (bA 159 q31) f32 f34 f35 f36 f37 (bN 7 q38) f39 f40 f41 (b2 m42_0 m42_1) f43 f44 f47 f48 f49 f50 f51 (bN 13 q54) (bN 120 q55) (bN 120 q56) f57 (bN 120 q58) f59 f60 f64) ∧ va_S A s.heap H locs ∧ lv_has ls 1 [(0, .ref (ad 0))]) 121 ?_ (fun j_110 => ?_)
        · rintro H locs ls st ⟨g_106, g_107, rfl, hg_106, he_108, he_109, hP, hD, hS, hl⟩
          refine lv_aload_n hx hb dX9_automaton_121 rfl (lv_at hl 0 rfl) ?_
          refine va_calli (va_runV (As := []) (rest := []) ⟨hx, hb, hml, hown, hts⟩ (c_M_isGood l dC dI _ ad ck 0 0 0 x18 z20_98 z21_99 z22_100 z23_101 x24 x25 g_106 g_107 1 x29 x30 x33 x45 x46 x52 x53 x61 x62 x63 x65 x66 z1_83 z2_86 z3_87 z4_88 z5_89 z6_90 z7_91 z8_92 z9_93 z10_84 z11_85 m12_0 z12_1_94 m13_0 z13_1_95 m14_0 z14_1_96 m15_0 z15_1_97 f17 q31 f32 f34 f35 f36 f37 q38 f39 f40 f41 m42_0 m42_1 f43 f44 f47 f48 f49 f50 f51 q54 q55 q56 f57 q58 f59 f60 f64 (Nat.le_of_ble_eq_true rfl) (Nat.le_of_ble_eq_true rfl) hx18 hz21_99 hz22_100 hg_106 (Nat.le_of_ble_eq_true rfl) hx29 hx30 hx33 hx46 hx52 hx53 hx61 hx62 hx63 hx65 hm12_0 hz12_1_94 hm13_0 hz13_1_95 hm14_0 hz14_1_96 hm15_0 hz15_1_97 hm42_0 hm42_1) (cwV 0 hts g_M_automaton_M_isGood rfl rfl rfl (by decide +kernel) ⟨Nat.le_of_ble_eq_true rfl, Nat.le_of_ble_eq_true rfl⟩) ⟨pu_bl, va_recv hK hP (ci := 9) (q0 := 0) rfl rfl, pu_in hP hK hD⟩ rfl rfl hl.1 rfl (lv_room (Nat.le_of_ble_eq_true rfl)) dX9_automaton_122 ⟨Nat.le_of_ble_eq_true rfl, Nat.le_of_ble_eq_true rfl⟩) hS (fun q _ h => pu_fr hS hA q h) (pu_fr hS hA) (fun r_111 u t H1 locs ht hvm hw hB hz1 hk1 hS => ?_)
          have hP := pu_keep hP hk1
          clear hk1 hz1 ht hvm
          generalize H1 = H at hP hS ⊢
          obtain ⟨u_112, hu_112, rfl, iu_112⟩ := hw
          refine lv_if_eq (tgt := 82) hx hb dX9_automaton_125 (by decide) (fun c_113 => ?_) (fun c_113 => ?_)
          · have c_113 : u_112 = 0 := (nI_eq (a := u_112) (b := 0) (Nat.lt_of_le_of_lt hu_112 (Nat.le_of_ble_eq_true rfl)) (Nat.le_of_ble_eq_true rfl)).mp c_113
            exact ih_49 (2 * mu z21_99 z22_100 + (1 - g_106)) (by omega) _ _ _ ⟨z1_83, z10_84, z11_85, z2_86, z3_87, z4_88, z5_89, z6_90, z7_91, z8_92, z9_93, z12_1_94, z13_1_95, z14_1_96, z15_1_97, z20_98, z21_99, z22_100, z23_101, g_106, g_107, rfl, hz12_1_94, hz13_1_95, hz14_1_96, hz15_1_97, hz21_99, hz22_100, hg_106, hP, hD, hS, lv_sub hl [0] rfl⟩
          · have c_113 : ¬ u_112 = 0 := fun z => c_113 ((nI_eq (a := u_112) (b := 0) (Nat.lt_of_le_of_lt hu_112 (Nat.le_of_ble_eq_true rfl)) (Nat.le_of_ble_eq_true rfl)).mpr z)
            refine lv_aload_n hx hb dX9_automaton_128 rfl (lv_at hl 0 rfl) ?_
            have hFc := pu_free hD hS hA
            refine va_callv (va_runV (As := []) (rest := []) ⟨hx, hb, hml, hown, hts⟩ (c_M_next l dC dI _ ad ck 0 0 0 x18 z20_98 z21_99 z22_100 z23_101 x24 x25 g_106 g_107 1 x29 x30 x33 x45 x46 x52 x53 x61 x62 x63 x65 x66 z1_83 z2_86 z3_87 z4_88 z5_89 z6_90 z7_91 z8_92 z9_93 z10_84 z11_85 m12_0 z12_1_94 m13_0 z13_1_95 m14_0 z14_1_96 m15_0 z15_1_97 f17 q31 f32 f34 f35 f36 f37 q38 f39 f40 f41 m42_0 m42_1 f43 f44 f47 f48 f49 f50 f51 q54 q55 q56 f57 q58 f59 f60 f64 (Nat.le_of_ble_eq_true rfl) (Nat.le_of_ble_eq_true rfl) hx18 hz21_99 hz22_100 hg_106 (Nat.le_of_ble_eq_true rfl) hx29 hx30 hx33 hx46 hx52 hx53 hx61 hx62 hx63 hx65 hm12_0 hz12_1_94 hm13_0 hz13_1_95 hm14_0 hz14_1_96 hm15_0 hz15_1_97 hm42_0 hm42_1) (cwV 0 hts g_M_automaton_M_next rfl rfl rfl (by decide +kernel) ⟨Nat.le_of_ble_eq_true rfl, Nat.le_of_ble_eq_true rfl⟩) ⟨pu_bl, va_recv hK hP (ci := 9) (q0 := 0) rfl rfl, pu_in hP hK hD⟩ rfl rfl hl.1 rfl (lv_room (Nat.le_of_ble_eq_true rfl)) dX9_automaton_129 ⟨Nat.le_of_ble_eq_true rfl, Nat.le_of_ble_eq_true rfl⟩) hS (fun q _ h => hFc q h) hFc (fun u t H1 locs ht hvm hw hB hz1 hk1 hS => ?_)
            obtain ⟨z20_115, z21_116, z22_117, z23_118, ⟨hP1, -, hD1⟩, hz21_116, hz22_117, xr_114_0, xr_114_1⟩ := hB
            rw [ht] at hP1
            have hP := hP1
            have hD := pu_all hFc hD1
            clear hP1 hD1 hFc
            clear hk1 hz1 ht hvm
            generalize H1 = H at hP hS ⊢
            refine lv_goto (tgt := 82) hx hb dX9_automaton_132 (by decide) ?_
            exact ih_49 (2 * mu z21_116 z22_117 + (1 - g_106)) (by omega) _ _ _ ⟨z1_83, z10_84, z11_85, z2_86, z3_87, z4_88, z5_89, z6_90, z7_91, z8_92, z9_93, z12_1_94, z13_1_95, z14_1_96, z15_1_97, z20_115, z21_116, z22_117, z23_118, g_106, g_107, rfl, hz12_1_94, hz13_1_95, hz14_1_96, hz15_1_97, hz21_116, hz22_117, hg_106, hP, hD, hS, lv_sub hl [0] rfl⟩
        refine lv_if_eq (tgt := 121) hx hb dX9_automaton_104 (by decide) (fun c_119 => ?_) (fun c_119 => ?_)
        · have c_119 : u_105 = 0 := (nI_eq (a := u_105) (b := 0) (Nat.lt_of_le_of_lt hu_105 (Nat.le_of_ble_eq_true rfl)) (Nat.le_of_ble_eq_true rfl)).mp c_119
          exact j_110 _ _ _ _ ⟨z26_102, z27_103, rfl, hz26_102, by omega, by omega, hP, hD, hS, lv_sub hl [0] rfl⟩
        · have c_119 : ¬ u_105 = 0 := fun z => c_119 ((nI_eq (a := u_105) (b := 0) (Nat.lt_of_le_of_lt hu_105 (Nat.le_of_ble_eq_true rfl)) (Nat.le_of_ble_eq_true rfl)).mpr z)
          refine lv_aload_n hx hb dX9_automaton_107 rfl (lv_at hl 0 rfl) ?_
          refine lv_bipush (v := 59) hx hb dX9_automaton_108 (by decide) ?_
          refine va_calli (va_runV (As := [.int 59]) (rest := []) ⟨hx, hb, hml, hown, hts⟩ (c_M_isSign l dC dI _ ad ck 0 0 0 x18 z20_98 z21_99 z22_100 z23_101 x24 x25 z26_102 z27_103 1 x29 x30 x33 x45 x46 x52 x53 x61 x62 x63 x65 x66 z1_83 z2_86 z3_87 z4_88 z5_89 z6_90 z7_91 z8_92 z9_93 z10_84 z11_85 m12_0 z12_1_94 m13_0 z13_1_95 m14_0 z14_1_96 m15_0 z15_1_97 f17 q31 f32 f34 f35 f36 f37 q38 f39 f40 f41 m42_0 m42_1 f43 f44 f47 f48 f49 f50 f51 q54 q55 q56 f57 q58 f59 f60 f64 59 (Nat.le_of_ble_eq_true rfl) (Nat.le_of_ble_eq_true rfl) hx18 hz21_99 hz22_100 hz26_102 (Nat.le_of_ble_eq_true rfl) hx29 hx30 hx33 hx46 hx52 hx53 hx61 hx62 hx63 hx65 hm12_0 hz12_1_94 hm13_0 hz13_1_95 hm14_0 hz14_1_96 hm15_0 hz15_1_97 hm42_0 hm42_1) (cwV 1 hts g_M_automaton_M_isSign rfl rfl rfl (by decide +kernel) ⟨Nat.le_of_ble_eq_true rfl, Nat.le_of_ble_eq_true rfl⟩) ⟨pu_bl, va_recv hK hP (ci := 9) (q0 := 0) rfl rfl, pu_in hP hK hD⟩ rfl rfl hl.1 rfl (lv_room (Nat.le_of_ble_eq_true rfl)) dX9_automaton_110 ⟨Nat.le_of_ble_eq_true rfl, Nat.le_of_ble_eq_true rfl⟩) hS (fun q _ h => pu_fr hS hA q h) (pu_fr hS hA) (fun r_120 u t H1 locs ht hvm hw hB hz1 hk1 hS => ?_)
          have hP := pu_keep hP hk1
          clear hk1 hz1 ht hvm
          generalize H1 = H at hP hS ⊢
          obtain ⟨u_121, hu_121, rfl, iu_121⟩ := hw
          refine lv_if_ne (tgt := 121) hx hb dX9_automaton_113 (by decide) (fun c_122 => ?_) (fun c_122 => ?_)
          · have c_122 : ¬ u_121 = 0 := fun z => c_122 ((nI_eq (a := u_121) (b := 0) (Nat.lt_of_le_of_lt hu_121 (Nat.le_of_ble_eq_true rfl)) (Nat.le_of_ble_eq_true rfl)).mpr z)
            exact j_110 _ _ _ _ ⟨z26_102, z27_103, rfl, hz26_102, by omega, by omega, hP, hD, hS, lv_sub hl [0] rfl⟩
          · have c_122 : u_121 = 0 := (nI_eq (a := u_121) (b := 0) (Nat.lt_of_le_of_lt hu_121 (Nat.le_of_ble_eq_true rfl)) (Nat.le_of_ble_eq_true rfl)).mp c_122
            refine lv_aload_n hx hb dX9_automaton_116 rfl (lv_at hl 0 rfl) ?_
            refine lv_iconst (v := 2) hx hb dX9_automaton_117 (by decide) ?_
            have hFc := pu_free hD hS hA
            refine va_callv (va_runV (As := [.int 2]) (rest := []) ⟨hx, hb, hml, hown, hts⟩ (c_M_fails l dC dI _ ad ck 0 0 0 x18 z20_98 z21_99 z22_100 z23_101 x24 x25 z26_102 z27_103 1 x29 x30 x33 x45 x46 x52 x53 x61 x62 x63 x65 x66 z1_83 z2_86 z3_87 z4_88 z5_89 z6_90 z7_91 z8_92 z9_93 z10_84 z11_85 m12_0 z12_1_94 m13_0 z13_1_95 m14_0 z14_1_96 m15_0 z15_1_97 f17 q31 f32 f34 f35 f36 f37 q38 f39 f40 f41 m42_0 m42_1 f43 f44 f47 f48 f49 f50 f51 q54 q55 q56 f57 q58 f59 f60 f64 2 (Nat.le_of_ble_eq_true rfl) (Nat.le_of_ble_eq_true rfl) hx18 hz21_99 hz22_100 hz26_102 (Nat.le_of_ble_eq_true rfl) hx29 hx30 hx33 hx46 hx52 hx53 hx61 hx62 hx63 hx65 hm12_0 hz12_1_94 hm13_0 hz13_1_95 hm14_0 hz14_1_96 hm15_0 hz15_1_97 hm42_0 hm42_1 (Nat.le_of_ble_eq_true rfl) (by omega)) (cwV 1 hts g_M_automaton_M_fails rfl rfl rfl (by decide +kernel) ⟨Nat.le_of_ble_eq_true rfl, Nat.le_of_ble_eq_true rfl⟩) ⟨pu_bl, va_recv hK hP (ci := 9) (q0 := 0) rfl rfl, pu_in hP hK hD⟩ rfl rfl hl.1 rfl (lv_room (Nat.le_of_ble_eq_true rfl)) dX9_automaton_118 ⟨Nat.le_of_ble_eq_true rfl, Nat.le_of_ble_eq_true rfl⟩) hS (fun q _ h => hFc q h) hFc (fun u t H1 locs ht hvm hw hB hz1 hk1 hS => ?_)
            obtain ⟨z26_124, z27_125, ⟨hP1, -, hD1⟩, hz26_124, xr_123_0⟩ := hB
            rw [ht] at hP1
            have hP := hP1
            have hD := pu_all hFc hD1
            clear hP1 hD1 hFc
            clear hk1 hz1 ht hvm
            generalize H1 = H at hP hS ⊢
            exact j_110 _ _ _ _ ⟨z26_124, z27_125, rfl, hz26_124, by omega, by omega, hP, hD, hS, lv_sub hl [0] rfl⟩
  · refine lv_aload_n hx hb dX9_automaton_0 rfl (lv_at hl 0 rfl) ?_
    refine lv_iconst (v := 0) hx hb dX9_automaton_1 (by decide) ?_
    refine va_put (D := (dC, dI)) (ci := 9) (v := .int 0) (ty := .int) (C := RX9) (T := TX9) (N := 67) hx hb hts hiX9 tyX9 tyX9_ok nmX9 hown hK hP hD hS 0 rfl rfl 0 (by decide) v_1 (fun _ h9 => h9) rfl (by decide +kernel) rfl rfl (Nat.le_of_ble_eq_true rfl) dX9_automaton_2 (fun H locs hP hD hS => ?_)
    have hP : va_P (dC, dI) vwCl (mo_w ad ck 0 1 (nI x18) (nI x19) x20 (nI x21) (nI x22) x23 x24 x25 (nI x26) x27 (nI x28) (nI x29) (nI x30) (nI x33) x45 (nI x46) (nI x52) (nI x53) (nI x61) (nI x62) (nI x63) (nI x65) x66 f1 f2 f3 (bN 3 q4) (bN 7 q5) (bN 7 q6) (bN 4 q7) f8 (bN 2 q9) (bH q10) f11 (b2 m12_0 m12_1) (b2 m13_0 m13_1) (b2 m14_0 m14_1) (b2m m15_0 m15_1) f17 (bA 159 q31) f32 f34 f35 f36 f37 (bN 7 q38) f39 f40 f41 (b2 m42_0 m42_1) f43 f44 f47 f48 f49 f50 f51 (bN 13 q54) (bN 120 q55) (bN 120 q56) f57 (bN 120 q58) f59 f60 f64) H := hP
    have hD : va_D A (mo_w ad ck 0 1 (nI x18) (nI x19) x20 (nI x21) (nI x22) x23 x24 x25 (nI x26) x27 (nI x28) (nI x29) (nI x30) (nI x33) x45 (nI x46) (nI x52) (nI x53) (nI x61) (nI x62) (nI x63) (nI x65) x66 f1 f2 f3 (bN 3 q4) (bN 7 q5) (bN 7 q6) (bN 4 q7) f8 (bN 2 q9) (bH q10) f11 (b2 m12_0 m12_1) (b2 m13_0 m13_1) (b2 m14_0 m14_1) (b2m m15_0 m15_1) f17 (bA 159 q31) f32 f34 f35 f36 f37 (bN 7 q38) f39 f40 f41 (b2 m42_0 m42_1) f43 f44 f47 f48 f49 f50 f51 (bN 13 q54) (bN 120 q55) (bN 120 q56) f57 (bN 120 q58) f59 f60 f64) := hD
    refine lv_aload_n hx hb dX9_automaton_5 rfl (lv_at hl 0 rfl) ?_
    refine lv_aload_n hx hb dX9_automaton_6 rfl (lv_at hl 0 rfl) ?_
    refine va_get (D := (dC, dI)) (ci := 9) (v := .int (nI x18)) (C := RX9) (T := TX9) (N := 67) hx hb hts hiX9 hown hK hP 0 rfl rfl 18 (by decide) v_2 (fun _ h9 => h9) rfl dX9_automaton_7 ?_
    refine va_put (D := (dC, dI)) (ci := 9) (v := .int (nI x18)) (ty := .int) (C := RX9) (T := TX9) (N := 67) hx hb hts hiX9 tyX9 tyX9_ok nmX9 hown hK hP hD hS 0 rfl rfl 19 (by decide) v_3 (fun _ h9 => h9) rfl (by decide +kernel) rfl rfl (Nat.le_of_ble_eq_true rfl) dX9_automaton_10 (fun H locs hP hD hS => ?_)
    have hP : va_P (dC, dI) vwCl (mo_w ad ck 0 1 (nI x18) (nI x18) x20 (nI x21) (nI x22) x23 x24 x25 (nI x26) x27 (nI x28) (nI x29) (nI x30) (nI x33) x45 (nI x46) (nI x52) (nI x53) (nI x61) (nI x62) (nI x63) (nI x65) x66 f1 f2 f3 (bN 3 q4) (bN 7 q5) (bN 7 q6) (bN 4 q7) f8 (bN 2 q9) (bH q10) f11 (b2 m12_0 m12_1) (b2 m13_0 m13_1) (b2 m14_0 m14_1) (b2m m15_0 m15_1) f17 (bA 159 q31) f32 f34 f35 f36 f37 (bN 7 q38) f39 f40 f41 (b2 m42_0 m42_1) f43 f44 f47 f48 f49 f50 f51 (bN 13 q54) (bN 120 q55) (bN 120 q56) f57 (bN 120 q58) f59 f60 f64) H := hP
    have hD : va_D A (mo_w ad ck 0 1 (nI x18) (nI x18) x20 (nI x21) (nI x22) x23 x24 x25 (nI x26) x27 (nI x28) (nI x29) (nI x30) (nI x33) x45 (nI x46) (nI x52) (nI x53) (nI x61) (nI x62) (nI x63) (nI x65) x66 f1 f2 f3 (bN 3 q4) (bN 7 q5) (bN 7 q6) (bN 4 q7) f8 (bN 2 q9) (bH q10) f11 (b2 m12_0 m12_1) (b2 m13_0 m13_1) (b2 m14_0 m14_1) (b2m m15_0 m15_1) f17 (bA 159 q31) f32 f34 f35 f36 f37 (bN 7 q38) f39 f40 f41 (b2 m42_0 m42_1) f43 f44 f47 f48 f49 f50 f51 (bN 13 q54) (bN 120 q55) (bN 120 q56) f57 (bN 120 q58) f59 f60 f64) := hD
    refine lv_aload_n hx hb dX9_automaton_13 rfl (lv_at hl 0 rfl) ?_
    refine lv_iconst (v := 0) hx hb dX9_automaton_14 (by decide) ?_
    refine va_put (D := (dC, dI)) (ci := 9) (v := .int 0) (ty := .int) (C := RX9) (T := TX9) (N := 67) hx hb hts hiX9 tyX9 tyX9_ok nmX9 hown hK hP hD hS 0 rfl rfl 18 (by decide) v_2 (fun _ h9 => h9) rfl (by decide +kernel) rfl rfl (Nat.le_of_ble_eq_true rfl) dX9_automaton_15 (fun H locs hP hD hS => ?_)
    have hP : va_P (dC, dI) vwCl (mo_w ad ck 0 1 0 (nI x18) x20 (nI x21) (nI x22) x23 x24 x25 (nI x26) x27 (nI x28) (nI x29) (nI x30) (nI x33) x45 (nI x46) (nI x52) (nI x53) (nI x61) (nI x62) (nI x63) (nI x65) x66 f1 f2 f3 (bN 3 q4) (bN 7 q5) (bN 7 q6) (bN 4 q7) f8 (bN 2 q9) (bH q10) f11 (b2 m12_0 m12_1) (b2 m13_0 m13_1) (b2 m14_0 m14_1) (b2m m15_0 m15_1) f17 (bA 159 q31) f32 f34 f35 f36 f37 (bN 7 q38) f39 f40 f41 (b2 m42_0 m42_1) f43 f44 f47 f48 f49 f50 f51 (bN 13 q54) (bN 120 q55) (bN 120 q56) f57 (bN 120 q58) f59 f60 f64) H := hP
    have hD : va_D A (mo_w ad ck 0 1 0 (nI x18) x20 (nI x21) (nI x22) x23 x24 x25 (nI x26) x27 (nI x28) (nI x29) (nI x30) (nI x33) x45 (nI x46) (nI x52) (nI x53) (nI x61) (nI x62) (nI x63) (nI x65) x66 f1 f2 f3 (bN 3 q4) (bN 7 q5) (bN 7 q6) (bN 4 q7) f8 (bN 2 q9) (bH q10) f11 (b2 m12_0 m12_1) (b2 m13_0 m13_1) (b2 m14_0 m14_1) (b2m m15_0 m15_1) f17 (bA 159 q31) f32 f34 f35 f36 f37 (bN 7 q38) f39 f40 f41 (b2 m42_0 m42_1) f43 f44 f47 f48 f49 f50 f51 (bN 13 q54) (bN 120 q55) (bN 120 q56) f57 (bN 120 q58) f59 f60 f64) := hD
    refine lv_aload_n hx hb dX9_automaton_18 rfl (lv_at hl 0 rfl) ?_
    refine lv_iconst (v := 0) hx hb dX9_automaton_19 (by decide) ?_
    refine va_put (D := (dC, dI)) (ci := 9) (v := .int 0) (ty := .int) (C := RX9) (T := TX9) (N := 67) hx hb hts hiX9 tyX9 tyX9_ok nmX9 hown hK hP hD hS 0 rfl rfl 21 (by decide) v_4 (fun _ h9 => h9) rfl (by decide +kernel) rfl rfl (Nat.le_of_ble_eq_true rfl) dX9_automaton_20 (fun H locs hP hD hS => ?_)
    have hP : va_P (dC, dI) vwCl (mo_w ad ck 0 1 0 (nI x18) x20 0 (nI x22) x23 x24 x25 (nI x26) x27 (nI x28) (nI x29) (nI x30) (nI x33) x45 (nI x46) (nI x52) (nI x53) (nI x61) (nI x62) (nI x63) (nI x65) x66 f1 f2 f3 (bN 3 q4) (bN 7 q5) (bN 7 q6) (bN 4 q7) f8 (bN 2 q9) (bH q10) f11 (b2 m12_0 m12_1) (b2 m13_0 m13_1) (b2 m14_0 m14_1) (b2m m15_0 m15_1) f17 (bA 159 q31) f32 f34 f35 f36 f37 (bN 7 q38) f39 f40 f41 (b2 m42_0 m42_1) f43 f44 f47 f48 f49 f50 f51 (bN 13 q54) (bN 120 q55) (bN 120 q56) f57 (bN 120 q58) f59 f60 f64) H := hP
    have hD : va_D A (mo_w ad ck 0 1 0 (nI x18) x20 0 (nI x22) x23 x24 x25 (nI x26) x27 (nI x28) (nI x29) (nI x30) (nI x33) x45 (nI x46) (nI x52) (nI x53) (nI x61) (nI x62) (nI x63) (nI x65) x66 f1 f2 f3 (bN 3 q4) (bN 7 q5) (bN 7 q6) (bN 4 q7) f8 (bN 2 q9) (bH q10) f11 (b2 m12_0 m12_1) (b2 m13_0 m13_1) (b2 m14_0 m14_1) (b2m m15_0 m15_1) f17 (bA 159 q31) f32 f34 f35 f36 f37 (bN 7 q38) f39 f40 f41 (b2 m42_0 m42_1) f43 f44 f47 f48 f49 f50 f51 (bN 13 q54) (bN 120 q55) (bN 120 q56) f57 (bN 120 q58) f59 f60 f64) := hD
    refine lv_aload_n hx hb dX9_automaton_23 rfl (lv_at hl 0 rfl) ?_
    refine lv_iconst (v := 0) hx hb dX9_automaton_24 (by decide) ?_
    refine va_put (D := (dC, dI)) (ci := 9) (v := .int 0) (ty := .int) (C := RX9) (T := TX9) (N := 67) hx hb hts hiX9 tyX9 tyX9_ok nmX9 hown hK hP hD hS 0 rfl rfl 26 (by decide) v_5 (fun _ h9 => h9) rfl (by decide +kernel) rfl rfl (Nat.le_of_ble_eq_true rfl) dX9_automaton_25 (fun H locs hP hD hS => ?_)
    have hP : va_P (dC, dI) vwCl (mo_w ad ck 0 1 0 (nI x18) x20 0 (nI x22) x23 x24 x25 0 x27 (nI x28) (nI x29) (nI x30) (nI x33) x45 (nI x46) (nI x52) (nI x53) (nI x61) (nI x62) (nI x63) (nI x65) x66 f1 f2 f3 (bN 3 q4) (bN 7 q5) (bN 7 q6) (bN 4 q7) f8 (bN 2 q9) (bH q10) f11 (b2 m12_0 m12_1) (b2 m13_0 m13_1) (b2 m14_0 m14_1) (b2m m15_0 m15_1) f17 (bA 159 q31) f32 f34 f35 f36 f37 (bN 7 q38) f39 f40 f41 (b2 m42_0 m42_1) f43 f44 f47 f48 f49 f50 f51 (bN 13 q54) (bN 120 q55) (bN 120 q56) f57 (bN 120 q58) f59 f60 f64) H := hP
    have hD : va_D A (mo_w ad ck 0 1 0 (nI x18) x20 0 (nI x22) x23 x24 x25 0 x27 (nI x28) (nI x29) (nI x30) (nI x33) x45 (nI x46) (nI x52) (nI x53) (nI x61) (nI x62) (nI x63) (nI x65) x66 f1 f2 f3 (bN 3 q4) (bN 7 q5) (bN 7 q6) (bN 4 q7) f8 (bN 2 q9) (bH q10) f11 (b2 m12_0 m12_1) (b2 m13_0 m13_1) (b2 m14_0 m14_1) (b2m m15_0 m15_1) f17 (bA 159 q31) f32 f34 f35 f36 f37 (bN 7 q38) f39 f40 f41 (b2 m42_0 m42_1) f43 f44 f47 f48 f49 f50 f51 (bN 13 q54) (bN 120 q55) (bN 120 q56) f57 (bN 120 q58) f59 f60 f64) := hD
    refine lv_aload_n hx hb dX9_automaton_28 rfl (lv_at hl 0 rfl) ?_
    refine lv_iconst (v := 1) hx hb dX9_automaton_29 (by decide) ?_
    refine lv_aload_n hx hb dX9_automaton_30 rfl (lv_at hl 0 rfl) ?_
    refine va_get (D := (dC, dI)) (ci := 9) (v := .int 1) (C := RX9) (T := TX9) (N := 67) hx hb hts hiX9 hown hK hP 0 rfl rfl 16 (by decide) v_6 (fun _ h9 => h9) rfl dX9_automaton_31 ?_
    refine lv_isub hx hb dX9_automaton_34 ?_
    refine lv_topi (fun y_126 ey_126 => ?_)
    obtain rfl : y_126 = 0 := ey_126.trans (by decide)
    refine va_put (D := (dC, dI)) (ci := 9) (v := .int 0) (ty := .int) (C := RX9) (T := TX9) (N := 67) hx hb hts hiX9 tyX9 tyX9_ok nmX9 hown hK hP hD hS 0 rfl rfl 28 (by decide) v_7 (fun _ h9 => h9) rfl (by decide +kernel) rfl rfl (Nat.le_of_ble_eq_true rfl) dX9_automaton_35 (fun H locs hP hD hS => ?_)
    have hP : va_P (dC, dI) vwCl (mo_w ad ck 0 1 0 (nI x18) x20 0 (nI x22) x23 x24 x25 0 x27 0 (nI x29) (nI x30) (nI x33) x45 (nI x46) (nI x52) (nI x53) (nI x61) (nI x62) (nI x63) (nI x65) x66 f1 f2 f3 (bN 3 q4) (bN 7 q5) (bN 7 q6) (bN 4 q7) f8 (bN 2 q9) (bH q10) f11 (b2 m12_0 m12_1) (b2 m13_0 m13_1) (b2 m14_0 m14_1) (b2m m15_0 m15_1) f17 (bA 159 q31) f32 f34 f35 f36 f37 (bN 7 q38) f39 f40 f41 (b2 m42_0 m42_1) f43 f44 f47 f48 f49 f50 f51 (bN 13 q54) (bN 120 q55) (bN 120 q56) f57 (bN 120 q58) f59 f60 f64) H := hP
    have hD : va_D A (mo_w ad ck 0 1 0 (nI x18) x20 0 (nI x22) x23 x24 x25 0 x27 0 (nI x29) (nI x30) (nI x33) x45 (nI x46) (nI x52) (nI x53) (nI x61) (nI x62) (nI x63) (nI x65) x66 f1 f2 f3 (bN 3 q4) (bN 7 q5) (bN 7 q6) (bN 4 q7) f8 (bN 2 q9) (bH q10) f11 (b2 m12_0 m12_1) (b2 m13_0 m13_1) (b2 m14_0 m14_1) (b2m m15_0 m15_1) f17 (bA 159 q31) f32 f34 f35 f36 f37 (bN 7 q38) f39 f40 f41 (b2 m42_0 m42_1) f43 f44 f47 f48 f49 f50 f51 (bN 13 q54) (bN 120 q55) (bN 120 q56) f57 (bN 120 q58) f59 f60 f64) := hD
    refine lv_aload_n hx hb dX9_automaton_38 rfl (lv_at hl 0 rfl) ?_
    refine va_get (D := (dC, dI)) (ci := 9) (v := .ref (ad 12)) (C := RX9) (T := TX9) (N := 67) hx hb hts hiX9 hown hK hP 0 rfl rfl 12 (by decide) v_8 (fun _ h9 => h9) rfl dX9_automaton_39 ?_
    refine lv_aload_n hx hb dX9_automaton_42 rfl (lv_at hl 0 rfl) ?_
    refine va_get (D := (dC, dI)) (ci := 9) (v := .int 0) (C := RX9) (T := TX9) (N := 67) hx hb hts hiX9 hown hK hP 0 rfl rfl 28 (by decide) v_7 (fun _ h9 => h9) rfl dX9_automaton_43 ?_
    refine lv_iconst (v := 0) hx hb dX9_automaton_46 (by decide) ?_
    refine va_iast hx hb hK hP hD hS 12 11 rfl rfl (vp_in_nI (n := 0) (Nat.le_of_ble_eq_true rfl) (Nat.le_of_ble_eq_true rfl)) dX9_automaton_47 (fun H locs hP hD hS => ?_)
    have hP : va_P (dC, dI) vwCl (mo_w ad ck 0 1 0 (nI x18) x20 0 (nI x22) x23 x24 x25 0 x27 0 (nI x29) (nI x30) (nI x33) x45 (nI x46) (nI x52) (nI x53) (nI x61) (nI x62) (nI x63) (nI x65) x66 f1 f2 f3 (bN 3 q4) (bN 7 q5) (bN 7 q6) (bN 4 q7) f8 (bN 2 q9) (bH q10) f11 (b2 0 m12_1) (b2 m13_0 m13_1) (b2 m14_0 m14_1) (b2m m15_0 m15_1) f17 (bA 159 q31) f32 f34 f35 f36 f37 (bN 7 q38) f39 f40 f41 (b2 m42_0 m42_1) f43 f44 f47 f48 f49 f50 f51 (bN 13 q54) (bN 120 q55) (bN 120 q56) f57 (bN 120 q58) f59 f60 f64) H := by rw [← b2_up0 (a := m12_0) (b := m12_1) (v := 0)]; exact hP
    have hD : va_D A (mo_w ad ck 0 1 0 (nI x18) x20 0 (nI x22) x23 x24 x25 0 x27 0 (nI x29) (nI x30) (nI x33) x45 (nI x46) (nI x52) (nI x53) (nI x61) (nI x62) (nI x63) (nI x65) x66 f1 f2 f3 (bN 3 q4) (bN 7 q5) (bN 7 q6) (bN 4 q7) f8 (bN 2 q9) (bH q10) f11 (b2 0 m12_1) (b2 m13_0 m13_1) (b2 m14_0 m14_1) (b2m m15_0 m15_1) f17 (bA 159 q31) f32 f34 f35 f36 f37 (bN 7 q38) f39 f40 f41 (b2 m42_0 m42_1) f43 f44 f47 f48 f49 f50 f51 (bN 13 q54) (bN 120 q55) (bN 120 q56) f57 (bN 120 q58) f59 f60 f64) := by rw [← b2_up0 (a := m12_0) (b := m12_1) (v := 0)]; exact hD
    refine lv_aload_n hx hb dX9_automaton_48 rfl (lv_at hl 0 rfl) ?_
    refine va_get (D := (dC, dI)) (ci := 9) (v := .ref (ad 13)) (C := RX9) (T := TX9) (N := 67) hx hb hts hiX9 hown hK hP 0 rfl rfl 13 (by decide) v_9 (fun _ h9 => h9) rfl dX9_automaton_49 ?_
    refine lv_aload_n hx hb dX9_automaton_52 rfl (lv_at hl 0 rfl) ?_
    refine va_get (D := (dC, dI)) (ci := 9) (v := .int 0) (C := RX9) (T := TX9) (N := 67) hx hb hts hiX9 hown hK hP 0 rfl rfl 28 (by decide) v_7 (fun _ h9 => h9) rfl dX9_automaton_53 ?_
    refine lv_iconst (v := 0) hx hb dX9_automaton_56 (by decide) ?_
    refine va_iast hx hb hK hP hD hS 13 12 rfl rfl (vp_in_nI (n := 0) (Nat.le_of_ble_eq_true rfl) (Nat.le_of_ble_eq_true rfl)) dX9_automaton_57 (fun H locs hP hD hS => ?_)
    have hP : va_P (dC, dI) vwCl (mo_w ad ck 0 1 0 (nI x18) x20 0 (nI x22) x23 x24 x25 0 x27 0 (nI x29) (nI x30) (nI x33) x45 (nI x46) (nI x52) (nI x53) (nI x61) (nI x62) (nI x63) (nI x65) x66 f1 f2 f3 (bN 3 q4) (bN 7 q5) (bN 7 q6) (bN 4 q7) f8 (bN 2 q9) (bH q10) f11 (b2 0 m12_1) (b2 0 m13_1) (b2 m14_0 m14_1) (b2m m15_0 m15_1) f17 (bA 159 q31) f32 f34 f35 f36 f37 (bN 7 q38) f39 f40 f41 (b2 m42_0 m42_1) f43 f44 f47 f48 f49 f50 f51 (bN 13 q54) (bN 120 q55) (bN 120 q56) f57 (bN 120 q58) f59 f60 f64) H := by rw [← b2_up0 (a := m13_0) (b := m13_1) (v := 0)]; exact hP
    have hD : va_D A (mo_w ad ck 0 1 0 (nI x18) x20 0 (nI x22) x23 x24 x25 0 x27 0 (nI x29) (nI x30) (nI x33) x45 (nI x46) (nI x52) (nI x53) (nI x61) (nI x62) (nI x63) (nI x65) x66 f1 f2 f3 (bN 3 q4) (bN 7 q5) (bN 7 q6) (bN 4 q7) f8 (bN 2 q9) (bH q10) f11 (b2 0 m12_1) (b2 0 m13_1) (b2 m14_0 m14_1) (b2m m15_0 m15_1) f17 (bA 159 q31) f32 f34 f35 f36 f37 (bN 7 q38) f39 f40 f41 (b2 m42_0 m42_1) f43 f44 f47 f48 f49 f50 f51 (bN 13 q54) (bN 120 q55) (bN 120 q56) f57 (bN 120 q58) f59 f60 f64) := by rw [← b2_up0 (a := m13_0) (b := m13_1) (v := 0)]; exact hD
    refine lv_aload_n hx hb dX9_automaton_58 rfl (lv_at hl 0 rfl) ?_
    refine va_get (D := (dC, dI)) (ci := 9) (v := .ref (ad 14)) (C := RX9) (T := TX9) (N := 67) hx hb hts hiX9 hown hK hP 0 rfl rfl 14 (by decide) v_10 (fun _ h9 => h9) rfl dX9_automaton_59 ?_
    refine lv_aload_n hx hb dX9_automaton_62 rfl (lv_at hl 0 rfl) ?_
    refine va_get (D := (dC, dI)) (ci := 9) (v := .int 0) (C := RX9) (T := TX9) (N := 67) hx hb hts hiX9 hown hK hP 0 rfl rfl 28 (by decide) v_7 (fun _ h9 => h9) rfl dX9_automaton_63 ?_
    refine lv_iconst (v := 0) hx hb dX9_automaton_66 (by decide) ?_
    refine va_iast hx hb hK hP hD hS 14 13 rfl rfl (vp_in_nI (n := 0) (Nat.le_of_ble_eq_true rfl) (Nat.le_of_ble_eq_true rfl)) dX9_automaton_67 (fun H locs hP hD hS => ?_)
    have hP : va_P (dC, dI) vwCl (mo_w ad ck 0 1 0 (nI x18) x20 0 (nI x22) x23 x24 x25 0 x27 0 (nI x29) (nI x30) (nI x33) x45 (nI x46) (nI x52) (nI x53) (nI x61) (nI x62) (nI x63) (nI x65) x66 f1 f2 f3 (bN 3 q4) (bN 7 q5) (bN 7 q6) (bN 4 q7) f8 (bN 2 q9) (bH q10) f11 (b2 0 m12_1) (b2 0 m13_1) (b2 0 m14_1) (b2m m15_0 m15_1) f17 (bA 159 q31) f32 f34 f35 f36 f37 (bN 7 q38) f39 f40 f41 (b2 m42_0 m42_1) f43 f44 f47 f48 f49 f50 f51 (bN 13 q54) (bN 120 q55) (bN 120 q56) f57 (bN 120 q58) f59 f60 f64) H := by rw [← b2_up0 (a := m14_0) (b := m14_1) (v := 0)]; exact hP
    have hD : va_D A (mo_w ad ck 0 1 0 (nI x18) x20 0 (nI x22) x23 x24 x25 0 x27 0 (nI x29) (nI x30) (nI x33) x45 (nI x46) (nI x52) (nI x53) (nI x61) (nI x62) (nI x63) (nI x65) x66 f1 f2 f3 (bN 3 q4) (bN 7 q5) (bN 7 q6) (bN 4 q7) f8 (bN 2 q9) (bH q10) f11 (b2 0 m12_1) (b2 0 m13_1) (b2 0 m14_1) (b2m m15_0 m15_1) f17 (bA 159 q31) f32 f34 f35 f36 f37 (bN 7 q38) f39 f40 f41 (b2 m42_0 m42_1) f43 f44 f47 f48 f49 f50 f51 (bN 13 q54) (bN 120 q55) (bN 120 q56) f57 (bN 120 q58) f59 f60 f64) := by rw [← b2_up0 (a := m14_0) (b := m14_1) (v := 0)]; exact hD
    refine lv_aload_n hx hb dX9_automaton_68 rfl (lv_at hl 0 rfl) ?_
    refine va_get (D := (dC, dI)) (ci := 9) (v := .ref (ad 15)) (C := RX9) (T := TX9) (N := 67) hx hb hts hiX9 hown hK hP 0 rfl rfl 15 (by decide) v_11 (fun _ h9 => h9) rfl dX9_automaton_69 ?_
    refine lv_aload_n hx hb dX9_automaton_72 rfl (lv_at hl 0 rfl) ?_
    refine va_get (D := (dC, dI)) (ci := 9) (v := .int 0) (C := RX9) (T := TX9) (N := 67) hx hb hts hiX9 hown hK hP 0 rfl rfl 28 (by decide) v_7 (fun _ h9 => h9) rfl dX9_automaton_73 ?_
    refine lv_iconst (v := (-1)) hx hb dX9_automaton_76 (by decide) ?_
    refine va_iast hx hb hK hP hD hS 15 14 rfl rfl (vp_in_nI (n := 0) (Nat.le_of_ble_eq_true rfl) (Nat.le_of_ble_eq_true rfl)) dX9_automaton_77 (fun H locs hP hD hS => ?_)
    have hP : va_P (dC, dI) vwCl (mo_w ad ck 0 1 0 (nI x18) x20 0 (nI x22) x23 x24 x25 0 x27 0 (nI x29) (nI x30) (nI x33) x45 (nI x46) (nI x52) (nI x53) (nI x61) (nI x62) (nI x63) (nI x65) x66 f1 f2 f3 (bN 3 q4) (bN 7 q5) (bN 7 q6) (bN 4 q7) f8 (bN 2 q9) (bH q10) f11 (b2 0 m12_1) (b2 0 m13_1) (b2 0 m14_1) (b2m 0 m15_1) f17 (bA 159 q31) f32 f34 f35 f36 f37 (bN 7 q38) f39 f40 f41 (b2 m42_0 m42_1) f43 f44 f47 f48 f49 f50 f51 (bN 13 q54) (bN 120 q55) (bN 120 q56) f57 (bN 120 q58) f59 f60 f64) H := by rw [← b2m_n0 (a := m15_0) (b := m15_1)]; exact hP
    have hD : va_D A (mo_w ad ck 0 1 0 (nI x18) x20 0 (nI x22) x23 x24 x25 0 x27 0 (nI x29) (nI x30) (nI x33) x45 (nI x46) (nI x52) (nI x53) (nI x61) (nI x62) (nI x63) (nI x65) x66 f1 f2 f3 (bN 3 q4) (bN 7 q5) (bN 7 q6) (bN 4 q7) f8 (bN 2 q9) (bH q10) f11 (b2 0 m12_1) (b2 0 m13_1) (b2 0 m14_1) (b2m 0 m15_1) f17 (bA 159 q31) f32 f34 f35 f36 f37 (bN 7 q38) f39 f40 f41 (b2 m42_0 m42_1) f43 f44 f47 f48 f49 f50 f51 (bN 13 q54) (bN 120 q55) (bN 120 q56) f57 (bN 120 q58) f59 f60 f64) := by rw [← b2m_n0 (a := m15_0) (b := m15_1)]; exact hD
    refine lv_aload_n hx hb dX9_automaton_78 rfl (lv_at hl 0 rfl) ?_
    have hFc := pu_free hD hS hA
    refine va_callv (va_runV (As := []) (rest := []) ⟨hx, hb, hml, hown, hts⟩ (c_M_next l dC dI _ ad ck 0 1 0 x18 x20 0 x22 x23 x24 x25 0 x27 0 x29 x30 x33 x45 x46 x52 x53 x61 x62 x63 x65 x66 f1 f2 f3 q4 q5 q6 q7 f8 q9 q10 f11 0 m12_1 0 m13_1 0 m14_1 0 m15_1 f17 q31 f32 f34 f35 f36 f37 q38 f39 f40 f41 m42_0 m42_1 f43 f44 f47 f48 f49 f50 f51 q54 q55 q56 f57 q58 f59 f60 f64 (Nat.le_of_ble_eq_true rfl) (Nat.le_of_ble_eq_true rfl) hx18 (Nat.le_of_ble_eq_true rfl) hx22 (Nat.le_of_ble_eq_true rfl) (Nat.le_of_ble_eq_true rfl) hx29 hx30 hx33 hx46 hx52 hx53 hx61 hx62 hx63 hx65 (Nat.le_of_ble_eq_true rfl) hm12_1 (Nat.le_of_ble_eq_true rfl) hm13_1 (Nat.le_of_ble_eq_true rfl) hm14_1 (Nat.le_of_ble_eq_true rfl) hm15_1 hm42_0 hm42_1) (cwV 0 hts g_M_automaton_M_next rfl rfl rfl (by decide +kernel) ⟨Nat.le_of_ble_eq_true rfl, Nat.le_of_ble_eq_true rfl⟩) ⟨pu_bl, va_recv hK hP (ci := 9) (q0 := 0) rfl rfl, pu_in hP hK hD⟩ rfl rfl hl.1 rfl (lv_room (Nat.le_of_ble_eq_true rfl)) dX9_automaton_79 ⟨Nat.le_of_ble_eq_true rfl, Nat.le_of_ble_eq_true rfl⟩) hS (fun q _ h => hFc q h) hFc (fun u t H1 locs ht hvm hw hB hz1 hk1 hS => ?_)
    obtain ⟨z20_128, z21_129, z22_130, z23_131, ⟨hP1, -, hD1⟩, hz21_129, hz22_130, xr_127_0, xr_127_1⟩ := hB
    rw [ht] at hP1
    have hP := hP1
    have hD := pu_all hFc hD1
    clear hP1 hD1 hFc
    clear hk1 hz1 ht hvm
    generalize H1 = H at hP hS ⊢
    refine pu_while (fun nn H locs ls => ∃ (g_153 : Nat → Int32) (g_154 : Nat → Nat) (g_155 : Nat → Int32) (g_156 : Nat → Int32) (g_157 : Nat → Int32) (g_158 : Nat → Nat) (g_159 : Nat → Nat) (g_160 : Nat → Nat) (g_161 : Nat → Nat) (g_162 : Nat → Int32) (g_163 : Nat → Nat) (g_164 : Nat) (g_165 : Nat) (g_166 : Nat) (g_167 : Nat) (g_168 : Int32) (g_169 : Nat) (g_170 : Nat) (g_171 : Int32) (g_172 : Nat) (g_173 : Int32), nn = 2 * mu g_169 g_170 + (1 - g_172) ∧ g_164 ≤ 3 ∧ g_165 ≤ 8 ∧ g_166 ≤ 14 ∧ g_167 ≤ 8 ∧ g_169 ≤ 900 ∧ g_170 ≤ 4 ∧ g_172 ≤ 6 ∧ va_P (dC, dI) vwCl (mo_w ad ck 0 1 0 (nI x18) g_168 (nI g_169) (nI g_170) g_171 x24 x25 (nI g_172) g_173 0 (nI x29) (nI x30) (nI x33) x45 (nI x46) (nI x52) (nI x53) (nI x61) (nI x62) (nI x63) (nI x65) x66 g_153 g_156 g_157 (bN 3 g_158) (bN 7 g_159) (bN 7 g_160) (bN 4 g_161) g_162 (bN 2 g_163) (bH g_154) g_155 (b2 g_164 m12_1) (b2 g_165 m13_1) (b2 g_166 m14_1) (b2m g_167 m15_1) f17 (bA 159 q31) f32 f34 f35 f36 f37 (bN 7 q38) f39 f40 f41 (b2 m42_0 m42_1) f43 f44 f47 f48 f49 f50 f51 (bN 13 q54) (bN 120 q55) (bN 120 q56) f57 (bN 120 q58) f59 f60 f64) H ∧ va_D A (mo_w ad ck 0 1 0 (nI x18) g_168 (nI g_169) (nI g_170) g_171 x24 x25 (nI g_172) g_173 0 (nI x29) (nI x30) (nI x33) x45 (nI x46) (nI x52) (nI x53) (nI x61) (nI x62) (nI x63) (nI x65) x66 g_153 g_156 g_157 (bN 3 g_158) (bN 7 g_159) (bN 7 g_160) (bN 4 g_161) g_162 (bN 2 g_163) (bH g_154) g_155 (b2 g_164 m12_1) (b2 g_165 m13_1) (b2 g_166 m14_1) (b2m g_167 m15_1) f17 (bA 159 q31) f32 f34 f35 f36 f37 (bN 7 q38) f39 f40 f41 (b2 m42_0 m42_1) f43 f44 f47 f48 f49 f50 f51 (bN 13 q54) (bN 120 q55) (bN 120 q56) f57 (bN 120 q58) f59 f60 f64) ∧ va_S A s.heap H locs ∧ lv_has ls 1 [(0, .ref (ad 0))]) 82 ?_ _ _ _ _ ⟨f1, q10, f11, f2, f3, q4, q5, q6, q7, f8, q9, 0, 0, 0, 0, z20_128, z21_129, z22_130, z23_131, 0, x27, rfl, (Nat.le_of_ble_eq_true rfl), (Nat.le_of_ble_eq_true rfl), (Nat.le_of_ble_eq_true rfl), (Nat.le_of_ble_eq_true rfl), hz21_129, hz22_130, (Nat.le_of_ble_eq_true rfl), hP, hD, hS, lv_sub hl [0] rfl⟩
    rintro nn ih_174 H locs ls ⟨g_153, g_154, g_155, g_156, g_157, g_158, g_159, g_160, g_161, g_162, g_163, g_164, g_165, g_166, g_167, g_168, g_169, g_170, g_171, g_172, g_173, rfl, hg_164, hg_165, hg_166, hg_167, hg_169, hg_170, hg_172, hP, hD, hS, hl⟩
    refine lv_aload_n hx hb dX9_automaton_82 rfl (lv_at hl 0 rfl) ?_
    refine va_calli (va_runV (As := []) (rest := []) ⟨hx, hb, hml, hown, hts⟩ (c_M_isGood l dC dI _ ad ck 0 1 0 x18 g_168 g_169 g_170 g_171 x24 x25 g_172 g_173 0 x29 x30 x33 x45 x46 x52 x53 x61 x62 x63 x65 x66 g_153 g_156 g_157 g_158 g_159 g_160 g_161 g_162 g_163 g_154 g_155 g_164 m12_1 g_165 m13_1 g_166 m14_1 g_167 m15_1 f17 q31 f32 f34 f35 f36 f37 q38 f39 f40 f41 m42_0 m42_1 f43 f44 f47 f48 f49 f50 f51 q54 q55 q56 f57 q58 f59 f60 f64 (Nat.le_of_ble_eq_true rfl) (Nat.le_of_ble_eq_true rfl) hx18 hg_169 hg_170 hg_172 (Nat.le_of_ble_eq_true rfl) hx29 hx30 hx33 hx46 hx52 hx53 hx61 hx62 hx63 hx65 hg_164 hm12_1 hg_165 hm13_1 hg_166 hm14_1 hg_167 hm15_1 hm42_0 hm42_1) (cwV 0 hts g_M_automaton_M_isGood rfl rfl rfl (by decide +kernel) ⟨Nat.le_of_ble_eq_true rfl, Nat.le_of_ble_eq_true rfl⟩) ⟨pu_bl, va_recv hK hP (ci := 9) (q0 := 0) rfl rfl, pu_in hP hK hD⟩ rfl rfl hl.1 rfl (lv_room (Nat.le_of_ble_eq_true rfl)) dX9_automaton_83 ⟨Nat.le_of_ble_eq_true rfl, Nat.le_of_ble_eq_true rfl⟩) hS (fun q _ h => pu_fr hS hA q h) (pu_fr hS hA) (fun r_175 u t H1 locs ht hvm hw hB hz1 hk1 hS => ?_)
    have hP := pu_keep hP hk1
    clear hk1 hz1 ht hvm
    generalize H1 = H at hP hS ⊢
    obtain ⟨u_176, hu_176, rfl, iu_176⟩ := hw
    refine pu_join (fun H locs ls st => st = [] ∧ va_P (dC, dI) vwCl (mo_w ad ck 0 1 0 (nI x18) g_168 (nI g_169) (nI g_170) g_171 x24 x25 (nI g_172) g_173 0 (nI x29) (nI x30) (nI x33) x45 (nI x46) (nI x52) (nI x53) (nI x61) (nI x62) (nI x63) (nI x65) x66 g_153 g_156 g_157 (bN 3 g_158) (bN 7 g_159) (bN 7 g_160) (bN 4 g_161) g_162 (bN 2 g_163) (bH g_154) g_155 (b2 g_164 m12_1) (b2 g_165 m13_1) (b2 g_166 m14_1) (b2m g_167 m15_1) f17 (bA 159 q31) f32 f34 f35 f36 f37 (bN 7 q38) f39 f40 f41 (b2 m42_0 m42_1) f43 f44 f47 f48 f49 f50 f51 (bN 13 q54) (bN 120 q55) (bN 120 q56) f57 (bN 120 q58) f59 f60 f64) H ∧ va_D A (mo_w ad ck 0 1 0 (nI x18) g_168 (nI g_169) (nI g_170) g_171 x24 x25 (nI g_172) g_173 0 (nI x29) (nI x30) (nI x33) x45 (nI x46) (nI x52) (nI x53) (nI x61) (nI x62) (nI x63) (nI x65) x66 g_153 g_156 g_157 (bN 3 g_158) (bN 7 g_159) (bN 7 g_160) (bN 4 g_161) g_162 (bN 2 g_163) (bH g_154) g_155 (b2 g_164 m12_1) (b2 g_165 m13_1) (b2 g_166 m14_1) (b2m g_167 m15_1) f17 (bA 159 q31) f32 f34 f35 f36 f37 (bN 7 q38) f39 f40 f41 (b2 m42_0 m42_1) f43 f44 f47 f48 f49 f50 f51 (bN 13 q54) (bN 120 q55) (bN 120 q56) f57 (bN 120 q58) f59 f60 f64) ∧ va_S A s.heap H locs ∧ lv_has ls 1 [(0, .ref (ad 0))]) 135 ?_ (fun j_177 => ?_)
    · rintro H locs ls st ⟨rfl, hP, hD, hS, hl⟩
      refine lv_aload_n hx hb dX9_automaton_135 rfl (lv_at hl 0 rfl) ?_
      refine va_calli (va_runV (As := []) (rest := []) ⟨hx, hb, hml, hown, hts⟩ (c_M_isGood l dC dI _ ad ck 0 1 0 x18 g_168 g_169 g_170 g_171 x24 x25 g_172 g_173 0 x29 x30 x33 x45 x46 x52 x53 x61 x62 x63 x65 x66 g_153 g_156 g_157 g_158 g_159 g_160 g_161 g_162 g_163 g_154 g_155 g_164 m12_1 g_165 m13_1 g_166 m14_1 g_167 m15_1 f17 q31 f32 f34 f35 f36 f37 q38 f39 f40 f41 m42_0 m42_1 f43 f44 f47 f48 f49 f50 f51 q54 q55 q56 f57 q58 f59 f60 f64 (Nat.le_of_ble_eq_true rfl) (Nat.le_of_ble_eq_true rfl) hx18 hg_169 hg_170 hg_172 (Nat.le_of_ble_eq_true rfl) hx29 hx30 hx33 hx46 hx52 hx53 hx61 hx62 hx63 hx65 hg_164 hm12_1 hg_165 hm13_1 hg_166 hm14_1 hg_167 hm15_1 hm42_0 hm42_1) (cwV 0 hts g_M_automaton_M_isGood rfl rfl rfl (by decide +kernel) ⟨Nat.le_of_ble_eq_true rfl, Nat.le_of_ble_eq_true rfl⟩) ⟨pu_bl, va_recv hK hP (ci := 9) (q0 := 0) rfl rfl, pu_in hP hK hD⟩ rfl rfl hl.1 rfl (lv_room (Nat.le_of_ble_eq_true rfl)) dX9_automaton_136 ⟨Nat.le_of_ble_eq_true rfl, Nat.le_of_ble_eq_true rfl⟩) hS (fun q _ h => pu_fr hS hA q h) (pu_fr hS hA) (fun r_178 u t H1 locs ht hvm hw hB hz1 hk1 hS => ?_)
      have hP := pu_keep hP hk1
      clear hk1 hz1 ht hvm
      generalize H1 = H at hP hS ⊢
      obtain ⟨u_179, hu_179, rfl, iu_179⟩ := hw
      refine pu_join (fun H locs ls st => ∃ (g_180 : Nat) (g_181 : Int32), st = [] ∧ g_180 ≤ 6 ∧ va_P (dC, dI) vwCl (mo_w ad ck 0 1 0 (nI x18) g_168 (nI g_169) (nI g_170) g_171 x24 x25 (nI g_180) g_181 0 (nI x29) (nI x30) (nI x33) x45 (nI x46) (nI x52) (nI x53) (nI x61) (nI x62) (nI x63) (nI x65) x66 g_153 g_156 g_157 (bN 3 g_158) (bN 7 g_159) (bN 7 g_160) (bN 4 g_161) g_162 (bN 2 g_163) (bH g_154) g_155 (b2 g_164 m12_1) (b2 g_165 m13_1) (b2 g_166 m14_1) (b2m g_167 m15_1) f17 (bA 159 q31) f32 f34 f35 f36 f37 (bN 7 q38) f39 f40 f41 (b2 m42_0 m42_1) f43 f44 f47 f48 f49 f50 f51 (bN 13 q54) (bN 120 q55) (bN 120 q56) f57 (bN 120 q58) f59 f60 f64) H ∧ va_D A (mo_w ad ck 0 1 0 (nI x18) g_168 (nI g_169) (nI g_170) g_171 x24 x25 (nI g_180) g_181 0 (nI x29) (nI x30) (nI x33) x45 (nI x46) (nI x52) (nI x53) (nI x61) (nI x62) (nI x63) (nI x65) x66 g_153 g_156 g_157 (bN 3 g_158) (bN 7 g_159) (bN 7 g_160) (bN 4 g_161) g_162 (bN 2 g_163) (bH g_154) g_155 (b2 g_164 m12_1) (b2 g_165 m13_1) (b2 g_166 m14_1) (b2m g_167 m15_1) f17 (bA 159 q31) f32 f34 f35 f36 f37 (bN 7 q38) f39 f40 f41 (b2 m42_0 m42_1) f43 f44 f47 f48 f49 f50 f51 (bN 13 q54) (bN 120 q55) (bN 120 q56) f57 (bN 120 q58) f59 f60 f64) ∧ va_S A s.heap H locs ∧ lv_has ls 1 [(0, .ref (ad 0))]) 160 ?_ (fun j_182 => ?_)
      · rintro H locs ls st ⟨g_180, g_181, rfl, hg_180, hP, hD, hS, hl⟩
        refine lv_aload_n hx hb dX9_automaton_160 rfl (lv_at hl 0 rfl) ?_
        refine lv_aload_n hx hb dX9_automaton_161 rfl (lv_at hl 0 rfl) ?_
        refine va_get (D := (dC, dI)) (ci := 9) (v := .int (nI g_180)) (C := RX9) (T := TX9) (N := 67) hx hb hts hiX9 hown hK hP 0 rfl rfl 26 (by decide) v_5 (fun _ h9 => h9) rfl dX9_automaton_162 ?_
        refine va_put (D := (dC, dI)) (ci := 9) (v := .int (nI g_180)) (ty := .int) (C := RX9) (T := TX9) (N := 67) hx hb hts hiX9 tyX9 tyX9_ok nmX9 hown hK hP hD hS 0 rfl rfl 24 (by decide) v_34 (fun _ h9 => h9) rfl (by decide +kernel) rfl rfl (Nat.le_of_ble_eq_true rfl) dX9_automaton_165 (fun H locs hP hD hS => ?_)
        have hP : va_P (dC, dI) vwCl (mo_w ad ck 0 1 0 (nI x18) g_168 (nI g_169) (nI g_170) g_171 (nI g_180) x25 (nI g_180) g_181 0 (nI x29) (nI x30) (nI x33) x45 (nI x46) (nI x52) (nI x53) (nI x61) (nI x62) (nI x63) (nI x65) x66 g_153 g_156 g_157 (bN 3 g_158) (bN 7 g_159) (bN 7 g_160) (bN 4 g_161) g_162 (bN 2 g_163) (bH g_154) g_155 (b2 g_164 m12_1) (b2 g_165 m13_1) (b2 g_166 m14_1) (b2m g_167 m15_1) f17 (bA 159 q31) f32 f34 f35 f36 f37 (bN 7 q38) f39 f40 f41 (b2 m42_0 m42_1) f43 f44 f47 f48 f49 f50 f51 (bN 13 q54) (bN 120 q55) (bN 120 q56) f57 (bN 120 q58) f59 f60 f64) H := hP
        have hD : va_D A (mo_w ad ck 0 1 0 (nI x18) g_168 (nI g_169) (nI g_170) g_171 (nI g_180) x25 (nI g_180) g_181 0 (nI x29) (nI x30) (nI x33) x45 (nI x46) (nI x52) (nI x53) (nI x61) (nI x62) (nI x63) (nI x65) x66 g_153 g_156 g_157 (bN 3 g_158) (bN 7 g_159) (bN 7 g_160) (bN 4 g_161) g_162 (bN 2 g_163) (bH g_154) g_155 (b2 g_164 m12_1) (b2 g_165 m13_1) (b2 g_166 m14_1) (b2m g_167 m15_1) f17 (bA 159 q31) f32 f34 f35 f36 f37 (bN 7 q38) f39 f40 f41 (b2 m42_0 m42_1) f43 f44 f47 f48 f49 f50 f51 (bN 13 q54) (bN 120 q55) (bN 120 q56) f57 (bN 120 q58) f59 f60 f64) := hD
        refine lv_aload_n hx hb dX9_automaton_168 rfl (lv_at hl 0 rfl) ?_
        refine lv_aload_n hx hb dX9_automaton_169 rfl (lv_at hl 0 rfl) ?_
        refine va_get (D := (dC, dI)) (ci := 9) (v := .int (nI g_180)) (C := RX9) (T := TX9) (N := 67) hx hb hts hiX9 hown hK hP 0 rfl rfl 26 (by decide) v_5 (fun _ h9 => h9) rfl dX9_automaton_170 ?_
        refine pu_join (fun H locs ls st => ∃ (g_183 : Int32), st = [.int g_183, .ref (ad 0)] ∧ va_P (dC, dI) vwCl (mo_w ad ck 0 1 0 (nI x18) g_168 (nI g_169) (nI g_170) g_171 (nI g_180) x25 (nI g_180) g_181 0 (nI x29) (nI x30) (nI x33) x45 (nI x46) (nI x52) (nI x53) (nI x61) (nI x62) (nI x63) (nI x65) x66 g_153 g_156 g_157 (bN 3 g_158) (bN 7 g_159) (bN 7 g_160) (bN 4 g_161) g_162 (bN 2 g_163) (bH g_154) g_155 (b2 g_164 m12_1) (b2 g_165 m13_1) (b2 g_166 m14_1) (b2m g_167 m15_1) f17 (bA 159 q31) f32 f34 f35 f36 f37 (bN 7 q38) f39 f40 f41 (b2 m42_0 m42_1) f43 f44 f47 f48 f49 f50 f51 (bN 13 q54) (bN 120 q55) (bN 120 q56) f57 (bN 120 q58) f59 f60 f64) H ∧ va_D A (mo_w ad ck 0 1 0 (nI x18) g_168 (nI g_169) (nI g_170) g_171 (nI g_180) x25 (nI g_180) g_181 0 (nI x29) (nI x30) (nI x33) x45 (nI x46) (nI x52) (nI x53) (nI x61) (nI x62) (nI x63) (nI x65) x66 g_153 g_156 g_157 (bN 3 g_158) (bN 7 g_159) (bN 7 g_160) (bN 4 g_161) g_162 (bN 2 g_163) (bH g_154) g_155 (b2 g_164 m12_1) (b2 g_165 m13_1) (b2 g_166 m14_1) (b2m g_167 m15_1) f17 (bA 159 q31) f32 f34 f35 f36 f37 (bN 7 q38) f39 f40 f41 (b2 m42_0 m42_1) f43 f44 f47 f48 f49 f50 f51 (bN 13 q54) (bN 120 q55) (bN 120 q56) f57 (bN 120 q58) f59 f60 f64) ∧ va_S A s.heap H locs ∧ lv_has ls 1 [(0, .ref (ad 0))]) 184 ?_ (fun j_184 => ?_)
        · rintro H locs ls st ⟨g_183, rfl, hP, hD, hS, hl⟩
          refine va_put (D := (dC, dI)) (ci := 9) (v := .int g_183) (ty := .int) (C := RX9) (T := TX9) (N := 67) hx hb hts hiX9 tyX9 tyX9_ok nmX9 hown hK hP hD hS 0 rfl rfl 25 (by decide) v_36 (fun _ h9 => h9) rfl (by decide +kernel) rfl rfl (Nat.le_of_ble_eq_true rfl) dX9_automaton_184 (fun H locs hP hD hS => ?_)
          have hP : va_P (dC, dI) vwCl (mo_w ad ck 0 1 0 (nI x18) g_168 (nI g_169) (nI g_170) g_171 (nI g_180) g_183 (nI g_180) g_181 0 (nI x29) (nI x30) (nI x33) x45 (nI x46) (nI x52) (nI x53) (nI x61) (nI x62) (nI x63) (nI x65) x66 g_153 g_156 g_157 (bN 3 g_158) (bN 7 g_159) (bN 7 g_160) (bN 4 g_161) g_162 (bN 2 g_163) (bH g_154) g_155 (b2 g_164 m12_1) (b2 g_165 m13_1) (b2 g_166 m14_1) (b2m g_167 m15_1) f17 (bA 159 q31) f32 f34 f35 f36 f37 (bN 7 q38) f39 f40 f41 (b2 m42_0 m42_1) f43 f44 f47 f48 f49 f50 f51 (bN 13 q54) (bN 120 q55) (bN 120 q56) f57 (bN 120 q58) f59 f60 f64) H := hP
          have hD : va_D A (mo_w ad ck 0 1 0 (nI x18) g_168 (nI g_169) (nI g_170) g_171 (nI g_180) g_183 (nI g_180) g_181 0 (nI x29) (nI x30) (nI x33) x45 (nI x46) (nI x52) (nI x53) (nI x61) (nI x62) (nI x63) (nI x65) x66 g_153 g_156 g_157 (bN 3 g_158) (bN 7 g_159) (bN 7 g_160) (bN 4 g_161) g_162 (bN 2 g_163) (bH g_154) g_155 (b2 g_164 m12_1) (b2 g_165 m13_1) (b2 g_166 m14_1) (b2m g_167 m15_1) f17 (bA 159 q31) f32 f34 f35 f36 f37 (bN 7 q38) f39 f40 f41 (b2 m42_0 m42_1) f43 f44 f47 f48 f49 f50 f51 (bN 13 q54) (bN 120 q55) (bN 120 q56) f57 (bN 120 q58) f59 f60 f64) := hD
          refine lv_aload_n hx hb dX9_automaton_187 rfl (lv_at hl 0 rfl) ?_
          refine va_calli (va_runV (As := []) (rest := []) ⟨hx, hb, hml, hown, hts⟩ (c_M_isGood l dC dI _ ad ck 0 1 0 x18 g_168 g_169 g_170 g_171 (nI g_180) g_183 g_180 g_181 0 x29 x30 x33 x45 x46 x52 x53 x61 x62 x63 x65 x66 g_153 g_156 g_157 g_158 g_159 g_160 g_161 g_162 g_163 g_154 g_155 g_164 m12_1 g_165 m13_1 g_166 m14_1 g_167 m15_1 f17 q31 f32 f34 f35 f36 f37 q38 f39 f40 f41 m42_0 m42_1 f43 f44 f47 f48 f49 f50 f51 q54 q55 q56 f57 q58 f59 f60 f64 (Nat.le_of_ble_eq_true rfl) (Nat.le_of_ble_eq_true rfl) hx18 hg_169 hg_170 hg_180 (Nat.le_of_ble_eq_true rfl) hx29 hx30 hx33 hx46 hx52 hx53 hx61 hx62 hx63 hx65 hg_164 hm12_1 hg_165 hm13_1 hg_166 hm14_1 hg_167 hm15_1 hm42_0 hm42_1) (cwV 0 hts g_M_automaton_M_isGood rfl rfl rfl (by decide +kernel) ⟨Nat.le_of_ble_eq_true rfl, Nat.le_of_ble_eq_true rfl⟩) ⟨pu_bl, va_recv hK hP (ci := 9) (q0 := 0) rfl rfl, pu_in hP hK hD⟩ rfl rfl hl.1 rfl (lv_room (Nat.le_of_ble_eq_true rfl)) dX9_automaton_188 ⟨Nat.le_of_ble_eq_true rfl, Nat.le_of_ble_eq_true rfl⟩) hS (fun q _ h => pu_fr hS hA q h) (pu_fr hS hA) (fun r_185 u t H1 locs ht hvm hw hB hz1 hk1 hS => ?_)
          have hP := pu_keep hP hk1
          clear hk1 hz1 ht hvm
          generalize H1 = H at hP hS ⊢
          obtain ⟨u_186, hu_186, rfl, iu_186⟩ := hw
          refine lv_if_ne (tgt := 196) hx hb dX9_automaton_191 (by decide) (fun c_187 => ?_) (fun c_187 => ?_)
          · have c_187 : ¬ u_186 = 0 := fun z => c_187 ((nI_eq (a := u_186) (b := 0) (Nat.lt_of_le_of_lt hu_186 (Nat.le_of_ble_eq_true rfl)) (Nat.le_of_ble_eq_true rfl)).mpr z)
            refine lv_aload_n hx hb dX9_automaton_196 rfl (lv_at hl 0 rfl) ?_
            refine lv_aload_n hx hb dX9_automaton_197 rfl (lv_at hl 0 rfl) ?_
            refine va_get (D := (dC, dI)) (ci := 9) (v := .int 0) (C := RX9) (T := TX9) (N := 67) hx hb hts hiX9 hown hK hP 0 rfl rfl 28 (by decide) v_7 (fun _ h9 => h9) rfl dX9_automaton_198 ?_
            refine va_put (D := (dC, dI)) (ci := 9) (v := .int 0) (ty := .int) (C := RX9) (T := TX9) (N := 67) hx hb hts hiX9 tyX9 tyX9_ok nmX9 hown hK hP hD hS 0 rfl rfl 16 (by decide) v_6 (fun _ h9 => h9) rfl (by decide +kernel) rfl rfl (Nat.le_of_ble_eq_true rfl) dX9_automaton_201 (fun H locs hP hD hS => ?_)
            have hP : va_P (dC, dI) vwCl (mo_w ad ck 0 0 0 (nI x18) g_168 (nI g_169) (nI g_170) g_171 (nI g_180) g_183 (nI g_180) g_181 0 (nI x29) (nI x30) (nI x33) x45 (nI x46) (nI x52) (nI x53) (nI x61) (nI x62) (nI x63) (nI x65) x66 g_153 g_156 g_157 (bN 3 g_158) (bN 7 g_159) (bN 7 g_160) (bN 4 g_161) g_162 (bN 2 g_163) (bH g_154) g_155 (b2 g_164 m12_1) (b2 g_165 m13_1) (b2 g_166 m14_1) (b2m g_167 m15_1) f17 (bA 159 q31) f32 f34 f35 f36 f37 (bN 7 q38) f39 f40 f41 (b2 m42_0 m42_1) f43 f44 f47 f48 f49 f50 f51 (bN 13 q54) (bN 120 q55) (bN 120 q56) f57 (bN 120 q58) f59 f60 f64) H := hP
            have hD : va_D A (mo_w ad ck 0 0 0 (nI x18) g_168 (nI g_169) (nI g_170) g_171 (nI g_180) g_183 (nI g_180) g_181 0 (nI x29) (nI x30) (nI x33) x45 (nI x46) (nI x52) (nI x53) (nI x61) (nI x62) (nI x63) (nI x65) x66 g_153 g_156 g_157 (bN 3 g_158) (bN 7 g_159) (bN 7 g_160) (bN 4 g_161) g_162 (bN 2 g_163) (bH g_154) g_155 (b2 g_164 m12_1) (b2 g_165 m13_1) (b2 g_166 m14_1) (b2m g_167 m15_1) f17 (bA 159 q31) f32 f34 f35 f36 f37 (bN 7 q38) f39 f40 f41 (b2 m42_0 m42_1) f43 f44 f47 f48 f49 f50 f51 (bN 13 q54) (bN 120 q55) (bN 120 q56) f57 (bN 120 q58) f59 f60 f64) := hD
            refine lv_aload_n hx hb dX9_automaton_204 rfl (lv_at hl 0 rfl) ?_
            refine va_get (D := (dC, dI)) (ci := 9) (v := .ref (ad 15)) (C := RX9) (T := TX9) (N := 67) hx hb hts hiX9 hown hK hP 0 rfl rfl 15 (by decide) v_11 (fun _ h9 => h9) rfl dX9_automaton_205 ?_
            refine lv_aload_n hx hb dX9_automaton_208 rfl (lv_at hl 0 rfl) ?_
            refine va_get (D := (dC, dI)) (ci := 9) (v := .int 0) (C := RX9) (T := TX9) (N := 67) hx hb hts hiX9 hown hK hP 0 rfl rfl 16 (by decide) v_6 (fun _ h9 => h9) rfl dX9_automaton_209 ?_
            refine va_iald hx hb hK hP 15 14 rfl rfl (vp_in_nI (n := 0) (Nat.le_of_ble_eq_true rfl) (Nat.le_of_ble_eq_true rfl)) dX9_automaton_212 ?_
            refine lv_topi (fun y_188 ey_188 => ?_)
            have qy_188 := ey_188.trans b2m_0
            clear ey_188
            rcases mI_get g_167 with ⟨zy_188, wy_188⟩ | ⟨vy_188, zy_188, wy_188⟩
            · obtain rfl : y_188 = -1 := qy_188.trans wy_188
              refine lv_if_ge (tgt := 226) hx hb dX9_automaton_213 (by decide) (fun z => absurd z (by decide)) (fun _ => ?_)
              refine lv_aload_n hx hb dX9_automaton_216 rfl (lv_at hl 0 rfl) ?_
              refine va_get (D := (dC, dI)) (ci := 9) (v := .ref (ad 15)) (C := RX9) (T := TX9) (N := 67) hx hb hts hiX9 hown hK hP 0 rfl rfl 15 (by decide) v_11 (fun _ h9 => h9) rfl dX9_automaton_217 ?_
              refine lv_aload_n hx hb dX9_automaton_220 rfl (lv_at hl 0 rfl) ?_
              refine va_get (D := (dC, dI)) (ci := 9) (v := .int 0) (C := RX9) (T := TX9) (N := 67) hx hb hts hiX9 hown hK hP 0 rfl rfl 16 (by decide) v_6 (fun _ h9 => h9) rfl dX9_automaton_221 ?_
              refine lv_iconst (v := 0) hx hb dX9_automaton_224 (by decide) ?_
              refine va_iast hx hb hK hP hD hS 15 14 rfl rfl (vp_in_nI (n := 0) (Nat.le_of_ble_eq_true rfl) (Nat.le_of_ble_eq_true rfl)) dX9_automaton_225 (fun H locs hP hD hS => ?_)
              have hP : va_P (dC, dI) vwCl (mo_w ad ck 0 0 0 (nI x18) g_168 (nI g_169) (nI g_170) g_171 (nI g_180) g_183 (nI g_180) g_181 0 (nI x29) (nI x30) (nI x33) x45 (nI x46) (nI x52) (nI x53) (nI x61) (nI x62) (nI x63) (nI x65) x66 g_153 g_156 g_157 (bN 3 g_158) (bN 7 g_159) (bN 7 g_160) (bN 4 g_161) g_162 (bN 2 g_163) (bH g_154) g_155 (b2 g_164 m12_1) (b2 g_165 m13_1) (b2 g_166 m14_1) (b2m (0 + 1) m15_1) f17 (bA 159 q31) f32 f34 f35 f36 f37 (bN 7 q38) f39 f40 f41 (b2 m42_0 m42_1) f43 f44 f47 f48 f49 f50 f51 (bN 13 q54) (bN 120 q55) (bN 120 q56) f57 (bN 120 q58) f59 f60 f64) H := by rw [← b2m_up0 (a := g_167) (b := m15_1) (v := 0)]; exact hP
              have hD : va_D A (mo_w ad ck 0 0 0 (nI x18) g_168 (nI g_169) (nI g_170) g_171 (nI g_180) g_183 (nI g_180) g_181 0 (nI x29) (nI x30) (nI x33) x45 (nI x46) (nI x52) (nI x53) (nI x61) (nI x62) (nI x63) (nI x65) x66 g_153 g_156 g_157 (bN 3 g_158) (bN 7 g_159) (bN 7 g_160) (bN 4 g_161) g_162 (bN 2 g_163) (bH g_154) g_155 (b2 g_164 m12_1) (b2 g_165 m13_1) (b2 g_166 m14_1) (b2m (0 + 1) m15_1) f17 (bA 159 q31) f32 f34 f35 f36 f37 (bN 7 q38) f39 f40 f41 (b2 m42_0 m42_1) f43 f44 f47 f48 f49 f50 f51 (bN 13 q54) (bN 120 q55) (bN 120 q56) f57 (bN 120 q58) f59 f60 f64) := by rw [← b2m_up0 (a := g_167) (b := m15_1) (v := 0)]; exact hD
              refine lv_aload_n hx hb dX9_automaton_226 rfl (lv_at hl 0 rfl) ?_
              refine lv_iconst (v := 0) hx hb dX9_automaton_227 (by decide) ?_
              refine va_put (D := (dC, dI)) (ci := 9) (v := .int 0) (ty := .int) (C := RX9) (T := TX9) (N := 67) hx hb hts hiX9 tyX9 tyX9_ok nmX9 hown hK hP hD hS 0 rfl rfl 33 (by decide) v_37 (fun _ h9 => h9) rfl (by decide +kernel) rfl rfl (Nat.le_of_ble_eq_true rfl) dX9_automaton_228 (fun H locs hP hD hS => ?_)
              have hP : va_P (dC, dI) vwCl (mo_w ad ck 0 0 0 (nI x18) g_168 (nI g_169) (nI g_170) g_171 (nI g_180) g_183 (nI g_180) g_181 0 (nI x29) (nI x30) 0 x45 (nI x46) (nI x52) (nI x53) (nI x61) (nI x62) (nI x63) (nI x65) x66 g_153 g_156 g_157 (bN 3 g_158) (bN 7 g_159) (bN 7 g_160) (bN 4 g_161) g_162 (bN 2 g_163) (bH g_154) g_155 (b2 g_164 m12_1) (b2 g_165 m13_1) (b2 g_166 m14_1) (b2m (0 + 1) m15_1) f17 (bA 159 q31) f32 f34 f35 f36 f37 (bN 7 q38) f39 f40 f41 (b2 m42_0 m42_1) f43 f44 f47 f48 f49 f50 f51 (bN 13 q54) (bN 120 q55) (bN 120 q56) f57 (bN 120 q58) f59 f60 f64) H := hP
              have hD : va_D A (mo_w ad ck 0 0 0 (nI x18) g_168 (nI g_169) (nI g_170) g_171 (nI g_180) g_183 (nI g_180) g_181 0 (nI x29) (nI x30) 0 x45 (nI x46) (nI x52) (nI x53) (nI x61) (nI x62) (nI x63) (nI x65) x66 g_153 g_156 g_157 (bN 3 g_158) (bN 7 g_159) (bN 7 g_160) (bN 4 g_161) g_162 (bN 2 g_163) (bH g_154) g_155 (b2 g_164 m12_1) (b2 g_165 m13_1) (b2 g_166 m14_1) (b2m (0 + 1) m15_1) f17 (bA 159 q31) f32 f34 f35 f36 f37 (bN 7 q38) f39 f40 f41 (b2 m42_0 m42_1) f43 f44 f47 f48 f49 f50 f51 (bN 13 q54) (bN 120 q55) (bN 120 q56) f57 (bN 120 q58) f59 f60 f64) := hD
              refine lv_aload_n hx hb dX9_automaton_231 rfl (lv_at hl 0 rfl) ?_
              have hFc := pu_free hD hS hA
              refine va_callv (va_runV (As := []) (rest := []) ⟨hx, hb, hml, hown, hts⟩ (c_M_another l dC dI _ ad ck 0 0 0 x18 g_168 g_169 g_170 g_171 (nI g_180) g_183 g_180 g_181 0 x29 x30 0 x45 x46 x52 x53 x61 x62 x63 x65 x66 g_153 g_156 g_157 g_158 g_159 g_160 g_161 g_162 g_163 g_154 g_155 g_164 m12_1 g_165 m13_1 g_166 m14_1 (0 + 1) m15_1 f17 q31 f32 f34 f35 f36 f37 q38 f39 f40 f41 m42_0 m42_1 f43 f44 f47 f48 f49 f50 f51 q54 q55 q56 f57 q58 f59 f60 f64 (Nat.le_of_ble_eq_true rfl) (Nat.le_of_ble_eq_true rfl) hx18 hg_169 hg_170 hg_180 (Nat.le_of_ble_eq_true rfl) hx29 hx30 (Nat.le_of_ble_eq_true rfl) hx46 hx52 hx53 hx61 hx62 hx63 hx65 hg_164 hm12_1 hg_165 hm13_1 hg_166 hm14_1 (by omega) hm15_1 hm42_0 hm42_1) (cwV 0 hts g_M_automaton_M_another rfl rfl rfl (by decide +kernel) ⟨Nat.le_of_ble_eq_true rfl, Nat.le_of_ble_eq_true rfl⟩) ⟨pu_bl, va_recv hK hP (ci := 9) (q0 := 0) rfl rfl, pu_in hP hK hD⟩ rfl rfl hl.1 rfl (lv_room (Nat.le_of_ble_eq_true rfl)) dX9_automaton_232 ⟨Nat.le_of_ble_eq_true rfl, Nat.le_of_ble_eq_true rfl⟩) hS (fun q _ h => hFc q h) hFc (fun u t H1 locs ht hvm hw hB hz1 hk1 hS => ?_)
              obtain ⟨z29_190, z30_191, ⟨hP1, -, hD1⟩, hz29_190, hz30_191⟩ := hB
              rw [ht] at hP1
              have hP := hP1
              have hD := pu_all hFc hD1
              clear hP1 hD1 hFc
              clear hk1 hz1 ht hvm
              generalize H1 = H at hP hS ⊢
              refine lv_aload_n hx hb dX9_automaton_235 rfl (lv_at hl 0 rfl) ?_
              refine va_get (D := (dC, dI)) (ci := 9) (v := .ref (ad 13)) (C := RX9) (T := TX9) (N := 67) hx hb hts hiX9 hown hK hP 0 rfl rfl 13 (by decide) v_9 (fun _ h9 => h9) rfl dX9_automaton_236 ?_
              refine lv_aload_n hx hb dX9_automaton_239 rfl (lv_at hl 0 rfl) ?_
              refine va_get (D := (dC, dI)) (ci := 9) (v := .int 0) (C := RX9) (T := TX9) (N := 67) hx hb hts hiX9 hown hK hP 0 rfl rfl 16 (by decide) v_6 (fun _ h9 => h9) rfl dX9_automaton_240 ?_
              refine va_iald hx hb hK hP 13 12 rfl rfl (vp_in_nI (n := 0) (Nat.le_of_ble_eq_true rfl) (Nat.le_of_ble_eq_true rfl)) dX9_automaton_243 ?_
              refine lv_topi (fun y_192 ey_192 => ?_)
              have qy_192 := ey_192.trans b2_0
              clear ey_192
              obtain rfl : y_192 = nI g_165 := qy_192
              exact W.iret (v := (nI g_165)) hx hb hr (fun t ht hW => ⟨⟨(nI g_165), (), rfl, trivial, ⟨g_153, g_154, g_155, g_156, g_157, g_158, g_159, g_160, g_161, g_162, g_163, g_164, m12_1, g_165, m13_1, g_166, m14_1, (0 + 1), m15_1, 0, 0, x18, g_168, g_169, g_170, g_171, (nI g_180), g_183, g_180, g_181, 0, z29_190, z30_191, 0, ⟨by rw [ht]; exact hP, va_K.moved hW.alike hK, hD⟩, hg_164, hm12_1, hg_165, hm13_1, hg_166, hm14_1, (by omega), hm15_1, (Nat.le_of_ble_eq_true rfl), hx18, hg_169, hg_170, hg_180, (Nat.le_of_ble_eq_true rfl), hz29_190, hz30_191, (Nat.le_of_ble_eq_true rfl), by omega⟩⟩, hS.F ht⟩) hS.2.2 dX9_automaton_244
            · obtain rfl : y_188 = nI vy_188 := qy_188.trans wy_188
              refine lv_if_ge (tgt := 226) hx hb dX9_automaton_213 (by decide) (fun c_193 => ?_) (fun c_193 => ?_)
              · have c_193 : 0 ≤ vy_188 := (nI_leI (a := 0) (b := vy_188) (Nat.le_of_ble_eq_true rfl) (by omega)).mp c_193
                refine lv_aload_n hx hb dX9_automaton_226 rfl (lv_at hl 0 rfl) ?_
                refine lv_iconst (v := 0) hx hb dX9_automaton_227 (by decide) ?_
                refine va_put (D := (dC, dI)) (ci := 9) (v := .int 0) (ty := .int) (C := RX9) (T := TX9) (N := 67) hx hb hts hiX9 tyX9 tyX9_ok nmX9 hown hK hP hD hS 0 rfl rfl 33 (by decide) v_37 (fun _ h9 => h9) rfl (by decide +kernel) rfl rfl (Nat.le_of_ble_eq_true rfl) dX9_automaton_228 (fun H locs hP hD hS => ?_)
                have hP : va_P (dC, dI) vwCl (mo_w ad ck 0 0 0 (nI x18) g_168 (nI g_169) (nI g_170) g_171 (nI g_180) g_183 (nI g_180) g_181 0 (nI x29) (nI x30) 0 x45 (nI x46) (nI x52) (nI x53) (nI x61) (nI x62) (nI x63) (nI x65) x66 g_153 g_156 g_157 (bN 3 g_158) (bN 7 g_159) (bN 7 g_160) (bN 4 g_161) g_162 (bN 2 g_163) (bH g_154) g_155 (b2 g_164 m12_1) (b2 g_165 m13_1) (b2 g_166 m14_1) (b2m g_167 m15_1) f17 (bA 159 q31) f32 f34 f35 f36 f37 (bN 7 q38) f39 f40 f41 (b2 m42_0 m42_1) f43 f44 f47 f48 f49 f50 f51 (bN 13 q54) (bN 120 q55) (bN 120 q56) f57 (bN 120 q58) f59 f60 f64) H := hP
                have hD : va_D A (mo_w ad ck 0 0 0 (nI x18) g_168 (nI g_169) (nI g_170) g_171 (nI g_180) g_183 (nI g_180) g_181 0 (nI x29) (nI x30) 0 x45 (nI x46) (nI x52) (nI x53) (nI x61) (nI x62) (nI x63) (nI x65) x66 g_153 g_156 g_157 (bN 3 g_158) (bN 7 g_159) (bN 7 g_160) (bN 4 g_161) g_162 (bN 2 g_163) (bH g_154) g_155 (b2 g_164 m12_1) (b2 g_165 m13_1) (b2 g_166 m14_1) (b2m g_167 m15_1) f17 (bA 159 q31) f32 f34 f35 f36 f37 (bN 7 q38) f39 f40 f41 (b2 m42_0 m42_1) f43 f44 f47 f48 f49 f50 f51 (bN 13 q54) (bN 120 q55) (bN 120 q56) f57 (bN 120 q58) f59 f60 f64) := hD
                refine lv_aload_n hx hb dX9_automaton_231 rfl (lv_at hl 0 rfl) ?_
                have hFc := pu_free hD hS hA
                refine va_callv (va_runV (As := []) (rest := []) ⟨hx, hb, hml, hown, hts⟩ (c_M_another l dC dI _ ad ck 0 0 0 x18 g_168 g_169 g_170 g_171 (nI g_180) g_183 g_180 g_181 0 x29 x30 0 x45 x46 x52 x53 x61 x62 x63 x65 x66 g_153 g_156 g_157 g_158 g_159 g_160 g_161 g_162 g_163 g_154 g_155 g_164 m12_1 g_165 m13_1 g_166 m14_1 g_167 m15_1 f17 q31 f32 f34 f35 f36 f37 q38 f39 f40 f41 m42_0 m42_1 f43 f44 f47 f48 f49 f50 f51 q54 q55 q56 f57 q58 f59 f60 f64 (Nat.le_of_ble_eq_true rfl) (Nat.le_of_ble_eq_true rfl) hx18 hg_169 hg_170 hg_180 (Nat.le_of_ble_eq_true rfl) hx29 hx30 (Nat.le_of_ble_eq_true rfl) hx46 hx52 hx53 hx61 hx62 hx63 hx65 hg_164 hm12_1 hg_165 hm13_1 hg_166 hm14_1 hg_167 hm15_1 hm42_0 hm42_1) (cwV 0 hts g_M_automaton_M_another rfl rfl rfl (by decide +kernel) ⟨Nat.le_of_ble_eq_true rfl, Nat.le_of_ble_eq_true rfl⟩) ⟨pu_bl, va_recv hK hP (ci := 9) (q0 := 0) rfl rfl, pu_in hP hK hD⟩ rfl rfl hl.1 rfl (lv_room (Nat.le_of_ble_eq_true rfl)) dX9_automaton_232 ⟨Nat.le_of_ble_eq_true rfl, Nat.le_of_ble_eq_true rfl⟩) hS (fun q _ h => hFc q h) hFc (fun u t H1 locs ht hvm hw hB hz1 hk1 hS => ?_)
                obtain ⟨z29_195, z30_196, ⟨hP1, -, hD1⟩, hz29_195, hz30_196⟩ := hB
                rw [ht] at hP1
                have hP := hP1
                have hD := pu_all hFc hD1
                clear hP1 hD1 hFc
                clear hk1 hz1 ht hvm
                generalize H1 = H at hP hS ⊢
                refine lv_aload_n hx hb dX9_automaton_235 rfl (lv_at hl 0 rfl) ?_
                refine va_get (D := (dC, dI)) (ci := 9) (v := .ref (ad 13)) (C := RX9) (T := TX9) (N := 67) hx hb hts hiX9 hown hK hP 0 rfl rfl 13 (by decide) v_9 (fun _ h9 => h9) rfl dX9_automaton_236 ?_
                refine lv_aload_n hx hb dX9_automaton_239 rfl (lv_at hl 0 rfl) ?_
                refine va_get (D := (dC, dI)) (ci := 9) (v := .int 0) (C := RX9) (T := TX9) (N := 67) hx hb hts hiX9 hown hK hP 0 rfl rfl 16 (by decide) v_6 (fun _ h9 => h9) rfl dX9_automaton_240 ?_
                refine va_iald hx hb hK hP 13 12 rfl rfl (vp_in_nI (n := 0) (Nat.le_of_ble_eq_true rfl) (Nat.le_of_ble_eq_true rfl)) dX9_automaton_243 ?_
                refine lv_topi (fun y_197 ey_197 => ?_)
                have qy_197 := ey_197.trans b2_0
                clear ey_197
                obtain rfl : y_197 = nI g_165 := qy_197
                exact W.iret (v := (nI g_165)) hx hb hr (fun t ht hW => ⟨⟨(nI g_165), (), rfl, trivial, ⟨g_153, g_154, g_155, g_156, g_157, g_158, g_159, g_160, g_161, g_162, g_163, g_164, m12_1, g_165, m13_1, g_166, m14_1, g_167, m15_1, 0, 0, x18, g_168, g_169, g_170, g_171, (nI g_180), g_183, g_180, g_181, 0, z29_195, z30_196, 0, ⟨by rw [ht]; exact hP, va_K.moved hW.alike hK, hD⟩, hg_164, hm12_1, hg_165, hm13_1, hg_166, hm14_1, hg_167, hm15_1, (Nat.le_of_ble_eq_true rfl), hx18, hg_169, hg_170, hg_180, (Nat.le_of_ble_eq_true rfl), hz29_195, hz30_196, (Nat.le_of_ble_eq_true rfl), by omega⟩⟩, hS.F ht⟩) hS.2.2 dX9_automaton_244
              · have c_193 : ¬ 0 ≤ vy_188 := fun z => c_193 ((nI_leI (a := 0) (b := vy_188) (Nat.le_of_ble_eq_true rfl) (by omega)).mpr z)
                exfalso
                omega
          · have c_187 : u_186 = 0 := (nI_eq (a := u_186) (b := 0) (Nat.lt_of_le_of_lt hu_186 (Nat.le_of_ble_eq_true rfl)) (Nat.le_of_ble_eq_true rfl)).mp c_187
            refine lv_iconst (v := (-1)) hx hb dX9_automaton_194 (by decide) ?_
            exact W.iret (v := (-1)) hx hb hr (fun t ht hW => ⟨⟨(-1), (), rfl, trivial, ⟨g_153, g_154, g_155, g_156, g_157, g_158, g_159, g_160, g_161, g_162, g_163, g_164, m12_1, g_165, m13_1, g_166, m14_1, g_167, m15_1, 0, 1, x18, g_168, g_169, g_170, g_171, (nI g_180), g_183, g_180, g_181, 0, x29, x30, x33, ⟨by rw [ht]; exact hP, va_K.moved hW.alike hK, hD⟩, hg_164, hm12_1, hg_165, hm13_1, hg_166, hm14_1, hg_167, hm15_1, (Nat.le_of_ble_eq_true rfl), hx18, hg_169, hg_170, hg_180, (Nat.le_of_ble_eq_true rfl), hx29, hx30, hx33, by omega⟩⟩, hS.F ht⟩) hS.2.2 dX9_automaton_195
        refine lv_if_ne (tgt := 180) hx hb dX9_automaton_173 (by decide) (fun c_198 => ?_) (fun c_198 => ?_)
        · have c_198 : ¬ g_180 = 0 := fun z => c_198 ((nI_eq (a := g_180) (b := 0) (Nat.lt_of_le_of_lt hg_180 (Nat.le_of_ble_eq_true rfl)) (Nat.le_of_ble_eq_true rfl)).mpr z)
          refine lv_aload_n hx hb dX9_automaton_180 rfl (lv_at hl 0 rfl) ?_
          refine va_get (D := (dC, dI)) (ci := 9) (v := .int g_181) (C := RX9) (T := TX9) (N := 67) hx hb hts hiX9 hown hK hP 0 rfl rfl 27 (by decide) v_35 (fun _ h9 => h9) rfl dX9_automaton_181 ?_
          exact j_184 _ _ _ _ ⟨g_181, rfl, hP, hD, hS, lv_sub hl [0] rfl⟩
        · have c_198 : g_180 = 0 := (nI_eq (a := g_180) (b := 0) (Nat.lt_of_le_of_lt hg_180 (Nat.le_of_ble_eq_true rfl)) (Nat.le_of_ble_eq_true rfl)).mp c_198
          refine lv_iconst (v := (-1)) hx hb dX9_automaton_176 (by decide) ?_
          refine lv_goto (tgt := 184) hx hb dX9_automaton_177 (by decide) ?_
          exact j_184 _ _ _ _ ⟨(-1), rfl, hP, hD, hS, lv_sub hl [0] rfl⟩
      refine lv_if_eq (tgt := 160) hx hb dX9_automaton_139 (by decide) (fun c_199 => ?_) (fun c_199 => ?_)
      · have c_199 : u_179 = 0 := (nI_eq (a := u_179) (b := 0) (Nat.lt_of_le_of_lt hu_179 (Nat.le_of_ble_eq_true rfl)) (Nat.le_of_ble_eq_true rfl)).mp c_199
        exact j_182 _ _ _ _ ⟨g_172, g_173, rfl, hg_172, hP, hD, hS, lv_sub hl [0] rfl⟩
      · have c_199 : ¬ u_179 = 0 := fun z => c_199 ((nI_eq (a := u_179) (b := 0) (Nat.lt_of_le_of_lt hu_179 (Nat.le_of_ble_eq_true rfl)) (Nat.le_of_ble_eq_true rfl)).mpr z)
        refine lv_aload_n hx hb dX9_automaton_142 rfl (lv_at hl 0 rfl) ?_
        refine va_get (D := (dC, dI)) (ci := 9) (v := .ref (ad 13)) (C := RX9) (T := TX9) (N := 67) hx hb hts hiX9 hown hK hP 0 rfl rfl 13 (by decide) v_9 (fun _ h9 => h9) rfl dX9_automaton_143 ?_
        refine lv_aload_n hx hb dX9_automaton_146 rfl (lv_at hl 0 rfl) ?_
        refine va_get (D := (dC, dI)) (ci := 9) (v := .int 0) (C := RX9) (T := TX9) (N := 67) hx hb hts hiX9 hown hK hP 0 rfl rfl 28 (by decide) v_7 (fun _ h9 => h9) rfl dX9_automaton_147 ?_
        refine va_iald hx hb hK hP 13 12 rfl rfl (vp_in_nI (n := 0) (Nat.le_of_ble_eq_true rfl) (Nat.le_of_ble_eq_true rfl)) dX9_automaton_150 ?_
        refine lv_topi (fun y_200 ey_200 => ?_)
        have qy_200 := ey_200.trans b2_0
        clear ey_200
        obtain rfl : y_200 = nI g_165 := qy_200
        refine lv_if_ne (tgt := 160) hx hb dX9_automaton_151 (by decide) (fun c_201 => ?_) (fun c_201 => ?_)
        · have c_201 : ¬ g_165 = 0 := fun z => c_201 ((nI_eq (a := g_165) (b := 0) (Nat.lt_of_le_of_lt hg_165 (Nat.le_of_ble_eq_true rfl)) (Nat.le_of_ble_eq_true rfl)).mpr z)
          exact j_182 _ _ _ _ ⟨g_172, g_173, rfl, hg_172, hP, hD, hS, lv_sub hl [0] rfl⟩
        · have c_201 : g_165 = 0 := (nI_eq (a := g_165) (b := 0) (Nat.lt_of_le_of_lt hg_165 (Nat.le_of_ble_eq_true rfl)) (Nat.le_of_ble_eq_true rfl)).mp c_201
          refine lv_aload_n hx hb dX9_automaton_154 rfl (lv_at hl 0 rfl) ?_
          refine lv_bipush (v := 6) hx hb dX9_automaton_155 (by decide) ?_
          have hFc := pu_free hD hS hA
          refine va_callv (va_runV (As := [.int 6]) (rest := []) ⟨hx, hb, hml, hown, hts⟩ (c_M_fails l dC dI _ ad ck 0 1 0 x18 g_168 g_169 g_170 g_171 x24 x25 g_172 g_173 0 x29 x30 x33 x45 x46 x52 x53 x61 x62 x63 x65 x66 g_153 g_156 g_157 g_158 g_159 g_160 g_161 g_162 g_163 g_154 g_155 g_164 m12_1 g_165 m13_1 g_166 m14_1 g_167 m15_1 f17 q31 f32 f34 f35 f36 f37 q38 f39 f40 f41 m42_0 m42_1 f43 f44 f47 f48 f49 f50 f51 q54 q55 q56 f57 q58 f59 f60 f64 6 (Nat.le_of_ble_eq_true rfl) (Nat.le_of_ble_eq_true rfl) hx18 hg_169 hg_170 hg_172 (Nat.le_of_ble_eq_true rfl) hx29 hx30 hx33 hx46 hx52 hx53 hx61 hx62 hx63 hx65 hg_164 hm12_1 hg_165 hm13_1 hg_166 hm14_1 hg_167 hm15_1 hm42_0 hm42_1 (Nat.le_of_ble_eq_true rfl) (by omega)) (cwV 1 hts g_M_automaton_M_fails rfl rfl rfl (by decide +kernel) ⟨Nat.le_of_ble_eq_true rfl, Nat.le_of_ble_eq_true rfl⟩) ⟨pu_bl, va_recv hK hP (ci := 9) (q0 := 0) rfl rfl, pu_in hP hK hD⟩ rfl rfl hl.1 rfl (lv_room (Nat.le_of_ble_eq_true rfl)) dX9_automaton_157 ⟨Nat.le_of_ble_eq_true rfl, Nat.le_of_ble_eq_true rfl⟩) hS (fun q _ h => hFc q h) hFc (fun u t H1 locs ht hvm hw hB hz1 hk1 hS => ?_)
          obtain ⟨z26_203, z27_204, ⟨hP1, -, hD1⟩, hz26_203, xr_202_0⟩ := hB
          rw [ht] at hP1
          have hP := hP1
          have hD := pu_all hFc hD1
          clear hP1 hD1 hFc
          clear hk1 hz1 ht hvm
          generalize H1 = H at hP hS ⊢
          exact j_182 _ _ _ _ ⟨z26_203, z27_204, rfl, hz26_203, hP, hD, hS, lv_sub hl [0] rfl⟩
    refine lv_if_eq (tgt := 135) hx hb dX9_automaton_86 (by decide) (fun c_205 => ?_) (fun c_205 => ?_)
    · have c_205 : u_176 = 0 := (nI_eq (a := u_176) (b := 0) (Nat.lt_of_le_of_lt hu_176 (Nat.le_of_ble_eq_true rfl)) (Nat.le_of_ble_eq_true rfl)).mp c_205
      exact j_177 _ _ _ _ ⟨rfl, hP, hD, hS, lv_sub hl [0] rfl⟩
    · have c_205 : ¬ u_176 = 0 := fun z => c_205 ((nI_eq (a := u_176) (b := 0) (Nat.lt_of_le_of_lt hu_176 (Nat.le_of_ble_eq_true rfl)) (Nat.le_of_ble_eq_true rfl)).mpr z)
      refine lv_aload_n hx hb dX9_automaton_89 rfl (lv_at hl 0 rfl) ?_
      refine va_get (D := (dC, dI)) (ci := 9) (v := .int (nI g_170)) (C := RX9) (T := TX9) (N := 67) hx hb hts hiX9 hown hK hP 0 rfl rfl 22 (by decide) v_21 (fun _ h9 => h9) rfl dX9_automaton_90 ?_
      refine lv_if_eq (tgt := 135) hx hb dX9_automaton_93 (by decide) (fun c_206 => ?_) (fun c_206 => ?_)
      · have c_206 : g_170 = 0 := (nI_eq (a := g_170) (b := 0) (Nat.lt_of_le_of_lt hg_170 (Nat.le_of_ble_eq_true rfl)) (Nat.le_of_ble_eq_true rfl)).mp c_206
        exact j_177 _ _ _ _ ⟨rfl, hP, hD, hS, lv_sub hl [0] rfl⟩
      · have c_206 : ¬ g_170 = 0 := fun z => c_206 ((nI_eq (a := g_170) (b := 0) (Nat.lt_of_le_of_lt hg_170 (Nat.le_of_ble_eq_true rfl)) (Nat.le_of_ble_eq_true rfl)).mpr z)
        refine lv_aload_n hx hb dX9_automaton_96 rfl (lv_at hl 0 rfl) ?_
        have hFc := pu_free hD hS hA
        refine va_callv (va_runV (As := []) (rest := []) ⟨hx, hb, hml, hown, hts⟩ (c_M_readLine_0 l dC dI _ ad ck 0 1 0 x18 g_168 g_169 g_170 g_171 x24 x25 g_172 g_173 x29 x30 x33 x45 x46 x52 x53 x61 x62 x63 x65 x66 g_153 g_156 g_157 g_158 g_159 g_160 g_161 g_162 g_163 g_154 g_155 g_164 m12_1 g_165 m13_1 g_166 m14_1 g_167 m15_1 f17 q31 f32 f34 f35 f36 f37 q38 f39 f40 f41 m42_0 m42_1 f43 f44 f47 f48 f49 f50 f51 q54 q55 q56 f57 q58 f59 f60 f64 (Nat.le_of_ble_eq_true rfl) (Nat.le_of_ble_eq_true rfl) hx18 hg_169 hg_170 hg_172 hx29 hx30 hx33 hx46 hx52 hx53 hx61 hx62 hx63 hx65 hg_164 hm12_1 hg_165 hm13_1 hg_166 hm14_1 hg_167 hm15_1 hm42_0 hm42_1) (cwV 0 hts g_M_automaton_M_readLine_0 rfl rfl rfl (by decide +kernel) ⟨Nat.le_of_ble_eq_true rfl, Nat.le_of_ble_eq_true rfl⟩) ⟨pu_bl, va_recv hK hP (ci := 9) (q0 := 0) rfl rfl, pu_in hP hK hD⟩ rfl rfl hl.1 rfl (lv_room (Nat.le_of_ble_eq_true rfl)) dX9_automaton_97 ⟨Nat.le_of_ble_eq_true rfl, Nat.le_of_ble_eq_true rfl⟩) hS (fun q _ h => hFc q h) hFc (fun u t H1 locs ht hvm hw hB hz1 hk1 hS => ?_)
        obtain ⟨z1_208, z10_209, z11_210, z2_211, z3_212, z4_213, z5_214, z6_215, z7_216, z8_217, z9_218, z12_0_219, z13_0_220, z14_0_221, z15_0_222, z20_223, z21_224, z22_225, z23_226, z26_227, z27_228, ⟨hP1, -, hD1⟩, hz12_0_219, hz13_0_220, hz14_0_221, hz15_0_222, hz21_224, hz22_225, hz26_227, xr_207_0, xr_207_1⟩ := hB
        rw [ht] at hP1
        have hP := hP1
        have hD := pu_all hFc hD1
        clear hP1 hD1 hFc
        clear hk1 hz1 ht hvm
        generalize H1 = H at hP hS ⊢
        refine lv_aload_n hx hb dX9_automaton_100 rfl (lv_at hl 0 rfl) ?_
        refine va_calli (va_runV (As := []) (rest := []) ⟨hx, hb, hml, hown, hts⟩ (c_M_isGood l dC dI _ ad ck 0 1 0 x18 z20_223 z21_224 z22_225 z23_226 x24 x25 z26_227 z27_228 0 x29 x30 x33 x45 x46 x52 x53 x61 x62 x63 x65 x66 z1_208 z2_211 z3_212 z4_213 z5_214 z6_215 z7_216 z8_217 z9_218 z10_209 z11_210 z12_0_219 m12_1 z13_0_220 m13_1 z14_0_221 m14_1 z15_0_222 m15_1 f17 q31 f32 f34 f35 f36 f37 q38 f39 f40 f41 m42_0 m42_1 f43 f44 f47 f48 f49 f50 f51 q54 q55 q56 f57 q58 f59 f60 f64 (Nat.le_of_ble_eq_true rfl) (Nat.le_of_ble_eq_true rfl) hx18 hz21_224 hz22_225 hz26_227 (Nat.le_of_ble_eq_true rfl) hx29 hx30 hx33 hx46 hx52 hx53 hx61 hx62 hx63 hx65 hz12_0_219 hm12_1 hz13_0_220 hm13_1 hz14_0_221 hm14_1 hz15_0_222 hm15_1 hm42_0 hm42_1) (cwV 0 hts g_M_automaton_M_isGood rfl rfl rfl (by decide +kernel) ⟨Nat.le_of_ble_eq_true rfl, Nat.le_of_ble_eq_true rfl⟩) ⟨pu_bl, va_recv hK hP (ci := 9) (q0 := 0) rfl rfl, pu_in hP hK hD⟩ rfl rfl hl.1 rfl (lv_room (Nat.le_of_ble_eq_true rfl)) dX9_automaton_101 ⟨Nat.le_of_ble_eq_true rfl, Nat.le_of_ble_eq_true rfl⟩) hS (fun q _ h => pu_fr hS hA q h) (pu_fr hS hA) (fun r_229 u t H1 locs ht hvm hw hB hz1 hk1 hS => ?_)
        have hP := pu_keep hP hk1
        clear hk1 hz1 ht hvm
        generalize H1 = H at hP hS ⊢
        obtain ⟨u_230, hu_230, rfl, iu_230⟩ := hw
        refine pu_join (fun H locs ls st => ∃ (g_231 : Nat) (g_232 : Int32), st = [] ∧ g_231 ≤ 6 ∧ (g_231 ≠ 0 ∨ mu z21_224 z22_225 < mu g_169 g_170) ∧ mu z21_224 z22_225 ≤ mu g_169 g_170 ∧ va_P (dC, dI) vwCl (mo_w ad ck 0 1 0 (nI x18) z20_223 (nI z21_224) (nI z22_225) z23_226 x24 x25 (nI g_231) g_232 0 (nI x29) (nI x30) (nI x33) x45 (nI x46) (nI x52) (nI x53) (nI x61) (nI x62) (nI x63) (nI x65) x66 z1_208 z2_211 z3_212 (bN 3 z4_213) (bN 7 z5_214) (bN 7 z6_215) (bN 4 z7_216) z8_217 (bN 2 z9_218) (bH z10_209) z11_210 (b2 z12_0_219 m12_1) (b2 z13_0_220 m13_1) (b2 z14_0_221 m14_1) (b2m z15_0_222 m15_1) f17 (bA 159 q31) f32 f34 f35 f36 f37 (bN 7 q38) f39 f40 f41 (b2 m42_0 m42_1) f43 f44 f47 f48 f49 f50 f51 (bN 13 q54) (bN 120 q55) (bN 120 q56) f57 (bN 120 q58) f59 f60 f64) H ∧ va_D A (mo_w ad ck 0 1 0 (nI x18) z20_223 (nI z21_224) (nI z22_225) z23_226 x24 x25 (nI g_231) g_232 0 (nI x29) (nI x30) (nI x33) x45 (nI x46) (nI x52) (nI x53) (nI x61) (nI x62) (nI x63) (nI x65) x66 z1_208 z2_211 z3_212 (bN 3 z4_213) (bN 7 z5_214) (bN 7 z6_215) (bN 4 z7_216) z8_217 (bN 2 z9_218) (bH z10_209) z11_210 (b2 z12_0_219 m12_1) (b2 z13_0_220 m13_1) (b2 z14_0_221 m14_1) (b2m z15_0_222 m15_1) f17 (bA 159 q31) f32 f34 f35 f36 f37 (bN 7 q38) f39 f40 f41 (b2 m42_0 m42_1) f43 f44 f47 f48 f49 f50 f51 (bN 13 q54) (bN 120 q55) (bN 120 q56) f57 (bN 120 q58) f59 f60 f64) ∧ va_S A s.heap H locs ∧ lv_has ls 1 [(0, .ref (ad 0))]) 121 ?_ (fun j_235 => ?_)
        · rintro H locs ls st ⟨g_231, g_232, rfl, hg_231, he_233, he_234, hP, hD, hS, hl⟩
          refine lv_aload_n hx hb dX9_automaton_121 rfl (lv_at hl 0 rfl) ?_
          refine va_calli (va_runV (As := []) (rest := []) ⟨hx, hb, hml, hown, hts⟩ (c_M_isGood l dC dI _ ad ck 0 1 0 x18 z20_223 z21_224 z22_225 z23_226 x24 x25 g_231 g_232 0 x29 x30 x33 x45 x46 x52 x53 x61 x62 x63 x65 x66 z1_208 z2_211 z3_212 z4_213 z5_214 z6_215 z7_216 z8_217 z9_218 z10_209 z11_210 z12_0_219 m12_1 z13_0_220 m13_1 z14_0_221 m14_1 z15_0_222 m15_1 f17 q31 f32 f34 f35 f36 f37 q38 f39 f40 f41 m42_0 m42_1 f43 f44 f47 f48 f49 f50 f51 q54 q55 q56 f57 q58 f59 f60 f64 (Nat.le_of_ble_eq_true rfl) (Nat.le_of_ble_eq_true rfl) hx18 hz21_224 hz22_225 hg_231 (Nat.le_of_ble_eq_true rfl) hx29 hx30 hx33 hx46 hx52 hx53 hx61 hx62 hx63 hx65 hz12_0_219 hm12_1 hz13_0_220 hm13_1 hz14_0_221 hm14_1 hz15_0_222 hm15_1 hm42_0 hm42_1) (cwV 0 hts g_M_automaton_M_isGood rfl rfl rfl (by decide +kernel) ⟨Nat.le_of_ble_eq_true rfl, Nat.le_of_ble_eq_true rfl⟩) ⟨pu_bl, va_recv hK hP (ci := 9) (q0 := 0) rfl rfl, pu_in hP hK hD⟩ rfl rfl hl.1 rfl (lv_room (Nat.le_of_ble_eq_true rfl)) dX9_automaton_122 ⟨Nat.le_of_ble_eq_true rfl, Nat.le_of_ble_eq_true rfl⟩) hS (fun q _ h => pu_fr hS hA q h) (pu_fr hS hA) (fun r_236 u t H1 locs ht hvm hw hB hz1 hk1 hS => ?_)
          have hP := pu_keep hP hk1
          clear hk1 hz1 ht hvm
          generalize H1 = H at hP hS ⊢
          obtain ⟨u_237, hu_237, rfl, iu_237⟩ := hw
          refine lv_if_eq (tgt := 82) hx hb dX9_automaton_125 (by decide) (fun c_238 => ?_) (fun c_238 => ?_)
          · have c_238 : u_237 = 0 := (nI_eq (a := u_237) (b := 0) (Nat.lt_of_le_of_lt hu_237 (Nat.le_of_ble_eq_true rfl)) (Nat.le_of_ble_eq_true rfl)).mp c_238
            exact ih_174 (2 * mu z21_224 z22_225 + (1 - g_231)) (by omega) _ _ _ ⟨z1_208, z10_209, z11_210, z2_211, z3_212, z4_213, z5_214, z6_215, z7_216, z8_217, z9_218, z12_0_219, z13_0_220, z14_0_221, z15_0_222, z20_223, z21_224, z22_225, z23_226, g_231, g_232, rfl, hz12_0_219, hz13_0_220, hz14_0_221, hz15_0_222, hz21_224, hz22_225, hg_231, hP, hD, hS, lv_sub hl [0] rfl⟩
          · have c_238 : ¬ u_237 = 0 := fun z => c_238 ((nI_eq (a := u_237) (b := 0) (Nat.lt_of_le_of_lt hu_237 (Nat.le_of_ble_eq_true rfl)) (Nat.le_of_ble_eq_true rfl)).mpr z)
            refine lv_aload_n hx hb dX9_automaton_128 rfl (lv_at hl 0 rfl) ?_
            have hFc := pu_free hD hS hA
            refine va_callv (va_runV (As := []) (rest := []) ⟨hx, hb, hml, hown, hts⟩ (c_M_next l dC dI _ ad ck 0 1 0 x18 z20_223 z21_224 z22_225 z23_226 x24 x25 g_231 g_232 0 x29 x30 x33 x45 x46 x52 x53 x61 x62 x63 x65 x66 z1_208 z2_211 z3_212 z4_213 z5_214 z6_215 z7_216 z8_217 z9_218 z10_209 z11_210 z12_0_219 m12_1 z13_0_220 m13_1 z14_0_221 m14_1 z15_0_222 m15_1 f17 q31 f32 f34 f35 f36 f37 q38 f39 f40 f41 m42_0 m42_1 f43 f44 f47 f48 f49 f50 f51 q54 q55 q56 f57 q58 f59 f60 f64 (Nat.le_of_ble_eq_true rfl) (Nat.le_of_ble_eq_true rfl) hx18 hz21_224 hz22_225 hg_231 (Nat.le_of_ble_eq_true rfl) hx29 hx30 hx33 hx46 hx52 hx53 hx61 hx62 hx63 hx65 hz12_0_219 hm12_1 hz13_0_220 hm13_1 hz14_0_221 hm14_1 hz15_0_222 hm15_1 hm42_0 hm42_1) (cwV 0 hts g_M_automaton_M_next rfl rfl rfl (by decide +kernel) ⟨Nat.le_of_ble_eq_true rfl, Nat.le_of_ble_eq_true rfl⟩) ⟨pu_bl, va_recv hK hP (ci := 9) (q0 := 0) rfl rfl, pu_in hP hK hD⟩ rfl rfl hl.1 rfl (lv_room (Nat.le_of_ble_eq_true rfl)) dX9_automaton_129 ⟨Nat.le_of_ble_eq_true rfl, Nat.le_of_ble_eq_true rfl⟩) hS (fun q _ h => hFc q h) hFc (fun u t H1 locs ht hvm hw hB hz1 hk1 hS => ?_)
            obtain ⟨z20_240, z21_241, z22_242, z23_243, ⟨hP1, -, hD1⟩, hz21_241, hz22_242, xr_239_0, xr_239_1⟩ := hB
            rw [ht] at hP1
            have hP := hP1
            have hD := pu_all hFc hD1
            clear hP1 hD1 hFc
            clear hk1 hz1 ht hvm
            generalize H1 = H at hP hS ⊢
            refine lv_goto (tgt := 82) hx hb dX9_automaton_132 (by decide) ?_
            exact ih_174 (2 * mu z21_241 z22_242 + (1 - g_231)) (by omega) _ _ _ ⟨z1_208, z10_209, z11_210, z2_211, z3_212, z4_213, z5_214, z6_215, z7_216, z8_217, z9_218, z12_0_219, z13_0_220, z14_0_221, z15_0_222, z20_240, z21_241, z22_242, z23_243, g_231, g_232, rfl, hz12_0_219, hz13_0_220, hz14_0_221, hz15_0_222, hz21_241, hz22_242, hg_231, hP, hD, hS, lv_sub hl [0] rfl⟩
        refine lv_if_eq (tgt := 121) hx hb dX9_automaton_104 (by decide) (fun c_244 => ?_) (fun c_244 => ?_)
        · have c_244 : u_230 = 0 := (nI_eq (a := u_230) (b := 0) (Nat.lt_of_le_of_lt hu_230 (Nat.le_of_ble_eq_true rfl)) (Nat.le_of_ble_eq_true rfl)).mp c_244
          exact j_235 _ _ _ _ ⟨z26_227, z27_228, rfl, hz26_227, by omega, by omega, hP, hD, hS, lv_sub hl [0] rfl⟩
        · have c_244 : ¬ u_230 = 0 := fun z => c_244 ((nI_eq (a := u_230) (b := 0) (Nat.lt_of_le_of_lt hu_230 (Nat.le_of_ble_eq_true rfl)) (Nat.le_of_ble_eq_true rfl)).mpr z)
          refine lv_aload_n hx hb dX9_automaton_107 rfl (lv_at hl 0 rfl) ?_
          refine lv_bipush (v := 59) hx hb dX9_automaton_108 (by decide) ?_
          refine va_calli (va_runV (As := [.int 59]) (rest := []) ⟨hx, hb, hml, hown, hts⟩ (c_M_isSign l dC dI _ ad ck 0 1 0 x18 z20_223 z21_224 z22_225 z23_226 x24 x25 z26_227 z27_228 0 x29 x30 x33 x45 x46 x52 x53 x61 x62 x63 x65 x66 z1_208 z2_211 z3_212 z4_213 z5_214 z6_215 z7_216 z8_217 z9_218 z10_209 z11_210 z12_0_219 m12_1 z13_0_220 m13_1 z14_0_221 m14_1 z15_0_222 m15_1 f17 q31 f32 f34 f35 f36 f37 q38 f39 f40 f41 m42_0 m42_1 f43 f44 f47 f48 f49 f50 f51 q54 q55 q56 f57 q58 f59 f60 f64 59 (Nat.le_of_ble_eq_true rfl) (Nat.le_of_ble_eq_true rfl) hx18 hz21_224 hz22_225 hz26_227 (Nat.le_of_ble_eq_true rfl) hx29 hx30 hx33 hx46 hx52 hx53 hx61 hx62 hx63 hx65 hz12_0_219 hm12_1 hz13_0_220 hm13_1 hz14_0_221 hm14_1 hz15_0_222 hm15_1 hm42_0 hm42_1) (cwV 1 hts g_M_automaton_M_isSign rfl rfl rfl (by decide +kernel) ⟨Nat.le_of_ble_eq_true rfl, Nat.le_of_ble_eq_true rfl⟩) ⟨pu_bl, va_recv hK hP (ci := 9) (q0 := 0) rfl rfl, pu_in hP hK hD⟩ rfl rfl hl.1 rfl (lv_room (Nat.le_of_ble_eq_true rfl)) dX9_automaton_110 ⟨Nat.le_of_ble_eq_true rfl, Nat.le_of_ble_eq_true rfl⟩) hS (fun q _ h => pu_fr hS hA q h) (pu_fr hS hA) (fun r_245 u t H1 locs ht hvm hw hB hz1 hk1 hS => ?_)
          have hP := pu_keep hP hk1
          clear hk1 hz1 ht hvm
          generalize H1 = H at hP hS ⊢
          obtain ⟨u_246, hu_246, rfl, iu_246⟩ := hw
          refine lv_if_ne (tgt := 121) hx hb dX9_automaton_113 (by decide) (fun c_247 => ?_) (fun c_247 => ?_)
          · have c_247 : ¬ u_246 = 0 := fun z => c_247 ((nI_eq (a := u_246) (b := 0) (Nat.lt_of_le_of_lt hu_246 (Nat.le_of_ble_eq_true rfl)) (Nat.le_of_ble_eq_true rfl)).mpr z)
            exact j_235 _ _ _ _ ⟨z26_227, z27_228, rfl, hz26_227, by omega, by omega, hP, hD, hS, lv_sub hl [0] rfl⟩
          · have c_247 : u_246 = 0 := (nI_eq (a := u_246) (b := 0) (Nat.lt_of_le_of_lt hu_246 (Nat.le_of_ble_eq_true rfl)) (Nat.le_of_ble_eq_true rfl)).mp c_247
            refine lv_aload_n hx hb dX9_automaton_116 rfl (lv_at hl 0 rfl) ?_
            refine lv_iconst (v := 2) hx hb dX9_automaton_117 (by decide) ?_
            have hFc := pu_free hD hS hA
            refine va_callv (va_runV (As := [.int 2]) (rest := []) ⟨hx, hb, hml, hown, hts⟩ (c_M_fails l dC dI _ ad ck 0 1 0 x18 z20_223 z21_224 z22_225 z23_226 x24 x25 z26_227 z27_228 0 x29 x30 x33 x45 x46 x52 x53 x61 x62 x63 x65 x66 z1_208 z2_211 z3_212 z4_213 z5_214 z6_215 z7_216 z8_217 z9_218 z10_209 z11_210 z12_0_219 m12_1 z13_0_220 m13_1 z14_0_221 m14_1 z15_0_222 m15_1 f17 q31 f32 f34 f35 f36 f37 q38 f39 f40 f41 m42_0 m42_1 f43 f44 f47 f48 f49 f50 f51 q54 q55 q56 f57 q58 f59 f60 f64 2 (Nat.le_of_ble_eq_true rfl) (Nat.le_of_ble_eq_true rfl) hx18 hz21_224 hz22_225 hz26_227 (Nat.le_of_ble_eq_true rfl) hx29 hx30 hx33 hx46 hx52 hx53 hx61 hx62 hx63 hx65 hz12_0_219 hm12_1 hz13_0_220 hm13_1 hz14_0_221 hm14_1 hz15_0_222 hm15_1 hm42_0 hm42_1 (Nat.le_of_ble_eq_true rfl) (by omega)) (cwV 1 hts g_M_automaton_M_fails rfl rfl rfl (by decide +kernel) ⟨Nat.le_of_ble_eq_true rfl, Nat.le_of_ble_eq_true rfl⟩) ⟨pu_bl, va_recv hK hP (ci := 9) (q0 := 0) rfl rfl, pu_in hP hK hD⟩ rfl rfl hl.1 rfl (lv_room (Nat.le_of_ble_eq_true rfl)) dX9_automaton_118 ⟨Nat.le_of_ble_eq_true rfl, Nat.le_of_ble_eq_true rfl⟩) hS (fun q _ h => hFc q h) hFc (fun u t H1 locs ht hvm hw hB hz1 hk1 hS => ?_)
            obtain ⟨z26_249, z27_250, ⟨hP1, -, hD1⟩, hz26_249, xr_248_0⟩ := hB
            rw [ht] at hP1
            have hP := hP1
            have hD := pu_all hFc hD1
            clear hP1 hD1 hFc
            clear hk1 hz1 ht hvm
            generalize H1 = H at hP hS ⊢
            exact j_235 _ _ _ _ ⟨z26_249, z27_250, rfl, hz26_249, by omega, by omega, hP, hD, hS, lv_sub hl [0] rfl⟩
