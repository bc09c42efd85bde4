theorem dX9_comes_0 : decode cX9_comes 0 = .ok (.aload_n 0, 1) := by decide +kernel
theorem dX9_comes_1 : decode cX9_comes 1 = .ok (.iload_n 2, 1) := by decide +kernel
theorem dX9_comes_2 : decode cX9_comes 2 = .ok (.invokevirtual 324, 3) := by decide +kernel
theorem dX9_comes_5 : decode cX9_comes 5 = .ok (.ifCond .ne 12, 3) := by decide +kernel
theorem dX9_comes_8 : decode cX9_comes 8 = .ok (.aload_n 0, 1) := by decide +kernel
theorem dX9_comes_9 : decode cX9_comes 9 = .ok (.aload_n 0, 1) := by decide +kernel
theorem dX9_comes_10 : decode cX9_comes 10 = .ok (.getfield 71, 3) := by decide +kernel
theorem dX9_comes_13 : decode cX9_comes 13 = .ok (.iload_n 2, 1) := by decide +kernel
theorem dX9_comes_14 : decode cX9_comes 14 = .ok (.invokevirtual 349, 3) := by decide +kernel
theorem dX9_comes_17 : decode cX9_comes 17 = .ok (.aload_n 0, 1) := by decide +kernel
theorem dX9_comes_18 : decode cX9_comes 18 = .ok (.aload_n 0, 1) := by decide +kernel
theorem dX9_comes_19 : decode cX9_comes 19 = .ok (.getfield 71, 3) := by decide +kernel
theorem dX9_comes_22 : decode cX9_comes 22 = .ok (.iload 5, 2) := by decide +kernel
theorem dX9_comes_24 : decode cX9_comes 24 = .ok (.invokevirtual 352, 3) := by decide +kernel
theorem dX9_comes_27 : decode cX9_comes 27 = .ok (.iconst 0, 1) := by decide +kernel
theorem dX9_comes_28 : decode cX9_comes 28 = .ok (.istore 8, 2) := by decide +kernel
theorem dX9_comes_30 : decode cX9_comes 30 = .ok (.iload 8, 2) := by decide +kernel
theorem dX9_comes_32 : decode cX9_comes 32 = .ok (.aload_n 0, 1) := by decide +kernel
theorem dX9_comes_33 : decode cX9_comes 33 = .ok (.getfield 92, 3) := by decide +kernel
theorem dX9_comes_36 : decode cX9_comes 36 = .ok (.iload_n 1, 1) := by decide +kernel
theorem dX9_comes_37 : decode cX9_comes 37 = .ok (.iaload, 1) := by decide +kernel
theorem dX9_comes_38 : decode cX9_comes 38 = .ok (.if_icmp .ge 52, 3) := by decide +kernel
theorem dX9_comes_41 : decode cX9_comes 41 = .ok (.iload_n 1, 1) := by decide +kernel
theorem dX9_comes_42 : decode cX9_comes 42 = .ok (.iload 8, 2) := by decide +kernel
theorem dX9_comes_44 : decode cX9_comes 44 = .ok (.invokestatic 355, 3) := by decide +kernel
theorem dX9_comes_47 : decode cX9_comes 47 = .ok (.istore 9, 2) := by decide +kernel
theorem dX9_comes_49 : decode cX9_comes 49 = .ok (.aload_n 0, 1) := by decide +kernel
theorem dX9_comes_50 : decode cX9_comes 50 = .ok (.getfield 80, 3) := by decide +kernel
theorem dX9_comes_53 : decode cX9_comes 53 = .ok (.iload 9, 2) := by decide +kernel
theorem dX9_comes_55 : decode cX9_comes 55 = .ok (.iaload, 1) := by decide +kernel
theorem dX9_comes_56 : decode cX9_comes 56 = .ok (.iload_n 2, 1) := by decide +kernel
theorem dX9_comes_57 : decode cX9_comes 57 = .ok (.if_icmp .ne 27, 3) := by decide +kernel
theorem dX9_comes_60 : decode cX9_comes 60 = .ok (.aload_n 0, 1) := by decide +kernel
theorem dX9_comes_61 : decode cX9_comes 61 = .ok (.iload 9, 2) := by decide +kernel
theorem dX9_comes_63 : decode cX9_comes 63 = .ok (.aload_n 0, 1) := by decide +kernel
theorem dX9_comes_64 : decode cX9_comes 64 = .ok (.getfield 71, 3) := by decide +kernel
theorem dX9_comes_67 : decode cX9_comes 67 = .ok (.iload 6, 2) := by decide +kernel
theorem dX9_comes_69 : decode cX9_comes 69 = .ok (.ifCond .ne 7, 3) := by decide +kernel
theorem dX9_comes_72 : decode cX9_comes 72 = .ok (.iconst 1, 1) := by decide +kernel
theorem dX9_comes_73 : decode cX9_comes 73 = .ok (.goto 4, 3) := by decide +kernel
theorem dX9_comes_76 : decode cX9_comes 76 = .ok (.iconst 0, 1) := by decide +kernel
theorem dX9_comes_77 : decode cX9_comes 77 = .ok (.invokevirtual 358, 3) := by decide +kernel
theorem dX9_comes_80 : decode cX9_comes 80 = .ok (.ifCond .eq 4, 3) := by decide +kernel
theorem dX9_comes_83 : decode cX9_comes 83 = .ok (.return_, 1) := by decide +kernel
theorem dX9_comes_84 : decode cX9_comes 84 = .ok (.iinc 8 1, 3) := by decide +kernel
theorem dX9_comes_87 : decode cX9_comes 87 = .ok (.goto (-57), 3) := by decide +kernel
theorem dX9_comes_90 : decode cX9_comes 90 = .ok (.aload_n 0, 1) := by decide +kernel
theorem dX9_comes_91 : decode cX9_comes 91 = .ok (.getfield 92, 3) := by decide +kernel
theorem dX9_comes_94 : decode cX9_comes 94 = .ok (.iload_n 1, 1) := by decide +kernel
theorem dX9_comes_95 : decode cX9_comes 95 = .ok (.iaload, 1) := by decide +kernel
theorem dX9_comes_96 : decode cX9_comes 96 = .ok (.iload 7, 2) := by decide +kernel
theorem dX9_comes_98 : decode cX9_comes 98 = .ok (.if_icmp .eq 12, 3) := by decide +kernel
theorem dX9_comes_101 : decode cX9_comes 101 = .ok (.aload_n 0, 1) := by decide +kernel
theorem dX9_comes_102 : decode cX9_comes 102 = .ok (.getfield 98, 3) := by decide +kernel
theorem dX9_comes_105 : decode cX9_comes 105 = .ok (.iload_n 1, 1) := by decide +kernel
theorem dX9_comes_106 : decode cX9_comes 106 = .ok (.baload, 1) := by decide +kernel
theorem dX9_comes_107 : decode cX9_comes 107 = .ok (.ifCond .eq 11, 3) := by decide +kernel
theorem dX9_comes_110 : decode cX9_comes 110 = .ok (.aload_n 0, 1) := by decide +kernel
theorem dX9_comes_111 : decode cX9_comes 111 = .ok (.getfield 98, 3) := by decide +kernel
theorem dX9_comes_114 : decode cX9_comes 114 = .ok (.iload_n 1, 1) := by decide +kernel
theorem dX9_comes_115 : decode cX9_comes 115 = .ok (.iconst 1, 1) := by decide +kernel
theorem dX9_comes_116 : decode cX9_comes 116 = .ok (.bastore, 1) := by decide +kernel
theorem dX9_comes_117 : decode cX9_comes 117 = .ok (.return_, 1) := by decide +kernel
theorem dX9_comes_118 : decode cX9_comes 118 = .ok (.iload_n 1, 1) := by decide +kernel
theorem dX9_comes_119 : decode cX9_comes 119 = .ok (.aload_n 0, 1) := by decide +kernel
theorem dX9_comes_120 : decode cX9_comes 120 = .ok (.getfield 92, 3) := by decide +kernel
theorem dX9_comes_123 : decode cX9_comes 123 = .ok (.iload_n 1, 1) := by decide +kernel
theorem dX9_comes_124 : decode cX9_comes 124 = .ok (.iaload, 1) := by decide +kernel
theorem dX9_comes_125 : decode cX9_comes 125 = .ok (.invokestatic 355, 3) := by decide +kernel
theorem dX9_comes_128 : decode cX9_comes 128 = .ok (.istore 8, 2) := by decide +kernel
theorem dX9_comes_130 : decode cX9_comes 130 = .ok (.aload_n 0, 1) := by decide +kernel
theorem dX9_comes_131 : decode cX9_comes 131 = .ok (.getfield 71, 3) := by decide +kernel
theorem dX9_comes_134 : decode cX9_comes 134 = .ok (.iconst 0, 1) := by decide +kernel
theorem dX9_comes_135 : decode cX9_comes 135 = .ok (.aload_n 0, 1) := by decide +kernel
theorem dX9_comes_136 : decode cX9_comes 136 = .ok (.getfield 68, 3) := by decide +kernel
theorem dX9_comes_139 : decode cX9_comes 139 = .ok (.bipush 25, 2) := by decide +kernel
theorem dX9_comes_141 : decode cX9_comes 141 = .ok (.iload 8, 2) := by decide +kernel
theorem dX9_comes_143 : decode cX9_comes 143 = .ok (.imul, 1) := by decide +kernel
theorem dX9_comes_144 : decode cX9_comes 144 = .ok (.invokestatic 362, 3) := by decide +kernel
theorem dX9_comes_147 : decode cX9_comes 147 = .ok (.aload_n 0, 1) := by decide +kernel
theorem dX9_comes_148 : decode cX9_comes 148 = .ok (.getfield 80, 3) := by decide +kernel
theorem dX9_comes_151 : decode cX9_comes 151 = .ok (.iload 8, 2) := by decide +kernel
theorem dX9_comes_153 : decode cX9_comes 153 = .ok (.iload_n 2, 1) := by decide +kernel
theorem dX9_comes_154 : decode cX9_comes 154 = .ok (.iastore, 1) := by decide +kernel
theorem dX9_comes_155 : decode cX9_comes 155 = .ok (.aload_n 0, 1) := by decide +kernel
theorem dX9_comes_156 : decode cX9_comes 156 = .ok (.getfield 83, 3) := by decide +kernel
theorem dX9_comes_159 : decode cX9_comes 159 = .ok (.iload 8, 2) := by decide +kernel
theorem dX9_comes_161 : decode cX9_comes 161 = .ok (.iload_n 3, 1) := by decide +kernel
theorem dX9_comes_162 : decode cX9_comes 162 = .ok (.iastore, 1) := by decide +kernel
theorem dX9_comes_163 : decode cX9_comes 163 = .ok (.aload_n 0, 1) := by decide +kernel
theorem dX9_comes_164 : decode cX9_comes 164 = .ok (.getfield 86, 3) := by decide +kernel
theorem dX9_comes_167 : decode cX9_comes 167 = .ok (.iload 8, 2) := by decide +kernel
theorem dX9_comes_169 : decode cX9_comes 169 = .ok (.iload 4, 2) := by decide +kernel
theorem dX9_comes_171 : decode cX9_comes 171 = .ok (.iastore, 1) := by decide +kernel
theorem dX9_comes_172 : decode cX9_comes 172 = .ok (.aload_n 0, 1) := by decide +kernel
theorem dX9_comes_173 : decode cX9_comes 173 = .ok (.getfield 89, 3) := by decide +kernel
theorem dX9_comes_176 : decode cX9_comes 176 = .ok (.iload 8, 2) := by decide +kernel
theorem dX9_comes_178 : decode cX9_comes 178 = .ok (.iload_n 3, 1) := by decide +kernel
theorem dX9_comes_179 : decode cX9_comes 179 = .ok (.iconst (-1), 1) := by decide +kernel
theorem dX9_comes_180 : decode cX9_comes 180 = .ok (.if_icmp .ne 7, 3) := by decide +kernel
theorem dX9_comes_183 : decode cX9_comes 183 = .ok (.iconst 0, 1) := by decide +kernel
theorem dX9_comes_184 : decode cX9_comes 184 = .ok (.goto 15, 3) := by decide +kernel
theorem dX9_comes_199 : decode cX9_comes 199 = .ok (.iastore, 1) := by decide +kernel
theorem dX9_comes_200 : decode cX9_comes 200 = .ok (.aload_n 0, 1) := by decide +kernel
theorem dX9_comes_201 : decode cX9_comes 201 = .ok (.getfield 92, 3) := by decide +kernel
theorem dX9_comes_204 : decode cX9_comes 204 = .ok (.iload_n 1, 1) := by decide +kernel
theorem dX9_comes_205 : decode cX9_comes 205 = .ok (.dup2, 1) := by decide +kernel
theorem dX9_comes_206 : decode cX9_comes 206 = .ok (.iaload, 1) := by decide +kernel
theorem dX9_comes_207 : decode cX9_comes 207 = .ok (.iconst 1, 1) := by decide +kernel
theorem dX9_comes_208 : decode cX9_comes 208 = .ok (.iadd, 1) := by decide +kernel
theorem dX9_comes_209 : decode cX9_comes 209 = .ok (.iastore, 1) := by decide +kernel
theorem dX9_comes_210 : decode cX9_comes 210 = .ok (.return_, 1) := by decide +kernel
abbrev vs_M_comes_0_120_0 : List Cond := .code yX9_comes cX9_comes 10 none :: VM
theorem g_M_comes_0_120_0_M_isUrgent : GoodIn vs_M_comes_0_120_0 (wsV RX9 324 RX9 yX9_isUrgent vs_M_isUrgent) := gm_V vm_204 vm_205 vm_206 vm_12 vm_33
theorem g_M_comes_0_120_0_M_forgets : GoodIn vs_M_comes_0_120_0 (wsV RX9 352 RX9 yX9_forgets vs_M_forgets) := gm_V vm_247 vm_248 vm_249 vm_12 vm_230
theorem g_M_comes_0_120_0_M_spotOf_0 : GoodIn vs_M_comes_0_120_0 (va_wsS RX9 355 yX9_spotOf vs_M_spotOf_0) := gm_S vm_241 vm_242 vm_12 vm_13
theorem g_M_comes_0_120_0_M_copies_zn : GoodIn vs_M_comes_0_120_0 (va_wsS RX9 362 yX9_copies vs_M_copies_zn) := gm_S vm_250 vm_251 vm_12 vm_8
theorem g_M_comes_0_120_0_M_hasAll : GoodIn vs_M_comes_0_120_0 (wsV RX9 358 RX9 yX9_hasAll vs_M_hasAll) := gm_V vm_255 vm_256 vm_257 vm_12 vm_231
theorem g_M_comes_0_120_0_M_delays : GoodIn vs_M_comes_0_120_0 (wsV RX9 349 RX9 yX9_delays vs_M_delays) := gm_V vm_244 vm_245 vm_246 vm_12 vm_220
set_option maxHeartbeats 4000000 in
set_option maxRecDepth 100000 in
theorem c_M_comes_0_120_0 (l : Launch) (dC : Nat → ClassId) (dI : Nat → Nat → Nat) (sz : Nat) (ad : Nat → Nat) (ck : Nat → ClassId) (x0 : Int32) (x16 : Nat) (x18 : Nat) (x19 : Nat) (x20 : Int32) (x21 : Nat) (x22 : Nat) (x23 : Int32) (x24 : Int32) (x25 : Int32) (x26 : Nat) (x27 : Int32) (x28 : Nat) (x29 : Nat) (x30 : Nat) (x33 : Nat) (x45 : Int32) (x46 : Nat) (x52 : Nat) (x53 : Nat) (x61 : Nat) (x62 : Nat) (x63 : Nat) (x65 : Nat) (x66 : Int32) (f1 : Nat → Int32) (f2 : Nat → Int32) (f3 : Nat → Int32) (q4 : Nat → Nat) (q5 : Nat → Nat) (q6 : Nat → Nat) (q7 : Nat → Nat) (f8 : Nat → Int32) (q9 : Nat → Nat) (q10 : Nat → Nat) (f11 : Nat → Int32) (m12_0 m12_1 : Nat) (m13_0 m13_1 : Nat) (m14_0 m14_1 : Nat) (m15_0 m15_1 : Nat) (f17 : Nat → Int32) (q31 : Nat → Nat) (f32 : Nat → Int32) (f34 : Nat → Int32) (f35 : Nat → Int32) (f36 : Nat → Int32) (f37 : Nat → Int32) (q38 : Nat → Nat) (f39 : Nat → Int32) (f40 : Nat → Int32) (f41 : Nat → Int32) (m42_0 m42_1 : Nat) (f43 : Nat → Int32) (f44 : Nat → Int32) (f47 : Nat → Int32) (f48 : Nat → Int32) (f49 : Nat → Int32) (f50 : Nat → Int32) (f51 : Nat → Int32) (q54 : Nat → Nat) (q55 : Nat → Nat) (q56 : Nat → Nat) (f57 : Nat → Int32) (q58 : Nat → Nat) (f59 : Nat → Int32) (f60 : Nat → Int32) (f64 : Nat → Int32) (a1 : Nat) (p4 : Int32) (a5 : Nat) (hx16 : x16 ≤ 1) (hx18 : x18 ≤ 900) (hx19 : x19 ≤ 900) (hx21 : x21 ≤ 900) (hx22 : x22 ≤ 4) (hx26 : x26 ≤ 6) (hx28 : x28 ≤ 1) (hx29 : x29 ≤ 1) (hx30 : x30 ≤ 1) (hx33 : x33 ≤ 20) (hx46 : x46 ≤ 5) (hx52 : x52 ≤ 2400) (hx53 : x53 ≤ 119) (hx61 : x61 ≤ 119) (hx62 : x62 ≤ 2000) (hx63 : x63 ≤ 1) (hx65 : x65 ≤ 7) (hm12_0 : m12_0 ≤ 3) (hm12_1 : m12_1 ≤ 3) (hm13_0 : m13_0 ≤ 8) (hm13_1 : m13_1 ≤ 8) (hm14_0 : m14_0 ≤ 14) (hm14_1 : m14_1 ≤ 14) (hm15_0 : m15_0 ≤ 8) (hm15_1 : m15_1 ≤ 8) (hm42_0 : m42_0 ≤ 120) (hm42_1 : m42_1 ≤ 400) (ha1 : a1 ≤ 7) (ha5 : a5 ≤ 1) (hgr : gz_ok m42_0 f39 f40 f41) : Met l yX9_comes vs_M_comes_0_120_0 ({ frames := 5, cells := 0, slots := 0, locals := 113 }) (va_Pc [.ref (ad 0), .int 0, .int (nI a1), .int (-1), .int (-1), .int p4, .int (nI a5), .int 120] (pu_B (dC, dI) (mo_w ad ck x0 (nI x16) (nI x18) (nI x19) x20 (nI x21) (nI x22) x23 x24 x25 (nI x26) x27 (nI x28) (nI x29) (nI x30) (nI x33) x45 (nI x46) (nI x52) (nI x53) (nI x61) (nI x62) (nI x63) (nI x65) x66 f1 f2 f3 (bN 3 q4) (bN 7 q5) (bN 7 q6) (bN 4 q7) f8 (bN 2 q9) (bH q10) f11 (b2 m12_0 m12_1) (b2 m13_0 m13_1) (b2 m14_0 m14_1) (b2m m15_0 m15_1) f17 (bA 159 q31) f32 f34 f35 f36 f37 (bN 7 q38) f39 f40 f41 (b2 m42_0 m42_1) f43 f44 f47 f48 f49 f50 f51 (bN 13 q54) (bN 120 q55) (bN 120 q56) f57 (bN 120 q58) f59 f60 f64) (mo_t ck) sz)) (va_Qv (fun (_ : Unit) => True) (fun _ t => ∃ (z34 : Nat → Int32) (z35 : Nat → Int32) (z38 : Nat → Nat) (z39 : Nat → Int32) (z40 : Nat → Int32) (z41 : Nat → Int32) (z44 : Nat → Int32) (z42_0 : Nat), pu_E (dC, dI) (mo_w ad ck x0 (nI x16) (nI x18) (nI x19) x20 (nI x21) (nI x22) x23 x24 x25 (nI x26) x27 (nI x28) (nI x29) (nI x30) (nI x33) x45 (nI x46) (nI x52) (nI x53) (nI x61) (nI x62) (nI x63) (nI x65) x66 f1 f2 f3 (bN 3 q4) (bN 7 q5) (bN 7 q6) (bN 4 q7) f8 (bN 2 q9) (bH q10) f11 (b2 m12_0 m12_1) (b2 m13_0 m13_1) (b2 m14_0 m14_1) (b2m m15_0 m15_1) f17 (bA 159 q31) f32 z34 z35 f36 f37 (bN 7 z38) z39 z40 z41 (b2 z42_0 m42_1) f43 z44 f47 f48 f49 f50 f51 (bN 13 q54) (bN 120 q55) (bN 120 q56) f57 (bN 120 q58) f59 f60 f64) (mo_t ck) (va_A ((mo_w ad ck x0 (nI x16) (nI x18) (nI x19) x20 (nI x21) (nI x22) x23 x24 x25 (nI x26) x27 (nI x28) (nI x29) (nI x30) (nI x33) x45 (nI x46) (nI x52) (nI x53) (nI x61) (nI x62) (nI x63) (nI x65) x66 f1 f2 f3 (bN 3 q4) (bN 7 q5) (bN 7 q6) (bN 4 q7) f8 (bN 2 q9) (bH q10) f11 (b2 m12_0 m12_1) (b2 m13_0 m13_1) (b2 m14_0 m14_1) (b2m m15_0 m15_1) f17 (bA 159 q31) f32 f34 f35 f36 f37 (bN 7 q38) f39 f40 f41 (b2 m42_0 m42_1) f43 f44 f47 f48 f49 f50 f51 (bN 13 q54) (bN 120 q55) (bN 120 q56) f57 (bN 120 q58) f59 f60 f64)) sz) t ∧ (z42_0 ≤ 120) ∧ (gz_ok z42_0 z39 z40 z41) ∧ (m42_0 ≤ z42_0)) (va_A ((mo_w ad ck x0 (nI x16) (nI x18) (nI x19) x20 (nI x21) (nI x22) x23 x24 x25 (nI x26) x27 (nI x28) (nI x29) (nI x30) (nI x33) x45 (nI x46) (nI x52) (nI x53) (nI x61) (nI x62) (nI x63) (nI x65) x66 f1 f2 f3 (bN 3 q4) (bN 7 q5) (bN 7 q6) (bN 4 q7) f8 (bN 2 q9) (bH q10) f11 (b2 m12_0 m12_1) (b2 m13_0 m13_1) (b2 m14_0 m14_1) (b2m m15_0 m15_1) f17 (bA 159 q31) f32 f34 f35 f36 f37 (bN 7 q38) f39 f40 f41 (b2 m42_0 m42_1) f43 f44 f47 f48 f49 f50 f51 (bN 13 q54) (bN 120 q55) (bN 120 q56) f57 (bN 120 q58) f59 f60 f64)) sz)) 0 0 (va_A ((mo_w ad ck x0 (nI x16) (nI x18) (nI x19) x20 (nI x21) (nI x22) x23 x24 x25 (nI x26) x27 (nI x28) (nI x29) (nI x30) (nI x33) x45 (nI x46) (nI x52) (nI x53) (nI x61) (nI x62) (nI x63) (nI x65) x66 f1 f2 f3 (bN 3 q4) (bN 7 q5) (bN 7 q6) (bN 4 q7) f8 (bN 2 q9) (bH q10) f11 (b2 m12_0 m12_1) (b2 m13_0 m13_1) (b2 m14_0 m14_1) (b2m m15_0 m15_1) f17 (bA 159 q31) f32 f34 f35 f36 f37 (bN 7 q38) f39 f40 f41 (b2 m42_0 m42_1) f43 f44 f47 f48 f49 f50 f51 (bN 13 q54) (bN 120 q55) (bN 120 q56) f57 (bN 120 q58) f59 f60 f64)) sz) := by
  refine Met.ofW (cc := cX9_comes) (maxL := 10) (ret := none) (by decide) rfl ?_
  intro p e s m args below meth c s₁ B hml hv
  obtain ⟨rfl, rfl, hP, hK, hD0⟩ := hv
  have hx := B.exec
  have hb := B.bytes
  have hr := B.returns
  have hts := atoms_spec (ws := vs_M_comes_0_120_0) B.pre
  have v_6 := hts (.fieldLink RX9 71 "ClockReachModel" "z" "[I") (List.mem_cons_of_mem _ vm_234)
  have v_15 := hts (.fieldLink RX9 92 "ClockReachModel" "stateMany" "[I") (List.mem_cons_of_mem _ vm_177)
  have v_16 := hts (.fieldLink RX9 98 "ClockReachModel" "isFull" "[Z") (List.mem_cons_of_mem _ vm_178)
  have v_20 := hts (.fieldLink RX9 68 "ClockReachModel" "zone" "[I") (List.mem_cons_of_mem _ vm_232)
  have v_24 := hts (.fieldLink RX9 80 "ClockReachModel" "statePlace" "[I") (List.mem_cons_of_mem _ vm_240)
  have v_25 := hts (.fieldLink RX9 83 "ClockReachModel" "stateFrom" "[I") (List.mem_cons_of_mem _ vm_252)
  have v_26 := hts (.fieldLink RX9 86 "ClockReachModel" "stateBy" "[I") (List.mem_cons_of_mem _ vm_253)
  have v_27 := hts (.fieldLink RX9 89 "ClockReachModel" "stateDeep" "[I") (List.mem_cons_of_mem _ vm_254)
  have hown : s.vm.findClass RX9 = some m.cls := findClass_of_methodNamed B.named
  have hlocks := B.notSynchronized
  have hiX9 : ∀ w ∈ wsX90, w ∈ vs_M_comes_0_120_0 := fun _ h => List.mem_cons_of_mem _ (List.mem_append_right _ h)
  have hD := hD0.self (sz := s.heap.size)
  generalize hAe : va_A ((mo_w ad ck x0 (nI x16) (nI x18) (nI x19) x20 (nI x21) (nI x22) x23 x24 x25 (nI x26) x27 (nI x28) (nI x29) (nI x30) (nI x33) x45 (nI x46) (nI x52) (nI x53) (nI x61) (nI x62) (nI x63) (nI x65) x66 f1 f2 f3 (bN 3 q4) (bN 7 q5) (bN 7 q6) (bN 4 q7) f8 (bN 2 q9) (bH q10) f11 (b2 m12_0 m12_1) (b2 m13_0 m13_1) (b2 m14_0 m14_1) (b2m m15_0 m15_1) f17 (bA 159 q31) f32 f34 f35 f36 f37 (bN 7 q38) f39 f40 f41 (b2 m42_0 m42_1) f43 f44 f47 f48 f49 f50 f51 (bN 13 q54) (bN 120 q55) (bN 120 q56) f57 (bN 120 q58) f59 f60 f64)) s.heap.size = A at hD ⊢
  have hA : ∀ q : Nat, s.heap.size ≤ q → A q := fun q h => by rw [← hAe]; exact Or.inr h
  have hS : va_S A s.heap s.heap [] := va_S.rf
  have hl := lv_entry ([.ref (ad 0), .int 0, .int (nI a1), .int (-1), .int (-1), .int p4, .int (nI a5), .int 120]) (n := 10) (Nat.le_of_ble_eq_true rfl)
  rw [lg_entry_eq]
  generalize (lg_sl ([.ref (ad 0), .int 0, .int (nI a1), .int (-1), .int (-1), .int p4, .int (nI a5), .int 120]) ++ List.replicate (10 - (lg_sl ([.ref (ad 0), .int 0, .int (nI a1), .int (-1), .int (-1), .int p4, .int (nI a5), .int 120])).length) Slot.unset).toArray = ls at hl ⊢
  have hl : lv_has ls 10 [(0, .ref (ad 0)), (1, .int 0), (2, .int (nI a1)), (3, .int (-1)), (4, .int (-1)), (5, .int p4), (6, .int (nI a5)), (7, .int 120)] := hl
  refine lv_aload_n hx hb dX9_comes_0 rfl (lv_at hl 0 rfl) ?_
  refine lv_iload_n hx hb dX9_comes_1 rfl (lv_at hl 2 rfl) ?_
  refine va_calli (va_runV (As := [.int (nI a1)]) (rest := []) ⟨hx, hb, hml, hown, hts⟩ (c_M_isUrgent l dC dI _ ad ck x0 x16 x18 x19 x20 x21 x22 x23 x24 x25 x26 x27 x28 x29 x30 x33 x45 x46 x52 x53 x61 x62 x63 x65 x66 f1 f2 f3 q4 q5 q6 q7 f8 q9 q10 f11 m12_0 m12_1 m13_0 m13_1 m14_0 m14_1 m15_0 m15_1 f17 q31 f32 f34 f35 f36 f37 q38 f39 f40 f41 m42_0 m42_1 f43 f44 f47 f48 f49 f50 f51 q54 q55 q56 f57 q58 f59 f60 f64 a1 hx16 hx18 hx19 hx21 hx22 hx26 hx28 hx29 hx30 hx33 hx46 hx52 hx53 hx61 hx62 hx63 hx65 hm12_0 hm12_1 hm13_0 hm13_1 hm14_0 hm14_1 hm15_0 hm15_1 hm42_0 hm42_1 ha1) (cwV 1 hts g_M_comes_0_120_0_M_isUrgent rfl rfl rfl (by decide +kernel) ⟨Nat.le_of_ble_eq_true rfl, Nat.le_of_ble_eq_true rfl⟩) ⟨pu_bl, va_recv hK hP (ci := 9) (q0 := 0) rfl rfl, pu_in hP hK hD⟩ rfl rfl hl.1 rfl (lv_room (Nat.le_of_ble_eq_true rfl)) dX9_comes_2 ⟨Nat.le_of_ble_eq_true rfl, Nat.le_of_ble_eq_true rfl⟩) hS (fun q _ h => pu_fr hS hA q h) (pu_fr hS hA) (fun r_1 u t H1 locs ht hvm hw hB hz1 hk1 hS => ?_)
  have hP := pu_keep hP hk1
  clear hk1 hz1 ht hvm
  generalize H1 = H at hP hS ⊢
  obtain ⟨u_2, hu_2, rfl⟩ := hw
  refine pu_join (fun H locs ls st => ∃ (g_3 : Nat → Int32), st = [] ∧ va_P (dC, dI) vwCl (mo_w ad ck x0 (nI x16) (nI x18) (nI x19) x20 (nI x21) (nI x22) x23 x24 x25 (nI x26) x27 (nI x28) (nI x29) (nI x30) (nI x33) x45 (nI x46) (nI x52) (nI x53) (nI x61) (nI x62) (nI x63) (nI x65) x66 f1 f2 f3 (bN 3 q4) (bN 7 q5) (bN 7 q6) (bN 4 q7) f8 (bN 2 q9) (bH q10) f11 (b2 m12_0 m12_1) (b2 m13_0 m13_1) (b2 m14_0 m14_1) (b2m m15_0 m15_1) f17 (bA 159 q31) f32 f34 g_3 f36 f37 (bN 7 q38) f39 f40 f41 (b2 m42_0 m42_1) f43 f44 f47 f48 f49 f50 f51 (bN 13 q54) (bN 120 q55) (bN 120 q56) f57 (bN 120 q58) f59 f60 f64) H ∧ va_D A (mo_w ad ck x0 (nI x16) (nI x18) (nI x19) x20 (nI x21) (nI x22) x23 x24 x25 (nI x26) x27 (nI x28) (nI x29) (nI x30) (nI x33) x45 (nI x46) (nI x52) (nI x53) (nI x61) (nI x62) (nI x63) (nI x65) x66 f1 f2 f3 (bN 3 q4) (bN 7 q5) (bN 7 q6) (bN 4 q7) f8 (bN 2 q9) (bH q10) f11 (b2 m12_0 m12_1) (b2 m13_0 m13_1) (b2 m14_0 m14_1) (b2m m15_0 m15_1) f17 (bA 159 q31) f32 f34 g_3 f36 f37 (bN 7 q38) f39 f40 f41 (b2 m42_0 m42_1) f43 f44 f47 f48 f49 f50 f51 (bN 13 q54) (bN 120 q55) (bN 120 q56) f57 (bN 120 q58) f59 f60 f64) ∧ va_S A s.heap H locs ∧ lv_has ls 10 [(0, .ref (ad 0)), (1, .int 0), (2, .int (nI a1)), (3, .int (-1)), (4, .int (-1)), (5, .int p4), (6, .int (nI a5)), (7, .int 120)]) 17 ?_ (fun j_4 => ?_)
  · rintro H locs ls st ⟨g_3, rfl, hP, hD, hS, hl⟩
    refine lv_aload_n hx hb dX9_comes_17 rfl (lv_at hl 0 rfl) ?_
    refine lv_aload_n hx hb dX9_comes_18 rfl (lv_at hl 0 rfl) ?_
    refine va_get (D := (dC, dI)) (ci := 9) (v := .ref (ad 35)) (C := RX9) (T := TX9) (N := 67) hx hb hts hiX9 hown hK hP 0 rfl rfl 35 (by decide) v_6 (fun _ h9 => h9) rfl dX9_comes_19 ?_
    refine lv_iload hx hb dX9_comes_22 (lv_at hl 5 rfl) ?_
    have hFc := pu_free hD hS hA
    refine va_callv (va_runV (As := [.ref (ad 35), .int p4]) (rest := []) ⟨hx, hb, hml, hown, hts⟩ (c_M_forgets l dC dI _ ad ck x0 x16 x18 x19 x20 x21 x22 x23 x24 x25 x26 x27 x28 x29 x30 x33 x45 x46 x52 x53 x61 x62 x63 x65 x66 f1 f2 f3 q4 q5 q6 q7 f8 q9 q10 f11 m12_0 m12_1 m13_0 m13_1 m14_0 m14_1 m15_0 m15_1 f17 q31 f32 f34 g_3 f36 f37 q38 f39 f40 f41 m42_0 m42_1 f43 f44 f47 f48 f49 f50 f51 q54 q55 q56 f57 q58 f59 f60 f64 p4 hx16 hx18 hx19 hx21 hx22 hx26 hx28 hx29 hx30 hx33 hx46 hx52 hx53 hx61 hx62 hx63 hx65 hm12_0 hm12_1 hm13_0 hm13_1 hm14_0 hm14_1 hm15_0 hm15_1 hm42_0 hm42_1) (cwV 2 hts g_M_comes_0_120_0_M_forgets rfl rfl rfl (by decide +kernel) ⟨Nat.le_of_ble_eq_true rfl, Nat.le_of_ble_eq_true rfl⟩) ⟨pu_bl, va_recv hK hP (ci := 9) (q0 := 0) rfl rfl, pu_in hP hK hD⟩ rfl rfl hl.1 rfl (lv_room (Nat.le_of_ble_eq_true rfl)) dX9_comes_24 ⟨Nat.le_of_ble_eq_true rfl, Nat.le_of_ble_eq_true rfl⟩) hS (fun q _ h => hFc q h) hFc (fun u t H1 locs ht hvm hw hB hz1 hk1 hS => ?_)
    obtain ⟨z35_6, ⟨hP1, -, hD1⟩⟩ := hB
    rw [ht] at hP1
    have hP := hP1
    have hD := pu_all hFc hD1
    clear hP1 hD1 hFc
    clear hk1 hz1 ht hvm
    generalize H1 = H at hP hS ⊢
    refine lv_iconst (v := 0) hx hb dX9_comes_27 (by decide) ?_
    refine lv_istore (lv' := [(8, .int 0), (0, .ref (ad 0)), (1, .int 0), (2, .int (nI a1)), (3, .int (-1)), (4, .int (-1)), (5, .int p4), (6, .int (nI a5)), (7, .int 120)]) hx hb dX9_comes_28 hl (by decide) rfl (fun ls hl => ?_)
    refine pu_while (fun nn H locs ls => ∃ (g_8 : Nat), nn = 120 - g_8 ∧ g_8 ≤ 120 ∧ va_P (dC, dI) vwCl (mo_w ad ck x0 (nI x16) (nI x18) (nI x19) x20 (nI x21) (nI x22) x23 x24 x25 (nI x26) x27 (nI x28) (nI x29) (nI x30) (nI x33) x45 (nI x46) (nI x52) (nI x53) (nI x61) (nI x62) (nI x63) (nI x65) x66 f1 f2 f3 (bN 3 q4) (bN 7 q5) (bN 7 q6) (bN 4 q7) f8 (bN 2 q9) (bH q10) f11 (b2 m12_0 m12_1) (b2 m13_0 m13_1) (b2 m14_0 m14_1) (b2m m15_0 m15_1) f17 (bA 159 q31) f32 f34 z35_6 f36 f37 (bN 7 q38) f39 f40 f41 (b2 m42_0 m42_1) f43 f44 f47 f48 f49 f50 f51 (bN 13 q54) (bN 120 q55) (bN 120 q56) f57 (bN 120 q58) f59 f60 f64) H ∧ va_D A (mo_w ad ck x0 (nI x16) (nI x18) (nI x19) x20 (nI x21) (nI x22) x23 x24 x25 (nI x26) x27 (nI x28) (nI x29) (nI x30) (nI x33) x45 (nI x46) (nI x52) (nI x53) (nI x61) (nI x62) (nI x63) (nI x65) x66 f1 f2 f3 (bN 3 q4) (bN 7 q5) (bN 7 q6) (bN 4 q7) f8 (bN 2 q9) (bH q10) f11 (b2 m12_0 m12_1) (b2 m13_0 m13_1) (b2 m14_0 m14_1) (b2m m15_0 m15_1) f17 (bA 159 q31) f32 f34 z35_6 f36 f37 (bN 7 q38) f39 f40 f41 (b2 m42_0 m42_1) f43 f44 f47 f48 f49 f50 f51 (bN 13 q54) (bN 120 q55) (bN 120 q56) f57 (bN 120 q58) f59 f60 f64) ∧ va_S A s.heap H locs ∧ lv_has ls 10 [(0, .ref (ad 0)), (1, .int 0), (2, .int (nI a1)), (3, .int (-1)), (4, .int (-1)), (5, .int p4), (6, .int (nI a5)), (7, .int 120), (8, .int (nI g_8))]) 30 ?_ _ _ _ _ ⟨0, rfl, (Nat.le_of_ble_eq_true rfl), hP, hD, hS, lv_sub hl [1, 2, 3, 4, 5, 6, 7, 8, 0] rfl⟩
    rintro nn ih_9 H locs ls ⟨g_8, rfl, hg_8, hP, hD, hS, hl⟩
    refine lv_iload hx hb dX9_comes_30 (lv_at hl 8 rfl) ?_
    refine lv_aload_n hx hb dX9_comes_32 rfl (lv_at hl 0 rfl) ?_
    refine va_get (D := (dC, dI)) (ci := 9) (v := .ref (ad 42)) (C := RX9) (T := TX9) (N := 67) hx hb hts hiX9 hown hK hP 0 rfl rfl 42 (by decide) v_15 (fun _ h9 => h9) rfl dX9_comes_33 ?_
    refine lv_iload_n hx hb dX9_comes_36 rfl (lv_at hl 1 rfl) ?_
    refine va_iald hx hb hK hP 27 26 rfl rfl (vp_in_nI (n := 0) (Nat.le_of_ble_eq_true rfl) (Nat.le_of_ble_eq_true rfl)) dX9_comes_37 ?_
    refine lv_topi (fun y_10 ey_10 => ?_)
    have qy_10 := ey_10.trans b2_0
    clear ey_10
    obtain rfl : y_10 = nI m42_0 := qy_10
    refine lv_icmp_ge (tgt := 90) hx hb dX9_comes_38 (by decide) (fun c_11 => ?_) (fun c_11 => ?_)
    · have c_11 : m42_0 ≤ g_8 := (nI_leI (a := m42_0) (b := g_8) (Nat.lt_of_le_of_lt hm42_0 (Nat.le_of_ble_eq_true rfl)) (Nat.lt_of_le_of_lt hg_8 (Nat.le_of_ble_eq_true rfl))).mp c_11
      refine lv_aload_n hx hb dX9_comes_90 rfl (lv_at hl 0 rfl) ?_
      refine va_get (D := (dC, dI)) (ci := 9) (v := .ref (ad 42)) (C := RX9) (T := TX9) (N := 67) hx hb hts hiX9 hown hK hP 0 rfl rfl 42 (by decide) v_15 (fun _ h9 => h9) rfl dX9_comes_91 ?_
      refine lv_iload_n hx hb dX9_comes_94 rfl (lv_at hl 1 rfl) ?_
      refine va_iald hx hb hK hP 27 26 rfl rfl (vp_in_nI (n := 0) (Nat.le_of_ble_eq_true rfl) (Nat.le_of_ble_eq_true rfl)) dX9_comes_95 ?_
      refine lv_topi (fun y_12 ey_12 => ?_)
      have qy_12 := ey_12.trans b2_0
      clear ey_12
      obtain rfl : y_12 = nI m42_0 := qy_12
      refine lv_iload hx hb dX9_comes_96 (lv_at hl 7 rfl) ?_
      refine lv_icmp_eq (tgt := 110) hx hb dX9_comes_98 (by decide) (fun c_13 => ?_) (fun c_13 => ?_)
      · have c_13 : m42_0 = 120 := (nI_eq (a := m42_0) (b := 120) (Nat.lt_of_le_of_lt hm42_0 (Nat.le_of_ble_eq_true rfl)) (Nat.le_of_ble_eq_true rfl)).mp c_13
        refine lv_aload_n hx hb dX9_comes_110 rfl (lv_at hl 0 rfl) ?_
        refine va_get (D := (dC, dI)) (ci := 9) (v := .ref (ad 44)) (C := RX9) (T := TX9) (N := 67) hx hb hts hiX9 hown hK hP 0 rfl rfl 44 (by decide) v_16 (fun _ h9 => h9) rfl dX9_comes_111 ?_
        refine lv_iload_n hx hb dX9_comes_114 rfl (lv_at hl 1 rfl) ?_
        refine lv_iconst (v := 1) hx hb dX9_comes_115 (by decide) ?_
        refine va_zast hx hb hK hP hD hS 29 28 rfl rfl (vp_in_nI (n := 0) (Nat.le_of_ble_eq_true rfl) (Nat.le_of_ble_eq_true rfl)) dX9_comes_116 (fun H locs hP hD hS => ?_)
        have hP : va_P (dC, dI) vwCl (mo_w ad ck x0 (nI x16) (nI x18) (nI x19) x20 (nI x21) (nI x22) x23 x24 x25 (nI x26) x27 (nI x28) (nI x29) (nI x30) (nI x33) x45 (nI x46) (nI x52) (nI x53) (nI x61) (nI x62) (nI x63) (nI x65) x66 f1 f2 f3 (bN 3 q4) (bN 7 q5) (bN 7 q6) (bN 4 q7) f8 (bN 2 q9) (bH q10) f11 (b2 m12_0 m12_1) (b2 m13_0 m13_1) (b2 m14_0 m14_1) (b2m m15_0 m15_1) f17 (bA 159 q31) f32 f34 z35_6 f36 f37 (bN 7 q38) f39 f40 f41 (b2 m42_0 m42_1) f43 (upd f44 (0 : Int32).toNatClampNeg (vp_nar .boolean 1)) f47 f48 f49 f50 f51 (bN 13 q54) (bN 120 q55) (bN 120 q56) f57 (bN 120 q58) f59 f60 f64) H := hP
        have hD : va_D A (mo_w ad ck x0 (nI x16) (nI x18) (nI x19) x20 (nI x21) (nI x22) x23 x24 x25 (nI x26) x27 (nI x28) (nI x29) (nI x30) (nI x33) x45 (nI x46) (nI x52) (nI x53) (nI x61) (nI x62) (nI x63) (nI x65) x66 f1 f2 f3 (bN 3 q4) (bN 7 q5) (bN 7 q6) (bN 4 q7) f8 (bN 2 q9) (bH q10) f11 (b2 m12_0 m12_1) (b2 m13_0 m13_1) (b2 m14_0 m14_1) (b2m m15_0 m15_1) f17 (bA 159 q31) f32 f34 z35_6 f36 f37 (bN 7 q38) f39 f40 f41 (b2 m42_0 m42_1) f43 (upd f44 (0 : Int32).toNatClampNeg (vp_nar .boolean 1)) f47 f48 f49 f50 f51 (bN 13 q54) (bN 120 q55) (bN 120 q56) f57 (bN 120 q58) f59 f60 f64) := hD
        exact W.vret hx hb hr (fun t ht hW => ⟨⟨(), rfl, trivial, ⟨f34, z35_6, q38, f39, f40, f41, (upd f44 (0 : Int32).toNatClampNeg (vp_nar .boolean 1)), m42_0, ⟨by rw [ht]; exact hP, va_K.moved hW.alike hK, hD⟩, hm42_0, hgr, by omega⟩⟩, hS.F ht⟩) hS.2.2 dX9_comes_117
      · have c_13 : ¬ m42_0 = 120 := fun z => c_13 ((nI_eq (a := m42_0) (b := 120) (Nat.lt_of_le_of_lt hm42_0 (Nat.le_of_ble_eq_true rfl)) (Nat.le_of_ble_eq_true rfl)).mpr z)
        refine lv_aload_n hx hb dX9_comes_101 rfl (lv_at hl 0 rfl) ?_
        refine va_get (D := (dC, dI)) (ci := 9) (v := .ref (ad 44)) (C := RX9) (T := TX9) (N := 67) hx hb hts hiX9 hown hK hP 0 rfl rfl 44 (by decide) v_16 (fun _ h9 => h9) rfl dX9_comes_102 ?_
        refine lv_iload_n hx hb dX9_comes_105 rfl (lv_at hl 1 rfl) ?_
        refine va_zald hx hb hK hP 29 28 rfl rfl (vp_in_nI (n := 0) (Nat.le_of_ble_eq_true rfl) (Nat.le_of_ble_eq_true rfl)) dX9_comes_106 ?_
        refine lv_topi (fun y_14 ey_14 => ?_)
        refine lv_if_eq (tgt := 118) hx hb dX9_comes_107 (by decide) (fun c_15 => ?_) (fun c_15 => ?_)
        · refine lv_iload_n hx hb dX9_comes_118 rfl (lv_at hl 1 rfl) ?_
          refine lv_aload_n hx hb dX9_comes_119 rfl (lv_at hl 0 rfl) ?_
          refine va_get (D := (dC, dI)) (ci := 9) (v := .ref (ad 42)) (C := RX9) (T := TX9) (N := 67) hx hb hts hiX9 hown hK hP 0 rfl rfl 42 (by decide) v_15 (fun _ h9 => h9) rfl dX9_comes_120 ?_
          refine lv_iload_n hx hb dX9_comes_123 rfl (lv_at hl 1 rfl) ?_
          refine va_iald hx hb hK hP 27 26 rfl rfl (vp_in_nI (n := 0) (Nat.le_of_ble_eq_true rfl) (Nat.le_of_ble_eq_true rfl)) dX9_comes_124 ?_
          refine lv_topi (fun y_16 ey_16 => ?_)
          have qy_16 := ey_16.trans b2_0
          clear ey_16
          obtain rfl : y_16 = nI m42_0 := qy_16
          refine va_calli (va_runS (As := [.int 0, .int (nI m42_0)]) (rest := []) ⟨hx, hb, hml, hown, hts⟩ (c_M_spotOf_0 l dC dI _ ad ck x0 x16 x18 x19 x20 x21 x22 x23 x24 x25 x26 x27 x28 x29 x30 x33 x45 x46 x52 x53 x61 x62 x63 x65 x66 f1 f2 f3 q4 q5 q6 q7 f8 q9 q10 f11 m12_0 m12_1 m13_0 m13_1 m14_0 m14_1 m15_0 m15_1 f17 q31 f32 f34 z35_6 f36 f37 q38 f39 f40 f41 m42_0 m42_1 f43 f44 f47 f48 f49 f50 f51 q54 q55 q56 f57 q58 f59 f60 f64 m42_0 hx16 hx18 hx19 hx21 hx22 hx26 hx28 hx29 hx30 hx33 hx46 hx52 hx53 hx61 hx62 hx63 hx65 hm12_0 hm12_1 hm13_0 hm13_1 hm14_0 hm14_1 hm15_0 hm15_1 hm42_0 hm42_1 (Nat.le_trans hm42_0 (Nat.le_of_ble_eq_true rfl))) (va_cwS 2 hts g_M_comes_0_120_0_M_spotOf_0 rfl rfl rfl (by decide +kernel) ⟨Nat.le_of_ble_eq_true rfl, Nat.le_of_ble_eq_true rfl⟩) ⟨pu_bl, pu_in hP hK hD⟩ rfl rfl hl.1 rfl (lv_room (Nat.le_of_ble_eq_true rfl)) dX9_comes_125 ⟨Nat.le_of_ble_eq_true rfl, Nat.le_of_ble_eq_true rfl⟩) hS (fun q _ h => pu_fr hS hA q h) (pu_fr hS hA) (fun r_17 u t H1 locs ht hvm hw hB hz1 hk1 hS => ?_)
          have hP := pu_keep hP hk1
          clear hk1 hz1 ht hvm
          generalize H1 = H at hP hS ⊢
          obtain rfl : r_17 = nI (m42_0) := hw
          refine lv_istore (lv' := [(8, .int (nI m42_0)), (0, .ref (ad 0)), (1, .int 0), (2, .int (nI a1)), (3, .int (-1)), (4, .int (-1)), (5, .int p4), (6, .int (nI a5)), (7, .int 120)]) hx hb dX9_comes_128 hl (by decide) rfl (fun ls hl => ?_)
          refine lv_aload_n hx hb dX9_comes_130 rfl (lv_at hl 1 rfl) ?_
          refine va_get (D := (dC, dI)) (ci := 9) (v := .ref (ad 35)) (C := RX9) (T := TX9) (N := 67) hx hb hts hiX9 hown hK hP 0 rfl rfl 35 (by decide) v_6 (fun _ h9 => h9) rfl dX9_comes_131 ?_
          refine lv_iconst (v := 0) hx hb dX9_comes_134 (by decide) ?_
          refine lv_aload_n hx hb dX9_comes_135 rfl (lv_at hl 1 rfl) ?_
          refine va_get (D := (dC, dI)) (ci := 9) (v := .ref (ad 34)) (C := RX9) (T := TX9) (N := 67) hx hb hts hiX9 hown hK hP 0 rfl rfl 34 (by decide) v_20 (fun _ h9 => h9) rfl dX9_comes_136 ?_
          refine lv_bipush (v := 25) hx hb dX9_comes_139 (by decide) ?_
          refine lv_iload hx hb dX9_comes_141 (lv_at hl 0 rfl) ?_
          refine lv_imul hx hb dX9_comes_143 ?_
          refine lv_topi (fun y_18 ey_18 => ?_)
          obtain rfl : y_18 = (nI (25 * m42_0)) := ey_18.trans (pk_mul 25 m42_0)
          have hFc := pu_free hD hS hA
          refine va_callv (va_runS (As := [.ref (ad 35), .int 0, .ref (ad 34), .int (nI (25 * m42_0))]) (rest := []) ⟨hx, hb, hml, hown, hts⟩ (c_M_copies_zn l dC dI _ ad ck x0 x16 x18 x19 x20 x21 x22 x23 x24 x25 x26 x27 x28 x29 x30 x33 x45 x46 x52 x53 x61 x62 x63 x65 x66 f1 f2 f3 q4 q5 q6 q7 f8 q9 q10 f11 m12_0 m12_1 m13_0 m13_1 m14_0 m14_1 m15_0 m15_1 f17 q31 f32 f34 z35_6 f36 f37 q38 f39 f40 f41 m42_0 m42_1 f43 f44 f47 f48 f49 f50 f51 q54 q55 q56 f57 q58 f59 f60 f64 (25 * m42_0) hx16 hx18 hx19 hx21 hx22 hx26 hx28 hx29 hx30 hx33 hx46 hx52 hx53 hx61 hx62 hx63 hx65 hm12_0 hm12_1 hm13_0 hm13_1 hm14_0 hm14_1 hm15_0 hm15_1 hm42_0 hm42_1 (by omega)) (va_cwS 4 hts g_M_comes_0_120_0_M_copies_zn rfl rfl rfl (by decide +kernel) ⟨Nat.le_of_ble_eq_true rfl, Nat.le_of_ble_eq_true rfl⟩) ⟨pu_bl, pu_in hP hK hD⟩ rfl rfl hl.1 rfl (lv_room (Nat.le_of_ble_eq_true rfl)) dX9_comes_144 ⟨Nat.le_of_ble_eq_true rfl, Nat.le_of_ble_eq_true rfl⟩) hS (fun q _ h => hFc q h) hFc (fun u t H1 locs ht hvm hw hB hz1 hk1 hS => ?_)
          obtain ⟨z34_20, ⟨hP1, -, hD1⟩⟩ := hB
          rw [ht] at hP1
          have hP := hP1
          have hD := pu_all hFc hD1
          clear hP1 hD1 hFc
          clear hk1 hz1 ht hvm
          generalize H1 = H at hP hS ⊢
          refine lv_aload_n hx hb dX9_comes_147 rfl (lv_at hl 1 rfl) ?_
          refine va_get (D := (dC, dI)) (ci := 9) (v := .ref (ad 38)) (C := RX9) (T := TX9) (N := 67) hx hb hts hiX9 hown hK hP 0 rfl rfl 38 (by decide) v_24 (fun _ h9 => h9) rfl dX9_comes_148 ?_
          refine lv_iload hx hb dX9_comes_151 (lv_at hl 0 rfl) ?_
          refine lv_iload_n hx hb dX9_comes_153 rfl (lv_at hl 3 rfl) ?_
          refine va_iast hx hb hK hP hD hS 23 22 rfl rfl (vp_in_nI (n := m42_0) (Nat.lt_of_le_of_lt hm42_0 (Nat.le_of_ble_eq_true rfl)) (Nat.le_of_ble_eq_true rfl)) dX9_comes_154 (fun H locs hP hD hS => ?_)
          obtain ⟨q_21, eq_21, kq_21⟩ := bN_up 7 q38 (((nI m42_0) : Int32).toNatClampNeg) (v := a1) ha1
          have hP : va_P (dC, dI) vwCl (mo_w ad ck x0 (nI x16) (nI x18) (nI x19) x20 (nI x21) (nI x22) x23 x24 x25 (nI x26) x27 (nI x28) (nI x29) (nI x30) (nI x33) x45 (nI x46) (nI x52) (nI x53) (nI x61) (nI x62) (nI x63) (nI x65) x66 f1 f2 f3 (bN 3 q4) (bN 7 q5) (bN 7 q6) (bN 4 q7) f8 (bN 2 q9) (bH q10) f11 (b2 m12_0 m12_1) (b2 m13_0 m13_1) (b2 m14_0 m14_1) (b2m m15_0 m15_1) f17 (bA 159 q31) f32 z34_20 z35_6 f36 f37 (bN 7 q_21) f39 f40 f41 (b2 m42_0 m42_1) f43 f44 f47 f48 f49 f50 f51 (bN 13 q54) (bN 120 q55) (bN 120 q56) f57 (bN 120 q58) f59 f60 f64) H := by rw [← eq_21]; exact hP
          have hD : va_D A (mo_w ad ck x0 (nI x16) (nI x18) (nI x19) x20 (nI x21) (nI x22) x23 x24 x25 (nI x26) x27 (nI x28) (nI x29) (nI x30) (nI x33) x45 (nI x46) (nI x52) (nI x53) (nI x61) (nI x62) (nI x63) (nI x65) x66 f1 f2 f3 (bN 3 q4) (bN 7 q5) (bN 7 q6) (bN 4 q7) f8 (bN 2 q9) (bH q10) f11 (b2 m12_0 m12_1) (b2 m13_0 m13_1) (b2 m14_0 m14_1) (b2m m15_0 m15_1) f17 (bA 159 q31) f32 z34_20 z35_6 f36 f37 (bN 7 q_21) f39 f40 f41 (b2 m42_0 m42_1) f43 f44 f47 f48 f49 f50 f51 (bN 13 q54) (bN 120 q55) (bN 120 q56) f57 (bN 120 q58) f59 f60 f64) := by rw [← eq_21]; exact hD
          refine lv_aload_n hx hb dX9_comes_155 rfl (lv_at hl 1 rfl) ?_
          refine va_get (D := (dC, dI)) (ci := 9) (v := .ref (ad 39)) (C := RX9) (T := TX9) (N := 67) hx hb hts hiX9 hown hK hP 0 rfl rfl 39 (by decide) v_25 (fun _ h9 => h9) rfl dX9_comes_156 ?_
          refine lv_iload hx hb dX9_comes_159 (lv_at hl 0 rfl) ?_
          refine lv_iload_n hx hb dX9_comes_161 rfl (lv_at hl 4 rfl) ?_
          refine va_iast hx hb hK hP hD hS 24 23 rfl rfl (vp_in_nI (n := m42_0) (Nat.lt_of_le_of_lt hm42_0 (Nat.le_of_ble_eq_true rfl)) (Nat.le_of_ble_eq_true rfl)) dX9_comes_162 (fun H locs hP hD hS => ?_)
          have hP : va_P (dC, dI) vwCl (mo_w ad ck x0 (nI x16) (nI x18) (nI x19) x20 (nI x21) (nI x22) x23 x24 x25 (nI x26) x27 (nI x28) (nI x29) (nI x30) (nI x33) x45 (nI x46) (nI x52) (nI x53) (nI x61) (nI x62) (nI x63) (nI x65) x66 f1 f2 f3 (bN 3 q4) (bN 7 q5) (bN 7 q6) (bN 4 q7) f8 (bN 2 q9) (bH q10) f11 (b2 m12_0 m12_1) (b2 m13_0 m13_1) (b2 m14_0 m14_1) (b2m m15_0 m15_1) f17 (bA 159 q31) f32 z34_20 z35_6 f36 f37 (bN 7 q_21) (upd f39 ((nI m42_0) : Int32).toNatClampNeg (-1)) f40 f41 (b2 m42_0 m42_1) f43 f44 f47 f48 f49 f50 f51 (bN 13 q54) (bN 120 q55) (bN 120 q56) f57 (bN 120 q58) f59 f60 f64) H := hP
          have hD : va_D A (mo_w ad ck x0 (nI x16) (nI x18) (nI x19) x20 (nI x21) (nI x22) x23 x24 x25 (nI x26) x27 (nI x28) (nI x29) (nI x30) (nI x33) x45 (nI x46) (nI x52) (nI x53) (nI x61) (nI x62) (nI x63) (nI x65) x66 f1 f2 f3 (bN 3 q4) (bN 7 q5) (bN 7 q6) (bN 4 q7) f8 (bN 2 q9) (bH q10) f11 (b2 m12_0 m12_1) (b2 m13_0 m13_1) (b2 m14_0 m14_1) (b2m m15_0 m15_1) f17 (bA 159 q31) f32 z34_20 z35_6 f36 f37 (bN 7 q_21) (upd f39 ((nI m42_0) : Int32).toNatClampNeg (-1)) f40 f41 (b2 m42_0 m42_1) f43 f44 f47 f48 f49 f50 f51 (bN 13 q54) (bN 120 q55) (bN 120 q56) f57 (bN 120 q58) f59 f60 f64) := hD
          refine lv_aload_n hx hb dX9_comes_163 rfl (lv_at hl 1 rfl) ?_
          refine va_get (D := (dC, dI)) (ci := 9) (v := .ref (ad 40)) (C := RX9) (T := TX9) (N := 67) hx hb hts hiX9 hown hK hP 0 rfl rfl 40 (by decide) v_26 (fun _ h9 => h9) rfl dX9_comes_164 ?_
          refine lv_iload hx hb dX9_comes_167 (lv_at hl 0 rfl) ?_
          refine lv_iload hx hb dX9_comes_169 (lv_at hl 5 rfl) ?_
          refine va_iast hx hb hK hP hD hS 25 24 rfl rfl (vp_in_nI (n := m42_0) (Nat.lt_of_le_of_lt hm42_0 (Nat.le_of_ble_eq_true rfl)) (Nat.le_of_ble_eq_true rfl)) dX9_comes_171 (fun H locs hP hD hS => ?_)
          have hP : va_P (dC, dI) vwCl (mo_w ad ck x0 (nI x16) (nI x18) (nI x19) x20 (nI x21) (nI x22) x23 x24 x25 (nI x26) x27 (nI x28) (nI x29) (nI x30) (nI x33) x45 (nI x46) (nI x52) (nI x53) (nI x61) (nI x62) (nI x63) (nI x65) x66 f1 f2 f3 (bN 3 q4) (bN 7 q5) (bN 7 q6) (bN 4 q7) f8 (bN 2 q9) (bH q10) f11 (b2 m12_0 m12_1) (b2 m13_0 m13_1) (b2 m14_0 m14_1) (b2m m15_0 m15_1) f17 (bA 159 q31) f32 z34_20 z35_6 f36 f37 (bN 7 q_21) (upd f39 ((nI m42_0) : Int32).toNatClampNeg (-1)) (upd f40 ((nI m42_0) : Int32).toNatClampNeg (-1)) f41 (b2 m42_0 m42_1) f43 f44 f47 f48 f49 f50 f51 (bN 13 q54) (bN 120 q55) (bN 120 q56) f57 (bN 120 q58) f59 f60 f64) H := hP
          have hD : va_D A (mo_w ad ck x0 (nI x16) (nI x18) (nI x19) x20 (nI x21) (nI x22) x23 x24 x25 (nI x26) x27 (nI x28) (nI x29) (nI x30) (nI x33) x45 (nI x46) (nI x52) (nI x53) (nI x61) (nI x62) (nI x63) (nI x65) x66 f1 f2 f3 (bN 3 q4) (bN 7 q5) (bN 7 q6) (bN 4 q7) f8 (bN 2 q9) (bH q10) f11 (b2 m12_0 m12_1) (b2 m13_0 m13_1) (b2 m14_0 m14_1) (b2m m15_0 m15_1) f17 (bA 159 q31) f32 z34_20 z35_6 f36 f37 (bN 7 q_21) (upd f39 ((nI m42_0) : Int32).toNatClampNeg (-1)) (upd f40 ((nI m42_0) : Int32).toNatClampNeg (-1)) f41 (b2 m42_0 m42_1) f43 f44 f47 f48 f49 f50 f51 (bN 13 q54) (bN 120 q55) (bN 120 q56) f57 (bN 120 q58) f59 f60 f64) := hD
          refine lv_aload_n hx hb dX9_comes_172 rfl (lv_at hl 1 rfl) ?_
          refine va_get (D := (dC, dI)) (ci := 9) (v := .ref (ad 41)) (C := RX9) (T := TX9) (N := 67) hx hb hts hiX9 hown hK hP 0 rfl rfl 41 (by decide) v_27 (fun _ h9 => h9) rfl dX9_comes_173 ?_
          refine lv_iload hx hb dX9_comes_176 (lv_at hl 0 rfl) ?_
          refine lv_iload_n hx hb dX9_comes_178 rfl (lv_at hl 4 rfl) ?_
          refine lv_iconst (v := (-1)) hx hb dX9_comes_179 (by decide) ?_
          refine lv_icmp_ne (tgt := 187) hx hb dX9_comes_180 (by decide) (fun z => absurd z (by decide)) (fun _ => ?_)
          refine lv_iconst (v := 0) hx hb dX9_comes_183 (by decide) ?_
          refine lv_goto (tgt := 199) hx hb dX9_comes_184 (by decide) ?_
          refine va_iast hx hb hK hP hD hS 26 25 rfl rfl (vp_in_nI (n := m42_0) (Nat.lt_of_le_of_lt hm42_0 (Nat.le_of_ble_eq_true rfl)) (Nat.le_of_ble_eq_true rfl)) dX9_comes_199 (fun H locs hP hD hS => ?_)
          have hP : va_P (dC, dI) vwCl (mo_w ad ck x0 (nI x16) (nI x18) (nI x19) x20 (nI x21) (nI x22) x23 x24 x25 (nI x26) x27 (nI x28) (nI x29) (nI x30) (nI x33) x45 (nI x46) (nI x52) (nI x53) (nI x61) (nI x62) (nI x63) (nI x65) x66 f1 f2 f3 (bN 3 q4) (bN 7 q5) (bN 7 q6) (bN 4 q7) f8 (bN 2 q9) (bH q10) f11 (b2 m12_0 m12_1) (b2 m13_0 m13_1) (b2 m14_0 m14_1) (b2m m15_0 m15_1) f17 (bA 159 q31) f32 z34_20 z35_6 f36 f37 (bN 7 q_21) (upd f39 ((nI m42_0) : Int32).toNatClampNeg (-1)) (upd f40 ((nI m42_0) : Int32).toNatClampNeg (-1)) (upd f41 ((nI m42_0) : Int32).toNatClampNeg 0) (b2 m42_0 m42_1) f43 f44 f47 f48 f49 f50 f51 (bN 13 q54) (bN 120 q55) (bN 120 q56) f57 (bN 120 q58) f59 f60 f64) H := hP
          have hD : va_D A (mo_w ad ck x0 (nI x16) (nI x18) (nI x19) x20 (nI x21) (nI x22) x23 x24 x25 (nI x26) x27 (nI x28) (nI x29) (nI x30) (nI x33) x45 (nI x46) (nI x52) (nI x53) (nI x61) (nI x62) (nI x63) (nI x65) x66 f1 f2 f3 (bN 3 q4) (bN 7 q5) (bN 7 q6) (bN 4 q7) f8 (bN 2 q9) (bH q10) f11 (b2 m12_0 m12_1) (b2 m13_0 m13_1) (b2 m14_0 m14_1) (b2m m15_0 m15_1) f17 (bA 159 q31) f32 z34_20 z35_6 f36 f37 (bN 7 q_21) (upd f39 ((nI m42_0) : Int32).toNatClampNeg (-1)) (upd f40 ((nI m42_0) : Int32).toNatClampNeg (-1)) (upd f41 ((nI m42_0) : Int32).toNatClampNeg 0) (b2 m42_0 m42_1) f43 f44 f47 f48 f49 f50 f51 (bN 13 q54) (bN 120 q55) (bN 120 q56) f57 (bN 120 q58) f59 f60 f64) := hD
          refine lv_aload_n hx hb dX9_comes_200 rfl (lv_at hl 1 rfl) ?_
          refine va_get (D := (dC, dI)) (ci := 9) (v := .ref (ad 42)) (C := RX9) (T := TX9) (N := 67) hx hb hts hiX9 hown hK hP 0 rfl rfl 42 (by decide) v_15 (fun _ h9 => h9) rfl dX9_comes_201 ?_
          refine lv_iload_n hx hb dX9_comes_204 rfl (lv_at hl 2 rfl) ?_
          refine lv_dup2_11 hx hb dX9_comes_205 rfl rfl ?_
          refine va_iald hx hb hK hP 27 26 rfl rfl (vp_in_nI (n := 0) (Nat.le_of_ble_eq_true rfl) (Nat.le_of_ble_eq_true rfl)) dX9_comes_206 ?_
          refine lv_topi (fun y_22 ey_22 => ?_)
          have qy_22 := ey_22.trans b2_0
          clear ey_22
          obtain rfl : y_22 = nI m42_0 := qy_22
          refine lv_iconst (v := 1) hx hb dX9_comes_207 (by decide) ?_
          refine lv_iadd hx hb dX9_comes_208 ?_
          refine lv_topi (fun y_23 ey_23 => ?_)
          obtain rfl : y_23 = (nI (m42_0 + 1)) := ey_23.trans (nI_add m42_0 1)
          refine va_iast hx hb hK hP hD hS 27 26 rfl rfl (vp_in_nI (n := 0) (Nat.le_of_ble_eq_true rfl) (Nat.le_of_ble_eq_true rfl)) dX9_comes_209 (fun H locs hP hD hS => ?_)
          have hP : va_P (dC, dI) vwCl (mo_w ad ck x0 (nI x16) (nI x18) (nI x19) x20 (nI x21) (nI x22) x23 x24 x25 (nI x26) x27 (nI x28) (nI x29) (nI x30) (nI x33) x45 (nI x46) (nI x52) (nI x53) (nI x61) (nI x62) (nI x63) (nI x65) x66 f1 f2 f3 (bN 3 q4) (bN 7 q5) (bN 7 q6) (bN 4 q7) f8 (bN 2 q9) (bH q10) f11 (b2 m12_0 m12_1) (b2 m13_0 m13_1) (b2 m14_0 m14_1) (b2m m15_0 m15_1) f17 (bA 159 q31) f32 z34_20 z35_6 f36 f37 (bN 7 q_21) (upd f39 ((nI m42_0) : Int32).toNatClampNeg (-1)) (upd f40 ((nI m42_0) : Int32).toNatClampNeg (-1)) (upd f41 ((nI m42_0) : Int32).toNatClampNeg 0) (b2 (m42_0 + 1) m42_1) f43 f44 f47 f48 f49 f50 f51 (bN 13 q54) (bN 120 q55) (bN 120 q56) f57 (bN 120 q58) f59 f60 f64) H := by rw [← b2_up0 (a := m42_0) (b := m42_1) (v := (m42_0 + 1))]; exact hP
          have hD : va_D A (mo_w ad ck x0 (nI x16) (nI x18) (nI x19) x20 (nI x21) (nI x22) x23 x24 x25 (nI x26) x27 (nI x28) (nI x29) (nI x30) (nI x33) x45 (nI x46) (nI x52) (nI x53) (nI x61) (nI x62) (nI x63) (nI x65) x66 f1 f2 f3 (bN 3 q4) (bN 7 q5) (bN 7 q6) (bN 4 q7) f8 (bN 2 q9) (bH q10) f11 (b2 m12_0 m12_1) (b2 m13_0 m13_1) (b2 m14_0 m14_1) (b2m m15_0 m15_1) f17 (bA 159 q31) f32 z34_20 z35_6 f36 f37 (bN 7 q_21) (upd f39 ((nI m42_0) : Int32).toNatClampNeg (-1)) (upd f40 ((nI m42_0) : Int32).toNatClampNeg (-1)) (upd f41 ((nI m42_0) : Int32).toNatClampNeg 0) (b2 (m42_0 + 1) m42_1) f43 f44 f47 f48 f49 f50 f51 (bN 13 q54) (bN 120 q55) (bN 120 q56) f57 (bN 120 q58) f59 f60 f64) := by rw [← b2_up0 (a := m42_0) (b := m42_1) (v := (m42_0 + 1))]; exact hD
          exact W.vret hx hb hr (fun t ht hW => ⟨⟨(), rfl, trivial, ⟨z34_20, z35_6, q_21, (upd f39 ((nI m42_0) : Int32).toNatClampNeg (-1)), (upd f40 ((nI m42_0) : Int32).toNatClampNeg (-1)), (upd f41 ((nI m42_0) : Int32).toNatClampNeg 0), f44, (m42_0 + 1), ⟨by rw [ht]; exact hP, va_K.moved hW.alike hK, hD⟩, (by omega), gz_first hgr (by omega), by omega⟩⟩, hS.F ht⟩) hS.2.2 dX9_comes_210
        · refine lv_aload_n hx hb dX9_comes_110 rfl (lv_at hl 0 rfl) ?_
          refine va_get (D := (dC, dI)) (ci := 9) (v := .ref (ad 44)) (C := RX9) (T := TX9) (N := 67) hx hb hts hiX9 hown hK hP 0 rfl rfl 44 (by decide) v_16 (fun _ h9 => h9) rfl dX9_comes_111 ?_
          refine lv_iload_n hx hb dX9_comes_114 rfl (lv_at hl 1 rfl) ?_
          refine lv_iconst (v := 1) hx hb dX9_comes_115 (by decide) ?_
          refine va_zast hx hb hK hP hD hS 29 28 rfl rfl (vp_in_nI (n := 0) (Nat.le_of_ble_eq_true rfl) (Nat.le_of_ble_eq_true rfl)) dX9_comes_116 (fun H locs hP hD hS => ?_)
          have hP : va_P (dC, dI) vwCl (mo_w ad ck x0 (nI x16) (nI x18) (nI x19) x20 (nI x21) (nI x22) x23 x24 x25 (nI x26) x27 (nI x28) (nI x29) (nI x30) (nI x33) x45 (nI x46) (nI x52) (nI x53) (nI x61) (nI x62) (nI x63) (nI x65) x66 f1 f2 f3 (bN 3 q4) (bN 7 q5) (bN 7 q6) (bN 4 q7) f8 (bN 2 q9) (bH q10) f11 (b2 m12_0 m12_1) (b2 m13_0 m13_1) (b2 m14_0 m14_1) (b2m m15_0 m15_1) f17 (bA 159 q31) f32 f34 z35_6 f36 f37 (bN 7 q38) f39 f40 f41 (b2 m42_0 m42_1) f43 (upd f44 (0 : Int32).toNatClampNeg (vp_nar .boolean 1)) f47 f48 f49 f50 f51 (bN 13 q54) (bN 120 q55) (bN 120 q56) f57 (bN 120 q58) f59 f60 f64) H := hP
          have hD : va_D A (mo_w ad ck x0 (nI x16) (nI x18) (nI x19) x20 (nI x21) (nI x22) x23 x24 x25 (nI x26) x27 (nI x28) (nI x29) (nI x30) (nI x33) x45 (nI x46) (nI x52) (nI x53) (nI x61) (nI x62) (nI x63) (nI x65) x66 f1 f2 f3 (bN 3 q4) (bN 7 q5) (bN 7 q6) (bN 4 q7) f8 (bN 2 q9) (bH q10) f11 (b2 m12_0 m12_1) (b2 m13_0 m13_1) (b2 m14_0 m14_1) (b2m m15_0 m15_1) f17 (bA 159 q31) f32 f34 z35_6 f36 f37 (bN 7 q38) f39 f40 f41 (b2 m42_0 m42_1) f43 (upd f44 (0 : Int32).toNatClampNeg (vp_nar .boolean 1)) f47 f48 f49 f50 f51 (bN 13 q54) (bN 120 q55) (bN 120 q56) f57 (bN 120 q58) f59 f60 f64) := hD
          exact W.vret hx hb hr (fun t ht hW => ⟨⟨(), rfl, trivial, ⟨f34, z35_6, q38, f39, f40, f41, (upd f44 (0 : Int32).toNatClampNeg (vp_nar .boolean 1)), m42_0, ⟨by rw [ht]; exact hP, va_K.moved hW.alike hK, hD⟩, hm42_0, hgr, by omega⟩⟩, hS.F ht⟩) hS.2.2 dX9_comes_117
    · have c_11 : ¬ m42_0 ≤ g_8 := fun z => c_11 ((nI_leI (a := m42_0) (b := g_8) (Nat.lt_of_le_of_lt hm42_0 (Nat.le_of_ble_eq_true rfl)) (Nat.lt_of_le_of_lt hg_8 (Nat.le_of_ble_eq_true rfl))).mpr z)
      refine lv_iload_n hx hb dX9_comes_41 rfl (lv_at hl 1 rfl) ?_
      refine lv_iload hx hb dX9_comes_42 (lv_at hl 8 rfl) ?_
      refine va_calli (va_runS (As := [.int 0, .int (nI g_8)]) (rest := []) ⟨hx, hb, hml, hown, hts⟩ (c_M_spotOf_0 l dC dI _ ad ck x0 x16 x18 x19 x20 x21 x22 x23 x24 x25 x26 x27 x28 x29 x30 x33 x45 x46 x52 x53 x61 x62 x63 x65 x66 f1 f2 f3 q4 q5 q6 q7 f8 q9 q10 f11 m12_0 m12_1 m13_0 m13_1 m14_0 m14_1 m15_0 m15_1 f17 q31 f32 f34 z35_6 f36 f37 q38 f39 f40 f41 m42_0 m42_1 f43 f44 f47 f48 f49 f50 f51 q54 q55 q56 f57 q58 f59 f60 f64 g_8 hx16 hx18 hx19 hx21 hx22 hx26 hx28 hx29 hx30 hx33 hx46 hx52 hx53 hx61 hx62 hx63 hx65 hm12_0 hm12_1 hm13_0 hm13_1 hm14_0 hm14_1 hm15_0 hm15_1 hm42_0 hm42_1 (Nat.le_trans hg_8 (Nat.le_of_ble_eq_true rfl))) (va_cwS 2 hts g_M_comes_0_120_0_M_spotOf_0 rfl rfl rfl (by decide +kernel) ⟨Nat.le_of_ble_eq_true rfl, Nat.le_of_ble_eq_true rfl⟩) ⟨pu_bl, pu_in hP hK hD⟩ rfl rfl hl.1 rfl (lv_room (Nat.le_of_ble_eq_true rfl)) dX9_comes_44 ⟨Nat.le_of_ble_eq_true rfl, Nat.le_of_ble_eq_true rfl⟩) hS (fun q _ h => pu_fr hS hA q h) (pu_fr hS hA) (fun r_24 u t H1 locs ht hvm hw hB hz1 hk1 hS => ?_)
      have hP := pu_keep hP hk1
      clear hk1 hz1 ht hvm
      generalize H1 = H at hP hS ⊢
      obtain rfl : r_24 = nI (g_8) := hw
      refine lv_istore (lv' := [(9, .int (nI g_8)), (0, .ref (ad 0)), (1, .int 0), (2, .int (nI a1)), (3, .int (-1)), (4, .int (-1)), (5, .int p4), (6, .int (nI a5)), (7, .int 120), (8, .int (nI g_8))]) hx hb dX9_comes_47 hl (by decide) rfl (fun ls hl => ?_)
      refine lv_aload_n hx hb dX9_comes_49 rfl (lv_at hl 1 rfl) ?_
      refine va_get (D := (dC, dI)) (ci := 9) (v := .ref (ad 38)) (C := RX9) (T := TX9) (N := 67) hx hb hts hiX9 hown hK hP 0 rfl rfl 38 (by decide) v_24 (fun _ h9 => h9) rfl dX9_comes_50 ?_
      refine lv_iload hx hb dX9_comes_53 (lv_at hl 0 rfl) ?_
      refine va_iald hx hb hK hP 23 22 rfl rfl (vp_in_nI (n := g_8) (Nat.lt_of_le_of_lt hg_8 (Nat.le_of_ble_eq_true rfl)) (Nat.le_of_ble_eq_true rfl)) dX9_comes_55 ?_
      refine lv_topi (fun y_25 ey_25 => ?_)
      obtain ⟨u_26, hu_26, qu_26⟩ := bN_get 7 q38 (((nI g_8) : Int32).toNatClampNeg)
      obtain rfl : y_25 = nI u_26 := ey_25.trans qu_26
      refine lv_iload_n hx hb dX9_comes_56 rfl (lv_at hl 3 rfl) ?_
      refine lv_icmp_ne (tgt := 84) hx hb dX9_comes_57 (by decide) (fun c_27 => ?_) (fun c_27 => ?_)
      · have c_27 : ¬ u_26 = a1 := fun z => c_27 ((nI_eq (a := u_26) (b := a1) (Nat.lt_of_le_of_lt hu_26 (Nat.le_of_ble_eq_true rfl)) (Nat.lt_of_le_of_lt ha1 (Nat.le_of_ble_eq_true rfl))).mpr z)
        refine lv_iinc (v := (nI (g_8 + 1))) (lv' := [(8, .int (nI (g_8 + 1))), (9, .int (nI g_8)), (0, .ref (ad 0)), (1, .int 0), (2, .int (nI a1)), (3, .int (-1)), (4, .int (-1)), (5, .int p4), (6, .int (nI a5)), (7, .int 120)]) hx hb dX9_comes_84 hl (k := 9) rfl (nI_1 _) (by decide) rfl (fun ls hl => ?_)
        refine lv_goto (tgt := 30) hx hb dX9_comes_87 (by decide) ?_
        exact ih_9 (120 - (g_8 + 1)) (by omega) _ _ _ ⟨(g_8 + 1), rfl, (by omega), hP, hD, hS, lv_sub hl [2, 3, 4, 5, 6, 7, 8, 9, 0] rfl⟩
      · have c_27 : u_26 = a1 := (nI_eq (a := u_26) (b := a1) (Nat.lt_of_le_of_lt hu_26 (Nat.le_of_ble_eq_true rfl)) (Nat.lt_of_le_of_lt ha1 (Nat.le_of_ble_eq_true rfl))).mp c_27
        refine lv_aload_n hx hb dX9_comes_60 rfl (lv_at hl 1 rfl) ?_
        refine lv_iload hx hb dX9_comes_61 (lv_at hl 0 rfl) ?_
        refine lv_aload_n hx hb dX9_comes_63 rfl (lv_at hl 1 rfl) ?_
        refine va_get (D := (dC, dI)) (ci := 9) (v := .ref (ad 35)) (C := RX9) (T := TX9) (N := 67) hx hb hts hiX9 hown hK hP 0 rfl rfl 35 (by decide) v_6 (fun _ h9 => h9) rfl dX9_comes_64 ?_
        refine lv_iload hx hb dX9_comes_67 (lv_at hl 7 rfl) ?_
        refine pu_join (fun H locs ls st => ∃ (g_28 : Nat), st = [.int (nI g_28), .ref (ad 35), .int (nI g_8), .ref (ad 0)] ∧ g_28 ≤ 1 ∧ va_P (dC, dI) vwCl (mo_w ad ck x0 (nI x16) (nI x18) (nI x19) x20 (nI x21) (nI x22) x23 x24 x25 (nI x26) x27 (nI x28) (nI x29) (nI x30) (nI x33) x45 (nI x46) (nI x52) (nI x53) (nI x61) (nI x62) (nI x63) (nI x65) x66 f1 f2 f3 (bN 3 q4) (bN 7 q5) (bN 7 q6) (bN 4 q7) f8 (bN 2 q9) (bH q10) f11 (b2 m12_0 m12_1) (b2 m13_0 m13_1) (b2 m14_0 m14_1) (b2m m15_0 m15_1) f17 (bA 159 q31) f32 f34 z35_6 f36 f37 (bN 7 q38) f39 f40 f41 (b2 m42_0 m42_1) f43 f44 f47 f48 f49 f50 f51 (bN 13 q54) (bN 120 q55) (bN 120 q56) f57 (bN 120 q58) f59 f60 f64) H ∧ va_D A (mo_w ad ck x0 (nI x16) (nI x18) (nI x19) x20 (nI x21) (nI x22) x23 x24 x25 (nI x26) x27 (nI x28) (nI x29) (nI x30) (nI x33) x45 (nI x46) (nI x52) (nI x53) (nI x61) (nI x62) (nI x63) (nI x65) x66 f1 f2 f3 (bN 3 q4) (bN 7 q5) (bN 7 q6) (bN 4 q7) f8 (bN 2 q9) (bH q10) f11 (b2 m12_0 m12_1) (b2 m13_0 m13_1) (b2 m14_0 m14_1) (b2m m15_0 m15_1) f17 (bA 159 q31) f32 f34 z35_6 f36 f37 (bN 7 q38) f39 f40 f41 (b2 m42_0 m42_1) f43 f44 f47 f48 f49 f50 f51 (bN 13 q54) (bN 120 q55) (bN 120 q56) f57 (bN 120 q58) f59 f60 f64) ∧ va_S A s.heap H locs ∧ lv_has ls 10 [(0, .ref (ad 0)), (1, .int 0), (2, .int (nI a1)), (3, .int (-1)), (4, .int (-1)), (5, .int p4), (6, .int (nI a5)), (7, .int 120), (8, .int (nI g_8)), (9, .int (nI g_8))]) 77 ?_ (fun j_29 => ?_)
        · rintro H locs ls st ⟨g_28, rfl, hg_28, hP, hD, hS, hl⟩
          refine va_calli (va_runV (As := [.int (nI g_8), .ref (ad 35), .int (nI g_28)]) (rest := []) ⟨hx, hb, hml, hown, hts⟩ (c_M_hasAll l dC dI _ ad ck x0 x16 x18 x19 x20 x21 x22 x23 x24 x25 x26 x27 x28 x29 x30 x33 x45 x46 x52 x53 x61 x62 x63 x65 x66 f1 f2 f3 q4 q5 q6 q7 f8 q9 q10 f11 m12_0 m12_1 m13_0 m13_1 m14_0 m14_1 m15_0 m15_1 f17 q31 f32 f34 z35_6 f36 f37 q38 f39 f40 f41 m42_0 m42_1 f43 f44 f47 f48 f49 f50 f51 q54 q55 q56 f57 q58 f59 f60 f64 g_8 g_28 hx16 hx18 hx19 hx21 hx22 hx26 hx28 hx29 hx30 hx33 hx46 hx52 hx53 hx61 hx62 hx63 hx65 hm12_0 hm12_1 hm13_0 hm13_1 hm14_0 hm14_1 hm15_0 hm15_1 hm42_0 hm42_1 (Nat.le_trans hg_8 (Nat.le_of_ble_eq_true rfl)) hg_28) (cwV 3 hts g_M_comes_0_120_0_M_hasAll rfl rfl rfl (by decide +kernel) ⟨Nat.le_of_ble_eq_true rfl, Nat.le_of_ble_eq_true rfl⟩) ⟨pu_bl, va_recv hK hP (ci := 9) (q0 := 0) rfl rfl, pu_in hP hK hD⟩ rfl rfl hl.1 rfl (lv_room (Nat.le_of_ble_eq_true rfl)) dX9_comes_77 ⟨Nat.le_of_ble_eq_true rfl, Nat.le_of_ble_eq_true rfl⟩) hS (fun q _ h => pu_fr hS hA q h) (pu_fr hS hA) (fun r_30 u t H1 locs ht hvm hw hB hz1 hk1 hS => ?_)
          have hP := pu_keep hP hk1
          clear hk1 hz1 ht hvm
          generalize H1 = H at hP hS ⊢
          obtain ⟨u_31, hu_31, rfl⟩ := hw
          refine lv_if_eq (tgt := 84) hx hb dX9_comes_80 (by decide) (fun c_32 => ?_) (fun c_32 => ?_)
          · have c_32 : u_31 = 0 := (nI_eq (a := u_31) (b := 0) (Nat.lt_of_le_of_lt hu_31 (Nat.le_of_ble_eq_true rfl)) (Nat.le_of_ble_eq_true rfl)).mp c_32
            refine lv_iinc (v := (nI (g_8 + 1))) (lv' := [(8, .int (nI (g_8 + 1))), (0, .ref (ad 0)), (1, .int 0), (2, .int (nI a1)), (3, .int (-1)), (4, .int (-1)), (5, .int p4), (6, .int (nI a5)), (7, .int 120), (9, .int (nI g_8))]) hx hb dX9_comes_84 hl (k := 8) rfl (nI_1 _) (by decide) rfl (fun ls hl => ?_)
            refine lv_goto (tgt := 30) hx hb dX9_comes_87 (by decide) ?_
            exact ih_9 (120 - (g_8 + 1)) (by omega) _ _ _ ⟨(g_8 + 1), rfl, (by omega), hP, hD, hS, lv_sub hl [1, 2, 3, 4, 5, 6, 7, 8, 0] rfl⟩
          · have c_32 : ¬ u_31 = 0 := fun z => c_32 ((nI_eq (a := u_31) (b := 0) (Nat.lt_of_le_of_lt hu_31 (Nat.le_of_ble_eq_true rfl)) (Nat.le_of_ble_eq_true rfl)).mpr z)
            exact W.vret hx hb hr (fun t ht hW => ⟨⟨(), rfl, trivial, ⟨f34, z35_6, q38, f39, f40, f41, f44, m42_0, ⟨by rw [ht]; exact hP, va_K.moved hW.alike hK, hD⟩, hm42_0, hgr, by omega⟩⟩, hS.F ht⟩) hS.2.2 dX9_comes_83
        refine lv_if_ne (tgt := 76) hx hb dX9_comes_69 (by decide) (fun c_33 => ?_) (fun c_33 => ?_)
        · have c_33 : ¬ a5 = 0 := fun z => c_33 ((nI_eq (a := a5) (b := 0) (Nat.lt_of_le_of_lt ha5 (Nat.le_of_ble_eq_true rfl)) (Nat.le_of_ble_eq_true rfl)).mpr z)
          refine lv_iconst (v := 0) hx hb dX9_comes_76 (by decide) ?_
          exact j_29 _ _ _ _ ⟨0, rfl, (Nat.le_of_ble_eq_true rfl), hP, hD, hS, lv_sub hl [1, 2, 3, 4, 5, 6, 7, 8, 9, 0] rfl⟩
        · have c_33 : a5 = 0 := (nI_eq (a := a5) (b := 0) (Nat.lt_of_le_of_lt ha5 (Nat.le_of_ble_eq_true rfl)) (Nat.le_of_ble_eq_true rfl)).mp c_33
          refine lv_iconst (v := 1) hx hb dX9_comes_72 (by decide) ?_
          refine lv_goto (tgt := 77) hx hb dX9_comes_73 (by decide) ?_
          exact j_29 _ _ _ _ ⟨1, rfl, (Nat.le_of_ble_eq_true rfl), hP, hD, hS, lv_sub hl [1, 2, 3, 4, 5, 6, 7, 8, 9, 0] rfl⟩
  refine lv_if_ne (tgt := 17) hx hb dX9_comes_5 (by decide) (fun c_34 => ?_) (fun c_34 => ?_)
  · have c_34 : ¬ u_2 = 0 := fun z => c_34 ((nI_eq (a := u_2) (b := 0) (Nat.lt_of_le_of_lt hu_2 (Nat.le_of_ble_eq_true rfl)) (Nat.le_of_ble_eq_true rfl)).mpr z)
    exact j_4 _ _ _ _ ⟨f35, rfl, hP, hD, hS, lv_sub hl [0, 1, 2, 3, 4, 5, 6, 7] rfl⟩
  · have c_34 : u_2 = 0 := (nI_eq (a := u_2) (b := 0) (Nat.lt_of_le_of_lt hu_2 (Nat.le_of_ble_eq_true rfl)) (Nat.le_of_ble_eq_true rfl)).mp c_34
    refine lv_aload_n hx hb dX9_comes_8 rfl (lv_at hl 0 rfl) ?_
    refine lv_aload_n hx hb dX9_comes_9 rfl (lv_at hl 0 rfl) ?_
    refine va_get (D := (dC, dI)) (ci := 9) (v := .ref (ad 35)) (C := RX9) (T := TX9) (N := 67) hx hb hts hiX9 hown hK hP 0 rfl rfl 35 (by decide) v_6 (fun _ h9 => h9) rfl dX9_comes_10 ?_
    refine lv_iload_n hx hb dX9_comes_13 rfl (lv_at hl 2 rfl) ?_
    have hFc := pu_free hD hS hA
    refine va_callv (va_runV (As := [.ref (ad 35), .int (nI a1)]) (rest := []) ⟨hx, hb, hml, hown, hts⟩ (c_M_delays l dC dI _ ad ck x0 x16 x18 x19 x20 x21 x22 x23 x24 x25 x26 x27 x28 x29 x30 x33 x45 x46 x52 x53 x61 x62 x63 x65 x66 f1 f2 f3 q4 q5 q6 q7 f8 q9 q10 f11 m12_0 m12_1 m13_0 m13_1 m14_0 m14_1 m15_0 m15_1 f17 q31 f32 f34 f35 f36 f37 q38 f39 f40 f41 m42_0 m42_1 f43 f44 f47 f48 f49 f50 f51 q54 q55 q56 f57 q58 f59 f60 f64 a1 hx16 hx18 hx19 hx21 hx22 hx26 hx28 hx29 hx30 hx33 hx46 hx52 hx53 hx61 hx62 hx63 hx65 hm12_0 hm12_1 hm13_0 hm13_1 hm14_0 hm14_1 hm15_0 hm15_1 hm42_0 hm42_1 ha1) (cwV 2 hts g_M_comes_0_120_0_M_delays rfl rfl rfl (by decide +kernel) ⟨Nat.le_of_ble_eq_true rfl, Nat.le_of_ble_eq_true rfl⟩) ⟨pu_bl, va_recv hK hP (ci := 9) (q0 := 0) rfl rfl, pu_in hP hK hD⟩ rfl rfl hl.1 rfl (lv_room (Nat.le_of_ble_eq_true rfl)) dX9_comes_14 ⟨Nat.le_of_ble_eq_true rfl, Nat.le_of_ble_eq_true rfl⟩) hS (fun q _ h => hFc q h) hFc (fun u t H1 locs ht hvm hw hB hz1 hk1 hS => ?_)
    obtain ⟨z35_36, ⟨hP1, -, hD1⟩⟩ := hB
    rw [ht] at hP1
    have hP := hP1
    have hD := pu_all hFc hD1
    clear hP1 hD1 hFc
    clear hk1 hz1 ht hvm
    generalize H1 = H at hP hS ⊢
    exact j_4 _ _ _ _ ⟨z35_36, rfl, hP, hD, hS, lv_sub hl [0, 1, 2, 3, 4, 5, 6, 7] rfl⟩
theorem dX9_comes_187 : decode cX9_comes 187 = .ok (.aload_n 0, 1) := by decide +kernel
theorem dX9_comes_188 : decode cX9_comes 188 = .ok (.getfield 89, 3) := by decide +kernel
theorem dX9_comes_191 : decode cX9_comes 191 = .ok (.iload_n 1, 1) := by decide +kernel
theorem dX9_comes_192 : decode cX9_comes 192 = .ok (.iload_n 3, 1) := by decide +kernel
theorem dX9_comes_193 : decode cX9_comes 193 = .ok (.invokestatic 355, 3) := by decide +kernel
theorem dX9_comes_196 : decode cX9_comes 196 = .ok (.iaload, 1) := by decide +kernel
theorem dX9_comes_197 : decode cX9_comes 197 = .ok (.iconst 1, 1) := by decide +kernel
theorem dX9_comes_198 : decode cX9_comes 198 = .ok (.iadd, 1) := by decide +kernel
abbrev vs_M_comes_0_120_1 : List Cond := .code yX9_comes cX9_comes 10 none :: VM
theorem g_M_comes_0_120_1_M_isUrgent : GoodIn vs_M_comes_0_120_1 (wsV RX9 324 RX9 yX9_isUrgent vs_M_isUrgent) := gm_V vm_204 vm_205 vm_206 vm_12 vm_33
theorem g_M_comes_0_120_1_M_forgets : GoodIn vs_M_comes_0_120_1 (wsV RX9 352 RX9 yX9_forgets vs_M_forgets) := gm_V vm_247 vm_248 vm_249 vm_12 vm_230
theorem g_M_comes_0_120_1_M_spotOf_0 : GoodIn vs_M_comes_0_120_1 (va_wsS RX9 355 yX9_spotOf vs_M_spotOf_0) := gm_S vm_241 vm_242 vm_12 vm_13
theorem g_M_comes_0_120_1_M_copies_zn : GoodIn vs_M_comes_0_120_1 (va_wsS RX9 362 yX9_copies vs_M_copies_zn) := gm_S vm_250 vm_251 vm_12 vm_8
theorem g_M_comes_0_120_1_M_hasAll : GoodIn vs_M_comes_0_120_1 (wsV RX9 358 RX9 yX9_hasAll vs_M_hasAll) := gm_V vm_255 vm_256 vm_257 vm_12 vm_231
theorem g_M_comes_0_120_1_M_delays : GoodIn vs_M_comes_0_120_1 (wsV RX9 349 RX9 yX9_delays vs_M_delays) := gm_V vm_244 vm_245 vm_246 vm_12 vm_220
set_option maxHeartbeats 4000000 in
set_option maxRecDepth 100000 in
theorem c_M_comes_0_120_1 (l : Launch) (dC : Nat → ClassId) (dI : Nat → Nat → Nat) (sz : Nat) (ad : Nat → Nat) (ck : Nat → ClassId) (x0 : Int32) (x16 : Nat) (x18 : Nat) (x19 : Nat) (x20 : Int32) (x21 : Nat) (x22 : Nat) (x23 : Int32) (x24 : Int32) (x25 : Int32) (x26 : Nat) (x27 : Int32) (x28 : Nat) (x29 : Nat) (x30 : Nat) (x33 : Nat) (x45 : Int32) (x46 : Nat) (x52 : Nat) (x53 : Nat) (x61 : Nat) (x62 : Nat) (x63 : Nat) (x65 : Nat) (x66 : Int32) (f1 : Nat → Int32) (f2 : Nat → Int32) (f3 : Nat → Int32) (q4 : Nat → Nat) (q5 : Nat → Nat) (q6 : Nat → Nat) (q7 : Nat → Nat) (f8 : Nat → Int32) (q9 : Nat → Nat) (q10 : Nat → Nat) (f11 : Nat → Int32) (m12_0 m12_1 : Nat) (m13_0 m13_1 : Nat) (m14_0 m14_1 : Nat) (m15_0 m15_1 : Nat) (f17 : Nat → Int32) (q31 : Nat → Nat) (f32 : Nat → Int32) (f34 : Nat → Int32) (f35 : Nat → Int32) (f36 : Nat → Int32) (f37 : Nat → Int32) (q38 : Nat → Nat) (f39 : Nat → Int32) (f40 : Nat → Int32) (f41 : Nat → Int32) (m42_0 m42_1 : Nat) (f43 : Nat → Int32) (f44 : Nat → Int32) (f47 : Nat → Int32) (f48 : Nat → Int32) (f49 : Nat → Int32) (f50 : Nat → Int32) (f51 : Nat → Int32) (q54 : Nat → Nat) (q55 : Nat → Nat) (q56 : Nat → Nat) (f57 : Nat → Int32) (q58 : Nat → Nat) (f59 : Nat → Int32) (f60 : Nat → Int32) (f64 : Nat → Int32) (a1 : Nat) (a2 : Nat) (a3 : Nat) (p4 : Int32) (a5 : Nat) (hx16 : x16 ≤ 1) (hx18 : x18 ≤ 900) (hx19 : x19 ≤ 900) (hx21 : x21 ≤ 900) (hx22 : x22 ≤ 4) (hx26 : x26 ≤ 6) (hx28 : x28 ≤ 1) (hx29 : x29 ≤ 1) (hx30 : x30 ≤ 1) (hx33 : x33 ≤ 20) (hx46 : x46 ≤ 5) (hx52 : x52 ≤ 2400) (hx53 : x53 ≤ 119) (hx61 : x61 ≤ 119) (hx62 : x62 ≤ 2000) (hx63 : x63 ≤ 1) (hx65 : x65 ≤ 7) (hm12_0 : m12_0 ≤ 3) (hm12_1 : m12_1 ≤ 3) (hm13_0 : m13_0 ≤ 8) (hm13_1 : m13_1 ≤ 8) (hm14_0 : m14_0 ≤ 14) (hm14_1 : m14_1 ≤ 14) (hm15_0 : m15_0 ≤ 8) (hm15_1 : m15_1 ≤ 8) (hm42_0 : m42_0 ≤ 120) (hm42_1 : m42_1 ≤ 400) (ha1 : a1 ≤ 7) (ha2 : a2 ≤ 119) (ha3 : a3 ≤ 13) (ha5 : a5 ≤ 1) (hgr : gz_ok m42_0 f39 f40 f41) (hq0 : a2 < m42_0) : Met l yX9_comes vs_M_comes_0_120_1 ({ frames := 5, cells := 0, slots := 0, locals := 113 }) (va_Pc [.ref (ad 0), .int 0, .int (nI a1), .int (nI a2), .int (nI a3), .int p4, .int (nI a5), .int 120] (pu_B (dC, dI) (mo_w ad ck x0 (nI x16) (nI x18) (nI x19) x20 (nI x21) (nI x22) x23 x24 x25 (nI x26) x27 (nI x28) (nI x29) (nI x30) (nI x33) x45 (nI x46) (nI x52) (nI x53) (nI x61) (nI x62) (nI x63) (nI x65) x66 f1 f2 f3 (bN 3 q4) (bN 7 q5) (bN 7 q6) (bN 4 q7) f8 (bN 2 q9) (bH q10) f11 (b2 m12_0 m12_1) (b2 m13_0 m13_1) (b2 m14_0 m14_1) (b2m m15_0 m15_1) f17 (bA 159 q31) f32 f34 f35 f36 f37 (bN 7 q38) f39 f40 f41 (b2 m42_0 m42_1) f43 f44 f47 f48 f49 f50 f51 (bN 13 q54) (bN 120 q55) (bN 120 q56) f57 (bN 120 q58) f59 f60 f64) (mo_t ck) sz)) (va_Qv (fun (_ : Unit) => True) (fun _ t => ∃ (z34 : Nat → Int32) (z35 : Nat → Int32) (z38 : Nat → Nat) (z39 : Nat → Int32) (z40 : Nat → Int32) (z41 : Nat → Int32) (z44 : Nat → Int32) (z42_0 : Nat), pu_E (dC, dI) (mo_w ad ck x0 (nI x16) (nI x18) (nI x19) x20 (nI x21) (nI x22) x23 x24 x25 (nI x26) x27 (nI x28) (nI x29) (nI x30) (nI x33) x45 (nI x46) (nI x52) (nI x53) (nI x61) (nI x62) (nI x63) (nI x65) x66 f1 f2 f3 (bN 3 q4) (bN 7 q5) (bN 7 q6) (bN 4 q7) f8 (bN 2 q9) (bH q10) f11 (b2 m12_0 m12_1) (b2 m13_0 m13_1) (b2 m14_0 m14_1) (b2m m15_0 m15_1) f17 (bA 159 q31) f32 z34 z35 f36 f37 (bN 7 z38) z39 z40 z41 (b2 z42_0 m42_1) f43 z44 f47 f48 f49 f50 f51 (bN 13 q54) (bN 120 q55) (bN 120 q56) f57 (bN 120 q58) f59 f60 f64) (mo_t ck) (va_A ((mo_w ad ck x0 (nI x16) (nI x18) (nI x19) x20 (nI x21) (nI x22) x23 x24 x25 (nI x26) x27 (nI x28) (nI x29) (nI x30) (nI x33) x45 (nI x46) (nI x52) (nI x53) (nI x61) (nI x62) (nI x63) (nI x65) x66 f1 f2 f3 (bN 3 q4) (bN 7 q5) (bN 7 q6) (bN 4 q7) f8 (bN 2 q9) (bH q10) f11 (b2 m12_0 m12_1) (b2 m13_0 m13_1) (b2 m14_0 m14_1) (b2m m15_0 m15_1) f17 (bA 159 q31) f32 f34 f35 f36 f37 (bN 7 q38) f39 f40 f41 (b2 m42_0 m42_1) f43 f44 f47 f48 f49 f50 f51 (bN 13 q54) (bN 120 q55) (bN 120 q56) f57 (bN 120 q58) f59 f60 f64)) sz) t ∧ (z42_0 ≤ 120) ∧ (gz_ok z42_0 z39 z40 z41) ∧ (m42_0 ≤ z42_0)) (va_A ((mo_w ad ck x0 (nI x16) (nI x18) (nI x19) x20 (nI x21) (nI x22) x23 x24 x25 (nI x26) x27 (nI x28) (nI x29) (nI x30) (nI x33) x45 (nI x46) (nI x52) (nI x53) (nI x61) (nI x62) (nI x63) (nI x65) x66 f1 f2 f3 (bN 3 q4) (bN 7 q5) (bN 7 q6) (bN 4 q7) f8 (bN 2 q9) (bH q10) f11 (b2 m12_0 m12_1) (b2 m13_0 m13_1) (b2 m14_0 m14_1) (b2m m15_0 m15_1) f17 (bA 159 q31) f32 f34 f35 f36 f37 (bN 7 q38) f39 f40 f41 (b2 m42_0 m42_1) f43 f44 f47 f48 f49 f50 f51 (bN 13 q54) (bN 120 q55) (bN 120 q56) f57 (bN 120 q58) f59 f60 f64)) sz)) 0 0 (va_A ((mo_w ad ck x0 (nI x16) (nI x18) (nI x19) x20 (nI x21) (nI x22) x23 x24 x25 (nI x26) x27 (nI x28) (nI x29) (nI x30) (nI x33) x45 (nI x46) (nI x52) (nI x53) (nI x61) (nI x62) (nI x63) (nI x65) x66 f1 f2 f3 (bN 3 q4) (bN 7 q5) (bN 7 q6) (bN 4 q7) f8 (bN 2 q9) (bH q10) f11 (b2 m12_0 m12_1) (b2 m13_0 m13_1) (b2 m14_0 m14_1) (b2m m15_0 m15_1) f17 (bA 159 q31) f32 f34 f35 f36 f37 (bN 7 q38) f39 f40 f41 (b2 m42_0 m42_1) f43 f44 f47 f48 f49 f50 f51 (bN 13 q54) (bN 120 q55) (bN 120 q56) f57 (bN 120 q58) f59 f60 f64)) sz) := by
  refine Met.ofW (cc := cX9_comes) (maxL := 10) (ret := none) (by decide) rfl ?_
  intro p e s m args below meth c s₁ B hml hv
  obtain ⟨rfl, rfl, hP, hK, hD0⟩ := hv
  have hx := B.exec
  have hb := B.bytes
  have hr := B.returns
  have hts := atoms_spec (ws := vs_M_comes_0_120_1) B.pre
  have v_6 := hts (.fieldLink RX9 71 "ClockReachModel" "z" "[I") (List.mem_cons_of_mem _ vm_234)
  have v_15 := hts (.fieldLink RX9 92 "ClockReachModel" "stateMany" "[I") (List.mem_cons_of_mem _ vm_177)
  have v_16 := hts (.fieldLink RX9 98 "ClockReachModel" "isFull" "[Z") (List.mem_cons_of_mem _ vm_178)
  have v_20 := hts (.fieldLink RX9 68 "ClockReachModel" "zone" "[I") (List.mem_cons_of_mem _ vm_232)
  have v_24 := hts (.fieldLink RX9 80 "ClockReachModel" "statePlace" "[I") (List.mem_cons_of_mem _ vm_240)
  have v_25 := hts (.fieldLink RX9 83 "ClockReachModel" "stateFrom" "[I") (List.mem_cons_of_mem _ vm_252)
  have v_26 := hts (.fieldLink RX9 86 "ClockReachModel" "stateBy" "[I") (List.mem_cons_of_mem _ vm_253)
  have v_27 := hts (.fieldLink RX9 89 "ClockReachModel" "stateDeep" "[I") (List.mem_cons_of_mem _ vm_254)
  have hown : s.vm.findClass RX9 = some m.cls := findClass_of_methodNamed B.named
  have hlocks := B.notSynchronized
  have hiX9 : ∀ w ∈ wsX90, w ∈ vs_M_comes_0_120_1 := fun _ h => List.mem_cons_of_mem _ (List.mem_append_right _ h)
  have hD := hD0.self (sz := s.heap.size)
  generalize hAe : va_A ((mo_w ad ck x0 (nI x16) (nI x18) (nI x19) x20 (nI x21) (nI x22) x23 x24 x25 (nI x26) x27 (nI x28) (nI x29) (nI x30) (nI x33) x45 (nI x46) (nI x52) (nI x53) (nI x61) (nI x62) (nI x63) (nI x65) x66 f1 f2 f3 (bN 3 q4) (bN 7 q5) (bN 7 q6) (bN 4 q7) f8 (bN 2 q9) (bH q10) f11 (b2 m12_0 m12_1) (b2 m13_0 m13_1) (b2 m14_0 m14_1) (b2m m15_0 m15_1) f17 (bA 159 q31) f32 f34 f35 f36 f37 (bN 7 q38) f39 f40 f41 (b2 m42_0 m42_1) f43 f44 f47 f48 f49 f50 f51 (bN 13 q54) (bN 120 q55) (bN 120 q56) f57 (bN 120 q58) f59 f60 f64)) s.heap.size = A at hD ⊢
  have hA : ∀ q : Nat, s.heap.size ≤ q → A q := fun q h => by rw [← hAe]; exact Or.inr h
  have hS : va_S A s.heap s.heap [] := va_S.rf
  have hl := lv_entry ([.ref (ad 0), .int 0, .int (nI a1), .int (nI a2), .int (nI a3), .int p4, .int (nI a5), .int 120]) (n := 10) (Nat.le_of_ble_eq_true rfl)
  rw [lg_entry_eq]
  generalize (lg_sl ([.ref (ad 0), .int 0, .int (nI a1), .int (nI a2), .int (nI a3), .int p4, .int (nI a5), .int 120]) ++ List.replicate (10 - (lg_sl ([.ref (ad 0), .int 0, .int (nI a1), .int (nI a2), .int (nI a3), .int p4, .int (nI a5), .int 120])).length) Slot.unset).toArray = ls at hl ⊢
  have hl : lv_has ls 10 [(0, .ref (ad 0)), (1, .int 0), (2, .int (nI a1)), (3, .int (nI a2)), (4, .int (nI a3)), (5, .int p4), (6, .int (nI a5)), (7, .int 120)] := hl
  refine lv_aload_n hx hb dX9_comes_0 rfl (lv_at hl 0 rfl) ?_
  refine lv_iload_n hx hb dX9_comes_1 rfl (lv_at hl 2 rfl) ?_
  refine va_calli (va_runV (As := [.int (nI a1)]) (rest := []) ⟨hx, hb, hml, hown, hts⟩ (c_M_isUrgent l dC dI _ ad ck x0 x16 x18 x19 x20 x21 x22 x23 x24 x25 x26 x27 x28 x29 x30 x33 x45 x46 x52 x53 x61 x62 x63 x65 x66 f1 f2 f3 q4 q5 q6 q7 f8 q9 q10 f11 m12_0 m12_1 m13_0 m13_1 m14_0 m14_1 m15_0 m15_1 f17 q31 f32 f34 f35 f36 f37 q38 f39 f40 f41 m42_0 m42_1 f43 f44 f47 f48 f49 f50 f51 q54 q55 q56 f57 q58 f59 f60 f64 a1 hx16 hx18 hx19 hx21 hx22 hx26 hx28 hx29 hx30 hx33 hx46 hx52 hx53 hx61 hx62 hx63 hx65 hm12_0 hm12_1 hm13_0 hm13_1 hm14_0 hm14_1 hm15_0 hm15_1 hm42_0 hm42_1 ha1) (cwV 1 hts g_M_comes_0_120_1_M_isUrgent rfl rfl rfl (by decide +kernel) ⟨Nat.le_of_ble_eq_true rfl, Nat.le_of_ble_eq_true rfl⟩) ⟨pu_bl, va_recv hK hP (ci := 9) (q0 := 0) rfl rfl, pu_in hP hK hD⟩ rfl rfl hl.1 rfl (lv_room (Nat.le_of_ble_eq_true rfl)) dX9_comes_2 ⟨Nat.le_of_ble_eq_true rfl, Nat.le_of_ble_eq_true rfl⟩) hS (fun q _ h => pu_fr hS hA q h) (pu_fr hS hA) (fun r_1 u t H1 locs ht hvm hw hB hz1 hk1 hS => ?_)
  have hP := pu_keep hP hk1
  clear hk1 hz1 ht hvm
  generalize H1 = H at hP hS ⊢
  obtain ⟨u_2, hu_2, rfl⟩ := hw
  refine pu_join (fun H locs ls st => ∃ (g_3 : Nat → Int32), st = [] ∧ va_P (dC, dI) vwCl (mo_w ad ck x0 (nI x16) (nI x18) (nI x19) x20 (nI x21) (nI x22) x23 x24 x25 (nI x26) x27 (nI x28) (nI x29) (nI x30) (nI x33) x45 (nI x46) (nI x52) (nI x53) (nI x61) (nI x62) (nI x63) (nI x65) x66 f1 f2 f3 (bN 3 q4) (bN 7 q5) (bN 7 q6) (bN 4 q7) f8 (bN 2 q9) (bH q10) f11 (b2 m12_0 m12_1) (b2 m13_0 m13_1) (b2 m14_0 m14_1) (b2m m15_0 m15_1) f17 (bA 159 q31) f32 f34 g_3 f36 f37 (bN 7 q38) f39 f40 f41 (b2 m42_0 m42_1) f43 f44 f47 f48 f49 f50 f51 (bN 13 q54) (bN 120 q55) (bN 120 q56) f57 (bN 120 q58) f59 f60 f64) H ∧ va_D A (mo_w ad ck x0 (nI x16) (nI x18) (nI x19) x20 (nI x21) (nI x22) x23 x24 x25 (nI x26) x27 (nI x28) (nI x29) (nI x30) (nI x33) x45 (nI x46) (nI x52) (nI x53) (nI x61) (nI x62) (nI x63) (nI x65) x66 f1 f2 f3 (bN 3 q4) (bN 7 q5) (bN 7 q6) (bN 4 q7) f8 (bN 2 q9) (bH q10) f11 (b2 m12_0 m12_1) (b2 m13_0 m13_1) (b2 m14_0 m14_1) (b2m m15_0 m15_1) f17 (bA 159 q31) f32 f34 g_3 f36 f37 (bN 7 q38) f39 f40 f41 (b2 m42_0 m42_1) f43 f44 f47 f48 f49 f50 f51 (bN 13 q54) (bN 120 q55) (bN 120 q56) f57 (bN 120 q58) f59 f60 f64) ∧ va_S A s.heap H locs ∧ lv_has ls 10 [(0, .ref (ad 0)), (1, .int 0), (2, .int (nI a1)), (3, .int (nI a2)), (4, .int (nI a3)), (5, .int p4), (6, .int (nI a5)), (7, .int 120)]) 17 ?_ (fun j_4 => ?_)
  · rintro H locs ls st ⟨g_3, rfl, hP, hD, hS, hl⟩
    refine lv_aload_n hx hb dX9_comes_17 rfl (lv_at hl 0 rfl) ?_
    refine lv_aload_n hx hb dX9_comes_18 rfl (lv_at hl 0 rfl) ?_
    refine va_get (D := (dC, dI)) (ci := 9) (v := .ref (ad 35)) (C := RX9) (T := TX9) (N := 67) hx hb hts hiX9 hown hK hP 0 rfl rfl 35 (by decide) v_6 (fun _ h9 => h9) rfl dX9_comes_19 ?_
    refine lv_iload hx hb dX9_comes_22 (lv_at hl 5 rfl) ?_
    have hFc := pu_free hD hS hA
    refine va_callv (va_runV (As := [.ref (ad 35), .int p4]) (rest := []) ⟨hx, hb, hml, hown, hts⟩ (c_M_forgets l dC dI _ ad ck x0 x16 x18 x19 x20 x21 x22 x23 x24 x25 x26 x27 x28 x29 x30 x33 x45 x46 x52 x53 x61 x62 x63 x65 x66 f1 f2 f3 q4 q5 q6 q7 f8 q9 q10 f11 m12_0 m12_1 m13_0 m13_1 m14_0 m14_1 m15_0 m15_1 f17 q31 f32 f34 g_3 f36 f37 q38 f39 f40 f41 m42_0 m42_1 f43 f44 f47 f48 f49 f50 f51 q54 q55 q56 f57 q58 f59 f60 f64 p4 hx16 hx18 hx19 hx21 hx22 hx26 hx28 hx29 hx30 hx33 hx46 hx52 hx53 hx61 hx62 hx63 hx65 hm12_0 hm12_1 hm13_0 hm13_1 hm14_0 hm14_1 hm15_0 hm15_1 hm42_0 hm42_1) (cwV 2 hts g_M_comes_0_120_1_M_forgets rfl rfl rfl (by decide +kernel) ⟨Nat.le_of_ble_eq_true rfl, Nat.le_of_ble_eq_true rfl⟩) ⟨pu_bl, va_recv hK hP (ci := 9) (q0 := 0) rfl rfl, pu_in hP hK hD⟩ rfl rfl hl.1 rfl (lv_room (Nat.le_of_ble_eq_true rfl)) dX9_comes_24 ⟨Nat.le_of_ble_eq_true rfl, Nat.le_of_ble_eq_true rfl⟩) hS (fun q _ h => hFc q h) hFc (fun u t H1 locs ht hvm hw hB hz1 hk1 hS => ?_)
    obtain ⟨z35_6, ⟨hP1, -, hD1⟩⟩ := hB
    rw [ht] at hP1
    have hP := hP1
    have hD := pu_all hFc hD1
    clear hP1 hD1 hFc
    clear hk1 hz1 ht hvm
    generalize H1 = H at hP hS ⊢
    refine lv_iconst (v := 0) hx hb dX9_comes_27 (by decide) ?_
    refine lv_istore (lv' := [(8, .int 0), (0, .ref (ad 0)), (1, .int 0), (2, .int (nI a1)), (3, .int (nI a2)), (4, .int (nI a3)), (5, .int p4), (6, .int (nI a5)), (7, .int 120)]) hx hb dX9_comes_28 hl (by decide) rfl (fun ls hl => ?_)
    refine pu_while (fun nn H locs ls => ∃ (g_8 : Nat), nn = 120 - g_8 ∧ g_8 ≤ 120 ∧ va_P (dC, dI) vwCl (mo_w ad ck x0 (nI x16) (nI x18) (nI x19) x20 (nI x21) (nI x22) x23 x24 x25 (nI x26) x27 (nI x28) (nI x29) (nI x30) (nI x33) x45 (nI x46) (nI x52) (nI x53) (nI x61) (nI x62) (nI x63) (nI x65) x66 f1 f2 f3 (bN 3 q4) (bN 7 q5) (bN 7 q6) (bN 4 q7) f8 (bN 2 q9) (bH q10) f11 (b2 m12_0 m12_1) (b2 m13_0 m13_1) (b2 m14_0 m14_1) (b2m m15_0 m15_1) f17 (bA 159 q31) f32 f34 z35_6 f36 f37 (bN 7 q38) f39 f40 f41 (b2 m42_0 m42_1) f43 f44 f47 f48 f49 f50 f51 (bN 13 q54) (bN 120 q55) (bN 120 q56) f57 (bN 120 q58) f59 f60 f64) H ∧ va_D A (mo_w ad ck x0 (nI x16) (nI x18) (nI x19) x20 (nI x21) (nI x22) x23 x24 x25 (nI x26) x27 (nI x28) (nI x29) (nI x30) (nI x33) x45 (nI x46) (nI x52) (nI x53) (nI x61) (nI x62) (nI x63) (nI x65) x66 f1 f2 f3 (bN 3 q4) (bN 7 q5) (bN 7 q6) (bN 4 q7) f8 (bN 2 q9) (bH q10) f11 (b2 m12_0 m12_1) (b2 m13_0 m13_1) (b2 m14_0 m14_1) (b2m m15_0 m15_1) f17 (bA 159 q31) f32 f34 z35_6 f36 f37 (bN 7 q38) f39 f40 f41 (b2 m42_0 m42_1) f43 f44 f47 f48 f49 f50 f51 (bN 13 q54) (bN 120 q55) (bN 120 q56) f57 (bN 120 q58) f59 f60 f64) ∧ va_S A s.heap H locs ∧ lv_has ls 10 [(0, .ref (ad 0)), (1, .int 0), (2, .int (nI a1)), (3, .int (nI a2)), (4, .int (nI a3)), (5, .int p4), (6, .int (nI a5)), (7, .int 120), (8, .int (nI g_8))]) 30 ?_ _ _ _ _ ⟨0, rfl, (Nat.le_of_ble_eq_true rfl), hP, hD, hS, lv_sub hl [1, 2, 3, 4, 5, 6, 7, 8, 0] rfl⟩
    rintro nn ih_9 H locs ls ⟨g_8, rfl, hg_8, hP, hD, hS, hl⟩
    refine lv_iload hx hb dX9_comes_30 (lv_at hl 8 rfl) ?_
    refine lv_aload_n hx hb dX9_comes_32 rfl (lv_at hl 0 rfl) ?_
    refine va_get (D := (dC, dI)) (ci := 9) (v := .ref (ad 42)) (C := RX9) (T := TX9) (N := 67) hx hb hts hiX9 hown hK hP 0 rfl rfl 42 (by decide) v_15 (fun _ h9 => h9) rfl dX9_comes_33 ?_
    refine lv_iload_n hx hb dX9_comes_36 rfl (lv_at hl 1 rfl) ?_
    refine va_iald hx hb hK hP 27 26 rfl rfl (vp_in_nI (n := 0) (Nat.le_of_ble_eq_true rfl) (Nat.le_of_ble_eq_true rfl)) dX9_comes_37 ?_
    refine lv_topi (fun y_10 ey_10 => ?_)
    have qy_10 := ey_10.trans b2_0
    clear ey_10
    obtain rfl : y_10 = nI m42_0 := qy_10
    refine lv_icmp_ge (tgt := 90) hx hb dX9_comes_38 (by decide) (fun c_11 => ?_) (fun c_11 => ?_)
    · have c_11 : m42_0 ≤ g_8 := (nI_leI (a := m42_0) (b := g_8) (Nat.lt_of_le_of_lt hm42_0 (Nat.le_of_ble_eq_true rfl)) (Nat.lt_of_le_of_lt hg_8 (Nat.le_of_ble_eq_true rfl))).mp c_11
      refine lv_aload_n hx hb dX9_comes_90 rfl (lv_at hl 0 rfl) ?_
      refine va_get (D := (dC, dI)) (ci := 9) (v := .ref (ad 42)) (C := RX9) (T := TX9) (N := 67) hx hb hts hiX9 hown hK hP 0 rfl rfl 42 (by decide) v_15 (fun _ h9 => h9) rfl dX9_comes_91 ?_
      refine lv_iload_n hx hb dX9_comes_94 rfl (lv_at hl 1 rfl) ?_
      refine va_iald hx hb hK hP 27 26 rfl rfl (vp_in_nI (n := 0) (Nat.le_of_ble_eq_true rfl) (Nat.le_of_ble_eq_true rfl)) dX9_comes_95 ?_
      refine lv_topi (fun y_12 ey_12 => ?_)
      have qy_12 := ey_12.trans b2_0
      clear ey_12
      obtain rfl : y_12 = nI m42_0 := qy_12
      refine lv_iload hx hb dX9_comes_96 (lv_at hl 7 rfl) ?_
      refine lv_icmp_eq (tgt := 110) hx hb dX9_comes_98 (by decide) (fun c_13 => ?_) (fun c_13 => ?_)
      · have c_13 : m42_0 = 120 := (nI_eq (a := m42_0) (b := 120) (Nat.lt_of_le_of_lt hm42_0 (Nat.le_of_ble_eq_true rfl)) (Nat.le_of_ble_eq_true rfl)).mp c_13
        refine lv_aload_n hx hb dX9_comes_110 rfl (lv_at hl 0 rfl) ?_
        refine va_get (D := (dC, dI)) (ci := 9) (v := .ref (ad 44)) (C := RX9) (T := TX9) (N := 67) hx hb hts hiX9 hown hK hP 0 rfl rfl 44 (by decide) v_16 (fun _ h9 => h9) rfl dX9_comes_111 ?_
        refine lv_iload_n hx hb dX9_comes_114 rfl (lv_at hl 1 rfl) ?_
        refine lv_iconst (v := 1) hx hb dX9_comes_115 (by decide) ?_
        refine va_zast hx hb hK hP hD hS 29 28 rfl rfl (vp_in_nI (n := 0) (Nat.le_of_ble_eq_true rfl) (Nat.le_of_ble_eq_true rfl)) dX9_comes_116 (fun H locs hP hD hS => ?_)
        have hP : va_P (dC, dI) vwCl (mo_w ad ck x0 (nI x16) (nI x18) (nI x19) x20 (nI x21) (nI x22) x23 x24 x25 (nI x26) x27 (nI x28) (nI x29) (nI x30) (nI x33) x45 (nI x46) (nI x52) (nI x53) (nI x61) (nI x62) (nI x63) (nI x65) x66 f1 f2 f3 (bN 3 q4) (bN 7 q5) (bN 7 q6) (bN 4 q7) f8 (bN 2 q9) (bH q10) f11 (b2 m12_0 m12_1) (b2 m13_0 m13_1) (b2 m14_0 m14_1) (b2m m15_0 m15_1) f17 (bA 159 q31) f32 f34 z35_6 f36 f37 (bN 7 q38) f39 f40 f41 (b2 m42_0 m42_1) f43 (upd f44 (0 : Int32).toNatClampNeg (vp_nar .boolean 1)) f47 f48 f49 f50 f51 (bN 13 q54) (bN 120 q55) (bN 120 q56) f57 (bN 120 q58) f59 f60 f64) H := hP
        have hD : va_D A (mo_w ad ck x0 (nI x16) (nI x18) (nI x19) x20 (nI x21) (nI x22) x23 x24 x25 (nI x26) x27 (nI x28) (nI x29) (nI x30) (nI x33) x45 (nI x46) (nI x52) (nI x53) (nI x61) (nI x62) (nI x63) (nI x65) x66 f1 f2 f3 (bN 3 q4) (bN 7 q5) (bN 7 q6) (bN 4 q7) f8 (bN 2 q9) (bH q10) f11 (b2 m12_0 m12_1) (b2 m13_0 m13_1) (b2 m14_0 m14_1) (b2m m15_0 m15_1) f17 (bA 159 q31) f32 f34 z35_6 f36 f37 (bN 7 q38) f39 f40 f41 (b2 m42_0 m42_1) f43 (upd f44 (0 : Int32).toNatClampNeg (vp_nar .boolean 1)) f47 f48 f49 f50 f51 (bN 13 q54) (bN 120 q55) (bN 120 q56) f57 (bN 120 q58) f59 f60 f64) := hD
        exact W.vret hx hb hr (fun t ht hW => ⟨⟨(), rfl, trivial, ⟨f34, z35_6, q38, f39, f40, f41, (upd f44 (0 : Int32).toNatClampNeg (vp_nar .boolean 1)), m42_0, ⟨by rw [ht]; exact hP, va_K.moved hW.alike hK, hD⟩, hm42_0, hgr, by omega⟩⟩, hS.F ht⟩) hS.2.2 dX9_comes_117
      · have c_13 : ¬ m42_0 = 120 := fun z => c_13 ((nI_eq (a := m42_0) (b := 120) (Nat.lt_of_le_of_lt hm42_0 (Nat.le_of_ble_eq_true rfl)) (Nat.le_of_ble_eq_true rfl)).mpr z)
        refine lv_aload_n hx hb dX9_comes_101 rfl (lv_at hl 0 rfl) ?_
        refine va_get (D := (dC, dI)) (ci := 9) (v := .ref (ad 44)) (C := RX9) (T := TX9) (N := 67) hx hb hts hiX9 hown hK hP 0 rfl rfl 44 (by decide) v_16 (fun _ h9 => h9) rfl dX9_comes_102 ?_
        refine lv_iload_n hx hb dX9_comes_105 rfl (lv_at hl 1 rfl) ?_
        refine va_zald hx hb hK hP 29 28 rfl rfl (vp_in_nI (n := 0) (Nat.le_of_ble_eq_true rfl) (Nat.le_of_ble_eq_true rfl)) dX9_comes_106 ?_
        refine lv_topi (fun y_14 ey_14 => ?_)
        refine lv_if_eq (tgt := 118) hx hb dX9_comes_107 (by decide) (fun c_15 => ?_) (fun c_15 => ?_)
        · refine lv_iload_n hx hb dX9_comes_118 rfl (lv_at hl 1 rfl) ?_
          refine lv_aload_n hx hb dX9_comes_119 rfl (lv_at hl 0 rfl) ?_
          refine va_get (D := (dC, dI)) (ci := 9) (v := .ref (ad 42)) (C := RX9) (T := TX9) (N := 67) hx hb hts hiX9 hown hK hP 0 rfl rfl 42 (by decide) v_15 (fun _ h9 => h9) rfl dX9_comes_120 ?_
          refine lv_iload_n hx hb dX9_comes_123 rfl (lv_at hl 1 rfl) ?_
          refine va_iald hx hb hK hP 27 26 rfl rfl (vp_in_nI (n := 0) (Nat.le_of_ble_eq_true rfl) (Nat.le_of_ble_eq_true rfl)) dX9_comes_124 ?_
          refine lv_topi (fun y_16 ey_16 => ?_)
          have qy_16 := ey_16.trans b2_0
          clear ey_16
          obtain rfl : y_16 = nI m42_0 := qy_16
          refine va_calli (va_runS (As := [.int 0, .int (nI m42_0)]) (rest := []) ⟨hx, hb, hml, hown, hts⟩ (c_M_spotOf_0 l dC dI _ ad ck x0 x16 x18 x19 x20 x21 x22 x23 x24 x25 x26 x27 x28 x29 x30 x33 x45 x46 x52 x53 x61 x62 x63 x65 x66 f1 f2 f3 q4 q5 q6 q7 f8 q9 q10 f11 m12_0 m12_1 m13_0 m13_1 m14_0 m14_1 m15_0 m15_1 f17 q31 f32 f34 z35_6 f36 f37 q38 f39 f40 f41 m42_0 m42_1 f43 f44 f47 f48 f49 f50 f51 q54 q55 q56 f57 q58 f59 f60 f64 m42_0 hx16 hx18 hx19 hx21 hx22 hx26 hx28 hx29 hx30 hx33 hx46 hx52 hx53 hx61 hx62 hx63 hx65 hm12_0 hm12_1 hm13_0 hm13_1 hm14_0 hm14_1 hm15_0 hm15_1 hm42_0 hm42_1 (Nat.le_trans hm42_0 (Nat.le_of_ble_eq_true rfl))) (va_cwS 2 hts g_M_comes_0_120_1_M_spotOf_0 rfl rfl rfl (by decide +kernel) ⟨Nat.le_of_ble_eq_true rfl, Nat.le_of_ble_eq_true rfl⟩) ⟨pu_bl, pu_in hP hK hD⟩ rfl rfl hl.1 rfl (lv_room (Nat.le_of_ble_eq_true rfl)) dX9_comes_125 ⟨Nat.le_of_ble_eq_true rfl, Nat.le_of_ble_eq_true rfl⟩) hS (fun q _ h => pu_fr hS hA q h) (pu_fr hS hA) (fun r_17 u t H1 locs ht hvm hw hB hz1 hk1 hS => ?_)
          have hP := pu_keep hP hk1
          clear hk1 hz1 ht hvm
          generalize H1 = H at hP hS ⊢
          obtain rfl : r_17 = nI (m42_0) := hw
          refine lv_istore (lv' := [(8, .int (nI m42_0)), (0, .ref (ad 0)), (1, .int 0), (2, .int (nI a1)), (3, .int (nI a2)), (4, .int (nI a3)), (5, .int p4), (6, .int (nI a5)), (7, .int 120)]) hx hb dX9_comes_128 hl (by decide) rfl (fun ls hl => ?_)
          refine lv_aload_n hx hb dX9_comes_130 rfl (lv_at hl 1 rfl) ?_
          refine va_get (D := (dC, dI)) (ci := 9) (v := .ref (ad 35)) (C := RX9) (T := TX9) (N := 67) hx hb hts hiX9 hown hK hP 0 rfl rfl 35 (by decide) v_6 (fun _ h9 => h9) rfl dX9_comes_131 ?_
          refine lv_iconst (v := 0) hx hb dX9_comes_134 (by decide) ?_
          refine lv_aload_n hx hb dX9_comes_135 rfl (lv_at hl 1 rfl) ?_
          refine va_get (D := (dC, dI)) (ci := 9) (v := .ref (ad 34)) (C := RX9) (T := TX9) (N := 67) hx hb hts hiX9 hown hK hP 0 rfl rfl 34 (by decide) v_20 (fun _ h9 => h9) rfl dX9_comes_136 ?_
          refine lv_bipush (v := 25) hx hb dX9_comes_139 (by decide) ?_
          refine lv_iload hx hb dX9_comes_141 (lv_at hl 0 rfl) ?_
          refine lv_imul hx hb dX9_comes_143 ?_
          refine lv_topi (fun y_18 ey_18 => ?_)
          obtain rfl : y_18 = (nI (25 * m42_0)) := ey_18.trans (pk_mul 25 m42_0)
          have hFc := pu_free hD hS hA
          refine va_callv (va_runS (As := [.ref (ad 35), .int 0, .ref (ad 34), .int (nI (25 * m42_0))]) (rest := []) ⟨hx, hb, hml, hown, hts⟩ (c_M_copies_zn l dC dI _ ad ck x0 x16 x18 x19 x20 x21 x22 x23 x24 x25 x26 x27 x28 x29 x30 x33 x45 x46 x52 x53 x61 x62 x63 x65 x66 f1 f2 f3 q4 q5 q6 q7 f8 q9 q10 f11 m12_0 m12_1 m13_0 m13_1 m14_0 m14_1 m15_0 m15_1 f17 q31 f32 f34 z35_6 f36 f37 q38 f39 f40 f41 m42_0 m42_1 f43 f44 f47 f48 f49 f50 f51 q54 q55 q56 f57 q58 f59 f60 f64 (25 * m42_0) hx16 hx18 hx19 hx21 hx22 hx26 hx28 hx29 hx30 hx33 hx46 hx52 hx53 hx61 hx62 hx63 hx65 hm12_0 hm12_1 hm13_0 hm13_1 hm14_0 hm14_1 hm15_0 hm15_1 hm42_0 hm42_1 (by omega)) (va_cwS 4 hts g_M_comes_0_120_1_M_copies_zn rfl rfl rfl (by decide +kernel) ⟨Nat.le_of_ble_eq_true rfl, Nat.le_of_ble_eq_true rfl⟩) ⟨pu_bl, pu_in hP hK hD⟩ rfl rfl hl.1 rfl (lv_room (Nat.le_of_ble_eq_true rfl)) dX9_comes_144 ⟨Nat.le_of_ble_eq_true rfl, Nat.le_of_ble_eq_true rfl⟩) hS (fun q _ h => hFc q h) hFc (fun u t H1 locs ht hvm hw hB hz1 hk1 hS => ?_)
          obtain ⟨z34_20, ⟨hP1, -, hD1⟩⟩ := hB
          rw [ht] at hP1
          have hP := hP1
          have hD := pu_all hFc hD1
          clear hP1 hD1 hFc
          clear hk1 hz1 ht hvm
          generalize H1 = H at hP hS ⊢
          refine lv_aload_n hx hb dX9_comes_147 rfl (lv_at hl 1 rfl) ?_
          refine va_get (D := (dC, dI)) (ci := 9) (v := .ref (ad 38)) (C := RX9) (T := TX9) (N := 67) hx hb hts hiX9 hown hK hP 0 rfl rfl 38 (by decide) v_24 (fun _ h9 => h9) rfl dX9_comes_148 ?_
          refine lv_iload hx hb dX9_comes_151 (lv_at hl 0 rfl) ?_
          refine lv_iload_n hx hb dX9_comes_153 rfl (lv_at hl 3 rfl) ?_
          refine va_iast hx hb hK hP hD hS 23 22 rfl rfl (vp_in_nI (n := m42_0) (Nat.lt_of_le_of_lt hm42_0 (Nat.le_of_ble_eq_true rfl)) (Nat.le_of_ble_eq_true rfl)) dX9_comes_154 (fun H locs hP hD hS => ?_)
          obtain ⟨q_21, eq_21, kq_21⟩ := bN_up 7 q38 (((nI m42_0) : Int32).toNatClampNeg) (v := a1) ha1
          have hP : va_P (dC, dI) vwCl (mo_w ad ck x0 (nI x16) (nI x18) (nI x19) x20 (nI x21) (nI x22) x23 x24 x25 (nI x26) x27 (nI x28) (nI x29) (nI x30) (nI x33) x45 (nI x46) (nI x52) (nI x53) (nI x61) (nI x62) (nI x63) (nI x65) x66 f1 f2 f3 (bN 3 q4) (bN 7 q5) (bN 7 q6) (bN 4 q7) f8 (bN 2 q9) (bH q10) f11 (b2 m12_0 m12_1) (b2 m13_0 m13_1) (b2 m14_0 m14_1) (b2m m15_0 m15_1) f17 (bA 159 q31) f32 z34_20 z35_6 f36 f37 (bN 7 q_21) f39 f40 f41 (b2 m42_0 m42_1) f43 f44 f47 f48 f49 f50 f51 (bN 13 q54) (bN 120 q55) (bN 120 q56) f57 (bN 120 q58) f59 f60 f64) H := by rw [← eq_21]; exact hP
          have hD : va_D A (mo_w ad ck x0 (nI x16) (nI x18) (nI x19) x20 (nI x21) (nI x22) x23 x24 x25 (nI x26) x27 (nI x28) (nI x29) (nI x30) (nI x33) x45 (nI x46) (nI x52) (nI x53) (nI x61) (nI x62) (nI x63) (nI x65) x66 f1 f2 f3 (bN 3 q4) (bN 7 q5) (bN 7 q6) (bN 4 q7) f8 (bN 2 q9) (bH q10) f11 (b2 m12_0 m12_1) (b2 m13_0 m13_1) (b2 m14_0 m14_1) (b2m m15_0 m15_1) f17 (bA 159 q31) f32 z34_20 z35_6 f36 f37 (bN 7 q_21) f39 f40 f41 (b2 m42_0 m42_1) f43 f44 f47 f48 f49 f50 f51 (bN 13 q54) (bN 120 q55) (bN 120 q56) f57 (bN 120 q58) f59 f60 f64) := by rw [← eq_21]; exact hD
          refine lv_aload_n hx hb dX9_comes_155 rfl (lv_at hl 1 rfl) ?_
          refine va_get (D := (dC, dI)) (ci := 9) (v := .ref (ad 39)) (C := RX9) (T := TX9) (N := 67) hx hb hts hiX9 hown hK hP 0 rfl rfl 39 (by decide) v_25 (fun _ h9 => h9) rfl dX9_comes_156 ?_
          refine lv_iload hx hb dX9_comes_159 (lv_at hl 0 rfl) ?_
          refine lv_iload_n hx hb dX9_comes_161 rfl (lv_at hl 4 rfl) ?_
          refine va_iast hx hb hK hP hD hS 24 23 rfl rfl (vp_in_nI (n := m42_0) (Nat.lt_of_le_of_lt hm42_0 (Nat.le_of_ble_eq_true rfl)) (Nat.le_of_ble_eq_true rfl)) dX9_comes_162 (fun H locs hP hD hS => ?_)
          have hP : va_P (dC, dI) vwCl (mo_w ad ck x0 (nI x16) (nI x18) (nI x19) x20 (nI x21) (nI x22) x23 x24 x25 (nI x26) x27 (nI x28) (nI x29) (nI x30) (nI x33) x45 (nI x46) (nI x52) (nI x53) (nI x61) (nI x62) (nI x63) (nI x65) x66 f1 f2 f3 (bN 3 q4) (bN 7 q5) (bN 7 q6) (bN 4 q7) f8 (bN 2 q9) (bH q10) f11 (b2 m12_0 m12_1) (b2 m13_0 m13_1) (b2 m14_0 m14_1) (b2m m15_0 m15_1) f17 (bA 159 q31) f32 z34_20 z35_6 f36 f37 (bN 7 q_21) (upd f39 ((nI m42_0) : Int32).toNatClampNeg (nI a2)) f40 f41 (b2 m42_0 m42_1) f43 f44 f47 f48 f49 f50 f51 (bN 13 q54) (bN 120 q55) (bN 120 q56) f57 (bN 120 q58) f59 f60 f64) H := hP
          have hD : va_D A (mo_w ad ck x0 (nI x16) (nI x18) (nI x19) x20 (nI x21) (nI x22) x23 x24 x25 (nI x26) x27 (nI x28) (nI x29) (nI x30) (nI x33) x45 (nI x46) (nI x52) (nI x53) (nI x61) (nI x62) (nI x63) (nI x65) x66 f1 f2 f3 (bN 3 q4) (bN 7 q5) (bN 7 q6) (bN 4 q7) f8 (bN 2 q9) (bH q10) f11 (b2 m12_0 m12_1) (b2 m13_0 m13_1) (b2 m14_0 m14_1) (b2m m15_0 m15_1) f17 (bA 159 q31) f32 z34_20 z35_6 f36 f37 (bN 7 q_21) (upd f39 ((nI m42_0) : Int32).toNatClampNeg (nI a2)) f40 f41 (b2 m42_0 m42_1) f43 f44 f47 f48 f49 f50 f51 (bN 13 q54) (bN 120 q55) (bN 120 q56) f57 (bN 120 q58) f59 f60 f64) := hD
          refine lv_aload_n hx hb dX9_comes_163 rfl (lv_at hl 1 rfl) ?_
          refine va_get (D := (dC, dI)) (ci := 9) (v := .ref (ad 40)) (C := RX9) (T := TX9) (N := 67) hx hb hts hiX9 hown hK hP 0 rfl rfl 40 (by decide) v_26 (fun _ h9 => h9) rfl dX9_comes_164 ?_
          refine lv_iload hx hb dX9_comes_167 (lv_at hl 0 rfl) ?_
          refine lv_iload hx hb dX9_comes_169 (lv_at hl 5 rfl) ?_
          refine va_iast hx hb hK hP hD hS 25 24 rfl rfl (vp_in_nI (n := m42_0) (Nat.lt_of_le_of_lt hm42_0 (Nat.le_of_ble_eq_true rfl)) (Nat.le_of_ble_eq_true rfl)) dX9_comes_171 (fun H locs hP hD hS => ?_)
          have hP : va_P (dC, dI) vwCl (mo_w ad ck x0 (nI x16) (nI x18) (nI x19) x20 (nI x21) (nI x22) x23 x24 x25 (nI x26) x27 (nI x28) (nI x29) (nI x30) (nI x33) x45 (nI x46) (nI x52) (nI x53) (nI x61) (nI x62) (nI x63) (nI x65) x66 f1 f2 f3 (bN 3 q4) (bN 7 q5) (bN 7 q6) (bN 4 q7) f8 (bN 2 q9) (bH q10) f11 (b2 m12_0 m12_1) (b2 m13_0 m13_1) (b2 m14_0 m14_1) (b2m m15_0 m15_1) f17 (bA 159 q31) f32 z34_20 z35_6 f36 f37 (bN 7 q_21) (upd f39 ((nI m42_0) : Int32).toNatClampNeg (nI a2)) (upd f40 ((nI m42_0) : Int32).toNatClampNeg (nI a3)) f41 (b2 m42_0 m42_1) f43 f44 f47 f48 f49 f50 f51 (bN 13 q54) (bN 120 q55) (bN 120 q56) f57 (bN 120 q58) f59 f60 f64) H := hP
          have hD : va_D A (mo_w ad ck x0 (nI x16) (nI x18) (nI x19) x20 (nI x21) (nI x22) x23 x24 x25 (nI x26) x27 (nI x28) (nI x29) (nI x30) (nI x33) x45 (nI x46) (nI x52) (nI x53) (nI x61) (nI x62) (nI x63) (nI x65) x66 f1 f2 f3 (bN 3 q4) (bN 7 q5) (bN 7 q6) (bN 4 q7) f8 (bN 2 q9) (bH q10) f11 (b2 m12_0 m12_1) (b2 m13_0 m13_1) (b2 m14_0 m14_1) (b2m m15_0 m15_1) f17 (bA 159 q31) f32 z34_20 z35_6 f36 f37 (bN 7 q_21) (upd f39 ((nI m42_0) : Int32).toNatClampNeg (nI a2)) (upd f40 ((nI m42_0) : Int32).toNatClampNeg (nI a3)) f41 (b2 m42_0 m42_1) f43 f44 f47 f48 f49 f50 f51 (bN 13 q54) (bN 120 q55) (bN 120 q56) f57 (bN 120 q58) f59 f60 f64) := hD
          refine lv_aload_n hx hb dX9_comes_172 rfl (lv_at hl 1 rfl) ?_
          refine va_get (D := (dC, dI)) (ci := 9) (v := .ref (ad 41)) (C := RX9) (T := TX9) (N := 67) hx hb hts hiX9 hown hK hP 0 rfl rfl 41 (by decide) v_27 (fun _ h9 => h9) rfl dX9_comes_173 ?_
          refine lv_iload hx hb dX9_comes_176 (lv_at hl 0 rfl) ?_
          refine lv_iload_n hx hb dX9_comes_178 rfl (lv_at hl 4 rfl) ?_
          refine lv_iconst (v := (-1)) hx hb dX9_comes_179 (by decide) ?_
          refine lv_icmp_ne (tgt := 187) hx hb dX9_comes_180 (by decide) (fun _ => ?_) (fun z => absurd z (pu_nneg (n := a2) (by omega) (by decide)))
          refine lv_aload_n hx hb dX9_comes_187 rfl (lv_at hl 1 rfl) ?_
          refine va_get (D := (dC, dI)) (ci := 9) (v := .ref (ad 41)) (C := RX9) (T := TX9) (N := 67) hx hb hts hiX9 hown hK hP 0 rfl rfl 41 (by decide) v_27 (fun _ h9 => h9) rfl dX9_comes_188 ?_
          refine lv_iload_n hx hb dX9_comes_191 rfl (lv_at hl 2 rfl) ?_
          refine lv_iload_n hx hb dX9_comes_192 rfl (lv_at hl 4 rfl) ?_
          refine va_calli (va_runS (As := [.int 0, .int (nI a2)]) (rest := [.ref (ad 41), .int (nI m42_0), .ref (ad 41)]) ⟨hx, hb, hml, hown, hts⟩ (c_M_spotOf_0 l dC dI _ ad ck x0 x16 x18 x19 x20 x21 x22 x23 x24 x25 x26 x27 x28 x29 x30 x33 x45 x46 x52 x53 x61 x62 x63 x65 x66 f1 f2 f3 q4 q5 q6 q7 f8 q9 q10 f11 m12_0 m12_1 m13_0 m13_1 m14_0 m14_1 m15_0 m15_1 f17 q31 f32 z34_20 z35_6 f36 f37 q_21 (upd f39 ((nI m42_0) : Int32).toNatClampNeg (nI a2)) (upd f40 ((nI m42_0) : Int32).toNatClampNeg (nI a3)) f41 m42_0 m42_1 f43 f44 f47 f48 f49 f50 f51 q54 q55 q56 f57 q58 f59 f60 f64 a2 hx16 hx18 hx19 hx21 hx22 hx26 hx28 hx29 hx30 hx33 hx46 hx52 hx53 hx61 hx62 hx63 hx65 hm12_0 hm12_1 hm13_0 hm13_1 hm14_0 hm14_1 hm15_0 hm15_1 hm42_0 hm42_1 (Nat.le_trans ha2 (Nat.le_of_ble_eq_true rfl))) (va_cwS 2 hts g_M_comes_0_120_1_M_spotOf_0 rfl rfl rfl (by decide +kernel) ⟨Nat.le_of_ble_eq_true rfl, Nat.le_of_ble_eq_true rfl⟩) ⟨pu_bl, pu_in hP hK hD⟩ rfl rfl hl.1 rfl (lv_room (Nat.le_of_ble_eq_true rfl)) dX9_comes_193 ⟨Nat.le_of_ble_eq_true rfl, Nat.le_of_ble_eq_true rfl⟩) hS (fun q _ h => pu_fr hS hA q h) (pu_fr hS hA) (fun r_22 u t H1 locs ht hvm hw hB hz1 hk1 hS => ?_)
          have hP := pu_keep hP hk1
          clear hk1 hz1 ht hvm
          generalize H1 = H at hP hS ⊢
          obtain rfl : r_22 = nI (a2) := hw
          refine va_iald hx hb hK hP 26 25 rfl rfl (vp_in_nI (n := a2) (Nat.lt_of_le_of_lt ha2 (Nat.le_of_ble_eq_true rfl)) (Nat.le_of_ble_eq_true rfl)) dX9_comes_196 ?_
          refine lv_topi (fun y_23 ey_23 => ?_)
          refine lv_iconst (v := 1) hx hb dX9_comes_197 (by decide) ?_
          refine lv_iadd hx hb dX9_comes_198 ?_
          refine lv_topi (fun y_24 ey_24 => ?_)
          refine va_iast hx hb hK hP hD hS 26 25 rfl rfl (vp_in_nI (n := m42_0) (Nat.lt_of_le_of_lt hm42_0 (Nat.le_of_ble_eq_true rfl)) (Nat.le_of_ble_eq_true rfl)) dX9_comes_199 (fun H locs hP hD hS => ?_)
          have hP : va_P (dC, dI) vwCl (mo_w ad ck x0 (nI x16) (nI x18) (nI x19) x20 (nI x21) (nI x22) x23 x24 x25 (nI x26) x27 (nI x28) (nI x29) (nI x30) (nI x33) x45 (nI x46) (nI x52) (nI x53) (nI x61) (nI x62) (nI x63) (nI x65) x66 f1 f2 f3 (bN 3 q4) (bN 7 q5) (bN 7 q6) (bN 4 q7) f8 (bN 2 q9) (bH q10) f11 (b2 m12_0 m12_1) (b2 m13_0 m13_1) (b2 m14_0 m14_1) (b2m m15_0 m15_1) f17 (bA 159 q31) f32 z34_20 z35_6 f36 f37 (bN 7 q_21) (upd f39 ((nI m42_0) : Int32).toNatClampNeg (nI a2)) (upd f40 ((nI m42_0) : Int32).toNatClampNeg (nI a3)) (upd f41 ((nI m42_0) : Int32).toNatClampNeg y_24) (b2 m42_0 m42_1) f43 f44 f47 f48 f49 f50 f51 (bN 13 q54) (bN 120 q55) (bN 120 q56) f57 (bN 120 q58) f59 f60 f64) H := hP
          have hD : va_D A (mo_w ad ck x0 (nI x16) (nI x18) (nI x19) x20 (nI x21) (nI x22) x23 x24 x25 (nI x26) x27 (nI x28) (nI x29) (nI x30) (nI x33) x45 (nI x46) (nI x52) (nI x53) (nI x61) (nI x62) (nI x63) (nI x65) x66 f1 f2 f3 (bN 3 q4) (bN 7 q5) (bN 7 q6) (bN 4 q7) f8 (bN 2 q9) (bH q10) f11 (b2 m12_0 m12_1) (b2 m13_0 m13_1) (b2 m14_0 m14_1) (b2m m15_0 m15_1) f17 (bA 159 q31) f32 z34_20 z35_6 f36 f37 (bN 7 q_21) (upd f39 ((nI m42_0) : Int32).toNatClampNeg (nI a2)) (upd f40 ((nI m42_0) : Int32).toNatClampNeg (nI a3)) (upd f41 ((nI m42_0) : Int32).toNatClampNeg y_24) (b2 m42_0 m42_1) f43 f44 f47 f48 f49 f50 f51 (bN 13 q54) (bN 120 q55) (bN 120 q56) f57 (bN 120 q58) f59 f60 f64) := hD
          refine lv_aload_n hx hb dX9_comes_200 rfl (lv_at hl 1 rfl) ?_
          refine va_get (D := (dC, dI)) (ci := 9) (v := .ref (ad 42)) (C := RX9) (T := TX9) (N := 67) hx hb hts hiX9 hown hK hP 0 rfl rfl 42 (by decide) v_15 (fun _ h9 => h9) rfl dX9_comes_201 ?_
          refine lv_iload_n hx hb dX9_comes_204 rfl (lv_at hl 2 rfl) ?_
          refine lv_dup2_11 hx hb dX9_comes_205 rfl rfl ?_
          refine va_iald hx hb hK hP 27 26 rfl rfl (vp_in_nI (n := 0) (Nat.le_of_ble_eq_true rfl) (Nat.le_of_ble_eq_true rfl)) dX9_comes_206 ?_
          refine lv_topi (fun y_25 ey_25 => ?_)
          have qy_25 := ey_25.trans b2_0
          clear ey_25
          obtain rfl : y_25 = nI m42_0 := qy_25
          refine lv_iconst (v := 1) hx hb dX9_comes_207 (by decide) ?_
          refine lv_iadd hx hb dX9_comes_208 ?_
          refine lv_topi (fun y_26 ey_26 => ?_)
          obtain rfl : y_26 = (nI (m42_0 + 1)) := ey_26.trans (nI_add m42_0 1)
          refine va_iast hx hb hK hP hD hS 27 26 rfl rfl (vp_in_nI (n := 0) (Nat.le_of_ble_eq_true rfl) (Nat.le_of_ble_eq_true rfl)) dX9_comes_209 (fun H locs hP hD hS => ?_)
          have hP : va_P (dC, dI) vwCl (mo_w ad ck x0 (nI x16) (nI x18) (nI x19) x20 (nI x21) (nI x22) x23 x24 x25 (nI x26) x27 (nI x28) (nI x29) (nI x30) (nI x33) x45 (nI x46) (nI x52) (nI x53) (nI x61) (nI x62) (nI x63) (nI x65) x66 f1 f2 f3 (bN 3 q4) (bN 7 q5) (bN 7 q6) (bN 4 q7) f8 (bN 2 q9) (bH q10) f11 (b2 m12_0 m12_1) (b2 m13_0 m13_1) (b2 m14_0 m14_1) (b2m m15_0 m15_1) f17 (bA 159 q31) f32 z34_20 z35_6 f36 f37 (bN 7 q_21) (upd f39 ((nI m42_0) : Int32).toNatClampNeg (nI a2)) (upd f40 ((nI m42_0) : Int32).toNatClampNeg (nI a3)) (upd f41 ((nI m42_0) : Int32).toNatClampNeg y_24) (b2 (m42_0 + 1) m42_1) f43 f44 f47 f48 f49 f50 f51 (bN 13 q54) (bN 120 q55) (bN 120 q56) f57 (bN 120 q58) f59 f60 f64) H := by rw [← b2_up0 (a := m42_0) (b := m42_1) (v := (m42_0 + 1))]; exact hP
          have hD : va_D A (mo_w ad ck x0 (nI x16) (nI x18) (nI x19) x20 (nI x21) (nI x22) x23 x24 x25 (nI x26) x27 (nI x28) (nI x29) (nI x30) (nI x33) x45 (nI x46) (nI x52) (nI x53) (nI x61) (nI x62) (nI x63) (nI x65) x66 f1 f2 f3 (bN 3 q4) (bN 7 q5) (bN 7 q6) (bN 4 q7) f8 (bN 2 q9) (bH q10) f11 (b2 m12_0 m12_1) (b2 m13_0 m13_1) (b2 m14_0 m14_1) (b2m m15_0 m15_1) f17 (bA 159 q31) f32 z34_20 z35_6 f36 f37 (bN 7 q_21) (upd f39 ((nI m42_0) : Int32).toNatClampNeg (nI a2)) (upd f40 ((nI m42_0) : Int32).toNatClampNeg (nI a3)) (upd f41 ((nI m42_0) : Int32).toNatClampNeg y_24) (b2 (m42_0 + 1) m42_1) f43 f44 f47 f48 f49 f50 f51 (bN 13 q54) (bN 120 q55) (bN 120 q56) f57 (bN 120 q58) f59 f60 f64) := by rw [← b2_up0 (a := m42_0) (b := m42_1) (v := (m42_0 + 1))]; exact hD
          exact W.vret hx hb hr (fun t ht hW => ⟨⟨(), rfl, trivial, ⟨z34_20, z35_6, q_21, (upd f39 ((nI m42_0) : Int32).toNatClampNeg (nI a2)), (upd f40 ((nI m42_0) : Int32).toNatClampNeg (nI a3)), (upd f41 ((nI m42_0) : Int32).toNatClampNeg y_24), f44, (m42_0 + 1), ⟨by rw [ht]; exact hP, va_K.moved hW.alike hK, hD⟩, (by omega), gz_new hgr (by omega) (by omega) (by omega) ey_23 ey_24, by omega⟩⟩, hS.F ht⟩) hS.2.2 dX9_comes_210
        · refine lv_aload_n hx hb dX9_comes_110 rfl (lv_at hl 0 rfl) ?_
          refine va_get (D := (dC, dI)) (ci := 9) (v := .ref (ad 44)) (C := RX9) (T := TX9) (N := 67) hx hb hts hiX9 hown hK hP 0 rfl rfl 44 (by decide) v_16 (fun _ h9 => h9) rfl dX9_comes_111 ?_
          refine lv_iload_n hx hb dX9_comes_114 rfl (lv_at hl 1 rfl) ?_
          refine lv_iconst (v := 1) hx hb dX9_comes_115 (by decide) ?_
          refine va_zast hx hb hK hP hD hS 29 28 rfl rfl (vp_in_nI (n := 0) (Nat.le_of_ble_eq_true rfl) (Nat.le_of_ble_eq_true rfl)) dX9_comes_116 (fun H locs hP hD hS => ?_)
          have hP : va_P (dC, dI) vwCl (mo_w ad ck x0 (nI x16) (nI x18) (nI x19) x20 (nI x21) (nI x22) x23 x24 x25 (nI x26) x27 (nI x28) (nI x29) (nI x30) (nI x33) x45 (nI x46) (nI x52) (nI x53) (nI x61) (nI x62) (nI x63) (nI x65) x66 f1 f2 f3 (bN 3 q4) (bN 7 q5) (bN 7 q6) (bN 4 q7) f8 (bN 2 q9) (bH q10) f11 (b2 m12_0 m12_1) (b2 m13_0 m13_1) (b2 m14_0 m14_1) (b2m m15_0 m15_1) f17 (bA 159 q31) f32 f34 z35_6 f36 f37 (bN 7 q38) f39 f40 f41 (b2 m42_0 m42_1) f43 (upd f44 (0 : Int32).toNatClampNeg (vp_nar .boolean 1)) f47 f48 f49 f50 f51 (bN 13 q54) (bN 120 q55) (bN 120 q56) f57 (bN 120 q58) f59 f60 f64) H := hP
          have hD : va_D A (mo_w ad ck x0 (nI x16) (nI x18) (nI x19) x20 (nI x21) (nI x22) x23 x24 x25 (nI x26) x27 (nI x28) (nI x29) (nI x30) (nI x33) x45 (nI x46) (nI x52) (nI x53) (nI x61) (nI x62) (nI x63) (nI x65) x66 f1 f2 f3 (bN 3 q4) (bN 7 q5) (bN 7 q6) (bN 4 q7) f8 (bN 2 q9) (bH q10) f11 (b2 m12_0 m12_1) (b2 m13_0 m13_1) (b2 m14_0 m14_1) (b2m m15_0 m15_1) f17 (bA 159 q31) f32 f34 z35_6 f36 f37 (bN 7 q38) f39 f40 f41 (b2 m42_0 m42_1) f43 (upd f44 (0 : Int32).toNatClampNeg (vp_nar .boolean 1)) f47 f48 f49 f50 f51 (bN 13 q54) (bN 120 q55) (bN 120 q56) f57 (bN 120 q58) f59 f60 f64) := hD
          exact W.vret hx hb hr (fun t ht hW => ⟨⟨(), rfl, trivial, ⟨f34, z35_6, q38, f39, f40, f41, (upd f44 (0 : Int32).toNatClampNeg (vp_nar .boolean 1)), m42_0, ⟨by rw [ht]; exact hP, va_K.moved hW.alike hK, hD⟩, hm42_0, hgr, by omega⟩⟩, hS.F ht⟩) hS.2.2 dX9_comes_117
    · have c_11 : ¬ m42_0 ≤ g_8 := fun z => c_11 ((nI_leI (a := m42_0) (b := g_8) (Nat.lt_of_le_of_lt hm42_0 (Nat.le_of_ble_eq_true rfl)) (Nat.lt_of_le_of_lt hg_8 (Nat.le_of_ble_eq_true rfl))).mpr z)
      refine lv_iload_n hx hb dX9_comes_41 rfl (lv_at hl 1 rfl) ?_
      refine lv_iload hx hb dX9_comes_42 (lv_at hl 8 rfl) ?_
      refine va_calli (va_runS (As := [.int 0, .int (nI g_8)]) (rest := []) ⟨hx, hb, hml, hown, hts⟩ (c_M_spotOf_0 l dC dI _ ad ck x0 x16 x18 x19 x20 x21 x22 x23 x24 x25 x26 x27 x28 x29 x30 x33 x45 x46 x52 x53 x61 x62 x63 x65 x66 f1 f2 f3 q4 q5 q6 q7 f8 q9 q10 f11 m12_0 m12_1 m13_0 m13_1 m14_0 m14_1 m15_0 m15_1 f17 q31 f32 f34 z35_6 f36 f37 q38 f39 f40 f41 m42_0 m42_1 f43 f44 f47 f48 f49 f50 f51 q54 q55 q56 f57 q58 f59 f60 f64 g_8 hx16 hx18 hx19 hx21 hx22 hx26 hx28 hx29 hx30 hx33 hx46 hx52 hx53 hx61 hx62 hx63 hx65 hm12_0 hm12_1 hm13_0 hm13_1 hm14_0 hm14_1 hm15_0 hm15_1 hm42_0 hm42_1 (Nat.le_trans hg_8 (Nat.le_of_ble_eq_true rfl))) (va_cwS 2 hts g_M_comes_0_120_1_M_spotOf_0 rfl rfl rfl (by decide +kernel) ⟨Nat.le_of_ble_eq_true rfl, Nat.le_of_ble_eq_true rfl⟩) ⟨pu_bl, pu_in hP hK hD⟩ rfl rfl hl.1 rfl (lv_room (Nat.le_of_ble_eq_true rfl)) dX9_comes_44 ⟨Nat.le_of_ble_eq_true rfl, Nat.le_of_ble_eq_true rfl⟩) hS (fun q _ h => pu_fr hS hA q h) (pu_fr hS hA) (fun r_27 u t H1 locs ht hvm hw hB hz1 hk1 hS => ?_)
      have hP := pu_keep hP hk1
      clear hk1 hz1 ht hvm
      generalize H1 = H at hP hS ⊢
      obtain rfl : r_27 = nI (g_8) := hw
      refine lv_istore (lv' := [(9, .int (nI g_8)), (0, .ref (ad 0)), (1, .int 0), (2, .int (nI a1)), (3, .int (nI a2)), (4, .int (nI a3)), (5, .int p4), (6, .int (nI a5)), (7, .int 120), (8, .int (nI g_8))]) hx hb dX9_comes_47 hl (by decide) rfl (fun ls hl => ?_)
      refine lv_aload_n hx hb dX9_comes_49 rfl (lv_at hl 1 rfl) ?_
      refine va_get (D := (dC, dI)) (ci := 9) (v := .ref (ad 38)) (C := RX9) (T := TX9) (N := 67) hx hb hts hiX9 hown hK hP 0 rfl rfl 38 (by decide) v_24 (fun _ h9 => h9) rfl dX9_comes_50 ?_
      refine lv_iload hx hb dX9_comes_53 (lv_at hl 0 rfl) ?_
      refine va_iald hx hb hK hP 23 22 rfl rfl (vp_in_nI (n := g_8) (Nat.lt_of_le_of_lt hg_8 (Nat.le_of_ble_eq_true rfl)) (Nat.le_of_ble_eq_true rfl)) dX9_comes_55 ?_
      refine lv_topi (fun y_28 ey_28 => ?_)
      obtain ⟨u_29, hu_29, qu_29⟩ := bN_get 7 q38 (((nI g_8) : Int32).toNatClampNeg)
      obtain rfl : y_28 = nI u_29 := ey_28.trans qu_29
      refine lv_iload_n hx hb dX9_comes_56 rfl (lv_at hl 3 rfl) ?_
      refine lv_icmp_ne (tgt := 84) hx hb dX9_comes_57 (by decide) (fun c_30 => ?_) (fun c_30 => ?_)
      · have c_30 : ¬ u_29 = a1 := fun z => c_30 ((nI_eq (a := u_29) (b := a1) (Nat.lt_of_le_of_lt hu_29 (Nat.le_of_ble_eq_true rfl)) (Nat.lt_of_le_of_lt ha1 (Nat.le_of_ble_eq_true rfl))).mpr z)
        refine lv_iinc (v := (nI (g_8 + 1))) (lv' := [(8, .int (nI (g_8 + 1))), (9, .int (nI g_8)), (0, .ref (ad 0)), (1, .int 0), (2, .int (nI a1)), (3, .int (nI a2)), (4, .int (nI a3)), (5, .int p4), (6, .int (nI a5)), (7, .int 120)]) hx hb dX9_comes_84 hl (k := 9) rfl (nI_1 _) (by decide) rfl (fun ls hl => ?_)
        refine lv_goto (tgt := 30) hx hb dX9_comes_87 (by decide) ?_
        exact ih_9 (120 - (g_8 + 1)) (by omega) _ _ _ ⟨(g_8 + 1), rfl, (by omega), hP, hD, hS, lv_sub hl [2, 3, 4, 5, 6, 7, 8, 9, 0] rfl⟩
      · have c_30 : u_29 = a1 := (nI_eq (a := u_29) (b := a1) (Nat.lt_of_le_of_lt hu_29 (Nat.le_of_ble_eq_true rfl)) (Nat.lt_of_le_of_lt ha1 (Nat.le_of_ble_eq_true rfl))).mp c_30
        refine lv_aload_n hx hb dX9_comes_60 rfl (lv_at hl 1 rfl) ?_
        refine lv_iload hx hb dX9_comes_61 (lv_at hl 0 rfl) ?_
        refine lv_aload_n hx hb dX9_comes_63 rfl (lv_at hl 1 rfl) ?_
        refine va_get (D := (dC, dI)) (ci := 9) (v := .ref (ad 35)) (C := RX9) (T := TX9) (N := 67) hx hb hts hiX9 hown hK hP 0 rfl rfl 35 (by decide) v_6 (fun _ h9 => h9) rfl dX9_comes_64 ?_
        refine lv_iload hx hb dX9_comes_67 (lv_at hl 7 rfl) ?_
        refine pu_join (fun H locs ls st => ∃ (g_31 : Nat), st = [.int (nI g_31), .ref (ad 35), .int (nI g_8), .ref (ad 0)] ∧ g_31 ≤ 1 ∧ va_P (dC, dI) vwCl (mo_w ad ck x0 (nI x16) (nI x18) (nI x19) x20 (nI x21) (nI x22) x23 x24 x25 (nI x26) x27 (nI x28) (nI x29) (nI x30) (nI x33) x45 (nI x46) (nI x52) (nI x53) (nI x61) (nI x62) (nI x63) (nI x65) x66 f1 f2 f3 (bN 3 q4) (bN 7 q5) (bN 7 q6) (bN 4 q7) f8 (bN 2 q9) (bH q10) f11 (b2 m12_0 m12_1) (b2 m13_0 m13_1) (b2 m14_0 m14_1) (b2m m15_0 m15_1) f17 (bA 159 q31) f32 f34 z35_6 f36 f37 (bN 7 q38) f39 f40 f41 (b2 m42_0 m42_1) f43 f44 f47 f48 f49 f50 f51 (bN 13 q54) (bN 120 q55) (bN 120 q56) f57 (bN 120 q58) f59 f60 f64) H ∧ va_D A (mo_w ad ck x0 (nI x16) (nI x18) (nI x19) x20 (nI x21) (nI x22) x23 x24 x25 (nI x26) x27 (nI x28) (nI x29) (nI x30) (nI x33) x45 (nI x46) (nI x52) (nI x53) (nI x61) (nI x62) (nI x63) (nI x65) x66 f1 f2 f3 (bN 3 q4) (bN 7 q5) (bN 7 q6) (bN 4 q7) f8 (bN 2 q9) (bH q10) f11 (b2 m12_0 m12_1) (b2 m13_0 m13_1) (b2 m14_0 m14_1) (b2m m15_0 m15_1) f17 (bA 159 q31) f32 f34 z35_6 f36 f37 (bN 7 q38) f39 f40 f41 (b2 m42_0 m42_1) f43 f44 f47 f48 f49 f50 f51 (bN 13 q54) (bN 120 q55) (bN 120 q56) f57 (bN 120 q58) f59 f60 f64) ∧ va_S A s.heap H locs ∧ lv_has ls 10 [(0, .ref (ad 0)), (1, .int 0), (2, .int (nI a1)), (3, .int (nI a2)), (4, .int (nI a3)), (5, .int p4), (6, .int (nI a5)), (7, .int 120), (8, .int (nI g_8)), (9, .int (nI g_8))]) 77 ?_ (fun j_32 => ?_)
        · rintro H locs ls st ⟨g_31, rfl, hg_31, hP, hD, hS, hl⟩
          refine va_calli (va_runV (As := [.int (nI g_8), .ref (ad 35), .int (nI g_31)]) (rest := []) ⟨hx, hb, hml, hown, hts⟩ (c_M_hasAll l dC dI _ ad ck x0 x16 x18 x19 x20 x21 x22 x23 x24 x25 x26 x27 x28 x29 x30 x33 x45 x46 x52 x53 x61 x62 x63 x65 x66 f1 f2 f3 q4 q5 q6 q7 f8 q9 q10 f11 m12_0 m12_1 m13_0 m13_1 m14_0 m14_1 m15_0 m15_1 f17 q31 f32 f34 z35_6 f36 f37 q38 f39 f40 f41 m42_0 m42_1 f43 f44 f47 f48 f49 f50 f51 q54 q55 q56 f57 q58 f59 f60 f64 g_8 g_31 hx16 hx18 hx19 hx21 hx22 hx26 hx28 hx29 hx30 hx33 hx46 hx52 hx53 hx61 hx62 hx63 hx65 hm12_0 hm12_1 hm13_0 hm13_1 hm14_0 hm14_1 hm15_0 hm15_1 hm42_0 hm42_1 (Nat.le_trans hg_8 (Nat.le_of_ble_eq_true rfl)) hg_31) (cwV 3 hts g_M_comes_0_120_1_M_hasAll rfl rfl rfl (by decide +kernel) ⟨Nat.le_of_ble_eq_true rfl, Nat.le_of_ble_eq_true rfl⟩) ⟨pu_bl, va_recv hK hP (ci := 9) (q0 := 0) rfl rfl, pu_in hP hK hD⟩ rfl rfl hl.1 rfl (lv_room (Nat.le_of_ble_eq_true rfl)) dX9_comes_77 ⟨Nat.le_of_ble_eq_true rfl, Nat.le_of_ble_eq_true rfl⟩) hS (fun q _ h => pu_fr hS hA q h) (pu_fr hS hA) (fun r_33 u t H1 locs ht hvm hw hB hz1 hk1 hS => ?_)
          have hP := pu_keep hP hk1
          clear hk1 hz1 ht hvm
          generalize H1 = H at hP hS ⊢
          obtain ⟨u_34, hu_34, rfl⟩ := hw
          refine lv_if_eq (tgt := 84) hx hb dX9_comes_80 (by decide) (fun c_35 => ?_) (fun c_35 => ?_)
          · have c_35 : u_34 = 0 := (nI_eq (a := u_34) (b := 0) (Nat.lt_of_le_of_lt hu_34 (Nat.le_of_ble_eq_true rfl)) (Nat.le_of_ble_eq_true rfl)).mp c_35
            refine lv_iinc (v := (nI (g_8 + 1))) (lv' := [(8, .int (nI (g_8 + 1))), (0, .ref (ad 0)), (1, .int 0), (2, .int (nI a1)), (3, .int (nI a2)), (4, .int (nI a3)), (5, .int p4), (6, .int (nI a5)), (7, .int 120), (9, .int (nI g_8))]) hx hb dX9_comes_84 hl (k := 8) rfl (nI_1 _) (by decide) rfl (fun ls hl => ?_)
            refine lv_goto (tgt := 30) hx hb dX9_comes_87 (by decide) ?_
            exact ih_9 (120 - (g_8 + 1)) (by omega) _ _ _ ⟨(g_8 + 1), rfl, (by omega), hP, hD, hS, lv_sub hl [1, 2, 3, 4, 5, 6, 7, 8, 0] rfl⟩
          · have c_35 : ¬ u_34 = 0 := fun z => c_35 ((nI_eq (a := u_34) (b := 0) (Nat.lt_of_le_of_lt hu_34 (Nat.le_of_ble_eq_true rfl)) (Nat.le_of_ble_eq_true rfl)).mpr z)
            exact W.vret hx hb hr (fun t ht hW => ⟨⟨(), rfl, trivial, ⟨f34, z35_6, q38, f39, f40, f41, f44, m42_0, ⟨by rw [ht]; exact hP, va_K.moved hW.alike hK, hD⟩, hm42_0, hgr, by omega⟩⟩, hS.F ht⟩) hS.2.2 dX9_comes_83
        refine lv_if_ne (tgt := 76) hx hb dX9_comes_69 (by decide) (fun c_36 => ?_) (fun c_36 => ?_)
        · have c_36 : ¬ a5 = 0 := fun z => c_36 ((nI_eq (a := a5) (b := 0) (Nat.lt_of_le_of_lt ha5 (Nat.le_of_ble_eq_true rfl)) (Nat.le_of_ble_eq_true rfl)).mpr z)
          refine lv_iconst (v := 0) hx hb dX9_comes_76 (by decide) ?_
          exact j_32 _ _ _ _ ⟨0, rfl, (Nat.le_of_ble_eq_true rfl), hP, hD, hS, lv_sub hl [1, 2, 3, 4, 5, 6, 7, 8, 9, 0] rfl⟩
        · have c_36 : a5 = 0 := (nI_eq (a := a5) (b := 0) (Nat.lt_of_le_of_lt ha5 (Nat.le_of_ble_eq_true rfl)) (Nat.le_of_ble_eq_true rfl)).mp c_36
          refine lv_iconst (v := 1) hx hb dX9_comes_72 (by decide) ?_
          refine lv_goto (tgt := 77) hx hb dX9_comes_73 (by decide) ?_
          exact j_32 _ _ _ _ ⟨1, rfl, (Nat.le_of_ble_eq_true rfl), hP, hD, hS, lv_sub hl [1, 2, 3, 4, 5, 6, 7, 8, 9, 0] rfl⟩
  refine lv_if_ne (tgt := 17) hx hb dX9_comes_5 (by decide) (fun c_37 => ?_) (fun c_37 => ?_)
  · have c_37 : ¬ u_2 = 0 := fun z => c_37 ((nI_eq (a := u_2) (b := 0) (Nat.lt_of_le_of_lt hu_2 (Nat.le_of_ble_eq_true rfl)) (Nat.le_of_ble_eq_true rfl)).mpr z)
    exact j_4 _ _ _ _ ⟨f35, rfl, hP, hD, hS, lv_sub hl [0, 1, 2, 3, 4, 5, 6, 7] rfl⟩
  · have c_37 : u_2 = 0 := (nI_eq (a := u_2) (b := 0) (Nat.lt_of_le_of_lt hu_2 (Nat.le_of_ble_eq_true rfl)) (Nat.le_of_ble_eq_true rfl)).mp c_37
    refine lv_aload_n hx hb dX9_comes_8 rfl (lv_at hl 0 rfl) ?_
    refine lv_aload_n hx hb dX9_comes_9 rfl (lv_at hl 0 rfl) ?_
    refine va_get (D := (dC, dI)) (ci := 9) (v := .ref (ad 35)) (C := RX9) (T := TX9) (N := 67) hx hb hts hiX9 hown hK hP 0 rfl rfl 35 (by decide) v_6 (fun _ h9 => h9) rfl dX9_comes_10 ?_
    refine lv_iload_n hx hb dX9_comes_13 rfl (lv_at hl 2 rfl) ?_
    have hFc := pu_free hD hS hA
    refine va_callv (va_runV (As := [.ref (ad 35), .int (nI a1)]) (rest := []) ⟨hx, hb, hml, hown, hts⟩ (c_M_delays l dC dI _ ad ck x0 x16 x18 x19 x20 x21 x22 x23 x24 x25 x26 x27 x28 x29 x30 x33 x45 x46 x52 x53 x61 x62 x63 x65 x66 f1 f2 f3 q4 q5 q6 q7 f8 q9 q10 f11 m12_0 m12_1 m13_0 m13_1 m14_0 m14_1 m15_0 m15_1 f17 q31 f32 f34 f35 f36 f37 q38 f39 f40 f41 m42_0 m42_1 f43 f44 f47 f48 f49 f50 f51 q54 q55 q56 f57 q58 f59 f60 f64 a1 hx16 hx18 hx19 hx21 hx22 hx26 hx28 hx29 hx30 hx33 hx46 hx52 hx53 hx61 hx62 hx63 hx65 hm12_0 hm12_1 hm13_0 hm13_1 hm14_0 hm14_1 hm15_0 hm15_1 hm42_0 hm42_1 ha1) (cwV 2 hts g_M_comes_0_120_1_M_delays rfl rfl rfl (by decide +kernel) ⟨Nat.le_of_ble_eq_true rfl, Nat.le_of_ble_eq_true rfl⟩) ⟨pu_bl, va_recv hK hP (ci := 9) (q0 := 0) rfl rfl, pu_in hP hK hD⟩ rfl rfl hl.1 rfl (lv_room (Nat.le_of_ble_eq_true rfl)) dX9_comes_14 ⟨Nat.le_of_ble_eq_true rfl, Nat.le_of_ble_eq_true rfl⟩) hS (fun q _ h => hFc q h) hFc (fun u t H1 locs ht hvm hw hB hz1 hk1 hS => ?_)
    obtain ⟨z35_39, ⟨hP1, -, hD1⟩⟩ := hB
    rw [ht] at hP1
    have hP := hP1
    have hD := pu_all hFc hD1
    clear hP1 hD1 hFc
    clear hk1 hz1 ht hvm
    generalize H1 = H at hP hS ⊢
    exact j_4 _ _ _ _ ⟨z35_39, rfl, hP, hD, hS, lv_sub hl [0, 1, 2, 3, 4, 5, 6, 7] rfl⟩
theorem dX9_explores_0 : decode cX9_explores 0 = .ok (.aload_n 0, 1) := by decide +kernel
theorem dX9_explores_1 : decode cX9_explores 1 = .ok (.getfield 92, 3) := by decide +kernel
theorem dX9_explores_4 : decode cX9_explores 4 = .ok (.iload_n 1, 1) := by decide +kernel
theorem dX9_explores_5 : decode cX9_explores 5 = .ok (.iconst 0, 1) := by decide +kernel
theorem dX9_explores_6 : decode cX9_explores 6 = .ok (.iastore, 1) := by decide +kernel
theorem dX9_explores_7 : decode cX9_explores 7 = .ok (.aload_n 0, 1) := by decide +kernel
theorem dX9_explores_8 : decode cX9_explores 8 = .ok (.getfield 95, 3) := by decide +kernel
theorem dX9_explores_11 : decode cX9_explores 11 = .ok (.iload_n 1, 1) := by decide +kernel
theorem dX9_explores_12 : decode cX9_explores 12 = .ok (.iconst 0, 1) := by decide +kernel
theorem dX9_explores_13 : decode cX9_explores 13 = .ok (.iastore, 1) := by decide +kernel
theorem dX9_explores_14 : decode cX9_explores 14 = .ok (.aload_n 0, 1) := by decide +kernel
theorem dX9_explores_15 : decode cX9_explores 15 = .ok (.getfield 98, 3) := by decide +kernel
theorem dX9_explores_18 : decode cX9_explores 18 = .ok (.iload_n 1, 1) := by decide +kernel
theorem dX9_explores_19 : decode cX9_explores 19 = .ok (.iconst 0, 1) := by decide +kernel
theorem dX9_explores_20 : decode cX9_explores 20 = .ok (.bastore, 1) := by decide +kernel
theorem dX9_explores_21 : decode cX9_explores 21 = .ok (.aload_n 0, 1) := by decide +kernel
theorem dX9_explores_22 : decode cX9_explores 22 = .ok (.iload_n 3, 1) := by decide +kernel
theorem dX9_explores_23 : decode cX9_explores 23 = .ok (.invokevirtual 369, 3) := by decide +kernel
theorem dX9_explores_26 : decode cX9_explores 26 = .ok (.aload_n 0, 1) := by decide +kernel
theorem dX9_explores_27 : decode cX9_explores 27 = .ok (.aload_n 0, 1) := by decide +kernel
theorem dX9_explores_28 : decode cX9_explores 28 = .ok (.getfield 71, 3) := by decide +kernel
theorem dX9_explores_31 : decode cX9_explores 31 = .ok (.bipush 100, 2) := by decide +kernel
theorem dX9_explores_33 : decode cX9_explores 33 = .ok (.iload_n 2, 1) := by decide +kernel
theorem dX9_explores_34 : decode cX9_explores 34 = .ok (.iadd, 1) := by decide +kernel
theorem dX9_explores_35 : decode cX9_explores 35 = .ok (.invokevirtual 342, 3) := by decide +kernel
theorem dX9_explores_38 : decode cX9_explores 38 = .ok (.aload_n 0, 1) := by decide +kernel
theorem dX9_explores_39 : decode cX9_explores 39 = .ok (.aload_n 0, 1) := by decide +kernel
theorem dX9_explores_40 : decode cX9_explores 40 = .ok (.getfield 71, 3) := by decide +kernel
theorem dX9_explores_43 : decode cX9_explores 43 = .ok (.invokevirtual 345, 3) := by decide +kernel
theorem dX9_explores_46 : decode cX9_explores 46 = .ok (.ifCond .ne 4, 3) := by decide +kernel
theorem dX9_explores_49 : decode cX9_explores 49 = .ok (.return_, 1) := by decide +kernel
theorem dX9_explores_50 : decode cX9_explores 50 = .ok (.aload_n 0, 1) := by decide +kernel
theorem dX9_explores_51 : decode cX9_explores 51 = .ok (.iload_n 1, 1) := by decide +kernel
theorem dX9_explores_52 : decode cX9_explores 52 = .ok (.iload_n 2, 1) := by decide +kernel
theorem dX9_explores_53 : decode cX9_explores 53 = .ok (.iconst (-1), 1) := by decide +kernel
theorem dX9_explores_54 : decode cX9_explores 54 = .ok (.iconst (-1), 1) := by decide +kernel
theorem dX9_explores_55 : decode cX9_explores 55 = .ok (.iload_n 3, 1) := by decide +kernel
theorem dX9_explores_56 : decode cX9_explores 56 = .ok (.iload 4, 2) := by decide +kernel
theorem dX9_explores_58 : decode cX9_explores 58 = .ok (.iload 5, 2) := by decide +kernel
theorem dX9_explores_60 : decode cX9_explores 60 = .ok (.invokevirtual 372, 3) := by decide +kernel
theorem dX9_explores_63 : decode cX9_explores 63 = .ok (.iconst 0, 1) := by decide +kernel
theorem dX9_explores_64 : decode cX9_explores 64 = .ok (.istore 7, 2) := by decide +kernel
theorem dX9_explores_66 : decode cX9_explores 66 = .ok (.iload 7, 2) := by decide +kernel
theorem dX9_explores_68 : decode cX9_explores 68 = .ok (.aload_n 0, 1) := by decide +kernel
theorem dX9_explores_69 : decode cX9_explores 69 = .ok (.getfield 92, 3) := by decide +kernel
theorem dX9_explores_72 : decode cX9_explores 72 = .ok (.iload_n 1, 1) := by decide +kernel
theorem dX9_explores_73 : decode cX9_explores 73 = .ok (.iaload, 1) := by decide +kernel
theorem dX9_explores_74 : decode cX9_explores 74 = .ok (.if_icmp .ge 132, 3) := by decide +kernel
theorem dX9_explores_77 : decode cX9_explores 77 = .ok (.iconst 0, 1) := by decide +kernel
theorem dX9_explores_78 : decode cX9_explores 78 = .ok (.istore 8, 2) := by decide +kernel
theorem dX9_explores_80 : decode cX9_explores 80 = .ok (.iload 8, 2) := by decide +kernel
theorem dX9_explores_82 : decode cX9_explores 82 = .ok (.aload_n 0, 1) := by decide +kernel
theorem dX9_explores_83 : decode cX9_explores 83 = .ok (.getfield 49, 3) := by decide +kernel
theorem dX9_explores_86 : decode cX9_explores 86 = .ok (.aload_n 0, 1) := by decide +kernel
theorem dX9_explores_87 : decode cX9_explores 87 = .ok (.getfield 258, 3) := by decide +kernel
theorem dX9_explores_90 : decode cX9_explores 90 = .ok (.iaload, 1) := by decide +kernel
theorem dX9_explores_91 : decode cX9_explores 91 = .ok (.if_icmp .ge 109, 3) := by decide +kernel
theorem dX9_explores_94 : decode cX9_explores 94 = .ok (.iload_n 1, 1) := by decide +kernel
theorem dX9_explores_95 : decode cX9_explores 95 = .ok (.iload 7, 2) := by decide +kernel
theorem dX9_explores_97 : decode cX9_explores 97 = .ok (.invokestatic 355, 3) := by decide +kernel
theorem dX9_explores_100 : decode cX9_explores 100 = .ok (.istore 9, 2) := by decide +kernel
theorem dX9_explores_102 : decode cX9_explores 102 = .ok (.aload_n 0, 1) := by decide +kernel
theorem dX9_explores_103 : decode cX9_explores 103 = .ok (.iload 8, 2) := by decide +kernel
theorem dX9_explores_105 : decode cX9_explores 105 = .ok (.invokevirtual 289, 3) := by decide +kernel
theorem dX9_explores_108 : decode cX9_explores 108 = .ok (.aload_n 0, 1) := by decide +kernel
theorem dX9_explores_109 : decode cX9_explores 109 = .ok (.getfield 80, 3) := by decide +kernel
theorem dX9_explores_112 : decode cX9_explores 112 = .ok (.iload 9, 2) := by decide +kernel
theorem dX9_explores_114 : decode cX9_explores 114 = .ok (.iaload, 1) := by decide +kernel
theorem dX9_explores_115 : decode cX9_explores 115 = .ok (.if_icmp .ne 79, 3) := by decide +kernel
theorem dX9_explores_118 : decode cX9_explores 118 = .ok (.aload_n 0, 1) := by decide +kernel
theorem dX9_explores_119 : decode cX9_explores 119 = .ok (.iload 8, 2) := by decide +kernel
theorem dX9_explores_121 : decode cX9_explores 121 = .ok (.invokevirtual 292, 3) := by decide +kernel
theorem dX9_explores_124 : decode cX9_explores 124 = .ok (.iload 6, 2) := by decide +kernel
theorem dX9_explores_126 : decode cX9_explores 126 = .ok (.if_icmp .ne 6, 3) := by decide +kernel
theorem dX9_explores_129 : decode cX9_explores 129 = .ok (.goto 65, 3) := by decide +kernel
theorem dX9_explores_132 : decode cX9_explores 132 = .ok (.aload_n 0, 1) := by decide +kernel
theorem dX9_explores_133 : decode cX9_explores 133 = .ok (.getfield 68, 3) := by decide +kernel
theorem dX9_explores_136 : decode cX9_explores 136 = .ok (.bipush 25, 2) := by decide +kernel
theorem dX9_explores_138 : decode cX9_explores 138 = .ok (.iload 9, 2) := by decide +kernel
theorem dX9_explores_140 : decode cX9_explores 140 = .ok (.imul, 1) := by decide +kernel
theorem dX9_explores_141 : decode cX9_explores 141 = .ok (.aload_n 0, 1) := by decide +kernel
theorem dX9_explores_142 : decode cX9_explores 142 = .ok (.getfield 71, 3) := by decide +kernel
theorem dX9_explores_145 : decode cX9_explores 145 = .ok (.iconst 0, 1) := by decide +kernel
theorem dX9_explores_146 : decode cX9_explores 146 = .ok (.invokestatic 362, 3) := by decide +kernel
theorem dX9_explores_149 : decode cX9_explores 149 = .ok (.aload_n 0, 1) := by decide +kernel
theorem dX9_explores_150 : decode cX9_explores 150 = .ok (.iload 8, 2) := by decide +kernel
theorem dX9_explores_152 : decode cX9_explores 152 = .ok (.invokevirtual 376, 3) := by decide +kernel
theorem dX9_explores_155 : decode cX9_explores 155 = .ok (.ifCond .ne 6, 3) := by decide +kernel
theorem dX9_explores_158 : decode cX9_explores 158 = .ok (.goto 36, 3) := by decide +kernel
theorem dX9_explores_161 : decode cX9_explores 161 = .ok (.aload_n 0, 1) := by decide +kernel
theorem dX9_explores_162 : decode cX9_explores 162 = .ok (.getfield 95, 3) := by decide +kernel
theorem dX9_explores_165 : decode cX9_explores 165 = .ok (.iload_n 1, 1) := by decide +kernel
theorem dX9_explores_166 : decode cX9_explores 166 = .ok (.dup2, 1) := by decide +kernel
theorem dX9_explores_167 : decode cX9_explores 167 = .ok (.iaload, 1) := by decide +kernel
theorem dX9_explores_168 : decode cX9_explores 168 = .ok (.iconst 1, 1) := by decide +kernel
theorem dX9_explores_169 : decode cX9_explores 169 = .ok (.iload 8, 2) := by decide +kernel
theorem dX9_explores_171 : decode cX9_explores 171 = .ok (.ishl, 1) := by decide +kernel
theorem dX9_explores_172 : decode cX9_explores 172 = .ok (.ior, 1) := by decide +kernel
theorem dX9_explores_173 : decode cX9_explores 173 = .ok (.iastore, 1) := by decide +kernel
theorem dX9_explores_174 : decode cX9_explores 174 = .ok (.aload_n 0, 1) := by decide +kernel
theorem dX9_explores_175 : decode cX9_explores 175 = .ok (.iload_n 1, 1) := by decide +kernel
theorem dX9_explores_176 : decode cX9_explores 176 = .ok (.aload_n 0, 1) := by decide +kernel
theorem dX9_explores_177 : decode cX9_explores 177 = .ok (.iload 8, 2) := by decide +kernel
theorem dX9_explores_179 : decode cX9_explores 179 = .ok (.invokevirtual 292, 3) := by decide +kernel
theorem dX9_explores_182 : decode cX9_explores 182 = .ok (.iload 7, 2) := by decide +kernel
theorem dX9_explores_184 : decode cX9_explores 184 = .ok (.iload 8, 2) := by decide +kernel
theorem dX9_explores_186 : decode cX9_explores 186 = .ok (.iload_n 3, 1) := by decide +kernel
theorem dX9_explores_187 : decode cX9_explores 187 = .ok (.iload 4, 2) := by decide +kernel
theorem dX9_explores_189 : decode cX9_explores 189 = .ok (.iload 5, 2) := by decide +kernel
theorem dX9_explores_191 : decode cX9_explores 191 = .ok (.invokevirtual 372, 3) := by decide +kernel
theorem dX9_explores_194 : decode cX9_explores 194 = .ok (.iinc 8 1, 3) := by decide +kernel
theorem dX9_explores_197 : decode cX9_explores 197 = .ok (.goto (-117), 3) := by decide +kernel
theorem dX9_explores_200 : decode cX9_explores 200 = .ok (.iinc 7 1, 3) := by decide +kernel
theorem dX9_explores_203 : decode cX9_explores 203 = .ok (.goto (-137), 3) := by decide +kernel
theorem dX9_explores_206 : decode cX9_explores 206 = .ok (.return_, 1) := by decide +kernel
abbrev vs_M_explores_0_120 : List Cond := .code yX9_explores cX9_explores 10 none :: VM
theorem g_M_explores_0_120_M_layForgotten : GoodIn vs_M_explores_0_120 (wsV RX9 369 RX9 yX9_layForgotten vs_M_layForgotten) := gm_V vm_260 vm_261 vm_262 vm_12 vm_227
theorem g_M_explores_0_120_M_holdsAll_p : GoodIn vs_M_explores_0_120 (wsV RX9 342 RX9 yX9_holdsAll vs_M_holdsAll_p) := gm_V vm_221 vm_222 vm_223 vm_12 vm_215
theorem g_M_explores_0_120_M_closes_z : GoodIn vs_M_explores_0_120 (wsV RX9 345 RX9 yX9_closes vs_M_closes_z) := gm_V vm_224 vm_225 vm_226 vm_12 vm_208
theorem g_M_explores_0_120_M_comes_0_120_0 : GoodIn vs_M_explores_0_120 (wsV RX9 372 RX9 yX9_comes vs_M_comes_0_120_0) := gm_V vm_263 vm_264 vm_265 vm_12 vm_243
theorem g_M_explores_0_120_M_spotOf_0 : GoodIn vs_M_explores_0_120 (va_wsS RX9 355 yX9_spotOf vs_M_spotOf_0) := gm_S vm_241 vm_242 vm_12 vm_13
theorem g_M_explores_0_120_M_outOf : GoodIn vs_M_explores_0_120 (wsV RX9 289 RX9 yX9_outOf vs_M_outOf) := gm_V vm_66 vm_67 vm_68 vm_12 vm_27
theorem g_M_explores_0_120_M_into : GoodIn vs_M_explores_0_120 (wsV RX9 292 RX9 yX9_into vs_M_into) := gm_V vm_63 vm_64 vm_65 vm_12 vm_29
theorem g_M_explores_0_120_M_copies_nz : GoodIn vs_M_explores_0_120 (va_wsS RX9 362 yX9_copies vs_M_copies_nz) := gm_S vm_250 vm_251 vm_12 vm_8
theorem g_M_explores_0_120_M_goesBy : GoodIn vs_M_explores_0_120 (wsV RX9 376 RX9 yX9_goesBy vs_M_goesBy) := gm_V vm_266 vm_267 vm_268 vm_12 vm_233
theorem g_M_explores_0_120_M_comes_0_120_1 : GoodIn vs_M_explores_0_120 (wsV RX9 372 RX9 yX9_comes vs_M_comes_0_120_1) := gm_V vm_263 vm_264 vm_265 vm_12 vm_243
set_option maxHeartbeats 4000000 in
set_option maxRecDepth 100000 in
theorem c_M_explores_0_120 (l : Launch) (dC : Nat → ClassId) (dI : Nat → Nat → Nat) (sz : Nat) (ad : Nat → Nat) (ck : Nat → ClassId) (x0 : Int32) (x16 : Nat) (x18 : Nat) (x19 : Nat) (x20 : Int32) (x21 : Nat) (x22 : Nat) (x23 : Int32) (x24 : Int32) (x25 : Int32) (x26 : Nat) (x27 : Int32) (x28 : Nat) (x29 : Nat) (x30 : Nat) (x33 : Nat) (x45 : Int32) (x46 : Nat) (x52 : Nat) (x53 : Nat) (x61 : Nat) (x62 : Nat) (x63 : Nat) (x65 : Nat) (x66 : Int32) (f1 : Nat → Int32) (f2 : Nat → Int32) (f3 : Nat → Int32) (q4 : Nat → Nat) (q5 : Nat → Nat) (q6 : Nat → Nat) (q7 : Nat → Nat) (f8 : Nat → Int32) (q9 : Nat → Nat) (q10 : Nat → Nat) (f11 : Nat → Int32) (m12_0 m12_1 : Nat) (m13_0 m13_1 : Nat) (m14_0 m14_1 : Nat) (m15_0 m15_1 : Nat) (f17 : Nat → Int32) (q31 : Nat → Nat) (f32 : Nat → Int32) (f34 : Nat → Int32) (f35 : Nat → Int32) (f36 : Nat → Int32) (f37 : Nat → Int32) (q38 : Nat → Nat) (f39 : Nat → Int32) (f40 : Nat → Int32) (f41 : Nat → Int32) (m42_0 m42_1 : Nat) (f43 : Nat → Int32) (f44 : Nat → Int32) (f47 : Nat → Int32) (f48 : Nat → Int32) (f49 : Nat → Int32) (f50 : Nat → Int32) (f51 : Nat → Int32) (q54 : Nat → Nat) (q55 : Nat → Nat) (q56 : Nat → Nat) (f57 : Nat → Int32) (q58 : Nat → Nat) (f59 : Nat → Int32) (f60 : Nat → Int32) (f64 : Nat → Int32) (a1 : Nat) (p2 : Int32) (a3 : Nat) (p5 : Int32) (hx16 : x16 ≤ 1) (hx18 : x18 ≤ 900) (hx19 : x19 ≤ 900) (hx21 : x21 ≤ 900) (hx22 : x22 ≤ 4) (hx26 : x26 ≤ 6) (hx28 : x28 ≤ 1) (hx29 : x29 ≤ 1) (hx30 : x30 ≤ 1) (hx33 : x33 ≤ 20) (hx46 : x46 ≤ 5) (hx52 : x52 ≤ 2400) (hx53 : x53 ≤ 119) (hx61 : x61 ≤ 119) (hx62 : x62 ≤ 2000) (hx63 : x63 ≤ 1) (hx65 : x65 ≤ 7) (hm12_0 : m12_0 ≤ 3) (hm12_1 : m12_1 ≤ 3) (hm13_0 : m13_0 ≤ 8) (hm13_1 : m13_1 ≤ 8) (hm14_0 : m14_0 ≤ 14) (hm14_1 : m14_1 ≤ 14) (hm15_0 : m15_0 ≤ 8) (hm15_1 : m15_1 ≤ 8) (hm42_0 : m42_0 ≤ 120) (hm42_1 : m42_1 ≤ 400) (ha1 : a1 ≤ 7) (ha3 : a3 ≤ 1) (hgr : gz_ok m42_0 f39 f40 f41) : Met l yX9_explores vs_M_explores_0_120 ({ frames := 6, cells := 0, slots := 0, locals := 142 }) (va_Pc [.ref (ad 0), .int 0, .int (nI a1), .int p2, .int (nI a3), .int 120, .int p5] (pu_B (dC, dI) (mo_w ad ck x0 (nI x16) (nI x18) (nI x19) x20 (nI x21) (nI x22) x23 x24 x25 (nI x26) x27 (nI x28) (nI x29) (nI x30) (nI x33) x45 (nI x46) (nI x52) (nI x53) (nI x61) (nI x62) (nI x63) (nI x65) x66 f1 f2 f3 (bN 3 q4) (bN 7 q5) (bN 7 q6) (bN 4 q7) f8 (bN 2 q9) (bH q10) f11 (b2 m12_0 m12_1) (b2 m13_0 m13_1) (b2 m14_0 m14_1) (b2m m15_0 m15_1) f17 (bA 159 q31) f32 f34 f35 f36 f37 (bN 7 q38) f39 f40 f41 (b2 m42_0 m42_1) f43 f44 f47 f48 f49 f50 f51 (bN 13 q54) (bN 120 q55) (bN 120 q56) f57 (bN 120 q58) f59 f60 f64) (mo_t ck) sz)) (va_Qv (fun (_ : Unit) => True) (fun _ t => ∃ (z34 : Nat → Int32) (z35 : Nat → Int32) (z38 : Nat → Nat) (z39 : Nat → Int32) (z40 : Nat → Int32) (z41 : Nat → Int32) (z43 : Nat → Int32) (z44 : Nat → Int32) (z47 : Nat → Int32) (z48 : Nat → Int32) (z42_0 : Nat), pu_E (dC, dI) (mo_w ad ck x0 (nI x16) (nI x18) (nI x19) x20 (nI x21) (nI x22) x23 x24 x25 (nI x26) x27 (nI x28) (nI x29) (nI x30) (nI x33) x45 (nI x46) (nI x52) (nI x53) (nI x61) (nI x62) (nI x63) (nI x65) x66 f1 f2 f3 (bN 3 q4) (bN 7 q5) (bN 7 q6) (bN 4 q7) f8 (bN 2 q9) (bH q10) f11 (b2 m12_0 m12_1) (b2 m13_0 m13_1) (b2 m14_0 m14_1) (b2m m15_0 m15_1) f17 (bA 159 q31) f32 z34 z35 f36 f37 (bN 7 z38) z39 z40 z41 (b2 z42_0 m42_1) z43 z44 z47 z48 f49 f50 f51 (bN 13 q54) (bN 120 q55) (bN 120 q56) f57 (bN 120 q58) f59 f60 f64) (mo_t ck) (va_A ((mo_w ad ck x0 (nI x16) (nI x18) (nI x19) x20 (nI x21) (nI x22) x23 x24 x25 (nI x26) x27 (nI x28) (nI x29) (nI x30) (nI x33) x45 (nI x46) (nI x52) (nI x53) (nI x61) (nI x62) (nI x63) (nI x65) x66 f1 f2 f3 (bN 3 q4) (bN 7 q5) (bN 7 q6) (bN 4 q7) f8 (bN 2 q9) (bH q10) f11 (b2 m12_0 m12_1) (b2 m13_0 m13_1) (b2 m14_0 m14_1) (b2m m15_0 m15_1) f17 (bA 159 q31) f32 f34 f35 f36 f37 (bN 7 q38) f39 f40 f41 (b2 m42_0 m42_1) f43 f44 f47 f48 f49 f50 f51 (bN 13 q54) (bN 120 q55) (bN 120 q56) f57 (bN 120 q58) f59 f60 f64)) sz) t ∧ (z42_0 ≤ 120) ∧ (gz_ok z42_0 z39 z40 z41)) (va_A ((mo_w ad ck x0 (nI x16) (nI x18) (nI x19) x20 (nI x21) (nI x22) x23 x24 x25 (nI x26) x27 (nI x28) (nI x29) (nI x30) (nI x33) x45 (nI x46) (nI x52) (nI x53) (nI x61) (nI x62) (nI x63) (nI x65) x66 f1 f2 f3 (bN 3 q4) (bN 7 q5) (bN 7 q6) (bN 4 q7) f8 (bN 2 q9) (bH q10) f11 (b2 m12_0 m12_1) (b2 m13_0 m13_1) (b2 m14_0 m14_1) (b2m m15_0 m15_1) f17 (bA 159 q31) f32 f34 f35 f36 f37 (bN 7 q38) f39 f40 f41 (b2 m42_0 m42_1) f43 f44 f47 f48 f49 f50 f51 (bN 13 q54) (bN 120 q55) (bN 120 q56) f57 (bN 120 q58) f59 f60 f64)) sz)) 0 0 (va_A ((mo_w ad ck x0 (nI x16) (nI x18) (nI x19) x20 (nI x21) (nI x22) x23 x24 x25 (nI x26) x27 (nI x28) (nI x29) (nI x30) (nI x33) x45 (nI x46) (nI x52) (nI x53) (nI x61) (nI x62) (nI x63) (nI x65) x66 f1 f2 f3 (bN 3 q4) (bN 7 q5) (bN 7 q6) (bN 4 q7) f8 (bN 2 q9) (bH q10) f11 (b2 m12_0 m12_1) (b2 m13_0 m13_1) (b2 m14_0 m14_1) (b2m m15_0 m15_1) f17 (bA 159 q31) f32 f34 f35 f36 f37 (bN 7 q38) f39 f40 f41 (b2 m42_0 m42_1) f43 f44 f47 f48 f49 f50 f51 (bN 13 q54) (bN 120 q55) (bN 120 q56) f57 (bN 120 q58) f59 f60 f64)) sz) := by
  refine Met.ofW (cc := cX9_explores) (maxL := 10) (ret := none) (by decide) rfl ?_
  intro p e s m args below meth c s₁ B hml hv
  obtain ⟨rfl, rfl, hP, hK, hD0⟩ := hv
  have hx := B.exec
  have hb := B.bytes
  have hr := B.returns
  have hts := atoms_spec (ws := vs_M_explores_0_120) B.pre
  have v_1 := hts (.fieldLink RX9 92 "ClockReachModel" "stateMany" "[I") (List.mem_cons_of_mem _ vm_177)
  have v_2 := hts (.fieldLink RX9 95 "ClockReachModel" "takenBy" "[I") (List.mem_cons_of_mem _ vm_259)
  have v_3 := hts (.fieldLink RX9 98 "ClockReachModel" "isFull" "[Z") (List.mem_cons_of_mem _ vm_178)
  have v_9 := hts (.fieldLink RX9 71 "ClockReachModel" "z" "[I") (List.mem_cons_of_mem _ vm_234)
  have v_22 := hts (.fieldLink RX9 49 "ClockReachModel" "edgeMany" "[I") (List.mem_cons_of_mem _ vm_62)
  have v_23 := hts (.fieldLink RX9 258 "ClockReachModel" "bank" "I") (List.mem_cons_of_mem _ vm_22)
  have v_31 := hts (.fieldLink RX9 80 "ClockReachModel" "statePlace" "[I") (List.mem_cons_of_mem _ vm_240)
  have v_36 := hts (.fieldLink RX9 68 "ClockReachModel" "zone" "[I") (List.mem_cons_of_mem _ vm_232)
  have hown : s.vm.findClass RX9 = some m.cls := findClass_of_methodNamed B.named
  have hlocks := B.notSynchronized
  have hiX9 : ∀ w ∈ wsX90, w ∈ vs_M_explores_0_120 := fun _ h => List.mem_cons_of_mem _ (List.mem_append_right _ h)
  have hD := hD0.self (sz := s.heap.size)
  generalize hAe : va_A ((mo_w ad ck x0 (nI x16) (nI x18) (nI x19) x20 (nI x21) (nI x22) x23 x24 x25 (nI x26) x27 (nI x28) (nI x29) (nI x30) (nI x33) x45 (nI x46) (nI x52) (nI x53) (nI x61) (nI x62) (nI x63) (nI x65) x66 f1 f2 f3 (bN 3 q4) (bN 7 q5) (bN 7 q6) (bN 4 q7) f8 (bN 2 q9) (bH q10) f11 (b2 m12_0 m12_1) (b2 m13_0 m13_1) (b2 m14_0 m14_1) (b2m m15_0 m15_1) f17 (bA 159 q31) f32 f34 f35 f36 f37 (bN 7 q38) f39 f40 f41 (b2 m42_0 m42_1) f43 f44 f47 f48 f49 f50 f51 (bN 13 q54) (bN 120 q55) (bN 120 q56) f57 (bN 120 q58) f59 f60 f64)) s.heap.size = A at hD ⊢
  have hA : ∀ q : Nat, s.heap.size ≤ q → A q := fun q h => by rw [← hAe]; exact Or.inr h
  have hS : va_S A s.heap s.heap [] := va_S.rf
  have hl := lv_entry ([.ref (ad 0), .int 0, .int (nI a1), .int p2, .int (nI a3), .int 120, .int p5]) (n := 10) (Nat.le_of_ble_eq_true rfl)
  rw [lg_entry_eq]
  generalize (lg_sl ([.ref (ad 0), .int 0, .int (nI a1), .int p2, .int (nI a3), .int 120, .int p5]) ++ List.replicate (10 - (lg_sl ([.ref (ad 0), .int 0, .int (nI a1), .int p2, .int (nI a3), .int 120, .int p5])).length) Slot.unset).toArray = ls at hl ⊢
  have hl : lv_has ls 10 [(0, .ref (ad 0)), (1, .int 0), (2, .int (nI a1)), (3, .int p2), (4, .int (nI a3)), (5, .int 120), (6, .int p5)] := hl
  refine lv_aload_n hx hb dX9_explores_0 rfl (lv_at hl 0 rfl) ?_
  refine va_get (D := (dC, dI)) (ci := 9) (v := .ref (ad 42)) (C := RX9) (T := TX9) (N := 67) hx hb hts hiX9 hown hK hP 0 rfl rfl 42 (by decide) v_1 (fun _ h9 => h9) rfl dX9_explores_1 ?_
  refine lv_iload_n hx hb dX9_explores_4 rfl (lv_at hl 1 rfl) ?_
  refine lv_iconst (v := 0) hx hb dX9_explores_5 (by decide) ?_
  refine va_iast hx hb hK hP hD hS 27 26 rfl rfl (vp_in_nI (n := 0) (Nat.le_of_ble_eq_true rfl) (Nat.le_of_ble_eq_true rfl)) dX9_explores_6 (fun H locs hP hD hS => ?_)
  have hP : va_P (dC, dI) vwCl (mo_w ad ck x0 (nI x16) (nI x18) (nI x19) x20 (nI x21) (nI x22) x23 x24 x25 (nI x26) x27 (nI x28) (nI x29) (nI x30) (nI x33) x45 (nI x46) (nI x52) (nI x53) (nI x61) (nI x62) (nI x63) (nI x65) x66 f1 f2 f3 (bN 3 q4) (bN 7 q5) (bN 7 q6) (bN 4 q7) f8 (bN 2 q9) (bH q10) f11 (b2 m12_0 m12_1) (b2 m13_0 m13_1) (b2 m14_0 m14_1) (b2m m15_0 m15_1) f17 (bA 159 q31) f32 f34 f35 f36 f37 (bN 7 q38) f39 f40 f41 (b2 0 m42_1) f43 f44 f47 f48 f49 f50 f51 (bN 13 q54) (bN 120 q55) (bN 120 q56) f57 (bN 120 q58) f59 f60 f64) H := by rw [← b2_up0 (a := m42_0) (b := m42_1) (v := 0)]; exact hP
  have hD : va_D A (mo_w ad ck x0 (nI x16) (nI x18) (nI x19) x20 (nI x21) (nI x22) x23 x24 x25 (nI x26) x27 (nI x28) (nI x29) (nI x30) (nI x33) x45 (nI x46) (nI x52) (nI x53) (nI x61) (nI x62) (nI x63) (nI x65) x66 f1 f2 f3 (bN 3 q4) (bN 7 q5) (bN 7 q6) (bN 4 q7) f8 (bN 2 q9) (bH q10) f11 (b2 m12_0 m12_1) (b2 m13_0 m13_1) (b2 m14_0 m14_1) (b2m m15_0 m15_1) f17 (bA 159 q31) f32 f34 f35 f36 f37 (bN 7 q38) f39 f40 f41 (b2 0 m42_1) f43 f44 f47 f48 f49 f50 f51 (bN 13 q54) (bN 120 q55) (bN 120 q56) f57 (bN 120 q58) f59 f60 f64) := by rw [← b2_up0 (a := m42_0) (b := m42_1) (v := 0)]; exact hD
  refine lv_aload_n hx hb dX9_explores_7 rfl (lv_at hl 0 rfl) ?_
  refine va_get (D := (dC, dI)) (ci := 9) (v := .ref (ad 43)) (C := RX9) (T := TX9) (N := 67) hx hb hts hiX9 hown hK hP 0 rfl rfl 43 (by decide) v_2 (fun _ h9 => h9) rfl dX9_explores_8 ?_
  refine lv_iload_n hx hb dX9_explores_11 rfl (lv_at hl 1 rfl) ?_
  refine lv_iconst (v := 0) hx hb dX9_explores_12 (by decide) ?_
  refine va_iast hx hb hK hP hD hS 28 27 rfl rfl (vp_in_nI (n := 0) (Nat.le_of_ble_eq_true rfl) (Nat.le_of_ble_eq_true rfl)) dX9_explores_13 (fun H locs hP hD hS => ?_)
  have hP : va_P (dC, dI) vwCl (mo_w ad ck x0 (nI x16) (nI x18) (nI x19) x20 (nI x21) (nI x22) x23 x24 x25 (nI x26) x27 (nI x28) (nI x29) (nI x30) (nI x33) x45 (nI x46) (nI x52) (nI x53) (nI x61) (nI x62) (nI x63) (nI x65) x66 f1 f2 f3 (bN 3 q4) (bN 7 q5) (bN 7 q6) (bN 4 q7) f8 (bN 2 q9) (bH q10) f11 (b2 m12_0 m12_1) (b2 m13_0 m13_1) (b2 m14_0 m14_1) (b2m m15_0 m15_1) f17 (bA 159 q31) f32 f34 f35 f36 f37 (bN 7 q38) f39 f40 f41 (b2 0 m42_1) (upd f43 (0 : Int32).toNatClampNeg 0) f44 f47 f48 f49 f50 f51 (bN 13 q54) (bN 120 q55) (bN 120 q56) f57 (bN 120 q58) f59 f60 f64) H := hP
  have hD : va_D A (mo_w ad ck x0 (nI x16) (nI x18) (nI x19) x20 (nI x21) (nI x22) x23 x24 x25 (nI x26) x27 (nI x28) (nI x29) (nI x30) (nI x33) x45 (nI x46) (nI x52) (nI x53) (nI x61) (nI x62) (nI x63) (nI x65) x66 f1 f2 f3 (bN 3 q4) (bN 7 q5) (bN 7 q6) (bN 4 q7) f8 (bN 2 q9) (bH q10) f11 (b2 m12_0 m12_1) (b2 m13_0 m13_1) (b2 m14_0 m14_1) (b2m m15_0 m15_1) f17 (bA 159 q31) f32 f34 f35 f36 f37 (bN 7 q38) f39 f40 f41 (b2 0 m42_1) (upd f43 (0 : Int32).toNatClampNeg 0) f44 f47 f48 f49 f50 f51 (bN 13 q54) (bN 120 q55) (bN 120 q56) f57 (bN 120 q58) f59 f60 f64) := hD
  refine lv_aload_n hx hb dX9_explores_14 rfl (lv_at hl 0 rfl) ?_
  refine va_get (D := (dC, dI)) (ci := 9) (v := .ref (ad 44)) (C := RX9) (T := TX9) (N := 67) hx hb hts hiX9 hown hK hP 0 rfl rfl 44 (by decide) v_3 (fun _ h9 => h9) rfl dX9_explores_15 ?_
  refine lv_iload_n hx hb dX9_explores_18 rfl (lv_at hl 1 rfl) ?_
  refine lv_iconst (v := 0) hx hb dX9_explores_19 (by decide) ?_
  refine va_zast hx hb hK hP hD hS 29 28 rfl rfl (vp_in_nI (n := 0) (Nat.le_of_ble_eq_true rfl) (Nat.le_of_ble_eq_true rfl)) dX9_explores_20 (fun H locs hP hD hS => ?_)
  have hP : va_P (dC, dI) vwCl (mo_w ad ck x0 (nI x16) (nI x18) (nI x19) x20 (nI x21) (nI x22) x23 x24 x25 (nI x26) x27 (nI x28) (nI x29) (nI x30) (nI x33) x45 (nI x46) (nI x52) (nI x53) (nI x61) (nI x62) (nI x63) (nI x65) x66 f1 f2 f3 (bN 3 q4) (bN 7 q5) (bN 7 q6) (bN 4 q7) f8 (bN 2 q9) (bH q10) f11 (b2 m12_0 m12_1) (b2 m13_0 m13_1) (b2 m14_0 m14_1) (b2m m15_0 m15_1) f17 (bA 159 q31) f32 f34 f35 f36 f37 (bN 7 q38) f39 f40 f41 (b2 0 m42_1) (upd f43 (0 : Int32).toNatClampNeg 0) (upd f44 (0 : Int32).toNatClampNeg (vp_nar .boolean 0)) f47 f48 f49 f50 f51 (bN 13 q54) (bN 120 q55) (bN 120 q56) f57 (bN 120 q58) f59 f60 f64) H := hP
  have hD : va_D A (mo_w ad ck x0 (nI x16) (nI x18) (nI x19) x20 (nI x21) (nI x22) x23 x24 x25 (nI x26) x27 (nI x28) (nI x29) (nI x30) (nI x33) x45 (nI x46) (nI x52) (nI x53) (nI x61) (nI x62) (nI x63) (nI x65) x66 f1 f2 f3 (bN 3 q4) (bN 7 q5) (bN 7 q6) (bN 4 q7) f8 (bN 2 q9) (bH q10) f11 (b2 m12_0 m12_1) (b2 m13_0 m13_1) (b2 m14_0 m14_1) (b2m m15_0 m15_1) f17 (bA 159 q31) f32 f34 f35 f36 f37 (bN 7 q38) f39 f40 f41 (b2 0 m42_1) (upd f43 (0 : Int32).toNatClampNeg 0) (upd f44 (0 : Int32).toNatClampNeg (vp_nar .boolean 0)) f47 f48 f49 f50 f51 (bN 13 q54) (bN 120 q55) (bN 120 q56) f57 (bN 120 q58) f59 f60 f64) := hD
  refine lv_aload_n hx hb dX9_explores_21 rfl (lv_at hl 0 rfl) ?_
  refine lv_iload_n hx hb dX9_explores_22 rfl (lv_at hl 3 rfl) ?_
  have hFc := pu_free hD hS hA
  refine va_callv (va_runV (As := [.int p2]) (rest := []) ⟨hx, hb, hml, hown, hts⟩ (c_M_layForgotten l dC dI _ ad ck x0 x16 x18 x19 x20 x21 x22 x23 x24 x25 x26 x27 x28 x29 x30 x33 x45 x46 x52 x53 x61 x62 x63 x65 x66 f1 f2 f3 q4 q5 q6 q7 f8 q9 q10 f11 m12_0 m12_1 m13_0 m13_1 m14_0 m14_1 m15_0 m15_1 f17 q31 f32 f34 f35 f36 f37 q38 f39 f40 f41 0 m42_1 (upd f43 (0 : Int32).toNatClampNeg 0) (upd f44 (0 : Int32).toNatClampNeg (vp_nar .boolean 0)) f47 f48 f49 f50 f51 q54 q55 q56 f57 q58 f59 f60 f64 p2 hx16 hx18 hx19 hx21 hx22 hx26 hx28 hx29 hx30 hx33 hx46 hx52 hx53 hx61 hx62 hx63 hx65 hm12_0 hm12_1 hm13_0 hm13_1 hm14_0 hm14_1 hm15_0 hm15_1 (Nat.le_of_ble_eq_true rfl) hm42_1) (cwV 1 hts g_M_explores_0_120_M_layForgotten rfl rfl rfl (by decide +kernel) ⟨Nat.le_of_ble_eq_true rfl, Nat.le_of_ble_eq_true rfl⟩) ⟨pu_bl, va_recv hK hP (ci := 9) (q0 := 0) rfl rfl, pu_in hP hK hD⟩ rfl rfl hl.1 rfl (lv_room (Nat.le_of_ble_eq_true rfl)) dX9_explores_23 ⟨Nat.le_of_ble_eq_true rfl, Nat.le_of_ble_eq_true rfl⟩) hS (fun q _ h => hFc q h) hFc (fun u t H1 locs ht hvm hw hB hz1 hk1 hS => ?_)
  obtain ⟨z47_2, z48_3, ⟨hP1, -, hD1⟩⟩ := hB
  rw [ht] at hP1
  have hP := hP1
  have hD := pu_all hFc hD1
  clear hP1 hD1 hFc
  clear hk1 hz1 ht hvm
  generalize H1 = H at hP hS ⊢
  refine lv_aload_n hx hb dX9_explores_26 rfl (lv_at hl 0 rfl) ?_
  refine lv_aload_n hx hb dX9_explores_27 rfl (lv_at hl 0 rfl) ?_
  refine va_get (D := (dC, dI)) (ci := 9) (v := .ref (ad 35)) (C := RX9) (T := TX9) (N := 67) hx hb hts hiX9 hown hK hP 0 rfl rfl 35 (by decide) v_9 (fun _ h9 => h9) rfl dX9_explores_28 ?_
  refine lv_bipush (v := 100) hx hb dX9_explores_31 (by decide) ?_
  refine lv_iload_n hx hb dX9_explores_33 rfl (lv_at hl 2 rfl) ?_
  refine lv_iadd hx hb dX9_explores_34 ?_
  refine lv_topi (fun y_4 ey_4 => ?_)
  obtain rfl : y_4 = (nI (100 + a1)) := ey_4.trans (nI_add 100 a1)
  have hFc := pu_free hD hS hA
  refine va_callv (va_runV (As := [.ref (ad 35), .int (nI (100 + a1))]) (rest := []) ⟨hx, hb, hml, hown, hts⟩ (c_M_holdsAll_p l dC dI _ ad ck x0 x16 x18 x19 x20 x21 x22 x23 x24 x25 x26 x27 x28 x29 x30 x33 x45 x46 x52 x53 x61 x62 x63 x65 x66 f1 f2 f3 q4 q5 q6 q7 f8 q9 q10 f11 m12_0 m12_1 m13_0 m13_1 m14_0 m14_1 m15_0 m15_1 f17 q31 f32 f34 f35 f36 f37 q38 f39 f40 f41 0 m42_1 (upd f43 (0 : Int32).toNatClampNeg 0) (upd f44 (0 : Int32).toNatClampNeg (vp_nar .boolean 0)) z47_2 z48_3 f49 f50 f51 q54 q55 q56 f57 q58 f59 f60 f64 (100 + a1) hx16 hx18 hx19 hx21 hx22 hx26 hx28 hx29 hx30 hx33 hx46 hx52 hx53 hx61 hx62 hx63 hx65 hm12_0 hm12_1 hm13_0 hm13_1 hm14_0 hm14_1 hm15_0 hm15_1 (Nat.le_of_ble_eq_true rfl) hm42_1 (by omega) (by omega)) (cwV 2 hts g_M_explores_0_120_M_holdsAll_p rfl rfl rfl (by decide +kernel) ⟨Nat.le_of_ble_eq_true rfl, Nat.le_of_ble_eq_true rfl⟩) ⟨pu_bl, va_recv hK hP (ci := 9) (q0 := 0) rfl rfl, pu_in hP hK hD⟩ rfl rfl hl.1 rfl (lv_room (Nat.le_of_ble_eq_true rfl)) dX9_explores_35 ⟨Nat.le_of_ble_eq_true rfl, Nat.le_of_ble_eq_true rfl⟩) hS (fun q _ h => hFc q h) hFc (fun u t H1 locs ht hvm hw hB hz1 hk1 hS => ?_)
  obtain ⟨z35_6, ⟨hP1, -, hD1⟩⟩ := hB
  rw [ht] at hP1
  have hP := hP1
  have hD := pu_all hFc hD1
  clear hP1 hD1 hFc
  clear hk1 hz1 ht hvm
  generalize H1 = H at hP hS ⊢
  refine lv_aload_n hx hb dX9_explores_38 rfl (lv_at hl 0 rfl) ?_
  refine lv_aload_n hx hb dX9_explores_39 rfl (lv_at hl 0 rfl) ?_
  refine va_get (D := (dC, dI)) (ci := 9) (v := .ref (ad 35)) (C := RX9) (T := TX9) (N := 67) hx hb hts hiX9 hown hK hP 0 rfl rfl 35 (by decide) v_9 (fun _ h9 => h9) rfl dX9_explores_40 ?_
  have hFc := pu_free hD hS hA
  refine va_calli (va_runV (As := [.ref (ad 35)]) (rest := []) ⟨hx, hb, hml, hown, hts⟩ (c_M_closes_z l dC dI _ ad ck x0 x16 x18 x19 x20 x21 x22 x23 x24 x25 x26 x27 x28 x29 x30 x33 x45 x46 x52 x53 x61 x62 x63 x65 x66 f1 f2 f3 q4 q5 q6 q7 f8 q9 q10 f11 m12_0 m12_1 m13_0 m13_1 m14_0 m14_1 m15_0 m15_1 f17 q31 f32 f34 z35_6 f36 f37 q38 f39 f40 f41 0 m42_1 (upd f43 (0 : Int32).toNatClampNeg 0) (upd f44 (0 : Int32).toNatClampNeg (vp_nar .boolean 0)) z47_2 z48_3 f49 f50 f51 q54 q55 q56 f57 q58 f59 f60 f64 hx16 hx18 hx19 hx21 hx22 hx26 hx28 hx29 hx30 hx33 hx46 hx52 hx53 hx61 hx62 hx63 hx65 hm12_0 hm12_1 hm13_0 hm13_1 hm14_0 hm14_1 hm15_0 hm15_1 (Nat.le_of_ble_eq_true rfl) hm42_1) (cwV 1 hts g_M_explores_0_120_M_closes_z rfl rfl rfl (by decide +kernel) ⟨Nat.le_of_ble_eq_true rfl, Nat.le_of_ble_eq_true rfl⟩) ⟨pu_bl, va_recv hK hP (ci := 9) (q0 := 0) rfl rfl, pu_in hP hK hD⟩ rfl rfl hl.1 rfl (lv_room (Nat.le_of_ble_eq_true rfl)) dX9_explores_43 ⟨Nat.le_of_ble_eq_true rfl, Nat.le_of_ble_eq_true rfl⟩) hS (fun q _ h => hFc q h) hFc (fun r_7 u t H1 locs ht hvm hw hB hz1 hk1 hS => ?_)
  obtain ⟨z35_8, ⟨hP1, -, hD1⟩⟩ := hB
  rw [ht] at hP1
  have hP := hP1
  have hD := pu_all hFc hD1
  clear hP1 hD1 hFc
  clear hk1 hz1 ht hvm
  generalize H1 = H at hP hS ⊢
  obtain ⟨u_9, hu_9, rfl⟩ := hw
  refine lv_if_ne (tgt := 50) hx hb dX9_explores_46 (by decide) (fun c_10 => ?_) (fun c_10 => ?_)
  · have c_10 : ¬ u_9 = 0 := fun z => c_10 ((nI_eq (a := u_9) (b := 0) (Nat.lt_of_le_of_lt hu_9 (Nat.le_of_ble_eq_true rfl)) (Nat.le_of_ble_eq_true rfl)).mpr z)
    refine lv_aload_n hx hb dX9_explores_50 rfl (lv_at hl 0 rfl) ?_
    refine lv_iload_n hx hb dX9_explores_51 rfl (lv_at hl 1 rfl) ?_
    refine lv_iload_n hx hb dX9_explores_52 rfl (lv_at hl 2 rfl) ?_
    refine lv_iconst (v := (-1)) hx hb dX9_explores_53 (by decide) ?_
    refine lv_iconst (v := (-1)) hx hb dX9_explores_54 (by decide) ?_
    refine lv_iload_n hx hb dX9_explores_55 rfl (lv_at hl 3 rfl) ?_
    refine lv_iload hx hb dX9_explores_56 (lv_at hl 4 rfl) ?_
    refine lv_iload hx hb dX9_explores_58 (lv_at hl 5 rfl) ?_
    have hFc := pu_free hD hS hA
    refine va_callv (va_runV (As := [.int 0, .int (nI a1), .int (-1), .int (-1), .int p2, .int (nI a3), .int 120]) (rest := []) ⟨hx, hb, hml, hown, hts⟩ (c_M_comes_0_120_0 l dC dI _ ad ck x0 x16 x18 x19 x20 x21 x22 x23 x24 x25 x26 x27 x28 x29 x30 x33 x45 x46 x52 x53 x61 x62 x63 x65 x66 f1 f2 f3 q4 q5 q6 q7 f8 q9 q10 f11 m12_0 m12_1 m13_0 m13_1 m14_0 m14_1 m15_0 m15_1 f17 q31 f32 f34 z35_8 f36 f37 q38 f39 f40 f41 0 m42_1 (upd f43 (0 : Int32).toNatClampNeg 0) (upd f44 (0 : Int32).toNatClampNeg (vp_nar .boolean 0)) z47_2 z48_3 f49 f50 f51 q54 q55 q56 f57 q58 f59 f60 f64 a1 p2 a3 hx16 hx18 hx19 hx21 hx22 hx26 hx28 hx29 hx30 hx33 hx46 hx52 hx53 hx61 hx62 hx63 hx65 hm12_0 hm12_1 hm13_0 hm13_1 hm14_0 hm14_1 hm15_0 hm15_1 (Nat.le_of_ble_eq_true rfl) hm42_1 ha1 ha3 (by first | assumption | exact gz_0)) (cwV 7 hts g_M_explores_0_120_M_comes_0_120_0 rfl rfl rfl (by decide +kernel) ⟨Nat.le_of_ble_eq_true rfl, Nat.le_of_ble_eq_true rfl⟩) ⟨pu_bl, va_recv hK hP (ci := 9) (q0 := 0) rfl rfl, pu_in hP hK hD⟩ rfl rfl hl.1 rfl (lv_room (Nat.le_of_ble_eq_true rfl)) dX9_explores_60 ⟨Nat.le_of_ble_eq_true rfl, Nat.le_of_ble_eq_true rfl⟩) hS (fun q _ h => hFc q h) hFc (fun u t H1 locs ht hvm hw hB hz1 hk1 hS => ?_)
    obtain ⟨z34_12, z35_13, z38_14, z39_15, z40_16, z41_17, z44_18, z42_0_19, ⟨hP1, -, hD1⟩, hz42_0_19, xr_11_0, xr_11_1⟩ := hB
    rw [ht] at hP1
    have hP := hP1
    have hD := pu_all hFc hD1
    clear hP1 hD1 hFc
    clear hk1 hz1 ht hvm
    generalize H1 = H at hP hS ⊢
    refine lv_iconst (v := 0) hx hb dX9_explores_63 (by decide) ?_
    refine lv_istore (lv' := [(7, .int 0), (0, .ref (ad 0)), (1, .int 0), (2, .int (nI a1)), (3, .int p2), (4, .int (nI a3)), (5, .int 120), (6, .int p5)]) hx hb dX9_explores_64 hl (by decide) rfl (fun ls hl => ?_)
    refine pu_while (fun nn H locs ls => ∃ (g_31 : Nat → Int32) (g_32 : Nat → Int32) (g_33 : Nat → Nat) (g_34 : Nat → Int32) (g_35 : Nat → Int32) (g_36 : Nat → Int32) (g_37 : Nat → Int32) (g_38 : Nat → Int32) (g_39 : Nat) (g_40 : Nat), nn = 120 - g_40 ∧ g_39 ≤ 120 ∧ g_40 ≤ 120 ∧ gz_ok g_39 g_34 g_35 g_36 ∧ va_P (dC, dI) vwCl (mo_w ad ck x0 (nI x16) (nI x18) (nI x19) x20 (nI x21) (nI x22) x23 x24 x25 (nI x26) x27 (nI x28) (nI x29) (nI x30) (nI x33) x45 (nI x46) (nI x52) (nI x53) (nI x61) (nI x62) (nI x63) (nI x65) x66 f1 f2 f3 (bN 3 q4) (bN 7 q5) (bN 7 q6) (bN 4 q7) f8 (bN 2 q9) (bH q10) f11 (b2 m12_0 m12_1) (b2 m13_0 m13_1) (b2 m14_0 m14_1) (b2m m15_0 m15_1) f17 (bA 159 q31) f32 g_31 g_32 f36 f37 (bN 7 g_33) g_34 g_35 g_36 (b2 g_39 m42_1) g_37 g_38 z47_2 z48_3 f49 f50 f51 (bN 13 q54) (bN 120 q55) (bN 120 q56) f57 (bN 120 q58) f59 f60 f64) H ∧ va_D A (mo_w ad ck x0 (nI x16) (nI x18) (nI x19) x20 (nI x21) (nI x22) x23 x24 x25 (nI x26) x27 (nI x28) (nI x29) (nI x30) (nI x33) x45 (nI x46) (nI x52) (nI x53) (nI x61) (nI x62) (nI x63) (nI x65) x66 f1 f2 f3 (bN 3 q4) (bN 7 q5) (bN 7 q6) (bN 4 q7) f8 (bN 2 q9) (bH q10) f11 (b2 m12_0 m12_1) (b2 m13_0 m13_1) (b2 m14_0 m14_1) (b2m m15_0 m15_1) f17 (bA 159 q31) f32 g_31 g_32 f36 f37 (bN 7 g_33) g_34 g_35 g_36 (b2 g_39 m42_1) g_37 g_38 z47_2 z48_3 f49 f50 f51 (bN 13 q54) (bN 120 q55) (bN 120 q56) f57 (bN 120 q58) f59 f60 f64) ∧ va_S A s.heap H locs ∧ lv_has ls 10 [(0, .ref (ad 0)), (1, .int 0), (2, .int (nI a1)), (3, .int p2), (4, .int (nI a3)), (5, .int 120), (6, .int p5), (7, .int (nI g_40))]) 66 ?_ _ _ _ _ ⟨z34_12, z35_13, z38_14, z39_15, z40_16, z41_17, (upd f43 (0 : Int32).toNatClampNeg 0), z44_18, z42_0_19, 0, rfl, hz42_0_19, (Nat.le_of_ble_eq_true rfl), by first | assumption | exact gz_0, hP, hD, hS, lv_sub hl [1, 2, 3, 4, 5, 6, 7, 0] rfl⟩
    rintro nn ih_42 H locs ls ⟨g_31, g_32, g_33, g_34, g_35, g_36, g_37, g_38, g_39, g_40, rfl, hg_39, hg_40, he_41, hP, hD, hS, hl⟩
    refine lv_iload hx hb dX9_explores_66 (lv_at hl 7 rfl) ?_
    refine lv_aload_n hx hb dX9_explores_68 rfl (lv_at hl 0 rfl) ?_
    refine va_get (D := (dC, dI)) (ci := 9) (v := .ref (ad 42)) (C := RX9) (T := TX9) (N := 67) hx hb hts hiX9 hown hK hP 0 rfl rfl 42 (by decide) v_1 (fun _ h9 => h9) rfl dX9_explores_69 ?_
    refine lv_iload_n hx hb dX9_explores_72 rfl (lv_at hl 1 rfl) ?_
    refine va_iald hx hb hK hP 27 26 rfl rfl (vp_in_nI (n := 0) (Nat.le_of_ble_eq_true rfl) (Nat.le_of_ble_eq_true rfl)) dX9_explores_73 ?_
    refine lv_topi (fun y_43 ey_43 => ?_)
    have qy_43 := ey_43.trans b2_0
    clear ey_43
    obtain rfl : y_43 = nI g_39 := qy_43
    refine lv_icmp_ge (tgt := 206) hx hb dX9_explores_74 (by decide) (fun c_44 => ?_) (fun c_44 => ?_)
    · have c_44 : g_39 ≤ g_40 := (nI_leI (a := g_39) (b := g_40) (Nat.lt_of_le_of_lt hg_39 (Nat.le_of_ble_eq_true rfl)) (Nat.lt_of_le_of_lt hg_40 (Nat.le_of_ble_eq_true rfl))).mp c_44
      exact W.vret hx hb hr (fun t ht hW => ⟨⟨(), rfl, trivial, ⟨g_31, g_32, g_33, g_34, g_35, g_36, g_37, g_38, z47_2, z48_3, g_39, ⟨by rw [ht]; exact hP, va_K.moved hW.alike hK, hD⟩, hg_39, by first | assumption | exact gz_0⟩⟩, hS.F ht⟩) hS.2.2 dX9_explores_206
    · have c_44 : ¬ g_39 ≤ g_40 := fun z => c_44 ((nI_leI (a := g_39) (b := g_40) (Nat.lt_of_le_of_lt hg_39 (Nat.le_of_ble_eq_true rfl)) (Nat.lt_of_le_of_lt hg_40 (Nat.le_of_ble_eq_true rfl))).mpr z)
      refine lv_iconst (v := 0) hx hb dX9_explores_77 (by decide) ?_
      refine lv_istore (lv' := [(8, .int 0), (0, .ref (ad 0)), (1, .int 0), (2, .int (nI a1)), (3, .int p2), (4, .int (nI a3)), (5, .int 120), (6, .int p5), (7, .int (nI g_40))]) hx hb dX9_explores_78 hl (by decide) rfl (fun ls hl => ?_)
      refine pu_while (fun nn H locs ls => ∃ (g_57 : Nat → Int32) (g_58 : Nat → Int32) (g_59 : Nat → Nat) (g_60 : Nat → Int32) (g_61 : Nat → Int32) (g_62 : Nat → Int32) (g_63 : Nat → Int32) (g_64 : Nat → Int32) (g_65 : Nat) (g_66 : Nat), nn = 14 - g_66 ∧ g_65 ≤ 120 ∧ g_66 ≤ 14 ∧ gz_ok g_65 g_60 g_61 g_62 ∧ g_40 < g_65 ∧ va_P (dC, dI) vwCl (mo_w ad ck x0 (nI x16) (nI x18) (nI x19) x20 (nI x21) (nI x22) x23 x24 x25 (nI x26) x27 (nI x28) (nI x29) (nI x30) (nI x33) x45 (nI x46) (nI x52) (nI x53) (nI x61) (nI x62) (nI x63) (nI x65) x66 f1 f2 f3 (bN 3 q4) (bN 7 q5) (bN 7 q6) (bN 4 q7) f8 (bN 2 q9) (bH q10) f11 (b2 m12_0 m12_1) (b2 m13_0 m13_1) (b2 m14_0 m14_1) (b2m m15_0 m15_1) f17 (bA 159 q31) f32 g_57 g_58 f36 f37 (bN 7 g_59) g_60 g_61 g_62 (b2 g_65 m42_1) g_63 g_64 z47_2 z48_3 f49 f50 f51 (bN 13 q54) (bN 120 q55) (bN 120 q56) f57 (bN 120 q58) f59 f60 f64) H ∧ va_D A (mo_w ad ck x0 (nI x16) (nI x18) (nI x19) x20 (nI x21) (nI x22) x23 x24 x25 (nI x26) x27 (nI x28) (nI x29) (nI x30) (nI x33) x45 (nI x46) (nI x52) (nI x53) (nI x61) (nI x62) (nI x63) (nI x65) x66 f1 f2 f3 (bN 3 q4) (bN 7 q5) (bN 7 q6) (bN 4 q7) f8 (bN 2 q9) (bH q10) f11 (b2 m12_0 m12_1) (b2 m13_0 m13_1) (b2 m14_0 m14_1) (b2m m15_0 m15_1) f17 (bA 159 q31) f32 g_57 g_58 f36 f37 (bN 7 g_59) g_60 g_61 g_62 (b2 g_65 m42_1) g_63 g_64 z47_2 z48_3 f49 f50 f51 (bN 13 q54) (bN 120 q55) (bN 120 q56) f57 (bN 120 q58) f59 f60 f64) ∧ va_S A s.heap H locs ∧ lv_has ls 10 [(0, .ref (ad 0)), (1, .int 0), (2, .int (nI a1)), (3, .int p2), (4, .int (nI a3)), (5, .int 120), (6, .int p5), (7, .int (nI g_40)), (8, .int (nI g_66))]) 80 ?_ _ _ _ _ ⟨g_31, g_32, g_33, g_34, g_35, g_36, g_37, g_38, g_39, 0, rfl, hg_39, (Nat.le_of_ble_eq_true rfl), by first | assumption | exact gz_0, by omega, hP, hD, hS, lv_sub hl [1, 2, 3, 4, 5, 6, 7, 8, 0] rfl⟩
      rintro nn ih_69 H locs ls ⟨g_57, g_58, g_59, g_60, g_61, g_62, g_63, g_64, g_65, g_66, rfl, hg_65, hg_66, he_67, he_68, hP, hD, hS, hl⟩
      refine lv_iload hx hb dX9_explores_80 (lv_at hl 8 rfl) ?_
      refine lv_aload_n hx hb dX9_explores_82 rfl (lv_at hl 0 rfl) ?_
      refine va_get (D := (dC, dI)) (ci := 9) (v := .ref (ad 14)) (C := RX9) (T := TX9) (N := 67) hx hb hts hiX9 hown hK hP 0 rfl rfl 14 (by decide) v_22 (fun _ h9 => h9) rfl dX9_explores_83 ?_
      refine lv_aload_n hx hb dX9_explores_86 rfl (lv_at hl 0 rfl) ?_
      refine va_get (D := (dC, dI)) (ci := 9) (v := .int (nI x16)) (C := RX9) (T := TX9) (N := 67) hx hb hts hiX9 hown hK hP 0 rfl rfl 16 (by decide) v_23 (fun _ h9 => h9) rfl dX9_explores_87 ?_
      refine va_iald hx hb hK hP 14 13 rfl rfl (vp_in_nI (n := x16) (Nat.lt_of_le_of_lt hx16 (Nat.le_of_ble_eq_true rfl)) (Nat.le_of_ble_eq_true rfl)) dX9_explores_90 ?_
      refine lv_topi (fun y_70 ey_70 => ?_)
      obtain ⟨u_71, hu_71, fu_71⟩ := b2_get (a := m14_0) (b := m14_1) (i := x16) (by omega)
      have qy_70 := ey_70.trans fu_71
      obtain rfl : y_70 = nI u_71 := qy_70
      refine lv_icmp_ge (tgt := 200) hx hb dX9_explores_91 (by decide) (fun c_72 => ?_) (fun c_72 => ?_)
      · have c_72 : u_71 ≤ g_66 := (nI_leI (a := u_71) (b := g_66) (by omega) (Nat.lt_of_le_of_lt hg_66 (Nat.le_of_ble_eq_true rfl))).mp c_72
        refine lv_iinc (v := (nI (g_40 + 1))) (lv' := [(7, .int (nI (g_40 + 1))), (0, .ref (ad 0)), (1, .int 0), (2, .int (nI a1)), (3, .int p2), (4, .int (nI a3)), (5, .int 120), (6, .int p5), (8, .int (nI g_66))]) hx hb dX9_explores_200 hl (k := 7) rfl (nI_1 _) (by decide) rfl (fun ls hl => ?_)
        refine lv_goto (tgt := 66) hx hb dX9_explores_203 (by decide) ?_
        exact ih_42 (120 - (g_40 + 1)) (by omega) _ _ _ ⟨g_57, g_58, g_59, g_60, g_61, g_62, g_63, g_64, g_65, (g_40 + 1), rfl, hg_65, (by omega), by first | assumption | exact gz_0, hP, hD, hS, lv_sub hl [1, 2, 3, 4, 5, 6, 7, 0] rfl⟩
      · have c_72 : ¬ u_71 ≤ g_66 := fun z => c_72 ((nI_leI (a := u_71) (b := g_66) (by omega) (Nat.lt_of_le_of_lt hg_66 (Nat.le_of_ble_eq_true rfl))).mpr z)
        refine lv_iload_n hx hb dX9_explores_94 rfl (lv_at hl 1 rfl) ?_
        refine lv_iload hx hb dX9_explores_95 (lv_at hl 7 rfl) ?_
        refine va_calli (va_runS (As := [.int 0, .int (nI g_40)]) (rest := []) ⟨hx, hb, hml, hown, hts⟩ (c_M_spotOf_0 l dC dI _ ad ck x0 x16 x18 x19 x20 x21 x22 x23 x24 x25 x26 x27 x28 x29 x30 x33 x45 x46 x52 x53 x61 x62 x63 x65 x66 f1 f2 f3 q4 q5 q6 q7 f8 q9 q10 f11 m12_0 m12_1 m13_0 m13_1 m14_0 m14_1 m15_0 m15_1 f17 q31 f32 g_57 g_58 f36 f37 g_59 g_60 g_61 g_62 g_65 m42_1 g_63 g_64 z47_2 z48_3 f49 f50 f51 q54 q55 q56 f57 q58 f59 f60 f64 g_40 hx16 hx18 hx19 hx21 hx22 hx26 hx28 hx29 hx30 hx33 hx46 hx52 hx53 hx61 hx62 hx63 hx65 hm12_0 hm12_1 hm13_0 hm13_1 hm14_0 hm14_1 hm15_0 hm15_1 hg_65 hm42_1 (Nat.le_trans hg_40 (Nat.le_of_ble_eq_true rfl))) (va_cwS 2 hts g_M_explores_0_120_M_spotOf_0 rfl rfl rfl (by decide +kernel) ⟨Nat.le_of_ble_eq_true rfl, Nat.le_of_ble_eq_true rfl⟩) ⟨pu_bl, pu_in hP hK hD⟩ rfl rfl hl.1 rfl (lv_room (Nat.le_of_ble_eq_true rfl)) dX9_explores_97 ⟨Nat.le_of_ble_eq_true rfl, Nat.le_of_ble_eq_true rfl⟩) hS (fun q _ h => pu_fr hS hA q h) (pu_fr hS hA) (fun r_73 u t H1 locs ht hvm hw hB hz1 hk1 hS => ?_)
        have hP := pu_keep hP hk1
        clear hk1 hz1 ht hvm
        generalize H1 = H at hP hS ⊢
        obtain rfl : r_73 = nI (g_40) := hw
        refine lv_istore (lv' := [(9, .int (nI g_40)), (0, .ref (ad 0)), (1, .int 0), (2, .int (nI a1)), (3, .int p2), (4, .int (nI a3)), (5, .int 120), (6, .int p5), (7, .int (nI g_40)), (8, .int (nI g_66))]) hx hb dX9_explores_100 hl (by decide) rfl (fun ls hl => ?_)
        refine lv_aload_n hx hb dX9_explores_102 rfl (lv_at hl 1 rfl) ?_
        refine lv_iload hx hb dX9_explores_103 (lv_at hl 9 rfl) ?_
        refine va_calli (va_runV (As := [.int (nI g_66)]) (rest := []) ⟨hx, hb, hml, hown, hts⟩ (c_M_outOf l dC dI _ ad ck x0 x16 x18 x19 x20 x21 x22 x23 x24 x25 x26 x27 x28 x29 x30 x33 x45 x46 x52 x53 x61 x62 x63 x65 x66 f1 f2 f3 q4 q5 q6 q7 f8 q9 q10 f11 m12_0 m12_1 m13_0 m13_1 m14_0 m14_1 m15_0 m15_1 f17 q31 f32 g_57 g_58 f36 f37 g_59 g_60 g_61 g_62 g_65 m42_1 g_63 g_64 z47_2 z48_3 f49 f50 f51 q54 q55 q56 f57 q58 f59 f60 f64 g_66 hx16 hx18 hx19 hx21 hx22 hx26 hx28 hx29 hx30 hx33 hx46 hx52 hx53 hx61 hx62 hx63 hx65 hm12_0 hm12_1 hm13_0 hm13_1 hm14_0 hm14_1 hm15_0 hm15_1 hg_65 hm42_1 (by omega)) (cwV 1 hts g_M_explores_0_120_M_outOf rfl rfl rfl (by decide +kernel) ⟨Nat.le_of_ble_eq_true rfl, Nat.le_of_ble_eq_true rfl⟩) ⟨pu_bl, va_recv hK hP (ci := 9) (q0 := 0) rfl rfl, pu_in hP hK hD⟩ rfl rfl hl.1 rfl (lv_room (Nat.le_of_ble_eq_true rfl)) dX9_explores_105 ⟨Nat.le_of_ble_eq_true rfl, Nat.le_of_ble_eq_true rfl⟩) hS (fun q _ h => pu_fr hS hA q h) (pu_fr hS hA) (fun r_74 u t H1 locs ht hvm hw hB hz1 hk1 hS => ?_)
        have hP := pu_keep hP hk1
        clear hk1 hz1 ht hvm
        generalize H1 = H at hP hS ⊢
        obtain ⟨u_75, hu_75, rfl⟩ := hw
        refine lv_aload_n hx hb dX9_explores_108 rfl (lv_at hl 1 rfl) ?_
        refine va_get (D := (dC, dI)) (ci := 9) (v := .ref (ad 38)) (C := RX9) (T := TX9) (N := 67) hx hb hts hiX9 hown hK hP 0 rfl rfl 38 (by decide) v_31 (fun _ h9 => h9) rfl dX9_explores_109 ?_
        refine lv_iload hx hb dX9_explores_112 (lv_at hl 0 rfl) ?_
        refine va_iald hx hb hK hP 23 22 rfl rfl (vp_in_nI (n := g_40) (Nat.lt_of_le_of_lt hg_40 (Nat.le_of_ble_eq_true rfl)) (Nat.le_of_ble_eq_true rfl)) dX9_explores_114 ?_
        refine lv_topi (fun y_76 ey_76 => ?_)
        obtain ⟨u_77, hu_77, qu_77⟩ := bN_get 7 g_59 (((nI g_40) : Int32).toNatClampNeg)
        obtain rfl : y_76 = nI u_77 := ey_76.trans qu_77
        refine pu_join (fun H locs ls st => ∃ (g_78 : Nat → Int32) (g_79 : Nat → Int32) (g_80 : Nat → Nat) (g_81 : Nat → Int32) (g_82 : Nat → Int32) (g_83 : Nat → Int32) (g_84 : Nat) (g_85 : Nat → Int32) (g_86 : Nat → Int32), st = [] ∧ g_84 ≤ 120 ∧ gz_ok g_84 g_81 g_82 g_83 ∧ g_40 < g_84 ∧ va_P (dC, dI) vwCl (mo_w ad ck x0 (nI x16) (nI x18) (nI x19) x20 (nI x21) (nI x22) x23 x24 x25 (nI x26) x27 (nI x28) (nI x29) (nI x30) (nI x33) x45 (nI x46) (nI x52) (nI x53) (nI x61) (nI x62) (nI x63) (nI x65) x66 f1 f2 f3 (bN 3 q4) (bN 7 q5) (bN 7 q6) (bN 4 q7) f8 (bN 2 q9) (bH q10) f11 (b2 m12_0 m12_1) (b2 m13_0 m13_1) (b2 m14_0 m14_1) (b2m m15_0 m15_1) f17 (bA 159 q31) f32 g_78 g_79 f36 f37 (bN 7 g_80) g_81 g_82 g_83 (b2 g_84 m42_1) g_85 g_86 z47_2 z48_3 f49 f50 f51 (bN 13 q54) (bN 120 q55) (bN 120 q56) f57 (bN 120 q58) f59 f60 f64) H ∧ va_D A (mo_w ad ck x0 (nI x16) (nI x18) (nI x19) x20 (nI x21) (nI x22) x23 x24 x25 (nI x26) x27 (nI x28) (nI x29) (nI x30) (nI x33) x45 (nI x46) (nI x52) (nI x53) (nI x61) (nI x62) (nI x63) (nI x65) x66 f1 f2 f3 (bN 3 q4) (bN 7 q5) (bN 7 q6) (bN 4 q7) f8 (bN 2 q9) (bH q10) f11 (b2 m12_0 m12_1) (b2 m13_0 m13_1) (b2 m14_0 m14_1) (b2m m15_0 m15_1) f17 (bA 159 q31) f32 g_78 g_79 f36 f37 (bN 7 g_80) g_81 g_82 g_83 (b2 g_84 m42_1) g_85 g_86 z47_2 z48_3 f49 f50 f51 (bN 13 q54) (bN 120 q55) (bN 120 q56) f57 (bN 120 q58) f59 f60 f64) ∧ va_S A s.heap H locs ∧ lv_has ls 10 [(0, .ref (ad 0)), (1, .int 0), (2, .int (nI a1)), (3, .int p2), (4, .int (nI a3)), (5, .int 120), (6, .int p5), (7, .int (nI g_40)), (8, .int (nI g_66)), (9, .int (nI g_40))]) 194 ?_ (fun j_89 => ?_)
        · rintro H locs ls st ⟨g_78, g_79, g_80, g_81, g_82, g_83, g_84, g_85, g_86, rfl, hg_84, he_87, he_88, hP, hD, hS, hl⟩
          refine lv_iinc (v := (nI (g_66 + 1))) (lv' := [(8, .int (nI (g_66 + 1))), (0, .ref (ad 0)), (1, .int 0), (2, .int (nI a1)), (3, .int p2), (4, .int (nI a3)), (5, .int 120), (6, .int p5), (7, .int (nI g_40)), (9, .int (nI g_40))]) hx hb dX9_explores_194 hl (k := 8) rfl (nI_1 _) (by decide) rfl (fun ls hl => ?_)
          refine lv_goto (tgt := 80) hx hb dX9_explores_197 (by decide) ?_
          exact ih_69 (14 - (g_66 + 1)) (by omega) _ _ _ ⟨g_78, g_79, g_80, g_81, g_82, g_83, g_85, g_86, g_84, (g_66 + 1), rfl, hg_84, (by omega), by first | assumption | exact gz_0, by omega, hP, hD, hS, lv_sub hl [1, 2, 3, 4, 5, 6, 7, 8, 0] rfl⟩
        refine lv_icmp_ne (tgt := 194) hx hb dX9_explores_115 (by decide) (fun c_90 => ?_) (fun c_90 => ?_)
        · have c_90 : ¬ u_75 = u_77 := fun z => c_90 ((nI_eq (a := u_75) (b := u_77) (Nat.lt_of_le_of_lt hu_75 (Nat.le_of_ble_eq_true rfl)) (Nat.lt_of_le_of_lt hu_77 (Nat.le_of_ble_eq_true rfl))).mpr z)
          exact j_89 _ _ _ _ ⟨g_57, g_58, g_59, g_60, g_61, g_62, g_65, g_63, g_64, rfl, hg_65, by first | assumption | exact gz_0, by omega, hP, hD, hS, lv_sub hl [1, 2, 3, 4, 5, 6, 7, 8, 9, 0] rfl⟩
        · have c_90 : u_75 = u_77 := (nI_eq (a := u_75) (b := u_77) (Nat.lt_of_le_of_lt hu_75 (Nat.le_of_ble_eq_true rfl)) (Nat.lt_of_le_of_lt hu_77 (Nat.le_of_ble_eq_true rfl))).mp c_90
          refine lv_aload_n hx hb dX9_explores_118 rfl (lv_at hl 1 rfl) ?_
          refine lv_iload hx hb dX9_explores_119 (lv_at hl 9 rfl) ?_
          refine va_calli (va_runV (As := [.int (nI g_66)]) (rest := []) ⟨hx, hb, hml, hown, hts⟩ (c_M_into l dC dI _ ad ck x0 x16 x18 x19 x20 x21 x22 x23 x24 x25 x26 x27 x28 x29 x30 x33 x45 x46 x52 x53 x61 x62 x63 x65 x66 f1 f2 f3 q4 q5 q6 q7 f8 q9 q10 f11 m12_0 m12_1 m13_0 m13_1 m14_0 m14_1 m15_0 m15_1 f17 q31 f32 g_57 g_58 f36 f37 g_59 g_60 g_61 g_62 g_65 m42_1 g_63 g_64 z47_2 z48_3 f49 f50 f51 q54 q55 q56 f57 q58 f59 f60 f64 g_66 hx16 hx18 hx19 hx21 hx22 hx26 hx28 hx29 hx30 hx33 hx46 hx52 hx53 hx61 hx62 hx63 hx65 hm12_0 hm12_1 hm13_0 hm13_1 hm14_0 hm14_1 hm15_0 hm15_1 hg_65 hm42_1 (by omega)) (cwV 1 hts g_M_explores_0_120_M_into rfl rfl rfl (by decide +kernel) ⟨Nat.le_of_ble_eq_true rfl, Nat.le_of_ble_eq_true rfl⟩) ⟨pu_bl, va_recv hK hP (ci := 9) (q0 := 0) rfl rfl, pu_in hP hK hD⟩ rfl rfl hl.1 rfl (lv_room (Nat.le_of_ble_eq_true rfl)) dX9_explores_121 ⟨Nat.le_of_ble_eq_true rfl, Nat.le_of_ble_eq_true rfl⟩) hS (fun q _ h => pu_fr hS hA q h) (pu_fr hS hA) (fun r_91 u t H1 locs ht hvm hw hB hz1 hk1 hS => ?_)
          have hP := pu_keep hP hk1
          clear hk1 hz1 ht hvm
          generalize H1 = H at hP hS ⊢
          obtain ⟨u_92, hu_92, rfl⟩ := hw
          refine lv_iload hx hb dX9_explores_124 (lv_at hl 7 rfl) ?_
          refine lv_icmp_ne (tgt := 132) hx hb dX9_explores_126 (by decide) (fun c_93 => ?_) (fun c_93 => ?_)
          · refine lv_aload_n hx hb dX9_explores_132 rfl (lv_at hl 1 rfl) ?_
            refine va_get (D := (dC, dI)) (ci := 9) (v := .ref (ad 34)) (C := RX9) (T := TX9) (N := 67) hx hb hts hiX9 hown hK hP 0 rfl rfl 34 (by decide) v_36 (fun _ h9 => h9) rfl dX9_explores_133 ?_
            refine lv_bipush (v := 25) hx hb dX9_explores_136 (by decide) ?_
            refine lv_iload hx hb dX9_explores_138 (lv_at hl 0 rfl) ?_
            refine lv_imul hx hb dX9_explores_140 ?_
            refine lv_topi (fun y_94 ey_94 => ?_)
            obtain rfl : y_94 = (nI (25 * g_40)) := ey_94.trans (pk_mul 25 g_40)
            refine lv_aload_n hx hb dX9_explores_141 rfl (lv_at hl 1 rfl) ?_
            refine va_get (D := (dC, dI)) (ci := 9) (v := .ref (ad 35)) (C := RX9) (T := TX9) (N := 67) hx hb hts hiX9 hown hK hP 0 rfl rfl 35 (by decide) v_9 (fun _ h9 => h9) rfl dX9_explores_142 ?_
            refine lv_iconst (v := 0) hx hb dX9_explores_145 (by decide) ?_
            have hFc := pu_free hD hS hA
            refine va_callv (va_runS (As := [.ref (ad 34), .int (nI (25 * g_40)), .ref (ad 35), .int 0]) (rest := []) ⟨hx, hb, hml, hown, hts⟩ (c_M_copies_nz l dC dI _ ad ck x0 x16 x18 x19 x20 x21 x22 x23 x24 x25 x26 x27 x28 x29 x30 x33 x45 x46 x52 x53 x61 x62 x63 x65 x66 f1 f2 f3 q4 q5 q6 q7 f8 q9 q10 f11 m12_0 m12_1 m13_0 m13_1 m14_0 m14_1 m15_0 m15_1 f17 q31 f32 g_57 g_58 f36 f37 g_59 g_60 g_61 g_62 g_65 m42_1 g_63 g_64 z47_2 z48_3 f49 f50 f51 q54 q55 q56 f57 q58 f59 f60 f64 (25 * g_40) hx16 hx18 hx19 hx21 hx22 hx26 hx28 hx29 hx30 hx33 hx46 hx52 hx53 hx61 hx62 hx63 hx65 hm12_0 hm12_1 hm13_0 hm13_1 hm14_0 hm14_1 hm15_0 hm15_1 hg_65 hm42_1 (by omega)) (va_cwS 4 hts g_M_explores_0_120_M_copies_nz rfl rfl rfl (by decide +kernel) ⟨Nat.le_of_ble_eq_true rfl, Nat.le_of_ble_eq_true rfl⟩) ⟨pu_bl, pu_in hP hK hD⟩ rfl rfl hl.1 rfl (lv_room (Nat.le_of_ble_eq_true rfl)) dX9_explores_146 ⟨Nat.le_of_ble_eq_true rfl, Nat.le_of_ble_eq_true rfl⟩) hS (fun q _ h => hFc q h) hFc (fun u t H1 locs ht hvm hw hB hz1 hk1 hS => ?_)
            obtain ⟨z35_96, ⟨hP1, -, hD1⟩⟩ := hB
            rw [ht] at hP1
            have hP := hP1
            have hD := pu_all hFc hD1
            clear hP1 hD1 hFc
            clear hk1 hz1 ht hvm
            generalize H1 = H at hP hS ⊢
            refine lv_aload_n hx hb dX9_explores_149 rfl (lv_at hl 1 rfl) ?_
            refine lv_iload hx hb dX9_explores_150 (lv_at hl 9 rfl) ?_
            have hFc := pu_free hD hS hA
            refine va_calli (va_runV (As := [.int (nI g_66)]) (rest := []) ⟨hx, hb, hml, hown, hts⟩ (c_M_goesBy l dC dI _ ad ck x0 x16 x18 x19 x20 x21 x22 x23 x24 x25 x26 x27 x28 x29 x30 x33 x45 x46 x52 x53 x61 x62 x63 x65 x66 f1 f2 f3 q4 q5 q6 q7 f8 q9 q10 f11 m12_0 m12_1 m13_0 m13_1 m14_0 m14_1 m15_0 m15_1 f17 q31 f32 g_57 z35_96 f36 f37 g_59 g_60 g_61 g_62 g_65 m42_1 g_63 g_64 z47_2 z48_3 f49 f50 f51 q54 q55 q56 f57 q58 f59 f60 f64 g_66 hx16 hx18 hx19 hx21 hx22 hx26 hx28 hx29 hx30 hx33 hx46 hx52 hx53 hx61 hx62 hx63 hx65 hm12_0 hm12_1 hm13_0 hm13_1 hm14_0 hm14_1 hm15_0 hm15_1 hg_65 hm42_1 (by omega)) (cwV 1 hts g_M_explores_0_120_M_goesBy rfl rfl rfl (by decide +kernel) ⟨Nat.le_of_ble_eq_true rfl, Nat.le_of_ble_eq_true rfl⟩) ⟨pu_bl, va_recv hK hP (ci := 9) (q0 := 0) rfl rfl, pu_in hP hK hD⟩ rfl rfl hl.1 rfl (lv_room (Nat.le_of_ble_eq_true rfl)) dX9_explores_152 ⟨Nat.le_of_ble_eq_true rfl, Nat.le_of_ble_eq_true rfl⟩) hS (fun q _ h => hFc q h) hFc (fun r_97 u t H1 locs ht hvm hw hB hz1 hk1 hS => ?_)
            obtain ⟨z35_98, ⟨hP1, -, hD1⟩⟩ := hB
            rw [ht] at hP1
            have hP := hP1
            have hD := pu_all hFc hD1
            clear hP1 hD1 hFc
            clear hk1 hz1 ht hvm
            generalize H1 = H at hP hS ⊢
            obtain ⟨u_99, hu_99, rfl⟩ := hw
            refine lv_if_ne (tgt := 161) hx hb dX9_explores_155 (by decide) (fun c_100 => ?_) (fun c_100 => ?_)
            · have c_100 : ¬ u_99 = 0 := fun z => c_100 ((nI_eq (a := u_99) (b := 0) (Nat.lt_of_le_of_lt hu_99 (Nat.le_of_ble_eq_true rfl)) (Nat.le_of_ble_eq_true rfl)).mpr z)
              refine lv_aload_n hx hb dX9_explores_161 rfl (lv_at hl 1 rfl) ?_
              refine va_get (D := (dC, dI)) (ci := 9) (v := .ref (ad 43)) (C := RX9) (T := TX9) (N := 67) hx hb hts hiX9 hown hK hP 0 rfl rfl 43 (by decide) v_2 (fun _ h9 => h9) rfl dX9_explores_162 ?_
              refine lv_iload_n hx hb dX9_explores_165 rfl (lv_at hl 2 rfl) ?_
              refine lv_dup2_11 hx hb dX9_explores_166 rfl rfl ?_
              refine va_iald hx hb hK hP 28 27 rfl rfl (vp_in_nI (n := 0) (Nat.le_of_ble_eq_true rfl) (Nat.le_of_ble_eq_true rfl)) dX9_explores_167 ?_
              refine lv_topi (fun y_101 ey_101 => ?_)
              refine lv_iconst (v := 1) hx hb dX9_explores_168 (by decide) ?_
              refine lv_iload hx hb dX9_explores_169 (lv_at hl 9 rfl) ?_
              refine lv_ishl hx hb dX9_explores_171 ?_
              refine lv_topi (fun y_102 ey_102 => ?_)
              refine lv_ior hx hb dX9_explores_172 ?_
              refine lv_topi (fun y_103 ey_103 => ?_)
              refine va_iast hx hb hK hP hD hS 28 27 rfl rfl (vp_in_nI (n := 0) (Nat.le_of_ble_eq_true rfl) (Nat.le_of_ble_eq_true rfl)) dX9_explores_173 (fun H locs hP hD hS => ?_)
              have hP : va_P (dC, dI) vwCl (mo_w ad ck x0 (nI x16) (nI x18) (nI x19) x20 (nI x21) (nI x22) x23 x24 x25 (nI x26) x27 (nI x28) (nI x29) (nI x30) (nI x33) x45 (nI x46) (nI x52) (nI x53) (nI x61) (nI x62) (nI x63) (nI x65) x66 f1 f2 f3 (bN 3 q4) (bN 7 q5) (bN 7 q6) (bN 4 q7) f8 (bN 2 q9) (bH q10) f11 (b2 m12_0 m12_1) (b2 m13_0 m13_1) (b2 m14_0 m14_1) (b2m m15_0 m15_1) f17 (bA 159 q31) f32 g_57 z35_98 f36 f37 (bN 7 g_59) g_60 g_61 g_62 (b2 g_65 m42_1) (upd g_63 (0 : Int32).toNatClampNeg y_103) g_64 z47_2 z48_3 f49 f50 f51 (bN 13 q54) (bN 120 q55) (bN 120 q56) f57 (bN 120 q58) f59 f60 f64) H := hP
              have hD : va_D A (mo_w ad ck x0 (nI x16) (nI x18) (nI x19) x20 (nI x21) (nI x22) x23 x24 x25 (nI x26) x27 (nI x28) (nI x29) (nI x30) (nI x33) x45 (nI x46) (nI x52) (nI x53) (nI x61) (nI x62) (nI x63) (nI x65) x66 f1 f2 f3 (bN 3 q4) (bN 7 q5) (bN 7 q6) (bN 4 q7) f8 (bN 2 q9) (bH q10) f11 (b2 m12_0 m12_1) (b2 m13_0 m13_1) (b2 m14_0 m14_1) (b2m m15_0 m15_1) f17 (bA 159 q31) f32 g_57 z35_98 f36 f37 (bN 7 g_59) g_60 g_61 g_62 (b2 g_65 m42_1) (upd g_63 (0 : Int32).toNatClampNeg y_103) g_64 z47_2 z48_3 f49 f50 f51 (bN 13 q54) (bN 120 q55) (bN 120 q56) f57 (bN 120 q58) f59 f60 f64) := hD
              refine lv_aload_n hx hb dX9_explores_174 rfl (lv_at hl 1 rfl) ?_
              refine lv_iload_n hx hb dX9_explores_175 rfl (lv_at hl 2 rfl) ?_
              refine lv_aload_n hx hb dX9_explores_176 rfl (lv_at hl 1 rfl) ?_
              refine lv_iload hx hb dX9_explores_177 (lv_at hl 9 rfl) ?_
              refine va_calli (va_runV (As := [.int (nI g_66)]) (rest := [.int 0, .ref (ad 0)]) ⟨hx, hb, hml, hown, hts⟩ (c_M_into l dC dI _ ad ck x0 x16 x18 x19 x20 x21 x22 x23 x24 x25 x26 x27 x28 x29 x30 x33 x45 x46 x52 x53 x61 x62 x63 x65 x66 f1 f2 f3 q4 q5 q6 q7 f8 q9 q10 f11 m12_0 m12_1 m13_0 m13_1 m14_0 m14_1 m15_0 m15_1 f17 q31 f32 g_57 z35_98 f36 f37 g_59 g_60 g_61 g_62 g_65 m42_1 (upd g_63 (0 : Int32).toNatClampNeg y_103) g_64 z47_2 z48_3 f49 f50 f51 q54 q55 q56 f57 q58 f59 f60 f64 g_66 hx16 hx18 hx19 hx21 hx22 hx26 hx28 hx29 hx30 hx33 hx46 hx52 hx53 hx61 hx62 hx63 hx65 hm12_0 hm12_1 hm13_0 hm13_1 hm14_0 hm14_1 hm15_0 hm15_1 hg_65 hm42_1 (by omega)) (cwV 1 hts g_M_explores_0_120_M_into rfl rfl rfl (by decide +kernel) ⟨Nat.le_of_ble_eq_true rfl, Nat.le_of_ble_eq_true rfl⟩) ⟨pu_bl, va_recv hK hP (ci := 9) (q0 := 0) rfl rfl, pu_in hP hK hD⟩ rfl rfl hl.1 rfl (lv_room (Nat.le_of_ble_eq_true rfl)) dX9_explores_179 ⟨Nat.le_of_ble_eq_true rfl, Nat.le_of_ble_eq_true rfl⟩) hS (fun q _ h => pu_fr hS hA q h) (pu_fr hS hA) (fun r_104 u t H1 locs ht hvm hw hB hz1 hk1 hS => ?_)
              have hP := pu_keep hP hk1
              clear hk1 hz1 ht hvm
              generalize H1 = H at hP hS ⊢
              obtain ⟨u_105, hu_105, rfl⟩ := hw
              refine lv_iload hx hb dX9_explores_182 (lv_at hl 8 rfl) ?_
              refine lv_iload hx hb dX9_explores_184 (lv_at hl 9 rfl) ?_
              refine lv_iload_n hx hb dX9_explores_186 rfl (lv_at hl 4 rfl) ?_
              refine lv_iload hx hb dX9_explores_187 (lv_at hl 5 rfl) ?_
              refine lv_iload hx hb dX9_explores_189 (lv_at hl 6 rfl) ?_
              have hFc := pu_free hD hS hA
              refine va_callv (va_runV (As := [.int 0, .int (nI u_105), .int (nI g_40), .int (nI g_66), .int p2, .int (nI a3), .int 120]) (rest := []) ⟨hx, hb, hml, hown, hts⟩ (c_M_comes_0_120_1 l dC dI _ ad ck x0 x16 x18 x19 x20 x21 x22 x23 x24 x25 x26 x27 x28 x29 x30 x33 x45 x46 x52 x53 x61 x62 x63 x65 x66 f1 f2 f3 q4 q5 q6 q7 f8 q9 q10 f11 m12_0 m12_1 m13_0 m13_1 m14_0 m14_1 m15_0 m15_1 f17 q31 f32 g_57 z35_98 f36 f37 g_59 g_60 g_61 g_62 g_65 m42_1 (upd g_63 (0 : Int32).toNatClampNeg y_103) g_64 z47_2 z48_3 f49 f50 f51 q54 q55 q56 f57 q58 f59 f60 f64 u_105 g_40 g_66 p2 a3 hx16 hx18 hx19 hx21 hx22 hx26 hx28 hx29 hx30 hx33 hx46 hx52 hx53 hx61 hx62 hx63 hx65 hm12_0 hm12_1 hm13_0 hm13_1 hm14_0 hm14_1 hm15_0 hm15_1 hg_65 hm42_1 hu_105 (by omega) (by omega) ha3 (by first | assumption | exact gz_0) (by omega)) (cwV 7 hts g_M_explores_0_120_M_comes_0_120_1 rfl rfl rfl (by decide +kernel) ⟨Nat.le_of_ble_eq_true rfl, Nat.le_of_ble_eq_true rfl⟩) ⟨pu_bl, va_recv hK hP (ci := 9) (q0 := 0) rfl rfl, pu_in hP hK hD⟩ rfl rfl hl.1 rfl (lv_room (Nat.le_of_ble_eq_true rfl)) dX9_explores_191 ⟨Nat.le_of_ble_eq_true rfl, Nat.le_of_ble_eq_true rfl⟩) hS (fun q _ h => hFc q h) hFc (fun u t H1 locs ht hvm hw hB hz1 hk1 hS => ?_)
              obtain ⟨z34_107, z35_108, z38_109, z39_110, z40_111, z41_112, z44_113, z42_0_114, ⟨hP1, -, hD1⟩, hz42_0_114, xr_106_0, xr_106_1⟩ := hB
              rw [ht] at hP1
              have hP := hP1
              have hD := pu_all hFc hD1
              clear hP1 hD1 hFc
              clear hk1 hz1 ht hvm
              generalize H1 = H at hP hS ⊢
              exact j_89 _ _ _ _ ⟨z34_107, z35_108, z38_109, z39_110, z40_111, z41_112, z42_0_114, (upd g_63 (0 : Int32).toNatClampNeg y_103), z44_113, rfl, hz42_0_114, by first | assumption | exact gz_0, by omega, hP, hD, hS, lv_sub hl [1, 2, 3, 4, 5, 6, 7, 8, 9, 0] rfl⟩
            · have c_100 : u_99 = 0 := (nI_eq (a := u_99) (b := 0) (Nat.lt_of_le_of_lt hu_99 (Nat.le_of_ble_eq_true rfl)) (Nat.le_of_ble_eq_true rfl)).mp c_100
              refine lv_goto (tgt := 194) hx hb dX9_explores_158 (by decide) ?_
              exact j_89 _ _ _ _ ⟨g_57, z35_98, g_59, g_60, g_61, g_62, g_65, g_63, g_64, rfl, hg_65, by first | assumption | exact gz_0, by omega, hP, hD, hS, lv_sub hl [1, 2, 3, 4, 5, 6, 7, 8, 9, 0] rfl⟩
          · refine lv_goto (tgt := 194) hx hb dX9_explores_129 (by decide) ?_
            exact j_89 _ _ _ _ ⟨g_57, g_58, g_59, g_60, g_61, g_62, g_65, g_63, g_64, rfl, hg_65, by first | assumption | exact gz_0, by omega, hP, hD, hS, lv_sub hl [1, 2, 3, 4, 5, 6, 7, 8, 9, 0] rfl⟩
  · have c_10 : u_9 = 0 := (nI_eq (a := u_9) (b := 0) (Nat.lt_of_le_of_lt hu_9 (Nat.le_of_ble_eq_true rfl)) (Nat.le_of_ble_eq_true rfl)).mp c_10
    exact W.vret hx hb hr (fun t ht hW => ⟨⟨(), rfl, trivial, ⟨f34, z35_8, q38, f39, f40, f41, (upd f43 (0 : Int32).toNatClampNeg 0), (upd f44 (0 : Int32).toNatClampNeg (vp_nar .boolean 0)), z47_2, z48_3, 0, ⟨by rw [ht]; exact hP, va_K.moved hW.alike hK, hD⟩, (Nat.le_of_ble_eq_true rfl), by first | assumption | exact gz_0⟩⟩, hS.F ht⟩) hS.2.2 dX9_explores_49
abbrev vs_M_comes_1_120_0 : List Cond := .code yX9_comes cX9_comes 10 none :: VM
theorem g_M_comes_1_120_0_M_isUrgent : GoodIn vs_M_comes_1_120_0 (wsV RX9 324 RX9 yX9_isUrgent vs_M_isUrgent) := gm_V vm_204 vm_205 vm_206 vm_12 vm_33
theorem g_M_comes_1_120_0_M_forgets : GoodIn vs_M_comes_1_120_0 (wsV RX9 352 RX9 yX9_forgets vs_M_forgets) := gm_V vm_247 vm_248 vm_249 vm_12 vm_230
theorem g_M_comes_1_120_0_M_spotOf_1 : GoodIn vs_M_comes_1_120_0 (va_wsS RX9 355 yX9_spotOf vs_M_spotOf_1) := gm_S vm_241 vm_242 vm_12 vm_13
theorem g_M_comes_1_120_0_M_copies_zn : GoodIn vs_M_comes_1_120_0 (va_wsS RX9 362 yX9_copies vs_M_copies_zn) := gm_S vm_250 vm_251 vm_12 vm_8
theorem g_M_comes_1_120_0_M_hasAll : GoodIn vs_M_comes_1_120_0 (wsV RX9 358 RX9 yX9_hasAll vs_M_hasAll) := gm_V vm_255 vm_256 vm_257 vm_12 vm_231
theorem g_M_comes_1_120_0_M_delays : GoodIn vs_M_comes_1_120_0 (wsV RX9 349 RX9 yX9_delays vs_M_delays) := gm_V vm_244 vm_245 vm_246 vm_12 vm_220
set_option maxHeartbeats 4000000 in
set_option maxRecDepth 100000 in
theorem c_M_comes_1_120_0 (l : Launch) (dC : Nat → ClassId) (dI : Nat → Nat → Nat) (sz : Nat) (ad : Nat → Nat) (ck : Nat → ClassId) (x0 : Int32) (x16 : Nat) (x18 : Nat) (x19 : Nat) (x20 : Int32) (x21 : Nat) (x22 : Nat) (x23 : Int32) (x24 : Int32) (x25 : Int32) (x26 : Nat) (x27 : Int32) (x28 : Nat) (x29 : Nat) (x30 : Nat) (x33 : Nat) (x45 : Int32) (x46 : Nat) (x52 : Nat) (x53 : Nat) (x61 : Nat) (x62 : Nat) (x63 : Nat) (x65 : Nat) (x66 : Int32) (f1 : Nat → Int32) (f2 : Nat → Int32) (f3 : Nat → Int32) (q4 : Nat → Nat) (q5 : Nat → Nat) (q6 : Nat → Nat) (q7 : Nat → Nat) (f8 : Nat → Int32) (q9 : Nat → Nat) (q10 : Nat → Nat) (f11 : Nat → Int32) (m12_0 m12_1 : Nat) (m13_0 m13_1 : Nat) (m14_0 m14_1 : Nat) (m15_0 m15_1 : Nat) (f17 : Nat → Int32) (q31 : Nat → Nat) (f32 : Nat → Int32) (f34 : Nat → Int32) (f35 : Nat → Int32) (f36 : Nat → Int32) (f37 : Nat → Int32) (q38 : Nat → Nat) (f39 : Nat → Int32) (f40 : Nat → Int32) (f41 : Nat → Int32) (m42_0 m42_1 : Nat) (f43 : Nat → Int32) (f44 : Nat → Int32) (f47 : Nat → Int32) (f48 : Nat → Int32) (f49 : Nat → Int32) (f50 : Nat → Int32) (f51 : Nat → Int32) (q54 : Nat → Nat) (q55 : Nat → Nat) (q56 : Nat → Nat) (f57 : Nat → Int32) (q58 : Nat → Nat) (f59 : Nat → Int32) (f60 : Nat → Int32) (f64 : Nat → Int32) (a1 : Nat) (p4 : Int32) (a5 : Nat) (hx16 : x16 ≤ 1) (hx18 : x18 ≤ 900) (hx19 : x19 ≤ 900) (hx21 : x21 ≤ 900) (hx22 : x22 ≤ 4) (hx26 : x26 ≤ 6) (hx28 : x28 ≤ 1) (hx29 : x29 ≤ 1) (hx30 : x30 ≤ 1) (hx33 : x33 ≤ 20) (hx46 : x46 ≤ 5) (hx52 : x52 ≤ 2400) (hx53 : x53 ≤ 119) (hx61 : x61 ≤ 119) (hx62 : x62 ≤ 2000) (hx63 : x63 ≤ 1) (hx65 : x65 ≤ 7) (hm12_0 : m12_0 ≤ 3) (hm12_1 : m12_1 ≤ 3) (hm13_0 : m13_0 ≤ 8) (hm13_1 : m13_1 ≤ 8) (hm14_0 : m14_0 ≤ 14) (hm14_1 : m14_1 ≤ 14) (hm15_0 : m15_0 ≤ 8) (hm15_1 : m15_1 ≤ 8) (hm42_0 : m42_0 ≤ 120) (hm42_1 : m42_1 ≤ 120) (ha1 : a1 ≤ 7) (ha5 : a5 ≤ 1) (hgr : gz_ok m42_0 f39 f40 f41) : Met l yX9_comes vs_M_comes_1_120_0 ({ frames := 5, cells := 0, slots := 0, locals := 113 }) (va_Pc [.ref (ad 0), .int 1, .int (nI a1), .int (-1), .int (-1), .int p4, .int (nI a5), .int 120] (pu_B (dC, dI) (mo_w ad ck x0 (nI x16) (nI x18) (nI x19) x20 (nI x21) (nI x22) x23 x24 x25 (nI x26) x27 (nI x28) (nI x29) (nI x30) (nI x33) x45 (nI x46) (nI x52) (nI x53) (nI x61) (nI x62) (nI x63) (nI x65) x66 f1 f2 f3 (bN 3 q4) (bN 7 q5) (bN 7 q6) (bN 4 q7) f8 (bN 2 q9) (bH q10) f11 (b2 m12_0 m12_1) (b2 m13_0 m13_1) (b2 m14_0 m14_1) (b2m m15_0 m15_1) f17 (bA 159 q31) f32 f34 f35 f36 f37 (bN 7 q38) f39 f40 f41 (b2 m42_0 m42_1) f43 f44 f47 f48 f49 f50 f51 (bN 13 q54) (bN 120 q55) (bN 120 q56) f57 (bN 120 q58) f59 f60 f64) (mo_t ck) sz)) (va_Qv (fun (_ : Unit) => True) (fun _ t => ∃ (z34 : Nat → Int32) (z35 : Nat → Int32) (z38 : Nat → Nat) (z39 : Nat → Int32) (z40 : Nat → Int32) (z41 : Nat → Int32) (z44 : Nat → Int32) (z42_1 : Nat), pu_E (dC, dI) (mo_w ad ck x0 (nI x16) (nI x18) (nI x19) x20 (nI x21) (nI x22) x23 x24 x25 (nI x26) x27 (nI x28) (nI x29) (nI x30) (nI x33) x45 (nI x46) (nI x52) (nI x53) (nI x61) (nI x62) (nI x63) (nI x65) x66 f1 f2 f3 (bN 3 q4) (bN 7 q5) (bN 7 q6) (bN 4 q7) f8 (bN 2 q9) (bH q10) f11 (b2 m12_0 m12_1) (b2 m13_0 m13_1) (b2 m14_0 m14_1) (b2m m15_0 m15_1) f17 (bA 159 q31) f32 z34 z35 f36 f37 (bN 7 z38) z39 z40 z41 (b2 m42_0 z42_1) f43 z44 f47 f48 f49 f50 f51 (bN 13 q54) (bN 120 q55) (bN 120 q56) f57 (bN 120 q58) f59 f60 f64) (mo_t ck) (va_A ((mo_w ad ck x0 (nI x16) (nI x18) (nI x19) x20 (nI x21) (nI x22) x23 x24 x25 (nI x26) x27 (nI x28) (nI x29) (nI x30) (nI x33) x45 (nI x46) (nI x52) (nI x53) (nI x61) (nI x62) (nI x63) (nI x65) x66 f1 f2 f3 (bN 3 q4) (bN 7 q5) (bN 7 q6) (bN 4 q7) f8 (bN 2 q9) (bH q10) f11 (b2 m12_0 m12_1) (b2 m13_0 m13_1) (b2 m14_0 m14_1) (b2m m15_0 m15_1) f17 (bA 159 q31) f32 f34 f35 f36 f37 (bN 7 q38) f39 f40 f41 (b2 m42_0 m42_1) f43 f44 f47 f48 f49 f50 f51 (bN 13 q54) (bN 120 q55) (bN 120 q56) f57 (bN 120 q58) f59 f60 f64)) sz) t ∧ (z42_1 ≤ 120) ∧ (gz_ok m42_0 z39 z40 z41) ∧ (m42_1 ≤ z42_1)) (va_A ((mo_w ad ck x0 (nI x16) (nI x18) (nI x19) x20 (nI x21) (nI x22) x23 x24 x25 (nI x26) x27 (nI x28) (nI x29) (nI x30) (nI x33) x45 (nI x46) (nI x52) (nI x53) (nI x61) (nI x62) (nI x63) (nI x65) x66 f1 f2 f3 (bN 3 q4) (bN 7 q5) (bN 7 q6) (bN 4 q7) f8 (bN 2 q9) (bH q10) f11 (b2 m12_0 m12_1) (b2 m13_0 m13_1) (b2 m14_0 m14_1) (b2m m15_0 m15_1) f17 (bA 159 q31) f32 f34 f35 f36 f37 (bN 7 q38) f39 f40 f41 (b2 m42_0 m42_1) f43 f44 f47 f48 f49 f50 f51 (bN 13 q54) (bN 120 q55) (bN 120 q56) f57 (bN 120 q58) f59 f60 f64)) sz)) 0 0 (va_A ((mo_w ad ck x0 (nI x16) (nI x18) (nI x19) x20 (nI x21) (nI x22) x23 x24 x25 (nI x26) x27 (nI x28) (nI x29) (nI x30) (nI x33) x45 (nI x46) (nI x52) (nI x53) (nI x61) (nI x62) (nI x63) (nI x65) x66 f1 f2 f3 (bN 3 q4) (bN 7 q5) (bN 7 q6) (bN 4 q7) f8 (bN 2 q9) (bH q10) f11 (b2 m12_0 m12_1) (b2 m13_0 m13_1) (b2 m14_0 m14_1) (b2m m15_0 m15_1) f17 (bA 159 q31) f32 f34 f35 f36 f37 (bN 7 q38) f39 f40 f41 (b2 m42_0 m42_1) f43 f44 f47 f48 f49 f50 f51 (bN 13 q54) (bN 120 q55) (bN 120 q56) f57 (bN 120 q58) f59 f60 f64)) sz) := by
  refine Met.ofW (cc := cX9_comes) (maxL := 10) (ret := none) (by decide) rfl ?_
  intro p e s m args below meth c s₁ B hml hv
  obtain ⟨rfl, rfl, hP, hK, hD0⟩ := hv
  have hx := B.exec
  have hb := B.bytes
  have hr := B.returns
  have hts := atoms_spec (ws := vs_M_comes_1_120_0) B.pre
  have v_6 := hts (.fieldLink RX9 71 "ClockReachModel" "z" "[I") (List.mem_cons_of_mem _ vm_234)
  have v_15 := hts (.fieldLink RX9 92 "ClockReachModel" "stateMany" "[I") (List.mem_cons_of_mem _ vm_177)
  have v_16 := hts (.fieldLink RX9 98 "ClockReachModel" "isFull" "[Z") (List.mem_cons_of_mem _ vm_178)
  have v_20 := hts (.fieldLink RX9 68 "ClockReachModel" "zone" "[I") (List.mem_cons_of_mem _ vm_232)
  have v_24 := hts (.fieldLink RX9 80 "ClockReachModel" "statePlace" "[I") (List.mem_cons_of_mem _ vm_240)
  have v_25 := hts (.fieldLink RX9 83 "ClockReachModel" "stateFrom" "[I") (List.mem_cons_of_mem _ vm_252)
  have v_26 := hts (.fieldLink RX9 86 "ClockReachModel" "stateBy" "[I") (List.mem_cons_of_mem _ vm_253)
  have v_27 := hts (.fieldLink RX9 89 "ClockReachModel" "stateDeep" "[I") (List.mem_cons_of_mem _ vm_254)
  have hown : s.vm.findClass RX9 = some m.cls := findClass_of_methodNamed B.named
  have hlocks := B.notSynchronized
  have hiX9 : ∀ w ∈ wsX90, w ∈ vs_M_comes_1_120_0 := fun _ h => List.mem_cons_of_mem _ (List.mem_append_right _ h)
  have hD := hD0.self (sz := s.heap.size)
  generalize hAe : va_A ((mo_w ad ck x0 (nI x16) (nI x18) (nI x19) x20 (nI x21) (nI x22) x23 x24 x25 (nI x26) x27 (nI x28) (nI x29) (nI x30) (nI x33) x45 (nI x46) (nI x52) (nI x53) (nI x61) (nI x62) (nI x63) (nI x65) x66 f1 f2 f3 (bN 3 q4) (bN 7 q5) (bN 7 q6) (bN 4 q7) f8 (bN 2 q9) (bH q10) f11 (b2 m12_0 m12_1) (b2 m13_0 m13_1) (b2 m14_0 m14_1) (b2m m15_0 m15_1) f17 (bA 159 q31) f32 f34 f35 f36 f37 (bN 7 q38) f39 f40 f41 (b2 m42_0 m42_1) f43 f44 f47 f48 f49 f50 f51 (bN 13 q54) (bN 120 q55) (bN 120 q56) f57 (bN 120 q58) f59 f60 f64)) s.heap.size = A at hD ⊢
  have hA : ∀ q : Nat, s.heap.size ≤ q → A q := fun q h => by rw [← hAe]; exact Or.inr h
  have hS : va_S A s.heap s.heap [] := va_S.rf
  have hl := lv_entry ([.ref (ad 0), .int 1, .int (nI a1), .int (-1), .int (-1), .int p4, .int (nI a5), .int 120]) (n := 10) (Nat.le_of_ble_eq_true rfl)
  rw [lg_entry_eq]
  generalize (lg_sl ([.ref (ad 0), .int 1, .int (nI a1), .int (-1), .int (-1), .int p4, .int (nI a5), .int 120]) ++ List.replicate (10 - (lg_sl ([.ref (ad 0), .int 1, .int (nI a1), .int (-1), .int (-1), .int p4, .int (nI a5), .int 120])).length) Slot.unset).toArray = ls at hl ⊢
  have hl : lv_has ls 10 [(0, .ref (ad 0)), (1, .int 1), (2, .int (nI a1)), (3, .int (-1)), (4, .int (-1)), (5, .int p4), (6, .int (nI a5)), (7, .int 120)] := hl
  refine lv_aload_n hx hb dX9_comes_0 rfl (lv_at hl 0 rfl) ?_
  refine lv_iload_n hx hb dX9_comes_1 rfl (lv_at hl 2 rfl) ?_
  refine va_calli (va_runV (As := [.int (nI a1)]) (rest := []) ⟨hx, hb, hml, hown, hts⟩ (c_M_isUrgent l dC dI _ ad ck x0 x16 x18 x19 x20 x21 x22 x23 x24 x25 x26 x27 x28 x29 x30 x33 x45 x46 x52 x53 x61 x62 x63 x65 x66 f1 f2 f3 q4 q5 q6 q7 f8 q9 q10 f11 m12_0 m12_1 m13_0 m13_1 m14_0 m14_1 m15_0 m15_1 f17 q31 f32 f34 f35 f36 f37 q38 f39 f40 f41 m42_0 m42_1 f43 f44 f47 f48 f49 f50 f51 q54 q55 q56 f57 q58 f59 f60 f64 a1 hx16 hx18 hx19 hx21 hx22 hx26 hx28 hx29 hx30 hx33 hx46 hx52 hx53 hx61 hx62 hx63 hx65 hm12_0 hm12_1 hm13_0 hm13_1 hm14_0 hm14_1 hm15_0 hm15_1 hm42_0 (Nat.le_trans hm42_1 (Nat.le_of_ble_eq_true rfl)) ha1) (cwV 1 hts g_M_comes_1_120_0_M_isUrgent rfl rfl rfl (by decide +kernel) ⟨Nat.le_of_ble_eq_true rfl, Nat.le_of_ble_eq_true rfl⟩) ⟨pu_bl, va_recv hK hP (ci := 9) (q0 := 0) rfl rfl, pu_in hP hK hD⟩ rfl rfl hl.1 rfl (lv_room (Nat.le_of_ble_eq_true rfl)) dX9_comes_2 ⟨Nat.le_of_ble_eq_true rfl, Nat.le_of_ble_eq_true rfl⟩) hS (fun q _ h => pu_fr hS hA q h) (pu_fr hS hA) (fun r_1 u t H1 locs ht hvm hw hB hz1 hk1 hS => ?_)
  have hP := pu_keep hP hk1
  clear hk1 hz1 ht hvm
  generalize H1 = H at hP hS ⊢
  obtain ⟨u_2, hu_2, rfl⟩ := hw
  refine pu_join (fun H locs ls st => ∃ (g_3 : Nat → Int32), st = [] ∧ va_P (dC, dI) vwCl (mo_w ad ck x0 (nI x16) (nI x18) (nI x19) x20 (nI x21) (nI x22) x23 x24 x25 (nI x26) x27 (nI x28) (nI x29) (nI x30) (nI x33) x45 (nI x46) (nI x52) (nI x53) (nI x61) (nI x62) (nI x63) (nI x65) x66 f1 f2 f3 (bN 3 q4) (bN 7 q5) (bN 7 q6) (bN 4 q7) f8 (bN 2 q9) (bH q10) f11 (b2 m12_0 m12_1) (b2 m13_0 m13_1) (b2 m14_0 m14_1) (b2m m15_0 m15_1) f17 (bA 159 q31) f32 f34 g_3 f36 f37 (bN 7 q38) f39 f40 f41 (b2 m42_0 m42_1) f43 f44 f47 f48 f49 f50 f51 (bN 13 q54) (bN 120 q55) (bN 120 q56) f57 (bN 120 q58) f59 f60 f64) H ∧ va_D A (mo_w ad ck x0 (nI x16) (nI x18) (nI x19) x20 (nI x21) (nI x22) x23 x24 x25 (nI x26) x27 (nI x28) (nI x29) (nI x30) (nI x33) x45 (nI x46) (nI x52) (nI x53) (nI x61) (nI x62) (nI x63) (nI x65) x66 f1 f2 f3 (bN 3 q4) (bN 7 q5) (bN 7 q6) (bN 4 q7) f8 (bN 2 q9) (bH q10) f11 (b2 m12_0 m12_1) (b2 m13_0 m13_1) (b2 m14_0 m14_1) (b2m m15_0 m15_1) f17 (bA 159 q31) f32 f34 g_3 f36 f37 (bN 7 q38) f39 f40 f41 (b2 m42_0 m42_1) f43 f44 f47 f48 f49 f50 f51 (bN 13 q54) (bN 120 q55) (bN 120 q56) f57 (bN 120 q58) f59 f60 f64) ∧ va_S A s.heap H locs ∧ lv_has ls 10 [(0, .ref (ad 0)), (1, .int 1), (2, .int (nI a1)), (3, .int (-1)), (4, .int (-1)), (5, .int p4), (6, .int (nI a5)), (7, .int 120)]) 17 ?_ (fun j_4 => ?_)
  · rintro H locs ls st ⟨g_3, rfl, hP, hD, hS, hl⟩
    refine lv_aload_n hx hb dX9_comes_17 rfl (lv_at hl 0 rfl) ?_
    refine lv_aload_n hx hb dX9_comes_18 rfl (lv_at hl 0 rfl) ?_
    refine va_get (D := (dC, dI)) (ci := 9) (v := .ref (ad 35)) (C := RX9) (T := TX9) (N := 67) hx hb hts hiX9 hown hK hP 0 rfl rfl 35 (by decide) v_6 (fun _ h9 => h9) rfl dX9_comes_19 ?_
    refine lv_iload hx hb dX9_comes_22 (lv_at hl 5 rfl) ?_
    have hFc := pu_free hD hS hA
    refine va_callv (va_runV (As := [.ref (ad 35), .int p4]) (rest := []) ⟨hx, hb, hml, hown, hts⟩ (c_M_forgets l dC dI _ ad ck x0 x16 x18 x19 x20 x21 x22 x23 x24 x25 x26 x27 x28 x29 x30 x33 x45 x46 x52 x53 x61 x62 x63 x65 x66 f1 f2 f3 q4 q5 q6 q7 f8 q9 q10 f11 m12_0 m12_1 m13_0 m13_1 m14_0 m14_1 m15_0 m15_1 f17 q31 f32 f34 g_3 f36 f37 q38 f39 f40 f41 m42_0 m42_1 f43 f44 f47 f48 f49 f50 f51 q54 q55 q56 f57 q58 f59 f60 f64 p4 hx16 hx18 hx19 hx21 hx22 hx26 hx28 hx29 hx30 hx33 hx46 hx52 hx53 hx61 hx62 hx63 hx65 hm12_0 hm12_1 hm13_0 hm13_1 hm14_0 hm14_1 hm15_0 hm15_1 hm42_0 (Nat.le_trans hm42_1 (Nat.le_of_ble_eq_true rfl))) (cwV 2 hts g_M_comes_1_120_0_M_forgets rfl rfl rfl (by decide +kernel) ⟨Nat.le_of_ble_eq_true rfl, Nat.le_of_ble_eq_true rfl⟩) ⟨pu_bl, va_recv hK hP (ci := 9) (q0 := 0) rfl rfl, pu_in hP hK hD⟩ rfl rfl hl.1 rfl (lv_room (Nat.le_of_ble_eq_true rfl)) dX9_comes_24 ⟨Nat.le_of_ble_eq_true rfl, Nat.le_of_ble_eq_true rfl⟩) hS (fun q _ h => hFc q h) hFc (fun u t H1 locs ht hvm hw hB hz1 hk1 hS => ?_)
    obtain ⟨z35_6, ⟨hP1, -, hD1⟩⟩ := hB
    rw [ht] at hP1
    have hP := hP1
    have hD := pu_all hFc hD1
    clear hP1 hD1 hFc
    clear hk1 hz1 ht hvm
    generalize H1 = H at hP hS ⊢
    refine lv_iconst (v := 0) hx hb dX9_comes_27 (by decide) ?_
    refine lv_istore (lv' := [(8, .int 0), (0, .ref (ad 0)), (1, .int 1), (2, .int (nI a1)), (3, .int (-1)), (4, .int (-1)), (5, .int p4), (6, .int (nI a5)), (7, .int 120)]) hx hb dX9_comes_28 hl (by decide) rfl (fun ls hl => ?_)
    refine pu_while (fun nn H locs ls => ∃ (g_8 : Nat), nn = 120 - g_8 ∧ g_8 ≤ 120 ∧ va_P (dC, dI) vwCl (mo_w ad ck x0 (nI x16) (nI x18) (nI x19) x20 (nI x21) (nI x22) x23 x24 x25 (nI x26) x27 (nI x28) (nI x29) (nI x30) (nI x33) x45 (nI x46) (nI x52) (nI x53) (nI x61) (nI x62) (nI x63) (nI x65) x66 f1 f2 f3 (bN 3 q4) (bN 7 q5) (bN 7 q6) (bN 4 q7) f8 (bN 2 q9) (bH q10) f11 (b2 m12_0 m12_1) (b2 m13_0 m13_1) (b2 m14_0 m14_1) (b2m m15_0 m15_1) f17 (bA 159 q31) f32 f34 z35_6 f36 f37 (bN 7 q38) f39 f40 f41 (b2 m42_0 m42_1) f43 f44 f47 f48 f49 f50 f51 (bN 13 q54) (bN 120 q55) (bN 120 q56) f57 (bN 120 q58) f59 f60 f64) H ∧ va_D A (mo_w ad ck x0 (nI x16) (nI x18) (nI x19) x20 (nI x21) (nI x22) x23 x24 x25 (nI x26) x27 (nI x28) (nI x29) (nI x30) (nI x33) x45 (nI x46) (nI x52) (nI x53) (nI x61) (nI x62) (nI x63) (nI x65) x66 f1 f2 f3 (bN 3 q4) (bN 7 q5) (bN 7 q6) (bN 4 q7) f8 (bN 2 q9) (bH q10) f11 (b2 m12_0 m12_1) (b2 m13_0 m13_1) (b2 m14_0 m14_1) (b2m m15_0 m15_1) f17 (bA 159 q31) f32 f34 z35_6 f36 f37 (bN 7 q38) f39 f40 f41 (b2 m42_0 m42_1) f43 f44 f47 f48 f49 f50 f51 (bN 13 q54) (bN 120 q55) (bN 120 q56) f57 (bN 120 q58) f59 f60 f64) ∧ va_S A s.heap H locs ∧ lv_has ls 10 [(0, .ref (ad 0)), (1, .int 1), (2, .int (nI a1)), (3, .int (-1)), (4, .int (-1)), (5, .int p4), (6, .int (nI a5)), (7, .int 120), (8, .int (nI g_8))]) 30 ?_ _ _ _ _ ⟨0, rfl, (Nat.le_of_ble_eq_true rfl), hP, hD, hS, lv_sub hl [1, 2, 3, 4, 5, 6, 7, 8, 0] rfl⟩
    rintro nn ih_9 H locs ls ⟨g_8, rfl, hg_8, hP, hD, hS, hl⟩
    refine lv_iload hx hb dX9_comes_30 (lv_at hl 8 rfl) ?_
    refine lv_aload_n hx hb dX9_comes_32 rfl (lv_at hl 0 rfl) ?_
    refine va_get (D := (dC, dI)) (ci := 9) (v := .ref (ad 42)) (C := RX9) (T := TX9) (N := 67) hx hb hts hiX9 hown hK hP 0 rfl rfl 42 (by decide) v_15 (fun _ h9 => h9) rfl dX9_comes_33 ?_
    refine lv_iload_n hx hb dX9_comes_36 rfl (lv_at hl 1 rfl) ?_
    refine va_iald hx hb hK hP 27 26 rfl rfl (vp_in_nI (n := 1) (Nat.le_of_ble_eq_true rfl) (Nat.le_of_ble_eq_true rfl)) dX9_comes_37 ?_
    refine lv_topi (fun y_10 ey_10 => ?_)
    have qy_10 := ey_10.trans b2_1
    clear ey_10
    obtain rfl : y_10 = nI m42_1 := qy_10
    refine lv_icmp_ge (tgt := 90) hx hb dX9_comes_38 (by decide) (fun c_11 => ?_) (fun c_11 => ?_)
    · have c_11 : m42_1 ≤ g_8 := (nI_leI (a := m42_1) (b := g_8) (Nat.lt_of_le_of_lt hm42_1 (Nat.le_of_ble_eq_true rfl)) (Nat.lt_of_le_of_lt hg_8 (Nat.le_of_ble_eq_true rfl))).mp c_11
      refine lv_aload_n hx hb dX9_comes_90 rfl (lv_at hl 0 rfl) ?_
      refine va_get (D := (dC, dI)) (ci := 9) (v := .ref (ad 42)) (C := RX9) (T := TX9) (N := 67) hx hb hts hiX9 hown hK hP 0 rfl rfl 42 (by decide) v_15 (fun _ h9 => h9) rfl dX9_comes_91 ?_
      refine lv_iload_n hx hb dX9_comes_94 rfl (lv_at hl 1 rfl) ?_
      refine va_iald hx hb hK hP 27 26 rfl rfl (vp_in_nI (n := 1) (Nat.le_of_ble_eq_true rfl) (Nat.le_of_ble_eq_true rfl)) dX9_comes_95 ?_
      refine lv_topi (fun y_12 ey_12 => ?_)
      have qy_12 := ey_12.trans b2_1
      clear ey_12
      obtain rfl : y_12 = nI m42_1 := qy_12
      refine lv_iload hx hb dX9_comes_96 (lv_at hl 7 rfl) ?_
      refine lv_icmp_eq (tgt := 110) hx hb dX9_comes_98 (by decide) (fun c_13 => ?_) (fun c_13 => ?_)
      · have c_13 : m42_1 = 120 := (nI_eq (a := m42_1) (b := 120) (Nat.lt_of_le_of_lt hm42_1 (Nat.le_of_ble_eq_true rfl)) (Nat.le_of_ble_eq_true rfl)).mp c_13
        refine lv_aload_n hx hb dX9_comes_110 rfl (lv_at hl 0 rfl) ?_
        refine va_get (D := (dC, dI)) (ci := 9) (v := .ref (ad 44)) (C := RX9) (T := TX9) (N := 67) hx hb hts hiX9 hown hK hP 0 rfl rfl 44 (by decide) v_16 (fun _ h9 => h9) rfl dX9_comes_111 ?_
        refine lv_iload_n hx hb dX9_comes_114 rfl (lv_at hl 1 rfl) ?_
        refine lv_iconst (v := 1) hx hb dX9_comes_115 (by decide) ?_
        refine va_zast hx hb hK hP hD hS 29 28 rfl rfl (vp_in_nI (n := 1) (Nat.le_of_ble_eq_true rfl) (Nat.le_of_ble_eq_true rfl)) dX9_comes_116 (fun H locs hP hD hS => ?_)
        have hP : va_P (dC, dI) vwCl (mo_w ad ck x0 (nI x16) (nI x18) (nI x19) x20 (nI x21) (nI x22) x23 x24 x25 (nI x26) x27 (nI x28) (nI x29) (nI x30) (nI x33) x45 (nI x46) (nI x52) (nI x53) (nI x61) (nI x62) (nI x63) (nI x65) x66 f1 f2 f3 (bN 3 q4) (bN 7 q5) (bN 7 q6) (bN 4 q7) f8 (bN 2 q9) (bH q10) f11 (b2 m12_0 m12_1) (b2 m13_0 m13_1) (b2 m14_0 m14_1) (b2m m15_0 m15_1) f17 (bA 159 q31) f32 f34 z35_6 f36 f37 (bN 7 q38) f39 f40 f41 (b2 m42_0 m42_1) f43 (upd f44 (1 : Int32).toNatClampNeg (vp_nar .boolean 1)) f47 f48 f49 f50 f51 (bN 13 q54) (bN 120 q55) (bN 120 q56) f57 (bN 120 q58) f59 f60 f64) H := hP
        have hD : va_D A (mo_w ad ck x0 (nI x16) (nI x18) (nI x19) x20 (nI x21) (nI x22) x23 x24 x25 (nI x26) x27 (nI x28) (nI x29) (nI x30) (nI x33) x45 (nI x46) (nI x52) (nI x53) (nI x61) (nI x62) (nI x63) (nI x65) x66 f1 f2 f3 (bN 3 q4) (bN 7 q5) (bN 7 q6) (bN 4 q7) f8 (bN 2 q9) (bH q10) f11 (b2 m12_0 m12_1) (b2 m13_0 m13_1) (b2 m14_0 m14_1) (b2m m15_0 m15_1) f17 (bA 159 q31) f32 f34 z35_6 f36 f37 (bN 7 q38) f39 f40 f41 (b2 m42_0 m42_1) f43 (upd f44 (1 : Int32).toNatClampNeg (vp_nar .boolean 1)) f47 f48 f49 f50 f51 (bN 13 q54) (bN 120 q55) (bN 120 q56) f57 (bN 120 q58) f59 f60 f64) := hD
        exact W.vret hx hb hr (fun t ht hW => ⟨⟨(), rfl, trivial, ⟨f34, z35_6, q38, f39, f40, f41, (upd f44 (1 : Int32).toNatClampNeg (vp_nar .boolean 1)), m42_1, ⟨by rw [ht]; exact hP, va_K.moved hW.alike hK, hD⟩, hm42_1, hgr, by omega⟩⟩, hS.F ht⟩) hS.2.2 dX9_comes_117
      · have c_13 : ¬ m42_1 = 120 := fun z => c_13 ((nI_eq (a := m42_1) (b := 120) (Nat.lt_of_le_of_lt hm42_1 (Nat.le_of_ble_eq_true rfl)) (Nat.le_of_ble_eq_true rfl)).mpr z)
        refine lv_aload_n hx hb dX9_comes_101 rfl (lv_at hl 0 rfl) ?_
        refine va_get (D := (dC, dI)) (ci := 9) (v := .ref (ad 44)) (C := RX9) (T := TX9) (N := 67) hx hb hts hiX9 hown hK hP 0 rfl rfl 44 (by decide) v_16 (fun _ h9 => h9) rfl dX9_comes_102 ?_
        refine lv_iload_n hx hb dX9_comes_105 rfl (lv_at hl 1 rfl) ?_
        refine va_zald hx hb hK hP 29 28 rfl rfl (vp_in_nI (n := 1) (Nat.le_of_ble_eq_true rfl) (Nat.le_of_ble_eq_true rfl)) dX9_comes_106 ?_
        refine lv_topi (fun y_14 ey_14 => ?_)
        refine lv_if_eq (tgt := 118) hx hb dX9_comes_107 (by decide) (fun c_15 => ?_) (fun c_15 => ?_)
        · refine lv_iload_n hx hb dX9_comes_118 rfl (lv_at hl 1 rfl) ?_
          refine lv_aload_n hx hb dX9_comes_119 rfl (lv_at hl 0 rfl) ?_
          refine va_get (D := (dC, dI)) (ci := 9) (v := .ref (ad 42)) (C := RX9) (T := TX9) (N := 67) hx hb hts hiX9 hown hK hP 0 rfl rfl 42 (by decide) v_15 (fun _ h9 => h9) rfl dX9_comes_120 ?_
          refine lv_iload_n hx hb dX9_comes_123 rfl (lv_at hl 1 rfl) ?_
          refine va_iald hx hb hK hP 27 26 rfl rfl (vp_in_nI (n := 1) (Nat.le_of_ble_eq_true rfl) (Nat.le_of_ble_eq_true rfl)) dX9_comes_124 ?_
          refine lv_topi (fun y_16 ey_16 => ?_)
          have qy_16 := ey_16.trans b2_1
          clear ey_16
          obtain rfl : y_16 = nI m42_1 := qy_16
          refine va_calli (va_runS (As := [.int 1, .int (nI m42_1)]) (rest := []) ⟨hx, hb, hml, hown, hts⟩ (c_M_spotOf_1 l dC dI _ ad ck x0 x16 x18 x19 x20 x21 x22 x23 x24 x25 x26 x27 x28 x29 x30 x33 x45 x46 x52 x53 x61 x62 x63 x65 x66 f1 f2 f3 q4 q5 q6 q7 f8 q9 q10 f11 m12_0 m12_1 m13_0 m13_1 m14_0 m14_1 m15_0 m15_1 f17 q31 f32 f34 z35_6 f36 f37 q38 f39 f40 f41 m42_0 m42_1 f43 f44 f47 f48 f49 f50 f51 q54 q55 q56 f57 q58 f59 f60 f64 m42_1 hx16 hx18 hx19 hx21 hx22 hx26 hx28 hx29 hx30 hx33 hx46 hx52 hx53 hx61 hx62 hx63 hx65 hm12_0 hm12_1 hm13_0 hm13_1 hm14_0 hm14_1 hm15_0 hm15_1 hm42_0 (Nat.le_trans hm42_1 (Nat.le_of_ble_eq_true rfl)) (Nat.le_trans hm42_1 (Nat.le_of_ble_eq_true rfl))) (va_cwS 2 hts g_M_comes_1_120_0_M_spotOf_1 rfl rfl rfl (by decide +kernel) ⟨Nat.le_of_ble_eq_true rfl, Nat.le_of_ble_eq_true rfl⟩) ⟨pu_bl, pu_in hP hK hD⟩ rfl rfl hl.1 rfl (lv_room (Nat.le_of_ble_eq_true rfl)) dX9_comes_125 ⟨Nat.le_of_ble_eq_true rfl, Nat.le_of_ble_eq_true rfl⟩) hS (fun q _ h => pu_fr hS hA q h) (pu_fr hS hA) (fun r_17 u t H1 locs ht hvm hw hB hz1 hk1 hS => ?_)
          have hP := pu_keep hP hk1
          clear hk1 hz1 ht hvm
          generalize H1 = H at hP hS ⊢
          obtain rfl : r_17 = nI (120 + m42_1) := hw
          refine lv_istore (lv' := [(8, .int (nI (120 + m42_1))), (0, .ref (ad 0)), (1, .int 1), (2, .int (nI a1)), (3, .int (-1)), (4, .int (-1)), (5, .int p4), (6, .int (nI a5)), (7, .int 120)]) hx hb dX9_comes_128 hl (by decide) rfl (fun ls hl => ?_)
          refine lv_aload_n hx hb dX9_comes_130 rfl (lv_at hl 1 rfl) ?_
          refine va_get (D := (dC, dI)) (ci := 9) (v := .ref (ad 35)) (C := RX9) (T := TX9) (N := 67) hx hb hts hiX9 hown hK hP 0 rfl rfl 35 (by decide) v_6 (fun _ h9 => h9) rfl dX9_comes_131 ?_
          refine lv_iconst (v := 0) hx hb dX9_comes_134 (by decide) ?_
          refine lv_aload_n hx hb dX9_comes_135 rfl (lv_at hl 1 rfl) ?_
          refine va_get (D := (dC, dI)) (ci := 9) (v := .ref (ad 34)) (C := RX9) (T := TX9) (N := 67) hx hb hts hiX9 hown hK hP 0 rfl rfl 34 (by decide) v_20 (fun _ h9 => h9) rfl dX9_comes_136 ?_
          refine lv_bipush (v := 25) hx hb dX9_comes_139 (by decide) ?_
          refine lv_iload hx hb dX9_comes_141 (lv_at hl 0 rfl) ?_
          refine lv_imul hx hb dX9_comes_143 ?_
          refine lv_topi (fun y_18 ey_18 => ?_)
          obtain rfl : y_18 = (nI (25 * (120 + m42_1))) := ey_18.trans (pk_mul 25 (120 + m42_1))
          have hFc := pu_free hD hS hA
          refine va_callv (va_runS (As := [.ref (ad 35), .int 0, .ref (ad 34), .int (nI (25 * (120 + m42_1)))]) (rest := []) ⟨hx, hb, hml, hown, hts⟩ (c_M_copies_zn l dC dI _ ad ck x0 x16 x18 x19 x20 x21 x22 x23 x24 x25 x26 x27 x28 x29 x30 x33 x45 x46 x52 x53 x61 x62 x63 x65 x66 f1 f2 f3 q4 q5 q6 q7 f8 q9 q10 f11 m12_0 m12_1 m13_0 m13_1 m14_0 m14_1 m15_0 m15_1 f17 q31 f32 f34 z35_6 f36 f37 q38 f39 f40 f41 m42_0 m42_1 f43 f44 f47 f48 f49 f50 f51 q54 q55 q56 f57 q58 f59 f60 f64 (25 * (120 + m42_1)) hx16 hx18 hx19 hx21 hx22 hx26 hx28 hx29 hx30 hx33 hx46 hx52 hx53 hx61 hx62 hx63 hx65 hm12_0 hm12_1 hm13_0 hm13_1 hm14_0 hm14_1 hm15_0 hm15_1 hm42_0 (Nat.le_trans hm42_1 (Nat.le_of_ble_eq_true rfl)) (by omega)) (va_cwS 4 hts g_M_comes_1_120_0_M_copies_zn rfl rfl rfl (by decide +kernel) ⟨Nat.le_of_ble_eq_true rfl, Nat.le_of_ble_eq_true rfl⟩) ⟨pu_bl, pu_in hP hK hD⟩ rfl rfl hl.1 rfl (lv_room (Nat.le_of_ble_eq_true rfl)) dX9_comes_144 ⟨Nat.le_of_ble_eq_true rfl, Nat.le_of_ble_eq_true rfl⟩) hS (fun q _ h => hFc q h) hFc (fun u t H1 locs ht hvm hw hB hz1 hk1 hS => ?_)
          obtain ⟨z34_20, ⟨hP1, -, hD1⟩⟩ := hB
          rw [ht] at hP1
          have hP := hP1
          have hD := pu_all hFc hD1
          clear hP1 hD1 hFc
          clear hk1 hz1 ht hvm
          generalize H1 = H at hP hS ⊢
          refine lv_aload_n hx hb dX9_comes_147 rfl (lv_at hl 1 rfl) ?_
          refine va_get (D := (dC, dI)) (ci := 9) (v := .ref (ad 38)) (C := RX9) (T := TX9) (N := 67) hx hb hts hiX9 hown hK hP 0 rfl rfl 38 (by decide) v_24 (fun _ h9 => h9) rfl dX9_comes_148 ?_
          refine lv_iload hx hb dX9_comes_151 (lv_at hl 0 rfl) ?_
          refine lv_iload_n hx hb dX9_comes_153 rfl (lv_at hl 3 rfl) ?_
          refine va_iast hx hb hK hP hD hS 23 22 rfl rfl (vp_in_nI (n := (120 + m42_1)) (by omega) (Nat.le_of_ble_eq_true rfl)) dX9_comes_154 (fun H locs hP hD hS => ?_)
          obtain ⟨q_21, eq_21, kq_21⟩ := bN_up 7 q38 (((nI (120 + m42_1)) : Int32).toNatClampNeg) (v := a1) ha1
          have hP : va_P (dC, dI) vwCl (mo_w ad ck x0 (nI x16) (nI x18) (nI x19) x20 (nI x21) (nI x22) x23 x24 x25 (nI x26) x27 (nI x28) (nI x29) (nI x30) (nI x33) x45 (nI x46) (nI x52) (nI x53) (nI x61) (nI x62) (nI x63) (nI x65) x66 f1 f2 f3 (bN 3 q4) (bN 7 q5) (bN 7 q6) (bN 4 q7) f8 (bN 2 q9) (bH q10) f11 (b2 m12_0 m12_1) (b2 m13_0 m13_1) (b2 m14_0 m14_1) (b2m m15_0 m15_1) f17 (bA 159 q31) f32 z34_20 z35_6 f36 f37 (bN 7 q_21) f39 f40 f41 (b2 m42_0 m42_1) f43 f44 f47 f48 f49 f50 f51 (bN 13 q54) (bN 120 q55) (bN 120 q56) f57 (bN 120 q58) f59 f60 f64) H := by rw [← eq_21]; exact hP
          have hD : va_D A (mo_w ad ck x0 (nI x16) (nI x18) (nI x19) x20 (nI x21) (nI x22) x23 x24 x25 (nI x26) x27 (nI x28) (nI x29) (nI x30) (nI x33) x45 (nI x46) (nI x52) (nI x53) (nI x61) (nI x62) (nI x63) (nI x65) x66 f1 f2 f3 (bN 3 q4) (bN 7 q5) (bN 7 q6) (bN 4 q7) f8 (bN 2 q9) (bH q10) f11 (b2 m12_0 m12_1) (b2 m13_0 m13_1) (b2 m14_0 m14_1) (b2m m15_0 m15_1) f17 (bA 159 q31) f32 z34_20 z35_6 f36 f37 (bN 7 q_21) f39 f40 f41 (b2 m42_0 m42_1) f43 f44 f47 f48 f49 f50 f51 (bN 13 q54) (bN 120 q55) (bN 120 q56) f57 (bN 120 q58) f59 f60 f64) := by rw [← eq_21]; exact hD
          refine lv_aload_n hx hb dX9_comes_155 rfl (lv_at hl 1 rfl) ?_
          refine va_get (D := (dC, dI)) (ci := 9) (v := .ref (ad 39)) (C := RX9) (T := TX9) (N := 67) hx hb hts hiX9 hown hK hP 0 rfl rfl 39 (by decide) v_25 (fun _ h9 => h9) rfl dX9_comes_156 ?_
          refine lv_iload hx hb dX9_comes_159 (lv_at hl 0 rfl) ?_
          refine lv_iload_n hx hb dX9_comes_161 rfl (lv_at hl 4 rfl) ?_
          refine va_iast hx hb hK hP hD hS 24 23 rfl rfl (vp_in_nI (n := (120 + m42_1)) (by omega) (Nat.le_of_ble_eq_true rfl)) dX9_comes_162 (fun H locs hP hD hS => ?_)
          have hP : va_P (dC, dI) vwCl (mo_w ad ck x0 (nI x16) (nI x18) (nI x19) x20 (nI x21) (nI x22) x23 x24 x25 (nI x26) x27 (nI x28) (nI x29) (nI x30) (nI x33) x45 (nI x46) (nI x52) (nI x53) (nI x61) (nI x62) (nI x63) (nI x65) x66 f1 f2 f3 (bN 3 q4) (bN 7 q5) (bN 7 q6) (bN 4 q7) f8 (bN 2 q9) (bH q10) f11 (b2 m12_0 m12_1) (b2 m13_0 m13_1) (b2 m14_0 m14_1) (b2m m15_0 m15_1) f17 (bA 159 q31) f32 z34_20 z35_6 f36 f37 (bN 7 q_21) (upd f39 ((nI (120 + m42_1)) : Int32).toNatClampNeg (-1)) f40 f41 (b2 m42_0 m42_1) f43 f44 f47 f48 f49 f50 f51 (bN 13 q54) (bN 120 q55) (bN 120 q56) f57 (bN 120 q58) f59 f60 f64) H := hP
          have hD : va_D A (mo_w ad ck x0 (nI x16) (nI x18) (nI x19) x20 (nI x21) (nI x22) x23 x24 x25 (nI x26) x27 (nI x28) (nI x29) (nI x30) (nI x33) x45 (nI x46) (nI x52) (nI x53) (nI x61) (nI x62) (nI x63) (nI x65) x66 f1 f2 f3 (bN 3 q4) (bN 7 q5) (bN 7 q6) (bN 4 q7) f8 (bN 2 q9) (bH q10) f11 (b2 m12_0 m12_1) (b2 m13_0 m13_1) (b2 m14_0 m14_1) (b2m m15_0 m15_1) f17 (bA 159 q31) f32 z34_20 z35_6 f36 f37 (bN 7 q_21) (upd f39 ((nI (120 + m42_1)) : Int32).toNatClampNeg (-1)) f40 f41 (b2 m42_0 m42_1) f43 f44 f47 f48 f49 f50 f51 (bN 13 q54) (bN 120 q55) (bN 120 q56) f57 (bN 120 q58) f59 f60 f64) := hD
          refine lv_aload_n hx hb dX9_comes_163 rfl (lv_at hl 1 rfl) ?_
          refine va_get (D := (dC, dI)) (ci := 9) (v := .ref (ad 40)) (C := RX9) (T := TX9) (N := 67) hx hb hts hiX9 hown hK hP 0 rfl rfl 40 (by decide) v_26 (fun _ h9 => h9) rfl dX9_comes_164 ?_
          refine lv_iload hx hb dX9_comes_167 (lv_at hl 0 rfl) ?_
          refine lv_iload hx hb dX9_comes_169 (lv_at hl 5 rfl) ?_
          refine va_iast hx hb hK hP hD hS 25 24 rfl rfl (vp_in_nI (n := (120 + m42_1)) (by omega) (Nat.le_of_ble_eq_true rfl)) dX9_comes_171 (fun H locs hP hD hS => ?_)
          have hP : va_P (dC, dI) vwCl (mo_w ad ck x0 (nI x16) (nI x18) (nI x19) x20 (nI x21) (nI x22) x23 x24 x25 (nI x26) x27 (nI x28) (nI x29) (nI x30) (nI x33) x45 (nI x46) (nI x52) (nI x53) (nI x61) (nI x62) (nI x63) (nI x65) x66 f1 f2 f3 (bN 3 q4) (bN 7 q5) (bN 7 q6) (bN 4 q7) f8 (bN 2 q9) (bH q10) f11 (b2 m12_0 m12_1) (b2 m13_0 m13_1) (b2 m14_0 m14_1) (b2m m15_0 m15_1) f17 (bA 159 q31) f32 z34_20 z35_6 f36 f37 (bN 7 q_21) (upd f39 ((nI (120 + m42_1)) : Int32).toNatClampNeg (-1)) (upd f40 ((nI (120 + m42_1)) : Int32).toNatClampNeg (-1)) f41 (b2 m42_0 m42_1) f43 f44 f47 f48 f49 f50 f51 (bN 13 q54) (bN 120 q55) (bN 120 q56) f57 (bN 120 q58) f59 f60 f64) H := hP
          have hD : va_D A (mo_w ad ck x0 (nI x16) (nI x18) (nI x19) x20 (nI x21) (nI x22) x23 x24 x25 (nI x26) x27 (nI x28) (nI x29) (nI x30) (nI x33) x45 (nI x46) (nI x52) (nI x53) (nI x61) (nI x62) (nI x63) (nI x65) x66 f1 f2 f3 (bN 3 q4) (bN 7 q5) (bN 7 q6) (bN 4 q7) f8 (bN 2 q9) (bH q10) f11 (b2 m12_0 m12_1) (b2 m13_0 m13_1) (b2 m14_0 m14_1) (b2m m15_0 m15_1) f17 (bA 159 q31) f32 z34_20 z35_6 f36 f37 (bN 7 q_21) (upd f39 ((nI (120 + m42_1)) : Int32).toNatClampNeg (-1)) (upd f40 ((nI (120 + m42_1)) : Int32).toNatClampNeg (-1)) f41 (b2 m42_0 m42_1) f43 f44 f47 f48 f49 f50 f51 (bN 13 q54) (bN 120 q55) (bN 120 q56) f57 (bN 120 q58) f59 f60 f64) := hD
          refine lv_aload_n hx hb dX9_comes_172 rfl (lv_at hl 1 rfl) ?_
          refine va_get (D := (dC, dI)) (ci := 9) (v := .ref (ad 41)) (C := RX9) (T := TX9) (N := 67) hx hb hts hiX9 hown hK hP 0 rfl rfl 41 (by decide) v_27 (fun _ h9 => h9) rfl dX9_comes_173 ?_
          refine lv_iload hx hb dX9_comes_176 (lv_at hl 0 rfl) ?_
          refine lv_iload_n hx hb dX9_comes_178 rfl (lv_at hl 4 rfl) ?_
          refine lv_iconst (v := (-1)) hx hb dX9_comes_179 (by decide) ?_
          refine lv_icmp_ne (tgt := 187) hx hb dX9_comes_180 (by decide) (fun z => absurd z (by decide)) (fun _ => ?_)
          refine lv_iconst (v := 0) hx hb dX9_comes_183 (by decide) ?_
          refine lv_goto (tgt := 199) hx hb dX9_comes_184 (by decide) ?_
          refine va_iast hx hb hK hP hD hS 26 25 rfl rfl (vp_in_nI (n := (120 + m42_1)) (by omega) (Nat.le_of_ble_eq_true rfl)) dX9_comes_199 (fun H locs hP hD hS => ?_)
          have hP : va_P (dC, dI) vwCl (mo_w ad ck x0 (nI x16) (nI x18) (nI x19) x20 (nI x21) (nI x22) x23 x24 x25 (nI x26) x27 (nI x28) (nI x29) (nI x30) (nI x33) x45 (nI x46) (nI x52) (nI x53) (nI x61) (nI x62) (nI x63) (nI x65) x66 f1 f2 f3 (bN 3 q4) (bN 7 q5) (bN 7 q6) (bN 4 q7) f8 (bN 2 q9) (bH q10) f11 (b2 m12_0 m12_1) (b2 m13_0 m13_1) (b2 m14_0 m14_1) (b2m m15_0 m15_1) f17 (bA 159 q31) f32 z34_20 z35_6 f36 f37 (bN 7 q_21) (upd f39 ((nI (120 + m42_1)) : Int32).toNatClampNeg (-1)) (upd f40 ((nI (120 + m42_1)) : Int32).toNatClampNeg (-1)) (upd f41 ((nI (120 + m42_1)) : Int32).toNatClampNeg 0) (b2 m42_0 m42_1) f43 f44 f47 f48 f49 f50 f51 (bN 13 q54) (bN 120 q55) (bN 120 q56) f57 (bN 120 q58) f59 f60 f64) H := hP
          have hD : va_D A (mo_w ad ck x0 (nI x16) (nI x18) (nI x19) x20 (nI x21) (nI x22) x23 x24 x25 (nI x26) x27 (nI x28) (nI x29) (nI x30) (nI x33) x45 (nI x46) (nI x52) (nI x53) (nI x61) (nI x62) (nI x63) (nI x65) x66 f1 f2 f3 (bN 3 q4) (bN 7 q5) (bN 7 q6) (bN 4 q7) f8 (bN 2 q9) (bH q10) f11 (b2 m12_0 m12_1) (b2 m13_0 m13_1) (b2 m14_0 m14_1) (b2m m15_0 m15_1) f17 (bA 159 q31) f32 z34_20 z35_6 f36 f37 (bN 7 q_21) (upd f39 ((nI (120 + m42_1)) : Int32).toNatClampNeg (-1)) (upd f40 ((nI (120 + m42_1)) : Int32).toNatClampNeg (-1)) (upd f41 ((nI (120 + m42_1)) : Int32).toNatClampNeg 0) (b2 m42_0 m42_1) f43 f44 f47 f48 f49 f50 f51 (bN 13 q54) (bN 120 q55) (bN 120 q56) f57 (bN 120 q58) f59 f60 f64) := hD
          refine lv_aload_n hx hb dX9_comes_200 rfl (lv_at hl 1 rfl) ?_
          refine va_get (D := (dC, dI)) (ci := 9) (v := .ref (ad 42)) (C := RX9) (T := TX9) (N := 67) hx hb hts hiX9 hown hK hP 0 rfl rfl 42 (by decide) v_15 (fun _ h9 => h9) rfl dX9_comes_201 ?_
          refine lv_iload_n hx hb dX9_comes_204 rfl (lv_at hl 2 rfl) ?_
          refine lv_dup2_11 hx hb dX9_comes_205 rfl rfl ?_
          refine va_iald hx hb hK hP 27 26 rfl rfl (vp_in_nI (n := 1) (Nat.le_of_ble_eq_true rfl) (Nat.le_of_ble_eq_true rfl)) dX9_comes_206 ?_
          refine lv_topi (fun y_22 ey_22 => ?_)
          have qy_22 := ey_22.trans b2_1
          clear ey_22
          obtain rfl : y_22 = nI m42_1 := qy_22
          refine lv_iconst (v := 1) hx hb dX9_comes_207 (by decide) ?_
          refine lv_iadd hx hb dX9_comes_208 ?_
          refine lv_topi (fun y_23 ey_23 => ?_)
          obtain rfl : y_23 = (nI (m42_1 + 1)) := ey_23.trans (nI_add m42_1 1)
          refine va_iast hx hb hK hP hD hS 27 26 rfl rfl (vp_in_nI (n := 1) (Nat.le_of_ble_eq_true rfl) (Nat.le_of_ble_eq_true rfl)) dX9_comes_209 (fun H locs hP hD hS => ?_)
          have hP : va_P (dC, dI) vwCl (mo_w ad ck x0 (nI x16) (nI x18) (nI x19) x20 (nI x21) (nI x22) x23 x24 x25 (nI x26) x27 (nI x28) (nI x29) (nI x30) (nI x33) x45 (nI x46) (nI x52) (nI x53) (nI x61) (nI x62) (nI x63) (nI x65) x66 f1 f2 f3 (bN 3 q4) (bN 7 q5) (bN 7 q6) (bN 4 q7) f8 (bN 2 q9) (bH q10) f11 (b2 m12_0 m12_1) (b2 m13_0 m13_1) (b2 m14_0 m14_1) (b2m m15_0 m15_1) f17 (bA 159 q31) f32 z34_20 z35_6 f36 f37 (bN 7 q_21) (upd f39 ((nI (120 + m42_1)) : Int32).toNatClampNeg (-1)) (upd f40 ((nI (120 + m42_1)) : Int32).toNatClampNeg (-1)) (upd f41 ((nI (120 + m42_1)) : Int32).toNatClampNeg 0) (b2 m42_0 (m42_1 + 1)) f43 f44 f47 f48 f49 f50 f51 (bN 13 q54) (bN 120 q55) (bN 120 q56) f57 (bN 120 q58) f59 f60 f64) H := by rw [← b2_up1 (a := m42_0) (b := m42_1) (v := (m42_1 + 1))]; exact hP
          have hD : va_D A (mo_w ad ck x0 (nI x16) (nI x18) (nI x19) x20 (nI x21) (nI x22) x23 x24 x25 (nI x26) x27 (nI x28) (nI x29) (nI x30) (nI x33) x45 (nI x46) (nI x52) (nI x53) (nI x61) (nI x62) (nI x63) (nI x65) x66 f1 f2 f3 (bN 3 q4) (bN 7 q5) (bN 7 q6) (bN 4 q7) f8 (bN 2 q9) (bH q10) f11 (b2 m12_0 m12_1) (b2 m13_0 m13_1) (b2 m14_0 m14_1) (b2m m15_0 m15_1) f17 (bA 159 q31) f32 z34_20 z35_6 f36 f37 (bN 7 q_21) (upd f39 ((nI (120 + m42_1)) : Int32).toNatClampNeg (-1)) (upd f40 ((nI (120 + m42_1)) : Int32).toNatClampNeg (-1)) (upd f41 ((nI (120 + m42_1)) : Int32).toNatClampNeg 0) (b2 m42_0 (m42_1 + 1)) f43 f44 f47 f48 f49 f50 f51 (bN 13 q54) (bN 120 q55) (bN 120 q56) f57 (bN 120 q58) f59 f60 f64) := by rw [← b2_up1 (a := m42_0) (b := m42_1) (v := (m42_1 + 1))]; exact hD
          exact W.vret hx hb hr (fun t ht hW => ⟨⟨(), rfl, trivial, ⟨z34_20, z35_6, q_21, (upd f39 ((nI (120 + m42_1)) : Int32).toNatClampNeg (-1)), (upd f40 ((nI (120 + m42_1)) : Int32).toNatClampNeg (-1)), (upd f41 ((nI (120 + m42_1)) : Int32).toNatClampNeg 0), f44, (m42_1 + 1), ⟨by rw [ht]; exact hP, va_K.moved hW.alike hK, hD⟩, (by omega), gz_farN hgr (by omega) (by omega), by omega⟩⟩, hS.F ht⟩) hS.2.2 dX9_comes_210
        · refine lv_aload_n hx hb dX9_comes_110 rfl (lv_at hl 0 rfl) ?_
          refine va_get (D := (dC, dI)) (ci := 9) (v := .ref (ad 44)) (C := RX9) (T := TX9) (N := 67) hx hb hts hiX9 hown hK hP 0 rfl rfl 44 (by decide) v_16 (fun _ h9 => h9) rfl dX9_comes_111 ?_
          refine lv_iload_n hx hb dX9_comes_114 rfl (lv_at hl 1 rfl) ?_
          refine lv_iconst (v := 1) hx hb dX9_comes_115 (by decide) ?_
          refine va_zast hx hb hK hP hD hS 29 28 rfl rfl (vp_in_nI (n := 1) (Nat.le_of_ble_eq_true rfl) (Nat.le_of_ble_eq_true rfl)) dX9_comes_116 (fun H locs hP hD hS => ?_)
          have hP : va_P (dC, dI) vwCl (mo_w ad ck x0 (nI x16) (nI x18) (nI x19) x20 (nI x21) (nI x22) x23 x24 x25 (nI x26) x27 (nI x28) (nI x29) (nI x30) (nI x33) x45 (nI x46) (nI x52) (nI x53) (nI x61) (nI x62) (nI x63) (nI x65) x66 f1 f2 f3 (bN 3 q4) (bN 7 q5) (bN 7 q6) (bN 4 q7) f8 (bN 2 q9) (bH q10) f11 (b2 m12_0 m12_1) (b2 m13_0 m13_1) (b2 m14_0 m14_1) (b2m m15_0 m15_1) f17 (bA 159 q31) f32 f34 z35_6 f36 f37 (bN 7 q38) f39 f40 f41 (b2 m42_0 m42_1) f43 (upd f44 (1 : Int32).toNatClampNeg (vp_nar .boolean 1)) f47 f48 f49 f50 f51 (bN 13 q54) (bN 120 q55) (bN 120 q56) f57 (bN 120 q58) f59 f60 f64) H := hP
          have hD : va_D A (mo_w ad ck x0 (nI x16) (nI x18) (nI x19) x20 (nI x21) (nI x22) x23 x24 x25 (nI x26) x27 (nI x28) (nI x29) (nI x30) (nI x33) x45 (nI x46) (nI x52) (nI x53) (nI x61) (nI x62) (nI x63) (nI x65) x66 f1 f2 f3 (bN 3 q4) (bN 7 q5) (bN 7 q6) (bN 4 q7) f8 (bN 2 q9) (bH q10) f11 (b2 m12_0 m12_1) (b2 m13_0 m13_1) (b2 m14_0 m14_1) (b2m m15_0 m15_1) f17 (bA 159 q31) f32 f34 z35_6 f36 f37 (bN 7 q38) f39 f40 f41 (b2 m42_0 m42_1) f43 (upd f44 (1 : Int32).toNatClampNeg (vp_nar .boolean 1)) f47 f48 f49 f50 f51 (bN 13 q54) (bN 120 q55) (bN 120 q56) f57 (bN 120 q58) f59 f60 f64) := hD
          exact W.vret hx hb hr (fun t ht hW => ⟨⟨(), rfl, trivial, ⟨f34, z35_6, q38, f39, f40, f41, (upd f44 (1 : Int32).toNatClampNeg (vp_nar .boolean 1)), m42_1, ⟨by rw [ht]; exact hP, va_K.moved hW.alike hK, hD⟩, hm42_1, hgr, by omega⟩⟩, hS.F ht⟩) hS.2.2 dX9_comes_117
    · have c_11 : ¬ m42_1 ≤ g_8 := fun z => c_11 ((nI_leI (a := m42_1) (b := g_8) (Nat.lt_of_le_of_lt hm42_1 (Nat.le_of_ble_eq_true rfl)) (Nat.lt_of_le_of_lt hg_8 (Nat.le_of_ble_eq_true rfl))).mpr z)
      refine lv_iload_n hx hb dX9_comes_41 rfl (lv_at hl 1 rfl) ?_
      refine lv_iload hx hb dX9_comes_42 (lv_at hl 8 rfl) ?_
      refine va_calli (va_runS (As := [.int 1, .int (nI g_8)]) (rest := []) ⟨hx, hb, hml, hown, hts⟩ (c_M_spotOf_1 l dC dI _ ad ck x0 x16 x18 x19 x20 x21 x22 x23 x24 x25 x26 x27 x28 x29 x30 x33 x45 x46 x52 x53 x61 x62 x63 x65 x66 f1 f2 f3 q4 q5 q6 q7 f8 q9 q10 f11 m12_0 m12_1 m13_0 m13_1 m14_0 m14_1 m15_0 m15_1 f17 q31 f32 f34 z35_6 f36 f37 q38 f39 f40 f41 m42_0 m42_1 f43 f44 f47 f48 f49 f50 f51 q54 q55 q56 f57 q58 f59 f60 f64 g_8 hx16 hx18 hx19 hx21 hx22 hx26 hx28 hx29 hx30 hx33 hx46 hx52 hx53 hx61 hx62 hx63 hx65 hm12_0 hm12_1 hm13_0 hm13_1 hm14_0 hm14_1 hm15_0 hm15_1 hm42_0 (Nat.le_trans hm42_1 (Nat.le_of_ble_eq_true rfl)) (Nat.le_trans hg_8 (Nat.le_of_ble_eq_true rfl))) (va_cwS 2 hts g_M_comes_1_120_0_M_spotOf_1 rfl rfl rfl (by decide +kernel) ⟨Nat.le_of_ble_eq_true rfl, Nat.le_of_ble_eq_true rfl⟩) ⟨pu_bl, pu_in hP hK hD⟩ rfl rfl hl.1 rfl (lv_room (Nat.le_of_ble_eq_true rfl)) dX9_comes_44 ⟨Nat.le_of_ble_eq_true rfl, Nat.le_of_ble_eq_true rfl⟩) hS (fun q _ h => pu_fr hS hA q h) (pu_fr hS hA) (fun r_24 u t H1 locs ht hvm hw hB hz1 hk1 hS => ?_)
      have hP := pu_keep hP hk1
      clear hk1 hz1 ht hvm
      generalize H1 = H at hP hS ⊢
      obtain rfl : r_24 = nI (120 + g_8) := hw
      refine lv_istore (lv' := [(9, .int (nI (120 + g_8))), (0, .ref (ad 0)), (1, .int 1), (2, .int (nI a1)), (3, .int (-1)), (4, .int (-1)), (5, .int p4), (6, .int (nI a5)), (7, .int 120), (8, .int (nI g_8))]) hx hb dX9_comes_47 hl (by decide) rfl (fun ls hl => ?_)
      refine lv_aload_n hx hb dX9_comes_49 rfl (lv_at hl 1 rfl) ?_
      refine va_get (D := (dC, dI)) (ci := 9) (v := .ref (ad 38)) (C := RX9) (T := TX9) (N := 67) hx hb hts hiX9 hown hK hP 0 rfl rfl 38 (by decide) v_24 (fun _ h9 => h9) rfl dX9_comes_50 ?_
      refine lv_iload hx hb dX9_comes_53 (lv_at hl 0 rfl) ?_
      refine va_iald hx hb hK hP 23 22 rfl rfl (vp_in_nI (n := (120 + g_8)) (by omega) (Nat.le_of_ble_eq_true rfl)) dX9_comes_55 ?_
      refine lv_topi (fun y_25 ey_25 => ?_)
      obtain ⟨u_26, hu_26, qu_26⟩ := bN_get 7 q38 (((nI (120 + g_8)) : Int32).toNatClampNeg)
      obtain rfl : y_25 = nI u_26 := ey_25.trans qu_26
      refine lv_iload_n hx hb dX9_comes_56 rfl (lv_at hl 3 rfl) ?_
      refine lv_icmp_ne (tgt := 84) hx hb dX9_comes_57 (by decide) (fun c_27 => ?_) (fun c_27 => ?_)
      · have c_27 : ¬ u_26 = a1 := fun z => c_27 ((nI_eq (a := u_26) (b := a1) (Nat.lt_of_le_of_lt hu_26 (Nat.le_of_ble_eq_true rfl)) (Nat.lt_of_le_of_lt ha1 (Nat.le_of_ble_eq_true rfl))).mpr z)
        refine lv_iinc (v := (nI (g_8 + 1))) (lv' := [(8, .int (nI (g_8 + 1))), (9, .int (nI (120 + g_8))), (0, .ref (ad 0)), (1, .int 1), (2, .int (nI a1)), (3, .int (-1)), (4, .int (-1)), (5, .int p4), (6, .int (nI a5)), (7, .int 120)]) hx hb dX9_comes_84 hl (k := 9) rfl (nI_1 _) (by decide) rfl (fun ls hl => ?_)
        refine lv_goto (tgt := 30) hx hb dX9_comes_87 (by decide) ?_
        exact ih_9 (120 - (g_8 + 1)) (by omega) _ _ _ ⟨(g_8 + 1), rfl, (by omega), hP, hD, hS, lv_sub hl [2, 3, 4, 5, 6, 7, 8, 9, 0] rfl⟩
      · have c_27 : u_26 = a1 := (nI_eq (a := u_26) (b := a1) (Nat.lt_of_le_of_lt hu_26 (Nat.le_of_ble_eq_true rfl)) (Nat.lt_of_le_of_lt ha1 (Nat.le_of_ble_eq_true rfl))).mp c_27
        refine lv_aload_n hx hb dX9_comes_60 rfl (lv_at hl 1 rfl) ?_
        refine lv_iload hx hb dX9_comes_61 (lv_at hl 0 rfl) ?_
        refine lv_aload_n hx hb dX9_comes_63 rfl (lv_at hl 1 rfl) ?_
        refine va_get (D := (dC, dI)) (ci := 9) (v := .ref (ad 35)) (C := RX9) (T := TX9) (N := 67) hx hb hts hiX9 hown hK hP 0 rfl rfl 35 (by decide) v_6 (fun _ h9 => h9) rfl dX9_comes_64 ?_
        refine lv_iload hx hb dX9_comes_67 (lv_at hl 7 rfl) ?_
        refine pu_join (fun H locs ls st => ∃ (g_28 : Nat), st = [.int (nI g_28), .ref (ad 35), .int (nI (120 + g_8)), .ref (ad 0)] ∧ g_28 ≤ 1 ∧ va_P (dC, dI) vwCl (mo_w ad ck x0 (nI x16) (nI x18) (nI x19) x20 (nI x21) (nI x22) x23 x24 x25 (nI x26) x27 (nI x28) (nI x29) (nI x30) (nI x33) x45 (nI x46) (nI x52) (nI x53) (nI x61) (nI x62) (nI x63) (nI x65) x66 f1 f2 f3 (bN 3 q4) (bN 7 q5) (bN 7 q6) (bN 4 q7) f8 (bN 2 q9) (bH q10) f11 (b2 m12_0 m12_1) (b2 m13_0 m13_1) (b2 m14_0 m14_1) (b2m m15_0 m15_1) f17 (bA 159 q31) f32 f34 z35_6 f36 f37 (bN 7 q38) f39 f40 f41 (b2 m42_0 m42_1) f43 f44 f47 f48 f49 f50 f51 (bN 13 q54) (bN 120 q55) (bN 120 q56) f57 (bN 120 q58) f59 f60 f64) H ∧ va_D A (mo_w ad ck x0 (nI x16) (nI x18) (nI x19) x20 (nI x21) (nI x22) x23 x24 x25 (nI x26) x27 (nI x28) (nI x29) (nI x30) (nI x33) x45 (nI x46) (nI x52) (nI x53) (nI x61) (nI x62) (nI x63) (nI x65) x66 f1 f2 f3 (bN 3 q4) (bN 7 q5) (bN 7 q6) (bN 4 q7) f8 (bN 2 q9) (bH q10) f11 (b2 m12_0 m12_1) (b2 m13_0 m13_1) (b2 m14_0 m14_1) (b2m m15_0 m15_1) f17 (bA 159 q31) f32 f34 z35_6 f36 f37 (bN 7 q38) f39 f40 f41 (b2 m42_0 m42_1) f43 f44 f47 f48 f49 f50 f51 (bN 13 q54) (bN 120 q55) (bN 120 q56) f57 (bN 120 q58) f59 f60 f64) ∧ va_S A s.heap H locs ∧ lv_has ls 10 [(0, .ref (ad 0)), (1, .int 1), (2, .int (nI a1)), (3, .int (-1)), (4, .int (-1)), (5, .int p4), (6, .int (nI a5)), (7, .int 120), (8, .int (nI g_8)), (9, .int (nI (120 + g_8)))]) 77 ?_ (fun j_29 => ?_)
        · rintro H locs ls st ⟨g_28, rfl, hg_28, hP, hD, hS, hl⟩
          refine va_calli (va_runV (As := [.int (nI (120 + g_8)), .ref (ad 35), .int (nI g_28)]) (rest := []) ⟨hx, hb, hml, hown, hts⟩ (c_M_hasAll l dC dI _ ad ck x0 x16 x18 x19 x20 x21 x22 x23 x24 x25 x26 x27 x28 x29 x30 x33 x45 x46 x52 x53 x61 x62 x63 x65 x66 f1 f2 f3 q4 q5 q6 q7 f8 q9 q10 f11 m12_0 m12_1 m13_0 m13_1 m14_0 m14_1 m15_0 m15_1 f17 q31 f32 f34 z35_6 f36 f37 q38 f39 f40 f41 m42_0 m42_1 f43 f44 f47 f48 f49 f50 f51 q54 q55 q56 f57 q58 f59 f60 f64 (120 + g_8) g_28 hx16 hx18 hx19 hx21 hx22 hx26 hx28 hx29 hx30 hx33 hx46 hx52 hx53 hx61 hx62 hx63 hx65 hm12_0 hm12_1 hm13_0 hm13_1 hm14_0 hm14_1 hm15_0 hm15_1 hm42_0 (Nat.le_trans hm42_1 (Nat.le_of_ble_eq_true rfl)) (by omega) hg_28) (cwV 3 hts g_M_comes_1_120_0_M_hasAll rfl rfl rfl (by decide +kernel) ⟨Nat.le_of_ble_eq_true rfl, Nat.le_of_ble_eq_true rfl⟩) ⟨pu_bl, va_recv hK hP (ci := 9) (q0 := 0) rfl rfl, pu_in hP hK hD⟩ rfl rfl hl.1 rfl (lv_room (Nat.le_of_ble_eq_true rfl)) dX9_comes_77 ⟨Nat.le_of_ble_eq_true rfl, Nat.le_of_ble_eq_true rfl⟩) hS (fun q _ h => pu_fr hS hA q h) (pu_fr hS hA) (fun r_30 u t H1 locs ht hvm hw hB hz1 hk1 hS => ?_)
          have hP := pu_keep hP hk1
          clear hk1 hz1 ht hvm
          generalize H1 = H at hP hS ⊢
          obtain ⟨u_31, hu_31, rfl⟩ := hw
          refine lv_if_eq (tgt := 84) hx hb dX9_comes_80 (by decide) (fun c_32 => ?_) (fun c_32 => ?_)
          · have c_32 : u_31 = 0 := (nI_eq (a := u_31) (b := 0) (Nat.lt_of_le_of_lt hu_31 (Nat.le_of_ble_eq_true rfl)) (Nat.le_of_ble_eq_true rfl)).mp c_32
            refine lv_iinc (v := (nI (g_8 + 1))) (lv' := [(8, .int (nI (g_8 + 1))), (0, .ref (ad 0)), (1, .int 1), (2, .int (nI a1)), (3, .int (-1)), (4, .int (-1)), (5, .int p4), (6, .int (nI a5)), (7, .int 120), (9, .int (nI (120 + g_8)))]) hx hb dX9_comes_84 hl (k := 8) rfl (nI_1 _) (by decide) rfl (fun ls hl => ?_)
            refine lv_goto (tgt := 30) hx hb dX9_comes_87 (by decide) ?_
            exact ih_9 (120 - (g_8 + 1)) (by omega) _ _ _ ⟨(g_8 + 1), rfl, (by omega), hP, hD, hS, lv_sub hl [1, 2, 3, 4, 5, 6, 7, 8, 0] rfl⟩
          · have c_32 : ¬ u_31 = 0 := fun z => c_32 ((nI_eq (a := u_31) (b := 0) (Nat.lt_of_le_of_lt hu_31 (Nat.le_of_ble_eq_true rfl)) (Nat.le_of_ble_eq_true rfl)).mpr z)
            exact W.vret hx hb hr (fun t ht hW => ⟨⟨(), rfl, trivial, ⟨f34, z35_6, q38, f39, f40, f41, f44, m42_1, ⟨by rw [ht]; exact hP, va_K.moved hW.alike hK, hD⟩, hm42_1, hgr, by omega⟩⟩, hS.F ht⟩) hS.2.2 dX9_comes_83
        refine lv_if_ne (tgt := 76) hx hb dX9_comes_69 (by decide) (fun c_33 => ?_) (fun c_33 => ?_)
        · have c_33 : ¬ a5 = 0 := fun z => c_33 ((nI_eq (a := a5) (b := 0) (Nat.lt_of_le_of_lt ha5 (Nat.le_of_ble_eq_true rfl)) (Nat.le_of_ble_eq_true rfl)).mpr z)
          refine lv_iconst (v := 0) hx hb dX9_comes_76 (by decide) ?_
          exact j_29 _ _ _ _ ⟨0, rfl, (Nat.le_of_ble_eq_true rfl), hP, hD, hS, lv_sub hl [1, 2, 3, 4, 5, 6, 7, 8, 9, 0] rfl⟩
        · have c_33 : a5 = 0 := (nI_eq (a := a5) (b := 0) (Nat.lt_of_le_of_lt ha5 (Nat.le_of_ble_eq_true rfl)) (Nat.le_of_ble_eq_true rfl)).mp c_33
          refine lv_iconst (v := 1) hx hb dX9_comes_72 (by decide) ?_
          refine lv_goto (tgt := 77) hx hb dX9_comes_73 (by decide) ?_
          exact j_29 _ _ _ _ ⟨1, rfl, (Nat.le_of_ble_eq_true rfl), hP, hD, hS, lv_sub hl [1, 2, 3, 4, 5, 6, 7, 8, 9, 0] rfl⟩
  refine lv_if_ne (tgt := 17) hx hb dX9_comes_5 (by decide) (fun c_34 => ?_) (fun c_34 => ?_)
  · have c_34 : ¬ u_2 = 0 := fun z => c_34 ((nI_eq (a := u_2) (b := 0) (Nat.lt_of_le_of_lt hu_2 (Nat.le_of_ble_eq_true rfl)) (Nat.le_of_ble_eq_true rfl)).mpr z)
    exact j_4 _ _ _ _ ⟨f35, rfl, hP, hD, hS, lv_sub hl [0, 1, 2, 3, 4, 5, 6, 7] rfl⟩
  · have c_34 : u_2 = 0 := (nI_eq (a := u_2) (b := 0) (Nat.lt_of_le_of_lt hu_2 (Nat.le_of_ble_eq_true rfl)) (Nat.le_of_ble_eq_true rfl)).mp c_34
    refine lv_aload_n hx hb dX9_comes_8 rfl (lv_at hl 0 rfl) ?_
    refine lv_aload_n hx hb dX9_comes_9 rfl (lv_at hl 0 rfl) ?_
    refine va_get (D := (dC, dI)) (ci := 9) (v := .ref (ad 35)) (C := RX9) (T := TX9) (N := 67) hx hb hts hiX9 hown hK hP 0 rfl rfl 35 (by decide) v_6 (fun _ h9 => h9) rfl dX9_comes_10 ?_
    refine lv_iload_n hx hb dX9_comes_13 rfl (lv_at hl 2 rfl) ?_
    have hFc := pu_free hD hS hA
    refine va_callv (va_runV (As := [.ref (ad 35), .int (nI a1)]) (rest := []) ⟨hx, hb, hml, hown, hts⟩ (c_M_delays l dC dI _ ad ck x0 x16 x18 x19 x20 x21 x22 x23 x24 x25 x26 x27 x28 x29 x30 x33 x45 x46 x52 x53 x61 x62 x63 x65 x66 f1 f2 f3 q4 q5 q6 q7 f8 q9 q10 f11 m12_0 m12_1 m13_0 m13_1 m14_0 m14_1 m15_0 m15_1 f17 q31 f32 f34 f35 f36 f37 q38 f39 f40 f41 m42_0 m42_1 f43 f44 f47 f48 f49 f50 f51 q54 q55 q56 f57 q58 f59 f60 f64 a1 hx16 hx18 hx19 hx21 hx22 hx26 hx28 hx29 hx30 hx33 hx46 hx52 hx53 hx61 hx62 hx63 hx65 hm12_0 hm12_1 hm13_0 hm13_1 hm14_0 hm14_1 hm15_0 hm15_1 hm42_0 (Nat.le_trans hm42_1 (Nat.le_of_ble_eq_true rfl)) ha1) (cwV 2 hts g_M_comes_1_120_0_M_delays rfl rfl rfl (by decide +kernel) ⟨Nat.le_of_ble_eq_true rfl, Nat.le_of_ble_eq_true rfl⟩) ⟨pu_bl, va_recv hK hP (ci := 9) (q0 := 0) rfl rfl, pu_in hP hK hD⟩ rfl rfl hl.1 rfl (lv_room (Nat.le_of_ble_eq_true rfl)) dX9_comes_14 ⟨Nat.le_of_ble_eq_true rfl, Nat.le_of_ble_eq_true rfl⟩) hS (fun q _ h => hFc q h) hFc (fun u t H1 locs ht hvm hw hB hz1 hk1 hS => ?_)
    obtain ⟨z35_36, ⟨hP1, -, hD1⟩⟩ := hB
    rw [ht] at hP1
    have hP := hP1
    have hD := pu_all hFc hD1
    clear hP1 hD1 hFc
    clear hk1 hz1 ht hvm
    generalize H1 = H at hP hS ⊢
    exact j_4 _ _ _ _ ⟨z35_36, rfl, hP, hD, hS, lv_sub hl [0, 1, 2, 3, 4, 5, 6, 7] rfl⟩
abbrev vs_M_comes_1_120_1 : List Cond := .code yX9_comes cX9_comes 10 none :: VM
theorem g_M_comes_1_120_1_M_isUrgent : GoodIn vs_M_comes_1_120_1 (wsV RX9 324 RX9 yX9_isUrgent vs_M_isUrgent) := gm_V vm_204 vm_205 vm_206 vm_12 vm_33
theorem g_M_comes_1_120_1_M_forgets : GoodIn vs_M_comes_1_120_1 (wsV RX9 352 RX9 yX9_forgets vs_M_forgets) := gm_V vm_247 vm_248 vm_249 vm_12 vm_230
theorem g_M_comes_1_120_1_M_spotOf_1 : GoodIn vs_M_comes_1_120_1 (va_wsS RX9 355 yX9_spotOf vs_M_spotOf_1) := gm_S vm_241 vm_242 vm_12 vm_13
theorem g_M_comes_1_120_1_M_copies_zn : GoodIn vs_M_comes_1_120_1 (va_wsS RX9 362 yX9_copies vs_M_copies_zn) := gm_S vm_250 vm_251 vm_12 vm_8
theorem g_M_comes_1_120_1_M_hasAll : GoodIn vs_M_comes_1_120_1 (wsV RX9 358 RX9 yX9_hasAll vs_M_hasAll) := gm_V vm_255 vm_256 vm_257 vm_12 vm_231
theorem g_M_comes_1_120_1_M_delays : GoodIn vs_M_comes_1_120_1 (wsV RX9 349 RX9 yX9_delays vs_M_delays) := gm_V vm_244 vm_245 vm_246 vm_12 vm_220
set_option maxHeartbeats 4000000 in
set_option maxRecDepth 100000 in
theorem c_M_comes_1_120_1 (l : Launch) (dC : Nat → ClassId) (dI : Nat → Nat → Nat) (sz : Nat) (ad : Nat → Nat) (ck : Nat → ClassId) (x0 : Int32) (x16 : Nat) (x18 : Nat) (x19 : Nat) (x20 : Int32) (x21 : Nat) (x22 : Nat) (x23 : Int32) (x24 : Int32) (x25 : Int32) (x26 : Nat) (x27 : Int32) (x28 : Nat) (x29 : Nat) (x30 : Nat) (x33 : Nat) (x45 : Int32) (x46 : Nat) (x52 : Nat) (x53 : Nat) (x61 : Nat) (x62 : Nat) (x63 : Nat) (x65 : Nat) (x66 : Int32) (f1 : Nat → Int32) (f2 : Nat → Int32) (f3 : Nat → Int32) (q4 : Nat → Nat) (q5 : Nat → Nat) (q6 : Nat → Nat) (q7 : Nat → Nat) (f8 : Nat → Int32) (q9 : Nat → Nat) (q10 : Nat → Nat) (f11 : Nat → Int32) (m12_0 m12_1 : Nat) (m13_0 m13_1 : Nat) (m14_0 m14_1 : Nat) (m15_0 m15_1 : Nat) (f17 : Nat → Int32) (q31 : Nat → Nat) (f32 : Nat → Int32) (f34 : Nat → Int32) (f35 : Nat → Int32) (f36 : Nat → Int32) (f37 : Nat → Int32) (q38 : Nat → Nat) (f39 : Nat → Int32) (f40 : Nat → Int32) (f41 : Nat → Int32) (m42_0 m42_1 : Nat) (f43 : Nat → Int32) (f44 : Nat → Int32) (f47 : Nat → Int32) (f48 : Nat → Int32) (f49 : Nat → Int32) (f50 : Nat → Int32) (f51 : Nat → Int32) (q54 : Nat → Nat) (q55 : Nat → Nat) (q56 : Nat → Nat) (f57 : Nat → Int32) (q58 : Nat → Nat) (f59 : Nat → Int32) (f60 : Nat → Int32) (f64 : Nat → Int32) (a1 : Nat) (a2 : Nat) (a3 : Nat) (p4 : Int32) (a5 : Nat) (hx16 : x16 ≤ 1) (hx18 : x18 ≤ 900) (hx19 : x19 ≤ 900) (hx21 : x21 ≤ 900) (hx22 : x22 ≤ 4) (hx26 : x26 ≤ 6) (hx28 : x28 ≤ 1) (hx29 : x29 ≤ 1) (hx30 : x30 ≤ 1) (hx33 : x33 ≤ 20) (hx46 : x46 ≤ 5) (hx52 : x52 ≤ 2400) (hx53 : x53 ≤ 119) (hx61 : x61 ≤ 119) (hx62 : x62 ≤ 2000) (hx63 : x63 ≤ 1) (hx65 : x65 ≤ 7) (hm12_0 : m12_0 ≤ 3) (hm12_1 : m12_1 ≤ 3) (hm13_0 : m13_0 ≤ 8) (hm13_1 : m13_1 ≤ 8) (hm14_0 : m14_0 ≤ 14) (hm14_1 : m14_1 ≤ 14) (hm15_0 : m15_0 ≤ 8) (hm15_1 : m15_1 ≤ 8) (hm42_0 : m42_0 ≤ 120) (hm42_1 : m42_1 ≤ 120) (ha1 : a1 ≤ 7) (ha2 : a2 ≤ 119) (ha3 : a3 ≤ 13) (ha5 : a5 ≤ 1) (hgr : gz_ok m42_0 f39 f40 f41) : Met l yX9_comes vs_M_comes_1_120_1 ({ frames := 5, cells := 0, slots := 0, locals := 113 }) (va_Pc [.ref (ad 0), .int 1, .int (nI a1), .int (nI a2), .int (nI a3), .int p4, .int (nI a5), .int 120] (pu_B (dC, dI) (mo_w ad ck x0 (nI x16) (nI x18) (nI x19) x20 (nI x21) (nI x22) x23 x24 x25 (nI x26) x27 (nI x28) (nI x29) (nI x30) (nI x33) x45 (nI x46) (nI x52) (nI x53) (nI x61) (nI x62) (nI x63) (nI x65) x66 f1 f2 f3 (bN 3 q4) (bN 7 q5) (bN 7 q6) (bN 4 q7) f8 (bN 2 q9) (bH q10) f11 (b2 m12_0 m12_1) (b2 m13_0 m13_1) (b2 m14_0 m14_1) (b2m m15_0 m15_1) f17 (bA 159 q31) f32 f34 f35 f36 f37 (bN 7 q38) f39 f40 f41 (b2 m42_0 m42_1) f43 f44 f47 f48 f49 f50 f51 (bN 13 q54) (bN 120 q55) (bN 120 q56) f57 (bN 120 q58) f59 f60 f64) (mo_t ck) sz)) (va_Qv (fun (_ : Unit) => True) (fun _ t => ∃ (z34 : Nat → Int32) (z35 : Nat → Int32) (z38 : Nat → Nat) (z39 : Nat → Int32) (z40 : Nat → Int32) (z41 : Nat → Int32) (z44 : Nat → Int32) (z42_1 : Nat), pu_E (dC, dI) (mo_w ad ck x0 (nI x16) (nI x18) (nI x19) x20 (nI x21) (nI x22) x23 x24 x25 (nI x26) x27 (nI x28) (nI x29) (nI x30) (nI x33) x45 (nI x46) (nI x52) (nI x53) (nI x61) (nI x62) (nI x63) (nI x65) x66 f1 f2 f3 (bN 3 q4) (bN 7 q5) (bN 7 q6) (bN 4 q7) f8 (bN 2 q9) (bH q10) f11 (b2 m12_0 m12_1) (b2 m13_0 m13_1) (b2 m14_0 m14_1) (b2m m15_0 m15_1) f17 (bA 159 q31) f32 z34 z35 f36 f37 (bN 7 z38) z39 z40 z41 (b2 m42_0 z42_1) f43 z44 f47 f48 f49 f50 f51 (bN 13 q54) (bN 120 q55) (bN 120 q56) f57 (bN 120 q58) f59 f60 f64) (mo_t ck) (va_A ((mo_w ad ck x0 (nI x16) (nI x18) (nI x19) x20 (nI x21) (nI x22) x23 x24 x25 (nI x26) x27 (nI x28) (nI x29) (nI x30) (nI x33) x45 (nI x46) (nI x52) (nI x53) (nI x61) (nI x62) (nI x63) (nI x65) x66 f1 f2 f3 (bN 3 q4) (bN 7 q5) (bN 7 q6) (bN 4 q7) f8 (bN 2 q9) (bH q10) f11 (b2 m12_0 m12_1) (b2 m13_0 m13_1) (b2 m14_0 m14_1) (b2m m15_0 m15_1) f17 (bA 159 q31) f32 f34 f35 f36 f37 (bN 7 q38) f39 f40 f41 (b2 m42_0 m42_1) f43 f44 f47 f48 f49 f50 f51 (bN 13 q54) (bN 120 q55) (bN 120 q56) f57 (bN 120 q58) f59 f60 f64)) sz) t ∧ (z42_1 ≤ 120) ∧ (gz_ok m42_0 z39 z40 z41) ∧ (m42_1 ≤ z42_1)) (va_A ((mo_w ad ck x0 (nI x16) (nI x18) (nI x19) x20 (nI x21) (nI x22) x23 x24 x25 (nI x26) x27 (nI x28) (nI x29) (nI x30) (nI x33) x45 (nI x46) (nI x52) (nI x53) (nI x61) (nI x62) (nI x63) (nI x65) x66 f1 f2 f3 (bN 3 q4) (bN 7 q5) (bN 7 q6) (bN 4 q7) f8 (bN 2 q9) (bH q10) f11 (b2 m12_0 m12_1) (b2 m13_0 m13_1) (b2 m14_0 m14_1) (b2m m15_0 m15_1) f17 (bA 159 q31) f32 f34 f35 f36 f37 (bN 7 q38) f39 f40 f41 (b2 m42_0 m42_1) f43 f44 f47 f48 f49 f50 f51 (bN 13 q54) (bN 120 q55) (bN 120 q56) f57 (bN 120 q58) f59 f60 f64)) sz)) 0 0 (va_A ((mo_w ad ck x0 (nI x16) (nI x18) (nI x19) x20 (nI x21) (nI x22) x23 x24 x25 (nI x26) x27 (nI x28) (nI x29) (nI x30) (nI x33) x45 (nI x46) (nI x52) (nI x53) (nI x61) (nI x62) (nI x63) (nI x65) x66 f1 f2 f3 (bN 3 q4) (bN 7 q5) (bN 7 q6) (bN 4 q7) f8 (bN 2 q9) (bH q10) f11 (b2 m12_0 m12_1) (b2 m13_0 m13_1) (b2 m14_0 m14_1) (b2m m15_0 m15_1) f17 (bA 159 q31) f32 f34 f35 f36 f37 (bN 7 q38) f39 f40 f41 (b2 m42_0 m42_1) f43 f44 f47 f48 f49 f50 f51 (bN 13 q54) (bN 120 q55) (bN 120 q56) f57 (bN 120 q58) f59 f60 f64)) sz) := by
  refine Met.ofW (cc := cX9_comes) (maxL := 10) (ret := none) (by decide) rfl ?_
  intro p e s m args below meth c s₁ B hml hv
  obtain ⟨rfl, rfl, hP, hK, hD0⟩ := hv
  have hx := B.exec
  have hb := B.bytes
  have hr := B.returns
  have hts := atoms_spec (ws := vs_M_comes_1_120_1) B.pre
  have v_6 := hts (.fieldLink RX9 71 "ClockReachModel" "z" "[I") (List.mem_cons_of_mem _ vm_234)
  have v_15 := hts (.fieldLink RX9 92 "ClockReachModel" "stateMany" "[I") (List.mem_cons_of_mem _ vm_177)
  have v_16 := hts (.fieldLink RX9 98 "ClockReachModel" "isFull" "[Z") (List.mem_cons_of_mem _ vm_178)
  have v_20 := hts (.fieldLink RX9 68 "ClockReachModel" "zone" "[I") (List.mem_cons_of_mem _ vm_232)
  have v_24 := hts (.fieldLink RX9 80 "ClockReachModel" "statePlace" "[I") (List.mem_cons_of_mem _ vm_240)
  have v_25 := hts (.fieldLink RX9 83 "ClockReachModel" "stateFrom" "[I") (List.mem_cons_of_mem _ vm_252)
  have v_26 := hts (.fieldLink RX9 86 "ClockReachModel" "stateBy" "[I") (List.mem_cons_of_mem _ vm_253)
  have v_27 := hts (.fieldLink RX9 89 "ClockReachModel" "stateDeep" "[I") (List.mem_cons_of_mem _ vm_254)
  have hown : s.vm.findClass RX9 = some m.cls := findClass_of_methodNamed B.named
  have hlocks := B.notSynchronized
  have hiX9 : ∀ w ∈ wsX90, w ∈ vs_M_comes_1_120_1 := fun _ h => List.mem_cons_of_mem _ (List.mem_append_right _ h)
  have hD := hD0.self (sz := s.heap.size)
  generalize hAe : va_A ((mo_w ad ck x0 (nI x16) (nI x18) (nI x19) x20 (nI x21) (nI x22) x23 x24 x25 (nI x26) x27 (nI x28) (nI x29) (nI x30) (nI x33) x45 (nI x46) (nI x52) (nI x53) (nI x61) (nI x62) (nI x63) (nI x65) x66 f1 f2 f3 (bN 3 q4) (bN 7 q5) (bN 7 q6) (bN 4 q7) f8 (bN 2 q9) (bH q10) f11 (b2 m12_0 m12_1) (b2 m13_0 m13_1) (b2 m14_0 m14_1) (b2m m15_0 m15_1) f17 (bA 159 q31) f32 f34 f35 f36 f37 (bN 7 q38) f39 f40 f41 (b2 m42_0 m42_1) f43 f44 f47 f48 f49 f50 f51 (bN 13 q54) (bN 120 q55) (bN 120 q56) f57 (bN 120 q58) f59 f60 f64)) s.heap.size = A at hD ⊢
  have hA : ∀ q : Nat, s.heap.size ≤ q → A q := fun q h => by rw [← hAe]; exact Or.inr h
  have hS : va_S A s.heap s.heap [] := va_S.rf
  have hl := lv_entry ([.ref (ad 0), .int 1, .int (nI a1), .int (nI a2), .int (nI a3), .int p4, .int (nI a5), .int 120]) (n := 10) (Nat.le_of_ble_eq_true rfl)
  rw [lg_entry_eq]
  generalize (lg_sl ([.ref (ad 0), .int 1, .int (nI a1), .int (nI a2), .int (nI a3), .int p4, .int (nI a5), .int 120]) ++ List.replicate (10 - (lg_sl ([.ref (ad 0), .int 1, .int (nI a1), .int (nI a2), .int (nI a3), .int p4, .int (nI a5), .int 120])).length) Slot.unset).toArray = ls at hl ⊢
  have hl : lv_has ls 10 [(0, .ref (ad 0)), (1, .int 1), (2, .int (nI a1)), (3, .int (nI a2)), (4, .int (nI a3)), (5, .int p4), (6, .int (nI a5)), (7, .int 120)] := hl
  refine lv_aload_n hx hb dX9_comes_0 rfl (lv_at hl 0 rfl) ?_
  refine lv_iload_n hx hb dX9_comes_1 rfl (lv_at hl 2 rfl) ?_
  refine va_calli (va_runV (As := [.int (nI a1)]) (rest := []) ⟨hx, hb, hml, hown, hts⟩ (c_M_isUrgent l dC dI _ ad ck x0 x16 x18 x19 x20 x21 x22 x23 x24 x25 x26 x27 x28 x29 x30 x33 x45 x46 x52 x53 x61 x62 x63 x65 x66 f1 f2 f3 q4 q5 q6 q7 f8 q9 q10 f11 m12_0 m12_1 m13_0 m13_1 m14_0 m14_1 m15_0 m15_1 f17 q31 f32 f34 f35 f36 f37 q38 f39 f40 f41 m42_0 m42_1 f43 f44 f47 f48 f49 f50 f51 q54 q55 q56 f57 q58 f59 f60 f64 a1 hx16 hx18 hx19 hx21 hx22 hx26 hx28 hx29 hx30 hx33 hx46 hx52 hx53 hx61 hx62 hx63 hx65 hm12_0 hm12_1 hm13_0 hm13_1 hm14_0 hm14_1 hm15_0 hm15_1 hm42_0 (Nat.le_trans hm42_1 (Nat.le_of_ble_eq_true rfl)) ha1) (cwV 1 hts g_M_comes_1_120_1_M_isUrgent rfl rfl rfl (by decide +kernel) ⟨Nat.le_of_ble_eq_true rfl, Nat.le_of_ble_eq_true rfl⟩) ⟨pu_bl, va_recv hK hP (ci := 9) (q0 := 0) rfl rfl, pu_in hP hK hD⟩ rfl rfl hl.1 rfl (lv_room (Nat.le_of_ble_eq_true rfl)) dX9_comes_2 ⟨Nat.le_of_ble_eq_true rfl, Nat.le_of_ble_eq_true rfl⟩) hS (fun q _ h => pu_fr hS hA q h) (pu_fr hS hA) (fun r_1 u t H1 locs ht hvm hw hB hz1 hk1 hS => ?_)
  have hP := pu_keep hP hk1
  clear hk1 hz1 ht hvm
  generalize H1 = H at hP hS ⊢
  obtain ⟨u_2, hu_2, rfl⟩ := hw
  refine pu_join (fun H locs ls st => ∃ (g_3 : Nat → Int32), st = [] ∧ va_P (dC, dI) vwCl (mo_w ad ck x0 (nI x16) (nI x18) (nI x19) x20 (nI x21) (nI x22) x23 x24 x25 (nI x26) x27 (nI x28) (nI x29) (nI x30) (nI x33) x45 (nI x46) (nI x52) (nI x53) (nI x61) (nI x62) (nI x63) (nI x65) x66 f1 f2 f3 (bN 3 q4) (bN 7 q5) (bN 7 q6) (bN 4 q7) f8 (bN 2 q9) (bH q10) f11 (b2 m12_0 m12_1) (b2 m13_0 m13_1) (b2 m14_0 m14_1) (b2m m15_0 m15_1) f17 (bA 159 q31) f32 f34 g_3 f36 f37 (bN 7 q38) f39 f40 f41 (b2 m42_0 m42_1) f43 f44 f47 f48 f49 f50 f51 (bN 13 q54) (bN 120 q55) (bN 120 q56) f57 (bN 120 q58) f59 f60 f64) H ∧ va_D A (mo_w ad ck x0 (nI x16) (nI x18) (nI x19) x20 (nI x21) (nI x22) x23 x24 x25 (nI x26) x27 (nI x28) (nI x29) (nI x30) (nI x33) x45 (nI x46) (nI x52) (nI x53) (nI x61) (nI x62) (nI x63) (nI x65) x66 f1 f2 f3 (bN 3 q4) (bN 7 q5) (bN 7 q6) (bN 4 q7) f8 (bN 2 q9) (bH q10) f11 (b2 m12_0 m12_1) (b2 m13_0 m13_1) (b2 m14_0 m14_1) (b2m m15_0 m15_1) f17 (bA 159 q31) f32 f34 g_3 f36 f37 (bN 7 q38) f39 f40 f41 (b2 m42_0 m42_1) f43 f44 f47 f48 f49 f50 f51 (bN 13 q54) (bN 120 q55) (bN 120 q56) f57 (bN 120 q58) f59 f60 f64) ∧ va_S A s.heap H locs ∧ lv_has ls 10 [(0, .ref (ad 0)), (1, .int 1), (2, .int (nI a1)), (3, .int (nI a2)), (4, .int (nI a3)), (5, .int p4), (6, .int (nI a5)), (7, .int 120)]) 17 ?_ (fun j_4 => ?_)
  · rintro H locs ls st ⟨g_3, rfl, hP, hD, hS, hl⟩
    refine lv_aload_n hx hb dX9_comes_17 rfl (lv_at hl 0 rfl) ?_
    refine lv_aload_n hx hb dX9_comes_18 rfl (lv_at hl 0 rfl) ?_
    refine va_get (D := (dC, dI)) (ci := 9) (v := .ref (ad 35)) (C := RX9) (T := TX9) (N := 67) hx hb hts hiX9 hown hK hP 0 rfl rfl 35 (by decide) v_6 (fun _ h9 => h9) rfl dX9_comes_19 ?_
    refine lv_iload hx hb dX9_comes_22 (lv_at hl 5 rfl) ?_
    have hFc := pu_free hD hS hA
    refine va_callv (va_runV (As := [.ref (ad 35), .int p4]) (rest := []) ⟨hx, hb, hml, hown, hts⟩ (c_M_forgets l dC dI _ ad ck x0 x16 x18 x19 x20 x21 x22 x23 x24 x25 x26 x27 x28 x29 x30 x33 x45 x46 x52 x53 x61 x62 x63 x65 x66 f1 f2 f3 q4 q5 q6 q7 f8 q9 q10 f11 m12_0 m12_1 m13_0 m13_1 m14_0 m14_1 m15_0 m15_1 f17 q31 f32 f34 g_3 f36 f37 q38 f39 f40 f41 m42_0 m42_1 f43 f44 f47 f48 f49 f50 f51 q54 q55 q56 f57 q58 f59 f60 f64 p4 hx16 hx18 hx19 hx21 hx22 hx26 hx28 hx29 hx30 hx33 hx46 hx52 hx53 hx61 hx62 hx63 hx65 hm12_0 hm12_1 hm13_0 hm13_1 hm14_0 hm14_1 hm15_0 hm15_1 hm42_0 (Nat.le_trans hm42_1 (Nat.le_of_ble_eq_true rfl))) (cwV 2 hts g_M_comes_1_120_1_M_forgets rfl rfl rfl (by decide +kernel) ⟨Nat.le_of_ble_eq_true rfl, Nat.le_of_ble_eq_true rfl⟩) ⟨pu_bl, va_recv hK hP (ci := 9) (q0 := 0) rfl rfl, pu_in hP hK hD⟩ rfl rfl hl.1 rfl (lv_room (Nat.le_of_ble_eq_true rfl)) dX9_comes_24 ⟨Nat.le_of_ble_eq_true rfl, Nat.le_of_ble_eq_true rfl⟩) hS (fun q _ h => hFc q h) hFc (fun u t H1 locs ht hvm hw hB hz1 hk1 hS => ?_)
    obtain ⟨z35_6, ⟨hP1, -, hD1⟩⟩ := hB
    rw [ht] at hP1
    have hP := hP1
    have hD := pu_all hFc hD1
    clear hP1 hD1 hFc
    clear hk1 hz1 ht hvm
    generalize H1 = H at hP hS ⊢
    refine lv_iconst (v := 0) hx hb dX9_comes_27 (by decide) ?_
    refine lv_istore (lv' := [(8, .int 0), (0, .ref (ad 0)), (1, .int 1), (2, .int (nI a1)), (3, .int (nI a2)), (4, .int (nI a3)), (5, .int p4), (6, .int (nI a5)), (7, .int 120)]) hx hb dX9_comes_28 hl (by decide) rfl (fun ls hl => ?_)
    refine pu_while (fun nn H locs ls => ∃ (g_8 : Nat), nn = 120 - g_8 ∧ g_8 ≤ 120 ∧ va_P (dC, dI) vwCl (mo_w ad ck x0 (nI x16) (nI x18) (nI x19) x20 (nI x21) (nI x22) x23 x24 x25 (nI x26) x27 (nI x28) (nI x29) (nI x30) (nI x33) x45 (nI x46) (nI x52) (nI x53) (nI x61) (nI x62) (nI x63) (nI x65) x66 f1 f2 f3 (bN 3 q4) (bN 7 q5) (bN 7 q6) (bN 4 q7) f8 (bN 2 q9) (bH q10) f11 (b2 m12_0 m12_1) (b2 m13_0 m13_1) (b2 m14_0 m14_1) (b2m m15_0 m15_1) f17 (bA 159 q31) f32 f34 z35_6 f36 f37 (bN 7 q38) f39 f40 f41 (b2 m42_0 m42_1) f43 f44 f47 f48 f49 f50 f51 (bN 13 q54) (bN 120 q55) (bN 120 q56) f57 (bN 120 q58) f59 f60 f64) H ∧ va_D A (mo_w ad ck x0 (nI x16) (nI x18) (nI x19) x20 (nI x21) (nI x22) x23 x24 x25 (nI x26) x27 (nI x28) (nI x29) (nI x30) (nI x33) x45 (nI x46) (nI x52) (nI x53) (nI x61) (nI x62) (nI x63) (nI x65) x66 f1 f2 f3 (bN 3 q4) (bN 7 q5) (bN 7 q6) (bN 4 q7) f8 (bN 2 q9) (bH q10) f11 (b2 m12_0 m12_1) (b2 m13_0 m13_1) (b2 m14_0 m14_1) (b2m m15_0 m15_1) f17 (bA 159 q31) f32 f34 z35_6 f36 f37 (bN 7 q38) f39 f40 f41 (b2 m42_0 m42_1) f43 f44 f47 f48 f49 f50 f51 (bN 13 q54) (bN 120 q55) (bN 120 q56) f57 (bN 120 q58) f59 f60 f64) ∧ va_S A s.heap H locs ∧ lv_has ls 10 [(0, .ref (ad 0)), (1, .int 1), (2, .int (nI a1)), (3, .int (nI a2)), (4, .int (nI a3)), (5, .int p4), (6, .int (nI a5)), (7, .int 120), (8, .int (nI g_8))]) 30 ?_ _ _ _ _ ⟨0, rfl, (Nat.le_of_ble_eq_true rfl), hP, hD, hS, lv_sub hl [1, 2, 3, 4, 5, 6, 7, 8, 0] rfl⟩
    rintro nn ih_9 H locs ls ⟨g_8, rfl, hg_8, hP, hD, hS, hl⟩
    refine lv_iload hx hb dX9_comes_30 (lv_at hl 8 rfl) ?_
    refine lv_aload_n hx hb dX9_comes_32 rfl (lv_at hl 0 rfl) ?_
    refine va_get (D := (dC, dI)) (ci := 9) (v := .ref (ad 42)) (C := RX9) (T := TX9) (N := 67) hx hb hts hiX9 hown hK hP 0 rfl rfl 42 (by decide) v_15 (fun _ h9 => h9) rfl dX9_comes_33 ?_
    refine lv_iload_n hx hb dX9_comes_36 rfl (lv_at hl 1 rfl) ?_
    refine va_iald hx hb hK hP 27 26 rfl rfl (vp_in_nI (n := 1) (Nat.le_of_ble_eq_true rfl) (Nat.le_of_ble_eq_true rfl)) dX9_comes_37 ?_
    refine lv_topi (fun y_10 ey_10 => ?_)
    have qy_10 := ey_10.trans b2_1
    clear ey_10
    obtain rfl : y_10 = nI m42_1 := qy_10
    refine lv_icmp_ge (tgt := 90) hx hb dX9_comes_38 (by decide) (fun c_11 => ?_) (fun c_11 => ?_)
    · have c_11 : m42_1 ≤ g_8 := (nI_leI (a := m42_1) (b := g_8) (Nat.lt_of_le_of_lt hm42_1 (Nat.le_of_ble_eq_true rfl)) (Nat.lt_of_le_of_lt hg_8 (Nat.le_of_ble_eq_true rfl))).mp c_11
      refine lv_aload_n hx hb dX9_comes_90 rfl (lv_at hl 0 rfl) ?_
      refine va_get (D := (dC, dI)) (ci := 9) (v := .ref (ad 42)) (C := RX9) (T := TX9) (N := 67) hx hb hts hiX9 hown hK hP 0 rfl rfl 42 (by decide) v_15 (fun _ h9 => h9) rfl dX9_comes_91 ?_
      refine lv_iload_n hx hb dX9_comes_94 rfl (lv_at hl 1 rfl) ?_
      refine va_iald hx hb hK hP 27 26 rfl rfl (vp_in_nI (n := 1) (Nat.le_of_ble_eq_true rfl) (Nat.le_of_ble_eq_true rfl)) dX9_comes_95 ?_
      refine lv_topi (fun y_12 ey_12 => ?_)
      have qy_12 := ey_12.trans b2_1
      clear ey_12
      obtain rfl : y_12 = nI m42_1 := qy_12
      refine lv_iload hx hb dX9_comes_96 (lv_at hl 7 rfl) ?_
      refine lv_icmp_eq (tgt := 110) hx hb dX9_comes_98 (by decide) (fun c_13 => ?_) (fun c_13 => ?_)
      · have c_13 : m42_1 = 120 := (nI_eq (a := m42_1) (b := 120) (Nat.lt_of_le_of_lt hm42_1 (Nat.le_of_ble_eq_true rfl)) (Nat.le_of_ble_eq_true rfl)).mp c_13
        refine lv_aload_n hx hb dX9_comes_110 rfl (lv_at hl 0 rfl) ?_
        refine va_get (D := (dC, dI)) (ci := 9) (v := .ref (ad 44)) (C := RX9) (T := TX9) (N := 67) hx hb hts hiX9 hown hK hP 0 rfl rfl 44 (by decide) v_16 (fun _ h9 => h9) rfl dX9_comes_111 ?_
        refine lv_iload_n hx hb dX9_comes_114 rfl (lv_at hl 1 rfl) ?_
        refine lv_iconst (v := 1) hx hb dX9_comes_115 (by decide) ?_
        refine va_zast hx hb hK hP hD hS 29 28 rfl rfl (vp_in_nI (n := 1) (Nat.le_of_ble_eq_true rfl) (Nat.le_of_ble_eq_true rfl)) dX9_comes_116 (fun H locs hP hD hS => ?_)
        have hP : va_P (dC, dI) vwCl (mo_w ad ck x0 (nI x16) (nI x18) (nI x19) x20 (nI x21) (nI x22) x23 x24 x25 (nI x26) x27 (nI x28) (nI x29) (nI x30) (nI x33) x45 (nI x46) (nI x52) (nI x53) (nI x61) (nI x62) (nI x63) (nI x65) x66 f1 f2 f3 (bN 3 q4) (bN 7 q5) (bN 7 q6) (bN 4 q7) f8 (bN 2 q9) (bH q10) f11 (b2 m12_0 m12_1) (b2 m13_0 m13_1) (b2 m14_0 m14_1) (b2m m15_0 m15_1) f17 (bA 159 q31) f32 f34 z35_6 f36 f37 (bN 7 q38) f39 f40 f41 (b2 m42_0 m42_1) f43 (upd f44 (1 : Int32).toNatClampNeg (vp_nar .boolean 1)) f47 f48 f49 f50 f51 (bN 13 q54) (bN 120 q55) (bN 120 q56) f57 (bN 120 q58) f59 f60 f64) H := hP
        have hD : va_D A (mo_w ad ck x0 (nI x16) (nI x18) (nI x19) x20 (nI x21) (nI x22) x23 x24 x25 (nI x26) x27 (nI x28) (nI x29) (nI x30) (nI x33) x45 (nI x46) (nI x52) (nI x53) (nI x61) (nI x62) (nI x63) (nI x65) x66 f1 f2 f3 (bN 3 q4) (bN 7 q5) (bN 7 q6) (bN 4 q7) f8 (bN 2 q9) (bH q10) f11 (b2 m12_0 m12_1) (b2 m13_0 m13_1) (b2 m14_0 m14_1) (b2m m15_0 m15_1) f17 (bA 159 q31) f32 f34 z35_6 f36 f37 (bN 7 q38) f39 f40 f41 (b2 m42_0 m42_1) f43 (upd f44 (1 : Int32).toNatClampNeg (vp_nar .boolean 1)) f47 f48 f49 f50 f51 (bN 13 q54) (bN 120 q55) (bN 120 q56) f57 (bN 120 q58) f59 f60 f64) := hD
        exact W.vret hx hb hr (fun t ht hW => ⟨⟨(), rfl, trivial, ⟨f34, z35_6, q38, f39, f40, f41, (upd f44 (1 : Int32).toNatClampNeg (vp_nar .boolean 1)), m42_1, ⟨by rw [ht]; exact hP, va_K.moved hW.alike hK, hD⟩, hm42_1, hgr, by omega⟩⟩, hS.F ht⟩) hS.2.2 dX9_comes_117
      · have c_13 : ¬ m42_1 = 120 := fun z => c_13 ((nI_eq (a := m42_1) (b := 120) (Nat.lt_of_le_of_lt hm42_1 (Nat.le_of_ble_eq_true rfl)) (Nat.le_of_ble_eq_true rfl)).mpr z)
        refine lv_aload_n hx hb dX9_comes_101 rfl (lv_at hl 0 rfl) ?_
        refine va_get (D := (dC, dI)) (ci := 9) (v := .ref (ad 44)) (C := RX9) (T := TX9) (N := 67) hx hb hts hiX9 hown hK hP 0 rfl rfl 44 (by decide) v_16 (fun _ h9 => h9) rfl dX9_comes_102 ?_
        refine lv_iload_n hx hb dX9_comes_105 rfl (lv_at hl 1 rfl) ?_
        refine va_zald hx hb hK hP 29 28 rfl rfl (vp_in_nI (n := 1) (Nat.le_of_ble_eq_true rfl) (Nat.le_of_ble_eq_true rfl)) dX9_comes_106 ?_
        refine lv_topi (fun y_14 ey_14 => ?_)
        refine lv_if_eq (tgt := 118) hx hb dX9_comes_107 (by decide) (fun c_15 => ?_) (fun c_15 => ?_)
        · refine lv_iload_n hx hb dX9_comes_118 rfl (lv_at hl 1 rfl) ?_
          refine lv_aload_n hx hb dX9_comes_119 rfl (lv_at hl 0 rfl) ?_
          refine va_get (D := (dC, dI)) (ci := 9) (v := .ref (ad 42)) (C := RX9) (T := TX9) (N := 67) hx hb hts hiX9 hown hK hP 0 rfl rfl 42 (by decide) v_15 (fun _ h9 => h9) rfl dX9_comes_120 ?_
          refine lv_iload_n hx hb dX9_comes_123 rfl (lv_at hl 1 rfl) ?_
          refine va_iald hx hb hK hP 27 26 rfl rfl (vp_in_nI (n := 1) (Nat.le_of_ble_eq_true rfl) (Nat.le_of_ble_eq_true rfl)) dX9_comes_124 ?_
          refine lv_topi (fun y_16 ey_16 => ?_)
          have qy_16 := ey_16.trans b2_1
          clear ey_16
          obtain rfl : y_16 = nI m42_1 := qy_16
          refine va_calli (va_runS (As := [.int 1, .int (nI m42_1)]) (rest := []) ⟨hx, hb, hml, hown, hts⟩ (c_M_spotOf_1 l dC dI _ ad ck x0 x16 x18 x19 x20 x21 x22 x23 x24 x25 x26 x27 x28 x29 x30 x33 x45 x46 x52 x53 x61 x62 x63 x65 x66 f1 f2 f3 q4 q5 q6 q7 f8 q9 q10 f11 m12_0 m12_1 m13_0 m13_1 m14_0 m14_1 m15_0 m15_1 f17 q31 f32 f34 z35_6 f36 f37 q38 f39 f40 f41 m42_0 m42_1 f43 f44 f47 f48 f49 f50 f51 q54 q55 q56 f57 q58 f59 f60 f64 m42_1 hx16 hx18 hx19 hx21 hx22 hx26 hx28 hx29 hx30 hx33 hx46 hx52 hx53 hx61 hx62 hx63 hx65 hm12_0 hm12_1 hm13_0 hm13_1 hm14_0 hm14_1 hm15_0 hm15_1 hm42_0 (Nat.le_trans hm42_1 (Nat.le_of_ble_eq_true rfl)) (Nat.le_trans hm42_1 (Nat.le_of_ble_eq_true rfl))) (va_cwS 2 hts g_M_comes_1_120_1_M_spotOf_1 rfl rfl rfl (by decide +kernel) ⟨Nat.le_of_ble_eq_true rfl, Nat.le_of_ble_eq_true rfl⟩) ⟨pu_bl, pu_in hP hK hD⟩ rfl rfl hl.1 rfl (lv_room (Nat.le_of_ble_eq_true rfl)) dX9_comes_125 ⟨Nat.le_of_ble_eq_true rfl, Nat.le_of_ble_eq_true rfl⟩) hS (fun q _ h => pu_fr hS hA q h) (pu_fr hS hA) (fun r_17 u t H1 locs ht hvm hw hB hz1 hk1 hS => ?_)
          have hP := pu_keep hP hk1
          clear hk1 hz1 ht hvm
          generalize H1 = H at hP hS ⊢
          obtain rfl : r_17 = nI (120 + m42_1) := hw
          refine lv_istore (lv' := [(8, .int (nI (120 + m42_1))), (0, .ref (ad 0)), (1, .int 1), (2, .int (nI a1)), (3, .int (nI a2)), (4, .int (nI a3)), (5, .int p4), (6, .int (nI a5)), (7, .int 120)]) hx hb dX9_comes_128 hl (by decide) rfl (fun ls hl => ?_)
          refine lv_aload_n hx hb dX9_comes_130 rfl (lv_at hl 1 rfl) ?_
          refine va_get (D := (dC, dI)) (ci := 9) (v := .ref (ad 35)) (C := RX9) (T := TX9) (N := 67) hx hb hts hiX9 hown hK hP 0 rfl rfl 35 (by decide) v_6 (fun _ h9 => h9) rfl dX9_comes_131 ?_
          refine lv_iconst (v := 0) hx hb dX9_comes_134 (by decide) ?_
          refine lv_aload_n hx hb dX9_comes_135 rfl (lv_at hl 1 rfl) ?_
          refine va_get (D := (dC, dI)) (ci := 9) (v := .ref (ad 34)) (C := RX9) (T := TX9) (N := 67) hx hb hts hiX9 hown hK hP 0 rfl rfl 34 (by decide) v_20 (fun _ h9 => h9) rfl dX9_comes_136 ?_
          refine lv_bipush (v := 25) hx hb dX9_comes_139 (by decide) ?_
          refine lv_iload hx hb dX9_comes_141 (lv_at hl 0 rfl) ?_
          refine lv_imul hx hb dX9_comes_143 ?_
          refine lv_topi (fun y_18 ey_18 => ?_)
          obtain rfl : y_18 = (nI (25 * (120 + m42_1))) := ey_18.trans (pk_mul 25 (120 + m42_1))
          have hFc := pu_free hD hS hA
          refine va_callv (va_runS (As := [.ref (ad 35), .int 0, .ref (ad 34), .int (nI (25 * (120 + m42_1)))]) (rest := []) ⟨hx, hb, hml, hown, hts⟩ (c_M_copies_zn l dC dI _ ad ck x0 x16 x18 x19 x20 x21 x22 x23 x24 x25 x26 x27 x28 x29 x30 x33 x45 x46 x52 x53 x61 x62 x63 x65 x66 f1 f2 f3 q4 q5 q6 q7 f8 q9 q10 f11 m12_0 m12_1 m13_0 m13_1 m14_0 m14_1 m15_0 m15_1 f17 q31 f32 f34 z35_6 f36 f37 q38 f39 f40 f41 m42_0 m42_1 f43 f44 f47 f48 f49 f50 f51 q54 q55 q56 f57 q58 f59 f60 f64 (25 * (120 + m42_1)) hx16 hx18 hx19 hx21 hx22 hx26 hx28 hx29 hx30 hx33 hx46 hx52 hx53 hx61 hx62 hx63 hx65 hm12_0 hm12_1 hm13_0 hm13_1 hm14_0 hm14_1 hm15_0 hm15_1 hm42_0 (Nat.le_trans hm42_1 (Nat.le_of_ble_eq_true rfl)) (by omega)) (va_cwS 4 hts g_M_comes_1_120_1_M_copies_zn rfl rfl rfl (by decide +kernel) ⟨Nat.le_of_ble_eq_true rfl, Nat.le_of_ble_eq_true rfl⟩) ⟨pu_bl, pu_in hP hK hD⟩ rfl rfl hl.1 rfl (lv_room (Nat.le_of_ble_eq_true rfl)) dX9_comes_144 ⟨Nat.le_of_ble_eq_true rfl, Nat.le_of_ble_eq_true rfl⟩) hS (fun q _ h => hFc q h) hFc (fun u t H1 locs ht hvm hw hB hz1 hk1 hS => ?_)
          obtain ⟨z34_20, ⟨hP1, -, hD1⟩⟩ := hB
          rw [ht] at hP1
          have hP := hP1
          have hD := pu_all hFc hD1
          clear hP1 hD1 hFc
          clear hk1 hz1 ht hvm
          generalize H1 = H at hP hS ⊢
          refine lv_aload_n hx hb dX9_comes_147 rfl (lv_at hl 1 rfl) ?_
          refine va_get (D := (dC, dI)) (ci := 9) (v := .ref (ad 38)) (C := RX9) (T := TX9) (N := 67) hx hb hts hiX9 hown hK hP 0 rfl rfl 38 (by decide) v_24 (fun _ h9 => h9) rfl dX9_comes_148 ?_
          refine lv_iload hx hb dX9_comes_151 (lv_at hl 0 rfl) ?_
          refine lv_iload_n hx hb dX9_comes_153 rfl (lv_at hl 3 rfl) ?_
          refine va_iast hx hb hK hP hD hS 23 22 rfl rfl (vp_in_nI (n := (120 + m42_1)) (by omega) (Nat.le_of_ble_eq_true rfl)) dX9_comes_154 (fun H locs hP hD hS => ?_)
          obtain ⟨q_21, eq_21, kq_21⟩ := bN_up 7 q38 (((nI (120 + m42_1)) : Int32).toNatClampNeg) (v := a1) ha1
          have hP : va_P (dC, dI) vwCl (mo_w ad ck x0 (nI x16) (nI x18) (nI x19) x20 (nI x21) (nI x22) x23 x24 x25 (nI x26) x27 (nI x28) (nI x29) (nI x30) (nI x33) x45 (nI x46) (nI x52) (nI x53) (nI x61) (nI x62) (nI x63) (nI x65) x66 f1 f2 f3 (bN 3 q4) (bN 7 q5) (bN 7 q6) (bN 4 q7) f8 (bN 2 q9) (bH q10) f11 (b2 m12_0 m12_1) (b2 m13_0 m13_1) (b2 m14_0 m14_1) (b2m m15_0 m15_1) f17 (bA 159 q31) f32 z34_20 z35_6 f36 f37 (bN 7 q_21) f39 f40 f41 (b2 m42_0 m42_1) f43 f44 f47 f48 f49 f50 f51 (bN 13 q54) (bN 120 q55) (bN 120 q56) f57 (bN 120 q58) f59 f60 f64) H := by rw [← eq_21]; exact hP
          have hD : va_D A (mo_w ad ck x0 (nI x16) (nI x18) (nI x19) x20 (nI x21) (nI x22) x23 x24 x25 (nI x26) x27 (nI x28) (nI x29) (nI x30) (nI x33) x45 (nI x46) (nI x52) (nI x53) (nI x61) (nI x62) (nI x63) (nI x65) x66 f1 f2 f3 (bN 3 q4) (bN 7 q5) (bN 7 q6) (bN 4 q7) f8 (bN 2 q9) (bH q10) f11 (b2 m12_0 m12_1) (b2 m13_0 m13_1) (b2 m14_0 m14_1) (b2m m15_0 m15_1) f17 (bA 159 q31) f32 z34_20 z35_6 f36 f37 (bN 7 q_21) f39 f40 f41 (b2 m42_0 m42_1) f43 f44 f47 f48 f49 f50 f51 (bN 13 q54) (bN 120 q55) (bN 120 q56) f57 (bN 120 q58) f59 f60 f64) := by rw [← eq_21]; exact hD
          refine lv_aload_n hx hb dX9_comes_155 rfl (lv_at hl 1 rfl) ?_
          refine va_get (D := (dC, dI)) (ci := 9) (v := .ref (ad 39)) (C := RX9) (T := TX9) (N := 67) hx hb hts hiX9 hown hK hP 0 rfl rfl 39 (by decide) v_25 (fun _ h9 => h9) rfl dX9_comes_156 ?_
          refine lv_iload hx hb dX9_comes_159 (lv_at hl 0 rfl) ?_
          refine lv_iload_n hx hb dX9_comes_161 rfl (lv_at hl 4 rfl) ?_
          refine va_iast hx hb hK hP hD hS 24 23 rfl rfl (vp_in_nI (n := (120 + m42_1)) (by omega) (Nat.le_of_ble_eq_true rfl)) dX9_comes_162 (fun H locs hP hD hS => ?_)
          have hP : va_P (dC, dI) vwCl (mo_w ad ck x0 (nI x16) (nI x18) (nI x19) x20 (nI x21) (nI x22) x23 x24 x25 (nI x26) x27 (nI x28) (nI x29) (nI x30) (nI x33) x45 (nI x46) (nI x52) (nI x53) (nI x61) (nI x62) (nI x63) (nI x65) x66 f1 f2 f3 (bN 3 q4) (bN 7 q5) (bN 7 q6) (bN 4 q7) f8 (bN 2 q9) (bH q10) f11 (b2 m12_0 m12_1) (b2 m13_0 m13_1) (b2 m14_0 m14_1) (b2m m15_0 m15_1) f17 (bA 159 q31) f32 z34_20 z35_6 f36 f37 (bN 7 q_21) (upd f39 ((nI (120 + m42_1)) : Int32).toNatClampNeg (nI a2)) f40 f41 (b2 m42_0 m42_1) f43 f44 f47 f48 f49 f50 f51 (bN 13 q54) (bN 120 q55) (bN 120 q56) f57 (bN 120 q58) f59 f60 f64) H := hP
          have hD : va_D A (mo_w ad ck x0 (nI x16) (nI x18) (nI x19) x20 (nI x21) (nI x22) x23 x24 x25 (nI x26) x27 (nI x28) (nI x29) (nI x30) (nI x33) x45 (nI x46) (nI x52) (nI x53) (nI x61) (nI x62) (nI x63) (nI x65) x66 f1 f2 f3 (bN 3 q4) (bN 7 q5) (bN 7 q6) (bN 4 q7) f8 (bN 2 q9) (bH q10) f11 (b2 m12_0 m12_1) (b2 m13_0 m13_1) (b2 m14_0 m14_1) (b2m m15_0 m15_1) f17 (bA 159 q31) f32 z34_20 z35_6 f36 f37 (bN 7 q_21) (upd f39 ((nI (120 + m42_1)) : Int32).toNatClampNeg (nI a2)) f40 f41 (b2 m42_0 m42_1) f43 f44 f47 f48 f49 f50 f51 (bN 13 q54) (bN 120 q55) (bN 120 q56) f57 (bN 120 q58) f59 f60 f64) := hD
          refine lv_aload_n hx hb dX9_comes_163 rfl (lv_at hl 1 rfl) ?_
          refine va_get (D := (dC, dI)) (ci := 9) (v := .ref (ad 40)) (C := RX9) (T := TX9) (N := 67) hx hb hts hiX9 hown hK hP 0 rfl rfl 40 (by decide) v_26 (fun _ h9 => h9) rfl dX9_comes_164 ?_
          refine lv_iload hx hb dX9_comes_167 (lv_at hl 0 rfl) ?_
          refine lv_iload hx hb dX9_comes_169 (lv_at hl 5 rfl) ?_
          refine va_iast hx hb hK hP hD hS 25 24 rfl rfl (vp_in_nI (n := (120 + m42_1)) (by omega) (Nat.le_of_ble_eq_true rfl)) dX9_comes_171 (fun H locs hP hD hS => ?_)
          have hP : va_P (dC, dI) vwCl (mo_w ad ck x0 (nI x16) (nI x18) (nI x19) x20 (nI x21) (nI x22) x23 x24 x25 (nI x26) x27 (nI x28) (nI x29) (nI x30) (nI x33) x45 (nI x46) (nI x52) (nI x53) (nI x61) (nI x62) (nI x63) (nI x65) x66 f1 f2 f3 (bN 3 q4) (bN 7 q5) (bN 7 q6) (bN 4 q7) f8 (bN 2 q9) (bH q10) f11 (b2 m12_0 m12_1) (b2 m13_0 m13_1) (b2 m14_0 m14_1) (b2m m15_0 m15_1) f17 (bA 159 q31) f32 z34_20 z35_6 f36 f37 (bN 7 q_21) (upd f39 ((nI (120 + m42_1)) : Int32).toNatClampNeg (nI a2)) (upd f40 ((nI (120 + m42_1)) : Int32).toNatClampNeg (nI a3)) f41 (b2 m42_0 m42_1) f43 f44 f47 f48 f49 f50 f51 (bN 13 q54) (bN 120 q55) (bN 120 q56) f57 (bN 120 q58) f59 f60 f64) H := hP
          have hD : va_D A (mo_w ad ck x0 (nI x16) (nI x18) (nI x19) x20 (nI x21) (nI x22) x23 x24 x25 (nI x26) x27 (nI x28) (nI x29) (nI x30) (nI x33) x45 (nI x46) (nI x52) (nI x53) (nI x61) (nI x62) (nI x63) (nI x65) x66 f1 f2 f3 (bN 3 q4) (bN 7 q5) (bN 7 q6) (bN 4 q7) f8 (bN 2 q9) (bH q10) f11 (b2 m12_0 m12_1) (b2 m13_0 m13_1) (b2 m14_0 m14_1) (b2m m15_0 m15_1) f17 (bA 159 q31) f32 z34_20 z35_6 f36 f37 (bN 7 q_21) (upd f39 ((nI (120 + m42_1)) : Int32).toNatClampNeg (nI a2)) (upd f40 ((nI (120 + m42_1)) : Int32).toNatClampNeg (nI a3)) f41 (b2 m42_0 m42_1) f43 f44 f47 f48 f49 f50 f51 (bN 13 q54) (bN 120 q55) (bN 120 q56) f57 (bN 120 q58) f59 f60 f64) := hD
          refine lv_aload_n hx hb dX9_comes_172 rfl (lv_at hl 1 rfl) ?_
          refine va_get (D := (dC, dI)) (ci := 9) (v := .ref (ad 41)) (C := RX9) (T := TX9) (N := 67) hx hb hts hiX9 hown hK hP 0 rfl rfl 41 (by decide) v_27 (fun _ h9 => h9) rfl dX9_comes_173 ?_
          refine lv_iload hx hb dX9_comes_176 (lv_at hl 0 rfl) ?_
          refine lv_iload_n hx hb dX9_comes_178 rfl (lv_at hl 4 rfl) ?_
          refine lv_iconst (v := (-1)) hx hb dX9_comes_179 (by decide) ?_
          refine lv_icmp_ne (tgt := 187) hx hb dX9_comes_180 (by decide) (fun _ => ?_) (fun z => absurd z (pu_nneg (n := a2) (by omega) (by decide)))
          refine lv_aload_n hx hb dX9_comes_187 rfl (lv_at hl 1 rfl) ?_
          refine va_get (D := (dC, dI)) (ci := 9) (v := .ref (ad 41)) (C := RX9) (T := TX9) (N := 67) hx hb hts hiX9 hown hK hP 0 rfl rfl 41 (by decide) v_27 (fun _ h9 => h9) rfl dX9_comes_188 ?_
          refine lv_iload_n hx hb dX9_comes_191 rfl (lv_at hl 2 rfl) ?_
          refine lv_iload_n hx hb dX9_comes_192 rfl (lv_at hl 4 rfl) ?_
          refine va_calli (va_runS (As := [.int 1, .int (nI a2)]) (rest := [.ref (ad 41), .int (nI (120 + m42_1)), .ref (ad 41)]) ⟨hx, hb, hml, hown, hts⟩ (c_M_spotOf_1 l dC dI _ ad ck x0 x16 x18 x19 x20 x21 x22 x23 x24 x25 x26 x27 x28 x29 x30 x33 x45 x46 x52 x53 x61 x62 x63 x65 x66 f1 f2 f3 q4 q5 q6 q7 f8 q9 q10 f11 m12_0 m12_1 m13_0 m13_1 m14_0 m14_1 m15_0 m15_1 f17 q31 f32 z34_20 z35_6 f36 f37 q_21 (upd f39 ((nI (120 + m42_1)) : Int32).toNatClampNeg (nI a2)) (upd f40 ((nI (120 + m42_1)) : Int32).toNatClampNeg (nI a3)) f41 m42_0 m42_1 f43 f44 f47 f48 f49 f50 f51 q54 q55 q56 f57 q58 f59 f60 f64 a2 hx16 hx18 hx19 hx21 hx22 hx26 hx28 hx29 hx30 hx33 hx46 hx52 hx53 hx61 hx62 hx63 hx65 hm12_0 hm12_1 hm13_0 hm13_1 hm14_0 hm14_1 hm15_0 hm15_1 hm42_0 (Nat.le_trans hm42_1 (Nat.le_of_ble_eq_true rfl)) (Nat.le_trans ha2 (Nat.le_of_ble_eq_true rfl))) (va_cwS 2 hts g_M_comes_1_120_1_M_spotOf_1 rfl rfl rfl (by decide +kernel) ⟨Nat.le_of_ble_eq_true rfl, Nat.le_of_ble_eq_true rfl⟩) ⟨pu_bl, pu_in hP hK hD⟩ rfl rfl hl.1 rfl (lv_room (Nat.le_of_ble_eq_true rfl)) dX9_comes_193 ⟨Nat.le_of_ble_eq_true rfl, Nat.le_of_ble_eq_true rfl⟩) hS (fun q _ h => pu_fr hS hA q h) (pu_fr hS hA) (fun r_22 u t H1 locs ht hvm hw hB hz1 hk1 hS => ?_)
          have hP := pu_keep hP hk1
          clear hk1 hz1 ht hvm
          generalize H1 = H at hP hS ⊢
          obtain rfl : r_22 = nI (120 + a2) := hw
          refine va_iald hx hb hK hP 26 25 rfl rfl (vp_in_nI (n := (120 + a2)) (by omega) (Nat.le_of_ble_eq_true rfl)) dX9_comes_196 ?_
          refine lv_topi (fun y_23 ey_23 => ?_)
          refine lv_iconst (v := 1) hx hb dX9_comes_197 (by decide) ?_
          refine lv_iadd hx hb dX9_comes_198 ?_
          refine lv_topi (fun y_24 ey_24 => ?_)
          refine va_iast hx hb hK hP hD hS 26 25 rfl rfl (vp_in_nI (n := (120 + m42_1)) (by omega) (Nat.le_of_ble_eq_true rfl)) dX9_comes_199 (fun H locs hP hD hS => ?_)
          have hP : va_P (dC, dI) vwCl (mo_w ad ck x0 (nI x16) (nI x18) (nI x19) x20 (nI x21) (nI x22) x23 x24 x25 (nI x26) x27 (nI x28) (nI x29) (nI x30) (nI x33) x45 (nI x46) (nI x52) (nI x53) (nI x61) (nI x62) (nI x63) (nI x65) x66 f1 f2 f3 (bN 3 q4) (bN 7 q5) (bN 7 q6) (bN 4 q7) f8 (bN 2 q9) (bH q10) f11 (b2 m12_0 m12_1) (b2 m13_0 m13_1) (b2 m14_0 m14_1) (b2m m15_0 m15_1) f17 (bA 159 q31) f32 z34_20 z35_6 f36 f37 (bN 7 q_21) (upd f39 ((nI (120 + m42_1)) : Int32).toNatClampNeg (nI a2)) (upd f40 ((nI (120 + m42_1)) : Int32).toNatClampNeg (nI a3)) (upd f41 ((nI (120 + m42_1)) : Int32).toNatClampNeg y_24) (b2 m42_0 m42_1) f43 f44 f47 f48 f49 f50 f51 (bN 13 q54) (bN 120 q55) (bN 120 q56) f57 (bN 120 q58) f59 f60 f64) H := hP
          have hD : va_D A (mo_w ad ck x0 (nI x16) (nI x18) (nI x19) x20 (nI x21) (nI x22) x23 x24 x25 (nI x26) x27 (nI x28) (nI x29) (nI x30) (nI x33) x45 (nI x46) (nI x52) (nI x53) (nI x61) (nI x62) (nI x63) (nI x65) x66 f1 f2 f3 (bN 3 q4) (bN 7 q5) (bN 7 q6) (bN 4 q7) f8 (bN 2 q9) (bH q10) f11 (b2 m12_0 m12_1) (b2 m13_0 m13_1) (b2 m14_0 m14_1) (b2m m15_0 m15_1) f17 (bA 159 q31) f32 z34_20 z35_6 f36 f37 (bN 7 q_21) (upd f39 ((nI (120 + m42_1)) : Int32).toNatClampNeg (nI a2)) (upd f40 ((nI (120 + m42_1)) : Int32).toNatClampNeg (nI a3)) (upd f41 ((nI (120 + m42_1)) : Int32).toNatClampNeg y_24) (b2 m42_0 m42_1) f43 f44 f47 f48 f49 f50 f51 (bN 13 q54) (bN 120 q55) (bN 120 q56) f57 (bN 120 q58) f59 f60 f64) := hD
          refine lv_aload_n hx hb dX9_comes_200 rfl (lv_at hl 1 rfl) ?_
          refine va_get (D := (dC, dI)) (ci := 9) (v := .ref (ad 42)) (C := RX9) (T := TX9) (N := 67) hx hb hts hiX9 hown hK hP 0 rfl rfl 42 (by decide) v_15 (fun _ h9 => h9) rfl dX9_comes_201 ?_
          refine lv_iload_n hx hb dX9_comes_204 rfl (lv_at hl 2 rfl) ?_
          refine lv_dup2_11 hx hb dX9_comes_205 rfl rfl ?_
          refine va_iald hx hb hK hP 27 26 rfl rfl (vp_in_nI (n := 1) (Nat.le_of_ble_eq_true rfl) (Nat.le_of_ble_eq_true rfl)) dX9_comes_206 ?_
          refine lv_topi (fun y_25 ey_25 => ?_)
          have qy_25 := ey_25.trans b2_1
          clear ey_25
          obtain rfl : y_25 = nI m42_1 := qy_25
          refine lv_iconst (v := 1) hx hb dX9_comes_207 (by decide) ?_
          refine lv_iadd hx hb dX9_comes_208 ?_
          refine lv_topi (fun y_26 ey_26 => ?_)
          obtain rfl : y_26 = (nI (m42_1 + 1)) := ey_26.trans (nI_add m42_1 1)
          refine va_iast hx hb hK hP hD hS 27 26 rfl rfl (vp_in_nI (n := 1) (Nat.le_of_ble_eq_true rfl) (Nat.le_of_ble_eq_true rfl)) dX9_comes_209 (fun H locs hP hD hS => ?_)
          have hP : va_P (dC, dI) vwCl (mo_w ad ck x0 (nI x16) (nI x18) (nI x19) x20 (nI x21) (nI x22) x23 x24 x25 (nI x26) x27 (nI x28) (nI x29) (nI x30) (nI x33) x45 (nI x46) (nI x52) (nI x53) (nI x61) (nI x62) (nI x63) (nI x65) x66 f1 f2 f3 (bN 3 q4) (bN 7 q5) (bN 7 q6) (bN 4 q7) f8 (bN 2 q9) (bH q10) f11 (b2 m12_0 m12_1) (b2 m13_0 m13_1) (b2 m14_0 m14_1) (b2m m15_0 m15_1) f17 (bA 159 q31) f32 z34_20 z35_6 f36 f37 (bN 7 q_21) (upd f39 ((nI (120 + m42_1)) : Int32).toNatClampNeg (nI a2)) (upd f40 ((nI (120 + m42_1)) : Int32).toNatClampNeg (nI a3)) (upd f41 ((nI (120 + m42_1)) : Int32).toNatClampNeg y_24) (b2 m42_0 (m42_1 + 1)) f43 f44 f47 f48 f49 f50 f51 (bN 13 q54) (bN 120 q55) (bN 120 q56) f57 (bN 120 q58) f59 f60 f64) H := by rw [← b2_up1 (a := m42_0) (b := m42_1) (v := (m42_1 + 1))]; exact hP
          have hD : va_D A (mo_w ad ck x0 (nI x16) (nI x18) (nI x19) x20 (nI x21) (nI x22) x23 x24 x25 (nI x26) x27 (nI x28) (nI x29) (nI x30) (nI x33) x45 (nI x46) (nI x52) (nI x53) (nI x61) (nI x62) (nI x63) (nI x65) x66 f1 f2 f3 (bN 3 q4) (bN 7 q5) (bN 7 q6) (bN 4 q7) f8 (bN 2 q9) (bH q10) f11 (b2 m12_0 m12_1) (b2 m13_0 m13_1) (b2 m14_0 m14_1) (b2m m15_0 m15_1) f17 (bA 159 q31) f32 z34_20 z35_6 f36 f37 (bN 7 q_21) (upd f39 ((nI (120 + m42_1)) : Int32).toNatClampNeg (nI a2)) (upd f40 ((nI (120 + m42_1)) : Int32).toNatClampNeg (nI a3)) (upd f41 ((nI (120 + m42_1)) : Int32).toNatClampNeg y_24) (b2 m42_0 (m42_1 + 1)) f43 f44 f47 f48 f49 f50 f51 (bN 13 q54) (bN 120 q55) (bN 120 q56) f57 (bN 120 q58) f59 f60 f64) := by rw [← b2_up1 (a := m42_0) (b := m42_1) (v := (m42_1 + 1))]; exact hD
          exact W.vret hx hb hr (fun t ht hW => ⟨⟨(), rfl, trivial, ⟨z34_20, z35_6, q_21, (upd f39 ((nI (120 + m42_1)) : Int32).toNatClampNeg (nI a2)), (upd f40 ((nI (120 + m42_1)) : Int32).toNatClampNeg (nI a3)), (upd f41 ((nI (120 + m42_1)) : Int32).toNatClampNeg y_24), f44, (m42_1 + 1), ⟨by rw [ht]; exact hP, va_K.moved hW.alike hK, hD⟩, (by omega), gz_farN hgr (by omega) (by omega), by omega⟩⟩, hS.F ht⟩) hS.2.2 dX9_comes_210
        · refine lv_aload_n hx hb dX9_comes_110 rfl (lv_at hl 0 rfl) ?_
          refine va_get (D := (dC, dI)) (ci := 9) (v := .ref (ad 44)) (C := RX9) (T := TX9) (N := 67) hx hb hts hiX9 hown hK hP 0 rfl rfl 44 (by decide) v_16 (fun _ h9 => h9) rfl dX9_comes_111 ?_
          refine lv_iload_n hx hb dX9_comes_114 rfl (lv_at hl 1 rfl) ?_
          refine lv_iconst (v := 1) hx hb dX9_comes_115 (by decide) ?_
          refine va_zast hx hb hK hP hD hS 29 28 rfl rfl (vp_in_nI (n := 1) (Nat.le_of_ble_eq_true rfl) (Nat.le_of_ble_eq_true rfl)) dX9_comes_116 (fun H locs hP hD hS => ?_)
          have hP : va_P (dC, dI) vwCl (mo_w ad ck x0 (nI x16) (nI x18) (nI x19) x20 (nI x21) (nI x22) x23 x24 x25 (nI x26) x27 (nI x28) (nI x29) (nI x30) (nI x33) x45 (nI x46) (nI x52) (nI x53) (nI x61) (nI x62) (nI x63) (nI x65) x66 f1 f2 f3 (bN 3 q4) (bN 7 q5) (bN 7 q6) (bN 4 q7) f8 (bN 2 q9) (bH q10) f11 (b2 m12_0 m12_1) (b2 m13_0 m13_1) (b2 m14_0 m14_1) (b2m m15_0 m15_1) f17 (bA 159 q31) f32 f34 z35_6 f36 f37 (bN 7 q38) f39 f40 f41 (b2 m42_0 m42_1) f43 (upd f44 (1 : Int32).toNatClampNeg (vp_nar .boolean 1)) f47 f48 f49 f50 f51 (bN 13 q54) (bN 120 q55) (bN 120 q56) f57 (bN 120 q58) f59 f60 f64) H := hP
          have hD : va_D A (mo_w ad ck x0 (nI x16) (nI x18) (nI x19) x20 (nI x21) (nI x22) x23 x24 x25 (nI x26) x27 (nI x28) (nI x29) (nI x30) (nI x33) x45 (nI x46) (nI x52) (nI x53) (nI x61) (nI x62) (nI x63) (nI x65) x66 f1 f2 f3 (bN 3 q4) (bN 7 q5) (bN 7 q6) (bN 4 q7) f8 (bN 2 q9) (bH q10) f11 (b2 m12_0 m12_1) (b2 m13_0 m13_1) (b2 m14_0 m14_1) (b2m m15_0 m15_1) f17 (bA 159 q31) f32 f34 z35_6 f36 f37 (bN 7 q38) f39 f40 f41 (b2 m42_0 m42_1) f43 (upd f44 (1 : Int32).toNatClampNeg (vp_nar .boolean 1)) f47 f48 f49 f50 f51 (bN 13 q54) (bN 120 q55) (bN 120 q56) f57 (bN 120 q58) f59 f60 f64) := hD
          exact W.vret hx hb hr (fun t ht hW => ⟨⟨(), rfl, trivial, ⟨f34, z35_6, q38, f39, f40, f41, (upd f44 (1 : Int32).toNatClampNeg (vp_nar .boolean 1)), m42_1, ⟨by rw [ht]; exact hP, va_K.moved hW.alike hK, hD⟩, hm42_1, hgr, by omega⟩⟩, hS.F ht⟩) hS.2.2 dX9_comes_117
    · have c_11 : ¬ m42_1 ≤ g_8 := fun z => c_11 ((nI_leI (a := m42_1) (b := g_8) (Nat.lt_of_le_of_lt hm42_1 (Nat.le_of_ble_eq_true rfl)) (Nat.lt_of_le_of_lt hg_8 (Nat.le_of_ble_eq_true rfl))).mpr z)
      refine lv_iload_n hx hb dX9_comes_41 rfl (lv_at hl 1 rfl) ?_
      refine lv_iload hx hb dX9_comes_42 (lv_at hl 8 rfl) ?_
      refine va_calli (va_runS (As := [.int 1, .int (nI g_8)]) (rest := []) ⟨hx, hb, hml, hown, hts⟩ (c_M_spotOf_1 l dC dI _ ad ck x0 x16 x18 x19 x20 x21 x22 x23 x24 x25 x26 x27 x28 x29 x30 x33 x45 x46 x52 x53 x61 x62 x63 x65 x66 f1 f2 f3 q4 q5 q6 q7 f8 q9 q10 f11 m12_0 m12_1 m13_0 m13_1 m14_0 m14_1 m15_0 m15_1 f17 q31 f32 f34 z35_6 f36 f37 q38 f39 f40 f41 m42_0 m42_1 f43 f44 f47 f48 f49 f50 f51 q54 q55 q56 f57 q58 f59 f60 f64 g_8 hx16 hx18 hx19 hx21 hx22 hx26 hx28 hx29 hx30 hx33 hx46 hx52 hx53 hx61 hx62 hx63 hx65 hm12_0 hm12_1 hm13_0 hm13_1 hm14_0 hm14_1 hm15_0 hm15_1 hm42_0 (Nat.le_trans hm42_1 (Nat.le_of_ble_eq_true rfl)) (Nat.le_trans hg_8 (Nat.le_of_ble_eq_true rfl))) (va_cwS 2 hts g_M_comes_1_120_1_M_spotOf_1 rfl rfl rfl (by decide +kernel) ⟨Nat.le_of_ble_eq_true rfl, Nat.le_of_ble_eq_true rfl⟩) ⟨pu_bl, pu_in hP hK hD⟩ rfl rfl hl.1 rfl (lv_room (Nat.le_of_ble_eq_true rfl)) dX9_comes_44 ⟨Nat.le_of_ble_eq_true rfl, Nat.le_of_ble_eq_true rfl⟩) hS (fun q _ h => pu_fr hS hA q h) (pu_fr hS hA) (fun r_27 u t H1 locs ht hvm hw hB hz1 hk1 hS => ?_)
      have hP := pu_keep hP hk1
      clear hk1 hz1 ht hvm
      generalize H1 = H at hP hS ⊢
      obtain rfl : r_27 = nI (120 + g_8) := hw
      refine lv_istore (lv' := [(9, .int (nI (120 + g_8))), (0, .ref (ad 0)), (1, .int 1), (2, .int (nI a1)), (3, .int (nI a2)), (4, .int (nI a3)), (5, .int p4), (6, .int (nI a5)), (7, .int 120), (8, .int (nI g_8))]) hx hb dX9_comes_47 hl (by decide) rfl (fun ls hl => ?_)
      refine lv_aload_n hx hb dX9_comes_49 rfl (lv_at hl 1 rfl) ?_
      refine va_get (D := (dC, dI)) (ci := 9) (v := .ref (ad 38)) (C := RX9) (T := TX9) (N := 67) hx hb hts hiX9 hown hK hP 0 rfl rfl 38 (by decide) v_24 (fun _ h9 => h9) rfl dX9_comes_50 ?_
      refine lv_iload hx hb dX9_comes_53 (lv_at hl 0 rfl) ?_
      refine va_iald hx hb hK hP 23 22 rfl rfl (vp_in_nI (n := (120 + g_8)) (by omega) (Nat.le_of_ble_eq_true rfl)) dX9_comes_55 ?_
      refine lv_topi (fun y_28 ey_28 => ?_)
      obtain ⟨u_29, hu_29, qu_29⟩ := bN_get 7 q38 (((nI (120 + g_8)) : Int32).toNatClampNeg)
      obtain rfl : y_28 = nI u_29 := ey_28.trans qu_29
      refine lv_iload_n hx hb dX9_comes_56 rfl (lv_at hl 3 rfl) ?_
      refine lv_icmp_ne (tgt := 84) hx hb dX9_comes_57 (by decide) (fun c_30 => ?_) (fun c_30 => ?_)
      · have c_30 : ¬ u_29 = a1 := fun z => c_30 ((nI_eq (a := u_29) (b := a1) (Nat.lt_of_le_of_lt hu_29 (Nat.le_of_ble_eq_true rfl)) (Nat.lt_of_le_of_lt ha1 (Nat.le_of_ble_eq_true rfl))).mpr z)
        refine lv_iinc (v := (nI (g_8 + 1))) (lv' := [(8, .int (nI (g_8 + 1))), (9, .int (nI (120 + g_8))), (0, .ref (ad 0)), (1, .int 1), (2, .int (nI a1)), (3, .int (nI a2)), (4, .int (nI a3)), (5, .int p4), (6, .int (nI a5)), (7, .int 120)]) hx hb dX9_comes_84 hl (k := 9) rfl (nI_1 _) (by decide) rfl (fun ls hl => ?_)
        refine lv_goto (tgt := 30) hx hb dX9_comes_87 (by decide) ?_
        exact ih_9 (120 - (g_8 + 1)) (by omega) _ _ _ ⟨(g_8 + 1), rfl, (by omega), hP, hD, hS, lv_sub hl [2, 3, 4, 5, 6, 7, 8, 9, 0] rfl⟩
      · have c_30 : u_29 = a1 := (nI_eq (a := u_29) (b := a1) (Nat.lt_of_le_of_lt hu_29 (Nat.le_of_ble_eq_true rfl)) (Nat.lt_of_le_of_lt ha1 (Nat.le_of_ble_eq_true rfl))).mp c_30
        refine lv_aload_n hx hb dX9_comes_60 rfl (lv_at hl 1 rfl) ?_
        refine lv_iload hx hb dX9_comes_61 (lv_at hl 0 rfl) ?_
        refine lv_aload_n hx hb dX9_comes_63 rfl (lv_at hl 1 rfl) ?_
        refine va_get (D := (dC, dI)) (ci := 9) (v := .ref (ad 35)) (C := RX9) (T := TX9) (N := 67) hx hb hts hiX9 hown hK hP 0 rfl rfl 35 (by decide) v_6 (fun _ h9 => h9) rfl dX9_comes_64 ?_
        refine lv_iload hx hb dX9_comes_67 (lv_at hl 7 rfl) ?_
        refine pu_join (fun H locs ls st => ∃ (g_31 : Nat), st = [.int (nI g_31), .ref (ad 35), .int (nI (120 + g_8)), .ref (ad 0)] ∧ g_31 ≤ 1 ∧ va_P (dC, dI) vwCl (mo_w ad ck x0 (nI x16) (nI x18) (nI x19) x20 (nI x21) (nI x22) x23 x24 x25 (nI x26) x27 (nI x28) (nI x29) (nI x30) (nI x33) x45 (nI x46) (nI x52) (nI x53) (nI x61) (nI x62) (nI x63) (nI x65) x66 f1 f2 f3 (bN 3 q4) (bN 7 q5) (bN 7 q6) (bN 4 q7) f8 (bN 2 q9) (bH q10) f11 (b2 m12_0 m12_1) (b2 m13_0 m13_1) (b2 m14_0 m14_1) (b2m m15_0 m15_1) f17 (bA 159 q31) f32 f34 z35_6 f36 f37 (bN 7 q38) f39 f40 f41 (b2 m42_0 m42_1) f43 f44 f47 f48 f49 f50 f51 (bN 13 q54) (bN 120 q55) (bN 120 q56) f57 (bN 120 q58) f59 f60 f64) H ∧ va_D A (mo_w ad ck x0 (nI x16) (nI x18) (nI x19) x20 (nI x21) (nI x22) x23 x24 x25 (nI x26) x27 (nI x28) (nI x29) (nI x30) (nI x33) x45 (nI x46) (nI x52) (nI x53) (nI x61) (nI x62) (nI x63) (nI x65) x66 f1 f2 f3 (bN 3 q4) (bN 7 q5) (bN 7 q6) (bN 4 q7) f8 (bN 2 q9) (bH q10) f11 (b2 m12_0 m12_1) (b2 m13_0 m13_1) (b2 m14_0 m14_1) (b2m m15_0 m15_1) f17 (bA 159 q31) f32 f34 z35_6 f36 f37 (bN 7 q38) f39 f40 f41 (b2 m42_0 m42_1) f43 f44 f47 f48 f49 f50 f51 (bN 13 q54) (bN 120 q55) (bN 120 q56) f57 (bN 120 q58) f59 f60 f64) ∧ va_S A s.heap H locs ∧ lv_has ls 10 [(0, .ref (ad 0)), (1, .int 1), (2, .int (nI a1)), (3, .int (nI a2)), (4, .int (nI a3)), (5, .int p4), (6, .int (nI a5)), (7, .int 120), (8, .int (nI g_8)), (9, .int (nI (120 + g_8)))]) 77 ?_ (fun j_32 => ?_)
        · rintro H locs ls st ⟨g_31, rfl, hg_31, hP, hD, hS, hl⟩
          refine va_calli (va_runV (As := [.int (nI (120 + g_8)), .ref (ad 35), .int (nI g_31)]) (rest := []) ⟨hx, hb, hml, hown, hts⟩ (c_M_hasAll l dC dI _ ad ck x0 x16 x18 x19 x20 x21 x22 x23 x24 x25 x26 x27 x28 x29 x30 x33 x45 x46 x52 x53 x61 x62 x63 x65 x66 f1 f2 f3 q4 q5 q6 q7 f8 q9 q10 f11 m12_0 m12_1 m13_0 m13_1 m14_0 m14_1 m15_0 m15_1 f17 q31 f32 f34 z35_6 f36 f37 q38 f39 f40 f41 m42_0 m42_1 f43 f44 f47 f48 f49 f50 f51 q54 q55 q56 f57 q58 f59 f60 f64 (120 + g_8) g_31 hx16 hx18 hx19 hx21 hx22 hx26 hx28 hx29 hx30 hx33 hx46 hx52 hx53 hx61 hx62 hx63 hx65 hm12_0 hm12_1 hm13_0 hm13_1 hm14_0 hm14_1 hm15_0 hm15_1 hm42_0 (Nat.le_trans hm42_1 (Nat.le_of_ble_eq_true rfl)) (by omega) hg_31) (cwV 3 hts g_M_comes_1_120_1_M_hasAll rfl rfl rfl (by decide +kernel) ⟨Nat.le_of_ble_eq_true rfl, Nat.le_of_ble_eq_true rfl⟩) ⟨pu_bl, va_recv hK hP (ci := 9) (q0 := 0) rfl rfl, pu_in hP hK hD⟩ rfl rfl hl.1 rfl (lv_room (Nat.le_of_ble_eq_true rfl)) dX9_comes_77 ⟨Nat.le_of_ble_eq_true rfl, Nat.le_of_ble_eq_true rfl⟩) hS (fun q _ h => pu_fr hS hA q h) (pu_fr hS hA) (fun r_33 u t H1 locs ht hvm hw hB hz1 hk1 hS => ?_)
          have hP := pu_keep hP hk1
          clear hk1 hz1 ht hvm
          generalize H1 = H at hP hS ⊢
          obtain ⟨u_34, hu_34, rfl⟩ := hw
          refine lv_if_eq (tgt := 84) hx hb dX9_comes_80 (by decide) (fun c_35 => ?_) (fun c_35 => ?_)
          · have c_35 : u_34 = 0 := (nI_eq (a := u_34) (b := 0) (Nat.lt_of_le_of_lt hu_34 (Nat.le_of_ble_eq_true rfl)) (Nat.le_of_ble_eq_true rfl)).mp c_35
            refine lv_iinc (v := (nI (g_8 + 1))) (lv' := [(8, .int (nI (g_8 + 1))), (0, .ref (ad 0)), (1, .int 1), (2, .int (nI a1)), (3, .int (nI a2)), (4, .int (nI a3)), (5, .int p4), (6, .int (nI a5)), (7, .int 120), (9, .int (nI (120 + g_8)))]) hx hb dX9_comes_84 hl (k := 8) rfl (nI_1 _) (by decide) rfl (fun ls hl => ?_)
            refine lv_goto (tgt := 30) hx hb dX9_comes_87 (by decide) ?_
            exact ih_9 (120 - (g_8 + 1)) (by omega) _ _ _ ⟨(g_8 + 1), rfl, (by omega), hP, hD, hS, lv_sub hl [1, 2, 3, 4, 5, 6, 7, 8, 0] rfl⟩
          · have c_35 : ¬ u_34 = 0 := fun z => c_35 ((nI_eq (a := u_34) (b := 0) (Nat.lt_of_le_of_lt hu_34 (Nat.le_of_ble_eq_true rfl)) (Nat.le_of_ble_eq_true rfl)).mpr z)
            exact W.vret hx hb hr (fun t ht hW => ⟨⟨(), rfl, trivial, ⟨f34, z35_6, q38, f39, f40, f41, f44, m42_1, ⟨by rw [ht]; exact hP, va_K.moved hW.alike hK, hD⟩, hm42_1, hgr, by omega⟩⟩, hS.F ht⟩) hS.2.2 dX9_comes_83
        refine lv_if_ne (tgt := 76) hx hb dX9_comes_69 (by decide) (fun c_36 => ?_) (fun c_36 => ?_)
        · have c_36 : ¬ a5 = 0 := fun z => c_36 ((nI_eq (a := a5) (b := 0) (Nat.lt_of_le_of_lt ha5 (Nat.le_of_ble_eq_true rfl)) (Nat.le_of_ble_eq_true rfl)).mpr z)
          refine lv_iconst (v := 0) hx hb dX9_comes_76 (by decide) ?_
          exact j_32 _ _ _ _ ⟨0, rfl, (Nat.le_of_ble_eq_true rfl), hP, hD, hS, lv_sub hl [1, 2, 3, 4, 5, 6, 7, 8, 9, 0] rfl⟩
        · have c_36 : a5 = 0 := (nI_eq (a := a5) (b := 0) (Nat.lt_of_le_of_lt ha5 (Nat.le_of_ble_eq_true rfl)) (Nat.le_of_ble_eq_true rfl)).mp c_36
          refine lv_iconst (v := 1) hx hb dX9_comes_72 (by decide) ?_
          refine lv_goto (tgt := 77) hx hb dX9_comes_73 (by decide) ?_
          exact j_32 _ _ _ _ ⟨1, rfl, (Nat.le_of_ble_eq_true rfl), hP, hD, hS, lv_sub hl [1, 2, 3, 4, 5, 6, 7, 8, 9, 0] rfl⟩
  refine lv_if_ne (tgt := 17) hx hb dX9_comes_5 (by decide) (fun c_37 => ?_) (fun c_37 => ?_)
  · have c_37 : ¬ u_2 = 0 := fun z => c_37 ((nI_eq (a := u_2) (b := 0) (Nat.lt_of_le_of_lt hu_2 (Nat.le_of_ble_eq_true rfl)) (Nat.le_of_ble_eq_true rfl)).mpr z)
    exact j_4 _ _ _ _ ⟨f35, rfl, hP, hD, hS, lv_sub hl [0, 1, 2, 3, 4, 5, 6, 7] rfl⟩
  · have c_37 : u_2 = 0 := (nI_eq (a := u_2) (b := 0) (Nat.lt_of_le_of_lt hu_2 (Nat.le_of_ble_eq_true rfl)) (Nat.le_of_ble_eq_true rfl)).mp c_37
    refine lv_aload_n hx hb dX9_comes_8 rfl (lv_at hl 0 rfl) ?_
    refine lv_aload_n hx hb dX9_comes_9 rfl (lv_at hl 0 rfl) ?_
    refine va_get (D := (dC, dI)) (ci := 9) (v := .ref (ad 35)) (C := RX9) (T := TX9) (N := 67) hx hb hts hiX9 hown hK hP 0 rfl rfl 35 (by decide) v_6 (fun _ h9 => h9) rfl dX9_comes_10 ?_
    refine lv_iload_n hx hb dX9_comes_13 rfl (lv_at hl 2 rfl) ?_
    have hFc := pu_free hD hS hA
    refine va_callv (va_runV (As := [.ref (ad 35), .int (nI a1)]) (rest := []) ⟨hx, hb, hml, hown, hts⟩ (c_M_delays l dC dI _ ad ck x0 x16 x18 x19 x20 x21 x22 x23 x24 x25 x26 x27 x28 x29 x30 x33 x45 x46 x52 x53 x61 x62 x63 x65 x66 f1 f2 f3 q4 q5 q6 q7 f8 q9 q10 f11 m12_0 m12_1 m13_0 m13_1 m14_0 m14_1 m15_0 m15_1 f17 q31 f32 f34 f35 f36 f37 q38 f39 f40 f41 m42_0 m42_1 f43 f44 f47 f48 f49 f50 f51 q54 q55 q56 f57 q58 f59 f60 f64 a1 hx16 hx18 hx19 hx21 hx22 hx26 hx28 hx29 hx30 hx33 hx46 hx52 hx53 hx61 hx62 hx63 hx65 hm12_0 hm12_1 hm13_0 hm13_1 hm14_0 hm14_1 hm15_0 hm15_1 hm42_0 (Nat.le_trans hm42_1 (Nat.le_of_ble_eq_true rfl)) ha1) (cwV 2 hts g_M_comes_1_120_1_M_delays rfl rfl rfl (by decide +kernel) ⟨Nat.le_of_ble_eq_true rfl, Nat.le_of_ble_eq_true rfl⟩) ⟨pu_bl, va_recv hK hP (ci := 9) (q0 := 0) rfl rfl, pu_in hP hK hD⟩ rfl rfl hl.1 rfl (lv_room (Nat.le_of_ble_eq_true rfl)) dX9_comes_14 ⟨Nat.le_of_ble_eq_true rfl, Nat.le_of_ble_eq_true rfl⟩) hS (fun q _ h => hFc q h) hFc (fun u t H1 locs ht hvm hw hB hz1 hk1 hS => ?_)
    obtain ⟨z35_39, ⟨hP1, -, hD1⟩⟩ := hB
    rw [ht] at hP1
    have hP := hP1
    have hD := pu_all hFc hD1
    clear hP1 hD1 hFc
    clear hk1 hz1 ht hvm
    generalize H1 = H at hP hS ⊢
    exact j_4 _ _ _ _ ⟨z35_39, rfl, hP, hD, hS, lv_sub hl [0, 1, 2, 3, 4, 5, 6, 7] rfl⟩
abbrev vs_M_explores_1_120 : List Cond := .code yX9_explores cX9_explores 10 none :: VM
theorem g_M_explores_1_120_M_layForgotten : GoodIn vs_M_explores_1_120 (wsV RX9 369 RX9 yX9_layForgotten vs_M_layForgotten) := gm_V vm_260 vm_261 vm_262 vm_12 vm_227
theorem g_M_explores_1_120_M_holdsAll_p : GoodIn vs_M_explores_1_120 (wsV RX9 342 RX9 yX9_holdsAll vs_M_holdsAll_p) := gm_V vm_221 vm_222 vm_223 vm_12 vm_215
theorem g_M_explores_1_120_M_closes_z : GoodIn vs_M_explores_1_120 (wsV RX9 345 RX9 yX9_closes vs_M_closes_z) := gm_V vm_224 vm_225 vm_226 vm_12 vm_208
theorem g_M_explores_1_120_M_comes_1_120_0 : GoodIn vs_M_explores_1_120 (wsV RX9 372 RX9 yX9_comes vs_M_comes_1_120_0) := gm_V vm_263 vm_264 vm_265 vm_12 vm_243
theorem g_M_explores_1_120_M_spotOf_1 : GoodIn vs_M_explores_1_120 (va_wsS RX9 355 yX9_spotOf vs_M_spotOf_1) := gm_S vm_241 vm_242 vm_12 vm_13
theorem g_M_explores_1_120_M_outOf : GoodIn vs_M_explores_1_120 (wsV RX9 289 RX9 yX9_outOf vs_M_outOf) := gm_V vm_66 vm_67 vm_68 vm_12 vm_27
theorem g_M_explores_1_120_M_into : GoodIn vs_M_explores_1_120 (wsV RX9 292 RX9 yX9_into vs_M_into) := gm_V vm_63 vm_64 vm_65 vm_12 vm_29
theorem g_M_explores_1_120_M_copies_nz : GoodIn vs_M_explores_1_120 (va_wsS RX9 362 yX9_copies vs_M_copies_nz) := gm_S vm_250 vm_251 vm_12 vm_8
theorem g_M_explores_1_120_M_goesBy : GoodIn vs_M_explores_1_120 (wsV RX9 376 RX9 yX9_goesBy vs_M_goesBy) := gm_V vm_266 vm_267 vm_268 vm_12 vm_233
theorem g_M_explores_1_120_M_comes_1_120_1 : GoodIn vs_M_explores_1_120 (wsV RX9 372 RX9 yX9_comes vs_M_comes_1_120_1) := gm_V vm_263 vm_264 vm_265 vm_12 vm_243
set_option maxHeartbeats 4000000 in
set_option maxRecDepth 100000 in
theorem c_M_explores_1_120 (l : Launch) (dC : Nat → ClassId) (dI : Nat → Nat → Nat) (sz : Nat) (ad : Nat → Nat) (ck : Nat → ClassId) (x0 : Int32) (x16 : Nat) (x18 : Nat) (x19 : Nat) (x20 : Int32) (x21 : Nat) (x22 : Nat) (x23 : Int32) (x24 : Int32) (x25 : Int32) (x26 : Nat) (x27 : Int32) (x28 : Nat) (x29 : Nat) (x30 : Nat) (x33 : Nat) (x45 : Int32) (x46 : Nat) (x52 : Nat) (x53 : Nat) (x61 : Nat) (x62 : Nat) (x63 : Nat) (x65 : Nat) (x66 : Int32) (f1 : Nat → Int32) (f2 : Nat → Int32) (f3 : Nat → Int32) (q4 : Nat → Nat) (q5 : Nat → Nat) (q6 : Nat → Nat) (q7 : Nat → Nat) (f8 : Nat → Int32) (q9 : Nat → Nat) (q10 : Nat → Nat) (f11 : Nat → Int32) (m12_0 m12_1 : Nat) (m13_0 m13_1 : Nat) (m14_0 m14_1 : Nat) (m15_0 m15_1 : Nat) (f17 : Nat → Int32) (q31 : Nat → Nat) (f32 : Nat → Int32) (f34 : Nat → Int32) (f35 : Nat → Int32) (f36 : Nat → Int32) (f37 : Nat → Int32) (q38 : Nat → Nat) (f39 : Nat → Int32) (f40 : Nat → Int32) (f41 : Nat → Int32) (m42_0 m42_1 : Nat) (f43 : Nat → Int32) (f44 : Nat → Int32) (f47 : Nat → Int32) (f48 : Nat → Int32) (f49 : Nat → Int32) (f50 : Nat → Int32) (f51 : Nat → Int32) (q54 : Nat → Nat) (q55 : Nat → Nat) (q56 : Nat → Nat) (f57 : Nat → Int32) (q58 : Nat → Nat) (f59 : Nat → Int32) (f60 : Nat → Int32) (f64 : Nat → Int32) (a1 : Nat) (p2 : Int32) (a3 : Nat) (p5 : Int32) (hx16 : x16 ≤ 1) (hx18 : x18 ≤ 900) (hx19 : x19 ≤ 900) (hx21 : x21 ≤ 900) (hx22 : x22 ≤ 4) (hx26 : x26 ≤ 6) (hx28 : x28 ≤ 1) (hx29 : x29 ≤ 1) (hx30 : x30 ≤ 1) (hx33 : x33 ≤ 20) (hx46 : x46 ≤ 5) (hx52 : x52 ≤ 2400) (hx53 : x53 ≤ 119) (hx61 : x61 ≤ 119) (hx62 : x62 ≤ 2000) (hx63 : x63 ≤ 1) (hx65 : x65 ≤ 7) (hm12_0 : m12_0 ≤ 3) (hm12_1 : m12_1 ≤ 3) (hm13_0 : m13_0 ≤ 8) (hm13_1 : m13_1 ≤ 8) (hm14_0 : m14_0 ≤ 14) (hm14_1 : m14_1 ≤ 14) (hm15_0 : m15_0 ≤ 8) (hm15_1 : m15_1 ≤ 8) (hm42_0 : m42_0 ≤ 120) (hm42_1 : m42_1 ≤ 400) (ha1 : a1 ≤ 7) (ha3 : a3 ≤ 1) (hgr : gz_ok m42_0 f39 f40 f41) : Met l yX9_explores vs_M_explores_1_120 ({ frames := 6, cells := 0, slots := 0, locals := 142 }) (va_Pc [.ref (ad 0), .int 1, .int (nI a1), .int p2, .int (nI a3), .int 120, .int p5] (pu_B (dC, dI) (mo_w ad ck x0 (nI x16) (nI x18) (nI x19) x20 (nI x21) (nI x22) x23 x24 x25 (nI x26) x27 (nI x28) (nI x29) (nI x30) (nI x33) x45 (nI x46) (nI x52) (nI x53) (nI x61) (nI x62) (nI x63) (nI x65) x66 f1 f2 f3 (bN 3 q4) (bN 7 q5) (bN 7 q6) (bN 4 q7) f8 (bN 2 q9) (bH q10) f11 (b2 m12_0 m12_1) (b2 m13_0 m13_1) (b2 m14_0 m14_1) (b2m m15_0 m15_1) f17 (bA 159 q31) f32 f34 f35 f36 f37 (bN 7 q38) f39 f40 f41 (b2 m42_0 m42_1) f43 f44 f47 f48 f49 f50 f51 (bN 13 q54) (bN 120 q55) (bN 120 q56) f57 (bN 120 q58) f59 f60 f64) (mo_t ck) sz)) (va_Qv (fun (_ : Unit) => True) (fun _ t => ∃ (z34 : Nat → Int32) (z35 : Nat → Int32) (z38 : Nat → Nat) (z39 : Nat → Int32) (z40 : Nat → Int32) (z41 : Nat → Int32) (z43 : Nat → Int32) (z44 : Nat → Int32) (z47 : Nat → Int32) (z48 : Nat → Int32) (z42_1 : Nat), pu_E (dC, dI) (mo_w ad ck x0 (nI x16) (nI x18) (nI x19) x20 (nI x21) (nI x22) x23 x24 x25 (nI x26) x27 (nI x28) (nI x29) (nI x30) (nI x33) x45 (nI x46) (nI x52) (nI x53) (nI x61) (nI x62) (nI x63) (nI x65) x66 f1 f2 f3 (bN 3 q4) (bN 7 q5) (bN 7 q6) (bN 4 q7) f8 (bN 2 q9) (bH q10) f11 (b2 m12_0 m12_1) (b2 m13_0 m13_1) (b2 m14_0 m14_1) (b2m m15_0 m15_1) f17 (bA 159 q31) f32 z34 z35 f36 f37 (bN 7 z38) z39 z40 z41 (b2 m42_0 z42_1) z43 z44 z47 z48 f49 f50 f51 (bN 13 q54) (bN 120 q55) (bN 120 q56) f57 (bN 120 q58) f59 f60 f64) (mo_t ck) (va_A ((mo_w ad ck x0 (nI x16) (nI x18) (nI x19) x20 (nI x21) (nI x22) x23 x24 x25 (nI x26) x27 (nI x28) (nI x29) (nI x30) (nI x33) x45 (nI x46) (nI x52) (nI x53) (nI x61) (nI x62) (nI x63) (nI x65) x66 f1 f2 f3 (bN 3 q4) (bN 7 q5) (bN 7 q6) (bN 4 q7) f8 (bN 2 q9) (bH q10) f11 (b2 m12_0 m12_1) (b2 m13_0 m13_1) (b2 m14_0 m14_1) (b2m m15_0 m15_1) f17 (bA 159 q31) f32 f34 f35 f36 f37 (bN 7 q38) f39 f40 f41 (b2 m42_0 m42_1) f43 f44 f47 f48 f49 f50 f51 (bN 13 q54) (bN 120 q55) (bN 120 q56) f57 (bN 120 q58) f59 f60 f64)) sz) t ∧ (z42_1 ≤ 120) ∧ (gz_ok m42_0 z39 z40 z41)) (va_A ((mo_w ad ck x0 (nI x16) (nI x18) (nI x19) x20 (nI x21) (nI x22) x23 x24 x25 (nI x26) x27 (nI x28) (nI x29) (nI x30) (nI x33) x45 (nI x46) (nI x52) (nI x53) (nI x61) (nI x62) (nI x63) (nI x65) x66 f1 f2 f3 (bN 3 q4) (bN 7 q5) (bN 7 q6) (bN 4 q7) f8 (bN 2 q9) (bH q10) f11 (b2 m12_0 m12_1) (b2 m13_0 m13_1) (b2 m14_0 m14_1) (b2m m15_0 m15_1) f17 (bA 159 q31) f32 f34 f35 f36 f37 (bN 7 q38) f39 f40 f41 (b2 m42_0 m42_1) f43 f44 f47 f48 f49 f50 f51 (bN 13 q54) (bN 120 q55) (bN 120 q56) f57 (bN 120 q58) f59 f60 f64)) sz)) 0 0 (va_A ((mo_w ad ck x0 (nI x16) (nI x18) (nI x19) x20 (nI x21) (nI x22) x23 x24 x25 (nI x26) x27 (nI x28) (nI x29) (nI x30) (nI x33) x45 (nI x46) (nI x52) (nI x53) (nI x61) (nI x62) (nI x63) (nI x65) x66 f1 f2 f3 (bN 3 q4) (bN 7 q5) (bN 7 q6) (bN 4 q7) f8 (bN 2 q9) (bH q10) f11 (b2 m12_0 m12_1) (b2 m13_0 m13_1) (b2 m14_0 m14_1) (b2m m15_0 m15_1) f17 (bA 159 q31) f32 f34 f35 f36 f37 (bN 7 q38) f39 f40 f41 (b2 m42_0 m42_1) f43 f44 f47 f48 f49 f50 f51 (bN 13 q54) (bN 120 q55) (bN 120 q56) f57 (bN 120 q58) f59 f60 f64)) sz) := by
  refine Met.ofW (cc := cX9_explores) (maxL := 10) (ret := none) (by decide) rfl ?_
  intro p e s m args below meth c s₁ B hml hv
  obtain ⟨rfl, rfl, hP, hK, hD0⟩ := hv
  have hx := B.exec
  have hb := B.bytes
  have hr := B.returns
  have hts := atoms_spec (ws := vs_M_explores_1_120) B.pre
  have v_1 := hts (.fieldLink RX9 92 "ClockReachModel" "stateMany" "[I") (List.mem_cons_of_mem _ vm_177)
  have v_2 := hts (.fieldLink RX9 95 "ClockReachModel" "takenBy" "[I") (List.mem_cons_of_mem _ vm_259)
  have v_3 := hts (.fieldLink RX9 98 "ClockReachModel" "isFull" "[Z") (List.mem_cons_of_mem _ vm_178)
  have v_9 := hts (.fieldLink RX9 71 "ClockReachModel" "z" "[I") (List.mem_cons_of_mem _ vm_234)
  have v_22 := hts (.fieldLink RX9 49 "ClockReachModel" "edgeMany" "[I") (List.mem_cons_of_mem _ vm_62)
  have v_23 := hts (.fieldLink RX9 258 "ClockReachModel" "bank" "I") (List.mem_cons_of_mem _ vm_22)
  have v_31 := hts (.fieldLink RX9 80 "ClockReachModel" "statePlace" "[I") (List.mem_cons_of_mem _ vm_240)
  have v_36 := hts (.fieldLink RX9 68 "ClockReachModel" "zone" "[I") (List.mem_cons_of_mem _ vm_232)
  have hown : s.vm.findClass RX9 = some m.cls := findClass_of_methodNamed B.named
  have hlocks := B.notSynchronized
  have hiX9 : ∀ w ∈ wsX90, w ∈ vs_M_explores_1_120 := fun _ h => List.mem_cons_of_mem _ (List.mem_append_right _ h)
  have hD := hD0.self (sz := s.heap.size)
  generalize hAe : va_A ((mo_w ad ck x0 (nI x16) (nI x18) (nI x19) x20 (nI x21) (nI x22) x23 x24 x25 (nI x26) x27 (nI x28) (nI x29) (nI x30) (nI x33) x45 (nI x46) (nI x52) (nI x53) (nI x61) (nI x62) (nI x63) (nI x65) x66 f1 f2 f3 (bN 3 q4) (bN 7 q5) (bN 7 q6) (bN 4 q7) f8 (bN 2 q9) (bH q10) f11 (b2 m12_0 m12_1) (b2 m13_0 m13_1) (b2 m14_0 m14_1) (b2m m15_0 m15_1) f17 (bA 159 q31) f32 f34 f35 f36 f37 (bN 7 q38) f39 f40 f41 (b2 m42_0 m42_1) f43 f44 f47 f48 f49 f50 f51 (bN 13 q54) (bN 120 q55) (bN 120 q56) f57 (bN 120 q58) f59 f60 f64)) s.heap.size = A at hD ⊢
  have hA : ∀ q : Nat, s.heap.size ≤ q → A q := fun q h => by rw [← hAe]; exact Or.inr h
  have hS : va_S A s.heap s.heap [] := va_S.rf
  have hl := lv_entry ([.ref (ad 0), .int 1, .int (nI a1), .int p2, .int (nI a3), .int 120, .int p5]) (n := 10) (Nat.le_of_ble_eq_true rfl)
  rw [lg_entry_eq]
  generalize (lg_sl ([.ref (ad 0), .int 1, .int (nI a1), .int p2, .int (nI a3), .int 120, .int p5]) ++ List.replicate (10 - (lg_sl ([.ref (ad 0), .int 1, .int (nI a1), .int p2, .int (nI a3), .int 120, .int p5])).length) Slot.unset).toArray = ls at hl ⊢
  have hl : lv_has ls 10 [(0, .ref (ad 0)), (1, .int 1), (2, .int (nI a1)), (3, .int p2), (4, .int (nI a3)), (5, .int 120), (6, .int p5)] := hl
  refine lv_aload_n hx hb dX9_explores_0 rfl (lv_at hl 0 rfl) ?_
  refine va_get (D := (dC, dI)) (ci := 9) (v := .ref (ad 42)) (C := RX9) (T := TX9) (N := 67) hx hb hts hiX9 hown hK hP 0 rfl rfl 42 (by decide) v_1 (fun _ h9 => h9) rfl dX9_explores_1 ?_
  refine lv_iload_n hx hb dX9_explores_4 rfl (lv_at hl 1 rfl) ?_
  refine lv_iconst (v := 0) hx hb dX9_explores_5 (by decide) ?_
  refine va_iast hx hb hK hP hD hS 27 26 rfl rfl (vp_in_nI (n := 1) (Nat.le_of_ble_eq_true rfl) (Nat.le_of_ble_eq_true rfl)) dX9_explores_6 (fun H locs hP hD hS => ?_)
  have hP : va_P (dC, dI) vwCl (mo_w ad ck x0 (nI x16) (nI x18) (nI x19) x20 (nI x21) (nI x22) x23 x24 x25 (nI x26) x27 (nI x28) (nI x29) (nI x30) (nI x33) x45 (nI x46) (nI x52) (nI x53) (nI x61) (nI x62) (nI x63) (nI x65) x66 f1 f2 f3 (bN 3 q4) (bN 7 q5) (bN 7 q6) (bN 4 q7) f8 (bN 2 q9) (bH q10) f11 (b2 m12_0 m12_1) (b2 m13_0 m13_1) (b2 m14_0 m14_1) (b2m m15_0 m15_1) f17 (bA 159 q31) f32 f34 f35 f36 f37 (bN 7 q38) f39 f40 f41 (b2 m42_0 0) f43 f44 f47 f48 f49 f50 f51 (bN 13 q54) (bN 120 q55) (bN 120 q56) f57 (bN 120 q58) f59 f60 f64) H := by rw [← b2_up1 (a := m42_0) (b := m42_1) (v := 0)]; exact hP
  have hD : va_D A (mo_w ad ck x0 (nI x16) (nI x18) (nI x19) x20 (nI x21) (nI x22) x23 x24 x25 (nI x26) x27 (nI x28) (nI x29) (nI x30) (nI x33) x45 (nI x46) (nI x52) (nI x53) (nI x61) (nI x62) (nI x63) (nI x65) x66 f1 f2 f3 (bN 3 q4) (bN 7 q5) (bN 7 q6) (bN 4 q7) f8 (bN 2 q9) (bH q10) f11 (b2 m12_0 m12_1) (b2 m13_0 m13_1) (b2 m14_0 m14_1) (b2m m15_0 m15_1) f17 (bA 159 q31) f32 f34 f35 f36 f37 (bN 7 q38) f39 f40 f41 (b2 m42_0 0) f43 f44 f47 f48 f49 f50 f51 (bN 13 q54) (bN 120 q55) (bN 120 q56) f57 (bN 120 q58) f59 f60 f64) := by rw [← b2_up1 (a := m42_0) (b := m42_1) (v := 0)]; exact hD
  refine lv_aload_n hx hb dX9_explores_7 rfl (lv_at hl 0 rfl) ?_
  refine va_get (D := (dC, dI)) (ci := 9) (v := .ref (ad 43)) (C := RX9) (T := TX9) (N := 67) hx hb hts hiX9 hown hK hP 0 rfl rfl 43 (by decide) v_2 (fun _ h9 => h9) rfl dX9_explores_8 ?_
  refine lv_iload_n hx hb dX9_explores_11 rfl (lv_at hl 1 rfl) ?_
  refine lv_iconst (v := 0) hx hb dX9_explores_12 (by decide) ?_
  refine va_iast hx hb hK hP hD hS 28 27 rfl rfl (vp_in_nI (n := 1) (Nat.le_of_ble_eq_true rfl) (Nat.le_of_ble_eq_true rfl)) dX9_explores_13 (fun H locs hP hD hS => ?_)
  have hP : va_P (dC, dI) vwCl (mo_w ad ck x0 (nI x16) (nI x18) (nI x19) x20 (nI x21) (nI x22) x23 x24 x25 (nI x26) x27 (nI x28) (nI x29) (nI x30) (nI x33) x45 (nI x46) (nI x52) (nI x53) (nI x61) (nI x62) (nI x63) (nI x65) x66 f1 f2 f3 (bN 3 q4) (bN 7 q5) (bN 7 q6) (bN 4 q7) f8 (bN 2 q9) (bH q10) f11 (b2 m12_0 m12_1) (b2 m13_0 m13_1) (b2 m14_0 m14_1) (b2m m15_0 m15_1) f17 (bA 159 q31) f32 f34 f35 f36 f37 (bN 7 q38) f39 f40 f41 (b2 m42_0 0) (upd f43 (1 : Int32).toNatClampNeg 0) f44 f47 f48 f49 f50 f51 (bN 13 q54) (bN 120 q55) (bN 120 q56) f57 (bN 120 q58) f59 f60 f64) H := hP
  have hD : va_D A (mo_w ad ck x0 (nI x16) (nI x18) (nI x19) x20 (nI x21) (nI x22) x23 x24 x25 (nI x26) x27 (nI x28) (nI x29) (nI x30) (nI x33) x45 (nI x46) (nI x52) (nI x53) (nI x61) (nI x62) (nI x63) (nI x65) x66 f1 f2 f3 (bN 3 q4) (bN 7 q5) (bN 7 q6) (bN 4 q7) f8 (bN 2 q9) (bH q10) f11 (b2 m12_0 m12_1) (b2 m13_0 m13_1) (b2 m14_0 m14_1) (b2m m15_0 m15_1) f17 (bA 159 q31) f32 f34 f35 f36 f37 (bN 7 q38) f39 f40 f41 (b2 m42_0 0) (upd f43 (1 : Int32).toNatClampNeg 0) f44 f47 f48 f49 f50 f51 (bN 13 q54) (bN 120 q55) (bN 120 q56) f57 (bN 120 q58) f59 f60 f64) := hD
  refine lv_aload_n hx hb dX9_explores_14 rfl (lv_at hl 0 rfl) ?_
  refine va_get (D := (dC, dI)) (ci := 9) (v := .ref (ad 44)) (C := RX9) (T := TX9) (N := 67) hx hb hts hiX9 hown hK hP 0 rfl rfl 44 (by decide) v_3 (fun _ h9 => h9) rfl dX9_explores_15 ?_
  refine lv_iload_n hx hb dX9_explores_18 rfl (lv_at hl 1 rfl) ?_
  refine lv_iconst (v := 0) hx hb dX9_explores_19 (by decide) ?_
  refine va_zast hx hb hK hP hD hS 29 28 rfl rfl (vp_in_nI (n := 1) (Nat.le_of_ble_eq_true rfl) (Nat.le_of_ble_eq_true rfl)) dX9_explores_20 (fun H locs hP hD hS => ?_)
  have hP : va_P (dC, dI) vwCl (mo_w ad ck x0 (nI x16) (nI x18) (nI x19) x20 (nI x21) (nI x22) x23 x24 x25 (nI x26) x27 (nI x28) (nI x29) (nI x30) (nI x33) x45 (nI x46) (nI x52) (nI x53) (nI x61) (nI x62) (nI x63) (nI x65) x66 f1 f2 f3 (bN 3 q4) (bN 7 q5) (bN 7 q6) (bN 4 q7) f8 (bN 2 q9) (bH q10) f11 (b2 m12_0 m12_1) (b2 m13_0 m13_1) (b2 m14_0 m14_1) (b2m m15_0 m15_1) f17 (bA 159 q31) f32 f34 f35 f36 f37 (bN 7 q38) f39 f40 f41 (b2 m42_0 0) (upd f43 (1 : Int32).toNatClampNeg 0) (upd f44 (1 : Int32).toNatClampNeg (vp_nar .boolean 0)) f47 f48 f49 f50 f51 (bN 13 q54) (bN 120 q55) (bN 120 q56) f57 (bN 120 q58) f59 f60 f64) H := hP
  have hD : va_D A (mo_w ad ck x0 (nI x16) (nI x18) (nI x19) x20 (nI x21) (nI x22) x23 x24 x25 (nI x26) x27 (nI x28) (nI x29) (nI x30) (nI x33) x45 (nI x46) (nI x52) (nI x53) (nI x61) (nI x62) (nI x63) (nI x65) x66 f1 f2 f3 (bN 3 q4) (bN 7 q5) (bN 7 q6) (bN 4 q7) f8 (bN 2 q9) (bH q10) f11 (b2 m12_0 m12_1) (b2 m13_0 m13_1) (b2 m14_0 m14_1) (b2m m15_0 m15_1) f17 (bA 159 q31) f32 f34 f35 f36 f37 (bN 7 q38) f39 f40 f41 (b2 m42_0 0) (upd f43 (1 : Int32).toNatClampNeg 0) (upd f44 (1 : Int32).toNatClampNeg (vp_nar .boolean 0)) f47 f48 f49 f50 f51 (bN 13 q54) (bN 120 q55) (bN 120 q56) f57 (bN 120 q58) f59 f60 f64) := hD
  refine lv_aload_n hx hb dX9_explores_21 rfl (lv_at hl 0 rfl) ?_
  refine lv_iload_n hx hb dX9_explores_22 rfl (lv_at hl 3 rfl) ?_
  have hFc := pu_free hD hS hA
  refine va_callv (va_runV (As := [.int p2]) (rest := []) ⟨hx, hb, hml, hown, hts⟩ (c_M_layForgotten l dC dI _ ad ck x0 x16 x18 x19 x20 x21 x22 x23 x24 x25 x26 x27 x28 x29 x30 x33 x45 x46 x52 x53 x61 x62 x63 x65 x66 f1 f2 f3 q4 q5 q6 q7 f8 q9 q10 f11 m12_0 m12_1 m13_0 m13_1 m14_0 m14_1 m15_0 m15_1 f17 q31 f32 f34 f35 f36 f37 q38 f39 f40 f41 m42_0 0 (upd f43 (1 : Int32).toNatClampNeg 0) (upd f44 (1 : Int32).toNatClampNeg (vp_nar .boolean 0)) f47 f48 f49 f50 f51 q54 q55 q56 f57 q58 f59 f60 f64 p2 hx16 hx18 hx19 hx21 hx22 hx26 hx28 hx29 hx30 hx33 hx46 hx52 hx53 hx61 hx62 hx63 hx65 hm12_0 hm12_1 hm13_0 hm13_1 hm14_0 hm14_1 hm15_0 hm15_1 hm42_0 (Nat.le_of_ble_eq_true rfl)) (cwV 1 hts g_M_explores_1_120_M_layForgotten rfl rfl rfl (by decide +kernel) ⟨Nat.le_of_ble_eq_true rfl, Nat.le_of_ble_eq_true rfl⟩) ⟨pu_bl, va_recv hK hP (ci := 9) (q0 := 0) rfl rfl, pu_in hP hK hD⟩ rfl rfl hl.1 rfl (lv_room (Nat.le_of_ble_eq_true rfl)) dX9_explores_23 ⟨Nat.le_of_ble_eq_true rfl, Nat.le_of_ble_eq_true rfl⟩) hS (fun q _ h => hFc q h) hFc (fun u t H1 locs ht hvm hw hB hz1 hk1 hS => ?_)
  obtain ⟨z47_2, z48_3, ⟨hP1, -, hD1⟩⟩ := hB
  rw [ht] at hP1
  have hP := hP1
  have hD := pu_all hFc hD1
  clear hP1 hD1 hFc
  clear hk1 hz1 ht hvm
  generalize H1 = H at hP hS ⊢
  refine lv_aload_n hx hb dX9_explores_26 rfl (lv_at hl 0 rfl) ?_
  refine lv_aload_n hx hb dX9_explores_27 rfl (lv_at hl 0 rfl) ?_
  refine va_get (D := (dC, dI)) (ci := 9) (v := .ref (ad 35)) (C := RX9) (T := TX9) (N := 67) hx hb hts hiX9 hown hK hP 0 rfl rfl 35 (by decide) v_9 (fun _ h9 => h9) rfl dX9_explores_28 ?_
  refine lv_bipush (v := 100) hx hb dX9_explores_31 (by decide) ?_
  refine lv_iload_n hx hb dX9_explores_33 rfl (lv_at hl 2 rfl) ?_
  refine lv_iadd hx hb dX9_explores_34 ?_
  refine lv_topi (fun y_4 ey_4 => ?_)
  obtain rfl : y_4 = (nI (100 + a1)) := ey_4.trans (nI_add 100 a1)
  have hFc := pu_free hD hS hA
  refine va_callv (va_runV (As := [.ref (ad 35), .int (nI (100 + a1))]) (rest := []) ⟨hx, hb, hml, hown, hts⟩ (c_M_holdsAll_p l dC dI _ ad ck x0 x16 x18 x19 x20 x21 x22 x23 x24 x25 x26 x27 x28 x29 x30 x33 x45 x46 x52 x53 x61 x62 x63 x65 x66 f1 f2 f3 q4 q5 q6 q7 f8 q9 q10 f11 m12_0 m12_1 m13_0 m13_1 m14_0 m14_1 m15_0 m15_1 f17 q31 f32 f34 f35 f36 f37 q38 f39 f40 f41 m42_0 0 (upd f43 (1 : Int32).toNatClampNeg 0) (upd f44 (1 : Int32).toNatClampNeg (vp_nar .boolean 0)) z47_2 z48_3 f49 f50 f51 q54 q55 q56 f57 q58 f59 f60 f64 (100 + a1) hx16 hx18 hx19 hx21 hx22 hx26 hx28 hx29 hx30 hx33 hx46 hx52 hx53 hx61 hx62 hx63 hx65 hm12_0 hm12_1 hm13_0 hm13_1 hm14_0 hm14_1 hm15_0 hm15_1 hm42_0 (Nat.le_of_ble_eq_true rfl) (by omega) (by omega)) (cwV 2 hts g_M_explores_1_120_M_holdsAll_p rfl rfl rfl (by decide +kernel) ⟨Nat.le_of_ble_eq_true rfl, Nat.le_of_ble_eq_true rfl⟩) ⟨pu_bl, va_recv hK hP (ci := 9) (q0 := 0) rfl rfl, pu_in hP hK hD⟩ rfl rfl hl.1 rfl (lv_room (Nat.le_of_ble_eq_true rfl)) dX9_explores_35 ⟨Nat.le_of_ble_eq_true rfl, Nat.le_of_ble_eq_true rfl⟩) hS (fun q _ h => hFc q h) hFc (fun u t H1 locs ht hvm hw hB hz1 hk1 hS => ?_)
  obtain ⟨z35_6, ⟨hP1, -, hD1⟩⟩ := hB
  rw [ht] at hP1
  have hP := hP1
  have hD := pu_all hFc hD1
  clear hP1 hD1 hFc
  clear hk1 hz1 ht hvm
  generalize H1 = H at hP hS ⊢
  refine lv_aload_n hx hb dX9_explores_38 rfl (lv_at hl 0 rfl) ?_
  refine lv_aload_n hx hb dX9_explores_39 rfl (lv_at hl 0 rfl) ?_
  refine va_get (D := (dC, dI)) (ci := 9) (v := .ref (ad 35)) (C := RX9) (T := TX9) (N := 67) hx hb hts hiX9 hown hK hP 0 rfl rfl 35 (by decide) v_9 (fun _ h9 => h9) rfl dX9_explores_40 ?_
  have hFc := pu_free hD hS hA
  refine va_calli (va_runV (As := [.ref (ad 35)]) (rest := []) ⟨hx, hb, hml, hown, hts⟩ (c_M_closes_z l dC dI _ ad ck x0 x16 x18 x19 x20 x21 x22 x23 x24 x25 x26 x27 x28 x29 x30 x33 x45 x46 x52 x53 x61 x62 x63 x65 x66 f1 f2 f3 q4 q5 q6 q7 f8 q9 q10 f11 m12_0 m12_1 m13_0 m13_1 m14_0 m14_1 m15_0 m15_1 f17 q31 f32 f34 z35_6 f36 f37 q38 f39 f40 f41 m42_0 0 (upd f43 (1 : Int32).toNatClampNeg 0) (upd f44 (1 : Int32).toNatClampNeg (vp_nar .boolean 0)) z47_2 z48_3 f49 f50 f51 q54 q55 q56 f57 q58 f59 f60 f64 hx16 hx18 hx19 hx21 hx22 hx26 hx28 hx29 hx30 hx33 hx46 hx52 hx53 hx61 hx62 hx63 hx65 hm12_0 hm12_1 hm13_0 hm13_1 hm14_0 hm14_1 hm15_0 hm15_1 hm42_0 (Nat.le_of_ble_eq_true rfl)) (cwV 1 hts g_M_explores_1_120_M_closes_z rfl rfl rfl (by decide +kernel) ⟨Nat.le_of_ble_eq_true rfl, Nat.le_of_ble_eq_true rfl⟩) ⟨pu_bl, va_recv hK hP (ci := 9) (q0 := 0) rfl rfl, pu_in hP hK hD⟩ rfl rfl hl.1 rfl (lv_room (Nat.le_of_ble_eq_true rfl)) dX9_explores_43 ⟨Nat.le_of_ble_eq_true rfl, Nat.le_of_ble_eq_true rfl⟩) hS (fun q _ h => hFc q h) hFc (fun r_7 u t H1 locs ht hvm hw hB hz1 hk1 hS => ?_)
  obtain ⟨z35_8, ⟨hP1, -, hD1⟩⟩ := hB
  rw [ht] at hP1
  have hP := hP1
  have hD := pu_all hFc hD1
  clear hP1 hD1 hFc
  clear hk1 hz1 ht hvm
  generalize H1 = H at hP hS ⊢
  obtain ⟨u_9, hu_9, rfl⟩ := hw
  refine lv_if_ne (tgt := 50) hx hb dX9_explores_46 (by decide) (fun c_10 => ?_) (fun c_10 => ?_)
  · have c_10 : ¬ u_9 = 0 := fun z => c_10 ((nI_eq (a := u_9) (b := 0) (Nat.lt_of_le_of_lt hu_9 (Nat.le_of_ble_eq_true rfl)) (Nat.le_of_ble_eq_true rfl)).mpr z)
    refine lv_aload_n hx hb dX9_explores_50 rfl (lv_at hl 0 rfl) ?_
    refine lv_iload_n hx hb dX9_explores_51 rfl (lv_at hl 1 rfl) ?_
    refine lv_iload_n hx hb dX9_explores_52 rfl (lv_at hl 2 rfl) ?_
    refine lv_iconst (v := (-1)) hx hb dX9_explores_53 (by decide) ?_
    refine lv_iconst (v := (-1)) hx hb dX9_explores_54 (by decide) ?_
    refine lv_iload_n hx hb dX9_explores_55 rfl (lv_at hl 3 rfl) ?_
    refine lv_iload hx hb dX9_explores_56 (lv_at hl 4 rfl) ?_
    refine lv_iload hx hb dX9_explores_58 (lv_at hl 5 rfl) ?_
    have hFc := pu_free hD hS hA
    refine va_callv (va_runV (As := [.int 1, .int (nI a1), .int (-1), .int (-1), .int p2, .int (nI a3), .int 120]) (rest := []) ⟨hx, hb, hml, hown, hts⟩ (c_M_comes_1_120_0 l dC dI _ ad ck x0 x16 x18 x19 x20 x21 x22 x23 x24 x25 x26 x27 x28 x29 x30 x33 x45 x46 x52 x53 x61 x62 x63 x65 x66 f1 f2 f3 q4 q5 q6 q7 f8 q9 q10 f11 m12_0 m12_1 m13_0 m13_1 m14_0 m14_1 m15_0 m15_1 f17 q31 f32 f34 z35_8 f36 f37 q38 f39 f40 f41 m42_0 0 (upd f43 (1 : Int32).toNatClampNeg 0) (upd f44 (1 : Int32).toNatClampNeg (vp_nar .boolean 0)) z47_2 z48_3 f49 f50 f51 q54 q55 q56 f57 q58 f59 f60 f64 a1 p2 a3 hx16 hx18 hx19 hx21 hx22 hx26 hx28 hx29 hx30 hx33 hx46 hx52 hx53 hx61 hx62 hx63 hx65 hm12_0 hm12_1 hm13_0 hm13_1 hm14_0 hm14_1 hm15_0 hm15_1 hm42_0 (Nat.le_of_ble_eq_true rfl) ha1 ha3 (by first | assumption | exact gz_0)) (cwV 7 hts g_M_explores_1_120_M_comes_1_120_0 rfl rfl rfl (by decide +kernel) ⟨Nat.le_of_ble_eq_true rfl, Nat.le_of_ble_eq_true rfl⟩) ⟨pu_bl, va_recv hK hP (ci := 9) (q0 := 0) rfl rfl, pu_in hP hK hD⟩ rfl rfl hl.1 rfl (lv_room (Nat.le_of_ble_eq_true rfl)) dX9_explores_60 ⟨Nat.le_of_ble_eq_true rfl, Nat.le_of_ble_eq_true rfl⟩) hS (fun q _ h => hFc q h) hFc (fun u t H1 locs ht hvm hw hB hz1 hk1 hS => ?_)
    obtain ⟨z34_12, z35_13, z38_14, z39_15, z40_16, z41_17, z44_18, z42_1_19, ⟨hP1, -, hD1⟩, hz42_1_19, xr_11_0, xr_11_1⟩ := hB
    rw [ht] at hP1
    have hP := hP1
    have hD := pu_all hFc hD1
    clear hP1 hD1 hFc
    clear hk1 hz1 ht hvm
    generalize H1 = H at hP hS ⊢
    refine lv_iconst (v := 0) hx hb dX9_explores_63 (by decide) ?_
    refine lv_istore (lv' := [(7, .int 0), (0, .ref (ad 0)), (1, .int 1), (2, .int (nI a1)), (3, .int p2), (4, .int (nI a3)), (5, .int 120), (6, .int p5)]) hx hb dX9_explores_64 hl (by decide) rfl (fun ls hl => ?_)
    refine pu_while (fun nn H locs ls => ∃ (g_31 : Nat → Int32) (g_32 : Nat → Int32) (g_33 : Nat → Nat) (g_34 : Nat → Int32) (g_35 : Nat → Int32) (g_36 : Nat → Int32) (g_37 : Nat → Int32) (g_38 : Nat → Int32) (g_39 : Nat) (g_40 : Nat), nn = 120 - g_40 ∧ g_39 ≤ 120 ∧ g_40 ≤ 120 ∧ gz_ok m42_0 g_34 g_35 g_36 ∧ va_P (dC, dI) vwCl (mo_w ad ck x0 (nI x16) (nI x18) (nI x19) x20 (nI x21) (nI x22) x23 x24 x25 (nI x26) x27 (nI x28) (nI x29) (nI x30) (nI x33) x45 (nI x46) (nI x52) (nI x53) (nI x61) (nI x62) (nI x63) (nI x65) x66 f1 f2 f3 (bN 3 q4) (bN 7 q5) (bN 7 q6) (bN 4 q7) f8 (bN 2 q9) (bH q10) f11 (b2 m12_0 m12_1) (b2 m13_0 m13_1) (b2 m14_0 m14_1) (b2m m15_0 m15_1) f17 (bA 159 q31) f32 g_31 g_32 f36 f37 (bN 7 g_33) g_34 g_35 g_36 (b2 m42_0 g_39) g_37 g_38 z47_2 z48_3 f49 f50 f51 (bN 13 q54) (bN 120 q55) (bN 120 q56) f57 (bN 120 q58) f59 f60 f64) H ∧ va_D A (mo_w ad ck x0 (nI x16) (nI x18) (nI x19) x20 (nI x21) (nI x22) x23 x24 x25 (nI x26) x27 (nI x28) (nI x29) (nI x30) (nI x33) x45 (nI x46) (nI x52) (nI x53) (nI x61) (nI x62) (nI x63) (nI x65) x66 f1 f2 f3 (bN 3 q4) (bN 7 q5) (bN 7 q6) (bN 4 q7) f8 (bN 2 q9) (bH q10) f11 (b2 m12_0 m12_1) (b2 m13_0 m13_1) (b2 m14_0 m14_1) (b2m m15_0 m15_1) f17 (bA 159 q31) f32 g_31 g_32 f36 f37 (bN 7 g_33) g_34 g_35 g_36 (b2 m42_0 g_39) g_37 g_38 z47_2 z48_3 f49 f50 f51 (bN 13 q54) (bN 120 q55) (bN 120 q56) f57 (bN 120 q58) f59 f60 f64) ∧ va_S A s.heap H locs ∧ lv_has ls 10 [(0, .ref (ad 0)), (1, .int 1), (2, .int (nI a1)), (3, .int p2), (4, .int (nI a3)), (5, .int 120), (6, .int p5), (7, .int (nI g_40))]) 66 ?_ _ _ _ _ ⟨z34_12, z35_13, z38_14, z39_15, z40_16, z41_17, (upd f43 (1 : Int32).toNatClampNeg 0), z44_18, z42_1_19, 0, rfl, hz42_1_19, (Nat.le_of_ble_eq_true rfl), by first | assumption | exact gz_0, hP, hD, hS, lv_sub hl [1, 2, 3, 4, 5, 6, 7, 0] rfl⟩
    rintro nn ih_42 H locs ls ⟨g_31, g_32, g_33, g_34, g_35, g_36, g_37, g_38, g_39, g_40, rfl, hg_39, hg_40, he_41, hP, hD, hS, hl⟩
    refine lv_iload hx hb dX9_explores_66 (lv_at hl 7 rfl) ?_
    refine lv_aload_n hx hb dX9_explores_68 rfl (lv_at hl 0 rfl) ?_
    refine va_get (D := (dC, dI)) (ci := 9) (v := .ref (ad 42)) (C := RX9) (T := TX9) (N := 67) hx hb hts hiX9 hown hK hP 0 rfl rfl 42 (by decide) v_1 (fun _ h9 => h9) rfl dX9_explores_69 ?_
    refine lv_iload_n hx hb dX9_explores_72 rfl (lv_at hl 1 rfl) ?_
    refine va_iald hx hb hK hP 27 26 rfl rfl (vp_in_nI (n := 1) (Nat.le_of_ble_eq_true rfl) (Nat.le_of_ble_eq_true rfl)) dX9_explores_73 ?_
    refine lv_topi (fun y_43 ey_43 => ?_)
    have qy_43 := ey_43.trans b2_1
    clear ey_43
    obtain rfl : y_43 = nI g_39 := qy_43
    refine lv_icmp_ge (tgt := 206) hx hb dX9_explores_74 (by decide) (fun c_44 => ?_) (fun c_44 => ?_)
    · have c_44 : g_39 ≤ g_40 := (nI_leI (a := g_39) (b := g_40) (Nat.lt_of_le_of_lt hg_39 (Nat.le_of_ble_eq_true rfl)) (Nat.lt_of_le_of_lt hg_40 (Nat.le_of_ble_eq_true rfl))).mp c_44
      exact W.vret hx hb hr (fun t ht hW => ⟨⟨(), rfl, trivial, ⟨g_31, g_32, g_33, g_34, g_35, g_36, g_37, g_38, z47_2, z48_3, g_39, ⟨by rw [ht]; exact hP, va_K.moved hW.alike hK, hD⟩, hg_39, by first | assumption | exact gz_0⟩⟩, hS.F ht⟩) hS.2.2 dX9_explores_206
    · have c_44 : ¬ g_39 ≤ g_40 := fun z => c_44 ((nI_leI (a := g_39) (b := g_40) (Nat.lt_of_le_of_lt hg_39 (Nat.le_of_ble_eq_true rfl)) (Nat.lt_of_le_of_lt hg_40 (Nat.le_of_ble_eq_true rfl))).mpr z)
      refine lv_iconst (v := 0) hx hb dX9_explores_77 (by decide) ?_
      refine lv_istore (lv' := [(8, .int 0), (0, .ref (ad 0)), (1, .int 1), (2, .int (nI a1)), (3, .int p2), (4, .int (nI a3)), (5, .int 120), (6, .int p5), (7, .int (nI g_40))]) hx hb dX9_explores_78 hl (by decide) rfl (fun ls hl => ?_)
      refine pu_while (fun nn H locs ls => ∃ (g_57 : Nat → Int32) (g_58 : Nat → Int32) (g_59 : Nat → Nat) (g_60 : Nat → Int32) (g_61 : Nat → Int32) (g_62 : Nat → Int32) (g_63 : Nat → Int32) (g_64 : Nat → Int32) (g_65 : Nat) (g_66 : Nat), nn = 14 - g_66 ∧ g_65 ≤ 120 ∧ g_66 ≤ 14 ∧ gz_ok m42_0 g_60 g_61 g_62 ∧ g_40 < g_65 ∧ va_P (dC, dI) vwCl (mo_w ad ck x0 (nI x16) (nI x18) (nI x19) x20 (nI x21) (nI x22) x23 x24 x25 (nI x26) x27 (nI x28) (nI x29) (nI x30) (nI x33) x45 (nI x46) (nI x52) (nI x53) (nI x61) (nI x62) (nI x63) (nI x65) x66 f1 f2 f3 (bN 3 q4) (bN 7 q5) (bN 7 q6) (bN 4 q7) f8 (bN 2 q9) (bH q10) f11 (b2 m12_0 m12_1) (b2 m13_0 m13_1) (b2 m14_0 m14_1) (b2m m15_0 m15_1) f17 (bA 159 q31) f32 g_57 g_58 f36 f37 (bN 7 g_59) g_60 g_61 g_62 (b2 m42_0 g_65) g_63 g_64 z47_2 z48_3 f49 f50 f51 (bN 13 q54) (bN 120 q55) (bN 120 q56) f57 (bN 120 q58) f59 f60 f64) H ∧ va_D A (mo_w ad ck x0 (nI x16) (nI x18) (nI x19) x20 (nI x21) (nI x22) x23 x24 x25 (nI x26) x27 (nI x28) (nI x29) (nI x30) (nI x33) x45 (nI x46) (nI x52) (nI x53) (nI x61) (nI x62) (nI x63) (nI x65) x66 f1 f2 f3 (bN 3 q4) (bN 7 q5) (bN 7 q6) (bN 4 q7) f8 (bN 2 q9) (bH q10) f11 (b2 m12_0 m12_1) (b2 m13_0 m13_1) (b2 m14_0 m14_1) (b2m m15_0 m15_1) f17 (bA 159 q31) f32 g_57 g_58 f36 f37 (bN 7 g_59) g_60 g_61 g_62 (b2 m42_0 g_65) g_63 g_64 z47_2 z48_3 f49 f50 f51 (bN 13 q54) (bN 120 q55) (bN 120 q56) f57 (bN 120 q58) f59 f60 f64) ∧ va_S A s.heap H locs ∧ lv_has ls 10 [(0, .ref (ad 0)), (1, .int 1), (2, .int (nI a1)), (3, .int p2), (4, .int (nI a3)), (5, .int 120), (6, .int p5), (7, .int (nI g_40)), (8, .int (nI g_66))]) 80 ?_ _ _ _ _ ⟨g_31, g_32, g_33, g_34, g_35, g_36, g_37, g_38, g_39, 0, rfl, hg_39, (Nat.le_of_ble_eq_true rfl), by first | assumption | exact gz_0, by omega, hP, hD, hS, lv_sub hl [1, 2, 3, 4, 5, 6, 7, 8, 0] rfl⟩
      rintro nn ih_69 H locs ls ⟨g_57, g_58, g_59, g_60, g_61, g_62, g_63, g_64, g_65, g_66, rfl, hg_65, hg_66, he_67, he_68, hP, hD, hS, hl⟩
      refine lv_iload hx hb dX9_explores_80 (lv_at hl 8 rfl) ?_
      refine lv_aload_n hx hb dX9_explores_82 rfl (lv_at hl 0 rfl) ?_
      refine va_get (D := (dC, dI)) (ci := 9) (v := .ref (ad 14)) (C := RX9) (T := TX9) (N := 67) hx hb hts hiX9 hown hK hP 0 rfl rfl 14 (by decide) v_22 (fun _ h9 => h9) rfl dX9_explores_83 ?_
      refine lv_aload_n hx hb dX9_explores_86 rfl (lv_at hl 0 rfl) ?_
      refine va_get (D := (dC, dI)) (ci := 9) (v := .int (nI x16)) (C := RX9) (T := TX9) (N := 67) hx hb hts hiX9 hown hK hP 0 rfl rfl 16 (by decide) v_23 (fun _ h9 => h9) rfl dX9_explores_87 ?_
      refine va_iald hx hb hK hP 14 13 rfl rfl (vp_in_nI (n := x16) (Nat.lt_of_le_of_lt hx16 (Nat.le_of_ble_eq_true rfl)) (Nat.le_of_ble_eq_true rfl)) dX9_explores_90 ?_
      refine lv_topi (fun y_70 ey_70 => ?_)
      obtain ⟨u_71, hu_71, fu_71⟩ := b2_get (a := m14_0) (b := m14_1) (i := x16) (by omega)
      have qy_70 := ey_70.trans fu_71
      obtain rfl : y_70 = nI u_71 := qy_70
      refine lv_icmp_ge (tgt := 200) hx hb dX9_explores_91 (by decide) (fun c_72 => ?_) (fun c_72 => ?_)
      · have c_72 : u_71 ≤ g_66 := (nI_leI (a := u_71) (b := g_66) (by omega) (Nat.lt_of_le_of_lt hg_66 (Nat.le_of_ble_eq_true rfl))).mp c_72
        refine lv_iinc (v := (nI (g_40 + 1))) (lv' := [(7, .int (nI (g_40 + 1))), (0, .ref (ad 0)), (1, .int 1), (2, .int (nI a1)), (3, .int p2), (4, .int (nI a3)), (5, .int 120), (6, .int p5), (8, .int (nI g_66))]) hx hb dX9_explores_200 hl (k := 7) rfl (nI_1 _) (by decide) rfl (fun ls hl => ?_)
        refine lv_goto (tgt := 66) hx hb dX9_explores_203 (by decide) ?_
        exact ih_42 (120 - (g_40 + 1)) (by omega) _ _ _ ⟨g_57, g_58, g_59, g_60, g_61, g_62, g_63, g_64, g_65, (g_40 + 1), rfl, hg_65, (by omega), by first | assumption | exact gz_0, hP, hD, hS, lv_sub hl [1, 2, 3, 4, 5, 6, 7, 0] rfl⟩
      · have c_72 : ¬ u_71 ≤ g_66 := fun z => c_72 ((nI_leI (a := u_71) (b := g_66) (by omega) (Nat.lt_of_le_of_lt hg_66 (Nat.le_of_ble_eq_true rfl))).mpr z)
        refine lv_iload_n hx hb dX9_explores_94 rfl (lv_at hl 1 rfl) ?_
        refine lv_iload hx hb dX9_explores_95 (lv_at hl 7 rfl) ?_
        refine va_calli (va_runS (As := [.int 1, .int (nI g_40)]) (rest := []) ⟨hx, hb, hml, hown, hts⟩ (c_M_spotOf_1 l dC dI _ ad ck x0 x16 x18 x19 x20 x21 x22 x23 x24 x25 x26 x27 x28 x29 x30 x33 x45 x46 x52 x53 x61 x62 x63 x65 x66 f1 f2 f3 q4 q5 q6 q7 f8 q9 q10 f11 m12_0 m12_1 m13_0 m13_1 m14_0 m14_1 m15_0 m15_1 f17 q31 f32 g_57 g_58 f36 f37 g_59 g_60 g_61 g_62 m42_0 g_65 g_63 g_64 z47_2 z48_3 f49 f50 f51 q54 q55 q56 f57 q58 f59 f60 f64 g_40 hx16 hx18 hx19 hx21 hx22 hx26 hx28 hx29 hx30 hx33 hx46 hx52 hx53 hx61 hx62 hx63 hx65 hm12_0 hm12_1 hm13_0 hm13_1 hm14_0 hm14_1 hm15_0 hm15_1 hm42_0 (Nat.le_trans hg_65 (Nat.le_of_ble_eq_true rfl)) (Nat.le_trans hg_40 (Nat.le_of_ble_eq_true rfl))) (va_cwS 2 hts g_M_explores_1_120_M_spotOf_1 rfl rfl rfl (by decide +kernel) ⟨Nat.le_of_ble_eq_true rfl, Nat.le_of_ble_eq_true rfl⟩) ⟨pu_bl, pu_in hP hK hD⟩ rfl rfl hl.1 rfl (lv_room (Nat.le_of_ble_eq_true rfl)) dX9_explores_97 ⟨Nat.le_of_ble_eq_true rfl, Nat.le_of_ble_eq_true rfl⟩) hS (fun q _ h => pu_fr hS hA q h) (pu_fr hS hA) (fun r_73 u t H1 locs ht hvm hw hB hz1 hk1 hS => ?_)
        have hP := pu_keep hP hk1
        clear hk1 hz1 ht hvm
        generalize H1 = H at hP hS ⊢
        obtain rfl : r_73 = nI (120 + g_40) := hw
        refine lv_istore (lv' := [(9, .int (nI (120 + g_40))), (0, .ref (ad 0)), (1, .int 1), (2, .int (nI a1)), (3, .int p2), (4, .int (nI a3)), (5, .int 120), (6, .int p5), (7, .int (nI g_40)), (8, .int (nI g_66))]) hx hb dX9_explores_100 hl (by decide) rfl (fun ls hl => ?_)
        refine lv_aload_n hx hb dX9_explores_102 rfl (lv_at hl 1 rfl) ?_
        refine lv_iload hx hb dX9_explores_103 (lv_at hl 9 rfl) ?_
        refine va_calli (va_runV (As := [.int (nI g_66)]) (rest := []) ⟨hx, hb, hml, hown, hts⟩ (c_M_outOf l dC dI _ ad ck x0 x16 x18 x19 x20 x21 x22 x23 x24 x25 x26 x27 x28 x29 x30 x33 x45 x46 x52 x53 x61 x62 x63 x65 x66 f1 f2 f3 q4 q5 q6 q7 f8 q9 q10 f11 m12_0 m12_1 m13_0 m13_1 m14_0 m14_1 m15_0 m15_1 f17 q31 f32 g_57 g_58 f36 f37 g_59 g_60 g_61 g_62 m42_0 g_65 g_63 g_64 z47_2 z48_3 f49 f50 f51 q54 q55 q56 f57 q58 f59 f60 f64 g_66 hx16 hx18 hx19 hx21 hx22 hx26 hx28 hx29 hx30 hx33 hx46 hx52 hx53 hx61 hx62 hx63 hx65 hm12_0 hm12_1 hm13_0 hm13_1 hm14_0 hm14_1 hm15_0 hm15_1 hm42_0 (Nat.le_trans hg_65 (Nat.le_of_ble_eq_true rfl)) (by omega)) (cwV 1 hts g_M_explores_1_120_M_outOf rfl rfl rfl (by decide +kernel) ⟨Nat.le_of_ble_eq_true rfl, Nat.le_of_ble_eq_true rfl⟩) ⟨pu_bl, va_recv hK hP (ci := 9) (q0 := 0) rfl rfl, pu_in hP hK hD⟩ rfl rfl hl.1 rfl (lv_room (Nat.le_of_ble_eq_true rfl)) dX9_explores_105 ⟨Nat.le_of_ble_eq_true rfl, Nat.le_of_ble_eq_true rfl⟩) hS (fun q _ h => pu_fr hS hA q h) (pu_fr hS hA) (fun r_74 u t H1 locs ht hvm hw hB hz1 hk1 hS => ?_)
        have hP := pu_keep hP hk1
        clear hk1 hz1 ht hvm
        generalize H1 = H at hP hS ⊢
        obtain ⟨u_75, hu_75, rfl⟩ := hw
        refine lv_aload_n hx hb dX9_explores_108 rfl (lv_at hl 1 rfl) ?_
        refine va_get (D := (dC, dI)) (ci := 9) (v := .ref (ad 38)) (C := RX9) (T := TX9) (N := 67) hx hb hts hiX9 hown hK hP 0 rfl rfl 38 (by decide) v_31 (fun _ h9 => h9) rfl dX9_explores_109 ?_
        refine lv_iload hx hb dX9_explores_112 (lv_at hl 0 rfl) ?_
        refine va_iald hx hb hK hP 23 22 rfl rfl (vp_in_nI (n := (120 + g_40)) (by omega) (Nat.le_of_ble_eq_true rfl)) dX9_explores_114 ?_
        refine lv_topi (fun y_76 ey_76 => ?_)
        obtain ⟨u_77, hu_77, qu_77⟩ := bN_get 7 g_59 (((nI (120 + g_40)) : Int32).toNatClampNeg)
        obtain rfl : y_76 = nI u_77 := ey_76.trans qu_77
        refine pu_join (fun H locs ls st => ∃ (g_78 : Nat → Int32) (g_79 : Nat → Int32) (g_80 : Nat → Nat) (g_81 : Nat → Int32) (g_82 : Nat → Int32) (g_83 : Nat → Int32) (g_84 : Nat) (g_85 : Nat → Int32) (g_86 : Nat → Int32), st = [] ∧ g_84 ≤ 120 ∧ gz_ok m42_0 g_81 g_82 g_83 ∧ g_40 < g_84 ∧ va_P (dC, dI) vwCl (mo_w ad ck x0 (nI x16) (nI x18) (nI x19) x20 (nI x21) (nI x22) x23 x24 x25 (nI x26) x27 (nI x28) (nI x29) (nI x30) (nI x33) x45 (nI x46) (nI x52) (nI x53) (nI x61) (nI x62) (nI x63) (nI x65) x66 f1 f2 f3 (bN 3 q4) (bN 7 q5) (bN 7 q6) (bN 4 q7) f8 (bN 2 q9) (bH q10) f11 (b2 m12_0 m12_1) (b2 m13_0 m13_1) (b2 m14_0 m14_1) (b2m m15_0 m15_1) f17 (bA 159 q31) f32 g_78 g_79 f36 f37 (bN 7 g_80) g_81 g_82 g_83 (b2 m42_0 g_84) g_85 g_86 z47_2 z48_3 f49 f50 f51 (bN 13 q54) (bN 120 q55) (bN 120 q56) f57 (bN 120 q58) f59 f60 f64) H ∧ va_D A (mo_w ad ck x0 (nI x16) (nI x18) (nI x19) x20 (nI x21) (nI x22) x23 x24 x25 (nI x26) x27 (nI x28) (nI x29) (nI x30) (nI x33) x45 (nI x46) (nI x52) (nI x53) (nI x61) (nI x62) (nI x63) (nI x65) x66 f1 f2 f3 (bN 3 q4) (bN 7 q5) (bN 7 q6) (bN 4 q7) f8 (bN 2 q9) (bH q10) f11 (b2 m12_0 m12_1) (b2 m13_0 m13_1) (b2 m14_0 m14_1) (b2m m15_0 m15_1) f17 (bA 159 q31) f32 g_78 g_79 f36 f37 (bN 7 g_80) g_81 g_82 g_83 (b2 m42_0 g_84) g_85 g_86 z47_2 z48_3 f49 f50 f51 (bN 13 q54) (bN 120 q55) (bN 120 q56) f57 (bN 120 q58) f59 f60 f64) ∧ va_S A s.heap H locs ∧ lv_has ls 10 [(0, .ref (ad 0)), (1, .int 1), (2, .int (nI a1)), (3, .int p2), (4, .int (nI a3)), (5, .int 120), (6, .int p5), (7, .int (nI g_40)), (8, .int (nI g_66)), (9, .int (nI (120 + g_40)))]) 194 ?_ (fun j_89 => ?_)
        · rintro H locs ls st ⟨g_78, g_79, g_80, g_81, g_82, g_83, g_84, g_85, g_86, rfl, hg_84, he_87, he_88, hP, hD, hS, hl⟩
          refine lv_iinc (v := (nI (g_66 + 1))) (lv' := [(8, .int (nI (g_66 + 1))), (0, .ref (ad 0)), (1, .int 1), (2, .int (nI a1)), (3, .int p2), (4, .int (nI a3)), (5, .int 120), (6, .int p5), (7, .int (nI g_40)), (9, .int (nI (120 + g_40)))]) hx hb dX9_explores_194 hl (k := 8) rfl (nI_1 _) (by decide) rfl (fun ls hl => ?_)
          refine lv_goto (tgt := 80) hx hb dX9_explores_197 (by decide) ?_
          exact ih_69 (14 - (g_66 + 1)) (by omega) _ _ _ ⟨g_78, g_79, g_80, g_81, g_82, g_83, g_85, g_86, g_84, (g_66 + 1), rfl, hg_84, (by omega), by first | assumption | exact gz_0, by omega, hP, hD, hS, lv_sub hl [1, 2, 3, 4, 5, 6, 7, 8, 0] rfl⟩
        refine lv_icmp_ne (tgt := 194) hx hb dX9_explores_115 (by decide) (fun c_90 => ?_) (fun c_90 => ?_)
        · have c_90 : ¬ u_75 = u_77 := fun z => c_90 ((nI_eq (a := u_75) (b := u_77) (Nat.lt_of_le_of_lt hu_75 (Nat.le_of_ble_eq_true rfl)) (Nat.lt_of_le_of_lt hu_77 (Nat.le_of_ble_eq_true rfl))).mpr z)
          exact j_89 _ _ _ _ ⟨g_57, g_58, g_59, g_60, g_61, g_62, g_65, g_63, g_64, rfl, hg_65, by first | assumption | exact gz_0, by omega, hP, hD, hS, lv_sub hl [1, 2, 3, 4, 5, 6, 7, 8, 9, 0] rfl⟩
        · have c_90 : u_75 = u_77 := (nI_eq (a := u_75) (b := u_77) (Nat.lt_of_le_of_lt hu_75 (Nat.le_of_ble_eq_true rfl)) (Nat.lt_of_le_of_lt hu_77 (Nat.le_of_ble_eq_true rfl))).mp c_90
          refine lv_aload_n hx hb dX9_explores_118 rfl (lv_at hl 1 rfl) ?_
          refine lv_iload hx hb dX9_explores_119 (lv_at hl 9 rfl) ?_
          refine va_calli (va_runV (As := [.int (nI g_66)]) (rest := []) ⟨hx, hb, hml, hown, hts⟩ (c_M_into l dC dI _ ad ck x0 x16 x18 x19 x20 x21 x22 x23 x24 x25 x26 x27 x28 x29 x30 x33 x45 x46 x52 x53 x61 x62 x63 x65 x66 f1 f2 f3 q4 q5 q6 q7 f8 q9 q10 f11 m12_0 m12_1 m13_0 m13_1 m14_0 m14_1 m15_0 m15_1 f17 q31 f32 g_57 g_58 f36 f37 g_59 g_60 g_61 g_62 m42_0 g_65 g_63 g_64 z47_2 z48_3 f49 f50 f51 q54 q55 q56 f57 q58 f59 f60 f64 g_66 hx16 hx18 hx19 hx21 hx22 hx26 hx28 hx29 hx30 hx33 hx46 hx52 hx53 hx61 hx62 hx63 hx65 hm12_0 hm12_1 hm13_0 hm13_1 hm14_0 hm14_1 hm15_0 hm15_1 hm42_0 (Nat.le_trans hg_65 (Nat.le_of_ble_eq_true rfl)) (by omega)) (cwV 1 hts g_M_explores_1_120_M_into rfl rfl rfl (by decide +kernel) ⟨Nat.le_of_ble_eq_true rfl, Nat.le_of_ble_eq_true rfl⟩) ⟨pu_bl, va_recv hK hP (ci := 9) (q0 := 0) rfl rfl, pu_in hP hK hD⟩ rfl rfl hl.1 rfl (lv_room (Nat.le_of_ble_eq_true rfl)) dX9_explores_121 ⟨Nat.le_of_ble_eq_true rfl, Nat.le_of_ble_eq_true rfl⟩) hS (fun q _ h => pu_fr hS hA q h) (pu_fr hS hA) (fun r_91 u t H1 locs ht hvm hw hB hz1 hk1 hS => ?_)
          have hP := pu_keep hP hk1
          clear hk1 hz1 ht hvm
          generalize H1 = H at hP hS ⊢
          obtain ⟨u_92, hu_92, rfl⟩ := hw
          refine lv_iload hx hb dX9_explores_124 (lv_at hl 7 rfl) ?_
          refine lv_icmp_ne (tgt := 132) hx hb dX9_explores_126 (by decide) (fun c_93 => ?_) (fun c_93 => ?_)
          · refine lv_aload_n hx hb dX9_explores_132 rfl (lv_at hl 1 rfl) ?_
            refine va_get (D := (dC, dI)) (ci := 9) (v := .ref (ad 34)) (C := RX9) (T := TX9) (N := 67) hx hb hts hiX9 hown hK hP 0 rfl rfl 34 (by decide) v_36 (fun _ h9 => h9) rfl dX9_explores_133 ?_
            refine lv_bipush (v := 25) hx hb dX9_explores_136 (by decide) ?_
            refine lv_iload hx hb dX9_explores_138 (lv_at hl 0 rfl) ?_
            refine lv_imul hx hb dX9_explores_140 ?_
            refine lv_topi (fun y_94 ey_94 => ?_)
            obtain rfl : y_94 = (nI (25 * (120 + g_40))) := ey_94.trans (pk_mul 25 (120 + g_40))
            refine lv_aload_n hx hb dX9_explores_141 rfl (lv_at hl 1 rfl) ?_
            refine va_get (D := (dC, dI)) (ci := 9) (v := .ref (ad 35)) (C := RX9) (T := TX9) (N := 67) hx hb hts hiX9 hown hK hP 0 rfl rfl 35 (by decide) v_9 (fun _ h9 => h9) rfl dX9_explores_142 ?_
            refine lv_iconst (v := 0) hx hb dX9_explores_145 (by decide) ?_
            have hFc := pu_free hD hS hA
            refine va_callv (va_runS (As := [.ref (ad 34), .int (nI (25 * (120 + g_40))), .ref (ad 35), .int 0]) (rest := []) ⟨hx, hb, hml, hown, hts⟩ (c_M_copies_nz l dC dI _ ad ck x0 x16 x18 x19 x20 x21 x22 x23 x24 x25 x26 x27 x28 x29 x30 x33 x45 x46 x52 x53 x61 x62 x63 x65 x66 f1 f2 f3 q4 q5 q6 q7 f8 q9 q10 f11 m12_0 m12_1 m13_0 m13_1 m14_0 m14_1 m15_0 m15_1 f17 q31 f32 g_57 g_58 f36 f37 g_59 g_60 g_61 g_62 m42_0 g_65 g_63 g_64 z47_2 z48_3 f49 f50 f51 q54 q55 q56 f57 q58 f59 f60 f64 (25 * (120 + g_40)) hx16 hx18 hx19 hx21 hx22 hx26 hx28 hx29 hx30 hx33 hx46 hx52 hx53 hx61 hx62 hx63 hx65 hm12_0 hm12_1 hm13_0 hm13_1 hm14_0 hm14_1 hm15_0 hm15_1 hm42_0 (Nat.le_trans hg_65 (Nat.le_of_ble_eq_true rfl)) (by omega)) (va_cwS 4 hts g_M_explores_1_120_M_copies_nz rfl rfl rfl (by decide +kernel) ⟨Nat.le_of_ble_eq_true rfl, Nat.le_of_ble_eq_true rfl⟩) ⟨pu_bl, pu_in hP hK hD⟩ rfl rfl hl.1 rfl (lv_room (Nat.le_of_ble_eq_true rfl)) dX9_explores_146 ⟨Nat.le_of_ble_eq_true rfl, Nat.le_of_ble_eq_true rfl⟩) hS (fun q _ h => hFc q h) hFc (fun u t H1 locs ht hvm hw hB hz1 hk1 hS => ?_)
            obtain ⟨z35_96, ⟨hP1, -, hD1⟩⟩ := hB
            rw [ht] at hP1
            have hP := hP1
            have hD := pu_all hFc hD1
            clear hP1 hD1 hFc
            clear hk1 hz1 ht hvm
            generalize H1 = H at hP hS ⊢
            refine lv_aload_n hx hb dX9_explores_149 rfl (lv_at hl 1 rfl) ?_
            refine lv_iload hx hb dX9_explores_150 (lv_at hl 9 rfl) ?_
            have hFc := pu_free hD hS hA
            refine va_calli (va_runV (As := [.int (nI g_66)]) (rest := []) ⟨hx, hb, hml, hown, hts⟩ (c_M_goesBy l dC dI _ ad ck x0 x16 x18 x19 x20 x21 x22 x23 x24 x25 x26 x27 x28 x29 x30 x33 x45 x46 x52 x53 x61 x62 x63 x65 x66 f1 f2 f3 q4 q5 q6 q7 f8 q9 q10 f11 m12_0 m12_1 m13_0 m13_1 m14_0 m14_1 m15_0 m15_1 f17 q31 f32 g_57 z35_96 f36 f37 g_59 g_60 g_61 g_62 m42_0 g_65 g_63 g_64 z47_2 z48_3 f49 f50 f51 q54 q55 q56 f57 q58 f59 f60 f64 g_66 hx16 hx18 hx19 hx21 hx22 hx26 hx28 hx29 hx30 hx33 hx46 hx52 hx53 hx61 hx62 hx63 hx65 hm12_0 hm12_1 hm13_0 hm13_1 hm14_0 hm14_1 hm15_0 hm15_1 hm42_0 (Nat.le_trans hg_65 (Nat.le_of_ble_eq_true rfl)) (by omega)) (cwV 1 hts g_M_explores_1_120_M_goesBy rfl rfl rfl (by decide +kernel) ⟨Nat.le_of_ble_eq_true rfl, Nat.le_of_ble_eq_true rfl⟩) ⟨pu_bl, va_recv hK hP (ci := 9) (q0 := 0) rfl rfl, pu_in hP hK hD⟩ rfl rfl hl.1 rfl (lv_room (Nat.le_of_ble_eq_true rfl)) dX9_explores_152 ⟨Nat.le_of_ble_eq_true rfl, Nat.le_of_ble_eq_true rfl⟩) hS (fun q _ h => hFc q h) hFc (fun r_97 u t H1 locs ht hvm hw hB hz1 hk1 hS => ?_)
            obtain ⟨z35_98, ⟨hP1, -, hD1⟩⟩ := hB
            rw [ht] at hP1
            have hP := hP1
            have hD := pu_all hFc hD1
            clear hP1 hD1 hFc
            clear hk1 hz1 ht hvm
            generalize H1 = H at hP hS ⊢
            obtain ⟨u_99, hu_99, rfl⟩ := hw
            refine lv_if_ne (tgt := 161) hx hb dX9_explores_155 (by decide) (fun c_100 => ?_) (fun c_100 => ?_)
            · have c_100 : ¬ u_99 = 0 := fun z => c_100 ((nI_eq (a := u_99) (b := 0) (Nat.lt_of_le_of_lt hu_99 (Nat.le_of_ble_eq_true rfl)) (Nat.le_of_ble_eq_true rfl)).mpr z)
              refine lv_aload_n hx hb dX9_explores_161 rfl (lv_at hl 1 rfl) ?_
              refine va_get (D := (dC, dI)) (ci := 9) (v := .ref (ad 43)) (C := RX9) (T := TX9) (N := 67) hx hb hts hiX9 hown hK hP 0 rfl rfl 43 (by decide) v_2 (fun _ h9 => h9) rfl dX9_explores_162 ?_
              refine lv_iload_n hx hb dX9_explores_165 rfl (lv_at hl 2 rfl) ?_
              refine lv_dup2_11 hx hb dX9_explores_166 rfl rfl ?_
              refine va_iald hx hb hK hP 28 27 rfl rfl (vp_in_nI (n := 1) (Nat.le_of_ble_eq_true rfl) (Nat.le_of_ble_eq_true rfl)) dX9_explores_167 ?_
              refine lv_topi (fun y_101 ey_101 => ?_)
              refine lv_iconst (v := 1) hx hb dX9_explores_168 (by decide) ?_
              refine lv_iload hx hb dX9_explores_169 (lv_at hl 9 rfl) ?_
              refine lv_ishl hx hb dX9_explores_171 ?_
              refine lv_topi (fun y_102 ey_102 => ?_)
              refine lv_ior hx hb dX9_explores_172 ?_
              refine lv_topi (fun y_103 ey_103 => ?_)
              refine va_iast hx hb hK hP hD hS 28 27 rfl rfl (vp_in_nI (n := 1) (Nat.le_of_ble_eq_true rfl) (Nat.le_of_ble_eq_true rfl)) dX9_explores_173 (fun H locs hP hD hS => ?_)
              have hP : va_P (dC, dI) vwCl (mo_w ad ck x0 (nI x16) (nI x18) (nI x19) x20 (nI x21) (nI x22) x23 x24 x25 (nI x26) x27 (nI x28) (nI x29) (nI x30) (nI x33) x45 (nI x46) (nI x52) (nI x53) (nI x61) (nI x62) (nI x63) (nI x65) x66 f1 f2 f3 (bN 3 q4) (bN 7 q5) (bN 7 q6) (bN 4 q7) f8 (bN 2 q9) (bH q10) f11 (b2 m12_0 m12_1) (b2 m13_0 m13_1) (b2 m14_0 m14_1) (b2m m15_0 m15_1) f17 (bA 159 q31) f32 g_57 z35_98 f36 f37 (bN 7 g_59) g_60 g_61 g_62 (b2 m42_0 g_65) (upd g_63 (1 : Int32).toNatClampNeg y_103) g_64 z47_2 z48_3 f49 f50 f51 (bN 13 q54) (bN 120 q55) (bN 120 q56) f57 (bN 120 q58) f59 f60 f64) H := hP
              have hD : va_D A (mo_w ad ck x0 (nI x16) (nI x18) (nI x19) x20 (nI x21) (nI x22) x23 x24 x25 (nI x26) x27 (nI x28) (nI x29) (nI x30) (nI x33) x45 (nI x46) (nI x52) (nI x53) (nI x61) (nI x62) (nI x63) (nI x65) x66 f1 f2 f3 (bN 3 q4) (bN 7 q5) (bN 7 q6) (bN 4 q7) f8 (bN 2 q9) (bH q10) f11 (b2 m12_0 m12_1) (b2 m13_0 m13_1) (b2 m14_0 m14_1) (b2m m15_0 m15_1) f17 (bA 159 q31) f32 g_57 z35_98 f36 f37 (bN 7 g_59) g_60 g_61 g_62 (b2 m42_0 g_65) (upd g_63 (1 : Int32).toNatClampNeg y_103) g_64 z47_2 z48_3 f49 f50 f51 (bN 13 q54) (bN 120 q55) (bN 120 q56) f57 (bN 120 q58) f59 f60 f64) := hD
              refine lv_aload_n hx hb dX9_explores_174 rfl (lv_at hl 1 rfl) ?_
              refine lv_iload_n hx hb dX9_explores_175 rfl (lv_at hl 2 rfl) ?_
              refine lv_aload_n hx hb dX9_explores_176 rfl (lv_at hl 1 rfl) ?_
              refine lv_iload hx hb dX9_explores_177 (lv_at hl 9 rfl) ?_
              refine va_calli (va_runV (As := [.int (nI g_66)]) (rest := [.int 1, .ref (ad 0)]) ⟨hx, hb, hml, hown, hts⟩ (c_M_into l dC dI _ ad ck x0 x16 x18 x19 x20 x21 x22 x23 x24 x25 x26 x27 x28 x29 x30 x33 x45 x46 x52 x53 x61 x62 x63 x65 x66 f1 f2 f3 q4 q5 q6 q7 f8 q9 q10 f11 m12_0 m12_1 m13_0 m13_1 m14_0 m14_1 m15_0 m15_1 f17 q31 f32 g_57 z35_98 f36 f37 g_59 g_60 g_61 g_62 m42_0 g_65 (upd g_63 (1 : Int32).toNatClampNeg y_103) g_64 z47_2 z48_3 f49 f50 f51 q54 q55 q56 f57 q58 f59 f60 f64 g_66 hx16 hx18 hx19 hx21 hx22 hx26 hx28 hx29 hx30 hx33 hx46 hx52 hx53 hx61 hx62 hx63 hx65 hm12_0 hm12_1 hm13_0 hm13_1 hm14_0 hm14_1 hm15_0 hm15_1 hm42_0 (Nat.le_trans hg_65 (Nat.le_of_ble_eq_true rfl)) (by omega)) (cwV 1 hts g_M_explores_1_120_M_into rfl rfl rfl (by decide +kernel) ⟨Nat.le_of_ble_eq_true rfl, Nat.le_of_ble_eq_true rfl⟩) ⟨pu_bl, va_recv hK hP (ci := 9) (q0 := 0) rfl rfl, pu_in hP hK hD⟩ rfl rfl hl.1 rfl (lv_room (Nat.le_of_ble_eq_true rfl)) dX9_explores_179 ⟨Nat.le_of_ble_eq_true rfl, Nat.le_of_ble_eq_true rfl⟩) hS (fun q _ h => pu_fr hS hA q h) (pu_fr hS hA) (fun r_104 u t H1 locs ht hvm hw hB hz1 hk1 hS => ?_)
              have hP := pu_keep hP hk1
              clear hk1 hz1 ht hvm
              generalize H1 = H at hP hS ⊢
              obtain ⟨u_105, hu_105, rfl⟩ := hw
              refine lv_iload hx hb dX9_explores_182 (lv_at hl 8 rfl) ?_
              refine lv_iload hx hb dX9_explores_184 (lv_at hl 9 rfl) ?_
              refine lv_iload_n hx hb dX9_explores_186 rfl (lv_at hl 4 rfl) ?_
              refine lv_iload hx hb dX9_explores_187 (lv_at hl 5 rfl) ?_
              refine lv_iload hx hb dX9_explores_189 (lv_at hl 6 rfl) ?_
              have hFc := pu_free hD hS hA
              refine va_callv (va_runV (As := [.int 1, .int (nI u_105), .int (nI g_40), .int (nI g_66), .int p2, .int (nI a3), .int 120]) (rest := []) ⟨hx, hb, hml, hown, hts⟩ (c_M_comes_1_120_1 l dC dI _ ad ck x0 x16 x18 x19 x20 x21 x22 x23 x24 x25 x26 x27 x28 x29 x30 x33 x45 x46 x52 x53 x61 x62 x63 x65 x66 f1 f2 f3 q4 q5 q6 q7 f8 q9 q10 f11 m12_0 m12_1 m13_0 m13_1 m14_0 m14_1 m15_0 m15_1 f17 q31 f32 g_57 z35_98 f36 f37 g_59 g_60 g_61 g_62 m42_0 g_65 (upd g_63 (1 : Int32).toNatClampNeg y_103) g_64 z47_2 z48_3 f49 f50 f51 q54 q55 q56 f57 q58 f59 f60 f64 u_105 g_40 g_66 p2 a3 hx16 hx18 hx19 hx21 hx22 hx26 hx28 hx29 hx30 hx33 hx46 hx52 hx53 hx61 hx62 hx63 hx65 hm12_0 hm12_1 hm13_0 hm13_1 hm14_0 hm14_1 hm15_0 hm15_1 hm42_0 hg_65 hu_105 (by omega) (by omega) ha3 (by first | assumption | exact gz_0)) (cwV 7 hts g_M_explores_1_120_M_comes_1_120_1 rfl rfl rfl (by decide +kernel) ⟨Nat.le_of_ble_eq_true rfl, Nat.le_of_ble_eq_true rfl⟩) ⟨pu_bl, va_recv hK hP (ci := 9) (q0 := 0) rfl rfl, pu_in hP hK hD⟩ rfl rfl hl.1 rfl (lv_room (Nat.le_of_ble_eq_true rfl)) dX9_explores_191 ⟨Nat.le_of_ble_eq_true rfl, Nat.le_of_ble_eq_true rfl⟩) hS (fun q _ h => hFc q h) hFc (fun u t H1 locs ht hvm hw hB hz1 hk1 hS => ?_)
              obtain ⟨z34_107, z35_108, z38_109, z39_110, z40_111, z41_112, z44_113, z42_1_114, ⟨hP1, -, hD1⟩, hz42_1_114, xr_106_0, xr_106_1⟩ := hB
              rw [ht] at hP1
              have hP := hP1
              have hD := pu_all hFc hD1
              clear hP1 hD1 hFc
              clear hk1 hz1 ht hvm
              generalize H1 = H at hP hS ⊢
              exact j_89 _ _ _ _ ⟨z34_107, z35_108, z38_109, z39_110, z40_111, z41_112, z42_1_114, (upd g_63 (1 : Int32).toNatClampNeg y_103), z44_113, rfl, hz42_1_114, by first | assumption | exact gz_0, by omega, hP, hD, hS, lv_sub hl [1, 2, 3, 4, 5, 6, 7, 8, 9, 0] rfl⟩
            · have c_100 : u_99 = 0 := (nI_eq (a := u_99) (b := 0) (Nat.lt_of_le_of_lt hu_99 (Nat.le_of_ble_eq_true rfl)) (Nat.le_of_ble_eq_true rfl)).mp c_100
              refine lv_goto (tgt := 194) hx hb dX9_explores_158 (by decide) ?_
              exact j_89 _ _ _ _ ⟨g_57, z35_98, g_59, g_60, g_61, g_62, g_65, g_63, g_64, rfl, hg_65, by first | assumption | exact gz_0, by omega, hP, hD, hS, lv_sub hl [1, 2, 3, 4, 5, 6, 7, 8, 9, 0] rfl⟩
          · refine lv_goto (tgt := 194) hx hb dX9_explores_129 (by decide) ?_
            exact j_89 _ _ _ _ ⟨g_57, g_58, g_59, g_60, g_61, g_62, g_65, g_63, g_64, rfl, hg_65, by first | assumption | exact gz_0, by omega, hP, hD, hS, lv_sub hl [1, 2, 3, 4, 5, 6, 7, 8, 9, 0] rfl⟩
  · have c_10 : u_9 = 0 := (nI_eq (a := u_9) (b := 0) (Nat.lt_of_le_of_lt hu_9 (Nat.le_of_ble_eq_true rfl)) (Nat.le_of_ble_eq_true rfl)).mp c_10
    exact W.vret hx hb hr (fun t ht hW => ⟨⟨(), rfl, trivial, ⟨f34, z35_8, q38, f39, f40, f41, (upd f43 (1 : Int32).toNatClampNeg 0), (upd f44 (1 : Int32).toNatClampNeg (vp_nar .boolean 0)), z47_2, z48_3, 0, ⟨by rw [ht]; exact hP, va_K.moved hW.alike hK, hD⟩, (Nat.le_of_ble_eq_true rfl), by first | assumption | exact gz_0⟩⟩, hS.F ht⟩) hS.2.2 dX9_explores_49
abbrev vs_M_comes_1_400_0 : List Cond := .code yX9_comes cX9_comes 10 none :: VM
theorem g_M_comes_1_400_0_M_isUrgent : GoodIn vs_M_comes_1_400_0 (wsV RX9 324 RX9 yX9_isUrgent vs_M_isUrgent) := gm_V vm_204 vm_205 vm_206 vm_12 vm_33
theorem g_M_comes_1_400_0_M_forgets : GoodIn vs_M_comes_1_400_0 (wsV RX9 352 RX9 yX9_forgets vs_M_forgets) := gm_V vm_247 vm_248 vm_249 vm_12 vm_230
theorem g_M_comes_1_400_0_M_spotOf_1 : GoodIn vs_M_comes_1_400_0 (va_wsS RX9 355 yX9_spotOf vs_M_spotOf_1) := gm_S vm_241 vm_242 vm_12 vm_13
theorem g_M_comes_1_400_0_M_copies_zn : GoodIn vs_M_comes_1_400_0 (va_wsS RX9 362 yX9_copies vs_M_copies_zn) := gm_S vm_250 vm_251 vm_12 vm_8
theorem g_M_comes_1_400_0_M_hasAll : GoodIn vs_M_comes_1_400_0 (wsV RX9 358 RX9 yX9_hasAll vs_M_hasAll) := gm_V vm_255 vm_256 vm_257 vm_12 vm_231
theorem g_M_comes_1_400_0_M_delays : GoodIn vs_M_comes_1_400_0 (wsV RX9 349 RX9 yX9_delays vs_M_delays) := gm_V vm_244 vm_245 vm_246 vm_12 vm_220
set_option maxHeartbeats 4000000 in
set_option maxRecDepth 100000 in
theorem c_M_comes_1_400_0 (l : Launch) (dC : Nat → ClassId) (dI : Nat → Nat → Nat) (sz : Nat) (ad : Nat → Nat) (ck : Nat → ClassId) (x0 : Int32) (x16 : Nat) (x18 : Nat) (x19 : Nat) (x20 : Int32) (x21 : Nat) (x22 : Nat) (x23 : Int32) (x24 : Int32) (x25 : Int32) (x26 : Nat) (x27 : Int32) (x28 : Nat) (x29 : Nat) (x30 : Nat) (x33 : Nat) (x45 : Int32) (x46 : Nat) (x52 : Nat) (x53 : Nat) (x61 : Nat) (x62 : Nat) (x63 : Nat) (x65 : Nat) (x66 : Int32) (f1 : Nat → Int32) (f2 : Nat → Int32) (f3 : Nat → Int32) (q4 : Nat → Nat) (q5 : Nat → Nat) (q6 : Nat → Nat) (q7 : Nat → Nat) (f8 : Nat → Int32) (q9 : Nat → Nat) (q10 : Nat → Nat) (f11 : Nat → Int32) (m12_0 m12_1 : Nat) (m13_0 m13_1 : Nat) (m14_0 m14_1 : Nat) (m15_0 m15_1 : Nat) (f17 : Nat → Int32) (q31 : Nat → Nat) (f32 : Nat → Int32) (f34 : Nat → Int32) (f35 : Nat → Int32) (f36 : Nat → Int32) (f37 : Nat → Int32) (q38 : Nat → Nat) (f39 : Nat → Int32) (f40 : Nat → Int32) (f41 : Nat → Int32) (m42_0 m42_1 : Nat) (f43 : Nat → Int32) (f44 : Nat → Int32) (f47 : Nat → Int32) (f48 : Nat → Int32) (f49 : Nat → Int32) (f50 : Nat → Int32) (f51 : Nat → Int32) (q54 : Nat → Nat) (q55 : Nat → Nat) (q56 : Nat → Nat) (f57 : Nat → Int32) (q58 : Nat → Nat) (f59 : Nat → Int32) (f60 : Nat → Int32) (f64 : Nat → Int32) (a1 : Nat) (p4 : Int32) (a5 : Nat) (hx16 : x16 ≤ 1) (hx18 : x18 ≤ 900) (hx19 : x19 ≤ 900) (hx21 : x21 ≤ 900) (hx22 : x22 ≤ 4) (hx26 : x26 ≤ 6) (hx28 : x28 ≤ 1) (hx29 : x29 ≤ 1) (hx30 : x30 ≤ 1) (hx33 : x33 ≤ 20) (hx46 : x46 ≤ 5) (hx52 : x52 ≤ 2400) (hx53 : x53 ≤ 119) (hx61 : x61 ≤ 119) (hx62 : x62 ≤ 2000) (hx63 : x63 ≤ 1) (hx65 : x65 ≤ 7) (hm12_0 : m12_0 ≤ 3) (hm12_1 : m12_1 ≤ 3) (hm13_0 : m13_0 ≤ 8) (hm13_1 : m13_1 ≤ 8) (hm14_0 : m14_0 ≤ 14) (hm14_1 : m14_1 ≤ 14) (hm15_0 : m15_0 ≤ 8) (hm15_1 : m15_1 ≤ 8) (hm42_0 : m42_0 ≤ 120) (hm42_1 : m42_1 ≤ 400) (ha1 : a1 ≤ 7) (ha5 : a5 ≤ 1) (hgr : gz_ok m42_0 f39 f40 f41) : Met l yX9_comes vs_M_comes_1_400_0 ({ frames := 5, cells := 0, slots := 0, locals := 113 }) (va_Pc [.ref (ad 0), .int 1, .int (nI a1), .int (-1), .int (-1), .int p4, .int (nI a5), .int 400] (pu_B (dC, dI) (mo_w ad ck x0 (nI x16) (nI x18) (nI x19) x20 (nI x21) (nI x22) x23 x24 x25 (nI x26) x27 (nI x28) (nI x29) (nI x30) (nI x33) x45 (nI x46) (nI x52) (nI x53) (nI x61) (nI x62) (nI x63) (nI x65) x66 f1 f2 f3 (bN 3 q4) (bN 7 q5) (bN 7 q6) (bN 4 q7) f8 (bN 2 q9) (bH q10) f11 (b2 m12_0 m12_1) (b2 m13_0 m13_1) (b2 m14_0 m14_1) (b2m m15_0 m15_1) f17 (bA 159 q31) f32 f34 f35 f36 f37 (bN 7 q38) f39 f40 f41 (b2 m42_0 m42_1) f43 f44 f47 f48 f49 f50 f51 (bN 13 q54) (bN 120 q55) (bN 120 q56) f57 (bN 120 q58) f59 f60 f64) (mo_t ck) sz)) (va_Qv (fun (_ : Unit) => True) (fun _ t => ∃ (z34 : Nat → Int32) (z35 : Nat → Int32) (z38 : Nat → Nat) (z39 : Nat → Int32) (z40 : Nat → Int32) (z41 : Nat → Int32) (z44 : Nat → Int32) (z42_1 : Nat), pu_E (dC, dI) (mo_w ad ck x0 (nI x16) (nI x18) (nI x19) x20 (nI x21) (nI x22) x23 x24 x25 (nI x26) x27 (nI x28) (nI x29) (nI x30) (nI x33) x45 (nI x46) (nI x52) (nI x53) (nI x61) (nI x62) (nI x63) (nI x65) x66 f1 f2 f3 (bN 3 q4) (bN 7 q5) (bN 7 q6) (bN 4 q7) f8 (bN 2 q9) (bH q10) f11 (b2 m12_0 m12_1) (b2 m13_0 m13_1) (b2 m14_0 m14_1) (b2m m15_0 m15_1) f17 (bA 159 q31) f32 z34 z35 f36 f37 (bN 7 z38) z39 z40 z41 (b2 m42_0 z42_1) f43 z44 f47 f48 f49 f50 f51 (bN 13 q54) (bN 120 q55) (bN 120 q56) f57 (bN 120 q58) f59 f60 f64) (mo_t ck) (va_A ((mo_w ad ck x0 (nI x16) (nI x18) (nI x19) x20 (nI x21) (nI x22) x23 x24 x25 (nI x26) x27 (nI x28) (nI x29) (nI x30) (nI x33) x45 (nI x46) (nI x52) (nI x53) (nI x61) (nI x62) (nI x63) (nI x65) x66 f1 f2 f3 (bN 3 q4) (bN 7 q5) (bN 7 q6) (bN 4 q7) f8 (bN 2 q9) (bH q10) f11 (b2 m12_0 m12_1) (b2 m13_0 m13_1) (b2 m14_0 m14_1) (b2m m15_0 m15_1) f17 (bA 159 q31) f32 f34 f35 f36 f37 (bN 7 q38) f39 f40 f41 (b2 m42_0 m42_1) f43 f44 f47 f48 f49 f50 f51 (bN 13 q54) (bN 120 q55) (bN 120 q56) f57 (bN 120 q58) f59 f60 f64)) sz) t ∧ (z42_1 ≤ 400) ∧ (gz_ok m42_0 z39 z40 z41) ∧ (m42_1 ≤ z42_1)) (va_A ((mo_w ad ck x0 (nI x16) (nI x18) (nI x19) x20 (nI x21) (nI x22) x23 x24 x25 (nI x26) x27 (nI x28) (nI x29) (nI x30) (nI x33) x45 (nI x46) (nI x52) (nI x53) (nI x61) (nI x62) (nI x63) (nI x65) x66 f1 f2 f3 (bN 3 q4) (bN 7 q5) (bN 7 q6) (bN 4 q7) f8 (bN 2 q9) (bH q10) f11 (b2 m12_0 m12_1) (b2 m13_0 m13_1) (b2 m14_0 m14_1) (b2m m15_0 m15_1) f17 (bA 159 q31) f32 f34 f35 f36 f37 (bN 7 q38) f39 f40 f41 (b2 m42_0 m42_1) f43 f44 f47 f48 f49 f50 f51 (bN 13 q54) (bN 120 q55) (bN 120 q56) f57 (bN 120 q58) f59 f60 f64)) sz)) 0 0 (va_A ((mo_w ad ck x0 (nI x16) (nI x18) (nI x19) x20 (nI x21) (nI x22) x23 x24 x25 (nI x26) x27 (nI x28) (nI x29) (nI x30) (nI x33) x45 (nI x46) (nI x52) (nI x53) (nI x61) (nI x62) (nI x63) (nI x65) x66 f1 f2 f3 (bN 3 q4) (bN 7 q5) (bN 7 q6) (bN 4 q7) f8 (bN 2 q9) (bH q10) f11 (b2 m12_0 m12_1) (b2 m13_0 m13_1) (b2 m14_0 m14_1) (b2m m15_0 m15_1) f17 (bA 159 q31) f32 f34 f35 f36 f37 (bN 7 q38) f39 f40 f41 (b2 m42_0 m42_1) f43 f44 f47 f48 f49 f50 f51 (bN 13 q54) (bN 120 q55) (bN 120 q56) f57 (bN 120 q58) f59 f60 f64)) sz) := by
  refine Met.ofW (cc := cX9_comes) (maxL := 10) (ret := none) (by decide) rfl ?_
  intro p e s m args below meth c s₁ B hml hv
  obtain ⟨rfl, rfl, hP, hK, hD0⟩ := hv
  have hx := B.exec
  have hb := B.bytes
  have hr := B.returns
  have hts := atoms_spec (ws := vs_M_comes_1_400_0) B.pre
  have v_6 := hts (.fieldLink RX9 71 "ClockReachModel" "z" "[I") (List.mem_cons_of_mem _ vm_234)
  have v_15 := hts (.fieldLink RX9 92 "ClockReachModel" "stateMany" "[I") (List.mem_cons_of_mem _ vm_177)
  have v_16 := hts (.fieldLink RX9 98 "ClockReachModel" "isFull" "[Z") (List.mem_cons_of_mem _ vm_178)
  have v_20 := hts (.fieldLink RX9 68 "ClockReachModel" "zone" "[I") (List.mem_cons_of_mem _ vm_232)
  have v_24 := hts (.fieldLink RX9 80 "ClockReachModel" "statePlace" "[I") (List.mem_cons_of_mem _ vm_240)
  have v_25 := hts (.fieldLink RX9 83 "ClockReachModel" "stateFrom" "[I") (List.mem_cons_of_mem _ vm_252)
  have v_26 := hts (.fieldLink RX9 86 "ClockReachModel" "stateBy" "[I") (List.mem_cons_of_mem _ vm_253)
  have v_27 := hts (.fieldLink RX9 89 "ClockReachModel" "stateDeep" "[I") (List.mem_cons_of_mem _ vm_254)
  have hown : s.vm.findClass RX9 = some m.cls := findClass_of_methodNamed B.named
  have hlocks := B.notSynchronized
  have hiX9 : ∀ w ∈ wsX90, w ∈ vs_M_comes_1_400_0 := fun _ h => List.mem_cons_of_mem _ (List.mem_append_right _ h)
  have hD := hD0.self (sz := s.heap.size)
  generalize hAe : va_A ((mo_w ad ck x0 (nI x16) (nI x18) (nI x19) x20 (nI x21) (nI x22) x23 x24 x25 (nI x26) x27 (nI x28) (nI x29) (nI x30) (nI x33) x45 (nI x46) (nI x52) (nI x53) (nI x61) (nI x62) (nI x63) (nI x65) x66 f1 f2 f3 (bN 3 q4) (bN 7 q5) (bN 7 q6) (bN 4 q7) f8 (bN 2 q9) (bH q10) f11 (b2 m12_0 m12_1) (b2 m13_0 m13_1) (b2 m14_0 m14_1) (b2m m15_0 m15_1) f17 (bA 159 q31) f32 f34 f35 f36 f37 (bN 7 q38) f39 f40 f41 (b2 m42_0 m42_1) f43 f44 f47 f48 f49 f50 f51 (bN 13 q54) (bN 120 q55) (bN 120 q56) f57 (bN 120 q58) f59 f60 f64)) s.heap.size = A at hD ⊢
  have hA : ∀ q : Nat, s.heap.size ≤ q → A q := fun q h => by rw [← hAe]; exact Or.inr h
  have hS : va_S A s.heap s.heap [] := va_S.rf
  have hl := lv_entry ([.ref (ad 0), .int 1, .int (nI a1), .int (-1), .int (-1), .int p4, .int (nI a5), .int 400]) (n := 10) (Nat.le_of_ble_eq_true rfl)
  rw [lg_entry_eq]
  generalize (lg_sl ([.ref (ad 0), .int 1, .int (nI a1), .int (-1), .int (-1), .int p4, .int (nI a5), .int 400]) ++ List.replicate (10 - (lg_sl ([.ref (ad 0), .int 1, .int (nI a1), .int (-1), .int (-1), .int p4, .int (nI a5), .int 400])).length) Slot.unset).toArray = ls at hl ⊢
  have hl : lv_has ls 10 [(0, .ref (ad 0)), (1, .int 1), (2, .int (nI a1)), (3, .int (-1)), (4, .int (-1)), (5, .int p4), (6, .int (nI a5)), (7, .int 400)] := hl
  refine lv_aload_n hx hb dX9_comes_0 rfl (lv_at hl 0 rfl) ?_
  refine lv_iload_n hx hb dX9_comes_1 rfl (lv_at hl 2 rfl) ?_
  refine va_calli (va_runV (As := [.int (nI a1)]) (rest := []) ⟨hx, hb, hml, hown, hts⟩ (c_M_isUrgent l dC dI _ ad ck x0 x16 x18 x19 x20 x21 x22 x23 x24 x25 x26 x27 x28 x29 x30 x33 x45 x46 x52 x53 x61 x62 x63 x65 x66 f1 f2 f3 q4 q5 q6 q7 f8 q9 q10 f11 m12_0 m12_1 m13_0 m13_1 m14_0 m14_1 m15_0 m15_1 f17 q31 f32 f34 f35 f36 f37 q38 f39 f40 f41 m42_0 m42_1 f43 f44 f47 f48 f49 f50 f51 q54 q55 q56 f57 q58 f59 f60 f64 a1 hx16 hx18 hx19 hx21 hx22 hx26 hx28 hx29 hx30 hx33 hx46 hx52 hx53 hx61 hx62 hx63 hx65 hm12_0 hm12_1 hm13_0 hm13_1 hm14_0 hm14_1 hm15_0 hm15_1 hm42_0 hm42_1 ha1) (cwV 1 hts g_M_comes_1_400_0_M_isUrgent rfl rfl rfl (by decide +kernel) ⟨Nat.le_of_ble_eq_true rfl, Nat.le_of_ble_eq_true rfl⟩) ⟨pu_bl, va_recv hK hP (ci := 9) (q0 := 0) rfl rfl, pu_in hP hK hD⟩ rfl rfl hl.1 rfl (lv_room (Nat.le_of_ble_eq_true rfl)) dX9_comes_2 ⟨Nat.le_of_ble_eq_true rfl, Nat.le_of_ble_eq_true rfl⟩) hS (fun q _ h => pu_fr hS hA q h) (pu_fr hS hA) (fun r_1 u t H1 locs ht hvm hw hB hz1 hk1 hS => ?_)
  have hP := pu_keep hP hk1
  clear hk1 hz1 ht hvm
  generalize H1 = H at hP hS ⊢
  obtain ⟨u_2, hu_2, rfl⟩ := hw
  refine pu_join (fun H locs ls st => ∃ (g_3 : Nat → Int32), st = [] ∧ va_P (dC, dI) vwCl (mo_w ad ck x0 (nI x16) (nI x18) (nI x19) x20 (nI x21) (nI x22) x23 x24 x25 (nI x26) x27 (nI x28) (nI x29) (nI x30) (nI x33) x45 (nI x46) (nI x52) (nI x53) (nI x61) (nI x62) (nI x63) (nI x65) x66 f1 f2 f3 (bN 3 q4) (bN 7 q5) (bN 7 q6) (bN 4 q7) f8 (bN 2 q9) (bH q10) f11 (b2 m12_0 m12_1) (b2 m13_0 m13_1) (b2 m14_0 m14_1) (b2m m15_0 m15_1) f17 (bA 159 q31) f32 f34 g_3 f36 f37 (bN 7 q38) f39 f40 f41 (b2 m42_0 m42_1) f43 f44 f47 f48 f49 f50 f51 (bN 13 q54) (bN 120 q55) (bN 120 q56) f57 (bN 120 q58) f59 f60 f64) H ∧ va_D A (mo_w ad ck x0 (nI x16) (nI x18) (nI x19) x20 (nI x21) (nI x22) x23 x24 x25 (nI x26) x27 (nI x28) (nI x29) (nI x30) (nI x33) x45 (nI x46) (nI x52) (nI x53) (nI x61) (nI x62) (nI x63) (nI x65) x66 f1 f2 f3 (bN 3 q4) (bN 7 q5) (bN 7 q6) (bN 4 q7) f8 (bN 2 q9) (bH q10) f11 (b2 m12_0 m12_1) (b2 m13_0 m13_1) (b2 m14_0 m14_1) (b2m m15_0 m15_1) f17 (bA 159 q31) f32 f34 g_3 f36 f37 (bN 7 q38) f39 f40 f41 (b2 m42_0 m42_1) f43 f44 f47 f48 f49 f50 f51 (bN 13 q54) (bN 120 q55) (bN 120 q56) f57 (bN 120 q58) f59 f60 f64) ∧ va_S A s.heap H locs ∧ lv_has ls 10 [(0, .ref (ad 0)), (1, .int 1), (2, .int (nI a1)), (3, .int (-1)), (4, .int (-1)), (5, .int p4), (6, .int (nI a5)), (7, .int 400)]) 17 ?_ (fun j_4 => ?_)
  · rintro H locs ls st ⟨g_3, rfl, hP, hD, hS, hl⟩
    refine lv_aload_n hx hb dX9_comes_17 rfl (lv_at hl 0 rfl) ?_
    refine lv_aload_n hx hb dX9_comes_18 rfl (lv_at hl 0 rfl) ?_
    refine va_get (D := (dC, dI)) (ci := 9) (v := .ref (ad 35)) (C := RX9) (T := TX9) (N := 67) hx hb hts hiX9 hown hK hP 0 rfl rfl 35 (by decide) v_6 (fun _ h9 => h9) rfl dX9_comes_19 ?_
    refine lv_iload hx hb dX9_comes_22 (lv_at hl 5 rfl) ?_
    have hFc := pu_free hD hS hA
    refine va_callv (va_runV (As := [.ref (ad 35), .int p4]) (rest := []) ⟨hx, hb, hml, hown, hts⟩ (c_M_forgets l dC dI _ ad ck x0 x16 x18 x19 x20 x21 x22 x23 x24 x25 x26 x27 x28 x29 x30 x33 x45 x46 x52 x53 x61 x62 x63 x65 x66 f1 f2 f3 q4 q5 q6 q7 f8 q9 q10 f11 m12_0 m12_1 m13_0 m13_1 m14_0 m14_1 m15_0 m15_1 f17 q31 f32 f34 g_3 f36 f37 q38 f39 f40 f41 m42_0 m42_1 f43 f44 f47 f48 f49 f50 f51 q54 q55 q56 f57 q58 f59 f60 f64 p4 hx16 hx18 hx19 hx21 hx22 hx26 hx28 hx29 hx30 hx33 hx46 hx52 hx53 hx61 hx62 hx63 hx65 hm12_0 hm12_1 hm13_0 hm13_1 hm14_0 hm14_1 hm15_0 hm15_1 hm42_0 hm42_1) (cwV 2 hts g_M_comes_1_400_0_M_forgets rfl rfl rfl (by decide +kernel) ⟨Nat.le_of_ble_eq_true rfl, Nat.le_of_ble_eq_true rfl⟩) ⟨pu_bl, va_recv hK hP (ci := 9) (q0 := 0) rfl rfl, pu_in hP hK hD⟩ rfl rfl hl.1 rfl (lv_room (Nat.le_of_ble_eq_true rfl)) dX9_comes_24 ⟨Nat.le_of_ble_eq_true rfl, Nat.le_of_ble_eq_true rfl⟩) hS (fun q _ h => hFc q h) hFc (fun u t H1 locs ht hvm hw hB hz1 hk1 hS => ?_)
    obtain ⟨z35_6, ⟨hP1, -, hD1⟩⟩ := hB
    rw [ht] at hP1
    have hP := hP1
    have hD := pu_all hFc hD1
    clear hP1 hD1 hFc
    clear hk1 hz1 ht hvm
    generalize H1 = H at hP hS ⊢
    refine lv_iconst (v := 0) hx hb dX9_comes_27 (by decide) ?_
    refine lv_istore (lv' := [(8, .int 0), (0, .ref (ad 0)), (1, .int 1), (2, .int (nI a1)), (3, .int (-1)), (4, .int (-1)), (5, .int p4), (6, .int (nI a5)), (7, .int 400)]) hx hb dX9_comes_28 hl (by decide) rfl (fun ls hl => ?_)
    refine pu_while (fun nn H locs ls => ∃ (g_8 : Nat), nn = 400 - g_8 ∧ g_8 ≤ 400 ∧ va_P (dC, dI) vwCl (mo_w ad ck x0 (nI x16) (nI x18) (nI x19) x20 (nI x21) (nI x22) x23 x24 x25 (nI x26) x27 (nI x28) (nI x29) (nI x30) (nI x33) x45 (nI x46) (nI x52) (nI x53) (nI x61) (nI x62) (nI x63) (nI x65) x66 f1 f2 f3 (bN 3 q4) (bN 7 q5) (bN 7 q6) (bN 4 q7) f8 (bN 2 q9) (bH q10) f11 (b2 m12_0 m12_1) (b2 m13_0 m13_1) (b2 m14_0 m14_1) (b2m m15_0 m15_1) f17 (bA 159 q31) f32 f34 z35_6 f36 f37 (bN 7 q38) f39 f40 f41 (b2 m42_0 m42_1) f43 f44 f47 f48 f49 f50 f51 (bN 13 q54) (bN 120 q55) (bN 120 q56) f57 (bN 120 q58) f59 f60 f64) H ∧ va_D A (mo_w ad ck x0 (nI x16) (nI x18) (nI x19) x20 (nI x21) (nI x22) x23 x24 x25 (nI x26) x27 (nI x28) (nI x29) (nI x30) (nI x33) x45 (nI x46) (nI x52) (nI x53) (nI x61) (nI x62) (nI x63) (nI x65) x66 f1 f2 f3 (bN 3 q4) (bN 7 q5) (bN 7 q6) (bN 4 q7) f8 (bN 2 q9) (bH q10) f11 (b2 m12_0 m12_1) (b2 m13_0 m13_1) (b2 m14_0 m14_1) (b2m m15_0 m15_1) f17 (bA 159 q31) f32 f34 z35_6 f36 f37 (bN 7 q38) f39 f40 f41 (b2 m42_0 m42_1) f43 f44 f47 f48 f49 f50 f51 (bN 13 q54) (bN 120 q55) (bN 120 q56) f57 (bN 120 q58) f59 f60 f64) ∧ va_S A s.heap H locs ∧ lv_has ls 10 [(0, .ref (ad 0)), (1, .int 1), (2, .int (nI a1)), (3, .int (-1)), (4, .int (-1)), (5, .int p4), (6, .int (nI a5)), (7, .int 400), (8, .int (nI g_8))]) 30 ?_ _ _ _ _ ⟨0, rfl, (Nat.le_of_ble_eq_true rfl), hP, hD, hS, lv_sub hl [1, 2, 3, 4, 5, 6, 7, 8, 0] rfl⟩
    rintro nn ih_9 H locs ls ⟨g_8, rfl, hg_8, hP, hD, hS, hl⟩
    refine lv_iload hx hb dX9_comes_30 (lv_at hl 8 rfl) ?_
    refine lv_aload_n hx hb dX9_comes_32 rfl (lv_at hl 0 rfl) ?_
    refine va_get (D := (dC, dI)) (ci := 9) (v := .ref (ad 42)) (C := RX9) (T := TX9) (N := 67) hx hb hts hiX9 hown hK hP 0 rfl rfl 42 (by decide) v_15 (fun _ h9 => h9) rfl dX9_comes_33 ?_
    refine lv_iload_n hx hb dX9_comes_36 rfl (lv_at hl 1 rfl) ?_
    refine va_iald hx hb hK hP 27 26 rfl rfl (vp_in_nI (n := 1) (Nat.le_of_ble_eq_true rfl) (Nat.le_of_ble_eq_true rfl)) dX9_comes_37 ?_
    refine lv_topi (fun y_10 ey_10 => ?_)
    have qy_10 := ey_10.trans b2_1
    clear ey_10
    obtain rfl : y_10 = nI m42_1 := qy_10
    refine lv_icmp_ge (tgt := 90) hx hb dX9_comes_38 (by decide) (fun c_11 => ?_) (fun c_11 => ?_)
    · have c_11 : m42_1 ≤ g_8 := (nI_leI (a := m42_1) (b := g_8) (Nat.lt_of_le_of_lt hm42_1 (Nat.le_of_ble_eq_true rfl)) (Nat.lt_of_le_of_lt hg_8 (Nat.le_of_ble_eq_true rfl))).mp c_11
      refine lv_aload_n hx hb dX9_comes_90 rfl (lv_at hl 0 rfl) ?_
      refine va_get (D := (dC, dI)) (ci := 9) (v := .ref (ad 42)) (C := RX9) (T := TX9) (N := 67) hx hb hts hiX9 hown hK hP 0 rfl rfl 42 (by decide) v_15 (fun _ h9 => h9) rfl dX9_comes_91 ?_
      refine lv_iload_n hx hb dX9_comes_94 rfl (lv_at hl 1 rfl) ?_
      refine va_iald hx hb hK hP 27 26 rfl rfl (vp_in_nI (n := 1) (Nat.le_of_ble_eq_true rfl) (Nat.le_of_ble_eq_true rfl)) dX9_comes_95 ?_
      refine lv_topi (fun y_12 ey_12 => ?_)
      have qy_12 := ey_12.trans b2_1
      clear ey_12
      obtain rfl : y_12 = nI m42_1 := qy_12
      refine lv_iload hx hb dX9_comes_96 (lv_at hl 7 rfl) ?_
      refine lv_icmp_eq (tgt := 110) hx hb dX9_comes_98 (by decide) (fun c_13 => ?_) (fun c_13 => ?_)
      · have c_13 : m42_1 = 400 := (nI_eq (a := m42_1) (b := 400) (Nat.lt_of_le_of_lt hm42_1 (Nat.le_of_ble_eq_true rfl)) (Nat.le_of_ble_eq_true rfl)).mp c_13
        refine lv_aload_n hx hb dX9_comes_110 rfl (lv_at hl 0 rfl) ?_
        refine va_get (D := (dC, dI)) (ci := 9) (v := .ref (ad 44)) (C := RX9) (T := TX9) (N := 67) hx hb hts hiX9 hown hK hP 0 rfl rfl 44 (by decide) v_16 (fun _ h9 => h9) rfl dX9_comes_111 ?_
        refine lv_iload_n hx hb dX9_comes_114 rfl (lv_at hl 1 rfl) ?_
        refine lv_iconst (v := 1) hx hb dX9_comes_115 (by decide) ?_
        refine va_zast hx hb hK hP hD hS 29 28 rfl rfl (vp_in_nI (n := 1) (Nat.le_of_ble_eq_true rfl) (Nat.le_of_ble_eq_true rfl)) dX9_comes_116 (fun H locs hP hD hS => ?_)
        have hP : va_P (dC, dI) vwCl (mo_w ad ck x0 (nI x16) (nI x18) (nI x19) x20 (nI x21) (nI x22) x23 x24 x25 (nI x26) x27 (nI x28) (nI x29) (nI x30) (nI x33) x45 (nI x46) (nI x52) (nI x53) (nI x61) (nI x62) (nI x63) (nI x65) x66 f1 f2 f3 (bN 3 q4) (bN 7 q5) (bN 7 q6) (bN 4 q7) f8 (bN 2 q9) (bH q10) f11 (b2 m12_0 m12_1) (b2 m13_0 m13_1) (b2 m14_0 m14_1) (b2m m15_0 m15_1) f17 (bA 159 q31) f32 f34 z35_6 f36 f37 (bN 7 q38) f39 f40 f41 (b2 m42_0 m42_1) f43 (upd f44 (1 : Int32).toNatClampNeg (vp_nar .boolean 1)) f47 f48 f49 f50 f51 (bN 13 q54) (bN 120 q55) (bN 120 q56) f57 (bN 120 q58) f59 f60 f64) H := hP
        have hD : va_D A (mo_w ad ck x0 (nI x16) (nI x18) (nI x19) x20 (nI x21) (nI x22) x23 x24 x25 (nI x26) x27 (nI x28) (nI x29) (nI x30) (nI x33) x45 (nI x46) (nI x52) (nI x53) (nI x61) (nI x62) (nI x63) (nI x65) x66 f1 f2 f3 (bN 3 q4) (bN 7 q5) (bN 7 q6) (bN 4 q7) f8 (bN 2 q9) (bH q10) f11 (b2 m12_0 m12_1) (b2 m13_0 m13_1) (b2 m14_0 m14_1) (b2m m15_0 m15_1) f17 (bA 159 q31) f32 f34 z35_6 f36 f37 (bN 7 q38) f39 f40 f41 (b2 m42_0 m42_1) f43 (upd f44 (1 : Int32).toNatClampNeg (vp_nar .boolean 1)) f47 f48 f49 f50 f51 (bN 13 q54) (bN 120 q55) (bN 120 q56) f57 (bN 120 q58) f59 f60 f64) := hD
        exact W.vret hx hb hr (fun t ht hW => ⟨⟨(), rfl, trivial, ⟨f34, z35_6, q38, f39, f40, f41, (upd f44 (1 : Int32).toNatClampNeg (vp_nar .boolean 1)), m42_1, ⟨by rw [ht]; exact hP, va_K.moved hW.alike hK, hD⟩, hm42_1, hgr, by omega⟩⟩, hS.F ht⟩) hS.2.2 dX9_comes_117
      · have c_13 : ¬ m42_1 = 400 := fun z => c_13 ((nI_eq (a := m42_1) (b := 400) (Nat.lt_of_le_of_lt hm42_1 (Nat.le_of_ble_eq_true rfl)) (Nat.le_of_ble_eq_true rfl)).mpr z)
        refine lv_aload_n hx hb dX9_comes_101 rfl (lv_at hl 0 rfl) ?_
        refine va_get (D := (dC, dI)) (ci := 9) (v := .ref (ad 44)) (C := RX9) (T := TX9) (N := 67) hx hb hts hiX9 hown hK hP 0 rfl rfl 44 (by decide) v_16 (fun _ h9 => h9) rfl dX9_comes_102 ?_
        refine lv_iload_n hx hb dX9_comes_105 rfl (lv_at hl 1 rfl) ?_
        refine va_zald hx hb hK hP 29 28 rfl rfl (vp_in_nI (n := 1) (Nat.le_of_ble_eq_true rfl) (Nat.le_of_ble_eq_true rfl)) dX9_comes_106 ?_
        refine lv_topi (fun y_14 ey_14 => ?_)
        refine lv_if_eq (tgt := 118) hx hb dX9_comes_107 (by decide) (fun c_15 => ?_) (fun c_15 => ?_)
        · refine lv_iload_n hx hb dX9_comes_118 rfl (lv_at hl 1 rfl) ?_
          refine lv_aload_n hx hb dX9_comes_119 rfl (lv_at hl 0 rfl) ?_
          refine va_get (D := (dC, dI)) (ci := 9) (v := .ref (ad 42)) (C := RX9) (T := TX9) (N := 67) hx hb hts hiX9 hown hK hP 0 rfl rfl 42 (by decide) v_15 (fun _ h9 => h9) rfl dX9_comes_120 ?_
          refine lv_iload_n hx hb dX9_comes_123 rfl (lv_at hl 1 rfl) ?_
          refine va_iald hx hb hK hP 27 26 rfl rfl (vp_in_nI (n := 1) (Nat.le_of_ble_eq_true rfl) (Nat.le_of_ble_eq_true rfl)) dX9_comes_124 ?_
          refine lv_topi (fun y_16 ey_16 => ?_)
          have qy_16 := ey_16.trans b2_1
          clear ey_16
          obtain rfl : y_16 = nI m42_1 := qy_16
          refine va_calli (va_runS (As := [.int 1, .int (nI m42_1)]) (rest := []) ⟨hx, hb, hml, hown, hts⟩ (c_M_spotOf_1 l dC dI _ ad ck x0 x16 x18 x19 x20 x21 x22 x23 x24 x25 x26 x27 x28 x29 x30 x33 x45 x46 x52 x53 x61 x62 x63 x65 x66 f1 f2 f3 q4 q5 q6 q7 f8 q9 q10 f11 m12_0 m12_1 m13_0 m13_1 m14_0 m14_1 m15_0 m15_1 f17 q31 f32 f34 z35_6 f36 f37 q38 f39 f40 f41 m42_0 m42_1 f43 f44 f47 f48 f49 f50 f51 q54 q55 q56 f57 q58 f59 f60 f64 m42_1 hx16 hx18 hx19 hx21 hx22 hx26 hx28 hx29 hx30 hx33 hx46 hx52 hx53 hx61 hx62 hx63 hx65 hm12_0 hm12_1 hm13_0 hm13_1 hm14_0 hm14_1 hm15_0 hm15_1 hm42_0 hm42_1 (by omega)) (va_cwS 2 hts g_M_comes_1_400_0_M_spotOf_1 rfl rfl rfl (by decide +kernel) ⟨Nat.le_of_ble_eq_true rfl, Nat.le_of_ble_eq_true rfl⟩) ⟨pu_bl, pu_in hP hK hD⟩ rfl rfl hl.1 rfl (lv_room (Nat.le_of_ble_eq_true rfl)) dX9_comes_125 ⟨Nat.le_of_ble_eq_true rfl, Nat.le_of_ble_eq_true rfl⟩) hS (fun q _ h => pu_fr hS hA q h) (pu_fr hS hA) (fun r_17 u t H1 locs ht hvm hw hB hz1 hk1 hS => ?_)
          have hP := pu_keep hP hk1
          clear hk1 hz1 ht hvm
          generalize H1 = H at hP hS ⊢
          obtain rfl : r_17 = nI (120 + m42_1) := hw
          refine lv_istore (lv' := [(8, .int (nI (120 + m42_1))), (0, .ref (ad 0)), (1, .int 1), (2, .int (nI a1)), (3, .int (-1)), (4, .int (-1)), (5, .int p4), (6, .int (nI a5)), (7, .int 400)]) hx hb dX9_comes_128 hl (by decide) rfl (fun ls hl => ?_)
          refine lv_aload_n hx hb dX9_comes_130 rfl (lv_at hl 1 rfl) ?_
          refine va_get (D := (dC, dI)) (ci := 9) (v := .ref (ad 35)) (C := RX9) (T := TX9) (N := 67) hx hb hts hiX9 hown hK hP 0 rfl rfl 35 (by decide) v_6 (fun _ h9 => h9) rfl dX9_comes_131 ?_
          refine lv_iconst (v := 0) hx hb dX9_comes_134 (by decide) ?_
          refine lv_aload_n hx hb dX9_comes_135 rfl (lv_at hl 1 rfl) ?_
          refine va_get (D := (dC, dI)) (ci := 9) (v := .ref (ad 34)) (C := RX9) (T := TX9) (N := 67) hx hb hts hiX9 hown hK hP 0 rfl rfl 34 (by decide) v_20 (fun _ h9 => h9) rfl dX9_comes_136 ?_
          refine lv_bipush (v := 25) hx hb dX9_comes_139 (by decide) ?_
          refine lv_iload hx hb dX9_comes_141 (lv_at hl 0 rfl) ?_
          refine lv_imul hx hb dX9_comes_143 ?_
          refine lv_topi (fun y_18 ey_18 => ?_)
          obtain rfl : y_18 = (nI (25 * (120 + m42_1))) := ey_18.trans (pk_mul 25 (120 + m42_1))
          have hFc := pu_free hD hS hA
          refine va_callv (va_runS (As := [.ref (ad 35), .int 0, .ref (ad 34), .int (nI (25 * (120 + m42_1)))]) (rest := []) ⟨hx, hb, hml, hown, hts⟩ (c_M_copies_zn l dC dI _ ad ck x0 x16 x18 x19 x20 x21 x22 x23 x24 x25 x26 x27 x28 x29 x30 x33 x45 x46 x52 x53 x61 x62 x63 x65 x66 f1 f2 f3 q4 q5 q6 q7 f8 q9 q10 f11 m12_0 m12_1 m13_0 m13_1 m14_0 m14_1 m15_0 m15_1 f17 q31 f32 f34 z35_6 f36 f37 q38 f39 f40 f41 m42_0 m42_1 f43 f44 f47 f48 f49 f50 f51 q54 q55 q56 f57 q58 f59 f60 f64 (25 * (120 + m42_1)) hx16 hx18 hx19 hx21 hx22 hx26 hx28 hx29 hx30 hx33 hx46 hx52 hx53 hx61 hx62 hx63 hx65 hm12_0 hm12_1 hm13_0 hm13_1 hm14_0 hm14_1 hm15_0 hm15_1 hm42_0 hm42_1 (by omega)) (va_cwS 4 hts g_M_comes_1_400_0_M_copies_zn rfl rfl rfl (by decide +kernel) ⟨Nat.le_of_ble_eq_true rfl, Nat.le_of_ble_eq_true rfl⟩) ⟨pu_bl, pu_in hP hK hD⟩ rfl rfl hl.1 rfl (lv_room (Nat.le_of_ble_eq_true rfl)) dX9_comes_144 ⟨Nat.le_of_ble_eq_true rfl, Nat.le_of_ble_eq_true rfl⟩) hS (fun q _ h => hFc q h) hFc (fun u t H1 locs ht hvm hw hB hz1 hk1 hS => ?_)
          obtain ⟨z34_20, ⟨hP1, -, hD1⟩⟩ := hB
          rw [ht] at hP1
          have hP := hP1
          have hD := pu_all hFc hD1
          clear hP1 hD1 hFc
          clear hk1 hz1 ht hvm
          generalize H1 = H at hP hS ⊢
          refine lv_aload_n hx hb dX9_comes_147 rfl (lv_at hl 1 rfl) ?_
          refine va_get (D := (dC, dI)) (ci := 9) (v := .ref (ad 38)) (C := RX9) (T := TX9) (N := 67) hx hb hts hiX9 hown hK hP 0 rfl rfl 38 (by decide) v_24 (fun _ h9 => h9) rfl dX9_comes_148 ?_
          refine lv_iload hx hb dX9_comes_151 (lv_at hl 0 rfl) ?_
          refine lv_iload_n hx hb dX9_comes_153 rfl (lv_at hl 3 rfl) ?_
          refine va_iast hx hb hK hP hD hS 23 22 rfl rfl (vp_in_nI (n := (120 + m42_1)) (by omega) (Nat.le_of_ble_eq_true rfl)) dX9_comes_154 (fun H locs hP hD hS => ?_)
          obtain ⟨q_21, eq_21, kq_21⟩ := bN_up 7 q38 (((nI (120 + m42_1)) : Int32).toNatClampNeg) (v := a1) ha1
          have hP : va_P (dC, dI) vwCl (mo_w ad ck x0 (nI x16) (nI x18) (nI x19) x20 (nI x21) (nI x22) x23 x24 x25 (nI x26) x27 (nI x28) (nI x29) (nI x30) (nI x33) x45 (nI x46) (nI x52) (nI x53) (nI x61) (nI x62) (nI x63) (nI x65) x66 f1 f2 f3 (bN 3 q4) (bN 7 q5) (bN 7 q6) (bN 4 q7) f8 (bN 2 q9) (bH q10) f11 (b2 m12_0 m12_1) (b2 m13_0 m13_1) (b2 m14_0 m14_1) (b2m m15_0 m15_1) f17 (bA 159 q31) f32 z34_20 z35_6 f36 f37 (bN 7 q_21) f39 f40 f41 (b2 m42_0 m42_1) f43 f44 f47 f48 f49 f50 f51 (bN 13 q54) (bN 120 q55) (bN 120 q56) f57 (bN 120 q58) f59 f60 f64) H := by rw [← eq_21]; exact hP
          have hD : va_D A (mo_w ad ck x0 (nI x16) (nI x18) (nI x19) x20 (nI x21) (nI x22) x23 x24 x25 (nI x26) x27 (nI x28) (nI x29) (nI x30) (nI x33) x45 (nI x46) (nI x52) (nI x53) (nI x61) (nI x62) (nI x63) (nI x65) x66 f1 f2 f3 (bN 3 q4) (bN 7 q5) (bN 7 q6) (bN 4 q7) f8 (bN 2 q9) (bH q10) f11 (b2 m12_0 m12_1) (b2 m13_0 m13_1) (b2 m14_0 m14_1) (b2m m15_0 m15_1) f17 (bA 159 q31) f32 z34_20 z35_6 f36 f37 (bN 7 q_21) f39 f40 f41 (b2 m42_0 m42_1) f43 f44 f47 f48 f49 f50 f51 (bN 13 q54) (bN 120 q55) (bN 120 q56) f57 (bN 120 q58) f59 f60 f64) := by rw [← eq_21]; exact hD
          refine lv_aload_n hx hb dX9_comes_155 rfl (lv_at hl 1 rfl) ?_
          refine va_get (D := (dC, dI)) (ci := 9) (v := .ref (ad 39)) (C := RX9) (T := TX9) (N := 67) hx hb hts hiX9 hown hK hP 0 rfl rfl 39 (by decide) v_25 (fun _ h9 => h9) rfl dX9_comes_156 ?_
          refine lv_iload hx hb dX9_comes_159 (lv_at hl 0 rfl) ?_
          refine lv_iload_n hx hb dX9_comes_161 rfl (lv_at hl 4 rfl) ?_
          refine va_iast hx hb hK hP hD hS 24 23 rfl rfl (vp_in_nI (n := (120 + m42_1)) (by omega) (Nat.le_of_ble_eq_true rfl)) dX9_comes_162 (fun H locs hP hD hS => ?_)
          have hP : va_P (dC, dI) vwCl (mo_w ad ck x0 (nI x16) (nI x18) (nI x19) x20 (nI x21) (nI x22) x23 x24 x25 (nI x26) x27 (nI x28) (nI x29) (nI x30) (nI x33) x45 (nI x46) (nI x52) (nI x53) (nI x61) (nI x62) (nI x63) (nI x65) x66 f1 f2 f3 (bN 3 q4) (bN 7 q5) (bN 7 q6) (bN 4 q7) f8 (bN 2 q9) (bH q10) f11 (b2 m12_0 m12_1) (b2 m13_0 m13_1) (b2 m14_0 m14_1) (b2m m15_0 m15_1) f17 (bA 159 q31) f32 z34_20 z35_6 f36 f37 (bN 7 q_21) (upd f39 ((nI (120 + m42_1)) : Int32).toNatClampNeg (-1)) f40 f41 (b2 m42_0 m42_1) f43 f44 f47 f48 f49 f50 f51 (bN 13 q54) (bN 120 q55) (bN 120 q56) f57 (bN 120 q58) f59 f60 f64) H := hP
          have hD : va_D A (mo_w ad ck x0 (nI x16) (nI x18) (nI x19) x20 (nI x21) (nI x22) x23 x24 x25 (nI x26) x27 (nI x28) (nI x29) (nI x30) (nI x33) x45 (nI x46) (nI x52) (nI x53) (nI x61) (nI x62) (nI x63) (nI x65) x66 f1 f2 f3 (bN 3 q4) (bN 7 q5) (bN 7 q6) (bN 4 q7) f8 (bN 2 q9) (bH q10) f11 (b2 m12_0 m12_1) (b2 m13_0 m13_1) (b2 m14_0 m14_1) (b2m m15_0 m15_1) f17 (bA 159 q31) f32 z34_20 z35_6 f36 f37 (bN 7 q_21) (upd f39 ((nI (120 + m42_1)) : Int32).toNatClampNeg (-1)) f40 f41 (b2 m42_0 m42_1) f43 f44 f47 f48 f49 f50 f51 (bN 13 q54) (bN 120 q55) (bN 120 q56) f57 (bN 120 q58) f59 f60 f64) := hD
          refine lv_aload_n hx hb dX9_comes_163 rfl (lv_at hl 1 rfl) ?_
          refine va_get (D := (dC, dI)) (ci := 9) (v := .ref (ad 40)) (C := RX9) (T := TX9) (N := 67) hx hb hts hiX9 hown hK hP 0 rfl rfl 40 (by decide) v_26 (fun _ h9 => h9) rfl dX9_comes_164 ?_
          refine lv_iload hx hb dX9_comes_167 (lv_at hl 0 rfl) ?_
          refine lv_iload hx hb dX9_comes_169 (lv_at hl 5 rfl) ?_
          refine va_iast hx hb hK hP hD hS 25 24 rfl rfl (vp_in_nI (n := (120 + m42_1)) (by omega) (Nat.le_of_ble_eq_true rfl)) dX9_comes_171 (fun H locs hP hD hS => ?_)
          have hP : va_P (dC, dI) vwCl (mo_w ad ck x0 (nI x16) (nI x18) (nI x19) x20 (nI x21) (nI x22) x23 x24 x25 (nI x26) x27 (nI x28) (nI x29) (nI x30) (nI x33) x45 (nI x46) (nI x52) (nI x53) (nI x61) (nI x62) (nI x63) (nI x65) x66 f1 f2 f3 (bN 3 q4) (bN 7 q5) (bN 7 q6) (bN 4 q7) f8 (bN 2 q9) (bH q10) f11 (b2 m12_0 m12_1) (b2 m13_0 m13_1) (b2 m14_0 m14_1) (b2m m15_0 m15_1) f17 (bA 159 q31) f32 z34_20 z35_6 f36 f37 (bN 7 q_21) (upd f39 ((nI (120 + m42_1)) : Int32).toNatClampNeg (-1)) (upd f40 ((nI (120 + m42_1)) : Int32).toNatClampNeg (-1)) f41 (b2 m42_0 m42_1) f43 f44 f47 f48 f49 f50 f51 (bN 13 q54) (bN 120 q55) (bN 120 q56) f57 (bN 120 q58) f59 f60 f64) H := hP
          have hD : va_D A (mo_w ad ck x0 (nI x16) (nI x18) (nI x19) x20 (nI x21) (nI x22) x23 x24 x25 (nI x26) x27 (nI x28) (nI x29) (nI x30) (nI x33) x45 (nI x46) (nI x52) (nI x53) (nI x61) (nI x62) (nI x63) (nI x65) x66 f1 f2 f3 (bN 3 q4) (bN 7 q5) (bN 7 q6) (bN 4 q7) f8 (bN 2 q9) (bH q10) f11 (b2 m12_0 m12_1) (b2 m13_0 m13_1) (b2 m14_0 m14_1) (b2m m15_0 m15_1) f17 (bA 159 q31) f32 z34_20 z35_6 f36 f37 (bN 7 q_21) (upd f39 ((nI (120 + m42_1)) : Int32).toNatClampNeg (-1)) (upd f40 ((nI (120 + m42_1)) : Int32).toNatClampNeg (-1)) f41 (b2 m42_0 m42_1) f43 f44 f47 f48 f49 f50 f51 (bN 13 q54) (bN 120 q55) (bN 120 q56) f57 (bN 120 q58) f59 f60 f64) := hD
          refine lv_aload_n hx hb dX9_comes_172 rfl (lv_at hl 1 rfl) ?_
          refine va_get (D := (dC, dI)) (ci := 9) (v := .ref (ad 41)) (C := RX9) (T := TX9) (N := 67) hx hb hts hiX9 hown hK hP 0 rfl rfl 41 (by decide) v_27 (fun _ h9 => h9) rfl dX9_comes_173 ?_
          refine lv_iload hx hb dX9_comes_176 (lv_at hl 0 rfl) ?_
          refine lv_iload_n hx hb dX9_comes_178 rfl (lv_at hl 4 rfl) ?_
          refine lv_iconst (v := (-1)) hx hb dX9_comes_179 (by decide) ?_
          refine lv_icmp_ne (tgt := 187) hx hb dX9_comes_180 (by decide) (fun z => absurd z (by decide)) (fun _ => ?_)
          refine lv_iconst (v := 0) hx hb dX9_comes_183 (by decide) ?_
          refine lv_goto (tgt := 199) hx hb dX9_comes_184 (by decide) ?_
          refine va_iast hx hb hK hP hD hS 26 25 rfl rfl (vp_in_nI (n := (120 + m42_1)) (by omega) (Nat.le_of_ble_eq_true rfl)) dX9_comes_199 (fun H locs hP hD hS => ?_)
          have hP : va_P (dC, dI) vwCl (mo_w ad ck x0 (nI x16) (nI x18) (nI x19) x20 (nI x21) (nI x22) x23 x24 x25 (nI x26) x27 (nI x28) (nI x29) (nI x30) (nI x33) x45 (nI x46) (nI x52) (nI x53) (nI x61) (nI x62) (nI x63) (nI x65) x66 f1 f2 f3 (bN 3 q4) (bN 7 q5) (bN 7 q6) (bN 4 q7) f8 (bN 2 q9) (bH q10) f11 (b2 m12_0 m12_1) (b2 m13_0 m13_1) (b2 m14_0 m14_1) (b2m m15_0 m15_1) f17 (bA 159 q31) f32 z34_20 z35_6 f36 f37 (bN 7 q_21) (upd f39 ((nI (120 + m42_1)) : Int32).toNatClampNeg (-1)) (upd f40 ((nI (120 + m42_1)) : Int32).toNatClampNeg (-1)) (upd f41 ((nI (120 + m42_1)) : Int32).toNatClampNeg 0) (b2 m42_0 m42_1) f43 f44 f47 f48 f49 f50 f51 (bN 13 q54) (bN 120 q55) (bN 120 q56) f57 (bN 120 q58) f59 f60 f64) H := hP
          have hD : va_D A (mo_w ad ck x0 (nI x16) (nI x18) (nI x19) x20 (nI x21) (nI x22) x23 x24 x25 (nI x26) x27 (nI x28) (nI x29) (nI x30) (nI x33) x45 (nI x46) (nI x52) (nI x53) (nI x61) (nI x62) (nI x63) (nI x65) x66 f1 f2 f3 (bN 3 q4) (bN 7 q5) (bN 7 q6) (bN 4 q7) f8 (bN 2 q9) (bH q10) f11 (b2 m12_0 m12_1) (b2 m13_0 m13_1) (b2 m14_0 m14_1) (b2m m15_0 m15_1) f17 (bA 159 q31) f32 z34_20 z35_6 f36 f37 (bN 7 q_21) (upd f39 ((nI (120 + m42_1)) : Int32).toNatClampNeg (-1)) (upd f40 ((nI (120 + m42_1)) : Int32).toNatClampNeg (-1)) (upd f41 ((nI (120 + m42_1)) : Int32).toNatClampNeg 0) (b2 m42_0 m42_1) f43 f44 f47 f48 f49 f50 f51 (bN 13 q54) (bN 120 q55) (bN 120 q56) f57 (bN 120 q58) f59 f60 f64) := hD
          refine lv_aload_n hx hb dX9_comes_200 rfl (lv_at hl 1 rfl) ?_
          refine va_get (D := (dC, dI)) (ci := 9) (v := .ref (ad 42)) (C := RX9) (T := TX9) (N := 67) hx hb hts hiX9 hown hK hP 0 rfl rfl 42 (by decide) v_15 (fun _ h9 => h9) rfl dX9_comes_201 ?_
          refine lv_iload_n hx hb dX9_comes_204 rfl (lv_at hl 2 rfl) ?_
          refine lv_dup2_11 hx hb dX9_comes_205 rfl rfl ?_
          refine va_iald hx hb hK hP 27 26 rfl rfl (vp_in_nI (n := 1) (Nat.le_of_ble_eq_true rfl) (Nat.le_of_ble_eq_true rfl)) dX9_comes_206 ?_
          refine lv_topi (fun y_22 ey_22 => ?_)
          have qy_22 := ey_22.trans b2_1
          clear ey_22
          obtain rfl : y_22 = nI m42_1 := qy_22
          refine lv_iconst (v := 1) hx hb dX9_comes_207 (by decide) ?_
          refine lv_iadd hx hb dX9_comes_208 ?_
          refine lv_topi (fun y_23 ey_23 => ?_)
          obtain rfl : y_23 = (nI (m42_1 + 1)) := ey_23.trans (nI_add m42_1 1)
          refine va_iast hx hb hK hP hD hS 27 26 rfl rfl (vp_in_nI (n := 1) (Nat.le_of_ble_eq_true rfl) (Nat.le_of_ble_eq_true rfl)) dX9_comes_209 (fun H locs hP hD hS => ?_)
          have hP : va_P (dC, dI) vwCl (mo_w ad ck x0 (nI x16) (nI x18) (nI x19) x20 (nI x21) (nI x22) x23 x24 x25 (nI x26) x27 (nI x28) (nI x29) (nI x30) (nI x33) x45 (nI x46) (nI x52) (nI x53) (nI x61) (nI x62) (nI x63) (nI x65) x66 f1 f2 f3 (bN 3 q4) (bN 7 q5) (bN 7 q6) (bN 4 q7) f8 (bN 2 q9) (bH q10) f11 (b2 m12_0 m12_1) (b2 m13_0 m13_1) (b2 m14_0 m14_1) (b2m m15_0 m15_1) f17 (bA 159 q31) f32 z34_20 z35_6 f36 f37 (bN 7 q_21) (upd f39 ((nI (120 + m42_1)) : Int32).toNatClampNeg (-1)) (upd f40 ((nI (120 + m42_1)) : Int32).toNatClampNeg (-1)) (upd f41 ((nI (120 + m42_1)) : Int32).toNatClampNeg 0) (b2 m42_0 (m42_1 + 1)) f43 f44 f47 f48 f49 f50 f51 (bN 13 q54) (bN 120 q55) (bN 120 q56) f57 (bN 120 q58) f59 f60 f64) H := by rw [← b2_up1 (a := m42_0) (b := m42_1) (v := (m42_1 + 1))]; exact hP
          have hD : va_D A (mo_w ad ck x0 (nI x16) (nI x18) (nI x19) x20 (nI x21) (nI x22) x23 x24 x25 (nI x26) x27 (nI x28) (nI x29) (nI x30) (nI x33) x45 (nI x46) (nI x52) (nI x53) (nI x61) (nI x62) (nI x63) (nI x65) x66 f1 f2 f3 (bN 3 q4) (bN 7 q5) (bN 7 q6) (bN 4 q7) f8 (bN 2 q9) (bH q10) f11 (b2 m12_0 m12_1) (b2 m13_0 m13_1) (b2 m14_0 m14_1) (b2m m15_0 m15_1) f17 (bA 159 q31) f32 z34_20 z35_6 f36 f37 (bN 7 q_21) (upd f39 ((nI (120 + m42_1)) : Int32).toNatClampNeg (-1)) (upd f40 ((nI (120 + m42_1)) : Int32).toNatClampNeg (-1)) (upd f41 ((nI (120 + m42_1)) : Int32).toNatClampNeg 0) (b2 m42_0 (m42_1 + 1)) f43 f44 f47 f48 f49 f50 f51 (bN 13 q54) (bN 120 q55) (bN 120 q56) f57 (bN 120 q58) f59 f60 f64) := by rw [← b2_up1 (a := m42_0) (b := m42_1) (v := (m42_1 + 1))]; exact hD
          exact W.vret hx hb hr (fun t ht hW => ⟨⟨(), rfl, trivial, ⟨z34_20, z35_6, q_21, (upd f39 ((nI (120 + m42_1)) : Int32).toNatClampNeg (-1)), (upd f40 ((nI (120 + m42_1)) : Int32).toNatClampNeg (-1)), (upd f41 ((nI (120 + m42_1)) : Int32).toNatClampNeg 0), f44, (m42_1 + 1), ⟨by rw [ht]; exact hP, va_K.moved hW.alike hK, hD⟩, (by omega), gz_farN hgr (by omega) (by omega), by omega⟩⟩, hS.F ht⟩) hS.2.2 dX9_comes_210
        · refine lv_aload_n hx hb dX9_comes_110 rfl (lv_at hl 0 rfl) ?_
          refine va_get (D := (dC, dI)) (ci := 9) (v := .ref (ad 44)) (C := RX9) (T := TX9) (N := 67) hx hb hts hiX9 hown hK hP 0 rfl rfl 44 (by decide) v_16 (fun _ h9 => h9) rfl dX9_comes_111 ?_
          refine lv_iload_n hx hb dX9_comes_114 rfl (lv_at hl 1 rfl) ?_
          refine lv_iconst (v := 1) hx hb dX9_comes_115 (by decide) ?_
          refine va_zast hx hb hK hP hD hS 29 28 rfl rfl (vp_in_nI (n := 1) (Nat.le_of_ble_eq_true rfl) (Nat.le_of_ble_eq_true rfl)) dX9_comes_116 (fun H locs hP hD hS => ?_)
          have hP : va_P (dC, dI) vwCl (mo_w ad ck x0 (nI x16) (nI x18) (nI x19) x20 (nI x21) (nI x22) x23 x24 x25 (nI x26) x27 (nI x28) (nI x29) (nI x30) (nI x33) x45 (nI x46) (nI x52) (nI x53) (nI x61) (nI x62) (nI x63) (nI x65) x66 f1 f2 f3 (bN 3 q4) (bN 7 q5) (bN 7 q6) (bN 4 q7) f8 (bN 2 q9) (bH q10) f11 (b2 m12_0 m12_1) (b2 m13_0 m13_1) (b2 m14_0 m14_1) (b2m m15_0 m15_1) f17 (bA 159 q31) f32 f34 z35_6 f36 f37 (bN 7 q38) f39 f40 f41 (b2 m42_0 m42_1) f43 (upd f44 (1 : Int32).toNatClampNeg (vp_nar .boolean 1)) f47 f48 f49 f50 f51 (bN 13 q54) (bN 120 q55) (bN 120 q56) f57 (bN 120 q58) f59 f60 f64) H := hP
          have hD : va_D A (mo_w ad ck x0 (nI x16) (nI x18) (nI x19) x20 (nI x21) (nI x22) x23 x24 x25 (nI x26) x27 (nI x28) (nI x29) (nI x30) (nI x33) x45 (nI x46) (nI x52) (nI x53) (nI x61) (nI x62) (nI x63) (nI x65) x66 f1 f2 f3 (bN 3 q4) (bN 7 q5) (bN 7 q6) (bN 4 q7) f8 (bN 2 q9) (bH q10) f11 (b2 m12_0 m12_1) (b2 m13_0 m13_1) (b2 m14_0 m14_1) (b2m m15_0 m15_1) f17 (bA 159 q31) f32 f34 z35_6 f36 f37 (bN 7 q38) f39 f40 f41 (b2 m42_0 m42_1) f43 (upd f44 (1 : Int32).toNatClampNeg (vp_nar .boolean 1)) f47 f48 f49 f50 f51 (bN 13 q54) (bN 120 q55) (bN 120 q56) f57 (bN 120 q58) f59 f60 f64) := hD
          exact W.vret hx hb hr (fun t ht hW => ⟨⟨(), rfl, trivial, ⟨f34, z35_6, q38, f39, f40, f41, (upd f44 (1 : Int32).toNatClampNeg (vp_nar .boolean 1)), m42_1, ⟨by rw [ht]; exact hP, va_K.moved hW.alike hK, hD⟩, hm42_1, hgr, by omega⟩⟩, hS.F ht⟩) hS.2.2 dX9_comes_117
    · have c_11 : ¬ m42_1 ≤ g_8 := fun z => c_11 ((nI_leI (a := m42_1) (b := g_8) (Nat.lt_of_le_of_lt hm42_1 (Nat.le_of_ble_eq_true rfl)) (Nat.lt_of_le_of_lt hg_8 (Nat.le_of_ble_eq_true rfl))).mpr z)
      refine lv_iload_n hx hb dX9_comes_41 rfl (lv_at hl 1 rfl) ?_
      refine lv_iload hx hb dX9_comes_42 (lv_at hl 8 rfl) ?_
      refine va_calli (va_runS (As := [.int 1, .int (nI g_8)]) (rest := []) ⟨hx, hb, hml, hown, hts⟩ (c_M_spotOf_1 l dC dI _ ad ck x0 x16 x18 x19 x20 x21 x22 x23 x24 x25 x26 x27 x28 x29 x30 x33 x45 x46 x52 x53 x61 x62 x63 x65 x66 f1 f2 f3 q4 q5 q6 q7 f8 q9 q10 f11 m12_0 m12_1 m13_0 m13_1 m14_0 m14_1 m15_0 m15_1 f17 q31 f32 f34 z35_6 f36 f37 q38 f39 f40 f41 m42_0 m42_1 f43 f44 f47 f48 f49 f50 f51 q54 q55 q56 f57 q58 f59 f60 f64 g_8 hx16 hx18 hx19 hx21 hx22 hx26 hx28 hx29 hx30 hx33 hx46 hx52 hx53 hx61 hx62 hx63 hx65 hm12_0 hm12_1 hm13_0 hm13_1 hm14_0 hm14_1 hm15_0 hm15_1 hm42_0 hm42_1 (by omega)) (va_cwS 2 hts g_M_comes_1_400_0_M_spotOf_1 rfl rfl rfl (by decide +kernel) ⟨Nat.le_of_ble_eq_true rfl, Nat.le_of_ble_eq_true rfl⟩) ⟨pu_bl, pu_in hP hK hD⟩ rfl rfl hl.1 rfl (lv_room (Nat.le_of_ble_eq_true rfl)) dX9_comes_44 ⟨Nat.le_of_ble_eq_true rfl, Nat.le_of_ble_eq_true rfl⟩) hS (fun q _ h => pu_fr hS hA q h) (pu_fr hS hA) (fun r_24 u t H1 locs ht hvm hw hB hz1 hk1 hS => ?_)
      have hP := pu_keep hP hk1
      clear hk1 hz1 ht hvm
      generalize H1 = H at hP hS ⊢
      obtain rfl : r_24 = nI (120 + g_8) := hw
      refine lv_istore (lv' := [(9, .int (nI (120 + g_8))), (0, .ref (ad 0)), (1, .int 1), (2, .int (nI a1)), (3, .int (-1)), (4, .int (-1)), (5, .int p4), (6, .int (nI a5)), (7, .int 400), (8, .int (nI g_8))]) hx hb dX9_comes_47 hl (by decide) rfl (fun ls hl => ?_)
      refine lv_aload_n hx hb dX9_comes_49 rfl (lv_at hl 1 rfl) ?_
      refine va_get (D := (dC, dI)) (ci := 9) (v := .ref (ad 38)) (C := RX9) (T := TX9) (N := 67) hx hb hts hiX9 hown hK hP 0 rfl rfl 38 (by decide) v_24 (fun _ h9 => h9) rfl dX9_comes_50 ?_
      refine lv_iload hx hb dX9_comes_53 (lv_at hl 0 rfl) ?_
      refine va_iald hx hb hK hP 23 22 rfl rfl (vp_in_nI (n := (120 + g_8)) (by omega) (Nat.le_of_ble_eq_true rfl)) dX9_comes_55 ?_
      refine lv_topi (fun y_25 ey_25 => ?_)
      obtain ⟨u_26, hu_26, qu_26⟩ := bN_get 7 q38 (((nI (120 + g_8)) : Int32).toNatClampNeg)
      obtain rfl : y_25 = nI u_26 := ey_25.trans qu_26
      refine lv_iload_n hx hb dX9_comes_56 rfl (lv_at hl 3 rfl) ?_
      refine lv_icmp_ne (tgt := 84) hx hb dX9_comes_57 (by decide) (fun c_27 => ?_) (fun c_27 => ?_)
      · have c_27 : ¬ u_26 = a1 := fun z => c_27 ((nI_eq (a := u_26) (b := a1) (Nat.lt_of_le_of_lt hu_26 (Nat.le_of_ble_eq_true rfl)) (Nat.lt_of_le_of_lt ha1 (Nat.le_of_ble_eq_true rfl))).mpr z)
        refine lv_iinc (v := (nI (g_8 + 1))) (lv' := [(8, .int (nI (g_8 + 1))), (9, .int (nI (120 + g_8))), (0, .ref (ad 0)), (1, .int 1), (2, .int (nI a1)), (3, .int (-1)), (4, .int (-1)), (5, .int p4), (6, .int (nI a5)), (7, .int 400)]) hx hb dX9_comes_84 hl (k := 9) rfl (nI_1 _) (by decide) rfl (fun ls hl => ?_)
        refine lv_goto (tgt := 30) hx hb dX9_comes_87 (by decide) ?_
        exact ih_9 (400 - (g_8 + 1)) (by omega) _ _ _ ⟨(g_8 + 1), rfl, (by omega), hP, hD, hS, lv_sub hl [2, 3, 4, 5, 6, 7, 8, 9, 0] rfl⟩
      · have c_27 : u_26 = a1 := (nI_eq (a := u_26) (b := a1) (Nat.lt_of_le_of_lt hu_26 (Nat.le_of_ble_eq_true rfl)) (Nat.lt_of_le_of_lt ha1 (Nat.le_of_ble_eq_true rfl))).mp c_27
        refine lv_aload_n hx hb dX9_comes_60 rfl (lv_at hl 1 rfl) ?_
        refine lv_iload hx hb dX9_comes_61 (lv_at hl 0 rfl) ?_
        refine lv_aload_n hx hb dX9_comes_63 rfl (lv_at hl 1 rfl) ?_
        refine va_get (D := (dC, dI)) (ci := 9) (v := .ref (ad 35)) (C := RX9) (T := TX9) (N := 67) hx hb hts hiX9 hown hK hP 0 rfl rfl 35 (by decide) v_6 (fun _ h9 => h9) rfl dX9_comes_64 ?_
        refine lv_iload hx hb dX9_comes_67 (lv_at hl 7 rfl) ?_
        refine pu_join (fun H locs ls st => ∃ (g_28 : Nat), st = [.int (nI g_28), .ref (ad 35), .int (nI (120 + g_8)), .ref (ad 0)] ∧ g_28 ≤ 1 ∧ va_P (dC, dI) vwCl (mo_w ad ck x0 (nI x16) (nI x18) (nI x19) x20 (nI x21) (nI x22) x23 x24 x25 (nI x26) x27 (nI x28) (nI x29) (nI x30) (nI x33) x45 (nI x46) (nI x52) (nI x53) (nI x61) (nI x62) (nI x63) (nI x65) x66 f1 f2 f3 (bN 3 q4) (bN 7 q5) (bN 7 q6) (bN 4 q7) f8 (bN 2 q9) (bH q10) f11 (b2 m12_0 m12_1) (b2 m13_0 m13_1) (b2 m14_0 m14_1) (b2m m15_0 m15_1) f17 (bA 159 q31) f32 f34 z35_6 f36 f37 (bN 7 q38) f39 f40 f41 (b2 m42_0 m42_1) f43 f44 f47 f48 f49 f50 f51 (bN 13 q54) (bN 120 q55) (bN 120 q56) f57 (bN 120 q58) f59 f60 f64) H ∧ va_D A (mo_w ad ck x0 (nI x16) (nI x18) (nI x19) x20 (nI x21) (nI x22) x23 x24 x25 (nI x26) x27 (nI x28) (nI x29) (nI x30) (nI x33) x45 (nI x46) (nI x52) (nI x53) (nI x61) (nI x62) (nI x63) (nI x65) x66 f1 f2 f3 (bN 3 q4) (bN 7 q5) (bN 7 q6) (bN 4 q7) f8 (bN 2 q9) (bH q10) f11 (b2 m12_0 m12_1) (b2 m13_0 m13_1) (b2 m14_0 m14_1) (b2m m15_0 m15_1) f17 (bA 159 q31) f32 f34 z35_6 f36 f37 (bN 7 q38) f39 f40 f41 (b2 m42_0 m42_1) f43 f44 f47 f48 f49 f50 f51 (bN 13 q54) (bN 120 q55) (bN 120 q56) f57 (bN 120 q58) f59 f60 f64) ∧ va_S A s.heap H locs ∧ lv_has ls 10 [(0, .ref (ad 0)), (1, .int 1), (2, .int (nI a1)), (3, .int (-1)), (4, .int (-1)), (5, .int p4), (6, .int (nI a5)), (7, .int 400), (8, .int (nI g_8)), (9, .int (nI (120 + g_8)))]) 77 ?_ (fun j_29 => ?_)
        · rintro H locs ls st ⟨g_28, rfl, hg_28, hP, hD, hS, hl⟩
          refine va_calli (va_runV (As := [.int (nI (120 + g_8)), .ref (ad 35), .int (nI g_28)]) (rest := []) ⟨hx, hb, hml, hown, hts⟩ (c_M_hasAll l dC dI _ ad ck x0 x16 x18 x19 x20 x21 x22 x23 x24 x25 x26 x27 x28 x29 x30 x33 x45 x46 x52 x53 x61 x62 x63 x65 x66 f1 f2 f3 q4 q5 q6 q7 f8 q9 q10 f11 m12_0 m12_1 m13_0 m13_1 m14_0 m14_1 m15_0 m15_1 f17 q31 f32 f34 z35_6 f36 f37 q38 f39 f40 f41 m42_0 m42_1 f43 f44 f47 f48 f49 f50 f51 q54 q55 q56 f57 q58 f59 f60 f64 (120 + g_8) g_28 hx16 hx18 hx19 hx21 hx22 hx26 hx28 hx29 hx30 hx33 hx46 hx52 hx53 hx61 hx62 hx63 hx65 hm12_0 hm12_1 hm13_0 hm13_1 hm14_0 hm14_1 hm15_0 hm15_1 hm42_0 hm42_1 (by omega) hg_28) (cwV 3 hts g_M_comes_1_400_0_M_hasAll rfl rfl rfl (by decide +kernel) ⟨Nat.le_of_ble_eq_true rfl, Nat.le_of_ble_eq_true rfl⟩) ⟨pu_bl, va_recv hK hP (ci := 9) (q0 := 0) rfl rfl, pu_in hP hK hD⟩ rfl rfl hl.1 rfl (lv_room (Nat.le_of_ble_eq_true rfl)) dX9_comes_77 ⟨Nat.le_of_ble_eq_true rfl, Nat.le_of_ble_eq_true rfl⟩) hS (fun q _ h => pu_fr hS hA q h) (pu_fr hS hA) (fun r_30 u t H1 locs ht hvm hw hB hz1 hk1 hS => ?_)
          have hP := pu_keep hP hk1
          clear hk1 hz1 ht hvm
          generalize H1 = H at hP hS ⊢
          obtain ⟨u_31, hu_31, rfl⟩ := hw
          refine lv_if_eq (tgt := 84) hx hb dX9_comes_80 (by decide) (fun c_32 => ?_) (fun c_32 => ?_)
          · have c_32 : u_31 = 0 := (nI_eq (a := u_31) (b := 0) (Nat.lt_of_le_of_lt hu_31 (Nat.le_of_ble_eq_true rfl)) (Nat.le_of_ble_eq_true rfl)).mp c_32
            refine lv_iinc (v := (nI (g_8 + 1))) (lv' := [(8, .int (nI (g_8 + 1))), (0, .ref (ad 0)), (1, .int 1), (2, .int (nI a1)), (3, .int (-1)), (4, .int (-1)), (5, .int p4), (6, .int (nI a5)), (7, .int 400), (9, .int (nI (120 + g_8)))]) hx hb dX9_comes_84 hl (k := 8) rfl (nI_1 _) (by decide) rfl (fun ls hl => ?_)
            refine lv_goto (tgt := 30) hx hb dX9_comes_87 (by decide) ?_
            exact ih_9 (400 - (g_8 + 1)) (by omega) _ _ _ ⟨(g_8 + 1), rfl, (by omega), hP, hD, hS, lv_sub hl [1, 2, 3, 4, 5, 6, 7, 8, 0] rfl⟩
          · have c_32 : ¬ u_31 = 0 := fun z => c_32 ((nI_eq (a := u_31) (b := 0) (Nat.lt_of_le_of_lt hu_31 (Nat.le_of_ble_eq_true rfl)) (Nat.le_of_ble_eq_true rfl)).mpr z)
            exact W.vret hx hb hr (fun t ht hW => ⟨⟨(), rfl, trivial, ⟨f34, z35_6, q38, f39, f40, f41, f44, m42_1, ⟨by rw [ht]; exact hP, va_K.moved hW.alike hK, hD⟩, hm42_1, hgr, by omega⟩⟩, hS.F ht⟩) hS.2.2 dX9_comes_83
        refine lv_if_ne (tgt := 76) hx hb dX9_comes_69 (by decide) (fun c_33 => ?_) (fun c_33 => ?_)
        · have c_33 : ¬ a5 = 0 := fun z => c_33 ((nI_eq (a := a5) (b := 0) (Nat.lt_of_le_of_lt ha5 (Nat.le_of_ble_eq_true rfl)) (Nat.le_of_ble_eq_true rfl)).mpr z)
          refine lv_iconst (v := 0) hx hb dX9_comes_76 (by decide) ?_
          exact j_29 _ _ _ _ ⟨0, rfl, (Nat.le_of_ble_eq_true rfl), hP, hD, hS, lv_sub hl [1, 2, 3, 4, 5, 6, 7, 8, 9, 0] rfl⟩
        · have c_33 : a5 = 0 := (nI_eq (a := a5) (b := 0) (Nat.lt_of_le_of_lt ha5 (Nat.le_of_ble_eq_true rfl)) (Nat.le_of_ble_eq_true rfl)).mp c_33
          refine lv_iconst (v := 1) hx hb dX9_comes_72 (by decide) ?_
          refine lv_goto (tgt := 77) hx hb dX9_comes_73 (by decide) ?_
          exact j_29 _ _ _ _ ⟨1, rfl, (Nat.le_of_ble_eq_true rfl), hP, hD, hS, lv_sub hl [1, 2, 3, 4, 5, 6, 7, 8, 9, 0] rfl⟩
  refine lv_if_ne (tgt := 17) hx hb dX9_comes_5 (by decide) (fun c_34 => ?_) (fun c_34 => ?_)
  · have c_34 : ¬ u_2 = 0 := fun z => c_34 ((nI_eq (a := u_2) (b := 0) (Nat.lt_of_le_of_lt hu_2 (Nat.le_of_ble_eq_true rfl)) (Nat.le_of_ble_eq_true rfl)).mpr z)
    exact j_4 _ _ _ _ ⟨f35, rfl, hP, hD, hS, lv_sub hl [0, 1, 2, 3, 4, 5, 6, 7] rfl⟩
  · have c_34 : u_2 = 0 := (nI_eq (a := u_2) (b := 0) (Nat.lt_of_le_of_lt hu_2 (Nat.le_of_ble_eq_true rfl)) (Nat.le_of_ble_eq_true rfl)).mp c_34
    refine lv_aload_n hx hb dX9_comes_8 rfl (lv_at hl 0 rfl) ?_
    refine lv_aload_n hx hb dX9_comes_9 rfl (lv_at hl 0 rfl) ?_
    refine va_get (D := (dC, dI)) (ci := 9) (v := .ref (ad 35)) (C := RX9) (T := TX9) (N := 67) hx hb hts hiX9 hown hK hP 0 rfl rfl 35 (by decide) v_6 (fun _ h9 => h9) rfl dX9_comes_10 ?_
    refine lv_iload_n hx hb dX9_comes_13 rfl (lv_at hl 2 rfl) ?_
    have hFc := pu_free hD hS hA
    refine va_callv (va_runV (As := [.ref (ad 35), .int (nI a1)]) (rest := []) ⟨hx, hb, hml, hown, hts⟩ (c_M_delays l dC dI _ ad ck x0 x16 x18 x19 x20 x21 x22 x23 x24 x25 x26 x27 x28 x29 x30 x33 x45 x46 x52 x53 x61 x62 x63 x65 x66 f1 f2 f3 q4 q5 q6 q7 f8 q9 q10 f11 m12_0 m12_1 m13_0 m13_1 m14_0 m14_1 m15_0 m15_1 f17 q31 f32 f34 f35 f36 f37 q38 f39 f40 f41 m42_0 m42_1 f43 f44 f47 f48 f49 f50 f51 q54 q55 q56 f57 q58 f59 f60 f64 a1 hx16 hx18 hx19 hx21 hx22 hx26 hx28 hx29 hx30 hx33 hx46 hx52 hx53 hx61 hx62 hx63 hx65 hm12_0 hm12_1 hm13_0 hm13_1 hm14_0 hm14_1 hm15_0 hm15_1 hm42_0 hm42_1 ha1) (cwV 2 hts g_M_comes_1_400_0_M_delays rfl rfl rfl (by decide +kernel) ⟨Nat.le_of_ble_eq_true rfl, Nat.le_of_ble_eq_true rfl⟩) ⟨pu_bl, va_recv hK hP (ci := 9) (q0 := 0) rfl rfl, pu_in hP hK hD⟩ rfl rfl hl.1 rfl (lv_room (Nat.le_of_ble_eq_true rfl)) dX9_comes_14 ⟨Nat.le_of_ble_eq_true rfl, Nat.le_of_ble_eq_true rfl⟩) hS (fun q _ h => hFc q h) hFc (fun u t H1 locs ht hvm hw hB hz1 hk1 hS => ?_)
    obtain ⟨z35_36, ⟨hP1, -, hD1⟩⟩ := hB
    rw [ht] at hP1
    have hP := hP1
    have hD := pu_all hFc hD1
    clear hP1 hD1 hFc
    clear hk1 hz1 ht hvm
    generalize H1 = H at hP hS ⊢
    exact j_4 _ _ _ _ ⟨z35_36, rfl, hP, hD, hS, lv_sub hl [0, 1, 2, 3, 4, 5, 6, 7] rfl⟩
abbrev vs_M_comes_1_400_1 : List Cond := .code yX9_comes cX9_comes 10 none :: VM
theorem g_M_comes_1_400_1_M_isUrgent : GoodIn vs_M_comes_1_400_1 (wsV RX9 324 RX9 yX9_isUrgent vs_M_isUrgent) := gm_V vm_204 vm_205 vm_206 vm_12 vm_33
theorem g_M_comes_1_400_1_M_forgets : GoodIn vs_M_comes_1_400_1 (wsV RX9 352 RX9 yX9_forgets vs_M_forgets) := gm_V vm_247 vm_248 vm_249 vm_12 vm_230
theorem g_M_comes_1_400_1_M_spotOf_1 : GoodIn vs_M_comes_1_400_1 (va_wsS RX9 355 yX9_spotOf vs_M_spotOf_1) := gm_S vm_241 vm_242 vm_12 vm_13
theorem g_M_comes_1_400_1_M_copies_zn : GoodIn vs_M_comes_1_400_1 (va_wsS RX9 362 yX9_copies vs_M_copies_zn) := gm_S vm_250 vm_251 vm_12 vm_8
theorem g_M_comes_1_400_1_M_hasAll : GoodIn vs_M_comes_1_400_1 (wsV RX9 358 RX9 yX9_hasAll vs_M_hasAll) := gm_V vm_255 vm_256 vm_257 vm_12 vm_231
theorem g_M_comes_1_400_1_M_delays : GoodIn vs_M_comes_1_400_1 (wsV RX9 349 RX9 yX9_delays vs_M_delays) := gm_V vm_244 vm_245 vm_246 vm_12 vm_220
set_option maxHeartbeats 4000000 in
set_option maxRecDepth 100000 in
theorem c_M_comes_1_400_1 (l : Launch) (dC : Nat → ClassId) (dI : Nat → Nat → Nat) (sz : Nat) (ad : Nat → Nat) (ck : Nat → ClassId) (x0 : Int32) (x16 : Nat) (x18 : Nat) (x19 : Nat) (x20 : Int32) (x21 : Nat) (x22 : Nat) (x23 : Int32) (x24 : Int32) (x25 : Int32) (x26 : Nat) (x27 : Int32) (x28 : Nat) (x29 : Nat) (x30 : Nat) (x33 : Nat) (x45 : Int32) (x46 : Nat) (x52 : Nat) (x53 : Nat) (x61 : Nat) (x62 : Nat) (x63 : Nat) (x65 : Nat) (x66 : Int32) (f1 : Nat → Int32) (f2 : Nat → Int32) (f3 : Nat → Int32) (q4 : Nat → Nat) (q5 : Nat → Nat) (q6 : Nat → Nat) (q7 : Nat → Nat) (f8 : Nat → Int32) (q9 : Nat → Nat) (q10 : Nat → Nat) (f11 : Nat → Int32) (m12_0 m12_1 : Nat) (m13_0 m13_1 : Nat) (m14_0 m14_1 : Nat) (m15_0 m15_1 : Nat) (f17 : Nat → Int32) (q31 : Nat → Nat) (f32 : Nat → Int32) (f34 : Nat → Int32) (f35 : Nat → Int32) (f36 : Nat → Int32) (f37 : Nat → Int32) (q38 : Nat → Nat) (f39 : Nat → Int32) (f40 : Nat → Int32) (f41 : Nat → Int32) (m42_0 m42_1 : Nat) (f43 : Nat → Int32) (f44 : Nat → Int32) (f47 : Nat → Int32) (f48 : Nat → Int32) (f49 : Nat → Int32) (f50 : Nat → Int32) (f51 : Nat → Int32) (q54 : Nat → Nat) (q55 : Nat → Nat) (q56 : Nat → Nat) (f57 : Nat → Int32) (q58 : Nat → Nat) (f59 : Nat → Int32) (f60 : Nat → Int32) (f64 : Nat → Int32) (a1 : Nat) (a2 : Nat) (a3 : Nat) (p4 : Int32) (a5 : Nat) (hx16 : x16 ≤ 1) (hx18 : x18 ≤ 900) (hx19 : x19 ≤ 900) (hx21 : x21 ≤ 900) (hx22 : x22 ≤ 4) (hx26 : x26 ≤ 6) (hx28 : x28 ≤ 1) (hx29 : x29 ≤ 1) (hx30 : x30 ≤ 1) (hx33 : x33 ≤ 20) (hx46 : x46 ≤ 5) (hx52 : x52 ≤ 2400) (hx53 : x53 ≤ 119) (hx61 : x61 ≤ 119) (hx62 : x62 ≤ 2000) (hx63 : x63 ≤ 1) (hx65 : x65 ≤ 7) (hm12_0 : m12_0 ≤ 3) (hm12_1 : m12_1 ≤ 3) (hm13_0 : m13_0 ≤ 8) (hm13_1 : m13_1 ≤ 8) (hm14_0 : m14_0 ≤ 14) (hm14_1 : m14_1 ≤ 14) (hm15_0 : m15_0 ≤ 8) (hm15_1 : m15_1 ≤ 8) (hm42_0 : m42_0 ≤ 120) (hm42_1 : m42_1 ≤ 400) (ha1 : a1 ≤ 7) (ha2 : a2 ≤ 399) (ha3 : a3 ≤ 13) (ha5 : a5 ≤ 1) (hgr : gz_ok m42_0 f39 f40 f41) : Met l yX9_comes vs_M_comes_1_400_1 ({ frames := 5, cells := 0, slots := 0, locals := 113 }) (va_Pc [.ref (ad 0), .int 1, .int (nI a1), .int (nI a2), .int (nI a3), .int p4, .int (nI a5), .int 400] (pu_B (dC, dI) (mo_w ad ck x0 (nI x16) (nI x18) (nI x19) x20 (nI x21) (nI x22) x23 x24 x25 (nI x26) x27 (nI x28) (nI x29) (nI x30) (nI x33) x45 (nI x46) (nI x52) (nI x53) (nI x61) (nI x62) (nI x63) (nI x65) x66 f1 f2 f3 (bN 3 q4) (bN 7 q5) (bN 7 q6) (bN 4 q7) f8 (bN 2 q9) (bH q10) f11 (b2 m12_0 m12_1) (b2 m13_0 m13_1) (b2 m14_0 m14_1) (b2m m15_0 m15_1) f17 (bA 159 q31) f32 f34 f35 f36 f37 (bN 7 q38) f39 f40 f41 (b2 m42_0 m42_1) f43 f44 f47 f48 f49 f50 f51 (bN 13 q54) (bN 120 q55) (bN 120 q56) f57 (bN 120 q58) f59 f60 f64) (mo_t ck) sz)) (va_Qv (fun (_ : Unit) => True) (fun _ t => ∃ (z34 : Nat → Int32) (z35 : Nat → Int32) (z38 : Nat → Nat) (z39 : Nat → Int32) (z40 : Nat → Int32) (z41 : Nat → Int32) (z44 : Nat → Int32) (z42_1 : Nat), pu_E (dC, dI) (mo_w ad ck x0 (nI x16) (nI x18) (nI x19) x20 (nI x21) (nI x22) x23 x24 x25 (nI x26) x27 (nI x28) (nI x29) (nI x30) (nI x33) x45 (nI x46) (nI x52) (nI x53) (nI x61) (nI x62) (nI x63) (nI x65) x66 f1 f2 f3 (bN 3 q4) (bN 7 q5) (bN 7 q6) (bN 4 q7) f8 (bN 2 q9) (bH q10) f11 (b2 m12_0 m12_1) (b2 m13_0 m13_1) (b2 m14_0 m14_1) (b2m m15_0 m15_1) f17 (bA 159 q31) f32 z34 z35 f36 f37 (bN 7 z38) z39 z40 z41 (b2 m42_0 z42_1) f43 z44 f47 f48 f49 f50 f51 (bN 13 q54) (bN 120 q55) (bN 120 q56) f57 (bN 120 q58) f59 f60 f64) (mo_t ck) (va_A ((mo_w ad ck x0 (nI x16) (nI x18) (nI x19) x20 (nI x21) (nI x22) x23 x24 x25 (nI x26) x27 (nI x28) (nI x29) (nI x30) (nI x33) x45 (nI x46) (nI x52) (nI x53) (nI x61) (nI x62) (nI x63) (nI x65) x66 f1 f2 f3 (bN 3 q4) (bN 7 q5) (bN 7 q6) (bN 4 q7) f8 (bN 2 q9) (bH q10) f11 (b2 m12_0 m12_1) (b2 m13_0 m13_1) (b2 m14_0 m14_1) (b2m m15_0 m15_1) f17 (bA 159 q31) f32 f34 f35 f36 f37 (bN 7 q38) f39 f40 f41 (b2 m42_0 m42_1) f43 f44 f47 f48 f49 f50 f51 (bN 13 q54) (bN 120 q55) (bN 120 q56) f57 (bN 120 q58) f59 f60 f64)) sz) t ∧ (z42_1 ≤ 400) ∧ (gz_ok m42_0 z39 z40 z41) ∧ (m42_1 ≤ z42_1)) (va_A ((mo_w ad ck x0 (nI x16) (nI x18) (nI x19) x20 (nI x21) (nI x22) x23 x24 x25 (nI x26) x27 (nI x28) (nI x29) (nI x30) (nI x33) x45 (nI x46) (nI x52) (nI x53) (nI x61) (nI x62) (nI x63) (nI x65) x66 f1 f2 f3 (bN 3 q4) (bN 7 q5) (bN 7 q6) (bN 4 q7) f8 (bN 2 q9) (bH q10) f11 (b2 m12_0 m12_1) (b2 m13_0 m13_1) (b2 m14_0 m14_1) (b2m m15_0 m15_1) f17 (bA 159 q31) f32 f34 f35 f36 f37 (bN 7 q38) f39 f40 f41 (b2 m42_0 m42_1) f43 f44 f47 f48 f49 f50 f51 (bN 13 q54) (bN 120 q55) (bN 120 q56) f57 (bN 120 q58) f59 f60 f64)) sz)) 0 0 (va_A ((mo_w ad ck x0 (nI x16) (nI x18) (nI x19) x20 (nI x21) (nI x22) x23 x24 x25 (nI x26) x27 (nI x28) (nI x29) (nI x30) (nI x33) x45 (nI x46) (nI x52) (nI x53) (nI x61) (nI x62) (nI x63) (nI x65) x66 f1 f2 f3 (bN 3 q4) (bN 7 q5) (bN 7 q6) (bN 4 q7) f8 (bN 2 q9) (bH q10) f11 (b2 m12_0 m12_1) (b2 m13_0 m13_1) (b2 m14_0 m14_1) (b2m m15_0 m15_1) f17 (bA 159 q31) f32 f34 f35 f36 f37 (bN 7 q38) f39 f40 f41 (b2 m42_0 m42_1) f43 f44 f47 f48 f49 f50 f51 (bN 13 q54) (bN 120 q55) (bN 120 q56) f57 (bN 120 q58) f59 f60 f64)) sz) := by
  refine Met.ofW (cc := cX9_comes) (maxL := 10) (ret := none) (by decide) rfl ?_
  intro p e s m args below meth c s₁ B hml hv
  obtain ⟨rfl, rfl, hP, hK, hD0⟩ := hv
  have hx := B.exec
  have hb := B.bytes
  have hr := B.returns
  have hts := atoms_spec (ws := vs_M_comes_1_400_1) B.pre
  have v_6 := hts (.fieldLink RX9 71 "ClockReachModel" "z" "[I") (List.mem_cons_of_mem _ vm_234)
  have v_15 := hts (.fieldLink RX9 92 "ClockReachModel" "stateMany" "[I") (List.mem_cons_of_mem _ vm_177)
  have v_16 := hts (.fieldLink RX9 98 "ClockReachModel" "isFull" "[Z") (List.mem_cons_of_mem _ vm_178)
  have v_20 := hts (.fieldLink RX9 68 "ClockReachModel" "zone" "[I") (List.mem_cons_of_mem _ vm_232)
  have v_24 := hts (.fieldLink RX9 80 "ClockReachModel" "statePlace" "[I") (List.mem_cons_of_mem _ vm_240)
  have v_25 := hts (.fieldLink RX9 83 "ClockReachModel" "stateFrom" "[I") (List.mem_cons_of_mem _ vm_252)
  have v_26 := hts (.fieldLink RX9 86 "ClockReachModel" "stateBy" "[I") (List.mem_cons_of_mem _ vm_253)
  have v_27 := hts (.fieldLink RX9 89 "ClockReachModel" "stateDeep" "[I") (List.mem_cons_of_mem _ vm_254)
  have hown : s.vm.findClass RX9 = some m.cls := findClass_of_methodNamed B.named
  have hlocks := B.notSynchronized
  have hiX9 : ∀ w ∈ wsX90, w ∈ vs_M_comes_1_400_1 := fun _ h => List.mem_cons_of_mem _ (List.mem_append_right _ h)
  have hD := hD0.self (sz := s.heap.size)
  generalize hAe : va_A ((mo_w ad ck x0 (nI x16) (nI x18) (nI x19) x20 (nI x21) (nI x22) x23 x24 x25 (nI x26) x27 (nI x28) (nI x29) (nI x30) (nI x33) x45 (nI x46) (nI x52) (nI x53) (nI x61) (nI x62) (nI x63) (nI x65) x66 f1 f2 f3 (bN 3 q4) (bN 7 q5) (bN 7 q6) (bN 4 q7) f8 (bN 2 q9) (bH q10) f11 (b2 m12_0 m12_1) (b2 m13_0 m13_1) (b2 m14_0 m14_1) (b2m m15_0 m15_1) f17 (bA 159 q31) f32 f34 f35 f36 f37 (bN 7 q38) f39 f40 f41 (b2 m42_0 m42_1) f43 f44 f47 f48 f49 f50 f51 (bN 13 q54) (bN 120 q55) (bN 120 q56) f57 (bN 120 q58) f59 f60 f64)) s.heap.size = A at hD ⊢
  have hA : ∀ q : Nat, s.heap.size ≤ q → A q := fun q h => by rw [← hAe]; exact Or.inr h
  have hS : va_S A s.heap s.heap [] := va_S.rf
  have hl := lv_entry ([.ref (ad 0), .int 1, .int (nI a1), .int (nI a2), .int (nI a3), .int p4, .int (nI a5), .int 400]) (n := 10) (Nat.le_of_ble_eq_true rfl)
  rw [lg_entry_eq]
  generalize (lg_sl ([.ref (ad 0), .int 1, .int (nI a1), .int (nI a2), .int (nI a3), .int p4, .int (nI a5), .int 400]) ++ List.replicate (10 - (lg_sl ([.ref (ad 0), .int 1, .int (nI a1), .int (nI a2), .int (nI a3), .int p4, .int (nI a5), .int 400])).length) Slot.unset).toArray = ls at hl ⊢
  have hl : lv_has ls 10 [(0, .ref (ad 0)), (1, .int 1), (2, .int (nI a1)), (3, .int (nI a2)), (4, .int (nI a3)), (5, .int p4), (6, .int (nI a5)), (7, .int 400)] := hl
  refine lv_aload_n hx hb dX9_comes_0 rfl (lv_at hl 0 rfl) ?_
  refine lv_iload_n hx hb dX9_comes_1 rfl (lv_at hl 2 rfl) ?_
  refine va_calli (va_runV (As := [.int (nI a1)]) (rest := []) ⟨hx, hb, hml, hown, hts⟩ (c_M_isUrgent l dC dI _ ad ck x0 x16 x18 x19 x20 x21 x22 x23 x24 x25 x26 x27 x28 x29 x30 x33 x45 x46 x52 x53 x61 x62 x63 x65 x66 f1 f2 f3 q4 q5 q6 q7 f8 q9 q10 f11 m12_0 m12_1 m13_0 m13_1 m14_0 m14_1 m15_0 m15_1 f17 q31 f32 f34 f35 f36 f37 q38 f39 f40 f41 m42_0 m42_1 f43 f44 f47 f48 f49 f50 f51 q54 q55 q56 f57 q58 f59 f60 f64 a1 hx16 hx18 hx19 hx21 hx22 hx26 hx28 hx29 hx30 hx33 hx46 hx52 hx53 hx61 hx62 hx63 hx65 hm12_0 hm12_1 hm13_0 hm13_1 hm14_0 hm14_1 hm15_0 hm15_1 hm42_0 hm42_1 ha1) (cwV 1 hts g_M_comes_1_400_1_M_isUrgent rfl rfl rfl (by decide +kernel) ⟨Nat.le_of_ble_eq_true rfl, Nat.le_of_ble_eq_true rfl⟩) ⟨pu_bl, va_recv hK hP (ci := 9) (q0 := 0) rfl rfl, pu_in hP hK hD⟩ rfl rfl hl.1 rfl (lv_room (Nat.le_of_ble_eq_true rfl)) dX9_comes_2 ⟨Nat.le_of_ble_eq_true rfl, Nat.le_of_ble_eq_true rfl⟩) hS (fun q _ h => pu_fr hS hA q h) (pu_fr hS hA) (fun r_1 u t H1 locs ht hvm hw hB hz1 hk1 hS => ?_)
  have hP := pu_keep hP hk1
  clear hk1 hz1 ht hvm
  generalize H1 = H at hP hS ⊢
  obtain ⟨u_2, hu_2, rfl⟩ := hw
  refine pu_join (fun H locs ls st => ∃ (g_3 : Nat → Int32), st = [] ∧ va_P (dC, dI) vwCl (mo_w ad ck x0 (nI x16) (nI x18) (nI x19) x20 (nI x21) (nI x22) x23 x24 x25 (nI x26) x27 (nI x28) (nI x29) (nI x30) (nI x33) x45 (nI x46) (nI x52) (nI x53) (nI x61) (nI x62) (nI x63) (nI x65) x66 f1 f2 f3 (bN 3 q4) (bN 7 q5) (bN 7 q6) (bN 4 q7) f8 (bN 2 q9) (bH q10) f11 (b2 m12_0 m12_1) (b2 m13_0 m13_1) (b2 m14_0 m14_1) (b2m m15_0 m15_1) f17 (bA 159 q31) f32 f34 g_3 f36 f37 (bN 7 q38) f39 f40 f41 (b2 m42_0 m42_1) f43 f44 f47 f48 f49 f50 f51 (bN 13 q54) (bN 120 q55) (bN 120 q56) f57 (bN 120 q58) f59 f60 f64) H ∧ va_D A (mo_w ad ck x0 (nI x16) (nI x18) (nI x19) x20 (nI x21) (nI x22) x23 x24 x25 (nI x26) x27 (nI x28) (nI x29) (nI x30) (nI x33) x45 (nI x46) (nI x52) (nI x53) (nI x61) (nI x62) (nI x63) (nI x65) x66 f1 f2 f3 (bN 3 q4) (bN 7 q5) (bN 7 q6) (bN 4 q7) f8 (bN 2 q9) (bH q10) f11 (b2 m12_0 m12_1) (b2 m13_0 m13_1) (b2 m14_0 m14_1) (b2m m15_0 m15_1) f17 (bA 159 q31) f32 f34 g_3 f36 f37 (bN 7 q38) f39 f40 f41 (b2 m42_0 m42_1) f43 f44 f47 f48 f49 f50 f51 (bN 13 q54) (bN 120 q55) (bN 120 q56) f57 (bN 120 q58) f59 f60 f64) ∧ va_S A s.heap H locs ∧ lv_has ls 10 [(0, .ref (ad 0)), (1, .int 1), (2, .int (nI a1)), (3, .int (nI a2)), (4, .int (nI a3)), (5, .int p4), (6, .int (nI a5)), (7, .int 400)]) 17 ?_ (fun j_4 => ?_)
  · rintro H locs ls st ⟨g_3, rfl, hP, hD, hS, hl⟩
    refine lv_aload_n hx hb dX9_comes_17 rfl (lv_at hl 0 rfl) ?_
    refine lv_aload_n hx hb dX9_comes_18 rfl (lv_at hl 0 rfl) ?_
    refine va_get (D := (dC, dI)) (ci := 9) (v := .ref (ad 35)) (C := RX9) (T := TX9) (N := 67) hx hb hts hiX9 hown hK hP 0 rfl rfl 35 (by decide) v_6 (fun _ h9 => h9) rfl dX9_comes_19 ?_
    refine lv_iload hx hb dX9_comes_22 (lv_at hl 5 rfl) ?_
    have hFc := pu_free hD hS hA
    refine va_callv (va_runV (As := [.ref (ad 35), .int p4]) (rest := []) ⟨hx, hb, hml, hown, hts⟩ (c_M_forgets l dC dI _ ad ck x0 x16 x18 x19 x20 x21 x22 x23 x24 x25 x26 x27 x28 x29 x30 x33 x45 x46 x52 x53 x61 x62 x63 x65 x66 f1 f2 f3 q4 q5 q6 q7 f8 q9 q10 f11 m12_0 m12_1 m13_0 m13_1 m14_0 m14_1 m15_0 m15_1 f17 q31 f32 f34 g_3 f36 f37 q38 f39 f40 f41 m42_0 m42_1 f43 f44 f47 f48 f49 f50 f51 q54 q55 q56 f57 q58 f59 f60 f64 p4 hx16 hx18 hx19 hx21 hx22 hx26 hx28 hx29 hx30 hx33 hx46 hx52 hx53 hx61 hx62 hx63 hx65 hm12_0 hm12_1 hm13_0 hm13_1 hm14_0 hm14_1 hm15_0 hm15_1 hm42_0 hm42_1) (cwV 2 hts g_M_comes_1_400_1_M_forgets rfl rfl rfl (by decide +kernel) ⟨Nat.le_of_ble_eq_true rfl, Nat.le_of_ble_eq_true rfl⟩) ⟨pu_bl, va_recv hK hP (ci := 9) (q0 := 0) rfl rfl, pu_in hP hK hD⟩ rfl rfl hl.1 rfl (lv_room (Nat.le_of_ble_eq_true rfl)) dX9_comes_24 ⟨Nat.le_of_ble_eq_true rfl, Nat.le_of_ble_eq_true rfl⟩) hS (fun q _ h => hFc q h) hFc (fun u t H1 locs ht hvm hw hB hz1 hk1 hS => ?_)
    obtain ⟨z35_6, ⟨hP1, -, hD1⟩⟩ := hB
    rw [ht] at hP1
    have hP := hP1
    have hD := pu_all hFc hD1
    clear hP1 hD1 hFc
    clear hk1 hz1 ht hvm
    generalize H1 = H at hP hS ⊢
    refine lv_iconst (v := 0) hx hb dX9_comes_27 (by decide) ?_
    refine lv_istore (lv' := [(8, .int 0), (0, .ref (ad 0)), (1, .int 1), (2, .int (nI a1)), (3, .int (nI a2)), (4, .int (nI a3)), (5, .int p4), (6, .int (nI a5)), (7, .int 400)]) hx hb dX9_comes_28 hl (by decide) rfl (fun ls hl => ?_)
    refine pu_while (fun nn H locs ls => ∃ (g_8 : Nat), nn = 400 - g_8 ∧ g_8 ≤ 400 ∧ va_P (dC, dI) vwCl (mo_w ad ck x0 (nI x16) (nI x18) (nI x19) x20 (nI x21) (nI x22) x23 x24 x25 (nI x26) x27 (nI x28) (nI x29) (nI x30) (nI x33) x45 (nI x46) (nI x52) (nI x53) (nI x61) (nI x62) (nI x63) (nI x65) x66 f1 f2 f3 (bN 3 q4) (bN 7 q5) (bN 7 q6) (bN 4 q7) f8 (bN 2 q9) (bH q10) f11 (b2 m12_0 m12_1) (b2 m13_0 m13_1) (b2 m14_0 m14_1) (b2m m15_0 m15_1) f17 (bA 159 q31) f32 f34 z35_6 f36 f37 (bN 7 q38) f39 f40 f41 (b2 m42_0 m42_1) f43 f44 f47 f48 f49 f50 f51 (bN 13 q54) (bN 120 q55) (bN 120 q56) f57 (bN 120 q58) f59 f60 f64) H ∧ va_D A (mo_w ad ck x0 (nI x16) (nI x18) (nI x19) x20 (nI x21) (nI x22) x23 x24 x25 (nI x26) x27 (nI x28) (nI x29) (nI x30) (nI x33) x45 (nI x46) (nI x52) (nI x53) (nI x61) (nI x62) (nI x63) (nI x65) x66 f1 f2 f3 (bN 3 q4) (bN 7 q5) (bN 7 q6) (bN 4 q7) f8 (bN 2 q9) (bH q10) f11 (b2 m12_0 m12_1) (b2 m13_0 m13_1) (b2 m14_0 m14_1) (b2m m15_0 m15_1) f17 (bA 159 q31) f32 f34 z35_6 f36 f37 (bN 7 q38) f39 f40 f41 (b2 m42_0 m42_1) f43 f44 f47 f48 f49 f50 f51 (bN 13 q54) (bN 120 q55) (bN 120 q56) f57 (bN 120 q58) f59 f60 f64) ∧ va_S A s.heap H locs ∧ lv_has ls 10 [(0, .ref (ad 0)), (1, .int 1), (2, .int (nI a1)), (3, .int (nI a2)), (4, .int (nI a3)), (5, .int p4), (6, .int (nI a5)), (7, .int 400), (8, .int (nI g_8))]) 30 ?_ _ _ _ _ ⟨0, rfl, (Nat.le_of_ble_eq_true rfl), hP, hD, hS, lv_sub hl [1, 2, 3, 4, 5, 6, 7, 8, 0] rfl⟩
    rintro nn ih_9 H locs ls ⟨g_8, rfl, hg_8, hP, hD, hS, hl⟩
    refine lv_iload hx hb dX9_comes_30 (lv_at hl 8 rfl) ?_
    refine lv_aload_n hx hb dX9_comes_32 rfl (lv_at hl 0 rfl) ?_
    refine va_get (D := (dC, dI)) (ci := 9) (v := .ref (ad 42)) (C := RX9) (T := TX9) (N := 67) hx hb hts hiX9 hown hK hP 0 rfl rfl 42 (by decide) v_15 (fun _ h9 => h9) rfl dX9_comes_33 ?_
    refine lv_iload_n hx hb dX9_comes_36 rfl (lv_at hl 1 rfl) ?_
    refine va_iald hx hb hK hP 27 26 rfl rfl (vp_in_nI (n := 1) (Nat.le_of_ble_eq_true rfl) (Nat.le_of_ble_eq_true rfl)) dX9_comes_37 ?_
    refine lv_topi (fun y_10 ey_10 => ?_)
    have qy_10 := ey_10.trans b2_1
    clear ey_10
    obtain rfl : y_10 = nI m42_1 := qy_10
    refine lv_icmp_ge (tgt := 90) hx hb dX9_comes_38 (by decide) (fun c_11 => ?_) (fun c_11 => ?_)
    · have c_11 : m42_1 ≤ g_8 := (nI_leI (a := m42_1) (b := g_8) (Nat.lt_of_le_of_lt hm42_1 (Nat.le_of_ble_eq_true rfl)) (Nat.lt_of_le_of_lt hg_8 (Nat.le_of_ble_eq_true rfl))).mp c_11
      refine lv_aload_n hx hb dX9_comes_90 rfl (lv_at hl 0 rfl) ?_
      refine va_get (D := (dC, dI)) (ci := 9) (v := .ref (ad 42)) (C := RX9) (T := TX9) (N := 67) hx hb hts hiX9 hown hK hP 0 rfl rfl 42 (by decide) v_15 (fun _ h9 => h9) rfl dX9_comes_91 ?_
      refine lv_iload_n hx hb dX9_comes_94 rfl (lv_at hl 1 rfl) ?_
      refine va_iald hx hb hK hP 27 26 rfl rfl (vp_in_nI (n := 1) (Nat.le_of_ble_eq_true rfl) (Nat.le_of_ble_eq_true rfl)) dX9_comes_95 ?_
      refine lv_topi (fun y_12 ey_12 => ?_)
      have qy_12 := ey_12.trans b2_1
      clear ey_12
      obtain rfl : y_12 = nI m42_1 := qy_12
      refine lv_iload hx hb dX9_comes_96 (lv_at hl 7 rfl) ?_
      refine lv_icmp_eq (tgt := 110) hx hb dX9_comes_98 (by decide) (fun c_13 => ?_) (fun c_13 => ?_)
      · have c_13 : m42_1 = 400 := (nI_eq (a := m42_1) (b := 400) (Nat.lt_of_le_of_lt hm42_1 (Nat.le_of_ble_eq_true rfl)) (Nat.le_of_ble_eq_true rfl)).mp c_13
        refine lv_aload_n hx hb dX9_comes_110 rfl (lv_at hl 0 rfl) ?_
        refine va_get (D := (dC, dI)) (ci := 9) (v := .ref (ad 44)) (C := RX9) (T := TX9) (N := 67) hx hb hts hiX9 hown hK hP 0 rfl rfl 44 (by decide) v_16 (fun _ h9 => h9) rfl dX9_comes_111 ?_
        refine lv_iload_n hx hb dX9_comes_114 rfl (lv_at hl 1 rfl) ?_
        refine lv_iconst (v := 1) hx hb dX9_comes_115 (by decide) ?_
        refine va_zast hx hb hK hP hD hS 29 28 rfl rfl (vp_in_nI (n := 1) (Nat.le_of_ble_eq_true rfl) (Nat.le_of_ble_eq_true rfl)) dX9_comes_116 (fun H locs hP hD hS => ?_)
        have hP : va_P (dC, dI) vwCl (mo_w ad ck x0 (nI x16) (nI x18) (nI x19) x20 (nI x21) (nI x22) x23 x24 x25 (nI x26) x27 (nI x28) (nI x29) (nI x30) (nI x33) x45 (nI x46) (nI x52) (nI x53) (nI x61) (nI x62) (nI x63) (nI x65) x66 f1 f2 f3 (bN 3 q4) (bN 7 q5) (bN 7 q6) (bN 4 q7) f8 (bN 2 q9) (bH q10) f11 (b2 m12_0 m12_1) (b2 m13_0 m13_1) (b2 m14_0 m14_1) (b2m m15_0 m15_1) f17 (bA 159 q31) f32 f34 z35_6 f36 f37 (bN 7 q38) f39 f40 f41 (b2 m42_0 m42_1) f43 (upd f44 (1 : Int32).toNatClampNeg (vp_nar .boolean 1)) f47 f48 f49 f50 f51 (bN 13 q54) (bN 120 q55) (bN 120 q56) f57 (bN 120 q58) f59 f60 f64) H := hP
        have hD : va_D A (mo_w ad ck x0 (nI x16) (nI x18) (nI x19) x20 (nI x21) (nI x22) x23 x24 x25 (nI x26) x27 (nI x28) (nI x29) (nI x30) (nI x33) x45 (nI x46) (nI x52) (nI x53) (nI x61) (nI x62) (nI x63) (nI x65) x66 f1 f2 f3 (bN 3 q4) (bN 7 q5) (bN 7 q6) (bN 4 q7) f8 (bN 2 q9) (bH q10) f11 (b2 m12_0 m12_1) (b2 m13_0 m13_1) (b2 m14_0 m14_1) (b2m m15_0 m15_1) f17 (bA 159 q31) f32 f34 z35_6 f36 f37 (bN 7 q38) f39 f40 f41 (b2 m42_0 m42_1) f43 (upd f44 (1 : Int32).toNatClampNeg (vp_nar .boolean 1)) f47 f48 f49 f50 f51 (bN 13 q54) (bN 120 q55) (bN 120 q56) f57 (bN 120 q58) f59 f60 f64) := hD
        exact W.vret hx hb hr (fun t ht hW => ⟨⟨(), rfl, trivial, ⟨f34, z35_6, q38, f39, f40, f41, (upd f44 (1 : Int32).toNatClampNeg (vp_nar .boolean 1)), m42_1, ⟨by rw [ht]; exact hP, va_K.moved hW.alike hK, hD⟩, hm42_1, hgr, by omega⟩⟩, hS.F ht⟩) hS.2.2 dX9_comes_117
      · have c_13 : ¬ m42_1 = 400 := fun z => c_13 ((nI_eq (a := m42_1) (b := 400) (Nat.lt_of_le_of_lt hm42_1 (Nat.le_of_ble_eq_true rfl)) (Nat.le_of_ble_eq_true rfl)).mpr z)
        refine lv_aload_n hx hb dX9_comes_101 rfl (lv_at hl 0 rfl) ?_
        refine va_get (D := (dC, dI)) (ci := 9) (v := .ref (ad 44)) (C := RX9) (T := TX9) (N := 67) hx hb hts hiX9 hown hK hP 0 rfl rfl 44 (by decide) v_16 (fun _ h9 => h9) rfl dX9_comes_102 ?_
        refine lv_iload_n hx hb dX9_comes_105 rfl (lv_at hl 1 rfl) ?_
        refine va_zald hx hb hK hP 29 28 rfl rfl (vp_in_nI (n := 1) (Nat.le_of_ble_eq_true rfl) (Nat.le_of_ble_eq_true rfl)) dX9_comes_106 ?_
        refine lv_topi (fun y_14 ey_14 => ?_)
        refine lv_if_eq (tgt := 118) hx hb dX9_comes_107 (by decide) (fun c_15 => ?_) (fun c_15 => ?_)
        · refine lv_iload_n hx hb dX9_comes_118 rfl (lv_at hl 1 rfl) ?_
          refine lv_aload_n hx hb dX9_comes_119 rfl (lv_at hl 0 rfl) ?_
          refine va_get (D := (dC, dI)) (ci := 9) (v := .ref (ad 42)) (C := RX9) (T := TX9) (N := 67) hx hb hts hiX9 hown hK hP 0 rfl rfl 42 (by decide) v_15 (fun _ h9 => h9) rfl dX9_comes_120 ?_
          refine lv_iload_n hx hb dX9_comes_123 rfl (lv_at hl 1 rfl) ?_
          refine va_iald hx hb hK hP 27 26 rfl rfl (vp_in_nI (n := 1) (Nat.le_of_ble_eq_true rfl) (Nat.le_of_ble_eq_true rfl)) dX9_comes_124 ?_
          refine lv_topi (fun y_16 ey_16 => ?_)
          have qy_16 := ey_16.trans b2_1
          clear ey_16
          obtain rfl : y_16 = nI m42_1 := qy_16
          refine va_calli (va_runS (As := [.int 1, .int (nI m42_1)]) (rest := []) ⟨hx, hb, hml, hown, hts⟩ (c_M_spotOf_1 l dC dI _ ad ck x0 x16 x18 x19 x20 x21 x22 x23 x24 x25 x26 x27 x28 x29 x30 x33 x45 x46 x52 x53 x61 x62 x63 x65 x66 f1 f2 f3 q4 q5 q6 q7 f8 q9 q10 f11 m12_0 m12_1 m13_0 m13_1 m14_0 m14_1 m15_0 m15_1 f17 q31 f32 f34 z35_6 f36 f37 q38 f39 f40 f41 m42_0 m42_1 f43 f44 f47 f48 f49 f50 f51 q54 q55 q56 f57 q58 f59 f60 f64 m42_1 hx16 hx18 hx19 hx21 hx22 hx26 hx28 hx29 hx30 hx33 hx46 hx52 hx53 hx61 hx62 hx63 hx65 hm12_0 hm12_1 hm13_0 hm13_1 hm14_0 hm14_1 hm15_0 hm15_1 hm42_0 hm42_1 (by omega)) (va_cwS 2 hts g_M_comes_1_400_1_M_spotOf_1 rfl rfl rfl (by decide +kernel) ⟨Nat.le_of_ble_eq_true rfl, Nat.le_of_ble_eq_true rfl⟩) ⟨pu_bl, pu_in hP hK hD⟩ rfl rfl hl.1 rfl (lv_room (Nat.le_of_ble_eq_true rfl)) dX9_comes_125 ⟨Nat.le_of_ble_eq_true rfl, Nat.le_of_ble_eq_true rfl⟩) hS (fun q _ h => pu_fr hS hA q h) (pu_fr hS hA) (fun r_17 u t H1 locs ht hvm hw hB hz1 hk1 hS => ?_)
          have hP := pu_keep hP hk1
          clear hk1 hz1 ht hvm
          generalize H1 = H at hP hS ⊢
          obtain rfl : r_17 = nI (120 + m42_1) := hw
          refine lv_istore (lv' := [(8, .int (nI (120 + m42_1))), (0, .ref (ad 0)), (1, .int 1), (2, .int (nI a1)), (3, .int (nI a2)), (4, .int (nI a3)), (5, .int p4), (6, .int (nI a5)), (7, .int 400)]) hx hb dX9_comes_128 hl (by decide) rfl (fun ls hl => ?_)
          refine lv_aload_n hx hb dX9_comes_130 rfl (lv_at hl 1 rfl) ?_
          refine va_get (D := (dC, dI)) (ci := 9) (v := .ref (ad 35)) (C := RX9) (T := TX9) (N := 67) hx hb hts hiX9 hown hK hP 0 rfl rfl 35 (by decide) v_6 (fun _ h9 => h9) rfl dX9_comes_131 ?_
          refine lv_iconst (v := 0) hx hb dX9_comes_134 (by decide) ?_
          refine lv_aload_n hx hb dX9_comes_135 rfl (lv_at hl 1 rfl) ?_
          refine va_get (D := (dC, dI)) (ci := 9) (v := .ref (ad 34)) (C := RX9) (T := TX9) (N := 67) hx hb hts hiX9 hown hK hP 0 rfl rfl 34 (by decide) v_20 (fun _ h9 => h9) rfl dX9_comes_136 ?_
          refine lv_bipush (v := 25) hx hb dX9_comes_139 (by decide) ?_
          refine lv_iload hx hb dX9_comes_141 (lv_at hl 0 rfl) ?_
          refine lv_imul hx hb dX9_comes_143 ?_
          refine lv_topi (fun y_18 ey_18 => ?_)
          obtain rfl : y_18 = (nI (25 * (120 + m42_1))) := ey_18.trans (pk_mul 25 (120 + m42_1))
          have hFc := pu_free hD hS hA
          refine va_callv (va_runS (As := [.ref (ad 35), .int 0, .ref (ad 34), .int (nI (25 * (120 + m42_1)))]) (rest := []) ⟨hx, hb, hml, hown, hts⟩ (c_M_copies_zn l dC dI _ ad ck x0 x16 x18 x19 x20 x21 x22 x23 x24 x25 x26 x27 x28 x29 x30 x33 x45 x46 x52 x53 x61 x62 x63 x65 x66 f1 f2 f3 q4 q5 q6 q7 f8 q9 q10 f11 m12_0 m12_1 m13_0 m13_1 m14_0 m14_1 m15_0 m15_1 f17 q31 f32 f34 z35_6 f36 f37 q38 f39 f40 f41 m42_0 m42_1 f43 f44 f47 f48 f49 f50 f51 q54 q55 q56 f57 q58 f59 f60 f64 (25 * (120 + m42_1)) hx16 hx18 hx19 hx21 hx22 hx26 hx28 hx29 hx30 hx33 hx46 hx52 hx53 hx61 hx62 hx63 hx65 hm12_0 hm12_1 hm13_0 hm13_1 hm14_0 hm14_1 hm15_0 hm15_1 hm42_0 hm42_1 (by omega)) (va_cwS 4 hts g_M_comes_1_400_1_M_copies_zn rfl rfl rfl (by decide +kernel) ⟨Nat.le_of_ble_eq_true rfl, Nat.le_of_ble_eq_true rfl⟩) ⟨pu_bl, pu_in hP hK hD⟩ rfl rfl hl.1 rfl (lv_room (Nat.le_of_ble_eq_true rfl)) dX9_comes_144 ⟨Nat.le_of_ble_eq_true rfl, Nat.le_of_ble_eq_true rfl⟩) hS (fun q _ h => hFc q h) hFc (fun u t H1 locs ht hvm hw hB hz1 hk1 hS => ?_)
          obtain ⟨z34_20, ⟨hP1, -, hD1⟩⟩ := hB
          rw [ht] at hP1
          have hP := hP1
          have hD := pu_all hFc hD1
          clear hP1 hD1 hFc
          clear hk1 hz1 ht hvm
          generalize H1 = H at hP hS ⊢
          refine lv_aload_n hx hb dX9_comes_147 rfl (lv_at hl 1 rfl) ?_
          refine va_get (D := (dC, dI)) (ci := 9) (v := .ref (ad 38)) (C := RX9) (T := TX9) (N := 67) hx hb hts hiX9 hown hK hP 0 rfl rfl 38 (by decide) v_24 (fun _ h9 => h9) rfl dX9_comes_148 ?_
          refine lv_iload hx hb dX9_comes_151 (lv_at hl 0 rfl) ?_
          refine lv_iload_n hx hb dX9_comes_153 rfl (lv_at hl 3 rfl) ?_
          refine va_iast hx hb hK hP hD hS 23 22 rfl rfl (vp_in_nI (n := (120 + m42_1)) (by omega) (Nat.le_of_ble_eq_true rfl)) dX9_comes_154 (fun H locs hP hD hS => ?_)
          obtain ⟨q_21, eq_21, kq_21⟩ := bN_up 7 q38 (((nI (120 + m42_1)) : Int32).toNatClampNeg) (v := a1) ha1
          have hP : va_P (dC, dI) vwCl (mo_w ad ck x0 (nI x16) (nI x18) (nI x19) x20 (nI x21) (nI x22) x23 x24 x25 (nI x26) x27 (nI x28) (nI x29) (nI x30) (nI x33) x45 (nI x46) (nI x52) (nI x53) (nI x61) (nI x62) (nI x63) (nI x65) x66 f1 f2 f3 (bN 3 q4) (bN 7 q5) (bN 7 q6) (bN 4 q7) f8 (bN 2 q9) (bH q10) f11 (b2 m12_0 m12_1) (b2 m13_0 m13_1) (b2 m14_0 m14_1) (b2m m15_0 m15_1) f17 (bA 159 q31) f32 z34_20 z35_6 f36 f37 (bN 7 q_21) f39 f40 f41 (b2 m42_0 m42_1) f43 f44 f47 f48 f49 f50 f51 (bN 13 q54) (bN 120 q55) (bN 120 q56) f57 (bN 120 q58) f59 f60 f64) H := by rw [← eq_21]; exact hP
          have hD : va_D A (mo_w ad ck x0 (nI x16) (nI x18) (nI x19) x20 (nI x21) (nI x22) x23 x24 x25 (nI x26) x27 (nI x28) (nI x29) (nI x30) (nI x33) x45 (nI x46) (nI x52) (nI x53) (nI x61) (nI x62) (nI x63) (nI x65) x66 f1 f2 f3 (bN 3 q4) (bN 7 q5) (bN 7 q6) (bN 4 q7) f8 (bN 2 q9) (bH q10) f11 (b2 m12_0 m12_1) (b2 m13_0 m13_1) (b2 m14_0 m14_1) (b2m m15_0 m15_1) f17 (bA 159 q31) f32 z34_20 z35_6 f36 f37 (bN 7 q_21) f39 f40 f41 (b2 m42_0 m42_1) f43 f44 f47 f48 f49 f50 f51 (bN 13 q54) (bN 120 q55) (bN 120 q56) f57 (bN 120 q58) f59 f60 f64) := by rw [← eq_21]; exact hD
          refine lv_aload_n hx hb dX9_comes_155 rfl (lv_at hl 1 rfl) ?_
          refine va_get (D := (dC, dI)) (ci := 9) (v := .ref (ad 39)) (C := RX9) (T := TX9) (N := 67) hx hb hts hiX9 hown hK hP 0 rfl rfl 39 (by decide) v_25 (fun _ h9 => h9) rfl dX9_comes_156 ?_
          refine lv_iload hx hb dX9_comes_159 (lv_at hl 0 rfl) ?_
          refine lv_iload_n hx hb dX9_comes_161 rfl (lv_at hl 4 rfl) ?_
          refine va_iast hx hb hK hP hD hS 24 23 rfl rfl (vp_in_nI (n := (120 + m42_1)) (by omega) (Nat.le_of_ble_eq_true rfl)) dX9_comes_162 (fun H locs hP hD hS => ?_)
          have hP : va_P (dC, dI) vwCl (mo_w ad ck x0 (nI x16) (nI x18) (nI x19) x20 (nI x21) (nI x22) x23 x24 x25 (nI x26) x27 (nI x28) (nI x29) (nI x30) (nI x33) x45 (nI x46) (nI x52) (nI x53) (nI x61) (nI x62) (nI x63) (nI x65) x66 f1 f2 f3 (bN 3 q4) (bN 7 q5) (bN 7 q6) (bN 4 q7) f8 (bN 2 q9) (bH q10) f11 (b2 m12_0 m12_1) (b2 m13_0 m13_1) (b2 m14_0 m14_1) (b2m m15_0 m15_1) f17 (bA 159 q31) f32 z34_20 z35_6 f36 f37 (bN 7 q_21) (upd f39 ((nI (120 + m42_1)) : Int32).toNatClampNeg (nI a2)) f40 f41 (b2 m42_0 m42_1) f43 f44 f47 f48 f49 f50 f51 (bN 13 q54) (bN 120 q55) (bN 120 q56) f57 (bN 120 q58) f59 f60 f64) H := hP
          have hD : va_D A (mo_w ad ck x0 (nI x16) (nI x18) (nI x19) x20 (nI x21) (nI x22) x23 x24 x25 (nI x26) x27 (nI x28) (nI x29) (nI x30) (nI x33) x45 (nI x46) (nI x52) (nI x53) (nI x61) (nI x62) (nI x63) (nI x65) x66 f1 f2 f3 (bN 3 q4) (bN 7 q5) (bN 7 q6) (bN 4 q7) f8 (bN 2 q9) (bH q10) f11 (b2 m12_0 m12_1) (b2 m13_0 m13_1) (b2 m14_0 m14_1) (b2m m15_0 m15_1) f17 (bA 159 q31) f32 z34_20 z35_6 f36 f37 (bN 7 q_21) (upd f39 ((nI (120 + m42_1)) : Int32).toNatClampNeg (nI a2)) f40 f41 (b2 m42_0 m42_1) f43 f44 f47 f48 f49 f50 f51 (bN 13 q54) (bN 120 q55) (bN 120 q56) f57 (bN 120 q58) f59 f60 f64) := hD
          refine lv_aload_n hx hb dX9_comes_163 rfl (lv_at hl 1 rfl) ?_
          refine va_get (D := (dC, dI)) (ci := 9) (v := .ref (ad 40)) (C := RX9) (T := TX9) (N := 67) hx hb hts hiX9 hown hK hP 0 rfl rfl 40 (by decide) v_26 (fun _ h9 => h9) rfl dX9_comes_164 ?_
          refine lv_iload hx hb dX9_comes_167 (lv_at hl 0 rfl) ?_
          refine lv_iload hx hb dX9_comes_169 (lv_at hl 5 rfl) ?_
          refine va_iast hx hb hK hP hD hS 25 24 rfl rfl (vp_in_nI (n := (120 + m42_1)) (by omega) (Nat.le_of_ble_eq_true rfl)) dX9_comes_171 (fun H locs hP hD hS => ?_)
          have hP : va_P (dC, dI) vwCl (mo_w ad ck x0 (nI x16) (nI x18) (nI x19) x20 (nI x21) (nI x22) x23 x24 x25 (nI x26) x27 (nI x28) (nI x29) (nI x30) (nI x33) x45 (nI x46) (nI x52) (nI x53) (nI x61) (nI x62) (nI x63) (nI x65) x66 f1 f2 f3 (bN 3 q4) (bN 7 q5) (bN 7 q6) (bN 4 q7) f8 (bN 2 q9) (bH q10) f11 (b2 m12_0 m12_1) (b2 m13_0 m13_1) (b2 m14_0 m14_1) (b2m m15_0 m15_1) f17 (bA 159 q31) f32 z34_20 z35_6 f36 f37 (bN 7 q_21) (upd f39 ((nI (120 + m42_1)) : Int32).toNatClampNeg (nI a2)) (upd f40 ((nI (120 + m42_1)) : Int32).toNatClampNeg (nI a3)) f41 (b2 m42_0 m42_1) f43 f44 f47 f48 f49 f50 f51 (bN 13 q54) (bN 120 q55) (bN 120 q56) f57 (bN 120 q58) f59 f60 f64) H := hP
          have hD : va_D A (mo_w ad ck x0 (nI x16) (nI x18) (nI x19) x20 (nI x21) (nI x22) x23 x24 x25 (nI x26) x27 (nI x28) (nI x29) (nI x30) (nI x33) x45 (nI x46) (nI x52) (nI x53) (nI x61) (nI x62) (nI x63) (nI x65) x66 f1 f2 f3 (bN 3 q4) (bN 7 q5) (bN 7 q6) (bN 4 q7) f8 (bN 2 q9) (bH q10) f11 (b2 m12_0 m12_1) (b2 m13_0 m13_1) (b2 m14_0 m14_1) (b2m m15_0 m15_1) f17 (bA 159 q31) f32 z34_20 z35_6 f36 f37 (bN 7 q_21) (upd f39 ((nI (120 + m42_1)) : Int32).toNatClampNeg (nI a2)) (upd f40 ((nI (120 + m42_1)) : Int32).toNatClampNeg (nI a3)) f41 (b2 m42_0 m42_1) f43 f44 f47 f48 f49 f50 f51 (bN 13 q54) (bN 120 q55) (bN 120 q56) f57 (bN 120 q58) f59 f60 f64) := hD
          refine lv_aload_n hx hb dX9_comes_172 rfl (lv_at hl 1 rfl) ?_
          refine va_get (D := (dC, dI)) (ci := 9) (v := .ref (ad 41)) (C := RX9) (T := TX9) (N := 67) hx hb hts hiX9 hown hK hP 0 rfl rfl 41 (by decide) v_27 (fun _ h9 => h9) rfl dX9_comes_173 ?_
          refine lv_iload hx hb dX9_comes_176 (lv_at hl 0 rfl) ?_
          refine lv_iload_n hx hb dX9_comes_178 rfl (lv_at hl 4 rfl) ?_
          refine lv_iconst (v := (-1)) hx hb dX9_comes_179 (by decide) ?_
          refine lv_icmp_ne (tgt := 187) hx hb dX9_comes_180 (by decide) (fun _ => ?_) (fun z => absurd z (pu_nneg (n := a2) (by omega) (by decide)))
          refine lv_aload_n hx hb dX9_comes_187 rfl (lv_at hl 1 rfl) ?_
          refine va_get (D := (dC, dI)) (ci := 9) (v := .ref (ad 41)) (C := RX9) (T := TX9) (N := 67) hx hb hts hiX9 hown hK hP 0 rfl rfl 41 (by decide) v_27 (fun _ h9 => h9) rfl dX9_comes_188 ?_
          refine lv_iload_n hx hb dX9_comes_191 rfl (lv_at hl 2 rfl) ?_
          refine lv_iload_n hx hb dX9_comes_192 rfl (lv_at hl 4 rfl) ?_
          refine va_calli (va_runS (As := [.int 1, .int (nI a2)]) (rest := [.ref (ad 41), .int (nI (120 + m42_1)), .ref (ad 41)]) ⟨hx, hb, hml, hown, hts⟩ (c_M_spotOf_1 l dC dI _ ad ck x0 x16 x18 x19 x20 x21 x22 x23 x24 x25 x26 x27 x28 x29 x30 x33 x45 x46 x52 x53 x61 x62 x63 x65 x66 f1 f2 f3 q4 q5 q6 q7 f8 q9 q10 f11 m12_0 m12_1 m13_0 m13_1 m14_0 m14_1 m15_0 m15_1 f17 q31 f32 z34_20 z35_6 f36 f37 q_21 (upd f39 ((nI (120 + m42_1)) : Int32).toNatClampNeg (nI a2)) (upd f40 ((nI (120 + m42_1)) : Int32).toNatClampNeg (nI a3)) f41 m42_0 m42_1 f43 f44 f47 f48 f49 f50 f51 q54 q55 q56 f57 q58 f59 f60 f64 a2 hx16 hx18 hx19 hx21 hx22 hx26 hx28 hx29 hx30 hx33 hx46 hx52 hx53 hx61 hx62 hx63 hx65 hm12_0 hm12_1 hm13_0 hm13_1 hm14_0 hm14_1 hm15_0 hm15_1 hm42_0 hm42_1 ha2) (va_cwS 2 hts g_M_comes_1_400_1_M_spotOf_1 rfl rfl rfl (by decide +kernel) ⟨Nat.le_of_ble_eq_true rfl, Nat.le_of_ble_eq_true rfl⟩) ⟨pu_bl, pu_in hP hK hD⟩ rfl rfl hl.1 rfl (lv_room (Nat.le_of_ble_eq_true rfl)) dX9_comes_193 ⟨Nat.le_of_ble_eq_true rfl, Nat.le_of_ble_eq_true rfl⟩) hS (fun q _ h => pu_fr hS hA q h) (pu_fr hS hA) (fun r_22 u t H1 locs ht hvm hw hB hz1 hk1 hS => ?_)
          have hP := pu_keep hP hk1
          clear hk1 hz1 ht hvm
          generalize H1 = H at hP hS ⊢
          obtain rfl : r_22 = nI (120 + a2) := hw
          refine va_iald hx hb hK hP 26 25 rfl rfl (vp_in_nI (n := (120 + a2)) (by omega) (Nat.le_of_ble_eq_true rfl)) dX9_comes_196 ?_
          refine lv_topi (fun y_23 ey_23 => ?_)
          refine lv_iconst (v := 1) hx hb dX9_comes_197 (by decide) ?_
          refine lv_iadd hx hb dX9_comes_198 ?_
          refine lv_topi (fun y_24 ey_24 => ?_)
          refine va_iast hx hb hK hP hD hS 26 25 rfl rfl (vp_in_nI (n := (120 + m42_1)) (by omega) (Nat.le_of_ble_eq_true rfl)) dX9_comes_199 (fun H locs hP hD hS => ?_)
          have hP : va_P (dC, dI) vwCl (mo_w ad ck x0 (nI x16) (nI x18) (nI x19) x20 (nI x21) (nI x22) x23 x24 x25 (nI x26) x27 (nI x28) (nI x29) (nI x30) (nI x33) x45 (nI x46) (nI x52) (nI x53) (nI x61) (nI x62) (nI x63) (nI x65) x66 f1 f2 f3 (bN 3 q4) (bN 7 q5) (bN 7 q6) (bN 4 q7) f8 (bN 2 q9) (bH q10) f11 (b2 m12_0 m12_1) (b2 m13_0 m13_1) (b2 m14_0 m14_1) (b2m m15_0 m15_1) f17 (bA 159 q31) f32 z34_20 z35_6 f36 f37 (bN 7 q_21) (upd f39 ((nI (120 + m42_1)) : Int32).toNatClampNeg (nI a2)) (upd f40 ((nI (120 + m42_1)) : Int32).toNatClampNeg (nI a3)) (upd f41 ((nI (120 + m42_1)) : Int32).toNatClampNeg y_24) (b2 m42_0 m42_1) f43 f44 f47 f48 f49 f50 f51 (bN 13 q54) (bN 120 q55) (bN 120 q56) f57 (bN 120 q58) f59 f60 f64) H := hP
          have hD : va_D A (mo_w ad ck x0 (nI x16) (nI x18) (nI x19) x20 (nI x21) (nI x22) x23 x24 x25 (nI x26) x27 (nI x28) (nI x29) (nI x30) (nI x33) x45 (nI x46) (nI x52) (nI x53) (nI x61) (nI x62) (nI x63) (nI x65) x66 f1 f2 f3 (bN 3 q4) (bN 7 q5) (bN 7 q6) (bN 4 q7) f8 (bN 2 q9) (bH q10) f11 (b2 m12_0 m12_1) (b2 m13_0 m13_1) (b2 m14_0 m14_1) (b2m m15_0 m15_1) f17 (bA 159 q31) f32 z34_20 z35_6 f36 f37 (bN 7 q_21) (upd f39 ((nI (120 + m42_1)) : Int32).toNatClampNeg (nI a2)) (upd f40 ((nI (120 + m42_1)) : Int32).toNatClampNeg (nI a3)) (upd f41 ((nI (120 + m42_1)) : Int32).toNatClampNeg y_24) (b2 m42_0 m42_1) f43 f44 f47 f48 f49 f50 f51 (bN 13 q54) (bN 120 q55) (bN 120 q56) f57 (bN 120 q58) f59 f60 f64) := hD
          refine lv_aload_n hx hb dX9_comes_200 rfl (lv_at hl 1 rfl) ?_
          refine va_get (D := (dC, dI)) (ci := 9) (v := .ref (ad 42)) (C := RX9) (T := TX9) (N := 67) hx hb hts hiX9 hown hK hP 0 rfl rfl 42 (by decide) v_15 (fun _ h9 => h9) rfl dX9_comes_201 ?_
          refine lv_iload_n hx hb dX9_comes_204 rfl (lv_at hl 2 rfl) ?_
          refine lv_dup2_11 hx hb dX9_comes_205 rfl rfl ?_
          refine va_iald hx hb hK hP 27 26 rfl rfl (vp_in_nI (n := 1) (Nat.le_of_ble_eq_true rfl) (Nat.le_of_ble_eq_true rfl)) dX9_comes_206 ?_
          refine lv_topi (fun y_25 ey_25 => ?_)
          have qy_25 := ey_25.trans b2_1
          clear ey_25
          obtain rfl : y_25 = nI m42_1 := qy_25
          refine lv_iconst (v := 1) hx hb dX9_comes_207 (by decide) ?_
          refine lv_iadd hx hb dX9_comes_208 ?_
          refine lv_topi (fun y_26 ey_26 => ?_)
          obtain rfl : y_26 = (nI (m42_1 + 1)) := ey_26.trans (nI_add m42_1 1)
          refine va_iast hx hb hK hP hD hS 27 26 rfl rfl (vp_in_nI (n := 1) (Nat.le_of_ble_eq_true rfl) (Nat.le_of_ble_eq_true rfl)) dX9_comes_209 (fun H locs hP hD hS => ?_)
          have hP : va_P (dC, dI) vwCl (mo_w ad ck x0 (nI x16) (nI x18) (nI x19) x20 (nI x21) (nI x22) x23 x24 x25 (nI x26) x27 (nI x28) (nI x29) (nI x30) (nI x33) x45 (nI x46) (nI x52) (nI x53) (nI x61) (nI x62) (nI x63) (nI x65) x66 f1 f2 f3 (bN 3 q4) (bN 7 q5) (bN 7 q6) (bN 4 q7) f8 (bN 2 q9) (bH q10) f11 (b2 m12_0 m12_1) (b2 m13_0 m13_1) (b2 m14_0 m14_1) (b2m m15_0 m15_1) f17 (bA 159 q31) f32 z34_20 z35_6 f36 f37 (bN 7 q_21) (upd f39 ((nI (120 + m42_1)) : Int32).toNatClampNeg (nI a2)) (upd f40 ((nI (120 + m42_1)) : Int32).toNatClampNeg (nI a3)) (upd f41 ((nI (120 + m42_1)) : Int32).toNatClampNeg y_24) (b2 m42_0 (m42_1 + 1)) f43 f44 f47 f48 f49 f50 f51 (bN 13 q54) (bN 120 q55) (bN 120 q56) f57 (bN 120 q58) f59 f60 f64) H := by rw [← b2_up1 (a := m42_0) (b := m42_1) (v := (m42_1 + 1))]; exact hP
          have hD : va_D A (mo_w ad ck x0 (nI x16) (nI x18) (nI x19) x20 (nI x21) (nI x22) x23 x24 x25 (nI x26) x27 (nI x28) (nI x29) (nI x30) (nI x33) x45 (nI x46) (nI x52) (nI x53) (nI x61) (nI x62) (nI x63) (nI x65) x66 f1 f2 f3 (bN 3 q4) (bN 7 q5) (bN 7 q6) (bN 4 q7) f8 (bN 2 q9) (bH q10) f11 (b2 m12_0 m12_1) (b2 m13_0 m13_1) (b2 m14_0 m14_1) (b2m m15_0 m15_1) f17 (bA 159 q31) f32 z34_20 z35_6 f36 f37 (bN 7 q_21) (upd f39 ((nI (120 + m42_1)) : Int32).toNatClampNeg (nI a2)) (upd f40 ((nI (120 + m42_1)) : Int32).toNatClampNeg (nI a3)) (upd f41 ((nI (120 + m42_1)) : Int32).toNatClampNeg y_24) (b2 m42_0 (m42_1 + 1)) f43 f44 f47 f48 f49 f50 f51 (bN 13 q54) (bN 120 q55) (bN 120 q56) f57 (bN 120 q58) f59 f60 f64) := by rw [← b2_up1 (a := m42_0) (b := m42_1) (v := (m42_1 + 1))]; exact hD
          exact W.vret hx hb hr (fun t ht hW => ⟨⟨(), rfl, trivial, ⟨z34_20, z35_6, q_21, (upd f39 ((nI (120 + m42_1)) : Int32).toNatClampNeg (nI a2)), (upd f40 ((nI (120 + m42_1)) : Int32).toNatClampNeg (nI a3)), (upd f41 ((nI (120 + m42_1)) : Int32).toNatClampNeg y_24), f44, (m42_1 + 1), ⟨by rw [ht]; exact hP, va_K.moved hW.alike hK, hD⟩, (by omega), gz_farN hgr (by omega) (by omega), by omega⟩⟩, hS.F ht⟩) hS.2.2 dX9_comes_210
        · refine lv_aload_n hx hb dX9_comes_110 rfl (lv_at hl 0 rfl) ?_
          refine va_get (D := (dC, dI)) (ci := 9) (v := .ref (ad 44)) (C := RX9) (T := TX9) (N := 67) hx hb hts hiX9 hown hK hP 0 rfl rfl 44 (by decide) v_16 (fun _ h9 => h9) rfl dX9_comes_111 ?_
          refine lv_iload_n hx hb dX9_comes_114 rfl (lv_at hl 1 rfl) ?_
          refine lv_iconst (v := 1) hx hb dX9_comes_115 (by decide) ?_
          refine va_zast hx hb hK hP hD hS 29 28 rfl rfl (vp_in_nI (n := 1) (Nat.le_of_ble_eq_true rfl) (Nat.le_of_ble_eq_true rfl)) dX9_comes_116 (fun H locs hP hD hS => ?_)
          have hP : va_P (dC, dI) vwCl (mo_w ad ck x0 (nI x16) (nI x18) (nI x19) x20 (nI x21) (nI x22) x23 x24 x25 (nI x26) x27 (nI x28) (nI x29) (nI x30) (nI x33) x45 (nI x46) (nI x52) (nI x53) (nI x61) (nI x62) (nI x63) (nI x65) x66 f1 f2 f3 (bN 3 q4) (bN 7 q5) (bN 7 q6) (bN 4 q7) f8 (bN 2 q9) (bH q10) f11 (b2 m12_0 m12_1) (b2 m13_0 m13_1) (b2 m14_0 m14_1) (b2m m15_0 m15_1) f17 (bA 159 q31) f32 f34 z35_6 f36 f37 (bN 7 q38) f39 f40 f41 (b2 m42_0 m42_1) f43 (upd f44 (1 : Int32).toNatClampNeg (vp_nar .boolean 1)) f47 f48 f49 f50 f51 (bN 13 q54) (bN 120 q55) (bN 120 q56) f57 (bN 120 q58) f59 f60 f64) H := hP
          have hD : va_D A (mo_w ad ck x0 (nI x16) (nI x18) (nI x19) x20 (nI x21) (nI x22) x23 x24 x25 (nI x26) x27 (nI x28) (nI x29) (nI x30) (nI x33) x45 (nI x46) (nI x52) (nI x53) (nI x61) (nI x62) (nI x63) (nI x65) x66 f1 f2 f3 (bN 3 q4) (bN 7 q5) (bN 7 q6) (bN 4 q7) f8 (bN 2 q9) (bH q10) f11 (b2 m12_0 m12_1) (b2 m13_0 m13_1) (b2 m14_0 m14_1) (b2m m15_0 m15_1) f17 (bA 159 q31) f32 f34 z35_6 f36 f37 (bN 7 q38) f39 f40 f41 (b2 m42_0 m42_1) f43 (upd f44 (1 : Int32).toNatClampNeg (vp_nar .boolean 1)) f47 f48 f49 f50 f51 (bN 13 q54) (bN 120 q55) (bN 120 q56) f57 (bN 120 q58) f59 f60 f64) := hD
          exact W.vret hx hb hr (fun t ht hW => ⟨⟨(), rfl, trivial, ⟨f34, z35_6, q38, f39, f40, f41, (upd f44 (1 : Int32).toNatClampNeg (vp_nar .boolean 1)), m42_1, ⟨by rw [ht]; exact hP, va_K.moved hW.alike hK, hD⟩, hm42_1, hgr, by omega⟩⟩, hS.F ht⟩) hS.2.2 dX9_comes_117
    · have c_11 : ¬ m42_1 ≤ g_8 := fun z => c_11 ((nI_leI (a := m42_1) (b := g_8) (Nat.lt_of_le_of_lt hm42_1 (Nat.le_of_ble_eq_true rfl)) (Nat.lt_of_le_of_lt hg_8 (Nat.le_of_ble_eq_true rfl))).mpr z)
      refine lv_iload_n hx hb dX9_comes_41 rfl (lv_at hl 1 rfl) ?_
      refine lv_iload hx hb dX9_comes_42 (lv_at hl 8 rfl) ?_
      refine va_calli (va_runS (As := [.int 1, .int (nI g_8)]) (rest := []) ⟨hx, hb, hml, hown, hts⟩ (c_M_spotOf_1 l dC dI _ ad ck x0 x16 x18 x19 x20 x21 x22 x23 x24 x25 x26 x27 x28 x29 x30 x33 x45 x46 x52 x53 x61 x62 x63 x65 x66 f1 f2 f3 q4 q5 q6 q7 f8 q9 q10 f11 m12_0 m12_1 m13_0 m13_1 m14_0 m14_1 m15_0 m15_1 f17 q31 f32 f34 z35_6 f36 f37 q38 f39 f40 f41 m42_0 m42_1 f43 f44 f47 f48 f49 f50 f51 q54 q55 q56 f57 q58 f59 f60 f64 g_8 hx16 hx18 hx19 hx21 hx22 hx26 hx28 hx29 hx30 hx33 hx46 hx52 hx53 hx61 hx62 hx63 hx65 hm12_0 hm12_1 hm13_0 hm13_1 hm14_0 hm14_1 hm15_0 hm15_1 hm42_0 hm42_1 (by omega)) (va_cwS 2 hts g_M_comes_1_400_1_M_spotOf_1 rfl rfl rfl (by decide +kernel) ⟨Nat.le_of_ble_eq_true rfl, Nat.le_of_ble_eq_true rfl⟩) ⟨pu_bl, pu_in hP hK hD⟩ rfl rfl hl.1 rfl (lv_room (Nat.le_of_ble_eq_true rfl)) dX9_comes_44 ⟨Nat.le_of_ble_eq_true rfl, Nat.le_of_ble_eq_true rfl⟩) hS (fun q _ h => pu_fr hS hA q h) (pu_fr hS hA) (fun r_27 u t H1 locs ht hvm hw hB hz1 hk1 hS => ?_)
      have hP := pu_keep hP hk1
      clear hk1 hz1 ht hvm
      generalize H1 = H at hP hS ⊢
      obtain rfl : r_27 = nI (120 + g_8) := hw
      refine lv_istore (lv' := [(9, .int (nI (120 + g_8))), (0, .ref (ad 0)), (1, .int 1), (2, .int (nI a1)), (3, .int (nI a2)), (4, .int (nI a3)), (5, .int p4), (6, .int (nI a5)), (7, .int 400), (8, .int (nI g_8))]) hx hb dX9_comes_47 hl (by decide) rfl (fun ls hl => ?_)
      refine lv_aload_n hx hb dX9_comes_49 rfl (lv_at hl 1 rfl) ?_
      refine va_get (D := (dC, dI)) (ci := 9) (v := .ref (ad 38)) (C := RX9) (T := TX9) (N := 67) hx hb hts hiX9 hown hK hP 0 rfl rfl 38 (by decide) v_24 (fun _ h9 => h9) rfl dX9_comes_50 ?_
      refine lv_iload hx hb dX9_comes_53 (lv_at hl 0 rfl) ?_
      refine va_iald hx hb hK hP 23 22 rfl rfl (vp_in_nI (n := (120 + g_8)) (by omega) (Nat.le_of_ble_eq_true rfl)) dX9_comes_55 ?_
      refine lv_topi (fun y_28 ey_28 => ?_)
      obtain ⟨u_29, hu_29, qu_29⟩ := bN_get 7 q38 (((nI (120 + g_8)) : Int32).toNatClampNeg)
      obtain rfl : y_28 = nI u_29 := ey_28.trans qu_29
      refine lv_iload_n hx hb dX9_comes_56 rfl (lv_at hl 3 rfl) ?_
      refine lv_icmp_ne (tgt := 84) hx hb dX9_comes_57 (by decide) (fun c_30 => ?_) (fun c_30 => ?_)
      · have c_30 : ¬ u_29 = a1 := fun z => c_30 ((nI_eq (a := u_29) (b := a1) (Nat.lt_of_le_of_lt hu_29 (Nat.le_of_ble_eq_true rfl)) (Nat.lt_of_le_of_lt ha1 (Nat.le_of_ble_eq_true rfl))).mpr z)
        refine lv_iinc (v := (nI (g_8 + 1))) (lv' := [(8, .int (nI (g_8 + 1))), (9, .int (nI (120 + g_8))), (0, .ref (ad 0)), (1, .int 1), (2, .int (nI a1)), (3, .int (nI a2)), (4, .int (nI a3)), (5, .int p4), (6, .int (nI a5)), (7, .int 400)]) hx hb dX9_comes_84 hl (k := 9) rfl (nI_1 _) (by decide) rfl (fun ls hl => ?_)
        refine lv_goto (tgt := 30) hx hb dX9_comes_87 (by decide) ?_
        exact ih_9 (400 - (g_8 + 1)) (by omega) _ _ _ ⟨(g_8 + 1), rfl, (by omega), hP, hD, hS, lv_sub hl [2, 3, 4, 5, 6, 7, 8, 9, 0] rfl⟩
      · have c_30 : u_29 = a1 := (nI_eq (a := u_29) (b := a1) (Nat.lt_of_le_of_lt hu_29 (Nat.le_of_ble_eq_true rfl)) (Nat.lt_of_le_of_lt ha1 (Nat.le_of_ble_eq_true rfl))).mp c_30
        refine lv_aload_n hx hb dX9_comes_60 rfl (lv_at hl 1 rfl) ?_
        refine lv_iload hx hb dX9_comes_61 (lv_at hl 0 rfl) ?_
        refine lv_aload_n hx hb dX9_comes_63 rfl (lv_at hl 1 rfl) ?_
        refine va_get (D := (dC, dI)) (ci := 9) (v := .ref (ad 35)) (C := RX9) (T := TX9) (N := 67) hx hb hts hiX9 hown hK hP 0 rfl rfl 35 (by decide) v_6 (fun _ h9 => h9) rfl dX9_comes_64 ?_
        refine lv_iload hx hb dX9_comes_67 (lv_at hl 7 rfl) ?_
        refine pu_join (fun H locs ls st => ∃ (g_31 : Nat), st = [.int (nI g_31), .ref (ad 35), .int (nI (120 + g_8)), .ref (ad 0)] ∧ g_31 ≤ 1 ∧ va_P (dC, dI) vwCl (mo_w ad ck x0 (nI x16) (nI x18) (nI x19) x20 (nI x21) (nI x22) x23 x24 x25 (nI x26) x27 (nI x28) (nI x29) (nI x30) (nI x33) x45 (nI x46) (nI x52) (nI x53) (nI x61) (nI x62) (nI x63) (nI x65) x66 f1 f2 f3 (bN 3 q4) (bN 7 q5) (bN 7 q6) (bN 4 q7) f8 (bN 2 q9) (bH q10) f11 (b2 m12_0 m12_1) (b2 m13_0 m13_1) (b2 m14_0 m14_1) (b2m m15_0 m15_1) f17 (bA 159 q31) f32 f34 z35_6 f36 f37 (bN 7 q38) f39 f40 f41 (b2 m42_0 m42_1) f43 f44 f47 f48 f49 f50 f51 (bN 13 q54) (bN 120 q55) (bN 120 q56) f57 (bN 120 q58) f59 f60 f64) H ∧ va_D A (mo_w ad ck x0 (nI x16) (nI x18) (nI x19) x20 (nI x21) (nI x22) x23 x24 x25 (nI x26) x27 (nI x28) (nI x29) (nI x30) (nI x33) x45 (nI x46) (nI x52) (nI x53) (nI x61) (nI x62) (nI x63) (nI x65) x66 f1 f2 f3 (bN 3 q4) (bN 7 q5) (bN 7 q6) (bN 4 q7) f8 (bN 2 q9) (bH q10) f11 (b2 m12_0 m12_1) (b2 m13_0 m13_1) (b2 m14_0 m14_1) (b2m m15_0 m15_1) f17 (bA 159 q31) f32 f34 z35_6 f36 f37 (bN 7 q38) f39 f40 f41 (b2 m42_0 m42_1) f43 f44 f47 f48 f49 f50 f51 (bN 13 q54) (bN 120 q55) (bN 120 q56) f57 (bN 120 q58) f59 f60 f64) ∧ va_S A s.heap H locs ∧ lv_has ls 10 [(0, .ref (ad 0)), (1, .int 1), (2, .int (nI a1)), (3, .int (nI a2)), (4, .int (nI a3)), (5, .int p4), (6, .int (nI a5)), (7, .int 400), (8, .int (nI g_8)), (9, .int (nI (120 + g_8)))]) 77 ?_ (fun j_32 => ?_)
        · rintro H locs ls st ⟨g_31, rfl, hg_31, hP, hD, hS, hl⟩
          refine va_calli (va_runV (As := [.int (nI (120 + g_8)), .ref (ad 35), .int (nI g_31)]) (rest := []) ⟨hx, hb, hml, hown, hts⟩ (c_M_hasAll l dC dI _ ad ck x0 x16 x18 x19 x20 x21 x22 x23 x24 x25 x26 x27 x28 x29 x30 x33 x45 x46 x52 x53 x61 x62 x63 x65 x66 f1 f2 f3 q4 q5 q6 q7 f8 q9 q10 f11 m12_0 m12_1 m13_0 m13_1 m14_0 m14_1 m15_0 m15_1 f17 q31 f32 f34 z35_6 f36 f37 q38 f39 f40 f41 m42_0 m42_1 f43 f44 f47 f48 f49 f50 f51 q54 q55 q56 f57 q58 f59 f60 f64 (120 + g_8) g_31 hx16 hx18 hx19 hx21 hx22 hx26 hx28 hx29 hx30 hx33 hx46 hx52 hx53 hx61 hx62 hx63 hx65 hm12_0 hm12_1 hm13_0 hm13_1 hm14_0 hm14_1 hm15_0 hm15_1 hm42_0 hm42_1 (by omega) hg_31) (cwV 3 hts g_M_comes_1_400_1_M_hasAll rfl rfl rfl (by decide +kernel) ⟨Nat.le_of_ble_eq_true rfl, Nat.le_of_ble_eq_true rfl⟩) ⟨pu_bl, va_recv hK hP (ci := 9) (q0 := 0) rfl rfl, pu_in hP hK hD⟩ rfl rfl hl.1 rfl (lv_room (Nat.le_of_ble_eq_true rfl)) dX9_comes_77 ⟨Nat.le_of_ble_eq_true rfl, Nat.le_of_ble_eq_true rfl⟩) hS (fun q _ h => pu_fr hS hA q h) (pu_fr hS hA) (fun r_33 u t H1 locs ht hvm hw hB hz1 hk1 hS => ?_)
          have hP := pu_keep hP hk1
          clear hk1 hz1 ht hvm
          generalize H1 = H at hP hS ⊢
          obtain ⟨u_34, hu_34, rfl⟩ := hw
          refine lv_if_eq (tgt := 84) hx hb dX9_comes_80 (by decide) (fun c_35 => ?_) (fun c_35 => ?_)
          · have c_35 : u_34 = 0 := (nI_eq (a := u_34) (b := 0) (Nat.lt_of_le_of_lt hu_34 (Nat.le_of_ble_eq_true rfl)) (Nat.le_of_ble_eq_true rfl)).mp c_35
            refine lv_iinc (v := (nI (g_8 + 1))) (lv' := [(8, .int (nI (g_8 + 1))), (0, .ref (ad 0)), (1, .int 1), (2, .int (nI a1)), (3, .int (nI a2)), (4, .int (nI a3)), (5, .int p4), (6, .int (nI a5)), (7, .int 400), (9, .int (nI (120 + g_8)))]) hx hb dX9_comes_84 hl (k := 8) rfl (nI_1 _) (by decide) rfl (fun ls hl => ?_)
            refine lv_goto (tgt := 30) hx hb dX9_comes_87 (by decide) ?_
            exact ih_9 (400 - (g_8 + 1)) (by omega) _ _ _ ⟨(g_8 + 1), rfl, (by omega), hP, hD, hS, lv_sub hl [1, 2, 3, 4, 5, 6, 7, 8, 0] rfl⟩
          · have c_35 : ¬ u_34 = 0 := fun z => c_35 ((nI_eq (a := u_34) (b := 0) (Nat.lt_of_le_of_lt hu_34 (Nat.le_of_ble_eq_true rfl)) (Nat.le_of_ble_eq_true rfl)).mpr z)
            exact W.vret hx hb hr (fun t ht hW => ⟨⟨(), rfl, trivial, ⟨f34, z35_6, q38, f39, f40, f41, f44, m42_1, ⟨by rw [ht]; exact hP, va_K.moved hW.alike hK, hD⟩, hm42_1, hgr, by omega⟩⟩, hS.F ht⟩) hS.2.2 dX9_comes_83
        refine lv_if_ne (tgt := 76) hx hb dX9_comes_69 (by decide) (fun c_36 => ?_) (fun c_36 => ?_)
        · have c_36 : ¬ a5 = 0 := fun z => c_36 ((nI_eq (a := a5) (b := 0) (Nat.lt_of_le_of_lt ha5 (Nat.le_of_ble_eq_true rfl)) (Nat.le_of_ble_eq_true rfl)).mpr z)
          refine lv_iconst (v := 0) hx hb dX9_comes_76 (by decide) ?_
          exact j_32 _ _ _ _ ⟨0, rfl, (Nat.le_of_ble_eq_true rfl), hP, hD, hS, lv_sub hl [1, 2, 3, 4, 5, 6, 7, 8, 9, 0] rfl⟩
        · have c_36 : a5 = 0 := (nI_eq (a := a5) (b := 0) (Nat.lt_of_le_of_lt ha5 (Nat.le_of_ble_eq_true rfl)) (Nat.le_of_ble_eq_true rfl)).mp c_36
          refine lv_iconst (v := 1) hx hb dX9_comes_72 (by decide) ?_
          refine lv_goto (tgt := 77) hx hb dX9_comes_73 (by decide) ?_
          exact j_32 _ _ _ _ ⟨1, rfl, (Nat.le_of_ble_eq_true rfl), hP, hD, hS, lv_sub hl [1, 2, 3, 4, 5, 6, 7, 8, 9, 0] rfl⟩
  refine lv_if_ne (tgt := 17) hx hb dX9_comes_5 (by decide) (fun c_37 => ?_) (fun c_37 => ?_)
  · have c_37 : ¬ u_2 = 0 := fun z => c_37 ((nI_eq (a := u_2) (b := 0) (Nat.lt_of_le_of_lt hu_2 (Nat.le_of_ble_eq_true rfl)) (Nat.le_of_ble_eq_true rfl)).mpr z)
    exact j_4 _ _ _ _ ⟨f35, rfl, hP, hD, hS, lv_sub hl [0, 1, 2, 3, 4, 5, 6, 7] rfl⟩
  · have c_37 : u_2 = 0 := (nI_eq (a := u_2) (b := 0) (Nat.lt_of_le_of_lt hu_2 (Nat.le_of_ble_eq_true rfl)) (Nat.le_of_ble_eq_true rfl)).mp c_37
    refine lv_aload_n hx hb dX9_comes_8 rfl (lv_at hl 0 rfl) ?_
    refine lv_aload_n hx hb dX9_comes_9 rfl (lv_at hl 0 rfl) ?_
    refine va_get (D := (dC, dI)) (ci := 9) (v := .ref (ad 35)) (C := RX9) (T := TX9) (N := 67) hx hb hts hiX9 hown hK hP 0 rfl rfl 35 (by decide) v_6 (fun _ h9 => h9) rfl dX9_comes_10 ?_
    refine lv_iload_n hx hb dX9_comes_13 rfl (lv_at hl 2 rfl) ?_
    have hFc := pu_free hD hS hA
    refine va_callv (va_runV (As := [.ref (ad 35), .int (nI a1)]) (rest := []) ⟨hx, hb, hml, hown, hts⟩ (c_M_delays l dC dI _ ad ck x0 x16 x18 x19 x20 x21 x22 x23 x24 x25 x26 x27 x28 x29 x30 x33 x45 x46 x52 x53 x61 x62 x63 x65 x66 f1 f2 f3 q4 q5 q6 q7 f8 q9 q10 f11 m12_0 m12_1 m13_0 m13_1 m14_0 m14_1 m15_0 m15_1 f17 q31 f32 f34 f35 f36 f37 q38 f39 f40 f41 m42_0 m42_1 f43 f44 f47 f48 f49 f50 f51 q54 q55 q56 f57 q58 f59 f60 f64 a1 hx16 hx18 hx19 hx21 hx22 hx26 hx28 hx29 hx30 hx33 hx46 hx52 hx53 hx61 hx62 hx63 hx65 hm12_0 hm12_1 hm13_0 hm13_1 hm14_0 hm14_1 hm15_0 hm15_1 hm42_0 hm42_1 ha1) (cwV 2 hts g_M_comes_1_400_1_M_delays rfl rfl rfl (by decide +kernel) ⟨Nat.le_of_ble_eq_true rfl, Nat.le_of_ble_eq_true rfl⟩) ⟨pu_bl, va_recv hK hP (ci := 9) (q0 := 0) rfl rfl, pu_in hP hK hD⟩ rfl rfl hl.1 rfl (lv_room (Nat.le_of_ble_eq_true rfl)) dX9_comes_14 ⟨Nat.le_of_ble_eq_true rfl, Nat.le_of_ble_eq_true rfl⟩) hS (fun q _ h => hFc q h) hFc (fun u t H1 locs ht hvm hw hB hz1 hk1 hS => ?_)
    obtain ⟨z35_39, ⟨hP1, -, hD1⟩⟩ := hB
    rw [ht] at hP1
    have hP := hP1
    have hD := pu_all hFc hD1
    clear hP1 hD1 hFc
    clear hk1 hz1 ht hvm
    generalize H1 = H at hP hS ⊢
    exact j_4 _ _ _ _ ⟨z35_39, rfl, hP, hD, hS, lv_sub hl [0, 1, 2, 3, 4, 5, 6, 7] rfl⟩
abbrev vs_M_explores_1_400 : List Cond := .code yX9_explores cX9_explores 10 none :: VM
theorem g_M_explores_1_400_M_layForgotten : GoodIn vs_M_explores_1_400 (wsV RX9 369 RX9 yX9_layForgotten vs_M_layForgotten) := gm_V vm_260 vm_261 vm_262 vm_12 vm_227
theorem g_M_explores_1_400_M_holdsAll_p : GoodIn vs_M_explores_1_400 (wsV RX9 342 RX9 yX9_holdsAll vs_M_holdsAll_p) := gm_V vm_221 vm_222 vm_223 vm_12 vm_215
theorem g_M_explores_1_400_M_closes_z : GoodIn vs_M_explores_1_400 (wsV RX9 345 RX9 yX9_closes vs_M_closes_z) := gm_V vm_224 vm_225 vm_226 vm_12 vm_208
theorem g_M_explores_1_400_M_comes_1_400_0 : GoodIn vs_M_explores_1_400 (wsV RX9 372 RX9 yX9_comes vs_M_comes_1_400_0) := gm_V vm_263 vm_264 vm_265 vm_12 vm_243
theorem g_M_explores_1_400_M_spotOf_1 : GoodIn vs_M_explores_1_400 (va_wsS RX9 355 yX9_spotOf vs_M_spotOf_1) := gm_S vm_241 vm_242 vm_12 vm_13
theorem g_M_explores_1_400_M_outOf : GoodIn vs_M_explores_1_400 (wsV RX9 289 RX9 yX9_outOf vs_M_outOf) := gm_V vm_66 vm_67 vm_68 vm_12 vm_27
theorem g_M_explores_1_400_M_into : GoodIn vs_M_explores_1_400 (wsV RX9 292 RX9 yX9_into vs_M_into) := gm_V vm_63 vm_64 vm_65 vm_12 vm_29
theorem g_M_explores_1_400_M_copies_nz : GoodIn vs_M_explores_1_400 (va_wsS RX9 362 yX9_copies vs_M_copies_nz) := gm_S vm_250 vm_251 vm_12 vm_8
theorem g_M_explores_1_400_M_goesBy : GoodIn vs_M_explores_1_400 (wsV RX9 376 RX9 yX9_goesBy vs_M_goesBy) := gm_V vm_266 vm_267 vm_268 vm_12 vm_233
theorem g_M_explores_1_400_M_comes_1_400_1 : GoodIn vs_M_explores_1_400 (wsV RX9 372 RX9 yX9_comes vs_M_comes_1_400_1) := gm_V vm_263 vm_264 vm_265 vm_12 vm_243
set_option maxHeartbeats 4000000 in
set_option maxRecDepth 100000 in
theorem c_M_explores_1_400 (l : Launch) (dC : Nat → ClassId) (dI : Nat → Nat → Nat) (sz : Nat) (ad : Nat → Nat) (ck : Nat → ClassId) (x0 : Int32) (x16 : Nat) (x18 : Nat) (x19 : Nat) (x20 : Int32) (x21 : Nat) (x22 : Nat) (x23 : Int32) (x24 : Int32) (x25 : Int32) (x26 : Nat) (x27 : Int32) (x28 : Nat) (x29 : Nat) (x30 : Nat) (x33 : Nat) (x45 : Int32) (x46 : Nat) (x52 : Nat) (x53 : Nat) (x61 : Nat) (x62 : Nat) (x63 : Nat) (x65 : Nat) (x66 : Int32) (f1 : Nat → Int32) (f2 : Nat → Int32) (f3 : Nat → Int32) (q4 : Nat → Nat) (q5 : Nat → Nat) (q6 : Nat → Nat) (q7 : Nat → Nat) (f8 : Nat → Int32) (q9 : Nat → Nat) (q10 : Nat → Nat) (f11 : Nat → Int32) (m12_0 m12_1 : Nat) (m13_0 m13_1 : Nat) (m14_0 m14_1 : Nat) (m15_0 m15_1 : Nat) (f17 : Nat → Int32) (q31 : Nat → Nat) (f32 : Nat → Int32) (f34 : Nat → Int32) (f35 : Nat → Int32) (f36 : Nat → Int32) (f37 : Nat → Int32) (q38 : Nat → Nat) (f39 : Nat → Int32) (f40 : Nat → Int32) (f41 : Nat → Int32) (m42_0 m42_1 : Nat) (f43 : Nat → Int32) (f44 : Nat → Int32) (f47 : Nat → Int32) (f48 : Nat → Int32) (f49 : Nat → Int32) (f50 : Nat → Int32) (f51 : Nat → Int32) (q54 : Nat → Nat) (q55 : Nat → Nat) (q56 : Nat → Nat) (f57 : Nat → Int32) (q58 : Nat → Nat) (f59 : Nat → Int32) (f60 : Nat → Int32) (f64 : Nat → Int32) (a1 : Nat) (p2 : Int32) (a3 : Nat) (p5 : Int32) (hx16 : x16 ≤ 1) (hx18 : x18 ≤ 900) (hx19 : x19 ≤ 900) (hx21 : x21 ≤ 900) (hx22 : x22 ≤ 4) (hx26 : x26 ≤ 6) (hx28 : x28 ≤ 1) (hx29 : x29 ≤ 1) (hx30 : x30 ≤ 1) (hx33 : x33 ≤ 20) (hx46 : x46 ≤ 5) (hx52 : x52 ≤ 2400) (hx53 : x53 ≤ 119) (hx61 : x61 ≤ 119) (hx62 : x62 ≤ 2000) (hx63 : x63 ≤ 1) (hx65 : x65 ≤ 7) (hm12_0 : m12_0 ≤ 3) (hm12_1 : m12_1 ≤ 3) (hm13_0 : m13_0 ≤ 8) (hm13_1 : m13_1 ≤ 8) (hm14_0 : m14_0 ≤ 14) (hm14_1 : m14_1 ≤ 14) (hm15_0 : m15_0 ≤ 8) (hm15_1 : m15_1 ≤ 8) (hm42_0 : m42_0 ≤ 120) (hm42_1 : m42_1 ≤ 400) (ha1 : a1 ≤ 7) (ha3 : a3 ≤ 1) (hgr : gz_ok m42_0 f39 f40 f41) : Met l yX9_explores vs_M_explores_1_400 ({ frames := 6, cells := 0, slots := 0, locals := 142 }) (va_Pc [.ref (ad 0), .int 1, .int (nI a1), .int p2, .int (nI a3), .int 400, .int p5] (pu_B (dC, dI) (mo_w ad ck x0 (nI x16) (nI x18) (nI x19) x20 (nI x21) (nI x22) x23 x24 x25 (nI x26) x27 (nI x28) (nI x29) (nI x30) (nI x33) x45 (nI x46) (nI x52) (nI x53) (nI x61) (nI x62) (nI x63) (nI x65) x66 f1 f2 f3 (bN 3 q4) (bN 7 q5) (bN 7 q6) (bN 4 q7) f8 (bN 2 q9) (bH q10) f11 (b2 m12_0 m12_1) (b2 m13_0 m13_1) (b2 m14_0 m14_1) (b2m m15_0 m15_1) f17 (bA 159 q31) f32 f34 f35 f36 f37 (bN 7 q38) f39 f40 f41 (b2 m42_0 m42_1) f43 f44 f47 f48 f49 f50 f51 (bN 13 q54) (bN 120 q55) (bN 120 q56) f57 (bN 120 q58) f59 f60 f64) (mo_t ck) sz)) (va_Qv (fun (_ : Unit) => True) (fun _ t => ∃ (z34 : Nat → Int32) (z35 : Nat → Int32) (z38 : Nat → Nat) (z39 : Nat → Int32) (z40 : Nat → Int32) (z41 : Nat → Int32) (z43 : Nat → Int32) (z44 : Nat → Int32) (z47 : Nat → Int32) (z48 : Nat → Int32) (z42_1 : Nat), pu_E (dC, dI) (mo_w ad ck x0 (nI x16) (nI x18) (nI x19) x20 (nI x21) (nI x22) x23 x24 x25 (nI x26) x27 (nI x28) (nI x29) (nI x30) (nI x33) x45 (nI x46) (nI x52) (nI x53) (nI x61) (nI x62) (nI x63) (nI x65) x66 f1 f2 f3 (bN 3 q4) (bN 7 q5) (bN 7 q6) (bN 4 q7) f8 (bN 2 q9) (bH q10) f11 (b2 m12_0 m12_1) (b2 m13_0 m13_1) (b2 m14_0 m14_1) (b2m m15_0 m15_1) f17 (bA 159 q31) f32 z34 z35 f36 f37 (bN 7 z38) z39 z40 z41 (b2 m42_0 z42_1) z43 z44 z47 z48 f49 f50 f51 (bN 13 q54) (bN 120 q55) (bN 120 q56) f57 (bN 120 q58) f59 f60 f64) (mo_t ck) (va_A ((mo_w ad ck x0 (nI x16) (nI x18) (nI x19) x20 (nI x21) (nI x22) x23 x24 x25 (nI x26) x27 (nI x28) (nI x29) (nI x30) (nI x33) x45 (nI x46) (nI x52) (nI x53) (nI x61) (nI x62) (nI x63) (nI x65) x66 f1 f2 f3 (bN 3 q4) (bN 7 q5) (bN 7 q6) (bN 4 q7) f8 (bN 2 q9) (bH q10) f11 (b2 m12_0 m12_1) (b2 m13_0 m13_1) (b2 m14_0 m14_1) (b2m m15_0 m15_1) f17 (bA 159 q31) f32 f34 f35 f36 f37 (bN 7 q38) f39 f40 f41 (b2 m42_0 m42_1) f43 f44 f47 f48 f49 f50 f51 (bN 13 q54) (bN 120 q55) (bN 120 q56) f57 (bN 120 q58) f59 f60 f64)) sz) t ∧ (z42_1 ≤ 400) ∧ (gz_ok m42_0 z39 z40 z41)) (va_A ((mo_w ad ck x0 (nI x16) (nI x18) (nI x19) x20 (nI x21) (nI x22) x23 x24 x25 (nI x26) x27 (nI x28) (nI x29) (nI x30) (nI x33) x45 (nI x46) (nI x52) (nI x53) (nI x61) (nI x62) (nI x63) (nI x65) x66 f1 f2 f3 (bN 3 q4) (bN 7 q5) (bN 7 q6) (bN 4 q7) f8 (bN 2 q9) (bH q10) f11 (b2 m12_0 m12_1) (b2 m13_0 m13_1) (b2 m14_0 m14_1) (b2m m15_0 m15_1) f17 (bA 159 q31) f32 f34 f35 f36 f37 (bN 7 q38) f39 f40 f41 (b2 m42_0 m42_1) f43 f44 f47 f48 f49 f50 f51 (bN 13 q54) (bN 120 q55) (bN 120 q56) f57 (bN 120 q58) f59 f60 f64)) sz)) 0 0 (va_A ((mo_w ad ck x0 (nI x16) (nI x18) (nI x19) x20 (nI x21) (nI x22) x23 x24 x25 (nI x26) x27 (nI x28) (nI x29) (nI x30) (nI x33) x45 (nI x46) (nI x52) (nI x53) (nI x61) (nI x62) (nI x63) (nI x65) x66 f1 f2 f3 (bN 3 q4) (bN 7 q5) (bN 7 q6) (bN 4 q7) f8 (bN 2 q9) (bH q10) f11 (b2 m12_0 m12_1) (b2 m13_0 m13_1) (b2 m14_0 m14_1) (b2m m15_0 m15_1) f17 (bA 159 q31) f32 f34 f35 f36 f37 (bN 7 q38) f39 f40 f41 (b2 m42_0 m42_1) f43 f44 f47 f48 f49 f50 f51 (bN 13 q54) (bN 120 q55) (bN 120 q56) f57 (bN 120 q58) f59 f60 f64)) sz) := by
  refine Met.ofW (cc := cX9_explores) (maxL := 10) (ret := none) (by decide) rfl ?_
  intro p e s m args below meth c s₁ B hml hv
  obtain ⟨rfl, rfl, hP, hK, hD0⟩ := hv
  have hx := B.exec
  have hb := B.bytes
  have hr := B.returns
  have hts := atoms_spec (ws := vs_M_explores_1_400) B.pre
  have v_1 := hts (.fieldLink RX9 92 "ClockReachModel" "stateMany" "[I") (List.mem_cons_of_mem _ vm_177)
  have v_2 := hts (.fieldLink RX9 95 "ClockReachModel" "takenBy" "[I") (List.mem_cons_of_mem _ vm_259)
  have v_3 := hts (.fieldLink RX9 98 "ClockReachModel" "isFull" "[Z") (List.mem_cons_of_mem _ vm_178)
  have v_9 := hts (.fieldLink RX9 71 "ClockReachModel" "z" "[I") (List.mem_cons_of_mem _ vm_234)
  have v_22 := hts (.fieldLink RX9 49 "ClockReachModel" "edgeMany" "[I") (List.mem_cons_of_mem _ vm_62)
  have v_23 := hts (.fieldLink RX9 258 "ClockReachModel" "bank" "I") (List.mem_cons_of_mem _ vm_22)
  have v_31 := hts (.fieldLink RX9 80 "ClockReachModel" "statePlace" "[I") (List.mem_cons_of_mem _ vm_240)
  have v_36 := hts (.fieldLink RX9 68 "ClockReachModel" "zone" "[I") (List.mem_cons_of_mem _ vm_232)
  have hown : s.vm.findClass RX9 = some m.cls := findClass_of_methodNamed B.named
  have hlocks := B.notSynchronized
  have hiX9 : ∀ w ∈ wsX90, w ∈ vs_M_explores_1_400 := fun _ h => List.mem_cons_of_mem _ (List.mem_append_right _ h)
  have hD := hD0.self (sz := s.heap.size)
  generalize hAe : va_A ((mo_w ad ck x0 (nI x16) (nI x18) (nI x19) x20 (nI x21) (nI x22) x23 x24 x25 (nI x26) x27 (nI x28) (nI x29) (nI x30) (nI x33) x45 (nI x46) (nI x52) (nI x53) (nI x61) (nI x62) (nI x63) (nI x65) x66 f1 f2 f3 (bN 3 q4) (bN 7 q5) (bN 7 q6) (bN 4 q7) f8 (bN 2 q9) (bH q10) f11 (b2 m12_0 m12_1) (b2 m13_0 m13_1) (b2 m14_0 m14_1) (b2m m15_0 m15_1) f17 (bA 159 q31) f32 f34 f35 f36 f37 (bN 7 q38) f39 f40 f41 (b2 m42_0 m42_1) f43 f44 f47 f48 f49 f50 f51 (bN 13 q54) (bN 120 q55) (bN 120 q56) f57 (bN 120 q58) f59 f60 f64)) s.heap.size = A at hD ⊢
  have hA : ∀ q : Nat, s.heap.size ≤ q → A q := fun q h => by rw [← hAe]; exact Or.inr h
  have hS : va_S A s.heap s.heap [] := va_S.rf
  have hl := lv_entry ([.ref (ad 0), .int 1, .int (nI a1), .int p2, .int (nI a3), .int 400, .int p5]) (n := 10) (Nat.le_of_ble_eq_true rfl)
  rw [lg_entry_eq]
  generalize (lg_sl ([.ref (ad 0), .int 1, .int (nI a1), .int p2, .int (nI a3), .int 400, .int p5]) ++ List.replicate (10 - (lg_sl ([.ref (ad 0), .int 1, .int (nI a1), .int p2, .int (nI a3), .int 400, .int p5])).length) Slot.unset).toArray = ls at hl ⊢
  have hl : lv_has ls 10 [(0, .ref (ad 0)), (1, .int 1), (2, .int (nI a1)), (3, .int p2), (4, .int (nI a3)), (5, .int 400), (6, .int p5)] := hl
  refine lv_aload_n hx hb dX9_explores_0 rfl (lv_at hl 0 rfl) ?_
  refine va_get (D := (dC, dI)) (ci := 9) (v := .ref (ad 42)) (C := RX9) (T := TX9) (N := 67) hx hb hts hiX9 hown hK hP 0 rfl rfl 42 (by decide) v_1 (fun _ h9 => h9) rfl dX9_explores_1 ?_
  refine lv_iload_n hx hb dX9_explores_4 rfl (lv_at hl 1 rfl) ?_
  refine lv_iconst (v := 0) hx hb dX9_explores_5 (by decide) ?_
  refine va_iast hx hb hK hP hD hS 27 26 rfl rfl (vp_in_nI (n := 1) (Nat.le_of_ble_eq_true rfl) (Nat.le_of_ble_eq_true rfl)) dX9_explores_6 (fun H locs hP hD hS => ?_)
  have hP : va_P (dC, dI) vwCl (mo_w ad ck x0 (nI x16) (nI x18) (nI x19) x20 (nI x21) (nI x22) x23 x24 x25 (nI x26) x27 (nI x28) (nI x29) (nI x30) (nI x33) x45 (nI x46) (nI x52) (nI x53) (nI x61) (nI x62) (nI x63) (nI x65) x66 f1 f2 f3 (bN 3 q4) (bN 7 q5) (bN 7 q6) (bN 4 q7) f8 (bN 2 q9) (bH q10) f11 (b2 m12_0 m12_1) (b2 m13_0 m13_1) (b2 m14_0 m14_1) (b2m m15_0 m15_1) f17 (bA 159 q31) f32 f34 f35 f36 f37 (bN 7 q38) f39 f40 f41 (b2 m42_0 0) f43 f44 f47 f48 f49 f50 f51 (bN 13 q54) (bN 120 q55) (bN 120 q56) f57 (bN 120 q58) f59 f60 f64) H := by rw [← b2_up1 (a := m42_0) (b := m42_1) (v := 0)]; exact hP
  have hD : va_D A (mo_w ad ck x0 (nI x16) (nI x18) (nI x19) x20 (nI x21) (nI x22) x23 x24 x25 (nI x26) x27 (nI x28) (nI x29) (nI x30) (nI x33) x45 (nI x46) (nI x52) (nI x53) (nI x61) (nI x62) (nI x63) (nI x65) x66 f1 f2 f3 (bN 3 q4) (bN 7 q5) (bN 7 q6) (bN 4 q7) f8 (bN 2 q9) (bH q10) f11 (b2 m12_0 m12_1) (b2 m13_0 m13_1) (b2 m14_0 m14_1) (b2m m15_0 m15_1) f17 (bA 159 q31) f32 f34 f35 f36 f37 (bN 7 q38) f39 f40 f41 (b2 m42_0 0) f43 f44 f47 f48 f49 f50 f51 (bN 13 q54) (bN 120 q55) (bN 120 q56) f57 (bN 120 q58) f59 f60 f64) := by rw [← b2_up1 (a := m42_0) (b := m42_1) (v := 0)]; exact hD
  refine lv_aload_n hx hb dX9_explores_7 rfl (lv_at hl 0 rfl) ?_
  refine va_get (D := (dC, dI)) (ci := 9) (v := .ref (ad 43)) (C := RX9) (T := TX9) (N := 67) hx hb hts hiX9 hown hK hP 0 rfl rfl 43 (by decide) v_2 (fun _ h9 => h9) rfl dX9_explores_8 ?_
  refine lv_iload_n hx hb dX9_explores_11 rfl (lv_at hl 1 rfl) ?_
  refine lv_iconst (v := 0) hx hb dX9_explores_12 (by decide) ?_
  refine va_iast hx hb hK hP hD hS 28 27 rfl rfl (vp_in_nI (n := 1) (Nat.le_of_ble_eq_true rfl) (Nat.le_of_ble_eq_true rfl)) dX9_explores_13 (fun H locs hP hD hS => ?_)
  have hP : va_P (dC, dI) vwCl (mo_w ad ck x0 (nI x16) (nI x18) (nI x19) x20 (nI x21) (nI x22) x23 x24 x25 (nI x26) x27 (nI x28) (nI x29) (nI x30) (nI x33) x45 (nI x46) (nI x52) (nI x53) (nI x61) (nI x62) (nI x63) (nI x65) x66 f1 f2 f3 (bN 3 q4) (bN 7 q5) (bN 7 q6) (bN 4 q7) f8 (bN 2 q9) (bH q10) f11 (b2 m12_0 m12_1) (b2 m13_0 m13_1) (b2 m14_0 m14_1) (b2m m15_0 m15_1) f17 (bA 159 q31) f32 f34 f35 f36 f37 (bN 7 q38) f39 f40 f41 (b2 m42_0 0) (upd f43 (1 : Int32).toNatClampNeg 0) f44 f47 f48 f49 f50 f51 (bN 13 q54) (bN 120 q55) (bN 120 q56) f57 (bN 120 q58) f59 f60 f64) H := hP
  have hD : va_D A (mo_w ad ck x0 (nI x16) (nI x18) (nI x19) x20 (nI x21) (nI x22) x23 x24 x25 (nI x26) x27 (nI x28) (nI x29) (nI x30) (nI x33) x45 (nI x46) (nI x52) (nI x53) (nI x61) (nI x62) (nI x63) (nI x65) x66 f1 f2 f3 (bN 3 q4) (bN 7 q5) (bN 7 q6) (bN 4 q7) f8 (bN 2 q9) (bH q10) f11 (b2 m12_0 m12_1) (b2 m13_0 m13_1) (b2 m14_0 m14_1) (b2m m15_0 m15_1) f17 (bA 159 q31) f32 f34 f35 f36 f37 (bN 7 q38) f39 f40 f41 (b2 m42_0 0) (upd f43 (1 : Int32).toNatClampNeg 0) f44 f47 f48 f49 f50 f51 (bN 13 q54) (bN 120 q55) (bN 120 q56) f57 (bN 120 q58) f59 f60 f64) := hD
  refine lv_aload_n hx hb dX9_explores_14 rfl (lv_at hl 0 rfl) ?_
  refine va_get (D := (dC, dI)) (ci := 9) (v := .ref (ad 44)) (C := RX9) (T := TX9) (N := 67) hx hb hts hiX9 hown hK hP 0 rfl rfl 44 (by decide) v_3 (fun _ h9 => h9) rfl dX9_explores_15 ?_
  refine lv_iload_n hx hb dX9_explores_18 rfl (lv_at hl 1 rfl) ?_
  refine lv_iconst (v := 0) hx hb dX9_explores_19 (by decide) ?_
  refine va_zast hx hb hK hP hD hS 29 28 rfl rfl (vp_in_nI (n := 1) (Nat.le_of_ble_eq_true rfl) (Nat.le_of_ble_eq_true rfl)) dX9_explores_20 (fun H locs hP hD hS => ?_)
  have hP : va_P (dC, dI) vwCl (mo_w ad ck x0 (nI x16) (nI x18) (nI x19) x20 (nI x21) (nI x22) x23 x24 x25 (nI x26) x27 (nI x28) (nI x29) (nI x30) (nI x33) x45 (nI x46) (nI x52) (nI x53) (nI x61) (nI x62) (nI x63) (nI x65) x66 f1 f2 f3 (bN 3 q4) (bN 7 q5) (bN 7 q6) (bN 4 q7) f8 (bN 2 q9) (bH q10) f11 (b2 m12_0 m12_1) (b2 m13_0 m13_1) (b2 m14_0 m14_1) (b2m m15_0 m15_1) f17 (bA 159 q31) f32 f34 f35 f36 f37 (bN 7 q38) f39 f40 f41 (b2 m42_0 0) (upd f43 (1 : Int32).toNatClampNeg 0) (upd f44 (1 : Int32).toNatClampNeg (vp_nar .boolean 0)) f47 f48 f49 f50 f51 (bN 13 q54) (bN 120 q55) (bN 120 q56) f57 (bN 120 q58) f59 f60 f64) H := hP
  have hD : va_D A (mo_w ad ck x0 (nI x16) (nI x18) (nI x19) x20 (nI x21) (nI x22) x23 x24 x25 (nI x26) x27 (nI x28) (nI x29) (nI x30) (nI x33) x45 (nI x46) (nI x52) (nI x53) (nI x61) (nI x62) (nI x63) (nI x65) x66 f1 f2 f3 (bN 3 q4) (bN 7 q5) (bN 7 q6) (bN 4 q7) f8 (bN 2 q9) (bH q10) f11 (b2 m12_0 m12_1) (b2 m13_0 m13_1) (b2 m14_0 m14_1) (b2m m15_0 m15_1) f17 (bA 159 q31) f32 f34 f35 f36 f37 (bN 7 q38) f39 f40 f41 (b2 m42_0 0) (upd f43 (1 : Int32).toNatClampNeg 0) (upd f44 (1 : Int32).toNatClampNeg (vp_nar .boolean 0)) f47 f48 f49 f50 f51 (bN 13 q54) (bN 120 q55) (bN 120 q56) f57 (bN 120 q58) f59 f60 f64) := hD
  refine lv_aload_n hx hb dX9_explores_21 rfl (lv_at hl 0 rfl) ?_
  refine lv_iload_n hx hb dX9_explores_22 rfl (lv_at hl 3 rfl) ?_
  have hFc := pu_free hD hS hA
  refine va_callv (va_runV (As := [.int p2]) (rest := []) ⟨hx, hb, hml, hown, hts⟩ (c_M_layForgotten l dC dI _ ad ck x0 x16 x18 x19 x20 x21 x22 x23 x24 x25 x26 x27 x28 x29 x30 x33 x45 x46 x52 x53 x61 x62 x63 x65 x66 f1 f2 f3 q4 q5 q6 q7 f8 q9 q10 f11 m12_0 m12_1 m13_0 m13_1 m14_0 m14_1 m15_0 m15_1 f17 q31 f32 f34 f35 f36 f37 q38 f39 f40 f41 m42_0 0 (upd f43 (1 : Int32).toNatClampNeg 0) (upd f44 (1 : Int32).toNatClampNeg (vp_nar .boolean 0)) f47 f48 f49 f50 f51 q54 q55 q56 f57 q58 f59 f60 f64 p2 hx16 hx18 hx19 hx21 hx22 hx26 hx28 hx29 hx30 hx33 hx46 hx52 hx53 hx61 hx62 hx63 hx65 hm12_0 hm12_1 hm13_0 hm13_1 hm14_0 hm14_1 hm15_0 hm15_1 hm42_0 (Nat.le_of_ble_eq_true rfl)) (cwV 1 hts g_M_explores_1_400_M_layForgotten rfl rfl rfl (by decide +kernel) ⟨Nat.le_of_ble_eq_true rfl, Nat.le_of_ble_eq_true rfl⟩) ⟨pu_bl, va_recv hK hP (ci := 9) (q0 := 0) rfl rfl, pu_in hP hK hD⟩ rfl rfl hl.1 rfl (lv_room (Nat.le_of_ble_eq_true rfl)) dX9_explores_23 ⟨Nat.le_of_ble_eq_true rfl, Nat.le_of_ble_eq_true rfl⟩) hS (fun q _ h => hFc q h) hFc (fun u t H1 locs ht hvm hw hB hz1 hk1 hS => ?_)
  obtain ⟨z47_2, z48_3, ⟨hP1, -, hD1⟩⟩ := hB
  rw [ht] at hP1
  have hP := hP1
  have hD := pu_all hFc hD1
  clear hP1 hD1 hFc
  clear hk1 hz1 ht hvm
  generalize H1 = H at hP hS ⊢
  refine lv_aload_n hx hb dX9_explores_26 rfl (lv_at hl 0 rfl) ?_
  refine lv_aload_n hx hb dX9_explores_27 rfl (lv_at hl 0 rfl) ?_
  refine va_get (D := (dC, dI)) (ci := 9) (v := .ref (ad 35)) (C := RX9) (T := TX9) (N := 67) hx hb hts hiX9 hown hK hP 0 rfl rfl 35 (by decide) v_9 (fun _ h9 => h9) rfl dX9_explores_28 ?_
  refine lv_bipush (v := 100) hx hb dX9_explores_31 (by decide) ?_
  refine lv_iload_n hx hb dX9_explores_33 rfl (lv_at hl 2 rfl) ?_
  refine lv_iadd hx hb dX9_explores_34 ?_
  refine lv_topi (fun y_4 ey_4 => ?_)
  obtain rfl : y_4 = (nI (100 + a1)) := ey_4.trans (nI_add 100 a1)
  have hFc := pu_free hD hS hA
  refine va_callv (va_runV (As := [.ref (ad 35), .int (nI (100 + a1))]) (rest := []) ⟨hx, hb, hml, hown, hts⟩ (c_M_holdsAll_p l dC dI _ ad ck x0 x16 x18 x19 x20 x21 x22 x23 x24 x25 x26 x27 x28 x29 x30 x33 x45 x46 x52 x53 x61 x62 x63 x65 x66 f1 f2 f3 q4 q5 q6 q7 f8 q9 q10 f11 m12_0 m12_1 m13_0 m13_1 m14_0 m14_1 m15_0 m15_1 f17 q31 f32 f34 f35 f36 f37 q38 f39 f40 f41 m42_0 0 (upd f43 (1 : Int32).toNatClampNeg 0) (upd f44 (1 : Int32).toNatClampNeg (vp_nar .boolean 0)) z47_2 z48_3 f49 f50 f51 q54 q55 q56 f57 q58 f59 f60 f64 (100 + a1) hx16 hx18 hx19 hx21 hx22 hx26 hx28 hx29 hx30 hx33 hx46 hx52 hx53 hx61 hx62 hx63 hx65 hm12_0 hm12_1 hm13_0 hm13_1 hm14_0 hm14_1 hm15_0 hm15_1 hm42_0 (Nat.le_of_ble_eq_true rfl) (by omega) (by omega)) (cwV 2 hts g_M_explores_1_400_M_holdsAll_p rfl rfl rfl (by decide +kernel) ⟨Nat.le_of_ble_eq_true rfl, Nat.le_of_ble_eq_true rfl⟩) ⟨pu_bl, va_recv hK hP (ci := 9) (q0 := 0) rfl rfl, pu_in hP hK hD⟩ rfl rfl hl.1 rfl (lv_room (Nat.le_of_ble_eq_true rfl)) dX9_explores_35 ⟨Nat.le_of_ble_eq_true rfl, Nat.le_of_ble_eq_true rfl⟩) hS (fun q _ h => hFc q h) hFc (fun u t H1 locs ht hvm hw hB hz1 hk1 hS => ?_)
  obtain ⟨z35_6, ⟨hP1, -, hD1⟩⟩ := hB
  rw [ht] at hP1
  have hP := hP1
  have hD := pu_all hFc hD1
  clear hP1 hD1 hFc
  clear hk1 hz1 ht hvm
  generalize H1 = H at hP hS ⊢
  refine lv_aload_n hx hb dX9_explores_38 rfl (lv_at hl 0 rfl) ?_
  refine lv_aload_n hx hb dX9_explores_39 rfl (lv_at hl 0 rfl) ?_
  refine va_get (D := (dC, dI)) (ci := 9) (v := .ref (ad 35)) (C := RX9) (T := TX9) (N := 67) hx hb hts hiX9 hown hK hP 0 rfl rfl 35 (by decide) v_9 (fun _ h9 => h9) rfl dX9_explores_40 ?_
  have hFc := pu_free hD hS hA
  refine va_calli (va_runV (As := [.ref (ad 35)]) (rest := []) ⟨hx, hb, hml, hown, hts⟩ (c_M_closes_z l dC dI _ ad ck x0 x16 x18 x19 x20 x21 x22 x23 x24 x25 x26 x27 x28 x29 x30 x33 x45 x46 x52 x53 x61 x62 x63 x65 x66 f1 f2 f3 q4 q5 q6 q7 f8 q9 q10 f11 m12_0 m12_1 m13_0 m13_1 m14_0 m14_1 m15_0 m15_1 f17 q31 f32 f34 z35_6 f36 f37 q38 f39 f40 f41 m42_0 0 (upd f43 (1 : Int32).toNatClampNeg 0) (upd f44 (1 : Int32).toNatClampNeg (vp_nar .boolean 0)) z47_2 z48_3 f49 f50 f51 q54 q55 q56 f57 q58 f59 f60 f64 hx16 hx18 hx19 hx21 hx22 hx26 hx28 hx29 hx30 hx33 hx46 hx52 hx53 hx61 hx62 hx63 hx65 hm12_0 hm12_1 hm13_0 hm13_1 hm14_0 hm14_1 hm15_0 hm15_1 hm42_0 (Nat.le_of_ble_eq_true rfl)) (cwV 1 hts g_M_explores_1_400_M_closes_z rfl rfl rfl (by decide +kernel) ⟨Nat.le_of_ble_eq_true rfl, Nat.le_of_ble_eq_true rfl⟩) ⟨pu_bl, va_recv hK hP (ci := 9) (q0 := 0) rfl rfl, pu_in hP hK hD⟩ rfl rfl hl.1 rfl (lv_room (Nat.le_of_ble_eq_true rfl)) dX9_explores_43 ⟨Nat.le_of_ble_eq_true rfl, Nat.le_of_ble_eq_true rfl⟩) hS (fun q _ h => hFc q h) hFc (fun r_7 u t H1 locs ht hvm hw hB hz1 hk1 hS => ?_)
  obtain ⟨z35_8, ⟨hP1, -, hD1⟩⟩ := hB
  rw [ht] at hP1
  have hP := hP1
  have hD := pu_all hFc hD1
  clear hP1 hD1 hFc
  clear hk1 hz1 ht hvm
  generalize H1 = H at hP hS ⊢
  obtain ⟨u_9, hu_9, rfl⟩ := hw
  refine lv_if_ne (tgt := 50) hx hb dX9_explores_46 (by decide) (fun c_10 => ?_) (fun c_10 => ?_)
  · have c_10 : ¬ u_9 = 0 := fun z => c_10 ((nI_eq (a := u_9) (b := 0) (Nat.lt_of_le_of_lt hu_9 (Nat.le_of_ble_eq_true rfl)) (Nat.le_of_ble_eq_true rfl)).mpr z)
    refine lv_aload_n hx hb dX9_explores_50 rfl (lv_at hl 0 rfl) ?_
    refine lv_iload_n hx hb dX9_explores_51 rfl (lv_at hl 1 rfl) ?_
    refine lv_iload_n hx hb dX9_explores_52 rfl (lv_at hl 2 rfl) ?_
    refine lv_iconst (v := (-1)) hx hb dX9_explores_53 (by decide) ?_
    refine lv_iconst (v := (-1)) hx hb dX9_explores_54 (by decide) ?_
    refine lv_iload_n hx hb dX9_explores_55 rfl (lv_at hl 3 rfl) ?_
    refine lv_iload hx hb dX9_explores_56 (lv_at hl 4 rfl) ?_
    refine lv_iload hx hb dX9_explores_58 (lv_at hl 5 rfl) ?_
    have hFc := pu_free hD hS hA
    refine va_callv (va_runV (As := [.int 1, .int (nI a1), .int (-1), .int (-1), .int p2, .int (nI a3), .int 400]) (rest := []) ⟨hx, hb, hml, hown, hts⟩ (c_M_comes_1_400_0 l dC dI _ ad ck x0 x16 x18 x19 x20 x21 x22 x23 x24 x25 x26 x27 x28 x29 x30 x33 x45 x46 x52 x53 x61 x62 x63 x65 x66 f1 f2 f3 q4 q5 q6 q7 f8 q9 q10 f11 m12_0 m12_1 m13_0 m13_1 m14_0 m14_1 m15_0 m15_1 f17 q31 f32 f34 z35_8 f36 f37 q38 f39 f40 f41 m42_0 0 (upd f43 (1 : Int32).toNatClampNeg 0) (upd f44 (1 : Int32).toNatClampNeg (vp_nar .boolean 0)) z47_2 z48_3 f49 f50 f51 q54 q55 q56 f57 q58 f59 f60 f64 a1 p2 a3 hx16 hx18 hx19 hx21 hx22 hx26 hx28 hx29 hx30 hx33 hx46 hx52 hx53 hx61 hx62 hx63 hx65 hm12_0 hm12_1 hm13_0 hm13_1 hm14_0 hm14_1 hm15_0 hm15_1 hm42_0 (Nat.le_of_ble_eq_true rfl) ha1 ha3 (by first | assumption | exact gz_0)) (cwV 7 hts g_M_explores_1_400_M_comes_1_400_0 rfl rfl rfl (by decide +kernel) ⟨Nat.le_of_ble_eq_true rfl, Nat.le_of_ble_eq_true rfl⟩) ⟨pu_bl, va_recv hK hP (ci := 9) (q0 := 0) rfl rfl, pu_in hP hK hD⟩ rfl rfl hl.1 rfl (lv_room (Nat.le_of_ble_eq_true rfl)) dX9_explores_60 ⟨Nat.le_of_ble_eq_true rfl, Nat.le_of_ble_eq_true rfl⟩) hS (fun q _ h => hFc q h) hFc (fun u t H1 locs ht hvm hw hB hz1 hk1 hS => ?_)
    obtain ⟨z34_12, z35_13, z38_14, z39_15, z40_16, z41_17, z44_18, z42_1_19, ⟨hP1, -, hD1⟩, hz42_1_19, xr_11_0, xr_11_1⟩ := hB
    rw [ht] at hP1
    have hP := hP1
    have hD := pu_all hFc hD1
    clear hP1 hD1 hFc
    clear hk1 hz1 ht hvm
    generalize H1 = H at hP hS ⊢
    refine lv_iconst (v := 0) hx hb dX9_explores_63 (by decide) ?_
    refine lv_istore (lv' := [(7, .int 0), (0, .ref (ad 0)), (1, .int 1), (2, .int (nI a1)), (3, .int p2), (4, .int (nI a3)), (5, .int 400), (6, .int p5)]) hx hb dX9_explores_64 hl (by decide) rfl (fun ls hl => ?_)
    refine pu_while (fun nn H locs ls => ∃ (g_31 : Nat → Int32) (g_32 : Nat → Int32) (g_33 : Nat → Nat) (g_34 : Nat → Int32) (g_35 : Nat → Int32) (g_36 : Nat → Int32) (g_37 : Nat → Int32) (g_38 : Nat → Int32) (g_39 : Nat) (g_40 : Nat), nn = 400 - g_40 ∧ g_39 ≤ 400 ∧ g_40 ≤ 400 ∧ gz_ok m42_0 g_34 g_35 g_36 ∧ va_P (dC, dI) vwCl (mo_w ad ck x0 (nI x16) (nI x18) (nI x19) x20 (nI x21) (nI x22) x23 x24 x25 (nI x26) x27 (nI x28) (nI x29) (nI x30) (nI x33) x45 (nI x46) (nI x52) (nI x53) (nI x61) (nI x62) (nI x63) (nI x65) x66 f1 f2 f3 (bN 3 q4) (bN 7 q5) (bN 7 q6) (bN 4 q7) f8 (bN 2 q9) (bH q10) f11 (b2 m12_0 m12_1) (b2 m13_0 m13_1) (b2 m14_0 m14_1) (b2m m15_0 m15_1) f17 (bA 159 q31) f32 g_31 g_32 f36 f37 (bN 7 g_33) g_34 g_35 g_36 (b2 m42_0 g_39) g_37 g_38 z47_2 z48_3 f49 f50 f51 (bN 13 q54) (bN 120 q55) (bN 120 q56) f57 (bN 120 q58) f59 f60 f64) H ∧ va_D A (mo_w ad ck x0 (nI x16) (nI x18) (nI x19) x20 (nI x21) (nI x22) x23 x24 x25 (nI x26) x27 (nI x28) (nI x29) (nI x30) (nI x33) x45 (nI x46) (nI x52) (nI x53) (nI x61) (nI x62) (nI x63) (nI x65) x66 f1 f2 f3 (bN 3 q4) (bN 7 q5) (bN 7 q6) (bN 4 q7) f8 (bN 2 q9) (bH q10) f11 (b2 m12_0 m12_1) (b2 m13_0 m13_1) (b2 m14_0 m14_1) (b2m m15_0 m15_1) f17 (bA 159 q31) f32 g_31 g_32 f36 f37 (bN 7 g_33) g_34 g_35 g_36 (b2 m42_0 g_39) g_37 g_38 z47_2 z48_3 f49 f50 f51 (bN 13 q54) (bN 120 q55) (bN 120 q56) f57 (bN 120 q58) f59 f60 f64) ∧ va_S A s.heap H locs ∧ lv_has ls 10 [(0, .ref (ad 0)), (1, .int 1), (2, .int (nI a1)), (3, .int p2), (4, .int (nI a3)), (5, .int 400), (6, .int p5), (7, .int (nI g_40))]) 66 ?_ _ _ _ _ ⟨z34_12, z35_13, z38_14, z39_15, z40_16, z41_17, (upd f43 (1 : Int32).toNatClampNeg 0), z44_18, z42_1_19, 0, rfl, hz42_1_19, (Nat.le_of_ble_eq_true rfl), by first | assumption | exact gz_0, hP, hD, hS, lv_sub hl [1, 2, 3, 4, 5, 6, 7, 0] rfl⟩
    rintro nn ih_42 H locs ls ⟨g_31, g_32, g_33, g_34, g_35, g_36, g_37, g_38, g_39, g_40, rfl, hg_39, hg_40, he_41, hP, hD, hS, hl⟩
    refine lv_iload hx hb dX9_explores_66 (lv_at hl 7 rfl) ?_
    refine lv_aload_n hx hb dX9_explores_68 rfl (lv_at hl 0 rfl) ?_
    refine va_get (D := (dC, dI)) (ci := 9) (v := .ref (ad 42)) (C := RX9) (T := TX9) (N := 67) hx hb hts hiX9 hown hK hP 0 rfl rfl 42 (by decide) v_1 (fun _ h9 => h9) rfl dX9_explores_69 ?_
    refine lv_iload_n hx hb dX9_explores_72 rfl (lv_at hl 1 rfl) ?_
    refine va_iald hx hb hK hP 27 26 rfl rfl (vp_in_nI (n := 1) (Nat.le_of_ble_eq_true rfl) (Nat.le_of_ble_eq_true rfl)) dX9_explores_73 ?_
    refine lv_topi (fun y_43 ey_43 => ?_)
    have qy_43 := ey_43.trans b2_1
    clear ey_43
    obtain rfl : y_43 = nI g_39 := qy_43
    refine lv_icmp_ge (tgt := 206) hx hb dX9_explores_74 (by decide) (fun c_44 => ?_) (fun c_44 => ?_)
    · have c_44 : g_39 ≤ g_40 := (nI_leI (a := g_39) (b := g_40) (Nat.lt_of_le_of_lt hg_39 (Nat.le_of_ble_eq_true rfl)) (Nat.lt_of_le_of_lt hg_40 (Nat.le_of_ble_eq_true rfl))).mp c_44
      exact W.vret hx hb hr (fun t ht hW => ⟨⟨(), rfl, trivial, ⟨g_31, g_32, g_33, g_34, g_35, g_36, g_37, g_38, z47_2, z48_3, g_39, ⟨by rw [ht]; exact hP, va_K.moved hW.alike hK, hD⟩, hg_39, by first | assumption | exact gz_0⟩⟩, hS.F ht⟩) hS.2.2 dX9_explores_206
    · have c_44 : ¬ g_39 ≤ g_40 := fun z => c_44 ((nI_leI (a := g_39) (b := g_40) (Nat.lt_of_le_of_lt hg_39 (Nat.le_of_ble_eq_true rfl)) (Nat.lt_of_le_of_lt hg_40 (Nat.le_of_ble_eq_true rfl))).mpr z)
      refine lv_iconst (v := 0) hx hb dX9_explores_77 (by decide) ?_
      refine lv_istore (lv' := [(8, .int 0), (0, .ref (ad 0)), (1, .int 1), (2, .int (nI a1)), (3, .int p2), (4, .int (nI a3)), (5, .int 400), (6, .int p5), (7, .int (nI g_40))]) hx hb dX9_explores_78 hl (by decide) rfl (fun ls hl => ?_)
      refine pu_while (fun nn H locs ls => ∃ (g_57 : Nat → Int32) (g_58 : Nat → Int32) (g_59 : Nat → Nat) (g_60 : Nat → Int32) (g_61 : Nat → Int32) (g_62 : Nat → Int32) (g_63 : Nat → Int32) (g_64 : Nat → Int32) (g_65 : Nat) (g_66 : Nat), nn = 14 - g_66 ∧ g_65 ≤ 400 ∧ g_66 ≤ 14 ∧ gz_ok m42_0 g_60 g_61 g_62 ∧ g_40 < g_65 ∧ va_P (dC, dI) vwCl (mo_w ad ck x0 (nI x16) (nI x18) (nI x19) x20 (nI x21) (nI x22) x23 x24 x25 (nI x26) x27 (nI x28) (nI x29) (nI x30) (nI x33) x45 (nI x46) (nI x52) (nI x53) (nI x61) (nI x62) (nI x63) (nI x65) x66 f1 f2 f3 (bN 3 q4) (bN 7 q5) (bN 7 q6) (bN 4 q7) f8 (bN 2 q9) (bH q10) f11 (b2 m12_0 m12_1) (b2 m13_0 m13_1) (b2 m14_0 m14_1) (b2m m15_0 m15_1) f17 (bA 159 q31) f32 g_57 g_58 f36 f37 (bN 7 g_59) g_60 g_61 g_62 (b2 m42_0 g_65) g_63 g_64 z47_2 z48_3 f49 f50 f51 (bN 13 q54) (bN 120 q55) (bN 120 q56) f57 (bN 120 q58) f59 f60 f64) H ∧ va_D A (mo_w ad ck x0 (nI x16) (nI x18) (nI x19) x20 (nI x21) (nI x22) x23 x24 x25 (nI x26) x27 (nI x28) (nI x29) (nI x30) (nI x33) x45 (nI x46) (nI x52) (nI x53) (nI x61) (nI x62) (nI x63) (nI x65) x66 f1 f2 f3 (bN 3 q4) (bN 7 q5) (bN 7 q6) (bN 4 q7) f8 (bN 2 q9) (bH q10) f11 (b2 m12_0 m12_1) (b2 m13_0 m13_1) (b2 m14_0 m14_1) (b2m m15_0 m15_1) f17 (bA 159 q31) f32 g_57 g_58 f36 f37 (bN 7 g_59) g_60 g_61 g_62 (b2 m42_0 g_65) g_63 g_64 z47_2 z48_3 f49 f50 f51 (bN 13 q54) (bN 120 q55) (bN 120 q56) f57 (bN 120 q58) f59 f60 f64) ∧ va_S A s.heap H locs ∧ lv_has ls 10 [(0, .ref (ad 0)), (1, .int 1), (2, .int (nI a1)), (3, .int p2), (4, .int (nI a3)), (5, .int 400), (6, .int p5), (7, .int (nI g_40)), (8, .int (nI g_66))]) 80 ?_ _ _ _ _ ⟨g_31, g_32, g_33, g_34, g_35, g_36, g_37, g_38, g_39, 0, rfl, hg_39, (Nat.le_of_ble_eq_true rfl), by first | assumption | exact gz_0, by omega, hP, hD, hS, lv_sub hl [1, 2, 3, 4, 5, 6, 7, 8, 0] rfl⟩
      rintro nn ih_69 H locs ls ⟨g_57, g_58, g_59, g_60, g_61, g_62, g_63, g_64, g_65, g_66, rfl, hg_65, hg_66, he_67, he_68, hP, hD, hS, hl⟩
      refine lv_iload hx hb dX9_explores_80 (lv_at hl 8 rfl) ?_
      refine lv_aload_n hx hb dX9_explores_82 rfl (lv_at hl 0 rfl) ?_
      refine va_get (D := (dC, dI)) (ci := 9) (v := .ref (ad 14)) (C := RX9) (T := TX9) (N := 67) hx hb hts hiX9 hown hK hP 0 rfl rfl 14 (by decide) v_22 (fun _ h9 => h9) rfl dX9_explores_83 ?_
      refine lv_aload_n hx hb dX9_explores_86 rfl (lv_at hl 0 rfl) ?_
      refine va_get (D := (dC, dI)) (ci := 9) (v := .int (nI x16)) (C := RX9) (T := TX9) (N := 67) hx hb hts hiX9 hown hK hP 0 rfl rfl 16 (by decide) v_23 (fun _ h9 => h9) rfl dX9_explores_87 ?_
      refine va_iald hx hb hK hP 14 13 rfl rfl (vp_in_nI (n := x16) (Nat.lt_of_le_of_lt hx16 (Nat.le_of_ble_eq_true rfl)) (Nat.le_of_ble_eq_true rfl)) dX9_explores_90 ?_
      refine lv_topi (fun y_70 ey_70 => ?_)
      obtain ⟨u_71, hu_71, fu_71⟩ := b2_get (a := m14_0) (b := m14_1) (i := x16) (by omega)
      have qy_70 := ey_70.trans fu_71
      obtain rfl : y_70 = nI u_71 := qy_70
      refine lv_icmp_ge (tgt := 200) hx hb dX9_explores_91 (by decide) (fun c_72 => ?_) (fun c_72 => ?_)
      · have c_72 : u_71 ≤ g_66 := (nI_leI (a := u_71) (b := g_66) (by omega) (Nat.lt_of_le_of_lt hg_66 (Nat.le_of_ble_eq_true rfl))).mp c_72
        refine lv_iinc (v := (nI (g_40 + 1))) (lv' := [(7, .int (nI (g_40 + 1))), (0, .ref (ad 0)), (1, .int 1), (2, .int (nI a1)), (3, .int p2), (4, .int (nI a3)), (5, .int 400), (6, .int p5), (8, .int (nI g_66))]) hx hb dX9_explores_200 hl (k := 7) rfl (nI_1 _) (by decide) rfl (fun ls hl => ?_)
        refine lv_goto (tgt := 66) hx hb dX9_explores_203 (by decide) ?_
        exact ih_42 (400 - (g_40 + 1)) (by omega) _ _ _ ⟨g_57, g_58, g_59, g_60, g_61, g_62, g_63, g_64, g_65, (g_40 + 1), rfl, hg_65, (by omega), by first | assumption | exact gz_0, hP, hD, hS, lv_sub hl [1, 2, 3, 4, 5, 6, 7, 0] rfl⟩
      · have c_72 : ¬ u_71 ≤ g_66 := fun z => c_72 ((nI_leI (a := u_71) (b := g_66) (by omega) (Nat.lt_of_le_of_lt hg_66 (Nat.le_of_ble_eq_true rfl))).mpr z)
        refine lv_iload_n hx hb dX9_explores_94 rfl (lv_at hl 1 rfl) ?_
        refine lv_iload hx hb dX9_explores_95 (lv_at hl 7 rfl) ?_
        refine va_calli (va_runS (As := [.int 1, .int (nI g_40)]) (rest := []) ⟨hx, hb, hml, hown, hts⟩ (c_M_spotOf_1 l dC dI _ ad ck x0 x16 x18 x19 x20 x21 x22 x23 x24 x25 x26 x27 x28 x29 x30 x33 x45 x46 x52 x53 x61 x62 x63 x65 x66 f1 f2 f3 q4 q5 q6 q7 f8 q9 q10 f11 m12_0 m12_1 m13_0 m13_1 m14_0 m14_1 m15_0 m15_1 f17 q31 f32 g_57 g_58 f36 f37 g_59 g_60 g_61 g_62 m42_0 g_65 g_63 g_64 z47_2 z48_3 f49 f50 f51 q54 q55 q56 f57 q58 f59 f60 f64 g_40 hx16 hx18 hx19 hx21 hx22 hx26 hx28 hx29 hx30 hx33 hx46 hx52 hx53 hx61 hx62 hx63 hx65 hm12_0 hm12_1 hm13_0 hm13_1 hm14_0 hm14_1 hm15_0 hm15_1 hm42_0 hg_65 (by omega)) (va_cwS 2 hts g_M_explores_1_400_M_spotOf_1 rfl rfl rfl (by decide +kernel) ⟨Nat.le_of_ble_eq_true rfl, Nat.le_of_ble_eq_true rfl⟩) ⟨pu_bl, pu_in hP hK hD⟩ rfl rfl hl.1 rfl (lv_room (Nat.le_of_ble_eq_true rfl)) dX9_explores_97 ⟨Nat.le_of_ble_eq_true rfl, Nat.le_of_ble_eq_true rfl⟩) hS (fun q _ h => pu_fr hS hA q h) (pu_fr hS hA) (fun r_73 u t H1 locs ht hvm hw hB hz1 hk1 hS => ?_)
        have hP := pu_keep hP hk1
        clear hk1 hz1 ht hvm
        generalize H1 = H at hP hS ⊢
        obtain rfl : r_73 = nI (120 + g_40) := hw
        refine lv_istore (lv' := [(9, .int (nI (120 + g_40))), (0, .ref (ad 0)), (1, .int 1), (2, .int (nI a1)), (3, .int p2), (4, .int (nI a3)), (5, .int 400), (6, .int p5), (7, .int (nI g_40)), (8, .int (nI g_66))]) hx hb dX9_explores_100 hl (by decide) rfl (fun ls hl => ?_)
        refine lv_aload_n hx hb dX9_explores_102 rfl (lv_at hl 1 rfl) ?_
        refine lv_iload hx hb dX9_explores_103 (lv_at hl 9 rfl) ?_
        refine va_calli (va_runV (As := [.int (nI g_66)]) (rest := []) ⟨hx, hb, hml, hown, hts⟩ (c_M_outOf l dC dI _ ad ck x0 x16 x18 x19 x20 x21 x22 x23 x24 x25 x26 x27 x28 x29 x30 x33 x45 x46 x52 x53 x61 x62 x63 x65 x66 f1 f2 f3 q4 q5 q6 q7 f8 q9 q10 f11 m12_0 m12_1 m13_0 m13_1 m14_0 m14_1 m15_0 m15_1 f17 q31 f32 g_57 g_58 f36 f37 g_59 g_60 g_61 g_62 m42_0 g_65 g_63 g_64 z47_2 z48_3 f49 f50 f51 q54 q55 q56 f57 q58 f59 f60 f64 g_66 hx16 hx18 hx19 hx21 hx22 hx26 hx28 hx29 hx30 hx33 hx46 hx52 hx53 hx61 hx62 hx63 hx65 hm12_0 hm12_1 hm13_0 hm13_1 hm14_0 hm14_1 hm15_0 hm15_1 hm42_0 hg_65 (by omega)) (cwV 1 hts g_M_explores_1_400_M_outOf rfl rfl rfl (by decide +kernel) ⟨Nat.le_of_ble_eq_true rfl, Nat.le_of_ble_eq_true rfl⟩) ⟨pu_bl, va_recv hK hP (ci := 9) (q0 := 0) rfl rfl, pu_in hP hK hD⟩ rfl rfl hl.1 rfl (lv_room (Nat.le_of_ble_eq_true rfl)) dX9_explores_105 ⟨Nat.le_of_ble_eq_true rfl, Nat.le_of_ble_eq_true rfl⟩) hS (fun q _ h => pu_fr hS hA q h) (pu_fr hS hA) (fun r_74 u t H1 locs ht hvm hw hB hz1 hk1 hS => ?_)
        have hP := pu_keep hP hk1
        clear hk1 hz1 ht hvm
        generalize H1 = H at hP hS ⊢
        obtain ⟨u_75, hu_75, rfl⟩ := hw
        refine lv_aload_n hx hb dX9_explores_108 rfl (lv_at hl 1 rfl) ?_
        refine va_get (D := (dC, dI)) (ci := 9) (v := .ref (ad 38)) (C := RX9) (T := TX9) (N := 67) hx hb hts hiX9 hown hK hP 0 rfl rfl 38 (by decide) v_31 (fun _ h9 => h9) rfl dX9_explores_109 ?_
        refine lv_iload hx hb dX9_explores_112 (lv_at hl 0 rfl) ?_
        refine va_iald hx hb hK hP 23 22 rfl rfl (vp_in_nI (n := (120 + g_40)) (by omega) (Nat.le_of_ble_eq_true rfl)) dX9_explores_114 ?_
        refine lv_topi (fun y_76 ey_76 => ?_)
        obtain ⟨u_77, hu_77, qu_77⟩ := bN_get 7 g_59 (((nI (120 + g_40)) : Int32).toNatClampNeg)
        obtain rfl : y_76 = nI u_77 := ey_76.trans qu_77
        refine pu_join (fun H locs ls st => ∃ (g_78 : Nat → Int32) (g_79 : Nat → Int32) (g_80 : Nat → Nat) (g_81 : Nat → Int32) (g_82 : Nat → Int32) (g_83 : Nat → Int32) (g_84 : Nat) (g_85 : Nat → Int32) (g_86 : Nat → Int32), st = [] ∧ g_84 ≤ 400 ∧ gz_ok m42_0 g_81 g_82 g_83 ∧ g_40 < g_84 ∧ va_P (dC, dI) vwCl (mo_w ad ck x0 (nI x16) (nI x18) (nI x19) x20 (nI x21) (nI x22) x23 x24 x25 (nI x26) x27 (nI x28) (nI x29) (nI x30) (nI x33) x45 (nI x46) (nI x52) (nI x53) (nI x61) (nI x62) (nI x63) (nI x65) x66 f1 f2 f3 (bN 3 q4) (bN 7 q5) (bN 7 q6) (bN 4 q7) f8 (bN 2 q9) (bH q10) f11 (b2 m12_0 m12_1) (b2 m13_0 m13_1) (b2 m14_0 m14_1) (b2m m15_0 m15_1) f17 (bA 159 q31) f32 g_78 g_79 f36 f37 (bN 7 g_80) g_81 g_82 g_83 (b2 m42_0 g_84) g_85 g_86 z47_2 z48_3 f49 f50 f51 (bN 13 q54) (bN 120 q55) (bN 120 q56) f57 (bN 120 q58) f59 f60 f64) H ∧ va_D A (mo_w ad ck x0 (nI x16) (nI x18) (nI x19) x20 (nI x21) (nI x22) x23 x24 x25 (nI x26) x27 (nI x28) (nI x29) (nI x30) (nI x33) x45 (nI x46) (nI x52) (nI x53) (nI x61) (nI x62) (nI x63) (nI x65) x66 f1 f2 f3 (bN 3 q4) (bN 7 q5) (bN 7 q6) (bN 4 q7) f8 (bN 2 q9) (bH q10) f11 (b2 m12_0 m12_1) (b2 m13_0 m13_1) (b2 m14_0 m14_1) (b2m m15_0 m15_1) f17 (bA 159 q31) f32 g_78 g_79 f36 f37 (bN 7 g_80) g_81 g_82 g_83 (b2 m42_0 g_84) g_85 g_86 z47_2 z48_3 f49 f50 f51 (bN 13 q54) (bN 120 q55) (bN 120 q56) f57 (bN 120 q58) f59 f60 f64) ∧ va_S A s.heap H locs ∧ lv_has ls 10 [(0, .ref (ad 0)), (1, .int 1), (2, .int (nI a1)), (3, .int p2), (4, .int (nI a3)), (5, .int 400), (6, .int p5), (7, .int (nI g_40)), (8, .int (nI g_66)), (9, .int (nI (120 + g_40)))]) 194 ?_ (fun j_89 => ?_)
        · rintro H locs ls st ⟨g_78, g_79, g_80, g_81, g_82, g_83, g_84, g_85, g_86, rfl, hg_84, he_87, he_88, hP, hD, hS, hl⟩
          refine lv_iinc (v := (nI (g_66 + 1))) (lv' := [(8, .int (nI (g_66 + 1))), (0, .ref (ad 0)), (1, .int 1), (2, .int (nI a1)), (3, .int p2), (4, .int (nI a3)), (5, .int 400), (6, .int p5), (7, .int (nI g_40)), (9, .int (nI (120 + g_40)))]) hx hb dX9_explores_194 hl (k := 8) rfl (nI_1 _) (by decide) rfl (fun ls hl => ?_)
          refine lv_goto (tgt := 80) hx hb dX9_explores_197 (by decide) ?_
          exact ih_69 (14 - (g_66 + 1)) (by omega) _ _ _ ⟨g_78, g_79, g_80, g_81, g_82, g_83, g_85, g_86, g_84, (g_66 + 1), rfl, hg_84, (by omega), by first | assumption | exact gz_0, by omega, hP, hD, hS, lv_sub hl [1, 2, 3, 4, 5, 6, 7, 8, 0] rfl⟩
        refine lv_icmp_ne (tgt := 194) hx hb dX9_explores_115 (by decide) (fun c_90 => ?_) (fun c_90 => ?_)
        · have c_90 : ¬ u_75 = u_77 := fun z => c_90 ((nI_eq (a := u_75) (b := u_77) (Nat.lt_of_le_of_lt hu_75 (Nat.le_of_ble_eq_true rfl)) (Nat.lt_of_le_of_lt hu_77 (Nat.le_of_ble_eq_true rfl))).mpr z)
          exact j_89 _ _ _ _ ⟨g_57, g_58, g_59, g_60, g_61, g_62, g_65, g_63, g_64, rfl, hg_65, by first | assumption | exact gz_0, by omega, hP, hD, hS, lv_sub hl [1, 2, 3, 4, 5, 6, 7, 8, 9, 0] rfl⟩
        · have c_90 : u_75 = u_77 := (nI_eq (a := u_75) (b := u_77) (Nat.lt_of_le_of_lt hu_75 (Nat.le_of_ble_eq_true rfl)) (Nat.lt_of_le_of_lt hu_77 (Nat.le_of_ble_eq_true rfl))).mp c_90
          refine lv_aload_n hx hb dX9_explores_118 rfl (lv_at hl 1 rfl) ?_
          refine lv_iload hx hb dX9_explores_119 (lv_at hl 9 rfl) ?_
          refine va_calli (va_runV (As := [.int (nI g_66)]) (rest := []) ⟨hx, hb, hml, hown, hts⟩ (c_M_into l dC dI _ ad ck x0 x16 x18 x19 x20 x21 x22 x23 x24 x25 x26 x27 x28 x29 x30 x33 x45 x46 x52 x53 x61 x62 x63 x65 x66 f1 f2 f3 q4 q5 q6 q7 f8 q9 q10 f11 m12_0 m12_1 m13_0 m13_1 m14_0 m14_1 m15_0 m15_1 f17 q31 f32 g_57 g_58 f36 f37 g_59 g_60 g_61 g_62 m42_0 g_65 g_63 g_64 z47_2 z48_3 f49 f50 f51 q54 q55 q56 f57 q58 f59 f60 f64 g_66 hx16 hx18 hx19 hx21 hx22 hx26 hx28 hx29 hx30 hx33 hx46 hx52 hx53 hx61 hx62 hx63 hx65 hm12_0 hm12_1 hm13_0 hm13_1 hm14_0 hm14_1 hm15_0 hm15_1 hm42_0 hg_65 (by omega)) (cwV 1 hts g_M_explores_1_400_M_into rfl rfl rfl (by decide +kernel) ⟨Nat.le_of_ble_eq_true rfl, Nat.le_of_ble_eq_true rfl⟩) ⟨pu_bl, va_recv hK hP (ci := 9) (q0 := 0) rfl rfl, pu_in hP hK hD⟩ rfl rfl hl.1 rfl (lv_room (Nat.le_of_ble_eq_true rfl)) dX9_explores_121 ⟨Nat.le_of_ble_eq_true rfl, Nat.le_of_ble_eq_true rfl⟩) hS (fun q _ h => pu_fr hS hA q h) (pu_fr hS hA) (fun r_91 u t H1 locs ht hvm hw hB hz1 hk1 hS => ?_)
          have hP := pu_keep hP hk1
          clear hk1 hz1 ht hvm
          generalize H1 = H at hP hS ⊢
          obtain ⟨u_92, hu_92, rfl⟩ := hw
          refine lv_iload hx hb dX9_explores_124 (lv_at hl 7 rfl) ?_
          refine lv_icmp_ne (tgt := 132) hx hb dX9_explores_126 (by decide) (fun c_93 => ?_) (fun c_93 => ?_)
          · refine lv_aload_n hx hb dX9_explores_132 rfl (lv_at hl 1 rfl) ?_
            refine va_get (D := (dC, dI)) (ci := 9) (v := .ref (ad 34)) (C := RX9) (T := TX9) (N := 67) hx hb hts hiX9 hown hK hP 0 rfl rfl 34 (by decide) v_36 (fun _ h9 => h9) rfl dX9_explores_133 ?_
            refine lv_bipush (v := 25) hx hb dX9_explores_136 (by decide) ?_
            refine lv_iload hx hb dX9_explores_138 (lv_at hl 0 rfl) ?_
            refine lv_imul hx hb dX9_explores_140 ?_
            refine lv_topi (fun y_94 ey_94 => ?_)
            obtain rfl : y_94 = (nI (25 * (120 + g_40))) := ey_94.trans (pk_mul 25 (120 + g_40))
            refine lv_aload_n hx hb dX9_explores_141 rfl (lv_at hl 1 rfl) ?_
            refine va_get (D := (dC, dI)) (ci := 9) (v := .ref (ad 35)) (C := RX9) (T := TX9) (N := 67) hx hb hts hiX9 hown hK hP 0 rfl rfl 35 (by decide) v_9 (fun _ h9 => h9) rfl dX9_explores_142 ?_
            refine lv_iconst (v := 0) hx hb dX9_explores_145 (by decide) ?_
            have hFc := pu_free hD hS hA
            refine va_callv (va_runS (As := [.ref (ad 34), .int (nI (25 * (120 + g_40))), .ref (ad 35), .int 0]) (rest := []) ⟨hx, hb, hml, hown, hts⟩ (c_M_copies_nz l dC dI _ ad ck x0 x16 x18 x19 x20 x21 x22 x23 x24 x25 x26 x27 x28 x29 x30 x33 x45 x46 x52 x53 x61 x62 x63 x65 x66 f1 f2 f3 q4 q5 q6 q7 f8 q9 q10 f11 m12_0 m12_1 m13_0 m13_1 m14_0 m14_1 m15_0 m15_1 f17 q31 f32 g_57 g_58 f36 f37 g_59 g_60 g_61 g_62 m42_0 g_65 g_63 g_64 z47_2 z48_3 f49 f50 f51 q54 q55 q56 f57 q58 f59 f60 f64 (25 * (120 + g_40)) hx16 hx18 hx19 hx21 hx22 hx26 hx28 hx29 hx30 hx33 hx46 hx52 hx53 hx61 hx62 hx63 hx65 hm12_0 hm12_1 hm13_0 hm13_1 hm14_0 hm14_1 hm15_0 hm15_1 hm42_0 hg_65 (by omega)) (va_cwS 4 hts g_M_explores_1_400_M_copies_nz rfl rfl rfl (by decide +kernel) ⟨Nat.le_of_ble_eq_true rfl, Nat.le_of_ble_eq_true rfl⟩) ⟨pu_bl, pu_in hP hK hD⟩ rfl rfl hl.1 rfl (lv_room (Nat.le_of_ble_eq_true rfl)) dX9_explores_146 ⟨Nat.le_of_ble_eq_true rfl, Nat.le_of_ble_eq_true rfl⟩) hS (fun q _ h => hFc q h) hFc (fun u t H1 locs ht hvm hw hB hz1 hk1 hS => ?_)
            obtain ⟨z35_96, ⟨hP1, -, hD1⟩⟩ := hB
            rw [ht] at hP1
            have hP := hP1
            have hD := pu_all hFc hD1
            clear hP1 hD1 hFc
            clear hk1 hz1 ht hvm
            generalize H1 = H at hP hS ⊢
            refine lv_aload_n hx hb dX9_explores_149 rfl (lv_at hl 1 rfl) ?_
            refine lv_iload hx hb dX9_explores_150 (lv_at hl 9 rfl) ?_
            have hFc := pu_free hD hS hA
            refine va_calli (va_runV (As := [.int (nI g_66)]) (rest := []) ⟨hx, hb, hml, hown, hts⟩ (c_M_goesBy l dC dI _ ad ck x0 x16 x18 x19 x20 x21 x22 x23 x24 x25 x26 x27 x28 x29 x30 x33 x45 x46 x52 x53 x61 x62 x63 x65 x66 f1 f2 f3 q4 q5 q6 q7 f8 q9 q10 f11 m12_0 m12_1 m13_0 m13_1 m14_0 m14_1 m15_0 m15_1 f17 q31 f32 g_57 z35_96 f36 f37 g_59 g_60 g_61 g_62 m42_0 g_65 g_63 g_64 z47_2 z48_3 f49 f50 f51 q54 q55 q56 f57 q58 f59 f60 f64 g_66 hx16 hx18 hx19 hx21 hx22 hx26 hx28 hx29 hx30 hx33 hx46 hx52 hx53 hx61 hx62 hx63 hx65 hm12_0 hm12_1 hm13_0 hm13_1 hm14_0 hm14_1 hm15_0 hm15_1 hm42_0 hg_65 (by omega)) (cwV 1 hts g_M_explores_1_400_M_goesBy rfl rfl rfl (by decide +kernel) ⟨Nat.le_of_ble_eq_true rfl, Nat.le_of_ble_eq_true rfl⟩) ⟨pu_bl, va_recv hK hP (ci := 9) (q0 := 0) rfl rfl, pu_in hP hK hD⟩ rfl rfl hl.1 rfl (lv_room (Nat.le_of_ble_eq_true rfl)) dX9_explores_152 ⟨Nat.le_of_ble_eq_true rfl, Nat.le_of_ble_eq_true rfl⟩) hS (fun q _ h => hFc q h) hFc (fun r_97 u t H1 locs ht hvm hw hB hz1 hk1 hS => ?_)
            obtain ⟨z35_98, ⟨hP1, -, hD1⟩⟩ := hB
            rw [ht] at hP1
            have hP := hP1
            have hD := pu_all hFc hD1
            clear hP1 hD1 hFc
            clear hk1 hz1 ht hvm
            generalize H1 = H at hP hS ⊢
            obtain ⟨u_99, hu_99, rfl⟩ := hw
            refine lv_if_ne (tgt := 161) hx hb dX9_explores_155 (by decide) (fun c_100 => ?_) (fun c_100 => ?_)
            · have c_100 : ¬ u_99 = 0 := fun z => c_100 ((nI_eq (a := u_99) (b := 0) (Nat.lt_of_le_of_lt hu_99 (Nat.le_of_ble_eq_true rfl)) (Nat.le_of_ble_eq_true rfl)).mpr z)
              refine lv_aload_n hx hb dX9_explores_161 rfl (lv_at hl 1 rfl) ?_
              refine va_get (D := (dC, dI)) (ci := 9) (v := .ref (ad 43)) (C := RX9) (T := TX9) (N := 67) hx hb hts hiX9 hown hK hP 0 rfl rfl 43 (by decide) v_2 (fun _ h9 => h9) rfl dX9_explores_162 ?_
              refine lv_iload_n hx hb dX9_explores_165 rfl (lv_at hl 2 rfl) ?_
              refine lv_dup2_11 hx hb dX9_explores_166 rfl rfl ?_
              refine va_iald hx hb hK hP 28 27 rfl rfl (vp_in_nI (n := 1) (Nat.le_of_ble_eq_true rfl) (Nat.le_of_ble_eq_true rfl)) dX9_explores_167 ?_
              refine lv_topi (fun y_101 ey_101 => ?_)
              refine lv_iconst (v := 1) hx hb dX9_explores_168 (by decide) ?_
              refine lv_iload hx hb dX9_explores_169 (lv_at hl 9 rfl) ?_
              refine lv_ishl hx hb dX9_explores_171 ?_
              refine lv_topi (fun y_102 ey_102 => ?_)
              refine lv_ior hx hb dX9_explores_172 ?_
              refine lv_topi (fun y_103 ey_103 => ?_)
              refine va_iast hx hb hK hP hD hS 28 27 rfl rfl (vp_in_nI (n := 1) (Nat.le_of_ble_eq_true rfl) (Nat.le_of_ble_eq_true rfl)) dX9_explores_173 (fun H locs hP hD hS => ?_)
              have hP : va_P (dC, dI) vwCl (mo_w ad ck x0 (nI x16) (nI x18) (nI x19) x20 (nI x21) (nI x22) x23 x24 x25 (nI x26) x27 (nI x28) (nI x29) (nI x30) (nI x33) x45 (nI x46) (nI x52) (nI x53) (nI x61) (nI x62) (nI x63) (nI x65) x66 f1 f2 f3 (bN 3 q4) (bN 7 q5) (bN 7 q6) (bN 4 q7) f8 (bN 2 q9) (bH q10) f11 (b2 m12_0 m12_1) (b2 m13_0 m13_1) (b2 m14_0 m14_1) (b2m m15_0 m15_1) f17 (bA 159 q31) f32 g_57 z35_98 f36 f37 (bN 7 g_59) g_60 g_61 g_62 (b2 m42_0 g_65) (upd g_63 (1 : Int32).toNatClampNeg y_103) g_64 z47_2 z48_3 f49 f50 f51 (bN 13 q54) (bN 120 q55) (bN 120 q56) f57 (bN 120 q58) f59 f60 f64) H := hP
              have hD : va_D A (mo_w ad ck x0 (nI x16) (nI x18) (nI x19) x20 (nI x21) (nI x22) x23 x24 x25 (nI x26) x27 (nI x28) (nI x29) (nI x30) (nI x33) x45 (nI x46) (nI x52) (nI x53) (nI x61) (nI x62) (nI x63) (nI x65) x66 f1 f2 f3 (bN 3 q4) (bN 7 q5) (bN 7 q6) (bN 4 q7) f8 (bN 2 q9) (bH q10) f11 (b2 m12_0 m12_1) (b2 m13_0 m13_1) (b2 m14_0 m14_1) (b2m m15_0 m15_1) f17 (bA 159 q31) f32 g_57 z35_98 f36 f37 (bN 7 g_59) g_60 g_61 g_62 (b2 m42_0 g_65) (upd g_63 (1 : Int32).toNatClampNeg y_103) g_64 z47_2 z48_3 f49 f50 f51 (bN 13 q54) (bN 120 q55) (bN 120 q56) f57 (bN 120 q58) f59 f60 f64) := hD
              refine lv_aload_n hx hb dX9_explores_174 rfl (lv_at hl 1 rfl) ?_
              refine lv_iload_n hx hb dX9_explores_175 rfl (lv_at hl 2 rfl) ?_
              refine lv_aload_n hx hb dX9_explores_176 rfl (lv_at hl 1 rfl) ?_
              refine lv_iload hx hb dX9_explores_177 (lv_at hl 9 rfl) ?_
              refine va_calli (va_runV (As := [.int (nI g_66)]) (rest := [.int 1, .ref (ad 0)]) ⟨hx, hb, hml, hown, hts⟩ (c_M_into l dC dI _ ad ck x0 x16 x18 x19 x20 x21 x22 x23 x24 x25 x26 x27 x28 x29 x30 x33 x45 x46 x52 x53 x61 x62 x63 x65 x66 f1 f2 f3 q4 q5 q6 q7 f8 q9 q10 f11 m12_0 m12_1 m13_0 m13_1 m14_0 m14_1 m15_0 m15_1 f17 q31 f32 g_57 z35_98 f36 f37 g_59 g_60 g_61 g_62 m42_0 g_65 (upd g_63 (1 : Int32).toNatClampNeg y_103) g_64 z47_2 z48_3 f49 f50 f51 q54 q55 q56 f57 q58 f59 f60 f64 g_66 hx16 hx18 hx19 hx21 hx22 hx26 hx28 hx29 hx30 hx33 hx46 hx52 hx53 hx61 hx62 hx63 hx65 hm12_0 hm12_1 hm13_0 hm13_1 hm14_0 hm14_1 hm15_0 hm15_1 hm42_0 hg_65 (by omega)) (cwV 1 hts g_M_explores_1_400_M_into rfl rfl rfl (by decide +kernel) ⟨Nat.le_of_ble_eq_true rfl, Nat.le_of_ble_eq_true rfl⟩) ⟨pu_bl, va_recv hK hP (ci := 9) (q0 := 0) rfl rfl, pu_in hP hK hD⟩ rfl rfl hl.1 rfl (lv_room (Nat.le_of_ble_eq_true rfl)) dX9_explores_179 ⟨Nat.le_of_ble_eq_true rfl, Nat.le_of_ble_eq_true rfl⟩) hS (fun q _ h => pu_fr hS hA q h) (pu_fr hS hA) (fun r_104 u t H1 locs ht hvm hw hB hz1 hk1 hS => ?_)
              have hP := pu_keep hP hk1
              clear hk1 hz1 ht hvm
              generalize H1 = H at hP hS ⊢
              obtain ⟨u_105, hu_105, rfl⟩ := hw
              refine lv_iload hx hb dX9_explores_182 (lv_at hl 8 rfl) ?_
              refine lv_iload hx hb dX9_explores_184 (lv_at hl 9 rfl) ?_
              refine lv_iload_n hx hb dX9_explores_186 rfl (lv_at hl 4 rfl) ?_
              refine lv_iload hx hb dX9_explores_187 (lv_at hl 5 rfl) ?_
              refine lv_iload hx hb dX9_explores_189 (lv_at hl 6 rfl) ?_
              have hFc := pu_free hD hS hA
              refine va_callv (va_runV (As := [.int 1, .int (nI u_105), .int (nI g_40), .int (nI g_66), .int p2, .int (nI a3), .int 400]) (rest := []) ⟨hx, hb, hml, hown, hts⟩ (c_M_comes_1_400_1 l dC dI _ ad ck x0 x16 x18 x19 x20 x21 x22 x23 x24 x25 x26 x27 x28 x29 x30 x33 x45 x46 x52 x53 x61 x62 x63 x65 x66 f1 f2 f3 q4 q5 q6 q7 f8 q9 q10 f11 m12_0 m12_1 m13_0 m13_1 m14_0 m14_1 m15_0 m15_1 f17 q31 f32 g_57 z35_98 f36 f37 g_59 g_60 g_61 g_62 m42_0 g_65 (upd g_63 (1 : Int32).toNatClampNeg y_103) g_64 z47_2 z48_3 f49 f50 f51 q54 q55 q56 f57 q58 f59 f60 f64 u_105 g_40 g_66 p2 a3 hx16 hx18 hx19 hx21 hx22 hx26 hx28 hx29 hx30 hx33 hx46 hx52 hx53 hx61 hx62 hx63 hx65 hm12_0 hm12_1 hm13_0 hm13_1 hm14_0 hm14_1 hm15_0 hm15_1 hm42_0 hg_65 hu_105 (by omega) (by omega) ha3 (by first | assumption | exact gz_0)) (cwV 7 hts g_M_explores_1_400_M_comes_1_400_1 rfl rfl rfl (by decide +kernel) ⟨Nat.le_of_ble_eq_true rfl, Nat.le_of_ble_eq_true rfl⟩) ⟨pu_bl, va_recv hK hP (ci := 9) (q0 := 0) rfl rfl, pu_in hP hK hD⟩ rfl rfl hl.1 rfl (lv_room (Nat.le_of_ble_eq_true rfl)) dX9_explores_191 ⟨Nat.le_of_ble_eq_true rfl, Nat.le_of_ble_eq_true rfl⟩) hS (fun q _ h => hFc q h) hFc (fun u t H1 locs ht hvm hw hB hz1 hk1 hS => ?_)
              obtain ⟨z34_107, z35_108, z38_109, z39_110, z40_111, z41_112, z44_113, z42_1_114, ⟨hP1, -, hD1⟩, hz42_1_114, xr_106_0, xr_106_1⟩ := hB
              rw [ht] at hP1
              have hP := hP1
              have hD := pu_all hFc hD1
              clear hP1 hD1 hFc
              clear hk1 hz1 ht hvm
              generalize H1 = H at hP hS ⊢
              exact j_89 _ _ _ _ ⟨z34_107, z35_108, z38_109, z39_110, z40_111, z41_112, z42_1_114, (upd g_63 (1 : Int32).toNatClampNeg y_103), z44_113, rfl, hz42_1_114, by first | assumption | exact gz_0, by omega, hP, hD, hS, lv_sub hl [1, 2, 3, 4, 5, 6, 7, 8, 9, 0] rfl⟩
            · have c_100 : u_99 = 0 := (nI_eq (a := u_99) (b := 0) (Nat.lt_of_le_of_lt hu_99 (Nat.le_of_ble_eq_true rfl)) (Nat.le_of_ble_eq_true rfl)).mp c_100
              refine lv_goto (tgt := 194) hx hb dX9_explores_158 (by decide) ?_
              exact j_89 _ _ _ _ ⟨g_57, z35_98, g_59, g_60, g_61, g_62, g_65, g_63, g_64, rfl, hg_65, by first | assumption | exact gz_0, by omega, hP, hD, hS, lv_sub hl [1, 2, 3, 4, 5, 6, 7, 8, 9, 0] rfl⟩
          · refine lv_goto (tgt := 194) hx hb dX9_explores_129 (by decide) ?_
            exact j_89 _ _ _ _ ⟨g_57, g_58, g_59, g_60, g_61, g_62, g_65, g_63, g_64, rfl, hg_65, by first | assumption | exact gz_0, by omega, hP, hD, hS, lv_sub hl [1, 2, 3, 4, 5, 6, 7, 8, 9, 0] rfl⟩
  · have c_10 : u_9 = 0 := (nI_eq (a := u_9) (b := 0) (Nat.lt_of_le_of_lt hu_9 (Nat.le_of_ble_eq_true rfl)) (Nat.le_of_ble_eq_true rfl)).mp c_10
    exact W.vret hx hb hr (fun t ht hW => ⟨⟨(), rfl, trivial, ⟨f34, z35_8, q38, f39, f40, f41, (upd f43 (1 : Int32).toNatClampNeg 0), (upd f44 (1 : Int32).toNatClampNeg (vp_nar .boolean 0)), z47_2, z48_3, 0, ⟨by rw [ht]; exact hP, va_K.moved hW.alike hK, hD⟩, (Nat.le_of_ble_eq_true rfl), by first | assumption | exact gz_0⟩⟩, hS.F ht⟩) hS.2.2 dX9_explores_49
