abbrev vs_EM_explores_1_120 : List Cond := .code yX9_explores cX9_explores 10 none :: VM
theorem g_EM_explores_1_120_EM_layForgotten : GoodIn vs_EM_explores_1_120 (wsV RX9 369 RX9 yX9_layForgotten vs_EM_layForgotten) := gm_V vm_242 vm_243 vm_244 vm_19 vm_245
theorem g_EM_explores_1_120_EM_holdsAll_p : GoodIn vs_EM_explores_1_120 (wsV RX9 342 RX9 yX9_holdsAll vs_EM_holdsAll_p) := gm_V vm_204 vm_205 vm_206 vm_19 vm_207
theorem g_EM_explores_1_120_EM_closes_z : GoodIn vs_EM_explores_1_120 (wsV RX9 345 RX9 yX9_closes vs_EM_closes_z) := gm_V vm_208 vm_209 vm_210 vm_19 vm_211
theorem g_EM_explores_1_120_EM_comes_1_120_0 : GoodIn vs_EM_explores_1_120 (wsV RX9 372 RX9 yX9_comes vs_EM_comes_1_120_0) := gm_V vm_246 vm_247 vm_248 vm_19 vm_249
theorem g_EM_explores_1_120_EM_spotOf_1 : GoodIn vs_EM_explores_1_120 (va_wsS RX9 355 yX9_spotOf vs_EM_spotOf_1) := gm_S vm_220 vm_221 vm_19 vm_222
theorem g_EM_explores_1_120_EM_outOf : GoodIn vs_EM_explores_1_120 (wsV RX9 289 RX9 yX9_outOf vs_EM_outOf) := gm_V vm_41 vm_42 vm_43 vm_19 vm_44
theorem g_EM_explores_1_120_EM_into : GoodIn vs_EM_explores_1_120 (wsV RX9 292 RX9 yX9_into vs_EM_into) := gm_V vm_37 vm_38 vm_39 vm_19 vm_40
theorem g_EM_explores_1_120_EM_copies_nz : GoodIn vs_EM_explores_1_120 (va_wsS RX9 362 yX9_copies vs_EM_copies_nz) := gm_S vm_228 vm_229 vm_19 vm_230
theorem g_EM_explores_1_120_EM_goesBy : GoodIn vs_EM_explores_1_120 (wsV RX9 376 RX9 yX9_goesBy vs_EM_goesBy) := gm_V vm_250 vm_251 vm_252 vm_19 vm_253
theorem g_EM_explores_1_120_EM_comes_1_120_1 : GoodIn vs_EM_explores_1_120 (wsV RX9 372 RX9 yX9_comes vs_EM_comes_1_120_1) := gm_V vm_246 vm_247 vm_248 vm_19 vm_249
noncomputable def sp_EM_explores_1_120_L1 (x16 : Nat) (x46 : Nat) (f3 : Nat → Int32) (q4 : Nat → Nat) (q5 : Nat → Nat) (q6 : Nat → Nat) (q7 : Nat → Nat) (f8 : Nat → Int32) (q9 : Nat → Nat) (q10 : Nat → Nat) (f11 : Nat → Int32) (m12_0 : Nat) (m12_1 : Nat) (m13_0 : Nat) (m13_1 : Nat) (m14_0 : Nat) (m14_1 : Nat) (p2 : Int32) (a3 : Nat) (p5 : Int32) (z47_4 : Nat → Int32) (z48_5 : Nat → Int32) (g_42 : Nat) : ((Nat → Int32) × (Nat → Int32) × (Nat → Nat) × (Nat → Int32) × (Nat → Int32) × (Nat → Int32) × (Nat → Int32) × (Nat → Int32) × Nat × Nat) → ((Nat → Int32) × (Nat → Int32) × (Nat → Nat) × (Nat → Int32) × (Nat → Int32) × (Nat → Int32) × (Nat → Int32) × (Nat → Int32) × Nat × Nat) ⊕ (((Nat → Int32) × (Nat → Int32) × (Nat → Nat) × (Nat → Int32) × (Nat → Int32) × (Nat → Int32) × (Nat → Int32) × (Nat → Int32) × Nat × Nat) ⊕ ((Nat → Int32) × (Nat → Int32) × (Nat → Nat) × (Nat → Int32) × (Nat → Int32) × (Nat → Int32) × (Nat → Int32) × (Nat → Int32) × (Nat → Int32) × (Nat → Int32) × Nat)) := fun (g_64, g_65, g_66, g_67, g_68, g_69, g_70, g_71, g_72, g_73) => (slet (if x16 = 0 then m14_0 else m14_1) (fun u_83 => (if u_83 ≤ g_73 then (Sum.inr (Sum.inl (g_64, g_65, g_66, g_67, g_68, g_69, g_70, g_71, g_72, (g_42 + 1)))) else (slet (sp_EM_outOf x16 q5 g_73) (fun u_87 => (slet (min (g_66 (120 + g_42)) 7) (fun u_89 => (slet (α := (Nat → Int32) × (Nat → Int32) × (Nat → Nat) × (Nat → Int32) × (Nat → Int32) × (Nat → Int32) × Nat × (Nat → Int32) × (Nat → Int32)) (if u_87 = u_89 then (slet (sp_EM_into x16 q6 g_73) (fun u_106 => (if ((nI u_106) : Int32) = p5 then (g_64, g_65, g_66, g_67, g_68, g_69, g_72, g_70, g_71) else (slet (sp_EM_copies_nz g_64 g_65 (25 * (120 + g_42))) (fun z35_110 => (slet (sp_EM_goesBy x16 x46 q4 q6 q7 f8 q9 q10 f11 m12_0 m12_1 m13_0 m13_1 m14_0 m14_1 z35_110 g_73) (fun (u_113, z35_112) => (if u_113 = 0 then (g_64, z35_112, g_66, g_67, g_68, g_69, g_72, g_70, g_71) else (slet (g_70 1) (fun y_115 => (slet ((1 : Int32) <<< (((nI g_73) : Int32) &&& 31)) (fun y_116 => (slet ((y_115 : Int32) ||| (y_116 : Int32)) (fun y_117 => (slet (upd g_70 1 y_117) (fun f_118 => (slet (sp_EM_into x16 q6 g_73) (fun u_120 => (slet (sp_EM_comes_1_120_1 x16 x46 f3 q4 q9 q10 f11 m13_0 m13_1 g_64 z35_112 g_66 g_67 g_68 g_69 g_72 g_71 z47_4 z48_5 u_120 g_42 g_73 p2 a3) (fun (z34_122, z35_123, z38_124, z39_125, z40_126, z41_127, z44_128, z42_1_129) => (z34_122, z35_123, z38_124, z39_125, z40_126, z41_127, z42_1_129, f_118, z44_128))))))))))))))))))))) else (g_64, g_65, g_66, g_67, g_68, g_69, g_72, g_70, g_71)) (fun (g_90, g_91, g_92, g_93, g_94, g_95, g_96, g_97, g_98) => (Sum.inl (g_90, g_91, g_92, g_93, g_94, g_95, g_97, g_98, g_96, (g_73 + 1))))))))))))
noncomputable def sp_EM_explores_1_120_L2 (x16 : Nat) (x46 : Nat) (f3 : Nat → Int32) (q4 : Nat → Nat) (q5 : Nat → Nat) (q6 : Nat → Nat) (q7 : Nat → Nat) (f8 : Nat → Int32) (q9 : Nat → Nat) (q10 : Nat → Nat) (f11 : Nat → Int32) (m12_0 : Nat) (m12_1 : Nat) (m13_0 : Nat) (m13_1 : Nat) (m14_0 : Nat) (m14_1 : Nat) (p2 : Int32) (a3 : Nat) (p5 : Int32) (z47_4 : Nat → Int32) (z48_5 : Nat → Int32) : ((Nat → Int32) × (Nat → Int32) × (Nat → Nat) × (Nat → Int32) × (Nat → Int32) × (Nat → Int32) × (Nat → Int32) × (Nat → Int32) × Nat × Nat) → ((Nat → Int32) × (Nat → Int32) × (Nat → Nat) × (Nat → Int32) × (Nat → Int32) × (Nat → Int32) × (Nat → Int32) × (Nat → Int32) × Nat × Nat) ⊕ ((Nat → Int32) × (Nat → Int32) × (Nat → Nat) × (Nat → Int32) × (Nat → Int32) × (Nat → Int32) × (Nat → Int32) × (Nat → Int32) × (Nat → Int32) × (Nat → Int32) × Nat) := fun (g_33, g_34, g_35, g_36, g_37, g_38, g_39, g_40, g_41, g_42) => (if g_41 ≤ g_42 then (Sum.inr (g_33, g_34, g_35, g_36, g_37, g_38, g_39, g_40, z47_4, z48_5, g_41)) else (itrv (α := (Nat → Int32) × (Nat → Int32) × (Nat → Nat) × (Nat → Int32) × (Nat → Int32) × (Nat → Int32) × (Nat → Int32) × (Nat → Int32) × Nat × Nat) (β := (((Nat → Int32) × (Nat → Int32) × (Nat → Nat) × (Nat → Int32) × (Nat → Int32) × (Nat → Int32) × (Nat → Int32) × (Nat → Int32) × Nat × Nat) ⊕ ((Nat → Int32) × (Nat → Int32) × (Nat → Nat) × (Nat → Int32) × (Nat → Int32) × (Nat → Int32) × (Nat → Int32) × (Nat → Int32) × (Nat → Int32) × (Nat → Int32) × Nat))) (Sum.inr default) (sp_EM_explores_1_120_L1 x16 x46 f3 q4 q5 q6 q7 f8 q9 q10 f11 m12_0 m12_1 m13_0 m13_1 m14_0 m14_1 p2 a3 p5 z47_4 z48_5 g_42) (g_33, g_34, g_35, g_36, g_37, g_38, g_39, g_40, g_41, 0)))
noncomputable def sp_EM_explores_1_120 (x16 : Nat) (x46 : Nat) (f3 : Nat → Int32) (q4 : Nat → Nat) (q5 : Nat → Nat) (q6 : Nat → Nat) (q7 : Nat → Nat) (f8 : Nat → Int32) (q9 : Nat → Nat) (q10 : Nat → Nat) (f11 : Nat → Int32) (m12_0 : Nat) (m12_1 : Nat) (m13_0 : Nat) (m13_1 : Nat) (m14_0 : Nat) (m14_1 : Nat) (f34 : Nat → Int32) (f35 : Nat → Int32) (q38 : Nat → Nat) (f39 : Nat → Int32) (f40 : Nat → Int32) (f41 : Nat → Int32) (f43 : Nat → Int32) (f44 : Nat → Int32) (f47 : Nat → Int32) (f48 : Nat → Int32) (a1 : Nat) (p2 : Int32) (a3 : Nat) (p5 : Int32) : (Nat → Int32) × (Nat → Int32) × (Nat → Nat) × (Nat → Int32) × (Nat → Int32) × (Nat → Int32) × (Nat → Int32) × (Nat → Int32) × (Nat → Int32) × (Nat → Int32) × Nat := (slet (upd f43 1 0) (fun f_1 => (slet (upd f44 1 (vp_nar .boolean 0)) (fun f_2 => (slet (sp_EM_layForgotten x16 q4 q7 q9 q10 f11 m12_0 m12_1 m13_0 m13_1 m14_0 m14_1 f47 f48 p2) (fun (z47_4, z48_5) => (slet (sp_EM_holdsAll_p x16 q4 q9 q10 f11 m13_0 m13_1 f35 (100 + a1)) (fun z35_8 => (slet (sp_EM_closes_z x46 z35_8) (fun (u_11, z35_10) => (if u_11 = 0 then (f34, z35_10, q38, f39, f40, f41, f_1, f_2, z47_4, z48_5, 0) else (slet (sp_EM_comes_1_120_0 x16 x46 f3 q4 q9 q10 f11 m13_0 m13_1 f34 z35_10 q38 f39 f40 f41 0 f_2 z47_4 z48_5 a1 p2 a3) (fun (z34_14, z35_15, z38_16, z39_17, z40_18, z41_19, z44_20, z42_1_21) => (itrv (α := (Nat → Int32) × (Nat → Int32) × (Nat → Nat) × (Nat → Int32) × (Nat → Int32) × (Nat → Int32) × (Nat → Int32) × (Nat → Int32) × Nat × Nat) (β := ((Nat → Int32) × (Nat → Int32) × (Nat → Nat) × (Nat → Int32) × (Nat → Int32) × (Nat → Int32) × (Nat → Int32) × (Nat → Int32) × (Nat → Int32) × (Nat → Int32) × Nat)) default (sp_EM_explores_1_120_L2 x16 x46 f3 q4 q5 q6 q7 f8 q9 q10 f11 m12_0 m12_1 m13_0 m13_1 m14_0 m14_1 p2 a3 p5 z47_4 z48_5) (z34_14, z35_15, z38_16, z39_17, z40_18, z41_19, f_1, z44_20, z42_1_21, 0)))))))))))))))
set_option maxHeartbeats 4000000 in
set_option maxRecDepth 100000 in
theorem c_EM_explores_1_120 (l : Launch) (dC : Nat → ClassId) (dI : Nat → Nat → Nat) (sz : Nat) (ad : Nat → Nat) (ck : Nat → ClassId) (x0 : Int32) (x16 : Nat) (x18 : Nat) (x19 : Nat) (x20 : Int32) (x21 : Nat) (x22 : Nat) (x23 : Int32) (x24 : Int32) (x25 : Int32) (x26 : Nat) (x27 : Int32) (x28 : Nat) (x29 : Nat) (x30 : Nat) (x33 : Nat) (x45 : Int32) (x46 : Nat) (x52 : Nat) (x53 : Nat) (x61 : Nat) (x62 : Nat) (x63 : Nat) (x65 : Nat) (x66 : Int32) (f1 : Nat → Int32) (f2 : Nat → Int32) (f3 : Nat → Int32) (q4 : Nat → Nat) (q5 : Nat → Nat) (q6 : Nat → Nat) (q7 : Nat → Nat) (f8 : Nat → Int32) (q9 : Nat → Nat) (q10 : Nat → Nat) (f11 : Nat → Int32) (m12_0 m12_1 : Nat) (m13_0 m13_1 : Nat) (m14_0 m14_1 : Nat) (m15_0 m15_1 : Nat) (f17 : Nat → Int32) (q31 : Nat → Nat) (f32 : Nat → Int32) (f34 : Nat → Int32) (f35 : Nat → Int32) (f36 : Nat → Int32) (f37 : Nat → Int32) (q38 : Nat → Nat) (f39 : Nat → Int32) (f40 : Nat → Int32) (f41 : Nat → Int32) (m42_0 m42_1 : Nat) (f43 : Nat → Int32) (f44 : Nat → Int32) (f47 : Nat → Int32) (f48 : Nat → Int32) (f49 : Nat → Int32) (f50 : Nat → Int32) (f51 : Nat → Int32) (q54 : Nat → Nat) (q55 : Nat → Nat) (q56 : Nat → Nat) (f57 : Nat → Int32) (q58 : Nat → Nat) (f59 : Nat → Int32) (f60 : Nat → Int32) (f64 : Nat → Int32) (a1 : Nat) (p2 : Int32) (a3 : Nat) (p5 : Int32) (hx16 : x16 ≤ 1) (hx18 : x18 ≤ 900) (hx19 : x19 ≤ 900) (hx21 : x21 ≤ 900) (hx22 : x22 ≤ 4) (hx26 : x26 ≤ 6) (hx28 : x28 ≤ 1) (hx29 : x29 ≤ 1) (hx30 : x30 ≤ 1) (hx33 : x33 ≤ 20) (hx46 : x46 ≤ 5) (hx52 : x52 ≤ 2400) (hx53 : x53 ≤ 119) (hx61 : x61 ≤ 119) (hx62 : x62 ≤ 2000) (hx63 : x63 ≤ 1) (hx65 : x65 ≤ 7) (hm12_0 : m12_0 ≤ 3) (hm12_1 : m12_1 ≤ 3) (hm13_0 : m13_0 ≤ 8) (hm13_1 : m13_1 ≤ 8) (hm14_0 : m14_0 ≤ 14) (hm14_1 : m14_1 ≤ 14) (hm15_0 : m15_0 ≤ 8) (hm15_1 : m15_1 ≤ 8) (hm42_0 : m42_0 ≤ 120) (hm42_1 : m42_1 ≤ 400) (ha1 : a1 ≤ 7) (ha3 : a3 ≤ 1) (hgr : gz_ok m42_0 f39 f40 f41) : Met l yX9_explores vs_EM_explores_1_120 ({ frames := 6, cells := 0, slots := 0, locals := 142 }) (va_Pc [.ref (ad 0), .int 1, .int (nI a1), .int p2, .int (nI a3), .int 120, .int p5] (pu_B (dC, dI) (mo_w ad ck x0 (nI x16) (nI x18) (nI x19) x20 (nI x21) (nI x22) x23 x24 x25 (nI x26) x27 (nI x28) (nI x29) (nI x30) (nI x33) x45 (nI x46) (nI x52) (nI x53) (nI x61) (nI x62) (nI x63) (nI x65) x66 f1 f2 f3 (bN 3 q4) (bN 7 q5) (bN 7 q6) (bN 4 q7) f8 (bN 2 q9) (bH q10) f11 (b2 m12_0 m12_1) (b2 m13_0 m13_1) (b2 m14_0 m14_1) (b2m m15_0 m15_1) f17 (bA 159 q31) f32 f34 f35 f36 f37 (bN 7 q38) f39 f40 f41 (b2 m42_0 m42_1) f43 f44 f47 f48 f49 f50 f51 (bN 13 q54) (bN 120 q55) (bN 120 q56) f57 (bN 120 q58) f59 f60 f64) (mo_t ck) sz)) (va_Qv (fun (_ : Unit) => True) (fun _ t => ∃ (z34 : Nat → Int32) (z35 : Nat → Int32) (z38 : Nat → Nat) (z39 : Nat → Int32) (z40 : Nat → Int32) (z41 : Nat → Int32) (z43 : Nat → Int32) (z44 : Nat → Int32) (z47 : Nat → Int32) (z48 : Nat → Int32) (z42_1 : Nat), pu_E (dC, dI) (mo_w ad ck x0 (nI x16) (nI x18) (nI x19) x20 (nI x21) (nI x22) x23 x24 x25 (nI x26) x27 (nI x28) (nI x29) (nI x30) (nI x33) x45 (nI x46) (nI x52) (nI x53) (nI x61) (nI x62) (nI x63) (nI x65) x66 f1 f2 f3 (bN 3 q4) (bN 7 q5) (bN 7 q6) (bN 4 q7) f8 (bN 2 q9) (bH q10) f11 (b2 m12_0 m12_1) (b2 m13_0 m13_1) (b2 m14_0 m14_1) (b2m m15_0 m15_1) f17 (bA 159 q31) f32 z34 z35 f36 f37 (bN 7 z38) z39 z40 z41 (b2 m42_0 z42_1) z43 z44 z47 z48 f49 f50 f51 (bN 13 q54) (bN 120 q55) (bN 120 q56) f57 (bN 120 q58) f59 f60 f64) (mo_t ck) (va_A ((mo_w ad ck x0 (nI x16) (nI x18) (nI x19) x20 (nI x21) (nI x22) x23 x24 x25 (nI x26) x27 (nI x28) (nI x29) (nI x30) (nI x33) x45 (nI x46) (nI x52) (nI x53) (nI x61) (nI x62) (nI x63) (nI x65) x66 f1 f2 f3 (bN 3 q4) (bN 7 q5) (bN 7 q6) (bN 4 q7) f8 (bN 2 q9) (bH q10) f11 (b2 m12_0 m12_1) (b2 m13_0 m13_1) (b2 m14_0 m14_1) (b2m m15_0 m15_1) f17 (bA 159 q31) f32 f34 f35 f36 f37 (bN 7 q38) f39 f40 f41 (b2 m42_0 m42_1) f43 f44 f47 f48 f49 f50 f51 (bN 13 q54) (bN 120 q55) (bN 120 q56) f57 (bN 120 q58) f59 f60 f64)) sz) t ∧ (z42_1 ≤ 120) ∧ (gz_ok m42_0 z39 z40 z41) ∧ ((z34, z35, z38, z39, z40, z41, z43, z44, z47, z48, z42_1) = (sp_EM_explores_1_120 x16 x46 f3 q4 q5 q6 q7 f8 q9 q10 f11 m12_0 m12_1 m13_0 m13_1 m14_0 m14_1 f34 f35 q38 f39 f40 f41 f43 f44 f47 f48 a1 p2 a3 p5))) (va_A ((mo_w ad ck x0 (nI x16) (nI x18) (nI x19) x20 (nI x21) (nI x22) x23 x24 x25 (nI x26) x27 (nI x28) (nI x29) (nI x30) (nI x33) x45 (nI x46) (nI x52) (nI x53) (nI x61) (nI x62) (nI x63) (nI x65) x66 f1 f2 f3 (bN 3 q4) (bN 7 q5) (bN 7 q6) (bN 4 q7) f8 (bN 2 q9) (bH q10) f11 (b2 m12_0 m12_1) (b2 m13_0 m13_1) (b2 m14_0 m14_1) (b2m m15_0 m15_1) f17 (bA 159 q31) f32 f34 f35 f36 f37 (bN 7 q38) f39 f40 f41 (b2 m42_0 m42_1) f43 f44 f47 f48 f49 f50 f51 (bN 13 q54) (bN 120 q55) (bN 120 q56) f57 (bN 120 q58) f59 f60 f64)) sz)) 0 0 (va_A ((mo_w ad ck x0 (nI x16) (nI x18) (nI x19) x20 (nI x21) (nI x22) x23 x24 x25 (nI x26) x27 (nI x28) (nI x29) (nI x30) (nI x33) x45 (nI x46) (nI x52) (nI x53) (nI x61) (nI x62) (nI x63) (nI x65) x66 f1 f2 f3 (bN 3 q4) (bN 7 q5) (bN 7 q6) (bN 4 q7) f8 (bN 2 q9) (bH q10) f11 (b2 m12_0 m12_1) (b2 m13_0 m13_1) (b2 m14_0 m14_1) (b2m m15_0 m15_1) f17 (bA 159 q31) f32 f34 f35 f36 f37 (bN 7 q38) f39 f40 f41 (b2 m42_0 m42_1) f43 f44 f47 f48 f49 f50 f51 (bN 13 q54) (bN 120 q55) (bN 120 q56) f57 (bN 120 q58) f59 f60 f64)) sz) := by
  refine Met.ofW (cc := cX9_explores) (maxL := 10) (ret := none) (by decide) rfl ?_
  intro p e s m args below meth c s₁ B hml hv
  obtain ⟨rfl, rfl, hP, hK, hD0⟩ := hv
  have hx := B.exec
  have hb := B.bytes
  have hr := B.returns
  have hts := atoms_spec (ws := vs_EM_explores_1_120) B.pre
  have v_1 := hts (.fieldLink RX9 92 "ClockReachModel" "stateMany" "[I") (List.mem_cons_of_mem _ vm_164)
  have v_2 := hts (.fieldLink RX9 95 "ClockReachModel" "takenBy" "[I") (List.mem_cons_of_mem _ vm_254)
  have v_3 := hts (.fieldLink RX9 98 "ClockReachModel" "isFull" "[Z") (List.mem_cons_of_mem _ vm_165)
  have v_9 := hts (.fieldLink RX9 71 "ClockReachModel" "z" "[I") (List.mem_cons_of_mem _ vm_219)
  have v_22 := hts (.fieldLink RX9 49 "ClockReachModel" "edgeMany" "[I") (List.mem_cons_of_mem _ vm_45)
  have v_23 := hts (.fieldLink RX9 258 "ClockReachModel" "bank" "I") (List.mem_cons_of_mem _ vm_4)
  have v_31 := hts (.fieldLink RX9 80 "ClockReachModel" "statePlace" "[I") (List.mem_cons_of_mem _ vm_223)
  have v_36 := hts (.fieldLink RX9 68 "ClockReachModel" "zone" "[I") (List.mem_cons_of_mem _ vm_214)
  have hown : s.vm.findClass RX9 = some m.cls := findClass_of_methodNamed B.named
  have hlocks := B.notSynchronized
  have hiX9 : ∀ w ∈ wsX90, w ∈ vs_EM_explores_1_120 := fun _ h => List.mem_cons_of_mem _ (vmi_L h)
  have hD := hD0.self (sz := s.heap.size)
  generalize hAe : va_A ((mo_w ad ck x0 (nI x16) (nI x18) (nI x19) x20 (nI x21) (nI x22) x23 x24 x25 (nI x26) x27 (nI x28) (nI x29) (nI x30) (nI x33) x45 (nI x46) (nI x52) (nI x53) (nI x61) (nI x62) (nI x63) (nI x65) x66 f1 f2 f3 (bN 3 q4) (bN 7 q5) (bN 7 q6) (bN 4 q7) f8 (bN 2 q9) (bH q10) f11 (b2 m12_0 m12_1) (b2 m13_0 m13_1) (b2 m14_0 m14_1) (b2m m15_0 m15_1) f17 (bA 159 q31) f32 f34 f35 f36 f37 (bN 7 q38) f39 f40 f41 (b2 m42_0 m42_1) f43 f44 f47 f48 f49 f50 f51 (bN 13 q54) (bN 120 q55) (bN 120 q56) f57 (bN 120 q58) f59 f60 f64)) s.heap.size = A at hD ⊢
  have hA : ∀ q : Nat, s.heap.size ≤ q → A q := fun q h => by rw [← hAe]; exact Or.inr h
  have hS : va_S A s.heap s.heap [] := va_S.rf
  have hl := lv_entry ([.ref (ad 0), .int 1, .int (nI a1), .int p2, .int (nI a3), .int 120, .int p5]) (n := 10) (Nat.le_of_ble_eq_true rfl)
  rw [lg_entry_eq]
  generalize (lg_sl ([.ref (ad 0), .int 1, .int (nI a1), .int p2, .int (nI a3), .int 120, .int p5]) ++ List.replicate (10 - (lg_sl ([.ref (ad 0), .int 1, .int (nI a1), .int p2, .int (nI a3), .int 120, .int p5])).length) Slot.unset).toArray = ls at hl ⊢
  have hl : lv_has ls 10 [(0, .ref (ad 0)), (1, .int 1), (2, .int (nI a1)), (3, .int p2), (4, .int (nI a3)), (5, .int 120), (6, .int p5)] := hl
  obtain ⟨RR, hRR⟩ : ∃ x, x = (sp_EM_explores_1_120 x16 x46 f3 q4 q5 q6 q7 f8 q9 q10 f11 m12_0 m12_1 m13_0 m13_1 m14_0 m14_1 f34 f35 q38 f39 f40 f41 f43 f44 f47 f48 a1 p2 a3 p5) := ⟨_, rfl⟩
  have hsp := hRR
  refine lv_aload_n hx hb dX9_explores_0 rfl (lv_at hl 0 rfl) ?_
  refine va_get (D := (dC, dI)) (ci := 9) (v := .ref (ad 42)) (C := RX9) (T := TX9) (N := 67) hx hb hts hiX9 hown hK hP 0 rfl rfl 42 (by decide) v_1 (fun _ h9 => h9) rfl dX9_explores_1 ?_
  refine lv_iload_n hx hb dX9_explores_4 rfl (lv_at hl 1 rfl) ?_
  refine lv_iconst (v := 0) hx hb dX9_explores_5 (by decide) ?_
  refine va_iast hx hb hK hP hD hS 27 26 rfl rfl (vp_in_nI (n := 1) (Nat.le_of_ble_eq_true rfl) (Nat.le_of_ble_eq_true rfl)) dX9_explores_6 (fun H locs hP hD hS => ?_)
  have hP : va_P (dC, dI) vwCl (mo_w ad ck x0 (nI x16) (nI x18) (nI x19) x20 (nI x21) (nI x22) x23 x24 x25 (nI x26) x27 (nI x28) (nI x29) (nI x30) (nI x33) x45 (nI x46) (nI x52) (nI x53) (nI x61) (nI x62) (nI x63) (nI x65) x66 f1 f2 f3 (bN 3 q4) (bN 7 q5) (bN 7 q6) (bN 4 q7) f8 (bN 2 q9) (bH q10) f11 (b2 m12_0 m12_1) (b2 m13_0 m13_1) (b2 m14_0 m14_1) (b2m m15_0 m15_1) f17 (bA 159 q31) f32 f34 f35 f36 f37 (bN 7 q38) f39 f40 f41 (b2 m42_0 0) f43 f44 f47 f48 f49 f50 f51 (bN 13 q54) (bN 120 q55) (bN 120 q56) f57 (bN 120 q58) f59 f60 f64) H := by rw [← b2_up1 (a := m42_0) (b := m42_1) (v := 0)]; exact hP
  have hD : va_D A (mo_w ad ck x0 (nI x16) (nI x18) (nI x19) x20 (nI x21) (nI x22) x23 x24 x25 (nI x26) x27 (nI x28) (nI x29) (nI x30) (nI x33) x45 (nI x46) (nI x52) (nI x53) (nI x61) (nI x62) (nI x63) (nI x65) x66 f1 f2 f3 (bN 3 q4) (bN 7 q5) (bN 7 q6) (bN 4 q7) f8 (bN 2 q9) (bH q10) f11 (b2 m12_0 m12_1) (b2 m13_0 m13_1) (b2 m14_0 m14_1) (b2m m15_0 m15_1) f17 (bA 159 q31) f32 f34 f35 f36 f37 (bN 7 q38) f39 f40 f41 (b2 m42_0 0) f43 f44 f47 f48 f49 f50 f51 (bN 13 q54) (bN 120 q55) (bN 120 q56) f57 (bN 120 q58) f59 f60 f64) := by rw [← b2_up1 (a := m42_0) (b := m42_1) (v := 0)]; exact hD
  refine lv_aload_n hx hb dX9_explores_7 rfl (lv_at hl 0 rfl) ?_
  refine va_get (D := (dC, dI)) (ci := 9) (v := .ref (ad 43)) (C := RX9) (T := TX9) (N := 67) hx hb hts hiX9 hown hK hP 0 rfl rfl 43 (by decide) v_2 (fun _ h9 => h9) rfl dX9_explores_8 ?_
  refine lv_iload_n hx hb dX9_explores_11 rfl (lv_at hl 1 rfl) ?_
  refine lv_iconst (v := 0) hx hb dX9_explores_12 (by decide) ?_
  refine va_iast hx hb hK hP hD hS 28 27 rfl rfl (vp_in_nI (n := 1) (Nat.le_of_ble_eq_true rfl) (Nat.le_of_ble_eq_true rfl)) dX9_explores_13 (fun H locs hP hD hS => ?_)
  obtain ⟨f_1, ef_1, xf_1⟩ := up_x f43 (n := 1) 0 (Nat.le_of_ble_eq_true rfl)
  have hP : va_P (dC, dI) vwCl (mo_w ad ck x0 (nI x16) (nI x18) (nI x19) x20 (nI x21) (nI x22) x23 x24 x25 (nI x26) x27 (nI x28) (nI x29) (nI x30) (nI x33) x45 (nI x46) (nI x52) (nI x53) (nI x61) (nI x62) (nI x63) (nI x65) x66 f1 f2 f3 (bN 3 q4) (bN 7 q5) (bN 7 q6) (bN 4 q7) f8 (bN 2 q9) (bH q10) f11 (b2 m12_0 m12_1) (b2 m13_0 m13_1) (b2 m14_0 m14_1) (b2m m15_0 m15_1) f17 (bA 159 q31) f32 f34 f35 f36 f37 (bN 7 q38) f39 f40 f41 (b2 m42_0 0) f_1 f44 f47 f48 f49 f50 f51 (bN 13 q54) (bN 120 q55) (bN 120 q56) f57 (bN 120 q58) f59 f60 f64) H := by rw [← ef_1]; exact hP
  have hD : va_D A (mo_w ad ck x0 (nI x16) (nI x18) (nI x19) x20 (nI x21) (nI x22) x23 x24 x25 (nI x26) x27 (nI x28) (nI x29) (nI x30) (nI x33) x45 (nI x46) (nI x52) (nI x53) (nI x61) (nI x62) (nI x63) (nI x65) x66 f1 f2 f3 (bN 3 q4) (bN 7 q5) (bN 7 q6) (bN 4 q7) f8 (bN 2 q9) (bH q10) f11 (b2 m12_0 m12_1) (b2 m13_0 m13_1) (b2 m14_0 m14_1) (b2m m15_0 m15_1) f17 (bA 159 q31) f32 f34 f35 f36 f37 (bN 7 q38) f39 f40 f41 (b2 m42_0 0) f_1 f44 f47 f48 f49 f50 f51 (bN 13 q54) (bN 120 q55) (bN 120 q56) f57 (bN 120 q58) f59 f60 f64) := by rw [← ef_1]; exact hD
  replace hsp := hsp.trans (slet_eq xf_1)
  refine lv_aload_n hx hb dX9_explores_14 rfl (lv_at hl 0 rfl) ?_
  refine va_get (D := (dC, dI)) (ci := 9) (v := .ref (ad 44)) (C := RX9) (T := TX9) (N := 67) hx hb hts hiX9 hown hK hP 0 rfl rfl 44 (by decide) v_3 (fun _ h9 => h9) rfl dX9_explores_15 ?_
  refine lv_iload_n hx hb dX9_explores_18 rfl (lv_at hl 1 rfl) ?_
  refine lv_iconst (v := 0) hx hb dX9_explores_19 (by decide) ?_
  refine va_zast hx hb hK hP hD hS 29 28 rfl rfl (vp_in_nI (n := 1) (Nat.le_of_ble_eq_true rfl) (Nat.le_of_ble_eq_true rfl)) dX9_explores_20 (fun H locs hP hD hS => ?_)
  obtain ⟨f_2, ef_2, xf_2⟩ := up_x f44 (n := 1) (vp_nar .boolean 0) (Nat.le_of_ble_eq_true rfl)
  have hP : va_P (dC, dI) vwCl (mo_w ad ck x0 (nI x16) (nI x18) (nI x19) x20 (nI x21) (nI x22) x23 x24 x25 (nI x26) x27 (nI x28) (nI x29) (nI x30) (nI x33) x45 (nI x46) (nI x52) (nI x53) (nI x61) (nI x62) (nI x63) (nI x65) x66 f1 f2 f3 (bN 3 q4) (bN 7 q5) (bN 7 q6) (bN 4 q7) f8 (bN 2 q9) (bH q10) f11 (b2 m12_0 m12_1) (b2 m13_0 m13_1) (b2 m14_0 m14_1) (b2m m15_0 m15_1) f17 (bA 159 q31) f32 f34 f35 f36 f37 (bN 7 q38) f39 f40 f41 (b2 m42_0 0) f_1 f_2 f47 f48 f49 f50 f51 (bN 13 q54) (bN 120 q55) (bN 120 q56) f57 (bN 120 q58) f59 f60 f64) H := by rw [← ef_2]; exact hP
  have hD : va_D A (mo_w ad ck x0 (nI x16) (nI x18) (nI x19) x20 (nI x21) (nI x22) x23 x24 x25 (nI x26) x27 (nI x28) (nI x29) (nI x30) (nI x33) x45 (nI x46) (nI x52) (nI x53) (nI x61) (nI x62) (nI x63) (nI x65) x66 f1 f2 f3 (bN 3 q4) (bN 7 q5) (bN 7 q6) (bN 4 q7) f8 (bN 2 q9) (bH q10) f11 (b2 m12_0 m12_1) (b2 m13_0 m13_1) (b2 m14_0 m14_1) (b2m m15_0 m15_1) f17 (bA 159 q31) f32 f34 f35 f36 f37 (bN 7 q38) f39 f40 f41 (b2 m42_0 0) f_1 f_2 f47 f48 f49 f50 f51 (bN 13 q54) (bN 120 q55) (bN 120 q56) f57 (bN 120 q58) f59 f60 f64) := by rw [← ef_2]; exact hD
  replace hsp := hsp.trans (slet_eq xf_2)
  refine lv_aload_n hx hb dX9_explores_21 rfl (lv_at hl 0 rfl) ?_
  refine lv_iload_n hx hb dX9_explores_22 rfl (lv_at hl 3 rfl) ?_
  have hFc := pu_free hD hS hA
  refine va_callv (va_runV (As := [.int p2]) (rest := []) ⟨hx, hb, hml, hown, hts⟩ (c_EM_layForgotten l dC dI _ ad ck x0 x16 x18 x19 x20 x21 x22 x23 x24 x25 x26 x27 x28 x29 x30 x33 x45 x46 x52 x53 x61 x62 x63 x65 x66 f1 f2 f3 q4 q5 q6 q7 f8 q9 q10 f11 m12_0 m12_1 m13_0 m13_1 m14_0 m14_1 m15_0 m15_1 f17 q31 f32 f34 f35 f36 f37 q38 f39 f40 f41 m42_0 0 f_1 f_2 f47 f48 f49 f50 f51 q54 q55 q56 f57 q58 f59 f60 f64 p2 hx16 hx18 hx19 hx21 hx22 hx26 hx28 hx29 hx30 hx33 hx46 hx52 hx53 hx61 hx62 hx63 hx65 hm12_0 hm12_1 hm13_0 hm13_1 hm14_0 hm14_1 hm15_0 hm15_1 hm42_0 (Nat.le_of_ble_eq_true rfl)) (cwV 1 hts g_EM_explores_1_120_EM_layForgotten rfl rfl rfl (by decide +kernel) ⟨Nat.le_of_ble_eq_true rfl, Nat.le_of_ble_eq_true rfl⟩) ⟨pu_bl, va_recv hK hP (ci := 9) (q0 := 0) rfl rfl, pu_in hP hK hD⟩ rfl rfl hl.1 rfl (lv_room (Nat.le_of_ble_eq_true rfl)) dX9_explores_23 ⟨Nat.le_of_ble_eq_true rfl, Nat.le_of_ble_eq_true rfl⟩) hS (fun q _ h => hFc q h) hFc (fun u t H1 locs ht hvm hw hB hz1 hk1 hS => ?_)
  obtain ⟨z47_4, z48_5, ⟨hP1, -, hD1⟩, xr_3_0⟩ := hB
  rw [ht] at hP1
  have hP := hP1
  have hD := pu_all hFc hD1
  clear hP1 hD1 hFc
  clear hk1 hz1 ht hvm
  generalize H1 = H at hP hS ⊢
  replace hsp := hsp.trans (slet_eq xr_3_0)
  refine lv_aload_n hx hb dX9_explores_26 rfl (lv_at hl 0 rfl) ?_
  refine lv_aload_n hx hb dX9_explores_27 rfl (lv_at hl 0 rfl) ?_
  refine va_get (D := (dC, dI)) (ci := 9) (v := .ref (ad 35)) (C := RX9) (T := TX9) (N := 67) hx hb hts hiX9 hown hK hP 0 rfl rfl 35 (by decide) v_9 (fun _ h9 => h9) rfl dX9_explores_28 ?_
  refine lv_bipush (v := 100) hx hb dX9_explores_31 (by decide) ?_
  refine lv_iload_n hx hb dX9_explores_33 rfl (lv_at hl 2 rfl) ?_
  refine lv_iadd hx hb dX9_explores_34 ?_
  refine lv_topi (fun y_6 ey_6 => ?_)
  obtain rfl : y_6 = (nI (100 + a1)) := ey_6.trans (nI_add 100 a1)
  have hFc := pu_free hD hS hA
  refine va_callv (va_runV (As := [.ref (ad 35), .int (nI (100 + a1))]) (rest := []) ⟨hx, hb, hml, hown, hts⟩ (c_EM_holdsAll_p l dC dI _ ad ck x0 x16 x18 x19 x20 x21 x22 x23 x24 x25 x26 x27 x28 x29 x30 x33 x45 x46 x52 x53 x61 x62 x63 x65 x66 f1 f2 f3 q4 q5 q6 q7 f8 q9 q10 f11 m12_0 m12_1 m13_0 m13_1 m14_0 m14_1 m15_0 m15_1 f17 q31 f32 f34 f35 f36 f37 q38 f39 f40 f41 m42_0 0 f_1 f_2 z47_4 z48_5 f49 f50 f51 q54 q55 q56 f57 q58 f59 f60 f64 (100 + a1) hx16 hx18 hx19 hx21 hx22 hx26 hx28 hx29 hx30 hx33 hx46 hx52 hx53 hx61 hx62 hx63 hx65 hm12_0 hm12_1 hm13_0 hm13_1 hm14_0 hm14_1 hm15_0 hm15_1 hm42_0 (Nat.le_of_ble_eq_true rfl) (by omega) (by omega)) (cwV 2 hts g_EM_explores_1_120_EM_holdsAll_p rfl rfl rfl (by decide +kernel) ⟨Nat.le_of_ble_eq_true rfl, Nat.le_of_ble_eq_true rfl⟩) ⟨pu_bl, va_recv hK hP (ci := 9) (q0 := 0) rfl rfl, pu_in hP hK hD⟩ rfl rfl hl.1 rfl (lv_room (Nat.le_of_ble_eq_true rfl)) dX9_explores_35 ⟨Nat.le_of_ble_eq_true rfl, Nat.le_of_ble_eq_true rfl⟩) hS (fun q _ h => hFc q h) hFc (fun u t H1 locs ht hvm hw hB hz1 hk1 hS => ?_)
  obtain ⟨z35_8, ⟨hP1, -, hD1⟩, xr_7_0⟩ := hB
  rw [ht] at hP1
  have hP := hP1
  have hD := pu_all hFc hD1
  clear hP1 hD1 hFc
  clear hk1 hz1 ht hvm
  generalize H1 = H at hP hS ⊢
  replace hsp := hsp.trans (slet_eq xr_7_0)
  refine lv_aload_n hx hb dX9_explores_38 rfl (lv_at hl 0 rfl) ?_
  refine lv_aload_n hx hb dX9_explores_39 rfl (lv_at hl 0 rfl) ?_
  refine va_get (D := (dC, dI)) (ci := 9) (v := .ref (ad 35)) (C := RX9) (T := TX9) (N := 67) hx hb hts hiX9 hown hK hP 0 rfl rfl 35 (by decide) v_9 (fun _ h9 => h9) rfl dX9_explores_40 ?_
  have hFc := pu_free hD hS hA
  refine va_calli (va_runV (As := [.ref (ad 35)]) (rest := []) ⟨hx, hb, hml, hown, hts⟩ (c_EM_closes_z l dC dI _ ad ck x0 x16 x18 x19 x20 x21 x22 x23 x24 x25 x26 x27 x28 x29 x30 x33 x45 x46 x52 x53 x61 x62 x63 x65 x66 f1 f2 f3 q4 q5 q6 q7 f8 q9 q10 f11 m12_0 m12_1 m13_0 m13_1 m14_0 m14_1 m15_0 m15_1 f17 q31 f32 f34 z35_8 f36 f37 q38 f39 f40 f41 m42_0 0 f_1 f_2 z47_4 z48_5 f49 f50 f51 q54 q55 q56 f57 q58 f59 f60 f64 hx16 hx18 hx19 hx21 hx22 hx26 hx28 hx29 hx30 hx33 hx46 hx52 hx53 hx61 hx62 hx63 hx65 hm12_0 hm12_1 hm13_0 hm13_1 hm14_0 hm14_1 hm15_0 hm15_1 hm42_0 (Nat.le_of_ble_eq_true rfl)) (cwV 1 hts g_EM_explores_1_120_EM_closes_z rfl rfl rfl (by decide +kernel) ⟨Nat.le_of_ble_eq_true rfl, Nat.le_of_ble_eq_true rfl⟩) ⟨pu_bl, va_recv hK hP (ci := 9) (q0 := 0) rfl rfl, pu_in hP hK hD⟩ rfl rfl hl.1 rfl (lv_room (Nat.le_of_ble_eq_true rfl)) dX9_explores_43 ⟨Nat.le_of_ble_eq_true rfl, Nat.le_of_ble_eq_true rfl⟩) hS (fun q _ h => hFc q h) hFc (fun r_9 u t H1 locs ht hvm hw hB hz1 hk1 hS => ?_)
  obtain ⟨z35_10, ⟨hP1, -, hD1⟩, xr_9_0⟩ := hB
  rw [ht] at hP1
  have hP := hP1
  have hD := pu_all hFc hD1
  clear hP1 hD1 hFc
  clear hk1 hz1 ht hvm
  generalize H1 = H at hP hS ⊢
  obtain ⟨u_11, hu_11, rfl, iu_11⟩ := hw
  have iu_11 : (u_11, z35_10) = (sp_EM_closes_z x46 z35_8) := Prod.ext iu_11 xr_9_0
  replace hsp := hsp.trans (slet_eq iu_11)
  refine lv_if_ne (tgt := 50) hx hb dX9_explores_46 (by decide) (fun c_12 => ?_) (fun c_12 => ?_)
  · have c_12 : ¬ u_11 = 0 := fun z => c_12 ((nI_eq (a := u_11) (b := 0) (Nat.lt_of_le_of_lt hu_11 (Nat.le_of_ble_eq_true rfl)) (Nat.le_of_ble_eq_true rfl)).mpr z)
    replace hsp := hsp.trans (if_neg c_12)
    refine lv_aload_n hx hb dX9_explores_50 rfl (lv_at hl 0 rfl) ?_
    refine lv_iload_n hx hb dX9_explores_51 rfl (lv_at hl 1 rfl) ?_
    refine lv_iload_n hx hb dX9_explores_52 rfl (lv_at hl 2 rfl) ?_
    refine lv_iconst (v := (-1)) hx hb dX9_explores_53 (by decide) ?_
    refine lv_iconst (v := (-1)) hx hb dX9_explores_54 (by decide) ?_
    refine lv_iload_n hx hb dX9_explores_55 rfl (lv_at hl 3 rfl) ?_
    refine lv_iload hx hb dX9_explores_56 (lv_at hl 4 rfl) ?_
    refine lv_iload hx hb dX9_explores_58 (lv_at hl 5 rfl) ?_
    have hFc := pu_free hD hS hA
    refine va_callv (va_runV (As := [.int 1, .int (nI a1), .int (-1), .int (-1), .int p2, .int (nI a3), .int 120]) (rest := []) ⟨hx, hb, hml, hown, hts⟩ (c_EM_comes_1_120_0 l dC dI _ ad ck x0 x16 x18 x19 x20 x21 x22 x23 x24 x25 x26 x27 x28 x29 x30 x33 x45 x46 x52 x53 x61 x62 x63 x65 x66 f1 f2 f3 q4 q5 q6 q7 f8 q9 q10 f11 m12_0 m12_1 m13_0 m13_1 m14_0 m14_1 m15_0 m15_1 f17 q31 f32 f34 z35_10 f36 f37 q38 f39 f40 f41 m42_0 0 f_1 f_2 z47_4 z48_5 f49 f50 f51 q54 q55 q56 f57 q58 f59 f60 f64 a1 p2 a3 hx16 hx18 hx19 hx21 hx22 hx26 hx28 hx29 hx30 hx33 hx46 hx52 hx53 hx61 hx62 hx63 hx65 hm12_0 hm12_1 hm13_0 hm13_1 hm14_0 hm14_1 hm15_0 hm15_1 hm42_0 (Nat.le_of_ble_eq_true rfl) ha1 ha3 (by first | assumption | exact gz_0)) (cwV 7 hts g_EM_explores_1_120_EM_comes_1_120_0 rfl rfl rfl (by decide +kernel) ⟨Nat.le_of_ble_eq_true rfl, Nat.le_of_ble_eq_true rfl⟩) ⟨pu_bl, va_recv hK hP (ci := 9) (q0 := 0) rfl rfl, pu_in hP hK hD⟩ rfl rfl hl.1 rfl (lv_room (Nat.le_of_ble_eq_true rfl)) dX9_explores_60 ⟨Nat.le_of_ble_eq_true rfl, Nat.le_of_ble_eq_true rfl⟩) hS (fun q _ h => hFc q h) hFc (fun u t H1 locs ht hvm hw hB hz1 hk1 hS => ?_)
    obtain ⟨z34_14, z35_15, z38_16, z39_17, z40_18, z41_19, z44_20, z42_1_21, ⟨hP1, -, hD1⟩, hz42_1_21, xr_13_0, xr_13_1, xr_13_2⟩ := hB
    rw [ht] at hP1
    have hP := hP1
    have hD := pu_all hFc hD1
    clear hP1 hD1 hFc
    clear hk1 hz1 ht hvm
    generalize H1 = H at hP hS ⊢
    replace hsp := hsp.trans (slet_eq xr_13_2)
    refine lv_iconst (v := 0) hx hb dX9_explores_63 (by decide) ?_
    refine lv_istore (lv' := [(7, .int 0), (0, .ref (ad 0)), (1, .int 1), (2, .int (nI a1)), (3, .int p2), (4, .int (nI a3)), (5, .int 120), (6, .int p5)]) hx hb dX9_explores_64 hl (by decide) rfl (fun ls hl => ?_)
    obtain ⟨lf_45, dlf_45, hlf_45, hsp⟩ := itr_ex hsp
    delta sp_EM_explores_1_120_L2 at hlf_45
    refine pu_while (fun nn H locs ls => ∃ (g_33 : Nat → Int32) (g_34 : Nat → Int32) (g_35 : Nat → Nat) (g_36 : Nat → Int32) (g_37 : Nat → Int32) (g_38 : Nat → Int32) (g_39 : Nat → Int32) (g_40 : Nat → Int32) (g_41 : Nat) (g_42 : Nat), nn = 120 - g_42 ∧ g_41 ≤ 120 ∧ g_42 ≤ 120 ∧ gz_ok m42_0 g_36 g_37 g_38 ∧ RR = itrv dlf_45 lf_45 (g_33, g_34, g_35, g_36, g_37, g_38, g_39, g_40, g_41, g_42) ∧ va_P (dC, dI) vwCl (mo_w ad ck x0 (nI x16) (nI x18) (nI x19) x20 (nI x21) (nI x22) x23 x24 x25 (nI x26) x27 (nI x28) (nI x29) (nI x30) (nI x33) x45 (nI x46) (nI x52) (nI x53) (nI x61) (nI x62) (nI x63) (nI x65) x66 f1 f2 f3 (bN 3 q4) (bN 7 q5) (bN 7 q6) (bN 4 q7) f8 (bN 2 q9) (bH q10) f11 (b2 m12_0 m12_1) (b2 m13_0 m13_1) (b2 m14_0 m14_1) (b2m m15_0 m15_1) f17 (bA 159 q31) f32 g_33 g_34 f36 f37 (bN 7 g_35) g_36 g_37 g_38 (b2 m42_0 g_41) g_39 g_40 z47_4 z48_5 f49 f50 f51 (bN 13 q54) (bN 120 q55) (bN 120 q56) f57 (bN 120 q58) f59 f60 f64) H ∧ va_D A (mo_w ad ck x0 (nI x16) (nI x18) (nI x19) x20 (nI x21) (nI x22) x23 x24 x25 (nI x26) x27 (nI x28) (nI x29) (nI x30) (nI x33) x45 (nI x46) (nI x52) (nI x53) (nI x61) (nI x62) (nI x63) (nI x65) x66 f1 f2 f3 (bN 3 q4) (bN 7 q5) (bN 7 q6) (bN 4 q7) f8 (bN 2 q9) (bH q10) f11 (b2 m12_0 m12_1) (b2 m13_0 m13_1) (b2 m14_0 m14_1) (b2m m15_0 m15_1) f17 (bA 159 q31) f32 g_33 g_34 f36 f37 (bN 7 g_35) g_36 g_37 g_38 (b2 m42_0 g_41) g_39 g_40 z47_4 z48_5 f49 f50 f51 (bN 13 q54) (bN 120 q55) (bN 120 q56) f57 (bN 120 q58) f59 f60 f64) ∧ va_S A s.heap H locs ∧ lv_has ls 10 [(0, .ref (ad 0)), (1, .int 1), (2, .int (nI a1)), (3, .int p2), (4, .int (nI a3)), (5, .int 120), (6, .int p5), (7, .int (nI g_42))]) 66 ?_ _ _ _ _ ⟨z34_14, z35_15, z38_16, z39_17, z40_18, z41_19, f_1, z44_20, z42_1_21, 0, rfl, hz42_1_21, (Nat.le_of_ble_eq_true rfl), by first | assumption | exact gz_0, hsp, hP, hD, hS, lv_sub hl [1, 2, 3, 4, 5, 6, 7, 0] rfl⟩
    rintro nn ih_44 H locs ls ⟨g_33, g_34, g_35, g_36, g_37, g_38, g_39, g_40, g_41, g_42, rfl, hg_41, hg_42, he_43, he_47, hP, hD, hS, hl⟩
    obtain ⟨S_46, hsp, hin_48, hout_49⟩ := itr_step hlf_45 he_47
    refine lv_iload hx hb dX9_explores_66 (lv_at hl 7 rfl) ?_
    refine lv_aload_n hx hb dX9_explores_68 rfl (lv_at hl 0 rfl) ?_
    refine va_get (D := (dC, dI)) (ci := 9) (v := .ref (ad 42)) (C := RX9) (T := TX9) (N := 67) hx hb hts hiX9 hown hK hP 0 rfl rfl 42 (by decide) v_1 (fun _ h9 => h9) rfl dX9_explores_69 ?_
    refine lv_iload_n hx hb dX9_explores_72 rfl (lv_at hl 1 rfl) ?_
    refine va_iald hx hb hK hP 27 26 rfl rfl (vp_in_nI (n := 1) (Nat.le_of_ble_eq_true rfl) (Nat.le_of_ble_eq_true rfl)) dX9_explores_73 ?_
    refine lv_topi (fun y_50 ey_50 => ?_)
    have qy_50 := ey_50.trans b2_1
    clear ey_50
    obtain rfl : y_50 = nI g_41 := qy_50
    refine lv_icmp_ge (tgt := 206) hx hb dX9_explores_74 (by decide) (fun c_51 => ?_) (fun c_51 => ?_)
    · have c_51 : g_41 ≤ g_42 := (nI_leI (a := g_41) (b := g_42) (Nat.lt_of_le_of_lt hg_41 (Nat.le_of_ble_eq_true rfl)) (Nat.lt_of_le_of_lt hg_42 (Nat.le_of_ble_eq_true rfl))).mp c_51
      replace hsp := hsp.trans (if_pos c_51)
      have hsp := hout_49 _ hsp
      exact W.vret hx hb hr (fun t ht hW => ⟨⟨(), rfl, trivial, ⟨g_33, g_34, g_35, g_36, g_37, g_38, g_39, g_40, z47_4, z48_5, g_41, ⟨by rw [ht]; exact hP, va_K.moved hW.alike hK, hD⟩, hg_41, by first | assumption | exact gz_0, (hsp.symm.trans hRR)⟩⟩, hS.F ht⟩) hS.2.2 dX9_explores_206
    · have c_51 : ¬ g_41 ≤ g_42 := fun z => c_51 ((nI_leI (a := g_41) (b := g_42) (Nat.lt_of_le_of_lt hg_41 (Nat.le_of_ble_eq_true rfl)) (Nat.lt_of_le_of_lt hg_42 (Nat.le_of_ble_eq_true rfl))).mpr z)
      replace hsp := hsp.trans (if_neg c_51)
      refine lv_iconst (v := 0) hx hb dX9_explores_77 (by decide) ?_
      refine lv_istore (lv' := [(8, .int 0), (0, .ref (ad 0)), (1, .int 1), (2, .int (nI a1)), (3, .int p2), (4, .int (nI a3)), (5, .int 120), (6, .int p5), (7, .int (nI g_42))]) hx hb dX9_explores_78 hl (by decide) rfl (fun ls hl => ?_)
      obtain ⟨lf_77, dlf_77, hlf_77, hsp⟩ := itr_ex hsp
      delta sp_EM_explores_1_120_L1 at hlf_77
      refine pu_while (fun nn H locs ls => ∃ (g_64 : Nat → Int32) (g_65 : Nat → Int32) (g_66 : Nat → Nat) (g_67 : Nat → Int32) (g_68 : Nat → Int32) (g_69 : Nat → Int32) (g_70 : Nat → Int32) (g_71 : Nat → Int32) (g_72 : Nat) (g_73 : Nat), nn = 14 - g_73 ∧ g_72 ≤ 120 ∧ g_73 ≤ 14 ∧ gz_ok m42_0 g_67 g_68 g_69 ∧ g_42 < g_72 ∧ S_46 = itrv dlf_77 lf_77 (g_64, g_65, g_66, g_67, g_68, g_69, g_70, g_71, g_72, g_73) ∧ va_P (dC, dI) vwCl (mo_w ad ck x0 (nI x16) (nI x18) (nI x19) x20 (nI x21) (nI x22) x23 x24 x25 (nI x26) x27 (nI x28) (nI x29) (nI x30) (nI x33) x45 (nI x46) (nI x52) (nI x53) (nI x61) (nI x62) (nI x63) (nI x65) x66 f1 f2 f3 (bN 3 q4) (bN 7 q5) (bN 7 q6) (bN 4 q7) f8 (bN 2 q9) (bH q10) f11 (b2 m12_0 m12_1) (b2 m13_0 m13_1) (b2 m14_0 m14_1) (b2m m15_0 m15_1) f17 (bA 159 q31) f32 g_64 g_65 f36 f37 (bN 7 g_66) g_67 g_68 g_69 (b2 m42_0 g_72) g_70 g_71 z47_4 z48_5 f49 f50 f51 (bN 13 q54) (bN 120 q55) (bN 120 q56) f57 (bN 120 q58) f59 f60 f64) H ∧ va_D A (mo_w ad ck x0 (nI x16) (nI x18) (nI x19) x20 (nI x21) (nI x22) x23 x24 x25 (nI x26) x27 (nI x28) (nI x29) (nI x30) (nI x33) x45 (nI x46) (nI x52) (nI x53) (nI x61) (nI x62) (nI x63) (nI x65) x66 f1 f2 f3 (bN 3 q4) (bN 7 q5) (bN 7 q6) (bN 4 q7) f8 (bN 2 q9) (bH q10) f11 (b2 m12_0 m12_1) (b2 m13_0 m13_1) (b2 m14_0 m14_1) (b2m m15_0 m15_1) f17 (bA 159 q31) f32 g_64 g_65 f36 f37 (bN 7 g_66) g_67 g_68 g_69 (b2 m42_0 g_72) g_70 g_71 z47_4 z48_5 f49 f50 f51 (bN 13 q54) (bN 120 q55) (bN 120 q56) f57 (bN 120 q58) f59 f60 f64) ∧ va_S A s.heap H locs ∧ lv_has ls 10 [(0, .ref (ad 0)), (1, .int 1), (2, .int (nI a1)), (3, .int p2), (4, .int (nI a3)), (5, .int 120), (6, .int p5), (7, .int (nI g_42)), (8, .int (nI g_73))]) 80 ?_ _ _ _ _ ⟨g_33, g_34, g_35, g_36, g_37, g_38, g_39, g_40, g_41, 0, rfl, hg_41, (Nat.le_of_ble_eq_true rfl), by first | assumption | exact gz_0, by omega, hsp, hP, hD, hS, lv_sub hl [1, 2, 3, 4, 5, 6, 7, 8, 0] rfl⟩
      rintro nn ih_76 H locs ls ⟨g_64, g_65, g_66, g_67, g_68, g_69, g_70, g_71, g_72, g_73, rfl, hg_72, hg_73, he_74, he_75, he_79, hP, hD, hS, hl⟩
      obtain ⟨S_78, hsp, hin_80, hout_81⟩ := itr_step hlf_77 he_79
      refine lv_iload hx hb dX9_explores_80 (lv_at hl 8 rfl) ?_
      refine lv_aload_n hx hb dX9_explores_82 rfl (lv_at hl 0 rfl) ?_
      refine va_get (D := (dC, dI)) (ci := 9) (v := .ref (ad 14)) (C := RX9) (T := TX9) (N := 67) hx hb hts hiX9 hown hK hP 0 rfl rfl 14 (by decide) v_22 (fun _ h9 => h9) rfl dX9_explores_83 ?_
      refine lv_aload_n hx hb dX9_explores_86 rfl (lv_at hl 0 rfl) ?_
      refine va_get (D := (dC, dI)) (ci := 9) (v := .int (nI x16)) (C := RX9) (T := TX9) (N := 67) hx hb hts hiX9 hown hK hP 0 rfl rfl 16 (by decide) v_23 (fun _ h9 => h9) rfl dX9_explores_87 ?_
      refine va_iald hx hb hK hP 14 13 rfl rfl (vp_in_nI (n := x16) (Nat.lt_of_le_of_lt hx16 (Nat.le_of_ble_eq_true rfl)) (Nat.le_of_ble_eq_true rfl)) dX9_explores_90 ?_
      refine lv_topi (fun y_82 ey_82 => ?_)
      obtain ⟨u_83, hu_83, fu_83, xu_83⟩ := b2_getx (a := m14_0) (b := m14_1) (i := x16) (by omega)
      have qy_82 := ey_82.trans fu_83
      replace hsp := hsp.trans (slet_eq xu_83)
      obtain rfl : y_82 = nI u_83 := qy_82
      refine lv_icmp_ge (tgt := 200) hx hb dX9_explores_91 (by decide) (fun c_84 => ?_) (fun c_84 => ?_)
      · have c_84 : u_83 ≤ g_73 := (nI_leI (a := u_83) (b := g_73) (by omega) (Nat.lt_of_le_of_lt hg_73 (Nat.le_of_ble_eq_true rfl))).mp c_84
        replace hsp := hsp.trans (if_pos c_84)
        have hsp := hout_81 _ hsp
        refine lv_iinc (v := (nI (g_42 + 1))) (lv' := [(7, .int (nI (g_42 + 1))), (0, .ref (ad 0)), (1, .int 1), (2, .int (nI a1)), (3, .int p2), (4, .int (nI a3)), (5, .int 120), (6, .int p5), (8, .int (nI g_73))]) hx hb dX9_explores_200 hl (k := 7) rfl (nI_1 _) (by decide) rfl (fun ls hl => ?_)
        refine lv_goto (tgt := 66) hx hb dX9_explores_203 (by decide) ?_
        exact ih_44 (120 - (g_42 + 1)) (by omega) _ _ _ ⟨g_64, g_65, g_66, g_67, g_68, g_69, g_70, g_71, g_72, (g_42 + 1), rfl, hg_72, (by omega), by first | assumption | exact gz_0, hin_48 _ hsp, hP, hD, hS, lv_sub hl [1, 2, 3, 4, 5, 6, 7, 0] rfl⟩
      · have c_84 : ¬ u_83 ≤ g_73 := fun z => c_84 ((nI_leI (a := u_83) (b := g_73) (by omega) (Nat.lt_of_le_of_lt hg_73 (Nat.le_of_ble_eq_true rfl))).mpr z)
        replace hsp := hsp.trans (if_neg c_84)
        refine lv_iload_n hx hb dX9_explores_94 rfl (lv_at hl 1 rfl) ?_
        refine lv_iload hx hb dX9_explores_95 (lv_at hl 7 rfl) ?_
        refine va_calli (va_runS (As := [.int 1, .int (nI g_42)]) (rest := []) ⟨hx, hb, hml, hown, hts⟩ (c_EM_spotOf_1 l dC dI _ ad ck x0 x16 x18 x19 x20 x21 x22 x23 x24 x25 x26 x27 x28 x29 x30 x33 x45 x46 x52 x53 x61 x62 x63 x65 x66 f1 f2 f3 q4 q5 q6 q7 f8 q9 q10 f11 m12_0 m12_1 m13_0 m13_1 m14_0 m14_1 m15_0 m15_1 f17 q31 f32 g_64 g_65 f36 f37 g_66 g_67 g_68 g_69 m42_0 g_72 g_70 g_71 z47_4 z48_5 f49 f50 f51 q54 q55 q56 f57 q58 f59 f60 f64 g_42 hx16 hx18 hx19 hx21 hx22 hx26 hx28 hx29 hx30 hx33 hx46 hx52 hx53 hx61 hx62 hx63 hx65 hm12_0 hm12_1 hm13_0 hm13_1 hm14_0 hm14_1 hm15_0 hm15_1 hm42_0 (Nat.le_trans hg_72 (Nat.le_of_ble_eq_true rfl)) (Nat.le_trans hg_42 (Nat.le_of_ble_eq_true rfl))) (va_cwS 2 hts g_EM_explores_1_120_EM_spotOf_1 rfl rfl rfl (by decide +kernel) ⟨Nat.le_of_ble_eq_true rfl, Nat.le_of_ble_eq_true rfl⟩) ⟨pu_bl, pu_in hP hK hD⟩ rfl rfl hl.1 rfl (lv_room (Nat.le_of_ble_eq_true rfl)) dX9_explores_97 ⟨Nat.le_of_ble_eq_true rfl, Nat.le_of_ble_eq_true rfl⟩) hS (fun q _ h => pu_fr hS hA q h) (pu_fr hS hA) (fun r_85 u t H1 locs ht hvm hw hB hz1 hk1 hS => ?_)
        have hP := pu_keep hP hk1
        clear hk1 hz1 ht hvm
        generalize H1 = H at hP hS ⊢
        obtain rfl : r_85 = nI (120 + g_42) := hw
        refine lv_istore (lv' := [(9, .int (nI (120 + g_42))), (0, .ref (ad 0)), (1, .int 1), (2, .int (nI a1)), (3, .int p2), (4, .int (nI a3)), (5, .int 120), (6, .int p5), (7, .int (nI g_42)), (8, .int (nI g_73))]) hx hb dX9_explores_100 hl (by decide) rfl (fun ls hl => ?_)
        refine lv_aload_n hx hb dX9_explores_102 rfl (lv_at hl 1 rfl) ?_
        refine lv_iload hx hb dX9_explores_103 (lv_at hl 9 rfl) ?_
        refine va_calli (va_runV (As := [.int (nI g_73)]) (rest := []) ⟨hx, hb, hml, hown, hts⟩ (c_EM_outOf l dC dI _ ad ck x0 x16 x18 x19 x20 x21 x22 x23 x24 x25 x26 x27 x28 x29 x30 x33 x45 x46 x52 x53 x61 x62 x63 x65 x66 f1 f2 f3 q4 q5 q6 q7 f8 q9 q10 f11 m12_0 m12_1 m13_0 m13_1 m14_0 m14_1 m15_0 m15_1 f17 q31 f32 g_64 g_65 f36 f37 g_66 g_67 g_68 g_69 m42_0 g_72 g_70 g_71 z47_4 z48_5 f49 f50 f51 q54 q55 q56 f57 q58 f59 f60 f64 g_73 hx16 hx18 hx19 hx21 hx22 hx26 hx28 hx29 hx30 hx33 hx46 hx52 hx53 hx61 hx62 hx63 hx65 hm12_0 hm12_1 hm13_0 hm13_1 hm14_0 hm14_1 hm15_0 hm15_1 hm42_0 (Nat.le_trans hg_72 (Nat.le_of_ble_eq_true rfl)) (by omega)) (cwV 1 hts g_EM_explores_1_120_EM_outOf rfl rfl rfl (by decide +kernel) ⟨Nat.le_of_ble_eq_true rfl, Nat.le_of_ble_eq_true rfl⟩) ⟨pu_bl, va_recv hK hP (ci := 9) (q0 := 0) rfl rfl, pu_in hP hK hD⟩ rfl rfl hl.1 rfl (lv_room (Nat.le_of_ble_eq_true rfl)) dX9_explores_105 ⟨Nat.le_of_ble_eq_true rfl, Nat.le_of_ble_eq_true rfl⟩) hS (fun q _ h => pu_fr hS hA q h) (pu_fr hS hA) (fun r_86 u t H1 locs ht hvm hw hB hz1 hk1 hS => ?_)
        have hP := pu_keep hP hk1
        clear hk1 hz1 ht hvm
        generalize H1 = H at hP hS ⊢
        obtain ⟨u_87, hu_87, rfl, iu_87⟩ := hw
        replace hsp := hsp.trans (slet_eq iu_87)
        refine lv_aload_n hx hb dX9_explores_108 rfl (lv_at hl 1 rfl) ?_
        refine va_get (D := (dC, dI)) (ci := 9) (v := .ref (ad 38)) (C := RX9) (T := TX9) (N := 67) hx hb hts hiX9 hown hK hP 0 rfl rfl 38 (by decide) v_31 (fun _ h9 => h9) rfl dX9_explores_109 ?_
        refine lv_iload hx hb dX9_explores_112 (lv_at hl 0 rfl) ?_
        refine va_iald hx hb hK hP 23 22 rfl rfl (vp_in_nI (n := (120 + g_42)) (by omega) (Nat.le_of_ble_eq_true rfl)) dX9_explores_114 ?_
        refine lv_topi (fun y_88 ey_88 => ?_)
        obtain ⟨u_89, hu_89, qu_89, xu_89⟩ := bN_getx 7 g_66 (n := (120 + g_42)) (by omega)
        obtain rfl : y_88 = nI u_89 := ey_88.trans qu_89
        replace hsp := hsp.trans (slet_eq xu_89)
        obtain ⟨JR_102, hJR_102, hsp⟩ := slet_ex hsp
        refine pu_join (fun H locs ls st => ∃ (g_90 : Nat → Int32) (g_91 : Nat → Int32) (g_92 : Nat → Nat) (g_93 : Nat → Int32) (g_94 : Nat → Int32) (g_95 : Nat → Int32) (g_96 : Nat) (g_97 : Nat → Int32) (g_98 : Nat → Int32), st = [] ∧ g_96 ≤ 120 ∧ gz_ok m42_0 g_93 g_94 g_95 ∧ g_42 < g_96 ∧ (g_90, g_91, g_92, g_93, g_94, g_95, g_96, g_97, g_98) = JR_102 ∧ va_P (dC, dI) vwCl (mo_w ad ck x0 (nI x16) (nI x18) (nI x19) x20 (nI x21) (nI x22) x23 x24 x25 (nI x26) x27 (nI x28) (nI x29) (nI x30) (nI x33) x45 (nI x46) (nI x52) (nI x53) (nI x61) (nI x62) (nI x63) (nI x65) x66 f1 f2 f3 (bN 3 q4) (bN 7 q5) (bN 7 q6) (bN 4 q7) f8 (bN 2 q9) (bH q10) f11 (b2 m12_0 m12_1) (b2 m13_0 m13_1) (b2 m14_0 m14_1) (b2m m15_0 m15_1) f17 (bA 159 q31) f32 g_90 g_91 f36 f37 (bN 7 g_92) g_93 g_94 g_95 (b2 m42_0 g_96) g_97 g_98 z47_4 z48_5 f49 f50 f51 (bN 13 q54) (bN 120 q55) (bN 120 q56) f57 (bN 120 q58) f59 f60 f64) H ∧ va_D A (mo_w ad ck x0 (nI x16) (nI x18) (nI x19) x20 (nI x21) (nI x22) x23 x24 x25 (nI x26) x27 (nI x28) (nI x29) (nI x30) (nI x33) x45 (nI x46) (nI x52) (nI x53) (nI x61) (nI x62) (nI x63) (nI x65) x66 f1 f2 f3 (bN 3 q4) (bN 7 q5) (bN 7 q6) (bN 4 q7) f8 (bN 2 q9) (bH q10) f11 (b2 m12_0 m12_1) (b2 m13_0 m13_1) (b2 m14_0 m14_1) (b2m m15_0 m15_1) f17 (bA 159 q31) f32 g_90 g_91 f36 f37 (bN 7 g_92) g_93 g_94 g_95 (b2 m42_0 g_96) g_97 g_98 z47_4 z48_5 f49 f50 f51 (bN 13 q54) (bN 120 q55) (bN 120 q56) f57 (bN 120 q58) f59 f60 f64) ∧ va_S A s.heap H locs ∧ lv_has ls 10 [(0, .ref (ad 0)), (1, .int 1), (2, .int (nI a1)), (3, .int p2), (4, .int (nI a3)), (5, .int 120), (6, .int p5), (7, .int (nI g_42)), (8, .int (nI g_73)), (9, .int (nI (120 + g_42)))]) 194 ?_ (fun j_101 => ?_)
        · rintro H locs ls st ⟨g_90, g_91, g_92, g_93, g_94, g_95, g_96, g_97, g_98, rfl, hg_96, he_99, he_100, he_103, hP, hD, hS, hl⟩
          rw [← he_103] at hsp
          refine lv_iinc (v := (nI (g_73 + 1))) (lv' := [(8, .int (nI (g_73 + 1))), (0, .ref (ad 0)), (1, .int 1), (2, .int (nI a1)), (3, .int p2), (4, .int (nI a3)), (5, .int 120), (6, .int p5), (7, .int (nI g_42)), (9, .int (nI (120 + g_42)))]) hx hb dX9_explores_194 hl (k := 8) rfl (nI_1 _) (by decide) rfl (fun ls hl => ?_)
          refine lv_goto (tgt := 80) hx hb dX9_explores_197 (by decide) ?_
          exact ih_76 (14 - (g_73 + 1)) (by omega) _ _ _ ⟨g_90, g_91, g_92, g_93, g_94, g_95, g_97, g_98, g_96, (g_73 + 1), rfl, hg_96, (by omega), by first | assumption | exact gz_0, by omega, hin_80 _ hsp, hP, hD, hS, lv_sub hl [1, 2, 3, 4, 5, 6, 7, 8, 0] rfl⟩
        have hsp := hJR_102
        refine lv_icmp_ne (tgt := 194) hx hb dX9_explores_115 (by decide) (fun c_104 => ?_) (fun c_104 => ?_)
        · have c_104 : ¬ u_87 = u_89 := fun z => c_104 ((nI_eq (a := u_87) (b := u_89) (Nat.lt_of_le_of_lt hu_87 (Nat.le_of_ble_eq_true rfl)) (Nat.lt_of_le_of_lt hu_89 (Nat.le_of_ble_eq_true rfl))).mpr z)
          replace hsp := hsp.trans (if_neg c_104)
          exact j_101 _ _ _ _ ⟨g_64, g_65, g_66, g_67, g_68, g_69, g_72, g_70, g_71, rfl, hg_72, by first | assumption | exact gz_0, by omega, hsp.symm, hP, hD, hS, lv_sub hl [1, 2, 3, 4, 5, 6, 7, 8, 9, 0] rfl⟩
        · have c_104 : u_87 = u_89 := (nI_eq (a := u_87) (b := u_89) (Nat.lt_of_le_of_lt hu_87 (Nat.le_of_ble_eq_true rfl)) (Nat.lt_of_le_of_lt hu_89 (Nat.le_of_ble_eq_true rfl))).mp c_104
          replace hsp := hsp.trans (if_pos c_104)
          refine lv_aload_n hx hb dX9_explores_118 rfl (lv_at hl 1 rfl) ?_
          refine lv_iload hx hb dX9_explores_119 (lv_at hl 9 rfl) ?_
          refine va_calli (va_runV (As := [.int (nI g_73)]) (rest := []) ⟨hx, hb, hml, hown, hts⟩ (c_EM_into l dC dI _ ad ck x0 x16 x18 x19 x20 x21 x22 x23 x24 x25 x26 x27 x28 x29 x30 x33 x45 x46 x52 x53 x61 x62 x63 x65 x66 f1 f2 f3 q4 q5 q6 q7 f8 q9 q10 f11 m12_0 m12_1 m13_0 m13_1 m14_0 m14_1 m15_0 m15_1 f17 q31 f32 g_64 g_65 f36 f37 g_66 g_67 g_68 g_69 m42_0 g_72 g_70 g_71 z47_4 z48_5 f49 f50 f51 q54 q55 q56 f57 q58 f59 f60 f64 g_73 hx16 hx18 hx19 hx21 hx22 hx26 hx28 hx29 hx30 hx33 hx46 hx52 hx53 hx61 hx62 hx63 hx65 hm12_0 hm12_1 hm13_0 hm13_1 hm14_0 hm14_1 hm15_0 hm15_1 hm42_0 (Nat.le_trans hg_72 (Nat.le_of_ble_eq_true rfl)) (by omega)) (cwV 1 hts g_EM_explores_1_120_EM_into rfl rfl rfl (by decide +kernel) ⟨Nat.le_of_ble_eq_true rfl, Nat.le_of_ble_eq_true rfl⟩) ⟨pu_bl, va_recv hK hP (ci := 9) (q0 := 0) rfl rfl, pu_in hP hK hD⟩ rfl rfl hl.1 rfl (lv_room (Nat.le_of_ble_eq_true rfl)) dX9_explores_121 ⟨Nat.le_of_ble_eq_true rfl, Nat.le_of_ble_eq_true rfl⟩) hS (fun q _ h => pu_fr hS hA q h) (pu_fr hS hA) (fun r_105 u t H1 locs ht hvm hw hB hz1 hk1 hS => ?_)
          have hP := pu_keep hP hk1
          clear hk1 hz1 ht hvm
          generalize H1 = H at hP hS ⊢
          obtain ⟨u_106, hu_106, rfl, iu_106⟩ := hw
          replace hsp := hsp.trans (slet_eq iu_106)
          refine lv_iload hx hb dX9_explores_124 (lv_at hl 7 rfl) ?_
          refine lv_icmp_ne (tgt := 132) hx hb dX9_explores_126 (by decide) (fun c_107 => ?_) (fun c_107 => ?_)
          · have hcc_107 := c_107
            replace hsp := hsp.trans (if_neg c_107)
            refine lv_aload_n hx hb dX9_explores_132 rfl (lv_at hl 1 rfl) ?_
            refine va_get (D := (dC, dI)) (ci := 9) (v := .ref (ad 34)) (C := RX9) (T := TX9) (N := 67) hx hb hts hiX9 hown hK hP 0 rfl rfl 34 (by decide) v_36 (fun _ h9 => h9) rfl dX9_explores_133 ?_
            refine lv_bipush (v := 25) hx hb dX9_explores_136 (by decide) ?_
            refine lv_iload hx hb dX9_explores_138 (lv_at hl 0 rfl) ?_
            refine lv_imul hx hb dX9_explores_140 ?_
            refine lv_topi (fun y_108 ey_108 => ?_)
            obtain rfl : y_108 = (nI (25 * (120 + g_42))) := ey_108.trans (pk_mul 25 (120 + g_42))
            refine lv_aload_n hx hb dX9_explores_141 rfl (lv_at hl 1 rfl) ?_
            refine va_get (D := (dC, dI)) (ci := 9) (v := .ref (ad 35)) (C := RX9) (T := TX9) (N := 67) hx hb hts hiX9 hown hK hP 0 rfl rfl 35 (by decide) v_9 (fun _ h9 => h9) rfl dX9_explores_142 ?_
            refine lv_iconst (v := 0) hx hb dX9_explores_145 (by decide) ?_
            have hFc := pu_free hD hS hA
            refine va_callv (va_runS (As := [.ref (ad 34), .int (nI (25 * (120 + g_42))), .ref (ad 35), .int 0]) (rest := []) ⟨hx, hb, hml, hown, hts⟩ (c_EM_copies_nz l dC dI _ ad ck x0 x16 x18 x19 x20 x21 x22 x23 x24 x25 x26 x27 x28 x29 x30 x33 x45 x46 x52 x53 x61 x62 x63 x65 x66 f1 f2 f3 q4 q5 q6 q7 f8 q9 q10 f11 m12_0 m12_1 m13_0 m13_1 m14_0 m14_1 m15_0 m15_1 f17 q31 f32 g_64 g_65 f36 f37 g_66 g_67 g_68 g_69 m42_0 g_72 g_70 g_71 z47_4 z48_5 f49 f50 f51 q54 q55 q56 f57 q58 f59 f60 f64 (25 * (120 + g_42)) hx16 hx18 hx19 hx21 hx22 hx26 hx28 hx29 hx30 hx33 hx46 hx52 hx53 hx61 hx62 hx63 hx65 hm12_0 hm12_1 hm13_0 hm13_1 hm14_0 hm14_1 hm15_0 hm15_1 hm42_0 (Nat.le_trans hg_72 (Nat.le_of_ble_eq_true rfl)) (by omega)) (va_cwS 4 hts g_EM_explores_1_120_EM_copies_nz rfl rfl rfl (by decide +kernel) ⟨Nat.le_of_ble_eq_true rfl, Nat.le_of_ble_eq_true rfl⟩) ⟨pu_bl, pu_in hP hK hD⟩ rfl rfl hl.1 rfl (lv_room (Nat.le_of_ble_eq_true rfl)) dX9_explores_146 ⟨Nat.le_of_ble_eq_true rfl, Nat.le_of_ble_eq_true rfl⟩) hS (fun q _ h => hFc q h) hFc (fun u t H1 locs ht hvm hw hB hz1 hk1 hS => ?_)
            obtain ⟨z35_110, ⟨hP1, -, hD1⟩, xr_109_0⟩ := hB
            rw [ht] at hP1
            have hP := hP1
            have hD := pu_all hFc hD1
            clear hP1 hD1 hFc
            clear hk1 hz1 ht hvm
            generalize H1 = H at hP hS ⊢
            replace hsp := hsp.trans (slet_eq xr_109_0)
            refine lv_aload_n hx hb dX9_explores_149 rfl (lv_at hl 1 rfl) ?_
            refine lv_iload hx hb dX9_explores_150 (lv_at hl 9 rfl) ?_
            have hFc := pu_free hD hS hA
            refine va_calli (va_runV (As := [.int (nI g_73)]) (rest := []) ⟨hx, hb, hml, hown, hts⟩ (c_EM_goesBy l dC dI _ ad ck x0 x16 x18 x19 x20 x21 x22 x23 x24 x25 x26 x27 x28 x29 x30 x33 x45 x46 x52 x53 x61 x62 x63 x65 x66 f1 f2 f3 q4 q5 q6 q7 f8 q9 q10 f11 m12_0 m12_1 m13_0 m13_1 m14_0 m14_1 m15_0 m15_1 f17 q31 f32 g_64 z35_110 f36 f37 g_66 g_67 g_68 g_69 m42_0 g_72 g_70 g_71 z47_4 z48_5 f49 f50 f51 q54 q55 q56 f57 q58 f59 f60 f64 g_73 hx16 hx18 hx19 hx21 hx22 hx26 hx28 hx29 hx30 hx33 hx46 hx52 hx53 hx61 hx62 hx63 hx65 hm12_0 hm12_1 hm13_0 hm13_1 hm14_0 hm14_1 hm15_0 hm15_1 hm42_0 (Nat.le_trans hg_72 (Nat.le_of_ble_eq_true rfl)) (by omega)) (cwV 1 hts g_EM_explores_1_120_EM_goesBy rfl rfl rfl (by decide +kernel) ⟨Nat.le_of_ble_eq_true rfl, Nat.le_of_ble_eq_true rfl⟩) ⟨pu_bl, va_recv hK hP (ci := 9) (q0 := 0) rfl rfl, pu_in hP hK hD⟩ rfl rfl hl.1 rfl (lv_room (Nat.le_of_ble_eq_true rfl)) dX9_explores_152 ⟨Nat.le_of_ble_eq_true rfl, Nat.le_of_ble_eq_true rfl⟩) hS (fun q _ h => hFc q h) hFc (fun r_111 u t H1 locs ht hvm hw hB hz1 hk1 hS => ?_)
            obtain ⟨z35_112, ⟨hP1, -, hD1⟩, xr_111_0⟩ := hB
            rw [ht] at hP1
            have hP := hP1
            have hD := pu_all hFc hD1
            clear hP1 hD1 hFc
            clear hk1 hz1 ht hvm
            generalize H1 = H at hP hS ⊢
            obtain ⟨u_113, hu_113, rfl, iu_113⟩ := hw
            have iu_113 : (u_113, z35_112) = (sp_EM_goesBy x16 x46 q4 q6 q7 f8 q9 q10 f11 m12_0 m12_1 m13_0 m13_1 m14_0 m14_1 z35_110 g_73) := Prod.ext iu_113 xr_111_0
            replace hsp := hsp.trans (slet_eq iu_113)
            refine lv_if_ne (tgt := 161) hx hb dX9_explores_155 (by decide) (fun c_114 => ?_) (fun c_114 => ?_)
            · have c_114 : ¬ u_113 = 0 := fun z => c_114 ((nI_eq (a := u_113) (b := 0) (Nat.lt_of_le_of_lt hu_113 (Nat.le_of_ble_eq_true rfl)) (Nat.le_of_ble_eq_true rfl)).mpr z)
              replace hsp := hsp.trans (if_neg c_114)
              refine lv_aload_n hx hb dX9_explores_161 rfl (lv_at hl 1 rfl) ?_
              refine va_get (D := (dC, dI)) (ci := 9) (v := .ref (ad 43)) (C := RX9) (T := TX9) (N := 67) hx hb hts hiX9 hown hK hP 0 rfl rfl 43 (by decide) v_2 (fun _ h9 => h9) rfl dX9_explores_162 ?_
              refine lv_iload_n hx hb dX9_explores_165 rfl (lv_at hl 2 rfl) ?_
              refine lv_dup2_11 hx hb dX9_explores_166 rfl rfl ?_
              refine va_iald hx hb hK hP 28 27 rfl rfl (vp_in_nI (n := 1) (Nat.le_of_ble_eq_true rfl) (Nat.le_of_ble_eq_true rfl)) dX9_explores_167 ?_
              refine lv_topi (fun y_115 ey_115 => ?_)
              have ey_115 : y_115 = g_70 1 := ey_115.trans (congrArg g_70 (nI_clamp (n := 1) (Nat.le_of_ble_eq_true rfl)))
              replace hsp := hsp.trans (slet_eq ey_115)
              refine lv_iconst (v := 1) hx hb dX9_explores_168 (by decide) ?_
              refine lv_iload hx hb dX9_explores_169 (lv_at hl 9 rfl) ?_
              refine lv_ishl hx hb dX9_explores_171 ?_
              refine lv_topi (fun y_116 ey_116 => ?_)
              replace hsp := hsp.trans (slet_eq ey_116)
              refine lv_ior hx hb dX9_explores_172 ?_
              refine lv_topi (fun y_117 ey_117 => ?_)
              replace hsp := hsp.trans (slet_eq ey_117)
              refine va_iast hx hb hK hP hD hS 28 27 rfl rfl (vp_in_nI (n := 1) (Nat.le_of_ble_eq_true rfl) (Nat.le_of_ble_eq_true rfl)) dX9_explores_173 (fun H locs hP hD hS => ?_)
              obtain ⟨f_118, ef_118, xf_118⟩ := up_x g_70 (n := 1) y_117 (Nat.le_of_ble_eq_true rfl)
              have hP : va_P (dC, dI) vwCl (mo_w ad ck x0 (nI x16) (nI x18) (nI x19) x20 (nI x21) (nI x22) x23 x24 x25 (nI x26) x27 (nI x28) (nI x29) (nI x30) (nI x33) x45 (nI x46) (nI x52) (nI x53) (nI x61) (nI x62) (nI x63) (nI x65) x66 f1 f2 f3 (bN 3 q4) (bN 7 q5) (bN 7 q6) (bN 4 q7) f8 (bN 2 q9) (bH q10) f11 (b2 m12_0 m12_1) (b2 m13_0 m13_1) (b2 m14_0 m14_1) (b2m m15_0 m15_1) f17 (bA 159 q31) f32 g_64 z35_112 f36 f37 (bN 7 g_66) g_67 g_68 g_69 (b2 m42_0 g_72) f_118 g_71 z47_4 z48_5 f49 f50 f51 (bN 13 q54) (bN 120 q55) (bN 120 q56) f57 (bN 120 q58) f59 f60 f64) H := by rw [← ef_118]; exact hP
              have hD : va_D A (mo_w ad ck x0 (nI x16) (nI x18) (nI x19) x20 (nI x21) (nI x22) x23 x24 x25 (nI x26) x27 (nI x28) (nI x29) (nI x30) (nI x33) x45 (nI x46) (nI x52) (nI x53) (nI x61) (nI x62) (nI x63) (nI x65) x66 f1 f2 f3 (bN 3 q4) (bN 7 q5) (bN 7 q6) (bN 4 q7) f8 (bN 2 q9) (bH q10) f11 (b2 m12_0 m12_1) (b2 m13_0 m13_1) (b2 m14_0 m14_1) (b2m m15_0 m15_1) f17 (bA 159 q31) f32 g_64 z35_112 f36 f37 (bN 7 g_66) g_67 g_68 g_69 (b2 m42_0 g_72) f_118 g_71 z47_4 z48_5 f49 f50 f51 (bN 13 q54) (bN 120 q55) (bN 120 q56) f57 (bN 120 q58) f59 f60 f64) := by rw [← ef_118]; exact hD
              replace hsp := hsp.trans (slet_eq xf_118)
              refine lv_aload_n hx hb dX9_explores_174 rfl (lv_at hl 1 rfl) ?_
              refine lv_iload_n hx hb dX9_explores_175 rfl (lv_at hl 2 rfl) ?_
              refine lv_aload_n hx hb dX9_explores_176 rfl (lv_at hl 1 rfl) ?_
              refine lv_iload hx hb dX9_explores_177 (lv_at hl 9 rfl) ?_
              refine va_calli (va_runV (As := [.int (nI g_73)]) (rest := [.int 1, .ref (ad 0)]) ⟨hx, hb, hml, hown, hts⟩ (c_EM_into l dC dI _ ad ck x0 x16 x18 x19 x20 x21 x22 x23 x24 x25 x26 x27 x28 x29 x30 x33 x45 x46 x52 x53 x61 x62 x63 x65 x66 f1 f2 f3 q4 q5 q6 q7 f8 q9 q10 f11 m12_0 m12_1 m13_0 m13_1 m14_0 m14_1 m15_0 m15_1 f17 q31 f32 g_64 z35_112 f36 f37 g_66 g_67 g_68 g_69 m42_0 g_72 f_118 g_71 z47_4 z48_5 f49 f50 f51 q54 q55 q56 f57 q58 f59 f60 f64 g_73 hx16 hx18 hx19 hx21 hx22 hx26 hx28 hx29 hx30 hx33 hx46 hx52 hx53 hx61 hx62 hx63 hx65 hm12_0 hm12_1 hm13_0 hm13_1 hm14_0 hm14_1 hm15_0 hm15_1 hm42_0 (Nat.le_trans hg_72 (Nat.le_of_ble_eq_true rfl)) (by omega)) (cwV 1 hts g_EM_explores_1_120_EM_into rfl rfl rfl (by decide +kernel) ⟨Nat.le_of_ble_eq_true rfl, Nat.le_of_ble_eq_true rfl⟩) ⟨pu_bl, va_recv hK hP (ci := 9) (q0 := 0) rfl rfl, pu_in hP hK hD⟩ rfl rfl hl.1 rfl (lv_room (Nat.le_of_ble_eq_true rfl)) dX9_explores_179 ⟨Nat.le_of_ble_eq_true rfl, Nat.le_of_ble_eq_true rfl⟩) hS (fun q _ h => pu_fr hS hA q h) (pu_fr hS hA) (fun r_119 u t H1 locs ht hvm hw hB hz1 hk1 hS => ?_)
              have hP := pu_keep hP hk1
              clear hk1 hz1 ht hvm
              generalize H1 = H at hP hS ⊢
              obtain ⟨u_120, hu_120, rfl, iu_120⟩ := hw
              replace hsp := hsp.trans (slet_eq iu_120)
              refine lv_iload hx hb dX9_explores_182 (lv_at hl 8 rfl) ?_
              refine lv_iload hx hb dX9_explores_184 (lv_at hl 9 rfl) ?_
              refine lv_iload_n hx hb dX9_explores_186 rfl (lv_at hl 4 rfl) ?_
              refine lv_iload hx hb dX9_explores_187 (lv_at hl 5 rfl) ?_
              refine lv_iload hx hb dX9_explores_189 (lv_at hl 6 rfl) ?_
              have hFc := pu_free hD hS hA
              refine va_callv (va_runV (As := [.int 1, .int (nI u_120), .int (nI g_42), .int (nI g_73), .int p2, .int (nI a3), .int 120]) (rest := []) ⟨hx, hb, hml, hown, hts⟩ (c_EM_comes_1_120_1 l dC dI _ ad ck x0 x16 x18 x19 x20 x21 x22 x23 x24 x25 x26 x27 x28 x29 x30 x33 x45 x46 x52 x53 x61 x62 x63 x65 x66 f1 f2 f3 q4 q5 q6 q7 f8 q9 q10 f11 m12_0 m12_1 m13_0 m13_1 m14_0 m14_1 m15_0 m15_1 f17 q31 f32 g_64 z35_112 f36 f37 g_66 g_67 g_68 g_69 m42_0 g_72 f_118 g_71 z47_4 z48_5 f49 f50 f51 q54 q55 q56 f57 q58 f59 f60 f64 u_120 g_42 g_73 p2 a3 hx16 hx18 hx19 hx21 hx22 hx26 hx28 hx29 hx30 hx33 hx46 hx52 hx53 hx61 hx62 hx63 hx65 hm12_0 hm12_1 hm13_0 hm13_1 hm14_0 hm14_1 hm15_0 hm15_1 hm42_0 hg_72 hu_120 (by omega) (by omega) ha3 (by first | assumption | exact gz_0)) (cwV 7 hts g_EM_explores_1_120_EM_comes_1_120_1 rfl rfl rfl (by decide +kernel) ⟨Nat.le_of_ble_eq_true rfl, Nat.le_of_ble_eq_true rfl⟩) ⟨pu_bl, va_recv hK hP (ci := 9) (q0 := 0) rfl rfl, pu_in hP hK hD⟩ rfl rfl hl.1 rfl (lv_room (Nat.le_of_ble_eq_true rfl)) dX9_explores_191 ⟨Nat.le_of_ble_eq_true rfl, Nat.le_of_ble_eq_true rfl⟩) hS (fun q _ h => hFc q h) hFc (fun u t H1 locs ht hvm hw hB hz1 hk1 hS => ?_)
              obtain ⟨z34_122, z35_123, z38_124, z39_125, z40_126, z41_127, z44_128, z42_1_129, ⟨hP1, -, hD1⟩, hz42_1_129, xr_121_0, xr_121_1, xr_121_2⟩ := hB
              rw [ht] at hP1
              have hP := hP1
              have hD := pu_all hFc hD1
              clear hP1 hD1 hFc
              clear hk1 hz1 ht hvm
              generalize H1 = H at hP hS ⊢
              replace hsp := hsp.trans (slet_eq xr_121_2)
              exact j_101 _ _ _ _ ⟨z34_122, z35_123, z38_124, z39_125, z40_126, z41_127, z42_1_129, f_118, z44_128, rfl, hz42_1_129, by first | assumption | exact gz_0, by omega, hsp.symm, hP, hD, hS, lv_sub hl [1, 2, 3, 4, 5, 6, 7, 8, 9, 0] rfl⟩
            · have c_114 : u_113 = 0 := (nI_eq (a := u_113) (b := 0) (Nat.lt_of_le_of_lt hu_113 (Nat.le_of_ble_eq_true rfl)) (Nat.le_of_ble_eq_true rfl)).mp c_114
              replace hsp := hsp.trans (if_pos c_114)
              refine lv_goto (tgt := 194) hx hb dX9_explores_158 (by decide) ?_
              exact j_101 _ _ _ _ ⟨g_64, z35_112, g_66, g_67, g_68, g_69, g_72, g_70, g_71, rfl, hg_72, by first | assumption | exact gz_0, by omega, hsp.symm, hP, hD, hS, lv_sub hl [1, 2, 3, 4, 5, 6, 7, 8, 9, 0] rfl⟩
          · have hcc_107 := c_107
            replace hsp := hsp.trans (if_pos c_107)
            refine lv_goto (tgt := 194) hx hb dX9_explores_129 (by decide) ?_
            exact j_101 _ _ _ _ ⟨g_64, g_65, g_66, g_67, g_68, g_69, g_72, g_70, g_71, rfl, hg_72, by first | assumption | exact gz_0, by omega, hsp.symm, hP, hD, hS, lv_sub hl [1, 2, 3, 4, 5, 6, 7, 8, 9, 0] rfl⟩
  · have c_12 : u_11 = 0 := (nI_eq (a := u_11) (b := 0) (Nat.lt_of_le_of_lt hu_11 (Nat.le_of_ble_eq_true rfl)) (Nat.le_of_ble_eq_true rfl)).mp c_12
    replace hsp := hsp.trans (if_pos c_12)
    exact W.vret hx hb hr (fun t ht hW => ⟨⟨(), rfl, trivial, ⟨f34, z35_10, q38, f39, f40, f41, f_1, f_2, z47_4, z48_5, 0, ⟨by rw [ht]; exact hP, va_K.moved hW.alike hK, hD⟩, (Nat.le_of_ble_eq_true rfl), by first | assumption | exact gz_0, (hsp.symm.trans hRR)⟩⟩, hS.F ht⟩) hS.2.2 dX9_explores_49
abbrev vs_EM_comes_1_400_0 : List Cond := .code yX9_comes cX9_comes 10 none :: VM
theorem g_EM_comes_1_400_0_EM_isUrgent : GoodIn vs_EM_comes_1_400_0 (wsV RX9 324 RX9 yX9_isUrgent vs_EM_isUrgent) := gm_V vm_189 vm_190 vm_191 vm_19 vm_192
theorem g_EM_comes_1_400_0_EM_forgets : GoodIn vs_EM_comes_1_400_0 (wsV RX9 352 RX9 yX9_forgets vs_EM_forgets) := gm_V vm_224 vm_225 vm_226 vm_19 vm_227
theorem g_EM_comes_1_400_0_EM_spotOf_1 : GoodIn vs_EM_comes_1_400_0 (va_wsS RX9 355 yX9_spotOf vs_EM_spotOf_1) := gm_S vm_220 vm_221 vm_19 vm_222
theorem g_EM_comes_1_400_0_EM_copies_zn : GoodIn vs_EM_comes_1_400_0 (va_wsS RX9 362 yX9_copies vs_EM_copies_zn) := gm_S vm_228 vm_229 vm_19 vm_230
theorem g_EM_comes_1_400_0_EM_hasAll : GoodIn vs_EM_comes_1_400_0 (wsV RX9 358 RX9 yX9_hasAll vs_EM_hasAll) := gm_V vm_231 vm_232 vm_233 vm_19 vm_234
theorem g_EM_comes_1_400_0_EM_delays : GoodIn vs_EM_comes_1_400_0 (wsV RX9 349 RX9 yX9_delays vs_EM_delays) := gm_V vm_235 vm_236 vm_237 vm_19 vm_238
noncomputable def sp_EM_comes_1_400_0_L1 (x46 : Nat) (f34 : Nat → Int32) (q38 : Nat → Nat) (f39 : Nat → Int32) (f40 : Nat → Int32) (f41 : Nat → Int32) (m42_1 : Nat) (f44 : Nat → Int32) (a1 : Nat) (a5 : Nat) (z35_8 : Nat → Int32) : (Nat) → (Nat) ⊕ ((Nat → Int32) × (Nat → Int32) × (Nat → Nat) × (Nat → Int32) × (Nat → Int32) × (Nat → Int32) × (Nat → Int32) × Nat) := fun g_10 => (if m42_1 ≤ g_10 then (Sum.inr (if m42_1 = 400 then (slet (upd f44 1 (vp_nar .boolean 1)) (fun f_21 => (f34, z35_8, q38, f39, f40, f41, f_21, m42_1))) else (slet (f44 1) (fun y_22 => (if (y_22 : Int32) = 0 then (slet (sp_EM_copies_zn f34 z35_8 (25 * (120 + m42_1))) (fun z34_28 => (slet (updN q38 (120 + m42_1) a1) (fun q_29 => (slet (upd f39 (120 + m42_1) (-1)) (fun f_30 => (slet (upd f40 (120 + m42_1) (-1)) (fun f_31 => (slet (upd f41 (120 + m42_1) 0) (fun f_32 => (z34_28, z35_8, q_29, f_30, f_31, f_32, f44, (m42_1 + 1)))))))))))) else (slet (upd f44 1 (vp_nar .boolean 1)) (fun f_35 => (f34, z35_8, q38, f39, f40, f41, f_35, m42_1)))))))) else (slet (min (q38 (120 + g_10)) 7) (fun u_38 => (if u_38 = a1 then (slet (α := Nat) (if a5 = 0 then 1 else 0) (fun g_40 => (slet (sp_EM_hasAll x46 f34 z35_8 (120 + g_10) g_40) (fun u_45 => (if u_45 = 0 then (Sum.inl (g_10 + 1)) else (Sum.inr (f34, z35_8, q38, f39, f40, f41, f44, m42_1))))))) else (Sum.inl (g_10 + 1))))))
noncomputable def sp_EM_comes_1_400_0 (x16 : Nat) (x46 : Nat) (f3 : Nat → Int32) (q4 : Nat → Nat) (q9 : Nat → Nat) (q10 : Nat → Nat) (f11 : Nat → Int32) (m13_0 : Nat) (m13_1 : Nat) (f34 : Nat → Int32) (f35 : Nat → Int32) (q38 : Nat → Nat) (f39 : Nat → Int32) (f40 : Nat → Int32) (f41 : Nat → Int32) (m42_1 : Nat) (f44 : Nat → Int32) (f47 : Nat → Int32) (f48 : Nat → Int32) (a1 : Nat) (p4 : Int32) (a5 : Nat) : (Nat → Int32) × (Nat → Int32) × (Nat → Nat) × (Nat → Int32) × (Nat → Int32) × (Nat → Int32) × (Nat → Int32) × Nat := (slet (sp_EM_isUrgent x16 f3 a1) (fun u_2 => (slet (α := (Nat → Int32)) (if u_2 = 0 then (slet (sp_EM_delays x16 x46 q4 q9 q10 f11 m13_0 m13_1 f35 a1) (fun z35_50 => z35_50)) else f35) (fun g_3 => (slet (sp_EM_forgets x46 g_3 f47 f48 p4) (fun z35_8 => (itrv (α := Nat) (β := ((Nat → Int32) × (Nat → Int32) × (Nat → Nat) × (Nat → Int32) × (Nat → Int32) × (Nat → Int32) × (Nat → Int32) × Nat)) default (sp_EM_comes_1_400_0_L1 x46 f34 q38 f39 f40 f41 m42_1 f44 a1 a5 z35_8) 0)))))))
set_option maxHeartbeats 4000000 in
set_option maxRecDepth 100000 in
theorem c_EM_comes_1_400_0 (l : Launch) (dC : Nat → ClassId) (dI : Nat → Nat → Nat) (sz : Nat) (ad : Nat → Nat) (ck : Nat → ClassId) (x0 : Int32) (x16 : Nat) (x18 : Nat) (x19 : Nat) (x20 : Int32) (x21 : Nat) (x22 : Nat) (x23 : Int32) (x24 : Int32) (x25 : Int32) (x26 : Nat) (x27 : Int32) (x28 : Nat) (x29 : Nat) (x30 : Nat) (x33 : Nat) (x45 : Int32) (x46 : Nat) (x52 : Nat) (x53 : Nat) (x61 : Nat) (x62 : Nat) (x63 : Nat) (x65 : Nat) (x66 : Int32) (f1 : Nat → Int32) (f2 : Nat → Int32) (f3 : Nat → Int32) (q4 : Nat → Nat) (q5 : Nat → Nat) (q6 : Nat → Nat) (q7 : Nat → Nat) (f8 : Nat → Int32) (q9 : Nat → Nat) (q10 : Nat → Nat) (f11 : Nat → Int32) (m12_0 m12_1 : Nat) (m13_0 m13_1 : Nat) (m14_0 m14_1 : Nat) (m15_0 m15_1 : Nat) (f17 : Nat → Int32) (q31 : Nat → Nat) (f32 : Nat → Int32) (f34 : Nat → Int32) (f35 : Nat → Int32) (f36 : Nat → Int32) (f37 : Nat → Int32) (q38 : Nat → Nat) (f39 : Nat → Int32) (f40 : Nat → Int32) (f41 : Nat → Int32) (m42_0 m42_1 : Nat) (f43 : Nat → Int32) (f44 : Nat → Int32) (f47 : Nat → Int32) (f48 : Nat → Int32) (f49 : Nat → Int32) (f50 : Nat → Int32) (f51 : Nat → Int32) (q54 : Nat → Nat) (q55 : Nat → Nat) (q56 : Nat → Nat) (f57 : Nat → Int32) (q58 : Nat → Nat) (f59 : Nat → Int32) (f60 : Nat → Int32) (f64 : Nat → Int32) (a1 : Nat) (p4 : Int32) (a5 : Nat) (hx16 : x16 ≤ 1) (hx18 : x18 ≤ 900) (hx19 : x19 ≤ 900) (hx21 : x21 ≤ 900) (hx22 : x22 ≤ 4) (hx26 : x26 ≤ 6) (hx28 : x28 ≤ 1) (hx29 : x29 ≤ 1) (hx30 : x30 ≤ 1) (hx33 : x33 ≤ 20) (hx46 : x46 ≤ 5) (hx52 : x52 ≤ 2400) (hx53 : x53 ≤ 119) (hx61 : x61 ≤ 119) (hx62 : x62 ≤ 2000) (hx63 : x63 ≤ 1) (hx65 : x65 ≤ 7) (hm12_0 : m12_0 ≤ 3) (hm12_1 : m12_1 ≤ 3) (hm13_0 : m13_0 ≤ 8) (hm13_1 : m13_1 ≤ 8) (hm14_0 : m14_0 ≤ 14) (hm14_1 : m14_1 ≤ 14) (hm15_0 : m15_0 ≤ 8) (hm15_1 : m15_1 ≤ 8) (hm42_0 : m42_0 ≤ 120) (hm42_1 : m42_1 ≤ 400) (ha1 : a1 ≤ 7) (ha5 : a5 ≤ 1) (hgr : gz_ok m42_0 f39 f40 f41) : Met l yX9_comes vs_EM_comes_1_400_0 ({ frames := 5, cells := 0, slots := 0, locals := 113 }) (va_Pc [.ref (ad 0), .int 1, .int (nI a1), .int (-1), .int (-1), .int p4, .int (nI a5), .int 400] (pu_B (dC, dI) (mo_w ad ck x0 (nI x16) (nI x18) (nI x19) x20 (nI x21) (nI x22) x23 x24 x25 (nI x26) x27 (nI x28) (nI x29) (nI x30) (nI x33) x45 (nI x46) (nI x52) (nI x53) (nI x61) (nI x62) (nI x63) (nI x65) x66 f1 f2 f3 (bN 3 q4) (bN 7 q5) (bN 7 q6) (bN 4 q7) f8 (bN 2 q9) (bH q10) f11 (b2 m12_0 m12_1) (b2 m13_0 m13_1) (b2 m14_0 m14_1) (b2m m15_0 m15_1) f17 (bA 159 q31) f32 f34 f35 f36 f37 (bN 7 q38) f39 f40 f41 (b2 m42_0 m42_1) f43 f44 f47 f48 f49 f50 f51 (bN 13 q54) (bN 120 q55) (bN 120 q56) f57 (bN 120 q58) f59 f60 f64) (mo_t ck) sz)) (va_Qv (fun (_ : Unit) => True) (fun _ t => ∃ (z34 : Nat → Int32) (z35 : Nat → Int32) (z38 : Nat → Nat) (z39 : Nat → Int32) (z40 : Nat → Int32) (z41 : Nat → Int32) (z44 : Nat → Int32) (z42_1 : Nat), pu_E (dC, dI) (mo_w ad ck x0 (nI x16) (nI x18) (nI x19) x20 (nI x21) (nI x22) x23 x24 x25 (nI x26) x27 (nI x28) (nI x29) (nI x30) (nI x33) x45 (nI x46) (nI x52) (nI x53) (nI x61) (nI x62) (nI x63) (nI x65) x66 f1 f2 f3 (bN 3 q4) (bN 7 q5) (bN 7 q6) (bN 4 q7) f8 (bN 2 q9) (bH q10) f11 (b2 m12_0 m12_1) (b2 m13_0 m13_1) (b2 m14_0 m14_1) (b2m m15_0 m15_1) f17 (bA 159 q31) f32 z34 z35 f36 f37 (bN 7 z38) z39 z40 z41 (b2 m42_0 z42_1) f43 z44 f47 f48 f49 f50 f51 (bN 13 q54) (bN 120 q55) (bN 120 q56) f57 (bN 120 q58) f59 f60 f64) (mo_t ck) (va_A ((mo_w ad ck x0 (nI x16) (nI x18) (nI x19) x20 (nI x21) (nI x22) x23 x24 x25 (nI x26) x27 (nI x28) (nI x29) (nI x30) (nI x33) x45 (nI x46) (nI x52) (nI x53) (nI x61) (nI x62) (nI x63) (nI x65) x66 f1 f2 f3 (bN 3 q4) (bN 7 q5) (bN 7 q6) (bN 4 q7) f8 (bN 2 q9) (bH q10) f11 (b2 m12_0 m12_1) (b2 m13_0 m13_1) (b2 m14_0 m14_1) (b2m m15_0 m15_1) f17 (bA 159 q31) f32 f34 f35 f36 f37 (bN 7 q38) f39 f40 f41 (b2 m42_0 m42_1) f43 f44 f47 f48 f49 f50 f51 (bN 13 q54) (bN 120 q55) (bN 120 q56) f57 (bN 120 q58) f59 f60 f64)) sz) t ∧ (z42_1 ≤ 400) ∧ (gz_ok m42_0 z39 z40 z41) ∧ (m42_1 ≤ z42_1) ∧ ((z34, z35, z38, z39, z40, z41, z44, z42_1) = (sp_EM_comes_1_400_0 x16 x46 f3 q4 q9 q10 f11 m13_0 m13_1 f34 f35 q38 f39 f40 f41 m42_1 f44 f47 f48 a1 p4 a5))) (va_A ((mo_w ad ck x0 (nI x16) (nI x18) (nI x19) x20 (nI x21) (nI x22) x23 x24 x25 (nI x26) x27 (nI x28) (nI x29) (nI x30) (nI x33) x45 (nI x46) (nI x52) (nI x53) (nI x61) (nI x62) (nI x63) (nI x65) x66 f1 f2 f3 (bN 3 q4) (bN 7 q5) (bN 7 q6) (bN 4 q7) f8 (bN 2 q9) (bH q10) f11 (b2 m12_0 m12_1) (b2 m13_0 m13_1) (b2 m14_0 m14_1) (b2m m15_0 m15_1) f17 (bA 159 q31) f32 f34 f35 f36 f37 (bN 7 q38) f39 f40 f41 (b2 m42_0 m42_1) f43 f44 f47 f48 f49 f50 f51 (bN 13 q54) (bN 120 q55) (bN 120 q56) f57 (bN 120 q58) f59 f60 f64)) sz)) 0 0 (va_A ((mo_w ad ck x0 (nI x16) (nI x18) (nI x19) x20 (nI x21) (nI x22) x23 x24 x25 (nI x26) x27 (nI x28) (nI x29) (nI x30) (nI x33) x45 (nI x46) (nI x52) (nI x53) (nI x61) (nI x62) (nI x63) (nI x65) x66 f1 f2 f3 (bN 3 q4) (bN 7 q5) (bN 7 q6) (bN 4 q7) f8 (bN 2 q9) (bH q10) f11 (b2 m12_0 m12_1) (b2 m13_0 m13_1) (b2 m14_0 m14_1) (b2m m15_0 m15_1) f17 (bA 159 q31) f32 f34 f35 f36 f37 (bN 7 q38) f39 f40 f41 (b2 m42_0 m42_1) f43 f44 f47 f48 f49 f50 f51 (bN 13 q54) (bN 120 q55) (bN 120 q56) f57 (bN 120 q58) f59 f60 f64)) sz) := by
  refine Met.ofW (cc := cX9_comes) (maxL := 10) (ret := none) (by decide) rfl ?_
  intro p e s m args below meth c s₁ B hml hv
  obtain ⟨rfl, rfl, hP, hK, hD0⟩ := hv
  have hx := B.exec
  have hb := B.bytes
  have hr := B.returns
  have hts := atoms_spec (ws := vs_EM_comes_1_400_0) B.pre
  have v_6 := hts (.fieldLink RX9 71 "ClockReachModel" "z" "[I") (List.mem_cons_of_mem _ vm_219)
  have v_15 := hts (.fieldLink RX9 92 "ClockReachModel" "stateMany" "[I") (List.mem_cons_of_mem _ vm_164)
  have v_16 := hts (.fieldLink RX9 98 "ClockReachModel" "isFull" "[Z") (List.mem_cons_of_mem _ vm_165)
  have v_20 := hts (.fieldLink RX9 68 "ClockReachModel" "zone" "[I") (List.mem_cons_of_mem _ vm_214)
  have v_24 := hts (.fieldLink RX9 80 "ClockReachModel" "statePlace" "[I") (List.mem_cons_of_mem _ vm_223)
  have v_25 := hts (.fieldLink RX9 83 "ClockReachModel" "stateFrom" "[I") (List.mem_cons_of_mem _ vm_239)
  have v_26 := hts (.fieldLink RX9 86 "ClockReachModel" "stateBy" "[I") (List.mem_cons_of_mem _ vm_240)
  have v_27 := hts (.fieldLink RX9 89 "ClockReachModel" "stateDeep" "[I") (List.mem_cons_of_mem _ vm_241)
  have hown : s.vm.findClass RX9 = some m.cls := findClass_of_methodNamed B.named
  have hlocks := B.notSynchronized
  have hiX9 : ∀ w ∈ wsX90, w ∈ vs_EM_comes_1_400_0 := fun _ h => List.mem_cons_of_mem _ (vmi_L h)
  have hD := hD0.self (sz := s.heap.size)
  generalize hAe : va_A ((mo_w ad ck x0 (nI x16) (nI x18) (nI x19) x20 (nI x21) (nI x22) x23 x24 x25 (nI x26) x27 (nI x28) (nI x29) (nI x30) (nI x33) x45 (nI x46) (nI x52) (nI x53) (nI x61) (nI x62) (nI x63) (nI x65) x66 f1 f2 f3 (bN 3 q4) (bN 7 q5) (bN 7 q6) (bN 4 q7) f8 (bN 2 q9) (bH q10) f11 (b2 m12_0 m12_1) (b2 m13_0 m13_1) (b2 m14_0 m14_1) (b2m m15_0 m15_1) f17 (bA 159 q31) f32 f34 f35 f36 f37 (bN 7 q38) f39 f40 f41 (b2 m42_0 m42_1) f43 f44 f47 f48 f49 f50 f51 (bN 13 q54) (bN 120 q55) (bN 120 q56) f57 (bN 120 q58) f59 f60 f64)) s.heap.size = A at hD ⊢
  have hA : ∀ q : Nat, s.heap.size ≤ q → A q := fun q h => by rw [← hAe]; exact Or.inr h
  have hS : va_S A s.heap s.heap [] := va_S.rf
  have hl := lv_entry ([.ref (ad 0), .int 1, .int (nI a1), .int (-1), .int (-1), .int p4, .int (nI a5), .int 400]) (n := 10) (Nat.le_of_ble_eq_true rfl)
  rw [lg_entry_eq]
  generalize (lg_sl ([.ref (ad 0), .int 1, .int (nI a1), .int (-1), .int (-1), .int p4, .int (nI a5), .int 400]) ++ List.replicate (10 - (lg_sl ([.ref (ad 0), .int 1, .int (nI a1), .int (-1), .int (-1), .int p4, .int (nI a5), .int 400])).length) Slot.unset).toArray = ls at hl ⊢
  have hl : lv_has ls 10 [(0, .ref (ad 0)), (1, .int 1), (2, .int (nI a1)), (3, .int (-1)), (4, .int (-1)), (5, .int p4), (6, .int (nI a5)), (7, .int 400)] := hl
  obtain ⟨RR, hRR⟩ : ∃ x, x = (sp_EM_comes_1_400_0 x16 x46 f3 q4 q9 q10 f11 m13_0 m13_1 f34 f35 q38 f39 f40 f41 m42_1 f44 f47 f48 a1 p4 a5) := ⟨_, rfl⟩
  have hsp := hRR
  refine lv_aload_n hx hb dX9_comes_0 rfl (lv_at hl 0 rfl) ?_
  refine lv_iload_n hx hb dX9_comes_1 rfl (lv_at hl 2 rfl) ?_
  refine va_calli (va_runV (As := [.int (nI a1)]) (rest := []) ⟨hx, hb, hml, hown, hts⟩ (c_EM_isUrgent l dC dI _ ad ck x0 x16 x18 x19 x20 x21 x22 x23 x24 x25 x26 x27 x28 x29 x30 x33 x45 x46 x52 x53 x61 x62 x63 x65 x66 f1 f2 f3 q4 q5 q6 q7 f8 q9 q10 f11 m12_0 m12_1 m13_0 m13_1 m14_0 m14_1 m15_0 m15_1 f17 q31 f32 f34 f35 f36 f37 q38 f39 f40 f41 m42_0 m42_1 f43 f44 f47 f48 f49 f50 f51 q54 q55 q56 f57 q58 f59 f60 f64 a1 hx16 hx18 hx19 hx21 hx22 hx26 hx28 hx29 hx30 hx33 hx46 hx52 hx53 hx61 hx62 hx63 hx65 hm12_0 hm12_1 hm13_0 hm13_1 hm14_0 hm14_1 hm15_0 hm15_1 hm42_0 hm42_1 ha1) (cwV 1 hts g_EM_comes_1_400_0_EM_isUrgent rfl rfl rfl (by decide +kernel) ⟨Nat.le_of_ble_eq_true rfl, Nat.le_of_ble_eq_true rfl⟩) ⟨pu_bl, va_recv hK hP (ci := 9) (q0 := 0) rfl rfl, pu_in hP hK hD⟩ rfl rfl hl.1 rfl (lv_room (Nat.le_of_ble_eq_true rfl)) dX9_comes_2 ⟨Nat.le_of_ble_eq_true rfl, Nat.le_of_ble_eq_true rfl⟩) hS (fun q _ h => pu_fr hS hA q h) (pu_fr hS hA) (fun r_1 u t H1 locs ht hvm hw hB hz1 hk1 hS => ?_)
  have hP := pu_keep hP hk1
  clear hk1 hz1 ht hvm
  generalize H1 = H at hP hS ⊢
  obtain ⟨u_2, hu_2, rfl, iu_2⟩ := hw
  replace hsp := hsp.trans (slet_eq iu_2)
  obtain ⟨JR_5, hJR_5, hsp⟩ := slet_ex hsp
  refine pu_join (fun H locs ls st => ∃ (g_3 : Nat → Int32), st = [] ∧ g_3 = JR_5 ∧ va_P (dC, dI) vwCl (mo_w ad ck x0 (nI x16) (nI x18) (nI x19) x20 (nI x21) (nI x22) x23 x24 x25 (nI x26) x27 (nI x28) (nI x29) (nI x30) (nI x33) x45 (nI x46) (nI x52) (nI x53) (nI x61) (nI x62) (nI x63) (nI x65) x66 f1 f2 f3 (bN 3 q4) (bN 7 q5) (bN 7 q6) (bN 4 q7) f8 (bN 2 q9) (bH q10) f11 (b2 m12_0 m12_1) (b2 m13_0 m13_1) (b2 m14_0 m14_1) (b2m m15_0 m15_1) f17 (bA 159 q31) f32 f34 g_3 f36 f37 (bN 7 q38) f39 f40 f41 (b2 m42_0 m42_1) f43 f44 f47 f48 f49 f50 f51 (bN 13 q54) (bN 120 q55) (bN 120 q56) f57 (bN 120 q58) f59 f60 f64) H ∧ va_D A (mo_w ad ck x0 (nI x16) (nI x18) (nI x19) x20 (nI x21) (nI x22) x23 x24 x25 (nI x26) x27 (nI x28) (nI x29) (nI x30) (nI x33) x45 (nI x46) (nI x52) (nI x53) (nI x61) (nI x62) (nI x63) (nI x65) x66 f1 f2 f3 (bN 3 q4) (bN 7 q5) (bN 7 q6) (bN 4 q7) f8 (bN 2 q9) (bH q10) f11 (b2 m12_0 m12_1) (b2 m13_0 m13_1) (b2 m14_0 m14_1) (b2m m15_0 m15_1) f17 (bA 159 q31) f32 f34 g_3 f36 f37 (bN 7 q38) f39 f40 f41 (b2 m42_0 m42_1) f43 f44 f47 f48 f49 f50 f51 (bN 13 q54) (bN 120 q55) (bN 120 q56) f57 (bN 120 q58) f59 f60 f64) ∧ va_S A s.heap H locs ∧ lv_has ls 10 [(0, .ref (ad 0)), (1, .int 1), (2, .int (nI a1)), (3, .int (-1)), (4, .int (-1)), (5, .int p4), (6, .int (nI a5)), (7, .int 400)]) 17 ?_ (fun j_4 => ?_)
  · rintro H locs ls st ⟨g_3, rfl, he_6, hP, hD, hS, hl⟩
    rw [← he_6] at hsp
    refine lv_aload_n hx hb dX9_comes_17 rfl (lv_at hl 0 rfl) ?_
    refine lv_aload_n hx hb dX9_comes_18 rfl (lv_at hl 0 rfl) ?_
    refine va_get (D := (dC, dI)) (ci := 9) (v := .ref (ad 35)) (C := RX9) (T := TX9) (N := 67) hx hb hts hiX9 hown hK hP 0 rfl rfl 35 (by decide) v_6 (fun _ h9 => h9) rfl dX9_comes_19 ?_
    refine lv_iload hx hb dX9_comes_22 (lv_at hl 5 rfl) ?_
    have hFc := pu_free hD hS hA
    refine va_callv (va_runV (As := [.ref (ad 35), .int p4]) (rest := []) ⟨hx, hb, hml, hown, hts⟩ (c_EM_forgets l dC dI _ ad ck x0 x16 x18 x19 x20 x21 x22 x23 x24 x25 x26 x27 x28 x29 x30 x33 x45 x46 x52 x53 x61 x62 x63 x65 x66 f1 f2 f3 q4 q5 q6 q7 f8 q9 q10 f11 m12_0 m12_1 m13_0 m13_1 m14_0 m14_1 m15_0 m15_1 f17 q31 f32 f34 g_3 f36 f37 q38 f39 f40 f41 m42_0 m42_1 f43 f44 f47 f48 f49 f50 f51 q54 q55 q56 f57 q58 f59 f60 f64 p4 hx16 hx18 hx19 hx21 hx22 hx26 hx28 hx29 hx30 hx33 hx46 hx52 hx53 hx61 hx62 hx63 hx65 hm12_0 hm12_1 hm13_0 hm13_1 hm14_0 hm14_1 hm15_0 hm15_1 hm42_0 hm42_1) (cwV 2 hts g_EM_comes_1_400_0_EM_forgets rfl rfl rfl (by decide +kernel) ⟨Nat.le_of_ble_eq_true rfl, Nat.le_of_ble_eq_true rfl⟩) ⟨pu_bl, va_recv hK hP (ci := 9) (q0 := 0) rfl rfl, pu_in hP hK hD⟩ rfl rfl hl.1 rfl (lv_room (Nat.le_of_ble_eq_true rfl)) dX9_comes_24 ⟨Nat.le_of_ble_eq_true rfl, Nat.le_of_ble_eq_true rfl⟩) hS (fun q _ h => hFc q h) hFc (fun u t H1 locs ht hvm hw hB hz1 hk1 hS => ?_)
    obtain ⟨z35_8, ⟨hP1, -, hD1⟩, xr_7_0⟩ := hB
    rw [ht] at hP1
    have hP := hP1
    have hD := pu_all hFc hD1
    clear hP1 hD1 hFc
    clear hk1 hz1 ht hvm
    generalize H1 = H at hP hS ⊢
    replace hsp := hsp.trans (slet_eq xr_7_0)
    refine lv_iconst (v := 0) hx hb dX9_comes_27 (by decide) ?_
    refine lv_istore (lv' := [(8, .int 0), (0, .ref (ad 0)), (1, .int 1), (2, .int (nI a1)), (3, .int (-1)), (4, .int (-1)), (5, .int p4), (6, .int (nI a5)), (7, .int 400)]) hx hb dX9_comes_28 hl (by decide) rfl (fun ls hl => ?_)
    obtain ⟨lf_12, dlf_12, hlf_12, hsp⟩ := itr_ex hsp
    delta sp_EM_comes_1_400_0_L1 at hlf_12
    refine pu_while (fun nn H locs ls => ∃ (g_10 : Nat), nn = 400 - g_10 ∧ g_10 ≤ 400 ∧ RR = itrv dlf_12 lf_12 g_10 ∧ va_P (dC, dI) vwCl (mo_w ad ck x0 (nI x16) (nI x18) (nI x19) x20 (nI x21) (nI x22) x23 x24 x25 (nI x26) x27 (nI x28) (nI x29) (nI x30) (nI x33) x45 (nI x46) (nI x52) (nI x53) (nI x61) (nI x62) (nI x63) (nI x65) x66 f1 f2 f3 (bN 3 q4) (bN 7 q5) (bN 7 q6) (bN 4 q7) f8 (bN 2 q9) (bH q10) f11 (b2 m12_0 m12_1) (b2 m13_0 m13_1) (b2 m14_0 m14_1) (b2m m15_0 m15_1) f17 (bA 159 q31) f32 f34 z35_8 f36 f37 (bN 7 q38) f39 f40 f41 (b2 m42_0 m42_1) f43 f44 f47 f48 f49 f50 f51 (bN 13 q54) (bN 120 q55) (bN 120 q56) f57 (bN 120 q58) f59 f60 f64) H ∧ va_D A (mo_w ad ck x0 (nI x16) (nI x18) (nI x19) x20 (nI x21) (nI x22) x23 x24 x25 (nI x26) x27 (nI x28) (nI x29) (nI x30) (nI x33) x45 (nI x46) (nI x52) (nI x53) (nI x61) (nI x62) (nI x63) (nI x65) x66 f1 f2 f3 (bN 3 q4) (bN 7 q5) (bN 7 q6) (bN 4 q7) f8 (bN 2 q9) (bH q10) f11 (b2 m12_0 m12_1) (b2 m13_0 m13_1) (b2 m14_0 m14_1) (b2m m15_0 m15_1) f17 (bA 159 q31) f32 f34 z35_8 f36 f37 (bN 7 q38) f39 f40 f41 (b2 m42_0 m42_1) f43 f44 f47 f48 f49 f50 f51 (bN 13 q54) (bN 120 q55) (bN 120 q56) f57 (bN 120 q58) f59 f60 f64) ∧ va_S A s.heap H locs ∧ lv_has ls 10 [(0, .ref (ad 0)), (1, .int 1), (2, .int (nI a1)), (3, .int (-1)), (4, .int (-1)), (5, .int p4), (6, .int (nI a5)), (7, .int 400), (8, .int (nI g_10))]) 30 ?_ _ _ _ _ ⟨0, rfl, (Nat.le_of_ble_eq_true rfl), hsp, hP, hD, hS, lv_sub hl [1, 2, 3, 4, 5, 6, 7, 8, 0] rfl⟩
    rintro nn ih_11 H locs ls ⟨g_10, rfl, hg_10, he_14, hP, hD, hS, hl⟩
    obtain ⟨S_13, hsp, hin_15, hout_16⟩ := itr_step hlf_12 he_14
    refine lv_iload hx hb dX9_comes_30 (lv_at hl 8 rfl) ?_
    refine lv_aload_n hx hb dX9_comes_32 rfl (lv_at hl 0 rfl) ?_
    refine va_get (D := (dC, dI)) (ci := 9) (v := .ref (ad 42)) (C := RX9) (T := TX9) (N := 67) hx hb hts hiX9 hown hK hP 0 rfl rfl 42 (by decide) v_15 (fun _ h9 => h9) rfl dX9_comes_33 ?_
    refine lv_iload_n hx hb dX9_comes_36 rfl (lv_at hl 1 rfl) ?_
    refine va_iald hx hb hK hP 27 26 rfl rfl (vp_in_nI (n := 1) (Nat.le_of_ble_eq_true rfl) (Nat.le_of_ble_eq_true rfl)) dX9_comes_37 ?_
    refine lv_topi (fun y_17 ey_17 => ?_)
    have qy_17 := ey_17.trans b2_1
    clear ey_17
    obtain rfl : y_17 = nI m42_1 := qy_17
    refine lv_icmp_ge (tgt := 90) hx hb dX9_comes_38 (by decide) (fun c_18 => ?_) (fun c_18 => ?_)
    · have c_18 : m42_1 ≤ g_10 := (nI_leI (a := m42_1) (b := g_10) (Nat.lt_of_le_of_lt hm42_1 (Nat.le_of_ble_eq_true rfl)) (Nat.lt_of_le_of_lt hg_10 (Nat.le_of_ble_eq_true rfl))).mp c_18
      replace hsp := hsp.trans (if_pos c_18)
      have hsp := hout_16 _ hsp
      refine lv_aload_n hx hb dX9_comes_90 rfl (lv_at hl 0 rfl) ?_
      refine va_get (D := (dC, dI)) (ci := 9) (v := .ref (ad 42)) (C := RX9) (T := TX9) (N := 67) hx hb hts hiX9 hown hK hP 0 rfl rfl 42 (by decide) v_15 (fun _ h9 => h9) rfl dX9_comes_91 ?_
      refine lv_iload_n hx hb dX9_comes_94 rfl (lv_at hl 1 rfl) ?_
      refine va_iald hx hb hK hP 27 26 rfl rfl (vp_in_nI (n := 1) (Nat.le_of_ble_eq_true rfl) (Nat.le_of_ble_eq_true rfl)) dX9_comes_95 ?_
      refine lv_topi (fun y_19 ey_19 => ?_)
      have qy_19 := ey_19.trans b2_1
      clear ey_19
      obtain rfl : y_19 = nI m42_1 := qy_19
      refine lv_iload hx hb dX9_comes_96 (lv_at hl 7 rfl) ?_
      refine lv_icmp_eq (tgt := 110) hx hb dX9_comes_98 (by decide) (fun c_20 => ?_) (fun c_20 => ?_)
      · have c_20 : m42_1 = 400 := (nI_eq (a := m42_1) (b := 400) (Nat.lt_of_le_of_lt hm42_1 (Nat.le_of_ble_eq_true rfl)) (Nat.le_of_ble_eq_true rfl)).mp c_20
        replace hsp := hsp.trans (if_pos c_20)
        refine lv_aload_n hx hb dX9_comes_110 rfl (lv_at hl 0 rfl) ?_
        refine va_get (D := (dC, dI)) (ci := 9) (v := .ref (ad 44)) (C := RX9) (T := TX9) (N := 67) hx hb hts hiX9 hown hK hP 0 rfl rfl 44 (by decide) v_16 (fun _ h9 => h9) rfl dX9_comes_111 ?_
        refine lv_iload_n hx hb dX9_comes_114 rfl (lv_at hl 1 rfl) ?_
        refine lv_iconst (v := 1) hx hb dX9_comes_115 (by decide) ?_
        refine va_zast hx hb hK hP hD hS 29 28 rfl rfl (vp_in_nI (n := 1) (Nat.le_of_ble_eq_true rfl) (Nat.le_of_ble_eq_true rfl)) dX9_comes_116 (fun H locs hP hD hS => ?_)
        obtain ⟨f_21, ef_21, xf_21⟩ := up_x f44 (n := 1) (vp_nar .boolean 1) (Nat.le_of_ble_eq_true rfl)
        have hP : va_P (dC, dI) vwCl (mo_w ad ck x0 (nI x16) (nI x18) (nI x19) x20 (nI x21) (nI x22) x23 x24 x25 (nI x26) x27 (nI x28) (nI x29) (nI x30) (nI x33) x45 (nI x46) (nI x52) (nI x53) (nI x61) (nI x62) (nI x63) (nI x65) x66 f1 f2 f3 (bN 3 q4) (bN 7 q5) (bN 7 q6) (bN 4 q7) f8 (bN 2 q9) (bH q10) f11 (b2 m12_0 m12_1) (b2 m13_0 m13_1) (b2 m14_0 m14_1) (b2m m15_0 m15_1) f17 (bA 159 q31) f32 f34 z35_8 f36 f37 (bN 7 q38) f39 f40 f41 (b2 m42_0 m42_1) f43 f_21 f47 f48 f49 f50 f51 (bN 13 q54) (bN 120 q55) (bN 120 q56) f57 (bN 120 q58) f59 f60 f64) H := by rw [← ef_21]; exact hP
        have hD : va_D A (mo_w ad ck x0 (nI x16) (nI x18) (nI x19) x20 (nI x21) (nI x22) x23 x24 x25 (nI x26) x27 (nI x28) (nI x29) (nI x30) (nI x33) x45 (nI x46) (nI x52) (nI x53) (nI x61) (nI x62) (nI x63) (nI x65) x66 f1 f2 f3 (bN 3 q4) (bN 7 q5) (bN 7 q6) (bN 4 q7) f8 (bN 2 q9) (bH q10) f11 (b2 m12_0 m12_1) (b2 m13_0 m13_1) (b2 m14_0 m14_1) (b2m m15_0 m15_1) f17 (bA 159 q31) f32 f34 z35_8 f36 f37 (bN 7 q38) f39 f40 f41 (b2 m42_0 m42_1) f43 f_21 f47 f48 f49 f50 f51 (bN 13 q54) (bN 120 q55) (bN 120 q56) f57 (bN 120 q58) f59 f60 f64) := by rw [← ef_21]; exact hD
        replace hsp := hsp.trans (slet_eq xf_21)
        exact W.vret hx hb hr (fun t ht hW => ⟨⟨(), rfl, trivial, ⟨f34, z35_8, q38, f39, f40, f41, f_21, m42_1, ⟨by rw [ht]; exact hP, va_K.moved hW.alike hK, hD⟩, hm42_1, hgr, by omega, (hsp.symm.trans hRR)⟩⟩, hS.F ht⟩) hS.2.2 dX9_comes_117
      · have c_20 : ¬ m42_1 = 400 := fun z => c_20 ((nI_eq (a := m42_1) (b := 400) (Nat.lt_of_le_of_lt hm42_1 (Nat.le_of_ble_eq_true rfl)) (Nat.le_of_ble_eq_true rfl)).mpr z)
        replace hsp := hsp.trans (if_neg c_20)
        refine lv_aload_n hx hb dX9_comes_101 rfl (lv_at hl 0 rfl) ?_
        refine va_get (D := (dC, dI)) (ci := 9) (v := .ref (ad 44)) (C := RX9) (T := TX9) (N := 67) hx hb hts hiX9 hown hK hP 0 rfl rfl 44 (by decide) v_16 (fun _ h9 => h9) rfl dX9_comes_102 ?_
        refine lv_iload_n hx hb dX9_comes_105 rfl (lv_at hl 1 rfl) ?_
        refine va_zald hx hb hK hP 29 28 rfl rfl (vp_in_nI (n := 1) (Nat.le_of_ble_eq_true rfl) (Nat.le_of_ble_eq_true rfl)) dX9_comes_106 ?_
        refine lv_topi (fun y_22 ey_22 => ?_)
        have ey_22 : y_22 = f44 1 := ey_22.trans (congrArg f44 (nI_clamp (n := 1) (Nat.le_of_ble_eq_true rfl)))
        replace hsp := hsp.trans (slet_eq ey_22)
        refine lv_if_eq (tgt := 118) hx hb dX9_comes_107 (by decide) (fun c_23 => ?_) (fun c_23 => ?_)
        · have hcc_23 := c_23
          replace hsp := hsp.trans (if_pos c_23)
          refine lv_iload_n hx hb dX9_comes_118 rfl (lv_at hl 1 rfl) ?_
          refine lv_aload_n hx hb dX9_comes_119 rfl (lv_at hl 0 rfl) ?_
          refine va_get (D := (dC, dI)) (ci := 9) (v := .ref (ad 42)) (C := RX9) (T := TX9) (N := 67) hx hb hts hiX9 hown hK hP 0 rfl rfl 42 (by decide) v_15 (fun _ h9 => h9) rfl dX9_comes_120 ?_
          refine lv_iload_n hx hb dX9_comes_123 rfl (lv_at hl 1 rfl) ?_
          refine va_iald hx hb hK hP 27 26 rfl rfl (vp_in_nI (n := 1) (Nat.le_of_ble_eq_true rfl) (Nat.le_of_ble_eq_true rfl)) dX9_comes_124 ?_
          refine lv_topi (fun y_24 ey_24 => ?_)
          have qy_24 := ey_24.trans b2_1
          clear ey_24
          obtain rfl : y_24 = nI m42_1 := qy_24
          refine va_calli (va_runS (As := [.int 1, .int (nI m42_1)]) (rest := []) ⟨hx, hb, hml, hown, hts⟩ (c_EM_spotOf_1 l dC dI _ ad ck x0 x16 x18 x19 x20 x21 x22 x23 x24 x25 x26 x27 x28 x29 x30 x33 x45 x46 x52 x53 x61 x62 x63 x65 x66 f1 f2 f3 q4 q5 q6 q7 f8 q9 q10 f11 m12_0 m12_1 m13_0 m13_1 m14_0 m14_1 m15_0 m15_1 f17 q31 f32 f34 z35_8 f36 f37 q38 f39 f40 f41 m42_0 m42_1 f43 f44 f47 f48 f49 f50 f51 q54 q55 q56 f57 q58 f59 f60 f64 m42_1 hx16 hx18 hx19 hx21 hx22 hx26 hx28 hx29 hx30 hx33 hx46 hx52 hx53 hx61 hx62 hx63 hx65 hm12_0 hm12_1 hm13_0 hm13_1 hm14_0 hm14_1 hm15_0 hm15_1 hm42_0 hm42_1 (by omega)) (va_cwS 2 hts g_EM_comes_1_400_0_EM_spotOf_1 rfl rfl rfl (by decide +kernel) ⟨Nat.le_of_ble_eq_true rfl, Nat.le_of_ble_eq_true rfl⟩) ⟨pu_bl, pu_in hP hK hD⟩ rfl rfl hl.1 rfl (lv_room (Nat.le_of_ble_eq_true rfl)) dX9_comes_125 ⟨Nat.le_of_ble_eq_true rfl, Nat.le_of_ble_eq_true rfl⟩) hS (fun q _ h => pu_fr hS hA q h) (pu_fr hS hA) (fun r_25 u t H1 locs ht hvm hw hB hz1 hk1 hS => ?_)
          have hP := pu_keep hP hk1
          clear hk1 hz1 ht hvm
          generalize H1 = H at hP hS ⊢
          obtain rfl : r_25 = nI (120 + m42_1) := hw
          refine lv_istore (lv' := [(8, .int (nI (120 + m42_1))), (0, .ref (ad 0)), (1, .int 1), (2, .int (nI a1)), (3, .int (-1)), (4, .int (-1)), (5, .int p4), (6, .int (nI a5)), (7, .int 400)]) hx hb dX9_comes_128 hl (by decide) rfl (fun ls hl => ?_)
          refine lv_aload_n hx hb dX9_comes_130 rfl (lv_at hl 1 rfl) ?_
          refine va_get (D := (dC, dI)) (ci := 9) (v := .ref (ad 35)) (C := RX9) (T := TX9) (N := 67) hx hb hts hiX9 hown hK hP 0 rfl rfl 35 (by decide) v_6 (fun _ h9 => h9) rfl dX9_comes_131 ?_
          refine lv_iconst (v := 0) hx hb dX9_comes_134 (by decide) ?_
          refine lv_aload_n hx hb dX9_comes_135 rfl (lv_at hl 1 rfl) ?_
          refine va_get (D := (dC, dI)) (ci := 9) (v := .ref (ad 34)) (C := RX9) (T := TX9) (N := 67) hx hb hts hiX9 hown hK hP 0 rfl rfl 34 (by decide) v_20 (fun _ h9 => h9) rfl dX9_comes_136 ?_
          refine lv_bipush (v := 25) hx hb dX9_comes_139 (by decide) ?_
          refine lv_iload hx hb dX9_comes_141 (lv_at hl 0 rfl) ?_
          refine lv_imul hx hb dX9_comes_143 ?_
          refine lv_topi (fun y_26 ey_26 => ?_)
          obtain rfl : y_26 = (nI (25 * (120 + m42_1))) := ey_26.trans (pk_mul 25 (120 + m42_1))
          have hFc := pu_free hD hS hA
          refine va_callv (va_runS (As := [.ref (ad 35), .int 0, .ref (ad 34), .int (nI (25 * (120 + m42_1)))]) (rest := []) ⟨hx, hb, hml, hown, hts⟩ (c_EM_copies_zn l dC dI _ ad ck x0 x16 x18 x19 x20 x21 x22 x23 x24 x25 x26 x27 x28 x29 x30 x33 x45 x46 x52 x53 x61 x62 x63 x65 x66 f1 f2 f3 q4 q5 q6 q7 f8 q9 q10 f11 m12_0 m12_1 m13_0 m13_1 m14_0 m14_1 m15_0 m15_1 f17 q31 f32 f34 z35_8 f36 f37 q38 f39 f40 f41 m42_0 m42_1 f43 f44 f47 f48 f49 f50 f51 q54 q55 q56 f57 q58 f59 f60 f64 (25 * (120 + m42_1)) hx16 hx18 hx19 hx21 hx22 hx26 hx28 hx29 hx30 hx33 hx46 hx52 hx53 hx61 hx62 hx63 hx65 hm12_0 hm12_1 hm13_0 hm13_1 hm14_0 hm14_1 hm15_0 hm15_1 hm42_0 hm42_1 (by omega)) (va_cwS 4 hts g_EM_comes_1_400_0_EM_copies_zn rfl rfl rfl (by decide +kernel) ⟨Nat.le_of_ble_eq_true rfl, Nat.le_of_ble_eq_true rfl⟩) ⟨pu_bl, pu_in hP hK hD⟩ rfl rfl hl.1 rfl (lv_room (Nat.le_of_ble_eq_true rfl)) dX9_comes_144 ⟨Nat.le_of_ble_eq_true rfl, Nat.le_of_ble_eq_true rfl⟩) hS (fun q _ h => hFc q h) hFc (fun u t H1 locs ht hvm hw hB hz1 hk1 hS => ?_)
          obtain ⟨z34_28, ⟨hP1, -, hD1⟩, xr_27_0⟩ := hB
          rw [ht] at hP1
          have hP := hP1
          have hD := pu_all hFc hD1
          clear hP1 hD1 hFc
          clear hk1 hz1 ht hvm
          generalize H1 = H at hP hS ⊢
          replace hsp := hsp.trans (slet_eq xr_27_0)
          refine lv_aload_n hx hb dX9_comes_147 rfl (lv_at hl 1 rfl) ?_
          refine va_get (D := (dC, dI)) (ci := 9) (v := .ref (ad 38)) (C := RX9) (T := TX9) (N := 67) hx hb hts hiX9 hown hK hP 0 rfl rfl 38 (by decide) v_24 (fun _ h9 => h9) rfl dX9_comes_148 ?_
          refine lv_iload hx hb dX9_comes_151 (lv_at hl 0 rfl) ?_
          refine lv_iload_n hx hb dX9_comes_153 rfl (lv_at hl 3 rfl) ?_
          refine va_iast hx hb hK hP hD hS 23 22 rfl rfl (vp_in_nI (n := (120 + m42_1)) (by omega) (Nat.le_of_ble_eq_true rfl)) dX9_comes_154 (fun H locs hP hD hS => ?_)
          obtain ⟨q_29, eq_29, kq_29, oq_29, xq_29⟩ := bN_upx 7 q38 (n := (120 + m42_1)) (v := a1) (by omega) ha1
          have hP : va_P (dC, dI) vwCl (mo_w ad ck x0 (nI x16) (nI x18) (nI x19) x20 (nI x21) (nI x22) x23 x24 x25 (nI x26) x27 (nI x28) (nI x29) (nI x30) (nI x33) x45 (nI x46) (nI x52) (nI x53) (nI x61) (nI x62) (nI x63) (nI x65) x66 f1 f2 f3 (bN 3 q4) (bN 7 q5) (bN 7 q6) (bN 4 q7) f8 (bN 2 q9) (bH q10) f11 (b2 m12_0 m12_1) (b2 m13_0 m13_1) (b2 m14_0 m14_1) (b2m m15_0 m15_1) f17 (bA 159 q31) f32 z34_28 z35_8 f36 f37 (bN 7 q_29) f39 f40 f41 (b2 m42_0 m42_1) f43 f44 f47 f48 f49 f50 f51 (bN 13 q54) (bN 120 q55) (bN 120 q56) f57 (bN 120 q58) f59 f60 f64) H := by rw [← eq_29]; exact hP
          have hD : va_D A (mo_w ad ck x0 (nI x16) (nI x18) (nI x19) x20 (nI x21) (nI x22) x23 x24 x25 (nI x26) x27 (nI x28) (nI x29) (nI x30) (nI x33) x45 (nI x46) (nI x52) (nI x53) (nI x61) (nI x62) (nI x63) (nI x65) x66 f1 f2 f3 (bN 3 q4) (bN 7 q5) (bN 7 q6) (bN 4 q7) f8 (bN 2 q9) (bH q10) f11 (b2 m12_0 m12_1) (b2 m13_0 m13_1) (b2 m14_0 m14_1) (b2m m15_0 m15_1) f17 (bA 159 q31) f32 z34_28 z35_8 f36 f37 (bN 7 q_29) f39 f40 f41 (b2 m42_0 m42_1) f43 f44 f47 f48 f49 f50 f51 (bN 13 q54) (bN 120 q55) (bN 120 q56) f57 (bN 120 q58) f59 f60 f64) := by rw [← eq_29]; exact hD
          replace hsp := hsp.trans (slet_eq xq_29)
          refine lv_aload_n hx hb dX9_comes_155 rfl (lv_at hl 1 rfl) ?_
          refine va_get (D := (dC, dI)) (ci := 9) (v := .ref (ad 39)) (C := RX9) (T := TX9) (N := 67) hx hb hts hiX9 hown hK hP 0 rfl rfl 39 (by decide) v_25 (fun _ h9 => h9) rfl dX9_comes_156 ?_
          refine lv_iload hx hb dX9_comes_159 (lv_at hl 0 rfl) ?_
          refine lv_iload_n hx hb dX9_comes_161 rfl (lv_at hl 4 rfl) ?_
          refine va_iast hx hb hK hP hD hS 24 23 rfl rfl (vp_in_nI (n := (120 + m42_1)) (by omega) (Nat.le_of_ble_eq_true rfl)) dX9_comes_162 (fun H locs hP hD hS => ?_)
          obtain ⟨f_30, ef_30, xf_30⟩ := up_x f39 (n := (120 + m42_1)) (-1) (by omega)
          have hP : va_P (dC, dI) vwCl (mo_w ad ck x0 (nI x16) (nI x18) (nI x19) x20 (nI x21) (nI x22) x23 x24 x25 (nI x26) x27 (nI x28) (nI x29) (nI x30) (nI x33) x45 (nI x46) (nI x52) (nI x53) (nI x61) (nI x62) (nI x63) (nI x65) x66 f1 f2 f3 (bN 3 q4) (bN 7 q5) (bN 7 q6) (bN 4 q7) f8 (bN 2 q9) (bH q10) f11 (b2 m12_0 m12_1) (b2 m13_0 m13_1) (b2 m14_0 m14_1) (b2m m15_0 m15_1) f17 (bA 159 q31) f32 z34_28 z35_8 f36 f37 (bN 7 q_29) f_30 f40 f41 (b2 m42_0 m42_1) f43 f44 f47 f48 f49 f50 f51 (bN 13 q54) (bN 120 q55) (bN 120 q56) f57 (bN 120 q58) f59 f60 f64) H := by rw [← ef_30]; exact hP
          have hD : va_D A (mo_w ad ck x0 (nI x16) (nI x18) (nI x19) x20 (nI x21) (nI x22) x23 x24 x25 (nI x26) x27 (nI x28) (nI x29) (nI x30) (nI x33) x45 (nI x46) (nI x52) (nI x53) (nI x61) (nI x62) (nI x63) (nI x65) x66 f1 f2 f3 (bN 3 q4) (bN 7 q5) (bN 7 q6) (bN 4 q7) f8 (bN 2 q9) (bH q10) f11 (b2 m12_0 m12_1) (b2 m13_0 m13_1) (b2 m14_0 m14_1) (b2m m15_0 m15_1) f17 (bA 159 q31) f32 z34_28 z35_8 f36 f37 (bN 7 q_29) f_30 f40 f41 (b2 m42_0 m42_1) f43 f44 f47 f48 f49 f50 f51 (bN 13 q54) (bN 120 q55) (bN 120 q56) f57 (bN 120 q58) f59 f60 f64) := by rw [← ef_30]; exact hD
          replace hsp := hsp.trans (slet_eq xf_30)
          refine lv_aload_n hx hb dX9_comes_163 rfl (lv_at hl 1 rfl) ?_
          refine va_get (D := (dC, dI)) (ci := 9) (v := .ref (ad 40)) (C := RX9) (T := TX9) (N := 67) hx hb hts hiX9 hown hK hP 0 rfl rfl 40 (by decide) v_26 (fun _ h9 => h9) rfl dX9_comes_164 ?_
          refine lv_iload hx hb dX9_comes_167 (lv_at hl 0 rfl) ?_
          refine lv_iload hx hb dX9_comes_169 (lv_at hl 5 rfl) ?_
          refine va_iast hx hb hK hP hD hS 25 24 rfl rfl (vp_in_nI (n := (120 + m42_1)) (by omega) (Nat.le_of_ble_eq_true rfl)) dX9_comes_171 (fun H locs hP hD hS => ?_)
          obtain ⟨f_31, ef_31, xf_31⟩ := up_x f40 (n := (120 + m42_1)) (-1) (by omega)
          have hP : va_P (dC, dI) vwCl (mo_w ad ck x0 (nI x16) (nI x18) (nI x19) x20 (nI x21) (nI x22) x23 x24 x25 (nI x26) x27 (nI x28) (nI x29) (nI x30) (nI x33) x45 (nI x46) (nI x52) (nI x53) (nI x61) (nI x62) (nI x63) (nI x65) x66 f1 f2 f3 (bN 3 q4) (bN 7 q5) (bN 7 q6) (bN 4 q7) f8 (bN 2 q9) (bH q10) f11 (b2 m12_0 m12_1) (b2 m13_0 m13_1) (b2 m14_0 m14_1) (b2m m15_0 m15_1) f17 (bA 159 q31) f32 z34_28 z35_8 f36 f37 (bN 7 q_29) f_30 f_31 f41 (b2 m42_0 m42_1) f43 f44 f47 f48 f49 f50 f51 (bN 13 q54) (bN 120 q55) (bN 120 q56) f57 (bN 120 q58) f59 f60 f64) H := by rw [← ef_31]; exact hP
          have hD : va_D A (mo_w ad ck x0 (nI x16) (nI x18) (nI x19) x20 (nI x21) (nI x22) x23 x24 x25 (nI x26) x27 (nI x28) (nI x29) (nI x30) (nI x33) x45 (nI x46) (nI x52) (nI x53) (nI x61) (nI x62) (nI x63) (nI x65) x66 f1 f2 f3 (bN 3 q4) (bN 7 q5) (bN 7 q6) (bN 4 q7) f8 (bN 2 q9) (bH q10) f11 (b2 m12_0 m12_1) (b2 m13_0 m13_1) (b2 m14_0 m14_1) (b2m m15_0 m15_1) f17 (bA 159 q31) f32 z34_28 z35_8 f36 f37 (bN 7 q_29) f_30 f_31 f41 (b2 m42_0 m42_1) f43 f44 f47 f48 f49 f50 f51 (bN 13 q54) (bN 120 q55) (bN 120 q56) f57 (bN 120 q58) f59 f60 f64) := by rw [← ef_31]; exact hD
          replace hsp := hsp.trans (slet_eq xf_31)
          refine lv_aload_n hx hb dX9_comes_172 rfl (lv_at hl 1 rfl) ?_
          refine va_get (D := (dC, dI)) (ci := 9) (v := .ref (ad 41)) (C := RX9) (T := TX9) (N := 67) hx hb hts hiX9 hown hK hP 0 rfl rfl 41 (by decide) v_27 (fun _ h9 => h9) rfl dX9_comes_173 ?_
          refine lv_iload hx hb dX9_comes_176 (lv_at hl 0 rfl) ?_
          refine lv_iload_n hx hb dX9_comes_178 rfl (lv_at hl 4 rfl) ?_
          refine lv_iconst (v := (-1)) hx hb dX9_comes_179 (by decide) ?_
          refine lv_icmp_ne (tgt := 187) hx hb dX9_comes_180 (by decide) (fun z => absurd z (by decide)) (fun _ => ?_)
          refine lv_iconst (v := 0) hx hb dX9_comes_183 (by decide) ?_
          refine lv_goto (tgt := 199) hx hb dX9_comes_184 (by decide) ?_
          refine va_iast hx hb hK hP hD hS 26 25 rfl rfl (vp_in_nI (n := (120 + m42_1)) (by omega) (Nat.le_of_ble_eq_true rfl)) dX9_comes_199 (fun H locs hP hD hS => ?_)
          obtain ⟨f_32, ef_32, xf_32⟩ := up_x f41 (n := (120 + m42_1)) 0 (by omega)
          have hP : va_P (dC, dI) vwCl (mo_w ad ck x0 (nI x16) (nI x18) (nI x19) x20 (nI x21) (nI x22) x23 x24 x25 (nI x26) x27 (nI x28) (nI x29) (nI x30) (nI x33) x45 (nI x46) (nI x52) (nI x53) (nI x61) (nI x62) (nI x63) (nI x65) x66 f1 f2 f3 (bN 3 q4) (bN 7 q5) (bN 7 q6) (bN 4 q7) f8 (bN 2 q9) (bH q10) f11 (b2 m12_0 m12_1) (b2 m13_0 m13_1) (b2 m14_0 m14_1) (b2m m15_0 m15_1) f17 (bA 159 q31) f32 z34_28 z35_8 f36 f37 (bN 7 q_29) f_30 f_31 f_32 (b2 m42_0 m42_1) f43 f44 f47 f48 f49 f50 f51 (bN 13 q54) (bN 120 q55) (bN 120 q56) f57 (bN 120 q58) f59 f60 f64) H := by rw [← ef_32]; exact hP
          have hD : va_D A (mo_w ad ck x0 (nI x16) (nI x18) (nI x19) x20 (nI x21) (nI x22) x23 x24 x25 (nI x26) x27 (nI x28) (nI x29) (nI x30) (nI x33) x45 (nI x46) (nI x52) (nI x53) (nI x61) (nI x62) (nI x63) (nI x65) x66 f1 f2 f3 (bN 3 q4) (bN 7 q5) (bN 7 q6) (bN 4 q7) f8 (bN 2 q9) (bH q10) f11 (b2 m12_0 m12_1) (b2 m13_0 m13_1) (b2 m14_0 m14_1) (b2m m15_0 m15_1) f17 (bA 159 q31) f32 z34_28 z35_8 f36 f37 (bN 7 q_29) f_30 f_31 f_32 (b2 m42_0 m42_1) f43 f44 f47 f48 f49 f50 f51 (bN 13 q54) (bN 120 q55) (bN 120 q56) f57 (bN 120 q58) f59 f60 f64) := by rw [← ef_32]; exact hD
          replace hsp := hsp.trans (slet_eq xf_32)
          refine lv_aload_n hx hb dX9_comes_200 rfl (lv_at hl 1 rfl) ?_
          refine va_get (D := (dC, dI)) (ci := 9) (v := .ref (ad 42)) (C := RX9) (T := TX9) (N := 67) hx hb hts hiX9 hown hK hP 0 rfl rfl 42 (by decide) v_15 (fun _ h9 => h9) rfl dX9_comes_201 ?_
          refine lv_iload_n hx hb dX9_comes_204 rfl (lv_at hl 2 rfl) ?_
          refine lv_dup2_11 hx hb dX9_comes_205 rfl rfl ?_
          refine va_iald hx hb hK hP 27 26 rfl rfl (vp_in_nI (n := 1) (Nat.le_of_ble_eq_true rfl) (Nat.le_of_ble_eq_true rfl)) dX9_comes_206 ?_
          refine lv_topi (fun y_33 ey_33 => ?_)
          have qy_33 := ey_33.trans b2_1
          clear ey_33
          obtain rfl : y_33 = nI m42_1 := qy_33
          refine lv_iconst (v := 1) hx hb dX9_comes_207 (by decide) ?_
          refine lv_iadd hx hb dX9_comes_208 ?_
          refine lv_topi (fun y_34 ey_34 => ?_)
          obtain rfl : y_34 = (nI (m42_1 + 1)) := ey_34.trans (nI_add m42_1 1)
          refine va_iast hx hb hK hP hD hS 27 26 rfl rfl (vp_in_nI (n := 1) (Nat.le_of_ble_eq_true rfl) (Nat.le_of_ble_eq_true rfl)) dX9_comes_209 (fun H locs hP hD hS => ?_)
          have hP : va_P (dC, dI) vwCl (mo_w ad ck x0 (nI x16) (nI x18) (nI x19) x20 (nI x21) (nI x22) x23 x24 x25 (nI x26) x27 (nI x28) (nI x29) (nI x30) (nI x33) x45 (nI x46) (nI x52) (nI x53) (nI x61) (nI x62) (nI x63) (nI x65) x66 f1 f2 f3 (bN 3 q4) (bN 7 q5) (bN 7 q6) (bN 4 q7) f8 (bN 2 q9) (bH q10) f11 (b2 m12_0 m12_1) (b2 m13_0 m13_1) (b2 m14_0 m14_1) (b2m m15_0 m15_1) f17 (bA 159 q31) f32 z34_28 z35_8 f36 f37 (bN 7 q_29) f_30 f_31 f_32 (b2 m42_0 (m42_1 + 1)) f43 f44 f47 f48 f49 f50 f51 (bN 13 q54) (bN 120 q55) (bN 120 q56) f57 (bN 120 q58) f59 f60 f64) H := by rw [← b2_up1 (a := m42_0) (b := m42_1) (v := (m42_1 + 1))]; exact hP
          have hD : va_D A (mo_w ad ck x0 (nI x16) (nI x18) (nI x19) x20 (nI x21) (nI x22) x23 x24 x25 (nI x26) x27 (nI x28) (nI x29) (nI x30) (nI x33) x45 (nI x46) (nI x52) (nI x53) (nI x61) (nI x62) (nI x63) (nI x65) x66 f1 f2 f3 (bN 3 q4) (bN 7 q5) (bN 7 q6) (bN 4 q7) f8 (bN 2 q9) (bH q10) f11 (b2 m12_0 m12_1) (b2 m13_0 m13_1) (b2 m14_0 m14_1) (b2m m15_0 m15_1) f17 (bA 159 q31) f32 z34_28 z35_8 f36 f37 (bN 7 q_29) f_30 f_31 f_32 (b2 m42_0 (m42_1 + 1)) f43 f44 f47 f48 f49 f50 f51 (bN 13 q54) (bN 120 q55) (bN 120 q56) f57 (bN 120 q58) f59 f60 f64) := by rw [← b2_up1 (a := m42_0) (b := m42_1) (v := (m42_1 + 1))]; exact hD
          exact W.vret hx hb hr (fun t ht hW => ⟨⟨(), rfl, trivial, ⟨z34_28, z35_8, q_29, f_30, f_31, f_32, f44, (m42_1 + 1), ⟨by rw [ht]; exact hP, va_K.moved hW.alike hK, hD⟩, (by omega), by simp only [xf_30, xf_31, xf_32]; exact gz_far hgr (by omega), by omega, (hsp.symm.trans hRR)⟩⟩, hS.F ht⟩) hS.2.2 dX9_comes_210
        · have hcc_23 := c_23
          replace hsp := hsp.trans (if_neg c_23)
          refine lv_aload_n hx hb dX9_comes_110 rfl (lv_at hl 0 rfl) ?_
          refine va_get (D := (dC, dI)) (ci := 9) (v := .ref (ad 44)) (C := RX9) (T := TX9) (N := 67) hx hb hts hiX9 hown hK hP 0 rfl rfl 44 (by decide) v_16 (fun _ h9 => h9) rfl dX9_comes_111 ?_
          refine lv_iload_n hx hb dX9_comes_114 rfl (lv_at hl 1 rfl) ?_
          refine lv_iconst (v := 1) hx hb dX9_comes_115 (by decide) ?_
          refine va_zast hx hb hK hP hD hS 29 28 rfl rfl (vp_in_nI (n := 1) (Nat.le_of_ble_eq_true rfl) (Nat.le_of_ble_eq_true rfl)) dX9_comes_116 (fun H locs hP hD hS => ?_)
          obtain ⟨f_35, ef_35, xf_35⟩ := up_x f44 (n := 1) (vp_nar .boolean 1) (Nat.le_of_ble_eq_true rfl)
          have hP : va_P (dC, dI) vwCl (mo_w ad ck x0 (nI x16) (nI x18) (nI x19) x20 (nI x21) (nI x22) x23 x24 x25 (nI x26) x27 (nI x28) (nI x29) (nI x30) (nI x33) x45 (nI x46) (nI x52) (nI x53) (nI x61) (nI x62) (nI x63) (nI x65) x66 f1 f2 f3 (bN 3 q4) (bN 7 q5) (bN 7 q6) (bN 4 q7) f8 (bN 2 q9) (bH q10) f11 (b2 m12_0 m12_1) (b2 m13_0 m13_1) (b2 m14_0 m14_1) (b2m m15_0 m15_1) f17 (bA 159 q31) f32 f34 z35_8 f36 f37 (bN 7 q38) f39 f40 f41 (b2 m42_0 m42_1) f43 f_35 f47 f48 f49 f50 f51 (bN 13 q54) (bN 120 q55) (bN 120 q56) f57 (bN 120 q58) f59 f60 f64) H := by rw [← ef_35]; exact hP
          have hD : va_D A (mo_w ad ck x0 (nI x16) (nI x18) (nI x19) x20 (nI x21) (nI x22) x23 x24 x25 (nI x26) x27 (nI x28) (nI x29) (nI x30) (nI x33) x45 (nI x46) (nI x52) (nI x53) (nI x61) (nI x62) (nI x63) (nI x65) x66 f1 f2 f3 (bN 3 q4) (bN 7 q5) (bN 7 q6) (bN 4 q7) f8 (bN 2 q9) (bH q10) f11 (b2 m12_0 m12_1) (b2 m13_0 m13_1) (b2 m14_0 m14_1) (b2m m15_0 m15_1) f17 (bA 159 q31) f32 f34 z35_8 f36 f37 (bN 7 q38) f39 f40 f41 (b2 m42_0 m42_1) f43 f_35 f47 f48 f49 f50 f51 (bN 13 q54) (bN 120 q55) (bN 120 q56) f57 (bN 120 q58) f59 f60 f64) := by rw [← ef_35]; exact hD
          replace hsp := hsp.trans (slet_eq xf_35)
          exact W.vret hx hb hr (fun t ht hW => ⟨⟨(), rfl, trivial, ⟨f34, z35_8, q38, f39, f40, f41, f_35, m42_1, ⟨by rw [ht]; exact hP, va_K.moved hW.alike hK, hD⟩, hm42_1, hgr, by omega, (hsp.symm.trans hRR)⟩⟩, hS.F ht⟩) hS.2.2 dX9_comes_117
    · have c_18 : ¬ m42_1 ≤ g_10 := fun z => c_18 ((nI_leI (a := m42_1) (b := g_10) (Nat.lt_of_le_of_lt hm42_1 (Nat.le_of_ble_eq_true rfl)) (Nat.lt_of_le_of_lt hg_10 (Nat.le_of_ble_eq_true rfl))).mpr z)
      replace hsp := hsp.trans (if_neg c_18)
      refine lv_iload_n hx hb dX9_comes_41 rfl (lv_at hl 1 rfl) ?_
      refine lv_iload hx hb dX9_comes_42 (lv_at hl 8 rfl) ?_
      refine va_calli (va_runS (As := [.int 1, .int (nI g_10)]) (rest := []) ⟨hx, hb, hml, hown, hts⟩ (c_EM_spotOf_1 l dC dI _ ad ck x0 x16 x18 x19 x20 x21 x22 x23 x24 x25 x26 x27 x28 x29 x30 x33 x45 x46 x52 x53 x61 x62 x63 x65 x66 f1 f2 f3 q4 q5 q6 q7 f8 q9 q10 f11 m12_0 m12_1 m13_0 m13_1 m14_0 m14_1 m15_0 m15_1 f17 q31 f32 f34 z35_8 f36 f37 q38 f39 f40 f41 m42_0 m42_1 f43 f44 f47 f48 f49 f50 f51 q54 q55 q56 f57 q58 f59 f60 f64 g_10 hx16 hx18 hx19 hx21 hx22 hx26 hx28 hx29 hx30 hx33 hx46 hx52 hx53 hx61 hx62 hx63 hx65 hm12_0 hm12_1 hm13_0 hm13_1 hm14_0 hm14_1 hm15_0 hm15_1 hm42_0 hm42_1 (by omega)) (va_cwS 2 hts g_EM_comes_1_400_0_EM_spotOf_1 rfl rfl rfl (by decide +kernel) ⟨Nat.le_of_ble_eq_true rfl, Nat.le_of_ble_eq_true rfl⟩) ⟨pu_bl, pu_in hP hK hD⟩ rfl rfl hl.1 rfl (lv_room (Nat.le_of_ble_eq_true rfl)) dX9_comes_44 ⟨Nat.le_of_ble_eq_true rfl, Nat.le_of_ble_eq_true rfl⟩) hS (fun q _ h => pu_fr hS hA q h) (pu_fr hS hA) (fun r_36 u t H1 locs ht hvm hw hB hz1 hk1 hS => ?_)
      have hP := pu_keep hP hk1
      clear hk1 hz1 ht hvm
      generalize H1 = H at hP hS ⊢
      obtain rfl : r_36 = nI (120 + g_10) := hw
      refine lv_istore (lv' := [(9, .int (nI (120 + g_10))), (0, .ref (ad 0)), (1, .int 1), (2, .int (nI a1)), (3, .int (-1)), (4, .int (-1)), (5, .int p4), (6, .int (nI a5)), (7, .int 400), (8, .int (nI g_10))]) hx hb dX9_comes_47 hl (by decide) rfl (fun ls hl => ?_)
      refine lv_aload_n hx hb dX9_comes_49 rfl (lv_at hl 1 rfl) ?_
      refine va_get (D := (dC, dI)) (ci := 9) (v := .ref (ad 38)) (C := RX9) (T := TX9) (N := 67) hx hb hts hiX9 hown hK hP 0 rfl rfl 38 (by decide) v_24 (fun _ h9 => h9) rfl dX9_comes_50 ?_
      refine lv_iload hx hb dX9_comes_53 (lv_at hl 0 rfl) ?_
      refine va_iald hx hb hK hP 23 22 rfl rfl (vp_in_nI (n := (120 + g_10)) (by omega) (Nat.le_of_ble_eq_true rfl)) dX9_comes_55 ?_
      refine lv_topi (fun y_37 ey_37 => ?_)
      obtain ⟨u_38, hu_38, qu_38, xu_38⟩ := bN_getx 7 q38 (n := (120 + g_10)) (by omega)
      obtain rfl : y_37 = nI u_38 := ey_37.trans qu_38
      replace hsp := hsp.trans (slet_eq xu_38)
      refine lv_iload_n hx hb dX9_comes_56 rfl (lv_at hl 3 rfl) ?_
      refine lv_icmp_ne (tgt := 84) hx hb dX9_comes_57 (by decide) (fun c_39 => ?_) (fun c_39 => ?_)
      · have c_39 : ¬ u_38 = a1 := fun z => c_39 ((nI_eq (a := u_38) (b := a1) (Nat.lt_of_le_of_lt hu_38 (Nat.le_of_ble_eq_true rfl)) (Nat.lt_of_le_of_lt ha1 (Nat.le_of_ble_eq_true rfl))).mpr z)
        replace hsp := hsp.trans (if_neg c_39)
        refine lv_iinc (v := (nI (g_10 + 1))) (lv' := [(8, .int (nI (g_10 + 1))), (9, .int (nI (120 + g_10))), (0, .ref (ad 0)), (1, .int 1), (2, .int (nI a1)), (3, .int (-1)), (4, .int (-1)), (5, .int p4), (6, .int (nI a5)), (7, .int 400)]) hx hb dX9_comes_84 hl (k := 9) rfl (nI_1 _) (by decide) rfl (fun ls hl => ?_)
        refine lv_goto (tgt := 30) hx hb dX9_comes_87 (by decide) ?_
        exact ih_11 (400 - (g_10 + 1)) (by omega) _ _ _ ⟨(g_10 + 1), rfl, (by omega), hin_15 _ hsp, hP, hD, hS, lv_sub hl [2, 3, 4, 5, 6, 7, 8, 9, 0] rfl⟩
      · have c_39 : u_38 = a1 := (nI_eq (a := u_38) (b := a1) (Nat.lt_of_le_of_lt hu_38 (Nat.le_of_ble_eq_true rfl)) (Nat.lt_of_le_of_lt ha1 (Nat.le_of_ble_eq_true rfl))).mp c_39
        replace hsp := hsp.trans (if_pos c_39)
        refine lv_aload_n hx hb dX9_comes_60 rfl (lv_at hl 1 rfl) ?_
        refine lv_iload hx hb dX9_comes_61 (lv_at hl 0 rfl) ?_
        refine lv_aload_n hx hb dX9_comes_63 rfl (lv_at hl 1 rfl) ?_
        refine va_get (D := (dC, dI)) (ci := 9) (v := .ref (ad 35)) (C := RX9) (T := TX9) (N := 67) hx hb hts hiX9 hown hK hP 0 rfl rfl 35 (by decide) v_6 (fun _ h9 => h9) rfl dX9_comes_64 ?_
        refine lv_iload hx hb dX9_comes_67 (lv_at hl 7 rfl) ?_
        obtain ⟨JR_42, hJR_42, hsp⟩ := slet_ex hsp
        refine pu_join (fun H locs ls st => ∃ (g_40 : Nat), st = [.int (nI g_40), .ref (ad 35), .int (nI (120 + g_10)), .ref (ad 0)] ∧ g_40 ≤ 1 ∧ g_40 = JR_42 ∧ va_P (dC, dI) vwCl (mo_w ad ck x0 (nI x16) (nI x18) (nI x19) x20 (nI x21) (nI x22) x23 x24 x25 (nI x26) x27 (nI x28) (nI x29) (nI x30) (nI x33) x45 (nI x46) (nI x52) (nI x53) (nI x61) (nI x62) (nI x63) (nI x65) x66 f1 f2 f3 (bN 3 q4) (bN 7 q5) (bN 7 q6) (bN 4 q7) f8 (bN 2 q9) (bH q10) f11 (b2 m12_0 m12_1) (b2 m13_0 m13_1) (b2 m14_0 m14_1) (b2m m15_0 m15_1) f17 (bA 159 q31) f32 f34 z35_8 f36 f37 (bN 7 q38) f39 f40 f41 (b2 m42_0 m42_1) f43 f44 f47 f48 f49 f50 f51 (bN 13 q54) (bN 120 q55) (bN 120 q56) f57 (bN 120 q58) f59 f60 f64) H ∧ va_D A (mo_w ad ck x0 (nI x16) (nI x18) (nI x19) x20 (nI x21) (nI x22) x23 x24 x25 (nI x26) x27 (nI x28) (nI x29) (nI x30) (nI x33) x45 (nI x46) (nI x52) (nI x53) (nI x61) (nI x62) (nI x63) (nI x65) x66 f1 f2 f3 (bN 3 q4) (bN 7 q5) (bN 7 q6) (bN 4 q7) f8 (bN 2 q9) (bH q10) f11 (b2 m12_0 m12_1) (b2 m13_0 m13_1) (b2 m14_0 m14_1) (b2m m15_0 m15_1) f17 (bA 159 q31) f32 f34 z35_8 f36 f37 (bN 7 q38) f39 f40 f41 (b2 m42_0 m42_1) f43 f44 f47 f48 f49 f50 f51 (bN 13 q54) (bN 120 q55) (bN 120 q56) f57 (bN 120 q58) f59 f60 f64) ∧ va_S A s.heap H locs ∧ lv_has ls 10 [(0, .ref (ad 0)), (1, .int 1), (2, .int (nI a1)), (3, .int (-1)), (4, .int (-1)), (5, .int p4), (6, .int (nI a5)), (7, .int 400), (8, .int (nI g_10)), (9, .int (nI (120 + g_10)))]) 77 ?_ (fun j_41 => ?_)
        · rintro H locs ls st ⟨g_40, rfl, hg_40, he_43, hP, hD, hS, hl⟩
          rw [← he_43] at hsp
          refine va_calli (va_runV (As := [.int (nI (120 + g_10)), .ref (ad 35), .int (nI g_40)]) (rest := []) ⟨hx, hb, hml, hown, hts⟩ (c_EM_hasAll l dC dI _ ad ck x0 x16 x18 x19 x20 x21 x22 x23 x24 x25 x26 x27 x28 x29 x30 x33 x45 x46 x52 x53 x61 x62 x63 x65 x66 f1 f2 f3 q4 q5 q6 q7 f8 q9 q10 f11 m12_0 m12_1 m13_0 m13_1 m14_0 m14_1 m15_0 m15_1 f17 q31 f32 f34 z35_8 f36 f37 q38 f39 f40 f41 m42_0 m42_1 f43 f44 f47 f48 f49 f50 f51 q54 q55 q56 f57 q58 f59 f60 f64 (120 + g_10) g_40 hx16 hx18 hx19 hx21 hx22 hx26 hx28 hx29 hx30 hx33 hx46 hx52 hx53 hx61 hx62 hx63 hx65 hm12_0 hm12_1 hm13_0 hm13_1 hm14_0 hm14_1 hm15_0 hm15_1 hm42_0 hm42_1 (by omega) hg_40) (cwV 3 hts g_EM_comes_1_400_0_EM_hasAll rfl rfl rfl (by decide +kernel) ⟨Nat.le_of_ble_eq_true rfl, Nat.le_of_ble_eq_true rfl⟩) ⟨pu_bl, va_recv hK hP (ci := 9) (q0 := 0) rfl rfl, pu_in hP hK hD⟩ rfl rfl hl.1 rfl (lv_room (Nat.le_of_ble_eq_true rfl)) dX9_comes_77 ⟨Nat.le_of_ble_eq_true rfl, Nat.le_of_ble_eq_true rfl⟩) hS (fun q _ h => pu_fr hS hA q h) (pu_fr hS hA) (fun r_44 u t H1 locs ht hvm hw hB hz1 hk1 hS => ?_)
          have hP := pu_keep hP hk1
          clear hk1 hz1 ht hvm
          generalize H1 = H at hP hS ⊢
          obtain ⟨u_45, hu_45, rfl, iu_45⟩ := hw
          replace hsp := hsp.trans (slet_eq iu_45)
          refine lv_if_eq (tgt := 84) hx hb dX9_comes_80 (by decide) (fun c_46 => ?_) (fun c_46 => ?_)
          · have c_46 : u_45 = 0 := (nI_eq (a := u_45) (b := 0) (Nat.lt_of_le_of_lt hu_45 (Nat.le_of_ble_eq_true rfl)) (Nat.le_of_ble_eq_true rfl)).mp c_46
            replace hsp := hsp.trans (if_pos c_46)
            refine lv_iinc (v := (nI (g_10 + 1))) (lv' := [(8, .int (nI (g_10 + 1))), (0, .ref (ad 0)), (1, .int 1), (2, .int (nI a1)), (3, .int (-1)), (4, .int (-1)), (5, .int p4), (6, .int (nI a5)), (7, .int 400), (9, .int (nI (120 + g_10)))]) hx hb dX9_comes_84 hl (k := 8) rfl (nI_1 _) (by decide) rfl (fun ls hl => ?_)
            refine lv_goto (tgt := 30) hx hb dX9_comes_87 (by decide) ?_
            exact ih_11 (400 - (g_10 + 1)) (by omega) _ _ _ ⟨(g_10 + 1), rfl, (by omega), hin_15 _ hsp, hP, hD, hS, lv_sub hl [1, 2, 3, 4, 5, 6, 7, 8, 0] rfl⟩
          · have c_46 : ¬ u_45 = 0 := fun z => c_46 ((nI_eq (a := u_45) (b := 0) (Nat.lt_of_le_of_lt hu_45 (Nat.le_of_ble_eq_true rfl)) (Nat.le_of_ble_eq_true rfl)).mpr z)
            replace hsp := hsp.trans (if_neg c_46)
            have hsp := hout_16 _ hsp
            exact W.vret hx hb hr (fun t ht hW => ⟨⟨(), rfl, trivial, ⟨f34, z35_8, q38, f39, f40, f41, f44, m42_1, ⟨by rw [ht]; exact hP, va_K.moved hW.alike hK, hD⟩, hm42_1, hgr, by omega, (hsp.symm.trans hRR)⟩⟩, hS.F ht⟩) hS.2.2 dX9_comes_83
        have hsp := hJR_42
        refine lv_if_ne (tgt := 76) hx hb dX9_comes_69 (by decide) (fun c_47 => ?_) (fun c_47 => ?_)
        · have c_47 : ¬ a5 = 0 := fun z => c_47 ((nI_eq (a := a5) (b := 0) (Nat.lt_of_le_of_lt ha5 (Nat.le_of_ble_eq_true rfl)) (Nat.le_of_ble_eq_true rfl)).mpr z)
          replace hsp := hsp.trans (if_neg c_47)
          refine lv_iconst (v := 0) hx hb dX9_comes_76 (by decide) ?_
          exact j_41 _ _ _ _ ⟨0, rfl, (Nat.le_of_ble_eq_true rfl), hsp.symm, hP, hD, hS, lv_sub hl [1, 2, 3, 4, 5, 6, 7, 8, 9, 0] rfl⟩
        · have c_47 : a5 = 0 := (nI_eq (a := a5) (b := 0) (Nat.lt_of_le_of_lt ha5 (Nat.le_of_ble_eq_true rfl)) (Nat.le_of_ble_eq_true rfl)).mp c_47
          replace hsp := hsp.trans (if_pos c_47)
          refine lv_iconst (v := 1) hx hb dX9_comes_72 (by decide) ?_
          refine lv_goto (tgt := 77) hx hb dX9_comes_73 (by decide) ?_
          exact j_41 _ _ _ _ ⟨1, rfl, (Nat.le_of_ble_eq_true rfl), hsp.symm, hP, hD, hS, lv_sub hl [1, 2, 3, 4, 5, 6, 7, 8, 9, 0] rfl⟩
  have hsp := hJR_5
  refine lv_if_ne (tgt := 17) hx hb dX9_comes_5 (by decide) (fun c_48 => ?_) (fun c_48 => ?_)
  · have c_48 : ¬ u_2 = 0 := fun z => c_48 ((nI_eq (a := u_2) (b := 0) (Nat.lt_of_le_of_lt hu_2 (Nat.le_of_ble_eq_true rfl)) (Nat.le_of_ble_eq_true rfl)).mpr z)
    replace hsp := hsp.trans (if_neg c_48)
    exact j_4 _ _ _ _ ⟨f35, rfl, hsp.symm, hP, hD, hS, lv_sub hl [0, 1, 2, 3, 4, 5, 6, 7] rfl⟩
  · have c_48 : u_2 = 0 := (nI_eq (a := u_2) (b := 0) (Nat.lt_of_le_of_lt hu_2 (Nat.le_of_ble_eq_true rfl)) (Nat.le_of_ble_eq_true rfl)).mp c_48
    replace hsp := hsp.trans (if_pos c_48)
    refine lv_aload_n hx hb dX9_comes_8 rfl (lv_at hl 0 rfl) ?_
    refine lv_aload_n hx hb dX9_comes_9 rfl (lv_at hl 0 rfl) ?_
    refine va_get (D := (dC, dI)) (ci := 9) (v := .ref (ad 35)) (C := RX9) (T := TX9) (N := 67) hx hb hts hiX9 hown hK hP 0 rfl rfl 35 (by decide) v_6 (fun _ h9 => h9) rfl dX9_comes_10 ?_
    refine lv_iload_n hx hb dX9_comes_13 rfl (lv_at hl 2 rfl) ?_
    have hFc := pu_free hD hS hA
    refine va_callv (va_runV (As := [.ref (ad 35), .int (nI a1)]) (rest := []) ⟨hx, hb, hml, hown, hts⟩ (c_EM_delays l dC dI _ ad ck x0 x16 x18 x19 x20 x21 x22 x23 x24 x25 x26 x27 x28 x29 x30 x33 x45 x46 x52 x53 x61 x62 x63 x65 x66 f1 f2 f3 q4 q5 q6 q7 f8 q9 q10 f11 m12_0 m12_1 m13_0 m13_1 m14_0 m14_1 m15_0 m15_1 f17 q31 f32 f34 f35 f36 f37 q38 f39 f40 f41 m42_0 m42_1 f43 f44 f47 f48 f49 f50 f51 q54 q55 q56 f57 q58 f59 f60 f64 a1 hx16 hx18 hx19 hx21 hx22 hx26 hx28 hx29 hx30 hx33 hx46 hx52 hx53 hx61 hx62 hx63 hx65 hm12_0 hm12_1 hm13_0 hm13_1 hm14_0 hm14_1 hm15_0 hm15_1 hm42_0 hm42_1 ha1) (cwV 2 hts g_EM_comes_1_400_0_EM_delays rfl rfl rfl (by decide +kernel) ⟨Nat.le_of_ble_eq_true rfl, Nat.le_of_ble_eq_true rfl⟩) ⟨pu_bl, va_recv hK hP (ci := 9) (q0 := 0) rfl rfl, pu_in hP hK hD⟩ rfl rfl hl.1 rfl (lv_room (Nat.le_of_ble_eq_true rfl)) dX9_comes_14 ⟨Nat.le_of_ble_eq_true rfl, Nat.le_of_ble_eq_true rfl⟩) hS (fun q _ h => hFc q h) hFc (fun u t H1 locs ht hvm hw hB hz1 hk1 hS => ?_)
    obtain ⟨z35_50, ⟨hP1, -, hD1⟩, xr_49_0⟩ := hB
    rw [ht] at hP1
    have hP := hP1
    have hD := pu_all hFc hD1
    clear hP1 hD1 hFc
    clear hk1 hz1 ht hvm
    generalize H1 = H at hP hS ⊢
    replace hsp := hsp.trans (slet_eq xr_49_0)
    exact j_4 _ _ _ _ ⟨z35_50, rfl, hsp.symm, hP, hD, hS, lv_sub hl [0, 1, 2, 3, 4, 5, 6, 7] rfl⟩
