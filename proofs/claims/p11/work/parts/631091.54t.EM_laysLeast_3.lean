theorem dX9_laysLeast_0 : decode cX9_laysLeast 0 = .ok (.aload_n 0, 1) := by decide +kernel
theorem dX9_laysLeast_1 : decode cX9_laysLeast 1 = .ok (.invokevirtual 444, 3) := by decide +kernel
theorem dX9_laysLeast_4 : decode cX9_laysLeast 4 = .ok (.iconst 0, 1) := by decide +kernel
theorem dX9_laysLeast_5 : decode cX9_laysLeast 5 = .ok (.istore_n 1, 1) := by decide +kernel
theorem dX9_laysLeast_6 : decode cX9_laysLeast 6 = .ok (.iload_n 1, 1) := by decide +kernel
theorem dX9_laysLeast_7 : decode cX9_laysLeast 7 = .ok (.aload_n 0, 1) := by decide +kernel
theorem dX9_laysLeast_8 : decode cX9_laysLeast 8 = .ok (.getfield 429, 3) := by decide +kernel
theorem dX9_laysLeast_11 : decode cX9_laysLeast 11 = .ok (.if_icmp .gt 16, 3) := by decide +kernel
theorem dX9_laysLeast_14 : decode cX9_laysLeast 14 = .ok (.aload_n 0, 1) := by decide +kernel
theorem dX9_laysLeast_15 : decode cX9_laysLeast 15 = .ok (.getfield 133, 3) := by decide +kernel
theorem dX9_laysLeast_18 : decode cX9_laysLeast 18 = .ok (.iload_n 1, 1) := by decide +kernel
theorem dX9_laysLeast_19 : decode cX9_laysLeast 19 = .ok (.iconst 0, 1) := by decide +kernel
theorem dX9_laysLeast_20 : decode cX9_laysLeast 20 = .ok (.iastore, 1) := by decide +kernel
theorem dX9_laysLeast_21 : decode cX9_laysLeast 21 = .ok (.iinc 1 1, 3) := by decide +kernel
theorem dX9_laysLeast_24 : decode cX9_laysLeast 24 = .ok (.goto (-18), 3) := by decide +kernel
theorem dX9_laysLeast_27 : decode cX9_laysLeast 27 = .ok (.aload_n 0, 1) := by decide +kernel
theorem dX9_laysLeast_28 : decode cX9_laysLeast 28 = .ok (.getfield 435, 3) := by decide +kernel
theorem dX9_laysLeast_31 : decode cX9_laysLeast 31 = .ok (.ifCond .ne 7, 3) := by decide +kernel
theorem dX9_laysLeast_34 : decode cX9_laysLeast 34 = .ok (.iconst 1, 1) := by decide +kernel
theorem dX9_laysLeast_35 : decode cX9_laysLeast 35 = .ok (.goto 4, 3) := by decide +kernel
theorem dX9_laysLeast_38 : decode cX9_laysLeast 38 = .ok (.iconst 0, 1) := by decide +kernel
theorem dX9_laysLeast_39 : decode cX9_laysLeast 39 = .ok (.istore_n 1, 1) := by decide +kernel
theorem dX9_laysLeast_40 : decode cX9_laysLeast 40 = .ok (.iconst 0, 1) := by decide +kernel
theorem dX9_laysLeast_41 : decode cX9_laysLeast 41 = .ok (.istore_n 2, 1) := by decide +kernel
theorem dX9_laysLeast_42 : decode cX9_laysLeast 42 = .ok (.iload_n 2, 1) := by decide +kernel
theorem dX9_laysLeast_43 : decode cX9_laysLeast 43 = .ok (.aload_n 0, 1) := by decide +kernel
theorem dX9_laysLeast_44 : decode cX9_laysLeast 44 = .ok (.getfield 429, 3) := by decide +kernel
theorem dX9_laysLeast_47 : decode cX9_laysLeast 47 = .ok (.iconst 1, 1) := by decide +kernel
theorem dX9_laysLeast_48 : decode cX9_laysLeast 48 = .ok (.iadd, 1) := by decide +kernel
theorem dX9_laysLeast_49 : decode cX9_laysLeast 49 = .ok (.if_icmp .gt 85, 3) := by decide +kernel
theorem dX9_laysLeast_52 : decode cX9_laysLeast 52 = .ok (.iload_n 1, 1) := by decide +kernel
theorem dX9_laysLeast_53 : decode cX9_laysLeast 53 = .ok (.ifCond .eq 81, 3) := by decide +kernel
theorem dX9_laysLeast_56 : decode cX9_laysLeast 56 = .ok (.iconst 0, 1) := by decide +kernel
theorem dX9_laysLeast_57 : decode cX9_laysLeast 57 = .ok (.istore_n 1, 1) := by decide +kernel
theorem dX9_laysLeast_58 : decode cX9_laysLeast 58 = .ok (.iconst 0, 1) := by decide +kernel
theorem dX9_laysLeast_59 : decode cX9_laysLeast 59 = .ok (.istore_n 3, 1) := by decide +kernel
theorem dX9_laysLeast_60 : decode cX9_laysLeast 60 = .ok (.iload_n 3, 1) := by decide +kernel
theorem dX9_laysLeast_61 : decode cX9_laysLeast 61 = .ok (.aload_n 0, 1) := by decide +kernel
theorem dX9_laysLeast_62 : decode cX9_laysLeast 62 = .ok (.getfield 432, 3) := by decide +kernel
theorem dX9_laysLeast_65 : decode cX9_laysLeast 65 = .ok (.if_icmp .ge 63, 3) := by decide +kernel
theorem dX9_laysLeast_68 : decode cX9_laysLeast 68 = .ok (.aload_n 0, 1) := by decide +kernel
theorem dX9_laysLeast_69 : decode cX9_laysLeast 69 = .ok (.getfield 133, 3) := by decide +kernel
theorem dX9_laysLeast_72 : decode cX9_laysLeast 72 = .ok (.aload_n 0, 1) := by decide +kernel
theorem dX9_laysLeast_73 : decode cX9_laysLeast 73 = .ok (.getfield 121, 3) := by decide +kernel
theorem dX9_laysLeast_76 : decode cX9_laysLeast 76 = .ok (.iload_n 3, 1) := by decide +kernel
theorem dX9_laysLeast_77 : decode cX9_laysLeast 77 = .ok (.iaload, 1) := by decide +kernel
theorem dX9_laysLeast_78 : decode cX9_laysLeast 78 = .ok (.iaload, 1) := by decide +kernel
theorem dX9_laysLeast_79 : decode cX9_laysLeast 79 = .ok (.aload_n 0, 1) := by decide +kernel
theorem dX9_laysLeast_80 : decode cX9_laysLeast 80 = .ok (.getfield 127, 3) := by decide +kernel
theorem dX9_laysLeast_83 : decode cX9_laysLeast 83 = .ok (.iload_n 3, 1) := by decide +kernel
theorem dX9_laysLeast_84 : decode cX9_laysLeast 84 = .ok (.iaload, 1) := by decide +kernel
theorem dX9_laysLeast_85 : decode cX9_laysLeast 85 = .ok (.invokestatic 447, 3) := by decide +kernel
theorem dX9_laysLeast_88 : decode cX9_laysLeast 88 = .ok (.isub, 1) := by decide +kernel
theorem dX9_laysLeast_89 : decode cX9_laysLeast 89 = .ok (.istore 4, 2) := by decide +kernel
theorem dX9_laysLeast_91 : decode cX9_laysLeast 91 = .ok (.iload 4, 2) := by decide +kernel
theorem dX9_laysLeast_93 : decode cX9_laysLeast 93 = .ok (.aload_n 0, 1) := by decide +kernel
theorem dX9_laysLeast_94 : decode cX9_laysLeast 94 = .ok (.getfield 133, 3) := by decide +kernel
theorem dX9_laysLeast_97 : decode cX9_laysLeast 97 = .ok (.aload_n 0, 1) := by decide +kernel
theorem dX9_laysLeast_98 : decode cX9_laysLeast 98 = .ok (.getfield 124, 3) := by decide +kernel
theorem dX9_laysLeast_101 : decode cX9_laysLeast 101 = .ok (.iload_n 3, 1) := by decide +kernel
theorem dX9_laysLeast_102 : decode cX9_laysLeast 102 = .ok (.iaload, 1) := by decide +kernel
theorem dX9_laysLeast_103 : decode cX9_laysLeast 103 = .ok (.iaload, 1) := by decide +kernel
theorem dX9_laysLeast_104 : decode cX9_laysLeast 104 = .ok (.if_icmp .le 18, 3) := by decide +kernel
theorem dX9_laysLeast_107 : decode cX9_laysLeast 107 = .ok (.aload_n 0, 1) := by decide +kernel
theorem dX9_laysLeast_108 : decode cX9_laysLeast 108 = .ok (.getfield 133, 3) := by decide +kernel
theorem dX9_laysLeast_111 : decode cX9_laysLeast 111 = .ok (.aload_n 0, 1) := by decide +kernel
theorem dX9_laysLeast_112 : decode cX9_laysLeast 112 = .ok (.getfield 124, 3) := by decide +kernel
theorem dX9_laysLeast_115 : decode cX9_laysLeast 115 = .ok (.iload_n 3, 1) := by decide +kernel
theorem dX9_laysLeast_116 : decode cX9_laysLeast 116 = .ok (.iaload, 1) := by decide +kernel
theorem dX9_laysLeast_117 : decode cX9_laysLeast 117 = .ok (.iload 4, 2) := by decide +kernel
theorem dX9_laysLeast_119 : decode cX9_laysLeast 119 = .ok (.iastore, 1) := by decide +kernel
theorem dX9_laysLeast_120 : decode cX9_laysLeast 120 = .ok (.iconst 1, 1) := by decide +kernel
theorem dX9_laysLeast_121 : decode cX9_laysLeast 121 = .ok (.istore_n 1, 1) := by decide +kernel
theorem dX9_laysLeast_122 : decode cX9_laysLeast 122 = .ok (.iinc 3 1, 3) := by decide +kernel
theorem dX9_laysLeast_125 : decode cX9_laysLeast 125 = .ok (.goto (-65), 3) := by decide +kernel
theorem dX9_laysLeast_128 : decode cX9_laysLeast 128 = .ok (.iinc 2 1, 3) := by decide +kernel
theorem dX9_laysLeast_131 : decode cX9_laysLeast 131 = .ok (.goto (-89), 3) := by decide +kernel
theorem dX9_laysLeast_134 : decode cX9_laysLeast 134 = .ok (.aload_n 0, 1) := by decide +kernel
theorem dX9_laysLeast_135 : decode cX9_laysLeast 135 = .ok (.getfield 435, 3) := by decide +kernel
theorem dX9_laysLeast_138 : decode cX9_laysLeast 138 = .ok (.ifCond .ne 20, 3) := by decide +kernel
theorem dX9_laysLeast_141 : decode cX9_laysLeast 141 = .ok (.iload_n 1, 1) := by decide +kernel
theorem dX9_laysLeast_142 : decode cX9_laysLeast 142 = .ok (.ifCond .ne 16, 3) := by decide +kernel
theorem dX9_laysLeast_145 : decode cX9_laysLeast 145 = .ok (.aload_n 0, 1) := by decide +kernel
theorem dX9_laysLeast_146 : decode cX9_laysLeast 146 = .ok (.getfield 133, 3) := by decide +kernel
theorem dX9_laysLeast_149 : decode cX9_laysLeast 149 = .ok (.iconst 0, 1) := by decide +kernel
theorem dX9_laysLeast_150 : decode cX9_laysLeast 150 = .ok (.iaload, 1) := by decide +kernel
theorem dX9_laysLeast_151 : decode cX9_laysLeast 151 = .ok (.ifCond .ne 7, 3) := by decide +kernel
theorem dX9_laysLeast_154 : decode cX9_laysLeast 154 = .ok (.iconst 1, 1) := by decide +kernel
theorem dX9_laysLeast_155 : decode cX9_laysLeast 155 = .ok (.goto 4, 3) := by decide +kernel
theorem dX9_laysLeast_158 : decode cX9_laysLeast 158 = .ok (.iconst 0, 1) := by decide +kernel
theorem dX9_laysLeast_159 : decode cX9_laysLeast 159 = .ok (.ireturn, 1) := by decide +kernel
abbrev vs_EM_laysLeast : List Cond := .code yX9_laysLeast cX9_laysLeast 5 (some .boolean) :: VM
theorem g_EM_laysLeast_EM_layGaps : GoodIn vs_EM_laysLeast (wsV RX9 444 RX9 yX9_layGaps vs_EM_layGaps) := gm_V vm_319 vm_320 vm_321 vm_19 vm_322
theorem g_EM_laysLeast_EM_timesOf : GoodIn vs_EM_laysLeast (va_wsS RX9 447 yX9_timesOf vs_EM_timesOf) := gm_S vm_323 vm_324 vm_19 vm_325
noncomputable def sp_EM_laysLeast_L1 (z55_2 : Nat → Nat) (z56_3 : Nat → Nat) (z57_4 : Nat → Int32) (z62_6 : Nat) (g_38 : Nat) : ((Nat → Int32) × Int32 × Nat) → ((Nat → Int32) × Int32 × Nat) ⊕ (((Nat → Int32) × Int32 × Nat) ⊕ (Int32 × Nat × (Nat → Int32))) := fun (g_51, g_52, g_53) => (if z62_6 ≤ g_53 then (Sum.inr (Sum.inl (g_51, g_52, (g_38 + 1)))) else (slet (min (z55_2 g_53) 120) (fun u_62 => (slet (g_51 u_62) (fun y_63 => (slet (z57_4 g_53) (fun y_64 => (slet (sp_EM_timesOf y_64) (fun r_65 => (slet ((y_63 : Int32) - r_65) (fun y_66 => (slet (min (z56_3 g_53) 120) (fun u_68 => (slet (g_51 u_68) (fun y_69 => (slet (α := Int32 × (Nat → Int32)) (if (y_66 : Int32) ≤ y_69 then (g_52, g_51) else (slet (upd g_51 u_68 y_66) (fun f_78 => (1, f_78)))) (fun (g_70, g_71) => (Sum.inl (g_71, g_70, (g_53 + 1))))))))))))))))))))
noncomputable def sp_EM_laysLeast_L2 (x61 : Nat) (z55_2 : Nat → Nat) (z56_3 : Nat → Nat) (z57_4 : Nat → Int32) (z62_6 : Nat) : ((Nat → Int32) × Int32 × Nat) → ((Nat → Int32) × Int32 × Nat) ⊕ (Int32 × Nat × (Nat → Int32)) := fun (g_36, g_37, g_38) => (if (x61 + 1) < g_38 then (Sum.inr (g_37, g_38, g_36)) else (if (g_37 : Int32) = 0 then (Sum.inr (g_37, g_38, g_36)) else (itrv (α := (Nat → Int32) × Int32 × Nat) (β := (((Nat → Int32) × Int32 × Nat) ⊕ (Int32 × Nat × (Nat → Int32)))) (Sum.inr default) (sp_EM_laysLeast_L1 z55_2 z56_3 z57_4 z62_6 g_38) (g_36, 0, 0))))
noncomputable def sp_EM_laysLeast_L3 (x61 : Nat) (z55_2 : Nat → Nat) (z56_3 : Nat → Nat) (z57_4 : Nat → Int32) (z58_5 : Nat → Nat) (z62_6 : Nat) (z63_7 : Nat) : ((Nat → Int32) × Nat) → ((Nat → Int32) × Nat) ⊕ (Nat × (Nat → Nat) × (Nat → Nat) × (Nat → Int32) × (Nat → Nat) × (Nat → Int32) × Nat × Nat) := fun (g_10, g_11) => (if x61 < g_11 then (Sum.inr (slet (α := Nat) (if z63_7 = 0 then 1 else 0) (fun g_19 => (slet (α := Int32 × Nat × (Nat → Int32)) (itrv (α := (Nat → Int32) × Int32 × Nat) (β := (Int32 × Nat × (Nat → Int32))) default (sp_EM_laysLeast_L2 x61 z55_2 z56_3 z57_4 z62_6) (g_10, (nI g_19), 0)) (fun (g_23, g_24, g_25) => (if z63_7 = 0 then (if (g_23 : Int32) = 0 then (slet (g_25 0) (fun y_31 => (if (y_31 : Int32) = 0 then (1, z55_2, z56_3, z57_4, z58_5, g_25, z62_6, z63_7) else (0, z55_2, z56_3, z57_4, z58_5, g_25, z62_6, z63_7)))) else (0, z55_2, z56_3, z57_4, z58_5, g_25, z62_6, z63_7)) else (0, z55_2, z56_3, z57_4, z58_5, g_25, z62_6, z63_7))))))) else (slet (upd g_10 g_11 0) (fun f_80 => (Sum.inl (f_80, (g_11 + 1))))))
noncomputable def sp_EM_laysLeast (x16 : Nat) (x61 : Nat) (f3 : Nat → Int32) (q4 : Nat → Nat) (q5 : Nat → Nat) (q6 : Nat → Nat) (q7 : Nat → Nat) (f8 : Nat → Int32) (q9 : Nat → Nat) (q10 : Nat → Nat) (f11 : Nat → Int32) (m12_0 : Nat) (m12_1 : Nat) (m13_0 : Nat) (m13_1 : Nat) (m14_0 : Nat) (m14_1 : Nat) (m15_0 : Nat) (m15_1 : Nat) (q54 : Nat → Nat) (q55 : Nat → Nat) (q56 : Nat → Nat) (f57 : Nat → Int32) (q58 : Nat → Nat) (f59 : Nat → Int32) : Nat × (Nat → Nat) × (Nat → Nat) × (Nat → Int32) × (Nat → Nat) × (Nat → Int32) × Nat × Nat := (slet (sp_EM_layGaps x16 x61 f3 q4 q5 q6 q7 f8 q9 q10 f11 m12_0 m12_1 m13_0 m13_1 m14_0 m14_1 m15_0 m15_1 q54 q55 q56 f57 q58) (fun (z55_2, z56_3, z57_4, z58_5, z62_6, z63_7) => (itrv (α := (Nat → Int32) × Nat) (β := (Nat × (Nat → Nat) × (Nat → Nat) × (Nat → Int32) × (Nat → Nat) × (Nat → Int32) × Nat × Nat)) default (sp_EM_laysLeast_L3 x61 z55_2 z56_3 z57_4 z58_5 z62_6 z63_7) (f59, 0))))
set_option maxHeartbeats 4000000 in
set_option maxRecDepth 100000 in
theorem c_EM_laysLeast (l : Launch) (dC : Nat → ClassId) (dI : Nat → Nat → Nat) (sz : Nat) (ad : Nat → Nat) (ck : Nat → ClassId) (x0 : Int32) (x16 : Nat) (x18 : Nat) (x19 : Nat) (x20 : Int32) (x21 : Nat) (x22 : Nat) (x23 : Int32) (x24 : Int32) (x25 : Int32) (x26 : Nat) (x27 : Int32) (x28 : Nat) (x29 : Nat) (x30 : Nat) (x33 : Nat) (x45 : Int32) (x46 : Nat) (x52 : Nat) (x53 : Nat) (x61 : Nat) (x62 : Nat) (x63 : Nat) (x65 : Nat) (x66 : Int32) (f1 : Nat → Int32) (f2 : Nat → Int32) (f3 : Nat → Int32) (q4 : Nat → Nat) (q5 : Nat → Nat) (q6 : Nat → Nat) (q7 : Nat → Nat) (f8 : Nat → Int32) (q9 : Nat → Nat) (q10 : Nat → Nat) (f11 : Nat → Int32) (m12_0 m12_1 : Nat) (m13_0 m13_1 : Nat) (m14_0 m14_1 : Nat) (m15_0 m15_1 : Nat) (f17 : Nat → Int32) (q31 : Nat → Nat) (f32 : Nat → Int32) (f34 : Nat → Int32) (f35 : Nat → Int32) (f36 : Nat → Int32) (f37 : Nat → Int32) (q38 : Nat → Nat) (f39 : Nat → Int32) (f40 : Nat → Int32) (f41 : Nat → Int32) (m42_0 m42_1 : Nat) (f43 : Nat → Int32) (f44 : Nat → Int32) (f47 : Nat → Int32) (f48 : Nat → Int32) (f49 : Nat → Int32) (f50 : Nat → Int32) (f51 : Nat → Int32) (q54 : Nat → Nat) (q55 : Nat → Nat) (q56 : Nat → Nat) (f57 : Nat → Int32) (q58 : Nat → Nat) (f59 : Nat → Int32) (f60 : Nat → Int32) (f64 : Nat → Int32) (hx16 : x16 ≤ 1) (hx18 : x18 ≤ 900) (hx19 : x19 ≤ 900) (hx21 : x21 ≤ 900) (hx22 : x22 ≤ 4) (hx26 : x26 ≤ 6) (hx28 : x28 ≤ 1) (hx29 : x29 ≤ 1) (hx30 : x30 ≤ 1) (hx33 : x33 ≤ 20) (hx46 : x46 ≤ 5) (hx52 : x52 ≤ 2400) (hx53 : x53 ≤ 119) (hx61 : x61 ≤ 119) (hx62 : x62 ≤ 2000) (hx63 : x63 ≤ 1) (hx65 : x65 ≤ 7) (hm12_0 : m12_0 ≤ 3) (hm12_1 : m12_1 ≤ 3) (hm13_0 : m13_0 ≤ 8) (hm13_1 : m13_1 ≤ 8) (hm14_0 : m14_0 ≤ 14) (hm14_1 : m14_1 ≤ 14) (hm15_0 : m15_0 ≤ 8) (hm15_1 : m15_1 ≤ 8) (hm42_0 : m42_0 ≤ 120) (hm42_1 : m42_1 ≤ 400) (hbg : (x16 = 0 ∧ (m13_0 = 0 ∨ 1 ≤ m15_0)) ∨ (x16 = 1 ∧ (m13_1 = 0 ∨ 1 ≤ m15_1))) : Met l yX9_laysLeast vs_EM_laysLeast ({ frames := 5, cells := 0, slots := 0, locals := 112 }) (va_Pc [.ref (ad 0)] (pu_B (dC, dI) (mo_w ad ck x0 (nI x16) (nI x18) (nI x19) x20 (nI x21) (nI x22) x23 x24 x25 (nI x26) x27 (nI x28) (nI x29) (nI x30) (nI x33) x45 (nI x46) (nI x52) (nI x53) (nI x61) (nI x62) (nI x63) (nI x65) x66 f1 f2 f3 (bN 3 q4) (bN 7 q5) (bN 7 q6) (bN 4 q7) f8 (bN 2 q9) (bH q10) f11 (b2 m12_0 m12_1) (b2 m13_0 m13_1) (b2 m14_0 m14_1) (b2m m15_0 m15_1) f17 (bA 159 q31) f32 f34 f35 f36 f37 (bN 7 q38) f39 f40 f41 (b2 m42_0 m42_1) f43 f44 f47 f48 f49 f50 f51 (bN 13 q54) (bN 120 q55) (bN 120 q56) f57 (bN 120 q58) f59 f60 f64) (mo_t ck) sz)) (va_Qi (fun (r : Int32) (_ : Unit) => ∃ v : Nat, v ≤ 1 ∧ r = nI v ∧ v = (sp_EM_laysLeast x16 x61 f3 q4 q5 q6 q7 f8 q9 q10 f11 m12_0 m12_1 m13_0 m13_1 m14_0 m14_1 m15_0 m15_1 q54 q55 q56 f57 q58 f59).1) (fun _ t => ∃ (z55 : Nat → Nat) (z56 : Nat → Nat) (z57 : Nat → Int32) (z58 : Nat → Nat) (z59 : Nat → Int32) (z62 : Nat) (z63 : Nat), pu_E (dC, dI) (mo_w ad ck x0 (nI x16) (nI x18) (nI x19) x20 (nI x21) (nI x22) x23 x24 x25 (nI x26) x27 (nI x28) (nI x29) (nI x30) (nI x33) x45 (nI x46) (nI x52) (nI x53) (nI x61) (nI z62) (nI z63) (nI x65) x66 f1 f2 f3 (bN 3 q4) (bN 7 q5) (bN 7 q6) (bN 4 q7) f8 (bN 2 q9) (bH q10) f11 (b2 m12_0 m12_1) (b2 m13_0 m13_1) (b2 m14_0 m14_1) (b2m m15_0 m15_1) f17 (bA 159 q31) f32 f34 f35 f36 f37 (bN 7 q38) f39 f40 f41 (b2 m42_0 m42_1) f43 f44 f47 f48 f49 f50 f51 (bN 13 q54) (bN 120 z55) (bN 120 z56) z57 (bN 120 z58) z59 f60 f64) (mo_t ck) (va_A ((mo_w ad ck x0 (nI x16) (nI x18) (nI x19) x20 (nI x21) (nI x22) x23 x24 x25 (nI x26) x27 (nI x28) (nI x29) (nI x30) (nI x33) x45 (nI x46) (nI x52) (nI x53) (nI x61) (nI x62) (nI x63) (nI x65) x66 f1 f2 f3 (bN 3 q4) (bN 7 q5) (bN 7 q6) (bN 4 q7) f8 (bN 2 q9) (bH q10) f11 (b2 m12_0 m12_1) (b2 m13_0 m13_1) (b2 m14_0 m14_1) (b2m m15_0 m15_1) f17 (bA 159 q31) f32 f34 f35 f36 f37 (bN 7 q38) f39 f40 f41 (b2 m42_0 m42_1) f43 f44 f47 f48 f49 f50 f51 (bN 13 q54) (bN 120 q55) (bN 120 q56) f57 (bN 120 q58) f59 f60 f64)) sz) t ∧ (z62 ≤ 2000) ∧ (z63 ≤ 1) ∧ ((z55, z56, z57, z58, z59, z62, z63) = (sp_EM_laysLeast x16 x61 f3 q4 q5 q6 q7 f8 q9 q10 f11 m12_0 m12_1 m13_0 m13_1 m14_0 m14_1 m15_0 m15_1 q54 q55 q56 f57 q58 f59).2)) (va_A ((mo_w ad ck x0 (nI x16) (nI x18) (nI x19) x20 (nI x21) (nI x22) x23 x24 x25 (nI x26) x27 (nI x28) (nI x29) (nI x30) (nI x33) x45 (nI x46) (nI x52) (nI x53) (nI x61) (nI x62) (nI x63) (nI x65) x66 f1 f2 f3 (bN 3 q4) (bN 7 q5) (bN 7 q6) (bN 4 q7) f8 (bN 2 q9) (bH q10) f11 (b2 m12_0 m12_1) (b2 m13_0 m13_1) (b2 m14_0 m14_1) (b2m m15_0 m15_1) f17 (bA 159 q31) f32 f34 f35 f36 f37 (bN 7 q38) f39 f40 f41 (b2 m42_0 m42_1) f43 f44 f47 f48 f49 f50 f51 (bN 13 q54) (bN 120 q55) (bN 120 q56) f57 (bN 120 q58) f59 f60 f64)) sz)) 0 0 (va_A ((mo_w ad ck x0 (nI x16) (nI x18) (nI x19) x20 (nI x21) (nI x22) x23 x24 x25 (nI x26) x27 (nI x28) (nI x29) (nI x30) (nI x33) x45 (nI x46) (nI x52) (nI x53) (nI x61) (nI x62) (nI x63) (nI x65) x66 f1 f2 f3 (bN 3 q4) (bN 7 q5) (bN 7 q6) (bN 4 q7) f8 (bN 2 q9) (bH q10) f11 (b2 m12_0 m12_1) (b2 m13_0 m13_1) (b2 m14_0 m14_1) (b2m m15_0 m15_1) f17 (bA 159 q31) f32 f34 f35 f36 f37 (bN 7 q38) f39 f40 f41 (b2 m42_0 m42_1) f43 f44 f47 f48 f49 f50 f51 (bN 13 q54) (bN 120 q55) (bN 120 q56) f57 (bN 120 q58) f59 f60 f64)) sz) := by
  refine Met.ofW (cc := cX9_laysLeast) (maxL := 5) (ret := (some .boolean)) (by decide) rfl ?_
  intro p e s m args below meth c s₁ B hml hv
  obtain ⟨rfl, rfl, hP, hK, hD0⟩ := hv
  have hx := B.exec
  have hb := B.bytes
  have hr := B.returns
  have hts := atoms_spec (ws := vs_EM_laysLeast) B.pre
  have v_6 := hts (.fieldLink RX9 429 "ClockReachModel" "pathMany" "I") (List.mem_cons_of_mem _ vm_303)
  have v_7 := hts (.fieldLink RX9 133 "ClockReachModel" "time" "[I") (List.mem_cons_of_mem _ vm_326)
  have v_8 := hts (.fieldLink RX9 435 "ClockReachModel" "isBroken" "Z") (List.mem_cons_of_mem _ vm_314)
  have v_9 := hts (.fieldLink RX9 432 "ClockReachModel" "gaps" "I") (List.mem_cons_of_mem _ vm_306)
  have v_10 := hts (.fieldLink RX9 121 "ClockReachModel" "later" "[I") (List.mem_cons_of_mem _ vm_305)
  have v_11 := hts (.fieldLink RX9 127 "ClockReachModel" "gap" "[I") (List.mem_cons_of_mem _ vm_308)
  have v_15 := hts (.fieldLink RX9 124 "ClockReachModel" "sooner" "[I") (List.mem_cons_of_mem _ vm_307)
  have hown : s.vm.findClass RX9 = some m.cls := findClass_of_methodNamed B.named
  have hlocks := B.notSynchronized
  have hiX9 : ∀ w ∈ wsX90, w ∈ vs_EM_laysLeast := fun _ h => List.mem_cons_of_mem _ (vmi_L h)
  have hD := hD0.self (sz := s.heap.size)
  generalize hAe : va_A ((mo_w ad ck x0 (nI x16) (nI x18) (nI x19) x20 (nI x21) (nI x22) x23 x24 x25 (nI x26) x27 (nI x28) (nI x29) (nI x30) (nI x33) x45 (nI x46) (nI x52) (nI x53) (nI x61) (nI x62) (nI x63) (nI x65) x66 f1 f2 f3 (bN 3 q4) (bN 7 q5) (bN 7 q6) (bN 4 q7) f8 (bN 2 q9) (bH q10) f11 (b2 m12_0 m12_1) (b2 m13_0 m13_1) (b2 m14_0 m14_1) (b2m m15_0 m15_1) f17 (bA 159 q31) f32 f34 f35 f36 f37 (bN 7 q38) f39 f40 f41 (b2 m42_0 m42_1) f43 f44 f47 f48 f49 f50 f51 (bN 13 q54) (bN 120 q55) (bN 120 q56) f57 (bN 120 q58) f59 f60 f64)) s.heap.size = A at hD ⊢
  have hA : ∀ q : Nat, s.heap.size ≤ q → A q := fun q h => by rw [← hAe]; exact Or.inr h
  have hS : va_S A s.heap s.heap [] := va_S.rf
  have hl := lv_entry ([.ref (ad 0)]) (n := 5) (Nat.le_of_ble_eq_true rfl)
  rw [lg_entry_eq]
  generalize (lg_sl ([.ref (ad 0)]) ++ List.replicate (5 - (lg_sl ([.ref (ad 0)])).length) Slot.unset).toArray = ls at hl ⊢
  have hl : lv_has ls 5 [(0, .ref (ad 0))] := hl
  obtain ⟨RR, hRR⟩ : ∃ x, x = (sp_EM_laysLeast x16 x61 f3 q4 q5 q6 q7 f8 q9 q10 f11 m12_0 m12_1 m13_0 m13_1 m14_0 m14_1 m15_0 m15_1 q54 q55 q56 f57 q58 f59) := ⟨_, rfl⟩
  have hsp := hRR
  refine lv_aload_n hx hb dX9_laysLeast_0 rfl (lv_at hl 0 rfl) ?_
  have hFc := pu_free hD hS hA
  refine va_callv (va_runV (As := []) (rest := []) ⟨hx, hb, hml, hown, hts⟩ (c_EM_layGaps l dC dI _ ad ck x0 x16 x18 x19 x20 x21 x22 x23 x24 x25 x26 x27 x28 x29 x30 x33 x45 x46 x52 x53 x61 x62 x63 x65 x66 f1 f2 f3 q4 q5 q6 q7 f8 q9 q10 f11 m12_0 m12_1 m13_0 m13_1 m14_0 m14_1 m15_0 m15_1 f17 q31 f32 f34 f35 f36 f37 q38 f39 f40 f41 m42_0 m42_1 f43 f44 f47 f48 f49 f50 f51 q54 q55 q56 f57 q58 f59 f60 f64 hx16 hx18 hx19 hx21 hx22 hx26 hx28 hx29 hx30 hx33 hx46 hx52 hx53 hx61 hx62 hx63 hx65 hm12_0 hm12_1 hm13_0 hm13_1 hm14_0 hm14_1 hm15_0 hm15_1 hm42_0 hm42_1 (by first | assumption | omega)) (cwV 0 hts g_EM_laysLeast_EM_layGaps rfl rfl rfl (by decide +kernel) ⟨Nat.le_of_ble_eq_true rfl, Nat.le_of_ble_eq_true rfl⟩) ⟨pu_bl, va_recv hK hP (ci := 9) (q0 := 0) rfl rfl, pu_in hP hK hD⟩ rfl rfl hl.1 rfl (lv_room (Nat.le_of_ble_eq_true rfl)) dX9_laysLeast_1 ⟨Nat.le_of_ble_eq_true rfl, Nat.le_of_ble_eq_true rfl⟩) hS (fun q _ h => hFc q h) hFc (fun u t H1 locs ht hvm hw hB hz1 hk1 hS => ?_)
  obtain ⟨z55_2, z56_3, z57_4, z58_5, z62_6, z63_7, ⟨hP1, -, hD1⟩, hz62_6, hz63_7, xr_1_0⟩ := hB
  rw [ht] at hP1
  have hP := hP1
  have hD := pu_all hFc hD1
  clear hP1 hD1 hFc
  clear hk1 hz1 ht hvm
  generalize H1 = H at hP hS ⊢
  replace hsp := hsp.trans (slet_eq xr_1_0)
  refine lv_iconst (v := 0) hx hb dX9_laysLeast_4 (by decide) ?_
  refine lv_istore_n (lv' := [(1, .int 0), (0, .ref (ad 0))]) hx hb dX9_laysLeast_5 rfl hl (by decide) rfl (fun ls hl => ?_)
  obtain ⟨lf_13, dlf_13, hlf_13, hsp⟩ := itr_ex hsp
  delta sp_EM_laysLeast_L3 at hlf_13
  refine pu_while (fun nn H locs ls => ∃ (g_10 : Nat → Int32) (g_11 : Nat), nn = 120 - g_11 ∧ g_11 ≤ 120 ∧ RR = itrv dlf_13 lf_13 (g_10, g_11) ∧ va_P (dC, dI) vwCl (mo_w ad ck x0 (nI x16) (nI x18) (nI x19) x20 (nI x21) (nI x22) x23 x24 x25 (nI x26) x27 (nI x28) (nI x29) (nI x30) (nI x33) x45 (nI x46) (nI x52) (nI x53) (nI x61) (nI z62_6) (nI z63_7) (nI x65) x66 f1 f2 f3 (bN 3 q4) (bN 7 q5) (bN 7 q6) (bN 4 q7) f8 (bN 2 q9) (bH q10) f11 (b2 m12_0 m12_1) (b2 m13_0 m13_1) (b2 m14_0 m14_1) (b2m m15_0 m15_1) f17 (bA 159 q31) f32 f34 f35 f36 f37 (bN 7 q38) f39 f40 f41 (b2 m42_0 m42_1) f43 f44 f47 f48 f49 f50 f51 (bN 13 q54) (bN 120 z55_2) (bN 120 z56_3) z57_4 (bN 120 z58_5) g_10 f60 f64) H ∧ va_D A (mo_w ad ck x0 (nI x16) (nI x18) (nI x19) x20 (nI x21) (nI x22) x23 x24 x25 (nI x26) x27 (nI x28) (nI x29) (nI x30) (nI x33) x45 (nI x46) (nI x52) (nI x53) (nI x61) (nI z62_6) (nI z63_7) (nI x65) x66 f1 f2 f3 (bN 3 q4) (bN 7 q5) (bN 7 q6) (bN 4 q7) f8 (bN 2 q9) (bH q10) f11 (b2 m12_0 m12_1) (b2 m13_0 m13_1) (b2 m14_0 m14_1) (b2m m15_0 m15_1) f17 (bA 159 q31) f32 f34 f35 f36 f37 (bN 7 q38) f39 f40 f41 (b2 m42_0 m42_1) f43 f44 f47 f48 f49 f50 f51 (bN 13 q54) (bN 120 z55_2) (bN 120 z56_3) z57_4 (bN 120 z58_5) g_10 f60 f64) ∧ va_S A s.heap H locs ∧ lv_has ls 5 [(0, .ref (ad 0)), (1, .int (nI g_11))]) 6 ?_ _ _ _ _ ⟨f59, 0, rfl, (Nat.le_of_ble_eq_true rfl), hsp, hP, hD, hS, lv_sub hl [1, 0] rfl⟩
  rintro nn ih_12 H locs ls ⟨g_10, g_11, rfl, hg_11, he_15, hP, hD, hS, hl⟩
  obtain ⟨S_14, hsp, hin_16, hout_17⟩ := itr_step hlf_13 he_15
  refine lv_iload_n hx hb dX9_laysLeast_6 rfl (lv_at hl 1 rfl) ?_
  refine lv_aload_n hx hb dX9_laysLeast_7 rfl (lv_at hl 0 rfl) ?_
  refine va_get (D := (dC, dI)) (ci := 9) (v := .int (nI x61)) (C := RX9) (T := TX9) (N := 67) hx hb hts hiX9 hown hK hP 0 rfl rfl 61 (by decide) v_6 (fun _ h9 => h9) rfl dX9_laysLeast_8 ?_
  refine lv_icmp_gt (tgt := 27) hx hb dX9_laysLeast_11 (by decide) (fun c_18 => ?_) (fun c_18 => ?_)
  · have c_18 : x61 < g_11 := (nI_ltI (a := x61) (b := g_11) (Nat.lt_of_le_of_lt hx61 (Nat.le_of_ble_eq_true rfl)) (Nat.lt_of_le_of_lt hg_11 (Nat.le_of_ble_eq_true rfl))).mp c_18
    replace hsp := hsp.trans (if_pos c_18)
    have hsp := hout_17 _ hsp
    refine lv_aload_n hx hb dX9_laysLeast_27 rfl (lv_at hl 0 rfl) ?_
    refine va_get (D := (dC, dI)) (ci := 9) (v := .int (nI z63_7)) (C := RX9) (T := TX9) (N := 67) hx hb hts hiX9 hown hK hP 0 rfl rfl 63 (by decide) v_8 (fun _ h9 => h9) rfl dX9_laysLeast_28 ?_
    obtain ⟨JR_21, hJR_21, hsp⟩ := slet_ex hsp
    refine pu_join (fun H locs ls st => ∃ (g_19 : Nat), st = [.int (nI g_19)] ∧ g_19 ≤ 1 ∧ g_19 = JR_21 ∧ va_P (dC, dI) vwCl (mo_w ad ck x0 (nI x16) (nI x18) (nI x19) x20 (nI x21) (nI x22) x23 x24 x25 (nI x26) x27 (nI x28) (nI x29) (nI x30) (nI x33) x45 (nI x46) (nI x52) (nI x53) (nI x61) (nI z62_6) (nI z63_7) (nI x65) x66 f1 f2 f3 (bN 3 q4) (bN 7 q5) (bN 7 q6) (bN 4 q7) f8 (bN 2 q9) (bH q10) f11 (b2 m12_0 m12_1) (b2 m13_0 m13_1) (b2 m14_0 m14_1) (b2m m15_0 m15_1) f17 (bA 159 q31) f32 f34 f35 f36 f37 (bN 7 q38) f39 f40 f41 (b2 m42_0 m42_1) f43 f44 f47 f48 f49 f50 f51 (bN 13 q54) (bN 120 z55_2) (bN 120 z56_3) z57_4 (bN 120 z58_5) g_10 f60 f64) H ∧ va_D A (mo_w ad ck x0 (nI x16) (nI x18) (nI x19) x20 (nI x21) (nI x22) x23 x24 x25 (nI x26) x27 (nI x28) (nI x29) (nI x30) (nI x33) x45 (nI x46) (nI x52) (nI x53) (nI x61) (nI z62_6) (nI z63_7) (nI x65) x66 f1 f2 f3 (bN 3 q4) (bN 7 q5) (bN 7 q6) (bN 4 q7) f8 (bN 2 q9) (bH q10) f11 (b2 m12_0 m12_1) (b2 m13_0 m13_1) (b2 m14_0 m14_1) (b2m m15_0 m15_1) f17 (bA 159 q31) f32 f34 f35 f36 f37 (bN 7 q38) f39 f40 f41 (b2 m42_0 m42_1) f43 f44 f47 f48 f49 f50 f51 (bN 13 q54) (bN 120 z55_2) (bN 120 z56_3) z57_4 (bN 120 z58_5) g_10 f60 f64) ∧ va_S A s.heap H locs ∧ lv_has ls 5 [(0, .ref (ad 0)), (1, .int (nI g_11))]) 39 ?_ (fun j_20 => ?_)
    · rintro H locs ls st ⟨g_19, rfl, hg_19, he_22, hP, hD, hS, hl⟩
      rw [← he_22] at hsp
      refine lv_istore_n (lv' := [(1, .int (nI g_19)), (0, .ref (ad 0))]) hx hb dX9_laysLeast_39 rfl hl (by decide) rfl (fun ls hl => ?_)
      refine lv_iconst (v := 0) hx hb dX9_laysLeast_40 (by decide) ?_
      refine lv_istore_n (lv' := [(2, .int 0), (1, .int (nI g_19)), (0, .ref (ad 0))]) hx hb dX9_laysLeast_41 rfl hl (by decide) rfl (fun ls hl => ?_)
      obtain ⟨JR_27, hJR_27, hsp⟩ := slet_ex hsp
      refine pu_join (fun H locs ls st => ∃ (g_23 : Int32) (g_24 : Nat) (g_25 : Nat → Int32), st = [] ∧ g_24 ≤ 121 ∧ (g_23, g_24, g_25) = JR_27 ∧ va_P (dC, dI) vwCl (mo_w ad ck x0 (nI x16) (nI x18) (nI x19) x20 (nI x21) (nI x22) x23 x24 x25 (nI x26) x27 (nI x28) (nI x29) (nI x30) (nI x33) x45 (nI x46) (nI x52) (nI x53) (nI x61) (nI z62_6) (nI z63_7) (nI x65) x66 f1 f2 f3 (bN 3 q4) (bN 7 q5) (bN 7 q6) (bN 4 q7) f8 (bN 2 q9) (bH q10) f11 (b2 m12_0 m12_1) (b2 m13_0 m13_1) (b2 m14_0 m14_1) (b2m m15_0 m15_1) f17 (bA 159 q31) f32 f34 f35 f36 f37 (bN 7 q38) f39 f40 f41 (b2 m42_0 m42_1) f43 f44 f47 f48 f49 f50 f51 (bN 13 q54) (bN 120 z55_2) (bN 120 z56_3) z57_4 (bN 120 z58_5) g_25 f60 f64) H ∧ va_D A (mo_w ad ck x0 (nI x16) (nI x18) (nI x19) x20 (nI x21) (nI x22) x23 x24 x25 (nI x26) x27 (nI x28) (nI x29) (nI x30) (nI x33) x45 (nI x46) (nI x52) (nI x53) (nI x61) (nI z62_6) (nI z63_7) (nI x65) x66 f1 f2 f3 (bN 3 q4) (bN 7 q5) (bN 7 q6) (bN 4 q7) f8 (bN 2 q9) (bH q10) f11 (b2 m12_0 m12_1) (b2 m13_0 m13_1) (b2 m14_0 m14_1) (b2m m15_0 m15_1) f17 (bA 159 q31) f32 f34 f35 f36 f37 (bN 7 q38) f39 f40 f41 (b2 m42_0 m42_1) f43 f44 f47 f48 f49 f50 f51 (bN 13 q54) (bN 120 z55_2) (bN 120 z56_3) z57_4 (bN 120 z58_5) g_25 f60 f64) ∧ va_S A s.heap H locs ∧ lv_has ls 5 [(0, .ref (ad 0)), (1, .int g_23), (2, .int (nI g_24))]) 134 ?_ (fun j_26 => ?_)
      · rintro H locs ls st ⟨g_23, g_24, g_25, rfl, hg_24, he_28, hP, hD, hS, hl⟩
        rw [← he_28] at hsp
        refine lv_aload_n hx hb dX9_laysLeast_134 rfl (lv_at hl 0 rfl) ?_
        refine va_get (D := (dC, dI)) (ci := 9) (v := .int (nI z63_7)) (C := RX9) (T := TX9) (N := 67) hx hb hts hiX9 hown hK hP 0 rfl rfl 63 (by decide) v_8 (fun _ h9 => h9) rfl dX9_laysLeast_135 ?_
        refine lv_if_ne (tgt := 158) hx hb dX9_laysLeast_138 (by decide) (fun c_29 => ?_) (fun c_29 => ?_)
        · have c_29 : ¬ z63_7 = 0 := fun z => c_29 ((nI_eq (a := z63_7) (b := 0) (Nat.lt_of_le_of_lt hz63_7 (Nat.le_of_ble_eq_true rfl)) (Nat.le_of_ble_eq_true rfl)).mpr z)
          replace hsp := hsp.trans (if_neg c_29)
          refine lv_iconst (v := 0) hx hb dX9_laysLeast_158 (by decide) ?_
          exact W.zret (v := 0) (ty := .boolean) hx hb hr (rfl) (fun t ht hW => ⟨⟨0, (), rfl, ⟨0, (Nat.le_of_ble_eq_true rfl), rfl, (congrArg Prod.fst (hsp.symm.trans hRR))⟩, ⟨z55_2, z56_3, z57_4, z58_5, g_25, z62_6, z63_7, ⟨by rw [ht]; exact hP, va_K.moved hW.alike hK, hD⟩, hz62_6, hz63_7, (congrArg Prod.snd (hsp.symm.trans hRR))⟩⟩, hS.F ht⟩) hS.2.2 dX9_laysLeast_159
        · have c_29 : z63_7 = 0 := (nI_eq (a := z63_7) (b := 0) (Nat.lt_of_le_of_lt hz63_7 (Nat.le_of_ble_eq_true rfl)) (Nat.le_of_ble_eq_true rfl)).mp c_29
          replace hsp := hsp.trans (if_pos c_29)
          refine lv_iload_n hx hb dX9_laysLeast_141 rfl (lv_at hl 1 rfl) ?_
          refine lv_if_ne (tgt := 158) hx hb dX9_laysLeast_142 (by decide) (fun c_30 => ?_) (fun c_30 => ?_)
          · have hcc_30 := c_30
            replace hsp := hsp.trans (if_neg c_30)
            refine lv_iconst (v := 0) hx hb dX9_laysLeast_158 (by decide) ?_
            exact W.zret (v := 0) (ty := .boolean) hx hb hr (rfl) (fun t ht hW => ⟨⟨0, (), rfl, ⟨0, (Nat.le_of_ble_eq_true rfl), rfl, (congrArg Prod.fst (hsp.symm.trans hRR))⟩, ⟨z55_2, z56_3, z57_4, z58_5, g_25, z62_6, z63_7, ⟨by rw [ht]; exact hP, va_K.moved hW.alike hK, hD⟩, hz62_6, hz63_7, (congrArg Prod.snd (hsp.symm.trans hRR))⟩⟩, hS.F ht⟩) hS.2.2 dX9_laysLeast_159
          · have hcc_30 := c_30
            replace hsp := hsp.trans (if_pos c_30)
            refine lv_aload_n hx hb dX9_laysLeast_145 rfl (lv_at hl 0 rfl) ?_
            refine va_get (D := (dC, dI)) (ci := 9) (v := .ref (ad 59)) (C := RX9) (T := TX9) (N := 67) hx hb hts hiX9 hown hK hP 0 rfl rfl 59 (by decide) v_7 (fun _ h9 => h9) rfl dX9_laysLeast_146 ?_
            refine lv_iconst (v := 0) hx hb dX9_laysLeast_149 (by decide) ?_
            refine va_iald hx hb hK hP 40 39 rfl rfl (vp_in_nI (n := 0) (Nat.le_of_ble_eq_true rfl) (Nat.le_of_ble_eq_true rfl)) dX9_laysLeast_150 ?_
            refine lv_topi (fun y_31 ey_31 => ?_)
            have ey_31 : y_31 = g_25 0 := ey_31.trans (congrArg g_25 (nI_clamp (n := 0) (Nat.le_of_ble_eq_true rfl)))
            replace hsp := hsp.trans (slet_eq ey_31)
            refine lv_if_ne (tgt := 158) hx hb dX9_laysLeast_151 (by decide) (fun c_32 => ?_) (fun c_32 => ?_)
            · have hcc_32 := c_32
              replace hsp := hsp.trans (if_neg c_32)
              refine lv_iconst (v := 0) hx hb dX9_laysLeast_158 (by decide) ?_
              exact W.zret (v := 0) (ty := .boolean) hx hb hr (rfl) (fun t ht hW => ⟨⟨0, (), rfl, ⟨0, (Nat.le_of_ble_eq_true rfl), rfl, (congrArg Prod.fst (hsp.symm.trans hRR))⟩, ⟨z55_2, z56_3, z57_4, z58_5, g_25, z62_6, z63_7, ⟨by rw [ht]; exact hP, va_K.moved hW.alike hK, hD⟩, hz62_6, hz63_7, (congrArg Prod.snd (hsp.symm.trans hRR))⟩⟩, hS.F ht⟩) hS.2.2 dX9_laysLeast_159
            · have hcc_32 := c_32
              replace hsp := hsp.trans (if_pos c_32)
              refine lv_iconst (v := 1) hx hb dX9_laysLeast_154 (by decide) ?_
              refine lv_goto (tgt := 159) hx hb dX9_laysLeast_155 (by decide) ?_
              exact W.zret (v := 1) (ty := .boolean) hx hb hr (rfl) (fun t ht hW => ⟨⟨1, (), rfl, ⟨1, (Nat.le_of_ble_eq_true rfl), rfl, (congrArg Prod.fst (hsp.symm.trans hRR))⟩, ⟨z55_2, z56_3, z57_4, z58_5, g_25, z62_6, z63_7, ⟨by rw [ht]; exact hP, va_K.moved hW.alike hK, hD⟩, hz62_6, hz63_7, (congrArg Prod.snd (hsp.symm.trans hRR))⟩⟩, hS.F ht⟩) hS.2.2 dX9_laysLeast_159
      have hsp := hJR_27
      obtain ⟨lf_40, dlf_40, hlf_40, hsp⟩ := itr_ex hsp
      delta sp_EM_laysLeast_L2 at hlf_40
      refine pu_while (fun nn H locs ls => ∃ (g_36 : Nat → Int32) (g_37 : Int32) (g_38 : Nat), nn = 121 - g_38 ∧ g_38 ≤ 121 ∧ JR_27 = itrv dlf_40 lf_40 (g_36, g_37, g_38) ∧ va_P (dC, dI) vwCl (mo_w ad ck x0 (nI x16) (nI x18) (nI x19) x20 (nI x21) (nI x22) x23 x24 x25 (nI x26) x27 (nI x28) (nI x29) (nI x30) (nI x33) x45 (nI x46) (nI x52) (nI x53) (nI x61) (nI z62_6) (nI z63_7) (nI x65) x66 f1 f2 f3 (bN 3 q4) (bN 7 q5) (bN 7 q6) (bN 4 q7) f8 (bN 2 q9) (bH q10) f11 (b2 m12_0 m12_1) (b2 m13_0 m13_1) (b2 m14_0 m14_1) (b2m m15_0 m15_1) f17 (bA 159 q31) f32 f34 f35 f36 f37 (bN 7 q38) f39 f40 f41 (b2 m42_0 m42_1) f43 f44 f47 f48 f49 f50 f51 (bN 13 q54) (bN 120 z55_2) (bN 120 z56_3) z57_4 (bN 120 z58_5) g_36 f60 f64) H ∧ va_D A (mo_w ad ck x0 (nI x16) (nI x18) (nI x19) x20 (nI x21) (nI x22) x23 x24 x25 (nI x26) x27 (nI x28) (nI x29) (nI x30) (nI x33) x45 (nI x46) (nI x52) (nI x53) (nI x61) (nI z62_6) (nI z63_7) (nI x65) x66 f1 f2 f3 (bN 3 q4) (bN 7 q5) (bN 7 q6) (bN 4 q7) f8 (bN 2 q9) (bH q10) f11 (b2 m12_0 m12_1) (b2 m13_0 m13_1) (b2 m14_0 m14_1) (b2m m15_0 m15_1) f17 (bA 159 q31) f32 f34 f35 f36 f37 (bN 7 q38) f39 f40 f41 (b2 m42_0 m42_1) f43 f44 f47 f48 f49 f50 f51 (bN 13 q54) (bN 120 z55_2) (bN 120 z56_3) z57_4 (bN 120 z58_5) g_36 f60 f64) ∧ va_S A s.heap H locs ∧ lv_has ls 5 [(0, .ref (ad 0)), (1, .int g_37), (2, .int (nI g_38))]) 42 ?_ _ _ _ _ ⟨g_10, (nI g_19), 0, rfl, (Nat.le_of_ble_eq_true rfl), hsp, hP, hD, hS, lv_sub hl [2, 1, 0] rfl⟩
      rintro nn ih_39 H locs ls ⟨g_36, g_37, g_38, rfl, hg_38, he_42, hP, hD, hS, hl⟩
      obtain ⟨S_41, hsp, hin_43, hout_44⟩ := itr_step hlf_40 he_42
      refine lv_iload_n hx hb dX9_laysLeast_42 rfl (lv_at hl 2 rfl) ?_
      refine lv_aload_n hx hb dX9_laysLeast_43 rfl (lv_at hl 0 rfl) ?_
      refine va_get (D := (dC, dI)) (ci := 9) (v := .int (nI x61)) (C := RX9) (T := TX9) (N := 67) hx hb hts hiX9 hown hK hP 0 rfl rfl 61 (by decide) v_6 (fun _ h9 => h9) rfl dX9_laysLeast_44 ?_
      refine lv_iconst (v := 1) hx hb dX9_laysLeast_47 (by decide) ?_
      refine lv_iadd hx hb dX9_laysLeast_48 ?_
      refine lv_topi (fun y_45 ey_45 => ?_)
      obtain rfl : y_45 = (nI (x61 + 1)) := ey_45.trans (nI_add x61 1)
      refine lv_icmp_gt (tgt := 134) hx hb dX9_laysLeast_49 (by decide) (fun c_46 => ?_) (fun c_46 => ?_)
      · have c_46 : (x61 + 1) < g_38 := (nI_ltI (a := (x61 + 1)) (b := g_38) (by omega) (Nat.lt_of_le_of_lt hg_38 (Nat.le_of_ble_eq_true rfl))).mp c_46
        replace hsp := hsp.trans (if_pos c_46)
        have hsp := hout_44 _ hsp
        exact j_26 _ _ _ _ ⟨g_37, g_38, g_36, rfl, hg_38, hsp.symm, hP, hD, hS, lv_sub hl [0, 1, 2] rfl⟩
      · have c_46 : ¬ (x61 + 1) < g_38 := fun z => c_46 ((nI_ltI (a := (x61 + 1)) (b := g_38) (by omega) (Nat.lt_of_le_of_lt hg_38 (Nat.le_of_ble_eq_true rfl))).mpr z)
        replace hsp := hsp.trans (if_neg c_46)
        refine lv_iload_n hx hb dX9_laysLeast_52 rfl (lv_at hl 1 rfl) ?_
        refine lv_if_eq (tgt := 134) hx hb dX9_laysLeast_53 (by decide) (fun c_47 => ?_) (fun c_47 => ?_)
        · have hcc_47 := c_47
          replace hsp := hsp.trans (if_pos c_47)
          have hsp := hout_44 _ hsp
          exact j_26 _ _ _ _ ⟨g_37, g_38, g_36, rfl, hg_38, hsp.symm, hP, hD, hS, lv_sub hl [0, 1, 2] rfl⟩
        · have hcc_47 := c_47
          replace hsp := hsp.trans (if_neg c_47)
          refine lv_iconst (v := 0) hx hb dX9_laysLeast_56 (by decide) ?_
          refine lv_istore_n (lv' := [(1, .int 0), (0, .ref (ad 0)), (2, .int (nI g_38))]) hx hb dX9_laysLeast_57 rfl hl (by decide) rfl (fun ls hl => ?_)
          refine lv_iconst (v := 0) hx hb dX9_laysLeast_58 (by decide) ?_
          refine lv_istore_n (lv' := [(3, .int 0), (1, .int 0), (0, .ref (ad 0)), (2, .int (nI g_38))]) hx hb dX9_laysLeast_59 rfl hl (by decide) rfl (fun ls hl => ?_)
          obtain ⟨lf_55, dlf_55, hlf_55, hsp⟩ := itr_ex hsp
          delta sp_EM_laysLeast_L1 at hlf_55
          refine pu_while (fun nn H locs ls => ∃ (g_51 : Nat → Int32) (g_52 : Int32) (g_53 : Nat), nn = 2000 - g_53 ∧ g_53 ≤ 2000 ∧ S_41 = itrv dlf_55 lf_55 (g_51, g_52, g_53) ∧ va_P (dC, dI) vwCl (mo_w ad ck x0 (nI x16) (nI x18) (nI x19) x20 (nI x21) (nI x22) x23 x24 x25 (nI x26) x27 (nI x28) (nI x29) (nI x30) (nI x33) x45 (nI x46) (nI x52) (nI x53) (nI x61) (nI z62_6) (nI z63_7) (nI x65) x66 f1 f2 f3 (bN 3 q4) (bN 7 q5) (bN 7 q6) (bN 4 q7) f8 (bN 2 q9) (bH q10) f11 (b2 m12_0 m12_1) (b2 m13_0 m13_1) (b2 m14_0 m14_1) (b2m m15_0 m15_1) f17 (bA 159 q31) f32 f34 f35 f36 f37 (bN 7 q38) f39 f40 f41 (b2 m42_0 m42_1) f43 f44 f47 f48 f49 f50 f51 (bN 13 q54) (bN 120 z55_2) (bN 120 z56_3) z57_4 (bN 120 z58_5) g_51 f60 f64) H ∧ va_D A (mo_w ad ck x0 (nI x16) (nI x18) (nI x19) x20 (nI x21) (nI x22) x23 x24 x25 (nI x26) x27 (nI x28) (nI x29) (nI x30) (nI x33) x45 (nI x46) (nI x52) (nI x53) (nI x61) (nI z62_6) (nI z63_7) (nI x65) x66 f1 f2 f3 (bN 3 q4) (bN 7 q5) (bN 7 q6) (bN 4 q7) f8 (bN 2 q9) (bH q10) f11 (b2 m12_0 m12_1) (b2 m13_0 m13_1) (b2 m14_0 m14_1) (b2m m15_0 m15_1) f17 (bA 159 q31) f32 f34 f35 f36 f37 (bN 7 q38) f39 f40 f41 (b2 m42_0 m42_1) f43 f44 f47 f48 f49 f50 f51 (bN 13 q54) (bN 120 z55_2) (bN 120 z56_3) z57_4 (bN 120 z58_5) g_51 f60 f64) ∧ va_S A s.heap H locs ∧ lv_has ls 5 [(0, .ref (ad 0)), (1, .int g_52), (2, .int (nI g_38)), (3, .int (nI g_53))]) 60 ?_ _ _ _ _ ⟨g_36, 0, 0, rfl, (Nat.le_of_ble_eq_true rfl), hsp, hP, hD, hS, lv_sub hl [2, 1, 3, 0] rfl⟩
          rintro nn ih_54 H locs ls ⟨g_51, g_52, g_53, rfl, hg_53, he_57, hP, hD, hS, hl⟩
          obtain ⟨S_56, hsp, hin_58, hout_59⟩ := itr_step hlf_55 he_57
          refine lv_iload_n hx hb dX9_laysLeast_60 rfl (lv_at hl 3 rfl) ?_
          refine lv_aload_n hx hb dX9_laysLeast_61 rfl (lv_at hl 0 rfl) ?_
          refine va_get (D := (dC, dI)) (ci := 9) (v := .int (nI z62_6)) (C := RX9) (T := TX9) (N := 67) hx hb hts hiX9 hown hK hP 0 rfl rfl 62 (by decide) v_9 (fun _ h9 => h9) rfl dX9_laysLeast_62 ?_
          refine lv_icmp_ge (tgt := 128) hx hb dX9_laysLeast_65 (by decide) (fun c_60 => ?_) (fun c_60 => ?_)
          · have c_60 : z62_6 ≤ g_53 := (nI_leI (a := z62_6) (b := g_53) (Nat.lt_of_le_of_lt hz62_6 (Nat.le_of_ble_eq_true rfl)) (Nat.lt_of_le_of_lt hg_53 (Nat.le_of_ble_eq_true rfl))).mp c_60
            replace hsp := hsp.trans (if_pos c_60)
            have hsp := hout_59 _ hsp
            refine lv_iinc (v := (nI (g_38 + 1))) (lv' := [(2, .int (nI (g_38 + 1))), (0, .ref (ad 0)), (1, .int g_52), (3, .int (nI g_53))]) hx hb dX9_laysLeast_128 hl (k := 2) rfl (nI_1 _) (by decide) rfl (fun ls hl => ?_)
            refine lv_goto (tgt := 42) hx hb dX9_laysLeast_131 (by decide) ?_
            exact ih_39 (121 - (g_38 + 1)) (by omega) _ _ _ ⟨g_51, g_52, (g_38 + 1), rfl, (by omega), hin_43 _ hsp, hP, hD, hS, lv_sub hl [1, 2, 0] rfl⟩
          · have c_60 : ¬ z62_6 ≤ g_53 := fun z => c_60 ((nI_leI (a := z62_6) (b := g_53) (Nat.lt_of_le_of_lt hz62_6 (Nat.le_of_ble_eq_true rfl)) (Nat.lt_of_le_of_lt hg_53 (Nat.le_of_ble_eq_true rfl))).mpr z)
            replace hsp := hsp.trans (if_neg c_60)
            refine lv_aload_n hx hb dX9_laysLeast_68 rfl (lv_at hl 0 rfl) ?_
            refine va_get (D := (dC, dI)) (ci := 9) (v := .ref (ad 59)) (C := RX9) (T := TX9) (N := 67) hx hb hts hiX9 hown hK hP 0 rfl rfl 59 (by decide) v_7 (fun _ h9 => h9) rfl dX9_laysLeast_69 ?_
            refine lv_aload_n hx hb dX9_laysLeast_72 rfl (lv_at hl 0 rfl) ?_
            refine va_get (D := (dC, dI)) (ci := 9) (v := .ref (ad 55)) (C := RX9) (T := TX9) (N := 67) hx hb hts hiX9 hown hK hP 0 rfl rfl 55 (by decide) v_10 (fun _ h9 => h9) rfl dX9_laysLeast_73 ?_
            refine lv_iload_n hx hb dX9_laysLeast_76 rfl (lv_at hl 3 rfl) ?_
            refine va_iald hx hb hK hP 36 35 rfl rfl (vp_in_nI (n := g_53) (by omega) (Nat.le_of_ble_eq_true rfl)) dX9_laysLeast_77 ?_
            refine lv_topi (fun y_61 ey_61 => ?_)
            obtain ⟨u_62, hu_62, qu_62, xu_62⟩ := bN_getx 120 z55_2 (n := g_53) (Nat.lt_of_le_of_lt hg_53 (Nat.le_of_ble_eq_true rfl))
            obtain rfl : y_61 = nI u_62 := ey_61.trans qu_62
            replace hsp := hsp.trans (slet_eq xu_62)
            refine va_iald hx hb hK hP 40 39 rfl rfl (vp_in_nI (n := u_62) (Nat.lt_of_le_of_lt hu_62 (Nat.le_of_ble_eq_true rfl)) (Nat.le_of_ble_eq_true rfl)) dX9_laysLeast_78 ?_
            refine lv_topi (fun y_63 ey_63 => ?_)
            have ey_63 : y_63 = g_51 u_62 := ey_63.trans (congrArg g_51 (nI_clamp (n := u_62) (Nat.lt_of_le_of_lt hu_62 (Nat.le_of_ble_eq_true rfl))))
            replace hsp := hsp.trans (slet_eq ey_63)
            refine lv_aload_n hx hb dX9_laysLeast_79 rfl (lv_at hl 0 rfl) ?_
            refine va_get (D := (dC, dI)) (ci := 9) (v := .ref (ad 57)) (C := RX9) (T := TX9) (N := 67) hx hb hts hiX9 hown hK hP 0 rfl rfl 57 (by decide) v_11 (fun _ h9 => h9) rfl dX9_laysLeast_80 ?_
            refine lv_iload_n hx hb dX9_laysLeast_83 rfl (lv_at hl 3 rfl) ?_
            refine va_iald hx hb hK hP 38 37 rfl rfl (vp_in_nI (n := g_53) (by omega) (Nat.le_of_ble_eq_true rfl)) dX9_laysLeast_84 ?_
            refine lv_topi (fun y_64 ey_64 => ?_)
            have ey_64 : y_64 = z57_4 g_53 := ey_64.trans (congrArg z57_4 (nI_clamp (n := g_53) (Nat.lt_of_le_of_lt hg_53 (Nat.le_of_ble_eq_true rfl))))
            replace hsp := hsp.trans (slet_eq ey_64)
            refine va_calli (va_runS (As := [.int y_64]) (rest := [.int y_63]) ⟨hx, hb, hml, hown, hts⟩ (c_EM_timesOf l dC dI _ ad ck x0 x16 x18 x19 x20 x21 x22 x23 x24 x25 x26 x27 x28 x29 x30 x33 x45 x46 x52 x53 x61 z62_6 z63_7 x65 x66 f1 f2 f3 q4 q5 q6 q7 f8 q9 q10 f11 m12_0 m12_1 m13_0 m13_1 m14_0 m14_1 m15_0 m15_1 f17 q31 f32 f34 f35 f36 f37 q38 f39 f40 f41 m42_0 m42_1 f43 f44 f47 f48 f49 f50 f51 q54 z55_2 z56_3 z57_4 z58_5 g_51 f60 f64 y_64 hx16 hx18 hx19 hx21 hx22 hx26 hx28 hx29 hx30 hx33 hx46 hx52 hx53 hx61 hz62_6 hz63_7 hx65 hm12_0 hm12_1 hm13_0 hm13_1 hm14_0 hm14_1 hm15_0 hm15_1 hm42_0 hm42_1) (va_cwS 1 hts g_EM_laysLeast_EM_timesOf rfl rfl rfl (by decide +kernel) ⟨Nat.le_of_ble_eq_true rfl, Nat.le_of_ble_eq_true rfl⟩) ⟨pu_bl, pu_in hP hK hD⟩ rfl rfl hl.1 rfl (lv_room (Nat.le_of_ble_eq_true rfl)) dX9_laysLeast_85 ⟨Nat.le_of_ble_eq_true rfl, Nat.le_of_ble_eq_true rfl⟩) hS (fun q _ h => pu_fr hS hA q h) (pu_fr hS hA) (fun r_65 u t H1 locs ht hvm hw hB hz1 hk1 hS => ?_)
            have hP := pu_keep hP hk1
            clear hk1 hz1 ht hvm
            generalize H1 = H at hP hS ⊢
            have ir_65 := hw
            replace hsp := hsp.trans (slet_eq ir_65)
            refine lv_isub hx hb dX9_laysLeast_88 ?_
            refine lv_topi (fun y_66 ey_66 => ?_)
            replace hsp := hsp.trans (slet_eq ey_66)
            refine lv_istore (lv' := [(4, .int y_66), (0, .ref (ad 0)), (1, .int g_52), (2, .int (nI g_38)), (3, .int (nI g_53))]) hx hb dX9_laysLeast_89 hl (by decide) rfl (fun ls hl => ?_)
            refine lv_iload hx hb dX9_laysLeast_91 (lv_at hl 0 rfl) ?_
            refine lv_aload_n hx hb dX9_laysLeast_93 rfl (lv_at hl 1 rfl) ?_
            refine va_get (D := (dC, dI)) (ci := 9) (v := .ref (ad 59)) (C := RX9) (T := TX9) (N := 67) hx hb hts hiX9 hown hK hP 0 rfl rfl 59 (by decide) v_7 (fun _ h9 => h9) rfl dX9_laysLeast_94 ?_
            refine lv_aload_n hx hb dX9_laysLeast_97 rfl (lv_at hl 1 rfl) ?_
            refine va_get (D := (dC, dI)) (ci := 9) (v := .ref (ad 56)) (C := RX9) (T := TX9) (N := 67) hx hb hts hiX9 hown hK hP 0 rfl rfl 56 (by decide) v_15 (fun _ h9 => h9) rfl dX9_laysLeast_98 ?_
            refine lv_iload_n hx hb dX9_laysLeast_101 rfl (lv_at hl 4 rfl) ?_
            refine va_iald hx hb hK hP 37 36 rfl rfl (vp_in_nI (n := g_53) (by omega) (Nat.le_of_ble_eq_true rfl)) dX9_laysLeast_102 ?_
            refine lv_topi (fun y_67 ey_67 => ?_)
            obtain ⟨u_68, hu_68, qu_68, xu_68⟩ := bN_getx 120 z56_3 (n := g_53) (Nat.lt_of_le_of_lt hg_53 (Nat.le_of_ble_eq_true rfl))
            obtain rfl : y_67 = nI u_68 := ey_67.trans qu_68
            replace hsp := hsp.trans (slet_eq xu_68)
            refine va_iald hx hb hK hP 40 39 rfl rfl (vp_in_nI (n := u_68) (Nat.lt_of_le_of_lt hu_68 (Nat.le_of_ble_eq_true rfl)) (Nat.le_of_ble_eq_true rfl)) dX9_laysLeast_103 ?_
            refine lv_topi (fun y_69 ey_69 => ?_)
            have ey_69 : y_69 = g_51 u_68 := ey_69.trans (congrArg g_51 (nI_clamp (n := u_68) (Nat.lt_of_le_of_lt hu_68 (Nat.le_of_ble_eq_true rfl))))
            replace hsp := hsp.trans (slet_eq ey_69)
            obtain ⟨JR_73, hJR_73, hsp⟩ := slet_ex hsp
            refine pu_join (fun H locs ls st => ∃ (g_70 : Int32) (g_71 : Nat → Int32), st = [] ∧ (g_70, g_71) = JR_73 ∧ va_P (dC, dI) vwCl (mo_w ad ck x0 (nI x16) (nI x18) (nI x19) x20 (nI x21) (nI x22) x23 x24 x25 (nI x26) x27 (nI x28) (nI x29) (nI x30) (nI x33) x45 (nI x46) (nI x52) (nI x53) (nI x61) (nI z62_6) (nI z63_7) (nI x65) x66 f1 f2 f3 (bN 3 q4) (bN 7 q5) (bN 7 q6) (bN 4 q7) f8 (bN 2 q9) (bH q10) f11 (b2 m12_0 m12_1) (b2 m13_0 m13_1) (b2 m14_0 m14_1) (b2m m15_0 m15_1) f17 (bA 159 q31) f32 f34 f35 f36 f37 (bN 7 q38) f39 f40 f41 (b2 m42_0 m42_1) f43 f44 f47 f48 f49 f50 f51 (bN 13 q54) (bN 120 z55_2) (bN 120 z56_3) z57_4 (bN 120 z58_5) g_71 f60 f64) H ∧ va_D A (mo_w ad ck x0 (nI x16) (nI x18) (nI x19) x20 (nI x21) (nI x22) x23 x24 x25 (nI x26) x27 (nI x28) (nI x29) (nI x30) (nI x33) x45 (nI x46) (nI x52) (nI x53) (nI x61) (nI z62_6) (nI z63_7) (nI x65) x66 f1 f2 f3 (bN 3 q4) (bN 7 q5) (bN 7 q6) (bN 4 q7) f8 (bN 2 q9) (bH q10) f11 (b2 m12_0 m12_1) (b2 m13_0 m13_1) (b2 m14_0 m14_1) (b2m m15_0 m15_1) f17 (bA 159 q31) f32 f34 f35 f36 f37 (bN 7 q38) f39 f40 f41 (b2 m42_0 m42_1) f43 f44 f47 f48 f49 f50 f51 (bN 13 q54) (bN 120 z55_2) (bN 120 z56_3) z57_4 (bN 120 z58_5) g_71 f60 f64) ∧ va_S A s.heap H locs ∧ lv_has ls 5 [(0, .ref (ad 0)), (1, .int g_70), (2, .int (nI g_38)), (3, .int (nI g_53)), (4, .int y_66)]) 122 ?_ (fun j_72 => ?_)
            · rintro H locs ls st ⟨g_70, g_71, rfl, he_74, hP, hD, hS, hl⟩
              rw [← he_74] at hsp
              refine lv_iinc (v := (nI (g_53 + 1))) (lv' := [(3, .int (nI (g_53 + 1))), (0, .ref (ad 0)), (1, .int g_70), (2, .int (nI g_38)), (4, .int y_66)]) hx hb dX9_laysLeast_122 hl (k := 3) rfl (nI_1 _) (by decide) rfl (fun ls hl => ?_)
              refine lv_goto (tgt := 60) hx hb dX9_laysLeast_125 (by decide) ?_
              exact ih_54 (2000 - (g_53 + 1)) (by omega) _ _ _ ⟨g_71, g_70, (g_53 + 1), rfl, (by omega), hin_58 _ hsp, hP, hD, hS, lv_sub hl [1, 2, 3, 0] rfl⟩
            have hsp := hJR_73
            refine lv_icmp_le (tgt := 122) hx hb dX9_laysLeast_104 (by decide) (fun c_75 => ?_) (fun c_75 => ?_)
            · have hcc_75 := c_75
              replace hsp := hsp.trans (if_pos c_75)
              exact j_72 _ _ _ _ ⟨g_52, g_51, rfl, hsp.symm, hP, hD, hS, lv_sub hl [1, 2, 3, 4, 0] rfl⟩
            · have hcc_75 := c_75
              replace hsp := hsp.trans (if_neg c_75)
              refine lv_aload_n hx hb dX9_laysLeast_107 rfl (lv_at hl 1 rfl) ?_
              refine va_get (D := (dC, dI)) (ci := 9) (v := .ref (ad 59)) (C := RX9) (T := TX9) (N := 67) hx hb hts hiX9 hown hK hP 0 rfl rfl 59 (by decide) v_7 (fun _ h9 => h9) rfl dX9_laysLeast_108 ?_
              refine lv_aload_n hx hb dX9_laysLeast_111 rfl (lv_at hl 1 rfl) ?_
              refine va_get (D := (dC, dI)) (ci := 9) (v := .ref (ad 56)) (C := RX9) (T := TX9) (N := 67) hx hb hts hiX9 hown hK hP 0 rfl rfl 56 (by decide) v_15 (fun _ h9 => h9) rfl dX9_laysLeast_112 ?_
              refine lv_iload_n hx hb dX9_laysLeast_115 rfl (lv_at hl 4 rfl) ?_
              refine va_iald hx hb hK hP 37 36 rfl rfl (vp_in_nI (n := g_53) (by omega) (Nat.le_of_ble_eq_true rfl)) dX9_laysLeast_116 ?_
              refine lv_topi (fun y_76 ey_76 => ?_)
              obtain rfl : y_76 = nI u_68 := ey_76.trans qu_68
              refine lv_iload hx hb dX9_laysLeast_117 (lv_at hl 0 rfl) ?_
              refine va_iast hx hb hK hP hD hS 40 39 rfl rfl (vp_in_nI (n := u_68) (Nat.lt_of_le_of_lt hu_68 (Nat.le_of_ble_eq_true rfl)) (Nat.le_of_ble_eq_true rfl)) dX9_laysLeast_119 (fun H locs hP hD hS => ?_)
              obtain ⟨f_78, ef_78, xf_78⟩ := up_x g_51 (n := u_68) y_66 (Nat.lt_of_le_of_lt hu_68 (Nat.le_of_ble_eq_true rfl))
              have hP : va_P (dC, dI) vwCl (mo_w ad ck x0 (nI x16) (nI x18) (nI x19) x20 (nI x21) (nI x22) x23 x24 x25 (nI x26) x27 (nI x28) (nI x29) (nI x30) (nI x33) x45 (nI x46) (nI x52) (nI x53) (nI x61) (nI z62_6) (nI z63_7) (nI x65) x66 f1 f2 f3 (bN 3 q4) (bN 7 q5) (bN 7 q6) (bN 4 q7) f8 (bN 2 q9) (bH q10) f11 (b2 m12_0 m12_1) (b2 m13_0 m13_1) (b2 m14_0 m14_1) (b2m m15_0 m15_1) f17 (bA 159 q31) f32 f34 f35 f36 f37 (bN 7 q38) f39 f40 f41 (b2 m42_0 m42_1) f43 f44 f47 f48 f49 f50 f51 (bN 13 q54) (bN 120 z55_2) (bN 120 z56_3) z57_4 (bN 120 z58_5) f_78 f60 f64) H := by rw [← ef_78]; exact hP
              have hD : va_D A (mo_w ad ck x0 (nI x16) (nI x18) (nI x19) x20 (nI x21) (nI x22) x23 x24 x25 (nI x26) x27 (nI x28) (nI x29) (nI x30) (nI x33) x45 (nI x46) (nI x52) (nI x53) (nI x61) (nI z62_6) (nI z63_7) (nI x65) x66 f1 f2 f3 (bN 3 q4) (bN 7 q5) (bN 7 q6) (bN 4 q7) f8 (bN 2 q9) (bH q10) f11 (b2 m12_0 m12_1) (b2 m13_0 m13_1) (b2 m14_0 m14_1) (b2m m15_0 m15_1) f17 (bA 159 q31) f32 f34 f35 f36 f37 (bN 7 q38) f39 f40 f41 (b2 m42_0 m42_1) f43 f44 f47 f48 f49 f50 f51 (bN 13 q54) (bN 120 z55_2) (bN 120 z56_3) z57_4 (bN 120 z58_5) f_78 f60 f64) := by rw [← ef_78]; exact hD
              replace hsp := hsp.trans (slet_eq xf_78)
              refine lv_iconst (v := 1) hx hb dX9_laysLeast_120 (by decide) ?_
              refine lv_istore_n (lv' := [(1, .int 1), (4, .int y_66), (0, .ref (ad 0)), (2, .int (nI g_38)), (3, .int (nI g_53))]) hx hb dX9_laysLeast_121 rfl hl (by decide) rfl (fun ls hl => ?_)
              exact j_72 _ _ _ _ ⟨1, f_78, rfl, hsp.symm, hP, hD, hS, lv_sub hl [2, 0, 3, 4, 1] rfl⟩
    have hsp := hJR_21
    refine lv_if_ne (tgt := 38) hx hb dX9_laysLeast_31 (by decide) (fun c_79 => ?_) (fun c_79 => ?_)
    · have c_79 : ¬ z63_7 = 0 := fun z => c_79 ((nI_eq (a := z63_7) (b := 0) (Nat.lt_of_le_of_lt hz63_7 (Nat.le_of_ble_eq_true rfl)) (Nat.le_of_ble_eq_true rfl)).mpr z)
      replace hsp := hsp.trans (if_neg c_79)
      refine lv_iconst (v := 0) hx hb dX9_laysLeast_38 (by decide) ?_
      exact j_20 _ _ _ _ ⟨0, rfl, (Nat.le_of_ble_eq_true rfl), hsp.symm, hP, hD, hS, lv_sub hl [0, 1] rfl⟩
    · have c_79 : z63_7 = 0 := (nI_eq (a := z63_7) (b := 0) (Nat.lt_of_le_of_lt hz63_7 (Nat.le_of_ble_eq_true rfl)) (Nat.le_of_ble_eq_true rfl)).mp c_79
      replace hsp := hsp.trans (if_pos c_79)
      refine lv_iconst (v := 1) hx hb dX9_laysLeast_34 (by decide) ?_
      refine lv_goto (tgt := 39) hx hb dX9_laysLeast_35 (by decide) ?_
      exact j_20 _ _ _ _ ⟨1, rfl, (Nat.le_of_ble_eq_true rfl), hsp.symm, hP, hD, hS, lv_sub hl [0, 1] rfl⟩
  · have c_18 : ¬ x61 < g_11 := fun z => c_18 ((nI_ltI (a := x61) (b := g_11) (Nat.lt_of_le_of_lt hx61 (Nat.le_of_ble_eq_true rfl)) (Nat.lt_of_le_of_lt hg_11 (Nat.le_of_ble_eq_true rfl))).mpr z)
    replace hsp := hsp.trans (if_neg c_18)
    refine lv_aload_n hx hb dX9_laysLeast_14 rfl (lv_at hl 0 rfl) ?_
    refine va_get (D := (dC, dI)) (ci := 9) (v := .ref (ad 59)) (C := RX9) (T := TX9) (N := 67) hx hb hts hiX9 hown hK hP 0 rfl rfl 59 (by decide) v_7 (fun _ h9 => h9) rfl dX9_laysLeast_15 ?_
    refine lv_iload_n hx hb dX9_laysLeast_18 rfl (lv_at hl 1 rfl) ?_
    refine lv_iconst (v := 0) hx hb dX9_laysLeast_19 (by decide) ?_
    refine va_iast hx hb hK hP hD hS 40 39 rfl rfl (vp_in_nI (n := g_11) (Nat.lt_of_le_of_lt hg_11 (Nat.le_of_ble_eq_true rfl)) (Nat.le_of_ble_eq_true rfl)) dX9_laysLeast_20 (fun H locs hP hD hS => ?_)
    obtain ⟨f_80, ef_80, xf_80⟩ := up_x g_10 (n := g_11) 0 (Nat.lt_of_le_of_lt hg_11 (Nat.le_of_ble_eq_true rfl))
    have hP : va_P (dC, dI) vwCl (mo_w ad ck x0 (nI x16) (nI x18) (nI x19) x20 (nI x21) (nI x22) x23 x24 x25 (nI x26) x27 (nI x28) (nI x29) (nI x30) (nI x33) x45 (nI x46) (nI x52) (nI x53) (nI x61) (nI z62_6) (nI z63_7) (nI x65) x66 f1 f2 f3 (bN 3 q4) (bN 7 q5) (bN 7 q6) (bN 4 q7) f8 (bN 2 q9) (bH q10) f11 (b2 m12_0 m12_1) (b2 m13_0 m13_1) (b2 m14_0 m14_1) (b2m m15_0 m15_1) f17 (bA 159 q31) f32 f34 f35 f36 f37 (bN 7 q38) f39 f40 f41 (b2 m42_0 m42_1) f43 f44 f47 f48 f49 f50 f51 (bN 13 q54) (bN 120 z55_2) (bN 120 z56_3) z57_4 (bN 120 z58_5) f_80 f60 f64) H := by rw [← ef_80]; exact hP
    have hD : va_D A (mo_w ad ck x0 (nI x16) (nI x18) (nI x19) x20 (nI x21) (nI x22) x23 x24 x25 (nI x26) x27 (nI x28) (nI x29) (nI x30) (nI x33) x45 (nI x46) (nI x52) (nI x53) (nI x61) (nI z62_6) (nI z63_7) (nI x65) x66 f1 f2 f3 (bN 3 q4) (bN 7 q5) (bN 7 q6) (bN 4 q7) f8 (bN 2 q9) (bH q10) f11 (b2 m12_0 m12_1) (b2 m13_0 m13_1) (b2 m14_0 m14_1) (b2m m15_0 m15_1) f17 (bA 159 q31) f32 f34 f35 f36 f37 (bN 7 q38) f39 f40 f41 (b2 m42_0 m42_1) f43 f44 f47 f48 f49 f50 f51 (bN 13 q54) (bN 120 z55_2) (bN 120 z56_3) z57_4 (bN 120 z58_5) f_80 f60 f64) := by rw [← ef_80]; exact hD
    replace hsp := hsp.trans (slet_eq xf_80)
    refine lv_iinc (v := (nI (g_11 + 1))) (lv' := [(1, .int (nI (g_11 + 1))), (0, .ref (ad 0))]) hx hb dX9_laysLeast_21 hl (k := 1) rfl (nI_1 _) (by decide) rfl (fun ls hl => ?_)
    refine lv_goto (tgt := 6) hx hb dX9_laysLeast_24 (by decide) ?_
    exact ih_12 (120 - (g_11 + 1)) (by omega) _ _ _ ⟨f_80, (g_11 + 1), rfl, (by omega), hin_16 _ hsp, hP, hD, hS, lv_sub hl [1, 0] rfl⟩
theorem dX9_laysGreatest_0 : decode cX9_laysGreatest 0 = .ok (.aload_n 0, 1) := by decide +kernel
theorem dX9_laysGreatest_1 : decode cX9_laysGreatest 1 = .ok (.invokevirtual 444, 3) := by decide +kernel
theorem dX9_laysGreatest_4 : decode cX9_laysGreatest 4 = .ok (.iconst 0, 1) := by decide +kernel
theorem dX9_laysGreatest_5 : decode cX9_laysGreatest 5 = .ok (.istore_n 2, 1) := by decide +kernel
theorem dX9_laysGreatest_6 : decode cX9_laysGreatest 6 = .ok (.iload_n 2, 1) := by decide +kernel
theorem dX9_laysGreatest_7 : decode cX9_laysGreatest 7 = .ok (.aload_n 0, 1) := by decide +kernel
theorem dX9_laysGreatest_8 : decode cX9_laysGreatest 8 = .ok (.getfield 429, 3) := by decide +kernel
theorem dX9_laysGreatest_11 : decode cX9_laysGreatest 11 = .ok (.if_icmp .gt 18, 3) := by decide +kernel
theorem dX9_laysGreatest_14 : decode cX9_laysGreatest 14 = .ok (.aload_n 0, 1) := by decide +kernel
theorem dX9_laysGreatest_15 : decode cX9_laysGreatest 15 = .ok (.getfield 133, 3) := by decide +kernel
theorem dX9_laysGreatest_18 : decode cX9_laysGreatest 18 = .ok (.iload_n 2, 1) := by decide +kernel
theorem dX9_laysGreatest_19 : decode cX9_laysGreatest 19 = .ok (.ldc_w 450, 3) := by decide +kernel
theorem dX9_laysGreatest_22 : decode cX9_laysGreatest 22 = .ok (.iastore, 1) := by decide +kernel
theorem dX9_laysGreatest_23 : decode cX9_laysGreatest 23 = .ok (.iinc 2 1, 3) := by decide +kernel
theorem dX9_laysGreatest_26 : decode cX9_laysGreatest 26 = .ok (.goto (-20), 3) := by decide +kernel
theorem dX9_laysGreatest_29 : decode cX9_laysGreatest 29 = .ok (.aload_n 0, 1) := by decide +kernel
theorem dX9_laysGreatest_30 : decode cX9_laysGreatest 30 = .ok (.getfield 133, 3) := by decide +kernel
theorem dX9_laysGreatest_33 : decode cX9_laysGreatest 33 = .ok (.iconst 0, 1) := by decide +kernel
theorem dX9_laysGreatest_34 : decode cX9_laysGreatest 34 = .ok (.iconst 0, 1) := by decide +kernel
theorem dX9_laysGreatest_35 : decode cX9_laysGreatest 35 = .ok (.iastore, 1) := by decide +kernel
theorem dX9_laysGreatest_36 : decode cX9_laysGreatest 36 = .ok (.aload_n 0, 1) := by decide +kernel
theorem dX9_laysGreatest_37 : decode cX9_laysGreatest 37 = .ok (.getfield 133, 3) := by decide +kernel
theorem dX9_laysGreatest_40 : decode cX9_laysGreatest 40 = .ok (.aload_n 0, 1) := by decide +kernel
theorem dX9_laysGreatest_41 : decode cX9_laysGreatest 41 = .ok (.getfield 429, 3) := by decide +kernel
theorem dX9_laysGreatest_44 : decode cX9_laysGreatest 44 = .ok (.aload_n 0, 1) := by decide +kernel
theorem dX9_laysGreatest_45 : decode cX9_laysGreatest 45 = .ok (.getfield 133, 3) := by decide +kernel
theorem dX9_laysGreatest_48 : decode cX9_laysGreatest 48 = .ok (.aload_n 0, 1) := by decide +kernel
theorem dX9_laysGreatest_49 : decode cX9_laysGreatest 49 = .ok (.getfield 429, 3) := by decide +kernel
theorem dX9_laysGreatest_52 : decode cX9_laysGreatest 52 = .ok (.iaload, 1) := by decide +kernel
theorem dX9_laysGreatest_53 : decode cX9_laysGreatest 53 = .ok (.iload_n 1, 1) := by decide +kernel
theorem dX9_laysGreatest_54 : decode cX9_laysGreatest 54 = .ok (.invokestatic 182, 3) := by decide +kernel
theorem dX9_laysGreatest_57 : decode cX9_laysGreatest 57 = .ok (.iastore, 1) := by decide +kernel
theorem dX9_laysGreatest_58 : decode cX9_laysGreatest 58 = .ok (.aload_n 0, 1) := by decide +kernel
theorem dX9_laysGreatest_59 : decode cX9_laysGreatest 59 = .ok (.getfield 435, 3) := by decide +kernel
theorem dX9_laysGreatest_62 : decode cX9_laysGreatest 62 = .ok (.ifCond .ne 7, 3) := by decide +kernel
theorem dX9_laysGreatest_65 : decode cX9_laysGreatest 65 = .ok (.iconst 1, 1) := by decide +kernel
theorem dX9_laysGreatest_66 : decode cX9_laysGreatest 66 = .ok (.goto 4, 3) := by decide +kernel
theorem dX9_laysGreatest_69 : decode cX9_laysGreatest 69 = .ok (.iconst 0, 1) := by decide +kernel
theorem dX9_laysGreatest_70 : decode cX9_laysGreatest 70 = .ok (.istore_n 2, 1) := by decide +kernel
theorem dX9_laysGreatest_71 : decode cX9_laysGreatest 71 = .ok (.iconst 0, 1) := by decide +kernel
theorem dX9_laysGreatest_72 : decode cX9_laysGreatest 72 = .ok (.istore_n 3, 1) := by decide +kernel
theorem dX9_laysGreatest_73 : decode cX9_laysGreatest 73 = .ok (.iload_n 3, 1) := by decide +kernel
theorem dX9_laysGreatest_74 : decode cX9_laysGreatest 74 = .ok (.aload_n 0, 1) := by decide +kernel
theorem dX9_laysGreatest_75 : decode cX9_laysGreatest 75 = .ok (.getfield 429, 3) := by decide +kernel
theorem dX9_laysGreatest_78 : decode cX9_laysGreatest 78 = .ok (.iconst 1, 1) := by decide +kernel
theorem dX9_laysGreatest_79 : decode cX9_laysGreatest 79 = .ok (.iadd, 1) := by decide +kernel
theorem dX9_laysGreatest_80 : decode cX9_laysGreatest 80 = .ok (.if_icmp .gt 108, 3) := by decide +kernel
theorem dX9_laysGreatest_83 : decode cX9_laysGreatest 83 = .ok (.iload_n 2, 1) := by decide +kernel
theorem dX9_laysGreatest_84 : decode cX9_laysGreatest 84 = .ok (.ifCond .eq 104, 3) := by decide +kernel
theorem dX9_laysGreatest_87 : decode cX9_laysGreatest 87 = .ok (.iconst 0, 1) := by decide +kernel
theorem dX9_laysGreatest_88 : decode cX9_laysGreatest 88 = .ok (.istore_n 2, 1) := by decide +kernel
theorem dX9_laysGreatest_89 : decode cX9_laysGreatest 89 = .ok (.iconst 0, 1) := by decide +kernel
theorem dX9_laysGreatest_90 : decode cX9_laysGreatest 90 = .ok (.istore 4, 2) := by decide +kernel
theorem dX9_laysGreatest_92 : decode cX9_laysGreatest 92 = .ok (.iload 4, 2) := by decide +kernel
theorem dX9_laysGreatest_94 : decode cX9_laysGreatest 94 = .ok (.aload_n 0, 1) := by decide +kernel
theorem dX9_laysGreatest_95 : decode cX9_laysGreatest 95 = .ok (.getfield 432, 3) := by decide +kernel
theorem dX9_laysGreatest_98 : decode cX9_laysGreatest 98 = .ok (.if_icmp .ge 84, 3) := by decide +kernel
theorem dX9_laysGreatest_101 : decode cX9_laysGreatest 101 = .ok (.aload_n 0, 1) := by decide +kernel
theorem dX9_laysGreatest_102 : decode cX9_laysGreatest 102 = .ok (.getfield 133, 3) := by decide +kernel
theorem dX9_laysGreatest_105 : decode cX9_laysGreatest 105 = .ok (.aload_n 0, 1) := by decide +kernel
theorem dX9_laysGreatest_106 : decode cX9_laysGreatest 106 = .ok (.getfield 124, 3) := by decide +kernel
theorem dX9_laysGreatest_109 : decode cX9_laysGreatest 109 = .ok (.iload 4, 2) := by decide +kernel
theorem dX9_laysGreatest_111 : decode cX9_laysGreatest 111 = .ok (.iaload, 1) := by decide +kernel
theorem dX9_laysGreatest_112 : decode cX9_laysGreatest 112 = .ok (.iaload, 1) := by decide +kernel
theorem dX9_laysGreatest_113 : decode cX9_laysGreatest 113 = .ok (.istore 5, 2) := by decide +kernel
theorem dX9_laysGreatest_115 : decode cX9_laysGreatest 115 = .ok (.iload 5, 2) := by decide +kernel
theorem dX9_laysGreatest_117 : decode cX9_laysGreatest 117 = .ok (.ldc_w 450, 3) := by decide +kernel
theorem dX9_laysGreatest_120 : decode cX9_laysGreatest 120 = .ok (.if_icmp .ne 8, 3) := by decide +kernel
theorem dX9_laysGreatest_123 : decode cX9_laysGreatest 123 = .ok (.iload 5, 2) := by decide +kernel
theorem dX9_laysGreatest_125 : decode cX9_laysGreatest 125 = .ok (.goto 16, 3) := by decide +kernel
theorem dX9_laysGreatest_128 : decode cX9_laysGreatest 128 = .ok (.iload 5, 2) := by decide +kernel
theorem dX9_laysGreatest_130 : decode cX9_laysGreatest 130 = .ok (.aload_n 0, 1) := by decide +kernel
theorem dX9_laysGreatest_131 : decode cX9_laysGreatest 131 = .ok (.getfield 127, 3) := by decide +kernel
theorem dX9_laysGreatest_134 : decode cX9_laysGreatest 134 = .ok (.iload 4, 2) := by decide +kernel
theorem dX9_laysGreatest_136 : decode cX9_laysGreatest 136 = .ok (.iaload, 1) := by decide +kernel
theorem dX9_laysGreatest_137 : decode cX9_laysGreatest 137 = .ok (.invokestatic 447, 3) := by decide +kernel
theorem dX9_laysGreatest_140 : decode cX9_laysGreatest 140 = .ok (.iadd, 1) := by decide +kernel
theorem dX9_laysGreatest_141 : decode cX9_laysGreatest 141 = .ok (.istore 6, 2) := by decide +kernel
theorem dX9_laysGreatest_143 : decode cX9_laysGreatest 143 = .ok (.iload 6, 2) := by decide +kernel
theorem dX9_laysGreatest_145 : decode cX9_laysGreatest 145 = .ok (.aload_n 0, 1) := by decide +kernel
theorem dX9_laysGreatest_146 : decode cX9_laysGreatest 146 = .ok (.getfield 133, 3) := by decide +kernel
theorem dX9_laysGreatest_149 : decode cX9_laysGreatest 149 = .ok (.aload_n 0, 1) := by decide +kernel
theorem dX9_laysGreatest_150 : decode cX9_laysGreatest 150 = .ok (.getfield 121, 3) := by decide +kernel
theorem dX9_laysGreatest_153 : decode cX9_laysGreatest 153 = .ok (.iload 4, 2) := by decide +kernel
theorem dX9_laysGreatest_155 : decode cX9_laysGreatest 155 = .ok (.iaload, 1) := by decide +kernel
theorem dX9_laysGreatest_156 : decode cX9_laysGreatest 156 = .ok (.iaload, 1) := by decide +kernel
theorem dX9_laysGreatest_157 : decode cX9_laysGreatest 157 = .ok (.if_icmp .ge 19, 3) := by decide +kernel
theorem dX9_laysGreatest_160 : decode cX9_laysGreatest 160 = .ok (.aload_n 0, 1) := by decide +kernel
theorem dX9_laysGreatest_161 : decode cX9_laysGreatest 161 = .ok (.getfield 133, 3) := by decide +kernel
theorem dX9_laysGreatest_164 : decode cX9_laysGreatest 164 = .ok (.aload_n 0, 1) := by decide +kernel
theorem dX9_laysGreatest_165 : decode cX9_laysGreatest 165 = .ok (.getfield 121, 3) := by decide +kernel
theorem dX9_laysGreatest_168 : decode cX9_laysGreatest 168 = .ok (.iload 4, 2) := by decide +kernel
theorem dX9_laysGreatest_170 : decode cX9_laysGreatest 170 = .ok (.iaload, 1) := by decide +kernel
theorem dX9_laysGreatest_171 : decode cX9_laysGreatest 171 = .ok (.iload 6, 2) := by decide +kernel
theorem dX9_laysGreatest_173 : decode cX9_laysGreatest 173 = .ok (.iastore, 1) := by decide +kernel
theorem dX9_laysGreatest_174 : decode cX9_laysGreatest 174 = .ok (.iconst 1, 1) := by decide +kernel
theorem dX9_laysGreatest_175 : decode cX9_laysGreatest 175 = .ok (.istore_n 2, 1) := by decide +kernel
theorem dX9_laysGreatest_176 : decode cX9_laysGreatest 176 = .ok (.iinc 4 1, 3) := by decide +kernel
theorem dX9_laysGreatest_179 : decode cX9_laysGreatest 179 = .ok (.goto (-87), 3) := by decide +kernel
theorem dX9_laysGreatest_182 : decode cX9_laysGreatest 182 = .ok (.iinc 3 1, 3) := by decide +kernel
theorem dX9_laysGreatest_185 : decode cX9_laysGreatest 185 = .ok (.goto (-112), 3) := by decide +kernel
theorem dX9_laysGreatest_188 : decode cX9_laysGreatest 188 = .ok (.aload_n 0, 1) := by decide +kernel
theorem dX9_laysGreatest_189 : decode cX9_laysGreatest 189 = .ok (.getfield 435, 3) := by decide +kernel
theorem dX9_laysGreatest_192 : decode cX9_laysGreatest 192 = .ok (.ifCond .ne 20, 3) := by decide +kernel
theorem dX9_laysGreatest_195 : decode cX9_laysGreatest 195 = .ok (.iload_n 2, 1) := by decide +kernel
theorem dX9_laysGreatest_196 : decode cX9_laysGreatest 196 = .ok (.ifCond .ne 16, 3) := by decide +kernel
theorem dX9_laysGreatest_199 : decode cX9_laysGreatest 199 = .ok (.aload_n 0, 1) := by decide +kernel
theorem dX9_laysGreatest_200 : decode cX9_laysGreatest 200 = .ok (.getfield 133, 3) := by decide +kernel
theorem dX9_laysGreatest_203 : decode cX9_laysGreatest 203 = .ok (.iconst 0, 1) := by decide +kernel
theorem dX9_laysGreatest_204 : decode cX9_laysGreatest 204 = .ok (.iaload, 1) := by decide +kernel
theorem dX9_laysGreatest_205 : decode cX9_laysGreatest 205 = .ok (.ifCond .ne 7, 3) := by decide +kernel
theorem dX9_laysGreatest_208 : decode cX9_laysGreatest 208 = .ok (.iconst 1, 1) := by decide +kernel
theorem dX9_laysGreatest_209 : decode cX9_laysGreatest 209 = .ok (.goto 4, 3) := by decide +kernel
theorem dX9_laysGreatest_212 : decode cX9_laysGreatest 212 = .ok (.iconst 0, 1) := by decide +kernel
theorem dX9_laysGreatest_213 : decode cX9_laysGreatest 213 = .ok (.ireturn, 1) := by decide +kernel
abbrev vs_EM_laysGreatest : List Cond := .code yX9_laysGreatest cX9_laysGreatest 7 (some .boolean) :: VM
theorem g_EM_laysGreatest_EM_layGaps : GoodIn vs_EM_laysGreatest (wsV RX9 444 RX9 yX9_layGaps vs_EM_layGaps) := gm_V vm_319 vm_320 vm_321 vm_19 vm_322
theorem g_EM_laysGreatest_EM_lesser : GoodIn vs_EM_laysGreatest (va_wsS RX9 182 yX9_lesser vs_EM_lesser) := gm_S vm_59 vm_60 vm_19 vm_61
theorem g_EM_laysGreatest_EM_timesOf : GoodIn vs_EM_laysGreatest (va_wsS RX9 447 yX9_timesOf vs_EM_timesOf) := gm_S vm_323 vm_324 vm_19 vm_325
noncomputable def sp_EM_laysGreatest_L1 (z55_2 : Nat → Nat) (z56_3 : Nat → Nat) (z57_4 : Nat → Int32) (z62_6 : Nat) (g_42 : Nat) : ((Nat → Int32) × Int32 × Nat) → ((Nat → Int32) × Int32 × Nat) ⊕ (((Nat → Int32) × Int32 × Nat) ⊕ (Int32 × Nat × (Nat → Int32))) := fun (g_55, g_56, g_57) => (if z62_6 ≤ g_57 then (Sum.inr (Sum.inl (g_55, g_56, (g_42 + 1)))) else (slet (min (z56_3 g_57) 120) (fun u_66 => (slet (g_55 u_66) (fun y_67 => (slet (α := Int32) (if (y_67 : Int32) = 1073741824 then y_67 else (slet (z57_4 g_57) (fun y_85 => (slet (sp_EM_timesOf y_85) (fun r_86 => (slet ((y_67 : Int32) + r_86) (fun y_87 => y_87))))))) (fun g_68 => (slet (min (z55_2 g_57) 120) (fun u_73 => (slet (g_55 u_73) (fun y_74 => (slet (α := Int32 × (Nat → Int32)) (if (y_74 : Int32) ≤ g_68 then (g_56, g_55) else (slet (upd g_55 u_73 g_68) (fun f_83 => (1, f_83)))) (fun (g_75, g_76) => (Sum.inl (g_76, g_75, (g_57 + 1))))))))))))))))
noncomputable def sp_EM_laysGreatest_L2 (x61 : Nat) (z55_2 : Nat → Nat) (z56_3 : Nat → Nat) (z57_4 : Nat → Int32) (z62_6 : Nat) : ((Nat → Int32) × Int32 × Nat) → ((Nat → Int32) × Int32 × Nat) ⊕ (Int32 × Nat × (Nat → Int32)) := fun (g_40, g_41, g_42) => (if (x61 + 1) < g_42 then (Sum.inr (g_41, g_42, g_40)) else (if (g_41 : Int32) = 0 then (Sum.inr (g_41, g_42, g_40)) else (itrv (α := (Nat → Int32) × Int32 × Nat) (β := (((Nat → Int32) × Int32 × Nat) ⊕ (Int32 × Nat × (Nat → Int32)))) (Sum.inr default) (sp_EM_laysGreatest_L1 z55_2 z56_3 z57_4 z62_6 g_42) (g_40, 0, 0))))
noncomputable def sp_EM_laysGreatest_L3 (x61 : Nat) (p0 : Int32) (z55_2 : Nat → Nat) (z56_3 : Nat → Nat) (z57_4 : Nat → Int32) (z58_5 : Nat → Nat) (z62_6 : Nat) (z63_7 : Nat) : ((Nat → Int32) × Nat) → ((Nat → Int32) × Nat) ⊕ (Nat × (Nat → Nat) × (Nat → Nat) × (Nat → Int32) × (Nat → Nat) × (Nat → Int32) × Nat × Nat) := fun (g_10, g_11) => (if x61 < g_11 then (Sum.inr (slet (upd g_10 0 0) (fun f_19 => (slet (f_19 x61) (fun y_20 => (slet (sp_EM_lesser y_20 p0) (fun r_21 => (slet (upd f_19 x61 r_21) (fun f_22 => (slet (α := Nat) (if z63_7 = 0 then 1 else 0) (fun g_23 => (slet (α := Int32 × Nat × (Nat → Int32)) (itrv (α := (Nat → Int32) × Int32 × Nat) (β := (Int32 × Nat × (Nat → Int32))) default (sp_EM_laysGreatest_L2 x61 z55_2 z56_3 z57_4 z62_6) (f_22, (nI g_23), 0)) (fun (g_27, g_28, g_29) => (if z63_7 = 0 then (if (g_27 : Int32) = 0 then (slet (g_29 0) (fun y_35 => (if (y_35 : Int32) = 0 then (1, z55_2, z56_3, z57_4, z58_5, g_29, z62_6, z63_7) else (0, z55_2, z56_3, z57_4, z58_5, g_29, z62_6, z63_7)))) else (0, z55_2, z56_3, z57_4, z58_5, g_29, z62_6, z63_7)) else (0, z55_2, z56_3, z57_4, z58_5, g_29, z62_6, z63_7))))))))))))))) else (slet (upd g_10 g_11 1073741824) (fun f_89 => (Sum.inl (f_89, (g_11 + 1))))))
noncomputable def sp_EM_laysGreatest (x16 : Nat) (x61 : Nat) (f3 : Nat → Int32) (q4 : Nat → Nat) (q5 : Nat → Nat) (q6 : Nat → Nat) (q7 : Nat → Nat) (f8 : Nat → Int32) (q9 : Nat → Nat) (q10 : Nat → Nat) (f11 : Nat → Int32) (m12_0 : Nat) (m12_1 : Nat) (m13_0 : Nat) (m13_1 : Nat) (m14_0 : Nat) (m14_1 : Nat) (m15_0 : Nat) (m15_1 : Nat) (q54 : Nat → Nat) (q55 : Nat → Nat) (q56 : Nat → Nat) (f57 : Nat → Int32) (q58 : Nat → Nat) (f59 : Nat → Int32) (p0 : Int32) : Nat × (Nat → Nat) × (Nat → Nat) × (Nat → Int32) × (Nat → Nat) × (Nat → Int32) × Nat × Nat := (slet (sp_EM_layGaps x16 x61 f3 q4 q5 q6 q7 f8 q9 q10 f11 m12_0 m12_1 m13_0 m13_1 m14_0 m14_1 m15_0 m15_1 q54 q55 q56 f57 q58) (fun (z55_2, z56_3, z57_4, z58_5, z62_6, z63_7) => (itrv (α := (Nat → Int32) × Nat) (β := (Nat × (Nat → Nat) × (Nat → Nat) × (Nat → Int32) × (Nat → Nat) × (Nat → Int32) × Nat × Nat)) default (sp_EM_laysGreatest_L3 x61 p0 z55_2 z56_3 z57_4 z58_5 z62_6 z63_7) (f59, 0))))
set_option maxHeartbeats 4000000 in
set_option maxRecDepth 100000 in
theorem c_EM_laysGreatest (l : Launch) (dC : Nat → ClassId) (dI : Nat → Nat → Nat) (sz : Nat) (ad : Nat → Nat) (ck : Nat → ClassId) (x0 : Int32) (x16 : Nat) (x18 : Nat) (x19 : Nat) (x20 : Int32) (x21 : Nat) (x22 : Nat) (x23 : Int32) (x24 : Int32) (x25 : Int32) (x26 : Nat) (x27 : Int32) (x28 : Nat) (x29 : Nat) (x30 : Nat) (x33 : Nat) (x45 : Int32) (x46 : Nat) (x52 : Nat) (x53 : Nat) (x61 : Nat) (x62 : Nat) (x63 : Nat) (x65 : Nat) (x66 : Int32) (f1 : Nat → Int32) (f2 : Nat → Int32) (f3 : Nat → Int32) (q4 : Nat → Nat) (q5 : Nat → Nat) (q6 : Nat → Nat) (q7 : Nat → Nat) (f8 : Nat → Int32) (q9 : Nat → Nat) (q10 : Nat → Nat) (f11 : Nat → Int32) (m12_0 m12_1 : Nat) (m13_0 m13_1 : Nat) (m14_0 m14_1 : Nat) (m15_0 m15_1 : Nat) (f17 : Nat → Int32) (q31 : Nat → Nat) (f32 : Nat → Int32) (f34 : Nat → Int32) (f35 : Nat → Int32) (f36 : Nat → Int32) (f37 : Nat → Int32) (q38 : Nat → Nat) (f39 : Nat → Int32) (f40 : Nat → Int32) (f41 : Nat → Int32) (m42_0 m42_1 : Nat) (f43 : Nat → Int32) (f44 : Nat → Int32) (f47 : Nat → Int32) (f48 : Nat → Int32) (f49 : Nat → Int32) (f50 : Nat → Int32) (f51 : Nat → Int32) (q54 : Nat → Nat) (q55 : Nat → Nat) (q56 : Nat → Nat) (f57 : Nat → Int32) (q58 : Nat → Nat) (f59 : Nat → Int32) (f60 : Nat → Int32) (f64 : Nat → Int32) (p0 : Int32) (hx16 : x16 ≤ 1) (hx18 : x18 ≤ 900) (hx19 : x19 ≤ 900) (hx21 : x21 ≤ 900) (hx22 : x22 ≤ 4) (hx26 : x26 ≤ 6) (hx28 : x28 ≤ 1) (hx29 : x29 ≤ 1) (hx30 : x30 ≤ 1) (hx33 : x33 ≤ 20) (hx46 : x46 ≤ 5) (hx52 : x52 ≤ 2400) (hx53 : x53 ≤ 119) (hx61 : x61 ≤ 119) (hx62 : x62 ≤ 2000) (hx63 : x63 ≤ 1) (hx65 : x65 ≤ 7) (hm12_0 : m12_0 ≤ 3) (hm12_1 : m12_1 ≤ 3) (hm13_0 : m13_0 ≤ 8) (hm13_1 : m13_1 ≤ 8) (hm14_0 : m14_0 ≤ 14) (hm14_1 : m14_1 ≤ 14) (hm15_0 : m15_0 ≤ 8) (hm15_1 : m15_1 ≤ 8) (hm42_0 : m42_0 ≤ 120) (hm42_1 : m42_1 ≤ 400) (hbg : (x16 = 0 ∧ (m13_0 = 0 ∨ 1 ≤ m15_0)) ∨ (x16 = 1 ∧ (m13_1 = 0 ∨ 1 ≤ m15_1))) : Met l yX9_laysGreatest vs_EM_laysGreatest ({ frames := 5, cells := 0, slots := 0, locals := 112 }) (va_Pc [.ref (ad 0), .int p0] (pu_B (dC, dI) (mo_w ad ck x0 (nI x16) (nI x18) (nI x19) x20 (nI x21) (nI x22) x23 x24 x25 (nI x26) x27 (nI x28) (nI x29) (nI x30) (nI x33) x45 (nI x46) (nI x52) (nI x53) (nI x61) (nI x62) (nI x63) (nI x65) x66 f1 f2 f3 (bN 3 q4) (bN 7 q5) (bN 7 q6) (bN 4 q7) f8 (bN 2 q9) (bH q10) f11 (b2 m12_0 m12_1) (b2 m13_0 m13_1) (b2 m14_0 m14_1) (b2m m15_0 m15_1) f17 (bA 159 q31) f32 f34 f35 f36 f37 (bN 7 q38) f39 f40 f41 (b2 m42_0 m42_1) f43 f44 f47 f48 f49 f50 f51 (bN 13 q54) (bN 120 q55) (bN 120 q56) f57 (bN 120 q58) f59 f60 f64) (mo_t ck) sz)) (va_Qi (fun (r : Int32) (_ : Unit) => ∃ v : Nat, v ≤ 1 ∧ r = nI v ∧ v = (sp_EM_laysGreatest x16 x61 f3 q4 q5 q6 q7 f8 q9 q10 f11 m12_0 m12_1 m13_0 m13_1 m14_0 m14_1 m15_0 m15_1 q54 q55 q56 f57 q58 f59 p0).1) (fun _ t => ∃ (z55 : Nat → Nat) (z56 : Nat → Nat) (z57 : Nat → Int32) (z58 : Nat → Nat) (z59 : Nat → Int32) (z62 : Nat) (z63 : Nat), pu_E (dC, dI) (mo_w ad ck x0 (nI x16) (nI x18) (nI x19) x20 (nI x21) (nI x22) x23 x24 x25 (nI x26) x27 (nI x28) (nI x29) (nI x30) (nI x33) x45 (nI x46) (nI x52) (nI x53) (nI x61) (nI z62) (nI z63) (nI x65) x66 f1 f2 f3 (bN 3 q4) (bN 7 q5) (bN 7 q6) (bN 4 q7) f8 (bN 2 q9) (bH q10) f11 (b2 m12_0 m12_1) (b2 m13_0 m13_1) (b2 m14_0 m14_1) (b2m m15_0 m15_1) f17 (bA 159 q31) f32 f34 f35 f36 f37 (bN 7 q38) f39 f40 f41 (b2 m42_0 m42_1) f43 f44 f47 f48 f49 f50 f51 (bN 13 q54) (bN 120 z55) (bN 120 z56) z57 (bN 120 z58) z59 f60 f64) (mo_t ck) (va_A ((mo_w ad ck x0 (nI x16) (nI x18) (nI x19) x20 (nI x21) (nI x22) x23 x24 x25 (nI x26) x27 (nI x28) (nI x29) (nI x30) (nI x33) x45 (nI x46) (nI x52) (nI x53) (nI x61) (nI x62) (nI x63) (nI x65) x66 f1 f2 f3 (bN 3 q4) (bN 7 q5) (bN 7 q6) (bN 4 q7) f8 (bN 2 q9) (bH q10) f11 (b2 m12_0 m12_1) (b2 m13_0 m13_1) (b2 m14_0 m14_1) (b2m m15_0 m15_1) f17 (bA 159 q31) f32 f34 f35 f36 f37 (bN 7 q38) f39 f40 f41 (b2 m42_0 m42_1) f43 f44 f47 f48 f49 f50 f51 (bN 13 q54) (bN 120 q55) (bN 120 q56) f57 (bN 120 q58) f59 f60 f64)) sz) t ∧ (z62 ≤ 2000) ∧ (z63 ≤ 1) ∧ ((z55, z56, z57, z58, z59, z62, z63) = (sp_EM_laysGreatest x16 x61 f3 q4 q5 q6 q7 f8 q9 q10 f11 m12_0 m12_1 m13_0 m13_1 m14_0 m14_1 m15_0 m15_1 q54 q55 q56 f57 q58 f59 p0).2)) (va_A ((mo_w ad ck x0 (nI x16) (nI x18) (nI x19) x20 (nI x21) (nI x22) x23 x24 x25 (nI x26) x27 (nI x28) (nI x29) (nI x30) (nI x33) x45 (nI x46) (nI x52) (nI x53) (nI x61) (nI x62) (nI x63) (nI x65) x66 f1 f2 f3 (bN 3 q4) (bN 7 q5) (bN 7 q6) (bN 4 q7) f8 (bN 2 q9) (bH q10) f11 (b2 m12_0 m12_1) (b2 m13_0 m13_1) (b2 m14_0 m14_1) (b2m m15_0 m15_1) f17 (bA 159 q31) f32 f34 f35 f36 f37 (bN 7 q38) f39 f40 f41 (b2 m42_0 m42_1) f43 f44 f47 f48 f49 f50 f51 (bN 13 q54) (bN 120 q55) (bN 120 q56) f57 (bN 120 q58) f59 f60 f64)) sz)) 0 0 (va_A ((mo_w ad ck x0 (nI x16) (nI x18) (nI x19) x20 (nI x21) (nI x22) x23 x24 x25 (nI x26) x27 (nI x28) (nI x29) (nI x30) (nI x33) x45 (nI x46) (nI x52) (nI x53) (nI x61) (nI x62) (nI x63) (nI x65) x66 f1 f2 f3 (bN 3 q4) (bN 7 q5) (bN 7 q6) (bN 4 q7) f8 (bN 2 q9) (bH q10) f11 (b2 m12_0 m12_1) (b2 m13_0 m13_1) (b2 m14_0 m14_1) (b2m m15_0 m15_1) f17 (bA 159 q31) f32 f34 f35 f36 f37 (bN 7 q38) f39 f40 f41 (b2 m42_0 m42_1) f43 f44 f47 f48 f49 f50 f51 (bN 13 q54) (bN 120 q55) (bN 120 q56) f57 (bN 120 q58) f59 f60 f64)) sz) := by
  refine Met.ofW (cc := cX9_laysGreatest) (maxL := 7) (ret := (some .boolean)) (by decide) rfl ?_
  intro p e s m args below meth c s₁ B hml hv
  obtain ⟨rfl, rfl, hP, hK, hD0⟩ := hv
  have hx := B.exec
  have hb := B.bytes
  have hr := B.returns
  have hts := atoms_spec (ws := vs_EM_laysGreatest) B.pre
  have v_6 := hts (.fieldLink RX9 429 "ClockReachModel" "pathMany" "I") (List.mem_cons_of_mem _ vm_303)
  have v_7 := hts (.fieldLink RX9 133 "ClockReachModel" "time" "[I") (List.mem_cons_of_mem _ vm_326)
  have v_8 := hts (.constant RX9 450 (1073741824)) (List.mem_cons_of_mem _ vm_327)
  have v_12 := hts (.fieldLink RX9 435 "ClockReachModel" "isBroken" "Z") (List.mem_cons_of_mem _ vm_314)
  have v_13 := hts (.fieldLink RX9 432 "ClockReachModel" "gaps" "I") (List.mem_cons_of_mem _ vm_306)
  have v_14 := hts (.fieldLink RX9 124 "ClockReachModel" "sooner" "[I") (List.mem_cons_of_mem _ vm_307)
  have v_15 := hts (.fieldLink RX9 127 "ClockReachModel" "gap" "[I") (List.mem_cons_of_mem _ vm_308)
  have v_19 := hts (.fieldLink RX9 121 "ClockReachModel" "later" "[I") (List.mem_cons_of_mem _ vm_305)
  have hown : s.vm.findClass RX9 = some m.cls := findClass_of_methodNamed B.named
  have hlocks := B.notSynchronized
  have hiX9 : ∀ w ∈ wsX90, w ∈ vs_EM_laysGreatest := fun _ h => List.mem_cons_of_mem _ (vmi_L h)
  have hD := hD0.self (sz := s.heap.size)
  generalize hAe : va_A ((mo_w ad ck x0 (nI x16) (nI x18) (nI x19) x20 (nI x21) (nI x22) x23 x24 x25 (nI x26) x27 (nI x28) (nI x29) (nI x30) (nI x33) x45 (nI x46) (nI x52) (nI x53) (nI x61) (nI x62) (nI x63) (nI x65) x66 f1 f2 f3 (bN 3 q4) (bN 7 q5) (bN 7 q6) (bN 4 q7) f8 (bN 2 q9) (bH q10) f11 (b2 m12_0 m12_1) (b2 m13_0 m13_1) (b2 m14_0 m14_1) (b2m m15_0 m15_1) f17 (bA 159 q31) f32 f34 f35 f36 f37 (bN 7 q38) f39 f40 f41 (b2 m42_0 m42_1) f43 f44 f47 f48 f49 f50 f51 (bN 13 q54) (bN 120 q55) (bN 120 q56) f57 (bN 120 q58) f59 f60 f64)) s.heap.size = A at hD ⊢
  have hA : ∀ q : Nat, s.heap.size ≤ q → A q := fun q h => by rw [← hAe]; exact Or.inr h
  have hS : va_S A s.heap s.heap [] := va_S.rf
  have hl := lv_entry ([.ref (ad 0), .int p0]) (n := 7) (Nat.le_of_ble_eq_true rfl)
  rw [lg_entry_eq]
  generalize (lg_sl ([.ref (ad 0), .int p0]) ++ List.replicate (7 - (lg_sl ([.ref (ad 0), .int p0])).length) Slot.unset).toArray = ls at hl ⊢
  have hl : lv_has ls 7 [(0, .ref (ad 0)), (1, .int p0)] := hl
  obtain ⟨RR, hRR⟩ : ∃ x, x = (sp_EM_laysGreatest x16 x61 f3 q4 q5 q6 q7 f8 q9 q10 f11 m12_0 m12_1 m13_0 m13_1 m14_0 m14_1 m15_0 m15_1 q54 q55 q56 f57 q58 f59 p0) := ⟨_, rfl⟩
  have hsp := hRR
  refine lv_aload_n hx hb dX9_laysGreatest_0 rfl (lv_at hl 0 rfl) ?_
  have hFc := pu_free hD hS hA
  refine va_callv (va_runV (As := []) (rest := []) ⟨hx, hb, hml, hown, hts⟩ (c_EM_layGaps l dC dI _ ad ck x0 x16 x18 x19 x20 x21 x22 x23 x24 x25 x26 x27 x28 x29 x30 x33 x45 x46 x52 x53 x61 x62 x63 x65 x66 f1 f2 f3 q4 q5 q6 q7 f8 q9 q10 f11 m12_0 m12_1 m13_0 m13_1 m14_0 m14_1 m15_0 m15_1 f17 q31 f32 f34 f35 f36 f37 q38 f39 f40 f41 m42_0 m42_1 f43 f44 f47 f48 f49 f50 f51 q54 q55 q56 f57 q58 f59 f60 f64 hx16 hx18 hx19 hx21 hx22 hx26 hx28 hx29 hx30 hx33 hx46 hx52 hx53 hx61 hx62 hx63 hx65 hm12_0 hm12_1 hm13_0 hm13_1 hm14_0 hm14_1 hm15_0 hm15_1 hm42_0 hm42_1 (by first | assumption | omega)) (cwV 0 hts g_EM_laysGreatest_EM_layGaps rfl rfl rfl (by decide +kernel) ⟨Nat.le_of_ble_eq_true rfl, Nat.le_of_ble_eq_true rfl⟩) ⟨pu_bl, va_recv hK hP (ci := 9) (q0 := 0) rfl rfl, pu_in hP hK hD⟩ rfl rfl hl.1 rfl (lv_room (Nat.le_of_ble_eq_true rfl)) dX9_laysGreatest_1 ⟨Nat.le_of_ble_eq_true rfl, Nat.le_of_ble_eq_true rfl⟩) hS (fun q _ h => hFc q h) hFc (fun u t H1 locs ht hvm hw hB hz1 hk1 hS => ?_)
  obtain ⟨z55_2, z56_3, z57_4, z58_5, z62_6, z63_7, ⟨hP1, -, hD1⟩, hz62_6, hz63_7, xr_1_0⟩ := hB
  rw [ht] at hP1
  have hP := hP1
  have hD := pu_all hFc hD1
  clear hP1 hD1 hFc
  clear hk1 hz1 ht hvm
  generalize H1 = H at hP hS ⊢
  replace hsp := hsp.trans (slet_eq xr_1_0)
  refine lv_iconst (v := 0) hx hb dX9_laysGreatest_4 (by decide) ?_
  refine lv_istore_n (lv' := [(2, .int 0), (0, .ref (ad 0)), (1, .int p0)]) hx hb dX9_laysGreatest_5 rfl hl (by decide) rfl (fun ls hl => ?_)
  obtain ⟨lf_13, dlf_13, hlf_13, hsp⟩ := itr_ex hsp
  delta sp_EM_laysGreatest_L3 at hlf_13
  refine pu_while (fun nn H locs ls => ∃ (g_10 : Nat → Int32) (g_11 : Nat), nn = 120 - g_11 ∧ g_11 ≤ 120 ∧ RR = itrv dlf_13 lf_13 (g_10, g_11) ∧ va_P (dC, dI) vwCl (mo_w ad ck x0 (nI x16) (nI x18) (nI x19) x20 (nI x21) (nI x22) x23 x24 x25 (nI x26) x27 (nI x28) (nI x29) (nI x30) (nI x33) x45 (nI x46) (nI x52) (nI x53) (nI x61) (nI z62_6) (nI z63_7) (nI x65) x66 f1 f2 f3 (bN 3 q4) (bN 7 q5) (bN 7 q6) (bN 4 q7) f8 (bN 2 q9) (bH q10) f11 (b2 m12_0 m12_1) (b2 m13_0 m13_1) (b2 m14_0 m14_1) (b2m m15_0 m15_1) f17 (bA 159 q31) f32 f34 f35 f36 f37 (bN 7 q38) f39 f40 f41 (b2 m42_0 m42_1) f43 f44 f47 f48 f49 f50 f51 (bN 13 q54) (bN 120 z55_2) (bN 120 z56_3) z57_4 (bN 120 z58_5) g_10 f60 f64) H ∧ va_D A (mo_w ad ck x0 (nI x16) (nI x18) (nI x19) x20 (nI x21) (nI x22) x23 x24 x25 (nI x26) x27 (nI x28) (nI x29) (nI x30) (nI x33) x45 (nI x46) (nI x52) (nI x53) (nI x61) (nI z62_6) (nI z63_7) (nI x65) x66 f1 f2 f3 (bN 3 q4) (bN 7 q5) (bN 7 q6) (bN 4 q7) f8 (bN 2 q9) (bH q10) f11 (b2 m12_0 m12_1) (b2 m13_0 m13_1) (b2 m14_0 m14_1) (b2m m15_0 m15_1) f17 (bA 159 q31) f32 f34 f35 f36 f37 (bN 7 q38) f39 f40 f41 (b2 m42_0 m42_1) f43 f44 f47 f48 f49 f50 f51 (bN 13 q54) (bN 120 z55_2) (bN 120 z56_3) z57_4 (bN 120 z58_5) g_10 f60 f64) ∧ va_S A s.heap H locs ∧ lv_has ls 7 [(0, .ref (ad 0)), (1, .int p0), (2, .int (nI g_11))]) 6 ?_ _ _ _ _ ⟨f59, 0, rfl, (Nat.le_of_ble_eq_true rfl), hsp, hP, hD, hS, lv_sub hl [1, 2, 0] rfl⟩
  rintro nn ih_12 H locs ls ⟨g_10, g_11, rfl, hg_11, he_15, hP, hD, hS, hl⟩
  obtain ⟨S_14, hsp, hin_16, hout_17⟩ := itr_step hlf_13 he_15
  refine lv_iload_n hx hb dX9_laysGreatest_6 rfl (lv_at hl 2 rfl) ?_
  refine lv_aload_n hx hb dX9_laysGreatest_7 rfl (lv_at hl 0 rfl) ?_
  refine va_get (D := (dC, dI)) (ci := 9) (v := .int (nI x61)) (C := RX9) (T := TX9) (N := 67) hx hb hts hiX9 hown hK hP 0 rfl rfl 61 (by decide) v_6 (fun _ h9 => h9) rfl dX9_laysGreatest_8 ?_
  refine lv_icmp_gt (tgt := 29) hx hb dX9_laysGreatest_11 (by decide) (fun c_18 => ?_) (fun c_18 => ?_)
  · have c_18 : x61 < g_11 := (nI_ltI (a := x61) (b := g_11) (Nat.lt_of_le_of_lt hx61 (Nat.le_of_ble_eq_true rfl)) (Nat.lt_of_le_of_lt hg_11 (Nat.le_of_ble_eq_true rfl))).mp c_18
    replace hsp := hsp.trans (if_pos c_18)
    have hsp := hout_17 _ hsp
    refine lv_aload_n hx hb dX9_laysGreatest_29 rfl (lv_at hl 0 rfl) ?_
    refine va_get (D := (dC, dI)) (ci := 9) (v := .ref (ad 59)) (C := RX9) (T := TX9) (N := 67) hx hb hts hiX9 hown hK hP 0 rfl rfl 59 (by decide) v_7 (fun _ h9 => h9) rfl dX9_laysGreatest_30 ?_
    refine lv_iconst (v := 0) hx hb dX9_laysGreatest_33 (by decide) ?_
    refine lv_iconst (v := 0) hx hb dX9_laysGreatest_34 (by decide) ?_
    refine va_iast hx hb hK hP hD hS 40 39 rfl rfl (vp_in_nI (n := 0) (Nat.le_of_ble_eq_true rfl) (Nat.le_of_ble_eq_true rfl)) dX9_laysGreatest_35 (fun H locs hP hD hS => ?_)
    obtain ⟨f_19, ef_19, xf_19⟩ := up_x g_10 (n := 0) 0 (Nat.le_of_ble_eq_true rfl)
    have hP : va_P (dC, dI) vwCl (mo_w ad ck x0 (nI x16) (nI x18) (nI x19) x20 (nI x21) (nI x22) x23 x24 x25 (nI x26) x27 (nI x28) (nI x29) (nI x30) (nI x33) x45 (nI x46) (nI x52) (nI x53) (nI x61) (nI z62_6) (nI z63_7) (nI x65) x66 f1 f2 f3 (bN 3 q4) (bN 7 q5) (bN 7 q6) (bN 4 q7) f8 (bN 2 q9) (bH q10) f11 (b2 m12_0 m12_1) (b2 m13_0 m13_1) (b2 m14_0 m14_1) (b2m m15_0 m15_1) f17 (bA 159 q31) f32 f34 f35 f36 f37 (bN 7 q38) f39 f40 f41 (b2 m42_0 m42_1) f43 f44 f47 f48 f49 f50 f51 (bN 13 q54) (bN 120 z55_2) (bN 120 z56_3) z57_4 (bN 120 z58_5) f_19 f60 f64) H := by rw [← ef_19]; exact hP
    have hD : va_D A (mo_w ad ck x0 (nI x16) (nI x18) (nI x19) x20 (nI x21) (nI x22) x23 x24 x25 (nI x26) x27 (nI x28) (nI x29) (nI x30) (nI x33) x45 (nI x46) (nI x52) (nI x53) (nI x61) (nI z62_6) (nI z63_7) (nI x65) x66 f1 f2 f3 (bN 3 q4) (bN 7 q5) (bN 7 q6) (bN 4 q7) f8 (bN 2 q9) (bH q10) f11 (b2 m12_0 m12_1) (b2 m13_0 m13_1) (b2 m14_0 m14_1) (b2m m15_0 m15_1) f17 (bA 159 q31) f32 f34 f35 f36 f37 (bN 7 q38) f39 f40 f41 (b2 m42_0 m42_1) f43 f44 f47 f48 f49 f50 f51 (bN 13 q54) (bN 120 z55_2) (bN 120 z56_3) z57_4 (bN 120 z58_5) f_19 f60 f64) := by rw [← ef_19]; exact hD
    replace hsp := hsp.trans (slet_eq xf_19)
    refine lv_aload_n hx hb dX9_laysGreatest_36 rfl (lv_at hl 0 rfl) ?_
    refine va_get (D := (dC, dI)) (ci := 9) (v := .ref (ad 59)) (C := RX9) (T := TX9) (N := 67) hx hb hts hiX9 hown hK hP 0 rfl rfl 59 (by decide) v_7 (fun _ h9 => h9) rfl dX9_laysGreatest_37 ?_
    refine lv_aload_n hx hb dX9_laysGreatest_40 rfl (lv_at hl 0 rfl) ?_
    refine va_get (D := (dC, dI)) (ci := 9) (v := .int (nI x61)) (C := RX9) (T := TX9) (N := 67) hx hb hts hiX9 hown hK hP 0 rfl rfl 61 (by decide) v_6 (fun _ h9 => h9) rfl dX9_laysGreatest_41 ?_
    refine lv_aload_n hx hb dX9_laysGreatest_44 rfl (lv_at hl 0 rfl) ?_
    refine va_get (D := (dC, dI)) (ci := 9) (v := .ref (ad 59)) (C := RX9) (T := TX9) (N := 67) hx hb hts hiX9 hown hK hP 0 rfl rfl 59 (by decide) v_7 (fun _ h9 => h9) rfl dX9_laysGreatest_45 ?_
    refine lv_aload_n hx hb dX9_laysGreatest_48 rfl (lv_at hl 0 rfl) ?_
    refine va_get (D := (dC, dI)) (ci := 9) (v := .int (nI x61)) (C := RX9) (T := TX9) (N := 67) hx hb hts hiX9 hown hK hP 0 rfl rfl 61 (by decide) v_6 (fun _ h9 => h9) rfl dX9_laysGreatest_49 ?_
    refine va_iald hx hb hK hP 40 39 rfl rfl (vp_in_nI (n := x61) (Nat.lt_of_le_of_lt hx61 (Nat.le_of_ble_eq_true rfl)) (Nat.le_of_ble_eq_true rfl)) dX9_laysGreatest_52 ?_
    refine lv_topi (fun y_20 ey_20 => ?_)
    have ey_20 : y_20 = f_19 x61 := ey_20.trans (congrArg f_19 (nI_clamp (n := x61) (Nat.lt_of_le_of_lt hx61 (Nat.le_of_ble_eq_true rfl))))
    replace hsp := hsp.trans (slet_eq ey_20)
    refine lv_iload_n hx hb dX9_laysGreatest_53 rfl (lv_at hl 1 rfl) ?_
    refine va_calli (va_runS (As := [.int y_20, .int p0]) (rest := [.int (nI x61), .ref (ad 59)]) ⟨hx, hb, hml, hown, hts⟩ (c_EM_lesser l dC dI _ ad ck x0 x16 x18 x19 x20 x21 x22 x23 x24 x25 x26 x27 x28 x29 x30 x33 x45 x46 x52 x53 x61 z62_6 z63_7 x65 x66 f1 f2 f3 q4 q5 q6 q7 f8 q9 q10 f11 m12_0 m12_1 m13_0 m13_1 m14_0 m14_1 m15_0 m15_1 f17 q31 f32 f34 f35 f36 f37 q38 f39 f40 f41 m42_0 m42_1 f43 f44 f47 f48 f49 f50 f51 q54 z55_2 z56_3 z57_4 z58_5 f_19 f60 f64 y_20 p0 hx16 hx18 hx19 hx21 hx22 hx26 hx28 hx29 hx30 hx33 hx46 hx52 hx53 hx61 hz62_6 hz63_7 hx65 hm12_0 hm12_1 hm13_0 hm13_1 hm14_0 hm14_1 hm15_0 hm15_1 hm42_0 hm42_1) (va_cwS 2 hts g_EM_laysGreatest_EM_lesser rfl rfl rfl (by decide +kernel) ⟨Nat.le_of_ble_eq_true rfl, Nat.le_of_ble_eq_true rfl⟩) ⟨pu_bl, pu_in hP hK hD⟩ rfl rfl hl.1 rfl (lv_room (Nat.le_of_ble_eq_true rfl)) dX9_laysGreatest_54 ⟨Nat.le_of_ble_eq_true rfl, Nat.le_of_ble_eq_true rfl⟩) hS (fun q _ h => pu_fr hS hA q h) (pu_fr hS hA) (fun r_21 u t H1 locs ht hvm hw hB hz1 hk1 hS => ?_)
    have hP := pu_keep hP hk1
    clear hk1 hz1 ht hvm
    generalize H1 = H at hP hS ⊢
    have ir_21 := hw
    replace hsp := hsp.trans (slet_eq ir_21)
    refine va_iast hx hb hK hP hD hS 40 39 rfl rfl (vp_in_nI (n := x61) (Nat.lt_of_le_of_lt hx61 (Nat.le_of_ble_eq_true rfl)) (Nat.le_of_ble_eq_true rfl)) dX9_laysGreatest_57 (fun H locs hP hD hS => ?_)
    obtain ⟨f_22, ef_22, xf_22⟩ := up_x f_19 (n := x61) r_21 (Nat.lt_of_le_of_lt hx61 (Nat.le_of_ble_eq_true rfl))
    have hP : va_P (dC, dI) vwCl (mo_w ad ck x0 (nI x16) (nI x18) (nI x19) x20 (nI x21) (nI x22) x23 x24 x25 (nI x26) x27 (nI x28) (nI x29) (nI x30) (nI x33) x45 (nI x46) (nI x52) (nI x53) (nI x61) (nI z62_6) (nI z63_7) (nI x65) x66 f1 f2 f3 (bN 3 q4) (bN 7 q5) (bN 7 q6) (bN 4 q7) f8 (bN 2 q9) (bH q10) f11 (b2 m12_0 m12_1) (b2 m13_0 m13_1) (b2 m14_0 m14_1) (b2m m15_0 m15_1) f17 (bA 159 q31) f32 f34 f35 f36 f37 (bN 7 q38) f39 f40 f41 (b2 m42_0 m42_1) f43 f44 f47 f48 f49 f50 f51 (bN 13 q54) (bN 120 z55_2) (bN 120 z56_3) z57_4 (bN 120 z58_5) f_22 f60 f64) H := by rw [← ef_22]; exact hP
    have hD : va_D A (mo_w ad ck x0 (nI x16) (nI x18) (nI x19) x20 (nI x21) (nI x22) x23 x24 x25 (nI x26) x27 (nI x28) (nI x29) (nI x30) (nI x33) x45 (nI x46) (nI x52) (nI x53) (nI x61) (nI z62_6) (nI z63_7) (nI x65) x66 f1 f2 f3 (bN 3 q4) (bN 7 q5) (bN 7 q6) (bN 4 q7) f8 (bN 2 q9) (bH q10) f11 (b2 m12_0 m12_1) (b2 m13_0 m13_1) (b2 m14_0 m14_1) (b2m m15_0 m15_1) f17 (bA 159 q31) f32 f34 f35 f36 f37 (bN 7 q38) f39 f40 f41 (b2 m42_0 m42_1) f43 f44 f47 f48 f49 f50 f51 (bN 13 q54) (bN 120 z55_2) (bN 120 z56_3) z57_4 (bN 120 z58_5) f_22 f60 f64) := by rw [← ef_22]; exact hD
    replace hsp := hsp.trans (slet_eq xf_22)
    refine lv_aload_n hx hb dX9_laysGreatest_58 rfl (lv_at hl 0 rfl) ?_
    refine va_get (D := (dC, dI)) (ci := 9) (v := .int (nI z63_7)) (C := RX9) (T := TX9) (N := 67) hx hb hts hiX9 hown hK hP 0 rfl rfl 63 (by decide) v_12 (fun _ h9 => h9) rfl dX9_laysGreatest_59 ?_
    obtain ⟨JR_25, hJR_25, hsp⟩ := slet_ex hsp
    refine pu_join (fun H locs ls st => ∃ (g_23 : Nat), st = [.int (nI g_23)] ∧ g_23 ≤ 1 ∧ g_23 = JR_25 ∧ va_P (dC, dI) vwCl (mo_w ad ck x0 (nI x16) (nI x18) (nI x19) x20 (nI x21) (nI x22) x23 x24 x25 (nI x26) x27 (nI x28) (nI x29) (nI x30) (nI x33) x45 (nI x46) (nI x52) (nI x53) (nI x61) (nI z62_6) (nI z63_7) (nI x65) x66 f1 f2 f3 (bN 3 q4) (bN 7 q5) (bN 7 q6) (bN 4 q7) f8 (bN 2 q9) (bH q10) f11 (b2 m12_0 m12_1) (b2 m13_0 m13_1) (b2 m14_0 m14_1) (b2m m15_0 m15_1) f17 (bA 159 q31) f32 f34 f35 f36 f37 (bN 7 q38) f39 f40 f41 (b2 m42_0 m42_1) f43 f44 f47 f48 f49 f50 f51 (bN 13 q54) (bN 120 z55_2) (bN 120 z56_3) z57_4 (bN 120 z58_5) f_22 f60 f64) H ∧ va_D A (mo_w ad ck x0 (nI x16) (nI x18) (nI x19) x20 (nI x21) (nI x22) x23 x24 x25 (nI x26) x27 (nI x28) (nI x29) (nI x30) (nI x33) x45 (nI x46) (nI x52) (nI x53) (nI x61) (nI z62_6) (nI z63_7) (nI x65) x66 f1 f2 f3 (bN 3 q4) (bN 7 q5) (bN 7 q6) (bN 4 q7) f8 (bN 2 q9) (bH q10) f11 (b2 m12_0 m12_1) (b2 m13_0 m13_1) (b2 m14_0 m14_1) (b2m m15_0 m15_1) f17 (bA 159 q31) f32 f34 f35 f36 f37 (bN 7 q38) f39 f40 f41 (b2 m42_0 m42_1) f43 f44 f47 f48 f49 f50 f51 (bN 13 q54) (bN 120 z55_2) (bN 120 z56_3) z57_4 (bN 120 z58_5) f_22 f60 f64) ∧ va_S A s.heap H locs ∧ lv_has ls 7 [(0, .ref (ad 0)), (1, .int p0), (2, .int (nI g_11))]) 70 ?_ (fun j_24 => ?_)
    · rintro H locs ls st ⟨g_23, rfl, hg_23, he_26, hP, hD, hS, hl⟩
      rw [← he_26] at hsp
      refine lv_istore_n (lv' := [(2, .int (nI g_23)), (0, .ref (ad 0)), (1, .int p0)]) hx hb dX9_laysGreatest_70 rfl hl (by decide) rfl (fun ls hl => ?_)
      refine lv_iconst (v := 0) hx hb dX9_laysGreatest_71 (by decide) ?_
      refine lv_istore_n (lv' := [(3, .int 0), (2, .int (nI g_23)), (0, .ref (ad 0)), (1, .int p0)]) hx hb dX9_laysGreatest_72 rfl hl (by decide) rfl (fun ls hl => ?_)
      obtain ⟨JR_31, hJR_31, hsp⟩ := slet_ex hsp
      refine pu_join (fun H locs ls st => ∃ (g_27 : Int32) (g_28 : Nat) (g_29 : Nat → Int32), st = [] ∧ g_28 ≤ 121 ∧ (g_27, g_28, g_29) = JR_31 ∧ va_P (dC, dI) vwCl (mo_w ad ck x0 (nI x16) (nI x18) (nI x19) x20 (nI x21) (nI x22) x23 x24 x25 (nI x26) x27 (nI x28) (nI x29) (nI x30) (nI x33) x45 (nI x46) (nI x52) (nI x53) (nI x61) (nI z62_6) (nI z63_7) (nI x65) x66 f1 f2 f3 (bN 3 q4) (bN 7 q5) (bN 7 q6) (bN 4 q7) f8 (bN 2 q9) (bH q10) f11 (b2 m12_0 m12_1) (b2 m13_0 m13_1) (b2 m14_0 m14_1) (b2m m15_0 m15_1) f17 (bA 159 q31) f32 f34 f35 f36 f37 (bN 7 q38) f39 f40 f41 (b2 m42_0 m42_1) f43 f44 f47 f48 f49 f50 f51 (bN 13 q54) (bN 120 z55_2) (bN 120 z56_3) z57_4 (bN 120 z58_5) g_29 f60 f64) H ∧ va_D A (mo_w ad ck x0 (nI x16) (nI x18) (nI x19) x20 (nI x21) (nI x22) x23 x24 x25 (nI x26) x27 (nI x28) (nI x29) (nI x30) (nI x33) x45 (nI x46) (nI x52) (nI x53) (nI x61) (nI z62_6) (nI z63_7) (nI x65) x66 f1 f2 f3 (bN 3 q4) (bN 7 q5) (bN 7 q6) (bN 4 q7) f8 (bN 2 q9) (bH q10) f11 (b2 m12_0 m12_1) (b2 m13_0 m13_1) (b2 m14_0 m14_1) (b2m m15_0 m15_1) f17 (bA 159 q31) f32 f34 f35 f36 f37 (bN 7 q38) f39 f40 f41 (b2 m42_0 m42_1) f43 f44 f47 f48 f49 f50 f51 (bN 13 q54) (bN 120 z55_2) (bN 120 z56_3) z57_4 (bN 120 z58_5) g_29 f60 f64) ∧ va_S A s.heap H locs ∧ lv_has ls 7 [(0, .ref (ad 0)), (1, .int p0), (2, .int g_27), (3, .int (nI g_28))]) 188 ?_ (fun j_30 => ?_)
      · rintro H locs ls st ⟨g_27, g_28, g_29, rfl, hg_28, he_32, hP, hD, hS, hl⟩
        rw [← he_32] at hsp
        refine lv_aload_n hx hb dX9_laysGreatest_188 rfl (lv_at hl 0 rfl) ?_
        refine va_get (D := (dC, dI)) (ci := 9) (v := .int (nI z63_7)) (C := RX9) (T := TX9) (N := 67) hx hb hts hiX9 hown hK hP 0 rfl rfl 63 (by decide) v_12 (fun _ h9 => h9) rfl dX9_laysGreatest_189 ?_
        refine lv_if_ne (tgt := 212) hx hb dX9_laysGreatest_192 (by decide) (fun c_33 => ?_) (fun c_33 => ?_)
        · have c_33 : ¬ z63_7 = 0 := fun z => c_33 ((nI_eq (a := z63_7) (b := 0) (Nat.lt_of_le_of_lt hz63_7 (Nat.le_of_ble_eq_true rfl)) (Nat.le_of_ble_eq_true rfl)).mpr z)
          replace hsp := hsp.trans (if_neg c_33)
          refine lv_iconst (v := 0) hx hb dX9_laysGreatest_212 (by decide) ?_
          exact W.zret (v := 0) (ty := .boolean) hx hb hr (rfl) (fun t ht hW => ⟨⟨0, (), rfl, ⟨0, (Nat.le_of_ble_eq_true rfl), rfl, (congrArg Prod.fst (hsp.symm.trans hRR))⟩, ⟨z55_2, z56_3, z57_4, z58_5, g_29, z62_6, z63_7, ⟨by rw [ht]; exact hP, va_K.moved hW.alike hK, hD⟩, hz62_6, hz63_7, (congrArg Prod.snd (hsp.symm.trans hRR))⟩⟩, hS.F ht⟩) hS.2.2 dX9_laysGreatest_213
        · have c_33 : z63_7 = 0 := (nI_eq (a := z63_7) (b := 0) (Nat.lt_of_le_of_lt hz63_7 (Nat.le_of_ble_eq_true rfl)) (Nat.le_of_ble_eq_true rfl)).mp c_33
          replace hsp := hsp.trans (if_pos c_33)
          refine lv_iload_n hx hb dX9_laysGreatest_195 rfl (lv_at hl 2 rfl) ?_
          refine lv_if_ne (tgt := 212) hx hb dX9_laysGreatest_196 (by decide) (fun c_34 => ?_) (fun c_34 => ?_)
          · have hcc_34 := c_34
            replace hsp := hsp.trans (if_neg c_34)
            refine lv_iconst (v := 0) hx hb dX9_laysGreatest_212 (by decide) ?_
            exact W.zret (v := 0) (ty := .boolean) hx hb hr (rfl) (fun t ht hW => ⟨⟨0, (), rfl, ⟨0, (Nat.le_of_ble_eq_true rfl), rfl, (congrArg Prod.fst (hsp.symm.trans hRR))⟩, ⟨z55_2, z56_3, z57_4, z58_5, g_29, z62_6, z63_7, ⟨by rw [ht]; exact hP, va_K.moved hW.alike hK, hD⟩, hz62_6, hz63_7, (congrArg Prod.snd (hsp.symm.trans hRR))⟩⟩, hS.F ht⟩) hS.2.2 dX9_laysGreatest_213
          · have hcc_34 := c_34
            replace hsp := hsp.trans (if_pos c_34)
            refine lv_aload_n hx hb dX9_laysGreatest_199 rfl (lv_at hl 0 rfl) ?_
            refine va_get (D := (dC, dI)) (ci := 9) (v := .ref (ad 59)) (C := RX9) (T := TX9) (N := 67) hx hb hts hiX9 hown hK hP 0 rfl rfl 59 (by decide) v_7 (fun _ h9 => h9) rfl dX9_laysGreatest_200 ?_
            refine lv_iconst (v := 0) hx hb dX9_laysGreatest_203 (by decide) ?_
            refine va_iald hx hb hK hP 40 39 rfl rfl (vp_in_nI (n := 0) (Nat.le_of_ble_eq_true rfl) (Nat.le_of_ble_eq_true rfl)) dX9_laysGreatest_204 ?_
            refine lv_topi (fun y_35 ey_35 => ?_)
            have ey_35 : y_35 = g_29 0 := ey_35.trans (congrArg g_29 (nI_clamp (n := 0) (Nat.le_of_ble_eq_true rfl)))
            replace hsp := hsp.trans (slet_eq ey_35)
            refine lv_if_ne (tgt := 212) hx hb dX9_laysGreatest_205 (by decide) (fun c_36 => ?_) (fun c_36 => ?_)
            · have hcc_36 := c_36
              replace hsp := hsp.trans (if_neg c_36)
              refine lv_iconst (v := 0) hx hb dX9_laysGreatest_212 (by decide) ?_
              exact W.zret (v := 0) (ty := .boolean) hx hb hr (rfl) (fun t ht hW => ⟨⟨0, (), rfl, ⟨0, (Nat.le_of_ble_eq_true rfl), rfl, (congrArg Prod.fst (hsp.symm.trans hRR))⟩, ⟨z55_2, z56_3, z57_4, z58_5, g_29, z62_6, z63_7, ⟨by rw [ht]; exact hP, va_K.moved hW.alike hK, hD⟩, hz62_6, hz63_7, (congrArg Prod.snd (hsp.symm.trans hRR))⟩⟩, hS.F ht⟩) hS.2.2 dX9_laysGreatest_213
            · have hcc_36 := c_36
              replace hsp := hsp.trans (if_pos c_36)
              refine lv_iconst (v := 1) hx hb dX9_laysGreatest_208 (by decide) ?_
              refine lv_goto (tgt := 213) hx hb dX9_laysGreatest_209 (by decide) ?_
              exact W.zret (v := 1) (ty := .boolean) hx hb hr (rfl) (fun t ht hW => ⟨⟨1, (), rfl, ⟨1, (Nat.le_of_ble_eq_true rfl), rfl, (congrArg Prod.fst (hsp.symm.trans hRR))⟩, ⟨z55_2, z56_3, z57_4, z58_5, g_29, z62_6, z63_7, ⟨by rw [ht]; exact hP, va_K.moved hW.alike hK, hD⟩, hz62_6, hz63_7, (congrArg Prod.snd (hsp.symm.trans hRR))⟩⟩, hS.F ht⟩) hS.2.2 dX9_laysGreatest_213
      have hsp := hJR_31
      obtain ⟨lf_44, dlf_44, hlf_44, hsp⟩ := itr_ex hsp
      delta sp_EM_laysGreatest_L2 at hlf_44
      refine pu_while (fun nn H locs ls => ∃ (g_40 : Nat → Int32) (g_41 : Int32) (g_42 : Nat), nn = 121 - g_42 ∧ g_42 ≤ 121 ∧ JR_31 = itrv dlf_44 lf_44 (g_40, g_41, g_42) ∧ va_P (dC, dI) vwCl (mo_w ad ck x0 (nI x16) (nI x18) (nI x19) x20 (nI x21) (nI x22) x23 x24 x25 (nI x26) x27 (nI x28) (nI x29) (nI x30) (nI x33) x45 (nI x46) (nI x52) (nI x53) (nI x61) (nI z62_6) (nI z63_7) (nI x65) x66 f1 f2 f3 (bN 3 q4) (bN 7 q5) (bN 7 q6) (bN 4 q7) f8 (bN 2 q9) (bH q10) f11 (b2 m12_0 m12_1) (b2 m13_0 m13_1) (b2 m14_0 m14_1) (b2m m15_0 m15_1) f17 (bA 159 q31) f32 f34 f35 f36 f37 (bN 7 q38) f39 f40 f41 (b2 m42_0 m42_1) f43 f44 f47 f48 f49 f50 f51 (bN 13 q54) (bN 120 z55_2) (bN 120 z56_3) z57_4 (bN 120 z58_5) g_40 f60 f64) H ∧ va_D A (mo_w ad ck x0 (nI x16) (nI x18) (nI x19) x20 (nI x21) (nI x22) x23 x24 x25 (nI x26) x27 (nI x28) (nI x29) (nI x30) (nI x33) x45 (nI x46) (nI x52) (nI x53) (nI x61) (nI z62_6) (nI z63_7) (nI x65) x66 f1 f2 f3 (bN 3 q4) (bN 7 q5) (bN 7 q6) (bN 4 q7) f8 (bN 2 q9) (bH q10) f11 (b2 m12_0 m12_1) (b2 m13_0 m13_1) (b2 m14_0 m14_1) (b2m m15_0 m15_1) f17 (bA 159 q31) f32 f34 f35 f36 f37 (bN 7 q38) f39 f40 f41 (b2 m42_0 m42_1) f43 f44 f47 f48 f49 f50 f51 (bN 13 q54) (bN 120 z55_2) (bN 120 z56_3) z57_4 (bN 120 z58_5) g_40 f60 f64) ∧ va_S A s.heap H locs ∧ lv_has ls 7 [(0, .ref (ad 0)), (1, .int p0), (2, .int g_41), (3, .int (nI g_42))]) 73 ?_ _ _ _ _ ⟨f_22, (nI g_23), 0, rfl, (Nat.le_of_ble_eq_true rfl), hsp, hP, hD, hS, lv_sub hl [2, 3, 1, 0] rfl⟩
      rintro nn ih_43 H locs ls ⟨g_40, g_41, g_42, rfl, hg_42, he_46, hP, hD, hS, hl⟩
      obtain ⟨S_45, hsp, hin_47, hout_48⟩ := itr_step hlf_44 he_46
      refine lv_iload_n hx hb dX9_laysGreatest_73 rfl (lv_at hl 3 rfl) ?_
      refine lv_aload_n hx hb dX9_laysGreatest_74 rfl (lv_at hl 0 rfl) ?_
      refine va_get (D := (dC, dI)) (ci := 9) (v := .int (nI x61)) (C := RX9) (T := TX9) (N := 67) hx hb hts hiX9 hown hK hP 0 rfl rfl 61 (by decide) v_6 (fun _ h9 => h9) rfl dX9_laysGreatest_75 ?_
      refine lv_iconst (v := 1) hx hb dX9_laysGreatest_78 (by decide) ?_
      refine lv_iadd hx hb dX9_laysGreatest_79 ?_
      refine lv_topi (fun y_49 ey_49 => ?_)
      obtain rfl : y_49 = (nI (x61 + 1)) := ey_49.trans (nI_add x61 1)
      refine lv_icmp_gt (tgt := 188) hx hb dX9_laysGreatest_80 (by decide) (fun c_50 => ?_) (fun c_50 => ?_)
      · have c_50 : (x61 + 1) < g_42 := (nI_ltI (a := (x61 + 1)) (b := g_42) (by omega) (Nat.lt_of_le_of_lt hg_42 (Nat.le_of_ble_eq_true rfl))).mp c_50
        replace hsp := hsp.trans (if_pos c_50)
        have hsp := hout_48 _ hsp
        exact j_30 _ _ _ _ ⟨g_41, g_42, g_40, rfl, hg_42, hsp.symm, hP, hD, hS, lv_sub hl [0, 1, 2, 3] rfl⟩
      · have c_50 : ¬ (x61 + 1) < g_42 := fun z => c_50 ((nI_ltI (a := (x61 + 1)) (b := g_42) (by omega) (Nat.lt_of_le_of_lt hg_42 (Nat.le_of_ble_eq_true rfl))).mpr z)
        replace hsp := hsp.trans (if_neg c_50)
        refine lv_iload_n hx hb dX9_laysGreatest_83 rfl (lv_at hl 2 rfl) ?_
        refine lv_if_eq (tgt := 188) hx hb dX9_laysGreatest_84 (by decide) (fun c_51 => ?_) (fun c_51 => ?_)
        · have hcc_51 := c_51
          replace hsp := hsp.trans (if_pos c_51)
          have hsp := hout_48 _ hsp
          exact j_30 _ _ _ _ ⟨g_41, g_42, g_40, rfl, hg_42, hsp.symm, hP, hD, hS, lv_sub hl [0, 1, 2, 3] rfl⟩
        · have hcc_51 := c_51
          replace hsp := hsp.trans (if_neg c_51)
          refine lv_iconst (v := 0) hx hb dX9_laysGreatest_87 (by decide) ?_
          refine lv_istore_n (lv' := [(2, .int 0), (0, .ref (ad 0)), (1, .int p0), (3, .int (nI g_42))]) hx hb dX9_laysGreatest_88 rfl hl (by decide) rfl (fun ls hl => ?_)
          refine lv_iconst (v := 0) hx hb dX9_laysGreatest_89 (by decide) ?_
          refine lv_istore (lv' := [(4, .int 0), (2, .int 0), (0, .ref (ad 0)), (1, .int p0), (3, .int (nI g_42))]) hx hb dX9_laysGreatest_90 hl (by decide) rfl (fun ls hl => ?_)
          obtain ⟨lf_59, dlf_59, hlf_59, hsp⟩ := itr_ex hsp
          delta sp_EM_laysGreatest_L1 at hlf_59
          refine pu_while (fun nn H locs ls => ∃ (g_55 : Nat → Int32) (g_56 : Int32) (g_57 : Nat), nn = 2000 - g_57 ∧ g_57 ≤ 2000 ∧ S_45 = itrv dlf_59 lf_59 (g_55, g_56, g_57) ∧ va_P (dC, dI) vwCl (mo_w ad ck x0 (nI x16) (nI x18) (nI x19) x20 (nI x21) (nI x22) x23 x24 x25 (nI x26) x27 (nI x28) (nI x29) (nI x30) (nI x33) x45 (nI x46) (nI x52) (nI x53) (nI x61) (nI z62_6) (nI z63_7) (nI x65) x66 f1 f2 f3 (bN 3 q4) (bN 7 q5) (bN 7 q6) (bN 4 q7) f8 (bN 2 q9) (bH q10) f11 (b2 m12_0 m12_1) (b2 m13_0 m13_1) (b2 m14_0 m14_1) (b2m m15_0 m15_1) f17 (bA 159 q31) f32 f34 f35 f36 f37 (bN 7 q38) f39 f40 f41 (b2 m42_0 m42_1) f43 f44 f47 f48 f49 f50 f51 (bN 13 q54) (bN 120 z55_2) (bN 120 z56_3) z57_4 (bN 120 z58_5) g_55 f60 f64) H ∧ va_D A (mo_w ad ck x0 (nI x16) (nI x18) (nI x19) x20 (nI x21) (nI x22) x23 x24 x25 (nI x26) x27 (nI x28) (nI x29) (nI x30) (nI x33) x45 (nI x46) (nI x52) (nI x53) (nI x61) (nI z62_6) (nI z63_7) (nI x65) x66 f1 f2 f3 (bN 3 q4) (bN 7 q5) (bN 7 q6) (bN 4 q7) f8 (bN 2 q9) (bH q10) f11 (b2 m12_0 m12_1) (b2 m13_0 m13_1) (b2 m14_0 m14_1) (b2m m15_0 m15_1) f17 (bA 159 q31) f32 f34 f35 f36 f37 (bN 7 q38) f39 f40 f41 (b2 m42_0 m42_1) f43 f44 f47 f48 f49 f50 f51 (bN 13 q54) (bN 120 z55_2) (bN 120 z56_3) z57_4 (bN 120 z58_5) g_55 f60 f64) ∧ va_S A s.heap H locs ∧ lv_has ls 7 [(0, .ref (ad 0)), (1, .int p0), (2, .int g_56), (3, .int (nI g_42)), (4, .int (nI g_57))]) 92 ?_ _ _ _ _ ⟨g_40, 0, 0, rfl, (Nat.le_of_ble_eq_true rfl), hsp, hP, hD, hS, lv_sub hl [2, 3, 1, 4, 0] rfl⟩
          rintro nn ih_58 H locs ls ⟨g_55, g_56, g_57, rfl, hg_57, he_61, hP, hD, hS, hl⟩
          obtain ⟨S_60, hsp, hin_62, hout_63⟩ := itr_step hlf_59 he_61
          refine lv_iload hx hb dX9_laysGreatest_92 (lv_at hl 4 rfl) ?_
          refine lv_aload_n hx hb dX9_laysGreatest_94 rfl (lv_at hl 0 rfl) ?_
          refine va_get (D := (dC, dI)) (ci := 9) (v := .int (nI z62_6)) (C := RX9) (T := TX9) (N := 67) hx hb hts hiX9 hown hK hP 0 rfl rfl 62 (by decide) v_13 (fun _ h9 => h9) rfl dX9_laysGreatest_95 ?_
          refine lv_icmp_ge (tgt := 182) hx hb dX9_laysGreatest_98 (by decide) (fun c_64 => ?_) (fun c_64 => ?_)
          · have c_64 : z62_6 ≤ g_57 := (nI_leI (a := z62_6) (b := g_57) (Nat.lt_of_le_of_lt hz62_6 (Nat.le_of_ble_eq_true rfl)) (Nat.lt_of_le_of_lt hg_57 (Nat.le_of_ble_eq_true rfl))).mp c_64
            replace hsp := hsp.trans (if_pos c_64)
            have hsp := hout_63 _ hsp
            refine lv_iinc (v := (nI (g_42 + 1))) (lv' := [(3, .int (nI (g_42 + 1))), (0, .ref (ad 0)), (1, .int p0), (2, .int g_56), (4, .int (nI g_57))]) hx hb dX9_laysGreatest_182 hl (k := 3) rfl (nI_1 _) (by decide) rfl (fun ls hl => ?_)
            refine lv_goto (tgt := 73) hx hb dX9_laysGreatest_185 (by decide) ?_
            exact ih_43 (121 - (g_42 + 1)) (by omega) _ _ _ ⟨g_55, g_56, (g_42 + 1), rfl, (by omega), hin_47 _ hsp, hP, hD, hS, lv_sub hl [1, 2, 3, 0] rfl⟩
          · have c_64 : ¬ z62_6 ≤ g_57 := fun z => c_64 ((nI_leI (a := z62_6) (b := g_57) (Nat.lt_of_le_of_lt hz62_6 (Nat.le_of_ble_eq_true rfl)) (Nat.lt_of_le_of_lt hg_57 (Nat.le_of_ble_eq_true rfl))).mpr z)
            replace hsp := hsp.trans (if_neg c_64)
            refine lv_aload_n hx hb dX9_laysGreatest_101 rfl (lv_at hl 0 rfl) ?_
            refine va_get (D := (dC, dI)) (ci := 9) (v := .ref (ad 59)) (C := RX9) (T := TX9) (N := 67) hx hb hts hiX9 hown hK hP 0 rfl rfl 59 (by decide) v_7 (fun _ h9 => h9) rfl dX9_laysGreatest_102 ?_
            refine lv_aload_n hx hb dX9_laysGreatest_105 rfl (lv_at hl 0 rfl) ?_
            refine va_get (D := (dC, dI)) (ci := 9) (v := .ref (ad 56)) (C := RX9) (T := TX9) (N := 67) hx hb hts hiX9 hown hK hP 0 rfl rfl 56 (by decide) v_14 (fun _ h9 => h9) rfl dX9_laysGreatest_106 ?_
            refine lv_iload hx hb dX9_laysGreatest_109 (lv_at hl 4 rfl) ?_
            refine va_iald hx hb hK hP 37 36 rfl rfl (vp_in_nI (n := g_57) (by omega) (Nat.le_of_ble_eq_true rfl)) dX9_laysGreatest_111 ?_
            refine lv_topi (fun y_65 ey_65 => ?_)
            obtain ⟨u_66, hu_66, qu_66, xu_66⟩ := bN_getx 120 z56_3 (n := g_57) (Nat.lt_of_le_of_lt hg_57 (Nat.le_of_ble_eq_true rfl))
            obtain rfl : y_65 = nI u_66 := ey_65.trans qu_66
            replace hsp := hsp.trans (slet_eq xu_66)
            refine va_iald hx hb hK hP 40 39 rfl rfl (vp_in_nI (n := u_66) (Nat.lt_of_le_of_lt hu_66 (Nat.le_of_ble_eq_true rfl)) (Nat.le_of_ble_eq_true rfl)) dX9_laysGreatest_112 ?_
            refine lv_topi (fun y_67 ey_67 => ?_)
            have ey_67 : y_67 = g_55 u_66 := ey_67.trans (congrArg g_55 (nI_clamp (n := u_66) (Nat.lt_of_le_of_lt hu_66 (Nat.le_of_ble_eq_true rfl))))
            replace hsp := hsp.trans (slet_eq ey_67)
            refine lv_istore (lv' := [(5, .int y_67), (0, .ref (ad 0)), (1, .int p0), (2, .int g_56), (3, .int (nI g_42)), (4, .int (nI g_57))]) hx hb dX9_laysGreatest_113 hl (by decide) rfl (fun ls hl => ?_)
            refine lv_iload hx hb dX9_laysGreatest_115 (lv_at hl 0 rfl) ?_
            refine lv_ldcw hx hb hown v_8 dX9_laysGreatest_117 ?_
            obtain ⟨JR_70, hJR_70, hsp⟩ := slet_ex hsp
            refine pu_join (fun H locs ls st => ∃ (g_68 : Int32), st = [.int g_68] ∧ g_68 = JR_70 ∧ va_P (dC, dI) vwCl (mo_w ad ck x0 (nI x16) (nI x18) (nI x19) x20 (nI x21) (nI x22) x23 x24 x25 (nI x26) x27 (nI x28) (nI x29) (nI x30) (nI x33) x45 (nI x46) (nI x52) (nI x53) (nI x61) (nI z62_6) (nI z63_7) (nI x65) x66 f1 f2 f3 (bN 3 q4) (bN 7 q5) (bN 7 q6) (bN 4 q7) f8 (bN 2 q9) (bH q10) f11 (b2 m12_0 m12_1) (b2 m13_0 m13_1) (b2 m14_0 m14_1) (b2m m15_0 m15_1) f17 (bA 159 q31) f32 f34 f35 f36 f37 (bN 7 q38) f39 f40 f41 (b2 m42_0 m42_1) f43 f44 f47 f48 f49 f50 f51 (bN 13 q54) (bN 120 z55_2) (bN 120 z56_3) z57_4 (bN 120 z58_5) g_55 f60 f64) H ∧ va_D A (mo_w ad ck x0 (nI x16) (nI x18) (nI x19) x20 (nI x21) (nI x22) x23 x24 x25 (nI x26) x27 (nI x28) (nI x29) (nI x30) (nI x33) x45 (nI x46) (nI x52) (nI x53) (nI x61) (nI z62_6) (nI z63_7) (nI x65) x66 f1 f2 f3 (bN 3 q4) (bN 7 q5) (bN 7 q6) (bN 4 q7) f8 (bN 2 q9) (bH q10) f11 (b2 m12_0 m12_1) (b2 m13_0 m13_1) (b2 m14_0 m14_1) (b2m m15_0 m15_1) f17 (bA 159 q31) f32 f34 f35 f36 f37 (bN 7 q38) f39 f40 f41 (b2 m42_0 m42_1) f43 f44 f47 f48 f49 f50 f51 (bN 13 q54) (bN 120 z55_2) (bN 120 z56_3) z57_4 (bN 120 z58_5) g_55 f60 f64) ∧ va_S A s.heap H locs ∧ lv_has ls 7 [(0, .ref (ad 0)), (1, .int p0), (2, .int g_56), (3, .int (nI g_42)), (4, .int (nI g_57)), (5, .int y_67)]) 141 ?_ (fun j_69 => ?_)
            · rintro H locs ls st ⟨g_68, rfl, he_71, hP, hD, hS, hl⟩
              rw [← he_71] at hsp
              refine lv_istore (lv' := [(6, .int g_68), (0, .ref (ad 0)), (1, .int p0), (2, .int g_56), (3, .int (nI g_42)), (4, .int (nI g_57)), (5, .int y_67)]) hx hb dX9_laysGreatest_141 hl (by decide) rfl (fun ls hl => ?_)
              refine lv_iload hx hb dX9_laysGreatest_143 (lv_at hl 0 rfl) ?_
              refine lv_aload_n hx hb dX9_laysGreatest_145 rfl (lv_at hl 1 rfl) ?_
              refine va_get (D := (dC, dI)) (ci := 9) (v := .ref (ad 59)) (C := RX9) (T := TX9) (N := 67) hx hb hts hiX9 hown hK hP 0 rfl rfl 59 (by decide) v_7 (fun _ h9 => h9) rfl dX9_laysGreatest_146 ?_
              refine lv_aload_n hx hb dX9_laysGreatest_149 rfl (lv_at hl 1 rfl) ?_
              refine va_get (D := (dC, dI)) (ci := 9) (v := .ref (ad 55)) (C := RX9) (T := TX9) (N := 67) hx hb hts hiX9 hown hK hP 0 rfl rfl 55 (by decide) v_19 (fun _ h9 => h9) rfl dX9_laysGreatest_150 ?_
              refine lv_iload hx hb dX9_laysGreatest_153 (lv_at hl 5 rfl) ?_
              refine va_iald hx hb hK hP 36 35 rfl rfl (vp_in_nI (n := g_57) (by omega) (Nat.le_of_ble_eq_true rfl)) dX9_laysGreatest_155 ?_
              refine lv_topi (fun y_72 ey_72 => ?_)
              obtain ⟨u_73, hu_73, qu_73, xu_73⟩ := bN_getx 120 z55_2 (n := g_57) (Nat.lt_of_le_of_lt hg_57 (Nat.le_of_ble_eq_true rfl))
              obtain rfl : y_72 = nI u_73 := ey_72.trans qu_73
              replace hsp := hsp.trans (slet_eq xu_73)
              refine va_iald hx hb hK hP 40 39 rfl rfl (vp_in_nI (n := u_73) (Nat.lt_of_le_of_lt hu_73 (Nat.le_of_ble_eq_true rfl)) (Nat.le_of_ble_eq_true rfl)) dX9_laysGreatest_156 ?_
              refine lv_topi (fun y_74 ey_74 => ?_)
              have ey_74 : y_74 = g_55 u_73 := ey_74.trans (congrArg g_55 (nI_clamp (n := u_73) (Nat.lt_of_le_of_lt hu_73 (Nat.le_of_ble_eq_true rfl))))
              replace hsp := hsp.trans (slet_eq ey_74)
              obtain ⟨JR_78, hJR_78, hsp⟩ := slet_ex hsp
              refine pu_join (fun H locs ls st => ∃ (g_75 : Int32) (g_76 : Nat → Int32), st = [] ∧ (g_75, g_76) = JR_78 ∧ va_P (dC, dI) vwCl (mo_w ad ck x0 (nI x16) (nI x18) (nI x19) x20 (nI x21) (nI x22) x23 x24 x25 (nI x26) x27 (nI x28) (nI x29) (nI x30) (nI x33) x45 (nI x46) (nI x52) (nI x53) (nI x61) (nI z62_6) (nI z63_7) (nI x65) x66 f1 f2 f3 (bN 3 q4) (bN 7 q5) (bN 7 q6) (bN 4 q7) f8 (bN 2 q9) (bH q10) f11 (b2 m12_0 m12_1) (b2 m13_0 m13_1) (b2 m14_0 m14_1) (b2m m15_0 m15_1) f17 (bA 159 q31) f32 f34 f35 f36 f37 (bN 7 q38) f39 f40 f41 (b2 m42_0 m42_1) f43 f44 f47 f48 f49 f50 f51 (bN 13 q54) (bN 120 z55_2) (bN 120 z56_3) z57_4 (bN 120 z58_5) g_76 f60 f64) H ∧ va_D A (mo_w ad ck x0 (nI x16) (nI x18) (nI x19) x20 (nI x21) (nI x22) x23 x24 x25 (nI x26) x27 (nI x28) (nI x29) (nI x30) (nI x33) x45 (nI x46) (nI x52) (nI x53) (nI x61) (nI z62_6) (nI z63_7) (nI x65) x66 f1 f2 f3 (bN 3 q4) (bN 7 q5) (bN 7 q6) (bN 4 q7) f8 (bN 2 q9) (bH q10) f11 (b2 m12_0 m12_1) (b2 m13_0 m13_1) (b2 m14_0 m14_1) (b2m m15_0 m15_1) f17 (bA 159 q31) f32 f34 f35 f36 f37 (bN 7 q38) f39 f40 f41 (b2 m42_0 m42_1) f43 f44 f47 f48 f49 f50 f51 (bN 13 q54) (bN 120 z55_2) (bN 120 z56_3) z57_4 (bN 120 z58_5) g_76 f60 f64) ∧ va_S A s.heap H locs ∧ lv_has ls 7 [(0, .ref (ad 0)), (1, .int p0), (2, .int g_75), (3, .int (nI g_42)), (4, .int (nI g_57)), (5, .int y_67), (6, .int g_68)]) 176 ?_ (fun j_77 => ?_)
              · rintro H locs ls st ⟨g_75, g_76, rfl, he_79, hP, hD, hS, hl⟩
                rw [← he_79] at hsp
                refine lv_iinc (v := (nI (g_57 + 1))) (lv' := [(4, .int (nI (g_57 + 1))), (0, .ref (ad 0)), (1, .int p0), (2, .int g_75), (3, .int (nI g_42)), (5, .int y_67), (6, .int g_68)]) hx hb dX9_laysGreatest_176 hl (k := 4) rfl (nI_1 _) (by decide) rfl (fun ls hl => ?_)
                refine lv_goto (tgt := 92) hx hb dX9_laysGreatest_179 (by decide) ?_
                exact ih_58 (2000 - (g_57 + 1)) (by omega) _ _ _ ⟨g_76, g_75, (g_57 + 1), rfl, (by omega), hin_62 _ hsp, hP, hD, hS, lv_sub hl [1, 2, 3, 4, 0] rfl⟩
              have hsp := hJR_78
              refine lv_icmp_ge (tgt := 176) hx hb dX9_laysGreatest_157 (by decide) (fun c_80 => ?_) (fun c_80 => ?_)
              · have hcc_80 := c_80
                replace hsp := hsp.trans (if_pos c_80)
                exact j_77 _ _ _ _ ⟨g_56, g_55, rfl, hsp.symm, hP, hD, hS, lv_sub hl [1, 2, 3, 4, 5, 6, 0] rfl⟩
              · have hcc_80 := c_80
                replace hsp := hsp.trans (if_neg c_80)
                refine lv_aload_n hx hb dX9_laysGreatest_160 rfl (lv_at hl 1 rfl) ?_
                refine va_get (D := (dC, dI)) (ci := 9) (v := .ref (ad 59)) (C := RX9) (T := TX9) (N := 67) hx hb hts hiX9 hown hK hP 0 rfl rfl 59 (by decide) v_7 (fun _ h9 => h9) rfl dX9_laysGreatest_161 ?_
                refine lv_aload_n hx hb dX9_laysGreatest_164 rfl (lv_at hl 1 rfl) ?_
                refine va_get (D := (dC, dI)) (ci := 9) (v := .ref (ad 55)) (C := RX9) (T := TX9) (N := 67) hx hb hts hiX9 hown hK hP 0 rfl rfl 55 (by decide) v_19 (fun _ h9 => h9) rfl dX9_laysGreatest_165 ?_
                refine lv_iload hx hb dX9_laysGreatest_168 (lv_at hl 5 rfl) ?_
                refine va_iald hx hb hK hP 36 35 rfl rfl (vp_in_nI (n := g_57) (by omega) (Nat.le_of_ble_eq_true rfl)) dX9_laysGreatest_170 ?_
                refine lv_topi (fun y_81 ey_81 => ?_)
                obtain rfl : y_81 = nI u_73 := ey_81.trans qu_73
                refine lv_iload hx hb dX9_laysGreatest_171 (lv_at hl 0 rfl) ?_
                refine va_iast hx hb hK hP hD hS 40 39 rfl rfl (vp_in_nI (n := u_73) (Nat.lt_of_le_of_lt hu_73 (Nat.le_of_ble_eq_true rfl)) (Nat.le_of_ble_eq_true rfl)) dX9_laysGreatest_173 (fun H locs hP hD hS => ?_)
                obtain ⟨f_83, ef_83, xf_83⟩ := up_x g_55 (n := u_73) g_68 (Nat.lt_of_le_of_lt hu_73 (Nat.le_of_ble_eq_true rfl))
                have hP : va_P (dC, dI) vwCl (mo_w ad ck x0 (nI x16) (nI x18) (nI x19) x20 (nI x21) (nI x22) x23 x24 x25 (nI x26) x27 (nI x28) (nI x29) (nI x30) (nI x33) x45 (nI x46) (nI x52) (nI x53) (nI x61) (nI z62_6) (nI z63_7) (nI x65) x66 f1 f2 f3 (bN 3 q4) (bN 7 q5) (bN 7 q6) (bN 4 q7) f8 (bN 2 q9) (bH q10) f11 (b2 m12_0 m12_1) (b2 m13_0 m13_1) (b2 m14_0 m14_1) (b2m m15_0 m15_1) f17 (bA 159 q31) f32 f34 f35 f36 f37 (bN 7 q38) f39 f40 f41 (b2 m42_0 m42_1) f43 f44 f47 f48 f49 f50 f51 (bN 13 q54) (bN 120 z55_2) (bN 120 z56_3) z57_4 (bN 120 z58_5) f_83 f60 f64) H := by rw [← ef_83]; exact hP
                have hD : va_D A (mo_w ad ck x0 (nI x16) (nI x18) (nI x19) x20 (nI x21) (nI x22) x23 x24 x25 (nI x26) x27 (nI x28) (nI x29) (nI x30) (nI x33) x45 (nI x46) (nI x52) (nI x53) (nI x61) (nI z62_6) (nI z63_7) (nI x65) x66 f1 f2 f3 (bN 3 q4) (bN 7 q5) (bN 7 q6) (bN 4 q7) f8 (bN 2 q9) (bH q10) f11 (b2 m12_0 m12_1) (b2 m13_0 m13_1) (b2 m14_0 m14_1) (b2m m15_0 m15_1) f17 (bA 159 q31) f32 f34 f35 f36 f37 (bN 7 q38) f39 f40 f41 (b2 m42_0 m42_1) f43 f44 f47 f48 f49 f50 f51 (bN 13 q54) (bN 120 z55_2) (bN 120 z56_3) z57_4 (bN 120 z58_5) f_83 f60 f64) := by rw [← ef_83]; exact hD
                replace hsp := hsp.trans (slet_eq xf_83)
                refine lv_iconst (v := 1) hx hb dX9_laysGreatest_174 (by decide) ?_
                refine lv_istore_n (lv' := [(2, .int 1), (6, .int g_68), (0, .ref (ad 0)), (1, .int p0), (3, .int (nI g_42)), (4, .int (nI g_57)), (5, .int y_67)]) hx hb dX9_laysGreatest_175 rfl hl (by decide) rfl (fun ls hl => ?_)
                exact j_77 _ _ _ _ ⟨1, f_83, rfl, hsp.symm, hP, hD, hS, lv_sub hl [2, 3, 0, 4, 5, 6, 1] rfl⟩
            have hsp := hJR_70
            refine lv_icmp_ne (tgt := 128) hx hb dX9_laysGreatest_120 (by decide) (fun c_84 => ?_) (fun c_84 => ?_)
            · have hcc_84 := c_84
              replace hsp := hsp.trans (if_neg c_84)
              refine lv_iload hx hb dX9_laysGreatest_128 (lv_at hl 0 rfl) ?_
              refine lv_aload_n hx hb dX9_laysGreatest_130 rfl (lv_at hl 1 rfl) ?_
              refine va_get (D := (dC, dI)) (ci := 9) (v := .ref (ad 57)) (C := RX9) (T := TX9) (N := 67) hx hb hts hiX9 hown hK hP 0 rfl rfl 57 (by decide) v_15 (fun _ h9 => h9) rfl dX9_laysGreatest_131 ?_
              refine lv_iload hx hb dX9_laysGreatest_134 (lv_at hl 5 rfl) ?_
              refine va_iald hx hb hK hP 38 37 rfl rfl (vp_in_nI (n := g_57) (by omega) (Nat.le_of_ble_eq_true rfl)) dX9_laysGreatest_136 ?_
              refine lv_topi (fun y_85 ey_85 => ?_)
              have ey_85 : y_85 = z57_4 g_57 := ey_85.trans (congrArg z57_4 (nI_clamp (n := g_57) (Nat.lt_of_le_of_lt hg_57 (Nat.le_of_ble_eq_true rfl))))
              replace hsp := hsp.trans (slet_eq ey_85)
              refine va_calli (va_runS (As := [.int y_85]) (rest := [.int y_67]) ⟨hx, hb, hml, hown, hts⟩ (c_EM_timesOf l dC dI _ ad ck x0 x16 x18 x19 x20 x21 x22 x23 x24 x25 x26 x27 x28 x29 x30 x33 x45 x46 x52 x53 x61 z62_6 z63_7 x65 x66 f1 f2 f3 q4 q5 q6 q7 f8 q9 q10 f11 m12_0 m12_1 m13_0 m13_1 m14_0 m14_1 m15_0 m15_1 f17 q31 f32 f34 f35 f36 f37 q38 f39 f40 f41 m42_0 m42_1 f43 f44 f47 f48 f49 f50 f51 q54 z55_2 z56_3 z57_4 z58_5 g_55 f60 f64 y_85 hx16 hx18 hx19 hx21 hx22 hx26 hx28 hx29 hx30 hx33 hx46 hx52 hx53 hx61 hz62_6 hz63_7 hx65 hm12_0 hm12_1 hm13_0 hm13_1 hm14_0 hm14_1 hm15_0 hm15_1 hm42_0 hm42_1) (va_cwS 1 hts g_EM_laysGreatest_EM_timesOf rfl rfl rfl (by decide +kernel) ⟨Nat.le_of_ble_eq_true rfl, Nat.le_of_ble_eq_true rfl⟩) ⟨pu_bl, pu_in hP hK hD⟩ rfl rfl hl.1 rfl (lv_room (Nat.le_of_ble_eq_true rfl)) dX9_laysGreatest_137 ⟨Nat.le_of_ble_eq_true rfl, Nat.le_of_ble_eq_true rfl⟩) hS (fun q _ h => pu_fr hS hA q h) (pu_fr hS hA) (fun r_86 u t H1 locs ht hvm hw hB hz1 hk1 hS => ?_)
              have hP := pu_keep hP hk1
              clear hk1 hz1 ht hvm
              generalize H1 = H at hP hS ⊢
              have ir_86 := hw
              replace hsp := hsp.trans (slet_eq ir_86)
              refine lv_iadd hx hb dX9_laysGreatest_140 ?_
              refine lv_topi (fun y_87 ey_87 => ?_)
              replace hsp := hsp.trans (slet_eq ey_87)
              exact j_69 _ _ _ _ ⟨y_87, rfl, hsp.symm, hP, hD, hS, lv_sub hl [1, 2, 3, 4, 5, 0] rfl⟩
            · have hcc_84 := c_84
              replace hsp := hsp.trans (if_pos c_84)
              refine lv_iload hx hb dX9_laysGreatest_123 (lv_at hl 0 rfl) ?_
              refine lv_goto (tgt := 141) hx hb dX9_laysGreatest_125 (by decide) ?_
              exact j_69 _ _ _ _ ⟨y_67, rfl, hsp.symm, hP, hD, hS, lv_sub hl [1, 2, 3, 4, 5, 0] rfl⟩
    have hsp := hJR_25
    refine lv_if_ne (tgt := 69) hx hb dX9_laysGreatest_62 (by decide) (fun c_88 => ?_) (fun c_88 => ?_)
    · have c_88 : ¬ z63_7 = 0 := fun z => c_88 ((nI_eq (a := z63_7) (b := 0) (Nat.lt_of_le_of_lt hz63_7 (Nat.le_of_ble_eq_true rfl)) (Nat.le_of_ble_eq_true rfl)).mpr z)
      replace hsp := hsp.trans (if_neg c_88)
      refine lv_iconst (v := 0) hx hb dX9_laysGreatest_69 (by decide) ?_
      exact j_24 _ _ _ _ ⟨0, rfl, (Nat.le_of_ble_eq_true rfl), hsp.symm, hP, hD, hS, lv_sub hl [0, 1, 2] rfl⟩
    · have c_88 : z63_7 = 0 := (nI_eq (a := z63_7) (b := 0) (Nat.lt_of_le_of_lt hz63_7 (Nat.le_of_ble_eq_true rfl)) (Nat.le_of_ble_eq_true rfl)).mp c_88
      replace hsp := hsp.trans (if_pos c_88)
      refine lv_iconst (v := 1) hx hb dX9_laysGreatest_65 (by decide) ?_
      refine lv_goto (tgt := 70) hx hb dX9_laysGreatest_66 (by decide) ?_
      exact j_24 _ _ _ _ ⟨1, rfl, (Nat.le_of_ble_eq_true rfl), hsp.symm, hP, hD, hS, lv_sub hl [0, 1, 2] rfl⟩
  · have c_18 : ¬ x61 < g_11 := fun z => c_18 ((nI_ltI (a := x61) (b := g_11) (Nat.lt_of_le_of_lt hx61 (Nat.le_of_ble_eq_true rfl)) (Nat.lt_of_le_of_lt hg_11 (Nat.le_of_ble_eq_true rfl))).mpr z)
    replace hsp := hsp.trans (if_neg c_18)
    refine lv_aload_n hx hb dX9_laysGreatest_14 rfl (lv_at hl 0 rfl) ?_
    refine va_get (D := (dC, dI)) (ci := 9) (v := .ref (ad 59)) (C := RX9) (T := TX9) (N := 67) hx hb hts hiX9 hown hK hP 0 rfl rfl 59 (by decide) v_7 (fun _ h9 => h9) rfl dX9_laysGreatest_15 ?_
    refine lv_iload_n hx hb dX9_laysGreatest_18 rfl (lv_at hl 2 rfl) ?_
    refine lv_ldcw hx hb hown v_8 dX9_laysGreatest_19 ?_
    refine va_iast hx hb hK hP hD hS 40 39 rfl rfl (vp_in_nI (n := g_11) (Nat.lt_of_le_of_lt hg_11 (Nat.le_of_ble_eq_true rfl)) (Nat.le_of_ble_eq_true rfl)) dX9_laysGreatest_22 (fun H locs hP hD hS => ?_)
    obtain ⟨f_89, ef_89, xf_89⟩ := up_x g_10 (n := g_11) 1073741824 (Nat.lt_of_le_of_lt hg_11 (Nat.le_of_ble_eq_true rfl))
    have hP : va_P (dC, dI) vwCl (mo_w ad ck x0 (nI x16) (nI x18) (nI x19) x20 (nI x21) (nI x22) x23 x24 x25 (nI x26) x27 (nI x28) (nI x29) (nI x30) (nI x33) x45 (nI x46) (nI x52) (nI x53) (nI x61) (nI z62_6) (nI z63_7) (nI x65) x66 f1 f2 f3 (bN 3 q4) (bN 7 q5) (bN 7 q6) (bN 4 q7) f8 (bN 2 q9) (bH q10) f11 (b2 m12_0 m12_1) (b2 m13_0 m13_1) (b2 m14_0 m14_1) (b2m m15_0 m15_1) f17 (bA 159 q31) f32 f34 f35 f36 f37 (bN 7 q38) f39 f40 f41 (b2 m42_0 m42_1) f43 f44 f47 f48 f49 f50 f51 (bN 13 q54) (bN 120 z55_2) (bN 120 z56_3) z57_4 (bN 120 z58_5) f_89 f60 f64) H := by rw [← ef_89]; exact hP
    have hD : va_D A (mo_w ad ck x0 (nI x16) (nI x18) (nI x19) x20 (nI x21) (nI x22) x23 x24 x25 (nI x26) x27 (nI x28) (nI x29) (nI x30) (nI x33) x45 (nI x46) (nI x52) (nI x53) (nI x61) (nI z62_6) (nI z63_7) (nI x65) x66 f1 f2 f3 (bN 3 q4) (bN 7 q5) (bN 7 q6) (bN 4 q7) f8 (bN 2 q9) (bH q10) f11 (b2 m12_0 m12_1) (b2 m13_0 m13_1) (b2 m14_0 m14_1) (b2m m15_0 m15_1) f17 (bA 159 q31) f32 f34 f35 f36 f37 (bN 7 q38) f39 f40 f41 (b2 m42_0 m42_1) f43 f44 f47 f48 f49 f50 f51 (bN 13 q54) (bN 120 z55_2) (bN 120 z56_3) z57_4 (bN 120 z58_5) f_89 f60 f64) := by rw [← ef_89]; exact hD
    replace hsp := hsp.trans (slet_eq xf_89)
    refine lv_iinc (v := (nI (g_11 + 1))) (lv' := [(2, .int (nI (g_11 + 1))), (0, .ref (ad 0)), (1, .int p0)]) hx hb dX9_laysGreatest_23 hl (k := 2) rfl (nI_1 _) (by decide) rfl (fun ls hl => ?_)
    refine lv_goto (tgt := 6) hx hb dX9_laysGreatest_26 (by decide) ?_
    exact ih_12 (120 - (g_11 + 1)) (by omega) _ _ _ ⟨f_89, (g_11 + 1), rfl, (by omega), hin_16 _ hsp, hP, hD, hS, lv_sub hl [1, 2, 0] rfl⟩
theorem dX9_isStep_0 : decode cX9_isStep 0 = .ok (.aload_n 0, 1) := by decide +kernel
theorem dX9_isStep_1 : decode cX9_isStep 1 = .ok (.iload_n 1, 1) := by decide +kernel
theorem dX9_isStep_2 : decode cX9_isStep 2 = .ok (.invokevirtual 387, 3) := by decide +kernel
theorem dX9_isStep_5 : decode cX9_isStep 5 = .ok (.ifCond .ne 5, 3) := by decide +kernel
theorem dX9_isStep_8 : decode cX9_isStep 8 = .ok (.iconst 0, 1) := by decide +kernel
theorem dX9_isStep_9 : decode cX9_isStep 9 = .ok (.ireturn, 1) := by decide +kernel
theorem dX9_isStep_10 : decode cX9_isStep 10 = .ok (.aload_n 0, 1) := by decide +kernel
theorem dX9_isStep_11 : decode cX9_isStep 11 = .ok (.iload_n 1, 1) := by decide +kernel
theorem dX9_isStep_12 : decode cX9_isStep 12 = .ok (.invokevirtual 451, 3) := by decide +kernel
theorem dX9_isStep_15 : decode cX9_isStep 15 = .ok (.iload_n 2, 1) := by decide +kernel
theorem dX9_isStep_16 : decode cX9_isStep 16 = .ok (.iconst 0, 1) := by decide +kernel
theorem dX9_isStep_17 : decode cX9_isStep 17 = .ok (.aload_n 0, 1) := by decide +kernel
theorem dX9_isStep_18 : decode cX9_isStep 18 = .ok (.getfield 429, 3) := by decide +kernel
theorem dX9_isStep_21 : decode cX9_isStep 21 = .ok (.iconst 1, 1) := by decide +kernel
theorem dX9_isStep_22 : decode cX9_isStep 22 = .ok (.isub, 1) := by decide +kernel
theorem dX9_isStep_23 : decode cX9_isStep 23 = .ok (.invokestatic 152, 3) := by decide +kernel
theorem dX9_isStep_26 : decode cX9_isStep 26 = .ok (.ireturn, 1) := by decide +kernel
abbrev vs_EM_isStep : List Cond := .code yX9_isStep cX9_isStep 3 (some .boolean) :: VM
theorem g_EM_isStep_X9_in : GoodIn vs_EM_isStep (va_wsS RX9 152 yX9_in vs_X9_in) := gm_0 (fun w h => by
  rcases List.mem_cons.mp h with rfl | h
  · exact vm_137
  rcases List.mem_cons.mp h with rfl | h
  · exact vm_138
  rcases List.mem_cons.mp h with rfl | h
  · exact vm_19
  rcases List.mem_cons.mp h with rfl | h
  · exact vm_139
  exact absurd h (List.not_mem_nil))
theorem g_EM_isStep_EM_isState : GoodIn vs_EM_isStep (wsV RX9 387 RX9 yX9_isState vs_EM_isState) := gm_V vm_263 vm_264 vm_265 vm_19 vm_266
theorem g_EM_isStep_EM_layPath : GoodIn vs_EM_isStep (wsV RX9 451 RX9 yX9_layPath vs_EM_layPath) := gm_V vm_328 vm_329 vm_330 vm_19 vm_331
noncomputable def sp_EM_isStep (x16 : Nat) (x29 : Nat) (x61 : Nat) (m12_0 : Nat) (m12_1 : Nat) (f39 : Nat → Int32) (f40 : Nat → Int32) (f41 : Nat → Int32) (m42_0 : Nat) (q54 : Nat → Nat) (p0 : Int32) (p1 : Int32) : (Nat → Nat) × Nat × Nat := (slet (sp_EM_isState x16 x29 m12_0 m12_1 m42_0 p0) (fun z46_2 => (if x29 = 1 ∧ (0 : Int32) ≤ p0 ∧ p0 < nI m42_0 then (slet ((p0 : Int32).toNatClampNeg) (fun n_3 => (slet (sp_EM_layPath f39 f40 f41 q54 n_3) (fun (z54_5, z61_6) => (if (0 : Int32) ≤ p1 ∧ p1 ≤ ((nI z61_6) - 1) then (slet ((p1 : Int32).toNatClampNeg) (fun n_8 => (z54_5, z46_2, z61_6))) else (z54_5, z46_2, z61_6)))))) else (q54, z46_2, x61))))
set_option maxHeartbeats 4000000 in
set_option maxRecDepth 100000 in
theorem c_EM_isStep (l : Launch) (dC : Nat → ClassId) (dI : Nat → Nat → Nat) (sz : Nat) (ad : Nat → Nat) (ck : Nat → ClassId) (x0 : Int32) (x16 : Nat) (x18 : Nat) (x19 : Nat) (x20 : Int32) (x21 : Nat) (x22 : Nat) (x23 : Int32) (x24 : Int32) (x25 : Int32) (x26 : Nat) (x27 : Int32) (x28 : Nat) (x29 : Nat) (x30 : Nat) (x33 : Nat) (x45 : Int32) (x46 : Nat) (x52 : Nat) (x53 : Nat) (x61 : Nat) (x62 : Nat) (x63 : Nat) (x65 : Nat) (x66 : Int32) (f1 : Nat → Int32) (f2 : Nat → Int32) (f3 : Nat → Int32) (q4 : Nat → Nat) (q5 : Nat → Nat) (q6 : Nat → Nat) (q7 : Nat → Nat) (f8 : Nat → Int32) (q9 : Nat → Nat) (q10 : Nat → Nat) (f11 : Nat → Int32) (m12_0 m12_1 : Nat) (m13_0 m13_1 : Nat) (m14_0 m14_1 : Nat) (m15_0 m15_1 : Nat) (f17 : Nat → Int32) (q31 : Nat → Nat) (f32 : Nat → Int32) (f34 : Nat → Int32) (f35 : Nat → Int32) (f36 : Nat → Int32) (f37 : Nat → Int32) (q38 : Nat → Nat) (f39 : Nat → Int32) (f40 : Nat → Int32) (f41 : Nat → Int32) (m42_0 m42_1 : Nat) (f43 : Nat → Int32) (f44 : Nat → Int32) (f47 : Nat → Int32) (f48 : Nat → Int32) (f49 : Nat → Int32) (f50 : Nat → Int32) (f51 : Nat → Int32) (q54 : Nat → Nat) (q55 : Nat → Nat) (q56 : Nat → Nat) (f57 : Nat → Int32) (q58 : Nat → Nat) (f59 : Nat → Int32) (f60 : Nat → Int32) (f64 : Nat → Int32) (p0 : Int32) (p1 : Int32) (hx16 : x16 ≤ 1) (hx18 : x18 ≤ 900) (hx19 : x19 ≤ 900) (hx21 : x21 ≤ 900) (hx22 : x22 ≤ 4) (hx26 : x26 ≤ 6) (hx28 : x28 ≤ 1) (hx29 : x29 ≤ 1) (hx30 : x30 ≤ 1) (hx33 : x33 ≤ 20) (hx46 : x46 ≤ 5) (hx52 : x52 ≤ 2400) (hx53 : x53 ≤ 119) (hx61 : x61 ≤ 119) (hx62 : x62 ≤ 2000) (hx63 : x63 ≤ 1) (hx65 : x65 ≤ 7) (hm12_0 : m12_0 ≤ 3) (hm12_1 : m12_1 ≤ 3) (hm13_0 : m13_0 ≤ 8) (hm13_1 : m13_1 ≤ 8) (hm14_0 : m14_0 ≤ 14) (hm14_1 : m14_1 ≤ 14) (hm15_0 : m15_0 ≤ 8) (hm15_1 : m15_1 ≤ 8) (hm42_0 : m42_0 ≤ 120) (hm42_1 : m42_1 ≤ 400) (hgr : gz_ok m42_0 f39 f40 f41) : Met l yX9_isStep vs_EM_isStep ({ frames := 2, cells := 0, slots := 0, locals := 43 }) (va_Pc [.ref (ad 0), .int p0, .int p1] (pu_B (dC, dI) (mo_w ad ck x0 (nI x16) (nI x18) (nI x19) x20 (nI x21) (nI x22) x23 x24 x25 (nI x26) x27 (nI x28) (nI x29) (nI x30) (nI x33) x45 (nI x46) (nI x52) (nI x53) (nI x61) (nI x62) (nI x63) (nI x65) x66 f1 f2 f3 (bN 3 q4) (bN 7 q5) (bN 7 q6) (bN 4 q7) f8 (bN 2 q9) (bH q10) f11 (b2 m12_0 m12_1) (b2 m13_0 m13_1) (b2 m14_0 m14_1) (b2m m15_0 m15_1) f17 (bA 159 q31) f32 f34 f35 f36 f37 (bN 7 q38) f39 f40 f41 (b2 m42_0 m42_1) f43 f44 f47 f48 f49 f50 f51 (bN 13 q54) (bN 120 q55) (bN 120 q56) f57 (bN 120 q58) f59 f60 f64) (mo_t ck) sz)) (va_Qi (fun (r : Int32) (_ : Unit) => (r = 1 ∧ ∃ q : Nat, q ≤ 118 ∧ p1 = nI q ∧ isStp x29 m42_0 f41 p0 p1) ∨ (r = 0 ∧ ¬ isStp x29 m42_0 f41 p0 p1)) (fun _ t => ∃ (z54 : Nat → Nat) (z46 : Nat) (z61 : Nat), pu_E (dC, dI) (mo_w ad ck x0 (nI x16) (nI x18) (nI x19) x20 (nI x21) (nI x22) x23 x24 x25 (nI x26) x27 (nI x28) (nI x29) (nI x30) (nI x33) x45 (nI z46) (nI x52) (nI x53) (nI z61) (nI x62) (nI x63) (nI x65) x66 f1 f2 f3 (bN 3 q4) (bN 7 q5) (bN 7 q6) (bN 4 q7) f8 (bN 2 q9) (bH q10) f11 (b2 m12_0 m12_1) (b2 m13_0 m13_1) (b2 m14_0 m14_1) (b2m m15_0 m15_1) f17 (bA 159 q31) f32 f34 f35 f36 f37 (bN 7 q38) f39 f40 f41 (b2 m42_0 m42_1) f43 f44 f47 f48 f49 f50 f51 (bN 13 z54) (bN 120 q55) (bN 120 q56) f57 (bN 120 q58) f59 f60 f64) (mo_t ck) (va_A ((mo_w ad ck x0 (nI x16) (nI x18) (nI x19) x20 (nI x21) (nI x22) x23 x24 x25 (nI x26) x27 (nI x28) (nI x29) (nI x30) (nI x33) x45 (nI x46) (nI x52) (nI x53) (nI x61) (nI x62) (nI x63) (nI x65) x66 f1 f2 f3 (bN 3 q4) (bN 7 q5) (bN 7 q6) (bN 4 q7) f8 (bN 2 q9) (bH q10) f11 (b2 m12_0 m12_1) (b2 m13_0 m13_1) (b2 m14_0 m14_1) (b2m m15_0 m15_1) f17 (bA 159 q31) f32 f34 f35 f36 f37 (bN 7 q38) f39 f40 f41 (b2 m42_0 m42_1) f43 f44 f47 f48 f49 f50 f51 (bN 13 q54) (bN 120 q55) (bN 120 q56) f57 (bN 120 q58) f59 f60 f64)) sz) t ∧ (z46 ≤ 5) ∧ (z61 ≤ 119) ∧ ((z54, z46, z61) = (sp_EM_isStep x16 x29 x61 m12_0 m12_1 f39 f40 f41 m42_0 q54 p0 p1))) (va_A ((mo_w ad ck x0 (nI x16) (nI x18) (nI x19) x20 (nI x21) (nI x22) x23 x24 x25 (nI x26) x27 (nI x28) (nI x29) (nI x30) (nI x33) x45 (nI x46) (nI x52) (nI x53) (nI x61) (nI x62) (nI x63) (nI x65) x66 f1 f2 f3 (bN 3 q4) (bN 7 q5) (bN 7 q6) (bN 4 q7) f8 (bN 2 q9) (bH q10) f11 (b2 m12_0 m12_1) (b2 m13_0 m13_1) (b2 m14_0 m14_1) (b2m m15_0 m15_1) f17 (bA 159 q31) f32 f34 f35 f36 f37 (bN 7 q38) f39 f40 f41 (b2 m42_0 m42_1) f43 f44 f47 f48 f49 f50 f51 (bN 13 q54) (bN 120 q55) (bN 120 q56) f57 (bN 120 q58) f59 f60 f64)) sz)) 0 0 (va_A ((mo_w ad ck x0 (nI x16) (nI x18) (nI x19) x20 (nI x21) (nI x22) x23 x24 x25 (nI x26) x27 (nI x28) (nI x29) (nI x30) (nI x33) x45 (nI x46) (nI x52) (nI x53) (nI x61) (nI x62) (nI x63) (nI x65) x66 f1 f2 f3 (bN 3 q4) (bN 7 q5) (bN 7 q6) (bN 4 q7) f8 (bN 2 q9) (bH q10) f11 (b2 m12_0 m12_1) (b2 m13_0 m13_1) (b2 m14_0 m14_1) (b2m m15_0 m15_1) f17 (bA 159 q31) f32 f34 f35 f36 f37 (bN 7 q38) f39 f40 f41 (b2 m42_0 m42_1) f43 f44 f47 f48 f49 f50 f51 (bN 13 q54) (bN 120 q55) (bN 120 q56) f57 (bN 120 q58) f59 f60 f64)) sz) := by
  refine Met.ofW (cc := cX9_isStep) (maxL := 3) (ret := (some .boolean)) (by decide) rfl ?_
  intro p e s m args below meth c s₁ B hml hv
  obtain ⟨rfl, rfl, hP, hK, hD0⟩ := hv
  have hx := B.exec
  have hb := B.bytes
  have hr := B.returns
  have hts := atoms_spec (ws := vs_EM_isStep) B.pre
  have v_10 := hts (.fieldLink RX9 429 "ClockReachModel" "pathMany" "I") (List.mem_cons_of_mem _ vm_303)
  have hown : s.vm.findClass RX9 = some m.cls := findClass_of_methodNamed B.named
  have hlocks := B.notSynchronized
  have hiX9 : ∀ w ∈ wsX90, w ∈ vs_EM_isStep := fun _ h => List.mem_cons_of_mem _ (vmi_L h)
  have hD := hD0.self (sz := s.heap.size)
  generalize hAe : va_A ((mo_w ad ck x0 (nI x16) (nI x18) (nI x19) x20 (nI x21) (nI x22) x23 x24 x25 (nI x26) x27 (nI x28) (nI x29) (nI x30) (nI x33) x45 (nI x46) (nI x52) (nI x53) (nI x61) (nI x62) (nI x63) (nI x65) x66 f1 f2 f3 (bN 3 q4) (bN 7 q5) (bN 7 q6) (bN 4 q7) f8 (bN 2 q9) (bH q10) f11 (b2 m12_0 m12_1) (b2 m13_0 m13_1) (b2 m14_0 m14_1) (b2m m15_0 m15_1) f17 (bA 159 q31) f32 f34 f35 f36 f37 (bN 7 q38) f39 f40 f41 (b2 m42_0 m42_1) f43 f44 f47 f48 f49 f50 f51 (bN 13 q54) (bN 120 q55) (bN 120 q56) f57 (bN 120 q58) f59 f60 f64)) s.heap.size = A at hD ⊢
  have hA : ∀ q : Nat, s.heap.size ≤ q → A q := fun q h => by rw [← hAe]; exact Or.inr h
  have hS : va_S A s.heap s.heap [] := va_S.rf
  have hl := lv_entry ([.ref (ad 0), .int p0, .int p1]) (n := 3) (Nat.le_of_ble_eq_true rfl)
  rw [lg_entry_eq]
  generalize (lg_sl ([.ref (ad 0), .int p0, .int p1]) ++ List.replicate (3 - (lg_sl ([.ref (ad 0), .int p0, .int p1])).length) Slot.unset).toArray = ls at hl ⊢
  have hl : lv_has ls 3 [(0, .ref (ad 0)), (1, .int p0), (2, .int p1)] := hl
  obtain ⟨RR, hRR⟩ : ∃ x, x = (sp_EM_isStep x16 x29 x61 m12_0 m12_1 f39 f40 f41 m42_0 q54 p0 p1) := ⟨_, rfl⟩
  have hsp := hRR
  refine lv_aload_n hx hb dX9_isStep_0 rfl (lv_at hl 0 rfl) ?_
  refine lv_iload_n hx hb dX9_isStep_1 rfl (lv_at hl 1 rfl) ?_
  have hFc := pu_free hD hS hA
  refine va_calli (va_runV (As := [.int p0]) (rest := []) ⟨hx, hb, hml, hown, hts⟩ (c_EM_isState l dC dI _ ad ck x0 x16 x18 x19 x20 x21 x22 x23 x24 x25 x26 x27 x28 x29 x30 x33 x45 x46 x52 x53 x61 x62 x63 x65 x66 f1 f2 f3 q4 q5 q6 q7 f8 q9 q10 f11 m12_0 m12_1 m13_0 m13_1 m14_0 m14_1 m15_0 m15_1 f17 q31 f32 f34 f35 f36 f37 q38 f39 f40 f41 m42_0 m42_1 f43 f44 f47 f48 f49 f50 f51 q54 q55 q56 f57 q58 f59 f60 f64 p0 hx16 hx18 hx19 hx21 hx22 hx26 hx28 hx29 hx30 hx33 hx46 hx52 hx53 hx61 hx62 hx63 hx65 hm12_0 hm12_1 hm13_0 hm13_1 hm14_0 hm14_1 hm15_0 hm15_1 hm42_0 hm42_1) (cwV 1 hts g_EM_isStep_EM_isState rfl rfl rfl (by decide +kernel) ⟨Nat.le_of_ble_eq_true rfl, Nat.le_of_ble_eq_true rfl⟩) ⟨pu_bl, va_recv hK hP (ci := 9) (q0 := 0) rfl rfl, pu_in hP hK hD⟩ rfl rfl hl.1 rfl (lv_room (Nat.le_of_ble_eq_true rfl)) dX9_isStep_2 ⟨Nat.le_of_ble_eq_true rfl, Nat.le_of_ble_eq_true rfl⟩) hS (fun q _ h => hFc q h) hFc (fun r_1 u t H1 locs ht hvm hw hB hz1 hk1 hS => ?_)
  obtain ⟨z46_2, ⟨hP1, -, hD1⟩, hz46_2, xr_1_0⟩ := hB
  rw [ht] at hP1
  have hP := hP1
  have hD := pu_all hFc hD1
  clear hP1 hD1 hFc
  clear hk1 hz1 ht hvm
  generalize H1 = H at hP hS ⊢
  replace hsp := hsp.trans (slet_eq xr_1_0)
  rcases hw with ⟨rfl, hw⟩ | ⟨rfl, hn⟩
  · obtain ⟨hs1, n_3, hn_3, rfl⟩ := hw
    replace hsp := hsp.trans (if_pos ⟨hs1, in_q hn_3 (by omega)⟩)
    replace hsp := hsp.trans (slet_eq (nI_cl (n := n_3) (by omega)))
    refine lv_if_ne (tgt := 10) hx hb dX9_isStep_5 (by decide) (fun _ => ?_) (fun z => absurd z (by decide))
    refine lv_aload_n hx hb dX9_isStep_10 rfl (lv_at hl 0 rfl) ?_
    refine lv_iload_n hx hb dX9_isStep_11 rfl (lv_at hl 1 rfl) ?_
    have hFc := pu_free hD hS hA
    refine va_callv (va_runV (As := [.int (nI n_3)]) (rest := []) ⟨hx, hb, hml, hown, hts⟩ (c_EM_layPath l dC dI _ ad ck x0 x16 x18 x19 x20 x21 x22 x23 x24 x25 x26 x27 x28 x29 x30 x33 x45 z46_2 x52 x53 x61 x62 x63 x65 x66 f1 f2 f3 q4 q5 q6 q7 f8 q9 q10 f11 m12_0 m12_1 m13_0 m13_1 m14_0 m14_1 m15_0 m15_1 f17 q31 f32 f34 f35 f36 f37 q38 f39 f40 f41 m42_0 m42_1 f43 f44 f47 f48 f49 f50 f51 q54 q55 q56 f57 q58 f59 f60 f64 n_3 hx16 hx18 hx19 hx21 hx22 hx26 hx28 hx29 hx30 hx33 (Nat.le_trans hz46_2 (Nat.le_of_ble_eq_true rfl)) hx52 hx53 hx61 hx62 hx63 hx65 hm12_0 hm12_1 hm13_0 hm13_1 hm14_0 hm14_1 hm15_0 hm15_1 hm42_0 hm42_1 (by omega) (by first | assumption | exact gz_0) (by omega)) (cwV 1 hts g_EM_isStep_EM_layPath rfl rfl rfl (by decide +kernel) ⟨Nat.le_of_ble_eq_true rfl, Nat.le_of_ble_eq_true rfl⟩) ⟨pu_bl, va_recv hK hP (ci := 9) (q0 := 0) rfl rfl, pu_in hP hK hD⟩ rfl rfl hl.1 rfl (lv_room (Nat.le_of_ble_eq_true rfl)) dX9_isStep_12 ⟨Nat.le_of_ble_eq_true rfl, Nat.le_of_ble_eq_true rfl⟩) hS (fun q _ h => hFc q h) hFc (fun u t H1 locs ht hvm hw hB hz1 hk1 hS => ?_)
    obtain ⟨z54_5, z61_6, ⟨hP1, -, hD1⟩, hz61_6, xr_4_0, xr_4_1⟩ := hB
    rw [ht] at hP1
    have hP := hP1
    have hD := pu_all hFc hD1
    clear hP1 hD1 hFc
    clear hk1 hz1 ht hvm
    generalize H1 = H at hP hS ⊢
    replace hsp := hsp.trans (slet_eq xr_4_1)
    refine lv_iload_n hx hb dX9_isStep_15 rfl (lv_at hl 2 rfl) ?_
    refine lv_iconst (v := 0) hx hb dX9_isStep_16 (by decide) ?_
    refine lv_aload_n hx hb dX9_isStep_17 rfl (lv_at hl 0 rfl) ?_
    refine va_get (D := (dC, dI)) (ci := 9) (v := .int (nI z61_6)) (C := RX9) (T := TX9) (N := 67) hx hb hts hiX9 hown hK hP 0 rfl rfl 61 (by decide) v_10 (fun _ h9 => h9) rfl dX9_isStep_18 ?_
    refine lv_iconst (v := 1) hx hb dX9_isStep_21 (by decide) ?_
    refine lv_isub hx hb dX9_isStep_22 ?_
    refine va_calli (va_runS (As := [.int p1, .int 0, .int ((nI z61_6) - 1)]) (rest := []) ⟨hx, hb, hml, hown, hts⟩ (c_X9_in l dC dI _ p1 0 ((nI z61_6) - 1)) (va_cwS 3 hts g_EM_isStep_X9_in rfl rfl rfl (by decide +kernel) ⟨Nat.le_of_ble_eq_true rfl, Nat.le_of_ble_eq_true rfl⟩) ⟨pu_bl, pu_in (hP.sub [] rfl) (hK.sub [] rfl) (hD.sub [] (by decide) rfl)⟩ rfl rfl hl.1 rfl (lv_room (Nat.le_of_ble_eq_true rfl)) dX9_isStep_23 ⟨Nat.le_of_ble_eq_true rfl, Nat.le_of_ble_eq_true rfl⟩) hS (fun q _ h => pu_fr hS hA q h) (pu_fr hS hA) (fun r_7 u t H1 locs ht hvm hw hB hz1 hk1 hS => ?_)
    have hP := pu_keep hP hk1
    clear hk1 hz1 ht hvm
    generalize H1 = H at hP hS ⊢
    rcases hw with ⟨rfl, hi1, hi2⟩ | ⟨rfl, hi3⟩
    · replace hsp := hsp.trans (if_pos ⟨hi1, hi2⟩)
      obtain ⟨n_8, hn_8, rfl⟩ := pu_in1 (n := z61_6) (by omega) hi1 hi2
      replace hsp := hsp.trans (slet_eq (nI_cl (n := n_8) (by omega)))
      exact W.zret (v := 1) (ty := .boolean) hx hb hr (rfl) (fun t ht hW => ⟨⟨1, (), rfl, Or.inl ⟨rfl, n_8, by omega, rfl, stp_y (by assumption) (by assumption) (by omega) (by assumption) (by omega) (by omega)⟩, ⟨z54_5, z46_2, z61_6, ⟨by rw [ht]; exact hP, va_K.moved hW.alike hK, hD⟩, (Nat.le_trans hz46_2 (Nat.le_of_ble_eq_true rfl)), hz61_6, (hsp.symm.trans hRR)⟩⟩, hS.F ht⟩) hS.2.2 dX9_isStep_26
    · replace hsp := hsp.trans (if_neg hi3)
      exact W.zret (v := 0) (ty := .boolean) hx hb hr (rfl) (fun t ht hW => ⟨⟨0, (), rfl, Or.inr ⟨rfl, by first | exact stp_n0 hn | exact stp_n1 (by omega) (by assumption) (by omega) hi3⟩, ⟨z54_5, z46_2, z61_6, ⟨by rw [ht]; exact hP, va_K.moved hW.alike hK, hD⟩, (Nat.le_trans hz46_2 (Nat.le_of_ble_eq_true rfl)), hz61_6, (hsp.symm.trans hRR)⟩⟩, hS.F ht⟩) hS.2.2 dX9_isStep_26
  · replace hsp := hsp.trans (if_neg hn)
    refine lv_if_ne (tgt := 10) hx hb dX9_isStep_5 (by decide) (fun z => absurd z (by decide)) (fun _ => ?_)
    refine lv_iconst (v := 0) hx hb dX9_isStep_8 (by decide) ?_
    exact W.zret (v := 0) (ty := .boolean) hx hb hr (rfl) (fun t ht hW => ⟨⟨0, (), rfl, Or.inr ⟨rfl, by first | exact stp_n0 hn | exact stp_n1 (by omega) (by assumption) (by omega) hi3⟩, ⟨q54, z46_2, x61, ⟨by rw [ht]; exact hP, va_K.moved hW.alike hK, hD⟩, (Nat.le_trans hz46_2 (Nat.le_of_ble_eq_true rfl)), hx61, (hsp.symm.trans hRR)⟩⟩, hS.F ht⟩) hS.2.2 dX9_isStep_9
