theorem dX9_tells_0 : decode cX9_tells 0 = .ok (.aload_n 0, 1) := by decide +kernel
theorem dX9_tells_1 : decode cX9_tells 1 = .ok (.iconst 0, 1) := by decide +kernel
theorem dX9_tells_2 : decode cX9_tells 2 = .ok (.putfield 142, 3) := by decide +kernel
theorem dX9_tells_5 : decode cX9_tells 5 = .ok (.aload_n 0, 1) := by decide +kernel
theorem dX9_tells_6 : decode cX9_tells 6 = .ok (.getfield 46, 3) := by decide +kernel
theorem dX9_tells_9 : decode cX9_tells 9 = .ok (.aload_n 0, 1) := by decide +kernel
theorem dX9_tells_10 : decode cX9_tells 10 = .ok (.getfield 258, 3) := by decide +kernel
theorem dX9_tells_13 : decode cX9_tells 13 = .ok (.iaload, 1) := by decide +kernel
theorem dX9_tells_14 : decode cX9_tells 14 = .ok (.ifCond .eq 13, 3) := by decide +kernel
theorem dX9_tells_17 : decode cX9_tells 17 = .ok (.iload 6, 2) := by decide +kernel
theorem dX9_tells_19 : decode cX9_tells 19 = .ok (.iconst 0, 1) := by decide +kernel
theorem dX9_tells_20 : decode cX9_tells 20 = .ok (.iconst 3, 1) := by decide +kernel
theorem dX9_tells_21 : decode cX9_tells 21 = .ok (.invokestatic 152, 3) := by decide +kernel
theorem dX9_tells_24 : decode cX9_tells 24 = .ok (.ifCond .ne 5, 3) := by decide +kernel
theorem dX9_tells_27 : decode cX9_tells 27 = .ok (.iconst (-1), 1) := by decide +kernel
theorem dX9_tells_28 : decode cX9_tells 28 = .ok (.ireturn, 1) := by decide +kernel
theorem dX9_tells_29 : decode cX9_tells 29 = .ok (.aload_n 0, 1) := by decide +kernel
theorem dX9_tells_30 : decode cX9_tells 30 = .ok (.iconst 0, 1) := by decide +kernel
theorem dX9_tells_31 : decode cX9_tells 31 = .ok (.putfield 429, 3) := by decide +kernel
theorem dX9_tells_34 : decode cX9_tells 34 = .ok (.aload_n 0, 1) := by decide +kernel
theorem dX9_tells_35 : decode cX9_tells 35 = .ok (.getfield 52, 3) := by decide +kernel
theorem dX9_tells_38 : decode cX9_tells 38 = .ok (.aload_n 0, 1) := by decide +kernel
theorem dX9_tells_39 : decode cX9_tells 39 = .ok (.getfield 258, 3) := by decide +kernel
theorem dX9_tells_42 : decode cX9_tells 42 = .ok (.iaload, 1) := by decide +kernel
theorem dX9_tells_43 : decode cX9_tells 43 = .ok (.istore 7, 2) := by decide +kernel
theorem dX9_tells_45 : decode cX9_tells 45 = .ok (.iconst 0, 1) := by decide +kernel
theorem dX9_tells_46 : decode cX9_tells 46 = .ok (.istore 8, 2) := by decide +kernel
theorem dX9_tells_48 : decode cX9_tells 48 = .ok (.iload 8, 2) := by decide +kernel
theorem dX9_tells_50 : decode cX9_tells 50 = .ok (.iconst 5, 1) := by decide +kernel
theorem dX9_tells_51 : decode cX9_tells 51 = .ok (.if_icmp .ge 113, 3) := by decide +kernel
theorem dX9_tells_54 : decode cX9_tells 54 = .ok (.iload 8, 2) := by decide +kernel
theorem dX9_tells_56 : decode cX9_tells 56 = .ok (.ifCond .ne 7, 3) := by decide +kernel
theorem dX9_tells_59 : decode cX9_tells 59 = .ok (.iload_n 1, 1) := by decide +kernel
theorem dX9_tells_60 : decode cX9_tells 60 = .ok (.goto 36, 3) := by decide +kernel
theorem dX9_tells_63 : decode cX9_tells 63 = .ok (.iload 8, 2) := by decide +kernel
theorem dX9_tells_65 : decode cX9_tells 65 = .ok (.iconst 1, 1) := by decide +kernel
theorem dX9_tells_66 : decode cX9_tells 66 = .ok (.if_icmp .ne 7, 3) := by decide +kernel
theorem dX9_tells_69 : decode cX9_tells 69 = .ok (.iload_n 2, 1) := by decide +kernel
theorem dX9_tells_70 : decode cX9_tells 70 = .ok (.goto 26, 3) := by decide +kernel
theorem dX9_tells_73 : decode cX9_tells 73 = .ok (.iload 8, 2) := by decide +kernel
theorem dX9_tells_75 : decode cX9_tells 75 = .ok (.iconst 2, 1) := by decide +kernel
theorem dX9_tells_76 : decode cX9_tells 76 = .ok (.if_icmp .ne 7, 3) := by decide +kernel
theorem dX9_tells_79 : decode cX9_tells 79 = .ok (.iload_n 3, 1) := by decide +kernel
theorem dX9_tells_80 : decode cX9_tells 80 = .ok (.goto 16, 3) := by decide +kernel
theorem dX9_tells_83 : decode cX9_tells 83 = .ok (.iload 8, 2) := by decide +kernel
theorem dX9_tells_85 : decode cX9_tells 85 = .ok (.iconst 3, 1) := by decide +kernel
theorem dX9_tells_86 : decode cX9_tells 86 = .ok (.if_icmp .ne 8, 3) := by decide +kernel
theorem dX9_tells_89 : decode cX9_tells 89 = .ok (.iload 4, 2) := by decide +kernel
theorem dX9_tells_91 : decode cX9_tells 91 = .ok (.goto 5, 3) := by decide +kernel
theorem dX9_tells_94 : decode cX9_tells 94 = .ok (.iload 5, 2) := by decide +kernel
theorem dX9_tells_96 : decode cX9_tells 96 = .ok (.istore 9, 2) := by decide +kernel
theorem dX9_tells_98 : decode cX9_tells 98 = .ok (.iload 9, 2) := by decide +kernel
theorem dX9_tells_100 : decode cX9_tells 100 = .ok (.iconst (-1), 1) := by decide +kernel
theorem dX9_tells_101 : decode cX9_tells 101 = .ok (.if_icmp .ne 6, 3) := by decide +kernel
theorem dX9_tells_104 : decode cX9_tells 104 = .ok (.goto 60, 3) := by decide +kernel
theorem dX9_tells_107 : decode cX9_tells 107 = .ok (.aload_n 0, 1) := by decide +kernel
theorem dX9_tells_108 : decode cX9_tells 108 = .ok (.iload 9, 2) := by decide +kernel
theorem dX9_tells_110 : decode cX9_tells 110 = .ok (.invokevirtual 283, 3) := by decide +kernel
theorem dX9_tells_113 : decode cX9_tells 113 = .ok (.ifCond .eq 14, 3) := by decide +kernel
theorem dX9_tells_116 : decode cX9_tells 116 = .ok (.aload_n 0, 1) := by decide +kernel
theorem dX9_tells_117 : decode cX9_tells 117 = .ok (.iload 9, 2) := by decide +kernel
theorem dX9_tells_119 : decode cX9_tells 119 = .ok (.invokevirtual 289, 3) := by decide +kernel
theorem dX9_tells_122 : decode cX9_tells 122 = .ok (.iload 7, 2) := by decide +kernel
theorem dX9_tells_124 : decode cX9_tells 124 = .ok (.if_icmp .eq 5, 3) := by decide +kernel
theorem dX9_tells_127 : decode cX9_tells 127 = .ok (.iconst (-1), 1) := by decide +kernel
theorem dX9_tells_128 : decode cX9_tells 128 = .ok (.ireturn, 1) := by decide +kernel
theorem dX9_tells_129 : decode cX9_tells 129 = .ok (.aload_n 0, 1) := by decide +kernel
theorem dX9_tells_130 : decode cX9_tells 130 = .ok (.getfield 118, 3) := by decide +kernel
theorem dX9_tells_133 : decode cX9_tells 133 = .ok (.aload_n 0, 1) := by decide +kernel
theorem dX9_tells_134 : decode cX9_tells 134 = .ok (.getfield 429, 3) := by decide +kernel
theorem dX9_tells_137 : decode cX9_tells 137 = .ok (.iload 9, 2) := by decide +kernel
theorem dX9_tells_139 : decode cX9_tells 139 = .ok (.iastore, 1) := by decide +kernel
theorem dX9_tells_140 : decode cX9_tells 140 = .ok (.aload_n 0, 1) := by decide +kernel
theorem dX9_tells_141 : decode cX9_tells 141 = .ok (.dup, 1) := by decide +kernel
theorem dX9_tells_142 : decode cX9_tells 142 = .ok (.getfield 429, 3) := by decide +kernel
theorem dX9_tells_145 : decode cX9_tells 145 = .ok (.iconst 1, 1) := by decide +kernel
theorem dX9_tells_146 : decode cX9_tells 146 = .ok (.iadd, 1) := by decide +kernel
theorem dX9_tells_147 : decode cX9_tells 147 = .ok (.putfield 429, 3) := by decide +kernel
theorem dX9_tells_150 : decode cX9_tells 150 = .ok (.aload_n 0, 1) := by decide +kernel
theorem dX9_tells_151 : decode cX9_tells 151 = .ok (.iload 9, 2) := by decide +kernel
theorem dX9_tells_153 : decode cX9_tells 153 = .ok (.invokevirtual 292, 3) := by decide +kernel
theorem dX9_tells_156 : decode cX9_tells 156 = .ok (.istore 7, 2) := by decide +kernel
theorem dX9_tells_158 : decode cX9_tells 158 = .ok (.iinc 8 1, 3) := by decide +kernel
theorem dX9_tells_161 : decode cX9_tells 161 = .ok (.goto (-113), 3) := by decide +kernel
theorem dX9_tells_164 : decode cX9_tells 164 = .ok (.aload_n 0, 1) := by decide +kernel
theorem dX9_tells_165 : decode cX9_tells 165 = .ok (.iload 6, 2) := by decide +kernel
theorem dX9_tells_167 : decode cX9_tells 167 = .ok (.invokevirtual 463, 3) := by decide +kernel
theorem dX9_tells_170 : decode cX9_tells 170 = .ok (.ireturn, 1) := by decide +kernel
abbrev vs_EM_tells : List Cond := .code yX9_tells cX9_tells 10 (some .int) :: VM
theorem g_EM_tells_X9_in : GoodIn vs_EM_tells (va_wsS RX9 152 yX9_in vs_X9_in) := gm_0 (fun w h => by
  rcases List.mem_cons.mp h with rfl | h
  · exact vm_137
  rcases List.mem_cons.mp h with rfl | h
  · exact vm_138
  rcases List.mem_cons.mp h with rfl | h
  · exact vm_19
  rcases List.mem_cons.mp h with rfl | h
  · exact vm_139
  exact absurd h (List.not_mem_nil))
theorem g_EM_tells_EM_spanned : GoodIn vs_EM_tells (wsV RX9 463 RX9 yX9_spanned vs_EM_spanned) := gm_V vm_345 vm_346 vm_347 vm_19 vm_348
theorem g_EM_tells_EM_isEdge : GoodIn vs_EM_tells (wsV RX9 283 RX9 yX9_isEdge vs_EM_isEdge) := gm_V vm_144 vm_145 vm_146 vm_19 vm_147
theorem g_EM_tells_EM_outOf : GoodIn vs_EM_tells (wsV RX9 289 RX9 yX9_outOf vs_EM_outOf) := gm_V vm_41 vm_42 vm_43 vm_19 vm_44
theorem g_EM_tells_EM_into : GoodIn vs_EM_tells (wsV RX9 292 RX9 yX9_into vs_EM_into) := gm_V vm_37 vm_38 vm_39 vm_19 vm_40
noncomputable def sp_EM_tells_L1 (x16 : Nat) (x62 : Nat) (x63 : Nat) (f3 : Nat → Int32) (q4 : Nat → Nat) (q5 : Nat → Nat) (q6 : Nat → Nat) (q7 : Nat → Nat) (f8 : Nat → Int32) (q9 : Nat → Nat) (q10 : Nat → Nat) (f11 : Nat → Int32) (m12_0 : Nat) (m12_1 : Nat) (m13_0 : Nat) (m13_1 : Nat) (m14_0 : Nat) (m14_1 : Nat) (m15_0 : Nat) (m15_1 : Nat) (q55 : Nat → Nat) (q56 : Nat → Nat) (f57 : Nat → Int32) (q58 : Nat → Nat) (f60 : Nat → Int32) (p1 : Int32) (p2 : Int32) (p3 : Int32) (p4 : Int32) (n_5 : Nat) : ((Nat → Nat) × Nat × Int32 × Nat × Nat) → ((Nat → Nat) × Nat × Int32 × Nat × Nat) ⊕ (Int32 × (Nat → Nat) × (Nat → Nat) × (Nat → Nat) × (Nat → Int32) × (Nat → Nat) × (Nat → Int32) × Int32 × Nat × Nat × Nat) := fun (g_14, g_15, g_16, g_17, g_18) => (if 5 ≤ g_18 then (Sum.inr (slet (sp_EM_spanned x16 g_15 f3 q4 q5 q6 q7 f8 q9 q10 f11 m12_0 m12_1 m13_0 m13_1 m14_0 m14_1 m15_0 m15_1 g_14 q55 q56 f57 q58 f60 (nI n_5)) (fun (r_27, z55_28, z56_29, z57_30, z58_31, z60_32, z62_33, z63_34) => (r_27, g_14, z55_28, z56_29, z57_30, z58_31, z60_32, 0, g_15, z62_33, z63_34)))) else (slet (α := Int32) (if g_18 = 0 then g_16 else (if g_18 = 1 then p1 else (if g_18 = 2 then p2 else (if g_18 = 3 then p3 else p4)))) (fun g_35 => (if (g_35 : Int32) = (-1) then (Sum.inr (slet (sp_EM_spanned x16 g_15 f3 q4 q5 q6 q7 f8 q9 q10 f11 m12_0 m12_1 m13_0 m13_1 m14_0 m14_1 m15_0 m15_1 g_14 q55 q56 f57 q58 f60 (nI n_5)) (fun (r_50, z55_51, z56_52, z57_53, z58_54, z60_55, z62_56, z63_57) => (r_50, g_14, z55_51, z56_52, z57_53, z58_54, z60_55, 0, g_15, z62_56, z63_57)))) else (if (0 : Int32) ≤ g_35 ∧ g_35 < nI (bkN x16 m14_0 m14_1) then (slet ((g_35 : Int32).toNatClampNeg) (fun n_42 => (slet (sp_EM_outOf x16 q5 n_42) (fun u_44 => (if u_44 = g_17 then (slet (updN g_14 g_15 n_42) (fun q_46 => (slet (sp_EM_into x16 q6 n_42) (fun u_49 => (Sum.inl (q_46, (g_15 + 1), g_16, u_49, (g_18 + 1))))))) else (Sum.inr ((-1), g_14, q55, q56, f57, q58, f60, 0, g_15, x62, x63))))))) else (Sum.inr ((-1), g_14, q55, q56, f57, q58, f60, 0, g_15, x62, x63)))))))
noncomputable def sp_EM_tells (x16 : Nat) (x61 : Nat) (x62 : Nat) (x63 : Nat) (f3 : Nat → Int32) (q4 : Nat → Nat) (q5 : Nat → Nat) (q6 : Nat → Nat) (q7 : Nat → Nat) (f8 : Nat → Int32) (q9 : Nat → Nat) (q10 : Nat → Nat) (f11 : Nat → Int32) (m12_0 : Nat) (m12_1 : Nat) (m13_0 : Nat) (m13_1 : Nat) (m14_0 : Nat) (m14_1 : Nat) (m15_0 : Nat) (m15_1 : Nat) (q54 : Nat → Nat) (q55 : Nat → Nat) (q56 : Nat → Nat) (f57 : Nat → Int32) (q58 : Nat → Nat) (f60 : Nat → Int32) (p0 : Int32) (p1 : Int32) (p2 : Int32) (p3 : Int32) (p4 : Int32) (p5 : Int32) : Int32 × (Nat → Nat) × (Nat → Nat) × (Nat → Nat) × (Nat → Int32) × (Nat → Nat) × (Nat → Int32) × Int32 × Nat × Nat × Nat := (slet (if x16 = 0 then m13_0 else m13_1) (fun u_2 => (if u_2 = 0 then ((-1), q54, q55, q56, f57, q58, f60, 0, x61, x62, x63) else (if (0 : Int32) ≤ p5 ∧ p5 ≤ 3 then (slet ((p5 : Int32).toNatClampNeg) (fun n_5 => (slet (if x16 = 0 then m15_0 else m15_1) (fun u_7 => (slet (u_7 - 1) (fun vy_6 => (itrv (α := (Nat → Nat) × Nat × Int32 × Nat × Nat) (β := (Int32 × (Nat → Nat) × (Nat → Nat) × (Nat → Nat) × (Nat → Int32) × (Nat → Nat) × (Nat → Int32) × Int32 × Nat × Nat × Nat)) default (sp_EM_tells_L1 x16 x62 x63 f3 q4 q5 q6 q7 f8 q9 q10 f11 m12_0 m12_1 m13_0 m13_1 m14_0 m14_1 m15_0 m15_1 q55 q56 f57 q58 f60 p1 p2 p3 p4 n_5) (q54, 0, p0, vy_6, 0)))))))) else ((-1), q54, q55, q56, f57, q58, f60, 0, x61, x62, x63)))))
set_option maxHeartbeats 4000000 in
set_option maxRecDepth 100000 in
theorem c_EM_tells (l : Launch) (dC : Nat → ClassId) (dI : Nat → Nat → Nat) (sz : Nat) (ad : Nat → Nat) (ck : Nat → ClassId) (x0 : Int32) (x16 : Nat) (x18 : Nat) (x19 : Nat) (x20 : Int32) (x21 : Nat) (x22 : Nat) (x23 : Int32) (x24 : Int32) (x25 : Int32) (x26 : Nat) (x27 : Int32) (x28 : Nat) (x29 : Nat) (x30 : Nat) (x33 : Nat) (x45 : Int32) (x46 : Nat) (x52 : Nat) (x53 : Nat) (x61 : Nat) (x62 : Nat) (x63 : Nat) (x65 : Nat) (x66 : Int32) (f1 : Nat → Int32) (f2 : Nat → Int32) (f3 : Nat → Int32) (q4 : Nat → Nat) (q5 : Nat → Nat) (q6 : Nat → Nat) (q7 : Nat → Nat) (f8 : Nat → Int32) (q9 : Nat → Nat) (q10 : Nat → Nat) (f11 : Nat → Int32) (m12_0 m12_1 : Nat) (m13_0 m13_1 : Nat) (m14_0 m14_1 : Nat) (m15_0 m15_1 : Nat) (f17 : Nat → Int32) (q31 : Nat → Nat) (f32 : Nat → Int32) (f34 : Nat → Int32) (f35 : Nat → Int32) (f36 : Nat → Int32) (f37 : Nat → Int32) (q38 : Nat → Nat) (f39 : Nat → Int32) (f40 : Nat → Int32) (f41 : Nat → Int32) (m42_0 m42_1 : Nat) (f43 : Nat → Int32) (f44 : Nat → Int32) (f47 : Nat → Int32) (f48 : Nat → Int32) (f49 : Nat → Int32) (f50 : Nat → Int32) (f51 : Nat → Int32) (q54 : Nat → Nat) (q55 : Nat → Nat) (q56 : Nat → Nat) (f57 : Nat → Int32) (q58 : Nat → Nat) (f59 : Nat → Int32) (f60 : Nat → Int32) (f64 : Nat → Int32) (p0 : Int32) (p1 : Int32) (p2 : Int32) (p3 : Int32) (p4 : Int32) (p5 : Int32) (hx16 : x16 ≤ 1) (hx18 : x18 ≤ 900) (hx19 : x19 ≤ 900) (hx21 : x21 ≤ 900) (hx22 : x22 ≤ 4) (hx26 : x26 ≤ 6) (hx28 : x28 ≤ 1) (hx29 : x29 ≤ 1) (hx30 : x30 ≤ 1) (hx33 : x33 ≤ 20) (hx46 : x46 ≤ 5) (hx52 : x52 ≤ 2400) (hx53 : x53 ≤ 119) (hx61 : x61 ≤ 119) (hx62 : x62 ≤ 2000) (hx63 : x63 ≤ 1) (hx65 : x65 ≤ 7) (hm12_0 : m12_0 ≤ 3) (hm12_1 : m12_1 ≤ 3) (hm13_0 : m13_0 ≤ 8) (hm13_1 : m13_1 ≤ 8) (hm14_0 : m14_0 ≤ 14) (hm14_1 : m14_1 ≤ 14) (hm15_0 : m15_0 ≤ 8) (hm15_1 : m15_1 ≤ 8) (hm42_0 : m42_0 ≤ 120) (hm42_1 : m42_1 ≤ 400) (hbg : (x16 = 0 ∧ (m13_0 = 0 ∨ 1 ≤ m15_0)) ∨ (x16 = 1 ∧ (m13_1 = 0 ∨ 1 ≤ m15_1))) : Met l yX9_tells vs_EM_tells ({ frames := 6, cells := 0, slots := 0, locals := 138 }) (va_Pc [.ref (ad 0), .int p0, .int p1, .int p2, .int p3, .int p4, .int p5] (pu_B (dC, dI) (mo_w ad ck x0 (nI x16) (nI x18) (nI x19) x20 (nI x21) (nI x22) x23 x24 x25 (nI x26) x27 (nI x28) (nI x29) (nI x30) (nI x33) x45 (nI x46) (nI x52) (nI x53) (nI x61) (nI x62) (nI x63) (nI x65) x66 f1 f2 f3 (bN 3 q4) (bN 7 q5) (bN 7 q6) (bN 4 q7) f8 (bN 2 q9) (bH q10) f11 (b2 m12_0 m12_1) (b2 m13_0 m13_1) (b2 m14_0 m14_1) (b2m m15_0 m15_1) f17 (bA 159 q31) f32 f34 f35 f36 f37 (bN 7 q38) f39 f40 f41 (b2 m42_0 m42_1) f43 f44 f47 f48 f49 f50 f51 (bN 13 q54) (bN 120 q55) (bN 120 q56) f57 (bN 120 q58) f59 f60 f64) (mo_t ck) sz)) (va_Qi (fun (r : Int32) (_ : Unit) => r = (sp_EM_tells x16 x61 x62 x63 f3 q4 q5 q6 q7 f8 q9 q10 f11 m12_0 m12_1 m13_0 m13_1 m14_0 m14_1 m15_0 m15_1 q54 q55 q56 f57 q58 f60 p0 p1 p2 p3 p4 p5).1) (fun _ t => ∃ (z54 : Nat → Nat) (z55 : Nat → Nat) (z56 : Nat → Nat) (z57 : Nat → Int32) (z58 : Nat → Nat) (z60 : Nat → Int32) (z0 : Int32) (z61 : Nat) (z62 : Nat) (z63 : Nat), pu_E (dC, dI) (mo_w ad ck z0 (nI x16) (nI x18) (nI x19) x20 (nI x21) (nI x22) x23 x24 x25 (nI x26) x27 (nI x28) (nI x29) (nI x30) (nI x33) x45 (nI x46) (nI x52) (nI x53) (nI z61) (nI z62) (nI z63) (nI x65) x66 f1 f2 f3 (bN 3 q4) (bN 7 q5) (bN 7 q6) (bN 4 q7) f8 (bN 2 q9) (bH q10) f11 (b2 m12_0 m12_1) (b2 m13_0 m13_1) (b2 m14_0 m14_1) (b2m m15_0 m15_1) f17 (bA 159 q31) f32 f34 f35 f36 f37 (bN 7 q38) f39 f40 f41 (b2 m42_0 m42_1) f43 f44 f47 f48 f49 f50 f51 (bN 13 z54) (bN 120 z55) (bN 120 z56) z57 (bN 120 z58) f59 z60 f64) (mo_t ck) (va_A ((mo_w ad ck x0 (nI x16) (nI x18) (nI x19) x20 (nI x21) (nI x22) x23 x24 x25 (nI x26) x27 (nI x28) (nI x29) (nI x30) (nI x33) x45 (nI x46) (nI x52) (nI x53) (nI x61) (nI x62) (nI x63) (nI x65) x66 f1 f2 f3 (bN 3 q4) (bN 7 q5) (bN 7 q6) (bN 4 q7) f8 (bN 2 q9) (bH q10) f11 (b2 m12_0 m12_1) (b2 m13_0 m13_1) (b2 m14_0 m14_1) (b2m m15_0 m15_1) f17 (bA 159 q31) f32 f34 f35 f36 f37 (bN 7 q38) f39 f40 f41 (b2 m42_0 m42_1) f43 f44 f47 f48 f49 f50 f51 (bN 13 q54) (bN 120 q55) (bN 120 q56) f57 (bN 120 q58) f59 f60 f64)) sz) t ∧ (z61 ≤ 119) ∧ (z62 ≤ 2000) ∧ (z63 ≤ 1) ∧ ((z54, z55, z56, z57, z58, z60, z0, z61, z62, z63) = (sp_EM_tells x16 x61 x62 x63 f3 q4 q5 q6 q7 f8 q9 q10 f11 m12_0 m12_1 m13_0 m13_1 m14_0 m14_1 m15_0 m15_1 q54 q55 q56 f57 q58 f60 p0 p1 p2 p3 p4 p5).2)) (va_A ((mo_w ad ck x0 (nI x16) (nI x18) (nI x19) x20 (nI x21) (nI x22) x23 x24 x25 (nI x26) x27 (nI x28) (nI x29) (nI x30) (nI x33) x45 (nI x46) (nI x52) (nI x53) (nI x61) (nI x62) (nI x63) (nI x65) x66 f1 f2 f3 (bN 3 q4) (bN 7 q5) (bN 7 q6) (bN 4 q7) f8 (bN 2 q9) (bH q10) f11 (b2 m12_0 m12_1) (b2 m13_0 m13_1) (b2 m14_0 m14_1) (b2m m15_0 m15_1) f17 (bA 159 q31) f32 f34 f35 f36 f37 (bN 7 q38) f39 f40 f41 (b2 m42_0 m42_1) f43 f44 f47 f48 f49 f50 f51 (bN 13 q54) (bN 120 q55) (bN 120 q56) f57 (bN 120 q58) f59 f60 f64)) sz)) 0 0 (va_A ((mo_w ad ck x0 (nI x16) (nI x18) (nI x19) x20 (nI x21) (nI x22) x23 x24 x25 (nI x26) x27 (nI x28) (nI x29) (nI x30) (nI x33) x45 (nI x46) (nI x52) (nI x53) (nI x61) (nI x62) (nI x63) (nI x65) x66 f1 f2 f3 (bN 3 q4) (bN 7 q5) (bN 7 q6) (bN 4 q7) f8 (bN 2 q9) (bH q10) f11 (b2 m12_0 m12_1) (b2 m13_0 m13_1) (b2 m14_0 m14_1) (b2m m15_0 m15_1) f17 (bA 159 q31) f32 f34 f35 f36 f37 (bN 7 q38) f39 f40 f41 (b2 m42_0 m42_1) f43 f44 f47 f48 f49 f50 f51 (bN 13 q54) (bN 120 q55) (bN 120 q56) f57 (bN 120 q58) f59 f60 f64)) sz) := by
  refine Met.ofW (cc := cX9_tells) (maxL := 10) (ret := (some .int)) (by decide) rfl ?_
  intro p e s m args below meth c s₁ B hml hv
  obtain ⟨rfl, rfl, hP, hK, hD0⟩ := hv
  have hx := B.exec
  have hb := B.bytes
  have hr := B.returns
  have hts := atoms_spec (ws := vs_EM_tells) B.pre
  have v_1 := hts (.fieldLink RX9 142 "ClockReachModel" "thrown" "I") (List.mem_cons_of_mem _ vm_5)
  have v_2 := hts (.fieldLink RX9 46 "ClockReachModel" "placeMany" "[I") (List.mem_cons_of_mem _ vm_65)
  have v_3 := hts (.fieldLink RX9 258 "ClockReachModel" "bank" "I") (List.mem_cons_of_mem _ vm_4)
  have v_8 := hts (.fieldLink RX9 429 "ClockReachModel" "pathMany" "I") (List.mem_cons_of_mem _ vm_303)
  have v_9 := hts (.fieldLink RX9 52 "ClockReachModel" "begins" "[I") (List.mem_cons_of_mem _ vm_126)
  have v_18 := hts (.fieldLink RX9 118 "ClockReachModel" "path" "[I") (List.mem_cons_of_mem _ vm_304)
  have hown : s.vm.findClass RX9 = some m.cls := findClass_of_methodNamed B.named
  have hlocks := B.notSynchronized
  have hiX9 : ∀ w ∈ wsX90, w ∈ vs_EM_tells := fun _ h => List.mem_cons_of_mem _ (vmi_L h)
  have hD := hD0.self (sz := s.heap.size)
  generalize hAe : va_A ((mo_w ad ck x0 (nI x16) (nI x18) (nI x19) x20 (nI x21) (nI x22) x23 x24 x25 (nI x26) x27 (nI x28) (nI x29) (nI x30) (nI x33) x45 (nI x46) (nI x52) (nI x53) (nI x61) (nI x62) (nI x63) (nI x65) x66 f1 f2 f3 (bN 3 q4) (bN 7 q5) (bN 7 q6) (bN 4 q7) f8 (bN 2 q9) (bH q10) f11 (b2 m12_0 m12_1) (b2 m13_0 m13_1) (b2 m14_0 m14_1) (b2m m15_0 m15_1) f17 (bA 159 q31) f32 f34 f35 f36 f37 (bN 7 q38) f39 f40 f41 (b2 m42_0 m42_1) f43 f44 f47 f48 f49 f50 f51 (bN 13 q54) (bN 120 q55) (bN 120 q56) f57 (bN 120 q58) f59 f60 f64)) s.heap.size = A at hD ⊢
  have hA : ∀ q : Nat, s.heap.size ≤ q → A q := fun q h => by rw [← hAe]; exact Or.inr h
  have hS : va_S A s.heap s.heap [] := va_S.rf
  have hl := lv_entry ([.ref (ad 0), .int p0, .int p1, .int p2, .int p3, .int p4, .int p5]) (n := 10) (Nat.le_of_ble_eq_true rfl)
  rw [lg_entry_eq]
  generalize (lg_sl ([.ref (ad 0), .int p0, .int p1, .int p2, .int p3, .int p4, .int p5]) ++ List.replicate (10 - (lg_sl ([.ref (ad 0), .int p0, .int p1, .int p2, .int p3, .int p4, .int p5])).length) Slot.unset).toArray = ls at hl ⊢
  have hl : lv_has ls 10 [(0, .ref (ad 0)), (1, .int p0), (2, .int p1), (3, .int p2), (4, .int p3), (5, .int p4), (6, .int p5)] := hl
  obtain ⟨RR, hRR⟩ : ∃ x, x = (sp_EM_tells x16 x61 x62 x63 f3 q4 q5 q6 q7 f8 q9 q10 f11 m12_0 m12_1 m13_0 m13_1 m14_0 m14_1 m15_0 m15_1 q54 q55 q56 f57 q58 f60 p0 p1 p2 p3 p4 p5) := ⟨_, rfl⟩
  have hsp := hRR
  refine lv_aload_n hx hb dX9_tells_0 rfl (lv_at hl 0 rfl) ?_
  refine lv_iconst (v := 0) hx hb dX9_tells_1 (by decide) ?_
  refine va_put (D := (dC, dI)) (ci := 9) (v := .int 0) (ty := .int) (C := RX9) (T := TX9) (N := 67) hx hb hts hiX9 tyX9 tyX9_ok nmX9 hown hK hP hD hS 0 rfl rfl 0 (by decide) v_1 (fun _ h9 => h9) rfl (by decide +kernel) rfl rfl (Nat.le_of_ble_eq_true rfl) dX9_tells_2 (fun H locs hP hD hS => ?_)
  have hP : va_P (dC, dI) vwCl (mo_w ad ck 0 (nI x16) (nI x18) (nI x19) x20 (nI x21) (nI x22) x23 x24 x25 (nI x26) x27 (nI x28) (nI x29) (nI x30) (nI x33) x45 (nI x46) (nI x52) (nI x53) (nI x61) (nI x62) (nI x63) (nI x65) x66 f1 f2 f3 (bN 3 q4) (bN 7 q5) (bN 7 q6) (bN 4 q7) f8 (bN 2 q9) (bH q10) f11 (b2 m12_0 m12_1) (b2 m13_0 m13_1) (b2 m14_0 m14_1) (b2m m15_0 m15_1) f17 (bA 159 q31) f32 f34 f35 f36 f37 (bN 7 q38) f39 f40 f41 (b2 m42_0 m42_1) f43 f44 f47 f48 f49 f50 f51 (bN 13 q54) (bN 120 q55) (bN 120 q56) f57 (bN 120 q58) f59 f60 f64) H := hP
  have hD : va_D A (mo_w ad ck 0 (nI x16) (nI x18) (nI x19) x20 (nI x21) (nI x22) x23 x24 x25 (nI x26) x27 (nI x28) (nI x29) (nI x30) (nI x33) x45 (nI x46) (nI x52) (nI x53) (nI x61) (nI x62) (nI x63) (nI x65) x66 f1 f2 f3 (bN 3 q4) (bN 7 q5) (bN 7 q6) (bN 4 q7) f8 (bN 2 q9) (bH q10) f11 (b2 m12_0 m12_1) (b2 m13_0 m13_1) (b2 m14_0 m14_1) (b2m m15_0 m15_1) f17 (bA 159 q31) f32 f34 f35 f36 f37 (bN 7 q38) f39 f40 f41 (b2 m42_0 m42_1) f43 f44 f47 f48 f49 f50 f51 (bN 13 q54) (bN 120 q55) (bN 120 q56) f57 (bN 120 q58) f59 f60 f64) := hD
  refine lv_aload_n hx hb dX9_tells_5 rfl (lv_at hl 0 rfl) ?_
  refine va_get (D := (dC, dI)) (ci := 9) (v := .ref (ad 13)) (C := RX9) (T := TX9) (N := 67) hx hb hts hiX9 hown hK hP 0 rfl rfl 13 (by decide) v_2 (fun _ h9 => h9) rfl dX9_tells_6 ?_
  refine lv_aload_n hx hb dX9_tells_9 rfl (lv_at hl 0 rfl) ?_
  refine va_get (D := (dC, dI)) (ci := 9) (v := .int (nI x16)) (C := RX9) (T := TX9) (N := 67) hx hb hts hiX9 hown hK hP 0 rfl rfl 16 (by decide) v_3 (fun _ h9 => h9) rfl dX9_tells_10 ?_
  refine va_iald hx hb hK hP 13 12 rfl rfl (vp_in_nI (n := x16) (Nat.lt_of_le_of_lt hx16 (Nat.le_of_ble_eq_true rfl)) (Nat.le_of_ble_eq_true rfl)) dX9_tells_13 ?_
  refine lv_topi (fun y_1 ey_1 => ?_)
  obtain ⟨u_2, hu_2, fu_2, xu_2⟩ := b2_getx (a := m13_0) (b := m13_1) (i := x16) (by omega)
  have qy_1 := ey_1.trans fu_2
  replace hsp := hsp.trans (slet_eq xu_2)
  obtain rfl : y_1 = nI u_2 := qy_1
  refine lv_if_eq (tgt := 27) hx hb dX9_tells_14 (by decide) (fun c_3 => ?_) (fun c_3 => ?_)
  · have c_3 : u_2 = 0 := (nI_eq (a := u_2) (b := 0) (by omega) (Nat.le_of_ble_eq_true rfl)).mp c_3
    replace hsp := hsp.trans (if_pos c_3)
    refine lv_iconst (v := (-1)) hx hb dX9_tells_27 (by decide) ?_
    exact W.iret (v := (-1)) hx hb hr (fun t ht hW => ⟨⟨(-1), (), rfl, (congrArg Prod.fst (hsp.symm.trans hRR)), ⟨q54, q55, q56, f57, q58, f60, 0, x61, x62, x63, ⟨by rw [ht]; exact hP, va_K.moved hW.alike hK, hD⟩, hx61, hx62, hx63, (congrArg Prod.snd (hsp.symm.trans hRR))⟩⟩, hS.F ht⟩) hS.2.2 dX9_tells_28
  · have c_3 : ¬ u_2 = 0 := fun z => c_3 ((nI_eq (a := u_2) (b := 0) (by omega) (Nat.le_of_ble_eq_true rfl)).mpr z)
    replace hsp := hsp.trans (if_neg c_3)
    refine lv_iload hx hb dX9_tells_17 (lv_at hl 6 rfl) ?_
    refine lv_iconst (v := 0) hx hb dX9_tells_19 (by decide) ?_
    refine lv_iconst (v := 3) hx hb dX9_tells_20 (by decide) ?_
    refine va_calli (va_runS (As := [.int p5, .int 0, .int 3]) (rest := []) ⟨hx, hb, hml, hown, hts⟩ (c_X9_in l dC dI _ p5 0 3) (va_cwS 3 hts g_EM_tells_X9_in rfl rfl rfl (by decide +kernel) ⟨Nat.le_of_ble_eq_true rfl, Nat.le_of_ble_eq_true rfl⟩) ⟨pu_bl, pu_in (hP.sub [] rfl) (hK.sub [] rfl) (hD.sub [] (by decide) rfl)⟩ rfl rfl hl.1 rfl (lv_room (Nat.le_of_ble_eq_true rfl)) dX9_tells_21 ⟨Nat.le_of_ble_eq_true rfl, Nat.le_of_ble_eq_true rfl⟩) hS (fun q _ h => pu_fr hS hA q h) (pu_fr hS hA) (fun r_4 u t H1 locs ht hvm hw hB hz1 hk1 hS => ?_)
    have hP := pu_keep hP hk1
    clear hk1 hz1 ht hvm
    generalize H1 = H at hP hS ⊢
    rcases hw with ⟨rfl, hi1, hi2⟩ | ⟨rfl, hi3⟩
    · replace hsp := hsp.trans (if_pos ⟨hi1, hi2⟩)
      obtain ⟨n_5, hn_5, rfl⟩ := pu_in0 (n := 3) (by omega) hi1 hi2
      replace hsp := hsp.trans (slet_eq (nI_cl (n := n_5) (by omega)))
      refine lv_if_ne (tgt := 29) hx hb dX9_tells_24 (by decide) (fun _ => ?_) (fun z => absurd z (by decide))
      refine lv_aload_n hx hb dX9_tells_29 rfl (lv_at hl 0 rfl) ?_
      refine lv_iconst (v := 0) hx hb dX9_tells_30 (by decide) ?_
      refine va_put (D := (dC, dI)) (ci := 9) (v := .int 0) (ty := .int) (C := RX9) (T := TX9) (N := 67) hx hb hts hiX9 tyX9 tyX9_ok nmX9 hown hK hP hD hS 0 rfl rfl 61 (by decide) v_8 (fun _ h9 => h9) rfl (by decide +kernel) rfl rfl (Nat.le_of_ble_eq_true rfl) dX9_tells_31 (fun H locs hP hD hS => ?_)
      have hP : va_P (dC, dI) vwCl (mo_w ad ck 0 (nI x16) (nI x18) (nI x19) x20 (nI x21) (nI x22) x23 x24 x25 (nI x26) x27 (nI x28) (nI x29) (nI x30) (nI x33) x45 (nI x46) (nI x52) (nI x53) 0 (nI x62) (nI x63) (nI x65) x66 f1 f2 f3 (bN 3 q4) (bN 7 q5) (bN 7 q6) (bN 4 q7) f8 (bN 2 q9) (bH q10) f11 (b2 m12_0 m12_1) (b2 m13_0 m13_1) (b2 m14_0 m14_1) (b2m m15_0 m15_1) f17 (bA 159 q31) f32 f34 f35 f36 f37 (bN 7 q38) f39 f40 f41 (b2 m42_0 m42_1) f43 f44 f47 f48 f49 f50 f51 (bN 13 q54) (bN 120 q55) (bN 120 q56) f57 (bN 120 q58) f59 f60 f64) H := hP
      have hD : va_D A (mo_w ad ck 0 (nI x16) (nI x18) (nI x19) x20 (nI x21) (nI x22) x23 x24 x25 (nI x26) x27 (nI x28) (nI x29) (nI x30) (nI x33) x45 (nI x46) (nI x52) (nI x53) 0 (nI x62) (nI x63) (nI x65) x66 f1 f2 f3 (bN 3 q4) (bN 7 q5) (bN 7 q6) (bN 4 q7) f8 (bN 2 q9) (bH q10) f11 (b2 m12_0 m12_1) (b2 m13_0 m13_1) (b2 m14_0 m14_1) (b2m m15_0 m15_1) f17 (bA 159 q31) f32 f34 f35 f36 f37 (bN 7 q38) f39 f40 f41 (b2 m42_0 m42_1) f43 f44 f47 f48 f49 f50 f51 (bN 13 q54) (bN 120 q55) (bN 120 q56) f57 (bN 120 q58) f59 f60 f64) := hD
      refine lv_aload_n hx hb dX9_tells_34 rfl (lv_at hl 0 rfl) ?_
      refine va_get (D := (dC, dI)) (ci := 9) (v := .ref (ad 15)) (C := RX9) (T := TX9) (N := 67) hx hb hts hiX9 hown hK hP 0 rfl rfl 15 (by decide) v_9 (fun _ h9 => h9) rfl dX9_tells_35 ?_
      refine lv_aload_n hx hb dX9_tells_38 rfl (lv_at hl 0 rfl) ?_
      refine va_get (D := (dC, dI)) (ci := 9) (v := .int (nI x16)) (C := RX9) (T := TX9) (N := 67) hx hb hts hiX9 hown hK hP 0 rfl rfl 16 (by decide) v_3 (fun _ h9 => h9) rfl dX9_tells_39 ?_
      refine va_iald hx hb hK hP 15 14 rfl rfl (vp_in_nI (n := x16) (Nat.lt_of_le_of_lt hx16 (Nat.le_of_ble_eq_true rfl)) (Nat.le_of_ble_eq_true rfl)) dX9_tells_42 ?_
      refine lv_topi (fun y_6 ey_6 => ?_)
      obtain ⟨u_7, hu_7, fu_7, xu_7⟩ := b2m_getx (a := m15_0) (b := m15_1) (i := x16) (by omega)
      have qy_6 := ey_6.trans fu_7
      replace hsp := hsp.trans (slet_eq xu_7)
      rcases mI_get u_7 with ⟨zy_6, wy_6⟩ | ⟨vy_6, zy_6, wy_6⟩
      · exfalso
        omega
      · obtain rfl : y_6 = nI vy_6 := qy_6.trans wy_6
        replace hsp := hsp.trans (slet_eq (by omega : vy_6 = u_7 - 1))
        refine lv_istore (lv' := [(7, .int (nI vy_6)), (0, .ref (ad 0)), (1, .int p0), (2, .int p1), (3, .int p2), (4, .int p3), (5, .int p4), (6, .int (nI n_5))]) hx hb dX9_tells_43 hl (by decide) rfl (fun ls hl => ?_)
        refine lv_iconst (v := 0) hx hb dX9_tells_45 (by decide) ?_
        refine lv_istore (lv' := [(8, .int 0), (7, .int (nI vy_6)), (0, .ref (ad 0)), (1, .int p0), (2, .int p1), (3, .int p2), (4, .int p3), (5, .int p4), (6, .int (nI n_5))]) hx hb dX9_tells_46 hl (by decide) rfl (fun ls hl => ?_)
        obtain ⟨lf_21, dlf_21, hlf_21, hsp⟩ := itr_ex hsp
        delta sp_EM_tells_L1 at hlf_21
        refine pu_while (fun nn H locs ls => ∃ (g_14 : Nat → Nat) (g_15 : Nat) (g_16 : Int32) (g_17 : Nat) (g_18 : Nat), nn = 5 - g_18 ∧ g_15 ≤ 5 ∧ g_17 ≤ 7 ∧ g_18 ≤ 5 ∧ g_15 ≤ g_18 ∧ RR = itrv dlf_21 lf_21 (g_14, g_15, g_16, g_17, g_18) ∧ va_P (dC, dI) vwCl (mo_w ad ck 0 (nI x16) (nI x18) (nI x19) x20 (nI x21) (nI x22) x23 x24 x25 (nI x26) x27 (nI x28) (nI x29) (nI x30) (nI x33) x45 (nI x46) (nI x52) (nI x53) (nI g_15) (nI x62) (nI x63) (nI x65) x66 f1 f2 f3 (bN 3 q4) (bN 7 q5) (bN 7 q6) (bN 4 q7) f8 (bN 2 q9) (bH q10) f11 (b2 m12_0 m12_1) (b2 m13_0 m13_1) (b2 m14_0 m14_1) (b2m m15_0 m15_1) f17 (bA 159 q31) f32 f34 f35 f36 f37 (bN 7 q38) f39 f40 f41 (b2 m42_0 m42_1) f43 f44 f47 f48 f49 f50 f51 (bN 13 g_14) (bN 120 q55) (bN 120 q56) f57 (bN 120 q58) f59 f60 f64) H ∧ va_D A (mo_w ad ck 0 (nI x16) (nI x18) (nI x19) x20 (nI x21) (nI x22) x23 x24 x25 (nI x26) x27 (nI x28) (nI x29) (nI x30) (nI x33) x45 (nI x46) (nI x52) (nI x53) (nI g_15) (nI x62) (nI x63) (nI x65) x66 f1 f2 f3 (bN 3 q4) (bN 7 q5) (bN 7 q6) (bN 4 q7) f8 (bN 2 q9) (bH q10) f11 (b2 m12_0 m12_1) (b2 m13_0 m13_1) (b2 m14_0 m14_1) (b2m m15_0 m15_1) f17 (bA 159 q31) f32 f34 f35 f36 f37 (bN 7 q38) f39 f40 f41 (b2 m42_0 m42_1) f43 f44 f47 f48 f49 f50 f51 (bN 13 g_14) (bN 120 q55) (bN 120 q56) f57 (bN 120 q58) f59 f60 f64) ∧ va_S A s.heap H locs ∧ lv_has ls 10 [(0, .ref (ad 0)), (1, .int g_16), (2, .int p1), (3, .int p2), (4, .int p3), (5, .int p4), (6, .int (nI n_5)), (7, .int (nI g_17)), (8, .int (nI g_18))]) 48 ?_ _ _ _ _ ⟨q54, 0, p0, vy_6, 0, rfl, (Nat.le_of_ble_eq_true rfl), (by omega), (Nat.le_of_ble_eq_true rfl), by omega, hsp, hP, hD, hS, lv_sub hl [2, 3, 4, 5, 6, 7, 8, 1, 0] rfl⟩
        rintro nn ih_20 H locs ls ⟨g_14, g_15, g_16, g_17, g_18, rfl, hg_15, hg_17, hg_18, he_19, he_23, hP, hD, hS, hl⟩
        obtain ⟨S_22, hsp, hin_24, hout_25⟩ := itr_step hlf_21 he_23
        refine lv_iload hx hb dX9_tells_48 (lv_at hl 8 rfl) ?_
        refine lv_iconst (v := 5) hx hb dX9_tells_50 (by decide) ?_
        refine lv_icmp_ge (tgt := 164) hx hb dX9_tells_51 (by decide) (fun c_26 => ?_) (fun c_26 => ?_)
        · have c_26 : 5 ≤ g_18 := (nI_leI (a := 5) (b := g_18) (Nat.le_of_ble_eq_true rfl) (Nat.lt_of_le_of_lt hg_18 (Nat.le_of_ble_eq_true rfl))).mp c_26
          replace hsp := hsp.trans (if_pos c_26)
          have hsp := hout_25 _ hsp
          refine lv_aload_n hx hb dX9_tells_164 rfl (lv_at hl 0 rfl) ?_
          refine lv_iload hx hb dX9_tells_165 (lv_at hl 6 rfl) ?_
          have hFc := pu_free hD hS hA
          refine va_calli (va_runV (As := [.int (nI n_5)]) (rest := []) ⟨hx, hb, hml, hown, hts⟩ (c_EM_spanned l dC dI _ ad ck 0 x16 x18 x19 x20 x21 x22 x23 x24 x25 x26 x27 x28 x29 x30 x33 x45 x46 x52 x53 g_15 x62 x63 x65 x66 f1 f2 f3 q4 q5 q6 q7 f8 q9 q10 f11 m12_0 m12_1 m13_0 m13_1 m14_0 m14_1 m15_0 m15_1 f17 q31 f32 f34 f35 f36 f37 q38 f39 f40 f41 m42_0 m42_1 f43 f44 f47 f48 f49 f50 f51 g_14 q55 q56 f57 q58 f59 f60 f64 (nI n_5) hx16 hx18 hx19 hx21 hx22 hx26 hx28 hx29 hx30 hx33 hx46 hx52 hx53 (Nat.le_trans hg_15 (Nat.le_of_ble_eq_true rfl)) hx62 hx63 hx65 hm12_0 hm12_1 hm13_0 hm13_1 hm14_0 hm14_1 hm15_0 hm15_1 hm42_0 hm42_1 (by first | assumption | omega)) (cwV 1 hts g_EM_tells_EM_spanned rfl rfl rfl (by decide +kernel) ⟨Nat.le_of_ble_eq_true rfl, Nat.le_of_ble_eq_true rfl⟩) ⟨pu_bl, va_recv hK hP (ci := 9) (q0 := 0) rfl rfl, pu_in hP hK hD⟩ rfl rfl hl.1 rfl (lv_room (Nat.le_of_ble_eq_true rfl)) dX9_tells_167 ⟨Nat.le_of_ble_eq_true rfl, Nat.le_of_ble_eq_true rfl⟩) hS (fun q _ h => hFc q h) hFc (fun r_27 u t H1 locs ht hvm hw hB hz1 hk1 hS => ?_)
          obtain ⟨z55_28, z56_29, z57_30, z58_31, z60_32, z62_33, z63_34, ⟨hP1, -, hD1⟩, hz62_33, hz63_34, xr_27_0⟩ := hB
          rw [ht] at hP1
          have hP := hP1
          have hD := pu_all hFc hD1
          clear hP1 hD1 hFc
          clear hk1 hz1 ht hvm
          generalize H1 = H at hP hS ⊢
          have ir_27 := hw
          have ir_27 : (r_27, z55_28, z56_29, z57_30, z58_31, z60_32, z62_33, z63_34) = (sp_EM_spanned x16 g_15 f3 q4 q5 q6 q7 f8 q9 q10 f11 m12_0 m12_1 m13_0 m13_1 m14_0 m14_1 m15_0 m15_1 g_14 q55 q56 f57 q58 f60 (nI n_5)) := Prod.ext ir_27 xr_27_0
          replace hsp := hsp.trans (slet_eq ir_27)
          exact W.iret (v := r_27) hx hb hr (fun t ht hW => ⟨⟨r_27, (), rfl, (congrArg Prod.fst (hsp.symm.trans hRR)), ⟨g_14, z55_28, z56_29, z57_30, z58_31, z60_32, 0, g_15, z62_33, z63_34, ⟨by rw [ht]; exact hP, va_K.moved hW.alike hK, hD⟩, (Nat.le_trans hg_15 (Nat.le_of_ble_eq_true rfl)), hz62_33, hz63_34, (congrArg Prod.snd (hsp.symm.trans hRR))⟩⟩, hS.F ht⟩) hS.2.2 dX9_tells_170
        · have c_26 : ¬ 5 ≤ g_18 := fun z => c_26 ((nI_leI (a := 5) (b := g_18) (Nat.le_of_ble_eq_true rfl) (Nat.lt_of_le_of_lt hg_18 (Nat.le_of_ble_eq_true rfl))).mpr z)
          replace hsp := hsp.trans (if_neg c_26)
          refine lv_iload hx hb dX9_tells_54 (lv_at hl 8 rfl) ?_
          obtain ⟨JR_38, hJR_38, hsp⟩ := slet_ex hsp
          refine pu_join (fun H locs ls st => ∃ (g_35 : Int32), st = [.int g_35] ∧ g_15 ≤ g_18 ∧ g_35 = JR_38 ∧ va_P (dC, dI) vwCl (mo_w ad ck 0 (nI x16) (nI x18) (nI x19) x20 (nI x21) (nI x22) x23 x24 x25 (nI x26) x27 (nI x28) (nI x29) (nI x30) (nI x33) x45 (nI x46) (nI x52) (nI x53) (nI g_15) (nI x62) (nI x63) (nI x65) x66 f1 f2 f3 (bN 3 q4) (bN 7 q5) (bN 7 q6) (bN 4 q7) f8 (bN 2 q9) (bH q10) f11 (b2 m12_0 m12_1) (b2 m13_0 m13_1) (b2 m14_0 m14_1) (b2m m15_0 m15_1) f17 (bA 159 q31) f32 f34 f35 f36 f37 (bN 7 q38) f39 f40 f41 (b2 m42_0 m42_1) f43 f44 f47 f48 f49 f50 f51 (bN 13 g_14) (bN 120 q55) (bN 120 q56) f57 (bN 120 q58) f59 f60 f64) H ∧ va_D A (mo_w ad ck 0 (nI x16) (nI x18) (nI x19) x20 (nI x21) (nI x22) x23 x24 x25 (nI x26) x27 (nI x28) (nI x29) (nI x30) (nI x33) x45 (nI x46) (nI x52) (nI x53) (nI g_15) (nI x62) (nI x63) (nI x65) x66 f1 f2 f3 (bN 3 q4) (bN 7 q5) (bN 7 q6) (bN 4 q7) f8 (bN 2 q9) (bH q10) f11 (b2 m12_0 m12_1) (b2 m13_0 m13_1) (b2 m14_0 m14_1) (b2m m15_0 m15_1) f17 (bA 159 q31) f32 f34 f35 f36 f37 (bN 7 q38) f39 f40 f41 (b2 m42_0 m42_1) f43 f44 f47 f48 f49 f50 f51 (bN 13 g_14) (bN 120 q55) (bN 120 q56) f57 (bN 120 q58) f59 f60 f64) ∧ va_S A s.heap H locs ∧ lv_has ls 10 [(0, .ref (ad 0)), (1, .int g_16), (2, .int p1), (3, .int p2), (4, .int p3), (5, .int p4), (6, .int (nI n_5)), (7, .int (nI g_17)), (8, .int (nI g_18))]) 96 ?_ (fun j_37 => ?_)
          · rintro H locs ls st ⟨g_35, rfl, he_36, he_39, hP, hD, hS, hl⟩
            rw [← he_39] at hsp
            refine lv_istore (lv' := [(9, .int g_35), (0, .ref (ad 0)), (1, .int g_16), (2, .int p1), (3, .int p2), (4, .int p3), (5, .int p4), (6, .int (nI n_5)), (7, .int (nI g_17)), (8, .int (nI g_18))]) hx hb dX9_tells_96 hl (by decide) rfl (fun ls hl => ?_)
            refine lv_iload hx hb dX9_tells_98 (lv_at hl 0 rfl) ?_
            refine lv_iconst (v := (-1)) hx hb dX9_tells_100 (by decide) ?_
            refine lv_icmp_ne (tgt := 107) hx hb dX9_tells_101 (by decide) (fun c_40 => ?_) (fun c_40 => ?_)
            · have hcc_40 := c_40
              replace hsp := hsp.trans (if_neg c_40)
              refine lv_aload_n hx hb dX9_tells_107 rfl (lv_at hl 1 rfl) ?_
              refine lv_iload hx hb dX9_tells_108 (lv_at hl 0 rfl) ?_
              refine va_calli (va_runV (As := [.int g_35]) (rest := []) ⟨hx, hb, hml, hown, hts⟩ (c_EM_isEdge l dC dI _ ad ck 0 x16 x18 x19 x20 x21 x22 x23 x24 x25 x26 x27 x28 x29 x30 x33 x45 x46 x52 x53 g_15 x62 x63 x65 x66 f1 f2 f3 q4 q5 q6 q7 f8 q9 q10 f11 m12_0 m12_1 m13_0 m13_1 m14_0 m14_1 m15_0 m15_1 f17 q31 f32 f34 f35 f36 f37 q38 f39 f40 f41 m42_0 m42_1 f43 f44 f47 f48 f49 f50 f51 g_14 q55 q56 f57 q58 f59 f60 f64 g_35 hx16 hx18 hx19 hx21 hx22 hx26 hx28 hx29 hx30 hx33 hx46 hx52 hx53 (Nat.le_trans hg_15 (Nat.le_of_ble_eq_true rfl)) hx62 hx63 hx65 hm12_0 hm12_1 hm13_0 hm13_1 hm14_0 hm14_1 hm15_0 hm15_1 hm42_0 hm42_1) (cwV 1 hts g_EM_tells_EM_isEdge rfl rfl rfl (by decide +kernel) ⟨Nat.le_of_ble_eq_true rfl, Nat.le_of_ble_eq_true rfl⟩) ⟨pu_bl, va_recv hK hP (ci := 9) (q0 := 0) rfl rfl, pu_in hP hK hD⟩ rfl rfl hl.1 rfl (lv_room (Nat.le_of_ble_eq_true rfl)) dX9_tells_110 ⟨Nat.le_of_ble_eq_true rfl, Nat.le_of_ble_eq_true rfl⟩) hS (fun q _ h => pu_fr hS hA q h) (pu_fr hS hA) (fun r_41 u t H1 locs ht hvm hw hB hz1 hk1 hS => ?_)
              have hP := pu_keep hP hk1
              clear hk1 hz1 ht hvm
              generalize H1 = H at hP hS ⊢
              rcases hw with ⟨rfl, hw⟩ | ⟨rfl, hn⟩
              · obtain ⟨n_42, hn_42, en_42⟩ := hw
                replace hsp := hsp.trans (if_pos (in_c hn_42 ⟨by omega, by omega⟩ en_42))
                subst en_42
                replace hsp := hsp.trans (slet_eq (nI_cl (n := n_42) (by omega)))
                refine lv_if_eq (tgt := 127) hx hb dX9_tells_113 (by decide) (fun z => absurd z (by decide)) (fun _ => ?_)
                refine lv_aload_n hx hb dX9_tells_116 rfl (lv_at hl 1 rfl) ?_
                refine lv_iload hx hb dX9_tells_117 (lv_at hl 0 rfl) ?_
                refine va_calli (va_runV (As := [.int (nI n_42)]) (rest := []) ⟨hx, hb, hml, hown, hts⟩ (c_EM_outOf l dC dI _ ad ck 0 x16 x18 x19 x20 x21 x22 x23 x24 x25 x26 x27 x28 x29 x30 x33 x45 x46 x52 x53 g_15 x62 x63 x65 x66 f1 f2 f3 q4 q5 q6 q7 f8 q9 q10 f11 m12_0 m12_1 m13_0 m13_1 m14_0 m14_1 m15_0 m15_1 f17 q31 f32 f34 f35 f36 f37 q38 f39 f40 f41 m42_0 m42_1 f43 f44 f47 f48 f49 f50 f51 g_14 q55 q56 f57 q58 f59 f60 f64 n_42 hx16 hx18 hx19 hx21 hx22 hx26 hx28 hx29 hx30 hx33 hx46 hx52 hx53 (Nat.le_trans hg_15 (Nat.le_of_ble_eq_true rfl)) hx62 hx63 hx65 hm12_0 hm12_1 hm13_0 hm13_1 hm14_0 hm14_1 hm15_0 hm15_1 hm42_0 hm42_1 (by omega)) (cwV 1 hts g_EM_tells_EM_outOf rfl rfl rfl (by decide +kernel) ⟨Nat.le_of_ble_eq_true rfl, Nat.le_of_ble_eq_true rfl⟩) ⟨pu_bl, va_recv hK hP (ci := 9) (q0 := 0) rfl rfl, pu_in hP hK hD⟩ rfl rfl hl.1 rfl (lv_room (Nat.le_of_ble_eq_true rfl)) dX9_tells_119 ⟨Nat.le_of_ble_eq_true rfl, Nat.le_of_ble_eq_true rfl⟩) hS (fun q _ h => pu_fr hS hA q h) (pu_fr hS hA) (fun r_43 u t H1 locs ht hvm hw hB hz1 hk1 hS => ?_)
                have hP := pu_keep hP hk1
                clear hk1 hz1 ht hvm
                generalize H1 = H at hP hS ⊢
                obtain ⟨u_44, hu_44, rfl, iu_44⟩ := hw
                replace hsp := hsp.trans (slet_eq iu_44)
                refine lv_iload hx hb dX9_tells_122 (lv_at hl 8 rfl) ?_
                refine lv_icmp_eq (tgt := 129) hx hb dX9_tells_124 (by decide) (fun c_45 => ?_) (fun c_45 => ?_)
                · have c_45 : u_44 = g_17 := (nI_eq (a := u_44) (b := g_17) (Nat.lt_of_le_of_lt hu_44 (Nat.le_of_ble_eq_true rfl)) (Nat.lt_of_le_of_lt hg_17 (Nat.le_of_ble_eq_true rfl))).mp c_45
                  replace hsp := hsp.trans (if_pos c_45)
                  refine lv_aload_n hx hb dX9_tells_129 rfl (lv_at hl 1 rfl) ?_
                  refine va_get (D := (dC, dI)) (ci := 9) (v := .ref (ad 54)) (C := RX9) (T := TX9) (N := 67) hx hb hts hiX9 hown hK hP 0 rfl rfl 54 (by decide) v_18 (fun _ h9 => h9) rfl dX9_tells_130 ?_
                  refine lv_aload_n hx hb dX9_tells_133 rfl (lv_at hl 1 rfl) ?_
                  refine va_get (D := (dC, dI)) (ci := 9) (v := .int (nI g_15)) (C := RX9) (T := TX9) (N := 67) hx hb hts hiX9 hown hK hP 0 rfl rfl 61 (by decide) v_8 (fun _ h9 => h9) rfl dX9_tells_134 ?_
                  refine lv_iload hx hb dX9_tells_137 (lv_at hl 0 rfl) ?_
                  refine va_iast hx hb hK hP hD hS 35 34 rfl rfl (vp_in_nI (n := g_15) (Nat.lt_of_le_of_lt hg_15 (Nat.le_of_ble_eq_true rfl)) (Nat.le_of_ble_eq_true rfl)) dX9_tells_139 (fun H locs hP hD hS => ?_)
                  obtain ⟨q_46, eq_46, kq_46, oq_46, xq_46⟩ := bN_upx 13 g_14 (n := g_15) (v := n_42) (Nat.lt_of_le_of_lt hg_15 (Nat.le_of_ble_eq_true rfl)) (by omega)
                  have hP : va_P (dC, dI) vwCl (mo_w ad ck 0 (nI x16) (nI x18) (nI x19) x20 (nI x21) (nI x22) x23 x24 x25 (nI x26) x27 (nI x28) (nI x29) (nI x30) (nI x33) x45 (nI x46) (nI x52) (nI x53) (nI g_15) (nI x62) (nI x63) (nI x65) x66 f1 f2 f3 (bN 3 q4) (bN 7 q5) (bN 7 q6) (bN 4 q7) f8 (bN 2 q9) (bH q10) f11 (b2 m12_0 m12_1) (b2 m13_0 m13_1) (b2 m14_0 m14_1) (b2m m15_0 m15_1) f17 (bA 159 q31) f32 f34 f35 f36 f37 (bN 7 q38) f39 f40 f41 (b2 m42_0 m42_1) f43 f44 f47 f48 f49 f50 f51 (bN 13 q_46) (bN 120 q55) (bN 120 q56) f57 (bN 120 q58) f59 f60 f64) H := by rw [← eq_46]; exact hP
                  have hD : va_D A (mo_w ad ck 0 (nI x16) (nI x18) (nI x19) x20 (nI x21) (nI x22) x23 x24 x25 (nI x26) x27 (nI x28) (nI x29) (nI x30) (nI x33) x45 (nI x46) (nI x52) (nI x53) (nI g_15) (nI x62) (nI x63) (nI x65) x66 f1 f2 f3 (bN 3 q4) (bN 7 q5) (bN 7 q6) (bN 4 q7) f8 (bN 2 q9) (bH q10) f11 (b2 m12_0 m12_1) (b2 m13_0 m13_1) (b2 m14_0 m14_1) (b2m m15_0 m15_1) f17 (bA 159 q31) f32 f34 f35 f36 f37 (bN 7 q38) f39 f40 f41 (b2 m42_0 m42_1) f43 f44 f47 f48 f49 f50 f51 (bN 13 q_46) (bN 120 q55) (bN 120 q56) f57 (bN 120 q58) f59 f60 f64) := by rw [← eq_46]; exact hD
                  replace hsp := hsp.trans (slet_eq xq_46)
                  refine lv_aload_n hx hb dX9_tells_140 rfl (lv_at hl 1 rfl) ?_
                  refine lv_dup hx hb dX9_tells_141 rfl ?_
                  refine va_get (D := (dC, dI)) (ci := 9) (v := .int (nI g_15)) (C := RX9) (T := TX9) (N := 67) hx hb hts hiX9 hown hK hP 0 rfl rfl 61 (by decide) v_8 (fun _ h9 => h9) rfl dX9_tells_142 ?_
                  refine lv_iconst (v := 1) hx hb dX9_tells_145 (by decide) ?_
                  refine lv_iadd hx hb dX9_tells_146 ?_
                  refine lv_topi (fun y_47 ey_47 => ?_)
                  obtain rfl : y_47 = (nI (g_15 + 1)) := ey_47.trans (nI_add g_15 1)
                  refine va_put (D := (dC, dI)) (ci := 9) (v := .int (nI (g_15 + 1))) (ty := .int) (C := RX9) (T := TX9) (N := 67) hx hb hts hiX9 tyX9 tyX9_ok nmX9 hown hK hP hD hS 0 rfl rfl 61 (by decide) v_8 (fun _ h9 => h9) rfl (by decide +kernel) rfl rfl (Nat.le_of_ble_eq_true rfl) dX9_tells_147 (fun H locs hP hD hS => ?_)
                  have hP : va_P (dC, dI) vwCl (mo_w ad ck 0 (nI x16) (nI x18) (nI x19) x20 (nI x21) (nI x22) x23 x24 x25 (nI x26) x27 (nI x28) (nI x29) (nI x30) (nI x33) x45 (nI x46) (nI x52) (nI x53) (nI (g_15 + 1)) (nI x62) (nI x63) (nI x65) x66 f1 f2 f3 (bN 3 q4) (bN 7 q5) (bN 7 q6) (bN 4 q7) f8 (bN 2 q9) (bH q10) f11 (b2 m12_0 m12_1) (b2 m13_0 m13_1) (b2 m14_0 m14_1) (b2m m15_0 m15_1) f17 (bA 159 q31) f32 f34 f35 f36 f37 (bN 7 q38) f39 f40 f41 (b2 m42_0 m42_1) f43 f44 f47 f48 f49 f50 f51 (bN 13 q_46) (bN 120 q55) (bN 120 q56) f57 (bN 120 q58) f59 f60 f64) H := hP
                  have hD : va_D A (mo_w ad ck 0 (nI x16) (nI x18) (nI x19) x20 (nI x21) (nI x22) x23 x24 x25 (nI x26) x27 (nI x28) (nI x29) (nI x30) (nI x33) x45 (nI x46) (nI x52) (nI x53) (nI (g_15 + 1)) (nI x62) (nI x63) (nI x65) x66 f1 f2 f3 (bN 3 q4) (bN 7 q5) (bN 7 q6) (bN 4 q7) f8 (bN 2 q9) (bH q10) f11 (b2 m12_0 m12_1) (b2 m13_0 m13_1) (b2 m14_0 m14_1) (b2m m15_0 m15_1) f17 (bA 159 q31) f32 f34 f35 f36 f37 (bN 7 q38) f39 f40 f41 (b2 m42_0 m42_1) f43 f44 f47 f48 f49 f50 f51 (bN 13 q_46) (bN 120 q55) (bN 120 q56) f57 (bN 120 q58) f59 f60 f64) := hD
                  refine lv_aload_n hx hb dX9_tells_150 rfl (lv_at hl 1 rfl) ?_
                  refine lv_iload hx hb dX9_tells_151 (lv_at hl 0 rfl) ?_
                  refine va_calli (va_runV (As := [.int (nI n_42)]) (rest := []) ⟨hx, hb, hml, hown, hts⟩ (c_EM_into l dC dI _ ad ck 0 x16 x18 x19 x20 x21 x22 x23 x24 x25 x26 x27 x28 x29 x30 x33 x45 x46 x52 x53 (g_15 + 1) x62 x63 x65 x66 f1 f2 f3 q4 q5 q6 q7 f8 q9 q10 f11 m12_0 m12_1 m13_0 m13_1 m14_0 m14_1 m15_0 m15_1 f17 q31 f32 f34 f35 f36 f37 q38 f39 f40 f41 m42_0 m42_1 f43 f44 f47 f48 f49 f50 f51 q_46 q55 q56 f57 q58 f59 f60 f64 n_42 hx16 hx18 hx19 hx21 hx22 hx26 hx28 hx29 hx30 hx33 hx46 hx52 hx53 (by omega) hx62 hx63 hx65 hm12_0 hm12_1 hm13_0 hm13_1 hm14_0 hm14_1 hm15_0 hm15_1 hm42_0 hm42_1 (by omega)) (cwV 1 hts g_EM_tells_EM_into rfl rfl rfl (by decide +kernel) ⟨Nat.le_of_ble_eq_true rfl, Nat.le_of_ble_eq_true rfl⟩) ⟨pu_bl, va_recv hK hP (ci := 9) (q0 := 0) rfl rfl, pu_in hP hK hD⟩ rfl rfl hl.1 rfl (lv_room (Nat.le_of_ble_eq_true rfl)) dX9_tells_153 ⟨Nat.le_of_ble_eq_true rfl, Nat.le_of_ble_eq_true rfl⟩) hS (fun q _ h => pu_fr hS hA q h) (pu_fr hS hA) (fun r_48 u t H1 locs ht hvm hw hB hz1 hk1 hS => ?_)
                  have hP := pu_keep hP hk1
                  clear hk1 hz1 ht hvm
                  generalize H1 = H at hP hS ⊢
                  obtain ⟨u_49, hu_49, rfl, iu_49⟩ := hw
                  replace hsp := hsp.trans (slet_eq iu_49)
                  refine lv_istore (lv' := [(7, .int (nI u_49)), (9, .int (nI n_42)), (0, .ref (ad 0)), (1, .int g_16), (2, .int p1), (3, .int p2), (4, .int p3), (5, .int p4), (6, .int (nI n_5)), (8, .int (nI g_18))]) hx hb dX9_tells_156 hl (by decide) rfl (fun ls hl => ?_)
                  refine lv_iinc (v := (nI (g_18 + 1))) (lv' := [(8, .int (nI (g_18 + 1))), (7, .int (nI u_49)), (9, .int (nI n_42)), (0, .ref (ad 0)), (1, .int g_16), (2, .int p1), (3, .int p2), (4, .int p3), (5, .int p4), (6, .int (nI n_5))]) hx hb dX9_tells_158 hl (k := 9) rfl (nI_1 _) (by decide) rfl (fun ls hl => ?_)
                  refine lv_goto (tgt := 48) hx hb dX9_tells_161 (by decide) ?_
                  exact ih_20 (5 - (g_18 + 1)) (by omega) _ _ _ ⟨q_46, (g_15 + 1), g_16, u_49, (g_18 + 1), rfl, (by omega), hu_49, (by omega), by omega, hin_24 _ hsp, hP, hD, hS, lv_sub hl [3, 4, 5, 6, 7, 8, 9, 1, 0] rfl⟩
                · have c_45 : ¬ u_44 = g_17 := fun z => c_45 ((nI_eq (a := u_44) (b := g_17) (Nat.lt_of_le_of_lt hu_44 (Nat.le_of_ble_eq_true rfl)) (Nat.lt_of_le_of_lt hg_17 (Nat.le_of_ble_eq_true rfl))).mpr z)
                  replace hsp := hsp.trans (if_neg c_45)
                  have hsp := hout_25 _ hsp
                  refine lv_iconst (v := (-1)) hx hb dX9_tells_127 (by decide) ?_
                  exact W.iret (v := (-1)) hx hb hr (fun t ht hW => ⟨⟨(-1), (), rfl, (congrArg Prod.fst (hsp.symm.trans hRR)), ⟨g_14, q55, q56, f57, q58, f60, 0, g_15, x62, x63, ⟨by rw [ht]; exact hP, va_K.moved hW.alike hK, hD⟩, (Nat.le_trans hg_15 (Nat.le_of_ble_eq_true rfl)), hx62, hx63, (congrArg Prod.snd (hsp.symm.trans hRR))⟩⟩, hS.F ht⟩) hS.2.2 dX9_tells_128
              · replace hsp := hsp.trans (if_neg hn)
                refine lv_if_eq (tgt := 127) hx hb dX9_tells_113 (by decide) (fun _ => ?_) (fun z => absurd z (by decide))
                have hsp := hout_25 _ hsp
                refine lv_iconst (v := (-1)) hx hb dX9_tells_127 (by decide) ?_
                exact W.iret (v := (-1)) hx hb hr (fun t ht hW => ⟨⟨(-1), (), rfl, (congrArg Prod.fst (hsp.symm.trans hRR)), ⟨g_14, q55, q56, f57, q58, f60, 0, g_15, x62, x63, ⟨by rw [ht]; exact hP, va_K.moved hW.alike hK, hD⟩, (Nat.le_trans hg_15 (Nat.le_of_ble_eq_true rfl)), hx62, hx63, (congrArg Prod.snd (hsp.symm.trans hRR))⟩⟩, hS.F ht⟩) hS.2.2 dX9_tells_128
            · have hcc_40 := c_40
              replace hsp := hsp.trans (if_pos c_40)
              have hsp := hout_25 _ hsp
              refine lv_goto (tgt := 164) hx hb dX9_tells_104 (by decide) ?_
              refine lv_aload_n hx hb dX9_tells_164 rfl (lv_at hl 1 rfl) ?_
              refine lv_iload hx hb dX9_tells_165 (lv_at hl 7 rfl) ?_
              have hFc := pu_free hD hS hA
              refine va_calli (va_runV (As := [.int (nI n_5)]) (rest := []) ⟨hx, hb, hml, hown, hts⟩ (c_EM_spanned l dC dI _ ad ck 0 x16 x18 x19 x20 x21 x22 x23 x24 x25 x26 x27 x28 x29 x30 x33 x45 x46 x52 x53 g_15 x62 x63 x65 x66 f1 f2 f3 q4 q5 q6 q7 f8 q9 q10 f11 m12_0 m12_1 m13_0 m13_1 m14_0 m14_1 m15_0 m15_1 f17 q31 f32 f34 f35 f36 f37 q38 f39 f40 f41 m42_0 m42_1 f43 f44 f47 f48 f49 f50 f51 g_14 q55 q56 f57 q58 f59 f60 f64 (nI n_5) hx16 hx18 hx19 hx21 hx22 hx26 hx28 hx29 hx30 hx33 hx46 hx52 hx53 (Nat.le_trans hg_15 (Nat.le_of_ble_eq_true rfl)) hx62 hx63 hx65 hm12_0 hm12_1 hm13_0 hm13_1 hm14_0 hm14_1 hm15_0 hm15_1 hm42_0 hm42_1 (by first | assumption | omega)) (cwV 1 hts g_EM_tells_EM_spanned rfl rfl rfl (by decide +kernel) ⟨Nat.le_of_ble_eq_true rfl, Nat.le_of_ble_eq_true rfl⟩) ⟨pu_bl, va_recv hK hP (ci := 9) (q0 := 0) rfl rfl, pu_in hP hK hD⟩ rfl rfl hl.1 rfl (lv_room (Nat.le_of_ble_eq_true rfl)) dX9_tells_167 ⟨Nat.le_of_ble_eq_true rfl, Nat.le_of_ble_eq_true rfl⟩) hS (fun q _ h => hFc q h) hFc (fun r_50 u t H1 locs ht hvm hw hB hz1 hk1 hS => ?_)
              obtain ⟨z55_51, z56_52, z57_53, z58_54, z60_55, z62_56, z63_57, ⟨hP1, -, hD1⟩, hz62_56, hz63_57, xr_50_0⟩ := hB
              rw [ht] at hP1
              have hP := hP1
              have hD := pu_all hFc hD1
              clear hP1 hD1 hFc
              clear hk1 hz1 ht hvm
              generalize H1 = H at hP hS ⊢
              have ir_50 := hw
              have ir_50 : (r_50, z55_51, z56_52, z57_53, z58_54, z60_55, z62_56, z63_57) = (sp_EM_spanned x16 g_15 f3 q4 q5 q6 q7 f8 q9 q10 f11 m12_0 m12_1 m13_0 m13_1 m14_0 m14_1 m15_0 m15_1 g_14 q55 q56 f57 q58 f60 (nI n_5)) := Prod.ext ir_50 xr_50_0
              replace hsp := hsp.trans (slet_eq ir_50)
              exact W.iret (v := r_50) hx hb hr (fun t ht hW => ⟨⟨r_50, (), rfl, (congrArg Prod.fst (hsp.symm.trans hRR)), ⟨g_14, z55_51, z56_52, z57_53, z58_54, z60_55, 0, g_15, z62_56, z63_57, ⟨by rw [ht]; exact hP, va_K.moved hW.alike hK, hD⟩, (Nat.le_trans hg_15 (Nat.le_of_ble_eq_true rfl)), hz62_56, hz63_57, (congrArg Prod.snd (hsp.symm.trans hRR))⟩⟩, hS.F ht⟩) hS.2.2 dX9_tells_170
          have hsp := hJR_38
          refine lv_if_ne (tgt := 63) hx hb dX9_tells_56 (by decide) (fun c_58 => ?_) (fun c_58 => ?_)
          · have c_58 : ¬ g_18 = 0 := fun z => c_58 ((nI_eq (a := g_18) (b := 0) (Nat.lt_of_le_of_lt hg_18 (Nat.le_of_ble_eq_true rfl)) (Nat.le_of_ble_eq_true rfl)).mpr z)
            replace hsp := hsp.trans (if_neg c_58)
            refine lv_iload hx hb dX9_tells_63 (lv_at hl 8 rfl) ?_
            refine lv_iconst (v := 1) hx hb dX9_tells_65 (by decide) ?_
            refine lv_icmp_ne (tgt := 73) hx hb dX9_tells_66 (by decide) (fun c_59 => ?_) (fun c_59 => ?_)
            · have c_59 : ¬ g_18 = 1 := fun z => c_59 ((nI_eq (a := g_18) (b := 1) (Nat.lt_of_le_of_lt hg_18 (Nat.le_of_ble_eq_true rfl)) (Nat.le_of_ble_eq_true rfl)).mpr z)
              replace hsp := hsp.trans (if_neg c_59)
              refine lv_iload hx hb dX9_tells_73 (lv_at hl 8 rfl) ?_
              refine lv_iconst (v := 2) hx hb dX9_tells_75 (by decide) ?_
              refine lv_icmp_ne (tgt := 83) hx hb dX9_tells_76 (by decide) (fun c_60 => ?_) (fun c_60 => ?_)
              · have c_60 : ¬ g_18 = 2 := fun z => c_60 ((nI_eq (a := g_18) (b := 2) (Nat.lt_of_le_of_lt hg_18 (Nat.le_of_ble_eq_true rfl)) (Nat.le_of_ble_eq_true rfl)).mpr z)
                replace hsp := hsp.trans (if_neg c_60)
                refine lv_iload hx hb dX9_tells_83 (lv_at hl 8 rfl) ?_
                refine lv_iconst (v := 3) hx hb dX9_tells_85 (by decide) ?_
                refine lv_icmp_ne (tgt := 94) hx hb dX9_tells_86 (by decide) (fun c_61 => ?_) (fun c_61 => ?_)
                · have c_61 : ¬ g_18 = 3 := fun z => c_61 ((nI_eq (a := g_18) (b := 3) (Nat.lt_of_le_of_lt hg_18 (Nat.le_of_ble_eq_true rfl)) (Nat.le_of_ble_eq_true rfl)).mpr z)
                  replace hsp := hsp.trans (if_neg c_61)
                  refine lv_iload hx hb dX9_tells_94 (lv_at hl 5 rfl) ?_
                  exact j_37 _ _ _ _ ⟨p4, rfl, by omega, hsp.symm, hP, hD, hS, lv_sub hl [0, 1, 2, 3, 4, 5, 6, 7, 8] rfl⟩
                · have c_61 : g_18 = 3 := (nI_eq (a := g_18) (b := 3) (Nat.lt_of_le_of_lt hg_18 (Nat.le_of_ble_eq_true rfl)) (Nat.le_of_ble_eq_true rfl)).mp c_61
                  replace hsp := hsp.trans (if_pos c_61)
                  refine lv_iload hx hb dX9_tells_89 (lv_at hl 4 rfl) ?_
                  refine lv_goto (tgt := 96) hx hb dX9_tells_91 (by decide) ?_
                  exact j_37 _ _ _ _ ⟨p3, rfl, by omega, hsp.symm, hP, hD, hS, lv_sub hl [0, 1, 2, 3, 4, 5, 6, 7, 8] rfl⟩
              · have c_60 : g_18 = 2 := (nI_eq (a := g_18) (b := 2) (Nat.lt_of_le_of_lt hg_18 (Nat.le_of_ble_eq_true rfl)) (Nat.le_of_ble_eq_true rfl)).mp c_60
                replace hsp := hsp.trans (if_pos c_60)
                refine lv_iload_n hx hb dX9_tells_79 rfl (lv_at hl 3 rfl) ?_
                refine lv_goto (tgt := 96) hx hb dX9_tells_80 (by decide) ?_
                exact j_37 _ _ _ _ ⟨p2, rfl, by omega, hsp.symm, hP, hD, hS, lv_sub hl [0, 1, 2, 3, 4, 5, 6, 7, 8] rfl⟩
            · have c_59 : g_18 = 1 := (nI_eq (a := g_18) (b := 1) (Nat.lt_of_le_of_lt hg_18 (Nat.le_of_ble_eq_true rfl)) (Nat.le_of_ble_eq_true rfl)).mp c_59
              replace hsp := hsp.trans (if_pos c_59)
              refine lv_iload_n hx hb dX9_tells_69 rfl (lv_at hl 2 rfl) ?_
              refine lv_goto (tgt := 96) hx hb dX9_tells_70 (by decide) ?_
              exact j_37 _ _ _ _ ⟨p1, rfl, by omega, hsp.symm, hP, hD, hS, lv_sub hl [0, 1, 2, 3, 4, 5, 6, 7, 8] rfl⟩
          · have c_58 : g_18 = 0 := (nI_eq (a := g_18) (b := 0) (Nat.lt_of_le_of_lt hg_18 (Nat.le_of_ble_eq_true rfl)) (Nat.le_of_ble_eq_true rfl)).mp c_58
            replace hsp := hsp.trans (if_pos c_58)
            refine lv_iload_n hx hb dX9_tells_59 rfl (lv_at hl 1 rfl) ?_
            refine lv_goto (tgt := 96) hx hb dX9_tells_60 (by decide) ?_
            exact j_37 _ _ _ _ ⟨g_16, rfl, by omega, hsp.symm, hP, hD, hS, lv_sub hl [0, 1, 2, 3, 4, 5, 6, 7, 8] rfl⟩
    · replace hsp := hsp.trans (if_neg hi3)
      refine lv_if_ne (tgt := 29) hx hb dX9_tells_24 (by decide) (fun z => absurd z (by decide)) (fun _ => ?_)
      refine lv_iconst (v := (-1)) hx hb dX9_tells_27 (by decide) ?_
      exact W.iret (v := (-1)) hx hb hr (fun t ht hW => ⟨⟨(-1), (), rfl, (congrArg Prod.fst (hsp.symm.trans hRR)), ⟨q54, q55, q56, f57, q58, f60, 0, x61, x62, x63, ⟨by rw [ht]; exact hP, va_K.moved hW.alike hK, hD⟩, hx61, hx62, hx63, (congrArg Prod.snd (hsp.symm.trans hRR))⟩⟩, hS.F ht⟩) hS.2.2 dX9_tells_28
