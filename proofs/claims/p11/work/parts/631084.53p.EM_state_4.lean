theorem dX9_state_0 : decode cX9_state 0 = .ok (.aload_n 0, 1) := by decide +kernel
theorem dX9_state_1 : decode cX9_state 1 = .ok (.iconst 0, 1) := by decide +kernel
theorem dX9_state_2 : decode cX9_state 2 = .ok (.putfield 142, 3) := by decide +kernel
theorem dX9_state_5 : decode cX9_state 5 = .ok (.aload_n 0, 1) := by decide +kernel
theorem dX9_state_6 : decode cX9_state 6 = .ok (.iload_n 1, 1) := by decide +kernel
theorem dX9_state_7 : decode cX9_state 7 = .ok (.invokevirtual 387, 3) := by decide +kernel
theorem dX9_state_10 : decode cX9_state 10 = .ok (.ifCond .eq 12, 3) := by decide +kernel
theorem dX9_state_13 : decode cX9_state 13 = .ok (.iload_n 2, 1) := by decide +kernel
theorem dX9_state_14 : decode cX9_state 14 = .ok (.iconst 0, 1) := by decide +kernel
theorem dX9_state_15 : decode cX9_state 15 = .ok (.iconst 5, 1) := by decide +kernel
theorem dX9_state_16 : decode cX9_state 16 = .ok (.invokestatic 152, 3) := by decide +kernel
theorem dX9_state_19 : decode cX9_state 19 = .ok (.ifCond .ne 5, 3) := by decide +kernel
theorem dX9_state_22 : decode cX9_state 22 = .ok (.iconst (-1), 1) := by decide +kernel
theorem dX9_state_23 : decode cX9_state 23 = .ok (.ireturn, 1) := by decide +kernel
theorem dX9_state_24 : decode cX9_state 24 = .ok (.iconst 0, 1) := by decide +kernel
theorem dX9_state_25 : decode cX9_state 25 = .ok (.istore_n 3, 1) := by decide +kernel
theorem dX9_state_26 : decode cX9_state 26 = .ok (.iconst 1, 1) := by decide +kernel
theorem dX9_state_27 : decode cX9_state 27 = .ok (.istore 4, 2) := by decide +kernel
theorem dX9_state_29 : decode cX9_state 29 = .ok (.iload 4, 2) := by decide +kernel
theorem dX9_state_31 : decode cX9_state 31 = .ok (.aload_n 0, 1) := by decide +kernel
theorem dX9_state_32 : decode cX9_state 32 = .ok (.getfield 92, 3) := by decide +kernel
theorem dX9_state_35 : decode cX9_state 35 = .ok (.iconst 0, 1) := by decide +kernel
theorem dX9_state_36 : decode cX9_state 36 = .ok (.iaload, 1) := by decide +kernel
theorem dX9_state_37 : decode cX9_state 37 = .ok (.if_icmp .ge 28, 3) := by decide +kernel
theorem dX9_state_40 : decode cX9_state 40 = .ok (.iload_n 3, 1) := by decide +kernel
theorem dX9_state_41 : decode cX9_state 41 = .ok (.aload_n 0, 1) := by decide +kernel
theorem dX9_state_42 : decode cX9_state 42 = .ok (.getfield 83, 3) := by decide +kernel
theorem dX9_state_45 : decode cX9_state 45 = .ok (.iload 4, 2) := by decide +kernel
theorem dX9_state_47 : decode cX9_state 47 = .ok (.iaload, 1) := by decide +kernel
theorem dX9_state_48 : decode cX9_state 48 = .ok (.iload_n 1, 1) := by decide +kernel
theorem dX9_state_49 : decode cX9_state 49 = .ok (.if_icmp .ne 7, 3) := by decide +kernel
theorem dX9_state_52 : decode cX9_state 52 = .ok (.iconst 1, 1) := by decide +kernel
theorem dX9_state_53 : decode cX9_state 53 = .ok (.goto 4, 3) := by decide +kernel
theorem dX9_state_56 : decode cX9_state 56 = .ok (.iconst 0, 1) := by decide +kernel
theorem dX9_state_57 : decode cX9_state 57 = .ok (.iadd, 1) := by decide +kernel
theorem dX9_state_58 : decode cX9_state 58 = .ok (.istore_n 3, 1) := by decide +kernel
theorem dX9_state_59 : decode cX9_state 59 = .ok (.iinc 4 1, 3) := by decide +kernel
theorem dX9_state_62 : decode cX9_state 62 = .ok (.goto (-33), 3) := by decide +kernel
theorem dX9_state_65 : decode cX9_state 65 = .ok (.iload_n 2, 1) := by decide +kernel
theorem dX9_state_66 : decode cX9_state 66 = .ok (.tableswitch 64 0 4 #[34, 41, 48, 55, 62], 34) := by decide +kernel
theorem dX9_state_100 : decode cX9_state 100 = .ok (.aload_n 0, 1) := by decide +kernel
theorem dX9_state_101 : decode cX9_state 101 = .ok (.getfield 80, 3) := by decide +kernel
theorem dX9_state_104 : decode cX9_state 104 = .ok (.iload_n 1, 1) := by decide +kernel
theorem dX9_state_105 : decode cX9_state 105 = .ok (.iaload, 1) := by decide +kernel
theorem dX9_state_106 : decode cX9_state 106 = .ok (.ireturn, 1) := by decide +kernel
theorem dX9_state_107 : decode cX9_state 107 = .ok (.aload_n 0, 1) := by decide +kernel
theorem dX9_state_108 : decode cX9_state 108 = .ok (.getfield 83, 3) := by decide +kernel
theorem dX9_state_111 : decode cX9_state 111 = .ok (.iload_n 1, 1) := by decide +kernel
theorem dX9_state_112 : decode cX9_state 112 = .ok (.iaload, 1) := by decide +kernel
theorem dX9_state_113 : decode cX9_state 113 = .ok (.ireturn, 1) := by decide +kernel
theorem dX9_state_114 : decode cX9_state 114 = .ok (.aload_n 0, 1) := by decide +kernel
theorem dX9_state_115 : decode cX9_state 115 = .ok (.getfield 86, 3) := by decide +kernel
theorem dX9_state_118 : decode cX9_state 118 = .ok (.iload_n 1, 1) := by decide +kernel
theorem dX9_state_119 : decode cX9_state 119 = .ok (.iaload, 1) := by decide +kernel
theorem dX9_state_120 : decode cX9_state 120 = .ok (.ireturn, 1) := by decide +kernel
theorem dX9_state_121 : decode cX9_state 121 = .ok (.aload_n 0, 1) := by decide +kernel
theorem dX9_state_122 : decode cX9_state 122 = .ok (.getfield 89, 3) := by decide +kernel
theorem dX9_state_125 : decode cX9_state 125 = .ok (.iload_n 1, 1) := by decide +kernel
theorem dX9_state_126 : decode cX9_state 126 = .ok (.iaload, 1) := by decide +kernel
theorem dX9_state_127 : decode cX9_state 127 = .ok (.ireturn, 1) := by decide +kernel
theorem dX9_state_128 : decode cX9_state 128 = .ok (.iload_n 3, 1) := by decide +kernel
theorem dX9_state_129 : decode cX9_state 129 = .ok (.ireturn, 1) := by decide +kernel
theorem dX9_state_130 : decode cX9_state 130 = .ok (.aload_n 0, 1) := by decide +kernel
theorem dX9_state_131 : decode cX9_state 131 = .ok (.iload_n 1, 1) := by decide +kernel
theorem dX9_state_132 : decode cX9_state 132 = .ok (.invokevirtual 390, 3) := by decide +kernel
theorem dX9_state_135 : decode cX9_state 135 = .ok (.ifCond .eq 7, 3) := by decide +kernel
theorem dX9_state_138 : decode cX9_state 138 = .ok (.iconst 1, 1) := by decide +kernel
theorem dX9_state_139 : decode cX9_state 139 = .ok (.goto 4, 3) := by decide +kernel
theorem dX9_state_142 : decode cX9_state 142 = .ok (.iconst 0, 1) := by decide +kernel
theorem dX9_state_143 : decode cX9_state 143 = .ok (.ireturn, 1) := by decide +kernel
abbrev vs_EM_state : List Cond := .code yX9_state cX9_state 5 (some .int) :: VM
theorem g_EM_state_X9_in : GoodIn vs_EM_state (va_wsS RX9 152 yX9_in vs_X9_in) := gm_0 (fun w h => by
  rcases List.mem_cons.mp h with rfl | h
  · exact vm_137
  rcases List.mem_cons.mp h with rfl | h
  · exact vm_138
  rcases List.mem_cons.mp h with rfl | h
  · exact vm_19
  rcases List.mem_cons.mp h with rfl | h
  · exact vm_139
  exact absurd h (List.not_mem_nil))
theorem g_EM_state_EM_isState : GoodIn vs_EM_state (wsV RX9 387 RX9 yX9_isState vs_EM_isState) := gm_V vm_263 vm_264 vm_265 vm_19 vm_266
theorem g_EM_state_EM_isStuck : GoodIn vs_EM_state (wsV RX9 390 RX9 yX9_isStuck vs_EM_isStuck) := gm_V vm_299 vm_300 vm_301 vm_19 vm_302
noncomputable def sp_EM_state_L1 (x16 : Nat) (x52 : Nat) (x53 : Nat) (f3 : Nat → Int32) (q4 : Nat → Nat) (q5 : Nat → Nat) (q6 : Nat → Nat) (q7 : Nat → Nat) (f8 : Nat → Int32) (q9 : Nat → Nat) (q10 : Nat → Nat) (f11 : Nat → Int32) (m13_0 : Nat) (m13_1 : Nat) (m14_0 : Nat) (m14_1 : Nat) (f34 : Nat → Int32) (f35 : Nat → Int32) (f36 : Nat → Int32) (q38 : Nat → Nat) (f39 : Nat → Int32) (f40 : Nat → Int32) (f41 : Nat → Int32) (m42_0 : Nat) (f49 : Nat → Int32) (f50 : Nat → Int32) (f51 : Nat → Int32) (z46_2 : Nat) (n_3 : Nat) (n_5 : Nat) : (Int32 × Nat) → (Int32 × Nat) ⊕ (Int32 × (Nat → Int32) × (Nat → Int32) × (Nat → Int32) × (Nat → Int32) × (Nat → Int32) × Int32 × Nat × Nat × Nat) := fun (g_8, g_9) => (if m42_0 ≤ g_9 then (Sum.inr (if n_5 = 0 then (slet (min (q38 n_3) 7) (fun u_20 => ((nI u_20), f35, f36, f49, f50, f51, 0, z46_2, x52, x53))) else (if n_5 = 1 then (slet (f39 n_3) (fun y_22 => (y_22, f35, f36, f49, f50, f51, 0, z46_2, x52, x53))) else (if n_5 = 2 then (slet (f40 n_3) (fun y_24 => (y_24, f35, f36, f49, f50, f51, 0, z46_2, x52, x53))) else (if n_5 = 3 then (slet (f41 n_3) (fun y_26 => (y_26, f35, f36, f49, f50, f51, 0, z46_2, x52, x53))) else (if n_5 = 4 then (g_8, f35, f36, f49, f50, f51, 0, z46_2, x52, x53) else (slet (sp_EM_isStuck x16 z46_2 f3 q4 q5 q6 q7 f8 q9 q10 f11 m13_0 m13_1 m14_0 m14_1 f34 f35 f36 q38 f49 f50 f51 n_3) (fun (u_36, z35_29, z36_30, z49_31, z50_32, z51_33, z52_34, z53_35) => (if u_36 = 0 then (0, z35_29, z36_30, z49_31, z50_32, z51_33, 0, z46_2, z52_34, z53_35) else (1, z35_29, z36_30, z49_31, z50_32, z51_33, 0, z46_2, z52_34, z53_35)))))))))) else (slet (f39 g_9) (fun y_38 => (slet (α := Nat) (if (y_38 : Int32) = (nI n_3) then 1 else 0) (fun g_39 => (slet ((g_8 : Int32) + (nI g_39)) (fun y_43 => (Sum.inl (y_43, (g_9 + 1))))))))))
noncomputable def sp_EM_state (x16 : Nat) (x29 : Nat) (x52 : Nat) (x53 : Nat) (f3 : Nat → Int32) (q4 : Nat → Nat) (q5 : Nat → Nat) (q6 : Nat → Nat) (q7 : Nat → Nat) (f8 : Nat → Int32) (q9 : Nat → Nat) (q10 : Nat → Nat) (f11 : Nat → Int32) (m12_0 : Nat) (m12_1 : Nat) (m13_0 : Nat) (m13_1 : Nat) (m14_0 : Nat) (m14_1 : Nat) (f34 : Nat → Int32) (f35 : Nat → Int32) (f36 : Nat → Int32) (q38 : Nat → Nat) (f39 : Nat → Int32) (f40 : Nat → Int32) (f41 : Nat → Int32) (m42_0 : Nat) (f49 : Nat → Int32) (f50 : Nat → Int32) (f51 : Nat → Int32) (p0 : Int32) (p1 : Int32) : Int32 × (Nat → Int32) × (Nat → Int32) × (Nat → Int32) × (Nat → Int32) × (Nat → Int32) × Int32 × Nat × Nat × Nat := (slet (sp_EM_isState x16 x29 m12_0 m12_1 m42_0 p0) (fun z46_2 => (if x29 = 1 ∧ (0 : Int32) ≤ p0 ∧ p0 < nI m42_0 then (slet ((p0 : Int32).toNatClampNeg) (fun n_3 => (if (0 : Int32) ≤ p1 ∧ p1 ≤ 5 then (slet ((p1 : Int32).toNatClampNeg) (fun n_5 => (itrv (α := Int32 × Nat) (β := (Int32 × (Nat → Int32) × (Nat → Int32) × (Nat → Int32) × (Nat → Int32) × (Nat → Int32) × Int32 × Nat × Nat × Nat)) default (sp_EM_state_L1 x16 x52 x53 f3 q4 q5 q6 q7 f8 q9 q10 f11 m13_0 m13_1 m14_0 m14_1 f34 f35 f36 q38 f39 f40 f41 m42_0 f49 f50 f51 z46_2 n_3 n_5) (0, 1)))) else ((-1), f35, f36, f49, f50, f51, 0, z46_2, x52, x53)))) else ((-1), f35, f36, f49, f50, f51, 0, z46_2, x52, x53))))
set_option maxHeartbeats 4000000 in
set_option maxRecDepth 100000 in
theorem c_EM_state (l : Launch) (dC : Nat → ClassId) (dI : Nat → Nat → Nat) (sz : Nat) (ad : Nat → Nat) (ck : Nat → ClassId) (x0 : Int32) (x16 : Nat) (x18 : Nat) (x19 : Nat) (x20 : Int32) (x21 : Nat) (x22 : Nat) (x23 : Int32) (x24 : Int32) (x25 : Int32) (x26 : Nat) (x27 : Int32) (x28 : Nat) (x29 : Nat) (x30 : Nat) (x33 : Nat) (x45 : Int32) (x46 : Nat) (x52 : Nat) (x53 : Nat) (x61 : Nat) (x62 : Nat) (x63 : Nat) (x65 : Nat) (x66 : Int32) (f1 : Nat → Int32) (f2 : Nat → Int32) (f3 : Nat → Int32) (q4 : Nat → Nat) (q5 : Nat → Nat) (q6 : Nat → Nat) (q7 : Nat → Nat) (f8 : Nat → Int32) (q9 : Nat → Nat) (q10 : Nat → Nat) (f11 : Nat → Int32) (m12_0 m12_1 : Nat) (m13_0 m13_1 : Nat) (m14_0 m14_1 : Nat) (m15_0 m15_1 : Nat) (f17 : Nat → Int32) (q31 : Nat → Nat) (f32 : Nat → Int32) (f34 : Nat → Int32) (f35 : Nat → Int32) (f36 : Nat → Int32) (f37 : Nat → Int32) (q38 : Nat → Nat) (f39 : Nat → Int32) (f40 : Nat → Int32) (f41 : Nat → Int32) (m42_0 m42_1 : Nat) (f43 : Nat → Int32) (f44 : Nat → Int32) (f47 : Nat → Int32) (f48 : Nat → Int32) (f49 : Nat → Int32) (f50 : Nat → Int32) (f51 : Nat → Int32) (q54 : Nat → Nat) (q55 : Nat → Nat) (q56 : Nat → Nat) (f57 : Nat → Int32) (q58 : Nat → Nat) (f59 : Nat → Int32) (f60 : Nat → Int32) (f64 : Nat → Int32) (p0 : Int32) (p1 : Int32) (hx16 : x16 ≤ 1) (hx18 : x18 ≤ 900) (hx19 : x19 ≤ 900) (hx21 : x21 ≤ 900) (hx22 : x22 ≤ 4) (hx26 : x26 ≤ 6) (hx28 : x28 ≤ 1) (hx29 : x29 ≤ 1) (hx30 : x30 ≤ 1) (hx33 : x33 ≤ 20) (hx46 : x46 ≤ 5) (hx52 : x52 ≤ 2400) (hx53 : x53 ≤ 119) (hx61 : x61 ≤ 119) (hx62 : x62 ≤ 2000) (hx63 : x63 ≤ 1) (hx65 : x65 ≤ 7) (hm12_0 : m12_0 ≤ 3) (hm12_1 : m12_1 ≤ 3) (hm13_0 : m13_0 ≤ 8) (hm13_1 : m13_1 ≤ 8) (hm14_0 : m14_0 ≤ 14) (hm14_1 : m14_1 ≤ 14) (hm15_0 : m15_0 ≤ 8) (hm15_1 : m15_1 ≤ 8) (hm42_0 : m42_0 ≤ 120) (hm42_1 : m42_1 ≤ 400) : Met l yX9_state vs_EM_state ({ frames := 6, cells := 0, slots := 0, locals := 135 }) (va_Pc [.ref (ad 0), .int p0, .int p1] (pu_B (dC, dI) (mo_w ad ck x0 (nI x16) (nI x18) (nI x19) x20 (nI x21) (nI x22) x23 x24 x25 (nI x26) x27 (nI x28) (nI x29) (nI x30) (nI x33) x45 (nI x46) (nI x52) (nI x53) (nI x61) (nI x62) (nI x63) (nI x65) x66 f1 f2 f3 (bN 3 q4) (bN 7 q5) (bN 7 q6) (bN 4 q7) f8 (bN 2 q9) (bH q10) f11 (b2 m12_0 m12_1) (b2 m13_0 m13_1) (b2 m14_0 m14_1) (b2m m15_0 m15_1) f17 (bA 159 q31) f32 f34 f35 f36 f37 (bN 7 q38) f39 f40 f41 (b2 m42_0 m42_1) f43 f44 f47 f48 f49 f50 f51 (bN 13 q54) (bN 120 q55) (bN 120 q56) f57 (bN 120 q58) f59 f60 f64) (mo_t ck) sz)) (va_Qi (fun (r : Int32) (_ : Unit) => r = (sp_EM_state x16 x29 x52 x53 f3 q4 q5 q6 q7 f8 q9 q10 f11 m12_0 m12_1 m13_0 m13_1 m14_0 m14_1 f34 f35 f36 q38 f39 f40 f41 m42_0 f49 f50 f51 p0 p1).1) (fun _ t => ∃ (z35 : Nat → Int32) (z36 : Nat → Int32) (z49 : Nat → Int32) (z50 : Nat → Int32) (z51 : Nat → Int32) (z0 : Int32) (z46 : Nat) (z52 : Nat) (z53 : Nat), pu_E (dC, dI) (mo_w ad ck z0 (nI x16) (nI x18) (nI x19) x20 (nI x21) (nI x22) x23 x24 x25 (nI x26) x27 (nI x28) (nI x29) (nI x30) (nI x33) x45 (nI z46) (nI z52) (nI z53) (nI x61) (nI x62) (nI x63) (nI x65) x66 f1 f2 f3 (bN 3 q4) (bN 7 q5) (bN 7 q6) (bN 4 q7) f8 (bN 2 q9) (bH q10) f11 (b2 m12_0 m12_1) (b2 m13_0 m13_1) (b2 m14_0 m14_1) (b2m m15_0 m15_1) f17 (bA 159 q31) f32 f34 z35 z36 f37 (bN 7 q38) f39 f40 f41 (b2 m42_0 m42_1) f43 f44 f47 f48 z49 z50 z51 (bN 13 q54) (bN 120 q55) (bN 120 q56) f57 (bN 120 q58) f59 f60 f64) (mo_t ck) (va_A ((mo_w ad ck x0 (nI x16) (nI x18) (nI x19) x20 (nI x21) (nI x22) x23 x24 x25 (nI x26) x27 (nI x28) (nI x29) (nI x30) (nI x33) x45 (nI x46) (nI x52) (nI x53) (nI x61) (nI x62) (nI x63) (nI x65) x66 f1 f2 f3 (bN 3 q4) (bN 7 q5) (bN 7 q6) (bN 4 q7) f8 (bN 2 q9) (bH q10) f11 (b2 m12_0 m12_1) (b2 m13_0 m13_1) (b2 m14_0 m14_1) (b2m m15_0 m15_1) f17 (bA 159 q31) f32 f34 f35 f36 f37 (bN 7 q38) f39 f40 f41 (b2 m42_0 m42_1) f43 f44 f47 f48 f49 f50 f51 (bN 13 q54) (bN 120 q55) (bN 120 q56) f57 (bN 120 q58) f59 f60 f64)) sz) t ∧ (z46 ≤ 5) ∧ (z52 ≤ 2400) ∧ (z53 ≤ 119) ∧ ((z35, z36, z49, z50, z51, z0, z46, z52, z53) = (sp_EM_state x16 x29 x52 x53 f3 q4 q5 q6 q7 f8 q9 q10 f11 m12_0 m12_1 m13_0 m13_1 m14_0 m14_1 f34 f35 f36 q38 f39 f40 f41 m42_0 f49 f50 f51 p0 p1).2)) (va_A ((mo_w ad ck x0 (nI x16) (nI x18) (nI x19) x20 (nI x21) (nI x22) x23 x24 x25 (nI x26) x27 (nI x28) (nI x29) (nI x30) (nI x33) x45 (nI x46) (nI x52) (nI x53) (nI x61) (nI x62) (nI x63) (nI x65) x66 f1 f2 f3 (bN 3 q4) (bN 7 q5) (bN 7 q6) (bN 4 q7) f8 (bN 2 q9) (bH q10) f11 (b2 m12_0 m12_1) (b2 m13_0 m13_1) (b2 m14_0 m14_1) (b2m m15_0 m15_1) f17 (bA 159 q31) f32 f34 f35 f36 f37 (bN 7 q38) f39 f40 f41 (b2 m42_0 m42_1) f43 f44 f47 f48 f49 f50 f51 (bN 13 q54) (bN 120 q55) (bN 120 q56) f57 (bN 120 q58) f59 f60 f64)) sz)) 0 0 (va_A ((mo_w ad ck x0 (nI x16) (nI x18) (nI x19) x20 (nI x21) (nI x22) x23 x24 x25 (nI x26) x27 (nI x28) (nI x29) (nI x30) (nI x33) x45 (nI x46) (nI x52) (nI x53) (nI x61) (nI x62) (nI x63) (nI x65) x66 f1 f2 f3 (bN 3 q4) (bN 7 q5) (bN 7 q6) (bN 4 q7) f8 (bN 2 q9) (bH q10) f11 (b2 m12_0 m12_1) (b2 m13_0 m13_1) (b2 m14_0 m14_1) (b2m m15_0 m15_1) f17 (bA 159 q31) f32 f34 f35 f36 f37 (bN 7 q38) f39 f40 f41 (b2 m42_0 m42_1) f43 f44 f47 f48 f49 f50 f51 (bN 13 q54) (bN 120 q55) (bN 120 q56) f57 (bN 120 q58) f59 f60 f64)) sz) := by
  refine Met.ofW (cc := cX9_state) (maxL := 5) (ret := (some .int)) (by decide) rfl ?_
  intro p e s m args below meth c s₁ B hml hv
  obtain ⟨rfl, rfl, hP, hK, hD0⟩ := hv
  have hx := B.exec
  have hb := B.bytes
  have hr := B.returns
  have hts := atoms_spec (ws := vs_EM_state) B.pre
  have v_1 := hts (.fieldLink RX9 142 "ClockReachModel" "thrown" "I") (List.mem_cons_of_mem _ vm_5)
  have v_10 := hts (.fieldLink RX9 92 "ClockReachModel" "stateMany" "[I") (List.mem_cons_of_mem _ vm_164)
  have v_11 := hts (.fieldLink RX9 83 "ClockReachModel" "stateFrom" "[I") (List.mem_cons_of_mem _ vm_239)
  have v_12 := hts (.fieldLink RX9 80 "ClockReachModel" "statePlace" "[I") (List.mem_cons_of_mem _ vm_223)
  have v_13 := hts (.fieldLink RX9 86 "ClockReachModel" "stateBy" "[I") (List.mem_cons_of_mem _ vm_240)
  have v_14 := hts (.fieldLink RX9 89 "ClockReachModel" "stateDeep" "[I") (List.mem_cons_of_mem _ vm_241)
  have hown : s.vm.findClass RX9 = some m.cls := findClass_of_methodNamed B.named
  have hlocks := B.notSynchronized
  have hiX9 : ∀ w ∈ wsX90, w ∈ vs_EM_state := fun _ h => List.mem_cons_of_mem _ (vmi_L h)
  have hD := hD0.self (sz := s.heap.size)
  generalize hAe : va_A ((mo_w ad ck x0 (nI x16) (nI x18) (nI x19) x20 (nI x21) (nI x22) x23 x24 x25 (nI x26) x27 (nI x28) (nI x29) (nI x30) (nI x33) x45 (nI x46) (nI x52) (nI x53) (nI x61) (nI x62) (nI x63) (nI x65) x66 f1 f2 f3 (bN 3 q4) (bN 7 q5) (bN 7 q6) (bN 4 q7) f8 (bN 2 q9) (bH q10) f11 (b2 m12_0 m12_1) (b2 m13_0 m13_1) (b2 m14_0 m14_1) (b2m m15_0 m15_1) f17 (bA 159 q31) f32 f34 f35 f36 f37 (bN 7 q38) f39 f40 f41 (b2 m42_0 m42_1) f43 f44 f47 f48 f49 f50 f51 (bN 13 q54) (bN 120 q55) (bN 120 q56) f57 (bN 120 q58) f59 f60 f64)) s.heap.size = A at hD ⊢
  have hA : ∀ q : Nat, s.heap.size ≤ q → A q := fun q h => by rw [← hAe]; exact Or.inr h
  have hS : va_S A s.heap s.heap [] := va_S.rf
  have hl := lv_entry ([.ref (ad 0), .int p0, .int p1]) (n := 5) (Nat.le_of_ble_eq_true rfl)
  rw [lg_entry_eq]
  generalize (lg_sl ([.ref (ad 0), .int p0, .int p1]) ++ List.replicate (5 - (lg_sl ([.ref (ad 0), .int p0, .int p1])).length) Slot.unset).toArray = ls at hl ⊢
  have hl : lv_has ls 5 [(0, .ref (ad 0)), (1, .int p0), (2, .int p1)] := hl
  obtain ⟨RR, hRR⟩ : ∃ x, x = (sp_EM_state x16 x29 x52 x53 f3 q4 q5 q6 q7 f8 q9 q10 f11 m12_0 m12_1 m13_0 m13_1 m14_0 m14_1 f34 f35 f36 q38 f39 f40 f41 m42_0 f49 f50 f51 p0 p1) := ⟨_, rfl⟩
  have hsp := hRR
  refine lv_aload_n hx hb dX9_state_0 rfl (lv_at hl 0 rfl) ?_
  refine lv_iconst (v := 0) hx hb dX9_state_1 (by decide) ?_
  refine va_put (D := (dC, dI)) (ci := 9) (v := .int 0) (ty := .int) (C := RX9) (T := TX9) (N := 67) hx hb hts hiX9 tyX9 tyX9_ok nmX9 hown hK hP hD hS 0 rfl rfl 0 (by decide) v_1 (fun _ h9 => h9) rfl (by decide +kernel) rfl rfl (Nat.le_of_ble_eq_true rfl) dX9_state_2 (fun H locs hP hD hS => ?_)
  have hP : va_P (dC, dI) vwCl (mo_w ad ck 0 (nI x16) (nI x18) (nI x19) x20 (nI x21) (nI x22) x23 x24 x25 (nI x26) x27 (nI x28) (nI x29) (nI x30) (nI x33) x45 (nI x46) (nI x52) (nI x53) (nI x61) (nI x62) (nI x63) (nI x65) x66 f1 f2 f3 (bN 3 q4) (bN 7 q5) (bN 7 q6) (bN 4 q7) f8 (bN 2 q9) (bH q10) f11 (b2 m12_0 m12_1) (b2 m13_0 m13_1) (b2 m14_0 m14_1) (b2m m15_0 m15_1) f17 (bA 159 q31) f32 f34 f35 f36 f37 (bN 7 q38) f39 f40 f41 (b2 m42_0 m42_1) f43 f44 f47 f48 f49 f50 f51 (bN 13 q54) (bN 120 q55) (bN 120 q56) f57 (bN 120 q58) f59 f60 f64) H := hP
  have hD : va_D A (mo_w ad ck 0 (nI x16) (nI x18) (nI x19) x20 (nI x21) (nI x22) x23 x24 x25 (nI x26) x27 (nI x28) (nI x29) (nI x30) (nI x33) x45 (nI x46) (nI x52) (nI x53) (nI x61) (nI x62) (nI x63) (nI x65) x66 f1 f2 f3 (bN 3 q4) (bN 7 q5) (bN 7 q6) (bN 4 q7) f8 (bN 2 q9) (bH q10) f11 (b2 m12_0 m12_1) (b2 m13_0 m13_1) (b2 m14_0 m14_1) (b2m m15_0 m15_1) f17 (bA 159 q31) f32 f34 f35 f36 f37 (bN 7 q38) f39 f40 f41 (b2 m42_0 m42_1) f43 f44 f47 f48 f49 f50 f51 (bN 13 q54) (bN 120 q55) (bN 120 q56) f57 (bN 120 q58) f59 f60 f64) := hD
  refine lv_aload_n hx hb dX9_state_5 rfl (lv_at hl 0 rfl) ?_
  refine lv_iload_n hx hb dX9_state_6 rfl (lv_at hl 1 rfl) ?_
  have hFc := pu_free hD hS hA
  refine va_calli (va_runV (As := [.int p0]) (rest := []) ⟨hx, hb, hml, hown, hts⟩ (c_EM_isState l dC dI _ ad ck 0 x16 x18 x19 x20 x21 x22 x23 x24 x25 x26 x27 x28 x29 x30 x33 x45 x46 x52 x53 x61 x62 x63 x65 x66 f1 f2 f3 q4 q5 q6 q7 f8 q9 q10 f11 m12_0 m12_1 m13_0 m13_1 m14_0 m14_1 m15_0 m15_1 f17 q31 f32 f34 f35 f36 f37 q38 f39 f40 f41 m42_0 m42_1 f43 f44 f47 f48 f49 f50 f51 q54 q55 q56 f57 q58 f59 f60 f64 p0 hx16 hx18 hx19 hx21 hx22 hx26 hx28 hx29 hx30 hx33 hx46 hx52 hx53 hx61 hx62 hx63 hx65 hm12_0 hm12_1 hm13_0 hm13_1 hm14_0 hm14_1 hm15_0 hm15_1 hm42_0 hm42_1) (cwV 1 hts g_EM_state_EM_isState rfl rfl rfl (by decide +kernel) ⟨Nat.le_of_ble_eq_true rfl, Nat.le_of_ble_eq_true rfl⟩) ⟨pu_bl, va_recv hK hP (ci := 9) (q0 := 0) rfl rfl, pu_in hP hK hD⟩ rfl rfl hl.1 rfl (lv_room (Nat.le_of_ble_eq_true rfl)) dX9_state_7 ⟨Nat.le_of_ble_eq_true rfl, Nat.le_of_ble_eq_true rfl⟩) hS (fun q _ h => hFc q h) hFc (fun r_1 u t H1 locs ht hvm hw hB hz1 hk1 hS => ?_)
  obtain ⟨z46_2, ⟨hP1, -, hD1⟩, hz46_2, xr_1_0⟩ := hB
  rw [ht] at hP1
  have hP := hP1
  have hD := pu_all hFc hD1
  clear hP1 hD1 hFc
  clear hk1 hz1 ht hvm
  generalize H1 = H at hP hS ⊢
  replace hsp := hsp.trans (slet_eq xr_1_0)
  rcases hw with ⟨rfl, hw⟩ | ⟨rfl, hn⟩
  · obtain ⟨hs1, n_3, hn_3, rfl⟩ := hw
    replace hsp := hsp.trans (if_pos ⟨hs1, in_q hn_3 (by omega)⟩)
    replace hsp := hsp.trans (slet_eq (nI_cl (n := n_3) (by omega)))
    refine lv_if_eq (tgt := 22) hx hb dX9_state_10 (by decide) (fun z => absurd z (by decide)) (fun _ => ?_)
    refine lv_iload_n hx hb dX9_state_13 rfl (lv_at hl 2 rfl) ?_
    refine lv_iconst (v := 0) hx hb dX9_state_14 (by decide) ?_
    refine lv_iconst (v := 5) hx hb dX9_state_15 (by decide) ?_
    refine va_calli (va_runS (As := [.int p1, .int 0, .int 5]) (rest := []) ⟨hx, hb, hml, hown, hts⟩ (c_X9_in l dC dI _ p1 0 5) (va_cwS 3 hts g_EM_state_X9_in rfl rfl rfl (by decide +kernel) ⟨Nat.le_of_ble_eq_true rfl, Nat.le_of_ble_eq_true rfl⟩) ⟨pu_bl, pu_in (hP.sub [] rfl) (hK.sub [] rfl) (hD.sub [] (by decide) rfl)⟩ rfl rfl hl.1 rfl (lv_room (Nat.le_of_ble_eq_true rfl)) dX9_state_16 ⟨Nat.le_of_ble_eq_true rfl, Nat.le_of_ble_eq_true rfl⟩) hS (fun q _ h => pu_fr hS hA q h) (pu_fr hS hA) (fun r_4 u t H1 locs ht hvm hw hB hz1 hk1 hS => ?_)
    have hP := pu_keep hP hk1
    clear hk1 hz1 ht hvm
    generalize H1 = H at hP hS ⊢
    rcases hw with ⟨rfl, hi1, hi2⟩ | ⟨rfl, hi3⟩
    · replace hsp := hsp.trans (if_pos ⟨hi1, hi2⟩)
      obtain ⟨n_5, hn_5, rfl⟩ := pu_in0 (n := 5) (by omega) hi1 hi2
      replace hsp := hsp.trans (slet_eq (nI_cl (n := n_5) (by omega)))
      refine lv_if_ne (tgt := 24) hx hb dX9_state_19 (by decide) (fun _ => ?_) (fun z => absurd z (by decide))
      refine lv_iconst (v := 0) hx hb dX9_state_24 (by decide) ?_
      refine lv_istore_n (lv' := [(3, .int 0), (0, .ref (ad 0)), (1, .int (nI n_3)), (2, .int (nI n_5))]) hx hb dX9_state_25 rfl hl (by decide) rfl (fun ls hl => ?_)
      refine lv_iconst (v := 1) hx hb dX9_state_26 (by decide) ?_
      refine lv_istore (lv' := [(4, .int 1), (3, .int 0), (0, .ref (ad 0)), (1, .int (nI n_3)), (2, .int (nI n_5))]) hx hb dX9_state_27 hl (by decide) rfl (fun ls hl => ?_)
      obtain ⟨lf_11, dlf_11, hlf_11, hsp⟩ := itr_ex hsp
      delta sp_EM_state_L1 at hlf_11
      refine pu_while (fun nn H locs ls => ∃ (g_8 : Int32) (g_9 : Nat), nn = 120 - g_9 ∧ (1 ≤ g_9 ∧ g_9 ≤ 120) ∧ RR = itrv dlf_11 lf_11 (g_8, g_9) ∧ va_P (dC, dI) vwCl (mo_w ad ck 0 (nI x16) (nI x18) (nI x19) x20 (nI x21) (nI x22) x23 x24 x25 (nI x26) x27 (nI x28) (nI x29) (nI x30) (nI x33) x45 (nI z46_2) (nI x52) (nI x53) (nI x61) (nI x62) (nI x63) (nI x65) x66 f1 f2 f3 (bN 3 q4) (bN 7 q5) (bN 7 q6) (bN 4 q7) f8 (bN 2 q9) (bH q10) f11 (b2 m12_0 m12_1) (b2 m13_0 m13_1) (b2 m14_0 m14_1) (b2m m15_0 m15_1) f17 (bA 159 q31) f32 f34 f35 f36 f37 (bN 7 q38) f39 f40 f41 (b2 m42_0 m42_1) f43 f44 f47 f48 f49 f50 f51 (bN 13 q54) (bN 120 q55) (bN 120 q56) f57 (bN 120 q58) f59 f60 f64) H ∧ va_D A (mo_w ad ck 0 (nI x16) (nI x18) (nI x19) x20 (nI x21) (nI x22) x23 x24 x25 (nI x26) x27 (nI x28) (nI x29) (nI x30) (nI x33) x45 (nI z46_2) (nI x52) (nI x53) (nI x61) (nI x62) (nI x63) (nI x65) x66 f1 f2 f3 (bN 3 q4) (bN 7 q5) (bN 7 q6) (bN 4 q7) f8 (bN 2 q9) (bH q10) f11 (b2 m12_0 m12_1) (b2 m13_0 m13_1) (b2 m14_0 m14_1) (b2m m15_0 m15_1) f17 (bA 159 q31) f32 f34 f35 f36 f37 (bN 7 q38) f39 f40 f41 (b2 m42_0 m42_1) f43 f44 f47 f48 f49 f50 f51 (bN 13 q54) (bN 120 q55) (bN 120 q56) f57 (bN 120 q58) f59 f60 f64) ∧ va_S A s.heap H locs ∧ lv_has ls 5 [(0, .ref (ad 0)), (1, .int (nI n_3)), (2, .int (nI n_5)), (3, .int g_8), (4, .int (nI g_9))]) 29 ?_ _ _ _ _ ⟨0, 1, rfl, ⟨by omega, by omega⟩, hsp, hP, hD, hS, lv_sub hl [2, 3, 4, 1, 0] rfl⟩
      rintro nn ih_10 H locs ls ⟨g_8, g_9, rfl, hg_9, he_13, hP, hD, hS, hl⟩
      obtain ⟨S_12, hsp, hin_14, hout_15⟩ := itr_step hlf_11 he_13
      refine lv_iload hx hb dX9_state_29 (lv_at hl 4 rfl) ?_
      refine lv_aload_n hx hb dX9_state_31 rfl (lv_at hl 0 rfl) ?_
      refine va_get (D := (dC, dI)) (ci := 9) (v := .ref (ad 42)) (C := RX9) (T := TX9) (N := 67) hx hb hts hiX9 hown hK hP 0 rfl rfl 42 (by decide) v_10 (fun _ h9 => h9) rfl dX9_state_32 ?_
      refine lv_iconst (v := 0) hx hb dX9_state_35 (by decide) ?_
      refine va_iald hx hb hK hP 27 26 rfl rfl (vp_in_nI (n := 0) (Nat.le_of_ble_eq_true rfl) (Nat.le_of_ble_eq_true rfl)) dX9_state_36 ?_
      refine lv_topi (fun y_16 ey_16 => ?_)
      have qy_16 := ey_16.trans b2_0
      clear ey_16
      obtain rfl : y_16 = nI m42_0 := qy_16
      refine lv_icmp_ge (tgt := 65) hx hb dX9_state_37 (by decide) (fun c_17 => ?_) (fun c_17 => ?_)
      · have c_17 : m42_0 ≤ g_9 := (nI_leI (a := m42_0) (b := g_9) (Nat.lt_of_le_of_lt hm42_0 (Nat.le_of_ble_eq_true rfl)) (Nat.lt_of_le_of_lt hg_9.2 (Nat.le_of_ble_eq_true rfl))).mp c_17
        replace hsp := hsp.trans (if_pos c_17)
        have hsp := hout_15 _ hsp
        refine lv_iload_n hx hb dX9_state_65 rfl (lv_at hl 2 rfl) ?_
        by_cases w_18 : n_5 = 0
        · subst w_18
          replace hsp := hsp.trans (if_pos rfl)
          refine lv_tableIn (tgt := 100) (off := 34) hx hb dX9_state_66 (by decide) (by decide) rfl (by decide) ?_
          refine lv_aload_n hx hb dX9_state_100 rfl (lv_at hl 0 rfl) ?_
          refine va_get (D := (dC, dI)) (ci := 9) (v := .ref (ad 38)) (C := RX9) (T := TX9) (N := 67) hx hb hts hiX9 hown hK hP 0 rfl rfl 38 (by decide) v_12 (fun _ h9 => h9) rfl dX9_state_101 ?_
          refine lv_iload_n hx hb dX9_state_104 rfl (lv_at hl 1 rfl) ?_
          refine va_iald hx hb hK hP 23 22 rfl rfl (vp_in_nI (n := n_3) (by omega) (Nat.le_of_ble_eq_true rfl)) dX9_state_105 ?_
          refine lv_topi (fun y_19 ey_19 => ?_)
          obtain ⟨u_20, hu_20, qu_20, xu_20⟩ := bN_getx 7 q38 (n := n_3) (by omega)
          obtain rfl : y_19 = nI u_20 := ey_19.trans qu_20
          replace hsp := hsp.trans (slet_eq xu_20)
          exact W.iret (v := (nI u_20)) hx hb hr (fun t ht hW => ⟨⟨(nI u_20), (), rfl, (congrArg Prod.fst (hsp.symm.trans hRR)), ⟨f35, f36, f49, f50, f51, 0, z46_2, x52, x53, ⟨by rw [ht]; exact hP, va_K.moved hW.alike hK, hD⟩, (Nat.le_trans hz46_2 (Nat.le_of_ble_eq_true rfl)), hx52, hx53, (congrArg Prod.snd (hsp.symm.trans hRR))⟩⟩, hS.F ht⟩) hS.2.2 dX9_state_106
        replace hsp := hsp.trans (if_neg w_18)
        by_cases w_21 : n_5 = 1
        · subst w_21
          replace hsp := hsp.trans (if_pos rfl)
          refine lv_tableIn (tgt := 107) (off := 41) hx hb dX9_state_66 (by decide) (by decide) rfl (by decide) ?_
          refine lv_aload_n hx hb dX9_state_107 rfl (lv_at hl 0 rfl) ?_
          refine va_get (D := (dC, dI)) (ci := 9) (v := .ref (ad 39)) (C := RX9) (T := TX9) (N := 67) hx hb hts hiX9 hown hK hP 0 rfl rfl 39 (by decide) v_11 (fun _ h9 => h9) rfl dX9_state_108 ?_
          refine lv_iload_n hx hb dX9_state_111 rfl (lv_at hl 1 rfl) ?_
          refine va_iald hx hb hK hP 24 23 rfl rfl (vp_in_nI (n := n_3) (by omega) (Nat.le_of_ble_eq_true rfl)) dX9_state_112 ?_
          refine lv_topi (fun y_22 ey_22 => ?_)
          have ey_22 : y_22 = f39 n_3 := ey_22.trans (congrArg f39 (nI_clamp (n := n_3) (by omega)))
          replace hsp := hsp.trans (slet_eq ey_22)
          exact W.iret (v := y_22) hx hb hr (fun t ht hW => ⟨⟨y_22, (), rfl, (congrArg Prod.fst (hsp.symm.trans hRR)), ⟨f35, f36, f49, f50, f51, 0, z46_2, x52, x53, ⟨by rw [ht]; exact hP, va_K.moved hW.alike hK, hD⟩, (Nat.le_trans hz46_2 (Nat.le_of_ble_eq_true rfl)), hx52, hx53, (congrArg Prod.snd (hsp.symm.trans hRR))⟩⟩, hS.F ht⟩) hS.2.2 dX9_state_113
        replace hsp := hsp.trans (if_neg w_21)
        by_cases w_23 : n_5 = 2
        · subst w_23
          replace hsp := hsp.trans (if_pos rfl)
          refine lv_tableIn (tgt := 114) (off := 48) hx hb dX9_state_66 (by decide) (by decide) rfl (by decide) ?_
          refine lv_aload_n hx hb dX9_state_114 rfl (lv_at hl 0 rfl) ?_
          refine va_get (D := (dC, dI)) (ci := 9) (v := .ref (ad 40)) (C := RX9) (T := TX9) (N := 67) hx hb hts hiX9 hown hK hP 0 rfl rfl 40 (by decide) v_13 (fun _ h9 => h9) rfl dX9_state_115 ?_
          refine lv_iload_n hx hb dX9_state_118 rfl (lv_at hl 1 rfl) ?_
          refine va_iald hx hb hK hP 25 24 rfl rfl (vp_in_nI (n := n_3) (by omega) (Nat.le_of_ble_eq_true rfl)) dX9_state_119 ?_
          refine lv_topi (fun y_24 ey_24 => ?_)
          have ey_24 : y_24 = f40 n_3 := ey_24.trans (congrArg f40 (nI_clamp (n := n_3) (by omega)))
          replace hsp := hsp.trans (slet_eq ey_24)
          exact W.iret (v := y_24) hx hb hr (fun t ht hW => ⟨⟨y_24, (), rfl, (congrArg Prod.fst (hsp.symm.trans hRR)), ⟨f35, f36, f49, f50, f51, 0, z46_2, x52, x53, ⟨by rw [ht]; exact hP, va_K.moved hW.alike hK, hD⟩, (Nat.le_trans hz46_2 (Nat.le_of_ble_eq_true rfl)), hx52, hx53, (congrArg Prod.snd (hsp.symm.trans hRR))⟩⟩, hS.F ht⟩) hS.2.2 dX9_state_120
        replace hsp := hsp.trans (if_neg w_23)
        by_cases w_25 : n_5 = 3
        · subst w_25
          replace hsp := hsp.trans (if_pos rfl)
          refine lv_tableIn (tgt := 121) (off := 55) hx hb dX9_state_66 (by decide) (by decide) rfl (by decide) ?_
          refine lv_aload_n hx hb dX9_state_121 rfl (lv_at hl 0 rfl) ?_
          refine va_get (D := (dC, dI)) (ci := 9) (v := .ref (ad 41)) (C := RX9) (T := TX9) (N := 67) hx hb hts hiX9 hown hK hP 0 rfl rfl 41 (by decide) v_14 (fun _ h9 => h9) rfl dX9_state_122 ?_
          refine lv_iload_n hx hb dX9_state_125 rfl (lv_at hl 1 rfl) ?_
          refine va_iald hx hb hK hP 26 25 rfl rfl (vp_in_nI (n := n_3) (by omega) (Nat.le_of_ble_eq_true rfl)) dX9_state_126 ?_
          refine lv_topi (fun y_26 ey_26 => ?_)
          have ey_26 : y_26 = f41 n_3 := ey_26.trans (congrArg f41 (nI_clamp (n := n_3) (by omega)))
          replace hsp := hsp.trans (slet_eq ey_26)
          exact W.iret (v := y_26) hx hb hr (fun t ht hW => ⟨⟨y_26, (), rfl, (congrArg Prod.fst (hsp.symm.trans hRR)), ⟨f35, f36, f49, f50, f51, 0, z46_2, x52, x53, ⟨by rw [ht]; exact hP, va_K.moved hW.alike hK, hD⟩, (Nat.le_trans hz46_2 (Nat.le_of_ble_eq_true rfl)), hx52, hx53, (congrArg Prod.snd (hsp.symm.trans hRR))⟩⟩, hS.F ht⟩) hS.2.2 dX9_state_127
        replace hsp := hsp.trans (if_neg w_25)
        by_cases w_27 : n_5 = 4
        · subst w_27
          replace hsp := hsp.trans (if_pos rfl)
          refine lv_tableIn (tgt := 128) (off := 62) hx hb dX9_state_66 (by decide) (by decide) rfl (by decide) ?_
          refine lv_iload_n hx hb dX9_state_128 rfl (lv_at hl 3 rfl) ?_
          exact W.iret (v := g_8) hx hb hr (fun t ht hW => ⟨⟨g_8, (), rfl, (congrArg Prod.fst (hsp.symm.trans hRR)), ⟨f35, f36, f49, f50, f51, 0, z46_2, x52, x53, ⟨by rw [ht]; exact hP, va_K.moved hW.alike hK, hD⟩, (Nat.le_trans hz46_2 (Nat.le_of_ble_eq_true rfl)), hx52, hx53, (congrArg Prod.snd (hsp.symm.trans hRR))⟩⟩, hS.F ht⟩) hS.2.2 dX9_state_129
        replace hsp := hsp.trans (if_neg w_27)
        refine lv_tableOut (tgt := 130) hx hb dX9_state_66 (by
            have zt := nI_toInt (n := n_5) (by omega)
            omega) (by decide) ?_
        refine lv_aload_n hx hb dX9_state_130 rfl (lv_at hl 0 rfl) ?_
        refine lv_iload_n hx hb dX9_state_131 rfl (lv_at hl 1 rfl) ?_
        have hFc := pu_free hD hS hA
        refine va_calli (va_runV (As := [.int (nI n_3)]) (rest := []) ⟨hx, hb, hml, hown, hts⟩ (c_EM_isStuck l dC dI _ ad ck 0 x16 x18 x19 x20 x21 x22 x23 x24 x25 x26 x27 x28 x29 x30 x33 x45 z46_2 x52 x53 x61 x62 x63 x65 x66 f1 f2 f3 q4 q5 q6 q7 f8 q9 q10 f11 m12_0 m12_1 m13_0 m13_1 m14_0 m14_1 m15_0 m15_1 f17 q31 f32 f34 f35 f36 f37 q38 f39 f40 f41 m42_0 m42_1 f43 f44 f47 f48 f49 f50 f51 q54 q55 q56 f57 q58 f59 f60 f64 n_3 hx16 hx18 hx19 hx21 hx22 hx26 hx28 hx29 hx30 hx33 (Nat.le_trans hz46_2 (Nat.le_of_ble_eq_true rfl)) hx52 hx53 hx61 hx62 hx63 hx65 hm12_0 hm12_1 hm13_0 hm13_1 hm14_0 hm14_1 hm15_0 hm15_1 hm42_0 hm42_1 (by omega)) (cwV 1 hts g_EM_state_EM_isStuck rfl rfl rfl (by decide +kernel) ⟨Nat.le_of_ble_eq_true rfl, Nat.le_of_ble_eq_true rfl⟩) ⟨pu_bl, va_recv hK hP (ci := 9) (q0 := 0) rfl rfl, pu_in hP hK hD⟩ rfl rfl hl.1 rfl (lv_room (Nat.le_of_ble_eq_true rfl)) dX9_state_132 ⟨Nat.le_of_ble_eq_true rfl, Nat.le_of_ble_eq_true rfl⟩) hS (fun q _ h => hFc q h) hFc (fun r_28 u t H1 locs ht hvm hw hB hz1 hk1 hS => ?_)
        obtain ⟨z35_29, z36_30, z49_31, z50_32, z51_33, z52_34, z53_35, ⟨hP1, -, hD1⟩, hz52_34, hz53_35, xr_28_0⟩ := hB
        rw [ht] at hP1
        have hP := hP1
        have hD := pu_all hFc hD1
        clear hP1 hD1 hFc
        clear hk1 hz1 ht hvm
        generalize H1 = H at hP hS ⊢
        obtain ⟨u_36, hu_36, rfl, iu_36⟩ := hw
        have iu_36 : (u_36, z35_29, z36_30, z49_31, z50_32, z51_33, z52_34, z53_35) = (sp_EM_isStuck x16 z46_2 f3 q4 q5 q6 q7 f8 q9 q10 f11 m13_0 m13_1 m14_0 m14_1 f34 f35 f36 q38 f49 f50 f51 n_3) := Prod.ext iu_36 xr_28_0
        replace hsp := hsp.trans (slet_eq iu_36)
        refine lv_if_eq (tgt := 142) hx hb dX9_state_135 (by decide) (fun c_37 => ?_) (fun c_37 => ?_)
        · have c_37 : u_36 = 0 := (nI_eq (a := u_36) (b := 0) (Nat.lt_of_le_of_lt hu_36 (Nat.le_of_ble_eq_true rfl)) (Nat.le_of_ble_eq_true rfl)).mp c_37
          replace hsp := hsp.trans (if_pos c_37)
          refine lv_iconst (v := 0) hx hb dX9_state_142 (by decide) ?_
          exact W.iret (v := 0) hx hb hr (fun t ht hW => ⟨⟨0, (), rfl, (congrArg Prod.fst (hsp.symm.trans hRR)), ⟨z35_29, z36_30, z49_31, z50_32, z51_33, 0, z46_2, z52_34, z53_35, ⟨by rw [ht]; exact hP, va_K.moved hW.alike hK, hD⟩, (Nat.le_trans hz46_2 (Nat.le_of_ble_eq_true rfl)), hz52_34, hz53_35, (congrArg Prod.snd (hsp.symm.trans hRR))⟩⟩, hS.F ht⟩) hS.2.2 dX9_state_143
        · have c_37 : ¬ u_36 = 0 := fun z => c_37 ((nI_eq (a := u_36) (b := 0) (Nat.lt_of_le_of_lt hu_36 (Nat.le_of_ble_eq_true rfl)) (Nat.le_of_ble_eq_true rfl)).mpr z)
          replace hsp := hsp.trans (if_neg c_37)
          refine lv_iconst (v := 1) hx hb dX9_state_138 (by decide) ?_
          refine lv_goto (tgt := 143) hx hb dX9_state_139 (by decide) ?_
          exact W.iret (v := 1) hx hb hr (fun t ht hW => ⟨⟨1, (), rfl, (congrArg Prod.fst (hsp.symm.trans hRR)), ⟨z35_29, z36_30, z49_31, z50_32, z51_33, 0, z46_2, z52_34, z53_35, ⟨by rw [ht]; exact hP, va_K.moved hW.alike hK, hD⟩, (Nat.le_trans hz46_2 (Nat.le_of_ble_eq_true rfl)), hz52_34, hz53_35, (congrArg Prod.snd (hsp.symm.trans hRR))⟩⟩, hS.F ht⟩) hS.2.2 dX9_state_143
      · have c_17 : ¬ m42_0 ≤ g_9 := fun z => c_17 ((nI_leI (a := m42_0) (b := g_9) (Nat.lt_of_le_of_lt hm42_0 (Nat.le_of_ble_eq_true rfl)) (Nat.lt_of_le_of_lt hg_9.2 (Nat.le_of_ble_eq_true rfl))).mpr z)
        replace hsp := hsp.trans (if_neg c_17)
        refine lv_iload_n hx hb dX9_state_40 rfl (lv_at hl 3 rfl) ?_
        refine lv_aload_n hx hb dX9_state_41 rfl (lv_at hl 0 rfl) ?_
        refine va_get (D := (dC, dI)) (ci := 9) (v := .ref (ad 39)) (C := RX9) (T := TX9) (N := 67) hx hb hts hiX9 hown hK hP 0 rfl rfl 39 (by decide) v_11 (fun _ h9 => h9) rfl dX9_state_42 ?_
        refine lv_iload hx hb dX9_state_45 (lv_at hl 4 rfl) ?_
        refine va_iald hx hb hK hP 24 23 rfl rfl (vp_in_nI (n := g_9) (Nat.lt_of_le_of_lt hg_9.2 (Nat.le_of_ble_eq_true rfl)) (Nat.le_of_ble_eq_true rfl)) dX9_state_47 ?_
        refine lv_topi (fun y_38 ey_38 => ?_)
        have ey_38 : y_38 = f39 g_9 := ey_38.trans (congrArg f39 (nI_clamp (n := g_9) (Nat.lt_of_le_of_lt hg_9.2 (Nat.le_of_ble_eq_true rfl))))
        replace hsp := hsp.trans (slet_eq ey_38)
        refine lv_iload_n hx hb dX9_state_48 rfl (lv_at hl 1 rfl) ?_
        obtain ⟨JR_41, hJR_41, hsp⟩ := slet_ex hsp
        refine pu_join (fun H locs ls st => ∃ (g_39 : Nat), st = [.int (nI g_39), .int g_8] ∧ g_39 ≤ 1 ∧ g_39 = JR_41 ∧ va_P (dC, dI) vwCl (mo_w ad ck 0 (nI x16) (nI x18) (nI x19) x20 (nI x21) (nI x22) x23 x24 x25 (nI x26) x27 (nI x28) (nI x29) (nI x30) (nI x33) x45 (nI z46_2) (nI x52) (nI x53) (nI x61) (nI x62) (nI x63) (nI x65) x66 f1 f2 f3 (bN 3 q4) (bN 7 q5) (bN 7 q6) (bN 4 q7) f8 (bN 2 q9) (bH q10) f11 (b2 m12_0 m12_1) (b2 m13_0 m13_1) (b2 m14_0 m14_1) (b2m m15_0 m15_1) f17 (bA 159 q31) f32 f34 f35 f36 f37 (bN 7 q38) f39 f40 f41 (b2 m42_0 m42_1) f43 f44 f47 f48 f49 f50 f51 (bN 13 q54) (bN 120 q55) (bN 120 q56) f57 (bN 120 q58) f59 f60 f64) H ∧ va_D A (mo_w ad ck 0 (nI x16) (nI x18) (nI x19) x20 (nI x21) (nI x22) x23 x24 x25 (nI x26) x27 (nI x28) (nI x29) (nI x30) (nI x33) x45 (nI z46_2) (nI x52) (nI x53) (nI x61) (nI x62) (nI x63) (nI x65) x66 f1 f2 f3 (bN 3 q4) (bN 7 q5) (bN 7 q6) (bN 4 q7) f8 (bN 2 q9) (bH q10) f11 (b2 m12_0 m12_1) (b2 m13_0 m13_1) (b2 m14_0 m14_1) (b2m m15_0 m15_1) f17 (bA 159 q31) f32 f34 f35 f36 f37 (bN 7 q38) f39 f40 f41 (b2 m42_0 m42_1) f43 f44 f47 f48 f49 f50 f51 (bN 13 q54) (bN 120 q55) (bN 120 q56) f57 (bN 120 q58) f59 f60 f64) ∧ va_S A s.heap H locs ∧ lv_has ls 5 [(0, .ref (ad 0)), (1, .int (nI n_3)), (2, .int (nI n_5)), (3, .int g_8), (4, .int (nI g_9))]) 57 ?_ (fun j_40 => ?_)
        · rintro H locs ls st ⟨g_39, rfl, hg_39, he_42, hP, hD, hS, hl⟩
          rw [← he_42] at hsp
          refine lv_iadd hx hb dX9_state_57 ?_
          refine lv_topi (fun y_43 ey_43 => ?_)
          replace hsp := hsp.trans (slet_eq ey_43)
          refine lv_istore_n (lv' := [(3, .int y_43), (0, .ref (ad 0)), (1, .int (nI n_3)), (2, .int (nI n_5)), (4, .int (nI g_9))]) hx hb dX9_state_58 rfl hl (by decide) rfl (fun ls hl => ?_)
          refine lv_iinc (v := (nI (g_9 + 1))) (lv' := [(4, .int (nI (g_9 + 1))), (3, .int y_43), (0, .ref (ad 0)), (1, .int (nI n_3)), (2, .int (nI n_5))]) hx hb dX9_state_59 hl (k := 4) rfl (nI_1 _) (by decide) rfl (fun ls hl => ?_)
          refine lv_goto (tgt := 29) hx hb dX9_state_62 (by decide) ?_
          exact ih_10 (120 - (g_9 + 1)) (by omega) _ _ _ ⟨y_43, (g_9 + 1), rfl, ⟨by omega, by omega⟩, hin_14 _ hsp, hP, hD, hS, lv_sub hl [2, 3, 4, 1, 0] rfl⟩
        have hsp := hJR_41
        refine lv_icmp_ne (tgt := 56) hx hb dX9_state_49 (by decide) (fun c_44 => ?_) (fun c_44 => ?_)
        · have hcc_44 := c_44
          replace hsp := hsp.trans (if_neg c_44)
          refine lv_iconst (v := 0) hx hb dX9_state_56 (by decide) ?_
          exact j_40 _ _ _ _ ⟨0, rfl, (Nat.le_of_ble_eq_true rfl), hsp.symm, hP, hD, hS, lv_sub hl [0, 1, 2, 3, 4] rfl⟩
        · have hcc_44 := c_44
          replace hsp := hsp.trans (if_pos c_44)
          refine lv_iconst (v := 1) hx hb dX9_state_52 (by decide) ?_
          refine lv_goto (tgt := 57) hx hb dX9_state_53 (by decide) ?_
          exact j_40 _ _ _ _ ⟨1, rfl, (Nat.le_of_ble_eq_true rfl), hsp.symm, hP, hD, hS, lv_sub hl [0, 1, 2, 3, 4] rfl⟩
    · replace hsp := hsp.trans (if_neg hi3)
      refine lv_if_ne (tgt := 24) hx hb dX9_state_19 (by decide) (fun z => absurd z (by decide)) (fun _ => ?_)
      refine lv_iconst (v := (-1)) hx hb dX9_state_22 (by decide) ?_
      exact W.iret (v := (-1)) hx hb hr (fun t ht hW => ⟨⟨(-1), (), rfl, (congrArg Prod.fst (hsp.symm.trans hRR)), ⟨f35, f36, f49, f50, f51, 0, z46_2, x52, x53, ⟨by rw [ht]; exact hP, va_K.moved hW.alike hK, hD⟩, (Nat.le_trans hz46_2 (Nat.le_of_ble_eq_true rfl)), hx52, hx53, (congrArg Prod.snd (hsp.symm.trans hRR))⟩⟩, hS.F ht⟩) hS.2.2 dX9_state_23
  · replace hsp := hsp.trans (if_neg hn)
    refine lv_if_eq (tgt := 22) hx hb dX9_state_10 (by decide) (fun _ => ?_) (fun z => absurd z (by decide))
    refine lv_iconst (v := (-1)) hx hb dX9_state_22 (by decide) ?_
    exact W.iret (v := (-1)) hx hb hr (fun t ht hW => ⟨⟨(-1), (), rfl, (congrArg Prod.fst (hsp.symm.trans hRR)), ⟨f35, f36, f49, f50, f51, 0, z46_2, x52, x53, ⟨by rw [ht]; exact hP, va_K.moved hW.alike hK, hD⟩, (Nat.le_trans hz46_2 (Nat.le_of_ble_eq_true rfl)), hx52, hx53, (congrArg Prod.snd (hsp.symm.trans hRR))⟩⟩, hS.F ht⟩) hS.2.2 dX9_state_23
theorem dX9_layPath_0 : decode cX9_layPath 0 = .ok (.aload_n 0, 1) := by decide +kernel
theorem dX9_layPath_1 : decode cX9_layPath 1 = .ok (.aload_n 0, 1) := by decide +kernel
theorem dX9_layPath_2 : decode cX9_layPath 2 = .ok (.getfield 89, 3) := by decide +kernel
theorem dX9_layPath_5 : decode cX9_layPath 5 = .ok (.iload_n 1, 1) := by decide +kernel
theorem dX9_layPath_6 : decode cX9_layPath 6 = .ok (.iaload, 1) := by decide +kernel
theorem dX9_layPath_7 : decode cX9_layPath 7 = .ok (.putfield 429, 3) := by decide +kernel
theorem dX9_layPath_10 : decode cX9_layPath 10 = .ok (.iload_n 1, 1) := by decide +kernel
theorem dX9_layPath_11 : decode cX9_layPath 11 = .ok (.istore_n 2, 1) := by decide +kernel
theorem dX9_layPath_12 : decode cX9_layPath 12 = .ok (.aload_n 0, 1) := by decide +kernel
theorem dX9_layPath_13 : decode cX9_layPath 13 = .ok (.getfield 429, 3) := by decide +kernel
theorem dX9_layPath_16 : decode cX9_layPath 16 = .ok (.iconst 1, 1) := by decide +kernel
theorem dX9_layPath_17 : decode cX9_layPath 17 = .ok (.isub, 1) := by decide +kernel
theorem dX9_layPath_18 : decode cX9_layPath 18 = .ok (.istore_n 3, 1) := by decide +kernel
theorem dX9_layPath_19 : decode cX9_layPath 19 = .ok (.iload_n 3, 1) := by decide +kernel
theorem dX9_layPath_20 : decode cX9_layPath 20 = .ok (.ifCond .lt 28, 3) := by decide +kernel
theorem dX9_layPath_23 : decode cX9_layPath 23 = .ok (.aload_n 0, 1) := by decide +kernel
theorem dX9_layPath_24 : decode cX9_layPath 24 = .ok (.getfield 118, 3) := by decide +kernel
theorem dX9_layPath_27 : decode cX9_layPath 27 = .ok (.iload_n 3, 1) := by decide +kernel
theorem dX9_layPath_28 : decode cX9_layPath 28 = .ok (.aload_n 0, 1) := by decide +kernel
theorem dX9_layPath_29 : decode cX9_layPath 29 = .ok (.getfield 86, 3) := by decide +kernel
theorem dX9_layPath_32 : decode cX9_layPath 32 = .ok (.iload_n 2, 1) := by decide +kernel
theorem dX9_layPath_33 : decode cX9_layPath 33 = .ok (.iaload, 1) := by decide +kernel
theorem dX9_layPath_34 : decode cX9_layPath 34 = .ok (.iastore, 1) := by decide +kernel
theorem dX9_layPath_35 : decode cX9_layPath 35 = .ok (.aload_n 0, 1) := by decide +kernel
theorem dX9_layPath_36 : decode cX9_layPath 36 = .ok (.getfield 83, 3) := by decide +kernel
theorem dX9_layPath_39 : decode cX9_layPath 39 = .ok (.iload_n 2, 1) := by decide +kernel
theorem dX9_layPath_40 : decode cX9_layPath 40 = .ok (.iaload, 1) := by decide +kernel
theorem dX9_layPath_41 : decode cX9_layPath 41 = .ok (.istore_n 2, 1) := by decide +kernel
theorem dX9_layPath_42 : decode cX9_layPath 42 = .ok (.iinc 3 (-1), 3) := by decide +kernel
theorem dX9_layPath_45 : decode cX9_layPath 45 = .ok (.goto (-26), 3) := by decide +kernel
theorem dX9_layPath_48 : decode cX9_layPath 48 = .ok (.return_, 1) := by decide +kernel
abbrev vs_EM_layPath : List Cond := .code yX9_layPath cX9_layPath 4 none :: VM
noncomputable def sp_EM_layPath_L1 (f39 : Nat → Int32) (f40 : Nat → Int32) (d_1 : Nat) : (Nat × Nat × (Nat → Nat)) → (Nat × Nat × (Nat → Nat)) ⊕ ((Nat → Nat) × Nat) := fun (kk_4, ss_5, q_6) => (if kk_4 = 0 then (Sum.inr (q_6, d_1)) else (slet (kk_4 - 1) (fun kk_4 => (slet ((f39 ss_5 : Int32).toNatClampNeg) (fun pp_13 => (slet ((f40 ss_5 : Int32).toNatClampNeg) (fun ee_14 => (slet (updN q_6 kk_4 ee_14) (fun q_17 => (Sum.inl (kk_4, pp_13, q_17)))))))))))
noncomputable def sp_EM_layPath (f39 : Nat → Int32) (f40 : Nat → Int32) (f41 : Nat → Int32) (q54 : Nat → Nat) (a0 : Nat) : (Nat → Nat) × Nat := (slet ((f41 a0 : Int32).toNatClampNeg) (fun d_1 => (itrv (α := Nat × Nat × (Nat → Nat)) (β := ((Nat → Nat) × Nat)) default (sp_EM_layPath_L1 f39 f40 d_1) (d_1, a0, q54))))
set_option maxHeartbeats 4000000 in
set_option maxRecDepth 100000 in
theorem c_EM_layPath (l : Launch) (dC : Nat → ClassId) (dI : Nat → Nat → Nat) (sz : Nat) (ad : Nat → Nat) (ck : Nat → ClassId) (x0 : Int32) (x16 : Nat) (x18 : Nat) (x19 : Nat) (x20 : Int32) (x21 : Nat) (x22 : Nat) (x23 : Int32) (x24 : Int32) (x25 : Int32) (x26 : Nat) (x27 : Int32) (x28 : Nat) (x29 : Nat) (x30 : Nat) (x33 : Nat) (x45 : Int32) (x46 : Nat) (x52 : Nat) (x53 : Nat) (x61 : Nat) (x62 : Nat) (x63 : Nat) (x65 : Nat) (x66 : Int32) (f1 : Nat → Int32) (f2 : Nat → Int32) (f3 : Nat → Int32) (q4 : Nat → Nat) (q5 : Nat → Nat) (q6 : Nat → Nat) (q7 : Nat → Nat) (f8 : Nat → Int32) (q9 : Nat → Nat) (q10 : Nat → Nat) (f11 : Nat → Int32) (m12_0 m12_1 : Nat) (m13_0 m13_1 : Nat) (m14_0 m14_1 : Nat) (m15_0 m15_1 : Nat) (f17 : Nat → Int32) (q31 : Nat → Nat) (f32 : Nat → Int32) (f34 : Nat → Int32) (f35 : Nat → Int32) (f36 : Nat → Int32) (f37 : Nat → Int32) (q38 : Nat → Nat) (f39 : Nat → Int32) (f40 : Nat → Int32) (f41 : Nat → Int32) (m42_0 m42_1 : Nat) (f43 : Nat → Int32) (f44 : Nat → Int32) (f47 : Nat → Int32) (f48 : Nat → Int32) (f49 : Nat → Int32) (f50 : Nat → Int32) (f51 : Nat → Int32) (q54 : Nat → Nat) (q55 : Nat → Nat) (q56 : Nat → Nat) (f57 : Nat → Int32) (q58 : Nat → Nat) (f59 : Nat → Int32) (f60 : Nat → Int32) (f64 : Nat → Int32) (a0 : Nat) (hx16 : x16 ≤ 1) (hx18 : x18 ≤ 900) (hx19 : x19 ≤ 900) (hx21 : x21 ≤ 900) (hx22 : x22 ≤ 4) (hx26 : x26 ≤ 6) (hx28 : x28 ≤ 1) (hx29 : x29 ≤ 1) (hx30 : x30 ≤ 1) (hx33 : x33 ≤ 20) (hx46 : x46 ≤ 5) (hx52 : x52 ≤ 2400) (hx53 : x53 ≤ 119) (hx61 : x61 ≤ 119) (hx62 : x62 ≤ 2000) (hx63 : x63 ≤ 1) (hx65 : x65 ≤ 7) (hm12_0 : m12_0 ≤ 3) (hm12_1 : m12_1 ≤ 3) (hm13_0 : m13_0 ≤ 8) (hm13_1 : m13_1 ≤ 8) (hm14_0 : m14_0 ≤ 14) (hm14_1 : m14_1 ≤ 14) (hm15_0 : m15_0 ≤ 8) (hm15_1 : m15_1 ≤ 8) (hm42_0 : m42_0 ≤ 120) (hm42_1 : m42_1 ≤ 400) (ha0 : a0 ≤ 119) (hgr : gz_ok m42_0 f39 f40 f41) (hq0 : a0 < m42_0) : Met l yX9_layPath vs_EM_layPath ({ frames := 0, cells := 0, slots := 0, locals := 0 }) (va_Pc [.ref (ad 0), .int (nI a0)] (pu_B (dC, dI) (mo_w ad ck x0 (nI x16) (nI x18) (nI x19) x20 (nI x21) (nI x22) x23 x24 x25 (nI x26) x27 (nI x28) (nI x29) (nI x30) (nI x33) x45 (nI x46) (nI x52) (nI x53) (nI x61) (nI x62) (nI x63) (nI x65) x66 f1 f2 f3 (bN 3 q4) (bN 7 q5) (bN 7 q6) (bN 4 q7) f8 (bN 2 q9) (bH q10) f11 (b2 m12_0 m12_1) (b2 m13_0 m13_1) (b2 m14_0 m14_1) (b2m m15_0 m15_1) f17 (bA 159 q31) f32 f34 f35 f36 f37 (bN 7 q38) f39 f40 f41 (b2 m42_0 m42_1) f43 f44 f47 f48 f49 f50 f51 (bN 13 q54) (bN 120 q55) (bN 120 q56) f57 (bN 120 q58) f59 f60 f64) (mo_t ck) sz)) (va_Qv (fun (_ : Unit) => True) (fun _ t => ∃ (z54 : Nat → Nat) (z61 : Nat), pu_E (dC, dI) (mo_w ad ck x0 (nI x16) (nI x18) (nI x19) x20 (nI x21) (nI x22) x23 x24 x25 (nI x26) x27 (nI x28) (nI x29) (nI x30) (nI x33) x45 (nI x46) (nI x52) (nI x53) (nI z61) (nI x62) (nI x63) (nI x65) x66 f1 f2 f3 (bN 3 q4) (bN 7 q5) (bN 7 q6) (bN 4 q7) f8 (bN 2 q9) (bH q10) f11 (b2 m12_0 m12_1) (b2 m13_0 m13_1) (b2 m14_0 m14_1) (b2m m15_0 m15_1) f17 (bA 159 q31) f32 f34 f35 f36 f37 (bN 7 q38) f39 f40 f41 (b2 m42_0 m42_1) f43 f44 f47 f48 f49 f50 f51 (bN 13 z54) (bN 120 q55) (bN 120 q56) f57 (bN 120 q58) f59 f60 f64) (mo_t ck) (va_A ((mo_w ad ck x0 (nI x16) (nI x18) (nI x19) x20 (nI x21) (nI x22) x23 x24 x25 (nI x26) x27 (nI x28) (nI x29) (nI x30) (nI x33) x45 (nI x46) (nI x52) (nI x53) (nI x61) (nI x62) (nI x63) (nI x65) x66 f1 f2 f3 (bN 3 q4) (bN 7 q5) (bN 7 q6) (bN 4 q7) f8 (bN 2 q9) (bH q10) f11 (b2 m12_0 m12_1) (b2 m13_0 m13_1) (b2 m14_0 m14_1) (b2m m15_0 m15_1) f17 (bA 159 q31) f32 f34 f35 f36 f37 (bN 7 q38) f39 f40 f41 (b2 m42_0 m42_1) f43 f44 f47 f48 f49 f50 f51 (bN 13 q54) (bN 120 q55) (bN 120 q56) f57 (bN 120 q58) f59 f60 f64)) sz) t ∧ (z61 ≤ 119) ∧ (f41 a0 = nI z61) ∧ ((z54, z61) = (sp_EM_layPath f39 f40 f41 q54 a0))) (va_A ((mo_w ad ck x0 (nI x16) (nI x18) (nI x19) x20 (nI x21) (nI x22) x23 x24 x25 (nI x26) x27 (nI x28) (nI x29) (nI x30) (nI x33) x45 (nI x46) (nI x52) (nI x53) (nI x61) (nI x62) (nI x63) (nI x65) x66 f1 f2 f3 (bN 3 q4) (bN 7 q5) (bN 7 q6) (bN 4 q7) f8 (bN 2 q9) (bH q10) f11 (b2 m12_0 m12_1) (b2 m13_0 m13_1) (b2 m14_0 m14_1) (b2m m15_0 m15_1) f17 (bA 159 q31) f32 f34 f35 f36 f37 (bN 7 q38) f39 f40 f41 (b2 m42_0 m42_1) f43 f44 f47 f48 f49 f50 f51 (bN 13 q54) (bN 120 q55) (bN 120 q56) f57 (bN 120 q58) f59 f60 f64)) sz)) 0 0 (va_A ((mo_w ad ck x0 (nI x16) (nI x18) (nI x19) x20 (nI x21) (nI x22) x23 x24 x25 (nI x26) x27 (nI x28) (nI x29) (nI x30) (nI x33) x45 (nI x46) (nI x52) (nI x53) (nI x61) (nI x62) (nI x63) (nI x65) x66 f1 f2 f3 (bN 3 q4) (bN 7 q5) (bN 7 q6) (bN 4 q7) f8 (bN 2 q9) (bH q10) f11 (b2 m12_0 m12_1) (b2 m13_0 m13_1) (b2 m14_0 m14_1) (b2m m15_0 m15_1) f17 (bA 159 q31) f32 f34 f35 f36 f37 (bN 7 q38) f39 f40 f41 (b2 m42_0 m42_1) f43 f44 f47 f48 f49 f50 f51 (bN 13 q54) (bN 120 q55) (bN 120 q56) f57 (bN 120 q58) f59 f60 f64)) sz) := by
  refine Met.ofW (cc := cX9_layPath) (maxL := 4) (ret := none) (by decide) rfl ?_
  intro p e s m args below meth c s₁ B hml hv
  obtain ⟨rfl, rfl, hP, hK, hD0⟩ := hv
  have hx := B.exec
  have hb := B.bytes
  have hr := B.returns
  have hts := atoms_spec (ws := vs_EM_layPath) B.pre
  have v_1 := hts (.fieldLink RX9 89 "ClockReachModel" "stateDeep" "[I") (List.mem_cons_of_mem _ vm_241)
  have v_2 := hts (.fieldLink RX9 429 "ClockReachModel" "pathMany" "I") (List.mem_cons_of_mem _ vm_303)
  have v_3 := hts (.fieldLink RX9 118 "ClockReachModel" "path" "[I") (List.mem_cons_of_mem _ vm_304)
  have v_4 := hts (.fieldLink RX9 86 "ClockReachModel" "stateBy" "[I") (List.mem_cons_of_mem _ vm_240)
  have v_5 := hts (.fieldLink RX9 83 "ClockReachModel" "stateFrom" "[I") (List.mem_cons_of_mem _ vm_239)
  have hown : s.vm.findClass RX9 = some m.cls := findClass_of_methodNamed B.named
  have hlocks := B.notSynchronized
  have hiX9 : ∀ w ∈ wsX90, w ∈ vs_EM_layPath := fun _ h => List.mem_cons_of_mem _ (vmi_L h)
  have hD := hD0.self (sz := s.heap.size)
  generalize hAe : va_A ((mo_w ad ck x0 (nI x16) (nI x18) (nI x19) x20 (nI x21) (nI x22) x23 x24 x25 (nI x26) x27 (nI x28) (nI x29) (nI x30) (nI x33) x45 (nI x46) (nI x52) (nI x53) (nI x61) (nI x62) (nI x63) (nI x65) x66 f1 f2 f3 (bN 3 q4) (bN 7 q5) (bN 7 q6) (bN 4 q7) f8 (bN 2 q9) (bH q10) f11 (b2 m12_0 m12_1) (b2 m13_0 m13_1) (b2 m14_0 m14_1) (b2m m15_0 m15_1) f17 (bA 159 q31) f32 f34 f35 f36 f37 (bN 7 q38) f39 f40 f41 (b2 m42_0 m42_1) f43 f44 f47 f48 f49 f50 f51 (bN 13 q54) (bN 120 q55) (bN 120 q56) f57 (bN 120 q58) f59 f60 f64)) s.heap.size = A at hD ⊢
  have hA : ∀ q : Nat, s.heap.size ≤ q → A q := fun q h => by rw [← hAe]; exact Or.inr h
  have hS : va_S A s.heap s.heap [] := va_S.rf
  have hl := lv_entry ([.ref (ad 0), .int (nI a0)]) (n := 4) (Nat.le_of_ble_eq_true rfl)
  rw [lg_entry_eq]
  generalize (lg_sl ([.ref (ad 0), .int (nI a0)]) ++ List.replicate (4 - (lg_sl ([.ref (ad 0), .int (nI a0)])).length) Slot.unset).toArray = ls at hl ⊢
  have hl : lv_has ls 4 [(0, .ref (ad 0)), (1, .int (nI a0))] := hl
  obtain ⟨RR, hRR⟩ : ∃ x, x = (sp_EM_layPath f39 f40 f41 q54 a0) := ⟨_, rfl⟩
  have hsp := hRR
  refine lv_aload_n hx hb dX9_layPath_0 rfl (lv_at hl 0 rfl) ?_
  refine lv_aload_n hx hb dX9_layPath_1 rfl (lv_at hl 0 rfl) ?_
  refine va_get (D := (dC, dI)) (ci := 9) (v := .ref (ad 41)) (C := RX9) (T := TX9) (N := 67) hx hb hts hiX9 hown hK hP 0 rfl rfl 41 (by decide) v_1 (fun _ h9 => h9) rfl dX9_layPath_2 ?_
  refine lv_iload_n hx hb dX9_layPath_5 rfl (lv_at hl 1 rfl) ?_
  obtain ⟨d_1, hd_1, fd_1, gd_1⟩ := gz_get hgr (i := a0) (by omega) (by omega)
  replace hsp := hsp.trans (slet_eq (by rw [gd_1]; exact nI_cl (n := d_1) (by omega) : d_1 = (f41 a0 : Int32).toNatClampNeg))
  refine va_iald hx hb hK hP 26 25 rfl rfl (vp_in_nI (n := a0) (Nat.lt_of_le_of_lt ha0 (Nat.le_of_ble_eq_true rfl)) (Nat.le_of_ble_eq_true rfl)) dX9_layPath_6 ?_
  refine lv_topi (fun y_2 ey_2 => ?_)
  obtain rfl : y_2 = nI d_1 := ey_2.trans fd_1
  refine va_put (D := (dC, dI)) (ci := 9) (v := .int (nI d_1)) (ty := .int) (C := RX9) (T := TX9) (N := 67) hx hb hts hiX9 tyX9 tyX9_ok nmX9 hown hK hP hD hS 0 rfl rfl 61 (by decide) v_2 (fun _ h9 => h9) rfl (by decide +kernel) rfl rfl (Nat.le_of_ble_eq_true rfl) dX9_layPath_7 (fun H locs hP hD hS => ?_)
  have hP : va_P (dC, dI) vwCl (mo_w ad ck x0 (nI x16) (nI x18) (nI x19) x20 (nI x21) (nI x22) x23 x24 x25 (nI x26) x27 (nI x28) (nI x29) (nI x30) (nI x33) x45 (nI x46) (nI x52) (nI x53) (nI d_1) (nI x62) (nI x63) (nI x65) x66 f1 f2 f3 (bN 3 q4) (bN 7 q5) (bN 7 q6) (bN 4 q7) f8 (bN 2 q9) (bH q10) f11 (b2 m12_0 m12_1) (b2 m13_0 m13_1) (b2 m14_0 m14_1) (b2m m15_0 m15_1) f17 (bA 159 q31) f32 f34 f35 f36 f37 (bN 7 q38) f39 f40 f41 (b2 m42_0 m42_1) f43 f44 f47 f48 f49 f50 f51 (bN 13 q54) (bN 120 q55) (bN 120 q56) f57 (bN 120 q58) f59 f60 f64) H := hP
  have hD : va_D A (mo_w ad ck x0 (nI x16) (nI x18) (nI x19) x20 (nI x21) (nI x22) x23 x24 x25 (nI x26) x27 (nI x28) (nI x29) (nI x30) (nI x33) x45 (nI x46) (nI x52) (nI x53) (nI d_1) (nI x62) (nI x63) (nI x65) x66 f1 f2 f3 (bN 3 q4) (bN 7 q5) (bN 7 q6) (bN 4 q7) f8 (bN 2 q9) (bH q10) f11 (b2 m12_0 m12_1) (b2 m13_0 m13_1) (b2 m14_0 m14_1) (b2m m15_0 m15_1) f17 (bA 159 q31) f32 f34 f35 f36 f37 (bN 7 q38) f39 f40 f41 (b2 m42_0 m42_1) f43 f44 f47 f48 f49 f50 f51 (bN 13 q54) (bN 120 q55) (bN 120 q56) f57 (bN 120 q58) f59 f60 f64) := hD
  refine lv_iload_n hx hb dX9_layPath_10 rfl (lv_at hl 1 rfl) ?_
  refine lv_istore_n (lv' := [(2, .int (nI a0)), (0, .ref (ad 0)), (1, .int (nI a0))]) hx hb dX9_layPath_11 rfl hl (by decide) rfl (fun ls hl => ?_)
  refine lv_aload_n hx hb dX9_layPath_12 rfl (lv_at hl 1 rfl) ?_
  refine va_get (D := (dC, dI)) (ci := 9) (v := .int (nI d_1)) (C := RX9) (T := TX9) (N := 67) hx hb hts hiX9 hown hK hP 0 rfl rfl 61 (by decide) v_2 (fun _ h9 => h9) rfl dX9_layPath_13 ?_
  refine lv_iconst (v := 1) hx hb dX9_layPath_16 (by decide) ?_
  refine lv_isub hx hb dX9_layPath_17 ?_
  refine lv_istore_n (lv' := [(3, .int ((nI d_1) - 1)), (2, .int (nI a0)), (0, .ref (ad 0)), (1, .int (nI a0))]) hx hb dX9_layPath_18 rfl hl (by decide) rfl (fun ls hl => ?_)
  obtain ⟨lf_7, dlf_7, hlf_7, hsp⟩ := itr_ex hsp
  delta sp_EM_layPath_L1 at hlf_7
  refine pu_while (fun nn H locs ls => ∃ (kk_4 ss_5 : Nat) (q_6 : Nat → Nat), RR = itrv dlf_7 lf_7 (kk_4, ss_5, q_6) ∧ nn = kk_4 + 0 ∧ ss_5 < m42_0 ∧ kk_4 ≤ 119 ∧ f41 ss_5 = nI kk_4 ∧ va_P (dC, dI) vwCl (mo_w ad ck x0 (nI x16) (nI x18) (nI x19) x20 (nI x21) (nI x22) x23 x24 x25 (nI x26) x27 (nI x28) (nI x29) (nI x30) (nI x33) x45 (nI x46) (nI x52) (nI x53) (nI d_1) (nI x62) (nI x63) (nI x65) x66 f1 f2 f3 (bN 3 q4) (bN 7 q5) (bN 7 q6) (bN 4 q7) f8 (bN 2 q9) (bH q10) f11 (b2 m12_0 m12_1) (b2 m13_0 m13_1) (b2 m14_0 m14_1) (b2m m15_0 m15_1) f17 (bA 159 q31) f32 f34 f35 f36 f37 (bN 7 q38) f39 f40 f41 (b2 m42_0 m42_1) f43 f44 f47 f48 f49 f50 f51 (bN 13 q_6) (bN 120 q55) (bN 120 q56) f57 (bN 120 q58) f59 f60 f64) H ∧ va_D A (mo_w ad ck x0 (nI x16) (nI x18) (nI x19) x20 (nI x21) (nI x22) x23 x24 x25 (nI x26) x27 (nI x28) (nI x29) (nI x30) (nI x33) x45 (nI x46) (nI x52) (nI x53) (nI d_1) (nI x62) (nI x63) (nI x65) x66 f1 f2 f3 (bN 3 q4) (bN 7 q5) (bN 7 q6) (bN 4 q7) f8 (bN 2 q9) (bH q10) f11 (b2 m12_0 m12_1) (b2 m13_0 m13_1) (b2 m14_0 m14_1) (b2m m15_0 m15_1) f17 (bA 159 q31) f32 f34 f35 f36 f37 (bN 7 q38) f39 f40 f41 (b2 m42_0 m42_1) f43 f44 f47 f48 f49 f50 f51 (bN 13 q_6) (bN 120 q55) (bN 120 q56) f57 (bN 120 q58) f59 f60 f64) ∧ va_S A s.heap H locs ∧ lv_has ls 4 [(0, .ref (ad 0)), (2, .int (nI ss_5)), (3, .int (nI kk_4 - 1))]) 19 ?_ _ _ _ _ ⟨d_1, a0, q54, hsp, rfl, by omega, by omega, by assumption, hP, hD, hS, lv_sub hl [2, 1, 0] rfl⟩
  rintro nn ih_9 H locs ls ⟨kk_4, ss_5, q_6, e_8, hnn, hss_5, hkk_4, fkk_4, hP, hD, hS, hl⟩
  obtain ⟨S_10, hsp, hin_11, hout_12⟩ := itr_step hlf_7 e_8
  rcases kk_4 with _ | kk_4
  · replace hsp := hsp.trans (if_pos rfl)
    rw [pu_k0] at hl
    have hsp := hout_12 _ hsp
    refine lv_iload_n hx hb dX9_layPath_19 rfl (lv_at hl 2 rfl) ?_
    refine lv_if_lt (tgt := 48) hx hb dX9_layPath_20 (by decide) (fun _ => ?_) (fun z => absurd z (by decide))
    exact W.vret hx hb hr (fun t ht hW => ⟨⟨(), rfl, trivial, ⟨q_6, d_1, ⟨by rw [ht]; exact hP, va_K.moved hW.alike hK, hD⟩, (by omega), by assumption, (hsp.symm.trans hRR)⟩⟩, hS.F ht⟩) hS.2.2 dX9_layPath_48
  · replace hsp := hsp.trans (if_neg (Nat.succ_ne_zero _))
    rw [nI_pred] at hl
    obtain ⟨pp_13, ee_14, hpp_13, hee_14, xpp_13, ypp_13, zpp_13⟩ := gz_up hgr hss_5 (by omega) fkk_4 (by omega)
    replace hsp := hsp.trans (slet_eq (by omega : kk_4 = kk_4 + 1 - 1))
    replace hsp := hsp.trans (slet_eq (cl_of xpp_13 (by omega) (by omega)))
    replace hsp := hsp.trans (slet_eq (cl_of ypp_13 (by omega) (by omega)))
    refine lv_iload_n hx hb dX9_layPath_19 rfl (lv_at hl 2 rfl) ?_
    refine lv_if_lt (tgt := 48) hx hb dX9_layPath_20 (by decide) (fun c_15 => ?_) (fun c_15 => ?_)
    · have c_15 : kk_4 < 0 := (nI_ltI (a := kk_4) (b := 0) (by omega) (Nat.le_of_ble_eq_true rfl)).mp c_15
      exfalso
      omega
    · have c_15 : ¬ kk_4 < 0 := fun z => c_15 ((nI_ltI (a := kk_4) (b := 0) (by omega) (Nat.le_of_ble_eq_true rfl)).mpr z)
      refine lv_aload_n hx hb dX9_layPath_23 rfl (lv_at hl 0 rfl) ?_
      refine va_get (D := (dC, dI)) (ci := 9) (v := .ref (ad 54)) (C := RX9) (T := TX9) (N := 67) hx hb hts hiX9 hown hK hP 0 rfl rfl 54 (by decide) v_3 (fun _ h9 => h9) rfl dX9_layPath_24 ?_
      refine lv_iload_n hx hb dX9_layPath_27 rfl (lv_at hl 2 rfl) ?_
      refine lv_aload_n hx hb dX9_layPath_28 rfl (lv_at hl 0 rfl) ?_
      refine va_get (D := (dC, dI)) (ci := 9) (v := .ref (ad 40)) (C := RX9) (T := TX9) (N := 67) hx hb hts hiX9 hown hK hP 0 rfl rfl 40 (by decide) v_4 (fun _ h9 => h9) rfl dX9_layPath_29 ?_
      refine lv_iload_n hx hb dX9_layPath_32 rfl (lv_at hl 1 rfl) ?_
      refine va_iald hx hb hK hP 25 24 rfl rfl (vp_in_nI (n := ss_5) (by omega) (Nat.le_of_ble_eq_true rfl)) dX9_layPath_33 ?_
      refine lv_topi (fun y_16 ey_16 => ?_)
      obtain rfl : y_16 = nI ee_14 := ey_16.trans ypp_13
      refine va_iast hx hb hK hP hD hS 35 34 rfl rfl (vp_in_nI (n := kk_4) (by omega) (Nat.le_of_ble_eq_true rfl)) dX9_layPath_34 (fun H locs hP hD hS => ?_)
      obtain ⟨q_17, eq_17, kq_17, oq_17, xq_17⟩ := bN_upx 13 q_6 (n := kk_4) (v := ee_14) (by omega) (by omega)
      have hP : va_P (dC, dI) vwCl (mo_w ad ck x0 (nI x16) (nI x18) (nI x19) x20 (nI x21) (nI x22) x23 x24 x25 (nI x26) x27 (nI x28) (nI x29) (nI x30) (nI x33) x45 (nI x46) (nI x52) (nI x53) (nI d_1) (nI x62) (nI x63) (nI x65) x66 f1 f2 f3 (bN 3 q4) (bN 7 q5) (bN 7 q6) (bN 4 q7) f8 (bN 2 q9) (bH q10) f11 (b2 m12_0 m12_1) (b2 m13_0 m13_1) (b2 m14_0 m14_1) (b2m m15_0 m15_1) f17 (bA 159 q31) f32 f34 f35 f36 f37 (bN 7 q38) f39 f40 f41 (b2 m42_0 m42_1) f43 f44 f47 f48 f49 f50 f51 (bN 13 q_17) (bN 120 q55) (bN 120 q56) f57 (bN 120 q58) f59 f60 f64) H := by rw [← eq_17]; exact hP
      have hD : va_D A (mo_w ad ck x0 (nI x16) (nI x18) (nI x19) x20 (nI x21) (nI x22) x23 x24 x25 (nI x26) x27 (nI x28) (nI x29) (nI x30) (nI x33) x45 (nI x46) (nI x52) (nI x53) (nI d_1) (nI x62) (nI x63) (nI x65) x66 f1 f2 f3 (bN 3 q4) (bN 7 q5) (bN 7 q6) (bN 4 q7) f8 (bN 2 q9) (bH q10) f11 (b2 m12_0 m12_1) (b2 m13_0 m13_1) (b2 m14_0 m14_1) (b2m m15_0 m15_1) f17 (bA 159 q31) f32 f34 f35 f36 f37 (bN 7 q38) f39 f40 f41 (b2 m42_0 m42_1) f43 f44 f47 f48 f49 f50 f51 (bN 13 q_17) (bN 120 q55) (bN 120 q56) f57 (bN 120 q58) f59 f60 f64) := by rw [← eq_17]; exact hD
      replace hsp := hsp.trans (slet_eq xq_17)
      refine lv_aload_n hx hb dX9_layPath_35 rfl (lv_at hl 0 rfl) ?_
      refine va_get (D := (dC, dI)) (ci := 9) (v := .ref (ad 39)) (C := RX9) (T := TX9) (N := 67) hx hb hts hiX9 hown hK hP 0 rfl rfl 39 (by decide) v_5 (fun _ h9 => h9) rfl dX9_layPath_36 ?_
      refine lv_iload_n hx hb dX9_layPath_39 rfl (lv_at hl 1 rfl) ?_
      refine va_iald hx hb hK hP 24 23 rfl rfl (vp_in_nI (n := ss_5) (by omega) (Nat.le_of_ble_eq_true rfl)) dX9_layPath_40 ?_
      refine lv_topi (fun y_18 ey_18 => ?_)
      obtain rfl : y_18 = nI pp_13 := ey_18.trans xpp_13
      refine lv_istore_n (lv' := [(2, .int (nI pp_13)), (0, .ref (ad 0)), (3, .int (nI kk_4))]) hx hb dX9_layPath_41 rfl hl (by decide) rfl (fun ls hl => ?_)
      refine lv_iinc (v := (nI kk_4 - 1)) (lv' := [(3, .int (nI kk_4 - 1)), (2, .int (nI pp_13)), (0, .ref (ad 0))]) hx hb dX9_layPath_42 hl (k := 2) rfl (pu_decm _) (by decide) rfl (fun ls hl => ?_)
      refine lv_goto (tgt := 19) hx hb dX9_layPath_45 (by decide) ?_
      exact ih_9 kk_4 (by omega) _ _ _ ⟨kk_4, pp_13, q_17, hin_11 _ hsp, rfl, by omega, by omega, by assumption, hP, hD, hS, lv_sub hl [2, 1, 0] rfl⟩
theorem dX9_holdsApart_0 : decode cX9_holdsApart 0 = .ok (.aload_n 0, 1) := by decide +kernel
theorem dX9_holdsApart_1 : decode cX9_holdsApart 1 = .ok (.getfield 121, 3) := by decide +kernel
theorem dX9_holdsApart_4 : decode cX9_holdsApart 4 = .ok (.aload_n 0, 1) := by decide +kernel
theorem dX9_holdsApart_5 : decode cX9_holdsApart 5 = .ok (.getfield 432, 3) := by decide +kernel
theorem dX9_holdsApart_8 : decode cX9_holdsApart 8 = .ok (.iload_n 1, 1) := by decide +kernel
theorem dX9_holdsApart_9 : decode cX9_holdsApart 9 = .ok (.iastore, 1) := by decide +kernel
theorem dX9_holdsApart_10 : decode cX9_holdsApart 10 = .ok (.aload_n 0, 1) := by decide +kernel
theorem dX9_holdsApart_11 : decode cX9_holdsApart 11 = .ok (.getfield 124, 3) := by decide +kernel
theorem dX9_holdsApart_14 : decode cX9_holdsApart 14 = .ok (.aload_n 0, 1) := by decide +kernel
theorem dX9_holdsApart_15 : decode cX9_holdsApart 15 = .ok (.getfield 432, 3) := by decide +kernel
theorem dX9_holdsApart_18 : decode cX9_holdsApart 18 = .ok (.iload_n 2, 1) := by decide +kernel
theorem dX9_holdsApart_19 : decode cX9_holdsApart 19 = .ok (.iastore, 1) := by decide +kernel
theorem dX9_holdsApart_20 : decode cX9_holdsApart 20 = .ok (.aload_n 0, 1) := by decide +kernel
theorem dX9_holdsApart_21 : decode cX9_holdsApart 21 = .ok (.getfield 127, 3) := by decide +kernel
theorem dX9_holdsApart_24 : decode cX9_holdsApart 24 = .ok (.aload_n 0, 1) := by decide +kernel
theorem dX9_holdsApart_25 : decode cX9_holdsApart 25 = .ok (.getfield 432, 3) := by decide +kernel
theorem dX9_holdsApart_28 : decode cX9_holdsApart 28 = .ok (.iload_n 3, 1) := by decide +kernel
theorem dX9_holdsApart_29 : decode cX9_holdsApart 29 = .ok (.iastore, 1) := by decide +kernel
theorem dX9_holdsApart_30 : decode cX9_holdsApart 30 = .ok (.aload_n 0, 1) := by decide +kernel
theorem dX9_holdsApart_31 : decode cX9_holdsApart 31 = .ok (.dup, 1) := by decide +kernel
theorem dX9_holdsApart_32 : decode cX9_holdsApart 32 = .ok (.getfield 432, 3) := by decide +kernel
theorem dX9_holdsApart_35 : decode cX9_holdsApart 35 = .ok (.iconst 1, 1) := by decide +kernel
theorem dX9_holdsApart_36 : decode cX9_holdsApart 36 = .ok (.iadd, 1) := by decide +kernel
theorem dX9_holdsApart_37 : decode cX9_holdsApart 37 = .ok (.putfield 432, 3) := by decide +kernel
theorem dX9_holdsApart_40 : decode cX9_holdsApart 40 = .ok (.return_, 1) := by decide +kernel
abbrev vs_EM_holdsApart : List Cond := .code yX9_holdsApart cX9_holdsApart 4 none :: VM
noncomputable def sp_EM_holdsApart (x62 : Nat) (q55 : Nat → Nat) (q56 : Nat → Nat) (f57 : Nat → Int32) (a0 : Nat) (a1 : Nat) (p2 : Int32) : (Nat → Nat) × (Nat → Nat) × (Nat → Int32) := (slet (updN q55 x62 a0) (fun q_1 => (slet (updN q56 x62 a1) (fun q_2 => (slet (upd f57 x62 p2) (fun f_3 => (q_1, q_2, f_3)))))))
set_option maxHeartbeats 4000000 in
set_option maxRecDepth 100000 in
theorem c_EM_holdsApart (l : Launch) (dC : Nat → ClassId) (dI : Nat → Nat → Nat) (sz : Nat) (ad : Nat → Nat) (ck : Nat → ClassId) (x0 : Int32) (x16 : Nat) (x18 : Nat) (x19 : Nat) (x20 : Int32) (x21 : Nat) (x22 : Nat) (x23 : Int32) (x24 : Int32) (x25 : Int32) (x26 : Nat) (x27 : Int32) (x28 : Nat) (x29 : Nat) (x30 : Nat) (x33 : Nat) (x45 : Int32) (x46 : Nat) (x52 : Nat) (x53 : Nat) (x61 : Nat) (x62 : Nat) (x63 : Nat) (x65 : Nat) (x66 : Int32) (f1 : Nat → Int32) (f2 : Nat → Int32) (f3 : Nat → Int32) (q4 : Nat → Nat) (q5 : Nat → Nat) (q6 : Nat → Nat) (q7 : Nat → Nat) (f8 : Nat → Int32) (q9 : Nat → Nat) (q10 : Nat → Nat) (f11 : Nat → Int32) (m12_0 m12_1 : Nat) (m13_0 m13_1 : Nat) (m14_0 m14_1 : Nat) (m15_0 m15_1 : Nat) (f17 : Nat → Int32) (q31 : Nat → Nat) (f32 : Nat → Int32) (f34 : Nat → Int32) (f35 : Nat → Int32) (f36 : Nat → Int32) (f37 : Nat → Int32) (q38 : Nat → Nat) (f39 : Nat → Int32) (f40 : Nat → Int32) (f41 : Nat → Int32) (m42_0 m42_1 : Nat) (f43 : Nat → Int32) (f44 : Nat → Int32) (f47 : Nat → Int32) (f48 : Nat → Int32) (f49 : Nat → Int32) (f50 : Nat → Int32) (f51 : Nat → Int32) (q54 : Nat → Nat) (q55 : Nat → Nat) (q56 : Nat → Nat) (f57 : Nat → Int32) (q58 : Nat → Nat) (f59 : Nat → Int32) (f60 : Nat → Int32) (f64 : Nat → Int32) (a0 : Nat) (a1 : Nat) (p2 : Int32) (hx16 : x16 ≤ 1) (hx18 : x18 ≤ 900) (hx19 : x19 ≤ 900) (hx21 : x21 ≤ 900) (hx22 : x22 ≤ 4) (hx26 : x26 ≤ 6) (hx28 : x28 ≤ 1) (hx29 : x29 ≤ 1) (hx30 : x30 ≤ 1) (hx33 : x33 ≤ 20) (hx46 : x46 ≤ 5) (hx52 : x52 ≤ 2400) (hx53 : x53 ≤ 119) (hx61 : x61 ≤ 119) (hx62 : x62 ≤ 1999) (hx63 : x63 ≤ 1) (hx65 : x65 ≤ 7) (hm12_0 : m12_0 ≤ 3) (hm12_1 : m12_1 ≤ 3) (hm13_0 : m13_0 ≤ 8) (hm13_1 : m13_1 ≤ 8) (hm14_0 : m14_0 ≤ 14) (hm14_1 : m14_1 ≤ 14) (hm15_0 : m15_0 ≤ 8) (hm15_1 : m15_1 ≤ 8) (hm42_0 : m42_0 ≤ 120) (hm42_1 : m42_1 ≤ 400) (ha0 : a0 ≤ 120) (ha1 : a1 ≤ 120) : Met l yX9_holdsApart vs_EM_holdsApart ({ frames := 0, cells := 0, slots := 0, locals := 0 }) (va_Pc [.ref (ad 0), .int (nI a0), .int (nI a1), .int p2] (pu_B (dC, dI) (mo_w ad ck x0 (nI x16) (nI x18) (nI x19) x20 (nI x21) (nI x22) x23 x24 x25 (nI x26) x27 (nI x28) (nI x29) (nI x30) (nI x33) x45 (nI x46) (nI x52) (nI x53) (nI x61) (nI x62) (nI x63) (nI x65) x66 f1 f2 f3 (bN 3 q4) (bN 7 q5) (bN 7 q6) (bN 4 q7) f8 (bN 2 q9) (bH q10) f11 (b2 m12_0 m12_1) (b2 m13_0 m13_1) (b2 m14_0 m14_1) (b2m m15_0 m15_1) f17 (bA 159 q31) f32 f34 f35 f36 f37 (bN 7 q38) f39 f40 f41 (b2 m42_0 m42_1) f43 f44 f47 f48 f49 f50 f51 (bN 13 q54) (bN 120 q55) (bN 120 q56) f57 (bN 120 q58) f59 f60 f64) (mo_t ck) sz)) (va_Qv (fun (_ : Unit) => True) (fun _ t => ∃ (z55 : Nat → Nat) (z56 : Nat → Nat) (z57 : Nat → Int32), pu_E (dC, dI) (mo_w ad ck x0 (nI x16) (nI x18) (nI x19) x20 (nI x21) (nI x22) x23 x24 x25 (nI x26) x27 (nI x28) (nI x29) (nI x30) (nI x33) x45 (nI x46) (nI x52) (nI x53) (nI x61) (nI (x62 + 1)) (nI x63) (nI x65) x66 f1 f2 f3 (bN 3 q4) (bN 7 q5) (bN 7 q6) (bN 4 q7) f8 (bN 2 q9) (bH q10) f11 (b2 m12_0 m12_1) (b2 m13_0 m13_1) (b2 m14_0 m14_1) (b2m m15_0 m15_1) f17 (bA 159 q31) f32 f34 f35 f36 f37 (bN 7 q38) f39 f40 f41 (b2 m42_0 m42_1) f43 f44 f47 f48 f49 f50 f51 (bN 13 q54) (bN 120 z55) (bN 120 z56) z57 (bN 120 q58) f59 f60 f64) (mo_t ck) (va_A ((mo_w ad ck x0 (nI x16) (nI x18) (nI x19) x20 (nI x21) (nI x22) x23 x24 x25 (nI x26) x27 (nI x28) (nI x29) (nI x30) (nI x33) x45 (nI x46) (nI x52) (nI x53) (nI x61) (nI x62) (nI x63) (nI x65) x66 f1 f2 f3 (bN 3 q4) (bN 7 q5) (bN 7 q6) (bN 4 q7) f8 (bN 2 q9) (bH q10) f11 (b2 m12_0 m12_1) (b2 m13_0 m13_1) (b2 m14_0 m14_1) (b2m m15_0 m15_1) f17 (bA 159 q31) f32 f34 f35 f36 f37 (bN 7 q38) f39 f40 f41 (b2 m42_0 m42_1) f43 f44 f47 f48 f49 f50 f51 (bN 13 q54) (bN 120 q55) (bN 120 q56) f57 (bN 120 q58) f59 f60 f64)) sz) t ∧ ((z55, z56, z57) = (sp_EM_holdsApart x62 q55 q56 f57 a0 a1 p2))) (va_A ((mo_w ad ck x0 (nI x16) (nI x18) (nI x19) x20 (nI x21) (nI x22) x23 x24 x25 (nI x26) x27 (nI x28) (nI x29) (nI x30) (nI x33) x45 (nI x46) (nI x52) (nI x53) (nI x61) (nI x62) (nI x63) (nI x65) x66 f1 f2 f3 (bN 3 q4) (bN 7 q5) (bN 7 q6) (bN 4 q7) f8 (bN 2 q9) (bH q10) f11 (b2 m12_0 m12_1) (b2 m13_0 m13_1) (b2 m14_0 m14_1) (b2m m15_0 m15_1) f17 (bA 159 q31) f32 f34 f35 f36 f37 (bN 7 q38) f39 f40 f41 (b2 m42_0 m42_1) f43 f44 f47 f48 f49 f50 f51 (bN 13 q54) (bN 120 q55) (bN 120 q56) f57 (bN 120 q58) f59 f60 f64)) sz)) 0 0 (va_A ((mo_w ad ck x0 (nI x16) (nI x18) (nI x19) x20 (nI x21) (nI x22) x23 x24 x25 (nI x26) x27 (nI x28) (nI x29) (nI x30) (nI x33) x45 (nI x46) (nI x52) (nI x53) (nI x61) (nI x62) (nI x63) (nI x65) x66 f1 f2 f3 (bN 3 q4) (bN 7 q5) (bN 7 q6) (bN 4 q7) f8 (bN 2 q9) (bH q10) f11 (b2 m12_0 m12_1) (b2 m13_0 m13_1) (b2 m14_0 m14_1) (b2m m15_0 m15_1) f17 (bA 159 q31) f32 f34 f35 f36 f37 (bN 7 q38) f39 f40 f41 (b2 m42_0 m42_1) f43 f44 f47 f48 f49 f50 f51 (bN 13 q54) (bN 120 q55) (bN 120 q56) f57 (bN 120 q58) f59 f60 f64)) sz) := by
  refine Met.ofW (cc := cX9_holdsApart) (maxL := 4) (ret := none) (by decide) rfl ?_
  intro p e s m args below meth c s₁ B hml hv
  obtain ⟨rfl, rfl, hP, hK, hD0⟩ := hv
  have hx := B.exec
  have hb := B.bytes
  have hr := B.returns
  have hts := atoms_spec (ws := vs_EM_holdsApart) B.pre
  have v_1 := hts (.fieldLink RX9 121 "ClockReachModel" "later" "[I") (List.mem_cons_of_mem _ vm_305)
  have v_2 := hts (.fieldLink RX9 432 "ClockReachModel" "gaps" "I") (List.mem_cons_of_mem _ vm_306)
  have v_3 := hts (.fieldLink RX9 124 "ClockReachModel" "sooner" "[I") (List.mem_cons_of_mem _ vm_307)
  have v_4 := hts (.fieldLink RX9 127 "ClockReachModel" "gap" "[I") (List.mem_cons_of_mem _ vm_308)
  have hown : s.vm.findClass RX9 = some m.cls := findClass_of_methodNamed B.named
  have hlocks := B.notSynchronized
  have hiX9 : ∀ w ∈ wsX90, w ∈ vs_EM_holdsApart := fun _ h => List.mem_cons_of_mem _ (vmi_L h)
  have hD := hD0.self (sz := s.heap.size)
  generalize hAe : va_A ((mo_w ad ck x0 (nI x16) (nI x18) (nI x19) x20 (nI x21) (nI x22) x23 x24 x25 (nI x26) x27 (nI x28) (nI x29) (nI x30) (nI x33) x45 (nI x46) (nI x52) (nI x53) (nI x61) (nI x62) (nI x63) (nI x65) x66 f1 f2 f3 (bN 3 q4) (bN 7 q5) (bN 7 q6) (bN 4 q7) f8 (bN 2 q9) (bH q10) f11 (b2 m12_0 m12_1) (b2 m13_0 m13_1) (b2 m14_0 m14_1) (b2m m15_0 m15_1) f17 (bA 159 q31) f32 f34 f35 f36 f37 (bN 7 q38) f39 f40 f41 (b2 m42_0 m42_1) f43 f44 f47 f48 f49 f50 f51 (bN 13 q54) (bN 120 q55) (bN 120 q56) f57 (bN 120 q58) f59 f60 f64)) s.heap.size = A at hD ⊢
  have hA : ∀ q : Nat, s.heap.size ≤ q → A q := fun q h => by rw [← hAe]; exact Or.inr h
  have hS : va_S A s.heap s.heap [] := va_S.rf
  have hl := lv_entry ([.ref (ad 0), .int (nI a0), .int (nI a1), .int p2]) (n := 4) (Nat.le_of_ble_eq_true rfl)
  rw [lg_entry_eq]
  generalize (lg_sl ([.ref (ad 0), .int (nI a0), .int (nI a1), .int p2]) ++ List.replicate (4 - (lg_sl ([.ref (ad 0), .int (nI a0), .int (nI a1), .int p2])).length) Slot.unset).toArray = ls at hl ⊢
  have hl : lv_has ls 4 [(0, .ref (ad 0)), (1, .int (nI a0)), (2, .int (nI a1)), (3, .int p2)] := hl
  obtain ⟨RR, hRR⟩ : ∃ x, x = (sp_EM_holdsApart x62 q55 q56 f57 a0 a1 p2) := ⟨_, rfl⟩
  have hsp := hRR
  refine lv_aload_n hx hb dX9_holdsApart_0 rfl (lv_at hl 0 rfl) ?_
  refine va_get (D := (dC, dI)) (ci := 9) (v := .ref (ad 55)) (C := RX9) (T := TX9) (N := 67) hx hb hts hiX9 hown hK hP 0 rfl rfl 55 (by decide) v_1 (fun _ h9 => h9) rfl dX9_holdsApart_1 ?_
  refine lv_aload_n hx hb dX9_holdsApart_4 rfl (lv_at hl 0 rfl) ?_
  refine va_get (D := (dC, dI)) (ci := 9) (v := .int (nI x62)) (C := RX9) (T := TX9) (N := 67) hx hb hts hiX9 hown hK hP 0 rfl rfl 62 (by decide) v_2 (fun _ h9 => h9) rfl dX9_holdsApart_5 ?_
  refine lv_iload_n hx hb dX9_holdsApart_8 rfl (lv_at hl 1 rfl) ?_
  refine va_iast hx hb hK hP hD hS 36 35 rfl rfl (vp_in_nI (n := x62) (Nat.lt_of_le_of_lt hx62 (Nat.le_of_ble_eq_true rfl)) (Nat.le_of_ble_eq_true rfl)) dX9_holdsApart_9 (fun H locs hP hD hS => ?_)
  obtain ⟨q_1, eq_1, kq_1, oq_1, xq_1⟩ := bN_upx 120 q55 (n := x62) (v := a0) (Nat.lt_of_le_of_lt hx62 (Nat.le_of_ble_eq_true rfl)) ha0
  have hP : va_P (dC, dI) vwCl (mo_w ad ck x0 (nI x16) (nI x18) (nI x19) x20 (nI x21) (nI x22) x23 x24 x25 (nI x26) x27 (nI x28) (nI x29) (nI x30) (nI x33) x45 (nI x46) (nI x52) (nI x53) (nI x61) (nI x62) (nI x63) (nI x65) x66 f1 f2 f3 (bN 3 q4) (bN 7 q5) (bN 7 q6) (bN 4 q7) f8 (bN 2 q9) (bH q10) f11 (b2 m12_0 m12_1) (b2 m13_0 m13_1) (b2 m14_0 m14_1) (b2m m15_0 m15_1) f17 (bA 159 q31) f32 f34 f35 f36 f37 (bN 7 q38) f39 f40 f41 (b2 m42_0 m42_1) f43 f44 f47 f48 f49 f50 f51 (bN 13 q54) (bN 120 q_1) (bN 120 q56) f57 (bN 120 q58) f59 f60 f64) H := by rw [← eq_1]; exact hP
  have hD : va_D A (mo_w ad ck x0 (nI x16) (nI x18) (nI x19) x20 (nI x21) (nI x22) x23 x24 x25 (nI x26) x27 (nI x28) (nI x29) (nI x30) (nI x33) x45 (nI x46) (nI x52) (nI x53) (nI x61) (nI x62) (nI x63) (nI x65) x66 f1 f2 f3 (bN 3 q4) (bN 7 q5) (bN 7 q6) (bN 4 q7) f8 (bN 2 q9) (bH q10) f11 (b2 m12_0 m12_1) (b2 m13_0 m13_1) (b2 m14_0 m14_1) (b2m m15_0 m15_1) f17 (bA 159 q31) f32 f34 f35 f36 f37 (bN 7 q38) f39 f40 f41 (b2 m42_0 m42_1) f43 f44 f47 f48 f49 f50 f51 (bN 13 q54) (bN 120 q_1) (bN 120 q56) f57 (bN 120 q58) f59 f60 f64) := by rw [← eq_1]; exact hD
  replace hsp := hsp.trans (slet_eq xq_1)
  refine lv_aload_n hx hb dX9_holdsApart_10 rfl (lv_at hl 0 rfl) ?_
  refine va_get (D := (dC, dI)) (ci := 9) (v := .ref (ad 56)) (C := RX9) (T := TX9) (N := 67) hx hb hts hiX9 hown hK hP 0 rfl rfl 56 (by decide) v_3 (fun _ h9 => h9) rfl dX9_holdsApart_11 ?_
  refine lv_aload_n hx hb dX9_holdsApart_14 rfl (lv_at hl 0 rfl) ?_
  refine va_get (D := (dC, dI)) (ci := 9) (v := .int (nI x62)) (C := RX9) (T := TX9) (N := 67) hx hb hts hiX9 hown hK hP 0 rfl rfl 62 (by decide) v_2 (fun _ h9 => h9) rfl dX9_holdsApart_15 ?_
  refine lv_iload_n hx hb dX9_holdsApart_18 rfl (lv_at hl 2 rfl) ?_
  refine va_iast hx hb hK hP hD hS 37 36 rfl rfl (vp_in_nI (n := x62) (Nat.lt_of_le_of_lt hx62 (Nat.le_of_ble_eq_true rfl)) (Nat.le_of_ble_eq_true rfl)) dX9_holdsApart_19 (fun H locs hP hD hS => ?_)
  obtain ⟨q_2, eq_2, kq_2, oq_2, xq_2⟩ := bN_upx 120 q56 (n := x62) (v := a1) (Nat.lt_of_le_of_lt hx62 (Nat.le_of_ble_eq_true rfl)) ha1
  have hP : va_P (dC, dI) vwCl (mo_w ad ck x0 (nI x16) (nI x18) (nI x19) x20 (nI x21) (nI x22) x23 x24 x25 (nI x26) x27 (nI x28) (nI x29) (nI x30) (nI x33) x45 (nI x46) (nI x52) (nI x53) (nI x61) (nI x62) (nI x63) (nI x65) x66 f1 f2 f3 (bN 3 q4) (bN 7 q5) (bN 7 q6) (bN 4 q7) f8 (bN 2 q9) (bH q10) f11 (b2 m12_0 m12_1) (b2 m13_0 m13_1) (b2 m14_0 m14_1) (b2m m15_0 m15_1) f17 (bA 159 q31) f32 f34 f35 f36 f37 (bN 7 q38) f39 f40 f41 (b2 m42_0 m42_1) f43 f44 f47 f48 f49 f50 f51 (bN 13 q54) (bN 120 q_1) (bN 120 q_2) f57 (bN 120 q58) f59 f60 f64) H := by rw [← eq_2]; exact hP
  have hD : va_D A (mo_w ad ck x0 (nI x16) (nI x18) (nI x19) x20 (nI x21) (nI x22) x23 x24 x25 (nI x26) x27 (nI x28) (nI x29) (nI x30) (nI x33) x45 (nI x46) (nI x52) (nI x53) (nI x61) (nI x62) (nI x63) (nI x65) x66 f1 f2 f3 (bN 3 q4) (bN 7 q5) (bN 7 q6) (bN 4 q7) f8 (bN 2 q9) (bH q10) f11 (b2 m12_0 m12_1) (b2 m13_0 m13_1) (b2 m14_0 m14_1) (b2m m15_0 m15_1) f17 (bA 159 q31) f32 f34 f35 f36 f37 (bN 7 q38) f39 f40 f41 (b2 m42_0 m42_1) f43 f44 f47 f48 f49 f50 f51 (bN 13 q54) (bN 120 q_1) (bN 120 q_2) f57 (bN 120 q58) f59 f60 f64) := by rw [← eq_2]; exact hD
  replace hsp := hsp.trans (slet_eq xq_2)
  refine lv_aload_n hx hb dX9_holdsApart_20 rfl (lv_at hl 0 rfl) ?_
  refine va_get (D := (dC, dI)) (ci := 9) (v := .ref (ad 57)) (C := RX9) (T := TX9) (N := 67) hx hb hts hiX9 hown hK hP 0 rfl rfl 57 (by decide) v_4 (fun _ h9 => h9) rfl dX9_holdsApart_21 ?_
  refine lv_aload_n hx hb dX9_holdsApart_24 rfl (lv_at hl 0 rfl) ?_
  refine va_get (D := (dC, dI)) (ci := 9) (v := .int (nI x62)) (C := RX9) (T := TX9) (N := 67) hx hb hts hiX9 hown hK hP 0 rfl rfl 62 (by decide) v_2 (fun _ h9 => h9) rfl dX9_holdsApart_25 ?_
  refine lv_iload_n hx hb dX9_holdsApart_28 rfl (lv_at hl 3 rfl) ?_
  refine va_iast hx hb hK hP hD hS 38 37 rfl rfl (vp_in_nI (n := x62) (Nat.lt_of_le_of_lt hx62 (Nat.le_of_ble_eq_true rfl)) (Nat.le_of_ble_eq_true rfl)) dX9_holdsApart_29 (fun H locs hP hD hS => ?_)
  obtain ⟨f_3, ef_3, xf_3⟩ := up_x f57 (n := x62) p2 (Nat.lt_of_le_of_lt hx62 (Nat.le_of_ble_eq_true rfl))
  have hP : va_P (dC, dI) vwCl (mo_w ad ck x0 (nI x16) (nI x18) (nI x19) x20 (nI x21) (nI x22) x23 x24 x25 (nI x26) x27 (nI x28) (nI x29) (nI x30) (nI x33) x45 (nI x46) (nI x52) (nI x53) (nI x61) (nI x62) (nI x63) (nI x65) x66 f1 f2 f3 (bN 3 q4) (bN 7 q5) (bN 7 q6) (bN 4 q7) f8 (bN 2 q9) (bH q10) f11 (b2 m12_0 m12_1) (b2 m13_0 m13_1) (b2 m14_0 m14_1) (b2m m15_0 m15_1) f17 (bA 159 q31) f32 f34 f35 f36 f37 (bN 7 q38) f39 f40 f41 (b2 m42_0 m42_1) f43 f44 f47 f48 f49 f50 f51 (bN 13 q54) (bN 120 q_1) (bN 120 q_2) f_3 (bN 120 q58) f59 f60 f64) H := by rw [← ef_3]; exact hP
  have hD : va_D A (mo_w ad ck x0 (nI x16) (nI x18) (nI x19) x20 (nI x21) (nI x22) x23 x24 x25 (nI x26) x27 (nI x28) (nI x29) (nI x30) (nI x33) x45 (nI x46) (nI x52) (nI x53) (nI x61) (nI x62) (nI x63) (nI x65) x66 f1 f2 f3 (bN 3 q4) (bN 7 q5) (bN 7 q6) (bN 4 q7) f8 (bN 2 q9) (bH q10) f11 (b2 m12_0 m12_1) (b2 m13_0 m13_1) (b2 m14_0 m14_1) (b2m m15_0 m15_1) f17 (bA 159 q31) f32 f34 f35 f36 f37 (bN 7 q38) f39 f40 f41 (b2 m42_0 m42_1) f43 f44 f47 f48 f49 f50 f51 (bN 13 q54) (bN 120 q_1) (bN 120 q_2) f_3 (bN 120 q58) f59 f60 f64) := by rw [← ef_3]; exact hD
  replace hsp := hsp.trans (slet_eq xf_3)
  refine lv_aload_n hx hb dX9_holdsApart_30 rfl (lv_at hl 0 rfl) ?_
  refine lv_dup hx hb dX9_holdsApart_31 rfl ?_
  refine va_get (D := (dC, dI)) (ci := 9) (v := .int (nI x62)) (C := RX9) (T := TX9) (N := 67) hx hb hts hiX9 hown hK hP 0 rfl rfl 62 (by decide) v_2 (fun _ h9 => h9) rfl dX9_holdsApart_32 ?_
  refine lv_iconst (v := 1) hx hb dX9_holdsApart_35 (by decide) ?_
  refine lv_iadd hx hb dX9_holdsApart_36 ?_
  refine lv_topi (fun y_4 ey_4 => ?_)
  obtain rfl : y_4 = (nI (x62 + 1)) := ey_4.trans (nI_add x62 1)
  refine va_put (D := (dC, dI)) (ci := 9) (v := .int (nI (x62 + 1))) (ty := .int) (C := RX9) (T := TX9) (N := 67) hx hb hts hiX9 tyX9 tyX9_ok nmX9 hown hK hP hD hS 0 rfl rfl 62 (by decide) v_2 (fun _ h9 => h9) rfl (by decide +kernel) rfl rfl (Nat.le_of_ble_eq_true rfl) dX9_holdsApart_37 (fun H locs hP hD hS => ?_)
  have hP : va_P (dC, dI) vwCl (mo_w ad ck x0 (nI x16) (nI x18) (nI x19) x20 (nI x21) (nI x22) x23 x24 x25 (nI x26) x27 (nI x28) (nI x29) (nI x30) (nI x33) x45 (nI x46) (nI x52) (nI x53) (nI x61) (nI (x62 + 1)) (nI x63) (nI x65) x66 f1 f2 f3 (bN 3 q4) (bN 7 q5) (bN 7 q6) (bN 4 q7) f8 (bN 2 q9) (bH q10) f11 (b2 m12_0 m12_1) (b2 m13_0 m13_1) (b2 m14_0 m14_1) (b2m m15_0 m15_1) f17 (bA 159 q31) f32 f34 f35 f36 f37 (bN 7 q38) f39 f40 f41 (b2 m42_0 m42_1) f43 f44 f47 f48 f49 f50 f51 (bN 13 q54) (bN 120 q_1) (bN 120 q_2) f_3 (bN 120 q58) f59 f60 f64) H := hP
  have hD : va_D A (mo_w ad ck x0 (nI x16) (nI x18) (nI x19) x20 (nI x21) (nI x22) x23 x24 x25 (nI x26) x27 (nI x28) (nI x29) (nI x30) (nI x33) x45 (nI x46) (nI x52) (nI x53) (nI x61) (nI (x62 + 1)) (nI x63) (nI x65) x66 f1 f2 f3 (bN 3 q4) (bN 7 q5) (bN 7 q6) (bN 4 q7) f8 (bN 2 q9) (bH q10) f11 (b2 m12_0 m12_1) (b2 m13_0 m13_1) (b2 m14_0 m14_1) (b2m m15_0 m15_1) f17 (bA 159 q31) f32 f34 f35 f36 f37 (bN 7 q38) f39 f40 f41 (b2 m42_0 m42_1) f43 f44 f47 f48 f49 f50 f51 (bN 13 q54) (bN 120 q_1) (bN 120 q_2) f_3 (bN 120 q58) f59 f60 f64) := hD
  exact W.vret hx hb hr (fun t ht hW => ⟨⟨(), rfl, trivial, ⟨q_1, q_2, f_3, ⟨by rw [ht]; exact hP, va_K.moved hW.alike hK, hD⟩, (hsp.symm.trans hRR)⟩⟩, hS.F ht⟩) hS.2.2 dX9_holdsApart_40
theorem dX9_layConditions_0 : decode cX9_layConditions 0 = .ok (.iconst 0, 1) := by decide +kernel
theorem dX9_layConditions_1 : decode cX9_layConditions 1 = .ok (.istore_n 3, 1) := by decide +kernel
theorem dX9_layConditions_2 : decode cX9_layConditions 2 = .ok (.iload_n 3, 1) := by decide +kernel
theorem dX9_layConditions_3 : decode cX9_layConditions 3 = .ok (.aload_n 0, 1) := by decide +kernel
theorem dX9_layConditions_4 : decode cX9_layConditions 4 = .ok (.iload_n 1, 1) := by decide +kernel
theorem dX9_layConditions_5 : decode cX9_layConditions 5 = .ok (.invokevirtual 295, 3) := by decide +kernel
theorem dX9_layConditions_8 : decode cX9_layConditions 8 = .ok (.if_icmp .ge 164, 3) := by decide +kernel
theorem dX9_layConditions_11 : decode cX9_layConditions 11 = .ok (.aload_n 0, 1) := by decide +kernel
theorem dX9_layConditions_12 : decode cX9_layConditions 12 = .ok (.iload_n 1, 1) := by decide +kernel
theorem dX9_layConditions_13 : decode cX9_layConditions 13 = .ok (.iload_n 3, 1) := by decide +kernel
theorem dX9_layConditions_14 : decode cX9_layConditions 14 = .ok (.invokevirtual 311, 3) := by decide +kernel
theorem dX9_layConditions_17 : decode cX9_layConditions 17 = .ok (.istore 4, 2) := by decide +kernel
theorem dX9_layConditions_19 : decode cX9_layConditions 19 = .ok (.aload_n 0, 1) := by decide +kernel
theorem dX9_layConditions_20 : decode cX9_layConditions 20 = .ok (.getfield 130, 3) := by decide +kernel
theorem dX9_layConditions_23 : decode cX9_layConditions 23 = .ok (.aload_n 0, 1) := by decide +kernel
theorem dX9_layConditions_24 : decode cX9_layConditions 24 = .ok (.getfield 34, 3) := by decide +kernel
theorem dX9_layConditions_27 : decode cX9_layConditions 27 = .ok (.iload 4, 2) := by decide +kernel
theorem dX9_layConditions_29 : decode cX9_layConditions 29 = .ok (.iaload, 1) := by decide +kernel
theorem dX9_layConditions_30 : decode cX9_layConditions 30 = .ok (.iaload, 1) := by decide +kernel
theorem dX9_layConditions_31 : decode cX9_layConditions 31 = .ok (.istore 5, 2) := by decide +kernel
theorem dX9_layConditions_33 : decode cX9_layConditions 33 = .ok (.iload 5, 2) := by decide +kernel
theorem dX9_layConditions_35 : decode cX9_layConditions 35 = .ok (.iload_n 2, 1) := by decide +kernel
theorem dX9_layConditions_36 : decode cX9_layConditions 36 = .ok (.if_icmp .ne 42, 3) := by decide +kernel
theorem dX9_layConditions_39 : decode cX9_layConditions 39 = .ok (.aload_n 0, 1) := by decide +kernel
theorem dX9_layConditions_40 : decode cX9_layConditions 40 = .ok (.aload_n 0, 1) := by decide +kernel
theorem dX9_layConditions_41 : decode cX9_layConditions 41 = .ok (.getfield 435, 3) := by decide +kernel
theorem dX9_layConditions_44 : decode cX9_layConditions 44 = .ok (.ifCond .ne 23, 3) := by decide +kernel
theorem dX9_layConditions_47 : decode cX9_layConditions 47 = .ok (.aload_n 0, 1) := by decide +kernel
theorem dX9_layConditions_48 : decode cX9_layConditions 48 = .ok (.getfield 37, 3) := by decide +kernel
theorem dX9_layConditions_51 : decode cX9_layConditions 51 = .ok (.iload 4, 2) := by decide +kernel
theorem dX9_layConditions_53 : decode cX9_layConditions 53 = .ok (.iaload, 1) := by decide +kernel
theorem dX9_layConditions_54 : decode cX9_layConditions 54 = .ok (.ifCond .ne 17, 3) := by decide +kernel
theorem dX9_layConditions_57 : decode cX9_layConditions 57 = .ok (.aload_n 0, 1) := by decide +kernel
theorem dX9_layConditions_58 : decode cX9_layConditions 58 = .ok (.getfield 40, 3) := by decide +kernel
theorem dX9_layConditions_61 : decode cX9_layConditions 61 = .ok (.iload 4, 2) := by decide +kernel
theorem dX9_layConditions_63 : decode cX9_layConditions 63 = .ok (.iaload, 1) := by decide +kernel
theorem dX9_layConditions_64 : decode cX9_layConditions 64 = .ok (.ifCond .ne 7, 3) := by decide +kernel
theorem dX9_layConditions_67 : decode cX9_layConditions 67 = .ok (.iconst 1, 1) := by decide +kernel
theorem dX9_layConditions_68 : decode cX9_layConditions 68 = .ok (.goto 4, 3) := by decide +kernel
theorem dX9_layConditions_71 : decode cX9_layConditions 71 = .ok (.iconst 0, 1) := by decide +kernel
theorem dX9_layConditions_72 : decode cX9_layConditions 72 = .ok (.putfield 435, 3) := by decide +kernel
theorem dX9_layConditions_75 : decode cX9_layConditions 75 = .ok (.goto 91, 3) := by decide +kernel
theorem dX9_layConditions_78 : decode cX9_layConditions 78 = .ok (.aload_n 0, 1) := by decide +kernel
theorem dX9_layConditions_79 : decode cX9_layConditions 79 = .ok (.getfield 37, 3) := by decide +kernel
theorem dX9_layConditions_82 : decode cX9_layConditions 82 = .ok (.iload 4, 2) := by decide +kernel
theorem dX9_layConditions_84 : decode cX9_layConditions 84 = .ok (.iaload, 1) := by decide +kernel
theorem dX9_layConditions_85 : decode cX9_layConditions 85 = .ok (.iconst 2, 1) := by decide +kernel
theorem dX9_layConditions_86 : decode cX9_layConditions 86 = .ok (.if_icmp .gt 35, 3) := by decide +kernel
theorem dX9_layConditions_89 : decode cX9_layConditions 89 = .ok (.aload_n 0, 1) := by decide +kernel
theorem dX9_layConditions_90 : decode cX9_layConditions 90 = .ok (.iload_n 2, 1) := by decide +kernel
theorem dX9_layConditions_91 : decode cX9_layConditions 91 = .ok (.iload 5, 2) := by decide +kernel
theorem dX9_layConditions_93 : decode cX9_layConditions 93 = .ok (.iconst 2, 1) := by decide +kernel
theorem dX9_layConditions_94 : decode cX9_layConditions 94 = .ok (.aload_n 0, 1) := by decide +kernel
theorem dX9_layConditions_95 : decode cX9_layConditions 95 = .ok (.getfield 40, 3) := by decide +kernel
theorem dX9_layConditions_98 : decode cX9_layConditions 98 = .ok (.iload 4, 2) := by decide +kernel
theorem dX9_layConditions_100 : decode cX9_layConditions 100 = .ok (.iaload, 1) := by decide +kernel
theorem dX9_layConditions_101 : decode cX9_layConditions 101 = .ok (.imul, 1) := by decide +kernel
theorem dX9_layConditions_102 : decode cX9_layConditions 102 = .ok (.aload_n 0, 1) := by decide +kernel
theorem dX9_layConditions_103 : decode cX9_layConditions 103 = .ok (.getfield 37, 3) := by decide +kernel
theorem dX9_layConditions_106 : decode cX9_layConditions 106 = .ok (.iload 4, 2) := by decide +kernel
theorem dX9_layConditions_108 : decode cX9_layConditions 108 = .ok (.iaload, 1) := by decide +kernel
theorem dX9_layConditions_109 : decode cX9_layConditions 109 = .ok (.ifCond .ne 7, 3) := by decide +kernel
theorem dX9_layConditions_112 : decode cX9_layConditions 112 = .ok (.iconst 0, 1) := by decide +kernel
theorem dX9_layConditions_113 : decode cX9_layConditions 113 = .ok (.goto 4, 3) := by decide +kernel
theorem dX9_layConditions_116 : decode cX9_layConditions 116 = .ok (.iconst 1, 1) := by decide +kernel
theorem dX9_layConditions_117 : decode cX9_layConditions 117 = .ok (.iadd, 1) := by decide +kernel
theorem dX9_layConditions_118 : decode cX9_layConditions 118 = .ok (.invokevirtual 438, 3) := by decide +kernel
theorem dX9_layConditions_121 : decode cX9_layConditions 121 = .ok (.aload_n 0, 1) := by decide +kernel
theorem dX9_layConditions_122 : decode cX9_layConditions 122 = .ok (.getfield 37, 3) := by decide +kernel
theorem dX9_layConditions_125 : decode cX9_layConditions 125 = .ok (.iload 4, 2) := by decide +kernel
theorem dX9_layConditions_127 : decode cX9_layConditions 127 = .ok (.iaload, 1) := by decide +kernel
theorem dX9_layConditions_128 : decode cX9_layConditions 128 = .ok (.iconst 2, 1) := by decide +kernel
theorem dX9_layConditions_129 : decode cX9_layConditions 129 = .ok (.if_icmp .lt 37, 3) := by decide +kernel
theorem dX9_layConditions_132 : decode cX9_layConditions 132 = .ok (.aload_n 0, 1) := by decide +kernel
theorem dX9_layConditions_133 : decode cX9_layConditions 133 = .ok (.iload 5, 2) := by decide +kernel
theorem dX9_layConditions_135 : decode cX9_layConditions 135 = .ok (.iload_n 2, 1) := by decide +kernel
theorem dX9_layConditions_136 : decode cX9_layConditions 136 = .ok (.bipush (-2), 2) := by decide +kernel
theorem dX9_layConditions_138 : decode cX9_layConditions 138 = .ok (.aload_n 0, 1) := by decide +kernel
theorem dX9_layConditions_139 : decode cX9_layConditions 139 = .ok (.getfield 40, 3) := by decide +kernel
theorem dX9_layConditions_142 : decode cX9_layConditions 142 = .ok (.iload 4, 2) := by decide +kernel
theorem dX9_layConditions_144 : decode cX9_layConditions 144 = .ok (.iaload, 1) := by decide +kernel
theorem dX9_layConditions_145 : decode cX9_layConditions 145 = .ok (.imul, 1) := by decide +kernel
theorem dX9_layConditions_146 : decode cX9_layConditions 146 = .ok (.aload_n 0, 1) := by decide +kernel
theorem dX9_layConditions_147 : decode cX9_layConditions 147 = .ok (.getfield 37, 3) := by decide +kernel
theorem dX9_layConditions_150 : decode cX9_layConditions 150 = .ok (.iload 4, 2) := by decide +kernel
theorem dX9_layConditions_152 : decode cX9_layConditions 152 = .ok (.iaload, 1) := by decide +kernel
theorem dX9_layConditions_153 : decode cX9_layConditions 153 = .ok (.iconst 4, 1) := by decide +kernel
theorem dX9_layConditions_154 : decode cX9_layConditions 154 = .ok (.if_icmp .ne 7, 3) := by decide +kernel
theorem dX9_layConditions_157 : decode cX9_layConditions 157 = .ok (.iconst 0, 1) := by decide +kernel
theorem dX9_layConditions_158 : decode cX9_layConditions 158 = .ok (.goto 4, 3) := by decide +kernel
theorem dX9_layConditions_161 : decode cX9_layConditions 161 = .ok (.iconst 1, 1) := by decide +kernel
theorem dX9_layConditions_162 : decode cX9_layConditions 162 = .ok (.iadd, 1) := by decide +kernel
theorem dX9_layConditions_163 : decode cX9_layConditions 163 = .ok (.invokevirtual 438, 3) := by decide +kernel
theorem dX9_layConditions_166 : decode cX9_layConditions 166 = .ok (.iinc 3 1, 3) := by decide +kernel
theorem dX9_layConditions_169 : decode cX9_layConditions 169 = .ok (.goto (-167), 3) := by decide +kernel
theorem dX9_layConditions_172 : decode cX9_layConditions 172 = .ok (.return_, 1) := by decide +kernel
abbrev vs_EM_layConditions_e : List Cond := .code yX9_layConditions cX9_layConditions 6 none :: VM
theorem g_EM_layConditions_e_EM_manyOf_e : GoodIn vs_EM_layConditions_e (wsV RX9 295 RX9 yX9_manyOf vs_EM_manyOf_e) := gm_V vm_152 vm_153 vm_154 vm_19 vm_155
theorem g_EM_layConditions_e_EM_spot_e : GoodIn vs_EM_layConditions_e (wsV RX9 311 RX9 yX9_spot vs_EM_spot_e) := gm_V vm_160 vm_161 vm_162 vm_19 vm_163
theorem g_EM_layConditions_e_EM_holdsApart : GoodIn vs_EM_layConditions_e (wsV RX9 438 RX9 yX9_holdsApart vs_EM_holdsApart) := gm_V vm_309 vm_310 vm_311 vm_19 vm_312
noncomputable def sp_EM_layConditions_e_L1 (x16 : Nat) (q7 : Nat → Nat) (q9 : Nat → Nat) (q10 : Nat → Nat) (f11 : Nat → Int32) (m13_0 : Nat) (m13_1 : Nat) (m14_0 : Nat) (m14_1 : Nat) (q58 : Nat → Nat) (a0 : Nat) (a1 : Nat) : ((Nat → Nat) × (Nat → Nat) × (Nat → Int32) × Nat × Nat × Nat) → ((Nat → Nat) × (Nat → Nat) × (Nat → Int32) × Nat × Nat × Nat) ⊕ ((Nat → Nat) × (Nat → Nat) × (Nat → Int32) × Nat × Nat) := fun (g_8, g_9, g_10, g_11, g_12, g_13) => (slet (sp_EM_manyOf_e x16 q7 m13_0 m13_1 m14_0 m14_1 a0) (fun u_22 => (if u_22 = 0 then (Sum.inr (g_8, g_9, g_10, g_11, g_12)) else (slet (u_22 - 1) (fun n_23 => (if n_23 ≤ g_13 then (Sum.inr (g_8, g_9, g_10, g_11, g_12)) else (slet (min (q9 (80 * x16 + 4 * a0 + g_13)) 2) (fun u_27 => (slet (min (q58 u_27) 120) (fun u_29 => (if u_29 = a1 then (if g_12 = 0 then (slet (min (q10 (80 * x16 + 4 * a0 + g_13)) (if (80 * x16 + 4 * a0 + g_13) % 80 < 56 then 4 else 1)) (fun u_85 => (if u_85 = 0 then (slet (f11 (80 * x16 + 4 * a0 + g_13)) (fun y_87 => (if (y_87 : Int32) = 0 then (Sum.inl (g_8, g_9, g_10, g_11, 1, (g_13 + 1))) else (Sum.inl (g_8, g_9, g_10, g_11, 0, (g_13 + 1)))))) else (Sum.inl (g_8, g_9, g_10, g_11, 0, (g_13 + 1)))))) else (Sum.inl (g_8, g_9, g_10, g_11, 1, (g_13 + 1)))) else (slet (min (q10 (80 * x16 + 4 * a0 + g_13)) (if (80 * x16 + 4 * a0 + g_13) % 80 < 56 then 4 else 1)) (fun u_32 => (if 2 < u_32 then (slet (f11 (80 * x16 + 4 * a0 + g_13)) (fun y_37 => (slet (((-2) : Int32) * y_37) (fun y_38 => (if u_32 = 4 then (slet ((y_38 : Int32) + 0) (fun y_47 => (slet (sp_EM_holdsApart g_11 g_8 g_9 g_10 u_29 a1 y_47) (fun (z55_49, z56_50, z57_51) => (Sum.inl (z55_49, z56_50, z57_51, (g_11 + 1), g_12, (g_13 + 1))))))) else (slet ((y_38 : Int32) + 1) (fun y_42 => (slet (sp_EM_holdsApart g_11 g_8 g_9 g_10 u_29 a1 y_42) (fun (z55_44, z56_45, z57_46) => (Sum.inl (z55_44, z56_45, z57_46, (g_11 + 1), g_12, (g_13 + 1)))))))))))) else (slet (f11 (80 * x16 + 4 * a0 + g_13)) (fun y_52 => (slet ((2 : Int32) * y_52) (fun y_53 => (if u_32 = 0 then (slet ((y_53 : Int32) + 0) (fun y_75 => (slet (sp_EM_holdsApart g_11 g_8 g_9 g_10 a1 u_29 y_75) (fun (z55_77, z56_78, z57_79) => (Sum.inl (z55_77, z56_78, z57_79, (g_11 + 1), g_12, (g_13 + 1))))))) else (slet ((y_53 : Int32) + 1) (fun y_57 => (slet (sp_EM_holdsApart g_11 g_8 g_9 g_10 a1 u_29 y_57) (fun (z55_59, z56_60, z57_61) => (if u_32 < 2 then (Sum.inl (z55_59, z56_60, z57_61, (g_11 + 1), g_12, (g_13 + 1))) else (slet (f11 (80 * x16 + 4 * a0 + g_13)) (fun y_65 => (slet (((-2) : Int32) * y_65) (fun y_66 => (slet ((y_66 : Int32) + 1) (fun y_70 => (slet (sp_EM_holdsApart (g_11 + 1) z55_59 z56_60 z57_61 u_29 a1 y_70) (fun (z55_72, z56_73, z57_74) => (Sum.inl (z55_72, z56_73, z57_74, ((g_11 + 1) + 1), g_12, (g_13 + 1)))))))))))))))))))))))))))))))))))
noncomputable def sp_EM_layConditions_e (x16 : Nat) (x62 : Nat) (x63 : Nat) (q7 : Nat → Nat) (q9 : Nat → Nat) (q10 : Nat → Nat) (f11 : Nat → Int32) (m13_0 : Nat) (m13_1 : Nat) (m14_0 : Nat) (m14_1 : Nat) (q55 : Nat → Nat) (q56 : Nat → Nat) (f57 : Nat → Int32) (q58 : Nat → Nat) (a0 : Nat) (a1 : Nat) : (Nat → Nat) × (Nat → Nat) × (Nat → Int32) × Nat × Nat := (itrv (α := (Nat → Nat) × (Nat → Nat) × (Nat → Int32) × Nat × Nat × Nat) (β := ((Nat → Nat) × (Nat → Nat) × (Nat → Int32) × Nat × Nat)) default (sp_EM_layConditions_e_L1 x16 q7 q9 q10 f11 m13_0 m13_1 m14_0 m14_1 q58 a0 a1) (q55, q56, f57, x62, x63, 0))
set_option maxHeartbeats 4000000 in
set_option maxRecDepth 100000 in
theorem c_EM_layConditions_e (l : Launch) (dC : Nat → ClassId) (dI : Nat → Nat → Nat) (sz : Nat) (ad : Nat → Nat) (ck : Nat → ClassId) (x0 : Int32) (x16 : Nat) (x18 : Nat) (x19 : Nat) (x20 : Int32) (x21 : Nat) (x22 : Nat) (x23 : Int32) (x24 : Int32) (x25 : Int32) (x26 : Nat) (x27 : Int32) (x28 : Nat) (x29 : Nat) (x30 : Nat) (x33 : Nat) (x45 : Int32) (x46 : Nat) (x52 : Nat) (x53 : Nat) (x61 : Nat) (x62 : Nat) (x63 : Nat) (x65 : Nat) (x66 : Int32) (f1 : Nat → Int32) (f2 : Nat → Int32) (f3 : Nat → Int32) (q4 : Nat → Nat) (q5 : Nat → Nat) (q6 : Nat → Nat) (q7 : Nat → Nat) (f8 : Nat → Int32) (q9 : Nat → Nat) (q10 : Nat → Nat) (f11 : Nat → Int32) (m12_0 m12_1 : Nat) (m13_0 m13_1 : Nat) (m14_0 m14_1 : Nat) (m15_0 m15_1 : Nat) (f17 : Nat → Int32) (q31 : Nat → Nat) (f32 : Nat → Int32) (f34 : Nat → Int32) (f35 : Nat → Int32) (f36 : Nat → Int32) (f37 : Nat → Int32) (q38 : Nat → Nat) (f39 : Nat → Int32) (f40 : Nat → Int32) (f41 : Nat → Int32) (m42_0 m42_1 : Nat) (f43 : Nat → Int32) (f44 : Nat → Int32) (f47 : Nat → Int32) (f48 : Nat → Int32) (f49 : Nat → Int32) (f50 : Nat → Int32) (f51 : Nat → Int32) (q54 : Nat → Nat) (q55 : Nat → Nat) (q56 : Nat → Nat) (f57 : Nat → Int32) (q58 : Nat → Nat) (f59 : Nat → Int32) (f60 : Nat → Int32) (f64 : Nat → Int32) (a0 : Nat) (a1 : Nat) (hx16 : x16 ≤ 1) (hx18 : x18 ≤ 900) (hx19 : x19 ≤ 900) (hx21 : x21 ≤ 900) (hx22 : x22 ≤ 4) (hx26 : x26 ≤ 6) (hx28 : x28 ≤ 1) (hx29 : x29 ≤ 1) (hx30 : x30 ≤ 1) (hx33 : x33 ≤ 20) (hx46 : x46 ≤ 5) (hx52 : x52 ≤ 2400) (hx53 : x53 ≤ 119) (hx61 : x61 ≤ 119) (hx62 : x62 ≤ 1990) (hx63 : x63 ≤ 1) (hx65 : x65 ≤ 7) (hm12_0 : m12_0 ≤ 3) (hm12_1 : m12_1 ≤ 3) (hm13_0 : m13_0 ≤ 8) (hm13_1 : m13_1 ≤ 8) (hm14_0 : m14_0 ≤ 14) (hm14_1 : m14_1 ≤ 14) (hm15_0 : m15_0 ≤ 8) (hm15_1 : m15_1 ≤ 8) (hm42_0 : m42_0 ≤ 120) (hm42_1 : m42_1 ≤ 400) (ha0 : a0 ≤ 13) (ha1 : a1 ≤ 119) : Met l yX9_layConditions vs_EM_layConditions_e ({ frames := 3, cells := 0, slots := 0, locals := 64 }) (va_Pc [.ref (ad 0), .int (nI a0), .int (nI a1)] (pu_B (dC, dI) (mo_w ad ck x0 (nI x16) (nI x18) (nI x19) x20 (nI x21) (nI x22) x23 x24 x25 (nI x26) x27 (nI x28) (nI x29) (nI x30) (nI x33) x45 (nI x46) (nI x52) (nI x53) (nI x61) (nI x62) (nI x63) (nI x65) x66 f1 f2 f3 (bN 3 q4) (bN 7 q5) (bN 7 q6) (bN 4 q7) f8 (bN 2 q9) (bH q10) f11 (b2 m12_0 m12_1) (b2 m13_0 m13_1) (b2 m14_0 m14_1) (b2m m15_0 m15_1) f17 (bA 159 q31) f32 f34 f35 f36 f37 (bN 7 q38) f39 f40 f41 (b2 m42_0 m42_1) f43 f44 f47 f48 f49 f50 f51 (bN 13 q54) (bN 120 q55) (bN 120 q56) f57 (bN 120 q58) f59 f60 f64) (mo_t ck) sz)) (va_Qv (fun (_ : Unit) => True) (fun _ t => ∃ (z55 : Nat → Nat) (z56 : Nat → Nat) (z57 : Nat → Int32) (z62 : Nat) (z63 : Nat), pu_E (dC, dI) (mo_w ad ck x0 (nI x16) (nI x18) (nI x19) x20 (nI x21) (nI x22) x23 x24 x25 (nI x26) x27 (nI x28) (nI x29) (nI x30) (nI x33) x45 (nI x46) (nI x52) (nI x53) (nI x61) (nI z62) (nI z63) (nI x65) x66 f1 f2 f3 (bN 3 q4) (bN 7 q5) (bN 7 q6) (bN 4 q7) f8 (bN 2 q9) (bH q10) f11 (b2 m12_0 m12_1) (b2 m13_0 m13_1) (b2 m14_0 m14_1) (b2m m15_0 m15_1) f17 (bA 159 q31) f32 f34 f35 f36 f37 (bN 7 q38) f39 f40 f41 (b2 m42_0 m42_1) f43 f44 f47 f48 f49 f50 f51 (bN 13 q54) (bN 120 z55) (bN 120 z56) z57 (bN 120 q58) f59 f60 f64) (mo_t ck) (va_A ((mo_w ad ck x0 (nI x16) (nI x18) (nI x19) x20 (nI x21) (nI x22) x23 x24 x25 (nI x26) x27 (nI x28) (nI x29) (nI x30) (nI x33) x45 (nI x46) (nI x52) (nI x53) (nI x61) (nI x62) (nI x63) (nI x65) x66 f1 f2 f3 (bN 3 q4) (bN 7 q5) (bN 7 q6) (bN 4 q7) f8 (bN 2 q9) (bH q10) f11 (b2 m12_0 m12_1) (b2 m13_0 m13_1) (b2 m14_0 m14_1) (b2m m15_0 m15_1) f17 (bA 159 q31) f32 f34 f35 f36 f37 (bN 7 q38) f39 f40 f41 (b2 m42_0 m42_1) f43 f44 f47 f48 f49 f50 f51 (bN 13 q54) (bN 120 q55) (bN 120 q56) f57 (bN 120 q58) f59 f60 f64)) sz) t ∧ (z62 ≤ 2000) ∧ (z63 ≤ 1) ∧ (z62 ≤ x62 + 8) ∧ ((z55, z56, z57, z62, z63) = (sp_EM_layConditions_e x16 x62 x63 q7 q9 q10 f11 m13_0 m13_1 m14_0 m14_1 q55 q56 f57 q58 a0 a1))) (va_A ((mo_w ad ck x0 (nI x16) (nI x18) (nI x19) x20 (nI x21) (nI x22) x23 x24 x25 (nI x26) x27 (nI x28) (nI x29) (nI x30) (nI x33) x45 (nI x46) (nI x52) (nI x53) (nI x61) (nI x62) (nI x63) (nI x65) x66 f1 f2 f3 (bN 3 q4) (bN 7 q5) (bN 7 q6) (bN 4 q7) f8 (bN 2 q9) (bH q10) f11 (b2 m12_0 m12_1) (b2 m13_0 m13_1) (b2 m14_0 m14_1) (b2m m15_0 m15_1) f17 (bA 159 q31) f32 f34 f35 f36 f37 (bN 7 q38) f39 f40 f41 (b2 m42_0 m42_1) f43 f44 f47 f48 f49 f50 f51 (bN 13 q54) (bN 120 q55) (bN 120 q56) f57 (bN 120 q58) f59 f60 f64)) sz)) 0 0 (va_A ((mo_w ad ck x0 (nI x16) (nI x18) (nI x19) x20 (nI x21) (nI x22) x23 x24 x25 (nI x26) x27 (nI x28) (nI x29) (nI x30) (nI x33) x45 (nI x46) (nI x52) (nI x53) (nI x61) (nI x62) (nI x63) (nI x65) x66 f1 f2 f3 (bN 3 q4) (bN 7 q5) (bN 7 q6) (bN 4 q7) f8 (bN 2 q9) (bH q10) f11 (b2 m12_0 m12_1) (b2 m13_0 m13_1) (b2 m14_0 m14_1) (b2m m15_0 m15_1) f17 (bA 159 q31) f32 f34 f35 f36 f37 (bN 7 q38) f39 f40 f41 (b2 m42_0 m42_1) f43 f44 f47 f48 f49 f50 f51 (bN 13 q54) (bN 120 q55) (bN 120 q56) f57 (bN 120 q58) f59 f60 f64)) sz) := by
  refine Met.ofW (cc := cX9_layConditions) (maxL := 6) (ret := none) (by decide) rfl ?_
  intro p e s m args below meth c s₁ B hml hv
  obtain ⟨rfl, rfl, hP, hK, hD0⟩ := hv
  have hx := B.exec
  have hb := B.bytes
  have hr := B.returns
  have hts := atoms_spec (ws := vs_EM_layConditions_e) B.pre
  have v_10 := hts (.fieldLink RX9 130 "ClockReachModel" "setAt" "[I") (List.mem_cons_of_mem _ vm_313)
  have v_11 := hts (.fieldLink RX9 34 "ClockReachModel" "ofClock" "[I") (List.mem_cons_of_mem _ vm_98)
  have v_12 := hts (.fieldLink RX9 37 "ClockReachModel" "how" "[I") (List.mem_cons_of_mem _ vm_99)
  have v_13 := hts (.fieldLink RX9 40 "ClockReachModel" "limit" "[I") (List.mem_cons_of_mem _ vm_100)
  have v_18 := hts (.fieldLink RX9 435 "ClockReachModel" "isBroken" "Z") (List.mem_cons_of_mem _ vm_314)
  have hown : s.vm.findClass RX9 = some m.cls := findClass_of_methodNamed B.named
  have hlocks := B.notSynchronized
  have hiX9 : ∀ w ∈ wsX90, w ∈ vs_EM_layConditions_e := fun _ h => List.mem_cons_of_mem _ (vmi_L h)
  have hD := hD0.self (sz := s.heap.size)
  generalize hAe : va_A ((mo_w ad ck x0 (nI x16) (nI x18) (nI x19) x20 (nI x21) (nI x22) x23 x24 x25 (nI x26) x27 (nI x28) (nI x29) (nI x30) (nI x33) x45 (nI x46) (nI x52) (nI x53) (nI x61) (nI x62) (nI x63) (nI x65) x66 f1 f2 f3 (bN 3 q4) (bN 7 q5) (bN 7 q6) (bN 4 q7) f8 (bN 2 q9) (bH q10) f11 (b2 m12_0 m12_1) (b2 m13_0 m13_1) (b2 m14_0 m14_1) (b2m m15_0 m15_1) f17 (bA 159 q31) f32 f34 f35 f36 f37 (bN 7 q38) f39 f40 f41 (b2 m42_0 m42_1) f43 f44 f47 f48 f49 f50 f51 (bN 13 q54) (bN 120 q55) (bN 120 q56) f57 (bN 120 q58) f59 f60 f64)) s.heap.size = A at hD ⊢
  have hA : ∀ q : Nat, s.heap.size ≤ q → A q := fun q h => by rw [← hAe]; exact Or.inr h
  have hS : va_S A s.heap s.heap [] := va_S.rf
  have hl := lv_entry ([.ref (ad 0), .int (nI a0), .int (nI a1)]) (n := 6) (Nat.le_of_ble_eq_true rfl)
  rw [lg_entry_eq]
  generalize (lg_sl ([.ref (ad 0), .int (nI a0), .int (nI a1)]) ++ List.replicate (6 - (lg_sl ([.ref (ad 0), .int (nI a0), .int (nI a1)])).length) Slot.unset).toArray = ls at hl ⊢
  have hl : lv_has ls 6 [(0, .ref (ad 0)), (1, .int (nI a0)), (2, .int (nI a1))] := hl
  obtain ⟨RR, hRR⟩ : ∃ x, x = (sp_EM_layConditions_e x16 x62 x63 q7 q9 q10 f11 m13_0 m13_1 m14_0 m14_1 q55 q56 f57 q58 a0 a1) := ⟨_, rfl⟩
  have hsp := hRR
  refine lv_iconst (v := 0) hx hb dX9_layConditions_0 (by decide) ?_
  refine lv_istore_n (lv' := [(3, .int 0), (0, .ref (ad 0)), (1, .int (nI a0)), (2, .int (nI a1))]) hx hb dX9_layConditions_1 rfl hl (by decide) rfl (fun ls hl => ?_)
  obtain ⟨lf_16, dlf_16, hlf_16, hsp⟩ := itr_ex hsp
  delta sp_EM_layConditions_e_L1 at hlf_16
  refine pu_while (fun nn H locs ls => ∃ (g_8 : Nat → Nat) (g_9 : Nat → Nat) (g_10 : Nat → Int32) (g_11 : Nat) (g_12 : Nat) (g_13 : Nat), nn = 4 - g_13 ∧ g_11 ≤ 1998 ∧ g_12 ≤ 1 ∧ g_13 ≤ 4 ∧ g_11 ≤ x62 + 2 * g_13 ∧ RR = itrv dlf_16 lf_16 (g_8, g_9, g_10, g_11, g_12, g_13) ∧ va_P (dC, dI) vwCl (mo_w ad ck x0 (nI x16) (nI x18) (nI x19) x20 (nI x21) (nI x22) x23 x24 x25 (nI x26) x27 (nI x28) (nI x29) (nI x30) (nI x33) x45 (nI x46) (nI x52) (nI x53) (nI x61) (nI g_11) (nI g_12) (nI x65) x66 f1 f2 f3 (bN 3 q4) (bN 7 q5) (bN 7 q6) (bN 4 q7) f8 (bN 2 q9) (bH q10) f11 (b2 m12_0 m12_1) (b2 m13_0 m13_1) (b2 m14_0 m14_1) (b2m m15_0 m15_1) f17 (bA 159 q31) f32 f34 f35 f36 f37 (bN 7 q38) f39 f40 f41 (b2 m42_0 m42_1) f43 f44 f47 f48 f49 f50 f51 (bN 13 q54) (bN 120 g_8) (bN 120 g_9) g_10 (bN 120 q58) f59 f60 f64) H ∧ va_D A (mo_w ad ck x0 (nI x16) (nI x18) (nI x19) x20 (nI x21) (nI x22) x23 x24 x25 (nI x26) x27 (nI x28) (nI x29) (nI x30) (nI x33) x45 (nI x46) (nI x52) (nI x53) (nI x61) (nI g_11) (nI g_12) (nI x65) x66 f1 f2 f3 (bN 3 q4) (bN 7 q5) (bN 7 q6) (bN 4 q7) f8 (bN 2 q9) (bH q10) f11 (b2 m12_0 m12_1) (b2 m13_0 m13_1) (b2 m14_0 m14_1) (b2m m15_0 m15_1) f17 (bA 159 q31) f32 f34 f35 f36 f37 (bN 7 q38) f39 f40 f41 (b2 m42_0 m42_1) f43 f44 f47 f48 f49 f50 f51 (bN 13 q54) (bN 120 g_8) (bN 120 g_9) g_10 (bN 120 q58) f59 f60 f64) ∧ va_S A s.heap H locs ∧ lv_has ls 6 [(0, .ref (ad 0)), (1, .int (nI a0)), (2, .int (nI a1)), (3, .int (nI g_13))]) 2 ?_ _ _ _ _ ⟨q55, q56, f57, x62, x63, 0, rfl, (Nat.le_trans hx62 (Nat.le_of_ble_eq_true rfl)), hx63, (Nat.le_of_ble_eq_true rfl), by omega, hsp, hP, hD, hS, lv_sub hl [1, 2, 3, 0] rfl⟩
  rintro nn ih_15 H locs ls ⟨g_8, g_9, g_10, g_11, g_12, g_13, rfl, hg_11, hg_12, hg_13, he_14, he_18, hP, hD, hS, hl⟩
  obtain ⟨S_17, hsp, hin_19, hout_20⟩ := itr_step hlf_16 he_18
  refine lv_iload_n hx hb dX9_layConditions_2 rfl (lv_at hl 3 rfl) ?_
  refine lv_aload_n hx hb dX9_layConditions_3 rfl (lv_at hl 0 rfl) ?_
  refine lv_iload_n hx hb dX9_layConditions_4 rfl (lv_at hl 1 rfl) ?_
  refine va_calli (va_runV (As := [.int (nI a0)]) (rest := [.int (nI g_13)]) ⟨hx, hb, hml, hown, hts⟩ (c_EM_manyOf_e l dC dI _ ad ck x0 x16 x18 x19 x20 x21 x22 x23 x24 x25 x26 x27 x28 x29 x30 x33 x45 x46 x52 x53 x61 g_11 g_12 x65 x66 f1 f2 f3 q4 q5 q6 q7 f8 q9 q10 f11 m12_0 m12_1 m13_0 m13_1 m14_0 m14_1 m15_0 m15_1 f17 q31 f32 f34 f35 f36 f37 q38 f39 f40 f41 m42_0 m42_1 f43 f44 f47 f48 f49 f50 f51 q54 g_8 g_9 g_10 q58 f59 f60 f64 a0 hx16 hx18 hx19 hx21 hx22 hx26 hx28 hx29 hx30 hx33 hx46 hx52 hx53 hx61 (Nat.le_trans hg_11 (Nat.le_of_ble_eq_true rfl)) hg_12 hx65 hm12_0 hm12_1 hm13_0 hm13_1 hm14_0 hm14_1 hm15_0 hm15_1 hm42_0 hm42_1 ha0) (cwV 1 hts g_EM_layConditions_e_EM_manyOf_e rfl rfl rfl (by decide +kernel) ⟨Nat.le_of_ble_eq_true rfl, Nat.le_of_ble_eq_true rfl⟩) ⟨pu_bl, va_recv hK hP (ci := 9) (q0 := 0) rfl rfl, pu_in hP hK hD⟩ rfl rfl hl.1 rfl (lv_room (Nat.le_of_ble_eq_true rfl)) dX9_layConditions_5 ⟨Nat.le_of_ble_eq_true rfl, Nat.le_of_ble_eq_true rfl⟩) hS (fun q _ h => pu_fr hS hA q h) (pu_fr hS hA) (fun r_21 u t H1 locs ht hvm hw hB hz1 hk1 hS => ?_)
  have hP := pu_keep hP hk1
  clear hk1 hz1 ht hvm
  generalize H1 = H at hP hS ⊢
  obtain ⟨u_22, hu_22, mu_22, iu_22⟩ := hw
  replace hsp := hsp.trans (slet_eq iu_22)
  rcases mI_get u_22 with ⟨zn_23, wn_23⟩ | ⟨n_23, zn_23, wn_23⟩
  · obtain rfl : r_21 = -1 := mu_22.trans wn_23
    replace hsp := hsp.trans (if_pos zn_23)
    refine lv_icmp_ge (tgt := 172) hx hb dX9_layConditions_8 (by decide) (fun _ => ?_) (fun z => absurd (pu_negle (n := g_13) (by omega) (by decide)) z)
    have hsp := hout_20 _ hsp
    exact W.vret hx hb hr (fun t ht hW => ⟨⟨(), rfl, trivial, ⟨g_8, g_9, g_10, g_11, g_12, ⟨by rw [ht]; exact hP, va_K.moved hW.alike hK, hD⟩, (Nat.le_trans hg_11 (Nat.le_of_ble_eq_true rfl)), hg_12, by omega, (hsp.symm.trans hRR)⟩⟩, hS.F ht⟩) hS.2.2 dX9_layConditions_172
  · obtain rfl : r_21 = nI n_23 := mu_22.trans wn_23
    have hn_23 : n_23 ≤ 4 := by omega
    replace hsp := hsp.trans (if_neg (by omega))
    replace hsp := hsp.trans (slet_eq (by omega : n_23 = u_22 - 1))
    refine lv_icmp_ge (tgt := 172) hx hb dX9_layConditions_8 (by decide) (fun c_24 => ?_) (fun c_24 => ?_)
    · have c_24 : n_23 ≤ g_13 := (nI_leI (a := n_23) (b := g_13) (Nat.lt_of_le_of_lt hn_23 (Nat.le_of_ble_eq_true rfl)) (Nat.lt_of_le_of_lt hg_13 (Nat.le_of_ble_eq_true rfl))).mp c_24
      replace hsp := hsp.trans (if_pos c_24)
      have hsp := hout_20 _ hsp
      exact W.vret hx hb hr (fun t ht hW => ⟨⟨(), rfl, trivial, ⟨g_8, g_9, g_10, g_11, g_12, ⟨by rw [ht]; exact hP, va_K.moved hW.alike hK, hD⟩, (Nat.le_trans hg_11 (Nat.le_of_ble_eq_true rfl)), hg_12, by omega, (hsp.symm.trans hRR)⟩⟩, hS.F ht⟩) hS.2.2 dX9_layConditions_172
    · have c_24 : ¬ n_23 ≤ g_13 := fun z => c_24 ((nI_leI (a := n_23) (b := g_13) (Nat.lt_of_le_of_lt hn_23 (Nat.le_of_ble_eq_true rfl)) (Nat.lt_of_le_of_lt hg_13 (Nat.le_of_ble_eq_true rfl))).mpr z)
      replace hsp := hsp.trans (if_neg c_24)
      refine lv_aload_n hx hb dX9_layConditions_11 rfl (lv_at hl 0 rfl) ?_
      refine lv_iload_n hx hb dX9_layConditions_12 rfl (lv_at hl 1 rfl) ?_
      refine lv_iload_n hx hb dX9_layConditions_13 rfl (lv_at hl 3 rfl) ?_
      refine va_calli (va_runV (As := [.int (nI a0), .int (nI g_13)]) (rest := []) ⟨hx, hb, hml, hown, hts⟩ (c_EM_spot_e l dC dI _ ad ck x0 x16 x18 x19 x20 x21 x22 x23 x24 x25 x26 x27 x28 x29 x30 x33 x45 x46 x52 x53 x61 g_11 g_12 x65 x66 f1 f2 f3 q4 q5 q6 q7 f8 q9 q10 f11 m12_0 m12_1 m13_0 m13_1 m14_0 m14_1 m15_0 m15_1 f17 q31 f32 f34 f35 f36 f37 q38 f39 f40 f41 m42_0 m42_1 f43 f44 f47 f48 f49 f50 f51 q54 g_8 g_9 g_10 q58 f59 f60 f64 a0 g_13 hx16 hx18 hx19 hx21 hx22 hx26 hx28 hx29 hx30 hx33 hx46 hx52 hx53 hx61 (Nat.le_trans hg_11 (Nat.le_of_ble_eq_true rfl)) hg_12 hx65 hm12_0 hm12_1 hm13_0 hm13_1 hm14_0 hm14_1 hm15_0 hm15_1 hm42_0 hm42_1 ha0 (by omega)) (cwV 2 hts g_EM_layConditions_e_EM_spot_e rfl rfl rfl (by decide +kernel) ⟨Nat.le_of_ble_eq_true rfl, Nat.le_of_ble_eq_true rfl⟩) ⟨pu_bl, va_recv hK hP (ci := 9) (q0 := 0) rfl rfl, pu_in hP hK hD⟩ rfl rfl hl.1 rfl (lv_room (Nat.le_of_ble_eq_true rfl)) dX9_layConditions_14 ⟨Nat.le_of_ble_eq_true rfl, Nat.le_of_ble_eq_true rfl⟩) hS (fun q _ h => pu_fr hS hA q h) (pu_fr hS hA) (fun r_25 u t H1 locs ht hvm hw hB hz1 hk1 hS => ?_)
      have hP := pu_keep hP hk1
      clear hk1 hz1 ht hvm
      generalize H1 = H at hP hS ⊢
      obtain rfl : r_25 = nI (80 * x16 + 4 * a0 + g_13) := hw
      refine lv_istore (lv' := [(4, .int (nI (80 * x16 + 4 * a0 + g_13))), (0, .ref (ad 0)), (1, .int (nI a0)), (2, .int (nI a1)), (3, .int (nI g_13))]) hx hb dX9_layConditions_17 hl (by decide) rfl (fun ls hl => ?_)
      refine lv_aload_n hx hb dX9_layConditions_19 rfl (lv_at hl 1 rfl) ?_
      refine va_get (D := (dC, dI)) (ci := 9) (v := .ref (ad 58)) (C := RX9) (T := TX9) (N := 67) hx hb hts hiX9 hown hK hP 0 rfl rfl 58 (by decide) v_10 (fun _ h9 => h9) rfl dX9_layConditions_20 ?_
      refine lv_aload_n hx hb dX9_layConditions_23 rfl (lv_at hl 1 rfl) ?_
      refine va_get (D := (dC, dI)) (ci := 9) (v := .ref (ad 9)) (C := RX9) (T := TX9) (N := 67) hx hb hts hiX9 hown hK hP 0 rfl rfl 9 (by decide) v_11 (fun _ h9 => h9) rfl dX9_layConditions_24 ?_
      refine lv_iload hx hb dX9_layConditions_27 (lv_at hl 0 rfl) ?_
      refine va_iald hx hb hK hP 9 8 rfl rfl (vp_in_nI (n := (80 * x16 + 4 * a0 + g_13)) (by omega) (Nat.le_of_ble_eq_true rfl)) dX9_layConditions_29 ?_
      refine lv_topi (fun y_26 ey_26 => ?_)
      obtain ⟨u_27, hu_27, qu_27, xu_27⟩ := bN_getx 2 q9 (n := (80 * x16 + 4 * a0 + g_13)) (by first | omega | exact Nat.lt_trans (zx16 (by omega) (by omega) (by omega)) (Nat.le_of_ble_eq_true rfl) | exact Nat.lt_trans (zy16 (by omega) (by omega)) (Nat.le_of_ble_eq_true rfl) | exact Nat.lt_trans (zx25 (by omega) (by omega) (by omega)) (Nat.le_of_ble_eq_true rfl) | exact Nat.lt_trans (zy25 (by omega) (by omega)) (Nat.le_of_ble_eq_true rfl))
      obtain rfl : y_26 = nI u_27 := ey_26.trans qu_27
      replace hsp := hsp.trans (slet_eq xu_27)
      refine va_iald hx hb hK hP 39 38 rfl rfl (vp_in_nI (n := u_27) (Nat.lt_of_le_of_lt hu_27 (Nat.le_of_ble_eq_true rfl)) (Nat.le_of_ble_eq_true rfl)) dX9_layConditions_30 ?_
      refine lv_topi (fun y_28 ey_28 => ?_)
      obtain ⟨u_29, hu_29, qu_29, xu_29⟩ := bN_getx 120 q58 (n := u_27) (Nat.lt_of_le_of_lt hu_27 (Nat.le_of_ble_eq_true rfl))
      obtain rfl : y_28 = nI u_29 := ey_28.trans qu_29
      replace hsp := hsp.trans (slet_eq xu_29)
      refine lv_istore (lv' := [(5, .int (nI u_29)), (4, .int (nI (80 * x16 + 4 * a0 + g_13))), (0, .ref (ad 0)), (1, .int (nI a0)), (2, .int (nI a1)), (3, .int (nI g_13))]) hx hb dX9_layConditions_31 hl (by decide) rfl (fun ls hl => ?_)
      refine lv_iload hx hb dX9_layConditions_33 (lv_at hl 0 rfl) ?_
      refine lv_iload_n hx hb dX9_layConditions_35 rfl (lv_at hl 4 rfl) ?_
      refine lv_icmp_ne (tgt := 78) hx hb dX9_layConditions_36 (by decide) (fun c_30 => ?_) (fun c_30 => ?_)
      · have c_30 : ¬ u_29 = a1 := fun z => c_30 ((nI_eq (a := u_29) (b := a1) (Nat.lt_of_le_of_lt hu_29 (Nat.le_of_ble_eq_true rfl)) (Nat.lt_of_le_of_lt ha1 (Nat.le_of_ble_eq_true rfl))).mpr z)
        replace hsp := hsp.trans (if_neg c_30)
        refine lv_aload_n hx hb dX9_layConditions_78 rfl (lv_at hl 2 rfl) ?_
        refine va_get (D := (dC, dI)) (ci := 9) (v := .ref (ad 10)) (C := RX9) (T := TX9) (N := 67) hx hb hts hiX9 hown hK hP 0 rfl rfl 10 (by decide) v_12 (fun _ h9 => h9) rfl dX9_layConditions_79 ?_
        refine lv_iload hx hb dX9_layConditions_82 (lv_at hl 1 rfl) ?_
        refine va_iald hx hb hK hP 10 9 rfl rfl (vp_in_nI (n := (80 * x16 + 4 * a0 + g_13)) (by omega) (Nat.le_of_ble_eq_true rfl)) dX9_layConditions_84 ?_
        refine lv_topi (fun y_31 ey_31 => ?_)
        obtain ⟨u_32, hu_32, qu_32, xu_32⟩ := bH_getx q10 (i := (80 * x16 + 4 * a0 + g_13)) (by omega)
        obtain rfl : y_31 = nI u_32 := ey_31.trans qu_32
        replace hsp := hsp.trans (slet_eq xu_32)
        refine lv_iconst (v := 2) hx hb dX9_layConditions_85 (by decide) ?_
        refine lv_icmp_gt (tgt := 121) hx hb dX9_layConditions_86 (by decide) (fun c_33 => ?_) (fun c_33 => ?_)
        · have c_33 : 2 < u_32 := (nI_ltI (a := 2) (b := u_32) (Nat.le_of_ble_eq_true rfl) (by omega)).mp c_33
          replace hsp := hsp.trans (if_pos c_33)
          refine lv_aload_n hx hb dX9_layConditions_121 rfl (lv_at hl 2 rfl) ?_
          refine va_get (D := (dC, dI)) (ci := 9) (v := .ref (ad 10)) (C := RX9) (T := TX9) (N := 67) hx hb hts hiX9 hown hK hP 0 rfl rfl 10 (by decide) v_12 (fun _ h9 => h9) rfl dX9_layConditions_122 ?_
          refine lv_iload hx hb dX9_layConditions_125 (lv_at hl 1 rfl) ?_
          refine va_iald hx hb hK hP 10 9 rfl rfl (vp_in_nI (n := (80 * x16 + 4 * a0 + g_13)) (by omega) (Nat.le_of_ble_eq_true rfl)) dX9_layConditions_127 ?_
          refine lv_topi (fun y_34 ey_34 => ?_)
          obtain rfl : y_34 = nI u_32 := ey_34.trans qu_32
          refine lv_iconst (v := 2) hx hb dX9_layConditions_128 (by decide) ?_
          refine lv_icmp_lt (tgt := 166) hx hb dX9_layConditions_129 (by decide) (fun c_36 => ?_) (fun c_36 => ?_)
          · have c_36 : u_32 < 2 := (nI_ltI (a := u_32) (b := 2) (by omega) (Nat.le_of_ble_eq_true rfl)).mp c_36
            exfalso
            omega
          · have c_36 : ¬ u_32 < 2 := fun z => c_36 ((nI_ltI (a := u_32) (b := 2) (by omega) (Nat.le_of_ble_eq_true rfl)).mpr z)
            refine lv_aload_n hx hb dX9_layConditions_132 rfl (lv_at hl 2 rfl) ?_
            refine lv_iload hx hb dX9_layConditions_133 (lv_at hl 0 rfl) ?_
            refine lv_iload_n hx hb dX9_layConditions_135 rfl (lv_at hl 4 rfl) ?_
            refine lv_bipush (v := (-2)) hx hb dX9_layConditions_136 (by decide) ?_
            refine lv_aload_n hx hb dX9_layConditions_138 rfl (lv_at hl 2 rfl) ?_
            refine va_get (D := (dC, dI)) (ci := 9) (v := .ref (ad 11)) (C := RX9) (T := TX9) (N := 67) hx hb hts hiX9 hown hK hP 0 rfl rfl 11 (by decide) v_13 (fun _ h9 => h9) rfl dX9_layConditions_139 ?_
            refine lv_iload hx hb dX9_layConditions_142 (lv_at hl 1 rfl) ?_
            refine va_iald hx hb hK hP 11 10 rfl rfl (vp_in_nI (n := (80 * x16 + 4 * a0 + g_13)) (by omega) (Nat.le_of_ble_eq_true rfl)) dX9_layConditions_144 ?_
            refine lv_topi (fun y_37 ey_37 => ?_)
            have ey_37 : y_37 = f11 (80 * x16 + 4 * a0 + g_13) := ey_37.trans (congrArg f11 (nI_clamp (n := (80 * x16 + 4 * a0 + g_13)) (by first | omega | exact Nat.lt_trans (zx16 (by omega) (by omega) (by omega)) (Nat.le_of_ble_eq_true rfl) | exact Nat.lt_trans (zy16 (by omega) (by omega)) (Nat.le_of_ble_eq_true rfl) | exact Nat.lt_trans (zx25 (by omega) (by omega) (by omega)) (Nat.le_of_ble_eq_true rfl) | exact Nat.lt_trans (zy25 (by omega) (by omega)) (Nat.le_of_ble_eq_true rfl))))
            replace hsp := hsp.trans (slet_eq ey_37)
            refine lv_imul hx hb dX9_layConditions_145 ?_
            refine lv_topi (fun y_38 ey_38 => ?_)
            replace hsp := hsp.trans (slet_eq ey_38)
            refine lv_aload_n hx hb dX9_layConditions_146 rfl (lv_at hl 2 rfl) ?_
            refine va_get (D := (dC, dI)) (ci := 9) (v := .ref (ad 10)) (C := RX9) (T := TX9) (N := 67) hx hb hts hiX9 hown hK hP 0 rfl rfl 10 (by decide) v_12 (fun _ h9 => h9) rfl dX9_layConditions_147 ?_
            refine lv_iload hx hb dX9_layConditions_150 (lv_at hl 1 rfl) ?_
            refine va_iald hx hb hK hP 10 9 rfl rfl (vp_in_nI (n := (80 * x16 + 4 * a0 + g_13)) (by omega) (Nat.le_of_ble_eq_true rfl)) dX9_layConditions_152 ?_
            refine lv_topi (fun y_39 ey_39 => ?_)
            obtain rfl : y_39 = nI u_32 := ey_39.trans qu_32
            refine lv_iconst (v := 4) hx hb dX9_layConditions_153 (by decide) ?_
            refine lv_icmp_ne (tgt := 161) hx hb dX9_layConditions_154 (by decide) (fun c_41 => ?_) (fun c_41 => ?_)
            · have c_41 : ¬ u_32 = 4 := fun z => c_41 ((nI_eq (a := u_32) (b := 4) (by omega) (Nat.le_of_ble_eq_true rfl)).mpr z)
              replace hsp := hsp.trans (if_neg c_41)
              refine lv_iconst (v := 1) hx hb dX9_layConditions_161 (by decide) ?_
              refine lv_iadd hx hb dX9_layConditions_162 ?_
              refine lv_topi (fun y_42 ey_42 => ?_)
              replace hsp := hsp.trans (slet_eq ey_42)
              have hFc := pu_free hD hS hA
              refine va_callv (va_runV (As := [.int (nI u_29), .int (nI a1), .int y_42]) (rest := []) ⟨hx, hb, hml, hown, hts⟩ (c_EM_holdsApart l dC dI _ ad ck x0 x16 x18 x19 x20 x21 x22 x23 x24 x25 x26 x27 x28 x29 x30 x33 x45 x46 x52 x53 x61 g_11 g_12 x65 x66 f1 f2 f3 q4 q5 q6 q7 f8 q9 q10 f11 m12_0 m12_1 m13_0 m13_1 m14_0 m14_1 m15_0 m15_1 f17 q31 f32 f34 f35 f36 f37 q38 f39 f40 f41 m42_0 m42_1 f43 f44 f47 f48 f49 f50 f51 q54 g_8 g_9 g_10 q58 f59 f60 f64 u_29 a1 y_42 hx16 hx18 hx19 hx21 hx22 hx26 hx28 hx29 hx30 hx33 hx46 hx52 hx53 hx61 (Nat.le_trans hg_11 (Nat.le_of_ble_eq_true rfl)) hg_12 hx65 hm12_0 hm12_1 hm13_0 hm13_1 hm14_0 hm14_1 hm15_0 hm15_1 hm42_0 hm42_1 hu_29 (Nat.le_trans ha1 (Nat.le_of_ble_eq_true rfl))) (cwV 3 hts g_EM_layConditions_e_EM_holdsApart rfl rfl rfl (by decide +kernel) ⟨Nat.le_of_ble_eq_true rfl, Nat.le_of_ble_eq_true rfl⟩) ⟨pu_bl, va_recv hK hP (ci := 9) (q0 := 0) rfl rfl, pu_in hP hK hD⟩ rfl rfl hl.1 rfl (lv_room (Nat.le_of_ble_eq_true rfl)) dX9_layConditions_163 ⟨Nat.le_of_ble_eq_true rfl, Nat.le_of_ble_eq_true rfl⟩) hS (fun q _ h => hFc q h) hFc (fun u t H1 locs ht hvm hw hB hz1 hk1 hS => ?_)
              obtain ⟨z55_44, z56_45, z57_46, ⟨hP1, -, hD1⟩, xr_43_0⟩ := hB
              rw [ht] at hP1
              have hP := hP1
              have hD := pu_all hFc hD1
              clear hP1 hD1 hFc
              clear hk1 hz1 ht hvm
              generalize H1 = H at hP hS ⊢
              replace hsp := hsp.trans (slet_eq xr_43_0)
              refine lv_iinc (v := (nI (g_13 + 1))) (lv' := [(3, .int (nI (g_13 + 1))), (5, .int (nI u_29)), (4, .int (nI (80 * x16 + 4 * a0 + g_13))), (0, .ref (ad 0)), (1, .int (nI a0)), (2, .int (nI a1))]) hx hb dX9_layConditions_166 hl (k := 5) rfl (nI_1 _) (by decide) rfl (fun ls hl => ?_)
              refine lv_goto (tgt := 2) hx hb dX9_layConditions_169 (by decide) ?_
              exact ih_15 (4 - (g_13 + 1)) (by omega) _ _ _ ⟨z55_44, z56_45, z57_46, (g_11 + 1), g_12, (g_13 + 1), rfl, (by omega), hg_12, (by omega), by omega, hin_19 _ hsp, hP, hD, hS, lv_sub hl [3, 4, 5, 0] rfl⟩
            · have c_41 : u_32 = 4 := (nI_eq (a := u_32) (b := 4) (by omega) (Nat.le_of_ble_eq_true rfl)).mp c_41
              replace hsp := hsp.trans (if_pos c_41)
              refine lv_iconst (v := 0) hx hb dX9_layConditions_157 (by decide) ?_
              refine lv_goto (tgt := 162) hx hb dX9_layConditions_158 (by decide) ?_
              refine lv_iadd hx hb dX9_layConditions_162 ?_
              refine lv_topi (fun y_47 ey_47 => ?_)
              replace hsp := hsp.trans (slet_eq ey_47)
              have hFc := pu_free hD hS hA
              refine va_callv (va_runV (As := [.int (nI u_29), .int (nI a1), .int y_47]) (rest := []) ⟨hx, hb, hml, hown, hts⟩ (c_EM_holdsApart l dC dI _ ad ck x0 x16 x18 x19 x20 x21 x22 x23 x24 x25 x26 x27 x28 x29 x30 x33 x45 x46 x52 x53 x61 g_11 g_12 x65 x66 f1 f2 f3 q4 q5 q6 q7 f8 q9 q10 f11 m12_0 m12_1 m13_0 m13_1 m14_0 m14_1 m15_0 m15_1 f17 q31 f32 f34 f35 f36 f37 q38 f39 f40 f41 m42_0 m42_1 f43 f44 f47 f48 f49 f50 f51 q54 g_8 g_9 g_10 q58 f59 f60 f64 u_29 a1 y_47 hx16 hx18 hx19 hx21 hx22 hx26 hx28 hx29 hx30 hx33 hx46 hx52 hx53 hx61 (Nat.le_trans hg_11 (Nat.le_of_ble_eq_true rfl)) hg_12 hx65 hm12_0 hm12_1 hm13_0 hm13_1 hm14_0 hm14_1 hm15_0 hm15_1 hm42_0 hm42_1 hu_29 (Nat.le_trans ha1 (Nat.le_of_ble_eq_true rfl))) (cwV 3 hts g_EM_layConditions_e_EM_holdsApart rfl rfl rfl (by decide +kernel) ⟨Nat.le_of_ble_eq_true rfl, Nat.le_of_ble_eq_true rfl⟩) ⟨pu_bl, va_recv hK hP (ci := 9) (q0 := 0) rfl rfl, pu_in hP hK hD⟩ rfl rfl hl.1 rfl (lv_room (Nat.le_of_ble_eq_true rfl)) dX9_layConditions_163 ⟨Nat.le_of_ble_eq_true rfl, Nat.le_of_ble_eq_true rfl⟩) hS (fun q _ h => hFc q h) hFc (fun u t H1 locs ht hvm hw hB hz1 hk1 hS => ?_)
              obtain ⟨z55_49, z56_50, z57_51, ⟨hP1, -, hD1⟩, xr_48_0⟩ := hB
              rw [ht] at hP1
              have hP := hP1
              have hD := pu_all hFc hD1
              clear hP1 hD1 hFc
              clear hk1 hz1 ht hvm
              generalize H1 = H at hP hS ⊢
              replace hsp := hsp.trans (slet_eq xr_48_0)
              refine lv_iinc (v := (nI (g_13 + 1))) (lv' := [(3, .int (nI (g_13 + 1))), (5, .int (nI u_29)), (4, .int (nI (80 * x16 + 4 * a0 + g_13))), (0, .ref (ad 0)), (1, .int (nI a0)), (2, .int (nI a1))]) hx hb dX9_layConditions_166 hl (k := 5) rfl (nI_1 _) (by decide) rfl (fun ls hl => ?_)
              refine lv_goto (tgt := 2) hx hb dX9_layConditions_169 (by decide) ?_
              exact ih_15 (4 - (g_13 + 1)) (by omega) _ _ _ ⟨z55_49, z56_50, z57_51, (g_11 + 1), g_12, (g_13 + 1), rfl, (by omega), hg_12, (by omega), by omega, hin_19 _ hsp, hP, hD, hS, lv_sub hl [3, 4, 5, 0] rfl⟩
        · have c_33 : ¬ 2 < u_32 := fun z => c_33 ((nI_ltI (a := 2) (b := u_32) (Nat.le_of_ble_eq_true rfl) (by omega)).mpr z)
          replace hsp := hsp.trans (if_neg c_33)
          refine lv_aload_n hx hb dX9_layConditions_89 rfl (lv_at hl 2 rfl) ?_
          refine lv_iload_n hx hb dX9_layConditions_90 rfl (lv_at hl 4 rfl) ?_
          refine lv_iload hx hb dX9_layConditions_91 (lv_at hl 0 rfl) ?_
          refine lv_iconst (v := 2) hx hb dX9_layConditions_93 (by decide) ?_
          refine lv_aload_n hx hb dX9_layConditions_94 rfl (lv_at hl 2 rfl) ?_
          refine va_get (D := (dC, dI)) (ci := 9) (v := .ref (ad 11)) (C := RX9) (T := TX9) (N := 67) hx hb hts hiX9 hown hK hP 0 rfl rfl 11 (by decide) v_13 (fun _ h9 => h9) rfl dX9_layConditions_95 ?_
          refine lv_iload hx hb dX9_layConditions_98 (lv_at hl 1 rfl) ?_
          refine va_iald hx hb hK hP 11 10 rfl rfl (vp_in_nI (n := (80 * x16 + 4 * a0 + g_13)) (by omega) (Nat.le_of_ble_eq_true rfl)) dX9_layConditions_100 ?_
          refine lv_topi (fun y_52 ey_52 => ?_)
          have ey_52 : y_52 = f11 (80 * x16 + 4 * a0 + g_13) := ey_52.trans (congrArg f11 (nI_clamp (n := (80 * x16 + 4 * a0 + g_13)) (by first | omega | exact Nat.lt_trans (zx16 (by omega) (by omega) (by omega)) (Nat.le_of_ble_eq_true rfl) | exact Nat.lt_trans (zy16 (by omega) (by omega)) (Nat.le_of_ble_eq_true rfl) | exact Nat.lt_trans (zx25 (by omega) (by omega) (by omega)) (Nat.le_of_ble_eq_true rfl) | exact Nat.lt_trans (zy25 (by omega) (by omega)) (Nat.le_of_ble_eq_true rfl))))
          replace hsp := hsp.trans (slet_eq ey_52)
          refine lv_imul hx hb dX9_layConditions_101 ?_
          refine lv_topi (fun y_53 ey_53 => ?_)
          replace hsp := hsp.trans (slet_eq ey_53)
          refine lv_aload_n hx hb dX9_layConditions_102 rfl (lv_at hl 2 rfl) ?_
          refine va_get (D := (dC, dI)) (ci := 9) (v := .ref (ad 10)) (C := RX9) (T := TX9) (N := 67) hx hb hts hiX9 hown hK hP 0 rfl rfl 10 (by decide) v_12 (fun _ h9 => h9) rfl dX9_layConditions_103 ?_
          refine lv_iload hx hb dX9_layConditions_106 (lv_at hl 1 rfl) ?_
          refine va_iald hx hb hK hP 10 9 rfl rfl (vp_in_nI (n := (80 * x16 + 4 * a0 + g_13)) (by omega) (Nat.le_of_ble_eq_true rfl)) dX9_layConditions_108 ?_
          refine lv_topi (fun y_54 ey_54 => ?_)
          obtain rfl : y_54 = nI u_32 := ey_54.trans qu_32
          refine lv_if_ne (tgt := 116) hx hb dX9_layConditions_109 (by decide) (fun c_56 => ?_) (fun c_56 => ?_)
          · have c_56 : ¬ u_32 = 0 := fun z => c_56 ((nI_eq (a := u_32) (b := 0) (by omega) (Nat.le_of_ble_eq_true rfl)).mpr z)
            replace hsp := hsp.trans (if_neg c_56)
            refine lv_iconst (v := 1) hx hb dX9_layConditions_116 (by decide) ?_
            refine lv_iadd hx hb dX9_layConditions_117 ?_
            refine lv_topi (fun y_57 ey_57 => ?_)
            replace hsp := hsp.trans (slet_eq ey_57)
            have hFc := pu_free hD hS hA
            refine va_callv (va_runV (As := [.int (nI a1), .int (nI u_29), .int y_57]) (rest := []) ⟨hx, hb, hml, hown, hts⟩ (c_EM_holdsApart l dC dI _ ad ck x0 x16 x18 x19 x20 x21 x22 x23 x24 x25 x26 x27 x28 x29 x30 x33 x45 x46 x52 x53 x61 g_11 g_12 x65 x66 f1 f2 f3 q4 q5 q6 q7 f8 q9 q10 f11 m12_0 m12_1 m13_0 m13_1 m14_0 m14_1 m15_0 m15_1 f17 q31 f32 f34 f35 f36 f37 q38 f39 f40 f41 m42_0 m42_1 f43 f44 f47 f48 f49 f50 f51 q54 g_8 g_9 g_10 q58 f59 f60 f64 a1 u_29 y_57 hx16 hx18 hx19 hx21 hx22 hx26 hx28 hx29 hx30 hx33 hx46 hx52 hx53 hx61 (Nat.le_trans hg_11 (Nat.le_of_ble_eq_true rfl)) hg_12 hx65 hm12_0 hm12_1 hm13_0 hm13_1 hm14_0 hm14_1 hm15_0 hm15_1 hm42_0 hm42_1 (Nat.le_trans ha1 (Nat.le_of_ble_eq_true rfl)) hu_29) (cwV 3 hts g_EM_layConditions_e_EM_holdsApart rfl rfl rfl (by decide +kernel) ⟨Nat.le_of_ble_eq_true rfl, Nat.le_of_ble_eq_true rfl⟩) ⟨pu_bl, va_recv hK hP (ci := 9) (q0 := 0) rfl rfl, pu_in hP hK hD⟩ rfl rfl hl.1 rfl (lv_room (Nat.le_of_ble_eq_true rfl)) dX9_layConditions_118 ⟨Nat.le_of_ble_eq_true rfl, Nat.le_of_ble_eq_true rfl⟩) hS (fun q _ h => hFc q h) hFc (fun u t H1 locs ht hvm hw hB hz1 hk1 hS => ?_)
            obtain ⟨z55_59, z56_60, z57_61, ⟨hP1, -, hD1⟩, xr_58_0⟩ := hB
            rw [ht] at hP1
            have hP := hP1
            have hD := pu_all hFc hD1
            clear hP1 hD1 hFc
            clear hk1 hz1 ht hvm
            generalize H1 = H at hP hS ⊢
            replace hsp := hsp.trans (slet_eq xr_58_0)
            refine lv_aload_n hx hb dX9_layConditions_121 rfl (lv_at hl 2 rfl) ?_
            refine va_get (D := (dC, dI)) (ci := 9) (v := .ref (ad 10)) (C := RX9) (T := TX9) (N := 67) hx hb hts hiX9 hown hK hP 0 rfl rfl 10 (by decide) v_12 (fun _ h9 => h9) rfl dX9_layConditions_122 ?_
            refine lv_iload hx hb dX9_layConditions_125 (lv_at hl 1 rfl) ?_
            refine va_iald hx hb hK hP 10 9 rfl rfl (vp_in_nI (n := (80 * x16 + 4 * a0 + g_13)) (by omega) (Nat.le_of_ble_eq_true rfl)) dX9_layConditions_127 ?_
            refine lv_topi (fun y_62 ey_62 => ?_)
            obtain rfl : y_62 = nI u_32 := ey_62.trans qu_32
            refine lv_iconst (v := 2) hx hb dX9_layConditions_128 (by decide) ?_
            refine lv_icmp_lt (tgt := 166) hx hb dX9_layConditions_129 (by decide) (fun c_64 => ?_) (fun c_64 => ?_)
            · have c_64 : u_32 < 2 := (nI_ltI (a := u_32) (b := 2) (by omega) (Nat.le_of_ble_eq_true rfl)).mp c_64
              replace hsp := hsp.trans (if_pos c_64)
              refine lv_iinc (v := (nI (g_13 + 1))) (lv' := [(3, .int (nI (g_13 + 1))), (5, .int (nI u_29)), (4, .int (nI (80 * x16 + 4 * a0 + g_13))), (0, .ref (ad 0)), (1, .int (nI a0)), (2, .int (nI a1))]) hx hb dX9_layConditions_166 hl (k := 5) rfl (nI_1 _) (by decide) rfl (fun ls hl => ?_)
              refine lv_goto (tgt := 2) hx hb dX9_layConditions_169 (by decide) ?_
              exact ih_15 (4 - (g_13 + 1)) (by omega) _ _ _ ⟨z55_59, z56_60, z57_61, (g_11 + 1), g_12, (g_13 + 1), rfl, (by omega), hg_12, (by omega), by omega, hin_19 _ hsp, hP, hD, hS, lv_sub hl [3, 4, 5, 0] rfl⟩
            · have c_64 : ¬ u_32 < 2 := fun z => c_64 ((nI_ltI (a := u_32) (b := 2) (by omega) (Nat.le_of_ble_eq_true rfl)).mpr z)
              replace hsp := hsp.trans (if_neg c_64)
              refine lv_aload_n hx hb dX9_layConditions_132 rfl (lv_at hl 2 rfl) ?_
              refine lv_iload hx hb dX9_layConditions_133 (lv_at hl 0 rfl) ?_
              refine lv_iload_n hx hb dX9_layConditions_135 rfl (lv_at hl 4 rfl) ?_
              refine lv_bipush (v := (-2)) hx hb dX9_layConditions_136 (by decide) ?_
              refine lv_aload_n hx hb dX9_layConditions_138 rfl (lv_at hl 2 rfl) ?_
              refine va_get (D := (dC, dI)) (ci := 9) (v := .ref (ad 11)) (C := RX9) (T := TX9) (N := 67) hx hb hts hiX9 hown hK hP 0 rfl rfl 11 (by decide) v_13 (fun _ h9 => h9) rfl dX9_layConditions_139 ?_
              refine lv_iload hx hb dX9_layConditions_142 (lv_at hl 1 rfl) ?_
              refine va_iald hx hb hK hP 11 10 rfl rfl (vp_in_nI (n := (80 * x16 + 4 * a0 + g_13)) (by omega) (Nat.le_of_ble_eq_true rfl)) dX9_layConditions_144 ?_
              refine lv_topi (fun y_65 ey_65 => ?_)
              have ey_65 : y_65 = f11 (80 * x16 + 4 * a0 + g_13) := ey_65.trans (congrArg f11 (nI_clamp (n := (80 * x16 + 4 * a0 + g_13)) (by first | omega | exact Nat.lt_trans (zx16 (by omega) (by omega) (by omega)) (Nat.le_of_ble_eq_true rfl) | exact Nat.lt_trans (zy16 (by omega) (by omega)) (Nat.le_of_ble_eq_true rfl) | exact Nat.lt_trans (zx25 (by omega) (by omega) (by omega)) (Nat.le_of_ble_eq_true rfl) | exact Nat.lt_trans (zy25 (by omega) (by omega)) (Nat.le_of_ble_eq_true rfl))))
              replace hsp := hsp.trans (slet_eq ey_65)
              refine lv_imul hx hb dX9_layConditions_145 ?_
              refine lv_topi (fun y_66 ey_66 => ?_)
              replace hsp := hsp.trans (slet_eq ey_66)
              refine lv_aload_n hx hb dX9_layConditions_146 rfl (lv_at hl 2 rfl) ?_
              refine va_get (D := (dC, dI)) (ci := 9) (v := .ref (ad 10)) (C := RX9) (T := TX9) (N := 67) hx hb hts hiX9 hown hK hP 0 rfl rfl 10 (by decide) v_12 (fun _ h9 => h9) rfl dX9_layConditions_147 ?_
              refine lv_iload hx hb dX9_layConditions_150 (lv_at hl 1 rfl) ?_
              refine va_iald hx hb hK hP 10 9 rfl rfl (vp_in_nI (n := (80 * x16 + 4 * a0 + g_13)) (by omega) (Nat.le_of_ble_eq_true rfl)) dX9_layConditions_152 ?_
              refine lv_topi (fun y_67 ey_67 => ?_)
              obtain rfl : y_67 = nI u_32 := ey_67.trans qu_32
              refine lv_iconst (v := 4) hx hb dX9_layConditions_153 (by decide) ?_
              refine lv_icmp_ne (tgt := 161) hx hb dX9_layConditions_154 (by decide) (fun c_69 => ?_) (fun c_69 => ?_)
              · have c_69 : ¬ u_32 = 4 := fun z => c_69 ((nI_eq (a := u_32) (b := 4) (by omega) (Nat.le_of_ble_eq_true rfl)).mpr z)
                refine lv_iconst (v := 1) hx hb dX9_layConditions_161 (by decide) ?_
                refine lv_iadd hx hb dX9_layConditions_162 ?_
                refine lv_topi (fun y_70 ey_70 => ?_)
                replace hsp := hsp.trans (slet_eq ey_70)
                have hFc := pu_free hD hS hA
                refine va_callv (va_runV (As := [.int (nI u_29), .int (nI a1), .int y_70]) (rest := []) ⟨hx, hb, hml, hown, hts⟩ (c_EM_holdsApart l dC dI _ ad ck x0 x16 x18 x19 x20 x21 x22 x23 x24 x25 x26 x27 x28 x29 x30 x33 x45 x46 x52 x53 x61 (g_11 + 1) g_12 x65 x66 f1 f2 f3 q4 q5 q6 q7 f8 q9 q10 f11 m12_0 m12_1 m13_0 m13_1 m14_0 m14_1 m15_0 m15_1 f17 q31 f32 f34 f35 f36 f37 q38 f39 f40 f41 m42_0 m42_1 f43 f44 f47 f48 f49 f50 f51 q54 z55_59 z56_60 z57_61 q58 f59 f60 f64 u_29 a1 y_70 hx16 hx18 hx19 hx21 hx22 hx26 hx28 hx29 hx30 hx33 hx46 hx52 hx53 hx61 (by omega) hg_12 hx65 hm12_0 hm12_1 hm13_0 hm13_1 hm14_0 hm14_1 hm15_0 hm15_1 hm42_0 hm42_1 hu_29 (Nat.le_trans ha1 (Nat.le_of_ble_eq_true rfl))) (cwV 3 hts g_EM_layConditions_e_EM_holdsApart rfl rfl rfl (by decide +kernel) ⟨Nat.le_of_ble_eq_true rfl, Nat.le_of_ble_eq_true rfl⟩) ⟨pu_bl, va_recv hK hP (ci := 9) (q0 := 0) rfl rfl, pu_in hP hK hD⟩ rfl rfl hl.1 rfl (lv_room (Nat.le_of_ble_eq_true rfl)) dX9_layConditions_163 ⟨Nat.le_of_ble_eq_true rfl, Nat.le_of_ble_eq_true rfl⟩) hS (fun q _ h => hFc q h) hFc (fun u t H1 locs ht hvm hw hB hz1 hk1 hS => ?_)
                obtain ⟨z55_72, z56_73, z57_74, ⟨hP1, -, hD1⟩, xr_71_0⟩ := hB
                rw [ht] at hP1
                have hP := hP1
                have hD := pu_all hFc hD1
                clear hP1 hD1 hFc
                clear hk1 hz1 ht hvm
                generalize H1 = H at hP hS ⊢
                replace hsp := hsp.trans (slet_eq xr_71_0)
                refine lv_iinc (v := (nI (g_13 + 1))) (lv' := [(3, .int (nI (g_13 + 1))), (5, .int (nI u_29)), (4, .int (nI (80 * x16 + 4 * a0 + g_13))), (0, .ref (ad 0)), (1, .int (nI a0)), (2, .int (nI a1))]) hx hb dX9_layConditions_166 hl (k := 5) rfl (nI_1 _) (by decide) rfl (fun ls hl => ?_)
                refine lv_goto (tgt := 2) hx hb dX9_layConditions_169 (by decide) ?_
                exact ih_15 (4 - (g_13 + 1)) (by omega) _ _ _ ⟨z55_72, z56_73, z57_74, ((g_11 + 1) + 1), g_12, (g_13 + 1), rfl, (by omega), hg_12, (by omega), by omega, hin_19 _ hsp, hP, hD, hS, lv_sub hl [3, 4, 5, 0] rfl⟩
              · have c_69 : u_32 = 4 := (nI_eq (a := u_32) (b := 4) (by omega) (Nat.le_of_ble_eq_true rfl)).mp c_69
                exfalso
                omega
          · have c_56 : u_32 = 0 := (nI_eq (a := u_32) (b := 0) (by omega) (Nat.le_of_ble_eq_true rfl)).mp c_56
            replace hsp := hsp.trans (if_pos c_56)
            refine lv_iconst (v := 0) hx hb dX9_layConditions_112 (by decide) ?_
            refine lv_goto (tgt := 117) hx hb dX9_layConditions_113 (by decide) ?_
            refine lv_iadd hx hb dX9_layConditions_117 ?_
            refine lv_topi (fun y_75 ey_75 => ?_)
            replace hsp := hsp.trans (slet_eq ey_75)
            have hFc := pu_free hD hS hA
            refine va_callv (va_runV (As := [.int (nI a1), .int (nI u_29), .int y_75]) (rest := []) ⟨hx, hb, hml, hown, hts⟩ (c_EM_holdsApart l dC dI _ ad ck x0 x16 x18 x19 x20 x21 x22 x23 x24 x25 x26 x27 x28 x29 x30 x33 x45 x46 x52 x53 x61 g_11 g_12 x65 x66 f1 f2 f3 q4 q5 q6 q7 f8 q9 q10 f11 m12_0 m12_1 m13_0 m13_1 m14_0 m14_1 m15_0 m15_1 f17 q31 f32 f34 f35 f36 f37 q38 f39 f40 f41 m42_0 m42_1 f43 f44 f47 f48 f49 f50 f51 q54 g_8 g_9 g_10 q58 f59 f60 f64 a1 u_29 y_75 hx16 hx18 hx19 hx21 hx22 hx26 hx28 hx29 hx30 hx33 hx46 hx52 hx53 hx61 (Nat.le_trans hg_11 (Nat.le_of_ble_eq_true rfl)) hg_12 hx65 hm12_0 hm12_1 hm13_0 hm13_1 hm14_0 hm14_1 hm15_0 hm15_1 hm42_0 hm42_1 (Nat.le_trans ha1 (Nat.le_of_ble_eq_true rfl)) hu_29) (cwV 3 hts g_EM_layConditions_e_EM_holdsApart rfl rfl rfl (by decide +kernel) ⟨Nat.le_of_ble_eq_true rfl, Nat.le_of_ble_eq_true rfl⟩) ⟨pu_bl, va_recv hK hP (ci := 9) (q0 := 0) rfl rfl, pu_in hP hK hD⟩ rfl rfl hl.1 rfl (lv_room (Nat.le_of_ble_eq_true rfl)) dX9_layConditions_118 ⟨Nat.le_of_ble_eq_true rfl, Nat.le_of_ble_eq_true rfl⟩) hS (fun q _ h => hFc q h) hFc (fun u t H1 locs ht hvm hw hB hz1 hk1 hS => ?_)
            obtain ⟨z55_77, z56_78, z57_79, ⟨hP1, -, hD1⟩, xr_76_0⟩ := hB
            rw [ht] at hP1
            have hP := hP1
            have hD := pu_all hFc hD1
            clear hP1 hD1 hFc
            clear hk1 hz1 ht hvm
            generalize H1 = H at hP hS ⊢
            replace hsp := hsp.trans (slet_eq xr_76_0)
            refine lv_aload_n hx hb dX9_layConditions_121 rfl (lv_at hl 2 rfl) ?_
            refine va_get (D := (dC, dI)) (ci := 9) (v := .ref (ad 10)) (C := RX9) (T := TX9) (N := 67) hx hb hts hiX9 hown hK hP 0 rfl rfl 10 (by decide) v_12 (fun _ h9 => h9) rfl dX9_layConditions_122 ?_
            refine lv_iload hx hb dX9_layConditions_125 (lv_at hl 1 rfl) ?_
            refine va_iald hx hb hK hP 10 9 rfl rfl (vp_in_nI (n := (80 * x16 + 4 * a0 + g_13)) (by omega) (Nat.le_of_ble_eq_true rfl)) dX9_layConditions_127 ?_
            refine lv_topi (fun y_80 ey_80 => ?_)
            obtain rfl : y_80 = nI u_32 := ey_80.trans qu_32
            refine lv_iconst (v := 2) hx hb dX9_layConditions_128 (by decide) ?_
            refine lv_icmp_lt (tgt := 166) hx hb dX9_layConditions_129 (by decide) (fun c_82 => ?_) (fun c_82 => ?_)
            · have c_82 : u_32 < 2 := (nI_ltI (a := u_32) (b := 2) (by omega) (Nat.le_of_ble_eq_true rfl)).mp c_82
              refine lv_iinc (v := (nI (g_13 + 1))) (lv' := [(3, .int (nI (g_13 + 1))), (5, .int (nI u_29)), (4, .int (nI (80 * x16 + 4 * a0 + g_13))), (0, .ref (ad 0)), (1, .int (nI a0)), (2, .int (nI a1))]) hx hb dX9_layConditions_166 hl (k := 5) rfl (nI_1 _) (by decide) rfl (fun ls hl => ?_)
              refine lv_goto (tgt := 2) hx hb dX9_layConditions_169 (by decide) ?_
              exact ih_15 (4 - (g_13 + 1)) (by omega) _ _ _ ⟨z55_77, z56_78, z57_79, (g_11 + 1), g_12, (g_13 + 1), rfl, (by omega), hg_12, (by omega), by omega, hin_19 _ hsp, hP, hD, hS, lv_sub hl [3, 4, 5, 0] rfl⟩
            · have c_82 : ¬ u_32 < 2 := fun z => c_82 ((nI_ltI (a := u_32) (b := 2) (by omega) (Nat.le_of_ble_eq_true rfl)).mpr z)
              exfalso
              omega
      · have c_30 : u_29 = a1 := (nI_eq (a := u_29) (b := a1) (Nat.lt_of_le_of_lt hu_29 (Nat.le_of_ble_eq_true rfl)) (Nat.lt_of_le_of_lt ha1 (Nat.le_of_ble_eq_true rfl))).mp c_30
        replace hsp := hsp.trans (if_pos c_30)
        refine lv_aload_n hx hb dX9_layConditions_39 rfl (lv_at hl 2 rfl) ?_
        refine lv_aload_n hx hb dX9_layConditions_40 rfl (lv_at hl 2 rfl) ?_
        refine va_get (D := (dC, dI)) (ci := 9) (v := .int (nI g_12)) (C := RX9) (T := TX9) (N := 67) hx hb hts hiX9 hown hK hP 0 rfl rfl 63 (by decide) v_18 (fun _ h9 => h9) rfl dX9_layConditions_41 ?_
        refine lv_if_ne (tgt := 67) hx hb dX9_layConditions_44 (by decide) (fun c_83 => ?_) (fun c_83 => ?_)
        · have c_83 : ¬ g_12 = 0 := fun z => c_83 ((nI_eq (a := g_12) (b := 0) (Nat.lt_of_le_of_lt hg_12 (Nat.le_of_ble_eq_true rfl)) (Nat.le_of_ble_eq_true rfl)).mpr z)
          replace hsp := hsp.trans (if_neg c_83)
          refine lv_iconst (v := 1) hx hb dX9_layConditions_67 (by decide) ?_
          refine lv_goto (tgt := 72) hx hb dX9_layConditions_68 (by decide) ?_
          refine va_put (D := (dC, dI)) (ci := 9) (v := .int 1) (ty := .boolean) (C := RX9) (T := TX9) (N := 67) hx hb hts hiX9 tyX9 tyX9_ok nmX9 hown hK hP hD hS 0 rfl rfl 63 (by decide) v_18 (fun _ h9 => h9) rfl (by decide +kernel) rfl rfl (Nat.le_of_ble_eq_true rfl) dX9_layConditions_72 (fun H locs hP hD hS => ?_)
          have hP : va_P (dC, dI) vwCl (mo_w ad ck x0 (nI x16) (nI x18) (nI x19) x20 (nI x21) (nI x22) x23 x24 x25 (nI x26) x27 (nI x28) (nI x29) (nI x30) (nI x33) x45 (nI x46) (nI x52) (nI x53) (nI x61) (nI g_11) 1 (nI x65) x66 f1 f2 f3 (bN 3 q4) (bN 7 q5) (bN 7 q6) (bN 4 q7) f8 (bN 2 q9) (bH q10) f11 (b2 m12_0 m12_1) (b2 m13_0 m13_1) (b2 m14_0 m14_1) (b2m m15_0 m15_1) f17 (bA 159 q31) f32 f34 f35 f36 f37 (bN 7 q38) f39 f40 f41 (b2 m42_0 m42_1) f43 f44 f47 f48 f49 f50 f51 (bN 13 q54) (bN 120 g_8) (bN 120 g_9) g_10 (bN 120 q58) f59 f60 f64) H := hP
          have hD : va_D A (mo_w ad ck x0 (nI x16) (nI x18) (nI x19) x20 (nI x21) (nI x22) x23 x24 x25 (nI x26) x27 (nI x28) (nI x29) (nI x30) (nI x33) x45 (nI x46) (nI x52) (nI x53) (nI x61) (nI g_11) 1 (nI x65) x66 f1 f2 f3 (bN 3 q4) (bN 7 q5) (bN 7 q6) (bN 4 q7) f8 (bN 2 q9) (bH q10) f11 (b2 m12_0 m12_1) (b2 m13_0 m13_1) (b2 m14_0 m14_1) (b2m m15_0 m15_1) f17 (bA 159 q31) f32 f34 f35 f36 f37 (bN 7 q38) f39 f40 f41 (b2 m42_0 m42_1) f43 f44 f47 f48 f49 f50 f51 (bN 13 q54) (bN 120 g_8) (bN 120 g_9) g_10 (bN 120 q58) f59 f60 f64) := hD
          refine lv_goto (tgt := 166) hx hb dX9_layConditions_75 (by decide) ?_
          refine lv_iinc (v := (nI (g_13 + 1))) (lv' := [(3, .int (nI (g_13 + 1))), (5, .int (nI u_29)), (4, .int (nI (80 * x16 + 4 * a0 + g_13))), (0, .ref (ad 0)), (1, .int (nI a0)), (2, .int (nI a1))]) hx hb dX9_layConditions_166 hl (k := 5) rfl (nI_1 _) (by decide) rfl (fun ls hl => ?_)
          refine lv_goto (tgt := 2) hx hb dX9_layConditions_169 (by decide) ?_
          exact ih_15 (4 - (g_13 + 1)) (by omega) _ _ _ ⟨g_8, g_9, g_10, g_11, 1, (g_13 + 1), rfl, hg_11, (Nat.le_of_ble_eq_true rfl), (by omega), by omega, hin_19 _ hsp, hP, hD, hS, lv_sub hl [3, 4, 5, 0] rfl⟩
        · have c_83 : g_12 = 0 := (nI_eq (a := g_12) (b := 0) (Nat.lt_of_le_of_lt hg_12 (Nat.le_of_ble_eq_true rfl)) (Nat.le_of_ble_eq_true rfl)).mp c_83
          replace hsp := hsp.trans (if_pos c_83)
          refine lv_aload_n hx hb dX9_layConditions_47 rfl (lv_at hl 2 rfl) ?_
          refine va_get (D := (dC, dI)) (ci := 9) (v := .ref (ad 10)) (C := RX9) (T := TX9) (N := 67) hx hb hts hiX9 hown hK hP 0 rfl rfl 10 (by decide) v_12 (fun _ h9 => h9) rfl dX9_layConditions_48 ?_
          refine lv_iload hx hb dX9_layConditions_51 (lv_at hl 1 rfl) ?_
          refine va_iald hx hb hK hP 10 9 rfl rfl (vp_in_nI (n := (80 * x16 + 4 * a0 + g_13)) (by omega) (Nat.le_of_ble_eq_true rfl)) dX9_layConditions_53 ?_
          refine lv_topi (fun y_84 ey_84 => ?_)
          obtain ⟨u_85, hu_85, qu_85, xu_85⟩ := bH_getx q10 (i := (80 * x16 + 4 * a0 + g_13)) (by omega)
          obtain rfl : y_84 = nI u_85 := ey_84.trans qu_85
          replace hsp := hsp.trans (slet_eq xu_85)
          refine lv_if_ne (tgt := 71) hx hb dX9_layConditions_54 (by decide) (fun c_86 => ?_) (fun c_86 => ?_)
          · have c_86 : ¬ u_85 = 0 := fun z => c_86 ((nI_eq (a := u_85) (b := 0) (by omega) (Nat.le_of_ble_eq_true rfl)).mpr z)
            replace hsp := hsp.trans (if_neg c_86)
            refine lv_iconst (v := 0) hx hb dX9_layConditions_71 (by decide) ?_
            refine va_put (D := (dC, dI)) (ci := 9) (v := .int 0) (ty := .boolean) (C := RX9) (T := TX9) (N := 67) hx hb hts hiX9 tyX9 tyX9_ok nmX9 hown hK hP hD hS 0 rfl rfl 63 (by decide) v_18 (fun _ h9 => h9) rfl (by decide +kernel) rfl rfl (Nat.le_of_ble_eq_true rfl) dX9_layConditions_72 (fun H locs hP hD hS => ?_)
            have hP : va_P (dC, dI) vwCl (mo_w ad ck x0 (nI x16) (nI x18) (nI x19) x20 (nI x21) (nI x22) x23 x24 x25 (nI x26) x27 (nI x28) (nI x29) (nI x30) (nI x33) x45 (nI x46) (nI x52) (nI x53) (nI x61) (nI g_11) 0 (nI x65) x66 f1 f2 f3 (bN 3 q4) (bN 7 q5) (bN 7 q6) (bN 4 q7) f8 (bN 2 q9) (bH q10) f11 (b2 m12_0 m12_1) (b2 m13_0 m13_1) (b2 m14_0 m14_1) (b2m m15_0 m15_1) f17 (bA 159 q31) f32 f34 f35 f36 f37 (bN 7 q38) f39 f40 f41 (b2 m42_0 m42_1) f43 f44 f47 f48 f49 f50 f51 (bN 13 q54) (bN 120 g_8) (bN 120 g_9) g_10 (bN 120 q58) f59 f60 f64) H := hP
            have hD : va_D A (mo_w ad ck x0 (nI x16) (nI x18) (nI x19) x20 (nI x21) (nI x22) x23 x24 x25 (nI x26) x27 (nI x28) (nI x29) (nI x30) (nI x33) x45 (nI x46) (nI x52) (nI x53) (nI x61) (nI g_11) 0 (nI x65) x66 f1 f2 f3 (bN 3 q4) (bN 7 q5) (bN 7 q6) (bN 4 q7) f8 (bN 2 q9) (bH q10) f11 (b2 m12_0 m12_1) (b2 m13_0 m13_1) (b2 m14_0 m14_1) (b2m m15_0 m15_1) f17 (bA 159 q31) f32 f34 f35 f36 f37 (bN 7 q38) f39 f40 f41 (b2 m42_0 m42_1) f43 f44 f47 f48 f49 f50 f51 (bN 13 q54) (bN 120 g_8) (bN 120 g_9) g_10 (bN 120 q58) f59 f60 f64) := hD
            refine lv_goto (tgt := 166) hx hb dX9_layConditions_75 (by decide) ?_
            refine lv_iinc (v := (nI (g_13 + 1))) (lv' := [(3, .int (nI (g_13 + 1))), (5, .int (nI u_29)), (4, .int (nI (80 * x16 + 4 * a0 + g_13))), (0, .ref (ad 0)), (1, .int (nI a0)), (2, .int (nI a1))]) hx hb dX9_layConditions_166 hl (k := 5) rfl (nI_1 _) (by decide) rfl (fun ls hl => ?_)
            refine lv_goto (tgt := 2) hx hb dX9_layConditions_169 (by decide) ?_
            exact ih_15 (4 - (g_13 + 1)) (by omega) _ _ _ ⟨g_8, g_9, g_10, g_11, 0, (g_13 + 1), rfl, hg_11, (Nat.le_of_ble_eq_true rfl), (by omega), by omega, hin_19 _ hsp, hP, hD, hS, lv_sub hl [3, 4, 5, 0] rfl⟩
          · have c_86 : u_85 = 0 := (nI_eq (a := u_85) (b := 0) (by omega) (Nat.le_of_ble_eq_true rfl)).mp c_86
            replace hsp := hsp.trans (if_pos c_86)
            refine lv_aload_n hx hb dX9_layConditions_57 rfl (lv_at hl 2 rfl) ?_
            refine va_get (D := (dC, dI)) (ci := 9) (v := .ref (ad 11)) (C := RX9) (T := TX9) (N := 67) hx hb hts hiX9 hown hK hP 0 rfl rfl 11 (by decide) v_13 (fun _ h9 => h9) rfl dX9_layConditions_58 ?_
            refine lv_iload hx hb dX9_layConditions_61 (lv_at hl 1 rfl) ?_
            refine va_iald hx hb hK hP 11 10 rfl rfl (vp_in_nI (n := (80 * x16 + 4 * a0 + g_13)) (by omega) (Nat.le_of_ble_eq_true rfl)) dX9_layConditions_63 ?_
            refine lv_topi (fun y_87 ey_87 => ?_)
            have ey_87 : y_87 = f11 (80 * x16 + 4 * a0 + g_13) := ey_87.trans (congrArg f11 (nI_clamp (n := (80 * x16 + 4 * a0 + g_13)) (by first | omega | exact Nat.lt_trans (zx16 (by omega) (by omega) (by omega)) (Nat.le_of_ble_eq_true rfl) | exact Nat.lt_trans (zy16 (by omega) (by omega)) (Nat.le_of_ble_eq_true rfl) | exact Nat.lt_trans (zx25 (by omega) (by omega) (by omega)) (Nat.le_of_ble_eq_true rfl) | exact Nat.lt_trans (zy25 (by omega) (by omega)) (Nat.le_of_ble_eq_true rfl))))
            replace hsp := hsp.trans (slet_eq ey_87)
            refine lv_if_ne (tgt := 71) hx hb dX9_layConditions_64 (by decide) (fun c_88 => ?_) (fun c_88 => ?_)
            · have hcc_88 := c_88
              replace hsp := hsp.trans (if_neg c_88)
              refine lv_iconst (v := 0) hx hb dX9_layConditions_71 (by decide) ?_
              refine va_put (D := (dC, dI)) (ci := 9) (v := .int 0) (ty := .boolean) (C := RX9) (T := TX9) (N := 67) hx hb hts hiX9 tyX9 tyX9_ok nmX9 hown hK hP hD hS 0 rfl rfl 63 (by decide) v_18 (fun _ h9 => h9) rfl (by decide +kernel) rfl rfl (Nat.le_of_ble_eq_true rfl) dX9_layConditions_72 (fun H locs hP hD hS => ?_)
              have hP : va_P (dC, dI) vwCl (mo_w ad ck x0 (nI x16) (nI x18) (nI x19) x20 (nI x21) (nI x22) x23 x24 x25 (nI x26) x27 (nI x28) (nI x29) (nI x30) (nI x33) x45 (nI x46) (nI x52) (nI x53) (nI x61) (nI g_11) 0 (nI x65) x66 f1 f2 f3 (bN 3 q4) (bN 7 q5) (bN 7 q6) (bN 4 q7) f8 (bN 2 q9) (bH q10) f11 (b2 m12_0 m12_1) (b2 m13_0 m13_1) (b2 m14_0 m14_1) (b2m m15_0 m15_1) f17 (bA 159 q31) f32 f34 f35 f36 f37 (bN 7 q38) f39 f40 f41 (b2 m42_0 m42_1) f43 f44 f47 f48 f49 f50 f51 (bN 13 q54) (bN 120 g_8) (bN 120 g_9) g_10 (bN 120 q58) f59 f60 f64) H := hP
              have hD : va_D A (mo_w ad ck x0 (nI x16) (nI x18) (nI x19) x20 (nI x21) (nI x22) x23 x24 x25 (nI x26) x27 (nI x28) (nI x29) (nI x30) (nI x33) x45 (nI x46) (nI x52) (nI x53) (nI x61) (nI g_11) 0 (nI x65) x66 f1 f2 f3 (bN 3 q4) (bN 7 q5) (bN 7 q6) (bN 4 q7) f8 (bN 2 q9) (bH q10) f11 (b2 m12_0 m12_1) (b2 m13_0 m13_1) (b2 m14_0 m14_1) (b2m m15_0 m15_1) f17 (bA 159 q31) f32 f34 f35 f36 f37 (bN 7 q38) f39 f40 f41 (b2 m42_0 m42_1) f43 f44 f47 f48 f49 f50 f51 (bN 13 q54) (bN 120 g_8) (bN 120 g_9) g_10 (bN 120 q58) f59 f60 f64) := hD
              refine lv_goto (tgt := 166) hx hb dX9_layConditions_75 (by decide) ?_
              refine lv_iinc (v := (nI (g_13 + 1))) (lv' := [(3, .int (nI (g_13 + 1))), (5, .int (nI u_29)), (4, .int (nI (80 * x16 + 4 * a0 + g_13))), (0, .ref (ad 0)), (1, .int (nI a0)), (2, .int (nI a1))]) hx hb dX9_layConditions_166 hl (k := 5) rfl (nI_1 _) (by decide) rfl (fun ls hl => ?_)
              refine lv_goto (tgt := 2) hx hb dX9_layConditions_169 (by decide) ?_
              exact ih_15 (4 - (g_13 + 1)) (by omega) _ _ _ ⟨g_8, g_9, g_10, g_11, 0, (g_13 + 1), rfl, hg_11, (Nat.le_of_ble_eq_true rfl), (by omega), by omega, hin_19 _ hsp, hP, hD, hS, lv_sub hl [3, 4, 5, 0] rfl⟩
            · have hcc_88 := c_88
              replace hsp := hsp.trans (if_pos c_88)
              refine lv_iconst (v := 1) hx hb dX9_layConditions_67 (by decide) ?_
              refine lv_goto (tgt := 72) hx hb dX9_layConditions_68 (by decide) ?_
              refine va_put (D := (dC, dI)) (ci := 9) (v := .int 1) (ty := .boolean) (C := RX9) (T := TX9) (N := 67) hx hb hts hiX9 tyX9 tyX9_ok nmX9 hown hK hP hD hS 0 rfl rfl 63 (by decide) v_18 (fun _ h9 => h9) rfl (by decide +kernel) rfl rfl (Nat.le_of_ble_eq_true rfl) dX9_layConditions_72 (fun H locs hP hD hS => ?_)
              have hP : va_P (dC, dI) vwCl (mo_w ad ck x0 (nI x16) (nI x18) (nI x19) x20 (nI x21) (nI x22) x23 x24 x25 (nI x26) x27 (nI x28) (nI x29) (nI x30) (nI x33) x45 (nI x46) (nI x52) (nI x53) (nI x61) (nI g_11) 1 (nI x65) x66 f1 f2 f3 (bN 3 q4) (bN 7 q5) (bN 7 q6) (bN 4 q7) f8 (bN 2 q9) (bH q10) f11 (b2 m12_0 m12_1) (b2 m13_0 m13_1) (b2 m14_0 m14_1) (b2m m15_0 m15_1) f17 (bA 159 q31) f32 f34 f35 f36 f37 (bN 7 q38) f39 f40 f41 (b2 m42_0 m42_1) f43 f44 f47 f48 f49 f50 f51 (bN 13 q54) (bN 120 g_8) (bN 120 g_9) g_10 (bN 120 q58) f59 f60 f64) H := hP
              have hD : va_D A (mo_w ad ck x0 (nI x16) (nI x18) (nI x19) x20 (nI x21) (nI x22) x23 x24 x25 (nI x26) x27 (nI x28) (nI x29) (nI x30) (nI x33) x45 (nI x46) (nI x52) (nI x53) (nI x61) (nI g_11) 1 (nI x65) x66 f1 f2 f3 (bN 3 q4) (bN 7 q5) (bN 7 q6) (bN 4 q7) f8 (bN 2 q9) (bH q10) f11 (b2 m12_0 m12_1) (b2 m13_0 m13_1) (b2 m14_0 m14_1) (b2m m15_0 m15_1) f17 (bA 159 q31) f32 f34 f35 f36 f37 (bN 7 q38) f39 f40 f41 (b2 m42_0 m42_1) f43 f44 f47 f48 f49 f50 f51 (bN 13 q54) (bN 120 g_8) (bN 120 g_9) g_10 (bN 120 q58) f59 f60 f64) := hD
              refine lv_goto (tgt := 166) hx hb dX9_layConditions_75 (by decide) ?_
              refine lv_iinc (v := (nI (g_13 + 1))) (lv' := [(3, .int (nI (g_13 + 1))), (5, .int (nI u_29)), (4, .int (nI (80 * x16 + 4 * a0 + g_13))), (0, .ref (ad 0)), (1, .int (nI a0)), (2, .int (nI a1))]) hx hb dX9_layConditions_166 hl (k := 5) rfl (nI_1 _) (by decide) rfl (fun ls hl => ?_)
              refine lv_goto (tgt := 2) hx hb dX9_layConditions_169 (by decide) ?_
              exact ih_15 (4 - (g_13 + 1)) (by omega) _ _ _ ⟨g_8, g_9, g_10, g_11, 1, (g_13 + 1), rfl, hg_11, (Nat.le_of_ble_eq_true rfl), (by omega), by omega, hin_19 _ hsp, hP, hD, hS, lv_sub hl [3, 4, 5, 0] rfl⟩
