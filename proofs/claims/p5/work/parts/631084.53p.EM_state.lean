theorem dX9_state_0 : decode cX9_state 0 = .ok (.aload_n 0, 1) := by decide +kernel
theorem dX9_state_1 : decode cX9_state 1 = .ok (.iconst 0, 1) := by decide +kernel
theorem dX9_state_2 : decode cX9_state 2 = .ok (.putfield 142, 3) := by decide +kernel
theorem dX9_state_5 : decode cX9_state 5 = .ok (.aload_n 0, 1) := by decide +kernel
theorem dX9_state_6 : decode cX9_state 6 = .ok (.iload_n 1, 1) := by decide +kernel
theorem dX9_state_7 : decode cX9_state 7 = .ok (.invokevirtual 387, 3) := by decide +kernel
theorem dX9_state_10 : decode cX9_state 10 = .ok (.ifCond .eq 12, 3) := by decide +kernel
theorem dX9_state_13 : decode cX9_state 13 = .ok (.iload_n 2, 1) := by decide +kernel
theorem dX9_state_14 : decode cX9_state 14 = .ok (.iconst 0, 1) := by decide +kernel
theorem dX9_state_15 : decode cX9_state 15 = .ok (.iconst 5, 1) := by decide +kernel
theorem dX9_state_16 : decode cX9_state 16 = .ok (.invokestatic 152, 3) := by decide +kernel
theorem dX9_state_19 : decode cX9_state 19 = .ok (.ifCond .ne 5, 3) := by decide +kernel
theorem dX9_state_22 : decode cX9_state 22 = .ok (.iconst (-1), 1) := by decide +kernel
theorem dX9_state_23 : decode cX9_state 23 = .ok (.ireturn, 1) := by decide +kernel
theorem dX9_state_24 : decode cX9_state 24 = .ok (.iconst 0, 1) := by decide +kernel
theorem dX9_state_25 : decode cX9_state 25 = .ok (.istore_n 3, 1) := by decide +kernel
theorem dX9_state_26 : decode cX9_state 26 = .ok (.iconst 1, 1) := by decide +kernel
theorem dX9_state_27 : decode cX9_state 27 = .ok (.istore 4, 2) := by decide +kernel
theorem dX9_state_29 : decode cX9_state 29 = .ok (.iload 4, 2) := by decide +kernel
theorem dX9_state_31 : decode cX9_state 31 = .ok (.aload_n 0, 1) := by decide +kernel
theorem dX9_state_32 : decode cX9_state 32 = .ok (.getfield 92, 3) := by decide +kernel
theorem dX9_state_35 : decode cX9_state 35 = .ok (.iconst 0, 1) := by decide +kernel
theorem dX9_state_36 : decode cX9_state 36 = .ok (.iaload, 1) := by decide +kernel
theorem dX9_state_37 : decode cX9_state 37 = .ok (.if_icmp .ge 28, 3) := by decide +kernel
theorem dX9_state_40 : decode cX9_state 40 = .ok (.iload_n 3, 1) := by decide +kernel
theorem dX9_state_41 : decode cX9_state 41 = .ok (.aload_n 0, 1) := by decide +kernel
theorem dX9_state_42 : decode cX9_state 42 = .ok (.getfield 83, 3) := by decide +kernel
theorem dX9_state_45 : decode cX9_state 45 = .ok (.iload 4, 2) := by decide +kernel
theorem dX9_state_47 : decode cX9_state 47 = .ok (.iaload, 1) := by decide +kernel
theorem dX9_state_48 : decode cX9_state 48 = .ok (.iload_n 1, 1) := by decide +kernel
theorem dX9_state_49 : decode cX9_state 49 = .ok (.if_icmp .ne 7, 3) := by decide +kernel
theorem dX9_state_52 : decode cX9_state 52 = .ok (.iconst 1, 1) := by decide +kernel
theorem dX9_state_53 : decode cX9_state 53 = .ok (.goto 4, 3) := by decide +kernel
theorem dX9_state_56 : decode cX9_state 56 = .ok (.iconst 0, 1) := by decide +kernel
theorem dX9_state_57 : decode cX9_state 57 = .ok (.iadd, 1) := by decide +kernel
theorem dX9_state_58 : decode cX9_state 58 = .ok (.istore_n 3, 1) := by decide +kernel
theorem dX9_state_59 : decode cX9_state 59 = .ok (.iinc 4 1, 3) := by decide +kernel
theorem dX9_state_62 : decode cX9_state 62 = .ok (.goto (-33), 3) := by decide +kernel
theorem dX9_state_65 : decode cX9_state 65 = .ok (.iload_n 2, 1) := by decide +kernel
theorem dX9_state_66 : decode cX9_state 66 = .ok (.tableswitch 64 0 4 #[34, 41, 48, 55, 62], 34) := by decide +kernel
theorem dX9_state_100 : decode cX9_state 100 = .ok (.aload_n 0, 1) := by decide +kernel
theorem dX9_state_101 : decode cX9_state 101 = .ok (.getfield 80, 3) := by decide +kernel
theorem dX9_state_104 : decode cX9_state 104 = .ok (.iload_n 1, 1) := by decide +kernel
theorem dX9_state_105 : decode cX9_state 105 = .ok (.iaload, 1) := by decide +kernel
theorem dX9_state_106 : decode cX9_state 106 = .ok (.ireturn, 1) := by decide +kernel
theorem dX9_state_107 : decode cX9_state 107 = .ok (.aload_n 0, 1) := by decide +kernel
theorem dX9_state_108 : decode cX9_state 108 = .ok (.getfield 83, 3) := by decide +kernel
theorem dX9_state_111 : decode cX9_state 111 = .ok (.iload_n 1, 1) := by decide +kernel
theorem dX9_state_112 : decode cX9_state 112 = .ok (.iaload, 1) := by decide +kernel
theorem dX9_state_113 : decode cX9_state 113 = .ok (.ireturn, 1) := by decide +kernel
theorem dX9_state_114 : decode cX9_state 114 = .ok (.aload_n 0, 1) := by decide +kernel
theorem dX9_state_115 : decode cX9_state 115 = .ok (.getfield 86, 3) := by decide +kernel
theorem dX9_state_118 : decode cX9_state 118 = .ok (.iload_n 1, 1) := by decide +kernel
theorem dX9_state_119 : decode cX9_state 119 = .ok (.iaload, 1) := by decide +kernel
theorem dX9_state_120 : decode cX9_state 120 = .ok (.ireturn, 1) := by decide +kernel
theorem dX9_state_121 : decode cX9_state 121 = .ok (.aload_n 0, 1) := by decide +kernel
theorem dX9_state_122 : decode cX9_state 122 = .ok (.getfield 89, 3) := by decide +kernel
theorem dX9_state_125 : decode cX9_state 125 = .ok (.iload_n 1, 1) := by decide +kernel
theorem dX9_state_126 : decode cX9_state 126 = .ok (.iaload, 1) := by decide +kernel
theorem dX9_state_127 : decode cX9_state 127 = .ok (.ireturn, 1) := by decide +kernel
theorem dX9_state_128 : decode cX9_state 128 = .ok (.iload_n 3, 1) := by decide +kernel
theorem dX9_state_129 : decode cX9_state 129 = .ok (.ireturn, 1) := by decide +kernel
theorem dX9_state_130 : decode cX9_state 130 = .ok (.aload_n 0, 1) := by decide +kernel
theorem dX9_state_131 : decode cX9_state 131 = .ok (.iload_n 1, 1) := by decide +kernel
theorem dX9_state_132 : decode cX9_state 132 = .ok (.invokevirtual 390, 3) := by decide +kernel
theorem dX9_state_135 : decode cX9_state 135 = .ok (.ifCond .eq 7, 3) := by decide +kernel
theorem dX9_state_138 : decode cX9_state 138 = .ok (.iconst 1, 1) := by decide +kernel
theorem dX9_state_139 : decode cX9_state 139 = .ok (.goto 4, 3) := by decide +kernel
theorem dX9_state_142 : decode cX9_state 142 = .ok (.iconst 0, 1) := by decide +kernel
theorem dX9_state_143 : decode cX9_state 143 = .ok (.ireturn, 1) := by decide +kernel
abbrev vs_EM_state : List Cond := .code yX9_state cX9_state 5 (some .int) :: VM
theorem g_EM_state_X9_in : GoodIn vs_EM_state (va_wsS RX9 152 yX9_in vs_X9_in) := gm_0 (fun w h => by
  rcases List.mem_cons.mp h with rfl | h
  · exact vm_137
  rcases List.mem_cons.mp h with rfl | h
  · exact vm_138
  rcases List.mem_cons.mp h with rfl | h
  · exact vm_19
  rcases List.mem_cons.mp h with rfl | h
  · exact vm_139
  exact absurd h (List.not_mem_nil))
theorem g_EM_state_EM_isState : GoodIn vs_EM_state (wsV RX9 387 RX9 yX9_isState vs_EM_isState) := gm_V vm_263 vm_264 vm_265 vm_19 vm_266
theorem g_EM_state_EM_isStuck : GoodIn vs_EM_state (wsV RX9 390 RX9 yX9_isStuck vs_EM_isStuck) := gm_V vm_299 vm_300 vm_301 vm_19 vm_302
noncomputable def sp_EM_state_L1 (x16 : Nat) (x52 : Nat) (x53 : Nat) (f3 : Nat → Int32) (q4 : Nat → Nat) (q5 : Nat → Nat) (q6 : Nat → Nat) (q7 : Nat → Nat) (f8 : Nat → Int32) (q9 : Nat → Nat) (q10 : Nat → Nat) (f11 : Nat → Int32) (m13_0 : Nat) (m13_1 : Nat) (m14_0 : Nat) (m14_1 : Nat) (f34 : Nat → Int32) (f35 : Nat → Int32) (f36 : Nat → Int32) (q38 : Nat → Nat) (f39 : Nat → Int32) (f40 : Nat → Int32) (f41 : Nat → Int32) (m42_0 : Nat) (f49 : Nat → Int32) (f50 : Nat → Int32) (f51 : Nat → Int32) (z46_2 : Nat) (n_3 : Nat) (n_5 : Nat) : (Int32 × Nat) → (Int32 × Nat) ⊕ (Int32 × (Nat → Int32) × (Nat → Int32) × (Nat → Int32) × (Nat → Int32) × (Nat → Int32) × Int32 × Nat × Nat × Nat) := fun (g_8, g_9) => (if m42_0 ≤ g_9 then (Sum.inr (if n_5 = 0 then (slet (min (q38 n_3) 7) (fun u_20 => ((nI u_20), f35, f36, f49, f50, f51, 0, z46_2, x52, x53))) else (if n_5 = 1 then (slet (f39 n_3) (fun y_22 => (y_22, f35, f36, f49, f50, f51, 0, z46_2, x52, x53))) else (if n_5 = 2 then (slet (f40 n_3) (fun y_24 => (y_24, f35, f36, f49, f50, f51, 0, z46_2, x52, x53))) else (if n_5 = 3 then (slet (f41 n_3) (fun y_26 => (y_26, f35, f36, f49, f50, f51, 0, z46_2, x52, x53))) else (if n_5 = 4 then (g_8, f35, f36, f49, f50, f51, 0, z46_2, x52, x53) else (slet (sp_EM_isStuck x16 z46_2 f3 q4 q5 q6 q7 f8 q9 q10 f11 m13_0 m13_1 m14_0 m14_1 f34 f35 f36 q38 f49 f50 f51 n_3) (fun (u_36, z35_29, z36_30, z49_31, z50_32, z51_33, z52_34, z53_35) => (if u_36 = 0 then (0, z35_29, z36_30, z49_31, z50_32, z51_33, 0, z46_2, z52_34, z53_35) else (1, z35_29, z36_30, z49_31, z50_32, z51_33, 0, z46_2, z52_34, z53_35)))))))))) else (slet (f39 g_9) (fun y_38 => (slet (α := Nat) (if (y_38 : Int32) = (nI n_3) then 1 else 0) (fun g_39 => (slet ((g_8 : Int32) + (nI g_39)) (fun y_43 => (Sum.inl (y_43, (g_9 + 1))))))))))
noncomputable def sp_EM_state (x16 : Nat) (x29 : Nat) (x52 : Nat) (x53 : Nat) (f3 : Nat → Int32) (q4 : Nat → Nat) (q5 : Nat → Nat) (q6 : Nat → Nat) (q7 : Nat → Nat) (f8 : Nat → Int32) (q9 : Nat → Nat) (q10 : Nat → Nat) (f11 : Nat → Int32) (m12_0 : Nat) (m12_1 : Nat) (m13_0 : Nat) (m13_1 : Nat) (m14_0 : Nat) (m14_1 : Nat) (f34 : Nat → Int32) (f35 : Nat → Int32) (f36 : Nat → Int32) (q38 : Nat → Nat) (f39 : Nat → Int32) (f40 : Nat → Int32) (f41 : Nat → Int32) (m42_0 : Nat) (f49 : Nat → Int32) (f50 : Nat → Int32) (f51 : Nat → Int32) (p0 : Int32) (p1 : Int32) : Int32 × (Nat → Int32) × (Nat → Int32) × (Nat → Int32) × (Nat → Int32) × (Nat → Int32) × Int32 × Nat × Nat × Nat := (slet (sp_EM_isState x16 x29 m12_0 m12_1 m42_0 p0) (fun z46_2 => (if x29 = 1 ∧ (0 : Int32) ≤ p0 ∧ p0 < nI m42_0 then (slet ((p0 : Int32).toNatClampNeg) (fun n_3 => (if (0 : Int32) ≤ p1 ∧ p1 ≤ 5 then (slet ((p1 : Int32).toNatClampNeg) (fun n_5 => (itrv (α := Int32 × Nat) (β := (Int32 × (Nat → Int32) × (Nat → Int32) × (Nat → Int32) × (Nat → Int32) × (Nat → Int32) × Int32 × Nat × Nat × Nat)) default (sp_EM_state_L1 x16 x52 x53 f3 q4 q5 q6 q7 f8 q9 q10 f11 m13_0 m13_1 m14_0 m14_1 f34 f35 f36 q38 f39 f40 f41 m42_0 f49 f50 f51 z46_2 n_3 n_5) (0, 1)))) else ((-1), f35, f36, f49, f50, f51, 0, z46_2, x52, x53)))) else ((-1), f35, f36, f49, f50, f51, 0, z46_2, x52, x53))))
set_option maxHeartbeats 4000000 in
set_option maxRecDepth 100000 in
theorem c_EM_state (l : Launch) (dC : Nat → ClassId) (dI : Nat → Nat → Nat) (sz : Nat) (ad : Nat → Nat) (ck : Nat → ClassId) (x0 : Int32) (x16 : Nat) (x18 : Nat) (x19 : Nat) (x20 : Int32) (x21 : Nat) (x22 : Nat) (x23 : Int32) (x24 : Int32) (x25 : Int32) (x26 : Nat) (x27 : Int32) (x28 : Nat) (x29 : Nat) (x30 : Nat) (x33 : Nat) (x45 : Int32) (x46 : Nat) (x52 : Nat) (x53 : Nat) (x61 : Nat) (x62 : Nat) (x63 : Nat) (x65 : Nat) (x66 : Int32) (f1 : Nat → Int32) (f2 : Nat → Int32) (f3 : Nat → Int32) (q4 : Nat → Nat) (q5 : Nat → Nat) (q6 : Nat → Nat) (q7 : Nat → Nat) (f8 : Nat → Int32) (q9 : Nat → Nat) (q10 : Nat → Nat) (f11 : Nat → Int32) (m12_0 m12_1 : Nat) (m13_0 m13_1 : Nat) (m14_0 m14_1 : Nat) (m15_0 m15_1 : Nat) (f17 : Nat → Int32) (q31 : Nat → Nat) (f32 : Nat → Int32) (f34 : Nat → Int32) (f35 : Nat → Int32) (f36 : Nat → Int32) (f37 : Nat → Int32) (q38 : Nat → Nat) (f39 : Nat → Int32) (f40 : Nat → Int32) (f41 : Nat → Int32) (m42_0 m42_1 : Nat) (f43 : Nat → Int32) (f44 : Nat → Int32) (f47 : Nat → Int32) (f48 : Nat → Int32) (f49 : Nat → Int32) (f50 : Nat → Int32) (f51 : Nat → Int32) (q54 : Nat → Nat) (q55 : Nat → Nat) (q56 : Nat → Nat) (f57 : Nat → Int32) (q58 : Nat → Nat) (f59 : Nat → Int32) (f60 : Nat → Int32) (f64 : Nat → Int32) (p0 : Int32) (p1 : Int32) (hx16 : x16 ≤ 1) (hx18 : x18 ≤ 900) (hx19 : x19 ≤ 900) (hx21 : x21 ≤ 900) (hx22 : x22 ≤ 4) (hx26 : x26 ≤ 6) (hx28 : x28 ≤ 1) (hx29 : x29 ≤ 1) (hx30 : x30 ≤ 1) (hx33 : x33 ≤ 20) (hx46 : x46 ≤ 5) (hx52 : x52 ≤ 2400) (hx53 : x53 ≤ 119) (hx61 : x61 ≤ 119) (hx62 : x62 ≤ 2000) (hx63 : x63 ≤ 1) (hx65 : x65 ≤ 7) (hm12_0 : m12_0 ≤ 3) (hm12_1 : m12_1 ≤ 3) (hm13_0 : m13_0 ≤ 8) (hm13_1 : m13_1 ≤ 8) (hm14_0 : m14_0 ≤ 14) (hm14_1 : m14_1 ≤ 14) (hm15_0 : m15_0 ≤ 8) (hm15_1 : m15_1 ≤ 8) (hm42_0 : m42_0 ≤ 120) (hm42_1 : m42_1 ≤ 400) : Met l yX9_state vs_EM_state ({ frames := 6, cells := 0, slots := 0, locals := 135 }) (va_Pc [.ref (ad 0), .int p0, .int p1] (pu_B (dC, dI) (mo_w ad ck x0 (nI x16) (nI x18) (nI x19) x20 (nI x21) (nI x22) x23 x24 x25 (nI x26) x27 (nI x28) (nI x29) (nI x30) (nI x33) x45 (nI x46) (nI x52) (nI x53) (nI x61) (nI x62) (nI x63) (nI x65) x66 f1 f2 f3 (bN 3 q4) (bN 7 q5) (bN 7 q6) (bN 4 q7) f8 (bN 2 q9) (bH q10) f11 (b2 m12_0 m12_1) (b2 m13_0 m13_1) (b2 m14_0 m14_1) (b2m m15_0 m15_1) f17 (bA 159 q31) f32 f34 f35 f36 f37 (bN 7 q38) f39 f40 f41 (b2 m42_0 m42_1) f43 f44 f47 f48 f49 f50 f51 (bN 13 q54) (bN 120 q55) (bN 120 q56) f57 (bN 120 q58) f59 f60 f64) (mo_t ck) sz)) (va_Qi (fun (r : Int32) (_ : Unit) => r = (sp_EM_state x16 x29 x52 x53 f3 q4 q5 q6 q7 f8 q9 q10 f11 m12_0 m12_1 m13_0 m13_1 m14_0 m14_1 f34 f35 f36 q38 f39 f40 f41 m42_0 f49 f50 f51 p0 p1).1) (fun _ t => ∃ (z35 : Nat → Int32) (z36 : Nat → Int32) (z49 : Nat → Int32) (z50 : Nat → Int32) (z51 : Nat → Int32) (z0 : Int32) (z46 : Nat) (z52 : Nat) (z53 : Nat), pu_E (dC, dI) (mo_w ad ck z0 (nI x16) (nI x18) (nI x19) x20 (nI x21) (nI x22) x23 x24 x25 (nI x26) x27 (nI x28) (nI x29) (nI x30) (nI x33) x45 (nI z46) (nI z52) (nI z53) (nI x61) (nI x62) (nI x63) (nI x65) x66 f1 f2 f3 (bN 3 q4) (bN 7 q5) (bN 7 q6) (bN 4 q7) f8 (bN 2 q9) (bH q10) f11 (b2 m12_0 m12_1) (b2 m13_0 m13_1) (b2 m14_0 m14_1) (b2m m15_0 m15_1) f17 (bA 159 q31) f32 f34 z35 z36 f37 (bN 7 q38) f39 f40 f41 (b2 m42_0 m42_1) f43 f44 f47 f48 z49 z50 z51 (bN 13 q54) (bN 120 q55) (bN 120 q56) f57 (bN 120 q58) f59 f60 f64) (mo_t ck) (va_A ((mo_w ad ck x0 (nI x16) (nI x18) (nI x19) x20 (nI x21) (nI x22) x23 x24 x25 (nI x26) x27 (nI x28) (nI x29) (nI x30) (nI x33) x45 (nI x46) (nI x52) (nI x53) (nI x61) (nI x62) (nI x63) (nI x65) x66 f1 f2 f3 (bN 3 q4) (bN 7 q5) (bN 7 q6) (bN 4 q7) f8 (bN 2 q9) (bH q10) f11 (b2 m12_0 m12_1) (b2 m13_0 m13_1) (b2 m14_0 m14_1) (b2m m15_0 m15_1) f17 (bA 159 q31) f32 f34 f35 f36 f37 (bN 7 q38) f39 f40 f41 (b2 m42_0 m42_1) f43 f44 f47 f48 f49 f50 f51 (bN 13 q54) (bN 120 q55) (bN 120 q56) f57 (bN 120 q58) f59 f60 f64)) sz) t ∧ (z46 ≤ 5) ∧ (z52 ≤ 2400) ∧ (z53 ≤ 119) ∧ ((z35, z36, z49, z50, z51, z0, z46, z52, z53) = (sp_EM_state x16 x29 x52 x53 f3 q4 q5 q6 q7 f8 q9 q10 f11 m12_0 m12_1 m13_0 m13_1 m14_0 m14_1 f34 f35 f36 q38 f39 f40 f41 m42_0 f49 f50 f51 p0 p1).2)) (va_A ((mo_w ad ck x0 (nI x16) (nI x18) (nI x19) x20 (nI x21) (nI x22) x23 x24 x25 (nI x26) x27 (nI x28) (nI x29) (nI x30) (nI x33) x45 (nI x46) (nI x52) (nI x53) (nI x61) (nI x62) (nI x63) (nI x65) x66 f1 f2 f3 (bN 3 q4) (bN 7 q5) (bN 7 q6) (bN 4 q7) f8 (bN 2 q9) (bH q10) f11 (b2 m12_0 m12_1) (b2 m13_0 m13_1) (b2 m14_0 m14_1) (b2m m15_0 m15_1) f17 (bA 159 q31) f32 f34 f35 f36 f37 (bN 7 q38) f39 f40 f41 (b2 m42_0 m42_1) f43 f44 f47 f48 f49 f50 f51 (bN 13 q54) (bN 120 q55) (bN 120 q56) f57 (bN 120 q58) f59 f60 f64)) sz)) 0 0 (va_A ((mo_w ad ck x0 (nI x16) (nI x18) (nI x19) x20 (nI x21) (nI x22) x23 x24 x25 (nI x26) x27 (nI x28) (nI x29) (nI x30) (nI x33) x45 (nI x46) (nI x52) (nI x53) (nI x61) (nI x62) (nI x63) (nI x65) x66 f1 f2 f3 (bN 3 q4) (bN 7 q5) (bN 7 q6) (bN 4 q7) f8 (bN 2 q9) (bH q10) f11 (b2 m12_0 m12_1) (b2 m13_0 m13_1) (b2 m14_0 m14_1) (b2m m15_0 m15_1) f17 (bA 159 q31) f32 f34 f35 f36 f37 (bN 7 q38) f39 f40 f41 (b2 m42_0 m42_1) f43 f44 f47 f48 f49 f50 f51 (bN 13 q54) (bN 120 q55) (bN 120 q56) f57 (bN 120 q58) f59 f60 f64)) sz) := by
  refine Met.ofW (cc := cX9_state) (maxL := 5) (ret := (some .int)) (by decide) rfl ?_
  intro p e s m args below meth c s₁ B hml hv
  obtain ⟨rfl, rfl, hP, hK, hD0⟩ := hv
  have hx := B.exec
  have hb := B.bytes
  have hr := B.returns
  have hts := atoms_spec (ws := vs_EM_state) B.pre
  have v_1 := hts (.fieldLink RX9 142 "ClockReachModel" "thrown" "I") (List.mem_cons_of_mem _ vm_5)
  have v_10 := hts (.fieldLink RX9 92 "ClockReachModel" "stateMany" "[I") (List.mem_cons_of_mem _ vm_164)
  have v_11 := hts (.fieldLink RX9 83 "ClockReachModel" "stateFrom" "[I") (List.mem_cons_of_mem _ vm_239)
  have v_12 := hts (.fieldLink RX9 80 "ClockReachModel" "statePlace" "[I") (List.mem_cons_of_mem _ vm_223)
  have v_13 := hts (.fieldLink RX9 86 "ClockReachModel" "stateBy" "[I") (List.mem_cons_of_mem _ vm_240)
  have v_14 := hts (.fieldLink RX9 89 "ClockReachModel" "stateDeep" "[I") (List.mem_cons_of_mem _ vm_241)
  have hown : s.vm.findClass RX9 = some m.cls := findClass_of_methodNamed B.named
  have hlocks := B.notSynchronized
  have hiX9 : ∀ w ∈ wsX90, w ∈ vs_EM_state := fun _ h => List.mem_cons_of_mem _ (vmi_L h)
  have hD := hD0.self (sz := s.heap.size)
  generalize hAe : va_A ((mo_w ad ck x0 (nI x16) (nI x18) (nI x19) x20 (nI x21) (nI x22) x23 x24 x25 (nI x26) x27 (nI x28) (nI x29) (nI x30) (nI x33) x45 (nI x46) (nI x52) (nI x53) (nI x61) (nI x62) (nI x63) (nI x65) x66 f1 f2 f3 (bN 3 q4) (bN 7 q5) (bN 7 q6) (bN 4 q7) f8 (bN 2 q9) (bH q10) f11 (b2 m12_0 m12_1) (b2 m13_0 m13_1) (b2 m14_0 m14_1) (b2m m15_0 m15_1) f17 (bA 159 q31) f32 f34 f35 f36 f37 (bN 7 q38) f39 f40 f41 (b2 m42_0 m42_1) f43 f44 f47 f48 f49 f50 f51 (bN 13 q54) (bN 120 q55) (bN 120 q56) f57 (bN 120 q58) f59 f60 f64)) s.heap.size = A at hD ⊢
  have hA : ∀ q : Nat, s.heap.size ≤ q → A q := fun q h => by rw [← hAe]; exact Or.inr h
  have hS : va_S A s.heap s.heap [] := va_S.rf
  have hl := lv_entry ([.ref (ad 0), .int p0, .int p1]) (n := 5) (Nat.le_of_ble_eq_true rfl)
  rw [lg_entry_eq]
  generalize (lg_sl ([.ref (ad 0), .int p0, .int p1]) ++ List.replicate (5 - (lg_sl ([.ref (ad 0), .int p0, .int p1])).length) Slot.unset).toArray = ls at hl ⊢
  have hl : lv_has ls 5 [(0, .ref (ad 0)), (1, .int p0), (2, .int p1)] := hl
  obtain ⟨RR, hRR⟩ : ∃ x, x = (sp_EM_state x16 x29 x52 x53 f3 q4 q5 q6 q7 f8 q9 q10 f11 m12_0 m12_1 m13_0 m13_1 m14_0 m14_1 f34 f35 f36 q38 f39 f40 f41 m42_0 f49 f50 f51 p0 p1) := ⟨_, rfl⟩
  have hsp := hRR
  refine lv_aload_n hx hb dX9_state_0 rfl (lv_at hl 0 rfl) ?_
  refine lv_iconst (v := 0) hx hb dX9_state_1 (by decide) ?_
  refine va_put (D := (dC, dI)) (ci := 9) (v := .int 0) (ty := .int) (C := RX9) (T := TX9) (N := 67) hx hb hts hiX9 tyX9 tyX9_ok nmX9 hown hK hP hD hS 0 rfl rfl 0 (by decide) v_1 (fun _ h9 => h9) rfl (by decide +kernel) rfl rfl (Nat.le_of_ble_eq_true rfl) dX9_state_2 (fun H locs hP hD hS => ?_)
  have hP : va_P (dC, dI) vwCl (mo_w ad ck 0 (nI x16) (nI x18) (nI x19) x20 (nI x21) (nI x22) x23 x24 x25 (nI x26) x27 (nI x28) (nI x29) (nI x30) (nI x33) x45 (nI x46) (nI x52) (nI x53) (nI x61) (nI x62) (nI x63) (nI x65) x66 f1 f2 f3 (bN 3 q4) (bN 7 q5) (bN 7 q6) (bN 4 q7) f8 (bN 2 q9) (bH q10) f11 (b2 m12_0 m12_1) (b2 m13_0 m13_1) (b2 m14_0 m14_1) (b2m m15_0 m15_1) f17 (bA 159 q31) f32 f34 f35 f36 f37 (bN 7 q38) f39 f40 f41 (b2 m42_0 m42_1) f43 f44 f47 f48 f49 f50 f51 (bN 13 q54) (bN 120 q55) (bN 120 q56) f57 (bN 120 q58) f59 f60 f64) H := hP
  have hD : va_D A (mo_w ad ck 0 (nI x16) (nI x18) (nI x19) x20 (nI x21) (nI x22) x23 x24 x25 (nI x26) x27 (nI x28) (nI x29) (nI x30) (nI x33) x45 (nI x46) (nI x52) (nI x53) (nI x61) (nI x62) (nI x63) (nI x65) x66 f1 f2 f3 (bN 3 q4) (bN 7 q5) (bN 7 q6) (bN 4 q7) f8 (bN 2 q9) (bH q10) f11 (b2 m12_0 m12_1) (b2 m13_0 m13_1) (b2 m14_0 m14_1) (b2m m15_0 m15_1) f17 (bA 159 q31) f32 f34 f35 f36 f37 (bN 7 q38) f39 f40 f41 (b2 m42_0 m42_1) f43 f44 f47 f48 f49 f50 f51 (bN 13 q54) (bN 120 q55) (bN 120 q56) f57 (bN 120 q58) f59 f60 f64) := hD
  refine lv_aload_n hx hb dX9_state_5 rfl (lv_at hl 0 rfl) ?_
  refine lv_iload_n hx hb dX9_state_6 rfl (lv_at hl 1 rfl) ?_
  have hFc := pu_free hD hS hA
  refine va_calli (va_runV (As := [.int p0]) (rest := []) ⟨hx, hb, hml, hown, hts⟩ (c_EM_isState l dC dI _ ad ck 0 x16 x18 x19 x20 x21 x22 x23 x24 x25 x26 x27 x28 x29 x30 x33 x45 x46 x52 x53 x61 x62 x63 x65 x66 f1 f2 f3 q4 q5 q6 q7 f8 q9 q10 f11 m12_0 m12_1 m13_0 m13_1 m14_0 m14_1 m15_0 m15_1 f17 q31 f32 f34 f35 f36 f37 q38 f39 f40 f41 m42_0 m42_1 f43 f44 f47 f48 f49 f50 f51 q54 q55 q56 f57 q58 f59 f60 f64 p0 hx16 hx18 hx19 hx21 hx22 hx26 hx28 hx29 hx30 hx33 hx46 hx52 hx53 hx61 hx62 hx63 hx65 hm12_0 hm12_1 hm13_0 hm13_1 hm14_0 hm14_1 hm15_0 hm15_1 hm42_0 hm42_1) (cwV 1 hts g_EM_state_EM_isState rfl rfl rfl (by decide +kernel) ⟨Nat.le_of_ble_eq_true rfl, Nat.le_of_ble_eq_true rfl⟩) ⟨pu_bl, va_recv hK hP (ci := 9) (q0 := 0) rfl rfl, pu_in hP hK hD⟩ rfl rfl hl.1 rfl (lv_room (Nat.le_of_ble_eq_true rfl)) dX9_state_7 ⟨Nat.le_of_ble_eq_true rfl, Nat.le_of_ble_eq_true rfl⟩) hS (fun q _ h => hFc q h) hFc (fun r_1 u t H1 locs ht hvm hw hB hz1 hk1 hS => ?_)
  obtain ⟨z46_2, ⟨hP1, -, hD1⟩, hz46_2, xr_1_0⟩ := hB
  rw [ht] at hP1
  have hP := hP1
  have hD := pu_all hFc hD1
  clear hP1 hD1 hFc
  clear hk1 hz1 ht hvm
  generalize H1 = H at hP hS ⊢
  replace hsp := hsp.trans (slet_eq xr_1_0)
  rcases hw with ⟨rfl, hw⟩ | ⟨rfl, hn⟩
  · obtain ⟨hs1, n_3, hn_3, rfl⟩ := hw
    replace hsp := hsp.trans (if_pos ⟨hs1, in_q hn_3 (by omega)⟩)
    replace hsp := hsp.trans (slet_eq (nI_cl (n := n_3) (by omega)))
    refine lv_if_eq (tgt := 22) hx hb dX9_state_10 (by decide) (fun z => absurd z (by decide)) (fun _ => ?_)
    refine lv_iload_n hx hb dX9_state_13 rfl (lv_at hl 2 rfl) ?_
    refine lv_iconst (v := 0) hx hb dX9_state_14 (by decide) ?_
    refine lv_iconst (v := 5) hx hb dX9_state_15 (by decide) ?_
    refine va_calli (va_runS (As := [.int p1, .int 0, .int 5]) (rest := []) ⟨hx, hb, hml, hown, hts⟩ (c_X9_in l dC dI _ p1 0 5) (va_cwS 3 hts g_EM_state_X9_in rfl rfl rfl (by decide +kernel) ⟨Nat.le_of_ble_eq_true rfl, Nat.le_of_ble_eq_true rfl⟩) ⟨pu_bl, pu_in (hP.sub [] rfl) (hK.sub [] rfl) (hD.sub [] (by decide) rfl)⟩ rfl rfl hl.1 rfl (lv_room (Nat.le_of_ble_eq_true rfl)) dX9_state_16 ⟨Nat.le_of_ble_eq_true rfl, Nat.le_of_ble_eq_true rfl⟩) hS (fun q _ h => pu_fr hS hA q h) (pu_fr hS hA) (fun r_4 u t H1 locs ht hvm hw hB hz1 hk1 hS => ?_)
    have hP := pu_keep hP hk1
    clear hk1 hz1 ht hvm
    generalize H1 = H at hP hS ⊢
    rcases hw with ⟨rfl, hi1, hi2⟩ | ⟨rfl, hi3⟩
    · replace hsp := hsp.trans (if_pos ⟨hi1, hi2⟩)
      obtain ⟨n_5, hn_5, rfl⟩ := pu_in0 (n := 5) (by omega) hi1 hi2
      replace hsp := hsp.trans (slet_eq (nI_cl (n := n_5) (by omega)))
      refine lv_if_ne (tgt := 24) hx hb dX9_state_19 (by decide) (fun _ => ?_) (fun z => absurd z (by decide))
      refine lv_iconst (v := 0) hx hb dX9_state_24 (by decide) ?_
      refine lv_istore_n (lv' := [(3, .int 0), (0, .ref (ad 0)), (1, .int (nI n_3)), (2, .int (nI n_5))]) hx hb dX9_state_25 rfl hl (by decide) rfl (fun ls hl => ?_)
      refine lv_iconst (v := 1) hx hb dX9_state_26 (by decide) ?_
      refine lv_istore (lv' := [(4, .int 1), (3, .int 0), (0, .ref (ad 0)), (1, .int (nI n_3)), (2, .int (nI n_5))]) hx hb dX9_state_27 hl (by decide) rfl (fun ls hl => ?_)
      obtain ⟨lf_11, dlf_11, hlf_11, hsp⟩ := itr_ex hsp
      delta sp_EM_state_L1 at hlf_11
      refine pu_while (fun nn H locs ls => ∃ (g_8 : Int32) (g_9 : Nat), nn = 120 - g_9 ∧ (1 ≤ g_9 ∧ g_9 ≤ 120) ∧ RR = itrv dlf_11 lf_11 (g_8, g_9) ∧ va_P (dC, dI) vwCl (mo_w ad ck 0 (nI x16) (nI x18) (nI x19) x20 (nI x21) (nI x22) x23 x24 x25 (nI x26) x27 (nI x28) (nI x29) (nI x30) (nI x33) x45 (nI z46_2) (nI x52) (nI x53) (nI x61) (nI x62) (nI x63) (nI x65) x66 f1 f2 f3 (bN 3 q4) (bN 7 q5) (bN 7 q6) (bN 4 q7) f8 (bN 2 q9) (bH q10) f11 (b2 m12_0 m12_1) (b2 m13_0 m13_1) (b2 m14_0 m14_1) (b2m m15_0 m15_1) f17 (bA 159 q31) f32 f34 f35 f36 f37 (bN 7 q38) f39 f40 f41 (b2 m42_0 m42_1) f43 f44 f47 f48 f49 f50 f51 (bN 13 q54) (bN 120 q55) (bN 120 q56) f57 (bN 120 q58) f59 f60 f64) H ∧ va_D A (mo_w ad ck 0 (nI x16) (nI x18) (nI x19) x20 (nI x21) (nI x22) x23 x24 x25 (nI x26) x27 (nI x28) (nI x29) (nI x30) (nI x33) x45 (nI z46_2) (nI x52) (nI x53) (nI x61) (nI x62) (nI x63) (nI x65) x66 f1 f2 f3 (bN 3 q4) (bN 7 q5) (bN 7 q6) (bN 4 q7) f8 (bN 2 q9) (bH q10) f11 (b2 m12_0 m12_1) (b2 m13_0 m13_1) (b2 m14_0 m14_1) (b2m m15_0 m15_1) f17 (bA 159 q31) f32 f34 f35 f36 f37 (bN 7 q38) f39 f40 f41 (b2 m42_0 m42_1) f43 f44 f47 f48 f49 f50 f51 (bN 13 q54) (bN 120 q55) (bN 120 q56) f57 (bN 120 q58) f59 f60 f64) ∧ va_S A s.heap H locs ∧ lv_has ls 5 [(0, .ref (ad 0)), (1, .int (nI n_3)), (2, .int (nI n_5)), (3, .int g_8), (4, .int (nI g_9))]) 29 ?_ _ _ _ _ ⟨0, 1, rfl, ⟨by omega, by omega⟩, hsp, hP, hD, hS, lv_sub hl [2, 3, 4, 1, 0] rfl⟩
      rintro nn ih_10 H locs ls ⟨g_8, g_9, rfl, hg_9, he_13, hP, hD, hS, hl⟩
      obtain ⟨S_12, hsp, hin_14, hout_15⟩ := itr_step hlf_11 he_13
      refine lv_iload hx hb dX9_state_29 (lv_at hl 4 rfl) ?_
      refine lv_aload_n hx hb dX9_state_31 rfl (lv_at hl 0 rfl) ?_
      refine va_get (D := (dC, dI)) (ci := 9) (v := .ref (ad 42)) (C := RX9) (T := TX9) (N := 67) hx hb hts hiX9 hown hK hP 0 rfl rfl 42 (by decide) v_10 (fun _ h9 => h9) rfl dX9_state_32 ?_
      refine lv_iconst (v := 0) hx hb dX9_state_35 (by decide) ?_
      refine va_iald hx hb hK hP 27 26 rfl rfl (vp_in_nI (n := 0) (Nat.le_of_ble_eq_true rfl) (Nat.le_of_ble_eq_true rfl)) dX9_state_36 ?_
      refine lv_topi (fun y_16 ey_16 => ?_)
      have qy_16 := ey_16.trans b2_0
      clear ey_16
      obtain rfl : y_16 = nI m42_0 := qy_16
      refine lv_icmp_ge (tgt := 65) hx hb dX9_state_37 (by decide) (fun c_17 => ?_) (fun c_17 => ?_)
      · have c_17 : m42_0 ≤ g_9 := (nI_leI (a := m42_0) (b := g_9) (Nat.lt_of_le_of_lt hm42_0 (Nat.le_of_ble_eq_true rfl)) (Nat.lt_of_le_of_lt hg_9.2 (Nat.le_of_ble_eq_true rfl))).mp c_17
        replace hsp := hsp.trans (if_pos c_17)
        have hsp := hout_15 _ hsp
        refine lv_iload_n hx hb dX9_state_65 rfl (lv_at hl 2 rfl) ?_
        by_cases w_18 : n_5 = 0
        · subst w_18
          replace hsp := hsp.trans (if_pos rfl)
          refine lv_tableIn (tgt := 100) (off := 34) hx hb dX9_state_66 (by decide) (by decide) rfl (by decide) ?_
          refine lv_aload_n hx hb dX9_state_100 rfl (lv_at hl 0 rfl) ?_
          refine va_get (D := (dC, dI)) (ci := 9) (v := .ref (ad 38)) (C := RX9) (T := TX9) (N := 67) hx hb hts hiX9 hown hK hP 0 rfl rfl 38 (by decide) v_12 (fun _ h9 => h9) rfl dX9_state_101 ?_
          refine lv_iload_n hx hb dX9_state_104 rfl (lv_at hl 1 rfl) ?_
          refine va_iald hx hb hK hP 23 22 rfl rfl (vp_in_nI (n := n_3) (by omega) (Nat.le_of_ble_eq_true rfl)) dX9_state_105 ?_
          refine lv_topi (fun y_19 ey_19 => ?_)
          obtain ⟨u_20, hu_20, qu_20, xu_20⟩ := bN_getx 7 q38 (n := n_3) (by omega)
          obtain rfl : y_19 = nI u_20 := ey_19.trans qu_20
          replace hsp := hsp.trans (slet_eq xu_20)
          exact W.iret (v := (nI u_20)) hx hb hr (fun t ht hW => ⟨⟨(nI u_20), (), rfl, (congrArg Prod.fst (hsp.symm.trans hRR)), ⟨f35, f36, f49, f50, f51, 0, z46_2, x52, x53, ⟨by rw [ht]; exact hP, va_K.moved hW.alike hK, hD⟩, (Nat.le_trans hz46_2 (Nat.le_of_ble_eq_true rfl)), hx52, hx53, (congrArg Prod.snd (hsp.symm.trans hRR))⟩⟩, hS.F ht⟩) hS.2.2 dX9_state_106
        replace hsp := hsp.trans (if_neg w_18)
        by_cases w_21 : n_5 = 1
        · subst w_21
          replace hsp := hsp.trans (if_pos rfl)
          refine lv_tableIn (tgt := 107) (off := 41) hx hb dX9_state_66 (by decide) (by decide) rfl (by decide) ?_
          refine lv_aload_n hx hb dX9_state_107 rfl (lv_at hl 0 rfl) ?_
          refine va_get (D := (dC, dI)) (ci := 9) (v := .ref (ad 39)) (C := RX9) (T := TX9) (N := 67) hx hb hts hiX9 hown hK hP 0 rfl rfl 39 (by decide) v_11 (fun _ h9 => h9) rfl dX9_state_108 ?_
          refine lv_iload_n hx hb dX9_state_111 rfl (lv_at hl 1 rfl) ?_
          refine va_iald hx hb hK hP 24 23 rfl rfl (vp_in_nI (n := n_3) (by omega) (Nat.le_of_ble_eq_true rfl)) dX9_state_112 ?_
          refine lv_topi (fun y_22 ey_22 => ?_)
          have ey_22 : y_22 = f39 n_3 := ey_22.trans (congrArg f39 (nI_clamp (n := n_3) (by omega)))
          replace hsp := hsp.trans (slet_eq ey_22)
          exact W.iret (v := y_22) hx hb hr (fun t ht hW => ⟨⟨y_22, (), rfl, (congrArg Prod.fst (hsp.symm.trans hRR)), ⟨f35, f36, f49, f50, f51, 0, z46_2, x52, x53, ⟨by rw [ht]; exact hP, va_K.moved hW.alike hK, hD⟩, (Nat.le_trans hz46_2 (Nat.le_of_ble_eq_true rfl)), hx52, hx53, (congrArg Prod.snd (hsp.symm.trans hRR))⟩⟩, hS.F ht⟩) hS.2.2 dX9_state_113
        replace hsp := hsp.trans (if_neg w_21)
        by_cases w_23 : n_5 = 2
        · subst w_23
          replace hsp := hsp.trans (if_pos rfl)
          refine lv_tableIn (tgt := 114) (off := 48) hx hb dX9_state_66 (by decide) (by decide) rfl (by decide) ?_
          refine lv_aload_n hx hb dX9_state_114 rfl (lv_at hl 0 rfl) ?_
          refine va_get (D := (dC, dI)) (ci := 9) (v := .ref (ad 40)) (C := RX9) (T := TX9) (N := 67) hx hb hts hiX9 hown hK hP 0 rfl rfl 40 (by decide) v_13 (fun _ h9 => h9) rfl dX9_state_115 ?_
          refine lv_iload_n hx hb dX9_state_118 rfl (lv_at hl 1 rfl) ?_
          refine va_iald hx hb hK hP 25 24 rfl rfl (vp_in_nI (n := n_3) (by omega) (Nat.le_of_ble_eq_true rfl)) dX9_state_119 ?_
          refine lv_topi (fun y_24 ey_24 => ?_)
          have ey_24 : y_24 = f40 n_3 := ey_24.trans (congrArg f40 (nI_clamp (n := n_3) (by omega)))
          replace hsp := hsp.trans (slet_eq ey_24)
          exact W.iret (v := y_24) hx hb hr (fun t ht hW => ⟨⟨y_24, (), rfl, (congrArg Prod.fst (hsp.symm.trans hRR)), ⟨f35, f36, f49, f50, f51, 0, z46_2, x52, x53, ⟨by rw [ht]; exact hP, va_K.moved hW.alike hK, hD⟩, (Nat.le_trans hz46_2 (Nat.le_of_ble_eq_true rfl)), hx52, hx53, (congrArg Prod.snd (hsp.symm.trans hRR))⟩⟩, hS.F ht⟩) hS.2.2 dX9_state_120
        replace hsp := hsp.trans (if_neg w_23)
        by_cases w_25 : n_5 = 3
        · subst w_25
          replace hsp := hsp.trans (if_pos rfl)
          refine lv_tableIn (tgt := 121) (off := 55) hx hb dX9_state_66 (by decide) (by decide) rfl (by decide) ?_
          refine lv_aload_n hx hb dX9_state_121 rfl (lv_at hl 0 rfl) ?_
          refine va_get (D := (dC, dI)) (ci := 9) (v := .ref (ad 41)) (C := RX9) (T := TX9) (N := 67) hx hb hts hiX9 hown hK hP 0 rfl rfl 41 (by decide) v_14 (fun _ h9 => h9) rfl dX9_state_122 ?_
          refine lv_iload_n hx hb dX9_state_125 rfl (lv_at hl 1 rfl) ?_
          refine va_iald hx hb hK hP 26 25 rfl rfl (vp_in_nI (n := n_3) (by omega) (Nat.le_of_ble_eq_true rfl)) dX9_state_126 ?_
          refine lv_topi (fun y_26 ey_26 => ?_)
          have ey_26 : y_26 = f41 n_3 := ey_26.trans (congrArg f41 (nI_clamp (n := n_3) (by omega)))
          replace hsp := hsp.trans (slet_eq ey_26)
          exact W.iret (v := y_26) hx hb hr (fun t ht hW => ⟨⟨y_26, (), rfl, (congrArg Prod.fst (hsp.symm.trans hRR)), ⟨f35, f36, f49, f50, f51, 0, z46_2, x52, x53, ⟨by rw [ht]; exact hP, va_K.moved hW.alike hK, hD⟩, (Nat.le_trans hz46_2 (Nat.le_of_ble_eq_true rfl)), hx52, hx53, (congrArg Prod.snd (hsp.symm.trans hRR))⟩⟩, hS.F ht⟩) hS.2.2 dX9_state_127
        replace hsp := hsp.trans (if_neg w_25)
        by_cases w_27 : n_5 = 4
        · subst w_27
          replace hsp := hsp.trans (if_pos rfl)
          refine lv_tableIn (tgt := 128) (off := 62) hx hb dX9_state_66 (by decide) (by decide) rfl (by decide) ?_
          refine lv_iload_n hx hb dX9_state_128 rfl (lv_at hl 3 rfl) ?_
          exact W.iret (v := g_8) hx hb hr (fun t ht hW => ⟨⟨g_8, (), rfl, (congrArg Prod.fst (hsp.symm.trans hRR)), ⟨f35, f36, f49, f50, f51, 0, z46_2, x52, x53, ⟨by rw [ht]; exact hP, va_K.moved hW.alike hK, hD⟩, (Nat.le_trans hz46_2 (Nat.le_of_ble_eq_true rfl)), hx52, hx53, (congrArg Prod.snd (hsp.symm.trans hRR))⟩⟩, hS.F ht⟩) hS.2.2 dX9_state_129
        replace hsp := hsp.trans (if_neg w_27)
        refine lv_tableOut (tgt := 130) hx hb dX9_state_66 (by
            have zt := nI_toInt (n := n_5) (by omega)
            omega) (by decide) ?_
        refine lv_aload_n hx hb dX9_state_130 rfl (lv_at hl 0 rfl) ?_
        refine lv_iload_n hx hb dX9_state_131 rfl (lv_at hl 1 rfl) ?_
        have hFc := pu_free hD hS hA
        refine va_calli (va_runV (As := [.int (nI n_3)]) (rest := []) ⟨hx, hb, hml, hown, hts⟩ (c_EM_isStuck l dC dI _ ad ck 0 x16 x18 x19 x20 x21 x22 x23 x24 x25 x26 x27 x28 x29 x30 x33 x45 z46_2 x52 x53 x61 x62 x63 x65 x66 f1 f2 f3 q4 q5 q6 q7 f8 q9 q10 f11 m12_0 m12_1 m13_0 m13_1 m14_0 m14_1 m15_0 m15_1 f17 q31 f32 f34 f35 f36 f37 q38 f39 f40 f41 m42_0 m42_1 f43 f44 f47 f48 f49 f50 f51 q54 q55 q56 f57 q58 f59 f60 f64 n_3 hx16 hx18 hx19 hx21 hx22 hx26 hx28 hx29 hx30 hx33 (Nat.le_trans hz46_2 (Nat.le_of_ble_eq_true rfl)) hx52 hx53 hx61 hx62 hx63 hx65 hm12_0 hm12_1 hm13_0 hm13_1 hm14_0 hm14_1 hm15_0 hm15_1 hm42_0 hm42_1 (by omega)) (cwV 1 hts g_EM_state_EM_isStuck rfl rfl rfl (by decide +kernel) ⟨Nat.le_of_ble_eq_true rfl, Nat.le_of_ble_eq_true rfl⟩) ⟨pu_bl, va_recv hK hP (ci := 9) (q0 := 0) rfl rfl, pu_in hP hK hD⟩ rfl rfl hl.1 rfl (lv_room (Nat.le_of_ble_eq_true rfl)) dX9_state_132 ⟨Nat.le_of_ble_eq_true rfl, Nat.le_of_ble_eq_true rfl⟩) hS (fun q _ h => hFc q h) hFc (fun r_28 u t H1 locs ht hvm hw hB hz1 hk1 hS => ?_)
        obtain ⟨z35_29, z36_30, z49_31, z50_32, z51_33, z52_34, z53_35, ⟨hP1, -, hD1⟩, hz52_34, hz53_35, xr_28_0⟩ := hB
        rw [ht] at hP1
        have hP := hP1
        have hD := pu_all hFc hD1
        clear hP1 hD1 hFc
        clear hk1 hz1 ht hvm
        generalize H1 = H at hP hS ⊢
        obtain ⟨u_36, hu_36, rfl, iu_36⟩ := hw
        have iu_36 : (u_36, z35_29, z36_30, z49_31, z50_32, z51_33, z52_34, z53_35) = (sp_EM_isStuck x16 z46_2 f3 q4 q5 q6 q7 f8 q9 q10 f11 m13_0 m13_1 m14_0 m14_1 f34 f35 f36 q38 f49 f50 f51 n_3) := Prod.ext iu_36 xr_28_0
        replace hsp := hsp.trans (slet_eq iu_36)
        refine lv_if_eq (tgt := 142) hx hb dX9_state_135 (by decide) (fun c_37 => ?_) (fun c_37 => ?_)
        · have c_37 : u_36 = 0 := (nI_eq (a := u_36) (b := 0) (Nat.lt_of_le_of_lt hu_36 (Nat.le_of_ble_eq_true rfl)) (Nat.le_of_ble_eq_true rfl)).mp c_37
          replace hsp := hsp.trans (if_pos c_37)
          refine lv_iconst (v := 0) hx hb dX9_state_142 (by decide) ?_
          exact W.iret (v := 0) hx hb hr (fun t ht hW => ⟨⟨0, (), rfl, (congrArg Prod.fst (hsp.symm.trans hRR)), ⟨z35_29, z36_30, z49_31, z50_32, z51_33, 0, z46_2, z52_34, z53_35, ⟨by rw [ht]; exact hP, va_K.moved hW.alike hK, hD⟩, (Nat.le_trans hz46_2 (Nat.le_of_ble_eq_true rfl)), hz52_34, hz53_35, (congrArg Prod.snd (hsp.symm.trans hRR))⟩⟩, hS.F ht⟩) hS.2.2 dX9_state_143
        · have c_37 : ¬ u_36 = 0 := fun z => c_37 ((nI_eq (a := u_36) (b := 0) (Nat.lt_of_le_of_lt hu_36 (Nat.le_of_ble_eq_true rfl)) (Nat.le_of_ble_eq_true rfl)).mpr z)
          replace hsp := hsp.trans (if_neg c_37)
          refine lv_iconst (v := 1) hx hb dX9_state_138 (by decide) ?_
          refine lv_goto (tgt := 143) hx hb dX9_state_139 (by decide) ?_
          exact W.iret (v := 1) hx hb hr (fun t ht hW => ⟨⟨1, (), rfl, (congrArg Prod.fst (hsp.symm.trans hRR)), ⟨z35_29, z36_30, z49_31, z50_32, z51_33, 0, z46_2, z52_34, z53_35, ⟨by rw [ht]; exact hP, va_K.moved hW.alike hK, hD⟩, (Nat.le_trans hz46_2 (Nat.le_of_ble_eq_true rfl)), hz52_34, hz53_35, (congrArg Prod.snd (hsp.symm.trans hRR))⟩⟩, hS.F ht⟩) hS.2.2 dX9_state_143
      · have c_17 : ¬ m42_0 ≤ g_9 := fun z => c_17 ((nI_leI (a := m42_0) (b := g_9) (Nat.lt_of_le_of_lt hm42_0 (Nat.le_of_ble_eq_true rfl)) (Nat.lt_of_le_of_lt hg_9.2 (Nat.le_of_ble_eq_true rfl))).mpr z)
        replace hsp := hsp.trans (if_neg c_17)
        refine lv_iload_n hx hb dX9_state_40 rfl (lv_at hl 3 rfl) ?_
        refine lv_aload_n hx hb dX9_state_41 rfl (lv_at hl 0 rfl) ?_
        refine va_get (D := (dC, dI)) (ci := 9) (v := .ref (ad 39)) (C := RX9) (T := TX9) (N := 67) hx hb hts hiX9 hown hK hP 0 rfl rfl 39 (by decide) v_11 (fun _ h9 => h9) rfl dX9_state_42 ?_
        refine lv_iload hx hb dX9_state_45 (lv_at hl 4 rfl) ?_
        refine va_iald hx hb hK hP 24 23 rfl rfl (vp_in_nI (n := g_9) (Nat.lt_of_le_of_lt hg_9.2 (Nat.le_of_ble_eq_true rfl)) (Nat.le_of_ble_eq_true rfl)) dX9_state_47 ?_
        refine lv_topi (fun y_38 ey_38 => ?_)
        have ey_38 : y_38 = f39 g_9 := ey_38.trans (congrArg f39 (nI_clamp (n := g_9) (Nat.lt_of_le_of_lt hg_9.2 (Nat.le_of_ble_eq_true rfl))))
        replace hsp := hsp.trans (slet_eq ey_38)
        refine lv_iload_n hx hb dX9_state_48 rfl (lv_at hl 1 rfl) ?_
        obtain ⟨JR_41, hJR_41, hsp⟩ := slet_ex hsp
        refine pu_join (fun H locs ls st => ∃ (g_39 : Nat), st = [.int (nI g_39), .int g_8] ∧ g_39 ≤ 1 ∧ g_39 = JR_41 ∧ va_P (dC, dI) vwCl (mo_w ad ck 0 (nI x16) (nI x18) (nI x19) x20 (nI x21) (nI x22) x23 x24 x25 (nI x26) x27 (nI x28) (nI x29) (nI x30) (nI x33) x45 (nI z46_2) (nI x52) (nI x53) (nI x61) (nI x62) (nI x63) (nI x65) x66 f1 f2 f3 (bN 3 q4) (bN 7 q5) (bN 7 q6) (bN 4 q7) f8 (bN 2 q9) (bH q10) f11 (b2 m12_0 m12_1) (b2 m13_0 m13_1) (b2 m14_0 m14_1) (b2m m15_0 m15_1) f17 (bA 159 q31) f32 f34 f35 f36 f37 (bN 7 q38) f39 f40 f41 (b2 m42_0 m42_1) f43 f44 f47 f48 f49 f50 f51 (bN 13 q54) (bN 120 q55) (bN 120 q56) f57 (bN 120 q58) f59 f60 f64) H ∧ va_D A (mo_w ad ck 0 (nI x16) (nI x18) (nI x19) x20 (nI x21) (nI x22) x23 x24 x25 (nI x26) x27 (nI x28) (nI x29) (nI x30) (nI x33) x45 (nI z46_2) (nI x52) (nI x53) (nI x61) (nI x62) (nI x63) (nI x65) x66 f1 f2 f3 (bN 3 q4) (bN 7 q5) (bN 7 q6) (bN 4 q7) f8 (bN 2 q9) (bH q10) f11 (b2 m12_0 m12_1) (b2 m13_0 m13_1) (b2 m14_0 m14_1) (b2m m15_0 m15_1) f17 (bA 159 q31) f32 f34 f35 f36 f37 (bN 7 q38) f39 f40 f41 (b2 m42_0 m42_1) f43 f44 f47 f48 f49 f50 f51 (bN 13 q54) (bN 120 q55) (bN 120 q56) f57 (bN 120 q58) f59 f60 f64) ∧ va_S A s.heap H locs ∧ lv_has ls 5 [(0, .ref (ad 0)), (1, .int (nI n_3)), (2, .int (nI n_5)), (3, .int g_8), (4, .int (nI g_9))]) 57 ?_ (fun j_40 => ?_)
        · rintro H locs ls st ⟨g_39, rfl, hg_39, he_42, hP, hD, hS, hl⟩
          rw [← he_42] at hsp
          refine lv_iadd hx hb dX9_state_57 ?_
          refine lv_topi (fun y_43 ey_43 => ?_)
          replace hsp := hsp.trans (slet_eq ey_43)
          refine lv_istore_n (lv' := [(3, .int y_43), (0, .ref (ad 0)), (1, .int (nI n_3)), (2, .int (nI n_5)), (4, .int (nI g_9))]) hx hb dX9_state_58 rfl hl (by decide) rfl (fun ls hl => ?_)
          refine lv_iinc (v := (nI (g_9 + 1))) (lv' := [(4, .int (nI (g_9 + 1))), (3, .int y_43), (0, .ref (ad 0)), (1, .int (nI n_3)), (2, .int (nI n_5))]) hx hb dX9_state_59 hl (k := 4) rfl (nI_1 _) (by decide) rfl (fun ls hl => ?_)
          refine lv_goto (tgt := 29) hx hb dX9_state_62 (by decide) ?_
          exact ih_10 (120 - (g_9 + 1)) (by omega) _ _ _ ⟨y_43, (g_9 + 1), rfl, ⟨by omega, by omega⟩, hin_14 _ hsp, hP, hD, hS, lv_sub hl [2, 3, 4, 1, 0] rfl⟩
        have hsp := hJR_41
        refine lv_icmp_ne (tgt := 56) hx hb dX9_state_49 (by decide) (fun c_44 => ?_) (fun c_44 => ?_)
        · have hcc_44 := c_44
          replace hsp := hsp.trans (if_neg c_44)
          refine lv_iconst (v := 0) hx hb dX9_state_56 (by decide) ?_
          exact j_40 _ _ _ _ ⟨0, rfl, (Nat.le_of_ble_eq_true rfl), hsp.symm, hP, hD, hS, lv_sub hl [0, 1, 2, 3, 4] rfl⟩
        · have hcc_44 := c_44
          replace hsp := hsp.trans (if_pos c_44)
          refine lv_iconst (v := 1) hx hb dX9_state_52 (by decide) ?_
          refine lv_goto (tgt := 57) hx hb dX9_state_53 (by decide) ?_
          exact j_40 _ _ _ _ ⟨1, rfl, (Nat.le_of_ble_eq_true rfl), hsp.symm, hP, hD, hS, lv_sub hl [0, 1, 2, 3, 4] rfl⟩
    · replace hsp := hsp.trans (if_neg hi3)
      refine lv_if_ne (tgt := 24) hx hb dX9_state_19 (by decide) (fun z => absurd z (by decide)) (fun _ => ?_)
      refine lv_iconst (v := (-1)) hx hb dX9_state_22 (by decide) ?_
      exact W.iret (v := (-1)) hx hb hr (fun t ht hW => ⟨⟨(-1), (), rfl, (congrArg Prod.fst (hsp.symm.trans hRR)), ⟨f35, f36, f49, f50, f51, 0, z46_2, x52, x53, ⟨by rw [ht]; exact hP, va_K.moved hW.alike hK, hD⟩, (Nat.le_trans hz46_2 (Nat.le_of_ble_eq_true rfl)), hx52, hx53, (congrArg Prod.snd (hsp.symm.trans hRR))⟩⟩, hS.F ht⟩) hS.2.2 dX9_state_23
  · replace hsp := hsp.trans (if_neg hn)
    refine lv_if_eq (tgt := 22) hx hb dX9_state_10 (by decide) (fun _ => ?_) (fun z => absurd z (by decide))
    refine lv_iconst (v := (-1)) hx hb dX9_state_22 (by decide) ?_
    exact W.iret (v := (-1)) hx hb hr (fun t ht hW => ⟨⟨(-1), (), rfl, (congrArg Prod.fst (hsp.symm.trans hRR)), ⟨f35, f36, f49, f50, f51, 0, z46_2, x52, x53, ⟨by rw [ht]; exact hP, va_K.moved hW.alike hK, hD⟩, (Nat.le_trans hz46_2 (Nat.le_of_ble_eq_true rfl)), hx52, hx53, (congrArg Prod.snd (hsp.symm.trans hRR))⟩⟩, hS.F ht⟩) hS.2.2 dX9_state_23
