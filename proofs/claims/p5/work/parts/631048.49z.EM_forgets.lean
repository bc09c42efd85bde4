theorem dX9_forgets_0 : decode cX9_forgets 0 = .ok (.iload_n 2, 1) := by decide +kernel
theorem dX9_forgets_1 : decode cX9_forgets 1 = .ok (.ifCond .ne 4, 3) := by decide +kernel
theorem dX9_forgets_4 : decode cX9_forgets 4 = .ok (.return_, 1) := by decide +kernel
theorem dX9_forgets_5 : decode cX9_forgets 5 = .ok (.iconst 0, 1) := by decide +kernel
theorem dX9_forgets_6 : decode cX9_forgets 6 = .ok (.istore_n 3, 1) := by decide +kernel
theorem dX9_forgets_7 : decode cX9_forgets 7 = .ok (.iload_n 3, 1) := by decide +kernel
theorem dX9_forgets_8 : decode cX9_forgets 8 = .ok (.aload_n 0, 1) := by decide +kernel
theorem dX9_forgets_9 : decode cX9_forgets 9 = .ok (.getfield 328, 3) := by decide +kernel
theorem dX9_forgets_12 : decode cX9_forgets 12 = .ok (.if_icmp .ge 108, 3) := by decide +kernel
theorem dX9_forgets_15 : decode cX9_forgets 15 = .ok (.iconst 0, 1) := by decide +kernel
theorem dX9_forgets_16 : decode cX9_forgets 16 = .ok (.istore 4, 2) := by decide +kernel
theorem dX9_forgets_18 : decode cX9_forgets 18 = .ok (.iload 4, 2) := by decide +kernel
theorem dX9_forgets_20 : decode cX9_forgets 20 = .ok (.aload_n 0, 1) := by decide +kernel
theorem dX9_forgets_21 : decode cX9_forgets 21 = .ok (.getfield 328, 3) := by decide +kernel
theorem dX9_forgets_24 : decode cX9_forgets 24 = .ok (.if_icmp .ge 90, 3) := by decide +kernel
theorem dX9_forgets_27 : decode cX9_forgets 27 = .ok (.aload_n 1, 1) := by decide +kernel
theorem dX9_forgets_28 : decode cX9_forgets 28 = .ok (.iconst 5, 1) := by decide +kernel
theorem dX9_forgets_29 : decode cX9_forgets 29 = .ok (.iload_n 3, 1) := by decide +kernel
theorem dX9_forgets_30 : decode cX9_forgets 30 = .ok (.imul, 1) := by decide +kernel
theorem dX9_forgets_31 : decode cX9_forgets 31 = .ok (.iload 4, 2) := by decide +kernel
theorem dX9_forgets_33 : decode cX9_forgets 33 = .ok (.iadd, 1) := by decide +kernel
theorem dX9_forgets_34 : decode cX9_forgets 34 = .ok (.iaload, 1) := by decide +kernel
theorem dX9_forgets_35 : decode cX9_forgets 35 = .ok (.istore 5, 2) := by decide +kernel
theorem dX9_forgets_37 : decode cX9_forgets 37 = .ok (.iload_n 3, 1) := by decide +kernel
theorem dX9_forgets_38 : decode cX9_forgets 38 = .ok (.iload 4, 2) := by decide +kernel
theorem dX9_forgets_40 : decode cX9_forgets 40 = .ok (.if_icmp .ne 6, 3) := by decide +kernel
theorem dX9_forgets_43 : decode cX9_forgets 43 = .ok (.goto 65, 3) := by decide +kernel
theorem dX9_forgets_46 : decode cX9_forgets 46 = .ok (.iload 5, 2) := by decide +kernel
theorem dX9_forgets_48 : decode cX9_forgets 48 = .ok (.iconst 2, 1) := by decide +kernel
theorem dX9_forgets_49 : decode cX9_forgets 49 = .ok (.aload_n 0, 1) := by decide +kernel
theorem dX9_forgets_50 : decode cX9_forgets 50 = .ok (.getfield 102, 3) := by decide +kernel
theorem dX9_forgets_53 : decode cX9_forgets 53 = .ok (.iload_n 3, 1) := by decide +kernel
theorem dX9_forgets_54 : decode cX9_forgets 54 = .ok (.iaload, 1) := by decide +kernel
theorem dX9_forgets_55 : decode cX9_forgets 55 = .ok (.imul, 1) := by decide +kernel
theorem dX9_forgets_56 : decode cX9_forgets 56 = .ok (.iconst 1, 1) := by decide +kernel
theorem dX9_forgets_57 : decode cX9_forgets 57 = .ok (.iadd, 1) := by decide +kernel
theorem dX9_forgets_58 : decode cX9_forgets 58 = .ok (.if_icmp .le 17, 3) := by decide +kernel
theorem dX9_forgets_61 : decode cX9_forgets 61 = .ok (.aload_n 1, 1) := by decide +kernel
theorem dX9_forgets_62 : decode cX9_forgets 62 = .ok (.iconst 5, 1) := by decide +kernel
theorem dX9_forgets_63 : decode cX9_forgets 63 = .ok (.iload_n 3, 1) := by decide +kernel
theorem dX9_forgets_64 : decode cX9_forgets 64 = .ok (.imul, 1) := by decide +kernel
theorem dX9_forgets_65 : decode cX9_forgets 65 = .ok (.iload 4, 2) := by decide +kernel
theorem dX9_forgets_67 : decode cX9_forgets 67 = .ok (.iadd, 1) := by decide +kernel
theorem dX9_forgets_68 : decode cX9_forgets 68 = .ok (.ldc_w 327, 3) := by decide +kernel
theorem dX9_forgets_71 : decode cX9_forgets 71 = .ok (.iastore, 1) := by decide +kernel
theorem dX9_forgets_72 : decode cX9_forgets 72 = .ok (.goto 36, 3) := by decide +kernel
theorem dX9_forgets_75 : decode cX9_forgets 75 = .ok (.iload 5, 2) := by decide +kernel
theorem dX9_forgets_77 : decode cX9_forgets 77 = .ok (.bipush (-2), 2) := by decide +kernel
theorem dX9_forgets_79 : decode cX9_forgets 79 = .ok (.aload_n 0, 1) := by decide +kernel
theorem dX9_forgets_80 : decode cX9_forgets 80 = .ok (.getfield 105, 3) := by decide +kernel
theorem dX9_forgets_83 : decode cX9_forgets 83 = .ok (.iload 4, 2) := by decide +kernel
theorem dX9_forgets_85 : decode cX9_forgets 85 = .ok (.iaload, 1) := by decide +kernel
theorem dX9_forgets_86 : decode cX9_forgets 86 = .ok (.imul, 1) := by decide +kernel
theorem dX9_forgets_87 : decode cX9_forgets 87 = .ok (.if_icmp .ge 21, 3) := by decide +kernel
theorem dX9_forgets_90 : decode cX9_forgets 90 = .ok (.aload_n 1, 1) := by decide +kernel
theorem dX9_forgets_91 : decode cX9_forgets 91 = .ok (.iconst 5, 1) := by decide +kernel
theorem dX9_forgets_92 : decode cX9_forgets 92 = .ok (.iload_n 3, 1) := by decide +kernel
theorem dX9_forgets_93 : decode cX9_forgets 93 = .ok (.imul, 1) := by decide +kernel
theorem dX9_forgets_94 : decode cX9_forgets 94 = .ok (.iload 4, 2) := by decide +kernel
theorem dX9_forgets_96 : decode cX9_forgets 96 = .ok (.iadd, 1) := by decide +kernel
theorem dX9_forgets_97 : decode cX9_forgets 97 = .ok (.bipush (-2), 2) := by decide +kernel
theorem dX9_forgets_99 : decode cX9_forgets 99 = .ok (.aload_n 0, 1) := by decide +kernel
theorem dX9_forgets_100 : decode cX9_forgets 100 = .ok (.getfield 105, 3) := by decide +kernel
theorem dX9_forgets_103 : decode cX9_forgets 103 = .ok (.iload 4, 2) := by decide +kernel
theorem dX9_forgets_105 : decode cX9_forgets 105 = .ok (.iaload, 1) := by decide +kernel
theorem dX9_forgets_106 : decode cX9_forgets 106 = .ok (.imul, 1) := by decide +kernel
theorem dX9_forgets_107 : decode cX9_forgets 107 = .ok (.iastore, 1) := by decide +kernel
theorem dX9_forgets_108 : decode cX9_forgets 108 = .ok (.iinc 4 1, 3) := by decide +kernel
theorem dX9_forgets_111 : decode cX9_forgets 111 = .ok (.goto (-93), 3) := by decide +kernel
theorem dX9_forgets_114 : decode cX9_forgets 114 = .ok (.iinc 3 1, 3) := by decide +kernel
theorem dX9_forgets_117 : decode cX9_forgets 117 = .ok (.goto (-110), 3) := by decide +kernel
theorem dX9_forgets_120 : decode cX9_forgets 120 = .ok (.aload_n 0, 1) := by decide +kernel
theorem dX9_forgets_121 : decode cX9_forgets 121 = .ok (.aload_n 1, 1) := by decide +kernel
theorem dX9_forgets_122 : decode cX9_forgets 122 = .ok (.invokevirtual 345, 3) := by decide +kernel
theorem dX9_forgets_125 : decode cX9_forgets 125 = .ok (.pop, 1) := by decide +kernel
theorem dX9_forgets_126 : decode cX9_forgets 126 = .ok (.return_, 1) := by decide +kernel
abbrev vs_EM_forgets : List Cond := .code yX9_forgets cX9_forgets 6 none :: VM
theorem g_EM_forgets_EM_closes_z : GoodIn vs_EM_forgets (wsV RX9 345 RX9 yX9_closes vs_EM_closes_z) := gm_V vm_208 vm_209 vm_210 vm_19 vm_211
noncomputable def sp_EM_forgets_L1 (x46 : Nat) (f47 : Nat → Int32) (f48 : Nat → Int32) (g_5 : Nat) : ((Nat → Int32) × Nat) → ((Nat → Int32) × Nat) ⊕ (((Nat → Int32) × Nat) ⊕ ((Nat → Int32))) := fun (g_18, g_19) => (if x46 ≤ g_19 then (Sum.inr (Sum.inl (g_18, (g_5 + 1)))) else (slet (g_18 ((5 * g_5) + g_19)) (fun y_29 => (slet (α := (Nat → Int32)) (if g_5 = g_19 then g_18 else (slet (f47 g_5) (fun y_35 => (slet ((2 : Int32) * y_35) (fun y_36 => (slet ((y_36 : Int32) + 1) (fun y_37 => (if (y_29 : Int32) ≤ y_37 then (slet (f48 g_19) (fun y_39 => (slet (((-2) : Int32) * y_39) (fun y_40 => (if (y_40 : Int32) ≤ y_29 then g_18 else (slet (f48 g_19) (fun y_44 => (slet (((-2) : Int32) * y_44) (fun y_45 => (slet (upd g_18 ((5 * g_5) + g_19) y_45) (fun f_46 => f_46))))))))))) else (slet (upd g_18 ((5 * g_5) + g_19) 1048576) (fun f_49 => f_49)))))))))) (fun g_30 => (Sum.inl (g_30, (g_19 + 1))))))))
noncomputable def sp_EM_forgets_L2 (x46 : Nat) (f47 : Nat → Int32) (f48 : Nat → Int32) : ((Nat → Int32) × Nat) → ((Nat → Int32) × Nat) ⊕ ((Nat → Int32)) := fun (g_4, g_5) => (if x46 ≤ g_5 then (Sum.inr (slet (sp_EM_closes_z x46 g_4) (fun (u_15, z35_14) => z35_14))) else (itrv (α := (Nat → Int32) × Nat) (β := (((Nat → Int32) × Nat) ⊕ ((Nat → Int32)))) (Sum.inr default) (sp_EM_forgets_L1 x46 f47 f48 g_5) (g_4, 0)))
noncomputable def sp_EM_forgets (x46 : Nat) (f35 : Nat → Int32) (f47 : Nat → Int32) (f48 : Nat → Int32) (p1 : Int32) : (Nat → Int32) := (if (p1 : Int32) = 0 then f35 else (itrv (α := (Nat → Int32) × Nat) (β := ((Nat → Int32))) default (sp_EM_forgets_L2 x46 f47 f48) (f35, 0)))
set_option maxHeartbeats 4000000 in
set_option maxRecDepth 100000 in
theorem c_EM_forgets (l : Launch) (dC : Nat → ClassId) (dI : Nat → Nat → Nat) (sz : Nat) (ad : Nat → Nat) (ck : Nat → ClassId) (x0 : Int32) (x16 : Nat) (x18 : Nat) (x19 : Nat) (x20 : Int32) (x21 : Nat) (x22 : Nat) (x23 : Int32) (x24 : Int32) (x25 : Int32) (x26 : Nat) (x27 : Int32) (x28 : Nat) (x29 : Nat) (x30 : Nat) (x33 : Nat) (x45 : Int32) (x46 : Nat) (x52 : Nat) (x53 : Nat) (x61 : Nat) (x62 : Nat) (x63 : Nat) (x65 : Nat) (x66 : Int32) (f1 : Nat → Int32) (f2 : Nat → Int32) (f3 : Nat → Int32) (q4 : Nat → Nat) (q5 : Nat → Nat) (q6 : Nat → Nat) (q7 : Nat → Nat) (f8 : Nat → Int32) (q9 : Nat → Nat) (q10 : Nat → Nat) (f11 : Nat → Int32) (m12_0 m12_1 : Nat) (m13_0 m13_1 : Nat) (m14_0 m14_1 : Nat) (m15_0 m15_1 : Nat) (f17 : Nat → Int32) (q31 : Nat → Nat) (f32 : Nat → Int32) (f34 : Nat → Int32) (f35 : Nat → Int32) (f36 : Nat → Int32) (f37 : Nat → Int32) (q38 : Nat → Nat) (f39 : Nat → Int32) (f40 : Nat → Int32) (f41 : Nat → Int32) (m42_0 m42_1 : Nat) (f43 : Nat → Int32) (f44 : Nat → Int32) (f47 : Nat → Int32) (f48 : Nat → Int32) (f49 : Nat → Int32) (f50 : Nat → Int32) (f51 : Nat → Int32) (q54 : Nat → Nat) (q55 : Nat → Nat) (q56 : Nat → Nat) (f57 : Nat → Int32) (q58 : Nat → Nat) (f59 : Nat → Int32) (f60 : Nat → Int32) (f64 : Nat → Int32) (p1 : Int32) (hx16 : x16 ≤ 1) (hx18 : x18 ≤ 900) (hx19 : x19 ≤ 900) (hx21 : x21 ≤ 900) (hx22 : x22 ≤ 4) (hx26 : x26 ≤ 6) (hx28 : x28 ≤ 1) (hx29 : x29 ≤ 1) (hx30 : x30 ≤ 1) (hx33 : x33 ≤ 20) (hx46 : x46 ≤ 5) (hx52 : x52 ≤ 2400) (hx53 : x53 ≤ 119) (hx61 : x61 ≤ 119) (hx62 : x62 ≤ 2000) (hx63 : x63 ≤ 1) (hx65 : x65 ≤ 7) (hm12_0 : m12_0 ≤ 3) (hm12_1 : m12_1 ≤ 3) (hm13_0 : m13_0 ≤ 8) (hm13_1 : m13_1 ≤ 8) (hm14_0 : m14_0 ≤ 14) (hm14_1 : m14_1 ≤ 14) (hm15_0 : m15_0 ≤ 8) (hm15_1 : m15_1 ≤ 8) (hm42_0 : m42_0 ≤ 120) (hm42_1 : m42_1 ≤ 400) : Met l yX9_forgets vs_EM_forgets ({ frames := 2, cells := 0, slots := 0, locals := 45 }) (va_Pc [.ref (ad 0), .ref (ad 35), .int p1] (pu_B (dC, dI) (mo_w ad ck x0 (nI x16) (nI x18) (nI x19) x20 (nI x21) (nI x22) x23 x24 x25 (nI x26) x27 (nI x28) (nI x29) (nI x30) (nI x33) x45 (nI x46) (nI x52) (nI x53) (nI x61) (nI x62) (nI x63) (nI x65) x66 f1 f2 f3 (bN 3 q4) (bN 7 q5) (bN 7 q6) (bN 4 q7) f8 (bN 2 q9) (bH q10) f11 (b2 m12_0 m12_1) (b2 m13_0 m13_1) (b2 m14_0 m14_1) (b2m m15_0 m15_1) f17 (bA 159 q31) f32 f34 f35 f36 f37 (bN 7 q38) f39 f40 f41 (b2 m42_0 m42_1) f43 f44 f47 f48 f49 f50 f51 (bN 13 q54) (bN 120 q55) (bN 120 q56) f57 (bN 120 q58) f59 f60 f64) (mo_t ck) sz)) (va_Qv (fun (_ : Unit) => True) (fun _ t => ∃ (z35 : Nat → Int32), pu_E (dC, dI) (mo_w ad ck x0 (nI x16) (nI x18) (nI x19) x20 (nI x21) (nI x22) x23 x24 x25 (nI x26) x27 (nI x28) (nI x29) (nI x30) (nI x33) x45 (nI x46) (nI x52) (nI x53) (nI x61) (nI x62) (nI x63) (nI x65) x66 f1 f2 f3 (bN 3 q4) (bN 7 q5) (bN 7 q6) (bN 4 q7) f8 (bN 2 q9) (bH q10) f11 (b2 m12_0 m12_1) (b2 m13_0 m13_1) (b2 m14_0 m14_1) (b2m m15_0 m15_1) f17 (bA 159 q31) f32 f34 z35 f36 f37 (bN 7 q38) f39 f40 f41 (b2 m42_0 m42_1) f43 f44 f47 f48 f49 f50 f51 (bN 13 q54) (bN 120 q55) (bN 120 q56) f57 (bN 120 q58) f59 f60 f64) (mo_t ck) (va_A ((mo_w ad ck x0 (nI x16) (nI x18) (nI x19) x20 (nI x21) (nI x22) x23 x24 x25 (nI x26) x27 (nI x28) (nI x29) (nI x30) (nI x33) x45 (nI x46) (nI x52) (nI x53) (nI x61) (nI x62) (nI x63) (nI x65) x66 f1 f2 f3 (bN 3 q4) (bN 7 q5) (bN 7 q6) (bN 4 q7) f8 (bN 2 q9) (bH q10) f11 (b2 m12_0 m12_1) (b2 m13_0 m13_1) (b2 m14_0 m14_1) (b2m m15_0 m15_1) f17 (bA 159 q31) f32 f34 f35 f36 f37 (bN 7 q38) f39 f40 f41 (b2 m42_0 m42_1) f43 f44 f47 f48 f49 f50 f51 (bN 13 q54) (bN 120 q55) (bN 120 q56) f57 (bN 120 q58) f59 f60 f64)) sz) t ∧ (z35 = (sp_EM_forgets x46 f35 f47 f48 p1))) (va_A ((mo_w ad ck x0 (nI x16) (nI x18) (nI x19) x20 (nI x21) (nI x22) x23 x24 x25 (nI x26) x27 (nI x28) (nI x29) (nI x30) (nI x33) x45 (nI x46) (nI x52) (nI x53) (nI x61) (nI x62) (nI x63) (nI x65) x66 f1 f2 f3 (bN 3 q4) (bN 7 q5) (bN 7 q6) (bN 4 q7) f8 (bN 2 q9) (bH q10) f11 (b2 m12_0 m12_1) (b2 m13_0 m13_1) (b2 m14_0 m14_1) (b2m m15_0 m15_1) f17 (bA 159 q31) f32 f34 f35 f36 f37 (bN 7 q38) f39 f40 f41 (b2 m42_0 m42_1) f43 f44 f47 f48 f49 f50 f51 (bN 13 q54) (bN 120 q55) (bN 120 q56) f57 (bN 120 q58) f59 f60 f64)) sz)) 0 0 (va_A ((mo_w ad ck x0 (nI x16) (nI x18) (nI x19) x20 (nI x21) (nI x22) x23 x24 x25 (nI x26) x27 (nI x28) (nI x29) (nI x30) (nI x33) x45 (nI x46) (nI x52) (nI x53) (nI x61) (nI x62) (nI x63) (nI x65) x66 f1 f2 f3 (bN 3 q4) (bN 7 q5) (bN 7 q6) (bN 4 q7) f8 (bN 2 q9) (bH q10) f11 (b2 m12_0 m12_1) (b2 m13_0 m13_1) (b2 m14_0 m14_1) (b2m m15_0 m15_1) f17 (bA 159 q31) f32 f34 f35 f36 f37 (bN 7 q38) f39 f40 f41 (b2 m42_0 m42_1) f43 f44 f47 f48 f49 f50 f51 (bN 13 q54) (bN 120 q55) (bN 120 q56) f57 (bN 120 q58) f59 f60 f64)) sz) := by
  refine Met.ofW (cc := cX9_forgets) (maxL := 6) (ret := none) (by decide) rfl ?_
  intro p e s m args below meth c s₁ B hml hv
  obtain ⟨rfl, rfl, hP, hK, hD0⟩ := hv
  have hx := B.exec
  have hb := B.bytes
  have hr := B.returns
  have hts := atoms_spec (ws := vs_EM_forgets) B.pre
  have v_1 := hts (.fieldLink RX9 328 "ClockReachModel" "side" "I") (List.mem_cons_of_mem _ vm_196)
  have v_2 := hts (.fieldLink RX9 102 "ClockReachModel" "high" "[I") (List.mem_cons_of_mem _ vm_212)
  have v_3 := hts (.fieldLink RX9 105 "ClockReachModel" "low" "[I") (List.mem_cons_of_mem _ vm_213)
  have v_4 := hts (.constant RX9 327 (1048576)) (List.mem_cons_of_mem _ vm_46)
  have hown : s.vm.findClass RX9 = some m.cls := findClass_of_methodNamed B.named
  have hlocks := B.notSynchronized
  have hiX9 : ∀ w ∈ wsX90, w ∈ vs_EM_forgets := fun _ h => List.mem_cons_of_mem _ (vmi_L h)
  have hD := hD0.self (sz := s.heap.size)
  generalize hAe : va_A ((mo_w ad ck x0 (nI x16) (nI x18) (nI x19) x20 (nI x21) (nI x22) x23 x24 x25 (nI x26) x27 (nI x28) (nI x29) (nI x30) (nI x33) x45 (nI x46) (nI x52) (nI x53) (nI x61) (nI x62) (nI x63) (nI x65) x66 f1 f2 f3 (bN 3 q4) (bN 7 q5) (bN 7 q6) (bN 4 q7) f8 (bN 2 q9) (bH q10) f11 (b2 m12_0 m12_1) (b2 m13_0 m13_1) (b2 m14_0 m14_1) (b2m m15_0 m15_1) f17 (bA 159 q31) f32 f34 f35 f36 f37 (bN 7 q38) f39 f40 f41 (b2 m42_0 m42_1) f43 f44 f47 f48 f49 f50 f51 (bN 13 q54) (bN 120 q55) (bN 120 q56) f57 (bN 120 q58) f59 f60 f64)) s.heap.size = A at hD ⊢
  have hA : ∀ q : Nat, s.heap.size ≤ q → A q := fun q h => by rw [← hAe]; exact Or.inr h
  have hS : va_S A s.heap s.heap [] := va_S.rf
  have hl := lv_entry ([.ref (ad 0), .ref (ad 35), .int p1]) (n := 6) (Nat.le_of_ble_eq_true rfl)
  rw [lg_entry_eq]
  generalize (lg_sl ([.ref (ad 0), .ref (ad 35), .int p1]) ++ List.replicate (6 - (lg_sl ([.ref (ad 0), .ref (ad 35), .int p1])).length) Slot.unset).toArray = ls at hl ⊢
  have hl : lv_has ls 6 [(0, .ref (ad 0)), (1, .ref (ad 35)), (2, .int p1)] := hl
  obtain ⟨RR, hRR⟩ : ∃ x, x = (sp_EM_forgets x46 f35 f47 f48 p1) := ⟨_, rfl⟩
  have hsp := hRR
  refine lv_iload_n hx hb dX9_forgets_0 rfl (lv_at hl 2 rfl) ?_
  refine lv_if_ne (tgt := 5) hx hb dX9_forgets_1 (by decide) (fun c_1 => ?_) (fun c_1 => ?_)
  · have hcc_1 := c_1
    replace hsp := hsp.trans (if_neg c_1)
    refine lv_iconst (v := 0) hx hb dX9_forgets_5 (by decide) ?_
    refine lv_istore_n (lv' := [(3, .int 0), (0, .ref (ad 0)), (1, .ref (ad 35)), (2, .int p1)]) hx hb dX9_forgets_6 rfl hl (by decide) rfl (fun ls hl => ?_)
    obtain ⟨lf_7, dlf_7, hlf_7, hsp⟩ := itr_ex hsp
    delta sp_EM_forgets_L2 at hlf_7
    refine pu_while (fun nn H locs ls => ∃ (g_4 : Nat → Int32) (g_5 : Nat), nn = 5 - g_5 ∧ g_5 ≤ 5 ∧ RR = itrv dlf_7 lf_7 (g_4, g_5) ∧ va_P (dC, dI) vwCl (mo_w ad ck x0 (nI x16) (nI x18) (nI x19) x20 (nI x21) (nI x22) x23 x24 x25 (nI x26) x27 (nI x28) (nI x29) (nI x30) (nI x33) x45 (nI x46) (nI x52) (nI x53) (nI x61) (nI x62) (nI x63) (nI x65) x66 f1 f2 f3 (bN 3 q4) (bN 7 q5) (bN 7 q6) (bN 4 q7) f8 (bN 2 q9) (bH q10) f11 (b2 m12_0 m12_1) (b2 m13_0 m13_1) (b2 m14_0 m14_1) (b2m m15_0 m15_1) f17 (bA 159 q31) f32 f34 g_4 f36 f37 (bN 7 q38) f39 f40 f41 (b2 m42_0 m42_1) f43 f44 f47 f48 f49 f50 f51 (bN 13 q54) (bN 120 q55) (bN 120 q56) f57 (bN 120 q58) f59 f60 f64) H ∧ va_D A (mo_w ad ck x0 (nI x16) (nI x18) (nI x19) x20 (nI x21) (nI x22) x23 x24 x25 (nI x26) x27 (nI x28) (nI x29) (nI x30) (nI x33) x45 (nI x46) (nI x52) (nI x53) (nI x61) (nI x62) (nI x63) (nI x65) x66 f1 f2 f3 (bN 3 q4) (bN 7 q5) (bN 7 q6) (bN 4 q7) f8 (bN 2 q9) (bH q10) f11 (b2 m12_0 m12_1) (b2 m13_0 m13_1) (b2 m14_0 m14_1) (b2m m15_0 m15_1) f17 (bA 159 q31) f32 f34 g_4 f36 f37 (bN 7 q38) f39 f40 f41 (b2 m42_0 m42_1) f43 f44 f47 f48 f49 f50 f51 (bN 13 q54) (bN 120 q55) (bN 120 q56) f57 (bN 120 q58) f59 f60 f64) ∧ va_S A s.heap H locs ∧ lv_has ls 6 [(0, .ref (ad 0)), (1, .ref (ad 35)), (2, .int p1), (3, .int (nI g_5))]) 7 ?_ _ _ _ _ ⟨f35, 0, rfl, (Nat.le_of_ble_eq_true rfl), hsp, hP, hD, hS, lv_sub hl [1, 2, 3, 0] rfl⟩
    rintro nn ih_6 H locs ls ⟨g_4, g_5, rfl, hg_5, he_9, hP, hD, hS, hl⟩
    obtain ⟨S_8, hsp, hin_10, hout_11⟩ := itr_step hlf_7 he_9
    refine lv_iload_n hx hb dX9_forgets_7 rfl (lv_at hl 3 rfl) ?_
    refine lv_aload_n hx hb dX9_forgets_8 rfl (lv_at hl 0 rfl) ?_
    refine va_get (D := (dC, dI)) (ci := 9) (v := .int (nI x46)) (C := RX9) (T := TX9) (N := 67) hx hb hts hiX9 hown hK hP 0 rfl rfl 46 (by decide) v_1 (fun _ h9 => h9) rfl dX9_forgets_9 ?_
    refine lv_icmp_ge (tgt := 120) hx hb dX9_forgets_12 (by decide) (fun c_12 => ?_) (fun c_12 => ?_)
    · have c_12 : x46 ≤ g_5 := (nI_leI (a := x46) (b := g_5) (Nat.lt_of_le_of_lt hx46 (Nat.le_of_ble_eq_true rfl)) (Nat.lt_of_le_of_lt hg_5 (Nat.le_of_ble_eq_true rfl))).mp c_12
      replace hsp := hsp.trans (if_pos c_12)
      have hsp := hout_11 _ hsp
      refine lv_aload_n hx hb dX9_forgets_120 rfl (lv_at hl 0 rfl) ?_
      refine lv_aload_n hx hb dX9_forgets_121 rfl (lv_at hl 1 rfl) ?_
      have hFc := pu_free hD hS hA
      refine va_calli (va_runV (As := [.ref (ad 35)]) (rest := []) ⟨hx, hb, hml, hown, hts⟩ (c_EM_closes_z l dC dI _ ad ck x0 x16 x18 x19 x20 x21 x22 x23 x24 x25 x26 x27 x28 x29 x30 x33 x45 x46 x52 x53 x61 x62 x63 x65 x66 f1 f2 f3 q4 q5 q6 q7 f8 q9 q10 f11 m12_0 m12_1 m13_0 m13_1 m14_0 m14_1 m15_0 m15_1 f17 q31 f32 f34 g_4 f36 f37 q38 f39 f40 f41 m42_0 m42_1 f43 f44 f47 f48 f49 f50 f51 q54 q55 q56 f57 q58 f59 f60 f64 hx16 hx18 hx19 hx21 hx22 hx26 hx28 hx29 hx30 hx33 hx46 hx52 hx53 hx61 hx62 hx63 hx65 hm12_0 hm12_1 hm13_0 hm13_1 hm14_0 hm14_1 hm15_0 hm15_1 hm42_0 hm42_1) (cwV 1 hts g_EM_forgets_EM_closes_z rfl rfl rfl (by decide +kernel) ⟨Nat.le_of_ble_eq_true rfl, Nat.le_of_ble_eq_true rfl⟩) ⟨pu_bl, va_recv hK hP (ci := 9) (q0 := 0) rfl rfl, pu_in hP hK hD⟩ rfl rfl hl.1 rfl (lv_room (Nat.le_of_ble_eq_true rfl)) dX9_forgets_122 ⟨Nat.le_of_ble_eq_true rfl, Nat.le_of_ble_eq_true rfl⟩) hS (fun q _ h => hFc q h) hFc (fun r_13 u t H1 locs ht hvm hw hB hz1 hk1 hS => ?_)
      obtain ⟨z35_14, ⟨hP1, -, hD1⟩, xr_13_0⟩ := hB
      rw [ht] at hP1
      have hP := hP1
      have hD := pu_all hFc hD1
      clear hP1 hD1 hFc
      clear hk1 hz1 ht hvm
      generalize H1 = H at hP hS ⊢
      obtain ⟨u_15, hu_15, rfl, iu_15⟩ := hw
      have iu_15 : (u_15, z35_14) = (sp_EM_closes_z x46 g_4) := Prod.ext iu_15 xr_13_0
      replace hsp := hsp.trans (slet_eq iu_15)
      refine lv_pop hx hb dX9_forgets_125 rfl ?_
      exact W.vret hx hb hr (fun t ht hW => ⟨⟨(), rfl, trivial, ⟨z35_14, ⟨by rw [ht]; exact hP, va_K.moved hW.alike hK, hD⟩, (hsp.symm.trans hRR)⟩⟩, hS.F ht⟩) hS.2.2 dX9_forgets_126
    · have c_12 : ¬ x46 ≤ g_5 := fun z => c_12 ((nI_leI (a := x46) (b := g_5) (Nat.lt_of_le_of_lt hx46 (Nat.le_of_ble_eq_true rfl)) (Nat.lt_of_le_of_lt hg_5 (Nat.le_of_ble_eq_true rfl))).mpr z)
      replace hsp := hsp.trans (if_neg c_12)
      refine lv_iconst (v := 0) hx hb dX9_forgets_15 (by decide) ?_
      refine lv_istore (lv' := [(4, .int 0), (0, .ref (ad 0)), (1, .ref (ad 35)), (2, .int p1), (3, .int (nI g_5))]) hx hb dX9_forgets_16 hl (by decide) rfl (fun ls hl => ?_)
      obtain ⟨lf_21, dlf_21, hlf_21, hsp⟩ := itr_ex hsp
      delta sp_EM_forgets_L1 at hlf_21
      refine pu_while (fun nn H locs ls => ∃ (g_18 : Nat → Int32) (g_19 : Nat), nn = 5 - g_19 ∧ g_19 ≤ 5 ∧ S_8 = itrv dlf_21 lf_21 (g_18, g_19) ∧ va_P (dC, dI) vwCl (mo_w ad ck x0 (nI x16) (nI x18) (nI x19) x20 (nI x21) (nI x22) x23 x24 x25 (nI x26) x27 (nI x28) (nI x29) (nI x30) (nI x33) x45 (nI x46) (nI x52) (nI x53) (nI x61) (nI x62) (nI x63) (nI x65) x66 f1 f2 f3 (bN 3 q4) (bN 7 q5) (bN 7 q6) (bN 4 q7) f8 (bN 2 q9) (bH q10) f11 (b2 m12_0 m12_1) (b2 m13_0 m13_1) (b2 m14_0 m14_1) (b2m m15_0 m15_1) f17 (bA 159 q31) f32 f34 g_18 f36 f37 (bN 7 q38) f39 f40 f41 (b2 m42_0 m42_1) f43 f44 f47 f48 f49 f50 f51 (bN 13 q54) (bN 120 q55) (bN 120 q56) f57 (bN 120 q58) f59 f60 f64) H ∧ va_D A (mo_w ad ck x0 (nI x16) (nI x18) (nI x19) x20 (nI x21) (nI x22) x23 x24 x25 (nI x26) x27 (nI x28) (nI x29) (nI x30) (nI x33) x45 (nI x46) (nI x52) (nI x53) (nI x61) (nI x62) (nI x63) (nI x65) x66 f1 f2 f3 (bN 3 q4) (bN 7 q5) (bN 7 q6) (bN 4 q7) f8 (bN 2 q9) (bH q10) f11 (b2 m12_0 m12_1) (b2 m13_0 m13_1) (b2 m14_0 m14_1) (b2m m15_0 m15_1) f17 (bA 159 q31) f32 f34 g_18 f36 f37 (bN 7 q38) f39 f40 f41 (b2 m42_0 m42_1) f43 f44 f47 f48 f49 f50 f51 (bN 13 q54) (bN 120 q55) (bN 120 q56) f57 (bN 120 q58) f59 f60 f64) ∧ va_S A s.heap H locs ∧ lv_has ls 6 [(0, .ref (ad 0)), (1, .ref (ad 35)), (2, .int p1), (3, .int (nI g_5)), (4, .int (nI g_19))]) 18 ?_ _ _ _ _ ⟨g_4, 0, rfl, (Nat.le_of_ble_eq_true rfl), hsp, hP, hD, hS, lv_sub hl [1, 2, 3, 4, 0] rfl⟩
      rintro nn ih_20 H locs ls ⟨g_18, g_19, rfl, hg_19, he_23, hP, hD, hS, hl⟩
      obtain ⟨S_22, hsp, hin_24, hout_25⟩ := itr_step hlf_21 he_23
      refine lv_iload hx hb dX9_forgets_18 (lv_at hl 4 rfl) ?_
      refine lv_aload_n hx hb dX9_forgets_20 rfl (lv_at hl 0 rfl) ?_
      refine va_get (D := (dC, dI)) (ci := 9) (v := .int (nI x46)) (C := RX9) (T := TX9) (N := 67) hx hb hts hiX9 hown hK hP 0 rfl rfl 46 (by decide) v_1 (fun _ h9 => h9) rfl dX9_forgets_21 ?_
      refine lv_icmp_ge (tgt := 114) hx hb dX9_forgets_24 (by decide) (fun c_26 => ?_) (fun c_26 => ?_)
      · have c_26 : x46 ≤ g_19 := (nI_leI (a := x46) (b := g_19) (Nat.lt_of_le_of_lt hx46 (Nat.le_of_ble_eq_true rfl)) (Nat.lt_of_le_of_lt hg_19 (Nat.le_of_ble_eq_true rfl))).mp c_26
        replace hsp := hsp.trans (if_pos c_26)
        have hsp := hout_25 _ hsp
        refine lv_iinc (v := (nI (g_5 + 1))) (lv' := [(3, .int (nI (g_5 + 1))), (0, .ref (ad 0)), (1, .ref (ad 35)), (2, .int p1), (4, .int (nI g_19))]) hx hb dX9_forgets_114 hl (k := 3) rfl (nI_1 _) (by decide) rfl (fun ls hl => ?_)
        refine lv_goto (tgt := 7) hx hb dX9_forgets_117 (by decide) ?_
        exact ih_6 (5 - (g_5 + 1)) (by omega) _ _ _ ⟨g_18, (g_5 + 1), rfl, (by omega), hin_10 _ hsp, hP, hD, hS, lv_sub hl [1, 2, 3, 0] rfl⟩
      · have c_26 : ¬ x46 ≤ g_19 := fun z => c_26 ((nI_leI (a := x46) (b := g_19) (Nat.lt_of_le_of_lt hx46 (Nat.le_of_ble_eq_true rfl)) (Nat.lt_of_le_of_lt hg_19 (Nat.le_of_ble_eq_true rfl))).mpr z)
        replace hsp := hsp.trans (if_neg c_26)
        refine lv_aload_n hx hb dX9_forgets_27 rfl (lv_at hl 1 rfl) ?_
        refine lv_iconst (v := 5) hx hb dX9_forgets_28 (by decide) ?_
        refine lv_iload_n hx hb dX9_forgets_29 rfl (lv_at hl 3 rfl) ?_
        refine lv_imul hx hb dX9_forgets_30 ?_
        refine lv_topi (fun y_27 ey_27 => ?_)
        obtain rfl : y_27 = (nI (5 * g_5)) := ey_27.trans (pk_mul 5 g_5)
        refine lv_iload hx hb dX9_forgets_31 (lv_at hl 4 rfl) ?_
        refine lv_iadd hx hb dX9_forgets_33 ?_
        refine lv_topi (fun y_28 ey_28 => ?_)
        obtain rfl : y_28 = (nI ((5 * g_5) + g_19)) := ey_28.trans (nI_add (5 * g_5) g_19)
        refine va_iald hx hb hK hP 20 19 rfl rfl (vp_in_nI (n := ((5 * g_5) + g_19)) (by omega) (Nat.le_of_ble_eq_true rfl)) dX9_forgets_34 ?_
        refine lv_topi (fun y_29 ey_29 => ?_)
        have ey_29 : y_29 = g_18 ((5 * g_5) + g_19) := ey_29.trans (congrArg g_18 (nI_clamp (n := ((5 * g_5) + g_19)) (by first | omega | exact Nat.lt_trans (zx16 (by omega) (by omega) (by omega)) (Nat.le_of_ble_eq_true rfl) | exact Nat.lt_trans (zy16 (by omega) (by omega)) (Nat.le_of_ble_eq_true rfl) | exact Nat.lt_trans (zx25 (by omega) (by omega) (by omega)) (Nat.le_of_ble_eq_true rfl) | exact Nat.lt_trans (zy25 (by omega) (by omega)) (Nat.le_of_ble_eq_true rfl))))
        replace hsp := hsp.trans (slet_eq ey_29)
        refine lv_istore (lv' := [(5, .int y_29), (0, .ref (ad 0)), (1, .ref (ad 35)), (2, .int p1), (3, .int (nI g_5)), (4, .int (nI g_19))]) hx hb dX9_forgets_35 hl (by decide) rfl (fun ls hl => ?_)
        refine lv_iload_n hx hb dX9_forgets_37 rfl (lv_at hl 4 rfl) ?_
        refine lv_iload hx hb dX9_forgets_38 (lv_at hl 5 rfl) ?_
        obtain ⟨JR_32, hJR_32, hsp⟩ := slet_ex hsp
        refine pu_join (fun H locs ls st => ∃ (g_30 : Nat → Int32), st = [] ∧ g_30 = JR_32 ∧ va_P (dC, dI) vwCl (mo_w ad ck x0 (nI x16) (nI x18) (nI x19) x20 (nI x21) (nI x22) x23 x24 x25 (nI x26) x27 (nI x28) (nI x29) (nI x30) (nI x33) x45 (nI x46) (nI x52) (nI x53) (nI x61) (nI x62) (nI x63) (nI x65) x66 f1 f2 f3 (bN 3 q4) (bN 7 q5) (bN 7 q6) (bN 4 q7) f8 (bN 2 q9) (bH q10) f11 (b2 m12_0 m12_1) (b2 m13_0 m13_1) (b2 m14_0 m14_1) (b2m m15_0 m15_1) f17 (bA 159 q31) f32 f34 g_30 f36 f37 (bN 7 q38) f39 f40 f41 (b2 m42_0 m42_1) f43 f44 f47 f48 f49 f50 f51 (bN 13 q54) (bN 120 q55) (bN 120 q56) f57 (bN 120 q58) f59 f60 f64) H ∧ va_D A (mo_w ad ck x0 (nI x16) (nI x18) (nI x19) x20 (nI x21) (nI x22) x23 x24 x25 (nI x26) x27 (nI x28) (nI x29) (nI x30) (nI x33) x45 (nI x46) (nI x52) (nI x53) (nI x61) (nI x62) (nI x63) (nI x65) x66 f1 f2 f3 (bN 3 q4) (bN 7 q5) (bN 7 q6) (bN 4 q7) f8 (bN 2 q9) (bH q10) f11 (b2 m12_0 m12_1) (b2 m13_0 m13_1) (b2 m14_0 m14_1) (b2m m15_0 m15_1) f17 (bA 159 q31) f32 f34 g_30 f36 f37 (bN 7 q38) f39 f40 f41 (b2 m42_0 m42_1) f43 f44 f47 f48 f49 f50 f51 (bN 13 q54) (bN 120 q55) (bN 120 q56) f57 (bN 120 q58) f59 f60 f64) ∧ va_S A s.heap H locs ∧ lv_has ls 6 [(0, .ref (ad 0)), (1, .ref (ad 35)), (2, .int p1), (3, .int (nI g_5)), (4, .int (nI g_19)), (5, .int y_29)]) 108 ?_ (fun j_31 => ?_)
        · rintro H locs ls st ⟨g_30, rfl, he_33, hP, hD, hS, hl⟩
          rw [← he_33] at hsp
          refine lv_iinc (v := (nI (g_19 + 1))) (lv' := [(4, .int (nI (g_19 + 1))), (0, .ref (ad 0)), (1, .ref (ad 35)), (2, .int p1), (3, .int (nI g_5)), (5, .int y_29)]) hx hb dX9_forgets_108 hl (k := 4) rfl (nI_1 _) (by decide) rfl (fun ls hl => ?_)
          refine lv_goto (tgt := 18) hx hb dX9_forgets_111 (by decide) ?_
          exact ih_20 (5 - (g_19 + 1)) (by omega) _ _ _ ⟨g_30, (g_19 + 1), rfl, (by omega), hin_24 _ hsp, hP, hD, hS, lv_sub hl [1, 2, 3, 4, 0] rfl⟩
        have hsp := hJR_32
        refine lv_icmp_ne (tgt := 46) hx hb dX9_forgets_40 (by decide) (fun c_34 => ?_) (fun c_34 => ?_)
        · have c_34 : ¬ g_5 = g_19 := fun z => c_34 ((nI_eq (a := g_5) (b := g_19) (Nat.lt_of_le_of_lt hg_5 (Nat.le_of_ble_eq_true rfl)) (Nat.lt_of_le_of_lt hg_19 (Nat.le_of_ble_eq_true rfl))).mpr z)
          replace hsp := hsp.trans (if_neg c_34)
          refine lv_iload hx hb dX9_forgets_46 (lv_at hl 0 rfl) ?_
          refine lv_iconst (v := 2) hx hb dX9_forgets_48 (by decide) ?_
          refine lv_aload_n hx hb dX9_forgets_49 rfl (lv_at hl 1 rfl) ?_
          refine va_get (D := (dC, dI)) (ci := 9) (v := .ref (ad 47)) (C := RX9) (T := TX9) (N := 67) hx hb hts hiX9 hown hK hP 0 rfl rfl 47 (by decide) v_2 (fun _ h9 => h9) rfl dX9_forgets_50 ?_
          refine lv_iload_n hx hb dX9_forgets_53 rfl (lv_at hl 4 rfl) ?_
          refine va_iald hx hb hK hP 30 29 rfl rfl (vp_in_nI (n := g_5) (by omega) (Nat.le_of_ble_eq_true rfl)) dX9_forgets_54 ?_
          refine lv_topi (fun y_35 ey_35 => ?_)
          have ey_35 : y_35 = f47 g_5 := ey_35.trans (congrArg f47 (nI_clamp (n := g_5) (Nat.lt_of_le_of_lt hg_5 (Nat.le_of_ble_eq_true rfl))))
          replace hsp := hsp.trans (slet_eq ey_35)
          refine lv_imul hx hb dX9_forgets_55 ?_
          refine lv_topi (fun y_36 ey_36 => ?_)
          replace hsp := hsp.trans (slet_eq ey_36)
          refine lv_iconst (v := 1) hx hb dX9_forgets_56 (by decide) ?_
          refine lv_iadd hx hb dX9_forgets_57 ?_
          refine lv_topi (fun y_37 ey_37 => ?_)
          replace hsp := hsp.trans (slet_eq ey_37)
          refine lv_icmp_le (tgt := 75) hx hb dX9_forgets_58 (by decide) (fun c_38 => ?_) (fun c_38 => ?_)
          · have hcc_38 := c_38
            replace hsp := hsp.trans (if_pos c_38)
            refine lv_iload hx hb dX9_forgets_75 (lv_at hl 0 rfl) ?_
            refine lv_bipush (v := (-2)) hx hb dX9_forgets_77 (by decide) ?_
            refine lv_aload_n hx hb dX9_forgets_79 rfl (lv_at hl 1 rfl) ?_
            refine va_get (D := (dC, dI)) (ci := 9) (v := .ref (ad 48)) (C := RX9) (T := TX9) (N := 67) hx hb hts hiX9 hown hK hP 0 rfl rfl 48 (by decide) v_3 (fun _ h9 => h9) rfl dX9_forgets_80 ?_
            refine lv_iload hx hb dX9_forgets_83 (lv_at hl 5 rfl) ?_
            refine va_iald hx hb hK hP 31 30 rfl rfl (vp_in_nI (n := g_19) (by omega) (Nat.le_of_ble_eq_true rfl)) dX9_forgets_85 ?_
            refine lv_topi (fun y_39 ey_39 => ?_)
            have ey_39 : y_39 = f48 g_19 := ey_39.trans (congrArg f48 (nI_clamp (n := g_19) (Nat.lt_of_le_of_lt hg_19 (Nat.le_of_ble_eq_true rfl))))
            replace hsp := hsp.trans (slet_eq ey_39)
            refine lv_imul hx hb dX9_forgets_86 ?_
            refine lv_topi (fun y_40 ey_40 => ?_)
            replace hsp := hsp.trans (slet_eq ey_40)
            refine lv_icmp_ge (tgt := 108) hx hb dX9_forgets_87 (by decide) (fun c_41 => ?_) (fun c_41 => ?_)
            · have hcc_41 := c_41
              replace hsp := hsp.trans (if_pos c_41)
              exact j_31 _ _ _ _ ⟨g_18, rfl, hsp.symm, hP, hD, hS, lv_sub hl [1, 2, 3, 4, 5, 0] rfl⟩
            · have hcc_41 := c_41
              replace hsp := hsp.trans (if_neg c_41)
              refine lv_aload_n hx hb dX9_forgets_90 rfl (lv_at hl 2 rfl) ?_
              refine lv_iconst (v := 5) hx hb dX9_forgets_91 (by decide) ?_
              refine lv_iload_n hx hb dX9_forgets_92 rfl (lv_at hl 4 rfl) ?_
              refine lv_imul hx hb dX9_forgets_93 ?_
              refine lv_topi (fun y_42 ey_42 => ?_)
              obtain rfl : y_42 = (nI (5 * g_5)) := ey_42.trans (pk_mul 5 g_5)
              refine lv_iload hx hb dX9_forgets_94 (lv_at hl 5 rfl) ?_
              refine lv_iadd hx hb dX9_forgets_96 ?_
              refine lv_topi (fun y_43 ey_43 => ?_)
              obtain rfl : y_43 = (nI ((5 * g_5) + g_19)) := ey_43.trans (nI_add (5 * g_5) g_19)
              refine lv_bipush (v := (-2)) hx hb dX9_forgets_97 (by decide) ?_
              refine lv_aload_n hx hb dX9_forgets_99 rfl (lv_at hl 1 rfl) ?_
              refine va_get (D := (dC, dI)) (ci := 9) (v := .ref (ad 48)) (C := RX9) (T := TX9) (N := 67) hx hb hts hiX9 hown hK hP 0 rfl rfl 48 (by decide) v_3 (fun _ h9 => h9) rfl dX9_forgets_100 ?_
              refine lv_iload hx hb dX9_forgets_103 (lv_at hl 5 rfl) ?_
              refine va_iald hx hb hK hP 31 30 rfl rfl (vp_in_nI (n := g_19) (by omega) (Nat.le_of_ble_eq_true rfl)) dX9_forgets_105 ?_
              refine lv_topi (fun y_44 ey_44 => ?_)
              have ey_44 : y_44 = f48 g_19 := ey_44.trans (congrArg f48 (nI_clamp (n := g_19) (Nat.lt_of_le_of_lt hg_19 (Nat.le_of_ble_eq_true rfl))))
              replace hsp := hsp.trans (slet_eq ey_44)
              refine lv_imul hx hb dX9_forgets_106 ?_
              refine lv_topi (fun y_45 ey_45 => ?_)
              replace hsp := hsp.trans (slet_eq ey_45)
              refine va_iast hx hb hK hP hD hS 20 19 rfl rfl (vp_in_nI (n := ((5 * g_5) + g_19)) (by omega) (Nat.le_of_ble_eq_true rfl)) dX9_forgets_107 (fun H locs hP hD hS => ?_)
              obtain ⟨f_46, ef_46, xf_46⟩ := up_x g_18 (n := ((5 * g_5) + g_19)) y_45 (by first | omega | exact Nat.lt_trans (zx16 (by omega) (by omega) (by omega)) (Nat.le_of_ble_eq_true rfl) | exact Nat.lt_trans (zy16 (by omega) (by omega)) (Nat.le_of_ble_eq_true rfl) | exact Nat.lt_trans (zx25 (by omega) (by omega) (by omega)) (Nat.le_of_ble_eq_true rfl) | exact Nat.lt_trans (zy25 (by omega) (by omega)) (Nat.le_of_ble_eq_true rfl))
              have hP : va_P (dC, dI) vwCl (mo_w ad ck x0 (nI x16) (nI x18) (nI x19) x20 (nI x21) (nI x22) x23 x24 x25 (nI x26) x27 (nI x28) (nI x29) (nI x30) (nI x33) x45 (nI x46) (nI x52) (nI x53) (nI x61) (nI x62) (nI x63) (nI x65) x66 f1 f2 f3 (bN 3 q4) (bN 7 q5) (bN 7 q6) (bN 4 q7) f8 (bN 2 q9) (bH q10) f11 (b2 m12_0 m12_1) (b2 m13_0 m13_1) (b2 m14_0 m14_1) (b2m m15_0 m15_1) f17 (bA 159 q31) f32 f34 f_46 f36 f37 (bN 7 q38) f39 f40 f41 (b2 m42_0 m42_1) f43 f44 f47 f48 f49 f50 f51 (bN 13 q54) (bN 120 q55) (bN 120 q56) f57 (bN 120 q58) f59 f60 f64) H := by rw [← ef_46]; exact hP
              have hD : va_D A (mo_w ad ck x0 (nI x16) (nI x18) (nI x19) x20 (nI x21) (nI x22) x23 x24 x25 (nI x26) x27 (nI x28) (nI x29) (nI x30) (nI x33) x45 (nI x46) (nI x52) (nI x53) (nI x61) (nI x62) (nI x63) (nI x65) x66 f1 f2 f3 (bN 3 q4) (bN 7 q5) (bN 7 q6) (bN 4 q7) f8 (bN 2 q9) (bH q10) f11 (b2 m12_0 m12_1) (b2 m13_0 m13_1) (b2 m14_0 m14_1) (b2m m15_0 m15_1) f17 (bA 159 q31) f32 f34 f_46 f36 f37 (bN 7 q38) f39 f40 f41 (b2 m42_0 m42_1) f43 f44 f47 f48 f49 f50 f51 (bN 13 q54) (bN 120 q55) (bN 120 q56) f57 (bN 120 q58) f59 f60 f64) := by rw [← ef_46]; exact hD
              replace hsp := hsp.trans (slet_eq xf_46)
              exact j_31 _ _ _ _ ⟨f_46, rfl, hsp.symm, hP, hD, hS, lv_sub hl [1, 2, 3, 4, 5, 0] rfl⟩
          · have hcc_38 := c_38
            replace hsp := hsp.trans (if_neg c_38)
            refine lv_aload_n hx hb dX9_forgets_61 rfl (lv_at hl 2 rfl) ?_
            refine lv_iconst (v := 5) hx hb dX9_forgets_62 (by decide) ?_
            refine lv_iload_n hx hb dX9_forgets_63 rfl (lv_at hl 4 rfl) ?_
            refine lv_imul hx hb dX9_forgets_64 ?_
            refine lv_topi (fun y_47 ey_47 => ?_)
            obtain rfl : y_47 = (nI (5 * g_5)) := ey_47.trans (pk_mul 5 g_5)
            refine lv_iload hx hb dX9_forgets_65 (lv_at hl 5 rfl) ?_
            refine lv_iadd hx hb dX9_forgets_67 ?_
            refine lv_topi (fun y_48 ey_48 => ?_)
            obtain rfl : y_48 = (nI ((5 * g_5) + g_19)) := ey_48.trans (nI_add (5 * g_5) g_19)
            refine lv_ldcw hx hb hown v_4 dX9_forgets_68 ?_
            refine va_iast hx hb hK hP hD hS 20 19 rfl rfl (vp_in_nI (n := ((5 * g_5) + g_19)) (by omega) (Nat.le_of_ble_eq_true rfl)) dX9_forgets_71 (fun H locs hP hD hS => ?_)
            obtain ⟨f_49, ef_49, xf_49⟩ := up_x g_18 (n := ((5 * g_5) + g_19)) 1048576 (by first | omega | exact Nat.lt_trans (zx16 (by omega) (by omega) (by omega)) (Nat.le_of_ble_eq_true rfl) | exact Nat.lt_trans (zy16 (by omega) (by omega)) (Nat.le_of_ble_eq_true rfl) | exact Nat.lt_trans (zx25 (by omega) (by omega) (by omega)) (Nat.le_of_ble_eq_true rfl) | exact Nat.lt_trans (zy25 (by omega) (by omega)) (Nat.le_of_ble_eq_true rfl))
            have hP : va_P (dC, dI) vwCl (mo_w ad ck x0 (nI x16) (nI x18) (nI x19) x20 (nI x21) (nI x22) x23 x24 x25 (nI x26) x27 (nI x28) (nI x29) (nI x30) (nI x33) x45 (nI x46) (nI x52) (nI x53) (nI x61) (nI x62) (nI x63) (nI x65) x66 f1 f2 f3 (bN 3 q4) (bN 7 q5) (bN 7 q6) (bN 4 q7) f8 (bN 2 q9) (bH q10) f11 (b2 m12_0 m12_1) (b2 m13_0 m13_1) (b2 m14_0 m14_1) (b2m m15_0 m15_1) f17 (bA 159 q31) f32 f34 f_49 f36 f37 (bN 7 q38) f39 f40 f41 (b2 m42_0 m42_1) f43 f44 f47 f48 f49 f50 f51 (bN 13 q54) (bN 120 q55) (bN 120 q56) f57 (bN 120 q58) f59 f60 f64) H := by rw [← ef_49]; exact hP
            have hD : va_D A (mo_w ad ck x0 (nI x16) (nI x18) (nI x19) x20 (nI x21) (nI x22) x23 x24 x25 (nI x26) x27 (nI x28) (nI x29) (nI x30) (nI x33) x45 (nI x46) (nI x52) (nI x53) (nI x61) (nI x62) (nI x63) (nI x65) x66 f1 f2 f3 (bN 3 q4) (bN 7 q5) (bN 7 q6) (bN 4 q7) f8 (bN 2 q9) (bH q10) f11 (b2 m12_0 m12_1) (b2 m13_0 m13_1) (b2 m14_0 m14_1) (b2m m15_0 m15_1) f17 (bA 159 q31) f32 f34 f_49 f36 f37 (bN 7 q38) f39 f40 f41 (b2 m42_0 m42_1) f43 f44 f47 f48 f49 f50 f51 (bN 13 q54) (bN 120 q55) (bN 120 q56) f57 (bN 120 q58) f59 f60 f64) := by rw [← ef_49]; exact hD
            replace hsp := hsp.trans (slet_eq xf_49)
            refine lv_goto (tgt := 108) hx hb dX9_forgets_72 (by decide) ?_
            exact j_31 _ _ _ _ ⟨f_49, rfl, hsp.symm, hP, hD, hS, lv_sub hl [1, 2, 3, 4, 5, 0] rfl⟩
        · have c_34 : g_5 = g_19 := (nI_eq (a := g_5) (b := g_19) (Nat.lt_of_le_of_lt hg_5 (Nat.le_of_ble_eq_true rfl)) (Nat.lt_of_le_of_lt hg_19 (Nat.le_of_ble_eq_true rfl))).mp c_34
          replace hsp := hsp.trans (if_pos c_34)
          refine lv_goto (tgt := 108) hx hb dX9_forgets_43 (by decide) ?_
          exact j_31 _ _ _ _ ⟨g_18, rfl, hsp.symm, hP, hD, hS, lv_sub hl [1, 2, 3, 4, 5, 0] rfl⟩
  · have hcc_1 := c_1
    replace hsp := hsp.trans (if_pos c_1)
    exact W.vret hx hb hr (fun t ht hW => ⟨⟨(), rfl, trivial, ⟨f35, ⟨by rw [ht]; exact hP, va_K.moved hW.alike hK, hD⟩, (hsp.symm.trans hRR)⟩⟩, hS.F ht⟩) hS.2.2 dX9_forgets_4
