theorem dX9_layForgotten_0 : decode cX9_layForgotten 0 = .ok (.iconst 0, 1) := by decide +kernel
theorem dX9_layForgotten_1 : decode cX9_layForgotten 1 = .ok (.istore_n 2, 1) := by decide +kernel
theorem dX9_layForgotten_2 : decode cX9_layForgotten 2 = .ok (.iload_n 2, 1) := by decide +kernel
theorem dX9_layForgotten_3 : decode cX9_layForgotten 3 = .ok (.iconst 5, 1) := by decide +kernel
theorem dX9_layForgotten_4 : decode cX9_layForgotten 4 = .ok (.if_icmp .ge 102, 3) := by decide +kernel
theorem dX9_layForgotten_7 : decode cX9_layForgotten 7 = .ok (.iload_n 2, 1) := by decide +kernel
theorem dX9_layForgotten_8 : decode cX9_layForgotten 8 = .ok (.ifCond .le 15, 3) := by decide +kernel
theorem dX9_layForgotten_11 : decode cX9_layForgotten 11 = .ok (.iload_n 2, 1) := by decide +kernel
theorem dX9_layForgotten_12 : decode cX9_layForgotten 12 = .ok (.aload_n 0, 1) := by decide +kernel
theorem dX9_layForgotten_13 : decode cX9_layForgotten 13 = .ok (.invokevirtual 280, 3) := by decide +kernel
theorem dX9_layForgotten_16 : decode cX9_layForgotten 16 = .ok (.if_icmp .gt 7, 3) := by decide +kernel
theorem dX9_layForgotten_19 : decode cX9_layForgotten 19 = .ok (.iconst 1, 1) := by decide +kernel
theorem dX9_layForgotten_20 : decode cX9_layForgotten 20 = .ok (.goto 4, 3) := by decide +kernel
theorem dX9_layForgotten_23 : decode cX9_layForgotten 23 = .ok (.iconst 0, 1) := by decide +kernel
theorem dX9_layForgotten_24 : decode cX9_layForgotten 24 = .ok (.istore_n 3, 1) := by decide +kernel
theorem dX9_layForgotten_25 : decode cX9_layForgotten 25 = .ok (.aload_n 0, 1) := by decide +kernel
theorem dX9_layForgotten_26 : decode cX9_layForgotten 26 = .ok (.getfield 102, 3) := by decide +kernel
theorem dX9_layForgotten_29 : decode cX9_layForgotten 29 = .ok (.iload_n 2, 1) := by decide +kernel
theorem dX9_layForgotten_30 : decode cX9_layForgotten 30 = .ok (.iload_n 3, 1) := by decide +kernel
theorem dX9_layForgotten_31 : decode cX9_layForgotten 31 = .ok (.ifCond .eq 23, 3) := by decide +kernel
theorem dX9_layForgotten_34 : decode cX9_layForgotten 34 = .ok (.aload_n 0, 1) := by decide +kernel
theorem dX9_layForgotten_35 : decode cX9_layForgotten 35 = .ok (.iload_n 2, 1) := by decide +kernel
theorem dX9_layForgotten_36 : decode cX9_layForgotten 36 = .ok (.iconst 1, 1) := by decide +kernel
theorem dX9_layForgotten_37 : decode cX9_layForgotten 37 = .ok (.isub, 1) := by decide +kernel
theorem dX9_layForgotten_38 : decode cX9_layForgotten 38 = .ok (.iload_n 1, 1) := by decide +kernel
theorem dX9_layForgotten_39 : decode cX9_layForgotten 39 = .ok (.iconst 1, 1) := by decide +kernel
theorem dX9_layForgotten_40 : decode cX9_layForgotten 40 = .ok (.if_icmp .ne 7, 3) := by decide +kernel
theorem dX9_layForgotten_43 : decode cX9_layForgotten 43 = .ok (.iconst 0, 1) := by decide +kernel
theorem dX9_layForgotten_44 : decode cX9_layForgotten 44 = .ok (.goto 4, 3) := by decide +kernel
theorem dX9_layForgotten_47 : decode cX9_layForgotten 47 = .ok (.iconst 1, 1) := by decide +kernel
theorem dX9_layForgotten_48 : decode cX9_layForgotten 48 = .ok (.invokevirtual 317, 3) := by decide +kernel
theorem dX9_layForgotten_51 : decode cX9_layForgotten 51 = .ok (.goto 4, 3) := by decide +kernel
theorem dX9_layForgotten_54 : decode cX9_layForgotten 54 = .ok (.iconst 0, 1) := by decide +kernel
theorem dX9_layForgotten_55 : decode cX9_layForgotten 55 = .ok (.iastore, 1) := by decide +kernel
theorem dX9_layForgotten_56 : decode cX9_layForgotten 56 = .ok (.aload_n 0, 1) := by decide +kernel
theorem dX9_layForgotten_57 : decode cX9_layForgotten 57 = .ok (.getfield 105, 3) := by decide +kernel
theorem dX9_layForgotten_60 : decode cX9_layForgotten 60 = .ok (.iload_n 2, 1) := by decide +kernel
theorem dX9_layForgotten_61 : decode cX9_layForgotten 61 = .ok (.iload_n 3, 1) := by decide +kernel
theorem dX9_layForgotten_62 : decode cX9_layForgotten 62 = .ok (.ifCond .eq 23, 3) := by decide +kernel
theorem dX9_layForgotten_65 : decode cX9_layForgotten 65 = .ok (.aload_n 0, 1) := by decide +kernel
theorem dX9_layForgotten_66 : decode cX9_layForgotten 66 = .ok (.iload_n 2, 1) := by decide +kernel
theorem dX9_layForgotten_67 : decode cX9_layForgotten 67 = .ok (.iconst 1, 1) := by decide +kernel
theorem dX9_layForgotten_68 : decode cX9_layForgotten 68 = .ok (.isub, 1) := by decide +kernel
theorem dX9_layForgotten_69 : decode cX9_layForgotten 69 = .ok (.iload_n 1, 1) := by decide +kernel
theorem dX9_layForgotten_70 : decode cX9_layForgotten 70 = .ok (.iconst 1, 1) := by decide +kernel
theorem dX9_layForgotten_71 : decode cX9_layForgotten 71 = .ok (.if_icmp .ne 7, 3) := by decide +kernel
theorem dX9_layForgotten_74 : decode cX9_layForgotten 74 = .ok (.iconst 0, 1) := by decide +kernel
theorem dX9_layForgotten_75 : decode cX9_layForgotten 75 = .ok (.goto 4, 3) := by decide +kernel
theorem dX9_layForgotten_78 : decode cX9_layForgotten 78 = .ok (.iconst 2, 1) := by decide +kernel
theorem dX9_layForgotten_79 : decode cX9_layForgotten 79 = .ok (.invokevirtual 317, 3) := by decide +kernel
theorem dX9_layForgotten_82 : decode cX9_layForgotten 82 = .ok (.goto 17, 3) := by decide +kernel
theorem dX9_layForgotten_85 : decode cX9_layForgotten 85 = .ok (.iload_n 2, 1) := by decide +kernel
theorem dX9_layForgotten_86 : decode cX9_layForgotten 86 = .ok (.aload_n 0, 1) := by decide +kernel
theorem dX9_layForgotten_87 : decode cX9_layForgotten 87 = .ok (.invokevirtual 280, 3) := by decide +kernel
theorem dX9_layForgotten_90 : decode cX9_layForgotten 90 = .ok (.if_icmp .le 8, 3) := by decide +kernel
theorem dX9_layForgotten_93 : decode cX9_layForgotten 93 = .ok (.bipush 60, 2) := by decide +kernel
theorem dX9_layForgotten_95 : decode cX9_layForgotten 95 = .ok (.goto 4, 3) := by decide +kernel
theorem dX9_layForgotten_98 : decode cX9_layForgotten 98 = .ok (.iconst 0, 1) := by decide +kernel
theorem dX9_layForgotten_99 : decode cX9_layForgotten 99 = .ok (.iastore, 1) := by decide +kernel
theorem dX9_layForgotten_100 : decode cX9_layForgotten 100 = .ok (.iinc 2 1, 3) := by decide +kernel
theorem dX9_layForgotten_103 : decode cX9_layForgotten 103 = .ok (.goto (-101), 3) := by decide +kernel
theorem dX9_layForgotten_106 : decode cX9_layForgotten 106 = .ok (.return_, 1) := by decide +kernel
abbrev vs_EM_layForgotten : List Cond := .code yX9_layForgotten cX9_layForgotten 4 none :: VM
theorem g_EM_layForgotten_EM_clocks : GoodIn vs_EM_layForgotten (wsV RX9 280 RX9 yX9_clocks vs_EM_clocks) := gm_V vm_140 vm_141 vm_142 vm_19 vm_143
theorem g_EM_layForgotten_EM_most : GoodIn vs_EM_layForgotten (wsV RX9 317 RX9 yX9_most vs_EM_most) := gm_V vm_179 vm_180 vm_181 vm_19 vm_182
noncomputable def sp_EM_layForgotten_L1 (x16 : Nat) (q4 : Nat → Nat) (q7 : Nat → Nat) (q9 : Nat → Nat) (q10 : Nat → Nat) (f11 : Nat → Int32) (m12_0 : Nat) (m12_1 : Nat) (m13_0 : Nat) (m13_1 : Nat) (m14_0 : Nat) (m14_1 : Nat) (p0 : Int32) : ((Nat → Int32) × (Nat → Int32) × Nat) → ((Nat → Int32) × (Nat → Int32) × Nat) ⊕ ((Nat → Int32) × (Nat → Int32)) := fun (g_4, g_5, g_6) => (if 5 ≤ g_6 then (Sum.inr (g_4, g_5)) else (slet (α := Nat) (if g_6 ≤ 0 then 0 else (slet (sp_EM_clocks x16 m12_0 m12_1) (fun u_47 => (if u_47 < g_6 then 0 else 1)))) (fun g_14 => (slet (α := Int32) (if g_14 = 0 then 0 else (slet (α := Nat) (if (p0 : Int32) = 1 then 0 else 1) (fun g_39 => (slet (sp_EM_most x16 q4 q7 q9 q10 f11 m13_0 m13_1 m14_0 m14_1 ((nI g_6) - 1) (nI g_39)) (fun r_43 => r_43))))) (fun g_18 => (slet (upd g_4 g_6 g_18) (fun f_22 => (slet (α := Int32) (if g_14 = 0 then (slet (sp_EM_clocks x16 m12_0 m12_1) (fun u_30 => (if g_6 ≤ u_30 then 0 else 60))) else (slet (α := Nat) (if (p0 : Int32) = 1 then 0 else 2) (fun g_32 => (slet (sp_EM_most x16 q4 q7 q9 q10 f11 m13_0 m13_1 m14_0 m14_1 ((nI g_6) - 1) (nI g_32)) (fun r_36 => r_36))))) (fun g_23 => (slet (upd g_5 g_6 g_23) (fun f_27 => (Sum.inl (f_22, f_27, (g_6 + 1))))))))))))))
noncomputable def sp_EM_layForgotten (x16 : Nat) (q4 : Nat → Nat) (q7 : Nat → Nat) (q9 : Nat → Nat) (q10 : Nat → Nat) (f11 : Nat → Int32) (m12_0 : Nat) (m12_1 : Nat) (m13_0 : Nat) (m13_1 : Nat) (m14_0 : Nat) (m14_1 : Nat) (f47 : Nat → Int32) (f48 : Nat → Int32) (p0 : Int32) : (Nat → Int32) × (Nat → Int32) := (itrv (α := (Nat → Int32) × (Nat → Int32) × Nat) (β := ((Nat → Int32) × (Nat → Int32))) default (sp_EM_layForgotten_L1 x16 q4 q7 q9 q10 f11 m12_0 m12_1 m13_0 m13_1 m14_0 m14_1 p0) (f47, f48, 0))
set_option maxHeartbeats 4000000 in
set_option maxRecDepth 100000 in
theorem c_EM_layForgotten (l : Launch) (dC : Nat → ClassId) (dI : Nat → Nat → Nat) (sz : Nat) (ad : Nat → Nat) (ck : Nat → ClassId) (x0 : Int32) (x16 : Nat) (x18 : Nat) (x19 : Nat) (x20 : Int32) (x21 : Nat) (x22 : Nat) (x23 : Int32) (x24 : Int32) (x25 : Int32) (x26 : Nat) (x27 : Int32) (x28 : Nat) (x29 : Nat) (x30 : Nat) (x33 : Nat) (x45 : Int32) (x46 : Nat) (x52 : Nat) (x53 : Nat) (x61 : Nat) (x62 : Nat) (x63 : Nat) (x65 : Nat) (x66 : Int32) (f1 : Nat → Int32) (f2 : Nat → Int32) (f3 : Nat → Int32) (q4 : Nat → Nat) (q5 : Nat → Nat) (q6 : Nat → Nat) (q7 : Nat → Nat) (f8 : Nat → Int32) (q9 : Nat → Nat) (q10 : Nat → Nat) (f11 : Nat → Int32) (m12_0 m12_1 : Nat) (m13_0 m13_1 : Nat) (m14_0 m14_1 : Nat) (m15_0 m15_1 : Nat) (f17 : Nat → Int32) (q31 : Nat → Nat) (f32 : Nat → Int32) (f34 : Nat → Int32) (f35 : Nat → Int32) (f36 : Nat → Int32) (f37 : Nat → Int32) (q38 : Nat → Nat) (f39 : Nat → Int32) (f40 : Nat → Int32) (f41 : Nat → Int32) (m42_0 m42_1 : Nat) (f43 : Nat → Int32) (f44 : Nat → Int32) (f47 : Nat → Int32) (f48 : Nat → Int32) (f49 : Nat → Int32) (f50 : Nat → Int32) (f51 : Nat → Int32) (q54 : Nat → Nat) (q55 : Nat → Nat) (q56 : Nat → Nat) (f57 : Nat → Int32) (q58 : Nat → Nat) (f59 : Nat → Int32) (f60 : Nat → Int32) (f64 : Nat → Int32) (p0 : Int32) (hx16 : x16 ≤ 1) (hx18 : x18 ≤ 900) (hx19 : x19 ≤ 900) (hx21 : x21 ≤ 900) (hx22 : x22 ≤ 4) (hx26 : x26 ≤ 6) (hx28 : x28 ≤ 1) (hx29 : x29 ≤ 1) (hx30 : x30 ≤ 1) (hx33 : x33 ≤ 20) (hx46 : x46 ≤ 5) (hx52 : x52 ≤ 2400) (hx53 : x53 ≤ 119) (hx61 : x61 ≤ 119) (hx62 : x62 ≤ 2000) (hx63 : x63 ≤ 1) (hx65 : x65 ≤ 7) (hm12_0 : m12_0 ≤ 3) (hm12_1 : m12_1 ≤ 3) (hm13_0 : m13_0 ≤ 8) (hm13_1 : m13_1 ≤ 8) (hm14_0 : m14_0 ≤ 14) (hm14_1 : m14_1 ≤ 14) (hm15_0 : m15_0 ≤ 8) (hm15_1 : m15_1 ≤ 8) (hm42_0 : m42_0 ≤ 120) (hm42_1 : m42_1 ≤ 400) : Met l yX9_layForgotten vs_EM_layForgotten ({ frames := 4, cells := 0, slots := 0, locals := 91 }) (va_Pc [.ref (ad 0), .int p0] (pu_B (dC, dI) (mo_w ad ck x0 (nI x16) (nI x18) (nI x19) x20 (nI x21) (nI x22) x23 x24 x25 (nI x26) x27 (nI x28) (nI x29) (nI x30) (nI x33) x45 (nI x46) (nI x52) (nI x53) (nI x61) (nI x62) (nI x63) (nI x65) x66 f1 f2 f3 (bN 3 q4) (bN 7 q5) (bN 7 q6) (bN 4 q7) f8 (bN 2 q9) (bH q10) f11 (b2 m12_0 m12_1) (b2 m13_0 m13_1) (b2 m14_0 m14_1) (b2m m15_0 m15_1) f17 (bA 159 q31) f32 f34 f35 f36 f37 (bN 7 q38) f39 f40 f41 (b2 m42_0 m42_1) f43 f44 f47 f48 f49 f50 f51 (bN 13 q54) (bN 120 q55) (bN 120 q56) f57 (bN 120 q58) f59 f60 f64) (mo_t ck) sz)) (va_Qv (fun (_ : Unit) => True) (fun _ t => ∃ (z47 : Nat → Int32) (z48 : Nat → Int32), pu_E (dC, dI) (mo_w ad ck x0 (nI x16) (nI x18) (nI x19) x20 (nI x21) (nI x22) x23 x24 x25 (nI x26) x27 (nI x28) (nI x29) (nI x30) (nI x33) x45 (nI x46) (nI x52) (nI x53) (nI x61) (nI x62) (nI x63) (nI x65) x66 f1 f2 f3 (bN 3 q4) (bN 7 q5) (bN 7 q6) (bN 4 q7) f8 (bN 2 q9) (bH q10) f11 (b2 m12_0 m12_1) (b2 m13_0 m13_1) (b2 m14_0 m14_1) (b2m m15_0 m15_1) f17 (bA 159 q31) f32 f34 f35 f36 f37 (bN 7 q38) f39 f40 f41 (b2 m42_0 m42_1) f43 f44 z47 z48 f49 f50 f51 (bN 13 q54) (bN 120 q55) (bN 120 q56) f57 (bN 120 q58) f59 f60 f64) (mo_t ck) (va_A ((mo_w ad ck x0 (nI x16) (nI x18) (nI x19) x20 (nI x21) (nI x22) x23 x24 x25 (nI x26) x27 (nI x28) (nI x29) (nI x30) (nI x33) x45 (nI x46) (nI x52) (nI x53) (nI x61) (nI x62) (nI x63) (nI x65) x66 f1 f2 f3 (bN 3 q4) (bN 7 q5) (bN 7 q6) (bN 4 q7) f8 (bN 2 q9) (bH q10) f11 (b2 m12_0 m12_1) (b2 m13_0 m13_1) (b2 m14_0 m14_1) (b2m m15_0 m15_1) f17 (bA 159 q31) f32 f34 f35 f36 f37 (bN 7 q38) f39 f40 f41 (b2 m42_0 m42_1) f43 f44 f47 f48 f49 f50 f51 (bN 13 q54) (bN 120 q55) (bN 120 q56) f57 (bN 120 q58) f59 f60 f64)) sz) t ∧ ((z47, z48) = (sp_EM_layForgotten x16 q4 q7 q9 q10 f11 m12_0 m12_1 m13_0 m13_1 m14_0 m14_1 f47 f48 p0))) (va_A ((mo_w ad ck x0 (nI x16) (nI x18) (nI x19) x20 (nI x21) (nI x22) x23 x24 x25 (nI x26) x27 (nI x28) (nI x29) (nI x30) (nI x33) x45 (nI x46) (nI x52) (nI x53) (nI x61) (nI x62) (nI x63) (nI x65) x66 f1 f2 f3 (bN 3 q4) (bN 7 q5) (bN 7 q6) (bN 4 q7) f8 (bN 2 q9) (bH q10) f11 (b2 m12_0 m12_1) (b2 m13_0 m13_1) (b2 m14_0 m14_1) (b2m m15_0 m15_1) f17 (bA 159 q31) f32 f34 f35 f36 f37 (bN 7 q38) f39 f40 f41 (b2 m42_0 m42_1) f43 f44 f47 f48 f49 f50 f51 (bN 13 q54) (bN 120 q55) (bN 120 q56) f57 (bN 120 q58) f59 f60 f64)) sz)) 0 0 (va_A ((mo_w ad ck x0 (nI x16) (nI x18) (nI x19) x20 (nI x21) (nI x22) x23 x24 x25 (nI x26) x27 (nI x28) (nI x29) (nI x30) (nI x33) x45 (nI x46) (nI x52) (nI x53) (nI x61) (nI x62) (nI x63) (nI x65) x66 f1 f2 f3 (bN 3 q4) (bN 7 q5) (bN 7 q6) (bN 4 q7) f8 (bN 2 q9) (bH q10) f11 (b2 m12_0 m12_1) (b2 m13_0 m13_1) (b2 m14_0 m14_1) (b2m m15_0 m15_1) f17 (bA 159 q31) f32 f34 f35 f36 f37 (bN 7 q38) f39 f40 f41 (b2 m42_0 m42_1) f43 f44 f47 f48 f49 f50 f51 (bN 13 q54) (bN 120 q55) (bN 120 q56) f57 (bN 120 q58) f59 f60 f64)) sz) := by
  refine Met.ofW (cc := cX9_layForgotten) (maxL := 4) (ret := none) (by decide) rfl ?_
  intro p e s m args below meth c s₁ B hml hv
  obtain ⟨rfl, rfl, hP, hK, hD0⟩ := hv
  have hx := B.exec
  have hb := B.bytes
  have hr := B.returns
  have hts := atoms_spec (ws := vs_EM_layForgotten) B.pre
  have v_1 := hts (.fieldLink RX9 102 "ClockReachModel" "high" "[I") (List.mem_cons_of_mem _ vm_212)
  have v_2 := hts (.fieldLink RX9 105 "ClockReachModel" "low" "[I") (List.mem_cons_of_mem _ vm_213)
  have hown : s.vm.findClass RX9 = some m.cls := findClass_of_methodNamed B.named
  have hlocks := B.notSynchronized
  have hiX9 : ∀ w ∈ wsX90, w ∈ vs_EM_layForgotten := fun _ h => List.mem_cons_of_mem _ (vmi_L h)
  have hD := hD0.self (sz := s.heap.size)
  generalize hAe : va_A ((mo_w ad ck x0 (nI x16) (nI x18) (nI x19) x20 (nI x21) (nI x22) x23 x24 x25 (nI x26) x27 (nI x28) (nI x29) (nI x30) (nI x33) x45 (nI x46) (nI x52) (nI x53) (nI x61) (nI x62) (nI x63) (nI x65) x66 f1 f2 f3 (bN 3 q4) (bN 7 q5) (bN 7 q6) (bN 4 q7) f8 (bN 2 q9) (bH q10) f11 (b2 m12_0 m12_1) (b2 m13_0 m13_1) (b2 m14_0 m14_1) (b2m m15_0 m15_1) f17 (bA 159 q31) f32 f34 f35 f36 f37 (bN 7 q38) f39 f40 f41 (b2 m42_0 m42_1) f43 f44 f47 f48 f49 f50 f51 (bN 13 q54) (bN 120 q55) (bN 120 q56) f57 (bN 120 q58) f59 f60 f64)) s.heap.size = A at hD ⊢
  have hA : ∀ q : Nat, s.heap.size ≤ q → A q := fun q h => by rw [← hAe]; exact Or.inr h
  have hS : va_S A s.heap s.heap [] := va_S.rf
  have hl := lv_entry ([.ref (ad 0), .int p0]) (n := 4) (Nat.le_of_ble_eq_true rfl)
  rw [lg_entry_eq]
  generalize (lg_sl ([.ref (ad 0), .int p0]) ++ List.replicate (4 - (lg_sl ([.ref (ad 0), .int p0])).length) Slot.unset).toArray = ls at hl ⊢
  have hl : lv_has ls 4 [(0, .ref (ad 0)), (1, .int p0)] := hl
  obtain ⟨RR, hRR⟩ : ∃ x, x = (sp_EM_layForgotten x16 q4 q7 q9 q10 f11 m12_0 m12_1 m13_0 m13_1 m14_0 m14_1 f47 f48 p0) := ⟨_, rfl⟩
  have hsp := hRR
  refine lv_iconst (v := 0) hx hb dX9_layForgotten_0 (by decide) ?_
  refine lv_istore_n (lv' := [(2, .int 0), (0, .ref (ad 0)), (1, .int p0)]) hx hb dX9_layForgotten_1 rfl hl (by decide) rfl (fun ls hl => ?_)
  obtain ⟨lf_8, dlf_8, hlf_8, hsp⟩ := itr_ex hsp
  delta sp_EM_layForgotten_L1 at hlf_8
  refine pu_while (fun nn H locs ls => ∃ (g_4 : Nat → Int32) (g_5 : Nat → Int32) (g_6 : Nat), nn = 5 - g_6 ∧ g_6 ≤ 5 ∧ RR = itrv dlf_8 lf_8 (g_4, g_5, g_6) ∧ va_P (dC, dI) vwCl (mo_w ad ck x0 (nI x16) (nI x18) (nI x19) x20 (nI x21) (nI x22) x23 x24 x25 (nI x26) x27 (nI x28) (nI x29) (nI x30) (nI x33) x45 (nI x46) (nI x52) (nI x53) (nI x61) (nI x62) (nI x63) (nI x65) x66 f1 f2 f3 (bN 3 q4) (bN 7 q5) (bN 7 q6) (bN 4 q7) f8 (bN 2 q9) (bH q10) f11 (b2 m12_0 m12_1) (b2 m13_0 m13_1) (b2 m14_0 m14_1) (b2m m15_0 m15_1) f17 (bA 159 q31) f32 f34 f35 f36 f37 (bN 7 q38) f39 f40 f41 (b2 m42_0 m42_1) f43 f44 g_4 g_5 f49 f50 f51 (bN 13 q54) (bN 120 q55) (bN 120 q56) f57 (bN 120 q58) f59 f60 f64) H ∧ va_D A (mo_w ad ck x0 (nI x16) (nI x18) (nI x19) x20 (nI x21) (nI x22) x23 x24 x25 (nI x26) x27 (nI x28) (nI x29) (nI x30) (nI x33) x45 (nI x46) (nI x52) (nI x53) (nI x61) (nI x62) (nI x63) (nI x65) x66 f1 f2 f3 (bN 3 q4) (bN 7 q5) (bN 7 q6) (bN 4 q7) f8 (bN 2 q9) (bH q10) f11 (b2 m12_0 m12_1) (b2 m13_0 m13_1) (b2 m14_0 m14_1) (b2m m15_0 m15_1) f17 (bA 159 q31) f32 f34 f35 f36 f37 (bN 7 q38) f39 f40 f41 (b2 m42_0 m42_1) f43 f44 g_4 g_5 f49 f50 f51 (bN 13 q54) (bN 120 q55) (bN 120 q56) f57 (bN 120 q58) f59 f60 f64) ∧ va_S A s.heap H locs ∧ lv_has ls 4 [(0, .ref (ad 0)), (1, .int p0), (2, .int (nI g_6))]) 2 ?_ _ _ _ _ ⟨f47, f48, 0, rfl, (Nat.le_of_ble_eq_true rfl), hsp, hP, hD, hS, lv_sub hl [1, 2, 0] rfl⟩
  rintro nn ih_7 H locs ls ⟨g_4, g_5, g_6, rfl, hg_6, he_10, hP, hD, hS, hl⟩
  obtain ⟨S_9, hsp, hin_11, hout_12⟩ := itr_step hlf_8 he_10
  refine lv_iload_n hx hb dX9_layForgotten_2 rfl (lv_at hl 2 rfl) ?_
  refine lv_iconst (v := 5) hx hb dX9_layForgotten_3 (by decide) ?_
  refine lv_icmp_ge (tgt := 106) hx hb dX9_layForgotten_4 (by decide) (fun c_13 => ?_) (fun c_13 => ?_)
  · have c_13 : 5 ≤ g_6 := (nI_leI (a := 5) (b := g_6) (Nat.le_of_ble_eq_true rfl) (Nat.lt_of_le_of_lt hg_6 (Nat.le_of_ble_eq_true rfl))).mp c_13
    replace hsp := hsp.trans (if_pos c_13)
    have hsp := hout_12 _ hsp
    exact W.vret hx hb hr (fun t ht hW => ⟨⟨(), rfl, trivial, ⟨g_4, g_5, ⟨by rw [ht]; exact hP, va_K.moved hW.alike hK, hD⟩, (hsp.symm.trans hRR)⟩⟩, hS.F ht⟩) hS.2.2 dX9_layForgotten_106
  · have c_13 : ¬ 5 ≤ g_6 := fun z => c_13 ((nI_leI (a := 5) (b := g_6) (Nat.le_of_ble_eq_true rfl) (Nat.lt_of_le_of_lt hg_6 (Nat.le_of_ble_eq_true rfl))).mpr z)
    replace hsp := hsp.trans (if_neg c_13)
    refine lv_iload_n hx hb dX9_layForgotten_7 rfl (lv_at hl 2 rfl) ?_
    obtain ⟨JR_16, hJR_16, hsp⟩ := slet_ex hsp
    refine pu_join (fun H locs ls st => ∃ (g_14 : Nat), st = [.int (nI g_14)] ∧ g_14 ≤ 1 ∧ g_14 = JR_16 ∧ va_P (dC, dI) vwCl (mo_w ad ck x0 (nI x16) (nI x18) (nI x19) x20 (nI x21) (nI x22) x23 x24 x25 (nI x26) x27 (nI x28) (nI x29) (nI x30) (nI x33) x45 (nI x46) (nI x52) (nI x53) (nI x61) (nI x62) (nI x63) (nI x65) x66 f1 f2 f3 (bN 3 q4) (bN 7 q5) (bN 7 q6) (bN 4 q7) f8 (bN 2 q9) (bH q10) f11 (b2 m12_0 m12_1) (b2 m13_0 m13_1) (b2 m14_0 m14_1) (b2m m15_0 m15_1) f17 (bA 159 q31) f32 f34 f35 f36 f37 (bN 7 q38) f39 f40 f41 (b2 m42_0 m42_1) f43 f44 g_4 g_5 f49 f50 f51 (bN 13 q54) (bN 120 q55) (bN 120 q56) f57 (bN 120 q58) f59 f60 f64) H ∧ va_D A (mo_w ad ck x0 (nI x16) (nI x18) (nI x19) x20 (nI x21) (nI x22) x23 x24 x25 (nI x26) x27 (nI x28) (nI x29) (nI x30) (nI x33) x45 (nI x46) (nI x52) (nI x53) (nI x61) (nI x62) (nI x63) (nI x65) x66 f1 f2 f3 (bN 3 q4) (bN 7 q5) (bN 7 q6) (bN 4 q7) f8 (bN 2 q9) (bH q10) f11 (b2 m12_0 m12_1) (b2 m13_0 m13_1) (b2 m14_0 m14_1) (b2m m15_0 m15_1) f17 (bA 159 q31) f32 f34 f35 f36 f37 (bN 7 q38) f39 f40 f41 (b2 m42_0 m42_1) f43 f44 g_4 g_5 f49 f50 f51 (bN 13 q54) (bN 120 q55) (bN 120 q56) f57 (bN 120 q58) f59 f60 f64) ∧ va_S A s.heap H locs ∧ lv_has ls 4 [(0, .ref (ad 0)), (1, .int p0), (2, .int (nI g_6))]) 24 ?_ (fun j_15 => ?_)
    · rintro H locs ls st ⟨g_14, rfl, hg_14, he_17, hP, hD, hS, hl⟩
      rw [← he_17] at hsp
      refine lv_istore_n (lv' := [(3, .int (nI g_14)), (0, .ref (ad 0)), (1, .int p0), (2, .int (nI g_6))]) hx hb dX9_layForgotten_24 rfl hl (by decide) rfl (fun ls hl => ?_)
      refine lv_aload_n hx hb dX9_layForgotten_25 rfl (lv_at hl 1 rfl) ?_
      refine va_get (D := (dC, dI)) (ci := 9) (v := .ref (ad 47)) (C := RX9) (T := TX9) (N := 67) hx hb hts hiX9 hown hK hP 0 rfl rfl 47 (by decide) v_1 (fun _ h9 => h9) rfl dX9_layForgotten_26 ?_
      refine lv_iload_n hx hb dX9_layForgotten_29 rfl (lv_at hl 3 rfl) ?_
      refine lv_iload_n hx hb dX9_layForgotten_30 rfl (lv_at hl 0 rfl) ?_
      obtain ⟨JR_20, hJR_20, hsp⟩ := slet_ex hsp
      refine pu_join (fun H locs ls st => ∃ (g_18 : Int32), st = [.int g_18, .int (nI g_6), .ref (ad 47)] ∧ g_18 = JR_20 ∧ va_P (dC, dI) vwCl (mo_w ad ck x0 (nI x16) (nI x18) (nI x19) x20 (nI x21) (nI x22) x23 x24 x25 (nI x26) x27 (nI x28) (nI x29) (nI x30) (nI x33) x45 (nI x46) (nI x52) (nI x53) (nI x61) (nI x62) (nI x63) (nI x65) x66 f1 f2 f3 (bN 3 q4) (bN 7 q5) (bN 7 q6) (bN 4 q7) f8 (bN 2 q9) (bH q10) f11 (b2 m12_0 m12_1) (b2 m13_0 m13_1) (b2 m14_0 m14_1) (b2m m15_0 m15_1) f17 (bA 159 q31) f32 f34 f35 f36 f37 (bN 7 q38) f39 f40 f41 (b2 m42_0 m42_1) f43 f44 g_4 g_5 f49 f50 f51 (bN 13 q54) (bN 120 q55) (bN 120 q56) f57 (bN 120 q58) f59 f60 f64) H ∧ va_D A (mo_w ad ck x0 (nI x16) (nI x18) (nI x19) x20 (nI x21) (nI x22) x23 x24 x25 (nI x26) x27 (nI x28) (nI x29) (nI x30) (nI x33) x45 (nI x46) (nI x52) (nI x53) (nI x61) (nI x62) (nI x63) (nI x65) x66 f1 f2 f3 (bN 3 q4) (bN 7 q5) (bN 7 q6) (bN 4 q7) f8 (bN 2 q9) (bH q10) f11 (b2 m12_0 m12_1) (b2 m13_0 m13_1) (b2 m14_0 m14_1) (b2m m15_0 m15_1) f17 (bA 159 q31) f32 f34 f35 f36 f37 (bN 7 q38) f39 f40 f41 (b2 m42_0 m42_1) f43 f44 g_4 g_5 f49 f50 f51 (bN 13 q54) (bN 120 q55) (bN 120 q56) f57 (bN 120 q58) f59 f60 f64) ∧ va_S A s.heap H locs ∧ lv_has ls 4 [(0, .ref (ad 0)), (1, .int p0), (2, .int (nI g_6)), (3, .int (nI g_14))]) 55 ?_ (fun j_19 => ?_)
      · rintro H locs ls st ⟨g_18, rfl, he_21, hP, hD, hS, hl⟩
        rw [← he_21] at hsp
        refine va_iast hx hb hK hP hD hS 30 29 rfl rfl (vp_in_nI (n := g_6) (by omega) (Nat.le_of_ble_eq_true rfl)) dX9_layForgotten_55 (fun H locs hP hD hS => ?_)
        obtain ⟨f_22, ef_22, xf_22⟩ := up_x g_4 (n := g_6) g_18 (Nat.lt_of_le_of_lt hg_6 (Nat.le_of_ble_eq_true rfl))
        have hP : va_P (dC, dI) vwCl (mo_w ad ck x0 (nI x16) (nI x18) (nI x19) x20 (nI x21) (nI x22) x23 x24 x25 (nI x26) x27 (nI x28) (nI x29) (nI x30) (nI x33) x45 (nI x46) (nI x52) (nI x53) (nI x61) (nI x62) (nI x63) (nI x65) x66 f1 f2 f3 (bN 3 q4) (bN 7 q5) (bN 7 q6) (bN 4 q7) f8 (bN 2 q9) (bH q10) f11 (b2 m12_0 m12_1) (b2 m13_0 m13_1) (b2 m14_0 m14_1) (b2m m15_0 m15_1) f17 (bA 159 q31) f32 f34 f35 f36 f37 (bN 7 q38) f39 f40 f41 (b2 m42_0 m42_1) f43 f44 f_22 g_5 f49 f50 f51 (bN 13 q54) (bN 120 q55) (bN 120 q56) f57 (bN 120 q58) f59 f60 f64) H := by rw [← ef_22]; exact hP
        have hD : va_D A (mo_w ad ck x0 (nI x16) (nI x18) (nI x19) x20 (nI x21) (nI x22) x23 x24 x25 (nI x26) x27 (nI x28) (nI x29) (nI x30) (nI x33) x45 (nI x46) (nI x52) (nI x53) (nI x61) (nI x62) (nI x63) (nI x65) x66 f1 f2 f3 (bN 3 q4) (bN 7 q5) (bN 7 q6) (bN 4 q7) f8 (bN 2 q9) (bH q10) f11 (b2 m12_0 m12_1) (b2 m13_0 m13_1) (b2 m14_0 m14_1) (b2m m15_0 m15_1) f17 (bA 159 q31) f32 f34 f35 f36 f37 (bN 7 q38) f39 f40 f41 (b2 m42_0 m42_1) f43 f44 f_22 g_5 f49 f50 f51 (bN 13 q54) (bN 120 q55) (bN 120 q56) f57 (bN 120 q58) f59 f60 f64) := by rw [← ef_22]; exact hD
        replace hsp := hsp.trans (slet_eq xf_22)
        refine lv_aload_n hx hb dX9_layForgotten_56 rfl (lv_at hl 0 rfl) ?_
        refine va_get (D := (dC, dI)) (ci := 9) (v := .ref (ad 48)) (C := RX9) (T := TX9) (N := 67) hx hb hts hiX9 hown hK hP 0 rfl rfl 48 (by decide) v_2 (fun _ h9 => h9) rfl dX9_layForgotten_57 ?_
        refine lv_iload_n hx hb dX9_layForgotten_60 rfl (lv_at hl 2 rfl) ?_
        refine lv_iload_n hx hb dX9_layForgotten_61 rfl (lv_at hl 3 rfl) ?_
        obtain ⟨JR_25, hJR_25, hsp⟩ := slet_ex hsp
        refine pu_join (fun H locs ls st => ∃ (g_23 : Int32), st = [.int g_23, .int (nI g_6), .ref (ad 48)] ∧ g_23 = JR_25 ∧ va_P (dC, dI) vwCl (mo_w ad ck x0 (nI x16) (nI x18) (nI x19) x20 (nI x21) (nI x22) x23 x24 x25 (nI x26) x27 (nI x28) (nI x29) (nI x30) (nI x33) x45 (nI x46) (nI x52) (nI x53) (nI x61) (nI x62) (nI x63) (nI x65) x66 f1 f2 f3 (bN 3 q4) (bN 7 q5) (bN 7 q6) (bN 4 q7) f8 (bN 2 q9) (bH q10) f11 (b2 m12_0 m12_1) (b2 m13_0 m13_1) (b2 m14_0 m14_1) (b2m m15_0 m15_1) f17 (bA 159 q31) f32 f34 f35 f36 f37 (bN 7 q38) f39 f40 f41 (b2 m42_0 m42_1) f43 f44 f_22 g_5 f49 f50 f51 (bN 13 q54) (bN 120 q55) (bN 120 q56) f57 (bN 120 q58) f59 f60 f64) H ∧ va_D A (mo_w ad ck x0 (nI x16) (nI x18) (nI x19) x20 (nI x21) (nI x22) x23 x24 x25 (nI x26) x27 (nI x28) (nI x29) (nI x30) (nI x33) x45 (nI x46) (nI x52) (nI x53) (nI x61) (nI x62) (nI x63) (nI x65) x66 f1 f2 f3 (bN 3 q4) (bN 7 q5) (bN 7 q6) (bN 4 q7) f8 (bN 2 q9) (bH q10) f11 (b2 m12_0 m12_1) (b2 m13_0 m13_1) (b2 m14_0 m14_1) (b2m m15_0 m15_1) f17 (bA 159 q31) f32 f34 f35 f36 f37 (bN 7 q38) f39 f40 f41 (b2 m42_0 m42_1) f43 f44 f_22 g_5 f49 f50 f51 (bN 13 q54) (bN 120 q55) (bN 120 q56) f57 (bN 120 q58) f59 f60 f64) ∧ va_S A s.heap H locs ∧ lv_has ls 4 [(0, .ref (ad 0)), (1, .int p0), (2, .int (nI g_6)), (3, .int (nI g_14))]) 99 ?_ (fun j_24 => ?_)
        · rintro H locs ls st ⟨g_23, rfl, he_26, hP, hD, hS, hl⟩
          rw [← he_26] at hsp
          refine va_iast hx hb hK hP hD hS 31 30 rfl rfl (vp_in_nI (n := g_6) (by omega) (Nat.le_of_ble_eq_true rfl)) dX9_layForgotten_99 (fun H locs hP hD hS => ?_)
          obtain ⟨f_27, ef_27, xf_27⟩ := up_x g_5 (n := g_6) g_23 (Nat.lt_of_le_of_lt hg_6 (Nat.le_of_ble_eq_true rfl))
          have hP : va_P (dC, dI) vwCl (mo_w ad ck x0 (nI x16) (nI x18) (nI x19) x20 (nI x21) (nI x22) x23 x24 x25 (nI x26) x27 (nI x28) (nI x29) (nI x30) (nI x33) x45 (nI x46) (nI x52) (nI x53) (nI x61) (nI x62) (nI x63) (nI x65) x66 f1 f2 f3 (bN 3 q4) (bN 7 q5) (bN 7 q6) (bN 4 q7) f8 (bN 2 q9) (bH q10) f11 (b2 m12_0 m12_1) (b2 m13_0 m13_1) (b2 m14_0 m14_1) (b2m m15_0 m15_1) f17 (bA 159 q31) f32 f34 f35 f36 f37 (bN 7 q38) f39 f40 f41 (b2 m42_0 m42_1) f43 f44 f_22 f_27 f49 f50 f51 (bN 13 q54) (bN 120 q55) (bN 120 q56) f57 (bN 120 q58) f59 f60 f64) H := by rw [← ef_27]; exact hP
          have hD : va_D A (mo_w ad ck x0 (nI x16) (nI x18) (nI x19) x20 (nI x21) (nI x22) x23 x24 x25 (nI x26) x27 (nI x28) (nI x29) (nI x30) (nI x33) x45 (nI x46) (nI x52) (nI x53) (nI x61) (nI x62) (nI x63) (nI x65) x66 f1 f2 f3 (bN 3 q4) (bN 7 q5) (bN 7 q6) (bN 4 q7) f8 (bN 2 q9) (bH q10) f11 (b2 m12_0 m12_1) (b2 m13_0 m13_1) (b2 m14_0 m14_1) (b2m m15_0 m15_1) f17 (bA 159 q31) f32 f34 f35 f36 f37 (bN 7 q38) f39 f40 f41 (b2 m42_0 m42_1) f43 f44 f_22 f_27 f49 f50 f51 (bN 13 q54) (bN 120 q55) (bN 120 q56) f57 (bN 120 q58) f59 f60 f64) := by rw [← ef_27]; exact hD
          replace hsp := hsp.trans (slet_eq xf_27)
          refine lv_iinc (v := (nI (g_6 + 1))) (lv' := [(2, .int (nI (g_6 + 1))), (0, .ref (ad 0)), (1, .int p0), (3, .int (nI g_14))]) hx hb dX9_layForgotten_100 hl (k := 2) rfl (nI_1 _) (by decide) rfl (fun ls hl => ?_)
          refine lv_goto (tgt := 2) hx hb dX9_layForgotten_103 (by decide) ?_
          exact ih_7 (5 - (g_6 + 1)) (by omega) _ _ _ ⟨f_22, f_27, (g_6 + 1), rfl, (by omega), hin_11 _ hsp, hP, hD, hS, lv_sub hl [1, 2, 0] rfl⟩
        have hsp := hJR_25
        refine lv_if_eq (tgt := 85) hx hb dX9_layForgotten_62 (by decide) (fun c_28 => ?_) (fun c_28 => ?_)
        · have c_28 : g_14 = 0 := (nI_eq (a := g_14) (b := 0) (Nat.lt_of_le_of_lt hg_14 (Nat.le_of_ble_eq_true rfl)) (Nat.le_of_ble_eq_true rfl)).mp c_28
          replace hsp := hsp.trans (if_pos c_28)
          refine lv_iload_n hx hb dX9_layForgotten_85 rfl (lv_at hl 2 rfl) ?_
          refine lv_aload_n hx hb dX9_layForgotten_86 rfl (lv_at hl 0 rfl) ?_
          refine va_calli (va_runV (As := []) (rest := [.int (nI g_6), .int (nI g_6), .ref (ad 48)]) ⟨hx, hb, hml, hown, hts⟩ (c_EM_clocks l dC dI _ ad ck x0 x16 x18 x19 x20 x21 x22 x23 x24 x25 x26 x27 x28 x29 x30 x33 x45 x46 x52 x53 x61 x62 x63 x65 x66 f1 f2 f3 q4 q5 q6 q7 f8 q9 q10 f11 m12_0 m12_1 m13_0 m13_1 m14_0 m14_1 m15_0 m15_1 f17 q31 f32 f34 f35 f36 f37 q38 f39 f40 f41 m42_0 m42_1 f43 f44 f_22 g_5 f49 f50 f51 q54 q55 q56 f57 q58 f59 f60 f64 hx16 hx18 hx19 hx21 hx22 hx26 hx28 hx29 hx30 hx33 hx46 hx52 hx53 hx61 hx62 hx63 hx65 hm12_0 hm12_1 hm13_0 hm13_1 hm14_0 hm14_1 hm15_0 hm15_1 hm42_0 hm42_1) (cwV 0 hts g_EM_layForgotten_EM_clocks rfl rfl rfl (by decide +kernel) ⟨Nat.le_of_ble_eq_true rfl, Nat.le_of_ble_eq_true rfl⟩) ⟨pu_bl, va_recv hK hP (ci := 9) (q0 := 0) rfl rfl, pu_in hP hK hD⟩ rfl rfl hl.1 rfl (lv_room (Nat.le_of_ble_eq_true rfl)) dX9_layForgotten_87 ⟨Nat.le_of_ble_eq_true rfl, Nat.le_of_ble_eq_true rfl⟩) hS (fun q _ h => pu_fr hS hA q h) (pu_fr hS hA) (fun r_29 u t H1 locs ht hvm hw hB hz1 hk1 hS => ?_)
          have hP := pu_keep hP hk1
          clear hk1 hz1 ht hvm
          generalize H1 = H at hP hS ⊢
          obtain ⟨u_30, hu_30, rfl, iu_30⟩ := hw
          replace hsp := hsp.trans (slet_eq iu_30)
          refine lv_icmp_le (tgt := 98) hx hb dX9_layForgotten_90 (by decide) (fun c_31 => ?_) (fun c_31 => ?_)
          · have c_31 : g_6 ≤ u_30 := (nI_leI (a := g_6) (b := u_30) (Nat.lt_of_le_of_lt hg_6 (Nat.le_of_ble_eq_true rfl)) (Nat.lt_of_le_of_lt hu_30 (Nat.le_of_ble_eq_true rfl))).mp c_31
            replace hsp := hsp.trans (if_pos c_31)
            refine lv_iconst (v := 0) hx hb dX9_layForgotten_98 (by decide) ?_
            exact j_24 _ _ _ _ ⟨0, rfl, hsp.symm, hP, hD, hS, lv_sub hl [0, 1, 2, 3] rfl⟩
          · have c_31 : ¬ g_6 ≤ u_30 := fun z => c_31 ((nI_leI (a := g_6) (b := u_30) (Nat.lt_of_le_of_lt hg_6 (Nat.le_of_ble_eq_true rfl)) (Nat.lt_of_le_of_lt hu_30 (Nat.le_of_ble_eq_true rfl))).mpr z)
            replace hsp := hsp.trans (if_neg c_31)
            refine lv_bipush (v := 60) hx hb dX9_layForgotten_93 (by decide) ?_
            refine lv_goto (tgt := 99) hx hb dX9_layForgotten_95 (by decide) ?_
            exact j_24 _ _ _ _ ⟨60, rfl, hsp.symm, hP, hD, hS, lv_sub hl [0, 1, 2, 3] rfl⟩
        · have c_28 : ¬ g_14 = 0 := fun z => c_28 ((nI_eq (a := g_14) (b := 0) (Nat.lt_of_le_of_lt hg_14 (Nat.le_of_ble_eq_true rfl)) (Nat.le_of_ble_eq_true rfl)).mpr z)
          replace hsp := hsp.trans (if_neg c_28)
          refine lv_aload_n hx hb dX9_layForgotten_65 rfl (lv_at hl 0 rfl) ?_
          refine lv_iload_n hx hb dX9_layForgotten_66 rfl (lv_at hl 2 rfl) ?_
          refine lv_iconst (v := 1) hx hb dX9_layForgotten_67 (by decide) ?_
          refine lv_isub hx hb dX9_layForgotten_68 ?_
          refine lv_iload_n hx hb dX9_layForgotten_69 rfl (lv_at hl 1 rfl) ?_
          refine lv_iconst (v := 1) hx hb dX9_layForgotten_70 (by decide) ?_
          obtain ⟨JR_34, hJR_34, hsp⟩ := slet_ex hsp
          refine pu_join (fun H locs ls st => ∃ (g_32 : Nat), st = [.int (nI g_32), .int ((nI g_6) - 1), .ref (ad 0), .int (nI g_6), .ref (ad 48)] ∧ g_32 ≤ 2 ∧ g_32 = JR_34 ∧ va_P (dC, dI) vwCl (mo_w ad ck x0 (nI x16) (nI x18) (nI x19) x20 (nI x21) (nI x22) x23 x24 x25 (nI x26) x27 (nI x28) (nI x29) (nI x30) (nI x33) x45 (nI x46) (nI x52) (nI x53) (nI x61) (nI x62) (nI x63) (nI x65) x66 f1 f2 f3 (bN 3 q4) (bN 7 q5) (bN 7 q6) (bN 4 q7) f8 (bN 2 q9) (bH q10) f11 (b2 m12_0 m12_1) (b2 m13_0 m13_1) (b2 m14_0 m14_1) (b2m m15_0 m15_1) f17 (bA 159 q31) f32 f34 f35 f36 f37 (bN 7 q38) f39 f40 f41 (b2 m42_0 m42_1) f43 f44 f_22 g_5 f49 f50 f51 (bN 13 q54) (bN 120 q55) (bN 120 q56) f57 (bN 120 q58) f59 f60 f64) H ∧ va_D A (mo_w ad ck x0 (nI x16) (nI x18) (nI x19) x20 (nI x21) (nI x22) x23 x24 x25 (nI x26) x27 (nI x28) (nI x29) (nI x30) (nI x33) x45 (nI x46) (nI x52) (nI x53) (nI x61) (nI x62) (nI x63) (nI x65) x66 f1 f2 f3 (bN 3 q4) (bN 7 q5) (bN 7 q6) (bN 4 q7) f8 (bN 2 q9) (bH q10) f11 (b2 m12_0 m12_1) (b2 m13_0 m13_1) (b2 m14_0 m14_1) (b2m m15_0 m15_1) f17 (bA 159 q31) f32 f34 f35 f36 f37 (bN 7 q38) f39 f40 f41 (b2 m42_0 m42_1) f43 f44 f_22 g_5 f49 f50 f51 (bN 13 q54) (bN 120 q55) (bN 120 q56) f57 (bN 120 q58) f59 f60 f64) ∧ va_S A s.heap H locs ∧ lv_has ls 4 [(0, .ref (ad 0)), (1, .int p0), (2, .int (nI g_6)), (3, .int (nI g_14))]) 79 ?_ (fun j_33 => ?_)
          · rintro H locs ls st ⟨g_32, rfl, hg_32, he_35, hP, hD, hS, hl⟩
            rw [← he_35] at hsp
            refine va_calli (va_runV (As := [.int ((nI g_6) - 1), .int (nI g_32)]) (rest := [.int (nI g_6), .ref (ad 48)]) ⟨hx, hb, hml, hown, hts⟩ (c_EM_most l dC dI _ ad ck x0 x16 x18 x19 x20 x21 x22 x23 x24 x25 x26 x27 x28 x29 x30 x33 x45 x46 x52 x53 x61 x62 x63 x65 x66 f1 f2 f3 q4 q5 q6 q7 f8 q9 q10 f11 m12_0 m12_1 m13_0 m13_1 m14_0 m14_1 m15_0 m15_1 f17 q31 f32 f34 f35 f36 f37 q38 f39 f40 f41 m42_0 m42_1 f43 f44 f_22 g_5 f49 f50 f51 q54 q55 q56 f57 q58 f59 f60 f64 ((nI g_6) - 1) (nI g_32) hx16 hx18 hx19 hx21 hx22 hx26 hx28 hx29 hx30 hx33 hx46 hx52 hx53 hx61 hx62 hx63 hx65 hm12_0 hm12_1 hm13_0 hm13_1 hm14_0 hm14_1 hm15_0 hm15_1 hm42_0 hm42_1) (cwV 2 hts g_EM_layForgotten_EM_most rfl rfl rfl (by decide +kernel) ⟨Nat.le_of_ble_eq_true rfl, Nat.le_of_ble_eq_true rfl⟩) ⟨pu_bl, va_recv hK hP (ci := 9) (q0 := 0) rfl rfl, pu_in hP hK hD⟩ rfl rfl hl.1 rfl (lv_room (Nat.le_of_ble_eq_true rfl)) dX9_layForgotten_79 ⟨Nat.le_of_ble_eq_true rfl, Nat.le_of_ble_eq_true rfl⟩) hS (fun q _ h => pu_fr hS hA q h) (pu_fr hS hA) (fun r_36 u t H1 locs ht hvm hw hB hz1 hk1 hS => ?_)
            have hP := pu_keep hP hk1
            clear hk1 hz1 ht hvm
            generalize H1 = H at hP hS ⊢
            have ir_36 := hw
            replace hsp := hsp.trans (slet_eq ir_36)
            refine lv_goto (tgt := 99) hx hb dX9_layForgotten_82 (by decide) ?_
            exact j_24 _ _ _ _ ⟨r_36, rfl, hsp.symm, hP, hD, hS, lv_sub hl [0, 1, 2, 3] rfl⟩
          have hsp := hJR_34
          refine lv_icmp_ne (tgt := 78) hx hb dX9_layForgotten_71 (by decide) (fun c_37 => ?_) (fun c_37 => ?_)
          · have hcc_37 := c_37
            replace hsp := hsp.trans (if_neg c_37)
            refine lv_iconst (v := 2) hx hb dX9_layForgotten_78 (by decide) ?_
            exact j_33 _ _ _ _ ⟨2, rfl, (Nat.le_of_ble_eq_true rfl), hsp.symm, hP, hD, hS, lv_sub hl [0, 1, 2, 3] rfl⟩
          · have hcc_37 := c_37
            replace hsp := hsp.trans (if_pos c_37)
            refine lv_iconst (v := 0) hx hb dX9_layForgotten_74 (by decide) ?_
            refine lv_goto (tgt := 79) hx hb dX9_layForgotten_75 (by decide) ?_
            exact j_33 _ _ _ _ ⟨0, rfl, (Nat.le_of_ble_eq_true rfl), hsp.symm, hP, hD, hS, lv_sub hl [0, 1, 2, 3] rfl⟩
      have hsp := hJR_20
      refine lv_if_eq (tgt := 54) hx hb dX9_layForgotten_31 (by decide) (fun c_38 => ?_) (fun c_38 => ?_)
      · have c_38 : g_14 = 0 := (nI_eq (a := g_14) (b := 0) (Nat.lt_of_le_of_lt hg_14 (Nat.le_of_ble_eq_true rfl)) (Nat.le_of_ble_eq_true rfl)).mp c_38
        replace hsp := hsp.trans (if_pos c_38)
        refine lv_iconst (v := 0) hx hb dX9_layForgotten_54 (by decide) ?_
        exact j_19 _ _ _ _ ⟨0, rfl, hsp.symm, hP, hD, hS, lv_sub hl [1, 2, 3, 0] rfl⟩
      · have c_38 : ¬ g_14 = 0 := fun z => c_38 ((nI_eq (a := g_14) (b := 0) (Nat.lt_of_le_of_lt hg_14 (Nat.le_of_ble_eq_true rfl)) (Nat.le_of_ble_eq_true rfl)).mpr z)
        replace hsp := hsp.trans (if_neg c_38)
        refine lv_aload_n hx hb dX9_layForgotten_34 rfl (lv_at hl 1 rfl) ?_
        refine lv_iload_n hx hb dX9_layForgotten_35 rfl (lv_at hl 3 rfl) ?_
        refine lv_iconst (v := 1) hx hb dX9_layForgotten_36 (by decide) ?_
        refine lv_isub hx hb dX9_layForgotten_37 ?_
        refine lv_iload_n hx hb dX9_layForgotten_38 rfl (lv_at hl 2 rfl) ?_
        refine lv_iconst (v := 1) hx hb dX9_layForgotten_39 (by decide) ?_
        obtain ⟨JR_41, hJR_41, hsp⟩ := slet_ex hsp
        refine pu_join (fun H locs ls st => ∃ (g_39 : Nat), st = [.int (nI g_39), .int ((nI g_6) - 1), .ref (ad 0), .int (nI g_6), .ref (ad 47)] ∧ g_39 ≤ 1 ∧ g_39 = JR_41 ∧ va_P (dC, dI) vwCl (mo_w ad ck x0 (nI x16) (nI x18) (nI x19) x20 (nI x21) (nI x22) x23 x24 x25 (nI x26) x27 (nI x28) (nI x29) (nI x30) (nI x33) x45 (nI x46) (nI x52) (nI x53) (nI x61) (nI x62) (nI x63) (nI x65) x66 f1 f2 f3 (bN 3 q4) (bN 7 q5) (bN 7 q6) (bN 4 q7) f8 (bN 2 q9) (bH q10) f11 (b2 m12_0 m12_1) (b2 m13_0 m13_1) (b2 m14_0 m14_1) (b2m m15_0 m15_1) f17 (bA 159 q31) f32 f34 f35 f36 f37 (bN 7 q38) f39 f40 f41 (b2 m42_0 m42_1) f43 f44 g_4 g_5 f49 f50 f51 (bN 13 q54) (bN 120 q55) (bN 120 q56) f57 (bN 120 q58) f59 f60 f64) H ∧ va_D A (mo_w ad ck x0 (nI x16) (nI x18) (nI x19) x20 (nI x21) (nI x22) x23 x24 x25 (nI x26) x27 (nI x28) (nI x29) (nI x30) (nI x33) x45 (nI x46) (nI x52) (nI x53) (nI x61) (nI x62) (nI x63) (nI x65) x66 f1 f2 f3 (bN 3 q4) (bN 7 q5) (bN 7 q6) (bN 4 q7) f8 (bN 2 q9) (bH q10) f11 (b2 m12_0 m12_1) (b2 m13_0 m13_1) (b2 m14_0 m14_1) (b2m m15_0 m15_1) f17 (bA 159 q31) f32 f34 f35 f36 f37 (bN 7 q38) f39 f40 f41 (b2 m42_0 m42_1) f43 f44 g_4 g_5 f49 f50 f51 (bN 13 q54) (bN 120 q55) (bN 120 q56) f57 (bN 120 q58) f59 f60 f64) ∧ va_S A s.heap H locs ∧ lv_has ls 4 [(0, .ref (ad 0)), (1, .int p0), (2, .int (nI g_6)), (3, .int (nI g_14))]) 48 ?_ (fun j_40 => ?_)
        · rintro H locs ls st ⟨g_39, rfl, hg_39, he_42, hP, hD, hS, hl⟩
          rw [← he_42] at hsp
          refine va_calli (va_runV (As := [.int ((nI g_6) - 1), .int (nI g_39)]) (rest := [.int (nI g_6), .ref (ad 47)]) ⟨hx, hb, hml, hown, hts⟩ (c_EM_most l dC dI _ ad ck x0 x16 x18 x19 x20 x21 x22 x23 x24 x25 x26 x27 x28 x29 x30 x33 x45 x46 x52 x53 x61 x62 x63 x65 x66 f1 f2 f3 q4 q5 q6 q7 f8 q9 q10 f11 m12_0 m12_1 m13_0 m13_1 m14_0 m14_1 m15_0 m15_1 f17 q31 f32 f34 f35 f36 f37 q38 f39 f40 f41 m42_0 m42_1 f43 f44 g_4 g_5 f49 f50 f51 q54 q55 q56 f57 q58 f59 f60 f64 ((nI g_6) - 1) (nI g_39) hx16 hx18 hx19 hx21 hx22 hx26 hx28 hx29 hx30 hx33 hx46 hx52 hx53 hx61 hx62 hx63 hx65 hm12_0 hm12_1 hm13_0 hm13_1 hm14_0 hm14_1 hm15_0 hm15_1 hm42_0 hm42_1) (cwV 2 hts g_EM_layForgotten_EM_most rfl rfl rfl (by decide +kernel) ⟨Nat.le_of_ble_eq_true rfl, Nat.le_of_ble_eq_true rfl⟩) ⟨pu_bl, va_recv hK hP (ci := 9) (q0 := 0) rfl rfl, pu_in hP hK hD⟩ rfl rfl hl.1 rfl (lv_room (Nat.le_of_ble_eq_true rfl)) dX9_layForgotten_48 ⟨Nat.le_of_ble_eq_true rfl, Nat.le_of_ble_eq_true rfl⟩) hS (fun q _ h => pu_fr hS hA q h) (pu_fr hS hA) (fun r_43 u t H1 locs ht hvm hw hB hz1 hk1 hS => ?_)
          have hP := pu_keep hP hk1
          clear hk1 hz1 ht hvm
          generalize H1 = H at hP hS ⊢
          have ir_43 := hw
          replace hsp := hsp.trans (slet_eq ir_43)
          refine lv_goto (tgt := 55) hx hb dX9_layForgotten_51 (by decide) ?_
          exact j_19 _ _ _ _ ⟨r_43, rfl, hsp.symm, hP, hD, hS, lv_sub hl [0, 1, 2, 3] rfl⟩
        have hsp := hJR_41
        refine lv_icmp_ne (tgt := 47) hx hb dX9_layForgotten_40 (by decide) (fun c_44 => ?_) (fun c_44 => ?_)
        · have hcc_44 := c_44
          replace hsp := hsp.trans (if_neg c_44)
          refine lv_iconst (v := 1) hx hb dX9_layForgotten_47 (by decide) ?_
          exact j_40 _ _ _ _ ⟨1, rfl, (Nat.le_of_ble_eq_true rfl), hsp.symm, hP, hD, hS, lv_sub hl [1, 2, 3, 0] rfl⟩
        · have hcc_44 := c_44
          replace hsp := hsp.trans (if_pos c_44)
          refine lv_iconst (v := 0) hx hb dX9_layForgotten_43 (by decide) ?_
          refine lv_goto (tgt := 48) hx hb dX9_layForgotten_44 (by decide) ?_
          exact j_40 _ _ _ _ ⟨0, rfl, (Nat.le_of_ble_eq_true rfl), hsp.symm, hP, hD, hS, lv_sub hl [1, 2, 3, 0] rfl⟩
    have hsp := hJR_16
    refine lv_if_le (tgt := 23) hx hb dX9_layForgotten_8 (by decide) (fun c_45 => ?_) (fun c_45 => ?_)
    · have c_45 : g_6 ≤ 0 := (nI_leI (a := g_6) (b := 0) (Nat.lt_of_le_of_lt hg_6 (Nat.le_of_ble_eq_true rfl)) (Nat.le_of_ble_eq_true rfl)).mp c_45
      replace hsp := hsp.trans (if_pos c_45)
      refine lv_iconst (v := 0) hx hb dX9_layForgotten_23 (by decide) ?_
      exact j_15 _ _ _ _ ⟨0, rfl, (Nat.le_of_ble_eq_true rfl), hsp.symm, hP, hD, hS, lv_sub hl [0, 1, 2] rfl⟩
    · have c_45 : ¬ g_6 ≤ 0 := fun z => c_45 ((nI_leI (a := g_6) (b := 0) (Nat.lt_of_le_of_lt hg_6 (Nat.le_of_ble_eq_true rfl)) (Nat.le_of_ble_eq_true rfl)).mpr z)
      replace hsp := hsp.trans (if_neg c_45)
      refine lv_iload_n hx hb dX9_layForgotten_11 rfl (lv_at hl 2 rfl) ?_
      refine lv_aload_n hx hb dX9_layForgotten_12 rfl (lv_at hl 0 rfl) ?_
      refine va_calli (va_runV (As := []) (rest := [.int (nI g_6)]) ⟨hx, hb, hml, hown, hts⟩ (c_EM_clocks l dC dI _ ad ck x0 x16 x18 x19 x20 x21 x22 x23 x24 x25 x26 x27 x28 x29 x30 x33 x45 x46 x52 x53 x61 x62 x63 x65 x66 f1 f2 f3 q4 q5 q6 q7 f8 q9 q10 f11 m12_0 m12_1 m13_0 m13_1 m14_0 m14_1 m15_0 m15_1 f17 q31 f32 f34 f35 f36 f37 q38 f39 f40 f41 m42_0 m42_1 f43 f44 g_4 g_5 f49 f50 f51 q54 q55 q56 f57 q58 f59 f60 f64 hx16 hx18 hx19 hx21 hx22 hx26 hx28 hx29 hx30 hx33 hx46 hx52 hx53 hx61 hx62 hx63 hx65 hm12_0 hm12_1 hm13_0 hm13_1 hm14_0 hm14_1 hm15_0 hm15_1 hm42_0 hm42_1) (cwV 0 hts g_EM_layForgotten_EM_clocks rfl rfl rfl (by decide +kernel) ⟨Nat.le_of_ble_eq_true rfl, Nat.le_of_ble_eq_true rfl⟩) ⟨pu_bl, va_recv hK hP (ci := 9) (q0 := 0) rfl rfl, pu_in hP hK hD⟩ rfl rfl hl.1 rfl (lv_room (Nat.le_of_ble_eq_true rfl)) dX9_layForgotten_13 ⟨Nat.le_of_ble_eq_true rfl, Nat.le_of_ble_eq_true rfl⟩) hS (fun q _ h => pu_fr hS hA q h) (pu_fr hS hA) (fun r_46 u t H1 locs ht hvm hw hB hz1 hk1 hS => ?_)
      have hP := pu_keep hP hk1
      clear hk1 hz1 ht hvm
      generalize H1 = H at hP hS ⊢
      obtain ⟨u_47, hu_47, rfl, iu_47⟩ := hw
      replace hsp := hsp.trans (slet_eq iu_47)
      refine lv_icmp_gt (tgt := 23) hx hb dX9_layForgotten_16 (by decide) (fun c_48 => ?_) (fun c_48 => ?_)
      · have c_48 : u_47 < g_6 := (nI_ltI (a := u_47) (b := g_6) (Nat.lt_of_le_of_lt hu_47 (Nat.le_of_ble_eq_true rfl)) (Nat.lt_of_le_of_lt hg_6 (Nat.le_of_ble_eq_true rfl))).mp c_48
        replace hsp := hsp.trans (if_pos c_48)
        refine lv_iconst (v := 0) hx hb dX9_layForgotten_23 (by decide) ?_
        exact j_15 _ _ _ _ ⟨0, rfl, (Nat.le_of_ble_eq_true rfl), hsp.symm, hP, hD, hS, lv_sub hl [0, 1, 2] rfl⟩
      · have c_48 : ¬ u_47 < g_6 := fun z => c_48 ((nI_ltI (a := u_47) (b := g_6) (Nat.lt_of_le_of_lt hu_47 (Nat.le_of_ble_eq_true rfl)) (Nat.lt_of_le_of_lt hg_6 (Nat.le_of_ble_eq_true rfl))).mpr z)
        replace hsp := hsp.trans (if_neg c_48)
        refine lv_iconst (v := 1) hx hb dX9_layForgotten_19 (by decide) ?_
        refine lv_goto (tgt := 24) hx hb dX9_layForgotten_20 (by decide) ?_
        exact j_15 _ _ _ _ ⟨1, rfl, (Nat.le_of_ble_eq_true rfl), hsp.symm, hP, hD, hS, lv_sub hl [0, 1, 2] rfl⟩
theorem dX9_forgets_0 : decode cX9_forgets 0 = .ok (.iload_n 2, 1) := by decide +kernel
theorem dX9_forgets_1 : decode cX9_forgets 1 = .ok (.ifCond .ne 4, 3) := by decide +kernel
theorem dX9_forgets_4 : decode cX9_forgets 4 = .ok (.return_, 1) := by decide +kernel
theorem dX9_forgets_5 : decode cX9_forgets 5 = .ok (.iconst 0, 1) := by decide +kernel
theorem dX9_forgets_6 : decode cX9_forgets 6 = .ok (.istore_n 3, 1) := by decide +kernel
theorem dX9_forgets_7 : decode cX9_forgets 7 = .ok (.iload_n 3, 1) := by decide +kernel
theorem dX9_forgets_8 : decode cX9_forgets 8 = .ok (.aload_n 0, 1) := by decide +kernel
theorem dX9_forgets_9 : decode cX9_forgets 9 = .ok (.getfield 328, 3) := by decide +kernel
theorem dX9_forgets_12 : decode cX9_forgets 12 = .ok (.if_icmp .ge 108, 3) := by decide +kernel
theorem dX9_forgets_15 : decode cX9_forgets 15 = .ok (.iconst 0, 1) := by decide +kernel
theorem dX9_forgets_16 : decode cX9_forgets 16 = .ok (.istore 4, 2) := by decide +kernel
theorem dX9_forgets_18 : decode cX9_forgets 18 = .ok (.iload 4, 2) := by decide +kernel
theorem dX9_forgets_20 : decode cX9_forgets 20 = .ok (.aload_n 0, 1) := by decide +kernel
theorem dX9_forgets_21 : decode cX9_forgets 21 = .ok (.getfield 328, 3) := by decide +kernel
theorem dX9_forgets_24 : decode cX9_forgets 24 = .ok (.if_icmp .ge 90, 3) := by decide +kernel
theorem dX9_forgets_27 : decode cX9_forgets 27 = .ok (.aload_n 1, 1) := by decide +kernel
theorem dX9_forgets_28 : decode cX9_forgets 28 = .ok (.iconst 5, 1) := by decide +kernel
theorem dX9_forgets_29 : decode cX9_forgets 29 = .ok (.iload_n 3, 1) := by decide +kernel
theorem dX9_forgets_30 : decode cX9_forgets 30 = .ok (.imul, 1) := by decide +kernel
theorem dX9_forgets_31 : decode cX9_forgets 31 = .ok (.iload 4, 2) := by decide +kernel
theorem dX9_forgets_33 : decode cX9_forgets 33 = .ok (.iadd, 1) := by decide +kernel
theorem dX9_forgets_34 : decode cX9_forgets 34 = .ok (.iaload, 1) := by decide +kernel
theorem dX9_forgets_35 : decode cX9_forgets 35 = .ok (.istore 5, 2) := by decide +kernel
theorem dX9_forgets_37 : decode cX9_forgets 37 = .ok (.iload_n 3, 1) := by decide +kernel
theorem dX9_forgets_38 : decode cX9_forgets 38 = .ok (.iload 4, 2) := by decide +kernel
theorem dX9_forgets_40 : decode cX9_forgets 40 = .ok (.if_icmp .ne 6, 3) := by decide +kernel
theorem dX9_forgets_43 : decode cX9_forgets 43 = .ok (.goto 65, 3) := by decide +kernel
theorem dX9_forgets_46 : decode cX9_forgets 46 = .ok (.iload 5, 2) := by decide +kernel
theorem dX9_forgets_48 : decode cX9_forgets 48 = .ok (.iconst 2, 1) := by decide +kernel
theorem dX9_forgets_49 : decode cX9_forgets 49 = .ok (.aload_n 0, 1) := by decide +kernel
theorem dX9_forgets_50 : decode cX9_forgets 50 = .ok (.getfield 102, 3) := by decide +kernel
theorem dX9_forgets_53 : decode cX9_forgets 53 = .ok (.iload_n 3, 1) := by decide +kernel
theorem dX9_forgets_54 : decode cX9_forgets 54 = .ok (.iaload, 1) := by decide +kernel
theorem dX9_forgets_55 : decode cX9_forgets 55 = .ok (.imul, 1) := by decide +kernel
theorem dX9_forgets_56 : decode cX9_forgets 56 = .ok (.iconst 1, 1) := by decide +kernel
theorem dX9_forgets_57 : decode cX9_forgets 57 = .ok (.iadd, 1) := by decide +kernel
theorem dX9_forgets_58 : decode cX9_forgets 58 = .ok (.if_icmp .le 17, 3) := by decide +kernel
theorem dX9_forgets_61 : decode cX9_forgets 61 = .ok (.aload_n 1, 1) := by decide +kernel
theorem dX9_forgets_62 : decode cX9_forgets 62 = .ok (.iconst 5, 1) := by decide +kernel
theorem dX9_forgets_63 : decode cX9_forgets 63 = .ok (.iload_n 3, 1) := by decide +kernel
theorem dX9_forgets_64 : decode cX9_forgets 64 = .ok (.imul, 1) := by decide +kernel
theorem dX9_forgets_65 : decode cX9_forgets 65 = .ok (.iload 4, 2) := by decide +kernel
theorem dX9_forgets_67 : decode cX9_forgets 67 = .ok (.iadd, 1) := by decide +kernel
theorem dX9_forgets_68 : decode cX9_forgets 68 = .ok (.ldc_w 327, 3) := by decide +kernel
theorem dX9_forgets_71 : decode cX9_forgets 71 = .ok (.iastore, 1) := by decide +kernel
theorem dX9_forgets_72 : decode cX9_forgets 72 = .ok (.goto 36, 3) := by decide +kernel
theorem dX9_forgets_75 : decode cX9_forgets 75 = .ok (.iload 5, 2) := by decide +kernel
theorem dX9_forgets_77 : decode cX9_forgets 77 = .ok (.bipush (-2), 2) := by decide +kernel
theorem dX9_forgets_79 : decode cX9_forgets 79 = .ok (.aload_n 0, 1) := by decide +kernel
theorem dX9_forgets_80 : decode cX9_forgets 80 = .ok (.getfield 105, 3) := by decide +kernel
theorem dX9_forgets_83 : decode cX9_forgets 83 = .ok (.iload 4, 2) := by decide +kernel
theorem dX9_forgets_85 : decode cX9_forgets 85 = .ok (.iaload, 1) := by decide +kernel
theorem dX9_forgets_86 : decode cX9_forgets 86 = .ok (.imul, 1) := by decide +kernel
theorem dX9_forgets_87 : decode cX9_forgets 87 = .ok (.if_icmp .ge 21, 3) := by decide +kernel
theorem dX9_forgets_90 : decode cX9_forgets 90 = .ok (.aload_n 1, 1) := by decide +kernel
theorem dX9_forgets_91 : decode cX9_forgets 91 = .ok (.iconst 5, 1) := by decide +kernel
theorem dX9_forgets_92 : decode cX9_forgets 92 = .ok (.iload_n 3, 1) := by decide +kernel
theorem dX9_forgets_93 : decode cX9_forgets 93 = .ok (.imul, 1) := by decide +kernel
theorem dX9_forgets_94 : decode cX9_forgets 94 = .ok (.iload 4, 2) := by decide +kernel
theorem dX9_forgets_96 : decode cX9_forgets 96 = .ok (.iadd, 1) := by decide +kernel
theorem dX9_forgets_97 : decode cX9_forgets 97 = .ok (.bipush (-2), 2) := by decide +kernel
theorem dX9_forgets_99 : decode cX9_forgets 99 = .ok (.aload_n 0, 1) := by decide +kernel
theorem dX9_forgets_100 : decode cX9_forgets 100 = .ok (.getfield 105, 3) := by decide +kernel
theorem dX9_forgets_103 : decode cX9_forgets 103 = .ok (.iload 4, 2) := by decide +kernel
theorem dX9_forgets_105 : decode cX9_forgets 105 = .ok (.iaload, 1) := by decide +kernel
theorem dX9_forgets_106 : decode cX9_forgets 106 = .ok (.imul, 1) := by decide +kernel
theorem dX9_forgets_107 : decode cX9_forgets 107 = .ok (.iastore, 1) := by decide +kernel
theorem dX9_forgets_108 : decode cX9_forgets 108 = .ok (.iinc 4 1, 3) := by decide +kernel
theorem dX9_forgets_111 : decode cX9_forgets 111 = .ok (.goto (-93), 3) := by decide +kernel
theorem dX9_forgets_114 : decode cX9_forgets 114 = .ok (.iinc 3 1, 3) := by decide +kernel
theorem dX9_forgets_117 : decode cX9_forgets 117 = .ok (.goto (-110), 3) := by decide +kernel
theorem dX9_forgets_120 : decode cX9_forgets 120 = .ok (.aload_n 0, 1) := by decide +kernel
theorem dX9_forgets_121 : decode cX9_forgets 121 = .ok (.aload_n 1, 1) := by decide +kernel
theorem dX9_forgets_122 : decode cX9_forgets 122 = .ok (.invokevirtual 345, 3) := by decide +kernel
theorem dX9_forgets_125 : decode cX9_forgets 125 = .ok (.pop, 1) := by decide +kernel
theorem dX9_forgets_126 : decode cX9_forgets 126 = .ok (.return_, 1) := by decide +kernel
abbrev vs_EM_forgets : List Cond := .code yX9_forgets cX9_forgets 6 none :: VM
theorem g_EM_forgets_EM_closes_z : GoodIn vs_EM_forgets (wsV RX9 345 RX9 yX9_closes vs_EM_closes_z) := gm_V vm_208 vm_209 vm_210 vm_19 vm_211
noncomputable def sp_EM_forgets_L1 (x46 : Nat) (f47 : Nat → Int32) (f48 : Nat → Int32) (g_5 : Nat) : ((Nat → Int32) × Nat) → ((Nat → Int32) × Nat) ⊕ (((Nat → Int32) × Nat) ⊕ ((Nat → Int32))) := fun (g_18, g_19) => (if x46 ≤ g_19 then (Sum.inr (Sum.inl (g_18, (g_5 + 1)))) else (slet (g_18 ((5 * g_5) + g_19)) (fun y_29 => (slet (α := (Nat → Int32)) (if g_5 = g_19 then g_18 else (slet (f47 g_5) (fun y_35 => (slet ((2 : Int32) * y_35) (fun y_36 => (slet ((y_36 : Int32) + 1) (fun y_37 => (if (y_29 : Int32) ≤ y_37 then (slet (f48 g_19) (fun y_39 => (slet (((-2) : Int32) * y_39) (fun y_40 => (if (y_40 : Int32) ≤ y_29 then g_18 else (slet (f48 g_19) (fun y_44 => (slet (((-2) : Int32) * y_44) (fun y_45 => (slet (upd g_18 ((5 * g_5) + g_19) y_45) (fun f_46 => f_46))))))))))) else (slet (upd g_18 ((5 * g_5) + g_19) 1048576) (fun f_49 => f_49)))))))))) (fun g_30 => (Sum.inl (g_30, (g_19 + 1))))))))
noncomputable def sp_EM_forgets_L2 (x46 : Nat) (f47 : Nat → Int32) (f48 : Nat → Int32) : ((Nat → Int32) × Nat) → ((Nat → Int32) × Nat) ⊕ ((Nat → Int32)) := fun (g_4, g_5) => (if x46 ≤ g_5 then (Sum.inr (slet (sp_EM_closes_z x46 g_4) (fun (u_15, z35_14) => z35_14))) else (itrv (α := (Nat → Int32) × Nat) (β := (((Nat → Int32) × Nat) ⊕ ((Nat → Int32)))) (Sum.inr default) (sp_EM_forgets_L1 x46 f47 f48 g_5) (g_4, 0)))
noncomputable def sp_EM_forgets (x46 : Nat) (f35 : Nat → Int32) (f47 : Nat → Int32) (f48 : Nat → Int32) (p1 : Int32) : (Nat → Int32) := (if (p1 : Int32) = 0 then f35 else (itrv (α := (Nat → Int32) × Nat) (β := ((Nat → Int32))) default (sp_EM_forgets_L2 x46 f47 f48) (f35, 0)))
set_option maxHeartbeats 4000000 in
set_option maxRecDepth 100000 in
theorem c_EM_forgets (l : Launch) (dC : Nat → ClassId) (dI : Nat → Nat → Nat) (sz : Nat) (ad : Nat → Nat) (ck : Nat → ClassId) (x0 : Int32) (x16 : Nat) (x18 : Nat) (x19 : Nat) (x20 : Int32) (x21 : Nat) (x22 : Nat) (x23 : Int32) (x24 : Int32) (x25 : Int32) (x26 : Nat) (x27 : Int32) (x28 : Nat) (x29 : Nat) (x30 : Nat) (x33 : Nat) (x45 : Int32) (x46 : Nat) (x52 : Nat) (x53 : Nat) (x61 : Nat) (x62 : Nat) (x63 : Nat) (x65 : Nat) (x66 : Int32) (f1 : Nat → Int32) (f2 : Nat → Int32) (f3 : Nat → Int32) (q4 : Nat → Nat) (q5 : Nat → Nat) (q6 : Nat → Nat) (q7 : Nat → Nat) (f8 : Nat → Int32) (q9 : Nat → Nat) (q10 : Nat → Nat) (f11 : Nat → Int32) (m12_0 m12_1 : Nat) (m13_0 m13_1 : Nat) (m14_0 m14_1 : Nat) (m15_0 m15_1 : Nat) (f17 : Nat → Int32) (q31 : Nat → Nat) (f32 : Nat → Int32) (f34 : Nat → Int32) (f35 : Nat → Int32) (f36 : Nat → Int32) (f37 : Nat → Int32) (q38 : Nat → Nat) (f39 : Nat → Int32) (f40 : Nat → Int32) (f41 : Nat → Int32) (m42_0 m42_1 : Nat) (f43 : Nat → Int32) (f44 : Nat → Int32) (f47 : Nat → Int32) (f48 : Nat → Int32) (f49 : Nat → Int32) (f50 : Nat → Int32) (f51 : Nat → Int32) (q54 : Nat → Nat) (q55 : Nat → Nat) (q56 : Nat → Nat) (f57 : Nat → Int32) (q58 : Nat → Nat) (f59 : Nat → Int32) (f60 : Nat → Int32) (f64 : Nat → Int32) (p1 : Int32) (hx16 : x16 ≤ 1) (hx18 : x18 ≤ 900) (hx19 : x19 ≤ 900) (hx21 : x21 ≤ 900) (hx22 : x22 ≤ 4) (hx26 : x26 ≤ 6) (hx28 : x28 ≤ 1) (hx29 : x29 ≤ 1) (hx30 : x30 ≤ 1) (hx33 : x33 ≤ 20) (hx46 : x46 ≤ 5) (hx52 : x52 ≤ 2400) (hx53 : x53 ≤ 119) (hx61 : x61 ≤ 119) (hx62 : x62 ≤ 2000) (hx63 : x63 ≤ 1) (hx65 : x65 ≤ 7) (hm12_0 : m12_0 ≤ 3) (hm12_1 : m12_1 ≤ 3) (hm13_0 : m13_0 ≤ 8) (hm13_1 : m13_1 ≤ 8) (hm14_0 : m14_0 ≤ 14) (hm14_1 : m14_1 ≤ 14) (hm15_0 : m15_0 ≤ 8) (hm15_1 : m15_1 ≤ 8) (hm42_0 : m42_0 ≤ 120) (hm42_1 : m42_1 ≤ 400) : Met l yX9_forgets vs_EM_forgets ({ frames := 2, cells := 0, slots := 0, locals := 45 }) (va_Pc [.ref (ad 0), .ref (ad 35), .int p1] (pu_B (dC, dI) (mo_w ad ck x0 (nI x16) (nI x18) (nI x19) x20 (nI x21) (nI x22) x23 x24 x25 (nI x26) x27 (nI x28) (nI x29) (nI x30) (nI x33) x45 (nI x46) (nI x52) (nI x53) (nI x61) (nI x62) (nI x63) (nI x65) x66 f1 f2 f3 (bN 3 q4) (bN 7 q5) (bN 7 q6) (bN 4 q7) f8 (bN 2 q9) (bH q10) f11 (b2 m12_0 m12_1) (b2 m13_0 m13_1) (b2 m14_0 m14_1) (b2m m15_0 m15_1) f17 (bA 159 q31) f32 f34 f35 f36 f37 (bN 7 q38) f39 f40 f41 (b2 m42_0 m42_1) f43 f44 f47 f48 f49 f50 f51 (bN 13 q54) (bN 120 q55) (bN 120 q56) f57 (bN 120 q58) f59 f60 f64) (mo_t ck) sz)) (va_Qv (fun (_ : Unit) => True) (fun _ t => ∃ (z35 : Nat → Int32), pu_E (dC, dI) (mo_w ad ck x0 (nI x16) (nI x18) (nI x19) x20 (nI x21) (nI x22) x23 x24 x25 (nI x26) x27 (nI x28) (nI x29) (nI x30) (nI x33) x45 (nI x46) (nI x52) (nI x53) (nI x61) (nI x62) (nI x63) (nI x65) x66 f1 f2 f3 (bN 3 q4) (bN 7 q5) (bN 7 q6) (bN 4 q7) f8 (bN 2 q9) (bH q10) f11 (b2 m12_0 m12_1) (b2 m13_0 m13_1) (b2 m14_0 m14_1) (b2m m15_0 m15_1) f17 (bA 159 q31) f32 f34 z35 f36 f37 (bN 7 q38) f39 f40 f41 (b2 m42_0 m42_1) f43 f44 f47 f48 f49 f50 f51 (bN 13 q54) (bN 120 q55) (bN 120 q56) f57 (bN 120 q58) f59 f60 f64) (mo_t ck) (va_A ((mo_w ad ck x0 (nI x16) (nI x18) (nI x19) x20 (nI x21) (nI x22) x23 x24 x25 (nI x26) x27 (nI x28) (nI x29) (nI x30) (nI x33) x45 (nI x46) (nI x52) (nI x53) (nI x61) (nI x62) (nI x63) (nI x65) x66 f1 f2 f3 (bN 3 q4) (bN 7 q5) (bN 7 q6) (bN 4 q7) f8 (bN 2 q9) (bH q10) f11 (b2 m12_0 m12_1) (b2 m13_0 m13_1) (b2 m14_0 m14_1) (b2m m15_0 m15_1) f17 (bA 159 q31) f32 f34 f35 f36 f37 (bN 7 q38) f39 f40 f41 (b2 m42_0 m42_1) f43 f44 f47 f48 f49 f50 f51 (bN 13 q54) (bN 120 q55) (bN 120 q56) f57 (bN 120 q58) f59 f60 f64)) sz) t ∧ (z35 = (sp_EM_forgets x46 f35 f47 f48 p1))) (va_A ((mo_w ad ck x0 (nI x16) (nI x18) (nI x19) x20 (nI x21) (nI x22) x23 x24 x25 (nI x26) x27 (nI x28) (nI x29) (nI x30) (nI x33) x45 (nI x46) (nI x52) (nI x53) (nI x61) (nI x62) (nI x63) (nI x65) x66 f1 f2 f3 (bN 3 q4) (bN 7 q5) (bN 7 q6) (bN 4 q7) f8 (bN 2 q9) (bH q10) f11 (b2 m12_0 m12_1) (b2 m13_0 m13_1) (b2 m14_0 m14_1) (b2m m15_0 m15_1) f17 (bA 159 q31) f32 f34 f35 f36 f37 (bN 7 q38) f39 f40 f41 (b2 m42_0 m42_1) f43 f44 f47 f48 f49 f50 f51 (bN 13 q54) (bN 120 q55) (bN 120 q56) f57 (bN 120 q58) f59 f60 f64)) sz)) 0 0 (va_A ((mo_w ad ck x0 (nI x16) (nI x18) (nI x19) x20 (nI x21) (nI x22) x23 x24 x25 (nI x26) x27 (nI x28) (nI x29) (nI x30) (nI x33) x45 (nI x46) (nI x52) (nI x53) (nI x61) (nI x62) (nI x63) (nI x65) x66 f1 f2 f3 (bN 3 q4) (bN 7 q5) (bN 7 q6) (bN 4 q7) f8 (bN 2 q9) (bH q10) f11 (b2 m12_0 m12_1) (b2 m13_0 m13_1) (b2 m14_0 m14_1) (b2m m15_0 m15_1) f17 (bA 159 q31) f32 f34 f35 f36 f37 (bN 7 q38) f39 f40 f41 (b2 m42_0 m42_1) f43 f44 f47 f48 f49 f50 f51 (bN 13 q54) (bN 120 q55) (bN 120 q56) f57 (bN 120 q58) f59 f60 f64)) sz) := by
  refine Met.ofW (cc := cX9_forgets) (maxL := 6) (ret := none) (by decide) rfl ?_
  intro p e s m args below meth c s₁ B hml hv
  obtain ⟨rfl, rfl, hP, hK, hD0⟩ := hv
  have hx := B.exec
  have hb := B.bytes
  have hr := B.returns
  have hts := atoms_spec (ws := vs_EM_forgets) B.pre
  have v_1 := hts (.fieldLink RX9 328 "ClockReachModel" "side" "I") (List.mem_cons_of_mem _ vm_196)
  have v_2 := hts (.fieldLink RX9 102 "ClockReachModel" "high" "[I") (List.mem_cons_of_mem _ vm_212)
  have v_3 := hts (.fieldLink RX9 105 "ClockReachModel" "low" "[I") (List.mem_cons_of_mem _ vm_213)
  have v_4 := hts (.constant RX9 327 (1048576)) (List.mem_cons_of_mem _ vm_46)
  have hown : s.vm.findClass RX9 = some m.cls := findClass_of_methodNamed B.named
  have hlocks := B.notSynchronized
  have hiX9 : ∀ w ∈ wsX90, w ∈ vs_EM_forgets := fun _ h => List.mem_cons_of_mem _ (vmi_L h)
  have hD := hD0.self (sz := s.heap.size)
  generalize hAe : va_A ((mo_w ad ck x0 (nI x16) (nI x18) (nI x19) x20 (nI x21) (nI x22) x23 x24 x25 (nI x26) x27 (nI x28) (nI x29) (nI x30) (nI x33) x45 (nI x46) (nI x52) (nI x53) (nI x61) (nI x62) (nI x63) (nI x65) x66 f1 f2 f3 (bN 3 q4) (bN 7 q5) (bN 7 q6) (bN 4 q7) f8 (bN 2 q9) (bH q10) f11 (b2 m12_0 m12_1) (b2 m13_0 m13_1) (b2 m14_0 m14_1) (b2m m15_0 m15_1) f17 (bA 159 q31) f32 f34 f35 f36 f37 (bN 7 q38) f39 f40 f41 (b2 m42_0 m42_1) f43 f44 f47 f48 f49 f50 f51 (bN 13 q54) (bN 120 q55) (bN 120 q56) f57 (bN 120 q58) f59 f60 f64)) s.heap.size = A at hD ⊢
  have hA : ∀ q : Nat, s.heap.size ≤ q → A q := fun q h => by rw [← hAe]; exact Or.inr h
  have hS : va_S A s.heap s.heap [] := va_S.rf
  have hl := lv_entry ([.ref (ad 0), .ref (ad 35), .int p1]) (n := 6) (Nat.le_of_ble_eq_true rfl)
  rw [lg_entry_eq]
  generalize (lg_sl ([.ref (ad 0), .ref (ad 35), .int p1]) ++ List.replicate (6 - (lg_sl ([.ref (ad 0), .ref (ad 35), .int p1])).length) Slot.unset).toArray = ls at hl ⊢
  have hl : lv_has ls 6 [(0, .ref (ad 0)), (1, .ref (ad 35)), (2, .int p1)] := hl
  obtain ⟨RR, hRR⟩ : ∃ x, x = (sp_EM_forgets x46 f35 f47 f48 p1) := ⟨_, rfl⟩
  have hsp := hRR
  refine lv_iload_n hx hb dX9_forgets_0 rfl (lv_at hl 2 rfl) ?_
  refine lv_if_ne (tgt := 5) hx hb dX9_forgets_1 (by decide) (fun c_1 => ?_) (fun c_1 => ?_)
  · have hcc_1 := c_1
    replace hsp := hsp.trans (if_neg c_1)
    refine lv_iconst (v := 0) hx hb dX9_forgets_5 (by decide) ?_
    refine lv_istore_n (lv' := [(3, .int 0), (0, .ref (ad 0)), (1, .ref (ad 35)), (2, .int p1)]) hx hb dX9_forgets_6 rfl hl (by decide) rfl (fun ls hl => ?_)
    obtain ⟨lf_7, dlf_7, hlf_7, hsp⟩ := itr_ex hsp
    delta sp_EM_forgets_L2 at hlf_7
    refine pu_while (fun nn H locs ls => ∃ (g_4 : Nat → Int32) (g_5 : Nat), nn = 5 - g_5 ∧ g_5 ≤ 5 ∧ RR = itrv dlf_7 lf_7 (g_4, g_5) ∧ va_P (dC, dI) vwCl (mo_w ad ck x0 (nI x16) (nI x18) (nI x19) x20 (nI x21) (nI x22) x23 x24 x25 (nI x26) x27 (nI x28) (nI x29) (nI x30) (nI x33) x45 (nI x46) (nI x52) (nI x53) (nI x61) (nI x62) (nI x63) (nI x65) x66 f1 f2 f3 (bN 3 q4) (bN 7 q5) (bN 7 q6) (bN 4 q7) f8 (bN 2 q9) (bH q10) f11 (b2 m12_0 m12_1) (b2 m13_0 m13_1) (b2 m14_0 m14_1) (b2m m15_0 m15_1) f17 (bA 159 q31) f32 f34 g_4 f36 f37 (bN 7 q38) f39 f40 f41 (b2 m42_0 m42_1) f43 f44 f47 f48 f49 f50 f51 (bN 13 q54) (bN 120 q55) (bN 120 q56) f57 (bN 120 q58) f59 f60 f64) H ∧ va_D A (mo_w ad ck x0 (nI x16) (nI x18) (nI x19) x20 (nI x21) (nI x22) x23 x24 x25 (nI x26) x27 (nI x28) (nI x29) (nI x30) (nI x33) x45 (nI x46) (nI x52) (nI x53) (nI x61) (nI x62) (nI x63) (nI x65) x66 f1 f2 f3 (bN 3 q4) (bN 7 q5) (bN 7 q6) (bN 4 q7) f8 (bN 2 q9) (bH q10) f11 (b2 m12_0 m12_1) (b2 m13_0 m13_1) (b2 m14_0 m14_1) (b2m m15_0 m15_1) f17 (bA 159 q31) f32 f34 g_4 f36 f37 (bN 7 q38) f39 f40 f41 (b2 m42_0 m42_1) f43 f44 f47 f48 f49 f50 f51 (bN 13 q54) (bN 120 q55) (bN 120 q56) f57 (bN 120 q58) f59 f60 f64) ∧ va_S A s.heap H locs ∧ lv_has ls 6 [(0, .ref (ad 0)), (1, .ref (ad 35)), (2, .int p1), (3, .int (nI g_5))]) 7 ?_ _ _ _ _ ⟨f35, 0, rfl, (Nat.le_of_ble_eq_true rfl), hsp, hP, hD, hS, lv_sub hl [1, 2, 3, 0] rfl⟩
    rintro nn ih_6 H locs ls ⟨g_4, g_5, rfl, hg_5, he_9, hP, hD, hS, hl⟩
    obtain ⟨S_8, hsp, hin_10, hout_11⟩ := itr_step hlf_7 he_9
    refine lv_iload_n hx hb dX9_forgets_7 rfl (lv_at hl 3 rfl) ?_
    refine lv_aload_n hx hb dX9_forgets_8 rfl (lv_at hl 0 rfl) ?_
    refine va_get (D := (dC, dI)) (ci := 9) (v := .int (nI x46)) (C := RX9) (T := TX9) (N := 67) hx hb hts hiX9 hown hK hP 0 rfl rfl 46 (by decide) v_1 (fun _ h9 => h9) rfl dX9_forgets_9 ?_
    refine lv_icmp_ge (tgt := 120) hx hb dX9_forgets_12 (by decide) (fun c_12 => ?_) (fun c_12 => ?_)
    · have c_12 : x46 ≤ g_5 := (nI_leI (a := x46) (b := g_5) (Nat.lt_of_le_of_lt hx46 (Nat.le_of_ble_eq_true rfl)) (Nat.lt_of_le_of_lt hg_5 (Nat.le_of_ble_eq_true rfl))).mp c_12
      replace hsp := hsp.trans (if_pos c_12)
      have hsp := hout_11 _ hsp
      refine lv_aload_n hx hb dX9_forgets_120 rfl (lv_at hl 0 rfl) ?_
      refine lv_aload_n hx hb dX9_forgets_121 rfl (lv_at hl 1 rfl) ?_
      have hFc := pu_free hD hS hA
      refine va_calli (va_runV (As := [.ref (ad 35)]) (rest := []) ⟨hx, hb, hml, hown, hts⟩ (c_EM_closes_z l dC dI _ ad ck x0 x16 x18 x19 x20 x21 x22 x23 x24 x25 x26 x27 x28 x29 x30 x33 x45 x46 x52 x53 x61 x62 x63 x65 x66 f1 f2 f3 q4 q5 q6 q7 f8 q9 q10 f11 m12_0 m12_1 m13_0 m13_1 m14_0 m14_1 m15_0 m15_1 f17 q31 f32 f34 g_4 f36 f37 q38 f39 f40 f41 m42_0 m42_1 f43 f44 f47 f48 f49 f50 f51 q54 q55 q56 f57 q58 f59 f60 f64 hx16 hx18 hx19 hx21 hx22 hx26 hx28 hx29 hx30 hx33 hx46 hx52 hx53 hx61 hx62 hx63 hx65 hm12_0 hm12_1 hm13_0 hm13_1 hm14_0 hm14_1 hm15_0 hm15_1 hm42_0 hm42_1) (cwV 1 hts g_EM_forgets_EM_closes_z rfl rfl rfl (by decide +kernel) ⟨Nat.le_of_ble_eq_true rfl, Nat.le_of_ble_eq_true rfl⟩) ⟨pu_bl, va_recv hK hP (ci := 9) (q0 := 0) rfl rfl, pu_in hP hK hD⟩ rfl rfl hl.1 rfl (lv_room (Nat.le_of_ble_eq_true rfl)) dX9_forgets_122 ⟨Nat.le_of_ble_eq_true rfl, Nat.le_of_ble_eq_true rfl⟩) hS (fun q _ h => hFc q h) hFc (fun r_13 u t H1 locs ht hvm hw hB hz1 hk1 hS => ?_)
      obtain ⟨z35_14, ⟨hP1, -, hD1⟩, xr_13_0⟩ := hB
      rw [ht] at hP1
      have hP := hP1
      have hD := pu_all hFc hD1
      clear hP1 hD1 hFc
      clear hk1 hz1 ht hvm
      generalize H1 = H at hP hS ⊢
      obtain ⟨u_15, hu_15, rfl, iu_15⟩ := hw
      have iu_15 : (u_15, z35_14) = (sp_EM_closes_z x46 g_4) := Prod.ext iu_15 xr_13_0
      replace hsp := hsp.trans (slet_eq iu_15)
      refine lv_pop hx hb dX9_forgets_125 rfl ?_
      exact W.vret hx hb hr (fun t ht hW => ⟨⟨(), rfl, trivial, ⟨z35_14, ⟨by rw [ht]; exact hP, va_K.moved hW.alike hK, hD⟩, (hsp.symm.trans hRR)⟩⟩, hS.F ht⟩) hS.2.2 dX9_forgets_126
    · have c_12 : ¬ x46 ≤ g_5 := fun z => c_12 ((nI_leI (a := x46) (b := g_5) (Nat.lt_of_le_of_lt hx46 (Nat.le_of_ble_eq_true rfl)) (Nat.lt_of_le_of_lt hg_5 (Nat.le_of_ble_eq_true rfl))).mpr z)
      replace hsp := hsp.trans (if_neg c_12)
      refine lv_iconst (v := 0) hx hb dX9_forgets_15 (by decide) ?_
      refine lv_istore (lv' := [(4, .int 0), (0, .ref (ad 0)), (1, .ref (ad 35)), (2, .int p1), (3, .int (nI g_5))]) hx hb dX9_forgets_16 hl (by decide) rfl (fun ls hl => ?_)
      obtain ⟨lf_21, dlf_21, hlf_21, hsp⟩ := itr_ex hsp
      delta sp_EM_forgets_L1 at hlf_21
      refine pu_while (fun nn H locs ls => ∃ (g_18 : Nat → Int32) (g_19 : Nat), nn = 5 - g_19 ∧ g_19 ≤ 5 ∧ S_8 = itrv dlf_21 lf_21 (g_18, g_19) ∧ va_P (dC, dI) vwCl (mo_w ad ck x0 (nI x16) (nI x18) (nI x19) x20 (nI x21) (nI x22) x23 x24 x25 (nI x26) x27 (nI x28) (nI x29) (nI x30) (nI x33) x45 (nI x46) (nI x52) (nI x53) (nI x61) (nI x62) (nI x63) (nI x65) x66 f1 f2 f3 (bN 3 q4) (bN 7 q5) (bN 7 q6) (bN 4 q7) f8 (bN 2 q9) (bH q10) f11 (b2 m12_0 m12_1) (b2 m13_0 m13_1) (b2 m14_0 m14_1) (b2m m15_0 m15_1) f17 (bA 159 q31) f32 f34 g_18 f36 f37 (bN 7 q38) f39 f40 f41 (b2 m42_0 m42_1) f43 f44 f47 f48 f49 f50 f51 (bN 13 q54) (bN 120 q55) (bN 120 q56) f57 (bN 120 q58) f59 f60 f64) H ∧ va_D A (mo_w ad ck x0 (nI x16) (nI x18) (nI x19) x20 (nI x21) (nI x22) x23 x24 x25 (nI x26) x27 (nI x28) (nI x29) (nI x30) (nI x33) x45 (nI x46) (nI x52) (nI x53) (nI x61) (nI x62) (nI x63) (nI x65) x66 f1 f2 f3 (bN 3 q4) (bN 7 q5) (bN 7 q6) (bN 4 q7) f8 (bN 2 q9) (bH q10) f11 (b2 m12_0 m12_1) (b2 m13_0 m13_1) (b2 m14_0 m14_1) (b2m m15_0 m15_1) f17 (bA 159 q31) f32 f34 g_18 f36 f37 (bN 7 q38) f39 f40 f41 (b2 m42_0 m42_1) f43 f44 f47 f48 f49 f50 f51 (bN 13 q54) (bN 120 q55) (bN 120 q56) f57 (bN 120 q58) f59 f60 f64) ∧ va_S A s.heap H locs ∧ lv_has ls 6 [(0, .ref (ad 0)), (1, .ref (ad 35)), (2, .int p1), (3, .int (nI g_5)), (4, .int (nI g_19))]) 18 ?_ _ _ _ _ ⟨g_4, 0, rfl, (Nat.le_of_ble_eq_true rfl), hsp, hP, hD, hS, lv_sub hl [1, 2, 3, 4, 0] rfl⟩
      rintro nn ih_20 H locs ls ⟨g_18, g_19, rfl, hg_19, he_23, hP, hD, hS, hl⟩
      obtain ⟨S_22, hsp, hin_24, hout_25⟩ := itr_step hlf_21 he_23
      refine lv_iload hx hb dX9_forgets_18 (lv_at hl 4 rfl) ?_
      refine lv_aload_n hx hb dX9_forgets_20 rfl (lv_at hl 0 rfl) ?_
      refine va_get (D := (dC, dI)) (ci := 9) (v := .int (nI x46)) (C := RX9) (T := TX9) (N := 67) hx hb hts hiX9 hown hK hP 0 rfl rfl 46 (by decide) v_1 (fun _ h9 => h9) rfl dX9_forgets_21 ?_
      refine lv_icmp_ge (tgt := 114) hx hb dX9_forgets_24 (by decide) (fun c_26 => ?_) (fun c_26 => ?_)
      · have c_26 : x46 ≤ g_19 := (nI_leI (a := x46) (b := g_19) (Nat.lt_of_le_of_lt hx46 (Nat.le_of_ble_eq_true rfl)) (Nat.lt_of_le_of_lt hg_19 (Nat.le_of_ble_eq_true rfl))).mp c_26
        replace hsp := hsp.trans (if_pos c_26)
        have hsp := hout_25 _ hsp
        refine lv_iinc (v := (nI (g_5 + 1))) (lv' := [(3, .int (nI (g_5 + 1))), (0, .ref (ad 0)), (1, .ref (ad 35)), (2, .int p1), (4, .int (nI g_19))]) hx hb dX9_forgets_114 hl (k := 3) rfl (nI_1 _) (by decide) rfl (fun ls hl => ?_)
        refine lv_goto (tgt := 7) hx hb dX9_forgets_117 (by decide) ?_
        exact ih_6 (5 - (g_5 + 1)) (by omega) _ _ _ ⟨g_18, (g_5 + 1), rfl, (by omega), hin_10 _ hsp, hP, hD, hS, lv_sub hl [1, 2, 3, 0] rfl⟩
      · have c_26 : ¬ x46 ≤ g_19 := fun z => c_26 ((nI_leI (a := x46) (b := g_19) (Nat.lt_of_le_of_lt hx46 (Nat.le_of_ble_eq_true rfl)) (Nat.lt_of_le_of_lt hg_19 (Nat.le_of_ble_eq_true rfl))).mpr z)
        replace hsp := hsp.trans (if_neg c_26)
        refine lv_aload_n hx hb dX9_forgets_27 rfl (lv_at hl 1 rfl) ?_
        refine lv_iconst (v := 5) hx hb dX9_forgets_28 (by decide) ?_
        refine lv_iload_n hx hb dX9_forgets_29 rfl (lv_at hl 3 rfl) ?_
        refine lv_imul hx hb dX9_forgets_30 ?_
        refine lv_topi (fun y_27 ey_27 => ?_)
        obtain rfl : y_27 = (nI (5 * g_5)) := ey_27.trans (pk_mul 5 g_5)
        refine lv_iload hx hb dX9_forgets_31 (lv_at hl 4 rfl) ?_
        refine lv_iadd hx hb dX9_forgets_33 ?_
        refine lv_topi (fun y_28 ey_28 => ?_)
        obtain rfl : y_28 = (nI ((5 * g_5) + g_19)) := ey_28.trans (nI_add (5 * g_5) g_19)
        refine va_iald hx hb hK hP 20 19 rfl rfl (vp_in_nI (n := ((5 * g_5) + g_19)) (by omega) (Nat.le_of_ble_eq_true rfl)) dX9_forgets_34 ?_
        refine lv_topi (fun y_29 ey_29 => ?_)
        have ey_29 : y_29 = g_18 ((5 * g_5) + g_19) := ey_29.trans (congrArg g_18 (nI_clamp (n := ((5 * g_5) + g_19)) (by first | omega | exact Nat.lt_trans (zx16 (by omega) (by omega) (by omega)) (Nat.le_of_ble_eq_true rfl) | exact Nat.lt_trans (zy16 (by omega) (by omega)) (Nat.le_of_ble_eq_true rfl) | exact Nat.lt_trans (zx25 (by omega) (by omega) (by omega)) (Nat.le_of_ble_eq_true rfl) | exact Nat.lt_trans (zy25 (by omega) (by omega)) (Nat.le_of_ble_eq_true rfl))))
        replace hsp := hsp.trans (slet_eq ey_29)
        refine lv_istore (lv' := [(5, .int y_29), (0, .ref (ad 0)), (1, .ref (ad 35)), (2, .int p1), (3, .int (nI g_5)), (4, .int (nI g_19))]) hx hb dX9_forgets_35 hl (by decide) rfl (fun ls hl => ?_)
        refine lv_iload_n hx hb dX9_forgets_37 rfl (lv_at hl 4 rfl) ?_
        refine lv_iload hx hb dX9_forgets_38 (lv_at hl 5 rfl) ?_
        obtain ⟨JR_32, hJR_32, hsp⟩ := slet_ex hsp
        refine pu_join (fun H locs ls st => ∃ (g_30 : Nat → Int32), st = [] ∧ g_30 = JR_32 ∧ va_P (dC, dI) vwCl (mo_w ad ck x0 (nI x16) (nI x18) (nI x19) x20 (nI x21) (nI x22) x23 x24 x25 (nI x26) x27 (nI x28) (nI x29) (nI x30) (nI x33) x45 (nI x46) (nI x52) (nI x53) (nI x61) (nI x62) (nI x63) (nI x65) x66 f1 f2 f3 (bN 3 q4) (bN 7 q5) (bN 7 q6) (bN 4 q7) f8 (bN 2 q9) (bH q10) f11 (b2 m12_0 m12_1) (b2 m13_0 m13_1) (b2 m14_0 m14_1) (b2m m15_0 m15_1) f17 (bA 159 q31) f32 f34 g_30 f36 f37 (bN 7 q38) f39 f40 f41 (b2 m42_0 m42_1) f43 f44 f47 f48 f49 f50 f51 (bN 13 q54) (bN 120 q55) (bN 120 q56) f57 (bN 120 q58) f59 f60 f64) H ∧ va_D A (mo_w ad ck x0 (nI x16) (nI x18) (nI x19) x20 (nI x21) (nI x22) x23 x24 x25 (nI x26) x27 (nI x28) (nI x29) (nI x30) (nI x33) x45 (nI x46) (nI x52) (nI x53) (nI x61) (nI x62) (nI x63) (nI x65) x66 f1 f2 f3 (bN 3 q4) (bN 7 q5) (bN 7 q6) (bN 4 q7) f8 (bN 2 q9) (bH q10) f11 (b2 m12_0 m12_1) (b2 m13_0 m13_1) (b2 m14_0 m14_1) (b2m m15_0 m15_1) f17 (bA 159 q31) f32 f34 g_30 f36 f37 (bN 7 q38) f39 f40 f41 (b2 m42_0 m42_1) f43 f44 f47 f48 f49 f50 f51 (bN 13 q54) (bN 120 q55) (bN 120 q56) f57 (bN 120 q58) f59 f60 f64) ∧ va_S A s.heap H locs ∧ lv_has ls 6 [(0, .ref (ad 0)), (1, .ref (ad 35)), (2, .int p1), (3, .int (nI g_5)), (4, .int (nI g_19)), (5, .int y_29)]) 108 ?_ (fun j_31 => ?_)
        · rintro H locs ls st ⟨g_30, rfl, he_33, hP, hD, hS, hl⟩
          rw [← he_33] at hsp
          refine lv_iinc (v := (nI (g_19 + 1))) (lv' := [(4, .int (nI (g_19 + 1))), (0, .ref (ad 0)), (1, .ref (ad 35)), (2, .int p1), (3, .int (nI g_5)), (5, .int y_29)]) hx hb dX9_forgets_108 hl (k := 4) rfl (nI_1 _) (by decide) rfl (fun ls hl => ?_)
          refine lv_goto (tgt := 18) hx hb dX9_forgets_111 (by decide) ?_
          exact ih_20 (5 - (g_19 + 1)) (by omega) _ _ _ ⟨g_30, (g_19 + 1), rfl, (by omega), hin_24 _ hsp, hP, hD, hS, lv_sub hl [1, 2, 3, 4, 0] rfl⟩
        have hsp := hJR_32
        refine lv_icmp_ne (tgt := 46) hx hb dX9_forgets_40 (by decide) (fun c_34 => ?_) (fun c_34 => ?_)
        · have c_34 : ¬ g_5 = g_19 := fun z => c_34 ((nI_eq (a := g_5) (b := g_19) (Nat.lt_of_le_of_lt hg_5 (Nat.le_of_ble_eq_true rfl)) (Nat.lt_of_le_of_lt hg_19 (Nat.le_of_ble_eq_true rfl))).mpr z)
          replace hsp := hsp.trans (if_neg c_34)
          refine lv_iload hx hb dX9_forgets_46 (lv_at hl 0 rfl) ?_
          refine lv_iconst (v := 2) hx hb dX9_forgets_48 (by decide) ?_
          refine lv_aload_n hx hb dX9_forgets_49 rfl (lv_at hl 1 rfl) ?_
          refine va_get (D := (dC, dI)) (ci := 9) (v := .ref (ad 47)) (C := RX9) (T := TX9) (N := 67) hx hb hts hiX9 hown hK hP 0 rfl rfl 47 (by decide) v_2 (fun _ h9 => h9) rfl dX9_forgets_50 ?_
          refine lv_iload_n hx hb dX9_forgets_53 rfl (lv_at hl 4 rfl) ?_
          refine va_iald hx hb hK hP 30 29 rfl rfl (vp_in_nI (n := g_5) (by omega) (Nat.le_of_ble_eq_true rfl)) dX9_forgets_54 ?_
          refine lv_topi (fun y_35 ey_35 => ?_)
          have ey_35 : y_35 = f47 g_5 := ey_35.trans (congrArg f47 (nI_clamp (n := g_5) (Nat.lt_of_le_of_lt hg_5 (Nat.le_of_ble_eq_true rfl))))
          replace hsp := hsp.trans (slet_eq ey_35)
          refine lv_imul hx hb dX9_forgets_55 ?_
          refine lv_topi (fun y_36 ey_36 => ?_)
          replace hsp := hsp.trans (slet_eq ey_36)
          refine lv_iconst (v := 1) hx hb dX9_forgets_56 (by decide) ?_
          refine lv_iadd hx hb dX9_forgets_57 ?_
          refine lv_topi (fun y_37 ey_37 => ?_)
          replace hsp := hsp.trans (slet_eq ey_37)
          refine lv_icmp_le (tgt := 75) hx hb dX9_forgets_58 (by decide) (fun c_38 => ?_) (fun c_38 => ?_)
          · have hcc_38 := c_38
            replace hsp := hsp.trans (if_pos c_38)
            refine lv_iload hx hb dX9_forgets_75 (lv_at hl 0 rfl) ?_
            refine lv_bipush (v := (-2)) hx hb dX9_forgets_77 (by decide) ?_
            refine lv_aload_n hx hb dX9_forgets_79 rfl (lv_at hl 1 rfl) ?_
            refine va_get (D := (dC, dI)) (ci := 9) (v := .ref (ad 48)) (C := RX9) (T := TX9) (N := 67) hx hb hts hiX9 hown hK hP 0 rfl rfl 48 (by decide) v_3 (fun _ h9 => h9) rfl dX9_forgets_80 ?_
            refine lv_iload hx hb dX9_forgets_83 (lv_at hl 5 rfl) ?_
            refine va_iald hx hb hK hP 31 30 rfl rfl (vp_in_nI (n := g_19) (by omega) (Nat.le_of_ble_eq_true rfl)) dX9_forgets_85 ?_
            refine lv_topi (fun y_39 ey_39 => ?_)
            have ey_39 : y_39 = f48 g_19 := ey_39.trans (congrArg f48 (nI_clamp (n := g_19) (Nat.lt_of_le_of_lt hg_19 (Nat.le_of_ble_eq_true rfl))))
            replace hsp := hsp.trans (slet_eq ey_39)
            refine lv_imul hx hb dX9_forgets_86 ?_
            refine lv_topi (fun y_40 ey_40 => ?_)
            replace hsp := hsp.trans (slet_eq ey_40)
            refine lv_icmp_ge (tgt := 108) hx hb dX9_forgets_87 (by decide) (fun c_41 => ?_) (fun c_41 => ?_)
            · have hcc_41 := c_41
              replace hsp := hsp.trans (if_pos c_41)
              exact j_31 _ _ _ _ ⟨g_18, rfl, hsp.symm, hP, hD, hS, lv_sub hl [1, 2, 3, 4, 5, 0] rfl⟩
            · have hcc_41 := c_41
              replace hsp := hsp.trans (if_neg c_41)
              refine lv_aload_n hx hb dX9_forgets_90 rfl (lv_at hl 2 rfl) ?_
              refine lv_iconst (v := 5) hx hb dX9_forgets_91 (by decide) ?_
              refine lv_iload_n hx hb dX9_forgets_92 rfl (lv_at hl 4 rfl) ?_
              refine lv_imul hx hb dX9_forgets_93 ?_
              refine lv_topi (fun y_42 ey_42 => ?_)
              obtain rfl : y_42 = (nI (5 * g_5)) := ey_42.trans (pk_mul 5 g_5)
              refine lv_iload hx hb dX9_forgets_94 (lv_at hl 5 rfl) ?_
              refine lv_iadd hx hb dX9_forgets_96 ?_
              refine lv_topi (fun y_43 ey_43 => ?_)
              obtain rfl : y_43 = (nI ((5 * g_5) + g_19)) := ey_43.trans (nI_add (5 * g_5) g_19)
              refine lv_bipush (v := (-2)) hx hb dX9_forgets_97 (by decide) ?_
              refine lv_aload_n hx hb dX9_forgets_99 rfl (lv_at hl 1 rfl) ?_
              refine va_get (D := (dC, dI)) (ci := 9) (v := .ref (ad 48)) (C := RX9) (T := TX9) (N := 67) hx hb hts hiX9 hown hK hP 0 rfl rfl 48 (by decide) v_3 (fun _ h9 => h9) rfl dX9_forgets_100 ?_
              refine lv_iload hx hb dX9_forgets_103 (lv_at hl 5 rfl) ?_
              refine va_iald hx hb hK hP 31 30 rfl rfl (vp_in_nI (n := g_19) (by omega) (Nat.le_of_ble_eq_true rfl)) dX9_forgets_105 ?_
              refine lv_topi (fun y_44 ey_44 => ?_)
              have ey_44 : y_44 = f48 g_19 := ey_44.trans (congrArg f48 (nI_clamp (n := g_19) (Nat.lt_of_le_of_lt hg_19 (Nat.le_of_ble_eq_true rfl))))
              replace hsp := hsp.trans (slet_eq ey_44)
              refine lv_imul hx hb dX9_forgets_106 ?_
              refine lv_topi (fun y_45 ey_45 => ?_)
              replace hsp := hsp.trans (slet_eq ey_45)
              refine va_iast hx hb hK hP hD hS 20 19 rfl rfl (vp_in_nI (n := ((5 * g_5) + g_19)) (by omega) (Nat.le_of_ble_eq_true rfl)) dX9_forgets_107 (fun H locs hP hD hS => ?_)
              obtain ⟨f_46, ef_46, xf_46⟩ := up_x g_18 (n := ((5 * g_5) + g_19)) y_45 (by first | omega | exact Nat.lt_trans (zx16 (by omega) (by omega) (by omega)) (Nat.le_of_ble_eq_true rfl) | exact Nat.lt_trans (zy16 (by omega) (by omega)) (Nat.le_of_ble_eq_true rfl) | exact Nat.lt_trans (zx25 (by omega) (by omega) (by omega)) (Nat.le_of_ble_eq_true rfl) | exact Nat.lt_trans (zy25 (by omega) (by omega)) (Nat.le_of_ble_eq_true rfl))
              have hP : va_P (dC, dI) vwCl (mo_w ad ck x0 (nI x16) (nI x18) (nI x19) x20 (nI x21) (nI x22) x23 x24 x25 (nI x26) x27 (nI x28) (nI x29) (nI x30) (nI x33) x45 (nI x46) (nI x52) (nI x53) (nI x61) (nI x62) (nI x63) (nI x65) x66 f1 f2 f3 (bN 3 q4) (bN 7 q5) (bN 7 q6) (bN 4 q7) f8 (bN 2 q9) (bH q10) f11 (b2 m12_0 m12_1) (b2 m13_0 m13_1) (b2 m14_0 m14_1) (b2m m15_0 m15_1) f17 (bA 159 q31) f32 f34 f_46 f36 f37 (bN 7 q38) f39 f40 f41 (b2 m42_0 m42_1) f43 f44 f47 f48 f49 f50 f51 (bN 13 q54) (bN 120 q55) (bN 120 q56) f57 (bN 120 q58) f59 f60 f64) H := by rw [← ef_46]; exact hP
              have hD : va_D A (mo_w ad ck x0 (nI x16) (nI x18) (nI x19) x20 (nI x21) (nI x22) x23 x24 x25 (nI x26) x27 (nI x28) (nI x29) (nI x30) (nI x33) x45 (nI x46) (nI x52) (nI x53) (nI x61) (nI x62) (nI x63) (nI x65) x66 f1 f2 f3 (bN 3 q4) (bN 7 q5) (bN 7 q6) (bN 4 q7) f8 (bN 2 q9) (bH q10) f11 (b2 m12_0 m12_1) (b2 m13_0 m13_1) (b2 m14_0 m14_1) (b2m m15_0 m15_1) f17 (bA 159 q31) f32 f34 f_46 f36 f37 (bN 7 q38) f39 f40 f41 (b2 m42_0 m42_1) f43 f44 f47 f48 f49 f50 f51 (bN 13 q54) (bN 120 q55) (bN 120 q56) f57 (bN 120 q58) f59 f60 f64) := by rw [← ef_46]; exact hD
              replace hsp := hsp.trans (slet_eq xf_46)
              exact j_31 _ _ _ _ ⟨f_46, rfl, hsp.symm, hP, hD, hS, lv_sub hl [1, 2, 3, 4, 5, 0] rfl⟩
          · have hcc_38 := c_38
            replace hsp := hsp.trans (if_neg c_38)
            refine lv_aload_n hx hb dX9_forgets_61 rfl (lv_at hl 2 rfl) ?_
            refine lv_iconst (v := 5) hx hb dX9_forgets_62 (by decide) ?_
            refine lv_iload_n hx hb dX9_forgets_63 rfl (lv_at hl 4 rfl) ?_
            refine lv_imul hx hb dX9_forgets_64 ?_
            refine lv_topi (fun y_47 ey_47 => ?_)
            obtain rfl : y_47 = (nI (5 * g_5)) := ey_47.trans (pk_mul 5 g_5)
            refine lv_iload hx hb dX9_forgets_65 (lv_at hl 5 rfl) ?_
            refine lv_iadd hx hb dX9_forgets_67 ?_
            refine lv_topi (fun y_48 ey_48 => ?_)
            obtain rfl : y_48 = (nI ((5 * g_5) + g_19)) := ey_48.trans (nI_add (5 * g_5) g_19)
            refine lv_ldcw hx hb hown v_4 dX9_forgets_68 ?_
            refine va_iast hx hb hK hP hD hS 20 19 rfl rfl (vp_in_nI (n := ((5 * g_5) + g_19)) (by omega) (Nat.le_of_ble_eq_true rfl)) dX9_forgets_71 (fun H locs hP hD hS => ?_)
            obtain ⟨f_49, ef_49, xf_49⟩ := up_x g_18 (n := ((5 * g_5) + g_19)) 1048576 (by first | omega | exact Nat.lt_trans (zx16 (by omega) (by omega) (by omega)) (Nat.le_of_ble_eq_true rfl) | exact Nat.lt_trans (zy16 (by omega) (by omega)) (Nat.le_of_ble_eq_true rfl) | exact Nat.lt_trans (zx25 (by omega) (by omega) (by omega)) (Nat.le_of_ble_eq_true rfl) | exact Nat.lt_trans (zy25 (by omega) (by omega)) (Nat.le_of_ble_eq_true rfl))
            have hP : va_P (dC, dI) vwCl (mo_w ad ck x0 (nI x16) (nI x18) (nI x19) x20 (nI x21) (nI x22) x23 x24 x25 (nI x26) x27 (nI x28) (nI x29) (nI x30) (nI x33) x45 (nI x46) (nI x52) (nI x53) (nI x61) (nI x62) (nI x63) (nI x65) x66 f1 f2 f3 (bN 3 q4) (bN 7 q5) (bN 7 q6) (bN 4 q7) f8 (bN 2 q9) (bH q10) f11 (b2 m12_0 m12_1) (b2 m13_0 m13_1) (b2 m14_0 m14_1) (b2m m15_0 m15_1) f17 (bA 159 q31) f32 f34 f_49 f36 f37 (bN 7 q38) f39 f40 f41 (b2 m42_0 m42_1) f43 f44 f47 f48 f49 f50 f51 (bN 13 q54) (bN 120 q55) (bN 120 q56) f57 (bN 120 q58) f59 f60 f64) H := by rw [← ef_49]; exact hP
            have hD : va_D A (mo_w ad ck x0 (nI x16) (nI x18) (nI x19) x20 (nI x21) (nI x22) x23 x24 x25 (nI x26) x27 (nI x28) (nI x29) (nI x30) (nI x33) x45 (nI x46) (nI x52) (nI x53) (nI x61) (nI x62) (nI x63) (nI x65) x66 f1 f2 f3 (bN 3 q4) (bN 7 q5) (bN 7 q6) (bN 4 q7) f8 (bN 2 q9) (bH q10) f11 (b2 m12_0 m12_1) (b2 m13_0 m13_1) (b2 m14_0 m14_1) (b2m m15_0 m15_1) f17 (bA 159 q31) f32 f34 f_49 f36 f37 (bN 7 q38) f39 f40 f41 (b2 m42_0 m42_1) f43 f44 f47 f48 f49 f50 f51 (bN 13 q54) (bN 120 q55) (bN 120 q56) f57 (bN 120 q58) f59 f60 f64) := by rw [← ef_49]; exact hD
            replace hsp := hsp.trans (slet_eq xf_49)
            refine lv_goto (tgt := 108) hx hb dX9_forgets_72 (by decide) ?_
            exact j_31 _ _ _ _ ⟨f_49, rfl, hsp.symm, hP, hD, hS, lv_sub hl [1, 2, 3, 4, 5, 0] rfl⟩
        · have c_34 : g_5 = g_19 := (nI_eq (a := g_5) (b := g_19) (Nat.lt_of_le_of_lt hg_5 (Nat.le_of_ble_eq_true rfl)) (Nat.lt_of_le_of_lt hg_19 (Nat.le_of_ble_eq_true rfl))).mp c_34
          replace hsp := hsp.trans (if_pos c_34)
          refine lv_goto (tgt := 108) hx hb dX9_forgets_43 (by decide) ?_
          exact j_31 _ _ _ _ ⟨g_18, rfl, hsp.symm, hP, hD, hS, lv_sub hl [1, 2, 3, 4, 5, 0] rfl⟩
  · have hcc_1 := c_1
    replace hsp := hsp.trans (if_pos c_1)
    exact W.vret hx hb hr (fun t ht hW => ⟨⟨(), rfl, trivial, ⟨f35, ⟨by rw [ht]; exact hP, va_K.moved hW.alike hK, hD⟩, (hsp.symm.trans hRR)⟩⟩, hS.F ht⟩) hS.2.2 dX9_forgets_4
theorem dX9_hasAll_0 : decode cX9_hasAll 0 = .ok (.iconst 0, 1) := by decide +kernel
theorem dX9_hasAll_1 : decode cX9_hasAll 1 = .ok (.istore 4, 2) := by decide +kernel
theorem dX9_hasAll_3 : decode cX9_hasAll 3 = .ok (.iload 4, 2) := by decide +kernel
theorem dX9_hasAll_5 : decode cX9_hasAll 5 = .ok (.aload_n 0, 1) := by decide +kernel
theorem dX9_hasAll_6 : decode cX9_hasAll 6 = .ok (.getfield 328, 3) := by decide +kernel
theorem dX9_hasAll_9 : decode cX9_hasAll 9 = .ok (.if_icmp .ge 80, 3) := by decide +kernel
theorem dX9_hasAll_12 : decode cX9_hasAll 12 = .ok (.iconst 0, 1) := by decide +kernel
theorem dX9_hasAll_13 : decode cX9_hasAll 13 = .ok (.istore 5, 2) := by decide +kernel
theorem dX9_hasAll_15 : decode cX9_hasAll 15 = .ok (.iload 5, 2) := by decide +kernel
theorem dX9_hasAll_17 : decode cX9_hasAll 17 = .ok (.aload_n 0, 1) := by decide +kernel
theorem dX9_hasAll_18 : decode cX9_hasAll 18 = .ok (.getfield 328, 3) := by decide +kernel
theorem dX9_hasAll_21 : decode cX9_hasAll 21 = .ok (.if_icmp .ge 62, 3) := by decide +kernel
theorem dX9_hasAll_24 : decode cX9_hasAll 24 = .ok (.aload_n 0, 1) := by decide +kernel
theorem dX9_hasAll_25 : decode cX9_hasAll 25 = .ok (.getfield 68, 3) := by decide +kernel
theorem dX9_hasAll_28 : decode cX9_hasAll 28 = .ok (.bipush 25, 2) := by decide +kernel
theorem dX9_hasAll_30 : decode cX9_hasAll 30 = .ok (.iload_n 1, 1) := by decide +kernel
theorem dX9_hasAll_31 : decode cX9_hasAll 31 = .ok (.imul, 1) := by decide +kernel
theorem dX9_hasAll_32 : decode cX9_hasAll 32 = .ok (.iconst 5, 1) := by decide +kernel
theorem dX9_hasAll_33 : decode cX9_hasAll 33 = .ok (.iload 4, 2) := by decide +kernel
theorem dX9_hasAll_35 : decode cX9_hasAll 35 = .ok (.imul, 1) := by decide +kernel
theorem dX9_hasAll_36 : decode cX9_hasAll 36 = .ok (.iadd, 1) := by decide +kernel
theorem dX9_hasAll_37 : decode cX9_hasAll 37 = .ok (.iload 5, 2) := by decide +kernel
theorem dX9_hasAll_39 : decode cX9_hasAll 39 = .ok (.iadd, 1) := by decide +kernel
theorem dX9_hasAll_40 : decode cX9_hasAll 40 = .ok (.iaload, 1) := by decide +kernel
theorem dX9_hasAll_41 : decode cX9_hasAll 41 = .ok (.istore 6, 2) := by decide +kernel
theorem dX9_hasAll_43 : decode cX9_hasAll 43 = .ok (.aload_n 2, 1) := by decide +kernel
theorem dX9_hasAll_44 : decode cX9_hasAll 44 = .ok (.iconst 5, 1) := by decide +kernel
theorem dX9_hasAll_45 : decode cX9_hasAll 45 = .ok (.iload 4, 2) := by decide +kernel
theorem dX9_hasAll_47 : decode cX9_hasAll 47 = .ok (.imul, 1) := by decide +kernel
theorem dX9_hasAll_48 : decode cX9_hasAll 48 = .ok (.iload 5, 2) := by decide +kernel
theorem dX9_hasAll_50 : decode cX9_hasAll 50 = .ok (.iadd, 1) := by decide +kernel
theorem dX9_hasAll_51 : decode cX9_hasAll 51 = .ok (.iaload, 1) := by decide +kernel
theorem dX9_hasAll_52 : decode cX9_hasAll 52 = .ok (.istore 7, 2) := by decide +kernel
theorem dX9_hasAll_54 : decode cX9_hasAll 54 = .ok (.iload_n 3, 1) := by decide +kernel
theorem dX9_hasAll_55 : decode cX9_hasAll 55 = .ok (.ifCond .eq 13, 3) := by decide +kernel
theorem dX9_hasAll_58 : decode cX9_hasAll 58 = .ok (.iload 6, 2) := by decide +kernel
theorem dX9_hasAll_60 : decode cX9_hasAll 60 = .ok (.iload 7, 2) := by decide +kernel
theorem dX9_hasAll_62 : decode cX9_hasAll 62 = .ok (.if_icmp .eq 15, 3) := by decide +kernel
theorem dX9_hasAll_65 : decode cX9_hasAll 65 = .ok (.goto 10, 3) := by decide +kernel
theorem dX9_hasAll_68 : decode cX9_hasAll 68 = .ok (.iload 7, 2) := by decide +kernel
theorem dX9_hasAll_70 : decode cX9_hasAll 70 = .ok (.iload 6, 2) := by decide +kernel
theorem dX9_hasAll_72 : decode cX9_hasAll 72 = .ok (.if_icmp .le 5, 3) := by decide +kernel
theorem dX9_hasAll_75 : decode cX9_hasAll 75 = .ok (.iconst 0, 1) := by decide +kernel
theorem dX9_hasAll_76 : decode cX9_hasAll 76 = .ok (.ireturn, 1) := by decide +kernel
theorem dX9_hasAll_77 : decode cX9_hasAll 77 = .ok (.iinc 5 1, 3) := by decide +kernel
theorem dX9_hasAll_80 : decode cX9_hasAll 80 = .ok (.goto (-65), 3) := by decide +kernel
theorem dX9_hasAll_83 : decode cX9_hasAll 83 = .ok (.iinc 4 1, 3) := by decide +kernel
theorem dX9_hasAll_86 : decode cX9_hasAll 86 = .ok (.goto (-83), 3) := by decide +kernel
theorem dX9_hasAll_89 : decode cX9_hasAll 89 = .ok (.iconst 1, 1) := by decide +kernel
theorem dX9_hasAll_90 : decode cX9_hasAll 90 = .ok (.ireturn, 1) := by decide +kernel
abbrev vs_EM_hasAll : List Cond := .code yX9_hasAll cX9_hasAll 8 (some .boolean) :: VM
noncomputable def sp_EM_hasAll_L1 (x46 : Nat) (f34 : Nat → Int32) (f35 : Nat → Int32) (a0 : Nat) (a2 : Nat) (g_2 : Nat) : (Nat) → (Nat) ⊕ ((Nat) ⊕ (Nat)) := fun g_11 => (if x46 ≤ g_11 then (Sum.inr (Sum.inl (g_2 + 1))) else (slet (f34 (((25 * a0) + (5 * g_2)) + g_11)) (fun y_23 => (slet (f35 ((5 * g_2) + g_11)) (fun y_26 => (if a2 = 0 then (if (y_26 : Int32) ≤ y_23 then (Sum.inl (g_11 + 1)) else (Sum.inr (Sum.inr 0))) else (if (y_23 : Int32) = y_26 then (Sum.inl (g_11 + 1)) else (Sum.inr (Sum.inr 0)))))))))
noncomputable def sp_EM_hasAll_L2 (x46 : Nat) (f34 : Nat → Int32) (f35 : Nat → Int32) (a0 : Nat) (a2 : Nat) : (Nat) → (Nat) ⊕ (Nat) := fun g_2 => (if x46 ≤ g_2 then (Sum.inr 1) else (itrv (α := Nat) (β := ((Nat) ⊕ (Nat))) (Sum.inr default) (sp_EM_hasAll_L1 x46 f34 f35 a0 a2 g_2) 0))
noncomputable def sp_EM_hasAll (x46 : Nat) (f34 : Nat → Int32) (f35 : Nat → Int32) (a0 : Nat) (a2 : Nat) : Nat := (itrv (α := Nat) (β := (Nat)) default (sp_EM_hasAll_L2 x46 f34 f35 a0 a2) 0)
set_option maxHeartbeats 4000000 in
set_option maxRecDepth 100000 in
theorem c_EM_hasAll (l : Launch) (dC : Nat → ClassId) (dI : Nat → Nat → Nat) (sz : Nat) (ad : Nat → Nat) (ck : Nat → ClassId) (x0 : Int32) (x16 : Nat) (x18 : Nat) (x19 : Nat) (x20 : Int32) (x21 : Nat) (x22 : Nat) (x23 : Int32) (x24 : Int32) (x25 : Int32) (x26 : Nat) (x27 : Int32) (x28 : Nat) (x29 : Nat) (x30 : Nat) (x33 : Nat) (x45 : Int32) (x46 : Nat) (x52 : Nat) (x53 : Nat) (x61 : Nat) (x62 : Nat) (x63 : Nat) (x65 : Nat) (x66 : Int32) (f1 : Nat → Int32) (f2 : Nat → Int32) (f3 : Nat → Int32) (q4 : Nat → Nat) (q5 : Nat → Nat) (q6 : Nat → Nat) (q7 : Nat → Nat) (f8 : Nat → Int32) (q9 : Nat → Nat) (q10 : Nat → Nat) (f11 : Nat → Int32) (m12_0 m12_1 : Nat) (m13_0 m13_1 : Nat) (m14_0 m14_1 : Nat) (m15_0 m15_1 : Nat) (f17 : Nat → Int32) (q31 : Nat → Nat) (f32 : Nat → Int32) (f34 : Nat → Int32) (f35 : Nat → Int32) (f36 : Nat → Int32) (f37 : Nat → Int32) (q38 : Nat → Nat) (f39 : Nat → Int32) (f40 : Nat → Int32) (f41 : Nat → Int32) (m42_0 m42_1 : Nat) (f43 : Nat → Int32) (f44 : Nat → Int32) (f47 : Nat → Int32) (f48 : Nat → Int32) (f49 : Nat → Int32) (f50 : Nat → Int32) (f51 : Nat → Int32) (q54 : Nat → Nat) (q55 : Nat → Nat) (q56 : Nat → Nat) (f57 : Nat → Int32) (q58 : Nat → Nat) (f59 : Nat → Int32) (f60 : Nat → Int32) (f64 : Nat → Int32) (a0 : Nat) (a2 : Nat) (hx16 : x16 ≤ 1) (hx18 : x18 ≤ 900) (hx19 : x19 ≤ 900) (hx21 : x21 ≤ 900) (hx22 : x22 ≤ 4) (hx26 : x26 ≤ 6) (hx28 : x28 ≤ 1) (hx29 : x29 ≤ 1) (hx30 : x30 ≤ 1) (hx33 : x33 ≤ 20) (hx46 : x46 ≤ 5) (hx52 : x52 ≤ 2400) (hx53 : x53 ≤ 119) (hx61 : x61 ≤ 119) (hx62 : x62 ≤ 2000) (hx63 : x63 ≤ 1) (hx65 : x65 ≤ 7) (hm12_0 : m12_0 ≤ 3) (hm12_1 : m12_1 ≤ 3) (hm13_0 : m13_0 ≤ 8) (hm13_1 : m13_1 ≤ 8) (hm14_0 : m14_0 ≤ 14) (hm14_1 : m14_1 ≤ 14) (hm15_0 : m15_0 ≤ 8) (hm15_1 : m15_1 ≤ 8) (hm42_0 : m42_0 ≤ 120) (hm42_1 : m42_1 ≤ 400) (ha0 : a0 ≤ 519) (ha2 : a2 ≤ 1) : Met l yX9_hasAll vs_EM_hasAll ({ frames := 0, cells := 0, slots := 0, locals := 0 }) (va_Pc [.ref (ad 0), .int (nI a0), .ref (ad 35), .int (nI a2)] (pu_B (dC, dI) (mo_w ad ck x0 (nI x16) (nI x18) (nI x19) x20 (nI x21) (nI x22) x23 x24 x25 (nI x26) x27 (nI x28) (nI x29) (nI x30) (nI x33) x45 (nI x46) (nI x52) (nI x53) (nI x61) (nI x62) (nI x63) (nI x65) x66 f1 f2 f3 (bN 3 q4) (bN 7 q5) (bN 7 q6) (bN 4 q7) f8 (bN 2 q9) (bH q10) f11 (b2 m12_0 m12_1) (b2 m13_0 m13_1) (b2 m14_0 m14_1) (b2m m15_0 m15_1) f17 (bA 159 q31) f32 f34 f35 f36 f37 (bN 7 q38) f39 f40 f41 (b2 m42_0 m42_1) f43 f44 f47 f48 f49 f50 f51 (bN 13 q54) (bN 120 q55) (bN 120 q56) f57 (bN 120 q58) f59 f60 f64) (mo_t ck) sz)) (va_Qi (fun (r : Int32) (_ : Unit) => ∃ v : Nat, v ≤ 1 ∧ r = nI v ∧ v = (sp_EM_hasAll x46 f34 f35 a0 a2)) (fun _ _ => True) (va_A [] sz)) 0 0 (va_A [] sz) := by
  refine Met.ofW (cc := cX9_hasAll) (maxL := 8) (ret := (some .boolean)) (by decide) rfl ?_
  intro p e s m args below meth c s₁ B hml hv
  obtain ⟨rfl, rfl, hP, hK, hD0⟩ := hv
  have hx := B.exec
  have hb := B.bytes
  have hr := B.returns
  have hts := atoms_spec (ws := vs_EM_hasAll) B.pre
  have v_1 := hts (.fieldLink RX9 328 "ClockReachModel" "side" "I") (List.mem_cons_of_mem _ vm_196)
  have v_2 := hts (.fieldLink RX9 68 "ClockReachModel" "zone" "[I") (List.mem_cons_of_mem _ vm_214)
  have hown : s.vm.findClass RX9 = some m.cls := findClass_of_methodNamed B.named
  have hlocks := B.notSynchronized
  have hiX9 : ∀ w ∈ wsX90, w ∈ vs_EM_hasAll := fun _ h => List.mem_cons_of_mem _ (vmi_L h)
  have hD := hD0
  have hA : ∀ q : Nat, s.heap.size ≤ q → va_A [] s.heap.size q := fun _ h => Or.inr h
  have hS : va_S (va_A [] s.heap.size) s.heap s.heap [] := va_S.rf
  have hl := lv_entry ([.ref (ad 0), .int (nI a0), .ref (ad 35), .int (nI a2)]) (n := 8) (Nat.le_of_ble_eq_true rfl)
  rw [lg_entry_eq]
  generalize (lg_sl ([.ref (ad 0), .int (nI a0), .ref (ad 35), .int (nI a2)]) ++ List.replicate (8 - (lg_sl ([.ref (ad 0), .int (nI a0), .ref (ad 35), .int (nI a2)])).length) Slot.unset).toArray = ls at hl ⊢
  have hl : lv_has ls 8 [(0, .ref (ad 0)), (1, .int (nI a0)), (2, .ref (ad 35)), (3, .int (nI a2))] := hl
  obtain ⟨RR, hRR⟩ : ∃ x, x = (sp_EM_hasAll x46 f34 f35 a0 a2) := ⟨_, rfl⟩
  have hsp := hRR
  refine lv_iconst (v := 0) hx hb dX9_hasAll_0 (by decide) ?_
  refine lv_istore (lv' := [(4, .int 0), (0, .ref (ad 0)), (1, .int (nI a0)), (2, .ref (ad 35)), (3, .int (nI a2))]) hx hb dX9_hasAll_1 hl (by decide) rfl (fun ls hl => ?_)
  obtain ⟨lf_4, dlf_4, hlf_4, hsp⟩ := itr_ex hsp
  delta sp_EM_hasAll_L2 at hlf_4
  refine pu_while (fun nn H locs ls => ∃ (g_2 : Nat), nn = 5 - g_2 ∧ g_2 ≤ 5 ∧ RR = itrv dlf_4 lf_4 g_2 ∧ va_P (dC, dI) vwCl (mo_w ad ck x0 (nI x16) (nI x18) (nI x19) x20 (nI x21) (nI x22) x23 x24 x25 (nI x26) x27 (nI x28) (nI x29) (nI x30) (nI x33) x45 (nI x46) (nI x52) (nI x53) (nI x61) (nI x62) (nI x63) (nI x65) x66 f1 f2 f3 (bN 3 q4) (bN 7 q5) (bN 7 q6) (bN 4 q7) f8 (bN 2 q9) (bH q10) f11 (b2 m12_0 m12_1) (b2 m13_0 m13_1) (b2 m14_0 m14_1) (b2m m15_0 m15_1) f17 (bA 159 q31) f32 f34 f35 f36 f37 (bN 7 q38) f39 f40 f41 (b2 m42_0 m42_1) f43 f44 f47 f48 f49 f50 f51 (bN 13 q54) (bN 120 q55) (bN 120 q56) f57 (bN 120 q58) f59 f60 f64) H ∧ va_D (fun _ => True) (mo_w ad ck x0 (nI x16) (nI x18) (nI x19) x20 (nI x21) (nI x22) x23 x24 x25 (nI x26) x27 (nI x28) (nI x29) (nI x30) (nI x33) x45 (nI x46) (nI x52) (nI x53) (nI x61) (nI x62) (nI x63) (nI x65) x66 f1 f2 f3 (bN 3 q4) (bN 7 q5) (bN 7 q6) (bN 4 q7) f8 (bN 2 q9) (bH q10) f11 (b2 m12_0 m12_1) (b2 m13_0 m13_1) (b2 m14_0 m14_1) (b2m m15_0 m15_1) f17 (bA 159 q31) f32 f34 f35 f36 f37 (bN 7 q38) f39 f40 f41 (b2 m42_0 m42_1) f43 f44 f47 f48 f49 f50 f51 (bN 13 q54) (bN 120 q55) (bN 120 q56) f57 (bN 120 q58) f59 f60 f64) ∧ va_S (va_A [] s.heap.size) s.heap H locs ∧ lv_has ls 8 [(0, .ref (ad 0)), (1, .int (nI a0)), (2, .ref (ad 35)), (3, .int (nI a2)), (4, .int (nI g_2))]) 3 ?_ _ _ _ _ ⟨0, rfl, (Nat.le_of_ble_eq_true rfl), hsp, hP, hD, hS, lv_sub hl [1, 2, 3, 4, 0] rfl⟩
  rintro nn ih_3 H locs ls ⟨g_2, rfl, hg_2, he_6, hP, hD, hS, hl⟩
  obtain ⟨S_5, hsp, hin_7, hout_8⟩ := itr_step hlf_4 he_6
  refine lv_iload hx hb dX9_hasAll_3 (lv_at hl 4 rfl) ?_
  refine lv_aload_n hx hb dX9_hasAll_5 rfl (lv_at hl 0 rfl) ?_
  refine va_get (D := (dC, dI)) (ci := 9) (v := .int (nI x46)) (C := RX9) (T := TX9) (N := 67) hx hb hts hiX9 hown hK hP 0 rfl rfl 46 (by decide) v_1 (fun _ h9 => h9) rfl dX9_hasAll_6 ?_
  refine lv_icmp_ge (tgt := 89) hx hb dX9_hasAll_9 (by decide) (fun c_9 => ?_) (fun c_9 => ?_)
  · have c_9 : x46 ≤ g_2 := (nI_leI (a := x46) (b := g_2) (Nat.lt_of_le_of_lt hx46 (Nat.le_of_ble_eq_true rfl)) (Nat.lt_of_le_of_lt hg_2 (Nat.le_of_ble_eq_true rfl))).mp c_9
    replace hsp := hsp.trans (if_pos c_9)
    have hsp := hout_8 _ hsp
    refine lv_iconst (v := 1) hx hb dX9_hasAll_89 (by decide) ?_
    exact W.zret (v := 1) (ty := .boolean) hx hb hr (rfl) (fun t ht hW => ⟨⟨1, (), rfl, ⟨1, (Nat.le_of_ble_eq_true rfl), rfl, (hsp.symm.trans hRR)⟩, trivial⟩, hS.F ht⟩) hS.2.2 dX9_hasAll_90
  · have c_9 : ¬ x46 ≤ g_2 := fun z => c_9 ((nI_leI (a := x46) (b := g_2) (Nat.lt_of_le_of_lt hx46 (Nat.le_of_ble_eq_true rfl)) (Nat.lt_of_le_of_lt hg_2 (Nat.le_of_ble_eq_true rfl))).mpr z)
    replace hsp := hsp.trans (if_neg c_9)
    refine lv_iconst (v := 0) hx hb dX9_hasAll_12 (by decide) ?_
    refine lv_istore (lv' := [(5, .int 0), (0, .ref (ad 0)), (1, .int (nI a0)), (2, .ref (ad 35)), (3, .int (nI a2)), (4, .int (nI g_2))]) hx hb dX9_hasAll_13 hl (by decide) rfl (fun ls hl => ?_)
    obtain ⟨lf_13, dlf_13, hlf_13, hsp⟩ := itr_ex hsp
    delta sp_EM_hasAll_L1 at hlf_13
    refine pu_while (fun nn H locs ls => ∃ (g_11 : Nat), nn = 5 - g_11 ∧ g_11 ≤ 5 ∧ S_5 = itrv dlf_13 lf_13 g_11 ∧ va_P (dC, dI) vwCl (mo_w ad ck x0 (nI x16) (nI x18) (nI x19) x20 (nI x21) (nI x22) x23 x24 x25 (nI x26) x27 (nI x28) (nI x29) (nI x30) (nI x33) x45 (nI x46) (nI x52) (nI x53) (nI x61) (nI x62) (nI x63) (nI x65) x66 f1 f2 f3 (bN 3 q4) (bN 7 q5) (bN 7 q6) (bN 4 q7) f8 (bN 2 q9) (bH q10) f11 (b2 m12_0 m12_1) (b2 m13_0 m13_1) (b2 m14_0 m14_1) (b2m m15_0 m15_1) f17 (bA 159 q31) f32 f34 f35 f36 f37 (bN 7 q38) f39 f40 f41 (b2 m42_0 m42_1) f43 f44 f47 f48 f49 f50 f51 (bN 13 q54) (bN 120 q55) (bN 120 q56) f57 (bN 120 q58) f59 f60 f64) H ∧ va_D (fun _ => True) (mo_w ad ck x0 (nI x16) (nI x18) (nI x19) x20 (nI x21) (nI x22) x23 x24 x25 (nI x26) x27 (nI x28) (nI x29) (nI x30) (nI x33) x45 (nI x46) (nI x52) (nI x53) (nI x61) (nI x62) (nI x63) (nI x65) x66 f1 f2 f3 (bN 3 q4) (bN 7 q5) (bN 7 q6) (bN 4 q7) f8 (bN 2 q9) (bH q10) f11 (b2 m12_0 m12_1) (b2 m13_0 m13_1) (b2 m14_0 m14_1) (b2m m15_0 m15_1) f17 (bA 159 q31) f32 f34 f35 f36 f37 (bN 7 q38) f39 f40 f41 (b2 m42_0 m42_1) f43 f44 f47 f48 f49 f50 f51 (bN 13 q54) (bN 120 q55) (bN 120 q56) f57 (bN 120 q58) f59 f60 f64) ∧ va_S (va_A [] s.heap.size) s.heap H locs ∧ lv_has ls 8 [(0, .ref (ad 0)), (1, .int (nI a0)), (2, .ref (ad 35)), (3, .int (nI a2)), (4, .int (nI g_2)), (5, .int (nI g_11))]) 15 ?_ _ _ _ _ ⟨0, rfl, (Nat.le_of_ble_eq_true rfl), hsp, hP, hD, hS, lv_sub hl [1, 2, 3, 4, 5, 0] rfl⟩
    rintro nn ih_12 H locs ls ⟨g_11, rfl, hg_11, he_15, hP, hD, hS, hl⟩
    obtain ⟨S_14, hsp, hin_16, hout_17⟩ := itr_step hlf_13 he_15
    refine lv_iload hx hb dX9_hasAll_15 (lv_at hl 5 rfl) ?_
    refine lv_aload_n hx hb dX9_hasAll_17 rfl (lv_at hl 0 rfl) ?_
    refine va_get (D := (dC, dI)) (ci := 9) (v := .int (nI x46)) (C := RX9) (T := TX9) (N := 67) hx hb hts hiX9 hown hK hP 0 rfl rfl 46 (by decide) v_1 (fun _ h9 => h9) rfl dX9_hasAll_18 ?_
    refine lv_icmp_ge (tgt := 83) hx hb dX9_hasAll_21 (by decide) (fun c_18 => ?_) (fun c_18 => ?_)
    · have c_18 : x46 ≤ g_11 := (nI_leI (a := x46) (b := g_11) (Nat.lt_of_le_of_lt hx46 (Nat.le_of_ble_eq_true rfl)) (Nat.lt_of_le_of_lt hg_11 (Nat.le_of_ble_eq_true rfl))).mp c_18
      replace hsp := hsp.trans (if_pos c_18)
      have hsp := hout_17 _ hsp
      refine lv_iinc (v := (nI (g_2 + 1))) (lv' := [(4, .int (nI (g_2 + 1))), (0, .ref (ad 0)), (1, .int (nI a0)), (2, .ref (ad 35)), (3, .int (nI a2)), (5, .int (nI g_11))]) hx hb dX9_hasAll_83 hl (k := 4) rfl (nI_1 _) (by decide) rfl (fun ls hl => ?_)
      refine lv_goto (tgt := 3) hx hb dX9_hasAll_86 (by decide) ?_
      exact ih_3 (5 - (g_2 + 1)) (by omega) _ _ _ ⟨(g_2 + 1), rfl, (by omega), hin_7 _ hsp, hP, hD, hS, lv_sub hl [1, 2, 3, 4, 0] rfl⟩
    · have c_18 : ¬ x46 ≤ g_11 := fun z => c_18 ((nI_leI (a := x46) (b := g_11) (Nat.lt_of_le_of_lt hx46 (Nat.le_of_ble_eq_true rfl)) (Nat.lt_of_le_of_lt hg_11 (Nat.le_of_ble_eq_true rfl))).mpr z)
      replace hsp := hsp.trans (if_neg c_18)
      refine lv_aload_n hx hb dX9_hasAll_24 rfl (lv_at hl 0 rfl) ?_
      refine va_get (D := (dC, dI)) (ci := 9) (v := .ref (ad 34)) (C := RX9) (T := TX9) (N := 67) hx hb hts hiX9 hown hK hP 0 rfl rfl 34 (by decide) v_2 (fun _ h9 => h9) rfl dX9_hasAll_25 ?_
      refine lv_bipush (v := 25) hx hb dX9_hasAll_28 (by decide) ?_
      refine lv_iload_n hx hb dX9_hasAll_30 rfl (lv_at hl 1 rfl) ?_
      refine lv_imul hx hb dX9_hasAll_31 ?_
      refine lv_topi (fun y_19 ey_19 => ?_)
      obtain rfl : y_19 = (nI (25 * a0)) := ey_19.trans (pk_mul 25 a0)
      refine lv_iconst (v := 5) hx hb dX9_hasAll_32 (by decide) ?_
      refine lv_iload hx hb dX9_hasAll_33 (lv_at hl 4 rfl) ?_
      refine lv_imul hx hb dX9_hasAll_35 ?_
      refine lv_topi (fun y_20 ey_20 => ?_)
      obtain rfl : y_20 = (nI (5 * g_2)) := ey_20.trans (pk_mul 5 g_2)
      refine lv_iadd hx hb dX9_hasAll_36 ?_
      refine lv_topi (fun y_21 ey_21 => ?_)
      obtain rfl : y_21 = (nI ((25 * a0) + (5 * g_2))) := ey_21.trans (nI_add (25 * a0) (5 * g_2))
      refine lv_iload hx hb dX9_hasAll_37 (lv_at hl 5 rfl) ?_
      refine lv_iadd hx hb dX9_hasAll_39 ?_
      refine lv_topi (fun y_22 ey_22 => ?_)
      obtain rfl : y_22 = (nI (((25 * a0) + (5 * g_2)) + g_11)) := ey_22.trans (nI_add ((25 * a0) + (5 * g_2)) g_11)
      refine va_iald hx hb hK hP 19 18 rfl rfl (vp_in_nI (n := (((25 * a0) + (5 * g_2)) + g_11)) (by omega) (Nat.le_of_ble_eq_true rfl)) dX9_hasAll_40 ?_
      refine lv_topi (fun y_23 ey_23 => ?_)
      have ey_23 : y_23 = f34 (((25 * a0) + (5 * g_2)) + g_11) := ey_23.trans (congrArg f34 (nI_clamp (n := (((25 * a0) + (5 * g_2)) + g_11)) (by first | omega | exact Nat.lt_trans (zx16 (by omega) (by omega) (by omega)) (Nat.le_of_ble_eq_true rfl) | exact Nat.lt_trans (zy16 (by omega) (by omega)) (Nat.le_of_ble_eq_true rfl) | exact Nat.lt_trans (zx25 (by omega) (by omega) (by omega)) (Nat.le_of_ble_eq_true rfl) | exact Nat.lt_trans (zy25 (by omega) (by omega)) (Nat.le_of_ble_eq_true rfl))))
      replace hsp := hsp.trans (slet_eq ey_23)
      refine lv_istore (lv' := [(6, .int y_23), (0, .ref (ad 0)), (1, .int (nI a0)), (2, .ref (ad 35)), (3, .int (nI a2)), (4, .int (nI g_2)), (5, .int (nI g_11))]) hx hb dX9_hasAll_41 hl (by decide) rfl (fun ls hl => ?_)
      refine lv_aload_n hx hb dX9_hasAll_43 rfl (lv_at hl 3 rfl) ?_
      refine lv_iconst (v := 5) hx hb dX9_hasAll_44 (by decide) ?_
      refine lv_iload hx hb dX9_hasAll_45 (lv_at hl 5 rfl) ?_
      refine lv_imul hx hb dX9_hasAll_47 ?_
      refine lv_topi (fun y_24 ey_24 => ?_)
      obtain rfl : y_24 = (nI (5 * g_2)) := ey_24.trans (pk_mul 5 g_2)
      refine lv_iload hx hb dX9_hasAll_48 (lv_at hl 6 rfl) ?_
      refine lv_iadd hx hb dX9_hasAll_50 ?_
      refine lv_topi (fun y_25 ey_25 => ?_)
      obtain rfl : y_25 = (nI ((5 * g_2) + g_11)) := ey_25.trans (nI_add (5 * g_2) g_11)
      refine va_iald hx hb hK hP 20 19 rfl rfl (vp_in_nI (n := ((5 * g_2) + g_11)) (by omega) (Nat.le_of_ble_eq_true rfl)) dX9_hasAll_51 ?_
      refine lv_topi (fun y_26 ey_26 => ?_)
      have ey_26 : y_26 = f35 ((5 * g_2) + g_11) := ey_26.trans (congrArg f35 (nI_clamp (n := ((5 * g_2) + g_11)) (by first | omega | exact Nat.lt_trans (zx16 (by omega) (by omega) (by omega)) (Nat.le_of_ble_eq_true rfl) | exact Nat.lt_trans (zy16 (by omega) (by omega)) (Nat.le_of_ble_eq_true rfl) | exact Nat.lt_trans (zx25 (by omega) (by omega) (by omega)) (Nat.le_of_ble_eq_true rfl) | exact Nat.lt_trans (zy25 (by omega) (by omega)) (Nat.le_of_ble_eq_true rfl))))
      replace hsp := hsp.trans (slet_eq ey_26)
      refine lv_istore (lv' := [(7, .int y_26), (6, .int y_23), (0, .ref (ad 0)), (1, .int (nI a0)), (2, .ref (ad 35)), (3, .int (nI a2)), (4, .int (nI g_2)), (5, .int (nI g_11))]) hx hb dX9_hasAll_52 hl (by decide) rfl (fun ls hl => ?_)
      refine lv_iload_n hx hb dX9_hasAll_54 rfl (lv_at hl 5 rfl) ?_
      refine lv_if_eq (tgt := 68) hx hb dX9_hasAll_55 (by decide) (fun c_27 => ?_) (fun c_27 => ?_)
      · have c_27 : a2 = 0 := (nI_eq (a := a2) (b := 0) (Nat.lt_of_le_of_lt ha2 (Nat.le_of_ble_eq_true rfl)) (Nat.le_of_ble_eq_true rfl)).mp c_27
        replace hsp := hsp.trans (if_pos c_27)
        refine lv_iload hx hb dX9_hasAll_68 (lv_at hl 0 rfl) ?_
        refine lv_iload hx hb dX9_hasAll_70 (lv_at hl 1 rfl) ?_
        refine lv_icmp_le (tgt := 77) hx hb dX9_hasAll_72 (by decide) (fun c_28 => ?_) (fun c_28 => ?_)
        · have hcc_28 := c_28
          replace hsp := hsp.trans (if_pos c_28)
          refine lv_iinc (v := (nI (g_11 + 1))) (lv' := [(5, .int (nI (g_11 + 1))), (7, .int y_26), (6, .int y_23), (0, .ref (ad 0)), (1, .int (nI a0)), (2, .ref (ad 35)), (3, .int (nI a2)), (4, .int (nI g_2))]) hx hb dX9_hasAll_77 hl (k := 7) rfl (nI_1 _) (by decide) rfl (fun ls hl => ?_)
          refine lv_goto (tgt := 15) hx hb dX9_hasAll_80 (by decide) ?_
          exact ih_12 (5 - (g_11 + 1)) (by omega) _ _ _ ⟨(g_11 + 1), rfl, (by omega), hin_16 _ hsp, hP, hD, hS, lv_sub hl [3, 4, 5, 6, 7, 0] rfl⟩
        · have hcc_28 := c_28
          replace hsp := hsp.trans (if_neg c_28)
          have hsp := hout_17 _ hsp
          have hsp := hout_8 _ hsp
          refine lv_iconst (v := 0) hx hb dX9_hasAll_75 (by decide) ?_
          exact W.zret (v := 0) (ty := .boolean) hx hb hr (rfl) (fun t ht hW => ⟨⟨0, (), rfl, ⟨0, (Nat.le_of_ble_eq_true rfl), rfl, (hsp.symm.trans hRR)⟩, trivial⟩, hS.F ht⟩) hS.2.2 dX9_hasAll_76
      · have c_27 : ¬ a2 = 0 := fun z => c_27 ((nI_eq (a := a2) (b := 0) (Nat.lt_of_le_of_lt ha2 (Nat.le_of_ble_eq_true rfl)) (Nat.le_of_ble_eq_true rfl)).mpr z)
        replace hsp := hsp.trans (if_neg c_27)
        refine lv_iload hx hb dX9_hasAll_58 (lv_at hl 1 rfl) ?_
        refine lv_iload hx hb dX9_hasAll_60 (lv_at hl 0 rfl) ?_
        refine lv_icmp_eq (tgt := 77) hx hb dX9_hasAll_62 (by decide) (fun c_29 => ?_) (fun c_29 => ?_)
        · have hcc_29 := c_29
          replace hsp := hsp.trans (if_pos c_29)
          refine lv_iinc (v := (nI (g_11 + 1))) (lv' := [(5, .int (nI (g_11 + 1))), (7, .int y_26), (6, .int y_23), (0, .ref (ad 0)), (1, .int (nI a0)), (2, .ref (ad 35)), (3, .int (nI a2)), (4, .int (nI g_2))]) hx hb dX9_hasAll_77 hl (k := 7) rfl (nI_1 _) (by decide) rfl (fun ls hl => ?_)
          refine lv_goto (tgt := 15) hx hb dX9_hasAll_80 (by decide) ?_
          exact ih_12 (5 - (g_11 + 1)) (by omega) _ _ _ ⟨(g_11 + 1), rfl, (by omega), hin_16 _ hsp, hP, hD, hS, lv_sub hl [3, 4, 5, 6, 7, 0] rfl⟩
        · have hcc_29 := c_29
          replace hsp := hsp.trans (if_neg c_29)
          have hsp := hout_17 _ hsp
          have hsp := hout_8 _ hsp
          refine lv_goto (tgt := 75) hx hb dX9_hasAll_65 (by decide) ?_
          refine lv_iconst (v := 0) hx hb dX9_hasAll_75 (by decide) ?_
          exact W.zret (v := 0) (ty := .boolean) hx hb hr (rfl) (fun t ht hW => ⟨⟨0, (), rfl, ⟨0, (Nat.le_of_ble_eq_true rfl), rfl, (hsp.symm.trans hRR)⟩, trivial⟩, hS.F ht⟩) hS.2.2 dX9_hasAll_76
theorem dX9_goesBy_0 : decode cX9_goesBy 0 = .ok (.aload_n 0, 1) := by decide +kernel
theorem dX9_goesBy_1 : decode cX9_goesBy 1 = .ok (.aload_n 0, 1) := by decide +kernel
theorem dX9_goesBy_2 : decode cX9_goesBy 2 = .ok (.getfield 71, 3) := by decide +kernel
theorem dX9_goesBy_5 : decode cX9_goesBy 5 = .ok (.iload_n 1, 1) := by decide +kernel
theorem dX9_goesBy_6 : decode cX9_goesBy 6 = .ok (.invokevirtual 342, 3) := by decide +kernel
theorem dX9_goesBy_9 : decode cX9_goesBy 9 = .ok (.aload_n 0, 1) := by decide +kernel
theorem dX9_goesBy_10 : decode cX9_goesBy 10 = .ok (.aload_n 0, 1) := by decide +kernel
theorem dX9_goesBy_11 : decode cX9_goesBy 11 = .ok (.getfield 71, 3) := by decide +kernel
theorem dX9_goesBy_14 : decode cX9_goesBy 14 = .ok (.invokevirtual 345, 3) := by decide +kernel
theorem dX9_goesBy_17 : decode cX9_goesBy 17 = .ok (.ifCond .ne 5, 3) := by decide +kernel
theorem dX9_goesBy_20 : decode cX9_goesBy 20 = .ok (.iconst 0, 1) := by decide +kernel
theorem dX9_goesBy_21 : decode cX9_goesBy 21 = .ok (.ireturn, 1) := by decide +kernel
theorem dX9_goesBy_22 : decode cX9_goesBy 22 = .ok (.iconst 0, 1) := by decide +kernel
theorem dX9_goesBy_23 : decode cX9_goesBy 23 = .ok (.istore_n 2, 1) := by decide +kernel
theorem dX9_goesBy_24 : decode cX9_goesBy 24 = .ok (.iload_n 2, 1) := by decide +kernel
theorem dX9_goesBy_25 : decode cX9_goesBy 25 = .ok (.aload_n 0, 1) := by decide +kernel
theorem dX9_goesBy_26 : decode cX9_goesBy 26 = .ok (.invokevirtual 280, 3) := by decide +kernel
theorem dX9_goesBy_29 : decode cX9_goesBy 29 = .ok (.if_icmp .ge 32, 3) := by decide +kernel
theorem dX9_goesBy_32 : decode cX9_goesBy 32 = .ok (.aload_n 0, 1) := by decide +kernel
theorem dX9_goesBy_33 : decode cX9_goesBy 33 = .ok (.iload_n 1, 1) := by decide +kernel
theorem dX9_goesBy_34 : decode cX9_goesBy 34 = .ok (.invokevirtual 305, 3) := by decide +kernel
theorem dX9_goesBy_37 : decode cX9_goesBy 37 = .ok (.iload_n 2, 1) := by decide +kernel
theorem dX9_goesBy_38 : decode cX9_goesBy 38 = .ok (.invokestatic 248, 3) := by decide +kernel
theorem dX9_goesBy_41 : decode cX9_goesBy 41 = .ok (.ifCond .eq 14, 3) := by decide +kernel
theorem dX9_goesBy_44 : decode cX9_goesBy 44 = .ok (.aload_n 0, 1) := by decide +kernel
theorem dX9_goesBy_45 : decode cX9_goesBy 45 = .ok (.aload_n 0, 1) := by decide +kernel
theorem dX9_goesBy_46 : decode cX9_goesBy 46 = .ok (.getfield 71, 3) := by decide +kernel
theorem dX9_goesBy_49 : decode cX9_goesBy 49 = .ok (.iconst 1, 1) := by decide +kernel
theorem dX9_goesBy_50 : decode cX9_goesBy 50 = .ok (.iload_n 2, 1) := by decide +kernel
theorem dX9_goesBy_51 : decode cX9_goesBy 51 = .ok (.iadd, 1) := by decide +kernel
theorem dX9_goesBy_52 : decode cX9_goesBy 52 = .ok (.invokevirtual 366, 3) := by decide +kernel
theorem dX9_goesBy_55 : decode cX9_goesBy 55 = .ok (.iinc 2 1, 3) := by decide +kernel
theorem dX9_goesBy_58 : decode cX9_goesBy 58 = .ok (.goto (-34), 3) := by decide +kernel
theorem dX9_goesBy_61 : decode cX9_goesBy 61 = .ok (.aload_n 0, 1) := by decide +kernel
theorem dX9_goesBy_62 : decode cX9_goesBy 62 = .ok (.aload_n 0, 1) := by decide +kernel
theorem dX9_goesBy_63 : decode cX9_goesBy 63 = .ok (.getfield 71, 3) := by decide +kernel
theorem dX9_goesBy_66 : decode cX9_goesBy 66 = .ok (.bipush 100, 2) := by decide +kernel
theorem dX9_goesBy_68 : decode cX9_goesBy 68 = .ok (.aload_n 0, 1) := by decide +kernel
theorem dX9_goesBy_69 : decode cX9_goesBy 69 = .ok (.iload_n 1, 1) := by decide +kernel
theorem dX9_goesBy_70 : decode cX9_goesBy 70 = .ok (.invokevirtual 292, 3) := by decide +kernel
theorem dX9_goesBy_73 : decode cX9_goesBy 73 = .ok (.iadd, 1) := by decide +kernel
theorem dX9_goesBy_74 : decode cX9_goesBy 74 = .ok (.invokevirtual 342, 3) := by decide +kernel
theorem dX9_goesBy_77 : decode cX9_goesBy 77 = .ok (.aload_n 0, 1) := by decide +kernel
theorem dX9_goesBy_78 : decode cX9_goesBy 78 = .ok (.aload_n 0, 1) := by decide +kernel
theorem dX9_goesBy_79 : decode cX9_goesBy 79 = .ok (.getfield 71, 3) := by decide +kernel
theorem dX9_goesBy_82 : decode cX9_goesBy 82 = .ok (.invokevirtual 345, 3) := by decide +kernel
theorem dX9_goesBy_85 : decode cX9_goesBy 85 = .ok (.ireturn, 1) := by decide +kernel
abbrev vs_EM_goesBy : List Cond := .code yX9_goesBy cX9_goesBy 3 (some .boolean) :: VM
theorem g_EM_goesBy_EM_holdsAll_e : GoodIn vs_EM_goesBy (wsV RX9 342 RX9 yX9_holdsAll vs_EM_holdsAll_e) := gm_V vm_204 vm_205 vm_206 vm_19 vm_207
theorem g_EM_goesBy_EM_closes_z : GoodIn vs_EM_goesBy (wsV RX9 345 RX9 yX9_closes vs_EM_closes_z) := gm_V vm_208 vm_209 vm_210 vm_19 vm_211
theorem g_EM_goesBy_EM_clocks : GoodIn vs_EM_goesBy (wsV RX9 280 RX9 yX9_clocks vs_EM_clocks) := gm_V vm_140 vm_141 vm_142 vm_19 vm_143
theorem g_EM_goesBy_EM_into : GoodIn vs_EM_goesBy (wsV RX9 292 RX9 yX9_into vs_EM_into) := gm_V vm_37 vm_38 vm_39 vm_19 vm_40
theorem g_EM_goesBy_EM_holdsAll_p : GoodIn vs_EM_goesBy (wsV RX9 342 RX9 yX9_holdsAll vs_EM_holdsAll_p) := gm_V vm_204 vm_205 vm_206 vm_19 vm_207
theorem g_EM_goesBy_EM_setBy : GoodIn vs_EM_goesBy (wsV RX9 305 RX9 yX9_setBy vs_EM_setBy) := gm_V vm_171 vm_172 vm_173 vm_19 vm_174
theorem g_EM_goesBy_EM_isOf : GoodIn vs_EM_goesBy (va_wsS RX9 248 yX9_isOf vs_EM_isOf) := gm_S vm_114 vm_115 vm_19 vm_116
theorem g_EM_goesBy_EM_goesBack : GoodIn vs_EM_goesBy (wsV RX9 366 RX9 yX9_goesBack vs_EM_goesBack) := gm_V vm_215 vm_216 vm_217 vm_19 vm_218
noncomputable def sp_EM_goesBy_L1 (x16 : Nat) (x46 : Nat) (q4 : Nat → Nat) (q6 : Nat → Nat) (f8 : Nat → Int32) (q9 : Nat → Nat) (q10 : Nat → Nat) (f11 : Nat → Int32) (m12_0 : Nat) (m12_1 : Nat) (m13_0 : Nat) (m13_1 : Nat) (a0 : Nat) : ((Nat → Int32) × Nat) → ((Nat → Int32) × Nat) ⊕ (Nat × (Nat → Int32)) := fun (g_9, g_10) => (slet (sp_EM_clocks x16 m12_0 m12_1) (fun u_18 => (if u_18 ≤ g_10 then (Sum.inr (slet (sp_EM_into x16 q6 a0) (fun u_21 => (slet (sp_EM_holdsAll_p x16 q4 q9 q10 f11 m13_0 m13_1 g_9 (100 + u_21)) (fun z35_24 => (slet (sp_EM_closes_z x46 z35_24) (fun (u_27, z35_26) => (u_27, z35_26)))))))) else (slet (sp_EM_setBy x16 f8 a0) (fun r_28 => (slet (α := (Nat → Int32)) (slet (sp_EM_isOf r_28 (nI g_10)) (fun u_34 => (if u_34 = 0 then g_9 else (slet (sp_EM_goesBack x46 g_9 (1 + g_10)) (fun z35_38 => z35_38))))) (fun g_29 => (Sum.inl (g_29, (g_10 + 1))))))))))
noncomputable def sp_EM_goesBy (x16 : Nat) (x46 : Nat) (q4 : Nat → Nat) (q6 : Nat → Nat) (q7 : Nat → Nat) (f8 : Nat → Int32) (q9 : Nat → Nat) (q10 : Nat → Nat) (f11 : Nat → Int32) (m12_0 : Nat) (m12_1 : Nat) (m13_0 : Nat) (m13_1 : Nat) (m14_0 : Nat) (m14_1 : Nat) (f35 : Nat → Int32) (a0 : Nat) : Nat × (Nat → Int32) := (slet (sp_EM_holdsAll_e x16 q7 q9 q10 f11 m13_0 m13_1 m14_0 m14_1 f35 a0) (fun z35_2 => (slet (sp_EM_closes_z x46 z35_2) (fun (u_5, z35_4) => (if u_5 = 0 then (0, z35_4) else (itrv (α := (Nat → Int32) × Nat) (β := (Nat × (Nat → Int32))) default (sp_EM_goesBy_L1 x16 x46 q4 q6 f8 q9 q10 f11 m12_0 m12_1 m13_0 m13_1 a0) (z35_4, 0)))))))
set_option maxHeartbeats 4000000 in
set_option maxRecDepth 100000 in
theorem c_EM_goesBy (l : Launch) (dC : Nat → ClassId) (dI : Nat → Nat → Nat) (sz : Nat) (ad : Nat → Nat) (ck : Nat → ClassId) (x0 : Int32) (x16 : Nat) (x18 : Nat) (x19 : Nat) (x20 : Int32) (x21 : Nat) (x22 : Nat) (x23 : Int32) (x24 : Int32) (x25 : Int32) (x26 : Nat) (x27 : Int32) (x28 : Nat) (x29 : Nat) (x30 : Nat) (x33 : Nat) (x45 : Int32) (x46 : Nat) (x52 : Nat) (x53 : Nat) (x61 : Nat) (x62 : Nat) (x63 : Nat) (x65 : Nat) (x66 : Int32) (f1 : Nat → Int32) (f2 : Nat → Int32) (f3 : Nat → Int32) (q4 : Nat → Nat) (q5 : Nat → Nat) (q6 : Nat → Nat) (q7 : Nat → Nat) (f8 : Nat → Int32) (q9 : Nat → Nat) (q10 : Nat → Nat) (f11 : Nat → Int32) (m12_0 m12_1 : Nat) (m13_0 m13_1 : Nat) (m14_0 m14_1 : Nat) (m15_0 m15_1 : Nat) (f17 : Nat → Int32) (q31 : Nat → Nat) (f32 : Nat → Int32) (f34 : Nat → Int32) (f35 : Nat → Int32) (f36 : Nat → Int32) (f37 : Nat → Int32) (q38 : Nat → Nat) (f39 : Nat → Int32) (f40 : Nat → Int32) (f41 : Nat → Int32) (m42_0 m42_1 : Nat) (f43 : Nat → Int32) (f44 : Nat → Int32) (f47 : Nat → Int32) (f48 : Nat → Int32) (f49 : Nat → Int32) (f50 : Nat → Int32) (f51 : Nat → Int32) (q54 : Nat → Nat) (q55 : Nat → Nat) (q56 : Nat → Nat) (f57 : Nat → Int32) (q58 : Nat → Nat) (f59 : Nat → Int32) (f60 : Nat → Int32) (f64 : Nat → Int32) (a0 : Nat) (hx16 : x16 ≤ 1) (hx18 : x18 ≤ 900) (hx19 : x19 ≤ 900) (hx21 : x21 ≤ 900) (hx22 : x22 ≤ 4) (hx26 : x26 ≤ 6) (hx28 : x28 ≤ 1) (hx29 : x29 ≤ 1) (hx30 : x30 ≤ 1) (hx33 : x33 ≤ 20) (hx46 : x46 ≤ 5) (hx52 : x52 ≤ 2400) (hx53 : x53 ≤ 119) (hx61 : x61 ≤ 119) (hx62 : x62 ≤ 2000) (hx63 : x63 ≤ 1) (hx65 : x65 ≤ 7) (hm12_0 : m12_0 ≤ 3) (hm12_1 : m12_1 ≤ 3) (hm13_0 : m13_0 ≤ 8) (hm13_1 : m13_1 ≤ 8) (hm14_0 : m14_0 ≤ 14) (hm14_1 : m14_1 ≤ 14) (hm15_0 : m15_0 ≤ 8) (hm15_1 : m15_1 ≤ 8) (hm42_0 : m42_0 ≤ 120) (hm42_1 : m42_1 ≤ 400) (ha0 : a0 ≤ 13) : Met l yX9_goesBy vs_EM_goesBy ({ frames := 4, cells := 0, slots := 0, locals := 90 }) (va_Pc [.ref (ad 0), .int (nI a0)] (pu_B (dC, dI) (mo_w ad ck x0 (nI x16) (nI x18) (nI x19) x20 (nI x21) (nI x22) x23 x24 x25 (nI x26) x27 (nI x28) (nI x29) (nI x30) (nI x33) x45 (nI x46) (nI x52) (nI x53) (nI x61) (nI x62) (nI x63) (nI x65) x66 f1 f2 f3 (bN 3 q4) (bN 7 q5) (bN 7 q6) (bN 4 q7) f8 (bN 2 q9) (bH q10) f11 (b2 m12_0 m12_1) (b2 m13_0 m13_1) (b2 m14_0 m14_1) (b2m m15_0 m15_1) f17 (bA 159 q31) f32 f34 f35 f36 f37 (bN 7 q38) f39 f40 f41 (b2 m42_0 m42_1) f43 f44 f47 f48 f49 f50 f51 (bN 13 q54) (bN 120 q55) (bN 120 q56) f57 (bN 120 q58) f59 f60 f64) (mo_t ck) sz)) (va_Qi (fun (r : Int32) (_ : Unit) => ∃ v : Nat, v ≤ 1 ∧ r = nI v ∧ v = (sp_EM_goesBy x16 x46 q4 q6 q7 f8 q9 q10 f11 m12_0 m12_1 m13_0 m13_1 m14_0 m14_1 f35 a0).1) (fun _ t => ∃ (z35 : Nat → Int32), pu_E (dC, dI) (mo_w ad ck x0 (nI x16) (nI x18) (nI x19) x20 (nI x21) (nI x22) x23 x24 x25 (nI x26) x27 (nI x28) (nI x29) (nI x30) (nI x33) x45 (nI x46) (nI x52) (nI x53) (nI x61) (nI x62) (nI x63) (nI x65) x66 f1 f2 f3 (bN 3 q4) (bN 7 q5) (bN 7 q6) (bN 4 q7) f8 (bN 2 q9) (bH q10) f11 (b2 m12_0 m12_1) (b2 m13_0 m13_1) (b2 m14_0 m14_1) (b2m m15_0 m15_1) f17 (bA 159 q31) f32 f34 z35 f36 f37 (bN 7 q38) f39 f40 f41 (b2 m42_0 m42_1) f43 f44 f47 f48 f49 f50 f51 (bN 13 q54) (bN 120 q55) (bN 120 q56) f57 (bN 120 q58) f59 f60 f64) (mo_t ck) (va_A ((mo_w ad ck x0 (nI x16) (nI x18) (nI x19) x20 (nI x21) (nI x22) x23 x24 x25 (nI x26) x27 (nI x28) (nI x29) (nI x30) (nI x33) x45 (nI x46) (nI x52) (nI x53) (nI x61) (nI x62) (nI x63) (nI x65) x66 f1 f2 f3 (bN 3 q4) (bN 7 q5) (bN 7 q6) (bN 4 q7) f8 (bN 2 q9) (bH q10) f11 (b2 m12_0 m12_1) (b2 m13_0 m13_1) (b2 m14_0 m14_1) (b2m m15_0 m15_1) f17 (bA 159 q31) f32 f34 f35 f36 f37 (bN 7 q38) f39 f40 f41 (b2 m42_0 m42_1) f43 f44 f47 f48 f49 f50 f51 (bN 13 q54) (bN 120 q55) (bN 120 q56) f57 (bN 120 q58) f59 f60 f64)) sz) t ∧ (z35 = (sp_EM_goesBy x16 x46 q4 q6 q7 f8 q9 q10 f11 m12_0 m12_1 m13_0 m13_1 m14_0 m14_1 f35 a0).2)) (va_A ((mo_w ad ck x0 (nI x16) (nI x18) (nI x19) x20 (nI x21) (nI x22) x23 x24 x25 (nI x26) x27 (nI x28) (nI x29) (nI x30) (nI x33) x45 (nI x46) (nI x52) (nI x53) (nI x61) (nI x62) (nI x63) (nI x65) x66 f1 f2 f3 (bN 3 q4) (bN 7 q5) (bN 7 q6) (bN 4 q7) f8 (bN 2 q9) (bH q10) f11 (b2 m12_0 m12_1) (b2 m13_0 m13_1) (b2 m14_0 m14_1) (b2m m15_0 m15_1) f17 (bA 159 q31) f32 f34 f35 f36 f37 (bN 7 q38) f39 f40 f41 (b2 m42_0 m42_1) f43 f44 f47 f48 f49 f50 f51 (bN 13 q54) (bN 120 q55) (bN 120 q56) f57 (bN 120 q58) f59 f60 f64)) sz)) 0 0 (va_A ((mo_w ad ck x0 (nI x16) (nI x18) (nI x19) x20 (nI x21) (nI x22) x23 x24 x25 (nI x26) x27 (nI x28) (nI x29) (nI x30) (nI x33) x45 (nI x46) (nI x52) (nI x53) (nI x61) (nI x62) (nI x63) (nI x65) x66 f1 f2 f3 (bN 3 q4) (bN 7 q5) (bN 7 q6) (bN 4 q7) f8 (bN 2 q9) (bH q10) f11 (b2 m12_0 m12_1) (b2 m13_0 m13_1) (b2 m14_0 m14_1) (b2m m15_0 m15_1) f17 (bA 159 q31) f32 f34 f35 f36 f37 (bN 7 q38) f39 f40 f41 (b2 m42_0 m42_1) f43 f44 f47 f48 f49 f50 f51 (bN 13 q54) (bN 120 q55) (bN 120 q56) f57 (bN 120 q58) f59 f60 f64)) sz) := by
  refine Met.ofW (cc := cX9_goesBy) (maxL := 3) (ret := (some .boolean)) (by decide) rfl ?_
  intro p e s m args below meth c s₁ B hml hv
  obtain ⟨rfl, rfl, hP, hK, hD0⟩ := hv
  have hx := B.exec
  have hb := B.bytes
  have hr := B.returns
  have hts := atoms_spec (ws := vs_EM_goesBy) B.pre
  have v_1 := hts (.fieldLink RX9 71 "ClockReachModel" "z" "[I") (List.mem_cons_of_mem _ vm_219)
  have hown : s.vm.findClass RX9 = some m.cls := findClass_of_methodNamed B.named
  have hlocks := B.notSynchronized
  have hiX9 : ∀ w ∈ wsX90, w ∈ vs_EM_goesBy := fun _ h => List.mem_cons_of_mem _ (vmi_L h)
  have hD := hD0.self (sz := s.heap.size)
  generalize hAe : va_A ((mo_w ad ck x0 (nI x16) (nI x18) (nI x19) x20 (nI x21) (nI x22) x23 x24 x25 (nI x26) x27 (nI x28) (nI x29) (nI x30) (nI x33) x45 (nI x46) (nI x52) (nI x53) (nI x61) (nI x62) (nI x63) (nI x65) x66 f1 f2 f3 (bN 3 q4) (bN 7 q5) (bN 7 q6) (bN 4 q7) f8 (bN 2 q9) (bH q10) f11 (b2 m12_0 m12_1) (b2 m13_0 m13_1) (b2 m14_0 m14_1) (b2m m15_0 m15_1) f17 (bA 159 q31) f32 f34 f35 f36 f37 (bN 7 q38) f39 f40 f41 (b2 m42_0 m42_1) f43 f44 f47 f48 f49 f50 f51 (bN 13 q54) (bN 120 q55) (bN 120 q56) f57 (bN 120 q58) f59 f60 f64)) s.heap.size = A at hD ⊢
  have hA : ∀ q : Nat, s.heap.size ≤ q → A q := fun q h => by rw [← hAe]; exact Or.inr h
  have hS : va_S A s.heap s.heap [] := va_S.rf
  have hl := lv_entry ([.ref (ad 0), .int (nI a0)]) (n := 3) (Nat.le_of_ble_eq_true rfl)
  rw [lg_entry_eq]
  generalize (lg_sl ([.ref (ad 0), .int (nI a0)]) ++ List.replicate (3 - (lg_sl ([.ref (ad 0), .int (nI a0)])).length) Slot.unset).toArray = ls at hl ⊢
  have hl : lv_has ls 3 [(0, .ref (ad 0)), (1, .int (nI a0))] := hl
  obtain ⟨RR, hRR⟩ : ∃ x, x = (sp_EM_goesBy x16 x46 q4 q6 q7 f8 q9 q10 f11 m12_0 m12_1 m13_0 m13_1 m14_0 m14_1 f35 a0) := ⟨_, rfl⟩
  have hsp := hRR
  refine lv_aload_n hx hb dX9_goesBy_0 rfl (lv_at hl 0 rfl) ?_
  refine lv_aload_n hx hb dX9_goesBy_1 rfl (lv_at hl 0 rfl) ?_
  refine va_get (D := (dC, dI)) (ci := 9) (v := .ref (ad 35)) (C := RX9) (T := TX9) (N := 67) hx hb hts hiX9 hown hK hP 0 rfl rfl 35 (by decide) v_1 (fun _ h9 => h9) rfl dX9_goesBy_2 ?_
  refine lv_iload_n hx hb dX9_goesBy_5 rfl (lv_at hl 1 rfl) ?_
  have hFc := pu_free hD hS hA
  refine va_callv (va_runV (As := [.ref (ad 35), .int (nI a0)]) (rest := []) ⟨hx, hb, hml, hown, hts⟩ (c_EM_holdsAll_e l dC dI _ ad ck x0 x16 x18 x19 x20 x21 x22 x23 x24 x25 x26 x27 x28 x29 x30 x33 x45 x46 x52 x53 x61 x62 x63 x65 x66 f1 f2 f3 q4 q5 q6 q7 f8 q9 q10 f11 m12_0 m12_1 m13_0 m13_1 m14_0 m14_1 m15_0 m15_1 f17 q31 f32 f34 f35 f36 f37 q38 f39 f40 f41 m42_0 m42_1 f43 f44 f47 f48 f49 f50 f51 q54 q55 q56 f57 q58 f59 f60 f64 a0 hx16 hx18 hx19 hx21 hx22 hx26 hx28 hx29 hx30 hx33 hx46 hx52 hx53 hx61 hx62 hx63 hx65 hm12_0 hm12_1 hm13_0 hm13_1 hm14_0 hm14_1 hm15_0 hm15_1 hm42_0 hm42_1 ha0) (cwV 2 hts g_EM_goesBy_EM_holdsAll_e rfl rfl rfl (by decide +kernel) ⟨Nat.le_of_ble_eq_true rfl, Nat.le_of_ble_eq_true rfl⟩) ⟨pu_bl, va_recv hK hP (ci := 9) (q0 := 0) rfl rfl, pu_in hP hK hD⟩ rfl rfl hl.1 rfl (lv_room (Nat.le_of_ble_eq_true rfl)) dX9_goesBy_6 ⟨Nat.le_of_ble_eq_true rfl, Nat.le_of_ble_eq_true rfl⟩) hS (fun q _ h => hFc q h) hFc (fun u t H1 locs ht hvm hw hB hz1 hk1 hS => ?_)
  obtain ⟨z35_2, ⟨hP1, -, hD1⟩, xr_1_0⟩ := hB
  rw [ht] at hP1
  have hP := hP1
  have hD := pu_all hFc hD1
  clear hP1 hD1 hFc
  clear hk1 hz1 ht hvm
  generalize H1 = H at hP hS ⊢
  replace hsp := hsp.trans (slet_eq xr_1_0)
  refine lv_aload_n hx hb dX9_goesBy_9 rfl (lv_at hl 0 rfl) ?_
  refine lv_aload_n hx hb dX9_goesBy_10 rfl (lv_at hl 0 rfl) ?_
  refine va_get (D := (dC, dI)) (ci := 9) (v := .ref (ad 35)) (C := RX9) (T := TX9) (N := 67) hx hb hts hiX9 hown hK hP 0 rfl rfl 35 (by decide) v_1 (fun _ h9 => h9) rfl dX9_goesBy_11 ?_
  have hFc := pu_free hD hS hA
  refine va_calli (va_runV (As := [.ref (ad 35)]) (rest := []) ⟨hx, hb, hml, hown, hts⟩ (c_EM_closes_z l dC dI _ ad ck x0 x16 x18 x19 x20 x21 x22 x23 x24 x25 x26 x27 x28 x29 x30 x33 x45 x46 x52 x53 x61 x62 x63 x65 x66 f1 f2 f3 q4 q5 q6 q7 f8 q9 q10 f11 m12_0 m12_1 m13_0 m13_1 m14_0 m14_1 m15_0 m15_1 f17 q31 f32 f34 z35_2 f36 f37 q38 f39 f40 f41 m42_0 m42_1 f43 f44 f47 f48 f49 f50 f51 q54 q55 q56 f57 q58 f59 f60 f64 hx16 hx18 hx19 hx21 hx22 hx26 hx28 hx29 hx30 hx33 hx46 hx52 hx53 hx61 hx62 hx63 hx65 hm12_0 hm12_1 hm13_0 hm13_1 hm14_0 hm14_1 hm15_0 hm15_1 hm42_0 hm42_1) (cwV 1 hts g_EM_goesBy_EM_closes_z rfl rfl rfl (by decide +kernel) ⟨Nat.le_of_ble_eq_true rfl, Nat.le_of_ble_eq_true rfl⟩) ⟨pu_bl, va_recv hK hP (ci := 9) (q0 := 0) rfl rfl, pu_in hP hK hD⟩ rfl rfl hl.1 rfl (lv_room (Nat.le_of_ble_eq_true rfl)) dX9_goesBy_14 ⟨Nat.le_of_ble_eq_true rfl, Nat.le_of_ble_eq_true rfl⟩) hS (fun q _ h => hFc q h) hFc (fun r_3 u t H1 locs ht hvm hw hB hz1 hk1 hS => ?_)
  obtain ⟨z35_4, ⟨hP1, -, hD1⟩, xr_3_0⟩ := hB
  rw [ht] at hP1
  have hP := hP1
  have hD := pu_all hFc hD1
  clear hP1 hD1 hFc
  clear hk1 hz1 ht hvm
  generalize H1 = H at hP hS ⊢
  obtain ⟨u_5, hu_5, rfl, iu_5⟩ := hw
  have iu_5 : (u_5, z35_4) = (sp_EM_closes_z x46 z35_2) := Prod.ext iu_5 xr_3_0
  replace hsp := hsp.trans (slet_eq iu_5)
  refine lv_if_ne (tgt := 22) hx hb dX9_goesBy_17 (by decide) (fun c_6 => ?_) (fun c_6 => ?_)
  · have c_6 : ¬ u_5 = 0 := fun z => c_6 ((nI_eq (a := u_5) (b := 0) (Nat.lt_of_le_of_lt hu_5 (Nat.le_of_ble_eq_true rfl)) (Nat.le_of_ble_eq_true rfl)).mpr z)
    replace hsp := hsp.trans (if_neg c_6)
    refine lv_iconst (v := 0) hx hb dX9_goesBy_22 (by decide) ?_
    refine lv_istore_n (lv' := [(2, .int 0), (0, .ref (ad 0)), (1, .int (nI a0))]) hx hb dX9_goesBy_23 rfl hl (by decide) rfl (fun ls hl => ?_)
    obtain ⟨lf_12, dlf_12, hlf_12, hsp⟩ := itr_ex hsp
    delta sp_EM_goesBy_L1 at hlf_12
    refine pu_while (fun nn H locs ls => ∃ (g_9 : Nat → Int32) (g_10 : Nat), nn = 3 - g_10 ∧ g_10 ≤ 3 ∧ RR = itrv dlf_12 lf_12 (g_9, g_10) ∧ va_P (dC, dI) vwCl (mo_w ad ck x0 (nI x16) (nI x18) (nI x19) x20 (nI x21) (nI x22) x23 x24 x25 (nI x26) x27 (nI x28) (nI x29) (nI x30) (nI x33) x45 (nI x46) (nI x52) (nI x53) (nI x61) (nI x62) (nI x63) (nI x65) x66 f1 f2 f3 (bN 3 q4) (bN 7 q5) (bN 7 q6) (bN 4 q7) f8 (bN 2 q9) (bH q10) f11 (b2 m12_0 m12_1) (b2 m13_0 m13_1) (b2 m14_0 m14_1) (b2m m15_0 m15_1) f17 (bA 159 q31) f32 f34 g_9 f36 f37 (bN 7 q38) f39 f40 f41 (b2 m42_0 m42_1) f43 f44 f47 f48 f49 f50 f51 (bN 13 q54) (bN 120 q55) (bN 120 q56) f57 (bN 120 q58) f59 f60 f64) H ∧ va_D A (mo_w ad ck x0 (nI x16) (nI x18) (nI x19) x20 (nI x21) (nI x22) x23 x24 x25 (nI x26) x27 (nI x28) (nI x29) (nI x30) (nI x33) x45 (nI x46) (nI x52) (nI x53) (nI x61) (nI x62) (nI x63) (nI x65) x66 f1 f2 f3 (bN 3 q4) (bN 7 q5) (bN 7 q6) (bN 4 q7) f8 (bN 2 q9) (bH q10) f11 (b2 m12_0 m12_1) (b2 m13_0 m13_1) (b2 m14_0 m14_1) (b2m m15_0 m15_1) f17 (bA 159 q31) f32 f34 g_9 f36 f37 (bN 7 q38) f39 f40 f41 (b2 m42_0 m42_1) f43 f44 f47 f48 f49 f50 f51 (bN 13 q54) (bN 120 q55) (bN 120 q56) f57 (bN 120 q58) f59 f60 f64) ∧ va_S A s.heap H locs ∧ lv_has ls 3 [(0, .ref (ad 0)), (1, .int (nI a0)), (2, .int (nI g_10))]) 24 ?_ _ _ _ _ ⟨z35_4, 0, rfl, (Nat.le_of_ble_eq_true rfl), hsp, hP, hD, hS, lv_sub hl [1, 2, 0] rfl⟩
    rintro nn ih_11 H locs ls ⟨g_9, g_10, rfl, hg_10, he_14, hP, hD, hS, hl⟩
    obtain ⟨S_13, hsp, hin_15, hout_16⟩ := itr_step hlf_12 he_14
    refine lv_iload_n hx hb dX9_goesBy_24 rfl (lv_at hl 2 rfl) ?_
    refine lv_aload_n hx hb dX9_goesBy_25 rfl (lv_at hl 0 rfl) ?_
    refine va_calli (va_runV (As := []) (rest := [.int (nI g_10)]) ⟨hx, hb, hml, hown, hts⟩ (c_EM_clocks l dC dI _ ad ck x0 x16 x18 x19 x20 x21 x22 x23 x24 x25 x26 x27 x28 x29 x30 x33 x45 x46 x52 x53 x61 x62 x63 x65 x66 f1 f2 f3 q4 q5 q6 q7 f8 q9 q10 f11 m12_0 m12_1 m13_0 m13_1 m14_0 m14_1 m15_0 m15_1 f17 q31 f32 f34 g_9 f36 f37 q38 f39 f40 f41 m42_0 m42_1 f43 f44 f47 f48 f49 f50 f51 q54 q55 q56 f57 q58 f59 f60 f64 hx16 hx18 hx19 hx21 hx22 hx26 hx28 hx29 hx30 hx33 hx46 hx52 hx53 hx61 hx62 hx63 hx65 hm12_0 hm12_1 hm13_0 hm13_1 hm14_0 hm14_1 hm15_0 hm15_1 hm42_0 hm42_1) (cwV 0 hts g_EM_goesBy_EM_clocks rfl rfl rfl (by decide +kernel) ⟨Nat.le_of_ble_eq_true rfl, Nat.le_of_ble_eq_true rfl⟩) ⟨pu_bl, va_recv hK hP (ci := 9) (q0 := 0) rfl rfl, pu_in hP hK hD⟩ rfl rfl hl.1 rfl (lv_room (Nat.le_of_ble_eq_true rfl)) dX9_goesBy_26 ⟨Nat.le_of_ble_eq_true rfl, Nat.le_of_ble_eq_true rfl⟩) hS (fun q _ h => pu_fr hS hA q h) (pu_fr hS hA) (fun r_17 u t H1 locs ht hvm hw hB hz1 hk1 hS => ?_)
    have hP := pu_keep hP hk1
    clear hk1 hz1 ht hvm
    generalize H1 = H at hP hS ⊢
    obtain ⟨u_18, hu_18, rfl, iu_18⟩ := hw
    replace hsp := hsp.trans (slet_eq iu_18)
    refine lv_icmp_ge (tgt := 61) hx hb dX9_goesBy_29 (by decide) (fun c_19 => ?_) (fun c_19 => ?_)
    · have c_19 : u_18 ≤ g_10 := (nI_leI (a := u_18) (b := g_10) (Nat.lt_of_le_of_lt hu_18 (Nat.le_of_ble_eq_true rfl)) (Nat.lt_of_le_of_lt hg_10 (Nat.le_of_ble_eq_true rfl))).mp c_19
      replace hsp := hsp.trans (if_pos c_19)
      have hsp := hout_16 _ hsp
      refine lv_aload_n hx hb dX9_goesBy_61 rfl (lv_at hl 0 rfl) ?_
      refine lv_aload_n hx hb dX9_goesBy_62 rfl (lv_at hl 0 rfl) ?_
      refine va_get (D := (dC, dI)) (ci := 9) (v := .ref (ad 35)) (C := RX9) (T := TX9) (N := 67) hx hb hts hiX9 hown hK hP 0 rfl rfl 35 (by decide) v_1 (fun _ h9 => h9) rfl dX9_goesBy_63 ?_
      refine lv_bipush (v := 100) hx hb dX9_goesBy_66 (by decide) ?_
      refine lv_aload_n hx hb dX9_goesBy_68 rfl (lv_at hl 0 rfl) ?_
      refine lv_iload_n hx hb dX9_goesBy_69 rfl (lv_at hl 1 rfl) ?_
      refine va_calli (va_runV (As := [.int (nI a0)]) (rest := [.int 100, .ref (ad 35), .ref (ad 0)]) ⟨hx, hb, hml, hown, hts⟩ (c_EM_into l dC dI _ ad ck x0 x16 x18 x19 x20 x21 x22 x23 x24 x25 x26 x27 x28 x29 x30 x33 x45 x46 x52 x53 x61 x62 x63 x65 x66 f1 f2 f3 q4 q5 q6 q7 f8 q9 q10 f11 m12_0 m12_1 m13_0 m13_1 m14_0 m14_1 m15_0 m15_1 f17 q31 f32 f34 g_9 f36 f37 q38 f39 f40 f41 m42_0 m42_1 f43 f44 f47 f48 f49 f50 f51 q54 q55 q56 f57 q58 f59 f60 f64 a0 hx16 hx18 hx19 hx21 hx22 hx26 hx28 hx29 hx30 hx33 hx46 hx52 hx53 hx61 hx62 hx63 hx65 hm12_0 hm12_1 hm13_0 hm13_1 hm14_0 hm14_1 hm15_0 hm15_1 hm42_0 hm42_1 ha0) (cwV 1 hts g_EM_goesBy_EM_into rfl rfl rfl (by decide +kernel) ⟨Nat.le_of_ble_eq_true rfl, Nat.le_of_ble_eq_true rfl⟩) ⟨pu_bl, va_recv hK hP (ci := 9) (q0 := 0) rfl rfl, pu_in hP hK hD⟩ rfl rfl hl.1 rfl (lv_room (Nat.le_of_ble_eq_true rfl)) dX9_goesBy_70 ⟨Nat.le_of_ble_eq_true rfl, Nat.le_of_ble_eq_true rfl⟩) hS (fun q _ h => pu_fr hS hA q h) (pu_fr hS hA) (fun r_20 u t H1 locs ht hvm hw hB hz1 hk1 hS => ?_)
      have hP := pu_keep hP hk1
      clear hk1 hz1 ht hvm
      generalize H1 = H at hP hS ⊢
      obtain ⟨u_21, hu_21, rfl, iu_21⟩ := hw
      replace hsp := hsp.trans (slet_eq iu_21)
      refine lv_iadd hx hb dX9_goesBy_73 ?_
      refine lv_topi (fun y_22 ey_22 => ?_)
      obtain rfl : y_22 = (nI (100 + u_21)) := ey_22.trans (nI_add 100 u_21)
      have hFc := pu_free hD hS hA
      refine va_callv (va_runV (As := [.ref (ad 35), .int (nI (100 + u_21))]) (rest := []) ⟨hx, hb, hml, hown, hts⟩ (c_EM_holdsAll_p l dC dI _ ad ck x0 x16 x18 x19 x20 x21 x22 x23 x24 x25 x26 x27 x28 x29 x30 x33 x45 x46 x52 x53 x61 x62 x63 x65 x66 f1 f2 f3 q4 q5 q6 q7 f8 q9 q10 f11 m12_0 m12_1 m13_0 m13_1 m14_0 m14_1 m15_0 m15_1 f17 q31 f32 f34 g_9 f36 f37 q38 f39 f40 f41 m42_0 m42_1 f43 f44 f47 f48 f49 f50 f51 q54 q55 q56 f57 q58 f59 f60 f64 (100 + u_21) hx16 hx18 hx19 hx21 hx22 hx26 hx28 hx29 hx30 hx33 hx46 hx52 hx53 hx61 hx62 hx63 hx65 hm12_0 hm12_1 hm13_0 hm13_1 hm14_0 hm14_1 hm15_0 hm15_1 hm42_0 hm42_1 (by omega) (by omega)) (cwV 2 hts g_EM_goesBy_EM_holdsAll_p rfl rfl rfl (by decide +kernel) ⟨Nat.le_of_ble_eq_true rfl, Nat.le_of_ble_eq_true rfl⟩) ⟨pu_bl, va_recv hK hP (ci := 9) (q0 := 0) rfl rfl, pu_in hP hK hD⟩ rfl rfl hl.1 rfl (lv_room (Nat.le_of_ble_eq_true rfl)) dX9_goesBy_74 ⟨Nat.le_of_ble_eq_true rfl, Nat.le_of_ble_eq_true rfl⟩) hS (fun q _ h => hFc q h) hFc (fun u t H1 locs ht hvm hw hB hz1 hk1 hS => ?_)
      obtain ⟨z35_24, ⟨hP1, -, hD1⟩, xr_23_0⟩ := hB
      rw [ht] at hP1
      have hP := hP1
      have hD := pu_all hFc hD1
      clear hP1 hD1 hFc
      clear hk1 hz1 ht hvm
      generalize H1 = H at hP hS ⊢
      replace hsp := hsp.trans (slet_eq xr_23_0)
      refine lv_aload_n hx hb dX9_goesBy_77 rfl (lv_at hl 0 rfl) ?_
      refine lv_aload_n hx hb dX9_goesBy_78 rfl (lv_at hl 0 rfl) ?_
      refine va_get (D := (dC, dI)) (ci := 9) (v := .ref (ad 35)) (C := RX9) (T := TX9) (N := 67) hx hb hts hiX9 hown hK hP 0 rfl rfl 35 (by decide) v_1 (fun _ h9 => h9) rfl dX9_goesBy_79 ?_
      have hFc := pu_free hD hS hA
      refine va_calli (va_runV (As := [.ref (ad 35)]) (rest := []) ⟨hx, hb, hml, hown, hts⟩ (c_EM_closes_z l dC dI _ ad ck x0 x16 x18 x19 x20 x21 x22 x23 x24 x25 x26 x27 x28 x29 x30 x33 x45 x46 x52 x53 x61 x62 x63 x65 x66 f1 f2 f3 q4 q5 q6 q7 f8 q9 q10 f11 m12_0 m12_1 m13_0 m13_1 m14_0 m14_1 m15_0 m15_1 f17 q31 f32 f34 z35_24 f36 f37 q38 f39 f40 f41 m42_0 m42_1 f43 f44 f47 f48 f49 f50 f51 q54 q55 q56 f57 q58 f59 f60 f64 hx16 hx18 hx19 hx21 hx22 hx26 hx28 hx29 hx30 hx33 hx46 hx52 hx53 hx61 hx62 hx63 hx65 hm12_0 hm12_1 hm13_0 hm13_1 hm14_0 hm14_1 hm15_0 hm15_1 hm42_0 hm42_1) (cwV 1 hts g_EM_goesBy_EM_closes_z rfl rfl rfl (by decide +kernel) ⟨Nat.le_of_ble_eq_true rfl, Nat.le_of_ble_eq_true rfl⟩) ⟨pu_bl, va_recv hK hP (ci := 9) (q0 := 0) rfl rfl, pu_in hP hK hD⟩ rfl rfl hl.1 rfl (lv_room (Nat.le_of_ble_eq_true rfl)) dX9_goesBy_82 ⟨Nat.le_of_ble_eq_true rfl, Nat.le_of_ble_eq_true rfl⟩) hS (fun q _ h => hFc q h) hFc (fun r_25 u t H1 locs ht hvm hw hB hz1 hk1 hS => ?_)
      obtain ⟨z35_26, ⟨hP1, -, hD1⟩, xr_25_0⟩ := hB
      rw [ht] at hP1
      have hP := hP1
      have hD := pu_all hFc hD1
      clear hP1 hD1 hFc
      clear hk1 hz1 ht hvm
      generalize H1 = H at hP hS ⊢
      obtain ⟨u_27, hu_27, rfl, iu_27⟩ := hw
      have iu_27 : (u_27, z35_26) = (sp_EM_closes_z x46 z35_24) := Prod.ext iu_27 xr_25_0
      replace hsp := hsp.trans (slet_eq iu_27)
      exact W.zret (v := (nI u_27)) (ty := .boolean) hx hb hr (pu_nz (pu_b1 (n := u_27) (by omega))) (fun t ht hW => ⟨⟨(nI u_27), (), rfl, ⟨u_27, hu_27, rfl, (congrArg Prod.fst (hsp.symm.trans hRR))⟩, ⟨z35_26, ⟨by rw [ht]; exact hP, va_K.moved hW.alike hK, hD⟩, (congrArg Prod.snd (hsp.symm.trans hRR))⟩⟩, hS.F ht⟩) hS.2.2 dX9_goesBy_85
    · have c_19 : ¬ u_18 ≤ g_10 := fun z => c_19 ((nI_leI (a := u_18) (b := g_10) (Nat.lt_of_le_of_lt hu_18 (Nat.le_of_ble_eq_true rfl)) (Nat.lt_of_le_of_lt hg_10 (Nat.le_of_ble_eq_true rfl))).mpr z)
      replace hsp := hsp.trans (if_neg c_19)
      refine lv_aload_n hx hb dX9_goesBy_32 rfl (lv_at hl 0 rfl) ?_
      refine lv_iload_n hx hb dX9_goesBy_33 rfl (lv_at hl 1 rfl) ?_
      refine va_calli (va_runV (As := [.int (nI a0)]) (rest := []) ⟨hx, hb, hml, hown, hts⟩ (c_EM_setBy l dC dI _ ad ck x0 x16 x18 x19 x20 x21 x22 x23 x24 x25 x26 x27 x28 x29 x30 x33 x45 x46 x52 x53 x61 x62 x63 x65 x66 f1 f2 f3 q4 q5 q6 q7 f8 q9 q10 f11 m12_0 m12_1 m13_0 m13_1 m14_0 m14_1 m15_0 m15_1 f17 q31 f32 f34 g_9 f36 f37 q38 f39 f40 f41 m42_0 m42_1 f43 f44 f47 f48 f49 f50 f51 q54 q55 q56 f57 q58 f59 f60 f64 a0 hx16 hx18 hx19 hx21 hx22 hx26 hx28 hx29 hx30 hx33 hx46 hx52 hx53 hx61 hx62 hx63 hx65 hm12_0 hm12_1 hm13_0 hm13_1 hm14_0 hm14_1 hm15_0 hm15_1 hm42_0 hm42_1 ha0) (cwV 1 hts g_EM_goesBy_EM_setBy rfl rfl rfl (by decide +kernel) ⟨Nat.le_of_ble_eq_true rfl, Nat.le_of_ble_eq_true rfl⟩) ⟨pu_bl, va_recv hK hP (ci := 9) (q0 := 0) rfl rfl, pu_in hP hK hD⟩ rfl rfl hl.1 rfl (lv_room (Nat.le_of_ble_eq_true rfl)) dX9_goesBy_34 ⟨Nat.le_of_ble_eq_true rfl, Nat.le_of_ble_eq_true rfl⟩) hS (fun q _ h => pu_fr hS hA q h) (pu_fr hS hA) (fun r_28 u t H1 locs ht hvm hw hB hz1 hk1 hS => ?_)
      have hP := pu_keep hP hk1
      clear hk1 hz1 ht hvm
      generalize H1 = H at hP hS ⊢
      have ir_28 := hw
      replace hsp := hsp.trans (slet_eq ir_28)
      refine lv_iload_n hx hb dX9_goesBy_37 rfl (lv_at hl 2 rfl) ?_
      obtain ⟨JR_31, hJR_31, hsp⟩ := slet_ex hsp
      refine pu_join (fun H locs ls st => ∃ (g_29 : Nat → Int32), st = [] ∧ g_29 = JR_31 ∧ va_P (dC, dI) vwCl (mo_w ad ck x0 (nI x16) (nI x18) (nI x19) x20 (nI x21) (nI x22) x23 x24 x25 (nI x26) x27 (nI x28) (nI x29) (nI x30) (nI x33) x45 (nI x46) (nI x52) (nI x53) (nI x61) (nI x62) (nI x63) (nI x65) x66 f1 f2 f3 (bN 3 q4) (bN 7 q5) (bN 7 q6) (bN 4 q7) f8 (bN 2 q9) (bH q10) f11 (b2 m12_0 m12_1) (b2 m13_0 m13_1) (b2 m14_0 m14_1) (b2m m15_0 m15_1) f17 (bA 159 q31) f32 f34 g_29 f36 f37 (bN 7 q38) f39 f40 f41 (b2 m42_0 m42_1) f43 f44 f47 f48 f49 f50 f51 (bN 13 q54) (bN 120 q55) (bN 120 q56) f57 (bN 120 q58) f59 f60 f64) H ∧ va_D A (mo_w ad ck x0 (nI x16) (nI x18) (nI x19) x20 (nI x21) (nI x22) x23 x24 x25 (nI x26) x27 (nI x28) (nI x29) (nI x30) (nI x33) x45 (nI x46) (nI x52) (nI x53) (nI x61) (nI x62) (nI x63) (nI x65) x66 f1 f2 f3 (bN 3 q4) (bN 7 q5) (bN 7 q6) (bN 4 q7) f8 (bN 2 q9) (bH q10) f11 (b2 m12_0 m12_1) (b2 m13_0 m13_1) (b2 m14_0 m14_1) (b2m m15_0 m15_1) f17 (bA 159 q31) f32 f34 g_29 f36 f37 (bN 7 q38) f39 f40 f41 (b2 m42_0 m42_1) f43 f44 f47 f48 f49 f50 f51 (bN 13 q54) (bN 120 q55) (bN 120 q56) f57 (bN 120 q58) f59 f60 f64) ∧ va_S A s.heap H locs ∧ lv_has ls 3 [(0, .ref (ad 0)), (1, .int (nI a0)), (2, .int (nI g_10))]) 55 ?_ (fun j_30 => ?_)
      · rintro H locs ls st ⟨g_29, rfl, he_32, hP, hD, hS, hl⟩
        rw [← he_32] at hsp
        refine lv_iinc (v := (nI (g_10 + 1))) (lv' := [(2, .int (nI (g_10 + 1))), (0, .ref (ad 0)), (1, .int (nI a0))]) hx hb dX9_goesBy_55 hl (k := 2) rfl (nI_1 _) (by decide) rfl (fun ls hl => ?_)
        refine lv_goto (tgt := 24) hx hb dX9_goesBy_58 (by decide) ?_
        exact ih_11 (3 - (g_10 + 1)) (by omega) _ _ _ ⟨g_29, (g_10 + 1), rfl, (by omega), hin_15 _ hsp, hP, hD, hS, lv_sub hl [1, 2, 0] rfl⟩
      have hsp := hJR_31
      refine va_calli (va_runS (As := [.int r_28, .int (nI g_10)]) (rest := []) ⟨hx, hb, hml, hown, hts⟩ (c_EM_isOf l dC dI _ ad ck x0 x16 x18 x19 x20 x21 x22 x23 x24 x25 x26 x27 x28 x29 x30 x33 x45 x46 x52 x53 x61 x62 x63 x65 x66 f1 f2 f3 q4 q5 q6 q7 f8 q9 q10 f11 m12_0 m12_1 m13_0 m13_1 m14_0 m14_1 m15_0 m15_1 f17 q31 f32 f34 g_9 f36 f37 q38 f39 f40 f41 m42_0 m42_1 f43 f44 f47 f48 f49 f50 f51 q54 q55 q56 f57 q58 f59 f60 f64 r_28 (nI g_10) hx16 hx18 hx19 hx21 hx22 hx26 hx28 hx29 hx30 hx33 hx46 hx52 hx53 hx61 hx62 hx63 hx65 hm12_0 hm12_1 hm13_0 hm13_1 hm14_0 hm14_1 hm15_0 hm15_1 hm42_0 hm42_1) (va_cwS 2 hts g_EM_goesBy_EM_isOf rfl rfl rfl (by decide +kernel) ⟨Nat.le_of_ble_eq_true rfl, Nat.le_of_ble_eq_true rfl⟩) ⟨pu_bl, pu_in hP hK hD⟩ rfl rfl hl.1 rfl (lv_room (Nat.le_of_ble_eq_true rfl)) dX9_goesBy_38 ⟨Nat.le_of_ble_eq_true rfl, Nat.le_of_ble_eq_true rfl⟩) hS (fun q _ h => pu_fr hS hA q h) (pu_fr hS hA) (fun r_33 u t H1 locs ht hvm hw hB hz1 hk1 hS => ?_)
      have hP := pu_keep hP hk1
      clear hk1 hz1 ht hvm
      generalize H1 = H at hP hS ⊢
      obtain ⟨u_34, hu_34, rfl, iu_34⟩ := hw
      replace hsp := hsp.trans (slet_eq iu_34)
      refine lv_if_eq (tgt := 55) hx hb dX9_goesBy_41 (by decide) (fun c_35 => ?_) (fun c_35 => ?_)
      · have c_35 : u_34 = 0 := (nI_eq (a := u_34) (b := 0) (Nat.lt_of_le_of_lt hu_34 (Nat.le_of_ble_eq_true rfl)) (Nat.le_of_ble_eq_true rfl)).mp c_35
        replace hsp := hsp.trans (if_pos c_35)
        exact j_30 _ _ _ _ ⟨g_9, rfl, hsp.symm, hP, hD, hS, lv_sub hl [0, 1, 2] rfl⟩
      · have c_35 : ¬ u_34 = 0 := fun z => c_35 ((nI_eq (a := u_34) (b := 0) (Nat.lt_of_le_of_lt hu_34 (Nat.le_of_ble_eq_true rfl)) (Nat.le_of_ble_eq_true rfl)).mpr z)
        replace hsp := hsp.trans (if_neg c_35)
        refine lv_aload_n hx hb dX9_goesBy_44 rfl (lv_at hl 0 rfl) ?_
        refine lv_aload_n hx hb dX9_goesBy_45 rfl (lv_at hl 0 rfl) ?_
        refine va_get (D := (dC, dI)) (ci := 9) (v := .ref (ad 35)) (C := RX9) (T := TX9) (N := 67) hx hb hts hiX9 hown hK hP 0 rfl rfl 35 (by decide) v_1 (fun _ h9 => h9) rfl dX9_goesBy_46 ?_
        refine lv_iconst (v := 1) hx hb dX9_goesBy_49 (by decide) ?_
        refine lv_iload_n hx hb dX9_goesBy_50 rfl (lv_at hl 2 rfl) ?_
        refine lv_iadd hx hb dX9_goesBy_51 ?_
        refine lv_topi (fun y_36 ey_36 => ?_)
        obtain rfl : y_36 = (nI (1 + g_10)) := ey_36.trans (nI_add 1 g_10)
        have hFc := pu_free hD hS hA
        refine va_callv (va_runV (As := [.ref (ad 35), .int (nI (1 + g_10))]) (rest := []) ⟨hx, hb, hml, hown, hts⟩ (c_EM_goesBack l dC dI _ ad ck x0 x16 x18 x19 x20 x21 x22 x23 x24 x25 x26 x27 x28 x29 x30 x33 x45 x46 x52 x53 x61 x62 x63 x65 x66 f1 f2 f3 q4 q5 q6 q7 f8 q9 q10 f11 m12_0 m12_1 m13_0 m13_1 m14_0 m14_1 m15_0 m15_1 f17 q31 f32 f34 g_9 f36 f37 q38 f39 f40 f41 m42_0 m42_1 f43 f44 f47 f48 f49 f50 f51 q54 q55 q56 f57 q58 f59 f60 f64 (1 + g_10) hx16 hx18 hx19 hx21 hx22 hx26 hx28 hx29 hx30 hx33 hx46 hx52 hx53 hx61 hx62 hx63 hx65 hm12_0 hm12_1 hm13_0 hm13_1 hm14_0 hm14_1 hm15_0 hm15_1 hm42_0 hm42_1 (by omega)) (cwV 2 hts g_EM_goesBy_EM_goesBack rfl rfl rfl (by decide +kernel) ⟨Nat.le_of_ble_eq_true rfl, Nat.le_of_ble_eq_true rfl⟩) ⟨pu_bl, va_recv hK hP (ci := 9) (q0 := 0) rfl rfl, pu_in hP hK hD⟩ rfl rfl hl.1 rfl (lv_room (Nat.le_of_ble_eq_true rfl)) dX9_goesBy_52 ⟨Nat.le_of_ble_eq_true rfl, Nat.le_of_ble_eq_true rfl⟩) hS (fun q _ h => hFc q h) hFc (fun u t H1 locs ht hvm hw hB hz1 hk1 hS => ?_)
        obtain ⟨z35_38, ⟨hP1, -, hD1⟩, xr_37_0⟩ := hB
        rw [ht] at hP1
        have hP := hP1
        have hD := pu_all hFc hD1
        clear hP1 hD1 hFc
        clear hk1 hz1 ht hvm
        generalize H1 = H at hP hS ⊢
        replace hsp := hsp.trans (slet_eq xr_37_0)
        exact j_30 _ _ _ _ ⟨z35_38, rfl, hsp.symm, hP, hD, hS, lv_sub hl [0, 1, 2] rfl⟩
  · have c_6 : u_5 = 0 := (nI_eq (a := u_5) (b := 0) (Nat.lt_of_le_of_lt hu_5 (Nat.le_of_ble_eq_true rfl)) (Nat.le_of_ble_eq_true rfl)).mp c_6
    replace hsp := hsp.trans (if_pos c_6)
    refine lv_iconst (v := 0) hx hb dX9_goesBy_20 (by decide) ?_
    exact W.zret (v := 0) (ty := .boolean) hx hb hr (rfl) (fun t ht hW => ⟨⟨0, (), rfl, ⟨0, (Nat.le_of_ble_eq_true rfl), rfl, (congrArg Prod.fst (hsp.symm.trans hRR))⟩, ⟨z35_4, ⟨by rw [ht]; exact hP, va_K.moved hW.alike hK, hD⟩, (congrArg Prod.snd (hsp.symm.trans hRR))⟩⟩, hS.F ht⟩) hS.2.2 dX9_goesBy_21
