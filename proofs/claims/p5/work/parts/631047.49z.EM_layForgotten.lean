theorem dX9_layForgotten_0 : decode cX9_layForgotten 0 = .ok (.iconst 0, 1) := by decide +kernel
theorem dX9_layForgotten_1 : decode cX9_layForgotten 1 = .ok (.istore_n 2, 1) := by decide +kernel
theorem dX9_layForgotten_2 : decode cX9_layForgotten 2 = .ok (.iload_n 2, 1) := by decide +kernel
theorem dX9_layForgotten_3 : decode cX9_layForgotten 3 = .ok (.iconst 5, 1) := by decide +kernel
theorem dX9_layForgotten_4 : decode cX9_layForgotten 4 = .ok (.if_icmp .ge 102, 3) := by decide +kernel
theorem dX9_layForgotten_7 : decode cX9_layForgotten 7 = .ok (.iload_n 2, 1) := by decide +kernel
theorem dX9_layForgotten_8 : decode cX9_layForgotten 8 = .ok (.ifCond .le 15, 3) := by decide +kernel
theorem dX9_layForgotten_11 : decode cX9_layForgotten 11 = .ok (.iload_n 2, 1) := by decide +kernel
theorem dX9_layForgotten_12 : decode cX9_layForgotten 12 = .ok (.aload_n 0, 1) := by decide +kernel
theorem dX9_layForgotten_13 : decode cX9_layForgotten 13 = .ok (.invokevirtual 280, 3) := by decide +kernel
theorem dX9_layForgotten_16 : decode cX9_layForgotten 16 = .ok (.if_icmp .gt 7, 3) := by decide +kernel
theorem dX9_layForgotten_19 : decode cX9_layForgotten 19 = .ok (.iconst 1, 1) := by decide +kernel
theorem dX9_layForgotten_20 : decode cX9_layForgotten 20 = .ok (.goto 4, 3) := by decide +kernel
theorem dX9_layForgotten_23 : decode cX9_layForgotten 23 = .ok (.iconst 0, 1) := by decide +kernel
theorem dX9_layForgotten_24 : decode cX9_layForgotten 24 = .ok (.istore_n 3, 1) := by decide +kernel
theorem dX9_layForgotten_25 : decode cX9_layForgotten 25 = .ok (.aload_n 0, 1) := by decide +kernel
theorem dX9_layForgotten_26 : decode cX9_layForgotten 26 = .ok (.getfield 102, 3) := by decide +kernel
theorem dX9_layForgotten_29 : decode cX9_layForgotten 29 = .ok (.iload_n 2, 1) := by decide +kernel
theorem dX9_layForgotten_30 : decode cX9_layForgotten 30 = .ok (.iload_n 3, 1) := by decide +kernel
theorem dX9_layForgotten_31 : decode cX9_layForgotten 31 = .ok (.ifCond .eq 23, 3) := by decide +kernel
theorem dX9_layForgotten_34 : decode cX9_layForgotten 34 = .ok (.aload_n 0, 1) := by decide +kernel
theorem dX9_layForgotten_35 : decode cX9_layForgotten 35 = .ok (.iload_n 2, 1) := by decide +kernel
theorem dX9_layForgotten_36 : decode cX9_layForgotten 36 = .ok (.iconst 1, 1) := by decide +kernel
theorem dX9_layForgotten_37 : decode cX9_layForgotten 37 = .ok (.isub, 1) := by decide +kernel
theorem dX9_layForgotten_38 : decode cX9_layForgotten 38 = .ok (.iload_n 1, 1) := by decide +kernel
theorem dX9_layForgotten_39 : decode cX9_layForgotten 39 = .ok (.iconst 1, 1) := by decide +kernel
theorem dX9_layForgotten_40 : decode cX9_layForgotten 40 = .ok (.if_icmp .ne 7, 3) := by decide +kernel
theorem dX9_layForgotten_43 : decode cX9_layForgotten 43 = .ok (.iconst 0, 1) := by decide +kernel
theorem dX9_layForgotten_44 : decode cX9_layForgotten 44 = .ok (.goto 4, 3) := by decide +kernel
theorem dX9_layForgotten_47 : decode cX9_layForgotten 47 = .ok (.iconst 1, 1) := by decide +kernel
theorem dX9_layForgotten_48 : decode cX9_layForgotten 48 = .ok (.invokevirtual 317, 3) := by decide +kernel
theorem dX9_layForgotten_51 : decode cX9_layForgotten 51 = .ok (.goto 4, 3) := by decide +kernel
theorem dX9_layForgotten_54 : decode cX9_layForgotten 54 = .ok (.iconst 0, 1) := by decide +kernel
theorem dX9_layForgotten_55 : decode cX9_layForgotten 55 = .ok (.iastore, 1) := by decide +kernel
theorem dX9_layForgotten_56 : decode cX9_layForgotten 56 = .ok (.aload_n 0, 1) := by decide +kernel
theorem dX9_layForgotten_57 : decode cX9_layForgotten 57 = .ok (.getfield 105, 3) := by decide +kernel
theorem dX9_layForgotten_60 : decode cX9_layForgotten 60 = .ok (.iload_n 2, 1) := by decide +kernel
theorem dX9_layForgotten_61 : decode cX9_layForgotten 61 = .ok (.iload_n 3, 1) := by decide +kernel
theorem dX9_layForgotten_62 : decode cX9_layForgotten 62 = .ok (.ifCond .eq 23, 3) := by decide +kernel
theorem dX9_layForgotten_65 : decode cX9_layForgotten 65 = .ok (.aload_n 0, 1) := by decide +kernel
theorem dX9_layForgotten_66 : decode cX9_layForgotten 66 = .ok (.iload_n 2, 1) := by decide +kernel
theorem dX9_layForgotten_67 : decode cX9_layForgotten 67 = .ok (.iconst 1, 1) := by decide +kernel
theorem dX9_layForgotten_68 : decode cX9_layForgotten 68 = .ok (.isub, 1) := by decide +kernel
theorem dX9_layForgotten_69 : decode cX9_layForgotten 69 = .ok (.iload_n 1, 1) := by decide +kernel
theorem dX9_layForgotten_70 : decode cX9_layForgotten 70 = .ok (.iconst 1, 1) := by decide +kernel
theorem dX9_layForgotten_71 : decode cX9_layForgotten 71 = .ok (.if_icmp .ne 7, 3) := by decide +kernel
theorem dX9_layForgotten_74 : decode cX9_layForgotten 74 = .ok (.iconst 0, 1) := by decide +kernel
theorem dX9_layForgotten_75 : decode cX9_layForgotten 75 = .ok (.goto 4, 3) := by decide +kernel
theorem dX9_layForgotten_78 : decode cX9_layForgotten 78 = .ok (.iconst 2, 1) := by decide +kernel
theorem dX9_layForgotten_79 : decode cX9_layForgotten 79 = .ok (.invokevirtual 317, 3) := by decide +kernel
theorem dX9_layForgotten_82 : decode cX9_layForgotten 82 = .ok (.goto 17, 3) := by decide +kernel
theorem dX9_layForgotten_85 : decode cX9_layForgotten 85 = .ok (.iload_n 2, 1) := by decide +kernel
theorem dX9_layForgotten_86 : decode cX9_layForgotten 86 = .ok (.aload_n 0, 1) := by decide +kernel
theorem dX9_layForgotten_87 : decode cX9_layForgotten 87 = .ok (.invokevirtual 280, 3) := by decide +kernel
theorem dX9_layForgotten_90 : decode cX9_layForgotten 90 = .ok (.if_icmp .le 8, 3) := by decide +kernel
theorem dX9_layForgotten_93 : decode cX9_layForgotten 93 = .ok (.bipush 60, 2) := by decide +kernel
theorem dX9_layForgotten_95 : decode cX9_layForgotten 95 = .ok (.goto 4, 3) := by decide +kernel
theorem dX9_layForgotten_98 : decode cX9_layForgotten 98 = .ok (.iconst 0, 1) := by decide +kernel
theorem dX9_layForgotten_99 : decode cX9_layForgotten 99 = .ok (.iastore, 1) := by decide +kernel
theorem dX9_layForgotten_100 : decode cX9_layForgotten 100 = .ok (.iinc 2 1, 3) := by decide +kernel
theorem dX9_layForgotten_103 : decode cX9_layForgotten 103 = .ok (.goto (-101), 3) := by decide +kernel
theorem dX9_layForgotten_106 : decode cX9_layForgotten 106 = .ok (.return_, 1) := by decide +kernel
abbrev vs_EM_layForgotten : List Cond := .code yX9_layForgotten cX9_layForgotten 4 none :: VM
theorem g_EM_layForgotten_EM_clocks : GoodIn vs_EM_layForgotten (wsV RX9 280 RX9 yX9_clocks vs_EM_clocks) := gm_V vm_140 vm_141 vm_142 vm_19 vm_143
theorem g_EM_layForgotten_EM_most : GoodIn vs_EM_layForgotten (wsV RX9 317 RX9 yX9_most vs_EM_most) := gm_V vm_179 vm_180 vm_181 vm_19 vm_182
noncomputable def sp_EM_layForgotten_L1 (x16 : Nat) (q4 : Nat → Nat) (q7 : Nat → Nat) (q9 : Nat → Nat) (q10 : Nat → Nat) (f11 : Nat → Int32) (m12_0 : Nat) (m12_1 : Nat) (m13_0 : Nat) (m13_1 : Nat) (m14_0 : Nat) (m14_1 : Nat) (p0 : Int32) : ((Nat → Int32) × (Nat → Int32) × Nat) → ((Nat → Int32) × (Nat → Int32) × Nat) ⊕ ((Nat → Int32) × (Nat → Int32)) := fun (g_4, g_5, g_6) => (if 5 ≤ g_6 then (Sum.inr (g_4, g_5)) else (slet (α := Nat) (if g_6 ≤ 0 then 0 else (slet (sp_EM_clocks x16 m12_0 m12_1) (fun u_47 => (if u_47 < g_6 then 0 else 1)))) (fun g_14 => (slet (α := Int32) (if g_14 = 0 then 0 else (slet (α := Nat) (if (p0 : Int32) = 1 then 0 else 1) (fun g_39 => (slet (sp_EM_most x16 q4 q7 q9 q10 f11 m13_0 m13_1 m14_0 m14_1 ((nI g_6) - 1) (nI g_39)) (fun r_43 => r_43))))) (fun g_18 => (slet (upd g_4 g_6 g_18) (fun f_22 => (slet (α := Int32) (if g_14 = 0 then (slet (sp_EM_clocks x16 m12_0 m12_1) (fun u_30 => (if g_6 ≤ u_30 then 0 else 60))) else (slet (α := Nat) (if (p0 : Int32) = 1 then 0 else 2) (fun g_32 => (slet (sp_EM_most x16 q4 q7 q9 q10 f11 m13_0 m13_1 m14_0 m14_1 ((nI g_6) - 1) (nI g_32)) (fun r_36 => r_36))))) (fun g_23 => (slet (upd g_5 g_6 g_23) (fun f_27 => (Sum.inl (f_22, f_27, (g_6 + 1))))))))))))))
noncomputable def sp_EM_layForgotten (x16 : Nat) (q4 : Nat → Nat) (q7 : Nat → Nat) (q9 : Nat → Nat) (q10 : Nat → Nat) (f11 : Nat → Int32) (m12_0 : Nat) (m12_1 : Nat) (m13_0 : Nat) (m13_1 : Nat) (m14_0 : Nat) (m14_1 : Nat) (f47 : Nat → Int32) (f48 : Nat → Int32) (p0 : Int32) : (Nat → Int32) × (Nat → Int32) := (itrv (α := (Nat → Int32) × (Nat → Int32) × Nat) (β := ((Nat → Int32) × (Nat → Int32))) default (sp_EM_layForgotten_L1 x16 q4 q7 q9 q10 f11 m12_0 m12_1 m13_0 m13_1 m14_0 m14_1 p0) (f47, f48, 0))
set_option maxHeartbeats 4000000 in
set_option maxRecDepth 100000 in
theorem c_EM_layForgotten (l : Launch) (dC : Nat → ClassId) (dI : Nat → Nat → Nat) (sz : Nat) (ad : Nat → Nat) (ck : Nat → ClassId) (x0 : Int32) (x16 : Nat) (x18 : Nat) (x19 : Nat) (x20 : Int32) (x21 : Nat) (x22 : Nat) (x23 : Int32) (x24 : Int32) (x25 : Int32) (x26 : Nat) (x27 : Int32) (x28 : Nat) (x29 : Nat) (x30 : Nat) (x33 : Nat) (x45 : Int32) (x46 : Nat) (x52 : Nat) (x53 : Nat) (x61 : Nat) (x62 : Nat) (x63 : Nat) (x65 : Nat) (x66 : Int32) (f1 : Nat → Int32) (f2 : Nat → Int32) (f3 : Nat → Int32) (q4 : Nat → Nat) (q5 : Nat → Nat) (q6 : Nat → Nat) (q7 : Nat → Nat) (f8 : Nat → Int32) (q9 : Nat → Nat) (q10 : Nat → Nat) (f11 : Nat → Int32) (m12_0 m12_1 : Nat) (m13_0 m13_1 : Nat) (m14_0 m14_1 : Nat) (m15_0 m15_1 : Nat) (f17 : Nat → Int32) (q31 : Nat → Nat) (f32 : Nat → Int32) (f34 : Nat → Int32) (f35 : Nat → Int32) (f36 : Nat → Int32) (f37 : Nat → Int32) (q38 : Nat → Nat) (f39 : Nat → Int32) (f40 : Nat → Int32) (f41 : Nat → Int32) (m42_0 m42_1 : Nat) (f43 : Nat → Int32) (f44 : Nat → Int32) (f47 : Nat → Int32) (f48 : Nat → Int32) (f49 : Nat → Int32) (f50 : Nat → Int32) (f51 : Nat → Int32) (q54 : Nat → Nat) (q55 : Nat → Nat) (q56 : Nat → Nat) (f57 : Nat → Int32) (q58 : Nat → Nat) (f59 : Nat → Int32) (f60 : Nat → Int32) (f64 : Nat → Int32) (p0 : Int32) (hx16 : x16 ≤ 1) (hx18 : x18 ≤ 900) (hx19 : x19 ≤ 900) (hx21 : x21 ≤ 900) (hx22 : x22 ≤ 4) (hx26 : x26 ≤ 6) (hx28 : x28 ≤ 1) (hx29 : x29 ≤ 1) (hx30 : x30 ≤ 1) (hx33 : x33 ≤ 20) (hx46 : x46 ≤ 5) (hx52 : x52 ≤ 2400) (hx53 : x53 ≤ 119) (hx61 : x61 ≤ 119) (hx62 : x62 ≤ 2000) (hx63 : x63 ≤ 1) (hx65 : x65 ≤ 7) (hm12_0 : m12_0 ≤ 3) (hm12_1 : m12_1 ≤ 3) (hm13_0 : m13_0 ≤ 8) (hm13_1 : m13_1 ≤ 8) (hm14_0 : m14_0 ≤ 14) (hm14_1 : m14_1 ≤ 14) (hm15_0 : m15_0 ≤ 8) (hm15_1 : m15_1 ≤ 8) (hm42_0 : m42_0 ≤ 120) (hm42_1 : m42_1 ≤ 400) : Met l yX9_layForgotten vs_EM_layForgotten ({ frames := 4, cells := 0, slots := 0, locals := 91 }) (va_Pc [.ref (ad 0), .int p0] (pu_B (dC, dI) (mo_w ad ck x0 (nI x16) (nI x18) (nI x19) x20 (nI x21) (nI x22) x23 x24 x25 (nI x26) x27 (nI x28) (nI x29) (nI x30) (nI x33) x45 (nI x46) (nI x52) (nI x53) (nI x61) (nI x62) (nI x63) (nI x65) x66 f1 f2 f3 (bN 3 q4) (bN 7 q5) (bN 7 q6) (bN 4 q7) f8 (bN 2 q9) (bH q10) f11 (b2 m12_0 m12_1) (b2 m13_0 m13_1) (b2 m14_0 m14_1) (b2m m15_0 m15_1) f17 (bA 159 q31) f32 f34 f35 f36 f37 (bN 7 q38) f39 f40 f41 (b2 m42_0 m42_1) f43 f44 f47 f48 f49 f50 f51 (bN 13 q54) (bN 120 q55) (bN 120 q56) f57 (bN 120 q58) f59 f60 f64) (mo_t ck) sz)) (va_Qv (fun (_ : Unit) => True) (fun _ t => ∃ (z47 : Nat → Int32) (z48 : Nat → Int32), pu_E (dC, dI) (mo_w ad ck x0 (nI x16) (nI x18) (nI x19) x20 (nI x21) (nI x22) x23 x24 x25 (nI x26) x27 (nI x28) (nI x29) (nI x30) (nI x33) x45 (nI x46) (nI x52) (nI x53) (nI x61) (nI x62) (nI x63) (nI x65) x66 f1 f2 f3 (bN 3 q4) (bN 7 q5) (bN 7 q6) (bN 4 q7) f8 (bN 2 q9) (bH q10) f11 (b2 m12_0 m12_1) (b2 m13_0 m13_1) (b2 m14_0 m14_1) (b2m m15_0 m15_1) f17 (bA 159 q31) f32 f34 f35 f36 f37 (bN 7 q38) f39 f40 f41 (b2 m42_0 m42_1) f43 f44 z47 z48 f49 f50 f51 (bN 13 q54) (bN 120 q55) (bN 120 q56) f57 (bN 120 q58) f59 f60 f64) (mo_t ck) (va_A ((mo_w ad ck x0 (nI x16) (nI x18) (nI x19) x20 (nI x21) (nI x22) x23 x24 x25 (nI x26) x27 (nI x28) (nI x29) (nI x30) (nI x33) x45 (nI x46) (nI x52) (nI x53) (nI x61) (nI x62) (nI x63) (nI x65) x66 f1 f2 f3 (bN 3 q4) (bN 7 q5) (bN 7 q6) (bN 4 q7) f8 (bN 2 q9) (bH q10) f11 (b2 m12_0 m12_1) (b2 m13_0 m13_1) (b2 m14_0 m14_1) (b2m m15_0 m15_1) f17 (bA 159 q31) f32 f34 f35 f36 f37 (bN 7 q38) f39 f40 f41 (b2 m42_0 m42_1) f43 f44 f47 f48 f49 f50 f51 (bN 13 q54) (bN 120 q55) (bN 120 q56) f57 (bN 120 q58) f59 f60 f64)) sz) t ∧ ((z47, z48) = (sp_EM_layForgotten x16 q4 q7 q9 q10 f11 m12_0 m12_1 m13_0 m13_1 m14_0 m14_1 f47 f48 p0))) (va_A ((mo_w ad ck x0 (nI x16) (nI x18) (nI x19) x20 (nI x21) (nI x22) x23 x24 x25 (nI x26) x27 (nI x28) (nI x29) (nI x30) (nI x33) x45 (nI x46) (nI x52) (nI x53) (nI x61) (nI x62) (nI x63) (nI x65) x66 f1 f2 f3 (bN 3 q4) (bN 7 q5) (bN 7 q6) (bN 4 q7) f8 (bN 2 q9) (bH q10) f11 (b2 m12_0 m12_1) (b2 m13_0 m13_1) (b2 m14_0 m14_1) (b2m m15_0 m15_1) f17 (bA 159 q31) f32 f34 f35 f36 f37 (bN 7 q38) f39 f40 f41 (b2 m42_0 m42_1) f43 f44 f47 f48 f49 f50 f51 (bN 13 q54) (bN 120 q55) (bN 120 q56) f57 (bN 120 q58) f59 f60 f64)) sz)) 0 0 (va_A ((mo_w ad ck x0 (nI x16) (nI x18) (nI x19) x20 (nI x21) (nI x22) x23 x24 x25 (nI x26) x27 (nI x28) (nI x29) (nI x30) (nI x33) x45 (nI x46) (nI x52) (nI x53) (nI x61) (nI x62) (nI x63) (nI x65) x66 f1 f2 f3 (bN 3 q4) (bN 7 q5) (bN 7 q6) (bN 4 q7) f8 (bN 2 q9) (bH q10) f11 (b2 m12_0 m12_1) (b2 m13_0 m13_1) (b2 m14_0 m14_1) (b2m m15_0 m15_1) f17 (bA 159 q31) f32 f34 f35 f36 f37 (bN 7 q38) f39 f40 f41 (b2 m42_0 m42_1) f43 f44 f47 f48 f49 f50 f51 (bN 13 q54) (bN 120 q55) (bN 120 q56) f57 (bN 120 q58) f59 f60 f64)) sz) := by
  refine Met.ofW (cc := cX9_layForgotten) (maxL := 4) (ret := none) (by decide) rfl ?_
  intro p e s m args below meth c s₁ B hml hv
  obtain ⟨rfl, rfl, hP, hK, hD0⟩ := hv
  have hx := B.exec
  have hb := B.bytes
  have hr := B.returns
  have hts := atoms_spec (ws := vs_EM_layForgotten) B.pre
  have v_1 := hts (.fieldLink RX9 102 "ClockReachModel" "high" "[I") (List.mem_cons_of_mem _ vm_212)
  have v_2 := hts (.fieldLink RX9 105 "ClockReachModel" "low" "[I") (List.mem_cons_of_mem _ vm_213)
  have hown : s.vm.findClass RX9 = some m.cls := findClass_of_methodNamed B.named
  have hlocks := B.notSynchronized
  have hiX9 : ∀ w ∈ wsX90, w ∈ vs_EM_layForgotten := fun _ h => List.mem_cons_of_mem _ (vmi_L h)
  have hD := hD0.self (sz := s.heap.size)
  generalize hAe : va_A ((mo_w ad ck x0 (nI x16) (nI x18) (nI x19) x20 (nI x21) (nI x22) x23 x24 x25 (nI x26) x27 (nI x28) (nI x29) (nI x30) (nI x33) x45 (nI x46) (nI x52) (nI x53) (nI x61) (nI x62) (nI x63) (nI x65) x66 f1 f2 f3 (bN 3 q4) (bN 7 q5) (bN 7 q6) (bN 4 q7) f8 (bN 2 q9) (bH q10) f11 (b2 m12_0 m12_1) (b2 m13_0 m13_1) (b2 m14_0 m14_1) (b2m m15_0 m15_1) f17 (bA 159 q31) f32 f34 f35 f36 f37 (bN 7 q38) f39 f40 f41 (b2 m42_0 m42_1) f43 f44 f47 f48 f49 f50 f51 (bN 13 q54) (bN 120 q55) (bN 120 q56) f57 (bN 120 q58) f59 f60 f64)) s.heap.size = A at hD ⊢
  have hA : ∀ q : Nat, s.heap.size ≤ q → A q := fun q h => by rw [← hAe]; exact Or.inr h
  have hS : va_S A s.heap s.heap [] := va_S.rf
  have hl := lv_entry ([.ref (ad 0), .int p0]) (n := 4) (Nat.le_of_ble_eq_true rfl)
  rw [lg_entry_eq]
  generalize (lg_sl ([.ref (ad 0), .int p0]) ++ List.replicate (4 - (lg_sl ([.ref (ad 0), .int p0])).length) Slot.unset).toArray = ls at hl ⊢
  have hl : lv_has ls 4 [(0, .ref (ad 0)), (1, .int p0)] := hl
  obtain ⟨RR, hRR⟩ : ∃ x, x = (sp_EM_layForgotten x16 q4 q7 q9 q10 f11 m12_0 m12_1 m13_0 m13_1 m14_0 m14_1 f47 f48 p0) := ⟨_, rfl⟩
  have hsp := hRR
  refine lv_iconst (v := 0) hx hb dX9_layForgotten_0 (by decide) ?_
  refine lv_istore_n (lv' := [(2, .int 0), (0, .ref (ad 0)), (1, .int p0)]) hx hb dX9_layForgotten_1 rfl hl (by decide) rfl (fun ls hl => ?_)
  obtain ⟨lf_8, dlf_8, hlf_8, hsp⟩ := itr_ex hsp
  delta sp_EM_layForgotten_L1 at hlf_8
  refine pu_while (fun nn H locs ls => ∃ (g_4 : Nat → Int32) (g_5 : Nat → Int32) (g_6 : Nat), nn = 5 - g_6 ∧ g_6 ≤ 5 ∧ RR = itrv dlf_8 lf_8 (g_4, g_5, g_6) ∧ va_P (dC, dI) vwCl (mo_w ad ck x0 (nI x16) (nI x18) (nI x19) x20 (nI x21) (nI x22) x23 x24 x25 (nI x26) x27 (nI x28) (nI x29) (nI x30) (nI x33) x45 (nI x46) (nI x52) (nI x53) (nI x61) (nI x62) (nI x63) (nI x65) x66 f1 f2 f3 (bN 3 q4) (bN 7 q5) (bN 7 q6) (bN 4 q7) f8 (bN 2 q9) (bH q10) f11 (b2 m12_0 m12_1) (b2 m13_0 m13_1) (b2 m14_0 m14_1) (b2m m15_0 m15_1) f17 (bA 159 q31) f32 f34 f35 f36 f37 (bN 7 q38) f39 f40 f41 (b2 m42_0 m42_1) f43 f44 g_4 g_5 f49 f50 f51 (bN 13 q54) (bN 120 q55) (bN 120 q56) f57 (bN 120 q58) f59 f60 f64) H ∧ va_D A (mo_w ad ck x0 (nI x16) (nI x18) (nI x19) x20 (nI x21) (nI x22) x23 x24 x25 (nI x26) x27 (nI x28) (nI x29) (nI x30) (nI x33) x45 (nI x46) (nI x52) (nI x53) (nI x61) (nI x62) (nI x63) (nI x65) x66 f1 f2 f3 (bN 3 q4) (bN 7 q5) (bN 7 q6) (bN 4 q7) f8 (bN 2 q9) (bH q10) f11 (b2 m12_0 m12_1) (b2 m13_0 m13_1) (b2 m14_0 m14_1) (b2m m15_0 m15_1) f17 (bA 159 q31) f32 f34 f35 f36 f37 (bN 7 q38) f39 f40 f41 (b2 m42_0 m42_1) f43 f44 g_4 g_5 f49 f50 f51 (bN 13 q54) (bN 120 q55) (bN 120 q56) f57 (bN 120 q58) f59 f60 f64) ∧ va_S A s.heap H locs ∧ lv_has ls 4 [(0, .ref (ad 0)), (1, .int p0), (2, .int (nI g_6))]) 2 ?_ _ _ _ _ ⟨f47, f48, 0, rfl, (Nat.le_of_ble_eq_true rfl), hsp, hP, hD, hS, lv_sub hl [1, 2, 0] rfl⟩
  rintro nn ih_7 H locs ls ⟨g_4, g_5, g_6, rfl, hg_6, he_10, hP, hD, hS, hl⟩
  obtain ⟨S_9, hsp, hin_11, hout_12⟩ := itr_step hlf_8 he_10
  refine lv_iload_n hx hb dX9_layForgotten_2 rfl (lv_at hl 2 rfl) ?_
  refine lv_iconst (v := 5) hx hb dX9_layForgotten_3 (by decide) ?_
  refine lv_icmp_ge (tgt := 106) hx hb dX9_layForgotten_4 (by decide) (fun c_13 => ?_) (fun c_13 => ?_)
  · have c_13 : 5 ≤ g_6 := (nI_leI (a := 5) (b := g_6) (Nat.le_of_ble_eq_true rfl) (Nat.lt_of_le_of_lt hg_6 (Nat.le_of_ble_eq_true rfl))).mp c_13
    replace hsp := hsp.trans (if_pos c_13)
    have hsp := hout_12 _ hsp
    exact W.vret hx hb hr (fun t ht hW => ⟨⟨(), rfl, trivial, ⟨g_4, g_5, ⟨by rw [ht]; exact hP, va_K.moved hW.alike hK, hD⟩, (hsp.symm.trans hRR)⟩⟩, hS.F ht⟩) hS.2.2 dX9_layForgotten_106
  · have c_13 : ¬ 5 ≤ g_6 := fun z => c_13 ((nI_leI (a := 5) (b := g_6) (Nat.le_of_ble_eq_true rfl) (Nat.lt_of_le_of_lt hg_6 (Nat.le_of_ble_eq_true rfl))).mpr z)
    replace hsp := hsp.trans (if_neg c_13)
    refine lv_iload_n hx hb dX9_layForgotten_7 rfl (lv_at hl 2 rfl) ?_
    obtain ⟨JR_16, hJR_16, hsp⟩ := slet_ex hsp
    refine pu_join (fun H locs ls st => ∃ (g_14 : Nat), st = [.int (nI g_14)] ∧ g_14 ≤ 1 ∧ g_14 = JR_16 ∧ va_P (dC, dI) vwCl (mo_w ad ck x0 (nI x16) (nI x18) (nI x19) x20 (nI x21) (nI x22) x23 x24 x25 (nI x26) x27 (nI x28) (nI x29) (nI x30) (nI x33) x45 (nI x46) (nI x52) (nI x53) (nI x61) (nI x62) (nI x63) (nI x65) x66 f1 f2 f3 (bN 3 q4) (bN 7 q5) (bN 7 q6) (bN 4 q7) f8 (bN 2 q9) (bH q10) f11 (b2 m12_0 m12_1) (b2 m13_0 m13_1) (b2 m14_0 m14_1) (b2m m15_0 m15_1) f17 (bA 159 q31) f32 f34 f35 f36 f37 (bN 7 q38) f39 f40 f41 (b2 m42_0 m42_1) f43 f44 g_4 g_5 f49 f50 f51 (bN 13 q54) (bN 120 q55) (bN 120 q56) f57 (bN 120 q58) f59 f60 f64) H ∧ va_D A (mo_w ad ck x0 (nI x16) (nI x18) (nI x19) x20 (nI x21) (nI x22) x23 x24 x25 (nI x26) x27 (nI x28) (nI x29) (nI x30) (nI x33) x45 (nI x46) (nI x52) (nI x53) (nI x61) (nI x62) (nI x63) (nI x65) x66 f1 f2 f3 (bN 3 q4) (bN 7 q5) (bN 7 q6) (bN 4 q7) f8 (bN 2 q9) (bH q10) f11 (b2 m12_0 m12_1) (b2 m13_0 m13_1) (b2 m14_0 m14_1) (b2m m15_0 m15_1) f17 (bA 159 q31) f32 f34 f35 f36 f37 (bN 7 q38) f39 f40 f41 (b2 m42_0 m42_1) f43 f44 g_4 g_5 f49 f50 f51 (bN 13 q54) (bN 120 q55) (bN 120 q56) f57 (bN 120 q58) f59 f60 f64) ∧ va_S A s.heap H locs ∧ lv_has ls 4 [(0, .ref (ad 0)), (1, .int p0), (2, .int (nI g_6))]) 24 ?_ (fun j_15 => ?_)
    · rintro H locs ls st ⟨g_14, rfl, hg_14, he_17, hP, hD, hS, hl⟩
      rw [← he_17] at hsp
      refine lv_istore_n (lv' := [(3, .int (nI g_14)), (0, .ref (ad 0)), (1, .int p0), (2, .int (nI g_6))]) hx hb dX9_layForgotten_24 rfl hl (by decide) rfl (fun ls hl => ?_)
      refine lv_aload_n hx hb dX9_layForgotten_25 rfl (lv_at hl 1 rfl) ?_
      refine va_get (D := (dC, dI)) (ci := 9) (v := .ref (ad 47)) (C := RX9) (T := TX9) (N := 67) hx hb hts hiX9 hown hK hP 0 rfl rfl 47 (by decide) v_1 (fun _ h9 => h9) rfl dX9_layForgotten_26 ?_
      refine lv_iload_n hx hb dX9_layForgotten_29 rfl (lv_at hl 3 rfl) ?_
      refine lv_iload_n hx hb dX9_layForgotten_30 rfl (lv_at hl 0 rfl) ?_
      obtain ⟨JR_20, hJR_20, hsp⟩ := slet_ex hsp
      refine pu_join (fun H locs ls st => ∃ (g_18 : Int32), st = [.int g_18, .int (nI g_6), .ref (ad 47)] ∧ g_18 = JR_20 ∧ va_P (dC, dI) vwCl (mo_w ad ck x0 (nI x16) (nI x18) (nI x19) x20 (nI x21) (nI x22) x23 x24 x25 (nI x26) x27 (nI x28) (nI x29) (nI x30) (nI x33) x45 (nI x46) (nI x52) (nI x53) (nI x61) (nI x62) (nI x63) (nI x65) x66 f1 f2 f3 (bN 3 q4) (bN 7 q5) (bN 7 q6) (bN 4 q7) f8 (bN 2 q9) (bH q10) f11 (b2 m12_0 m12_1) (b2 m13_0 m13_1) (b2 m14_0 m14_1) (b2m m15_0 m15_1) f17 (bA 159 q31) f32 f34 f35 f36 f37 (bN 7 q38) f39 f40 f41 (b2 m42_0 m42_1) f43 f44 g_4 g_5 f49 f50 f51 (bN 13 q54) (bN 120 q55) (bN 120 q56) f57 (bN 120 q58) f59 f60 f64) H ∧ va_D A (mo_w ad ck x0 (nI x16) (nI x18) (nI x19) x20 (nI x21) (nI x22) x23 x24 x25 (nI x26) x27 (nI x28) (nI x29) (nI x30) (nI x33) x45 (nI x46) (nI x52) (nI x53) (nI x61) (nI x62) (nI x63) (nI x65) x66 f1 f2 f3 (bN 3 q4) (bN 7 q5) (bN 7 q6) (bN 4 q7) f8 (bN 2 q9) (bH q10) f11 (b2 m12_0 m12_1) (b2 m13_0 m13_1) (b2 m14_0 m14_1) (b2m m15_0 m15_1) f17 (bA 159 q31) f32 f34 f35 f36 f37 (bN 7 q38) f39 f40 f41 (b2 m42_0 m42_1) f43 f44 g_4 g_5 f49 f50 f51 (bN 13 q54) (bN 120 q55) (bN 120 q56) f57 (bN 120 q58) f59 f60 f64) ∧ va_S A s.heap H locs ∧ lv_has ls 4 [(0, .ref (ad 0)), (1, .int p0), (2, .int (nI g_6)), (3, .int (nI g_14))]) 55 ?_ (fun j_19 => ?_)
      · rintro H locs ls st ⟨g_18, rfl, he_21, hP, hD, hS, hl⟩
        rw [← he_21] at hsp
        refine va_iast hx hb hK hP hD hS 30 29 rfl rfl (vp_in_nI (n := g_6) (by omega) (Nat.le_of_ble_eq_true rfl)) dX9_layForgotten_55 (fun H locs hP hD hS => ?_)
        obtain ⟨f_22, ef_22, xf_22⟩ := up_x g_4 (n := g_6) g_18 (Nat.lt_of_le_of_lt hg_6 (Nat.le_of_ble_eq_true rfl))
        have hP : va_P (dC, dI) vwCl (mo_w ad ck x0 (nI x16) (nI x18) (nI x19) x20 (nI x21) (nI x22) x23 x24 x25 (nI x26) x27 (nI x28) (nI x29) (nI x30) (nI x33) x45 (nI x46) (nI x52) (nI x53) (nI x61) (nI x62) (nI x63) (nI x65) x66 f1 f2 f3 (bN 3 q4) (bN 7 q5) (bN 7 q6) (bN 4 q7) f8 (bN 2 q9) (bH q10) f11 (b2 m12_0 m12_1) (b2 m13_0 m13_1) (b2 m14_0 m14_1) (b2m m15_0 m15_1) f17 (bA 159 q31) f32 f34 f35 f36 f37 (bN 7 q38) f39 f40 f41 (b2 m42_0 m42_1) f43 f44 f_22 g_5 f49 f50 f51 (bN 13 q54) (bN 120 q55) (bN 120 q56) f57 (bN 120 q58) f59 f60 f64) H := by rw [← ef_22]; exact hP
        have hD : va_D A (mo_w ad ck x0 (nI x16) (nI x18) (nI x19) x20 (nI x21) (nI x22) x23 x24 x25 (nI x26) x27 (nI x28) (nI x29) (nI x30) (nI x33) x45 (nI x46) (nI x52) (nI x53) (nI x61) (nI x62) (nI x63) (nI x65) x66 f1 f2 f3 (bN 3 q4) (bN 7 q5) (bN 7 q6) (bN 4 q7) f8 (bN 2 q9) (bH q10) f11 (b2 m12_0 m12_1) (b2 m13_0 m13_1) (b2 m14_0 m14_1) (b2m m15_0 m15_1) f17 (bA 159 q31) f32 f34 f35 f36 f37 (bN 7 q38) f39 f40 f41 (b2 m42_0 m42_1) f43 f44 f_22 g_5 f49 f50 f51 (bN 13 q54) (bN 120 q55) (bN 120 q56) f57 (bN 120 q58) f59 f60 f64) := by rw [← ef_22]; exact hD
        replace hsp := hsp.trans (slet_eq xf_22)
        refine lv_aload_n hx hb dX9_layForgotten_56 rfl (lv_at hl 0 rfl) ?_
        refine va_get (D := (dC, dI)) (ci := 9) (v := .ref (ad 48)) (C := RX9) (T := TX9) (N := 67) hx hb hts hiX9 hown hK hP 0 rfl rfl 48 (by decide) v_2 (fun _ h9 => h9) rfl dX9_layForgotten_57 ?_
        refine lv_iload_n hx hb dX9_layForgotten_60 rfl (lv_at hl 2 rfl) ?_
        refine lv_iload_n hx hb dX9_layForgotten_61 rfl (lv_at hl 3 rfl) ?_
        obtain ⟨JR_25, hJR_25, hsp⟩ := slet_ex hsp
        refine pu_join (fun H locs ls st => ∃ (g_23 : Int32), st = [.int g_23, .int (nI g_6), .ref (ad 48)] ∧ g_23 = JR_25 ∧ va_P (dC, dI) vwCl (mo_w ad ck x0 (nI x16) (nI x18) (nI x19) x20 (nI x21) (nI x22) x23 x24 x25 (nI x26) x27 (nI x28) (nI x29) (nI x30) (nI x33) x45 (nI x46) (nI x52) (nI x53) (nI x61) (nI x62) (nI x63) (nI x65) x66 f1 f2 f3 (bN 3 q4) (bN 7 q5) (bN 7 q6) (bN 4 q7) f8 (bN 2 q9) (bH q10) f11 (b2 m12_0 m12_1) (b2 m13_0 m13_1) (b2 m14_0 m14_1) (b2m m15_0 m15_1) f17 (bA 159 q31) f32 f34 f35 f36 f37 (bN 7 q38) f39 f40 f41 (b2 m42_0 m42_1) f43 f44 f_22 g_5 f49 f50 f51 (bN 13 q54) (bN 120 q55) (bN 120 q56) f57 (bN 120 q58) f59 f60 f64) H ∧ va_D A (mo_w ad ck x0 (nI x16) (nI x18) (nI x19) x20 (nI x21) (nI x22) x23 x24 x25 (nI x26) x27 (nI x28) (nI x29) (nI x30) (nI x33) x45 (nI x46) (nI x52) (nI x53) (nI x61) (nI x62) (nI x63) (nI x65) x66 f1 f2 f3 (bN 3 q4) (bN 7 q5) (bN 7 q6) (bN 4 q7) f8 (bN 2 q9) (bH q10) f11 (b2 m12_0 m12_1) (b2 m13_0 m13_1) (b2 m14_0 m14_1) (b2m m15_0 m15_1) f17 (bA 159 q31) f32 f34 f35 f36 f37 (bN 7 q38) f39 f40 f41 (b2 m42_0 m42_1) f43 f44 f_22 g_5 f49 f50 f51 (bN 13 q54) (bN 120 q55) (bN 120 q56) f57 (bN 120 q58) f59 f60 f64) ∧ va_S A s.heap H locs ∧ lv_has ls 4 [(0, .ref (ad 0)), (1, .int p0), (2, .int (nI g_6)), (3, .int (nI g_14))]) 99 ?_ (fun j_24 => ?_)
        · rintro H locs ls st ⟨g_23, rfl, he_26, hP, hD, hS, hl⟩
          rw [← he_26] at hsp
          refine va_iast hx hb hK hP hD hS 31 30 rfl rfl (vp_in_nI (n := g_6) (by omega) (Nat.le_of_ble_eq_true rfl)) dX9_layForgotten_99 (fun H locs hP hD hS => ?_)
          obtain ⟨f_27, ef_27, xf_27⟩ := up_x g_5 (n := g_6) g_23 (Nat.lt_of_le_of_lt hg_6 (Nat.le_of_ble_eq_true rfl))
          have hP : va_P (dC, dI) vwCl (mo_w ad ck x0 (nI x16) (nI x18) (nI x19) x20 (nI x21) (nI x22) x23 x24 x25 (nI x26) x27 (nI x28) (nI x29) (nI x30) (nI x33) x45 (nI x46) (nI x52) (nI x53) (nI x61) (nI x62) (nI x63) (nI x65) x66 f1 f2 f3 (bN 3 q4) (bN 7 q5) (bN 7 q6) (bN 4 q7) f8 (bN 2 q9) (bH q10) f11 (b2 m12_0 m12_1) (b2 m13_0 m13_1) (b2 m14_0 m14_1) (b2m m15_0 m15_1) f17 (bA 159 q31) f32 f34 f35 f36 f37 (bN 7 q38) f39 f40 f41 (b2 m42_0 m42_1) f43 f44 f_22 f_27 f49 f50 f51 (bN 13 q54) (bN 120 q55) (bN 120 q56) f57 (bN 120 q58) f59 f60 f64) H := by rw [← ef_27]; exact hP
          have hD : va_D A (mo_w ad ck x0 (nI x16) (nI x18) (nI x19) x20 (nI x21) (nI x22) x23 x24 x25 (nI x26) x27 (nI x28) (nI x29) (nI x30) (nI x33) x45 (nI x46) (nI x52) (nI x53) (nI x61) (nI x62) (nI x63) (nI x65) x66 f1 f2 f3 (bN 3 q4) (bN 7 q5) (bN 7 q6) (bN 4 q7) f8 (bN 2 q9) (bH q10) f11 (b2 m12_0 m12_1) (b2 m13_0 m13_1) (b2 m14_0 m14_1) (b2m m15_0 m15_1) f17 (bA 159 q31) f32 f34 f35 f36 f37 (bN 7 q38) f39 f40 f41 (b2 m42_0 m42_1) f43 f44 f_22 f_27 f49 f50 f51 (bN 13 q54) (bN 120 q55) (bN 120 q56) f57 (bN 120 q58) f59 f60 f64) := by rw [← ef_27]; exact hD
          replace hsp := hsp.trans (slet_eq xf_27)
          refine lv_iinc (v := (nI (g_6 + 1))) (lv' := [(2, .int (nI (g_6 + 1))), (0, .ref (ad 0)), (1, .int p0), (3, .int (nI g_14))]) hx hb dX9_layForgotten_100 hl (k := 2) rfl (nI_1 _) (by decide) rfl (fun ls hl => ?_)
          refine lv_goto (tgt := 2) hx hb dX9_layForgotten_103 (by decide) ?_
          exact ih_7 (5 - (g_6 + 1)) (by omega) _ _ _ ⟨f_22, f_27, (g_6 + 1), rfl, (by omega), hin_11 _ hsp, hP, hD, hS, lv_sub hl [1, 2, 0] rfl⟩
        have hsp := hJR_25
        refine lv_if_eq (tgt := 85) hx hb dX9_layForgotten_62 (by decide) (fun c_28 => ?_) (fun c_28 => ?_)
        · have c_28 : g_14 = 0 := (nI_eq (a := g_14) (b := 0) (Nat.lt_of_le_of_lt hg_14 (Nat.le_of_ble_eq_true rfl)) (Nat.le_of_ble_eq_true rfl)).mp c_28
          replace hsp := hsp.trans (if_pos c_28)
          refine lv_iload_n hx hb dX9_layForgotten_85 rfl (lv_at hl 2 rfl) ?_
          refine lv_aload_n hx hb dX9_layForgotten_86 rfl (lv_at hl 0 rfl) ?_
          refine va_calli (va_runV (As := []) (rest := [.int (nI g_6), .int (nI g_6), .ref (ad 48)]) ⟨hx, hb, hml, hown, hts⟩ (c_EM_clocks l dC dI _ ad ck x0 x16 x18 x19 x20 x21 x22 x23 x24 x25 x26 x27 x28 x29 x30 x33 x45 x46 x52 x53 x61 x62 x63 x65 x66 f1 f2 f3 q4 q5 q6 q7 f8 q9 q10 f11 m12_0 m12_1 m13_0 m13_1 m14_0 m14_1 m15_0 m15_1 f17 q31 f32 f34 f35 f36 f37 q38 f39 f40 f41 m42_0 m42_1 f43 f44 f_22 g_5 f49 f50 f51 q54 q55 q56 f57 q58 f59 f60 f64 hx16 hx18 hx19 hx21 hx22 hx26 hx28 hx29 hx30 hx33 hx46 hx52 hx53 hx61 hx62 hx63 hx65 hm12_0 hm12_1 hm13_0 hm13_1 hm14_0 hm14_1 hm15_0 hm15_1 hm42_0 hm42_1) (cwV 0 hts g_EM_layForgotten_EM_clocks rfl rfl rfl (by decide +kernel) ⟨Nat.le_of_ble_eq_true rfl, Nat.le_of_ble_eq_true rfl⟩) ⟨pu_bl, va_recv hK hP (ci := 9) (q0 := 0) rfl rfl, pu_in hP hK hD⟩ rfl rfl hl.1 rfl (lv_room (Nat.le_of_ble_eq_true rfl)) dX9_layForgotten_87 ⟨Nat.le_of_ble_eq_true rfl, Nat.le_of_ble_eq_true rfl⟩) hS (fun q _ h => pu_fr hS hA q h) (pu_fr hS hA) (fun r_29 u t H1 locs ht hvm hw hB hz1 hk1 hS => ?_)
          have hP := pu_keep hP hk1
          clear hk1 hz1 ht hvm
          generalize H1 = H at hP hS ⊢
          obtain ⟨u_30, hu_30, rfl, iu_30⟩ := hw
          replace hsp := hsp.trans (slet_eq iu_30)
          refine lv_icmp_le (tgt := 98) hx hb dX9_layForgotten_90 (by decide) (fun c_31 => ?_) (fun c_31 => ?_)
          · have c_31 : g_6 ≤ u_30 := (nI_leI (a := g_6) (b := u_30) (Nat.lt_of_le_of_lt hg_6 (Nat.le_of_ble_eq_true rfl)) (Nat.lt_of_le_of_lt hu_30 (Nat.le_of_ble_eq_true rfl))).mp c_31
            replace hsp := hsp.trans (if_pos c_31)
            refine lv_iconst (v := 0) hx hb dX9_layForgotten_98 (by decide) ?_
            exact j_24 _ _ _ _ ⟨0, rfl, hsp.symm, hP, hD, hS, lv_sub hl [0, 1, 2, 3] rfl⟩
          · have c_31 : ¬ g_6 ≤ u_30 := fun z => c_31 ((nI_leI (a := g_6) (b := u_30) (Nat.lt_of_le_of_lt hg_6 (Nat.le_of_ble_eq_true rfl)) (Nat.lt_of_le_of_lt hu_30 (Nat.le_of_ble_eq_true rfl))).mpr z)
            replace hsp := hsp.trans (if_neg c_31)
            refine lv_bipush (v := 60) hx hb dX9_layForgotten_93 (by decide) ?_
            refine lv_goto (tgt := 99) hx hb dX9_layForgotten_95 (by decide) ?_
            exact j_24 _ _ _ _ ⟨60, rfl, hsp.symm, hP, hD, hS, lv_sub hl [0, 1, 2, 3] rfl⟩
        · have c_28 : ¬ g_14 = 0 := fun z => c_28 ((nI_eq (a := g_14) (b := 0) (Nat.lt_of_le_of_lt hg_14 (Nat.le_of_ble_eq_true rfl)) (Nat.le_of_ble_eq_true rfl)).mpr z)
          replace hsp := hsp.trans (if_neg c_28)
          refine lv_aload_n hx hb dX9_layForgotten_65 rfl (lv_at hl 0 rfl) ?_
          refine lv_iload_n hx hb dX9_layForgotten_66 rfl (lv_at hl 2 rfl) ?_
          refine lv_iconst (v := 1) hx hb dX9_layForgotten_67 (by decide) ?_
          refine lv_isub hx hb dX9_layForgotten_68 ?_
          refine lv_iload_n hx hb dX9_layForgotten_69 rfl (lv_at hl 1 rfl) ?_
          refine lv_iconst (v := 1) hx hb dX9_layForgotten_70 (by decide) ?_
          obtain ⟨JR_34, hJR_34, hsp⟩ := slet_ex hsp
          refine pu_join (fun H locs ls st => ∃ (g_32 : Nat), st = [.int (nI g_32), .int ((nI g_6) - 1), .ref (ad 0), .int (nI g_6), .ref (ad 48)] ∧ g_32 ≤ 2 ∧ g_32 = JR_34 ∧ va_P (dC, dI) vwCl (mo_w ad ck x0 (nI x16) (nI x18) (nI x19) x20 (nI x21) (nI x22) x23 x24 x25 (nI x26) x27 (nI x28) (nI x29) (nI x30) (nI x33) x45 (nI x46) (nI x52) (nI x53) (nI x61) (nI x62) (nI x63) (nI x65) x66 f1 f2 f3 (bN 3 q4) (bN 7 q5) (bN 7 q6) (bN 4 q7) f8 (bN 2 q9) (bH q10) f11 (b2 m12_0 m12_1) (b2 m13_0 m13_1) (b2 m14_0 m14_1) (b2m m15_0 m15_1) f17 (bA 159 q31) f32 f34 f35 f36 f37 (bN 7 q38) f39 f40 f41 (b2 m42_0 m42_1) f43 f44 f_22 g_5 f49 f50 f51 (bN 13 q54) (bN 120 q55) (bN 120 q56) f57 (bN 120 q58) f59 f60 f64) H ∧ va_D A (mo_w ad ck x0 (nI x16) (nI x18) (nI x19) x20 (nI x21) (nI x22) x23 x24 x25 (nI x26) x27 (nI x28) (nI x29) (nI x30) (nI x33) x45 (nI x46) (nI x52) (nI x53) (nI x61) (nI x62) (nI x63) (nI x65) x66 f1 f2 f3 (bN 3 q4) (bN 7 q5) (bN 7 q6) (bN 4 q7) f8 (bN 2 q9) (bH q10) f11 (b2 m12_0 m12_1) (b2 m13_0 m13_1) (b2 m14_0 m14_1) (b2m m15_0 m15_1) f17 (bA 159 q31) f32 f34 f35 f36 f37 (bN 7 q38) f39 f40 f41 (b2 m42_0 m42_1) f43 f44 f_22 g_5 f49 f50 f51 (bN 13 q54) (bN 120 q55) (bN 120 q56) f57 (bN 120 q58) f59 f60 f64) ∧ va_S A s.heap H locs ∧ lv_has ls 4 [(0, .ref (ad 0)), (1, .int p0), (2, .int (nI g_6)), (3, .int (nI g_14))]) 79 ?_ (fun j_33 => ?_)
          · rintro H locs ls st ⟨g_32, rfl, hg_32, he_35, hP, hD, hS, hl⟩
            rw [← he_35] at hsp
            refine va_calli (va_runV (As := [.int ((nI g_6) - 1), .int (nI g_32)]) (rest := [.int (nI g_6), .ref (ad 48)]) ⟨hx, hb, hml, hown, hts⟩ (c_EM_most l dC dI _ ad ck x0 x16 x18 x19 x20 x21 x22 x23 x24 x25 x26 x27 x28 x29 x30 x33 x45 x46 x52 x53 x61 x62 x63 x65 x66 f1 f2 f3 q4 q5 q6 q7 f8 q9 q10 f11 m12_0 m12_1 m13_0 m13_1 m14_0 m14_1 m15_0 m15_1 f17 q31 f32 f34 f35 f36 f37 q38 f39 f40 f41 m42_0 m42_1 f43 f44 f_22 g_5 f49 f50 f51 q54 q55 q56 f57 q58 f59 f60 f64 ((nI g_6) - 1) (nI g_32) hx16 hx18 hx19 hx21 hx22 hx26 hx28 hx29 hx30 hx33 hx46 hx52 hx53 hx61 hx62 hx63 hx65 hm12_0 hm12_1 hm13_0 hm13_1 hm14_0 hm14_1 hm15_0 hm15_1 hm42_0 hm42_1) (cwV 2 hts g_EM_layForgotten_EM_most rfl rfl rfl (by decide +kernel) ⟨Nat.le_of_ble_eq_true rfl, Nat.le_of_ble_eq_true rfl⟩) ⟨pu_bl, va_recv hK hP (ci := 9) (q0 := 0) rfl rfl, pu_in hP hK hD⟩ rfl rfl hl.1 rfl (lv_room (Nat.le_of_ble_eq_true rfl)) dX9_layForgotten_79 ⟨Nat.le_of_ble_eq_true rfl, Nat.le_of_ble_eq_true rfl⟩) hS (fun q _ h => pu_fr hS hA q h) (pu_fr hS hA) (fun r_36 u t H1 locs ht hvm hw hB hz1 hk1 hS => ?_)
            have hP := pu_keep hP hk1
            clear hk1 hz1 ht hvm
            generalize H1 = H at hP hS ⊢
            have ir_36 := hw
            replace hsp := hsp.trans (slet_eq ir_36)
            refine lv_goto (tgt := 99) hx hb dX9_layForgotten_82 (by decide) ?_
            exact j_24 _ _ _ _ ⟨r_36, rfl, hsp.symm, hP, hD, hS, lv_sub hl [0, 1, 2, 3] rfl⟩
          have hsp := hJR_34
          refine lv_icmp_ne (tgt := 78) hx hb dX9_layForgotten_71 (by decide) (fun c_37 => ?_) (fun c_37 => ?_)
          · have hcc_37 := c_37
            replace hsp := hsp.trans (if_neg c_37)
            refine lv_iconst (v := 2) hx hb dX9_layForgotten_78 (by decide) ?_
            exact j_33 _ _ _ _ ⟨2, rfl, (Nat.le_of_ble_eq_true rfl), hsp.symm, hP, hD, hS, lv_sub hl [0, 1, 2, 3] rfl⟩
          · have hcc_37 := c_37
            replace hsp := hsp.trans (if_pos c_37)
            refine lv_iconst (v := 0) hx hb dX9_layForgotten_74 (by decide) ?_
            refine lv_goto (tgt := 79) hx hb dX9_layForgotten_75 (by decide) ?_
            exact j_33 _ _ _ _ ⟨0, rfl, (Nat.le_of_ble_eq_true rfl), hsp.symm, hP, hD, hS, lv_sub hl [0, 1, 2, 3] rfl⟩
      have hsp := hJR_20
      refine lv_if_eq (tgt := 54) hx hb dX9_layForgotten_31 (by decide) (fun c_38 => ?_) (fun c_38 => ?_)
      · have c_38 : g_14 = 0 := (nI_eq (a := g_14) (b := 0) (Nat.lt_of_le_of_lt hg_14 (Nat.le_of_ble_eq_true rfl)) (Nat.le_of_ble_eq_true rfl)).mp c_38
        replace hsp := hsp.trans (if_pos c_38)
        refine lv_iconst (v := 0) hx hb dX9_layForgotten_54 (by decide) ?_
        exact j_19 _ _ _ _ ⟨0, rfl, hsp.symm, hP, hD, hS, lv_sub hl [1, 2, 3, 0] rfl⟩
      · have c_38 : ¬ g_14 = 0 := fun z => c_38 ((nI_eq (a := g_14) (b := 0) (Nat.lt_of_le_of_lt hg_14 (Nat.le_of_ble_eq_true rfl)) (Nat.le_of_ble_eq_true rfl)).mpr z)
        replace hsp := hsp.trans (if_neg c_38)
        refine lv_aload_n hx hb dX9_layForgotten_34 rfl (lv_at hl 1 rfl) ?_
        refine lv_iload_n hx hb dX9_layForgotten_35 rfl (lv_at hl 3 rfl) ?_
        refine lv_iconst (v := 1) hx hb dX9_layForgotten_36 (by decide) ?_
        refine lv_isub hx hb dX9_layForgotten_37 ?_
        refine lv_iload_n hx hb dX9_layForgotten_38 rfl (lv_at hl 2 rfl) ?_
        refine lv_iconst (v := 1) hx hb dX9_layForgotten_39 (by decide) ?_
        obtain ⟨JR_41, hJR_41, hsp⟩ := slet_ex hsp
        refine pu_join (fun H locs ls st => ∃ (g_39 : Nat), st = [.int (nI g_39), .int ((nI g_6) - 1), .ref (ad 0), .int (nI g_6), .ref (ad 47)] ∧ g_39 ≤ 1 ∧ g_39 = JR_41 ∧ va_P (dC, dI) vwCl (mo_w ad ck x0 (nI x16) (nI x18) (nI x19) x20 (nI x21) (nI x22) x23 x24 x25 (nI x26) x27 (nI x28) (nI x29) (nI x30) (nI x33) x45 (nI x46) (nI x52) (nI x53) (nI x61) (nI x62) (nI x63) (nI x65) x66 f1 f2 f3 (bN 3 q4) (bN 7 q5) (bN 7 q6) (bN 4 q7) f8 (bN 2 q9) (bH q10) f11 (b2 m12_0 m12_1) (b2 m13_0 m13_1) (b2 m14_0 m14_1) (b2m m15_0 m15_1) f17 (bA 159 q31) f32 f34 f35 f36 f37 (bN 7 q38) f39 f40 f41 (b2 m42_0 m42_1) f43 f44 g_4 g_5 f49 f50 f51 (bN 13 q54) (bN 120 q55) (bN 120 q56) f57 (bN 120 q58) f59 f60 f64) H ∧ va_D A (mo_w ad ck x0 (nI x16) (nI x18) (nI x19) x20 (nI x21) (nI x22) x23 x24 x25 (nI x26) x27 (nI x28) (nI x29) (nI x30) (nI x33) x45 (nI x46) (nI x52) (nI x53) (nI x61) (nI x62) (nI x63) (nI x65) x66 f1 f2 f3 (bN 3 q4) (bN 7 q5) (bN 7 q6) (bN 4 q7) f8 (bN 2 q9) (bH q10) f11 (b2 m12_0 m12_1) (b2 m13_0 m13_1) (b2 m14_0 m14_1) (b2m m15_0 m15_1) f17 (bA 159 q31) f32 f34 f35 f36 f37 (bN 7 q38) f39 f40 f41 (b2 m42_0 m42_1) f43 f44 g_4 g_5 f49 f50 f51 (bN 13 q54) (bN 120 q55) (bN 120 q56) f57 (bN 120 q58) f59 f60 f64) ∧ va_S A s.heap H locs ∧ lv_has ls 4 [(0, .ref (ad 0)), (1, .int p0), (2, .int (nI g_6)), (3, .int (nI g_14))]) 48 ?_ (fun j_40 => ?_)
        · rintro H locs ls st ⟨g_39, rfl, hg_39, he_42, hP, hD, hS, hl⟩
          rw [← he_42] at hsp
          refine va_calli (va_runV (As := [.int ((nI g_6) - 1), .int (nI g_39)]) (rest := [.int (nI g_6), .ref (ad 47)]) ⟨hx, hb, hml, hown, hts⟩ (c_EM_most l dC dI _ ad ck x0 x16 x18 x19 x20 x21 x22 x23 x24 x25 x26 x27 x28 x29 x30 x33 x45 x46 x52 x53 x61 x62 x63 x65 x66 f1 f2 f3 q4 q5 q6 q7 f8 q9 q10 f11 m12_0 m12_1 m13_0 m13_1 m14_0 m14_1 m15_0 m15_1 f17 q31 f32 f34 f35 f36 f37 q38 f39 f40 f41 m42_0 m42_1 f43 f44 g_4 g_5 f49 f50 f51 q54 q55 q56 f57 q58 f59 f60 f64 ((nI g_6) - 1) (nI g_39) hx16 hx18 hx19 hx21 hx22 hx26 hx28 hx29 hx30 hx33 hx46 hx52 hx53 hx61 hx62 hx63 hx65 hm12_0 hm12_1 hm13_0 hm13_1 hm14_0 hm14_1 hm15_0 hm15_1 hm42_0 hm42_1) (cwV 2 hts g_EM_layForgotten_EM_most rfl rfl rfl (by decide +kernel) ⟨Nat.le_of_ble_eq_true rfl, Nat.le_of_ble_eq_true rfl⟩) ⟨pu_bl, va_recv hK hP (ci := 9) (q0 := 0) rfl rfl, pu_in hP hK hD⟩ rfl rfl hl.1 rfl (lv_room (Nat.le_of_ble_eq_true rfl)) dX9_layForgotten_48 ⟨Nat.le_of_ble_eq_true rfl, Nat.le_of_ble_eq_true rfl⟩) hS (fun q _ h => pu_fr hS hA q h) (pu_fr hS hA) (fun r_43 u t H1 locs ht hvm hw hB hz1 hk1 hS => ?_)
          have hP := pu_keep hP hk1
          clear hk1 hz1 ht hvm
          generalize H1 = H at hP hS ⊢
          have ir_43 := hw
          replace hsp := hsp.trans (slet_eq ir_43)
          refine lv_goto (tgt := 55) hx hb dX9_layForgotten_51 (by decide) ?_
          exact j_19 _ _ _ _ ⟨r_43, rfl, hsp.symm, hP, hD, hS, lv_sub hl [0, 1, 2, 3] rfl⟩
        have hsp := hJR_41
        refine lv_icmp_ne (tgt := 47) hx hb dX9_layForgotten_40 (by decide) (fun c_44 => ?_) (fun c_44 => ?_)
        · have hcc_44 := c_44
          replace hsp := hsp.trans (if_neg c_44)
          refine lv_iconst (v := 1) hx hb dX9_layForgotten_47 (by decide) ?_
          exact j_40 _ _ _ _ ⟨1, rfl, (Nat.le_of_ble_eq_true rfl), hsp.symm, hP, hD, hS, lv_sub hl [1, 2, 3, 0] rfl⟩
        · have hcc_44 := c_44
          replace hsp := hsp.trans (if_pos c_44)
          refine lv_iconst (v := 0) hx hb dX9_layForgotten_43 (by decide) ?_
          refine lv_goto (tgt := 48) hx hb dX9_layForgotten_44 (by decide) ?_
          exact j_40 _ _ _ _ ⟨0, rfl, (Nat.le_of_ble_eq_true rfl), hsp.symm, hP, hD, hS, lv_sub hl [1, 2, 3, 0] rfl⟩
    have hsp := hJR_16
    refine lv_if_le (tgt := 23) hx hb dX9_layForgotten_8 (by decide) (fun c_45 => ?_) (fun c_45 => ?_)
    · have c_45 : g_6 ≤ 0 := (nI_leI (a := g_6) (b := 0) (Nat.lt_of_le_of_lt hg_6 (Nat.le_of_ble_eq_true rfl)) (Nat.le_of_ble_eq_true rfl)).mp c_45
      replace hsp := hsp.trans (if_pos c_45)
      refine lv_iconst (v := 0) hx hb dX9_layForgotten_23 (by decide) ?_
      exact j_15 _ _ _ _ ⟨0, rfl, (Nat.le_of_ble_eq_true rfl), hsp.symm, hP, hD, hS, lv_sub hl [0, 1, 2] rfl⟩
    · have c_45 : ¬ g_6 ≤ 0 := fun z => c_45 ((nI_leI (a := g_6) (b := 0) (Nat.lt_of_le_of_lt hg_6 (Nat.le_of_ble_eq_true rfl)) (Nat.le_of_ble_eq_true rfl)).mpr z)
      replace hsp := hsp.trans (if_neg c_45)
      refine lv_iload_n hx hb dX9_layForgotten_11 rfl (lv_at hl 2 rfl) ?_
      refine lv_aload_n hx hb dX9_layForgotten_12 rfl (lv_at hl 0 rfl) ?_
      refine va_calli (va_runV (As := []) (rest := [.int (nI g_6)]) ⟨hx, hb, hml, hown, hts⟩ (c_EM_clocks l dC dI _ ad ck x0 x16 x18 x19 x20 x21 x22 x23 x24 x25 x26 x27 x28 x29 x30 x33 x45 x46 x52 x53 x61 x62 x63 x65 x66 f1 f2 f3 q4 q5 q6 q7 f8 q9 q10 f11 m12_0 m12_1 m13_0 m13_1 m14_0 m14_1 m15_0 m15_1 f17 q31 f32 f34 f35 f36 f37 q38 f39 f40 f41 m42_0 m42_1 f43 f44 g_4 g_5 f49 f50 f51 q54 q55 q56 f57 q58 f59 f60 f64 hx16 hx18 hx19 hx21 hx22 hx26 hx28 hx29 hx30 hx33 hx46 hx52 hx53 hx61 hx62 hx63 hx65 hm12_0 hm12_1 hm13_0 hm13_1 hm14_0 hm14_1 hm15_0 hm15_1 hm42_0 hm42_1) (cwV 0 hts g_EM_layForgotten_EM_clocks rfl rfl rfl (by decide +kernel) ⟨Nat.le_of_ble_eq_true rfl, Nat.le_of_ble_eq_true rfl⟩) ⟨pu_bl, va_recv hK hP (ci := 9) (q0 := 0) rfl rfl, pu_in hP hK hD⟩ rfl rfl hl.1 rfl (lv_room (Nat.le_of_ble_eq_true rfl)) dX9_layForgotten_13 ⟨Nat.le_of_ble_eq_true rfl, Nat.le_of_ble_eq_true rfl⟩) hS (fun q _ h => pu_fr hS hA q h) (pu_fr hS hA) (fun r_46 u t H1 locs ht hvm hw hB hz1 hk1 hS => ?_)
      have hP := pu_keep hP hk1
      clear hk1 hz1 ht hvm
      generalize H1 = H at hP hS ⊢
      obtain ⟨u_47, hu_47, rfl, iu_47⟩ := hw
      replace hsp := hsp.trans (slet_eq iu_47)
      refine lv_icmp_gt (tgt := 23) hx hb dX9_layForgotten_16 (by decide) (fun c_48 => ?_) (fun c_48 => ?_)
      · have c_48 : u_47 < g_6 := (nI_ltI (a := u_47) (b := g_6) (Nat.lt_of_le_of_lt hu_47 (Nat.le_of_ble_eq_true rfl)) (Nat.lt_of_le_of_lt hg_6 (Nat.le_of_ble_eq_true rfl))).mp c_48
        replace hsp := hsp.trans (if_pos c_48)
        refine lv_iconst (v := 0) hx hb dX9_layForgotten_23 (by decide) ?_
        exact j_15 _ _ _ _ ⟨0, rfl, (Nat.le_of_ble_eq_true rfl), hsp.symm, hP, hD, hS, lv_sub hl [0, 1, 2] rfl⟩
      · have c_48 : ¬ u_47 < g_6 := fun z => c_48 ((nI_ltI (a := u_47) (b := g_6) (Nat.lt_of_le_of_lt hu_47 (Nat.le_of_ble_eq_true rfl)) (Nat.lt_of_le_of_lt hg_6 (Nat.le_of_ble_eq_true rfl))).mpr z)
        replace hsp := hsp.trans (if_neg c_48)
        refine lv_iconst (v := 1) hx hb dX9_layForgotten_19 (by decide) ?_
        refine lv_goto (tgt := 24) hx hb dX9_layForgotten_20 (by decide) ?_
        exact j_15 _ _ _ _ ⟨1, rfl, (Nat.le_of_ble_eq_true rfl), hsp.symm, hP, hD, hS, lv_sub hl [0, 1, 2] rfl⟩
