theorem dX9_covered_0 : decode cX9_covered 0 = .ok (.aload_n 0, 1) := by decide +kernel
theorem dX9_covered_1 : decode cX9_covered 1 = .ok (.iconst 0, 1) := by decide +kernel
theorem dX9_covered_2 : decode cX9_covered 2 = .ok (.putfield 142, 3) := by decide +kernel
theorem dX9_covered_5 : decode cX9_covered 5 = .ok (.aload_n 0, 1) := by decide +kernel
theorem dX9_covered_6 : decode cX9_covered 6 = .ok (.iload_n 1, 1) := by decide +kernel
theorem dX9_covered_7 : decode cX9_covered 7 = .ok (.invokevirtual 387, 3) := by decide +kernel
theorem dX9_covered_10 : decode cX9_covered 10 = .ok (.ifCond .ne 5, 3) := by decide +kernel
theorem dX9_covered_13 : decode cX9_covered 13 = .ok (.iconst (-1), 1) := by decide +kernel
theorem dX9_covered_14 : decode cX9_covered 14 = .ok (.ireturn, 1) := by decide +kernel
theorem dX9_covered_15 : decode cX9_covered 15 = .ok (.aload_n 0, 1) := by decide +kernel
theorem dX9_covered_16 : decode cX9_covered 16 = .ok (.iconst 0, 1) := by decide +kernel
theorem dX9_covered_17 : decode cX9_covered 17 = .ok (.putfield 411, 3) := by decide +kernel
theorem dX9_covered_20 : decode cX9_covered 20 = .ok (.iconst 0, 1) := by decide +kernel
theorem dX9_covered_21 : decode cX9_covered 21 = .ok (.istore_n 2, 1) := by decide +kernel
theorem dX9_covered_22 : decode cX9_covered 22 = .ok (.iload_n 2, 1) := by decide +kernel
theorem dX9_covered_23 : decode cX9_covered 23 = .ok (.aload_n 0, 1) := by decide +kernel
theorem dX9_covered_24 : decode cX9_covered 24 = .ok (.getfield 92, 3) := by decide +kernel
theorem dX9_covered_27 : decode cX9_covered 27 = .ok (.iconst 0, 1) := by decide +kernel
theorem dX9_covered_28 : decode cX9_covered 28 = .ok (.iaload, 1) := by decide +kernel
theorem dX9_covered_29 : decode cX9_covered 29 = .ok (.if_icmp .ge 61, 3) := by decide +kernel
theorem dX9_covered_32 : decode cX9_covered 32 = .ok (.iload_n 2, 1) := by decide +kernel
theorem dX9_covered_33 : decode cX9_covered 33 = .ok (.iload_n 1, 1) := by decide +kernel
theorem dX9_covered_34 : decode cX9_covered 34 = .ok (.if_icmp .eq 50, 3) := by decide +kernel
theorem dX9_covered_37 : decode cX9_covered 37 = .ok (.aload_n 0, 1) := by decide +kernel
theorem dX9_covered_38 : decode cX9_covered 38 = .ok (.getfield 80, 3) := by decide +kernel
theorem dX9_covered_41 : decode cX9_covered 41 = .ok (.iload_n 2, 1) := by decide +kernel
theorem dX9_covered_42 : decode cX9_covered 42 = .ok (.iaload, 1) := by decide +kernel
theorem dX9_covered_43 : decode cX9_covered 43 = .ok (.aload_n 0, 1) := by decide +kernel
theorem dX9_covered_44 : decode cX9_covered 44 = .ok (.getfield 80, 3) := by decide +kernel
theorem dX9_covered_47 : decode cX9_covered 47 = .ok (.iload_n 1, 1) := by decide +kernel
theorem dX9_covered_48 : decode cX9_covered 48 = .ok (.iaload, 1) := by decide +kernel
theorem dX9_covered_49 : decode cX9_covered 49 = .ok (.if_icmp .ne 35, 3) := by decide +kernel
theorem dX9_covered_52 : decode cX9_covered 52 = .ok (.aload_n 0, 1) := by decide +kernel
theorem dX9_covered_53 : decode cX9_covered 53 = .ok (.getfield 68, 3) := by decide +kernel
theorem dX9_covered_56 : decode cX9_covered 56 = .ok (.bipush 25, 2) := by decide +kernel
theorem dX9_covered_58 : decode cX9_covered 58 = .ok (.iload_n 2, 1) := by decide +kernel
theorem dX9_covered_59 : decode cX9_covered 59 = .ok (.imul, 1) := by decide +kernel
theorem dX9_covered_60 : decode cX9_covered 60 = .ok (.aload_n 0, 1) := by decide +kernel
theorem dX9_covered_61 : decode cX9_covered 61 = .ok (.getfield 115, 3) := by decide +kernel
theorem dX9_covered_64 : decode cX9_covered 64 = .ok (.bipush 25, 2) := by decide +kernel
theorem dX9_covered_66 : decode cX9_covered 66 = .ok (.aload_n 0, 1) := by decide +kernel
theorem dX9_covered_67 : decode cX9_covered 67 = .ok (.getfield 411, 3) := by decide +kernel
theorem dX9_covered_70 : decode cX9_covered 70 = .ok (.imul, 1) := by decide +kernel
theorem dX9_covered_71 : decode cX9_covered 71 = .ok (.invokestatic 362, 3) := by decide +kernel
theorem dX9_covered_74 : decode cX9_covered 74 = .ok (.aload_n 0, 1) := by decide +kernel
theorem dX9_covered_75 : decode cX9_covered 75 = .ok (.dup, 1) := by decide +kernel
theorem dX9_covered_76 : decode cX9_covered 76 = .ok (.getfield 411, 3) := by decide +kernel
theorem dX9_covered_79 : decode cX9_covered 79 = .ok (.iconst 1, 1) := by decide +kernel
theorem dX9_covered_80 : decode cX9_covered 80 = .ok (.iadd, 1) := by decide +kernel
theorem dX9_covered_81 : decode cX9_covered 81 = .ok (.putfield 411, 3) := by decide +kernel
theorem dX9_covered_84 : decode cX9_covered 84 = .ok (.iinc 2 1, 3) := by decide +kernel
theorem dX9_covered_87 : decode cX9_covered 87 = .ok (.goto (-65), 3) := by decide +kernel
theorem dX9_covered_90 : decode cX9_covered 90 = .ok (.aload_n 0, 1) := by decide +kernel
theorem dX9_covered_91 : decode cX9_covered 91 = .ok (.getfield 68, 3) := by decide +kernel
theorem dX9_covered_94 : decode cX9_covered 94 = .ok (.bipush 25, 2) := by decide +kernel
theorem dX9_covered_96 : decode cX9_covered 96 = .ok (.iload_n 1, 1) := by decide +kernel
theorem dX9_covered_97 : decode cX9_covered 97 = .ok (.imul, 1) := by decide +kernel
theorem dX9_covered_98 : decode cX9_covered 98 = .ok (.aload_n 0, 1) := by decide +kernel
theorem dX9_covered_99 : decode cX9_covered 99 = .ok (.getfield 71, 3) := by decide +kernel
theorem dX9_covered_102 : decode cX9_covered 102 = .ok (.iconst 0, 1) := by decide +kernel
theorem dX9_covered_103 : decode cX9_covered 103 = .ok (.invokestatic 362, 3) := by decide +kernel
theorem dX9_covered_106 : decode cX9_covered 106 = .ok (.aload_n 0, 1) := by decide +kernel
theorem dX9_covered_107 : decode cX9_covered 107 = .ok (.invokevirtual 417, 3) := by decide +kernel
theorem dX9_covered_110 : decode cX9_covered 110 = .ok (.ifCond .eq 7, 3) := by decide +kernel
theorem dX9_covered_113 : decode cX9_covered 113 = .ok (.iconst 0, 1) := by decide +kernel
theorem dX9_covered_114 : decode cX9_covered 114 = .ok (.goto 4, 3) := by decide +kernel
theorem dX9_covered_117 : decode cX9_covered 117 = .ok (.iconst 1, 1) := by decide +kernel
theorem dX9_covered_118 : decode cX9_covered 118 = .ok (.ireturn, 1) := by decide +kernel
abbrev vs_EM_covered : List Cond := .code yX9_covered cX9_covered 3 (some .int) :: VM
theorem g_EM_covered_EM_isState : GoodIn vs_EM_covered (wsV RX9 387 RX9 yX9_isState vs_EM_isState) := gm_V vm_263 vm_264 vm_265 vm_19 vm_266
theorem g_EM_covered_EM_copies_nz : GoodIn vs_EM_covered (va_wsS RX9 362 yX9_copies vs_EM_copies_nz) := gm_S vm_228 vm_229 vm_19 vm_230
theorem g_EM_covered_EM_isOver : GoodIn vs_EM_covered (wsV RX9 417 RX9 yX9_isOver vs_EM_isOver) := gm_V vm_291 vm_292 vm_293 vm_19 vm_294
theorem g_EM_covered_EM_copies_nc : GoodIn vs_EM_covered (va_wsS RX9 362 yX9_copies vs_EM_copies_nc) := gm_S vm_228 vm_229 vm_19 vm_230
noncomputable def sp_EM_covered_L1 (f34 : Nat → Int32) (f35 : Nat → Int32) (f36 : Nat → Int32) (q38 : Nat → Nat) (m42_0 : Nat) (f49 : Nat → Int32) (f50 : Nat → Int32) (z46_2 : Nat) (n_3 : Nat) : ((Nat → Int32) × Nat × Nat) → ((Nat → Int32) × Nat × Nat) ⊕ (Int32 × (Nat → Int32) × (Nat → Int32) × (Nat → Int32) × (Nat → Int32) × (Nat → Int32) × Int32 × Nat × Nat × Nat) := fun (g_8, g_9, g_10) => (if m42_0 ≤ g_10 then (Sum.inr (slet (sp_EM_copies_nz f34 f35 (25 * n_3)) (fun z35_22 => (slet (sp_EM_isOver z46_2 g_9 z35_22 f36 f49 f50 g_8) (fun (u_29, z35_24, z36_25, z49_26, z50_27, z52_28) => (if u_29 = 0 then (1, z35_24, z36_25, z49_26, z50_27, g_8, 0, z46_2, z52_28, g_9) else (0, z35_24, z36_25, z49_26, z50_27, g_8, 0, z46_2, z52_28, g_9))))))) else (if g_10 = n_3 then (Sum.inl (g_8, g_9, (g_10 + 1))) else (slet (min (q38 g_10) 7) (fun u_33 => (slet (min (q38 n_3) 7) (fun u_35 => (if u_33 = u_35 then (slet (sp_EM_copies_nc f34 g_8 (25 * g_10) (25 * g_9)) (fun z51_40 => (Sum.inl (z51_40, (g_9 + 1), (g_10 + 1))))) else (Sum.inl (g_8, g_9, (g_10 + 1))))))))))
noncomputable def sp_EM_covered (x16 : Nat) (x29 : Nat) (x52 : Nat) (x53 : Nat) (m12_0 : Nat) (m12_1 : Nat) (f34 : Nat → Int32) (f35 : Nat → Int32) (f36 : Nat → Int32) (q38 : Nat → Nat) (m42_0 : Nat) (f49 : Nat → Int32) (f50 : Nat → Int32) (f51 : Nat → Int32) (p0 : Int32) : Int32 × (Nat → Int32) × (Nat → Int32) × (Nat → Int32) × (Nat → Int32) × (Nat → Int32) × Int32 × Nat × Nat × Nat := (slet (sp_EM_isState x16 x29 m12_0 m12_1 m42_0 p0) (fun z46_2 => (if x29 = 1 ∧ (0 : Int32) ≤ p0 ∧ p0 < nI m42_0 then (slet ((p0 : Int32).toNatClampNeg) (fun n_3 => (itrv (α := (Nat → Int32) × Nat × Nat) (β := (Int32 × (Nat → Int32) × (Nat → Int32) × (Nat → Int32) × (Nat → Int32) × (Nat → Int32) × Int32 × Nat × Nat × Nat)) default (sp_EM_covered_L1 f34 f35 f36 q38 m42_0 f49 f50 z46_2 n_3) (f51, 0, 0)))) else ((-1), f35, f36, f49, f50, f51, 0, z46_2, x52, x53))))
set_option maxHeartbeats 4000000 in
set_option maxRecDepth 100000 in
theorem c_EM_covered (l : Launch) (dC : Nat → ClassId) (dI : Nat → Nat → Nat) (sz : Nat) (ad : Nat → Nat) (ck : Nat → ClassId) (x0 : Int32) (x16 : Nat) (x18 : Nat) (x19 : Nat) (x20 : Int32) (x21 : Nat) (x22 : Nat) (x23 : Int32) (x24 : Int32) (x25 : Int32) (x26 : Nat) (x27 : Int32) (x28 : Nat) (x29 : Nat) (x30 : Nat) (x33 : Nat) (x45 : Int32) (x46 : Nat) (x52 : Nat) (x53 : Nat) (x61 : Nat) (x62 : Nat) (x63 : Nat) (x65 : Nat) (x66 : Int32) (f1 : Nat → Int32) (f2 : Nat → Int32) (f3 : Nat → Int32) (q4 : Nat → Nat) (q5 : Nat → Nat) (q6 : Nat → Nat) (q7 : Nat → Nat) (f8 : Nat → Int32) (q9 : Nat → Nat) (q10 : Nat → Nat) (f11 : Nat → Int32) (m12_0 m12_1 : Nat) (m13_0 m13_1 : Nat) (m14_0 m14_1 : Nat) (m15_0 m15_1 : Nat) (f17 : Nat → Int32) (q31 : Nat → Nat) (f32 : Nat → Int32) (f34 : Nat → Int32) (f35 : Nat → Int32) (f36 : Nat → Int32) (f37 : Nat → Int32) (q38 : Nat → Nat) (f39 : Nat → Int32) (f40 : Nat → Int32) (f41 : Nat → Int32) (m42_0 m42_1 : Nat) (f43 : Nat → Int32) (f44 : Nat → Int32) (f47 : Nat → Int32) (f48 : Nat → Int32) (f49 : Nat → Int32) (f50 : Nat → Int32) (f51 : Nat → Int32) (q54 : Nat → Nat) (q55 : Nat → Nat) (q56 : Nat → Nat) (f57 : Nat → Int32) (q58 : Nat → Nat) (f59 : Nat → Int32) (f60 : Nat → Int32) (f64 : Nat → Int32) (p0 : Int32) (hx16 : x16 ≤ 1) (hx18 : x18 ≤ 900) (hx19 : x19 ≤ 900) (hx21 : x21 ≤ 900) (hx22 : x22 ≤ 4) (hx26 : x26 ≤ 6) (hx28 : x28 ≤ 1) (hx29 : x29 ≤ 1) (hx30 : x30 ≤ 1) (hx33 : x33 ≤ 20) (hx46 : x46 ≤ 5) (hx52 : x52 ≤ 2400) (hx53 : x53 ≤ 119) (hx61 : x61 ≤ 119) (hx62 : x62 ≤ 2000) (hx63 : x63 ≤ 1) (hx65 : x65 ≤ 7) (hm12_0 : m12_0 ≤ 3) (hm12_1 : m12_1 ≤ 3) (hm13_0 : m13_0 ≤ 8) (hm13_1 : m13_1 ≤ 8) (hm14_0 : m14_0 ≤ 14) (hm14_1 : m14_1 ≤ 14) (hm15_0 : m15_0 ≤ 8) (hm15_1 : m15_1 ≤ 8) (hm42_0 : m42_0 ≤ 120) (hm42_1 : m42_1 ≤ 400) : Met l yX9_covered vs_EM_covered ({ frames := 4, cells := 0, slots := 0, locals := 89 }) (va_Pc [.ref (ad 0), .int p0] (pu_B (dC, dI) (mo_w ad ck x0 (nI x16) (nI x18) (nI x19) x20 (nI x21) (nI x22) x23 x24 x25 (nI x26) x27 (nI x28) (nI x29) (nI x30) (nI x33) x45 (nI x46) (nI x52) (nI x53) (nI x61) (nI x62) (nI x63) (nI x65) x66 f1 f2 f3 (bN 3 q4) (bN 7 q5) (bN 7 q6) (bN 4 q7) f8 (bN 2 q9) (bH q10) f11 (b2 m12_0 m12_1) (b2 m13_0 m13_1) (b2 m14_0 m14_1) (b2m m15_0 m15_1) f17 (bA 159 q31) f32 f34 f35 f36 f37 (bN 7 q38) f39 f40 f41 (b2 m42_0 m42_1) f43 f44 f47 f48 f49 f50 f51 (bN 13 q54) (bN 120 q55) (bN 120 q56) f57 (bN 120 q58) f59 f60 f64) (mo_t ck) sz)) (va_Qi (fun (r : Int32) (_ : Unit) => r = (sp_EM_covered x16 x29 x52 x53 m12_0 m12_1 f34 f35 f36 q38 m42_0 f49 f50 f51 p0).1) (fun _ t => ∃ (z35 : Nat → Int32) (z36 : Nat → Int32) (z49 : Nat → Int32) (z50 : Nat → Int32) (z51 : Nat → Int32) (z0 : Int32) (z46 : Nat) (z52 : Nat) (z53 : Nat), pu_E (dC, dI) (mo_w ad ck z0 (nI x16) (nI x18) (nI x19) x20 (nI x21) (nI x22) x23 x24 x25 (nI x26) x27 (nI x28) (nI x29) (nI x30) (nI x33) x45 (nI z46) (nI z52) (nI z53) (nI x61) (nI x62) (nI x63) (nI x65) x66 f1 f2 f3 (bN 3 q4) (bN 7 q5) (bN 7 q6) (bN 4 q7) f8 (bN 2 q9) (bH q10) f11 (b2 m12_0 m12_1) (b2 m13_0 m13_1) (b2 m14_0 m14_1) (b2m m15_0 m15_1) f17 (bA 159 q31) f32 f34 z35 z36 f37 (bN 7 q38) f39 f40 f41 (b2 m42_0 m42_1) f43 f44 f47 f48 z49 z50 z51 (bN 13 q54) (bN 120 q55) (bN 120 q56) f57 (bN 120 q58) f59 f60 f64) (mo_t ck) (va_A ((mo_w ad ck x0 (nI x16) (nI x18) (nI x19) x20 (nI x21) (nI x22) x23 x24 x25 (nI x26) x27 (nI x28) (nI x29) (nI x30) (nI x33) x45 (nI x46) (nI x52) (nI x53) (nI x61) (nI x62) (nI x63) (nI x65) x66 f1 f2 f3 (bN 3 q4) (bN 7 q5) (bN 7 q6) (bN 4 q7) f8 (bN 2 q9) (bH q10) f11 (b2 m12_0 m12_1) (b2 m13_0 m13_1) (b2 m14_0 m14_1) (b2m m15_0 m15_1) f17 (bA 159 q31) f32 f34 f35 f36 f37 (bN 7 q38) f39 f40 f41 (b2 m42_0 m42_1) f43 f44 f47 f48 f49 f50 f51 (bN 13 q54) (bN 120 q55) (bN 120 q56) f57 (bN 120 q58) f59 f60 f64)) sz) t ∧ (z46 ≤ 5) ∧ (z52 ≤ 2400) ∧ (z53 ≤ 119) ∧ ((z35, z36, z49, z50, z51, z0, z46, z52, z53) = (sp_EM_covered x16 x29 x52 x53 m12_0 m12_1 f34 f35 f36 q38 m42_0 f49 f50 f51 p0).2)) (va_A ((mo_w ad ck x0 (nI x16) (nI x18) (nI x19) x20 (nI x21) (nI x22) x23 x24 x25 (nI x26) x27 (nI x28) (nI x29) (nI x30) (nI x33) x45 (nI x46) (nI x52) (nI x53) (nI x61) (nI x62) (nI x63) (nI x65) x66 f1 f2 f3 (bN 3 q4) (bN 7 q5) (bN 7 q6) (bN 4 q7) f8 (bN 2 q9) (bH q10) f11 (b2 m12_0 m12_1) (b2 m13_0 m13_1) (b2 m14_0 m14_1) (b2m m15_0 m15_1) f17 (bA 159 q31) f32 f34 f35 f36 f37 (bN 7 q38) f39 f40 f41 (b2 m42_0 m42_1) f43 f44 f47 f48 f49 f50 f51 (bN 13 q54) (bN 120 q55) (bN 120 q56) f57 (bN 120 q58) f59 f60 f64)) sz)) 0 0 (va_A ((mo_w ad ck x0 (nI x16) (nI x18) (nI x19) x20 (nI x21) (nI x22) x23 x24 x25 (nI x26) x27 (nI x28) (nI x29) (nI x30) (nI x33) x45 (nI x46) (nI x52) (nI x53) (nI x61) (nI x62) (nI x63) (nI x65) x66 f1 f2 f3 (bN 3 q4) (bN 7 q5) (bN 7 q6) (bN 4 q7) f8 (bN 2 q9) (bH q10) f11 (b2 m12_0 m12_1) (b2 m13_0 m13_1) (b2 m14_0 m14_1) (b2m m15_0 m15_1) f17 (bA 159 q31) f32 f34 f35 f36 f37 (bN 7 q38) f39 f40 f41 (b2 m42_0 m42_1) f43 f44 f47 f48 f49 f50 f51 (bN 13 q54) (bN 120 q55) (bN 120 q56) f57 (bN 120 q58) f59 f60 f64)) sz) := by
  refine Met.ofW (cc := cX9_covered) (maxL := 3) (ret := (some .int)) (by decide) rfl ?_
  intro p e s m args below meth c s₁ B hml hv
  obtain ⟨rfl, rfl, hP, hK, hD0⟩ := hv
  have hx := B.exec
  have hb := B.bytes
  have hr := B.returns
  have hts := atoms_spec (ws := vs_EM_covered) B.pre
  have v_1 := hts (.fieldLink RX9 142 "ClockReachModel" "thrown" "I") (List.mem_cons_of_mem _ vm_5)
  have v_7 := hts (.fieldLink RX9 411 "ClockReachModel" "coverMany" "I") (List.mem_cons_of_mem _ vm_290)
  have v_8 := hts (.fieldLink RX9 92 "ClockReachModel" "stateMany" "[I") (List.mem_cons_of_mem _ vm_164)
  have v_9 := hts (.fieldLink RX9 68 "ClockReachModel" "zone" "[I") (List.mem_cons_of_mem _ vm_214)
  have v_10 := hts (.fieldLink RX9 71 "ClockReachModel" "z" "[I") (List.mem_cons_of_mem _ vm_219)
  have v_18 := hts (.fieldLink RX9 80 "ClockReachModel" "statePlace" "[I") (List.mem_cons_of_mem _ vm_223)
  have v_19 := hts (.fieldLink RX9 115 "ClockReachModel" "covers" "[I") (List.mem_cons_of_mem _ vm_285)
  have hown : s.vm.findClass RX9 = some m.cls := findClass_of_methodNamed B.named
  have hlocks := B.notSynchronized
  have hiX9 : ∀ w ∈ wsX90, w ∈ vs_EM_covered := fun _ h => List.mem_cons_of_mem _ (vmi_L h)
  have hD := hD0.self (sz := s.heap.size)
  generalize hAe : va_A ((mo_w ad ck x0 (nI x16) (nI x18) (nI x19) x20 (nI x21) (nI x22) x23 x24 x25 (nI x26) x27 (nI x28) (nI x29) (nI x30) (nI x33) x45 (nI x46) (nI x52) (nI x53) (nI x61) (nI x62) (nI x63) (nI x65) x66 f1 f2 f3 (bN 3 q4) (bN 7 q5) (bN 7 q6) (bN 4 q7) f8 (bN 2 q9) (bH q10) f11 (b2 m12_0 m12_1) (b2 m13_0 m13_1) (b2 m14_0 m14_1) (b2m m15_0 m15_1) f17 (bA 159 q31) f32 f34 f35 f36 f37 (bN 7 q38) f39 f40 f41 (b2 m42_0 m42_1) f43 f44 f47 f48 f49 f50 f51 (bN 13 q54) (bN 120 q55) (bN 120 q56) f57 (bN 120 q58) f59 f60 f64)) s.heap.size = A at hD ⊢
  have hA : ∀ q : Nat, s.heap.size ≤ q → A q := fun q h => by rw [← hAe]; exact Or.inr h
  have hS : va_S A s.heap s.heap [] := va_S.rf
  have hl := lv_entry ([.ref (ad 0), .int p0]) (n := 3) (Nat.le_of_ble_eq_true rfl)
  rw [lg_entry_eq]
  generalize (lg_sl ([.ref (ad 0), .int p0]) ++ List.replicate (3 - (lg_sl ([.ref (ad 0), .int p0])).length) Slot.unset).toArray = ls at hl ⊢
  have hl : lv_has ls 3 [(0, .ref (ad 0)), (1, .int p0)] := hl
  obtain ⟨RR, hRR⟩ : ∃ x, x = (sp_EM_covered x16 x29 x52 x53 m12_0 m12_1 f34 f35 f36 q38 m42_0 f49 f50 f51 p0) := ⟨_, rfl⟩
  have hsp := hRR
  refine lv_aload_n hx hb dX9_covered_0 rfl (lv_at hl 0 rfl) ?_
  refine lv_iconst (v := 0) hx hb dX9_covered_1 (by decide) ?_
  refine va_put (D := (dC, dI)) (ci := 9) (v := .int 0) (ty := .int) (C := RX9) (T := TX9) (N := 67) hx hb hts hiX9 tyX9 tyX9_ok nmX9 hown hK hP hD hS 0 rfl rfl 0 (by decide) v_1 (fun _ h9 => h9) rfl (by decide +kernel) rfl rfl (Nat.le_of_ble_eq_true rfl) dX9_covered_2 (fun H locs hP hD hS => ?_)
  have hP : va_P (dC, dI) vwCl (mo_w ad ck 0 (nI x16) (nI x18) (nI x19) x20 (nI x21) (nI x22) x23 x24 x25 (nI x26) x27 (nI x28) (nI x29) (nI x30) (nI x33) x45 (nI x46) (nI x52) (nI x53) (nI x61) (nI x62) (nI x63) (nI x65) x66 f1 f2 f3 (bN 3 q4) (bN 7 q5) (bN 7 q6) (bN 4 q7) f8 (bN 2 q9) (bH q10) f11 (b2 m12_0 m12_1) (b2 m13_0 m13_1) (b2 m14_0 m14_1) (b2m m15_0 m15_1) f17 (bA 159 q31) f32 f34 f35 f36 f37 (bN 7 q38) f39 f40 f41 (b2 m42_0 m42_1) f43 f44 f47 f48 f49 f50 f51 (bN 13 q54) (bN 120 q55) (bN 120 q56) f57 (bN 120 q58) f59 f60 f64) H := hP
  have hD : va_D A (mo_w ad ck 0 (nI x16) (nI x18) (nI x19) x20 (nI x21) (nI x22) x23 x24 x25 (nI x26) x27 (nI x28) (nI x29) (nI x30) (nI x33) x45 (nI x46) (nI x52) (nI x53) (nI x61) (nI x62) (nI x63) (nI x65) x66 f1 f2 f3 (bN 3 q4) (bN 7 q5) (bN 7 q6) (bN 4 q7) f8 (bN 2 q9) (bH q10) f11 (b2 m12_0 m12_1) (b2 m13_0 m13_1) (b2 m14_0 m14_1) (b2m m15_0 m15_1) f17 (bA 159 q31) f32 f34 f35 f36 f37 (bN 7 q38) f39 f40 f41 (b2 m42_0 m42_1) f43 f44 f47 f48 f49 f50 f51 (bN 13 q54) (bN 120 q55) (bN 120 q56) f57 (bN 120 q58) f59 f60 f64) := hD
  refine lv_aload_n hx hb dX9_covered_5 rfl (lv_at hl 0 rfl) ?_
  refine lv_iload_n hx hb dX9_covered_6 rfl (lv_at hl 1 rfl) ?_
  have hFc := pu_free hD hS hA
  refine va_calli (va_runV (As := [.int p0]) (rest := []) ⟨hx, hb, hml, hown, hts⟩ (c_EM_isState l dC dI _ ad ck 0 x16 x18 x19 x20 x21 x22 x23 x24 x25 x26 x27 x28 x29 x30 x33 x45 x46 x52 x53 x61 x62 x63 x65 x66 f1 f2 f3 q4 q5 q6 q7 f8 q9 q10 f11 m12_0 m12_1 m13_0 m13_1 m14_0 m14_1 m15_0 m15_1 f17 q31 f32 f34 f35 f36 f37 q38 f39 f40 f41 m42_0 m42_1 f43 f44 f47 f48 f49 f50 f51 q54 q55 q56 f57 q58 f59 f60 f64 p0 hx16 hx18 hx19 hx21 hx22 hx26 hx28 hx29 hx30 hx33 hx46 hx52 hx53 hx61 hx62 hx63 hx65 hm12_0 hm12_1 hm13_0 hm13_1 hm14_0 hm14_1 hm15_0 hm15_1 hm42_0 hm42_1) (cwV 1 hts g_EM_covered_EM_isState rfl rfl rfl (by decide +kernel) ⟨Nat.le_of_ble_eq_true rfl, Nat.le_of_ble_eq_true rfl⟩) ⟨pu_bl, va_recv hK hP (ci := 9) (q0 := 0) rfl rfl, pu_in hP hK hD⟩ rfl rfl hl.1 rfl (lv_room (Nat.le_of_ble_eq_true rfl)) dX9_covered_7 ⟨Nat.le_of_ble_eq_true rfl, Nat.le_of_ble_eq_true rfl⟩) hS (fun q _ h => hFc q h) hFc (fun r_1 u t H1 locs ht hvm hw hB hz1 hk1 hS => ?_)
  obtain ⟨z46_2, ⟨hP1, -, hD1⟩, hz46_2, xr_1_0⟩ := hB
  rw [ht] at hP1
  have hP := hP1
  have hD := pu_all hFc hD1
  clear hP1 hD1 hFc
  clear hk1 hz1 ht hvm
  generalize H1 = H at hP hS ⊢
  replace hsp := hsp.trans (slet_eq xr_1_0)
  rcases hw with ⟨rfl, hw⟩ | ⟨rfl, hn⟩
  · obtain ⟨hs1, n_3, hn_3, rfl⟩ := hw
    replace hsp := hsp.trans (if_pos ⟨hs1, in_q hn_3 (by omega)⟩)
    replace hsp := hsp.trans (slet_eq (nI_cl (n := n_3) (by omega)))
    refine lv_if_ne (tgt := 15) hx hb dX9_covered_10 (by decide) (fun _ => ?_) (fun z => absurd z (by decide))
    refine lv_aload_n hx hb dX9_covered_15 rfl (lv_at hl 0 rfl) ?_
    refine lv_iconst (v := 0) hx hb dX9_covered_16 (by decide) ?_
    refine va_put (D := (dC, dI)) (ci := 9) (v := .int 0) (ty := .int) (C := RX9) (T := TX9) (N := 67) hx hb hts hiX9 tyX9 tyX9_ok nmX9 hown hK hP hD hS 0 rfl rfl 53 (by decide) v_7 (fun _ h9 => h9) rfl (by decide +kernel) rfl rfl (Nat.le_of_ble_eq_true rfl) dX9_covered_17 (fun H locs hP hD hS => ?_)
    have hP : va_P (dC, dI) vwCl (mo_w ad ck 0 (nI x16) (nI x18) (nI x19) x20 (nI x21) (nI x22) x23 x24 x25 (nI x26) x27 (nI x28) (nI x29) (nI x30) (nI x33) x45 (nI z46_2) (nI x52) 0 (nI x61) (nI x62) (nI x63) (nI x65) x66 f1 f2 f3 (bN 3 q4) (bN 7 q5) (bN 7 q6) (bN 4 q7) f8 (bN 2 q9) (bH q10) f11 (b2 m12_0 m12_1) (b2 m13_0 m13_1) (b2 m14_0 m14_1) (b2m m15_0 m15_1) f17 (bA 159 q31) f32 f34 f35 f36 f37 (bN 7 q38) f39 f40 f41 (b2 m42_0 m42_1) f43 f44 f47 f48 f49 f50 f51 (bN 13 q54) (bN 120 q55) (bN 120 q56) f57 (bN 120 q58) f59 f60 f64) H := hP
    have hD : va_D A (mo_w ad ck 0 (nI x16) (nI x18) (nI x19) x20 (nI x21) (nI x22) x23 x24 x25 (nI x26) x27 (nI x28) (nI x29) (nI x30) (nI x33) x45 (nI z46_2) (nI x52) 0 (nI x61) (nI x62) (nI x63) (nI x65) x66 f1 f2 f3 (bN 3 q4) (bN 7 q5) (bN 7 q6) (bN 4 q7) f8 (bN 2 q9) (bH q10) f11 (b2 m12_0 m12_1) (b2 m13_0 m13_1) (b2 m14_0 m14_1) (b2m m15_0 m15_1) f17 (bA 159 q31) f32 f34 f35 f36 f37 (bN 7 q38) f39 f40 f41 (b2 m42_0 m42_1) f43 f44 f47 f48 f49 f50 f51 (bN 13 q54) (bN 120 q55) (bN 120 q56) f57 (bN 120 q58) f59 f60 f64) := hD
    refine lv_iconst (v := 0) hx hb dX9_covered_20 (by decide) ?_
    refine lv_istore_n (lv' := [(2, .int 0), (0, .ref (ad 0)), (1, .int (nI n_3))]) hx hb dX9_covered_21 rfl hl (by decide) rfl (fun ls hl => ?_)
    obtain ⟨lf_13, dlf_13, hlf_13, hsp⟩ := itr_ex hsp
    delta sp_EM_covered_L1 at hlf_13
    refine pu_while (fun nn H locs ls => ∃ (g_8 : Nat → Int32) (g_9 : Nat) (g_10 : Nat), nn = 120 - g_10 ∧ g_9 ≤ 119 ∧ g_10 ≤ 120 ∧ ((g_10 ≤ n_3 ∧ g_9 ≤ g_10) ∨ (n_3 < g_10 ∧ g_9 + 1 ≤ g_10)) ∧ RR = itrv dlf_13 lf_13 (g_8, g_9, g_10) ∧ va_P (dC, dI) vwCl (mo_w ad ck 0 (nI x16) (nI x18) (nI x19) x20 (nI x21) (nI x22) x23 x24 x25 (nI x26) x27 (nI x28) (nI x29) (nI x30) (nI x33) x45 (nI z46_2) (nI x52) (nI g_9) (nI x61) (nI x62) (nI x63) (nI x65) x66 f1 f2 f3 (bN 3 q4) (bN 7 q5) (bN 7 q6) (bN 4 q7) f8 (bN 2 q9) (bH q10) f11 (b2 m12_0 m12_1) (b2 m13_0 m13_1) (b2 m14_0 m14_1) (b2m m15_0 m15_1) f17 (bA 159 q31) f32 f34 f35 f36 f37 (bN 7 q38) f39 f40 f41 (b2 m42_0 m42_1) f43 f44 f47 f48 f49 f50 g_8 (bN 13 q54) (bN 120 q55) (bN 120 q56) f57 (bN 120 q58) f59 f60 f64) H ∧ va_D A (mo_w ad ck 0 (nI x16) (nI x18) (nI x19) x20 (nI x21) (nI x22) x23 x24 x25 (nI x26) x27 (nI x28) (nI x29) (nI x30) (nI x33) x45 (nI z46_2) (nI x52) (nI g_9) (nI x61) (nI x62) (nI x63) (nI x65) x66 f1 f2 f3 (bN 3 q4) (bN 7 q5) (bN 7 q6) (bN 4 q7) f8 (bN 2 q9) (bH q10) f11 (b2 m12_0 m12_1) (b2 m13_0 m13_1) (b2 m14_0 m14_1) (b2m m15_0 m15_1) f17 (bA 159 q31) f32 f34 f35 f36 f37 (bN 7 q38) f39 f40 f41 (b2 m42_0 m42_1) f43 f44 f47 f48 f49 f50 g_8 (bN 13 q54) (bN 120 q55) (bN 120 q56) f57 (bN 120 q58) f59 f60 f64) ∧ va_S A s.heap H locs ∧ lv_has ls 3 [(0, .ref (ad 0)), (1, .int (nI n_3)), (2, .int (nI g_10))]) 22 ?_ _ _ _ _ ⟨f51, 0, 0, rfl, (Nat.le_of_ble_eq_true rfl), (Nat.le_of_ble_eq_true rfl), by omega, hsp, hP, hD, hS, lv_sub hl [1, 2, 0] rfl⟩
    rintro nn ih_12 H locs ls ⟨g_8, g_9, g_10, rfl, hg_9, hg_10, he_11, he_15, hP, hD, hS, hl⟩
    obtain ⟨S_14, hsp, hin_16, hout_17⟩ := itr_step hlf_13 he_15
    refine lv_iload_n hx hb dX9_covered_22 rfl (lv_at hl 2 rfl) ?_
    refine lv_aload_n hx hb dX9_covered_23 rfl (lv_at hl 0 rfl) ?_
    refine va_get (D := (dC, dI)) (ci := 9) (v := .ref (ad 42)) (C := RX9) (T := TX9) (N := 67) hx hb hts hiX9 hown hK hP 0 rfl rfl 42 (by decide) v_8 (fun _ h9 => h9) rfl dX9_covered_24 ?_
    refine lv_iconst (v := 0) hx hb dX9_covered_27 (by decide) ?_
    refine va_iald hx hb hK hP 27 26 rfl rfl (vp_in_nI (n := 0) (Nat.le_of_ble_eq_true rfl) (Nat.le_of_ble_eq_true rfl)) dX9_covered_28 ?_
    refine lv_topi (fun y_18 ey_18 => ?_)
    have qy_18 := ey_18.trans b2_0
    clear ey_18
    obtain rfl : y_18 = nI m42_0 := qy_18
    refine lv_icmp_ge (tgt := 90) hx hb dX9_covered_29 (by decide) (fun c_19 => ?_) (fun c_19 => ?_)
    · have c_19 : m42_0 ≤ g_10 := (nI_leI (a := m42_0) (b := g_10) (Nat.lt_of_le_of_lt hm42_0 (Nat.le_of_ble_eq_true rfl)) (Nat.lt_of_le_of_lt hg_10 (Nat.le_of_ble_eq_true rfl))).mp c_19
      replace hsp := hsp.trans (if_pos c_19)
      have hsp := hout_17 _ hsp
      refine lv_aload_n hx hb dX9_covered_90 rfl (lv_at hl 0 rfl) ?_
      refine va_get (D := (dC, dI)) (ci := 9) (v := .ref (ad 34)) (C := RX9) (T := TX9) (N := 67) hx hb hts hiX9 hown hK hP 0 rfl rfl 34 (by decide) v_9 (fun _ h9 => h9) rfl dX9_covered_91 ?_
      refine lv_bipush (v := 25) hx hb dX9_covered_94 (by decide) ?_
      refine lv_iload_n hx hb dX9_covered_96 rfl (lv_at hl 1 rfl) ?_
      refine lv_imul hx hb dX9_covered_97 ?_
      refine lv_topi (fun y_20 ey_20 => ?_)
      obtain rfl : y_20 = (nI (25 * n_3)) := ey_20.trans (pk_mul 25 n_3)
      refine lv_aload_n hx hb dX9_covered_98 rfl (lv_at hl 0 rfl) ?_
      refine va_get (D := (dC, dI)) (ci := 9) (v := .ref (ad 35)) (C := RX9) (T := TX9) (N := 67) hx hb hts hiX9 hown hK hP 0 rfl rfl 35 (by decide) v_10 (fun _ h9 => h9) rfl dX9_covered_99 ?_
      refine lv_iconst (v := 0) hx hb dX9_covered_102 (by decide) ?_
      have hFc := pu_free hD hS hA
      refine va_callv (va_runS (As := [.ref (ad 34), .int (nI (25 * n_3)), .ref (ad 35), .int 0]) (rest := []) ⟨hx, hb, hml, hown, hts⟩ (c_EM_copies_nz l dC dI _ ad ck 0 x16 x18 x19 x20 x21 x22 x23 x24 x25 x26 x27 x28 x29 x30 x33 x45 z46_2 x52 g_9 x61 x62 x63 x65 x66 f1 f2 f3 q4 q5 q6 q7 f8 q9 q10 f11 m12_0 m12_1 m13_0 m13_1 m14_0 m14_1 m15_0 m15_1 f17 q31 f32 f34 f35 f36 f37 q38 f39 f40 f41 m42_0 m42_1 f43 f44 f47 f48 f49 f50 g_8 q54 q55 q56 f57 q58 f59 f60 f64 (25 * n_3) hx16 hx18 hx19 hx21 hx22 hx26 hx28 hx29 hx30 hx33 (Nat.le_trans hz46_2 (Nat.le_of_ble_eq_true rfl)) hx52 hg_9 hx61 hx62 hx63 hx65 hm12_0 hm12_1 hm13_0 hm13_1 hm14_0 hm14_1 hm15_0 hm15_1 hm42_0 hm42_1 (by omega)) (va_cwS 4 hts g_EM_covered_EM_copies_nz rfl rfl rfl (by decide +kernel) ⟨Nat.le_of_ble_eq_true rfl, Nat.le_of_ble_eq_true rfl⟩) ⟨pu_bl, pu_in hP hK hD⟩ rfl rfl hl.1 rfl (lv_room (Nat.le_of_ble_eq_true rfl)) dX9_covered_103 ⟨Nat.le_of_ble_eq_true rfl, Nat.le_of_ble_eq_true rfl⟩) hS (fun q _ h => hFc q h) hFc (fun u t H1 locs ht hvm hw hB hz1 hk1 hS => ?_)
      obtain ⟨z35_22, ⟨hP1, -, hD1⟩, xr_21_0⟩ := hB
      rw [ht] at hP1
      have hP := hP1
      have hD := pu_all hFc hD1
      clear hP1 hD1 hFc
      clear hk1 hz1 ht hvm
      generalize H1 = H at hP hS ⊢
      replace hsp := hsp.trans (slet_eq xr_21_0)
      refine lv_aload_n hx hb dX9_covered_106 rfl (lv_at hl 0 rfl) ?_
      have hFc := pu_free hD hS hA
      refine va_calli (va_runV (As := []) (rest := []) ⟨hx, hb, hml, hown, hts⟩ (c_EM_isOver l dC dI _ ad ck 0 x16 x18 x19 x20 x21 x22 x23 x24 x25 x26 x27 x28 x29 x30 x33 x45 z46_2 x52 g_9 x61 x62 x63 x65 x66 f1 f2 f3 q4 q5 q6 q7 f8 q9 q10 f11 m12_0 m12_1 m13_0 m13_1 m14_0 m14_1 m15_0 m15_1 f17 q31 f32 f34 z35_22 f36 f37 q38 f39 f40 f41 m42_0 m42_1 f43 f44 f47 f48 f49 f50 g_8 q54 q55 q56 f57 q58 f59 f60 f64 hx16 hx18 hx19 hx21 hx22 hx26 hx28 hx29 hx30 hx33 (Nat.le_trans hz46_2 (Nat.le_of_ble_eq_true rfl)) hx52 hg_9 hx61 hx62 hx63 hx65 hm12_0 hm12_1 hm13_0 hm13_1 hm14_0 hm14_1 hm15_0 hm15_1 hm42_0 hm42_1) (cwV 0 hts g_EM_covered_EM_isOver rfl rfl rfl (by decide +kernel) ⟨Nat.le_of_ble_eq_true rfl, Nat.le_of_ble_eq_true rfl⟩) ⟨pu_bl, va_recv hK hP (ci := 9) (q0 := 0) rfl rfl, pu_in hP hK hD⟩ rfl rfl hl.1 rfl (lv_room (Nat.le_of_ble_eq_true rfl)) dX9_covered_107 ⟨Nat.le_of_ble_eq_true rfl, Nat.le_of_ble_eq_true rfl⟩) hS (fun q _ h => hFc q h) hFc (fun r_23 u t H1 locs ht hvm hw hB hz1 hk1 hS => ?_)
      obtain ⟨z35_24, z36_25, z49_26, z50_27, z52_28, ⟨hP1, -, hD1⟩, hz52_28, xr_23_0⟩ := hB
      rw [ht] at hP1
      have hP := hP1
      have hD := pu_all hFc hD1
      clear hP1 hD1 hFc
      clear hk1 hz1 ht hvm
      generalize H1 = H at hP hS ⊢
      obtain ⟨u_29, hu_29, rfl, iu_29⟩ := hw
      have iu_29 : (u_29, z35_24, z36_25, z49_26, z50_27, z52_28) = (sp_EM_isOver z46_2 g_9 z35_22 f36 f49 f50 g_8) := Prod.ext iu_29 xr_23_0
      replace hsp := hsp.trans (slet_eq iu_29)
      refine lv_if_eq (tgt := 117) hx hb dX9_covered_110 (by decide) (fun c_30 => ?_) (fun c_30 => ?_)
      · have c_30 : u_29 = 0 := (nI_eq (a := u_29) (b := 0) (Nat.lt_of_le_of_lt hu_29 (Nat.le_of_ble_eq_true rfl)) (Nat.le_of_ble_eq_true rfl)).mp c_30
        replace hsp := hsp.trans (if_pos c_30)
        refine lv_iconst (v := 1) hx hb dX9_covered_117 (by decide) ?_
        exact W.iret (v := 1) hx hb hr (fun t ht hW => ⟨⟨1, (), rfl, (congrArg Prod.fst (hsp.symm.trans hRR)), ⟨z35_24, z36_25, z49_26, z50_27, g_8, 0, z46_2, z52_28, g_9, ⟨by rw [ht]; exact hP, va_K.moved hW.alike hK, hD⟩, (Nat.le_trans hz46_2 (Nat.le_of_ble_eq_true rfl)), hz52_28, hg_9, (congrArg Prod.snd (hsp.symm.trans hRR))⟩⟩, hS.F ht⟩) hS.2.2 dX9_covered_118
      · have c_30 : ¬ u_29 = 0 := fun z => c_30 ((nI_eq (a := u_29) (b := 0) (Nat.lt_of_le_of_lt hu_29 (Nat.le_of_ble_eq_true rfl)) (Nat.le_of_ble_eq_true rfl)).mpr z)
        replace hsp := hsp.trans (if_neg c_30)
        refine lv_iconst (v := 0) hx hb dX9_covered_113 (by decide) ?_
        refine lv_goto (tgt := 118) hx hb dX9_covered_114 (by decide) ?_
        exact W.iret (v := 0) hx hb hr (fun t ht hW => ⟨⟨0, (), rfl, (congrArg Prod.fst (hsp.symm.trans hRR)), ⟨z35_24, z36_25, z49_26, z50_27, g_8, 0, z46_2, z52_28, g_9, ⟨by rw [ht]; exact hP, va_K.moved hW.alike hK, hD⟩, (Nat.le_trans hz46_2 (Nat.le_of_ble_eq_true rfl)), hz52_28, hg_9, (congrArg Prod.snd (hsp.symm.trans hRR))⟩⟩, hS.F ht⟩) hS.2.2 dX9_covered_118
    · have c_19 : ¬ m42_0 ≤ g_10 := fun z => c_19 ((nI_leI (a := m42_0) (b := g_10) (Nat.lt_of_le_of_lt hm42_0 (Nat.le_of_ble_eq_true rfl)) (Nat.lt_of_le_of_lt hg_10 (Nat.le_of_ble_eq_true rfl))).mpr z)
      replace hsp := hsp.trans (if_neg c_19)
      refine lv_iload_n hx hb dX9_covered_32 rfl (lv_at hl 2 rfl) ?_
      refine lv_iload_n hx hb dX9_covered_33 rfl (lv_at hl 1 rfl) ?_
      refine lv_icmp_eq (tgt := 84) hx hb dX9_covered_34 (by decide) (fun c_31 => ?_) (fun c_31 => ?_)
      · have c_31 : g_10 = n_3 := (nI_eq (a := g_10) (b := n_3) (Nat.lt_of_le_of_lt hg_10 (Nat.le_of_ble_eq_true rfl)) (by omega)).mp c_31
        replace hsp := hsp.trans (if_pos c_31)
        refine lv_iinc (v := (nI (g_10 + 1))) (lv' := [(2, .int (nI (g_10 + 1))), (0, .ref (ad 0)), (1, .int (nI n_3))]) hx hb dX9_covered_84 hl (k := 2) rfl (nI_1 _) (by decide) rfl (fun ls hl => ?_)
        refine lv_goto (tgt := 22) hx hb dX9_covered_87 (by decide) ?_
        exact ih_12 (120 - (g_10 + 1)) (by omega) _ _ _ ⟨g_8, g_9, (g_10 + 1), rfl, hg_9, (by omega), by omega, hin_16 _ hsp, hP, hD, hS, lv_sub hl [1, 2, 0] rfl⟩
      · have c_31 : ¬ g_10 = n_3 := fun z => c_31 ((nI_eq (a := g_10) (b := n_3) (Nat.lt_of_le_of_lt hg_10 (Nat.le_of_ble_eq_true rfl)) (by omega)).mpr z)
        replace hsp := hsp.trans (if_neg c_31)
        refine lv_aload_n hx hb dX9_covered_37 rfl (lv_at hl 0 rfl) ?_
        refine va_get (D := (dC, dI)) (ci := 9) (v := .ref (ad 38)) (C := RX9) (T := TX9) (N := 67) hx hb hts hiX9 hown hK hP 0 rfl rfl 38 (by decide) v_18 (fun _ h9 => h9) rfl dX9_covered_38 ?_
        refine lv_iload_n hx hb dX9_covered_41 rfl (lv_at hl 2 rfl) ?_
        refine va_iald hx hb hK hP 23 22 rfl rfl (vp_in_nI (n := g_10) (Nat.lt_of_le_of_lt hg_10 (Nat.le_of_ble_eq_true rfl)) (Nat.le_of_ble_eq_true rfl)) dX9_covered_42 ?_
        refine lv_topi (fun y_32 ey_32 => ?_)
        obtain ⟨u_33, hu_33, qu_33, xu_33⟩ := bN_getx 7 q38 (n := g_10) (Nat.lt_of_le_of_lt hg_10 (Nat.le_of_ble_eq_true rfl))
        obtain rfl : y_32 = nI u_33 := ey_32.trans qu_33
        replace hsp := hsp.trans (slet_eq xu_33)
        refine lv_aload_n hx hb dX9_covered_43 rfl (lv_at hl 0 rfl) ?_
        refine va_get (D := (dC, dI)) (ci := 9) (v := .ref (ad 38)) (C := RX9) (T := TX9) (N := 67) hx hb hts hiX9 hown hK hP 0 rfl rfl 38 (by decide) v_18 (fun _ h9 => h9) rfl dX9_covered_44 ?_
        refine lv_iload_n hx hb dX9_covered_47 rfl (lv_at hl 1 rfl) ?_
        refine va_iald hx hb hK hP 23 22 rfl rfl (vp_in_nI (n := n_3) (by omega) (Nat.le_of_ble_eq_true rfl)) dX9_covered_48 ?_
        refine lv_topi (fun y_34 ey_34 => ?_)
        obtain ⟨u_35, hu_35, qu_35, xu_35⟩ := bN_getx 7 q38 (n := n_3) (by omega)
        obtain rfl : y_34 = nI u_35 := ey_34.trans qu_35
        replace hsp := hsp.trans (slet_eq xu_35)
        refine lv_icmp_ne (tgt := 84) hx hb dX9_covered_49 (by decide) (fun c_36 => ?_) (fun c_36 => ?_)
        · have c_36 : ¬ u_33 = u_35 := fun z => c_36 ((nI_eq (a := u_33) (b := u_35) (Nat.lt_of_le_of_lt hu_33 (Nat.le_of_ble_eq_true rfl)) (Nat.lt_of_le_of_lt hu_35 (Nat.le_of_ble_eq_true rfl))).mpr z)
          replace hsp := hsp.trans (if_neg c_36)
          refine lv_iinc (v := (nI (g_10 + 1))) (lv' := [(2, .int (nI (g_10 + 1))), (0, .ref (ad 0)), (1, .int (nI n_3))]) hx hb dX9_covered_84 hl (k := 2) rfl (nI_1 _) (by decide) rfl (fun ls hl => ?_)
          refine lv_goto (tgt := 22) hx hb dX9_covered_87 (by decide) ?_
          exact ih_12 (120 - (g_10 + 1)) (by omega) _ _ _ ⟨g_8, g_9, (g_10 + 1), rfl, hg_9, (by omega), by omega, hin_16 _ hsp, hP, hD, hS, lv_sub hl [1, 2, 0] rfl⟩
        · have c_36 : u_33 = u_35 := (nI_eq (a := u_33) (b := u_35) (Nat.lt_of_le_of_lt hu_33 (Nat.le_of_ble_eq_true rfl)) (Nat.lt_of_le_of_lt hu_35 (Nat.le_of_ble_eq_true rfl))).mp c_36
          replace hsp := hsp.trans (if_pos c_36)
          refine lv_aload_n hx hb dX9_covered_52 rfl (lv_at hl 0 rfl) ?_
          refine va_get (D := (dC, dI)) (ci := 9) (v := .ref (ad 34)) (C := RX9) (T := TX9) (N := 67) hx hb hts hiX9 hown hK hP 0 rfl rfl 34 (by decide) v_9 (fun _ h9 => h9) rfl dX9_covered_53 ?_
          refine lv_bipush (v := 25) hx hb dX9_covered_56 (by decide) ?_
          refine lv_iload_n hx hb dX9_covered_58 rfl (lv_at hl 2 rfl) ?_
          refine lv_imul hx hb dX9_covered_59 ?_
          refine lv_topi (fun y_37 ey_37 => ?_)
          obtain rfl : y_37 = (nI (25 * g_10)) := ey_37.trans (pk_mul 25 g_10)
          refine lv_aload_n hx hb dX9_covered_60 rfl (lv_at hl 0 rfl) ?_
          refine va_get (D := (dC, dI)) (ci := 9) (v := .ref (ad 51)) (C := RX9) (T := TX9) (N := 67) hx hb hts hiX9 hown hK hP 0 rfl rfl 51 (by decide) v_19 (fun _ h9 => h9) rfl dX9_covered_61 ?_
          refine lv_bipush (v := 25) hx hb dX9_covered_64 (by decide) ?_
          refine lv_aload_n hx hb dX9_covered_66 rfl (lv_at hl 0 rfl) ?_
          refine va_get (D := (dC, dI)) (ci := 9) (v := .int (nI g_9)) (C := RX9) (T := TX9) (N := 67) hx hb hts hiX9 hown hK hP 0 rfl rfl 53 (by decide) v_7 (fun _ h9 => h9) rfl dX9_covered_67 ?_
          refine lv_imul hx hb dX9_covered_70 ?_
          refine lv_topi (fun y_38 ey_38 => ?_)
          obtain rfl : y_38 = (nI (25 * g_9)) := ey_38.trans (pk_mul 25 g_9)
          have hFc := pu_free hD hS hA
          refine va_callv (va_runS (As := [.ref (ad 34), .int (nI (25 * g_10)), .ref (ad 51), .int (nI (25 * g_9))]) (rest := []) ⟨hx, hb, hml, hown, hts⟩ (c_EM_copies_nc l dC dI _ ad ck 0 x16 x18 x19 x20 x21 x22 x23 x24 x25 x26 x27 x28 x29 x30 x33 x45 z46_2 x52 g_9 x61 x62 x63 x65 x66 f1 f2 f3 q4 q5 q6 q7 f8 q9 q10 f11 m12_0 m12_1 m13_0 m13_1 m14_0 m14_1 m15_0 m15_1 f17 q31 f32 f34 f35 f36 f37 q38 f39 f40 f41 m42_0 m42_1 f43 f44 f47 f48 f49 f50 g_8 q54 q55 q56 f57 q58 f59 f60 f64 (25 * g_10) (25 * g_9) hx16 hx18 hx19 hx21 hx22 hx26 hx28 hx29 hx30 hx33 (Nat.le_trans hz46_2 (Nat.le_of_ble_eq_true rfl)) hx52 hg_9 hx61 hx62 hx63 hx65 hm12_0 hm12_1 hm13_0 hm13_1 hm14_0 hm14_1 hm15_0 hm15_1 hm42_0 hm42_1 (by omega) (by omega)) (va_cwS 4 hts g_EM_covered_EM_copies_nc rfl rfl rfl (by decide +kernel) ⟨Nat.le_of_ble_eq_true rfl, Nat.le_of_ble_eq_true rfl⟩) ⟨pu_bl, pu_in hP hK hD⟩ rfl rfl hl.1 rfl (lv_room (Nat.le_of_ble_eq_true rfl)) dX9_covered_71 ⟨Nat.le_of_ble_eq_true rfl, Nat.le_of_ble_eq_true rfl⟩) hS (fun q _ h => hFc q h) hFc (fun u t H1 locs ht hvm hw hB hz1 hk1 hS => ?_)
          obtain ⟨z51_40, ⟨hP1, -, hD1⟩, xr_39_0⟩ := hB
          rw [ht] at hP1
          have hP := hP1
          have hD := pu_all hFc hD1
          clear hP1 hD1 hFc
          clear hk1 hz1 ht hvm
          generalize H1 = H at hP hS ⊢
          replace hsp := hsp.trans (slet_eq xr_39_0)
          refine lv_aload_n hx hb dX9_covered_74 rfl (lv_at hl 0 rfl) ?_
          refine lv_dup hx hb dX9_covered_75 rfl ?_
          refine va_get (D := (dC, dI)) (ci := 9) (v := .int (nI g_9)) (C := RX9) (T := TX9) (N := 67) hx hb hts hiX9 hown hK hP 0 rfl rfl 53 (by decide) v_7 (fun _ h9 => h9) rfl dX9_covered_76 ?_
          refine lv_iconst (v := 1) hx hb dX9_covered_79 (by decide) ?_
          refine lv_iadd hx hb dX9_covered_80 ?_
          refine lv_topi (fun y_41 ey_41 => ?_)
          obtain rfl : y_41 = (nI (g_9 + 1)) := ey_41.trans (nI_add g_9 1)
          refine va_put (D := (dC, dI)) (ci := 9) (v := .int (nI (g_9 + 1))) (ty := .int) (C := RX9) (T := TX9) (N := 67) hx hb hts hiX9 tyX9 tyX9_ok nmX9 hown hK hP hD hS 0 rfl rfl 53 (by decide) v_7 (fun _ h9 => h9) rfl (by decide +kernel) rfl rfl (Nat.le_of_ble_eq_true rfl) dX9_covered_81 (fun H locs hP hD hS => ?_)
          have hP : va_P (dC, dI) vwCl (mo_w ad ck 0 (nI x16) (nI x18) (nI x19) x20 (nI x21) (nI x22) x23 x24 x25 (nI x26) x27 (nI x28) (nI x29) (nI x30) (nI x33) x45 (nI z46_2) (nI x52) (nI (g_9 + 1)) (nI x61) (nI x62) (nI x63) (nI x65) x66 f1 f2 f3 (bN 3 q4) (bN 7 q5) (bN 7 q6) (bN 4 q7) f8 (bN 2 q9) (bH q10) f11 (b2 m12_0 m12_1) (b2 m13_0 m13_1) (b2 m14_0 m14_1) (b2m m15_0 m15_1) f17 (bA 159 q31) f32 f34 f35 f36 f37 (bN 7 q38) f39 f40 f41 (b2 m42_0 m42_1) f43 f44 f47 f48 f49 f50 z51_40 (bN 13 q54) (bN 120 q55) (bN 120 q56) f57 (bN 120 q58) f59 f60 f64) H := hP
          have hD : va_D A (mo_w ad ck 0 (nI x16) (nI x18) (nI x19) x20 (nI x21) (nI x22) x23 x24 x25 (nI x26) x27 (nI x28) (nI x29) (nI x30) (nI x33) x45 (nI z46_2) (nI x52) (nI (g_9 + 1)) (nI x61) (nI x62) (nI x63) (nI x65) x66 f1 f2 f3 (bN 3 q4) (bN 7 q5) (bN 7 q6) (bN 4 q7) f8 (bN 2 q9) (bH q10) f11 (b2 m12_0 m12_1) (b2 m13_0 m13_1) (b2 m14_0 m14_1) (b2m m15_0 m15_1) f17 (bA 159 q31) f32 f34 f35 f36 f37 (bN 7 q38) f39 f40 f41 (b2 m42_0 m42_1) f43 f44 f47 f48 f49 f50 z51_40 (bN 13 q54) (bN 120 q55) (bN 120 q56) f57 (bN 120 q58) f59 f60 f64) := hD
          refine lv_iinc (v := (nI (g_10 + 1))) (lv' := [(2, .int (nI (g_10 + 1))), (0, .ref (ad 0)), (1, .int (nI n_3))]) hx hb dX9_covered_84 hl (k := 2) rfl (nI_1 _) (by decide) rfl (fun ls hl => ?_)
          refine lv_goto (tgt := 22) hx hb dX9_covered_87 (by decide) ?_
          exact ih_12 (120 - (g_10 + 1)) (by omega) _ _ _ ⟨z51_40, (g_9 + 1), (g_10 + 1), rfl, (by omega), (by omega), by omega, hin_16 _ hsp, hP, hD, hS, lv_sub hl [1, 2, 0] rfl⟩
  · replace hsp := hsp.trans (if_neg hn)
    refine lv_if_ne (tgt := 15) hx hb dX9_covered_10 (by decide) (fun z => absurd z (by decide)) (fun _ => ?_)
    refine lv_iconst (v := (-1)) hx hb dX9_covered_13 (by decide) ?_
    exact W.iret (v := (-1)) hx hb hr (fun t ht hW => ⟨⟨(-1), (), rfl, (congrArg Prod.fst (hsp.symm.trans hRR)), ⟨f35, f36, f49, f50, f51, 0, z46_2, x52, x53, ⟨by rw [ht]; exact hP, va_K.moved hW.alike hK, hD⟩, (Nat.le_trans hz46_2 (Nat.le_of_ble_eq_true rfl)), hx52, hx53, (congrArg Prod.snd (hsp.symm.trans hRR))⟩⟩, hS.F ht⟩) hS.2.2 dX9_covered_14
