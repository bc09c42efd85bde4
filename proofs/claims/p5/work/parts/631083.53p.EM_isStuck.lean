theorem dX9_isStuck_0 : decode cX9_isStuck 0 = .ok (.aload_n 0, 1) := by decide +kernel
theorem dX9_isStuck_1 : decode cX9_isStuck 1 = .ok (.iconst 0, 1) := by decide +kernel
theorem dX9_isStuck_2 : decode cX9_isStuck 2 = .ok (.putfield 411, 3) := by decide +kernel
theorem dX9_isStuck_5 : decode cX9_isStuck 5 = .ok (.iconst 0, 1) := by decide +kernel
theorem dX9_isStuck_6 : decode cX9_isStuck 6 = .ok (.istore_n 2, 1) := by decide +kernel
theorem dX9_isStuck_7 : decode cX9_isStuck 7 = .ok (.iload_n 2, 1) := by decide +kernel
theorem dX9_isStuck_8 : decode cX9_isStuck 8 = .ok (.aload_n 0, 1) := by decide +kernel
theorem dX9_isStuck_9 : decode cX9_isStuck 9 = .ok (.getfield 49, 3) := by decide +kernel
theorem dX9_isStuck_12 : decode cX9_isStuck 12 = .ok (.aload_n 0, 1) := by decide +kernel
theorem dX9_isStuck_13 : decode cX9_isStuck 13 = .ok (.getfield 258, 3) := by decide +kernel
theorem dX9_isStuck_16 : decode cX9_isStuck 16 = .ok (.iaload, 1) := by decide +kernel
theorem dX9_isStuck_17 : decode cX9_isStuck 17 = .ok (.if_icmp .ge 60, 3) := by decide +kernel
theorem dX9_isStuck_20 : decode cX9_isStuck 20 = .ok (.aload_n 0, 1) := by decide +kernel
theorem dX9_isStuck_21 : decode cX9_isStuck 21 = .ok (.iload_n 2, 1) := by decide +kernel
theorem dX9_isStuck_22 : decode cX9_isStuck 22 = .ok (.invokevirtual 289, 3) := by decide +kernel
theorem dX9_isStuck_25 : decode cX9_isStuck 25 = .ok (.aload_n 0, 1) := by decide +kernel
theorem dX9_isStuck_26 : decode cX9_isStuck 26 = .ok (.getfield 80, 3) := by decide +kernel
theorem dX9_isStuck_29 : decode cX9_isStuck 29 = .ok (.iload_n 1, 1) := by decide +kernel
theorem dX9_isStuck_30 : decode cX9_isStuck 30 = .ok (.iaload, 1) := by decide +kernel
theorem dX9_isStuck_31 : decode cX9_isStuck 31 = .ok (.if_icmp .ne 40, 3) := by decide +kernel
theorem dX9_isStuck_34 : decode cX9_isStuck 34 = .ok (.aload_n 0, 1) := by decide +kernel
theorem dX9_isStuck_35 : decode cX9_isStuck 35 = .ok (.iload_n 2, 1) := by decide +kernel
theorem dX9_isStuck_36 : decode cX9_isStuck 36 = .ok (.invokevirtual 420, 3) := by decide +kernel
theorem dX9_isStuck_39 : decode cX9_isStuck 39 = .ok (.ifCond .eq 32, 3) := by decide +kernel
theorem dX9_isStuck_42 : decode cX9_isStuck 42 = .ok (.aload_n 0, 1) := by decide +kernel
theorem dX9_isStuck_43 : decode cX9_isStuck 43 = .ok (.getfield 71, 3) := by decide +kernel
theorem dX9_isStuck_46 : decode cX9_isStuck 46 = .ok (.iconst 0, 1) := by decide +kernel
theorem dX9_isStuck_47 : decode cX9_isStuck 47 = .ok (.aload_n 0, 1) := by decide +kernel
theorem dX9_isStuck_48 : decode cX9_isStuck 48 = .ok (.getfield 115, 3) := by decide +kernel
theorem dX9_isStuck_51 : decode cX9_isStuck 51 = .ok (.bipush 25, 2) := by decide +kernel
theorem dX9_isStuck_53 : decode cX9_isStuck 53 = .ok (.aload_n 0, 1) := by decide +kernel
theorem dX9_isStuck_54 : decode cX9_isStuck 54 = .ok (.getfield 411, 3) := by decide +kernel
theorem dX9_isStuck_57 : decode cX9_isStuck 57 = .ok (.imul, 1) := by decide +kernel
theorem dX9_isStuck_58 : decode cX9_isStuck 58 = .ok (.invokestatic 362, 3) := by decide +kernel
theorem dX9_isStuck_61 : decode cX9_isStuck 61 = .ok (.aload_n 0, 1) := by decide +kernel
theorem dX9_isStuck_62 : decode cX9_isStuck 62 = .ok (.dup, 1) := by decide +kernel
theorem dX9_isStuck_63 : decode cX9_isStuck 63 = .ok (.getfield 411, 3) := by decide +kernel
theorem dX9_isStuck_66 : decode cX9_isStuck 66 = .ok (.iconst 1, 1) := by decide +kernel
theorem dX9_isStuck_67 : decode cX9_isStuck 67 = .ok (.iadd, 1) := by decide +kernel
theorem dX9_isStuck_68 : decode cX9_isStuck 68 = .ok (.putfield 411, 3) := by decide +kernel
theorem dX9_isStuck_71 : decode cX9_isStuck 71 = .ok (.iinc 2 1, 3) := by decide +kernel
theorem dX9_isStuck_74 : decode cX9_isStuck 74 = .ok (.goto (-67), 3) := by decide +kernel
theorem dX9_isStuck_77 : decode cX9_isStuck 77 = .ok (.aload_n 0, 1) := by decide +kernel
theorem dX9_isStuck_78 : decode cX9_isStuck 78 = .ok (.getfield 68, 3) := by decide +kernel
theorem dX9_isStuck_81 : decode cX9_isStuck 81 = .ok (.bipush 25, 2) := by decide +kernel
theorem dX9_isStuck_83 : decode cX9_isStuck 83 = .ok (.iload_n 1, 1) := by decide +kernel
theorem dX9_isStuck_84 : decode cX9_isStuck 84 = .ok (.imul, 1) := by decide +kernel
theorem dX9_isStuck_85 : decode cX9_isStuck 85 = .ok (.aload_n 0, 1) := by decide +kernel
theorem dX9_isStuck_86 : decode cX9_isStuck 86 = .ok (.getfield 71, 3) := by decide +kernel
theorem dX9_isStuck_89 : decode cX9_isStuck 89 = .ok (.iconst 0, 1) := by decide +kernel
theorem dX9_isStuck_90 : decode cX9_isStuck 90 = .ok (.invokestatic 362, 3) := by decide +kernel
theorem dX9_isStuck_93 : decode cX9_isStuck 93 = .ok (.aload_n 0, 1) := by decide +kernel
theorem dX9_isStuck_94 : decode cX9_isStuck 94 = .ok (.invokevirtual 417, 3) := by decide +kernel
theorem dX9_isStuck_97 : decode cX9_isStuck 97 = .ok (.ireturn, 1) := by decide +kernel
abbrev vs_EM_isStuck : List Cond := .code yX9_isStuck cX9_isStuck 3 (some .boolean) :: VM
theorem g_EM_isStuck_EM_copies_nz : GoodIn vs_EM_isStuck (va_wsS RX9 362 yX9_copies vs_EM_copies_nz) := gm_S vm_228 vm_229 vm_19 vm_230
theorem g_EM_isStuck_EM_isOver : GoodIn vs_EM_isStuck (wsV RX9 417 RX9 yX9_isOver vs_EM_isOver) := gm_V vm_291 vm_292 vm_293 vm_19 vm_294
theorem g_EM_isStuck_EM_outOf : GoodIn vs_EM_isStuck (wsV RX9 289 RX9 yX9_outOf vs_EM_outOf) := gm_V vm_41 vm_42 vm_43 vm_19 vm_44
theorem g_EM_isStuck_EM_layAhead : GoodIn vs_EM_isStuck (wsV RX9 420 RX9 yX9_layAhead vs_EM_layAhead) := gm_V vm_295 vm_296 vm_297 vm_19 vm_298
theorem g_EM_isStuck_EM_copies_zc : GoodIn vs_EM_isStuck (va_wsS RX9 362 yX9_copies vs_EM_copies_zc) := gm_S vm_228 vm_229 vm_19 vm_230
noncomputable def sp_EM_isStuck_L1 (x16 : Nat) (x46 : Nat) (f3 : Nat → Int32) (q4 : Nat → Nat) (q5 : Nat → Nat) (q6 : Nat → Nat) (q7 : Nat → Nat) (f8 : Nat → Int32) (q9 : Nat → Nat) (q10 : Nat → Nat) (f11 : Nat → Int32) (m13_0 : Nat) (m13_1 : Nat) (m14_0 : Nat) (m14_1 : Nat) (f34 : Nat → Int32) (f36 : Nat → Int32) (q38 : Nat → Nat) (f49 : Nat → Int32) (f50 : Nat → Int32) (a0 : Nat) : ((Nat → Int32) × (Nat → Int32) × Nat × Nat) → ((Nat → Int32) × (Nat → Int32) × Nat × Nat) ⊕ (Nat × (Nat → Int32) × (Nat → Int32) × (Nat → Int32) × (Nat → Int32) × (Nat → Int32) × Nat × Nat) := fun (g_6, g_7, g_8, g_9) => (slet (if x16 = 0 then m14_0 else m14_1) (fun u_18 => (if u_18 ≤ g_9 then (Sum.inr (slet (sp_EM_copies_nz f34 g_6 (25 * a0)) (fun z35_22 => (slet (sp_EM_isOver x46 g_8 z35_22 f36 f49 f50 g_7) (fun (u_29, z35_24, z36_25, z49_26, z50_27, z52_28) => (u_29, z35_24, z36_25, z49_26, z50_27, g_7, z52_28, g_8)))))) else (slet (sp_EM_outOf x16 q5 g_9) (fun u_31 => (slet (min (q38 a0) 7) (fun u_33 => (if u_31 = u_33 then (slet (sp_EM_layAhead x16 x46 f3 q4 q5 q6 q7 f8 q9 q10 f11 m13_0 m13_1 m14_0 m14_1 g_6 g_9) (fun (u_37, z35_36) => (if u_37 = 0 then (Sum.inl (z35_36, g_7, g_8, (g_9 + 1))) else (slet (sp_EM_copies_zc z35_36 g_7 (25 * g_8)) (fun z51_41 => (Sum.inl (z35_36, z51_41, (g_8 + 1), (g_9 + 1)))))))) else (Sum.inl (g_6, g_7, g_8, (g_9 + 1)))))))))))
noncomputable def sp_EM_isStuck (x16 : Nat) (x46 : Nat) (f3 : Nat → Int32) (q4 : Nat → Nat) (q5 : Nat → Nat) (q6 : Nat → Nat) (q7 : Nat → Nat) (f8 : Nat → Int32) (q9 : Nat → Nat) (q10 : Nat → Nat) (f11 : Nat → Int32) (m13_0 : Nat) (m13_1 : Nat) (m14_0 : Nat) (m14_1 : Nat) (f34 : Nat → Int32) (f35 : Nat → Int32) (f36 : Nat → Int32) (q38 : Nat → Nat) (f49 : Nat → Int32) (f50 : Nat → Int32) (f51 : Nat → Int32) (a0 : Nat) : Nat × (Nat → Int32) × (Nat → Int32) × (Nat → Int32) × (Nat → Int32) × (Nat → Int32) × Nat × Nat := (itrv (α := (Nat → Int32) × (Nat → Int32) × Nat × Nat) (β := (Nat × (Nat → Int32) × (Nat → Int32) × (Nat → Int32) × (Nat → Int32) × (Nat → Int32) × Nat × Nat)) default (sp_EM_isStuck_L1 x16 x46 f3 q4 q5 q6 q7 f8 q9 q10 f11 m13_0 m13_1 m14_0 m14_1 f34 f36 q38 f49 f50 a0) (f35, f51, 0, 0))
set_option maxHeartbeats 4000000 in
set_option maxRecDepth 100000 in
theorem c_EM_isStuck (l : Launch) (dC : Nat → ClassId) (dI : Nat → Nat → Nat) (sz : Nat) (ad : Nat → Nat) (ck : Nat → ClassId) (x0 : Int32) (x16 : Nat) (x18 : Nat) (x19 : Nat) (x20 : Int32) (x21 : Nat) (x22 : Nat) (x23 : Int32) (x24 : Int32) (x25 : Int32) (x26 : Nat) (x27 : Int32) (x28 : Nat) (x29 : Nat) (x30 : Nat) (x33 : Nat) (x45 : Int32) (x46 : Nat) (x52 : Nat) (x53 : Nat) (x61 : Nat) (x62 : Nat) (x63 : Nat) (x65 : Nat) (x66 : Int32) (f1 : Nat → Int32) (f2 : Nat → Int32) (f3 : Nat → Int32) (q4 : Nat → Nat) (q5 : Nat → Nat) (q6 : Nat → Nat) (q7 : Nat → Nat) (f8 : Nat → Int32) (q9 : Nat → Nat) (q10 : Nat → Nat) (f11 : Nat → Int32) (m12_0 m12_1 : Nat) (m13_0 m13_1 : Nat) (m14_0 m14_1 : Nat) (m15_0 m15_1 : Nat) (f17 : Nat → Int32) (q31 : Nat → Nat) (f32 : Nat → Int32) (f34 : Nat → Int32) (f35 : Nat → Int32) (f36 : Nat → Int32) (f37 : Nat → Int32) (q38 : Nat → Nat) (f39 : Nat → Int32) (f40 : Nat → Int32) (f41 : Nat → Int32) (m42_0 m42_1 : Nat) (f43 : Nat → Int32) (f44 : Nat → Int32) (f47 : Nat → Int32) (f48 : Nat → Int32) (f49 : Nat → Int32) (f50 : Nat → Int32) (f51 : Nat → Int32) (q54 : Nat → Nat) (q55 : Nat → Nat) (q56 : Nat → Nat) (f57 : Nat → Int32) (q58 : Nat → Nat) (f59 : Nat → Int32) (f60 : Nat → Int32) (f64 : Nat → Int32) (a0 : Nat) (hx16 : x16 ≤ 1) (hx18 : x18 ≤ 900) (hx19 : x19 ≤ 900) (hx21 : x21 ≤ 900) (hx22 : x22 ≤ 4) (hx26 : x26 ≤ 6) (hx28 : x28 ≤ 1) (hx29 : x29 ≤ 1) (hx30 : x30 ≤ 1) (hx33 : x33 ≤ 20) (hx46 : x46 ≤ 5) (hx52 : x52 ≤ 2400) (hx53 : x53 ≤ 119) (hx61 : x61 ≤ 119) (hx62 : x62 ≤ 2000) (hx63 : x63 ≤ 1) (hx65 : x65 ≤ 7) (hm12_0 : m12_0 ≤ 3) (hm12_1 : m12_1 ≤ 3) (hm13_0 : m13_0 ≤ 8) (hm13_1 : m13_1 ≤ 8) (hm14_0 : m14_0 ≤ 14) (hm14_1 : m14_1 ≤ 14) (hm15_0 : m15_0 ≤ 8) (hm15_1 : m15_1 ≤ 8) (hm42_0 : m42_0 ≤ 120) (hm42_1 : m42_1 ≤ 400) (ha0 : a0 ≤ 119) : Met l yX9_isStuck vs_EM_isStuck ({ frames := 5, cells := 0, slots := 0, locals := 113 }) (va_Pc [.ref (ad 0), .int (nI a0)] (pu_B (dC, dI) (mo_w ad ck x0 (nI x16) (nI x18) (nI x19) x20 (nI x21) (nI x22) x23 x24 x25 (nI x26) x27 (nI x28) (nI x29) (nI x30) (nI x33) x45 (nI x46) (nI x52) (nI x53) (nI x61) (nI x62) (nI x63) (nI x65) x66 f1 f2 f3 (bN 3 q4) (bN 7 q5) (bN 7 q6) (bN 4 q7) f8 (bN 2 q9) (bH q10) f11 (b2 m12_0 m12_1) (b2 m13_0 m13_1) (b2 m14_0 m14_1) (b2m m15_0 m15_1) f17 (bA 159 q31) f32 f34 f35 f36 f37 (bN 7 q38) f39 f40 f41 (b2 m42_0 m42_1) f43 f44 f47 f48 f49 f50 f51 (bN 13 q54) (bN 120 q55) (bN 120 q56) f57 (bN 120 q58) f59 f60 f64) (mo_t ck) sz)) (va_Qi (fun (r : Int32) (_ : Unit) => ∃ v : Nat, v ≤ 1 ∧ r = nI v ∧ v = (sp_EM_isStuck x16 x46 f3 q4 q5 q6 q7 f8 q9 q10 f11 m13_0 m13_1 m14_0 m14_1 f34 f35 f36 q38 f49 f50 f51 a0).1) (fun _ t => ∃ (z35 : Nat → Int32) (z36 : Nat → Int32) (z49 : Nat → Int32) (z50 : Nat → Int32) (z51 : Nat → Int32) (z52 : Nat) (z53 : Nat), pu_E (dC, dI) (mo_w ad ck x0 (nI x16) (nI x18) (nI x19) x20 (nI x21) (nI x22) x23 x24 x25 (nI x26) x27 (nI x28) (nI x29) (nI x30) (nI x33) x45 (nI x46) (nI z52) (nI z53) (nI x61) (nI x62) (nI x63) (nI x65) x66 f1 f2 f3 (bN 3 q4) (bN 7 q5) (bN 7 q6) (bN 4 q7) f8 (bN 2 q9) (bH q10) f11 (b2 m12_0 m12_1) (b2 m13_0 m13_1) (b2 m14_0 m14_1) (b2m m15_0 m15_1) f17 (bA 159 q31) f32 f34 z35 z36 f37 (bN 7 q38) f39 f40 f41 (b2 m42_0 m42_1) f43 f44 f47 f48 z49 z50 z51 (bN 13 q54) (bN 120 q55) (bN 120 q56) f57 (bN 120 q58) f59 f60 f64) (mo_t ck) (va_A ((mo_w ad ck x0 (nI x16) (nI x18) (nI x19) x20 (nI x21) (nI x22) x23 x24 x25 (nI x26) x27 (nI x28) (nI x29) (nI x30) (nI x33) x45 (nI x46) (nI x52) (nI x53) (nI x61) (nI x62) (nI x63) (nI x65) x66 f1 f2 f3 (bN 3 q4) (bN 7 q5) (bN 7 q6) (bN 4 q7) f8 (bN 2 q9) (bH q10) f11 (b2 m12_0 m12_1) (b2 m13_0 m13_1) (b2 m14_0 m14_1) (b2m m15_0 m15_1) f17 (bA 159 q31) f32 f34 f35 f36 f37 (bN 7 q38) f39 f40 f41 (b2 m42_0 m42_1) f43 f44 f47 f48 f49 f50 f51 (bN 13 q54) (bN 120 q55) (bN 120 q56) f57 (bN 120 q58) f59 f60 f64)) sz) t ∧ (z52 ≤ 2400) ∧ (z53 ≤ 119) ∧ ((z35, z36, z49, z50, z51, z52, z53) = (sp_EM_isStuck x16 x46 f3 q4 q5 q6 q7 f8 q9 q10 f11 m13_0 m13_1 m14_0 m14_1 f34 f35 f36 q38 f49 f50 f51 a0).2)) (va_A ((mo_w ad ck x0 (nI x16) (nI x18) (nI x19) x20 (nI x21) (nI x22) x23 x24 x25 (nI x26) x27 (nI x28) (nI x29) (nI x30) (nI x33) x45 (nI x46) (nI x52) (nI x53) (nI x61) (nI x62) (nI x63) (nI x65) x66 f1 f2 f3 (bN 3 q4) (bN 7 q5) (bN 7 q6) (bN 4 q7) f8 (bN 2 q9) (bH q10) f11 (b2 m12_0 m12_1) (b2 m13_0 m13_1) (b2 m14_0 m14_1) (b2m m15_0 m15_1) f17 (bA 159 q31) f32 f34 f35 f36 f37 (bN 7 q38) f39 f40 f41 (b2 m42_0 m42_1) f43 f44 f47 f48 f49 f50 f51 (bN 13 q54) (bN 120 q55) (bN 120 q56) f57 (bN 120 q58) f59 f60 f64)) sz)) 0 0 (va_A ((mo_w ad ck x0 (nI x16) (nI x18) (nI x19) x20 (nI x21) (nI x22) x23 x24 x25 (nI x26) x27 (nI x28) (nI x29) (nI x30) (nI x33) x45 (nI x46) (nI x52) (nI x53) (nI x61) (nI x62) (nI x63) (nI x65) x66 f1 f2 f3 (bN 3 q4) (bN 7 q5) (bN 7 q6) (bN 4 q7) f8 (bN 2 q9) (bH q10) f11 (b2 m12_0 m12_1) (b2 m13_0 m13_1) (b2 m14_0 m14_1) (b2m m15_0 m15_1) f17 (bA 159 q31) f32 f34 f35 f36 f37 (bN 7 q38) f39 f40 f41 (b2 m42_0 m42_1) f43 f44 f47 f48 f49 f50 f51 (bN 13 q54) (bN 120 q55) (bN 120 q56) f57 (bN 120 q58) f59 f60 f64)) sz) := by
  refine Met.ofW (cc := cX9_isStuck) (maxL := 3) (ret := (some .boolean)) (by decide) rfl ?_
  intro p e s m args below meth c s₁ B hml hv
  obtain ⟨rfl, rfl, hP, hK, hD0⟩ := hv
  have hx := B.exec
  have hb := B.bytes
  have hr := B.returns
  have hts := atoms_spec (ws := vs_EM_isStuck) B.pre
  have v_1 := hts (.fieldLink RX9 411 "ClockReachModel" "coverMany" "I") (List.mem_cons_of_mem _ vm_290)
  have v_2 := hts (.fieldLink RX9 49 "ClockReachModel" "edgeMany" "[I") (List.mem_cons_of_mem _ vm_45)
  have v_3 := hts (.fieldLink RX9 258 "ClockReachModel" "bank" "I") (List.mem_cons_of_mem _ vm_4)
  have v_4 := hts (.fieldLink RX9 68 "ClockReachModel" "zone" "[I") (List.mem_cons_of_mem _ vm_214)
  have v_5 := hts (.fieldLink RX9 71 "ClockReachModel" "z" "[I") (List.mem_cons_of_mem _ vm_219)
  have v_18 := hts (.fieldLink RX9 80 "ClockReachModel" "statePlace" "[I") (List.mem_cons_of_mem _ vm_223)
  have v_23 := hts (.fieldLink RX9 115 "ClockReachModel" "covers" "[I") (List.mem_cons_of_mem _ vm_285)
  have hown : s.vm.findClass RX9 = some m.cls := findClass_of_methodNamed B.named
  have hlocks := B.notSynchronized
  have hiX9 : ∀ w ∈ wsX90, w ∈ vs_EM_isStuck := fun _ h => List.mem_cons_of_mem _ (vmi_L h)
  have hD := hD0.self (sz := s.heap.size)
  generalize hAe : va_A ((mo_w ad ck x0 (nI x16) (nI x18) (nI x19) x20 (nI x21) (nI x22) x23 x24 x25 (nI x26) x27 (nI x28) (nI x29) (nI x30) (nI x33) x45 (nI x46) (nI x52) (nI x53) (nI x61) (nI x62) (nI x63) (nI x65) x66 f1 f2 f3 (bN 3 q4) (bN 7 q5) (bN 7 q6) (bN 4 q7) f8 (bN 2 q9) (bH q10) f11 (b2 m12_0 m12_1) (b2 m13_0 m13_1) (b2 m14_0 m14_1) (b2m m15_0 m15_1) f17 (bA 159 q31) f32 f34 f35 f36 f37 (bN 7 q38) f39 f40 f41 (b2 m42_0 m42_1) f43 f44 f47 f48 f49 f50 f51 (bN 13 q54) (bN 120 q55) (bN 120 q56) f57 (bN 120 q58) f59 f60 f64)) s.heap.size = A at hD ⊢
  have hA : ∀ q : Nat, s.heap.size ≤ q → A q := fun q h => by rw [← hAe]; exact Or.inr h
  have hS : va_S A s.heap s.heap [] := va_S.rf
  have hl := lv_entry ([.ref (ad 0), .int (nI a0)]) (n := 3) (Nat.le_of_ble_eq_true rfl)
  rw [lg_entry_eq]
  generalize (lg_sl ([.ref (ad 0), .int (nI a0)]) ++ List.replicate (3 - (lg_sl ([.ref (ad 0), .int (nI a0)])).length) Slot.unset).toArray = ls at hl ⊢
  have hl : lv_has ls 3 [(0, .ref (ad 0)), (1, .int (nI a0))] := hl
  obtain ⟨RR, hRR⟩ : ∃ x, x = (sp_EM_isStuck x16 x46 f3 q4 q5 q6 q7 f8 q9 q10 f11 m13_0 m13_1 m14_0 m14_1 f34 f35 f36 q38 f49 f50 f51 a0) := ⟨_, rfl⟩
  have hsp := hRR
  refine lv_aload_n hx hb dX9_isStuck_0 rfl (lv_at hl 0 rfl) ?_
  refine lv_iconst (v := 0) hx hb dX9_isStuck_1 (by decide) ?_
  refine va_put (D := (dC, dI)) (ci := 9) (v := .int 0) (ty := .int) (C := RX9) (T := TX9) (N := 67) hx hb hts hiX9 tyX9 tyX9_ok nmX9 hown hK hP hD hS 0 rfl rfl 53 (by decide) v_1 (fun _ h9 => h9) rfl (by decide +kernel) rfl rfl (Nat.le_of_ble_eq_true rfl) dX9_isStuck_2 (fun H locs hP hD hS => ?_)
  have hP : va_P (dC, dI) vwCl (mo_w ad ck x0 (nI x16) (nI x18) (nI x19) x20 (nI x21) (nI x22) x23 x24 x25 (nI x26) x27 (nI x28) (nI x29) (nI x30) (nI x33) x45 (nI x46) (nI x52) 0 (nI x61) (nI x62) (nI x63) (nI x65) x66 f1 f2 f3 (bN 3 q4) (bN 7 q5) (bN 7 q6) (bN 4 q7) f8 (bN 2 q9) (bH q10) f11 (b2 m12_0 m12_1) (b2 m13_0 m13_1) (b2 m14_0 m14_1) (b2m m15_0 m15_1) f17 (bA 159 q31) f32 f34 f35 f36 f37 (bN 7 q38) f39 f40 f41 (b2 m42_0 m42_1) f43 f44 f47 f48 f49 f50 f51 (bN 13 q54) (bN 120 q55) (bN 120 q56) f57 (bN 120 q58) f59 f60 f64) H := hP
  have hD : va_D A (mo_w ad ck x0 (nI x16) (nI x18) (nI x19) x20 (nI x21) (nI x22) x23 x24 x25 (nI x26) x27 (nI x28) (nI x29) (nI x30) (nI x33) x45 (nI x46) (nI x52) 0 (nI x61) (nI x62) (nI x63) (nI x65) x66 f1 f2 f3 (bN 3 q4) (bN 7 q5) (bN 7 q6) (bN 4 q7) f8 (bN 2 q9) (bH q10) f11 (b2 m12_0 m12_1) (b2 m13_0 m13_1) (b2 m14_0 m14_1) (b2m m15_0 m15_1) f17 (bA 159 q31) f32 f34 f35 f36 f37 (bN 7 q38) f39 f40 f41 (b2 m42_0 m42_1) f43 f44 f47 f48 f49 f50 f51 (bN 13 q54) (bN 120 q55) (bN 120 q56) f57 (bN 120 q58) f59 f60 f64) := hD
  refine lv_iconst (v := 0) hx hb dX9_isStuck_5 (by decide) ?_
  refine lv_istore_n (lv' := [(2, .int 0), (0, .ref (ad 0)), (1, .int (nI a0))]) hx hb dX9_isStuck_6 rfl hl (by decide) rfl (fun ls hl => ?_)
  obtain ⟨lf_12, dlf_12, hlf_12, hsp⟩ := itr_ex hsp
  delta sp_EM_isStuck_L1 at hlf_12
  refine pu_while (fun nn H locs ls => ∃ (g_6 : Nat → Int32) (g_7 : Nat → Int32) (g_8 : Nat) (g_9 : Nat), nn = 14 - g_9 ∧ g_8 ≤ 14 ∧ g_9 ≤ 14 ∧ g_8 ≤ g_9 ∧ RR = itrv dlf_12 lf_12 (g_6, g_7, g_8, g_9) ∧ va_P (dC, dI) vwCl (mo_w ad ck x0 (nI x16) (nI x18) (nI x19) x20 (nI x21) (nI x22) x23 x24 x25 (nI x26) x27 (nI x28) (nI x29) (nI x30) (nI x33) x45 (nI x46) (nI x52) (nI g_8) (nI x61) (nI x62) (nI x63) (nI x65) x66 f1 f2 f3 (bN 3 q4) (bN 7 q5) (bN 7 q6) (bN 4 q7) f8 (bN 2 q9) (bH q10) f11 (b2 m12_0 m12_1) (b2 m13_0 m13_1) (b2 m14_0 m14_1) (b2m m15_0 m15_1) f17 (bA 159 q31) f32 f34 g_6 f36 f37 (bN 7 q38) f39 f40 f41 (b2 m42_0 m42_1) f43 f44 f47 f48 f49 f50 g_7 (bN 13 q54) (bN 120 q55) (bN 120 q56) f57 (bN 120 q58) f59 f60 f64) H ∧ va_D A (mo_w ad ck x0 (nI x16) (nI x18) (nI x19) x20 (nI x21) (nI x22) x23 x24 x25 (nI x26) x27 (nI x28) (nI x29) (nI x30) (nI x33) x45 (nI x46) (nI x52) (nI g_8) (nI x61) (nI x62) (nI x63) (nI x65) x66 f1 f2 f3 (bN 3 q4) (bN 7 q5) (bN 7 q6) (bN 4 q7) f8 (bN 2 q9) (bH q10) f11 (b2 m12_0 m12_1) (b2 m13_0 m13_1) (b2 m14_0 m14_1) (b2m m15_0 m15_1) f17 (bA 159 q31) f32 f34 g_6 f36 f37 (bN 7 q38) f39 f40 f41 (b2 m42_0 m42_1) f43 f44 f47 f48 f49 f50 g_7 (bN 13 q54) (bN 120 q55) (bN 120 q56) f57 (bN 120 q58) f59 f60 f64) ∧ va_S A s.heap H locs ∧ lv_has ls 3 [(0, .ref (ad 0)), (1, .int (nI a0)), (2, .int (nI g_9))]) 7 ?_ _ _ _ _ ⟨f35, f51, 0, 0, rfl, (Nat.le_of_ble_eq_true rfl), (Nat.le_of_ble_eq_true rfl), by omega, hsp, hP, hD, hS, lv_sub hl [1, 2, 0] rfl⟩
  rintro nn ih_11 H locs ls ⟨g_6, g_7, g_8, g_9, rfl, hg_8, hg_9, he_10, he_14, hP, hD, hS, hl⟩
  obtain ⟨S_13, hsp, hin_15, hout_16⟩ := itr_step hlf_12 he_14
  refine lv_iload_n hx hb dX9_isStuck_7 rfl (lv_at hl 2 rfl) ?_
  refine lv_aload_n hx hb dX9_isStuck_8 rfl (lv_at hl 0 rfl) ?_
  refine va_get (D := (dC, dI)) (ci := 9) (v := .ref (ad 14)) (C := RX9) (T := TX9) (N := 67) hx hb hts hiX9 hown hK hP 0 rfl rfl 14 (by decide) v_2 (fun _ h9 => h9) rfl dX9_isStuck_9 ?_
  refine lv_aload_n hx hb dX9_isStuck_12 rfl (lv_at hl 0 rfl) ?_
  refine va_get (D := (dC, dI)) (ci := 9) (v := .int (nI x16)) (C := RX9) (T := TX9) (N := 67) hx hb hts hiX9 hown hK hP 0 rfl rfl 16 (by decide) v_3 (fun _ h9 => h9) rfl dX9_isStuck_13 ?_
  refine va_iald hx hb hK hP 14 13 rfl rfl (vp_in_nI (n := x16) (Nat.lt_of_le_of_lt hx16 (Nat.le_of_ble_eq_true rfl)) (Nat.le_of_ble_eq_true rfl)) dX9_isStuck_16 ?_
  refine lv_topi (fun y_17 ey_17 => ?_)
  obtain ⟨u_18, hu_18, fu_18, xu_18⟩ := b2_getx (a := m14_0) (b := m14_1) (i := x16) (by omega)
  have qy_17 := ey_17.trans fu_18
  replace hsp := hsp.trans (slet_eq xu_18)
  obtain rfl : y_17 = nI u_18 := qy_17
  refine lv_icmp_ge (tgt := 77) hx hb dX9_isStuck_17 (by decide) (fun c_19 => ?_) (fun c_19 => ?_)
  · have c_19 : u_18 ≤ g_9 := (nI_leI (a := u_18) (b := g_9) (by omega) (Nat.lt_of_le_of_lt hg_9 (Nat.le_of_ble_eq_true rfl))).mp c_19
    replace hsp := hsp.trans (if_pos c_19)
    have hsp := hout_16 _ hsp
    refine lv_aload_n hx hb dX9_isStuck_77 rfl (lv_at hl 0 rfl) ?_
    refine va_get (D := (dC, dI)) (ci := 9) (v := .ref (ad 34)) (C := RX9) (T := TX9) (N := 67) hx hb hts hiX9 hown hK hP 0 rfl rfl 34 (by decide) v_4 (fun _ h9 => h9) rfl dX9_isStuck_78 ?_
    refine lv_bipush (v := 25) hx hb dX9_isStuck_81 (by decide) ?_
    refine lv_iload_n hx hb dX9_isStuck_83 rfl (lv_at hl 1 rfl) ?_
    refine lv_imul hx hb dX9_isStuck_84 ?_
    refine lv_topi (fun y_20 ey_20 => ?_)
    obtain rfl : y_20 = (nI (25 * a0)) := ey_20.trans (pk_mul 25 a0)
    refine lv_aload_n hx hb dX9_isStuck_85 rfl (lv_at hl 0 rfl) ?_
    refine va_get (D := (dC, dI)) (ci := 9) (v := .ref (ad 35)) (C := RX9) (T := TX9) (N := 67) hx hb hts hiX9 hown hK hP 0 rfl rfl 35 (by decide) v_5 (fun _ h9 => h9) rfl dX9_isStuck_86 ?_
    refine lv_iconst (v := 0) hx hb dX9_isStuck_89 (by decide) ?_
    have hFc := pu_free hD hS hA
    refine va_callv (va_runS (As := [.ref (ad 34), .int (nI (25 * a0)), .ref (ad 35), .int 0]) (rest := []) ⟨hx, hb, hml, hown, hts⟩ (c_EM_copies_nz l dC dI _ ad ck x0 x16 x18 x19 x20 x21 x22 x23 x24 x25 x26 x27 x28 x29 x30 x33 x45 x46 x52 g_8 x61 x62 x63 x65 x66 f1 f2 f3 q4 q5 q6 q7 f8 q9 q10 f11 m12_0 m12_1 m13_0 m13_1 m14_0 m14_1 m15_0 m15_1 f17 q31 f32 f34 g_6 f36 f37 q38 f39 f40 f41 m42_0 m42_1 f43 f44 f47 f48 f49 f50 g_7 q54 q55 q56 f57 q58 f59 f60 f64 (25 * a0) hx16 hx18 hx19 hx21 hx22 hx26 hx28 hx29 hx30 hx33 hx46 hx52 (Nat.le_trans hg_8 (Nat.le_of_ble_eq_true rfl)) hx61 hx62 hx63 hx65 hm12_0 hm12_1 hm13_0 hm13_1 hm14_0 hm14_1 hm15_0 hm15_1 hm42_0 hm42_1 (by omega)) (va_cwS 4 hts g_EM_isStuck_EM_copies_nz rfl rfl rfl (by decide +kernel) ⟨Nat.le_of_ble_eq_true rfl, Nat.le_of_ble_eq_true rfl⟩) ⟨pu_bl, pu_in hP hK hD⟩ rfl rfl hl.1 rfl (lv_room (Nat.le_of_ble_eq_true rfl)) dX9_isStuck_90 ⟨Nat.le_of_ble_eq_true rfl, Nat.le_of_ble_eq_true rfl⟩) hS (fun q _ h => hFc q h) hFc (fun u t H1 locs ht hvm hw hB hz1 hk1 hS => ?_)
    obtain ⟨z35_22, ⟨hP1, -, hD1⟩, xr_21_0⟩ := hB
    rw [ht] at hP1
    have hP := hP1
    have hD := pu_all hFc hD1
    clear hP1 hD1 hFc
    clear hk1 hz1 ht hvm
    generalize H1 = H at hP hS ⊢
    replace hsp := hsp.trans (slet_eq xr_21_0)
    refine lv_aload_n hx hb dX9_isStuck_93 rfl (lv_at hl 0 rfl) ?_
    have hFc := pu_free hD hS hA
    refine va_calli (va_runV (As := []) (rest := []) ⟨hx, hb, hml, hown, hts⟩ (c_EM_isOver l dC dI _ ad ck x0 x16 x18 x19 x20 x21 x22 x23 x24 x25 x26 x27 x28 x29 x30 x33 x45 x46 x52 g_8 x61 x62 x63 x65 x66 f1 f2 f3 q4 q5 q6 q7 f8 q9 q10 f11 m12_0 m12_1 m13_0 m13_1 m14_0 m14_1 m15_0 m15_1 f17 q31 f32 f34 z35_22 f36 f37 q38 f39 f40 f41 m42_0 m42_1 f43 f44 f47 f48 f49 f50 g_7 q54 q55 q56 f57 q58 f59 f60 f64 hx16 hx18 hx19 hx21 hx22 hx26 hx28 hx29 hx30 hx33 hx46 hx52 (Nat.le_trans hg_8 (Nat.le_of_ble_eq_true rfl)) hx61 hx62 hx63 hx65 hm12_0 hm12_1 hm13_0 hm13_1 hm14_0 hm14_1 hm15_0 hm15_1 hm42_0 hm42_1) (cwV 0 hts g_EM_isStuck_EM_isOver rfl rfl rfl (by decide +kernel) ⟨Nat.le_of_ble_eq_true rfl, Nat.le_of_ble_eq_true rfl⟩) ⟨pu_bl, va_recv hK hP (ci := 9) (q0 := 0) rfl rfl, pu_in hP hK hD⟩ rfl rfl hl.1 rfl (lv_room (Nat.le_of_ble_eq_true rfl)) dX9_isStuck_94 ⟨Nat.le_of_ble_eq_true rfl, Nat.le_of_ble_eq_true rfl⟩) hS (fun q _ h => hFc q h) hFc (fun r_23 u t H1 locs ht hvm hw hB hz1 hk1 hS => ?_)
    obtain ⟨z35_24, z36_25, z49_26, z50_27, z52_28, ⟨hP1, -, hD1⟩, hz52_28, xr_23_0⟩ := hB
    rw [ht] at hP1
    have hP := hP1
    have hD := pu_all hFc hD1
    clear hP1 hD1 hFc
    clear hk1 hz1 ht hvm
    generalize H1 = H at hP hS ⊢
    obtain ⟨u_29, hu_29, rfl, iu_29⟩ := hw
    have iu_29 : (u_29, z35_24, z36_25, z49_26, z50_27, z52_28) = (sp_EM_isOver x46 g_8 z35_22 f36 f49 f50 g_7) := Prod.ext iu_29 xr_23_0
    replace hsp := hsp.trans (slet_eq iu_29)
    exact W.zret (v := (nI u_29)) (ty := .boolean) hx hb hr (pu_nz (pu_b1 (n := u_29) (by omega))) (fun t ht hW => ⟨⟨(nI u_29), (), rfl, ⟨u_29, hu_29, rfl, (congrArg Prod.fst (hsp.symm.trans hRR))⟩, ⟨z35_24, z36_25, z49_26, z50_27, g_7, z52_28, g_8, ⟨by rw [ht]; exact hP, va_K.moved hW.alike hK, hD⟩, hz52_28, (Nat.le_trans hg_8 (Nat.le_of_ble_eq_true rfl)), (congrArg Prod.snd (hsp.symm.trans hRR))⟩⟩, hS.F ht⟩) hS.2.2 dX9_isStuck_97
  · have c_19 : ¬ u_18 ≤ g_9 := fun z => c_19 ((nI_leI (a := u_18) (b := g_9) (by omega) (Nat.lt_of_le_of_lt hg_9 (Nat.le_of_ble_eq_true rfl))).mpr z)
    replace hsp := hsp.trans (if_neg c_19)
    refine lv_aload_n hx hb dX9_isStuck_20 rfl (lv_at hl 0 rfl) ?_
    refine lv_iload_n hx hb dX9_isStuck_21 rfl (lv_at hl 2 rfl) ?_
    refine va_calli (va_runV (As := [.int (nI g_9)]) (rest := []) ⟨hx, hb, hml, hown, hts⟩ (c_EM_outOf l dC dI _ ad ck x0 x16 x18 x19 x20 x21 x22 x23 x24 x25 x26 x27 x28 x29 x30 x33 x45 x46 x52 g_8 x61 x62 x63 x65 x66 f1 f2 f3 q4 q5 q6 q7 f8 q9 q10 f11 m12_0 m12_1 m13_0 m13_1 m14_0 m14_1 m15_0 m15_1 f17 q31 f32 f34 g_6 f36 f37 q38 f39 f40 f41 m42_0 m42_1 f43 f44 f47 f48 f49 f50 g_7 q54 q55 q56 f57 q58 f59 f60 f64 g_9 hx16 hx18 hx19 hx21 hx22 hx26 hx28 hx29 hx30 hx33 hx46 hx52 (Nat.le_trans hg_8 (Nat.le_of_ble_eq_true rfl)) hx61 hx62 hx63 hx65 hm12_0 hm12_1 hm13_0 hm13_1 hm14_0 hm14_1 hm15_0 hm15_1 hm42_0 hm42_1 (by omega)) (cwV 1 hts g_EM_isStuck_EM_outOf rfl rfl rfl (by decide +kernel) ⟨Nat.le_of_ble_eq_true rfl, Nat.le_of_ble_eq_true rfl⟩) ⟨pu_bl, va_recv hK hP (ci := 9) (q0 := 0) rfl rfl, pu_in hP hK hD⟩ rfl rfl hl.1 rfl (lv_room (Nat.le_of_ble_eq_true rfl)) dX9_isStuck_22 ⟨Nat.le_of_ble_eq_true rfl, Nat.le_of_ble_eq_true rfl⟩) hS (fun q _ h => pu_fr hS hA q h) (pu_fr hS hA) (fun r_30 u t H1 locs ht hvm hw hB hz1 hk1 hS => ?_)
    have hP := pu_keep hP hk1
    clear hk1 hz1 ht hvm
    generalize H1 = H at hP hS ⊢
    obtain ⟨u_31, hu_31, rfl, iu_31⟩ := hw
    replace hsp := hsp.trans (slet_eq iu_31)
    refine lv_aload_n hx hb dX9_isStuck_25 rfl (lv_at hl 0 rfl) ?_
    refine va_get (D := (dC, dI)) (ci := 9) (v := .ref (ad 38)) (C := RX9) (T := TX9) (N := 67) hx hb hts hiX9 hown hK hP 0 rfl rfl 38 (by decide) v_18 (fun _ h9 => h9) rfl dX9_isStuck_26 ?_
    refine lv_iload_n hx hb dX9_isStuck_29 rfl (lv_at hl 1 rfl) ?_
    refine va_iald hx hb hK hP 23 22 rfl rfl (vp_in_nI (n := a0) (Nat.lt_of_le_of_lt ha0 (Nat.le_of_ble_eq_true rfl)) (Nat.le_of_ble_eq_true rfl)) dX9_isStuck_30 ?_
    refine lv_topi (fun y_32 ey_32 => ?_)
    obtain ⟨u_33, hu_33, qu_33, xu_33⟩ := bN_getx 7 q38 (n := a0) (Nat.lt_of_le_of_lt ha0 (Nat.le_of_ble_eq_true rfl))
    obtain rfl : y_32 = nI u_33 := ey_32.trans qu_33
    replace hsp := hsp.trans (slet_eq xu_33)
    refine lv_icmp_ne (tgt := 71) hx hb dX9_isStuck_31 (by decide) (fun c_34 => ?_) (fun c_34 => ?_)
    · have c_34 : ¬ u_31 = u_33 := fun z => c_34 ((nI_eq (a := u_31) (b := u_33) (Nat.lt_of_le_of_lt hu_31 (Nat.le_of_ble_eq_true rfl)) (Nat.lt_of_le_of_lt hu_33 (Nat.le_of_ble_eq_true rfl))).mpr z)
      replace hsp := hsp.trans (if_neg c_34)
      refine lv_iinc (v := (nI (g_9 + 1))) (lv' := [(2, .int (nI (g_9 + 1))), (0, .ref (ad 0)), (1, .int (nI a0))]) hx hb dX9_isStuck_71 hl (k := 2) rfl (nI_1 _) (by decide) rfl (fun ls hl => ?_)
      refine lv_goto (tgt := 7) hx hb dX9_isStuck_74 (by decide) ?_
      exact ih_11 (14 - (g_9 + 1)) (by omega) _ _ _ ⟨g_6, g_7, g_8, (g_9 + 1), rfl, hg_8, (by omega), by omega, hin_15 _ hsp, hP, hD, hS, lv_sub hl [1, 2, 0] rfl⟩
    · have c_34 : u_31 = u_33 := (nI_eq (a := u_31) (b := u_33) (Nat.lt_of_le_of_lt hu_31 (Nat.le_of_ble_eq_true rfl)) (Nat.lt_of_le_of_lt hu_33 (Nat.le_of_ble_eq_true rfl))).mp c_34
      replace hsp := hsp.trans (if_pos c_34)
      refine lv_aload_n hx hb dX9_isStuck_34 rfl (lv_at hl 0 rfl) ?_
      refine lv_iload_n hx hb dX9_isStuck_35 rfl (lv_at hl 2 rfl) ?_
      have hFc := pu_free hD hS hA
      refine va_calli (va_runV (As := [.int (nI g_9)]) (rest := []) ⟨hx, hb, hml, hown, hts⟩ (c_EM_layAhead l dC dI _ ad ck x0 x16 x18 x19 x20 x21 x22 x23 x24 x25 x26 x27 x28 x29 x30 x33 x45 x46 x52 g_8 x61 x62 x63 x65 x66 f1 f2 f3 q4 q5 q6 q7 f8 q9 q10 f11 m12_0 m12_1 m13_0 m13_1 m14_0 m14_1 m15_0 m15_1 f17 q31 f32 f34 g_6 f36 f37 q38 f39 f40 f41 m42_0 m42_1 f43 f44 f47 f48 f49 f50 g_7 q54 q55 q56 f57 q58 f59 f60 f64 g_9 hx16 hx18 hx19 hx21 hx22 hx26 hx28 hx29 hx30 hx33 hx46 hx52 (Nat.le_trans hg_8 (Nat.le_of_ble_eq_true rfl)) hx61 hx62 hx63 hx65 hm12_0 hm12_1 hm13_0 hm13_1 hm14_0 hm14_1 hm15_0 hm15_1 hm42_0 hm42_1 (by omega)) (cwV 1 hts g_EM_isStuck_EM_layAhead rfl rfl rfl (by decide +kernel) ⟨Nat.le_of_ble_eq_true rfl, Nat.le_of_ble_eq_true rfl⟩) ⟨pu_bl, va_recv hK hP (ci := 9) (q0 := 0) rfl rfl, pu_in hP hK hD⟩ rfl rfl hl.1 rfl (lv_room (Nat.le_of_ble_eq_true rfl)) dX9_isStuck_36 ⟨Nat.le_of_ble_eq_true rfl, Nat.le_of_ble_eq_true rfl⟩) hS (fun q _ h => hFc q h) hFc (fun r_35 u t H1 locs ht hvm hw hB hz1 hk1 hS => ?_)
      obtain ⟨z35_36, ⟨hP1, -, hD1⟩, xr_35_0⟩ := hB
      rw [ht] at hP1
      have hP := hP1
      have hD := pu_all hFc hD1
      clear hP1 hD1 hFc
      clear hk1 hz1 ht hvm
      generalize H1 = H at hP hS ⊢
      obtain ⟨u_37, hu_37, rfl, iu_37⟩ := hw
      have iu_37 : (u_37, z35_36) = (sp_EM_layAhead x16 x46 f3 q4 q5 q6 q7 f8 q9 q10 f11 m13_0 m13_1 m14_0 m14_1 g_6 g_9) := Prod.ext iu_37 xr_35_0
      replace hsp := hsp.trans (slet_eq iu_37)
      refine lv_if_eq (tgt := 71) hx hb dX9_isStuck_39 (by decide) (fun c_38 => ?_) (fun c_38 => ?_)
      · have c_38 : u_37 = 0 := (nI_eq (a := u_37) (b := 0) (Nat.lt_of_le_of_lt hu_37 (Nat.le_of_ble_eq_true rfl)) (Nat.le_of_ble_eq_true rfl)).mp c_38
        replace hsp := hsp.trans (if_pos c_38)
        refine lv_iinc (v := (nI (g_9 + 1))) (lv' := [(2, .int (nI (g_9 + 1))), (0, .ref (ad 0)), (1, .int (nI a0))]) hx hb dX9_isStuck_71 hl (k := 2) rfl (nI_1 _) (by decide) rfl (fun ls hl => ?_)
        refine lv_goto (tgt := 7) hx hb dX9_isStuck_74 (by decide) ?_
        exact ih_11 (14 - (g_9 + 1)) (by omega) _ _ _ ⟨z35_36, g_7, g_8, (g_9 + 1), rfl, hg_8, (by omega), by omega, hin_15 _ hsp, hP, hD, hS, lv_sub hl [1, 2, 0] rfl⟩
      · have c_38 : ¬ u_37 = 0 := fun z => c_38 ((nI_eq (a := u_37) (b := 0) (Nat.lt_of_le_of_lt hu_37 (Nat.le_of_ble_eq_true rfl)) (Nat.le_of_ble_eq_true rfl)).mpr z)
        replace hsp := hsp.trans (if_neg c_38)
        refine lv_aload_n hx hb dX9_isStuck_42 rfl (lv_at hl 0 rfl) ?_
        refine va_get (D := (dC, dI)) (ci := 9) (v := .ref (ad 35)) (C := RX9) (T := TX9) (N := 67) hx hb hts hiX9 hown hK hP 0 rfl rfl 35 (by decide) v_5 (fun _ h9 => h9) rfl dX9_isStuck_43 ?_
        refine lv_iconst (v := 0) hx hb dX9_isStuck_46 (by decide) ?_
        refine lv_aload_n hx hb dX9_isStuck_47 rfl (lv_at hl 0 rfl) ?_
        refine va_get (D := (dC, dI)) (ci := 9) (v := .ref (ad 51)) (C := RX9) (T := TX9) (N := 67) hx hb hts hiX9 hown hK hP 0 rfl rfl 51 (by decide) v_23 (fun _ h9 => h9) rfl dX9_isStuck_48 ?_
        refine lv_bipush (v := 25) hx hb dX9_isStuck_51 (by decide) ?_
        refine lv_aload_n hx hb dX9_isStuck_53 rfl (lv_at hl 0 rfl) ?_
        refine va_get (D := (dC, dI)) (ci := 9) (v := .int (nI g_8)) (C := RX9) (T := TX9) (N := 67) hx hb hts hiX9 hown hK hP 0 rfl rfl 53 (by decide) v_1 (fun _ h9 => h9) rfl dX9_isStuck_54 ?_
        refine lv_imul hx hb dX9_isStuck_57 ?_
        refine lv_topi (fun y_39 ey_39 => ?_)
        obtain rfl : y_39 = (nI (25 * g_8)) := ey_39.trans (pk_mul 25 g_8)
        have hFc := pu_free hD hS hA
        refine va_callv (va_runS (As := [.ref (ad 35), .int 0, .ref (ad 51), .int (nI (25 * g_8))]) (rest := []) ⟨hx, hb, hml, hown, hts⟩ (c_EM_copies_zc l dC dI _ ad ck x0 x16 x18 x19 x20 x21 x22 x23 x24 x25 x26 x27 x28 x29 x30 x33 x45 x46 x52 g_8 x61 x62 x63 x65 x66 f1 f2 f3 q4 q5 q6 q7 f8 q9 q10 f11 m12_0 m12_1 m13_0 m13_1 m14_0 m14_1 m15_0 m15_1 f17 q31 f32 f34 z35_36 f36 f37 q38 f39 f40 f41 m42_0 m42_1 f43 f44 f47 f48 f49 f50 g_7 q54 q55 q56 f57 q58 f59 f60 f64 (25 * g_8) hx16 hx18 hx19 hx21 hx22 hx26 hx28 hx29 hx30 hx33 hx46 hx52 (Nat.le_trans hg_8 (Nat.le_of_ble_eq_true rfl)) hx61 hx62 hx63 hx65 hm12_0 hm12_1 hm13_0 hm13_1 hm14_0 hm14_1 hm15_0 hm15_1 hm42_0 hm42_1 (by omega)) (va_cwS 4 hts g_EM_isStuck_EM_copies_zc rfl rfl rfl (by decide +kernel) ⟨Nat.le_of_ble_eq_true rfl, Nat.le_of_ble_eq_true rfl⟩) ⟨pu_bl, pu_in hP hK hD⟩ rfl rfl hl.1 rfl (lv_room (Nat.le_of_ble_eq_true rfl)) dX9_isStuck_58 ⟨Nat.le_of_ble_eq_true rfl, Nat.le_of_ble_eq_true rfl⟩) hS (fun q _ h => hFc q h) hFc (fun u t H1 locs ht hvm hw hB hz1 hk1 hS => ?_)
        obtain ⟨z51_41, ⟨hP1, -, hD1⟩, xr_40_0⟩ := hB
        rw [ht] at hP1
        have hP := hP1
        have hD := pu_all hFc hD1
        clear hP1 hD1 hFc
        clear hk1 hz1 ht hvm
        generalize H1 = H at hP hS ⊢
        replace hsp := hsp.trans (slet_eq xr_40_0)
        refine lv_aload_n hx hb dX9_isStuck_61 rfl (lv_at hl 0 rfl) ?_
        refine lv_dup hx hb dX9_isStuck_62 rfl ?_
        refine va_get (D := (dC, dI)) (ci := 9) (v := .int (nI g_8)) (C := RX9) (T := TX9) (N := 67) hx hb hts hiX9 hown hK hP 0 rfl rfl 53 (by decide) v_1 (fun _ h9 => h9) rfl dX9_isStuck_63 ?_
        refine lv_iconst (v := 1) hx hb dX9_isStuck_66 (by decide) ?_
        refine lv_iadd hx hb dX9_isStuck_67 ?_
        refine lv_topi (fun y_42 ey_42 => ?_)
        obtain rfl : y_42 = (nI (g_8 + 1)) := ey_42.trans (nI_add g_8 1)
        refine va_put (D := (dC, dI)) (ci := 9) (v := .int (nI (g_8 + 1))) (ty := .int) (C := RX9) (T := TX9) (N := 67) hx hb hts hiX9 tyX9 tyX9_ok nmX9 hown hK hP hD hS 0 rfl rfl 53 (by decide) v_1 (fun _ h9 => h9) rfl (by decide +kernel) rfl rfl (Nat.le_of_ble_eq_true rfl) dX9_isStuck_68 (fun H locs hP hD hS => ?_)
        have hP : va_P (dC, dI) vwCl (mo_w ad ck x0 (nI x16) (nI x18) (nI x19) x20 (nI x21) (nI x22) x23 x24 x25 (nI x26) x27 (nI x28) (nI x29) (nI x30) (nI x33) x45 (nI x46) (nI x52) (nI (g_8 + 1)) (nI x61) (nI x62) (nI x63) (nI x65) x66 f1 f2 f3 (bN 3 q4) (bN 7 q5) (bN 7 q6) (bN 4 q7) f8 (bN 2 q9) (bH q10) f11 (b2 m12_0 m12_1) (b2 m13_0 m13_1) (b2 m14_0 m14_1) (b2m m15_0 m15_1) f17 (bA 159 q31) f32 f34 z35_36 f36 f37 (bN 7 q38) f39 f40 f41 (b2 m42_0 m42_1) f43 f44 f47 f48 f49 f50 z51_41 (bN 13 q54) (bN 120 q55) (bN 120 q56) f57 (bN 120 q58) f59 f60 f64) H := hP
        have hD : va_D A (mo_w ad ck x0 (nI x16) (nI x18) (nI x19) x20 (nI x21) (nI x22) x23 x24 x25 (nI x26) x27 (nI x28) (nI x29) (nI x30) (nI x33) x45 (nI x46) (nI x52) (nI (g_8 + 1)) (nI x61) (nI x62) (nI x63) (nI x65) x66 f1 f2 f3 (bN 3 q4) (bN 7 q5) (bN 7 q6) (bN 4 q7) f8 (bN 2 q9) (bH q10) f11 (b2 m12_0 m12_1) (b2 m13_0 m13_1) (b2 m14_0 m14_1) (b2m m15_0 m15_1) f17 (bA 159 q31) f32 f34 z35_36 f36 f37 (bN 7 q38) f39 f40 f41 (b2 m42_0 m42_1) f43 f44 f47 f48 f49 f50 z51_41 (bN 13 q54) (bN 120 q55) (bN 120 q56) f57 (bN 120 q58) f59 f60 f64) := hD
        refine lv_iinc (v := (nI (g_9 + 1))) (lv' := [(2, .int (nI (g_9 + 1))), (0, .ref (ad 0)), (1, .int (nI a0))]) hx hb dX9_isStuck_71 hl (k := 2) rfl (nI_1 _) (by decide) rfl (fun ls hl => ?_)
        refine lv_goto (tgt := 7) hx hb dX9_isStuck_74 (by decide) ?_
        exact ih_11 (14 - (g_9 + 1)) (by omega) _ _ _ ⟨z35_36, z51_41, (g_8 + 1), (g_9 + 1), rfl, (by omega), (by omega), by omega, hin_15 _ hsp, hP, hD, hS, lv_sub hl [1, 2, 0] rfl⟩
