theorem dX9_graph_0 : decode cX9_graph 0 = .ok (.aload_n 0, 1) := by decide +kernel
theorem dX9_graph_1 : decode cX9_graph 1 = .ok (.iconst 0, 1) := by decide +kernel
theorem dX9_graph_2 : decode cX9_graph 2 = .ok (.putfield 142, 3) := by decide +kernel
theorem dX9_graph_5 : decode cX9_graph 5 = .ok (.iload_n 1, 1) := by decide +kernel
theorem dX9_graph_6 : decode cX9_graph 6 = .ok (.iconst 0, 1) := by decide +kernel
theorem dX9_graph_7 : decode cX9_graph 7 = .ok (.iconst 2, 1) := by decide +kernel
theorem dX9_graph_8 : decode cX9_graph 8 = .ok (.invokestatic 152, 3) := by decide +kernel
theorem dX9_graph_11 : decode cX9_graph 11 = .ok (.ifCond .eq 15, 3) := by decide +kernel
theorem dX9_graph_14 : decode cX9_graph 14 = .ok (.aload_n 0, 1) := by decide +kernel
theorem dX9_graph_15 : decode cX9_graph 15 = .ok (.getfield 46, 3) := by decide +kernel
theorem dX9_graph_18 : decode cX9_graph 18 = .ok (.aload_n 0, 1) := by decide +kernel
theorem dX9_graph_19 : decode cX9_graph 19 = .ok (.getfield 258, 3) := by decide +kernel
theorem dX9_graph_22 : decode cX9_graph 22 = .ok (.iaload, 1) := by decide +kernel
theorem dX9_graph_23 : decode cX9_graph 23 = .ok (.ifCond .ne 5, 3) := by decide +kernel
theorem dX9_graph_26 : decode cX9_graph 26 = .ok (.iconst (-1), 1) := by decide +kernel
theorem dX9_graph_27 : decode cX9_graph 27 = .ok (.ireturn, 1) := by decide +kernel
theorem dX9_graph_28 : decode cX9_graph 28 = .ok (.aload_n 0, 1) := by decide +kernel
theorem dX9_graph_29 : decode cX9_graph 29 = .ok (.aload_n 0, 1) := by decide +kernel
theorem dX9_graph_30 : decode cX9_graph 30 = .ok (.invokevirtual 280, 3) := by decide +kernel
theorem dX9_graph_33 : decode cX9_graph 33 = .ok (.iconst 1, 1) := by decide +kernel
theorem dX9_graph_34 : decode cX9_graph 34 = .ok (.iadd, 1) := by decide +kernel
theorem dX9_graph_35 : decode cX9_graph 35 = .ok (.putfield 328, 3) := by decide +kernel
theorem dX9_graph_38 : decode cX9_graph 38 = .ok (.aload_n 0, 1) := by decide +kernel
theorem dX9_graph_39 : decode cX9_graph 39 = .ok (.iconst 0, 1) := by decide +kernel
theorem dX9_graph_40 : decode cX9_graph 40 = .ok (.iconst 0, 1) := by decide +kernel
theorem dX9_graph_41 : decode cX9_graph 41 = .ok (.iconst 0, 1) := by decide +kernel
theorem dX9_graph_42 : decode cX9_graph 42 = .ok (.invokevirtual 379, 3) := by decide +kernel
theorem dX9_graph_45 : decode cX9_graph 45 = .ok (.aload_n 0, 1) := by decide +kernel
theorem dX9_graph_46 : decode cX9_graph 46 = .ok (.iconst 0, 1) := by decide +kernel
theorem dX9_graph_47 : decode cX9_graph 47 = .ok (.aload_n 0, 1) := by decide +kernel
theorem dX9_graph_48 : decode cX9_graph 48 = .ok (.getfield 52, 3) := by decide +kernel
theorem dX9_graph_51 : decode cX9_graph 51 = .ok (.aload_n 0, 1) := by decide +kernel
theorem dX9_graph_52 : decode cX9_graph 52 = .ok (.getfield 258, 3) := by decide +kernel
theorem dX9_graph_55 : decode cX9_graph 55 = .ok (.iaload, 1) := by decide +kernel
theorem dX9_graph_56 : decode cX9_graph 56 = .ok (.iload_n 1, 1) := by decide +kernel
theorem dX9_graph_57 : decode cX9_graph 57 = .ok (.iload_n 2, 1) := by decide +kernel
theorem dX9_graph_58 : decode cX9_graph 58 = .ok (.bipush 120, 2) := by decide +kernel
theorem dX9_graph_60 : decode cX9_graph 60 = .ok (.iconst (-1), 1) := by decide +kernel
theorem dX9_graph_61 : decode cX9_graph 61 = .ok (.invokevirtual 383, 3) := by decide +kernel
theorem dX9_graph_64 : decode cX9_graph 64 = .ok (.aload_n 0, 1) := by decide +kernel
theorem dX9_graph_65 : decode cX9_graph 65 = .ok (.iconst 1, 1) := by decide +kernel
theorem dX9_graph_66 : decode cX9_graph 66 = .ok (.putfield 273, 3) := by decide +kernel
theorem dX9_graph_69 : decode cX9_graph 69 = .ok (.aload_n 0, 1) := by decide +kernel
theorem dX9_graph_70 : decode cX9_graph 70 = .ok (.iload_n 1, 1) := by decide +kernel
theorem dX9_graph_71 : decode cX9_graph 71 = .ok (.putfield 298, 3) := by decide +kernel
theorem dX9_graph_74 : decode cX9_graph 74 = .ok (.aload_n 0, 1) := by decide +kernel
theorem dX9_graph_75 : decode cX9_graph 75 = .ok (.getfield 92, 3) := by decide +kernel
theorem dX9_graph_78 : decode cX9_graph 78 = .ok (.iconst 0, 1) := by decide +kernel
theorem dX9_graph_79 : decode cX9_graph 79 = .ok (.iaload, 1) := by decide +kernel
theorem dX9_graph_80 : decode cX9_graph 80 = .ok (.ireturn, 1) := by decide +kernel
abbrev vs_EM_graph : List Cond := .code yX9_graph cX9_graph 3 (some .int) :: VM
theorem g_EM_graph_X9_in : GoodIn vs_EM_graph (va_wsS RX9 152 yX9_in vs_X9_in) := gm_0 (fun w h => by
  rcases List.mem_cons.mp h with rfl | h
  · exact vm_137
  rcases List.mem_cons.mp h with rfl | h
  · exact vm_138
  rcases List.mem_cons.mp h with rfl | h
  · exact vm_19
  rcases List.mem_cons.mp h with rfl | h
  · exact vm_139
  exact absurd h (List.not_mem_nil))
theorem g_EM_graph_EM_clocks : GoodIn vs_EM_graph (wsV RX9 280 RX9 yX9_clocks vs_EM_clocks) := gm_V vm_140 vm_141 vm_142 vm_19 vm_143
theorem g_EM_graph_EM_layPoint : GoodIn vs_EM_graph (wsV RX9 379 RX9 yX9_layPoint vs_EM_layPoint) := gm_V vm_255 vm_256 vm_257 vm_19 vm_258
theorem g_EM_graph_EM_explores_0_120 : GoodIn vs_EM_graph (wsV RX9 383 RX9 yX9_explores vs_EM_explores_0_120) := gm_V vm_259 vm_260 vm_261 vm_19 vm_262
noncomputable def sp_EM_graph (x16 : Nat) (x29 : Nat) (x45 : Int32) (x46 : Nat) (f3 : Nat → Int32) (q4 : Nat → Nat) (q5 : Nat → Nat) (q6 : Nat → Nat) (q7 : Nat → Nat) (f8 : Nat → Int32) (q9 : Nat → Nat) (q10 : Nat → Nat) (f11 : Nat → Int32) (m12_0 : Nat) (m12_1 : Nat) (m13_0 : Nat) (m13_1 : Nat) (m14_0 : Nat) (m14_1 : Nat) (m15_0 : Nat) (m15_1 : Nat) (f34 : Nat → Int32) (f35 : Nat → Int32) (q38 : Nat → Nat) (f39 : Nat → Int32) (f40 : Nat → Int32) (f41 : Nat → Int32) (m42_0 : Nat) (f43 : Nat → Int32) (f44 : Nat → Int32) (f47 : Nat → Int32) (f48 : Nat → Int32) (p0 : Int32) (a1 : Nat) : Int32 × (Nat → Int32) × (Nat → Int32) × (Nat → Nat) × (Nat → Int32) × (Nat → Int32) × (Nat → Int32) × (Nat → Int32) × (Nat → Int32) × (Nat → Int32) × (Nat → Int32) × Nat × Int32 × Nat × Int32 × Nat := (if (0 : Int32) ≤ p0 ∧ p0 ≤ 2 then (slet ((p0 : Int32).toNatClampNeg) (fun n_2 => (slet (if x16 = 0 then m13_0 else m13_1) (fun u_4 => (if u_4 = 0 then ((-1), f34, f35, q38, f39, f40, f41, f43, f44, f47, f48, m42_0, 0, x29, x45, x46) else (slet (sp_EM_clocks x16 m12_0 m12_1) (fun u_7 => (slet (sp_EM_layPoint f35 0 0 0) (fun z35_10 => (slet (if x16 = 0 then m15_0 else m15_1) (fun u_12 => (slet (u_12 - 1) (fun vy_11 => (slet (sp_EM_explores_0_120 x16 (u_7 + 1) f3 q4 q5 q6 q7 f8 q9 q10 f11 m12_0 m12_1 m13_0 m13_1 m14_0 m14_1 f34 z35_10 q38 f39 f40 f41 f43 f44 f47 f48 vy_11 (nI n_2) a1 (-1)) (fun (z34_14, z35_15, z38_16, z39_17, z40_18, z41_19, z43_20, z44_21, z47_22, z48_23, z42_0_24) => ((nI z42_0_24), z34_14, z35_15, z38_16, z39_17, z40_18, z41_19, z43_20, z44_21, z47_22, z48_23, z42_0_24, 0, 1, (nI n_2), (u_7 + 1))))))))))))))))) else ((-1), f34, f35, q38, f39, f40, f41, f43, f44, f47, f48, m42_0, 0, x29, x45, x46))
set_option maxHeartbeats 4000000 in
set_option maxRecDepth 100000 in
theorem c_EM_graph (l : Launch) (dC : Nat → ClassId) (dI : Nat → Nat → Nat) (sz : Nat) (ad : Nat → Nat) (ck : Nat → ClassId) (x0 : Int32) (x16 : Nat) (x18 : Nat) (x19 : Nat) (x20 : Int32) (x21 : Nat) (x22 : Nat) (x23 : Int32) (x24 : Int32) (x25 : Int32) (x26 : Nat) (x27 : Int32) (x28 : Nat) (x29 : Nat) (x30 : Nat) (x33 : Nat) (x45 : Int32) (x46 : Nat) (x52 : Nat) (x53 : Nat) (x61 : Nat) (x62 : Nat) (x63 : Nat) (x65 : Nat) (x66 : Int32) (f1 : Nat → Int32) (f2 : Nat → Int32) (f3 : Nat → Int32) (q4 : Nat → Nat) (q5 : Nat → Nat) (q6 : Nat → Nat) (q7 : Nat → Nat) (f8 : Nat → Int32) (q9 : Nat → Nat) (q10 : Nat → Nat) (f11 : Nat → Int32) (m12_0 m12_1 : Nat) (m13_0 m13_1 : Nat) (m14_0 m14_1 : Nat) (m15_0 m15_1 : Nat) (f17 : Nat → Int32) (q31 : Nat → Nat) (f32 : Nat → Int32) (f34 : Nat → Int32) (f35 : Nat → Int32) (f36 : Nat → Int32) (f37 : Nat → Int32) (q38 : Nat → Nat) (f39 : Nat → Int32) (f40 : Nat → Int32) (f41 : Nat → Int32) (m42_0 m42_1 : Nat) (f43 : Nat → Int32) (f44 : Nat → Int32) (f47 : Nat → Int32) (f48 : Nat → Int32) (f49 : Nat → Int32) (f50 : Nat → Int32) (f51 : Nat → Int32) (q54 : Nat → Nat) (q55 : Nat → Nat) (q56 : Nat → Nat) (f57 : Nat → Int32) (q58 : Nat → Nat) (f59 : Nat → Int32) (f60 : Nat → Int32) (f64 : Nat → Int32) (p0 : Int32) (a1 : Nat) (hx16 : x16 ≤ 1) (hx18 : x18 ≤ 900) (hx19 : x19 ≤ 900) (hx21 : x21 ≤ 900) (hx22 : x22 ≤ 4) (hx26 : x26 ≤ 6) (hx28 : x28 ≤ 1) (hx29 : x29 ≤ 1) (hx30 : x30 ≤ 1) (hx33 : x33 ≤ 20) (hx46 : x46 ≤ 5) (hx52 : x52 ≤ 2400) (hx53 : x53 ≤ 119) (hx61 : x61 ≤ 119) (hx62 : x62 ≤ 2000) (hx63 : x63 ≤ 1) (hx65 : x65 ≤ 7) (hm12_0 : m12_0 ≤ 3) (hm12_1 : m12_1 ≤ 3) (hm13_0 : m13_0 ≤ 8) (hm13_1 : m13_1 ≤ 8) (hm14_0 : m14_0 ≤ 14) (hm14_1 : m14_1 ≤ 14) (hm15_0 : m15_0 ≤ 8) (hm15_1 : m15_1 ≤ 8) (hm42_0 : m42_0 ≤ 120) (hm42_1 : m42_1 ≤ 400) (ha1 : a1 ≤ 1) (hbg : (x16 = 0 ∧ (m13_0 = 0 ∨ 1 ≤ m15_0)) ∨ (x16 = 1 ∧ (m13_1 = 0 ∨ 1 ≤ m15_1))) (hgr : gz_ok m42_0 f39 f40 f41) : Met l yX9_graph vs_EM_graph ({ frames := 7, cells := 0, slots := 0, locals := 171 }) (va_Pc [.ref (ad 0), .int p0, .int (nI a1)] (pu_B (dC, dI) (mo_w ad ck x0 (nI x16) (nI x18) (nI x19) x20 (nI x21) (nI x22) x23 x24 x25 (nI x26) x27 (nI x28) (nI x29) (nI x30) (nI x33) x45 (nI x46) (nI x52) (nI x53) (nI x61) (nI x62) (nI x63) (nI x65) x66 f1 f2 f3 (bN 3 q4) (bN 7 q5) (bN 7 q6) (bN 4 q7) f8 (bN 2 q9) (bH q10) f11 (b2 m12_0 m12_1) (b2 m13_0 m13_1) (b2 m14_0 m14_1) (b2m m15_0 m15_1) f17 (bA 159 q31) f32 f34 f35 f36 f37 (bN 7 q38) f39 f40 f41 (b2 m42_0 m42_1) f43 f44 f47 f48 f49 f50 f51 (bN 13 q54) (bN 120 q55) (bN 120 q56) f57 (bN 120 q58) f59 f60 f64) (mo_t ck) sz)) (va_Qi (fun (r : Int32) (_ : Unit) => r = (sp_EM_graph x16 x29 x45 x46 f3 q4 q5 q6 q7 f8 q9 q10 f11 m12_0 m12_1 m13_0 m13_1 m14_0 m14_1 m15_0 m15_1 f34 f35 q38 f39 f40 f41 m42_0 f43 f44 f47 f48 p0 a1).1) (fun _ t => ∃ (z34 : Nat → Int32) (z35 : Nat → Int32) (z38 : Nat → Nat) (z39 : Nat → Int32) (z40 : Nat → Int32) (z41 : Nat → Int32) (z43 : Nat → Int32) (z44 : Nat → Int32) (z47 : Nat → Int32) (z48 : Nat → Int32) (z42_0 : Nat) (z0 : Int32) (z29 : Nat) (z45 : Int32) (z46 : Nat), pu_E (dC, dI) (mo_w ad ck z0 (nI x16) (nI x18) (nI x19) x20 (nI x21) (nI x22) x23 x24 x25 (nI x26) x27 (nI x28) (nI z29) (nI x30) (nI x33) z45 (nI z46) (nI x52) (nI x53) (nI x61) (nI x62) (nI x63) (nI x65) x66 f1 f2 f3 (bN 3 q4) (bN 7 q5) (bN 7 q6) (bN 4 q7) f8 (bN 2 q9) (bH q10) f11 (b2 m12_0 m12_1) (b2 m13_0 m13_1) (b2 m14_0 m14_1) (b2m m15_0 m15_1) f17 (bA 159 q31) f32 z34 z35 f36 f37 (bN 7 z38) z39 z40 z41 (b2 z42_0 m42_1) z43 z44 z47 z48 f49 f50 f51 (bN 13 q54) (bN 120 q55) (bN 120 q56) f57 (bN 120 q58) f59 f60 f64) (mo_t ck) (va_A ((mo_w ad ck x0 (nI x16) (nI x18) (nI x19) x20 (nI x21) (nI x22) x23 x24 x25 (nI x26) x27 (nI x28) (nI x29) (nI x30) (nI x33) x45 (nI x46) (nI x52) (nI x53) (nI x61) (nI x62) (nI x63) (nI x65) x66 f1 f2 f3 (bN 3 q4) (bN 7 q5) (bN 7 q6) (bN 4 q7) f8 (bN 2 q9) (bH q10) f11 (b2 m12_0 m12_1) (b2 m13_0 m13_1) (b2 m14_0 m14_1) (b2m m15_0 m15_1) f17 (bA 159 q31) f32 f34 f35 f36 f37 (bN 7 q38) f39 f40 f41 (b2 m42_0 m42_1) f43 f44 f47 f48 f49 f50 f51 (bN 13 q54) (bN 120 q55) (bN 120 q56) f57 (bN 120 q58) f59 f60 f64)) sz) t ∧ (z42_0 ≤ 120) ∧ (z29 ≤ 1) ∧ (z46 ≤ 5) ∧ (gz_ok z42_0 z39 z40 z41) ∧ ((z34, z35, z38, z39, z40, z41, z43, z44, z47, z48, z42_0, z0, z29, z45, z46) = (sp_EM_graph x16 x29 x45 x46 f3 q4 q5 q6 q7 f8 q9 q10 f11 m12_0 m12_1 m13_0 m13_1 m14_0 m14_1 m15_0 m15_1 f34 f35 q38 f39 f40 f41 m42_0 f43 f44 f47 f48 p0 a1).2)) (va_A ((mo_w ad ck x0 (nI x16) (nI x18) (nI x19) x20 (nI x21) (nI x22) x23 x24 x25 (nI x26) x27 (nI x28) (nI x29) (nI x30) (nI x33) x45 (nI x46) (nI x52) (nI x53) (nI x61) (nI x62) (nI x63) (nI x65) x66 f1 f2 f3 (bN 3 q4) (bN 7 q5) (bN 7 q6) (bN 4 q7) f8 (bN 2 q9) (bH q10) f11 (b2 m12_0 m12_1) (b2 m13_0 m13_1) (b2 m14_0 m14_1) (b2m m15_0 m15_1) f17 (bA 159 q31) f32 f34 f35 f36 f37 (bN 7 q38) f39 f40 f41 (b2 m42_0 m42_1) f43 f44 f47 f48 f49 f50 f51 (bN 13 q54) (bN 120 q55) (bN 120 q56) f57 (bN 120 q58) f59 f60 f64)) sz)) 0 0 (va_A ((mo_w ad ck x0 (nI x16) (nI x18) (nI x19) x20 (nI x21) (nI x22) x23 x24 x25 (nI x26) x27 (nI x28) (nI x29) (nI x30) (nI x33) x45 (nI x46) (nI x52) (nI x53) (nI x61) (nI x62) (nI x63) (nI x65) x66 f1 f2 f3 (bN 3 q4) (bN 7 q5) (bN 7 q6) (bN 4 q7) f8 (bN 2 q9) (bH q10) f11 (b2 m12_0 m12_1) (b2 m13_0 m13_1) (b2 m14_0 m14_1) (b2m m15_0 m15_1) f17 (bA 159 q31) f32 f34 f35 f36 f37 (bN 7 q38) f39 f40 f41 (b2 m42_0 m42_1) f43 f44 f47 f48 f49 f50 f51 (bN 13 q54) (bN 120 q55) (bN 120 q56) f57 (bN 120 q58) f59 f60 f64)) sz) := by
  refine Met.ofW (cc := cX9_graph) (maxL := 3) (ret := (some .int)) (by decide) rfl ?_
  intro p e s m args below meth c s₁ B hml hv
  obtain ⟨rfl, rfl, hP, hK, hD0⟩ := hv
  have hx := B.exec
  have hb := B.bytes
  have hr := B.returns
  have hts := atoms_spec (ws := vs_EM_graph) B.pre
  have v_1 := hts (.fieldLink RX9 142 "ClockReachModel" "thrown" "I") (List.mem_cons_of_mem _ vm_5)
  have v_6 := hts (.fieldLink RX9 46 "ClockReachModel" "placeMany" "[I") (List.mem_cons_of_mem _ vm_65)
  have v_7 := hts (.fieldLink RX9 258 "ClockReachModel" "bank" "I") (List.mem_cons_of_mem _ vm_4)
  have v_12 := hts (.fieldLink RX9 328 "ClockReachModel" "side" "I") (List.mem_cons_of_mem _ vm_196)
  have v_17 := hts (.fieldLink RX9 52 "ClockReachModel" "begins" "[I") (List.mem_cons_of_mem _ vm_126)
  have v_22 := hts (.fieldLink RX9 273 "ClockReachModel" "hasGraph" "Z") (List.mem_cons_of_mem _ vm_1)
  have v_23 := hts (.fieldLink RX9 298 "ClockReachModel" "graphWay" "I") (List.mem_cons_of_mem _ vm_166)
  have v_24 := hts (.fieldLink RX9 92 "ClockReachModel" "stateMany" "[I") (List.mem_cons_of_mem _ vm_164)
  have hown : s.vm.findClass RX9 = some m.cls := findClass_of_methodNamed B.named
  have hlocks := B.notSynchronized
  have hiX9 : ∀ w ∈ wsX90, w ∈ vs_EM_graph := fun _ h => List.mem_cons_of_mem _ (vmi_L h)
  have hD := hD0.self (sz := s.heap.size)
  generalize hAe : va_A ((mo_w ad ck x0 (nI x16) (nI x18) (nI x19) x20 (nI x21) (nI x22) x23 x24 x25 (nI x26) x27 (nI x28) (nI x29) (nI x30) (nI x33) x45 (nI x46) (nI x52) (nI x53) (nI x61) (nI x62) (nI x63) (nI x65) x66 f1 f2 f3 (bN 3 q4) (bN 7 q5) (bN 7 q6) (bN 4 q7) f8 (bN 2 q9) (bH q10) f11 (b2 m12_0 m12_1) (b2 m13_0 m13_1) (b2 m14_0 m14_1) (b2m m15_0 m15_1) f17 (bA 159 q31) f32 f34 f35 f36 f37 (bN 7 q38) f39 f40 f41 (b2 m42_0 m42_1) f43 f44 f47 f48 f49 f50 f51 (bN 13 q54) (bN 120 q55) (bN 120 q56) f57 (bN 120 q58) f59 f60 f64)) s.heap.size = A at hD ⊢
  have hA : ∀ q : Nat, s.heap.size ≤ q → A q := fun q h => by rw [← hAe]; exact Or.inr h
  have hS : va_S A s.heap s.heap [] := va_S.rf
  have hl := lv_entry ([.ref (ad 0), .int p0, .int (nI a1)]) (n := 3) (Nat.le_of_ble_eq_true rfl)
  rw [lg_entry_eq]
  generalize (lg_sl ([.ref (ad 0), .int p0, .int (nI a1)]) ++ List.replicate (3 - (lg_sl ([.ref (ad 0), .int p0, .int (nI a1)])).length) Slot.unset).toArray = ls at hl ⊢
  have hl : lv_has ls 3 [(0, .ref (ad 0)), (1, .int p0), (2, .int (nI a1))] := hl
  obtain ⟨RR, hRR⟩ : ∃ x, x = (sp_EM_graph x16 x29 x45 x46 f3 q4 q5 q6 q7 f8 q9 q10 f11 m12_0 m12_1 m13_0 m13_1 m14_0 m14_1 m15_0 m15_1 f34 f35 q38 f39 f40 f41 m42_0 f43 f44 f47 f48 p0 a1) := ⟨_, rfl⟩
  have hsp := hRR
  refine lv_aload_n hx hb dX9_graph_0 rfl (lv_at hl 0 rfl) ?_
  refine lv_iconst (v := 0) hx hb dX9_graph_1 (by decide) ?_
  refine va_put (D := (dC, dI)) (ci := 9) (v := .int 0) (ty := .int) (C := RX9) (T := TX9) (N := 67) hx hb hts hiX9 tyX9 tyX9_ok nmX9 hown hK hP hD hS 0 rfl rfl 0 (by decide) v_1 (fun _ h9 => h9) rfl (by decide +kernel) rfl rfl (Nat.le_of_ble_eq_true rfl) dX9_graph_2 (fun H locs hP hD hS => ?_)
  have hP : va_P (dC, dI) vwCl (mo_w ad ck 0 (nI x16) (nI x18) (nI x19) x20 (nI x21) (nI x22) x23 x24 x25 (nI x26) x27 (nI x28) (nI x29) (nI x30) (nI x33) x45 (nI x46) (nI x52) (nI x53) (nI x61) (nI x62) (nI x63) (nI x65) x66 f1 f2 f3 (bN 3 q4) (bN 7 q5) (bN 7 q6) (bN 4 q7) f8 (bN 2 q9) (bH q10) f11 (b2 m12_0 m12_1) (b2 m13_0 m13_1) (b2 m14_0 m14_1) (b2m m15_0 m15_1) f17 (bA 159 q31) f32 f34 f35 f36 f37 (bN 7 q38) f39 f40 f41 (b2 m42_0 m42_1) f43 f44 f47 f48 f49 f50 f51 (bN 13 q54) (bN 120 q55) (bN 120 q56) f57 (bN 120 q58) f59 f60 f64) H := hP
  have hD : va_D A (mo_w ad ck 0 (nI x16) (nI x18) (nI x19) x20 (nI x21) (nI x22) x23 x24 x25 (nI x26) x27 (nI x28) (nI x29) (nI x30) (nI x33) x45 (nI x46) (nI x52) (nI x53) (nI x61) (nI x62) (nI x63) (nI x65) x66 f1 f2 f3 (bN 3 q4) (bN 7 q5) (bN 7 q6) (bN 4 q7) f8 (bN 2 q9) (bH q10) f11 (b2 m12_0 m12_1) (b2 m13_0 m13_1) (b2 m14_0 m14_1) (b2m m15_0 m15_1) f17 (bA 159 q31) f32 f34 f35 f36 f37 (bN 7 q38) f39 f40 f41 (b2 m42_0 m42_1) f43 f44 f47 f48 f49 f50 f51 (bN 13 q54) (bN 120 q55) (bN 120 q56) f57 (bN 120 q58) f59 f60 f64) := hD
  refine lv_iload_n hx hb dX9_graph_5 rfl (lv_at hl 1 rfl) ?_
  refine lv_iconst (v := 0) hx hb dX9_graph_6 (by decide) ?_
  refine lv_iconst (v := 2) hx hb dX9_graph_7 (by decide) ?_
  refine va_calli (va_runS (As := [.int p0, .int 0, .int 2]) (rest := []) ⟨hx, hb, hml, hown, hts⟩ (c_X9_in l dC dI _ p0 0 2) (va_cwS 3 hts g_EM_graph_X9_in rfl rfl rfl (by decide +kernel) ⟨Nat.le_of_ble_eq_true rfl, Nat.le_of_ble_eq_true rfl⟩) ⟨pu_bl, pu_in (hP.sub [] rfl) (hK.sub [] rfl) (hD.sub [] (by decide) rfl)⟩ rfl rfl hl.1 rfl (lv_room (Nat.le_of_ble_eq_true rfl)) dX9_graph_8 ⟨Nat.le_of_ble_eq_true rfl, Nat.le_of_ble_eq_true rfl⟩) hS (fun q _ h => pu_fr hS hA q h) (pu_fr hS hA) (fun r_1 u t H1 locs ht hvm hw hB hz1 hk1 hS => ?_)
  have hP := pu_keep hP hk1
  clear hk1 hz1 ht hvm
  generalize H1 = H at hP hS ⊢
  rcases hw with ⟨rfl, hi1, hi2⟩ | ⟨rfl, hi3⟩
  · replace hsp := hsp.trans (if_pos ⟨hi1, hi2⟩)
    obtain ⟨n_2, hn_2, rfl⟩ := pu_in0 (n := 2) (by omega) hi1 hi2
    replace hsp := hsp.trans (slet_eq (nI_cl (n := n_2) (by omega)))
    refine lv_if_eq (tgt := 26) hx hb dX9_graph_11 (by decide) (fun z => absurd z (by decide)) (fun _ => ?_)
    refine lv_aload_n hx hb dX9_graph_14 rfl (lv_at hl 0 rfl) ?_
    refine va_get (D := (dC, dI)) (ci := 9) (v := .ref (ad 13)) (C := RX9) (T := TX9) (N := 67) hx hb hts hiX9 hown hK hP 0 rfl rfl 13 (by decide) v_6 (fun _ h9 => h9) rfl dX9_graph_15 ?_
    refine lv_aload_n hx hb dX9_graph_18 rfl (lv_at hl 0 rfl) ?_
    refine va_get (D := (dC, dI)) (ci := 9) (v := .int (nI x16)) (C := RX9) (T := TX9) (N := 67) hx hb hts hiX9 hown hK hP 0 rfl rfl 16 (by decide) v_7 (fun _ h9 => h9) rfl dX9_graph_19 ?_
    refine va_iald hx hb hK hP 13 12 rfl rfl (vp_in_nI (n := x16) (Nat.lt_of_le_of_lt hx16 (Nat.le_of_ble_eq_true rfl)) (Nat.le_of_ble_eq_true rfl)) dX9_graph_22 ?_
    refine lv_topi (fun y_3 ey_3 => ?_)
    obtain ⟨u_4, hu_4, fu_4, xu_4⟩ := b2_getx (a := m13_0) (b := m13_1) (i := x16) (by omega)
    have qy_3 := ey_3.trans fu_4
    replace hsp := hsp.trans (slet_eq xu_4)
    obtain rfl : y_3 = nI u_4 := qy_3
    refine lv_if_ne (tgt := 28) hx hb dX9_graph_23 (by decide) (fun c_5 => ?_) (fun c_5 => ?_)
    · have c_5 : ¬ u_4 = 0 := fun z => c_5 ((nI_eq (a := u_4) (b := 0) (by omega) (Nat.le_of_ble_eq_true rfl)).mpr z)
      replace hsp := hsp.trans (if_neg c_5)
      refine lv_aload_n hx hb dX9_graph_28 rfl (lv_at hl 0 rfl) ?_
      refine lv_aload_n hx hb dX9_graph_29 rfl (lv_at hl 0 rfl) ?_
      refine va_calli (va_runV (As := []) (rest := [.ref (ad 0)]) ⟨hx, hb, hml, hown, hts⟩ (c_EM_clocks l dC dI _ ad ck 0 x16 x18 x19 x20 x21 x22 x23 x24 x25 x26 x27 x28 x29 x30 x33 x45 x46 x52 x53 x61 x62 x63 x65 x66 f1 f2 f3 q4 q5 q6 q7 f8 q9 q10 f11 m12_0 m12_1 m13_0 m13_1 m14_0 m14_1 m15_0 m15_1 f17 q31 f32 f34 f35 f36 f37 q38 f39 f40 f41 m42_0 m42_1 f43 f44 f47 f48 f49 f50 f51 q54 q55 q56 f57 q58 f59 f60 f64 hx16 hx18 hx19 hx21 hx22 hx26 hx28 hx29 hx30 hx33 hx46 hx52 hx53 hx61 hx62 hx63 hx65 hm12_0 hm12_1 hm13_0 hm13_1 hm14_0 hm14_1 hm15_0 hm15_1 hm42_0 hm42_1) (cwV 0 hts g_EM_graph_EM_clocks rfl rfl rfl (by decide +kernel) ⟨Nat.le_of_ble_eq_true rfl, Nat.le_of_ble_eq_true rfl⟩) ⟨pu_bl, va_recv hK hP (ci := 9) (q0 := 0) rfl rfl, pu_in hP hK hD⟩ rfl rfl hl.1 rfl (lv_room (Nat.le_of_ble_eq_true rfl)) dX9_graph_30 ⟨Nat.le_of_ble_eq_true rfl, Nat.le_of_ble_eq_true rfl⟩) hS (fun q _ h => pu_fr hS hA q h) (pu_fr hS hA) (fun r_6 u t H1 locs ht hvm hw hB hz1 hk1 hS => ?_)
      have hP := pu_keep hP hk1
      clear hk1 hz1 ht hvm
      generalize H1 = H at hP hS ⊢
      obtain ⟨u_7, hu_7, rfl, iu_7⟩ := hw
      replace hsp := hsp.trans (slet_eq iu_7)
      refine lv_iconst (v := 1) hx hb dX9_graph_33 (by decide) ?_
      refine lv_iadd hx hb dX9_graph_34 ?_
      refine lv_topi (fun y_8 ey_8 => ?_)
      obtain rfl : y_8 = (nI (u_7 + 1)) := ey_8.trans (nI_add u_7 1)
      refine va_put (D := (dC, dI)) (ci := 9) (v := .int (nI (u_7 + 1))) (ty := .int) (C := RX9) (T := TX9) (N := 67) hx hb hts hiX9 tyX9 tyX9_ok nmX9 hown hK hP hD hS 0 rfl rfl 46 (by decide) v_12 (fun _ h9 => h9) rfl (by decide +kernel) rfl rfl (Nat.le_of_ble_eq_true rfl) dX9_graph_35 (fun H locs hP hD hS => ?_)
      have hP : va_P (dC, dI) vwCl (mo_w ad ck 0 (nI x16) (nI x18) (nI x19) x20 (nI x21) (nI x22) x23 x24 x25 (nI x26) x27 (nI x28) (nI x29) (nI x30) (nI x33) x45 (nI (u_7 + 1)) (nI x52) (nI x53) (nI x61) (nI x62) (nI x63) (nI x65) x66 f1 f2 f3 (bN 3 q4) (bN 7 q5) (bN 7 q6) (bN 4 q7) f8 (bN 2 q9) (bH q10) f11 (b2 m12_0 m12_1) (b2 m13_0 m13_1) (b2 m14_0 m14_1) (b2m m15_0 m15_1) f17 (bA 159 q31) f32 f34 f35 f36 f37 (bN 7 q38) f39 f40 f41 (b2 m42_0 m42_1) f43 f44 f47 f48 f49 f50 f51 (bN 13 q54) (bN 120 q55) (bN 120 q56) f57 (bN 120 q58) f59 f60 f64) H := hP
      have hD : va_D A (mo_w ad ck 0 (nI x16) (nI x18) (nI x19) x20 (nI x21) (nI x22) x23 x24 x25 (nI x26) x27 (nI x28) (nI x29) (nI x30) (nI x33) x45 (nI (u_7 + 1)) (nI x52) (nI x53) (nI x61) (nI x62) (nI x63) (nI x65) x66 f1 f2 f3 (bN 3 q4) (bN 7 q5) (bN 7 q6) (bN 4 q7) f8 (bN 2 q9) (bH q10) f11 (b2 m12_0 m12_1) (b2 m13_0 m13_1) (b2 m14_0 m14_1) (b2m m15_0 m15_1) f17 (bA 159 q31) f32 f34 f35 f36 f37 (bN 7 q38) f39 f40 f41 (b2 m42_0 m42_1) f43 f44 f47 f48 f49 f50 f51 (bN 13 q54) (bN 120 q55) (bN 120 q56) f57 (bN 120 q58) f59 f60 f64) := hD
      refine lv_aload_n hx hb dX9_graph_38 rfl (lv_at hl 0 rfl) ?_
      refine lv_iconst (v := 0) hx hb dX9_graph_39 (by decide) ?_
      refine lv_iconst (v := 0) hx hb dX9_graph_40 (by decide) ?_
      refine lv_iconst (v := 0) hx hb dX9_graph_41 (by decide) ?_
      have hFc := pu_free hD hS hA
      refine va_callv (va_runV (As := [.int 0, .int 0, .int 0]) (rest := []) ⟨hx, hb, hml, hown, hts⟩ (c_EM_layPoint l dC dI _ ad ck 0 x16 x18 x19 x20 x21 x22 x23 x24 x25 x26 x27 x28 x29 x30 x33 x45 (u_7 + 1) x52 x53 x61 x62 x63 x65 x66 f1 f2 f3 q4 q5 q6 q7 f8 q9 q10 f11 m12_0 m12_1 m13_0 m13_1 m14_0 m14_1 m15_0 m15_1 f17 q31 f32 f34 f35 f36 f37 q38 f39 f40 f41 m42_0 m42_1 f43 f44 f47 f48 f49 f50 f51 q54 q55 q56 f57 q58 f59 f60 f64 0 0 0 hx16 hx18 hx19 hx21 hx22 hx26 hx28 hx29 hx30 hx33 (by omega) hx52 hx53 hx61 hx62 hx63 hx65 hm12_0 hm12_1 hm13_0 hm13_1 hm14_0 hm14_1 hm15_0 hm15_1 hm42_0 hm42_1) (cwV 3 hts g_EM_graph_EM_layPoint rfl rfl rfl (by decide +kernel) ⟨Nat.le_of_ble_eq_true rfl, Nat.le_of_ble_eq_true rfl⟩) ⟨pu_bl, va_recv hK hP (ci := 9) (q0 := 0) rfl rfl, pu_in hP hK hD⟩ rfl rfl hl.1 rfl (lv_room (Nat.le_of_ble_eq_true rfl)) dX9_graph_42 ⟨Nat.le_of_ble_eq_true rfl, Nat.le_of_ble_eq_true rfl⟩) hS (fun q _ h => hFc q h) hFc (fun u t H1 locs ht hvm hw hB hz1 hk1 hS => ?_)
      obtain ⟨z35_10, ⟨hP1, -, hD1⟩, xr_9_0⟩ := hB
      rw [ht] at hP1
      have hP := hP1
      have hD := pu_all hFc hD1
      clear hP1 hD1 hFc
      clear hk1 hz1 ht hvm
      generalize H1 = H at hP hS ⊢
      replace hsp := hsp.trans (slet_eq xr_9_0)
      refine lv_aload_n hx hb dX9_graph_45 rfl (lv_at hl 0 rfl) ?_
      refine lv_iconst (v := 0) hx hb dX9_graph_46 (by decide) ?_
      refine lv_aload_n hx hb dX9_graph_47 rfl (lv_at hl 0 rfl) ?_
      refine va_get (D := (dC, dI)) (ci := 9) (v := .ref (ad 15)) (C := RX9) (T := TX9) (N := 67) hx hb hts hiX9 hown hK hP 0 rfl rfl 15 (by decide) v_17 (fun _ h9 => h9) rfl dX9_graph_48 ?_
      refine lv_aload_n hx hb dX9_graph_51 rfl (lv_at hl 0 rfl) ?_
      refine va_get (D := (dC, dI)) (ci := 9) (v := .int (nI x16)) (C := RX9) (T := TX9) (N := 67) hx hb hts hiX9 hown hK hP 0 rfl rfl 16 (by decide) v_7 (fun _ h9 => h9) rfl dX9_graph_52 ?_
      refine va_iald hx hb hK hP 15 14 rfl rfl (vp_in_nI (n := x16) (Nat.lt_of_le_of_lt hx16 (Nat.le_of_ble_eq_true rfl)) (Nat.le_of_ble_eq_true rfl)) dX9_graph_55 ?_
      refine lv_topi (fun y_11 ey_11 => ?_)
      obtain ⟨u_12, hu_12, fu_12, xu_12⟩ := b2m_getx (a := m15_0) (b := m15_1) (i := x16) (by omega)
      have qy_11 := ey_11.trans fu_12
      replace hsp := hsp.trans (slet_eq xu_12)
      rcases mI_get u_12 with ⟨zy_11, wy_11⟩ | ⟨vy_11, zy_11, wy_11⟩
      · exfalso
        omega
      · obtain rfl : y_11 = nI vy_11 := qy_11.trans wy_11
        replace hsp := hsp.trans (slet_eq (by omega : vy_11 = u_12 - 1))
        refine lv_iload_n hx hb dX9_graph_56 rfl (lv_at hl 1 rfl) ?_
        refine lv_iload_n hx hb dX9_graph_57 rfl (lv_at hl 2 rfl) ?_
        refine lv_bipush (v := 120) hx hb dX9_graph_58 (by decide) ?_
        refine lv_iconst (v := (-1)) hx hb dX9_graph_60 (by decide) ?_
        have hFc := pu_free hD hS hA
        refine va_callv (va_runV (As := [.int 0, .int (nI vy_11), .int (nI n_2), .int (nI a1), .int 120, .int (-1)]) (rest := []) ⟨hx, hb, hml, hown, hts⟩ (c_EM_explores_0_120 l dC dI _ ad ck 0 x16 x18 x19 x20 x21 x22 x23 x24 x25 x26 x27 x28 x29 x30 x33 x45 (u_7 + 1) x52 x53 x61 x62 x63 x65 x66 f1 f2 f3 q4 q5 q6 q7 f8 q9 q10 f11 m12_0 m12_1 m13_0 m13_1 m14_0 m14_1 m15_0 m15_1 f17 q31 f32 f34 z35_10 f36 f37 q38 f39 f40 f41 m42_0 m42_1 f43 f44 f47 f48 f49 f50 f51 q54 q55 q56 f57 q58 f59 f60 f64 vy_11 (nI n_2) a1 (-1) hx16 hx18 hx19 hx21 hx22 hx26 hx28 hx29 hx30 hx33 (by omega) hx52 hx53 hx61 hx62 hx63 hx65 hm12_0 hm12_1 hm13_0 hm13_1 hm14_0 hm14_1 hm15_0 hm15_1 hm42_0 hm42_1 (by omega) ha1 (by first | assumption | exact gz_0)) (cwV 6 hts g_EM_graph_EM_explores_0_120 rfl rfl rfl (by decide +kernel) ⟨Nat.le_of_ble_eq_true rfl, Nat.le_of_ble_eq_true rfl⟩) ⟨pu_bl, va_recv hK hP (ci := 9) (q0 := 0) rfl rfl, pu_in hP hK hD⟩ rfl rfl hl.1 rfl (lv_room (Nat.le_of_ble_eq_true rfl)) dX9_graph_61 ⟨Nat.le_of_ble_eq_true rfl, Nat.le_of_ble_eq_true rfl⟩) hS (fun q _ h => hFc q h) hFc (fun u t H1 locs ht hvm hw hB hz1 hk1 hS => ?_)
        obtain ⟨z34_14, z35_15, z38_16, z39_17, z40_18, z41_19, z43_20, z44_21, z47_22, z48_23, z42_0_24, ⟨hP1, -, hD1⟩, hz42_0_24, xr_13_0, xr_13_1⟩ := hB
        rw [ht] at hP1
        have hP := hP1
        have hD := pu_all hFc hD1
        clear hP1 hD1 hFc
        clear hk1 hz1 ht hvm
        generalize H1 = H at hP hS ⊢
        replace hsp := hsp.trans (slet_eq xr_13_1)
        refine lv_aload_n hx hb dX9_graph_64 rfl (lv_at hl 0 rfl) ?_
        refine lv_iconst (v := 1) hx hb dX9_graph_65 (by decide) ?_
        refine va_put (D := (dC, dI)) (ci := 9) (v := .int 1) (ty := .boolean) (C := RX9) (T := TX9) (N := 67) hx hb hts hiX9 tyX9 tyX9_ok nmX9 hown hK hP hD hS 0 rfl rfl 29 (by decide) v_22 (fun _ h9 => h9) rfl (by decide +kernel) rfl rfl (Nat.le_of_ble_eq_true rfl) dX9_graph_66 (fun H locs hP hD hS => ?_)
        have hP : va_P (dC, dI) vwCl (mo_w ad ck 0 (nI x16) (nI x18) (nI x19) x20 (nI x21) (nI x22) x23 x24 x25 (nI x26) x27 (nI x28) 1 (nI x30) (nI x33) x45 (nI (u_7 + 1)) (nI x52) (nI x53) (nI x61) (nI x62) (nI x63) (nI x65) x66 f1 f2 f3 (bN 3 q4) (bN 7 q5) (bN 7 q6) (bN 4 q7) f8 (bN 2 q9) (bH q10) f11 (b2 m12_0 m12_1) (b2 m13_0 m13_1) (b2 m14_0 m14_1) (b2m m15_0 m15_1) f17 (bA 159 q31) f32 z34_14 z35_15 f36 f37 (bN 7 z38_16) z39_17 z40_18 z41_19 (b2 z42_0_24 m42_1) z43_20 z44_21 z47_22 z48_23 f49 f50 f51 (bN 13 q54) (bN 120 q55) (bN 120 q56) f57 (bN 120 q58) f59 f60 f64) H := hP
        have hD : va_D A (mo_w ad ck 0 (nI x16) (nI x18) (nI x19) x20 (nI x21) (nI x22) x23 x24 x25 (nI x26) x27 (nI x28) 1 (nI x30) (nI x33) x45 (nI (u_7 + 1)) (nI x52) (nI x53) (nI x61) (nI x62) (nI x63) (nI x65) x66 f1 f2 f3 (bN 3 q4) (bN 7 q5) (bN 7 q6) (bN 4 q7) f8 (bN 2 q9) (bH q10) f11 (b2 m12_0 m12_1) (b2 m13_0 m13_1) (b2 m14_0 m14_1) (b2m m15_0 m15_1) f17 (bA 159 q31) f32 z34_14 z35_15 f36 f37 (bN 7 z38_16) z39_17 z40_18 z41_19 (b2 z42_0_24 m42_1) z43_20 z44_21 z47_22 z48_23 f49 f50 f51 (bN 13 q54) (bN 120 q55) (bN 120 q56) f57 (bN 120 q58) f59 f60 f64) := hD
        refine lv_aload_n hx hb dX9_graph_69 rfl (lv_at hl 0 rfl) ?_
        refine lv_iload_n hx hb dX9_graph_70 rfl (lv_at hl 1 rfl) ?_
        refine va_put (D := (dC, dI)) (ci := 9) (v := .int (nI n_2)) (ty := .int) (C := RX9) (T := TX9) (N := 67) hx hb hts hiX9 tyX9 tyX9_ok nmX9 hown hK hP hD hS 0 rfl rfl 45 (by decide) v_23 (fun _ h9 => h9) rfl (by decide +kernel) rfl rfl (Nat.le_of_ble_eq_true rfl) dX9_graph_71 (fun H locs hP hD hS => ?_)
        have hP : va_P (dC, dI) vwCl (mo_w ad ck 0 (nI x16) (nI x18) (nI x19) x20 (nI x21) (nI x22) x23 x24 x25 (nI x26) x27 (nI x28) 1 (nI x30) (nI x33) (nI n_2) (nI (u_7 + 1)) (nI x52) (nI x53) (nI x61) (nI x62) (nI x63) (nI x65) x66 f1 f2 f3 (bN 3 q4) (bN 7 q5) (bN 7 q6) (bN 4 q7) f8 (bN 2 q9) (bH q10) f11 (b2 m12_0 m12_1) (b2 m13_0 m13_1) (b2 m14_0 m14_1) (b2m m15_0 m15_1) f17 (bA 159 q31) f32 z34_14 z35_15 f36 f37 (bN 7 z38_16) z39_17 z40_18 z41_19 (b2 z42_0_24 m42_1) z43_20 z44_21 z47_22 z48_23 f49 f50 f51 (bN 13 q54) (bN 120 q55) (bN 120 q56) f57 (bN 120 q58) f59 f60 f64) H := hP
        have hD : va_D A (mo_w ad ck 0 (nI x16) (nI x18) (nI x19) x20 (nI x21) (nI x22) x23 x24 x25 (nI x26) x27 (nI x28) 1 (nI x30) (nI x33) (nI n_2) (nI (u_7 + 1)) (nI x52) (nI x53) (nI x61) (nI x62) (nI x63) (nI x65) x66 f1 f2 f3 (bN 3 q4) (bN 7 q5) (bN 7 q6) (bN 4 q7) f8 (bN 2 q9) (bH q10) f11 (b2 m12_0 m12_1) (b2 m13_0 m13_1) (b2 m14_0 m14_1) (b2m m15_0 m15_1) f17 (bA 159 q31) f32 z34_14 z35_15 f36 f37 (bN 7 z38_16) z39_17 z40_18 z41_19 (b2 z42_0_24 m42_1) z43_20 z44_21 z47_22 z48_23 f49 f50 f51 (bN 13 q54) (bN 120 q55) (bN 120 q56) f57 (bN 120 q58) f59 f60 f64) := hD
        refine lv_aload_n hx hb dX9_graph_74 rfl (lv_at hl 0 rfl) ?_
        refine va_get (D := (dC, dI)) (ci := 9) (v := .ref (ad 42)) (C := RX9) (T := TX9) (N := 67) hx hb hts hiX9 hown hK hP 0 rfl rfl 42 (by decide) v_24 (fun _ h9 => h9) rfl dX9_graph_75 ?_
        refine lv_iconst (v := 0) hx hb dX9_graph_78 (by decide) ?_
        refine va_iald hx hb hK hP 27 26 rfl rfl (vp_in_nI (n := 0) (Nat.le_of_ble_eq_true rfl) (Nat.le_of_ble_eq_true rfl)) dX9_graph_79 ?_
        refine lv_topi (fun y_25 ey_25 => ?_)
        have qy_25 := ey_25.trans b2_0
        clear ey_25
        obtain rfl : y_25 = nI z42_0_24 := qy_25
        exact W.iret (v := (nI z42_0_24)) hx hb hr (fun t ht hW => ⟨⟨(nI z42_0_24), (), rfl, (congrArg Prod.fst (hsp.symm.trans hRR)), ⟨z34_14, z35_15, z38_16, z39_17, z40_18, z41_19, z43_20, z44_21, z47_22, z48_23, z42_0_24, 0, 1, (nI n_2), (u_7 + 1), ⟨by rw [ht]; exact hP, va_K.moved hW.alike hK, hD⟩, hz42_0_24, (Nat.le_of_ble_eq_true rfl), (by omega), by first | assumption | exact gz_0, (congrArg Prod.snd (hsp.symm.trans hRR))⟩⟩, hS.F ht⟩) hS.2.2 dX9_graph_80
    · have c_5 : u_4 = 0 := (nI_eq (a := u_4) (b := 0) (by omega) (Nat.le_of_ble_eq_true rfl)).mp c_5
      replace hsp := hsp.trans (if_pos c_5)
      refine lv_iconst (v := (-1)) hx hb dX9_graph_26 (by decide) ?_
      exact W.iret (v := (-1)) hx hb hr (fun t ht hW => ⟨⟨(-1), (), rfl, (congrArg Prod.fst (hsp.symm.trans hRR)), ⟨f34, f35, q38, f39, f40, f41, f43, f44, f47, f48, m42_0, 0, x29, x45, x46, ⟨by rw [ht]; exact hP, va_K.moved hW.alike hK, hD⟩, hm42_0, hx29, hx46, by first | assumption | exact gz_0, (congrArg Prod.snd (hsp.symm.trans hRR))⟩⟩, hS.F ht⟩) hS.2.2 dX9_graph_27
  · replace hsp := hsp.trans (if_neg hi3)
    refine lv_if_eq (tgt := 26) hx hb dX9_graph_11 (by decide) (fun _ => ?_) (fun z => absurd z (by decide))
    refine lv_iconst (v := (-1)) hx hb dX9_graph_26 (by decide) ?_
    exact W.iret (v := (-1)) hx hb hr (fun t ht hW => ⟨⟨(-1), (), rfl, (congrArg Prod.fst (hsp.symm.trans hRR)), ⟨f34, f35, q38, f39, f40, f41, f43, f44, f47, f48, m42_0, 0, x29, x45, x46, ⟨by rw [ht]; exact hP, va_K.moved hW.alike hK, hD⟩, hm42_0, hx29, hx46, by first | assumption | exact gz_0, (congrArg Prod.snd (hsp.symm.trans hRR))⟩⟩, hS.F ht⟩) hS.2.2 dX9_graph_27
