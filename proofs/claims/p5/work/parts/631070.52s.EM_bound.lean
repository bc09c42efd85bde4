theorem dX9_bound_0 : decode cX9_bound 0 = .ok (.aload_n 0, 1) := by decide +kernel
theorem dX9_bound_1 : decode cX9_bound 1 = .ok (.iconst 0, 1) := by decide +kernel
theorem dX9_bound_2 : decode cX9_bound 2 = .ok (.putfield 142, 3) := by decide +kernel
theorem dX9_bound_5 : decode cX9_bound 5 = .ok (.aload_n 0, 1) := by decide +kernel
theorem dX9_bound_6 : decode cX9_bound 6 = .ok (.iload_n 1, 1) := by decide +kernel
theorem dX9_bound_7 : decode cX9_bound 7 = .ok (.invokevirtual 387, 3) := by decide +kernel
theorem dX9_bound_10 : decode cX9_bound 10 = .ok (.ifCond .eq 41, 3) := by decide +kernel
theorem dX9_bound_13 : decode cX9_bound 13 = .ok (.iload_n 2, 1) := by decide +kernel
theorem dX9_bound_14 : decode cX9_bound 14 = .ok (.iconst (-1), 1) := by decide +kernel
theorem dX9_bound_15 : decode cX9_bound 15 = .ok (.aload_n 0, 1) := by decide +kernel
theorem dX9_bound_16 : decode cX9_bound 16 = .ok (.invokevirtual 280, 3) := by decide +kernel
theorem dX9_bound_19 : decode cX9_bound 19 = .ok (.iconst 1, 1) := by decide +kernel
theorem dX9_bound_20 : decode cX9_bound 20 = .ok (.isub, 1) := by decide +kernel
theorem dX9_bound_21 : decode cX9_bound 21 = .ok (.invokestatic 152, 3) := by decide +kernel
theorem dX9_bound_24 : decode cX9_bound 24 = .ok (.ifCond .eq 27, 3) := by decide +kernel
theorem dX9_bound_27 : decode cX9_bound 27 = .ok (.iload_n 3, 1) := by decide +kernel
theorem dX9_bound_28 : decode cX9_bound 28 = .ok (.iconst (-1), 1) := by decide +kernel
theorem dX9_bound_29 : decode cX9_bound 29 = .ok (.aload_n 0, 1) := by decide +kernel
theorem dX9_bound_30 : decode cX9_bound 30 = .ok (.invokevirtual 280, 3) := by decide +kernel
theorem dX9_bound_33 : decode cX9_bound 33 = .ok (.iconst 1, 1) := by decide +kernel
theorem dX9_bound_34 : decode cX9_bound 34 = .ok (.isub, 1) := by decide +kernel
theorem dX9_bound_35 : decode cX9_bound 35 = .ok (.invokestatic 152, 3) := by decide +kernel
theorem dX9_bound_38 : decode cX9_bound 38 = .ok (.ifCond .eq 13, 3) := by decide +kernel
theorem dX9_bound_41 : decode cX9_bound 41 = .ok (.iload 4, 2) := by decide +kernel
theorem dX9_bound_43 : decode cX9_bound 43 = .ok (.iconst 0, 1) := by decide +kernel
theorem dX9_bound_44 : decode cX9_bound 44 = .ok (.iconst 1, 1) := by decide +kernel
theorem dX9_bound_45 : decode cX9_bound 45 = .ok (.invokestatic 152, 3) := by decide +kernel
theorem dX9_bound_48 : decode cX9_bound 48 = .ok (.ifCond .ne 7, 3) := by decide +kernel
theorem dX9_bound_51 : decode cX9_bound 51 = .ok (.ldc_w 393, 3) := by decide +kernel
theorem dX9_bound_54 : decode cX9_bound 54 = .ok (.ireturn, 1) := by decide +kernel
theorem dX9_bound_55 : decode cX9_bound 55 = .ok (.aload_n 0, 1) := by decide +kernel
theorem dX9_bound_56 : decode cX9_bound 56 = .ok (.iload_n 1, 1) := by decide +kernel
theorem dX9_bound_57 : decode cX9_bound 57 = .ok (.iload_n 2, 1) := by decide +kernel
theorem dX9_bound_58 : decode cX9_bound 58 = .ok (.iload_n 3, 1) := by decide +kernel
theorem dX9_bound_59 : decode cX9_bound 59 = .ok (.invokevirtual 394, 3) := by decide +kernel
theorem dX9_bound_62 : decode cX9_bound 62 = .ok (.istore 5, 2) := by decide +kernel
theorem dX9_bound_64 : decode cX9_bound 64 = .ok (.iload 5, 2) := by decide +kernel
theorem dX9_bound_66 : decode cX9_bound 66 = .ok (.ldc_w 327, 3) := by decide +kernel
theorem dX9_bound_69 : decode cX9_bound 69 = .ok (.if_icmp .lt 9, 3) := by decide +kernel
theorem dX9_bound_72 : decode cX9_bound 72 = .ok (.ldc_w 398, 3) := by decide +kernel
theorem dX9_bound_75 : decode cX9_bound 75 = .ok (.goto 19, 3) := by decide +kernel
theorem dX9_bound_78 : decode cX9_bound 78 = .ok (.iload 4, 2) := by decide +kernel
theorem dX9_bound_80 : decode cX9_bound 80 = .ok (.ifCond .ne 10, 3) := by decide +kernel
theorem dX9_bound_83 : decode cX9_bound 83 = .ok (.iload 5, 2) := by decide +kernel
theorem dX9_bound_85 : decode cX9_bound 85 = .ok (.iconst 1, 1) := by decide +kernel
theorem dX9_bound_86 : decode cX9_bound 86 = .ok (.ishr, 1) := by decide +kernel
theorem dX9_bound_87 : decode cX9_bound 87 = .ok (.goto 7, 3) := by decide +kernel
theorem dX9_bound_90 : decode cX9_bound 90 = .ok (.iload 5, 2) := by decide +kernel
theorem dX9_bound_92 : decode cX9_bound 92 = .ok (.iconst 1, 1) := by decide +kernel
theorem dX9_bound_93 : decode cX9_bound 93 = .ok (.iand, 1) := by decide +kernel
theorem dX9_bound_94 : decode cX9_bound 94 = .ok (.ireturn, 1) := by decide +kernel
abbrev vs_EM_bound : List Cond := .code yX9_bound cX9_bound 6 (some .int) :: VM
theorem g_EM_bound_X9_in : GoodIn vs_EM_bound (va_wsS RX9 152 yX9_in vs_X9_in) := gm_0 (fun w h => by
  rcases List.mem_cons.mp h with rfl | h
  · exact vm_137
  rcases List.mem_cons.mp h with rfl | h
  · exact vm_138
  rcases List.mem_cons.mp h with rfl | h
  · exact vm_19
  rcases List.mem_cons.mp h with rfl | h
  · exact vm_139
  exact absurd h (List.not_mem_nil))
theorem g_EM_bound_EM_isState : GoodIn vs_EM_bound (wsV RX9 387 RX9 yX9_isState vs_EM_isState) := gm_V vm_263 vm_264 vm_265 vm_19 vm_266
theorem g_EM_bound_EM_clocks : GoodIn vs_EM_bound (wsV RX9 280 RX9 yX9_clocks vs_EM_clocks) := gm_V vm_140 vm_141 vm_142 vm_19 vm_143
theorem g_EM_bound_EM_boundOf_00 : GoodIn vs_EM_bound (wsV RX9 394 RX9 yX9_boundOf vs_EM_boundOf_00) := gm_V vm_267 vm_268 vm_269 vm_19 vm_270
theorem g_EM_bound_EM_boundOf_01 : GoodIn vs_EM_bound (wsV RX9 394 RX9 yX9_boundOf vs_EM_boundOf_01) := gm_V vm_267 vm_268 vm_269 vm_19 vm_270
theorem g_EM_bound_EM_boundOf_10 : GoodIn vs_EM_bound (wsV RX9 394 RX9 yX9_boundOf vs_EM_boundOf_10) := gm_V vm_267 vm_268 vm_269 vm_19 vm_270
theorem g_EM_bound_EM_boundOf_11 : GoodIn vs_EM_bound (wsV RX9 394 RX9 yX9_boundOf vs_EM_boundOf_11) := gm_V vm_267 vm_268 vm_269 vm_19 vm_270
noncomputable def sp_EM_bound (x16 : Nat) (x29 : Nat) (m12_0 : Nat) (m12_1 : Nat) (f34 : Nat → Int32) (m42_0 : Nat) (p0 : Int32) (p1 : Int32) (p2 : Int32) (p3 : Int32) : Int32 × Int32 × Nat := (slet (sp_EM_isState x16 x29 m12_0 m12_1 m42_0 p0) (fun z46_2 => (if x29 = 1 ∧ (0 : Int32) ≤ p0 ∧ p0 < nI m42_0 then (slet ((p0 : Int32).toNatClampNeg) (fun n_3 => (slet (sp_EM_clocks x16 m12_0 m12_1) (fun u_5 => (if ((-1) : Int32) ≤ p1 ∧ p1 ≤ ((nI u_5) - 1) then (if (p1 : Int32) = -1 then (slet (sp_EM_clocks x16 m12_0 m12_1) (fun u_9 => (if ((-1) : Int32) ≤ p2 ∧ p2 ≤ ((nI u_9) - 1) then (if (p2 : Int32) = -1 then (if (0 : Int32) ≤ p3 ∧ p3 ≤ 1 then (slet ((p3 : Int32).toNatClampNeg) (fun n_13 => (slet (sp_EM_boundOf_00 f34 n_3) (fun r_14 => (if (r_14 : Int32) < 1048576 then (if n_13 = 0 then (slet ((r_14 : Int32) >>> ((1 : Int32) &&& 31)) (fun y_18 => (y_18, 0, z46_2))) else (slet ((r_14 : Int32) &&& (1 : Int32)) (fun y_17 => (y_17, 0, z46_2)))) else (2147483647, 0, z46_2)))))) else ((-2147483648), 0, z46_2)) else (slet ((p2 : Int32).toNatClampNeg) (fun n_11 => (if (0 : Int32) ≤ p3 ∧ p3 ≤ 1 then (slet ((p3 : Int32).toNatClampNeg) (fun n_20 => (slet (sp_EM_boundOf_01 f34 n_3 n_11) (fun r_21 => (if (r_21 : Int32) < 1048576 then (if n_20 = 0 then (slet ((r_21 : Int32) >>> ((1 : Int32) &&& 31)) (fun y_25 => (y_25, 0, z46_2))) else (slet ((r_21 : Int32) &&& (1 : Int32)) (fun y_24 => (y_24, 0, z46_2)))) else (2147483647, 0, z46_2)))))) else ((-2147483648), 0, z46_2))))) else ((-2147483648), 0, z46_2)))) else (slet ((p1 : Int32).toNatClampNeg) (fun n_7 => (slet (sp_EM_clocks x16 m12_0 m12_1) (fun u_27 => (if ((-1) : Int32) ≤ p2 ∧ p2 ≤ ((nI u_27) - 1) then (if (p2 : Int32) = -1 then (if (0 : Int32) ≤ p3 ∧ p3 ≤ 1 then (slet ((p3 : Int32).toNatClampNeg) (fun n_31 => (slet (sp_EM_boundOf_10 f34 n_3 n_7) (fun r_32 => (if (r_32 : Int32) < 1048576 then (if n_31 = 0 then (slet ((r_32 : Int32) >>> ((1 : Int32) &&& 31)) (fun y_36 => (y_36, 0, z46_2))) else (slet ((r_32 : Int32) &&& (1 : Int32)) (fun y_35 => (y_35, 0, z46_2)))) else (2147483647, 0, z46_2)))))) else ((-2147483648), 0, z46_2)) else (slet ((p2 : Int32).toNatClampNeg) (fun n_29 => (if (0 : Int32) ≤ p3 ∧ p3 ≤ 1 then (slet ((p3 : Int32).toNatClampNeg) (fun n_38 => (slet (sp_EM_boundOf_11 f34 n_3 n_7 n_29) (fun r_39 => (if (r_39 : Int32) < 1048576 then (if n_38 = 0 then (slet ((r_39 : Int32) >>> ((1 : Int32) &&& 31)) (fun y_43 => (y_43, 0, z46_2))) else (slet ((r_39 : Int32) &&& (1 : Int32)) (fun y_42 => (y_42, 0, z46_2)))) else (2147483647, 0, z46_2)))))) else ((-2147483648), 0, z46_2))))) else ((-2147483648), 0, z46_2))))))) else ((-2147483648), 0, z46_2)))))) else ((-2147483648), 0, z46_2))))
set_option maxHeartbeats 4000000 in
set_option maxRecDepth 100000 in
theorem c_EM_bound (l : Launch) (dC : Nat → ClassId) (dI : Nat → Nat → Nat) (sz : Nat) (ad : Nat → Nat) (ck : Nat → ClassId) (x0 : Int32) (x16 : Nat) (x18 : Nat) (x19 : Nat) (x20 : Int32) (x21 : Nat) (x22 : Nat) (x23 : Int32) (x24 : Int32) (x25 : Int32) (x26 : Nat) (x27 : Int32) (x28 : Nat) (x29 : Nat) (x30 : Nat) (x33 : Nat) (x45 : Int32) (x46 : Nat) (x52 : Nat) (x53 : Nat) (x61 : Nat) (x62 : Nat) (x63 : Nat) (x65 : Nat) (x66 : Int32) (f1 : Nat → Int32) (f2 : Nat → Int32) (f3 : Nat → Int32) (q4 : Nat → Nat) (q5 : Nat → Nat) (q6 : Nat → Nat) (q7 : Nat → Nat) (f8 : Nat → Int32) (q9 : Nat → Nat) (q10 : Nat → Nat) (f11 : Nat → Int32) (m12_0 m12_1 : Nat) (m13_0 m13_1 : Nat) (m14_0 m14_1 : Nat) (m15_0 m15_1 : Nat) (f17 : Nat → Int32) (q31 : Nat → Nat) (f32 : Nat → Int32) (f34 : Nat → Int32) (f35 : Nat → Int32) (f36 : Nat → Int32) (f37 : Nat → Int32) (q38 : Nat → Nat) (f39 : Nat → Int32) (f40 : Nat → Int32) (f41 : Nat → Int32) (m42_0 m42_1 : Nat) (f43 : Nat → Int32) (f44 : Nat → Int32) (f47 : Nat → Int32) (f48 : Nat → Int32) (f49 : Nat → Int32) (f50 : Nat → Int32) (f51 : Nat → Int32) (q54 : Nat → Nat) (q55 : Nat → Nat) (q56 : Nat → Nat) (f57 : Nat → Int32) (q58 : Nat → Nat) (f59 : Nat → Int32) (f60 : Nat → Int32) (f64 : Nat → Int32) (p0 : Int32) (p1 : Int32) (p2 : Int32) (p3 : Int32) (hx16 : x16 ≤ 1) (hx18 : x18 ≤ 900) (hx19 : x19 ≤ 900) (hx21 : x21 ≤ 900) (hx22 : x22 ≤ 4) (hx26 : x26 ≤ 6) (hx28 : x28 ≤ 1) (hx29 : x29 ≤ 1) (hx30 : x30 ≤ 1) (hx33 : x33 ≤ 20) (hx46 : x46 ≤ 5) (hx52 : x52 ≤ 2400) (hx53 : x53 ≤ 119) (hx61 : x61 ≤ 119) (hx62 : x62 ≤ 2000) (hx63 : x63 ≤ 1) (hx65 : x65 ≤ 7) (hm12_0 : m12_0 ≤ 3) (hm12_1 : m12_1 ≤ 3) (hm13_0 : m13_0 ≤ 8) (hm13_1 : m13_1 ≤ 8) (hm14_0 : m14_0 ≤ 14) (hm14_1 : m14_1 ≤ 14) (hm15_0 : m15_0 ≤ 8) (hm15_1 : m15_1 ≤ 8) (hm42_0 : m42_0 ≤ 120) (hm42_1 : m42_1 ≤ 400) : Met l yX9_bound vs_EM_bound ({ frames := 2, cells := 0, slots := 0, locals := 43 }) (va_Pc [.ref (ad 0), .int p0, .int p1, .int p2, .int p3] (pu_B (dC, dI) (mo_w ad ck x0 (nI x16) (nI x18) (nI x19) x20 (nI x21) (nI x22) x23 x24 x25 (nI x26) x27 (nI x28) (nI x29) (nI x30) (nI x33) x45 (nI x46) (nI x52) (nI x53) (nI x61) (nI x62) (nI x63) (nI x65) x66 f1 f2 f3 (bN 3 q4) (bN 7 q5) (bN 7 q6) (bN 4 q7) f8 (bN 2 q9) (bH q10) f11 (b2 m12_0 m12_1) (b2 m13_0 m13_1) (b2 m14_0 m14_1) (b2m m15_0 m15_1) f17 (bA 159 q31) f32 f34 f35 f36 f37 (bN 7 q38) f39 f40 f41 (b2 m42_0 m42_1) f43 f44 f47 f48 f49 f50 f51 (bN 13 q54) (bN 120 q55) (bN 120 q56) f57 (bN 120 q58) f59 f60 f64) (mo_t ck) sz)) (va_Qi (fun (r : Int32) (_ : Unit) => r = (sp_EM_bound x16 x29 m12_0 m12_1 f34 m42_0 p0 p1 p2 p3).1) (fun _ t => ∃ (z0 : Int32) (z46 : Nat), pu_E (dC, dI) (mo_w ad ck z0 (nI x16) (nI x18) (nI x19) x20 (nI x21) (nI x22) x23 x24 x25 (nI x26) x27 (nI x28) (nI x29) (nI x30) (nI x33) x45 (nI z46) (nI x52) (nI x53) (nI x61) (nI x62) (nI x63) (nI x65) x66 f1 f2 f3 (bN 3 q4) (bN 7 q5) (bN 7 q6) (bN 4 q7) f8 (bN 2 q9) (bH q10) f11 (b2 m12_0 m12_1) (b2 m13_0 m13_1) (b2 m14_0 m14_1) (b2m m15_0 m15_1) f17 (bA 159 q31) f32 f34 f35 f36 f37 (bN 7 q38) f39 f40 f41 (b2 m42_0 m42_1) f43 f44 f47 f48 f49 f50 f51 (bN 13 q54) (bN 120 q55) (bN 120 q56) f57 (bN 120 q58) f59 f60 f64) (mo_t ck) (va_A ((mo_w ad ck x0 (nI x16) (nI x18) (nI x19) x20 (nI x21) (nI x22) x23 x24 x25 (nI x26) x27 (nI x28) (nI x29) (nI x30) (nI x33) x45 (nI x46) (nI x52) (nI x53) (nI x61) (nI x62) (nI x63) (nI x65) x66 f1 f2 f3 (bN 3 q4) (bN 7 q5) (bN 7 q6) (bN 4 q7) f8 (bN 2 q9) (bH q10) f11 (b2 m12_0 m12_1) (b2 m13_0 m13_1) (b2 m14_0 m14_1) (b2m m15_0 m15_1) f17 (bA 159 q31) f32 f34 f35 f36 f37 (bN 7 q38) f39 f40 f41 (b2 m42_0 m42_1) f43 f44 f47 f48 f49 f50 f51 (bN 13 q54) (bN 120 q55) (bN 120 q56) f57 (bN 120 q58) f59 f60 f64)) sz) t ∧ (z46 ≤ 5) ∧ ((z0, z46) = (sp_EM_bound x16 x29 m12_0 m12_1 f34 m42_0 p0 p1 p2 p3).2)) (va_A ((mo_w ad ck x0 (nI x16) (nI x18) (nI x19) x20 (nI x21) (nI x22) x23 x24 x25 (nI x26) x27 (nI x28) (nI x29) (nI x30) (nI x33) x45 (nI x46) (nI x52) (nI x53) (nI x61) (nI x62) (nI x63) (nI x65) x66 f1 f2 f3 (bN 3 q4) (bN 7 q5) (bN 7 q6) (bN 4 q7) f8 (bN 2 q9) (bH q10) f11 (b2 m12_0 m12_1) (b2 m13_0 m13_1) (b2 m14_0 m14_1) (b2m m15_0 m15_1) f17 (bA 159 q31) f32 f34 f35 f36 f37 (bN 7 q38) f39 f40 f41 (b2 m42_0 m42_1) f43 f44 f47 f48 f49 f50 f51 (bN 13 q54) (bN 120 q55) (bN 120 q56) f57 (bN 120 q58) f59 f60 f64)) sz)) 0 0 (va_A ((mo_w ad ck x0 (nI x16) (nI x18) (nI x19) x20 (nI x21) (nI x22) x23 x24 x25 (nI x26) x27 (nI x28) (nI x29) (nI x30) (nI x33) x45 (nI x46) (nI x52) (nI x53) (nI x61) (nI x62) (nI x63) (nI x65) x66 f1 f2 f3 (bN 3 q4) (bN 7 q5) (bN 7 q6) (bN 4 q7) f8 (bN 2 q9) (bH q10) f11 (b2 m12_0 m12_1) (b2 m13_0 m13_1) (b2 m14_0 m14_1) (b2m m15_0 m15_1) f17 (bA 159 q31) f32 f34 f35 f36 f37 (bN 7 q38) f39 f40 f41 (b2 m42_0 m42_1) f43 f44 f47 f48 f49 f50 f51 (bN 13 q54) (bN 120 q55) (bN 120 q56) f57 (bN 120 q58) f59 f60 f64)) sz) := by
  refine Met.ofW (cc := cX9_bound) (maxL := 6) (ret := (some .int)) (by decide) rfl ?_
  intro p e s m args below meth c s₁ B hml hv
  obtain ⟨rfl, rfl, hP, hK, hD0⟩ := hv
  have hx := B.exec
  have hb := B.bytes
  have hr := B.returns
  have hts := atoms_spec (ws := vs_EM_bound) B.pre
  have v_1 := hts (.fieldLink RX9 142 "ClockReachModel" "thrown" "I") (List.mem_cons_of_mem _ vm_5)
  have v_18 := hts (.constant RX9 327 (1048576)) (List.mem_cons_of_mem _ vm_46)
  have v_19 := hts (.constant RX9 398 (2147483647)) (List.mem_cons_of_mem _ vm_271)
  have v_20 := hts (.constant RX9 393 (-2147483648)) (List.mem_cons_of_mem _ vm_272)
  have hown : s.vm.findClass RX9 = some m.cls := findClass_of_methodNamed B.named
  have hlocks := B.notSynchronized
  have hiX9 : ∀ w ∈ wsX90, w ∈ vs_EM_bound := fun _ h => List.mem_cons_of_mem _ (vmi_L h)
  have hD := hD0.self (sz := s.heap.size)
  generalize hAe : va_A ((mo_w ad ck x0 (nI x16) (nI x18) (nI x19) x20 (nI x21) (nI x22) x23 x24 x25 (nI x26) x27 (nI x28) (nI x29) (nI x30) (nI x33) x45 (nI x46) (nI x52) (nI x53) (nI x61) (nI x62) (nI x63) (nI x65) x66 f1 f2 f3 (bN 3 q4) (bN 7 q5) (bN 7 q6) (bN 4 q7) f8 (bN 2 q9) (bH q10) f11 (b2 m12_0 m12_1) (b2 m13_0 m13_1) (b2 m14_0 m14_1) (b2m m15_0 m15_1) f17 (bA 159 q31) f32 f34 f35 f36 f37 (bN 7 q38) f39 f40 f41 (b2 m42_0 m42_1) f43 f44 f47 f48 f49 f50 f51 (bN 13 q54) (bN 120 q55) (bN 120 q56) f57 (bN 120 q58) f59 f60 f64)) s.heap.size = A at hD ⊢
  have hA : ∀ q : Nat, s.heap.size ≤ q → A q := fun q h => by rw [← hAe]; exact Or.inr h
  have hS : va_S A s.heap s.heap [] := va_S.rf
  have hl := lv_entry ([.ref (ad 0), .int p0, .int p1, .int p2, .int p3]) (n := 6) (Nat.le_of_ble_eq_true rfl)
  rw [lg_entry_eq]
  generalize (lg_sl ([.ref (ad 0), .int p0, .int p1, .int p2, .int p3]) ++ List.replicate (6 - (lg_sl ([.ref (ad 0), .int p0, .int p1, .int p2, .int p3])).length) Slot.unset).toArray = ls at hl ⊢
  have hl : lv_has ls 6 [(0, .ref (ad 0)), (1, .int p0), (2, .int p1), (3, .int p2), (4, .int p3)] := hl
  obtain ⟨RR, hRR⟩ : ∃ x, x = (sp_EM_bound x16 x29 m12_0 m12_1 f34 m42_0 p0 p1 p2 p3) := ⟨_, rfl⟩
  have hsp := hRR
  refine lv_aload_n hx hb dX9_bound_0 rfl (lv_at hl 0 rfl) ?_
  refine lv_iconst (v := 0) hx hb dX9_bound_1 (by decide) ?_
  refine va_put (D := (dC, dI)) (ci := 9) (v := .int 0) (ty := .int) (C := RX9) (T := TX9) (N := 67) hx hb hts hiX9 tyX9 tyX9_ok nmX9 hown hK hP hD hS 0 rfl rfl 0 (by decide) v_1 (fun _ h9 => h9) rfl (by decide +kernel) rfl rfl (Nat.le_of_ble_eq_true rfl) dX9_bound_2 (fun H locs hP hD hS => ?_)
  have hP : va_P (dC, dI) vwCl (mo_w ad ck 0 (nI x16) (nI x18) (nI x19) x20 (nI x21) (nI x22) x23 x24 x25 (nI x26) x27 (nI x28) (nI x29) (nI x30) (nI x33) x45 (nI x46) (nI x52) (nI x53) (nI x61) (nI x62) (nI x63) (nI x65) x66 f1 f2 f3 (bN 3 q4) (bN 7 q5) (bN 7 q6) (bN 4 q7) f8 (bN 2 q9) (bH q10) f11 (b2 m12_0 m12_1) (b2 m13_0 m13_1) (b2 m14_0 m14_1) (b2m m15_0 m15_1) f17 (bA 159 q31) f32 f34 f35 f36 f37 (bN 7 q38) f39 f40 f41 (b2 m42_0 m42_1) f43 f44 f47 f48 f49 f50 f51 (bN 13 q54) (bN 120 q55) (bN 120 q56) f57 (bN 120 q58) f59 f60 f64) H := hP
  have hD : va_D A (mo_w ad ck 0 (nI x16) (nI x18) (nI x19) x20 (nI x21) (nI x22) x23 x24 x25 (nI x26) x27 (nI x28) (nI x29) (nI x30) (nI x33) x45 (nI x46) (nI x52) (nI x53) (nI x61) (nI x62) (nI x63) (nI x65) x66 f1 f2 f3 (bN 3 q4) (bN 7 q5) (bN 7 q6) (bN 4 q7) f8 (bN 2 q9) (bH q10) f11 (b2 m12_0 m12_1) (b2 m13_0 m13_1) (b2 m14_0 m14_1) (b2m m15_0 m15_1) f17 (bA 159 q31) f32 f34 f35 f36 f37 (bN 7 q38) f39 f40 f41 (b2 m42_0 m42_1) f43 f44 f47 f48 f49 f50 f51 (bN 13 q54) (bN 120 q55) (bN 120 q56) f57 (bN 120 q58) f59 f60 f64) := hD
  refine lv_aload_n hx hb dX9_bound_5 rfl (lv_at hl 0 rfl) ?_
  refine lv_iload_n hx hb dX9_bound_6 rfl (lv_at hl 1 rfl) ?_
  have hFc := pu_free hD hS hA
  refine va_calli (va_runV (As := [.int p0]) (rest := []) ⟨hx, hb, hml, hown, hts⟩ (c_EM_isState l dC dI _ ad ck 0 x16 x18 x19 x20 x21 x22 x23 x24 x25 x26 x27 x28 x29 x30 x33 x45 x46 x52 x53 x61 x62 x63 x65 x66 f1 f2 f3 q4 q5 q6 q7 f8 q9 q10 f11 m12_0 m12_1 m13_0 m13_1 m14_0 m14_1 m15_0 m15_1 f17 q31 f32 f34 f35 f36 f37 q38 f39 f40 f41 m42_0 m42_1 f43 f44 f47 f48 f49 f50 f51 q54 q55 q56 f57 q58 f59 f60 f64 p0 hx16 hx18 hx19 hx21 hx22 hx26 hx28 hx29 hx30 hx33 hx46 hx52 hx53 hx61 hx62 hx63 hx65 hm12_0 hm12_1 hm13_0 hm13_1 hm14_0 hm14_1 hm15_0 hm15_1 hm42_0 hm42_1) (cwV 1 hts g_EM_bound_EM_isState rfl rfl rfl (by decide +kernel) ⟨Nat.le_of_ble_eq_true rfl, Nat.le_of_ble_eq_true rfl⟩) ⟨pu_bl, va_recv hK hP (ci := 9) (q0 := 0) rfl rfl, pu_in hP hK hD⟩ rfl rfl hl.1 rfl (lv_room (Nat.le_of_ble_eq_true rfl)) dX9_bound_7 ⟨Nat.le_of_ble_eq_true rfl, Nat.le_of_ble_eq_true rfl⟩) hS (fun q _ h => hFc q h) hFc (fun r_1 u t H1 locs ht hvm hw hB hz1 hk1 hS => ?_)
  obtain ⟨z46_2, ⟨hP1, -, hD1⟩, hz46_2, xr_1_0⟩ := hB
  rw [ht] at hP1
  have hP := hP1
  have hD := pu_all hFc hD1
  clear hP1 hD1 hFc
  clear hk1 hz1 ht hvm
  generalize H1 = H at hP hS ⊢
  replace hsp := hsp.trans (slet_eq xr_1_0)
  rcases hw with ⟨rfl, hw⟩ | ⟨rfl, hn⟩
  · obtain ⟨hs1, n_3, hn_3, rfl⟩ := hw
    replace hsp := hsp.trans (if_pos ⟨hs1, in_q hn_3 (by omega)⟩)
    replace hsp := hsp.trans (slet_eq (nI_cl (n := n_3) (by omega)))
    refine lv_if_eq (tgt := 51) hx hb dX9_bound_10 (by decide) (fun z => absurd z (by decide)) (fun _ => ?_)
    refine lv_iload_n hx hb dX9_bound_13 rfl (lv_at hl 2 rfl) ?_
    refine lv_iconst (v := (-1)) hx hb dX9_bound_14 (by decide) ?_
    refine lv_aload_n hx hb dX9_bound_15 rfl (lv_at hl 0 rfl) ?_
    refine va_calli (va_runV (As := []) (rest := [.int (-1), .int p1]) ⟨hx, hb, hml, hown, hts⟩ (c_EM_clocks l dC dI _ ad ck 0 x16 x18 x19 x20 x21 x22 x23 x24 x25 x26 x27 x28 x29 x30 x33 x45 z46_2 x52 x53 x61 x62 x63 x65 x66 f1 f2 f3 q4 q5 q6 q7 f8 q9 q10 f11 m12_0 m12_1 m13_0 m13_1 m14_0 m14_1 m15_0 m15_1 f17 q31 f32 f34 f35 f36 f37 q38 f39 f40 f41 m42_0 m42_1 f43 f44 f47 f48 f49 f50 f51 q54 q55 q56 f57 q58 f59 f60 f64 hx16 hx18 hx19 hx21 hx22 hx26 hx28 hx29 hx30 hx33 (Nat.le_trans hz46_2 (Nat.le_of_ble_eq_true rfl)) hx52 hx53 hx61 hx62 hx63 hx65 hm12_0 hm12_1 hm13_0 hm13_1 hm14_0 hm14_1 hm15_0 hm15_1 hm42_0 hm42_1) (cwV 0 hts g_EM_bound_EM_clocks rfl rfl rfl (by decide +kernel) ⟨Nat.le_of_ble_eq_true rfl, Nat.le_of_ble_eq_true rfl⟩) ⟨pu_bl, va_recv hK hP (ci := 9) (q0 := 0) rfl rfl, pu_in hP hK hD⟩ rfl rfl hl.1 rfl (lv_room (Nat.le_of_ble_eq_true rfl)) dX9_bound_16 ⟨Nat.le_of_ble_eq_true rfl, Nat.le_of_ble_eq_true rfl⟩) hS (fun q _ h => pu_fr hS hA q h) (pu_fr hS hA) (fun r_4 u t H1 locs ht hvm hw hB hz1 hk1 hS => ?_)
    have hP := pu_keep hP hk1
    clear hk1 hz1 ht hvm
    generalize H1 = H at hP hS ⊢
    obtain ⟨u_5, hu_5, rfl, iu_5⟩ := hw
    replace hsp := hsp.trans (slet_eq iu_5)
    refine lv_iconst (v := 1) hx hb dX9_bound_19 (by decide) ?_
    refine lv_isub hx hb dX9_bound_20 ?_
    refine va_calli (va_runS (As := [.int p1, .int (-1), .int ((nI u_5) - 1)]) (rest := []) ⟨hx, hb, hml, hown, hts⟩ (c_X9_in l dC dI _ p1 (-1) ((nI u_5) - 1)) (va_cwS 3 hts g_EM_bound_X9_in rfl rfl rfl (by decide +kernel) ⟨Nat.le_of_ble_eq_true rfl, Nat.le_of_ble_eq_true rfl⟩) ⟨pu_bl, pu_in (hP.sub [] rfl) (hK.sub [] rfl) (hD.sub [] (by decide) rfl)⟩ rfl rfl hl.1 rfl (lv_room (Nat.le_of_ble_eq_true rfl)) dX9_bound_21 ⟨Nat.le_of_ble_eq_true rfl, Nat.le_of_ble_eq_true rfl⟩) hS (fun q _ h => pu_fr hS hA q h) (pu_fr hS hA) (fun r_6 u t H1 locs ht hvm hw hB hz1 hk1 hS => ?_)
    have hP := pu_keep hP hk1
    clear hk1 hz1 ht hvm
    generalize H1 = H at hP hS ⊢
    rcases hw with ⟨rfl, hi1, hi2⟩ | ⟨rfl, hi3⟩
    · replace hsp := hsp.trans (if_pos ⟨hi1, hi2⟩)
      rcases pu_inm (n := u_5) (by omega) hi1 hi2 with rfl | ⟨n_7, hn_7, rfl⟩
      · replace hsp := hsp.trans (if_pos rfl)
        refine lv_if_eq (tgt := 51) hx hb dX9_bound_24 (by decide) (fun z => absurd z (by decide)) (fun _ => ?_)
        refine lv_iload_n hx hb dX9_bound_27 rfl (lv_at hl 3 rfl) ?_
        refine lv_iconst (v := (-1)) hx hb dX9_bound_28 (by decide) ?_
        refine lv_aload_n hx hb dX9_bound_29 rfl (lv_at hl 0 rfl) ?_
        refine va_calli (va_runV (As := []) (rest := [.int (-1), .int p2]) ⟨hx, hb, hml, hown, hts⟩ (c_EM_clocks l dC dI _ ad ck 0 x16 x18 x19 x20 x21 x22 x23 x24 x25 x26 x27 x28 x29 x30 x33 x45 z46_2 x52 x53 x61 x62 x63 x65 x66 f1 f2 f3 q4 q5 q6 q7 f8 q9 q10 f11 m12_0 m12_1 m13_0 m13_1 m14_0 m14_1 m15_0 m15_1 f17 q31 f32 f34 f35 f36 f37 q38 f39 f40 f41 m42_0 m42_1 f43 f44 f47 f48 f49 f50 f51 q54 q55 q56 f57 q58 f59 f60 f64 hx16 hx18 hx19 hx21 hx22 hx26 hx28 hx29 hx30 hx33 (Nat.le_trans hz46_2 (Nat.le_of_ble_eq_true rfl)) hx52 hx53 hx61 hx62 hx63 hx65 hm12_0 hm12_1 hm13_0 hm13_1 hm14_0 hm14_1 hm15_0 hm15_1 hm42_0 hm42_1) (cwV 0 hts g_EM_bound_EM_clocks rfl rfl rfl (by decide +kernel) ⟨Nat.le_of_ble_eq_true rfl, Nat.le_of_ble_eq_true rfl⟩) ⟨pu_bl, va_recv hK hP (ci := 9) (q0 := 0) rfl rfl, pu_in hP hK hD⟩ rfl rfl hl.1 rfl (lv_room (Nat.le_of_ble_eq_true rfl)) dX9_bound_30 ⟨Nat.le_of_ble_eq_true rfl, Nat.le_of_ble_eq_true rfl⟩) hS (fun q _ h => pu_fr hS hA q h) (pu_fr hS hA) (fun r_8 u t H1 locs ht hvm hw hB hz1 hk1 hS => ?_)
        have hP := pu_keep hP hk1
        clear hk1 hz1 ht hvm
        generalize H1 = H at hP hS ⊢
        obtain ⟨u_9, hu_9, rfl, iu_9⟩ := hw
        replace hsp := hsp.trans (slet_eq iu_9)
        refine lv_iconst (v := 1) hx hb dX9_bound_33 (by decide) ?_
        refine lv_isub hx hb dX9_bound_34 ?_
        refine va_calli (va_runS (As := [.int p2, .int (-1), .int ((nI u_9) - 1)]) (rest := []) ⟨hx, hb, hml, hown, hts⟩ (c_X9_in l dC dI _ p2 (-1) ((nI u_9) - 1)) (va_cwS 3 hts g_EM_bound_X9_in rfl rfl rfl (by decide +kernel) ⟨Nat.le_of_ble_eq_true rfl, Nat.le_of_ble_eq_true rfl⟩) ⟨pu_bl, pu_in (hP.sub [] rfl) (hK.sub [] rfl) (hD.sub [] (by decide) rfl)⟩ rfl rfl hl.1 rfl (lv_room (Nat.le_of_ble_eq_true rfl)) dX9_bound_35 ⟨Nat.le_of_ble_eq_true rfl, Nat.le_of_ble_eq_true rfl⟩) hS (fun q _ h => pu_fr hS hA q h) (pu_fr hS hA) (fun r_10 u t H1 locs ht hvm hw hB hz1 hk1 hS => ?_)
        have hP := pu_keep hP hk1
        clear hk1 hz1 ht hvm
        generalize H1 = H at hP hS ⊢
        rcases hw with ⟨rfl, hi1, hi2⟩ | ⟨rfl, hi3⟩
        · replace hsp := hsp.trans (if_pos ⟨hi1, hi2⟩)
          rcases pu_inm (n := u_9) (by omega) hi1 hi2 with rfl | ⟨n_11, hn_11, rfl⟩
          · replace hsp := hsp.trans (if_pos rfl)
            refine lv_if_eq (tgt := 51) hx hb dX9_bound_38 (by decide) (fun z => absurd z (by decide)) (fun _ => ?_)
            refine lv_iload hx hb dX9_bound_41 (lv_at hl 4 rfl) ?_
            refine lv_iconst (v := 0) hx hb dX9_bound_43 (by decide) ?_
            refine lv_iconst (v := 1) hx hb dX9_bound_44 (by decide) ?_
            refine va_calli (va_runS (As := [.int p3, .int 0, .int 1]) (rest := []) ⟨hx, hb, hml, hown, hts⟩ (c_X9_in l dC dI _ p3 0 1) (va_cwS 3 hts g_EM_bound_X9_in rfl rfl rfl (by decide +kernel) ⟨Nat.le_of_ble_eq_true rfl, Nat.le_of_ble_eq_true rfl⟩) ⟨pu_bl, pu_in (hP.sub [] rfl) (hK.sub [] rfl) (hD.sub [] (by decide) rfl)⟩ rfl rfl hl.1 rfl (lv_room (Nat.le_of_ble_eq_true rfl)) dX9_bound_45 ⟨Nat.le_of_ble_eq_true rfl, Nat.le_of_ble_eq_true rfl⟩) hS (fun q _ h => pu_fr hS hA q h) (pu_fr hS hA) (fun r_12 u t H1 locs ht hvm hw hB hz1 hk1 hS => ?_)
            have hP := pu_keep hP hk1
            clear hk1 hz1 ht hvm
            generalize H1 = H at hP hS ⊢
            rcases hw with ⟨rfl, hi1, hi2⟩ | ⟨rfl, hi3⟩
            · replace hsp := hsp.trans (if_pos ⟨hi1, hi2⟩)
              obtain ⟨n_13, hn_13, rfl⟩ := pu_in0 (n := 1) (by omega) hi1 hi2
              replace hsp := hsp.trans (slet_eq (nI_cl (n := n_13) (by omega)))
              refine lv_if_ne (tgt := 55) hx hb dX9_bound_48 (by decide) (fun _ => ?_) (fun z => absurd z (by decide))
              refine lv_aload_n hx hb dX9_bound_55 rfl (lv_at hl 0 rfl) ?_
              refine lv_iload_n hx hb dX9_bound_56 rfl (lv_at hl 1 rfl) ?_
              refine lv_iload_n hx hb dX9_bound_57 rfl (lv_at hl 2 rfl) ?_
              refine lv_iload_n hx hb dX9_bound_58 rfl (lv_at hl 3 rfl) ?_
              refine va_calli (va_runV (As := [.int (nI n_3), .int (-1), .int (-1)]) (rest := []) ⟨hx, hb, hml, hown, hts⟩ (c_EM_boundOf_00 l dC dI _ ad ck 0 x16 x18 x19 x20 x21 x22 x23 x24 x25 x26 x27 x28 x29 x30 x33 x45 z46_2 x52 x53 x61 x62 x63 x65 x66 f1 f2 f3 q4 q5 q6 q7 f8 q9 q10 f11 m12_0 m12_1 m13_0 m13_1 m14_0 m14_1 m15_0 m15_1 f17 q31 f32 f34 f35 f36 f37 q38 f39 f40 f41 m42_0 m42_1 f43 f44 f47 f48 f49 f50 f51 q54 q55 q56 f57 q58 f59 f60 f64 n_3 hx16 hx18 hx19 hx21 hx22 hx26 hx28 hx29 hx30 hx33 (Nat.le_trans hz46_2 (Nat.le_of_ble_eq_true rfl)) hx52 hx53 hx61 hx62 hx63 hx65 hm12_0 hm12_1 hm13_0 hm13_1 hm14_0 hm14_1 hm15_0 hm15_1 hm42_0 hm42_1 (by omega)) (cwV 3 hts g_EM_bound_EM_boundOf_00 rfl rfl rfl (by decide +kernel) ⟨Nat.le_of_ble_eq_true rfl, Nat.le_of_ble_eq_true rfl⟩) ⟨pu_bl, va_recv hK hP (ci := 9) (q0 := 0) rfl rfl, pu_in hP hK hD⟩ rfl rfl hl.1 rfl (lv_room (Nat.le_of_ble_eq_true rfl)) dX9_bound_59 ⟨Nat.le_of_ble_eq_true rfl, Nat.le_of_ble_eq_true rfl⟩) hS (fun q _ h => pu_fr hS hA q h) (pu_fr hS hA) (fun r_14 u t H1 locs ht hvm hw hB hz1 hk1 hS => ?_)
              have hP := pu_keep hP hk1
              clear hk1 hz1 ht hvm
              generalize H1 = H at hP hS ⊢
              have ir_14 := hw
              replace hsp := hsp.trans (slet_eq ir_14)
              refine lv_istore (lv' := [(5, .int r_14), (0, .ref (ad 0)), (1, .int (nI n_3)), (2, .int (-1)), (3, .int (-1)), (4, .int (nI n_13))]) hx hb dX9_bound_62 hl (by decide) rfl (fun ls hl => ?_)
              refine lv_iload hx hb dX9_bound_64 (lv_at hl 0 rfl) ?_
              refine lv_ldcw hx hb hown v_18 dX9_bound_66 ?_
              refine lv_icmp_lt (tgt := 78) hx hb dX9_bound_69 (by decide) (fun c_15 => ?_) (fun c_15 => ?_)
              · have hcc_15 := c_15
                replace hsp := hsp.trans (if_pos c_15)
                refine lv_iload hx hb dX9_bound_78 (lv_at hl 5 rfl) ?_
                refine lv_if_ne (tgt := 90) hx hb dX9_bound_80 (by decide) (fun c_16 => ?_) (fun c_16 => ?_)
                · have c_16 : ¬ n_13 = 0 := fun z => c_16 ((nI_eq (a := n_13) (b := 0) (by omega) (Nat.le_of_ble_eq_true rfl)).mpr z)
                  replace hsp := hsp.trans (if_neg c_16)
                  refine lv_iload hx hb dX9_bound_90 (lv_at hl 0 rfl) ?_
                  refine lv_iconst (v := 1) hx hb dX9_bound_92 (by decide) ?_
                  refine lv_iand hx hb dX9_bound_93 ?_
                  refine lv_topi (fun y_17 ey_17 => ?_)
                  replace hsp := hsp.trans (slet_eq ey_17)
                  exact W.iret (v := y_17) hx hb hr (fun t ht hW => ⟨⟨y_17, (), rfl, (congrArg Prod.fst (hsp.symm.trans hRR)), ⟨0, z46_2, ⟨by rw [ht]; exact hP, va_K.moved hW.alike hK, hD⟩, (Nat.le_trans hz46_2 (Nat.le_of_ble_eq_true rfl)), (congrArg Prod.snd (hsp.symm.trans hRR))⟩⟩, hS.F ht⟩) hS.2.2 dX9_bound_94
                · have c_16 : n_13 = 0 := (nI_eq (a := n_13) (b := 0) (by omega) (Nat.le_of_ble_eq_true rfl)).mp c_16
                  replace hsp := hsp.trans (if_pos c_16)
                  refine lv_iload hx hb dX9_bound_83 (lv_at hl 0 rfl) ?_
                  refine lv_iconst (v := 1) hx hb dX9_bound_85 (by decide) ?_
                  refine lv_ishr hx hb dX9_bound_86 ?_
                  refine lv_topi (fun y_18 ey_18 => ?_)
                  replace hsp := hsp.trans (slet_eq ey_18)
                  refine lv_goto (tgt := 94) hx hb dX9_bound_87 (by decide) ?_
                  exact W.iret (v := y_18) hx hb hr (fun t ht hW => ⟨⟨y_18, (), rfl, (congrArg Prod.fst (hsp.symm.trans hRR)), ⟨0, z46_2, ⟨by rw [ht]; exact hP, va_K.moved hW.alike hK, hD⟩, (Nat.le_trans hz46_2 (Nat.le_of_ble_eq_true rfl)), (congrArg Prod.snd (hsp.symm.trans hRR))⟩⟩, hS.F ht⟩) hS.2.2 dX9_bound_94
              · have hcc_15 := c_15
                replace hsp := hsp.trans (if_neg c_15)
                refine lv_ldcw hx hb hown v_19 dX9_bound_72 ?_
                refine lv_goto (tgt := 94) hx hb dX9_bound_75 (by decide) ?_
                exact W.iret (v := 2147483647) hx hb hr (fun t ht hW => ⟨⟨2147483647, (), rfl, (congrArg Prod.fst (hsp.symm.trans hRR)), ⟨0, z46_2, ⟨by rw [ht]; exact hP, va_K.moved hW.alike hK, hD⟩, (Nat.le_trans hz46_2 (Nat.le_of_ble_eq_true rfl)), (congrArg Prod.snd (hsp.symm.trans hRR))⟩⟩, hS.F ht⟩) hS.2.2 dX9_bound_94
            · replace hsp := hsp.trans (if_neg hi3)
              refine lv_if_ne (tgt := 55) hx hb dX9_bound_48 (by decide) (fun z => absurd z (by decide)) (fun _ => ?_)
              refine lv_ldcw hx hb hown v_20 dX9_bound_51 ?_
              exact W.iret (v := (-2147483648)) hx hb hr (fun t ht hW => ⟨⟨(-2147483648), (), rfl, (congrArg Prod.fst (hsp.symm.trans hRR)), ⟨0, z46_2, ⟨by rw [ht]; exact hP, va_K.moved hW.alike hK, hD⟩, (Nat.le_trans hz46_2 (Nat.le_of_ble_eq_true rfl)), (congrArg Prod.snd (hsp.symm.trans hRR))⟩⟩, hS.F ht⟩) hS.2.2 dX9_bound_54
          · replace hsp := hsp.trans (if_neg (pu_nneg (n := n_11) (k := -1) (by omega) (by decide)))
            replace hsp := hsp.trans (slet_eq (nI_cl (n := n_11) (by omega)))
            refine lv_if_eq (tgt := 51) hx hb dX9_bound_38 (by decide) (fun z => absurd z (by decide)) (fun _ => ?_)
            refine lv_iload hx hb dX9_bound_41 (lv_at hl 4 rfl) ?_
            refine lv_iconst (v := 0) hx hb dX9_bound_43 (by decide) ?_
            refine lv_iconst (v := 1) hx hb dX9_bound_44 (by decide) ?_
            refine va_calli (va_runS (As := [.int p3, .int 0, .int 1]) (rest := []) ⟨hx, hb, hml, hown, hts⟩ (c_X9_in l dC dI _ p3 0 1) (va_cwS 3 hts g_EM_bound_X9_in rfl rfl rfl (by decide +kernel) ⟨Nat.le_of_ble_eq_true rfl, Nat.le_of_ble_eq_true rfl⟩) ⟨pu_bl, pu_in (hP.sub [] rfl) (hK.sub [] rfl) (hD.sub [] (by decide) rfl)⟩ rfl rfl hl.1 rfl (lv_room (Nat.le_of_ble_eq_true rfl)) dX9_bound_45 ⟨Nat.le_of_ble_eq_true rfl, Nat.le_of_ble_eq_true rfl⟩) hS (fun q _ h => pu_fr hS hA q h) (pu_fr hS hA) (fun r_19 u t H1 locs ht hvm hw hB hz1 hk1 hS => ?_)
            have hP := pu_keep hP hk1
            clear hk1 hz1 ht hvm
            generalize H1 = H at hP hS ⊢
            rcases hw with ⟨rfl, hi1, hi2⟩ | ⟨rfl, hi3⟩
            · replace hsp := hsp.trans (if_pos ⟨hi1, hi2⟩)
              obtain ⟨n_20, hn_20, rfl⟩ := pu_in0 (n := 1) (by omega) hi1 hi2
              replace hsp := hsp.trans (slet_eq (nI_cl (n := n_20) (by omega)))
              refine lv_if_ne (tgt := 55) hx hb dX9_bound_48 (by decide) (fun _ => ?_) (fun z => absurd z (by decide))
              refine lv_aload_n hx hb dX9_bound_55 rfl (lv_at hl 0 rfl) ?_
              refine lv_iload_n hx hb dX9_bound_56 rfl (lv_at hl 1 rfl) ?_
              refine lv_iload_n hx hb dX9_bound_57 rfl (lv_at hl 2 rfl) ?_
              refine lv_iload_n hx hb dX9_bound_58 rfl (lv_at hl 3 rfl) ?_
              refine va_calli (va_runV (As := [.int (nI n_3), .int (-1), .int (nI n_11)]) (rest := []) ⟨hx, hb, hml, hown, hts⟩ (c_EM_boundOf_01 l dC dI _ ad ck 0 x16 x18 x19 x20 x21 x22 x23 x24 x25 x26 x27 x28 x29 x30 x33 x45 z46_2 x52 x53 x61 x62 x63 x65 x66 f1 f2 f3 q4 q5 q6 q7 f8 q9 q10 f11 m12_0 m12_1 m13_0 m13_1 m14_0 m14_1 m15_0 m15_1 f17 q31 f32 f34 f35 f36 f37 q38 f39 f40 f41 m42_0 m42_1 f43 f44 f47 f48 f49 f50 f51 q54 q55 q56 f57 q58 f59 f60 f64 n_3 n_11 hx16 hx18 hx19 hx21 hx22 hx26 hx28 hx29 hx30 hx33 (Nat.le_trans hz46_2 (Nat.le_of_ble_eq_true rfl)) hx52 hx53 hx61 hx62 hx63 hx65 hm12_0 hm12_1 hm13_0 hm13_1 hm14_0 hm14_1 hm15_0 hm15_1 hm42_0 hm42_1 (by omega) (by omega)) (cwV 3 hts g_EM_bound_EM_boundOf_01 rfl rfl rfl (by decide +kernel) ⟨Nat.le_of_ble_eq_true rfl, Nat.le_of_ble_eq_true rfl⟩) ⟨pu_bl, va_recv hK hP (ci := 9) (q0 := 0) rfl rfl, pu_in hP hK hD⟩ rfl rfl hl.1 rfl (lv_room (Nat.le_of_ble_eq_true rfl)) dX9_bound_59 ⟨Nat.le_of_ble_eq_true rfl, Nat.le_of_ble_eq_true rfl⟩) hS (fun q _ h => pu_fr hS hA q h) (pu_fr hS hA) (fun r_21 u t H1 locs ht hvm hw hB hz1 hk1 hS => ?_)
              have hP := pu_keep hP hk1
              clear hk1 hz1 ht hvm
              generalize H1 = H at hP hS ⊢
              have ir_21 := hw
              replace hsp := hsp.trans (slet_eq ir_21)
              refine lv_istore (lv' := [(5, .int r_21), (0, .ref (ad 0)), (1, .int (nI n_3)), (2, .int (-1)), (3, .int (nI n_11)), (4, .int (nI n_20))]) hx hb dX9_bound_62 hl (by decide) rfl (fun ls hl => ?_)
              refine lv_iload hx hb dX9_bound_64 (lv_at hl 0 rfl) ?_
              refine lv_ldcw hx hb hown v_18 dX9_bound_66 ?_
              refine lv_icmp_lt (tgt := 78) hx hb dX9_bound_69 (by decide) (fun c_22 => ?_) (fun c_22 => ?_)
              · have hcc_22 := c_22
                replace hsp := hsp.trans (if_pos c_22)
                refine lv_iload hx hb dX9_bound_78 (lv_at hl 5 rfl) ?_
                refine lv_if_ne (tgt := 90) hx hb dX9_bound_80 (by decide) (fun c_23 => ?_) (fun c_23 => ?_)
                · have c_23 : ¬ n_20 = 0 := fun z => c_23 ((nI_eq (a := n_20) (b := 0) (by omega) (Nat.le_of_ble_eq_true rfl)).mpr z)
                  replace hsp := hsp.trans (if_neg c_23)
                  refine lv_iload hx hb dX9_bound_90 (lv_at hl 0 rfl) ?_
                  refine lv_iconst (v := 1) hx hb dX9_bound_92 (by decide) ?_
                  refine lv_iand hx hb dX9_bound_93 ?_
                  refine lv_topi (fun y_24 ey_24 => ?_)
                  replace hsp := hsp.trans (slet_eq ey_24)
                  exact W.iret (v := y_24) hx hb hr (fun t ht hW => ⟨⟨y_24, (), rfl, (congrArg Prod.fst (hsp.symm.trans hRR)), ⟨0, z46_2, ⟨by rw [ht]; exact hP, va_K.moved hW.alike hK, hD⟩, (Nat.le_trans hz46_2 (Nat.le_of_ble_eq_true rfl)), (congrArg Prod.snd (hsp.symm.trans hRR))⟩⟩, hS.F ht⟩) hS.2.2 dX9_bound_94
                · have c_23 : n_20 = 0 := (nI_eq (a := n_20) (b := 0) (by omega) (Nat.le_of_ble_eq_true rfl)).mp c_23
                  replace hsp := hsp.trans (if_pos c_23)
                  refine lv_iload hx hb dX9_bound_83 (lv_at hl 0 rfl) ?_
                  refine lv_iconst (v := 1) hx hb dX9_bound_85 (by decide) ?_
                  refine lv_ishr hx hb dX9_bound_86 ?_
                  refine lv_topi (fun y_25 ey_25 => ?_)
                  replace hsp := hsp.trans (slet_eq ey_25)
                  refine lv_goto (tgt := 94) hx hb dX9_bound_87 (by decide) ?_
                  exact W.iret (v := y_25) hx hb hr (fun t ht hW => ⟨⟨y_25, (), rfl, (congrArg Prod.fst (hsp.symm.trans hRR)), ⟨0, z46_2, ⟨by rw [ht]; exact hP, va_K.moved hW.alike hK, hD⟩, (Nat.le_trans hz46_2 (Nat.le_of_ble_eq_true rfl)), (congrArg Prod.snd (hsp.symm.trans hRR))⟩⟩, hS.F ht⟩) hS.2.2 dX9_bound_94
              · have hcc_22 := c_22
                replace hsp := hsp.trans (if_neg c_22)
                refine lv_ldcw hx hb hown v_19 dX9_bound_72 ?_
                refine lv_goto (tgt := 94) hx hb dX9_bound_75 (by decide) ?_
                exact W.iret (v := 2147483647) hx hb hr (fun t ht hW => ⟨⟨2147483647, (), rfl, (congrArg Prod.fst (hsp.symm.trans hRR)), ⟨0, z46_2, ⟨by rw [ht]; exact hP, va_K.moved hW.alike hK, hD⟩, (Nat.le_trans hz46_2 (Nat.le_of_ble_eq_true rfl)), (congrArg Prod.snd (hsp.symm.trans hRR))⟩⟩, hS.F ht⟩) hS.2.2 dX9_bound_94
            · replace hsp := hsp.trans (if_neg hi3)
              refine lv_if_ne (tgt := 55) hx hb dX9_bound_48 (by decide) (fun z => absurd z (by decide)) (fun _ => ?_)
              refine lv_ldcw hx hb hown v_20 dX9_bound_51 ?_
              exact W.iret (v := (-2147483648)) hx hb hr (fun t ht hW => ⟨⟨(-2147483648), (), rfl, (congrArg Prod.fst (hsp.symm.trans hRR)), ⟨0, z46_2, ⟨by rw [ht]; exact hP, va_K.moved hW.alike hK, hD⟩, (Nat.le_trans hz46_2 (Nat.le_of_ble_eq_true rfl)), (congrArg Prod.snd (hsp.symm.trans hRR))⟩⟩, hS.F ht⟩) hS.2.2 dX9_bound_54
        · replace hsp := hsp.trans (if_neg hi3)
          refine lv_if_eq (tgt := 51) hx hb dX9_bound_38 (by decide) (fun _ => ?_) (fun z => absurd z (by decide))
          refine lv_ldcw hx hb hown v_20 dX9_bound_51 ?_
          exact W.iret (v := (-2147483648)) hx hb hr (fun t ht hW => ⟨⟨(-2147483648), (), rfl, (congrArg Prod.fst (hsp.symm.trans hRR)), ⟨0, z46_2, ⟨by rw [ht]; exact hP, va_K.moved hW.alike hK, hD⟩, (Nat.le_trans hz46_2 (Nat.le_of_ble_eq_true rfl)), (congrArg Prod.snd (hsp.symm.trans hRR))⟩⟩, hS.F ht⟩) hS.2.2 dX9_bound_54
      · replace hsp := hsp.trans (if_neg (pu_nneg (n := n_7) (k := -1) (by omega) (by decide)))
        replace hsp := hsp.trans (slet_eq (nI_cl (n := n_7) (by omega)))
        refine lv_if_eq (tgt := 51) hx hb dX9_bound_24 (by decide) (fun z => absurd z (by decide)) (fun _ => ?_)
        refine lv_iload_n hx hb dX9_bound_27 rfl (lv_at hl 3 rfl) ?_
        refine lv_iconst (v := (-1)) hx hb dX9_bound_28 (by decide) ?_
        refine lv_aload_n hx hb dX9_bound_29 rfl (lv_at hl 0 rfl) ?_
        refine va_calli (va_runV (As := []) (rest := [.int (-1), .int p2]) ⟨hx, hb, hml, hown, hts⟩ (c_EM_clocks l dC dI _ ad ck 0 x16 x18 x19 x20 x21 x22 x23 x24 x25 x26 x27 x28 x29 x30 x33 x45 z46_2 x52 x53 x61 x62 x63 x65 x66 f1 f2 f3 q4 q5 q6 q7 f8 q9 q10 f11 m12_0 m12_1 m13_0 m13_1 m14_0 m14_1 m15_0 m15_1 f17 q31 f32 f34 f35 f36 f37 q38 f39 f40 f41 m42_0 m42_1 f43 f44 f47 f48 f49 f50 f51 q54 q55 q56 f57 q58 f59 f60 f64 hx16 hx18 hx19 hx21 hx22 hx26 hx28 hx29 hx30 hx33 (Nat.le_trans hz46_2 (Nat.le_of_ble_eq_true rfl)) hx52 hx53 hx61 hx62 hx63 hx65 hm12_0 hm12_1 hm13_0 hm13_1 hm14_0 hm14_1 hm15_0 hm15_1 hm42_0 hm42_1) (cwV 0 hts g_EM_bound_EM_clocks rfl rfl rfl (by decide +kernel) ⟨Nat.le_of_ble_eq_true rfl, Nat.le_of_ble_eq_true rfl⟩) ⟨pu_bl, va_recv hK hP (ci := 9) (q0 := 0) rfl rfl, pu_in hP hK hD⟩ rfl rfl hl.1 rfl (lv_room (Nat.le_of_ble_eq_true rfl)) dX9_bound_30 ⟨Nat.le_of_ble_eq_true rfl, Nat.le_of_ble_eq_true rfl⟩) hS (fun q _ h => pu_fr hS hA q h) (pu_fr hS hA) (fun r_26 u t H1 locs ht hvm hw hB hz1 hk1 hS => ?_)
        have hP := pu_keep hP hk1
        clear hk1 hz1 ht hvm
        generalize H1 = H at hP hS ⊢
        obtain ⟨u_27, hu_27, rfl, iu_27⟩ := hw
        replace hsp := hsp.trans (slet_eq iu_27)
        refine lv_iconst (v := 1) hx hb dX9_bound_33 (by decide) ?_
        refine lv_isub hx hb dX9_bound_34 ?_
        refine va_calli (va_runS (As := [.int p2, .int (-1), .int ((nI u_27) - 1)]) (rest := []) ⟨hx, hb, hml, hown, hts⟩ (c_X9_in l dC dI _ p2 (-1) ((nI u_27) - 1)) (va_cwS 3 hts g_EM_bound_X9_in rfl rfl rfl (by decide +kernel) ⟨Nat.le_of_ble_eq_true rfl, Nat.le_of_ble_eq_true rfl⟩) ⟨pu_bl, pu_in (hP.sub [] rfl) (hK.sub [] rfl) (hD.sub [] (by decide) rfl)⟩ rfl rfl hl.1 rfl (lv_room (Nat.le_of_ble_eq_true rfl)) dX9_bound_35 ⟨Nat.le_of_ble_eq_true rfl, Nat.le_of_ble_eq_true rfl⟩) hS (fun q _ h => pu_fr hS hA q h) (pu_fr hS hA) (fun r_28 u t H1 locs ht hvm hw hB hz1 hk1 hS => ?_)
        have hP := pu_keep hP hk1
        clear hk1 hz1 ht hvm
        generalize H1 = H at hP hS ⊢
        rcases hw with ⟨rfl, hi1, hi2⟩ | ⟨rfl, hi3⟩
        · replace hsp := hsp.trans (if_pos ⟨hi1, hi2⟩)
          rcases pu_inm (n := u_27) (by omega) hi1 hi2 with rfl | ⟨n_29, hn_29, rfl⟩
          · replace hsp := hsp.trans (if_pos rfl)
            refine lv_if_eq (tgt := 51) hx hb dX9_bound_38 (by decide) (fun z => absurd z (by decide)) (fun _ => ?_)
            refine lv_iload hx hb dX9_bound_41 (lv_at hl 4 rfl) ?_
            refine lv_iconst (v := 0) hx hb dX9_bound_43 (by decide) ?_
            refine lv_iconst (v := 1) hx hb dX9_bound_44 (by decide) ?_
            refine va_calli (va_runS (As := [.int p3, .int 0, .int 1]) (rest := []) ⟨hx, hb, hml, hown, hts⟩ (c_X9_in l dC dI _ p3 0 1) (va_cwS 3 hts g_EM_bound_X9_in rfl rfl rfl (by decide +kernel) ⟨Nat.le_of_ble_eq_true rfl, Nat.le_of_ble_eq_true rfl⟩) ⟨pu_bl, pu_in (hP.sub [] rfl) (hK.sub [] rfl) (hD.sub [] (by decide) rfl)⟩ rfl rfl hl.1 rfl (lv_room (Nat.le_of_ble_eq_true rfl)) dX9_bound_45 ⟨Nat.le_of_ble_eq_true rfl, Nat.le_of_ble_eq_true rfl⟩) hS (fun q _ h => pu_fr hS hA q h) (pu_fr hS hA) (fun r_30 u t H1 locs ht hvm hw hB hz1 hk1 hS => ?_)
            have hP := pu_keep hP hk1
            clear hk1 hz1 ht hvm
            generalize H1 = H at hP hS ⊢
            rcases hw with ⟨rfl, hi1, hi2⟩ | ⟨rfl, hi3⟩
            · replace hsp := hsp.trans (if_pos ⟨hi1, hi2⟩)
              obtain ⟨n_31, hn_31, rfl⟩ := pu_in0 (n := 1) (by omega) hi1 hi2
              replace hsp := hsp.trans (slet_eq (nI_cl (n := n_31) (by omega)))
              refine lv_if_ne (tgt := 55) hx hb dX9_bound_48 (by decide) (fun _ => ?_) (fun z => absurd z (by decide))
              refine lv_aload_n hx hb dX9_bound_55 rfl (lv_at hl 0 rfl) ?_
              refine lv_iload_n hx hb dX9_bound_56 rfl (lv_at hl 1 rfl) ?_
              refine lv_iload_n hx hb dX9_bound_57 rfl (lv_at hl 2 rfl) ?_
              refine lv_iload_n hx hb dX9_bound_58 rfl (lv_at hl 3 rfl) ?_
              refine va_calli (va_runV (As := [.int (nI n_3), .int (nI n_7), .int (-1)]) (rest := []) ⟨hx, hb, hml, hown, hts⟩ (c_EM_boundOf_10 l dC dI _ ad ck 0 x16 x18 x19 x20 x21 x22 x23 x24 x25 x26 x27 x28 x29 x30 x33 x45 z46_2 x52 x53 x61 x62 x63 x65 x66 f1 f2 f3 q4 q5 q6 q7 f8 q9 q10 f11 m12_0 m12_1 m13_0 m13_1 m14_0 m14_1 m15_0 m15_1 f17 q31 f32 f34 f35 f36 f37 q38 f39 f40 f41 m42_0 m42_1 f43 f44 f47 f48 f49 f50 f51 q54 q55 q56 f57 q58 f59 f60 f64 n_3 n_7 hx16 hx18 hx19 hx21 hx22 hx26 hx28 hx29 hx30 hx33 (Nat.le_trans hz46_2 (Nat.le_of_ble_eq_true rfl)) hx52 hx53 hx61 hx62 hx63 hx65 hm12_0 hm12_1 hm13_0 hm13_1 hm14_0 hm14_1 hm15_0 hm15_1 hm42_0 hm42_1 (by omega) (by omega)) (cwV 3 hts g_EM_bound_EM_boundOf_10 rfl rfl rfl (by decide +kernel) ⟨Nat.le_of_ble_eq_true rfl, Nat.le_of_ble_eq_true rfl⟩) ⟨pu_bl, va_recv hK hP (ci := 9) (q0 := 0) rfl rfl, pu_in hP hK hD⟩ rfl rfl hl.1 rfl (lv_room (Nat.le_of_ble_eq_true rfl)) dX9_bound_59 ⟨Nat.le_of_ble_eq_true rfl, Nat.le_of_ble_eq_true rfl⟩) hS (fun q _ h => pu_fr hS hA q h) (pu_fr hS hA) (fun r_32 u t H1 locs ht hvm hw hB hz1 hk1 hS => ?_)
              have hP := pu_keep hP hk1
              clear hk1 hz1 ht hvm
              generalize H1 = H at hP hS ⊢
              have ir_32 := hw
              replace hsp := hsp.trans (slet_eq ir_32)
              refine lv_istore (lv' := [(5, .int r_32), (0, .ref (ad 0)), (1, .int (nI n_3)), (2, .int (nI n_7)), (3, .int (-1)), (4, .int (nI n_31))]) hx hb dX9_bound_62 hl (by decide) rfl (fun ls hl => ?_)
              refine lv_iload hx hb dX9_bound_64 (lv_at hl 0 rfl) ?_
              refine lv_ldcw hx hb hown v_18 dX9_bound_66 ?_
              refine lv_icmp_lt (tgt := 78) hx hb dX9_bound_69 (by decide) (fun c_33 => ?_) (fun c_33 => ?_)
              · have hcc_33 := c_33
                replace hsp := hsp.trans (if_pos c_33)
                refine lv_iload hx hb dX9_bound_78 (lv_at hl 5 rfl) ?_
                refine lv_if_ne (tgt := 90) hx hb dX9_bound_80 (by decide) (fun c_34 => ?_) (fun c_34 => ?_)
                · have c_34 : ¬ n_31 = 0 := fun z => c_34 ((nI_eq (a := n_31) (b := 0) (by omega) (Nat.le_of_ble_eq_true rfl)).mpr z)
                  replace hsp := hsp.trans (if_neg c_34)
                  refine lv_iload hx hb dX9_bound_90 (lv_at hl 0 rfl) ?_
                  refine lv_iconst (v := 1) hx hb dX9_bound_92 (by decide) ?_
                  refine lv_iand hx hb dX9_bound_93 ?_
                  refine lv_topi (fun y_35 ey_35 => ?_)
                  replace hsp := hsp.trans (slet_eq ey_35)
                  exact W.iret (v := y_35) hx hb hr (fun t ht hW => ⟨⟨y_35, (), rfl, (congrArg Prod.fst (hsp.symm.trans hRR)), ⟨0, z46_2, ⟨by rw [ht]; exact hP, va_K.moved hW.alike hK, hD⟩, (Nat.le_trans hz46_2 (Nat.le_of_ble_eq_true rfl)), (congrArg Prod.snd (hsp.symm.trans hRR))⟩⟩, hS.F ht⟩) hS.2.2 dX9_bound_94
                · have c_34 : n_31 = 0 := (nI_eq (a := n_31) (b := 0) (by omega) (Nat.le_of_ble_eq_true rfl)).mp c_34
                  replace hsp := hsp.trans (if_pos c_34)
                  refine lv_iload hx hb dX9_bound_83 (lv_at hl 0 rfl) ?_
                  refine lv_iconst (v := 1) hx hb dX9_bound_85 (by decide) ?_
                  refine lv_ishr hx hb dX9_bound_86 ?_
                  refine lv_topi (fun y_36 ey_36 => ?_)
                  replace hsp := hsp.trans (slet_eq ey_36)
                  refine lv_goto (tgt := 94) hx hb dX9_bound_87 (by decide) ?_
                  exact W.iret (v := y_36) hx hb hr (fun t ht hW => ⟨⟨y_36, (), rfl, (congrArg Prod.fst (hsp.symm.trans hRR)), ⟨0, z46_2, ⟨by rw [ht]; exact hP, va_K.moved hW.alike hK, hD⟩, (Nat.le_trans hz46_2 (Nat.le_of_ble_eq_true rfl)), (congrArg Prod.snd (hsp.symm.trans hRR))⟩⟩, hS.F ht⟩) hS.2.2 dX9_bound_94
              · have hcc_33 := c_33
                replace hsp := hsp.trans (if_neg c_33)
                refine lv_ldcw hx hb hown v_19 dX9_bound_72 ?_
                refine lv_goto (tgt := 94) hx hb dX9_bound_75 (by decide) ?_
                exact W.iret (v := 2147483647) hx hb hr (fun t ht hW => ⟨⟨2147483647, (), rfl, (congrArg Prod.fst (hsp.symm.trans hRR)), ⟨0, z46_2, ⟨by rw [ht]; exact hP, va_K.moved hW.alike hK, hD⟩, (Nat.le_trans hz46_2 (Nat.le_of_ble_eq_true rfl)), (congrArg Prod.snd (hsp.symm.trans hRR))⟩⟩, hS.F ht⟩) hS.2.2 dX9_bound_94
            · replace hsp := hsp.trans (if_neg hi3)
              refine lv_if_ne (tgt := 55) hx hb dX9_bound_48 (by decide) (fun z => absurd z (by decide)) (fun _ => ?_)
              refine lv_ldcw hx hb hown v_20 dX9_bound_51 ?_
              exact W.iret (v := (-2147483648)) hx hb hr (fun t ht hW => ⟨⟨(-2147483648), (), rfl, (congrArg Prod.fst (hsp.symm.trans hRR)), ⟨0, z46_2, ⟨by rw [ht]; exact hP, va_K.moved hW.alike hK, hD⟩, (Nat.le_trans hz46_2 (Nat.le_of_ble_eq_true rfl)), (congrArg Prod.snd (hsp.symm.trans hRR))⟩⟩, hS.F ht⟩) hS.2.2 dX9_bound_54
          · replace hsp := hsp.trans (if_neg (pu_nneg (n := n_29) (k := -1) (by omega) (by decide)))
            replace hsp := hsp.trans (slet_eq (nI_cl (n := n_29) (by omega)))
            refine lv_if_eq (tgt := 51) hx hb dX9_bound_38 (by decide) (fun z => absurd z (by decide)) (fun _ => ?_)
            refine lv_iload hx hb dX9_bound_41 (lv_at hl 4 rfl) ?_
            refine lv_iconst (v := 0) hx hb dX9_bound_43 (by decide) ?_
            refine lv_iconst (v := 1) hx hb dX9_bound_44 (by decide) ?_
            refine va_calli (va_runS (As := [.int p3, .int 0, .int 1]) (rest := []) ⟨hx, hb, hml, hown, hts⟩ (c_X9_in l dC dI _ p3 0 1) (va_cwS 3 hts g_EM_bound_X9_in rfl rfl rfl (by decide +kernel) ⟨Nat.le_of_ble_eq_true rfl, Nat.le_of_ble_eq_true rfl⟩) ⟨pu_bl, pu_in (hP.sub [] rfl) (hK.sub [] rfl) (hD.sub [] (by decide) rfl)⟩ rfl rfl hl.1 rfl (lv_room (Nat.le_of_ble_eq_true rfl)) dX9_bound_45 ⟨Nat.le_of_ble_eq_true rfl, Nat.le_of_ble_eq_true rfl⟩) hS (fun q _ h => pu_fr hS hA q h) (pu_fr hS hA) (fun r_37 u t H1 locs ht hvm hw hB hz1 hk1 hS => ?_)
            have hP := pu_keep hP hk1
            clear hk1 hz1 ht hvm
            generalize H1 = H at hP hS ⊢
            rcases hw with ⟨rfl, hi1, hi2⟩ | ⟨rfl, hi3⟩
            · replace hsp := hsp.trans (if_pos ⟨hi1, hi2⟩)
              obtain ⟨n_38, hn_38, rfl⟩ := pu_in0 (n := 1) (by omega) hi1 hi2
              replace hsp := hsp.trans (slet_eq (nI_cl (n := n_38) (by omega)))
              refine lv_if_ne (tgt := 55) hx hb dX9_bound_48 (by decide) (fun _ => ?_) (fun z => absurd z (by decide))
              refine lv_aload_n hx hb dX9_bound_55 rfl (lv_at hl 0 rfl) ?_
              refine lv_iload_n hx hb dX9_bound_56 rfl (lv_at hl 1 rfl) ?_
              refine lv_iload_n hx hb dX9_bound_57 rfl (lv_at hl 2 rfl) ?_
              refine lv_iload_n hx hb dX9_bound_58 rfl (lv_at hl 3 rfl) ?_
              refine va_calli (va_runV (As := [.int (nI n_3), .int (nI n_7), .int (nI n_29)]) (rest := []) ⟨hx, hb, hml, hown, hts⟩ (c_EM_boundOf_11 l dC dI _ ad ck 0 x16 x18 x19 x20 x21 x22 x23 x24 x25 x26 x27 x28 x29 x30 x33 x45 z46_2 x52 x53 x61 x62 x63 x65 x66 f1 f2 f3 q4 q5 q6 q7 f8 q9 q10 f11 m12_0 m12_1 m13_0 m13_1 m14_0 m14_1 m15_0 m15_1 f17 q31 f32 f34 f35 f36 f37 q38 f39 f40 f41 m42_0 m42_1 f43 f44 f47 f48 f49 f50 f51 q54 q55 q56 f57 q58 f59 f60 f64 n_3 n_7 n_29 hx16 hx18 hx19 hx21 hx22 hx26 hx28 hx29 hx30 hx33 (Nat.le_trans hz46_2 (Nat.le_of_ble_eq_true rfl)) hx52 hx53 hx61 hx62 hx63 hx65 hm12_0 hm12_1 hm13_0 hm13_1 hm14_0 hm14_1 hm15_0 hm15_1 hm42_0 hm42_1 (by omega) (by omega) (by omega)) (cwV 3 hts g_EM_bound_EM_boundOf_11 rfl rfl rfl (by decide +kernel) ⟨Nat.le_of_ble_eq_true rfl, Nat.le_of_ble_eq_true rfl⟩) ⟨pu_bl, va_recv hK hP (ci := 9) (q0 := 0) rfl rfl, pu_in hP hK hD⟩ rfl rfl hl.1 rfl (lv_room (Nat.le_of_ble_eq_true rfl)) dX9_bound_59 ⟨Nat.le_of_ble_eq_true rfl, Nat.le_of_ble_eq_true rfl⟩) hS (fun q _ h => pu_fr hS hA q h) (pu_fr hS hA) (fun r_39 u t H1 locs ht hvm hw hB hz1 hk1 hS => ?_)
              have hP := pu_keep hP hk1
              clear hk1 hz1 ht hvm
              generalize H1 = H at hP hS ⊢
              have ir_39 := hw
              replace hsp := hsp.trans (slet_eq ir_39)
              refine lv_istore (lv' := [(5, .int r_39), (0, .ref (ad 0)), (1, .int (nI n_3)), (2, .int (nI n_7)), (3, .int (nI n_29)), (4, .int (nI n_38))]) hx hb dX9_bound_62 hl (by decide) rfl (fun ls hl => ?_)
              refine lv_iload hx hb dX9_bound_64 (lv_at hl 0 rfl) ?_
              refine lv_ldcw hx hb hown v_18 dX9_bound_66 ?_
              refine lv_icmp_lt (tgt := 78) hx hb dX9_bound_69 (by decide) (fun c_40 => ?_) (fun c_40 => ?_)
              · have hcc_40 := c_40
                replace hsp := hsp.trans (if_pos c_40)
                refine lv_iload hx hb dX9_bound_78 (lv_at hl 5 rfl) ?_
                refine lv_if_ne (tgt := 90) hx hb dX9_bound_80 (by decide) (fun c_41 => ?_) (fun c_41 => ?_)
                · have c_41 : ¬ n_38 = 0 := fun z => c_41 ((nI_eq (a := n_38) (b := 0) (by omega) (Nat.le_of_ble_eq_true rfl)).mpr z)
                  replace hsp := hsp.trans (if_neg c_41)
                  refine lv_iload hx hb dX9_bound_90 (lv_at hl 0 rfl) ?_
                  refine lv_iconst (v := 1) hx hb dX9_bound_92 (by decide) ?_
                  refine lv_iand hx hb dX9_bound_93 ?_
                  refine lv_topi (fun y_42 ey_42 => ?_)
                  replace hsp := hsp.trans (slet_eq ey_42)
                  exact W.iret (v := y_42) hx hb hr (fun t ht hW => ⟨⟨y_42, (), rfl, (congrArg Prod.fst (hsp.symm.trans hRR)), ⟨0, z46_2, ⟨by rw [ht]; exact hP, va_K.moved hW.alike hK, hD⟩, (Nat.le_trans hz46_2 (Nat.le_of_ble_eq_true rfl)), (congrArg Prod.snd (hsp.symm.trans hRR))⟩⟩, hS.F ht⟩) hS.2.2 dX9_bound_94
                · have c_41 : n_38 = 0 := (nI_eq (a := n_38) (b := 0) (by omega) (Nat.le_of_ble_eq_true rfl)).mp c_41
                  replace hsp := hsp.trans (if_pos c_41)
                  refine lv_iload hx hb dX9_bound_83 (lv_at hl 0 rfl) ?_
                  refine lv_iconst (v := 1) hx hb dX9_bound_85 (by decide) ?_
                  refine lv_ishr hx hb dX9_bound_86 ?_
                  refine lv_topi (fun y_43 ey_43 => ?_)
                  replace hsp := hsp.trans (slet_eq ey_43)
                  refine lv_goto (tgt := 94) hx hb dX9_bound_87 (by decide) ?_
                  exact W.iret (v := y_43) hx hb hr (fun t ht hW => ⟨⟨y_43, (), rfl, (congrArg Prod.fst (hsp.symm.trans hRR)), ⟨0, z46_2, ⟨by rw [ht]; exact hP, va_K.moved hW.alike hK, hD⟩, (Nat.le_trans hz46_2 (Nat.le_of_ble_eq_true rfl)), (congrArg Prod.snd (hsp.symm.trans hRR))⟩⟩, hS.F ht⟩) hS.2.2 dX9_bound_94
              · have hcc_40 := c_40
                replace hsp := hsp.trans (if_neg c_40)
                refine lv_ldcw hx hb hown v_19 dX9_bound_72 ?_
                refine lv_goto (tgt := 94) hx hb dX9_bound_75 (by decide) ?_
                exact W.iret (v := 2147483647) hx hb hr (fun t ht hW => ⟨⟨2147483647, (), rfl, (congrArg Prod.fst (hsp.symm.trans hRR)), ⟨0, z46_2, ⟨by rw [ht]; exact hP, va_K.moved hW.alike hK, hD⟩, (Nat.le_trans hz46_2 (Nat.le_of_ble_eq_true rfl)), (congrArg Prod.snd (hsp.symm.trans hRR))⟩⟩, hS.F ht⟩) hS.2.2 dX9_bound_94
            · replace hsp := hsp.trans (if_neg hi3)
              refine lv_if_ne (tgt := 55) hx hb dX9_bound_48 (by decide) (fun z => absurd z (by decide)) (fun _ => ?_)
              refine lv_ldcw hx hb hown v_20 dX9_bound_51 ?_
              exact W.iret (v := (-2147483648)) hx hb hr (fun t ht hW => ⟨⟨(-2147483648), (), rfl, (congrArg Prod.fst (hsp.symm.trans hRR)), ⟨0, z46_2, ⟨by rw [ht]; exact hP, va_K.moved hW.alike hK, hD⟩, (Nat.le_trans hz46_2 (Nat.le_of_ble_eq_true rfl)), (congrArg Prod.snd (hsp.symm.trans hRR))⟩⟩, hS.F ht⟩) hS.2.2 dX9_bound_54
        · replace hsp := hsp.trans (if_neg hi3)
          refine lv_if_eq (tgt := 51) hx hb dX9_bound_38 (by decide) (fun _ => ?_) (fun z => absurd z (by decide))
          refine lv_ldcw hx hb hown v_20 dX9_bound_51 ?_
          exact W.iret (v := (-2147483648)) hx hb hr (fun t ht hW => ⟨⟨(-2147483648), (), rfl, (congrArg Prod.fst (hsp.symm.trans hRR)), ⟨0, z46_2, ⟨by rw [ht]; exact hP, va_K.moved hW.alike hK, hD⟩, (Nat.le_trans hz46_2 (Nat.le_of_ble_eq_true rfl)), (congrArg Prod.snd (hsp.symm.trans hRR))⟩⟩, hS.F ht⟩) hS.2.2 dX9_bound_54
    · replace hsp := hsp.trans (if_neg hi3)
      refine lv_if_eq (tgt := 51) hx hb dX9_bound_24 (by decide) (fun _ => ?_) (fun z => absurd z (by decide))
      refine lv_ldcw hx hb hown v_20 dX9_bound_51 ?_
      exact W.iret (v := (-2147483648)) hx hb hr (fun t ht hW => ⟨⟨(-2147483648), (), rfl, (congrArg Prod.fst (hsp.symm.trans hRR)), ⟨0, z46_2, ⟨by rw [ht]; exact hP, va_K.moved hW.alike hK, hD⟩, (Nat.le_trans hz46_2 (Nat.le_of_ble_eq_true rfl)), (congrArg Prod.snd (hsp.symm.trans hRR))⟩⟩, hS.F ht⟩) hS.2.2 dX9_bound_54
  · replace hsp := hsp.trans (if_neg hn)
    refine lv_if_eq (tgt := 51) hx hb dX9_bound_10 (by decide) (fun _ => ?_) (fun z => absurd z (by decide))
    refine lv_ldcw hx hb hown v_20 dX9_bound_51 ?_
    exact W.iret (v := (-2147483648)) hx hb hr (fun t ht hW => ⟨⟨(-2147483648), (), rfl, (congrArg Prod.fst (hsp.symm.trans hRR)), ⟨0, z46_2, ⟨by rw [ht]; exact hP, va_K.moved hW.alike hK, hD⟩, (Nat.le_trans hz46_2 (Nat.le_of_ble_eq_true rfl)), (congrArg Prod.snd (hsp.symm.trans hRR))⟩⟩, hS.F ht⟩) hS.2.2 dX9_bound_54
