theorem dX9_graph_0 : decode cX9_graph 0 = .ok (.aload_n 0, 1) := by decide +kernel
theorem dX9_graph_1 : decode cX9_graph 1 = .ok (.iconst 0, 1) := by decide +kernel
theorem dX9_graph_2 : decode cX9_graph 2 = .ok (.putfield 142, 3) := by decide +kernel
theorem dX9_graph_5 : decode cX9_graph 5 = .ok (.iload_n 1, 1) := by decide +kernel
theorem dX9_graph_6 : decode cX9_graph 6 = .ok (.iconst 0, 1) := by decide +kernel
theorem dX9_graph_7 : decode cX9_graph 7 = .ok (.iconst 2, 1) := by decide +kernel
theorem dX9_graph_8 : decode cX9_graph 8 = .ok (.invokestatic 152, 3) := by decide +kernel
theorem dX9_graph_11 : decode cX9_graph 11 = .ok (.ifCond .eq 15, 3) := by decide +kernel
theorem dX9_graph_14 : decode cX9_graph 14 = .ok (.aload_n 0, 1) := by decide +kernel
theorem dX9_graph_15 : decode cX9_graph 15 = .ok (.getfield 46, 3) := by decide +kernel
theorem dX9_graph_18 : decode cX9_graph 18 = .ok (.aload_n 0, 1) := by decide +kernel
theorem dX9_graph_19 : decode cX9_graph 19 = .ok (.getfield 258, 3) := by decide +kernel
theorem dX9_graph_22 : decode cX9_graph 22 = .ok (.iaload, 1) := by decide +kernel
theorem dX9_graph_23 : decode cX9_graph 23 = .ok (.ifCond .ne 5, 3) := by decide +kernel
theorem dX9_graph_26 : decode cX9_graph 26 = .ok (.iconst (-1), 1) := by decide +kernel
theorem dX9_graph_27 : decode cX9_graph 27 = .ok (.ireturn, 1) := by decide +kernel
theorem dX9_graph_28 : decode cX9_graph 28 = .ok (.aload_n 0, 1) := by decide +kernel
theorem dX9_graph_29 : decode cX9_graph 29 = .ok (.aload_n 0, 1) := by decide +kernel
theorem dX9_graph_30 : decode cX9_graph 30 = .ok (.invokevirtual 280, 3) := by decide +kernel
theorem dX9_graph_33 : decode cX9_graph 33 = .ok (.iconst 1, 1) := by decide +kernel
theorem dX9_graph_34 : decode cX9_graph 34 = .ok (.iadd, 1) := by decide +kernel
theorem dX9_graph_35 : decode cX9_graph 35 = .ok (.putfield 328, 3) := by decide +kernel
theorem dX9_graph_38 : decode cX9_graph 38 = .ok (.aload_n 0, 1) := by decide +kernel
theorem dX9_graph_39 : decode cX9_graph 39 = .ok (.iconst 0, 1) := by decide +kernel
theorem dX9_graph_40 : decode cX9_graph 40 = .ok (.iconst 0, 1) := by decide +kernel
theorem dX9_graph_41 : decode cX9_graph 41 = .ok (.iconst 0, 1) := by decide +kernel
theorem dX9_graph_42 : decode cX9_graph 42 = .ok (.invokevirtual 379, 3) := by decide +kernel
theorem dX9_graph_45 : decode cX9_graph 45 = .ok (.aload_n 0, 1) := by decide +kernel
theorem dX9_graph_46 : decode cX9_graph 46 = .ok (.iconst 0, 1) := by decide +kernel
theorem dX9_graph_47 : decode cX9_graph 47 = .ok (.aload_n 0, 1) := by decide +kernel
theorem dX9_graph_48 : decode cX9_graph 48 = .ok (.getfield 52, 3) := by decide +kernel
theorem dX9_graph_51 : decode cX9_graph 51 = .ok (.aload_n 0, 1) := by decide +kernel
theorem dX9_graph_52 : decode cX9_graph 52 = .ok (.getfield 258, 3) := by decide +kernel
theorem dX9_graph_55 : decode cX9_graph 55 = .ok (.iaload, 1) := by decide +kernel
theorem dX9_graph_56 : decode cX9_graph 56 = .ok (.iload_n 1, 1) := by decide +kernel
theorem dX9_graph_57 : decode cX9_graph 57 = .ok (.iload_n 2, 1) := by decide +kernel
theorem dX9_graph_58 : decode cX9_graph 58 = .ok (.bipush 120, 2) := by decide +kernel
theorem dX9_graph_60 : decode cX9_graph 60 = .ok (.iconst (-1), 1) := by decide +kernel
theorem dX9_graph_61 : decode cX9_graph 61 = .ok (.invokevirtual 383, 3) := by decide +kernel
theorem dX9_graph_64 : decode cX9_graph 64 = .ok (.aload_n 0, 1) := by decide +kernel
theorem dX9_graph_65 : decode cX9_graph 65 = .ok (.iconst 1, 1) := by decide +kernel
theorem dX9_graph_66 : decode cX9_graph 66 = .ok (.putfield 273, 3) := by decide +kernel
theorem dX9_graph_69 : decode cX9_graph 69 = .ok (.aload_n 0, 1) := by decide +kernel
theorem dX9_graph_70 : decode cX9_graph 70 = .ok (.iload_n 1, 1) := by decide +kernel
theorem dX9_graph_71 : decode cX9_graph 71 = .ok (.putfield 298, 3) := by decide +kernel
theorem dX9_graph_74 : decode cX9_graph 74 = .ok (.aload_n 0, 1) := by decide +kernel
theorem dX9_graph_75 : decode cX9_graph 75 = .ok (.getfield 92, 3) := by decide +kernel
theorem dX9_graph_78 : decode cX9_graph 78 = .ok (.iconst 0, 1) := by decide +kernel
theorem dX9_graph_79 : decode cX9_graph 79 = .ok (.iaload, 1) := by decide +kernel
theorem dX9_graph_80 : decode cX9_graph 80 = .ok (.ireturn, 1) := by decide +kernel
abbrev vs_M_graph : List Cond := .code yX9_graph cX9_graph 3 (some .int) :: VM
theorem g_M_graph_X9_in : GoodIn vs_M_graph (va_wsS RX9 152 yX9_in vs_X9_in) := gm_0 (fun w h => by
  rcases List.mem_cons.mp h with rfl | h
  · exact vm_153
  rcases List.mem_cons.mp h with rfl | h
  · exact vm_154
  rcases List.mem_cons.mp h with rfl | h
  · exact vm_12
  rcases List.mem_cons.mp h with rfl | h
  · exact vm_14
  exact absurd h (List.not_mem_nil))
theorem g_M_graph_M_clocks : GoodIn vs_M_graph (wsV RX9 280 RX9 yX9_clocks vs_M_clocks) := gm_V vm_150 vm_151 vm_152 vm_12 vm_20
theorem g_M_graph_M_layPoint : GoodIn vs_M_graph (wsV RX9 379 RX9 yX9_layPoint vs_M_layPoint) := gm_V vm_270 vm_271 vm_272 vm_12 vm_238
theorem g_M_graph_M_explores_0_120 : GoodIn vs_M_graph (wsV RX9 383 RX9 yX9_explores vs_M_explores_0_120) := gm_V vm_273 vm_274 vm_275 vm_12 vm_258
set_option maxHeartbeats 4000000 in
set_option maxRecDepth 100000 in
theorem c_M_graph (l : Launch) (dC : Nat → ClassId) (dI : Nat → Nat → Nat) (sz : Nat) (ad : Nat → Nat) (ck : Nat → ClassId) (x0 : Int32) (x16 : Nat) (x18 : Nat) (x19 : Nat) (x20 : Int32) (x21 : Nat) (x22 : Nat) (x23 : Int32) (x24 : Int32) (x25 : Int32) (x26 : Nat) (x27 : Int32) (x28 : Nat) (x29 : Nat) (x30 : Nat) (x33 : Nat) (x45 : Int32) (x46 : Nat) (x52 : Nat) (x53 : Nat) (x61 : Nat) (x62 : Nat) (x63 : Nat) (x65 : Nat) (x66 : Int32) (f1 : Nat → Int32) (f2 : Nat → Int32) (f3 : Nat → Int32) (q4 : Nat → Nat) (q5 : Nat → Nat) (q6 : Nat → Nat) (q7 : Nat → Nat) (f8 : Nat → Int32) (q9 : Nat → Nat) (q10 : Nat → Nat) (f11 : Nat → Int32) (m12_0 m12_1 : Nat) (m13_0 m13_1 : Nat) (m14_0 m14_1 : Nat) (m15_0 m15_1 : Nat) (f17 : Nat → Int32) (q31 : Nat → Nat) (f32 : Nat → Int32) (f34 : Nat → Int32) (f35 : Nat → Int32) (f36 : Nat → Int32) (f37 : Nat → Int32) (q38 : Nat → Nat) (f39 : Nat → Int32) (f40 : Nat → Int32) (f41 : Nat → Int32) (m42_0 m42_1 : Nat) (f43 : Nat → Int32) (f44 : Nat → Int32) (f47 : Nat → Int32) (f48 : Nat → Int32) (f49 : Nat → Int32) (f50 : Nat → Int32) (f51 : Nat → Int32) (q54 : Nat → Nat) (q55 : Nat → Nat) (q56 : Nat → Nat) (f57 : Nat → Int32) (q58 : Nat → Nat) (f59 : Nat → Int32) (f60 : Nat → Int32) (f64 : Nat → Int32) (p0 : Int32) (a1 : Nat) (hx16 : x16 ≤ 1) (hx18 : x18 ≤ 900) (hx19 : x19 ≤ 900) (hx21 : x21 ≤ 900) (hx22 : x22 ≤ 4) (hx26 : x26 ≤ 6) (hx28 : x28 ≤ 1) (hx29 : x29 ≤ 1) (hx30 : x30 ≤ 1) (hx33 : x33 ≤ 20) (hx46 : x46 ≤ 5) (hx52 : x52 ≤ 2400) (hx53 : x53 ≤ 119) (hx61 : x61 ≤ 119) (hx62 : x62 ≤ 2000) (hx63 : x63 ≤ 1) (hx65 : x65 ≤ 7) (hm12_0 : m12_0 ≤ 3) (hm12_1 : m12_1 ≤ 3) (hm13_0 : m13_0 ≤ 8) (hm13_1 : m13_1 ≤ 8) (hm14_0 : m14_0 ≤ 14) (hm14_1 : m14_1 ≤ 14) (hm15_0 : m15_0 ≤ 8) (hm15_1 : m15_1 ≤ 8) (hm42_0 : m42_0 ≤ 120) (hm42_1 : m42_1 ≤ 400) (ha1 : a1 ≤ 1) (hbg : (x16 = 0 ∧ (m13_0 = 0 ∨ 1 ≤ m15_0)) ∨ (x16 = 1 ∧ (m13_1 = 0 ∨ 1 ≤ m15_1))) (hgr : gz_ok m42_0 f39 f40 f41) : Met l yX9_graph vs_M_graph ({ frames := 7, cells := 0, slots := 0, locals := 171 }) (va_Pc [.ref (ad 0), .int p0, .int (nI a1)] (pu_B (dC, dI) (mo_w ad ck x0 (nI x16) (nI x18) (nI x19) x20 (nI x21) (nI x22) x23 x24 x25 (nI x26) x27 (nI x28) (nI x29) (nI x30) (nI x33) x45 (nI x46) (nI x52) (nI x53) (nI x61) (nI x62) (nI x63) (nI x65) x66 f1 f2 f3 (bN 3 q4) (bN 7 q5) (bN 7 q6) (bN 4 q7) f8 (bN 2 q9) (bH q10) f11 (b2 m12_0 m12_1) (b2 m13_0 m13_1) (b2 m14_0 m14_1) (b2m m15_0 m15_1) f17 (bA 159 q31) f32 f34 f35 f36 f37 (bN 7 q38) f39 f40 f41 (b2 m42_0 m42_1) f43 f44 f47 f48 f49 f50 f51 (bN 13 q54) (bN 120 q55) (bN 120 q56) f57 (bN 120 q58) f59 f60 f64) (mo_t ck) sz)) (va_Qi (fun (r : Int32) (_ : Unit) => True) (fun _ t => ∃ (z34 : Nat → Int32) (z35 : Nat → Int32) (z38 : Nat → Nat) (z39 : Nat → Int32) (z40 : Nat → Int32) (z41 : Nat → Int32) (z43 : Nat → Int32) (z44 : Nat → Int32) (z47 : Nat → Int32) (z48 : Nat → Int32) (z42_0 : Nat) (z0 : Int32) (z29 : Nat) (z45 : Int32) (z46 : Nat), pu_E (dC, dI) (mo_w ad ck z0 (nI x16) (nI x18) (nI x19) x20 (nI x21) (nI x22) x23 x24 x25 (nI x26) x27 (nI x28) (nI z29) (nI x30) (nI x33) z45 (nI z46) (nI x52) (nI x53) (nI x61) (nI x62) (nI x63) (nI x65) x66 f1 f2 f3 (bN 3 q4) (bN 7 q5) (bN 7 q6) (bN 4 q7) f8 (bN 2 q9) (bH q10) f11 (b2 m12_0 m12_1) (b2 m13_0 m13_1) (b2 m14_0 m14_1) (b2m m15_0 m15_1) f17 (bA 159 q31) f32 z34 z35 f36 f37 (bN 7 z38) z39 z40 z41 (b2 z42_0 m42_1) z43 z44 z47 z48 f49 f50 f51 (bN 13 q54) (bN 120 q55) (bN 120 q56) f57 (bN 120 q58) f59 f60 f64) (mo_t ck) (va_A ((mo_w ad ck x0 (nI x16) (nI x18) (nI x19) x20 (nI x21) (nI x22) x23 x24 x25 (nI x26) x27 (nI x28) (nI x29) (nI x30) (nI x33) x45 (nI x46) (nI x52) (nI x53) (nI x61) (nI x62) (nI x63) (nI x65) x66 f1 f2 f3 (bN 3 q4) (bN 7 q5) (bN 7 q6) (bN 4 q7) f8 (bN 2 q9) (bH q10) f11 (b2 m12_0 m12_1) (b2 m13_0 m13_1) (b2 m14_0 m14_1) (b2m m15_0 m15_1) f17 (bA 159 q31) f32 f34 f35 f36 f37 (bN 7 q38) f39 f40 f41 (b2 m42_0 m42_1) f43 f44 f47 f48 f49 f50 f51 (bN 13 q54) (bN 120 q55) (bN 120 q56) f57 (bN 120 q58) f59 f60 f64)) sz) t ∧ (z42_0 ≤ 120) ∧ (z29 ≤ 1) ∧ (z46 ≤ 5) ∧ (gz_ok z42_0 z39 z40 z41)) (va_A ((mo_w ad ck x0 (nI x16) (nI x18) (nI x19) x20 (nI x21) (nI x22) x23 x24 x25 (nI x26) x27 (nI x28) (nI x29) (nI x30) (nI x33) x45 (nI x46) (nI x52) (nI x53) (nI x61) (nI x62) (nI x63) (nI x65) x66 f1 f2 f3 (bN 3 q4) (bN 7 q5) (bN 7 q6) (bN 4 q7) f8 (bN 2 q9) (bH q10) f11 (b2 m12_0 m12_1) (b2 m13_0 m13_1) (b2 m14_0 m14_1) (b2m m15_0 m15_1) f17 (bA 159 q31) f32 f34 f35 f36 f37 (bN 7 q38) f39 f40 f41 (b2 m42_0 m42_1) f43 f44 f47 f48 f49 f50 f51 (bN 13 q54) (bN 120 q55) (bN 120 q56) f57 (bN 120 q58) f59 f60 f64)) sz)) 0 0 (va_A ((mo_w ad ck x0 (nI x16) (nI x18) (nI x19) x20 (nI x21) (nI x22) x23 x24 x25 (nI x26) x27 (nI x28) (nI x29) (nI x30) (nI x33) x45 (nI x46) (nI x52) (nI x53) (nI x61) (nI x62) (nI x63) (nI x65) x66 f1 f2 f3 (bN 3 q4) (bN 7 q5) (bN 7 q6) (bN 4 q7) f8 (bN 2 q9) (bH q10) f11 (b2 m12_0 m12_1) (b2 m13_0 m13_1) (b2 m14_0 m14_1) (b2m m15_0 m15_1) f17 (bA 159 q31) f32 f34 f35 f36 f37 (bN 7 q38) f39 f40 f41 (b2 m42_0 m42_1) f43 f44 f47 f48 f49 f50 f51 (bN 13 q54) (bN 120 q55) (bN 120 q56) f57 (bN 120 q58) f59 f60 f64)) sz) := by
  refine Met.ofW (cc := cX9_graph) (maxL := 3) (ret := (some .int)) (by decide) rfl ?_
  intro p e s m args below meth c s₁ B hml hv
  obtain ⟨rfl, rfl, hP, hK, hD0⟩ := hv
  have hx := B.exec
  have hb := B.bytes
  have hr := B.returns
  have hts := atoms_spec (ws := vs_M_graph) B.pre
  have v_1 := hts (.fieldLink RX9 142 "ClockReachModel" "thrown" "I") (List.mem_cons_of_mem _ vm_24)
  have v_6 := hts (.fieldLink RX9 46 "ClockReachModel" "placeMany" "[I") (List.mem_cons_of_mem _ vm_85)
  have v_7 := hts (.fieldLink RX9 258 "ClockReachModel" "bank" "I") (List.mem_cons_of_mem _ vm_22)
  have v_12 := hts (.fieldLink RX9 328 "ClockReachModel" "side" "I") (List.mem_cons_of_mem _ vm_209)
  have v_17 := hts (.fieldLink RX9 52 "ClockReachModel" "begins" "[I") (List.mem_cons_of_mem _ vm_133)
  have v_22 := hts (.fieldLink RX9 273 "ClockReachModel" "hasGraph" "Z") (List.mem_cons_of_mem _ vm_18)
  have v_23 := hts (.fieldLink RX9 298 "ClockReachModel" "graphWay" "I") (List.mem_cons_of_mem _ vm_179)
  have v_24 := hts (.fieldLink RX9 92 "ClockReachModel" "stateMany" "[I") (List.mem_cons_of_mem _ vm_177)
  have hown : s.vm.findClass RX9 = some m.cls := findClass_of_methodNamed B.named
  have hlocks := B.notSynchronized
  have hiX9 : ∀ w ∈ wsX90, w ∈ vs_M_graph := fun _ h => List.mem_cons_of_mem _ (List.mem_append_right _ h)
  have hD := hD0.self (sz := s.heap.size)
  generalize hAe : va_A ((mo_w ad ck x0 (nI x16) (nI x18) (nI x19) x20 (nI x21) (nI x22) x23 x24 x25 (nI x26) x27 (nI x28) (nI x29) (nI x30) (nI x33) x45 (nI x46) (nI x52) (nI x53) (nI x61) (nI x62) (nI x63) (nI x65) x66 f1 f2 f3 (bN 3 q4) (bN 7 q5) (bN 7 q6) (bN 4 q7) f8 (bN 2 q9) (bH q10) f11 (b2 m12_0 m12_1) (b2 m13_0 m13_1) (b2 m14_0 m14_1) (b2m m15_0 m15_1) f17 (bA 159 q31) f32 f34 f35 f36 f37 (bN 7 q38) f39 f40 f41 (b2 m42_0 m42_1) f43 f44 f47 f48 f49 f50 f51 (bN 13 q54) (bN 120 q55) (bN 120 q56) f57 (bN 120 q58) f59 f60 f64)) s.heap.size = A at hD ⊢
  have hA : ∀ q : Nat, s.heap.size ≤ q → A q := fun q h => by rw [← hAe]; exact Or.inr h
  have hS : va_S A s.heap s.heap [] := va_S.rf
  have hl := lv_entry ([.ref (ad 0), .int p0, .int (nI a1)]) (n := 3) (Nat.le_of_ble_eq_true rfl)
  rw [lg_entry_eq]
  generalize (lg_sl ([.ref (ad 0), .int p0, .int (nI a1)]) ++ List.replicate (3 - (lg_sl ([.ref (ad 0), .int p0, .int (nI a1)])).length) Slot.unset).toArray = ls at hl ⊢
  have hl : lv_has ls 3 [(0, .ref (ad 0)), (1, .int p0), (2, .int (nI a1))] := hl
  refine lv_aload_n hx hb dX9_graph_0 rfl (lv_at hl 0 rfl) ?_
  refine lv_iconst (v := 0) hx hb dX9_graph_1 (by decide) ?_
  refine va_put (D := (dC, dI)) (ci := 9) (v := .int 0) (ty := .int) (C := RX9) (T := TX9) (N := 67) hx hb hts hiX9 tyX9 tyX9_ok nmX9 hown hK hP hD hS 0 rfl rfl 0 (by decide) v_1 (fun _ h9 => h9) rfl (by decide +kernel) rfl rfl (Nat.le_of_ble_eq_true rfl) dX9_graph_2 (fun H locs hP hD hS => ?_)
  have hP : va_P (dC, dI) vwCl (mo_w ad ck 0 (nI x16) (nI x18) (nI x19) x20 (nI x21) (nI x22) x23 x24 x25 (nI x26) x27 (nI x28) (nI x29) (nI x30) (nI x33) x45 (nI x46) (nI x52) (nI x53) (nI x61) (nI x62) (nI x63) (nI x65) x66 f1 f2 f3 (bN 3 q4) (bN 7 q5) (bN 7 q6) (bN 4 q7) f8 (bN 2 q9) (bH q10) f11 (b2 m12_0 m12_1) (b2 m13_0 m13_1) (b2 m14_0 m14_1) (b2m m15_0 m15_1) f17 (bA 159 q31) f32 f34 f35 f36 f37 (bN 7 q38) f39 f40 f41 (b2 m42_0 m42_1) f43 f44 f47 f48 f49 f50 f51 (bN 13 q54) (bN 120 q55) (bN 120 q56) f57 (bN 120 q58) f59 f60 f64) H := hP
  have hD : va_D A (mo_w ad ck 0 (nI x16) (nI x18) (nI x19) x20 (nI x21) (nI x22) x23 x24 x25 (nI x26) x27 (nI x28) (nI x29) (nI x30) (nI x33) x45 (nI x46) (nI x52) (nI x53) (nI x61) (nI x62) (nI x63) (nI x65) x66 f1 f2 f3 (bN 3 q4) (bN 7 q5) (bN 7 q6) (bN 4 q7) f8 (bN 2 q9) (bH q10) f11 (b2 m12_0 m12_1) (b2 m13_0 m13_1) (b2 m14_0 m14_1) (b2m m15_0 m15_1) f17 (bA 159 q31) f32 f34 f35 f36 f37 (bN 7 q38) f39 f40 f41 (b2 m42_0 m42_1) f43 f44 f47 f48 f49 f50 f51 (bN 13 q54) (bN 120 q55) (bN 120 q56) f57 (bN 120 q58) f59 f60 f64) := hD
  refine lv_iload_n hx hb dX9_graph_5 rfl (lv_at hl 1 rfl) ?_
  refine lv_iconst (v := 0) hx hb dX9_graph_6 (by decide) ?_
  refine lv_iconst (v := 2) hx hb dX9_graph_7 (by decide) ?_
  refine va_calli (va_runS (As := [.int p0, .int 0, .int 2]) (rest := []) ⟨hx, hb, hml, hown, hts⟩ (c_X9_in l dC dI _ p0 0 2) (va_cwS 3 hts g_M_graph_X9_in rfl rfl rfl (by decide +kernel) ⟨Nat.le_of_ble_eq_true rfl, Nat.le_of_ble_eq_true rfl⟩) ⟨pu_bl, pu_in (hP.sub [] rfl) (hK.sub [] rfl) (hD.sub [] (by decide) rfl)⟩ rfl rfl hl.1 rfl (lv_room (Nat.le_of_ble_eq_true rfl)) dX9_graph_8 ⟨Nat.le_of_ble_eq_true rfl, Nat.le_of_ble_eq_true rfl⟩) hS (fun q _ h => pu_fr hS hA q h) (pu_fr hS hA) (fun r_1 u t H1 locs ht hvm hw hB hz1 hk1 hS => ?_)
  have hP := pu_keep hP hk1
  clear hk1 hz1 ht hvm
  generalize H1 = H at hP hS ⊢
  rcases hw with ⟨rfl, hi1, hi2⟩ | ⟨rfl, hi3⟩
  · obtain ⟨n_2, hn_2, rfl⟩ := pu_in0 (n := 2) (by omega) hi1 hi2
    refine lv_if_eq (tgt := 26) hx hb dX9_graph_11 (by decide) (fun z => absurd z (by decide)) (fun _ => ?_)
    refine lv_aload_n hx hb dX9_graph_14 rfl (lv_at hl 0 rfl) ?_
    refine va_get (D := (dC, dI)) (ci := 9) (v := .ref (ad 13)) (C := RX9) (T := TX9) (N := 67) hx hb hts hiX9 hown hK hP 0 rfl rfl 13 (by decide) v_6 (fun _ h9 => h9) rfl dX9_graph_15 ?_
    refine lv_aload_n hx hb dX9_graph_18 rfl (lv_at hl 0 rfl) ?_
    refine va_get (D := (dC, dI)) (ci := 9) (v := .int (nI x16)) (C := RX9) (T := TX9) (N := 67) hx hb hts hiX9 hown hK hP 0 rfl rfl 16 (by decide) v_7 (fun _ h9 => h9) rfl dX9_graph_19 ?_
    refine va_iald hx hb hK hP 13 12 rfl rfl (vp_in_nI (n := x16) (Nat.lt_of_le_of_lt hx16 (Nat.le_of_ble_eq_true rfl)) (Nat.le_of_ble_eq_true rfl)) dX9_graph_22 ?_
    refine lv_topi (fun y_3 ey_3 => ?_)
    obtain ⟨u_4, hu_4, fu_4⟩ := b2_get (a := m13_0) (b := m13_1) (i := x16) (by omega)
    have qy_3 := ey_3.trans fu_4
    obtain rfl : y_3 = nI u_4 := qy_3
    refine lv_if_ne (tgt := 28) hx hb dX9_graph_23 (by decide) (fun c_5 => ?_) (fun c_5 => ?_)
    · have c_5 : ¬ u_4 = 0 := fun z => c_5 ((nI_eq (a := u_4) (b := 0) (by omega) (Nat.le_of_ble_eq_true rfl)).mpr z)
      refine lv_aload_n hx hb dX9_graph_28 rfl (lv_at hl 0 rfl) ?_
      refine lv_aload_n hx hb dX9_graph_29 rfl (lv_at hl 0 rfl) ?_
      refine va_calli (va_runV (As := []) (rest := [.ref (ad 0)]) ⟨hx, hb, hml, hown, hts⟩ (c_M_clocks l dC dI _ ad ck 0 x16 x18 x19 x20 x21 x22 x23 x24 x25 x26 x27 x28 x29 x30 x33 x45 x46 x52 x53 x61 x62 x63 x65 x66 f1 f2 f3 q4 q5 q6 q7 f8 q9 q10 f11 m12_0 m12_1 m13_0 m13_1 m14_0 m14_1 m15_0 m15_1 f17 q31 f32 f34 f35 f36 f37 q38 f39 f40 f41 m42_0 m42_1 f43 f44 f47 f48 f49 f50 f51 q54 q55 q56 f57 q58 f59 f60 f64 hx16 hx18 hx19 hx21 hx22 hx26 hx28 hx29 hx30 hx33 hx46 hx52 hx53 hx61 hx62 hx63 hx65 hm12_0 hm12_1 hm13_0 hm13_1 hm14_0 hm14_1 hm15_0 hm15_1 hm42_0 hm42_1) (cwV 0 hts g_M_graph_M_clocks rfl rfl rfl (by decide +kernel) ⟨Nat.le_of_ble_eq_true rfl, Nat.le_of_ble_eq_true rfl⟩) ⟨pu_bl, va_recv hK hP (ci := 9) (q0 := 0) rfl rfl, pu_in hP hK hD⟩ rfl rfl hl.1 rfl (lv_room (Nat.le_of_ble_eq_true rfl)) dX9_graph_30 ⟨Nat.le_of_ble_eq_true rfl, Nat.le_of_ble_eq_true rfl⟩) hS (fun q _ h => pu_fr hS hA q h) (pu_fr hS hA) (fun r_6 u t H1 locs ht hvm hw hB hz1 hk1 hS => ?_)
      have hP := pu_keep hP hk1
      clear hk1 hz1 ht hvm
      generalize H1 = H at hP hS ⊢
      obtain ⟨u_7, hu_7, rfl⟩ := hw
      refine lv_iconst (v := 1) hx hb dX9_graph_33 (by decide) ?_
      refine lv_iadd hx hb dX9_graph_34 ?_
      refine lv_topi (fun y_8 ey_8 => ?_)
      obtain rfl : y_8 = (nI (u_7 + 1)) := ey_8.trans (nI_add u_7 1)
      refine va_put (D := (dC, dI)) (ci := 9) (v := .int (nI (u_7 + 1))) (ty := .int) (C := RX9) (T := TX9) (N := 67) hx hb hts hiX9 tyX9 tyX9_ok nmX9 hown hK hP hD hS 0 rfl rfl 46 (by decide) v_12 (fun _ h9 => h9) rfl (by decide +kernel) rfl rfl (Nat.le_of_ble_eq_true rfl) dX9_graph_35 (fun H locs hP hD hS => ?_)
      have hP : va_P (dC, dI) vwCl (mo_w ad ck 0 (nI x16) (nI x18) (nI x19) x20 (nI x21) (nI x22) x23 x24 x25 (nI x26) x27 (nI x28) (nI x29) (nI x30) (nI x33) x45 (nI (u_7 + 1)) (nI x52) (nI x53) (nI x61) (nI x62) (nI x63) (nI x65) x66 f1 f2 f3 (bN 3 q4) (bN 7 q5) (bN 7 q6) (bN 4 q7) f8 (bN 2 q9) (bH q10) f11 (b2 m12_0 m12_1) (b2 m13_0 m13_1) (b2 m14_0 m14_1) (b2m m15_0 m15_1) f17 (bA 159 q31) f32 f34 f35 f36 f37 (bN 7 q38) f39 f40 f41 (b2 m42_0 m42_1) f43 f44 f47 f48 f49 f50 f51 (bN 13 q54) (bN 120 q55) (bN 120 q56) f57 (bN 120 q58) f59 f60 f64) H := hP
      have hD : va_D A (mo_w ad ck 0 (nI x16) (nI x18) (nI x19) x20 (nI x21) (nI x22) x23 x24 x25 (nI x26) x27 (nI x28) (nI x29) (nI x30) (nI x33) x45 (nI (u_7 + 1)) (nI x52) (nI x53) (nI x61) (nI x62) (nI x63) (nI x65) x66 f1 f2 f3 (bN 3 q4) (bN 7 q5) (bN 7 q6) (bN 4 q7) f8 (bN 2 q9) (bH q10) f11 (b2 m12_0 m12_1) (b2 m13_0 m13_1) (b2 m14_0 m14_1) (b2m m15_0 m15_1) f17 (bA 159 q31) f32 f34 f35 f36 f37 (bN 7 q38) f39 f40 f41 (b2 m42_0 m42_1) f43 f44 f47 f48 f49 f50 f51 (bN 13 q54) (bN 120 q55) (bN 120 q56) f57 (bN 120 q58) f59 f60 f64) := hD
      refine lv_aload_n hx hb dX9_graph_38 rfl (lv_at hl 0 rfl) ?_
      refine lv_iconst (v := 0) hx hb dX9_graph_39 (by decide) ?_
      refine lv_iconst (v := 0) hx hb dX9_graph_40 (by decide) ?_
      refine lv_iconst (v := 0) hx hb dX9_graph_41 (by decide) ?_
      have hFc := pu_free hD hS hA
      refine va_callv (va_runV (As := [.int 0, .int 0, .int 0]) (rest := []) ⟨hx, hb, hml, hown, hts⟩ (c_M_layPoint l dC dI _ ad ck 0 x16 x18 x19 x20 x21 x22 x23 x24 x25 x26 x27 x28 x29 x30 x33 x45 (u_7 + 1) x52 x53 x61 x62 x63 x65 x66 f1 f2 f3 q4 q5 q6 q7 f8 q9 q10 f11 m12_0 m12_1 m13_0 m13_1 m14_0 m14_1 m15_0 m15_1 f17 q31 f32 f34 f35 f36 f37 q38 f39 f40 f41 m42_0 m42_1 f43 f44 f47 f48 f49 f50 f51 q54 q55 q56 f57 q58 f59 f60 f64 0 0 0 hx16 hx18 hx19 hx21 hx22 hx26 hx28 hx29 hx30 hx33 (by omega) hx52 hx53 hx61 hx62 hx63 hx65 hm12_0 hm12_1 hm13_0 hm13_1 hm14_0 hm14_1 hm15_0 hm15_1 hm42_0 hm42_1) (cwV 3 hts g_M_graph_M_layPoint rfl rfl rfl (by decide +kernel) ⟨Nat.le_of_ble_eq_true rfl, Nat.le_of_ble_eq_true rfl⟩) ⟨pu_bl, va_recv hK hP (ci := 9) (q0 := 0) rfl rfl, pu_in hP hK hD⟩ rfl rfl hl.1 rfl (lv_room (Nat.le_of_ble_eq_true rfl)) dX9_graph_42 ⟨Nat.le_of_ble_eq_true rfl, Nat.le_of_ble_eq_true rfl⟩) hS (fun q _ h => hFc q h) hFc (fun u t H1 locs ht hvm hw hB hz1 hk1 hS => ?_)
      obtain ⟨z35_10, ⟨hP1, -, hD1⟩⟩ := hB
      rw [ht] at hP1
      have hP := hP1
      have hD := pu_all hFc hD1
      clear hP1 hD1 hFc
      clear hk1 hz1 ht hvm
      generalize H1 = H at hP hS ⊢
      refine lv_aload_n hx hb dX9_graph_45 rfl (lv_at hl 0 rfl) ?_
      refine lv_iconst (v := 0) hx hb dX9_graph_46 (by decide) ?_
      refine lv_aload_n hx hb dX9_graph_47 rfl (lv_at hl 0 rfl) ?_
      refine va_get (D := (dC, dI)) (ci := 9) (v := .ref (ad 15)) (C := RX9) (T := TX9) (N := 67) hx hb hts hiX9 hown hK hP 0 rfl rfl 15 (by decide) v_17 (fun _ h9 => h9) rfl dX9_graph_48 ?_
      refine lv_aload_n hx hb dX9_graph_51 rfl (lv_at hl 0 rfl) ?_
      refine va_get (D := (dC, dI)) (ci := 9) (v := .int (nI x16)) (C := RX9) (T := TX9) (N := 67) hx hb hts hiX9 hown hK hP 0 rfl rfl 16 (by decide) v_7 (fun _ h9 => h9) rfl dX9_graph_52 ?_
      refine va_iald hx hb hK hP 15 14 rfl rfl (vp_in_nI (n := x16) (Nat.lt_of_le_of_lt hx16 (Nat.le_of_ble_eq_true rfl)) (Nat.le_of_ble_eq_true rfl)) dX9_graph_55 ?_
      refine lv_topi (fun y_11 ey_11 => ?_)
      obtain ⟨u_12, hu_12, fu_12⟩ := b2m_get (a := m15_0) (b := m15_1) (i := x16) (by omega)
      have qy_11 := ey_11.trans fu_12
      rcases mI_get u_12 with ⟨zy_11, wy_11⟩ | ⟨vy_11, zy_11, wy_11⟩
      · exfalso
        omega
      · obtain rfl : y_11 = nI vy_11 := qy_11.trans wy_11
        refine lv_iload_n hx hb dX9_graph_56 rfl (lv_at hl 1 rfl) ?_
        refine lv_iload_n hx hb dX9_graph_57 rfl (lv_at hl 2 rfl) ?_
        refine lv_bipush (v := 120) hx hb dX9_graph_58 (by decide) ?_
        refine lv_iconst (v := (-1)) hx hb dX9_graph_60 (by decide) ?_
        have hFc := pu_free hD hS hA
        refine va_callv (va_runV (As := [.int 0, .int (nI vy_11), .int (nI n_2), .int (nI a1), .int 120, .int (-1)]) (rest := []) ⟨hx, hb, hml, hown, hts⟩ (c_M_explores_0_120 l dC dI _ ad ck 0 x16 x18 x19 x20 x21 x22 x23 x24 x25 x26 x27 x28 x29 x30 x33 x45 (u_7 + 1) x52 x53 x61 x62 x63 x65 x66 f1 f2 f3 q4 q5 q6 q7 f8 q9 q10 f11 m12_0 m12_1 m13_0 m13_1 m14_0 m14_1 m15_0 m15_1 f17 q31 f32 f34 z35_10 f36 f37 q38 f39 f40 f41 m42_0 m42_1 f43 f44 f47 f48 f49 f50 f51 q54 q55 q56 f57 q58 f59 f60 f64 vy_11 (nI n_2) a1 (-1) hx16 hx18 hx19 hx21 hx22 hx26 hx28 hx29 hx30 hx33 (by omega) hx52 hx53 hx61 hx62 hx63 hx65 hm12_0 hm12_1 hm13_0 hm13_1 hm14_0 hm14_1 hm15_0 hm15_1 hm42_0 hm42_1 (by omega) ha1 (by first | assumption | exact gz_0)) (cwV 6 hts g_M_graph_M_explores_0_120 rfl rfl rfl (by decide +kernel) ⟨Nat.le_of_ble_eq_true rfl, Nat.le_of_ble_eq_true rfl⟩) ⟨pu_bl, va_recv hK hP (ci := 9) (q0 := 0) rfl rfl, pu_in hP hK hD⟩ rfl rfl hl.1 rfl (lv_room (Nat.le_of_ble_eq_true rfl)) dX9_graph_61 ⟨Nat.le_of_ble_eq_true rfl, Nat.le_of_ble_eq_true rfl⟩) hS (fun q _ h => hFc q h) hFc (fun u t H1 locs ht hvm hw hB hz1 hk1 hS => ?_)
        obtain ⟨z34_14, z35_15, z38_16, z39_17, z40_18, z41_19, z43_20, z44_21, z47_22, z48_23, z42_0_24, ⟨hP1, -, hD1⟩, hz42_0_24, xr_13_0⟩ := hB
        rw [ht] at hP1
        have hP := hP1
        have hD := pu_all hFc hD1
        clear hP1 hD1 hFc
        clear hk1 hz1 ht hvm
        generalize H1 = H at hP hS ⊢
        refine lv_aload_n hx hb dX9_graph_64 rfl (lv_at hl 0 rfl) ?_
        refine lv_iconst (v := 1) hx hb dX9_graph_65 (by decide) ?_
        refine va_put (D := (dC, dI)) (ci := 9) (v := .int 1) (ty := .boolean) (C := RX9) (T := TX9) (N := 67) hx hb hts hiX9 tyX9 tyX9_ok nmX9 hown hK hP hD hS 0 rfl rfl 29 (by decide) v_22 (fun _ h9 => h9) rfl (by decide +kernel) rfl rfl (Nat.le_of_ble_eq_true rfl) dX9_graph_66 (fun H locs hP hD hS => ?_)
        have hP : va_P (dC, dI) vwCl (mo_w ad ck 0 (nI x16) (nI x18) (nI x19) x20 (nI x21) (nI x22) x23 x24 x25 (nI x26) x27 (nI x28) 1 (nI x30) (nI x33) x45 (nI (u_7 + 1)) (nI x52) (nI x53) (nI x61) (nI x62) (nI x63) (nI x65) x66 f1 f2 f3 (bN 3 q4) (bN 7 q5) (bN 7 q6) (bN 4 q7) f8 (bN 2 q9) (bH q10) f11 (b2 m12_0 m12_1) (b2 m13_0 m13_1) (b2 m14_0 m14_1) (b2m m15_0 m15_1) f17 (bA 159 q31) f32 z34_14 z35_15 f36 f37 (bN 7 z38_16) z39_17 z40_18 z41_19 (b2 z42_0_24 m42_1) z43_20 z44_21 z47_22 z48_23 f49 f50 f51 (bN 13 q54) (bN 120 q55) (bN 120 q56) f57 (bN 120 q58) f59 f60 f64) H := hP
        have hD : va_D A (mo_w ad ck 0 (nI x16) (nI x18) (nI x19) x20 (nI x21) (nI x22) x23 x24 x25 (nI x26) x27 (nI x28) 1 (nI x30) (nI x33) x45 (nI (u_7 + 1)) (nI x52) (nI x53) (nI x61) (nI x62) (nI x63) (nI x65) x66 f1 f2 f3 (bN 3 q4) (bN 7 q5) (bN 7 q6) (bN 4 q7) f8 (bN 2 q9) (bH q10) f11 (b2 m12_0 m12_1) (b2 m13_0 m13_1) (b2 m14_0 m14_1) (b2m m15_0 m15_1) f17 (bA 159 q31) f32 z34_14 z35_15 f36 f37 (bN 7 z38_16) z39_17 z40_18 z41_19 (b2 z42_0_24 m42_1) z43_20 z44_21 z47_22 z48_23 f49 f50 f51 (bN 13 q54) (bN 120 q55) (bN 120 q56) f57 (bN 120 q58) f59 f60 f64) := hD
        refine lv_aload_n hx hb dX9_graph_69 rfl (lv_at hl 0 rfl) ?_
        refine lv_iload_n hx hb dX9_graph_70 rfl (lv_at hl 1 rfl) ?_
        refine va_put (D := (dC, dI)) (ci := 9) (v := .int (nI n_2)) (ty := .int) (C := RX9) (T := TX9) (N := 67) hx hb hts hiX9 tyX9 tyX9_ok nmX9 hown hK hP hD hS 0 rfl rfl 45 (by decide) v_23 (fun _ h9 => h9) rfl (by decide +kernel) rfl rfl (Nat.le_of_ble_eq_true rfl) dX9_graph_71 (fun H locs hP hD hS => ?_)
        have hP : va_P (dC, dI) vwCl (mo_w ad ck 0 (nI x16) (nI x18) (nI x19) x20 (nI x21) (nI x22) x23 x24 x25 (nI x26) x27 (nI x28) 1 (nI x30) (nI x33) (nI n_2) (nI (u_7 + 1)) (nI x52) (nI x53) (nI x61) (nI x62) (nI x63) (nI x65) x66 f1 f2 f3 (bN 3 q4) (bN 7 q5) (bN 7 q6) (bN 4 q7) f8 (bN 2 q9) (bH q10) f11 (b2 m12_0 m12_1) (b2 m13_0 m13_1) (b2 m14_0 m14_1) (b2m m15_0 m15_1) f17 (bA 159 q31) f32 z34_14 z35_15 f36 f37 (bN 7 z38_16) z39_17 z40_18 z41_19 (b2 z42_0_24 m42_1) z43_20 z44_21 z47_22 z48_23 f49 f50 f51 (bN 13 q54) (bN 120 q55) (bN 120 q56) f57 (bN 120 q58) f59 f60 f64) H := hP
        have hD : va_D A (mo_w ad ck 0 (nI x16) (nI x18) (nI x19) x20 (nI x21) (nI x22) x23 x24 x25 (nI x26) x27 (nI x28) 1 (nI x30) (nI x33) (nI n_2) (nI (u_7 + 1)) (nI x52) (nI x53) (nI x61) (nI x62) (nI x63) (nI x65) x66 f1 f2 f3 (bN 3 q4) (bN 7 q5) (bN 7 q6) (bN 4 q7) f8 (bN 2 q9) (bH q10) f11 (b2 m12_0 m12_1) (b2 m13_0 m13_1) (b2 m14_0 m14_1) (b2m m15_0 m15_1) f17 (bA 159 q31) f32 z34_14 z35_15 f36 f37 (bN 7 z38_16) z39_17 z40_18 z41_19 (b2 z42_0_24 m42_1) z43_20 z44_21 z47_22 z48_23 f49 f50 f51 (bN 13 q54) (bN 120 q55) (bN 120 q56) f57 (bN 120 q58) f59 f60 f64) := hD
        refine lv_aload_n hx hb dX9_graph_74 rfl (lv_at hl 0 rfl) ?_
        refine va_get (D := (dC, dI)) (ci := 9) (v := .ref (ad 42)) (C := RX9) (T := TX9) (N := 67) hx hb hts hiX9 hown hK hP 0 rfl rfl 42 (by decide) v_24 (fun _ h9 => h9) rfl dX9_graph_75 ?_
        refine lv_iconst (v := 0) hx hb dX9_graph_78 (by decide) ?_
        refine va_iald hx hb hK hP 27 26 rfl rfl (vp_in_nI (n := 0) (Nat.le_of_ble_eq_true rfl) (Nat.le_of_ble_eq_true rfl)) dX9_graph_79 ?_
        refine lv_topi (fun y_25 ey_25 => ?_)
        have qy_25 := ey_25.trans b2_0
        clear ey_25
        obtain rfl : y_25 = nI z42_0_24 := qy_25
        exact W.iret (v := (nI z42_0_24)) hx hb hr (fun t ht hW => ⟨⟨(nI z42_0_24), (), rfl, trivial, ⟨z34_14, z35_15, z38_16, z39_17, z40_18, z41_19, z43_20, z44_21, z47_22, z48_23, z42_0_24, 0, 1, (nI n_2), (u_7 + 1), ⟨by rw [ht]; exact hP, va_K.moved hW.alike hK, hD⟩, hz42_0_24, (Nat.le_of_ble_eq_true rfl), (by omega), by first | assumption | exact gz_0⟩⟩, hS.F ht⟩) hS.2.2 dX9_graph_80
    · have c_5 : u_4 = 0 := (nI_eq (a := u_4) (b := 0) (by omega) (Nat.le_of_ble_eq_true rfl)).mp c_5
      refine lv_iconst (v := (-1)) hx hb dX9_graph_26 (by decide) ?_
      exact W.iret (v := (-1)) hx hb hr (fun t ht hW => ⟨⟨(-1), (), rfl, trivial, ⟨f34, f35, q38, f39, f40, f41, f43, f44, f47, f48, m42_0, 0, x29, x45, x46, ⟨by rw [ht]; exact hP, va_K.moved hW.alike hK, hD⟩, hm42_0, hx29, hx46, by first | assumption | exact gz_0⟩⟩, hS.F ht⟩) hS.2.2 dX9_graph_27
  · refine lv_if_eq (tgt := 26) hx hb dX9_graph_11 (by decide) (fun _ => ?_) (fun z => absurd z (by decide))
    refine lv_iconst (v := (-1)) hx hb dX9_graph_26 (by decide) ?_
    exact W.iret (v := (-1)) hx hb hr (fun t ht hW => ⟨⟨(-1), (), rfl, trivial, ⟨f34, f35, q38, f39, f40, f41, f43, f44, f47, f48, m42_0, 0, x29, x45, x46, ⟨by rw [ht]; exact hP, va_K.moved hW.alike hK, hD⟩, hm42_0, hx29, hx46, by first | assumption | exact gz_0⟩⟩, hS.F ht⟩) hS.2.2 dX9_graph_27
theorem dX9_isState_0 : decode cX9_isState 0 = .ok (.aload_n 0, 1) := by decide +kernel
theorem dX9_isState_1 : decode cX9_isState 1 = .ok (.aload_n 0, 1) := by decide +kernel
theorem dX9_isState_2 : decode cX9_isState 2 = .ok (.invokevirtual 280, 3) := by decide +kernel
theorem dX9_isState_5 : decode cX9_isState 5 = .ok (.iconst 1, 1) := by decide +kernel
theorem dX9_isState_6 : decode cX9_isState 6 = .ok (.iadd, 1) := by decide +kernel
theorem dX9_isState_7 : decode cX9_isState 7 = .ok (.putfield 328, 3) := by decide +kernel
theorem dX9_isState_10 : decode cX9_isState 10 = .ok (.aload_n 0, 1) := by decide +kernel
theorem dX9_isState_11 : decode cX9_isState 11 = .ok (.getfield 273, 3) := by decide +kernel
theorem dX9_isState_14 : decode cX9_isState 14 = .ok (.ifCond .eq 23, 3) := by decide +kernel
theorem dX9_isState_17 : decode cX9_isState 17 = .ok (.iload_n 1, 1) := by decide +kernel
theorem dX9_isState_18 : decode cX9_isState 18 = .ok (.iconst 0, 1) := by decide +kernel
theorem dX9_isState_19 : decode cX9_isState 19 = .ok (.aload_n 0, 1) := by decide +kernel
theorem dX9_isState_20 : decode cX9_isState 20 = .ok (.getfield 92, 3) := by decide +kernel
theorem dX9_isState_23 : decode cX9_isState 23 = .ok (.iconst 0, 1) := by decide +kernel
theorem dX9_isState_24 : decode cX9_isState 24 = .ok (.iaload, 1) := by decide +kernel
theorem dX9_isState_25 : decode cX9_isState 25 = .ok (.iconst 1, 1) := by decide +kernel
theorem dX9_isState_26 : decode cX9_isState 26 = .ok (.isub, 1) := by decide +kernel
theorem dX9_isState_27 : decode cX9_isState 27 = .ok (.invokestatic 152, 3) := by decide +kernel
theorem dX9_isState_30 : decode cX9_isState 30 = .ok (.ifCond .eq 7, 3) := by decide +kernel
theorem dX9_isState_33 : decode cX9_isState 33 = .ok (.iconst 1, 1) := by decide +kernel
theorem dX9_isState_34 : decode cX9_isState 34 = .ok (.goto 4, 3) := by decide +kernel
theorem dX9_isState_37 : decode cX9_isState 37 = .ok (.iconst 0, 1) := by decide +kernel
theorem dX9_isState_38 : decode cX9_isState 38 = .ok (.ireturn, 1) := by decide +kernel
abbrev vs_M_isState : List Cond := .code yX9_isState cX9_isState 2 (some .boolean) :: VM
theorem g_M_isState_X9_in : GoodIn vs_M_isState (va_wsS RX9 152 yX9_in vs_X9_in) := gm_0 (fun w h => by
  rcases List.mem_cons.mp h with rfl | h
  · exact vm_153
  rcases List.mem_cons.mp h with rfl | h
  · exact vm_154
  rcases List.mem_cons.mp h with rfl | h
  · exact vm_12
  rcases List.mem_cons.mp h with rfl | h
  · exact vm_14
  exact absurd h (List.not_mem_nil))
theorem g_M_isState_M_clocks : GoodIn vs_M_isState (wsV RX9 280 RX9 yX9_clocks vs_M_clocks) := gm_V vm_150 vm_151 vm_152 vm_12 vm_20
set_option maxHeartbeats 4000000 in
set_option maxRecDepth 100000 in
theorem c_M_isState (l : Launch) (dC : Nat → ClassId) (dI : Nat → Nat → Nat) (sz : Nat) (ad : Nat → Nat) (ck : Nat → ClassId) (x0 : Int32) (x16 : Nat) (x18 : Nat) (x19 : Nat) (x20 : Int32) (x21 : Nat) (x22 : Nat) (x23 : Int32) (x24 : Int32) (x25 : Int32) (x26 : Nat) (x27 : Int32) (x28 : Nat) (x29 : Nat) (x30 : Nat) (x33 : Nat) (x45 : Int32) (x46 : Nat) (x52 : Nat) (x53 : Nat) (x61 : Nat) (x62 : Nat) (x63 : Nat) (x65 : Nat) (x66 : Int32) (f1 : Nat → Int32) (f2 : Nat → Int32) (f3 : Nat → Int32) (q4 : Nat → Nat) (q5 : Nat → Nat) (q6 : Nat → Nat) (q7 : Nat → Nat) (f8 : Nat → Int32) (q9 : Nat → Nat) (q10 : Nat → Nat) (f11 : Nat → Int32) (m12_0 m12_1 : Nat) (m13_0 m13_1 : Nat) (m14_0 m14_1 : Nat) (m15_0 m15_1 : Nat) (f17 : Nat → Int32) (q31 : Nat → Nat) (f32 : Nat → Int32) (f34 : Nat → Int32) (f35 : Nat → Int32) (f36 : Nat → Int32) (f37 : Nat → Int32) (q38 : Nat → Nat) (f39 : Nat → Int32) (f40 : Nat → Int32) (f41 : Nat → Int32) (m42_0 m42_1 : Nat) (f43 : Nat → Int32) (f44 : Nat → Int32) (f47 : Nat → Int32) (f48 : Nat → Int32) (f49 : Nat → Int32) (f50 : Nat → Int32) (f51 : Nat → Int32) (q54 : Nat → Nat) (q55 : Nat → Nat) (q56 : Nat → Nat) (f57 : Nat → Int32) (q58 : Nat → Nat) (f59 : Nat → Int32) (f60 : Nat → Int32) (f64 : Nat → Int32) (p0 : Int32) (hx16 : x16 ≤ 1) (hx18 : x18 ≤ 900) (hx19 : x19 ≤ 900) (hx21 : x21 ≤ 900) (hx22 : x22 ≤ 4) (hx26 : x26 ≤ 6) (hx28 : x28 ≤ 1) (hx29 : x29 ≤ 1) (hx30 : x30 ≤ 1) (hx33 : x33 ≤ 20) (hx46 : x46 ≤ 5) (hx52 : x52 ≤ 2400) (hx53 : x53 ≤ 119) (hx61 : x61 ≤ 119) (hx62 : x62 ≤ 2000) (hx63 : x63 ≤ 1) (hx65 : x65 ≤ 7) (hm12_0 : m12_0 ≤ 3) (hm12_1 : m12_1 ≤ 3) (hm13_0 : m13_0 ≤ 8) (hm13_1 : m13_1 ≤ 8) (hm14_0 : m14_0 ≤ 14) (hm14_1 : m14_1 ≤ 14) (hm15_0 : m15_0 ≤ 8) (hm15_1 : m15_1 ≤ 8) (hm42_0 : m42_0 ≤ 120) (hm42_1 : m42_1 ≤ 400) : Met l yX9_isState vs_M_isState ({ frames := 1, cells := 0, slots := 0, locals := 22 }) (va_Pc [.ref (ad 0), .int p0] (pu_B (dC, dI) (mo_w ad ck x0 (nI x16) (nI x18) (nI x19) x20 (nI x21) (nI x22) x23 x24 x25 (nI x26) x27 (nI x28) (nI x29) (nI x30) (nI x33) x45 (nI x46) (nI x52) (nI x53) (nI x61) (nI x62) (nI x63) (nI x65) x66 f1 f2 f3 (bN 3 q4) (bN 7 q5) (bN 7 q6) (bN 4 q7) f8 (bN 2 q9) (bH q10) f11 (b2 m12_0 m12_1) (b2 m13_0 m13_1) (b2 m14_0 m14_1) (b2m m15_0 m15_1) f17 (bA 159 q31) f32 f34 f35 f36 f37 (bN 7 q38) f39 f40 f41 (b2 m42_0 m42_1) f43 f44 f47 f48 f49 f50 f51 (bN 13 q54) (bN 120 q55) (bN 120 q56) f57 (bN 120 q58) f59 f60 f64) (mo_t ck) sz)) (va_Qi (fun (r : Int32) (_ : Unit) => (r = 1 ∧ ∃ q : Nat, q < m42_0 ∧ p0 = nI q) ∨ r = 0) (fun _ t => ∃ (z46 : Nat), pu_E (dC, dI) (mo_w ad ck x0 (nI x16) (nI x18) (nI x19) x20 (nI x21) (nI x22) x23 x24 x25 (nI x26) x27 (nI x28) (nI x29) (nI x30) (nI x33) x45 (nI z46) (nI x52) (nI x53) (nI x61) (nI x62) (nI x63) (nI x65) x66 f1 f2 f3 (bN 3 q4) (bN 7 q5) (bN 7 q6) (bN 4 q7) f8 (bN 2 q9) (bH q10) f11 (b2 m12_0 m12_1) (b2 m13_0 m13_1) (b2 m14_0 m14_1) (b2m m15_0 m15_1) f17 (bA 159 q31) f32 f34 f35 f36 f37 (bN 7 q38) f39 f40 f41 (b2 m42_0 m42_1) f43 f44 f47 f48 f49 f50 f51 (bN 13 q54) (bN 120 q55) (bN 120 q56) f57 (bN 120 q58) f59 f60 f64) (mo_t ck) (va_A ((mo_w ad ck x0 (nI x16) (nI x18) (nI x19) x20 (nI x21) (nI x22) x23 x24 x25 (nI x26) x27 (nI x28) (nI x29) (nI x30) (nI x33) x45 (nI x46) (nI x52) (nI x53) (nI x61) (nI x62) (nI x63) (nI x65) x66 f1 f2 f3 (bN 3 q4) (bN 7 q5) (bN 7 q6) (bN 4 q7) f8 (bN 2 q9) (bH q10) f11 (b2 m12_0 m12_1) (b2 m13_0 m13_1) (b2 m14_0 m14_1) (b2m m15_0 m15_1) f17 (bA 159 q31) f32 f34 f35 f36 f37 (bN 7 q38) f39 f40 f41 (b2 m42_0 m42_1) f43 f44 f47 f48 f49 f50 f51 (bN 13 q54) (bN 120 q55) (bN 120 q56) f57 (bN 120 q58) f59 f60 f64)) sz) t ∧ (z46 ≤ 4)) (va_A ((mo_w ad ck x0 (nI x16) (nI x18) (nI x19) x20 (nI x21) (nI x22) x23 x24 x25 (nI x26) x27 (nI x28) (nI x29) (nI x30) (nI x33) x45 (nI x46) (nI x52) (nI x53) (nI x61) (nI x62) (nI x63) (nI x65) x66 f1 f2 f3 (bN 3 q4) (bN 7 q5) (bN 7 q6) (bN 4 q7) f8 (bN 2 q9) (bH q10) f11 (b2 m12_0 m12_1) (b2 m13_0 m13_1) (b2 m14_0 m14_1) (b2m m15_0 m15_1) f17 (bA 159 q31) f32 f34 f35 f36 f37 (bN 7 q38) f39 f40 f41 (b2 m42_0 m42_1) f43 f44 f47 f48 f49 f50 f51 (bN 13 q54) (bN 120 q55) (bN 120 q56) f57 (bN 120 q58) f59 f60 f64)) sz)) 0 0 (va_A ((mo_w ad ck x0 (nI x16) (nI x18) (nI x19) x20 (nI x21) (nI x22) x23 x24 x25 (nI x26) x27 (nI x28) (nI x29) (nI x30) (nI x33) x45 (nI x46) (nI x52) (nI x53) (nI x61) (nI x62) (nI x63) (nI x65) x66 f1 f2 f3 (bN 3 q4) (bN 7 q5) (bN 7 q6) (bN 4 q7) f8 (bN 2 q9) (bH q10) f11 (b2 m12_0 m12_1) (b2 m13_0 m13_1) (b2 m14_0 m14_1) (b2m m15_0 m15_1) f17 (bA 159 q31) f32 f34 f35 f36 f37 (bN 7 q38) f39 f40 f41 (b2 m42_0 m42_1) f43 f44 f47 f48 f49 f50 f51 (bN 13 q54) (bN 120 q55) (bN 120 q56) f57 (bN 120 q58) f59 f60 f64)) sz) := by
  refine Met.ofW (cc := cX9_isState) (maxL := 2) (ret := (some .boolean)) (by decide) rfl ?_
  intro p e s m args below meth c s₁ B hml hv
  obtain ⟨rfl, rfl, hP, hK, hD0⟩ := hv
  have hx := B.exec
  have hb := B.bytes
  have hr := B.returns
  have hts := atoms_spec (ws := vs_M_isState) B.pre
  have v_6 := hts (.fieldLink RX9 328 "ClockReachModel" "side" "I") (List.mem_cons_of_mem _ vm_209)
  have v_7 := hts (.fieldLink RX9 273 "ClockReachModel" "hasGraph" "Z") (List.mem_cons_of_mem _ vm_18)
  have v_8 := hts (.fieldLink RX9 92 "ClockReachModel" "stateMany" "[I") (List.mem_cons_of_mem _ vm_177)
  have hown : s.vm.findClass RX9 = some m.cls := findClass_of_methodNamed B.named
  have hlocks := B.notSynchronized
  have hiX9 : ∀ w ∈ wsX90, w ∈ vs_M_isState := fun _ h => List.mem_cons_of_mem _ (List.mem_append_right _ h)
  have hD := hD0.self (sz := s.heap.size)
  generalize hAe : va_A ((mo_w ad ck x0 (nI x16) (nI x18) (nI x19) x20 (nI x21) (nI x22) x23 x24 x25 (nI x26) x27 (nI x28) (nI x29) (nI x30) (nI x33) x45 (nI x46) (nI x52) (nI x53) (nI x61) (nI x62) (nI x63) (nI x65) x66 f1 f2 f3 (bN 3 q4) (bN 7 q5) (bN 7 q6) (bN 4 q7) f8 (bN 2 q9) (bH q10) f11 (b2 m12_0 m12_1) (b2 m13_0 m13_1) (b2 m14_0 m14_1) (b2m m15_0 m15_1) f17 (bA 159 q31) f32 f34 f35 f36 f37 (bN 7 q38) f39 f40 f41 (b2 m42_0 m42_1) f43 f44 f47 f48 f49 f50 f51 (bN 13 q54) (bN 120 q55) (bN 120 q56) f57 (bN 120 q58) f59 f60 f64)) s.heap.size = A at hD ⊢
  have hA : ∀ q : Nat, s.heap.size ≤ q → A q := fun q h => by rw [← hAe]; exact Or.inr h
  have hS : va_S A s.heap s.heap [] := va_S.rf
  have hl := lv_entry ([.ref (ad 0), .int p0]) (n := 2) (Nat.le_of_ble_eq_true rfl)
  rw [lg_entry_eq]
  generalize (lg_sl ([.ref (ad 0), .int p0]) ++ List.replicate (2 - (lg_sl ([.ref (ad 0), .int p0])).length) Slot.unset).toArray = ls at hl ⊢
  have hl : lv_has ls 2 [(0, .ref (ad 0)), (1, .int p0)] := hl
  refine lv_aload_n hx hb dX9_isState_0 rfl (lv_at hl 0 rfl) ?_
  refine lv_aload_n hx hb dX9_isState_1 rfl (lv_at hl 0 rfl) ?_
  refine va_calli (va_runV (As := []) (rest := [.ref (ad 0)]) ⟨hx, hb, hml, hown, hts⟩ (c_M_clocks l dC dI _ ad ck x0 x16 x18 x19 x20 x21 x22 x23 x24 x25 x26 x27 x28 x29 x30 x33 x45 x46 x52 x53 x61 x62 x63 x65 x66 f1 f2 f3 q4 q5 q6 q7 f8 q9 q10 f11 m12_0 m12_1 m13_0 m13_1 m14_0 m14_1 m15_0 m15_1 f17 q31 f32 f34 f35 f36 f37 q38 f39 f40 f41 m42_0 m42_1 f43 f44 f47 f48 f49 f50 f51 q54 q55 q56 f57 q58 f59 f60 f64 hx16 hx18 hx19 hx21 hx22 hx26 hx28 hx29 hx30 hx33 hx46 hx52 hx53 hx61 hx62 hx63 hx65 hm12_0 hm12_1 hm13_0 hm13_1 hm14_0 hm14_1 hm15_0 hm15_1 hm42_0 hm42_1) (cwV 0 hts g_M_isState_M_clocks rfl rfl rfl (by decide +kernel) ⟨Nat.le_of_ble_eq_true rfl, Nat.le_of_ble_eq_true rfl⟩) ⟨pu_bl, va_recv hK hP (ci := 9) (q0 := 0) rfl rfl, pu_in hP hK hD⟩ rfl rfl hl.1 rfl (lv_room (Nat.le_of_ble_eq_true rfl)) dX9_isState_2 ⟨Nat.le_of_ble_eq_true rfl, Nat.le_of_ble_eq_true rfl⟩) hS (fun q _ h => pu_fr hS hA q h) (pu_fr hS hA) (fun r_1 u t H1 locs ht hvm hw hB hz1 hk1 hS => ?_)
  have hP := pu_keep hP hk1
  clear hk1 hz1 ht hvm
  generalize H1 = H at hP hS ⊢
  obtain ⟨u_2, hu_2, rfl⟩ := hw
  refine lv_iconst (v := 1) hx hb dX9_isState_5 (by decide) ?_
  refine lv_iadd hx hb dX9_isState_6 ?_
  refine lv_topi (fun y_3 ey_3 => ?_)
  obtain rfl : y_3 = (nI (u_2 + 1)) := ey_3.trans (nI_add u_2 1)
  refine va_put (D := (dC, dI)) (ci := 9) (v := .int (nI (u_2 + 1))) (ty := .int) (C := RX9) (T := TX9) (N := 67) hx hb hts hiX9 tyX9 tyX9_ok nmX9 hown hK hP hD hS 0 rfl rfl 46 (by decide) v_6 (fun _ h9 => h9) rfl (by decide +kernel) rfl rfl (Nat.le_of_ble_eq_true rfl) dX9_isState_7 (fun H locs hP hD hS => ?_)
  have hP : va_P (dC, dI) vwCl (mo_w ad ck x0 (nI x16) (nI x18) (nI x19) x20 (nI x21) (nI x22) x23 x24 x25 (nI x26) x27 (nI x28) (nI x29) (nI x30) (nI x33) x45 (nI (u_2 + 1)) (nI x52) (nI x53) (nI x61) (nI x62) (nI x63) (nI x65) x66 f1 f2 f3 (bN 3 q4) (bN 7 q5) (bN 7 q6) (bN 4 q7) f8 (bN 2 q9) (bH q10) f11 (b2 m12_0 m12_1) (b2 m13_0 m13_1) (b2 m14_0 m14_1) (b2m m15_0 m15_1) f17 (bA 159 q31) f32 f34 f35 f36 f37 (bN 7 q38) f39 f40 f41 (b2 m42_0 m42_1) f43 f44 f47 f48 f49 f50 f51 (bN 13 q54) (bN 120 q55) (bN 120 q56) f57 (bN 120 q58) f59 f60 f64) H := hP
  have hD : va_D A (mo_w ad ck x0 (nI x16) (nI x18) (nI x19) x20 (nI x21) (nI x22) x23 x24 x25 (nI x26) x27 (nI x28) (nI x29) (nI x30) (nI x33) x45 (nI (u_2 + 1)) (nI x52) (nI x53) (nI x61) (nI x62) (nI x63) (nI x65) x66 f1 f2 f3 (bN 3 q4) (bN 7 q5) (bN 7 q6) (bN 4 q7) f8 (bN 2 q9) (bH q10) f11 (b2 m12_0 m12_1) (b2 m13_0 m13_1) (b2 m14_0 m14_1) (b2m m15_0 m15_1) f17 (bA 159 q31) f32 f34 f35 f36 f37 (bN 7 q38) f39 f40 f41 (b2 m42_0 m42_1) f43 f44 f47 f48 f49 f50 f51 (bN 13 q54) (bN 120 q55) (bN 120 q56) f57 (bN 120 q58) f59 f60 f64) := hD
  refine lv_aload_n hx hb dX9_isState_10 rfl (lv_at hl 0 rfl) ?_
  refine va_get (D := (dC, dI)) (ci := 9) (v := .int (nI x29)) (C := RX9) (T := TX9) (N := 67) hx hb hts hiX9 hown hK hP 0 rfl rfl 29 (by decide) v_7 (fun _ h9 => h9) rfl dX9_isState_11 ?_
  refine lv_if_eq (tgt := 37) hx hb dX9_isState_14 (by decide) (fun c_4 => ?_) (fun c_4 => ?_)
  · have c_4 : x29 = 0 := (nI_eq (a := x29) (b := 0) (Nat.lt_of_le_of_lt hx29 (Nat.le_of_ble_eq_true rfl)) (Nat.le_of_ble_eq_true rfl)).mp c_4
    refine lv_iconst (v := 0) hx hb dX9_isState_37 (by decide) ?_
    exact W.zret (v := 0) (ty := .boolean) hx hb hr (rfl) (fun t ht hW => ⟨⟨0, (), rfl, Or.inr rfl, ⟨(u_2 + 1), ⟨by rw [ht]; exact hP, va_K.moved hW.alike hK, hD⟩, (by omega)⟩⟩, hS.F ht⟩) hS.2.2 dX9_isState_38
  · have c_4 : ¬ x29 = 0 := fun z => c_4 ((nI_eq (a := x29) (b := 0) (Nat.lt_of_le_of_lt hx29 (Nat.le_of_ble_eq_true rfl)) (Nat.le_of_ble_eq_true rfl)).mpr z)
    refine lv_iload_n hx hb dX9_isState_17 rfl (lv_at hl 1 rfl) ?_
    refine lv_iconst (v := 0) hx hb dX9_isState_18 (by decide) ?_
    refine lv_aload_n hx hb dX9_isState_19 rfl (lv_at hl 0 rfl) ?_
    refine va_get (D := (dC, dI)) (ci := 9) (v := .ref (ad 42)) (C := RX9) (T := TX9) (N := 67) hx hb hts hiX9 hown hK hP 0 rfl rfl 42 (by decide) v_8 (fun _ h9 => h9) rfl dX9_isState_20 ?_
    refine lv_iconst (v := 0) hx hb dX9_isState_23 (by decide) ?_
    refine va_iald hx hb hK hP 27 26 rfl rfl (vp_in_nI (n := 0) (Nat.le_of_ble_eq_true rfl) (Nat.le_of_ble_eq_true rfl)) dX9_isState_24 ?_
    refine lv_topi (fun y_5 ey_5 => ?_)
    have qy_5 := ey_5.trans b2_0
    clear ey_5
    obtain rfl : y_5 = nI m42_0 := qy_5
    refine lv_iconst (v := 1) hx hb dX9_isState_25 (by decide) ?_
    refine lv_isub hx hb dX9_isState_26 ?_
    refine va_calli (va_runS (As := [.int p0, .int 0, .int ((nI m42_0) - 1)]) (rest := []) ⟨hx, hb, hml, hown, hts⟩ (c_X9_in l dC dI _ p0 0 ((nI m42_0) - 1)) (va_cwS 3 hts g_M_isState_X9_in rfl rfl rfl (by decide +kernel) ⟨Nat.le_of_ble_eq_true rfl, Nat.le_of_ble_eq_true rfl⟩) ⟨pu_bl, pu_in (hP.sub [] rfl) (hK.sub [] rfl) (hD.sub [] (by decide) rfl)⟩ rfl rfl hl.1 rfl (lv_room (Nat.le_of_ble_eq_true rfl)) dX9_isState_27 ⟨Nat.le_of_ble_eq_true rfl, Nat.le_of_ble_eq_true rfl⟩) hS (fun q _ h => pu_fr hS hA q h) (pu_fr hS hA) (fun r_6 u t H1 locs ht hvm hw hB hz1 hk1 hS => ?_)
    have hP := pu_keep hP hk1
    clear hk1 hz1 ht hvm
    generalize H1 = H at hP hS ⊢
    rcases hw with ⟨rfl, hi1, hi2⟩ | ⟨rfl, hi3⟩
    · obtain ⟨n_7, hn_7, rfl⟩ := pu_in1 (n := m42_0) (by omega) hi1 hi2
      refine lv_if_eq (tgt := 37) hx hb dX9_isState_30 (by decide) (fun z => absurd z (by decide)) (fun _ => ?_)
      refine lv_iconst (v := 1) hx hb dX9_isState_33 (by decide) ?_
      refine lv_goto (tgt := 38) hx hb dX9_isState_34 (by decide) ?_
      exact W.zret (v := 1) (ty := .boolean) hx hb hr (rfl) (fun t ht hW => ⟨⟨1, (), rfl, Or.inl ⟨rfl, n_7, by omega, rfl⟩, ⟨(u_2 + 1), ⟨by rw [ht]; exact hP, va_K.moved hW.alike hK, hD⟩, (by omega)⟩⟩, hS.F ht⟩) hS.2.2 dX9_isState_38
    · refine lv_if_eq (tgt := 37) hx hb dX9_isState_30 (by decide) (fun _ => ?_) (fun z => absurd z (by decide))
      refine lv_iconst (v := 0) hx hb dX9_isState_37 (by decide) ?_
      exact W.zret (v := 0) (ty := .boolean) hx hb hr (rfl) (fun t ht hW => ⟨⟨0, (), rfl, Or.inr rfl, ⟨(u_2 + 1), ⟨by rw [ht]; exact hP, va_K.moved hW.alike hK, hD⟩, (by omega)⟩⟩, hS.F ht⟩) hS.2.2 dX9_isState_38
theorem dX9_boundOf_0 : decode cX9_boundOf 0 = .ok (.aload_n 0, 1) := by decide +kernel
theorem dX9_boundOf_1 : decode cX9_boundOf 1 = .ok (.getfield 68, 3) := by decide +kernel
theorem dX9_boundOf_4 : decode cX9_boundOf 4 = .ok (.bipush 25, 2) := by decide +kernel
theorem dX9_boundOf_6 : decode cX9_boundOf 6 = .ok (.iload_n 1, 1) := by decide +kernel
theorem dX9_boundOf_7 : decode cX9_boundOf 7 = .ok (.imul, 1) := by decide +kernel
theorem dX9_boundOf_8 : decode cX9_boundOf 8 = .ok (.iconst 5, 1) := by decide +kernel
theorem dX9_boundOf_9 : decode cX9_boundOf 9 = .ok (.iload_n 2, 1) := by decide +kernel
theorem dX9_boundOf_10 : decode cX9_boundOf 10 = .ok (.iconst 1, 1) := by decide +kernel
theorem dX9_boundOf_11 : decode cX9_boundOf 11 = .ok (.iadd, 1) := by decide +kernel
theorem dX9_boundOf_12 : decode cX9_boundOf 12 = .ok (.imul, 1) := by decide +kernel
theorem dX9_boundOf_13 : decode cX9_boundOf 13 = .ok (.iadd, 1) := by decide +kernel
theorem dX9_boundOf_14 : decode cX9_boundOf 14 = .ok (.iload_n 3, 1) := by decide +kernel
theorem dX9_boundOf_15 : decode cX9_boundOf 15 = .ok (.iadd, 1) := by decide +kernel
theorem dX9_boundOf_16 : decode cX9_boundOf 16 = .ok (.iconst 1, 1) := by decide +kernel
theorem dX9_boundOf_17 : decode cX9_boundOf 17 = .ok (.iadd, 1) := by decide +kernel
theorem dX9_boundOf_18 : decode cX9_boundOf 18 = .ok (.iaload, 1) := by decide +kernel
theorem dX9_boundOf_19 : decode cX9_boundOf 19 = .ok (.ireturn, 1) := by decide +kernel
abbrev vs_M_boundOf_00 : List Cond := .code yX9_boundOf cX9_boundOf 4 (some .int) :: VM
set_option maxHeartbeats 4000000 in
set_option maxRecDepth 100000 in
theorem c_M_boundOf_00 (l : Launch) (dC : Nat → ClassId) (dI : Nat → Nat → Nat) (sz : Nat) (ad : Nat → Nat) (ck : Nat → ClassId) (x0 : Int32) (x16 : Nat) (x18 : Nat) (x19 : Nat) (x20 : Int32) (x21 : Nat) (x22 : Nat) (x23 : Int32) (x24 : Int32) (x25 : Int32) (x26 : Nat) (x27 : Int32) (x28 : Nat) (x29 : Nat) (x30 : Nat) (x33 : Nat) (x45 : Int32) (x46 : Nat) (x52 : Nat) (x53 : Nat) (x61 : Nat) (x62 : Nat) (x63 : Nat) (x65 : Nat) (x66 : Int32) (f1 : Nat → Int32) (f2 : Nat → Int32) (f3 : Nat → Int32) (q4 : Nat → Nat) (q5 : Nat → Nat) (q6 : Nat → Nat) (q7 : Nat → Nat) (f8 : Nat → Int32) (q9 : Nat → Nat) (q10 : Nat → Nat) (f11 : Nat → Int32) (m12_0 m12_1 : Nat) (m13_0 m13_1 : Nat) (m14_0 m14_1 : Nat) (m15_0 m15_1 : Nat) (f17 : Nat → Int32) (q31 : Nat → Nat) (f32 : Nat → Int32) (f34 : Nat → Int32) (f35 : Nat → Int32) (f36 : Nat → Int32) (f37 : Nat → Int32) (q38 : Nat → Nat) (f39 : Nat → Int32) (f40 : Nat → Int32) (f41 : Nat → Int32) (m42_0 m42_1 : Nat) (f43 : Nat → Int32) (f44 : Nat → Int32) (f47 : Nat → Int32) (f48 : Nat → Int32) (f49 : Nat → Int32) (f50 : Nat → Int32) (f51 : Nat → Int32) (q54 : Nat → Nat) (q55 : Nat → Nat) (q56 : Nat → Nat) (f57 : Nat → Int32) (q58 : Nat → Nat) (f59 : Nat → Int32) (f60 : Nat → Int32) (f64 : Nat → Int32) (a0 : Nat) (hx16 : x16 ≤ 1) (hx18 : x18 ≤ 900) (hx19 : x19 ≤ 900) (hx21 : x21 ≤ 900) (hx22 : x22 ≤ 4) (hx26 : x26 ≤ 6) (hx28 : x28 ≤ 1) (hx29 : x29 ≤ 1) (hx30 : x30 ≤ 1) (hx33 : x33 ≤ 20) (hx46 : x46 ≤ 5) (hx52 : x52 ≤ 2400) (hx53 : x53 ≤ 119) (hx61 : x61 ≤ 119) (hx62 : x62 ≤ 2000) (hx63 : x63 ≤ 1) (hx65 : x65 ≤ 7) (hm12_0 : m12_0 ≤ 3) (hm12_1 : m12_1 ≤ 3) (hm13_0 : m13_0 ≤ 8) (hm13_1 : m13_1 ≤ 8) (hm14_0 : m14_0 ≤ 14) (hm14_1 : m14_1 ≤ 14) (hm15_0 : m15_0 ≤ 8) (hm15_1 : m15_1 ≤ 8) (hm42_0 : m42_0 ≤ 120) (hm42_1 : m42_1 ≤ 400) (ha0 : a0 ≤ 519) : Met l yX9_boundOf vs_M_boundOf_00 ({ frames := 0, cells := 0, slots := 0, locals := 0 }) (va_Pc [.ref (ad 0), .int (nI a0), .int (-1), .int (-1)] (pu_B (dC, dI) (mo_w ad ck x0 (nI x16) (nI x18) (nI x19) x20 (nI x21) (nI x22) x23 x24 x25 (nI x26) x27 (nI x28) (nI x29) (nI x30) (nI x33) x45 (nI x46) (nI x52) (nI x53) (nI x61) (nI x62) (nI x63) (nI x65) x66 f1 f2 f3 (bN 3 q4) (bN 7 q5) (bN 7 q6) (bN 4 q7) f8 (bN 2 q9) (bH q10) f11 (b2 m12_0 m12_1) (b2 m13_0 m13_1) (b2 m14_0 m14_1) (b2m m15_0 m15_1) f17 (bA 159 q31) f32 f34 f35 f36 f37 (bN 7 q38) f39 f40 f41 (b2 m42_0 m42_1) f43 f44 f47 f48 f49 f50 f51 (bN 13 q54) (bN 120 q55) (bN 120 q56) f57 (bN 120 q58) f59 f60 f64) (mo_t ck) sz)) (va_Qi (fun (r : Int32) (_ : Unit) => True) (fun _ _ => True) (va_A [] sz)) 0 0 (va_A [] sz) := by
  refine Met.ofW (cc := cX9_boundOf) (maxL := 4) (ret := (some .int)) (by decide) rfl ?_
  intro p e s m args below meth c s₁ B hml hv
  obtain ⟨rfl, rfl, hP, hK, hD0⟩ := hv
  have hx := B.exec
  have hb := B.bytes
  have hr := B.returns
  have hts := atoms_spec (ws := vs_M_boundOf_00) B.pre
  have v_1 := hts (.fieldLink RX9 68 "ClockReachModel" "zone" "[I") (List.mem_cons_of_mem _ vm_232)
  have hown : s.vm.findClass RX9 = some m.cls := findClass_of_methodNamed B.named
  have hlocks := B.notSynchronized
  have hiX9 : ∀ w ∈ wsX90, w ∈ vs_M_boundOf_00 := fun _ h => List.mem_cons_of_mem _ (List.mem_append_right _ h)
  have hD := hD0
  have hA : ∀ q : Nat, s.heap.size ≤ q → va_A [] s.heap.size q := fun _ h => Or.inr h
  have hS : va_S (va_A [] s.heap.size) s.heap s.heap [] := va_S.rf
  have hl := lv_entry ([.ref (ad 0), .int (nI a0), .int (-1), .int (-1)]) (n := 4) (Nat.le_of_ble_eq_true rfl)
  rw [lg_entry_eq]
  generalize (lg_sl ([.ref (ad 0), .int (nI a0), .int (-1), .int (-1)]) ++ List.replicate (4 - (lg_sl ([.ref (ad 0), .int (nI a0), .int (-1), .int (-1)])).length) Slot.unset).toArray = ls at hl ⊢
  have hl : lv_has ls 4 [(0, .ref (ad 0)), (1, .int (nI a0)), (2, .int (-1)), (3, .int (-1))] := hl
  refine lv_aload_n hx hb dX9_boundOf_0 rfl (lv_at hl 0 rfl) ?_
  refine va_get (D := (dC, dI)) (ci := 9) (v := .ref (ad 34)) (C := RX9) (T := TX9) (N := 67) hx hb hts hiX9 hown hK hP 0 rfl rfl 34 (by decide) v_1 (fun _ h9 => h9) rfl dX9_boundOf_1 ?_
  refine lv_bipush (v := 25) hx hb dX9_boundOf_4 (by decide) ?_
  refine lv_iload_n hx hb dX9_boundOf_6 rfl (lv_at hl 1 rfl) ?_
  refine lv_imul hx hb dX9_boundOf_7 ?_
  refine lv_topi (fun y_1 ey_1 => ?_)
  obtain rfl : y_1 = (nI (25 * a0)) := ey_1.trans (pk_mul 25 a0)
  refine lv_iconst (v := 5) hx hb dX9_boundOf_8 (by decide) ?_
  refine lv_iload_n hx hb dX9_boundOf_9 rfl (lv_at hl 2 rfl) ?_
  refine lv_iconst (v := 1) hx hb dX9_boundOf_10 (by decide) ?_
  refine lv_iadd hx hb dX9_boundOf_11 ?_
  refine lv_topi (fun y_2 ey_2 => ?_)
  obtain rfl : y_2 = 0 := ey_2.trans (by decide)
  refine lv_imul hx hb dX9_boundOf_12 ?_
  refine lv_topi (fun y_3 ey_3 => ?_)
  obtain rfl : y_3 = 0 := ey_3.trans (by decide)
  refine lv_iadd hx hb dX9_boundOf_13 ?_
  refine lv_topi (fun y_4 ey_4 => ?_)
  obtain rfl : y_4 = (nI ((25 * a0) + 0)) := ey_4.trans (nI_add (25 * a0) 0)
  refine lv_iload_n hx hb dX9_boundOf_14 rfl (lv_at hl 3 rfl) ?_
  refine lv_iadd hx hb dX9_boundOf_15 ?_
  refine lv_iconst (v := 1) hx hb dX9_boundOf_16 (by decide) ?_
  refine lv_iadd hx hb dX9_boundOf_17 ?_
  refine lv_topi (fun y_5 ey_5 => ?_)
  obtain rfl : y_5 = (nI ((25 * a0) + 0)) := ey_5.trans (pu_pm _)
  refine va_iald hx hb hK hP 19 18 rfl rfl (vp_in_nI (n := ((25 * a0) + 0)) (by omega) (Nat.le_of_ble_eq_true rfl)) dX9_boundOf_18 ?_
  refine lv_topi (fun y_6 ey_6 => ?_)
  exact W.iret (v := y_6) hx hb hr (fun t ht hW => ⟨⟨y_6, (), rfl, trivial, trivial⟩, hS.F ht⟩) hS.2.2 dX9_boundOf_19
abbrev vs_M_boundOf_10 : List Cond := .code yX9_boundOf cX9_boundOf 4 (some .int) :: VM
set_option maxHeartbeats 4000000 in
set_option maxRecDepth 100000 in
theorem c_M_boundOf_10 (l : Launch) (dC : Nat → ClassId) (dI : Nat → Nat → Nat) (sz : Nat) (ad : Nat → Nat) (ck : Nat → ClassId) (x0 : Int32) (x16 : Nat) (x18 : Nat) (x19 : Nat) (x20 : Int32) (x21 : Nat) (x22 : Nat) (x23 : Int32) (x24 : Int32) (x25 : Int32) (x26 : Nat) (x27 : Int32) (x28 : Nat) (x29 : Nat) (x30 : Nat) (x33 : Nat) (x45 : Int32) (x46 : Nat) (x52 : Nat) (x53 : Nat) (x61 : Nat) (x62 : Nat) (x63 : Nat) (x65 : Nat) (x66 : Int32) (f1 : Nat → Int32) (f2 : Nat → Int32) (f3 : Nat → Int32) (q4 : Nat → Nat) (q5 : Nat → Nat) (q6 : Nat → Nat) (q7 : Nat → Nat) (f8 : Nat → Int32) (q9 : Nat → Nat) (q10 : Nat → Nat) (f11 : Nat → Int32) (m12_0 m12_1 : Nat) (m13_0 m13_1 : Nat) (m14_0 m14_1 : Nat) (m15_0 m15_1 : Nat) (f17 : Nat → Int32) (q31 : Nat → Nat) (f32 : Nat → Int32) (f34 : Nat → Int32) (f35 : Nat → Int32) (f36 : Nat → Int32) (f37 : Nat → Int32) (q38 : Nat → Nat) (f39 : Nat → Int32) (f40 : Nat → Int32) (f41 : Nat → Int32) (m42_0 m42_1 : Nat) (f43 : Nat → Int32) (f44 : Nat → Int32) (f47 : Nat → Int32) (f48 : Nat → Int32) (f49 : Nat → Int32) (f50 : Nat → Int32) (f51 : Nat → Int32) (q54 : Nat → Nat) (q55 : Nat → Nat) (q56 : Nat → Nat) (f57 : Nat → Int32) (q58 : Nat → Nat) (f59 : Nat → Int32) (f60 : Nat → Int32) (f64 : Nat → Int32) (a0 : Nat) (a1 : Nat) (hx16 : x16 ≤ 1) (hx18 : x18 ≤ 900) (hx19 : x19 ≤ 900) (hx21 : x21 ≤ 900) (hx22 : x22 ≤ 4) (hx26 : x26 ≤ 6) (hx28 : x28 ≤ 1) (hx29 : x29 ≤ 1) (hx30 : x30 ≤ 1) (hx33 : x33 ≤ 20) (hx46 : x46 ≤ 5) (hx52 : x52 ≤ 2400) (hx53 : x53 ≤ 119) (hx61 : x61 ≤ 119) (hx62 : x62 ≤ 2000) (hx63 : x63 ≤ 1) (hx65 : x65 ≤ 7) (hm12_0 : m12_0 ≤ 3) (hm12_1 : m12_1 ≤ 3) (hm13_0 : m13_0 ≤ 8) (hm13_1 : m13_1 ≤ 8) (hm14_0 : m14_0 ≤ 14) (hm14_1 : m14_1 ≤ 14) (hm15_0 : m15_0 ≤ 8) (hm15_1 : m15_1 ≤ 8) (hm42_0 : m42_0 ≤ 120) (hm42_1 : m42_1 ≤ 400) (ha0 : a0 ≤ 519) (ha1 : a1 ≤ 3) : Met l yX9_boundOf vs_M_boundOf_10 ({ frames := 0, cells := 0, slots := 0, locals := 0 }) (va_Pc [.ref (ad 0), .int (nI a0), .int (nI a1), .int (-1)] (pu_B (dC, dI) (mo_w ad ck x0 (nI x16) (nI x18) (nI x19) x20 (nI x21) (nI x22) x23 x24 x25 (nI x26) x27 (nI x28) (nI x29) (nI x30) (nI x33) x45 (nI x46) (nI x52) (nI x53) (nI x61) (nI x62) (nI x63) (nI x65) x66 f1 f2 f3 (bN 3 q4) (bN 7 q5) (bN 7 q6) (bN 4 q7) f8 (bN 2 q9) (bH q10) f11 (b2 m12_0 m12_1) (b2 m13_0 m13_1) (b2 m14_0 m14_1) (b2m m15_0 m15_1) f17 (bA 159 q31) f32 f34 f35 f36 f37 (bN 7 q38) f39 f40 f41 (b2 m42_0 m42_1) f43 f44 f47 f48 f49 f50 f51 (bN 13 q54) (bN 120 q55) (bN 120 q56) f57 (bN 120 q58) f59 f60 f64) (mo_t ck) sz)) (va_Qi (fun (r : Int32) (_ : Unit) => True) (fun _ _ => True) (va_A [] sz)) 0 0 (va_A [] sz) := by
  refine Met.ofW (cc := cX9_boundOf) (maxL := 4) (ret := (some .int)) (by decide) rfl ?_
  intro p e s m args below meth c s₁ B hml hv
  obtain ⟨rfl, rfl, hP, hK, hD0⟩ := hv
  have hx := B.exec
  have hb := B.bytes
  have hr := B.returns
  have hts := atoms_spec (ws := vs_M_boundOf_10) B.pre
  have v_1 := hts (.fieldLink RX9 68 "ClockReachModel" "zone" "[I") (List.mem_cons_of_mem _ vm_232)
  have hown : s.vm.findClass RX9 = some m.cls := findClass_of_methodNamed B.named
  have hlocks := B.notSynchronized
  have hiX9 : ∀ w ∈ wsX90, w ∈ vs_M_boundOf_10 := fun _ h => List.mem_cons_of_mem _ (List.mem_append_right _ h)
  have hD := hD0
  have hA : ∀ q : Nat, s.heap.size ≤ q → va_A [] s.heap.size q := fun _ h => Or.inr h
  have hS : va_S (va_A [] s.heap.size) s.heap s.heap [] := va_S.rf
  have hl := lv_entry ([.ref (ad 0), .int (nI a0), .int (nI a1), .int (-1)]) (n := 4) (Nat.le_of_ble_eq_true rfl)
  rw [lg_entry_eq]
  generalize (lg_sl ([.ref (ad 0), .int (nI a0), .int (nI a1), .int (-1)]) ++ List.replicate (4 - (lg_sl ([.ref (ad 0), .int (nI a0), .int (nI a1), .int (-1)])).length) Slot.unset).toArray = ls at hl ⊢
  have hl : lv_has ls 4 [(0, .ref (ad 0)), (1, .int (nI a0)), (2, .int (nI a1)), (3, .int (-1))] := hl
  refine lv_aload_n hx hb dX9_boundOf_0 rfl (lv_at hl 0 rfl) ?_
  refine va_get (D := (dC, dI)) (ci := 9) (v := .ref (ad 34)) (C := RX9) (T := TX9) (N := 67) hx hb hts hiX9 hown hK hP 0 rfl rfl 34 (by decide) v_1 (fun _ h9 => h9) rfl dX9_boundOf_1 ?_
  refine lv_bipush (v := 25) hx hb dX9_boundOf_4 (by decide) ?_
  refine lv_iload_n hx hb dX9_boundOf_6 rfl (lv_at hl 1 rfl) ?_
  refine lv_imul hx hb dX9_boundOf_7 ?_
  refine lv_topi (fun y_1 ey_1 => ?_)
  obtain rfl : y_1 = (nI (25 * a0)) := ey_1.trans (pk_mul 25 a0)
  refine lv_iconst (v := 5) hx hb dX9_boundOf_8 (by decide) ?_
  refine lv_iload_n hx hb dX9_boundOf_9 rfl (lv_at hl 2 rfl) ?_
  refine lv_iconst (v := 1) hx hb dX9_boundOf_10 (by decide) ?_
  refine lv_iadd hx hb dX9_boundOf_11 ?_
  refine lv_topi (fun y_2 ey_2 => ?_)
  obtain rfl : y_2 = (nI (a1 + 1)) := ey_2.trans (nI_add a1 1)
  refine lv_imul hx hb dX9_boundOf_12 ?_
  refine lv_topi (fun y_3 ey_3 => ?_)
  obtain rfl : y_3 = (nI (5 * (a1 + 1))) := ey_3.trans (pk_mul 5 (a1 + 1))
  refine lv_iadd hx hb dX9_boundOf_13 ?_
  refine lv_topi (fun y_4 ey_4 => ?_)
  obtain rfl : y_4 = (nI ((25 * a0) + (5 * (a1 + 1)))) := ey_4.trans (nI_add (25 * a0) (5 * (a1 + 1)))
  refine lv_iload_n hx hb dX9_boundOf_14 rfl (lv_at hl 3 rfl) ?_
  refine lv_iadd hx hb dX9_boundOf_15 ?_
  refine lv_iconst (v := 1) hx hb dX9_boundOf_16 (by decide) ?_
  refine lv_iadd hx hb dX9_boundOf_17 ?_
  refine lv_topi (fun y_5 ey_5 => ?_)
  obtain rfl : y_5 = (nI ((25 * a0) + (5 * (a1 + 1)))) := ey_5.trans (pu_pm _)
  refine va_iald hx hb hK hP 19 18 rfl rfl (vp_in_nI (n := ((25 * a0) + (5 * (a1 + 1)))) (by omega) (Nat.le_of_ble_eq_true rfl)) dX9_boundOf_18 ?_
  refine lv_topi (fun y_6 ey_6 => ?_)
  exact W.iret (v := y_6) hx hb hr (fun t ht hW => ⟨⟨y_6, (), rfl, trivial, trivial⟩, hS.F ht⟩) hS.2.2 dX9_boundOf_19
abbrev vs_M_boundOf_01 : List Cond := .code yX9_boundOf cX9_boundOf 4 (some .int) :: VM
set_option maxHeartbeats 4000000 in
set_option maxRecDepth 100000 in
theorem c_M_boundOf_01 (l : Launch) (dC : Nat → ClassId) (dI : Nat → Nat → Nat) (sz : Nat) (ad : Nat → Nat) (ck : Nat → ClassId) (x0 : Int32) (x16 : Nat) (x18 : Nat) (x19 : Nat) (x20 : Int32) (x21 : Nat) (x22 : Nat) (x23 : Int32) (x24 : Int32) (x25 : Int32) (x26 : Nat) (x27 : Int32) (x28 : Nat) (x29 : Nat) (x30 : Nat) (x33 : Nat) (x45 : Int32) (x46 : Nat) (x52 : Nat) (x53 : Nat) (x61 : Nat) (x62 : Nat) (x63 : Nat) (x65 : Nat) (x66 : Int32) (f1 : Nat → Int32) (f2 : Nat → Int32) (f3 : Nat → Int32) (q4 : Nat → Nat) (q5 : Nat → Nat) (q6 : Nat → Nat) (q7 : Nat → Nat) (f8 : Nat → Int32) (q9 : Nat → Nat) (q10 : Nat → Nat) (f11 : Nat → Int32) (m12_0 m12_1 : Nat) (m13_0 m13_1 : Nat) (m14_0 m14_1 : Nat) (m15_0 m15_1 : Nat) (f17 : Nat → Int32) (q31 : Nat → Nat) (f32 : Nat → Int32) (f34 : Nat → Int32) (f35 : Nat → Int32) (f36 : Nat → Int32) (f37 : Nat → Int32) (q38 : Nat → Nat) (f39 : Nat → Int32) (f40 : Nat → Int32) (f41 : Nat → Int32) (m42_0 m42_1 : Nat) (f43 : Nat → Int32) (f44 : Nat → Int32) (f47 : Nat → Int32) (f48 : Nat → Int32) (f49 : Nat → Int32) (f50 : Nat → Int32) (f51 : Nat → Int32) (q54 : Nat → Nat) (q55 : Nat → Nat) (q56 : Nat → Nat) (f57 : Nat → Int32) (q58 : Nat → Nat) (f59 : Nat → Int32) (f60 : Nat → Int32) (f64 : Nat → Int32) (a0 : Nat) (a2 : Nat) (hx16 : x16 ≤ 1) (hx18 : x18 ≤ 900) (hx19 : x19 ≤ 900) (hx21 : x21 ≤ 900) (hx22 : x22 ≤ 4) (hx26 : x26 ≤ 6) (hx28 : x28 ≤ 1) (hx29 : x29 ≤ 1) (hx30 : x30 ≤ 1) (hx33 : x33 ≤ 20) (hx46 : x46 ≤ 5) (hx52 : x52 ≤ 2400) (hx53 : x53 ≤ 119) (hx61 : x61 ≤ 119) (hx62 : x62 ≤ 2000) (hx63 : x63 ≤ 1) (hx65 : x65 ≤ 7) (hm12_0 : m12_0 ≤ 3) (hm12_1 : m12_1 ≤ 3) (hm13_0 : m13_0 ≤ 8) (hm13_1 : m13_1 ≤ 8) (hm14_0 : m14_0 ≤ 14) (hm14_1 : m14_1 ≤ 14) (hm15_0 : m15_0 ≤ 8) (hm15_1 : m15_1 ≤ 8) (hm42_0 : m42_0 ≤ 120) (hm42_1 : m42_1 ≤ 400) (ha0 : a0 ≤ 519) (ha2 : a2 ≤ 3) : Met l yX9_boundOf vs_M_boundOf_01 ({ frames := 0, cells := 0, slots := 0, locals := 0 }) (va_Pc [.ref (ad 0), .int (nI a0), .int (-1), .int (nI a2)] (pu_B (dC, dI) (mo_w ad ck x0 (nI x16) (nI x18) (nI x19) x20 (nI x21) (nI x22) x23 x24 x25 (nI x26) x27 (nI x28) (nI x29) (nI x30) (nI x33) x45 (nI x46) (nI x52) (nI x53) (nI x61) (nI x62) (nI x63) (nI x65) x66 f1 f2 f3 (bN 3 q4) (bN 7 q5) (bN 7 q6) (bN 4 q7) f8 (bN 2 q9) (bH q10) f11 (b2 m12_0 m12_1) (b2 m13_0 m13_1) (b2 m14_0 m14_1) (b2m m15_0 m15_1) f17 (bA 159 q31) f32 f34 f35 f36 f37 (bN 7 q38) f39 f40 f41 (b2 m42_0 m42_1) f43 f44 f47 f48 f49 f50 f51 (bN 13 q54) (bN 120 q55) (bN 120 q56) f57 (bN 120 q58) f59 f60 f64) (mo_t ck) sz)) (va_Qi (fun (r : Int32) (_ : Unit) => True) (fun _ _ => True) (va_A [] sz)) 0 0 (va_A [] sz) := by
  refine Met.ofW (cc := cX9_boundOf) (maxL := 4) (ret := (some .int)) (by decide) rfl ?_
  intro p e s m args below meth c s₁ B hml hv
  obtain ⟨rfl, rfl, hP, hK, hD0⟩ := hv
  have hx := B.exec
  have hb := B.bytes
  have hr := B.returns
  have hts := atoms_spec (ws := vs_M_boundOf_01) B.pre
  have v_1 := hts (.fieldLink RX9 68 "ClockReachModel" "zone" "[I") (List.mem_cons_of_mem _ vm_232)
  have hown : s.vm.findClass RX9 = some m.cls := findClass_of_methodNamed B.named
  have hlocks := B.notSynchronized
  have hiX9 : ∀ w ∈ wsX90, w ∈ vs_M_boundOf_01 := fun _ h => List.mem_cons_of_mem _ (List.mem_append_right _ h)
  have hD := hD0
  have hA : ∀ q : Nat, s.heap.size ≤ q → va_A [] s.heap.size q := fun _ h => Or.inr h
  have hS : va_S (va_A [] s.heap.size) s.heap s.heap [] := va_S.rf
  have hl := lv_entry ([.ref (ad 0), .int (nI a0), .int (-1), .int (nI a2)]) (n := 4) (Nat.le_of_ble_eq_true rfl)
  rw [lg_entry_eq]
  generalize (lg_sl ([.ref (ad 0), .int (nI a0), .int (-1), .int (nI a2)]) ++ List.replicate (4 - (lg_sl ([.ref (ad 0), .int (nI a0), .int (-1), .int (nI a2)])).length) Slot.unset).toArray = ls at hl ⊢
  have hl : lv_has ls 4 [(0, .ref (ad 0)), (1, .int (nI a0)), (2, .int (-1)), (3, .int (nI a2))] := hl
  refine lv_aload_n hx hb dX9_boundOf_0 rfl (lv_at hl 0 rfl) ?_
  refine va_get (D := (dC, dI)) (ci := 9) (v := .ref (ad 34)) (C := RX9) (T := TX9) (N := 67) hx hb hts hiX9 hown hK hP 0 rfl rfl 34 (by decide) v_1 (fun _ h9 => h9) rfl dX9_boundOf_1 ?_
  refine lv_bipush (v := 25) hx hb dX9_boundOf_4 (by decide) ?_
  refine lv_iload_n hx hb dX9_boundOf_6 rfl (lv_at hl 1 rfl) ?_
  refine lv_imul hx hb dX9_boundOf_7 ?_
  refine lv_topi (fun y_1 ey_1 => ?_)
  obtain rfl : y_1 = (nI (25 * a0)) := ey_1.trans (pk_mul 25 a0)
  refine lv_iconst (v := 5) hx hb dX9_boundOf_8 (by decide) ?_
  refine lv_iload_n hx hb dX9_boundOf_9 rfl (lv_at hl 2 rfl) ?_
  refine lv_iconst (v := 1) hx hb dX9_boundOf_10 (by decide) ?_
  refine lv_iadd hx hb dX9_boundOf_11 ?_
  refine lv_topi (fun y_2 ey_2 => ?_)
  obtain rfl : y_2 = 0 := ey_2.trans (by decide)
  refine lv_imul hx hb dX9_boundOf_12 ?_
  refine lv_topi (fun y_3 ey_3 => ?_)
  obtain rfl : y_3 = 0 := ey_3.trans (by decide)
  refine lv_iadd hx hb dX9_boundOf_13 ?_
  refine lv_topi (fun y_4 ey_4 => ?_)
  obtain rfl : y_4 = (nI ((25 * a0) + 0)) := ey_4.trans (nI_add (25 * a0) 0)
  refine lv_iload_n hx hb dX9_boundOf_14 rfl (lv_at hl 3 rfl) ?_
  refine lv_iadd hx hb dX9_boundOf_15 ?_
  refine lv_topi (fun y_5 ey_5 => ?_)
  obtain rfl : y_5 = (nI (((25 * a0) + 0) + a2)) := ey_5.trans (nI_add ((25 * a0) + 0) a2)
  refine lv_iconst (v := 1) hx hb dX9_boundOf_16 (by decide) ?_
  refine lv_iadd hx hb dX9_boundOf_17 ?_
  refine lv_topi (fun y_6 ey_6 => ?_)
  obtain rfl : y_6 = (nI ((((25 * a0) + 0) + a2) + 1)) := ey_6.trans (nI_add (((25 * a0) + 0) + a2) 1)
  refine va_iald hx hb hK hP 19 18 rfl rfl (vp_in_nI (n := ((((25 * a0) + 0) + a2) + 1)) (by omega) (Nat.le_of_ble_eq_true rfl)) dX9_boundOf_18 ?_
  refine lv_topi (fun y_7 ey_7 => ?_)
  exact W.iret (v := y_7) hx hb hr (fun t ht hW => ⟨⟨y_7, (), rfl, trivial, trivial⟩, hS.F ht⟩) hS.2.2 dX9_boundOf_19
abbrev vs_M_boundOf_11 : List Cond := .code yX9_boundOf cX9_boundOf 4 (some .int) :: VM
set_option maxHeartbeats 4000000 in
set_option maxRecDepth 100000 in
theorem c_M_boundOf_11 (l : Launch) (dC : Nat → ClassId) (dI : Nat → Nat → Nat) (sz : Nat) (ad : Nat → Nat) (ck : Nat → ClassId) (x0 : Int32) (x16 : Nat) (x18 : Nat) (x19 : Nat) (x20 : Int32) (x21 : Nat) (x22 : Nat) (x23 : Int32) (x24 : Int32) (x25 : Int32) (x26 : Nat) (x27 : Int32) (x28 : Nat) (x29 : Nat) (x30 : Nat) (x33 : Nat) (x45 : Int32) (x46 : Nat) (x52 : Nat) (x53 : Nat) (x61 : Nat) (x62 : Nat) (x63 : Nat) (x65 : Nat) (x66 : Int32) (f1 : Nat → Int32) (f2 : Nat → Int32) (f3 : Nat → Int32) (q4 : Nat → Nat) (q5 : Nat → Nat) (q6 : Nat → Nat) (q7 : Nat → Nat) (f8 : Nat → Int32) (q9 : Nat → Nat) (q10 : Nat → Nat) (f11 : Nat → Int32) (m12_0 m12_1 : Nat) (m13_0 m13_1 : Nat) (m14_0 m14_1 : Nat) (m15_0 m15_1 : Nat) (f17 : Nat → Int32) (q31 : Nat → Nat) (f32 : Nat → Int32) (f34 : Nat → Int32) (f35 : Nat → Int32) (f36 : Nat → Int32) (f37 : Nat → Int32) (q38 : Nat → Nat) (f39 : Nat → Int32) (f40 : Nat → Int32) (f41 : Nat → Int32) (m42_0 m42_1 : Nat) (f43 : Nat → Int32) (f44 : Nat → Int32) (f47 : Nat → Int32) (f48 : Nat → Int32) (f49 : Nat → Int32) (f50 : Nat → Int32) (f51 : Nat → Int32) (q54 : Nat → Nat) (q55 : Nat → Nat) (q56 : Nat → Nat) (f57 : Nat → Int32) (q58 : Nat → Nat) (f59 : Nat → Int32) (f60 : Nat → Int32) (f64 : Nat → Int32) (a0 : Nat) (a1 : Nat) (a2 : Nat) (hx16 : x16 ≤ 1) (hx18 : x18 ≤ 900) (hx19 : x19 ≤ 900) (hx21 : x21 ≤ 900) (hx22 : x22 ≤ 4) (hx26 : x26 ≤ 6) (hx28 : x28 ≤ 1) (hx29 : x29 ≤ 1) (hx30 : x30 ≤ 1) (hx33 : x33 ≤ 20) (hx46 : x46 ≤ 5) (hx52 : x52 ≤ 2400) (hx53 : x53 ≤ 119) (hx61 : x61 ≤ 119) (hx62 : x62 ≤ 2000) (hx63 : x63 ≤ 1) (hx65 : x65 ≤ 7) (hm12_0 : m12_0 ≤ 3) (hm12_1 : m12_1 ≤ 3) (hm13_0 : m13_0 ≤ 8) (hm13_1 : m13_1 ≤ 8) (hm14_0 : m14_0 ≤ 14) (hm14_1 : m14_1 ≤ 14) (hm15_0 : m15_0 ≤ 8) (hm15_1 : m15_1 ≤ 8) (hm42_0 : m42_0 ≤ 120) (hm42_1 : m42_1 ≤ 400) (ha0 : a0 ≤ 519) (ha1 : a1 ≤ 3) (ha2 : a2 ≤ 3) : Met l yX9_boundOf vs_M_boundOf_11 ({ frames := 0, cells := 0, slots := 0, locals := 0 }) (va_Pc [.ref (ad 0), .int (nI a0), .int (nI a1), .int (nI a2)] (pu_B (dC, dI) (mo_w ad ck x0 (nI x16) (nI x18) (nI x19) x20 (nI x21) (nI x22) x23 x24 x25 (nI x26) x27 (nI x28) (nI x29) (nI x30) (nI x33) x45 (nI x46) (nI x52) (nI x53) (nI x61) (nI x62) (nI x63) (nI x65) x66 f1 f2 f3 (bN 3 q4) (bN 7 q5) (bN 7 q6) (bN 4 q7) f8 (bN 2 q9) (bH q10) f11 (b2 m12_0 m12_1) (b2 m13_0 m13_1) (b2 m14_0 m14_1) (b2m m15_0 m15_1) f17 (bA 159 q31) f32 f34 f35 f36 f37 (bN 7 q38) f39 f40 f41 (b2 m42_0 m42_1) f43 f44 f47 f48 f49 f50 f51 (bN 13 q54) (bN 120 q55) (bN 120 q56) f57 (bN 120 q58) f59 f60 f64) (mo_t ck) sz)) (va_Qi (fun (r : Int32) (_ : Unit) => True) (fun _ _ => True) (va_A [] sz)) 0 0 (va_A [] sz) := by
  refine Met.ofW (cc := cX9_boundOf) (maxL := 4) (ret := (some .int)) (by decide) rfl ?_
  intro p e s m args below meth c s₁ B hml hv
  obtain ⟨rfl, rfl, hP, hK, hD0⟩ := hv
  have hx := B.exec
  have hb := B.bytes
  have hr := B.returns
  have hts := atoms_spec (ws := vs_M_boundOf_11) B.pre
  have v_1 := hts (.fieldLink RX9 68 "ClockReachModel" "zone" "[I") (List.mem_cons_of_mem _ vm_232)
  have hown : s.vm.findClass RX9 = some m.cls := findClass_of_methodNamed B.named
  have hlocks := B.notSynchronized
  have hiX9 : ∀ w ∈ wsX90, w ∈ vs_M_boundOf_11 := fun _ h => List.mem_cons_of_mem _ (List.mem_append_right _ h)
  have hD := hD0
  have hA : ∀ q : Nat, s.heap.size ≤ q → va_A [] s.heap.size q := fun _ h => Or.inr h
  have hS : va_S (va_A [] s.heap.size) s.heap s.heap [] := va_S.rf
  have hl := lv_entry ([.ref (ad 0), .int (nI a0), .int (nI a1), .int (nI a2)]) (n := 4) (Nat.le_of_ble_eq_true rfl)
  rw [lg_entry_eq]
  generalize (lg_sl ([.ref (ad 0), .int (nI a0), .int (nI a1), .int (nI a2)]) ++ List.replicate (4 - (lg_sl ([.ref (ad 0), .int (nI a0), .int (nI a1), .int (nI a2)])).length) Slot.unset).toArray = ls at hl ⊢
  have hl : lv_has ls 4 [(0, .ref (ad 0)), (1, .int (nI a0)), (2, .int (nI a1)), (3, .int (nI a2))] := hl
  refine lv_aload_n hx hb dX9_boundOf_0 rfl (lv_at hl 0 rfl) ?_
  refine va_get (D := (dC, dI)) (ci := 9) (v := .ref (ad 34)) (C := RX9) (T := TX9) (N := 67) hx hb hts hiX9 hown hK hP 0 rfl rfl 34 (by decide) v_1 (fun _ h9 => h9) rfl dX9_boundOf_1 ?_
  refine lv_bipush (v := 25) hx hb dX9_boundOf_4 (by decide) ?_
  refine lv_iload_n hx hb dX9_boundOf_6 rfl (lv_at hl 1 rfl) ?_
  refine lv_imul hx hb dX9_boundOf_7 ?_
  refine lv_topi (fun y_1 ey_1 => ?_)
  obtain rfl : y_1 = (nI (25 * a0)) := ey_1.trans (pk_mul 25 a0)
  refine lv_iconst (v := 5) hx hb dX9_boundOf_8 (by decide) ?_
  refine lv_iload_n hx hb dX9_boundOf_9 rfl (lv_at hl 2 rfl) ?_
  refine lv_iconst (v := 1) hx hb dX9_boundOf_10 (by decide) ?_
  refine lv_iadd hx hb dX9_boundOf_11 ?_
  refine lv_topi (fun y_2 ey_2 => ?_)
  obtain rfl : y_2 = (nI (a1 + 1)) := ey_2.trans (nI_add a1 1)
  refine lv_imul hx hb dX9_boundOf_12 ?_
  refine lv_topi (fun y_3 ey_3 => ?_)
  obtain rfl : y_3 = (nI (5 * (a1 + 1))) := ey_3.trans (pk_mul 5 (a1 + 1))
  refine lv_iadd hx hb dX9_boundOf_13 ?_
  refine lv_topi (fun y_4 ey_4 => ?_)
  obtain rfl : y_4 = (nI ((25 * a0) + (5 * (a1 + 1)))) := ey_4.trans (nI_add (25 * a0) (5 * (a1 + 1)))
  refine lv_iload_n hx hb dX9_boundOf_14 rfl (lv_at hl 3 rfl) ?_
  refine lv_iadd hx hb dX9_boundOf_15 ?_
  refine lv_topi (fun y_5 ey_5 => ?_)
  obtain rfl : y_5 = (nI (((25 * a0) + (5 * (a1 + 1))) + a2)) := ey_5.trans (nI_add ((25 * a0) + (5 * (a1 + 1))) a2)
  refine lv_iconst (v := 1) hx hb dX9_boundOf_16 (by decide) ?_
  refine lv_iadd hx hb dX9_boundOf_17 ?_
  refine lv_topi (fun y_6 ey_6 => ?_)
  obtain rfl : y_6 = (nI ((((25 * a0) + (5 * (a1 + 1))) + a2) + 1)) := ey_6.trans (nI_add (((25 * a0) + (5 * (a1 + 1))) + a2) 1)
  refine va_iald hx hb hK hP 19 18 rfl rfl (vp_in_nI (n := ((((25 * a0) + (5 * (a1 + 1))) + a2) + 1)) (by omega) (Nat.le_of_ble_eq_true rfl)) dX9_boundOf_18 ?_
  refine lv_topi (fun y_7 ey_7 => ?_)
  exact W.iret (v := y_7) hx hb hr (fun t ht hW => ⟨⟨y_7, (), rfl, trivial, trivial⟩, hS.F ht⟩) hS.2.2 dX9_boundOf_19
theorem dX9_bound_0 : decode cX9_bound 0 = .ok (.aload_n 0, 1) := by decide +kernel
theorem dX9_bound_1 : decode cX9_bound 1 = .ok (.iconst 0, 1) := by decide +kernel
theorem dX9_bound_2 : decode cX9_bound 2 = .ok (.putfield 142, 3) := by decide +kernel
theorem dX9_bound_5 : decode cX9_bound 5 = .ok (.aload_n 0, 1) := by decide +kernel
theorem dX9_bound_6 : decode cX9_bound 6 = .ok (.iload_n 1, 1) := by decide +kernel
theorem dX9_bound_7 : decode cX9_bound 7 = .ok (.invokevirtual 387, 3) := by decide +kernel
theorem dX9_bound_10 : decode cX9_bound 10 = .ok (.ifCond .eq 41, 3) := by decide +kernel
theorem dX9_bound_13 : decode cX9_bound 13 = .ok (.iload_n 2, 1) := by decide +kernel
theorem dX9_bound_14 : decode cX9_bound 14 = .ok (.iconst (-1), 1) := by decide +kernel
theorem dX9_bound_15 : decode cX9_bound 15 = .ok (.aload_n 0, 1) := by decide +kernel
theorem dX9_bound_16 : decode cX9_bound 16 = .ok (.invokevirtual 280, 3) := by decide +kernel
theorem dX9_bound_19 : decode cX9_bound 19 = .ok (.iconst 1, 1) := by decide +kernel
theorem dX9_bound_20 : decode cX9_bound 20 = .ok (.isub, 1) := by decide +kernel
theorem dX9_bound_21 : decode cX9_bound 21 = .ok (.invokestatic 152, 3) := by decide +kernel
theorem dX9_bound_24 : decode cX9_bound 24 = .ok (.ifCond .eq 27, 3) := by decide +kernel
theorem dX9_bound_27 : decode cX9_bound 27 = .ok (.iload_n 3, 1) := by decide +kernel
theorem dX9_bound_28 : decode cX9_bound 28 = .ok (.iconst (-1), 1) := by decide +kernel
theorem dX9_bound_29 : decode cX9_bound 29 = .ok (.aload_n 0, 1) := by decide +kernel
theorem dX9_bound_30 : decode cX9_bound 30 = .ok (.invokevirtual 280, 3) := by decide +kernel
theorem dX9_bound_33 : decode cX9_bound 33 = .ok (.iconst 1, 1) := by decide +kernel
theorem dX9_bound_34 : decode cX9_bound 34 = .ok (.isub, 1) := by decide +kernel
theorem dX9_bound_35 : decode cX9_bound 35 = .ok (.invokestatic 152, 3) := by decide +kernel
theorem dX9_bound_38 : decode cX9_bound 38 = .ok (.ifCond .eq 13, 3) := by decide +kernel
theorem dX9_bound_41 : decode cX9_bound 41 = .ok (.iload 4, 2) := by decide +kernel
theorem dX9_bound_43 : decode cX9_bound 43 = .ok (.iconst 0, 1) := by decide +kernel
theorem dX9_bound_44 : decode cX9_bound 44 = .ok (.iconst 1, 1) := by decide +kernel
theorem dX9_bound_45 : decode cX9_bound 45 = .ok (.invokestatic 152, 3) := by decide +kernel
theorem dX9_bound_48 : decode cX9_bound 48 = .ok (.ifCond .ne 7, 3) := by decide +kernel
theorem dX9_bound_51 : decode cX9_bound 51 = .ok (.ldc_w 393, 3) := by decide +kernel
theorem dX9_bound_54 : decode cX9_bound 54 = .ok (.ireturn, 1) := by decide +kernel
theorem dX9_bound_55 : decode cX9_bound 55 = .ok (.aload_n 0, 1) := by decide +kernel
theorem dX9_bound_56 : decode cX9_bound 56 = .ok (.iload_n 1, 1) := by decide +kernel
theorem dX9_bound_57 : decode cX9_bound 57 = .ok (.iload_n 2, 1) := by decide +kernel
theorem dX9_bound_58 : decode cX9_bound 58 = .ok (.iload_n 3, 1) := by decide +kernel
theorem dX9_bound_59 : decode cX9_bound 59 = .ok (.invokevirtual 394, 3) := by decide +kernel
theorem dX9_bound_62 : decode cX9_bound 62 = .ok (.istore 5, 2) := by decide +kernel
theorem dX9_bound_64 : decode cX9_bound 64 = .ok (.iload 5, 2) := by decide +kernel
theorem dX9_bound_66 : decode cX9_bound 66 = .ok (.ldc_w 327, 3) := by decide +kernel
theorem dX9_bound_69 : decode cX9_bound 69 = .ok (.if_icmp .lt 9, 3) := by decide +kernel
theorem dX9_bound_72 : decode cX9_bound 72 = .ok (.ldc_w 398, 3) := by decide +kernel
theorem dX9_bound_75 : decode cX9_bound 75 = .ok (.goto 19, 3) := by decide +kernel
theorem dX9_bound_78 : decode cX9_bound 78 = .ok (.iload 4, 2) := by decide +kernel
theorem dX9_bound_80 : decode cX9_bound 80 = .ok (.ifCond .ne 10, 3) := by decide +kernel
theorem dX9_bound_83 : decode cX9_bound 83 = .ok (.iload 5, 2) := by decide +kernel
theorem dX9_bound_85 : decode cX9_bound 85 = .ok (.iconst 1, 1) := by decide +kernel
theorem dX9_bound_86 : decode cX9_bound 86 = .ok (.ishr, 1) := by decide +kernel
theorem dX9_bound_87 : decode cX9_bound 87 = .ok (.goto 7, 3) := by decide +kernel
theorem dX9_bound_90 : decode cX9_bound 90 = .ok (.iload 5, 2) := by decide +kernel
theorem dX9_bound_92 : decode cX9_bound 92 = .ok (.iconst 1, 1) := by decide +kernel
theorem dX9_bound_93 : decode cX9_bound 93 = .ok (.iand, 1) := by decide +kernel
theorem dX9_bound_94 : decode cX9_bound 94 = .ok (.ireturn, 1) := by decide +kernel
abbrev vs_M_bound : List Cond := .code yX9_bound cX9_bound 6 (some .int) :: VM
theorem g_M_bound_X9_in : GoodIn vs_M_bound (va_wsS RX9 152 yX9_in vs_X9_in) := gm_0 (fun w h => by
  rcases List.mem_cons.mp h with rfl | h
  · exact vm_153
  rcases List.mem_cons.mp h with rfl | h
  · exact vm_154
  rcases List.mem_cons.mp h with rfl | h
  · exact vm_12
  rcases List.mem_cons.mp h with rfl | h
  · exact vm_14
  exact absurd h (List.not_mem_nil))
theorem g_M_bound_M_isState : GoodIn vs_M_bound (wsV RX9 387 RX9 yX9_isState vs_M_isState) := gm_V vm_279 vm_280 vm_281 vm_12 vm_276
theorem g_M_bound_M_clocks : GoodIn vs_M_bound (wsV RX9 280 RX9 yX9_clocks vs_M_clocks) := gm_V vm_150 vm_151 vm_152 vm_12 vm_20
theorem g_M_bound_M_boundOf_00 : GoodIn vs_M_bound (wsV RX9 394 RX9 yX9_boundOf vs_M_boundOf_00) := gm_V vm_282 vm_283 vm_284 vm_12 vm_277
theorem g_M_bound_M_boundOf_01 : GoodIn vs_M_bound (wsV RX9 394 RX9 yX9_boundOf vs_M_boundOf_01) := gm_V vm_282 vm_283 vm_284 vm_12 vm_277
theorem g_M_bound_M_boundOf_10 : GoodIn vs_M_bound (wsV RX9 394 RX9 yX9_boundOf vs_M_boundOf_10) := gm_V vm_282 vm_283 vm_284 vm_12 vm_277
theorem g_M_bound_M_boundOf_11 : GoodIn vs_M_bound (wsV RX9 394 RX9 yX9_boundOf vs_M_boundOf_11) := gm_V vm_282 vm_283 vm_284 vm_12 vm_277
set_option maxHeartbeats 4000000 in
set_option maxRecDepth 100000 in
theorem c_M_bound (l : Launch) (dC : Nat → ClassId) (dI : Nat → Nat → Nat) (sz : Nat) (ad : Nat → Nat) (ck : Nat → ClassId) (x0 : Int32) (x16 : Nat) (x18 : Nat) (x19 : Nat) (x20 : Int32) (x21 : Nat) (x22 : Nat) (x23 : Int32) (x24 : Int32) (x25 : Int32) (x26 : Nat) (x27 : Int32) (x28 : Nat) (x29 : Nat) (x30 : Nat) (x33 : Nat) (x45 : Int32) (x46 : Nat) (x52 : Nat) (x53 : Nat) (x61 : Nat) (x62 : Nat) (x63 : Nat) (x65 : Nat) (x66 : Int32) (f1 : Nat → Int32) (f2 : Nat → Int32) (f3 : Nat → Int32) (q4 : Nat → Nat) (q5 : Nat → Nat) (q6 : Nat → Nat) (q7 : Nat → Nat) (f8 : Nat → Int32) (q9 : Nat → Nat) (q10 : Nat → Nat) (f11 : Nat → Int32) (m12_0 m12_1 : Nat) (m13_0 m13_1 : Nat) (m14_0 m14_1 : Nat) (m15_0 m15_1 : Nat) (f17 : Nat → Int32) (q31 : Nat → Nat) (f32 : Nat → Int32) (f34 : Nat → Int32) (f35 : Nat → Int32) (f36 : Nat → Int32) (f37 : Nat → Int32) (q38 : Nat → Nat) (f39 : Nat → Int32) (f40 : Nat → Int32) (f41 : Nat → Int32) (m42_0 m42_1 : Nat) (f43 : Nat → Int32) (f44 : Nat → Int32) (f47 : Nat → Int32) (f48 : Nat → Int32) (f49 : Nat → Int32) (f50 : Nat → Int32) (f51 : Nat → Int32) (q54 : Nat → Nat) (q55 : Nat → Nat) (q56 : Nat → Nat) (f57 : Nat → Int32) (q58 : Nat → Nat) (f59 : Nat → Int32) (f60 : Nat → Int32) (f64 : Nat → Int32) (p0 : Int32) (p1 : Int32) (p2 : Int32) (p3 : Int32) (hx16 : x16 ≤ 1) (hx18 : x18 ≤ 900) (hx19 : x19 ≤ 900) (hx21 : x21 ≤ 900) (hx22 : x22 ≤ 4) (hx26 : x26 ≤ 6) (hx28 : x28 ≤ 1) (hx29 : x29 ≤ 1) (hx30 : x30 ≤ 1) (hx33 : x33 ≤ 20) (hx46 : x46 ≤ 5) (hx52 : x52 ≤ 2400) (hx53 : x53 ≤ 119) (hx61 : x61 ≤ 119) (hx62 : x62 ≤ 2000) (hx63 : x63 ≤ 1) (hx65 : x65 ≤ 7) (hm12_0 : m12_0 ≤ 3) (hm12_1 : m12_1 ≤ 3) (hm13_0 : m13_0 ≤ 8) (hm13_1 : m13_1 ≤ 8) (hm14_0 : m14_0 ≤ 14) (hm14_1 : m14_1 ≤ 14) (hm15_0 : m15_0 ≤ 8) (hm15_1 : m15_1 ≤ 8) (hm42_0 : m42_0 ≤ 120) (hm42_1 : m42_1 ≤ 400) : Met l yX9_bound vs_M_bound ({ frames := 2, cells := 0, slots := 0, locals := 43 }) (va_Pc [.ref (ad 0), .int p0, .int p1, .int p2, .int p3] (pu_B (dC, dI) (mo_w ad ck x0 (nI x16) (nI x18) (nI x19) x20 (nI x21) (nI x22) x23 x24 x25 (nI x26) x27 (nI x28) (nI x29) (nI x30) (nI x33) x45 (nI x46) (nI x52) (nI x53) (nI x61) (nI x62) (nI x63) (nI x65) x66 f1 f2 f3 (bN 3 q4) (bN 7 q5) (bN 7 q6) (bN 4 q7) f8 (bN 2 q9) (bH q10) f11 (b2 m12_0 m12_1) (b2 m13_0 m13_1) (b2 m14_0 m14_1) (b2m m15_0 m15_1) f17 (bA 159 q31) f32 f34 f35 f36 f37 (bN 7 q38) f39 f40 f41 (b2 m42_0 m42_1) f43 f44 f47 f48 f49 f50 f51 (bN 13 q54) (bN 120 q55) (bN 120 q56) f57 (bN 120 q58) f59 f60 f64) (mo_t ck) sz)) (va_Qi (fun (r : Int32) (_ : Unit) => True) (fun _ t => ∃ (z0 : Int32) (z46 : Nat), pu_E (dC, dI) (mo_w ad ck z0 (nI x16) (nI x18) (nI x19) x20 (nI x21) (nI x22) x23 x24 x25 (nI x26) x27 (nI x28) (nI x29) (nI x30) (nI x33) x45 (nI z46) (nI x52) (nI x53) (nI x61) (nI x62) (nI x63) (nI x65) x66 f1 f2 f3 (bN 3 q4) (bN 7 q5) (bN 7 q6) (bN 4 q7) f8 (bN 2 q9) (bH q10) f11 (b2 m12_0 m12_1) (b2 m13_0 m13_1) (b2 m14_0 m14_1) (b2m m15_0 m15_1) f17 (bA 159 q31) f32 f34 f35 f36 f37 (bN 7 q38) f39 f40 f41 (b2 m42_0 m42_1) f43 f44 f47 f48 f49 f50 f51 (bN 13 q54) (bN 120 q55) (bN 120 q56) f57 (bN 120 q58) f59 f60 f64) (mo_t ck) (va_A ((mo_w ad ck x0 (nI x16) (nI x18) (nI x19) x20 (nI x21) (nI x22) x23 x24 x25 (nI x26) x27 (nI x28) (nI x29) (nI x30) (nI x33) x45 (nI x46) (nI x52) (nI x53) (nI x61) (nI x62) (nI x63) (nI x65) x66 f1 f2 f3 (bN 3 q4) (bN 7 q5) (bN 7 q6) (bN 4 q7) f8 (bN 2 q9) (bH q10) f11 (b2 m12_0 m12_1) (b2 m13_0 m13_1) (b2 m14_0 m14_1) (b2m m15_0 m15_1) f17 (bA 159 q31) f32 f34 f35 f36 f37 (bN 7 q38) f39 f40 f41 (b2 m42_0 m42_1) f43 f44 f47 f48 f49 f50 f51 (bN 13 q54) (bN 120 q55) (bN 120 q56) f57 (bN 120 q58) f59 f60 f64)) sz) t ∧ (z46 ≤ 5)) (va_A ((mo_w ad ck x0 (nI x16) (nI x18) (nI x19) x20 (nI x21) (nI x22) x23 x24 x25 (nI x26) x27 (nI x28) (nI x29) (nI x30) (nI x33) x45 (nI x46) (nI x52) (nI x53) (nI x61) (nI x62) (nI x63) (nI x65) x66 f1 f2 f3 (bN 3 q4) (bN 7 q5) (bN 7 q6) (bN 4 q7) f8 (bN 2 q9) (bH q10) f11 (b2 m12_0 m12_1) (b2 m13_0 m13_1) (b2 m14_0 m14_1) (b2m m15_0 m15_1) f17 (bA 159 q31) f32 f34 f35 f36 f37 (bN 7 q38) f39 f40 f41 (b2 m42_0 m42_1) f43 f44 f47 f48 f49 f50 f51 (bN 13 q54) (bN 120 q55) (bN 120 q56) f57 (bN 120 q58) f59 f60 f64)) sz)) 0 0 (va_A ((mo_w ad ck x0 (nI x16) (nI x18) (nI x19) x20 (nI x21) (nI x22) x23 x24 x25 (nI x26) x27 (nI x28) (nI x29) (nI x30) (nI x33) x45 (nI x46) (nI x52) (nI x53) (nI x61) (nI x62) (nI x63) (nI x65) x66 f1 f2 f3 (bN 3 q4) (bN 7 q5) (bN 7 q6) (bN 4 q7) f8 (bN 2 q9) (bH q10) f11 (b2 m12_0 m12_1) (b2 m13_0 m13_1) (b2 m14_0 m14_1) (b2m m15_0 m15_1) f17 (bA 159 q31) f32 f34 f35 f36 f37 (bN 7 q38) f39 f40 f41 (b2 m42_0 m42_1) f43 f44 f47 f48 f49 f50 f51 (bN 13 q54) (bN 120 q55) (bN 120 q56) f57 (bN 120 q58) f59 f60 f64)) sz) := by
  refine Met.ofW (cc := cX9_bound) (maxL := 6) (ret := (some .int)) (by decide) rfl ?_
  intro p e s m args below meth c s₁ B hml hv
  obtain ⟨rfl, rfl, hP, hK, hD0⟩ := hv
  have hx := B.exec
  have hb := B.bytes
  have hr := B.returns
  have hts := atoms_spec (ws := vs_M_bound) B.pre
  have v_1 := hts (.fieldLink RX9 142 "ClockReachModel" "thrown" "I") (List.mem_cons_of_mem _ vm_24)
  have v_18 := hts (.constant RX9 327 (1048576)) (List.mem_cons_of_mem _ vm_6)
  have v_19 := hts (.constant RX9 398 (2147483647)) (List.mem_cons_of_mem _ vm_285)
  have v_20 := hts (.constant RX9 393 (-2147483648)) (List.mem_cons_of_mem _ vm_286)
  have hown : s.vm.findClass RX9 = some m.cls := findClass_of_methodNamed B.named
  have hlocks := B.notSynchronized
  have hiX9 : ∀ w ∈ wsX90, w ∈ vs_M_bound := fun _ h => List.mem_cons_of_mem _ (List.mem_append_right _ h)
  have hD := hD0.self (sz := s.heap.size)
  generalize hAe : va_A ((mo_w ad ck x0 (nI x16) (nI x18) (nI x19) x20 (nI x21) (nI x22) x23 x24 x25 (nI x26) x27 (nI x28) (nI x29) (nI x30) (nI x33) x45 (nI x46) (nI x52) (nI x53) (nI x61) (nI x62) (nI x63) (nI x65) x66 f1 f2 f3 (bN 3 q4) (bN 7 q5) (bN 7 q6) (bN 4 q7) f8 (bN 2 q9) (bH q10) f11 (b2 m12_0 m12_1) (b2 m13_0 m13_1) (b2 m14_0 m14_1) (b2m m15_0 m15_1) f17 (bA 159 q31) f32 f34 f35 f36 f37 (bN 7 q38) f39 f40 f41 (b2 m42_0 m42_1) f43 f44 f47 f48 f49 f50 f51 (bN 13 q54) (bN 120 q55) (bN 120 q56) f57 (bN 120 q58) f59 f60 f64)) s.heap.size = A at hD ⊢
  have hA : ∀ q : Nat, s.heap.size ≤ q → A q := fun q h => by rw [← hAe]; exact Or.inr h
  have hS : va_S A s.heap s.heap [] := va_S.rf
  have hl := lv_entry ([.ref (ad 0), .int p0, .int p1, .int p2, .int p3]) (n := 6) (Nat.le_of_ble_eq_true rfl)
  rw [lg_entry_eq]
  generalize (lg_sl ([.ref (ad 0), .int p0, .int p1, .int p2, .int p3]) ++ List.replicate (6 - (lg_sl ([.ref (ad 0), .int p0, .int p1, .int p2, .int p3])).length) Slot.unset).toArray = ls at hl ⊢
  have hl : lv_has ls 6 [(0, .ref (ad 0)), (1, .int p0), (2, .int p1), (3, .int p2), (4, .int p3)] := hl
  refine lv_aload_n hx hb dX9_bound_0 rfl (lv_at hl 0 rfl) ?_
  refine lv_iconst (v := 0) hx hb dX9_bound_1 (by decide) ?_
  refine va_put (D := (dC, dI)) (ci := 9) (v := .int 0) (ty := .int) (C := RX9) (T := TX9) (N := 67) hx hb hts hiX9 tyX9 tyX9_ok nmX9 hown hK hP hD hS 0 rfl rfl 0 (by decide) v_1 (fun _ h9 => h9) rfl (by decide +kernel) rfl rfl (Nat.le_of_ble_eq_true rfl) dX9_bound_2 (fun H locs hP hD hS => ?_)
  have hP : va_P (dC, dI) vwCl (mo_w ad ck 0 (nI x16) (nI x18) (nI x19) x20 (nI x21) (nI x22) x23 x24 x25 (nI x26) x27 (nI x28) (nI x29) (nI x30) (nI x33) x45 (nI x46) (nI x52) (nI x53) (nI x61) (nI x62) (nI x63) (nI x65) x66 f1 f2 f3 (bN 3 q4) (bN 7 q5) (bN 7 q6) (bN 4 q7) f8 (bN 2 q9) (bH q10) f11 (b2 m12_0 m12_1) (b2 m13_0 m13_1) (b2 m14_0 m14_1) (b2m m15_0 m15_1) f17 (bA 159 q31) f32 f34 f35 f36 f37 (bN 7 q38) f39 f40 f41 (b2 m42_0 m42_1) f43 f44 f47 f48 f49 f50 f51 (bN 13 q54) (bN 120 q55) (bN 120 q56) f57 (bN 120 q58) f59 f60 f64) H := hP
  have hD : va_D A (mo_w ad ck 0 (nI x16) (nI x18) (nI x19) x20 (nI x21) (nI x22) x23 x24 x25 (nI x26) x27 (nI x28) (nI x29) (nI x30) (nI x33) x45 (nI x46) (nI x52) (nI x53) (nI x61) (nI x62) (nI x63) (nI x65) x66 f1 f2 f3 (bN 3 q4) (bN 7 q5) (bN 7 q6) (bN 4 q7) f8 (bN 2 q9) (bH q10) f11 (b2 m12_0 m12_1) (b2 m13_0 m13_1) (b2 m14_0 m14_1) (b2m m15_0 m15_1) f17 (bA 159 q31) f32 f34 f35 f36 f37 (bN 7 q38) f39 f40 f41 (b2 m42_0 m42_1) f43 f44 f47 f48 f49 f50 f51 (bN 13 q54) (bN 120 q55) (bN 120 q56) f57 (bN 120 q58) f59 f60 f64) := hD
  refine lv_aload_n hx hb dX9_bound_5 rfl (lv_at hl 0 rfl) ?_
  refine lv_iload_n hx hb dX9_bound_6 rfl (lv_at hl 1 rfl) ?_
  have hFc := pu_free hD hS hA
  refine va_calli (va_runV (As := [.int p0]) (rest := []) ⟨hx, hb, hml, hown, hts⟩ (c_M_isState l dC dI _ ad ck 0 x16 x18 x19 x20 x21 x22 x23 x24 x25 x26 x27 x28 x29 x30 x33 x45 x46 x52 x53 x61 x62 x63 x65 x66 f1 f2 f3 q4 q5 q6 q7 f8 q9 q10 f11 m12_0 m12_1 m13_0 m13_1 m14_0 m14_1 m15_0 m15_1 f17 q31 f32 f34 f35 f36 f37 q38 f39 f40 f41 m42_0 m42_1 f43 f44 f47 f48 f49 f50 f51 q54 q55 q56 f57 q58 f59 f60 f64 p0 hx16 hx18 hx19 hx21 hx22 hx26 hx28 hx29 hx30 hx33 hx46 hx52 hx53 hx61 hx62 hx63 hx65 hm12_0 hm12_1 hm13_0 hm13_1 hm14_0 hm14_1 hm15_0 hm15_1 hm42_0 hm42_1) (cwV 1 hts g_M_bound_M_isState rfl rfl rfl (by decide +kernel) ⟨Nat.le_of_ble_eq_true rfl, Nat.le_of_ble_eq_true rfl⟩) ⟨pu_bl, va_recv hK hP (ci := 9) (q0 := 0) rfl rfl, pu_in hP hK hD⟩ rfl rfl hl.1 rfl (lv_room (Nat.le_of_ble_eq_true rfl)) dX9_bound_7 ⟨Nat.le_of_ble_eq_true rfl, Nat.le_of_ble_eq_true rfl⟩) hS (fun q _ h => hFc q h) hFc (fun r_1 u t H1 locs ht hvm hw hB hz1 hk1 hS => ?_)
  obtain ⟨z46_2, ⟨hP1, -, hD1⟩, hz46_2⟩ := hB
  rw [ht] at hP1
  have hP := hP1
  have hD := pu_all hFc hD1
  clear hP1 hD1 hFc
  clear hk1 hz1 ht hvm
  generalize H1 = H at hP hS ⊢
  rcases hw with ⟨rfl, hw⟩ | rfl
  · obtain ⟨n_3, hn_3, rfl⟩ := hw
    refine lv_if_eq (tgt := 51) hx hb dX9_bound_10 (by decide) (fun z => absurd z (by decide)) (fun _ => ?_)
    refine lv_iload_n hx hb dX9_bound_13 rfl (lv_at hl 2 rfl) ?_
    refine lv_iconst (v := (-1)) hx hb dX9_bound_14 (by decide) ?_
    refine lv_aload_n hx hb dX9_bound_15 rfl (lv_at hl 0 rfl) ?_
    refine va_calli (va_runV (As := []) (rest := [.int (-1), .int p1]) ⟨hx, hb, hml, hown, hts⟩ (c_M_clocks l dC dI _ ad ck 0 x16 x18 x19 x20 x21 x22 x23 x24 x25 x26 x27 x28 x29 x30 x33 x45 z46_2 x52 x53 x61 x62 x63 x65 x66 f1 f2 f3 q4 q5 q6 q7 f8 q9 q10 f11 m12_0 m12_1 m13_0 m13_1 m14_0 m14_1 m15_0 m15_1 f17 q31 f32 f34 f35 f36 f37 q38 f39 f40 f41 m42_0 m42_1 f43 f44 f47 f48 f49 f50 f51 q54 q55 q56 f57 q58 f59 f60 f64 hx16 hx18 hx19 hx21 hx22 hx26 hx28 hx29 hx30 hx33 (Nat.le_trans hz46_2 (Nat.le_of_ble_eq_true rfl)) hx52 hx53 hx61 hx62 hx63 hx65 hm12_0 hm12_1 hm13_0 hm13_1 hm14_0 hm14_1 hm15_0 hm15_1 hm42_0 hm42_1) (cwV 0 hts g_M_bound_M_clocks rfl rfl rfl (by decide +kernel) ⟨Nat.le_of_ble_eq_true rfl, Nat.le_of_ble_eq_true rfl⟩) ⟨pu_bl, va_recv hK hP (ci := 9) (q0 := 0) rfl rfl, pu_in hP hK hD⟩ rfl rfl hl.1 rfl (lv_room (Nat.le_of_ble_eq_true rfl)) dX9_bound_16 ⟨Nat.le_of_ble_eq_true rfl, Nat.le_of_ble_eq_true rfl⟩) hS (fun q _ h => pu_fr hS hA q h) (pu_fr hS hA) (fun r_4 u t H1 locs ht hvm hw hB hz1 hk1 hS => ?_)
    have hP := pu_keep hP hk1
    clear hk1 hz1 ht hvm
    generalize H1 = H at hP hS ⊢
    obtain ⟨u_5, hu_5, rfl⟩ := hw
    refine lv_iconst (v := 1) hx hb dX9_bound_19 (by decide) ?_
    refine lv_isub hx hb dX9_bound_20 ?_
    refine va_calli (va_runS (As := [.int p1, .int (-1), .int ((nI u_5) - 1)]) (rest := []) ⟨hx, hb, hml, hown, hts⟩ (c_X9_in l dC dI _ p1 (-1) ((nI u_5) - 1)) (va_cwS 3 hts g_M_bound_X9_in rfl rfl rfl (by decide +kernel) ⟨Nat.le_of_ble_eq_true rfl, Nat.le_of_ble_eq_true rfl⟩) ⟨pu_bl, pu_in (hP.sub [] rfl) (hK.sub [] rfl) (hD.sub [] (by decide) rfl)⟩ rfl rfl hl.1 rfl (lv_room (Nat.le_of_ble_eq_true rfl)) dX9_bound_21 ⟨Nat.le_of_ble_eq_true rfl, Nat.le_of_ble_eq_true rfl⟩) hS (fun q _ h => pu_fr hS hA q h) (pu_fr hS hA) (fun r_6 u t H1 locs ht hvm hw hB hz1 hk1 hS => ?_)
    have hP := pu_keep hP hk1
    clear hk1 hz1 ht hvm
    generalize H1 = H at hP hS ⊢
    rcases hw with ⟨rfl, hi1, hi2⟩ | ⟨rfl, hi3⟩
    · rcases pu_inm (n := u_5) (by omega) hi1 hi2 with rfl | ⟨n_7, hn_7, rfl⟩
      · refine lv_if_eq (tgt := 51) hx hb dX9_bound_24 (by decide) (fun z => absurd z (by decide)) (fun _ => ?_)
        refine lv_iload_n hx hb dX9_bound_27 rfl (lv_at hl 3 rfl) ?_
        refine lv_iconst (v := (-1)) hx hb dX9_bound_28 (by decide) ?_
        refine lv_aload_n hx hb dX9_bound_29 rfl (lv_at hl 0 rfl) ?_
        refine va_calli (va_runV (As := []) (rest := [.int (-1), .int p2]) ⟨hx, hb, hml, hown, hts⟩ (c_M_clocks l dC dI _ ad ck 0 x16 x18 x19 x20 x21 x22 x23 x24 x25 x26 x27 x28 x29 x30 x33 x45 z46_2 x52 x53 x61 x62 x63 x65 x66 f1 f2 f3 q4 q5 q6 q7 f8 q9 q10 f11 m12_0 m12_1 m13_0 m13_1 m14_0 m14_1 m15_0 m15_1 f17 q31 f32 f34 f35 f36 f37 q38 f39 f40 f41 m42_0 m42_1 f43 f44 f47 f48 f49 f50 f51 q54 q55 q56 f57 q58 f59 f60 f64 hx16 hx18 hx19 hx21 hx22 hx26 hx28 hx29 hx30 hx33 (Nat.le_trans hz46_2 (Nat.le_of_ble_eq_true rfl)) hx52 hx53 hx61 hx62 hx63 hx65 hm12_0 hm12_1 hm13_0 hm13_1 hm14_0 hm14_1 hm15_0 hm15_1 hm42_0 hm42_1) (cwV 0 hts g_M_bound_M_clocks rfl rfl rfl (by decide +kernel) ⟨Nat.le_of_ble_eq_true rfl, Nat.le_of_ble_eq_true rfl⟩) ⟨pu_bl, va_recv hK hP (ci := 9) (q0 := 0) rfl rfl, pu_in hP hK hD⟩ rfl rfl hl.1 rfl (lv_room (Nat.le_of_ble_eq_true rfl)) dX9_bound_30 ⟨Nat.le_of_ble_eq_true rfl, Nat.le_of_ble_eq_true rfl⟩) hS (fun q _ h => pu_fr hS hA q h) (pu_fr hS hA) (fun r_8 u t H1 locs ht hvm hw hB hz1 hk1 hS => ?_)
        have hP := pu_keep hP hk1
        clear hk1 hz1 ht hvm
        generalize H1 = H at hP hS ⊢
        obtain ⟨u_9, hu_9, rfl⟩ := hw
        refine lv_iconst (v := 1) hx hb dX9_bound_33 (by decide) ?_
        refine lv_isub hx hb dX9_bound_34 ?_
        refine va_calli (va_runS (As := [.int p2, .int (-1), .int ((nI u_9) - 1)]) (rest := []) ⟨hx, hb, hml, hown, hts⟩ (c_X9_in l dC dI _ p2 (-1) ((nI u_9) - 1)) (va_cwS 3 hts g_M_bound_X9_in rfl rfl rfl (by decide +kernel) ⟨Nat.le_of_ble_eq_true rfl, Nat.le_of_ble_eq_true rfl⟩) ⟨pu_bl, pu_in (hP.sub [] rfl) (hK.sub [] rfl) (hD.sub [] (by decide) rfl)⟩ rfl rfl hl.1 rfl (lv_room (Nat.le_of_ble_eq_true rfl)) dX9_bound_35 ⟨Nat.le_of_ble_eq_true rfl, Nat.le_of_ble_eq_true rfl⟩) hS (fun q _ h => pu_fr hS hA q h) (pu_fr hS hA) (fun r_10 u t H1 locs ht hvm hw hB hz1 hk1 hS => ?_)
        have hP := pu_keep hP hk1
        clear hk1 hz1 ht hvm
        generalize H1 = H at hP hS ⊢
        rcases hw with ⟨rfl, hi1, hi2⟩ | ⟨rfl, hi3⟩
        · rcases pu_inm (n := u_9) (by omega) hi1 hi2 with rfl | ⟨n_11, hn_11, rfl⟩
          · refine lv_if_eq (tgt := 51) hx hb dX9_bound_38 (by decide) (fun z => absurd z (by decide)) (fun _ => ?_)
            refine lv_iload hx hb dX9_bound_41 (lv_at hl 4 rfl) ?_
            refine lv_iconst (v := 0) hx hb dX9_bound_43 (by decide) ?_
            refine lv_iconst (v := 1) hx hb dX9_bound_44 (by decide) ?_
            refine va_calli (va_runS (As := [.int p3, .int 0, .int 1]) (rest := []) ⟨hx, hb, hml, hown, hts⟩ (c_X9_in l dC dI _ p3 0 1) (va_cwS 3 hts g_M_bound_X9_in rfl rfl rfl (by decide +kernel) ⟨Nat.le_of_ble_eq_true rfl, Nat.le_of_ble_eq_true rfl⟩) ⟨pu_bl, pu_in (hP.sub [] rfl) (hK.sub [] rfl) (hD.sub [] (by decide) rfl)⟩ rfl rfl hl.1 rfl (lv_room (Nat.le_of_ble_eq_true rfl)) dX9_bound_45 ⟨Nat.le_of_ble_eq_true rfl, Nat.le_of_ble_eq_true rfl⟩) hS (fun q _ h => pu_fr hS hA q h) (pu_fr hS hA) (fun r_12 u t H1 locs ht hvm hw hB hz1 hk1 hS => ?_)
            have hP := pu_keep hP hk1
            clear hk1 hz1 ht hvm
            generalize H1 = H at hP hS ⊢
            rcases hw with ⟨rfl, hi1, hi2⟩ | ⟨rfl, hi3⟩
            · obtain ⟨n_13, hn_13, rfl⟩ := pu_in0 (n := 1) (by omega) hi1 hi2
              refine lv_if_ne (tgt := 55) hx hb dX9_bound_48 (by decide) (fun _ => ?_) (fun z => absurd z (by decide))
              refine lv_aload_n hx hb dX9_bound_55 rfl (lv_at hl 0 rfl) ?_
              refine lv_iload_n hx hb dX9_bound_56 rfl (lv_at hl 1 rfl) ?_
              refine lv_iload_n hx hb dX9_bound_57 rfl (lv_at hl 2 rfl) ?_
              refine lv_iload_n hx hb dX9_bound_58 rfl (lv_at hl 3 rfl) ?_
              refine va_calli (va_runV (As := [.int (nI n_3), .int (-1), .int (-1)]) (rest := []) ⟨hx, hb, hml, hown, hts⟩ (c_M_boundOf_00 l dC dI _ ad ck 0 x16 x18 x19 x20 x21 x22 x23 x24 x25 x26 x27 x28 x29 x30 x33 x45 z46_2 x52 x53 x61 x62 x63 x65 x66 f1 f2 f3 q4 q5 q6 q7 f8 q9 q10 f11 m12_0 m12_1 m13_0 m13_1 m14_0 m14_1 m15_0 m15_1 f17 q31 f32 f34 f35 f36 f37 q38 f39 f40 f41 m42_0 m42_1 f43 f44 f47 f48 f49 f50 f51 q54 q55 q56 f57 q58 f59 f60 f64 n_3 hx16 hx18 hx19 hx21 hx22 hx26 hx28 hx29 hx30 hx33 (Nat.le_trans hz46_2 (Nat.le_of_ble_eq_true rfl)) hx52 hx53 hx61 hx62 hx63 hx65 hm12_0 hm12_1 hm13_0 hm13_1 hm14_0 hm14_1 hm15_0 hm15_1 hm42_0 hm42_1 (by omega)) (cwV 3 hts g_M_bound_M_boundOf_00 rfl rfl rfl (by decide +kernel) ⟨Nat.le_of_ble_eq_true rfl, Nat.le_of_ble_eq_true rfl⟩) ⟨pu_bl, va_recv hK hP (ci := 9) (q0 := 0) rfl rfl, pu_in hP hK hD⟩ rfl rfl hl.1 rfl (lv_room (Nat.le_of_ble_eq_true rfl)) dX9_bound_59 ⟨Nat.le_of_ble_eq_true rfl, Nat.le_of_ble_eq_true rfl⟩) hS (fun q _ h => pu_fr hS hA q h) (pu_fr hS hA) (fun r_14 u t H1 locs ht hvm hw hB hz1 hk1 hS => ?_)
              have hP := pu_keep hP hk1
              clear hk1 hz1 ht hvm
              generalize H1 = H at hP hS ⊢
              refine lv_istore (lv' := [(5, .int r_14), (0, .ref (ad 0)), (1, .int (nI n_3)), (2, .int (-1)), (3, .int (-1)), (4, .int (nI n_13))]) hx hb dX9_bound_62 hl (by decide) rfl (fun ls hl => ?_)
              refine lv_iload hx hb dX9_bound_64 (lv_at hl 0 rfl) ?_
              refine lv_ldcw hx hb hown v_18 dX9_bound_66 ?_
              refine lv_icmp_lt (tgt := 78) hx hb dX9_bound_69 (by decide) (fun c_15 => ?_) (fun c_15 => ?_)
              · refine lv_iload hx hb dX9_bound_78 (lv_at hl 5 rfl) ?_
                refine lv_if_ne (tgt := 90) hx hb dX9_bound_80 (by decide) (fun c_16 => ?_) (fun c_16 => ?_)
                · have c_16 : ¬ n_13 = 0 := fun z => c_16 ((nI_eq (a := n_13) (b := 0) (by omega) (Nat.le_of_ble_eq_true rfl)).mpr z)
                  refine lv_iload hx hb dX9_bound_90 (lv_at hl 0 rfl) ?_
                  refine lv_iconst (v := 1) hx hb dX9_bound_92 (by decide) ?_
                  refine lv_iand hx hb dX9_bound_93 ?_
                  refine lv_topi (fun y_17 ey_17 => ?_)
                  exact W.iret (v := y_17) hx hb hr (fun t ht hW => ⟨⟨y_17, (), rfl, trivial, ⟨0, z46_2, ⟨by rw [ht]; exact hP, va_K.moved hW.alike hK, hD⟩, (Nat.le_trans hz46_2 (Nat.le_of_ble_eq_true rfl))⟩⟩, hS.F ht⟩) hS.2.2 dX9_bound_94
                · have c_16 : n_13 = 0 := (nI_eq (a := n_13) (b := 0) (by omega) (Nat.le_of_ble_eq_true rfl)).mp c_16
                  refine lv_iload hx hb dX9_bound_83 (lv_at hl 0 rfl) ?_
                  refine lv_iconst (v := 1) hx hb dX9_bound_85 (by decide) ?_
                  refine lv_ishr hx hb dX9_bound_86 ?_
                  refine lv_topi (fun y_18 ey_18 => ?_)
                  refine lv_goto (tgt := 94) hx hb dX9_bound_87 (by decide) ?_
                  exact W.iret (v := y_18) hx hb hr (fun t ht hW => ⟨⟨y_18, (), rfl, trivial, ⟨0, z46_2, ⟨by rw [ht]; exact hP, va_K.moved hW.alike hK, hD⟩, (Nat.le_trans hz46_2 (Nat.le_of_ble_eq_true rfl))⟩⟩, hS.F ht⟩) hS.2.2 dX9_bound_94
              · refine lv_ldcw hx hb hown v_19 dX9_bound_72 ?_
                refine lv_goto (tgt := 94) hx hb dX9_bound_75 (by decide) ?_
                exact W.iret (v := 2147483647) hx hb hr (fun t ht hW => ⟨⟨2147483647, (), rfl, trivial, ⟨0, z46_2, ⟨by rw [ht]; exact hP, va_K.moved hW.alike hK, hD⟩, (Nat.le_trans hz46_2 (Nat.le_of_ble_eq_true rfl))⟩⟩, hS.F ht⟩) hS.2.2 dX9_bound_94
            · refine lv_if_ne (tgt := 55) hx hb dX9_bound_48 (by decide) (fun z => absurd z (by decide)) (fun _ => ?_)
              refine lv_ldcw hx hb hown v_20 dX9_bound_51 ?_
              exact W.iret (v := (-2147483648)) hx hb hr (fun t ht hW => ⟨⟨(-2147483648), (), rfl, trivial, ⟨0, z46_2, ⟨by rw [ht]; exact hP, va_K.moved hW.alike hK, hD⟩, (Nat.le_trans hz46_2 (Nat.le_of_ble_eq_true rfl))⟩⟩, hS.F ht⟩) hS.2.2 dX9_bound_54
          · refine lv_if_eq (tgt := 51) hx hb dX9_bound_38 (by decide) (fun z => absurd z (by decide)) (fun _ => ?_)
            refine lv_iload hx hb dX9_bound_41 (lv_at hl 4 rfl) ?_
            refine lv_iconst (v := 0) hx hb dX9_bound_43 (by decide) ?_
            refine lv_iconst (v := 1) hx hb dX9_bound_44 (by decide) ?_
            refine va_calli (va_runS (As := [.int p3, .int 0, .int 1]) (rest := []) ⟨hx, hb, hml, hown, hts⟩ (c_X9_in l dC dI _ p3 0 1) (va_cwS 3 hts g_M_bound_X9_in rfl rfl rfl (by decide +kernel) ⟨Nat.le_of_ble_eq_true rfl, Nat.le_of_ble_eq_true rfl⟩) ⟨pu_bl, pu_in (hP.sub [] rfl) (hK.sub [] rfl) (hD.sub [] (by decide) rfl)⟩ rfl rfl hl.1 rfl (lv_room (Nat.le_of_ble_eq_true rfl)) dX9_bound_45 ⟨Nat.le_of_ble_eq_true rfl, Nat.le_of_ble_eq_true rfl⟩) hS (fun q _ h => pu_fr hS hA q h) (pu_fr hS hA) (fun r_19 u t H1 locs ht hvm hw hB hz1 hk1 hS => ?_)
            have hP := pu_keep hP hk1
            clear hk1 hz1 ht hvm
            generalize H1 = H at hP hS ⊢
            rcases hw with ⟨rfl, hi1, hi2⟩ | ⟨rfl, hi3⟩
            · obtain ⟨n_20, hn_20, rfl⟩ := pu_in0 (n := 1) (by omega) hi1 hi2
              refine lv_if_ne (tgt := 55) hx hb dX9_bound_48 (by decide) (fun _ => ?_) (fun z => absurd z (by decide))
              refine lv_aload_n hx hb dX9_bound_55 rfl (lv_at hl 0 rfl) ?_
              refine lv_iload_n hx hb dX9_bound_56 rfl (lv_at hl 1 rfl) ?_
              refine lv_iload_n hx hb dX9_bound_57 rfl (lv_at hl 2 rfl) ?_
              refine lv_iload_n hx hb dX9_bound_58 rfl (lv_at hl 3 rfl) ?_
              refine va_calli (va_runV (As := [.int (nI n_3), .int (-1), .int (nI n_11)]) (rest := []) ⟨hx, hb, hml, hown, hts⟩ (c_M_boundOf_01 l dC dI _ ad ck 0 x16 x18 x19 x20 x21 x22 x23 x24 x25 x26 x27 x28 x29 x30 x33 x45 z46_2 x52 x53 x61 x62 x63 x65 x66 f1 f2 f3 q4 q5 q6 q7 f8 q9 q10 f11 m12_0 m12_1 m13_0 m13_1 m14_0 m14_1 m15_0 m15_1 f17 q31 f32 f34 f35 f36 f37 q38 f39 f40 f41 m42_0 m42_1 f43 f44 f47 f48 f49 f50 f51 q54 q55 q56 f57 q58 f59 f60 f64 n_3 n_11 hx16 hx18 hx19 hx21 hx22 hx26 hx28 hx29 hx30 hx33 (Nat.le_trans hz46_2 (Nat.le_of_ble_eq_true rfl)) hx52 hx53 hx61 hx62 hx63 hx65 hm12_0 hm12_1 hm13_0 hm13_1 hm14_0 hm14_1 hm15_0 hm15_1 hm42_0 hm42_1 (by omega) (by omega)) (cwV 3 hts g_M_bound_M_boundOf_01 rfl rfl rfl (by decide +kernel) ⟨Nat.le_of_ble_eq_true rfl, Nat.le_of_ble_eq_true rfl⟩) ⟨pu_bl, va_recv hK hP (ci := 9) (q0 := 0) rfl rfl, pu_in hP hK hD⟩ rfl rfl hl.1 rfl (lv_room (Nat.le_of_ble_eq_true rfl)) dX9_bound_59 ⟨Nat.le_of_ble_eq_true rfl, Nat.le_of_ble_eq_true rfl⟩) hS (fun q _ h => pu_fr hS hA q h) (pu_fr hS hA) (fun r_21 u t H1 locs ht hvm hw hB hz1 hk1 hS => ?_)
              have hP := pu_keep hP hk1
              clear hk1 hz1 ht hvm
              generalize H1 = H at hP hS ⊢
              refine lv_istore (lv' := [(5, .int r_21), (0, .ref (ad 0)), (1, .int (nI n_3)), (2, .int (-1)), (3, .int (nI n_11)), (4, .int (nI n_20))]) hx hb dX9_bound_62 hl (by decide) rfl (fun ls hl => ?_)
              refine lv_iload hx hb dX9_bound_64 (lv_at hl 0 rfl) ?_
              refine lv_ldcw hx hb hown v_18 dX9_bound_66 ?_
              refine lv_icmp_lt (tgt := 78) hx hb dX9_bound_69 (by decide) (fun c_22 => ?_) (fun c_22 => ?_)
              · refine lv_iload hx hb dX9_bound_78 (lv_at hl 5 rfl) ?_
                refine lv_if_ne (tgt := 90) hx hb dX9_bound_80 (by decide) (fun c_23 => ?_) (fun c_23 => ?_)
                · have c_23 : ¬ n_20 = 0 := fun z => c_23 ((nI_eq (a := n_20) (b := 0) (by omega) (Nat.le_of_ble_eq_true rfl)).mpr z)
                  refine lv_iload hx hb dX9_bound_90 (lv_at hl 0 rfl) ?_
                  refine lv_iconst (v := 1) hx hb dX9_bound_92 (by decide) ?_
                  refine lv_iand hx hb dX9_bound_93 ?_
                  refine lv_topi (fun y_24 ey_24 => ?_)
                  exact W.iret (v := y_24) hx hb hr (fun t ht hW => ⟨⟨y_24, (), rfl, trivial, ⟨0, z46_2, ⟨by rw [ht]; exact hP, va_K.moved hW.alike hK, hD⟩, (Nat.le_trans hz46_2 (Nat.le_of_ble_eq_true rfl))⟩⟩, hS.F ht⟩) hS.2.2 dX9_bound_94
                · have c_23 : n_20 = 0 := (nI_eq (a := n_20) (b := 0) (by omega) (Nat.le_of_ble_eq_true rfl)).mp c_23
                  refine lv_iload hx hb dX9_bound_83 (lv_at hl 0 rfl) ?_
                  refine lv_iconst (v := 1) hx hb dX9_bound_85 (by decide) ?_
                  refine lv_ishr hx hb dX9_bound_86 ?_
                  refine lv_topi (fun y_25 ey_25 => ?_)
                  refine lv_goto (tgt := 94) hx hb dX9_bound_87 (by decide) ?_
                  exact W.iret (v := y_25) hx hb hr (fun t ht hW => ⟨⟨y_25, (), rfl, trivial, ⟨0, z46_2, ⟨by rw [ht]; exact hP, va_K.moved hW.alike hK, hD⟩, (Nat.le_trans hz46_2 (Nat.le_of_ble_eq_true rfl))⟩⟩, hS.F ht⟩) hS.2.2 dX9_bound_94
              · refine lv_ldcw hx hb hown v_19 dX9_bound_72 ?_
                refine lv_goto (tgt := 94) hx hb dX9_bound_75 (by decide) ?_
                exact W.iret (v := 2147483647) hx hb hr (fun t ht hW => ⟨⟨2147483647, (), rfl, trivial, ⟨0, z46_2, ⟨by rw [ht]; exact hP, va_K.moved hW.alike hK, hD⟩, (Nat.le_trans hz46_2 (Nat.le_of_ble_eq_true rfl))⟩⟩, hS.F ht⟩) hS.2.2 dX9_bound_94
            · refine lv_if_ne (tgt := 55) hx hb dX9_bound_48 (by decide) (fun z => absurd z (by decide)) (fun _ => ?_)
              refine lv_ldcw hx hb hown v_20 dX9_bound_51 ?_
              exact W.iret (v := (-2147483648)) hx hb hr (fun t ht hW => ⟨⟨(-2147483648), (), rfl, trivial, ⟨0, z46_2, ⟨by rw [ht]; exact hP, va_K.moved hW.alike hK, hD⟩, (Nat.le_trans hz46_2 (Nat.le_of_ble_eq_true rfl))⟩⟩, hS.F ht⟩) hS.2.2 dX9_bound_54
        · refine lv_if_eq (tgt := 51) hx hb dX9_bound_38 (by decide) (fun _ => ?_) (fun z => absurd z (by decide))
          refine lv_ldcw hx hb hown v_20 dX9_bound_51 ?_
          exact W.iret (v := (-2147483648)) hx hb hr (fun t ht hW => ⟨⟨(-2147483648), (), rfl, trivial, ⟨0, z46_2, ⟨by rw [ht]; exact hP, va_K.moved hW.alike hK, hD⟩, (Nat.le_trans hz46_2 (Nat.le_of_ble_eq_true rfl))⟩⟩, hS.F ht⟩) hS.2.2 dX9_bound_54
      · refine lv_if_eq (tgt := 51) hx hb dX9_bound_24 (by decide) (fun z => absurd z (by decide)) (fun _ => ?_)
        refine lv_iload_n hx hb dX9_bound_27 rfl (lv_at hl 3 rfl) ?_
        refine lv_iconst (v := (-1)) hx hb dX9_bound_28 (by decide) ?_
        refine lv_aload_n hx hb dX9_bound_29 rfl (lv_at hl 0 rfl) ?_
        refine va_calli (va_runV (As := []) (rest := [.int (-1), .int p2]) ⟨hx, hb, hml, hown, hts⟩ (c_M_clocks l dC dI _ ad ck 0 x16 x18 x19 x20 x21 x22 x23 x24 x25 x26 x27 x28 x29 x30 x33 x45 z46_2 x52 x53 x61 x62 x63 x65 x66 f1 f2 f3 q4 q5 q6 q7 f8 q9 q10 f11 m12_0 m12_1 m13_0 m13_1 m14_0 m14_1 m15_0 m15_1 f17 q31 f32 f34 f35 f36 f37 q38 f39 f40 f41 m42_0 m42_1 f43 f44 f47 f48 f49 f50 f51 q54 q55 q56 f57 q58 f59 f60 f64 hx16 hx18 hx19 hx21 hx22 hx26 hx28 hx29 hx30 hx33 (Nat.le_trans hz46_2 (Nat.le_of_ble_eq_true rfl)) hx52 hx53 hx61 hx62 hx63 hx65 hm12_0 hm12_1 hm13_0 hm13_1 hm14_0 hm14_1 hm15_0 hm15_1 hm42_0 hm42_1) (cwV 0 hts g_M_bound_M_clocks rfl rfl rfl (by decide +kernel) ⟨Nat.le_of_ble_eq_true rfl, Nat.le_of_ble_eq_true rfl⟩) ⟨pu_bl, va_recv hK hP (ci := 9) (q0 := 0) rfl rfl, pu_in hP hK hD⟩ rfl rfl hl.1 rfl (lv_room (Nat.le_of_ble_eq_true rfl)) dX9_bound_30 ⟨Nat.le_of_ble_eq_true rfl, Nat.le_of_ble_eq_true rfl⟩) hS (fun q _ h => pu_fr hS hA q h) (pu_fr hS hA) (fun r_26 u t H1 locs ht hvm hw hB hz1 hk1 hS => ?_)
        have hP := pu_keep hP hk1
        clear hk1 hz1 ht hvm
        generalize H1 = H at hP hS ⊢
        obtain ⟨u_27, hu_27, rfl⟩ := hw
        refine lv_iconst (v := 1) hx hb dX9_bound_33 (by decide) ?_
        refine lv_isub hx hb dX9_bound_34 ?_
        refine va_calli (va_runS (As := [.int p2, .int (-1), .int ((nI u_27) - 1)]) (rest := []) ⟨hx, hb, hml, hown, hts⟩ (c_X9_in l dC dI _ p2 (-1) ((nI u_27) - 1)) (va_cwS 3 hts g_M_bound_X9_in rfl rfl rfl (by decide +kernel) ⟨Nat.le_of_ble_eq_true rfl, Nat.le_of_ble_eq_true rfl⟩) ⟨pu_bl, pu_in (hP.sub [] rfl) (hK.sub [] rfl) (hD.sub [] (by decide) rfl)⟩ rfl rfl hl.1 rfl (lv_room (Nat.le_of_ble_eq_true rfl)) dX9_bound_35 ⟨Nat.le_of_ble_eq_true rfl, Nat.le_of_ble_eq_true rfl⟩) hS (fun q _ h => pu_fr hS hA q h) (pu_fr hS hA) (fun r_28 u t H1 locs ht hvm hw hB hz1 hk1 hS => ?_)
        have hP := pu_keep hP hk1
        clear hk1 hz1 ht hvm
        generalize H1 = H at hP hS ⊢
        rcases hw with ⟨rfl, hi1, hi2⟩ | ⟨rfl, hi3⟩
        · rcases pu_inm (n := u_27) (by omega) hi1 hi2 with rfl | ⟨n_29, hn_29, rfl⟩
          · refine lv_if_eq (tgt := 51) hx hb dX9_bound_38 (by decide) (fun z => absurd z (by decide)) (fun _ => ?_)
            refine lv_iload hx hb dX9_bound_41 (lv_at hl 4 rfl) ?_
            refine lv_iconst (v := 0) hx hb dX9_bound_43 (by decide) ?_
            refine lv_iconst (v := 1) hx hb dX9_bound_44 (by decide) ?_
            refine va_calli (va_runS (As := [.int p3, .int 0, .int 1]) (rest := []) ⟨hx, hb, hml, hown, hts⟩ (c_X9_in l dC dI _ p3 0 1) (va_cwS 3 hts g_M_bound_X9_in rfl rfl rfl (by decide +kernel) ⟨Nat.le_of_ble_eq_true rfl, Nat.le_of_ble_eq_true rfl⟩) ⟨pu_bl, pu_in (hP.sub [] rfl) (hK.sub [] rfl) (hD.sub [] (by decide) rfl)⟩ rfl rfl hl.1 rfl (lv_room (Nat.le_of_ble_eq_true rfl)) dX9_bound_45 ⟨Nat.le_of_ble_eq_true rfl, Nat.le_of_ble_eq_true rfl⟩) hS (fun q _ h => pu_fr hS hA q h) (pu_fr hS hA) (fun r_30 u t H1 locs ht hvm hw hB hz1 hk1 hS => ?_)
            have hP := pu_keep hP hk1
            clear hk1 hz1 ht hvm
            generalize H1 = H at hP hS ⊢
            rcases hw with ⟨rfl, hi1, hi2⟩ | ⟨rfl, hi3⟩
            · obtain ⟨n_31, hn_31, rfl⟩ := pu_in0 (n := 1) (by omega) hi1 hi2
              refine lv_if_ne (tgt := 55) hx hb dX9_bound_48 (by decide) (fun _ => ?_) (fun z => absurd z (by decide))
              refine lv_aload_n hx hb dX9_bound_55 rfl (lv_at hl 0 rfl) ?_
              refine lv_iload_n hx hb dX9_bound_56 rfl (lv_at hl 1 rfl) ?_
              refine lv_iload_n hx hb dX9_bound_57 rfl (lv_at hl 2 rfl) ?_
              refine lv_iload_n hx hb dX9_bound_58 rfl (lv_at hl 3 rfl) ?_
              refine va_calli (va_runV (As := [.int (nI n_3), .int (nI n_7), .int (-1)]) (rest := []) ⟨hx, hb, hml, hown, hts⟩ (c_M_boundOf_10 l dC dI _ ad ck 0 x16 x18 x19 x20 x21 x22 x23 x24 x25 x26 x27 x28 x29 x30 x33 x45 z46_2 x52 x53 x61 x62 x63 x65 x66 f1 f2 f3 q4 q5 q6 q7 f8 q9 q10 f11 m12_0 m12_1 m13_0 m13_1 m14_0 m14_1 m15_0 m15_1 f17 q31 f32 f34 f35 f36 f37 q38 f39 f40 f41 m42_0 m42_1 f43 f44 f47 f48 f49 f50 f51 q54 q55 q56 f57 q58 f59 f60 f64 n_3 n_7 hx16 hx18 hx19 hx21 hx22 hx26 hx28 hx29 hx30 hx33 (Nat.le_trans hz46_2 (Nat.le_of_ble_eq_true rfl)) hx52 hx53 hx61 hx62 hx63 hx65 hm12_0 hm12_1 hm13_0 hm13_1 hm14_0 hm14_1 hm15_0 hm15_1 hm42_0 hm42_1 (by omega) (by omega)) (cwV 3 hts g_M_bound_M_boundOf_10 rfl rfl rfl (by decide +kernel) ⟨Nat.le_of_ble_eq_true rfl, Nat.le_of_ble_eq_true rfl⟩) ⟨pu_bl, va_recv hK hP (ci := 9) (q0 := 0) rfl rfl, pu_in hP hK hD⟩ rfl rfl hl.1 rfl (lv_room (Nat.le_of_ble_eq_true rfl)) dX9_bound_59 ⟨Nat.le_of_ble_eq_true rfl, Nat.le_of_ble_eq_true rfl⟩) hS (fun q _ h => pu_fr hS hA q h) (pu_fr hS hA) (fun r_32 u t H1 locs ht hvm hw hB hz1 hk1 hS => ?_)
              have hP := pu_keep hP hk1
              clear hk1 hz1 ht hvm
              generalize H1 = H at hP hS ⊢
              refine lv_istore (lv' := [(5, .int r_32), (0, .ref (ad 0)), (1, .int (nI n_3)), (2, .int (nI n_7)), (3, .int (-1)), (4, .int (nI n_31))]) hx hb dX9_bound_62 hl (by decide) rfl (fun ls hl => ?_)
              refine lv_iload hx hb dX9_bound_64 (lv_at hl 0 rfl) ?_
              refine lv_ldcw hx hb hown v_18 dX9_bound_66 ?_
              refine lv_icmp_lt (tgt := 78) hx hb dX9_bound_69 (by decide) (fun c_33 => ?_) (fun c_33 => ?_)
              · refine lv_iload hx hb dX9_bound_78 (lv_at hl 5 rfl) ?_
                refine lv_if_ne (tgt := 90) hx hb dX9_bound_80 (by decide) (fun c_34 => ?_) (fun c_34 => ?_)
                · have c_34 : ¬ n_31 = 0 := fun z => c_34 ((nI_eq (a := n_31) (b := 0) (by omega) (Nat.le_of_ble_eq_true rfl)).mpr z)
                  refine lv_iload hx hb dX9_bound_90 (lv_at hl 0 rfl) ?_
                  refine lv_iconst (v := 1) hx hb dX9_bound_92 (by decide) ?_
                  refine lv_iand hx hb dX9_bound_93 ?_
                  refine lv_topi (fun y_35 ey_35 => ?_)
                  exact W.iret (v := y_35) hx hb hr (fun t ht hW => ⟨⟨y_35, (), rfl, trivial, ⟨0, z46_2, ⟨by rw [ht]; exact hP, va_K.moved hW.alike hK, hD⟩, (Nat.le_trans hz46_2 (Nat.le_of_ble_eq_true rfl))⟩⟩, hS.F ht⟩) hS.2.2 dX9_bound_94
                · have c_34 : n_31 = 0 := (nI_eq (a := n_31) (b := 0) (by omega) (Nat.le_of_ble_eq_true rfl)).mp c_34
                  refine lv_iload hx hb dX9_bound_83 (lv_at hl 0 rfl) ?_
                  refine lv_iconst (v := 1) hx hb dX9_bound_85 (by decide) ?_
                  refine lv_ishr hx hb dX9_bound_86 ?_
                  refine lv_topi (fun y_36 ey_36 => ?_)
                  refine lv_goto (tgt := 94) hx hb dX9_bound_87 (by decide) ?_
                  exact W.iret (v := y_36) hx hb hr (fun t ht hW => ⟨⟨y_36, (), rfl, trivial, ⟨0, z46_2, ⟨by rw [ht]; exact hP, va_K.moved hW.alike hK, hD⟩, (Nat.le_trans hz46_2 (Nat.le_of_ble_eq_true rfl))⟩⟩, hS.F ht⟩) hS.2.2 dX9_bound_94
              · refine lv_ldcw hx hb hown v_19 dX9_bound_72 ?_
                refine lv_goto (tgt := 94) hx hb dX9_bound_75 (by decide) ?_
                exact W.iret (v := 2147483647) hx hb hr (fun t ht hW => ⟨⟨2147483647, (), rfl, trivial, ⟨0, z46_2, ⟨by rw [ht]; exact hP, va_K.moved hW.alike hK, hD⟩, (Nat.le_trans hz46_2 (Nat.le_of_ble_eq_true rfl))⟩⟩, hS.F ht⟩) hS.2.2 dX9_bound_94
            · refine lv_if_ne (tgt := 55) hx hb dX9_bound_48 (by decide) (fun z => absurd z (by decide)) (fun _ => ?_)
              refine lv_ldcw hx hb hown v_20 dX9_bound_51 ?_
              exact W.iret (v := (-2147483648)) hx hb hr (fun t ht hW => ⟨⟨(-2147483648), (), rfl, trivial, ⟨0, z46_2, ⟨by rw [ht]; exact hP, va_K.moved hW.alike hK, hD⟩, (Nat.le_trans hz46_2 (Nat.le_of_ble_eq_true rfl))⟩⟩, hS.F ht⟩) hS.2.2 dX9_bound_54
          · refine lv_if_eq (tgt := 51) hx hb dX9_bound_38 (by decide) (fun z => absurd z (by decide)) (fun _ => ?_)
            refine lv_iload hx hb dX9_bound_41 (lv_at hl 4 rfl) ?_
            refine lv_iconst (v := 0) hx hb dX9_bound_43 (by decide) ?_
            refine lv_iconst (v := 1) hx hb dX9_bound_44 (by decide) ?_
            refine va_calli (va_runS (As := [.int p3, .int 0, .int 1]) (rest := []) ⟨hx, hb, hml, hown, hts⟩ (c_X9_in l dC dI _ p3 0 1) (va_cwS 3 hts g_M_bound_X9_in rfl rfl rfl (by decide +kernel) ⟨Nat.le_of_ble_eq_true rfl, Nat.le_of_ble_eq_true rfl⟩) ⟨pu_bl, pu_in (hP.sub [] rfl) (hK.sub [] rfl) (hD.sub [] (by decide) rfl)⟩ rfl rfl hl.1 rfl (lv_room (Nat.le_of_ble_eq_true rfl)) dX9_bound_45 ⟨Nat.le_of_ble_eq_true rfl, Nat.le_of_ble_eq_true rfl⟩) hS (fun q _ h => pu_fr hS hA q h) (pu_fr hS hA) (fun r_37 u t H1 locs ht hvm hw hB hz1 hk1 hS => ?_)
            have hP := pu_keep hP hk1
            clear hk1 hz1 ht hvm
            generalize H1 = H at hP hS ⊢
            rcases hw with ⟨rfl, hi1, hi2⟩ | ⟨rfl, hi3⟩
            · obtain ⟨n_38, hn_38, rfl⟩ := pu_in0 (n := 1) (by omega) hi1 hi2
              refine lv_if_ne (tgt := 55) hx hb dX9_bound_48 (by decide) (fun _ => ?_) (fun z => absurd z (by decide))
              refine lv_aload_n hx hb dX9_bound_55 rfl (lv_at hl 0 rfl) ?_
              refine lv_iload_n hx hb dX9_bound_56 rfl (lv_at hl 1 rfl) ?_
              refine lv_iload_n hx hb dX9_bound_57 rfl (lv_at hl 2 rfl) ?_
              refine lv_iload_n hx hb dX9_bound_58 rfl (lv_at hl 3 rfl) ?_
              refine va_calli (va_runV (As := [.int (nI n_3), .int (nI n_7), .int (nI n_29)]) (rest := []) ⟨hx, hb, hml, hown, hts⟩ (c_M_boundOf_11 l dC dI _ ad ck 0 x16 x18 x19 x20 x21 x22 x23 x24 x25 x26 x27 x28 x29 x30 x33 x45 z46_2 x52 x53 x61 x62 x63 x65 x66 f1 f2 f3 q4 q5 q6 q7 f8 q9 q10 f11 m12_0 m12_1 m13_0 m13_1 m14_0 m14_1 m15_0 m15_1 f17 q31 f32 f34 f35 f36 f37 q38 f39 f40 f41 m42_0 m42_1 f43 f44 f47 f48 f49 f50 f51 q54 q55 q56 f57 q58 f59 f60 f64 n_3 n_7 n_29 hx16 hx18 hx19 hx21 hx22 hx26 hx28 hx29 hx30 hx33 (Nat.le_trans hz46_2 (Nat.le_of_ble_eq_true rfl)) hx52 hx53 hx61 hx62 hx63 hx65 hm12_0 hm12_1 hm13_0 hm13_1 hm14_0 hm14_1 hm15_0 hm15_1 hm42_0 hm42_1 (by omega) (by omega) (by omega)) (cwV 3 hts g_M_bound_M_boundOf_11 rfl rfl rfl (by decide +kernel) ⟨Nat.le_of_ble_eq_true rfl, Nat.le_of_ble_eq_true rfl⟩) ⟨pu_bl, va_recv hK hP (ci := 9) (q0 := 0) rfl rfl, pu_in hP hK hD⟩ rfl rfl hl.1 rfl (lv_room (Nat.le_of_ble_eq_true rfl)) dX9_bound_59 ⟨Nat.le_of_ble_eq_true rfl, Nat.le_of_ble_eq_true rfl⟩) hS (fun q _ h => pu_fr hS hA q h) (pu_fr hS hA) (fun r_39 u t H1 locs ht hvm hw hB hz1 hk1 hS => ?_)
              have hP := pu_keep hP hk1
              clear hk1 hz1 ht hvm
              generalize H1 = H at hP hS ⊢
              refine lv_istore (lv' := [(5, .int r_39), (0, .ref (ad 0)), (1, .int (nI n_3)), (2, .int (nI n_7)), (3, .int (nI n_29)), (4, .int (nI n_38))]) hx hb dX9_bound_62 hl (by decide) rfl (fun ls hl => ?_)
              refine lv_iload hx hb dX9_bound_64 (lv_at hl 0 rfl) ?_
              refine lv_ldcw hx hb hown v_18 dX9_bound_66 ?_
              refine lv_icmp_lt (tgt := 78) hx hb dX9_bound_69 (by decide) (fun c_40 => ?_) (fun c_40 => ?_)
              · refine lv_iload hx hb dX9_bound_78 (lv_at hl 5 rfl) ?_
                refine lv_if_ne (tgt := 90) hx hb dX9_bound_80 (by decide) (fun c_41 => ?_) (fun c_41 => ?_)
                · have c_41 : ¬ n_38 = 0 := fun z => c_41 ((nI_eq (a := n_38) (b := 0) (by omega) (Nat.le_of_ble_eq_true rfl)).mpr z)
                  refine lv_iload hx hb dX9_bound_90 (lv_at hl 0 rfl) ?_
                  refine lv_iconst (v := 1) hx hb dX9_bound_92 (by decide) ?_
                  refine lv_iand hx hb dX9_bound_93 ?_
                  refine lv_topi (fun y_42 ey_42 => ?_)
                  exact W.iret (v := y_42) hx hb hr (fun t ht hW => ⟨⟨y_42, (), rfl, trivial, ⟨0, z46_2, ⟨by rw [ht]; exact hP, va_K.moved hW.alike hK, hD⟩, (Nat.le_trans hz46_2 (Nat.le_of_ble_eq_true rfl))⟩⟩, hS.F ht⟩) hS.2.2 dX9_bound_94
                · have c_41 : n_38 = 0 := (nI_eq (a := n_38) (b := 0) (by omega) (Nat.le_of_ble_eq_true rfl)).mp c_41
                  refine lv_iload hx hb dX9_bound_83 (lv_at hl 0 rfl) ?_
                  refine lv_iconst (v := 1) hx hb dX9_bound_85 (by decide) ?_
                  refine lv_ishr hx hb dX9_bound_86 ?_
                  refine lv_topi (fun y_43 ey_43 => ?_)
                  refine lv_goto (tgt := 94) hx hb dX9_bound_87 (by decide) ?_
                  exact W.iret (v := y_43) hx hb hr (fun t ht hW => ⟨⟨y_43, (), rfl, trivial, ⟨0, z46_2, ⟨by rw [ht]; exact hP, va_K.moved hW.alike hK, hD⟩, (Nat.le_trans hz46_2 (Nat.le_of_ble_eq_true rfl))⟩⟩, hS.F ht⟩) hS.2.2 dX9_bound_94
              · refine lv_ldcw hx hb hown v_19 dX9_bound_72 ?_
                refine lv_goto (tgt := 94) hx hb dX9_bound_75 (by decide) ?_
                exact W.iret (v := 2147483647) hx hb hr (fun t ht hW => ⟨⟨2147483647, (), rfl, trivial, ⟨0, z46_2, ⟨by rw [ht]; exact hP, va_K.moved hW.alike hK, hD⟩, (Nat.le_trans hz46_2 (Nat.le_of_ble_eq_true rfl))⟩⟩, hS.F ht⟩) hS.2.2 dX9_bound_94
            · refine lv_if_ne (tgt := 55) hx hb dX9_bound_48 (by decide) (fun z => absurd z (by decide)) (fun _ => ?_)
              refine lv_ldcw hx hb hown v_20 dX9_bound_51 ?_
              exact W.iret (v := (-2147483648)) hx hb hr (fun t ht hW => ⟨⟨(-2147483648), (), rfl, trivial, ⟨0, z46_2, ⟨by rw [ht]; exact hP, va_K.moved hW.alike hK, hD⟩, (Nat.le_trans hz46_2 (Nat.le_of_ble_eq_true rfl))⟩⟩, hS.F ht⟩) hS.2.2 dX9_bound_54
        · refine lv_if_eq (tgt := 51) hx hb dX9_bound_38 (by decide) (fun _ => ?_) (fun z => absurd z (by decide))
          refine lv_ldcw hx hb hown v_20 dX9_bound_51 ?_
          exact W.iret (v := (-2147483648)) hx hb hr (fun t ht hW => ⟨⟨(-2147483648), (), rfl, trivial, ⟨0, z46_2, ⟨by rw [ht]; exact hP, va_K.moved hW.alike hK, hD⟩, (Nat.le_trans hz46_2 (Nat.le_of_ble_eq_true rfl))⟩⟩, hS.F ht⟩) hS.2.2 dX9_bound_54
    · refine lv_if_eq (tgt := 51) hx hb dX9_bound_24 (by decide) (fun _ => ?_) (fun z => absurd z (by decide))
      refine lv_ldcw hx hb hown v_20 dX9_bound_51 ?_
      exact W.iret (v := (-2147483648)) hx hb hr (fun t ht hW => ⟨⟨(-2147483648), (), rfl, trivial, ⟨0, z46_2, ⟨by rw [ht]; exact hP, va_K.moved hW.alike hK, hD⟩, (Nat.le_trans hz46_2 (Nat.le_of_ble_eq_true rfl))⟩⟩, hS.F ht⟩) hS.2.2 dX9_bound_54
  · refine lv_if_eq (tgt := 51) hx hb dX9_bound_10 (by decide) (fun _ => ?_) (fun z => absurd z (by decide))
    refine lv_ldcw hx hb hown v_20 dX9_bound_51 ?_
    exact W.iret (v := (-2147483648)) hx hb hr (fun t ht hW => ⟨⟨(-2147483648), (), rfl, trivial, ⟨0, z46_2, ⟨by rw [ht]; exact hP, va_K.moved hW.alike hK, hD⟩, (Nat.le_trans hz46_2 (Nat.le_of_ble_eq_true rfl))⟩⟩, hS.F ht⟩) hS.2.2 dX9_bound_54
theorem dX9_within_0 : decode cX9_within 0 = .ok (.aload_n 0, 1) := by decide +kernel
theorem dX9_within_1 : decode cX9_within 1 = .ok (.iconst 0, 1) := by decide +kernel
theorem dX9_within_2 : decode cX9_within 2 = .ok (.putfield 142, 3) := by decide +kernel
theorem dX9_within_5 : decode cX9_within 5 = .ok (.aload_n 0, 1) := by decide +kernel
theorem dX9_within_6 : decode cX9_within 6 = .ok (.iload_n 1, 1) := by decide +kernel
theorem dX9_within_7 : decode cX9_within 7 = .ok (.invokevirtual 387, 3) := by decide +kernel
theorem dX9_within_10 : decode cX9_within 10 = .ok (.ifCond .eq 11, 3) := by decide +kernel
theorem dX9_within_13 : decode cX9_within 13 = .ok (.aload_n 0, 1) := by decide +kernel
theorem dX9_within_14 : decode cX9_within 14 = .ok (.iload_n 2, 1) := by decide +kernel
theorem dX9_within_15 : decode cX9_within 15 = .ok (.invokevirtual 387, 3) := by decide +kernel
theorem dX9_within_18 : decode cX9_within 18 = .ok (.ifCond .ne 5, 3) := by decide +kernel
theorem dX9_within_21 : decode cX9_within 21 = .ok (.iconst (-1), 1) := by decide +kernel
theorem dX9_within_22 : decode cX9_within 22 = .ok (.ireturn, 1) := by decide +kernel
theorem dX9_within_23 : decode cX9_within 23 = .ok (.aload_n 0, 1) := by decide +kernel
theorem dX9_within_24 : decode cX9_within 24 = .ok (.getfield 68, 3) := by decide +kernel
theorem dX9_within_27 : decode cX9_within 27 = .ok (.bipush 25, 2) := by decide +kernel
theorem dX9_within_29 : decode cX9_within 29 = .ok (.iload_n 2, 1) := by decide +kernel
theorem dX9_within_30 : decode cX9_within 30 = .ok (.imul, 1) := by decide +kernel
theorem dX9_within_31 : decode cX9_within 31 = .ok (.aload_n 0, 1) := by decide +kernel
theorem dX9_within_32 : decode cX9_within 32 = .ok (.getfield 71, 3) := by decide +kernel
theorem dX9_within_35 : decode cX9_within 35 = .ok (.iconst 0, 1) := by decide +kernel
theorem dX9_within_36 : decode cX9_within 36 = .ok (.invokestatic 362, 3) := by decide +kernel
theorem dX9_within_39 : decode cX9_within 39 = .ok (.aload_n 0, 1) := by decide +kernel
theorem dX9_within_40 : decode cX9_within 40 = .ok (.iload_n 1, 1) := by decide +kernel
theorem dX9_within_41 : decode cX9_within 41 = .ok (.aload_n 0, 1) := by decide +kernel
theorem dX9_within_42 : decode cX9_within 42 = .ok (.getfield 71, 3) := by decide +kernel
theorem dX9_within_45 : decode cX9_within 45 = .ok (.iconst 0, 1) := by decide +kernel
theorem dX9_within_46 : decode cX9_within 46 = .ok (.invokevirtual 358, 3) := by decide +kernel
theorem dX9_within_49 : decode cX9_within 49 = .ok (.ifCond .eq 7, 3) := by decide +kernel
theorem dX9_within_52 : decode cX9_within 52 = .ok (.iconst 1, 1) := by decide +kernel
theorem dX9_within_53 : decode cX9_within 53 = .ok (.goto 4, 3) := by decide +kernel
theorem dX9_within_56 : decode cX9_within 56 = .ok (.iconst 0, 1) := by decide +kernel
theorem dX9_within_57 : decode cX9_within 57 = .ok (.ireturn, 1) := by decide +kernel
abbrev vs_M_within : List Cond := .code yX9_within cX9_within 3 (some .int) :: VM
theorem g_M_within_M_isState : GoodIn vs_M_within (wsV RX9 387 RX9 yX9_isState vs_M_isState) := gm_V vm_279 vm_280 vm_281 vm_12 vm_276
theorem g_M_within_M_copies_nz : GoodIn vs_M_within (va_wsS RX9 362 yX9_copies vs_M_copies_nz) := gm_S vm_250 vm_251 vm_12 vm_8
theorem g_M_within_M_hasAll : GoodIn vs_M_within (wsV RX9 358 RX9 yX9_hasAll vs_M_hasAll) := gm_V vm_255 vm_256 vm_257 vm_12 vm_231
set_option maxHeartbeats 4000000 in
set_option maxRecDepth 100000 in
theorem c_M_within (l : Launch) (dC : Nat → ClassId) (dI : Nat → Nat → Nat) (sz : Nat) (ad : Nat → Nat) (ck : Nat → ClassId) (x0 : Int32) (x16 : Nat) (x18 : Nat) (x19 : Nat) (x20 : Int32) (x21 : Nat) (x22 : Nat) (x23 : Int32) (x24 : Int32) (x25 : Int32) (x26 : Nat) (x27 : Int32) (x28 : Nat) (x29 : Nat) (x30 : Nat) (x33 : Nat) (x45 : Int32) (x46 : Nat) (x52 : Nat) (x53 : Nat) (x61 : Nat) (x62 : Nat) (x63 : Nat) (x65 : Nat) (x66 : Int32) (f1 : Nat → Int32) (f2 : Nat → Int32) (f3 : Nat → Int32) (q4 : Nat → Nat) (q5 : Nat → Nat) (q6 : Nat → Nat) (q7 : Nat → Nat) (f8 : Nat → Int32) (q9 : Nat → Nat) (q10 : Nat → Nat) (f11 : Nat → Int32) (m12_0 m12_1 : Nat) (m13_0 m13_1 : Nat) (m14_0 m14_1 : Nat) (m15_0 m15_1 : Nat) (f17 : Nat → Int32) (q31 : Nat → Nat) (f32 : Nat → Int32) (f34 : Nat → Int32) (f35 : Nat → Int32) (f36 : Nat → Int32) (f37 : Nat → Int32) (q38 : Nat → Nat) (f39 : Nat → Int32) (f40 : Nat → Int32) (f41 : Nat → Int32) (m42_0 m42_1 : Nat) (f43 : Nat → Int32) (f44 : Nat → Int32) (f47 : Nat → Int32) (f48 : Nat → Int32) (f49 : Nat → Int32) (f50 : Nat → Int32) (f51 : Nat → Int32) (q54 : Nat → Nat) (q55 : Nat → Nat) (q56 : Nat → Nat) (f57 : Nat → Int32) (q58 : Nat → Nat) (f59 : Nat → Int32) (f60 : Nat → Int32) (f64 : Nat → Int32) (p0 : Int32) (p1 : Int32) (hx16 : x16 ≤ 1) (hx18 : x18 ≤ 900) (hx19 : x19 ≤ 900) (hx21 : x21 ≤ 900) (hx22 : x22 ≤ 4) (hx26 : x26 ≤ 6) (hx28 : x28 ≤ 1) (hx29 : x29 ≤ 1) (hx30 : x30 ≤ 1) (hx33 : x33 ≤ 20) (hx46 : x46 ≤ 5) (hx52 : x52 ≤ 2400) (hx53 : x53 ≤ 119) (hx61 : x61 ≤ 119) (hx62 : x62 ≤ 2000) (hx63 : x63 ≤ 1) (hx65 : x65 ≤ 7) (hm12_0 : m12_0 ≤ 3) (hm12_1 : m12_1 ≤ 3) (hm13_0 : m13_0 ≤ 8) (hm13_1 : m13_1 ≤ 8) (hm14_0 : m14_0 ≤ 14) (hm14_1 : m14_1 ≤ 14) (hm15_0 : m15_0 ≤ 8) (hm15_1 : m15_1 ≤ 8) (hm42_0 : m42_0 ≤ 120) (hm42_1 : m42_1 ≤ 400) : Met l yX9_within vs_M_within ({ frames := 2, cells := 0, slots := 0, locals := 43 }) (va_Pc [.ref (ad 0), .int p0, .int p1] (pu_B (dC, dI) (mo_w ad ck x0 (nI x16) (nI x18) (nI x19) x20 (nI x21) (nI x22) x23 x24 x25 (nI x26) x27 (nI x28) (nI x29) (nI x30) (nI x33) x45 (nI x46) (nI x52) (nI x53) (nI x61) (nI x62) (nI x63) (nI x65) x66 f1 f2 f3 (bN 3 q4) (bN 7 q5) (bN 7 q6) (bN 4 q7) f8 (bN 2 q9) (bH q10) f11 (b2 m12_0 m12_1) (b2 m13_0 m13_1) (b2 m14_0 m14_1) (b2m m15_0 m15_1) f17 (bA 159 q31) f32 f34 f35 f36 f37 (bN 7 q38) f39 f40 f41 (b2 m42_0 m42_1) f43 f44 f47 f48 f49 f50 f51 (bN 13 q54) (bN 120 q55) (bN 120 q56) f57 (bN 120 q58) f59 f60 f64) (mo_t ck) sz)) (va_Qi (fun (r : Int32) (_ : Unit) => True) (fun _ t => ∃ (z35 : Nat → Int32) (z0 : Int32) (z46 : Nat), pu_E (dC, dI) (mo_w ad ck z0 (nI x16) (nI x18) (nI x19) x20 (nI x21) (nI x22) x23 x24 x25 (nI x26) x27 (nI x28) (nI x29) (nI x30) (nI x33) x45 (nI z46) (nI x52) (nI x53) (nI x61) (nI x62) (nI x63) (nI x65) x66 f1 f2 f3 (bN 3 q4) (bN 7 q5) (bN 7 q6) (bN 4 q7) f8 (bN 2 q9) (bH q10) f11 (b2 m12_0 m12_1) (b2 m13_0 m13_1) (b2 m14_0 m14_1) (b2m m15_0 m15_1) f17 (bA 159 q31) f32 f34 z35 f36 f37 (bN 7 q38) f39 f40 f41 (b2 m42_0 m42_1) f43 f44 f47 f48 f49 f50 f51 (bN 13 q54) (bN 120 q55) (bN 120 q56) f57 (bN 120 q58) f59 f60 f64) (mo_t ck) (va_A ((mo_w ad ck x0 (nI x16) (nI x18) (nI x19) x20 (nI x21) (nI x22) x23 x24 x25 (nI x26) x27 (nI x28) (nI x29) (nI x30) (nI x33) x45 (nI x46) (nI x52) (nI x53) (nI x61) (nI x62) (nI x63) (nI x65) x66 f1 f2 f3 (bN 3 q4) (bN 7 q5) (bN 7 q6) (bN 4 q7) f8 (bN 2 q9) (bH q10) f11 (b2 m12_0 m12_1) (b2 m13_0 m13_1) (b2 m14_0 m14_1) (b2m m15_0 m15_1) f17 (bA 159 q31) f32 f34 f35 f36 f37 (bN 7 q38) f39 f40 f41 (b2 m42_0 m42_1) f43 f44 f47 f48 f49 f50 f51 (bN 13 q54) (bN 120 q55) (bN 120 q56) f57 (bN 120 q58) f59 f60 f64)) sz) t ∧ (z46 ≤ 5)) (va_A ((mo_w ad ck x0 (nI x16) (nI x18) (nI x19) x20 (nI x21) (nI x22) x23 x24 x25 (nI x26) x27 (nI x28) (nI x29) (nI x30) (nI x33) x45 (nI x46) (nI x52) (nI x53) (nI x61) (nI x62) (nI x63) (nI x65) x66 f1 f2 f3 (bN 3 q4) (bN 7 q5) (bN 7 q6) (bN 4 q7) f8 (bN 2 q9) (bH q10) f11 (b2 m12_0 m12_1) (b2 m13_0 m13_1) (b2 m14_0 m14_1) (b2m m15_0 m15_1) f17 (bA 159 q31) f32 f34 f35 f36 f37 (bN 7 q38) f39 f40 f41 (b2 m42_0 m42_1) f43 f44 f47 f48 f49 f50 f51 (bN 13 q54) (bN 120 q55) (bN 120 q56) f57 (bN 120 q58) f59 f60 f64)) sz)) 0 0 (va_A ((mo_w ad ck x0 (nI x16) (nI x18) (nI x19) x20 (nI x21) (nI x22) x23 x24 x25 (nI x26) x27 (nI x28) (nI x29) (nI x30) (nI x33) x45 (nI x46) (nI x52) (nI x53) (nI x61) (nI x62) (nI x63) (nI x65) x66 f1 f2 f3 (bN 3 q4) (bN 7 q5) (bN 7 q6) (bN 4 q7) f8 (bN 2 q9) (bH q10) f11 (b2 m12_0 m12_1) (b2 m13_0 m13_1) (b2 m14_0 m14_1) (b2m m15_0 m15_1) f17 (bA 159 q31) f32 f34 f35 f36 f37 (bN 7 q38) f39 f40 f41 (b2 m42_0 m42_1) f43 f44 f47 f48 f49 f50 f51 (bN 13 q54) (bN 120 q55) (bN 120 q56) f57 (bN 120 q58) f59 f60 f64)) sz) := by
  refine Met.ofW (cc := cX9_within) (maxL := 3) (ret := (some .int)) (by decide) rfl ?_
  intro p e s m args below meth c s₁ B hml hv
  obtain ⟨rfl, rfl, hP, hK, hD0⟩ := hv
  have hx := B.exec
  have hb := B.bytes
  have hr := B.returns
  have hts := atoms_spec (ws := vs_M_within) B.pre
  have v_1 := hts (.fieldLink RX9 142 "ClockReachModel" "thrown" "I") (List.mem_cons_of_mem _ vm_24)
  have v_7 := hts (.fieldLink RX9 68 "ClockReachModel" "zone" "[I") (List.mem_cons_of_mem _ vm_232)
  have v_8 := hts (.fieldLink RX9 71 "ClockReachModel" "z" "[I") (List.mem_cons_of_mem _ vm_234)
  have hown : s.vm.findClass RX9 = some m.cls := findClass_of_methodNamed B.named
  have hlocks := B.notSynchronized
  have hiX9 : ∀ w ∈ wsX90, w ∈ vs_M_within := fun _ h => List.mem_cons_of_mem _ (List.mem_append_right _ h)
  have hD := hD0.self (sz := s.heap.size)
  generalize hAe : va_A ((mo_w ad ck x0 (nI x16) (nI x18) (nI x19) x20 (nI x21) (nI x22) x23 x24 x25 (nI x26) x27 (nI x28) (nI x29) (nI x30) (nI x33) x45 (nI x46) (nI x52) (nI x53) (nI x61) (nI x62) (nI x63) (nI x65) x66 f1 f2 f3 (bN 3 q4) (bN 7 q5) (bN 7 q6) (bN 4 q7) f8 (bN 2 q9) (bH q10) f11 (b2 m12_0 m12_1) (b2 m13_0 m13_1) (b2 m14_0 m14_1) (b2m m15_0 m15_1) f17 (bA 159 q31) f32 f34 f35 f36 f37 (bN 7 q38) f39 f40 f41 (b2 m42_0 m42_1) f43 f44 f47 f48 f49 f50 f51 (bN 13 q54) (bN 120 q55) (bN 120 q56) f57 (bN 120 q58) f59 f60 f64)) s.heap.size = A at hD ⊢
  have hA : ∀ q : Nat, s.heap.size ≤ q → A q := fun q h => by rw [← hAe]; exact Or.inr h
  have hS : va_S A s.heap s.heap [] := va_S.rf
  have hl := lv_entry ([.ref (ad 0), .int p0, .int p1]) (n := 3) (Nat.le_of_ble_eq_true rfl)
  rw [lg_entry_eq]
  generalize (lg_sl ([.ref (ad 0), .int p0, .int p1]) ++ List.replicate (3 - (lg_sl ([.ref (ad 0), .int p0, .int p1])).length) Slot.unset).toArray = ls at hl ⊢
  have hl : lv_has ls 3 [(0, .ref (ad 0)), (1, .int p0), (2, .int p1)] := hl
  refine lv_aload_n hx hb dX9_within_0 rfl (lv_at hl 0 rfl) ?_
  refine lv_iconst (v := 0) hx hb dX9_within_1 (by decide) ?_
  refine va_put (D := (dC, dI)) (ci := 9) (v := .int 0) (ty := .int) (C := RX9) (T := TX9) (N := 67) hx hb hts hiX9 tyX9 tyX9_ok nmX9 hown hK hP hD hS 0 rfl rfl 0 (by decide) v_1 (fun _ h9 => h9) rfl (by decide +kernel) rfl rfl (Nat.le_of_ble_eq_true rfl) dX9_within_2 (fun H locs hP hD hS => ?_)
  have hP : va_P (dC, dI) vwCl (mo_w ad ck 0 (nI x16) (nI x18) (nI x19) x20 (nI x21) (nI x22) x23 x24 x25 (nI x26) x27 (nI x28) (nI x29) (nI x30) (nI x33) x45 (nI x46) (nI x52) (nI x53) (nI x61) (nI x62) (nI x63) (nI x65) x66 f1 f2 f3 (bN 3 q4) (bN 7 q5) (bN 7 q6) (bN 4 q7) f8 (bN 2 q9) (bH q10) f11 (b2 m12_0 m12_1) (b2 m13_0 m13_1) (b2 m14_0 m14_1) (b2m m15_0 m15_1) f17 (bA 159 q31) f32 f34 f35 f36 f37 (bN 7 q38) f39 f40 f41 (b2 m42_0 m42_1) f43 f44 f47 f48 f49 f50 f51 (bN 13 q54) (bN 120 q55) (bN 120 q56) f57 (bN 120 q58) f59 f60 f64) H := hP
  have hD : va_D A (mo_w ad ck 0 (nI x16) (nI x18) (nI x19) x20 (nI x21) (nI x22) x23 x24 x25 (nI x26) x27 (nI x28) (nI x29) (nI x30) (nI x33) x45 (nI x46) (nI x52) (nI x53) (nI x61) (nI x62) (nI x63) (nI x65) x66 f1 f2 f3 (bN 3 q4) (bN 7 q5) (bN 7 q6) (bN 4 q7) f8 (bN 2 q9) (bH q10) f11 (b2 m12_0 m12_1) (b2 m13_0 m13_1) (b2 m14_0 m14_1) (b2m m15_0 m15_1) f17 (bA 159 q31) f32 f34 f35 f36 f37 (bN 7 q38) f39 f40 f41 (b2 m42_0 m42_1) f43 f44 f47 f48 f49 f50 f51 (bN 13 q54) (bN 120 q55) (bN 120 q56) f57 (bN 120 q58) f59 f60 f64) := hD
  refine lv_aload_n hx hb dX9_within_5 rfl (lv_at hl 0 rfl) ?_
  refine lv_iload_n hx hb dX9_within_6 rfl (lv_at hl 1 rfl) ?_
  have hFc := pu_free hD hS hA
  refine va_calli (va_runV (As := [.int p0]) (rest := []) ⟨hx, hb, hml, hown, hts⟩ (c_M_isState l dC dI _ ad ck 0 x16 x18 x19 x20 x21 x22 x23 x24 x25 x26 x27 x28 x29 x30 x33 x45 x46 x52 x53 x61 x62 x63 x65 x66 f1 f2 f3 q4 q5 q6 q7 f8 q9 q10 f11 m12_0 m12_1 m13_0 m13_1 m14_0 m14_1 m15_0 m15_1 f17 q31 f32 f34 f35 f36 f37 q38 f39 f40 f41 m42_0 m42_1 f43 f44 f47 f48 f49 f50 f51 q54 q55 q56 f57 q58 f59 f60 f64 p0 hx16 hx18 hx19 hx21 hx22 hx26 hx28 hx29 hx30 hx33 hx46 hx52 hx53 hx61 hx62 hx63 hx65 hm12_0 hm12_1 hm13_0 hm13_1 hm14_0 hm14_1 hm15_0 hm15_1 hm42_0 hm42_1) (cwV 1 hts g_M_within_M_isState rfl rfl rfl (by decide +kernel) ⟨Nat.le_of_ble_eq_true rfl, Nat.le_of_ble_eq_true rfl⟩) ⟨pu_bl, va_recv hK hP (ci := 9) (q0 := 0) rfl rfl, pu_in hP hK hD⟩ rfl rfl hl.1 rfl (lv_room (Nat.le_of_ble_eq_true rfl)) dX9_within_7 ⟨Nat.le_of_ble_eq_true rfl, Nat.le_of_ble_eq_true rfl⟩) hS (fun q _ h => hFc q h) hFc (fun r_1 u t H1 locs ht hvm hw hB hz1 hk1 hS => ?_)
  obtain ⟨z46_2, ⟨hP1, -, hD1⟩, hz46_2⟩ := hB
  rw [ht] at hP1
  have hP := hP1
  have hD := pu_all hFc hD1
  clear hP1 hD1 hFc
  clear hk1 hz1 ht hvm
  generalize H1 = H at hP hS ⊢
  rcases hw with ⟨rfl, hw⟩ | rfl
  · obtain ⟨n_3, hn_3, rfl⟩ := hw
    refine lv_if_eq (tgt := 21) hx hb dX9_within_10 (by decide) (fun z => absurd z (by decide)) (fun _ => ?_)
    refine lv_aload_n hx hb dX9_within_13 rfl (lv_at hl 0 rfl) ?_
    refine lv_iload_n hx hb dX9_within_14 rfl (lv_at hl 2 rfl) ?_
    have hFc := pu_free hD hS hA
    refine va_calli (va_runV (As := [.int p1]) (rest := []) ⟨hx, hb, hml, hown, hts⟩ (c_M_isState l dC dI _ ad ck 0 x16 x18 x19 x20 x21 x22 x23 x24 x25 x26 x27 x28 x29 x30 x33 x45 z46_2 x52 x53 x61 x62 x63 x65 x66 f1 f2 f3 q4 q5 q6 q7 f8 q9 q10 f11 m12_0 m12_1 m13_0 m13_1 m14_0 m14_1 m15_0 m15_1 f17 q31 f32 f34 f35 f36 f37 q38 f39 f40 f41 m42_0 m42_1 f43 f44 f47 f48 f49 f50 f51 q54 q55 q56 f57 q58 f59 f60 f64 p1 hx16 hx18 hx19 hx21 hx22 hx26 hx28 hx29 hx30 hx33 (Nat.le_trans hz46_2 (Nat.le_of_ble_eq_true rfl)) hx52 hx53 hx61 hx62 hx63 hx65 hm12_0 hm12_1 hm13_0 hm13_1 hm14_0 hm14_1 hm15_0 hm15_1 hm42_0 hm42_1) (cwV 1 hts g_M_within_M_isState rfl rfl rfl (by decide +kernel) ⟨Nat.le_of_ble_eq_true rfl, Nat.le_of_ble_eq_true rfl⟩) ⟨pu_bl, va_recv hK hP (ci := 9) (q0 := 0) rfl rfl, pu_in hP hK hD⟩ rfl rfl hl.1 rfl (lv_room (Nat.le_of_ble_eq_true rfl)) dX9_within_15 ⟨Nat.le_of_ble_eq_true rfl, Nat.le_of_ble_eq_true rfl⟩) hS (fun q _ h => hFc q h) hFc (fun r_4 u t H1 locs ht hvm hw hB hz1 hk1 hS => ?_)
    obtain ⟨z46_5, ⟨hP1, -, hD1⟩, hz46_5⟩ := hB
    rw [ht] at hP1
    have hP := hP1
    have hD := pu_all hFc hD1
    clear hP1 hD1 hFc
    clear hk1 hz1 ht hvm
    generalize H1 = H at hP hS ⊢
    rcases hw with ⟨rfl, hw⟩ | rfl
    · obtain ⟨n_6, hn_6, rfl⟩ := hw
      refine lv_if_ne (tgt := 23) hx hb dX9_within_18 (by decide) (fun _ => ?_) (fun z => absurd z (by decide))
      refine lv_aload_n hx hb dX9_within_23 rfl (lv_at hl 0 rfl) ?_
      refine va_get (D := (dC, dI)) (ci := 9) (v := .ref (ad 34)) (C := RX9) (T := TX9) (N := 67) hx hb hts hiX9 hown hK hP 0 rfl rfl 34 (by decide) v_7 (fun _ h9 => h9) rfl dX9_within_24 ?_
      refine lv_bipush (v := 25) hx hb dX9_within_27 (by decide) ?_
      refine lv_iload_n hx hb dX9_within_29 rfl (lv_at hl 2 rfl) ?_
      refine lv_imul hx hb dX9_within_30 ?_
      refine lv_topi (fun y_7 ey_7 => ?_)
      obtain rfl : y_7 = (nI (25 * n_6)) := ey_7.trans (pk_mul 25 n_6)
      refine lv_aload_n hx hb dX9_within_31 rfl (lv_at hl 0 rfl) ?_
      refine va_get (D := (dC, dI)) (ci := 9) (v := .ref (ad 35)) (C := RX9) (T := TX9) (N := 67) hx hb hts hiX9 hown hK hP 0 rfl rfl 35 (by decide) v_8 (fun _ h9 => h9) rfl dX9_within_32 ?_
      refine lv_iconst (v := 0) hx hb dX9_within_35 (by decide) ?_
      have hFc := pu_free hD hS hA
      refine va_callv (va_runS (As := [.ref (ad 34), .int (nI (25 * n_6)), .ref (ad 35), .int 0]) (rest := []) ⟨hx, hb, hml, hown, hts⟩ (c_M_copies_nz l dC dI _ ad ck 0 x16 x18 x19 x20 x21 x22 x23 x24 x25 x26 x27 x28 x29 x30 x33 x45 z46_5 x52 x53 x61 x62 x63 x65 x66 f1 f2 f3 q4 q5 q6 q7 f8 q9 q10 f11 m12_0 m12_1 m13_0 m13_1 m14_0 m14_1 m15_0 m15_1 f17 q31 f32 f34 f35 f36 f37 q38 f39 f40 f41 m42_0 m42_1 f43 f44 f47 f48 f49 f50 f51 q54 q55 q56 f57 q58 f59 f60 f64 (25 * n_6) hx16 hx18 hx19 hx21 hx22 hx26 hx28 hx29 hx30 hx33 (Nat.le_trans hz46_5 (Nat.le_of_ble_eq_true rfl)) hx52 hx53 hx61 hx62 hx63 hx65 hm12_0 hm12_1 hm13_0 hm13_1 hm14_0 hm14_1 hm15_0 hm15_1 hm42_0 hm42_1 (by omega)) (va_cwS 4 hts g_M_within_M_copies_nz rfl rfl rfl (by decide +kernel) ⟨Nat.le_of_ble_eq_true rfl, Nat.le_of_ble_eq_true rfl⟩) ⟨pu_bl, pu_in hP hK hD⟩ rfl rfl hl.1 rfl (lv_room (Nat.le_of_ble_eq_true rfl)) dX9_within_36 ⟨Nat.le_of_ble_eq_true rfl, Nat.le_of_ble_eq_true rfl⟩) hS (fun q _ h => hFc q h) hFc (fun u t H1 locs ht hvm hw hB hz1 hk1 hS => ?_)
      obtain ⟨z35_9, ⟨hP1, -, hD1⟩⟩ := hB
      rw [ht] at hP1
      have hP := hP1
      have hD := pu_all hFc hD1
      clear hP1 hD1 hFc
      clear hk1 hz1 ht hvm
      generalize H1 = H at hP hS ⊢
      refine lv_aload_n hx hb dX9_within_39 rfl (lv_at hl 0 rfl) ?_
      refine lv_iload_n hx hb dX9_within_40 rfl (lv_at hl 1 rfl) ?_
      refine lv_aload_n hx hb dX9_within_41 rfl (lv_at hl 0 rfl) ?_
      refine va_get (D := (dC, dI)) (ci := 9) (v := .ref (ad 35)) (C := RX9) (T := TX9) (N := 67) hx hb hts hiX9 hown hK hP 0 rfl rfl 35 (by decide) v_8 (fun _ h9 => h9) rfl dX9_within_42 ?_
      refine lv_iconst (v := 0) hx hb dX9_within_45 (by decide) ?_
      refine va_calli (va_runV (As := [.int (nI n_3), .ref (ad 35), .int 0]) (rest := []) ⟨hx, hb, hml, hown, hts⟩ (c_M_hasAll l dC dI _ ad ck 0 x16 x18 x19 x20 x21 x22 x23 x24 x25 x26 x27 x28 x29 x30 x33 x45 z46_5 x52 x53 x61 x62 x63 x65 x66 f1 f2 f3 q4 q5 q6 q7 f8 q9 q10 f11 m12_0 m12_1 m13_0 m13_1 m14_0 m14_1 m15_0 m15_1 f17 q31 f32 f34 z35_9 f36 f37 q38 f39 f40 f41 m42_0 m42_1 f43 f44 f47 f48 f49 f50 f51 q54 q55 q56 f57 q58 f59 f60 f64 n_3 0 hx16 hx18 hx19 hx21 hx22 hx26 hx28 hx29 hx30 hx33 (Nat.le_trans hz46_5 (Nat.le_of_ble_eq_true rfl)) hx52 hx53 hx61 hx62 hx63 hx65 hm12_0 hm12_1 hm13_0 hm13_1 hm14_0 hm14_1 hm15_0 hm15_1 hm42_0 hm42_1 (by omega) (Nat.le_of_ble_eq_true rfl)) (cwV 3 hts g_M_within_M_hasAll rfl rfl rfl (by decide +kernel) ⟨Nat.le_of_ble_eq_true rfl, Nat.le_of_ble_eq_true rfl⟩) ⟨pu_bl, va_recv hK hP (ci := 9) (q0 := 0) rfl rfl, pu_in hP hK hD⟩ rfl rfl hl.1 rfl (lv_room (Nat.le_of_ble_eq_true rfl)) dX9_within_46 ⟨Nat.le_of_ble_eq_true rfl, Nat.le_of_ble_eq_true rfl⟩) hS (fun q _ h => pu_fr hS hA q h) (pu_fr hS hA) (fun r_10 u t H1 locs ht hvm hw hB hz1 hk1 hS => ?_)
      have hP := pu_keep hP hk1
      clear hk1 hz1 ht hvm
      generalize H1 = H at hP hS ⊢
      obtain ⟨u_11, hu_11, rfl⟩ := hw
      refine lv_if_eq (tgt := 56) hx hb dX9_within_49 (by decide) (fun c_12 => ?_) (fun c_12 => ?_)
      · have c_12 : u_11 = 0 := (nI_eq (a := u_11) (b := 0) (Nat.lt_of_le_of_lt hu_11 (Nat.le_of_ble_eq_true rfl)) (Nat.le_of_ble_eq_true rfl)).mp c_12
        refine lv_iconst (v := 0) hx hb dX9_within_56 (by decide) ?_
        exact W.iret (v := 0) hx hb hr (fun t ht hW => ⟨⟨0, (), rfl, trivial, ⟨z35_9, 0, z46_5, ⟨by rw [ht]; exact hP, va_K.moved hW.alike hK, hD⟩, (Nat.le_trans hz46_5 (Nat.le_of_ble_eq_true rfl))⟩⟩, hS.F ht⟩) hS.2.2 dX9_within_57
      · have c_12 : ¬ u_11 = 0 := fun z => c_12 ((nI_eq (a := u_11) (b := 0) (Nat.lt_of_le_of_lt hu_11 (Nat.le_of_ble_eq_true rfl)) (Nat.le_of_ble_eq_true rfl)).mpr z)
        refine lv_iconst (v := 1) hx hb dX9_within_52 (by decide) ?_
        refine lv_goto (tgt := 57) hx hb dX9_within_53 (by decide) ?_
        exact W.iret (v := 1) hx hb hr (fun t ht hW => ⟨⟨1, (), rfl, trivial, ⟨z35_9, 0, z46_5, ⟨by rw [ht]; exact hP, va_K.moved hW.alike hK, hD⟩, (Nat.le_trans hz46_5 (Nat.le_of_ble_eq_true rfl))⟩⟩, hS.F ht⟩) hS.2.2 dX9_within_57
    · refine lv_if_ne (tgt := 23) hx hb dX9_within_18 (by decide) (fun z => absurd z (by decide)) (fun _ => ?_)
      refine lv_iconst (v := (-1)) hx hb dX9_within_21 (by decide) ?_
      exact W.iret (v := (-1)) hx hb hr (fun t ht hW => ⟨⟨(-1), (), rfl, trivial, ⟨f35, 0, z46_5, ⟨by rw [ht]; exact hP, va_K.moved hW.alike hK, hD⟩, (Nat.le_trans hz46_5 (Nat.le_of_ble_eq_true rfl))⟩⟩, hS.F ht⟩) hS.2.2 dX9_within_22
  · refine lv_if_eq (tgt := 21) hx hb dX9_within_10 (by decide) (fun _ => ?_) (fun z => absurd z (by decide))
    refine lv_iconst (v := (-1)) hx hb dX9_within_21 (by decide) ?_
    exact W.iret (v := (-1)) hx hb hr (fun t ht hW => ⟨⟨(-1), (), rfl, trivial, ⟨f35, 0, z46_2, ⟨by rw [ht]; exact hP, va_K.moved hW.alike hK, hD⟩, (Nat.le_trans hz46_2 (Nat.le_of_ble_eq_true rfl))⟩⟩, hS.F ht⟩) hS.2.2 dX9_within_22
theorem dX9_first_0 : decode cX9_first 0 = .ok (.aload_n 0, 1) := by decide +kernel
theorem dX9_first_1 : decode cX9_first 1 = .ok (.iconst 0, 1) := by decide +kernel
theorem dX9_first_2 : decode cX9_first 2 = .ok (.putfield 142, 3) := by decide +kernel
theorem dX9_first_5 : decode cX9_first 5 = .ok (.iconst 0, 1) := by decide +kernel
theorem dX9_first_6 : decode cX9_first 6 = .ok (.istore_n 2, 1) := by decide +kernel
theorem dX9_first_7 : decode cX9_first 7 = .ok (.aload_n 0, 1) := by decide +kernel
theorem dX9_first_8 : decode cX9_first 8 = .ok (.getfield 273, 3) := by decide +kernel
theorem dX9_first_11 : decode cX9_first 11 = .ok (.ifCond .eq 39, 3) := by decide +kernel
theorem dX9_first_14 : decode cX9_first 14 = .ok (.aload_n 0, 1) := by decide +kernel
theorem dX9_first_15 : decode cX9_first 15 = .ok (.iload_n 1, 1) := by decide +kernel
theorem dX9_first_16 : decode cX9_first 16 = .ok (.invokevirtual 286, 3) := by decide +kernel
theorem dX9_first_19 : decode cX9_first 19 = .ok (.ifCond .eq 31, 3) := by decide +kernel
theorem dX9_first_22 : decode cX9_first 22 = .ok (.iload_n 2, 1) := by decide +kernel
theorem dX9_first_23 : decode cX9_first 23 = .ok (.aload_n 0, 1) := by decide +kernel
theorem dX9_first_24 : decode cX9_first 24 = .ok (.getfield 92, 3) := by decide +kernel
theorem dX9_first_27 : decode cX9_first 27 = .ok (.iconst 0, 1) := by decide +kernel
theorem dX9_first_28 : decode cX9_first 28 = .ok (.iaload, 1) := by decide +kernel
theorem dX9_first_29 : decode cX9_first 29 = .ok (.if_icmp .ge 21, 3) := by decide +kernel
theorem dX9_first_32 : decode cX9_first 32 = .ok (.aload_n 0, 1) := by decide +kernel
theorem dX9_first_33 : decode cX9_first 33 = .ok (.getfield 80, 3) := by decide +kernel
theorem dX9_first_36 : decode cX9_first 36 = .ok (.iload_n 2, 1) := by decide +kernel
theorem dX9_first_37 : decode cX9_first 37 = .ok (.iaload, 1) := by decide +kernel
theorem dX9_first_38 : decode cX9_first 38 = .ok (.iload_n 1, 1) := by decide +kernel
theorem dX9_first_39 : decode cX9_first 39 = .ok (.if_icmp .ne 5, 3) := by decide +kernel
theorem dX9_first_42 : decode cX9_first 42 = .ok (.iload_n 2, 1) := by decide +kernel
theorem dX9_first_43 : decode cX9_first 43 = .ok (.ireturn, 1) := by decide +kernel
theorem dX9_first_44 : decode cX9_first 44 = .ok (.iinc 2 1, 3) := by decide +kernel
theorem dX9_first_47 : decode cX9_first 47 = .ok (.goto (-40), 3) := by decide +kernel
theorem dX9_first_50 : decode cX9_first 50 = .ok (.iconst (-1), 1) := by decide +kernel
theorem dX9_first_51 : decode cX9_first 51 = .ok (.ireturn, 1) := by decide +kernel
abbrev vs_M_first : List Cond := .code yX9_first cX9_first 3 (some .int) :: VM
theorem g_M_first_M_isPlace : GoodIn vs_M_first (wsV RX9 286 RX9 yX9_isPlace vs_M_isPlace) := gm_V vm_161 vm_162 vm_163 vm_12 vm_155
set_option maxHeartbeats 4000000 in
set_option maxRecDepth 100000 in
theorem c_M_first (l : Launch) (dC : Nat → ClassId) (dI : Nat → Nat → Nat) (sz : Nat) (ad : Nat → Nat) (ck : Nat → ClassId) (x0 : Int32) (x16 : Nat) (x18 : Nat) (x19 : Nat) (x20 : Int32) (x21 : Nat) (x22 : Nat) (x23 : Int32) (x24 : Int32) (x25 : Int32) (x26 : Nat) (x27 : Int32) (x28 : Nat) (x29 : Nat) (x30 : Nat) (x33 : Nat) (x45 : Int32) (x46 : Nat) (x52 : Nat) (x53 : Nat) (x61 : Nat) (x62 : Nat) (x63 : Nat) (x65 : Nat) (x66 : Int32) (f1 : Nat → Int32) (f2 : Nat → Int32) (f3 : Nat → Int32) (q4 : Nat → Nat) (q5 : Nat → Nat) (q6 : Nat → Nat) (q7 : Nat → Nat) (f8 : Nat → Int32) (q9 : Nat → Nat) (q10 : Nat → Nat) (f11 : Nat → Int32) (m12_0 m12_1 : Nat) (m13_0 m13_1 : Nat) (m14_0 m14_1 : Nat) (m15_0 m15_1 : Nat) (f17 : Nat → Int32) (q31 : Nat → Nat) (f32 : Nat → Int32) (f34 : Nat → Int32) (f35 : Nat → Int32) (f36 : Nat → Int32) (f37 : Nat → Int32) (q38 : Nat → Nat) (f39 : Nat → Int32) (f40 : Nat → Int32) (f41 : Nat → Int32) (m42_0 m42_1 : Nat) (f43 : Nat → Int32) (f44 : Nat → Int32) (f47 : Nat → Int32) (f48 : Nat → Int32) (f49 : Nat → Int32) (f50 : Nat → Int32) (f51 : Nat → Int32) (q54 : Nat → Nat) (q55 : Nat → Nat) (q56 : Nat → Nat) (f57 : Nat → Int32) (q58 : Nat → Nat) (f59 : Nat → Int32) (f60 : Nat → Int32) (f64 : Nat → Int32) (p0 : Int32) (hx16 : x16 ≤ 1) (hx18 : x18 ≤ 900) (hx19 : x19 ≤ 900) (hx21 : x21 ≤ 900) (hx22 : x22 ≤ 4) (hx26 : x26 ≤ 6) (hx28 : x28 ≤ 1) (hx29 : x29 ≤ 1) (hx30 : x30 ≤ 1) (hx33 : x33 ≤ 20) (hx46 : x46 ≤ 5) (hx52 : x52 ≤ 2400) (hx53 : x53 ≤ 119) (hx61 : x61 ≤ 119) (hx62 : x62 ≤ 2000) (hx63 : x63 ≤ 1) (hx65 : x65 ≤ 7) (hm12_0 : m12_0 ≤ 3) (hm12_1 : m12_1 ≤ 3) (hm13_0 : m13_0 ≤ 8) (hm13_1 : m13_1 ≤ 8) (hm14_0 : m14_0 ≤ 14) (hm14_1 : m14_1 ≤ 14) (hm15_0 : m15_0 ≤ 8) (hm15_1 : m15_1 ≤ 8) (hm42_0 : m42_0 ≤ 120) (hm42_1 : m42_1 ≤ 400) : Met l yX9_first vs_M_first ({ frames := 2, cells := 0, slots := 0, locals := 43 }) (va_Pc [.ref (ad 0), .int p0] (pu_B (dC, dI) (mo_w ad ck x0 (nI x16) (nI x18) (nI x19) x20 (nI x21) (nI x22) x23 x24 x25 (nI x26) x27 (nI x28) (nI x29) (nI x30) (nI x33) x45 (nI x46) (nI x52) (nI x53) (nI x61) (nI x62) (nI x63) (nI x65) x66 f1 f2 f3 (bN 3 q4) (bN 7 q5) (bN 7 q6) (bN 4 q7) f8 (bN 2 q9) (bH q10) f11 (b2 m12_0 m12_1) (b2 m13_0 m13_1) (b2 m14_0 m14_1) (b2m m15_0 m15_1) f17 (bA 159 q31) f32 f34 f35 f36 f37 (bN 7 q38) f39 f40 f41 (b2 m42_0 m42_1) f43 f44 f47 f48 f49 f50 f51 (bN 13 q54) (bN 120 q55) (bN 120 q56) f57 (bN 120 q58) f59 f60 f64) (mo_t ck) sz)) (va_Qi (fun (r : Int32) (_ : Unit) => True) (fun _ t => ∃ (z0 : Int32), pu_E (dC, dI) (mo_w ad ck z0 (nI x16) (nI x18) (nI x19) x20 (nI x21) (nI x22) x23 x24 x25 (nI x26) x27 (nI x28) (nI x29) (nI x30) (nI x33) x45 (nI x46) (nI x52) (nI x53) (nI x61) (nI x62) (nI x63) (nI x65) x66 f1 f2 f3 (bN 3 q4) (bN 7 q5) (bN 7 q6) (bN 4 q7) f8 (bN 2 q9) (bH q10) f11 (b2 m12_0 m12_1) (b2 m13_0 m13_1) (b2 m14_0 m14_1) (b2m m15_0 m15_1) f17 (bA 159 q31) f32 f34 f35 f36 f37 (bN 7 q38) f39 f40 f41 (b2 m42_0 m42_1) f43 f44 f47 f48 f49 f50 f51 (bN 13 q54) (bN 120 q55) (bN 120 q56) f57 (bN 120 q58) f59 f60 f64) (mo_t ck) (va_A ((mo_w ad ck x0 (nI x16) (nI x18) (nI x19) x20 (nI x21) (nI x22) x23 x24 x25 (nI x26) x27 (nI x28) (nI x29) (nI x30) (nI x33) x45 (nI x46) (nI x52) (nI x53) (nI x61) (nI x62) (nI x63) (nI x65) x66 f1 f2 f3 (bN 3 q4) (bN 7 q5) (bN 7 q6) (bN 4 q7) f8 (bN 2 q9) (bH q10) f11 (b2 m12_0 m12_1) (b2 m13_0 m13_1) (b2 m14_0 m14_1) (b2m m15_0 m15_1) f17 (bA 159 q31) f32 f34 f35 f36 f37 (bN 7 q38) f39 f40 f41 (b2 m42_0 m42_1) f43 f44 f47 f48 f49 f50 f51 (bN 13 q54) (bN 120 q55) (bN 120 q56) f57 (bN 120 q58) f59 f60 f64)) sz) t) (va_A ((mo_w ad ck x0 (nI x16) (nI x18) (nI x19) x20 (nI x21) (nI x22) x23 x24 x25 (nI x26) x27 (nI x28) (nI x29) (nI x30) (nI x33) x45 (nI x46) (nI x52) (nI x53) (nI x61) (nI x62) (nI x63) (nI x65) x66 f1 f2 f3 (bN 3 q4) (bN 7 q5) (bN 7 q6) (bN 4 q7) f8 (bN 2 q9) (bH q10) f11 (b2 m12_0 m12_1) (b2 m13_0 m13_1) (b2 m14_0 m14_1) (b2m m15_0 m15_1) f17 (bA 159 q31) f32 f34 f35 f36 f37 (bN 7 q38) f39 f40 f41 (b2 m42_0 m42_1) f43 f44 f47 f48 f49 f50 f51 (bN 13 q54) (bN 120 q55) (bN 120 q56) f57 (bN 120 q58) f59 f60 f64)) sz)) 0 0 (va_A ((mo_w ad ck x0 (nI x16) (nI x18) (nI x19) x20 (nI x21) (nI x22) x23 x24 x25 (nI x26) x27 (nI x28) (nI x29) (nI x30) (nI x33) x45 (nI x46) (nI x52) (nI x53) (nI x61) (nI x62) (nI x63) (nI x65) x66 f1 f2 f3 (bN 3 q4) (bN 7 q5) (bN 7 q6) (bN 4 q7) f8 (bN 2 q9) (bH q10) f11 (b2 m12_0 m12_1) (b2 m13_0 m13_1) (b2 m14_0 m14_1) (b2m m15_0 m15_1) f17 (bA 159 q31) f32 f34 f35 f36 f37 (bN 7 q38) f39 f40 f41 (b2 m42_0 m42_1) f43 f44 f47 f48 f49 f50 f51 (bN 13 q54) (bN 120 q55) (bN 120 q56) f57 (bN 120 q58) f59 f60 f64)) sz) := by
  refine Met.ofW (cc := cX9_first) (maxL := 3) (ret := (some .int)) (by decide) rfl ?_
  intro p e s m args below meth c s₁ B hml hv
  obtain ⟨rfl, rfl, hP, hK, hD0⟩ := hv
  have hx := B.exec
  have hb := B.bytes
  have hr := B.returns
  have hts := atoms_spec (ws := vs_M_first) B.pre
  have v_1 := hts (.fieldLink RX9 142 "ClockReachModel" "thrown" "I") (List.mem_cons_of_mem _ vm_24)
  have v_2 := hts (.fieldLink RX9 273 "ClockReachModel" "hasGraph" "Z") (List.mem_cons_of_mem _ vm_18)
  have v_8 := hts (.fieldLink RX9 92 "ClockReachModel" "stateMany" "[I") (List.mem_cons_of_mem _ vm_177)
  have v_9 := hts (.fieldLink RX9 80 "ClockReachModel" "statePlace" "[I") (List.mem_cons_of_mem _ vm_240)
  have hown : s.vm.findClass RX9 = some m.cls := findClass_of_methodNamed B.named
  have hlocks := B.notSynchronized
  have hiX9 : ∀ w ∈ wsX90, w ∈ vs_M_first := fun _ h => List.mem_cons_of_mem _ (List.mem_append_right _ h)
  have hD := hD0.self (sz := s.heap.size)
  generalize hAe : va_A ((mo_w ad ck x0 (nI x16) (nI x18) (nI x19) x20 (nI x21) (nI x22) x23 x24 x25 (nI x26) x27 (nI x28) (nI x29) (nI x30) (nI x33) x45 (nI x46) (nI x52) (nI x53) (nI x61) (nI x62) (nI x63) (nI x65) x66 f1 f2 f3 (bN 3 q4) (bN 7 q5) (bN 7 q6) (bN 4 q7) f8 (bN 2 q9) (bH q10) f11 (b2 m12_0 m12_1) (b2 m13_0 m13_1) (b2 m14_0 m14_1) (b2m m15_0 m15_1) f17 (bA 159 q31) f32 f34 f35 f36 f37 (bN 7 q38) f39 f40 f41 (b2 m42_0 m42_1) f43 f44 f47 f48 f49 f50 f51 (bN 13 q54) (bN 120 q55) (bN 120 q56) f57 (bN 120 q58) f59 f60 f64)) s.heap.size = A at hD ⊢
  have hA : ∀ q : Nat, s.heap.size ≤ q → A q := fun q h => by rw [← hAe]; exact Or.inr h
  have hS : va_S A s.heap s.heap [] := va_S.rf
  have hl := lv_entry ([.ref (ad 0), .int p0]) (n := 3) (Nat.le_of_ble_eq_true rfl)
  rw [lg_entry_eq]
  generalize (lg_sl ([.ref (ad 0), .int p0]) ++ List.replicate (3 - (lg_sl ([.ref (ad 0), .int p0])).length) Slot.unset).toArray = ls at hl ⊢
  have hl : lv_has ls 3 [(0, .ref (ad 0)), (1, .int p0)] := hl
  refine lv_aload_n hx hb dX9_first_0 rfl (lv_at hl 0 rfl) ?_
  refine lv_iconst (v := 0) hx hb dX9_first_1 (by decide) ?_
  refine va_put (D := (dC, dI)) (ci := 9) (v := .int 0) (ty := .int) (C := RX9) (T := TX9) (N := 67) hx hb hts hiX9 tyX9 tyX9_ok nmX9 hown hK hP hD hS 0 rfl rfl 0 (by decide) v_1 (fun _ h9 => h9) rfl (by decide +kernel) rfl rfl (Nat.le_of_ble_eq_true rfl) dX9_first_2 (fun H locs hP hD hS => ?_)
  have hP : va_P (dC, dI) vwCl (mo_w ad ck 0 (nI x16) (nI x18) (nI x19) x20 (nI x21) (nI x22) x23 x24 x25 (nI x26) x27 (nI x28) (nI x29) (nI x30) (nI x33) x45 (nI x46) (nI x52) (nI x53) (nI x61) (nI x62) (nI x63) (nI x65) x66 f1 f2 f3 (bN 3 q4) (bN 7 q5) (bN 7 q6) (bN 4 q7) f8 (bN 2 q9) (bH q10) f11 (b2 m12_0 m12_1) (b2 m13_0 m13_1) (b2 m14_0 m14_1) (b2m m15_0 m15_1) f17 (bA 159 q31) f32 f34 f35 f36 f37 (bN 7 q38) f39 f40 f41 (b2 m42_0 m42_1) f43 f44 f47 f48 f49 f50 f51 (bN 13 q54) (bN 120 q55) (bN 120 q56) f57 (bN 120 q58) f59 f60 f64) H := hP
  have hD : va_D A (mo_w ad ck 0 (nI x16) (nI x18) (nI x19) x20 (nI x21) (nI x22) x23 x24 x25 (nI x26) x27 (nI x28) (nI x29) (nI x30) (nI x33) x45 (nI x46) (nI x52) (nI x53) (nI x61) (nI x62) (nI x63) (nI x65) x66 f1 f2 f3 (bN 3 q4) (bN 7 q5) (bN 7 q6) (bN 4 q7) f8 (bN 2 q9) (bH q10) f11 (b2 m12_0 m12_1) (b2 m13_0 m13_1) (b2 m14_0 m14_1) (b2m m15_0 m15_1) f17 (bA 159 q31) f32 f34 f35 f36 f37 (bN 7 q38) f39 f40 f41 (b2 m42_0 m42_1) f43 f44 f47 f48 f49 f50 f51 (bN 13 q54) (bN 120 q55) (bN 120 q56) f57 (bN 120 q58) f59 f60 f64) := hD
  refine lv_iconst (v := 0) hx hb dX9_first_5 (by decide) ?_
  refine lv_istore_n (lv' := [(2, .int 0), (0, .ref (ad 0)), (1, .int p0)]) hx hb dX9_first_6 rfl hl (by decide) rfl (fun ls hl => ?_)
  refine pu_while (fun nn H locs ls => ∃ (g_3 : Int32) (g_4 : Nat), nn = 120 - g_4 ∧ g_4 ≤ 120 ∧ va_P (dC, dI) vwCl (mo_w ad ck 0 (nI x16) (nI x18) (nI x19) x20 (nI x21) (nI x22) x23 x24 x25 (nI x26) x27 (nI x28) (nI x29) (nI x30) (nI x33) x45 (nI x46) (nI x52) (nI x53) (nI x61) (nI x62) (nI x63) (nI x65) x66 f1 f2 f3 (bN 3 q4) (bN 7 q5) (bN 7 q6) (bN 4 q7) f8 (bN 2 q9) (bH q10) f11 (b2 m12_0 m12_1) (b2 m13_0 m13_1) (b2 m14_0 m14_1) (b2m m15_0 m15_1) f17 (bA 159 q31) f32 f34 f35 f36 f37 (bN 7 q38) f39 f40 f41 (b2 m42_0 m42_1) f43 f44 f47 f48 f49 f50 f51 (bN 13 q54) (bN 120 q55) (bN 120 q56) f57 (bN 120 q58) f59 f60 f64) H ∧ va_D A (mo_w ad ck 0 (nI x16) (nI x18) (nI x19) x20 (nI x21) (nI x22) x23 x24 x25 (nI x26) x27 (nI x28) (nI x29) (nI x30) (nI x33) x45 (nI x46) (nI x52) (nI x53) (nI x61) (nI x62) (nI x63) (nI x65) x66 f1 f2 f3 (bN 3 q4) (bN 7 q5) (bN 7 q6) (bN 4 q7) f8 (bN 2 q9) (bH q10) f11 (b2 m12_0 m12_1) (b2 m13_0 m13_1) (b2 m14_0 m14_1) (b2m m15_0 m15_1) f17 (bA 159 q31) f32 f34 f35 f36 f37 (bN 7 q38) f39 f40 f41 (b2 m42_0 m42_1) f43 f44 f47 f48 f49 f50 f51 (bN 13 q54) (bN 120 q55) (bN 120 q56) f57 (bN 120 q58) f59 f60 f64) ∧ va_S A s.heap H locs ∧ lv_has ls 3 [(0, .ref (ad 0)), (1, .int g_3), (2, .int (nI g_4))]) 7 ?_ _ _ _ _ ⟨p0, 0, rfl, (Nat.le_of_ble_eq_true rfl), hP, hD, hS, lv_sub hl [1, 2, 0] rfl⟩
  rintro nn ih_5 H locs ls ⟨g_3, g_4, rfl, hg_4, hP, hD, hS, hl⟩
  refine lv_aload_n hx hb dX9_first_7 rfl (lv_at hl 0 rfl) ?_
  refine va_get (D := (dC, dI)) (ci := 9) (v := .int (nI x29)) (C := RX9) (T := TX9) (N := 67) hx hb hts hiX9 hown hK hP 0 rfl rfl 29 (by decide) v_2 (fun _ h9 => h9) rfl dX9_first_8 ?_
  refine lv_if_eq (tgt := 50) hx hb dX9_first_11 (by decide) (fun c_6 => ?_) (fun c_6 => ?_)
  · have c_6 : x29 = 0 := (nI_eq (a := x29) (b := 0) (Nat.lt_of_le_of_lt hx29 (Nat.le_of_ble_eq_true rfl)) (Nat.le_of_ble_eq_true rfl)).mp c_6
    refine lv_iconst (v := (-1)) hx hb dX9_first_50 (by decide) ?_
    exact W.iret (v := (-1)) hx hb hr (fun t ht hW => ⟨⟨(-1), (), rfl, trivial, ⟨0, ⟨by rw [ht]; exact hP, va_K.moved hW.alike hK, hD⟩⟩⟩, hS.F ht⟩) hS.2.2 dX9_first_51
  · have c_6 : ¬ x29 = 0 := fun z => c_6 ((nI_eq (a := x29) (b := 0) (Nat.lt_of_le_of_lt hx29 (Nat.le_of_ble_eq_true rfl)) (Nat.le_of_ble_eq_true rfl)).mpr z)
    refine lv_aload_n hx hb dX9_first_14 rfl (lv_at hl 0 rfl) ?_
    refine lv_iload_n hx hb dX9_first_15 rfl (lv_at hl 1 rfl) ?_
    refine va_calli (va_runV (As := [.int g_3]) (rest := []) ⟨hx, hb, hml, hown, hts⟩ (c_M_isPlace l dC dI _ ad ck 0 x16 x18 x19 x20 x21 x22 x23 x24 x25 x26 x27 x28 x29 x30 x33 x45 x46 x52 x53 x61 x62 x63 x65 x66 f1 f2 f3 q4 q5 q6 q7 f8 q9 q10 f11 m12_0 m12_1 m13_0 m13_1 m14_0 m14_1 m15_0 m15_1 f17 q31 f32 f34 f35 f36 f37 q38 f39 f40 f41 m42_0 m42_1 f43 f44 f47 f48 f49 f50 f51 q54 q55 q56 f57 q58 f59 f60 f64 g_3 hx16 hx18 hx19 hx21 hx22 hx26 hx28 hx29 hx30 hx33 hx46 hx52 hx53 hx61 hx62 hx63 hx65 hm12_0 hm12_1 hm13_0 hm13_1 hm14_0 hm14_1 hm15_0 hm15_1 hm42_0 hm42_1) (cwV 1 hts g_M_first_M_isPlace rfl rfl rfl (by decide +kernel) ⟨Nat.le_of_ble_eq_true rfl, Nat.le_of_ble_eq_true rfl⟩) ⟨pu_bl, va_recv hK hP (ci := 9) (q0 := 0) rfl rfl, pu_in hP hK hD⟩ rfl rfl hl.1 rfl (lv_room (Nat.le_of_ble_eq_true rfl)) dX9_first_16 ⟨Nat.le_of_ble_eq_true rfl, Nat.le_of_ble_eq_true rfl⟩) hS (fun q _ h => pu_fr hS hA q h) (pu_fr hS hA) (fun r_7 u t H1 locs ht hvm hw hB hz1 hk1 hS => ?_)
    have hP := pu_keep hP hk1
    clear hk1 hz1 ht hvm
    generalize H1 = H at hP hS ⊢
    rcases hw with ⟨rfl, hw⟩ | rfl
    · obtain ⟨n_8, hn_8, rfl⟩ := hw
      refine lv_if_eq (tgt := 50) hx hb dX9_first_19 (by decide) (fun z => absurd z (by decide)) (fun _ => ?_)
      refine lv_iload_n hx hb dX9_first_22 rfl (lv_at hl 2 rfl) ?_
      refine lv_aload_n hx hb dX9_first_23 rfl (lv_at hl 0 rfl) ?_
      refine va_get (D := (dC, dI)) (ci := 9) (v := .ref (ad 42)) (C := RX9) (T := TX9) (N := 67) hx hb hts hiX9 hown hK hP 0 rfl rfl 42 (by decide) v_8 (fun _ h9 => h9) rfl dX9_first_24 ?_
      refine lv_iconst (v := 0) hx hb dX9_first_27 (by decide) ?_
      refine va_iald hx hb hK hP 27 26 rfl rfl (vp_in_nI (n := 0) (Nat.le_of_ble_eq_true rfl) (Nat.le_of_ble_eq_true rfl)) dX9_first_28 ?_
      refine lv_topi (fun y_9 ey_9 => ?_)
      have qy_9 := ey_9.trans b2_0
      clear ey_9
      obtain rfl : y_9 = nI m42_0 := qy_9
      refine lv_icmp_ge (tgt := 50) hx hb dX9_first_29 (by decide) (fun c_10 => ?_) (fun c_10 => ?_)
      · have c_10 : m42_0 ≤ g_4 := (nI_leI (a := m42_0) (b := g_4) (Nat.lt_of_le_of_lt hm42_0 (Nat.le_of_ble_eq_true rfl)) (Nat.lt_of_le_of_lt hg_4 (Nat.le_of_ble_eq_true rfl))).mp c_10
        refine lv_iconst (v := (-1)) hx hb dX9_first_50 (by decide) ?_
        exact W.iret (v := (-1)) hx hb hr (fun t ht hW => ⟨⟨(-1), (), rfl, trivial, ⟨0, ⟨by rw [ht]; exact hP, va_K.moved hW.alike hK, hD⟩⟩⟩, hS.F ht⟩) hS.2.2 dX9_first_51
      · have c_10 : ¬ m42_0 ≤ g_4 := fun z => c_10 ((nI_leI (a := m42_0) (b := g_4) (Nat.lt_of_le_of_lt hm42_0 (Nat.le_of_ble_eq_true rfl)) (Nat.lt_of_le_of_lt hg_4 (Nat.le_of_ble_eq_true rfl))).mpr z)
        refine lv_aload_n hx hb dX9_first_32 rfl (lv_at hl 0 rfl) ?_
        refine va_get (D := (dC, dI)) (ci := 9) (v := .ref (ad 38)) (C := RX9) (T := TX9) (N := 67) hx hb hts hiX9 hown hK hP 0 rfl rfl 38 (by decide) v_9 (fun _ h9 => h9) rfl dX9_first_33 ?_
        refine lv_iload_n hx hb dX9_first_36 rfl (lv_at hl 2 rfl) ?_
        refine va_iald hx hb hK hP 23 22 rfl rfl (vp_in_nI (n := g_4) (Nat.lt_of_le_of_lt hg_4 (Nat.le_of_ble_eq_true rfl)) (Nat.le_of_ble_eq_true rfl)) dX9_first_37 ?_
        refine lv_topi (fun y_11 ey_11 => ?_)
        obtain ⟨u_12, hu_12, qu_12⟩ := bN_get 7 q38 (((nI g_4) : Int32).toNatClampNeg)
        obtain rfl : y_11 = nI u_12 := ey_11.trans qu_12
        refine lv_iload_n hx hb dX9_first_38 rfl (lv_at hl 1 rfl) ?_
        refine lv_icmp_ne (tgt := 44) hx hb dX9_first_39 (by decide) (fun c_13 => ?_) (fun c_13 => ?_)
        · have c_13 : ¬ u_12 = n_8 := fun z => c_13 ((nI_eq (a := u_12) (b := n_8) (Nat.lt_of_le_of_lt hu_12 (Nat.le_of_ble_eq_true rfl)) (by omega)).mpr z)
          refine lv_iinc (v := (nI (g_4 + 1))) (lv' := [(2, .int (nI (g_4 + 1))), (0, .ref (ad 0)), (1, .int (nI n_8))]) hx hb dX9_first_44 hl (k := 2) rfl (nI_1 _) (by decide) rfl (fun ls hl => ?_)
          refine lv_goto (tgt := 7) hx hb dX9_first_47 (by decide) ?_
          exact ih_5 (120 - (g_4 + 1)) (by omega) _ _ _ ⟨(nI n_8), (g_4 + 1), rfl, (by omega), hP, hD, hS, lv_sub hl [1, 2, 0] rfl⟩
        · have c_13 : u_12 = n_8 := (nI_eq (a := u_12) (b := n_8) (Nat.lt_of_le_of_lt hu_12 (Nat.le_of_ble_eq_true rfl)) (by omega)).mp c_13
          refine lv_iload_n hx hb dX9_first_42 rfl (lv_at hl 2 rfl) ?_
          exact W.iret (v := (nI g_4)) hx hb hr (fun t ht hW => ⟨⟨(nI g_4), (), rfl, trivial, ⟨0, ⟨by rw [ht]; exact hP, va_K.moved hW.alike hK, hD⟩⟩⟩, hS.F ht⟩) hS.2.2 dX9_first_43
    · refine lv_if_eq (tgt := 50) hx hb dX9_first_19 (by decide) (fun _ => ?_) (fun z => absurd z (by decide))
      refine lv_iconst (v := (-1)) hx hb dX9_first_50 (by decide) ?_
      exact W.iret (v := (-1)) hx hb hr (fun t ht hW => ⟨⟨(-1), (), rfl, trivial, ⟨0, ⟨by rw [ht]; exact hP, va_K.moved hW.alike hK, hD⟩⟩⟩, hS.F ht⟩) hS.2.2 dX9_first_51
theorem dX9_reached_0 : decode cX9_reached 0 = .ok (.aload_n 0, 1) := by decide +kernel
theorem dX9_reached_1 : decode cX9_reached 1 = .ok (.iconst 0, 1) := by decide +kernel
theorem dX9_reached_2 : decode cX9_reached 2 = .ok (.putfield 142, 3) := by decide +kernel
theorem dX9_reached_5 : decode cX9_reached 5 = .ok (.iconst 0, 1) := by decide +kernel
theorem dX9_reached_6 : decode cX9_reached 6 = .ok (.istore_n 1, 1) := by decide +kernel
theorem dX9_reached_7 : decode cX9_reached 7 = .ok (.iconst 0, 1) := by decide +kernel
theorem dX9_reached_8 : decode cX9_reached 8 = .ok (.istore_n 2, 1) := by decide +kernel
theorem dX9_reached_9 : decode cX9_reached 9 = .ok (.aload_n 0, 1) := by decide +kernel
theorem dX9_reached_10 : decode cX9_reached 10 = .ok (.getfield 273, 3) := by decide +kernel
theorem dX9_reached_13 : decode cX9_reached 13 = .ok (.ifCond .eq 30, 3) := by decide +kernel
theorem dX9_reached_16 : decode cX9_reached 16 = .ok (.iload_n 2, 1) := by decide +kernel
theorem dX9_reached_17 : decode cX9_reached 17 = .ok (.aload_n 0, 1) := by decide +kernel
theorem dX9_reached_18 : decode cX9_reached 18 = .ok (.getfield 92, 3) := by decide +kernel
theorem dX9_reached_21 : decode cX9_reached 21 = .ok (.iconst 0, 1) := by decide +kernel
theorem dX9_reached_22 : decode cX9_reached 22 = .ok (.iaload, 1) := by decide +kernel
theorem dX9_reached_23 : decode cX9_reached 23 = .ok (.if_icmp .ge 20, 3) := by decide +kernel
theorem dX9_reached_26 : decode cX9_reached 26 = .ok (.iload_n 1, 1) := by decide +kernel
theorem dX9_reached_27 : decode cX9_reached 27 = .ok (.iconst 1, 1) := by decide +kernel
theorem dX9_reached_28 : decode cX9_reached 28 = .ok (.aload_n 0, 1) := by decide +kernel
theorem dX9_reached_29 : decode cX9_reached 29 = .ok (.getfield 80, 3) := by decide +kernel
theorem dX9_reached_32 : decode cX9_reached 32 = .ok (.iload_n 2, 1) := by decide +kernel
theorem dX9_reached_33 : decode cX9_reached 33 = .ok (.iaload, 1) := by decide +kernel
theorem dX9_reached_34 : decode cX9_reached 34 = .ok (.ishl, 1) := by decide +kernel
theorem dX9_reached_35 : decode cX9_reached 35 = .ok (.ior, 1) := by decide +kernel
theorem dX9_reached_36 : decode cX9_reached 36 = .ok (.istore_n 1, 1) := by decide +kernel
theorem dX9_reached_37 : decode cX9_reached 37 = .ok (.iinc 2 1, 3) := by decide +kernel
theorem dX9_reached_40 : decode cX9_reached 40 = .ok (.goto (-31), 3) := by decide +kernel
theorem dX9_reached_43 : decode cX9_reached 43 = .ok (.aload_n 0, 1) := by decide +kernel
theorem dX9_reached_44 : decode cX9_reached 44 = .ok (.getfield 273, 3) := by decide +kernel
theorem dX9_reached_47 : decode cX9_reached 47 = .ok (.ifCond .eq 7, 3) := by decide +kernel
theorem dX9_reached_50 : decode cX9_reached 50 = .ok (.iload_n 1, 1) := by decide +kernel
theorem dX9_reached_51 : decode cX9_reached 51 = .ok (.goto 4, 3) := by decide +kernel
theorem dX9_reached_54 : decode cX9_reached 54 = .ok (.iconst (-1), 1) := by decide +kernel
theorem dX9_reached_55 : decode cX9_reached 55 = .ok (.ireturn, 1) := by decide +kernel
abbrev vs_M_reached : List Cond := .code yX9_reached cX9_reached 3 (some .int) :: VM
set_option maxHeartbeats 4000000 in
set_option maxRecDepth 100000 in
theorem c_M_reached (l : Launch) (dC : Nat → ClassId) (dI : Nat → Nat → Nat) (sz : Nat) (ad : Nat → Nat) (ck : Nat → ClassId) (x0 : Int32) (x16 : Nat) (x18 : Nat) (x19 : Nat) (x20 : Int32) (x21 : Nat) (x22 : Nat) (x23 : Int32) (x24 : Int32) (x25 : Int32) (x26 : Nat) (x27 : Int32) (x28 : Nat) (x29 : Nat) (x30 : Nat) (x33 : Nat) (x45 : Int32) (x46 : Nat) (x52 : Nat) (x53 : Nat) (x61 : Nat) (x62 : Nat) (x63 : Nat) (x65 : Nat) (x66 : Int32) (f1 : Nat → Int32) (f2 : Nat → Int32) (f3 : Nat → Int32) (q4 : Nat → Nat) (q5 : Nat → Nat) (q6 : Nat → Nat) (q7 : Nat → Nat) (f8 : Nat → Int32) (q9 : Nat → Nat) (q10 : Nat → Nat) (f11 : Nat → Int32) (m12_0 m12_1 : Nat) (m13_0 m13_1 : Nat) (m14_0 m14_1 : Nat) (m15_0 m15_1 : Nat) (f17 : Nat → Int32) (q31 : Nat → Nat) (f32 : Nat → Int32) (f34 : Nat → Int32) (f35 : Nat → Int32) (f36 : Nat → Int32) (f37 : Nat → Int32) (q38 : Nat → Nat) (f39 : Nat → Int32) (f40 : Nat → Int32) (f41 : Nat → Int32) (m42_0 m42_1 : Nat) (f43 : Nat → Int32) (f44 : Nat → Int32) (f47 : Nat → Int32) (f48 : Nat → Int32) (f49 : Nat → Int32) (f50 : Nat → Int32) (f51 : Nat → Int32) (q54 : Nat → Nat) (q55 : Nat → Nat) (q56 : Nat → Nat) (f57 : Nat → Int32) (q58 : Nat → Nat) (f59 : Nat → Int32) (f60 : Nat → Int32) (f64 : Nat → Int32) (hx16 : x16 ≤ 1) (hx18 : x18 ≤ 900) (hx19 : x19 ≤ 900) (hx21 : x21 ≤ 900) (hx22 : x22 ≤ 4) (hx26 : x26 ≤ 6) (hx28 : x28 ≤ 1) (hx29 : x29 ≤ 1) (hx30 : x30 ≤ 1) (hx33 : x33 ≤ 20) (hx46 : x46 ≤ 5) (hx52 : x52 ≤ 2400) (hx53 : x53 ≤ 119) (hx61 : x61 ≤ 119) (hx62 : x62 ≤ 2000) (hx63 : x63 ≤ 1) (hx65 : x65 ≤ 7) (hm12_0 : m12_0 ≤ 3) (hm12_1 : m12_1 ≤ 3) (hm13_0 : m13_0 ≤ 8) (hm13_1 : m13_1 ≤ 8) (hm14_0 : m14_0 ≤ 14) (hm14_1 : m14_1 ≤ 14) (hm15_0 : m15_0 ≤ 8) (hm15_1 : m15_1 ≤ 8) (hm42_0 : m42_0 ≤ 120) (hm42_1 : m42_1 ≤ 400) : Met l yX9_reached vs_M_reached ({ frames := 0, cells := 0, slots := 0, locals := 0 }) (va_Pc [.ref (ad 0)] (pu_B (dC, dI) (mo_w ad ck x0 (nI x16) (nI x18) (nI x19) x20 (nI x21) (nI x22) x23 x24 x25 (nI x26) x27 (nI x28) (nI x29) (nI x30) (nI x33) x45 (nI x46) (nI x52) (nI x53) (nI x61) (nI x62) (nI x63) (nI x65) x66 f1 f2 f3 (bN 3 q4) (bN 7 q5) (bN 7 q6) (bN 4 q7) f8 (bN 2 q9) (bH q10) f11 (b2 m12_0 m12_1) (b2 m13_0 m13_1) (b2 m14_0 m14_1) (b2m m15_0 m15_1) f17 (bA 159 q31) f32 f34 f35 f36 f37 (bN 7 q38) f39 f40 f41 (b2 m42_0 m42_1) f43 f44 f47 f48 f49 f50 f51 (bN 13 q54) (bN 120 q55) (bN 120 q56) f57 (bN 120 q58) f59 f60 f64) (mo_t ck) sz)) (va_Qi (fun (r : Int32) (_ : Unit) => True) (fun _ t => ∃ (z0 : Int32), pu_E (dC, dI) (mo_w ad ck z0 (nI x16) (nI x18) (nI x19) x20 (nI x21) (nI x22) x23 x24 x25 (nI x26) x27 (nI x28) (nI x29) (nI x30) (nI x33) x45 (nI x46) (nI x52) (nI x53) (nI x61) (nI x62) (nI x63) (nI x65) x66 f1 f2 f3 (bN 3 q4) (bN 7 q5) (bN 7 q6) (bN 4 q7) f8 (bN 2 q9) (bH q10) f11 (b2 m12_0 m12_1) (b2 m13_0 m13_1) (b2 m14_0 m14_1) (b2m m15_0 m15_1) f17 (bA 159 q31) f32 f34 f35 f36 f37 (bN 7 q38) f39 f40 f41 (b2 m42_0 m42_1) f43 f44 f47 f48 f49 f50 f51 (bN 13 q54) (bN 120 q55) (bN 120 q56) f57 (bN 120 q58) f59 f60 f64) (mo_t ck) (va_A ((mo_w ad ck x0 (nI x16) (nI x18) (nI x19) x20 (nI x21) (nI x22) x23 x24 x25 (nI x26) x27 (nI x28) (nI x29) (nI x30) (nI x33) x45 (nI x46) (nI x52) (nI x53) (nI x61) (nI x62) (nI x63) (nI x65) x66 f1 f2 f3 (bN 3 q4) (bN 7 q5) (bN 7 q6) (bN 4 q7) f8 (bN 2 q9) (bH q10) f11 (b2 m12_0 m12_1) (b2 m13_0 m13_1) (b2 m14_0 m14_1) (b2m m15_0 m15_1) f17 (bA 159 q31) f32 f34 f35 f36 f37 (bN 7 q38) f39 f40 f41 (b2 m42_0 m42_1) f43 f44 f47 f48 f49 f50 f51 (bN 13 q54) (bN 120 q55) (bN 120 q56) f57 (bN 120 q58) f59 f60 f64)) sz) t) (va_A ((mo_w ad ck x0 (nI x16) (nI x18) (nI x19) x20 (nI x21) (nI x22) x23 x24 x25 (nI x26) x27 (nI x28) (nI x29) (nI x30) (nI x33) x45 (nI x46) (nI x52) (nI x53) (nI x61) (nI x62) (nI x63) (nI x65) x66 f1 f2 f3 (bN 3 q4) (bN 7 q5) (bN 7 q6) (bN 4 q7) f8 (bN 2 q9) (bH q10) f11 (b2 m12_0 m12_1) (b2 m13_0 m13_1) (b2 m14_0 m14_1) (b2m m15_0 m15_1) f17 (bA 159 q31) f32 f34 f35 f36 f37 (bN 7 q38) f39 f40 f41 (b2 m42_0 m42_1) f43 f44 f47 f48 f49 f50 f51 (bN 13 q54) (bN 120 q55) (bN 120 q56) f57 (bN 120 q58) f59 f60 f64)) sz)) 0 0 (va_A ((mo_w ad ck x0 (nI x16) (nI x18) (nI x19) x20 (nI x21) (nI x22) x23 x24 x25 (nI x26) x27 (nI x28) (nI x29) (nI x30) (nI x33) x45 (nI x46) (nI x52) (nI x53) (nI x61) (nI x62) (nI x63) (nI x65) x66 f1 f2 f3 (bN 3 q4) (bN 7 q5) (bN 7 q6) (bN 4 q7) f8 (bN 2 q9) (bH q10) f11 (b2 m12_0 m12_1) (b2 m13_0 m13_1) (b2 m14_0 m14_1) (b2m m15_0 m15_1) f17 (bA 159 q31) f32 f34 f35 f36 f37 (bN 7 q38) f39 f40 f41 (b2 m42_0 m42_1) f43 f44 f47 f48 f49 f50 f51 (bN 13 q54) (bN 120 q55) (bN 120 q56) f57 (bN 120 q58) f59 f60 f64)) sz) := by
  refine Met.ofW (cc := cX9_reached) (maxL := 3) (ret := (some .int)) (by decide) rfl ?_
  intro p e s m args below meth c s₁ B hml hv
  obtain ⟨rfl, rfl, hP, hK, hD0⟩ := hv
  have hx := B.exec
  have hb := B.bytes
  have hr := B.returns
  have hts := atoms_spec (ws := vs_M_reached) B.pre
  have v_1 := hts (.fieldLink RX9 142 "ClockReachModel" "thrown" "I") (List.mem_cons_of_mem _ vm_24)
  have v_2 := hts (.fieldLink RX9 273 "ClockReachModel" "hasGraph" "Z") (List.mem_cons_of_mem _ vm_18)
  have v_3 := hts (.fieldLink RX9 92 "ClockReachModel" "stateMany" "[I") (List.mem_cons_of_mem _ vm_177)
  have v_4 := hts (.fieldLink RX9 80 "ClockReachModel" "statePlace" "[I") (List.mem_cons_of_mem _ vm_240)
  have hown : s.vm.findClass RX9 = some m.cls := findClass_of_methodNamed B.named
  have hlocks := B.notSynchronized
  have hiX9 : ∀ w ∈ wsX90, w ∈ vs_M_reached := fun _ h => List.mem_cons_of_mem _ (List.mem_append_right _ h)
  have hD := hD0.self (sz := s.heap.size)
  generalize hAe : va_A ((mo_w ad ck x0 (nI x16) (nI x18) (nI x19) x20 (nI x21) (nI x22) x23 x24 x25 (nI x26) x27 (nI x28) (nI x29) (nI x30) (nI x33) x45 (nI x46) (nI x52) (nI x53) (nI x61) (nI x62) (nI x63) (nI x65) x66 f1 f2 f3 (bN 3 q4) (bN 7 q5) (bN 7 q6) (bN 4 q7) f8 (bN 2 q9) (bH q10) f11 (b2 m12_0 m12_1) (b2 m13_0 m13_1) (b2 m14_0 m14_1) (b2m m15_0 m15_1) f17 (bA 159 q31) f32 f34 f35 f36 f37 (bN 7 q38) f39 f40 f41 (b2 m42_0 m42_1) f43 f44 f47 f48 f49 f50 f51 (bN 13 q54) (bN 120 q55) (bN 120 q56) f57 (bN 120 q58) f59 f60 f64)) s.heap.size = A at hD ⊢
  have hA : ∀ q : Nat, s.heap.size ≤ q → A q := fun q h => by rw [← hAe]; exact Or.inr h
  have hS : va_S A s.heap s.heap [] := va_S.rf
  have hl := lv_entry ([.ref (ad 0)]) (n := 3) (Nat.le_of_ble_eq_true rfl)
  rw [lg_entry_eq]
  generalize (lg_sl ([.ref (ad 0)]) ++ List.replicate (3 - (lg_sl ([.ref (ad 0)])).length) Slot.unset).toArray = ls at hl ⊢
  have hl : lv_has ls 3 [(0, .ref (ad 0))] := hl
  refine lv_aload_n hx hb dX9_reached_0 rfl (lv_at hl 0 rfl) ?_
  refine lv_iconst (v := 0) hx hb dX9_reached_1 (by decide) ?_
  refine va_put (D := (dC, dI)) (ci := 9) (v := .int 0) (ty := .int) (C := RX9) (T := TX9) (N := 67) hx hb hts hiX9 tyX9 tyX9_ok nmX9 hown hK hP hD hS 0 rfl rfl 0 (by decide) v_1 (fun _ h9 => h9) rfl (by decide +kernel) rfl rfl (Nat.le_of_ble_eq_true rfl) dX9_reached_2 (fun H locs hP hD hS => ?_)
  have hP : va_P (dC, dI) vwCl (mo_w ad ck 0 (nI x16) (nI x18) (nI x19) x20 (nI x21) (nI x22) x23 x24 x25 (nI x26) x27 (nI x28) (nI x29) (nI x30) (nI x33) x45 (nI x46) (nI x52) (nI x53) (nI x61) (nI x62) (nI x63) (nI x65) x66 f1 f2 f3 (bN 3 q4) (bN 7 q5) (bN 7 q6) (bN 4 q7) f8 (bN 2 q9) (bH q10) f11 (b2 m12_0 m12_1) (b2 m13_0 m13_1) (b2 m14_0 m14_1) (b2m m15_0 m15_1) f17 (bA 159 q31) f32 f34 f35 f36 f37 (bN 7 q38) f39 f40 f41 (b2 m42_0 m42_1) f43 f44 f47 f48 f49 f50 f51 (bN 13 q54) (bN 120 q55) (bN 120 q56) f57 (bN 120 q58) f59 f60 f64) H := hP
  have hD : va_D A (mo_w ad ck 0 (nI x16) (nI x18) (nI x19) x20 (nI x21) (nI x22) x23 x24 x25 (nI x26) x27 (nI x28) (nI x29) (nI x30) (nI x33) x45 (nI x46) (nI x52) (nI x53) (nI x61) (nI x62) (nI x63) (nI x65) x66 f1 f2 f3 (bN 3 q4) (bN 7 q5) (bN 7 q6) (bN 4 q7) f8 (bN 2 q9) (bH q10) f11 (b2 m12_0 m12_1) (b2 m13_0 m13_1) (b2 m14_0 m14_1) (b2m m15_0 m15_1) f17 (bA 159 q31) f32 f34 f35 f36 f37 (bN 7 q38) f39 f40 f41 (b2 m42_0 m42_1) f43 f44 f47 f48 f49 f50 f51 (bN 13 q54) (bN 120 q55) (bN 120 q56) f57 (bN 120 q58) f59 f60 f64) := hD
  refine lv_iconst (v := 0) hx hb dX9_reached_5 (by decide) ?_
  refine lv_istore_n (lv' := [(1, .int 0), (0, .ref (ad 0))]) hx hb dX9_reached_6 rfl hl (by decide) rfl (fun ls hl => ?_)
  refine lv_iconst (v := 0) hx hb dX9_reached_7 (by decide) ?_
  refine lv_istore_n (lv' := [(2, .int 0), (1, .int 0), (0, .ref (ad 0))]) hx hb dX9_reached_8 rfl hl (by decide) rfl (fun ls hl => ?_)
  refine pu_while (fun nn H locs ls => ∃ (g_3 : Int32) (g_4 : Nat), nn = 120 - g_4 ∧ g_4 ≤ 120 ∧ va_P (dC, dI) vwCl (mo_w ad ck 0 (nI x16) (nI x18) (nI x19) x20 (nI x21) (nI x22) x23 x24 x25 (nI x26) x27 (nI x28) (nI x29) (nI x30) (nI x33) x45 (nI x46) (nI x52) (nI x53) (nI x61) (nI x62) (nI x63) (nI x65) x66 f1 f2 f3 (bN 3 q4) (bN 7 q5) (bN 7 q6) (bN 4 q7) f8 (bN 2 q9) (bH q10) f11 (b2 m12_0 m12_1) (b2 m13_0 m13_1) (b2 m14_0 m14_1) (b2m m15_0 m15_1) f17 (bA 159 q31) f32 f34 f35 f36 f37 (bN 7 q38) f39 f40 f41 (b2 m42_0 m42_1) f43 f44 f47 f48 f49 f50 f51 (bN 13 q54) (bN 120 q55) (bN 120 q56) f57 (bN 120 q58) f59 f60 f64) H ∧ va_D A (mo_w ad ck 0 (nI x16) (nI x18) (nI x19) x20 (nI x21) (nI x22) x23 x24 x25 (nI x26) x27 (nI x28) (nI x29) (nI x30) (nI x33) x45 (nI x46) (nI x52) (nI x53) (nI x61) (nI x62) (nI x63) (nI x65) x66 f1 f2 f3 (bN 3 q4) (bN 7 q5) (bN 7 q6) (bN 4 q7) f8 (bN 2 q9) (bH q10) f11 (b2 m12_0 m12_1) (b2 m13_0 m13_1) (b2 m14_0 m14_1) (b2m m15_0 m15_1) f17 (bA 159 q31) f32 f34 f35 f36 f37 (bN 7 q38) f39 f40 f41 (b2 m42_0 m42_1) f43 f44 f47 f48 f49 f50 f51 (bN 13 q54) (bN 120 q55) (bN 120 q56) f57 (bN 120 q58) f59 f60 f64) ∧ va_S A s.heap H locs ∧ lv_has ls 3 [(0, .ref (ad 0)), (1, .int g_3), (2, .int (nI g_4))]) 9 ?_ _ _ _ _ ⟨0, 0, rfl, (Nat.le_of_ble_eq_true rfl), hP, hD, hS, lv_sub hl [2, 1, 0] rfl⟩
  rintro nn ih_5 H locs ls ⟨g_3, g_4, rfl, hg_4, hP, hD, hS, hl⟩
  refine lv_aload_n hx hb dX9_reached_9 rfl (lv_at hl 0 rfl) ?_
  refine va_get (D := (dC, dI)) (ci := 9) (v := .int (nI x29)) (C := RX9) (T := TX9) (N := 67) hx hb hts hiX9 hown hK hP 0 rfl rfl 29 (by decide) v_2 (fun _ h9 => h9) rfl dX9_reached_10 ?_
  refine pu_join (fun H locs ls st => st = [] ∧ va_P (dC, dI) vwCl (mo_w ad ck 0 (nI x16) (nI x18) (nI x19) x20 (nI x21) (nI x22) x23 x24 x25 (nI x26) x27 (nI x28) (nI x29) (nI x30) (nI x33) x45 (nI x46) (nI x52) (nI x53) (nI x61) (nI x62) (nI x63) (nI x65) x66 f1 f2 f3 (bN 3 q4) (bN 7 q5) (bN 7 q6) (bN 4 q7) f8 (bN 2 q9) (bH q10) f11 (b2 m12_0 m12_1) (b2 m13_0 m13_1) (b2 m14_0 m14_1) (b2m m15_0 m15_1) f17 (bA 159 q31) f32 f34 f35 f36 f37 (bN 7 q38) f39 f40 f41 (b2 m42_0 m42_1) f43 f44 f47 f48 f49 f50 f51 (bN 13 q54) (bN 120 q55) (bN 120 q56) f57 (bN 120 q58) f59 f60 f64) H ∧ va_D A (mo_w ad ck 0 (nI x16) (nI x18) (nI x19) x20 (nI x21) (nI x22) x23 x24 x25 (nI x26) x27 (nI x28) (nI x29) (nI x30) (nI x33) x45 (nI x46) (nI x52) (nI x53) (nI x61) (nI x62) (nI x63) (nI x65) x66 f1 f2 f3 (bN 3 q4) (bN 7 q5) (bN 7 q6) (bN 4 q7) f8 (bN 2 q9) (bH q10) f11 (b2 m12_0 m12_1) (b2 m13_0 m13_1) (b2 m14_0 m14_1) (b2m m15_0 m15_1) f17 (bA 159 q31) f32 f34 f35 f36 f37 (bN 7 q38) f39 f40 f41 (b2 m42_0 m42_1) f43 f44 f47 f48 f49 f50 f51 (bN 13 q54) (bN 120 q55) (bN 120 q56) f57 (bN 120 q58) f59 f60 f64) ∧ va_S A s.heap H locs ∧ lv_has ls 3 [(0, .ref (ad 0)), (1, .int g_3), (2, .int (nI g_4))]) 43 ?_ (fun j_6 => ?_)
  · rintro H locs ls st ⟨rfl, hP, hD, hS, hl⟩
    refine lv_aload_n hx hb dX9_reached_43 rfl (lv_at hl 0 rfl) ?_
    refine va_get (D := (dC, dI)) (ci := 9) (v := .int (nI x29)) (C := RX9) (T := TX9) (N := 67) hx hb hts hiX9 hown hK hP 0 rfl rfl 29 (by decide) v_2 (fun _ h9 => h9) rfl dX9_reached_44 ?_
    refine lv_if_eq (tgt := 54) hx hb dX9_reached_47 (by decide) (fun c_7 => ?_) (fun c_7 => ?_)
    · have c_7 : x29 = 0 := (nI_eq (a := x29) (b := 0) (Nat.lt_of_le_of_lt hx29 (Nat.le_of_ble_eq_true rfl)) (Nat.le_of_ble_eq_true rfl)).mp c_7
      refine lv_iconst (v := (-1)) hx hb dX9_reached_54 (by decide) ?_
      exact W.iret (v := (-1)) hx hb hr (fun t ht hW => ⟨⟨(-1), (), rfl, trivial, ⟨0, ⟨by rw [ht]; exact hP, va_K.moved hW.alike hK, hD⟩⟩⟩, hS.F ht⟩) hS.2.2 dX9_reached_55
    · have c_7 : ¬ x29 = 0 := fun z => c_7 ((nI_eq (a := x29) (b := 0) (Nat.lt_of_le_of_lt hx29 (Nat.le_of_ble_eq_true rfl)) (Nat.le_of_ble_eq_true rfl)).mpr z)
      refine lv_iload_n hx hb dX9_reached_50 rfl (lv_at hl 1 rfl) ?_
      refine lv_goto (tgt := 55) hx hb dX9_reached_51 (by decide) ?_
      exact W.iret (v := g_3) hx hb hr (fun t ht hW => ⟨⟨g_3, (), rfl, trivial, ⟨0, ⟨by rw [ht]; exact hP, va_K.moved hW.alike hK, hD⟩⟩⟩, hS.F ht⟩) hS.2.2 dX9_reached_55
  refine lv_if_eq (tgt := 43) hx hb dX9_reached_13 (by decide) (fun c_8 => ?_) (fun c_8 => ?_)
  · have c_8 : x29 = 0 := (nI_eq (a := x29) (b := 0) (Nat.lt_of_le_of_lt hx29 (Nat.le_of_ble_eq_true rfl)) (Nat.le_of_ble_eq_true rfl)).mp c_8
    exact j_6 _ _ _ _ ⟨rfl, hP, hD, hS, lv_sub hl [0, 1, 2] rfl⟩
  · have c_8 : ¬ x29 = 0 := fun z => c_8 ((nI_eq (a := x29) (b := 0) (Nat.lt_of_le_of_lt hx29 (Nat.le_of_ble_eq_true rfl)) (Nat.le_of_ble_eq_true rfl)).mpr z)
    refine lv_iload_n hx hb dX9_reached_16 rfl (lv_at hl 2 rfl) ?_
    refine lv_aload_n hx hb dX9_reached_17 rfl (lv_at hl 0 rfl) ?_
    refine va_get (D := (dC, dI)) (ci := 9) (v := .ref (ad 42)) (C := RX9) (T := TX9) (N := 67) hx hb hts hiX9 hown hK hP 0 rfl rfl 42 (by decide) v_3 (fun _ h9 => h9) rfl dX9_reached_18 ?_
    refine lv_iconst (v := 0) hx hb dX9_reached_21 (by decide) ?_
    refine va_iald hx hb hK hP 27 26 rfl rfl (vp_in_nI (n := 0) (Nat.le_of_ble_eq_true rfl) (Nat.le_of_ble_eq_true rfl)) dX9_reached_22 ?_
    refine lv_topi (fun y_9 ey_9 => ?_)
    have qy_9 := ey_9.trans b2_0
    clear ey_9
    obtain rfl : y_9 = nI m42_0 := qy_9
    refine lv_icmp_ge (tgt := 43) hx hb dX9_reached_23 (by decide) (fun c_10 => ?_) (fun c_10 => ?_)
    · have c_10 : m42_0 ≤ g_4 := (nI_leI (a := m42_0) (b := g_4) (Nat.lt_of_le_of_lt hm42_0 (Nat.le_of_ble_eq_true rfl)) (Nat.lt_of_le_of_lt hg_4 (Nat.le_of_ble_eq_true rfl))).mp c_10
      exact j_6 _ _ _ _ ⟨rfl, hP, hD, hS, lv_sub hl [0, 1, 2] rfl⟩
    · have c_10 : ¬ m42_0 ≤ g_4 := fun z => c_10 ((nI_leI (a := m42_0) (b := g_4) (Nat.lt_of_le_of_lt hm42_0 (Nat.le_of_ble_eq_true rfl)) (Nat.lt_of_le_of_lt hg_4 (Nat.le_of_ble_eq_true rfl))).mpr z)
      refine lv_iload_n hx hb dX9_reached_26 rfl (lv_at hl 1 rfl) ?_
      refine lv_iconst (v := 1) hx hb dX9_reached_27 (by decide) ?_
      refine lv_aload_n hx hb dX9_reached_28 rfl (lv_at hl 0 rfl) ?_
      refine va_get (D := (dC, dI)) (ci := 9) (v := .ref (ad 38)) (C := RX9) (T := TX9) (N := 67) hx hb hts hiX9 hown hK hP 0 rfl rfl 38 (by decide) v_4 (fun _ h9 => h9) rfl dX9_reached_29 ?_
      refine lv_iload_n hx hb dX9_reached_32 rfl (lv_at hl 2 rfl) ?_
      refine va_iald hx hb hK hP 23 22 rfl rfl (vp_in_nI (n := g_4) (Nat.lt_of_le_of_lt hg_4 (Nat.le_of_ble_eq_true rfl)) (Nat.le_of_ble_eq_true rfl)) dX9_reached_33 ?_
      refine lv_topi (fun y_11 ey_11 => ?_)
      obtain ⟨u_12, hu_12, qu_12⟩ := bN_get 7 q38 (((nI g_4) : Int32).toNatClampNeg)
      obtain rfl : y_11 = nI u_12 := ey_11.trans qu_12
      refine lv_ishl hx hb dX9_reached_34 ?_
      refine lv_topi (fun y_13 ey_13 => ?_)
      refine lv_ior hx hb dX9_reached_35 ?_
      refine lv_topi (fun y_14 ey_14 => ?_)
      refine lv_istore_n (lv' := [(1, .int y_14), (0, .ref (ad 0)), (2, .int (nI g_4))]) hx hb dX9_reached_36 rfl hl (by decide) rfl (fun ls hl => ?_)
      refine lv_iinc (v := (nI (g_4 + 1))) (lv' := [(2, .int (nI (g_4 + 1))), (1, .int y_14), (0, .ref (ad 0))]) hx hb dX9_reached_37 hl (k := 2) rfl (nI_1 _) (by decide) rfl (fun ls hl => ?_)
      refine lv_goto (tgt := 9) hx hb dX9_reached_40 (by decide) ?_
      exact ih_5 (120 - (g_4 + 1)) (by omega) _ _ _ ⟨y_14, (g_4 + 1), rfl, (by omega), hP, hD, hS, lv_sub hl [2, 1, 0] rfl⟩
theorem dX9_taken_0 : decode cX9_taken 0 = .ok (.aload_n 0, 1) := by decide +kernel
theorem dX9_taken_1 : decode cX9_taken 1 = .ok (.iconst 0, 1) := by decide +kernel
theorem dX9_taken_2 : decode cX9_taken 2 = .ok (.putfield 142, 3) := by decide +kernel
theorem dX9_taken_5 : decode cX9_taken 5 = .ok (.aload_n 0, 1) := by decide +kernel
theorem dX9_taken_6 : decode cX9_taken 6 = .ok (.getfield 273, 3) := by decide +kernel
theorem dX9_taken_9 : decode cX9_taken 9 = .ok (.ifCond .eq 12, 3) := by decide +kernel
theorem dX9_taken_12 : decode cX9_taken 12 = .ok (.aload_n 0, 1) := by decide +kernel
theorem dX9_taken_13 : decode cX9_taken 13 = .ok (.getfield 95, 3) := by decide +kernel
theorem dX9_taken_16 : decode cX9_taken 16 = .ok (.iconst 0, 1) := by decide +kernel
theorem dX9_taken_17 : decode cX9_taken 17 = .ok (.iaload, 1) := by decide +kernel
theorem dX9_taken_18 : decode cX9_taken 18 = .ok (.goto 4, 3) := by decide +kernel
theorem dX9_taken_21 : decode cX9_taken 21 = .ok (.iconst (-1), 1) := by decide +kernel
theorem dX9_taken_22 : decode cX9_taken 22 = .ok (.ireturn, 1) := by decide +kernel
abbrev vs_M_taken : List Cond := .code yX9_taken cX9_taken 1 (some .int) :: VM
set_option maxHeartbeats 4000000 in
set_option maxRecDepth 100000 in
theorem c_M_taken (l : Launch) (dC : Nat → ClassId) (dI : Nat → Nat → Nat) (sz : Nat) (ad : Nat → Nat) (ck : Nat → ClassId) (x0 : Int32) (x16 : Nat) (x18 : Nat) (x19 : Nat) (x20 : Int32) (x21 : Nat) (x22 : Nat) (x23 : Int32) (x24 : Int32) (x25 : Int32) (x26 : Nat) (x27 : Int32) (x28 : Nat) (x29 : Nat) (x30 : Nat) (x33 : Nat) (x45 : Int32) (x46 : Nat) (x52 : Nat) (x53 : Nat) (x61 : Nat) (x62 : Nat) (x63 : Nat) (x65 : Nat) (x66 : Int32) (f1 : Nat → Int32) (f2 : Nat → Int32) (f3 : Nat → Int32) (q4 : Nat → Nat) (q5 : Nat → Nat) (q6 : Nat → Nat) (q7 : Nat → Nat) (f8 : Nat → Int32) (q9 : Nat → Nat) (q10 : Nat → Nat) (f11 : Nat → Int32) (m12_0 m12_1 : Nat) (m13_0 m13_1 : Nat) (m14_0 m14_1 : Nat) (m15_0 m15_1 : Nat) (f17 : Nat → Int32) (q31 : Nat → Nat) (f32 : Nat → Int32) (f34 : Nat → Int32) (f35 : Nat → Int32) (f36 : Nat → Int32) (f37 : Nat → Int32) (q38 : Nat → Nat) (f39 : Nat → Int32) (f40 : Nat → Int32) (f41 : Nat → Int32) (m42_0 m42_1 : Nat) (f43 : Nat → Int32) (f44 : Nat → Int32) (f47 : Nat → Int32) (f48 : Nat → Int32) (f49 : Nat → Int32) (f50 : Nat → Int32) (f51 : Nat → Int32) (q54 : Nat → Nat) (q55 : Nat → Nat) (q56 : Nat → Nat) (f57 : Nat → Int32) (q58 : Nat → Nat) (f59 : Nat → Int32) (f60 : Nat → Int32) (f64 : Nat → Int32) (hx16 : x16 ≤ 1) (hx18 : x18 ≤ 900) (hx19 : x19 ≤ 900) (hx21 : x21 ≤ 900) (hx22 : x22 ≤ 4) (hx26 : x26 ≤ 6) (hx28 : x28 ≤ 1) (hx29 : x29 ≤ 1) (hx30 : x30 ≤ 1) (hx33 : x33 ≤ 20) (hx46 : x46 ≤ 5) (hx52 : x52 ≤ 2400) (hx53 : x53 ≤ 119) (hx61 : x61 ≤ 119) (hx62 : x62 ≤ 2000) (hx63 : x63 ≤ 1) (hx65 : x65 ≤ 7) (hm12_0 : m12_0 ≤ 3) (hm12_1 : m12_1 ≤ 3) (hm13_0 : m13_0 ≤ 8) (hm13_1 : m13_1 ≤ 8) (hm14_0 : m14_0 ≤ 14) (hm14_1 : m14_1 ≤ 14) (hm15_0 : m15_0 ≤ 8) (hm15_1 : m15_1 ≤ 8) (hm42_0 : m42_0 ≤ 120) (hm42_1 : m42_1 ≤ 400) : Met l yX9_taken vs_M_taken ({ frames := 0, cells := 0, slots := 0, locals := 0 }) (va_Pc [.ref (ad 0)] (pu_B (dC, dI) (mo_w ad ck x0 (nI x16) (nI x18) (nI x19) x20 (nI x21) (nI x22) x23 x24 x25 (nI x26) x27 (nI x28) (nI x29) (nI x30) (nI x33) x45 (nI x46) (nI x52) (nI x53) (nI x61) (nI x62) (nI x63) (nI x65) x66 f1 f2 f3 (bN 3 q4) (bN 7 q5) (bN 7 q6) (bN 4 q7) f8 (bN 2 q9) (bH q10) f11 (b2 m12_0 m12_1) (b2 m13_0 m13_1) (b2 m14_0 m14_1) (b2m m15_0 m15_1) f17 (bA 159 q31) f32 f34 f35 f36 f37 (bN 7 q38) f39 f40 f41 (b2 m42_0 m42_1) f43 f44 f47 f48 f49 f50 f51 (bN 13 q54) (bN 120 q55) (bN 120 q56) f57 (bN 120 q58) f59 f60 f64) (mo_t ck) sz)) (va_Qi (fun (r : Int32) (_ : Unit) => True) (fun _ t => ∃ (z0 : Int32), pu_E (dC, dI) (mo_w ad ck z0 (nI x16) (nI x18) (nI x19) x20 (nI x21) (nI x22) x23 x24 x25 (nI x26) x27 (nI x28) (nI x29) (nI x30) (nI x33) x45 (nI x46) (nI x52) (nI x53) (nI x61) (nI x62) (nI x63) (nI x65) x66 f1 f2 f3 (bN 3 q4) (bN 7 q5) (bN 7 q6) (bN 4 q7) f8 (bN 2 q9) (bH q10) f11 (b2 m12_0 m12_1) (b2 m13_0 m13_1) (b2 m14_0 m14_1) (b2m m15_0 m15_1) f17 (bA 159 q31) f32 f34 f35 f36 f37 (bN 7 q38) f39 f40 f41 (b2 m42_0 m42_1) f43 f44 f47 f48 f49 f50 f51 (bN 13 q54) (bN 120 q55) (bN 120 q56) f57 (bN 120 q58) f59 f60 f64) (mo_t ck) (va_A ((mo_w ad ck x0 (nI x16) (nI x18) (nI x19) x20 (nI x21) (nI x22) x23 x24 x25 (nI x26) x27 (nI x28) (nI x29) (nI x30) (nI x33) x45 (nI x46) (nI x52) (nI x53) (nI x61) (nI x62) (nI x63) (nI x65) x66 f1 f2 f3 (bN 3 q4) (bN 7 q5) (bN 7 q6) (bN 4 q7) f8 (bN 2 q9) (bH q10) f11 (b2 m12_0 m12_1) (b2 m13_0 m13_1) (b2 m14_0 m14_1) (b2m m15_0 m15_1) f17 (bA 159 q31) f32 f34 f35 f36 f37 (bN 7 q38) f39 f40 f41 (b2 m42_0 m42_1) f43 f44 f47 f48 f49 f50 f51 (bN 13 q54) (bN 120 q55) (bN 120 q56) f57 (bN 120 q58) f59 f60 f64)) sz) t) (va_A ((mo_w ad ck x0 (nI x16) (nI x18) (nI x19) x20 (nI x21) (nI x22) x23 x24 x25 (nI x26) x27 (nI x28) (nI x29) (nI x30) (nI x33) x45 (nI x46) (nI x52) (nI x53) (nI x61) (nI x62) (nI x63) (nI x65) x66 f1 f2 f3 (bN 3 q4) (bN 7 q5) (bN 7 q6) (bN 4 q7) f8 (bN 2 q9) (bH q10) f11 (b2 m12_0 m12_1) (b2 m13_0 m13_1) (b2 m14_0 m14_1) (b2m m15_0 m15_1) f17 (bA 159 q31) f32 f34 f35 f36 f37 (bN 7 q38) f39 f40 f41 (b2 m42_0 m42_1) f43 f44 f47 f48 f49 f50 f51 (bN 13 q54) (bN 120 q55) (bN 120 q56) f57 (bN 120 q58) f59 f60 f64)) sz)) 0 0 (va_A ((mo_w ad ck x0 (nI x16) (nI x18) (nI x19) x20 (nI x21) (nI x22) x23 x24 x25 (nI x26) x27 (nI x28) (nI x29) (nI x30) (nI x33) x45 (nI x46) (nI x52) (nI x53) (nI x61) (nI x62) (nI x63) (nI x65) x66 f1 f2 f3 (bN 3 q4) (bN 7 q5) (bN 7 q6) (bN 4 q7) f8 (bN 2 q9) (bH q10) f11 (b2 m12_0 m12_1) (b2 m13_0 m13_1) (b2 m14_0 m14_1) (b2m m15_0 m15_1) f17 (bA 159 q31) f32 f34 f35 f36 f37 (bN 7 q38) f39 f40 f41 (b2 m42_0 m42_1) f43 f44 f47 f48 f49 f50 f51 (bN 13 q54) (bN 120 q55) (bN 120 q56) f57 (bN 120 q58) f59 f60 f64)) sz) := by
  refine Met.ofW (cc := cX9_taken) (maxL := 1) (ret := (some .int)) (by decide) rfl ?_
  intro p e s m args below meth c s₁ B hml hv
  obtain ⟨rfl, rfl, hP, hK, hD0⟩ := hv
  have hx := B.exec
  have hb := B.bytes
  have hr := B.returns
  have hts := atoms_spec (ws := vs_M_taken) B.pre
  have v_1 := hts (.fieldLink RX9 142 "ClockReachModel" "thrown" "I") (List.mem_cons_of_mem _ vm_24)
  have v_2 := hts (.fieldLink RX9 273 "ClockReachModel" "hasGraph" "Z") (List.mem_cons_of_mem _ vm_18)
  have v_3 := hts (.fieldLink RX9 95 "ClockReachModel" "takenBy" "[I") (List.mem_cons_of_mem _ vm_259)
  have hown : s.vm.findClass RX9 = some m.cls := findClass_of_methodNamed B.named
  have hlocks := B.notSynchronized
  have hiX9 : ∀ w ∈ wsX90, w ∈ vs_M_taken := fun _ h => List.mem_cons_of_mem _ (List.mem_append_right _ h)
  have hD := hD0.self (sz := s.heap.size)
  generalize hAe : va_A ((mo_w ad ck x0 (nI x16) (nI x18) (nI x19) x20 (nI x21) (nI x22) x23 x24 x25 (nI x26) x27 (nI x28) (nI x29) (nI x30) (nI x33) x45 (nI x46) (nI x52) (nI x53) (nI x61) (nI x62) (nI x63) (nI x65) x66 f1 f2 f3 (bN 3 q4) (bN 7 q5) (bN 7 q6) (bN 4 q7) f8 (bN 2 q9) (bH q10) f11 (b2 m12_0 m12_1) (b2 m13_0 m13_1) (b2 m14_0 m14_1) (b2m m15_0 m15_1) f17 (bA 159 q31) f32 f34 f35 f36 f37 (bN 7 q38) f39 f40 f41 (b2 m42_0 m42_1) f43 f44 f47 f48 f49 f50 f51 (bN 13 q54) (bN 120 q55) (bN 120 q56) f57 (bN 120 q58) f59 f60 f64)) s.heap.size = A at hD ⊢
  have hA : ∀ q : Nat, s.heap.size ≤ q → A q := fun q h => by rw [← hAe]; exact Or.inr h
  have hS : va_S A s.heap s.heap [] := va_S.rf
  have hl := lv_entry ([.ref (ad 0)]) (n := 1) (Nat.le_of_ble_eq_true rfl)
  rw [lg_entry_eq]
  generalize (lg_sl ([.ref (ad 0)]) ++ List.replicate (1 - (lg_sl ([.ref (ad 0)])).length) Slot.unset).toArray = ls at hl ⊢
  have hl : lv_has ls 1 [(0, .ref (ad 0))] := hl
  refine lv_aload_n hx hb dX9_taken_0 rfl (lv_at hl 0 rfl) ?_
  refine lv_iconst (v := 0) hx hb dX9_taken_1 (by decide) ?_
  refine va_put (D := (dC, dI)) (ci := 9) (v := .int 0) (ty := .int) (C := RX9) (T := TX9) (N := 67) hx hb hts hiX9 tyX9 tyX9_ok nmX9 hown hK hP hD hS 0 rfl rfl 0 (by decide) v_1 (fun _ h9 => h9) rfl (by decide +kernel) rfl rfl (Nat.le_of_ble_eq_true rfl) dX9_taken_2 (fun H locs hP hD hS => ?_)
  have hP : va_P (dC, dI) vwCl (mo_w ad ck 0 (nI x16) (nI x18) (nI x19) x20 (nI x21) (nI x22) x23 x24 x25 (nI x26) x27 (nI x28) (nI x29) (nI x30) (nI x33) x45 (nI x46) (nI x52) (nI x53) (nI x61) (nI x62) (nI x63) (nI x65) x66 f1 f2 f3 (bN 3 q4) (bN 7 q5) (bN 7 q6) (bN 4 q7) f8 (bN 2 q9) (bH q10) f11 (b2 m12_0 m12_1) (b2 m13_0 m13_1) (b2 m14_0 m14_1) (b2m m15_0 m15_1) f17 (bA 159 q31) f32 f34 f35 f36 f37 (bN 7 q38) f39 f40 f41 (b2 m42_0 m42_1) f43 f44 f47 f48 f49 f50 f51 (bN 13 q54) (bN 120 q55) (bN 120 q56) f57 (bN 120 q58) f59 f60 f64) H := hP
  have hD : va_D A (mo_w ad ck 0 (nI x16) (nI x18) (nI x19) x20 (nI x21) (nI x22) x23 x24 x25 (nI x26) x27 (nI x28) (nI x29) (nI x30) (nI x33) x45 (nI x46) (nI x52) (nI x53) (nI x61) (nI x62) (nI x63) (nI x65) x66 f1 f2 f3 (bN 3 q4) (bN 7 q5) (bN 7 q6) (bN 4 q7) f8 (bN 2 q9) (bH q10) f11 (b2 m12_0 m12_1) (b2 m13_0 m13_1) (b2 m14_0 m14_1) (b2m m15_0 m15_1) f17 (bA 159 q31) f32 f34 f35 f36 f37 (bN 7 q38) f39 f40 f41 (b2 m42_0 m42_1) f43 f44 f47 f48 f49 f50 f51 (bN 13 q54) (bN 120 q55) (bN 120 q56) f57 (bN 120 q58) f59 f60 f64) := hD
  refine lv_aload_n hx hb dX9_taken_5 rfl (lv_at hl 0 rfl) ?_
  refine va_get (D := (dC, dI)) (ci := 9) (v := .int (nI x29)) (C := RX9) (T := TX9) (N := 67) hx hb hts hiX9 hown hK hP 0 rfl rfl 29 (by decide) v_2 (fun _ h9 => h9) rfl dX9_taken_6 ?_
  refine lv_if_eq (tgt := 21) hx hb dX9_taken_9 (by decide) (fun c_1 => ?_) (fun c_1 => ?_)
  · have c_1 : x29 = 0 := (nI_eq (a := x29) (b := 0) (Nat.lt_of_le_of_lt hx29 (Nat.le_of_ble_eq_true rfl)) (Nat.le_of_ble_eq_true rfl)).mp c_1
    refine lv_iconst (v := (-1)) hx hb dX9_taken_21 (by decide) ?_
    exact W.iret (v := (-1)) hx hb hr (fun t ht hW => ⟨⟨(-1), (), rfl, trivial, ⟨0, ⟨by rw [ht]; exact hP, va_K.moved hW.alike hK, hD⟩⟩⟩, hS.F ht⟩) hS.2.2 dX9_taken_22
  · have c_1 : ¬ x29 = 0 := fun z => c_1 ((nI_eq (a := x29) (b := 0) (Nat.lt_of_le_of_lt hx29 (Nat.le_of_ble_eq_true rfl)) (Nat.le_of_ble_eq_true rfl)).mpr z)
    refine lv_aload_n hx hb dX9_taken_12 rfl (lv_at hl 0 rfl) ?_
    refine va_get (D := (dC, dI)) (ci := 9) (v := .ref (ad 43)) (C := RX9) (T := TX9) (N := 67) hx hb hts hiX9 hown hK hP 0 rfl rfl 43 (by decide) v_3 (fun _ h9 => h9) rfl dX9_taken_13 ?_
    refine lv_iconst (v := 0) hx hb dX9_taken_16 (by decide) ?_
    refine va_iald hx hb hK hP 28 27 rfl rfl (vp_in_nI (n := 0) (Nat.le_of_ble_eq_true rfl) (Nat.le_of_ble_eq_true rfl)) dX9_taken_17 ?_
    refine lv_topi (fun y_2 ey_2 => ?_)
    refine lv_goto (tgt := 22) hx hb dX9_taken_18 (by decide) ?_
    exact W.iret (v := y_2) hx hb hr (fun t ht hW => ⟨⟨y_2, (), rfl, trivial, ⟨0, ⟨by rw [ht]; exact hP, va_K.moved hW.alike hK, hD⟩⟩⟩, hS.F ht⟩) hS.2.2 dX9_taken_22
theorem dX9_overlap_0 : decode cX9_overlap 0 = .ok (.aload_n 0, 1) := by decide +kernel
theorem dX9_overlap_1 : decode cX9_overlap 1 = .ok (.iconst 0, 1) := by decide +kernel
theorem dX9_overlap_2 : decode cX9_overlap 2 = .ok (.putfield 142, 3) := by decide +kernel
theorem dX9_overlap_5 : decode cX9_overlap 5 = .ok (.aload_n 0, 1) := by decide +kernel
theorem dX9_overlap_6 : decode cX9_overlap 6 = .ok (.iload_n 1, 1) := by decide +kernel
theorem dX9_overlap_7 : decode cX9_overlap 7 = .ok (.invokevirtual 387, 3) := by decide +kernel
theorem dX9_overlap_10 : decode cX9_overlap 10 = .ok (.ifCond .eq 11, 3) := by decide +kernel
theorem dX9_overlap_13 : decode cX9_overlap 13 = .ok (.aload_n 0, 1) := by decide +kernel
theorem dX9_overlap_14 : decode cX9_overlap 14 = .ok (.iload_n 2, 1) := by decide +kernel
theorem dX9_overlap_15 : decode cX9_overlap 15 = .ok (.invokevirtual 387, 3) := by decide +kernel
theorem dX9_overlap_18 : decode cX9_overlap 18 = .ok (.ifCond .ne 5, 3) := by decide +kernel
theorem dX9_overlap_21 : decode cX9_overlap 21 = .ok (.iconst (-1), 1) := by decide +kernel
theorem dX9_overlap_22 : decode cX9_overlap 22 = .ok (.ireturn, 1) := by decide +kernel
theorem dX9_overlap_23 : decode cX9_overlap 23 = .ok (.iconst 0, 1) := by decide +kernel
theorem dX9_overlap_24 : decode cX9_overlap 24 = .ok (.istore_n 3, 1) := by decide +kernel
theorem dX9_overlap_25 : decode cX9_overlap 25 = .ok (.iload_n 3, 1) := by decide +kernel
theorem dX9_overlap_26 : decode cX9_overlap 26 = .ok (.bipush 25, 2) := by decide +kernel
theorem dX9_overlap_28 : decode cX9_overlap 28 = .ok (.if_icmp .ge 40, 3) := by decide +kernel
theorem dX9_overlap_31 : decode cX9_overlap 31 = .ok (.aload_n 0, 1) := by decide +kernel
theorem dX9_overlap_32 : decode cX9_overlap 32 = .ok (.getfield 71, 3) := by decide +kernel
theorem dX9_overlap_35 : decode cX9_overlap 35 = .ok (.iload_n 3, 1) := by decide +kernel
theorem dX9_overlap_36 : decode cX9_overlap 36 = .ok (.aload_n 0, 1) := by decide +kernel
theorem dX9_overlap_37 : decode cX9_overlap 37 = .ok (.getfield 68, 3) := by decide +kernel
theorem dX9_overlap_40 : decode cX9_overlap 40 = .ok (.bipush 25, 2) := by decide +kernel
theorem dX9_overlap_42 : decode cX9_overlap 42 = .ok (.iload_n 1, 1) := by decide +kernel
theorem dX9_overlap_43 : decode cX9_overlap 43 = .ok (.imul, 1) := by decide +kernel
theorem dX9_overlap_44 : decode cX9_overlap 44 = .ok (.iload_n 3, 1) := by decide +kernel
theorem dX9_overlap_45 : decode cX9_overlap 45 = .ok (.iadd, 1) := by decide +kernel
theorem dX9_overlap_46 : decode cX9_overlap 46 = .ok (.iaload, 1) := by decide +kernel
theorem dX9_overlap_47 : decode cX9_overlap 47 = .ok (.aload_n 0, 1) := by decide +kernel
theorem dX9_overlap_48 : decode cX9_overlap 48 = .ok (.getfield 68, 3) := by decide +kernel
theorem dX9_overlap_51 : decode cX9_overlap 51 = .ok (.bipush 25, 2) := by decide +kernel
theorem dX9_overlap_53 : decode cX9_overlap 53 = .ok (.iload_n 2, 1) := by decide +kernel
theorem dX9_overlap_54 : decode cX9_overlap 54 = .ok (.imul, 1) := by decide +kernel
theorem dX9_overlap_55 : decode cX9_overlap 55 = .ok (.iload_n 3, 1) := by decide +kernel
theorem dX9_overlap_56 : decode cX9_overlap 56 = .ok (.iadd, 1) := by decide +kernel
theorem dX9_overlap_57 : decode cX9_overlap 57 = .ok (.iaload, 1) := by decide +kernel
theorem dX9_overlap_58 : decode cX9_overlap 58 = .ok (.invokestatic 182, 3) := by decide +kernel
theorem dX9_overlap_61 : decode cX9_overlap 61 = .ok (.iastore, 1) := by decide +kernel
theorem dX9_overlap_62 : decode cX9_overlap 62 = .ok (.iinc 3 1, 3) := by decide +kernel
theorem dX9_overlap_65 : decode cX9_overlap 65 = .ok (.goto (-40), 3) := by decide +kernel
theorem dX9_overlap_68 : decode cX9_overlap 68 = .ok (.aload_n 0, 1) := by decide +kernel
theorem dX9_overlap_69 : decode cX9_overlap 69 = .ok (.aload_n 0, 1) := by decide +kernel
theorem dX9_overlap_70 : decode cX9_overlap 70 = .ok (.getfield 71, 3) := by decide +kernel
theorem dX9_overlap_73 : decode cX9_overlap 73 = .ok (.invokevirtual 345, 3) := by decide +kernel
theorem dX9_overlap_76 : decode cX9_overlap 76 = .ok (.ifCond .eq 7, 3) := by decide +kernel
theorem dX9_overlap_79 : decode cX9_overlap 79 = .ok (.iconst 1, 1) := by decide +kernel
theorem dX9_overlap_80 : decode cX9_overlap 80 = .ok (.goto 4, 3) := by decide +kernel
theorem dX9_overlap_83 : decode cX9_overlap 83 = .ok (.iconst 0, 1) := by decide +kernel
theorem dX9_overlap_84 : decode cX9_overlap 84 = .ok (.ireturn, 1) := by decide +kernel
abbrev vs_M_overlap : List Cond := .code yX9_overlap cX9_overlap 4 (some .int) :: VM
theorem g_M_overlap_X9_lesser : GoodIn vs_M_overlap (va_wsS RX9 182 yX9_lesser vs_X9_lesser) := gm_0 (fun w h => by
  rcases List.mem_cons.mp h with rfl | h
  · exact vm_10
  rcases List.mem_cons.mp h with rfl | h
  · exact vm_11
  rcases List.mem_cons.mp h with rfl | h
  · exact vm_12
  rcases List.mem_cons.mp h with rfl | h
  · exact vm_3
  exact absurd h (List.not_mem_nil))
theorem g_M_overlap_M_isState : GoodIn vs_M_overlap (wsV RX9 387 RX9 yX9_isState vs_M_isState) := gm_V vm_279 vm_280 vm_281 vm_12 vm_276
theorem g_M_overlap_M_closes_z : GoodIn vs_M_overlap (wsV RX9 345 RX9 yX9_closes vs_M_closes_z) := gm_V vm_224 vm_225 vm_226 vm_12 vm_208
set_option maxHeartbeats 4000000 in
set_option maxRecDepth 100000 in
theorem c_M_overlap (l : Launch) (dC : Nat → ClassId) (dI : Nat → Nat → Nat) (sz : Nat) (ad : Nat → Nat) (ck : Nat → ClassId) (x0 : Int32) (x16 : Nat) (x18 : Nat) (x19 : Nat) (x20 : Int32) (x21 : Nat) (x22 : Nat) (x23 : Int32) (x24 : Int32) (x25 : Int32) (x26 : Nat) (x27 : Int32) (x28 : Nat) (x29 : Nat) (x30 : Nat) (x33 : Nat) (x45 : Int32) (x46 : Nat) (x52 : Nat) (x53 : Nat) (x61 : Nat) (x62 : Nat) (x63 : Nat) (x65 : Nat) (x66 : Int32) (f1 : Nat → Int32) (f2 : Nat → Int32) (f3 : Nat → Int32) (q4 : Nat → Nat) (q5 : Nat → Nat) (q6 : Nat → Nat) (q7 : Nat → Nat) (f8 : Nat → Int32) (q9 : Nat → Nat) (q10 : Nat → Nat) (f11 : Nat → Int32) (m12_0 m12_1 : Nat) (m13_0 m13_1 : Nat) (m14_0 m14_1 : Nat) (m15_0 m15_1 : Nat) (f17 : Nat → Int32) (q31 : Nat → Nat) (f32 : Nat → Int32) (f34 : Nat → Int32) (f35 : Nat → Int32) (f36 : Nat → Int32) (f37 : Nat → Int32) (q38 : Nat → Nat) (f39 : Nat → Int32) (f40 : Nat → Int32) (f41 : Nat → Int32) (m42_0 m42_1 : Nat) (f43 : Nat → Int32) (f44 : Nat → Int32) (f47 : Nat → Int32) (f48 : Nat → Int32) (f49 : Nat → Int32) (f50 : Nat → Int32) (f51 : Nat → Int32) (q54 : Nat → Nat) (q55 : Nat → Nat) (q56 : Nat → Nat) (f57 : Nat → Int32) (q58 : Nat → Nat) (f59 : Nat → Int32) (f60 : Nat → Int32) (f64 : Nat → Int32) (p0 : Int32) (p1 : Int32) (hx16 : x16 ≤ 1) (hx18 : x18 ≤ 900) (hx19 : x19 ≤ 900) (hx21 : x21 ≤ 900) (hx22 : x22 ≤ 4) (hx26 : x26 ≤ 6) (hx28 : x28 ≤ 1) (hx29 : x29 ≤ 1) (hx30 : x30 ≤ 1) (hx33 : x33 ≤ 20) (hx46 : x46 ≤ 5) (hx52 : x52 ≤ 2400) (hx53 : x53 ≤ 119) (hx61 : x61 ≤ 119) (hx62 : x62 ≤ 2000) (hx63 : x63 ≤ 1) (hx65 : x65 ≤ 7) (hm12_0 : m12_0 ≤ 3) (hm12_1 : m12_1 ≤ 3) (hm13_0 : m13_0 ≤ 8) (hm13_1 : m13_1 ≤ 8) (hm14_0 : m14_0 ≤ 14) (hm14_1 : m14_1 ≤ 14) (hm15_0 : m15_0 ≤ 8) (hm15_1 : m15_1 ≤ 8) (hm42_0 : m42_0 ≤ 120) (hm42_1 : m42_1 ≤ 400) : Met l yX9_overlap vs_M_overlap ({ frames := 2, cells := 0, slots := 0, locals := 45 }) (va_Pc [.ref (ad 0), .int p0, .int p1] (pu_B (dC, dI) (mo_w ad ck x0 (nI x16) (nI x18) (nI x19) x20 (nI x21) (nI x22) x23 x24 x25 (nI x26) x27 (nI x28) (nI x29) (nI x30) (nI x33) x45 (nI x46) (nI x52) (nI x53) (nI x61) (nI x62) (nI x63) (nI x65) x66 f1 f2 f3 (bN 3 q4) (bN 7 q5) (bN 7 q6) (bN 4 q7) f8 (bN 2 q9) (bH q10) f11 (b2 m12_0 m12_1) (b2 m13_0 m13_1) (b2 m14_0 m14_1) (b2m m15_0 m15_1) f17 (bA 159 q31) f32 f34 f35 f36 f37 (bN 7 q38) f39 f40 f41 (b2 m42_0 m42_1) f43 f44 f47 f48 f49 f50 f51 (bN 13 q54) (bN 120 q55) (bN 120 q56) f57 (bN 120 q58) f59 f60 f64) (mo_t ck) sz)) (va_Qi (fun (r : Int32) (_ : Unit) => True) (fun _ t => ∃ (z35 : Nat → Int32) (z0 : Int32) (z46 : Nat), pu_E (dC, dI) (mo_w ad ck z0 (nI x16) (nI x18) (nI x19) x20 (nI x21) (nI x22) x23 x24 x25 (nI x26) x27 (nI x28) (nI x29) (nI x30) (nI x33) x45 (nI z46) (nI x52) (nI x53) (nI x61) (nI x62) (nI x63) (nI x65) x66 f1 f2 f3 (bN 3 q4) (bN 7 q5) (bN 7 q6) (bN 4 q7) f8 (bN 2 q9) (bH q10) f11 (b2 m12_0 m12_1) (b2 m13_0 m13_1) (b2 m14_0 m14_1) (b2m m15_0 m15_1) f17 (bA 159 q31) f32 f34 z35 f36 f37 (bN 7 q38) f39 f40 f41 (b2 m42_0 m42_1) f43 f44 f47 f48 f49 f50 f51 (bN 13 q54) (bN 120 q55) (bN 120 q56) f57 (bN 120 q58) f59 f60 f64) (mo_t ck) (va_A ((mo_w ad ck x0 (nI x16) (nI x18) (nI x19) x20 (nI x21) (nI x22) x23 x24 x25 (nI x26) x27 (nI x28) (nI x29) (nI x30) (nI x33) x45 (nI x46) (nI x52) (nI x53) (nI x61) (nI x62) (nI x63) (nI x65) x66 f1 f2 f3 (bN 3 q4) (bN 7 q5) (bN 7 q6) (bN 4 q7) f8 (bN 2 q9) (bH q10) f11 (b2 m12_0 m12_1) (b2 m13_0 m13_1) (b2 m14_0 m14_1) (b2m m15_0 m15_1) f17 (bA 159 q31) f32 f34 f35 f36 f37 (bN 7 q38) f39 f40 f41 (b2 m42_0 m42_1) f43 f44 f47 f48 f49 f50 f51 (bN 13 q54) (bN 120 q55) (bN 120 q56) f57 (bN 120 q58) f59 f60 f64)) sz) t ∧ (z46 ≤ 5)) (va_A ((mo_w ad ck x0 (nI x16) (nI x18) (nI x19) x20 (nI x21) (nI x22) x23 x24 x25 (nI x26) x27 (nI x28) (nI x29) (nI x30) (nI x33) x45 (nI x46) (nI x52) (nI x53) (nI x61) (nI x62) (nI x63) (nI x65) x66 f1 f2 f3 (bN 3 q4) (bN 7 q5) (bN 7 q6) (bN 4 q7) f8 (bN 2 q9) (bH q10) f11 (b2 m12_0 m12_1) (b2 m13_0 m13_1) (b2 m14_0 m14_1) (b2m m15_0 m15_1) f17 (bA 159 q31) f32 f34 f35 f36 f37 (bN 7 q38) f39 f40 f41 (b2 m42_0 m42_1) f43 f44 f47 f48 f49 f50 f51 (bN 13 q54) (bN 120 q55) (bN 120 q56) f57 (bN 120 q58) f59 f60 f64)) sz)) 0 0 (va_A ((mo_w ad ck x0 (nI x16) (nI x18) (nI x19) x20 (nI x21) (nI x22) x23 x24 x25 (nI x26) x27 (nI x28) (nI x29) (nI x30) (nI x33) x45 (nI x46) (nI x52) (nI x53) (nI x61) (nI x62) (nI x63) (nI x65) x66 f1 f2 f3 (bN 3 q4) (bN 7 q5) (bN 7 q6) (bN 4 q7) f8 (bN 2 q9) (bH q10) f11 (b2 m12_0 m12_1) (b2 m13_0 m13_1) (b2 m14_0 m14_1) (b2m m15_0 m15_1) f17 (bA 159 q31) f32 f34 f35 f36 f37 (bN 7 q38) f39 f40 f41 (b2 m42_0 m42_1) f43 f44 f47 f48 f49 f50 f51 (bN 13 q54) (bN 120 q55) (bN 120 q56) f57 (bN 120 q58) f59 f60 f64)) sz) := by
  refine Met.ofW (cc := cX9_overlap) (maxL := 4) (ret := (some .int)) (by decide) rfl ?_
  intro p e s m args below meth c s₁ B hml hv
  obtain ⟨rfl, rfl, hP, hK, hD0⟩ := hv
  have hx := B.exec
  have hb := B.bytes
  have hr := B.returns
  have hts := atoms_spec (ws := vs_M_overlap) B.pre
  have v_1 := hts (.fieldLink RX9 142 "ClockReachModel" "thrown" "I") (List.mem_cons_of_mem _ vm_24)
  have v_7 := hts (.fieldLink RX9 71 "ClockReachModel" "z" "[I") (List.mem_cons_of_mem _ vm_234)
  have v_8 := hts (.fieldLink RX9 68 "ClockReachModel" "zone" "[I") (List.mem_cons_of_mem _ vm_232)
  have hown : s.vm.findClass RX9 = some m.cls := findClass_of_methodNamed B.named
  have hlocks := B.notSynchronized
  have hiX9 : ∀ w ∈ wsX90, w ∈ vs_M_overlap := fun _ h => List.mem_cons_of_mem _ (List.mem_append_right _ h)
  have hD := hD0.self (sz := s.heap.size)
  generalize hAe : va_A ((mo_w ad ck x0 (nI x16) (nI x18) (nI x19) x20 (nI x21) (nI x22) x23 x24 x25 (nI x26) x27 (nI x28) (nI x29) (nI x30) (nI x33) x45 (nI x46) (nI x52) (nI x53) (nI x61) (nI x62) (nI x63) (nI x65) x66 f1 f2 f3 (bN 3 q4) (bN 7 q5) (bN 7 q6) (bN 4 q7) f8 (bN 2 q9) (bH q10) f11 (b2 m12_0 m12_1) (b2 m13_0 m13_1) (b2 m14_0 m14_1) (b2m m15_0 m15_1) f17 (bA 159 q31) f32 f34 f35 f36 f37 (bN 7 q38) f39 f40 f41 (b2 m42_0 m42_1) f43 f44 f47 f48 f49 f50 f51 (bN 13 q54) (bN 120 q55) (bN 120 q56) f57 (bN 120 q58) f59 f60 f64)) s.heap.size = A at hD ⊢
  have hA : ∀ q : Nat, s.heap.size ≤ q → A q := fun q h => by rw [← hAe]; exact Or.inr h
  have hS : va_S A s.heap s.heap [] := va_S.rf
  have hl := lv_entry ([.ref (ad 0), .int p0, .int p1]) (n := 4) (Nat.le_of_ble_eq_true rfl)
  rw [lg_entry_eq]
  generalize (lg_sl ([.ref (ad 0), .int p0, .int p1]) ++ List.replicate (4 - (lg_sl ([.ref (ad 0), .int p0, .int p1])).length) Slot.unset).toArray = ls at hl ⊢
  have hl : lv_has ls 4 [(0, .ref (ad 0)), (1, .int p0), (2, .int p1)] := hl
  refine lv_aload_n hx hb dX9_overlap_0 rfl (lv_at hl 0 rfl) ?_
  refine lv_iconst (v := 0) hx hb dX9_overlap_1 (by decide) ?_
  refine va_put (D := (dC, dI)) (ci := 9) (v := .int 0) (ty := .int) (C := RX9) (T := TX9) (N := 67) hx hb hts hiX9 tyX9 tyX9_ok nmX9 hown hK hP hD hS 0 rfl rfl 0 (by decide) v_1 (fun _ h9 => h9) rfl (by decide +kernel) rfl rfl (Nat.le_of_ble_eq_true rfl) dX9_overlap_2 (fun H locs hP hD hS => ?_)
  have hP : va_P (dC, dI) vwCl (mo_w ad ck 0 (nI x16) (nI x18) (nI x19) x20 (nI x21) (nI x22) x23 x24 x25 (nI x26) x27 (nI x28) (nI x29) (nI x30) (nI x33) x45 (nI x46) (nI x52) (nI x53) (nI x61) (nI x62) (nI x63) (nI x65) x66 f1 f2 f3 (bN 3 q4) (bN 7 q5) (bN 7 q6) (bN 4 q7) f8 (bN 2 q9) (bH q10) f11 (b2 m12_0 m12_1) (b2 m13_0 m13_1) (b2 m14_0 m14_1) (b2m m15_0 m15_1) f17 (bA 159 q31) f32 f34 f35 f36 f37 (bN 7 q38) f39 f40 f41 (b2 m42_0 m42_1) f43 f44 f47 f48 f49 f50 f51 (bN 13 q54) (bN 120 q55) (bN 120 q56) f57 (bN 120 q58) f59 f60 f64) H := hP
  have hD : va_D A (mo_w ad ck 0 (nI x16) (nI x18) (nI x19) x20 (nI x21) (nI x22) x23 x24 x25 (nI x26) x27 (nI x28) (nI x29) (nI x30) (nI x33) x45 (nI x46) (nI x52) (nI x53) (nI x61) (nI x62) (nI x63) (nI x65) x66 f1 f2 f3 (bN 3 q4) (bN 7 q5) (bN 7 q6) (bN 4 q7) f8 (bN 2 q9) (bH q10) f11 (b2 m12_0 m12_1) (b2 m13_0 m13_1) (b2 m14_0 m14_1) (b2m m15_0 m15_1) f17 (bA 159 q31) f32 f34 f35 f36 f37 (bN 7 q38) f39 f40 f41 (b2 m42_0 m42_1) f43 f44 f47 f48 f49 f50 f51 (bN 13 q54) (bN 120 q55) (bN 120 q56) f57 (bN 120 q58) f59 f60 f64) := hD
  refine lv_aload_n hx hb dX9_overlap_5 rfl (lv_at hl 0 rfl) ?_
  refine lv_iload_n hx hb dX9_overlap_6 rfl (lv_at hl 1 rfl) ?_
  have hFc := pu_free hD hS hA
  refine va_calli (va_runV (As := [.int p0]) (rest := []) ⟨hx, hb, hml, hown, hts⟩ (c_M_isState l dC dI _ ad ck 0 x16 x18 x19 x20 x21 x22 x23 x24 x25 x26 x27 x28 x29 x30 x33 x45 x46 x52 x53 x61 x62 x63 x65 x66 f1 f2 f3 q4 q5 q6 q7 f8 q9 q10 f11 m12_0 m12_1 m13_0 m13_1 m14_0 m14_1 m15_0 m15_1 f17 q31 f32 f34 f35 f36 f37 q38 f39 f40 f41 m42_0 m42_1 f43 f44 f47 f48 f49 f50 f51 q54 q55 q56 f57 q58 f59 f60 f64 p0 hx16 hx18 hx19 hx21 hx22 hx26 hx28 hx29 hx30 hx33 hx46 hx52 hx53 hx61 hx62 hx63 hx65 hm12_0 hm12_1 hm13_0 hm13_1 hm14_0 hm14_1 hm15_0 hm15_1 hm42_0 hm42_1) (cwV 1 hts g_M_overlap_M_isState rfl rfl rfl (by decide +kernel) ⟨Nat.le_of_ble_eq_true rfl, Nat.le_of_ble_eq_true rfl⟩) ⟨pu_bl, va_recv hK hP (ci := 9) (q0 := 0) rfl rfl, pu_in hP hK hD⟩ rfl rfl hl.1 rfl (lv_room (Nat.le_of_ble_eq_true rfl)) dX9_overlap_7 ⟨Nat.le_of_ble_eq_true rfl, Nat.le_of_ble_eq_true rfl⟩) hS (fun q _ h => hFc q h) hFc (fun r_1 u t H1 locs ht hvm hw hB hz1 hk1 hS => ?_)
  obtain ⟨z46_2, ⟨hP1, -, hD1⟩, hz46_2⟩ := hB
  rw [ht] at hP1
  have hP := hP1
  have hD := pu_all hFc hD1
  clear hP1 hD1 hFc
  clear hk1 hz1 ht hvm
  generalize H1 = H at hP hS ⊢
  rcases hw with ⟨rfl, hw⟩ | rfl
  · obtain ⟨n_3, hn_3, rfl⟩ := hw
    refine lv_if_eq (tgt := 21) hx hb dX9_overlap_10 (by decide) (fun z => absurd z (by decide)) (fun _ => ?_)
    refine lv_aload_n hx hb dX9_overlap_13 rfl (lv_at hl 0 rfl) ?_
    refine lv_iload_n hx hb dX9_overlap_14 rfl (lv_at hl 2 rfl) ?_
    have hFc := pu_free hD hS hA
    refine va_calli (va_runV (As := [.int p1]) (rest := []) ⟨hx, hb, hml, hown, hts⟩ (c_M_isState l dC dI _ ad ck 0 x16 x18 x19 x20 x21 x22 x23 x24 x25 x26 x27 x28 x29 x30 x33 x45 z46_2 x52 x53 x61 x62 x63 x65 x66 f1 f2 f3 q4 q5 q6 q7 f8 q9 q10 f11 m12_0 m12_1 m13_0 m13_1 m14_0 m14_1 m15_0 m15_1 f17 q31 f32 f34 f35 f36 f37 q38 f39 f40 f41 m42_0 m42_1 f43 f44 f47 f48 f49 f50 f51 q54 q55 q56 f57 q58 f59 f60 f64 p1 hx16 hx18 hx19 hx21 hx22 hx26 hx28 hx29 hx30 hx33 (Nat.le_trans hz46_2 (Nat.le_of_ble_eq_true rfl)) hx52 hx53 hx61 hx62 hx63 hx65 hm12_0 hm12_1 hm13_0 hm13_1 hm14_0 hm14_1 hm15_0 hm15_1 hm42_0 hm42_1) (cwV 1 hts g_M_overlap_M_isState rfl rfl rfl (by decide +kernel) ⟨Nat.le_of_ble_eq_true rfl, Nat.le_of_ble_eq_true rfl⟩) ⟨pu_bl, va_recv hK hP (ci := 9) (q0 := 0) rfl rfl, pu_in hP hK hD⟩ rfl rfl hl.1 rfl (lv_room (Nat.le_of_ble_eq_true rfl)) dX9_overlap_15 ⟨Nat.le_of_ble_eq_true rfl, Nat.le_of_ble_eq_true rfl⟩) hS (fun q _ h => hFc q h) hFc (fun r_4 u t H1 locs ht hvm hw hB hz1 hk1 hS => ?_)
    obtain ⟨z46_5, ⟨hP1, -, hD1⟩, hz46_5⟩ := hB
    rw [ht] at hP1
    have hP := hP1
    have hD := pu_all hFc hD1
    clear hP1 hD1 hFc
    clear hk1 hz1 ht hvm
    generalize H1 = H at hP hS ⊢
    rcases hw with ⟨rfl, hw⟩ | rfl
    · obtain ⟨n_6, hn_6, rfl⟩ := hw
      refine lv_if_ne (tgt := 23) hx hb dX9_overlap_18 (by decide) (fun _ => ?_) (fun z => absurd z (by decide))
      refine lv_iconst (v := 0) hx hb dX9_overlap_23 (by decide) ?_
      refine lv_istore_n (lv' := [(3, .int 0), (0, .ref (ad 0)), (1, .int (nI n_3)), (2, .int (nI n_6))]) hx hb dX9_overlap_24 rfl hl (by decide) rfl (fun ls hl => ?_)
      refine pu_while (fun nn H locs ls => ∃ (g_9 : Nat → Int32) (g_10 : Nat), nn = 25 - g_10 ∧ g_10 ≤ 25 ∧ va_P (dC, dI) vwCl (mo_w ad ck 0 (nI x16) (nI x18) (nI x19) x20 (nI x21) (nI x22) x23 x24 x25 (nI x26) x27 (nI x28) (nI x29) (nI x30) (nI x33) x45 (nI z46_5) (nI x52) (nI x53) (nI x61) (nI x62) (nI x63) (nI x65) x66 f1 f2 f3 (bN 3 q4) (bN 7 q5) (bN 7 q6) (bN 4 q7) f8 (bN 2 q9) (bH q10) f11 (b2 m12_0 m12_1) (b2 m13_0 m13_1) (b2 m14_0 m14_1) (b2m m15_0 m15_1) f17 (bA 159 q31) f32 f34 g_9 f36 f37 (bN 7 q38) f39 f40 f41 (b2 m42_0 m42_1) f43 f44 f47 f48 f49 f50 f51 (bN 13 q54) (bN 120 q55) (bN 120 q56) f57 (bN 120 q58) f59 f60 f64) H ∧ va_D A (mo_w ad ck 0 (nI x16) (nI x18) (nI x19) x20 (nI x21) (nI x22) x23 x24 x25 (nI x26) x27 (nI x28) (nI x29) (nI x30) (nI x33) x45 (nI z46_5) (nI x52) (nI x53) (nI x61) (nI x62) (nI x63) (nI x65) x66 f1 f2 f3 (bN 3 q4) (bN 7 q5) (bN 7 q6) (bN 4 q7) f8 (bN 2 q9) (bH q10) f11 (b2 m12_0 m12_1) (b2 m13_0 m13_1) (b2 m14_0 m14_1) (b2m m15_0 m15_1) f17 (bA 159 q31) f32 f34 g_9 f36 f37 (bN 7 q38) f39 f40 f41 (b2 m42_0 m42_1) f43 f44 f47 f48 f49 f50 f51 (bN 13 q54) (bN 120 q55) (bN 120 q56) f57 (bN 120 q58) f59 f60 f64) ∧ va_S A s.heap H locs ∧ lv_has ls 4 [(0, .ref (ad 0)), (1, .int (nI n_3)), (2, .int (nI n_6)), (3, .int (nI g_10))]) 25 ?_ _ _ _ _ ⟨f35, 0, rfl, (Nat.le_of_ble_eq_true rfl), hP, hD, hS, lv_sub hl [1, 2, 3, 0] rfl⟩
      rintro nn ih_11 H locs ls ⟨g_9, g_10, rfl, hg_10, hP, hD, hS, hl⟩
      refine lv_iload_n hx hb dX9_overlap_25 rfl (lv_at hl 3 rfl) ?_
      refine lv_bipush (v := 25) hx hb dX9_overlap_26 (by decide) ?_
      refine lv_icmp_ge (tgt := 68) hx hb dX9_overlap_28 (by decide) (fun c_12 => ?_) (fun c_12 => ?_)
      · have c_12 : 25 ≤ g_10 := (nI_leI (a := 25) (b := g_10) (Nat.le_of_ble_eq_true rfl) (Nat.lt_of_le_of_lt hg_10 (Nat.le_of_ble_eq_true rfl))).mp c_12
        refine lv_aload_n hx hb dX9_overlap_68 rfl (lv_at hl 0 rfl) ?_
        refine lv_aload_n hx hb dX9_overlap_69 rfl (lv_at hl 0 rfl) ?_
        refine va_get (D := (dC, dI)) (ci := 9) (v := .ref (ad 35)) (C := RX9) (T := TX9) (N := 67) hx hb hts hiX9 hown hK hP 0 rfl rfl 35 (by decide) v_7 (fun _ h9 => h9) rfl dX9_overlap_70 ?_
        have hFc := pu_free hD hS hA
        refine va_calli (va_runV (As := [.ref (ad 35)]) (rest := []) ⟨hx, hb, hml, hown, hts⟩ (c_M_closes_z l dC dI _ ad ck 0 x16 x18 x19 x20 x21 x22 x23 x24 x25 x26 x27 x28 x29 x30 x33 x45 z46_5 x52 x53 x61 x62 x63 x65 x66 f1 f2 f3 q4 q5 q6 q7 f8 q9 q10 f11 m12_0 m12_1 m13_0 m13_1 m14_0 m14_1 m15_0 m15_1 f17 q31 f32 f34 g_9 f36 f37 q38 f39 f40 f41 m42_0 m42_1 f43 f44 f47 f48 f49 f50 f51 q54 q55 q56 f57 q58 f59 f60 f64 hx16 hx18 hx19 hx21 hx22 hx26 hx28 hx29 hx30 hx33 (Nat.le_trans hz46_5 (Nat.le_of_ble_eq_true rfl)) hx52 hx53 hx61 hx62 hx63 hx65 hm12_0 hm12_1 hm13_0 hm13_1 hm14_0 hm14_1 hm15_0 hm15_1 hm42_0 hm42_1) (cwV 1 hts g_M_overlap_M_closes_z rfl rfl rfl (by decide +kernel) ⟨Nat.le_of_ble_eq_true rfl, Nat.le_of_ble_eq_true rfl⟩) ⟨pu_bl, va_recv hK hP (ci := 9) (q0 := 0) rfl rfl, pu_in hP hK hD⟩ rfl rfl hl.1 rfl (lv_room (Nat.le_of_ble_eq_true rfl)) dX9_overlap_73 ⟨Nat.le_of_ble_eq_true rfl, Nat.le_of_ble_eq_true rfl⟩) hS (fun q _ h => hFc q h) hFc (fun r_13 u t H1 locs ht hvm hw hB hz1 hk1 hS => ?_)
        obtain ⟨z35_14, ⟨hP1, -, hD1⟩⟩ := hB
        rw [ht] at hP1
        have hP := hP1
        have hD := pu_all hFc hD1
        clear hP1 hD1 hFc
        clear hk1 hz1 ht hvm
        generalize H1 = H at hP hS ⊢
        obtain ⟨u_15, hu_15, rfl⟩ := hw
        refine lv_if_eq (tgt := 83) hx hb dX9_overlap_76 (by decide) (fun c_16 => ?_) (fun c_16 => ?_)
        · have c_16 : u_15 = 0 := (nI_eq (a := u_15) (b := 0) (Nat.lt_of_le_of_lt hu_15 (Nat.le_of_ble_eq_true rfl)) (Nat.le_of_ble_eq_true rfl)).mp c_16
          refine lv_iconst (v := 0) hx hb dX9_overlap_83 (by decide) ?_
          exact W.iret (v := 0) hx hb hr (fun t ht hW => ⟨⟨0, (), rfl, trivial, ⟨z35_14, 0, z46_5, ⟨by rw [ht]; exact hP, va_K.moved hW.alike hK, hD⟩, (Nat.le_trans hz46_5 (Nat.le_of_ble_eq_true rfl))⟩⟩, hS.F ht⟩) hS.2.2 dX9_overlap_84
        · have c_16 : ¬ u_15 = 0 := fun z => c_16 ((nI_eq (a := u_15) (b := 0) (Nat.lt_of_le_of_lt hu_15 (Nat.le_of_ble_eq_true rfl)) (Nat.le_of_ble_eq_true rfl)).mpr z)
          refine lv_iconst (v := 1) hx hb dX9_overlap_79 (by decide) ?_
          refine lv_goto (tgt := 84) hx hb dX9_overlap_80 (by decide) ?_
          exact W.iret (v := 1) hx hb hr (fun t ht hW => ⟨⟨1, (), rfl, trivial, ⟨z35_14, 0, z46_5, ⟨by rw [ht]; exact hP, va_K.moved hW.alike hK, hD⟩, (Nat.le_trans hz46_5 (Nat.le_of_ble_eq_true rfl))⟩⟩, hS.F ht⟩) hS.2.2 dX9_overlap_84
      · have c_12 : ¬ 25 ≤ g_10 := fun z => c_12 ((nI_leI (a := 25) (b := g_10) (Nat.le_of_ble_eq_true rfl) (Nat.lt_of_le_of_lt hg_10 (Nat.le_of_ble_eq_true rfl))).mpr z)
        refine lv_aload_n hx hb dX9_overlap_31 rfl (lv_at hl 0 rfl) ?_
        refine va_get (D := (dC, dI)) (ci := 9) (v := .ref (ad 35)) (C := RX9) (T := TX9) (N := 67) hx hb hts hiX9 hown hK hP 0 rfl rfl 35 (by decide) v_7 (fun _ h9 => h9) rfl dX9_overlap_32 ?_
        refine lv_iload_n hx hb dX9_overlap_35 rfl (lv_at hl 3 rfl) ?_
        refine lv_aload_n hx hb dX9_overlap_36 rfl (lv_at hl 0 rfl) ?_
        refine va_get (D := (dC, dI)) (ci := 9) (v := .ref (ad 34)) (C := RX9) (T := TX9) (N := 67) hx hb hts hiX9 hown hK hP 0 rfl rfl 34 (by decide) v_8 (fun _ h9 => h9) rfl dX9_overlap_37 ?_
        refine lv_bipush (v := 25) hx hb dX9_overlap_40 (by decide) ?_
        refine lv_iload_n hx hb dX9_overlap_42 rfl (lv_at hl 1 rfl) ?_
        refine lv_imul hx hb dX9_overlap_43 ?_
        refine lv_topi (fun y_17 ey_17 => ?_)
        obtain rfl : y_17 = (nI (25 * n_3)) := ey_17.trans (pk_mul 25 n_3)
        refine lv_iload_n hx hb dX9_overlap_44 rfl (lv_at hl 3 rfl) ?_
        refine lv_iadd hx hb dX9_overlap_45 ?_
        refine lv_topi (fun y_18 ey_18 => ?_)
        obtain rfl : y_18 = (nI ((25 * n_3) + g_10)) := ey_18.trans (nI_add (25 * n_3) g_10)
        refine va_iald hx hb hK hP 19 18 rfl rfl (vp_in_nI (n := ((25 * n_3) + g_10)) (by omega) (Nat.le_of_ble_eq_true rfl)) dX9_overlap_46 ?_
        refine lv_topi (fun y_19 ey_19 => ?_)
        refine lv_aload_n hx hb dX9_overlap_47 rfl (lv_at hl 0 rfl) ?_
        refine va_get (D := (dC, dI)) (ci := 9) (v := .ref (ad 34)) (C := RX9) (T := TX9) (N := 67) hx hb hts hiX9 hown hK hP 0 rfl rfl 34 (by decide) v_8 (fun _ h9 => h9) rfl dX9_overlap_48 ?_
        refine lv_bipush (v := 25) hx hb dX9_overlap_51 (by decide) ?_
        refine lv_iload_n hx hb dX9_overlap_53 rfl (lv_at hl 2 rfl) ?_
        refine lv_imul hx hb dX9_overlap_54 ?_
        refine lv_topi (fun y_20 ey_20 => ?_)
        obtain rfl : y_20 = (nI (25 * n_6)) := ey_20.trans (pk_mul 25 n_6)
        refine lv_iload_n hx hb dX9_overlap_55 rfl (lv_at hl 3 rfl) ?_
        refine lv_iadd hx hb dX9_overlap_56 ?_
        refine lv_topi (fun y_21 ey_21 => ?_)
        obtain rfl : y_21 = (nI ((25 * n_6) + g_10)) := ey_21.trans (nI_add (25 * n_6) g_10)
        refine va_iald hx hb hK hP 19 18 rfl rfl (vp_in_nI (n := ((25 * n_6) + g_10)) (by omega) (Nat.le_of_ble_eq_true rfl)) dX9_overlap_57 ?_
        refine lv_topi (fun y_22 ey_22 => ?_)
        refine va_calli (va_runS (As := [.int y_19, .int y_22]) (rest := [.int (nI g_10), .ref (ad 35)]) ⟨hx, hb, hml, hown, hts⟩ (c_X9_lesser l dC dI _ y_19 y_22) (va_cwS 2 hts g_M_overlap_X9_lesser rfl rfl rfl (by decide +kernel) ⟨Nat.le_of_ble_eq_true rfl, Nat.le_of_ble_eq_true rfl⟩) ⟨pu_bl, pu_in (hP.sub [] rfl) (hK.sub [] rfl) (hD.sub [] (by decide) rfl)⟩ rfl rfl hl.1 rfl (lv_room (Nat.le_of_ble_eq_true rfl)) dX9_overlap_58 ⟨Nat.le_of_ble_eq_true rfl, Nat.le_of_ble_eq_true rfl⟩) hS (fun q _ h => pu_fr hS hA q h) (pu_fr hS hA) (fun r_23 u t H1 locs ht hvm hw hB hz1 hk1 hS => ?_)
        have hP := pu_keep hP hk1
        clear hk1 hz1 ht hvm
        generalize H1 = H at hP hS ⊢
        clear hw
        refine va_iast hx hb hK hP hD hS 20 19 rfl rfl (vp_in_nI (n := g_10) (by omega) (Nat.le_of_ble_eq_true rfl)) dX9_overlap_61 (fun H locs hP hD hS => ?_)
        have hP : va_P (dC, dI) vwCl (mo_w ad ck 0 (nI x16) (nI x18) (nI x19) x20 (nI x21) (nI x22) x23 x24 x25 (nI x26) x27 (nI x28) (nI x29) (nI x30) (nI x33) x45 (nI z46_5) (nI x52) (nI x53) (nI x61) (nI x62) (nI x63) (nI x65) x66 f1 f2 f3 (bN 3 q4) (bN 7 q5) (bN 7 q6) (bN 4 q7) f8 (bN 2 q9) (bH q10) f11 (b2 m12_0 m12_1) (b2 m13_0 m13_1) (b2 m14_0 m14_1) (b2m m15_0 m15_1) f17 (bA 159 q31) f32 f34 (upd g_9 ((nI g_10) : Int32).toNatClampNeg r_23) f36 f37 (bN 7 q38) f39 f40 f41 (b2 m42_0 m42_1) f43 f44 f47 f48 f49 f50 f51 (bN 13 q54) (bN 120 q55) (bN 120 q56) f57 (bN 120 q58) f59 f60 f64) H := hP
        have hD : va_D A (mo_w ad ck 0 (nI x16) (nI x18) (nI x19) x20 (nI x21) (nI x22) x23 x24 x25 (nI x26) x27 (nI x28) (nI x29) (nI x30) (nI x33) x45 (nI z46_5) (nI x52) (nI x53) (nI x61) (nI x62) (nI x63) (nI x65) x66 f1 f2 f3 (bN 3 q4) (bN 7 q5) (bN 7 q6) (bN 4 q7) f8 (bN 2 q9) (bH q10) f11 (b2 m12_0 m12_1) (b2 m13_0 m13_1) (b2 m14_0 m14_1) (b2m m15_0 m15_1) f17 (bA 159 q31) f32 f34 (upd g_9 ((nI g_10) : Int32).toNatClampNeg r_23) f36 f37 (bN 7 q38) f39 f40 f41 (b2 m42_0 m42_1) f43 f44 f47 f48 f49 f50 f51 (bN 13 q54) (bN 120 q55) (bN 120 q56) f57 (bN 120 q58) f59 f60 f64) := hD
        refine lv_iinc (v := (nI (g_10 + 1))) (lv' := [(3, .int (nI (g_10 + 1))), (0, .ref (ad 0)), (1, .int (nI n_3)), (2, .int (nI n_6))]) hx hb dX9_overlap_62 hl (k := 3) rfl (nI_1 _) (by decide) rfl (fun ls hl => ?_)
        refine lv_goto (tgt := 25) hx hb dX9_overlap_65 (by decide) ?_
        exact ih_11 (25 - (g_10 + 1)) (by omega) _ _ _ ⟨(upd g_9 ((nI g_10) : Int32).toNatClampNeg r_23), (g_10 + 1), rfl, (by omega), hP, hD, hS, lv_sub hl [1, 2, 3, 0] rfl⟩
    · refine lv_if_ne (tgt := 23) hx hb dX9_overlap_18 (by decide) (fun z => absurd z (by decide)) (fun _ => ?_)
      refine lv_iconst (v := (-1)) hx hb dX9_overlap_21 (by decide) ?_
      exact W.iret (v := (-1)) hx hb hr (fun t ht hW => ⟨⟨(-1), (), rfl, trivial, ⟨f35, 0, z46_5, ⟨by rw [ht]; exact hP, va_K.moved hW.alike hK, hD⟩, (Nat.le_trans hz46_5 (Nat.le_of_ble_eq_true rfl))⟩⟩, hS.F ht⟩) hS.2.2 dX9_overlap_22
  · refine lv_if_eq (tgt := 21) hx hb dX9_overlap_10 (by decide) (fun _ => ?_) (fun z => absurd z (by decide))
    refine lv_iconst (v := (-1)) hx hb dX9_overlap_21 (by decide) ?_
    exact W.iret (v := (-1)) hx hb hr (fun t ht hW => ⟨⟨(-1), (), rfl, trivial, ⟨f35, 0, z46_2, ⟨by rw [ht]; exact hP, va_K.moved hW.alike hK, hD⟩, (Nat.le_trans hz46_2 (Nat.le_of_ble_eq_true rfl))⟩⟩, hS.F ht⟩) hS.2.2 dX9_overlap_22
theorem dX9_goesTo_0 : decode cX9_goesTo 0 = .ok (.iconst 0, 1) := by decide +kernel
theorem dX9_goesTo_1 : decode cX9_goesTo 1 = .ok (.istore_n 2, 1) := by decide +kernel
theorem dX9_goesTo_2 : decode cX9_goesTo 2 = .ok (.iconst 0, 1) := by decide +kernel
theorem dX9_goesTo_3 : decode cX9_goesTo 3 = .ok (.istore_n 3, 1) := by decide +kernel
theorem dX9_goesTo_4 : decode cX9_goesTo 4 = .ok (.iload_n 3, 1) := by decide +kernel
theorem dX9_goesTo_5 : decode cX9_goesTo 5 = .ok (.bipush 8, 2) := by decide +kernel
theorem dX9_goesTo_7 : decode cX9_goesTo 7 = .ok (.if_icmp .gt 108, 3) := by decide +kernel
theorem dX9_goesTo_10 : decode cX9_goesTo 10 = .ok (.iconst 0, 1) := by decide +kernel
theorem dX9_goesTo_11 : decode cX9_goesTo 11 = .ok (.istore 4, 2) := by decide +kernel
theorem dX9_goesTo_13 : decode cX9_goesTo 13 = .ok (.iload 4, 2) := by decide +kernel
theorem dX9_goesTo_15 : decode cX9_goesTo 15 = .ok (.aload_n 0, 1) := by decide +kernel
theorem dX9_goesTo_16 : decode cX9_goesTo 16 = .ok (.getfield 49, 3) := by decide +kernel
theorem dX9_goesTo_19 : decode cX9_goesTo 19 = .ok (.aload_n 0, 1) := by decide +kernel
theorem dX9_goesTo_20 : decode cX9_goesTo 20 = .ok (.getfield 258, 3) := by decide +kernel
theorem dX9_goesTo_23 : decode cX9_goesTo 23 = .ok (.iaload, 1) := by decide +kernel
theorem dX9_goesTo_24 : decode cX9_goesTo 24 = .ok (.if_icmp .ge 85, 3) := by decide +kernel
theorem dX9_goesTo_27 : decode cX9_goesTo 27 = .ok (.aload_n 0, 1) := by decide +kernel
theorem dX9_goesTo_28 : decode cX9_goesTo 28 = .ok (.aload_n 0, 1) := by decide +kernel
theorem dX9_goesTo_29 : decode cX9_goesTo 29 = .ok (.iload 4, 2) := by decide +kernel
theorem dX9_goesTo_31 : decode cX9_goesTo 31 = .ok (.invokevirtual 289, 3) := by decide +kernel
theorem dX9_goesTo_34 : decode cX9_goesTo 34 = .ok (.invokevirtual 324, 3) := by decide +kernel
theorem dX9_goesTo_37 : decode cX9_goesTo 37 = .ok (.ifCond .eq 43, 3) := by decide +kernel
theorem dX9_goesTo_40 : decode cX9_goesTo 40 = .ok (.aload_n 0, 1) := by decide +kernel
theorem dX9_goesTo_41 : decode cX9_goesTo 41 = .ok (.aload_n 0, 1) := by decide +kernel
theorem dX9_goesTo_42 : decode cX9_goesTo 42 = .ok (.iload 4, 2) := by decide +kernel
theorem dX9_goesTo_44 : decode cX9_goesTo 44 = .ok (.invokevirtual 292, 3) := by decide +kernel
theorem dX9_goesTo_47 : decode cX9_goesTo 47 = .ok (.invokevirtual 324, 3) := by decide +kernel
theorem dX9_goesTo_50 : decode cX9_goesTo 50 = .ok (.ifCond .eq 30, 3) := by decide +kernel
theorem dX9_goesTo_53 : decode cX9_goesTo 53 = .ok (.aload_n 0, 1) := by decide +kernel
theorem dX9_goesTo_54 : decode cX9_goesTo 54 = .ok (.iload 4, 2) := by decide +kernel
theorem dX9_goesTo_56 : decode cX9_goesTo 56 = .ok (.invokevirtual 289, 3) := by decide +kernel
theorem dX9_goesTo_59 : decode cX9_goesTo 59 = .ok (.iload_n 1, 1) := by decide +kernel
theorem dX9_goesTo_60 : decode cX9_goesTo 60 = .ok (.if_icmp .eq 16, 3) := by decide +kernel
theorem dX9_goesTo_63 : decode cX9_goesTo 63 = .ok (.iload_n 2, 1) := by decide +kernel
theorem dX9_goesTo_64 : decode cX9_goesTo 64 = .ok (.aload_n 0, 1) := by decide +kernel
theorem dX9_goesTo_65 : decode cX9_goesTo 65 = .ok (.iload 4, 2) := by decide +kernel
theorem dX9_goesTo_67 : decode cX9_goesTo 67 = .ok (.invokevirtual 289, 3) := by decide +kernel
theorem dX9_goesTo_70 : decode cX9_goesTo 70 = .ok (.invokestatic 248, 3) := by decide +kernel
theorem dX9_goesTo_73 : decode cX9_goesTo 73 = .ok (.ifCond .eq 7, 3) := by decide +kernel
theorem dX9_goesTo_76 : decode cX9_goesTo 76 = .ok (.iconst 1, 1) := by decide +kernel
theorem dX9_goesTo_77 : decode cX9_goesTo 77 = .ok (.goto 4, 3) := by decide +kernel
theorem dX9_goesTo_80 : decode cX9_goesTo 80 = .ok (.iconst 0, 1) := by decide +kernel
theorem dX9_goesTo_81 : decode cX9_goesTo 81 = .ok (.istore 5, 2) := by decide +kernel
theorem dX9_goesTo_83 : decode cX9_goesTo 83 = .ok (.iload_n 2, 1) := by decide +kernel
theorem dX9_goesTo_84 : decode cX9_goesTo 84 = .ok (.iload 5, 2) := by decide +kernel
theorem dX9_goesTo_86 : decode cX9_goesTo 86 = .ok (.ifCond .eq 14, 3) := by decide +kernel
theorem dX9_goesTo_89 : decode cX9_goesTo 89 = .ok (.iconst 1, 1) := by decide +kernel
theorem dX9_goesTo_90 : decode cX9_goesTo 90 = .ok (.aload_n 0, 1) := by decide +kernel
theorem dX9_goesTo_91 : decode cX9_goesTo 91 = .ok (.iload 4, 2) := by decide +kernel
theorem dX9_goesTo_93 : decode cX9_goesTo 93 = .ok (.invokevirtual 292, 3) := by decide +kernel
theorem dX9_goesTo_96 : decode cX9_goesTo 96 = .ok (.ishl, 1) := by decide +kernel
theorem dX9_goesTo_97 : decode cX9_goesTo 97 = .ok (.goto 4, 3) := by decide +kernel
theorem dX9_goesTo_100 : decode cX9_goesTo 100 = .ok (.iconst 0, 1) := by decide +kernel
theorem dX9_goesTo_101 : decode cX9_goesTo 101 = .ok (.ior, 1) := by decide +kernel
theorem dX9_goesTo_102 : decode cX9_goesTo 102 = .ok (.istore_n 2, 1) := by decide +kernel
theorem dX9_goesTo_103 : decode cX9_goesTo 103 = .ok (.iinc 4 1, 3) := by decide +kernel
theorem dX9_goesTo_106 : decode cX9_goesTo 106 = .ok (.goto (-93), 3) := by decide +kernel
theorem dX9_goesTo_109 : decode cX9_goesTo 109 = .ok (.iinc 3 1, 3) := by decide +kernel
theorem dX9_goesTo_112 : decode cX9_goesTo 112 = .ok (.goto (-108), 3) := by decide +kernel
theorem dX9_goesTo_115 : decode cX9_goesTo 115 = .ok (.iload_n 2, 1) := by decide +kernel
theorem dX9_goesTo_116 : decode cX9_goesTo 116 = .ok (.ireturn, 1) := by decide +kernel
abbrev vs_M_goesTo : List Cond := .code yX9_goesTo cX9_goesTo 6 (some .int) :: VM
theorem g_M_goesTo_X9_isOf : GoodIn vs_M_goesTo (va_wsS RX9 248 yX9_isOf vs_X9_isOf) := gm_0 (fun w h => by
  rcases List.mem_cons.mp h with rfl | h
  · exact vm_130
  rcases List.mem_cons.mp h with rfl | h
  · exact vm_131
  rcases List.mem_cons.mp h with rfl | h
  · exact vm_12
  rcases List.mem_cons.mp h with rfl | h
  · exact vm_0
  exact absurd h (List.not_mem_nil))
theorem g_M_goesTo_M_outOf : GoodIn vs_M_goesTo (wsV RX9 289 RX9 yX9_outOf vs_M_outOf) := gm_V vm_66 vm_67 vm_68 vm_12 vm_27
theorem g_M_goesTo_M_isUrgent : GoodIn vs_M_goesTo (wsV RX9 324 RX9 yX9_isUrgent vs_M_isUrgent) := gm_V vm_204 vm_205 vm_206 vm_12 vm_33
theorem g_M_goesTo_M_into : GoodIn vs_M_goesTo (wsV RX9 292 RX9 yX9_into vs_M_into) := gm_V vm_63 vm_64 vm_65 vm_12 vm_29
set_option maxHeartbeats 4000000 in
set_option maxRecDepth 100000 in
theorem c_M_goesTo (l : Launch) (dC : Nat → ClassId) (dI : Nat → Nat → Nat) (sz : Nat) (ad : Nat → Nat) (ck : Nat → ClassId) (x0 : Int32) (x16 : Nat) (x18 : Nat) (x19 : Nat) (x20 : Int32) (x21 : Nat) (x22 : Nat) (x23 : Int32) (x24 : Int32) (x25 : Int32) (x26 : Nat) (x27 : Int32) (x28 : Nat) (x29 : Nat) (x30 : Nat) (x33 : Nat) (x45 : Int32) (x46 : Nat) (x52 : Nat) (x53 : Nat) (x61 : Nat) (x62 : Nat) (x63 : Nat) (x65 : Nat) (x66 : Int32) (f1 : Nat → Int32) (f2 : Nat → Int32) (f3 : Nat → Int32) (q4 : Nat → Nat) (q5 : Nat → Nat) (q6 : Nat → Nat) (q7 : Nat → Nat) (f8 : Nat → Int32) (q9 : Nat → Nat) (q10 : Nat → Nat) (f11 : Nat → Int32) (m12_0 m12_1 : Nat) (m13_0 m13_1 : Nat) (m14_0 m14_1 : Nat) (m15_0 m15_1 : Nat) (f17 : Nat → Int32) (q31 : Nat → Nat) (f32 : Nat → Int32) (f34 : Nat → Int32) (f35 : Nat → Int32) (f36 : Nat → Int32) (f37 : Nat → Int32) (q38 : Nat → Nat) (f39 : Nat → Int32) (f40 : Nat → Int32) (f41 : Nat → Int32) (m42_0 m42_1 : Nat) (f43 : Nat → Int32) (f44 : Nat → Int32) (f47 : Nat → Int32) (f48 : Nat → Int32) (f49 : Nat → Int32) (f50 : Nat → Int32) (f51 : Nat → Int32) (q54 : Nat → Nat) (q55 : Nat → Nat) (q56 : Nat → Nat) (f57 : Nat → Int32) (q58 : Nat → Nat) (f59 : Nat → Int32) (f60 : Nat → Int32) (f64 : Nat → Int32) (p0 : Int32) (hx16 : x16 ≤ 1) (hx18 : x18 ≤ 900) (hx19 : x19 ≤ 900) (hx21 : x21 ≤ 900) (hx22 : x22 ≤ 4) (hx26 : x26 ≤ 6) (hx28 : x28 ≤ 1) (hx29 : x29 ≤ 1) (hx30 : x30 ≤ 1) (hx33 : x33 ≤ 20) (hx46 : x46 ≤ 5) (hx52 : x52 ≤ 2400) (hx53 : x53 ≤ 119) (hx61 : x61 ≤ 119) (hx62 : x62 ≤ 2000) (hx63 : x63 ≤ 1) (hx65 : x65 ≤ 7) (hm12_0 : m12_0 ≤ 3) (hm12_1 : m12_1 ≤ 3) (hm13_0 : m13_0 ≤ 8) (hm13_1 : m13_1 ≤ 8) (hm14_0 : m14_0 ≤ 14) (hm14_1 : m14_1 ≤ 14) (hm15_0 : m15_0 ≤ 8) (hm15_1 : m15_1 ≤ 8) (hm42_0 : m42_0 ≤ 120) (hm42_1 : m42_1 ≤ 400) : Met l yX9_goesTo vs_M_goesTo ({ frames := 1, cells := 0, slots := 0, locals := 21 }) (va_Pc [.ref (ad 0), .int p0] (pu_B (dC, dI) (mo_w ad ck x0 (nI x16) (nI x18) (nI x19) x20 (nI x21) (nI x22) x23 x24 x25 (nI x26) x27 (nI x28) (nI x29) (nI x30) (nI x33) x45 (nI x46) (nI x52) (nI x53) (nI x61) (nI x62) (nI x63) (nI x65) x66 f1 f2 f3 (bN 3 q4) (bN 7 q5) (bN 7 q6) (bN 4 q7) f8 (bN 2 q9) (bH q10) f11 (b2 m12_0 m12_1) (b2 m13_0 m13_1) (b2 m14_0 m14_1) (b2m m15_0 m15_1) f17 (bA 159 q31) f32 f34 f35 f36 f37 (bN 7 q38) f39 f40 f41 (b2 m42_0 m42_1) f43 f44 f47 f48 f49 f50 f51 (bN 13 q54) (bN 120 q55) (bN 120 q56) f57 (bN 120 q58) f59 f60 f64) (mo_t ck) sz)) (va_Qi (fun (r : Int32) (_ : Unit) => True) (fun _ _ => True) (va_A [] sz)) 0 0 (va_A [] sz) := by
  refine Met.ofW (cc := cX9_goesTo) (maxL := 6) (ret := (some .int)) (by decide) rfl ?_
  intro p e s m args below meth c s₁ B hml hv
  obtain ⟨rfl, rfl, hP, hK, hD0⟩ := hv
  have hx := B.exec
  have hb := B.bytes
  have hr := B.returns
  have hts := atoms_spec (ws := vs_M_goesTo) B.pre
  have v_1 := hts (.fieldLink RX9 49 "ClockReachModel" "edgeMany" "[I") (List.mem_cons_of_mem _ vm_62)
  have v_2 := hts (.fieldLink RX9 258 "ClockReachModel" "bank" "I") (List.mem_cons_of_mem _ vm_22)
  have hown : s.vm.findClass RX9 = some m.cls := findClass_of_methodNamed B.named
  have hlocks := B.notSynchronized
  have hiX9 : ∀ w ∈ wsX90, w ∈ vs_M_goesTo := fun _ h => List.mem_cons_of_mem _ (List.mem_append_right _ h)
  have hD := hD0
  have hA : ∀ q : Nat, s.heap.size ≤ q → va_A [] s.heap.size q := fun _ h => Or.inr h
  have hS : va_S (va_A [] s.heap.size) s.heap s.heap [] := va_S.rf
  have hl := lv_entry ([.ref (ad 0), .int p0]) (n := 6) (Nat.le_of_ble_eq_true rfl)
  rw [lg_entry_eq]
  generalize (lg_sl ([.ref (ad 0), .int p0]) ++ List.replicate (6 - (lg_sl ([.ref (ad 0), .int p0])).length) Slot.unset).toArray = ls at hl ⊢
  have hl : lv_has ls 6 [(0, .ref (ad 0)), (1, .int p0)] := hl
  refine lv_iconst (v := 0) hx hb dX9_goesTo_0 (by decide) ?_
  refine lv_istore_n (lv' := [(2, .int 0), (0, .ref (ad 0)), (1, .int p0)]) hx hb dX9_goesTo_1 rfl hl (by decide) rfl (fun ls hl => ?_)
  refine lv_iconst (v := 0) hx hb dX9_goesTo_2 (by decide) ?_
  refine lv_istore_n (lv' := [(3, .int 0), (2, .int 0), (0, .ref (ad 0)), (1, .int p0)]) hx hb dX9_goesTo_3 rfl hl (by decide) rfl (fun ls hl => ?_)
  refine pu_while (fun nn H locs ls => ∃ (g_3 : Int32) (g_4 : Nat), nn = 9 - g_4 ∧ g_4 ≤ 9 ∧ va_P (dC, dI) vwCl (mo_w ad ck x0 (nI x16) (nI x18) (nI x19) x20 (nI x21) (nI x22) x23 x24 x25 (nI x26) x27 (nI x28) (nI x29) (nI x30) (nI x33) x45 (nI x46) (nI x52) (nI x53) (nI x61) (nI x62) (nI x63) (nI x65) x66 f1 f2 f3 (bN 3 q4) (bN 7 q5) (bN 7 q6) (bN 4 q7) f8 (bN 2 q9) (bH q10) f11 (b2 m12_0 m12_1) (b2 m13_0 m13_1) (b2 m14_0 m14_1) (b2m m15_0 m15_1) f17 (bA 159 q31) f32 f34 f35 f36 f37 (bN 7 q38) f39 f40 f41 (b2 m42_0 m42_1) f43 f44 f47 f48 f49 f50 f51 (bN 13 q54) (bN 120 q55) (bN 120 q56) f57 (bN 120 q58) f59 f60 f64) H ∧ va_D (fun _ => True) (mo_w ad ck x0 (nI x16) (nI x18) (nI x19) x20 (nI x21) (nI x22) x23 x24 x25 (nI x26) x27 (nI x28) (nI x29) (nI x30) (nI x33) x45 (nI x46) (nI x52) (nI x53) (nI x61) (nI x62) (nI x63) (nI x65) x66 f1 f2 f3 (bN 3 q4) (bN 7 q5) (bN 7 q6) (bN 4 q7) f8 (bN 2 q9) (bH q10) f11 (b2 m12_0 m12_1) (b2 m13_0 m13_1) (b2 m14_0 m14_1) (b2m m15_0 m15_1) f17 (bA 159 q31) f32 f34 f35 f36 f37 (bN 7 q38) f39 f40 f41 (b2 m42_0 m42_1) f43 f44 f47 f48 f49 f50 f51 (bN 13 q54) (bN 120 q55) (bN 120 q56) f57 (bN 120 q58) f59 f60 f64) ∧ va_S (va_A [] s.heap.size) s.heap H locs ∧ lv_has ls 6 [(0, .ref (ad 0)), (1, .int p0), (2, .int g_3), (3, .int (nI g_4))]) 4 ?_ _ _ _ _ ⟨0, 0, rfl, (Nat.le_of_ble_eq_true rfl), hP, hD, hS, lv_sub hl [2, 3, 1, 0] rfl⟩
  rintro nn ih_5 H locs ls ⟨g_3, g_4, rfl, hg_4, hP, hD, hS, hl⟩
  refine lv_iload_n hx hb dX9_goesTo_4 rfl (lv_at hl 3 rfl) ?_
  refine lv_bipush (v := 8) hx hb dX9_goesTo_5 (by decide) ?_
  refine lv_icmp_gt (tgt := 115) hx hb dX9_goesTo_7 (by decide) (fun c_6 => ?_) (fun c_6 => ?_)
  · have c_6 : 8 < g_4 := (nI_ltI (a := 8) (b := g_4) (Nat.le_of_ble_eq_true rfl) (Nat.lt_of_le_of_lt hg_4 (Nat.le_of_ble_eq_true rfl))).mp c_6
    refine lv_iload_n hx hb dX9_goesTo_115 rfl (lv_at hl 2 rfl) ?_
    exact W.iret (v := g_3) hx hb hr (fun t ht hW => ⟨⟨g_3, (), rfl, trivial, trivial⟩, hS.F ht⟩) hS.2.2 dX9_goesTo_116
  · have c_6 : ¬ 8 < g_4 := fun z => c_6 ((nI_ltI (a := 8) (b := g_4) (Nat.le_of_ble_eq_true rfl) (Nat.lt_of_le_of_lt hg_4 (Nat.le_of_ble_eq_true rfl))).mpr z)
    refine lv_iconst (v := 0) hx hb dX9_goesTo_10 (by decide) ?_
    refine lv_istore (lv' := [(4, .int 0), (0, .ref (ad 0)), (1, .int p0), (2, .int g_3), (3, .int (nI g_4))]) hx hb dX9_goesTo_11 hl (by decide) rfl (fun ls hl => ?_)
    refine pu_while (fun nn H locs ls => ∃ (g_9 : Int32) (g_10 : Nat), nn = 14 - g_10 ∧ g_10 ≤ 14 ∧ va_P (dC, dI) vwCl (mo_w ad ck x0 (nI x16) (nI x18) (nI x19) x20 (nI x21) (nI x22) x23 x24 x25 (nI x26) x27 (nI x28) (nI x29) (nI x30) (nI x33) x45 (nI x46) (nI x52) (nI x53) (nI x61) (nI x62) (nI x63) (nI x65) x66 f1 f2 f3 (bN 3 q4) (bN 7 q5) (bN 7 q6) (bN 4 q7) f8 (bN 2 q9) (bH q10) f11 (b2 m12_0 m12_1) (b2 m13_0 m13_1) (b2 m14_0 m14_1) (b2m m15_0 m15_1) f17 (bA 159 q31) f32 f34 f35 f36 f37 (bN 7 q38) f39 f40 f41 (b2 m42_0 m42_1) f43 f44 f47 f48 f49 f50 f51 (bN 13 q54) (bN 120 q55) (bN 120 q56) f57 (bN 120 q58) f59 f60 f64) H ∧ va_D (fun _ => True) (mo_w ad ck x0 (nI x16) (nI x18) (nI x19) x20 (nI x21) (nI x22) x23 x24 x25 (nI x26) x27 (nI x28) (nI x29) (nI x30) (nI x33) x45 (nI x46) (nI x52) (nI x53) (nI x61) (nI x62) (nI x63) (nI x65) x66 f1 f2 f3 (bN 3 q4) (bN 7 q5) (bN 7 q6) (bN 4 q7) f8 (bN 2 q9) (bH q10) f11 (b2 m12_0 m12_1) (b2 m13_0 m13_1) (b2 m14_0 m14_1) (b2m m15_0 m15_1) f17 (bA 159 q31) f32 f34 f35 f36 f37 (bN 7 q38) f39 f40 f41 (b2 m42_0 m42_1) f43 f44 f47 f48 f49 f50 f51 (bN 13 q54) (bN 120 q55) (bN 120 q56) f57 (bN 120 q58) f59 f60 f64) ∧ va_S (va_A [] s.heap.size) s.heap H locs ∧ lv_has ls 6 [(0, .ref (ad 0)), (1, .int p0), (2, .int g_9), (3, .int (nI g_4)), (4, .int (nI g_10))]) 13 ?_ _ _ _ _ ⟨g_3, 0, rfl, (Nat.le_of_ble_eq_true rfl), hP, hD, hS, lv_sub hl [1, 2, 3, 4, 0] rfl⟩
    rintro nn ih_11 H locs ls ⟨g_9, g_10, rfl, hg_10, hP, hD, hS, hl⟩
    refine lv_iload hx hb dX9_goesTo_13 (lv_at hl 4 rfl) ?_
    refine lv_aload_n hx hb dX9_goesTo_15 rfl (lv_at hl 0 rfl) ?_
    refine va_get (D := (dC, dI)) (ci := 9) (v := .ref (ad 14)) (C := RX9) (T := TX9) (N := 67) hx hb hts hiX9 hown hK hP 0 rfl rfl 14 (by decide) v_1 (fun _ h9 => h9) rfl dX9_goesTo_16 ?_
    refine lv_aload_n hx hb dX9_goesTo_19 rfl (lv_at hl 0 rfl) ?_
    refine va_get (D := (dC, dI)) (ci := 9) (v := .int (nI x16)) (C := RX9) (T := TX9) (N := 67) hx hb hts hiX9 hown hK hP 0 rfl rfl 16 (by decide) v_2 (fun _ h9 => h9) rfl dX9_goesTo_20 ?_
    refine va_iald hx hb hK hP 14 13 rfl rfl (vp_in_nI (n := x16) (Nat.lt_of_le_of_lt hx16 (Nat.le_of_ble_eq_true rfl)) (Nat.le_of_ble_eq_true rfl)) dX9_goesTo_23 ?_
    refine lv_topi (fun y_12 ey_12 => ?_)
    obtain ⟨u_13, hu_13, fu_13⟩ := b2_get (a := m14_0) (b := m14_1) (i := x16) (by omega)
    have qy_12 := ey_12.trans fu_13
    obtain rfl : y_12 = nI u_13 := qy_12
    refine lv_icmp_ge (tgt := 109) hx hb dX9_goesTo_24 (by decide) (fun c_14 => ?_) (fun c_14 => ?_)
    · have c_14 : u_13 ≤ g_10 := (nI_leI (a := u_13) (b := g_10) (by omega) (Nat.lt_of_le_of_lt hg_10 (Nat.le_of_ble_eq_true rfl))).mp c_14
      refine lv_iinc (v := (nI (g_4 + 1))) (lv' := [(3, .int (nI (g_4 + 1))), (0, .ref (ad 0)), (1, .int p0), (2, .int g_9), (4, .int (nI g_10))]) hx hb dX9_goesTo_109 hl (k := 3) rfl (nI_1 _) (by decide) rfl (fun ls hl => ?_)
      refine lv_goto (tgt := 4) hx hb dX9_goesTo_112 (by decide) ?_
      exact ih_5 (9 - (g_4 + 1)) (by omega) _ _ _ ⟨g_9, (g_4 + 1), rfl, (by omega), hP, hD, hS, lv_sub hl [1, 2, 3, 0] rfl⟩
    · have c_14 : ¬ u_13 ≤ g_10 := fun z => c_14 ((nI_leI (a := u_13) (b := g_10) (by omega) (Nat.lt_of_le_of_lt hg_10 (Nat.le_of_ble_eq_true rfl))).mpr z)
      refine lv_aload_n hx hb dX9_goesTo_27 rfl (lv_at hl 0 rfl) ?_
      refine lv_aload_n hx hb dX9_goesTo_28 rfl (lv_at hl 0 rfl) ?_
      refine lv_iload hx hb dX9_goesTo_29 (lv_at hl 4 rfl) ?_
      refine va_calli (va_runV (As := [.int (nI g_10)]) (rest := [.ref (ad 0)]) ⟨hx, hb, hml, hown, hts⟩ (c_M_outOf l dC dI _ ad ck x0 x16 x18 x19 x20 x21 x22 x23 x24 x25 x26 x27 x28 x29 x30 x33 x45 x46 x52 x53 x61 x62 x63 x65 x66 f1 f2 f3 q4 q5 q6 q7 f8 q9 q10 f11 m12_0 m12_1 m13_0 m13_1 m14_0 m14_1 m15_0 m15_1 f17 q31 f32 f34 f35 f36 f37 q38 f39 f40 f41 m42_0 m42_1 f43 f44 f47 f48 f49 f50 f51 q54 q55 q56 f57 q58 f59 f60 f64 g_10 hx16 hx18 hx19 hx21 hx22 hx26 hx28 hx29 hx30 hx33 hx46 hx52 hx53 hx61 hx62 hx63 hx65 hm12_0 hm12_1 hm13_0 hm13_1 hm14_0 hm14_1 hm15_0 hm15_1 hm42_0 hm42_1 (by omega)) (cwV 1 hts g_M_goesTo_M_outOf rfl rfl rfl (by decide +kernel) ⟨Nat.le_of_ble_eq_true rfl, Nat.le_of_ble_eq_true rfl⟩) ⟨pu_bl, va_recv hK hP (ci := 9) (q0 := 0) rfl rfl, pu_in hP hK hD⟩ rfl rfl hl.1 rfl (lv_room (Nat.le_of_ble_eq_true rfl)) dX9_goesTo_31 ⟨Nat.le_of_ble_eq_true rfl, Nat.le_of_ble_eq_true rfl⟩) hS (fun q _ h => pu_fr hS hA q h) (pu_fr hS hA) (fun r_15 u t H1 locs ht hvm hw hB hz1 hk1 hS => ?_)
      have hP := pu_keep hP hk1
      clear hk1 hz1 ht hvm
      generalize H1 = H at hP hS ⊢
      obtain ⟨u_16, hu_16, rfl⟩ := hw
      refine va_calli (va_runV (As := [.int (nI u_16)]) (rest := []) ⟨hx, hb, hml, hown, hts⟩ (c_M_isUrgent l dC dI _ ad ck x0 x16 x18 x19 x20 x21 x22 x23 x24 x25 x26 x27 x28 x29 x30 x33 x45 x46 x52 x53 x61 x62 x63 x65 x66 f1 f2 f3 q4 q5 q6 q7 f8 q9 q10 f11 m12_0 m12_1 m13_0 m13_1 m14_0 m14_1 m15_0 m15_1 f17 q31 f32 f34 f35 f36 f37 q38 f39 f40 f41 m42_0 m42_1 f43 f44 f47 f48 f49 f50 f51 q54 q55 q56 f57 q58 f59 f60 f64 u_16 hx16 hx18 hx19 hx21 hx22 hx26 hx28 hx29 hx30 hx33 hx46 hx52 hx53 hx61 hx62 hx63 hx65 hm12_0 hm12_1 hm13_0 hm13_1 hm14_0 hm14_1 hm15_0 hm15_1 hm42_0 hm42_1 hu_16) (cwV 1 hts g_M_goesTo_M_isUrgent rfl rfl rfl (by decide +kernel) ⟨Nat.le_of_ble_eq_true rfl, Nat.le_of_ble_eq_true rfl⟩) ⟨pu_bl, va_recv hK hP (ci := 9) (q0 := 0) rfl rfl, pu_in hP hK hD⟩ rfl rfl hl.1 rfl (lv_room (Nat.le_of_ble_eq_true rfl)) dX9_goesTo_34 ⟨Nat.le_of_ble_eq_true rfl, Nat.le_of_ble_eq_true rfl⟩) hS (fun q _ h => pu_fr hS hA q h) (pu_fr hS hA) (fun r_17 u t H1 locs ht hvm hw hB hz1 hk1 hS => ?_)
      have hP := pu_keep hP hk1
      clear hk1 hz1 ht hvm
      generalize H1 = H at hP hS ⊢
      obtain ⟨u_18, hu_18, rfl⟩ := hw
      refine pu_join (fun H locs ls st => ∃ (g_19 : Nat), st = [.int (nI g_19)] ∧ g_19 ≤ 1 ∧ va_P (dC, dI) vwCl (mo_w ad ck x0 (nI x16) (nI x18) (nI x19) x20 (nI x21) (nI x22) x23 x24 x25 (nI x26) x27 (nI x28) (nI x29) (nI x30) (nI x33) x45 (nI x46) (nI x52) (nI x53) (nI x61) (nI x62) (nI x63) (nI x65) x66 f1 f2 f3 (bN 3 q4) (bN 7 q5) (bN 7 q6) (bN 4 q7) f8 (bN 2 q9) (bH q10) f11 (b2 m12_0 m12_1) (b2 m13_0 m13_1) (b2 m14_0 m14_1) (b2m m15_0 m15_1) f17 (bA 159 q31) f32 f34 f35 f36 f37 (bN 7 q38) f39 f40 f41 (b2 m42_0 m42_1) f43 f44 f47 f48 f49 f50 f51 (bN 13 q54) (bN 120 q55) (bN 120 q56) f57 (bN 120 q58) f59 f60 f64) H ∧ va_D (fun _ => True) (mo_w ad ck x0 (nI x16) (nI x18) (nI x19) x20 (nI x21) (nI x22) x23 x24 x25 (nI x26) x27 (nI x28) (nI x29) (nI x30) (nI x33) x45 (nI x46) (nI x52) (nI x53) (nI x61) (nI x62) (nI x63) (nI x65) x66 f1 f2 f3 (bN 3 q4) (bN 7 q5) (bN 7 q6) (bN 4 q7) f8 (bN 2 q9) (bH q10) f11 (b2 m12_0 m12_1) (b2 m13_0 m13_1) (b2 m14_0 m14_1) (b2m m15_0 m15_1) f17 (bA 159 q31) f32 f34 f35 f36 f37 (bN 7 q38) f39 f40 f41 (b2 m42_0 m42_1) f43 f44 f47 f48 f49 f50 f51 (bN 13 q54) (bN 120 q55) (bN 120 q56) f57 (bN 120 q58) f59 f60 f64) ∧ va_S (va_A [] s.heap.size) s.heap H locs ∧ lv_has ls 6 [(0, .ref (ad 0)), (1, .int p0), (2, .int g_9), (3, .int (nI g_4)), (4, .int (nI g_10))]) 81 ?_ (fun j_20 => ?_)
      · rintro H locs ls st ⟨g_19, rfl, hg_19, hP, hD, hS, hl⟩
        refine lv_istore (lv' := [(5, .int (nI g_19)), (0, .ref (ad 0)), (1, .int p0), (2, .int g_9), (3, .int (nI g_4)), (4, .int (nI g_10))]) hx hb dX9_goesTo_81 hl (by decide) rfl (fun ls hl => ?_)
        refine lv_iload_n hx hb dX9_goesTo_83 rfl (lv_at hl 3 rfl) ?_
        refine lv_iload hx hb dX9_goesTo_84 (lv_at hl 0 rfl) ?_
        refine pu_join (fun H locs ls st => ∃ (g_21 : Int32), st = [.int g_21, .int g_9] ∧ va_P (dC, dI) vwCl (mo_w ad ck x0 (nI x16) (nI x18) (nI x19) x20 (nI x21) (nI x22) x23 x24 x25 (nI x26) x27 (nI x28) (nI x29) (nI x30) (nI x33) x45 (nI x46) (nI x52) (nI x53) (nI x61) (nI x62) (nI x63) (nI x65) x66 f1 f2 f3 (bN 3 q4) (bN 7 q5) (bN 7 q6) (bN 4 q7) f8 (bN 2 q9) (bH q10) f11 (b2 m12_0 m12_1) (b2 m13_0 m13_1) (b2 m14_0 m14_1) (b2m m15_0 m15_1) f17 (bA 159 q31) f32 f34 f35 f36 f37 (bN 7 q38) f39 f40 f41 (b2 m42_0 m42_1) f43 f44 f47 f48 f49 f50 f51 (bN 13 q54) (bN 120 q55) (bN 120 q56) f57 (bN 120 q58) f59 f60 f64) H ∧ va_D (fun _ => True) (mo_w ad ck x0 (nI x16) (nI x18) (nI x19) x20 (nI x21) (nI x22) x23 x24 x25 (nI x26) x27 (nI x28) (nI x29) (nI x30) (nI x33) x45 (nI x46) (nI x52) (nI x53) (nI x61) (nI x62) (nI x63) (nI x65) x66 f1 f2 f3 (bN 3 q4) (bN 7 q5) (bN 7 q6) (bN 4 q7) f8 (bN 2 q9) (bH q10) f11 (b2 m12_0 m12_1) (b2 m13_0 m13_1) (b2 m14_0 m14_1) (b2m m15_0 m15_1) f17 (bA 159 q31) f32 f34 f35 f36 f37 (bN 7 q38) f39 f40 f41 (b2 m42_0 m42_1) f43 f44 f47 f48 f49 f50 f51 (bN 13 q54) (bN 120 q55) (bN 120 q56) f57 (bN 120 q58) f59 f60 f64) ∧ va_S (va_A [] s.heap.size) s.heap H locs ∧ lv_has ls 6 [(0, .ref (ad 0)), (1, .int p0), (2, .int g_9), (3, .int (nI g_4)), (4, .int (nI g_10)), (5, .int (nI g_19))]) 101 ?_ (fun j_22 => ?_)
        · rintro H locs ls st ⟨g_21, rfl, hP, hD, hS, hl⟩
          refine lv_ior hx hb dX9_goesTo_101 ?_
          refine lv_topi (fun y_23 ey_23 => ?_)
          refine lv_istore_n (lv' := [(2, .int y_23), (0, .ref (ad 0)), (1, .int p0), (3, .int (nI g_4)), (4, .int (nI g_10)), (5, .int (nI g_19))]) hx hb dX9_goesTo_102 rfl hl (by decide) rfl (fun ls hl => ?_)
          refine lv_iinc (v := (nI (g_10 + 1))) (lv' := [(4, .int (nI (g_10 + 1))), (2, .int y_23), (0, .ref (ad 0)), (1, .int p0), (3, .int (nI g_4)), (5, .int (nI g_19))]) hx hb dX9_goesTo_103 hl (k := 4) rfl (nI_1 _) (by decide) rfl (fun ls hl => ?_)
          refine lv_goto (tgt := 13) hx hb dX9_goesTo_106 (by decide) ?_
          exact ih_11 (14 - (g_10 + 1)) (by omega) _ _ _ ⟨y_23, (g_10 + 1), rfl, (by omega), hP, hD, hS, lv_sub hl [2, 3, 1, 4, 0] rfl⟩
        refine lv_if_eq (tgt := 100) hx hb dX9_goesTo_86 (by decide) (fun c_24 => ?_) (fun c_24 => ?_)
        · have c_24 : g_19 = 0 := (nI_eq (a := g_19) (b := 0) (Nat.lt_of_le_of_lt hg_19 (Nat.le_of_ble_eq_true rfl)) (Nat.le_of_ble_eq_true rfl)).mp c_24
          refine lv_iconst (v := 0) hx hb dX9_goesTo_100 (by decide) ?_
          exact j_22 _ _ _ _ ⟨0, rfl, hP, hD, hS, lv_sub hl [1, 2, 3, 4, 5, 0] rfl⟩
        · have c_24 : ¬ g_19 = 0 := fun z => c_24 ((nI_eq (a := g_19) (b := 0) (Nat.lt_of_le_of_lt hg_19 (Nat.le_of_ble_eq_true rfl)) (Nat.le_of_ble_eq_true rfl)).mpr z)
          refine lv_iconst (v := 1) hx hb dX9_goesTo_89 (by decide) ?_
          refine lv_aload_n hx hb dX9_goesTo_90 rfl (lv_at hl 1 rfl) ?_
          refine lv_iload hx hb dX9_goesTo_91 (lv_at hl 5 rfl) ?_
          refine va_calli (va_runV (As := [.int (nI g_10)]) (rest := [.int 1, .int g_9]) ⟨hx, hb, hml, hown, hts⟩ (c_M_into l dC dI _ ad ck x0 x16 x18 x19 x20 x21 x22 x23 x24 x25 x26 x27 x28 x29 x30 x33 x45 x46 x52 x53 x61 x62 x63 x65 x66 f1 f2 f3 q4 q5 q6 q7 f8 q9 q10 f11 m12_0 m12_1 m13_0 m13_1 m14_0 m14_1 m15_0 m15_1 f17 q31 f32 f34 f35 f36 f37 q38 f39 f40 f41 m42_0 m42_1 f43 f44 f47 f48 f49 f50 f51 q54 q55 q56 f57 q58 f59 f60 f64 g_10 hx16 hx18 hx19 hx21 hx22 hx26 hx28 hx29 hx30 hx33 hx46 hx52 hx53 hx61 hx62 hx63 hx65 hm12_0 hm12_1 hm13_0 hm13_1 hm14_0 hm14_1 hm15_0 hm15_1 hm42_0 hm42_1 (by omega)) (cwV 1 hts g_M_goesTo_M_into rfl rfl rfl (by decide +kernel) ⟨Nat.le_of_ble_eq_true rfl, Nat.le_of_ble_eq_true rfl⟩) ⟨pu_bl, va_recv hK hP (ci := 9) (q0 := 0) rfl rfl, pu_in hP hK hD⟩ rfl rfl hl.1 rfl (lv_room (Nat.le_of_ble_eq_true rfl)) dX9_goesTo_93 ⟨Nat.le_of_ble_eq_true rfl, Nat.le_of_ble_eq_true rfl⟩) hS (fun q _ h => pu_fr hS hA q h) (pu_fr hS hA) (fun r_25 u t H1 locs ht hvm hw hB hz1 hk1 hS => ?_)
          have hP := pu_keep hP hk1
          clear hk1 hz1 ht hvm
          generalize H1 = H at hP hS ⊢
          obtain ⟨u_26, hu_26, rfl⟩ := hw
          refine lv_ishl hx hb dX9_goesTo_96 ?_
          refine lv_topi (fun y_27 ey_27 => ?_)
          refine lv_goto (tgt := 101) hx hb dX9_goesTo_97 (by decide) ?_
          exact j_22 _ _ _ _ ⟨y_27, rfl, hP, hD, hS, lv_sub hl [1, 2, 3, 4, 5, 0] rfl⟩
      refine lv_if_eq (tgt := 80) hx hb dX9_goesTo_37 (by decide) (fun c_28 => ?_) (fun c_28 => ?_)
      · have c_28 : u_18 = 0 := (nI_eq (a := u_18) (b := 0) (Nat.lt_of_le_of_lt hu_18 (Nat.le_of_ble_eq_true rfl)) (Nat.le_of_ble_eq_true rfl)).mp c_28
        refine lv_iconst (v := 0) hx hb dX9_goesTo_80 (by decide) ?_
        exact j_20 _ _ _ _ ⟨0, rfl, (Nat.le_of_ble_eq_true rfl), hP, hD, hS, lv_sub hl [0, 1, 2, 3, 4] rfl⟩
      · have c_28 : ¬ u_18 = 0 := fun z => c_28 ((nI_eq (a := u_18) (b := 0) (Nat.lt_of_le_of_lt hu_18 (Nat.le_of_ble_eq_true rfl)) (Nat.le_of_ble_eq_true rfl)).mpr z)
        refine lv_aload_n hx hb dX9_goesTo_40 rfl (lv_at hl 0 rfl) ?_
        refine lv_aload_n hx hb dX9_goesTo_41 rfl (lv_at hl 0 rfl) ?_
        refine lv_iload hx hb dX9_goesTo_42 (lv_at hl 4 rfl) ?_
        refine va_calli (va_runV (As := [.int (nI g_10)]) (rest := [.ref (ad 0)]) ⟨hx, hb, hml, hown, hts⟩ (c_M_into l dC dI _ ad ck x0 x16 x18 x19 x20 x21 x22 x23 x24 x25 x26 x27 x28 x29 x30 x33 x45 x46 x52 x53 x61 x62 x63 x65 x66 f1 f2 f3 q4 q5 q6 q7 f8 q9 q10 f11 m12_0 m12_1 m13_0 m13_1 m14_0 m14_1 m15_0 m15_1 f17 q31 f32 f34 f35 f36 f37 q38 f39 f40 f41 m42_0 m42_1 f43 f44 f47 f48 f49 f50 f51 q54 q55 q56 f57 q58 f59 f60 f64 g_10 hx16 hx18 hx19 hx21 hx22 hx26 hx28 hx29 hx30 hx33 hx46 hx52 hx53 hx61 hx62 hx63 hx65 hm12_0 hm12_1 hm13_0 hm13_1 hm14_0 hm14_1 hm15_0 hm15_1 hm42_0 hm42_1 (by omega)) (cwV 1 hts g_M_goesTo_M_into rfl rfl rfl (by decide +kernel) ⟨Nat.le_of_ble_eq_true rfl, Nat.le_of_ble_eq_true rfl⟩) ⟨pu_bl, va_recv hK hP (ci := 9) (q0 := 0) rfl rfl, pu_in hP hK hD⟩ rfl rfl hl.1 rfl (lv_room (Nat.le_of_ble_eq_true rfl)) dX9_goesTo_44 ⟨Nat.le_of_ble_eq_true rfl, Nat.le_of_ble_eq_true rfl⟩) hS (fun q _ h => pu_fr hS hA q h) (pu_fr hS hA) (fun r_29 u t H1 locs ht hvm hw hB hz1 hk1 hS => ?_)
        have hP := pu_keep hP hk1
        clear hk1 hz1 ht hvm
        generalize H1 = H at hP hS ⊢
        obtain ⟨u_30, hu_30, rfl⟩ := hw
        refine va_calli (va_runV (As := [.int (nI u_30)]) (rest := []) ⟨hx, hb, hml, hown, hts⟩ (c_M_isUrgent l dC dI _ ad ck x0 x16 x18 x19 x20 x21 x22 x23 x24 x25 x26 x27 x28 x29 x30 x33 x45 x46 x52 x53 x61 x62 x63 x65 x66 f1 f2 f3 q4 q5 q6 q7 f8 q9 q10 f11 m12_0 m12_1 m13_0 m13_1 m14_0 m14_1 m15_0 m15_1 f17 q31 f32 f34 f35 f36 f37 q38 f39 f40 f41 m42_0 m42_1 f43 f44 f47 f48 f49 f50 f51 q54 q55 q56 f57 q58 f59 f60 f64 u_30 hx16 hx18 hx19 hx21 hx22 hx26 hx28 hx29 hx30 hx33 hx46 hx52 hx53 hx61 hx62 hx63 hx65 hm12_0 hm12_1 hm13_0 hm13_1 hm14_0 hm14_1 hm15_0 hm15_1 hm42_0 hm42_1 hu_30) (cwV 1 hts g_M_goesTo_M_isUrgent rfl rfl rfl (by decide +kernel) ⟨Nat.le_of_ble_eq_true rfl, Nat.le_of_ble_eq_true rfl⟩) ⟨pu_bl, va_recv hK hP (ci := 9) (q0 := 0) rfl rfl, pu_in hP hK hD⟩ rfl rfl hl.1 rfl (lv_room (Nat.le_of_ble_eq_true rfl)) dX9_goesTo_47 ⟨Nat.le_of_ble_eq_true rfl, Nat.le_of_ble_eq_true rfl⟩) hS (fun q _ h => pu_fr hS hA q h) (pu_fr hS hA) (fun r_31 u t H1 locs ht hvm hw hB hz1 hk1 hS => ?_)
        have hP := pu_keep hP hk1
        clear hk1 hz1 ht hvm
        generalize H1 = H at hP hS ⊢
        obtain ⟨u_32, hu_32, rfl⟩ := hw
        refine lv_if_eq (tgt := 80) hx hb dX9_goesTo_50 (by decide) (fun c_33 => ?_) (fun c_33 => ?_)
        · have c_33 : u_32 = 0 := (nI_eq (a := u_32) (b := 0) (Nat.lt_of_le_of_lt hu_32 (Nat.le_of_ble_eq_true rfl)) (Nat.le_of_ble_eq_true rfl)).mp c_33
          refine lv_iconst (v := 0) hx hb dX9_goesTo_80 (by decide) ?_
          exact j_20 _ _ _ _ ⟨0, rfl, (Nat.le_of_ble_eq_true rfl), hP, hD, hS, lv_sub hl [0, 1, 2, 3, 4] rfl⟩
        · have c_33 : ¬ u_32 = 0 := fun z => c_33 ((nI_eq (a := u_32) (b := 0) (Nat.lt_of_le_of_lt hu_32 (Nat.le_of_ble_eq_true rfl)) (Nat.le_of_ble_eq_true rfl)).mpr z)
          refine lv_aload_n hx hb dX9_goesTo_53 rfl (lv_at hl 0 rfl) ?_
          refine lv_iload hx hb dX9_goesTo_54 (lv_at hl 4 rfl) ?_
          refine va_calli (va_runV (As := [.int (nI g_10)]) (rest := []) ⟨hx, hb, hml, hown, hts⟩ (c_M_outOf l dC dI _ ad ck x0 x16 x18 x19 x20 x21 x22 x23 x24 x25 x26 x27 x28 x29 x30 x33 x45 x46 x52 x53 x61 x62 x63 x65 x66 f1 f2 f3 q4 q5 q6 q7 f8 q9 q10 f11 m12_0 m12_1 m13_0 m13_1 m14_0 m14_1 m15_0 m15_1 f17 q31 f32 f34 f35 f36 f37 q38 f39 f40 f41 m42_0 m42_1 f43 f44 f47 f48 f49 f50 f51 q54 q55 q56 f57 q58 f59 f60 f64 g_10 hx16 hx18 hx19 hx21 hx22 hx26 hx28 hx29 hx30 hx33 hx46 hx52 hx53 hx61 hx62 hx63 hx65 hm12_0 hm12_1 hm13_0 hm13_1 hm14_0 hm14_1 hm15_0 hm15_1 hm42_0 hm42_1 (by omega)) (cwV 1 hts g_M_goesTo_M_outOf rfl rfl rfl (by decide +kernel) ⟨Nat.le_of_ble_eq_true rfl, Nat.le_of_ble_eq_true rfl⟩) ⟨pu_bl, va_recv hK hP (ci := 9) (q0 := 0) rfl rfl, pu_in hP hK hD⟩ rfl rfl hl.1 rfl (lv_room (Nat.le_of_ble_eq_true rfl)) dX9_goesTo_56 ⟨Nat.le_of_ble_eq_true rfl, Nat.le_of_ble_eq_true rfl⟩) hS (fun q _ h => pu_fr hS hA q h) (pu_fr hS hA) (fun r_34 u t H1 locs ht hvm hw hB hz1 hk1 hS => ?_)
          have hP := pu_keep hP hk1
          clear hk1 hz1 ht hvm
          generalize H1 = H at hP hS ⊢
          obtain ⟨u_35, hu_35, rfl⟩ := hw
          refine lv_iload_n hx hb dX9_goesTo_59 rfl (lv_at hl 1 rfl) ?_
          refine lv_icmp_eq (tgt := 76) hx hb dX9_goesTo_60 (by decide) (fun c_36 => ?_) (fun c_36 => ?_)
          · refine lv_iconst (v := 1) hx hb dX9_goesTo_76 (by decide) ?_
            refine lv_goto (tgt := 81) hx hb dX9_goesTo_77 (by decide) ?_
            exact j_20 _ _ _ _ ⟨1, rfl, (Nat.le_of_ble_eq_true rfl), hP, hD, hS, lv_sub hl [0, 1, 2, 3, 4] rfl⟩
          · refine lv_iload_n hx hb dX9_goesTo_63 rfl (lv_at hl 2 rfl) ?_
            refine lv_aload_n hx hb dX9_goesTo_64 rfl (lv_at hl 0 rfl) ?_
            refine lv_iload hx hb dX9_goesTo_65 (lv_at hl 4 rfl) ?_
            refine va_calli (va_runV (As := [.int (nI g_10)]) (rest := [.int g_9]) ⟨hx, hb, hml, hown, hts⟩ (c_M_outOf l dC dI _ ad ck x0 x16 x18 x19 x20 x21 x22 x23 x24 x25 x26 x27 x28 x29 x30 x33 x45 x46 x52 x53 x61 x62 x63 x65 x66 f1 f2 f3 q4 q5 q6 q7 f8 q9 q10 f11 m12_0 m12_1 m13_0 m13_1 m14_0 m14_1 m15_0 m15_1 f17 q31 f32 f34 f35 f36 f37 q38 f39 f40 f41 m42_0 m42_1 f43 f44 f47 f48 f49 f50 f51 q54 q55 q56 f57 q58 f59 f60 f64 g_10 hx16 hx18 hx19 hx21 hx22 hx26 hx28 hx29 hx30 hx33 hx46 hx52 hx53 hx61 hx62 hx63 hx65 hm12_0 hm12_1 hm13_0 hm13_1 hm14_0 hm14_1 hm15_0 hm15_1 hm42_0 hm42_1 (by omega)) (cwV 1 hts g_M_goesTo_M_outOf rfl rfl rfl (by decide +kernel) ⟨Nat.le_of_ble_eq_true rfl, Nat.le_of_ble_eq_true rfl⟩) ⟨pu_bl, va_recv hK hP (ci := 9) (q0 := 0) rfl rfl, pu_in hP hK hD⟩ rfl rfl hl.1 rfl (lv_room (Nat.le_of_ble_eq_true rfl)) dX9_goesTo_67 ⟨Nat.le_of_ble_eq_true rfl, Nat.le_of_ble_eq_true rfl⟩) hS (fun q _ h => pu_fr hS hA q h) (pu_fr hS hA) (fun r_37 u t H1 locs ht hvm hw hB hz1 hk1 hS => ?_)
            have hP := pu_keep hP hk1
            clear hk1 hz1 ht hvm
            generalize H1 = H at hP hS ⊢
            obtain ⟨u_38, hu_38, rfl⟩ := hw
            refine va_calli (va_runS (As := [.int g_9, .int (nI u_38)]) (rest := []) ⟨hx, hb, hml, hown, hts⟩ (c_X9_isOf l dC dI _ g_9 (nI u_38)) (va_cwS 2 hts g_M_goesTo_X9_isOf rfl rfl rfl (by decide +kernel) ⟨Nat.le_of_ble_eq_true rfl, Nat.le_of_ble_eq_true rfl⟩) ⟨pu_bl, pu_in (hP.sub [] rfl) (hK.sub [] rfl) (hD.sub [] (by decide) rfl)⟩ rfl rfl hl.1 rfl (lv_room (Nat.le_of_ble_eq_true rfl)) dX9_goesTo_70 ⟨Nat.le_of_ble_eq_true rfl, Nat.le_of_ble_eq_true rfl⟩) hS (fun q _ h => pu_fr hS hA q h) (pu_fr hS hA) (fun r_39 u t H1 locs ht hvm hw hB hz1 hk1 hS => ?_)
            have hP := pu_keep hP hk1
            clear hk1 hz1 ht hvm
            generalize H1 = H at hP hS ⊢
            obtain ⟨u_40, hu_40, rfl⟩ := pu_bn hw
            refine lv_if_eq (tgt := 80) hx hb dX9_goesTo_73 (by decide) (fun c_41 => ?_) (fun c_41 => ?_)
            · have c_41 : u_40 = 0 := (nI_eq (a := u_40) (b := 0) (Nat.lt_of_le_of_lt hu_40 (Nat.le_of_ble_eq_true rfl)) (Nat.le_of_ble_eq_true rfl)).mp c_41
              refine lv_iconst (v := 0) hx hb dX9_goesTo_80 (by decide) ?_
              exact j_20 _ _ _ _ ⟨0, rfl, (Nat.le_of_ble_eq_true rfl), hP, hD, hS, lv_sub hl [0, 1, 2, 3, 4] rfl⟩
            · have c_41 : ¬ u_40 = 0 := fun z => c_41 ((nI_eq (a := u_40) (b := 0) (Nat.lt_of_le_of_lt hu_40 (Nat.le_of_ble_eq_true rfl)) (Nat.le_of_ble_eq_true rfl)).mpr z)
              refine lv_iconst (v := 1) hx hb dX9_goesTo_76 (by decide) ?_
              refine lv_goto (tgt := 81) hx hb dX9_goesTo_77 (by decide) ?_
              exact j_20 _ _ _ _ ⟨1, rfl, (Nat.le_of_ble_eq_true rfl), hP, hD, hS, lv_sub hl [0, 1, 2, 3, 4] rfl⟩
theorem dX9_rings_0 : decode cX9_rings 0 = .ok (.aload_n 0, 1) := by decide +kernel
theorem dX9_rings_1 : decode cX9_rings 1 = .ok (.iconst 0, 1) := by decide +kernel
theorem dX9_rings_2 : decode cX9_rings 2 = .ok (.putfield 142, 3) := by decide +kernel
theorem dX9_rings_5 : decode cX9_rings 5 = .ok (.iconst 0, 1) := by decide +kernel
theorem dX9_rings_6 : decode cX9_rings 6 = .ok (.istore_n 1, 1) := by decide +kernel
theorem dX9_rings_7 : decode cX9_rings 7 = .ok (.iconst 0, 1) := by decide +kernel
theorem dX9_rings_8 : decode cX9_rings 8 = .ok (.istore_n 2, 1) := by decide +kernel
theorem dX9_rings_9 : decode cX9_rings 9 = .ok (.iload_n 2, 1) := by decide +kernel
theorem dX9_rings_10 : decode cX9_rings 10 = .ok (.aload_n 0, 1) := by decide +kernel
theorem dX9_rings_11 : decode cX9_rings 11 = .ok (.getfield 46, 3) := by decide +kernel
theorem dX9_rings_14 : decode cX9_rings 14 = .ok (.aload_n 0, 1) := by decide +kernel
theorem dX9_rings_15 : decode cX9_rings 15 = .ok (.getfield 258, 3) := by decide +kernel
theorem dX9_rings_18 : decode cX9_rings 18 = .ok (.iaload, 1) := by decide +kernel
theorem dX9_rings_19 : decode cX9_rings 19 = .ok (.if_icmp .ge 39, 3) := by decide +kernel
theorem dX9_rings_22 : decode cX9_rings 22 = .ok (.iload_n 1, 1) := by decide +kernel
theorem dX9_rings_23 : decode cX9_rings 23 = .ok (.aload_n 0, 1) := by decide +kernel
theorem dX9_rings_24 : decode cX9_rings 24 = .ok (.iload_n 2, 1) := by decide +kernel
theorem dX9_rings_25 : decode cX9_rings 25 = .ok (.invokevirtual 324, 3) := by decide +kernel
theorem dX9_rings_28 : decode cX9_rings 28 = .ok (.ifCond .eq 21, 3) := by decide +kernel
theorem dX9_rings_31 : decode cX9_rings 31 = .ok (.aload_n 0, 1) := by decide +kernel
theorem dX9_rings_32 : decode cX9_rings 32 = .ok (.iload_n 2, 1) := by decide +kernel
theorem dX9_rings_33 : decode cX9_rings 33 = .ok (.invokevirtual 423, 3) := by decide +kernel
theorem dX9_rings_36 : decode cX9_rings 36 = .ok (.iload_n 2, 1) := by decide +kernel
theorem dX9_rings_37 : decode cX9_rings 37 = .ok (.invokestatic 248, 3) := by decide +kernel
theorem dX9_rings_40 : decode cX9_rings 40 = .ok (.ifCond .eq 9, 3) := by decide +kernel
theorem dX9_rings_43 : decode cX9_rings 43 = .ok (.iconst 1, 1) := by decide +kernel
theorem dX9_rings_44 : decode cX9_rings 44 = .ok (.iload_n 2, 1) := by decide +kernel
theorem dX9_rings_45 : decode cX9_rings 45 = .ok (.ishl, 1) := by decide +kernel
theorem dX9_rings_46 : decode cX9_rings 46 = .ok (.goto 4, 3) := by decide +kernel
theorem dX9_rings_49 : decode cX9_rings 49 = .ok (.iconst 0, 1) := by decide +kernel
theorem dX9_rings_50 : decode cX9_rings 50 = .ok (.ior, 1) := by decide +kernel
theorem dX9_rings_51 : decode cX9_rings 51 = .ok (.istore_n 1, 1) := by decide +kernel
theorem dX9_rings_52 : decode cX9_rings 52 = .ok (.iinc 2 1, 3) := by decide +kernel
theorem dX9_rings_55 : decode cX9_rings 55 = .ok (.goto (-46), 3) := by decide +kernel
theorem dX9_rings_58 : decode cX9_rings 58 = .ok (.iload_n 1, 1) := by decide +kernel
theorem dX9_rings_59 : decode cX9_rings 59 = .ok (.ireturn, 1) := by decide +kernel
abbrev vs_M_rings : List Cond := .code yX9_rings cX9_rings 3 (some .int) :: VM
theorem g_M_rings_X9_isOf : GoodIn vs_M_rings (va_wsS RX9 248 yX9_isOf vs_X9_isOf) := gm_0 (fun w h => by
  rcases List.mem_cons.mp h with rfl | h
  · exact vm_130
  rcases List.mem_cons.mp h with rfl | h
  · exact vm_131
  rcases List.mem_cons.mp h with rfl | h
  · exact vm_12
  rcases List.mem_cons.mp h with rfl | h
  · exact vm_0
  exact absurd h (List.not_mem_nil))
theorem g_M_rings_M_isUrgent : GoodIn vs_M_rings (wsV RX9 324 RX9 yX9_isUrgent vs_M_isUrgent) := gm_V vm_204 vm_205 vm_206 vm_12 vm_33
theorem g_M_rings_M_goesTo : GoodIn vs_M_rings (wsV RX9 423 RX9 yX9_goesTo vs_M_goesTo) := gm_V vm_294 vm_295 vm_296 vm_12 vm_292
set_option maxHeartbeats 4000000 in
set_option maxRecDepth 100000 in
theorem c_M_rings (l : Launch) (dC : Nat → ClassId) (dI : Nat → Nat → Nat) (sz : Nat) (ad : Nat → Nat) (ck : Nat → ClassId) (x0 : Int32) (x16 : Nat) (x18 : Nat) (x19 : Nat) (x20 : Int32) (x21 : Nat) (x22 : Nat) (x23 : Int32) (x24 : Int32) (x25 : Int32) (x26 : Nat) (x27 : Int32) (x28 : Nat) (x29 : Nat) (x30 : Nat) (x33 : Nat) (x45 : Int32) (x46 : Nat) (x52 : Nat) (x53 : Nat) (x61 : Nat) (x62 : Nat) (x63 : Nat) (x65 : Nat) (x66 : Int32) (f1 : Nat → Int32) (f2 : Nat → Int32) (f3 : Nat → Int32) (q4 : Nat → Nat) (q5 : Nat → Nat) (q6 : Nat → Nat) (q7 : Nat → Nat) (f8 : Nat → Int32) (q9 : Nat → Nat) (q10 : Nat → Nat) (f11 : Nat → Int32) (m12_0 m12_1 : Nat) (m13_0 m13_1 : Nat) (m14_0 m14_1 : Nat) (m15_0 m15_1 : Nat) (f17 : Nat → Int32) (q31 : Nat → Nat) (f32 : Nat → Int32) (f34 : Nat → Int32) (f35 : Nat → Int32) (f36 : Nat → Int32) (f37 : Nat → Int32) (q38 : Nat → Nat) (f39 : Nat → Int32) (f40 : Nat → Int32) (f41 : Nat → Int32) (m42_0 m42_1 : Nat) (f43 : Nat → Int32) (f44 : Nat → Int32) (f47 : Nat → Int32) (f48 : Nat → Int32) (f49 : Nat → Int32) (f50 : Nat → Int32) (f51 : Nat → Int32) (q54 : Nat → Nat) (q55 : Nat → Nat) (q56 : Nat → Nat) (f57 : Nat → Int32) (q58 : Nat → Nat) (f59 : Nat → Int32) (f60 : Nat → Int32) (f64 : Nat → Int32) (hx16 : x16 ≤ 1) (hx18 : x18 ≤ 900) (hx19 : x19 ≤ 900) (hx21 : x21 ≤ 900) (hx22 : x22 ≤ 4) (hx26 : x26 ≤ 6) (hx28 : x28 ≤ 1) (hx29 : x29 ≤ 1) (hx30 : x30 ≤ 1) (hx33 : x33 ≤ 20) (hx46 : x46 ≤ 5) (hx52 : x52 ≤ 2400) (hx53 : x53 ≤ 119) (hx61 : x61 ≤ 119) (hx62 : x62 ≤ 2000) (hx63 : x63 ≤ 1) (hx65 : x65 ≤ 7) (hm12_0 : m12_0 ≤ 3) (hm12_1 : m12_1 ≤ 3) (hm13_0 : m13_0 ≤ 8) (hm13_1 : m13_1 ≤ 8) (hm14_0 : m14_0 ≤ 14) (hm14_1 : m14_1 ≤ 14) (hm15_0 : m15_0 ≤ 8) (hm15_1 : m15_1 ≤ 8) (hm42_0 : m42_0 ≤ 120) (hm42_1 : m42_1 ≤ 400) : Met l yX9_rings vs_M_rings ({ frames := 2, cells := 0, slots := 0, locals := 46 }) (va_Pc [.ref (ad 0)] (pu_B (dC, dI) (mo_w ad ck x0 (nI x16) (nI x18) (nI x19) x20 (nI x21) (nI x22) x23 x24 x25 (nI x26) x27 (nI x28) (nI x29) (nI x30) (nI x33) x45 (nI x46) (nI x52) (nI x53) (nI x61) (nI x62) (nI x63) (nI x65) x66 f1 f2 f3 (bN 3 q4) (bN 7 q5) (bN 7 q6) (bN 4 q7) f8 (bN 2 q9) (bH q10) f11 (b2 m12_0 m12_1) (b2 m13_0 m13_1) (b2 m14_0 m14_1) (b2m m15_0 m15_1) f17 (bA 159 q31) f32 f34 f35 f36 f37 (bN 7 q38) f39 f40 f41 (b2 m42_0 m42_1) f43 f44 f47 f48 f49 f50 f51 (bN 13 q54) (bN 120 q55) (bN 120 q56) f57 (bN 120 q58) f59 f60 f64) (mo_t ck) sz)) (va_Qi (fun (r : Int32) (_ : Unit) => True) (fun _ t => ∃ (z0 : Int32), pu_E (dC, dI) (mo_w ad ck z0 (nI x16) (nI x18) (nI x19) x20 (nI x21) (nI x22) x23 x24 x25 (nI x26) x27 (nI x28) (nI x29) (nI x30) (nI x33) x45 (nI x46) (nI x52) (nI x53) (nI x61) (nI x62) (nI x63) (nI x65) x66 f1 f2 f3 (bN 3 q4) (bN 7 q5) (bN 7 q6) (bN 4 q7) f8 (bN 2 q9) (bH q10) f11 (b2 m12_0 m12_1) (b2 m13_0 m13_1) (b2 m14_0 m14_1) (b2m m15_0 m15_1) f17 (bA 159 q31) f32 f34 f35 f36 f37 (bN 7 q38) f39 f40 f41 (b2 m42_0 m42_1) f43 f44 f47 f48 f49 f50 f51 (bN 13 q54) (bN 120 q55) (bN 120 q56) f57 (bN 120 q58) f59 f60 f64) (mo_t ck) (va_A ((mo_w ad ck x0 (nI x16) (nI x18) (nI x19) x20 (nI x21) (nI x22) x23 x24 x25 (nI x26) x27 (nI x28) (nI x29) (nI x30) (nI x33) x45 (nI x46) (nI x52) (nI x53) (nI x61) (nI x62) (nI x63) (nI x65) x66 f1 f2 f3 (bN 3 q4) (bN 7 q5) (bN 7 q6) (bN 4 q7) f8 (bN 2 q9) (bH q10) f11 (b2 m12_0 m12_1) (b2 m13_0 m13_1) (b2 m14_0 m14_1) (b2m m15_0 m15_1) f17 (bA 159 q31) f32 f34 f35 f36 f37 (bN 7 q38) f39 f40 f41 (b2 m42_0 m42_1) f43 f44 f47 f48 f49 f50 f51 (bN 13 q54) (bN 120 q55) (bN 120 q56) f57 (bN 120 q58) f59 f60 f64)) sz) t) (va_A ((mo_w ad ck x0 (nI x16) (nI x18) (nI x19) x20 (nI x21) (nI x22) x23 x24 x25 (nI x26) x27 (nI x28) (nI x29) (nI x30) (nI x33) x45 (nI x46) (nI x52) (nI x53) (nI x61) (nI x62) (nI x63) (nI x65) x66 f1 f2 f3 (bN 3 q4) (bN 7 q5) (bN 7 q6) (bN 4 q7) f8 (bN 2 q9) (bH q10) f11 (b2 m12_0 m12_1) (b2 m13_0 m13_1) (b2 m14_0 m14_1) (b2m m15_0 m15_1) f17 (bA 159 q31) f32 f34 f35 f36 f37 (bN 7 q38) f39 f40 f41 (b2 m42_0 m42_1) f43 f44 f47 f48 f49 f50 f51 (bN 13 q54) (bN 120 q55) (bN 120 q56) f57 (bN 120 q58) f59 f60 f64)) sz)) 0 0 (va_A ((mo_w ad ck x0 (nI x16) (nI x18) (nI x19) x20 (nI x21) (nI x22) x23 x24 x25 (nI x26) x27 (nI x28) (nI x29) (nI x30) (nI x33) x45 (nI x46) (nI x52) (nI x53) (nI x61) (nI x62) (nI x63) (nI x65) x66 f1 f2 f3 (bN 3 q4) (bN 7 q5) (bN 7 q6) (bN 4 q7) f8 (bN 2 q9) (bH q10) f11 (b2 m12_0 m12_1) (b2 m13_0 m13_1) (b2 m14_0 m14_1) (b2m m15_0 m15_1) f17 (bA 159 q31) f32 f34 f35 f36 f37 (bN 7 q38) f39 f40 f41 (b2 m42_0 m42_1) f43 f44 f47 f48 f49 f50 f51 (bN 13 q54) (bN 120 q55) (bN 120 q56) f57 (bN 120 q58) f59 f60 f64)) sz) := by
  refine Met.ofW (cc := cX9_rings) (maxL := 3) (ret := (some .int)) (by decide) rfl ?_
  intro p e s m args below meth c s₁ B hml hv
  obtain ⟨rfl, rfl, hP, hK, hD0⟩ := hv
  have hx := B.exec
  have hb := B.bytes
  have hr := B.returns
  have hts := atoms_spec (ws := vs_M_rings) B.pre
  have v_1 := hts (.fieldLink RX9 142 "ClockReachModel" "thrown" "I") (List.mem_cons_of_mem _ vm_24)
  have v_2 := hts (.fieldLink RX9 46 "ClockReachModel" "placeMany" "[I") (List.mem_cons_of_mem _ vm_85)
  have v_3 := hts (.fieldLink RX9 258 "ClockReachModel" "bank" "I") (List.mem_cons_of_mem _ vm_22)
  have hown : s.vm.findClass RX9 = some m.cls := findClass_of_methodNamed B.named
  have hlocks := B.notSynchronized
  have hiX9 : ∀ w ∈ wsX90, w ∈ vs_M_rings := fun _ h => List.mem_cons_of_mem _ (List.mem_append_right _ h)
  have hD := hD0.self (sz := s.heap.size)
  generalize hAe : va_A ((mo_w ad ck x0 (nI x16) (nI x18) (nI x19) x20 (nI x21) (nI x22) x23 x24 x25 (nI x26) x27 (nI x28) (nI x29) (nI x30) (nI x33) x45 (nI x46) (nI x52) (nI x53) (nI x61) (nI x62) (nI x63) (nI x65) x66 f1 f2 f3 (bN 3 q4) (bN 7 q5) (bN 7 q6) (bN 4 q7) f8 (bN 2 q9) (bH q10) f11 (b2 m12_0 m12_1) (b2 m13_0 m13_1) (b2 m14_0 m14_1) (b2m m15_0 m15_1) f17 (bA 159 q31) f32 f34 f35 f36 f37 (bN 7 q38) f39 f40 f41 (b2 m42_0 m42_1) f43 f44 f47 f48 f49 f50 f51 (bN 13 q54) (bN 120 q55) (bN 120 q56) f57 (bN 120 q58) f59 f60 f64)) s.heap.size = A at hD ⊢
  have hA : ∀ q : Nat, s.heap.size ≤ q → A q := fun q h => by rw [← hAe]; exact Or.inr h
  have hS : va_S A s.heap s.heap [] := va_S.rf
  have hl := lv_entry ([.ref (ad 0)]) (n := 3) (Nat.le_of_ble_eq_true rfl)
  rw [lg_entry_eq]
  generalize (lg_sl ([.ref (ad 0)]) ++ List.replicate (3 - (lg_sl ([.ref (ad 0)])).length) Slot.unset).toArray = ls at hl ⊢
  have hl : lv_has ls 3 [(0, .ref (ad 0))] := hl
  refine lv_aload_n hx hb dX9_rings_0 rfl (lv_at hl 0 rfl) ?_
  refine lv_iconst (v := 0) hx hb dX9_rings_1 (by decide) ?_
  refine va_put (D := (dC, dI)) (ci := 9) (v := .int 0) (ty := .int) (C := RX9) (T := TX9) (N := 67) hx hb hts hiX9 tyX9 tyX9_ok nmX9 hown hK hP hD hS 0 rfl rfl 0 (by decide) v_1 (fun _ h9 => h9) rfl (by decide +kernel) rfl rfl (Nat.le_of_ble_eq_true rfl) dX9_rings_2 (fun H locs hP hD hS => ?_)
  have hP : va_P (dC, dI) vwCl (mo_w ad ck 0 (nI x16) (nI x18) (nI x19) x20 (nI x21) (nI x22) x23 x24 x25 (nI x26) x27 (nI x28) (nI x29) (nI x30) (nI x33) x45 (nI x46) (nI x52) (nI x53) (nI x61) (nI x62) (nI x63) (nI x65) x66 f1 f2 f3 (bN 3 q4) (bN 7 q5) (bN 7 q6) (bN 4 q7) f8 (bN 2 q9) (bH q10) f11 (b2 m12_0 m12_1) (b2 m13_0 m13_1) (b2 m14_0 m14_1) (b2m m15_0 m15_1) f17 (bA 159 q31) f32 f34 f35 f36 f37 (bN 7 q38) f39 f40 f41 (b2 m42_0 m42_1) f43 f44 f47 f48 f49 f50 f51 (bN 13 q54) (bN 120 q55) (bN 120 q56) f57 (bN 120 q58) f59 f60 f64) H := hP
  have hD : va_D A (mo_w ad ck 0 (nI x16) (nI x18) (nI x19) x20 (nI x21) (nI x22) x23 x24 x25 (nI x26) x27 (nI x28) (nI x29) (nI x30) (nI x33) x45 (nI x46) (nI x52) (nI x53) (nI x61) (nI x62) (nI x63) (nI x65) x66 f1 f2 f3 (bN 3 q4) (bN 7 q5) (bN 7 q6) (bN 4 q7) f8 (bN 2 q9) (bH q10) f11 (b2 m12_0 m12_1) (b2 m13_0 m13_1) (b2 m14_0 m14_1) (b2m m15_0 m15_1) f17 (bA 159 q31) f32 f34 f35 f36 f37 (bN 7 q38) f39 f40 f41 (b2 m42_0 m42_1) f43 f44 f47 f48 f49 f50 f51 (bN 13 q54) (bN 120 q55) (bN 120 q56) f57 (bN 120 q58) f59 f60 f64) := hD
  refine lv_iconst (v := 0) hx hb dX9_rings_5 (by decide) ?_
  refine lv_istore_n (lv' := [(1, .int 0), (0, .ref (ad 0))]) hx hb dX9_rings_6 rfl hl (by decide) rfl (fun ls hl => ?_)
  refine lv_iconst (v := 0) hx hb dX9_rings_7 (by decide) ?_
  refine lv_istore_n (lv' := [(2, .int 0), (1, .int 0), (0, .ref (ad 0))]) hx hb dX9_rings_8 rfl hl (by decide) rfl (fun ls hl => ?_)
  refine pu_while (fun nn H locs ls => ∃ (g_3 : Int32) (g_4 : Nat), nn = 8 - g_4 ∧ g_4 ≤ 8 ∧ va_P (dC, dI) vwCl (mo_w ad ck 0 (nI x16) (nI x18) (nI x19) x20 (nI x21) (nI x22) x23 x24 x25 (nI x26) x27 (nI x28) (nI x29) (nI x30) (nI x33) x45 (nI x46) (nI x52) (nI x53) (nI x61) (nI x62) (nI x63) (nI x65) x66 f1 f2 f3 (bN 3 q4) (bN 7 q5) (bN 7 q6) (bN 4 q7) f8 (bN 2 q9) (bH q10) f11 (b2 m12_0 m12_1) (b2 m13_0 m13_1) (b2 m14_0 m14_1) (b2m m15_0 m15_1) f17 (bA 159 q31) f32 f34 f35 f36 f37 (bN 7 q38) f39 f40 f41 (b2 m42_0 m42_1) f43 f44 f47 f48 f49 f50 f51 (bN 13 q54) (bN 120 q55) (bN 120 q56) f57 (bN 120 q58) f59 f60 f64) H ∧ va_D A (mo_w ad ck 0 (nI x16) (nI x18) (nI x19) x20 (nI x21) (nI x22) x23 x24 x25 (nI x26) x27 (nI x28) (nI x29) (nI x30) (nI x33) x45 (nI x46) (nI x52) (nI x53) (nI x61) (nI x62) (nI x63) (nI x65) x66 f1 f2 f3 (bN 3 q4) (bN 7 q5) (bN 7 q6) (bN 4 q7) f8 (bN 2 q9) (bH q10) f11 (b2 m12_0 m12_1) (b2 m13_0 m13_1) (b2 m14_0 m14_1) (b2m m15_0 m15_1) f17 (bA 159 q31) f32 f34 f35 f36 f37 (bN 7 q38) f39 f40 f41 (b2 m42_0 m42_1) f43 f44 f47 f48 f49 f50 f51 (bN 13 q54) (bN 120 q55) (bN 120 q56) f57 (bN 120 q58) f59 f60 f64) ∧ va_S A s.heap H locs ∧ lv_has ls 3 [(0, .ref (ad 0)), (1, .int g_3), (2, .int (nI g_4))]) 9 ?_ _ _ _ _ ⟨0, 0, rfl, (Nat.le_of_ble_eq_true rfl), hP, hD, hS, lv_sub hl [2, 1, 0] rfl⟩
  rintro nn ih_5 H locs ls ⟨g_3, g_4, rfl, hg_4, hP, hD, hS, hl⟩
  refine lv_iload_n hx hb dX9_rings_9 rfl (lv_at hl 2 rfl) ?_
  refine lv_aload_n hx hb dX9_rings_10 rfl (lv_at hl 0 rfl) ?_
  refine va_get (D := (dC, dI)) (ci := 9) (v := .ref (ad 13)) (C := RX9) (T := TX9) (N := 67) hx hb hts hiX9 hown hK hP 0 rfl rfl 13 (by decide) v_2 (fun _ h9 => h9) rfl dX9_rings_11 ?_
  refine lv_aload_n hx hb dX9_rings_14 rfl (lv_at hl 0 rfl) ?_
  refine va_get (D := (dC, dI)) (ci := 9) (v := .int (nI x16)) (C := RX9) (T := TX9) (N := 67) hx hb hts hiX9 hown hK hP 0 rfl rfl 16 (by decide) v_3 (fun _ h9 => h9) rfl dX9_rings_15 ?_
  refine va_iald hx hb hK hP 13 12 rfl rfl (vp_in_nI (n := x16) (Nat.lt_of_le_of_lt hx16 (Nat.le_of_ble_eq_true rfl)) (Nat.le_of_ble_eq_true rfl)) dX9_rings_18 ?_
  refine lv_topi (fun y_6 ey_6 => ?_)
  obtain ⟨u_7, hu_7, fu_7⟩ := b2_get (a := m13_0) (b := m13_1) (i := x16) (by omega)
  have qy_6 := ey_6.trans fu_7
  obtain rfl : y_6 = nI u_7 := qy_6
  refine lv_icmp_ge (tgt := 58) hx hb dX9_rings_19 (by decide) (fun c_8 => ?_) (fun c_8 => ?_)
  · have c_8 : u_7 ≤ g_4 := (nI_leI (a := u_7) (b := g_4) (by omega) (Nat.lt_of_le_of_lt hg_4 (Nat.le_of_ble_eq_true rfl))).mp c_8
    refine lv_iload_n hx hb dX9_rings_58 rfl (lv_at hl 1 rfl) ?_
    exact W.iret (v := g_3) hx hb hr (fun t ht hW => ⟨⟨g_3, (), rfl, trivial, ⟨0, ⟨by rw [ht]; exact hP, va_K.moved hW.alike hK, hD⟩⟩⟩, hS.F ht⟩) hS.2.2 dX9_rings_59
  · have c_8 : ¬ u_7 ≤ g_4 := fun z => c_8 ((nI_leI (a := u_7) (b := g_4) (by omega) (Nat.lt_of_le_of_lt hg_4 (Nat.le_of_ble_eq_true rfl))).mpr z)
    refine lv_iload_n hx hb dX9_rings_22 rfl (lv_at hl 1 rfl) ?_
    refine lv_aload_n hx hb dX9_rings_23 rfl (lv_at hl 0 rfl) ?_
    refine lv_iload_n hx hb dX9_rings_24 rfl (lv_at hl 2 rfl) ?_
    refine va_calli (va_runV (As := [.int (nI g_4)]) (rest := [.int g_3]) ⟨hx, hb, hml, hown, hts⟩ (c_M_isUrgent l dC dI _ ad ck 0 x16 x18 x19 x20 x21 x22 x23 x24 x25 x26 x27 x28 x29 x30 x33 x45 x46 x52 x53 x61 x62 x63 x65 x66 f1 f2 f3 q4 q5 q6 q7 f8 q9 q10 f11 m12_0 m12_1 m13_0 m13_1 m14_0 m14_1 m15_0 m15_1 f17 q31 f32 f34 f35 f36 f37 q38 f39 f40 f41 m42_0 m42_1 f43 f44 f47 f48 f49 f50 f51 q54 q55 q56 f57 q58 f59 f60 f64 g_4 hx16 hx18 hx19 hx21 hx22 hx26 hx28 hx29 hx30 hx33 hx46 hx52 hx53 hx61 hx62 hx63 hx65 hm12_0 hm12_1 hm13_0 hm13_1 hm14_0 hm14_1 hm15_0 hm15_1 hm42_0 hm42_1 (by omega)) (cwV 1 hts g_M_rings_M_isUrgent rfl rfl rfl (by decide +kernel) ⟨Nat.le_of_ble_eq_true rfl, Nat.le_of_ble_eq_true rfl⟩) ⟨pu_bl, va_recv hK hP (ci := 9) (q0 := 0) rfl rfl, pu_in hP hK hD⟩ rfl rfl hl.1 rfl (lv_room (Nat.le_of_ble_eq_true rfl)) dX9_rings_25 ⟨Nat.le_of_ble_eq_true rfl, Nat.le_of_ble_eq_true rfl⟩) hS (fun q _ h => pu_fr hS hA q h) (pu_fr hS hA) (fun r_9 u t H1 locs ht hvm hw hB hz1 hk1 hS => ?_)
    have hP := pu_keep hP hk1
    clear hk1 hz1 ht hvm
    generalize H1 = H at hP hS ⊢
    obtain ⟨u_10, hu_10, rfl⟩ := hw
    refine pu_join (fun H locs ls st => ∃ (g_11 : Int32), st = [.int g_11, .int g_3] ∧ va_P (dC, dI) vwCl (mo_w ad ck 0 (nI x16) (nI x18) (nI x19) x20 (nI x21) (nI x22) x23 x24 x25 (nI x26) x27 (nI x28) (nI x29) (nI x30) (nI x33) x45 (nI x46) (nI x52) (nI x53) (nI x61) (nI x62) (nI x63) (nI x65) x66 f1 f2 f3 (bN 3 q4) (bN 7 q5) (bN 7 q6) (bN 4 q7) f8 (bN 2 q9) (bH q10) f11 (b2 m12_0 m12_1) (b2 m13_0 m13_1) (b2 m14_0 m14_1) (b2m m15_0 m15_1) f17 (bA 159 q31) f32 f34 f35 f36 f37 (bN 7 q38) f39 f40 f41 (b2 m42_0 m42_1) f43 f44 f47 f48 f49 f50 f51 (bN 13 q54) (bN 120 q55) (bN 120 q56) f57 (bN 120 q58) f59 f60 f64) H ∧ va_D A (mo_w ad ck 0 (nI x16) (nI x18) (nI x19) x20 (nI x21) (nI x22) x23 x24 x25 (nI x26) x27 (nI x28) (nI x29) (nI x30) (nI x33) x45 (nI x46) (nI x52) (nI x53) (nI x61) (nI x62) (nI x63) (nI x65) x66 f1 f2 f3 (bN 3 q4) (bN 7 q5) (bN 7 q6) (bN 4 q7) f8 (bN 2 q9) (bH q10) f11 (b2 m12_0 m12_1) (b2 m13_0 m13_1) (b2 m14_0 m14_1) (b2m m15_0 m15_1) f17 (bA 159 q31) f32 f34 f35 f36 f37 (bN 7 q38) f39 f40 f41 (b2 m42_0 m42_1) f43 f44 f47 f48 f49 f50 f51 (bN 13 q54) (bN 120 q55) (bN 120 q56) f57 (bN 120 q58) f59 f60 f64) ∧ va_S A s.heap H locs ∧ lv_has ls 3 [(0, .ref (ad 0)), (1, .int g_3), (2, .int (nI g_4))]) 50 ?_ (fun j_12 => ?_)
    · rintro H locs ls st ⟨g_11, rfl, hP, hD, hS, hl⟩
      refine lv_ior hx hb dX9_rings_50 ?_
      refine lv_topi (fun y_13 ey_13 => ?_)
      refine lv_istore_n (lv' := [(1, .int y_13), (0, .ref (ad 0)), (2, .int (nI g_4))]) hx hb dX9_rings_51 rfl hl (by decide) rfl (fun ls hl => ?_)
      refine lv_iinc (v := (nI (g_4 + 1))) (lv' := [(2, .int (nI (g_4 + 1))), (1, .int y_13), (0, .ref (ad 0))]) hx hb dX9_rings_52 hl (k := 2) rfl (nI_1 _) (by decide) rfl (fun ls hl => ?_)
      refine lv_goto (tgt := 9) hx hb dX9_rings_55 (by decide) ?_
      exact ih_5 (8 - (g_4 + 1)) (by omega) _ _ _ ⟨y_13, (g_4 + 1), rfl, (by omega), hP, hD, hS, lv_sub hl [2, 1, 0] rfl⟩
    refine lv_if_eq (tgt := 49) hx hb dX9_rings_28 (by decide) (fun c_14 => ?_) (fun c_14 => ?_)
    · have c_14 : u_10 = 0 := (nI_eq (a := u_10) (b := 0) (Nat.lt_of_le_of_lt hu_10 (Nat.le_of_ble_eq_true rfl)) (Nat.le_of_ble_eq_true rfl)).mp c_14
      refine lv_iconst (v := 0) hx hb dX9_rings_49 (by decide) ?_
      exact j_12 _ _ _ _ ⟨0, rfl, hP, hD, hS, lv_sub hl [0, 1, 2] rfl⟩
    · have c_14 : ¬ u_10 = 0 := fun z => c_14 ((nI_eq (a := u_10) (b := 0) (Nat.lt_of_le_of_lt hu_10 (Nat.le_of_ble_eq_true rfl)) (Nat.le_of_ble_eq_true rfl)).mpr z)
      refine lv_aload_n hx hb dX9_rings_31 rfl (lv_at hl 0 rfl) ?_
      refine lv_iload_n hx hb dX9_rings_32 rfl (lv_at hl 2 rfl) ?_
      refine va_calli (va_runV (As := [.int (nI g_4)]) (rest := [.int g_3]) ⟨hx, hb, hml, hown, hts⟩ (c_M_goesTo l dC dI _ ad ck 0 x16 x18 x19 x20 x21 x22 x23 x24 x25 x26 x27 x28 x29 x30 x33 x45 x46 x52 x53 x61 x62 x63 x65 x66 f1 f2 f3 q4 q5 q6 q7 f8 q9 q10 f11 m12_0 m12_1 m13_0 m13_1 m14_0 m14_1 m15_0 m15_1 f17 q31 f32 f34 f35 f36 f37 q38 f39 f40 f41 m42_0 m42_1 f43 f44 f47 f48 f49 f50 f51 q54 q55 q56 f57 q58 f59 f60 f64 (nI g_4) hx16 hx18 hx19 hx21 hx22 hx26 hx28 hx29 hx30 hx33 hx46 hx52 hx53 hx61 hx62 hx63 hx65 hm12_0 hm12_1 hm13_0 hm13_1 hm14_0 hm14_1 hm15_0 hm15_1 hm42_0 hm42_1) (cwV 1 hts g_M_rings_M_goesTo rfl rfl rfl (by decide +kernel) ⟨Nat.le_of_ble_eq_true rfl, Nat.le_of_ble_eq_true rfl⟩) ⟨pu_bl, va_recv hK hP (ci := 9) (q0 := 0) rfl rfl, pu_in hP hK hD⟩ rfl rfl hl.1 rfl (lv_room (Nat.le_of_ble_eq_true rfl)) dX9_rings_33 ⟨Nat.le_of_ble_eq_true rfl, Nat.le_of_ble_eq_true rfl⟩) hS (fun q _ h => pu_fr hS hA q h) (pu_fr hS hA) (fun r_15 u t H1 locs ht hvm hw hB hz1 hk1 hS => ?_)
      have hP := pu_keep hP hk1
      clear hk1 hz1 ht hvm
      generalize H1 = H at hP hS ⊢
      refine lv_iload_n hx hb dX9_rings_36 rfl (lv_at hl 2 rfl) ?_
      refine va_calli (va_runS (As := [.int r_15, .int (nI g_4)]) (rest := [.int g_3]) ⟨hx, hb, hml, hown, hts⟩ (c_X9_isOf l dC dI _ r_15 (nI g_4)) (va_cwS 2 hts g_M_rings_X9_isOf rfl rfl rfl (by decide +kernel) ⟨Nat.le_of_ble_eq_true rfl, Nat.le_of_ble_eq_true rfl⟩) ⟨pu_bl, pu_in (hP.sub [] rfl) (hK.sub [] rfl) (hD.sub [] (by decide) rfl)⟩ rfl rfl hl.1 rfl (lv_room (Nat.le_of_ble_eq_true rfl)) dX9_rings_37 ⟨Nat.le_of_ble_eq_true rfl, Nat.le_of_ble_eq_true rfl⟩) hS (fun q _ h => pu_fr hS hA q h) (pu_fr hS hA) (fun r_16 u t H1 locs ht hvm hw hB hz1 hk1 hS => ?_)
      have hP := pu_keep hP hk1
      clear hk1 hz1 ht hvm
      generalize H1 = H at hP hS ⊢
      obtain ⟨u_17, hu_17, rfl⟩ := pu_bn hw
      refine lv_if_eq (tgt := 49) hx hb dX9_rings_40 (by decide) (fun c_18 => ?_) (fun c_18 => ?_)
      · have c_18 : u_17 = 0 := (nI_eq (a := u_17) (b := 0) (Nat.lt_of_le_of_lt hu_17 (Nat.le_of_ble_eq_true rfl)) (Nat.le_of_ble_eq_true rfl)).mp c_18
        refine lv_iconst (v := 0) hx hb dX9_rings_49 (by decide) ?_
        exact j_12 _ _ _ _ ⟨0, rfl, hP, hD, hS, lv_sub hl [0, 1, 2] rfl⟩
      · have c_18 : ¬ u_17 = 0 := fun z => c_18 ((nI_eq (a := u_17) (b := 0) (Nat.lt_of_le_of_lt hu_17 (Nat.le_of_ble_eq_true rfl)) (Nat.le_of_ble_eq_true rfl)).mpr z)
        refine lv_iconst (v := 1) hx hb dX9_rings_43 (by decide) ?_
        refine lv_iload_n hx hb dX9_rings_44 rfl (lv_at hl 2 rfl) ?_
        refine lv_ishl hx hb dX9_rings_45 ?_
        refine lv_topi (fun y_19 ey_19 => ?_)
        refine lv_goto (tgt := 50) hx hb dX9_rings_46 (by decide) ?_
        exact j_12 _ _ _ _ ⟨y_19, rfl, hP, hD, hS, lv_sub hl [0, 1, 2] rfl⟩
