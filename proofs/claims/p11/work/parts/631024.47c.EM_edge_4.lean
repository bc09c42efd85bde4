theorem dX9_edge_0 : decode cX9_edge 0 = .ok (.aload_n 0, 1) := by decide +kernel
theorem dX9_edge_1 : decode cX9_edge 1 = .ok (.iconst 0, 1) := by decide +kernel
theorem dX9_edge_2 : decode cX9_edge 2 = .ok (.putfield 142, 3) := by decide +kernel
theorem dX9_edge_5 : decode cX9_edge 5 = .ok (.aload_n 0, 1) := by decide +kernel
theorem dX9_edge_6 : decode cX9_edge 6 = .ok (.iload_n 1, 1) := by decide +kernel
theorem dX9_edge_7 : decode cX9_edge 7 = .ok (.invokevirtual 283, 3) := by decide +kernel
theorem dX9_edge_10 : decode cX9_edge 10 = .ok (.ifCond .eq 12, 3) := by decide +kernel
theorem dX9_edge_13 : decode cX9_edge 13 = .ok (.iload_n 2, 1) := by decide +kernel
theorem dX9_edge_14 : decode cX9_edge 14 = .ok (.iconst 0, 1) := by decide +kernel
theorem dX9_edge_15 : decode cX9_edge 15 = .ok (.iconst 3, 1) := by decide +kernel
theorem dX9_edge_16 : decode cX9_edge 16 = .ok (.invokestatic 152, 3) := by decide +kernel
theorem dX9_edge_19 : decode cX9_edge 19 = .ok (.ifCond .ne 5, 3) := by decide +kernel
theorem dX9_edge_22 : decode cX9_edge 22 = .ok (.iconst (-1), 1) := by decide +kernel
theorem dX9_edge_23 : decode cX9_edge 23 = .ok (.ireturn, 1) := by decide +kernel
theorem dX9_edge_24 : decode cX9_edge 24 = .ok (.iload_n 2, 1) := by decide +kernel
theorem dX9_edge_25 : decode cX9_edge 25 = .ok (.ifCond .ne 11, 3) := by decide +kernel
theorem dX9_edge_28 : decode cX9_edge 28 = .ok (.aload_n 0, 1) := by decide +kernel
theorem dX9_edge_29 : decode cX9_edge 29 = .ok (.iload_n 1, 1) := by decide +kernel
theorem dX9_edge_30 : decode cX9_edge 30 = .ok (.invokevirtual 289, 3) := by decide +kernel
theorem dX9_edge_33 : decode cX9_edge 33 = .ok (.goto 34, 3) := by decide +kernel
theorem dX9_edge_36 : decode cX9_edge 36 = .ok (.iload_n 2, 1) := by decide +kernel
theorem dX9_edge_37 : decode cX9_edge 37 = .ok (.iconst 1, 1) := by decide +kernel
theorem dX9_edge_38 : decode cX9_edge 38 = .ok (.if_icmp .ne 11, 3) := by decide +kernel
theorem dX9_edge_41 : decode cX9_edge 41 = .ok (.aload_n 0, 1) := by decide +kernel
theorem dX9_edge_42 : decode cX9_edge 42 = .ok (.iload_n 1, 1) := by decide +kernel
theorem dX9_edge_43 : decode cX9_edge 43 = .ok (.invokevirtual 292, 3) := by decide +kernel
theorem dX9_edge_46 : decode cX9_edge 46 = .ok (.goto 21, 3) := by decide +kernel
theorem dX9_edge_49 : decode cX9_edge 49 = .ok (.iload_n 2, 1) := by decide +kernel
theorem dX9_edge_50 : decode cX9_edge 50 = .ok (.iconst 2, 1) := by decide +kernel
theorem dX9_edge_51 : decode cX9_edge 51 = .ok (.if_icmp .ne 11, 3) := by decide +kernel
theorem dX9_edge_54 : decode cX9_edge 54 = .ok (.aload_n 0, 1) := by decide +kernel
theorem dX9_edge_55 : decode cX9_edge 55 = .ok (.iload_n 1, 1) := by decide +kernel
theorem dX9_edge_56 : decode cX9_edge 56 = .ok (.invokevirtual 295, 3) := by decide +kernel
theorem dX9_edge_59 : decode cX9_edge 59 = .ok (.goto 8, 3) := by decide +kernel
theorem dX9_edge_62 : decode cX9_edge 62 = .ok (.aload_n 0, 1) := by decide +kernel
theorem dX9_edge_63 : decode cX9_edge 63 = .ok (.iload_n 1, 1) := by decide +kernel
theorem dX9_edge_64 : decode cX9_edge 64 = .ok (.invokevirtual 305, 3) := by decide +kernel
theorem dX9_edge_67 : decode cX9_edge 67 = .ok (.ireturn, 1) := by decide +kernel
abbrev vs_EM_edge : List Cond := .code yX9_edge cX9_edge 3 (some .int) :: VM
theorem g_EM_edge_X9_in : GoodIn vs_EM_edge (va_wsS RX9 152 yX9_in vs_X9_in) := gm_0 (fun w h => by
  rcases List.mem_cons.mp h with rfl | h
  · exact vm_137
  rcases List.mem_cons.mp h with rfl | h
  · exact vm_138
  rcases List.mem_cons.mp h with rfl | h
  · exact vm_19
  rcases List.mem_cons.mp h with rfl | h
  · exact vm_139
  exact absurd h (List.not_mem_nil))
theorem g_EM_edge_EM_isEdge : GoodIn vs_EM_edge (wsV RX9 283 RX9 yX9_isEdge vs_EM_isEdge) := gm_V vm_144 vm_145 vm_146 vm_19 vm_147
theorem g_EM_edge_EM_setBy : GoodIn vs_EM_edge (wsV RX9 305 RX9 yX9_setBy vs_EM_setBy) := gm_V vm_171 vm_172 vm_173 vm_19 vm_174
theorem g_EM_edge_EM_manyOf_e : GoodIn vs_EM_edge (wsV RX9 295 RX9 yX9_manyOf vs_EM_manyOf_e) := gm_V vm_152 vm_153 vm_154 vm_19 vm_155
theorem g_EM_edge_EM_into : GoodIn vs_EM_edge (wsV RX9 292 RX9 yX9_into vs_EM_into) := gm_V vm_37 vm_38 vm_39 vm_19 vm_40
theorem g_EM_edge_EM_outOf : GoodIn vs_EM_edge (wsV RX9 289 RX9 yX9_outOf vs_EM_outOf) := gm_V vm_41 vm_42 vm_43 vm_19 vm_44
noncomputable def sp_EM_edge (x16 : Nat) (q5 : Nat → Nat) (q6 : Nat → Nat) (q7 : Nat → Nat) (f8 : Nat → Int32) (m13_0 : Nat) (m13_1 : Nat) (m14_0 : Nat) (m14_1 : Nat) (p0 : Int32) (p1 : Int32) : Int32 × Int32 := (if (0 : Int32) ≤ p0 ∧ p0 < nI (bkN x16 m14_0 m14_1) then (slet ((p0 : Int32).toNatClampNeg) (fun n_2 => (if (0 : Int32) ≤ p1 ∧ p1 ≤ 3 then (slet ((p1 : Int32).toNatClampNeg) (fun n_4 => (if n_4 = 0 then (slet (sp_EM_outOf x16 q5 n_2) (fun u_15 => ((nI u_15), 0))) else (if n_4 = 1 then (slet (sp_EM_into x16 q6 n_2) (fun u_13 => ((nI u_13), 0))) else (if n_4 = 2 then (slet (sp_EM_manyOf_e x16 q7 m13_0 m13_1 m14_0 m14_1 n_2) (fun u_10 => (if u_10 = 0 then ((-1), 0) else (slet (u_10 - 1) (fun n_11 => ((nI n_11), 0)))))) else (slet (sp_EM_setBy x16 f8 n_2) (fun r_8 => (r_8, 0)))))))) else ((-1), 0)))) else ((-1), 0))
set_option maxHeartbeats 4000000 in
set_option maxRecDepth 100000 in
theorem c_EM_edge (l : Launch) (dC : Nat → ClassId) (dI : Nat → Nat → Nat) (sz : Nat) (ad : Nat → Nat) (ck : Nat → ClassId) (x0 : Int32) (x16 : Nat) (x18 : Nat) (x19 : Nat) (x20 : Int32) (x21 : Nat) (x22 : Nat) (x23 : Int32) (x24 : Int32) (x25 : Int32) (x26 : Nat) (x27 : Int32) (x28 : Nat) (x29 : Nat) (x30 : Nat) (x33 : Nat) (x45 : Int32) (x46 : Nat) (x52 : Nat) (x53 : Nat) (x61 : Nat) (x62 : Nat) (x63 : Nat) (x65 : Nat) (x66 : Int32) (f1 : Nat → Int32) (f2 : Nat → Int32) (f3 : Nat → Int32) (q4 : Nat → Nat) (q5 : Nat → Nat) (q6 : Nat → Nat) (q7 : Nat → Nat) (f8 : Nat → Int32) (q9 : Nat → Nat) (q10 : Nat → Nat) (f11 : Nat → Int32) (m12_0 m12_1 : Nat) (m13_0 m13_1 : Nat) (m14_0 m14_1 : Nat) (m15_0 m15_1 : Nat) (f17 : Nat → Int32) (q31 : Nat → Nat) (f32 : Nat → Int32) (f34 : Nat → Int32) (f35 : Nat → Int32) (f36 : Nat → Int32) (f37 : Nat → Int32) (q38 : Nat → Nat) (f39 : Nat → Int32) (f40 : Nat → Int32) (f41 : Nat → Int32) (m42_0 m42_1 : Nat) (f43 : Nat → Int32) (f44 : Nat → Int32) (f47 : Nat → Int32) (f48 : Nat → Int32) (f49 : Nat → Int32) (f50 : Nat → Int32) (f51 : Nat → Int32) (q54 : Nat → Nat) (q55 : Nat → Nat) (q56 : Nat → Nat) (f57 : Nat → Int32) (q58 : Nat → Nat) (f59 : Nat → Int32) (f60 : Nat → Int32) (f64 : Nat → Int32) (p0 : Int32) (p1 : Int32) (hx16 : x16 ≤ 1) (hx18 : x18 ≤ 900) (hx19 : x19 ≤ 900) (hx21 : x21 ≤ 900) (hx22 : x22 ≤ 4) (hx26 : x26 ≤ 6) (hx28 : x28 ≤ 1) (hx29 : x29 ≤ 1) (hx30 : x30 ≤ 1) (hx33 : x33 ≤ 20) (hx46 : x46 ≤ 5) (hx52 : x52 ≤ 2400) (hx53 : x53 ≤ 119) (hx61 : x61 ≤ 119) (hx62 : x62 ≤ 2000) (hx63 : x63 ≤ 1) (hx65 : x65 ≤ 7) (hm12_0 : m12_0 ≤ 3) (hm12_1 : m12_1 ≤ 3) (hm13_0 : m13_0 ≤ 8) (hm13_1 : m13_1 ≤ 8) (hm14_0 : m14_0 ≤ 14) (hm14_1 : m14_1 ≤ 14) (hm15_0 : m15_0 ≤ 8) (hm15_1 : m15_1 ≤ 8) (hm42_0 : m42_0 ≤ 120) (hm42_1 : m42_1 ≤ 400) : Met l yX9_edge vs_EM_edge ({ frames := 3, cells := 0, slots := 0, locals := 64 }) (va_Pc [.ref (ad 0), .int p0, .int p1] (pu_B (dC, dI) (mo_w ad ck x0 (nI x16) (nI x18) (nI x19) x20 (nI x21) (nI x22) x23 x24 x25 (nI x26) x27 (nI x28) (nI x29) (nI x30) (nI x33) x45 (nI x46) (nI x52) (nI x53) (nI x61) (nI x62) (nI x63) (nI x65) x66 f1 f2 f3 (bN 3 q4) (bN 7 q5) (bN 7 q6) (bN 4 q7) f8 (bN 2 q9) (bH q10) f11 (b2 m12_0 m12_1) (b2 m13_0 m13_1) (b2 m14_0 m14_1) (b2m m15_0 m15_1) f17 (bA 159 q31) f32 f34 f35 f36 f37 (bN 7 q38) f39 f40 f41 (b2 m42_0 m42_1) f43 f44 f47 f48 f49 f50 f51 (bN 13 q54) (bN 120 q55) (bN 120 q56) f57 (bN 120 q58) f59 f60 f64) (mo_t ck) sz)) (va_Qi (fun (r : Int32) (_ : Unit) => r = (sp_EM_edge x16 q5 q6 q7 f8 m13_0 m13_1 m14_0 m14_1 p0 p1).1) (fun _ t => ∃ (z0 : Int32), pu_E (dC, dI) (mo_w ad ck z0 (nI x16) (nI x18) (nI x19) x20 (nI x21) (nI x22) x23 x24 x25 (nI x26) x27 (nI x28) (nI x29) (nI x30) (nI x33) x45 (nI x46) (nI x52) (nI x53) (nI x61) (nI x62) (nI x63) (nI x65) x66 f1 f2 f3 (bN 3 q4) (bN 7 q5) (bN 7 q6) (bN 4 q7) f8 (bN 2 q9) (bH q10) f11 (b2 m12_0 m12_1) (b2 m13_0 m13_1) (b2 m14_0 m14_1) (b2m m15_0 m15_1) f17 (bA 159 q31) f32 f34 f35 f36 f37 (bN 7 q38) f39 f40 f41 (b2 m42_0 m42_1) f43 f44 f47 f48 f49 f50 f51 (bN 13 q54) (bN 120 q55) (bN 120 q56) f57 (bN 120 q58) f59 f60 f64) (mo_t ck) (va_A ((mo_w ad ck x0 (nI x16) (nI x18) (nI x19) x20 (nI x21) (nI x22) x23 x24 x25 (nI x26) x27 (nI x28) (nI x29) (nI x30) (nI x33) x45 (nI x46) (nI x52) (nI x53) (nI x61) (nI x62) (nI x63) (nI x65) x66 f1 f2 f3 (bN 3 q4) (bN 7 q5) (bN 7 q6) (bN 4 q7) f8 (bN 2 q9) (bH q10) f11 (b2 m12_0 m12_1) (b2 m13_0 m13_1) (b2 m14_0 m14_1) (b2m m15_0 m15_1) f17 (bA 159 q31) f32 f34 f35 f36 f37 (bN 7 q38) f39 f40 f41 (b2 m42_0 m42_1) f43 f44 f47 f48 f49 f50 f51 (bN 13 q54) (bN 120 q55) (bN 120 q56) f57 (bN 120 q58) f59 f60 f64)) sz) t ∧ (z0 = (sp_EM_edge x16 q5 q6 q7 f8 m13_0 m13_1 m14_0 m14_1 p0 p1).2)) (va_A ((mo_w ad ck x0 (nI x16) (nI x18) (nI x19) x20 (nI x21) (nI x22) x23 x24 x25 (nI x26) x27 (nI x28) (nI x29) (nI x30) (nI x33) x45 (nI x46) (nI x52) (nI x53) (nI x61) (nI x62) (nI x63) (nI x65) x66 f1 f2 f3 (bN 3 q4) (bN 7 q5) (bN 7 q6) (bN 4 q7) f8 (bN 2 q9) (bH q10) f11 (b2 m12_0 m12_1) (b2 m13_0 m13_1) (b2 m14_0 m14_1) (b2m m15_0 m15_1) f17 (bA 159 q31) f32 f34 f35 f36 f37 (bN 7 q38) f39 f40 f41 (b2 m42_0 m42_1) f43 f44 f47 f48 f49 f50 f51 (bN 13 q54) (bN 120 q55) (bN 120 q56) f57 (bN 120 q58) f59 f60 f64)) sz)) 0 0 (va_A ((mo_w ad ck x0 (nI x16) (nI x18) (nI x19) x20 (nI x21) (nI x22) x23 x24 x25 (nI x26) x27 (nI x28) (nI x29) (nI x30) (nI x33) x45 (nI x46) (nI x52) (nI x53) (nI x61) (nI x62) (nI x63) (nI x65) x66 f1 f2 f3 (bN 3 q4) (bN 7 q5) (bN 7 q6) (bN 4 q7) f8 (bN 2 q9) (bH q10) f11 (b2 m12_0 m12_1) (b2 m13_0 m13_1) (b2 m14_0 m14_1) (b2m m15_0 m15_1) f17 (bA 159 q31) f32 f34 f35 f36 f37 (bN 7 q38) f39 f40 f41 (b2 m42_0 m42_1) f43 f44 f47 f48 f49 f50 f51 (bN 13 q54) (bN 120 q55) (bN 120 q56) f57 (bN 120 q58) f59 f60 f64)) sz) := by
  refine Met.ofW (cc := cX9_edge) (maxL := 3) (ret := (some .int)) (by decide) rfl ?_
  intro p e s m args below meth c s₁ B hml hv
  obtain ⟨rfl, rfl, hP, hK, hD0⟩ := hv
  have hx := B.exec
  have hb := B.bytes
  have hr := B.returns
  have hts := atoms_spec (ws := vs_EM_edge) B.pre
  have v_1 := hts (.fieldLink RX9 142 "ClockReachModel" "thrown" "I") (List.mem_cons_of_mem _ vm_5)
  have hown : s.vm.findClass RX9 = some m.cls := findClass_of_methodNamed B.named
  have hlocks := B.notSynchronized
  have hiX9 : ∀ w ∈ wsX90, w ∈ vs_EM_edge := fun _ h => List.mem_cons_of_mem _ (vmi_L h)
  have hD := hD0.self (sz := s.heap.size)
  generalize hAe : va_A ((mo_w ad ck x0 (nI x16) (nI x18) (nI x19) x20 (nI x21) (nI x22) x23 x24 x25 (nI x26) x27 (nI x28) (nI x29) (nI x30) (nI x33) x45 (nI x46) (nI x52) (nI x53) (nI x61) (nI x62) (nI x63) (nI x65) x66 f1 f2 f3 (bN 3 q4) (bN 7 q5) (bN 7 q6) (bN 4 q7) f8 (bN 2 q9) (bH q10) f11 (b2 m12_0 m12_1) (b2 m13_0 m13_1) (b2 m14_0 m14_1) (b2m m15_0 m15_1) f17 (bA 159 q31) f32 f34 f35 f36 f37 (bN 7 q38) f39 f40 f41 (b2 m42_0 m42_1) f43 f44 f47 f48 f49 f50 f51 (bN 13 q54) (bN 120 q55) (bN 120 q56) f57 (bN 120 q58) f59 f60 f64)) s.heap.size = A at hD ⊢
  have hA : ∀ q : Nat, s.heap.size ≤ q → A q := fun q h => by rw [← hAe]; exact Or.inr h
  have hS : va_S A s.heap s.heap [] := va_S.rf
  have hl := lv_entry ([.ref (ad 0), .int p0, .int p1]) (n := 3) (Nat.le_of_ble_eq_true rfl)
  rw [lg_entry_eq]
  generalize (lg_sl ([.ref (ad 0), .int p0, .int p1]) ++ List.replicate (3 - (lg_sl ([.ref (ad 0), .int p0, .int p1])).length) Slot.unset).toArray = ls at hl ⊢
  have hl : lv_has ls 3 [(0, .ref (ad 0)), (1, .int p0), (2, .int p1)] := hl
  obtain ⟨RR, hRR⟩ : ∃ x, x = (sp_EM_edge x16 q5 q6 q7 f8 m13_0 m13_1 m14_0 m14_1 p0 p1) := ⟨_, rfl⟩
  have hsp := hRR
  refine lv_aload_n hx hb dX9_edge_0 rfl (lv_at hl 0 rfl) ?_
  refine lv_iconst (v := 0) hx hb dX9_edge_1 (by decide) ?_
  refine va_put (D := (dC, dI)) (ci := 9) (v := .int 0) (ty := .int) (C := RX9) (T := TX9) (N := 67) hx hb hts hiX9 tyX9 tyX9_ok nmX9 hown hK hP hD hS 0 rfl rfl 0 (by decide) v_1 (fun _ h9 => h9) rfl (by decide +kernel) rfl rfl (Nat.le_of_ble_eq_true rfl) dX9_edge_2 (fun H locs hP hD hS => ?_)
  have hP : va_P (dC, dI) vwCl (mo_w ad ck 0 (nI x16) (nI x18) (nI x19) x20 (nI x21) (nI x22) x23 x24 x25 (nI x26) x27 (nI x28) (nI x29) (nI x30) (nI x33) x45 (nI x46) (nI x52) (nI x53) (nI x61) (nI x62) (nI x63) (nI x65) x66 f1 f2 f3 (bN 3 q4) (bN 7 q5) (bN 7 q6) (bN 4 q7) f8 (bN 2 q9) (bH q10) f11 (b2 m12_0 m12_1) (b2 m13_0 m13_1) (b2 m14_0 m14_1) (b2m m15_0 m15_1) f17 (bA 159 q31) f32 f34 f35 f36 f37 (bN 7 q38) f39 f40 f41 (b2 m42_0 m42_1) f43 f44 f47 f48 f49 f50 f51 (bN 13 q54) (bN 120 q55) (bN 120 q56) f57 (bN 120 q58) f59 f60 f64) H := hP
  have hD : va_D A (mo_w ad ck 0 (nI x16) (nI x18) (nI x19) x20 (nI x21) (nI x22) x23 x24 x25 (nI x26) x27 (nI x28) (nI x29) (nI x30) (nI x33) x45 (nI x46) (nI x52) (nI x53) (nI x61) (nI x62) (nI x63) (nI x65) x66 f1 f2 f3 (bN 3 q4) (bN 7 q5) (bN 7 q6) (bN 4 q7) f8 (bN 2 q9) (bH q10) f11 (b2 m12_0 m12_1) (b2 m13_0 m13_1) (b2 m14_0 m14_1) (b2m m15_0 m15_1) f17 (bA 159 q31) f32 f34 f35 f36 f37 (bN 7 q38) f39 f40 f41 (b2 m42_0 m42_1) f43 f44 f47 f48 f49 f50 f51 (bN 13 q54) (bN 120 q55) (bN 120 q56) f57 (bN 120 q58) f59 f60 f64) := hD
  refine lv_aload_n hx hb dX9_edge_5 rfl (lv_at hl 0 rfl) ?_
  refine lv_iload_n hx hb dX9_edge_6 rfl (lv_at hl 1 rfl) ?_
  refine va_calli (va_runV (As := [.int p0]) (rest := []) ⟨hx, hb, hml, hown, hts⟩ (c_EM_isEdge l dC dI _ ad ck 0 x16 x18 x19 x20 x21 x22 x23 x24 x25 x26 x27 x28 x29 x30 x33 x45 x46 x52 x53 x61 x62 x63 x65 x66 f1 f2 f3 q4 q5 q6 q7 f8 q9 q10 f11 m12_0 m12_1 m13_0 m13_1 m14_0 m14_1 m15_0 m15_1 f17 q31 f32 f34 f35 f36 f37 q38 f39 f40 f41 m42_0 m42_1 f43 f44 f47 f48 f49 f50 f51 q54 q55 q56 f57 q58 f59 f60 f64 p0 hx16 hx18 hx19 hx21 hx22 hx26 hx28 hx29 hx30 hx33 hx46 hx52 hx53 hx61 hx62 hx63 hx65 hm12_0 hm12_1 hm13_0 hm13_1 hm14_0 hm14_1 hm15_0 hm15_1 hm42_0 hm42_1) (cwV 1 hts g_EM_edge_EM_isEdge rfl rfl rfl (by decide +kernel) ⟨Nat.le_of_ble_eq_true rfl, Nat.le_of_ble_eq_true rfl⟩) ⟨pu_bl, va_recv hK hP (ci := 9) (q0 := 0) rfl rfl, pu_in hP hK hD⟩ rfl rfl hl.1 rfl (lv_room (Nat.le_of_ble_eq_true rfl)) dX9_edge_7 ⟨Nat.le_of_ble_eq_true rfl, Nat.le_of_ble_eq_true rfl⟩) hS (fun q _ h => pu_fr hS hA q h) (pu_fr hS hA) (fun r_1 u t H1 locs ht hvm hw hB hz1 hk1 hS => ?_)
  have hP := pu_keep hP hk1
  clear hk1 hz1 ht hvm
  generalize H1 = H at hP hS ⊢
  rcases hw with ⟨rfl, hw⟩ | ⟨rfl, hn⟩
  · obtain ⟨n_2, hn_2, en_2⟩ := hw
    replace hsp := hsp.trans (if_pos (in_c hn_2 ⟨by omega, by omega⟩ en_2))
    subst en_2
    replace hsp := hsp.trans (slet_eq (nI_cl (n := n_2) (by omega)))
    refine lv_if_eq (tgt := 22) hx hb dX9_edge_10 (by decide) (fun z => absurd z (by decide)) (fun _ => ?_)
    refine lv_iload_n hx hb dX9_edge_13 rfl (lv_at hl 2 rfl) ?_
    refine lv_iconst (v := 0) hx hb dX9_edge_14 (by decide) ?_
    refine lv_iconst (v := 3) hx hb dX9_edge_15 (by decide) ?_
    refine va_calli (va_runS (As := [.int p1, .int 0, .int 3]) (rest := []) ⟨hx, hb, hml, hown, hts⟩ (c_X9_in l dC dI _ p1 0 3) (va_cwS 3 hts g_EM_edge_X9_in rfl rfl rfl (by decide +kernel) ⟨Nat.le_of_ble_eq_true rfl, Nat.le_of_ble_eq_true rfl⟩) ⟨pu_bl, pu_in (hP.sub [] rfl) (hK.sub [] rfl) (hD.sub [] (by decide) rfl)⟩ rfl rfl hl.1 rfl (lv_room (Nat.le_of_ble_eq_true rfl)) dX9_edge_16 ⟨Nat.le_of_ble_eq_true rfl, Nat.le_of_ble_eq_true rfl⟩) hS (fun q _ h => pu_fr hS hA q h) (pu_fr hS hA) (fun r_3 u t H1 locs ht hvm hw hB hz1 hk1 hS => ?_)
    have hP := pu_keep hP hk1
    clear hk1 hz1 ht hvm
    generalize H1 = H at hP hS ⊢
    rcases hw with ⟨rfl, hi1, hi2⟩ | ⟨rfl, hi3⟩
    · replace hsp := hsp.trans (if_pos ⟨hi1, hi2⟩)
      obtain ⟨n_4, hn_4, rfl⟩ := pu_in0 (n := 3) (by omega) hi1 hi2
      replace hsp := hsp.trans (slet_eq (nI_cl (n := n_4) (by omega)))
      refine lv_if_ne (tgt := 24) hx hb dX9_edge_19 (by decide) (fun _ => ?_) (fun z => absurd z (by decide))
      refine lv_iload_n hx hb dX9_edge_24 rfl (lv_at hl 2 rfl) ?_
      refine lv_if_ne (tgt := 36) hx hb dX9_edge_25 (by decide) (fun c_5 => ?_) (fun c_5 => ?_)
      · have c_5 : ¬ n_4 = 0 := fun z => c_5 ((nI_eq (a := n_4) (b := 0) (by omega) (Nat.le_of_ble_eq_true rfl)).mpr z)
        replace hsp := hsp.trans (if_neg c_5)
        refine lv_iload_n hx hb dX9_edge_36 rfl (lv_at hl 2 rfl) ?_
        refine lv_iconst (v := 1) hx hb dX9_edge_37 (by decide) ?_
        refine lv_icmp_ne (tgt := 49) hx hb dX9_edge_38 (by decide) (fun c_6 => ?_) (fun c_6 => ?_)
        · have c_6 : ¬ n_4 = 1 := fun z => c_6 ((nI_eq (a := n_4) (b := 1) (by omega) (Nat.le_of_ble_eq_true rfl)).mpr z)
          replace hsp := hsp.trans (if_neg c_6)
          refine lv_iload_n hx hb dX9_edge_49 rfl (lv_at hl 2 rfl) ?_
          refine lv_iconst (v := 2) hx hb dX9_edge_50 (by decide) ?_
          refine lv_icmp_ne (tgt := 62) hx hb dX9_edge_51 (by decide) (fun c_7 => ?_) (fun c_7 => ?_)
          · have c_7 : ¬ n_4 = 2 := fun z => c_7 ((nI_eq (a := n_4) (b := 2) (by omega) (Nat.le_of_ble_eq_true rfl)).mpr z)
            replace hsp := hsp.trans (if_neg c_7)
            refine lv_aload_n hx hb dX9_edge_62 rfl (lv_at hl 0 rfl) ?_
            refine lv_iload_n hx hb dX9_edge_63 rfl (lv_at hl 1 rfl) ?_
            refine va_calli (va_runV (As := [.int (nI n_2)]) (rest := []) ⟨hx, hb, hml, hown, hts⟩ (c_EM_setBy l dC dI _ ad ck 0 x16 x18 x19 x20 x21 x22 x23 x24 x25 x26 x27 x28 x29 x30 x33 x45 x46 x52 x53 x61 x62 x63 x65 x66 f1 f2 f3 q4 q5 q6 q7 f8 q9 q10 f11 m12_0 m12_1 m13_0 m13_1 m14_0 m14_1 m15_0 m15_1 f17 q31 f32 f34 f35 f36 f37 q38 f39 f40 f41 m42_0 m42_1 f43 f44 f47 f48 f49 f50 f51 q54 q55 q56 f57 q58 f59 f60 f64 n_2 hx16 hx18 hx19 hx21 hx22 hx26 hx28 hx29 hx30 hx33 hx46 hx52 hx53 hx61 hx62 hx63 hx65 hm12_0 hm12_1 hm13_0 hm13_1 hm14_0 hm14_1 hm15_0 hm15_1 hm42_0 hm42_1 (by omega)) (cwV 1 hts g_EM_edge_EM_setBy rfl rfl rfl (by decide +kernel) ⟨Nat.le_of_ble_eq_true rfl, Nat.le_of_ble_eq_true rfl⟩) ⟨pu_bl, va_recv hK hP (ci := 9) (q0 := 0) rfl rfl, pu_in hP hK hD⟩ rfl rfl hl.1 rfl (lv_room (Nat.le_of_ble_eq_true rfl)) dX9_edge_64 ⟨Nat.le_of_ble_eq_true rfl, Nat.le_of_ble_eq_true rfl⟩) hS (fun q _ h => pu_fr hS hA q h) (pu_fr hS hA) (fun r_8 u t H1 locs ht hvm hw hB hz1 hk1 hS => ?_)
            have hP := pu_keep hP hk1
            clear hk1 hz1 ht hvm
            generalize H1 = H at hP hS ⊢
            have ir_8 := hw
            replace hsp := hsp.trans (slet_eq ir_8)
            exact W.iret (v := r_8) hx hb hr (fun t ht hW => ⟨⟨r_8, (), rfl, (congrArg Prod.fst (hsp.symm.trans hRR)), ⟨0, ⟨by rw [ht]; exact hP, va_K.moved hW.alike hK, hD⟩, (congrArg Prod.snd (hsp.symm.trans hRR))⟩⟩, hS.F ht⟩) hS.2.2 dX9_edge_67
          · have c_7 : n_4 = 2 := (nI_eq (a := n_4) (b := 2) (by omega) (Nat.le_of_ble_eq_true rfl)).mp c_7
            replace hsp := hsp.trans (if_pos c_7)
            refine lv_aload_n hx hb dX9_edge_54 rfl (lv_at hl 0 rfl) ?_
            refine lv_iload_n hx hb dX9_edge_55 rfl (lv_at hl 1 rfl) ?_
            refine va_calli (va_runV (As := [.int (nI n_2)]) (rest := []) ⟨hx, hb, hml, hown, hts⟩ (c_EM_manyOf_e l dC dI _ ad ck 0 x16 x18 x19 x20 x21 x22 x23 x24 x25 x26 x27 x28 x29 x30 x33 x45 x46 x52 x53 x61 x62 x63 x65 x66 f1 f2 f3 q4 q5 q6 q7 f8 q9 q10 f11 m12_0 m12_1 m13_0 m13_1 m14_0 m14_1 m15_0 m15_1 f17 q31 f32 f34 f35 f36 f37 q38 f39 f40 f41 m42_0 m42_1 f43 f44 f47 f48 f49 f50 f51 q54 q55 q56 f57 q58 f59 f60 f64 n_2 hx16 hx18 hx19 hx21 hx22 hx26 hx28 hx29 hx30 hx33 hx46 hx52 hx53 hx61 hx62 hx63 hx65 hm12_0 hm12_1 hm13_0 hm13_1 hm14_0 hm14_1 hm15_0 hm15_1 hm42_0 hm42_1 (by omega)) (cwV 1 hts g_EM_edge_EM_manyOf_e rfl rfl rfl (by decide +kernel) ⟨Nat.le_of_ble_eq_true rfl, Nat.le_of_ble_eq_true rfl⟩) ⟨pu_bl, va_recv hK hP (ci := 9) (q0 := 0) rfl rfl, pu_in hP hK hD⟩ rfl rfl hl.1 rfl (lv_room (Nat.le_of_ble_eq_true rfl)) dX9_edge_56 ⟨Nat.le_of_ble_eq_true rfl, Nat.le_of_ble_eq_true rfl⟩) hS (fun q _ h => pu_fr hS hA q h) (pu_fr hS hA) (fun r_9 u t H1 locs ht hvm hw hB hz1 hk1 hS => ?_)
            have hP := pu_keep hP hk1
            clear hk1 hz1 ht hvm
            generalize H1 = H at hP hS ⊢
            obtain ⟨u_10, hu_10, mu_10, iu_10⟩ := hw
            replace hsp := hsp.trans (slet_eq iu_10)
            rcases mI_get u_10 with ⟨zn_11, wn_11⟩ | ⟨n_11, zn_11, wn_11⟩
            · obtain rfl : r_9 = -1 := mu_10.trans wn_11
              replace hsp := hsp.trans (if_pos zn_11)
              refine lv_goto (tgt := 67) hx hb dX9_edge_59 (by decide) ?_
              exact W.iret (v := (-1)) hx hb hr (fun t ht hW => ⟨⟨(-1), (), rfl, (congrArg Prod.fst (hsp.symm.trans hRR)), ⟨0, ⟨by rw [ht]; exact hP, va_K.moved hW.alike hK, hD⟩, (congrArg Prod.snd (hsp.symm.trans hRR))⟩⟩, hS.F ht⟩) hS.2.2 dX9_edge_67
            · obtain rfl : r_9 = nI n_11 := mu_10.trans wn_11
              have hn_11 : n_11 ≤ 4 := by omega
              replace hsp := hsp.trans (if_neg (by omega))
              replace hsp := hsp.trans (slet_eq (by omega : n_11 = u_10 - 1))
              refine lv_goto (tgt := 67) hx hb dX9_edge_59 (by decide) ?_
              exact W.iret (v := (nI n_11)) hx hb hr (fun t ht hW => ⟨⟨(nI n_11), (), rfl, (congrArg Prod.fst (hsp.symm.trans hRR)), ⟨0, ⟨by rw [ht]; exact hP, va_K.moved hW.alike hK, hD⟩, (congrArg Prod.snd (hsp.symm.trans hRR))⟩⟩, hS.F ht⟩) hS.2.2 dX9_edge_67
        · have c_6 : n_4 = 1 := (nI_eq (a := n_4) (b := 1) (by omega) (Nat.le_of_ble_eq_true rfl)).mp c_6
          replace hsp := hsp.trans (if_pos c_6)
          refine lv_aload_n hx hb dX9_edge_41 rfl (lv_at hl 0 rfl) ?_
          refine lv_iload_n hx hb dX9_edge_42 rfl (lv_at hl 1 rfl) ?_
          refine va_calli (va_runV (As := [.int (nI n_2)]) (rest := []) ⟨hx, hb, hml, hown, hts⟩ (c_EM_into l dC dI _ ad ck 0 x16 x18 x19 x20 x21 x22 x23 x24 x25 x26 x27 x28 x29 x30 x33 x45 x46 x52 x53 x61 x62 x63 x65 x66 f1 f2 f3 q4 q5 q6 q7 f8 q9 q10 f11 m12_0 m12_1 m13_0 m13_1 m14_0 m14_1 m15_0 m15_1 f17 q31 f32 f34 f35 f36 f37 q38 f39 f40 f41 m42_0 m42_1 f43 f44 f47 f48 f49 f50 f51 q54 q55 q56 f57 q58 f59 f60 f64 n_2 hx16 hx18 hx19 hx21 hx22 hx26 hx28 hx29 hx30 hx33 hx46 hx52 hx53 hx61 hx62 hx63 hx65 hm12_0 hm12_1 hm13_0 hm13_1 hm14_0 hm14_1 hm15_0 hm15_1 hm42_0 hm42_1 (by omega)) (cwV 1 hts g_EM_edge_EM_into rfl rfl rfl (by decide +kernel) ⟨Nat.le_of_ble_eq_true rfl, Nat.le_of_ble_eq_true rfl⟩) ⟨pu_bl, va_recv hK hP (ci := 9) (q0 := 0) rfl rfl, pu_in hP hK hD⟩ rfl rfl hl.1 rfl (lv_room (Nat.le_of_ble_eq_true rfl)) dX9_edge_43 ⟨Nat.le_of_ble_eq_true rfl, Nat.le_of_ble_eq_true rfl⟩) hS (fun q _ h => pu_fr hS hA q h) (pu_fr hS hA) (fun r_12 u t H1 locs ht hvm hw hB hz1 hk1 hS => ?_)
          have hP := pu_keep hP hk1
          clear hk1 hz1 ht hvm
          generalize H1 = H at hP hS ⊢
          obtain ⟨u_13, hu_13, rfl, iu_13⟩ := hw
          replace hsp := hsp.trans (slet_eq iu_13)
          refine lv_goto (tgt := 67) hx hb dX9_edge_46 (by decide) ?_
          exact W.iret (v := (nI u_13)) hx hb hr (fun t ht hW => ⟨⟨(nI u_13), (), rfl, (congrArg Prod.fst (hsp.symm.trans hRR)), ⟨0, ⟨by rw [ht]; exact hP, va_K.moved hW.alike hK, hD⟩, (congrArg Prod.snd (hsp.symm.trans hRR))⟩⟩, hS.F ht⟩) hS.2.2 dX9_edge_67
      · have c_5 : n_4 = 0 := (nI_eq (a := n_4) (b := 0) (by omega) (Nat.le_of_ble_eq_true rfl)).mp c_5
        replace hsp := hsp.trans (if_pos c_5)
        refine lv_aload_n hx hb dX9_edge_28 rfl (lv_at hl 0 rfl) ?_
        refine lv_iload_n hx hb dX9_edge_29 rfl (lv_at hl 1 rfl) ?_
        refine va_calli (va_runV (As := [.int (nI n_2)]) (rest := []) ⟨hx, hb, hml, hown, hts⟩ (c_EM_outOf l dC dI _ ad ck 0 x16 x18 x19 x20 x21 x22 x23 x24 x25 x26 x27 x28 x29 x30 x33 x45 x46 x52 x53 x61 x62 x63 x65 x66 f1 f2 f3 q4 q5 q6 q7 f8 q9 q10 f11 m12_0 m12_1 m13_0 m13_1 m14_0 m14_1 m15_0 m15_1 f17 q31 f32 f34 f35 f36 f37 q38 f39 f40 f41 m42_0 m42_1 f43 f44 f47 f48 f49 f50 f51 q54 q55 q56 f57 q58 f59 f60 f64 n_2 hx16 hx18 hx19 hx21 hx22 hx26 hx28 hx29 hx30 hx33 hx46 hx52 hx53 hx61 hx62 hx63 hx65 hm12_0 hm12_1 hm13_0 hm13_1 hm14_0 hm14_1 hm15_0 hm15_1 hm42_0 hm42_1 (by omega)) (cwV 1 hts g_EM_edge_EM_outOf rfl rfl rfl (by decide +kernel) ⟨Nat.le_of_ble_eq_true rfl, Nat.le_of_ble_eq_true rfl⟩) ⟨pu_bl, va_recv hK hP (ci := 9) (q0 := 0) rfl rfl, pu_in hP hK hD⟩ rfl rfl hl.1 rfl (lv_room (Nat.le_of_ble_eq_true rfl)) dX9_edge_30 ⟨Nat.le_of_ble_eq_true rfl, Nat.le_of_ble_eq_true rfl⟩) hS (fun q _ h => pu_fr hS hA q h) (pu_fr hS hA) (fun r_14 u t H1 locs ht hvm hw hB hz1 hk1 hS => ?_)
        have hP := pu_keep hP hk1
        clear hk1 hz1 ht hvm
        generalize H1 = H at hP hS ⊢
        obtain ⟨u_15, hu_15, rfl, iu_15⟩ := hw
        replace hsp := hsp.trans (slet_eq iu_15)
        refine lv_goto (tgt := 67) hx hb dX9_edge_33 (by decide) ?_
        exact W.iret (v := (nI u_15)) hx hb hr (fun t ht hW => ⟨⟨(nI u_15), (), rfl, (congrArg Prod.fst (hsp.symm.trans hRR)), ⟨0, ⟨by rw [ht]; exact hP, va_K.moved hW.alike hK, hD⟩, (congrArg Prod.snd (hsp.symm.trans hRR))⟩⟩, hS.F ht⟩) hS.2.2 dX9_edge_67
    · replace hsp := hsp.trans (if_neg hi3)
      refine lv_if_ne (tgt := 24) hx hb dX9_edge_19 (by decide) (fun z => absurd z (by decide)) (fun _ => ?_)
      refine lv_iconst (v := (-1)) hx hb dX9_edge_22 (by decide) ?_
      exact W.iret (v := (-1)) hx hb hr (fun t ht hW => ⟨⟨(-1), (), rfl, (congrArg Prod.fst (hsp.symm.trans hRR)), ⟨0, ⟨by rw [ht]; exact hP, va_K.moved hW.alike hK, hD⟩, (congrArg Prod.snd (hsp.symm.trans hRR))⟩⟩, hS.F ht⟩) hS.2.2 dX9_edge_23
  · replace hsp := hsp.trans (if_neg hn)
    refine lv_if_eq (tgt := 22) hx hb dX9_edge_10 (by decide) (fun _ => ?_) (fun z => absurd z (by decide))
    refine lv_iconst (v := (-1)) hx hb dX9_edge_22 (by decide) ?_
    exact W.iret (v := (-1)) hx hb hr (fun t ht hW => ⟨⟨(-1), (), rfl, (congrArg Prod.fst (hsp.symm.trans hRR)), ⟨0, ⟨by rw [ht]; exact hP, va_K.moved hW.alike hK, hD⟩, (congrArg Prod.snd (hsp.symm.trans hRR))⟩⟩, hS.F ht⟩) hS.2.2 dX9_edge_23
theorem dX9_most_0 : decode cX9_most 0 = .ok (.iconst 0, 1) := by decide +kernel
theorem dX9_most_1 : decode cX9_most 1 = .ok (.istore_n 3, 1) := by decide +kernel
theorem dX9_most_2 : decode cX9_most 2 = .ok (.iconst 0, 1) := by decide +kernel
theorem dX9_most_3 : decode cX9_most 3 = .ok (.istore 4, 2) := by decide +kernel
theorem dX9_most_5 : decode cX9_most 5 = .ok (.iload 4, 2) := by decide +kernel
theorem dX9_most_7 : decode cX9_most 7 = .ok (.bipush 100, 2) := by decide +kernel
theorem dX9_most_9 : decode cX9_most 9 = .ok (.aload_n 0, 1) := by decide +kernel
theorem dX9_most_10 : decode cX9_most 10 = .ok (.getfield 46, 3) := by decide +kernel
theorem dX9_most_13 : decode cX9_most 13 = .ok (.aload_n 0, 1) := by decide +kernel
theorem dX9_most_14 : decode cX9_most 14 = .ok (.getfield 258, 3) := by decide +kernel
theorem dX9_most_17 : decode cX9_most 17 = .ok (.iaload, 1) := by decide +kernel
theorem dX9_most_18 : decode cX9_most 18 = .ok (.iadd, 1) := by decide +kernel
theorem dX9_most_19 : decode cX9_most 19 = .ok (.if_icmp .ge 123, 3) := by decide +kernel
theorem dX9_most_22 : decode cX9_most 22 = .ok (.iconst 0, 1) := by decide +kernel
theorem dX9_most_23 : decode cX9_most 23 = .ok (.istore 5, 2) := by decide +kernel
theorem dX9_most_25 : decode cX9_most 25 = .ok (.iload 5, 2) := by decide +kernel
theorem dX9_most_27 : decode cX9_most 27 = .ok (.aload_n 0, 1) := by decide +kernel
theorem dX9_most_28 : decode cX9_most 28 = .ok (.iload 4, 2) := by decide +kernel
theorem dX9_most_30 : decode cX9_most 30 = .ok (.invokevirtual 295, 3) := by decide +kernel
theorem dX9_most_33 : decode cX9_most 33 = .ok (.if_icmp .ge 103, 3) := by decide +kernel
theorem dX9_most_36 : decode cX9_most 36 = .ok (.aload_n 0, 1) := by decide +kernel
theorem dX9_most_37 : decode cX9_most 37 = .ok (.iload 4, 2) := by decide +kernel
theorem dX9_most_39 : decode cX9_most 39 = .ok (.iload 5, 2) := by decide +kernel
theorem dX9_most_41 : decode cX9_most 41 = .ok (.invokevirtual 311, 3) := by decide +kernel
theorem dX9_most_44 : decode cX9_most 44 = .ok (.istore 6, 2) := by decide +kernel
theorem dX9_most_46 : decode cX9_most 46 = .ok (.iload_n 2, 1) := by decide +kernel
theorem dX9_most_47 : decode cX9_most 47 = .ok (.ifCond .eq 44, 3) := by decide +kernel
theorem dX9_most_50 : decode cX9_most 50 = .ok (.aload_n 0, 1) := by decide +kernel
theorem dX9_most_51 : decode cX9_most 51 = .ok (.getfield 37, 3) := by decide +kernel
theorem dX9_most_54 : decode cX9_most 54 = .ok (.iload 6, 2) := by decide +kernel
theorem dX9_most_56 : decode cX9_most 56 = .ok (.iaload, 1) := by decide +kernel
theorem dX9_most_57 : decode cX9_most 57 = .ok (.iconst 2, 1) := by decide +kernel
theorem dX9_most_58 : decode cX9_most 58 = .ok (.if_icmp .eq 33, 3) := by decide +kernel
theorem dX9_most_61 : decode cX9_most 61 = .ok (.iload_n 2, 1) := by decide +kernel
theorem dX9_most_62 : decode cX9_most 62 = .ok (.iconst 1, 1) := by decide +kernel
theorem dX9_most_63 : decode cX9_most 63 = .ok (.if_icmp .ne 17, 3) := by decide +kernel
theorem dX9_most_66 : decode cX9_most 66 = .ok (.aload_n 0, 1) := by decide +kernel
theorem dX9_most_67 : decode cX9_most 67 = .ok (.getfield 37, 3) := by decide +kernel
theorem dX9_most_70 : decode cX9_most 70 = .ok (.iload 6, 2) := by decide +kernel
theorem dX9_most_72 : decode cX9_most 72 = .ok (.iaload, 1) := by decide +kernel
theorem dX9_most_73 : decode cX9_most 73 = .ok (.iconst 2, 1) := by decide +kernel
theorem dX9_most_74 : decode cX9_most 74 = .ok (.if_icmp .le 21, 3) := by decide +kernel
theorem dX9_most_77 : decode cX9_most 77 = .ok (.goto 14, 3) := by decide +kernel
theorem dX9_most_80 : decode cX9_most 80 = .ok (.aload_n 0, 1) := by decide +kernel
theorem dX9_most_81 : decode cX9_most 81 = .ok (.getfield 37, 3) := by decide +kernel
theorem dX9_most_84 : decode cX9_most 84 = .ok (.iload 6, 2) := by decide +kernel
theorem dX9_most_86 : decode cX9_most 86 = .ok (.iaload, 1) := by decide +kernel
theorem dX9_most_87 : decode cX9_most 87 = .ok (.iconst 2, 1) := by decide +kernel
theorem dX9_most_88 : decode cX9_most 88 = .ok (.if_icmp .ge 7, 3) := by decide +kernel
theorem dX9_most_91 : decode cX9_most 91 = .ok (.iconst 1, 1) := by decide +kernel
theorem dX9_most_92 : decode cX9_most 92 = .ok (.goto 4, 3) := by decide +kernel
theorem dX9_most_95 : decode cX9_most 95 = .ok (.iconst 0, 1) := by decide +kernel
theorem dX9_most_96 : decode cX9_most 96 = .ok (.istore 7, 2) := by decide +kernel
theorem dX9_most_98 : decode cX9_most 98 = .ok (.aload_n 0, 1) := by decide +kernel
theorem dX9_most_99 : decode cX9_most 99 = .ok (.getfield 34, 3) := by decide +kernel
theorem dX9_most_102 : decode cX9_most 102 = .ok (.iload 6, 2) := by decide +kernel
theorem dX9_most_104 : decode cX9_most 104 = .ok (.iaload, 1) := by decide +kernel
theorem dX9_most_105 : decode cX9_most 105 = .ok (.iload_n 1, 1) := by decide +kernel
theorem dX9_most_106 : decode cX9_most 106 = .ok (.if_icmp .ne 22, 3) := by decide +kernel
theorem dX9_most_109 : decode cX9_most 109 = .ok (.iload 7, 2) := by decide +kernel
theorem dX9_most_111 : decode cX9_most 111 = .ok (.ifCond .eq 17, 3) := by decide +kernel
theorem dX9_most_114 : decode cX9_most 114 = .ok (.iload_n 3, 1) := by decide +kernel
theorem dX9_most_115 : decode cX9_most 115 = .ok (.aload_n 0, 1) := by decide +kernel
theorem dX9_most_116 : decode cX9_most 116 = .ok (.getfield 40, 3) := by decide +kernel
theorem dX9_most_119 : decode cX9_most 119 = .ok (.iload 6, 2) := by decide +kernel
theorem dX9_most_121 : decode cX9_most 121 = .ok (.iaload, 1) := by decide +kernel
theorem dX9_most_122 : decode cX9_most 122 = .ok (.invokestatic 229, 3) := by decide +kernel
theorem dX9_most_125 : decode cX9_most 125 = .ok (.goto 4, 3) := by decide +kernel
theorem dX9_most_128 : decode cX9_most 128 = .ok (.iload_n 3, 1) := by decide +kernel
theorem dX9_most_129 : decode cX9_most 129 = .ok (.istore_n 3, 1) := by decide +kernel
theorem dX9_most_130 : decode cX9_most 130 = .ok (.iinc 5 1, 3) := by decide +kernel
theorem dX9_most_133 : decode cX9_most 133 = .ok (.goto (-108), 3) := by decide +kernel
theorem dX9_most_136 : decode cX9_most 136 = .ok (.iinc 4 1, 3) := by decide +kernel
theorem dX9_most_139 : decode cX9_most 139 = .ok (.goto (-134), 3) := by decide +kernel
theorem dX9_most_142 : decode cX9_most 142 = .ok (.iload_n 3, 1) := by decide +kernel
theorem dX9_most_143 : decode cX9_most 143 = .ok (.ireturn, 1) := by decide +kernel
abbrev vs_EM_most : List Cond := .code yX9_most cX9_most 8 (some .int) :: VM
theorem g_EM_most_EM_manyOf_n : GoodIn vs_EM_most (wsV RX9 295 RX9 yX9_manyOf vs_EM_manyOf_n) := gm_V vm_152 vm_153 vm_154 vm_19 vm_155
theorem g_EM_most_EM_spot_e : GoodIn vs_EM_most (wsV RX9 311 RX9 yX9_spot vs_EM_spot_e) := gm_V vm_160 vm_161 vm_162 vm_19 vm_163
theorem g_EM_most_EM_greater : GoodIn vs_EM_most (va_wsS RX9 229 yX9_greater vs_EM_greater) := gm_S vm_87 vm_88 vm_19 vm_89
theorem g_EM_most_EM_spot_p : GoodIn vs_EM_most (wsV RX9 311 RX9 yX9_spot vs_EM_spot_p) := gm_V vm_160 vm_161 vm_162 vm_19 vm_163
noncomputable def sp_EM_most_L1 (x16 : Nat) (q4 : Nat → Nat) (q7 : Nat → Nat) (q9 : Nat → Nat) (q10 : Nat → Nat) (f11 : Nat → Int32) (m13_0 : Nat) (m13_1 : Nat) (m14_0 : Nat) (m14_1 : Nat) (p0 : Int32) (p1 : Int32) (g_4 : Nat) : (Int32 × Nat) → (Int32 × Nat) ⊕ (Int32 × Nat) := fun (g_22, g_23) => (slet (sp_EM_manyOf_n x16 q4 q7 m13_0 m13_1 m14_0 m14_1 g_4) (fun u_31 => (if u_31 = 0 then (Sum.inr (g_22, g_23)) else (if g_4 < 100 then (slet (u_31 - 1) (fun u_32 => (if u_32 ≤ g_23 then (Sum.inr (g_22, g_23)) else (slet (α := Nat) (if (p1 : Int32) = 0 then 1 else (slet (min (q10 (80 * x16 + 4 * g_4 + g_23)) (if (80 * x16 + 4 * g_4 + g_23) % 80 < 56 then 4 else 1)) (fun u_51 => (if u_51 = 2 then 1 else (if (p1 : Int32) = 1 then (if u_51 ≤ 2 then 0 else 1) else (if 2 ≤ u_51 then 0 else 1)))))) (fun g_35 => (slet (min (q9 (80 * x16 + 4 * g_4 + g_23)) 2) (fun u_40 => (slet (α := Int32) (if ((nI u_40) : Int32) = p0 then (if g_35 = 0 then g_22 else (slet (f11 (80 * x16 + 4 * g_4 + g_23)) (fun y_47 => (slet (sp_EM_greater g_22 y_47) (fun r_48 => r_48))))) else g_22) (fun g_41 => (Sum.inl (g_41, (g_23 + 1)))))))))))) else (slet (u_31 - 1) (fun u_32 => (if u_32 ≤ g_23 then (Sum.inr (g_22, g_23)) else (slet (α := Nat) (if (p1 : Int32) = 0 then 1 else (slet (min (q10 (80 * x16 + (56 + 3 * (g_4 - 100)) + g_23)) (if (80 * x16 + (56 + 3 * (g_4 - 100)) + g_23) % 80 < 56 then 4 else 1)) (fun u_78 => (if u_78 = 2 then 1 else (if (p1 : Int32) = 1 then (if u_78 ≤ 2 then 0 else 1) else (if 2 ≤ u_78 then 0 else 1)))))) (fun g_62 => (slet (min (q9 (80 * x16 + (56 + 3 * (g_4 - 100)) + g_23)) 2) (fun u_67 => (slet (α := Int32) (if ((nI u_67) : Int32) = p0 then (if g_62 = 0 then g_22 else (slet (f11 (80 * x16 + (56 + 3 * (g_4 - 100)) + g_23)) (fun y_74 => (slet (sp_EM_greater g_22 y_74) (fun r_75 => r_75))))) else g_22) (fun g_68 => (Sum.inl (g_68, (g_23 + 1))))))))))))))))
noncomputable def sp_EM_most_L2 (x16 : Nat) (q4 : Nat → Nat) (q7 : Nat → Nat) (q9 : Nat → Nat) (q10 : Nat → Nat) (f11 : Nat → Int32) (m13_0 : Nat) (m13_1 : Nat) (m14_0 : Nat) (m14_1 : Nat) (p0 : Int32) (p1 : Int32) : (Int32 × Nat) → (Int32 × Nat) ⊕ (Int32) := fun (g_3, g_4) => (slet (if x16 = 0 then m13_0 else m13_1) (fun u_12 => (if (100 + u_12) ≤ g_4 then (Sum.inr g_3) else (slet (α := Int32 × Nat) (itrv (α := Int32 × Nat) (β := (Int32 × Nat)) default (sp_EM_most_L1 x16 q4 q7 q9 q10 f11 m13_0 m13_1 m14_0 m14_1 p0 p1 g_4) (g_3, 0)) (fun (g_15, g_16) => (Sum.inl (g_15, (g_4 + 1))))))))
noncomputable def sp_EM_most (x16 : Nat) (q4 : Nat → Nat) (q7 : Nat → Nat) (q9 : Nat → Nat) (q10 : Nat → Nat) (f11 : Nat → Int32) (m13_0 : Nat) (m13_1 : Nat) (m14_0 : Nat) (m14_1 : Nat) (p0 : Int32) (p1 : Int32) : Int32 := (itrv (α := Int32 × Nat) (β := (Int32)) default (sp_EM_most_L2 x16 q4 q7 q9 q10 f11 m13_0 m13_1 m14_0 m14_1 p0 p1) (0, 0))
set_option maxHeartbeats 4000000 in
set_option maxRecDepth 100000 in
theorem c_EM_most (l : Launch) (dC : Nat → ClassId) (dI : Nat → Nat → Nat) (sz : Nat) (ad : Nat → Nat) (ck : Nat → ClassId) (x0 : Int32) (x16 : Nat) (x18 : Nat) (x19 : Nat) (x20 : Int32) (x21 : Nat) (x22 : Nat) (x23 : Int32) (x24 : Int32) (x25 : Int32) (x26 : Nat) (x27 : Int32) (x28 : Nat) (x29 : Nat) (x30 : Nat) (x33 : Nat) (x45 : Int32) (x46 : Nat) (x52 : Nat) (x53 : Nat) (x61 : Nat) (x62 : Nat) (x63 : Nat) (x65 : Nat) (x66 : Int32) (f1 : Nat → Int32) (f2 : Nat → Int32) (f3 : Nat → Int32) (q4 : Nat → Nat) (q5 : Nat → Nat) (q6 : Nat → Nat) (q7 : Nat → Nat) (f8 : Nat → Int32) (q9 : Nat → Nat) (q10 : Nat → Nat) (f11 : Nat → Int32) (m12_0 m12_1 : Nat) (m13_0 m13_1 : Nat) (m14_0 m14_1 : Nat) (m15_0 m15_1 : Nat) (f17 : Nat → Int32) (q31 : Nat → Nat) (f32 : Nat → Int32) (f34 : Nat → Int32) (f35 : Nat → Int32) (f36 : Nat → Int32) (f37 : Nat → Int32) (q38 : Nat → Nat) (f39 : Nat → Int32) (f40 : Nat → Int32) (f41 : Nat → Int32) (m42_0 m42_1 : Nat) (f43 : Nat → Int32) (f44 : Nat → Int32) (f47 : Nat → Int32) (f48 : Nat → Int32) (f49 : Nat → Int32) (f50 : Nat → Int32) (f51 : Nat → Int32) (q54 : Nat → Nat) (q55 : Nat → Nat) (q56 : Nat → Nat) (f57 : Nat → Int32) (q58 : Nat → Nat) (f59 : Nat → Int32) (f60 : Nat → Int32) (f64 : Nat → Int32) (p0 : Int32) (p1 : Int32) (hx16 : x16 ≤ 1) (hx18 : x18 ≤ 900) (hx19 : x19 ≤ 900) (hx21 : x21 ≤ 900) (hx22 : x22 ≤ 4) (hx26 : x26 ≤ 6) (hx28 : x28 ≤ 1) (hx29 : x29 ≤ 1) (hx30 : x30 ≤ 1) (hx33 : x33 ≤ 20) (hx46 : x46 ≤ 5) (hx52 : x52 ≤ 2400) (hx53 : x53 ≤ 119) (hx61 : x61 ≤ 119) (hx62 : x62 ≤ 2000) (hx63 : x63 ≤ 1) (hx65 : x65 ≤ 7) (hm12_0 : m12_0 ≤ 3) (hm12_1 : m12_1 ≤ 3) (hm13_0 : m13_0 ≤ 8) (hm13_1 : m13_1 ≤ 8) (hm14_0 : m14_0 ≤ 14) (hm14_1 : m14_1 ≤ 14) (hm15_0 : m15_0 ≤ 8) (hm15_1 : m15_1 ≤ 8) (hm42_0 : m42_0 ≤ 120) (hm42_1 : m42_1 ≤ 400) : Met l yX9_most vs_EM_most ({ frames := 3, cells := 0, slots := 0, locals := 64 }) (va_Pc [.ref (ad 0), .int p0, .int p1] (pu_B (dC, dI) (mo_w ad ck x0 (nI x16) (nI x18) (nI x19) x20 (nI x21) (nI x22) x23 x24 x25 (nI x26) x27 (nI x28) (nI x29) (nI x30) (nI x33) x45 (nI x46) (nI x52) (nI x53) (nI x61) (nI x62) (nI x63) (nI x65) x66 f1 f2 f3 (bN 3 q4) (bN 7 q5) (bN 7 q6) (bN 4 q7) f8 (bN 2 q9) (bH q10) f11 (b2 m12_0 m12_1) (b2 m13_0 m13_1) (b2 m14_0 m14_1) (b2m m15_0 m15_1) f17 (bA 159 q31) f32 f34 f35 f36 f37 (bN 7 q38) f39 f40 f41 (b2 m42_0 m42_1) f43 f44 f47 f48 f49 f50 f51 (bN 13 q54) (bN 120 q55) (bN 120 q56) f57 (bN 120 q58) f59 f60 f64) (mo_t ck) sz)) (va_Qi (fun (r : Int32) (_ : Unit) => r = (sp_EM_most x16 q4 q7 q9 q10 f11 m13_0 m13_1 m14_0 m14_1 p0 p1)) (fun _ _ => True) (va_A [] sz)) 0 0 (va_A [] sz) := by
  refine Met.ofW (cc := cX9_most) (maxL := 8) (ret := (some .int)) (by decide) rfl ?_
  intro p e s m args below meth c s₁ B hml hv
  obtain ⟨rfl, rfl, hP, hK, hD0⟩ := hv
  have hx := B.exec
  have hb := B.bytes
  have hr := B.returns
  have hts := atoms_spec (ws := vs_EM_most) B.pre
  have v_1 := hts (.fieldLink RX9 46 "ClockReachModel" "placeMany" "[I") (List.mem_cons_of_mem _ vm_65)
  have v_2 := hts (.fieldLink RX9 258 "ClockReachModel" "bank" "I") (List.mem_cons_of_mem _ vm_4)
  have v_12 := hts (.fieldLink RX9 37 "ClockReachModel" "how" "[I") (List.mem_cons_of_mem _ vm_99)
  have v_13 := hts (.fieldLink RX9 34 "ClockReachModel" "ofClock" "[I") (List.mem_cons_of_mem _ vm_98)
  have v_14 := hts (.fieldLink RX9 40 "ClockReachModel" "limit" "[I") (List.mem_cons_of_mem _ vm_100)
  have hown : s.vm.findClass RX9 = some m.cls := findClass_of_methodNamed B.named
  have hlocks := B.notSynchronized
  have hiX9 : ∀ w ∈ wsX90, w ∈ vs_EM_most := fun _ h => List.mem_cons_of_mem _ (vmi_L h)
  have hD := hD0
  have hA : ∀ q : Nat, s.heap.size ≤ q → va_A [] s.heap.size q := fun _ h => Or.inr h
  have hS : va_S (va_A [] s.heap.size) s.heap s.heap [] := va_S.rf
  have hl := lv_entry ([.ref (ad 0), .int p0, .int p1]) (n := 8) (Nat.le_of_ble_eq_true rfl)
  rw [lg_entry_eq]
  generalize (lg_sl ([.ref (ad 0), .int p0, .int p1]) ++ List.replicate (8 - (lg_sl ([.ref (ad 0), .int p0, .int p1])).length) Slot.unset).toArray = ls at hl ⊢
  have hl : lv_has ls 8 [(0, .ref (ad 0)), (1, .int p0), (2, .int p1)] := hl
  obtain ⟨RR, hRR⟩ : ∃ x, x = (sp_EM_most x16 q4 q7 q9 q10 f11 m13_0 m13_1 m14_0 m14_1 p0 p1) := ⟨_, rfl⟩
  have hsp := hRR
  refine lv_iconst (v := 0) hx hb dX9_most_0 (by decide) ?_
  refine lv_istore_n (lv' := [(3, .int 0), (0, .ref (ad 0)), (1, .int p0), (2, .int p1)]) hx hb dX9_most_1 rfl hl (by decide) rfl (fun ls hl => ?_)
  refine lv_iconst (v := 0) hx hb dX9_most_2 (by decide) ?_
  refine lv_istore (lv' := [(4, .int 0), (3, .int 0), (0, .ref (ad 0)), (1, .int p0), (2, .int p1)]) hx hb dX9_most_3 hl (by decide) rfl (fun ls hl => ?_)
  obtain ⟨lf_6, dlf_6, hlf_6, hsp⟩ := itr_ex hsp
  delta sp_EM_most_L2 at hlf_6
  refine pu_while (fun nn H locs ls => ∃ (g_3 : Int32) (g_4 : Nat), nn = 108 - g_4 ∧ g_4 ≤ 108 ∧ RR = itrv dlf_6 lf_6 (g_3, g_4) ∧ va_P (dC, dI) vwCl (mo_w ad ck x0 (nI x16) (nI x18) (nI x19) x20 (nI x21) (nI x22) x23 x24 x25 (nI x26) x27 (nI x28) (nI x29) (nI x30) (nI x33) x45 (nI x46) (nI x52) (nI x53) (nI x61) (nI x62) (nI x63) (nI x65) x66 f1 f2 f3 (bN 3 q4) (bN 7 q5) (bN 7 q6) (bN 4 q7) f8 (bN 2 q9) (bH q10) f11 (b2 m12_0 m12_1) (b2 m13_0 m13_1) (b2 m14_0 m14_1) (b2m m15_0 m15_1) f17 (bA 159 q31) f32 f34 f35 f36 f37 (bN 7 q38) f39 f40 f41 (b2 m42_0 m42_1) f43 f44 f47 f48 f49 f50 f51 (bN 13 q54) (bN 120 q55) (bN 120 q56) f57 (bN 120 q58) f59 f60 f64) H ∧ va_D (fun _ => True) (mo_w ad ck x0 (nI x16) (nI x18) (nI x19) x20 (nI x21) (nI x22) x23 x24 x25 (nI x26) x27 (nI x28) (nI x29) (nI x30) (nI x33) x45 (nI x46) (nI x52) (nI x53) (nI x61) (nI x62) (nI x63) (nI x65) x66 f1 f2 f3 (bN 3 q4) (bN 7 q5) (bN 7 q6) (bN 4 q7) f8 (bN 2 q9) (bH q10) f11 (b2 m12_0 m12_1) (b2 m13_0 m13_1) (b2 m14_0 m14_1) (b2m m15_0 m15_1) f17 (bA 159 q31) f32 f34 f35 f36 f37 (bN 7 q38) f39 f40 f41 (b2 m42_0 m42_1) f43 f44 f47 f48 f49 f50 f51 (bN 13 q54) (bN 120 q55) (bN 120 q56) f57 (bN 120 q58) f59 f60 f64) ∧ va_S (va_A [] s.heap.size) s.heap H locs ∧ lv_has ls 8 [(0, .ref (ad 0)), (1, .int p0), (2, .int p1), (3, .int g_3), (4, .int (nI g_4))]) 5 ?_ _ _ _ _ ⟨0, 0, rfl, (Nat.le_of_ble_eq_true rfl), hsp, hP, hD, hS, lv_sub hl [2, 3, 4, 1, 0] rfl⟩
  rintro nn ih_5 H locs ls ⟨g_3, g_4, rfl, hg_4, he_8, hP, hD, hS, hl⟩
  obtain ⟨S_7, hsp, hin_9, hout_10⟩ := itr_step hlf_6 he_8
  refine lv_iload hx hb dX9_most_5 (lv_at hl 4 rfl) ?_
  refine lv_bipush (v := 100) hx hb dX9_most_7 (by decide) ?_
  refine lv_aload_n hx hb dX9_most_9 rfl (lv_at hl 0 rfl) ?_
  refine va_get (D := (dC, dI)) (ci := 9) (v := .ref (ad 13)) (C := RX9) (T := TX9) (N := 67) hx hb hts hiX9 hown hK hP 0 rfl rfl 13 (by decide) v_1 (fun _ h9 => h9) rfl dX9_most_10 ?_
  refine lv_aload_n hx hb dX9_most_13 rfl (lv_at hl 0 rfl) ?_
  refine va_get (D := (dC, dI)) (ci := 9) (v := .int (nI x16)) (C := RX9) (T := TX9) (N := 67) hx hb hts hiX9 hown hK hP 0 rfl rfl 16 (by decide) v_2 (fun _ h9 => h9) rfl dX9_most_14 ?_
  refine va_iald hx hb hK hP 13 12 rfl rfl (vp_in_nI (n := x16) (Nat.lt_of_le_of_lt hx16 (Nat.le_of_ble_eq_true rfl)) (Nat.le_of_ble_eq_true rfl)) dX9_most_17 ?_
  refine lv_topi (fun y_11 ey_11 => ?_)
  obtain ⟨u_12, hu_12, fu_12, xu_12⟩ := b2_getx (a := m13_0) (b := m13_1) (i := x16) (by omega)
  have qy_11 := ey_11.trans fu_12
  replace hsp := hsp.trans (slet_eq xu_12)
  obtain rfl : y_11 = nI u_12 := qy_11
  refine lv_iadd hx hb dX9_most_18 ?_
  refine lv_topi (fun y_13 ey_13 => ?_)
  obtain rfl : y_13 = (nI (100 + u_12)) := ey_13.trans (nI_add 100 u_12)
  refine lv_icmp_ge (tgt := 142) hx hb dX9_most_19 (by decide) (fun c_14 => ?_) (fun c_14 => ?_)
  · have c_14 : (100 + u_12) ≤ g_4 := (nI_leI (a := (100 + u_12)) (b := g_4) (by omega) (Nat.lt_of_le_of_lt hg_4 (Nat.le_of_ble_eq_true rfl))).mp c_14
    replace hsp := hsp.trans (if_pos c_14)
    have hsp := hout_10 _ hsp
    refine lv_iload_n hx hb dX9_most_142 rfl (lv_at hl 3 rfl) ?_
    exact W.iret (v := g_3) hx hb hr (fun t ht hW => ⟨⟨g_3, (), rfl, (hsp.symm.trans hRR), trivial⟩, hS.F ht⟩) hS.2.2 dX9_most_143
  · have c_14 : ¬ (100 + u_12) ≤ g_4 := fun z => c_14 ((nI_leI (a := (100 + u_12)) (b := g_4) (by omega) (Nat.lt_of_le_of_lt hg_4 (Nat.le_of_ble_eq_true rfl))).mpr z)
    replace hsp := hsp.trans (if_neg c_14)
    refine lv_iconst (v := 0) hx hb dX9_most_22 (by decide) ?_
    refine lv_istore (lv' := [(5, .int 0), (0, .ref (ad 0)), (1, .int p0), (2, .int p1), (3, .int g_3), (4, .int (nI g_4))]) hx hb dX9_most_23 hl (by decide) rfl (fun ls hl => ?_)
    obtain ⟨JR_18, hJR_18, hsp⟩ := slet_ex hsp
    refine pu_join (fun H locs ls st => ∃ (g_15 : Int32) (g_16 : Nat), st = [] ∧ g_16 ≤ 4 ∧ (g_15, g_16) = JR_18 ∧ va_P (dC, dI) vwCl (mo_w ad ck x0 (nI x16) (nI x18) (nI x19) x20 (nI x21) (nI x22) x23 x24 x25 (nI x26) x27 (nI x28) (nI x29) (nI x30) (nI x33) x45 (nI x46) (nI x52) (nI x53) (nI x61) (nI x62) (nI x63) (nI x65) x66 f1 f2 f3 (bN 3 q4) (bN 7 q5) (bN 7 q6) (bN 4 q7) f8 (bN 2 q9) (bH q10) f11 (b2 m12_0 m12_1) (b2 m13_0 m13_1) (b2 m14_0 m14_1) (b2m m15_0 m15_1) f17 (bA 159 q31) f32 f34 f35 f36 f37 (bN 7 q38) f39 f40 f41 (b2 m42_0 m42_1) f43 f44 f47 f48 f49 f50 f51 (bN 13 q54) (bN 120 q55) (bN 120 q56) f57 (bN 120 q58) f59 f60 f64) H ∧ va_D (fun _ => True) (mo_w ad ck x0 (nI x16) (nI x18) (nI x19) x20 (nI x21) (nI x22) x23 x24 x25 (nI x26) x27 (nI x28) (nI x29) (nI x30) (nI x33) x45 (nI x46) (nI x52) (nI x53) (nI x61) (nI x62) (nI x63) (nI x65) x66 f1 f2 f3 (bN 3 q4) (bN 7 q5) (bN 7 q6) (bN 4 q7) f8 (bN 2 q9) (bH q10) f11 (b2 m12_0 m12_1) (b2 m13_0 m13_1) (b2 m14_0 m14_1) (b2m m15_0 m15_1) f17 (bA 159 q31) f32 f34 f35 f36 f37 (bN 7 q38) f39 f40 f41 (b2 m42_0 m42_1) f43 f44 f47 f48 f49 f50 f51 (bN 13 q54) (bN 120 q55) (bN 120 q56) f57 (bN 120 q58) f59 f60 f64) ∧ va_S (va_A [] s.heap.size) s.heap H locs ∧ lv_has ls 8 [(0, .ref (ad 0)), (1, .int p0), (2, .int p1), (3, .int g_15), (4, .int (nI g_4)), (5, .int (nI g_16))]) 136 ?_ (fun j_17 => ?_)
    · rintro H locs ls st ⟨g_15, g_16, rfl, hg_16, he_19, hP, hD, hS, hl⟩
      rw [← he_19] at hsp
      refine lv_iinc (v := (nI (g_4 + 1))) (lv' := [(4, .int (nI (g_4 + 1))), (0, .ref (ad 0)), (1, .int p0), (2, .int p1), (3, .int g_15), (5, .int (nI g_16))]) hx hb dX9_most_136 hl (k := 4) rfl (nI_1 _) (by decide) rfl (fun ls hl => ?_)
      refine lv_goto (tgt := 5) hx hb dX9_most_139 (by decide) ?_
      exact ih_5 (108 - (g_4 + 1)) (by omega) _ _ _ ⟨g_15, (g_4 + 1), rfl, (by omega), hin_9 _ hsp, hP, hD, hS, lv_sub hl [1, 2, 3, 4, 0] rfl⟩
    have hsp := hJR_18
    obtain ⟨lf_25, dlf_25, hlf_25, hsp⟩ := itr_ex hsp
    delta sp_EM_most_L1 at hlf_25
    refine pu_while (fun nn H locs ls => ∃ (g_22 : Int32) (g_23 : Nat), nn = 4 - g_23 ∧ g_23 ≤ 4 ∧ JR_18 = itrv dlf_25 lf_25 (g_22, g_23) ∧ va_P (dC, dI) vwCl (mo_w ad ck x0 (nI x16) (nI x18) (nI x19) x20 (nI x21) (nI x22) x23 x24 x25 (nI x26) x27 (nI x28) (nI x29) (nI x30) (nI x33) x45 (nI x46) (nI x52) (nI x53) (nI x61) (nI x62) (nI x63) (nI x65) x66 f1 f2 f3 (bN 3 q4) (bN 7 q5) (bN 7 q6) (bN 4 q7) f8 (bN 2 q9) (bH q10) f11 (b2 m12_0 m12_1) (b2 m13_0 m13_1) (b2 m14_0 m14_1) (b2m m15_0 m15_1) f17 (bA 159 q31) f32 f34 f35 f36 f37 (bN 7 q38) f39 f40 f41 (b2 m42_0 m42_1) f43 f44 f47 f48 f49 f50 f51 (bN 13 q54) (bN 120 q55) (bN 120 q56) f57 (bN 120 q58) f59 f60 f64) H ∧ va_D (fun _ => True) (mo_w ad ck x0 (nI x16) (nI x18) (nI x19) x20 (nI x21) (nI x22) x23 x24 x25 (nI x26) x27 (nI x28) (nI x29) (nI x30) (nI x33) x45 (nI x46) (nI x52) (nI x53) (nI x61) (nI x62) (nI x63) (nI x65) x66 f1 f2 f3 (bN 3 q4) (bN 7 q5) (bN 7 q6) (bN 4 q7) f8 (bN 2 q9) (bH q10) f11 (b2 m12_0 m12_1) (b2 m13_0 m13_1) (b2 m14_0 m14_1) (b2m m15_0 m15_1) f17 (bA 159 q31) f32 f34 f35 f36 f37 (bN 7 q38) f39 f40 f41 (b2 m42_0 m42_1) f43 f44 f47 f48 f49 f50 f51 (bN 13 q54) (bN 120 q55) (bN 120 q56) f57 (bN 120 q58) f59 f60 f64) ∧ va_S (va_A [] s.heap.size) s.heap H locs ∧ lv_has ls 8 [(0, .ref (ad 0)), (1, .int p0), (2, .int p1), (3, .int g_22), (4, .int (nI g_4)), (5, .int (nI g_23))]) 25 ?_ _ _ _ _ ⟨g_3, 0, rfl, (Nat.le_of_ble_eq_true rfl), hsp, hP, hD, hS, lv_sub hl [1, 2, 3, 4, 5, 0] rfl⟩
    rintro nn ih_24 H locs ls ⟨g_22, g_23, rfl, hg_23, he_27, hP, hD, hS, hl⟩
    obtain ⟨S_26, hsp, hin_28, hout_29⟩ := itr_step hlf_25 he_27
    refine lv_iload hx hb dX9_most_25 (lv_at hl 5 rfl) ?_
    refine lv_aload_n hx hb dX9_most_27 rfl (lv_at hl 0 rfl) ?_
    refine lv_iload hx hb dX9_most_28 (lv_at hl 4 rfl) ?_
    refine va_calli (va_runV (As := [.int (nI g_4)]) (rest := [.int (nI g_23)]) ⟨hx, hb, hml, hown, hts⟩ (c_EM_manyOf_n l dC dI _ ad ck x0 x16 x18 x19 x20 x21 x22 x23 x24 x25 x26 x27 x28 x29 x30 x33 x45 x46 x52 x53 x61 x62 x63 x65 x66 f1 f2 f3 q4 q5 q6 q7 f8 q9 q10 f11 m12_0 m12_1 m13_0 m13_1 m14_0 m14_1 m15_0 m15_1 f17 q31 f32 f34 f35 f36 f37 q38 f39 f40 f41 m42_0 m42_1 f43 f44 f47 f48 f49 f50 f51 q54 q55 q56 f57 q58 f59 f60 f64 g_4 hx16 hx18 hx19 hx21 hx22 hx26 hx28 hx29 hx30 hx33 hx46 hx52 hx53 hx61 hx62 hx63 hx65 hm12_0 hm12_1 hm13_0 hm13_1 hm14_0 hm14_1 hm15_0 hm15_1 hm42_0 hm42_1 (by omega)) (cwV 1 hts g_EM_most_EM_manyOf_n rfl rfl rfl (by decide +kernel) ⟨Nat.le_of_ble_eq_true rfl, Nat.le_of_ble_eq_true rfl⟩) ⟨pu_bl, va_recv hK hP (ci := 9) (q0 := 0) rfl rfl, pu_in hP hK hD⟩ rfl rfl hl.1 rfl (lv_room (Nat.le_of_ble_eq_true rfl)) dX9_most_30 ⟨Nat.le_of_ble_eq_true rfl, Nat.le_of_ble_eq_true rfl⟩) hS (fun q _ h => pu_fr hS hA q h) (pu_fr hS hA) (fun r_30 u t H1 locs ht hvm hw hB hz1 hk1 hS => ?_)
    have hP := pu_keep hP hk1
    clear hk1 hz1 ht hvm
    generalize H1 = H at hP hS ⊢
    obtain ⟨u_31, hu_31, mu_31, ju_31, iu_31⟩ := hw
    replace hsp := hsp.trans (slet_eq iu_31)
    rcases ju_31 with zu_31 | ⟨u_32, hu_32, iu_32, zu_31⟩ | ⟨u_32, hu_32, iu_32, zu_31⟩
    · obtain rfl : r_30 = -1 := by rw [mu_31, zu_31]; rfl
      replace hsp := hsp.trans (if_pos zu_31)
      refine lv_icmp_ge (tgt := 136) hx hb dX9_most_33 (by decide) (fun _ => ?_) (fun z => absurd (pu_negle (n := g_23) (by omega) (by decide)) z)
      have hsp := hout_29 _ hsp
      exact j_17 _ _ _ _ ⟨g_22, g_23, rfl, hg_23, hsp.symm, hP, hD, hS, lv_sub hl [0, 1, 2, 3, 4, 5] rfl⟩
    · obtain rfl : r_30 = nI u_32 := by rw [mu_31, zu_31]; rfl
      replace hsp := hsp.trans (if_neg (by omega))
      replace hsp := hsp.trans (if_pos (by omega))
      replace hsp := hsp.trans (slet_eq (by omega : u_32 = u_31 - 1))
      refine lv_icmp_ge (tgt := 136) hx hb dX9_most_33 (by decide) (fun c_33 => ?_) (fun c_33 => ?_)
      · have c_33 : u_32 ≤ g_23 := (nI_leI (a := u_32) (b := g_23) (by omega) (Nat.lt_of_le_of_lt hg_23 (Nat.le_of_ble_eq_true rfl))).mp c_33
        replace hsp := hsp.trans (if_pos c_33)
        have hsp := hout_29 _ hsp
        exact j_17 _ _ _ _ ⟨g_22, g_23, rfl, hg_23, hsp.symm, hP, hD, hS, lv_sub hl [0, 1, 2, 3, 4, 5] rfl⟩
      · have c_33 : ¬ u_32 ≤ g_23 := fun z => c_33 ((nI_leI (a := u_32) (b := g_23) (by omega) (Nat.lt_of_le_of_lt hg_23 (Nat.le_of_ble_eq_true rfl))).mpr z)
        replace hsp := hsp.trans (if_neg c_33)
        refine lv_aload_n hx hb dX9_most_36 rfl (lv_at hl 0 rfl) ?_
        refine lv_iload hx hb dX9_most_37 (lv_at hl 4 rfl) ?_
        refine lv_iload hx hb dX9_most_39 (lv_at hl 5 rfl) ?_
        refine va_calli (va_runV (As := [.int (nI g_4), .int (nI g_23)]) (rest := []) ⟨hx, hb, hml, hown, hts⟩ (c_EM_spot_e l dC dI _ ad ck x0 x16 x18 x19 x20 x21 x22 x23 x24 x25 x26 x27 x28 x29 x30 x33 x45 x46 x52 x53 x61 x62 x63 x65 x66 f1 f2 f3 q4 q5 q6 q7 f8 q9 q10 f11 m12_0 m12_1 m13_0 m13_1 m14_0 m14_1 m15_0 m15_1 f17 q31 f32 f34 f35 f36 f37 q38 f39 f40 f41 m42_0 m42_1 f43 f44 f47 f48 f49 f50 f51 q54 q55 q56 f57 q58 f59 f60 f64 g_4 g_23 hx16 hx18 hx19 hx21 hx22 hx26 hx28 hx29 hx30 hx33 hx46 hx52 hx53 hx61 hx62 hx63 hx65 hm12_0 hm12_1 hm13_0 hm13_1 hm14_0 hm14_1 hm15_0 hm15_1 hm42_0 hm42_1 (by omega) (by omega)) (cwV 2 hts g_EM_most_EM_spot_e rfl rfl rfl (by decide +kernel) ⟨Nat.le_of_ble_eq_true rfl, Nat.le_of_ble_eq_true rfl⟩) ⟨pu_bl, va_recv hK hP (ci := 9) (q0 := 0) rfl rfl, pu_in hP hK hD⟩ rfl rfl hl.1 rfl (lv_room (Nat.le_of_ble_eq_true rfl)) dX9_most_41 ⟨Nat.le_of_ble_eq_true rfl, Nat.le_of_ble_eq_true rfl⟩) hS (fun q _ h => pu_fr hS hA q h) (pu_fr hS hA) (fun r_34 u t H1 locs ht hvm hw hB hz1 hk1 hS => ?_)
        have hP := pu_keep hP hk1
        clear hk1 hz1 ht hvm
        generalize H1 = H at hP hS ⊢
        obtain rfl : r_34 = nI (80 * x16 + 4 * g_4 + g_23) := hw
        refine lv_istore (lv' := [(6, .int (nI (80 * x16 + 4 * g_4 + g_23))), (0, .ref (ad 0)), (1, .int p0), (2, .int p1), (3, .int g_22), (4, .int (nI g_4)), (5, .int (nI g_23))]) hx hb dX9_most_44 hl (by decide) rfl (fun ls hl => ?_)
        refine lv_iload_n hx hb dX9_most_46 rfl (lv_at hl 3 rfl) ?_
        obtain ⟨JR_37, hJR_37, hsp⟩ := slet_ex hsp
        refine pu_join (fun H locs ls st => ∃ (g_35 : Nat), st = [.int (nI g_35)] ∧ g_35 ≤ 1 ∧ g_35 = JR_37 ∧ va_P (dC, dI) vwCl (mo_w ad ck x0 (nI x16) (nI x18) (nI x19) x20 (nI x21) (nI x22) x23 x24 x25 (nI x26) x27 (nI x28) (nI x29) (nI x30) (nI x33) x45 (nI x46) (nI x52) (nI x53) (nI x61) (nI x62) (nI x63) (nI x65) x66 f1 f2 f3 (bN 3 q4) (bN 7 q5) (bN 7 q6) (bN 4 q7) f8 (bN 2 q9) (bH q10) f11 (b2 m12_0 m12_1) (b2 m13_0 m13_1) (b2 m14_0 m14_1) (b2m m15_0 m15_1) f17 (bA 159 q31) f32 f34 f35 f36 f37 (bN 7 q38) f39 f40 f41 (b2 m42_0 m42_1) f43 f44 f47 f48 f49 f50 f51 (bN 13 q54) (bN 120 q55) (bN 120 q56) f57 (bN 120 q58) f59 f60 f64) H ∧ va_D (fun _ => True) (mo_w ad ck x0 (nI x16) (nI x18) (nI x19) x20 (nI x21) (nI x22) x23 x24 x25 (nI x26) x27 (nI x28) (nI x29) (nI x30) (nI x33) x45 (nI x46) (nI x52) (nI x53) (nI x61) (nI x62) (nI x63) (nI x65) x66 f1 f2 f3 (bN 3 q4) (bN 7 q5) (bN 7 q6) (bN 4 q7) f8 (bN 2 q9) (bH q10) f11 (b2 m12_0 m12_1) (b2 m13_0 m13_1) (b2 m14_0 m14_1) (b2m m15_0 m15_1) f17 (bA 159 q31) f32 f34 f35 f36 f37 (bN 7 q38) f39 f40 f41 (b2 m42_0 m42_1) f43 f44 f47 f48 f49 f50 f51 (bN 13 q54) (bN 120 q55) (bN 120 q56) f57 (bN 120 q58) f59 f60 f64) ∧ va_S (va_A [] s.heap.size) s.heap H locs ∧ lv_has ls 8 [(0, .ref (ad 0)), (1, .int p0), (2, .int p1), (3, .int g_22), (4, .int (nI g_4)), (5, .int (nI g_23)), (6, .int (nI (80 * x16 + 4 * g_4 + g_23)))]) 96 ?_ (fun j_36 => ?_)
        · rintro H locs ls st ⟨g_35, rfl, hg_35, he_38, hP, hD, hS, hl⟩
          rw [← he_38] at hsp
          refine lv_istore (lv' := [(7, .int (nI g_35)), (0, .ref (ad 0)), (1, .int p0), (2, .int p1), (3, .int g_22), (4, .int (nI g_4)), (5, .int (nI g_23)), (6, .int (nI (80 * x16 + 4 * g_4 + g_23)))]) hx hb dX9_most_96 hl (by decide) rfl (fun ls hl => ?_)
          refine lv_aload_n hx hb dX9_most_98 rfl (lv_at hl 1 rfl) ?_
          refine va_get (D := (dC, dI)) (ci := 9) (v := .ref (ad 9)) (C := RX9) (T := TX9) (N := 67) hx hb hts hiX9 hown hK hP 0 rfl rfl 9 (by decide) v_13 (fun _ h9 => h9) rfl dX9_most_99 ?_
          refine lv_iload hx hb dX9_most_102 (lv_at hl 7 rfl) ?_
          refine va_iald hx hb hK hP 9 8 rfl rfl (vp_in_nI (n := (80 * x16 + 4 * g_4 + g_23)) (by omega) (Nat.le_of_ble_eq_true rfl)) dX9_most_104 ?_
          refine lv_topi (fun y_39 ey_39 => ?_)
          obtain ⟨u_40, hu_40, qu_40, xu_40⟩ := bN_getx 2 q9 (n := (80 * x16 + 4 * g_4 + g_23)) (by first | omega | exact Nat.lt_trans (zx16 (by omega) (by omega) (by omega)) (Nat.le_of_ble_eq_true rfl) | exact Nat.lt_trans (zy16 (by omega) (by omega)) (Nat.le_of_ble_eq_true rfl) | exact Nat.lt_trans (zx25 (by omega) (by omega) (by omega)) (Nat.le_of_ble_eq_true rfl) | exact Nat.lt_trans (zy25 (by omega) (by omega)) (Nat.le_of_ble_eq_true rfl))
          obtain rfl : y_39 = nI u_40 := ey_39.trans qu_40
          replace hsp := hsp.trans (slet_eq xu_40)
          refine lv_iload_n hx hb dX9_most_105 rfl (lv_at hl 2 rfl) ?_
          obtain ⟨JR_43, hJR_43, hsp⟩ := slet_ex hsp
          refine pu_join (fun H locs ls st => ∃ (g_41 : Int32), st = [.int g_41] ∧ g_41 = JR_43 ∧ va_P (dC, dI) vwCl (mo_w ad ck x0 (nI x16) (nI x18) (nI x19) x20 (nI x21) (nI x22) x23 x24 x25 (nI x26) x27 (nI x28) (nI x29) (nI x30) (nI x33) x45 (nI x46) (nI x52) (nI x53) (nI x61) (nI x62) (nI x63) (nI x65) x66 f1 f2 f3 (bN 3 q4) (bN 7 q5) (bN 7 q6) (bN 4 q7) f8 (bN 2 q9) (bH q10) f11 (b2 m12_0 m12_1) (b2 m13_0 m13_1) (b2 m14_0 m14_1) (b2m m15_0 m15_1) f17 (bA 159 q31) f32 f34 f35 f36 f37 (bN 7 q38) f39 f40 f41 (b2 m42_0 m42_1) f43 f44 f47 f48 f49 f50 f51 (bN 13 q54) (bN 120 q55) (bN 120 q56) f57 (bN 120 q58) f59 f60 f64) H ∧ va_D (fun _ => True) (mo_w ad ck x0 (nI x16) (nI x18) (nI x19) x20 (nI x21) (nI x22) x23 x24 x25 (nI x26) x27 (nI x28) (nI x29) (nI x30) (nI x33) x45 (nI x46) (nI x52) (nI x53) (nI x61) (nI x62) (nI x63) (nI x65) x66 f1 f2 f3 (bN 3 q4) (bN 7 q5) (bN 7 q6) (bN 4 q7) f8 (bN 2 q9) (bH q10) f11 (b2 m12_0 m12_1) (b2 m13_0 m13_1) (b2 m14_0 m14_1) (b2m m15_0 m15_1) f17 (bA 159 q31) f32 f34 f35 f36 f37 (bN 7 q38) f39 f40 f41 (b2 m42_0 m42_1) f43 f44 f47 f48 f49 f50 f51 (bN 13 q54) (bN 120 q55) (bN 120 q56) f57 (bN 120 q58) f59 f60 f64) ∧ va_S (va_A [] s.heap.size) s.heap H locs ∧ lv_has ls 8 [(0, .ref (ad 0)), (1, .int p0), (2, .int p1), (3, .int g_22), (4, .int (nI g_4)), (5, .int (nI g_23)), (6, .int (nI (80 * x16 + 4 * g_4 + g_23))), (7, .int (nI g_35))]) 129 ?_ (fun j_42 => ?_)
          · rintro H locs ls st ⟨g_41, rfl, he_44, hP, hD, hS, hl⟩
            rw [← he_44] at hsp
            refine lv_istore_n (lv' := [(3, .int g_41), (0, .ref (ad 0)), (1, .int p0), (2, .int p1), (4, .int (nI g_4)), (5, .int (nI g_23)), (6, .int (nI (80 * x16 + 4 * g_4 + g_23))), (7, .int (nI g_35))]) hx hb dX9_most_129 rfl hl (by decide) rfl (fun ls hl => ?_)
            refine lv_iinc (v := (nI (g_23 + 1))) (lv' := [(5, .int (nI (g_23 + 1))), (3, .int g_41), (0, .ref (ad 0)), (1, .int p0), (2, .int p1), (4, .int (nI g_4)), (6, .int (nI (80 * x16 + 4 * g_4 + g_23))), (7, .int (nI g_35))]) hx hb dX9_most_130 hl (k := 5) rfl (nI_1 _) (by decide) rfl (fun ls hl => ?_)
            refine lv_goto (tgt := 25) hx hb dX9_most_133 (by decide) ?_
            exact ih_24 (4 - (g_23 + 1)) (by omega) _ _ _ ⟨g_41, (g_23 + 1), rfl, (by omega), hin_28 _ hsp, hP, hD, hS, lv_sub hl [2, 3, 4, 1, 5, 0] rfl⟩
          have hsp := hJR_43
          refine lv_icmp_ne (tgt := 128) hx hb dX9_most_106 (by decide) (fun c_45 => ?_) (fun c_45 => ?_)
          · have hcc_45 := c_45
            replace hsp := hsp.trans (if_neg c_45)
            refine lv_iload_n hx hb dX9_most_128 rfl (lv_at hl 4 rfl) ?_
            exact j_42 _ _ _ _ ⟨g_22, rfl, hsp.symm, hP, hD, hS, lv_sub hl [1, 2, 3, 4, 5, 6, 7, 0] rfl⟩
          · have hcc_45 := c_45
            replace hsp := hsp.trans (if_pos c_45)
            refine lv_iload hx hb dX9_most_109 (lv_at hl 0 rfl) ?_
            refine lv_if_eq (tgt := 128) hx hb dX9_most_111 (by decide) (fun c_46 => ?_) (fun c_46 => ?_)
            · have c_46 : g_35 = 0 := (nI_eq (a := g_35) (b := 0) (Nat.lt_of_le_of_lt hg_35 (Nat.le_of_ble_eq_true rfl)) (Nat.le_of_ble_eq_true rfl)).mp c_46
              replace hsp := hsp.trans (if_pos c_46)
              refine lv_iload_n hx hb dX9_most_128 rfl (lv_at hl 4 rfl) ?_
              exact j_42 _ _ _ _ ⟨g_22, rfl, hsp.symm, hP, hD, hS, lv_sub hl [1, 2, 3, 4, 5, 6, 7, 0] rfl⟩
            · have c_46 : ¬ g_35 = 0 := fun z => c_46 ((nI_eq (a := g_35) (b := 0) (Nat.lt_of_le_of_lt hg_35 (Nat.le_of_ble_eq_true rfl)) (Nat.le_of_ble_eq_true rfl)).mpr z)
              replace hsp := hsp.trans (if_neg c_46)
              refine lv_iload_n hx hb dX9_most_114 rfl (lv_at hl 4 rfl) ?_
              refine lv_aload_n hx hb dX9_most_115 rfl (lv_at hl 1 rfl) ?_
              refine va_get (D := (dC, dI)) (ci := 9) (v := .ref (ad 11)) (C := RX9) (T := TX9) (N := 67) hx hb hts hiX9 hown hK hP 0 rfl rfl 11 (by decide) v_14 (fun _ h9 => h9) rfl dX9_most_116 ?_
              refine lv_iload hx hb dX9_most_119 (lv_at hl 7 rfl) ?_
              refine va_iald hx hb hK hP 11 10 rfl rfl (vp_in_nI (n := (80 * x16 + 4 * g_4 + g_23)) (by omega) (Nat.le_of_ble_eq_true rfl)) dX9_most_121 ?_
              refine lv_topi (fun y_47 ey_47 => ?_)
              have ey_47 : y_47 = f11 (80 * x16 + 4 * g_4 + g_23) := ey_47.trans (congrArg f11 (nI_clamp (n := (80 * x16 + 4 * g_4 + g_23)) (by first | omega | exact Nat.lt_trans (zx16 (by omega) (by omega) (by omega)) (Nat.le_of_ble_eq_true rfl) | exact Nat.lt_trans (zy16 (by omega) (by omega)) (Nat.le_of_ble_eq_true rfl) | exact Nat.lt_trans (zx25 (by omega) (by omega) (by omega)) (Nat.le_of_ble_eq_true rfl) | exact Nat.lt_trans (zy25 (by omega) (by omega)) (Nat.le_of_ble_eq_true rfl))))
              replace hsp := hsp.trans (slet_eq ey_47)
              refine va_calli (va_runS (As := [.int g_22, .int y_47]) (rest := []) ⟨hx, hb, hml, hown, hts⟩ (c_EM_greater l dC dI _ ad ck x0 x16 x18 x19 x20 x21 x22 x23 x24 x25 x26 x27 x28 x29 x30 x33 x45 x46 x52 x53 x61 x62 x63 x65 x66 f1 f2 f3 q4 q5 q6 q7 f8 q9 q10 f11 m12_0 m12_1 m13_0 m13_1 m14_0 m14_1 m15_0 m15_1 f17 q31 f32 f34 f35 f36 f37 q38 f39 f40 f41 m42_0 m42_1 f43 f44 f47 f48 f49 f50 f51 q54 q55 q56 f57 q58 f59 f60 f64 g_22 y_47 hx16 hx18 hx19 hx21 hx22 hx26 hx28 hx29 hx30 hx33 hx46 hx52 hx53 hx61 hx62 hx63 hx65 hm12_0 hm12_1 hm13_0 hm13_1 hm14_0 hm14_1 hm15_0 hm15_1 hm42_0 hm42_1) (va_cwS 2 hts g_EM_most_EM_greater rfl rfl rfl (by decide +kernel) ⟨Nat.le_of_ble_eq_true rfl, Nat.le_of_ble_eq_true rfl⟩) ⟨pu_bl, pu_in hP hK hD⟩ rfl rfl hl.1 rfl (lv_room (Nat.le_of_ble_eq_true rfl)) dX9_most_122 ⟨Nat.le_of_ble_eq_true rfl, Nat.le_of_ble_eq_true rfl⟩) hS (fun q _ h => pu_fr hS hA q h) (pu_fr hS hA) (fun r_48 u t H1 locs ht hvm hw hB hz1 hk1 hS => ?_)
              have hP := pu_keep hP hk1
              clear hk1 hz1 ht hvm
              generalize H1 = H at hP hS ⊢
              have ir_48 := hw
              replace hsp := hsp.trans (slet_eq ir_48)
              refine lv_goto (tgt := 129) hx hb dX9_most_125 (by decide) ?_
              exact j_42 _ _ _ _ ⟨r_48, rfl, hsp.symm, hP, hD, hS, lv_sub hl [1, 2, 3, 4, 5, 6, 7, 0] rfl⟩
        have hsp := hJR_37
        refine lv_if_eq (tgt := 91) hx hb dX9_most_47 (by decide) (fun c_49 => ?_) (fun c_49 => ?_)
        · have hcc_49 := c_49
          replace hsp := hsp.trans (if_pos c_49)
          refine lv_iconst (v := 1) hx hb dX9_most_91 (by decide) ?_
          refine lv_goto (tgt := 96) hx hb dX9_most_92 (by decide) ?_
          exact j_36 _ _ _ _ ⟨1, rfl, (Nat.le_of_ble_eq_true rfl), hsp.symm, hP, hD, hS, lv_sub hl [1, 2, 3, 4, 5, 6, 0] rfl⟩
        · have hcc_49 := c_49
          replace hsp := hsp.trans (if_neg c_49)
          refine lv_aload_n hx hb dX9_most_50 rfl (lv_at hl 1 rfl) ?_
          refine va_get (D := (dC, dI)) (ci := 9) (v := .ref (ad 10)) (C := RX9) (T := TX9) (N := 67) hx hb hts hiX9 hown hK hP 0 rfl rfl 10 (by decide) v_12 (fun _ h9 => h9) rfl dX9_most_51 ?_
          refine lv_iload hx hb dX9_most_54 (lv_at hl 0 rfl) ?_
          refine va_iald hx hb hK hP 10 9 rfl rfl (vp_in_nI (n := (80 * x16 + 4 * g_4 + g_23)) (by omega) (Nat.le_of_ble_eq_true rfl)) dX9_most_56 ?_
          refine lv_topi (fun y_50 ey_50 => ?_)
          obtain ⟨u_51, hu_51, qu_51, xu_51⟩ := bH_getx q10 (i := (80 * x16 + 4 * g_4 + g_23)) (by omega)
          obtain rfl : y_50 = nI u_51 := ey_50.trans qu_51
          replace hsp := hsp.trans (slet_eq xu_51)
          refine lv_iconst (v := 2) hx hb dX9_most_57 (by decide) ?_
          refine lv_icmp_eq (tgt := 91) hx hb dX9_most_58 (by decide) (fun c_52 => ?_) (fun c_52 => ?_)
          · have c_52 : u_51 = 2 := (nI_eq (a := u_51) (b := 2) (by omega) (Nat.le_of_ble_eq_true rfl)).mp c_52
            replace hsp := hsp.trans (if_pos c_52)
            refine lv_iconst (v := 1) hx hb dX9_most_91 (by decide) ?_
            refine lv_goto (tgt := 96) hx hb dX9_most_92 (by decide) ?_
            exact j_36 _ _ _ _ ⟨1, rfl, (Nat.le_of_ble_eq_true rfl), hsp.symm, hP, hD, hS, lv_sub hl [1, 2, 3, 4, 5, 6, 0] rfl⟩
          · have c_52 : ¬ u_51 = 2 := fun z => c_52 ((nI_eq (a := u_51) (b := 2) (by omega) (Nat.le_of_ble_eq_true rfl)).mpr z)
            replace hsp := hsp.trans (if_neg c_52)
            refine lv_iload_n hx hb dX9_most_61 rfl (lv_at hl 3 rfl) ?_
            refine lv_iconst (v := 1) hx hb dX9_most_62 (by decide) ?_
            refine lv_icmp_ne (tgt := 80) hx hb dX9_most_63 (by decide) (fun c_53 => ?_) (fun c_53 => ?_)
            · have hcc_53 := c_53
              replace hsp := hsp.trans (if_neg c_53)
              refine lv_aload_n hx hb dX9_most_80 rfl (lv_at hl 1 rfl) ?_
              refine va_get (D := (dC, dI)) (ci := 9) (v := .ref (ad 10)) (C := RX9) (T := TX9) (N := 67) hx hb hts hiX9 hown hK hP 0 rfl rfl 10 (by decide) v_12 (fun _ h9 => h9) rfl dX9_most_81 ?_
              refine lv_iload hx hb dX9_most_84 (lv_at hl 0 rfl) ?_
              refine va_iald hx hb hK hP 10 9 rfl rfl (vp_in_nI (n := (80 * x16 + 4 * g_4 + g_23)) (by omega) (Nat.le_of_ble_eq_true rfl)) dX9_most_86 ?_
              refine lv_topi (fun y_54 ey_54 => ?_)
              obtain rfl : y_54 = nI u_51 := ey_54.trans qu_51
              refine lv_iconst (v := 2) hx hb dX9_most_87 (by decide) ?_
              refine lv_icmp_ge (tgt := 95) hx hb dX9_most_88 (by decide) (fun c_56 => ?_) (fun c_56 => ?_)
              · have c_56 : 2 ≤ u_51 := (nI_leI (a := 2) (b := u_51) (Nat.le_of_ble_eq_true rfl) (by omega)).mp c_56
                replace hsp := hsp.trans (if_pos c_56)
                refine lv_iconst (v := 0) hx hb dX9_most_95 (by decide) ?_
                exact j_36 _ _ _ _ ⟨0, rfl, (Nat.le_of_ble_eq_true rfl), hsp.symm, hP, hD, hS, lv_sub hl [1, 2, 3, 4, 5, 6, 0] rfl⟩
              · have c_56 : ¬ 2 ≤ u_51 := fun z => c_56 ((nI_leI (a := 2) (b := u_51) (Nat.le_of_ble_eq_true rfl) (by omega)).mpr z)
                replace hsp := hsp.trans (if_neg c_56)
                refine lv_iconst (v := 1) hx hb dX9_most_91 (by decide) ?_
                refine lv_goto (tgt := 96) hx hb dX9_most_92 (by decide) ?_
                exact j_36 _ _ _ _ ⟨1, rfl, (Nat.le_of_ble_eq_true rfl), hsp.symm, hP, hD, hS, lv_sub hl [1, 2, 3, 4, 5, 6, 0] rfl⟩
            · have hcc_53 := c_53
              replace hsp := hsp.trans (if_pos c_53)
              refine lv_aload_n hx hb dX9_most_66 rfl (lv_at hl 1 rfl) ?_
              refine va_get (D := (dC, dI)) (ci := 9) (v := .ref (ad 10)) (C := RX9) (T := TX9) (N := 67) hx hb hts hiX9 hown hK hP 0 rfl rfl 10 (by decide) v_12 (fun _ h9 => h9) rfl dX9_most_67 ?_
              refine lv_iload hx hb dX9_most_70 (lv_at hl 0 rfl) ?_
              refine va_iald hx hb hK hP 10 9 rfl rfl (vp_in_nI (n := (80 * x16 + 4 * g_4 + g_23)) (by omega) (Nat.le_of_ble_eq_true rfl)) dX9_most_72 ?_
              refine lv_topi (fun y_57 ey_57 => ?_)
              obtain rfl : y_57 = nI u_51 := ey_57.trans qu_51
              refine lv_iconst (v := 2) hx hb dX9_most_73 (by decide) ?_
              refine lv_icmp_le (tgt := 95) hx hb dX9_most_74 (by decide) (fun c_59 => ?_) (fun c_59 => ?_)
              · have c_59 : u_51 ≤ 2 := (nI_leI (a := u_51) (b := 2) (by omega) (Nat.le_of_ble_eq_true rfl)).mp c_59
                replace hsp := hsp.trans (if_pos c_59)
                refine lv_iconst (v := 0) hx hb dX9_most_95 (by decide) ?_
                exact j_36 _ _ _ _ ⟨0, rfl, (Nat.le_of_ble_eq_true rfl), hsp.symm, hP, hD, hS, lv_sub hl [1, 2, 3, 4, 5, 6, 0] rfl⟩
              · have c_59 : ¬ u_51 ≤ 2 := fun z => c_59 ((nI_leI (a := u_51) (b := 2) (by omega) (Nat.le_of_ble_eq_true rfl)).mpr z)
                replace hsp := hsp.trans (if_neg c_59)
                refine lv_goto (tgt := 91) hx hb dX9_most_77 (by decide) ?_
                refine lv_iconst (v := 1) hx hb dX9_most_91 (by decide) ?_
                refine lv_goto (tgt := 96) hx hb dX9_most_92 (by decide) ?_
                exact j_36 _ _ _ _ ⟨1, rfl, (Nat.le_of_ble_eq_true rfl), hsp.symm, hP, hD, hS, lv_sub hl [1, 2, 3, 4, 5, 6, 0] rfl⟩
    · obtain rfl : r_30 = nI u_32 := by rw [mu_31, zu_31]; rfl
      replace hsp := hsp.trans (if_neg (by omega))
      replace hsp := hsp.trans (if_neg (by omega))
      replace hsp := hsp.trans (slet_eq (by omega : u_32 = u_31 - 1))
      refine lv_icmp_ge (tgt := 136) hx hb dX9_most_33 (by decide) (fun c_60 => ?_) (fun c_60 => ?_)
      · have c_60 : u_32 ≤ g_23 := (nI_leI (a := u_32) (b := g_23) (by omega) (Nat.lt_of_le_of_lt hg_23 (Nat.le_of_ble_eq_true rfl))).mp c_60
        replace hsp := hsp.trans (if_pos c_60)
        have hsp := hout_29 _ hsp
        exact j_17 _ _ _ _ ⟨g_22, g_23, rfl, hg_23, hsp.symm, hP, hD, hS, lv_sub hl [0, 1, 2, 3, 4, 5] rfl⟩
      · have c_60 : ¬ u_32 ≤ g_23 := fun z => c_60 ((nI_leI (a := u_32) (b := g_23) (by omega) (Nat.lt_of_le_of_lt hg_23 (Nat.le_of_ble_eq_true rfl))).mpr z)
        replace hsp := hsp.trans (if_neg c_60)
        refine lv_aload_n hx hb dX9_most_36 rfl (lv_at hl 0 rfl) ?_
        refine lv_iload hx hb dX9_most_37 (lv_at hl 4 rfl) ?_
        refine lv_iload hx hb dX9_most_39 (lv_at hl 5 rfl) ?_
        refine va_calli (va_runV (As := [.int (nI g_4), .int (nI g_23)]) (rest := []) ⟨hx, hb, hml, hown, hts⟩ (c_EM_spot_p l dC dI _ ad ck x0 x16 x18 x19 x20 x21 x22 x23 x24 x25 x26 x27 x28 x29 x30 x33 x45 x46 x52 x53 x61 x62 x63 x65 x66 f1 f2 f3 q4 q5 q6 q7 f8 q9 q10 f11 m12_0 m12_1 m13_0 m13_1 m14_0 m14_1 m15_0 m15_1 f17 q31 f32 f34 f35 f36 f37 q38 f39 f40 f41 m42_0 m42_1 f43 f44 f47 f48 f49 f50 f51 q54 q55 q56 f57 q58 f59 f60 f64 g_4 g_23 hx16 hx18 hx19 hx21 hx22 hx26 hx28 hx29 hx30 hx33 hx46 hx52 hx53 hx61 hx62 hx63 hx65 hm12_0 hm12_1 hm13_0 hm13_1 hm14_0 hm14_1 hm15_0 hm15_1 hm42_0 hm42_1 (by omega) (by omega) (by omega)) (cwV 2 hts g_EM_most_EM_spot_p rfl rfl rfl (by decide +kernel) ⟨Nat.le_of_ble_eq_true rfl, Nat.le_of_ble_eq_true rfl⟩) ⟨pu_bl, va_recv hK hP (ci := 9) (q0 := 0) rfl rfl, pu_in hP hK hD⟩ rfl rfl hl.1 rfl (lv_room (Nat.le_of_ble_eq_true rfl)) dX9_most_41 ⟨Nat.le_of_ble_eq_true rfl, Nat.le_of_ble_eq_true rfl⟩) hS (fun q _ h => pu_fr hS hA q h) (pu_fr hS hA) (fun r_61 u t H1 locs ht hvm hw hB hz1 hk1 hS => ?_)
        have hP := pu_keep hP hk1
        clear hk1 hz1 ht hvm
        generalize H1 = H at hP hS ⊢
        obtain rfl : r_61 = nI (80 * x16 + (56 + 3 * (g_4 - 100)) + g_23) := hw
        refine lv_istore (lv' := [(6, .int (nI (80 * x16 + (56 + 3 * (g_4 - 100)) + g_23))), (0, .ref (ad 0)), (1, .int p0), (2, .int p1), (3, .int g_22), (4, .int (nI g_4)), (5, .int (nI g_23))]) hx hb dX9_most_44 hl (by decide) rfl (fun ls hl => ?_)
        refine lv_iload_n hx hb dX9_most_46 rfl (lv_at hl 3 rfl) ?_
        obtain ⟨JR_64, hJR_64, hsp⟩ := slet_ex hsp
        refine pu_join (fun H locs ls st => ∃ (g_62 : Nat), st = [.int (nI g_62)] ∧ g_62 ≤ 1 ∧ g_62 = JR_64 ∧ va_P (dC, dI) vwCl (mo_w ad ck x0 (nI x16) (nI x18) (nI x19) x20 (nI x21) (nI x22) x23 x24 x25 (nI x26) x27 (nI x28) (nI x29) (nI x30) (nI x33) x45 (nI x46) (nI x52) (nI x53) (nI x61) (nI x62) (nI x63) (nI x65) x66 f1 f2 f3 (bN 3 q4) (bN 7 q5) (bN 7 q6) (bN 4 q7) f8 (bN 2 q9) (bH q10) f11 (b2 m12_0 m12_1) (b2 m13_0 m13_1) (b2 m14_0 m14_1) (b2m m15_0 m15_1) f17 (bA 159 q31) f32 f34 f35 f36 f37 (bN 7 q38) f39 f40 f41 (b2 m42_0 m42_1) f43 f44 f47 f48 f49 f50 f51 (bN 13 q54) (bN 120 q55) (bN 120 q56) f57 (bN 120 q58) f59 f60 f64) H ∧ va_D (fun _ => True) (mo_w ad ck x0 (nI x16) (nI x18) (nI x19) x20 (nI x21) (nI x22) x23 x24 x25 (nI x26) x27 (nI x28) (nI x29) (nI x30) (nI x33) x45 (nI x46) (nI x52) (nI x53) (nI x61) (nI x62) (nI x63) (nI x65) x66 f1 f2 f3 (bN 3 q4) (bN 7 q5) (bN 7 q6) (bN 4 q7) f8 (bN 2 q9) (bH q10) f11 (b2 m12_0 m12_1) (b2 m13_0 m13_1) (b2 m14_0 m14_1) (b2m m15_0 m15_1) f17 (bA 159 q31) f32 f34 f35 f36 f37 (bN 7 q38) f39 f40 f41 (b2 m42_0 m42_1) f43 f44 f47 f48 f49 f50 f51 (bN 13 q54) (bN 120 q55) (bN 120 q56) f57 (bN 120 q58) f59 f60 f64) ∧ va_S (va_A [] s.heap.size) s.heap H locs ∧ lv_has ls 8 [(0, .ref (ad 0)), (1, .int p0), (2, .int p1), (3, .int g_22), (4, .int (nI g_4)), (5, .int (nI g_23)), (6, .int (nI (80 * x16 + (56 + 3 * (g_4 - 100)) + g_23)))]) 96 ?_ (fun j_63 => ?_)
        · rintro H locs ls st ⟨g_62, rfl, hg_62, he_65, hP, hD, hS, hl⟩
          rw [← he_65] at hsp
          refine lv_istore (lv' := [(7, .int (nI g_62)), (0, .ref (ad 0)), (1, .int p0), (2, .int p1), (3, .int g_22), (4, .int (nI g_4)), (5, .int (nI g_23)), (6, .int (nI (80 * x16 + (56 + 3 * (g_4 - 100)) + g_23)))]) hx hb dX9_most_96 hl (by decide) rfl (fun ls hl => ?_)
          refine lv_aload_n hx hb dX9_most_98 rfl (lv_at hl 1 rfl) ?_
          refine va_get (D := (dC, dI)) (ci := 9) (v := .ref (ad 9)) (C := RX9) (T := TX9) (N := 67) hx hb hts hiX9 hown hK hP 0 rfl rfl 9 (by decide) v_13 (fun _ h9 => h9) rfl dX9_most_99 ?_
          refine lv_iload hx hb dX9_most_102 (lv_at hl 7 rfl) ?_
          refine va_iald hx hb hK hP 9 8 rfl rfl (vp_in_nI (n := (80 * x16 + (56 + 3 * (g_4 - 100)) + g_23)) (by omega) (Nat.le_of_ble_eq_true rfl)) dX9_most_104 ?_
          refine lv_topi (fun y_66 ey_66 => ?_)
          obtain ⟨u_67, hu_67, qu_67, xu_67⟩ := bN_getx 2 q9 (n := (80 * x16 + (56 + 3 * (g_4 - 100)) + g_23)) (by first | omega | exact Nat.lt_trans (zx16 (by omega) (by omega) (by omega)) (Nat.le_of_ble_eq_true rfl) | exact Nat.lt_trans (zy16 (by omega) (by omega)) (Nat.le_of_ble_eq_true rfl) | exact Nat.lt_trans (zx25 (by omega) (by omega) (by omega)) (Nat.le_of_ble_eq_true rfl) | exact Nat.lt_trans (zy25 (by omega) (by omega)) (Nat.le_of_ble_eq_true rfl))
          obtain rfl : y_66 = nI u_67 := ey_66.trans qu_67
          replace hsp := hsp.trans (slet_eq xu_67)
          refine lv_iload_n hx hb dX9_most_105 rfl (lv_at hl 2 rfl) ?_
          obtain ⟨JR_70, hJR_70, hsp⟩ := slet_ex hsp
          refine pu_join (fun H locs ls st => ∃ (g_68 : Int32), st = [.int g_68] ∧ g_68 = JR_70 ∧ va_P (dC, dI) vwCl (mo_w ad ck x0 (nI x16) (nI x18) (nI x19) x20 (nI x21) (nI x22) x23 x24 x25 (nI x26) x27 (nI x28) (nI x29) (nI x30) (nI x33) x45 (nI x46) (nI x52) (nI x53) (nI x61) (nI x62) (nI x63) (nI x65) x66 f1 f2 f3 (bN 3 q4) (bN 7 q5) (bN 7 q6) (bN 4 q7) f8 (bN 2 q9) (bH q10) f11 (b2 m12_0 m12_1) (b2 m13_0 m13_1) (b2 m14_0 m14_1) (b2m m15_0 m15_1) f17 (bA 159 q31) f32 f34 f35 f36 f37 (bN 7 q38) f39 f40 f41 (b2 m42_0 m42_1) f43 f44 f47 f48 f49 f50 f51 (bN 13 q54) (bN 120 q55) (bN 120 q56) f57 (bN 120 q58) f59 f60 f64) H ∧ va_D (fun _ => True) (mo_w ad ck x0 (nI x16) (nI x18) (nI x19) x20 (nI x21) (nI x22) x23 x24 x25 (nI x26) x27 (nI x28) (nI x29) (nI x30) (nI x33) x45 (nI x46) (nI x52) (nI x53) (nI x61) (nI x62) (nI x63) (nI x65) x66 f1 f2 f3 (bN 3 q4) (bN 7 q5) (bN 7 q6) (bN 4 q7) f8 (bN 2 q9) (bH q10) f11 (b2 m12_0 m12_1) (b2 m13_0 m13_1) (b2 m14_0 m14_1) (b2m m15_0 m15_1) f17 (bA 159 q31) f32 f34 f35 f36 f37 (bN 7 q38) f39 f40 f41 (b2 m42_0 m42_1) f43 f44 f47 f48 f49 f50 f51 (bN 13 q54) (bN 120 q55) (bN 120 q56) f57 (bN 120 q58) f59 f60 f64) ∧ va_S (va_A [] s.heap.size) s.heap H locs ∧ lv_has ls 8 [(0, .ref (ad 0)), (1, .int p0), (2, .int p1), (3, .int g_22), (4, .int (nI g_4)), (5, .int (nI g_23)), (6, .int (nI (80 * x16 + (56 + 3 * (g_4 - 100)) + g_23))), (7, .int (nI g_62))]) 129 ?_ (fun j_69 => ?_)
          · rintro H locs ls st ⟨g_68, rfl, he_71, hP, hD, hS, hl⟩
            rw [← he_71] at hsp
            refine lv_istore_n (lv' := [(3, .int g_68), (0, .ref (ad 0)), (1, .int p0), (2, .int p1), (4, .int (nI g_4)), (5, .int (nI g_23)), (6, .int (nI (80 * x16 + (56 + 3 * (g_4 - 100)) + g_23))), (7, .int (nI g_62))]) hx hb dX9_most_129 rfl hl (by decide) rfl (fun ls hl => ?_)
            refine lv_iinc (v := (nI (g_23 + 1))) (lv' := [(5, .int (nI (g_23 + 1))), (3, .int g_68), (0, .ref (ad 0)), (1, .int p0), (2, .int p1), (4, .int (nI g_4)), (6, .int (nI (80 * x16 + (56 + 3 * (g_4 - 100)) + g_23))), (7, .int (nI g_62))]) hx hb dX9_most_130 hl (k := 5) rfl (nI_1 _) (by decide) rfl (fun ls hl => ?_)
            refine lv_goto (tgt := 25) hx hb dX9_most_133 (by decide) ?_
            exact ih_24 (4 - (g_23 + 1)) (by omega) _ _ _ ⟨g_68, (g_23 + 1), rfl, (by omega), hin_28 _ hsp, hP, hD, hS, lv_sub hl [2, 3, 4, 1, 5, 0] rfl⟩
          have hsp := hJR_70
          refine lv_icmp_ne (tgt := 128) hx hb dX9_most_106 (by decide) (fun c_72 => ?_) (fun c_72 => ?_)
          · have hcc_72 := c_72
            replace hsp := hsp.trans (if_neg c_72)
            refine lv_iload_n hx hb dX9_most_128 rfl (lv_at hl 4 rfl) ?_
            exact j_69 _ _ _ _ ⟨g_22, rfl, hsp.symm, hP, hD, hS, lv_sub hl [1, 2, 3, 4, 5, 6, 7, 0] rfl⟩
          · have hcc_72 := c_72
            replace hsp := hsp.trans (if_pos c_72)
            refine lv_iload hx hb dX9_most_109 (lv_at hl 0 rfl) ?_
            refine lv_if_eq (tgt := 128) hx hb dX9_most_111 (by decide) (fun c_73 => ?_) (fun c_73 => ?_)
            · have c_73 : g_62 = 0 := (nI_eq (a := g_62) (b := 0) (Nat.lt_of_le_of_lt hg_62 (Nat.le_of_ble_eq_true rfl)) (Nat.le_of_ble_eq_true rfl)).mp c_73
              replace hsp := hsp.trans (if_pos c_73)
              refine lv_iload_n hx hb dX9_most_128 rfl (lv_at hl 4 rfl) ?_
              exact j_69 _ _ _ _ ⟨g_22, rfl, hsp.symm, hP, hD, hS, lv_sub hl [1, 2, 3, 4, 5, 6, 7, 0] rfl⟩
            · have c_73 : ¬ g_62 = 0 := fun z => c_73 ((nI_eq (a := g_62) (b := 0) (Nat.lt_of_le_of_lt hg_62 (Nat.le_of_ble_eq_true rfl)) (Nat.le_of_ble_eq_true rfl)).mpr z)
              replace hsp := hsp.trans (if_neg c_73)
              refine lv_iload_n hx hb dX9_most_114 rfl (lv_at hl 4 rfl) ?_
              refine lv_aload_n hx hb dX9_most_115 rfl (lv_at hl 1 rfl) ?_
              refine va_get (D := (dC, dI)) (ci := 9) (v := .ref (ad 11)) (C := RX9) (T := TX9) (N := 67) hx hb hts hiX9 hown hK hP 0 rfl rfl 11 (by decide) v_14 (fun _ h9 => h9) rfl dX9_most_116 ?_
              refine lv_iload hx hb dX9_most_119 (lv_at hl 7 rfl) ?_
              refine va_iald hx hb hK hP 11 10 rfl rfl (vp_in_nI (n := (80 * x16 + (56 + 3 * (g_4 - 100)) + g_23)) (by omega) (Nat.le_of_ble_eq_true rfl)) dX9_most_121 ?_
              refine lv_topi (fun y_74 ey_74 => ?_)
              have ey_74 : y_74 = f11 (80 * x16 + (56 + 3 * (g_4 - 100)) + g_23) := ey_74.trans (congrArg f11 (nI_clamp (n := (80 * x16 + (56 + 3 * (g_4 - 100)) + g_23)) (by first | omega | exact Nat.lt_trans (zx16 (by omega) (by omega) (by omega)) (Nat.le_of_ble_eq_true rfl) | exact Nat.lt_trans (zy16 (by omega) (by omega)) (Nat.le_of_ble_eq_true rfl) | exact Nat.lt_trans (zx25 (by omega) (by omega) (by omega)) (Nat.le_of_ble_eq_true rfl) | exact Nat.lt_trans (zy25 (by omega) (by omega)) (Nat.le_of_ble_eq_true rfl))))
              replace hsp := hsp.trans (slet_eq ey_74)
              refine va_calli (va_runS (As := [.int g_22, .int y_74]) (rest := []) ⟨hx, hb, hml, hown, hts⟩ (c_EM_greater l dC dI _ ad ck x0 x16 x18 x19 x20 x21 x22 x23 x24 x25 x26 x27 x28 x29 x30 x33 x45 x46 x52 x53 x61 x62 x63 x65 x66 f1 f2 f3 q4 q5 q6 q7 f8 q9 q10 f11 m12_0 m12_1 m13_0 m13_1 m14_0 m14_1 m15_0 m15_1 f17 q31 f32 f34 f35 f36 f37 q38 f39 f40 f41 m42_0 m42_1 f43 f44 f47 f48 f49 f50 f51 q54 q55 q56 f57 q58 f59 f60 f64 g_22 y_74 hx16 hx18 hx19 hx21 hx22 hx26 hx28 hx29 hx30 hx33 hx46 hx52 hx53 hx61 hx62 hx63 hx65 hm12_0 hm12_1 hm13_0 hm13_1 hm14_0 hm14_1 hm15_0 hm15_1 hm42_0 hm42_1) (va_cwS 2 hts g_EM_most_EM_greater rfl rfl rfl (by decide +kernel) ⟨Nat.le_of_ble_eq_true rfl, Nat.le_of_ble_eq_true rfl⟩) ⟨pu_bl, pu_in hP hK hD⟩ rfl rfl hl.1 rfl (lv_room (Nat.le_of_ble_eq_true rfl)) dX9_most_122 ⟨Nat.le_of_ble_eq_true rfl, Nat.le_of_ble_eq_true rfl⟩) hS (fun q _ h => pu_fr hS hA q h) (pu_fr hS hA) (fun r_75 u t H1 locs ht hvm hw hB hz1 hk1 hS => ?_)
              have hP := pu_keep hP hk1
              clear hk1 hz1 ht hvm
              generalize H1 = H at hP hS ⊢
              have ir_75 := hw
              replace hsp := hsp.trans (slet_eq ir_75)
              refine lv_goto (tgt := 129) hx hb dX9_most_125 (by decide) ?_
              exact j_69 _ _ _ _ ⟨r_75, rfl, hsp.symm, hP, hD, hS, lv_sub hl [1, 2, 3, 4, 5, 6, 7, 0] rfl⟩
        have hsp := hJR_64
        refine lv_if_eq (tgt := 91) hx hb dX9_most_47 (by decide) (fun c_76 => ?_) (fun c_76 => ?_)
        · have hcc_76 := c_76
          replace hsp := hsp.trans (if_pos c_76)
          refine lv_iconst (v := 1) hx hb dX9_most_91 (by decide) ?_
          refine lv_goto (tgt := 96) hx hb dX9_most_92 (by decide) ?_
          exact j_63 _ _ _ _ ⟨1, rfl, (Nat.le_of_ble_eq_true rfl), hsp.symm, hP, hD, hS, lv_sub hl [1, 2, 3, 4, 5, 6, 0] rfl⟩
        · have hcc_76 := c_76
          replace hsp := hsp.trans (if_neg c_76)
          refine lv_aload_n hx hb dX9_most_50 rfl (lv_at hl 1 rfl) ?_
          refine va_get (D := (dC, dI)) (ci := 9) (v := .ref (ad 10)) (C := RX9) (T := TX9) (N := 67) hx hb hts hiX9 hown hK hP 0 rfl rfl 10 (by decide) v_12 (fun _ h9 => h9) rfl dX9_most_51 ?_
          refine lv_iload hx hb dX9_most_54 (lv_at hl 0 rfl) ?_
          refine va_iald hx hb hK hP 10 9 rfl rfl (vp_in_nI (n := (80 * x16 + (56 + 3 * (g_4 - 100)) + g_23)) (by omega) (Nat.le_of_ble_eq_true rfl)) dX9_most_56 ?_
          refine lv_topi (fun y_77 ey_77 => ?_)
          obtain ⟨u_78, hu_78, qu_78, xu_78⟩ := bH_getx q10 (i := (80 * x16 + (56 + 3 * (g_4 - 100)) + g_23)) (by omega)
          obtain rfl : y_77 = nI u_78 := ey_77.trans qu_78
          replace hsp := hsp.trans (slet_eq xu_78)
          refine lv_iconst (v := 2) hx hb dX9_most_57 (by decide) ?_
          refine lv_icmp_eq (tgt := 91) hx hb dX9_most_58 (by decide) (fun c_79 => ?_) (fun c_79 => ?_)
          · have c_79 : u_78 = 2 := (nI_eq (a := u_78) (b := 2) (by omega) (Nat.le_of_ble_eq_true rfl)).mp c_79
            replace hsp := hsp.trans (if_pos c_79)
            refine lv_iconst (v := 1) hx hb dX9_most_91 (by decide) ?_
            refine lv_goto (tgt := 96) hx hb dX9_most_92 (by decide) ?_
            exact j_63 _ _ _ _ ⟨1, rfl, (Nat.le_of_ble_eq_true rfl), hsp.symm, hP, hD, hS, lv_sub hl [1, 2, 3, 4, 5, 6, 0] rfl⟩
          · have c_79 : ¬ u_78 = 2 := fun z => c_79 ((nI_eq (a := u_78) (b := 2) (by omega) (Nat.le_of_ble_eq_true rfl)).mpr z)
            replace hsp := hsp.trans (if_neg c_79)
            refine lv_iload_n hx hb dX9_most_61 rfl (lv_at hl 3 rfl) ?_
            refine lv_iconst (v := 1) hx hb dX9_most_62 (by decide) ?_
            refine lv_icmp_ne (tgt := 80) hx hb dX9_most_63 (by decide) (fun c_80 => ?_) (fun c_80 => ?_)
            · have hcc_80 := c_80
              replace hsp := hsp.trans (if_neg c_80)
              refine lv_aload_n hx hb dX9_most_80 rfl (lv_at hl 1 rfl) ?_
              refine va_get (D := (dC, dI)) (ci := 9) (v := .ref (ad 10)) (C := RX9) (T := TX9) (N := 67) hx hb hts hiX9 hown hK hP 0 rfl rfl 10 (by decide) v_12 (fun _ h9 => h9) rfl dX9_most_81 ?_
              refine lv_iload hx hb dX9_most_84 (lv_at hl 0 rfl) ?_
              refine va_iald hx hb hK hP 10 9 rfl rfl (vp_in_nI (n := (80 * x16 + (56 + 3 * (g_4 - 100)) + g_23)) (by omega) (Nat.le_of_ble_eq_true rfl)) dX9_most_86 ?_
              refine lv_topi (fun y_81 ey_81 => ?_)
              obtain rfl : y_81 = nI u_78 := ey_81.trans qu_78
              refine lv_iconst (v := 2) hx hb dX9_most_87 (by decide) ?_
              refine lv_icmp_ge (tgt := 95) hx hb dX9_most_88 (by decide) (fun c_83 => ?_) (fun c_83 => ?_)
              · have c_83 : 2 ≤ u_78 := (nI_leI (a := 2) (b := u_78) (Nat.le_of_ble_eq_true rfl) (by omega)).mp c_83
                replace hsp := hsp.trans (if_pos c_83)
                refine lv_iconst (v := 0) hx hb dX9_most_95 (by decide) ?_
                exact j_63 _ _ _ _ ⟨0, rfl, (Nat.le_of_ble_eq_true rfl), hsp.symm, hP, hD, hS, lv_sub hl [1, 2, 3, 4, 5, 6, 0] rfl⟩
              · have c_83 : ¬ 2 ≤ u_78 := fun z => c_83 ((nI_leI (a := 2) (b := u_78) (Nat.le_of_ble_eq_true rfl) (by omega)).mpr z)
                replace hsp := hsp.trans (if_neg c_83)
                refine lv_iconst (v := 1) hx hb dX9_most_91 (by decide) ?_
                refine lv_goto (tgt := 96) hx hb dX9_most_92 (by decide) ?_
                exact j_63 _ _ _ _ ⟨1, rfl, (Nat.le_of_ble_eq_true rfl), hsp.symm, hP, hD, hS, lv_sub hl [1, 2, 3, 4, 5, 6, 0] rfl⟩
            · have hcc_80 := c_80
              replace hsp := hsp.trans (if_pos c_80)
              refine lv_aload_n hx hb dX9_most_66 rfl (lv_at hl 1 rfl) ?_
              refine va_get (D := (dC, dI)) (ci := 9) (v := .ref (ad 10)) (C := RX9) (T := TX9) (N := 67) hx hb hts hiX9 hown hK hP 0 rfl rfl 10 (by decide) v_12 (fun _ h9 => h9) rfl dX9_most_67 ?_
              refine lv_iload hx hb dX9_most_70 (lv_at hl 0 rfl) ?_
              refine va_iald hx hb hK hP 10 9 rfl rfl (vp_in_nI (n := (80 * x16 + (56 + 3 * (g_4 - 100)) + g_23)) (by omega) (Nat.le_of_ble_eq_true rfl)) dX9_most_72 ?_
              refine lv_topi (fun y_84 ey_84 => ?_)
              obtain rfl : y_84 = nI u_78 := ey_84.trans qu_78
              refine lv_iconst (v := 2) hx hb dX9_most_73 (by decide) ?_
              refine lv_icmp_le (tgt := 95) hx hb dX9_most_74 (by decide) (fun c_86 => ?_) (fun c_86 => ?_)
              · have c_86 : u_78 ≤ 2 := (nI_leI (a := u_78) (b := 2) (by omega) (Nat.le_of_ble_eq_true rfl)).mp c_86
                replace hsp := hsp.trans (if_pos c_86)
                refine lv_iconst (v := 0) hx hb dX9_most_95 (by decide) ?_
                exact j_63 _ _ _ _ ⟨0, rfl, (Nat.le_of_ble_eq_true rfl), hsp.symm, hP, hD, hS, lv_sub hl [1, 2, 3, 4, 5, 6, 0] rfl⟩
              · have c_86 : ¬ u_78 ≤ 2 := fun z => c_86 ((nI_leI (a := u_78) (b := 2) (by omega) (Nat.le_of_ble_eq_true rfl)).mpr z)
                replace hsp := hsp.trans (if_neg c_86)
                refine lv_goto (tgt := 91) hx hb dX9_most_77 (by decide) ?_
                refine lv_iconst (v := 1) hx hb dX9_most_91 (by decide) ?_
                refine lv_goto (tgt := 96) hx hb dX9_most_92 (by decide) ?_
                exact j_63 _ _ _ _ ⟨1, rfl, (Nat.le_of_ble_eq_true rfl), hsp.symm, hP, hD, hS, lv_sub hl [1, 2, 3, 4, 5, 6, 0] rfl⟩
theorem dX9_limit_0 : decode cX9_limit 0 = .ok (.aload_n 0, 1) := by decide +kernel
theorem dX9_limit_1 : decode cX9_limit 1 = .ok (.iconst 0, 1) := by decide +kernel
theorem dX9_limit_2 : decode cX9_limit 2 = .ok (.putfield 142, 3) := by decide +kernel
theorem dX9_limit_5 : decode cX9_limit 5 = .ok (.aload_n 0, 1) := by decide +kernel
theorem dX9_limit_6 : decode cX9_limit 6 = .ok (.iload_n 1, 1) := by decide +kernel
theorem dX9_limit_7 : decode cX9_limit 7 = .ok (.invokevirtual 314, 3) := by decide +kernel
theorem dX9_limit_10 : decode cX9_limit 10 = .ok (.ifCond .eq 21, 3) := by decide +kernel
theorem dX9_limit_13 : decode cX9_limit 13 = .ok (.iload_n 2, 1) := by decide +kernel
theorem dX9_limit_14 : decode cX9_limit 14 = .ok (.iconst 0, 1) := by decide +kernel
theorem dX9_limit_15 : decode cX9_limit 15 = .ok (.iconst 2, 1) := by decide +kernel
theorem dX9_limit_16 : decode cX9_limit 16 = .ok (.invokestatic 152, 3) := by decide +kernel
theorem dX9_limit_19 : decode cX9_limit 19 = .ok (.ifCond .eq 12, 3) := by decide +kernel
theorem dX9_limit_22 : decode cX9_limit 22 = .ok (.aload_n 0, 1) := by decide +kernel
theorem dX9_limit_23 : decode cX9_limit 23 = .ok (.iload_n 1, 1) := by decide +kernel
theorem dX9_limit_24 : decode cX9_limit 24 = .ok (.iload_n 2, 1) := by decide +kernel
theorem dX9_limit_25 : decode cX9_limit 25 = .ok (.invokevirtual 317, 3) := by decide +kernel
theorem dX9_limit_28 : decode cX9_limit 28 = .ok (.goto 4, 3) := by decide +kernel
theorem dX9_limit_31 : decode cX9_limit 31 = .ok (.iconst (-1), 1) := by decide +kernel
theorem dX9_limit_32 : decode cX9_limit 32 = .ok (.ireturn, 1) := by decide +kernel
abbrev vs_EM_limit : List Cond := .code yX9_limit cX9_limit 3 (some .int) :: VM
theorem g_EM_limit_X9_in : GoodIn vs_EM_limit (va_wsS RX9 152 yX9_in vs_X9_in) := gm_0 (fun w h => by
  rcases List.mem_cons.mp h with rfl | h
  · exact vm_137
  rcases List.mem_cons.mp h with rfl | h
  · exact vm_138
  rcases List.mem_cons.mp h with rfl | h
  · exact vm_19
  rcases List.mem_cons.mp h with rfl | h
  · exact vm_139
  exact absurd h (List.not_mem_nil))
theorem g_EM_limit_EM_isClock : GoodIn vs_EM_limit (wsV RX9 314 RX9 yX9_isClock vs_EM_isClock) := gm_V vm_175 vm_176 vm_177 vm_19 vm_178
theorem g_EM_limit_EM_most : GoodIn vs_EM_limit (wsV RX9 317 RX9 yX9_most vs_EM_most) := gm_V vm_179 vm_180 vm_181 vm_19 vm_182
noncomputable def sp_EM_limit (x16 : Nat) (q4 : Nat → Nat) (q7 : Nat → Nat) (q9 : Nat → Nat) (q10 : Nat → Nat) (f11 : Nat → Int32) (m12_0 : Nat) (m12_1 : Nat) (m13_0 : Nat) (m13_1 : Nat) (m14_0 : Nat) (m14_1 : Nat) (p0 : Int32) (p1 : Int32) : Int32 × Int32 := (if (0 : Int32) ≤ p0 ∧ p0 < nI (bkN x16 m12_0 m12_1) then (slet ((p0 : Int32).toNatClampNeg) (fun n_2 => (if (0 : Int32) ≤ p1 ∧ p1 ≤ 2 then (slet ((p1 : Int32).toNatClampNeg) (fun n_4 => (slet (sp_EM_most x16 q4 q7 q9 q10 f11 m13_0 m13_1 m14_0 m14_1 (nI n_2) (nI n_4)) (fun r_5 => (r_5, 0))))) else ((-1), 0)))) else ((-1), 0))
set_option maxHeartbeats 4000000 in
set_option maxRecDepth 100000 in
theorem c_EM_limit (l : Launch) (dC : Nat → ClassId) (dI : Nat → Nat → Nat) (sz : Nat) (ad : Nat → Nat) (ck : Nat → ClassId) (x0 : Int32) (x16 : Nat) (x18 : Nat) (x19 : Nat) (x20 : Int32) (x21 : Nat) (x22 : Nat) (x23 : Int32) (x24 : Int32) (x25 : Int32) (x26 : Nat) (x27 : Int32) (x28 : Nat) (x29 : Nat) (x30 : Nat) (x33 : Nat) (x45 : Int32) (x46 : Nat) (x52 : Nat) (x53 : Nat) (x61 : Nat) (x62 : Nat) (x63 : Nat) (x65 : Nat) (x66 : Int32) (f1 : Nat → Int32) (f2 : Nat → Int32) (f3 : Nat → Int32) (q4 : Nat → Nat) (q5 : Nat → Nat) (q6 : Nat → Nat) (q7 : Nat → Nat) (f8 : Nat → Int32) (q9 : Nat → Nat) (q10 : Nat → Nat) (f11 : Nat → Int32) (m12_0 m12_1 : Nat) (m13_0 m13_1 : Nat) (m14_0 m14_1 : Nat) (m15_0 m15_1 : Nat) (f17 : Nat → Int32) (q31 : Nat → Nat) (f32 : Nat → Int32) (f34 : Nat → Int32) (f35 : Nat → Int32) (f36 : Nat → Int32) (f37 : Nat → Int32) (q38 : Nat → Nat) (f39 : Nat → Int32) (f40 : Nat → Int32) (f41 : Nat → Int32) (m42_0 m42_1 : Nat) (f43 : Nat → Int32) (f44 : Nat → Int32) (f47 : Nat → Int32) (f48 : Nat → Int32) (f49 : Nat → Int32) (f50 : Nat → Int32) (f51 : Nat → Int32) (q54 : Nat → Nat) (q55 : Nat → Nat) (q56 : Nat → Nat) (f57 : Nat → Int32) (q58 : Nat → Nat) (f59 : Nat → Int32) (f60 : Nat → Int32) (f64 : Nat → Int32) (p0 : Int32) (p1 : Int32) (hx16 : x16 ≤ 1) (hx18 : x18 ≤ 900) (hx19 : x19 ≤ 900) (hx21 : x21 ≤ 900) (hx22 : x22 ≤ 4) (hx26 : x26 ≤ 6) (hx28 : x28 ≤ 1) (hx29 : x29 ≤ 1) (hx30 : x30 ≤ 1) (hx33 : x33 ≤ 20) (hx46 : x46 ≤ 5) (hx52 : x52 ≤ 2400) (hx53 : x53 ≤ 119) (hx61 : x61 ≤ 119) (hx62 : x62 ≤ 2000) (hx63 : x63 ≤ 1) (hx65 : x65 ≤ 7) (hm12_0 : m12_0 ≤ 3) (hm12_1 : m12_1 ≤ 3) (hm13_0 : m13_0 ≤ 8) (hm13_1 : m13_1 ≤ 8) (hm14_0 : m14_0 ≤ 14) (hm14_1 : m14_1 ≤ 14) (hm15_0 : m15_0 ≤ 8) (hm15_1 : m15_1 ≤ 8) (hm42_0 : m42_0 ≤ 120) (hm42_1 : m42_1 ≤ 400) : Met l yX9_limit vs_EM_limit ({ frames := 4, cells := 0, slots := 0, locals := 91 }) (va_Pc [.ref (ad 0), .int p0, .int p1] (pu_B (dC, dI) (mo_w ad ck x0 (nI x16) (nI x18) (nI x19) x20 (nI x21) (nI x22) x23 x24 x25 (nI x26) x27 (nI x28) (nI x29) (nI x30) (nI x33) x45 (nI x46) (nI x52) (nI x53) (nI x61) (nI x62) (nI x63) (nI x65) x66 f1 f2 f3 (bN 3 q4) (bN 7 q5) (bN 7 q6) (bN 4 q7) f8 (bN 2 q9) (bH q10) f11 (b2 m12_0 m12_1) (b2 m13_0 m13_1) (b2 m14_0 m14_1) (b2m m15_0 m15_1) f17 (bA 159 q31) f32 f34 f35 f36 f37 (bN 7 q38) f39 f40 f41 (b2 m42_0 m42_1) f43 f44 f47 f48 f49 f50 f51 (bN 13 q54) (bN 120 q55) (bN 120 q56) f57 (bN 120 q58) f59 f60 f64) (mo_t ck) sz)) (va_Qi (fun (r : Int32) (_ : Unit) => r = (sp_EM_limit x16 q4 q7 q9 q10 f11 m12_0 m12_1 m13_0 m13_1 m14_0 m14_1 p0 p1).1) (fun _ t => ∃ (z0 : Int32), pu_E (dC, dI) (mo_w ad ck z0 (nI x16) (nI x18) (nI x19) x20 (nI x21) (nI x22) x23 x24 x25 (nI x26) x27 (nI x28) (nI x29) (nI x30) (nI x33) x45 (nI x46) (nI x52) (nI x53) (nI x61) (nI x62) (nI x63) (nI x65) x66 f1 f2 f3 (bN 3 q4) (bN 7 q5) (bN 7 q6) (bN 4 q7) f8 (bN 2 q9) (bH q10) f11 (b2 m12_0 m12_1) (b2 m13_0 m13_1) (b2 m14_0 m14_1) (b2m m15_0 m15_1) f17 (bA 159 q31) f32 f34 f35 f36 f37 (bN 7 q38) f39 f40 f41 (b2 m42_0 m42_1) f43 f44 f47 f48 f49 f50 f51 (bN 13 q54) (bN 120 q55) (bN 120 q56) f57 (bN 120 q58) f59 f60 f64) (mo_t ck) (va_A ((mo_w ad ck x0 (nI x16) (nI x18) (nI x19) x20 (nI x21) (nI x22) x23 x24 x25 (nI x26) x27 (nI x28) (nI x29) (nI x30) (nI x33) x45 (nI x46) (nI x52) (nI x53) (nI x61) (nI x62) (nI x63) (nI x65) x66 f1 f2 f3 (bN 3 q4) (bN 7 q5) (bN 7 q6) (bN 4 q7) f8 (bN 2 q9) (bH q10) f11 (b2 m12_0 m12_1) (b2 m13_0 m13_1) (b2 m14_0 m14_1) (b2m m15_0 m15_1) f17 (bA 159 q31) f32 f34 f35 f36 f37 (bN 7 q38) f39 f40 f41 (b2 m42_0 m42_1) f43 f44 f47 f48 f49 f50 f51 (bN 13 q54) (bN 120 q55) (bN 120 q56) f57 (bN 120 q58) f59 f60 f64)) sz) t ∧ (z0 = (sp_EM_limit x16 q4 q7 q9 q10 f11 m12_0 m12_1 m13_0 m13_1 m14_0 m14_1 p0 p1).2)) (va_A ((mo_w ad ck x0 (nI x16) (nI x18) (nI x19) x20 (nI x21) (nI x22) x23 x24 x25 (nI x26) x27 (nI x28) (nI x29) (nI x30) (nI x33) x45 (nI x46) (nI x52) (nI x53) (nI x61) (nI x62) (nI x63) (nI x65) x66 f1 f2 f3 (bN 3 q4) (bN 7 q5) (bN 7 q6) (bN 4 q7) f8 (bN 2 q9) (bH q10) f11 (b2 m12_0 m12_1) (b2 m13_0 m13_1) (b2 m14_0 m14_1) (b2m m15_0 m15_1) f17 (bA 159 q31) f32 f34 f35 f36 f37 (bN 7 q38) f39 f40 f41 (b2 m42_0 m42_1) f43 f44 f47 f48 f49 f50 f51 (bN 13 q54) (bN 120 q55) (bN 120 q56) f57 (bN 120 q58) f59 f60 f64)) sz)) 0 0 (va_A ((mo_w ad ck x0 (nI x16) (nI x18) (nI x19) x20 (nI x21) (nI x22) x23 x24 x25 (nI x26) x27 (nI x28) (nI x29) (nI x30) (nI x33) x45 (nI x46) (nI x52) (nI x53) (nI x61) (nI x62) (nI x63) (nI x65) x66 f1 f2 f3 (bN 3 q4) (bN 7 q5) (bN 7 q6) (bN 4 q7) f8 (bN 2 q9) (bH q10) f11 (b2 m12_0 m12_1) (b2 m13_0 m13_1) (b2 m14_0 m14_1) (b2m m15_0 m15_1) f17 (bA 159 q31) f32 f34 f35 f36 f37 (bN 7 q38) f39 f40 f41 (b2 m42_0 m42_1) f43 f44 f47 f48 f49 f50 f51 (bN 13 q54) (bN 120 q55) (bN 120 q56) f57 (bN 120 q58) f59 f60 f64)) sz) := by
  refine Met.ofW (cc := cX9_limit) (maxL := 3) (ret := (some .int)) (by decide) rfl ?_
  intro p e s m args below meth c s₁ B hml hv
  obtain ⟨rfl, rfl, hP, hK, hD0⟩ := hv
  have hx := B.exec
  have hb := B.bytes
  have hr := B.returns
  have hts := atoms_spec (ws := vs_EM_limit) B.pre
  have v_1 := hts (.fieldLink RX9 142 "ClockReachModel" "thrown" "I") (List.mem_cons_of_mem _ vm_5)
  have hown : s.vm.findClass RX9 = some m.cls := findClass_of_methodNamed B.named
  have hlocks := B.notSynchronized
  have hiX9 : ∀ w ∈ wsX90, w ∈ vs_EM_limit := fun _ h => List.mem_cons_of_mem _ (vmi_L h)
  have hD := hD0.self (sz := s.heap.size)
  generalize hAe : va_A ((mo_w ad ck x0 (nI x16) (nI x18) (nI x19) x20 (nI x21) (nI x22) x23 x24 x25 (nI x26) x27 (nI x28) (nI x29) (nI x30) (nI x33) x45 (nI x46) (nI x52) (nI x53) (nI x61) (nI x62) (nI x63) (nI x65) x66 f1 f2 f3 (bN 3 q4) (bN 7 q5) (bN 7 q6) (bN 4 q7) f8 (bN 2 q9) (bH q10) f11 (b2 m12_0 m12_1) (b2 m13_0 m13_1) (b2 m14_0 m14_1) (b2m m15_0 m15_1) f17 (bA 159 q31) f32 f34 f35 f36 f37 (bN 7 q38) f39 f40 f41 (b2 m42_0 m42_1) f43 f44 f47 f48 f49 f50 f51 (bN 13 q54) (bN 120 q55) (bN 120 q56) f57 (bN 120 q58) f59 f60 f64)) s.heap.size = A at hD ⊢
  have hA : ∀ q : Nat, s.heap.size ≤ q → A q := fun q h => by rw [← hAe]; exact Or.inr h
  have hS : va_S A s.heap s.heap [] := va_S.rf
  have hl := lv_entry ([.ref (ad 0), .int p0, .int p1]) (n := 3) (Nat.le_of_ble_eq_true rfl)
  rw [lg_entry_eq]
  generalize (lg_sl ([.ref (ad 0), .int p0, .int p1]) ++ List.replicate (3 - (lg_sl ([.ref (ad 0), .int p0, .int p1])).length) Slot.unset).toArray = ls at hl ⊢
  have hl : lv_has ls 3 [(0, .ref (ad 0)), (1, .int p0), (2, .int p1)] := hl
  obtain ⟨RR, hRR⟩ : ∃ x, x = (sp_EM_limit x16 q4 q7 q9 q10 f11 m12_0 m12_1 m13_0 m13_1 m14_0 m14_1 p0 p1) := ⟨_, rfl⟩
  have hsp := hRR
  refine lv_aload_n hx hb dX9_limit_0 rfl (lv_at hl 0 rfl) ?_
  refine lv_iconst (v := 0) hx hb dX9_limit_1 (by decide) ?_
  refine va_put (D := (dC, dI)) (ci := 9) (v := .int 0) (ty := .int) (C := RX9) (T := TX9) (N := 67) hx hb hts hiX9 tyX9 tyX9_ok nmX9 hown hK hP hD hS 0 rfl rfl 0 (by decide) v_1 (fun _ h9 => h9) rfl (by decide +kernel) rfl rfl (Nat.le_of_ble_eq_true rfl) dX9_limit_2 (fun H locs hP hD hS => ?_)
  have hP : va_P (dC, dI) vwCl (mo_w ad ck 0 (nI x16) (nI x18) (nI x19) x20 (nI x21) (nI x22) x23 x24 x25 (nI x26) x27 (nI x28) (nI x29) (nI x30) (nI x33) x45 (nI x46) (nI x52) (nI x53) (nI x61) (nI x62) (nI x63) (nI x65) x66 f1 f2 f3 (bN 3 q4) (bN 7 q5) (bN 7 q6) (bN 4 q7) f8 (bN 2 q9) (bH q10) f11 (b2 m12_0 m12_1) (b2 m13_0 m13_1) (b2 m14_0 m14_1) (b2m m15_0 m15_1) f17 (bA 159 q31) f32 f34 f35 f36 f37 (bN 7 q38) f39 f40 f41 (b2 m42_0 m42_1) f43 f44 f47 f48 f49 f50 f51 (bN 13 q54) (bN 120 q55) (bN 120 q56) f57 (bN 120 q58) f59 f60 f64) H := hP
  have hD : va_D A (mo_w ad ck 0 (nI x16) (nI x18) (nI x19) x20 (nI x21) (nI x22) x23 x24 x25 (nI x26) x27 (nI x28) (nI x29) (nI x30) (nI x33) x45 (nI x46) (nI x52) (nI x53) (nI x61) (nI x62) (nI x63) (nI x65) x66 f1 f2 f3 (bN 3 q4) (bN 7 q5) (bN 7 q6) (bN 4 q7) f8 (bN 2 q9) (bH q10) f11 (b2 m12_0 m12_1) (b2 m13_0 m13_1) (b2 m14_0 m14_1) (b2m m15_0 m15_1) f17 (bA 159 q31) f32 f34 f35 f36 f37 (bN 7 q38) f39 f40 f41 (b2 m42_0 m42_1) f43 f44 f47 f48 f49 f50 f51 (bN 13 q54) (bN 120 q55) (bN 120 q56) f57 (bN 120 q58) f59 f60 f64) := hD
  refine lv_aload_n hx hb dX9_limit_5 rfl (lv_at hl 0 rfl) ?_
  refine lv_iload_n hx hb dX9_limit_6 rfl (lv_at hl 1 rfl) ?_
  refine va_calli (va_runV (As := [.int p0]) (rest := []) ⟨hx, hb, hml, hown, hts⟩ (c_EM_isClock l dC dI _ ad ck 0 x16 x18 x19 x20 x21 x22 x23 x24 x25 x26 x27 x28 x29 x30 x33 x45 x46 x52 x53 x61 x62 x63 x65 x66 f1 f2 f3 q4 q5 q6 q7 f8 q9 q10 f11 m12_0 m12_1 m13_0 m13_1 m14_0 m14_1 m15_0 m15_1 f17 q31 f32 f34 f35 f36 f37 q38 f39 f40 f41 m42_0 m42_1 f43 f44 f47 f48 f49 f50 f51 q54 q55 q56 f57 q58 f59 f60 f64 p0 hx16 hx18 hx19 hx21 hx22 hx26 hx28 hx29 hx30 hx33 hx46 hx52 hx53 hx61 hx62 hx63 hx65 hm12_0 hm12_1 hm13_0 hm13_1 hm14_0 hm14_1 hm15_0 hm15_1 hm42_0 hm42_1) (cwV 1 hts g_EM_limit_EM_isClock rfl rfl rfl (by decide +kernel) ⟨Nat.le_of_ble_eq_true rfl, Nat.le_of_ble_eq_true rfl⟩) ⟨pu_bl, va_recv hK hP (ci := 9) (q0 := 0) rfl rfl, pu_in hP hK hD⟩ rfl rfl hl.1 rfl (lv_room (Nat.le_of_ble_eq_true rfl)) dX9_limit_7 ⟨Nat.le_of_ble_eq_true rfl, Nat.le_of_ble_eq_true rfl⟩) hS (fun q _ h => pu_fr hS hA q h) (pu_fr hS hA) (fun r_1 u t H1 locs ht hvm hw hB hz1 hk1 hS => ?_)
  have hP := pu_keep hP hk1
  clear hk1 hz1 ht hvm
  generalize H1 = H at hP hS ⊢
  rcases hw with ⟨rfl, hw⟩ | ⟨rfl, hn⟩
  · obtain ⟨n_2, hn_2, en_2⟩ := hw
    replace hsp := hsp.trans (if_pos (in_c hn_2 ⟨by omega, by omega⟩ en_2))
    subst en_2
    replace hsp := hsp.trans (slet_eq (nI_cl (n := n_2) (by omega)))
    refine lv_if_eq (tgt := 31) hx hb dX9_limit_10 (by decide) (fun z => absurd z (by decide)) (fun _ => ?_)
    refine lv_iload_n hx hb dX9_limit_13 rfl (lv_at hl 2 rfl) ?_
    refine lv_iconst (v := 0) hx hb dX9_limit_14 (by decide) ?_
    refine lv_iconst (v := 2) hx hb dX9_limit_15 (by decide) ?_
    refine va_calli (va_runS (As := [.int p1, .int 0, .int 2]) (rest := []) ⟨hx, hb, hml, hown, hts⟩ (c_X9_in l dC dI _ p1 0 2) (va_cwS 3 hts g_EM_limit_X9_in rfl rfl rfl (by decide +kernel) ⟨Nat.le_of_ble_eq_true rfl, Nat.le_of_ble_eq_true rfl⟩) ⟨pu_bl, pu_in (hP.sub [] rfl) (hK.sub [] rfl) (hD.sub [] (by decide) rfl)⟩ rfl rfl hl.1 rfl (lv_room (Nat.le_of_ble_eq_true rfl)) dX9_limit_16 ⟨Nat.le_of_ble_eq_true rfl, Nat.le_of_ble_eq_true rfl⟩) hS (fun q _ h => pu_fr hS hA q h) (pu_fr hS hA) (fun r_3 u t H1 locs ht hvm hw hB hz1 hk1 hS => ?_)
    have hP := pu_keep hP hk1
    clear hk1 hz1 ht hvm
    generalize H1 = H at hP hS ⊢
    rcases hw with ⟨rfl, hi1, hi2⟩ | ⟨rfl, hi3⟩
    · replace hsp := hsp.trans (if_pos ⟨hi1, hi2⟩)
      obtain ⟨n_4, hn_4, rfl⟩ := pu_in0 (n := 2) (by omega) hi1 hi2
      replace hsp := hsp.trans (slet_eq (nI_cl (n := n_4) (by omega)))
      refine lv_if_eq (tgt := 31) hx hb dX9_limit_19 (by decide) (fun z => absurd z (by decide)) (fun _ => ?_)
      refine lv_aload_n hx hb dX9_limit_22 rfl (lv_at hl 0 rfl) ?_
      refine lv_iload_n hx hb dX9_limit_23 rfl (lv_at hl 1 rfl) ?_
      refine lv_iload_n hx hb dX9_limit_24 rfl (lv_at hl 2 rfl) ?_
      refine va_calli (va_runV (As := [.int (nI n_2), .int (nI n_4)]) (rest := []) ⟨hx, hb, hml, hown, hts⟩ (c_EM_most l dC dI _ ad ck 0 x16 x18 x19 x20 x21 x22 x23 x24 x25 x26 x27 x28 x29 x30 x33 x45 x46 x52 x53 x61 x62 x63 x65 x66 f1 f2 f3 q4 q5 q6 q7 f8 q9 q10 f11 m12_0 m12_1 m13_0 m13_1 m14_0 m14_1 m15_0 m15_1 f17 q31 f32 f34 f35 f36 f37 q38 f39 f40 f41 m42_0 m42_1 f43 f44 f47 f48 f49 f50 f51 q54 q55 q56 f57 q58 f59 f60 f64 (nI n_2) (nI n_4) hx16 hx18 hx19 hx21 hx22 hx26 hx28 hx29 hx30 hx33 hx46 hx52 hx53 hx61 hx62 hx63 hx65 hm12_0 hm12_1 hm13_0 hm13_1 hm14_0 hm14_1 hm15_0 hm15_1 hm42_0 hm42_1) (cwV 2 hts g_EM_limit_EM_most rfl rfl rfl (by decide +kernel) ⟨Nat.le_of_ble_eq_true rfl, Nat.le_of_ble_eq_true rfl⟩) ⟨pu_bl, va_recv hK hP (ci := 9) (q0 := 0) rfl rfl, pu_in hP hK hD⟩ rfl rfl hl.1 rfl (lv_room (Nat.le_of_ble_eq_true rfl)) dX9_limit_25 ⟨Nat.le_of_ble_eq_true rfl, Nat.le_of_ble_eq_true rfl⟩) hS (fun q _ h => pu_fr hS hA q h) (pu_fr hS hA) (fun r_5 u t H1 locs ht hvm hw hB hz1 hk1 hS => ?_)
      have hP := pu_keep hP hk1
      clear hk1 hz1 ht hvm
      generalize H1 = H at hP hS ⊢
      have ir_5 := hw
      replace hsp := hsp.trans (slet_eq ir_5)
      refine lv_goto (tgt := 32) hx hb dX9_limit_28 (by decide) ?_
      exact W.iret (v := r_5) hx hb hr (fun t ht hW => ⟨⟨r_5, (), rfl, (congrArg Prod.fst (hsp.symm.trans hRR)), ⟨0, ⟨by rw [ht]; exact hP, va_K.moved hW.alike hK, hD⟩, (congrArg Prod.snd (hsp.symm.trans hRR))⟩⟩, hS.F ht⟩) hS.2.2 dX9_limit_32
    · replace hsp := hsp.trans (if_neg hi3)
      refine lv_if_eq (tgt := 31) hx hb dX9_limit_19 (by decide) (fun _ => ?_) (fun z => absurd z (by decide))
      refine lv_iconst (v := (-1)) hx hb dX9_limit_31 (by decide) ?_
      exact W.iret (v := (-1)) hx hb hr (fun t ht hW => ⟨⟨(-1), (), rfl, (congrArg Prod.fst (hsp.symm.trans hRR)), ⟨0, ⟨by rw [ht]; exact hP, va_K.moved hW.alike hK, hD⟩, (congrArg Prod.snd (hsp.symm.trans hRR))⟩⟩, hS.F ht⟩) hS.2.2 dX9_limit_32
  · replace hsp := hsp.trans (if_neg hn)
    refine lv_if_eq (tgt := 31) hx hb dX9_limit_10 (by decide) (fun _ => ?_) (fun z => absurd z (by decide))
    refine lv_iconst (v := (-1)) hx hb dX9_limit_31 (by decide) ?_
    exact W.iret (v := (-1)) hx hb hr (fun t ht hW => ⟨⟨(-1), (), rfl, (congrArg Prod.fst (hsp.symm.trans hRR)), ⟨0, ⟨by rw [ht]; exact hP, va_K.moved hW.alike hK, hD⟩, (congrArg Prod.snd (hsp.symm.trans hRR))⟩⟩, hS.F ht⟩) hS.2.2 dX9_limit_32
theorem dX9_keepAct_0 : decode cX9_keepAct 0 = .ok (.aload_n 0, 1) := by decide +kernel
theorem dX9_keepAct_1 : decode cX9_keepAct 1 = .ok (.getfield 267, 3) := by decide +kernel
theorem dX9_keepAct_4 : decode cX9_keepAct 4 = .ok (.bipush 20, 2) := by decide +kernel
theorem dX9_keepAct_6 : decode cX9_keepAct 6 = .ok (.if_icmp .ne 55, 3) := by decide +kernel
theorem dX9_keepAct_9 : decode cX9_keepAct 9 = .ok (.iconst 1, 1) := by decide +kernel
theorem dX9_keepAct_10 : decode cX9_keepAct 10 = .ok (.istore_n 3, 1) := by decide +kernel
theorem dX9_keepAct_11 : decode cX9_keepAct 11 = .ok (.iload_n 3, 1) := by decide +kernel
theorem dX9_keepAct_12 : decode cX9_keepAct 12 = .ok (.bipush 20, 2) := by decide +kernel
theorem dX9_keepAct_14 : decode cX9_keepAct 14 = .ok (.if_icmp .ge 37, 3) := by decide +kernel
theorem dX9_keepAct_17 : decode cX9_keepAct 17 = .ok (.aload_n 0, 1) := by decide +kernel
theorem dX9_keepAct_18 : decode cX9_keepAct 18 = .ok (.getfield 62, 3) := by decide +kernel
theorem dX9_keepAct_21 : decode cX9_keepAct 21 = .ok (.iload_n 3, 1) := by decide +kernel
theorem dX9_keepAct_22 : decode cX9_keepAct 22 = .ok (.iconst 1, 1) := by decide +kernel
theorem dX9_keepAct_23 : decode cX9_keepAct 23 = .ok (.isub, 1) := by decide +kernel
theorem dX9_keepAct_24 : decode cX9_keepAct 24 = .ok (.aload_n 0, 1) := by decide +kernel
theorem dX9_keepAct_25 : decode cX9_keepAct 25 = .ok (.getfield 62, 3) := by decide +kernel
theorem dX9_keepAct_28 : decode cX9_keepAct 28 = .ok (.iload_n 3, 1) := by decide +kernel
theorem dX9_keepAct_29 : decode cX9_keepAct 29 = .ok (.iaload, 1) := by decide +kernel
theorem dX9_keepAct_30 : decode cX9_keepAct 30 = .ok (.iastore, 1) := by decide +kernel
theorem dX9_keepAct_31 : decode cX9_keepAct 31 = .ok (.aload_n 0, 1) := by decide +kernel
theorem dX9_keepAct_32 : decode cX9_keepAct 32 = .ok (.getfield 65, 3) := by decide +kernel
theorem dX9_keepAct_35 : decode cX9_keepAct 35 = .ok (.iload_n 3, 1) := by decide +kernel
theorem dX9_keepAct_36 : decode cX9_keepAct 36 = .ok (.iconst 1, 1) := by decide +kernel
theorem dX9_keepAct_37 : decode cX9_keepAct 37 = .ok (.isub, 1) := by decide +kernel
theorem dX9_keepAct_38 : decode cX9_keepAct 38 = .ok (.aload_n 0, 1) := by decide +kernel
theorem dX9_keepAct_39 : decode cX9_keepAct 39 = .ok (.getfield 65, 3) := by decide +kernel
theorem dX9_keepAct_42 : decode cX9_keepAct 42 = .ok (.iload_n 3, 1) := by decide +kernel
theorem dX9_keepAct_43 : decode cX9_keepAct 43 = .ok (.iaload, 1) := by decide +kernel
theorem dX9_keepAct_44 : decode cX9_keepAct 44 = .ok (.iastore, 1) := by decide +kernel
theorem dX9_keepAct_45 : decode cX9_keepAct 45 = .ok (.iinc 3 1, 3) := by decide +kernel
theorem dX9_keepAct_48 : decode cX9_keepAct 48 = .ok (.goto (-37), 3) := by decide +kernel
theorem dX9_keepAct_51 : decode cX9_keepAct 51 = .ok (.aload_n 0, 1) := by decide +kernel
theorem dX9_keepAct_52 : decode cX9_keepAct 52 = .ok (.dup, 1) := by decide +kernel
theorem dX9_keepAct_53 : decode cX9_keepAct 53 = .ok (.getfield 267, 3) := by decide +kernel
theorem dX9_keepAct_56 : decode cX9_keepAct 56 = .ok (.iconst 1, 1) := by decide +kernel
theorem dX9_keepAct_57 : decode cX9_keepAct 57 = .ok (.isub, 1) := by decide +kernel
theorem dX9_keepAct_58 : decode cX9_keepAct 58 = .ok (.putfield 267, 3) := by decide +kernel
theorem dX9_keepAct_61 : decode cX9_keepAct 61 = .ok (.aload_n 0, 1) := by decide +kernel
theorem dX9_keepAct_62 : decode cX9_keepAct 62 = .ok (.getfield 62, 3) := by decide +kernel
theorem dX9_keepAct_65 : decode cX9_keepAct 65 = .ok (.aload_n 0, 1) := by decide +kernel
theorem dX9_keepAct_66 : decode cX9_keepAct 66 = .ok (.getfield 267, 3) := by decide +kernel
theorem dX9_keepAct_69 : decode cX9_keepAct 69 = .ok (.iload_n 1, 1) := by decide +kernel
theorem dX9_keepAct_70 : decode cX9_keepAct 70 = .ok (.iastore, 1) := by decide +kernel
theorem dX9_keepAct_71 : decode cX9_keepAct 71 = .ok (.aload_n 0, 1) := by decide +kernel
theorem dX9_keepAct_72 : decode cX9_keepAct 72 = .ok (.getfield 65, 3) := by decide +kernel
theorem dX9_keepAct_75 : decode cX9_keepAct 75 = .ok (.aload_n 0, 1) := by decide +kernel
theorem dX9_keepAct_76 : decode cX9_keepAct 76 = .ok (.getfield 267, 3) := by decide +kernel
theorem dX9_keepAct_79 : decode cX9_keepAct 79 = .ok (.iload_n 2, 1) := by decide +kernel
theorem dX9_keepAct_80 : decode cX9_keepAct 80 = .ok (.iastore, 1) := by decide +kernel
theorem dX9_keepAct_81 : decode cX9_keepAct 81 = .ok (.aload_n 0, 1) := by decide +kernel
theorem dX9_keepAct_82 : decode cX9_keepAct 82 = .ok (.dup, 1) := by decide +kernel
theorem dX9_keepAct_83 : decode cX9_keepAct 83 = .ok (.getfield 267, 3) := by decide +kernel
theorem dX9_keepAct_86 : decode cX9_keepAct 86 = .ok (.iconst 1, 1) := by decide +kernel
theorem dX9_keepAct_87 : decode cX9_keepAct 87 = .ok (.iadd, 1) := by decide +kernel
theorem dX9_keepAct_88 : decode cX9_keepAct 88 = .ok (.putfield 267, 3) := by decide +kernel
theorem dX9_keepAct_91 : decode cX9_keepAct 91 = .ok (.aload_n 0, 1) := by decide +kernel
theorem dX9_keepAct_92 : decode cX9_keepAct 92 = .ok (.invokevirtual 270, 3) := by decide +kernel
theorem dX9_keepAct_95 : decode cX9_keepAct 95 = .ok (.return_, 1) := by decide +kernel
abbrev vs_EM_keepAct : List Cond := .code yX9_keepAct cX9_keepAct 4 none :: VM
theorem g_EM_keepAct_EM_another : GoodIn vs_EM_keepAct (wsV RX9 270 RX9 yX9_another vs_EM_another) := gm_V vm_127 vm_128 vm_129 vm_19 vm_130
noncomputable def sp_EM_keepAct_L1 (x33 : Nat) : ((Nat → Nat) × (Nat → Int32) × Nat) → ((Nat → Nat) × (Nat → Int32) × Nat) ⊕ (Nat × (Nat → Nat) × (Nat → Int32)) := fun (g_17, g_18, g_19) => (if 20 ≤ g_19 then (Sum.inr ((x33 - 1), g_17, g_18)) else (slet (actV 159 (g_17 g_19)) (fun u_30 => (slet (updN g_17 (g_19 - 1) (actK 159 u_30)) (fun q_31 => (slet (g_18 g_19) (fun y_33 => (slet (upd g_18 (g_19 - 1) y_33) (fun f_34 => (Sum.inl (q_31, f_34, (g_19 + 1))))))))))))
noncomputable def sp_EM_keepAct (x33 : Nat) (q31 : Nat → Nat) (f32 : Nat → Int32) (a0 : Nat) (p1 : Int32) : (Nat → Nat) × (Nat → Int32) × Nat × Nat × Nat := (slet (α := Nat × (Nat → Nat) × (Nat → Int32)) (if x33 = 20 then (itrv (α := (Nat → Nat) × (Nat → Int32) × Nat) (β := (Nat × (Nat → Nat) × (Nat → Int32))) default (sp_EM_keepAct_L1 x33) (q31, f32, 1)) else (x33, q31, f32)) (fun (g_1, g_2, g_3) => (slet (updN g_2 g_1 (actK 159 a0)) (fun q_7 => (slet (upd g_3 g_1 p1) (fun f_8 => (slet sp_EM_another (fun (z29_11, z30_12) => (q_7, f_8, z29_11, z30_12, (g_1 + 1))))))))))
set_option maxHeartbeats 4000000 in
set_option maxRecDepth 100000 in
theorem c_EM_keepAct (l : Launch) (dC : Nat → ClassId) (dI : Nat → Nat → Nat) (sz : Nat) (ad : Nat → Nat) (ck : Nat → ClassId) (x0 : Int32) (x16 : Nat) (x18 : Nat) (x19 : Nat) (x20 : Int32) (x21 : Nat) (x22 : Nat) (x23 : Int32) (x24 : Int32) (x25 : Int32) (x26 : Nat) (x27 : Int32) (x28 : Nat) (x29 : Nat) (x30 : Nat) (x33 : Nat) (x45 : Int32) (x46 : Nat) (x52 : Nat) (x53 : Nat) (x61 : Nat) (x62 : Nat) (x63 : Nat) (x65 : Nat) (x66 : Int32) (f1 : Nat → Int32) (f2 : Nat → Int32) (f3 : Nat → Int32) (q4 : Nat → Nat) (q5 : Nat → Nat) (q6 : Nat → Nat) (q7 : Nat → Nat) (f8 : Nat → Int32) (q9 : Nat → Nat) (q10 : Nat → Nat) (f11 : Nat → Int32) (m12_0 m12_1 : Nat) (m13_0 m13_1 : Nat) (m14_0 m14_1 : Nat) (m15_0 m15_1 : Nat) (f17 : Nat → Int32) (q31 : Nat → Nat) (f32 : Nat → Int32) (f34 : Nat → Int32) (f35 : Nat → Int32) (f36 : Nat → Int32) (f37 : Nat → Int32) (q38 : Nat → Nat) (f39 : Nat → Int32) (f40 : Nat → Int32) (f41 : Nat → Int32) (m42_0 m42_1 : Nat) (f43 : Nat → Int32) (f44 : Nat → Int32) (f47 : Nat → Int32) (f48 : Nat → Int32) (f49 : Nat → Int32) (f50 : Nat → Int32) (f51 : Nat → Int32) (q54 : Nat → Nat) (q55 : Nat → Nat) (q56 : Nat → Nat) (f57 : Nat → Int32) (q58 : Nat → Nat) (f59 : Nat → Int32) (f60 : Nat → Int32) (f64 : Nat → Int32) (a0 : Nat) (p1 : Int32) (hx16 : x16 ≤ 1) (hx18 : x18 ≤ 900) (hx19 : x19 ≤ 900) (hx21 : x21 ≤ 900) (hx22 : x22 ≤ 4) (hx26 : x26 ≤ 6) (hx28 : x28 ≤ 1) (hx29 : x29 ≤ 1) (hx30 : x30 ≤ 1) (hx33 : x33 ≤ 20) (hx46 : x46 ≤ 5) (hx52 : x52 ≤ 2400) (hx53 : x53 ≤ 119) (hx61 : x61 ≤ 119) (hx62 : x62 ≤ 2000) (hx63 : x63 ≤ 1) (hx65 : x65 ≤ 7) (hm12_0 : m12_0 ≤ 3) (hm12_1 : m12_1 ≤ 3) (hm13_0 : m13_0 ≤ 8) (hm13_1 : m13_1 ≤ 8) (hm14_0 : m14_0 ≤ 14) (hm14_1 : m14_1 ≤ 14) (hm15_0 : m15_0 ≤ 8) (hm15_1 : m15_1 ≤ 8) (hm42_0 : m42_0 ≤ 120) (hm42_1 : m42_1 ≤ 400) (ha0 : a0 ≤ 1007) (hq0 : a0 ≤ 159 ∨ 1000 ≤ a0) : Met l yX9_keepAct vs_EM_keepAct ({ frames := 1, cells := 0, slots := 0, locals := 20 }) (va_Pc [.ref (ad 0), .int (nI a0), .int p1] (pu_B (dC, dI) (mo_w ad ck x0 (nI x16) (nI x18) (nI x19) x20 (nI x21) (nI x22) x23 x24 x25 (nI x26) x27 (nI x28) (nI x29) (nI x30) (nI x33) x45 (nI x46) (nI x52) (nI x53) (nI x61) (nI x62) (nI x63) (nI x65) x66 f1 f2 f3 (bN 3 q4) (bN 7 q5) (bN 7 q6) (bN 4 q7) f8 (bN 2 q9) (bH q10) f11 (b2 m12_0 m12_1) (b2 m13_0 m13_1) (b2 m14_0 m14_1) (b2m m15_0 m15_1) f17 (bA 159 q31) f32 f34 f35 f36 f37 (bN 7 q38) f39 f40 f41 (b2 m42_0 m42_1) f43 f44 f47 f48 f49 f50 f51 (bN 13 q54) (bN 120 q55) (bN 120 q56) f57 (bN 120 q58) f59 f60 f64) (mo_t ck) sz)) (va_Qv (fun (_ : Unit) => True) (fun _ t => ∃ (z31 : Nat → Nat) (z32 : Nat → Int32) (z29 : Nat) (z30 : Nat) (z33 : Nat), pu_E (dC, dI) (mo_w ad ck x0 (nI x16) (nI x18) (nI x19) x20 (nI x21) (nI x22) x23 x24 x25 (nI x26) x27 (nI x28) (nI z29) (nI z30) (nI z33) x45 (nI x46) (nI x52) (nI x53) (nI x61) (nI x62) (nI x63) (nI x65) x66 f1 f2 f3 (bN 3 q4) (bN 7 q5) (bN 7 q6) (bN 4 q7) f8 (bN 2 q9) (bH q10) f11 (b2 m12_0 m12_1) (b2 m13_0 m13_1) (b2 m14_0 m14_1) (b2m m15_0 m15_1) f17 (bA 159 z31) z32 f34 f35 f36 f37 (bN 7 q38) f39 f40 f41 (b2 m42_0 m42_1) f43 f44 f47 f48 f49 f50 f51 (bN 13 q54) (bN 120 q55) (bN 120 q56) f57 (bN 120 q58) f59 f60 f64) (mo_t ck) (va_A ((mo_w ad ck x0 (nI x16) (nI x18) (nI x19) x20 (nI x21) (nI x22) x23 x24 x25 (nI x26) x27 (nI x28) (nI x29) (nI x30) (nI x33) x45 (nI x46) (nI x52) (nI x53) (nI x61) (nI x62) (nI x63) (nI x65) x66 f1 f2 f3 (bN 3 q4) (bN 7 q5) (bN 7 q6) (bN 4 q7) f8 (bN 2 q9) (bH q10) f11 (b2 m12_0 m12_1) (b2 m13_0 m13_1) (b2 m14_0 m14_1) (b2m m15_0 m15_1) f17 (bA 159 q31) f32 f34 f35 f36 f37 (bN 7 q38) f39 f40 f41 (b2 m42_0 m42_1) f43 f44 f47 f48 f49 f50 f51 (bN 13 q54) (bN 120 q55) (bN 120 q56) f57 (bN 120 q58) f59 f60 f64)) sz) t ∧ (z29 ≤ 1) ∧ (z30 ≤ 1) ∧ (z33 ≤ 20) ∧ ((z31, z32, z29, z30, z33) = (sp_EM_keepAct x33 q31 f32 a0 p1))) (va_A ((mo_w ad ck x0 (nI x16) (nI x18) (nI x19) x20 (nI x21) (nI x22) x23 x24 x25 (nI x26) x27 (nI x28) (nI x29) (nI x30) (nI x33) x45 (nI x46) (nI x52) (nI x53) (nI x61) (nI x62) (nI x63) (nI x65) x66 f1 f2 f3 (bN 3 q4) (bN 7 q5) (bN 7 q6) (bN 4 q7) f8 (bN 2 q9) (bH q10) f11 (b2 m12_0 m12_1) (b2 m13_0 m13_1) (b2 m14_0 m14_1) (b2m m15_0 m15_1) f17 (bA 159 q31) f32 f34 f35 f36 f37 (bN 7 q38) f39 f40 f41 (b2 m42_0 m42_1) f43 f44 f47 f48 f49 f50 f51 (bN 13 q54) (bN 120 q55) (bN 120 q56) f57 (bN 120 q58) f59 f60 f64)) sz)) 0 0 (va_A ((mo_w ad ck x0 (nI x16) (nI x18) (nI x19) x20 (nI x21) (nI x22) x23 x24 x25 (nI x26) x27 (nI x28) (nI x29) (nI x30) (nI x33) x45 (nI x46) (nI x52) (nI x53) (nI x61) (nI x62) (nI x63) (nI x65) x66 f1 f2 f3 (bN 3 q4) (bN 7 q5) (bN 7 q6) (bN 4 q7) f8 (bN 2 q9) (bH q10) f11 (b2 m12_0 m12_1) (b2 m13_0 m13_1) (b2 m14_0 m14_1) (b2m m15_0 m15_1) f17 (bA 159 q31) f32 f34 f35 f36 f37 (bN 7 q38) f39 f40 f41 (b2 m42_0 m42_1) f43 f44 f47 f48 f49 f50 f51 (bN 13 q54) (bN 120 q55) (bN 120 q56) f57 (bN 120 q58) f59 f60 f64)) sz) := by
  refine Met.ofW (cc := cX9_keepAct) (maxL := 4) (ret := none) (by decide) rfl ?_
  intro p e s m args below meth c s₁ B hml hv
  obtain ⟨rfl, rfl, hP, hK, hD0⟩ := hv
  have hx := B.exec
  have hb := B.bytes
  have hr := B.returns
  have hts := atoms_spec (ws := vs_EM_keepAct) B.pre
  have v_1 := hts (.fieldLink RX9 267 "ClockReachModel" "acts" "I") (List.mem_cons_of_mem _ vm_136)
  have v_2 := hts (.fieldLink RX9 62 "ClockReachModel" "actOf" "[I") (List.mem_cons_of_mem _ vm_183)
  have v_3 := hts (.fieldLink RX9 65 "ClockReachModel" "actWas" "[I") (List.mem_cons_of_mem _ vm_184)
  have hown : s.vm.findClass RX9 = some m.cls := findClass_of_methodNamed B.named
  have hlocks := B.notSynchronized
  have hiX9 : ∀ w ∈ wsX90, w ∈ vs_EM_keepAct := fun _ h => List.mem_cons_of_mem _ (vmi_L h)
  have hD := hD0.self (sz := s.heap.size)
  generalize hAe : va_A ((mo_w ad ck x0 (nI x16) (nI x18) (nI x19) x20 (nI x21) (nI x22) x23 x24 x25 (nI x26) x27 (nI x28) (nI x29) (nI x30) (nI x33) x45 (nI x46) (nI x52) (nI x53) (nI x61) (nI x62) (nI x63) (nI x65) x66 f1 f2 f3 (bN 3 q4) (bN 7 q5) (bN 7 q6) (bN 4 q7) f8 (bN 2 q9) (bH q10) f11 (b2 m12_0 m12_1) (b2 m13_0 m13_1) (b2 m14_0 m14_1) (b2m m15_0 m15_1) f17 (bA 159 q31) f32 f34 f35 f36 f37 (bN 7 q38) f39 f40 f41 (b2 m42_0 m42_1) f43 f44 f47 f48 f49 f50 f51 (bN 13 q54) (bN 120 q55) (bN 120 q56) f57 (bN 120 q58) f59 f60 f64)) s.heap.size = A at hD ⊢
  have hA : ∀ q : Nat, s.heap.size ≤ q → A q := fun q h => by rw [← hAe]; exact Or.inr h
  have hS : va_S A s.heap s.heap [] := va_S.rf
  have hl := lv_entry ([.ref (ad 0), .int (nI a0), .int p1]) (n := 4) (Nat.le_of_ble_eq_true rfl)
  rw [lg_entry_eq]
  generalize (lg_sl ([.ref (ad 0), .int (nI a0), .int p1]) ++ List.replicate (4 - (lg_sl ([.ref (ad 0), .int (nI a0), .int p1])).length) Slot.unset).toArray = ls at hl ⊢
  have hl : lv_has ls 4 [(0, .ref (ad 0)), (1, .int (nI a0)), (2, .int p1)] := hl
  obtain ⟨RR, hRR⟩ : ∃ x, x = (sp_EM_keepAct x33 q31 f32 a0 p1) := ⟨_, rfl⟩
  have hsp := hRR
  refine lv_aload_n hx hb dX9_keepAct_0 rfl (lv_at hl 0 rfl) ?_
  refine va_get (D := (dC, dI)) (ci := 9) (v := .int (nI x33)) (C := RX9) (T := TX9) (N := 67) hx hb hts hiX9 hown hK hP 0 rfl rfl 33 (by decide) v_1 (fun _ h9 => h9) rfl dX9_keepAct_1 ?_
  refine lv_bipush (v := 20) hx hb dX9_keepAct_4 (by decide) ?_
  obtain ⟨JR_5, hJR_5, hsp⟩ := slet_ex hsp
  refine pu_join (fun H locs ls st => ∃ (g_1 : Nat) (g_2 : Nat → Nat) (g_3 : Nat → Int32), st = [] ∧ g_1 ≤ 19 ∧ (g_1, g_2, g_3) = JR_5 ∧ va_P (dC, dI) vwCl (mo_w ad ck x0 (nI x16) (nI x18) (nI x19) x20 (nI x21) (nI x22) x23 x24 x25 (nI x26) x27 (nI x28) (nI x29) (nI x30) (nI g_1) x45 (nI x46) (nI x52) (nI x53) (nI x61) (nI x62) (nI x63) (nI x65) x66 f1 f2 f3 (bN 3 q4) (bN 7 q5) (bN 7 q6) (bN 4 q7) f8 (bN 2 q9) (bH q10) f11 (b2 m12_0 m12_1) (b2 m13_0 m13_1) (b2 m14_0 m14_1) (b2m m15_0 m15_1) f17 (bA 159 g_2) g_3 f34 f35 f36 f37 (bN 7 q38) f39 f40 f41 (b2 m42_0 m42_1) f43 f44 f47 f48 f49 f50 f51 (bN 13 q54) (bN 120 q55) (bN 120 q56) f57 (bN 120 q58) f59 f60 f64) H ∧ va_D A (mo_w ad ck x0 (nI x16) (nI x18) (nI x19) x20 (nI x21) (nI x22) x23 x24 x25 (nI x26) x27 (nI x28) (nI x29) (nI x30) (nI g_1) x45 (nI x46) (nI x52) (nI x53) (nI x61) (nI x62) (nI x63) (nI x65) x66 f1 f2 f3 (bN 3 q4) (bN 7 q5) (bN 7 q6) (bN 4 q7) f8 (bN 2 q9) (bH q10) f11 (b2 m12_0 m12_1) (b2 m13_0 m13_1) (b2 m14_0 m14_1) (b2m m15_0 m15_1) f17 (bA 159 g_2) g_3 f34 f35 f36 f37 (bN 7 q38) f39 f40 f41 (b2 m42_0 m42_1) f43 f44 f47 f48 f49 f50 f51 (bN 13 q54) (bN 120 q55) (bN 120 q56) f57 (bN 120 q58) f59 f60 f64) ∧ va_S A s.heap H locs ∧ lv_has ls 4 [(0, .ref (ad 0)), (1, .int (nI a0)), (2, .int p1)]) 61 ?_ (fun j_4 => ?_)
  · rintro H locs ls st ⟨g_1, g_2, g_3, rfl, hg_1, he_6, hP, hD, hS, hl⟩
    rw [← he_6] at hsp
    refine lv_aload_n hx hb dX9_keepAct_61 rfl (lv_at hl 0 rfl) ?_
    refine va_get (D := (dC, dI)) (ci := 9) (v := .ref (ad 31)) (C := RX9) (T := TX9) (N := 67) hx hb hts hiX9 hown hK hP 0 rfl rfl 31 (by decide) v_2 (fun _ h9 => h9) rfl dX9_keepAct_62 ?_
    refine lv_aload_n hx hb dX9_keepAct_65 rfl (lv_at hl 0 rfl) ?_
    refine va_get (D := (dC, dI)) (ci := 9) (v := .int (nI g_1)) (C := RX9) (T := TX9) (N := 67) hx hb hts hiX9 hown hK hP 0 rfl rfl 33 (by decide) v_1 (fun _ h9 => h9) rfl dX9_keepAct_66 ?_
    refine lv_iload_n hx hb dX9_keepAct_69 rfl (lv_at hl 1 rfl) ?_
    refine va_iast hx hb hK hP hD hS 17 16 rfl rfl (vp_in_nI (n := g_1) (Nat.lt_of_le_of_lt hg_1 (Nat.le_of_ble_eq_true rfl)) (Nat.le_of_ble_eq_true rfl)) dX9_keepAct_70 (fun H locs hP hD hS => ?_)
    obtain ⟨q_7, eq_7, kq_7, xq_7⟩ := bA_upx 159 g_2 (n := g_1) (v := a0) (Nat.lt_of_le_of_lt hg_1 (Nat.le_of_ble_eq_true rfl)) (by omega)
    have hP : va_P (dC, dI) vwCl (mo_w ad ck x0 (nI x16) (nI x18) (nI x19) x20 (nI x21) (nI x22) x23 x24 x25 (nI x26) x27 (nI x28) (nI x29) (nI x30) (nI g_1) x45 (nI x46) (nI x52) (nI x53) (nI x61) (nI x62) (nI x63) (nI x65) x66 f1 f2 f3 (bN 3 q4) (bN 7 q5) (bN 7 q6) (bN 4 q7) f8 (bN 2 q9) (bH q10) f11 (b2 m12_0 m12_1) (b2 m13_0 m13_1) (b2 m14_0 m14_1) (b2m m15_0 m15_1) f17 (bA 159 q_7) g_3 f34 f35 f36 f37 (bN 7 q38) f39 f40 f41 (b2 m42_0 m42_1) f43 f44 f47 f48 f49 f50 f51 (bN 13 q54) (bN 120 q55) (bN 120 q56) f57 (bN 120 q58) f59 f60 f64) H := by rw [← eq_7]; exact hP
    have hD : va_D A (mo_w ad ck x0 (nI x16) (nI x18) (nI x19) x20 (nI x21) (nI x22) x23 x24 x25 (nI x26) x27 (nI x28) (nI x29) (nI x30) (nI g_1) x45 (nI x46) (nI x52) (nI x53) (nI x61) (nI x62) (nI x63) (nI x65) x66 f1 f2 f3 (bN 3 q4) (bN 7 q5) (bN 7 q6) (bN 4 q7) f8 (bN 2 q9) (bH q10) f11 (b2 m12_0 m12_1) (b2 m13_0 m13_1) (b2 m14_0 m14_1) (b2m m15_0 m15_1) f17 (bA 159 q_7) g_3 f34 f35 f36 f37 (bN 7 q38) f39 f40 f41 (b2 m42_0 m42_1) f43 f44 f47 f48 f49 f50 f51 (bN 13 q54) (bN 120 q55) (bN 120 q56) f57 (bN 120 q58) f59 f60 f64) := by rw [← eq_7]; exact hD
    replace hsp := hsp.trans (slet_eq xq_7)
    refine lv_aload_n hx hb dX9_keepAct_71 rfl (lv_at hl 0 rfl) ?_
    refine va_get (D := (dC, dI)) (ci := 9) (v := .ref (ad 32)) (C := RX9) (T := TX9) (N := 67) hx hb hts hiX9 hown hK hP 0 rfl rfl 32 (by decide) v_3 (fun _ h9 => h9) rfl dX9_keepAct_72 ?_
    refine lv_aload_n hx hb dX9_keepAct_75 rfl (lv_at hl 0 rfl) ?_
    refine va_get (D := (dC, dI)) (ci := 9) (v := .int (nI g_1)) (C := RX9) (T := TX9) (N := 67) hx hb hts hiX9 hown hK hP 0 rfl rfl 33 (by decide) v_1 (fun _ h9 => h9) rfl dX9_keepAct_76 ?_
    refine lv_iload_n hx hb dX9_keepAct_79 rfl (lv_at hl 2 rfl) ?_
    refine va_iast hx hb hK hP hD hS 18 17 rfl rfl (vp_in_nI (n := g_1) (Nat.lt_of_le_of_lt hg_1 (Nat.le_of_ble_eq_true rfl)) (Nat.le_of_ble_eq_true rfl)) dX9_keepAct_80 (fun H locs hP hD hS => ?_)
    obtain ⟨f_8, ef_8, xf_8⟩ := up_x g_3 (n := g_1) p1 (Nat.lt_of_le_of_lt hg_1 (Nat.le_of_ble_eq_true rfl))
    have hP : va_P (dC, dI) vwCl (mo_w ad ck x0 (nI x16) (nI x18) (nI x19) x20 (nI x21) (nI x22) x23 x24 x25 (nI x26) x27 (nI x28) (nI x29) (nI x30) (nI g_1) x45 (nI x46) (nI x52) (nI x53) (nI x61) (nI x62) (nI x63) (nI x65) x66 f1 f2 f3 (bN 3 q4) (bN 7 q5) (bN 7 q6) (bN 4 q7) f8 (bN 2 q9) (bH q10) f11 (b2 m12_0 m12_1) (b2 m13_0 m13_1) (b2 m14_0 m14_1) (b2m m15_0 m15_1) f17 (bA 159 q_7) f_8 f34 f35 f36 f37 (bN 7 q38) f39 f40 f41 (b2 m42_0 m42_1) f43 f44 f47 f48 f49 f50 f51 (bN 13 q54) (bN 120 q55) (bN 120 q56) f57 (bN 120 q58) f59 f60 f64) H := by rw [← ef_8]; exact hP
    have hD : va_D A (mo_w ad ck x0 (nI x16) (nI x18) (nI x19) x20 (nI x21) (nI x22) x23 x24 x25 (nI x26) x27 (nI x28) (nI x29) (nI x30) (nI g_1) x45 (nI x46) (nI x52) (nI x53) (nI x61) (nI x62) (nI x63) (nI x65) x66 f1 f2 f3 (bN 3 q4) (bN 7 q5) (bN 7 q6) (bN 4 q7) f8 (bN 2 q9) (bH q10) f11 (b2 m12_0 m12_1) (b2 m13_0 m13_1) (b2 m14_0 m14_1) (b2m m15_0 m15_1) f17 (bA 159 q_7) f_8 f34 f35 f36 f37 (bN 7 q38) f39 f40 f41 (b2 m42_0 m42_1) f43 f44 f47 f48 f49 f50 f51 (bN 13 q54) (bN 120 q55) (bN 120 q56) f57 (bN 120 q58) f59 f60 f64) := by rw [← ef_8]; exact hD
    replace hsp := hsp.trans (slet_eq xf_8)
    refine lv_aload_n hx hb dX9_keepAct_81 rfl (lv_at hl 0 rfl) ?_
    refine lv_dup hx hb dX9_keepAct_82 rfl ?_
    refine va_get (D := (dC, dI)) (ci := 9) (v := .int (nI g_1)) (C := RX9) (T := TX9) (N := 67) hx hb hts hiX9 hown hK hP 0 rfl rfl 33 (by decide) v_1 (fun _ h9 => h9) rfl dX9_keepAct_83 ?_
    refine lv_iconst (v := 1) hx hb dX9_keepAct_86 (by decide) ?_
    refine lv_iadd hx hb dX9_keepAct_87 ?_
    refine lv_topi (fun y_9 ey_9 => ?_)
    obtain rfl : y_9 = (nI (g_1 + 1)) := ey_9.trans (nI_add g_1 1)
    refine va_put (D := (dC, dI)) (ci := 9) (v := .int (nI (g_1 + 1))) (ty := .int) (C := RX9) (T := TX9) (N := 67) hx hb hts hiX9 tyX9 tyX9_ok nmX9 hown hK hP hD hS 0 rfl rfl 33 (by decide) v_1 (fun _ h9 => h9) rfl (by decide +kernel) rfl rfl (Nat.le_of_ble_eq_true rfl) dX9_keepAct_88 (fun H locs hP hD hS => ?_)
    have hP : va_P (dC, dI) vwCl (mo_w ad ck x0 (nI x16) (nI x18) (nI x19) x20 (nI x21) (nI x22) x23 x24 x25 (nI x26) x27 (nI x28) (nI x29) (nI x30) (nI (g_1 + 1)) x45 (nI x46) (nI x52) (nI x53) (nI x61) (nI x62) (nI x63) (nI x65) x66 f1 f2 f3 (bN 3 q4) (bN 7 q5) (bN 7 q6) (bN 4 q7) f8 (bN 2 q9) (bH q10) f11 (b2 m12_0 m12_1) (b2 m13_0 m13_1) (b2 m14_0 m14_1) (b2m m15_0 m15_1) f17 (bA 159 q_7) f_8 f34 f35 f36 f37 (bN 7 q38) f39 f40 f41 (b2 m42_0 m42_1) f43 f44 f47 f48 f49 f50 f51 (bN 13 q54) (bN 120 q55) (bN 120 q56) f57 (bN 120 q58) f59 f60 f64) H := hP
    have hD : va_D A (mo_w ad ck x0 (nI x16) (nI x18) (nI x19) x20 (nI x21) (nI x22) x23 x24 x25 (nI x26) x27 (nI x28) (nI x29) (nI x30) (nI (g_1 + 1)) x45 (nI x46) (nI x52) (nI x53) (nI x61) (nI x62) (nI x63) (nI x65) x66 f1 f2 f3 (bN 3 q4) (bN 7 q5) (bN 7 q6) (bN 4 q7) f8 (bN 2 q9) (bH q10) f11 (b2 m12_0 m12_1) (b2 m13_0 m13_1) (b2 m14_0 m14_1) (b2m m15_0 m15_1) f17 (bA 159 q_7) f_8 f34 f35 f36 f37 (bN 7 q38) f39 f40 f41 (b2 m42_0 m42_1) f43 f44 f47 f48 f49 f50 f51 (bN 13 q54) (bN 120 q55) (bN 120 q56) f57 (bN 120 q58) f59 f60 f64) := hD
    refine lv_aload_n hx hb dX9_keepAct_91 rfl (lv_at hl 0 rfl) ?_
    have hFc := pu_free hD hS hA
    refine va_callv (va_runV (As := []) (rest := []) ⟨hx, hb, hml, hown, hts⟩ (c_EM_another l dC dI _ ad ck x0 x16 x18 x19 x20 x21 x22 x23 x24 x25 x26 x27 x28 x29 x30 (g_1 + 1) x45 x46 x52 x53 x61 x62 x63 x65 x66 f1 f2 f3 q4 q5 q6 q7 f8 q9 q10 f11 m12_0 m12_1 m13_0 m13_1 m14_0 m14_1 m15_0 m15_1 f17 q_7 f_8 f34 f35 f36 f37 q38 f39 f40 f41 m42_0 m42_1 f43 f44 f47 f48 f49 f50 f51 q54 q55 q56 f57 q58 f59 f60 f64 hx16 hx18 hx19 hx21 hx22 hx26 hx28 hx29 hx30 (by omega) hx46 hx52 hx53 hx61 hx62 hx63 hx65 hm12_0 hm12_1 hm13_0 hm13_1 hm14_0 hm14_1 hm15_0 hm15_1 hm42_0 hm42_1) (cwV 0 hts g_EM_keepAct_EM_another rfl rfl rfl (by decide +kernel) ⟨Nat.le_of_ble_eq_true rfl, Nat.le_of_ble_eq_true rfl⟩) ⟨pu_bl, va_recv hK hP (ci := 9) (q0 := 0) rfl rfl, pu_in hP hK hD⟩ rfl rfl hl.1 rfl (lv_room (Nat.le_of_ble_eq_true rfl)) dX9_keepAct_92 ⟨Nat.le_of_ble_eq_true rfl, Nat.le_of_ble_eq_true rfl⟩) hS (fun q _ h => hFc q h) hFc (fun u t H1 locs ht hvm hw hB hz1 hk1 hS => ?_)
    obtain ⟨z29_11, z30_12, ⟨hP1, -, hD1⟩, hz29_11, hz30_12, xr_10_0⟩ := hB
    rw [ht] at hP1
    have hP := hP1
    have hD := pu_all hFc hD1
    clear hP1 hD1 hFc
    clear hk1 hz1 ht hvm
    generalize H1 = H at hP hS ⊢
    replace hsp := hsp.trans (slet_eq xr_10_0)
    exact W.vret hx hb hr (fun t ht hW => ⟨⟨(), rfl, trivial, ⟨q_7, f_8, z29_11, z30_12, (g_1 + 1), ⟨by rw [ht]; exact hP, va_K.moved hW.alike hK, hD⟩, hz29_11, hz30_12, (by omega), (hsp.symm.trans hRR)⟩⟩, hS.F ht⟩) hS.2.2 dX9_keepAct_95
  have hsp := hJR_5
  refine lv_icmp_ne (tgt := 61) hx hb dX9_keepAct_6 (by decide) (fun c_13 => ?_) (fun c_13 => ?_)
  · have c_13 : ¬ x33 = 20 := fun z => c_13 ((nI_eq (a := x33) (b := 20) (Nat.lt_of_le_of_lt hx33 (Nat.le_of_ble_eq_true rfl)) (Nat.le_of_ble_eq_true rfl)).mpr z)
    replace hsp := hsp.trans (if_neg c_13)
    exact j_4 _ _ _ _ ⟨x33, q31, f32, rfl, (by omega), hsp.symm, hP, hD, hS, lv_sub hl [0, 1, 2] rfl⟩
  · have c_13 : x33 = 20 := (nI_eq (a := x33) (b := 20) (Nat.lt_of_le_of_lt hx33 (Nat.le_of_ble_eq_true rfl)) (Nat.le_of_ble_eq_true rfl)).mp c_13
    replace hsp := hsp.trans (if_pos c_13)
    refine lv_iconst (v := 1) hx hb dX9_keepAct_9 (by decide) ?_
    refine lv_istore_n (lv' := [(3, .int 1), (0, .ref (ad 0)), (1, .int (nI a0)), (2, .int p1)]) hx hb dX9_keepAct_10 rfl hl (by decide) rfl (fun ls hl => ?_)
    obtain ⟨lf_21, dlf_21, hlf_21, hsp⟩ := itr_ex hsp
    delta sp_EM_keepAct_L1 at hlf_21
    refine pu_while (fun nn H locs ls => ∃ (g_17 : Nat → Nat) (g_18 : Nat → Int32) (g_19 : Nat), nn = 20 - g_19 ∧ (1 ≤ g_19 ∧ g_19 ≤ 20) ∧ JR_5 = itrv dlf_21 lf_21 (g_17, g_18, g_19) ∧ va_P (dC, dI) vwCl (mo_w ad ck x0 (nI x16) (nI x18) (nI x19) x20 (nI x21) (nI x22) x23 x24 x25 (nI x26) x27 (nI x28) (nI x29) (nI x30) (nI x33) x45 (nI x46) (nI x52) (nI x53) (nI x61) (nI x62) (nI x63) (nI x65) x66 f1 f2 f3 (bN 3 q4) (bN 7 q5) (bN 7 q6) (bN 4 q7) f8 (bN 2 q9) (bH q10) f11 (b2 m12_0 m12_1) (b2 m13_0 m13_1) (b2 m14_0 m14_1) (b2m m15_0 m15_1) f17 (bA 159 g_17) g_18 f34 f35 f36 f37 (bN 7 q38) f39 f40 f41 (b2 m42_0 m42_1) f43 f44 f47 f48 f49 f50 f51 (bN 13 q54) (bN 120 q55) (bN 120 q56) f57 (bN 120 q58) f59 f60 f64) H ∧ va_D A (mo_w ad ck x0 (nI x16) (nI x18) (nI x19) x20 (nI x21) (nI x22) x23 x24 x25 (nI x26) x27 (nI x28) (nI x29) (nI x30) (nI x33) x45 (nI x46) (nI x52) (nI x53) (nI x61) (nI x62) (nI x63) (nI x65) x66 f1 f2 f3 (bN 3 q4) (bN 7 q5) (bN 7 q6) (bN 4 q7) f8 (bN 2 q9) (bH q10) f11 (b2 m12_0 m12_1) (b2 m13_0 m13_1) (b2 m14_0 m14_1) (b2m m15_0 m15_1) f17 (bA 159 g_17) g_18 f34 f35 f36 f37 (bN 7 q38) f39 f40 f41 (b2 m42_0 m42_1) f43 f44 f47 f48 f49 f50 f51 (bN 13 q54) (bN 120 q55) (bN 120 q56) f57 (bN 120 q58) f59 f60 f64) ∧ va_S A s.heap H locs ∧ lv_has ls 4 [(0, .ref (ad 0)), (1, .int (nI a0)), (2, .int p1), (3, .int (nI g_19))]) 11 ?_ _ _ _ _ ⟨q31, f32, 1, rfl, ⟨by omega, by omega⟩, hsp, hP, hD, hS, lv_sub hl [1, 2, 3, 0] rfl⟩
    rintro nn ih_20 H locs ls ⟨g_17, g_18, g_19, rfl, hg_19, he_23, hP, hD, hS, hl⟩
    obtain ⟨S_22, hsp, hin_24, hout_25⟩ := itr_step hlf_21 he_23
    refine lv_iload_n hx hb dX9_keepAct_11 rfl (lv_at hl 3 rfl) ?_
    refine lv_bipush (v := 20) hx hb dX9_keepAct_12 (by decide) ?_
    refine lv_icmp_ge (tgt := 51) hx hb dX9_keepAct_14 (by decide) (fun c_26 => ?_) (fun c_26 => ?_)
    · have c_26 : 20 ≤ g_19 := (nI_leI (a := 20) (b := g_19) (Nat.le_of_ble_eq_true rfl) (Nat.lt_of_le_of_lt hg_19.2 (Nat.le_of_ble_eq_true rfl))).mp c_26
      replace hsp := hsp.trans (if_pos c_26)
      have hsp := hout_25 _ hsp
      refine lv_aload_n hx hb dX9_keepAct_51 rfl (lv_at hl 0 rfl) ?_
      refine lv_dup hx hb dX9_keepAct_52 rfl ?_
      refine va_get (D := (dC, dI)) (ci := 9) (v := .int (nI x33)) (C := RX9) (T := TX9) (N := 67) hx hb hts hiX9 hown hK hP 0 rfl rfl 33 (by decide) v_1 (fun _ h9 => h9) rfl dX9_keepAct_53 ?_
      refine lv_iconst (v := 1) hx hb dX9_keepAct_56 (by decide) ?_
      refine lv_isub hx hb dX9_keepAct_57 ?_
      refine lv_topi (fun y_27 ey_27 => ?_)
      obtain rfl : y_27 = (nI (x33 - 1)) := ey_27.trans (pk_sub (a := x33) (b := 1) (by omega))
      refine va_put (D := (dC, dI)) (ci := 9) (v := .int (nI (x33 - 1))) (ty := .int) (C := RX9) (T := TX9) (N := 67) hx hb hts hiX9 tyX9 tyX9_ok nmX9 hown hK hP hD hS 0 rfl rfl 33 (by decide) v_1 (fun _ h9 => h9) rfl (by decide +kernel) rfl rfl (Nat.le_of_ble_eq_true rfl) dX9_keepAct_58 (fun H locs hP hD hS => ?_)
      have hP : va_P (dC, dI) vwCl (mo_w ad ck x0 (nI x16) (nI x18) (nI x19) x20 (nI x21) (nI x22) x23 x24 x25 (nI x26) x27 (nI x28) (nI x29) (nI x30) (nI (x33 - 1)) x45 (nI x46) (nI x52) (nI x53) (nI x61) (nI x62) (nI x63) (nI x65) x66 f1 f2 f3 (bN 3 q4) (bN 7 q5) (bN 7 q6) (bN 4 q7) f8 (bN 2 q9) (bH q10) f11 (b2 m12_0 m12_1) (b2 m13_0 m13_1) (b2 m14_0 m14_1) (b2m m15_0 m15_1) f17 (bA 159 g_17) g_18 f34 f35 f36 f37 (bN 7 q38) f39 f40 f41 (b2 m42_0 m42_1) f43 f44 f47 f48 f49 f50 f51 (bN 13 q54) (bN 120 q55) (bN 120 q56) f57 (bN 120 q58) f59 f60 f64) H := hP
      have hD : va_D A (mo_w ad ck x0 (nI x16) (nI x18) (nI x19) x20 (nI x21) (nI x22) x23 x24 x25 (nI x26) x27 (nI x28) (nI x29) (nI x30) (nI (x33 - 1)) x45 (nI x46) (nI x52) (nI x53) (nI x61) (nI x62) (nI x63) (nI x65) x66 f1 f2 f3 (bN 3 q4) (bN 7 q5) (bN 7 q6) (bN 4 q7) f8 (bN 2 q9) (bH q10) f11 (b2 m12_0 m12_1) (b2 m13_0 m13_1) (b2 m14_0 m14_1) (b2m m15_0 m15_1) f17 (bA 159 g_17) g_18 f34 f35 f36 f37 (bN 7 q38) f39 f40 f41 (b2 m42_0 m42_1) f43 f44 f47 f48 f49 f50 f51 (bN 13 q54) (bN 120 q55) (bN 120 q56) f57 (bN 120 q58) f59 f60 f64) := hD
      exact j_4 _ _ _ _ ⟨(x33 - 1), g_17, g_18, rfl, (by omega), hsp.symm, hP, hD, hS, lv_sub hl [0, 1, 2] rfl⟩
    · have c_26 : ¬ 20 ≤ g_19 := fun z => c_26 ((nI_leI (a := 20) (b := g_19) (Nat.le_of_ble_eq_true rfl) (Nat.lt_of_le_of_lt hg_19.2 (Nat.le_of_ble_eq_true rfl))).mpr z)
      replace hsp := hsp.trans (if_neg c_26)
      refine lv_aload_n hx hb dX9_keepAct_17 rfl (lv_at hl 0 rfl) ?_
      refine va_get (D := (dC, dI)) (ci := 9) (v := .ref (ad 31)) (C := RX9) (T := TX9) (N := 67) hx hb hts hiX9 hown hK hP 0 rfl rfl 31 (by decide) v_2 (fun _ h9 => h9) rfl dX9_keepAct_18 ?_
      refine lv_iload_n hx hb dX9_keepAct_21 rfl (lv_at hl 3 rfl) ?_
      refine lv_iconst (v := 1) hx hb dX9_keepAct_22 (by decide) ?_
      refine lv_isub hx hb dX9_keepAct_23 ?_
      refine lv_topi (fun y_28 ey_28 => ?_)
      obtain rfl : y_28 = (nI (g_19 - 1)) := ey_28.trans (pk_sub (a := g_19) (b := 1) (by omega))
      refine lv_aload_n hx hb dX9_keepAct_24 rfl (lv_at hl 0 rfl) ?_
      refine va_get (D := (dC, dI)) (ci := 9) (v := .ref (ad 31)) (C := RX9) (T := TX9) (N := 67) hx hb hts hiX9 hown hK hP 0 rfl rfl 31 (by decide) v_2 (fun _ h9 => h9) rfl dX9_keepAct_25 ?_
      refine lv_iload_n hx hb dX9_keepAct_28 rfl (lv_at hl 3 rfl) ?_
      refine va_iald hx hb hK hP 17 16 rfl rfl (vp_in_nI (n := g_19) (by omega) (Nat.le_of_ble_eq_true rfl)) dX9_keepAct_29 ?_
      refine lv_topi (fun y_29 ey_29 => ?_)
      obtain ⟨u_30, hu_30, qu_30, xu_30⟩ := bA_getx 159 g_17 (n := g_19) (Nat.lt_of_le_of_lt hg_19.2 (Nat.le_of_ble_eq_true rfl))
      obtain rfl : y_29 = nI u_30 := ey_29.trans qu_30
      replace hsp := hsp.trans (slet_eq xu_30)
      refine va_iast hx hb hK hP hD hS 17 16 rfl rfl (vp_in_nI (n := (g_19 - 1)) (by omega) (Nat.le_of_ble_eq_true rfl)) dX9_keepAct_30 (fun H locs hP hD hS => ?_)
      obtain ⟨q_31, eq_31, kq_31, xq_31⟩ := bA_upx 159 g_17 (n := (g_19 - 1)) (v := u_30) (by omega) (by omega)
      have hP : va_P (dC, dI) vwCl (mo_w ad ck x0 (nI x16) (nI x18) (nI x19) x20 (nI x21) (nI x22) x23 x24 x25 (nI x26) x27 (nI x28) (nI x29) (nI x30) (nI x33) x45 (nI x46) (nI x52) (nI x53) (nI x61) (nI x62) (nI x63) (nI x65) x66 f1 f2 f3 (bN 3 q4) (bN 7 q5) (bN 7 q6) (bN 4 q7) f8 (bN 2 q9) (bH q10) f11 (b2 m12_0 m12_1) (b2 m13_0 m13_1) (b2 m14_0 m14_1) (b2m m15_0 m15_1) f17 (bA 159 q_31) g_18 f34 f35 f36 f37 (bN 7 q38) f39 f40 f41 (b2 m42_0 m42_1) f43 f44 f47 f48 f49 f50 f51 (bN 13 q54) (bN 120 q55) (bN 120 q56) f57 (bN 120 q58) f59 f60 f64) H := by rw [← eq_31]; exact hP
      have hD : va_D A (mo_w ad ck x0 (nI x16) (nI x18) (nI x19) x20 (nI x21) (nI x22) x23 x24 x25 (nI x26) x27 (nI x28) (nI x29) (nI x30) (nI x33) x45 (nI x46) (nI x52) (nI x53) (nI x61) (nI x62) (nI x63) (nI x65) x66 f1 f2 f3 (bN 3 q4) (bN 7 q5) (bN 7 q6) (bN 4 q7) f8 (bN 2 q9) (bH q10) f11 (b2 m12_0 m12_1) (b2 m13_0 m13_1) (b2 m14_0 m14_1) (b2m m15_0 m15_1) f17 (bA 159 q_31) g_18 f34 f35 f36 f37 (bN 7 q38) f39 f40 f41 (b2 m42_0 m42_1) f43 f44 f47 f48 f49 f50 f51 (bN 13 q54) (bN 120 q55) (bN 120 q56) f57 (bN 120 q58) f59 f60 f64) := by rw [← eq_31]; exact hD
      replace hsp := hsp.trans (slet_eq xq_31)
      refine lv_aload_n hx hb dX9_keepAct_31 rfl (lv_at hl 0 rfl) ?_
      refine va_get (D := (dC, dI)) (ci := 9) (v := .ref (ad 32)) (C := RX9) (T := TX9) (N := 67) hx hb hts hiX9 hown hK hP 0 rfl rfl 32 (by decide) v_3 (fun _ h9 => h9) rfl dX9_keepAct_32 ?_
      refine lv_iload_n hx hb dX9_keepAct_35 rfl (lv_at hl 3 rfl) ?_
      refine lv_iconst (v := 1) hx hb dX9_keepAct_36 (by decide) ?_
      refine lv_isub hx hb dX9_keepAct_37 ?_
      refine lv_topi (fun y_32 ey_32 => ?_)
      obtain rfl : y_32 = (nI (g_19 - 1)) := ey_32.trans (pk_sub (a := g_19) (b := 1) (by omega))
      refine lv_aload_n hx hb dX9_keepAct_38 rfl (lv_at hl 0 rfl) ?_
      refine va_get (D := (dC, dI)) (ci := 9) (v := .ref (ad 32)) (C := RX9) (T := TX9) (N := 67) hx hb hts hiX9 hown hK hP 0 rfl rfl 32 (by decide) v_3 (fun _ h9 => h9) rfl dX9_keepAct_39 ?_
      refine lv_iload_n hx hb dX9_keepAct_42 rfl (lv_at hl 3 rfl) ?_
      refine va_iald hx hb hK hP 18 17 rfl rfl (vp_in_nI (n := g_19) (by omega) (Nat.le_of_ble_eq_true rfl)) dX9_keepAct_43 ?_
      refine lv_topi (fun y_33 ey_33 => ?_)
      have ey_33 : y_33 = g_18 g_19 := ey_33.trans (congrArg g_18 (nI_clamp (n := g_19) (Nat.lt_of_le_of_lt hg_19.2 (Nat.le_of_ble_eq_true rfl))))
      replace hsp := hsp.trans (slet_eq ey_33)
      refine va_iast hx hb hK hP hD hS 18 17 rfl rfl (vp_in_nI (n := (g_19 - 1)) (by omega) (Nat.le_of_ble_eq_true rfl)) dX9_keepAct_44 (fun H locs hP hD hS => ?_)
      obtain ⟨f_34, ef_34, xf_34⟩ := up_x g_18 (n := (g_19 - 1)) y_33 (by omega)
      have hP : va_P (dC, dI) vwCl (mo_w ad ck x0 (nI x16) (nI x18) (nI x19) x20 (nI x21) (nI x22) x23 x24 x25 (nI x26) x27 (nI x28) (nI x29) (nI x30) (nI x33) x45 (nI x46) (nI x52) (nI x53) (nI x61) (nI x62) (nI x63) (nI x65) x66 f1 f2 f3 (bN 3 q4) (bN 7 q5) (bN 7 q6) (bN 4 q7) f8 (bN 2 q9) (bH q10) f11 (b2 m12_0 m12_1) (b2 m13_0 m13_1) (b2 m14_0 m14_1) (b2m m15_0 m15_1) f17 (bA 159 q_31) f_34 f34 f35 f36 f37 (bN 7 q38) f39 f40 f41 (b2 m42_0 m42_1) f43 f44 f47 f48 f49 f50 f51 (bN 13 q54) (bN 120 q55) (bN 120 q56) f57 (bN 120 q58) f59 f60 f64) H := by rw [← ef_34]; exact hP
      have hD : va_D A (mo_w ad ck x0 (nI x16) (nI x18) (nI x19) x20 (nI x21) (nI x22) x23 x24 x25 (nI x26) x27 (nI x28) (nI x29) (nI x30) (nI x33) x45 (nI x46) (nI x52) (nI x53) (nI x61) (nI x62) (nI x63) (nI x65) x66 f1 f2 f3 (bN 3 q4) (bN 7 q5) (bN 7 q6) (bN 4 q7) f8 (bN 2 q9) (bH q10) f11 (b2 m12_0 m12_1) (b2 m13_0 m13_1) (b2 m14_0 m14_1) (b2m m15_0 m15_1) f17 (bA 159 q_31) f_34 f34 f35 f36 f37 (bN 7 q38) f39 f40 f41 (b2 m42_0 m42_1) f43 f44 f47 f48 f49 f50 f51 (bN 13 q54) (bN 120 q55) (bN 120 q56) f57 (bN 120 q58) f59 f60 f64) := by rw [← ef_34]; exact hD
      replace hsp := hsp.trans (slet_eq xf_34)
      refine lv_iinc (v := (nI (g_19 + 1))) (lv' := [(3, .int (nI (g_19 + 1))), (0, .ref (ad 0)), (1, .int (nI a0)), (2, .int p1)]) hx hb dX9_keepAct_45 hl (k := 3) rfl (nI_1 _) (by decide) rfl (fun ls hl => ?_)
      refine lv_goto (tgt := 11) hx hb dX9_keepAct_48 (by decide) ?_
      exact ih_20 (20 - (g_19 + 1)) (by omega) _ _ _ ⟨q_31, f_34, (g_19 + 1), rfl, ⟨by omega, by omega⟩, hin_24 _ hsp, hP, hD, hS, lv_sub hl [1, 2, 3, 0] rfl⟩
