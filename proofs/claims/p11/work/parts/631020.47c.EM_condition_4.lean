theorem dX9_condition_0 : decode cX9_condition 0 = .ok (.aload_n 0, 1) := by decide +kernel
theorem dX9_condition_1 : decode cX9_condition 1 = .ok (.iconst 0, 1) := by decide +kernel
theorem dX9_condition_2 : decode cX9_condition 2 = .ok (.putfield 142, 3) := by decide +kernel
theorem dX9_condition_5 : decode cX9_condition 5 = .ok (.aload_n 0, 1) := by decide +kernel
theorem dX9_condition_6 : decode cX9_condition 6 = .ok (.iload_n 1, 1) := by decide +kernel
theorem dX9_condition_7 : decode cX9_condition 7 = .ok (.iload_n 2, 1) := by decide +kernel
theorem dX9_condition_8 : decode cX9_condition 8 = .ok (.invokevirtual 308, 3) := by decide +kernel
theorem dX9_condition_11 : decode cX9_condition 11 = .ok (.ifCond .eq 12, 3) := by decide +kernel
theorem dX9_condition_14 : decode cX9_condition 14 = .ok (.iload_n 3, 1) := by decide +kernel
theorem dX9_condition_15 : decode cX9_condition 15 = .ok (.iconst 0, 1) := by decide +kernel
theorem dX9_condition_16 : decode cX9_condition 16 = .ok (.iconst 2, 1) := by decide +kernel
theorem dX9_condition_17 : decode cX9_condition 17 = .ok (.invokestatic 152, 3) := by decide +kernel
theorem dX9_condition_20 : decode cX9_condition 20 = .ok (.ifCond .ne 5, 3) := by decide +kernel
theorem dX9_condition_23 : decode cX9_condition 23 = .ok (.iconst (-1), 1) := by decide +kernel
theorem dX9_condition_24 : decode cX9_condition 24 = .ok (.ireturn, 1) := by decide +kernel
theorem dX9_condition_25 : decode cX9_condition 25 = .ok (.aload_n 0, 1) := by decide +kernel
theorem dX9_condition_26 : decode cX9_condition 26 = .ok (.iload_n 1, 1) := by decide +kernel
theorem dX9_condition_27 : decode cX9_condition 27 = .ok (.iload_n 2, 1) := by decide +kernel
theorem dX9_condition_28 : decode cX9_condition 28 = .ok (.invokevirtual 311, 3) := by decide +kernel
theorem dX9_condition_31 : decode cX9_condition 31 = .ok (.istore 4, 2) := by decide +kernel
theorem dX9_condition_33 : decode cX9_condition 33 = .ok (.iload_n 3, 1) := by decide +kernel
theorem dX9_condition_34 : decode cX9_condition 34 = .ok (.ifCond .ne 13, 3) := by decide +kernel
theorem dX9_condition_37 : decode cX9_condition 37 = .ok (.aload_n 0, 1) := by decide +kernel
theorem dX9_condition_38 : decode cX9_condition 38 = .ok (.getfield 34, 3) := by decide +kernel
theorem dX9_condition_41 : decode cX9_condition 41 = .ok (.iload 4, 2) := by decide +kernel
theorem dX9_condition_43 : decode cX9_condition 43 = .ok (.iaload, 1) := by decide +kernel
theorem dX9_condition_44 : decode cX9_condition 44 = .ok (.goto 25, 3) := by decide +kernel
theorem dX9_condition_47 : decode cX9_condition 47 = .ok (.iload_n 3, 1) := by decide +kernel
theorem dX9_condition_48 : decode cX9_condition 48 = .ok (.iconst 1, 1) := by decide +kernel
theorem dX9_condition_49 : decode cX9_condition 49 = .ok (.if_icmp .ne 13, 3) := by decide +kernel
theorem dX9_condition_52 : decode cX9_condition 52 = .ok (.aload_n 0, 1) := by decide +kernel
theorem dX9_condition_53 : decode cX9_condition 53 = .ok (.getfield 37, 3) := by decide +kernel
theorem dX9_condition_56 : decode cX9_condition 56 = .ok (.iload 4, 2) := by decide +kernel
theorem dX9_condition_58 : decode cX9_condition 58 = .ok (.iaload, 1) := by decide +kernel
theorem dX9_condition_59 : decode cX9_condition 59 = .ok (.goto 10, 3) := by decide +kernel
theorem dX9_condition_62 : decode cX9_condition 62 = .ok (.aload_n 0, 1) := by decide +kernel
theorem dX9_condition_63 : decode cX9_condition 63 = .ok (.getfield 40, 3) := by decide +kernel
theorem dX9_condition_66 : decode cX9_condition 66 = .ok (.iload 4, 2) := by decide +kernel
theorem dX9_condition_68 : decode cX9_condition 68 = .ok (.iaload, 1) := by decide +kernel
theorem dX9_condition_69 : decode cX9_condition 69 = .ok (.ireturn, 1) := by decide +kernel
abbrev vs_EM_condition : List Cond := .code yX9_condition cX9_condition 5 (some .int) :: VM
theorem g_EM_condition_X9_in : GoodIn vs_EM_condition (va_wsS RX9 152 yX9_in vs_X9_in) := gm_0 (fun w h => by
  rcases List.mem_cons.mp h with rfl | h
  · exact vm_137
  rcases List.mem_cons.mp h with rfl | h
  · exact vm_138
  rcases List.mem_cons.mp h with rfl | h
  · exact vm_19
  rcases List.mem_cons.mp h with rfl | h
  · exact vm_139
  exact absurd h (List.not_mem_nil))
theorem g_EM_condition_EM_isCondition : GoodIn vs_EM_condition (wsV RX9 308 RX9 yX9_isCondition vs_EM_isCondition) := gm_V vm_156 vm_157 vm_158 vm_19 vm_159
theorem g_EM_condition_EM_spot_e : GoodIn vs_EM_condition (wsV RX9 311 RX9 yX9_spot vs_EM_spot_e) := gm_V vm_160 vm_161 vm_162 vm_19 vm_163
theorem g_EM_condition_EM_spot_p : GoodIn vs_EM_condition (wsV RX9 311 RX9 yX9_spot vs_EM_spot_p) := gm_V vm_160 vm_161 vm_162 vm_19 vm_163
noncomputable def sp_EM_condition (x16 : Nat) (q4 : Nat → Nat) (q7 : Nat → Nat) (q9 : Nat → Nat) (q10 : Nat → Nat) (f11 : Nat → Int32) (m13_0 : Nat) (m13_1 : Nat) (m14_0 : Nat) (m14_1 : Nat) (p0 : Int32) (p1 : Int32) (p2 : Int32) : Int32 × Int32 := (slet (sp_EM_isCondition x16 q4 q7 m13_0 m13_1 m14_0 m14_1 p0 p1) (fun u_2 => (if u_2 = 1 then (if (p0 : Int32) < 100 then (slet ((p0 : Int32).toNatClampNeg) (fun n_3 => (slet ((p1 : Int32).toNatClampNeg) (fun n_4 => (if (0 : Int32) ≤ p2 ∧ p2 ≤ 2 then (slet ((p2 : Int32).toNatClampNeg) (fun n_6 => (if n_6 = 0 then (slet (min (q9 (80 * x16 + 4 * n_3 + n_4)) 2) (fun u_14 => ((nI u_14), 0))) else (if n_6 = 1 then (slet (min (q10 (80 * x16 + 4 * n_3 + n_4)) (if (80 * x16 + 4 * n_3 + n_4) % 80 < 56 then 4 else 1)) (fun u_12 => ((nI u_12), 0))) else (slet (f11 (80 * x16 + 4 * n_3 + n_4)) (fun y_10 => (y_10, 0))))))) else ((-1), 0)))))) else (slet (((p0 : Int32) - 100).toNatClampNeg) (fun n_3 => (slet ((p1 : Int32).toNatClampNeg) (fun n_4 => (if (0 : Int32) ≤ p2 ∧ p2 ≤ 2 then (slet ((p2 : Int32).toNatClampNeg) (fun n_16 => (if n_16 = 0 then (slet (min (q9 (80 * x16 + (56 + 3 * ((100 + n_3) - 100)) + n_4)) 2) (fun u_24 => ((nI u_24), 0))) else (if n_16 = 1 then (slet (min (q10 (80 * x16 + (56 + 3 * ((100 + n_3) - 100)) + n_4)) (if (80 * x16 + (56 + 3 * ((100 + n_3) - 100)) + n_4) % 80 < 56 then 4 else 1)) (fun u_22 => ((nI u_22), 0))) else (slet (f11 (80 * x16 + (56 + 3 * ((100 + n_3) - 100)) + n_4)) (fun y_20 => (y_20, 0))))))) else ((-1), 0))))))) else ((-1), 0))))
set_option maxHeartbeats 4000000 in
set_option maxRecDepth 100000 in
theorem c_EM_condition (l : Launch) (dC : Nat → ClassId) (dI : Nat → Nat → Nat) (sz : Nat) (ad : Nat → Nat) (ck : Nat → ClassId) (x0 : Int32) (x16 : Nat) (x18 : Nat) (x19 : Nat) (x20 : Int32) (x21 : Nat) (x22 : Nat) (x23 : Int32) (x24 : Int32) (x25 : Int32) (x26 : Nat) (x27 : Int32) (x28 : Nat) (x29 : Nat) (x30 : Nat) (x33 : Nat) (x45 : Int32) (x46 : Nat) (x52 : Nat) (x53 : Nat) (x61 : Nat) (x62 : Nat) (x63 : Nat) (x65 : Nat) (x66 : Int32) (f1 : Nat → Int32) (f2 : Nat → Int32) (f3 : Nat → Int32) (q4 : Nat → Nat) (q5 : Nat → Nat) (q6 : Nat → Nat) (q7 : Nat → Nat) (f8 : Nat → Int32) (q9 : Nat → Nat) (q10 : Nat → Nat) (f11 : Nat → Int32) (m12_0 m12_1 : Nat) (m13_0 m13_1 : Nat) (m14_0 m14_1 : Nat) (m15_0 m15_1 : Nat) (f17 : Nat → Int32) (q31 : Nat → Nat) (f32 : Nat → Int32) (f34 : Nat → Int32) (f35 : Nat → Int32) (f36 : Nat → Int32) (f37 : Nat → Int32) (q38 : Nat → Nat) (f39 : Nat → Int32) (f40 : Nat → Int32) (f41 : Nat → Int32) (m42_0 m42_1 : Nat) (f43 : Nat → Int32) (f44 : Nat → Int32) (f47 : Nat → Int32) (f48 : Nat → Int32) (f49 : Nat → Int32) (f50 : Nat → Int32) (f51 : Nat → Int32) (q54 : Nat → Nat) (q55 : Nat → Nat) (q56 : Nat → Nat) (f57 : Nat → Int32) (q58 : Nat → Nat) (f59 : Nat → Int32) (f60 : Nat → Int32) (f64 : Nat → Int32) (p0 : Int32) (p1 : Int32) (p2 : Int32) (hx16 : x16 ≤ 1) (hx18 : x18 ≤ 900) (hx19 : x19 ≤ 900) (hx21 : x21 ≤ 900) (hx22 : x22 ≤ 4) (hx26 : x26 ≤ 6) (hx28 : x28 ≤ 1) (hx29 : x29 ≤ 1) (hx30 : x30 ≤ 1) (hx33 : x33 ≤ 20) (hx46 : x46 ≤ 5) (hx52 : x52 ≤ 2400) (hx53 : x53 ≤ 119) (hx61 : x61 ≤ 119) (hx62 : x62 ≤ 2000) (hx63 : x63 ≤ 1) (hx65 : x65 ≤ 7) (hm12_0 : m12_0 ≤ 3) (hm12_1 : m12_1 ≤ 3) (hm13_0 : m13_0 ≤ 8) (hm13_1 : m13_1 ≤ 8) (hm14_0 : m14_0 ≤ 14) (hm14_1 : m14_1 ≤ 14) (hm15_0 : m15_0 ≤ 8) (hm15_1 : m15_1 ≤ 8) (hm42_0 : m42_0 ≤ 120) (hm42_1 : m42_1 ≤ 400) : Met l yX9_condition vs_EM_condition ({ frames := 4, cells := 0, slots := 0, locals := 86 }) (va_Pc [.ref (ad 0), .int p0, .int p1, .int p2] (pu_B (dC, dI) (mo_w ad ck x0 (nI x16) (nI x18) (nI x19) x20 (nI x21) (nI x22) x23 x24 x25 (nI x26) x27 (nI x28) (nI x29) (nI x30) (nI x33) x45 (nI x46) (nI x52) (nI x53) (nI x61) (nI x62) (nI x63) (nI x65) x66 f1 f2 f3 (bN 3 q4) (bN 7 q5) (bN 7 q6) (bN 4 q7) f8 (bN 2 q9) (bH q10) f11 (b2 m12_0 m12_1) (b2 m13_0 m13_1) (b2 m14_0 m14_1) (b2m m15_0 m15_1) f17 (bA 159 q31) f32 f34 f35 f36 f37 (bN 7 q38) f39 f40 f41 (b2 m42_0 m42_1) f43 f44 f47 f48 f49 f50 f51 (bN 13 q54) (bN 120 q55) (bN 120 q56) f57 (bN 120 q58) f59 f60 f64) (mo_t ck) sz)) (va_Qi (fun (r : Int32) (_ : Unit) => r = (sp_EM_condition x16 q4 q7 q9 q10 f11 m13_0 m13_1 m14_0 m14_1 p0 p1 p2).1) (fun _ t => ∃ (z0 : Int32), pu_E (dC, dI) (mo_w ad ck z0 (nI x16) (nI x18) (nI x19) x20 (nI x21) (nI x22) x23 x24 x25 (nI x26) x27 (nI x28) (nI x29) (nI x30) (nI x33) x45 (nI x46) (nI x52) (nI x53) (nI x61) (nI x62) (nI x63) (nI x65) x66 f1 f2 f3 (bN 3 q4) (bN 7 q5) (bN 7 q6) (bN 4 q7) f8 (bN 2 q9) (bH q10) f11 (b2 m12_0 m12_1) (b2 m13_0 m13_1) (b2 m14_0 m14_1) (b2m m15_0 m15_1) f17 (bA 159 q31) f32 f34 f35 f36 f37 (bN 7 q38) f39 f40 f41 (b2 m42_0 m42_1) f43 f44 f47 f48 f49 f50 f51 (bN 13 q54) (bN 120 q55) (bN 120 q56) f57 (bN 120 q58) f59 f60 f64) (mo_t ck) (va_A ((mo_w ad ck x0 (nI x16) (nI x18) (nI x19) x20 (nI x21) (nI x22) x23 x24 x25 (nI x26) x27 (nI x28) (nI x29) (nI x30) (nI x33) x45 (nI x46) (nI x52) (nI x53) (nI x61) (nI x62) (nI x63) (nI x65) x66 f1 f2 f3 (bN 3 q4) (bN 7 q5) (bN 7 q6) (bN 4 q7) f8 (bN 2 q9) (bH q10) f11 (b2 m12_0 m12_1) (b2 m13_0 m13_1) (b2 m14_0 m14_1) (b2m m15_0 m15_1) f17 (bA 159 q31) f32 f34 f35 f36 f37 (bN 7 q38) f39 f40 f41 (b2 m42_0 m42_1) f43 f44 f47 f48 f49 f50 f51 (bN 13 q54) (bN 120 q55) (bN 120 q56) f57 (bN 120 q58) f59 f60 f64)) sz) t ∧ (z0 = (sp_EM_condition x16 q4 q7 q9 q10 f11 m13_0 m13_1 m14_0 m14_1 p0 p1 p2).2)) (va_A ((mo_w ad ck x0 (nI x16) (nI x18) (nI x19) x20 (nI x21) (nI x22) x23 x24 x25 (nI x26) x27 (nI x28) (nI x29) (nI x30) (nI x33) x45 (nI x46) (nI x52) (nI x53) (nI x61) (nI x62) (nI x63) (nI x65) x66 f1 f2 f3 (bN 3 q4) (bN 7 q5) (bN 7 q6) (bN 4 q7) f8 (bN 2 q9) (bH q10) f11 (b2 m12_0 m12_1) (b2 m13_0 m13_1) (b2 m14_0 m14_1) (b2m m15_0 m15_1) f17 (bA 159 q31) f32 f34 f35 f36 f37 (bN 7 q38) f39 f40 f41 (b2 m42_0 m42_1) f43 f44 f47 f48 f49 f50 f51 (bN 13 q54) (bN 120 q55) (bN 120 q56) f57 (bN 120 q58) f59 f60 f64)) sz)) 0 0 (va_A ((mo_w ad ck x0 (nI x16) (nI x18) (nI x19) x20 (nI x21) (nI x22) x23 x24 x25 (nI x26) x27 (nI x28) (nI x29) (nI x30) (nI x33) x45 (nI x46) (nI x52) (nI x53) (nI x61) (nI x62) (nI x63) (nI x65) x66 f1 f2 f3 (bN 3 q4) (bN 7 q5) (bN 7 q6) (bN 4 q7) f8 (bN 2 q9) (bH q10) f11 (b2 m12_0 m12_1) (b2 m13_0 m13_1) (b2 m14_0 m14_1) (b2m m15_0 m15_1) f17 (bA 159 q31) f32 f34 f35 f36 f37 (bN 7 q38) f39 f40 f41 (b2 m42_0 m42_1) f43 f44 f47 f48 f49 f50 f51 (bN 13 q54) (bN 120 q55) (bN 120 q56) f57 (bN 120 q58) f59 f60 f64)) sz) := by
  refine Met.ofW (cc := cX9_condition) (maxL := 5) (ret := (some .int)) (by decide) rfl ?_
  intro p e s m args below meth c s₁ B hml hv
  obtain ⟨rfl, rfl, hP, hK, hD0⟩ := hv
  have hx := B.exec
  have hb := B.bytes
  have hr := B.returns
  have hts := atoms_spec (ws := vs_EM_condition) B.pre
  have v_1 := hts (.fieldLink RX9 142 "ClockReachModel" "thrown" "I") (List.mem_cons_of_mem _ vm_5)
  have v_14 := hts (.fieldLink RX9 40 "ClockReachModel" "limit" "[I") (List.mem_cons_of_mem _ vm_100)
  have v_15 := hts (.fieldLink RX9 37 "ClockReachModel" "how" "[I") (List.mem_cons_of_mem _ vm_99)
  have v_16 := hts (.fieldLink RX9 34 "ClockReachModel" "ofClock" "[I") (List.mem_cons_of_mem _ vm_98)
  have hown : s.vm.findClass RX9 = some m.cls := findClass_of_methodNamed B.named
  have hlocks := B.notSynchronized
  have hiX9 : ∀ w ∈ wsX90, w ∈ vs_EM_condition := fun _ h => List.mem_cons_of_mem _ (vmi_L h)
  have hD := hD0.self (sz := s.heap.size)
  generalize hAe : va_A ((mo_w ad ck x0 (nI x16) (nI x18) (nI x19) x20 (nI x21) (nI x22) x23 x24 x25 (nI x26) x27 (nI x28) (nI x29) (nI x30) (nI x33) x45 (nI x46) (nI x52) (nI x53) (nI x61) (nI x62) (nI x63) (nI x65) x66 f1 f2 f3 (bN 3 q4) (bN 7 q5) (bN 7 q6) (bN 4 q7) f8 (bN 2 q9) (bH q10) f11 (b2 m12_0 m12_1) (b2 m13_0 m13_1) (b2 m14_0 m14_1) (b2m m15_0 m15_1) f17 (bA 159 q31) f32 f34 f35 f36 f37 (bN 7 q38) f39 f40 f41 (b2 m42_0 m42_1) f43 f44 f47 f48 f49 f50 f51 (bN 13 q54) (bN 120 q55) (bN 120 q56) f57 (bN 120 q58) f59 f60 f64)) s.heap.size = A at hD ⊢
  have hA : ∀ q : Nat, s.heap.size ≤ q → A q := fun q h => by rw [← hAe]; exact Or.inr h
  have hS : va_S A s.heap s.heap [] := va_S.rf
  have hl := lv_entry ([.ref (ad 0), .int p0, .int p1, .int p2]) (n := 5) (Nat.le_of_ble_eq_true rfl)
  rw [lg_entry_eq]
  generalize (lg_sl ([.ref (ad 0), .int p0, .int p1, .int p2]) ++ List.replicate (5 - (lg_sl ([.ref (ad 0), .int p0, .int p1, .int p2])).length) Slot.unset).toArray = ls at hl ⊢
  have hl : lv_has ls 5 [(0, .ref (ad 0)), (1, .int p0), (2, .int p1), (3, .int p2)] := hl
  obtain ⟨RR, hRR⟩ : ∃ x, x = (sp_EM_condition x16 q4 q7 q9 q10 f11 m13_0 m13_1 m14_0 m14_1 p0 p1 p2) := ⟨_, rfl⟩
  have hsp := hRR
  refine lv_aload_n hx hb dX9_condition_0 rfl (lv_at hl 0 rfl) ?_
  refine lv_iconst (v := 0) hx hb dX9_condition_1 (by decide) ?_
  refine va_put (D := (dC, dI)) (ci := 9) (v := .int 0) (ty := .int) (C := RX9) (T := TX9) (N := 67) hx hb hts hiX9 tyX9 tyX9_ok nmX9 hown hK hP hD hS 0 rfl rfl 0 (by decide) v_1 (fun _ h9 => h9) rfl (by decide +kernel) rfl rfl (Nat.le_of_ble_eq_true rfl) dX9_condition_2 (fun H locs hP hD hS => ?_)
  have hP : va_P (dC, dI) vwCl (mo_w ad ck 0 (nI x16) (nI x18) (nI x19) x20 (nI x21) (nI x22) x23 x24 x25 (nI x26) x27 (nI x28) (nI x29) (nI x30) (nI x33) x45 (nI x46) (nI x52) (nI x53) (nI x61) (nI x62) (nI x63) (nI x65) x66 f1 f2 f3 (bN 3 q4) (bN 7 q5) (bN 7 q6) (bN 4 q7) f8 (bN 2 q9) (bH q10) f11 (b2 m12_0 m12_1) (b2 m13_0 m13_1) (b2 m14_0 m14_1) (b2m m15_0 m15_1) f17 (bA 159 q31) f32 f34 f35 f36 f37 (bN 7 q38) f39 f40 f41 (b2 m42_0 m42_1) f43 f44 f47 f48 f49 f50 f51 (bN 13 q54) (bN 120 q55) (bN 120 q56) f57 (bN 120 q58) f59 f60 f64) H := hP
  have hD : va_D A (mo_w ad ck 0 (nI x16) (nI x18) (nI x19) x20 (nI x21) (nI x22) x23 x24 x25 (nI x26) x27 (nI x28) (nI x29) (nI x30) (nI x33) x45 (nI x46) (nI x52) (nI x53) (nI x61) (nI x62) (nI x63) (nI x65) x66 f1 f2 f3 (bN 3 q4) (bN 7 q5) (bN 7 q6) (bN 4 q7) f8 (bN 2 q9) (bH q10) f11 (b2 m12_0 m12_1) (b2 m13_0 m13_1) (b2 m14_0 m14_1) (b2m m15_0 m15_1) f17 (bA 159 q31) f32 f34 f35 f36 f37 (bN 7 q38) f39 f40 f41 (b2 m42_0 m42_1) f43 f44 f47 f48 f49 f50 f51 (bN 13 q54) (bN 120 q55) (bN 120 q56) f57 (bN 120 q58) f59 f60 f64) := hD
  refine lv_aload_n hx hb dX9_condition_5 rfl (lv_at hl 0 rfl) ?_
  refine lv_iload_n hx hb dX9_condition_6 rfl (lv_at hl 1 rfl) ?_
  refine lv_iload_n hx hb dX9_condition_7 rfl (lv_at hl 2 rfl) ?_
  refine va_calli (va_runV (As := [.int p0, .int p1]) (rest := []) ⟨hx, hb, hml, hown, hts⟩ (c_EM_isCondition l dC dI _ ad ck 0 x16 x18 x19 x20 x21 x22 x23 x24 x25 x26 x27 x28 x29 x30 x33 x45 x46 x52 x53 x61 x62 x63 x65 x66 f1 f2 f3 q4 q5 q6 q7 f8 q9 q10 f11 m12_0 m12_1 m13_0 m13_1 m14_0 m14_1 m15_0 m15_1 f17 q31 f32 f34 f35 f36 f37 q38 f39 f40 f41 m42_0 m42_1 f43 f44 f47 f48 f49 f50 f51 q54 q55 q56 f57 q58 f59 f60 f64 p0 p1 hx16 hx18 hx19 hx21 hx22 hx26 hx28 hx29 hx30 hx33 hx46 hx52 hx53 hx61 hx62 hx63 hx65 hm12_0 hm12_1 hm13_0 hm13_1 hm14_0 hm14_1 hm15_0 hm15_1 hm42_0 hm42_1) (cwV 2 hts g_EM_condition_EM_isCondition rfl rfl rfl (by decide +kernel) ⟨Nat.le_of_ble_eq_true rfl, Nat.le_of_ble_eq_true rfl⟩) ⟨pu_bl, va_recv hK hP (ci := 9) (q0 := 0) rfl rfl, pu_in hP hK hD⟩ rfl rfl hl.1 rfl (lv_room (Nat.le_of_ble_eq_true rfl)) dX9_condition_8 ⟨Nat.le_of_ble_eq_true rfl, Nat.le_of_ble_eq_true rfl⟩) hS (fun q _ h => pu_fr hS hA q h) (pu_fr hS hA) (fun r_1 u t H1 locs ht hvm hw hB hz1 hk1 hS => ?_)
  have hP := pu_keep hP hk1
  clear hk1 hz1 ht hvm
  generalize H1 = H at hP hS ⊢
  obtain ⟨u_2, hu_2, rfl, ju_2, iu_2⟩ := hw
  replace hsp := hsp.trans (slet_eq iu_2)
  rcases ju_2 with ⟨rfl, ⟨n_3, n_4, hn_3, hn_4, rfl, rfl⟩ | ⟨n_3, n_4, hn_3, hn_4, rfl, rfl⟩⟩ | rfl
  · replace hsp := hsp.trans (if_pos rfl)
    replace hsp := hsp.trans (if_pos (nI_lt (a := n_3) (b := 100) (by omega) (by decide)))
    replace hsp := hsp.trans (slet_eq (nI_cl (n := n_3) (by omega)))
    replace hsp := hsp.trans (slet_eq (nI_cl (n := n_4) (by omega)))
    refine lv_if_eq (tgt := 23) hx hb dX9_condition_11 (by decide) (fun z => absurd z (by decide)) (fun _ => ?_)
    refine lv_iload_n hx hb dX9_condition_14 rfl (lv_at hl 3 rfl) ?_
    refine lv_iconst (v := 0) hx hb dX9_condition_15 (by decide) ?_
    refine lv_iconst (v := 2) hx hb dX9_condition_16 (by decide) ?_
    refine va_calli (va_runS (As := [.int p2, .int 0, .int 2]) (rest := []) ⟨hx, hb, hml, hown, hts⟩ (c_X9_in l dC dI _ p2 0 2) (va_cwS 3 hts g_EM_condition_X9_in rfl rfl rfl (by decide +kernel) ⟨Nat.le_of_ble_eq_true rfl, Nat.le_of_ble_eq_true rfl⟩) ⟨pu_bl, pu_in (hP.sub [] rfl) (hK.sub [] rfl) (hD.sub [] (by decide) rfl)⟩ rfl rfl hl.1 rfl (lv_room (Nat.le_of_ble_eq_true rfl)) dX9_condition_17 ⟨Nat.le_of_ble_eq_true rfl, Nat.le_of_ble_eq_true rfl⟩) hS (fun q _ h => pu_fr hS hA q h) (pu_fr hS hA) (fun r_5 u t H1 locs ht hvm hw hB hz1 hk1 hS => ?_)
    have hP := pu_keep hP hk1
    clear hk1 hz1 ht hvm
    generalize H1 = H at hP hS ⊢
    rcases hw with ⟨rfl, hi1, hi2⟩ | ⟨rfl, hi3⟩
    · replace hsp := hsp.trans (if_pos ⟨hi1, hi2⟩)
      obtain ⟨n_6, hn_6, rfl⟩ := pu_in0 (n := 2) (by omega) hi1 hi2
      replace hsp := hsp.trans (slet_eq (nI_cl (n := n_6) (by omega)))
      refine lv_if_ne (tgt := 25) hx hb dX9_condition_20 (by decide) (fun _ => ?_) (fun z => absurd z (by decide))
      refine lv_aload_n hx hb dX9_condition_25 rfl (lv_at hl 0 rfl) ?_
      refine lv_iload_n hx hb dX9_condition_26 rfl (lv_at hl 1 rfl) ?_
      refine lv_iload_n hx hb dX9_condition_27 rfl (lv_at hl 2 rfl) ?_
      refine va_calli (va_runV (As := [.int (nI n_3), .int (nI n_4)]) (rest := []) ⟨hx, hb, hml, hown, hts⟩ (c_EM_spot_e l dC dI _ ad ck 0 x16 x18 x19 x20 x21 x22 x23 x24 x25 x26 x27 x28 x29 x30 x33 x45 x46 x52 x53 x61 x62 x63 x65 x66 f1 f2 f3 q4 q5 q6 q7 f8 q9 q10 f11 m12_0 m12_1 m13_0 m13_1 m14_0 m14_1 m15_0 m15_1 f17 q31 f32 f34 f35 f36 f37 q38 f39 f40 f41 m42_0 m42_1 f43 f44 f47 f48 f49 f50 f51 q54 q55 q56 f57 q58 f59 f60 f64 n_3 n_4 hx16 hx18 hx19 hx21 hx22 hx26 hx28 hx29 hx30 hx33 hx46 hx52 hx53 hx61 hx62 hx63 hx65 hm12_0 hm12_1 hm13_0 hm13_1 hm14_0 hm14_1 hm15_0 hm15_1 hm42_0 hm42_1 (by omega) (by omega)) (cwV 2 hts g_EM_condition_EM_spot_e rfl rfl rfl (by decide +kernel) ⟨Nat.le_of_ble_eq_true rfl, Nat.le_of_ble_eq_true rfl⟩) ⟨pu_bl, va_recv hK hP (ci := 9) (q0 := 0) rfl rfl, pu_in hP hK hD⟩ rfl rfl hl.1 rfl (lv_room (Nat.le_of_ble_eq_true rfl)) dX9_condition_28 ⟨Nat.le_of_ble_eq_true rfl, Nat.le_of_ble_eq_true rfl⟩) hS (fun q _ h => pu_fr hS hA q h) (pu_fr hS hA) (fun r_7 u t H1 locs ht hvm hw hB hz1 hk1 hS => ?_)
      have hP := pu_keep hP hk1
      clear hk1 hz1 ht hvm
      generalize H1 = H at hP hS ⊢
      obtain rfl : r_7 = nI (80 * x16 + 4 * n_3 + n_4) := hw
      refine lv_istore (lv' := [(4, .int (nI (80 * x16 + 4 * n_3 + n_4))), (0, .ref (ad 0)), (1, .int (nI n_3)), (2, .int (nI n_4)), (3, .int (nI n_6))]) hx hb dX9_condition_31 hl (by decide) rfl (fun ls hl => ?_)
      refine lv_iload_n hx hb dX9_condition_33 rfl (lv_at hl 4 rfl) ?_
      refine lv_if_ne (tgt := 47) hx hb dX9_condition_34 (by decide) (fun c_8 => ?_) (fun c_8 => ?_)
      · have c_8 : ¬ n_6 = 0 := fun z => c_8 ((nI_eq (a := n_6) (b := 0) (by omega) (Nat.le_of_ble_eq_true rfl)).mpr z)
        replace hsp := hsp.trans (if_neg c_8)
        refine lv_iload_n hx hb dX9_condition_47 rfl (lv_at hl 4 rfl) ?_
        refine lv_iconst (v := 1) hx hb dX9_condition_48 (by decide) ?_
        refine lv_icmp_ne (tgt := 62) hx hb dX9_condition_49 (by decide) (fun c_9 => ?_) (fun c_9 => ?_)
        · have c_9 : ¬ n_6 = 1 := fun z => c_9 ((nI_eq (a := n_6) (b := 1) (by omega) (Nat.le_of_ble_eq_true rfl)).mpr z)
          replace hsp := hsp.trans (if_neg c_9)
          refine lv_aload_n hx hb dX9_condition_62 rfl (lv_at hl 1 rfl) ?_
          refine va_get (D := (dC, dI)) (ci := 9) (v := .ref (ad 11)) (C := RX9) (T := TX9) (N := 67) hx hb hts hiX9 hown hK hP 0 rfl rfl 11 (by decide) v_14 (fun _ h9 => h9) rfl dX9_condition_63 ?_
          refine lv_iload hx hb dX9_condition_66 (lv_at hl 0 rfl) ?_
          refine va_iald hx hb hK hP 11 10 rfl rfl (vp_in_nI (n := (80 * x16 + 4 * n_3 + n_4)) (by omega) (Nat.le_of_ble_eq_true rfl)) dX9_condition_68 ?_
          refine lv_topi (fun y_10 ey_10 => ?_)
          have ey_10 : y_10 = f11 (80 * x16 + 4 * n_3 + n_4) := ey_10.trans (congrArg f11 (nI_clamp (n := (80 * x16 + 4 * n_3 + n_4)) (by first | omega | exact Nat.lt_trans (zx16 (by omega) (by omega) (by omega)) (Nat.le_of_ble_eq_true rfl) | exact Nat.lt_trans (zy16 (by omega) (by omega)) (Nat.le_of_ble_eq_true rfl) | exact Nat.lt_trans (zx25 (by omega) (by omega) (by omega)) (Nat.le_of_ble_eq_true rfl) | exact Nat.lt_trans (zy25 (by omega) (by omega)) (Nat.le_of_ble_eq_true rfl))))
          replace hsp := hsp.trans (slet_eq ey_10)
          exact W.iret (v := y_10) hx hb hr (fun t ht hW => ⟨⟨y_10, (), rfl, (congrArg Prod.fst (hsp.symm.trans hRR)), ⟨0, ⟨by rw [ht]; exact hP, va_K.moved hW.alike hK, hD⟩, (congrArg Prod.snd (hsp.symm.trans hRR))⟩⟩, hS.F ht⟩) hS.2.2 dX9_condition_69
        · have c_9 : n_6 = 1 := (nI_eq (a := n_6) (b := 1) (by omega) (Nat.le_of_ble_eq_true rfl)).mp c_9
          replace hsp := hsp.trans (if_pos c_9)
          refine lv_aload_n hx hb dX9_condition_52 rfl (lv_at hl 1 rfl) ?_
          refine va_get (D := (dC, dI)) (ci := 9) (v := .ref (ad 10)) (C := RX9) (T := TX9) (N := 67) hx hb hts hiX9 hown hK hP 0 rfl rfl 10 (by decide) v_15 (fun _ h9 => h9) rfl dX9_condition_53 ?_
          refine lv_iload hx hb dX9_condition_56 (lv_at hl 0 rfl) ?_
          refine va_iald hx hb hK hP 10 9 rfl rfl (vp_in_nI (n := (80 * x16 + 4 * n_3 + n_4)) (by omega) (Nat.le_of_ble_eq_true rfl)) dX9_condition_58 ?_
          refine lv_topi (fun y_11 ey_11 => ?_)
          obtain ⟨u_12, hu_12, qu_12, xu_12⟩ := bH_getx q10 (i := (80 * x16 + 4 * n_3 + n_4)) (by omega)
          obtain rfl : y_11 = nI u_12 := ey_11.trans qu_12
          replace hsp := hsp.trans (slet_eq xu_12)
          refine lv_goto (tgt := 69) hx hb dX9_condition_59 (by decide) ?_
          exact W.iret (v := (nI u_12)) hx hb hr (fun t ht hW => ⟨⟨(nI u_12), (), rfl, (congrArg Prod.fst (hsp.symm.trans hRR)), ⟨0, ⟨by rw [ht]; exact hP, va_K.moved hW.alike hK, hD⟩, (congrArg Prod.snd (hsp.symm.trans hRR))⟩⟩, hS.F ht⟩) hS.2.2 dX9_condition_69
      · have c_8 : n_6 = 0 := (nI_eq (a := n_6) (b := 0) (by omega) (Nat.le_of_ble_eq_true rfl)).mp c_8
        replace hsp := hsp.trans (if_pos c_8)
        refine lv_aload_n hx hb dX9_condition_37 rfl (lv_at hl 1 rfl) ?_
        refine va_get (D := (dC, dI)) (ci := 9) (v := .ref (ad 9)) (C := RX9) (T := TX9) (N := 67) hx hb hts hiX9 hown hK hP 0 rfl rfl 9 (by decide) v_16 (fun _ h9 => h9) rfl dX9_condition_38 ?_
        refine lv_iload hx hb dX9_condition_41 (lv_at hl 0 rfl) ?_
        refine va_iald hx hb hK hP 9 8 rfl rfl (vp_in_nI (n := (80 * x16 + 4 * n_3 + n_4)) (by omega) (Nat.le_of_ble_eq_true rfl)) dX9_condition_43 ?_
        refine lv_topi (fun y_13 ey_13 => ?_)
        obtain ⟨u_14, hu_14, qu_14, xu_14⟩ := bN_getx 2 q9 (n := (80 * x16 + 4 * n_3 + n_4)) (by first | omega | exact Nat.lt_trans (zx16 (by omega) (by omega) (by omega)) (Nat.le_of_ble_eq_true rfl) | exact Nat.lt_trans (zy16 (by omega) (by omega)) (Nat.le_of_ble_eq_true rfl) | exact Nat.lt_trans (zx25 (by omega) (by omega) (by omega)) (Nat.le_of_ble_eq_true rfl) | exact Nat.lt_trans (zy25 (by omega) (by omega)) (Nat.le_of_ble_eq_true rfl))
        obtain rfl : y_13 = nI u_14 := ey_13.trans qu_14
        replace hsp := hsp.trans (slet_eq xu_14)
        refine lv_goto (tgt := 69) hx hb dX9_condition_44 (by decide) ?_
        exact W.iret (v := (nI u_14)) hx hb hr (fun t ht hW => ⟨⟨(nI u_14), (), rfl, (congrArg Prod.fst (hsp.symm.trans hRR)), ⟨0, ⟨by rw [ht]; exact hP, va_K.moved hW.alike hK, hD⟩, (congrArg Prod.snd (hsp.symm.trans hRR))⟩⟩, hS.F ht⟩) hS.2.2 dX9_condition_69
    · replace hsp := hsp.trans (if_neg hi3)
      refine lv_if_ne (tgt := 25) hx hb dX9_condition_20 (by decide) (fun z => absurd z (by decide)) (fun _ => ?_)
      refine lv_iconst (v := (-1)) hx hb dX9_condition_23 (by decide) ?_
      exact W.iret (v := (-1)) hx hb hr (fun t ht hW => ⟨⟨(-1), (), rfl, (congrArg Prod.fst (hsp.symm.trans hRR)), ⟨0, ⟨by rw [ht]; exact hP, va_K.moved hW.alike hK, hD⟩, (congrArg Prod.snd (hsp.symm.trans hRR))⟩⟩, hS.F ht⟩) hS.2.2 dX9_condition_24
  · replace hsp := hsp.trans (if_pos rfl)
    replace hsp := hsp.trans (if_neg (Int32.not_lt.mpr (nI_le (a := 100) (b := 100 + n_3) (by omega) (by omega))))
    replace hsp := hsp.trans (slet_eq (cl_100 (n := n_3) (by omega)))
    replace hsp := hsp.trans (slet_eq (nI_cl (n := n_4) (by omega)))
    refine lv_if_eq (tgt := 23) hx hb dX9_condition_11 (by decide) (fun z => absurd z (by decide)) (fun _ => ?_)
    refine lv_iload_n hx hb dX9_condition_14 rfl (lv_at hl 3 rfl) ?_
    refine lv_iconst (v := 0) hx hb dX9_condition_15 (by decide) ?_
    refine lv_iconst (v := 2) hx hb dX9_condition_16 (by decide) ?_
    refine va_calli (va_runS (As := [.int p2, .int 0, .int 2]) (rest := []) ⟨hx, hb, hml, hown, hts⟩ (c_X9_in l dC dI _ p2 0 2) (va_cwS 3 hts g_EM_condition_X9_in rfl rfl rfl (by decide +kernel) ⟨Nat.le_of_ble_eq_true rfl, Nat.le_of_ble_eq_true rfl⟩) ⟨pu_bl, pu_in (hP.sub [] rfl) (hK.sub [] rfl) (hD.sub [] (by decide) rfl)⟩ rfl rfl hl.1 rfl (lv_room (Nat.le_of_ble_eq_true rfl)) dX9_condition_17 ⟨Nat.le_of_ble_eq_true rfl, Nat.le_of_ble_eq_true rfl⟩) hS (fun q _ h => pu_fr hS hA q h) (pu_fr hS hA) (fun r_15 u t H1 locs ht hvm hw hB hz1 hk1 hS => ?_)
    have hP := pu_keep hP hk1
    clear hk1 hz1 ht hvm
    generalize H1 = H at hP hS ⊢
    rcases hw with ⟨rfl, hi1, hi2⟩ | ⟨rfl, hi3⟩
    · replace hsp := hsp.trans (if_pos ⟨hi1, hi2⟩)
      obtain ⟨n_16, hn_16, rfl⟩ := pu_in0 (n := 2) (by omega) hi1 hi2
      replace hsp := hsp.trans (slet_eq (nI_cl (n := n_16) (by omega)))
      refine lv_if_ne (tgt := 25) hx hb dX9_condition_20 (by decide) (fun _ => ?_) (fun z => absurd z (by decide))
      refine lv_aload_n hx hb dX9_condition_25 rfl (lv_at hl 0 rfl) ?_
      refine lv_iload_n hx hb dX9_condition_26 rfl (lv_at hl 1 rfl) ?_
      refine lv_iload_n hx hb dX9_condition_27 rfl (lv_at hl 2 rfl) ?_
      refine va_calli (va_runV (As := [.int (nI (100 + n_3)), .int (nI n_4)]) (rest := []) ⟨hx, hb, hml, hown, hts⟩ (c_EM_spot_p l dC dI _ ad ck 0 x16 x18 x19 x20 x21 x22 x23 x24 x25 x26 x27 x28 x29 x30 x33 x45 x46 x52 x53 x61 x62 x63 x65 x66 f1 f2 f3 q4 q5 q6 q7 f8 q9 q10 f11 m12_0 m12_1 m13_0 m13_1 m14_0 m14_1 m15_0 m15_1 f17 q31 f32 f34 f35 f36 f37 q38 f39 f40 f41 m42_0 m42_1 f43 f44 f47 f48 f49 f50 f51 q54 q55 q56 f57 q58 f59 f60 f64 (100 + n_3) n_4 hx16 hx18 hx19 hx21 hx22 hx26 hx28 hx29 hx30 hx33 hx46 hx52 hx53 hx61 hx62 hx63 hx65 hm12_0 hm12_1 hm13_0 hm13_1 hm14_0 hm14_1 hm15_0 hm15_1 hm42_0 hm42_1 (by omega) (by omega) (by omega)) (cwV 2 hts g_EM_condition_EM_spot_p rfl rfl rfl (by decide +kernel) ⟨Nat.le_of_ble_eq_true rfl, Nat.le_of_ble_eq_true rfl⟩) ⟨pu_bl, va_recv hK hP (ci := 9) (q0 := 0) rfl rfl, pu_in hP hK hD⟩ rfl rfl hl.1 rfl (lv_room (Nat.le_of_ble_eq_true rfl)) dX9_condition_28 ⟨Nat.le_of_ble_eq_true rfl, Nat.le_of_ble_eq_true rfl⟩) hS (fun q _ h => pu_fr hS hA q h) (pu_fr hS hA) (fun r_17 u t H1 locs ht hvm hw hB hz1 hk1 hS => ?_)
      have hP := pu_keep hP hk1
      clear hk1 hz1 ht hvm
      generalize H1 = H at hP hS ⊢
      obtain rfl : r_17 = nI (80 * x16 + (56 + 3 * ((100 + n_3) - 100)) + n_4) := hw
      refine lv_istore (lv' := [(4, .int (nI (80 * x16 + (56 + 3 * ((100 + n_3) - 100)) + n_4))), (0, .ref (ad 0)), (1, .int (nI (100 + n_3))), (2, .int (nI n_4)), (3, .int (nI n_16))]) hx hb dX9_condition_31 hl (by decide) rfl (fun ls hl => ?_)
      refine lv_iload_n hx hb dX9_condition_33 rfl (lv_at hl 4 rfl) ?_
      refine lv_if_ne (tgt := 47) hx hb dX9_condition_34 (by decide) (fun c_18 => ?_) (fun c_18 => ?_)
      · have c_18 : ¬ n_16 = 0 := fun z => c_18 ((nI_eq (a := n_16) (b := 0) (by omega) (Nat.le_of_ble_eq_true rfl)).mpr z)
        replace hsp := hsp.trans (if_neg c_18)
        refine lv_iload_n hx hb dX9_condition_47 rfl (lv_at hl 4 rfl) ?_
        refine lv_iconst (v := 1) hx hb dX9_condition_48 (by decide) ?_
        refine lv_icmp_ne (tgt := 62) hx hb dX9_condition_49 (by decide) (fun c_19 => ?_) (fun c_19 => ?_)
        · have c_19 : ¬ n_16 = 1 := fun z => c_19 ((nI_eq (a := n_16) (b := 1) (by omega) (Nat.le_of_ble_eq_true rfl)).mpr z)
          replace hsp := hsp.trans (if_neg c_19)
          refine lv_aload_n hx hb dX9_condition_62 rfl (lv_at hl 1 rfl) ?_
          refine va_get (D := (dC, dI)) (ci := 9) (v := .ref (ad 11)) (C := RX9) (T := TX9) (N := 67) hx hb hts hiX9 hown hK hP 0 rfl rfl 11 (by decide) v_14 (fun _ h9 => h9) rfl dX9_condition_63 ?_
          refine lv_iload hx hb dX9_condition_66 (lv_at hl 0 rfl) ?_
          refine va_iald hx hb hK hP 11 10 rfl rfl (vp_in_nI (n := (80 * x16 + (56 + 3 * ((100 + n_3) - 100)) + n_4)) (by omega) (Nat.le_of_ble_eq_true rfl)) dX9_condition_68 ?_
          refine lv_topi (fun y_20 ey_20 => ?_)
          have ey_20 : y_20 = f11 (80 * x16 + (56 + 3 * ((100 + n_3) - 100)) + n_4) := ey_20.trans (congrArg f11 (nI_clamp (n := (80 * x16 + (56 + 3 * ((100 + n_3) - 100)) + n_4)) (by first | omega | exact Nat.lt_trans (zx16 (by omega) (by omega) (by omega)) (Nat.le_of_ble_eq_true rfl) | exact Nat.lt_trans (zy16 (by omega) (by omega)) (Nat.le_of_ble_eq_true rfl) | exact Nat.lt_trans (zx25 (by omega) (by omega) (by omega)) (Nat.le_of_ble_eq_true rfl) | exact Nat.lt_trans (zy25 (by omega) (by omega)) (Nat.le_of_ble_eq_true rfl))))
          replace hsp := hsp.trans (slet_eq ey_20)
          exact W.iret (v := y_20) hx hb hr (fun t ht hW => ⟨⟨y_20, (), rfl, (congrArg Prod.fst (hsp.symm.trans hRR)), ⟨0, ⟨by rw [ht]; exact hP, va_K.moved hW.alike hK, hD⟩, (congrArg Prod.snd (hsp.symm.trans hRR))⟩⟩, hS.F ht⟩) hS.2.2 dX9_condition_69
        · have c_19 : n_16 = 1 := (nI_eq (a := n_16) (b := 1) (by omega) (Nat.le_of_ble_eq_true rfl)).mp c_19
          replace hsp := hsp.trans (if_pos c_19)
          refine lv_aload_n hx hb dX9_condition_52 rfl (lv_at hl 1 rfl) ?_
          refine va_get (D := (dC, dI)) (ci := 9) (v := .ref (ad 10)) (C := RX9) (T := TX9) (N := 67) hx hb hts hiX9 hown hK hP 0 rfl rfl 10 (by decide) v_15 (fun _ h9 => h9) rfl dX9_condition_53 ?_
          refine lv_iload hx hb dX9_condition_56 (lv_at hl 0 rfl) ?_
          refine va_iald hx hb hK hP 10 9 rfl rfl (vp_in_nI (n := (80 * x16 + (56 + 3 * ((100 + n_3) - 100)) + n_4)) (by omega) (Nat.le_of_ble_eq_true rfl)) dX9_condition_58 ?_
          refine lv_topi (fun y_21 ey_21 => ?_)
          obtain ⟨u_22, hu_22, qu_22, xu_22⟩ := bH_getx q10 (i := (80 * x16 + (56 + 3 * ((100 + n_3) - 100)) + n_4)) (by omega)
          obtain rfl : y_21 = nI u_22 := ey_21.trans qu_22
          replace hsp := hsp.trans (slet_eq xu_22)
          refine lv_goto (tgt := 69) hx hb dX9_condition_59 (by decide) ?_
          exact W.iret (v := (nI u_22)) hx hb hr (fun t ht hW => ⟨⟨(nI u_22), (), rfl, (congrArg Prod.fst (hsp.symm.trans hRR)), ⟨0, ⟨by rw [ht]; exact hP, va_K.moved hW.alike hK, hD⟩, (congrArg Prod.snd (hsp.symm.trans hRR))⟩⟩, hS.F ht⟩) hS.2.2 dX9_condition_69
      · have c_18 : n_16 = 0 := (nI_eq (a := n_16) (b := 0) (by omega) (Nat.le_of_ble_eq_true rfl)).mp c_18
        replace hsp := hsp.trans (if_pos c_18)
        refine lv_aload_n hx hb dX9_condition_37 rfl (lv_at hl 1 rfl) ?_
        refine va_get (D := (dC, dI)) (ci := 9) (v := .ref (ad 9)) (C := RX9) (T := TX9) (N := 67) hx hb hts hiX9 hown hK hP 0 rfl rfl 9 (by decide) v_16 (fun _ h9 => h9) rfl dX9_condition_38 ?_
        refine lv_iload hx hb dX9_condition_41 (lv_at hl 0 rfl) ?_
        refine va_iald hx hb hK hP 9 8 rfl rfl (vp_in_nI (n := (80 * x16 + (56 + 3 * ((100 + n_3) - 100)) + n_4)) (by omega) (Nat.le_of_ble_eq_true rfl)) dX9_condition_43 ?_
        refine lv_topi (fun y_23 ey_23 => ?_)
        obtain ⟨u_24, hu_24, qu_24, xu_24⟩ := bN_getx 2 q9 (n := (80 * x16 + (56 + 3 * ((100 + n_3) - 100)) + n_4)) (by first | omega | exact Nat.lt_trans (zx16 (by omega) (by omega) (by omega)) (Nat.le_of_ble_eq_true rfl) | exact Nat.lt_trans (zy16 (by omega) (by omega)) (Nat.le_of_ble_eq_true rfl) | exact Nat.lt_trans (zx25 (by omega) (by omega) (by omega)) (Nat.le_of_ble_eq_true rfl) | exact Nat.lt_trans (zy25 (by omega) (by omega)) (Nat.le_of_ble_eq_true rfl))
        obtain rfl : y_23 = nI u_24 := ey_23.trans qu_24
        replace hsp := hsp.trans (slet_eq xu_24)
        refine lv_goto (tgt := 69) hx hb dX9_condition_44 (by decide) ?_
        exact W.iret (v := (nI u_24)) hx hb hr (fun t ht hW => ⟨⟨(nI u_24), (), rfl, (congrArg Prod.fst (hsp.symm.trans hRR)), ⟨0, ⟨by rw [ht]; exact hP, va_K.moved hW.alike hK, hD⟩, (congrArg Prod.snd (hsp.symm.trans hRR))⟩⟩, hS.F ht⟩) hS.2.2 dX9_condition_69
    · replace hsp := hsp.trans (if_neg hi3)
      refine lv_if_ne (tgt := 25) hx hb dX9_condition_20 (by decide) (fun z => absurd z (by decide)) (fun _ => ?_)
      refine lv_iconst (v := (-1)) hx hb dX9_condition_23 (by decide) ?_
      exact W.iret (v := (-1)) hx hb hr (fun t ht hW => ⟨⟨(-1), (), rfl, (congrArg Prod.fst (hsp.symm.trans hRR)), ⟨0, ⟨by rw [ht]; exact hP, va_K.moved hW.alike hK, hD⟩, (congrArg Prod.snd (hsp.symm.trans hRR))⟩⟩, hS.F ht⟩) hS.2.2 dX9_condition_24
  · replace hsp := hsp.trans (if_neg (by decide))
    refine lv_if_eq (tgt := 23) hx hb dX9_condition_11 (by decide) (fun _ => ?_) (fun z => absurd z (by decide))
    refine lv_iconst (v := (-1)) hx hb dX9_condition_23 (by decide) ?_
    exact W.iret (v := (-1)) hx hb hr (fun t ht hW => ⟨⟨(-1), (), rfl, (congrArg Prod.fst (hsp.symm.trans hRR)), ⟨0, ⟨by rw [ht]; exact hP, va_K.moved hW.alike hK, hD⟩, (congrArg Prod.snd (hsp.symm.trans hRR))⟩⟩, hS.F ht⟩) hS.2.2 dX9_condition_24
abbrev vs_EM_manyOf_n : List Cond := .code yX9_manyOf cX9_manyOf 2 (some .int) :: VM
theorem g_EM_manyOf_n_EM_isEdge : GoodIn vs_EM_manyOf_n (wsV RX9 283 RX9 yX9_isEdge vs_EM_isEdge) := gm_V vm_144 vm_145 vm_146 vm_19 vm_147
theorem g_EM_manyOf_n_EM_isPlace : GoodIn vs_EM_manyOf_n (wsV RX9 286 RX9 yX9_isPlace vs_EM_isPlace) := gm_V vm_148 vm_149 vm_150 vm_19 vm_151
theorem g_EM_manyOf_n_EM_isPlace_k : GoodIn vs_EM_manyOf_n (wsV RX9 286 RX9 yX9_isPlace vs_EM_isPlace_k) := gm_V vm_148 vm_149 vm_150 vm_19 vm_151
noncomputable def sp_EM_manyOf_n (x16 : Nat) (q4 : Nat → Nat) (q7 : Nat → Nat) (m13_0 : Nat) (m13_1 : Nat) (m14_0 : Nat) (m14_1 : Nat) (a0 : Nat) : Nat := (if (0 : Int32) ≤ (nI a0) ∧ (nI a0) < nI (bkN x16 m14_0 m14_1) then (slet (min (q7 ((14 * x16) + a0)) 4) (fun u_6 => (u_6 + 1))) else (if a0 < 100 then (slet (((nI a0) : Int32) - 100) (fun y_7 => (if (0 : Int32) ≤ y_7 ∧ y_7 < nI (bkN x16 m13_0 m13_1) then (slet ((y_7 : Int32).toNatClampNeg) (fun n_9 => default)) else 0))) else (slet (sp_EM_isPlace_k x16 m13_0 m13_1 (a0 - 100)) (fun u_12 => (if u_12 = 0 then 0 else (slet (min (q4 (((8 * x16) + a0) - 100)) 3) (fun u_18 => (u_18 + 1))))))))
set_option maxHeartbeats 4000000 in
set_option maxRecDepth 100000 in
theorem c_EM_manyOf_n (l : Launch) (dC : Nat → ClassId) (dI : Nat → Nat → Nat) (sz : Nat) (ad : Nat → Nat) (ck : Nat → ClassId) (x0 : Int32) (x16 : Nat) (x18 : Nat) (x19 : Nat) (x20 : Int32) (x21 : Nat) (x22 : Nat) (x23 : Int32) (x24 : Int32) (x25 : Int32) (x26 : Nat) (x27 : Int32) (x28 : Nat) (x29 : Nat) (x30 : Nat) (x33 : Nat) (x45 : Int32) (x46 : Nat) (x52 : Nat) (x53 : Nat) (x61 : Nat) (x62 : Nat) (x63 : Nat) (x65 : Nat) (x66 : Int32) (f1 : Nat → Int32) (f2 : Nat → Int32) (f3 : Nat → Int32) (q4 : Nat → Nat) (q5 : Nat → Nat) (q6 : Nat → Nat) (q7 : Nat → Nat) (f8 : Nat → Int32) (q9 : Nat → Nat) (q10 : Nat → Nat) (f11 : Nat → Int32) (m12_0 m12_1 : Nat) (m13_0 m13_1 : Nat) (m14_0 m14_1 : Nat) (m15_0 m15_1 : Nat) (f17 : Nat → Int32) (q31 : Nat → Nat) (f32 : Nat → Int32) (f34 : Nat → Int32) (f35 : Nat → Int32) (f36 : Nat → Int32) (f37 : Nat → Int32) (q38 : Nat → Nat) (f39 : Nat → Int32) (f40 : Nat → Int32) (f41 : Nat → Int32) (m42_0 m42_1 : Nat) (f43 : Nat → Int32) (f44 : Nat → Int32) (f47 : Nat → Int32) (f48 : Nat → Int32) (f49 : Nat → Int32) (f50 : Nat → Int32) (f51 : Nat → Int32) (q54 : Nat → Nat) (q55 : Nat → Nat) (q56 : Nat → Nat) (f57 : Nat → Int32) (q58 : Nat → Nat) (f59 : Nat → Int32) (f60 : Nat → Int32) (f64 : Nat → Int32) (a0 : Nat) (hx16 : x16 ≤ 1) (hx18 : x18 ≤ 900) (hx19 : x19 ≤ 900) (hx21 : x21 ≤ 900) (hx22 : x22 ≤ 4) (hx26 : x26 ≤ 6) (hx28 : x28 ≤ 1) (hx29 : x29 ≤ 1) (hx30 : x30 ≤ 1) (hx33 : x33 ≤ 20) (hx46 : x46 ≤ 5) (hx52 : x52 ≤ 2400) (hx53 : x53 ≤ 119) (hx61 : x61 ≤ 119) (hx62 : x62 ≤ 2000) (hx63 : x63 ≤ 1) (hx65 : x65 ≤ 7) (hm12_0 : m12_0 ≤ 3) (hm12_1 : m12_1 ≤ 3) (hm13_0 : m13_0 ≤ 8) (hm13_1 : m13_1 ≤ 8) (hm14_0 : m14_0 ≤ 14) (hm14_1 : m14_1 ≤ 14) (hm15_0 : m15_0 ≤ 8) (hm15_1 : m15_1 ≤ 8) (hm42_0 : m42_0 ≤ 120) (hm42_1 : m42_1 ≤ 400) (ha0 : a0 ≤ 107) : Met l yX9_manyOf vs_EM_manyOf_n ({ frames := 2, cells := 0, slots := 0, locals := 43 }) (va_Pc [.ref (ad 0), .int (nI a0)] (pu_B (dC, dI) (mo_w ad ck x0 (nI x16) (nI x18) (nI x19) x20 (nI x21) (nI x22) x23 x24 x25 (nI x26) x27 (nI x28) (nI x29) (nI x30) (nI x33) x45 (nI x46) (nI x52) (nI x53) (nI x61) (nI x62) (nI x63) (nI x65) x66 f1 f2 f3 (bN 3 q4) (bN 7 q5) (bN 7 q6) (bN 4 q7) f8 (bN 2 q9) (bH q10) f11 (b2 m12_0 m12_1) (b2 m13_0 m13_1) (b2 m14_0 m14_1) (b2m m15_0 m15_1) f17 (bA 159 q31) f32 f34 f35 f36 f37 (bN 7 q38) f39 f40 f41 (b2 m42_0 m42_1) f43 f44 f47 f48 f49 f50 f51 (bN 13 q54) (bN 120 q55) (bN 120 q56) f57 (bN 120 q58) f59 f60 f64) (mo_t ck) sz)) (va_Qi (fun (r : Int32) (_ : Unit) => ∃ v : Nat, v ≤ 5 ∧ r = mI v ∧ ((v = 0 ∨ (∃ u : Nat, u ≤ 4 ∧ a0 ≤ 13 ∧ v = u + 1) ∨ (∃ u : Nat, u ≤ 3 ∧ 100 ≤ a0 ∧ v = u + 1)) ∧ v = (sp_EM_manyOf_n x16 q4 q7 m13_0 m13_1 m14_0 m14_1 a0))) (fun _ _ => True) (va_A [] sz)) 0 0 (va_A [] sz) := by
  refine Met.ofW (cc := cX9_manyOf) (maxL := 2) (ret := (some .int)) (by decide) rfl ?_
  intro p e s m args below meth c s₁ B hml hv
  obtain ⟨rfl, rfl, hP, hK, hD0⟩ := hv
  have hx := B.exec
  have hb := B.bytes
  have hr := B.returns
  have hts := atoms_spec (ws := vs_EM_manyOf_n) B.pre
  have v_6 := hts (.fieldLink RX9 28 "ClockReachModel" "whens" "[I") (List.mem_cons_of_mem _ vm_117)
  have v_7 := hts (.fieldLink RX9 258 "ClockReachModel" "bank" "I") (List.mem_cons_of_mem _ vm_4)
  have v_12 := hts (.fieldLink RX9 19 "ClockReachModel" "untils" "[I") (List.mem_cons_of_mem _ vm_109)
  have hown : s.vm.findClass RX9 = some m.cls := findClass_of_methodNamed B.named
  have hlocks := B.notSynchronized
  have hiX9 : ∀ w ∈ wsX90, w ∈ vs_EM_manyOf_n := fun _ h => List.mem_cons_of_mem _ (vmi_L h)
  have hD := hD0
  have hA : ∀ q : Nat, s.heap.size ≤ q → va_A [] s.heap.size q := fun _ h => Or.inr h
  have hS : va_S (va_A [] s.heap.size) s.heap s.heap [] := va_S.rf
  have hl := lv_entry ([.ref (ad 0), .int (nI a0)]) (n := 2) (Nat.le_of_ble_eq_true rfl)
  rw [lg_entry_eq]
  generalize (lg_sl ([.ref (ad 0), .int (nI a0)]) ++ List.replicate (2 - (lg_sl ([.ref (ad 0), .int (nI a0)])).length) Slot.unset).toArray = ls at hl ⊢
  have hl : lv_has ls 2 [(0, .ref (ad 0)), (1, .int (nI a0))] := hl
  obtain ⟨RR, hRR⟩ : ∃ x, x = (sp_EM_manyOf_n x16 q4 q7 m13_0 m13_1 m14_0 m14_1 a0) := ⟨_, rfl⟩
  have hsp := hRR
  refine lv_aload_n hx hb dX9_manyOf_0 rfl (lv_at hl 0 rfl) ?_
  refine lv_iload_n hx hb dX9_manyOf_1 rfl (lv_at hl 1 rfl) ?_
  refine va_calli (va_runV (As := [.int (nI a0)]) (rest := []) ⟨hx, hb, hml, hown, hts⟩ (c_EM_isEdge l dC dI _ ad ck x0 x16 x18 x19 x20 x21 x22 x23 x24 x25 x26 x27 x28 x29 x30 x33 x45 x46 x52 x53 x61 x62 x63 x65 x66 f1 f2 f3 q4 q5 q6 q7 f8 q9 q10 f11 m12_0 m12_1 m13_0 m13_1 m14_0 m14_1 m15_0 m15_1 f17 q31 f32 f34 f35 f36 f37 q38 f39 f40 f41 m42_0 m42_1 f43 f44 f47 f48 f49 f50 f51 q54 q55 q56 f57 q58 f59 f60 f64 (nI a0) hx16 hx18 hx19 hx21 hx22 hx26 hx28 hx29 hx30 hx33 hx46 hx52 hx53 hx61 hx62 hx63 hx65 hm12_0 hm12_1 hm13_0 hm13_1 hm14_0 hm14_1 hm15_0 hm15_1 hm42_0 hm42_1) (cwV 1 hts g_EM_manyOf_n_EM_isEdge rfl rfl rfl (by decide +kernel) ⟨Nat.le_of_ble_eq_true rfl, Nat.le_of_ble_eq_true rfl⟩) ⟨pu_bl, va_recv hK hP (ci := 9) (q0 := 0) rfl rfl, pu_in hP hK hD⟩ rfl rfl hl.1 rfl (lv_room (Nat.le_of_ble_eq_true rfl)) dX9_manyOf_2 ⟨Nat.le_of_ble_eq_true rfl, Nat.le_of_ble_eq_true rfl⟩) hS (fun q _ h => pu_fr hS hA q h) (pu_fr hS hA) (fun r_1 u t H1 locs ht hvm hw hB hz1 hk1 hS => ?_)
  have hP := pu_keep hP hk1
  clear hk1 hz1 ht hvm
  generalize H1 = H at hP hS ⊢
  rcases hw with ⟨rfl, hw⟩ | ⟨rfl, hn⟩
  · obtain ⟨n_2, hn_2, en_2⟩ := hw
    replace hsp := hsp.trans (if_pos (in_c hn_2 ⟨by omega, by omega⟩ en_2))
    have en_2 := (nI_eq (a := a0) (b := n_2) (by omega) (by omega)).mp en_2
    refine lv_if_eq (tgt := 25) hx hb dX9_manyOf_5 (by decide) (fun z => absurd z (by decide)) (fun _ => ?_)
    refine lv_aload_n hx hb dX9_manyOf_8 rfl (lv_at hl 0 rfl) ?_
    refine va_get (D := (dC, dI)) (ci := 9) (v := .ref (ad 7)) (C := RX9) (T := TX9) (N := 67) hx hb hts hiX9 hown hK hP 0 rfl rfl 7 (by decide) v_6 (fun _ h9 => h9) rfl dX9_manyOf_9 ?_
    refine lv_bipush (v := 14) hx hb dX9_manyOf_12 (by decide) ?_
    refine lv_aload_n hx hb dX9_manyOf_14 rfl (lv_at hl 0 rfl) ?_
    refine va_get (D := (dC, dI)) (ci := 9) (v := .int (nI x16)) (C := RX9) (T := TX9) (N := 67) hx hb hts hiX9 hown hK hP 0 rfl rfl 16 (by decide) v_7 (fun _ h9 => h9) rfl dX9_manyOf_15 ?_
    refine lv_imul hx hb dX9_manyOf_18 ?_
    refine lv_topi (fun y_3 ey_3 => ?_)
    obtain rfl : y_3 = (nI (14 * x16)) := ey_3.trans (pk_mul 14 x16)
    refine lv_iload_n hx hb dX9_manyOf_19 rfl (lv_at hl 1 rfl) ?_
    refine lv_iadd hx hb dX9_manyOf_20 ?_
    refine lv_topi (fun y_4 ey_4 => ?_)
    obtain rfl : y_4 = (nI ((14 * x16) + a0)) := ey_4.trans (nI_add (14 * x16) a0)
    refine va_iald hx hb hK hP 7 6 rfl rfl (vp_in_nI (n := ((14 * x16) + a0)) (by omega) (Nat.le_of_ble_eq_true rfl)) dX9_manyOf_21 ?_
    refine lv_topi (fun y_5 ey_5 => ?_)
    obtain ⟨u_6, hu_6, qu_6, xu_6⟩ := bN_getx 4 q7 (n := ((14 * x16) + a0)) (by first | omega | exact Nat.lt_trans (zx16 (by omega) (by omega) (by omega)) (Nat.le_of_ble_eq_true rfl) | exact Nat.lt_trans (zy16 (by omega) (by omega)) (Nat.le_of_ble_eq_true rfl) | exact Nat.lt_trans (zx25 (by omega) (by omega) (by omega)) (Nat.le_of_ble_eq_true rfl) | exact Nat.lt_trans (zy25 (by omega) (by omega)) (Nat.le_of_ble_eq_true rfl))
    obtain rfl : y_5 = nI u_6 := ey_5.trans qu_6
    replace hsp := hsp.trans (slet_eq xu_6)
    refine lv_goto (tgt := 57) hx hb dX9_manyOf_22 (by decide) ?_
    exact W.iret (v := (nI u_6)) hx hb hr (fun t ht hW => ⟨⟨(nI u_6), (), rfl, ⟨u_6 + 1, by omega, rfl, by first | exact Or.inr (Or.inl ⟨u_6, by omega, by omega, rfl⟩) | exact Or.inr (Or.inr ⟨u_6, by omega, by omega, rfl⟩), (hsp.symm.trans hRR)⟩, trivial⟩, hS.F ht⟩) hS.2.2 dX9_manyOf_57
  · replace hsp := hsp.trans (if_neg hn)
    refine lv_if_eq (tgt := 25) hx hb dX9_manyOf_5 (by decide) (fun _ => ?_) (fun z => absurd z (by decide))
    rcases Nat.lt_or_ge a0 100 with hlt | hge
    · replace hsp := hsp.trans (if_pos hlt)
      refine lv_aload_n hx hb dX9_manyOf_25 rfl (lv_at hl 0 rfl) ?_
      refine lv_iload_n hx hb dX9_manyOf_26 rfl (lv_at hl 1 rfl) ?_
      refine lv_bipush (v := 100) hx hb dX9_manyOf_27 (by decide) ?_
      refine lv_isub hx hb dX9_manyOf_29 ?_
      refine lv_topi (fun y_7 ey_7 => ?_)
      replace hsp := hsp.trans (slet_eq ey_7)
      refine va_calli (va_runV (As := [.int y_7]) (rest := []) ⟨hx, hb, hml, hown, hts⟩ (c_EM_isPlace l dC dI _ ad ck x0 x16 x18 x19 x20 x21 x22 x23 x24 x25 x26 x27 x28 x29 x30 x33 x45 x46 x52 x53 x61 x62 x63 x65 x66 f1 f2 f3 q4 q5 q6 q7 f8 q9 q10 f11 m12_0 m12_1 m13_0 m13_1 m14_0 m14_1 m15_0 m15_1 f17 q31 f32 f34 f35 f36 f37 q38 f39 f40 f41 m42_0 m42_1 f43 f44 f47 f48 f49 f50 f51 q54 q55 q56 f57 q58 f59 f60 f64 y_7 hx16 hx18 hx19 hx21 hx22 hx26 hx28 hx29 hx30 hx33 hx46 hx52 hx53 hx61 hx62 hx63 hx65 hm12_0 hm12_1 hm13_0 hm13_1 hm14_0 hm14_1 hm15_0 hm15_1 hm42_0 hm42_1) (cwV 1 hts g_EM_manyOf_n_EM_isPlace rfl rfl rfl (by decide +kernel) ⟨Nat.le_of_ble_eq_true rfl, Nat.le_of_ble_eq_true rfl⟩) ⟨pu_bl, va_recv hK hP (ci := 9) (q0 := 0) rfl rfl, pu_in hP hK hD⟩ rfl rfl hl.1 rfl (lv_room (Nat.le_of_ble_eq_true rfl)) dX9_manyOf_30 ⟨Nat.le_of_ble_eq_true rfl, Nat.le_of_ble_eq_true rfl⟩) hS (fun q _ h => pu_fr hS hA q h) (pu_fr hS hA) (fun r_8 u t H1 locs ht hvm hw hB hz1 hk1 hS => ?_)
      have hP := pu_keep hP hk1
      clear hk1 hz1 ht hvm
      generalize H1 = H at hP hS ⊢
      rcases hw with ⟨rfl, hw⟩ | ⟨rfl, hn⟩
      · obtain ⟨n_9, hn_9, en_9⟩ := hw
        replace hsp := hsp.trans (if_pos (in_c hn_9 ⟨by omega, by omega⟩ en_9))
        subst en_9
        replace hsp := hsp.trans (slet_eq (nI_cl (n := n_9) (by omega)))
        exfalso
        have hz := (nI_eq (a := a0) (by omega) (by omega)).mp (pu_p100 ey_7)
        omega
      · replace hsp := hsp.trans (if_neg hn)
        refine lv_if_eq (tgt := 56) hx hb dX9_manyOf_33 (by decide) (fun _ => ?_) (fun z => absurd z (by decide))
        refine lv_iconst (v := (-1)) hx hb dX9_manyOf_56 (by decide) ?_
        exact W.iret (v := (-1)) hx hb hr (fun t ht hW => ⟨⟨(-1), (), rfl, ⟨0, by omega, rfl, Or.inl rfl, (hsp.symm.trans hRR)⟩, trivial⟩, hS.F ht⟩) hS.2.2 dX9_manyOf_57
    · replace hsp := hsp.trans (if_neg (Nat.not_lt.mpr hge))
      refine lv_aload_n hx hb dX9_manyOf_25 rfl (lv_at hl 0 rfl) ?_
      refine lv_iload_n hx hb dX9_manyOf_26 rfl (lv_at hl 1 rfl) ?_
      refine lv_bipush (v := 100) hx hb dX9_manyOf_27 (by decide) ?_
      refine lv_isub hx hb dX9_manyOf_29 ?_
      refine lv_topi (fun y_10 ey_10 => ?_)
      obtain rfl : y_10 = (nI (a0 - 100)) := ey_10.trans (pk_sub (a := a0) (b := 100) (by omega))
      refine va_calli (va_runV (As := [.int (nI (a0 - 100))]) (rest := []) ⟨hx, hb, hml, hown, hts⟩ (c_EM_isPlace_k l dC dI _ ad ck x0 x16 x18 x19 x20 x21 x22 x23 x24 x25 x26 x27 x28 x29 x30 x33 x45 x46 x52 x53 x61 x62 x63 x65 x66 f1 f2 f3 q4 q5 q6 q7 f8 q9 q10 f11 m12_0 m12_1 m13_0 m13_1 m14_0 m14_1 m15_0 m15_1 f17 q31 f32 f34 f35 f36 f37 q38 f39 f40 f41 m42_0 m42_1 f43 f44 f47 f48 f49 f50 f51 q54 q55 q56 f57 q58 f59 f60 f64 (a0 - 100) hx16 hx18 hx19 hx21 hx22 hx26 hx28 hx29 hx30 hx33 hx46 hx52 hx53 hx61 hx62 hx63 hx65 hm12_0 hm12_1 hm13_0 hm13_1 hm14_0 hm14_1 hm15_0 hm15_1 hm42_0 hm42_1 (by omega)) (cwV 1 hts g_EM_manyOf_n_EM_isPlace_k rfl rfl rfl (by decide +kernel) ⟨Nat.le_of_ble_eq_true rfl, Nat.le_of_ble_eq_true rfl⟩) ⟨pu_bl, va_recv hK hP (ci := 9) (q0 := 0) rfl rfl, pu_in hP hK hD⟩ rfl rfl hl.1 rfl (lv_room (Nat.le_of_ble_eq_true rfl)) dX9_manyOf_30 ⟨Nat.le_of_ble_eq_true rfl, Nat.le_of_ble_eq_true rfl⟩) hS (fun q _ h => pu_fr hS hA q h) (pu_fr hS hA) (fun r_11 u t H1 locs ht hvm hw hB hz1 hk1 hS => ?_)
      have hP := pu_keep hP hk1
      clear hk1 hz1 ht hvm
      generalize H1 = H at hP hS ⊢
      obtain ⟨u_12, hu_12, rfl, iu_12⟩ := hw
      replace hsp := hsp.trans (slet_eq iu_12)
      refine lv_if_eq (tgt := 56) hx hb dX9_manyOf_33 (by decide) (fun c_13 => ?_) (fun c_13 => ?_)
      · have c_13 : u_12 = 0 := (nI_eq (a := u_12) (b := 0) (Nat.lt_of_le_of_lt hu_12 (Nat.le_of_ble_eq_true rfl)) (Nat.le_of_ble_eq_true rfl)).mp c_13
        replace hsp := hsp.trans (if_pos c_13)
        refine lv_iconst (v := (-1)) hx hb dX9_manyOf_56 (by decide) ?_
        exact W.iret (v := (-1)) hx hb hr (fun t ht hW => ⟨⟨(-1), (), rfl, ⟨0, by omega, rfl, Or.inl rfl, (hsp.symm.trans hRR)⟩, trivial⟩, hS.F ht⟩) hS.2.2 dX9_manyOf_57
      · have c_13 : ¬ u_12 = 0 := fun z => c_13 ((nI_eq (a := u_12) (b := 0) (Nat.lt_of_le_of_lt hu_12 (Nat.le_of_ble_eq_true rfl)) (Nat.le_of_ble_eq_true rfl)).mpr z)
        replace hsp := hsp.trans (if_neg c_13)
        refine lv_aload_n hx hb dX9_manyOf_36 rfl (lv_at hl 0 rfl) ?_
        refine va_get (D := (dC, dI)) (ci := 9) (v := .ref (ad 4)) (C := RX9) (T := TX9) (N := 67) hx hb hts hiX9 hown hK hP 0 rfl rfl 4 (by decide) v_12 (fun _ h9 => h9) rfl dX9_manyOf_37 ?_
        refine lv_bipush (v := 8) hx hb dX9_manyOf_40 (by decide) ?_
        refine lv_aload_n hx hb dX9_manyOf_42 rfl (lv_at hl 0 rfl) ?_
        refine va_get (D := (dC, dI)) (ci := 9) (v := .int (nI x16)) (C := RX9) (T := TX9) (N := 67) hx hb hts hiX9 hown hK hP 0 rfl rfl 16 (by decide) v_7 (fun _ h9 => h9) rfl dX9_manyOf_43 ?_
        refine lv_imul hx hb dX9_manyOf_46 ?_
        refine lv_topi (fun y_14 ey_14 => ?_)
        obtain rfl : y_14 = (nI (8 * x16)) := ey_14.trans (pk_mul 8 x16)
        refine lv_iload_n hx hb dX9_manyOf_47 rfl (lv_at hl 1 rfl) ?_
        refine lv_iadd hx hb dX9_manyOf_48 ?_
        refine lv_topi (fun y_15 ey_15 => ?_)
        obtain rfl : y_15 = (nI ((8 * x16) + a0)) := ey_15.trans (nI_add (8 * x16) a0)
        refine lv_bipush (v := 100) hx hb dX9_manyOf_49 (by decide) ?_
        refine lv_isub hx hb dX9_manyOf_51 ?_
        refine lv_topi (fun y_16 ey_16 => ?_)
        obtain rfl : y_16 = (nI (((8 * x16) + a0) - 100)) := ey_16.trans (pk_sub (a := ((8 * x16) + a0)) (b := 100) (by omega))
        refine va_iald hx hb hK hP 4 3 rfl rfl (vp_in_nI (n := (((8 * x16) + a0) - 100)) (by omega) (Nat.le_of_ble_eq_true rfl)) dX9_manyOf_52 ?_
        refine lv_topi (fun y_17 ey_17 => ?_)
        obtain ⟨u_18, hu_18, qu_18, xu_18⟩ := bN_getx 3 q4 (n := (((8 * x16) + a0) - 100)) (by first | omega | exact Nat.lt_trans (zx16 (by omega) (by omega) (by omega)) (Nat.le_of_ble_eq_true rfl) | exact Nat.lt_trans (zy16 (by omega) (by omega)) (Nat.le_of_ble_eq_true rfl) | exact Nat.lt_trans (zx25 (by omega) (by omega) (by omega)) (Nat.le_of_ble_eq_true rfl) | exact Nat.lt_trans (zy25 (by omega) (by omega)) (Nat.le_of_ble_eq_true rfl))
        obtain rfl : y_17 = nI u_18 := ey_17.trans qu_18
        replace hsp := hsp.trans (slet_eq xu_18)
        refine lv_goto (tgt := 57) hx hb dX9_manyOf_53 (by decide) ?_
        exact W.iret (v := (nI u_18)) hx hb hr (fun t ht hW => ⟨⟨(nI u_18), (), rfl, ⟨u_18 + 1, by omega, rfl, by first | exact Or.inr (Or.inl ⟨u_18, by omega, by omega, rfl⟩) | exact Or.inr (Or.inr ⟨u_18, by omega, by omega, rfl⟩), (hsp.symm.trans hRR)⟩, trivial⟩, hS.F ht⟩) hS.2.2 dX9_manyOf_57
theorem dX9_about_0 : decode cX9_about 0 = .ok (.aload_n 0, 1) := by decide +kernel
theorem dX9_about_1 : decode cX9_about 1 = .ok (.iconst 0, 1) := by decide +kernel
theorem dX9_about_2 : decode cX9_about 2 = .ok (.putfield 142, 3) := by decide +kernel
theorem dX9_about_5 : decode cX9_about 5 = .ok (.iconst 0, 1) := by decide +kernel
theorem dX9_about_6 : decode cX9_about 6 = .ok (.istore_n 2, 1) := by decide +kernel
theorem dX9_about_7 : decode cX9_about 7 = .ok (.iload_n 1, 1) := by decide +kernel
theorem dX9_about_8 : decode cX9_about 8 = .ok (.tableswitch 224 0 9 #[56, 61, 71, 81, 91, 154, 172, 198, 214, 219], 56) := by decide +kernel
theorem dX9_about_64 : decode cX9_about 64 = .ok (.aload_n 0, 1) := by decide +kernel
theorem dX9_about_65 : decode cX9_about 65 = .ok (.invokevirtual 280, 3) := by decide +kernel
theorem dX9_about_68 : decode cX9_about 68 = .ok (.ireturn, 1) := by decide +kernel
theorem dX9_about_69 : decode cX9_about 69 = .ok (.aload_n 0, 1) := by decide +kernel
theorem dX9_about_70 : decode cX9_about 70 = .ok (.getfield 46, 3) := by decide +kernel
theorem dX9_about_73 : decode cX9_about 73 = .ok (.aload_n 0, 1) := by decide +kernel
theorem dX9_about_74 : decode cX9_about 74 = .ok (.getfield 258, 3) := by decide +kernel
theorem dX9_about_77 : decode cX9_about 77 = .ok (.iaload, 1) := by decide +kernel
theorem dX9_about_78 : decode cX9_about 78 = .ok (.ireturn, 1) := by decide +kernel
theorem dX9_about_79 : decode cX9_about 79 = .ok (.aload_n 0, 1) := by decide +kernel
theorem dX9_about_80 : decode cX9_about 80 = .ok (.getfield 49, 3) := by decide +kernel
theorem dX9_about_83 : decode cX9_about 83 = .ok (.aload_n 0, 1) := by decide +kernel
theorem dX9_about_84 : decode cX9_about 84 = .ok (.getfield 258, 3) := by decide +kernel
theorem dX9_about_87 : decode cX9_about 87 = .ok (.iaload, 1) := by decide +kernel
theorem dX9_about_88 : decode cX9_about 88 = .ok (.ireturn, 1) := by decide +kernel
theorem dX9_about_89 : decode cX9_about 89 = .ok (.aload_n 0, 1) := by decide +kernel
theorem dX9_about_90 : decode cX9_about 90 = .ok (.getfield 52, 3) := by decide +kernel
theorem dX9_about_93 : decode cX9_about 93 = .ok (.aload_n 0, 1) := by decide +kernel
theorem dX9_about_94 : decode cX9_about 94 = .ok (.getfield 258, 3) := by decide +kernel
theorem dX9_about_97 : decode cX9_about 97 = .ok (.iaload, 1) := by decide +kernel
theorem dX9_about_98 : decode cX9_about 98 = .ok (.ireturn, 1) := by decide +kernel
theorem dX9_about_99 : decode cX9_about 99 = .ok (.iconst 0, 1) := by decide +kernel
theorem dX9_about_100 : decode cX9_about 100 = .ok (.istore_n 3, 1) := by decide +kernel
theorem dX9_about_101 : decode cX9_about 101 = .ok (.iload_n 3, 1) := by decide +kernel
theorem dX9_about_102 : decode cX9_about 102 = .ok (.aload_n 0, 1) := by decide +kernel
theorem dX9_about_103 : decode cX9_about 103 = .ok (.getfield 49, 3) := by decide +kernel
theorem dX9_about_106 : decode cX9_about 106 = .ok (.aload_n 0, 1) := by decide +kernel
theorem dX9_about_107 : decode cX9_about 107 = .ok (.getfield 258, 3) := by decide +kernel
theorem dX9_about_110 : decode cX9_about 110 = .ok (.iaload, 1) := by decide +kernel
theorem dX9_about_111 : decode cX9_about 111 = .ok (.if_icmp .ge 17, 3) := by decide +kernel
theorem dX9_about_114 : decode cX9_about 114 = .ok (.iload_n 2, 1) := by decide +kernel
theorem dX9_about_115 : decode cX9_about 115 = .ok (.aload_n 0, 1) := by decide +kernel
theorem dX9_about_116 : decode cX9_about 116 = .ok (.iload_n 3, 1) := by decide +kernel
theorem dX9_about_117 : decode cX9_about 117 = .ok (.invokevirtual 295, 3) := by decide +kernel
theorem dX9_about_120 : decode cX9_about 120 = .ok (.iadd, 1) := by decide +kernel
theorem dX9_about_121 : decode cX9_about 121 = .ok (.istore_n 2, 1) := by decide +kernel
theorem dX9_about_122 : decode cX9_about 122 = .ok (.iinc 3 1, 3) := by decide +kernel
theorem dX9_about_125 : decode cX9_about 125 = .ok (.goto (-24), 3) := by decide +kernel
theorem dX9_about_128 : decode cX9_about 128 = .ok (.iconst 0, 1) := by decide +kernel
theorem dX9_about_129 : decode cX9_about 129 = .ok (.istore_n 3, 1) := by decide +kernel
theorem dX9_about_130 : decode cX9_about 130 = .ok (.iload_n 3, 1) := by decide +kernel
theorem dX9_about_131 : decode cX9_about 131 = .ok (.aload_n 0, 1) := by decide +kernel
theorem dX9_about_132 : decode cX9_about 132 = .ok (.getfield 46, 3) := by decide +kernel
theorem dX9_about_135 : decode cX9_about 135 = .ok (.aload_n 0, 1) := by decide +kernel
theorem dX9_about_136 : decode cX9_about 136 = .ok (.getfield 258, 3) := by decide +kernel
theorem dX9_about_139 : decode cX9_about 139 = .ok (.iaload, 1) := by decide +kernel
theorem dX9_about_140 : decode cX9_about 140 = .ok (.if_icmp .ge 20, 3) := by decide +kernel
theorem dX9_about_143 : decode cX9_about 143 = .ok (.iload_n 2, 1) := by decide +kernel
theorem dX9_about_144 : decode cX9_about 144 = .ok (.aload_n 0, 1) := by decide +kernel
theorem dX9_about_145 : decode cX9_about 145 = .ok (.bipush 100, 2) := by decide +kernel
theorem dX9_about_147 : decode cX9_about 147 = .ok (.iload_n 3, 1) := by decide +kernel
theorem dX9_about_148 : decode cX9_about 148 = .ok (.iadd, 1) := by decide +kernel
theorem dX9_about_149 : decode cX9_about 149 = .ok (.invokevirtual 295, 3) := by decide +kernel
theorem dX9_about_152 : decode cX9_about 152 = .ok (.iadd, 1) := by decide +kernel
theorem dX9_about_153 : decode cX9_about 153 = .ok (.istore_n 2, 1) := by decide +kernel
theorem dX9_about_154 : decode cX9_about 154 = .ok (.iinc 3 1, 3) := by decide +kernel
theorem dX9_about_157 : decode cX9_about 157 = .ok (.goto (-27), 3) := by decide +kernel
theorem dX9_about_160 : decode cX9_about 160 = .ok (.iload_n 2, 1) := by decide +kernel
theorem dX9_about_161 : decode cX9_about 161 = .ok (.ireturn, 1) := by decide +kernel
theorem dX9_about_162 : decode cX9_about 162 = .ok (.aload_n 0, 1) := by decide +kernel
theorem dX9_about_163 : decode cX9_about 163 = .ok (.getfield 273, 3) := by decide +kernel
theorem dX9_about_166 : decode cX9_about 166 = .ok (.ifCond .eq 12, 3) := by decide +kernel
theorem dX9_about_169 : decode cX9_about 169 = .ok (.aload_n 0, 1) := by decide +kernel
theorem dX9_about_170 : decode cX9_about 170 = .ok (.getfield 92, 3) := by decide +kernel
theorem dX9_about_173 : decode cX9_about 173 = .ok (.iconst 0, 1) := by decide +kernel
theorem dX9_about_174 : decode cX9_about 174 = .ok (.iaload, 1) := by decide +kernel
theorem dX9_about_175 : decode cX9_about 175 = .ok (.goto 4, 3) := by decide +kernel
theorem dX9_about_178 : decode cX9_about 178 = .ok (.iconst (-1), 1) := by decide +kernel
theorem dX9_about_179 : decode cX9_about 179 = .ok (.ireturn, 1) := by decide +kernel
theorem dX9_about_180 : decode cX9_about 180 = .ok (.aload_n 0, 1) := by decide +kernel
theorem dX9_about_181 : decode cX9_about 181 = .ok (.getfield 273, 3) := by decide +kernel
theorem dX9_about_184 : decode cX9_about 184 = .ok (.ifCond .eq 20, 3) := by decide +kernel
theorem dX9_about_187 : decode cX9_about 187 = .ok (.aload_n 0, 1) := by decide +kernel
theorem dX9_about_188 : decode cX9_about 188 = .ok (.getfield 98, 3) := by decide +kernel
theorem dX9_about_191 : decode cX9_about 191 = .ok (.iconst 0, 1) := by decide +kernel
theorem dX9_about_192 : decode cX9_about 192 = .ok (.baload, 1) := by decide +kernel
theorem dX9_about_193 : decode cX9_about 193 = .ok (.ifCond .eq 7, 3) := by decide +kernel
theorem dX9_about_196 : decode cX9_about 196 = .ok (.iconst 1, 1) := by decide +kernel
theorem dX9_about_197 : decode cX9_about 197 = .ok (.goto 8, 3) := by decide +kernel
theorem dX9_about_200 : decode cX9_about 200 = .ok (.iconst 0, 1) := by decide +kernel
theorem dX9_about_201 : decode cX9_about 201 = .ok (.goto 4, 3) := by decide +kernel
theorem dX9_about_204 : decode cX9_about 204 = .ok (.iconst (-1), 1) := by decide +kernel
theorem dX9_about_205 : decode cX9_about 205 = .ok (.ireturn, 1) := by decide +kernel
theorem dX9_about_206 : decode cX9_about 206 = .ok (.aload_n 0, 1) := by decide +kernel
theorem dX9_about_207 : decode cX9_about 207 = .ok (.getfield 273, 3) := by decide +kernel
theorem dX9_about_210 : decode cX9_about 210 = .ok (.ifCond .eq 10, 3) := by decide +kernel
theorem dX9_about_213 : decode cX9_about 213 = .ok (.aload_n 0, 1) := by decide +kernel
theorem dX9_about_214 : decode cX9_about 214 = .ok (.getfield 298, 3) := by decide +kernel
theorem dX9_about_217 : decode cX9_about 217 = .ok (.goto 4, 3) := by decide +kernel
theorem dX9_about_220 : decode cX9_about 220 = .ok (.iconst (-1), 1) := by decide +kernel
theorem dX9_about_221 : decode cX9_about 221 = .ok (.ireturn, 1) := by decide +kernel
theorem dX9_about_222 : decode cX9_about 222 = .ok (.aload_n 0, 1) := by decide +kernel
theorem dX9_about_223 : decode cX9_about 223 = .ok (.getfield 267, 3) := by decide +kernel
theorem dX9_about_226 : decode cX9_about 226 = .ok (.ireturn, 1) := by decide +kernel
theorem dX9_about_227 : decode cX9_about 227 = .ok (.aload_n 0, 1) := by decide +kernel
theorem dX9_about_228 : decode cX9_about 228 = .ok (.getfield 145, 3) := by decide +kernel
theorem dX9_about_231 : decode cX9_about 231 = .ok (.ireturn, 1) := by decide +kernel
theorem dX9_about_232 : decode cX9_about 232 = .ok (.iconst (-1), 1) := by decide +kernel
theorem dX9_about_233 : decode cX9_about 233 = .ok (.ireturn, 1) := by decide +kernel
abbrev vs_EM_about : List Cond := .code yX9_about cX9_about 4 (some .int) :: VM
theorem g_EM_about_EM_clocks : GoodIn vs_EM_about (wsV RX9 280 RX9 yX9_clocks vs_EM_clocks) := gm_V vm_140 vm_141 vm_142 vm_19 vm_143
theorem g_EM_about_EM_manyOf_p : GoodIn vs_EM_about (wsV RX9 295 RX9 yX9_manyOf vs_EM_manyOf_p) := gm_V vm_152 vm_153 vm_154 vm_19 vm_155
theorem g_EM_about_EM_manyOf_e : GoodIn vs_EM_about (wsV RX9 295 RX9 yX9_manyOf vs_EM_manyOf_e) := gm_V vm_152 vm_153 vm_154 vm_19 vm_155
noncomputable def sp_EM_about_L1 (x16 : Nat) (q4 : Nat → Nat) (m13_0 : Nat) (m13_1 : Nat) : (Int32 × Nat) → (Int32 × Nat) ⊕ (Int32 × Int32) := fun (g_29, g_30) => (slet (if x16 = 0 then m13_0 else m13_1) (fun u_38 => (if u_38 ≤ g_30 then (Sum.inr (g_29, 0)) else (slet (sp_EM_manyOf_p x16 q4 m13_0 m13_1 (100 + g_30)) (fun u_42 => (if u_42 = 0 then (slet ((g_29 : Int32) + (-1)) (fun y_44 => (Sum.inl (y_44, (g_30 + 1))))) else (slet (u_42 - 1) (fun n_43 => (slet ((g_29 : Int32) + (nI n_43)) (fun y_45 => (Sum.inl (y_45, (g_30 + 1)))))))))))))
noncomputable def sp_EM_about_L2 (x16 : Nat) (q4 : Nat → Nat) (q7 : Nat → Nat) (m13_0 : Nat) (m13_1 : Nat) (m14_0 : Nat) (m14_1 : Nat) : (Int32 × Nat) → (Int32 × Nat) ⊕ (Int32 × Int32) := fun (g_16, g_17) => (slet (if x16 = 0 then m14_0 else m14_1) (fun u_25 => (if u_25 ≤ g_17 then (Sum.inr (itrv (α := Int32 × Nat) (β := (Int32 × Int32)) default (sp_EM_about_L1 x16 q4 m13_0 m13_1) (g_16, 0))) else (slet (sp_EM_manyOf_e x16 q7 m13_0 m13_1 m14_0 m14_1 g_17) (fun u_47 => (if u_47 = 0 then (slet ((g_16 : Int32) + (-1)) (fun y_49 => (Sum.inl (y_49, (g_17 + 1))))) else (slet (u_47 - 1) (fun n_48 => (slet ((g_16 : Int32) + (nI n_48)) (fun y_50 => (Sum.inl (y_50, (g_17 + 1)))))))))))))
noncomputable def sp_EM_about (x16 : Nat) (x18 : Nat) (x29 : Nat) (x33 : Nat) (x45 : Int32) (q4 : Nat → Nat) (q7 : Nat → Nat) (m12_0 : Nat) (m12_1 : Nat) (m13_0 : Nat) (m13_1 : Nat) (m14_0 : Nat) (m14_1 : Nat) (m15_0 : Nat) (m15_1 : Nat) (m42_0 : Nat) (f44 : Nat → Int32) (p0 : Int32) : Int32 × Int32 := (if (p0 : Int32) = 0 then (slet (sp_EM_clocks x16 m12_0 m12_1) (fun u_3 => ((nI u_3), 0))) else (if (p0 : Int32) = 1 then (slet (if x16 = 0 then m13_0 else m13_1) (fun u_6 => ((nI u_6), 0))) else (if (p0 : Int32) = 2 then (slet (if x16 = 0 then m14_0 else m14_1) (fun u_9 => ((nI u_9), 0))) else (if (p0 : Int32) = 3 then (slet (if x16 = 0 then m15_0 else m15_1) (fun u_12 => (if u_12 = 0 then ((-1), 0) else (slet (u_12 - 1) (fun vy_11 => ((nI vy_11), 0)))))) else (if (p0 : Int32) = 4 then (itrv (α := Int32 × Nat) (β := (Int32 × Int32)) default (sp_EM_about_L2 x16 q4 q7 m13_0 m13_1 m14_0 m14_1) (0, 0)) else (if (p0 : Int32) = 5 then (if x29 = 0 then ((-1), 0) else ((nI m42_0), 0)) else (if (p0 : Int32) = 6 then (if x29 = 0 then ((-1), 0) else (slet (f44 0) (fun y_56 => (if (y_56 : Int32) = 0 then (0, 0) else (1, 0))))) else (if (p0 : Int32) = 7 then (if x29 = 0 then ((-1), 0) else (x45, 0)) else (if (p0 : Int32) = 8 then ((nI x33), 0) else (if (p0 : Int32) = 9 then ((nI x18), 0) else ((-1), 0)))))))))))
set_option maxHeartbeats 4000000 in
set_option maxRecDepth 100000 in
theorem c_EM_about (l : Launch) (dC : Nat → ClassId) (dI : Nat → Nat → Nat) (sz : Nat) (ad : Nat → Nat) (ck : Nat → ClassId) (x0 : Int32) (x16 : Nat) (x18 : Nat) (x19 : Nat) (x20 : Int32) (x21 : Nat) (x22 : Nat) (x23 : Int32) (x24 : Int32) (x25 : Int32) (x26 : Nat) (x27 : Int32) (x28 : Nat) (x29 : Nat) (x30 : Nat) (x33 : Nat) (x45 : Int32) (x46 : Nat) (x52 : Nat) (x53 : Nat) (x61 : Nat) (x62 : Nat) (x63 : Nat) (x65 : Nat) (x66 : Int32) (f1 : Nat → Int32) (f2 : Nat → Int32) (f3 : Nat → Int32) (q4 : Nat → Nat) (q5 : Nat → Nat) (q6 : Nat → Nat) (q7 : Nat → Nat) (f8 : Nat → Int32) (q9 : Nat → Nat) (q10 : Nat → Nat) (f11 : Nat → Int32) (m12_0 m12_1 : Nat) (m13_0 m13_1 : Nat) (m14_0 m14_1 : Nat) (m15_0 m15_1 : Nat) (f17 : Nat → Int32) (q31 : Nat → Nat) (f32 : Nat → Int32) (f34 : Nat → Int32) (f35 : Nat → Int32) (f36 : Nat → Int32) (f37 : Nat → Int32) (q38 : Nat → Nat) (f39 : Nat → Int32) (f40 : Nat → Int32) (f41 : Nat → Int32) (m42_0 m42_1 : Nat) (f43 : Nat → Int32) (f44 : Nat → Int32) (f47 : Nat → Int32) (f48 : Nat → Int32) (f49 : Nat → Int32) (f50 : Nat → Int32) (f51 : Nat → Int32) (q54 : Nat → Nat) (q55 : Nat → Nat) (q56 : Nat → Nat) (f57 : Nat → Int32) (q58 : Nat → Nat) (f59 : Nat → Int32) (f60 : Nat → Int32) (f64 : Nat → Int32) (p0 : Int32) (hx16 : x16 ≤ 1) (hx18 : x18 ≤ 900) (hx19 : x19 ≤ 900) (hx21 : x21 ≤ 900) (hx22 : x22 ≤ 4) (hx26 : x26 ≤ 6) (hx28 : x28 ≤ 1) (hx29 : x29 ≤ 1) (hx30 : x30 ≤ 1) (hx33 : x33 ≤ 20) (hx46 : x46 ≤ 5) (hx52 : x52 ≤ 2400) (hx53 : x53 ≤ 119) (hx61 : x61 ≤ 119) (hx62 : x62 ≤ 2000) (hx63 : x63 ≤ 1) (hx65 : x65 ≤ 7) (hm12_0 : m12_0 ≤ 3) (hm12_1 : m12_1 ≤ 3) (hm13_0 : m13_0 ≤ 8) (hm13_1 : m13_1 ≤ 8) (hm14_0 : m14_0 ≤ 14) (hm14_1 : m14_1 ≤ 14) (hm15_0 : m15_0 ≤ 8) (hm15_1 : m15_1 ≤ 8) (hm42_0 : m42_0 ≤ 120) (hm42_1 : m42_1 ≤ 400) : Met l yX9_about vs_EM_about ({ frames := 3, cells := 0, slots := 0, locals := 64 }) (va_Pc [.ref (ad 0), .int p0] (pu_B (dC, dI) (mo_w ad ck x0 (nI x16) (nI x18) (nI x19) x20 (nI x21) (nI x22) x23 x24 x25 (nI x26) x27 (nI x28) (nI x29) (nI x30) (nI x33) x45 (nI x46) (nI x52) (nI x53) (nI x61) (nI x62) (nI x63) (nI x65) x66 f1 f2 f3 (bN 3 q4) (bN 7 q5) (bN 7 q6) (bN 4 q7) f8 (bN 2 q9) (bH q10) f11 (b2 m12_0 m12_1) (b2 m13_0 m13_1) (b2 m14_0 m14_1) (b2m m15_0 m15_1) f17 (bA 159 q31) f32 f34 f35 f36 f37 (bN 7 q38) f39 f40 f41 (b2 m42_0 m42_1) f43 f44 f47 f48 f49 f50 f51 (bN 13 q54) (bN 120 q55) (bN 120 q56) f57 (bN 120 q58) f59 f60 f64) (mo_t ck) sz)) (va_Qi (fun (r : Int32) (_ : Unit) => r = (sp_EM_about x16 x18 x29 x33 x45 q4 q7 m12_0 m12_1 m13_0 m13_1 m14_0 m14_1 m15_0 m15_1 m42_0 f44 p0).1) (fun _ t => ∃ (z0 : Int32), pu_E (dC, dI) (mo_w ad ck z0 (nI x16) (nI x18) (nI x19) x20 (nI x21) (nI x22) x23 x24 x25 (nI x26) x27 (nI x28) (nI x29) (nI x30) (nI x33) x45 (nI x46) (nI x52) (nI x53) (nI x61) (nI x62) (nI x63) (nI x65) x66 f1 f2 f3 (bN 3 q4) (bN 7 q5) (bN 7 q6) (bN 4 q7) f8 (bN 2 q9) (bH q10) f11 (b2 m12_0 m12_1) (b2 m13_0 m13_1) (b2 m14_0 m14_1) (b2m m15_0 m15_1) f17 (bA 159 q31) f32 f34 f35 f36 f37 (bN 7 q38) f39 f40 f41 (b2 m42_0 m42_1) f43 f44 f47 f48 f49 f50 f51 (bN 13 q54) (bN 120 q55) (bN 120 q56) f57 (bN 120 q58) f59 f60 f64) (mo_t ck) (va_A ((mo_w ad ck x0 (nI x16) (nI x18) (nI x19) x20 (nI x21) (nI x22) x23 x24 x25 (nI x26) x27 (nI x28) (nI x29) (nI x30) (nI x33) x45 (nI x46) (nI x52) (nI x53) (nI x61) (nI x62) (nI x63) (nI x65) x66 f1 f2 f3 (bN 3 q4) (bN 7 q5) (bN 7 q6) (bN 4 q7) f8 (bN 2 q9) (bH q10) f11 (b2 m12_0 m12_1) (b2 m13_0 m13_1) (b2 m14_0 m14_1) (b2m m15_0 m15_1) f17 (bA 159 q31) f32 f34 f35 f36 f37 (bN 7 q38) f39 f40 f41 (b2 m42_0 m42_1) f43 f44 f47 f48 f49 f50 f51 (bN 13 q54) (bN 120 q55) (bN 120 q56) f57 (bN 120 q58) f59 f60 f64)) sz) t ∧ (z0 = (sp_EM_about x16 x18 x29 x33 x45 q4 q7 m12_0 m12_1 m13_0 m13_1 m14_0 m14_1 m15_0 m15_1 m42_0 f44 p0).2)) (va_A ((mo_w ad ck x0 (nI x16) (nI x18) (nI x19) x20 (nI x21) (nI x22) x23 x24 x25 (nI x26) x27 (nI x28) (nI x29) (nI x30) (nI x33) x45 (nI x46) (nI x52) (nI x53) (nI x61) (nI x62) (nI x63) (nI x65) x66 f1 f2 f3 (bN 3 q4) (bN 7 q5) (bN 7 q6) (bN 4 q7) f8 (bN 2 q9) (bH q10) f11 (b2 m12_0 m12_1) (b2 m13_0 m13_1) (b2 m14_0 m14_1) (b2m m15_0 m15_1) f17 (bA 159 q31) f32 f34 f35 f36 f37 (bN 7 q38) f39 f40 f41 (b2 m42_0 m42_1) f43 f44 f47 f48 f49 f50 f51 (bN 13 q54) (bN 120 q55) (bN 120 q56) f57 (bN 120 q58) f59 f60 f64)) sz)) 0 0 (va_A ((mo_w ad ck x0 (nI x16) (nI x18) (nI x19) x20 (nI x21) (nI x22) x23 x24 x25 (nI x26) x27 (nI x28) (nI x29) (nI x30) (nI x33) x45 (nI x46) (nI x52) (nI x53) (nI x61) (nI x62) (nI x63) (nI x65) x66 f1 f2 f3 (bN 3 q4) (bN 7 q5) (bN 7 q6) (bN 4 q7) f8 (bN 2 q9) (bH q10) f11 (b2 m12_0 m12_1) (b2 m13_0 m13_1) (b2 m14_0 m14_1) (b2m m15_0 m15_1) f17 (bA 159 q31) f32 f34 f35 f36 f37 (bN 7 q38) f39 f40 f41 (b2 m42_0 m42_1) f43 f44 f47 f48 f49 f50 f51 (bN 13 q54) (bN 120 q55) (bN 120 q56) f57 (bN 120 q58) f59 f60 f64)) sz) := by
  refine Met.ofW (cc := cX9_about) (maxL := 4) (ret := (some .int)) (by decide) rfl ?_
  intro p e s m args below meth c s₁ B hml hv
  obtain ⟨rfl, rfl, hP, hK, hD0⟩ := hv
  have hx := B.exec
  have hb := B.bytes
  have hr := B.returns
  have hts := atoms_spec (ws := vs_EM_about) B.pre
  have v_1 := hts (.fieldLink RX9 142 "ClockReachModel" "thrown" "I") (List.mem_cons_of_mem _ vm_5)
  have v_7 := hts (.fieldLink RX9 46 "ClockReachModel" "placeMany" "[I") (List.mem_cons_of_mem _ vm_65)
  have v_8 := hts (.fieldLink RX9 258 "ClockReachModel" "bank" "I") (List.mem_cons_of_mem _ vm_4)
  have v_9 := hts (.fieldLink RX9 49 "ClockReachModel" "edgeMany" "[I") (List.mem_cons_of_mem _ vm_45)
  have v_10 := hts (.fieldLink RX9 52 "ClockReachModel" "begins" "[I") (List.mem_cons_of_mem _ vm_126)
  have v_15 := hts (.fieldLink RX9 273 "ClockReachModel" "hasGraph" "Z") (List.mem_cons_of_mem _ vm_1)
  have v_16 := hts (.fieldLink RX9 92 "ClockReachModel" "stateMany" "[I") (List.mem_cons_of_mem _ vm_164)
  have v_17 := hts (.fieldLink RX9 98 "ClockReachModel" "isFull" "[Z") (List.mem_cons_of_mem _ vm_165)
  have v_18 := hts (.fieldLink RX9 298 "ClockReachModel" "graphWay" "I") (List.mem_cons_of_mem _ vm_166)
  have v_19 := hts (.fieldLink RX9 267 "ClockReachModel" "acts" "I") (List.mem_cons_of_mem _ vm_136)
  have v_20 := hts (.fieldLink RX9 145 "ClockReachModel" "taped" "I") (List.mem_cons_of_mem _ vm_135)
  have hown : s.vm.findClass RX9 = some m.cls := findClass_of_methodNamed B.named
  have hlocks := B.notSynchronized
  have hiX9 : ∀ w ∈ wsX90, w ∈ vs_EM_about := fun _ h => List.mem_cons_of_mem _ (vmi_L h)
  have hD := hD0.self (sz := s.heap.size)
  generalize hAe : va_A ((mo_w ad ck x0 (nI x16) (nI x18) (nI x19) x20 (nI x21) (nI x22) x23 x24 x25 (nI x26) x27 (nI x28) (nI x29) (nI x30) (nI x33) x45 (nI x46) (nI x52) (nI x53) (nI x61) (nI x62) (nI x63) (nI x65) x66 f1 f2 f3 (bN 3 q4) (bN 7 q5) (bN 7 q6) (bN 4 q7) f8 (bN 2 q9) (bH q10) f11 (b2 m12_0 m12_1) (b2 m13_0 m13_1) (b2 m14_0 m14_1) (b2m m15_0 m15_1) f17 (bA 159 q31) f32 f34 f35 f36 f37 (bN 7 q38) f39 f40 f41 (b2 m42_0 m42_1) f43 f44 f47 f48 f49 f50 f51 (bN 13 q54) (bN 120 q55) (bN 120 q56) f57 (bN 120 q58) f59 f60 f64)) s.heap.size = A at hD ⊢
  have hA : ∀ q : Nat, s.heap.size ≤ q → A q := fun q h => by rw [← hAe]; exact Or.inr h
  have hS : va_S A s.heap s.heap [] := va_S.rf
  have hl := lv_entry ([.ref (ad 0), .int p0]) (n := 4) (Nat.le_of_ble_eq_true rfl)
  rw [lg_entry_eq]
  generalize (lg_sl ([.ref (ad 0), .int p0]) ++ List.replicate (4 - (lg_sl ([.ref (ad 0), .int p0])).length) Slot.unset).toArray = ls at hl ⊢
  have hl : lv_has ls 4 [(0, .ref (ad 0)), (1, .int p0)] := hl
  obtain ⟨RR, hRR⟩ : ∃ x, x = (sp_EM_about x16 x18 x29 x33 x45 q4 q7 m12_0 m12_1 m13_0 m13_1 m14_0 m14_1 m15_0 m15_1 m42_0 f44 p0) := ⟨_, rfl⟩
  have hsp := hRR
  refine lv_aload_n hx hb dX9_about_0 rfl (lv_at hl 0 rfl) ?_
  refine lv_iconst (v := 0) hx hb dX9_about_1 (by decide) ?_
  refine va_put (D := (dC, dI)) (ci := 9) (v := .int 0) (ty := .int) (C := RX9) (T := TX9) (N := 67) hx hb hts hiX9 tyX9 tyX9_ok nmX9 hown hK hP hD hS 0 rfl rfl 0 (by decide) v_1 (fun _ h9 => h9) rfl (by decide +kernel) rfl rfl (Nat.le_of_ble_eq_true rfl) dX9_about_2 (fun H locs hP hD hS => ?_)
  have hP : va_P (dC, dI) vwCl (mo_w ad ck 0 (nI x16) (nI x18) (nI x19) x20 (nI x21) (nI x22) x23 x24 x25 (nI x26) x27 (nI x28) (nI x29) (nI x30) (nI x33) x45 (nI x46) (nI x52) (nI x53) (nI x61) (nI x62) (nI x63) (nI x65) x66 f1 f2 f3 (bN 3 q4) (bN 7 q5) (bN 7 q6) (bN 4 q7) f8 (bN 2 q9) (bH q10) f11 (b2 m12_0 m12_1) (b2 m13_0 m13_1) (b2 m14_0 m14_1) (b2m m15_0 m15_1) f17 (bA 159 q31) f32 f34 f35 f36 f37 (bN 7 q38) f39 f40 f41 (b2 m42_0 m42_1) f43 f44 f47 f48 f49 f50 f51 (bN 13 q54) (bN 120 q55) (bN 120 q56) f57 (bN 120 q58) f59 f60 f64) H := hP
  have hD : va_D A (mo_w ad ck 0 (nI x16) (nI x18) (nI x19) x20 (nI x21) (nI x22) x23 x24 x25 (nI x26) x27 (nI x28) (nI x29) (nI x30) (nI x33) x45 (nI x46) (nI x52) (nI x53) (nI x61) (nI x62) (nI x63) (nI x65) x66 f1 f2 f3 (bN 3 q4) (bN 7 q5) (bN 7 q6) (bN 4 q7) f8 (bN 2 q9) (bH q10) f11 (b2 m12_0 m12_1) (b2 m13_0 m13_1) (b2 m14_0 m14_1) (b2m m15_0 m15_1) f17 (bA 159 q31) f32 f34 f35 f36 f37 (bN 7 q38) f39 f40 f41 (b2 m42_0 m42_1) f43 f44 f47 f48 f49 f50 f51 (bN 13 q54) (bN 120 q55) (bN 120 q56) f57 (bN 120 q58) f59 f60 f64) := hD
  refine lv_iconst (v := 0) hx hb dX9_about_5 (by decide) ?_
  refine lv_istore_n (lv' := [(2, .int 0), (0, .ref (ad 0)), (1, .int p0)]) hx hb dX9_about_6 rfl hl (by decide) rfl (fun ls hl => ?_)
  refine lv_iload_n hx hb dX9_about_7 rfl (lv_at hl 2 rfl) ?_
  by_cases w_1 : p0 = 0
  · subst w_1
    replace hsp := hsp.trans (if_pos rfl)
    refine lv_tableIn (tgt := 64) (off := 56) hx hb dX9_about_8 (by decide) (by decide) rfl (by decide) ?_
    refine lv_aload_n hx hb dX9_about_64 rfl (lv_at hl 1 rfl) ?_
    refine va_calli (va_runV (As := []) (rest := []) ⟨hx, hb, hml, hown, hts⟩ (c_EM_clocks l dC dI _ ad ck 0 x16 x18 x19 x20 x21 x22 x23 x24 x25 x26 x27 x28 x29 x30 x33 x45 x46 x52 x53 x61 x62 x63 x65 x66 f1 f2 f3 q4 q5 q6 q7 f8 q9 q10 f11 m12_0 m12_1 m13_0 m13_1 m14_0 m14_1 m15_0 m15_1 f17 q31 f32 f34 f35 f36 f37 q38 f39 f40 f41 m42_0 m42_1 f43 f44 f47 f48 f49 f50 f51 q54 q55 q56 f57 q58 f59 f60 f64 hx16 hx18 hx19 hx21 hx22 hx26 hx28 hx29 hx30 hx33 hx46 hx52 hx53 hx61 hx62 hx63 hx65 hm12_0 hm12_1 hm13_0 hm13_1 hm14_0 hm14_1 hm15_0 hm15_1 hm42_0 hm42_1) (cwV 0 hts g_EM_about_EM_clocks rfl rfl rfl (by decide +kernel) ⟨Nat.le_of_ble_eq_true rfl, Nat.le_of_ble_eq_true rfl⟩) ⟨pu_bl, va_recv hK hP (ci := 9) (q0 := 0) rfl rfl, pu_in hP hK hD⟩ rfl rfl hl.1 rfl (lv_room (Nat.le_of_ble_eq_true rfl)) dX9_about_65 ⟨Nat.le_of_ble_eq_true rfl, Nat.le_of_ble_eq_true rfl⟩) hS (fun q _ h => pu_fr hS hA q h) (pu_fr hS hA) (fun r_2 u t H1 locs ht hvm hw hB hz1 hk1 hS => ?_)
    have hP := pu_keep hP hk1
    clear hk1 hz1 ht hvm
    generalize H1 = H at hP hS ⊢
    obtain ⟨u_3, hu_3, rfl, iu_3⟩ := hw
    replace hsp := hsp.trans (slet_eq iu_3)
    exact W.iret (v := (nI u_3)) hx hb hr (fun t ht hW => ⟨⟨(nI u_3), (), rfl, (congrArg Prod.fst (hsp.symm.trans hRR)), ⟨0, ⟨by rw [ht]; exact hP, va_K.moved hW.alike hK, hD⟩, (congrArg Prod.snd (hsp.symm.trans hRR))⟩⟩, hS.F ht⟩) hS.2.2 dX9_about_68
  replace hsp := hsp.trans (if_neg w_1)
  by_cases w_4 : p0 = 1
  · subst w_4
    replace hsp := hsp.trans (if_pos rfl)
    refine lv_tableIn (tgt := 69) (off := 61) hx hb dX9_about_8 (by decide) (by decide) rfl (by decide) ?_
    refine lv_aload_n hx hb dX9_about_69 rfl (lv_at hl 1 rfl) ?_
    refine va_get (D := (dC, dI)) (ci := 9) (v := .ref (ad 13)) (C := RX9) (T := TX9) (N := 67) hx hb hts hiX9 hown hK hP 0 rfl rfl 13 (by decide) v_7 (fun _ h9 => h9) rfl dX9_about_70 ?_
    refine lv_aload_n hx hb dX9_about_73 rfl (lv_at hl 1 rfl) ?_
    refine va_get (D := (dC, dI)) (ci := 9) (v := .int (nI x16)) (C := RX9) (T := TX9) (N := 67) hx hb hts hiX9 hown hK hP 0 rfl rfl 16 (by decide) v_8 (fun _ h9 => h9) rfl dX9_about_74 ?_
    refine va_iald hx hb hK hP 13 12 rfl rfl (vp_in_nI (n := x16) (Nat.lt_of_le_of_lt hx16 (Nat.le_of_ble_eq_true rfl)) (Nat.le_of_ble_eq_true rfl)) dX9_about_77 ?_
    refine lv_topi (fun y_5 ey_5 => ?_)
    obtain ⟨u_6, hu_6, fu_6, xu_6⟩ := b2_getx (a := m13_0) (b := m13_1) (i := x16) (by omega)
    have qy_5 := ey_5.trans fu_6
    replace hsp := hsp.trans (slet_eq xu_6)
    obtain rfl : y_5 = nI u_6 := qy_5
    exact W.iret (v := (nI u_6)) hx hb hr (fun t ht hW => ⟨⟨(nI u_6), (), rfl, (congrArg Prod.fst (hsp.symm.trans hRR)), ⟨0, ⟨by rw [ht]; exact hP, va_K.moved hW.alike hK, hD⟩, (congrArg Prod.snd (hsp.symm.trans hRR))⟩⟩, hS.F ht⟩) hS.2.2 dX9_about_78
  replace hsp := hsp.trans (if_neg w_4)
  by_cases w_7 : p0 = 2
  · subst w_7
    replace hsp := hsp.trans (if_pos rfl)
    refine lv_tableIn (tgt := 79) (off := 71) hx hb dX9_about_8 (by decide) (by decide) rfl (by decide) ?_
    refine lv_aload_n hx hb dX9_about_79 rfl (lv_at hl 1 rfl) ?_
    refine va_get (D := (dC, dI)) (ci := 9) (v := .ref (ad 14)) (C := RX9) (T := TX9) (N := 67) hx hb hts hiX9 hown hK hP 0 rfl rfl 14 (by decide) v_9 (fun _ h9 => h9) rfl dX9_about_80 ?_
    refine lv_aload_n hx hb dX9_about_83 rfl (lv_at hl 1 rfl) ?_
    refine va_get (D := (dC, dI)) (ci := 9) (v := .int (nI x16)) (C := RX9) (T := TX9) (N := 67) hx hb hts hiX9 hown hK hP 0 rfl rfl 16 (by decide) v_8 (fun _ h9 => h9) rfl dX9_about_84 ?_
    refine va_iald hx hb hK hP 14 13 rfl rfl (vp_in_nI (n := x16) (Nat.lt_of_le_of_lt hx16 (Nat.le_of_ble_eq_true rfl)) (Nat.le_of_ble_eq_true rfl)) dX9_about_87 ?_
    refine lv_topi (fun y_8 ey_8 => ?_)
    obtain ⟨u_9, hu_9, fu_9, xu_9⟩ := b2_getx (a := m14_0) (b := m14_1) (i := x16) (by omega)
    have qy_8 := ey_8.trans fu_9
    replace hsp := hsp.trans (slet_eq xu_9)
    obtain rfl : y_8 = nI u_9 := qy_8
    exact W.iret (v := (nI u_9)) hx hb hr (fun t ht hW => ⟨⟨(nI u_9), (), rfl, (congrArg Prod.fst (hsp.symm.trans hRR)), ⟨0, ⟨by rw [ht]; exact hP, va_K.moved hW.alike hK, hD⟩, (congrArg Prod.snd (hsp.symm.trans hRR))⟩⟩, hS.F ht⟩) hS.2.2 dX9_about_88
  replace hsp := hsp.trans (if_neg w_7)
  by_cases w_10 : p0 = 3
  · subst w_10
    replace hsp := hsp.trans (if_pos rfl)
    refine lv_tableIn (tgt := 89) (off := 81) hx hb dX9_about_8 (by decide) (by decide) rfl (by decide) ?_
    refine lv_aload_n hx hb dX9_about_89 rfl (lv_at hl 1 rfl) ?_
    refine va_get (D := (dC, dI)) (ci := 9) (v := .ref (ad 15)) (C := RX9) (T := TX9) (N := 67) hx hb hts hiX9 hown hK hP 0 rfl rfl 15 (by decide) v_10 (fun _ h9 => h9) rfl dX9_about_90 ?_
    refine lv_aload_n hx hb dX9_about_93 rfl (lv_at hl 1 rfl) ?_
    refine va_get (D := (dC, dI)) (ci := 9) (v := .int (nI x16)) (C := RX9) (T := TX9) (N := 67) hx hb hts hiX9 hown hK hP 0 rfl rfl 16 (by decide) v_8 (fun _ h9 => h9) rfl dX9_about_94 ?_
    refine va_iald hx hb hK hP 15 14 rfl rfl (vp_in_nI (n := x16) (Nat.lt_of_le_of_lt hx16 (Nat.le_of_ble_eq_true rfl)) (Nat.le_of_ble_eq_true rfl)) dX9_about_97 ?_
    refine lv_topi (fun y_11 ey_11 => ?_)
    obtain ⟨u_12, hu_12, fu_12, xu_12⟩ := b2m_getx (a := m15_0) (b := m15_1) (i := x16) (by omega)
    have qy_11 := ey_11.trans fu_12
    replace hsp := hsp.trans (slet_eq xu_12)
    rcases mI_get u_12 with ⟨zy_11, wy_11⟩ | ⟨vy_11, zy_11, wy_11⟩
    · obtain rfl : y_11 = -1 := qy_11.trans wy_11
      replace hsp := hsp.trans (if_pos zy_11)
      exact W.iret (v := (-1)) hx hb hr (fun t ht hW => ⟨⟨(-1), (), rfl, (congrArg Prod.fst (hsp.symm.trans hRR)), ⟨0, ⟨by rw [ht]; exact hP, va_K.moved hW.alike hK, hD⟩, (congrArg Prod.snd (hsp.symm.trans hRR))⟩⟩, hS.F ht⟩) hS.2.2 dX9_about_98
    · obtain rfl : y_11 = nI vy_11 := qy_11.trans wy_11
      replace hsp := hsp.trans (if_neg (by omega))
      replace hsp := hsp.trans (slet_eq (by omega : vy_11 = u_12 - 1))
      exact W.iret (v := (nI vy_11)) hx hb hr (fun t ht hW => ⟨⟨(nI vy_11), (), rfl, (congrArg Prod.fst (hsp.symm.trans hRR)), ⟨0, ⟨by rw [ht]; exact hP, va_K.moved hW.alike hK, hD⟩, (congrArg Prod.snd (hsp.symm.trans hRR))⟩⟩, hS.F ht⟩) hS.2.2 dX9_about_98
  replace hsp := hsp.trans (if_neg w_10)
  by_cases w_13 : p0 = 4
  · subst w_13
    replace hsp := hsp.trans (if_pos rfl)
    refine lv_tableIn (tgt := 99) (off := 91) hx hb dX9_about_8 (by decide) (by decide) rfl (by decide) ?_
    refine lv_iconst (v := 0) hx hb dX9_about_99 (by decide) ?_
    refine lv_istore_n (lv' := [(3, .int 0), (2, .int 0), (0, .ref (ad 0)), (1, .int 4)]) hx hb dX9_about_100 rfl hl (by decide) rfl (fun ls hl => ?_)
    obtain ⟨lf_19, dlf_19, hlf_19, hsp⟩ := itr_ex hsp
    delta sp_EM_about_L2 at hlf_19
    refine pu_while (fun nn H locs ls => ∃ (g_16 : Int32) (g_17 : Nat), nn = 14 - g_17 ∧ g_17 ≤ 14 ∧ RR = itrv dlf_19 lf_19 (g_16, g_17) ∧ va_P (dC, dI) vwCl (mo_w ad ck 0 (nI x16) (nI x18) (nI x19) x20 (nI x21) (nI x22) x23 x24 x25 (nI x26) x27 (nI x28) (nI x29) (nI x30) (nI x33) x45 (nI x46) (nI x52) (nI x53) (nI x61) (nI x62) (nI x63) (nI x65) x66 f1 f2 f3 (bN 3 q4) (bN 7 q5) (bN 7 q6) (bN 4 q7) f8 (bN 2 q9) (bH q10) f11 (b2 m12_0 m12_1) (b2 m13_0 m13_1) (b2 m14_0 m14_1) (b2m m15_0 m15_1) f17 (bA 159 q31) f32 f34 f35 f36 f37 (bN 7 q38) f39 f40 f41 (b2 m42_0 m42_1) f43 f44 f47 f48 f49 f50 f51 (bN 13 q54) (bN 120 q55) (bN 120 q56) f57 (bN 120 q58) f59 f60 f64) H ∧ va_D A (mo_w ad ck 0 (nI x16) (nI x18) (nI x19) x20 (nI x21) (nI x22) x23 x24 x25 (nI x26) x27 (nI x28) (nI x29) (nI x30) (nI x33) x45 (nI x46) (nI x52) (nI x53) (nI x61) (nI x62) (nI x63) (nI x65) x66 f1 f2 f3 (bN 3 q4) (bN 7 q5) (bN 7 q6) (bN 4 q7) f8 (bN 2 q9) (bH q10) f11 (b2 m12_0 m12_1) (b2 m13_0 m13_1) (b2 m14_0 m14_1) (b2m m15_0 m15_1) f17 (bA 159 q31) f32 f34 f35 f36 f37 (bN 7 q38) f39 f40 f41 (b2 m42_0 m42_1) f43 f44 f47 f48 f49 f50 f51 (bN 13 q54) (bN 120 q55) (bN 120 q56) f57 (bN 120 q58) f59 f60 f64) ∧ va_S A s.heap H locs ∧ lv_has ls 4 [(0, .ref (ad 0)), (1, .int 4), (2, .int g_16), (3, .int (nI g_17))]) 101 ?_ _ _ _ _ ⟨0, 0, rfl, (Nat.le_of_ble_eq_true rfl), hsp, hP, hD, hS, lv_sub hl [2, 3, 1, 0] rfl⟩
    rintro nn ih_18 H locs ls ⟨g_16, g_17, rfl, hg_17, he_21, hP, hD, hS, hl⟩
    obtain ⟨S_20, hsp, hin_22, hout_23⟩ := itr_step hlf_19 he_21
    refine lv_iload_n hx hb dX9_about_101 rfl (lv_at hl 3 rfl) ?_
    refine lv_aload_n hx hb dX9_about_102 rfl (lv_at hl 0 rfl) ?_
    refine va_get (D := (dC, dI)) (ci := 9) (v := .ref (ad 14)) (C := RX9) (T := TX9) (N := 67) hx hb hts hiX9 hown hK hP 0 rfl rfl 14 (by decide) v_9 (fun _ h9 => h9) rfl dX9_about_103 ?_
    refine lv_aload_n hx hb dX9_about_106 rfl (lv_at hl 0 rfl) ?_
    refine va_get (D := (dC, dI)) (ci := 9) (v := .int (nI x16)) (C := RX9) (T := TX9) (N := 67) hx hb hts hiX9 hown hK hP 0 rfl rfl 16 (by decide) v_8 (fun _ h9 => h9) rfl dX9_about_107 ?_
    refine va_iald hx hb hK hP 14 13 rfl rfl (vp_in_nI (n := x16) (Nat.lt_of_le_of_lt hx16 (Nat.le_of_ble_eq_true rfl)) (Nat.le_of_ble_eq_true rfl)) dX9_about_110 ?_
    refine lv_topi (fun y_24 ey_24 => ?_)
    obtain ⟨u_25, hu_25, fu_25, xu_25⟩ := b2_getx (a := m14_0) (b := m14_1) (i := x16) (by omega)
    have qy_24 := ey_24.trans fu_25
    replace hsp := hsp.trans (slet_eq xu_25)
    obtain rfl : y_24 = nI u_25 := qy_24
    refine lv_icmp_ge (tgt := 128) hx hb dX9_about_111 (by decide) (fun c_26 => ?_) (fun c_26 => ?_)
    · have c_26 : u_25 ≤ g_17 := (nI_leI (a := u_25) (b := g_17) (by omega) (Nat.lt_of_le_of_lt hg_17 (Nat.le_of_ble_eq_true rfl))).mp c_26
      replace hsp := hsp.trans (if_pos c_26)
      have hsp := hout_23 _ hsp
      refine lv_iconst (v := 0) hx hb dX9_about_128 (by decide) ?_
      refine lv_istore_n (lv' := [(3, .int 0), (0, .ref (ad 0)), (1, .int 4), (2, .int g_16)]) hx hb dX9_about_129 rfl hl (by decide) rfl (fun ls hl => ?_)
      obtain ⟨lf_32, dlf_32, hlf_32, hsp⟩ := itr_ex hsp
      delta sp_EM_about_L1 at hlf_32
      refine pu_while (fun nn H locs ls => ∃ (g_29 : Int32) (g_30 : Nat), nn = 8 - g_30 ∧ g_30 ≤ 8 ∧ RR = itrv dlf_32 lf_32 (g_29, g_30) ∧ va_P (dC, dI) vwCl (mo_w ad ck 0 (nI x16) (nI x18) (nI x19) x20 (nI x21) (nI x22) x23 x24 x25 (nI x26) x27 (nI x28) (nI x29) (nI x30) (nI x33) x45 (nI x46) (nI x52) (nI x53) (nI x61) (nI x62) (nI x63) (nI x65) x66 f1 f2 f3 (bN 3 q4) (bN 7 q5) (bN 7 q6) (bN 4 q7) f8 (bN 2 q9) (bH q10) f11 (b2 m12_0 m12_1) (b2 m13_0 m13_1) (b2 m14_0 m14_1) (b2m m15_0 m15_1) f17 (bA 159 q31) f32 f34 f35 f36 f37 (bN 7 q38) f39 f40 f41 (b2 m42_0 m42_1) f43 f44 f47 f48 f49 f50 f51 (bN 13 q54) (bN 120 q55) (bN 120 q56) f57 (bN 120 q58) f59 f60 f64) H ∧ va_D A (mo_w ad ck 0 (nI x16) (nI x18) (nI x19) x20 (nI x21) (nI x22) x23 x24 x25 (nI x26) x27 (nI x28) (nI x29) (nI x30) (nI x33) x45 (nI x46) (nI x52) (nI x53) (nI x61) (nI x62) (nI x63) (nI x65) x66 f1 f2 f3 (bN 3 q4) (bN 7 q5) (bN 7 q6) (bN 4 q7) f8 (bN 2 q9) (bH q10) f11 (b2 m12_0 m12_1) (b2 m13_0 m13_1) (b2 m14_0 m14_1) (b2m m15_0 m15_1) f17 (bA 159 q31) f32 f34 f35 f36 f37 (bN 7 q38) f39 f40 f41 (b2 m42_0 m42_1) f43 f44 f47 f48 f49 f50 f51 (bN 13 q54) (bN 120 q55) (bN 120 q56) f57 (bN 120 q58) f59 f60 f64) ∧ va_S A s.heap H locs ∧ lv_has ls 4 [(0, .ref (ad 0)), (1, .int 4), (2, .int g_29), (3, .int (nI g_30))]) 130 ?_ _ _ _ _ ⟨g_16, 0, rfl, (Nat.le_of_ble_eq_true rfl), hsp, hP, hD, hS, lv_sub hl [1, 2, 3, 0] rfl⟩
      rintro nn ih_31 H locs ls ⟨g_29, g_30, rfl, hg_30, he_34, hP, hD, hS, hl⟩
      obtain ⟨S_33, hsp, hin_35, hout_36⟩ := itr_step hlf_32 he_34
      refine lv_iload_n hx hb dX9_about_130 rfl (lv_at hl 3 rfl) ?_
      refine lv_aload_n hx hb dX9_about_131 rfl (lv_at hl 0 rfl) ?_
      refine va_get (D := (dC, dI)) (ci := 9) (v := .ref (ad 13)) (C := RX9) (T := TX9) (N := 67) hx hb hts hiX9 hown hK hP 0 rfl rfl 13 (by decide) v_7 (fun _ h9 => h9) rfl dX9_about_132 ?_
      refine lv_aload_n hx hb dX9_about_135 rfl (lv_at hl 0 rfl) ?_
      refine va_get (D := (dC, dI)) (ci := 9) (v := .int (nI x16)) (C := RX9) (T := TX9) (N := 67) hx hb hts hiX9 hown hK hP 0 rfl rfl 16 (by decide) v_8 (fun _ h9 => h9) rfl dX9_about_136 ?_
      refine va_iald hx hb hK hP 13 12 rfl rfl (vp_in_nI (n := x16) (Nat.lt_of_le_of_lt hx16 (Nat.le_of_ble_eq_true rfl)) (Nat.le_of_ble_eq_true rfl)) dX9_about_139 ?_
      refine lv_topi (fun y_37 ey_37 => ?_)
      obtain ⟨u_38, hu_38, fu_38, xu_38⟩ := b2_getx (a := m13_0) (b := m13_1) (i := x16) (by omega)
      have qy_37 := ey_37.trans fu_38
      replace hsp := hsp.trans (slet_eq xu_38)
      obtain rfl : y_37 = nI u_38 := qy_37
      refine lv_icmp_ge (tgt := 160) hx hb dX9_about_140 (by decide) (fun c_39 => ?_) (fun c_39 => ?_)
      · have c_39 : u_38 ≤ g_30 := (nI_leI (a := u_38) (b := g_30) (by omega) (Nat.lt_of_le_of_lt hg_30 (Nat.le_of_ble_eq_true rfl))).mp c_39
        replace hsp := hsp.trans (if_pos c_39)
        have hsp := hout_36 _ hsp
        refine lv_iload_n hx hb dX9_about_160 rfl (lv_at hl 2 rfl) ?_
        exact W.iret (v := g_29) hx hb hr (fun t ht hW => ⟨⟨g_29, (), rfl, (congrArg Prod.fst (hsp.symm.trans hRR)), ⟨0, ⟨by rw [ht]; exact hP, va_K.moved hW.alike hK, hD⟩, (congrArg Prod.snd (hsp.symm.trans hRR))⟩⟩, hS.F ht⟩) hS.2.2 dX9_about_161
      · have c_39 : ¬ u_38 ≤ g_30 := fun z => c_39 ((nI_leI (a := u_38) (b := g_30) (by omega) (Nat.lt_of_le_of_lt hg_30 (Nat.le_of_ble_eq_true rfl))).mpr z)
        replace hsp := hsp.trans (if_neg c_39)
        refine lv_iload_n hx hb dX9_about_143 rfl (lv_at hl 2 rfl) ?_
        refine lv_aload_n hx hb dX9_about_144 rfl (lv_at hl 0 rfl) ?_
        refine lv_bipush (v := 100) hx hb dX9_about_145 (by decide) ?_
        refine lv_iload_n hx hb dX9_about_147 rfl (lv_at hl 3 rfl) ?_
        refine lv_iadd hx hb dX9_about_148 ?_
        refine lv_topi (fun y_40 ey_40 => ?_)
        obtain rfl : y_40 = (nI (100 + g_30)) := ey_40.trans (nI_add 100 g_30)
        refine va_calli (va_runV (As := [.int (nI (100 + g_30))]) (rest := [.int g_29]) ⟨hx, hb, hml, hown, hts⟩ (c_EM_manyOf_p l dC dI _ ad ck 0 x16 x18 x19 x20 x21 x22 x23 x24 x25 x26 x27 x28 x29 x30 x33 x45 x46 x52 x53 x61 x62 x63 x65 x66 f1 f2 f3 q4 q5 q6 q7 f8 q9 q10 f11 m12_0 m12_1 m13_0 m13_1 m14_0 m14_1 m15_0 m15_1 f17 q31 f32 f34 f35 f36 f37 q38 f39 f40 f41 m42_0 m42_1 f43 f44 f47 f48 f49 f50 f51 q54 q55 q56 f57 q58 f59 f60 f64 (100 + g_30) hx16 hx18 hx19 hx21 hx22 hx26 hx28 hx29 hx30 hx33 hx46 hx52 hx53 hx61 hx62 hx63 hx65 hm12_0 hm12_1 hm13_0 hm13_1 hm14_0 hm14_1 hm15_0 hm15_1 hm42_0 hm42_1 (by omega) (by omega)) (cwV 1 hts g_EM_about_EM_manyOf_p rfl rfl rfl (by decide +kernel) ⟨Nat.le_of_ble_eq_true rfl, Nat.le_of_ble_eq_true rfl⟩) ⟨pu_bl, va_recv hK hP (ci := 9) (q0 := 0) rfl rfl, pu_in hP hK hD⟩ rfl rfl hl.1 rfl (lv_room (Nat.le_of_ble_eq_true rfl)) dX9_about_149 ⟨Nat.le_of_ble_eq_true rfl, Nat.le_of_ble_eq_true rfl⟩) hS (fun q _ h => pu_fr hS hA q h) (pu_fr hS hA) (fun r_41 u t H1 locs ht hvm hw hB hz1 hk1 hS => ?_)
        have hP := pu_keep hP hk1
        clear hk1 hz1 ht hvm
        generalize H1 = H at hP hS ⊢
        obtain ⟨u_42, hu_42, mu_42, iu_42⟩ := hw
        replace hsp := hsp.trans (slet_eq iu_42)
        rcases mI_get u_42 with ⟨zn_43, wn_43⟩ | ⟨n_43, zn_43, wn_43⟩
        · obtain rfl : r_41 = -1 := mu_42.trans wn_43
          replace hsp := hsp.trans (if_pos zn_43)
          refine lv_iadd hx hb dX9_about_152 ?_
          refine lv_topi (fun y_44 ey_44 => ?_)
          replace hsp := hsp.trans (slet_eq ey_44)
          refine lv_istore_n (lv' := [(2, .int y_44), (0, .ref (ad 0)), (1, .int 4), (3, .int (nI g_30))]) hx hb dX9_about_153 rfl hl (by decide) rfl (fun ls hl => ?_)
          refine lv_iinc (v := (nI (g_30 + 1))) (lv' := [(3, .int (nI (g_30 + 1))), (2, .int y_44), (0, .ref (ad 0)), (1, .int 4)]) hx hb dX9_about_154 hl (k := 3) rfl (nI_1 _) (by decide) rfl (fun ls hl => ?_)
          refine lv_goto (tgt := 130) hx hb dX9_about_157 (by decide) ?_
          exact ih_31 (8 - (g_30 + 1)) (by omega) _ _ _ ⟨y_44, (g_30 + 1), rfl, (by omega), hin_35 _ hsp, hP, hD, hS, lv_sub hl [2, 3, 1, 0] rfl⟩
        · obtain rfl : r_41 = nI n_43 := mu_42.trans wn_43
          have hn_43 : n_43 ≤ 3 := by omega
          replace hsp := hsp.trans (if_neg (by omega))
          replace hsp := hsp.trans (slet_eq (by omega : n_43 = u_42 - 1))
          refine lv_iadd hx hb dX9_about_152 ?_
          refine lv_topi (fun y_45 ey_45 => ?_)
          replace hsp := hsp.trans (slet_eq ey_45)
          refine lv_istore_n (lv' := [(2, .int y_45), (0, .ref (ad 0)), (1, .int 4), (3, .int (nI g_30))]) hx hb dX9_about_153 rfl hl (by decide) rfl (fun ls hl => ?_)
          refine lv_iinc (v := (nI (g_30 + 1))) (lv' := [(3, .int (nI (g_30 + 1))), (2, .int y_45), (0, .ref (ad 0)), (1, .int 4)]) hx hb dX9_about_154 hl (k := 3) rfl (nI_1 _) (by decide) rfl (fun ls hl => ?_)
          refine lv_goto (tgt := 130) hx hb dX9_about_157 (by decide) ?_
          exact ih_31 (8 - (g_30 + 1)) (by omega) _ _ _ ⟨y_45, (g_30 + 1), rfl, (by omega), hin_35 _ hsp, hP, hD, hS, lv_sub hl [2, 3, 1, 0] rfl⟩
    · have c_26 : ¬ u_25 ≤ g_17 := fun z => c_26 ((nI_leI (a := u_25) (b := g_17) (by omega) (Nat.lt_of_le_of_lt hg_17 (Nat.le_of_ble_eq_true rfl))).mpr z)
      replace hsp := hsp.trans (if_neg c_26)
      refine lv_iload_n hx hb dX9_about_114 rfl (lv_at hl 2 rfl) ?_
      refine lv_aload_n hx hb dX9_about_115 rfl (lv_at hl 0 rfl) ?_
      refine lv_iload_n hx hb dX9_about_116 rfl (lv_at hl 3 rfl) ?_
      refine va_calli (va_runV (As := [.int (nI g_17)]) (rest := [.int g_16]) ⟨hx, hb, hml, hown, hts⟩ (c_EM_manyOf_e l dC dI _ ad ck 0 x16 x18 x19 x20 x21 x22 x23 x24 x25 x26 x27 x28 x29 x30 x33 x45 x46 x52 x53 x61 x62 x63 x65 x66 f1 f2 f3 q4 q5 q6 q7 f8 q9 q10 f11 m12_0 m12_1 m13_0 m13_1 m14_0 m14_1 m15_0 m15_1 f17 q31 f32 f34 f35 f36 f37 q38 f39 f40 f41 m42_0 m42_1 f43 f44 f47 f48 f49 f50 f51 q54 q55 q56 f57 q58 f59 f60 f64 g_17 hx16 hx18 hx19 hx21 hx22 hx26 hx28 hx29 hx30 hx33 hx46 hx52 hx53 hx61 hx62 hx63 hx65 hm12_0 hm12_1 hm13_0 hm13_1 hm14_0 hm14_1 hm15_0 hm15_1 hm42_0 hm42_1 (by omega)) (cwV 1 hts g_EM_about_EM_manyOf_e rfl rfl rfl (by decide +kernel) ⟨Nat.le_of_ble_eq_true rfl, Nat.le_of_ble_eq_true rfl⟩) ⟨pu_bl, va_recv hK hP (ci := 9) (q0 := 0) rfl rfl, pu_in hP hK hD⟩ rfl rfl hl.1 rfl (lv_room (Nat.le_of_ble_eq_true rfl)) dX9_about_117 ⟨Nat.le_of_ble_eq_true rfl, Nat.le_of_ble_eq_true rfl⟩) hS (fun q _ h => pu_fr hS hA q h) (pu_fr hS hA) (fun r_46 u t H1 locs ht hvm hw hB hz1 hk1 hS => ?_)
      have hP := pu_keep hP hk1
      clear hk1 hz1 ht hvm
      generalize H1 = H at hP hS ⊢
      obtain ⟨u_47, hu_47, mu_47, iu_47⟩ := hw
      replace hsp := hsp.trans (slet_eq iu_47)
      rcases mI_get u_47 with ⟨zn_48, wn_48⟩ | ⟨n_48, zn_48, wn_48⟩
      · obtain rfl : r_46 = -1 := mu_47.trans wn_48
        replace hsp := hsp.trans (if_pos zn_48)
        refine lv_iadd hx hb dX9_about_120 ?_
        refine lv_topi (fun y_49 ey_49 => ?_)
        replace hsp := hsp.trans (slet_eq ey_49)
        refine lv_istore_n (lv' := [(2, .int y_49), (0, .ref (ad 0)), (1, .int 4), (3, .int (nI g_17))]) hx hb dX9_about_121 rfl hl (by decide) rfl (fun ls hl => ?_)
        refine lv_iinc (v := (nI (g_17 + 1))) (lv' := [(3, .int (nI (g_17 + 1))), (2, .int y_49), (0, .ref (ad 0)), (1, .int 4)]) hx hb dX9_about_122 hl (k := 3) rfl (nI_1 _) (by decide) rfl (fun ls hl => ?_)
        refine lv_goto (tgt := 101) hx hb dX9_about_125 (by decide) ?_
        exact ih_18 (14 - (g_17 + 1)) (by omega) _ _ _ ⟨y_49, (g_17 + 1), rfl, (by omega), hin_22 _ hsp, hP, hD, hS, lv_sub hl [2, 3, 1, 0] rfl⟩
      · obtain rfl : r_46 = nI n_48 := mu_47.trans wn_48
        have hn_48 : n_48 ≤ 4 := by omega
        replace hsp := hsp.trans (if_neg (by omega))
        replace hsp := hsp.trans (slet_eq (by omega : n_48 = u_47 - 1))
        refine lv_iadd hx hb dX9_about_120 ?_
        refine lv_topi (fun y_50 ey_50 => ?_)
        replace hsp := hsp.trans (slet_eq ey_50)
        refine lv_istore_n (lv' := [(2, .int y_50), (0, .ref (ad 0)), (1, .int 4), (3, .int (nI g_17))]) hx hb dX9_about_121 rfl hl (by decide) rfl (fun ls hl => ?_)
        refine lv_iinc (v := (nI (g_17 + 1))) (lv' := [(3, .int (nI (g_17 + 1))), (2, .int y_50), (0, .ref (ad 0)), (1, .int 4)]) hx hb dX9_about_122 hl (k := 3) rfl (nI_1 _) (by decide) rfl (fun ls hl => ?_)
        refine lv_goto (tgt := 101) hx hb dX9_about_125 (by decide) ?_
        exact ih_18 (14 - (g_17 + 1)) (by omega) _ _ _ ⟨y_50, (g_17 + 1), rfl, (by omega), hin_22 _ hsp, hP, hD, hS, lv_sub hl [2, 3, 1, 0] rfl⟩
  replace hsp := hsp.trans (if_neg w_13)
  by_cases w_51 : p0 = 5
  · subst w_51
    replace hsp := hsp.trans (if_pos rfl)
    refine lv_tableIn (tgt := 162) (off := 154) hx hb dX9_about_8 (by decide) (by decide) rfl (by decide) ?_
    refine lv_aload_n hx hb dX9_about_162 rfl (lv_at hl 1 rfl) ?_
    refine va_get (D := (dC, dI)) (ci := 9) (v := .int (nI x29)) (C := RX9) (T := TX9) (N := 67) hx hb hts hiX9 hown hK hP 0 rfl rfl 29 (by decide) v_15 (fun _ h9 => h9) rfl dX9_about_163 ?_
    refine lv_if_eq (tgt := 178) hx hb dX9_about_166 (by decide) (fun c_52 => ?_) (fun c_52 => ?_)
    · have c_52 : x29 = 0 := (nI_eq (a := x29) (b := 0) (Nat.lt_of_le_of_lt hx29 (Nat.le_of_ble_eq_true rfl)) (Nat.le_of_ble_eq_true rfl)).mp c_52
      replace hsp := hsp.trans (if_pos c_52)
      refine lv_iconst (v := (-1)) hx hb dX9_about_178 (by decide) ?_
      exact W.iret (v := (-1)) hx hb hr (fun t ht hW => ⟨⟨(-1), (), rfl, (congrArg Prod.fst (hsp.symm.trans hRR)), ⟨0, ⟨by rw [ht]; exact hP, va_K.moved hW.alike hK, hD⟩, (congrArg Prod.snd (hsp.symm.trans hRR))⟩⟩, hS.F ht⟩) hS.2.2 dX9_about_179
    · have c_52 : ¬ x29 = 0 := fun z => c_52 ((nI_eq (a := x29) (b := 0) (Nat.lt_of_le_of_lt hx29 (Nat.le_of_ble_eq_true rfl)) (Nat.le_of_ble_eq_true rfl)).mpr z)
      replace hsp := hsp.trans (if_neg c_52)
      refine lv_aload_n hx hb dX9_about_169 rfl (lv_at hl 1 rfl) ?_
      refine va_get (D := (dC, dI)) (ci := 9) (v := .ref (ad 42)) (C := RX9) (T := TX9) (N := 67) hx hb hts hiX9 hown hK hP 0 rfl rfl 42 (by decide) v_16 (fun _ h9 => h9) rfl dX9_about_170 ?_
      refine lv_iconst (v := 0) hx hb dX9_about_173 (by decide) ?_
      refine va_iald hx hb hK hP 27 26 rfl rfl (vp_in_nI (n := 0) (Nat.le_of_ble_eq_true rfl) (Nat.le_of_ble_eq_true rfl)) dX9_about_174 ?_
      refine lv_topi (fun y_53 ey_53 => ?_)
      have qy_53 := ey_53.trans b2_0
      clear ey_53
      obtain rfl : y_53 = nI m42_0 := qy_53
      refine lv_goto (tgt := 179) hx hb dX9_about_175 (by decide) ?_
      exact W.iret (v := (nI m42_0)) hx hb hr (fun t ht hW => ⟨⟨(nI m42_0), (), rfl, (congrArg Prod.fst (hsp.symm.trans hRR)), ⟨0, ⟨by rw [ht]; exact hP, va_K.moved hW.alike hK, hD⟩, (congrArg Prod.snd (hsp.symm.trans hRR))⟩⟩, hS.F ht⟩) hS.2.2 dX9_about_179
  replace hsp := hsp.trans (if_neg w_51)
  by_cases w_54 : p0 = 6
  · subst w_54
    replace hsp := hsp.trans (if_pos rfl)
    refine lv_tableIn (tgt := 180) (off := 172) hx hb dX9_about_8 (by decide) (by decide) rfl (by decide) ?_
    refine lv_aload_n hx hb dX9_about_180 rfl (lv_at hl 1 rfl) ?_
    refine va_get (D := (dC, dI)) (ci := 9) (v := .int (nI x29)) (C := RX9) (T := TX9) (N := 67) hx hb hts hiX9 hown hK hP 0 rfl rfl 29 (by decide) v_15 (fun _ h9 => h9) rfl dX9_about_181 ?_
    refine lv_if_eq (tgt := 204) hx hb dX9_about_184 (by decide) (fun c_55 => ?_) (fun c_55 => ?_)
    · have c_55 : x29 = 0 := (nI_eq (a := x29) (b := 0) (Nat.lt_of_le_of_lt hx29 (Nat.le_of_ble_eq_true rfl)) (Nat.le_of_ble_eq_true rfl)).mp c_55
      replace hsp := hsp.trans (if_pos c_55)
      refine lv_iconst (v := (-1)) hx hb dX9_about_204 (by decide) ?_
      exact W.iret (v := (-1)) hx hb hr (fun t ht hW => ⟨⟨(-1), (), rfl, (congrArg Prod.fst (hsp.symm.trans hRR)), ⟨0, ⟨by rw [ht]; exact hP, va_K.moved hW.alike hK, hD⟩, (congrArg Prod.snd (hsp.symm.trans hRR))⟩⟩, hS.F ht⟩) hS.2.2 dX9_about_205
    · have c_55 : ¬ x29 = 0 := fun z => c_55 ((nI_eq (a := x29) (b := 0) (Nat.lt_of_le_of_lt hx29 (Nat.le_of_ble_eq_true rfl)) (Nat.le_of_ble_eq_true rfl)).mpr z)
      replace hsp := hsp.trans (if_neg c_55)
      refine lv_aload_n hx hb dX9_about_187 rfl (lv_at hl 1 rfl) ?_
      refine va_get (D := (dC, dI)) (ci := 9) (v := .ref (ad 44)) (C := RX9) (T := TX9) (N := 67) hx hb hts hiX9 hown hK hP 0 rfl rfl 44 (by decide) v_17 (fun _ h9 => h9) rfl dX9_about_188 ?_
      refine lv_iconst (v := 0) hx hb dX9_about_191 (by decide) ?_
      refine va_zald hx hb hK hP 29 28 rfl rfl (vp_in_nI (n := 0) (Nat.le_of_ble_eq_true rfl) (Nat.le_of_ble_eq_true rfl)) dX9_about_192 ?_
      refine lv_topi (fun y_56 ey_56 => ?_)
      have ey_56 : y_56 = f44 0 := ey_56.trans (congrArg f44 (nI_clamp (n := 0) (Nat.le_of_ble_eq_true rfl)))
      replace hsp := hsp.trans (slet_eq ey_56)
      refine lv_if_eq (tgt := 200) hx hb dX9_about_193 (by decide) (fun c_57 => ?_) (fun c_57 => ?_)
      · have hcc_57 := c_57
        replace hsp := hsp.trans (if_pos c_57)
        refine lv_iconst (v := 0) hx hb dX9_about_200 (by decide) ?_
        refine lv_goto (tgt := 205) hx hb dX9_about_201 (by decide) ?_
        exact W.iret (v := 0) hx hb hr (fun t ht hW => ⟨⟨0, (), rfl, (congrArg Prod.fst (hsp.symm.trans hRR)), ⟨0, ⟨by rw [ht]; exact hP, va_K.moved hW.alike hK, hD⟩, (congrArg Prod.snd (hsp.symm.trans hRR))⟩⟩, hS.F ht⟩) hS.2.2 dX9_about_205
      · have hcc_57 := c_57
        replace hsp := hsp.trans (if_neg c_57)
        refine lv_iconst (v := 1) hx hb dX9_about_196 (by decide) ?_
        refine lv_goto (tgt := 205) hx hb dX9_about_197 (by decide) ?_
        exact W.iret (v := 1) hx hb hr (fun t ht hW => ⟨⟨1, (), rfl, (congrArg Prod.fst (hsp.symm.trans hRR)), ⟨0, ⟨by rw [ht]; exact hP, va_K.moved hW.alike hK, hD⟩, (congrArg Prod.snd (hsp.symm.trans hRR))⟩⟩, hS.F ht⟩) hS.2.2 dX9_about_205
  replace hsp := hsp.trans (if_neg w_54)
  by_cases w_58 : p0 = 7
  · subst w_58
    replace hsp := hsp.trans (if_pos rfl)
    refine lv_tableIn (tgt := 206) (off := 198) hx hb dX9_about_8 (by decide) (by decide) rfl (by decide) ?_
    refine lv_aload_n hx hb dX9_about_206 rfl (lv_at hl 1 rfl) ?_
    refine va_get (D := (dC, dI)) (ci := 9) (v := .int (nI x29)) (C := RX9) (T := TX9) (N := 67) hx hb hts hiX9 hown hK hP 0 rfl rfl 29 (by decide) v_15 (fun _ h9 => h9) rfl dX9_about_207 ?_
    refine lv_if_eq (tgt := 220) hx hb dX9_about_210 (by decide) (fun c_59 => ?_) (fun c_59 => ?_)
    · have c_59 : x29 = 0 := (nI_eq (a := x29) (b := 0) (Nat.lt_of_le_of_lt hx29 (Nat.le_of_ble_eq_true rfl)) (Nat.le_of_ble_eq_true rfl)).mp c_59
      replace hsp := hsp.trans (if_pos c_59)
      refine lv_iconst (v := (-1)) hx hb dX9_about_220 (by decide) ?_
      exact W.iret (v := (-1)) hx hb hr (fun t ht hW => ⟨⟨(-1), (), rfl, (congrArg Prod.fst (hsp.symm.trans hRR)), ⟨0, ⟨by rw [ht]; exact hP, va_K.moved hW.alike hK, hD⟩, (congrArg Prod.snd (hsp.symm.trans hRR))⟩⟩, hS.F ht⟩) hS.2.2 dX9_about_221
    · have c_59 : ¬ x29 = 0 := fun z => c_59 ((nI_eq (a := x29) (b := 0) (Nat.lt_of_le_of_lt hx29 (Nat.le_of_ble_eq_true rfl)) (Nat.le_of_ble_eq_true rfl)).mpr z)
      replace hsp := hsp.trans (if_neg c_59)
      refine lv_aload_n hx hb dX9_about_213 rfl (lv_at hl 1 rfl) ?_
      refine va_get (D := (dC, dI)) (ci := 9) (v := .int x45) (C := RX9) (T := TX9) (N := 67) hx hb hts hiX9 hown hK hP 0 rfl rfl 45 (by decide) v_18 (fun _ h9 => h9) rfl dX9_about_214 ?_
      refine lv_goto (tgt := 221) hx hb dX9_about_217 (by decide) ?_
      exact W.iret (v := x45) hx hb hr (fun t ht hW => ⟨⟨x45, (), rfl, (congrArg Prod.fst (hsp.symm.trans hRR)), ⟨0, ⟨by rw [ht]; exact hP, va_K.moved hW.alike hK, hD⟩, (congrArg Prod.snd (hsp.symm.trans hRR))⟩⟩, hS.F ht⟩) hS.2.2 dX9_about_221
  replace hsp := hsp.trans (if_neg w_58)
  by_cases w_60 : p0 = 8
  · subst w_60
    replace hsp := hsp.trans (if_pos rfl)
    refine lv_tableIn (tgt := 222) (off := 214) hx hb dX9_about_8 (by decide) (by decide) rfl (by decide) ?_
    refine lv_aload_n hx hb dX9_about_222 rfl (lv_at hl 1 rfl) ?_
    refine va_get (D := (dC, dI)) (ci := 9) (v := .int (nI x33)) (C := RX9) (T := TX9) (N := 67) hx hb hts hiX9 hown hK hP 0 rfl rfl 33 (by decide) v_19 (fun _ h9 => h9) rfl dX9_about_223 ?_
    exact W.iret (v := (nI x33)) hx hb hr (fun t ht hW => ⟨⟨(nI x33), (), rfl, (congrArg Prod.fst (hsp.symm.trans hRR)), ⟨0, ⟨by rw [ht]; exact hP, va_K.moved hW.alike hK, hD⟩, (congrArg Prod.snd (hsp.symm.trans hRR))⟩⟩, hS.F ht⟩) hS.2.2 dX9_about_226
  replace hsp := hsp.trans (if_neg w_60)
  by_cases w_61 : p0 = 9
  · subst w_61
    replace hsp := hsp.trans (if_pos rfl)
    refine lv_tableIn (tgt := 227) (off := 219) hx hb dX9_about_8 (by decide) (by decide) rfl (by decide) ?_
    refine lv_aload_n hx hb dX9_about_227 rfl (lv_at hl 1 rfl) ?_
    refine va_get (D := (dC, dI)) (ci := 9) (v := .int (nI x18)) (C := RX9) (T := TX9) (N := 67) hx hb hts hiX9 hown hK hP 0 rfl rfl 18 (by decide) v_20 (fun _ h9 => h9) rfl dX9_about_228 ?_
    exact W.iret (v := (nI x18)) hx hb hr (fun t ht hW => ⟨⟨(nI x18), (), rfl, (congrArg Prod.fst (hsp.symm.trans hRR)), ⟨0, ⟨by rw [ht]; exact hP, va_K.moved hW.alike hK, hD⟩, (congrArg Prod.snd (hsp.symm.trans hRR))⟩⟩, hS.F ht⟩) hS.2.2 dX9_about_231
  replace hsp := hsp.trans (if_neg w_61)
  refine lv_tableOut (tgt := 232) hx hb dX9_about_8 (by
      have zw_1 : Int32.toInt p0 ≠ 0 := fun g => w_1 ((fa_eq _ _).mpr g)
      have zw_4 : Int32.toInt p0 ≠ 1 := fun g => w_4 ((fa_eq _ _).mpr g)
      have zw_7 : Int32.toInt p0 ≠ 2 := fun g => w_7 ((fa_eq _ _).mpr g)
      have zw_10 : Int32.toInt p0 ≠ 3 := fun g => w_10 ((fa_eq _ _).mpr g)
      have zw_13 : Int32.toInt p0 ≠ 4 := fun g => w_13 ((fa_eq _ _).mpr g)
      have zw_51 : Int32.toInt p0 ≠ 5 := fun g => w_51 ((fa_eq _ _).mpr g)
      have zw_54 : Int32.toInt p0 ≠ 6 := fun g => w_54 ((fa_eq _ _).mpr g)
      have zw_58 : Int32.toInt p0 ≠ 7 := fun g => w_58 ((fa_eq _ _).mpr g)
      have zw_60 : Int32.toInt p0 ≠ 8 := fun g => w_60 ((fa_eq _ _).mpr g)
      have zw_61 : Int32.toInt p0 ≠ 9 := fun g => w_61 ((fa_eq _ _).mpr g)
      omega) (by decide) ?_
  refine lv_iconst (v := (-1)) hx hb dX9_about_232 (by decide) ?_
  exact W.iret (v := (-1)) hx hb hr (fun t ht hW => ⟨⟨(-1), (), rfl, (congrArg Prod.fst (hsp.symm.trans hRR)), ⟨0, ⟨by rw [ht]; exact hP, va_K.moved hW.alike hK, hD⟩, (congrArg Prod.snd (hsp.symm.trans hRR))⟩⟩, hS.F ht⟩) hS.2.2 dX9_about_233
theorem dX9_place_0 : decode cX9_place 0 = .ok (.aload_n 0, 1) := by decide +kernel
theorem dX9_place_1 : decode cX9_place 1 = .ok (.iconst 0, 1) := by decide +kernel
theorem dX9_place_2 : decode cX9_place 2 = .ok (.putfield 142, 3) := by decide +kernel
theorem dX9_place_5 : decode cX9_place 5 = .ok (.aload_n 0, 1) := by decide +kernel
theorem dX9_place_6 : decode cX9_place 6 = .ok (.iload_n 1, 1) := by decide +kernel
theorem dX9_place_7 : decode cX9_place 7 = .ok (.invokevirtual 286, 3) := by decide +kernel
theorem dX9_place_10 : decode cX9_place 10 = .ok (.ifCond .eq 12, 3) := by decide +kernel
theorem dX9_place_13 : decode cX9_place 13 = .ok (.iload_n 2, 1) := by decide +kernel
theorem dX9_place_14 : decode cX9_place 14 = .ok (.iconst 0, 1) := by decide +kernel
theorem dX9_place_15 : decode cX9_place 15 = .ok (.iconst 3, 1) := by decide +kernel
theorem dX9_place_16 : decode cX9_place 16 = .ok (.invokestatic 152, 3) := by decide +kernel
theorem dX9_place_19 : decode cX9_place 19 = .ok (.ifCond .ne 5, 3) := by decide +kernel
theorem dX9_place_22 : decode cX9_place 22 = .ok (.iconst (-1), 1) := by decide +kernel
theorem dX9_place_23 : decode cX9_place 23 = .ok (.ireturn, 1) := by decide +kernel
theorem dX9_place_24 : decode cX9_place 24 = .ok (.iload_n 2, 1) := by decide +kernel
theorem dX9_place_25 : decode cX9_place 25 = .ok (.ifCond .ne 20, 3) := by decide +kernel
theorem dX9_place_28 : decode cX9_place 28 = .ok (.aload_n 0, 1) := by decide +kernel
theorem dX9_place_29 : decode cX9_place 29 = .ok (.getfield 16, 3) := by decide +kernel
theorem dX9_place_32 : decode cX9_place 32 = .ok (.bipush 8, 2) := by decide +kernel
theorem dX9_place_34 : decode cX9_place 34 = .ok (.aload_n 0, 1) := by decide +kernel
theorem dX9_place_35 : decode cX9_place 35 = .ok (.getfield 258, 3) := by decide +kernel
theorem dX9_place_38 : decode cX9_place 38 = .ok (.imul, 1) := by decide +kernel
theorem dX9_place_39 : decode cX9_place 39 = .ok (.iload_n 1, 1) := by decide +kernel
theorem dX9_place_40 : decode cX9_place 40 = .ok (.iadd, 1) := by decide +kernel
theorem dX9_place_41 : decode cX9_place 41 = .ok (.iaload, 1) := by decide +kernel
theorem dX9_place_42 : decode cX9_place 42 = .ok (.goto 34, 3) := by decide +kernel
theorem dX9_place_45 : decode cX9_place 45 = .ok (.iload_n 2, 1) := by decide +kernel
theorem dX9_place_46 : decode cX9_place 46 = .ok (.iconst 1, 1) := by decide +kernel
theorem dX9_place_47 : decode cX9_place 47 = .ok (.if_icmp .ne 14, 3) := by decide +kernel
theorem dX9_place_50 : decode cX9_place 50 = .ok (.aload_n 0, 1) := by decide +kernel
theorem dX9_place_51 : decode cX9_place 51 = .ok (.bipush 100, 2) := by decide +kernel
theorem dX9_place_53 : decode cX9_place 53 = .ok (.iload_n 1, 1) := by decide +kernel
theorem dX9_place_54 : decode cX9_place 54 = .ok (.iadd, 1) := by decide +kernel
theorem dX9_place_55 : decode cX9_place 55 = .ok (.invokevirtual 295, 3) := by decide +kernel
theorem dX9_place_58 : decode cX9_place 58 = .ok (.goto 18, 3) := by decide +kernel
theorem dX9_place_61 : decode cX9_place 61 = .ok (.aload_n 0, 1) := by decide +kernel
theorem dX9_place_62 : decode cX9_place 62 = .ok (.iload_n 1, 1) := by decide +kernel
theorem dX9_place_63 : decode cX9_place 63 = .ok (.iload_n 2, 1) := by decide +kernel
theorem dX9_place_64 : decode cX9_place 64 = .ok (.iconst 2, 1) := by decide +kernel
theorem dX9_place_65 : decode cX9_place 65 = .ok (.if_icmp .ne 7, 3) := by decide +kernel
theorem dX9_place_68 : decode cX9_place 68 = .ok (.iconst 1, 1) := by decide +kernel
theorem dX9_place_69 : decode cX9_place 69 = .ok (.goto 4, 3) := by decide +kernel
theorem dX9_place_72 : decode cX9_place 72 = .ok (.iconst 0, 1) := by decide +kernel
theorem dX9_place_73 : decode cX9_place 73 = .ok (.invokevirtual 301, 3) := by decide +kernel
theorem dX9_place_76 : decode cX9_place 76 = .ok (.ireturn, 1) := by decide +kernel
abbrev vs_EM_place : List Cond := .code yX9_place cX9_place 3 (some .int) :: VM
theorem g_EM_place_X9_in : GoodIn vs_EM_place (va_wsS RX9 152 yX9_in vs_X9_in) := gm_0 (fun w h => by
  rcases List.mem_cons.mp h with rfl | h
  · exact vm_137
  rcases List.mem_cons.mp h with rfl | h
  · exact vm_138
  rcases List.mem_cons.mp h with rfl | h
  · exact vm_19
  rcases List.mem_cons.mp h with rfl | h
  · exact vm_139
  exact absurd h (List.not_mem_nil))
theorem g_EM_place_EM_isPlace : GoodIn vs_EM_place (wsV RX9 286 RX9 yX9_isPlace vs_EM_isPlace) := gm_V vm_148 vm_149 vm_150 vm_19 vm_151
theorem g_EM_place_EM_edgesOf : GoodIn vs_EM_place (wsV RX9 301 RX9 yX9_edgesOf vs_EM_edgesOf) := gm_V vm_167 vm_168 vm_169 vm_19 vm_170
theorem g_EM_place_EM_manyOf_p : GoodIn vs_EM_place (wsV RX9 295 RX9 yX9_manyOf vs_EM_manyOf_p) := gm_V vm_152 vm_153 vm_154 vm_19 vm_155
noncomputable def sp_EM_place (x16 : Nat) (f3 : Nat → Int32) (q4 : Nat → Nat) (q5 : Nat → Nat) (q6 : Nat → Nat) (m13_0 : Nat) (m13_1 : Nat) (m14_0 : Nat) (m14_1 : Nat) (p0 : Int32) (p1 : Int32) : Int32 × Int32 := (if (0 : Int32) ≤ p0 ∧ p0 < nI (bkN x16 m13_0 m13_1) then (slet ((p0 : Int32).toNatClampNeg) (fun n_2 => (if (0 : Int32) ≤ p1 ∧ p1 ≤ 3 then (slet ((p1 : Int32).toNatClampNeg) (fun n_4 => (if n_4 = 0 then (slet (f3 ((8 * x16) + n_2)) (fun y_19 => (y_19, 0))) else (if n_4 = 1 then (slet (sp_EM_manyOf_p x16 q4 m13_0 m13_1 (100 + n_2)) (fun u_15 => (if u_15 = 0 then ((-1), 0) else (slet (u_15 - 1) (fun n_16 => ((nI n_16), 0)))))) else (slet (α := Nat) (if n_4 = 2 then 1 else 0) (fun g_7 => (slet (sp_EM_edgesOf x16 q5 q6 m14_0 m14_1 (nI n_2) g_7) (fun r_11 => (r_11, 0))))))))) else ((-1), 0)))) else ((-1), 0))
set_option maxHeartbeats 4000000 in
set_option maxRecDepth 100000 in
theorem c_EM_place (l : Launch) (dC : Nat → ClassId) (dI : Nat → Nat → Nat) (sz : Nat) (ad : Nat → Nat) (ck : Nat → ClassId) (x0 : Int32) (x16 : Nat) (x18 : Nat) (x19 : Nat) (x20 : Int32) (x21 : Nat) (x22 : Nat) (x23 : Int32) (x24 : Int32) (x25 : Int32) (x26 : Nat) (x27 : Int32) (x28 : Nat) (x29 : Nat) (x30 : Nat) (x33 : Nat) (x45 : Int32) (x46 : Nat) (x52 : Nat) (x53 : Nat) (x61 : Nat) (x62 : Nat) (x63 : Nat) (x65 : Nat) (x66 : Int32) (f1 : Nat → Int32) (f2 : Nat → Int32) (f3 : Nat → Int32) (q4 : Nat → Nat) (q5 : Nat → Nat) (q6 : Nat → Nat) (q7 : Nat → Nat) (f8 : Nat → Int32) (q9 : Nat → Nat) (q10 : Nat → Nat) (f11 : Nat → Int32) (m12_0 m12_1 : Nat) (m13_0 m13_1 : Nat) (m14_0 m14_1 : Nat) (m15_0 m15_1 : Nat) (f17 : Nat → Int32) (q31 : Nat → Nat) (f32 : Nat → Int32) (f34 : Nat → Int32) (f35 : Nat → Int32) (f36 : Nat → Int32) (f37 : Nat → Int32) (q38 : Nat → Nat) (f39 : Nat → Int32) (f40 : Nat → Int32) (f41 : Nat → Int32) (m42_0 m42_1 : Nat) (f43 : Nat → Int32) (f44 : Nat → Int32) (f47 : Nat → Int32) (f48 : Nat → Int32) (f49 : Nat → Int32) (f50 : Nat → Int32) (f51 : Nat → Int32) (q54 : Nat → Nat) (q55 : Nat → Nat) (q56 : Nat → Nat) (f57 : Nat → Int32) (q58 : Nat → Nat) (f59 : Nat → Int32) (f60 : Nat → Int32) (f64 : Nat → Int32) (p0 : Int32) (p1 : Int32) (hx16 : x16 ≤ 1) (hx18 : x18 ≤ 900) (hx19 : x19 ≤ 900) (hx21 : x21 ≤ 900) (hx22 : x22 ≤ 4) (hx26 : x26 ≤ 6) (hx28 : x28 ≤ 1) (hx29 : x29 ≤ 1) (hx30 : x30 ≤ 1) (hx33 : x33 ≤ 20) (hx46 : x46 ≤ 5) (hx52 : x52 ≤ 2400) (hx53 : x53 ≤ 119) (hx61 : x61 ≤ 119) (hx62 : x62 ≤ 2000) (hx63 : x63 ≤ 1) (hx65 : x65 ≤ 7) (hm12_0 : m12_0 ≤ 3) (hm12_1 : m12_1 ≤ 3) (hm13_0 : m13_0 ≤ 8) (hm13_1 : m13_1 ≤ 8) (hm14_0 : m14_0 ≤ 14) (hm14_1 : m14_1 ≤ 14) (hm15_0 : m15_0 ≤ 8) (hm15_1 : m15_1 ≤ 8) (hm42_0 : m42_0 ≤ 120) (hm42_1 : m42_1 ≤ 400) : Met l yX9_place vs_EM_place ({ frames := 3, cells := 0, slots := 0, locals := 64 }) (va_Pc [.ref (ad 0), .int p0, .int p1] (pu_B (dC, dI) (mo_w ad ck x0 (nI x16) (nI x18) (nI x19) x20 (nI x21) (nI x22) x23 x24 x25 (nI x26) x27 (nI x28) (nI x29) (nI x30) (nI x33) x45 (nI x46) (nI x52) (nI x53) (nI x61) (nI x62) (nI x63) (nI x65) x66 f1 f2 f3 (bN 3 q4) (bN 7 q5) (bN 7 q6) (bN 4 q7) f8 (bN 2 q9) (bH q10) f11 (b2 m12_0 m12_1) (b2 m13_0 m13_1) (b2 m14_0 m14_1) (b2m m15_0 m15_1) f17 (bA 159 q31) f32 f34 f35 f36 f37 (bN 7 q38) f39 f40 f41 (b2 m42_0 m42_1) f43 f44 f47 f48 f49 f50 f51 (bN 13 q54) (bN 120 q55) (bN 120 q56) f57 (bN 120 q58) f59 f60 f64) (mo_t ck) sz)) (va_Qi (fun (r : Int32) (_ : Unit) => r = (sp_EM_place x16 f3 q4 q5 q6 m13_0 m13_1 m14_0 m14_1 p0 p1).1) (fun _ t => ∃ (z0 : Int32), pu_E (dC, dI) (mo_w ad ck z0 (nI x16) (nI x18) (nI x19) x20 (nI x21) (nI x22) x23 x24 x25 (nI x26) x27 (nI x28) (nI x29) (nI x30) (nI x33) x45 (nI x46) (nI x52) (nI x53) (nI x61) (nI x62) (nI x63) (nI x65) x66 f1 f2 f3 (bN 3 q4) (bN 7 q5) (bN 7 q6) (bN 4 q7) f8 (bN 2 q9) (bH q10) f11 (b2 m12_0 m12_1) (b2 m13_0 m13_1) (b2 m14_0 m14_1) (b2m m15_0 m15_1) f17 (bA 159 q31) f32 f34 f35 f36 f37 (bN 7 q38) f39 f40 f41 (b2 m42_0 m42_1) f43 f44 f47 f48 f49 f50 f51 (bN 13 q54) (bN 120 q55) (bN 120 q56) f57 (bN 120 q58) f59 f60 f64) (mo_t ck) (va_A ((mo_w ad ck x0 (nI x16) (nI x18) (nI x19) x20 (nI x21) (nI x22) x23 x24 x25 (nI x26) x27 (nI x28) (nI x29) (nI x30) (nI x33) x45 (nI x46) (nI x52) (nI x53) (nI x61) (nI x62) (nI x63) (nI x65) x66 f1 f2 f3 (bN 3 q4) (bN 7 q5) (bN 7 q6) (bN 4 q7) f8 (bN 2 q9) (bH q10) f11 (b2 m12_0 m12_1) (b2 m13_0 m13_1) (b2 m14_0 m14_1) (b2m m15_0 m15_1) f17 (bA 159 q31) f32 f34 f35 f36 f37 (bN 7 q38) f39 f40 f41 (b2 m42_0 m42_1) f43 f44 f47 f48 f49 f50 f51 (bN 13 q54) (bN 120 q55) (bN 120 q56) f57 (bN 120 q58) f59 f60 f64)) sz) t ∧ (z0 = (sp_EM_place x16 f3 q4 q5 q6 m13_0 m13_1 m14_0 m14_1 p0 p1).2)) (va_A ((mo_w ad ck x0 (nI x16) (nI x18) (nI x19) x20 (nI x21) (nI x22) x23 x24 x25 (nI x26) x27 (nI x28) (nI x29) (nI x30) (nI x33) x45 (nI x46) (nI x52) (nI x53) (nI x61) (nI x62) (nI x63) (nI x65) x66 f1 f2 f3 (bN 3 q4) (bN 7 q5) (bN 7 q6) (bN 4 q7) f8 (bN 2 q9) (bH q10) f11 (b2 m12_0 m12_1) (b2 m13_0 m13_1) (b2 m14_0 m14_1) (b2m m15_0 m15_1) f17 (bA 159 q31) f32 f34 f35 f36 f37 (bN 7 q38) f39 f40 f41 (b2 m42_0 m42_1) f43 f44 f47 f48 f49 f50 f51 (bN 13 q54) (bN 120 q55) (bN 120 q56) f57 (bN 120 q58) f59 f60 f64)) sz)) 0 0 (va_A ((mo_w ad ck x0 (nI x16) (nI x18) (nI x19) x20 (nI x21) (nI x22) x23 x24 x25 (nI x26) x27 (nI x28) (nI x29) (nI x30) (nI x33) x45 (nI x46) (nI x52) (nI x53) (nI x61) (nI x62) (nI x63) (nI x65) x66 f1 f2 f3 (bN 3 q4) (bN 7 q5) (bN 7 q6) (bN 4 q7) f8 (bN 2 q9) (bH q10) f11 (b2 m12_0 m12_1) (b2 m13_0 m13_1) (b2 m14_0 m14_1) (b2m m15_0 m15_1) f17 (bA 159 q31) f32 f34 f35 f36 f37 (bN 7 q38) f39 f40 f41 (b2 m42_0 m42_1) f43 f44 f47 f48 f49 f50 f51 (bN 13 q54) (bN 120 q55) (bN 120 q56) f57 (bN 120 q58) f59 f60 f64)) sz) := by
  refine Met.ofW (cc := cX9_place) (maxL := 3) (ret := (some .int)) (by decide) rfl ?_
  intro p e s m args below meth c s₁ B hml hv
  obtain ⟨rfl, rfl, hP, hK, hD0⟩ := hv
  have hx := B.exec
  have hb := B.bytes
  have hr := B.returns
  have hts := atoms_spec (ws := vs_EM_place) B.pre
  have v_1 := hts (.fieldLink RX9 142 "ClockReachModel" "thrown" "I") (List.mem_cons_of_mem _ vm_5)
  have v_18 := hts (.fieldLink RX9 16 "ClockReachModel" "urgent" "[I") (List.mem_cons_of_mem _ vm_11)
  have v_19 := hts (.fieldLink RX9 258 "ClockReachModel" "bank" "I") (List.mem_cons_of_mem _ vm_4)
  have hown : s.vm.findClass RX9 = some m.cls := findClass_of_methodNamed B.named
  have hlocks := B.notSynchronized
  have hiX9 : ∀ w ∈ wsX90, w ∈ vs_EM_place := fun _ h => List.mem_cons_of_mem _ (vmi_L h)
  have hD := hD0.self (sz := s.heap.size)
  generalize hAe : va_A ((mo_w ad ck x0 (nI x16) (nI x18) (nI x19) x20 (nI x21) (nI x22) x23 x24 x25 (nI x26) x27 (nI x28) (nI x29) (nI x30) (nI x33) x45 (nI x46) (nI x52) (nI x53) (nI x61) (nI x62) (nI x63) (nI x65) x66 f1 f2 f3 (bN 3 q4) (bN 7 q5) (bN 7 q6) (bN 4 q7) f8 (bN 2 q9) (bH q10) f11 (b2 m12_0 m12_1) (b2 m13_0 m13_1) (b2 m14_0 m14_1) (b2m m15_0 m15_1) f17 (bA 159 q31) f32 f34 f35 f36 f37 (bN 7 q38) f39 f40 f41 (b2 m42_0 m42_1) f43 f44 f47 f48 f49 f50 f51 (bN 13 q54) (bN 120 q55) (bN 120 q56) f57 (bN 120 q58) f59 f60 f64)) s.heap.size = A at hD ⊢
  have hA : ∀ q : Nat, s.heap.size ≤ q → A q := fun q h => by rw [← hAe]; exact Or.inr h
  have hS : va_S A s.heap s.heap [] := va_S.rf
  have hl := lv_entry ([.ref (ad 0), .int p0, .int p1]) (n := 3) (Nat.le_of_ble_eq_true rfl)
  rw [lg_entry_eq]
  generalize (lg_sl ([.ref (ad 0), .int p0, .int p1]) ++ List.replicate (3 - (lg_sl ([.ref (ad 0), .int p0, .int p1])).length) Slot.unset).toArray = ls at hl ⊢
  have hl : lv_has ls 3 [(0, .ref (ad 0)), (1, .int p0), (2, .int p1)] := hl
  obtain ⟨RR, hRR⟩ : ∃ x, x = (sp_EM_place x16 f3 q4 q5 q6 m13_0 m13_1 m14_0 m14_1 p0 p1) := ⟨_, rfl⟩
  have hsp := hRR
  refine lv_aload_n hx hb dX9_place_0 rfl (lv_at hl 0 rfl) ?_
  refine lv_iconst (v := 0) hx hb dX9_place_1 (by decide) ?_
  refine va_put (D := (dC, dI)) (ci := 9) (v := .int 0) (ty := .int) (C := RX9) (T := TX9) (N := 67) hx hb hts hiX9 tyX9 tyX9_ok nmX9 hown hK hP hD hS 0 rfl rfl 0 (by decide) v_1 (fun _ h9 => h9) rfl (by decide +kernel) rfl rfl (Nat.le_of_ble_eq_true rfl) dX9_place_2 (fun H locs hP hD hS => ?_)
  have hP : va_P (dC, dI) vwCl (mo_w ad ck 0 (nI x16) (nI x18) (nI x19) x20 (nI x21) (nI x22) x23 x24 x25 (nI x26) x27 (nI x28) (nI x29) (nI x30) (nI x33) x45 (nI x46) (nI x52) (nI x53) (nI x61) (nI x62) (nI x63) (nI x65) x66 f1 f2 f3 (bN 3 q4) (bN 7 q5) (bN 7 q6) (bN 4 q7) f8 (bN 2 q9) (bH q10) f11 (b2 m12_0 m12_1) (b2 m13_0 m13_1) (b2 m14_0 m14_1) (b2m m15_0 m15_1) f17 (bA 159 q31) f32 f34 f35 f36 f37 (bN 7 q38) f39 f40 f41 (b2 m42_0 m42_1) f43 f44 f47 f48 f49 f50 f51 (bN 13 q54) (bN 120 q55) (bN 120 q56) f57 (bN 120 q58) f59 f60 f64) H := hP
  have hD : va_D A (mo_w ad ck 0 (nI x16) (nI x18) (nI x19) x20 (nI x21) (nI x22) x23 x24 x25 (nI x26) x27 (nI x28) (nI x29) (nI x30) (nI x33) x45 (nI x46) (nI x52) (nI x53) (nI x61) (nI x62) (nI x63) (nI x65) x66 f1 f2 f3 (bN 3 q4) (bN 7 q5) (bN 7 q6) (bN 4 q7) f8 (bN 2 q9) (bH q10) f11 (b2 m12_0 m12_1) (b2 m13_0 m13_1) (b2 m14_0 m14_1) (b2m m15_0 m15_1) f17 (bA 159 q31) f32 f34 f35 f36 f37 (bN 7 q38) f39 f40 f41 (b2 m42_0 m42_1) f43 f44 f47 f48 f49 f50 f51 (bN 13 q54) (bN 120 q55) (bN 120 q56) f57 (bN 120 q58) f59 f60 f64) := hD
  refine lv_aload_n hx hb dX9_place_5 rfl (lv_at hl 0 rfl) ?_
  refine lv_iload_n hx hb dX9_place_6 rfl (lv_at hl 1 rfl) ?_
  refine va_calli (va_runV (As := [.int p0]) (rest := []) ⟨hx, hb, hml, hown, hts⟩ (c_EM_isPlace l dC dI _ ad ck 0 x16 x18 x19 x20 x21 x22 x23 x24 x25 x26 x27 x28 x29 x30 x33 x45 x46 x52 x53 x61 x62 x63 x65 x66 f1 f2 f3 q4 q5 q6 q7 f8 q9 q10 f11 m12_0 m12_1 m13_0 m13_1 m14_0 m14_1 m15_0 m15_1 f17 q31 f32 f34 f35 f36 f37 q38 f39 f40 f41 m42_0 m42_1 f43 f44 f47 f48 f49 f50 f51 q54 q55 q56 f57 q58 f59 f60 f64 p0 hx16 hx18 hx19 hx21 hx22 hx26 hx28 hx29 hx30 hx33 hx46 hx52 hx53 hx61 hx62 hx63 hx65 hm12_0 hm12_1 hm13_0 hm13_1 hm14_0 hm14_1 hm15_0 hm15_1 hm42_0 hm42_1) (cwV 1 hts g_EM_place_EM_isPlace rfl rfl rfl (by decide +kernel) ⟨Nat.le_of_ble_eq_true rfl, Nat.le_of_ble_eq_true rfl⟩) ⟨pu_bl, va_recv hK hP (ci := 9) (q0 := 0) rfl rfl, pu_in hP hK hD⟩ rfl rfl hl.1 rfl (lv_room (Nat.le_of_ble_eq_true rfl)) dX9_place_7 ⟨Nat.le_of_ble_eq_true rfl, Nat.le_of_ble_eq_true rfl⟩) hS (fun q _ h => pu_fr hS hA q h) (pu_fr hS hA) (fun r_1 u t H1 locs ht hvm hw hB hz1 hk1 hS => ?_)
  have hP := pu_keep hP hk1
  clear hk1 hz1 ht hvm
  generalize H1 = H at hP hS ⊢
  rcases hw with ⟨rfl, hw⟩ | ⟨rfl, hn⟩
  · obtain ⟨n_2, hn_2, en_2⟩ := hw
    replace hsp := hsp.trans (if_pos (in_c hn_2 ⟨by omega, by omega⟩ en_2))
    subst en_2
    replace hsp := hsp.trans (slet_eq (nI_cl (n := n_2) (by omega)))
    refine lv_if_eq (tgt := 22) hx hb dX9_place_10 (by decide) (fun z => absurd z (by decide)) (fun _ => ?_)
    refine lv_iload_n hx hb dX9_place_13 rfl (lv_at hl 2 rfl) ?_
    refine lv_iconst (v := 0) hx hb dX9_place_14 (by decide) ?_
    refine lv_iconst (v := 3) hx hb dX9_place_15 (by decide) ?_
    refine va_calli (va_runS (As := [.int p1, .int 0, .int 3]) (rest := []) ⟨hx, hb, hml, hown, hts⟩ (c_X9_in l dC dI _ p1 0 3) (va_cwS 3 hts g_EM_place_X9_in rfl rfl rfl (by decide +kernel) ⟨Nat.le_of_ble_eq_true rfl, Nat.le_of_ble_eq_true rfl⟩) ⟨pu_bl, pu_in (hP.sub [] rfl) (hK.sub [] rfl) (hD.sub [] (by decide) rfl)⟩ rfl rfl hl.1 rfl (lv_room (Nat.le_of_ble_eq_true rfl)) dX9_place_16 ⟨Nat.le_of_ble_eq_true rfl, Nat.le_of_ble_eq_true rfl⟩) hS (fun q _ h => pu_fr hS hA q h) (pu_fr hS hA) (fun r_3 u t H1 locs ht hvm hw hB hz1 hk1 hS => ?_)
    have hP := pu_keep hP hk1
    clear hk1 hz1 ht hvm
    generalize H1 = H at hP hS ⊢
    rcases hw with ⟨rfl, hi1, hi2⟩ | ⟨rfl, hi3⟩
    · replace hsp := hsp.trans (if_pos ⟨hi1, hi2⟩)
      obtain ⟨n_4, hn_4, rfl⟩ := pu_in0 (n := 3) (by omega) hi1 hi2
      replace hsp := hsp.trans (slet_eq (nI_cl (n := n_4) (by omega)))
      refine lv_if_ne (tgt := 24) hx hb dX9_place_19 (by decide) (fun _ => ?_) (fun z => absurd z (by decide))
      refine lv_iload_n hx hb dX9_place_24 rfl (lv_at hl 2 rfl) ?_
      refine lv_if_ne (tgt := 45) hx hb dX9_place_25 (by decide) (fun c_5 => ?_) (fun c_5 => ?_)
      · have c_5 : ¬ n_4 = 0 := fun z => c_5 ((nI_eq (a := n_4) (b := 0) (by omega) (Nat.le_of_ble_eq_true rfl)).mpr z)
        replace hsp := hsp.trans (if_neg c_5)
        refine lv_iload_n hx hb dX9_place_45 rfl (lv_at hl 2 rfl) ?_
        refine lv_iconst (v := 1) hx hb dX9_place_46 (by decide) ?_
        refine lv_icmp_ne (tgt := 61) hx hb dX9_place_47 (by decide) (fun c_6 => ?_) (fun c_6 => ?_)
        · have c_6 : ¬ n_4 = 1 := fun z => c_6 ((nI_eq (a := n_4) (b := 1) (by omega) (Nat.le_of_ble_eq_true rfl)).mpr z)
          replace hsp := hsp.trans (if_neg c_6)
          refine lv_aload_n hx hb dX9_place_61 rfl (lv_at hl 0 rfl) ?_
          refine lv_iload_n hx hb dX9_place_62 rfl (lv_at hl 1 rfl) ?_
          refine lv_iload_n hx hb dX9_place_63 rfl (lv_at hl 2 rfl) ?_
          refine lv_iconst (v := 2) hx hb dX9_place_64 (by decide) ?_
          obtain ⟨JR_9, hJR_9, hsp⟩ := slet_ex hsp
          refine pu_join (fun H locs ls st => ∃ (g_7 : Nat), st = [.int (nI g_7), .int (nI n_2), .ref (ad 0)] ∧ g_7 ≤ 1 ∧ g_7 = JR_9 ∧ va_P (dC, dI) vwCl (mo_w ad ck 0 (nI x16) (nI x18) (nI x19) x20 (nI x21) (nI x22) x23 x24 x25 (nI x26) x27 (nI x28) (nI x29) (nI x30) (nI x33) x45 (nI x46) (nI x52) (nI x53) (nI x61) (nI x62) (nI x63) (nI x65) x66 f1 f2 f3 (bN 3 q4) (bN 7 q5) (bN 7 q6) (bN 4 q7) f8 (bN 2 q9) (bH q10) f11 (b2 m12_0 m12_1) (b2 m13_0 m13_1) (b2 m14_0 m14_1) (b2m m15_0 m15_1) f17 (bA 159 q31) f32 f34 f35 f36 f37 (bN 7 q38) f39 f40 f41 (b2 m42_0 m42_1) f43 f44 f47 f48 f49 f50 f51 (bN 13 q54) (bN 120 q55) (bN 120 q56) f57 (bN 120 q58) f59 f60 f64) H ∧ va_D A (mo_w ad ck 0 (nI x16) (nI x18) (nI x19) x20 (nI x21) (nI x22) x23 x24 x25 (nI x26) x27 (nI x28) (nI x29) (nI x30) (nI x33) x45 (nI x46) (nI x52) (nI x53) (nI x61) (nI x62) (nI x63) (nI x65) x66 f1 f2 f3 (bN 3 q4) (bN 7 q5) (bN 7 q6) (bN 4 q7) f8 (bN 2 q9) (bH q10) f11 (b2 m12_0 m12_1) (b2 m13_0 m13_1) (b2 m14_0 m14_1) (b2m m15_0 m15_1) f17 (bA 159 q31) f32 f34 f35 f36 f37 (bN 7 q38) f39 f40 f41 (b2 m42_0 m42_1) f43 f44 f47 f48 f49 f50 f51 (bN 13 q54) (bN 120 q55) (bN 120 q56) f57 (bN 120 q58) f59 f60 f64) ∧ va_S A s.heap H locs ∧ lv_has ls 3 [(0, .ref (ad 0)), (1, .int (nI n_2)), (2, .int (nI n_4))]) 73 ?_ (fun j_8 => ?_)
          · rintro H locs ls st ⟨g_7, rfl, hg_7, he_10, hP, hD, hS, hl⟩
            rw [← he_10] at hsp
            refine va_calli (va_runV (As := [.int (nI n_2), .int (nI g_7)]) (rest := []) ⟨hx, hb, hml, hown, hts⟩ (c_EM_edgesOf l dC dI _ ad ck 0 x16 x18 x19 x20 x21 x22 x23 x24 x25 x26 x27 x28 x29 x30 x33 x45 x46 x52 x53 x61 x62 x63 x65 x66 f1 f2 f3 q4 q5 q6 q7 f8 q9 q10 f11 m12_0 m12_1 m13_0 m13_1 m14_0 m14_1 m15_0 m15_1 f17 q31 f32 f34 f35 f36 f37 q38 f39 f40 f41 m42_0 m42_1 f43 f44 f47 f48 f49 f50 f51 q54 q55 q56 f57 q58 f59 f60 f64 (nI n_2) g_7 hx16 hx18 hx19 hx21 hx22 hx26 hx28 hx29 hx30 hx33 hx46 hx52 hx53 hx61 hx62 hx63 hx65 hm12_0 hm12_1 hm13_0 hm13_1 hm14_0 hm14_1 hm15_0 hm15_1 hm42_0 hm42_1 hg_7) (cwV 2 hts g_EM_place_EM_edgesOf rfl rfl rfl (by decide +kernel) ⟨Nat.le_of_ble_eq_true rfl, Nat.le_of_ble_eq_true rfl⟩) ⟨pu_bl, va_recv hK hP (ci := 9) (q0 := 0) rfl rfl, pu_in hP hK hD⟩ rfl rfl hl.1 rfl (lv_room (Nat.le_of_ble_eq_true rfl)) dX9_place_73 ⟨Nat.le_of_ble_eq_true rfl, Nat.le_of_ble_eq_true rfl⟩) hS (fun q _ h => pu_fr hS hA q h) (pu_fr hS hA) (fun r_11 u t H1 locs ht hvm hw hB hz1 hk1 hS => ?_)
            have hP := pu_keep hP hk1
            clear hk1 hz1 ht hvm
            generalize H1 = H at hP hS ⊢
            have ir_11 := hw
            replace hsp := hsp.trans (slet_eq ir_11)
            exact W.iret (v := r_11) hx hb hr (fun t ht hW => ⟨⟨r_11, (), rfl, (congrArg Prod.fst (hsp.symm.trans hRR)), ⟨0, ⟨by rw [ht]; exact hP, va_K.moved hW.alike hK, hD⟩, (congrArg Prod.snd (hsp.symm.trans hRR))⟩⟩, hS.F ht⟩) hS.2.2 dX9_place_76
          have hsp := hJR_9
          refine lv_icmp_ne (tgt := 72) hx hb dX9_place_65 (by decide) (fun c_12 => ?_) (fun c_12 => ?_)
          · have c_12 : ¬ n_4 = 2 := fun z => c_12 ((nI_eq (a := n_4) (b := 2) (by omega) (Nat.le_of_ble_eq_true rfl)).mpr z)
            replace hsp := hsp.trans (if_neg c_12)
            refine lv_iconst (v := 0) hx hb dX9_place_72 (by decide) ?_
            exact j_8 _ _ _ _ ⟨0, rfl, (Nat.le_of_ble_eq_true rfl), hsp.symm, hP, hD, hS, lv_sub hl [0, 1, 2] rfl⟩
          · have c_12 : n_4 = 2 := (nI_eq (a := n_4) (b := 2) (by omega) (Nat.le_of_ble_eq_true rfl)).mp c_12
            replace hsp := hsp.trans (if_pos c_12)
            refine lv_iconst (v := 1) hx hb dX9_place_68 (by decide) ?_
            refine lv_goto (tgt := 73) hx hb dX9_place_69 (by decide) ?_
            exact j_8 _ _ _ _ ⟨1, rfl, (Nat.le_of_ble_eq_true rfl), hsp.symm, hP, hD, hS, lv_sub hl [0, 1, 2] rfl⟩
        · have c_6 : n_4 = 1 := (nI_eq (a := n_4) (b := 1) (by omega) (Nat.le_of_ble_eq_true rfl)).mp c_6
          replace hsp := hsp.trans (if_pos c_6)
          refine lv_aload_n hx hb dX9_place_50 rfl (lv_at hl 0 rfl) ?_
          refine lv_bipush (v := 100) hx hb dX9_place_51 (by decide) ?_
          refine lv_iload_n hx hb dX9_place_53 rfl (lv_at hl 1 rfl) ?_
          refine lv_iadd hx hb dX9_place_54 ?_
          refine lv_topi (fun y_13 ey_13 => ?_)
          obtain rfl : y_13 = (nI (100 + n_2)) := ey_13.trans (nI_add 100 n_2)
          refine va_calli (va_runV (As := [.int (nI (100 + n_2))]) (rest := []) ⟨hx, hb, hml, hown, hts⟩ (c_EM_manyOf_p l dC dI _ ad ck 0 x16 x18 x19 x20 x21 x22 x23 x24 x25 x26 x27 x28 x29 x30 x33 x45 x46 x52 x53 x61 x62 x63 x65 x66 f1 f2 f3 q4 q5 q6 q7 f8 q9 q10 f11 m12_0 m12_1 m13_0 m13_1 m14_0 m14_1 m15_0 m15_1 f17 q31 f32 f34 f35 f36 f37 q38 f39 f40 f41 m42_0 m42_1 f43 f44 f47 f48 f49 f50 f51 q54 q55 q56 f57 q58 f59 f60 f64 (100 + n_2) hx16 hx18 hx19 hx21 hx22 hx26 hx28 hx29 hx30 hx33 hx46 hx52 hx53 hx61 hx62 hx63 hx65 hm12_0 hm12_1 hm13_0 hm13_1 hm14_0 hm14_1 hm15_0 hm15_1 hm42_0 hm42_1 (by omega) (by omega)) (cwV 1 hts g_EM_place_EM_manyOf_p rfl rfl rfl (by decide +kernel) ⟨Nat.le_of_ble_eq_true rfl, Nat.le_of_ble_eq_true rfl⟩) ⟨pu_bl, va_recv hK hP (ci := 9) (q0 := 0) rfl rfl, pu_in hP hK hD⟩ rfl rfl hl.1 rfl (lv_room (Nat.le_of_ble_eq_true rfl)) dX9_place_55 ⟨Nat.le_of_ble_eq_true rfl, Nat.le_of_ble_eq_true rfl⟩) hS (fun q _ h => pu_fr hS hA q h) (pu_fr hS hA) (fun r_14 u t H1 locs ht hvm hw hB hz1 hk1 hS => ?_)
          have hP := pu_keep hP hk1
          clear hk1 hz1 ht hvm
          generalize H1 = H at hP hS ⊢
          obtain ⟨u_15, hu_15, mu_15, iu_15⟩ := hw
          replace hsp := hsp.trans (slet_eq iu_15)
          rcases mI_get u_15 with ⟨zn_16, wn_16⟩ | ⟨n_16, zn_16, wn_16⟩
          · obtain rfl : r_14 = -1 := mu_15.trans wn_16
            replace hsp := hsp.trans (if_pos zn_16)
            refine lv_goto (tgt := 76) hx hb dX9_place_58 (by decide) ?_
            exact W.iret (v := (-1)) hx hb hr (fun t ht hW => ⟨⟨(-1), (), rfl, (congrArg Prod.fst (hsp.symm.trans hRR)), ⟨0, ⟨by rw [ht]; exact hP, va_K.moved hW.alike hK, hD⟩, (congrArg Prod.snd (hsp.symm.trans hRR))⟩⟩, hS.F ht⟩) hS.2.2 dX9_place_76
          · obtain rfl : r_14 = nI n_16 := mu_15.trans wn_16
            have hn_16 : n_16 ≤ 3 := by omega
            replace hsp := hsp.trans (if_neg (by omega))
            replace hsp := hsp.trans (slet_eq (by omega : n_16 = u_15 - 1))
            refine lv_goto (tgt := 76) hx hb dX9_place_58 (by decide) ?_
            exact W.iret (v := (nI n_16)) hx hb hr (fun t ht hW => ⟨⟨(nI n_16), (), rfl, (congrArg Prod.fst (hsp.symm.trans hRR)), ⟨0, ⟨by rw [ht]; exact hP, va_K.moved hW.alike hK, hD⟩, (congrArg Prod.snd (hsp.symm.trans hRR))⟩⟩, hS.F ht⟩) hS.2.2 dX9_place_76
      · have c_5 : n_4 = 0 := (nI_eq (a := n_4) (b := 0) (by omega) (Nat.le_of_ble_eq_true rfl)).mp c_5
        replace hsp := hsp.trans (if_pos c_5)
        refine lv_aload_n hx hb dX9_place_28 rfl (lv_at hl 0 rfl) ?_
        refine va_get (D := (dC, dI)) (ci := 9) (v := .ref (ad 3)) (C := RX9) (T := TX9) (N := 67) hx hb hts hiX9 hown hK hP 0 rfl rfl 3 (by decide) v_18 (fun _ h9 => h9) rfl dX9_place_29 ?_
        refine lv_bipush (v := 8) hx hb dX9_place_32 (by decide) ?_
        refine lv_aload_n hx hb dX9_place_34 rfl (lv_at hl 0 rfl) ?_
        refine va_get (D := (dC, dI)) (ci := 9) (v := .int (nI x16)) (C := RX9) (T := TX9) (N := 67) hx hb hts hiX9 hown hK hP 0 rfl rfl 16 (by decide) v_19 (fun _ h9 => h9) rfl dX9_place_35 ?_
        refine lv_imul hx hb dX9_place_38 ?_
        refine lv_topi (fun y_17 ey_17 => ?_)
        obtain rfl : y_17 = (nI (8 * x16)) := ey_17.trans (pk_mul 8 x16)
        refine lv_iload_n hx hb dX9_place_39 rfl (lv_at hl 1 rfl) ?_
        refine lv_iadd hx hb dX9_place_40 ?_
        refine lv_topi (fun y_18 ey_18 => ?_)
        obtain rfl : y_18 = (nI ((8 * x16) + n_2)) := ey_18.trans (nI_add (8 * x16) n_2)
        refine va_iald hx hb hK hP 3 2 rfl rfl (vp_in_nI (n := ((8 * x16) + n_2)) (by omega) (Nat.le_of_ble_eq_true rfl)) dX9_place_41 ?_
        refine lv_topi (fun y_19 ey_19 => ?_)
        have ey_19 : y_19 = f3 ((8 * x16) + n_2) := ey_19.trans (congrArg f3 (nI_clamp (n := ((8 * x16) + n_2)) (by first | omega | exact Nat.lt_trans (zx16 (by omega) (by omega) (by omega)) (Nat.le_of_ble_eq_true rfl) | exact Nat.lt_trans (zy16 (by omega) (by omega)) (Nat.le_of_ble_eq_true rfl) | exact Nat.lt_trans (zx25 (by omega) (by omega) (by omega)) (Nat.le_of_ble_eq_true rfl) | exact Nat.lt_trans (zy25 (by omega) (by omega)) (Nat.le_of_ble_eq_true rfl))))
        replace hsp := hsp.trans (slet_eq ey_19)
        refine lv_goto (tgt := 76) hx hb dX9_place_42 (by decide) ?_
        exact W.iret (v := y_19) hx hb hr (fun t ht hW => ⟨⟨y_19, (), rfl, (congrArg Prod.fst (hsp.symm.trans hRR)), ⟨0, ⟨by rw [ht]; exact hP, va_K.moved hW.alike hK, hD⟩, (congrArg Prod.snd (hsp.symm.trans hRR))⟩⟩, hS.F ht⟩) hS.2.2 dX9_place_76
    · replace hsp := hsp.trans (if_neg hi3)
      refine lv_if_ne (tgt := 24) hx hb dX9_place_19 (by decide) (fun z => absurd z (by decide)) (fun _ => ?_)
      refine lv_iconst (v := (-1)) hx hb dX9_place_22 (by decide) ?_
      exact W.iret (v := (-1)) hx hb hr (fun t ht hW => ⟨⟨(-1), (), rfl, (congrArg Prod.fst (hsp.symm.trans hRR)), ⟨0, ⟨by rw [ht]; exact hP, va_K.moved hW.alike hK, hD⟩, (congrArg Prod.snd (hsp.symm.trans hRR))⟩⟩, hS.F ht⟩) hS.2.2 dX9_place_23
  · replace hsp := hsp.trans (if_neg hn)
    refine lv_if_eq (tgt := 22) hx hb dX9_place_10 (by decide) (fun _ => ?_) (fun z => absurd z (by decide))
    refine lv_iconst (v := (-1)) hx hb dX9_place_22 (by decide) ?_
    exact W.iret (v := (-1)) hx hb hr (fun t ht hW => ⟨⟨(-1), (), rfl, (congrArg Prod.fst (hsp.symm.trans hRR)), ⟨0, ⟨by rw [ht]; exact hP, va_K.moved hW.alike hK, hD⟩, (congrArg Prod.snd (hsp.symm.trans hRR))⟩⟩, hS.F ht⟩) hS.2.2 dX9_place_23
