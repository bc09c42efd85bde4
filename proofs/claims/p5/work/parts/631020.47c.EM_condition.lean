theorem dX9_condition_0 : decode cX9_condition 0 = .ok (.aload_n 0, 1) := by decide +kernel
theorem dX9_condition_1 : decode cX9_condition 1 = .ok (.iconst 0, 1) := by decide +kernel
theorem dX9_condition_2 : decode cX9_condition 2 = .ok (.putfield 142, 3) := by decide +kernel
theorem dX9_condition_5 : decode cX9_condition 5 = .ok (.aload_n 0, 1) := by decide +kernel
theorem dX9_condition_6 : decode cX9_condition 6 = .ok (.iload_n 1, 1) := by decide +kernel
theorem dX9_condition_7 : decode cX9_condition 7 = .ok (.iload_n 2, 1) := by decide +kernel
theorem dX9_condition_8 : decode cX9_condition 8 = .ok (.invokevirtual 308, 3) := by decide +kernel
theorem dX9_condition_11 : decode cX9_condition 11 = .ok (.ifCond .eq 12, 3) := by decide +kernel
theorem dX9_condition_14 : decode cX9_condition 14 = .ok (.iload_n 3, 1) := by decide +kernel
theorem dX9_condition_15 : decode cX9_condition 15 = .ok (.iconst 0, 1) := by decide +kernel
theorem dX9_condition_16 : decode cX9_condition 16 = .ok (.iconst 2, 1) := by decide +kernel
theorem dX9_condition_17 : decode cX9_condition 17 = .ok (.invokestatic 152, 3) := by decide +kernel
theorem dX9_condition_20 : decode cX9_condition 20 = .ok (.ifCond .ne 5, 3) := by decide +kernel
theorem dX9_condition_23 : decode cX9_condition 23 = .ok (.iconst (-1), 1) := by decide +kernel
theorem dX9_condition_24 : decode cX9_condition 24 = .ok (.ireturn, 1) := by decide +kernel
theorem dX9_condition_25 : decode cX9_condition 25 = .ok (.aload_n 0, 1) := by decide +kernel
theorem dX9_condition_26 : decode cX9_condition 26 = .ok (.iload_n 1, 1) := by decide +kernel
theorem dX9_condition_27 : decode cX9_condition 27 = .ok (.iload_n 2, 1) := by decide +kernel
theorem dX9_condition_28 : decode cX9_condition 28 = .ok (.invokevirtual 311, 3) := by decide +kernel
theorem dX9_condition_31 : decode cX9_condition 31 = .ok (.istore 4, 2) := by decide +kernel
theorem dX9_condition_33 : decode cX9_condition 33 = .ok (.iload_n 3, 1) := by decide +kernel
theorem dX9_condition_34 : decode cX9_condition 34 = .ok (.ifCond .ne 13, 3) := by decide +kernel
theorem dX9_condition_37 : decode cX9_condition 37 = .ok (.aload_n 0, 1) := by decide +kernel
theorem dX9_condition_38 : decode cX9_condition 38 = .ok (.getfield 34, 3) := by decide +kernel
theorem dX9_condition_41 : decode cX9_condition 41 = .ok (.iload 4, 2) := by decide +kernel
theorem dX9_condition_43 : decode cX9_condition 43 = .ok (.iaload, 1) := by decide +kernel
theorem dX9_condition_44 : decode cX9_condition 44 = .ok (.goto 25, 3) := by decide +kernel
theorem dX9_condition_47 : decode cX9_condition 47 = .ok (.iload_n 3, 1) := by decide +kernel
theorem dX9_condition_48 : decode cX9_condition 48 = .ok (.iconst 1, 1) := by decide +kernel
theorem dX9_condition_49 : decode cX9_condition 49 = .ok (.if_icmp .ne 13, 3) := by decide +kernel
theorem dX9_condition_52 : decode cX9_condition 52 = .ok (.aload_n 0, 1) := by decide +kernel
theorem dX9_condition_53 : decode cX9_condition 53 = .ok (.getfield 37, 3) := by decide +kernel
theorem dX9_condition_56 : decode cX9_condition 56 = .ok (.iload 4, 2) := by decide +kernel
theorem dX9_condition_58 : decode cX9_condition 58 = .ok (.iaload, 1) := by decide +kernel
theorem dX9_condition_59 : decode cX9_condition 59 = .ok (.goto 10, 3) := by decide +kernel
theorem dX9_condition_62 : decode cX9_condition 62 = .ok (.aload_n 0, 1) := by decide +kernel
theorem dX9_condition_63 : decode cX9_condition 63 = .ok (.getfield 40, 3) := by decide +kernel
theorem dX9_condition_66 : decode cX9_condition 66 = .ok (.iload 4, 2) := by decide +kernel
theorem dX9_condition_68 : decode cX9_condition 68 = .ok (.iaload, 1) := by decide +kernel
theorem dX9_condition_69 : decode cX9_condition 69 = .ok (.ireturn, 1) := by decide +kernel
abbrev vs_EM_condition : List Cond := .code yX9_condition cX9_condition 5 (some .int) :: VM
theorem g_EM_condition_X9_in : GoodIn vs_EM_condition (va_wsS RX9 152 yX9_in vs_X9_in) := gm_0 (fun w h => by
  rcases List.mem_cons.mp h with rfl | h
  · exact vm_137
  rcases List.mem_cons.mp h with rfl | h
  · exact vm_138
  rcases List.mem_cons.mp h with rfl | h
  · exact vm_19
  rcases List.mem_cons.mp h with rfl | h
  · exact vm_139
  exact absurd h (List.not_mem_nil))
theorem g_EM_condition_EM_isCondition : GoodIn vs_EM_condition (wsV RX9 308 RX9 yX9_isCondition vs_EM_isCondition) := gm_V vm_156 vm_157 vm_158 vm_19 vm_159
theorem g_EM_condition_EM_spot_e : GoodIn vs_EM_condition (wsV RX9 311 RX9 yX9_spot vs_EM_spot_e) := gm_V vm_160 vm_161 vm_162 vm_19 vm_163
theorem g_EM_condition_EM_spot_p : GoodIn vs_EM_condition (wsV RX9 311 RX9 yX9_spot vs_EM_spot_p) := gm_V vm_160 vm_161 vm_162 vm_19 vm_163
noncomputable def sp_EM_condition (x16 : Nat) (q4 : Nat → Nat) (q7 : Nat → Nat) (q9 : Nat → Nat) (q10 : Nat → Nat) (f11 : Nat → Int32) (m13_0 : Nat) (m13_1 : Nat) (m14_0 : Nat) (m14_1 : Nat) (p0 : Int32) (p1 : Int32) (p2 : Int32) : Int32 × Int32 := (slet (sp_EM_isCondition x16 q4 q7 m13_0 m13_1 m14_0 m14_1 p0 p1) (fun u_2 => (if u_2 = 1 then (if (p0 : Int32) < 100 then (slet ((p0 : Int32).toNatClampNeg) (fun n_3 => (slet ((p1 : Int32).toNatClampNeg) (fun n_4 => (if (0 : Int32) ≤ p2 ∧ p2 ≤ 2 then (slet ((p2 : Int32).toNatClampNeg) (fun n_6 => (if n_6 = 0 then (slet (min (q9 (80 * x16 + 4 * n_3 + n_4)) 2) (fun u_14 => ((nI u_14), 0))) else (if n_6 = 1 then (slet (min (q10 (80 * x16 + 4 * n_3 + n_4)) (if (80 * x16 + 4 * n_3 + n_4) % 80 < 56 then 4 else 1)) (fun u_12 => ((nI u_12), 0))) else (slet (f11 (80 * x16 + 4 * n_3 + n_4)) (fun y_10 => (y_10, 0))))))) else ((-1), 0)))))) else (slet (((p0 : Int32) - 100).toNatClampNeg) (fun n_3 => (slet ((p1 : Int32).toNatClampNeg) (fun n_4 => (if (0 : Int32) ≤ p2 ∧ p2 ≤ 2 then (slet ((p2 : Int32).toNatClampNeg) (fun n_16 => (if n_16 = 0 then (slet (min (q9 (80 * x16 + (56 + 3 * ((100 + n_3) - 100)) + n_4)) 2) (fun u_24 => ((nI u_24), 0))) else (if n_16 = 1 then (slet (min (q10 (80 * x16 + (56 + 3 * ((100 + n_3) - 100)) + n_4)) (if (80 * x16 + (56 + 3 * ((100 + n_3) - 100)) + n_4) % 80 < 56 then 4 else 1)) (fun u_22 => ((nI u_22), 0))) else (slet (f11 (80 * x16 + (56 + 3 * ((100 + n_3) - 100)) + n_4)) (fun y_20 => (y_20, 0))))))) else ((-1), 0))))))) else ((-1), 0))))
set_option maxHeartbeats 4000000 in
set_option maxRecDepth 100000 in
theorem c_EM_condition (l : Launch) (dC : Nat → ClassId) (dI : Nat → Nat → Nat) (sz : Nat) (ad : Nat → Nat) (ck : Nat → ClassId) (x0 : Int32) (x16 : Nat) (x18 : Nat) (x19 : Nat) (x20 : Int32) (x21 : Nat) (x22 : Nat) (x23 : Int32) (x24 : Int32) (x25 : Int32) (x26 : Nat) (x27 : Int32) (x28 : Nat) (x29 : Nat) (x30 : Nat) (x33 : Nat) (x45 : Int32) (x46 : Nat) (x52 : Nat) (x53 : Nat) (x61 : Nat) (x62 : Nat) (x63 : Nat) (x65 : Nat) (x66 : Int32) (f1 : Nat → Int32) (f2 : Nat → Int32) (f3 : Nat → Int32) (q4 : Nat → Nat) (q5 : Nat → Nat) (q6 : Nat → Nat) (q7 : Nat → Nat) (f8 : Nat → Int32) (q9 : Nat → Nat) (q10 : Nat → Nat) (f11 : Nat → Int32) (m12_0 m12_1 : Nat) (m13_0 m13_1 : Nat) (m14_0 m14_1 : Nat) (m15_0 m15_1 : Nat) (f17 : Nat → Int32) (q31 : Nat → Nat) (f32 : Nat → Int32) (f34 : Nat → Int32) (f35 : Nat → Int32) (f36 : Nat → Int32) (f37 : Nat → Int32) (q38 : Nat → Nat) (f39 : Nat → Int32) (f40 : Nat → Int32) (f41 : Nat → Int32) (m42_0 m42_1 : Nat) (f43 : Nat → Int32) (f44 : Nat → Int32) (f47 : Nat → Int32) (f48 : Nat → Int32) (f49 : Nat → Int32) (f50 : Nat → Int32) (f51 : Nat → Int32) (q54 : Nat → Nat) (q55 : Nat → Nat) (q56 : Nat → Nat) (f57 : Nat → Int32) (q58 : Nat → Nat) (f59 : Nat → Int32) (f60 : Nat → Int32) (f64 : Nat → Int32) (p0 : Int32) (p1 : Int32) (p2 : Int32) (hx16 : x16 ≤ 1) (hx18 : x18 ≤ 900) (hx19 : x19 ≤ 900) (hx21 : x21 ≤ 900) (hx22 : x22 ≤ 4) (hx26 : x26 ≤ 6) (hx28 : x28 ≤ 1) (hx29 : x29 ≤ 1) (hx30 : x30 ≤ 1) (hx33 : x33 ≤ 20) (hx46 : x46 ≤ 5) (hx52 : x52 ≤ 2400) (hx53 : x53 ≤ 119) (hx61 : x61 ≤ 119) (hx62 : x62 ≤ 2000) (hx63 : x63 ≤ 1) (hx65 : x65 ≤ 7) (hm12_0 : m12_0 ≤ 3) (hm12_1 : m12_1 ≤ 3) (hm13_0 : m13_0 ≤ 8) (hm13_1 : m13_1 ≤ 8) (hm14_0 : m14_0 ≤ 14) (hm14_1 : m14_1 ≤ 14) (hm15_0 : m15_0 ≤ 8) (hm15_1 : m15_1 ≤ 8) (hm42_0 : m42_0 ≤ 120) (hm42_1 : m42_1 ≤ 400) : Met l yX9_condition vs_EM_condition ({ frames := 4, cells := 0, slots := 0, locals := 86 }) (va_Pc [.ref (ad 0), .int p0, .int p1, .int p2] (pu_B (dC, dI) (mo_w ad ck x0 (nI x16) (nI x18) (nI x19) x20 (nI x21) (nI x22) x23 x24 x25 (nI x26) x27 (nI x28) (nI x29) (nI x30) (nI x33) x45 (nI x46) (nI x52) (nI x53) (nI x61) (nI x62) (nI x63) (nI x65) x66 f1 f2 f3 (bN 3 q4) (bN 7 q5) (bN 7 q6) (bN 4 q7) f8 (bN 2 q9) (bH q10) f11 (b2 m12_0 m12_1) (b2 m13_0 m13_1) (b2 m14_0 m14_1) (b2m m15_0 m15_1) f17 (bA 159 q31) f32 f34 f35 f36 f37 (bN 7 q38) f39 f40 f41 (b2 m42_0 m42_1) f43 f44 f47 f48 f49 f50 f51 (bN 13 q54) (bN 120 q55) (bN 120 q56) f57 (bN 120 q58) f59 f60 f64) (mo_t ck) sz)) (va_Qi (fun (r : Int32) (_ : Unit) => r = (sp_EM_condition x16 q4 q7 q9 q10 f11 m13_0 m13_1 m14_0 m14_1 p0 p1 p2).1) (fun _ t => ∃ (z0 : Int32), pu_E (dC, dI) (mo_w ad ck z0 (nI x16) (nI x18) (nI x19) x20 (nI x21) (nI x22) x23 x24 x25 (nI x26) x27 (nI x28) (nI x29) (nI x30) (nI x33) x45 (nI x46) (nI x52) (nI x53) (nI x61) (nI x62) (nI x63) (nI x65) x66 f1 f2 f3 (bN 3 q4) (bN 7 q5) (bN 7 q6) (bN 4 q7) f8 (bN 2 q9) (bH q10) f11 (b2 m12_0 m12_1) (b2 m13_0 m13_1) (b2 m14_0 m14_1) (b2m m15_0 m15_1) f17 (bA 159 q31) f32 f34 f35 f36 f37 (bN 7 q38) f39 f40 f41 (b2 m42_0 m42_1) f43 f44 f47 f48 f49 f50 f51 (bN 13 q54) (bN 120 q55) (bN 120 q56) f57 (bN 120 q58) f59 f60 f64) (mo_t ck) (va_A ((mo_w ad ck x0 (nI x16) (nI x18) (nI x19) x20 (nI x21) (nI x22) x23 x24 x25 (nI x26) x27 (nI x28) (nI x29) (nI x30) (nI x33) x45 (nI x46) (nI x52) (nI x53) (nI x61) (nI x62) (nI x63) (nI x65) x66 f1 f2 f3 (bN 3 q4) (bN 7 q5) (bN 7 q6) (bN 4 q7) f8 (bN 2 q9) (bH q10) f11 (b2 m12_0 m12_1) (b2 m13_0 m13_1) (b2 m14_0 m14_1) (b2m m15_0 m15_1) f17 (bA 159 q31) f32 f34 f35 f36 f37 (bN 7 q38) f39 f40 f41 (b2 m42_0 m42_1) f43 f44 f47 f48 f49 f50 f51 (bN 13 q54) (bN 120 q55) (bN 120 q56) f57 (bN 120 q58) f59 f60 f64)) sz) t ∧ (z0 = (sp_EM_condition x16 q4 q7 q9 q10 f11 m13_0 m13_1 m14_0 m14_1 p0 p1 p2).2)) (va_A ((mo_w ad ck x0 (nI x16) (nI x18) (nI x19) x20 (nI x21) (nI x22) x23 x24 x25 (nI x26) x27 (nI x28) (nI x29) (nI x30) (nI x33) x45 (nI x46) (nI x52) (nI x53) (nI x61) (nI x62) (nI x63) (nI x65) x66 f1 f2 f3 (bN 3 q4) (bN 7 q5) (bN 7 q6) (bN 4 q7) f8 (bN 2 q9) (bH q10) f11 (b2 m12_0 m12_1) (b2 m13_0 m13_1) (b2 m14_0 m14_1) (b2m m15_0 m15_1) f17 (bA 159 q31) f32 f34 f35 f36 f37 (bN 7 q38) f39 f40 f41 (b2 m42_0 m42_1) f43 f44 f47 f48 f49 f50 f51 (bN 13 q54) (bN 120 q55) (bN 120 q56) f57 (bN 120 q58) f59 f60 f64)) sz)) 0 0 (va_A ((mo_w ad ck x0 (nI x16) (nI x18) (nI x19) x20 (nI x21) (nI x22) x23 x24 x25 (nI x26) x27 (nI x28) (nI x29) (nI x30) (nI x33) x45 (nI x46) (nI x52) (nI x53) (nI x61) (nI x62) (nI x63) (nI x65) x66 f1 f2 f3 (bN 3 q4) (bN 7 q5) (bN 7 q6) (bN 4 q7) f8 (bN 2 q9) (bH q10) f11 (b2 m12_0 m12_1) (b2 m13_0 m13_1) (b2 m14_0 m14_1) (b2m m15_0 m15_1) f17 (bA 159 q31) f32 f34 f35 f36 f37 (bN 7 q38) f39 f40 f41 (b2 m42_0 m42_1) f43 f44 f47 f48 f49 f50 f51 (bN 13 q54) (bN 120 q55) (bN 120 q56) f57 (bN 120 q58) f59 f60 f64)) sz) := by
  refine Met.ofW (cc := cX9_condition) (maxL := 5) (ret := (some .int)) (by decide) rfl ?_
  intro p e s m args below meth c s₁ B hml hv
  obtain ⟨rfl, rfl, hP, hK, hD0⟩ := hv
  have hx := B.exec
  have hb := B.bytes
  have hr := B.returns
  have hts := atoms_spec (ws := vs_EM_condition) B.pre
  have v_1 := hts (.fieldLink RX9 142 "ClockReachModel" "thrown" "I") (List.mem_cons_of_mem _ vm_5)
  have v_14 := hts (.fieldLink RX9 40 "ClockReachModel" "limit" "[I") (List.mem_cons_of_mem _ vm_100)
  have v_15 := hts (.fieldLink RX9 37 "ClockReachModel" "how" "[I") (List.mem_cons_of_mem _ vm_99)
  have v_16 := hts (.fieldLink RX9 34 "ClockReachModel" "ofClock" "[I") (List.mem_cons_of_mem _ vm_98)
  have hown : s.vm.findClass RX9 = some m.cls := findClass_of_methodNamed B.named
  have hlocks := B.notSynchronized
  have hiX9 : ∀ w ∈ wsX90, w ∈ vs_EM_condition := fun _ h => List.mem_cons_of_mem _ (vmi_L h)
  have hD := hD0.self (sz := s.heap.size)
  generalize hAe : va_A ((mo_w ad ck x0 (nI x16) (nI x18) (nI x19) x20 (nI x21) (nI x22) x23 x24 x25 (nI x26) x27 (nI x28) (nI x29) (nI x30) (nI x33) x45 (nI x46) (nI x52) (nI x53) (nI x61) (nI x62) (nI x63) (nI x65) x66 f1 f2 f3 (bN 3 q4) (bN 7 q5) (bN 7 q6) (bN 4 q7) f8 (bN 2 q9) (bH q10) f11 (b2 m12_0 m12_1) (b2 m13_0 m13_1) (b2 m14_0 m14_1) (b2m m15_0 m15_1) f17 (bA 159 q31) f32 f34 f35 f36 f37 (bN 7 q38) f39 f40 f41 (b2 m42_0 m42_1) f43 f44 f47 f48 f49 f50 f51 (bN 13 q54) (bN 120 q55) (bN 120 q56) f57 (bN 120 q58) f59 f60 f64)) s.heap.size = A at hD ⊢
  have hA : ∀ q : Nat, s.heap.size ≤ q → A q := fun q h => by rw [← hAe]; exact Or.inr h
  have hS : va_S A s.heap s.heap [] := va_S.rf
  have hl := lv_entry ([.ref (ad 0), .int p0, .int p1, .int p2]) (n := 5) (Nat.le_of_ble_eq_true rfl)
  rw [lg_entry_eq]
  generalize (lg_sl ([.ref (ad 0), .int p0, .int p1, .int p2]) ++ List.replicate (5 - (lg_sl ([.ref (ad 0), .int p0, .int p1, .int p2])).length) Slot.unset).toArray = ls at hl ⊢
  have hl : lv_has ls 5 [(0, .ref (ad 0)), (1, .int p0), (2, .int p1), (3, .int p2)] := hl
  obtain ⟨RR, hRR⟩ : ∃ x, x = (sp_EM_condition x16 q4 q7 q9 q10 f11 m13_0 m13_1 m14_0 m14_1 p0 p1 p2) := ⟨_, rfl⟩
  have hsp := hRR
  refine lv_aload_n hx hb dX9_condition_0 rfl (lv_at hl 0 rfl) ?_
  refine lv_iconst (v := 0) hx hb dX9_condition_1 (by decide) ?_
  refine va_put (D := (dC, dI)) (ci := 9) (v := .int 0) (ty := .int) (C := RX9) (T := TX9) (N := 67) hx hb hts hiX9 tyX9 tyX9_ok nmX9 hown hK hP hD hS 0 rfl rfl 0 (by decide) v_1 (fun _ h9 => h9) rfl (by decide +kernel) rfl rfl (Nat.le_of_ble_eq_true rfl) dX9_condition_2 (fun H locs hP hD hS => ?_)
  have hP : va_P (dC, dI) vwCl (mo_w ad ck 0 (nI x16) (nI x18) (nI x19) x20 (nI x21) (nI x22) x23 x24 x25 (nI x26) x27 (nI x28) (nI x29) (nI x30) (nI x33) x45 (nI x46) (nI x52) (nI x53) (nI x61) (nI x62) (nI x63) (nI x65) x66 f1 f2 f3 (bN 3 q4) (bN 7 q5) (bN 7 q6) (bN 4 q7) f8 (bN 2 q9) (bH q10) f11 (b2 m12_0 m12_1) (b2 m13_0 m13_1) (b2 m14_0 m14_1) (b2m m15_0 m15_1) f17 (bA 159 q31) f32 f34 f35 f36 f37 (bN 7 q38) f39 f40 f41 (b2 m42_0 m42_1) f43 f44 f47 f48 f49 f50 f51 (bN 13 q54) (bN 120 q55) (bN 120 q56) f57 (bN 120 q58) f59 f60 f64) H := hP
  have hD : va_D A (mo_w ad ck 0 (nI x16) (nI x18) (nI x19) x20 (nI x21) (nI x22) x23 x24 x25 (nI x26) x27 (nI x28) (nI x29) (nI x30) (nI x33) x45 (nI x46) (nI x52) (nI x53) (nI x61) (nI x62) (nI x63) (nI x65) x66 f1 f2 f3 (bN 3 q4) (bN 7 q5) (bN 7 q6) (bN 4 q7) f8 (bN 2 q9) (bH q10) f11 (b2 m12_0 m12_1) (b2 m13_0 m13_1) (b2 m14_0 m14_1) (b2m m15_0 m15_1) f17 (bA 159 q31) f32 f34 f35 f36 f37 (bN 7 q38) f39 f40 f41 (b2 m42_0 m42_1) f43 f44 f47 f48 f49 f50 f51 (bN 13 q54) (bN 120 q55) (bN 120 q56) f57 (bN 120 q58) f59 f60 f64) := hD
  refine lv_aload_n hx hb dX9_condition_5 rfl (lv_at hl 0 rfl) ?_
  refine lv_iload_n hx hb dX9_condition_6 rfl (lv_at hl 1 rfl) ?_
  refine lv_iload_n hx hb dX9_condition_7 rfl (lv_at hl 2 rfl) ?_
  refine va_calli (va_runV (As := [.int p0, .int p1]) (rest := []) ⟨hx, hb, hml, hown, hts⟩ (c_EM_isCondition l dC dI _ ad ck 0 x16 x18 x19 x20 x21 x22 x23 x24 x25 x26 x27 x28 x29 x30 x33 x45 x46 x52 x53 x61 x62 x63 x65 x66 f1 f2 f3 q4 q5 q6 q7 f8 q9 q10 f11 m12_0 m12_1 m13_0 m13_1 m14_0 m14_1 m15_0 m15_1 f17 q31 f32 f34 f35 f36 f37 q38 f39 f40 f41 m42_0 m42_1 f43 f44 f47 f48 f49 f50 f51 q54 q55 q56 f57 q58 f59 f60 f64 p0 p1 hx16 hx18 hx19 hx21 hx22 hx26 hx28 hx29 hx30 hx33 hx46 hx52 hx53 hx61 hx62 hx63 hx65 hm12_0 hm12_1 hm13_0 hm13_1 hm14_0 hm14_1 hm15_0 hm15_1 hm42_0 hm42_1) (cwV 2 hts g_EM_condition_EM_isCondition rfl rfl rfl (by decide +kernel) ⟨Nat.le_of_ble_eq_true rfl, Nat.le_of_ble_eq_true rfl⟩) ⟨pu_bl, va_recv hK hP (ci := 9) (q0 := 0) rfl rfl, pu_in hP hK hD⟩ rfl rfl hl.1 rfl (lv_room (Nat.le_of_ble_eq_true rfl)) dX9_condition_8 ⟨Nat.le_of_ble_eq_true rfl, Nat.le_of_ble_eq_true rfl⟩) hS (fun q _ h => pu_fr hS hA q h) (pu_fr hS hA) (fun r_1 u t H1 locs ht hvm hw hB hz1 hk1 hS => ?_)
  have hP := pu_keep hP hk1
  clear hk1 hz1 ht hvm
  generalize H1 = H at hP hS ⊢
  obtain ⟨u_2, hu_2, rfl, ju_2, iu_2⟩ := hw
  replace hsp := hsp.trans (slet_eq iu_2)
  rcases ju_2 with ⟨rfl, ⟨n_3, n_4, hn_3, hn_4, rfl, rfl⟩ | ⟨n_3, n_4, hn_3, hn_4, rfl, rfl⟩⟩ | rfl
  · replace hsp := hsp.trans (if_pos rfl)
    replace hsp := hsp.trans (if_pos (nI_lt (a := n_3) (b := 100) (by omega) (by decide)))
    replace hsp := hsp.trans (slet_eq (nI_cl (n := n_3) (by omega)))
    replace hsp := hsp.trans (slet_eq (nI_cl (n := n_4) (by omega)))
    refine lv_if_eq (tgt := 23) hx hb dX9_condition_11 (by decide) (fun z => absurd z (by decide)) (fun _ => ?_)
    refine lv_iload_n hx hb dX9_condition_14 rfl (lv_at hl 3 rfl) ?_
    refine lv_iconst (v := 0) hx hb dX9_condition_15 (by decide) ?_
    refine lv_iconst (v := 2) hx hb dX9_condition_16 (by decide) ?_
    refine va_calli (va_runS (As := [.int p2, .int 0, .int 2]) (rest := []) ⟨hx, hb, hml, hown, hts⟩ (c_X9_in l dC dI _ p2 0 2) (va_cwS 3 hts g_EM_condition_X9_in rfl rfl rfl (by decide +kernel) ⟨Nat.le_of_ble_eq_true rfl, Nat.le_of_ble_eq_true rfl⟩) ⟨pu_bl, pu_in (hP.sub [] rfl) (hK.sub [] rfl) (hD.sub [] (by decide) rfl)⟩ rfl rfl hl.1 rfl (lv_room (Nat.le_of_ble_eq_true rfl)) dX9_condition_17 ⟨Nat.le_of_ble_eq_true rfl, Nat.le_of_ble_eq_true rfl⟩) hS (fun q _ h => pu_fr hS hA q h) (pu_fr hS hA) (fun r_5 u t H1 locs ht hvm hw hB hz1 hk1 hS => ?_)
    have hP := pu_keep hP hk1
    clear hk1 hz1 ht hvm
    generalize H1 = H at hP hS ⊢
    rcases hw with ⟨rfl, hi1, hi2⟩ | ⟨rfl, hi3⟩
    · replace hsp := hsp.trans (if_pos ⟨hi1, hi2⟩)
      obtain ⟨n_6, hn_6, rfl⟩ := pu_in0 (n := 2) (by omega) hi1 hi2
      replace hsp := hsp.trans (slet_eq (nI_cl (n := n_6) (by omega)))
      refine lv_if_ne (tgt := 25) hx hb dX9_condition_20 (by decide) (fun _ => ?_) (fun z => absurd z (by decide))
      refine lv_aload_n hx hb dX9_condition_25 rfl (lv_at hl 0 rfl) ?_
      refine lv_iload_n hx hb dX9_condition_26 rfl (lv_at hl 1 rfl) ?_
      refine lv_iload_n hx hb dX9_condition_27 rfl (lv_at hl 2 rfl) ?_
      refine va_calli (va_runV (As := [.int (nI n_3), .int (nI n_4)]) (rest := []) ⟨hx, hb, hml, hown, hts⟩ (c_EM_spot_e l dC dI _ ad ck 0 x16 x18 x19 x20 x21 x22 x23 x24 x25 x26 x27 x28 x29 x30 x33 x45 x46 x52 x53 x61 x62 x63 x65 x66 f1 f2 f3 q4 q5 q6 q7 f8 q9 q10 f11 m12_0 m12_1 m13_0 m13_1 m14_0 m14_1 m15_0 m15_1 f17 q31 f32 f34 f35 f36 f37 q38 f39 f40 f41 m42_0 m42_1 f43 f44 f47 f48 f49 f50 f51 q54 q55 q56 f57 q58 f59 f60 f64 n_3 n_4 hx16 hx18 hx19 hx21 hx22 hx26 hx28 hx29 hx30 hx33 hx46 hx52 hx53 hx61 hx62 hx63 hx65 hm12_0 hm12_1 hm13_0 hm13_1 hm14_0 hm14_1 hm15_0 hm15_1 hm42_0 hm42_1 (by omega) (by omega)) (cwV 2 hts g_EM_condition_EM_spot_e rfl rfl rfl (by decide +kernel) ⟨Nat.le_of_ble_eq_true rfl, Nat.le_of_ble_eq_true rfl⟩) ⟨pu_bl, va_recv hK hP (ci := 9) (q0 := 0) rfl rfl, pu_in hP hK hD⟩ rfl rfl hl.1 rfl (lv_room (Nat.le_of_ble_eq_true rfl)) dX9_condition_28 ⟨Nat.le_of_ble_eq_true rfl, Nat.le_of_ble_eq_true rfl⟩) hS (fun q _ h => pu_fr hS hA q h) (pu_fr hS hA) (fun r_7 u t H1 locs ht hvm hw hB hz1 hk1 hS => ?_)
      have hP := pu_keep hP hk1
      clear hk1 hz1 ht hvm
      generalize H1 = H at hP hS ⊢
      obtain rfl : r_7 = nI (80 * x16 + 4 * n_3 + n_4) := hw
      refine lv_istore (lv' := [(4, .int (nI (80 * x16 + 4 * n_3 + n_4))), (0, .ref (ad 0)), (1, .int (nI n_3)), (2, .int (nI n_4)), (3, .int (nI n_6))]) hx hb dX9_condition_31 hl (by decide) rfl (fun ls hl => ?_)
      refine lv_iload_n hx hb dX9_condition_33 rfl (lv_at hl 4 rfl) ?_
      refine lv_if_ne (tgt := 47) hx hb dX9_condition_34 (by decide) (fun c_8 => ?_) (fun c_8 => ?_)
      · have c_8 : ¬ n_6 = 0 := fun z => c_8 ((nI_eq (a := n_6) (b := 0) (by omega) (Nat.le_of_ble_eq_true rfl)).mpr z)
        replace hsp := hsp.trans (if_neg c_8)
        refine lv_iload_n hx hb dX9_condition_47 rfl (lv_at hl 4 rfl) ?_
        refine lv_iconst (v := 1) hx hb dX9_condition_48 (by decide) ?_
        refine lv_icmp_ne (tgt := 62) hx hb dX9_condition_49 (by decide) (fun c_9 => ?_) (fun c_9 => ?_)
        · have c_9 : ¬ n_6 = 1 := fun z => c_9 ((nI_eq (a := n_6) (b := 1) (by omega) (Nat.le_of_ble_eq_true rfl)).mpr z)
          replace hsp := hsp.trans (if_neg c_9)
          refine lv_aload_n hx hb dX9_condition_62 rfl (lv_at hl 1 rfl) ?_
          refine va_get (D := (dC, dI)) (ci := 9) (v := .ref (ad 11)) (C := RX9) (T := TX9) (N := 67) hx hb hts hiX9 hown hK hP 0 rfl rfl 11 (by decide) v_14 (fun _ h9 => h9) rfl dX9_condition_63 ?_
          refine lv_iload hx hb dX9_condition_66 (lv_at hl 0 rfl) ?_
          refine va_iald hx hb hK hP 11 10 rfl rfl (vp_in_nI (n := (80 * x16 + 4 * n_3 + n_4)) (by omega) (Nat.le_of_ble_eq_true rfl)) dX9_condition_68 ?_
          refine lv_topi (fun y_10 ey_10 => ?_)
          have ey_10 : y_10 = f11 (80 * x16 + 4 * n_3 + n_4) := ey_10.trans (congrArg f11 (nI_clamp (n := (80 * x16 + 4 * n_3 + n_4)) (by first | omega | exact Nat.lt_trans (zx16 (by omega) (by omega) (by omega)) (Nat.le_of_ble_eq_true rfl) | exact Nat.lt_trans (zy16 (by omega) (by omega)) (Nat.le_of_ble_eq_true rfl) | exact Nat.lt_trans (zx25 (by omega) (by omega) (by omega)) (Nat.le_of_ble_eq_true rfl) | exact Nat.lt_trans (zy25 (by omega) (by omega)) (Nat.le_of_ble_eq_true rfl))))
          replace hsp := hsp.trans (slet_eq ey_10)
          exact W.iret (v := y_10) hx hb hr (fun t ht hW => ⟨⟨y_10, (), rfl, (congrArg Prod.fst (hsp.symm.trans hRR)), ⟨0, ⟨by rw [ht]; exact hP, va_K.moved hW.alike hK, hD⟩, (congrArg Prod.snd (hsp.symm.trans hRR))⟩⟩, hS.F ht⟩) hS.2.2 dX9_condition_69
        · have c_9 : n_6 = 1 := (nI_eq (a := n_6) (b := 1) (by omega) (Nat.le_of_ble_eq_true rfl)).mp c_9
          replace hsp := hsp.trans (if_pos c_9)
          refine lv_aload_n hx hb dX9_condition_52 rfl (lv_at hl 1 rfl) ?_
          refine va_get (D := (dC, dI)) (ci := 9) (v := .ref (ad 10)) (C := RX9) (T := TX9) (N := 67) hx hb hts hiX9 hown hK hP 0 rfl rfl 10 (by decide) v_15 (fun _ h9 => h9) rfl dX9_condition_53 ?_
          refine lv_iload hx hb dX9_condition_56 (lv_at hl 0 rfl) ?_
          refine va_iald hx hb hK hP 10 9 rfl rfl (vp_in_nI (n := (80 * x16 + 4 * n_3 + n_4)) (by omega) (Nat.le_of_ble_eq_true rfl)) dX9_condition_58 ?_
          refine lv_topi (fun y_11 ey_11 => ?_)
          obtain ⟨u_12, hu_12, qu_12, xu_12⟩ := bH_getx q10 (i := (80 * x16 + 4 * n_3 + n_4)) (by omega)
          obtain rfl : y_11 = nI u_12 := ey_11.trans qu_12
          replace hsp := hsp.trans (slet_eq xu_12)
          refine lv_goto (tgt := 69) hx hb dX9_condition_59 (by decide) ?_
          exact W.iret (v := (nI u_12)) hx hb hr (fun t ht hW => ⟨⟨(nI u_12), (), rfl, (congrArg Prod.fst (hsp.symm.trans hRR)), ⟨0, ⟨by rw [ht]; exact hP, va_K.moved hW.alike hK, hD⟩, (congrArg Prod.snd (hsp.symm.trans hRR))⟩⟩, hS.F ht⟩) hS.2.2 dX9_condition_69
      · have c_8 : n_6 = 0 := (nI_eq (a := n_6) (b := 0) (by omega) (Nat.le_of_ble_eq_true rfl)).mp c_8
        replace hsp := hsp.trans (if_pos c_8)
        refine lv_aload_n hx hb dX9_condition_37 rfl (lv_at hl 1 rfl) ?_
        refine va_get (D := (dC, dI)) (ci := 9) (v := .ref (ad 9)) (C := RX9) (T := TX9) (N := 67) hx hb hts hiX9 hown hK hP 0 rfl rfl 9 (by decide) v_16 (fun _ h9 => h9) rfl dX9_condition_38 ?_
        refine lv_iload hx hb dX9_condition_41 (lv_at hl 0 rfl) ?_
        refine va_iald hx hb hK hP 9 8 rfl rfl (vp_in_nI (n := (80 * x16 + 4 * n_3 + n_4)) (by omega) (Nat.le_of_ble_eq_true rfl)) dX9_condition_43 ?_
        refine lv_topi (fun y_13 ey_13 => ?_)
        obtain ⟨u_14, hu_14, qu_14, xu_14⟩ := bN_getx 2 q9 (n := (80 * x16 + 4 * n_3 + n_4)) (by first | omega | exact Nat.lt_trans (zx16 (by omega) (by omega) (by omega)) (Nat.le_of_ble_eq_true rfl) | exact Nat.lt_trans (zy16 (by omega) (by omega)) (Nat.le_of_ble_eq_true rfl) | exact Nat.lt_trans (zx25 (by omega) (by omega) (by omega)) (Nat.le_of_ble_eq_true rfl) | exact Nat.lt_trans (zy25 (by omega) (by omega)) (Nat.le_of_ble_eq_true rfl))
        obtain rfl : y_13 = nI u_14 := ey_13.trans qu_14
        replace hsp := hsp.trans (slet_eq xu_14)
        refine lv_goto (tgt := 69) hx hb dX9_condition_44 (by decide) ?_
        exact W.iret (v := (nI u_14)) hx hb hr (fun t ht hW => ⟨⟨(nI u_14), (), rfl, (congrArg Prod.fst (hsp.symm.trans hRR)), ⟨0, ⟨by rw [ht]; exact hP, va_K.moved hW.alike hK, hD⟩, (congrArg Prod.snd (hsp.symm.trans hRR))⟩⟩, hS.F ht⟩) hS.2.2 dX9_condition_69
    · replace hsp := hsp.trans (if_neg hi3)
      refine lv_if_ne (tgt := 25) hx hb dX9_condition_20 (by decide) (fun z => absurd z (by decide)) (fun _ => ?_)
      refine lv_iconst (v := (-1)) hx hb dX9_condition_23 (by decide) ?_
      exact W.iret (v := (-1)) hx hb hr (fun t ht hW => ⟨⟨(-1), (), rfl, (congrArg Prod.fst (hsp.symm.trans hRR)), ⟨0, ⟨by rw [ht]; exact hP, va_K.moved hW.alike hK, hD⟩, (congrArg Prod.snd (hsp.symm.trans hRR))⟩⟩, hS.F ht⟩) hS.2.2 dX9_condition_24
  · replace hsp := hsp.trans (if_pos rfl)
    replace hsp := hsp.trans (if_neg (Int32.not_lt.mpr (nI_le (a := 100) (b := 100 + n_3) (by omega) (by omega))))
    replace hsp := hsp.trans (slet_eq (cl_100 (n := n_3) (by omega)))
    replace hsp := hsp.trans (slet_eq (nI_cl (n := n_4) (by omega)))
    refine lv_if_eq (tgt := 23) hx hb dX9_condition_11 (by decide) (fun z => absurd z (by decide)) (fun _ => ?_)
    refine lv_iload_n hx hb dX9_condition_14 rfl (lv_at hl 3 rfl) ?_
    refine lv_iconst (v := 0) hx hb dX9_condition_15 (by decide) ?_
    refine lv_iconst (v := 2) hx hb dX9_condition_16 (by decide) ?_
    refine va_calli (va_runS (As := [.int p2, .int 0, .int 2]) (rest := []) ⟨hx, hb, hml, hown, hts⟩ (c_X9_in l dC dI _ p2 0 2) (va_cwS 3 hts g_EM_condition_X9_in rfl rfl rfl (by decide +kernel) ⟨Nat.le_of_ble_eq_true rfl, Nat.le_of_ble_eq_true rfl⟩) ⟨pu_bl, pu_in (hP.sub [] rfl) (hK.sub [] rfl) (hD.sub [] (by decide) rfl)⟩ rfl rfl hl.1 rfl (lv_room (Nat.le_of_ble_eq_true rfl)) dX9_condition_17 ⟨Nat.le_of_ble_eq_true rfl, Nat.le_of_ble_eq_true rfl⟩) hS (fun q _ h => pu_fr hS hA q h) (pu_fr hS hA) (fun r_15 u t H1 locs ht hvm hw hB hz1 hk1 hS => ?_)
    have hP := pu_keep hP hk1
    clear hk1 hz1 ht hvm
    generalize H1 = H at hP hS ⊢
    rcases hw with ⟨rfl, hi1, hi2⟩ | ⟨rfl, hi3⟩
    · replace hsp := hsp.trans (if_pos ⟨hi1, hi2⟩)
      obtain ⟨n_16, hn_16, rfl⟩ := pu_in0 (n := 2) (by omega) hi1 hi2
      replace hsp := hsp.trans (slet_eq (nI_cl (n := n_16) (by omega)))
      refine lv_if_ne (tgt := 25) hx hb dX9_condition_20 (by decide) (fun _ => ?_) (fun z => absurd z (by decide))
      refine lv_aload_n hx hb dX9_condition_25 rfl (lv_at hl 0 rfl) ?_
      refine lv_iload_n hx hb dX9_condition_26 rfl (lv_at hl 1 rfl) ?_
      refine lv_iload_n hx hb dX9_condition_27 rfl (lv_at hl 2 rfl) ?_
      refine va_calli (va_runV (As := [.int (nI (100 + n_3)), .int (nI n_4)]) (rest := []) ⟨hx, hb, hml, hown, hts⟩ (c_EM_spot_p l dC dI _ ad ck 0 x16 x18 x19 x20 x21 x22 x23 x24 x25 x26 x27 x28 x29 x30 x33 x45 x46 x52 x53 x61 x62 x63 x65 x66 f1 f2 f3 q4 q5 q6 q7 f8 q9 q10 f11 m12_0 m12_1 m13_0 m13_1 m14_0 m14_1 m15_0 m15_1 f17 q31 f32 f34 f35 f36 f37 q38 f39 f40 f41 m42_0 m42_1 f43 f44 f47 f48 f49 f50 f51 q54 q55 q56 f57 q58 f59 f60 f64 (100 + n_3) n_4 hx16 hx18 hx19 hx21 hx22 hx26 hx28 hx29 hx30 hx33 hx46 hx52 hx53 hx61 hx62 hx63 hx65 hm12_0 hm12_1 hm13_0 hm13_1 hm14_0 hm14_1 hm15_0 hm15_1 hm42_0 hm42_1 (by omega) (by omega) (by omega)) (cwV 2 hts g_EM_condition_EM_spot_p rfl rfl rfl (by decide +kernel) ⟨Nat.le_of_ble_eq_true rfl, Nat.le_of_ble_eq_true rfl⟩) ⟨pu_bl, va_recv hK hP (ci := 9) (q0 := 0) rfl rfl, pu_in hP hK hD⟩ rfl rfl hl.1 rfl (lv_room (Nat.le_of_ble_eq_true rfl)) dX9_condition_28 ⟨Nat.le_of_ble_eq_true rfl, Nat.le_of_ble_eq_true rfl⟩) hS (fun q _ h => pu_fr hS hA q h) (pu_fr hS hA) (fun r_17 u t H1 locs ht hvm hw hB hz1 hk1 hS => ?_)
      have hP := pu_keep hP hk1
      clear hk1 hz1 ht hvm
      generalize H1 = H at hP hS ⊢
      obtain rfl : r_17 = nI (80 * x16 + (56 + 3 * ((100 + n_3) - 100)) + n_4) := hw
      refine lv_istore (lv' := [(4, .int (nI (80 * x16 + (56 + 3 * ((100 + n_3) - 100)) + n_4))), (0, .ref (ad 0)), (1, .int (nI (100 + n_3))), (2, .int (nI n_4)), (3, .int (nI n_16))]) hx hb dX9_condition_31 hl (by decide) rfl (fun ls hl => ?_)
      refine lv_iload_n hx hb dX9_condition_33 rfl (lv_at hl 4 rfl) ?_
      refine lv_if_ne (tgt := 47) hx hb dX9_condition_34 (by decide) (fun c_18 => ?_) (fun c_18 => ?_)
      · have c_18 : ¬ n_16 = 0 := fun z => c_18 ((nI_eq (a := n_16) (b := 0) (by omega) (Nat.le_of_ble_eq_true rfl)).mpr z)
        replace hsp := hsp.trans (if_neg c_18)
        refine lv_iload_n hx hb dX9_condition_47 rfl (lv_at hl 4 rfl) ?_
        refine lv_iconst (v := 1) hx hb dX9_condition_48 (by decide) ?_
        refine lv_icmp_ne (tgt := 62) hx hb dX9_condition_49 (by decide) (fun c_19 => ?_) (fun c_19 => ?_)
        · have c_19 : ¬ n_16 = 1 := fun z => c_19 ((nI_eq (a := n_16) (b := 1) (by omega) (Nat.le_of_ble_eq_true rfl)).mpr z)
          replace hsp := hsp.trans (if_neg c_19)
          refine lv_aload_n hx hb dX9_condition_62 rfl (lv_at hl 1 rfl) ?_
          refine va_get (D := (dC, dI)) (ci := 9) (v := .ref (ad 11)) (C := RX9) (T := TX9) (N := 67) hx hb hts hiX9 hown hK hP 0 rfl rfl 11 (by decide) v_14 (fun _ h9 => h9) rfl dX9_condition_63 ?_
          refine lv_iload hx hb dX9_condition_66 (lv_at hl 0 rfl) ?_
          refine va_iald hx hb hK hP 11 10 rfl rfl (vp_in_nI (n := (80 * x16 + (56 + 3 * ((100 + n_3) - 100)) + n_4)) (by omega) (Nat.le_of_ble_eq_true rfl)) dX9_condition_68 ?_
          refine lv_topi (fun y_20 ey_20 => ?_)
          have ey_20 : y_20 = f11 (80 * x16 + (56 + 3 * ((100 + n_3) - 100)) + n_4) := ey_20.trans (congrArg f11 (nI_clamp (n := (80 * x16 + (56 + 3 * ((100 + n_3) - 100)) + n_4)) (by first | omega | exact Nat.lt_trans (zx16 (by omega) (by omega) (by omega)) (Nat.le_of_ble_eq_true rfl) | exact Nat.lt_trans (zy16 (by omega) (by omega)) (Nat.le_of_ble_eq_true rfl) | exact Nat.lt_trans (zx25 (by omega) (by omega) (by omega)) (Nat.le_of_ble_eq_true rfl) | exact Nat.lt_trans (zy25 (by omega) (by omega)) (Nat.le_of_ble_eq_true rfl))))
          replace hsp := hsp.trans (slet_eq ey_20)
          exact W.iret (v := y_20) hx hb hr (fun t ht hW => ⟨⟨y_20, (), rfl, (congrArg Prod.fst (hsp.symm.trans hRR)), ⟨0, ⟨by rw [ht]; exact hP, va_K.moved hW.alike hK, hD⟩, (congrArg Prod.snd (hsp.symm.trans hRR))⟩⟩, hS.F ht⟩) hS.2.2 dX9_condition_69
        · have c_19 : n_16 = 1 := (nI_eq (a := n_16) (b := 1) (by omega) (Nat.le_of_ble_eq_true rfl)).mp c_19
          replace hsp := hsp.trans (if_pos c_19)
          refine lv_aload_n hx hb dX9_condition_52 rfl (lv_at hl 1 rfl) ?_
          refine va_get (D := (dC, dI)) (ci := 9) (v := .ref (ad 10)) (C := RX9) (T := TX9) (N := 67) hx hb hts hiX9 hown hK hP 0 rfl rfl 10 (by decide) v_15 (fun _ h9 => h9) rfl dX9_condition_53 ?_
          refine lv_iload hx hb dX9_condition_56 (lv_at hl 0 rfl) ?_
          refine va_iald hx hb hK hP 10 9 rfl rfl (vp_in_nI (n := (80 * x16 + (56 + 3 * ((100 + n_3) - 100)) + n_4)) (by omega) (Nat.le_of_ble_eq_true rfl)) dX9_condition_58 ?_
          refine lv_topi (fun y_21 ey_21 => ?_)
          obtain ⟨u_22, hu_22, qu_22, xu_22⟩ := bH_getx q10 (i := (80 * x16 + (56 + 3 * ((100 + n_3) - 100)) + n_4)) (by omega)
          obtain rfl : y_21 = nI u_22 := ey_21.trans qu_22
          replace hsp := hsp.trans (slet_eq xu_22)
          refine lv_goto (tgt := 69) hx hb dX9_condition_59 (by decide) ?_
          exact W.iret (v := (nI u_22)) hx hb hr (fun t ht hW => ⟨⟨(nI u_22), (), rfl, (congrArg Prod.fst (hsp.symm.trans hRR)), ⟨0, ⟨by rw [ht]; exact hP, va_K.moved hW.alike hK, hD⟩, (congrArg Prod.snd (hsp.symm.trans hRR))⟩⟩, hS.F ht⟩) hS.2.2 dX9_condition_69
      · have c_18 : n_16 = 0 := (nI_eq (a := n_16) (b := 0) (by omega) (Nat.le_of_ble_eq_true rfl)).mp c_18
        replace hsp := hsp.trans (if_pos c_18)
        refine lv_aload_n hx hb dX9_condition_37 rfl (lv_at hl 1 rfl) ?_
        refine va_get (D := (dC, dI)) (ci := 9) (v := .ref (ad 9)) (C := RX9) (T := TX9) (N := 67) hx hb hts hiX9 hown hK hP 0 rfl rfl 9 (by decide) v_16 (fun _ h9 => h9) rfl dX9_condition_38 ?_
        refine lv_iload hx hb dX9_condition_41 (lv_at hl 0 rfl) ?_
        refine va_iald hx hb hK hP 9 8 rfl rfl (vp_in_nI (n := (80 * x16 + (56 + 3 * ((100 + n_3) - 100)) + n_4)) (by omega) (Nat.le_of_ble_eq_true rfl)) dX9_condition_43 ?_
        refine lv_topi (fun y_23 ey_23 => ?_)
        obtain ⟨u_24, hu_24, qu_24, xu_24⟩ := bN_getx 2 q9 (n := (80 * x16 + (56 + 3 * ((100 + n_3) - 100)) + n_4)) (by first | omega | exact Nat.lt_trans (zx16 (by omega) (by omega) (by omega)) (Nat.le_of_ble_eq_true rfl) | exact Nat.lt_trans (zy16 (by omega) (by omega)) (Nat.le_of_ble_eq_true rfl) | exact Nat.lt_trans (zx25 (by omega) (by omega) (by omega)) (Nat.le_of_ble_eq_true rfl) | exact Nat.lt_trans (zy25 (by omega) (by omega)) (Nat.le_of_ble_eq_true rfl))
        obtain rfl : y_23 = nI u_24 := ey_23.trans qu_24
        replace hsp := hsp.trans (slet_eq xu_24)
        refine lv_goto (tgt := 69) hx hb dX9_condition_44 (by decide) ?_
        exact W.iret (v := (nI u_24)) hx hb hr (fun t ht hW => ⟨⟨(nI u_24), (), rfl, (congrArg Prod.fst (hsp.symm.trans hRR)), ⟨0, ⟨by rw [ht]; exact hP, va_K.moved hW.alike hK, hD⟩, (congrArg Prod.snd (hsp.symm.trans hRR))⟩⟩, hS.F ht⟩) hS.2.2 dX9_condition_69
    · replace hsp := hsp.trans (if_neg hi3)
      refine lv_if_ne (tgt := 25) hx hb dX9_condition_20 (by decide) (fun z => absurd z (by decide)) (fun _ => ?_)
      refine lv_iconst (v := (-1)) hx hb dX9_condition_23 (by decide) ?_
      exact W.iret (v := (-1)) hx hb hr (fun t ht hW => ⟨⟨(-1), (), rfl, (congrArg Prod.fst (hsp.symm.trans hRR)), ⟨0, ⟨by rw [ht]; exact hP, va_K.moved hW.alike hK, hD⟩, (congrArg Prod.snd (hsp.symm.trans hRR))⟩⟩, hS.F ht⟩) hS.2.2 dX9_condition_24
  · replace hsp := hsp.trans (if_neg (by decide))
    refine lv_if_eq (tgt := 23) hx hb dX9_condition_11 (by decide) (fun _ => ?_) (fun z => absurd z (by decide))
    refine lv_iconst (v := (-1)) hx hb dX9_condition_23 (by decide) ?_
    exact W.iret (v := (-1)) hx hb hr (fun t ht hW => ⟨⟨(-1), (), rfl, (congrArg Prod.fst (hsp.symm.trans hRR)), ⟨0, ⟨by rw [ht]; exact hP, va_K.moved hW.alike hK, hD⟩, (congrArg Prod.snd (hsp.symm.trans hRR))⟩⟩, hS.F ht⟩) hS.2.2 dX9_condition_24
