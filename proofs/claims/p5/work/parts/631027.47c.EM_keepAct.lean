theorem dX9_keepAct_0 : decode cX9_keepAct 0 = .ok (.aload_n 0, 1) := by decide +kernel
theorem dX9_keepAct_1 : decode cX9_keepAct 1 = .ok (.getfield 267, 3) := by decide +kernel
theorem dX9_keepAct_4 : decode cX9_keepAct 4 = .ok (.bipush 20, 2) := by decide +kernel
theorem dX9_keepAct_6 : decode cX9_keepAct 6 = .ok (.if_icmp .ne 55, 3) := by decide +kernel
theorem dX9_keepAct_9 : decode cX9_keepAct 9 = .ok (.iconst 1, 1) := by decide +kernel
theorem dX9_keepAct_10 : decode cX9_keepAct 10 = .ok (.istore_n 3, 1) := by decide +kernel
theorem dX9_keepAct_11 : decode cX9_keepAct 11 = .ok (.iload_n 3, 1) := by decide +kernel
theorem dX9_keepAct_12 : decode cX9_keepAct 12 = .ok (.bipush 20, 2) := by decide +kernel
theorem dX9_keepAct_14 : decode cX9_keepAct 14 = .ok (.if_icmp .ge 37, 3) := by decide +kernel
theorem dX9_keepAct_17 : decode cX9_keepAct 17 = .ok (.aload_n 0, 1) := by decide +kernel
theorem dX9_keepAct_18 : decode cX9_keepAct 18 = .ok (.getfield 62, 3) := by decide +kernel
theorem dX9_keepAct_21 : decode cX9_keepAct 21 = .ok (.iload_n 3, 1) := by decide +kernel
theorem dX9_keepAct_22 : decode cX9_keepAct 22 = .ok (.iconst 1, 1) := by decide +kernel
theorem dX9_keepAct_23 : decode cX9_keepAct 23 = .ok (.isub, 1) := by decide +kernel
theorem dX9_keepAct_24 : decode cX9_keepAct 24 = .ok (.aload_n 0, 1) := by decide +kernel
theorem dX9_keepAct_25 : decode cX9_keepAct 25 = .ok (.getfield 62, 3) := by decide +kernel
theorem dX9_keepAct_28 : decode cX9_keepAct 28 = .ok (.iload_n 3, 1) := by decide +kernel
theorem dX9_keepAct_29 : decode cX9_keepAct 29 = .ok (.iaload, 1) := by decide +kernel
theorem dX9_keepAct_30 : decode cX9_keepAct 30 = .ok (.iastore, 1) := by decide +kernel
theorem dX9_keepAct_31 : decode cX9_keepAct 31 = .ok (.aload_n 0, 1) := by decide +kernel
theorem dX9_keepAct_32 : decode cX9_keepAct 32 = .ok (.getfield 65, 3) := by decide +kernel
theorem dX9_keepAct_35 : decode cX9_keepAct 35 = .ok (.iload_n 3, 1) := by decide +kernel
theorem dX9_keepAct_36 : decode cX9_keepAct 36 = .ok (.iconst 1, 1) := by decide +kernel
theorem dX9_keepAct_37 : decode cX9_keepAct 37 = .ok (.isub, 1) := by decide +kernel
theorem dX9_keepAct_38 : decode cX9_keepAct 38 = .ok (.aload_n 0, 1) := by decide +kernel
theorem dX9_keepAct_39 : decode cX9_keepAct 39 = .ok (.getfield 65, 3) := by decide +kernel
theorem dX9_keepAct_42 : decode cX9_keepAct 42 = .ok (.iload_n 3, 1) := by decide +kernel
theorem dX9_keepAct_43 : decode cX9_keepAct 43 = .ok (.iaload, 1) := by decide +kernel
theorem dX9_keepAct_44 : decode cX9_keepAct 44 = .ok (.iastore, 1) := by decide +kernel
theorem dX9_keepAct_45 : decode cX9_keepAct 45 = .ok (.iinc 3 1, 3) := by decide +kernel
theorem dX9_keepAct_48 : decode cX9_keepAct 48 = .ok (.goto (-37), 3) := by decide +kernel
theorem dX9_keepAct_51 : decode cX9_keepAct 51 = .ok (.aload_n 0, 1) := by decide +kernel
theorem dX9_keepAct_52 : decode cX9_keepAct 52 = .ok (.dup, 1) := by decide +kernel
theorem dX9_keepAct_53 : decode cX9_keepAct 53 = .ok (.getfield 267, 3) := by decide +kernel
theorem dX9_keepAct_56 : decode cX9_keepAct 56 = .ok (.iconst 1, 1) := by decide +kernel
theorem dX9_keepAct_57 : decode cX9_keepAct 57 = .ok (.isub, 1) := by decide +kernel
theorem dX9_keepAct_58 : decode cX9_keepAct 58 = .ok (.putfield 267, 3) := by decide +kernel
theorem dX9_keepAct_61 : decode cX9_keepAct 61 = .ok (.aload_n 0, 1) := by decide +kernel
theorem dX9_keepAct_62 : decode cX9_keepAct 62 = .ok (.getfield 62, 3) := by decide +kernel
theorem dX9_keepAct_65 : decode cX9_keepAct 65 = .ok (.aload_n 0, 1) := by decide +kernel
theorem dX9_keepAct_66 : decode cX9_keepAct 66 = .ok (.getfield 267, 3) := by decide +kernel
theorem dX9_keepAct_69 : decode cX9_keepAct 69 = .ok (.iload_n 1, 1) := by decide +kernel
theorem dX9_keepAct_70 : decode cX9_keepAct 70 = .ok (.iastore, 1) := by decide +kernel
theorem dX9_keepAct_71 : decode cX9_keepAct 71 = .ok (.aload_n 0, 1) := by decide +kernel
theorem dX9_keepAct_72 : decode cX9_keepAct 72 = .ok (.getfield 65, 3) := by decide +kernel
theorem dX9_keepAct_75 : decode cX9_keepAct 75 = .ok (.aload_n 0, 1) := by decide +kernel
theorem dX9_keepAct_76 : decode cX9_keepAct 76 = .ok (.getfield 267, 3) := by decide +kernel
theorem dX9_keepAct_79 : decode cX9_keepAct 79 = .ok (.iload_n 2, 1) := by decide +kernel
theorem dX9_keepAct_80 : decode cX9_keepAct 80 = .ok (.iastore, 1) := by decide +kernel
theorem dX9_keepAct_81 : decode cX9_keepAct 81 = .ok (.aload_n 0, 1) := by decide +kernel
theorem dX9_keepAct_82 : decode cX9_keepAct 82 = .ok (.dup, 1) := by decide +kernel
theorem dX9_keepAct_83 : decode cX9_keepAct 83 = .ok (.getfield 267, 3) := by decide +kernel
theorem dX9_keepAct_86 : decode cX9_keepAct 86 = .ok (.iconst 1, 1) := by decide +kernel
theorem dX9_keepAct_87 : decode cX9_keepAct 87 = .ok (.iadd, 1) := by decide +kernel
theorem dX9_keepAct_88 : decode cX9_keepAct 88 = .ok (.putfield 267, 3) := by decide +kernel
theorem dX9_keepAct_91 : decode cX9_keepAct 91 = .ok (.aload_n 0, 1) := by decide +kernel
theorem dX9_keepAct_92 : decode cX9_keepAct 92 = .ok (.invokevirtual 270, 3) := by decide +kernel
theorem dX9_keepAct_95 : decode cX9_keepAct 95 = .ok (.return_, 1) := by decide +kernel
abbrev vs_EM_keepAct : List Cond := .code yX9_keepAct cX9_keepAct 4 none :: VM
theorem g_EM_keepAct_EM_another : GoodIn vs_EM_keepAct (wsV RX9 270 RX9 yX9_another vs_EM_another) := gm_V vm_127 vm_128 vm_129 vm_19 vm_130
noncomputable def sp_EM_keepAct_L1 (x33 : Nat) : ((Nat → Nat) × (Nat → Int32) × Nat) → ((Nat → Nat) × (Nat → Int32) × Nat) ⊕ (Nat × (Nat → Nat) × (Nat → Int32)) := fun (g_17, g_18, g_19) => (if 20 ≤ g_19 then (Sum.inr ((x33 - 1), g_17, g_18)) else (slet (actV 159 (g_17 g_19)) (fun u_30 => (slet (updN g_17 (g_19 - 1) (actK 159 u_30)) (fun q_31 => (slet (g_18 g_19) (fun y_33 => (slet (upd g_18 (g_19 - 1) y_33) (fun f_34 => (Sum.inl (q_31, f_34, (g_19 + 1))))))))))))
noncomputable def sp_EM_keepAct (x33 : Nat) (q31 : Nat → Nat) (f32 : Nat → Int32) (a0 : Nat) (p1 : Int32) : (Nat → Nat) × (Nat → Int32) × Nat × Nat × Nat := (slet (α := Nat × (Nat → Nat) × (Nat → Int32)) (if x33 = 20 then (itrv (α := (Nat → Nat) × (Nat → Int32) × Nat) (β := (Nat × (Nat → Nat) × (Nat → Int32))) default (sp_EM_keepAct_L1 x33) (q31, f32, 1)) else (x33, q31, f32)) (fun (g_1, g_2, g_3) => (slet (updN g_2 g_1 (actK 159 a0)) (fun q_7 => (slet (upd g_3 g_1 p1) (fun f_8 => (slet sp_EM_another (fun (z29_11, z30_12) => (q_7, f_8, z29_11, z30_12, (g_1 + 1))))))))))
set_option maxHeartbeats 4000000 in
set_option maxRecDepth 100000 in
theorem c_EM_keepAct (l : Launch) (dC : Nat → ClassId) (dI : Nat → Nat → Nat) (sz : Nat) (ad : Nat → Nat) (ck : Nat → ClassId) (x0 : Int32) (x16 : Nat) (x18 : Nat) (x19 : Nat) (x20 : Int32) (x21 : Nat) (x22 : Nat) (x23 : Int32) (x24 : Int32) (x25 : Int32) (x26 : Nat) (x27 : Int32) (x28 : Nat) (x29 : Nat) (x30 : Nat) (x33 : Nat) (x45 : Int32) (x46 : Nat) (x52 : Nat) (x53 : Nat) (x61 : Nat) (x62 : Nat) (x63 : Nat) (x65 : Nat) (x66 : Int32) (f1 : Nat → Int32) (f2 : Nat → Int32) (f3 : Nat → Int32) (q4 : Nat → Nat) (q5 : Nat → Nat) (q6 : Nat → Nat) (q7 : Nat → Nat) (f8 : Nat → Int32) (q9 : Nat → Nat) (q10 : Nat → Nat) (f11 : Nat → Int32) (m12_0 m12_1 : Nat) (m13_0 m13_1 : Nat) (m14_0 m14_1 : Nat) (m15_0 m15_1 : Nat) (f17 : Nat → Int32) (q31 : Nat → Nat) (f32 : Nat → Int32) (f34 : Nat → Int32) (f35 : Nat → Int32) (f36 : Nat → Int32) (f37 : Nat → Int32) (q38 : Nat → Nat) (f39 : Nat → Int32) (f40 : Nat → Int32) (f41 : Nat → Int32) (m42_0 m42_1 : Nat) (f43 : Nat → Int32) (f44 : Nat → Int32) (f47 : Nat → Int32) (f48 : Nat → Int32) (f49 : Nat → Int32) (f50 : Nat → Int32) (f51 : Nat → Int32) (q54 : Nat → Nat) (q55 : Nat → Nat) (q56 : Nat → Nat) (f57 : Nat → Int32) (q58 : Nat → Nat) (f59 : Nat → Int32) (f60 : Nat → Int32) (f64 : Nat → Int32) (a0 : Nat) (p1 : Int32) (hx16 : x16 ≤ 1) (hx18 : x18 ≤ 900) (hx19 : x19 ≤ 900) (hx21 : x21 ≤ 900) (hx22 : x22 ≤ 4) (hx26 : x26 ≤ 6) (hx28 : x28 ≤ 1) (hx29 : x29 ≤ 1) (hx30 : x30 ≤ 1) (hx33 : x33 ≤ 20) (hx46 : x46 ≤ 5) (hx52 : x52 ≤ 2400) (hx53 : x53 ≤ 119) (hx61 : x61 ≤ 119) (hx62 : x62 ≤ 2000) (hx63 : x63 ≤ 1) (hx65 : x65 ≤ 7) (hm12_0 : m12_0 ≤ 3) (hm12_1 : m12_1 ≤ 3) (hm13_0 : m13_0 ≤ 8) (hm13_1 : m13_1 ≤ 8) (hm14_0 : m14_0 ≤ 14) (hm14_1 : m14_1 ≤ 14) (hm15_0 : m15_0 ≤ 8) (hm15_1 : m15_1 ≤ 8) (hm42_0 : m42_0 ≤ 120) (hm42_1 : m42_1 ≤ 400) (ha0 : a0 ≤ 1007) (hq0 : a0 ≤ 159 ∨ 1000 ≤ a0) : Met l yX9_keepAct vs_EM_keepAct ({ frames := 1, cells := 0, slots := 0, locals := 20 }) (va_Pc [.ref (ad 0), .int (nI a0), .int p1] (pu_B (dC, dI) (mo_w ad ck x0 (nI x16) (nI x18) (nI x19) x20 (nI x21) (nI x22) x23 x24 x25 (nI x26) x27 (nI x28) (nI x29) (nI x30) (nI x33) x45 (nI x46) (nI x52) (nI x53) (nI x61) (nI x62) (nI x63) (nI x65) x66 f1 f2 f3 (bN 3 q4) (bN 7 q5) (bN 7 q6) (bN 4 q7) f8 (bN 2 q9) (bH q10) f11 (b2 m12_0 m12_1) (b2 m13_0 m13_1) (b2 m14_0 m14_1) (b2m m15_0 m15_1) f17 (bA 159 q31) f32 f34 f35 f36 f37 (bN 7 q38) f39 f40 f41 (b2 m42_0 m42_1) f43 f44 f47 f48 f49 f50 f51 (bN 13 q54) (bN 120 q55) (bN 120 q56) f57 (bN 120 q58) f59 f60 f64) (mo_t ck) sz)) (va_Qv (fun (_ : Unit) => True) (fun _ t => ∃ (z31 : Nat → Nat) (z32 : Nat → Int32) (z29 : Nat) (z30 : Nat) (z33 : Nat), pu_E (dC, dI) (mo_w ad ck x0 (nI x16) (nI x18) (nI x19) x20 (nI x21) (nI x22) x23 x24 x25 (nI x26) x27 (nI x28) (nI z29) (nI z30) (nI z33) x45 (nI x46) (nI x52) (nI x53) (nI x61) (nI x62) (nI x63) (nI x65) x66 f1 f2 f3 (bN 3 q4) (bN 7 q5) (bN 7 q6) (bN 4 q7) f8 (bN 2 q9) (bH q10) f11 (b2 m12_0 m12_1) (b2 m13_0 m13_1) (b2 m14_0 m14_1) (b2m m15_0 m15_1) f17 (bA 159 z31) z32 f34 f35 f36 f37 (bN 7 q38) f39 f40 f41 (b2 m42_0 m42_1) f43 f44 f47 f48 f49 f50 f51 (bN 13 q54) (bN 120 q55) (bN 120 q56) f57 (bN 120 q58) f59 f60 f64) (mo_t ck) (va_A ((mo_w ad ck x0 (nI x16) (nI x18) (nI x19) x20 (nI x21) (nI x22) x23 x24 x25 (nI x26) x27 (nI x28) (nI x29) (nI x30) (nI x33) x45 (nI x46) (nI x52) (nI x53) (nI x61) (nI x62) (nI x63) (nI x65) x66 f1 f2 f3 (bN 3 q4) (bN 7 q5) (bN 7 q6) (bN 4 q7) f8 (bN 2 q9) (bH q10) f11 (b2 m12_0 m12_1) (b2 m13_0 m13_1) (b2 m14_0 m14_1) (b2m m15_0 m15_1) f17 (bA 159 q31) f32 f34 f35 f36 f37 (bN 7 q38) f39 f40 f41 (b2 m42_0 m42_1) f43 f44 f47 f48 f49 f50 f51 (bN 13 q54) (bN 120 q55) (bN 120 q56) f57 (bN 120 q58) f59 f60 f64)) sz) t ∧ (z29 ≤ 1) ∧ (z30 ≤ 1) ∧ (z33 ≤ 20) ∧ ((z31, z32, z29, z30, z33) = (sp_EM_keepAct x33 q31 f32 a0 p1))) (va_A ((mo_w ad ck x0 (nI x16) (nI x18) (nI x19) x20 (nI x21) (nI x22) x23 x24 x25 (nI x26) x27 (nI x28) (nI x29) (nI x30) (nI x33) x45 (nI x46) (nI x52) (nI x53) (nI x61) (nI x62) (nI x63) (nI x65) x66 f1 f2 f3 (bN 3 q4) (bN 7 q5) (bN 7 q6) (bN 4 q7) f8 (bN 2 q9) (bH q10) f11 (b2 m12_0 m12_1) (b2 m13_0 m13_1) (b2 m14_0 m14_1) (b2m m15_0 m15_1) f17 (bA 159 q31) f32 f34 f35 f36 f37 (bN 7 q38) f39 f40 f41 (b2 m42_0 m42_1) f43 f44 f47 f48 f49 f50 f51 (bN 13 q54) (bN 120 q55) (bN 120 q56) f57 (bN 120 q58) f59 f60 f64)) sz)) 0 0 (va_A ((mo_w ad ck x0 (nI x16) (nI x18) (nI x19) x20 (nI x21) (nI x22) x23 x24 x25 (nI x26) x27 (nI x28) (nI x29) (nI x30) (nI x33) x45 (nI x46) (nI x52) (nI x53) (nI x61) (nI x62) (nI x63) (nI x65) x66 f1 f2 f3 (bN 3 q4) (bN 7 q5) (bN 7 q6) (bN 4 q7) f8 (bN 2 q9) (bH q10) f11 (b2 m12_0 m12_1) (b2 m13_0 m13_1) (b2 m14_0 m14_1) (b2m m15_0 m15_1) f17 (bA 159 q31) f32 f34 f35 f36 f37 (bN 7 q38) f39 f40 f41 (b2 m42_0 m42_1) f43 f44 f47 f48 f49 f50 f51 (bN 13 q54) (bN 120 q55) (bN 120 q56) f57 (bN 120 q58) f59 f60 f64)) sz) := by
  refine Met.ofW (cc := cX9_keepAct) (maxL := 4) (ret := none) (by decide) rfl ?_
  intro p e s m args below meth c s₁ B hml hv
  obtain ⟨rfl, rfl, hP, hK, hD0⟩ := hv
  have hx := B.exec
  have hb := B.bytes
  have hr := B.returns
  have hts := atoms_spec (ws := vs_EM_keepAct) B.pre
  have v_1 := hts (.fieldLink RX9 267 "ClockReachModel" "acts" "I") (List.mem_cons_of_mem _ vm_136)
  have v_2 := hts (.fieldLink RX9 62 "ClockReachModel" "actOf" "[I") (List.mem_cons_of_mem _ vm_183)
  have v_3 := hts (.fieldLink RX9 65 "ClockReachModel" "actWas" "[I") (List.mem_cons_of_mem _ vm_184)
  have hown : s.vm.findClass RX9 = some m.cls := findClass_of_methodNamed B.named
  have hlocks := B.notSynchronized
  have hiX9 : ∀ w ∈ wsX90, w ∈ vs_EM_keepAct := fun _ h => List.mem_cons_of_mem _ (vmi_L h)
  have hD := hD0.self (sz := s.heap.size)
  generalize hAe : va_A ((mo_w ad ck x0 (nI x16) (nI x18) (nI x19) x20 (nI x21) (nI x22) x23 x24 x25 (nI x26) x27 (nI x28) (nI x29) (nI x30) (nI x33) x45 (nI x46) (nI x52) (nI x53) (nI x61) (nI x62) (nI x63) (nI x65) x66 f1 f2 f3 (bN 3 q4) (bN 7 q5) (bN 7 q6) (bN 4 q7) f8 (bN 2 q9) (bH q10) f11 (b2 m12_0 m12_1) (b2 m13_0 m13_1) (b2 m14_0 m14_1) (b2m m15_0 m15_1) f17 (bA 159 q31) f32 f34 f35 f36 f37 (bN 7 q38) f39 f40 f41 (b2 m42_0 m42_1) f43 f44 f47 f48 f49 f50 f51 (bN 13 q54) (bN 120 q55) (bN 120 q56) f57 (bN 120 q58) f59 f60 f64)) s.heap.size = A at hD ⊢
  have hA : ∀ q : Nat, s.heap.size ≤ q → A q := fun q h => by rw [← hAe]; exact Or.inr h
  have hS : va_S A s.heap s.heap [] := va_S.rf
  have hl := lv_entry ([.ref (ad 0), .int (nI a0), .int p1]) (n := 4) (Nat.le_of_ble_eq_true rfl)
  rw [lg_entry_eq]
  generalize (lg_sl ([.ref (ad 0), .int (nI a0), .int p1]) ++ List.replicate (4 - (lg_sl ([.ref (ad 0), .int (nI a0), .int p1])).length) Slot.unset).toArray = ls at hl ⊢
  have hl : lv_has ls 4 [(0, .ref (ad 0)), (1, .int (nI a0)), (2, .int p1)] := hl
  obtain ⟨RR, hRR⟩ : ∃ x, x = (sp_EM_keepAct x33 q31 f32 a0 p1) := ⟨_, rfl⟩
  have hsp := hRR
  refine lv_aload_n hx hb dX9_keepAct_0 rfl (lv_at hl 0 rfl) ?_
  refine va_get (D := (dC, dI)) (ci := 9) (v := .int (nI x33)) (C := RX9) (T := TX9) (N := 67) hx hb hts hiX9 hown hK hP 0 rfl rfl 33 (by decide) v_1 (fun _ h9 => h9) rfl dX9_keepAct_1 ?_
  refine lv_bipush (v := 20) hx hb dX9_keepAct_4 (by decide) ?_
  obtain ⟨JR_5, hJR_5, hsp⟩ := slet_ex hsp
  refine pu_join (fun H locs ls st => ∃ (g_1 : Nat) (g_2 : Nat → Nat) (g_3 : Nat → Int32), st = [] ∧ g_1 ≤ 19 ∧ (g_1, g_2, g_3) = JR_5 ∧ va_P (dC, dI) vwCl (mo_w ad ck x0 (nI x16) (nI x18) (nI x19) x20 (nI x21) (nI x22) x23 x24 x25 (nI x26) x27 (nI x28) (nI x29) (nI x30) (nI g_1) x45 (nI x46) (nI x52) (nI x53) (nI x61) (nI x62) (nI x63) (nI x65) x66 f1 f2 f3 (bN 3 q4) (bN 7 q5) (bN 7 q6) (bN 4 q7) f8 (bN 2 q9) (bH q10) f11 (b2 m12_0 m12_1) (b2 m13_0 m13_1) (b2 m14_0 m14_1) (b2m m15_0 m15_1) f17 (bA 159 g_2) g_3 f34 f35 f36 f37 (bN 7 q38) f39 f40 f41 (b2 m42_0 m42_1) f43 f44 f47 f48 f49 f50 f51 (bN 13 q54) (bN 120 q55) (bN 120 q56) f57 (bN 120 q58) f59 f60 f64) H ∧ va_D A (mo_w ad ck x0 (nI x16) (nI x18) (nI x19) x20 (nI x21) (nI x22) x23 x24 x25 (nI x26) x27 (nI x28) (nI x29) (nI x30) (nI g_1) x45 (nI x46) (nI x52) (nI x53) (nI x61) (nI x62) (nI x63) (nI x65) x66 f1 f2 f3 (bN 3 q4) (bN 7 q5) (bN 7 q6) (bN 4 q7) f8 (bN 2 q9) (bH q10) f11 (b2 m12_0 m12_1) (b2 m13_0 m13_1) (b2 m14_0 m14_1) (b2m m15_0 m15_1) f17 (bA 159 g_2) g_3 f34 f35 f36 f37 (bN 7 q38) f39 f40 f41 (b2 m42_0 m42_1) f43 f44 f47 f48 f49 f50 f51 (bN 13 q54) (bN 120 q55) (bN 120 q56) f57 (bN 120 q58) f59 f60 f64) ∧ va_S A s.heap H locs ∧ lv_has ls 4 [(0, .ref (ad 0)), (1, .int (nI a0)), (2, .int p1)]) 61 ?_ (fun j_4 => ?_)
  · rintro H locs ls st ⟨g_1, g_2, g_3, rfl, hg_1, he_6, hP, hD, hS, hl⟩
    rw [← he_6] at hsp
    refine lv_aload_n hx hb dX9_keepAct_61 rfl (lv_at hl 0 rfl) ?_
    refine va_get (D := (dC, dI)) (ci := 9) (v := .ref (ad 31)) (C := RX9) (T := TX9) (N := 67) hx hb hts hiX9 hown hK hP 0 rfl rfl 31 (by decide) v_2 (fun _ h9 => h9) rfl dX9_keepAct_62 ?_
    refine lv_aload_n hx hb dX9_keepAct_65 rfl (lv_at hl 0 rfl) ?_
    refine va_get (D := (dC, dI)) (ci := 9) (v := .int (nI g_1)) (C := RX9) (T := TX9) (N := 67) hx hb hts hiX9 hown hK hP 0 rfl rfl 33 (by decide) v_1 (fun _ h9 => h9) rfl dX9_keepAct_66 ?_
    refine lv_iload_n hx hb dX9_keepAct_69 rfl (lv_at hl 1 rfl) ?_
    refine va_iast hx hb hK hP hD hS 17 16 rfl rfl (vp_in_nI (n := g_1) (Nat.lt_of_le_of_lt hg_1 (Nat.le_of_ble_eq_true rfl)) (Nat.le_of_ble_eq_true rfl)) dX9_keepAct_70 (fun H locs hP hD hS => ?_)
    obtain ⟨q_7, eq_7, kq_7, xq_7⟩ := bA_upx 159 g_2 (n := g_1) (v := a0) (Nat.lt_of_le_of_lt hg_1 (Nat.le_of_ble_eq_true rfl)) (by omega)
    have hP : va_P (dC, dI) vwCl (mo_w ad ck x0 (nI x16) (nI x18) (nI x19) x20 (nI x21) (nI x22) x23 x24 x25 (nI x26) x27 (nI x28) (nI x29) (nI x30) (nI g_1) x45 (nI x46) (nI x52) (nI x53) (nI x61) (nI x62) (nI x63) (nI x65) x66 f1 f2 f3 (bN 3 q4) (bN 7 q5) (bN 7 q6) (bN 4 q7) f8 (bN 2 q9) (bH q10) f11 (b2 m12_0 m12_1) (b2 m13_0 m13_1) (b2 m14_0 m14_1) (b2m m15_0 m15_1) f17 (bA 159 q_7) g_3 f34 f35 f36 f37 (bN 7 q38) f39 f40 f41 (b2 m42_0 m42_1) f43 f44 f47 f48 f49 f50 f51 (bN 13 q54) (bN 120 q55) (bN 120 q56) f57 (bN 120 q58) f59 f60 f64) H := by rw [← eq_7]; exact hP
    have hD : va_D A (mo_w ad ck x0 (nI x16) (nI x18) (nI x19) x20 (nI x21) (nI x22) x23 x24 x25 (nI x26) x27 (nI x28) (nI x29) (nI x30) (nI g_1) x45 (nI x46) (nI x52) (nI x53) (nI x61) (nI x62) (nI x63) (nI x65) x66 f1 f2 f3 (bN 3 q4) (bN 7 q5) (bN 7 q6) (bN 4 q7) f8 (bN 2 q9) (bH q10) f11 (b2 m12_0 m12_1) (b2 m13_0 m13_1) (b2 m14_0 m14_1) (b2m m15_0 m15_1) f17 (bA 159 q_7) g_3 f34 f35 f36 f37 (bN 7 q38) f39 f40 f41 (b2 m42_0 m42_1) f43 f44 f47 f48 f49 f50 f51 (bN 13 q54) (bN 120 q55) (bN 120 q56) f57 (bN 120 q58) f59 f60 f64) := by rw [← eq_7]; exact hD
    replace hsp := hsp.trans (slet_eq xq_7)
    refine lv_aload_n hx hb dX9_keepAct_71 rfl (lv_at hl 0 rfl) ?_
    refine va_get (D := (dC, dI)) (ci := 9) (v := .ref (ad 32)) (C := RX9) (T := TX9) (N := 67) hx hb hts hiX9 hown hK hP 0 rfl rfl 32 (by decide) v_3 (fun _ h9 => h9) rfl dX9_keepAct_72 ?_
    refine lv_aload_n hx hb dX9_keepAct_75 rfl (lv_at hl 0 rfl) ?_
    refine va_get (D := (dC, dI)) (ci := 9) (v := .int (nI g_1)) (C := RX9) (T := TX9) (N := 67) hx hb hts hiX9 hown hK hP 0 rfl rfl 33 (by decide) v_1 (fun _ h9 => h9) rfl dX9_keepAct_76 ?_
    refine lv_iload_n hx hb dX9_keepAct_79 rfl (lv_at hl 2 rfl) ?_
    refine va_iast hx hb hK hP hD hS 18 17 rfl rfl (vp_in_nI (n := g_1) (Nat.lt_of_le_of_lt hg_1 (Nat.le_of_ble_eq_true rfl)) (Nat.le_of_ble_eq_true rfl)) dX9_keepAct_80 (fun H locs hP hD hS => ?_)
    obtain ⟨f_8, ef_8, xf_8⟩ := up_x g_3 (n := g_1) p1 (Nat.lt_of_le_of_lt hg_1 (Nat.le_of_ble_eq_true rfl))
    have hP : va_P (dC, dI) vwCl (mo_w ad ck x0 (nI x16) (nI x18) (nI x19) x20 (nI x21) (nI x22) x23 x24 x25 (nI x26) x27 (nI x28) (nI x29) (nI x30) (nI g_1) x45 (nI x46) (nI x52) (nI x53) (nI x61) (nI x62) (nI x63) (nI x65) x66 f1 f2 f3 (bN 3 q4) (bN 7 q5) (bN 7 q6) (bN 4 q7) f8 (bN 2 q9) (bH q10) f11 (b2 m12_0 m12_1) (b2 m13_0 m13_1) (b2 m14_0 m14_1) (b2m m15_0 m15_1) f17 (bA 159 q_7) f_8 f34 f35 f36 f37 (bN 7 q38) f39 f40 f41 (b2 m42_0 m42_1) f43 f44 f47 f48 f49 f50 f51 (bN 13 q54) (bN 120 q55) (bN 120 q56) f57 (bN 120 q58) f59 f60 f64) H := by rw [← ef_8]; exact hP
    have hD : va_D A (mo_w ad ck x0 (nI x16) (nI x18) (nI x19) x20 (nI x21) (nI x22) x23 x24 x25 (nI x26) x27 (nI x28) (nI x29) (nI x30) (nI g_1) x45 (nI x46) (nI x52) (nI x53) (nI x61) (nI x62) (nI x63) (nI x65) x66 f1 f2 f3 (bN 3 q4) (bN 7 q5) (bN 7 q6) (bN 4 q7) f8 (bN 2 q9) (bH q10) f11 (b2 m12_0 m12_1) (b2 m13_0 m13_1) (b2 m14_0 m14_1) (b2m m15_0 m15_1) f17 (bA 159 q_7) f_8 f34 f35 f36 f37 (bN 7 q38) f39 f40 f41 (b2 m42_0 m42_1) f43 f44 f47 f48 f49 f50 f51 (bN 13 q54) (bN 120 q55) (bN 120 q56) f57 (bN 120 q58) f59 f60 f64) := by rw [← ef_8]; exact hD
    replace hsp := hsp.trans (slet_eq xf_8)
    refine lv_aload_n hx hb dX9_keepAct_81 rfl (lv_at hl 0 rfl) ?_
    refine lv_dup hx hb dX9_keepAct_82 rfl ?_
    refine va_get (D := (dC, dI)) (ci := 9) (v := .int (nI g_1)) (C := RX9) (T := TX9) (N := 67) hx hb hts hiX9 hown hK hP 0 rfl rfl 33 (by decide) v_1 (fun _ h9 => h9) rfl dX9_keepAct_83 ?_
    refine lv_iconst (v := 1) hx hb dX9_keepAct_86 (by decide) ?_
    refine lv_iadd hx hb dX9_keepAct_87 ?_
    refine lv_topi (fun y_9 ey_9 => ?_)
    obtain rfl : y_9 = (nI (g_1 + 1)) := ey_9.trans (nI_add g_1 1)
    refine va_put (D := (dC, dI)) (ci := 9) (v := .int (nI (g_1 + 1))) (ty := .int) (C := RX9) (T := TX9) (N := 67) hx hb hts hiX9 tyX9 tyX9_ok nmX9 hown hK hP hD hS 0 rfl rfl 33 (by decide) v_1 (fun _ h9 => h9) rfl (by decide +kernel) rfl rfl (Nat.le_of_ble_eq_true rfl) dX9_keepAct_88 (fun H locs hP hD hS => ?_)
    have hP : va_P (dC, dI) vwCl (mo_w ad ck x0 (nI x16) (nI x18) (nI x19) x20 (nI x21) (nI x22) x23 x24 x25 (nI x26) x27 (nI x28) (nI x29) (nI x30) (nI (g_1 + 1)) x45 (nI x46) (nI x52) (nI x53) (nI x61) (nI x62) (nI x63) (nI x65) x66 f1 f2 f3 (bN 3 q4) (bN 7 q5) (bN 7 q6) (bN 4 q7) f8 (bN 2 q9) (bH q10) f11 (b2 m12_0 m12_1) (b2 m13_0 m13_1) (b2 m14_0 m14_1) (b2m m15_0 m15_1) f17 (bA 159 q_7) f_8 f34 f35 f36 f37 (bN 7 q38) f39 f40 f41 (b2 m42_0 m42_1) f43 f44 f47 f48 f49 f50 f51 (bN 13 q54) (bN 120 q55) (bN 120 q56) f57 (bN 120 q58) f59 f60 f64) H := hP
    have hD : va_D A (mo_w ad ck x0 (nI x16) (nI x18) (nI x19) x20 (nI x21) (nI x22) x23 x24 x25 (nI x26) x27 (nI x28) (nI x29) (nI x30) (nI (g_1 + 1)) x45 (nI x46) (nI x52) (nI x53) (nI x61) (nI x62) (nI x63) (nI x65) x66 f1 f2 f3 (bN 3 q4) (bN 7 q5) (bN 7 q6) (bN 4 q7) f8 (bN 2 q9) (bH q10) f11 (b2 m12_0 m12_1) (b2 m13_0 m13_1) (b2 m14_0 m14_1) (b2m m15_0 m15_1) f17 (bA 159 q_7) f_8 f34 f35 f36 f37 (bN 7 q38) f39 f40 f41 (b2 m42_0 m42_1) f43 f44 f47 f48 f49 f50 f51 (bN 13 q54) (bN 120 q55) (bN 120 q56) f57 (bN 120 q58) f59 f60 f64) := hD
    refine lv_aload_n hx hb dX9_keepAct_91 rfl (lv_at hl 0 rfl) ?_
    have hFc := pu_free hD hS hA
    refine va_callv (va_runV (As := []) (rest := []) ⟨hx, hb, hml, hown, hts⟩ (c_EM_another l dC dI _ ad ck x0 x16 x18 x19 x20 x21 x22 x23 x24 x25 x26 x27 x28 x29 x30 (g_1 + 1) x45 x46 x52 x53 x61 x62 x63 x65 x66 f1 f2 f3 q4 q5 q6 q7 f8 q9 q10 f11 m12_0 m12_1 m13_0 m13_1 m14_0 m14_1 m15_0 m15_1 f17 q_7 f_8 f34 f35 f36 f37 q38 f39 f40 f41 m42_0 m42_1 f43 f44 f47 f48 f49 f50 f51 q54 q55 q56 f57 q58 f59 f60 f64 hx16 hx18 hx19 hx21 hx22 hx26 hx28 hx29 hx30 (by omega) hx46 hx52 hx53 hx61 hx62 hx63 hx65 hm12_0 hm12_1 hm13_0 hm13_1 hm14_0 hm14_1 hm15_0 hm15_1 hm42_0 hm42_1) (cwV 0 hts g_EM_keepAct_EM_another rfl rfl rfl (by decide +kernel) ⟨Nat.le_of_ble_eq_true rfl, Nat.le_of_ble_eq_true rfl⟩) ⟨pu_bl, va_recv hK hP (ci := 9) (q0 := 0) rfl rfl, pu_in hP hK hD⟩ rfl rfl hl.1 rfl (lv_room (Nat.le_of_ble_eq_true rfl)) dX9_keepAct_92 ⟨Nat.le_of_ble_eq_true rfl, Nat.le_of_ble_eq_true rfl⟩) hS (fun q _ h => hFc q h) hFc (fun u t H1 locs ht hvm hw hB hz1 hk1 hS => ?_)
    obtain ⟨z29_11, z30_12, ⟨hP1, -, hD1⟩, hz29_11, hz30_12, xr_10_0⟩ := hB
    rw [ht] at hP1
    have hP := hP1
    have hD := pu_all hFc hD1
    clear hP1 hD1 hFc
    clear hk1 hz1 ht hvm
    generalize H1 = H at hP hS ⊢
    replace hsp := hsp.trans (slet_eq xr_10_0)
    exact W.vret hx hb hr (fun t ht hW => ⟨⟨(), rfl, trivial, ⟨q_7, f_8, z29_11, z30_12, (g_1 + 1), ⟨by rw [ht]; exact hP, va_K.moved hW.alike hK, hD⟩, hz29_11, hz30_12, (by omega), (hsp.symm.trans hRR)⟩⟩, hS.F ht⟩) hS.2.2 dX9_keepAct_95
  have hsp := hJR_5
  refine lv_icmp_ne (tgt := 61) hx hb dX9_keepAct_6 (by decide) (fun c_13 => ?_) (fun c_13 => ?_)
  · have c_13 : ¬ x33 = 20 := fun z => c_13 ((nI_eq (a := x33) (b := 20) (Nat.lt_of_le_of_lt hx33 (Nat.le_of_ble_eq_true rfl)) (Nat.le_of_ble_eq_true rfl)).mpr z)
    replace hsp := hsp.trans (if_neg c_13)
    exact j_4 _ _ _ _ ⟨x33, q31, f32, rfl, (by omega), hsp.symm, hP, hD, hS, lv_sub hl [0, 1, 2] rfl⟩
  · have c_13 : x33 = 20 := (nI_eq (a := x33) (b := 20) (Nat.lt_of_le_of_lt hx33 (Nat.le_of_ble_eq_true rfl)) (Nat.le_of_ble_eq_true rfl)).mp c_13
    replace hsp := hsp.trans (if_pos c_13)
    refine lv_iconst (v := 1) hx hb dX9_keepAct_9 (by decide) ?_
    refine lv_istore_n (lv' := [(3, .int 1), (0, .ref (ad 0)), (1, .int (nI a0)), (2, .int p1)]) hx hb dX9_keepAct_10 rfl hl (by decide) rfl (fun ls hl => ?_)
    obtain ⟨lf_21, dlf_21, hlf_21, hsp⟩ := itr_ex hsp
    delta sp_EM_keepAct_L1 at hlf_21
    refine pu_while (fun nn H locs ls => ∃ (g_17 : Nat → Nat) (g_18 : Nat → Int32) (g_19 : Nat), nn = 20 - g_19 ∧ (1 ≤ g_19 ∧ g_19 ≤ 20) ∧ JR_5 = itrv dlf_21 lf_21 (g_17, g_18, g_19) ∧ va_P (dC, dI) vwCl (mo_w ad ck x0 (nI x16) (nI x18) (nI x19) x20 (nI x21) (nI x22) x23 x24 x25 (nI x26) x27 (nI x28) (nI x29) (nI x30) (nI x33) x45 (nI x46) (nI x52) (nI x53) (nI x61) (nI x62) (nI x63) (nI x65) x66 f1 f2 f3 (bN 3 q4) (bN 7 q5) (bN 7 q6) (bN 4 q7) f8 (bN 2 q9) (bH q10) f11 (b2 m12_0 m12_1) (b2 m13_0 m13_1) (b2 m14_0 m14_1) (b2m m15_0 m15_1) f17 (bA 159 g_17) g_18 f34 f35 f36 f37 (bN 7 q38) f39 f40 f41 (b2 m42_0 m42_1) f43 f44 f47 f48 f49 f50 f51 (bN 13 q54) (bN 120 q55) (bN 120 q56) f57 (bN 120 q58) f59 f60 f64) H ∧ va_D A (mo_w ad ck x0 (nI x16) (nI x18) (nI x19) x20 (nI x21) (nI x22) x23 x24 x25 (nI x26) x27 (nI x28) (nI x29) (nI x30) (nI x33) x45 (nI x46) (nI x52) (nI x53) (nI x61) (nI x62) (nI x63) (nI x65) x66 f1 f2 f3 (bN 3 q4) (bN 7 q5) (bN 7 q6) (bN 4 q7) f8 (bN 2 q9) (bH q10) f11 (b2 m12_0 m12_1) (b2 m13_0 m13_1) (b2 m14_0 m14_1) (b2m m15_0 m15_1) f17 (bA 159 g_17) g_18 f34 f35 f36 f37 (bN 7 q38) f39 f40 f41 (b2 m42_0 m42_1) f43 f44 f47 f48 f49 f50 f51 (bN 13 q54) (bN 120 q55) (bN 120 q56) f57 (bN 120 q58) f59 f60 f64) ∧ va_S A s.heap H locs ∧ lv_has ls 4 [(0, .ref (ad 0)), (1, .int (nI a0)), (2, .int p1), (3, .int (nI g_19))]) 11 ?_ _ _ _ _ ⟨q31, f32, 1, rfl, ⟨by omega, by omega⟩, hsp, hP, hD, hS, lv_sub hl [1, 2, 3, 0] rfl⟩
    rintro nn ih_20 H locs ls ⟨g_17, g_18, g_19, rfl, hg_19, he_23, hP, hD, hS, hl⟩
    obtain ⟨S_22, hsp, hin_24, hout_25⟩ := itr_step hlf_21 he_23
    refine lv_iload_n hx hb dX9_keepAct_11 rfl (lv_at hl 3 rfl) ?_
    refine lv_bipush (v := 20) hx hb dX9_keepAct_12 (by decide) ?_
    refine lv_icmp_ge (tgt := 51) hx hb dX9_keepAct_14 (by decide) (fun c_26 => ?_) (fun c_26 => ?_)
    · have c_26 : 20 ≤ g_19 := (nI_leI (a := 20) (b := g_19) (Nat.le_of_ble_eq_true rfl) (Nat.lt_of_le_of_lt hg_19.2 (Nat.le_of_ble_eq_true rfl))).mp c_26
      replace hsp := hsp.trans (if_pos c_26)
      have hsp := hout_25 _ hsp
      refine lv_aload_n hx hb dX9_keepAct_51 rfl (lv_at hl 0 rfl) ?_
      refine lv_dup hx hb dX9_keepAct_52 rfl ?_
      refine va_get (D := (dC, dI)) (ci := 9) (v := .int (nI x33)) (C := RX9) (T := TX9) (N := 67) hx hb hts hiX9 hown hK hP 0 rfl rfl 33 (by decide) v_1 (fun _ h9 => h9) rfl dX9_keepAct_53 ?_
      refine lv_iconst (v := 1) hx hb dX9_keepAct_56 (by decide) ?_
      refine lv_isub hx hb dX9_keepAct_57 ?_
      refine lv_topi (fun y_27 ey_27 => ?_)
      obtain rfl : y_27 = (nI (x33 - 1)) := ey_27.trans (pk_sub (a := x33) (b := 1) (by omega))
      refine va_put (D := (dC, dI)) (ci := 9) (v := .int (nI (x33 - 1))) (ty := .int) (C := RX9) (T := TX9) (N := 67) hx hb hts hiX9 tyX9 tyX9_ok nmX9 hown hK hP hD hS 0 rfl rfl 33 (by decide) v_1 (fun _ h9 => h9) rfl (by decide +kernel) rfl rfl (Nat.le_of_ble_eq_true rfl) dX9_keepAct_58 (fun H locs hP hD hS => ?_)
      have hP : va_P (dC, dI) vwCl (mo_w ad ck x0 (nI x16) (nI x18) (nI x19) x20 (nI x21) (nI x22) x23 x24 x25 (nI x26) x27 (nI x28) (nI x29) (nI x30) (nI (x33 - 1)) x45 (nI x46) (nI x52) (nI x53) (nI x61) (nI x62) (nI x63) (nI x65) x66 f1 f2 f3 (bN 3 q4) (bN 7 q5) (bN 7 q6) (bN 4 q7) f8 (bN 2 q9) (bH q10) f11 (b2 m12_0 m12_1) (b2 m13_0 m13_1) (b2 m14_0 m14_1) (b2m m15_0 m15_1) f17 (bA 159 g_17) g_18 f34 f35 f36 f37 (bN 7 q38) f39 f40 f41 (b2 m42_0 m42_1) f43 f44 f47 f48 f49 f50 f51 (bN 13 q54) (bN 120 q55) (bN 120 q56) f57 (bN 120 q58) f59 f60 f64) H := hP
      have hD : va_D A (mo_w ad ck x0 (nI x16) (nI x18) (nI x19) x20 (nI x21) (nI x22) x23 x24 x25 (nI x26) x27 (nI x28) (nI x29) (nI x30) (nI (x33 - 1)) x45 (nI x46) (nI x52) (nI x53) (nI x61) (nI x62) (nI x63) (nI x65) x66 f1 f2 f3 (bN 3 q4) (bN 7 q5) (bN 7 q6) (bN 4 q7) f8 (bN 2 q9) (bH q10) f11 (b2 m12_0 m12_1) (b2 m13_0 m13_1) (b2 m14_0 m14_1) (b2m m15_0 m15_1) f17 (bA 159 g_17) g_18 f34 f35 f36 f37 (bN 7 q38) f39 f40 f41 (b2 m42_0 m42_1) f43 f44 f47 f48 f49 f50 f51 (bN 13 q54) (bN 120 q55) (bN 120 q56) f57 (bN 120 q58) f59 f60 f64) := hD
      exact j_4 _ _ _ _ ⟨(x33 - 1), g_17, g_18, rfl, (by omega), hsp.symm, hP, hD, hS, lv_sub hl [0, 1, 2] rfl⟩
    · have c_26 : ¬ 20 ≤ g_19 := fun z => c_26 ((nI_leI (a := 20) (b := g_19) (Nat.le_of_ble_eq_true rfl) (Nat.lt_of_le_of_lt hg_19.2 (Nat.le_of_ble_eq_true rfl))).mpr z)
      replace hsp := hsp.trans (if_neg c_26)
      refine lv_aload_n hx hb dX9_keepAct_17 rfl (lv_at hl 0 rfl) ?_
      refine va_get (D := (dC, dI)) (ci := 9) (v := .ref (ad 31)) (C := RX9) (T := TX9) (N := 67) hx hb hts hiX9 hown hK hP 0 rfl rfl 31 (by decide) v_2 (fun _ h9 => h9) rfl dX9_keepAct_18 ?_
      refine lv_iload_n hx hb dX9_keepAct_21 rfl (lv_at hl 3 rfl) ?_
      refine lv_iconst (v := 1) hx hb dX9_keepAct_22 (by decide) ?_
      refine lv_isub hx hb dX9_keepAct_23 ?_
      refine lv_topi (fun y_28 ey_28 => ?_)
      obtain rfl : y_28 = (nI (g_19 - 1)) := ey_28.trans (pk_sub (a := g_19) (b := 1) (by omega))
      refine lv_aload_n hx hb dX9_keepAct_24 rfl (lv_at hl 0 rfl) ?_
      refine va_get (D := (dC, dI)) (ci := 9) (v := .ref (ad 31)) (C := RX9) (T := TX9) (N := 67) hx hb hts hiX9 hown hK hP 0 rfl rfl 31 (by decide) v_2 (fun _ h9 => h9) rfl dX9_keepAct_25 ?_
      refine lv_iload_n hx hb dX9_keepAct_28 rfl (lv_at hl 3 rfl) ?_
      refine va_iald hx hb hK hP 17 16 rfl rfl (vp_in_nI (n := g_19) (by omega) (Nat.le_of_ble_eq_true rfl)) dX9_keepAct_29 ?_
      refine lv_topi (fun y_29 ey_29 => ?_)
      obtain ⟨u_30, hu_30, qu_30, xu_30⟩ := bA_getx 159 g_17 (n := g_19) (Nat.lt_of_le_of_lt hg_19.2 (Nat.le_of_ble_eq_true rfl))
      obtain rfl : y_29 = nI u_30 := ey_29.trans qu_30
      replace hsp := hsp.trans (slet_eq xu_30)
      refine va_iast hx hb hK hP hD hS 17 16 rfl rfl (vp_in_nI (n := (g_19 - 1)) (by omega) (Nat.le_of_ble_eq_true rfl)) dX9_keepAct_30 (fun H locs hP hD hS => ?_)
      obtain ⟨q_31, eq_31, kq_31, xq_31⟩ := bA_upx 159 g_17 (n := (g_19 - 1)) (v := u_30) (by omega) (by omega)
      have hP : va_P (dC, dI) vwCl (mo_w ad ck x0 (nI x16) (nI x18) (nI x19) x20 (nI x21) (nI x22) x23 x24 x25 (nI x26) x27 (nI x28) (nI x29) (nI x30) (nI x33) x45 (nI x46) (nI x52) (nI x53) (nI x61) (nI x62) (nI x63) (nI x65) x66 f1 f2 f3 (bN 3 q4) (bN 7 q5) (bN 7 q6) (bN 4 q7) f8 (bN 2 q9) (bH q10) f11 (b2 m12_0 m12_1) (b2 m13_0 m13_1) (b2 m14_0 m14_1) (b2m m15_0 m15_1) f17 (bA 159 q_31) g_18 f34 f35 f36 f37 (bN 7 q38) f39 f40 f41 (b2 m42_0 m42_1) f43 f44 f47 f48 f49 f50 f51 (bN 13 q54) (bN 120 q55) (bN 120 q56) f57 (bN 120 q58) f59 f60 f64) H := by rw [← eq_31]; exact hP
      have hD : va_D A (mo_w ad ck x0 (nI x16) (nI x18) (nI x19) x20 (nI x21) (nI x22) x23 x24 x25 (nI x26) x27 (nI x28) (nI x29) (nI x30) (nI x33) x45 (nI x46) (nI x52) (nI x53) (nI x61) (nI x62) (nI x63) (nI x65) x66 f1 f2 f3 (bN 3 q4) (bN 7 q5) (bN 7 q6) (bN 4 q7) f8 (bN 2 q9) (bH q10) f11 (b2 m12_0 m12_1) (b2 m13_0 m13_1) (b2 m14_0 m14_1) (b2m m15_0 m15_1) f17 (bA 159 q_31) g_18 f34 f35 f36 f37 (bN 7 q38) f39 f40 f41 (b2 m42_0 m42_1) f43 f44 f47 f48 f49 f50 f51 (bN 13 q54) (bN 120 q55) (bN 120 q56) f57 (bN 120 q58) f59 f60 f64) := by rw [← eq_31]; exact hD
      replace hsp := hsp.trans (slet_eq xq_31)
      refine lv_aload_n hx hb dX9_keepAct_31 rfl (lv_at hl 0 rfl) ?_
      refine va_get (D := (dC, dI)) (ci := 9) (v := .ref (ad 32)) (C := RX9) (T := TX9) (N := 67) hx hb hts hiX9 hown hK hP 0 rfl rfl 32 (by decide) v_3 (fun _ h9 => h9) rfl dX9_keepAct_32 ?_
      refine lv_iload_n hx hb dX9_keepAct_35 rfl (lv_at hl 3 rfl) ?_
      refine lv_iconst (v := 1) hx hb dX9_keepAct_36 (by decide) ?_
      refine lv_isub hx hb dX9_keepAct_37 ?_
      refine lv_topi (fun y_32 ey_32 => ?_)
      obtain rfl : y_32 = (nI (g_19 - 1)) := ey_32.trans (pk_sub (a := g_19) (b := 1) (by omega))
      refine lv_aload_n hx hb dX9_keepAct_38 rfl (lv_at hl 0 rfl) ?_
      refine va_get (D := (dC, dI)) (ci := 9) (v := .ref (ad 32)) (C := RX9) (T := TX9) (N := 67) hx hb hts hiX9 hown hK hP 0 rfl rfl 32 (by decide) v_3 (fun _ h9 => h9) rfl dX9_keepAct_39 ?_
      refine lv_iload_n hx hb dX9_keepAct_42 rfl (lv_at hl 3 rfl) ?_
      refine va_iald hx hb hK hP 18 17 rfl rfl (vp_in_nI (n := g_19) (by omega) (Nat.le_of_ble_eq_true rfl)) dX9_keepAct_43 ?_
      refine lv_topi (fun y_33 ey_33 => ?_)
      have ey_33 : y_33 = g_18 g_19 := ey_33.trans (congrArg g_18 (nI_clamp (n := g_19) (Nat.lt_of_le_of_lt hg_19.2 (Nat.le_of_ble_eq_true rfl))))
      replace hsp := hsp.trans (slet_eq ey_33)
      refine va_iast hx hb hK hP hD hS 18 17 rfl rfl (vp_in_nI (n := (g_19 - 1)) (by omega) (Nat.le_of_ble_eq_true rfl)) dX9_keepAct_44 (fun H locs hP hD hS => ?_)
      obtain ⟨f_34, ef_34, xf_34⟩ := up_x g_18 (n := (g_19 - 1)) y_33 (by omega)
      have hP : va_P (dC, dI) vwCl (mo_w ad ck x0 (nI x16) (nI x18) (nI x19) x20 (nI x21) (nI x22) x23 x24 x25 (nI x26) x27 (nI x28) (nI x29) (nI x30) (nI x33) x45 (nI x46) (nI x52) (nI x53) (nI x61) (nI x62) (nI x63) (nI x65) x66 f1 f2 f3 (bN 3 q4) (bN 7 q5) (bN 7 q6) (bN 4 q7) f8 (bN 2 q9) (bH q10) f11 (b2 m12_0 m12_1) (b2 m13_0 m13_1) (b2 m14_0 m14_1) (b2m m15_0 m15_1) f17 (bA 159 q_31) f_34 f34 f35 f36 f37 (bN 7 q38) f39 f40 f41 (b2 m42_0 m42_1) f43 f44 f47 f48 f49 f50 f51 (bN 13 q54) (bN 120 q55) (bN 120 q56) f57 (bN 120 q58) f59 f60 f64) H := by rw [← ef_34]; exact hP
      have hD : va_D A (mo_w ad ck x0 (nI x16) (nI x18) (nI x19) x20 (nI x21) (nI x22) x23 x24 x25 (nI x26) x27 (nI x28) (nI x29) (nI x30) (nI x33) x45 (nI x46) (nI x52) (nI x53) (nI x61) (nI x62) (nI x63) (nI x65) x66 f1 f2 f3 (bN 3 q4) (bN 7 q5) (bN 7 q6) (bN 4 q7) f8 (bN 2 q9) (bH q10) f11 (b2 m12_0 m12_1) (b2 m13_0 m13_1) (b2 m14_0 m14_1) (b2m m15_0 m15_1) f17 (bA 159 q_31) f_34 f34 f35 f36 f37 (bN 7 q38) f39 f40 f41 (b2 m42_0 m42_1) f43 f44 f47 f48 f49 f50 f51 (bN 13 q54) (bN 120 q55) (bN 120 q56) f57 (bN 120 q58) f59 f60 f64) := by rw [← ef_34]; exact hD
      replace hsp := hsp.trans (slet_eq xf_34)
      refine lv_iinc (v := (nI (g_19 + 1))) (lv' := [(3, .int (nI (g_19 + 1))), (0, .ref (ad 0)), (1, .int (nI a0)), (2, .int p1)]) hx hb dX9_keepAct_45 hl (k := 3) rfl (nI_1 _) (by decide) rfl (fun ls hl => ?_)
      refine lv_goto (tgt := 11) hx hb dX9_keepAct_48 (by decide) ?_
      exact ih_20 (20 - (g_19 + 1)) (by omega) _ _ _ ⟨q_31, f_34, (g_19 + 1), rfl, ⟨by omega, by omega⟩, hin_24 _ hsp, hP, hD, hS, lv_sub hl [1, 2, 3, 0] rfl⟩
