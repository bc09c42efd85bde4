theorem dX9_holds_0 : decode cX9_holds 0 = .ok (.iconst 1, 1) := by decide +kernel
theorem dX9_holds_1 : decode cX9_holds 1 = .ok (.aload_n 0, 1) := by decide +kernel
theorem dX9_holds_2 : decode cX9_holds 2 = .ok (.getfield 34, 3) := by decide +kernel
theorem dX9_holds_5 : decode cX9_holds 5 = .ok (.iload_n 2, 1) := by decide +kernel
theorem dX9_holds_6 : decode cX9_holds 6 = .ok (.iaload, 1) := by decide +kernel
theorem dX9_holds_7 : decode cX9_holds 7 = .ok (.iadd, 1) := by decide +kernel
theorem dX9_holds_8 : decode cX9_holds 8 = .ok (.istore_n 3, 1) := by decide +kernel
theorem dX9_holds_9 : decode cX9_holds 9 = .ok (.aload_n 0, 1) := by decide +kernel
theorem dX9_holds_10 : decode cX9_holds 10 = .ok (.getfield 37, 3) := by decide +kernel
theorem dX9_holds_13 : decode cX9_holds 13 = .ok (.iload_n 2, 1) := by decide +kernel
theorem dX9_holds_14 : decode cX9_holds 14 = .ok (.iaload, 1) := by decide +kernel
theorem dX9_holds_15 : decode cX9_holds 15 = .ok (.iconst 2, 1) := by decide +kernel
theorem dX9_holds_16 : decode cX9_holds 16 = .ok (.if_icmp .gt 32, 3) := by decide +kernel
theorem dX9_holds_19 : decode cX9_holds 19 = .ok (.aload_n 1, 1) := by decide +kernel
theorem dX9_holds_20 : decode cX9_holds 20 = .ok (.iload_n 3, 1) := by decide +kernel
theorem dX9_holds_21 : decode cX9_holds 21 = .ok (.iconst 0, 1) := by decide +kernel
theorem dX9_holds_22 : decode cX9_holds 22 = .ok (.iconst 2, 1) := by decide +kernel
theorem dX9_holds_23 : decode cX9_holds 23 = .ok (.aload_n 0, 1) := by decide +kernel
theorem dX9_holds_24 : decode cX9_holds 24 = .ok (.getfield 40, 3) := by decide +kernel
theorem dX9_holds_27 : decode cX9_holds 27 = .ok (.iload_n 2, 1) := by decide +kernel
theorem dX9_holds_28 : decode cX9_holds 28 = .ok (.iaload, 1) := by decide +kernel
theorem dX9_holds_29 : decode cX9_holds 29 = .ok (.imul, 1) := by decide +kernel
theorem dX9_holds_30 : decode cX9_holds 30 = .ok (.aload_n 0, 1) := by decide +kernel
theorem dX9_holds_31 : decode cX9_holds 31 = .ok (.getfield 37, 3) := by decide +kernel
theorem dX9_holds_34 : decode cX9_holds 34 = .ok (.iload_n 2, 1) := by decide +kernel
theorem dX9_holds_35 : decode cX9_holds 35 = .ok (.iaload, 1) := by decide +kernel
theorem dX9_holds_36 : decode cX9_holds 36 = .ok (.ifCond .ne 7, 3) := by decide +kernel
theorem dX9_holds_39 : decode cX9_holds 39 = .ok (.iconst 0, 1) := by decide +kernel
theorem dX9_holds_40 : decode cX9_holds 40 = .ok (.goto 4, 3) := by decide +kernel
theorem dX9_holds_43 : decode cX9_holds 43 = .ok (.iconst 1, 1) := by decide +kernel
theorem dX9_holds_44 : decode cX9_holds 44 = .ok (.iadd, 1) := by decide +kernel
theorem dX9_holds_45 : decode cX9_holds 45 = .ok (.invokestatic 334, 3) := by decide +kernel
theorem dX9_holds_48 : decode cX9_holds 48 = .ok (.aload_n 0, 1) := by decide +kernel
theorem dX9_holds_49 : decode cX9_holds 49 = .ok (.getfield 37, 3) := by decide +kernel
theorem dX9_holds_52 : decode cX9_holds 52 = .ok (.iload_n 2, 1) := by decide +kernel
theorem dX9_holds_53 : decode cX9_holds 53 = .ok (.iaload, 1) := by decide +kernel
theorem dX9_holds_54 : decode cX9_holds 54 = .ok (.iconst 2, 1) := by decide +kernel
theorem dX9_holds_55 : decode cX9_holds 55 = .ok (.if_icmp .lt 34, 3) := by decide +kernel
theorem dX9_holds_58 : decode cX9_holds 58 = .ok (.aload_n 1, 1) := by decide +kernel
theorem dX9_holds_59 : decode cX9_holds 59 = .ok (.iconst 0, 1) := by decide +kernel
theorem dX9_holds_60 : decode cX9_holds 60 = .ok (.iload_n 3, 1) := by decide +kernel
theorem dX9_holds_61 : decode cX9_holds 61 = .ok (.bipush (-2), 2) := by decide +kernel
theorem dX9_holds_63 : decode cX9_holds 63 = .ok (.aload_n 0, 1) := by decide +kernel
theorem dX9_holds_64 : decode cX9_holds 64 = .ok (.getfield 40, 3) := by decide +kernel
theorem dX9_holds_67 : decode cX9_holds 67 = .ok (.iload_n 2, 1) := by decide +kernel
theorem dX9_holds_68 : decode cX9_holds 68 = .ok (.iaload, 1) := by decide +kernel
theorem dX9_holds_69 : decode cX9_holds 69 = .ok (.imul, 1) := by decide +kernel
theorem dX9_holds_70 : decode cX9_holds 70 = .ok (.aload_n 0, 1) := by decide +kernel
theorem dX9_holds_71 : decode cX9_holds 71 = .ok (.getfield 37, 3) := by decide +kernel
theorem dX9_holds_74 : decode cX9_holds 74 = .ok (.iload_n 2, 1) := by decide +kernel
theorem dX9_holds_75 : decode cX9_holds 75 = .ok (.iaload, 1) := by decide +kernel
theorem dX9_holds_76 : decode cX9_holds 76 = .ok (.iconst 4, 1) := by decide +kernel
theorem dX9_holds_77 : decode cX9_holds 77 = .ok (.if_icmp .ne 7, 3) := by decide +kernel
theorem dX9_holds_80 : decode cX9_holds 80 = .ok (.iconst 0, 1) := by decide +kernel
theorem dX9_holds_81 : decode cX9_holds 81 = .ok (.goto 4, 3) := by decide +kernel
theorem dX9_holds_84 : decode cX9_holds 84 = .ok (.iconst 1, 1) := by decide +kernel
theorem dX9_holds_85 : decode cX9_holds 85 = .ok (.iadd, 1) := by decide +kernel
theorem dX9_holds_86 : decode cX9_holds 86 = .ok (.invokestatic 334, 3) := by decide +kernel
theorem dX9_holds_89 : decode cX9_holds 89 = .ok (.return_, 1) := by decide +kernel
abbrev vs_EM_holds : List Cond := .code yX9_holds cX9_holds 4 none :: VM
theorem g_EM_holds_EM_tightens_z : GoodIn vs_EM_holds (va_wsS RX9 334 yX9_tightens vs_EM_tightens_z) := gm_S vm_197 vm_198 vm_19 vm_199
noncomputable def sp_EM_holds (q9 : Nat → Nat) (q10 : Nat → Nat) (f11 : Nat → Int32) (f35 : Nat → Int32) (a1 : Nat) : (Nat → Int32) := (slet (min (q9 a1) 2) (fun u_2 => (slet (min (q10 a1) (if a1 % 80 < 56 then 4 else 1)) (fun u_5 => (slet (α := (Nat → Int32)) (if 2 < u_5 then f35 else (slet (f11 a1) (fun y_26 => (slet ((2 : Int32) * y_26) (fun y_27 => (slet (α := Nat) (if u_5 = 0 then 0 else 1) (fun g_30 => (slet ((y_27 : Int32) + (nI g_30)) (fun y_34 => (slet (sp_EM_tightens_z f35 (1 + u_2) 0 y_34) (fun z35_36 => z35_36))))))))))) (fun g_6 => (if u_5 < 2 then g_6 else (slet (f11 a1) (fun y_13 => (slet (((-2) : Int32) * y_13) (fun y_14 => (slet (α := Nat) (if u_5 = 4 then 0 else 1) (fun g_17 => (slet ((y_14 : Int32) + (nI g_17)) (fun y_21 => (slet (sp_EM_tightens_z g_6 0 (1 + u_2) y_21) (fun z35_23 => z35_23)))))))))))))))))
set_option maxHeartbeats 4000000 in
set_option maxRecDepth 100000 in
theorem c_EM_holds (l : Launch) (dC : Nat → ClassId) (dI : Nat → Nat → Nat) (sz : Nat) (ad : Nat → Nat) (ck : Nat → ClassId) (x0 : Int32) (x16 : Nat) (x18 : Nat) (x19 : Nat) (x20 : Int32) (x21 : Nat) (x22 : Nat) (x23 : Int32) (x24 : Int32) (x25 : Int32) (x26 : Nat) (x27 : Int32) (x28 : Nat) (x29 : Nat) (x30 : Nat) (x33 : Nat) (x45 : Int32) (x46 : Nat) (x52 : Nat) (x53 : Nat) (x61 : Nat) (x62 : Nat) (x63 : Nat) (x65 : Nat) (x66 : Int32) (f1 : Nat → Int32) (f2 : Nat → Int32) (f3 : Nat → Int32) (q4 : Nat → Nat) (q5 : Nat → Nat) (q6 : Nat → Nat) (q7 : Nat → Nat) (f8 : Nat → Int32) (q9 : Nat → Nat) (q10 : Nat → Nat) (f11 : Nat → Int32) (m12_0 m12_1 : Nat) (m13_0 m13_1 : Nat) (m14_0 m14_1 : Nat) (m15_0 m15_1 : Nat) (f17 : Nat → Int32) (q31 : Nat → Nat) (f32 : Nat → Int32) (f34 : Nat → Int32) (f35 : Nat → Int32) (f36 : Nat → Int32) (f37 : Nat → Int32) (q38 : Nat → Nat) (f39 : Nat → Int32) (f40 : Nat → Int32) (f41 : Nat → Int32) (m42_0 m42_1 : Nat) (f43 : Nat → Int32) (f44 : Nat → Int32) (f47 : Nat → Int32) (f48 : Nat → Int32) (f49 : Nat → Int32) (f50 : Nat → Int32) (f51 : Nat → Int32) (q54 : Nat → Nat) (q55 : Nat → Nat) (q56 : Nat → Nat) (f57 : Nat → Int32) (q58 : Nat → Nat) (f59 : Nat → Int32) (f60 : Nat → Int32) (f64 : Nat → Int32) (a1 : Nat) (hx16 : x16 ≤ 1) (hx18 : x18 ≤ 900) (hx19 : x19 ≤ 900) (hx21 : x21 ≤ 900) (hx22 : x22 ≤ 4) (hx26 : x26 ≤ 6) (hx28 : x28 ≤ 1) (hx29 : x29 ≤ 1) (hx30 : x30 ≤ 1) (hx33 : x33 ≤ 20) (hx46 : x46 ≤ 5) (hx52 : x52 ≤ 2400) (hx53 : x53 ≤ 119) (hx61 : x61 ≤ 119) (hx62 : x62 ≤ 2000) (hx63 : x63 ≤ 1) (hx65 : x65 ≤ 7) (hm12_0 : m12_0 ≤ 3) (hm12_1 : m12_1 ≤ 3) (hm13_0 : m13_0 ≤ 8) (hm13_1 : m13_1 ≤ 8) (hm14_0 : m14_0 ≤ 14) (hm14_1 : m14_1 ≤ 14) (hm15_0 : m15_0 ≤ 8) (hm15_1 : m15_1 ≤ 8) (hm42_0 : m42_0 ≤ 120) (hm42_1 : m42_1 ≤ 400) (ha1 : a1 ≤ 159) : Met l yX9_holds vs_EM_holds ({ frames := 2, cells := 0, slots := 0, locals := 44 }) (va_Pc [.ref (ad 0), .ref (ad 35), .int (nI a1)] (pu_B (dC, dI) (mo_w ad ck x0 (nI x16) (nI x18) (nI x19) x20 (nI x21) (nI x22) x23 x24 x25 (nI x26) x27 (nI x28) (nI x29) (nI x30) (nI x33) x45 (nI x46) (nI x52) (nI x53) (nI x61) (nI x62) (nI x63) (nI x65) x66 f1 f2 f3 (bN 3 q4) (bN 7 q5) (bN 7 q6) (bN 4 q7) f8 (bN 2 q9) (bH q10) f11 (b2 m12_0 m12_1) (b2 m13_0 m13_1) (b2 m14_0 m14_1) (b2m m15_0 m15_1) f17 (bA 159 q31) f32 f34 f35 f36 f37 (bN 7 q38) f39 f40 f41 (b2 m42_0 m42_1) f43 f44 f47 f48 f49 f50 f51 (bN 13 q54) (bN 120 q55) (bN 120 q56) f57 (bN 120 q58) f59 f60 f64) (mo_t ck) sz)) (va_Qv (fun (_ : Unit) => True) (fun _ t => ∃ (z35 : Nat → Int32), pu_E (dC, dI) (mo_w ad ck x0 (nI x16) (nI x18) (nI x19) x20 (nI x21) (nI x22) x23 x24 x25 (nI x26) x27 (nI x28) (nI x29) (nI x30) (nI x33) x45 (nI x46) (nI x52) (nI x53) (nI x61) (nI x62) (nI x63) (nI x65) x66 f1 f2 f3 (bN 3 q4) (bN 7 q5) (bN 7 q6) (bN 4 q7) f8 (bN 2 q9) (bH q10) f11 (b2 m12_0 m12_1) (b2 m13_0 m13_1) (b2 m14_0 m14_1) (b2m m15_0 m15_1) f17 (bA 159 q31) f32 f34 z35 f36 f37 (bN 7 q38) f39 f40 f41 (b2 m42_0 m42_1) f43 f44 f47 f48 f49 f50 f51 (bN 13 q54) (bN 120 q55) (bN 120 q56) f57 (bN 120 q58) f59 f60 f64) (mo_t ck) (va_A ((mo_w ad ck x0 (nI x16) (nI x18) (nI x19) x20 (nI x21) (nI x22) x23 x24 x25 (nI x26) x27 (nI x28) (nI x29) (nI x30) (nI x33) x45 (nI x46) (nI x52) (nI x53) (nI x61) (nI x62) (nI x63) (nI x65) x66 f1 f2 f3 (bN 3 q4) (bN 7 q5) (bN 7 q6) (bN 4 q7) f8 (bN 2 q9) (bH q10) f11 (b2 m12_0 m12_1) (b2 m13_0 m13_1) (b2 m14_0 m14_1) (b2m m15_0 m15_1) f17 (bA 159 q31) f32 f34 f35 f36 f37 (bN 7 q38) f39 f40 f41 (b2 m42_0 m42_1) f43 f44 f47 f48 f49 f50 f51 (bN 13 q54) (bN 120 q55) (bN 120 q56) f57 (bN 120 q58) f59 f60 f64)) sz) t ∧ (z35 = (sp_EM_holds q9 q10 f11 f35 a1))) (va_A ((mo_w ad ck x0 (nI x16) (nI x18) (nI x19) x20 (nI x21) (nI x22) x23 x24 x25 (nI x26) x27 (nI x28) (nI x29) (nI x30) (nI x33) x45 (nI x46) (nI x52) (nI x53) (nI x61) (nI x62) (nI x63) (nI x65) x66 f1 f2 f3 (bN 3 q4) (bN 7 q5) (bN 7 q6) (bN 4 q7) f8 (bN 2 q9) (bH q10) f11 (b2 m12_0 m12_1) (b2 m13_0 m13_1) (b2 m14_0 m14_1) (b2m m15_0 m15_1) f17 (bA 159 q31) f32 f34 f35 f36 f37 (bN 7 q38) f39 f40 f41 (b2 m42_0 m42_1) f43 f44 f47 f48 f49 f50 f51 (bN 13 q54) (bN 120 q55) (bN 120 q56) f57 (bN 120 q58) f59 f60 f64)) sz)) 0 0 (va_A ((mo_w ad ck x0 (nI x16) (nI x18) (nI x19) x20 (nI x21) (nI x22) x23 x24 x25 (nI x26) x27 (nI x28) (nI x29) (nI x30) (nI x33) x45 (nI x46) (nI x52) (nI x53) (nI x61) (nI x62) (nI x63) (nI x65) x66 f1 f2 f3 (bN 3 q4) (bN 7 q5) (bN 7 q6) (bN 4 q7) f8 (bN 2 q9) (bH q10) f11 (b2 m12_0 m12_1) (b2 m13_0 m13_1) (b2 m14_0 m14_1) (b2m m15_0 m15_1) f17 (bA 159 q31) f32 f34 f35 f36 f37 (bN 7 q38) f39 f40 f41 (b2 m42_0 m42_1) f43 f44 f47 f48 f49 f50 f51 (bN 13 q54) (bN 120 q55) (bN 120 q56) f57 (bN 120 q58) f59 f60 f64)) sz) := by
  refine Met.ofW (cc := cX9_holds) (maxL := 4) (ret := none) (by decide) rfl ?_
  intro p e s m args below meth c s₁ B hml hv
  obtain ⟨rfl, rfl, hP, hK, hD0⟩ := hv
  have hx := B.exec
  have hb := B.bytes
  have hr := B.returns
  have hts := atoms_spec (ws := vs_EM_holds) B.pre
  have v_1 := hts (.fieldLink RX9 34 "ClockReachModel" "ofClock" "[I") (List.mem_cons_of_mem _ vm_98)
  have v_2 := hts (.fieldLink RX9 37 "ClockReachModel" "how" "[I") (List.mem_cons_of_mem _ vm_99)
  have v_3 := hts (.fieldLink RX9 40 "ClockReachModel" "limit" "[I") (List.mem_cons_of_mem _ vm_100)
  have hown : s.vm.findClass RX9 = some m.cls := findClass_of_methodNamed B.named
  have hlocks := B.notSynchronized
  have hiX9 : ∀ w ∈ wsX90, w ∈ vs_EM_holds := fun _ h => List.mem_cons_of_mem _ (vmi_L h)
  have hD := hD0.self (sz := s.heap.size)
  generalize hAe : va_A ((mo_w ad ck x0 (nI x16) (nI x18) (nI x19) x20 (nI x21) (nI x22) x23 x24 x25 (nI x26) x27 (nI x28) (nI x29) (nI x30) (nI x33) x45 (nI x46) (nI x52) (nI x53) (nI x61) (nI x62) (nI x63) (nI x65) x66 f1 f2 f3 (bN 3 q4) (bN 7 q5) (bN 7 q6) (bN 4 q7) f8 (bN 2 q9) (bH q10) f11 (b2 m12_0 m12_1) (b2 m13_0 m13_1) (b2 m14_0 m14_1) (b2m m15_0 m15_1) f17 (bA 159 q31) f32 f34 f35 f36 f37 (bN 7 q38) f39 f40 f41 (b2 m42_0 m42_1) f43 f44 f47 f48 f49 f50 f51 (bN 13 q54) (bN 120 q55) (bN 120 q56) f57 (bN 120 q58) f59 f60 f64)) s.heap.size = A at hD ⊢
  have hA : ∀ q : Nat, s.heap.size ≤ q → A q := fun q h => by rw [← hAe]; exact Or.inr h
  have hS : va_S A s.heap s.heap [] := va_S.rf
  have hl := lv_entry ([.ref (ad 0), .ref (ad 35), .int (nI a1)]) (n := 4) (Nat.le_of_ble_eq_true rfl)
  rw [lg_entry_eq]
  generalize (lg_sl ([.ref (ad 0), .ref (ad 35), .int (nI a1)]) ++ List.replicate (4 - (lg_sl ([.ref (ad 0), .ref (ad 35), .int (nI a1)])).length) Slot.unset).toArray = ls at hl ⊢
  have hl : lv_has ls 4 [(0, .ref (ad 0)), (1, .ref (ad 35)), (2, .int (nI a1))] := hl
  obtain ⟨RR, hRR⟩ : ∃ x, x = (sp_EM_holds q9 q10 f11 f35 a1) := ⟨_, rfl⟩
  have hsp := hRR
  refine lv_iconst (v := 1) hx hb dX9_holds_0 (by decide) ?_
  refine lv_aload_n hx hb dX9_holds_1 rfl (lv_at hl 0 rfl) ?_
  refine va_get (D := (dC, dI)) (ci := 9) (v := .ref (ad 9)) (C := RX9) (T := TX9) (N := 67) hx hb hts hiX9 hown hK hP 0 rfl rfl 9 (by decide) v_1 (fun _ h9 => h9) rfl dX9_holds_2 ?_
  refine lv_iload_n hx hb dX9_holds_5 rfl (lv_at hl 2 rfl) ?_
  refine va_iald hx hb hK hP 9 8 rfl rfl (vp_in_nI (n := a1) (Nat.lt_of_le_of_lt ha1 (Nat.le_of_ble_eq_true rfl)) (Nat.le_of_ble_eq_true rfl)) dX9_holds_6 ?_
  refine lv_topi (fun y_1 ey_1 => ?_)
  obtain ⟨u_2, hu_2, qu_2, xu_2⟩ := bN_getx 2 q9 (n := a1) (Nat.lt_of_le_of_lt ha1 (Nat.le_of_ble_eq_true rfl))
  obtain rfl : y_1 = nI u_2 := ey_1.trans qu_2
  replace hsp := hsp.trans (slet_eq xu_2)
  refine lv_iadd hx hb dX9_holds_7 ?_
  refine lv_topi (fun y_3 ey_3 => ?_)
  obtain rfl : y_3 = (nI (1 + u_2)) := ey_3.trans (nI_add 1 u_2)
  refine lv_istore_n (lv' := [(3, .int (nI (1 + u_2))), (0, .ref (ad 0)), (1, .ref (ad 35)), (2, .int (nI a1))]) hx hb dX9_holds_8 rfl hl (by decide) rfl (fun ls hl => ?_)
  refine lv_aload_n hx hb dX9_holds_9 rfl (lv_at hl 1 rfl) ?_
  refine va_get (D := (dC, dI)) (ci := 9) (v := .ref (ad 10)) (C := RX9) (T := TX9) (N := 67) hx hb hts hiX9 hown hK hP 0 rfl rfl 10 (by decide) v_2 (fun _ h9 => h9) rfl dX9_holds_10 ?_
  refine lv_iload_n hx hb dX9_holds_13 rfl (lv_at hl 3 rfl) ?_
  refine va_iald hx hb hK hP 10 9 rfl rfl (vp_in_nI (n := a1) (Nat.lt_of_le_of_lt ha1 (Nat.le_of_ble_eq_true rfl)) (Nat.le_of_ble_eq_true rfl)) dX9_holds_14 ?_
  refine lv_topi (fun y_4 ey_4 => ?_)
  obtain ⟨u_5, hu_5, qu_5, xu_5⟩ := bH_getx q10 (i := a1) (by omega)
  obtain rfl : y_4 = nI u_5 := ey_4.trans qu_5
  replace hsp := hsp.trans (slet_eq xu_5)
  refine lv_iconst (v := 2) hx hb dX9_holds_15 (by decide) ?_
  obtain ⟨JR_8, hJR_8, hsp⟩ := slet_ex hsp
  refine pu_join (fun H locs ls st => ∃ (g_6 : Nat → Int32), st = [] ∧ g_6 = JR_8 ∧ va_P (dC, dI) vwCl (mo_w ad ck x0 (nI x16) (nI x18) (nI x19) x20 (nI x21) (nI x22) x23 x24 x25 (nI x26) x27 (nI x28) (nI x29) (nI x30) (nI x33) x45 (nI x46) (nI x52) (nI x53) (nI x61) (nI x62) (nI x63) (nI x65) x66 f1 f2 f3 (bN 3 q4) (bN 7 q5) (bN 7 q6) (bN 4 q7) f8 (bN 2 q9) (bH q10) f11 (b2 m12_0 m12_1) (b2 m13_0 m13_1) (b2 m14_0 m14_1) (b2m m15_0 m15_1) f17 (bA 159 q31) f32 f34 g_6 f36 f37 (bN 7 q38) f39 f40 f41 (b2 m42_0 m42_1) f43 f44 f47 f48 f49 f50 f51 (bN 13 q54) (bN 120 q55) (bN 120 q56) f57 (bN 120 q58) f59 f60 f64) H ∧ va_D A (mo_w ad ck x0 (nI x16) (nI x18) (nI x19) x20 (nI x21) (nI x22) x23 x24 x25 (nI x26) x27 (nI x28) (nI x29) (nI x30) (nI x33) x45 (nI x46) (nI x52) (nI x53) (nI x61) (nI x62) (nI x63) (nI x65) x66 f1 f2 f3 (bN 3 q4) (bN 7 q5) (bN 7 q6) (bN 4 q7) f8 (bN 2 q9) (bH q10) f11 (b2 m12_0 m12_1) (b2 m13_0 m13_1) (b2 m14_0 m14_1) (b2m m15_0 m15_1) f17 (bA 159 q31) f32 f34 g_6 f36 f37 (bN 7 q38) f39 f40 f41 (b2 m42_0 m42_1) f43 f44 f47 f48 f49 f50 f51 (bN 13 q54) (bN 120 q55) (bN 120 q56) f57 (bN 120 q58) f59 f60 f64) ∧ va_S A s.heap H locs ∧ lv_has ls 4 [(0, .ref (ad 0)), (1, .ref (ad 35)), (2, .int (nI a1)), (3, .int (nI (1 + u_2)))]) 48 ?_ (fun j_7 => ?_)
  · rintro H locs ls st ⟨g_6, rfl, he_9, hP, hD, hS, hl⟩
    rw [← he_9] at hsp
    refine lv_aload_n hx hb dX9_holds_48 rfl (lv_at hl 0 rfl) ?_
    refine va_get (D := (dC, dI)) (ci := 9) (v := .ref (ad 10)) (C := RX9) (T := TX9) (N := 67) hx hb hts hiX9 hown hK hP 0 rfl rfl 10 (by decide) v_2 (fun _ h9 => h9) rfl dX9_holds_49 ?_
    refine lv_iload_n hx hb dX9_holds_52 rfl (lv_at hl 2 rfl) ?_
    refine va_iald hx hb hK hP 10 9 rfl rfl (vp_in_nI (n := a1) (Nat.lt_of_le_of_lt ha1 (Nat.le_of_ble_eq_true rfl)) (Nat.le_of_ble_eq_true rfl)) dX9_holds_53 ?_
    refine lv_topi (fun y_10 ey_10 => ?_)
    obtain rfl : y_10 = nI u_5 := ey_10.trans qu_5
    refine lv_iconst (v := 2) hx hb dX9_holds_54 (by decide) ?_
    refine lv_icmp_lt (tgt := 89) hx hb dX9_holds_55 (by decide) (fun c_12 => ?_) (fun c_12 => ?_)
    · have c_12 : u_5 < 2 := (nI_ltI (a := u_5) (b := 2) (by omega) (Nat.le_of_ble_eq_true rfl)).mp c_12
      replace hsp := hsp.trans (if_pos c_12)
      exact W.vret hx hb hr (fun t ht hW => ⟨⟨(), rfl, trivial, ⟨g_6, ⟨by rw [ht]; exact hP, va_K.moved hW.alike hK, hD⟩, (hsp.symm.trans hRR)⟩⟩, hS.F ht⟩) hS.2.2 dX9_holds_89
    · have c_12 : ¬ u_5 < 2 := fun z => c_12 ((nI_ltI (a := u_5) (b := 2) (by omega) (Nat.le_of_ble_eq_true rfl)).mpr z)
      replace hsp := hsp.trans (if_neg c_12)
      refine lv_aload_n hx hb dX9_holds_58 rfl (lv_at hl 1 rfl) ?_
      refine lv_iconst (v := 0) hx hb dX9_holds_59 (by decide) ?_
      refine lv_iload_n hx hb dX9_holds_60 rfl (lv_at hl 3 rfl) ?_
      refine lv_bipush (v := (-2)) hx hb dX9_holds_61 (by decide) ?_
      refine lv_aload_n hx hb dX9_holds_63 rfl (lv_at hl 0 rfl) ?_
      refine va_get (D := (dC, dI)) (ci := 9) (v := .ref (ad 11)) (C := RX9) (T := TX9) (N := 67) hx hb hts hiX9 hown hK hP 0 rfl rfl 11 (by decide) v_3 (fun _ h9 => h9) rfl dX9_holds_64 ?_
      refine lv_iload_n hx hb dX9_holds_67 rfl (lv_at hl 2 rfl) ?_
      refine va_iald hx hb hK hP 11 10 rfl rfl (vp_in_nI (n := a1) (Nat.lt_of_le_of_lt ha1 (Nat.le_of_ble_eq_true rfl)) (Nat.le_of_ble_eq_true rfl)) dX9_holds_68 ?_
      refine lv_topi (fun y_13 ey_13 => ?_)
      have ey_13 : y_13 = f11 a1 := ey_13.trans (congrArg f11 (nI_clamp (n := a1) (Nat.lt_of_le_of_lt ha1 (Nat.le_of_ble_eq_true rfl))))
      replace hsp := hsp.trans (slet_eq ey_13)
      refine lv_imul hx hb dX9_holds_69 ?_
      refine lv_topi (fun y_14 ey_14 => ?_)
      replace hsp := hsp.trans (slet_eq ey_14)
      refine lv_aload_n hx hb dX9_holds_70 rfl (lv_at hl 0 rfl) ?_
      refine va_get (D := (dC, dI)) (ci := 9) (v := .ref (ad 10)) (C := RX9) (T := TX9) (N := 67) hx hb hts hiX9 hown hK hP 0 rfl rfl 10 (by decide) v_2 (fun _ h9 => h9) rfl dX9_holds_71 ?_
      refine lv_iload_n hx hb dX9_holds_74 rfl (lv_at hl 2 rfl) ?_
      refine va_iald hx hb hK hP 10 9 rfl rfl (vp_in_nI (n := a1) (Nat.lt_of_le_of_lt ha1 (Nat.le_of_ble_eq_true rfl)) (Nat.le_of_ble_eq_true rfl)) dX9_holds_75 ?_
      refine lv_topi (fun y_15 ey_15 => ?_)
      obtain rfl : y_15 = nI u_5 := ey_15.trans qu_5
      refine lv_iconst (v := 4) hx hb dX9_holds_76 (by decide) ?_
      obtain ⟨JR_19, hJR_19, hsp⟩ := slet_ex hsp
      refine pu_join (fun H locs ls st => ∃ (g_17 : Nat), st = [.int (nI g_17), .int y_14, .int (nI (1 + u_2)), .int 0, .ref (ad 35)] ∧ g_17 ≤ 1 ∧ g_17 = JR_19 ∧ va_P (dC, dI) vwCl (mo_w ad ck x0 (nI x16) (nI x18) (nI x19) x20 (nI x21) (nI x22) x23 x24 x25 (nI x26) x27 (nI x28) (nI x29) (nI x30) (nI x33) x45 (nI x46) (nI x52) (nI x53) (nI x61) (nI x62) (nI x63) (nI x65) x66 f1 f2 f3 (bN 3 q4) (bN 7 q5) (bN 7 q6) (bN 4 q7) f8 (bN 2 q9) (bH q10) f11 (b2 m12_0 m12_1) (b2 m13_0 m13_1) (b2 m14_0 m14_1) (b2m m15_0 m15_1) f17 (bA 159 q31) f32 f34 g_6 f36 f37 (bN 7 q38) f39 f40 f41 (b2 m42_0 m42_1) f43 f44 f47 f48 f49 f50 f51 (bN 13 q54) (bN 120 q55) (bN 120 q56) f57 (bN 120 q58) f59 f60 f64) H ∧ va_D A (mo_w ad ck x0 (nI x16) (nI x18) (nI x19) x20 (nI x21) (nI x22) x23 x24 x25 (nI x26) x27 (nI x28) (nI x29) (nI x30) (nI x33) x45 (nI x46) (nI x52) (nI x53) (nI x61) (nI x62) (nI x63) (nI x65) x66 f1 f2 f3 (bN 3 q4) (bN 7 q5) (bN 7 q6) (bN 4 q7) f8 (bN 2 q9) (bH q10) f11 (b2 m12_0 m12_1) (b2 m13_0 m13_1) (b2 m14_0 m14_1) (b2m m15_0 m15_1) f17 (bA 159 q31) f32 f34 g_6 f36 f37 (bN 7 q38) f39 f40 f41 (b2 m42_0 m42_1) f43 f44 f47 f48 f49 f50 f51 (bN 13 q54) (bN 120 q55) (bN 120 q56) f57 (bN 120 q58) f59 f60 f64) ∧ va_S A s.heap H locs ∧ lv_has ls 4 [(0, .ref (ad 0)), (1, .ref (ad 35)), (2, .int (nI a1)), (3, .int (nI (1 + u_2)))]) 85 ?_ (fun j_18 => ?_)
      · rintro H locs ls st ⟨g_17, rfl, hg_17, he_20, hP, hD, hS, hl⟩
        rw [← he_20] at hsp
        refine lv_iadd hx hb dX9_holds_85 ?_
        refine lv_topi (fun y_21 ey_21 => ?_)
        replace hsp := hsp.trans (slet_eq ey_21)
        have hFc := pu_free hD hS hA
        refine va_callv (va_runS (As := [.ref (ad 35), .int 0, .int (nI (1 + u_2)), .int y_21]) (rest := []) ⟨hx, hb, hml, hown, hts⟩ (c_EM_tightens_z l dC dI _ ad ck x0 x16 x18 x19 x20 x21 x22 x23 x24 x25 x26 x27 x28 x29 x30 x33 x45 x46 x52 x53 x61 x62 x63 x65 x66 f1 f2 f3 q4 q5 q6 q7 f8 q9 q10 f11 m12_0 m12_1 m13_0 m13_1 m14_0 m14_1 m15_0 m15_1 f17 q31 f32 f34 g_6 f36 f37 q38 f39 f40 f41 m42_0 m42_1 f43 f44 f47 f48 f49 f50 f51 q54 q55 q56 f57 q58 f59 f60 f64 0 (1 + u_2) y_21 hx16 hx18 hx19 hx21 hx22 hx26 hx28 hx29 hx30 hx33 hx46 hx52 hx53 hx61 hx62 hx63 hx65 hm12_0 hm12_1 hm13_0 hm13_1 hm14_0 hm14_1 hm15_0 hm15_1 hm42_0 hm42_1 (Nat.le_of_ble_eq_true rfl) (by omega)) (va_cwS 4 hts g_EM_holds_EM_tightens_z rfl rfl rfl (by decide +kernel) ⟨Nat.le_of_ble_eq_true rfl, Nat.le_of_ble_eq_true rfl⟩) ⟨pu_bl, pu_in hP hK hD⟩ rfl rfl hl.1 rfl (lv_room (Nat.le_of_ble_eq_true rfl)) dX9_holds_86 ⟨Nat.le_of_ble_eq_true rfl, Nat.le_of_ble_eq_true rfl⟩) hS (fun q _ h => hFc q h) hFc (fun u t H1 locs ht hvm hw hB hz1 hk1 hS => ?_)
        obtain ⟨z35_23, ⟨hP1, -, hD1⟩, xr_22_0⟩ := hB
        rw [ht] at hP1
        have hP := hP1
        have hD := pu_all hFc hD1
        clear hP1 hD1 hFc
        clear hk1 hz1 ht hvm
        generalize H1 = H at hP hS ⊢
        replace hsp := hsp.trans (slet_eq xr_22_0)
        exact W.vret hx hb hr (fun t ht hW => ⟨⟨(), rfl, trivial, ⟨z35_23, ⟨by rw [ht]; exact hP, va_K.moved hW.alike hK, hD⟩, (hsp.symm.trans hRR)⟩⟩, hS.F ht⟩) hS.2.2 dX9_holds_89
      have hsp := hJR_19
      refine lv_icmp_ne (tgt := 84) hx hb dX9_holds_77 (by decide) (fun c_24 => ?_) (fun c_24 => ?_)
      · have c_24 : ¬ u_5 = 4 := fun z => c_24 ((nI_eq (a := u_5) (b := 4) (by omega) (Nat.le_of_ble_eq_true rfl)).mpr z)
        replace hsp := hsp.trans (if_neg c_24)
        refine lv_iconst (v := 1) hx hb dX9_holds_84 (by decide) ?_
        exact j_18 _ _ _ _ ⟨1, rfl, (Nat.le_of_ble_eq_true rfl), hsp.symm, hP, hD, hS, lv_sub hl [0, 1, 2, 3] rfl⟩
      · have c_24 : u_5 = 4 := (nI_eq (a := u_5) (b := 4) (by omega) (Nat.le_of_ble_eq_true rfl)).mp c_24
        replace hsp := hsp.trans (if_pos c_24)
        refine lv_iconst (v := 0) hx hb dX9_holds_80 (by decide) ?_
        refine lv_goto (tgt := 85) hx hb dX9_holds_81 (by decide) ?_
        exact j_18 _ _ _ _ ⟨0, rfl, (Nat.le_of_ble_eq_true rfl), hsp.symm, hP, hD, hS, lv_sub hl [0, 1, 2, 3] rfl⟩
  have hsp := hJR_8
  refine lv_icmp_gt (tgt := 48) hx hb dX9_holds_16 (by decide) (fun c_25 => ?_) (fun c_25 => ?_)
  · have c_25 : 2 < u_5 := (nI_ltI (a := 2) (b := u_5) (Nat.le_of_ble_eq_true rfl) (by omega)).mp c_25
    replace hsp := hsp.trans (if_pos c_25)
    exact j_7 _ _ _ _ ⟨f35, rfl, hsp.symm, hP, hD, hS, lv_sub hl [1, 2, 3, 0] rfl⟩
  · have c_25 : ¬ 2 < u_5 := fun z => c_25 ((nI_ltI (a := 2) (b := u_5) (Nat.le_of_ble_eq_true rfl) (by omega)).mpr z)
    replace hsp := hsp.trans (if_neg c_25)
    refine lv_aload_n hx hb dX9_holds_19 rfl (lv_at hl 2 rfl) ?_
    refine lv_iload_n hx hb dX9_holds_20 rfl (lv_at hl 0 rfl) ?_
    refine lv_iconst (v := 0) hx hb dX9_holds_21 (by decide) ?_
    refine lv_iconst (v := 2) hx hb dX9_holds_22 (by decide) ?_
    refine lv_aload_n hx hb dX9_holds_23 rfl (lv_at hl 1 rfl) ?_
    refine va_get (D := (dC, dI)) (ci := 9) (v := .ref (ad 11)) (C := RX9) (T := TX9) (N := 67) hx hb hts hiX9 hown hK hP 0 rfl rfl 11 (by decide) v_3 (fun _ h9 => h9) rfl dX9_holds_24 ?_
    refine lv_iload_n hx hb dX9_holds_27 rfl (lv_at hl 3 rfl) ?_
    refine va_iald hx hb hK hP 11 10 rfl rfl (vp_in_nI (n := a1) (Nat.lt_of_le_of_lt ha1 (Nat.le_of_ble_eq_true rfl)) (Nat.le_of_ble_eq_true rfl)) dX9_holds_28 ?_
    refine lv_topi (fun y_26 ey_26 => ?_)
    have ey_26 : y_26 = f11 a1 := ey_26.trans (congrArg f11 (nI_clamp (n := a1) (Nat.lt_of_le_of_lt ha1 (Nat.le_of_ble_eq_true rfl))))
    replace hsp := hsp.trans (slet_eq ey_26)
    refine lv_imul hx hb dX9_holds_29 ?_
    refine lv_topi (fun y_27 ey_27 => ?_)
    replace hsp := hsp.trans (slet_eq ey_27)
    refine lv_aload_n hx hb dX9_holds_30 rfl (lv_at hl 1 rfl) ?_
    refine va_get (D := (dC, dI)) (ci := 9) (v := .ref (ad 10)) (C := RX9) (T := TX9) (N := 67) hx hb hts hiX9 hown hK hP 0 rfl rfl 10 (by decide) v_2 (fun _ h9 => h9) rfl dX9_holds_31 ?_
    refine lv_iload_n hx hb dX9_holds_34 rfl (lv_at hl 3 rfl) ?_
    refine va_iald hx hb hK hP 10 9 rfl rfl (vp_in_nI (n := a1) (Nat.lt_of_le_of_lt ha1 (Nat.le_of_ble_eq_true rfl)) (Nat.le_of_ble_eq_true rfl)) dX9_holds_35 ?_
    refine lv_topi (fun y_28 ey_28 => ?_)
    obtain rfl : y_28 = nI u_5 := ey_28.trans qu_5
    obtain ⟨JR_32, hJR_32, hsp⟩ := slet_ex hsp
    refine pu_join (fun H locs ls st => ∃ (g_30 : Nat), st = [.int (nI g_30), .int y_27, .int 0, .int (nI (1 + u_2)), .ref (ad 35)] ∧ g_30 ≤ 1 ∧ g_30 = JR_32 ∧ va_P (dC, dI) vwCl (mo_w ad ck x0 (nI x16) (nI x18) (nI x19) x20 (nI x21) (nI x22) x23 x24 x25 (nI x26) x27 (nI x28) (nI x29) (nI x30) (nI x33) x45 (nI x46) (nI x52) (nI x53) (nI x61) (nI x62) (nI x63) (nI x65) x66 f1 f2 f3 (bN 3 q4) (bN 7 q5) (bN 7 q6) (bN 4 q7) f8 (bN 2 q9) (bH q10) f11 (b2 m12_0 m12_1) (b2 m13_0 m13_1) (b2 m14_0 m14_1) (b2m m15_0 m15_1) f17 (bA 159 q31) f32 f34 f35 f36 f37 (bN 7 q38) f39 f40 f41 (b2 m42_0 m42_1) f43 f44 f47 f48 f49 f50 f51 (bN 13 q54) (bN 120 q55) (bN 120 q56) f57 (bN 120 q58) f59 f60 f64) H ∧ va_D A (mo_w ad ck x0 (nI x16) (nI x18) (nI x19) x20 (nI x21) (nI x22) x23 x24 x25 (nI x26) x27 (nI x28) (nI x29) (nI x30) (nI x33) x45 (nI x46) (nI x52) (nI x53) (nI x61) (nI x62) (nI x63) (nI x65) x66 f1 f2 f3 (bN 3 q4) (bN 7 q5) (bN 7 q6) (bN 4 q7) f8 (bN 2 q9) (bH q10) f11 (b2 m12_0 m12_1) (b2 m13_0 m13_1) (b2 m14_0 m14_1) (b2m m15_0 m15_1) f17 (bA 159 q31) f32 f34 f35 f36 f37 (bN 7 q38) f39 f40 f41 (b2 m42_0 m42_1) f43 f44 f47 f48 f49 f50 f51 (bN 13 q54) (bN 120 q55) (bN 120 q56) f57 (bN 120 q58) f59 f60 f64) ∧ va_S A s.heap H locs ∧ lv_has ls 4 [(0, .ref (ad 0)), (1, .ref (ad 35)), (2, .int (nI a1)), (3, .int (nI (1 + u_2)))]) 44 ?_ (fun j_31 => ?_)
    · rintro H locs ls st ⟨g_30, rfl, hg_30, he_33, hP, hD, hS, hl⟩
      rw [← he_33] at hsp
      refine lv_iadd hx hb dX9_holds_44 ?_
      refine lv_topi (fun y_34 ey_34 => ?_)
      replace hsp := hsp.trans (slet_eq ey_34)
      have hFc := pu_free hD hS hA
      refine va_callv (va_runS (As := [.ref (ad 35), .int (nI (1 + u_2)), .int 0, .int y_34]) (rest := []) ⟨hx, hb, hml, hown, hts⟩ (c_EM_tightens_z l dC dI _ ad ck x0 x16 x18 x19 x20 x21 x22 x23 x24 x25 x26 x27 x28 x29 x30 x33 x45 x46 x52 x53 x61 x62 x63 x65 x66 f1 f2 f3 q4 q5 q6 q7 f8 q9 q10 f11 m12_0 m12_1 m13_0 m13_1 m14_0 m14_1 m15_0 m15_1 f17 q31 f32 f34 f35 f36 f37 q38 f39 f40 f41 m42_0 m42_1 f43 f44 f47 f48 f49 f50 f51 q54 q55 q56 f57 q58 f59 f60 f64 (1 + u_2) 0 y_34 hx16 hx18 hx19 hx21 hx22 hx26 hx28 hx29 hx30 hx33 hx46 hx52 hx53 hx61 hx62 hx63 hx65 hm12_0 hm12_1 hm13_0 hm13_1 hm14_0 hm14_1 hm15_0 hm15_1 hm42_0 hm42_1 (by omega) (Nat.le_of_ble_eq_true rfl)) (va_cwS 4 hts g_EM_holds_EM_tightens_z rfl rfl rfl (by decide +kernel) ⟨Nat.le_of_ble_eq_true rfl, Nat.le_of_ble_eq_true rfl⟩) ⟨pu_bl, pu_in hP hK hD⟩ rfl rfl hl.1 rfl (lv_room (Nat.le_of_ble_eq_true rfl)) dX9_holds_45 ⟨Nat.le_of_ble_eq_true rfl, Nat.le_of_ble_eq_true rfl⟩) hS (fun q _ h => hFc q h) hFc (fun u t H1 locs ht hvm hw hB hz1 hk1 hS => ?_)
      obtain ⟨z35_36, ⟨hP1, -, hD1⟩, xr_35_0⟩ := hB
      rw [ht] at hP1
      have hP := hP1
      have hD := pu_all hFc hD1
      clear hP1 hD1 hFc
      clear hk1 hz1 ht hvm
      generalize H1 = H at hP hS ⊢
      replace hsp := hsp.trans (slet_eq xr_35_0)
      exact j_7 _ _ _ _ ⟨z35_36, rfl, hsp.symm, hP, hD, hS, lv_sub hl [0, 1, 2, 3] rfl⟩
    have hsp := hJR_32
    refine lv_if_ne (tgt := 43) hx hb dX9_holds_36 (by decide) (fun c_37 => ?_) (fun c_37 => ?_)
    · have c_37 : ¬ u_5 = 0 := fun z => c_37 ((nI_eq (a := u_5) (b := 0) (by omega) (Nat.le_of_ble_eq_true rfl)).mpr z)
      replace hsp := hsp.trans (if_neg c_37)
      refine lv_iconst (v := 1) hx hb dX9_holds_43 (by decide) ?_
      exact j_31 _ _ _ _ ⟨1, rfl, (Nat.le_of_ble_eq_true rfl), hsp.symm, hP, hD, hS, lv_sub hl [1, 2, 3, 0] rfl⟩
    · have c_37 : u_5 = 0 := (nI_eq (a := u_5) (b := 0) (by omega) (Nat.le_of_ble_eq_true rfl)).mp c_37
      replace hsp := hsp.trans (if_pos c_37)
      refine lv_iconst (v := 0) hx hb dX9_holds_39 (by decide) ?_
      refine lv_goto (tgt := 44) hx hb dX9_holds_40 (by decide) ?_
      exact j_31 _ _ _ _ ⟨0, rfl, (Nat.le_of_ble_eq_true rfl), hsp.symm, hP, hD, hS, lv_sub hl [1, 2, 3, 0] rfl⟩
