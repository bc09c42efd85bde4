theorem dX9_layPath_0 : decode cX9_layPath 0 = .ok (.aload_n 0, 1) := by decide +kernel
theorem dX9_layPath_1 : decode cX9_layPath 1 = .ok (.aload_n 0, 1) := by decide +kernel
theorem dX9_layPath_2 : decode cX9_layPath 2 = .ok (.getfield 89, 3) := by decide +kernel
theorem dX9_layPath_5 : decode cX9_layPath 5 = .ok (.iload_n 1, 1) := by decide +kernel
theorem dX9_layPath_6 : decode cX9_layPath 6 = .ok (.iaload, 1) := by decide +kernel
theorem dX9_layPath_7 : decode cX9_layPath 7 = .ok (.putfield 429, 3) := by decide +kernel
theorem dX9_layPath_10 : decode cX9_layPath 10 = .ok (.iload_n 1, 1) := by decide +kernel
theorem dX9_layPath_11 : decode cX9_layPath 11 = .ok (.istore_n 2, 1) := by decide +kernel
theorem dX9_layPath_12 : decode cX9_layPath 12 = .ok (.aload_n 0, 1) := by decide +kernel
theorem dX9_layPath_13 : decode cX9_layPath 13 = .ok (.getfield 429, 3) := by decide +kernel
theorem dX9_layPath_16 : decode cX9_layPath 16 = .ok (.iconst 1, 1) := by decide +kernel
theorem dX9_layPath_17 : decode cX9_layPath 17 = .ok (.isub, 1) := by decide +kernel
theorem dX9_layPath_18 : decode cX9_layPath 18 = .ok (.istore_n 3, 1) := by decide +kernel
theorem dX9_layPath_19 : decode cX9_layPath 19 = .ok (.iload_n 3, 1) := by decide +kernel
theorem dX9_layPath_20 : decode cX9_layPath 20 = .ok (.ifCond .lt 28, 3) := by decide +kernel
theorem dX9_layPath_23 : decode cX9_layPath 23 = .ok (.aload_n 0, 1) := by decide +kernel
theorem dX9_layPath_24 : decode cX9_layPath 24 = .ok (.getfield 118, 3) := by decide +kernel
theorem dX9_layPath_27 : decode cX9_layPath 27 = .ok (.iload_n 3, 1) := by decide +kernel
theorem dX9_layPath_28 : decode cX9_layPath 28 = .ok (.aload_n 0, 1) := by decide +kernel
theorem dX9_layPath_29 : decode cX9_layPath 29 = .ok (.getfield 86, 3) := by decide +kernel
theorem dX9_layPath_32 : decode cX9_layPath 32 = .ok (.iload_n 2, 1) := by decide +kernel
theorem dX9_layPath_33 : decode cX9_layPath 33 = .ok (.iaload, 1) := by decide +kernel
theorem dX9_layPath_34 : decode cX9_layPath 34 = .ok (.iastore, 1) := by decide +kernel
theorem dX9_layPath_35 : decode cX9_layPath 35 = .ok (.aload_n 0, 1) := by decide +kernel
theorem dX9_layPath_36 : decode cX9_layPath 36 = .ok (.getfield 83, 3) := by decide +kernel
theorem dX9_layPath_39 : decode cX9_layPath 39 = .ok (.iload_n 2, 1) := by decide +kernel
theorem dX9_layPath_40 : decode cX9_layPath 40 = .ok (.iaload, 1) := by decide +kernel
theorem dX9_layPath_41 : decode cX9_layPath 41 = .ok (.istore_n 2, 1) := by decide +kernel
theorem dX9_layPath_42 : decode cX9_layPath 42 = .ok (.iinc 3 (-1), 3) := by decide +kernel
theorem dX9_layPath_45 : decode cX9_layPath 45 = .ok (.goto (-26), 3) := by decide +kernel
theorem dX9_layPath_48 : decode cX9_layPath 48 = .ok (.return_, 1) := by decide +kernel
abbrev vs_M_layPath : List Cond := .code yX9_layPath cX9_layPath 4 none :: VM
set_option maxHeartbeats 4000000 in
set_option maxRecDepth 100000 in
theorem c_M_layPath (l : Launch) (dC : Nat → ClassId) (dI : Nat → Nat → Nat) (sz : Nat) (ad : Nat → Nat) (ck : Nat → ClassId) (x0 : Int32) (x16 : Nat) (x18 : Nat) (x19 : Nat) (x20 : Int32) (x21 : Nat) (x22 : Nat) (x23 : Int32) (x24 : Int32) (x25 : Int32) (x26 : Nat) (x27 : Int32) (x28 : Nat) (x29 : Nat) (x30 : Nat) (x33 : Nat) (x45 : Int32) (x46 : Nat) (x52 : Nat) (x53 : Nat) (x61 : Nat) (x62 : Nat) (x63 : Nat) (x65 : Nat) (x66 : Int32) (f1 : Nat → Int32) (f2 : Nat → Int32) (f3 : Nat → Int32) (q4 : Nat → Nat) (q5 : Nat → Nat) (q6 : Nat → Nat) (q7 : Nat → Nat) (f8 : Nat → Int32) (q9 : Nat → Nat) (q10 : Nat → Nat) (f11 : Nat → Int32) (m12_0 m12_1 : Nat) (m13_0 m13_1 : Nat) (m14_0 m14_1 : Nat) (m15_0 m15_1 : Nat) (f17 : Nat → Int32) (q31 : Nat → Nat) (f32 : Nat → Int32) (f34 : Nat → Int32) (f35 : Nat → Int32) (f36 : Nat → Int32) (f37 : Nat → Int32) (q38 : Nat → Nat) (f39 : Nat → Int32) (f40 : Nat → Int32) (f41 : Nat → Int32) (m42_0 m42_1 : Nat) (f43 : Nat → Int32) (f44 : Nat → Int32) (f47 : Nat → Int32) (f48 : Nat → Int32) (f49 : Nat → Int32) (f50 : Nat → Int32) (f51 : Nat → Int32) (q54 : Nat → Nat) (q55 : Nat → Nat) (q56 : Nat → Nat) (f57 : Nat → Int32) (q58 : Nat → Nat) (f59 : Nat → Int32) (f60 : Nat → Int32) (f64 : Nat → Int32) (a0 : Nat) (hx16 : x16 ≤ 1) (hx18 : x18 ≤ 900) (hx19 : x19 ≤ 900) (hx21 : x21 ≤ 900) (hx22 : x22 ≤ 4) (hx26 : x26 ≤ 6) (hx28 : x28 ≤ 1) (hx29 : x29 ≤ 1) (hx30 : x30 ≤ 1) (hx33 : x33 ≤ 20) (hx46 : x46 ≤ 5) (hx52 : x52 ≤ 2400) (hx53 : x53 ≤ 119) (hx61 : x61 ≤ 119) (hx62 : x62 ≤ 2000) (hx63 : x63 ≤ 1) (hx65 : x65 ≤ 7) (hm12_0 : m12_0 ≤ 3) (hm12_1 : m12_1 ≤ 3) (hm13_0 : m13_0 ≤ 8) (hm13_1 : m13_1 ≤ 8) (hm14_0 : m14_0 ≤ 14) (hm14_1 : m14_1 ≤ 14) (hm15_0 : m15_0 ≤ 8) (hm15_1 : m15_1 ≤ 8) (hm42_0 : m42_0 ≤ 120) (hm42_1 : m42_1 ≤ 400) (ha0 : a0 ≤ 119) (hgr : gz_ok m42_0 f39 f40 f41) (hq0 : a0 < m42_0) : Met l yX9_layPath vs_M_layPath ({ frames := 0, cells := 0, slots := 0, locals := 0 }) (va_Pc [.ref (ad 0), .int (nI a0)] (pu_B (dC, dI) (mo_w ad ck x0 (nI x16) (nI x18) (nI x19) x20 (nI x21) (nI x22) x23 x24 x25 (nI x26) x27 (nI x28) (nI x29) (nI x30) (nI x33) x45 (nI x46) (nI x52) (nI x53) (nI x61) (nI x62) (nI x63) (nI x65) x66 f1 f2 f3 (bN 3 q4) (bN 7 q5) (bN 7 q6) (bN 4 q7) f8 (bN 2 q9) (bH q10) f11 (b2 m12_0 m12_1) (b2 m13_0 m13_1) (b2 m14_0 m14_1) (b2m m15_0 m15_1) f17 (bA 159 q31) f32 f34 f35 f36 f37 (bN 7 q38) f39 f40 f41 (b2 m42_0 m42_1) f43 f44 f47 f48 f49 f50 f51 (bN 13 q54) (bN 120 q55) (bN 120 q56) f57 (bN 120 q58) f59 f60 f64) (mo_t ck) sz)) (va_Qv (fun (_ : Unit) => True) (fun _ t => ∃ (z54 : Nat → Nat) (z61 : Nat), pu_E (dC, dI) (mo_w ad ck x0 (nI x16) (nI x18) (nI x19) x20 (nI x21) (nI x22) x23 x24 x25 (nI x26) x27 (nI x28) (nI x29) (nI x30) (nI x33) x45 (nI x46) (nI x52) (nI x53) (nI z61) (nI x62) (nI x63) (nI x65) x66 f1 f2 f3 (bN 3 q4) (bN 7 q5) (bN 7 q6) (bN 4 q7) f8 (bN 2 q9) (bH q10) f11 (b2 m12_0 m12_1) (b2 m13_0 m13_1) (b2 m14_0 m14_1) (b2m m15_0 m15_1) f17 (bA 159 q31) f32 f34 f35 f36 f37 (bN 7 q38) f39 f40 f41 (b2 m42_0 m42_1) f43 f44 f47 f48 f49 f50 f51 (bN 13 z54) (bN 120 q55) (bN 120 q56) f57 (bN 120 q58) f59 f60 f64) (mo_t ck) (va_A ((mo_w ad ck x0 (nI x16) (nI x18) (nI x19) x20 (nI x21) (nI x22) x23 x24 x25 (nI x26) x27 (nI x28) (nI x29) (nI x30) (nI x33) x45 (nI x46) (nI x52) (nI x53) (nI x61) (nI x62) (nI x63) (nI x65) x66 f1 f2 f3 (bN 3 q4) (bN 7 q5) (bN 7 q6) (bN 4 q7) f8 (bN 2 q9) (bH q10) f11 (b2 m12_0 m12_1) (b2 m13_0 m13_1) (b2 m14_0 m14_1) (b2m m15_0 m15_1) f17 (bA 159 q31) f32 f34 f35 f36 f37 (bN 7 q38) f39 f40 f41 (b2 m42_0 m42_1) f43 f44 f47 f48 f49 f50 f51 (bN 13 q54) (bN 120 q55) (bN 120 q56) f57 (bN 120 q58) f59 f60 f64)) sz) t ∧ (z61 ≤ 119)) (va_A ((mo_w ad ck x0 (nI x16) (nI x18) (nI x19) x20 (nI x21) (nI x22) x23 x24 x25 (nI x26) x27 (nI x28) (nI x29) (nI x30) (nI x33) x45 (nI x46) (nI x52) (nI x53) (nI x61) (nI x62) (nI x63) (nI x65) x66 f1 f2 f3 (bN 3 q4) (bN 7 q5) (bN 7 q6) (bN 4 q7) f8 (bN 2 q9) (bH q10) f11 (b2 m12_0 m12_1) (b2 m13_0 m13_1) (b2 m14_0 m14_1) (b2m m15_0 m15_1) f17 (bA 159 q31) f32 f34 f35 f36 f37 (bN 7 q38) f39 f40 f41 (b2 m42_0 m42_1) f43 f44 f47 f48 f49 f50 f51 (bN 13 q54) (bN 120 q55) (bN 120 q56) f57 (bN 120 q58) f59 f60 f64)) sz)) 0 0 (va_A ((mo_w ad ck x0 (nI x16) (nI x18) (nI x19) x20 (nI x21) (nI x22) x23 x24 x25 (nI x26) x27 (nI x28) (nI x29) (nI x30) (nI x33) x45 (nI x46) (nI x52) (nI x53) (nI x61) (nI x62) (nI x63) (nI x65) x66 f1 f2 f3 (bN 3 q4) (bN 7 q5) (bN 7 q6) (bN 4 q7) f8 (bN 2 q9) (bH q10) f11 (b2 m12_0 m12_1) (b2 m13_0 m13_1) (b2 m14_0 m14_1) (b2m m15_0 m15_1) f17 (bA 159 q31) f32 f34 f35 f36 f37 (bN 7 q38) f39 f40 f41 (b2 m42_0 m42_1) f43 f44 f47 f48 f49 f50 f51 (bN 13 q54) (bN 120 q55) (bN 120 q56) f57 (bN 120 q58) f59 f60 f64)) sz) := by
  refine Met.ofW (cc := cX9_layPath) (maxL := 4) (ret := none) (by decide) rfl ?_
  intro p e s m args below meth c s₁ B hml hv
  obtain ⟨rfl, rfl, hP, hK, hD0⟩ := hv
  have hx := B.exec
  have hb := B.bytes
  have hr := B.returns
  have hts := atoms_spec (ws := vs_M_layPath) B.pre
  have v_1 := hts (.fieldLink RX9 89 "ClockReachModel" "stateDeep" "[I") (List.mem_cons_of_mem _ vm_254)
  have v_2 := hts (.fieldLink RX9 429 "ClockReachModel" "pathMany" "I") (List.mem_cons_of_mem _ vm_326)
  have v_3 := hts (.fieldLink RX9 118 "ClockReachModel" "path" "[I") (List.mem_cons_of_mem _ vm_327)
  have v_4 := hts (.fieldLink RX9 86 "ClockReachModel" "stateBy" "[I") (List.mem_cons_of_mem _ vm_253)
  have v_5 := hts (.fieldLink RX9 83 "ClockReachModel" "stateFrom" "[I") (List.mem_cons_of_mem _ vm_252)
  have hown : s.vm.findClass RX9 = some m.cls := findClass_of_methodNamed B.named
  have hlocks := B.notSynchronized
  have hiX9 : ∀ w ∈ wsX90, w ∈ vs_M_layPath := fun _ h => List.mem_cons_of_mem _ (List.mem_append_right _ h)
  have hD := hD0.self (sz := s.heap.size)
  generalize hAe : va_A ((mo_w ad ck x0 (nI x16) (nI x18) (nI x19) x20 (nI x21) (nI x22) x23 x24 x25 (nI x26) x27 (nI x28) (nI x29) (nI x30) (nI x33) x45 (nI x46) (nI x52) (nI x53) (nI x61) (nI x62) (nI x63) (nI x65) x66 f1 f2 f3 (bN 3 q4) (bN 7 q5) (bN 7 q6) (bN 4 q7) f8 (bN 2 q9) (bH q10) f11 (b2 m12_0 m12_1) (b2 m13_0 m13_1) (b2 m14_0 m14_1) (b2m m15_0 m15_1) f17 (bA 159 q31) f32 f34 f35 f36 f37 (bN 7 q38) f39 f40 f41 (b2 m42_0 m42_1) f43 f44 f47 f48 f49 f50 f51 (bN 13 q54) (bN 120 q55) (bN 120 q56) f57 (bN 120 q58) f59 f60 f64)) s.heap.size = A at hD ⊢
  have hA : ∀ q : Nat, s.heap.size ≤ q → A q := fun q h => by rw [← hAe]; exact Or.inr h
  have hS : va_S A s.heap s.heap [] := va_S.rf
  have hl := lv_entry ([.ref (ad 0), .int (nI a0)]) (n := 4) (Nat.le_of_ble_eq_true rfl)
  rw [lg_entry_eq]
  generalize (lg_sl ([.ref (ad 0), .int (nI a0)]) ++ List.replicate (4 - (lg_sl ([.ref (ad 0), .int (nI a0)])).length) Slot.unset).toArray = ls at hl ⊢
  have hl : lv_has ls 4 [(0, .ref (ad 0)), (1, .int (nI a0))] := hl
  refine lv_aload_n hx hb dX9_layPath_0 rfl (lv_at hl 0 rfl) ?_
  refine lv_aload_n hx hb dX9_layPath_1 rfl (lv_at hl 0 rfl) ?_
  refine va_get (D := (dC, dI)) (ci := 9) (v := .ref (ad 41)) (C := RX9) (T := TX9) (N := 67) hx hb hts hiX9 hown hK hP 0 rfl rfl 41 (by decide) v_1 (fun _ h9 => h9) rfl dX9_layPath_2 ?_
  refine lv_iload_n hx hb dX9_layPath_5 rfl (lv_at hl 1 rfl) ?_
  obtain ⟨d_1, hd_1, fd_1, gd_1⟩ := gz_get hgr (i := a0) (by omega) (by omega)
  refine va_iald hx hb hK hP 26 25 rfl rfl (vp_in_nI (n := a0) (Nat.lt_of_le_of_lt ha0 (Nat.le_of_ble_eq_true rfl)) (Nat.le_of_ble_eq_true rfl)) dX9_layPath_6 ?_
  refine lv_topi (fun y_2 ey_2 => ?_)
  obtain rfl : y_2 = nI d_1 := ey_2.trans fd_1
  refine va_put (D := (dC, dI)) (ci := 9) (v := .int (nI d_1)) (ty := .int) (C := RX9) (T := TX9) (N := 67) hx hb hts hiX9 tyX9 tyX9_ok nmX9 hown hK hP hD hS 0 rfl rfl 61 (by decide) v_2 (fun _ h9 => h9) rfl (by decide +kernel) rfl rfl (Nat.le_of_ble_eq_true rfl) dX9_layPath_7 (fun H locs hP hD hS => ?_)
  have hP : va_P (dC, dI) vwCl (mo_w ad ck x0 (nI x16) (nI x18) (nI x19) x20 (nI x21) (nI x22) x23 x24 x25 (nI x26) x27 (nI x28) (nI x29) (nI x30) (nI x33) x45 (nI x46) (nI x52) (nI x53) (nI d_1) (nI x62) (nI x63) (nI x65) x66 f1 f2 f3 (bN 3 q4) (bN 7 q5) (bN 7 q6) (bN 4 q7) f8 (bN 2 q9) (bH q10) f11 (b2 m12_0 m12_1) (b2 m13_0 m13_1) (b2 m14_0 m14_1) (b2m m15_0 m15_1) f17 (bA 159 q31) f32 f34 f35 f36 f37 (bN 7 q38) f39 f40 f41 (b2 m42_0 m42_1) f43 f44 f47 f48 f49 f50 f51 (bN 13 q54) (bN 120 q55) (bN 120 q56) f57 (bN 120 q58) f59 f60 f64) H := hP
  have hD : va_D A (mo_w ad ck x0 (nI x16) (nI x18) (nI x19) x20 (nI x21) (nI x22) x23 x24 x25 (nI x26) x27 (nI x28) (nI x29) (nI x30) (nI x33) x45 (nI x46) (nI x52) (nI x53) (nI d_1) (nI x62) (nI x63) (nI x65) x66 f1 f2 f3 (bN 3 q4) (bN 7 q5) (bN 7 q6) (bN 4 q7) f8 (bN 2 q9) (bH q10) f11 (b2 m12_0 m12_1) (b2 m13_0 m13_1) (b2 m14_0 m14_1) (b2m m15_0 m15_1) f17 (bA 159 q31) f32 f34 f35 f36 f37 (bN 7 q38) f39 f40 f41 (b2 m42_0 m42_1) f43 f44 f47 f48 f49 f50 f51 (bN 13 q54) (bN 120 q55) (bN 120 q56) f57 (bN 120 q58) f59 f60 f64) := hD
  refine lv_iload_n hx hb dX9_layPath_10 rfl (lv_at hl 1 rfl) ?_
  refine lv_istore_n (lv' := [(2, .int (nI a0)), (0, .ref (ad 0)), (1, .int (nI a0))]) hx hb dX9_layPath_11 rfl hl (by decide) rfl (fun ls hl => ?_)
  refine lv_aload_n hx hb dX9_layPath_12 rfl (lv_at hl 1 rfl) ?_
  refine va_get (D := (dC, dI)) (ci := 9) (v := .int (nI d_1)) (C := RX9) (T := TX9) (N := 67) hx hb hts hiX9 hown hK hP 0 rfl rfl 61 (by decide) v_2 (fun _ h9 => h9) rfl dX9_layPath_13 ?_
  refine lv_iconst (v := 1) hx hb dX9_layPath_16 (by decide) ?_
  refine lv_isub hx hb dX9_layPath_17 ?_
  refine lv_istore_n (lv' := [(3, .int ((nI d_1) - 1)), (2, .int (nI a0)), (0, .ref (ad 0)), (1, .int (nI a0))]) hx hb dX9_layPath_18 rfl hl (by decide) rfl (fun ls hl => ?_)
  refine pu_while (fun nn H locs ls => ∃ (kk_4 ss_5 : Nat) (q_6 : Nat → Nat), nn = kk_4 + 0 ∧ ss_5 < m42_0 ∧ kk_4 ≤ 119 ∧ f41 ss_5 = nI kk_4 ∧ va_P (dC, dI) vwCl (mo_w ad ck x0 (nI x16) (nI x18) (nI x19) x20 (nI x21) (nI x22) x23 x24 x25 (nI x26) x27 (nI x28) (nI x29) (nI x30) (nI x33) x45 (nI x46) (nI x52) (nI x53) (nI d_1) (nI x62) (nI x63) (nI x65) x66 f1 f2 f3 (bN 3 q4) (bN 7 q5) (bN 7 q6) (bN 4 q7) f8 (bN 2 q9) (bH q10) f11 (b2 m12_0 m12_1) (b2 m13_0 m13_1) (b2 m14_0 m14_1) (b2m m15_0 m15_1) f17 (bA 159 q31) f32 f34 f35 f36 f37 (bN 7 q38) f39 f40 f41 (b2 m42_0 m42_1) f43 f44 f47 f48 f49 f50 f51 (bN 13 q_6) (bN 120 q55) (bN 120 q56) f57 (bN 120 q58) f59 f60 f64) H ∧ va_D A (mo_w ad ck x0 (nI x16) (nI x18) (nI x19) x20 (nI x21) (nI x22) x23 x24 x25 (nI x26) x27 (nI x28) (nI x29) (nI x30) (nI x33) x45 (nI x46) (nI x52) (nI x53) (nI d_1) (nI x62) (nI x63) (nI x65) x66 f1 f2 f3 (bN 3 q4) (bN 7 q5) (bN 7 q6) (bN 4 q7) f8 (bN 2 q9) (bH q10) f11 (b2 m12_0 m12_1) (b2 m13_0 m13_1) (b2 m14_0 m14_1) (b2m m15_0 m15_1) f17 (bA 159 q31) f32 f34 f35 f36 f37 (bN 7 q38) f39 f40 f41 (b2 m42_0 m42_1) f43 f44 f47 f48 f49 f50 f51 (bN 13 q_6) (bN 120 q55) (bN 120 q56) f57 (bN 120 q58) f59 f60 f64) ∧ va_S A s.heap H locs ∧ lv_has ls 4 [(0, .ref (ad 0)), (2, .int (nI ss_5)), (3, .int (nI kk_4 - 1))]) 19 ?_ _ _ _ _ ⟨d_1, a0, q54, rfl, by omega, by omega, by assumption, hP, hD, hS, lv_sub hl [2, 1, 0] rfl⟩
  rintro nn ih_7 H locs ls ⟨kk_4, ss_5, q_6, hnn, hss_5, hkk_4, fkk_4, hP, hD, hS, hl⟩
  rcases kk_4 with _ | kk_4
  · rw [pu_k0] at hl
    refine lv_iload_n hx hb dX9_layPath_19 rfl (lv_at hl 2 rfl) ?_
    refine lv_if_lt (tgt := 48) hx hb dX9_layPath_20 (by decide) (fun _ => ?_) (fun z => absurd z (by decide))
    exact W.vret hx hb hr (fun t ht hW => ⟨⟨(), rfl, trivial, ⟨q_6, d_1, ⟨by rw [ht]; exact hP, va_K.moved hW.alike hK, hD⟩, (by omega)⟩⟩, hS.F ht⟩) hS.2.2 dX9_layPath_48
  · rw [nI_pred] at hl
    obtain ⟨pp_8, ee_9, hpp_8, hee_9, xpp_8, ypp_8, zpp_8⟩ := gz_up hgr hss_5 (by omega) fkk_4 (by omega)
    refine lv_iload_n hx hb dX9_layPath_19 rfl (lv_at hl 2 rfl) ?_
    refine lv_if_lt (tgt := 48) hx hb dX9_layPath_20 (by decide) (fun c_10 => ?_) (fun c_10 => ?_)
    · have c_10 : kk_4 < 0 := (nI_ltI (a := kk_4) (b := 0) (by omega) (Nat.le_of_ble_eq_true rfl)).mp c_10
      exfalso
      omega
    · have c_10 : ¬ kk_4 < 0 := fun z => c_10 ((nI_ltI (a := kk_4) (b := 0) (by omega) (Nat.le_of_ble_eq_true rfl)).mpr z)
      refine lv_aload_n hx hb dX9_layPath_23 rfl (lv_at hl 0 rfl) ?_
      refine va_get (D := (dC, dI)) (ci := 9) (v := .ref (ad 54)) (C := RX9) (T := TX9) (N := 67) hx hb hts hiX9 hown hK hP 0 rfl rfl 54 (by decide) v_3 (fun _ h9 => h9) rfl dX9_layPath_24 ?_
      refine lv_iload_n hx hb dX9_layPath_27 rfl (lv_at hl 2 rfl) ?_
      refine lv_aload_n hx hb dX9_layPath_28 rfl (lv_at hl 0 rfl) ?_
      refine va_get (D := (dC, dI)) (ci := 9) (v := .ref (ad 40)) (C := RX9) (T := TX9) (N := 67) hx hb hts hiX9 hown hK hP 0 rfl rfl 40 (by decide) v_4 (fun _ h9 => h9) rfl dX9_layPath_29 ?_
      refine lv_iload_n hx hb dX9_layPath_32 rfl (lv_at hl 1 rfl) ?_
      refine va_iald hx hb hK hP 25 24 rfl rfl (vp_in_nI (n := ss_5) (by omega) (Nat.le_of_ble_eq_true rfl)) dX9_layPath_33 ?_
      refine lv_topi (fun y_11 ey_11 => ?_)
      obtain rfl : y_11 = nI ee_9 := ey_11.trans ypp_8
      refine va_iast hx hb hK hP hD hS 35 34 rfl rfl (vp_in_nI (n := kk_4) (by omega) (Nat.le_of_ble_eq_true rfl)) dX9_layPath_34 (fun H locs hP hD hS => ?_)
      obtain ⟨q_12, eq_12, kq_12⟩ := bN_up 13 q_6 (((nI kk_4) : Int32).toNatClampNeg) (v := ee_9) (by omega)
      have hP : va_P (dC, dI) vwCl (mo_w ad ck x0 (nI x16) (nI x18) (nI x19) x20 (nI x21) (nI x22) x23 x24 x25 (nI x26) x27 (nI x28) (nI x29) (nI x30) (nI x33) x45 (nI x46) (nI x52) (nI x53) (nI d_1) (nI x62) (nI x63) (nI x65) x66 f1 f2 f3 (bN 3 q4) (bN 7 q5) (bN 7 q6) (bN 4 q7) f8 (bN 2 q9) (bH q10) f11 (b2 m12_0 m12_1) (b2 m13_0 m13_1) (b2 m14_0 m14_1) (b2m m15_0 m15_1) f17 (bA 159 q31) f32 f34 f35 f36 f37 (bN 7 q38) f39 f40 f41 (b2 m42_0 m42_1) f43 f44 f47 f48 f49 f50 f51 (bN 13 q_12) (bN 120 q55) (bN 120 q56) f57 (bN 120 q58) f59 f60 f64) H := by rw [← eq_12]; exact hP
      have hD : va_D A (mo_w ad ck x0 (nI x16) (nI x18) (nI x19) x20 (nI x21) (nI x22) x23 x24 x25 (nI x26) x27 (nI x28) (nI x29) (nI x30) (nI x33) x45 (nI x46) (nI x52) (nI x53) (nI d_1) (nI x62) (nI x63) (nI x65) x66 f1 f2 f3 (bN 3 q4) (bN 7 q5) (bN 7 q6) (bN 4 q7) f8 (bN 2 q9) (bH q10) f11 (b2 m12_0 m12_1) (b2 m13_0 m13_1) (b2 m14_0 m14_1) (b2m m15_0 m15_1) f17 (bA 159 q31) f32 f34 f35 f36 f37 (bN 7 q38) f39 f40 f41 (b2 m42_0 m42_1) f43 f44 f47 f48 f49 f50 f51 (bN 13 q_12) (bN 120 q55) (bN 120 q56) f57 (bN 120 q58) f59 f60 f64) := by rw [← eq_12]; exact hD
      refine lv_aload_n hx hb dX9_layPath_35 rfl (lv_at hl 0 rfl) ?_
      refine va_get (D := (dC, dI)) (ci := 9) (v := .ref (ad 39)) (C := RX9) (T := TX9) (N := 67) hx hb hts hiX9 hown hK hP 0 rfl rfl 39 (by decide) v_5 (fun _ h9 => h9) rfl dX9_layPath_36 ?_
      refine lv_iload_n hx hb dX9_layPath_39 rfl (lv_at hl 1 rfl) ?_
      refine va_iald hx hb hK hP 24 23 rfl rfl (vp_in_nI (n := ss_5) (by omega) (Nat.le_of_ble_eq_true rfl)) dX9_layPath_40 ?_
      refine lv_topi (fun y_13 ey_13 => ?_)
      obtain rfl : y_13 = nI pp_8 := ey_13.trans xpp_8
      refine lv_istore_n (lv' := [(2, .int (nI pp_8)), (0, .ref (ad 0)), (3, .int (nI kk_4))]) hx hb dX9_layPath_41 rfl hl (by decide) rfl (fun ls hl => ?_)
      refine lv_iinc (v := (nI kk_4 - 1)) (lv' := [(3, .int (nI kk_4 - 1)), (2, .int (nI pp_8)), (0, .ref (ad 0))]) hx hb dX9_layPath_42 hl (k := 2) rfl (pu_decm _) (by decide) rfl (fun ls hl => ?_)
      refine lv_goto (tgt := 19) hx hb dX9_layPath_45 (by decide) ?_
      exact ih_7 kk_4 (by omega) _ _ _ ⟨kk_4, pp_8, q_12, rfl, by omega, by omega, by assumption, hP, hD, hS, lv_sub hl [2, 1, 0] rfl⟩
theorem dX9_holdsApart_0 : decode cX9_holdsApart 0 = .ok (.aload_n 0, 1) := by decide +kernel
theorem dX9_holdsApart_1 : decode cX9_holdsApart 1 = .ok (.getfield 121, 3) := by decide +kernel
theorem dX9_holdsApart_4 : decode cX9_holdsApart 4 = .ok (.aload_n 0, 1) := by decide +kernel
theorem dX9_holdsApart_5 : decode cX9_holdsApart 5 = .ok (.getfield 432, 3) := by decide +kernel
theorem dX9_holdsApart_8 : decode cX9_holdsApart 8 = .ok (.iload_n 1, 1) := by decide +kernel
theorem dX9_holdsApart_9 : decode cX9_holdsApart 9 = .ok (.iastore, 1) := by decide +kernel
theorem dX9_holdsApart_10 : decode cX9_holdsApart 10 = .ok (.aload_n 0, 1) := by decide +kernel
theorem dX9_holdsApart_11 : decode cX9_holdsApart 11 = .ok (.getfield 124, 3) := by decide +kernel
theorem dX9_holdsApart_14 : decode cX9_holdsApart 14 = .ok (.aload_n 0, 1) := by decide +kernel
theorem dX9_holdsApart_15 : decode cX9_holdsApart 15 = .ok (.getfield 432, 3) := by decide +kernel
theorem dX9_holdsApart_18 : decode cX9_holdsApart 18 = .ok (.iload_n 2, 1) := by decide +kernel
theorem dX9_holdsApart_19 : decode cX9_holdsApart 19 = .ok (.iastore, 1) := by decide +kernel
theorem dX9_holdsApart_20 : decode cX9_holdsApart 20 = .ok (.aload_n 0, 1) := by decide +kernel
theorem dX9_holdsApart_21 : decode cX9_holdsApart 21 = .ok (.getfield 127, 3) := by decide +kernel
theorem dX9_holdsApart_24 : decode cX9_holdsApart 24 = .ok (.aload_n 0, 1) := by decide +kernel
theorem dX9_holdsApart_25 : decode cX9_holdsApart 25 = .ok (.getfield 432, 3) := by decide +kernel
theorem dX9_holdsApart_28 : decode cX9_holdsApart 28 = .ok (.iload_n 3, 1) := by decide +kernel
theorem dX9_holdsApart_29 : decode cX9_holdsApart 29 = .ok (.iastore, 1) := by decide +kernel
theorem dX9_holdsApart_30 : decode cX9_holdsApart 30 = .ok (.aload_n 0, 1) := by decide +kernel
theorem dX9_holdsApart_31 : decode cX9_holdsApart 31 = .ok (.dup, 1) := by decide +kernel
theorem dX9_holdsApart_32 : decode cX9_holdsApart 32 = .ok (.getfield 432, 3) := by decide +kernel
theorem dX9_holdsApart_35 : decode cX9_holdsApart 35 = .ok (.iconst 1, 1) := by decide +kernel
theorem dX9_holdsApart_36 : decode cX9_holdsApart 36 = .ok (.iadd, 1) := by decide +kernel
theorem dX9_holdsApart_37 : decode cX9_holdsApart 37 = .ok (.putfield 432, 3) := by decide +kernel
theorem dX9_holdsApart_40 : decode cX9_holdsApart 40 = .ok (.return_, 1) := by decide +kernel
abbrev vs_M_holdsApart : List Cond := .code yX9_holdsApart cX9_holdsApart 4 none :: VM
set_option maxHeartbeats 4000000 in
set_option maxRecDepth 100000 in
theorem c_M_holdsApart (l : Launch) (dC : Nat → ClassId) (dI : Nat → Nat → Nat) (sz : Nat) (ad : Nat → Nat) (ck : Nat → ClassId) (x0 : Int32) (x16 : Nat) (x18 : Nat) (x19 : Nat) (x20 : Int32) (x21 : Nat) (x22 : Nat) (x23 : Int32) (x24 : Int32) (x25 : Int32) (x26 : Nat) (x27 : Int32) (x28 : Nat) (x29 : Nat) (x30 : Nat) (x33 : Nat) (x45 : Int32) (x46 : Nat) (x52 : Nat) (x53 : Nat) (x61 : Nat) (x62 : Nat) (x63 : Nat) (x65 : Nat) (x66 : Int32) (f1 : Nat → Int32) (f2 : Nat → Int32) (f3 : Nat → Int32) (q4 : Nat → Nat) (q5 : Nat → Nat) (q6 : Nat → Nat) (q7 : Nat → Nat) (f8 : Nat → Int32) (q9 : Nat → Nat) (q10 : Nat → Nat) (f11 : Nat → Int32) (m12_0 m12_1 : Nat) (m13_0 m13_1 : Nat) (m14_0 m14_1 : Nat) (m15_0 m15_1 : Nat) (f17 : Nat → Int32) (q31 : Nat → Nat) (f32 : Nat → Int32) (f34 : Nat → Int32) (f35 : Nat → Int32) (f36 : Nat → Int32) (f37 : Nat → Int32) (q38 : Nat → Nat) (f39 : Nat → Int32) (f40 : Nat → Int32) (f41 : Nat → Int32) (m42_0 m42_1 : Nat) (f43 : Nat → Int32) (f44 : Nat → Int32) (f47 : Nat → Int32) (f48 : Nat → Int32) (f49 : Nat → Int32) (f50 : Nat → Int32) (f51 : Nat → Int32) (q54 : Nat → Nat) (q55 : Nat → Nat) (q56 : Nat → Nat) (f57 : Nat → Int32) (q58 : Nat → Nat) (f59 : Nat → Int32) (f60 : Nat → Int32) (f64 : Nat → Int32) (a0 : Nat) (a1 : Nat) (p2 : Int32) (hx16 : x16 ≤ 1) (hx18 : x18 ≤ 900) (hx19 : x19 ≤ 900) (hx21 : x21 ≤ 900) (hx22 : x22 ≤ 4) (hx26 : x26 ≤ 6) (hx28 : x28 ≤ 1) (hx29 : x29 ≤ 1) (hx30 : x30 ≤ 1) (hx33 : x33 ≤ 20) (hx46 : x46 ≤ 5) (hx52 : x52 ≤ 2400) (hx53 : x53 ≤ 119) (hx61 : x61 ≤ 119) (hx62 : x62 ≤ 1999) (hx63 : x63 ≤ 1) (hx65 : x65 ≤ 7) (hm12_0 : m12_0 ≤ 3) (hm12_1 : m12_1 ≤ 3) (hm13_0 : m13_0 ≤ 8) (hm13_1 : m13_1 ≤ 8) (hm14_0 : m14_0 ≤ 14) (hm14_1 : m14_1 ≤ 14) (hm15_0 : m15_0 ≤ 8) (hm15_1 : m15_1 ≤ 8) (hm42_0 : m42_0 ≤ 120) (hm42_1 : m42_1 ≤ 400) (ha0 : a0 ≤ 120) (ha1 : a1 ≤ 120) : Met l yX9_holdsApart vs_M_holdsApart ({ frames := 0, cells := 0, slots := 0, locals := 0 }) (va_Pc [.ref (ad 0), .int (nI a0), .int (nI a1), .int p2] (pu_B (dC, dI) (mo_w ad ck x0 (nI x16) (nI x18) (nI x19) x20 (nI x21) (nI x22) x23 x24 x25 (nI x26) x27 (nI x28) (nI x29) (nI x30) (nI x33) x45 (nI x46) (nI x52) (nI x53) (nI x61) (nI x62) (nI x63) (nI x65) x66 f1 f2 f3 (bN 3 q4) (bN 7 q5) (bN 7 q6) (bN 4 q7) f8 (bN 2 q9) (bH q10) f11 (b2 m12_0 m12_1) (b2 m13_0 m13_1) (b2 m14_0 m14_1) (b2m m15_0 m15_1) f17 (bA 159 q31) f32 f34 f35 f36 f37 (bN 7 q38) f39 f40 f41 (b2 m42_0 m42_1) f43 f44 f47 f48 f49 f50 f51 (bN 13 q54) (bN 120 q55) (bN 120 q56) f57 (bN 120 q58) f59 f60 f64) (mo_t ck) sz)) (va_Qv (fun (_ : Unit) => True) (fun _ t => ∃ (z55 : Nat → Nat) (z56 : Nat → Nat) (z57 : Nat → Int32), pu_E (dC, dI) (mo_w ad ck x0 (nI x16) (nI x18) (nI x19) x20 (nI x21) (nI x22) x23 x24 x25 (nI x26) x27 (nI x28) (nI x29) (nI x30) (nI x33) x45 (nI x46) (nI x52) (nI x53) (nI x61) (nI (x62 + 1)) (nI x63) (nI x65) x66 f1 f2 f3 (bN 3 q4) (bN 7 q5) (bN 7 q6) (bN 4 q7) f8 (bN 2 q9) (bH q10) f11 (b2 m12_0 m12_1) (b2 m13_0 m13_1) (b2 m14_0 m14_1) (b2m m15_0 m15_1) f17 (bA 159 q31) f32 f34 f35 f36 f37 (bN 7 q38) f39 f40 f41 (b2 m42_0 m42_1) f43 f44 f47 f48 f49 f50 f51 (bN 13 q54) (bN 120 z55) (bN 120 z56) z57 (bN 120 q58) f59 f60 f64) (mo_t ck) (va_A ((mo_w ad ck x0 (nI x16) (nI x18) (nI x19) x20 (nI x21) (nI x22) x23 x24 x25 (nI x26) x27 (nI x28) (nI x29) (nI x30) (nI x33) x45 (nI x46) (nI x52) (nI x53) (nI x61) (nI x62) (nI x63) (nI x65) x66 f1 f2 f3 (bN 3 q4) (bN 7 q5) (bN 7 q6) (bN 4 q7) f8 (bN 2 q9) (bH q10) f11 (b2 m12_0 m12_1) (b2 m13_0 m13_1) (b2 m14_0 m14_1) (b2m m15_0 m15_1) f17 (bA 159 q31) f32 f34 f35 f36 f37 (bN 7 q38) f39 f40 f41 (b2 m42_0 m42_1) f43 f44 f47 f48 f49 f50 f51 (bN 13 q54) (bN 120 q55) (bN 120 q56) f57 (bN 120 q58) f59 f60 f64)) sz) t) (va_A ((mo_w ad ck x0 (nI x16) (nI x18) (nI x19) x20 (nI x21) (nI x22) x23 x24 x25 (nI x26) x27 (nI x28) (nI x29) (nI x30) (nI x33) x45 (nI x46) (nI x52) (nI x53) (nI x61) (nI x62) (nI x63) (nI x65) x66 f1 f2 f3 (bN 3 q4) (bN 7 q5) (bN 7 q6) (bN 4 q7) f8 (bN 2 q9) (bH q10) f11 (b2 m12_0 m12_1) (b2 m13_0 m13_1) (b2 m14_0 m14_1) (b2m m15_0 m15_1) f17 (bA 159 q31) f32 f34 f35 f36 f37 (bN 7 q38) f39 f40 f41 (b2 m42_0 m42_1) f43 f44 f47 f48 f49 f50 f51 (bN 13 q54) (bN 120 q55) (bN 120 q56) f57 (bN 120 q58) f59 f60 f64)) sz)) 0 0 (va_A ((mo_w ad ck x0 (nI x16) (nI x18) (nI x19) x20 (nI x21) (nI x22) x23 x24 x25 (nI x26) x27 (nI x28) (nI x29) (nI x30) (nI x33) x45 (nI x46) (nI x52) (nI x53) (nI x61) (nI x62) (nI x63) (nI x65) x66 f1 f2 f3 (bN 3 q4) (bN 7 q5) (bN 7 q6) (bN 4 q7) f8 (bN 2 q9) (bH q10) f11 (b2 m12_0 m12_1) (b2 m13_0 m13_1) (b2 m14_0 m14_1) (b2m m15_0 m15_1) f17 (bA 159 q31) f32 f34 f35 f36 f37 (bN 7 q38) f39 f40 f41 (b2 m42_0 m42_1) f43 f44 f47 f48 f49 f50 f51 (bN 13 q54) (bN 120 q55) (bN 120 q56) f57 (bN 120 q58) f59 f60 f64)) sz) := by
  refine Met.ofW (cc := cX9_holdsApart) (maxL := 4) (ret := none) (by decide) rfl ?_
  intro p e s m args below meth c s₁ B hml hv
  obtain ⟨rfl, rfl, hP, hK, hD0⟩ := hv
  have hx := B.exec
  have hb := B.bytes
  have hr := B.returns
  have hts := atoms_spec (ws := vs_M_holdsApart) B.pre
  have v_1 := hts (.fieldLink RX9 121 "ClockReachModel" "later" "[I") (List.mem_cons_of_mem _ vm_329)
  have v_2 := hts (.fieldLink RX9 432 "ClockReachModel" "gaps" "I") (List.mem_cons_of_mem _ vm_330)
  have v_3 := hts (.fieldLink RX9 124 "ClockReachModel" "sooner" "[I") (List.mem_cons_of_mem _ vm_331)
  have v_4 := hts (.fieldLink RX9 127 "ClockReachModel" "gap" "[I") (List.mem_cons_of_mem _ vm_332)
  have hown : s.vm.findClass RX9 = some m.cls := findClass_of_methodNamed B.named
  have hlocks := B.notSynchronized
  have hiX9 : ∀ w ∈ wsX90, w ∈ vs_M_holdsApart := fun _ h => List.mem_cons_of_mem _ (List.mem_append_right _ h)
  have hD := hD0.self (sz := s.heap.size)
  generalize hAe : va_A ((mo_w ad ck x0 (nI x16) (nI x18) (nI x19) x20 (nI x21) (nI x22) x23 x24 x25 (nI x26) x27 (nI x28) (nI x29) (nI x30) (nI x33) x45 (nI x46) (nI x52) (nI x53) (nI x61) (nI x62) (nI x63) (nI x65) x66 f1 f2 f3 (bN 3 q4) (bN 7 q5) (bN 7 q6) (bN 4 q7) f8 (bN 2 q9) (bH q10) f11 (b2 m12_0 m12_1) (b2 m13_0 m13_1) (b2 m14_0 m14_1) (b2m m15_0 m15_1) f17 (bA 159 q31) f32 f34 f35 f36 f37 (bN 7 q38) f39 f40 f41 (b2 m42_0 m42_1) f43 f44 f47 f48 f49 f50 f51 (bN 13 q54) (bN 120 q55) (bN 120 q56) f57 (bN 120 q58) f59 f60 f64)) s.heap.size = A at hD ⊢
  have hA : ∀ q : Nat, s.heap.size ≤ q → A q := fun q h => by rw [← hAe]; exact Or.inr h
  have hS : va_S A s.heap s.heap [] := va_S.rf
  have hl := lv_entry ([.ref (ad 0), .int (nI a0), .int (nI a1), .int p2]) (n := 4) (Nat.le_of_ble_eq_true rfl)
  rw [lg_entry_eq]
  generalize (lg_sl ([.ref (ad 0), .int (nI a0), .int (nI a1), .int p2]) ++ List.replicate (4 - (lg_sl ([.ref (ad 0), .int (nI a0), .int (nI a1), .int p2])).length) Slot.unset).toArray = ls at hl ⊢
  have hl : lv_has ls 4 [(0, .ref (ad 0)), (1, .int (nI a0)), (2, .int (nI a1)), (3, .int p2)] := hl
  refine lv_aload_n hx hb dX9_holdsApart_0 rfl (lv_at hl 0 rfl) ?_
  refine va_get (D := (dC, dI)) (ci := 9) (v := .ref (ad 55)) (C := RX9) (T := TX9) (N := 67) hx hb hts hiX9 hown hK hP 0 rfl rfl 55 (by decide) v_1 (fun _ h9 => h9) rfl dX9_holdsApart_1 ?_
  refine lv_aload_n hx hb dX9_holdsApart_4 rfl (lv_at hl 0 rfl) ?_
  refine va_get (D := (dC, dI)) (ci := 9) (v := .int (nI x62)) (C := RX9) (T := TX9) (N := 67) hx hb hts hiX9 hown hK hP 0 rfl rfl 62 (by decide) v_2 (fun _ h9 => h9) rfl dX9_holdsApart_5 ?_
  refine lv_iload_n hx hb dX9_holdsApart_8 rfl (lv_at hl 1 rfl) ?_
  refine va_iast hx hb hK hP hD hS 36 35 rfl rfl (vp_in_nI (n := x62) (Nat.lt_of_le_of_lt hx62 (Nat.le_of_ble_eq_true rfl)) (Nat.le_of_ble_eq_true rfl)) dX9_holdsApart_9 (fun H locs hP hD hS => ?_)
  obtain ⟨q_1, eq_1, kq_1⟩ := bN_up 120 q55 (((nI x62) : Int32).toNatClampNeg) (v := a0) ha0
  have hP : va_P (dC, dI) vwCl (mo_w ad ck x0 (nI x16) (nI x18) (nI x19) x20 (nI x21) (nI x22) x23 x24 x25 (nI x26) x27 (nI x28) (nI x29) (nI x30) (nI x33) x45 (nI x46) (nI x52) (nI x53) (nI x61) (nI x62) (nI x63) (nI x65) x66 f1 f2 f3 (bN 3 q4) (bN 7 q5) (bN 7 q6) (bN 4 q7) f8 (bN 2 q9) (bH q10) f11 (b2 m12_0 m12_1) (b2 m13_0 m13_1) (b2 m14_0 m14_1) (b2m m15_0 m15_1) f17 (bA 159 q31) f32 f34 f35 f36 f37 (bN 7 q38) f39 f40 f41 (b2 m42_0 m42_1) f43 f44 f47 f48 f49 f50 f51 (bN 13 q54) (bN 120 q_1) (bN 120 q56) f57 (bN 120 q58) f59 f60 f64) H := by rw [← eq_1]; exact hP
  have hD : va_D A (mo_w ad ck x0 (nI x16) (nI x18) (nI x19) x20 (nI x21) (nI x22) x23 x24 x25 (nI x26) x27 (nI x28) (nI x29) (nI x30) (nI x33) x45 (nI x46) (nI x52) (nI x53) (nI x61) (nI x62) (nI x63) (nI x65) x66 f1 f2 f3 (bN 3 q4) (bN 7 q5) (bN 7 q6) (bN 4 q7) f8 (bN 2 q9) (bH q10) f11 (b2 m12_0 m12_1) (b2 m13_0 m13_1) (b2 m14_0 m14_1) (b2m m15_0 m15_1) f17 (bA 159 q31) f32 f34 f35 f36 f37 (bN 7 q38) f39 f40 f41 (b2 m42_0 m42_1) f43 f44 f47 f48 f49 f50 f51 (bN 13 q54) (bN 120 q_1) (bN 120 q56) f57 (bN 120 q58) f59 f60 f64) := by rw [← eq_1]; exact hD
  refine lv_aload_n hx hb dX9_holdsApart_10 rfl (lv_at hl 0 rfl) ?_
  refine va_get (D := (dC, dI)) (ci := 9) (v := .ref (ad 56)) (C := RX9) (T := TX9) (N := 67) hx hb hts hiX9 hown hK hP 0 rfl rfl 56 (by decide) v_3 (fun _ h9 => h9) rfl dX9_holdsApart_11 ?_
  refine lv_aload_n hx hb dX9_holdsApart_14 rfl (lv_at hl 0 rfl) ?_
  refine va_get (D := (dC, dI)) (ci := 9) (v := .int (nI x62)) (C := RX9) (T := TX9) (N := 67) hx hb hts hiX9 hown hK hP 0 rfl rfl 62 (by decide) v_2 (fun _ h9 => h9) rfl dX9_holdsApart_15 ?_
  refine lv_iload_n hx hb dX9_holdsApart_18 rfl (lv_at hl 2 rfl) ?_
  refine va_iast hx hb hK hP hD hS 37 36 rfl rfl (vp_in_nI (n := x62) (Nat.lt_of_le_of_lt hx62 (Nat.le_of_ble_eq_true rfl)) (Nat.le_of_ble_eq_true rfl)) dX9_holdsApart_19 (fun H locs hP hD hS => ?_)
  obtain ⟨q_2, eq_2, kq_2⟩ := bN_up 120 q56 (((nI x62) : Int32).toNatClampNeg) (v := a1) ha1
  have hP : va_P (dC, dI) vwCl (mo_w ad ck x0 (nI x16) (nI x18) (nI x19) x20 (nI x21) (nI x22) x23 x24 x25 (nI x26) x27 (nI x28) (nI x29) (nI x30) (nI x33) x45 (nI x46) (nI x52) (nI x53) (nI x61) (nI x62) (nI x63) (nI x65) x66 f1 f2 f3 (bN 3 q4) (bN 7 q5) (bN 7 q6) (bN 4 q7) f8 (bN 2 q9) (bH q10) f11 (b2 m12_0 m12_1) (b2 m13_0 m13_1) (b2 m14_0 m14_1) (b2m m15_0 m15_1) f17 (bA 159 q31) f32 f34 f35 f36 f37 (bN 7 q38) f39 f40 f41 (b2 m42_0 m42_1) f43 f44 f47 f48 f49 f50 f51 (bN 13 q54) (bN 120 q_1) (bN 120 q_2) f57 (bN 120 q58) f59 f60 f64) H := by rw [← eq_2]; exact hP
  have hD : va_D A (mo_w ad ck x0 (nI x16) (nI x18) (nI x19) x20 (nI x21) (nI x22) x23 x24 x25 (nI x26) x27 (nI x28) (nI x29) (nI x30) (nI x33) x45 (nI x46) (nI x52) (nI x53) (nI x61) (nI x62) (nI x63) (nI x65) x66 f1 f2 f3 (bN 3 q4) (bN 7 q5) (bN 7 q6) (bN 4 q7) f8 (bN 2 q9) (bH q10) f11 (b2 m12_0 m12_1) (b2 m13_0 m13_1) (b2 m14_0 m14_1) (b2m m15_0 m15_1) f17 (bA 159 q31) f32 f34 f35 f36 f37 (bN 7 q38) f39 f40 f41 (b2 m42_0 m42_1) f43 f44 f47 f48 f49 f50 f51 (bN 13 q54) (bN 120 q_1) (bN 120 q_2) f57 (bN 120 q58) f59 f60 f64) := by rw [← eq_2]; exact hD
  refine lv_aload_n hx hb dX9_holdsApart_20 rfl (lv_at hl 0 rfl) ?_
  refine va_get (D := (dC, dI)) (ci := 9) (v := .ref (ad 57)) (C := RX9) (T := TX9) (N := 67) hx hb hts hiX9 hown hK hP 0 rfl rfl 57 (by decide) v_4 (fun _ h9 => h9) rfl dX9_holdsApart_21 ?_
  refine lv_aload_n hx hb dX9_holdsApart_24 rfl (lv_at hl 0 rfl) ?_
  refine va_get (D := (dC, dI)) (ci := 9) (v := .int (nI x62)) (C := RX9) (T := TX9) (N := 67) hx hb hts hiX9 hown hK hP 0 rfl rfl 62 (by decide) v_2 (fun _ h9 => h9) rfl dX9_holdsApart_25 ?_
  refine lv_iload_n hx hb dX9_holdsApart_28 rfl (lv_at hl 3 rfl) ?_
  refine va_iast hx hb hK hP hD hS 38 37 rfl rfl (vp_in_nI (n := x62) (Nat.lt_of_le_of_lt hx62 (Nat.le_of_ble_eq_true rfl)) (Nat.le_of_ble_eq_true rfl)) dX9_holdsApart_29 (fun H locs hP hD hS => ?_)
  have hP : va_P (dC, dI) vwCl (mo_w ad ck x0 (nI x16) (nI x18) (nI x19) x20 (nI x21) (nI x22) x23 x24 x25 (nI x26) x27 (nI x28) (nI x29) (nI x30) (nI x33) x45 (nI x46) (nI x52) (nI x53) (nI x61) (nI x62) (nI x63) (nI x65) x66 f1 f2 f3 (bN 3 q4) (bN 7 q5) (bN 7 q6) (bN 4 q7) f8 (bN 2 q9) (bH q10) f11 (b2 m12_0 m12_1) (b2 m13_0 m13_1) (b2 m14_0 m14_1) (b2m m15_0 m15_1) f17 (bA 159 q31) f32 f34 f35 f36 f37 (bN 7 q38) f39 f40 f41 (b2 m42_0 m42_1) f43 f44 f47 f48 f49 f50 f51 (bN 13 q54) (bN 120 q_1) (bN 120 q_2) (upd f57 ((nI x62) : Int32).toNatClampNeg p2) (bN 120 q58) f59 f60 f64) H := hP
  have hD : va_D A (mo_w ad ck x0 (nI x16) (nI x18) (nI x19) x20 (nI x21) (nI x22) x23 x24 x25 (nI x26) x27 (nI x28) (nI x29) (nI x30) (nI x33) x45 (nI x46) (nI x52) (nI x53) (nI x61) (nI x62) (nI x63) (nI x65) x66 f1 f2 f3 (bN 3 q4) (bN 7 q5) (bN 7 q6) (bN 4 q7) f8 (bN 2 q9) (bH q10) f11 (b2 m12_0 m12_1) (b2 m13_0 m13_1) (b2 m14_0 m14_1) (b2m m15_0 m15_1) f17 (bA 159 q31) f32 f34 f35 f36 f37 (bN 7 q38) f39 f40 f41 (b2 m42_0 m42_1) f43 f44 f47 f48 f49 f50 f51 (bN 13 q54) (bN 120 q_1) (bN 120 q_2) (upd f57 ((nI x62) : Int32).toNatClampNeg p2) (bN 120 q58) f59 f60 f64) := hD
  refine lv_aload_n hx hb dX9_holdsApart_30 rfl (lv_at hl 0 rfl) ?_
  refine lv_dup hx hb dX9_holdsApart_31 rfl ?_
  refine va_get (D := (dC, dI)) (ci := 9) (v := .int (nI x62)) (C := RX9) (T := TX9) (N := 67) hx hb hts hiX9 hown hK hP 0 rfl rfl 62 (by decide) v_2 (fun _ h9 => h9) rfl dX9_holdsApart_32 ?_
  refine lv_iconst (v := 1) hx hb dX9_holdsApart_35 (by decide) ?_
  refine lv_iadd hx hb dX9_holdsApart_36 ?_
  refine lv_topi (fun y_3 ey_3 => ?_)
  obtain rfl : y_3 = (nI (x62 + 1)) := ey_3.trans (nI_add x62 1)
  refine va_put (D := (dC, dI)) (ci := 9) (v := .int (nI (x62 + 1))) (ty := .int) (C := RX9) (T := TX9) (N := 67) hx hb hts hiX9 tyX9 tyX9_ok nmX9 hown hK hP hD hS 0 rfl rfl 62 (by decide) v_2 (fun _ h9 => h9) rfl (by decide +kernel) rfl rfl (Nat.le_of_ble_eq_true rfl) dX9_holdsApart_37 (fun H locs hP hD hS => ?_)
  have hP : va_P (dC, dI) vwCl (mo_w ad ck x0 (nI x16) (nI x18) (nI x19) x20 (nI x21) (nI x22) x23 x24 x25 (nI x26) x27 (nI x28) (nI x29) (nI x30) (nI x33) x45 (nI x46) (nI x52) (nI x53) (nI x61) (nI (x62 + 1)) (nI x63) (nI x65) x66 f1 f2 f3 (bN 3 q4) (bN 7 q5) (bN 7 q6) (bN 4 q7) f8 (bN 2 q9) (bH q10) f11 (b2 m12_0 m12_1) (b2 m13_0 m13_1) (b2 m14_0 m14_1) (b2m m15_0 m15_1) f17 (bA 159 q31) f32 f34 f35 f36 f37 (bN 7 q38) f39 f40 f41 (b2 m42_0 m42_1) f43 f44 f47 f48 f49 f50 f51 (bN 13 q54) (bN 120 q_1) (bN 120 q_2) (upd f57 ((nI x62) : Int32).toNatClampNeg p2) (bN 120 q58) f59 f60 f64) H := hP
  have hD : va_D A (mo_w ad ck x0 (nI x16) (nI x18) (nI x19) x20 (nI x21) (nI x22) x23 x24 x25 (nI x26) x27 (nI x28) (nI x29) (nI x30) (nI x33) x45 (nI x46) (nI x52) (nI x53) (nI x61) (nI (x62 + 1)) (nI x63) (nI x65) x66 f1 f2 f3 (bN 3 q4) (bN 7 q5) (bN 7 q6) (bN 4 q7) f8 (bN 2 q9) (bH q10) f11 (b2 m12_0 m12_1) (b2 m13_0 m13_1) (b2 m14_0 m14_1) (b2m m15_0 m15_1) f17 (bA 159 q31) f32 f34 f35 f36 f37 (bN 7 q38) f39 f40 f41 (b2 m42_0 m42_1) f43 f44 f47 f48 f49 f50 f51 (bN 13 q54) (bN 120 q_1) (bN 120 q_2) (upd f57 ((nI x62) : Int32).toNatClampNeg p2) (bN 120 q58) f59 f60 f64) := hD
  exact W.vret hx hb hr (fun t ht hW => ⟨⟨(), rfl, trivial, ⟨q_1, q_2, (upd f57 ((nI x62) : Int32).toNatClampNeg p2), ⟨by rw [ht]; exact hP, va_K.moved hW.alike hK, hD⟩⟩⟩, hS.F ht⟩) hS.2.2 dX9_holdsApart_40
theorem dX9_layConditions_0 : decode cX9_layConditions 0 = .ok (.iconst 0, 1) := by decide +kernel
theorem dX9_layConditions_1 : decode cX9_layConditions 1 = .ok (.istore_n 3, 1) := by decide +kernel
theorem dX9_layConditions_2 : decode cX9_layConditions 2 = .ok (.iload_n 3, 1) := by decide +kernel
theorem dX9_layConditions_3 : decode cX9_layConditions 3 = .ok (.aload_n 0, 1) := by decide +kernel
theorem dX9_layConditions_4 : decode cX9_layConditions 4 = .ok (.iload_n 1, 1) := by decide +kernel
theorem dX9_layConditions_5 : decode cX9_layConditions 5 = .ok (.invokevirtual 295, 3) := by decide +kernel
theorem dX9_layConditions_8 : decode cX9_layConditions 8 = .ok (.if_icmp .ge 164, 3) := by decide +kernel
theorem dX9_layConditions_11 : decode cX9_layConditions 11 = .ok (.aload_n 0, 1) := by decide +kernel
theorem dX9_layConditions_12 : decode cX9_layConditions 12 = .ok (.iload_n 1, 1) := by decide +kernel
theorem dX9_layConditions_13 : decode cX9_layConditions 13 = .ok (.iload_n 3, 1) := by decide +kernel
theorem dX9_layConditions_14 : decode cX9_layConditions 14 = .ok (.invokevirtual 311, 3) := by decide +kernel
theorem dX9_layConditions_17 : decode cX9_layConditions 17 = .ok (.istore 4, 2) := by decide +kernel
theorem dX9_layConditions_19 : decode cX9_layConditions 19 = .ok (.aload_n 0, 1) := by decide +kernel
theorem dX9_layConditions_20 : decode cX9_layConditions 20 = .ok (.getfield 130, 3) := by decide +kernel
theorem dX9_layConditions_23 : decode cX9_layConditions 23 = .ok (.aload_n 0, 1) := by decide +kernel
theorem dX9_layConditions_24 : decode cX9_layConditions 24 = .ok (.getfield 34, 3) := by decide +kernel
theorem dX9_layConditions_27 : decode cX9_layConditions 27 = .ok (.iload 4, 2) := by decide +kernel
theorem dX9_layConditions_29 : decode cX9_layConditions 29 = .ok (.iaload, 1) := by decide +kernel
theorem dX9_layConditions_30 : decode cX9_layConditions 30 = .ok (.iaload, 1) := by decide +kernel
theorem dX9_layConditions_31 : decode cX9_layConditions 31 = .ok (.istore 5, 2) := by decide +kernel
theorem dX9_layConditions_33 : decode cX9_layConditions 33 = .ok (.iload 5, 2) := by decide +kernel
theorem dX9_layConditions_35 : decode cX9_layConditions 35 = .ok (.iload_n 2, 1) := by decide +kernel
theorem dX9_layConditions_36 : decode cX9_layConditions 36 = .ok (.if_icmp .ne 42, 3) := by decide +kernel
theorem dX9_layConditions_39 : decode cX9_layConditions 39 = .ok (.aload_n 0, 1) := by decide +kernel
theorem dX9_layConditions_40 : decode cX9_layConditions 40 = .ok (.aload_n 0, 1) := by decide +kernel
theorem dX9_layConditions_41 : decode cX9_layConditions 41 = .ok (.getfield 435, 3) := by decide +kernel
theorem dX9_layConditions_44 : decode cX9_layConditions 44 = .ok (.ifCond .ne 23, 3) := by decide +kernel
theorem dX9_layConditions_47 : decode cX9_layConditions 47 = .ok (.aload_n 0, 1) := by decide +kernel
theorem dX9_layConditions_48 : decode cX9_layConditions 48 = .ok (.getfield 37, 3) := by decide +kernel
theorem dX9_layConditions_51 : decode cX9_layConditions 51 = .ok (.iload 4, 2) := by decide +kernel
theorem dX9_layConditions_53 : decode cX9_layConditions 53 = .ok (.iaload, 1) := by decide +kernel
theorem dX9_layConditions_54 : decode cX9_layConditions 54 = .ok (.ifCond .ne 17, 3) := by decide +kernel
theorem dX9_layConditions_57 : decode cX9_layConditions 57 = .ok (.aload_n 0, 1) := by decide +kernel
theorem dX9_layConditions_58 : decode cX9_layConditions 58 = .ok (.getfield 40, 3) := by decide +kernel
theorem dX9_layConditions_61 : decode cX9_layConditions 61 = .ok (.iload 4, 2) := by decide +kernel
theorem dX9_layConditions_63 : decode cX9_layConditions 63 = .ok (.iaload, 1) := by decide +kernel
theorem dX9_layConditions_64 : decode cX9_layConditions 64 = .ok (.ifCond .ne 7, 3) := by decide +kernel
theorem dX9_layConditions_67 : decode cX9_layConditions 67 = .ok (.iconst 1, 1) := by decide +kernel
theorem dX9_layConditions_68 : decode cX9_layConditions 68 = .ok (.goto 4, 3) := by decide +kernel
theorem dX9_layConditions_71 : decode cX9_layConditions 71 = .ok (.iconst 0, 1) := by decide +kernel
theorem dX9_layConditions_72 : decode cX9_layConditions 72 = .ok (.putfield 435, 3) := by decide +kernel
theorem dX9_layConditions_75 : decode cX9_layConditions 75 = .ok (.goto 91, 3) := by decide +kernel
theorem dX9_layConditions_78 : decode cX9_layConditions 78 = .ok (.aload_n 0, 1) := by decide +kernel
theorem dX9_layConditions_79 : decode cX9_layConditions 79 = .ok (.getfield 37, 3) := by decide +kernel
theorem dX9_layConditions_82 : decode cX9_layConditions 82 = .ok (.iload 4, 2) := by decide +kernel
theorem dX9_layConditions_84 : decode cX9_layConditions 84 = .ok (.iaload, 1) := by decide +kernel
theorem dX9_layConditions_85 : decode cX9_layConditions 85 = .ok (.iconst 2, 1) := by decide +kernel
theorem dX9_layConditions_86 : decode cX9_layConditions 86 = .ok (.if_icmp .gt 35, 3) := by decide +kernel
theorem dX9_layConditions_89 : decode cX9_layConditions 89 = .ok (.aload_n 0, 1) := by decide +kernel
theorem dX9_layConditions_90 : decode cX9_layConditions 90 = .ok (.iload_n 2, 1) := by decide +kernel
theorem dX9_layConditions_91 : decode cX9_layConditions 91 = .ok (.iload 5, 2) := by decide +kernel
theorem dX9_layConditions_93 : decode cX9_layConditions 93 = .ok (.iconst 2, 1) := by decide +kernel
theorem dX9_layConditions_94 : decode cX9_layConditions 94 = .ok (.aload_n 0, 1) := by decide +kernel
theorem dX9_layConditions_95 : decode cX9_layConditions 95 = .ok (.getfield 40, 3) := by decide +kernel
theorem dX9_layConditions_98 : decode cX9_layConditions 98 = .ok (.iload 4, 2) := by decide +kernel
theorem dX9_layConditions_100 : decode cX9_layConditions 100 = .ok (.iaload, 1) := by decide +kernel
theorem dX9_layConditions_101 : decode cX9_layConditions 101 = .ok (.imul, 1) := by decide +kernel
theorem dX9_layConditions_102 : decode cX9_layConditions 102 = .ok (.aload_n 0, 1) := by decide +kernel
theorem dX9_layConditions_103 : decode cX9_layConditions 103 = .ok (.getfield 37, 3) := by decide +kernel
theorem dX9_layConditions_106 : decode cX9_layConditions 106 = .ok (.iload 4, 2) := by decide +kernel
theorem dX9_layConditions_108 : decode cX9_layConditions 108 = .ok (.iaload, 1) := by decide +kernel
theorem dX9_layConditions_109 : decode cX9_layConditions 109 = .ok (.ifCond .ne 7, 3) := by decide +kernel
theorem dX9_layConditions_112 : decode cX9_layConditions 112 = .ok (.iconst 0, 1) := by decide +kernel
theorem dX9_layConditions_113 : decode cX9_layConditions 113 = .ok (.goto 4, 3) := by decide +kernel
theorem dX9_layConditions_116 : decode cX9_layConditions 116 = .ok (.iconst 1, 1) := by decide +kernel
theorem dX9_layConditions_117 : decode cX9_layConditions 117 = .ok (.iadd, 1) := by decide +kernel
theorem dX9_layConditions_118 : decode cX9_layConditions 118 = .ok (.invokevirtual 438, 3) := by decide +kernel
theorem dX9_layConditions_121 : decode cX9_layConditions 121 = .ok (.aload_n 0, 1) := by decide +kernel
theorem dX9_layConditions_122 : decode cX9_layConditions 122 = .ok (.getfield 37, 3) := by decide +kernel
theorem dX9_layConditions_125 : decode cX9_layConditions 125 = .ok (.iload 4, 2) := by decide +kernel
theorem dX9_layConditions_127 : decode cX9_layConditions 127 = .ok (.iaload, 1) := by decide +kernel
theorem dX9_layConditions_128 : decode cX9_layConditions 128 = .ok (.iconst 2, 1) := by decide +kernel
theorem dX9_layConditions_129 : decode cX9_layConditions 129 = .ok (.if_icmp .lt 37, 3) := by decide +kernel
theorem dX9_layConditions_132 : decode cX9_layConditions 132 = .ok (.aload_n 0, 1) := by decide +kernel
theorem dX9_layConditions_133 : decode cX9_layConditions 133 = .ok (.iload 5, 2) := by decide +kernel
theorem dX9_layConditions_135 : decode cX9_layConditions 135 = .ok (.iload_n 2, 1) := by decide +kernel
theorem dX9_layConditions_136 : decode cX9_layConditions 136 = .ok (.bipush (-2), 2) := by decide +kernel
theorem dX9_layConditions_138 : decode cX9_layConditions 138 = .ok (.aload_n 0, 1) := by decide +kernel
theorem dX9_layConditions_139 : decode cX9_layConditions 139 = .ok (.getfield 40, 3) := by decide +kernel
theorem dX9_layConditions_142 : decode cX9_layConditions 142 = .ok (.iload 4, 2) := by decide +kernel
theorem dX9_layConditions_144 : decode cX9_layConditions 144 = .ok (.iaload, 1) := by decide +kernel
theorem dX9_layConditions_145 : decode cX9_layConditions 145 = .ok (.imul, 1) := by decide +kernel
theorem dX9_layConditions_146 : decode cX9_layConditions 146 = .ok (.aload_n 0, 1) := by decide +kernel
theorem dX9_layConditions_147 : decode cX9_layConditions 147 = .ok (.getfield 37, 3) := by decide +kernel
theorem dX9_layConditions_150 : decode cX9_layConditions 150 = .ok (.iload 4, 2) := by decide +kernel
theorem dX9_layConditions_152 : decode cX9_layConditions 152 = .ok (.iaload, 1) := by decide +kernel
theorem dX9_layConditions_153 : decode cX9_layConditions 153 = .ok (.iconst 4, 1) := by decide +kernel
theorem dX9_layConditions_154 : decode cX9_layConditions 154 = .ok (.if_icmp .ne 7, 3) := by decide +kernel
theorem dX9_layConditions_157 : decode cX9_layConditions 157 = .ok (.iconst 0, 1) := by decide +kernel
theorem dX9_layConditions_158 : decode cX9_layConditions 158 = .ok (.goto 4, 3) := by decide +kernel
theorem dX9_layConditions_161 : decode cX9_layConditions 161 = .ok (.iconst 1, 1) := by decide +kernel
theorem dX9_layConditions_162 : decode cX9_layConditions 162 = .ok (.iadd, 1) := by decide +kernel
theorem dX9_layConditions_163 : decode cX9_layConditions 163 = .ok (.invokevirtual 438, 3) := by decide +kernel
theorem dX9_layConditions_166 : decode cX9_layConditions 166 = .ok (.iinc 3 1, 3) := by decide +kernel
theorem dX9_layConditions_169 : decode cX9_layConditions 169 = .ok (.goto (-167), 3) := by decide +kernel
theorem dX9_layConditions_172 : decode cX9_layConditions 172 = .ok (.return_, 1) := by decide +kernel
abbrev vs_M_layConditions_e : List Cond := .code yX9_layConditions cX9_layConditions 6 none :: VM
theorem g_M_layConditions_e_M_manyOf_e : GoodIn vs_M_layConditions_e (wsV RX9 295 RX9 yX9_manyOf vs_M_manyOf_e) := gm_V vm_166 vm_167 vm_168 vm_12 vm_157
theorem g_M_layConditions_e_M_spot_e : GoodIn vs_M_layConditions_e (wsV RX9 311 RX9 yX9_spot vs_M_spot_e) := gm_V vm_173 vm_174 vm_175 vm_12 vm_164
theorem g_M_layConditions_e_M_holdsApart : GoodIn vs_M_layConditions_e (wsV RX9 438 RX9 yX9_holdsApart vs_M_holdsApart) := gm_V vm_335 vm_336 vm_337 vm_12 vm_328
set_option maxHeartbeats 4000000 in
set_option maxRecDepth 100000 in
theorem c_M_layConditions_e (l : Launch) (dC : Nat → ClassId) (dI : Nat → Nat → Nat) (sz : Nat) (ad : Nat → Nat) (ck : Nat → ClassId) (x0 : Int32) (x16 : Nat) (x18 : Nat) (x19 : Nat) (x20 : Int32) (x21 : Nat) (x22 : Nat) (x23 : Int32) (x24 : Int32) (x25 : Int32) (x26 : Nat) (x27 : Int32) (x28 : Nat) (x29 : Nat) (x30 : Nat) (x33 : Nat) (x45 : Int32) (x46 : Nat) (x52 : Nat) (x53 : Nat) (x61 : Nat) (x62 : Nat) (x63 : Nat) (x65 : Nat) (x66 : Int32) (f1 : Nat → Int32) (f2 : Nat → Int32) (f3 : Nat → Int32) (q4 : Nat → Nat) (q5 : Nat → Nat) (q6 : Nat → Nat) (q7 : Nat → Nat) (f8 : Nat → Int32) (q9 : Nat → Nat) (q10 : Nat → Nat) (f11 : Nat → Int32) (m12_0 m12_1 : Nat) (m13_0 m13_1 : Nat) (m14_0 m14_1 : Nat) (m15_0 m15_1 : Nat) (f17 : Nat → Int32) (q31 : Nat → Nat) (f32 : Nat → Int32) (f34 : Nat → Int32) (f35 : Nat → Int32) (f36 : Nat → Int32) (f37 : Nat → Int32) (q38 : Nat → Nat) (f39 : Nat → Int32) (f40 : Nat → Int32) (f41 : Nat → Int32) (m42_0 m42_1 : Nat) (f43 : Nat → Int32) (f44 : Nat → Int32) (f47 : Nat → Int32) (f48 : Nat → Int32) (f49 : Nat → Int32) (f50 : Nat → Int32) (f51 : Nat → Int32) (q54 : Nat → Nat) (q55 : Nat → Nat) (q56 : Nat → Nat) (f57 : Nat → Int32) (q58 : Nat → Nat) (f59 : Nat → Int32) (f60 : Nat → Int32) (f64 : Nat → Int32) (a0 : Nat) (a1 : Nat) (hx16 : x16 ≤ 1) (hx18 : x18 ≤ 900) (hx19 : x19 ≤ 900) (hx21 : x21 ≤ 900) (hx22 : x22 ≤ 4) (hx26 : x26 ≤ 6) (hx28 : x28 ≤ 1) (hx29 : x29 ≤ 1) (hx30 : x30 ≤ 1) (hx33 : x33 ≤ 20) (hx46 : x46 ≤ 5) (hx52 : x52 ≤ 2400) (hx53 : x53 ≤ 119) (hx61 : x61 ≤ 119) (hx62 : x62 ≤ 1990) (hx63 : x63 ≤ 1) (hx65 : x65 ≤ 7) (hm12_0 : m12_0 ≤ 3) (hm12_1 : m12_1 ≤ 3) (hm13_0 : m13_0 ≤ 8) (hm13_1 : m13_1 ≤ 8) (hm14_0 : m14_0 ≤ 14) (hm14_1 : m14_1 ≤ 14) (hm15_0 : m15_0 ≤ 8) (hm15_1 : m15_1 ≤ 8) (hm42_0 : m42_0 ≤ 120) (hm42_1 : m42_1 ≤ 400) (ha0 : a0 ≤ 13) (ha1 : a1 ≤ 119) : Met l yX9_layConditions vs_M_layConditions_e ({ frames := 3, cells := 0, slots := 0, locals := 64 }) (va_Pc [.ref (ad 0), .int (nI a0), .int (nI a1)] (pu_B (dC, dI) (mo_w ad ck x0 (nI x16) (nI x18) (nI x19) x20 (nI x21) (nI x22) x23 x24 x25 (nI x26) x27 (nI x28) (nI x29) (nI x30) (nI x33) x45 (nI x46) (nI x52) (nI x53) (nI x61) (nI x62) (nI x63) (nI x65) x66 f1 f2 f3 (bN 3 q4) (bN 7 q5) (bN 7 q6) (bN 4 q7) f8 (bN 2 q9) (bH q10) f11 (b2 m12_0 m12_1) (b2 m13_0 m13_1) (b2 m14_0 m14_1) (b2m m15_0 m15_1) f17 (bA 159 q31) f32 f34 f35 f36 f37 (bN 7 q38) f39 f40 f41 (b2 m42_0 m42_1) f43 f44 f47 f48 f49 f50 f51 (bN 13 q54) (bN 120 q55) (bN 120 q56) f57 (bN 120 q58) f59 f60 f64) (mo_t ck) sz)) (va_Qv (fun (_ : Unit) => True) (fun _ t => ∃ (z55 : Nat → Nat) (z56 : Nat → Nat) (z57 : Nat → Int32) (z62 : Nat) (z63 : Nat), pu_E (dC, dI) (mo_w ad ck x0 (nI x16) (nI x18) (nI x19) x20 (nI x21) (nI x22) x23 x24 x25 (nI x26) x27 (nI x28) (nI x29) (nI x30) (nI x33) x45 (nI x46) (nI x52) (nI x53) (nI x61) (nI z62) (nI z63) (nI x65) x66 f1 f2 f3 (bN 3 q4) (bN 7 q5) (bN 7 q6) (bN 4 q7) f8 (bN 2 q9) (bH q10) f11 (b2 m12_0 m12_1) (b2 m13_0 m13_1) (b2 m14_0 m14_1) (b2m m15_0 m15_1) f17 (bA 159 q31) f32 f34 f35 f36 f37 (bN 7 q38) f39 f40 f41 (b2 m42_0 m42_1) f43 f44 f47 f48 f49 f50 f51 (bN 13 q54) (bN 120 z55) (bN 120 z56) z57 (bN 120 q58) f59 f60 f64) (mo_t ck) (va_A ((mo_w ad ck x0 (nI x16) (nI x18) (nI x19) x20 (nI x21) (nI x22) x23 x24 x25 (nI x26) x27 (nI x28) (nI x29) (nI x30) (nI x33) x45 (nI x46) (nI x52) (nI x53) (nI x61) (nI x62) (nI x63) (nI x65) x66 f1 f2 f3 (bN 3 q4) (bN 7 q5) (bN 7 q6) (bN 4 q7) f8 (bN 2 q9) (bH q10) f11 (b2 m12_0 m12_1) (b2 m13_0 m13_1) (b2 m14_0 m14_1) (b2m m15_0 m15_1) f17 (bA 159 q31) f32 f34 f35 f36 f37 (bN 7 q38) f39 f40 f41 (b2 m42_0 m42_1) f43 f44 f47 f48 f49 f50 f51 (bN 13 q54) (bN 120 q55) (bN 120 q56) f57 (bN 120 q58) f59 f60 f64)) sz) t ∧ (z62 ≤ 2000) ∧ (z63 ≤ 1) ∧ (z62 ≤ x62 + 8)) (va_A ((mo_w ad ck x0 (nI x16) (nI x18) (nI x19) x20 (nI x21) (nI x22) x23 x24 x25 (nI x26) x27 (nI x28) (nI x29) (nI x30) (nI x33) x45 (nI x46) (nI x52) (nI x53) (nI x61) (nI x62) (nI x63) (nI x65) x66 f1 f2 f3 (bN 3 q4) (bN 7 q5) (bN 7 q6) (bN 4 q7) f8 (bN 2 q9) (bH q10) f11 (b2 m12_0 m12_1) (b2 m13_0 m13_1) (b2 m14_0 m14_1) (b2m m15_0 m15_1) f17 (bA 159 q31) f32 f34 f35 f36 f37 (bN 7 q38) f39 f40 f41 (b2 m42_0 m42_1) f43 f44 f47 f48 f49 f50 f51 (bN 13 q54) (bN 120 q55) (bN 120 q56) f57 (bN 120 q58) f59 f60 f64)) sz)) 0 0 (va_A ((mo_w ad ck x0 (nI x16) (nI x18) (nI x19) x20 (nI x21) (nI x22) x23 x24 x25 (nI x26) x27 (nI x28) (nI x29) (nI x30) (nI x33) x45 (nI x46) (nI x52) (nI x53) (nI x61) (nI x62) (nI x63) (nI x65) x66 f1 f2 f3 (bN 3 q4) (bN 7 q5) (bN 7 q6) (bN 4 q7) f8 (bN 2 q9) (bH q10) f11 (b2 m12_0 m12_1) (b2 m13_0 m13_1) (b2 m14_0 m14_1) (b2m m15_0 m15_1) f17 (bA 159 q31) f32 f34 f35 f36 f37 (bN 7 q38) f39 f40 f41 (b2 m42_0 m42_1) f43 f44 f47 f48 f49 f50 f51 (bN 13 q54) (bN 120 q55) (bN 120 q56) f57 (bN 120 q58) f59 f60 f64)) sz) := by
  refine Met.ofW (cc := cX9_layConditions) (maxL := 6) (ret := none) (by decide) rfl ?_
  intro p e s m args below meth c s₁ B hml hv
  obtain ⟨rfl, rfl, hP, hK, hD0⟩ := hv
  have hx := B.exec
  have hb := B.bytes
  have hr := B.returns
  have hts := atoms_spec (ws := vs_M_layConditions_e) B.pre
  have v_10 := hts (.fieldLink RX9 130 "ClockReachModel" "setAt" "[I") (List.mem_cons_of_mem _ vm_334)
  have v_11 := hts (.fieldLink RX9 34 "ClockReachModel" "ofClock" "[I") (List.mem_cons_of_mem _ vm_108)
  have v_12 := hts (.fieldLink RX9 37 "ClockReachModel" "how" "[I") (List.mem_cons_of_mem _ vm_115)
  have v_13 := hts (.fieldLink RX9 40 "ClockReachModel" "limit" "[I") (List.mem_cons_of_mem _ vm_116)
  have v_18 := hts (.fieldLink RX9 435 "ClockReachModel" "isBroken" "Z") (List.mem_cons_of_mem _ vm_338)
  have hown : s.vm.findClass RX9 = some m.cls := findClass_of_methodNamed B.named
  have hlocks := B.notSynchronized
  have hiX9 : ∀ w ∈ wsX90, w ∈ vs_M_layConditions_e := fun _ h => List.mem_cons_of_mem _ (List.mem_append_right _ h)
  have hD := hD0.self (sz := s.heap.size)
  generalize hAe : va_A ((mo_w ad ck x0 (nI x16) (nI x18) (nI x19) x20 (nI x21) (nI x22) x23 x24 x25 (nI x26) x27 (nI x28) (nI x29) (nI x30) (nI x33) x45 (nI x46) (nI x52) (nI x53) (nI x61) (nI x62) (nI x63) (nI x65) x66 f1 f2 f3 (bN 3 q4) (bN 7 q5) (bN 7 q6) (bN 4 q7) f8 (bN 2 q9) (bH q10) f11 (b2 m12_0 m12_1) (b2 m13_0 m13_1) (b2 m14_0 m14_1) (b2m m15_0 m15_1) f17 (bA 159 q31) f32 f34 f35 f36 f37 (bN 7 q38) f39 f40 f41 (b2 m42_0 m42_1) f43 f44 f47 f48 f49 f50 f51 (bN 13 q54) (bN 120 q55) (bN 120 q56) f57 (bN 120 q58) f59 f60 f64)) s.heap.size = A at hD ⊢
  have hA : ∀ q : Nat, s.heap.size ≤ q → A q := fun q h => by rw [← hAe]; exact Or.inr h
  have hS : va_S A s.heap s.heap [] := va_S.rf
  have hl := lv_entry ([.ref (ad 0), .int (nI a0), .int (nI a1)]) (n := 6) (Nat.le_of_ble_eq_true rfl)
  rw [lg_entry_eq]
  generalize (lg_sl ([.ref (ad 0), .int (nI a0), .int (nI a1)]) ++ List.replicate (6 - (lg_sl ([.ref (ad 0), .int (nI a0), .int (nI a1)])).length) Slot.unset).toArray = ls at hl ⊢
  have hl : lv_has ls 6 [(0, .ref (ad 0)), (1, .int (nI a0)), (2, .int (nI a1))] := hl
  refine lv_iconst (v := 0) hx hb dX9_layConditions_0 (by decide) ?_
  refine lv_istore_n (lv' := [(3, .int 0), (0, .ref (ad 0)), (1, .int (nI a0)), (2, .int (nI a1))]) hx hb dX9_layConditions_1 rfl hl (by decide) rfl (fun ls hl => ?_)
  refine pu_while (fun nn H locs ls => ∃ (g_8 : Nat → Nat) (g_9 : Nat → Nat) (g_10 : Nat → Int32) (g_11 : Nat) (g_12 : Nat) (g_13 : Nat), nn = 4 - g_13 ∧ g_11 ≤ 1998 ∧ g_12 ≤ 1 ∧ g_13 ≤ 4 ∧ g_11 ≤ x62 + 2 * g_13 ∧ va_P (dC, dI) vwCl (mo_w ad ck x0 (nI x16) (nI x18) (nI x19) x20 (nI x21) (nI x22) x23 x24 x25 (nI x26) x27 (nI x28) (nI x29) (nI x30) (nI x33) x45 (nI x46) (nI x52) (nI x53) (nI x61) (nI g_11) (nI g_12) (nI x65) x66 f1 f2 f3 (bN 3 q4) (bN 7 q5) (bN 7 q6) (bN 4 q7) f8 (bN 2 q9) (bH q10) f11 (b2 m12_0 m12_1) (b2 m13_0 m13_1) (b2 m14_0 m14_1) (b2m m15_0 m15_1) f17 (bA 159 q31) f32 f34 f35 f36 f37 (bN 7 q38) f39 f40 f41 (b2 m42_0 m42_1) f43 f44 f47 f48 f49 f50 f51 (bN 13 q54) (bN 120 g_8) (bN 120 g_9) g_10 (bN 120 q58) f59 f60 f64) H ∧ va_D A (mo_w ad ck x0 (nI x16) (nI x18) (nI x19) x20 (nI x21) (nI x22) x23 x24 x25 (nI x26) x27 (nI x28) (nI x29) (nI x30) (nI x33) x45 (nI x46) (nI x52) (nI x53) (nI x61) (nI g_11) (nI g_12) (nI x65) x66 f1 f2 f3 (bN 3 q4) (bN 7 q5) (bN 7 q6) (bN 4 q7) f8 (bN 2 q9) (bH q10) f11 (b2 m12_0 m12_1) (b2 m13_0 m13_1) (b2 m14_0 m14_1) (b2m m15_0 m15_1) f17 (bA 159 q31) f32 f34 f35 f36 f37 (bN 7 q38) f39 f40 f41 (b2 m42_0 m42_1) f43 f44 f47 f48 f49 f50 f51 (bN 13 q54) (bN 120 g_8) (bN 120 g_9) g_10 (bN 120 q58) f59 f60 f64) ∧ va_S A s.heap H locs ∧ lv_has ls 6 [(0, .ref (ad 0)), (1, .int (nI a0)), (2, .int (nI a1)), (3, .int (nI g_13))]) 2 ?_ _ _ _ _ ⟨q55, q56, f57, x62, x63, 0, rfl, (Nat.le_trans hx62 (Nat.le_of_ble_eq_true rfl)), hx63, (Nat.le_of_ble_eq_true rfl), by omega, hP, hD, hS, lv_sub hl [1, 2, 3, 0] rfl⟩
  rintro nn ih_15 H locs ls ⟨g_8, g_9, g_10, g_11, g_12, g_13, rfl, hg_11, hg_12, hg_13, he_14, hP, hD, hS, hl⟩
  refine lv_iload_n hx hb dX9_layConditions_2 rfl (lv_at hl 3 rfl) ?_
  refine lv_aload_n hx hb dX9_layConditions_3 rfl (lv_at hl 0 rfl) ?_
  refine lv_iload_n hx hb dX9_layConditions_4 rfl (lv_at hl 1 rfl) ?_
  refine va_calli (va_runV (As := [.int (nI a0)]) (rest := [.int (nI g_13)]) ⟨hx, hb, hml, hown, hts⟩ (c_M_manyOf_e l dC dI _ ad ck x0 x16 x18 x19 x20 x21 x22 x23 x24 x25 x26 x27 x28 x29 x30 x33 x45 x46 x52 x53 x61 g_11 g_12 x65 x66 f1 f2 f3 q4 q5 q6 q7 f8 q9 q10 f11 m12_0 m12_1 m13_0 m13_1 m14_0 m14_1 m15_0 m15_1 f17 q31 f32 f34 f35 f36 f37 q38 f39 f40 f41 m42_0 m42_1 f43 f44 f47 f48 f49 f50 f51 q54 g_8 g_9 g_10 q58 f59 f60 f64 a0 hx16 hx18 hx19 hx21 hx22 hx26 hx28 hx29 hx30 hx33 hx46 hx52 hx53 hx61 (Nat.le_trans hg_11 (Nat.le_of_ble_eq_true rfl)) hg_12 hx65 hm12_0 hm12_1 hm13_0 hm13_1 hm14_0 hm14_1 hm15_0 hm15_1 hm42_0 hm42_1 ha0) (cwV 1 hts g_M_layConditions_e_M_manyOf_e rfl rfl rfl (by decide +kernel) ⟨Nat.le_of_ble_eq_true rfl, Nat.le_of_ble_eq_true rfl⟩) ⟨pu_bl, va_recv hK hP (ci := 9) (q0 := 0) rfl rfl, pu_in hP hK hD⟩ rfl rfl hl.1 rfl (lv_room (Nat.le_of_ble_eq_true rfl)) dX9_layConditions_5 ⟨Nat.le_of_ble_eq_true rfl, Nat.le_of_ble_eq_true rfl⟩) hS (fun q _ h => pu_fr hS hA q h) (pu_fr hS hA) (fun r_16 u t H1 locs ht hvm hw hB hz1 hk1 hS => ?_)
  have hP := pu_keep hP hk1
  clear hk1 hz1 ht hvm
  generalize H1 = H at hP hS ⊢
  rcases hw with rfl | ⟨u_17, hu_17, rfl⟩
  · refine lv_icmp_ge (tgt := 172) hx hb dX9_layConditions_8 (by decide) (fun _ => ?_) (fun z => absurd (pu_negle (n := g_13) (by omega) (by decide)) z)
    exact W.vret hx hb hr (fun t ht hW => ⟨⟨(), rfl, trivial, ⟨g_8, g_9, g_10, g_11, g_12, ⟨by rw [ht]; exact hP, va_K.moved hW.alike hK, hD⟩, (Nat.le_trans hg_11 (Nat.le_of_ble_eq_true rfl)), hg_12, by omega⟩⟩, hS.F ht⟩) hS.2.2 dX9_layConditions_172
  · refine lv_icmp_ge (tgt := 172) hx hb dX9_layConditions_8 (by decide) (fun c_18 => ?_) (fun c_18 => ?_)
    · have c_18 : u_17 ≤ g_13 := (nI_leI (a := u_17) (b := g_13) (Nat.lt_of_le_of_lt hu_17 (Nat.le_of_ble_eq_true rfl)) (Nat.lt_of_le_of_lt hg_13 (Nat.le_of_ble_eq_true rfl))).mp c_18
      exact W.vret hx hb hr (fun t ht hW => ⟨⟨(), rfl, trivial, ⟨g_8, g_9, g_10, g_11, g_12, ⟨by rw [ht]; exact hP, va_K.moved hW.alike hK, hD⟩, (Nat.le_trans hg_11 (Nat.le_of_ble_eq_true rfl)), hg_12, by omega⟩⟩, hS.F ht⟩) hS.2.2 dX9_layConditions_172
    · have c_18 : ¬ u_17 ≤ g_13 := fun z => c_18 ((nI_leI (a := u_17) (b := g_13) (Nat.lt_of_le_of_lt hu_17 (Nat.le_of_ble_eq_true rfl)) (Nat.lt_of_le_of_lt hg_13 (Nat.le_of_ble_eq_true rfl))).mpr z)
      refine lv_aload_n hx hb dX9_layConditions_11 rfl (lv_at hl 0 rfl) ?_
      refine lv_iload_n hx hb dX9_layConditions_12 rfl (lv_at hl 1 rfl) ?_
      refine lv_iload_n hx hb dX9_layConditions_13 rfl (lv_at hl 3 rfl) ?_
      refine va_calli (va_runV (As := [.int (nI a0), .int (nI g_13)]) (rest := []) ⟨hx, hb, hml, hown, hts⟩ (c_M_spot_e l dC dI _ ad ck x0 x16 x18 x19 x20 x21 x22 x23 x24 x25 x26 x27 x28 x29 x30 x33 x45 x46 x52 x53 x61 g_11 g_12 x65 x66 f1 f2 f3 q4 q5 q6 q7 f8 q9 q10 f11 m12_0 m12_1 m13_0 m13_1 m14_0 m14_1 m15_0 m15_1 f17 q31 f32 f34 f35 f36 f37 q38 f39 f40 f41 m42_0 m42_1 f43 f44 f47 f48 f49 f50 f51 q54 g_8 g_9 g_10 q58 f59 f60 f64 a0 g_13 hx16 hx18 hx19 hx21 hx22 hx26 hx28 hx29 hx30 hx33 hx46 hx52 hx53 hx61 (Nat.le_trans hg_11 (Nat.le_of_ble_eq_true rfl)) hg_12 hx65 hm12_0 hm12_1 hm13_0 hm13_1 hm14_0 hm14_1 hm15_0 hm15_1 hm42_0 hm42_1 ha0 (by omega)) (cwV 2 hts g_M_layConditions_e_M_spot_e rfl rfl rfl (by decide +kernel) ⟨Nat.le_of_ble_eq_true rfl, Nat.le_of_ble_eq_true rfl⟩) ⟨pu_bl, va_recv hK hP (ci := 9) (q0 := 0) rfl rfl, pu_in hP hK hD⟩ rfl rfl hl.1 rfl (lv_room (Nat.le_of_ble_eq_true rfl)) dX9_layConditions_14 ⟨Nat.le_of_ble_eq_true rfl, Nat.le_of_ble_eq_true rfl⟩) hS (fun q _ h => pu_fr hS hA q h) (pu_fr hS hA) (fun r_19 u t H1 locs ht hvm hw hB hz1 hk1 hS => ?_)
      have hP := pu_keep hP hk1
      clear hk1 hz1 ht hvm
      generalize H1 = H at hP hS ⊢
      obtain rfl : r_19 = nI (80 * x16 + 4 * a0 + g_13) := hw
      refine lv_istore (lv' := [(4, .int (nI (80 * x16 + 4 * a0 + g_13))), (0, .ref (ad 0)), (1, .int (nI a0)), (2, .int (nI a1)), (3, .int (nI g_13))]) hx hb dX9_layConditions_17 hl (by decide) rfl (fun ls hl => ?_)
      refine lv_aload_n hx hb dX9_layConditions_19 rfl (lv_at hl 1 rfl) ?_
      refine va_get (D := (dC, dI)) (ci := 9) (v := .ref (ad 58)) (C := RX9) (T := TX9) (N := 67) hx hb hts hiX9 hown hK hP 0 rfl rfl 58 (by decide) v_10 (fun _ h9 => h9) rfl dX9_layConditions_20 ?_
      refine lv_aload_n hx hb dX9_layConditions_23 rfl (lv_at hl 1 rfl) ?_
      refine va_get (D := (dC, dI)) (ci := 9) (v := .ref (ad 9)) (C := RX9) (T := TX9) (N := 67) hx hb hts hiX9 hown hK hP 0 rfl rfl 9 (by decide) v_11 (fun _ h9 => h9) rfl dX9_layConditions_24 ?_
      refine lv_iload hx hb dX9_layConditions_27 (lv_at hl 0 rfl) ?_
      refine va_iald hx hb hK hP 9 8 rfl rfl (vp_in_nI (n := (80 * x16 + 4 * a0 + g_13)) (by omega) (Nat.le_of_ble_eq_true rfl)) dX9_layConditions_29 ?_
      refine lv_topi (fun y_20 ey_20 => ?_)
      obtain ⟨u_21, hu_21, qu_21⟩ := bN_get 2 q9 (((nI (80 * x16 + 4 * a0 + g_13)) : Int32).toNatClampNeg)
      obtain rfl : y_20 = nI u_21 := ey_20.trans qu_21
      refine va_iald hx hb hK hP 39 38 rfl rfl (vp_in_nI (n := u_21) (Nat.lt_of_le_of_lt hu_21 (Nat.le_of_ble_eq_true rfl)) (Nat.le_of_ble_eq_true rfl)) dX9_layConditions_30 ?_
      refine lv_topi (fun y_22 ey_22 => ?_)
      obtain ⟨u_23, hu_23, qu_23⟩ := bN_get 120 q58 (((nI u_21) : Int32).toNatClampNeg)
      obtain rfl : y_22 = nI u_23 := ey_22.trans qu_23
      refine lv_istore (lv' := [(5, .int (nI u_23)), (4, .int (nI (80 * x16 + 4 * a0 + g_13))), (0, .ref (ad 0)), (1, .int (nI a0)), (2, .int (nI a1)), (3, .int (nI g_13))]) hx hb dX9_layConditions_31 hl (by decide) rfl (fun ls hl => ?_)
      refine lv_iload hx hb dX9_layConditions_33 (lv_at hl 0 rfl) ?_
      refine lv_iload_n hx hb dX9_layConditions_35 rfl (lv_at hl 4 rfl) ?_
      refine lv_icmp_ne (tgt := 78) hx hb dX9_layConditions_36 (by decide) (fun c_24 => ?_) (fun c_24 => ?_)
      · have c_24 : ¬ u_23 = a1 := fun z => c_24 ((nI_eq (a := u_23) (b := a1) (Nat.lt_of_le_of_lt hu_23 (Nat.le_of_ble_eq_true rfl)) (Nat.lt_of_le_of_lt ha1 (Nat.le_of_ble_eq_true rfl))).mpr z)
        refine lv_aload_n hx hb dX9_layConditions_78 rfl (lv_at hl 2 rfl) ?_
        refine va_get (D := (dC, dI)) (ci := 9) (v := .ref (ad 10)) (C := RX9) (T := TX9) (N := 67) hx hb hts hiX9 hown hK hP 0 rfl rfl 10 (by decide) v_12 (fun _ h9 => h9) rfl dX9_layConditions_79 ?_
        refine lv_iload hx hb dX9_layConditions_82 (lv_at hl 1 rfl) ?_
        refine va_iald hx hb hK hP 10 9 rfl rfl (vp_in_nI (n := (80 * x16 + 4 * a0 + g_13)) (by omega) (Nat.le_of_ble_eq_true rfl)) dX9_layConditions_84 ?_
        refine lv_topi (fun y_25 ey_25 => ?_)
        obtain ⟨u_26, hu_26, qu_26⟩ := bH_get q10 (i := (80 * x16 + 4 * a0 + g_13)) (by omega)
        obtain rfl : y_25 = nI u_26 := ey_25.trans qu_26
        refine lv_iconst (v := 2) hx hb dX9_layConditions_85 (by decide) ?_
        refine lv_icmp_gt (tgt := 121) hx hb dX9_layConditions_86 (by decide) (fun c_27 => ?_) (fun c_27 => ?_)
        · have c_27 : 2 < u_26 := (nI_ltI (a := 2) (b := u_26) (Nat.le_of_ble_eq_true rfl) (by omega)).mp c_27
          refine lv_aload_n hx hb dX9_layConditions_121 rfl (lv_at hl 2 rfl) ?_
          refine va_get (D := (dC, dI)) (ci := 9) (v := .ref (ad 10)) (C := RX9) (T := TX9) (N := 67) hx hb hts hiX9 hown hK hP 0 rfl rfl 10 (by decide) v_12 (fun _ h9 => h9) rfl dX9_layConditions_122 ?_
          refine lv_iload hx hb dX9_layConditions_125 (lv_at hl 1 rfl) ?_
          refine va_iald hx hb hK hP 10 9 rfl rfl (vp_in_nI (n := (80 * x16 + 4 * a0 + g_13)) (by omega) (Nat.le_of_ble_eq_true rfl)) dX9_layConditions_127 ?_
          refine lv_topi (fun y_28 ey_28 => ?_)
          obtain rfl : y_28 = nI u_26 := ey_28.trans qu_26
          refine lv_iconst (v := 2) hx hb dX9_layConditions_128 (by decide) ?_
          refine lv_icmp_lt (tgt := 166) hx hb dX9_layConditions_129 (by decide) (fun c_30 => ?_) (fun c_30 => ?_)
          · have c_30 : u_26 < 2 := (nI_ltI (a := u_26) (b := 2) (by omega) (Nat.le_of_ble_eq_true rfl)).mp c_30
            exfalso
            omega
          · have c_30 : ¬ u_26 < 2 := fun z => c_30 ((nI_ltI (a := u_26) (b := 2) (by omega) (Nat.le_of_ble_eq_true rfl)).mpr z)
            refine lv_aload_n hx hb dX9_layConditions_132 rfl (lv_at hl 2 rfl) ?_
            refine lv_iload hx hb dX9_layConditions_133 (lv_at hl 0 rfl) ?_
            refine lv_iload_n hx hb dX9_layConditions_135 rfl (lv_at hl 4 rfl) ?_
            refine lv_bipush (v := (-2)) hx hb dX9_layConditions_136 (by decide) ?_
            refine lv_aload_n hx hb dX9_layConditions_138 rfl (lv_at hl 2 rfl) ?_
            refine va_get (D := (dC, dI)) (ci := 9) (v := .ref (ad 11)) (C := RX9) (T := TX9) (N := 67) hx hb hts hiX9 hown hK hP 0 rfl rfl 11 (by decide) v_13 (fun _ h9 => h9) rfl dX9_layConditions_139 ?_
            refine lv_iload hx hb dX9_layConditions_142 (lv_at hl 1 rfl) ?_
            refine va_iald hx hb hK hP 11 10 rfl rfl (vp_in_nI (n := (80 * x16 + 4 * a0 + g_13)) (by omega) (Nat.le_of_ble_eq_true rfl)) dX9_layConditions_144 ?_
            refine lv_topi (fun y_31 ey_31 => ?_)
            refine lv_imul hx hb dX9_layConditions_145 ?_
            refine lv_topi (fun y_32 ey_32 => ?_)
            refine lv_aload_n hx hb dX9_layConditions_146 rfl (lv_at hl 2 rfl) ?_
            refine va_get (D := (dC, dI)) (ci := 9) (v := .ref (ad 10)) (C := RX9) (T := TX9) (N := 67) hx hb hts hiX9 hown hK hP 0 rfl rfl 10 (by decide) v_12 (fun _ h9 => h9) rfl dX9_layConditions_147 ?_
            refine lv_iload hx hb dX9_layConditions_150 (lv_at hl 1 rfl) ?_
            refine va_iald hx hb hK hP 10 9 rfl rfl (vp_in_nI (n := (80 * x16 + 4 * a0 + g_13)) (by omega) (Nat.le_of_ble_eq_true rfl)) dX9_layConditions_152 ?_
            refine lv_topi (fun y_33 ey_33 => ?_)
            obtain rfl : y_33 = nI u_26 := ey_33.trans qu_26
            refine lv_iconst (v := 4) hx hb dX9_layConditions_153 (by decide) ?_
            refine lv_icmp_ne (tgt := 161) hx hb dX9_layConditions_154 (by decide) (fun c_35 => ?_) (fun c_35 => ?_)
            · have c_35 : ¬ u_26 = 4 := fun z => c_35 ((nI_eq (a := u_26) (b := 4) (by omega) (Nat.le_of_ble_eq_true rfl)).mpr z)
              refine lv_iconst (v := 1) hx hb dX9_layConditions_161 (by decide) ?_
              refine lv_iadd hx hb dX9_layConditions_162 ?_
              refine lv_topi (fun y_36 ey_36 => ?_)
              have hFc := pu_free hD hS hA
              refine va_callv (va_runV (As := [.int (nI u_23), .int (nI a1), .int y_36]) (rest := []) ⟨hx, hb, hml, hown, hts⟩ (c_M_holdsApart l dC dI _ ad ck x0 x16 x18 x19 x20 x21 x22 x23 x24 x25 x26 x27 x28 x29 x30 x33 x45 x46 x52 x53 x61 g_11 g_12 x65 x66 f1 f2 f3 q4 q5 q6 q7 f8 q9 q10 f11 m12_0 m12_1 m13_0 m13_1 m14_0 m14_1 m15_0 m15_1 f17 q31 f32 f34 f35 f36 f37 q38 f39 f40 f41 m42_0 m42_1 f43 f44 f47 f48 f49 f50 f51 q54 g_8 g_9 g_10 q58 f59 f60 f64 u_23 a1 y_36 hx16 hx18 hx19 hx21 hx22 hx26 hx28 hx29 hx30 hx33 hx46 hx52 hx53 hx61 (Nat.le_trans hg_11 (Nat.le_of_ble_eq_true rfl)) hg_12 hx65 hm12_0 hm12_1 hm13_0 hm13_1 hm14_0 hm14_1 hm15_0 hm15_1 hm42_0 hm42_1 hu_23 (Nat.le_trans ha1 (Nat.le_of_ble_eq_true rfl))) (cwV 3 hts g_M_layConditions_e_M_holdsApart rfl rfl rfl (by decide +kernel) ⟨Nat.le_of_ble_eq_true rfl, Nat.le_of_ble_eq_true rfl⟩) ⟨pu_bl, va_recv hK hP (ci := 9) (q0 := 0) rfl rfl, pu_in hP hK hD⟩ rfl rfl hl.1 rfl (lv_room (Nat.le_of_ble_eq_true rfl)) dX9_layConditions_163 ⟨Nat.le_of_ble_eq_true rfl, Nat.le_of_ble_eq_true rfl⟩) hS (fun q _ h => hFc q h) hFc (fun u t H1 locs ht hvm hw hB hz1 hk1 hS => ?_)
              obtain ⟨z55_38, z56_39, z57_40, ⟨hP1, -, hD1⟩⟩ := hB
              rw [ht] at hP1
              have hP := hP1
              have hD := pu_all hFc hD1
              clear hP1 hD1 hFc
              clear hk1 hz1 ht hvm
              generalize H1 = H at hP hS ⊢
              refine lv_iinc (v := (nI (g_13 + 1))) (lv' := [(3, .int (nI (g_13 + 1))), (5, .int (nI u_23)), (4, .int (nI (80 * x16 + 4 * a0 + g_13))), (0, .ref (ad 0)), (1, .int (nI a0)), (2, .int (nI a1))]) hx hb dX9_layConditions_166 hl (k := 5) rfl (nI_1 _) (by decide) rfl (fun ls hl => ?_)
              refine lv_goto (tgt := 2) hx hb dX9_layConditions_169 (by decide) ?_
              exact ih_15 (4 - (g_13 + 1)) (by omega) _ _ _ ⟨z55_38, z56_39, z57_40, (g_11 + 1), g_12, (g_13 + 1), rfl, (by omega), hg_12, (by omega), by omega, hP, hD, hS, lv_sub hl [3, 4, 5, 0] rfl⟩
            · have c_35 : u_26 = 4 := (nI_eq (a := u_26) (b := 4) (by omega) (Nat.le_of_ble_eq_true rfl)).mp c_35
              refine lv_iconst (v := 0) hx hb dX9_layConditions_157 (by decide) ?_
              refine lv_goto (tgt := 162) hx hb dX9_layConditions_158 (by decide) ?_
              refine lv_iadd hx hb dX9_layConditions_162 ?_
              refine lv_topi (fun y_41 ey_41 => ?_)
              have hFc := pu_free hD hS hA
              refine va_callv (va_runV (As := [.int (nI u_23), .int (nI a1), .int y_41]) (rest := []) ⟨hx, hb, hml, hown, hts⟩ (c_M_holdsApart l dC dI _ ad ck x0 x16 x18 x19 x20 x21 x22 x23 x24 x25 x26 x27 x28 x29 x30 x33 x45 x46 x52 x53 x61 g_11 g_12 x65 x66 f1 f2 f3 q4 q5 q6 q7 f8 q9 q10 f11 m12_0 m12_1 m13_0 m13_1 m14_0 m14_1 m15_0 m15_1 f17 q31 f32 f34 f35 f36 f37 q38 f39 f40 f41 m42_0 m42_1 f43 f44 f47 f48 f49 f50 f51 q54 g_8 g_9 g_10 q58 f59 f60 f64 u_23 a1 y_41 hx16 hx18 hx19 hx21 hx22 hx26 hx28 hx29 hx30 hx33 hx46 hx52 hx53 hx61 (Nat.le_trans hg_11 (Nat.le_of_ble_eq_true rfl)) hg_12 hx65 hm12_0 hm12_1 hm13_0 hm13_1 hm14_0 hm14_1 hm15_0 hm15_1 hm42_0 hm42_1 hu_23 (Nat.le_trans ha1 (Nat.le_of_ble_eq_true rfl))) (cwV 3 hts g_M_layConditions_e_M_holdsApart rfl rfl rfl (by decide +kernel) ⟨Nat.le_of_ble_eq_true rfl, Nat.le_of_ble_eq_true rfl⟩) ⟨pu_bl, va_recv hK hP (ci := 9) (q0 := 0) rfl rfl, pu_in hP hK hD⟩ rfl rfl hl.1 rfl (lv_room (Nat.le_of_ble_eq_true rfl)) dX9_layConditions_163 ⟨Nat.le_of_ble_eq_true rfl, Nat.le_of_ble_eq_true rfl⟩) hS (fun q _ h => hFc q h) hFc (fun u t H1 locs ht hvm hw hB hz1 hk1 hS => ?_)
              obtain ⟨z55_43, z56_44, z57_45, ⟨hP1, -, hD1⟩⟩ := hB
              rw [ht] at hP1
              have hP := hP1
              have hD := pu_all hFc hD1
              clear hP1 hD1 hFc
              clear hk1 hz1 ht hvm
              generalize H1 = H at hP hS ⊢
              refine lv_iinc (v := (nI (g_13 + 1))) (lv' := [(3, .int (nI (g_13 + 1))), (5, .int (nI u_23)), (4, .int (nI (80 * x16 + 4 * a0 + g_13))), (0, .ref (ad 0)), (1, .int (nI a0)), (2, .int (nI a1))]) hx hb dX9_layConditions_166 hl (k := 5) rfl (nI_1 _) (by decide) rfl (fun ls hl => ?_)
              refine lv_goto (tgt := 2) hx hb dX9_layConditions_169 (by decide) ?_
              exact ih_15 (4 - (g_13 + 1)) (by omega) _ _ _ ⟨z55_43, z56_44, z57_45, (g_11 + 1), g_12, (g_13 + 1), rfl, (by omega), hg_12, (by omega), by omega, hP, hD, hS, lv_sub hl [3, 4, 5, 0] rfl⟩
        · have c_27 : ¬ 2 < u_26 := fun z => c_27 ((nI_ltI (a := 2) (b := u_26) (Nat.le_of_ble_eq_true rfl) (by omega)).mpr z)
          refine lv_aload_n hx hb dX9_layConditions_89 rfl (lv_at hl 2 rfl) ?_
          refine lv_iload_n hx hb dX9_layConditions_90 rfl (lv_at hl 4 rfl) ?_
          refine lv_iload hx hb dX9_layConditions_91 (lv_at hl 0 rfl) ?_
          refine lv_iconst (v := 2) hx hb dX9_layConditions_93 (by decide) ?_
          refine lv_aload_n hx hb dX9_layConditions_94 rfl (lv_at hl 2 rfl) ?_
          refine va_get (D := (dC, dI)) (ci := 9) (v := .ref (ad 11)) (C := RX9) (T := TX9) (N := 67) hx hb hts hiX9 hown hK hP 0 rfl rfl 11 (by decide) v_13 (fun _ h9 => h9) rfl dX9_layConditions_95 ?_
          refine lv_iload hx hb dX9_layConditions_98 (lv_at hl 1 rfl) ?_
          refine va_iald hx hb hK hP 11 10 rfl rfl (vp_in_nI (n := (80 * x16 + 4 * a0 + g_13)) (by omega) (Nat.le_of_ble_eq_true rfl)) dX9_layConditions_100 ?_
          refine lv_topi (fun y_46 ey_46 => ?_)
          refine lv_imul hx hb dX9_layConditions_101 ?_
          refine lv_topi (fun y_47 ey_47 => ?_)
          refine lv_aload_n hx hb dX9_layConditions_102 rfl (lv_at hl 2 rfl) ?_
          refine va_get (D := (dC, dI)) (ci := 9) (v := .ref (ad 10)) (C := RX9) (T := TX9) (N := 67) hx hb hts hiX9 hown hK hP 0 rfl rfl 10 (by decide) v_12 (fun _ h9 => h9) rfl dX9_layConditions_103 ?_
          refine lv_iload hx hb dX9_layConditions_106 (lv_at hl 1 rfl) ?_
          refine va_iald hx hb hK hP 10 9 rfl rfl (vp_in_nI (n := (80 * x16 + 4 * a0 + g_13)) (by omega) (Nat.le_of_ble_eq_true rfl)) dX9_layConditions_108 ?_
          refine lv_topi (fun y_48 ey_48 => ?_)
          obtain rfl : y_48 = nI u_26 := ey_48.trans qu_26
          refine lv_if_ne (tgt := 116) hx hb dX9_layConditions_109 (by decide) (fun c_50 => ?_) (fun c_50 => ?_)
          · have c_50 : ¬ u_26 = 0 := fun z => c_50 ((nI_eq (a := u_26) (b := 0) (by omega) (Nat.le_of_ble_eq_true rfl)).mpr z)
            refine lv_iconst (v := 1) hx hb dX9_layConditions_116 (by decide) ?_
            refine lv_iadd hx hb dX9_layConditions_117 ?_
            refine lv_topi (fun y_51 ey_51 => ?_)
            have hFc := pu_free hD hS hA
            refine va_callv (va_runV (As := [.int (nI a1), .int (nI u_23), .int y_51]) (rest := []) ⟨hx, hb, hml, hown, hts⟩ (c_M_holdsApart l dC dI _ ad ck x0 x16 x18 x19 x20 x21 x22 x23 x24 x25 x26 x27 x28 x29 x30 x33 x45 x46 x52 x53 x61 g_11 g_12 x65 x66 f1 f2 f3 q4 q5 q6 q7 f8 q9 q10 f11 m12_0 m12_1 m13_0 m13_1 m14_0 m14_1 m15_0 m15_1 f17 q31 f32 f34 f35 f36 f37 q38 f39 f40 f41 m42_0 m42_1 f43 f44 f47 f48 f49 f50 f51 q54 g_8 g_9 g_10 q58 f59 f60 f64 a1 u_23 y_51 hx16 hx18 hx19 hx21 hx22 hx26 hx28 hx29 hx30 hx33 hx46 hx52 hx53 hx61 (Nat.le_trans hg_11 (Nat.le_of_ble_eq_true rfl)) hg_12 hx65 hm12_0 hm12_1 hm13_0 hm13_1 hm14_0 hm14_1 hm15_0 hm15_1 hm42_0 hm42_1 (Nat.le_trans ha1 (Nat.le_of_ble_eq_true rfl)) hu_23) (cwV 3 hts g_M_layConditions_e_M_holdsApart rfl rfl rfl (by decide +kernel) ⟨Nat.le_of_ble_eq_true rfl, Nat.le_of_ble_eq_true rfl⟩) ⟨pu_bl, va_recv hK hP (ci := 9) (q0 := 0) rfl rfl, pu_in hP hK hD⟩ rfl rfl hl.1 rfl (lv_room (Nat.le_of_ble_eq_true rfl)) dX9_layConditions_118 ⟨Nat.le_of_ble_eq_true rfl, Nat.le_of_ble_eq_true rfl⟩) hS (fun q _ h => hFc q h) hFc (fun u t H1 locs ht hvm hw hB hz1 hk1 hS => ?_)
            obtain ⟨z55_53, z56_54, z57_55, ⟨hP1, -, hD1⟩⟩ := hB
            rw [ht] at hP1
            have hP := hP1
            have hD := pu_all hFc hD1
            clear hP1 hD1 hFc
            clear hk1 hz1 ht hvm
            generalize H1 = H at hP hS ⊢
            refine lv_aload_n hx hb dX9_layConditions_121 rfl (lv_at hl 2 rfl) ?_
            refine va_get (D := (dC, dI)) (ci := 9) (v := .ref (ad 10)) (C := RX9) (T := TX9) (N := 67) hx hb hts hiX9 hown hK hP 0 rfl rfl 10 (by decide) v_12 (fun _ h9 => h9) rfl dX9_layConditions_122 ?_
            refine lv_iload hx hb dX9_layConditions_125 (lv_at hl 1 rfl) ?_
            refine va_iald hx hb hK hP 10 9 rfl rfl (vp_in_nI (n := (80 * x16 + 4 * a0 + g_13)) (by omega) (Nat.le_of_ble_eq_true rfl)) dX9_layConditions_127 ?_
            refine lv_topi (fun y_56 ey_56 => ?_)
            obtain rfl : y_56 = nI u_26 := ey_56.trans qu_26
            refine lv_iconst (v := 2) hx hb dX9_layConditions_128 (by decide) ?_
            refine lv_icmp_lt (tgt := 166) hx hb dX9_layConditions_129 (by decide) (fun c_58 => ?_) (fun c_58 => ?_)
            · have c_58 : u_26 < 2 := (nI_ltI (a := u_26) (b := 2) (by omega) (Nat.le_of_ble_eq_true rfl)).mp c_58
              refine lv_iinc (v := (nI (g_13 + 1))) (lv' := [(3, .int (nI (g_13 + 1))), (5, .int (nI u_23)), (4, .int (nI (80 * x16 + 4 * a0 + g_13))), (0, .ref (ad 0)), (1, .int (nI a0)), (2, .int (nI a1))]) hx hb dX9_layConditions_166 hl (k := 5) rfl (nI_1 _) (by decide) rfl (fun ls hl => ?_)
              refine lv_goto (tgt := 2) hx hb dX9_layConditions_169 (by decide) ?_
              exact ih_15 (4 - (g_13 + 1)) (by omega) _ _ _ ⟨z55_53, z56_54, z57_55, (g_11 + 1), g_12, (g_13 + 1), rfl, (by omega), hg_12, (by omega), by omega, hP, hD, hS, lv_sub hl [3, 4, 5, 0] rfl⟩
            · have c_58 : ¬ u_26 < 2 := fun z => c_58 ((nI_ltI (a := u_26) (b := 2) (by omega) (Nat.le_of_ble_eq_true rfl)).mpr z)
              refine lv_aload_n hx hb dX9_layConditions_132 rfl (lv_at hl 2 rfl) ?_
              refine lv_iload hx hb dX9_layConditions_133 (lv_at hl 0 rfl) ?_
              refine lv_iload_n hx hb dX9_layConditions_135 rfl (lv_at hl 4 rfl) ?_
              refine lv_bipush (v := (-2)) hx hb dX9_layConditions_136 (by decide) ?_
              refine lv_aload_n hx hb dX9_layConditions_138 rfl (lv_at hl 2 rfl) ?_
              refine va_get (D := (dC, dI)) (ci := 9) (v := .ref (ad 11)) (C := RX9) (T := TX9) (N := 67) hx hb hts hiX9 hown hK hP 0 rfl rfl 11 (by decide) v_13 (fun _ h9 => h9) rfl dX9_layConditions_139 ?_
              refine lv_iload hx hb dX9_layConditions_142 (lv_at hl 1 rfl) ?_
              refine va_iald hx hb hK hP 11 10 rfl rfl (vp_in_nI (n := (80 * x16 + 4 * a0 + g_13)) (by omega) (Nat.le_of_ble_eq_true rfl)) dX9_layConditions_144 ?_
              refine lv_topi (fun y_59 ey_59 => ?_)
              refine lv_imul hx hb dX9_layConditions_145 ?_
              refine lv_topi (fun y_60 ey_60 => ?_)
              refine lv_aload_n hx hb dX9_layConditions_146 rfl (lv_at hl 2 rfl) ?_
              refine va_get (D := (dC, dI)) (ci := 9) (v := .ref (ad 10)) (C := RX9) (T := TX9) (N := 67) hx hb hts hiX9 hown hK hP 0 rfl rfl 10 (by decide) v_12 (fun _ h9 => h9) rfl dX9_layConditions_147 ?_
              refine lv_iload hx hb dX9_layConditions_150 (lv_at hl 1 rfl) ?_
              refine va_iald hx hb hK hP 10 9 rfl rfl (vp_in_nI (n := (80 * x16 + 4 * a0 + g_13)) (by omega) (Nat.le_of_ble_eq_true rfl)) dX9_layConditions_152 ?_
              refine lv_topi (fun y_61 ey_61 => ?_)
              obtain rfl : y_61 = nI u_26 := ey_61.trans qu_26
              refine lv_iconst (v := 4) hx hb dX9_layConditions_153 (by decide) ?_
              refine lv_icmp_ne (tgt := 161) hx hb dX9_layConditions_154 (by decide) (fun c_63 => ?_) (fun c_63 => ?_)
              · have c_63 : ¬ u_26 = 4 := fun z => c_63 ((nI_eq (a := u_26) (b := 4) (by omega) (Nat.le_of_ble_eq_true rfl)).mpr z)
                refine lv_iconst (v := 1) hx hb dX9_layConditions_161 (by decide) ?_
                refine lv_iadd hx hb dX9_layConditions_162 ?_
                refine lv_topi (fun y_64 ey_64 => ?_)
                have hFc := pu_free hD hS hA
                refine va_callv (va_runV (As := [.int (nI u_23), .int (nI a1), .int y_64]) (rest := []) ⟨hx, hb, hml, hown, hts⟩ (c_M_holdsApart l dC dI _ ad ck x0 x16 x18 x19 x20 x21 x22 x23 x24 x25 x26 x27 x28 x29 x30 x33 x45 x46 x52 x53 x61 (g_11 + 1) g_12 x65 x66 f1 f2 f3 q4 q5 q6 q7 f8 q9 q10 f11 m12_0 m12_1 m13_0 m13_1 m14_0 m14_1 m15_0 m15_1 f17 q31 f32 f34 f35 f36 f37 q38 f39 f40 f41 m42_0 m42_1 f43 f44 f47 f48 f49 f50 f51 q54 z55_53 z56_54 z57_55 q58 f59 f60 f64 u_23 a1 y_64 hx16 hx18 hx19 hx21 hx22 hx26 hx28 hx29 hx30 hx33 hx46 hx52 hx53 hx61 (by omega) hg_12 hx65 hm12_0 hm12_1 hm13_0 hm13_1 hm14_0 hm14_1 hm15_0 hm15_1 hm42_0 hm42_1 hu_23 (Nat.le_trans ha1 (Nat.le_of_ble_eq_true rfl))) (cwV 3 hts g_M_layConditions_e_M_holdsApart rfl rfl rfl (by decide +kernel) ⟨Nat.le_of_ble_eq_true rfl, Nat.le_of_ble_eq_true rfl⟩) ⟨pu_bl, va_recv hK hP (ci := 9) (q0 := 0) rfl rfl, pu_in hP hK hD⟩ rfl rfl hl.1 rfl (lv_room (Nat.le_of_ble_eq_true rfl)) dX9_layConditions_163 ⟨Nat.le_of_ble_eq_true rfl, Nat.le_of_ble_eq_true rfl⟩) hS (fun q _ h => hFc q h) hFc (fun u t H1 locs ht hvm hw hB hz1 hk1 hS => ?_)
                obtain ⟨z55_66, z56_67, z57_68, ⟨hP1, -, hD1⟩⟩ := hB
                rw [ht] at hP1
                have hP := hP1
                have hD := pu_all hFc hD1
                clear hP1 hD1 hFc
                clear hk1 hz1 ht hvm
                generalize H1 = H at hP hS ⊢
                refine lv_iinc (v := (nI (g_13 + 1))) (lv' := [(3, .int (nI (g_13 + 1))), (5, .int (nI u_23)), (4, .int (nI (80 * x16 + 4 * a0 + g_13))), (0, .ref (ad 0)), (1, .int (nI a0)), (2, .int (nI a1))]) hx hb dX9_layConditions_166 hl (k := 5) rfl (nI_1 _) (by decide) rfl (fun ls hl => ?_)
                refine lv_goto (tgt := 2) hx hb dX9_layConditions_169 (by decide) ?_
                exact ih_15 (4 - (g_13 + 1)) (by omega) _ _ _ ⟨z55_66, z56_67, z57_68, ((g_11 + 1) + 1), g_12, (g_13 + 1), rfl, (by omega), hg_12, (by omega), by omega, hP, hD, hS, lv_sub hl [3, 4, 5, 0] rfl⟩
              · have c_63 : u_26 = 4 := (nI_eq (a := u_26) (b := 4) (by omega) (Nat.le_of_ble_eq_true rfl)).mp c_63
                exfalso
                omega
          · have c_50 : u_26 = 0 := (nI_eq (a := u_26) (b := 0) (by omega) (Nat.le_of_ble_eq_true rfl)).mp c_50
            refine lv_iconst (v := 0) hx hb dX9_layConditions_112 (by decide) ?_
            refine lv_goto (tgt := 117) hx hb dX9_layConditions_113 (by decide) ?_
            refine lv_iadd hx hb dX9_layConditions_117 ?_
            refine lv_topi (fun y_69 ey_69 => ?_)
            have hFc := pu_free hD hS hA
            refine va_callv (va_runV (As := [.int (nI a1), .int (nI u_23), .int y_69]) (rest := []) ⟨hx, hb, hml, hown, hts⟩ (c_M_holdsApart l dC dI _ ad ck x0 x16 x18 x19 x20 x21 x22 x23 x24 x25 x26 x27 x28 x29 x30 x33 x45 x46 x52 x53 x61 g_11 g_12 x65 x66 f1 f2 f3 q4 q5 q6 q7 f8 q9 q10 f11 m12_0 m12_1 m13_0 m13_1 m14_0 m14_1 m15_0 m15_1 f17 q31 f32 f34 f35 f36 f37 q38 f39 f40 f41 m42_0 m42_1 f43 f44 f47 f48 f49 f50 f51 q54 g_8 g_9 g_10 q58 f59 f60 f64 a1 u_23 y_69 hx16 hx18 hx19 hx21 hx22 hx26 hx28 hx29 hx30 hx33 hx46 hx52 hx53 hx61 (Nat.le_trans hg_11 (Nat.le_of_ble_eq_true rfl)) hg_12 hx65 hm12_0 hm12_1 hm13_0 hm13_1 hm14_0 hm14_1 hm15_0 hm15_1 hm42_0 hm42_1 (Nat.le_trans ha1 (Nat.le_of_ble_eq_true rfl)) hu_23) (cwV 3 hts g_M_layConditions_e_M_holdsApart rfl rfl rfl (by decide +kernel) ⟨Nat.le_of_ble_eq_true rfl, Nat.le_of_ble_eq_true rfl⟩) ⟨pu_bl, va_recv hK hP (ci := 9) (q0 := 0) rfl rfl, pu_in hP hK hD⟩ rfl rfl hl.1 rfl (lv_room (Nat.le_of_ble_eq_true rfl)) dX9_layConditions_118 ⟨Nat.le_of_ble_eq_true rfl, Nat.le_of_ble_eq_true rfl⟩) hS (fun q _ h => hFc q h) hFc (fun u t H1 locs ht hvm hw hB hz1 hk1 hS => ?_)
            obtain ⟨z55_71, z56_72, z57_73, ⟨hP1, -, hD1⟩⟩ := hB
            rw [ht] at hP1
            have hP := hP1
            have hD := pu_all hFc hD1
            clear hP1 hD1 hFc
            clear hk1 hz1 ht hvm
            generalize H1 = H at hP hS ⊢
            refine lv_aload_n hx hb dX9_layConditions_121 rfl (lv_at hl 2 rfl) ?_
            refine va_get (D := (dC, dI)) (ci := 9) (v := .ref (ad 10)) (C := RX9) (T := TX9) (N := 67) hx hb hts hiX9 hown hK hP 0 rfl rfl 10 (by decide) v_12 (fun _ h9 => h9) rfl dX9_layConditions_122 ?_
            refine lv_iload hx hb dX9_layConditions_125 (lv_at hl 1 rfl) ?_
            refine va_iald hx hb hK hP 10 9 rfl rfl (vp_in_nI (n := (80 * x16 + 4 * a0 + g_13)) (by omega) (Nat.le_of_ble_eq_true rfl)) dX9_layConditions_127 ?_
            refine lv_topi (fun y_74 ey_74 => ?_)
            obtain rfl : y_74 = nI u_26 := ey_74.trans qu_26
            refine lv_iconst (v := 2) hx hb dX9_layConditions_128 (by decide) ?_
            refine lv_icmp_lt (tgt := 166) hx hb dX9_layConditions_129 (by decide) (fun c_76 => ?_) (fun c_76 => ?_)
            · have c_76 : u_26 < 2 := (nI_ltI (a := u_26) (b := 2) (by omega) (Nat.le_of_ble_eq_true rfl)).mp c_76
              refine lv_iinc (v := (nI (g_13 + 1))) (lv' := [(3, .int (nI (g_13 + 1))), (5, .int (nI u_23)), (4, .int (nI (80 * x16 + 4 * a0 + g_13))), (0, .ref (ad 0)), (1, .int (nI a0)), (2, .int (nI a1))]) hx hb dX9_layConditions_166 hl (k := 5) rfl (nI_1 _) (by decide) rfl (fun ls hl => ?_)
              refine lv_goto (tgt := 2) hx hb dX9_layConditions_169 (by decide) ?_
              exact ih_15 (4 - (g_13 + 1)) (by omega) _ _ _ ⟨z55_71, z56_72, z57_73, (g_11 + 1), g_12, (g_13 + 1), rfl, (by omega), hg_12, (by omega), by omega, hP, hD, hS, lv_sub hl [3, 4, 5, 0] rfl⟩
            · have c_76 : ¬ u_26 < 2 := fun z => c_76 ((nI_ltI (a := u_26) (b := 2) (by omega) (Nat.le_of_ble_eq_true rfl)).mpr z)
              exfalso
              omega
      · have c_24 : u_23 = a1 := (nI_eq (a := u_23) (b := a1) (Nat.lt_of_le_of_lt hu_23 (Nat.le_of_ble_eq_true rfl)) (Nat.lt_of_le_of_lt ha1 (Nat.le_of_ble_eq_true rfl))).mp c_24
        refine lv_aload_n hx hb dX9_layConditions_39 rfl (lv_at hl 2 rfl) ?_
        refine lv_aload_n hx hb dX9_layConditions_40 rfl (lv_at hl 2 rfl) ?_
        refine va_get (D := (dC, dI)) (ci := 9) (v := .int (nI g_12)) (C := RX9) (T := TX9) (N := 67) hx hb hts hiX9 hown hK hP 0 rfl rfl 63 (by decide) v_18 (fun _ h9 => h9) rfl dX9_layConditions_41 ?_
        refine lv_if_ne (tgt := 67) hx hb dX9_layConditions_44 (by decide) (fun c_77 => ?_) (fun c_77 => ?_)
        · have c_77 : ¬ g_12 = 0 := fun z => c_77 ((nI_eq (a := g_12) (b := 0) (Nat.lt_of_le_of_lt hg_12 (Nat.le_of_ble_eq_true rfl)) (Nat.le_of_ble_eq_true rfl)).mpr z)
          refine lv_iconst (v := 1) hx hb dX9_layConditions_67 (by decide) ?_
          refine lv_goto (tgt := 72) hx hb dX9_layConditions_68 (by decide) ?_
          refine va_put (D := (dC, dI)) (ci := 9) (v := .int 1) (ty := .boolean) (C := RX9) (T := TX9) (N := 67) hx hb hts hiX9 tyX9 tyX9_ok nmX9 hown hK hP hD hS 0 rfl rfl 63 (by decide) v_18 (fun _ h9 => h9) rfl (by decide +kernel) rfl rfl (Nat.le_of_ble_eq_true rfl) dX9_layConditions_72 (fun H locs hP hD hS => ?_)
          have hP : va_P (dC, dI) vwCl (mo_w ad ck x0 (nI x16) (nI x18) (nI x19) x20 (nI x21) (nI x22) x23 x24 x25 (nI x26) x27 (nI x28) (nI x29) (nI x30) (nI x33) x45 (nI x46) (nI x52) (nI x53) (nI x61) (nI g_11) 1 (nI x65) x66 f1 f2 f3 (bN 3 q4) (bN 7 q5) (bN 7 q6) (bN 4 q7) f8 (bN 2 q9) (bH q10) f11 (b2 m12_0 m12_1) (b2 m13_0 m13_1) (b2 m14_0 m14_1) (b2m m15_0 m15_1) f17 (bA 159 q31) f32 f34 f35 f36 f37 (bN 7 q38) f39 f40 f41 (b2 m42_0 m42_1) f43 f44 f47 f48 f49 f50 f51 (bN 13 q54) (bN 120 g_8) (bN 120 g_9) g_10 (bN 120 q58) f59 f60 f64) H := hP
          have hD : va_D A (mo_w ad ck x0 (nI x16) (nI x18) (nI x19) x20 (nI x21) (nI x22) x23 x24 x25 (nI x26) x27 (nI x28) (nI x29) (nI x30) (nI x33) x45 (nI x46) (nI x52) (nI x53) (nI x61) (nI g_11) 1 (nI x65) x66 f1 f2 f3 (bN 3 q4) (bN 7 q5) (bN 7 q6) (bN 4 q7) f8 (bN 2 q9) (bH q10) f11 (b2 m12_0 m12_1) (b2 m13_0 m13_1) (b2 m14_0 m14_1) (b2m m15_0 m15_1) f17 (bA 159 q31) f32 f34 f35 f36 f37 (bN 7 q38) f39 f40 f41 (b2 m42_0 m42_1) f43 f44 f47 f48 f49 f50 f51 (bN 13 q54) (bN 120 g_8) (bN 120 g_9) g_10 (bN 120 q58) f59 f60 f64) := hD
          refine lv_goto (tgt := 166) hx hb dX9_layConditions_75 (by decide) ?_
          refine lv_iinc (v := (nI (g_13 + 1))) (lv' := [(3, .int (nI (g_13 + 1))), (5, .int (nI u_23)), (4, .int (nI (80 * x16 + 4 * a0 + g_13))), (0, .ref (ad 0)), (1, .int (nI a0)), (2, .int (nI a1))]) hx hb dX9_layConditions_166 hl (k := 5) rfl (nI_1 _) (by decide) rfl (fun ls hl => ?_)
          refine lv_goto (tgt := 2) hx hb dX9_layConditions_169 (by decide) ?_
          exact ih_15 (4 - (g_13 + 1)) (by omega) _ _ _ ⟨g_8, g_9, g_10, g_11, 1, (g_13 + 1), rfl, hg_11, (Nat.le_of_ble_eq_true rfl), (by omega), by omega, hP, hD, hS, lv_sub hl [3, 4, 5, 0] rfl⟩
        · have c_77 : g_12 = 0 := (nI_eq (a := g_12) (b := 0) (Nat.lt_of_le_of_lt hg_12 (Nat.le_of_ble_eq_true rfl)) (Nat.le_of_ble_eq_true rfl)).mp c_77
          refine lv_aload_n hx hb dX9_layConditions_47 rfl (lv_at hl 2 rfl) ?_
          refine va_get (D := (dC, dI)) (ci := 9) (v := .ref (ad 10)) (C := RX9) (T := TX9) (N := 67) hx hb hts hiX9 hown hK hP 0 rfl rfl 10 (by decide) v_12 (fun _ h9 => h9) rfl dX9_layConditions_48 ?_
          refine lv_iload hx hb dX9_layConditions_51 (lv_at hl 1 rfl) ?_
          refine va_iald hx hb hK hP 10 9 rfl rfl (vp_in_nI (n := (80 * x16 + 4 * a0 + g_13)) (by omega) (Nat.le_of_ble_eq_true rfl)) dX9_layConditions_53 ?_
          refine lv_topi (fun y_78 ey_78 => ?_)
          obtain ⟨u_79, hu_79, qu_79⟩ := bH_get q10 (i := (80 * x16 + 4 * a0 + g_13)) (by omega)
          obtain rfl : y_78 = nI u_79 := ey_78.trans qu_79
          refine lv_if_ne (tgt := 71) hx hb dX9_layConditions_54 (by decide) (fun c_80 => ?_) (fun c_80 => ?_)
          · have c_80 : ¬ u_79 = 0 := fun z => c_80 ((nI_eq (a := u_79) (b := 0) (by omega) (Nat.le_of_ble_eq_true rfl)).mpr z)
            refine lv_iconst (v := 0) hx hb dX9_layConditions_71 (by decide) ?_
            refine va_put (D := (dC, dI)) (ci := 9) (v := .int 0) (ty := .boolean) (C := RX9) (T := TX9) (N := 67) hx hb hts hiX9 tyX9 tyX9_ok nmX9 hown hK hP hD hS 0 rfl rfl 63 (by decide) v_18 (fun _ h9 => h9) rfl (by decide +kernel) rfl rfl (Nat.le_of_ble_eq_true rfl) dX9_layConditions_72 (fun H locs hP hD hS => ?_)
            have hP : va_P (dC, dI) vwCl (mo_w ad ck x0 (nI x16) (nI x18) (nI x19) x20 (nI x21) (nI x22) x23 x24 x25 (nI x26) x27 (nI x28) (nI x29) (nI x30) (nI x33) x45 (nI x46) (nI x52) (nI x53) (nI x61) (nI g_11) 0 (nI x65) x66 f1 f2 f3 (bN 3 q4) (bN 7 q5) (bN 7 q6) (bN 4 q7) f8 (bN 2 q9) (bH q10) f11 (b2 m12_0 m12_1) (b2 m13_0 m13_1) (b2 m14_0 m14_1) (b2m m15_0 m15_1) f17 (bA 159 q31) f32 f34 f35 f36 f37 (bN 7 q38) f39 f40 f41 (b2 m42_0 m42_1) f43 f44 f47 f48 f49 f50 f51 (bN 13 q54) (bN 120 g_8) (bN 120 g_9) g_10 (bN 120 q58) f59 f60 f64) H := hP
            have hD : va_D A (mo_w ad ck x0 (nI x16) (nI x18) (nI x19) x20 (nI x21) (nI x22) x23 x24 x25 (nI x26) x27 (nI x28) (nI x29) (nI x30) (nI x33) x45 (nI x46) (nI x52) (nI x53) (nI x61) (nI g_11) 0 (nI x65) x66 f1 f2 f3 (bN 3 q4) (bN 7 q5) (bN 7 q6) (bN 4 q7) f8 (bN 2 q9) (bH q10) f11 (b2 m12_0 m12_1) (b2 m13_0 m13_1) (b2 m14_0 m14_1) (b2m m15_0 m15_1) f17 (bA 159 q31) f32 f34 f35 f36 f37 (bN 7 q38) f39 f40 f41 (b2 m42_0 m42_1) f43 f44 f47 f48 f49 f50 f51 (bN 13 q54) (bN 120 g_8) (bN 120 g_9) g_10 (bN 120 q58) f59 f60 f64) := hD
            refine lv_goto (tgt := 166) hx hb dX9_layConditions_75 (by decide) ?_
            refine lv_iinc (v := (nI (g_13 + 1))) (lv' := [(3, .int (nI (g_13 + 1))), (5, .int (nI u_23)), (4, .int (nI (80 * x16 + 4 * a0 + g_13))), (0, .ref (ad 0)), (1, .int (nI a0)), (2, .int (nI a1))]) hx hb dX9_layConditions_166 hl (k := 5) rfl (nI_1 _) (by decide) rfl (fun ls hl => ?_)
            refine lv_goto (tgt := 2) hx hb dX9_layConditions_169 (by decide) ?_
            exact ih_15 (4 - (g_13 + 1)) (by omega) _ _ _ ⟨g_8, g_9, g_10, g_11, 0, (g_13 + 1), rfl, hg_11, (Nat.le_of_ble_eq_true rfl), (by omega), by omega, hP, hD, hS, lv_sub hl [3, 4, 5, 0] rfl⟩
          · have c_80 : u_79 = 0 := (nI_eq (a := u_79) (b := 0) (by omega) (Nat.le_of_ble_eq_true rfl)).mp c_80
            refine lv_aload_n hx hb dX9_layConditions_57 rfl (lv_at hl 2 rfl) ?_
            refine va_get (D := (dC, dI)) (ci := 9) (v := .ref (ad 11)) (C := RX9) (T := TX9) (N := 67) hx hb hts hiX9 hown hK hP 0 rfl rfl 11 (by decide) v_13 (fun _ h9 => h9) rfl dX9_layConditions_58 ?_
            refine lv_iload hx hb dX9_layConditions_61 (lv_at hl 1 rfl) ?_
            refine va_iald hx hb hK hP 11 10 rfl rfl (vp_in_nI (n := (80 * x16 + 4 * a0 + g_13)) (by omega) (Nat.le_of_ble_eq_true rfl)) dX9_layConditions_63 ?_
            refine lv_topi (fun y_81 ey_81 => ?_)
            refine lv_if_ne (tgt := 71) hx hb dX9_layConditions_64 (by decide) (fun c_82 => ?_) (fun c_82 => ?_)
            · refine lv_iconst (v := 0) hx hb dX9_layConditions_71 (by decide) ?_
              refine va_put (D := (dC, dI)) (ci := 9) (v := .int 0) (ty := .boolean) (C := RX9) (T := TX9) (N := 67) hx hb hts hiX9 tyX9 tyX9_ok nmX9 hown hK hP hD hS 0 rfl rfl 63 (by decide) v_18 (fun _ h9 => h9) rfl (by decide +kernel) rfl rfl (Nat.le_of_ble_eq_true rfl) dX9_layConditions_72 (fun H locs hP hD hS => ?_)
              have hP : va_P (dC, dI) vwCl (mo_w ad ck x0 (nI x16) (nI x18) (nI x19) x20 (nI x21) (nI x22) x23 x24 x25 (nI x26) x27 (nI x28) (nI x29) (nI x30) (nI x33) x45 (nI x46) (nI x52) (nI x53) (nI x61) (nI g_11) 0 (nI x65) x66 f1 f2 f3 (bN 3 q4) (bN 7 q5) (bN 7 q6) (bN 4 q7) f8 (bN 2 q9) (bH q10) f11 (b2 m12_0 m12_1) (b2 m13_0 m13_1) (b2 m14_0 m14_1) (b2m m15_0 m15_1) f17 (bA 159 q31) f32 f34 f35 f36 f37 (bN 7 q38) f39 f40 f41 (b2 m42_0 m42_1) f43 f44 f47 f48 f49 f50 f51 (bN 13 q54) (bN 120 g_8) (bN 120 g_9) g_10 (bN 120 q58) f59 f60 f64) H := hP
              have hD : va_D A (mo_w ad ck x0 (nI x16) (nI x18) (nI x19) x20 (nI x21) (nI x22) x23 x24 x25 (nI x26) x27 (nI x28) (nI x29) (nI x30) (nI x33) x45 (nI x46) (nI x52) (nI x53) (nI x61) (nI g_11) 0 (nI x65) x66 f1 f2 f3 (bN 3 q4) (bN 7 q5) (bN 7 q6) (bN 4 q7) f8 (bN 2 q9) (bH q10) f11 (b2 m12_0 m12_1) (b2 m13_0 m13_1) (b2 m14_0 m14_1) (b2m m15_0 m15_1) f17 (bA 159 q31) f32 f34 f35 f36 f37 (bN 7 q38) f39 f40 f41 (b2 m42_0 m42_1) f43 f44 f47 f48 f49 f50 f51 (bN 13 q54) (bN 120 g_8) (bN 120 g_9) g_10 (bN 120 q58) f59 f60 f64) := hD
              refine lv_goto (tgt := 166) hx hb dX9_layConditions_75 (by decide) ?_
              refine lv_iinc (v := (nI (g_13 + 1))) (lv' := [(3, .int (nI (g_13 + 1))), (5, .int (nI u_23)), (4, .int (nI (80 * x16 + 4 * a0 + g_13))), (0, .ref (ad 0)), (1, .int (nI a0)), (2, .int (nI a1))]) hx hb dX9_layConditions_166 hl (k := 5) rfl (nI_1 _) (by decide) rfl (fun ls hl => ?_)
              refine lv_goto (tgt := 2) hx hb dX9_layConditions_169 (by decide) ?_
              exact ih_15 (4 - (g_13 + 1)) (by omega) _ _ _ ⟨g_8, g_9, g_10, g_11, 0, (g_13 + 1), rfl, hg_11, (Nat.le_of_ble_eq_true rfl), (by omega), by omega, hP, hD, hS, lv_sub hl [3, 4, 5, 0] rfl⟩
            · refine lv_iconst (v := 1) hx hb dX9_layConditions_67 (by decide) ?_
              refine lv_goto (tgt := 72) hx hb dX9_layConditions_68 (by decide) ?_
              refine va_put (D := (dC, dI)) (ci := 9) (v := .int 1) (ty := .boolean) (C := RX9) (T := TX9) (N := 67) hx hb hts hiX9 tyX9 tyX9_ok nmX9 hown hK hP hD hS 0 rfl rfl 63 (by decide) v_18 (fun _ h9 => h9) rfl (by decide +kernel) rfl rfl (Nat.le_of_ble_eq_true rfl) dX9_layConditions_72 (fun H locs hP hD hS => ?_)
              have hP : va_P (dC, dI) vwCl (mo_w ad ck x0 (nI x16) (nI x18) (nI x19) x20 (nI x21) (nI x22) x23 x24 x25 (nI x26) x27 (nI x28) (nI x29) (nI x30) (nI x33) x45 (nI x46) (nI x52) (nI x53) (nI x61) (nI g_11) 1 (nI x65) x66 f1 f2 f3 (bN 3 q4) (bN 7 q5) (bN 7 q6) (bN 4 q7) f8 (bN 2 q9) (bH q10) f11 (b2 m12_0 m12_1) (b2 m13_0 m13_1) (b2 m14_0 m14_1) (b2m m15_0 m15_1) f17 (bA 159 q31) f32 f34 f35 f36 f37 (bN 7 q38) f39 f40 f41 (b2 m42_0 m42_1) f43 f44 f47 f48 f49 f50 f51 (bN 13 q54) (bN 120 g_8) (bN 120 g_9) g_10 (bN 120 q58) f59 f60 f64) H := hP
              have hD : va_D A (mo_w ad ck x0 (nI x16) (nI x18) (nI x19) x20 (nI x21) (nI x22) x23 x24 x25 (nI x26) x27 (nI x28) (nI x29) (nI x30) (nI x33) x45 (nI x46) (nI x52) (nI x53) (nI x61) (nI g_11) 1 (nI x65) x66 f1 f2 f3 (bN 3 q4) (bN 7 q5) (bN 7 q6) (bN 4 q7) f8 (bN 2 q9) (bH q10) f11 (b2 m12_0 m12_1) (b2 m13_0 m13_1) (b2 m14_0 m14_1) (b2m m15_0 m15_1) f17 (bA 159 q31) f32 f34 f35 f36 f37 (bN 7 q38) f39 f40 f41 (b2 m42_0 m42_1) f43 f44 f47 f48 f49 f50 f51 (bN 13 q54) (bN 120 g_8) (bN 120 g_9) g_10 (bN 120 q58) f59 f60 f64) := hD
              refine lv_goto (tgt := 166) hx hb dX9_layConditions_75 (by decide) ?_
              refine lv_iinc (v := (nI (g_13 + 1))) (lv' := [(3, .int (nI (g_13 + 1))), (5, .int (nI u_23)), (4, .int (nI (80 * x16 + 4 * a0 + g_13))), (0, .ref (ad 0)), (1, .int (nI a0)), (2, .int (nI a1))]) hx hb dX9_layConditions_166 hl (k := 5) rfl (nI_1 _) (by decide) rfl (fun ls hl => ?_)
              refine lv_goto (tgt := 2) hx hb dX9_layConditions_169 (by decide) ?_
              exact ih_15 (4 - (g_13 + 1)) (by omega) _ _ _ ⟨g_8, g_9, g_10, g_11, 1, (g_13 + 1), rfl, hg_11, (Nat.le_of_ble_eq_true rfl), (by omega), by omega, hP, hD, hS, lv_sub hl [3, 4, 5, 0] rfl⟩
abbrev vs_M_layConditions_p : List Cond := .code yX9_layConditions cX9_layConditions 6 none :: VM
theorem g_M_layConditions_p_M_manyOf_p : GoodIn vs_M_layConditions_p (wsV RX9 295 RX9 yX9_manyOf vs_M_manyOf_p) := gm_V vm_166 vm_167 vm_168 vm_12 vm_157
theorem g_M_layConditions_p_M_spot_p : GoodIn vs_M_layConditions_p (wsV RX9 311 RX9 yX9_spot vs_M_spot_p) := gm_V vm_173 vm_174 vm_175 vm_12 vm_164
theorem g_M_layConditions_p_M_holdsApart : GoodIn vs_M_layConditions_p (wsV RX9 438 RX9 yX9_holdsApart vs_M_holdsApart) := gm_V vm_335 vm_336 vm_337 vm_12 vm_328
set_option maxHeartbeats 4000000 in
set_option maxRecDepth 100000 in
theorem c_M_layConditions_p (l : Launch) (dC : Nat → ClassId) (dI : Nat → Nat → Nat) (sz : Nat) (ad : Nat → Nat) (ck : Nat → ClassId) (x0 : Int32) (x16 : Nat) (x18 : Nat) (x19 : Nat) (x20 : Int32) (x21 : Nat) (x22 : Nat) (x23 : Int32) (x24 : Int32) (x25 : Int32) (x26 : Nat) (x27 : Int32) (x28 : Nat) (x29 : Nat) (x30 : Nat) (x33 : Nat) (x45 : Int32) (x46 : Nat) (x52 : Nat) (x53 : Nat) (x61 : Nat) (x62 : Nat) (x63 : Nat) (x65 : Nat) (x66 : Int32) (f1 : Nat → Int32) (f2 : Nat → Int32) (f3 : Nat → Int32) (q4 : Nat → Nat) (q5 : Nat → Nat) (q6 : Nat → Nat) (q7 : Nat → Nat) (f8 : Nat → Int32) (q9 : Nat → Nat) (q10 : Nat → Nat) (f11 : Nat → Int32) (m12_0 m12_1 : Nat) (m13_0 m13_1 : Nat) (m14_0 m14_1 : Nat) (m15_0 m15_1 : Nat) (f17 : Nat → Int32) (q31 : Nat → Nat) (f32 : Nat → Int32) (f34 : Nat → Int32) (f35 : Nat → Int32) (f36 : Nat → Int32) (f37 : Nat → Int32) (q38 : Nat → Nat) (f39 : Nat → Int32) (f40 : Nat → Int32) (f41 : Nat → Int32) (m42_0 m42_1 : Nat) (f43 : Nat → Int32) (f44 : Nat → Int32) (f47 : Nat → Int32) (f48 : Nat → Int32) (f49 : Nat → Int32) (f50 : Nat → Int32) (f51 : Nat → Int32) (q54 : Nat → Nat) (q55 : Nat → Nat) (q56 : Nat → Nat) (f57 : Nat → Int32) (q58 : Nat → Nat) (f59 : Nat → Int32) (f60 : Nat → Int32) (f64 : Nat → Int32) (a0 : Nat) (a1 : Nat) (hx16 : x16 ≤ 1) (hx18 : x18 ≤ 900) (hx19 : x19 ≤ 900) (hx21 : x21 ≤ 900) (hx22 : x22 ≤ 4) (hx26 : x26 ≤ 6) (hx28 : x28 ≤ 1) (hx29 : x29 ≤ 1) (hx30 : x30 ≤ 1) (hx33 : x33 ≤ 20) (hx46 : x46 ≤ 5) (hx52 : x52 ≤ 2400) (hx53 : x53 ≤ 119) (hx61 : x61 ≤ 119) (hx62 : x62 ≤ 1990) (hx63 : x63 ≤ 1) (hx65 : x65 ≤ 7) (hm12_0 : m12_0 ≤ 3) (hm12_1 : m12_1 ≤ 3) (hm13_0 : m13_0 ≤ 8) (hm13_1 : m13_1 ≤ 8) (hm14_0 : m14_0 ≤ 14) (hm14_1 : m14_1 ≤ 14) (hm15_0 : m15_0 ≤ 8) (hm15_1 : m15_1 ≤ 8) (hm42_0 : m42_0 ≤ 120) (hm42_1 : m42_1 ≤ 400) (ha0 : a0 ≤ 107) (hb0 : 100 ≤ a0) (ha1 : a1 ≤ 119) : Met l yX9_layConditions vs_M_layConditions_p ({ frames := 3, cells := 0, slots := 0, locals := 64 }) (va_Pc [.ref (ad 0), .int (nI a0), .int (nI a1)] (pu_B (dC, dI) (mo_w ad ck x0 (nI x16) (nI x18) (nI x19) x20 (nI x21) (nI x22) x23 x24 x25 (nI x26) x27 (nI x28) (nI x29) (nI x30) (nI x33) x45 (nI x46) (nI x52) (nI x53) (nI x61) (nI x62) (nI x63) (nI x65) x66 f1 f2 f3 (bN 3 q4) (bN 7 q5) (bN 7 q6) (bN 4 q7) f8 (bN 2 q9) (bH q10) f11 (b2 m12_0 m12_1) (b2 m13_0 m13_1) (b2 m14_0 m14_1) (b2m m15_0 m15_1) f17 (bA 159 q31) f32 f34 f35 f36 f37 (bN 7 q38) f39 f40 f41 (b2 m42_0 m42_1) f43 f44 f47 f48 f49 f50 f51 (bN 13 q54) (bN 120 q55) (bN 120 q56) f57 (bN 120 q58) f59 f60 f64) (mo_t ck) sz)) (va_Qv (fun (_ : Unit) => True) (fun _ t => ∃ (z55 : Nat → Nat) (z56 : Nat → Nat) (z57 : Nat → Int32) (z62 : Nat) (z63 : Nat), pu_E (dC, dI) (mo_w ad ck x0 (nI x16) (nI x18) (nI x19) x20 (nI x21) (nI x22) x23 x24 x25 (nI x26) x27 (nI x28) (nI x29) (nI x30) (nI x33) x45 (nI x46) (nI x52) (nI x53) (nI x61) (nI z62) (nI z63) (nI x65) x66 f1 f2 f3 (bN 3 q4) (bN 7 q5) (bN 7 q6) (bN 4 q7) f8 (bN 2 q9) (bH q10) f11 (b2 m12_0 m12_1) (b2 m13_0 m13_1) (b2 m14_0 m14_1) (b2m m15_0 m15_1) f17 (bA 159 q31) f32 f34 f35 f36 f37 (bN 7 q38) f39 f40 f41 (b2 m42_0 m42_1) f43 f44 f47 f48 f49 f50 f51 (bN 13 q54) (bN 120 z55) (bN 120 z56) z57 (bN 120 q58) f59 f60 f64) (mo_t ck) (va_A ((mo_w ad ck x0 (nI x16) (nI x18) (nI x19) x20 (nI x21) (nI x22) x23 x24 x25 (nI x26) x27 (nI x28) (nI x29) (nI x30) (nI x33) x45 (nI x46) (nI x52) (nI x53) (nI x61) (nI x62) (nI x63) (nI x65) x66 f1 f2 f3 (bN 3 q4) (bN 7 q5) (bN 7 q6) (bN 4 q7) f8 (bN 2 q9) (bH q10) f11 (b2 m12_0 m12_1) (b2 m13_0 m13_1) (b2 m14_0 m14_1) (b2m m15_0 m15_1) f17 (bA 159 q31) f32 f34 f35 f36 f37 (bN 7 q38) f39 f40 f41 (b2 m42_0 m42_1) f43 f44 f47 f48 f49 f50 f51 (bN 13 q54) (bN 120 q55) (bN 120 q56) f57 (bN 120 q58) f59 f60 f64)) sz) t ∧ (z62 ≤ 2000) ∧ (z63 ≤ 1) ∧ (z62 ≤ x62 + 3)) (va_A ((mo_w ad ck x0 (nI x16) (nI x18) (nI x19) x20 (nI x21) (nI x22) x23 x24 x25 (nI x26) x27 (nI x28) (nI x29) (nI x30) (nI x33) x45 (nI x46) (nI x52) (nI x53) (nI x61) (nI x62) (nI x63) (nI x65) x66 f1 f2 f3 (bN 3 q4) (bN 7 q5) (bN 7 q6) (bN 4 q7) f8 (bN 2 q9) (bH q10) f11 (b2 m12_0 m12_1) (b2 m13_0 m13_1) (b2 m14_0 m14_1) (b2m m15_0 m15_1) f17 (bA 159 q31) f32 f34 f35 f36 f37 (bN 7 q38) f39 f40 f41 (b2 m42_0 m42_1) f43 f44 f47 f48 f49 f50 f51 (bN 13 q54) (bN 120 q55) (bN 120 q56) f57 (bN 120 q58) f59 f60 f64)) sz)) 0 0 (va_A ((mo_w ad ck x0 (nI x16) (nI x18) (nI x19) x20 (nI x21) (nI x22) x23 x24 x25 (nI x26) x27 (nI x28) (nI x29) (nI x30) (nI x33) x45 (nI x46) (nI x52) (nI x53) (nI x61) (nI x62) (nI x63) (nI x65) x66 f1 f2 f3 (bN 3 q4) (bN 7 q5) (bN 7 q6) (bN 4 q7) f8 (bN 2 q9) (bH q10) f11 (b2 m12_0 m12_1) (b2 m13_0 m13_1) (b2 m14_0 m14_1) (b2m m15_0 m15_1) f17 (bA 159 q31) f32 f34 f35 f36 f37 (bN 7 q38) f39 f40 f41 (b2 m42_0 m42_1) f43 f44 f47 f48 f49 f50 f51 (bN 13 q54) (bN 120 q55) (bN 120 q56) f57 (bN 120 q58) f59 f60 f64)) sz) := by
  refine Met.ofW (cc := cX9_layConditions) (maxL := 6) (ret := none) (by decide) rfl ?_
  intro p e s m args below meth c s₁ B hml hv
  obtain ⟨rfl, rfl, hP, hK, hD0⟩ := hv
  have hx := B.exec
  have hb := B.bytes
  have hr := B.returns
  have hts := atoms_spec (ws := vs_M_layConditions_p) B.pre
  have v_10 := hts (.fieldLink RX9 130 "ClockReachModel" "setAt" "[I") (List.mem_cons_of_mem _ vm_334)
  have v_11 := hts (.fieldLink RX9 34 "ClockReachModel" "ofClock" "[I") (List.mem_cons_of_mem _ vm_108)
  have v_12 := hts (.fieldLink RX9 37 "ClockReachModel" "how" "[I") (List.mem_cons_of_mem _ vm_115)
  have v_13 := hts (.fieldLink RX9 40 "ClockReachModel" "limit" "[I") (List.mem_cons_of_mem _ vm_116)
  have v_18 := hts (.fieldLink RX9 435 "ClockReachModel" "isBroken" "Z") (List.mem_cons_of_mem _ vm_338)
  have hown : s.vm.findClass RX9 = some m.cls := findClass_of_methodNamed B.named
  have hlocks := B.notSynchronized
  have hiX9 : ∀ w ∈ wsX90, w ∈ vs_M_layConditions_p := fun _ h => List.mem_cons_of_mem _ (List.mem_append_right _ h)
  have hD := hD0.self (sz := s.heap.size)
  generalize hAe : va_A ((mo_w ad ck x0 (nI x16) (nI x18) (nI x19) x20 (nI x21) (nI x22) x23 x24 x25 (nI x26) x27 (nI x28) (nI x29) (nI x30) (nI x33) x45 (nI x46) (nI x52) (nI x53) (nI x61) (nI x62) (nI x63) (nI x65) x66 f1 f2 f3 (bN 3 q4) (bN 7 q5) (bN 7 q6) (bN 4 q7) f8 (bN 2 q9) (bH q10) f11 (b2 m12_0 m12_1) (b2 m13_0 m13_1) (b2 m14_0 m14_1) (b2m m15_0 m15_1) f17 (bA 159 q31) f32 f34 f35 f36 f37 (bN 7 q38) f39 f40 f41 (b2 m42_0 m42_1) f43 f44 f47 f48 f49 f50 f51 (bN 13 q54) (bN 120 q55) (bN 120 q56) f57 (bN 120 q58) f59 f60 f64)) s.heap.size = A at hD ⊢
  have hA : ∀ q : Nat, s.heap.size ≤ q → A q := fun q h => by rw [← hAe]; exact Or.inr h
  have hS : va_S A s.heap s.heap [] := va_S.rf
  have hl := lv_entry ([.ref (ad 0), .int (nI a0), .int (nI a1)]) (n := 6) (Nat.le_of_ble_eq_true rfl)
  rw [lg_entry_eq]
  generalize (lg_sl ([.ref (ad 0), .int (nI a0), .int (nI a1)]) ++ List.replicate (6 - (lg_sl ([.ref (ad 0), .int (nI a0), .int (nI a1)])).length) Slot.unset).toArray = ls at hl ⊢
  have hl : lv_has ls 6 [(0, .ref (ad 0)), (1, .int (nI a0)), (2, .int (nI a1))] := hl
  refine lv_iconst (v := 0) hx hb dX9_layConditions_0 (by decide) ?_
  refine lv_istore_n (lv' := [(3, .int 0), (0, .ref (ad 0)), (1, .int (nI a0)), (2, .int (nI a1))]) hx hb dX9_layConditions_1 rfl hl (by decide) rfl (fun ls hl => ?_)
  refine pu_while (fun nn H locs ls => ∃ (g_8 : Nat → Nat) (g_9 : Nat → Nat) (g_10 : Nat → Int32) (g_11 : Nat) (g_12 : Nat) (g_13 : Nat), nn = 3 - g_13 ∧ g_11 ≤ 1998 ∧ g_12 ≤ 1 ∧ g_13 ≤ 3 ∧ g_11 ≤ x62 + g_13 ∧ va_P (dC, dI) vwCl (mo_w ad ck x0 (nI x16) (nI x18) (nI x19) x20 (nI x21) (nI x22) x23 x24 x25 (nI x26) x27 (nI x28) (nI x29) (nI x30) (nI x33) x45 (nI x46) (nI x52) (nI x53) (nI x61) (nI g_11) (nI g_12) (nI x65) x66 f1 f2 f3 (bN 3 q4) (bN 7 q5) (bN 7 q6) (bN 4 q7) f8 (bN 2 q9) (bH q10) f11 (b2 m12_0 m12_1) (b2 m13_0 m13_1) (b2 m14_0 m14_1) (b2m m15_0 m15_1) f17 (bA 159 q31) f32 f34 f35 f36 f37 (bN 7 q38) f39 f40 f41 (b2 m42_0 m42_1) f43 f44 f47 f48 f49 f50 f51 (bN 13 q54) (bN 120 g_8) (bN 120 g_9) g_10 (bN 120 q58) f59 f60 f64) H ∧ va_D A (mo_w ad ck x0 (nI x16) (nI x18) (nI x19) x20 (nI x21) (nI x22) x23 x24 x25 (nI x26) x27 (nI x28) (nI x29) (nI x30) (nI x33) x45 (nI x46) (nI x52) (nI x53) (nI x61) (nI g_11) (nI g_12) (nI x65) x66 f1 f2 f3 (bN 3 q4) (bN 7 q5) (bN 7 q6) (bN 4 q7) f8 (bN 2 q9) (bH q10) f11 (b2 m12_0 m12_1) (b2 m13_0 m13_1) (b2 m14_0 m14_1) (b2m m15_0 m15_1) f17 (bA 159 q31) f32 f34 f35 f36 f37 (bN 7 q38) f39 f40 f41 (b2 m42_0 m42_1) f43 f44 f47 f48 f49 f50 f51 (bN 13 q54) (bN 120 g_8) (bN 120 g_9) g_10 (bN 120 q58) f59 f60 f64) ∧ va_S A s.heap H locs ∧ lv_has ls 6 [(0, .ref (ad 0)), (1, .int (nI a0)), (2, .int (nI a1)), (3, .int (nI g_13))]) 2 ?_ _ _ _ _ ⟨q55, q56, f57, x62, x63, 0, rfl, (Nat.le_trans hx62 (Nat.le_of_ble_eq_true rfl)), hx63, (Nat.le_of_ble_eq_true rfl), by omega, hP, hD, hS, lv_sub hl [1, 2, 3, 0] rfl⟩
  rintro nn ih_15 H locs ls ⟨g_8, g_9, g_10, g_11, g_12, g_13, rfl, hg_11, hg_12, hg_13, he_14, hP, hD, hS, hl⟩
  refine lv_iload_n hx hb dX9_layConditions_2 rfl (lv_at hl 3 rfl) ?_
  refine lv_aload_n hx hb dX9_layConditions_3 rfl (lv_at hl 0 rfl) ?_
  refine lv_iload_n hx hb dX9_layConditions_4 rfl (lv_at hl 1 rfl) ?_
  refine va_calli (va_runV (As := [.int (nI a0)]) (rest := [.int (nI g_13)]) ⟨hx, hb, hml, hown, hts⟩ (c_M_manyOf_p l dC dI _ ad ck x0 x16 x18 x19 x20 x21 x22 x23 x24 x25 x26 x27 x28 x29 x30 x33 x45 x46 x52 x53 x61 g_11 g_12 x65 x66 f1 f2 f3 q4 q5 q6 q7 f8 q9 q10 f11 m12_0 m12_1 m13_0 m13_1 m14_0 m14_1 m15_0 m15_1 f17 q31 f32 f34 f35 f36 f37 q38 f39 f40 f41 m42_0 m42_1 f43 f44 f47 f48 f49 f50 f51 q54 g_8 g_9 g_10 q58 f59 f60 f64 a0 hx16 hx18 hx19 hx21 hx22 hx26 hx28 hx29 hx30 hx33 hx46 hx52 hx53 hx61 (Nat.le_trans hg_11 (Nat.le_of_ble_eq_true rfl)) hg_12 hx65 hm12_0 hm12_1 hm13_0 hm13_1 hm14_0 hm14_1 hm15_0 hm15_1 hm42_0 hm42_1 ha0 (by omega)) (cwV 1 hts g_M_layConditions_p_M_manyOf_p rfl rfl rfl (by decide +kernel) ⟨Nat.le_of_ble_eq_true rfl, Nat.le_of_ble_eq_true rfl⟩) ⟨pu_bl, va_recv hK hP (ci := 9) (q0 := 0) rfl rfl, pu_in hP hK hD⟩ rfl rfl hl.1 rfl (lv_room (Nat.le_of_ble_eq_true rfl)) dX9_layConditions_5 ⟨Nat.le_of_ble_eq_true rfl, Nat.le_of_ble_eq_true rfl⟩) hS (fun q _ h => pu_fr hS hA q h) (pu_fr hS hA) (fun r_16 u t H1 locs ht hvm hw hB hz1 hk1 hS => ?_)
  have hP := pu_keep hP hk1
  clear hk1 hz1 ht hvm
  generalize H1 = H at hP hS ⊢
  rcases hw with rfl | ⟨u_17, hu_17, rfl⟩
  · refine lv_icmp_ge (tgt := 172) hx hb dX9_layConditions_8 (by decide) (fun _ => ?_) (fun z => absurd (pu_negle (n := g_13) (by omega) (by decide)) z)
    exact W.vret hx hb hr (fun t ht hW => ⟨⟨(), rfl, trivial, ⟨g_8, g_9, g_10, g_11, g_12, ⟨by rw [ht]; exact hP, va_K.moved hW.alike hK, hD⟩, (Nat.le_trans hg_11 (Nat.le_of_ble_eq_true rfl)), hg_12, by omega⟩⟩, hS.F ht⟩) hS.2.2 dX9_layConditions_172
  · refine lv_icmp_ge (tgt := 172) hx hb dX9_layConditions_8 (by decide) (fun c_18 => ?_) (fun c_18 => ?_)
    · have c_18 : u_17 ≤ g_13 := (nI_leI (a := u_17) (b := g_13) (Nat.lt_of_le_of_lt hu_17 (Nat.le_of_ble_eq_true rfl)) (Nat.lt_of_le_of_lt hg_13 (Nat.le_of_ble_eq_true rfl))).mp c_18
      exact W.vret hx hb hr (fun t ht hW => ⟨⟨(), rfl, trivial, ⟨g_8, g_9, g_10, g_11, g_12, ⟨by rw [ht]; exact hP, va_K.moved hW.alike hK, hD⟩, (Nat.le_trans hg_11 (Nat.le_of_ble_eq_true rfl)), hg_12, by omega⟩⟩, hS.F ht⟩) hS.2.2 dX9_layConditions_172
    · have c_18 : ¬ u_17 ≤ g_13 := fun z => c_18 ((nI_leI (a := u_17) (b := g_13) (Nat.lt_of_le_of_lt hu_17 (Nat.le_of_ble_eq_true rfl)) (Nat.lt_of_le_of_lt hg_13 (Nat.le_of_ble_eq_true rfl))).mpr z)
      refine lv_aload_n hx hb dX9_layConditions_11 rfl (lv_at hl 0 rfl) ?_
      refine lv_iload_n hx hb dX9_layConditions_12 rfl (lv_at hl 1 rfl) ?_
      refine lv_iload_n hx hb dX9_layConditions_13 rfl (lv_at hl 3 rfl) ?_
      refine va_calli (va_runV (As := [.int (nI a0), .int (nI g_13)]) (rest := []) ⟨hx, hb, hml, hown, hts⟩ (c_M_spot_p l dC dI _ ad ck x0 x16 x18 x19 x20 x21 x22 x23 x24 x25 x26 x27 x28 x29 x30 x33 x45 x46 x52 x53 x61 g_11 g_12 x65 x66 f1 f2 f3 q4 q5 q6 q7 f8 q9 q10 f11 m12_0 m12_1 m13_0 m13_1 m14_0 m14_1 m15_0 m15_1 f17 q31 f32 f34 f35 f36 f37 q38 f39 f40 f41 m42_0 m42_1 f43 f44 f47 f48 f49 f50 f51 q54 g_8 g_9 g_10 q58 f59 f60 f64 a0 g_13 hx16 hx18 hx19 hx21 hx22 hx26 hx28 hx29 hx30 hx33 hx46 hx52 hx53 hx61 (Nat.le_trans hg_11 (Nat.le_of_ble_eq_true rfl)) hg_12 hx65 hm12_0 hm12_1 hm13_0 hm13_1 hm14_0 hm14_1 hm15_0 hm15_1 hm42_0 hm42_1 ha0 (by omega) (by omega)) (cwV 2 hts g_M_layConditions_p_M_spot_p rfl rfl rfl (by decide +kernel) ⟨Nat.le_of_ble_eq_true rfl, Nat.le_of_ble_eq_true rfl⟩) ⟨pu_bl, va_recv hK hP (ci := 9) (q0 := 0) rfl rfl, pu_in hP hK hD⟩ rfl rfl hl.1 rfl (lv_room (Nat.le_of_ble_eq_true rfl)) dX9_layConditions_14 ⟨Nat.le_of_ble_eq_true rfl, Nat.le_of_ble_eq_true rfl⟩) hS (fun q _ h => pu_fr hS hA q h) (pu_fr hS hA) (fun r_19 u t H1 locs ht hvm hw hB hz1 hk1 hS => ?_)
      have hP := pu_keep hP hk1
      clear hk1 hz1 ht hvm
      generalize H1 = H at hP hS ⊢
      obtain rfl : r_19 = nI (80 * x16 + (56 + 3 * (a0 - 100)) + g_13) := hw
      refine lv_istore (lv' := [(4, .int (nI (80 * x16 + (56 + 3 * (a0 - 100)) + g_13))), (0, .ref (ad 0)), (1, .int (nI a0)), (2, .int (nI a1)), (3, .int (nI g_13))]) hx hb dX9_layConditions_17 hl (by decide) rfl (fun ls hl => ?_)
      refine lv_aload_n hx hb dX9_layConditions_19 rfl (lv_at hl 1 rfl) ?_
      refine va_get (D := (dC, dI)) (ci := 9) (v := .ref (ad 58)) (C := RX9) (T := TX9) (N := 67) hx hb hts hiX9 hown hK hP 0 rfl rfl 58 (by decide) v_10 (fun _ h9 => h9) rfl dX9_layConditions_20 ?_
      refine lv_aload_n hx hb dX9_layConditions_23 rfl (lv_at hl 1 rfl) ?_
      refine va_get (D := (dC, dI)) (ci := 9) (v := .ref (ad 9)) (C := RX9) (T := TX9) (N := 67) hx hb hts hiX9 hown hK hP 0 rfl rfl 9 (by decide) v_11 (fun _ h9 => h9) rfl dX9_layConditions_24 ?_
      refine lv_iload hx hb dX9_layConditions_27 (lv_at hl 0 rfl) ?_
      refine va_iald hx hb hK hP 9 8 rfl rfl (vp_in_nI (n := (80 * x16 + (56 + 3 * (a0 - 100)) + g_13)) (by omega) (Nat.le_of_ble_eq_true rfl)) dX9_layConditions_29 ?_
      refine lv_topi (fun y_20 ey_20 => ?_)
      obtain ⟨u_21, hu_21, qu_21⟩ := bN_get 2 q9 (((nI (80 * x16 + (56 + 3 * (a0 - 100)) + g_13)) : Int32).toNatClampNeg)
      obtain rfl : y_20 = nI u_21 := ey_20.trans qu_21
      refine va_iald hx hb hK hP 39 38 rfl rfl (vp_in_nI (n := u_21) (Nat.lt_of_le_of_lt hu_21 (Nat.le_of_ble_eq_true rfl)) (Nat.le_of_ble_eq_true rfl)) dX9_layConditions_30 ?_
      refine lv_topi (fun y_22 ey_22 => ?_)
      obtain ⟨u_23, hu_23, qu_23⟩ := bN_get 120 q58 (((nI u_21) : Int32).toNatClampNeg)
      obtain rfl : y_22 = nI u_23 := ey_22.trans qu_23
      refine lv_istore (lv' := [(5, .int (nI u_23)), (4, .int (nI (80 * x16 + (56 + 3 * (a0 - 100)) + g_13))), (0, .ref (ad 0)), (1, .int (nI a0)), (2, .int (nI a1)), (3, .int (nI g_13))]) hx hb dX9_layConditions_31 hl (by decide) rfl (fun ls hl => ?_)
      refine lv_iload hx hb dX9_layConditions_33 (lv_at hl 0 rfl) ?_
      refine lv_iload_n hx hb dX9_layConditions_35 rfl (lv_at hl 4 rfl) ?_
      refine lv_icmp_ne (tgt := 78) hx hb dX9_layConditions_36 (by decide) (fun c_24 => ?_) (fun c_24 => ?_)
      · have c_24 : ¬ u_23 = a1 := fun z => c_24 ((nI_eq (a := u_23) (b := a1) (Nat.lt_of_le_of_lt hu_23 (Nat.le_of_ble_eq_true rfl)) (Nat.lt_of_le_of_lt ha1 (Nat.le_of_ble_eq_true rfl))).mpr z)
        refine lv_aload_n hx hb dX9_layConditions_78 rfl (lv_at hl 2 rfl) ?_
        refine va_get (D := (dC, dI)) (ci := 9) (v := .ref (ad 10)) (C := RX9) (T := TX9) (N := 67) hx hb hts hiX9 hown hK hP 0 rfl rfl 10 (by decide) v_12 (fun _ h9 => h9) rfl dX9_layConditions_79 ?_
        refine lv_iload hx hb dX9_layConditions_82 (lv_at hl 1 rfl) ?_
        refine va_iald hx hb hK hP 10 9 rfl rfl (vp_in_nI (n := (80 * x16 + (56 + 3 * (a0 - 100)) + g_13)) (by omega) (Nat.le_of_ble_eq_true rfl)) dX9_layConditions_84 ?_
        refine lv_topi (fun y_25 ey_25 => ?_)
        obtain ⟨u_26, hu_26, qu_26⟩ := bH_get q10 (i := (80 * x16 + (56 + 3 * (a0 - 100)) + g_13)) (by omega)
        obtain rfl : y_25 = nI u_26 := ey_25.trans qu_26
        have hu_26 : u_26 ≤ 1 := (hu_26.2).resolve_left (how_p hx16 (by omega) (by omega))
        refine lv_iconst (v := 2) hx hb dX9_layConditions_85 (by decide) ?_
        refine lv_icmp_gt (tgt := 121) hx hb dX9_layConditions_86 (by decide) (fun c_27 => ?_) (fun c_27 => ?_)
        · have c_27 : 2 < u_26 := (nI_ltI (a := 2) (b := u_26) (Nat.le_of_ble_eq_true rfl) (by omega)).mp c_27
          exfalso
          omega
        · have c_27 : ¬ 2 < u_26 := fun z => c_27 ((nI_ltI (a := 2) (b := u_26) (Nat.le_of_ble_eq_true rfl) (by omega)).mpr z)
          refine lv_aload_n hx hb dX9_layConditions_89 rfl (lv_at hl 2 rfl) ?_
          refine lv_iload_n hx hb dX9_layConditions_90 rfl (lv_at hl 4 rfl) ?_
          refine lv_iload hx hb dX9_layConditions_91 (lv_at hl 0 rfl) ?_
          refine lv_iconst (v := 2) hx hb dX9_layConditions_93 (by decide) ?_
          refine lv_aload_n hx hb dX9_layConditions_94 rfl (lv_at hl 2 rfl) ?_
          refine va_get (D := (dC, dI)) (ci := 9) (v := .ref (ad 11)) (C := RX9) (T := TX9) (N := 67) hx hb hts hiX9 hown hK hP 0 rfl rfl 11 (by decide) v_13 (fun _ h9 => h9) rfl dX9_layConditions_95 ?_
          refine lv_iload hx hb dX9_layConditions_98 (lv_at hl 1 rfl) ?_
          refine va_iald hx hb hK hP 11 10 rfl rfl (vp_in_nI (n := (80 * x16 + (56 + 3 * (a0 - 100)) + g_13)) (by omega) (Nat.le_of_ble_eq_true rfl)) dX9_layConditions_100 ?_
          refine lv_topi (fun y_28 ey_28 => ?_)
          refine lv_imul hx hb dX9_layConditions_101 ?_
          refine lv_topi (fun y_29 ey_29 => ?_)
          refine lv_aload_n hx hb dX9_layConditions_102 rfl (lv_at hl 2 rfl) ?_
          refine va_get (D := (dC, dI)) (ci := 9) (v := .ref (ad 10)) (C := RX9) (T := TX9) (N := 67) hx hb hts hiX9 hown hK hP 0 rfl rfl 10 (by decide) v_12 (fun _ h9 => h9) rfl dX9_layConditions_103 ?_
          refine lv_iload hx hb dX9_layConditions_106 (lv_at hl 1 rfl) ?_
          refine va_iald hx hb hK hP 10 9 rfl rfl (vp_in_nI (n := (80 * x16 + (56 + 3 * (a0 - 100)) + g_13)) (by omega) (Nat.le_of_ble_eq_true rfl)) dX9_layConditions_108 ?_
          refine lv_topi (fun y_30 ey_30 => ?_)
          obtain rfl : y_30 = nI u_26 := ey_30.trans qu_26
          refine lv_if_ne (tgt := 116) hx hb dX9_layConditions_109 (by decide) (fun c_32 => ?_) (fun c_32 => ?_)
          · have c_32 : ¬ u_26 = 0 := fun z => c_32 ((nI_eq (a := u_26) (b := 0) (by omega) (Nat.le_of_ble_eq_true rfl)).mpr z)
            refine lv_iconst (v := 1) hx hb dX9_layConditions_116 (by decide) ?_
            refine lv_iadd hx hb dX9_layConditions_117 ?_
            refine lv_topi (fun y_33 ey_33 => ?_)
            have hFc := pu_free hD hS hA
            refine va_callv (va_runV (As := [.int (nI a1), .int (nI u_23), .int y_33]) (rest := []) ⟨hx, hb, hml, hown, hts⟩ (c_M_holdsApart l dC dI _ ad ck x0 x16 x18 x19 x20 x21 x22 x23 x24 x25 x26 x27 x28 x29 x30 x33 x45 x46 x52 x53 x61 g_11 g_12 x65 x66 f1 f2 f3 q4 q5 q6 q7 f8 q9 q10 f11 m12_0 m12_1 m13_0 m13_1 m14_0 m14_1 m15_0 m15_1 f17 q31 f32 f34 f35 f36 f37 q38 f39 f40 f41 m42_0 m42_1 f43 f44 f47 f48 f49 f50 f51 q54 g_8 g_9 g_10 q58 f59 f60 f64 a1 u_23 y_33 hx16 hx18 hx19 hx21 hx22 hx26 hx28 hx29 hx30 hx33 hx46 hx52 hx53 hx61 (Nat.le_trans hg_11 (Nat.le_of_ble_eq_true rfl)) hg_12 hx65 hm12_0 hm12_1 hm13_0 hm13_1 hm14_0 hm14_1 hm15_0 hm15_1 hm42_0 hm42_1 (Nat.le_trans ha1 (Nat.le_of_ble_eq_true rfl)) hu_23) (cwV 3 hts g_M_layConditions_p_M_holdsApart rfl rfl rfl (by decide +kernel) ⟨Nat.le_of_ble_eq_true rfl, Nat.le_of_ble_eq_true rfl⟩) ⟨pu_bl, va_recv hK hP (ci := 9) (q0 := 0) rfl rfl, pu_in hP hK hD⟩ rfl rfl hl.1 rfl (lv_room (Nat.le_of_ble_eq_true rfl)) dX9_layConditions_118 ⟨Nat.le_of_ble_eq_true rfl, Nat.le_of_ble_eq_true rfl⟩) hS (fun q _ h => hFc q h) hFc (fun u t H1 locs ht hvm hw hB hz1 hk1 hS => ?_)
            obtain ⟨z55_35, z56_36, z57_37, ⟨hP1, -, hD1⟩⟩ := hB
            rw [ht] at hP1
            have hP := hP1
            have hD := pu_all hFc hD1
            clear hP1 hD1 hFc
            clear hk1 hz1 ht hvm
            generalize H1 = H at hP hS ⊢
            refine lv_aload_n hx hb dX9_layConditions_121 rfl (lv_at hl 2 rfl) ?_
            refine va_get (D := (dC, dI)) (ci := 9) (v := .ref (ad 10)) (C := RX9) (T := TX9) (N := 67) hx hb hts hiX9 hown hK hP 0 rfl rfl 10 (by decide) v_12 (fun _ h9 => h9) rfl dX9_layConditions_122 ?_
            refine lv_iload hx hb dX9_layConditions_125 (lv_at hl 1 rfl) ?_
            refine va_iald hx hb hK hP 10 9 rfl rfl (vp_in_nI (n := (80 * x16 + (56 + 3 * (a0 - 100)) + g_13)) (by omega) (Nat.le_of_ble_eq_true rfl)) dX9_layConditions_127 ?_
            refine lv_topi (fun y_38 ey_38 => ?_)
            obtain rfl : y_38 = nI u_26 := ey_38.trans qu_26
            refine lv_iconst (v := 2) hx hb dX9_layConditions_128 (by decide) ?_
            refine lv_icmp_lt (tgt := 166) hx hb dX9_layConditions_129 (by decide) (fun c_40 => ?_) (fun c_40 => ?_)
            · have c_40 : u_26 < 2 := (nI_ltI (a := u_26) (b := 2) (by omega) (Nat.le_of_ble_eq_true rfl)).mp c_40
              refine lv_iinc (v := (nI (g_13 + 1))) (lv' := [(3, .int (nI (g_13 + 1))), (5, .int (nI u_23)), (4, .int (nI (80 * x16 + (56 + 3 * (a0 - 100)) + g_13))), (0, .ref (ad 0)), (1, .int (nI a0)), (2, .int (nI a1))]) hx hb dX9_layConditions_166 hl (k := 5) rfl (nI_1 _) (by decide) rfl (fun ls hl => ?_)
              refine lv_goto (tgt := 2) hx hb dX9_layConditions_169 (by decide) ?_
              exact ih_15 (3 - (g_13 + 1)) (by omega) _ _ _ ⟨z55_35, z56_36, z57_37, (g_11 + 1), g_12, (g_13 + 1), rfl, (by omega), hg_12, (by omega), by omega, hP, hD, hS, lv_sub hl [3, 4, 5, 0] rfl⟩
            · have c_40 : ¬ u_26 < 2 := fun z => c_40 ((nI_ltI (a := u_26) (b := 2) (by omega) (Nat.le_of_ble_eq_true rfl)).mpr z)
              exfalso
              omega
          · have c_32 : u_26 = 0 := (nI_eq (a := u_26) (b := 0) (by omega) (Nat.le_of_ble_eq_true rfl)).mp c_32
            refine lv_iconst (v := 0) hx hb dX9_layConditions_112 (by decide) ?_
            refine lv_goto (tgt := 117) hx hb dX9_layConditions_113 (by decide) ?_
            refine lv_iadd hx hb dX9_layConditions_117 ?_
            refine lv_topi (fun y_41 ey_41 => ?_)
            have hFc := pu_free hD hS hA
            refine va_callv (va_runV (As := [.int (nI a1), .int (nI u_23), .int y_41]) (rest := []) ⟨hx, hb, hml, hown, hts⟩ (c_M_holdsApart l dC dI _ ad ck x0 x16 x18 x19 x20 x21 x22 x23 x24 x25 x26 x27 x28 x29 x30 x33 x45 x46 x52 x53 x61 g_11 g_12 x65 x66 f1 f2 f3 q4 q5 q6 q7 f8 q9 q10 f11 m12_0 m12_1 m13_0 m13_1 m14_0 m14_1 m15_0 m15_1 f17 q31 f32 f34 f35 f36 f37 q38 f39 f40 f41 m42_0 m42_1 f43 f44 f47 f48 f49 f50 f51 q54 g_8 g_9 g_10 q58 f59 f60 f64 a1 u_23 y_41 hx16 hx18 hx19 hx21 hx22 hx26 hx28 hx29 hx30 hx33 hx46 hx52 hx53 hx61 (Nat.le_trans hg_11 (Nat.le_of_ble_eq_true rfl)) hg_12 hx65 hm12_0 hm12_1 hm13_0 hm13_1 hm14_0 hm14_1 hm15_0 hm15_1 hm42_0 hm42_1 (Nat.le_trans ha1 (Nat.le_of_ble_eq_true rfl)) hu_23) (cwV 3 hts g_M_layConditions_p_M_holdsApart rfl rfl rfl (by decide +kernel) ⟨Nat.le_of_ble_eq_true rfl, Nat.le_of_ble_eq_true rfl⟩) ⟨pu_bl, va_recv hK hP (ci := 9) (q0 := 0) rfl rfl, pu_in hP hK hD⟩ rfl rfl hl.1 rfl (lv_room (Nat.le_of_ble_eq_true rfl)) dX9_layConditions_118 ⟨Nat.le_of_ble_eq_true rfl, Nat.le_of_ble_eq_true rfl⟩) hS (fun q _ h => hFc q h) hFc (fun u t H1 locs ht hvm hw hB hz1 hk1 hS => ?_)
            obtain ⟨z55_43, z56_44, z57_45, ⟨hP1, -, hD1⟩⟩ := hB
            rw [ht] at hP1
            have hP := hP1
            have hD := pu_all hFc hD1
            clear hP1 hD1 hFc
            clear hk1 hz1 ht hvm
            generalize H1 = H at hP hS ⊢
            refine lv_aload_n hx hb dX9_layConditions_121 rfl (lv_at hl 2 rfl) ?_
            refine va_get (D := (dC, dI)) (ci := 9) (v := .ref (ad 10)) (C := RX9) (T := TX9) (N := 67) hx hb hts hiX9 hown hK hP 0 rfl rfl 10 (by decide) v_12 (fun _ h9 => h9) rfl dX9_layConditions_122 ?_
            refine lv_iload hx hb dX9_layConditions_125 (lv_at hl 1 rfl) ?_
            refine va_iald hx hb hK hP 10 9 rfl rfl (vp_in_nI (n := (80 * x16 + (56 + 3 * (a0 - 100)) + g_13)) (by omega) (Nat.le_of_ble_eq_true rfl)) dX9_layConditions_127 ?_
            refine lv_topi (fun y_46 ey_46 => ?_)
            obtain rfl : y_46 = nI u_26 := ey_46.trans qu_26
            refine lv_iconst (v := 2) hx hb dX9_layConditions_128 (by decide) ?_
            refine lv_icmp_lt (tgt := 166) hx hb dX9_layConditions_129 (by decide) (fun c_48 => ?_) (fun c_48 => ?_)
            · have c_48 : u_26 < 2 := (nI_ltI (a := u_26) (b := 2) (by omega) (Nat.le_of_ble_eq_true rfl)).mp c_48
              refine lv_iinc (v := (nI (g_13 + 1))) (lv' := [(3, .int (nI (g_13 + 1))), (5, .int (nI u_23)), (4, .int (nI (80 * x16 + (56 + 3 * (a0 - 100)) + g_13))), (0, .ref (ad 0)), (1, .int (nI a0)), (2, .int (nI a1))]) hx hb dX9_layConditions_166 hl (k := 5) rfl (nI_1 _) (by decide) rfl (fun ls hl => ?_)
              refine lv_goto (tgt := 2) hx hb dX9_layConditions_169 (by decide) ?_
              exact ih_15 (3 - (g_13 + 1)) (by omega) _ _ _ ⟨z55_43, z56_44, z57_45, (g_11 + 1), g_12, (g_13 + 1), rfl, (by omega), hg_12, (by omega), by omega, hP, hD, hS, lv_sub hl [3, 4, 5, 0] rfl⟩
            · have c_48 : ¬ u_26 < 2 := fun z => c_48 ((nI_ltI (a := u_26) (b := 2) (by omega) (Nat.le_of_ble_eq_true rfl)).mpr z)
              exfalso
              omega
      · have c_24 : u_23 = a1 := (nI_eq (a := u_23) (b := a1) (Nat.lt_of_le_of_lt hu_23 (Nat.le_of_ble_eq_true rfl)) (Nat.lt_of_le_of_lt ha1 (Nat.le_of_ble_eq_true rfl))).mp c_24
        refine lv_aload_n hx hb dX9_layConditions_39 rfl (lv_at hl 2 rfl) ?_
        refine lv_aload_n hx hb dX9_layConditions_40 rfl (lv_at hl 2 rfl) ?_
        refine va_get (D := (dC, dI)) (ci := 9) (v := .int (nI g_12)) (C := RX9) (T := TX9) (N := 67) hx hb hts hiX9 hown hK hP 0 rfl rfl 63 (by decide) v_18 (fun _ h9 => h9) rfl dX9_layConditions_41 ?_
        refine lv_if_ne (tgt := 67) hx hb dX9_layConditions_44 (by decide) (fun c_49 => ?_) (fun c_49 => ?_)
        · have c_49 : ¬ g_12 = 0 := fun z => c_49 ((nI_eq (a := g_12) (b := 0) (Nat.lt_of_le_of_lt hg_12 (Nat.le_of_ble_eq_true rfl)) (Nat.le_of_ble_eq_true rfl)).mpr z)
          refine lv_iconst (v := 1) hx hb dX9_layConditions_67 (by decide) ?_
          refine lv_goto (tgt := 72) hx hb dX9_layConditions_68 (by decide) ?_
          refine va_put (D := (dC, dI)) (ci := 9) (v := .int 1) (ty := .boolean) (C := RX9) (T := TX9) (N := 67) hx hb hts hiX9 tyX9 tyX9_ok nmX9 hown hK hP hD hS 0 rfl rfl 63 (by decide) v_18 (fun _ h9 => h9) rfl (by decide +kernel) rfl rfl (Nat.le_of_ble_eq_true rfl) dX9_layConditions_72 (fun H locs hP hD hS => ?_)
          have hP : va_P (dC, dI) vwCl (mo_w ad ck x0 (nI x16) (nI x18) (nI x19) x20 (nI x21) (nI x22) x23 x24 x25 (nI x26) x27 (nI x28) (nI x29) (nI x30) (nI x33) x45 (nI x46) (nI x52) (nI x53) (nI x61) (nI g_11) 1 (nI x65) x66 f1 f2 f3 (bN 3 q4) (bN 7 q5) (bN 7 q6) (bN 4 q7) f8 (bN 2 q9) (bH q10) f11 (b2 m12_0 m12_1) (b2 m13_0 m13_1) (b2 m14_0 m14_1) (b2m m15_0 m15_1) f17 (bA 159 q31) f32 f34 f35 f36 f37 (bN 7 q38) f39 f40 f41 (b2 m42_0 m42_1) f43 f44 f47 f48 f49 f50 f51 (bN 13 q54) (bN 120 g_8) (bN 120 g_9) g_10 (bN 120 q58) f59 f60 f64) H := hP
          have hD : va_D A (mo_w ad ck x0 (nI x16) (nI x18) (nI x19) x20 (nI x21) (nI x22) x23 x24 x25 (nI x26) x27 (nI x28) (nI x29) (nI x30) (nI x33) x45 (nI x46) (nI x52) (nI x53) (nI x61) (nI g_11) 1 (nI x65) x66 f1 f2 f3 (bN 3 q4) (bN 7 q5) (bN 7 q6) (bN 4 q7) f8 (bN 2 q9) (bH q10) f11 (b2 m12_0 m12_1) (b2 m13_0 m13_1) (b2 m14_0 m14_1) (b2m m15_0 m15_1) f17 (bA 159 q31) f32 f34 f35 f36 f37 (bN 7 q38) f39 f40 f41 (b2 m42_0 m42_1) f43 f44 f47 f48 f49 f50 f51 (bN 13 q54) (bN 120 g_8) (bN 120 g_9) g_10 (bN 120 q58) f59 f60 f64) := hD
          refine lv_goto (tgt := 166) hx hb dX9_layConditions_75 (by decide) ?_
          refine lv_iinc (v := (nI (g_13 + 1))) (lv' := [(3, .int (nI (g_13 + 1))), (5, .int (nI u_23)), (4, .int (nI (80 * x16 + (56 + 3 * (a0 - 100)) + g_13))), (0, .ref (ad 0)), (1, .int (nI a0)), (2, .int (nI a1))]) hx hb dX9_layConditions_166 hl (k := 5) rfl (nI_1 _) (by decide) rfl (fun ls hl => ?_)
          refine lv_goto (tgt := 2) hx hb dX9_layConditions_169 (by decide) ?_
          exact ih_15 (3 - (g_13 + 1)) (by omega) _ _ _ ⟨g_8, g_9, g_10, g_11, 1, (g_13 + 1), rfl, hg_11, (Nat.le_of_ble_eq_true rfl), (by omega), by omega, hP, hD, hS, lv_sub hl [3, 4, 5, 0] rfl⟩
        · have c_49 : g_12 = 0 := (nI_eq (a := g_12) (b := 0) (Nat.lt_of_le_of_lt hg_12 (Nat.le_of_ble_eq_true rfl)) (Nat.le_of_ble_eq_true rfl)).mp c_49
          refine lv_aload_n hx hb dX9_layConditions_47 rfl (lv_at hl 2 rfl) ?_
          refine va_get (D := (dC, dI)) (ci := 9) (v := .ref (ad 10)) (C := RX9) (T := TX9) (N := 67) hx hb hts hiX9 hown hK hP 0 rfl rfl 10 (by decide) v_12 (fun _ h9 => h9) rfl dX9_layConditions_48 ?_
          refine lv_iload hx hb dX9_layConditions_51 (lv_at hl 1 rfl) ?_
          refine va_iald hx hb hK hP 10 9 rfl rfl (vp_in_nI (n := (80 * x16 + (56 + 3 * (a0 - 100)) + g_13)) (by omega) (Nat.le_of_ble_eq_true rfl)) dX9_layConditions_53 ?_
          refine lv_topi (fun y_50 ey_50 => ?_)
          obtain ⟨u_51, hu_51, qu_51⟩ := bH_get q10 (i := (80 * x16 + (56 + 3 * (a0 - 100)) + g_13)) (by omega)
          obtain rfl : y_50 = nI u_51 := ey_50.trans qu_51
          have hu_51 : u_51 ≤ 1 := (hu_51.2).resolve_left (how_p hx16 (by omega) (by omega))
          refine lv_if_ne (tgt := 71) hx hb dX9_layConditions_54 (by decide) (fun c_52 => ?_) (fun c_52 => ?_)
          · have c_52 : ¬ u_51 = 0 := fun z => c_52 ((nI_eq (a := u_51) (b := 0) (by omega) (Nat.le_of_ble_eq_true rfl)).mpr z)
            refine lv_iconst (v := 0) hx hb dX9_layConditions_71 (by decide) ?_
            refine va_put (D := (dC, dI)) (ci := 9) (v := .int 0) (ty := .boolean) (C := RX9) (T := TX9) (N := 67) hx hb hts hiX9 tyX9 tyX9_ok nmX9 hown hK hP hD hS 0 rfl rfl 63 (by decide) v_18 (fun _ h9 => h9) rfl (by decide +kernel) rfl rfl (Nat.le_of_ble_eq_true rfl) dX9_layConditions_72 (fun H locs hP hD hS => ?_)
            have hP : va_P (dC, dI) vwCl (mo_w ad ck x0 (nI x16) (nI x18) (nI x19) x20 (nI x21) (nI x22) x23 x24 x25 (nI x26) x27 (nI x28) (nI x29) (nI x30) (nI x33) x45 (nI x46) (nI x52) (nI x53) (nI x61) (nI g_11) 0 (nI x65) x66 f1 f2 f3 (bN 3 q4) (bN 7 q5) (bN 7 q6) (bN 4 q7) f8 (bN 2 q9) (bH q10) f11 (b2 m12_0 m12_1) (b2 m13_0 m13_1) (b2 m14_0 m14_1) (b2m m15_0 m15_1) f17 (bA 159 q31) f32 f34 f35 f36 f37 (bN 7 q38) f39 f40 f41 (b2 m42_0 m42_1) f43 f44 f47 f48 f49 f50 f51 (bN 13 q54) (bN 120 g_8) (bN 120 g_9) g_10 (bN 120 q58) f59 f60 f64) H := hP
            have hD : va_D A (mo_w ad ck x0 (nI x16) (nI x18) (nI x19) x20 (nI x21) (nI x22) x23 x24 x25 (nI x26) x27 (nI x28) (nI x29) (nI x30) (nI x33) x45 (nI x46) (nI x52) (nI x53) (nI x61) (nI g_11) 0 (nI x65) x66 f1 f2 f3 (bN 3 q4) (bN 7 q5) (bN 7 q6) (bN 4 q7) f8 (bN 2 q9) (bH q10) f11 (b2 m12_0 m12_1) (b2 m13_0 m13_1) (b2 m14_0 m14_1) (b2m m15_0 m15_1) f17 (bA 159 q31) f32 f34 f35 f36 f37 (bN 7 q38) f39 f40 f41 (b2 m42_0 m42_1) f43 f44 f47 f48 f49 f50 f51 (bN 13 q54) (bN 120 g_8) (bN 120 g_9) g_10 (bN 120 q58) f59 f60 f64) := hD
            refine lv_goto (tgt := 166) hx hb dX9_layConditions_75 (by decide) ?_
            refine lv_iinc (v := (nI (g_13 + 1))) (lv' := [(3, .int (nI (g_13 + 1))), (5, .int (nI u_23)), (4, .int (nI (80 * x16 + (56 + 3 * (a0 - 100)) + g_13))), (0, .ref (ad 0)), (1, .int (nI a0)), (2, .int (nI a1))]) hx hb dX9_layConditions_166 hl (k := 5) rfl (nI_1 _) (by decide) rfl (fun ls hl => ?_)
            refine lv_goto (tgt := 2) hx hb dX9_layConditions_169 (by decide) ?_
            exact ih_15 (3 - (g_13 + 1)) (by omega) _ _ _ ⟨g_8, g_9, g_10, g_11, 0, (g_13 + 1), rfl, hg_11, (Nat.le_of_ble_eq_true rfl), (by omega), by omega, hP, hD, hS, lv_sub hl [3, 4, 5, 0] rfl⟩
          · have c_52 : u_51 = 0 := (nI_eq (a := u_51) (b := 0) (by omega) (Nat.le_of_ble_eq_true rfl)).mp c_52
            refine lv_aload_n hx hb dX9_layConditions_57 rfl (lv_at hl 2 rfl) ?_
            refine va_get (D := (dC, dI)) (ci := 9) (v := .ref (ad 11)) (C := RX9) (T := TX9) (N := 67) hx hb hts hiX9 hown hK hP 0 rfl rfl 11 (by decide) v_13 (fun _ h9 => h9) rfl dX9_layConditions_58 ?_
            refine lv_iload hx hb dX9_layConditions_61 (lv_at hl 1 rfl) ?_
            refine va_iald hx hb hK hP 11 10 rfl rfl (vp_in_nI (n := (80 * x16 + (56 + 3 * (a0 - 100)) + g_13)) (by omega) (Nat.le_of_ble_eq_true rfl)) dX9_layConditions_63 ?_
            refine lv_topi (fun y_53 ey_53 => ?_)
            refine lv_if_ne (tgt := 71) hx hb dX9_layConditions_64 (by decide) (fun c_54 => ?_) (fun c_54 => ?_)
            · refine lv_iconst (v := 0) hx hb dX9_layConditions_71 (by decide) ?_
              refine va_put (D := (dC, dI)) (ci := 9) (v := .int 0) (ty := .boolean) (C := RX9) (T := TX9) (N := 67) hx hb hts hiX9 tyX9 tyX9_ok nmX9 hown hK hP hD hS 0 rfl rfl 63 (by decide) v_18 (fun _ h9 => h9) rfl (by decide +kernel) rfl rfl (Nat.le_of_ble_eq_true rfl) dX9_layConditions_72 (fun H locs hP hD hS => ?_)
              have hP : va_P (dC, dI) vwCl (mo_w ad ck x0 (nI x16) (nI x18) (nI x19) x20 (nI x21) (nI x22) x23 x24 x25 (nI x26) x27 (nI x28) (nI x29) (nI x30) (nI x33) x45 (nI x46) (nI x52) (nI x53) (nI x61) (nI g_11) 0 (nI x65) x66 f1 f2 f3 (bN 3 q4) (bN 7 q5) (bN 7 q6) (bN 4 q7) f8 (bN 2 q9) (bH q10) f11 (b2 m12_0 m12_1) (b2 m13_0 m13_1) (b2 m14_0 m14_1) (b2m m15_0 m15_1) f17 (bA 159 q31) f32 f34 f35 f36 f37 (bN 7 q38) f39 f40 f41 (b2 m42_0 m42_1) f43 f44 f47 f48 f49 f50 f51 (bN 13 q54) (bN 120 g_8) (bN 120 g_9) g_10 (bN 120 q58) f59 f60 f64) H := hP
              have hD : va_D A (mo_w ad ck x0 (nI x16) (nI x18) (nI x19) x20 (nI x21) (nI x22) x23 x24 x25 (nI x26) x27 (nI x28) (nI x29) (nI x30) (nI x33) x45 (nI x46) (nI x52) (nI x53) (nI x61) (nI g_11) 0 (nI x65) x66 f1 f2 f3 (bN 3 q4) (bN 7 q5) (bN 7 q6) (bN 4 q7) f8 (bN 2 q9) (bH q10) f11 (b2 m12_0 m12_1) (b2 m13_0 m13_1) (b2 m14_0 m14_1) (b2m m15_0 m15_1) f17 (bA 159 q31) f32 f34 f35 f36 f37 (bN 7 q38) f39 f40 f41 (b2 m42_0 m42_1) f43 f44 f47 f48 f49 f50 f51 (bN 13 q54) (bN 120 g_8) (bN 120 g_9) g_10 (bN 120 q58) f59 f60 f64) := hD
              refine lv_goto (tgt := 166) hx hb dX9_layConditions_75 (by decide) ?_
              refine lv_iinc (v := (nI (g_13 + 1))) (lv' := [(3, .int (nI (g_13 + 1))), (5, .int (nI u_23)), (4, .int (nI (80 * x16 + (56 + 3 * (a0 - 100)) + g_13))), (0, .ref (ad 0)), (1, .int (nI a0)), (2, .int (nI a1))]) hx hb dX9_layConditions_166 hl (k := 5) rfl (nI_1 _) (by decide) rfl (fun ls hl => ?_)
              refine lv_goto (tgt := 2) hx hb dX9_layConditions_169 (by decide) ?_
              exact ih_15 (3 - (g_13 + 1)) (by omega) _ _ _ ⟨g_8, g_9, g_10, g_11, 0, (g_13 + 1), rfl, hg_11, (Nat.le_of_ble_eq_true rfl), (by omega), by omega, hP, hD, hS, lv_sub hl [3, 4, 5, 0] rfl⟩
            · refine lv_iconst (v := 1) hx hb dX9_layConditions_67 (by decide) ?_
              refine lv_goto (tgt := 72) hx hb dX9_layConditions_68 (by decide) ?_
              refine va_put (D := (dC, dI)) (ci := 9) (v := .int 1) (ty := .boolean) (C := RX9) (T := TX9) (N := 67) hx hb hts hiX9 tyX9 tyX9_ok nmX9 hown hK hP hD hS 0 rfl rfl 63 (by decide) v_18 (fun _ h9 => h9) rfl (by decide +kernel) rfl rfl (Nat.le_of_ble_eq_true rfl) dX9_layConditions_72 (fun H locs hP hD hS => ?_)
              have hP : va_P (dC, dI) vwCl (mo_w ad ck x0 (nI x16) (nI x18) (nI x19) x20 (nI x21) (nI x22) x23 x24 x25 (nI x26) x27 (nI x28) (nI x29) (nI x30) (nI x33) x45 (nI x46) (nI x52) (nI x53) (nI x61) (nI g_11) 1 (nI x65) x66 f1 f2 f3 (bN 3 q4) (bN 7 q5) (bN 7 q6) (bN 4 q7) f8 (bN 2 q9) (bH q10) f11 (b2 m12_0 m12_1) (b2 m13_0 m13_1) (b2 m14_0 m14_1) (b2m m15_0 m15_1) f17 (bA 159 q31) f32 f34 f35 f36 f37 (bN 7 q38) f39 f40 f41 (b2 m42_0 m42_1) f43 f44 f47 f48 f49 f50 f51 (bN 13 q54) (bN 120 g_8) (bN 120 g_9) g_10 (bN 120 q58) f59 f60 f64) H := hP
              have hD : va_D A (mo_w ad ck x0 (nI x16) (nI x18) (nI x19) x20 (nI x21) (nI x22) x23 x24 x25 (nI x26) x27 (nI x28) (nI x29) (nI x30) (nI x33) x45 (nI x46) (nI x52) (nI x53) (nI x61) (nI g_11) 1 (nI x65) x66 f1 f2 f3 (bN 3 q4) (bN 7 q5) (bN 7 q6) (bN 4 q7) f8 (bN 2 q9) (bH q10) f11 (b2 m12_0 m12_1) (b2 m13_0 m13_1) (b2 m14_0 m14_1) (b2m m15_0 m15_1) f17 (bA 159 q31) f32 f34 f35 f36 f37 (bN 7 q38) f39 f40 f41 (b2 m42_0 m42_1) f43 f44 f47 f48 f49 f50 f51 (bN 13 q54) (bN 120 g_8) (bN 120 g_9) g_10 (bN 120 q58) f59 f60 f64) := hD
              refine lv_goto (tgt := 166) hx hb dX9_layConditions_75 (by decide) ?_
              refine lv_iinc (v := (nI (g_13 + 1))) (lv' := [(3, .int (nI (g_13 + 1))), (5, .int (nI u_23)), (4, .int (nI (80 * x16 + (56 + 3 * (a0 - 100)) + g_13))), (0, .ref (ad 0)), (1, .int (nI a0)), (2, .int (nI a1))]) hx hb dX9_layConditions_166 hl (k := 5) rfl (nI_1 _) (by decide) rfl (fun ls hl => ?_)
              refine lv_goto (tgt := 2) hx hb dX9_layConditions_169 (by decide) ?_
              exact ih_15 (3 - (g_13 + 1)) (by omega) _ _ _ ⟨g_8, g_9, g_10, g_11, 1, (g_13 + 1), rfl, hg_11, (Nat.le_of_ble_eq_true rfl), (by omega), by omega, hP, hD, hS, lv_sub hl [3, 4, 5, 0] rfl⟩
abbrev vs_M_layConditions_z : List Cond := .code yX9_layConditions cX9_layConditions 6 none :: VM
theorem g_M_layConditions_z_M_manyOf_z : GoodIn vs_M_layConditions_z (wsV RX9 295 RX9 yX9_manyOf vs_M_manyOf_z) := gm_V vm_166 vm_167 vm_168 vm_12 vm_157
set_option maxHeartbeats 4000000 in
set_option maxRecDepth 100000 in
theorem c_M_layConditions_z (l : Launch) (dC : Nat → ClassId) (dI : Nat → Nat → Nat) (sz : Nat) (ad : Nat → Nat) (ck : Nat → ClassId) (x0 : Int32) (x16 : Nat) (x18 : Nat) (x19 : Nat) (x20 : Int32) (x21 : Nat) (x22 : Nat) (x23 : Int32) (x24 : Int32) (x25 : Int32) (x26 : Nat) (x27 : Int32) (x28 : Nat) (x29 : Nat) (x30 : Nat) (x33 : Nat) (x45 : Int32) (x46 : Nat) (x52 : Nat) (x53 : Nat) (x61 : Nat) (x62 : Nat) (x63 : Nat) (x65 : Nat) (x66 : Int32) (f1 : Nat → Int32) (f2 : Nat → Int32) (f3 : Nat → Int32) (q4 : Nat → Nat) (q5 : Nat → Nat) (q6 : Nat → Nat) (q7 : Nat → Nat) (f8 : Nat → Int32) (q9 : Nat → Nat) (q10 : Nat → Nat) (f11 : Nat → Int32) (m12_0 m12_1 : Nat) (m13_0 m13_1 : Nat) (m14_0 m14_1 : Nat) (m15_0 m15_1 : Nat) (f17 : Nat → Int32) (q31 : Nat → Nat) (f32 : Nat → Int32) (f34 : Nat → Int32) (f35 : Nat → Int32) (f36 : Nat → Int32) (f37 : Nat → Int32) (q38 : Nat → Nat) (f39 : Nat → Int32) (f40 : Nat → Int32) (f41 : Nat → Int32) (m42_0 m42_1 : Nat) (f43 : Nat → Int32) (f44 : Nat → Int32) (f47 : Nat → Int32) (f48 : Nat → Int32) (f49 : Nat → Int32) (f50 : Nat → Int32) (f51 : Nat → Int32) (q54 : Nat → Nat) (q55 : Nat → Nat) (q56 : Nat → Nat) (f57 : Nat → Int32) (q58 : Nat → Nat) (f59 : Nat → Int32) (f60 : Nat → Int32) (f64 : Nat → Int32) (a0 : Nat) (a1 : Nat) (hx16 : x16 ≤ 1) (hx18 : x18 ≤ 900) (hx19 : x19 ≤ 900) (hx21 : x21 ≤ 900) (hx22 : x22 ≤ 4) (hx26 : x26 ≤ 6) (hx28 : x28 ≤ 1) (hx29 : x29 ≤ 1) (hx30 : x30 ≤ 1) (hx33 : x33 ≤ 20) (hx46 : x46 ≤ 5) (hx52 : x52 ≤ 2400) (hx53 : x53 ≤ 119) (hx61 : x61 ≤ 119) (hx62 : x62 ≤ 2000) (hx63 : x63 ≤ 1) (hx65 : x65 ≤ 7) (hm12_0 : m12_0 ≤ 3) (hm12_1 : m12_1 ≤ 3) (hm13_0 : m13_0 ≤ 8) (hm13_1 : m13_1 ≤ 8) (hm14_0 : m14_0 ≤ 14) (hm14_1 : m14_1 ≤ 14) (hm15_0 : m15_0 ≤ 8) (hm15_1 : m15_1 ≤ 8) (hm42_0 : m42_0 ≤ 120) (hm42_1 : m42_1 ≤ 400) (ha0 : a0 ≤ 99) (hb0 : 14 ≤ a0) (ha1 : a1 ≤ 119) : Met l yX9_layConditions vs_M_layConditions_z ({ frames := 3, cells := 0, slots := 0, locals := 64 }) (va_Pc [.ref (ad 0), .int (nI a0), .int (nI a1)] (pu_B (dC, dI) (mo_w ad ck x0 (nI x16) (nI x18) (nI x19) x20 (nI x21) (nI x22) x23 x24 x25 (nI x26) x27 (nI x28) (nI x29) (nI x30) (nI x33) x45 (nI x46) (nI x52) (nI x53) (nI x61) (nI x62) (nI x63) (nI x65) x66 f1 f2 f3 (bN 3 q4) (bN 7 q5) (bN 7 q6) (bN 4 q7) f8 (bN 2 q9) (bH q10) f11 (b2 m12_0 m12_1) (b2 m13_0 m13_1) (b2 m14_0 m14_1) (b2m m15_0 m15_1) f17 (bA 159 q31) f32 f34 f35 f36 f37 (bN 7 q38) f39 f40 f41 (b2 m42_0 m42_1) f43 f44 f47 f48 f49 f50 f51 (bN 13 q54) (bN 120 q55) (bN 120 q56) f57 (bN 120 q58) f59 f60 f64) (mo_t ck) sz)) (va_Qv (fun (_ : Unit) => True) (fun _ _ => True) (va_A [] sz)) 0 0 (va_A [] sz) := by
  refine Met.ofW (cc := cX9_layConditions) (maxL := 6) (ret := none) (by decide) rfl ?_
  intro p e s m args below meth c s₁ B hml hv
  obtain ⟨rfl, rfl, hP, hK, hD0⟩ := hv
  have hx := B.exec
  have hb := B.bytes
  have hr := B.returns
  have hts := atoms_spec (ws := vs_M_layConditions_z) B.pre
  have hown : s.vm.findClass RX9 = some m.cls := findClass_of_methodNamed B.named
  have hlocks := B.notSynchronized
  have hD := hD0
  have hA : ∀ q : Nat, s.heap.size ≤ q → va_A [] s.heap.size q := fun _ h => Or.inr h
  have hS : va_S (va_A [] s.heap.size) s.heap s.heap [] := va_S.rf
  have hl := lv_entry ([.ref (ad 0), .int (nI a0), .int (nI a1)]) (n := 6) (Nat.le_of_ble_eq_true rfl)
  rw [lg_entry_eq]
  generalize (lg_sl ([.ref (ad 0), .int (nI a0), .int (nI a1)]) ++ List.replicate (6 - (lg_sl ([.ref (ad 0), .int (nI a0), .int (nI a1)])).length) Slot.unset).toArray = ls at hl ⊢
  have hl : lv_has ls 6 [(0, .ref (ad 0)), (1, .int (nI a0)), (2, .int (nI a1))] := hl
  refine lv_iconst (v := 0) hx hb dX9_layConditions_0 (by decide) ?_
  refine lv_istore_n (lv' := [(3, .int 0), (0, .ref (ad 0)), (1, .int (nI a0)), (2, .int (nI a1))]) hx hb dX9_layConditions_1 rfl hl (by decide) rfl (fun ls hl => ?_)
  refine pu_while (fun nn H locs ls => nn = 0 ∧ va_P (dC, dI) vwCl (mo_w ad ck x0 (nI x16) (nI x18) (nI x19) x20 (nI x21) (nI x22) x23 x24 x25 (nI x26) x27 (nI x28) (nI x29) (nI x30) (nI x33) x45 (nI x46) (nI x52) (nI x53) (nI x61) (nI x62) (nI x63) (nI x65) x66 f1 f2 f3 (bN 3 q4) (bN 7 q5) (bN 7 q6) (bN 4 q7) f8 (bN 2 q9) (bH q10) f11 (b2 m12_0 m12_1) (b2 m13_0 m13_1) (b2 m14_0 m14_1) (b2m m15_0 m15_1) f17 (bA 159 q31) f32 f34 f35 f36 f37 (bN 7 q38) f39 f40 f41 (b2 m42_0 m42_1) f43 f44 f47 f48 f49 f50 f51 (bN 13 q54) (bN 120 q55) (bN 120 q56) f57 (bN 120 q58) f59 f60 f64) H ∧ va_D (fun _ => True) (mo_w ad ck x0 (nI x16) (nI x18) (nI x19) x20 (nI x21) (nI x22) x23 x24 x25 (nI x26) x27 (nI x28) (nI x29) (nI x30) (nI x33) x45 (nI x46) (nI x52) (nI x53) (nI x61) (nI x62) (nI x63) (nI x65) x66 f1 f2 f3 (bN 3 q4) (bN 7 q5) (bN 7 q6) (bN 4 q7) f8 (bN 2 q9) (bH q10) f11 (b2 m12_0 m12_1) (b2 m13_0 m13_1) (b2 m14_0 m14_1) (b2m m15_0 m15_1) f17 (bA 159 q31) f32 f34 f35 f36 f37 (bN 7 q38) f39 f40 f41 (b2 m42_0 m42_1) f43 f44 f47 f48 f49 f50 f51 (bN 13 q54) (bN 120 q55) (bN 120 q56) f57 (bN 120 q58) f59 f60 f64) ∧ va_S (va_A [] s.heap.size) s.heap H locs ∧ lv_has ls 6 [(0, .ref (ad 0)), (1, .int (nI a0)), (2, .int (nI a1)), (3, .int 0)]) 2 ?_ _ _ _ _ ⟨rfl, hP, hD, hS, lv_sub hl [1, 2, 3, 0] rfl⟩
  rintro nn ih_1 H locs ls ⟨rfl, hP, hD, hS, hl⟩
  refine lv_iload_n hx hb dX9_layConditions_2 rfl (lv_at hl 3 rfl) ?_
  refine lv_aload_n hx hb dX9_layConditions_3 rfl (lv_at hl 0 rfl) ?_
  refine lv_iload_n hx hb dX9_layConditions_4 rfl (lv_at hl 1 rfl) ?_
  refine va_calli (va_runV (As := [.int (nI a0)]) (rest := [.int 0]) ⟨hx, hb, hml, hown, hts⟩ (c_M_manyOf_z l dC dI _ ad ck x0 x16 x18 x19 x20 x21 x22 x23 x24 x25 x26 x27 x28 x29 x30 x33 x45 x46 x52 x53 x61 x62 x63 x65 x66 f1 f2 f3 q4 q5 q6 q7 f8 q9 q10 f11 m12_0 m12_1 m13_0 m13_1 m14_0 m14_1 m15_0 m15_1 f17 q31 f32 f34 f35 f36 f37 q38 f39 f40 f41 m42_0 m42_1 f43 f44 f47 f48 f49 f50 f51 q54 q55 q56 f57 q58 f59 f60 f64 a0 hx16 hx18 hx19 hx21 hx22 hx26 hx28 hx29 hx30 hx33 hx46 hx52 hx53 hx61 hx62 hx63 hx65 hm12_0 hm12_1 hm13_0 hm13_1 hm14_0 hm14_1 hm15_0 hm15_1 hm42_0 hm42_1 ha0 (by omega)) (cwV 1 hts g_M_layConditions_z_M_manyOf_z rfl rfl rfl (by decide +kernel) ⟨Nat.le_of_ble_eq_true rfl, Nat.le_of_ble_eq_true rfl⟩) ⟨pu_bl, va_recv hK hP (ci := 9) (q0 := 0) rfl rfl, pu_in hP hK hD⟩ rfl rfl hl.1 rfl (lv_room (Nat.le_of_ble_eq_true rfl)) dX9_layConditions_5 ⟨Nat.le_of_ble_eq_true rfl, Nat.le_of_ble_eq_true rfl⟩) hS (fun q _ h => pu_fr hS hA q h) (pu_fr hS hA) (fun r_2 u t H1 locs ht hvm hw hB hz1 hk1 hS => ?_)
  have hP := pu_keep hP hk1
  clear hk1 hz1 ht hvm
  generalize H1 = H at hP hS ⊢
  obtain rfl : r_2 = (-1) := hw
  refine lv_icmp_ge (tgt := 172) hx hb dX9_layConditions_8 (by decide) (fun _ => ?_) (fun z => absurd z (by decide))
  exact W.vret hx hb hr (fun t ht hW => ⟨⟨(), rfl, trivial, trivial⟩, hS.F ht⟩) hS.2.2 dX9_layConditions_172
theorem dX9_layGaps_0 : decode cX9_layGaps 0 = .ok (.aload_n 0, 1) := by decide +kernel
theorem dX9_layGaps_1 : decode cX9_layGaps 1 = .ok (.iconst 0, 1) := by decide +kernel
theorem dX9_layGaps_2 : decode cX9_layGaps 2 = .ok (.putfield 432, 3) := by decide +kernel
theorem dX9_layGaps_5 : decode cX9_layGaps 5 = .ok (.aload_n 0, 1) := by decide +kernel
theorem dX9_layGaps_6 : decode cX9_layGaps 6 = .ok (.iconst 0, 1) := by decide +kernel
theorem dX9_layGaps_7 : decode cX9_layGaps 7 = .ok (.putfield 435, 3) := by decide +kernel
theorem dX9_layGaps_10 : decode cX9_layGaps 10 = .ok (.iconst 0, 1) := by decide +kernel
theorem dX9_layGaps_11 : decode cX9_layGaps 11 = .ok (.istore_n 1, 1) := by decide +kernel
theorem dX9_layGaps_12 : decode cX9_layGaps 12 = .ok (.iload_n 1, 1) := by decide +kernel
theorem dX9_layGaps_13 : decode cX9_layGaps 13 = .ok (.iconst 3, 1) := by decide +kernel
theorem dX9_layGaps_14 : decode cX9_layGaps 14 = .ok (.if_icmp .ge 16, 3) := by decide +kernel
theorem dX9_layGaps_17 : decode cX9_layGaps 17 = .ok (.aload_n 0, 1) := by decide +kernel
theorem dX9_layGaps_18 : decode cX9_layGaps 18 = .ok (.getfield 130, 3) := by decide +kernel
theorem dX9_layGaps_21 : decode cX9_layGaps 21 = .ok (.iload_n 1, 1) := by decide +kernel
theorem dX9_layGaps_22 : decode cX9_layGaps 22 = .ok (.iconst 0, 1) := by decide +kernel
theorem dX9_layGaps_23 : decode cX9_layGaps 23 = .ok (.iastore, 1) := by decide +kernel
theorem dX9_layGaps_24 : decode cX9_layGaps 24 = .ok (.iinc 1 1, 3) := by decide +kernel
theorem dX9_layGaps_27 : decode cX9_layGaps 27 = .ok (.goto (-15), 3) := by decide +kernel
theorem dX9_layGaps_30 : decode cX9_layGaps 30 = .ok (.aload_n 0, 1) := by decide +kernel
theorem dX9_layGaps_31 : decode cX9_layGaps 31 = .ok (.bipush 100, 2) := by decide +kernel
theorem dX9_layGaps_33 : decode cX9_layGaps 33 = .ok (.aload_n 0, 1) := by decide +kernel
theorem dX9_layGaps_34 : decode cX9_layGaps 34 = .ok (.getfield 52, 3) := by decide +kernel
theorem dX9_layGaps_37 : decode cX9_layGaps 37 = .ok (.aload_n 0, 1) := by decide +kernel
theorem dX9_layGaps_38 : decode cX9_layGaps 38 = .ok (.getfield 258, 3) := by decide +kernel
theorem dX9_layGaps_41 : decode cX9_layGaps 41 = .ok (.iaload, 1) := by decide +kernel
theorem dX9_layGaps_42 : decode cX9_layGaps 42 = .ok (.iadd, 1) := by decide +kernel
theorem dX9_layGaps_43 : decode cX9_layGaps 43 = .ok (.iconst 0, 1) := by decide +kernel
theorem dX9_layGaps_44 : decode cX9_layGaps 44 = .ok (.invokevirtual 441, 3) := by decide +kernel
theorem dX9_layGaps_47 : decode cX9_layGaps 47 = .ok (.iconst 1, 1) := by decide +kernel
theorem dX9_layGaps_48 : decode cX9_layGaps 48 = .ok (.istore_n 1, 1) := by decide +kernel
theorem dX9_layGaps_49 : decode cX9_layGaps 49 = .ok (.iload_n 1, 1) := by decide +kernel
theorem dX9_layGaps_50 : decode cX9_layGaps 50 = .ok (.aload_n 0, 1) := by decide +kernel
theorem dX9_layGaps_51 : decode cX9_layGaps 51 = .ok (.getfield 429, 3) := by decide +kernel
theorem dX9_layGaps_54 : decode cX9_layGaps 54 = .ok (.if_icmp .gt 124, 3) := by decide +kernel
theorem dX9_layGaps_57 : decode cX9_layGaps 57 = .ok (.aload_n 0, 1) := by decide +kernel
theorem dX9_layGaps_58 : decode cX9_layGaps 58 = .ok (.getfield 118, 3) := by decide +kernel
theorem dX9_layGaps_61 : decode cX9_layGaps 61 = .ok (.iload_n 1, 1) := by decide +kernel
theorem dX9_layGaps_62 : decode cX9_layGaps 62 = .ok (.iconst 1, 1) := by decide +kernel
theorem dX9_layGaps_63 : decode cX9_layGaps 63 = .ok (.isub, 1) := by decide +kernel
theorem dX9_layGaps_64 : decode cX9_layGaps 64 = .ok (.iaload, 1) := by decide +kernel
theorem dX9_layGaps_65 : decode cX9_layGaps 65 = .ok (.istore_n 2, 1) := by decide +kernel
theorem dX9_layGaps_66 : decode cX9_layGaps 66 = .ok (.aload_n 0, 1) := by decide +kernel
theorem dX9_layGaps_67 : decode cX9_layGaps 67 = .ok (.iload_n 1, 1) := by decide +kernel
theorem dX9_layGaps_68 : decode cX9_layGaps 68 = .ok (.iconst 1, 1) := by decide +kernel
theorem dX9_layGaps_69 : decode cX9_layGaps 69 = .ok (.isub, 1) := by decide +kernel
theorem dX9_layGaps_70 : decode cX9_layGaps 70 = .ok (.iload_n 1, 1) := by decide +kernel
theorem dX9_layGaps_71 : decode cX9_layGaps 71 = .ok (.iconst 1, 1) := by decide +kernel
theorem dX9_layGaps_72 : decode cX9_layGaps 72 = .ok (.invokevirtual 438, 3) := by decide +kernel
theorem dX9_layGaps_75 : decode cX9_layGaps 75 = .ok (.aload_n 0, 1) := by decide +kernel
theorem dX9_layGaps_76 : decode cX9_layGaps 76 = .ok (.aload_n 0, 1) := by decide +kernel
theorem dX9_layGaps_77 : decode cX9_layGaps 77 = .ok (.iload_n 2, 1) := by decide +kernel
theorem dX9_layGaps_78 : decode cX9_layGaps 78 = .ok (.invokevirtual 289, 3) := by decide +kernel
theorem dX9_layGaps_81 : decode cX9_layGaps 81 = .ok (.invokevirtual 324, 3) := by decide +kernel
theorem dX9_layGaps_84 : decode cX9_layGaps 84 = .ok (.ifCond .eq 12, 3) := by decide +kernel
theorem dX9_layGaps_87 : decode cX9_layGaps 87 = .ok (.aload_n 0, 1) := by decide +kernel
theorem dX9_layGaps_88 : decode cX9_layGaps 88 = .ok (.iload_n 1, 1) := by decide +kernel
theorem dX9_layGaps_89 : decode cX9_layGaps 89 = .ok (.iload_n 1, 1) := by decide +kernel
theorem dX9_layGaps_90 : decode cX9_layGaps 90 = .ok (.iconst 1, 1) := by decide +kernel
theorem dX9_layGaps_91 : decode cX9_layGaps 91 = .ok (.isub, 1) := by decide +kernel
theorem dX9_layGaps_92 : decode cX9_layGaps 92 = .ok (.iconst 1, 1) := by decide +kernel
theorem dX9_layGaps_93 : decode cX9_layGaps 93 = .ok (.invokevirtual 438, 3) := by decide +kernel
theorem dX9_layGaps_96 : decode cX9_layGaps 96 = .ok (.aload_n 0, 1) := by decide +kernel
theorem dX9_layGaps_97 : decode cX9_layGaps 97 = .ok (.bipush 100, 2) := by decide +kernel
theorem dX9_layGaps_99 : decode cX9_layGaps 99 = .ok (.aload_n 0, 1) := by decide +kernel
theorem dX9_layGaps_100 : decode cX9_layGaps 100 = .ok (.iload_n 2, 1) := by decide +kernel
theorem dX9_layGaps_101 : decode cX9_layGaps 101 = .ok (.invokevirtual 289, 3) := by decide +kernel
theorem dX9_layGaps_104 : decode cX9_layGaps 104 = .ok (.iadd, 1) := by decide +kernel
theorem dX9_layGaps_105 : decode cX9_layGaps 105 = .ok (.iload_n 1, 1) := by decide +kernel
theorem dX9_layGaps_106 : decode cX9_layGaps 106 = .ok (.invokevirtual 441, 3) := by decide +kernel
theorem dX9_layGaps_109 : decode cX9_layGaps 109 = .ok (.aload_n 0, 1) := by decide +kernel
theorem dX9_layGaps_110 : decode cX9_layGaps 110 = .ok (.iload_n 2, 1) := by decide +kernel
theorem dX9_layGaps_111 : decode cX9_layGaps 111 = .ok (.iload_n 1, 1) := by decide +kernel
theorem dX9_layGaps_112 : decode cX9_layGaps 112 = .ok (.invokevirtual 441, 3) := by decide +kernel
theorem dX9_layGaps_115 : decode cX9_layGaps 115 = .ok (.iconst 0, 1) := by decide +kernel
theorem dX9_layGaps_116 : decode cX9_layGaps 116 = .ok (.istore_n 3, 1) := by decide +kernel
theorem dX9_layGaps_117 : decode cX9_layGaps 117 = .ok (.iload_n 3, 1) := by decide +kernel
theorem dX9_layGaps_118 : decode cX9_layGaps 118 = .ok (.aload_n 0, 1) := by decide +kernel
theorem dX9_layGaps_119 : decode cX9_layGaps 119 = .ok (.invokevirtual 280, 3) := by decide +kernel
theorem dX9_layGaps_122 : decode cX9_layGaps 122 = .ok (.if_icmp .ge 37, 3) := by decide +kernel
theorem dX9_layGaps_125 : decode cX9_layGaps 125 = .ok (.aload_n 0, 1) := by decide +kernel
theorem dX9_layGaps_126 : decode cX9_layGaps 126 = .ok (.getfield 130, 3) := by decide +kernel
theorem dX9_layGaps_129 : decode cX9_layGaps 129 = .ok (.iload_n 3, 1) := by decide +kernel
theorem dX9_layGaps_130 : decode cX9_layGaps 130 = .ok (.aload_n 0, 1) := by decide +kernel
theorem dX9_layGaps_131 : decode cX9_layGaps 131 = .ok (.iload_n 2, 1) := by decide +kernel
theorem dX9_layGaps_132 : decode cX9_layGaps 132 = .ok (.invokevirtual 305, 3) := by decide +kernel
theorem dX9_layGaps_135 : decode cX9_layGaps 135 = .ok (.iload_n 3, 1) := by decide +kernel
theorem dX9_layGaps_136 : decode cX9_layGaps 136 = .ok (.invokestatic 248, 3) := by decide +kernel
theorem dX9_layGaps_139 : decode cX9_layGaps 139 = .ok (.ifCond .eq 7, 3) := by decide +kernel
theorem dX9_layGaps_142 : decode cX9_layGaps 142 = .ok (.iload_n 1, 1) := by decide +kernel
theorem dX9_layGaps_143 : decode cX9_layGaps 143 = .ok (.goto 9, 3) := by decide +kernel
theorem dX9_layGaps_146 : decode cX9_layGaps 146 = .ok (.aload_n 0, 1) := by decide +kernel
theorem dX9_layGaps_147 : decode cX9_layGaps 147 = .ok (.getfield 130, 3) := by decide +kernel
theorem dX9_layGaps_150 : decode cX9_layGaps 150 = .ok (.iload_n 3, 1) := by decide +kernel
theorem dX9_layGaps_151 : decode cX9_layGaps 151 = .ok (.iaload, 1) := by decide +kernel
theorem dX9_layGaps_152 : decode cX9_layGaps 152 = .ok (.iastore, 1) := by decide +kernel
theorem dX9_layGaps_153 : decode cX9_layGaps 153 = .ok (.iinc 3 1, 3) := by decide +kernel
theorem dX9_layGaps_156 : decode cX9_layGaps 156 = .ok (.goto (-39), 3) := by decide +kernel
theorem dX9_layGaps_159 : decode cX9_layGaps 159 = .ok (.aload_n 0, 1) := by decide +kernel
theorem dX9_layGaps_160 : decode cX9_layGaps 160 = .ok (.bipush 100, 2) := by decide +kernel
theorem dX9_layGaps_162 : decode cX9_layGaps 162 = .ok (.aload_n 0, 1) := by decide +kernel
theorem dX9_layGaps_163 : decode cX9_layGaps 163 = .ok (.iload_n 2, 1) := by decide +kernel
theorem dX9_layGaps_164 : decode cX9_layGaps 164 = .ok (.invokevirtual 292, 3) := by decide +kernel
theorem dX9_layGaps_167 : decode cX9_layGaps 167 = .ok (.iadd, 1) := by decide +kernel
theorem dX9_layGaps_168 : decode cX9_layGaps 168 = .ok (.iload_n 1, 1) := by decide +kernel
theorem dX9_layGaps_169 : decode cX9_layGaps 169 = .ok (.invokevirtual 441, 3) := by decide +kernel
theorem dX9_layGaps_172 : decode cX9_layGaps 172 = .ok (.iinc 1 1, 3) := by decide +kernel
theorem dX9_layGaps_175 : decode cX9_layGaps 175 = .ok (.goto (-126), 3) := by decide +kernel
theorem dX9_layGaps_178 : decode cX9_layGaps 178 = .ok (.return_, 1) := by decide +kernel
abbrev vs_M_layGaps : List Cond := .code yX9_layGaps cX9_layGaps 4 none :: VM
theorem g_M_layGaps_X9_isOf : GoodIn vs_M_layGaps (va_wsS RX9 248 yX9_isOf vs_X9_isOf) := gm_0 (fun w h => by
  rcases List.mem_cons.mp h with rfl | h
  · exact vm_130
  rcases List.mem_cons.mp h with rfl | h
  · exact vm_131
  rcases List.mem_cons.mp h with rfl | h
  · exact vm_12
  rcases List.mem_cons.mp h with rfl | h
  · exact vm_0
  exact absurd h (List.not_mem_nil))
theorem g_M_layGaps_M_layConditions_z : GoodIn vs_M_layGaps (wsV RX9 441 RX9 yX9_layConditions vs_M_layConditions_z) := gm_V vm_340 vm_341 vm_342 vm_12 vm_333
theorem g_M_layGaps_M_holdsApart : GoodIn vs_M_layGaps (wsV RX9 438 RX9 yX9_holdsApart vs_M_holdsApart) := gm_V vm_335 vm_336 vm_337 vm_12 vm_328
theorem g_M_layGaps_M_outOf : GoodIn vs_M_layGaps (wsV RX9 289 RX9 yX9_outOf vs_M_outOf) := gm_V vm_66 vm_67 vm_68 vm_12 vm_27
theorem g_M_layGaps_M_isUrgent : GoodIn vs_M_layGaps (wsV RX9 324 RX9 yX9_isUrgent vs_M_isUrgent) := gm_V vm_204 vm_205 vm_206 vm_12 vm_33
theorem g_M_layGaps_M_layConditions_p : GoodIn vs_M_layGaps (wsV RX9 441 RX9 yX9_layConditions vs_M_layConditions_p) := gm_V vm_340 vm_341 vm_342 vm_12 vm_333
theorem g_M_layGaps_M_layConditions_e : GoodIn vs_M_layGaps (wsV RX9 441 RX9 yX9_layConditions vs_M_layConditions_e) := gm_V vm_340 vm_341 vm_342 vm_12 vm_333
theorem g_M_layGaps_M_clocks : GoodIn vs_M_layGaps (wsV RX9 280 RX9 yX9_clocks vs_M_clocks) := gm_V vm_150 vm_151 vm_152 vm_12 vm_20
theorem g_M_layGaps_M_into : GoodIn vs_M_layGaps (wsV RX9 292 RX9 yX9_into vs_M_into) := gm_V vm_63 vm_64 vm_65 vm_12 vm_29
theorem g_M_layGaps_M_setBy : GoodIn vs_M_layGaps (wsV RX9 305 RX9 yX9_setBy vs_M_setBy) := gm_V vm_185 vm_186 vm_187 vm_12 vm_31
set_option maxHeartbeats 4000000 in
set_option maxRecDepth 100000 in
theorem c_M_layGaps (l : Launch) (dC : Nat → ClassId) (dI : Nat → Nat → Nat) (sz : Nat) (ad : Nat → Nat) (ck : Nat → ClassId) (x0 : Int32) (x16 : Nat) (x18 : Nat) (x19 : Nat) (x20 : Int32) (x21 : Nat) (x22 : Nat) (x23 : Int32) (x24 : Int32) (x25 : Int32) (x26 : Nat) (x27 : Int32) (x28 : Nat) (x29 : Nat) (x30 : Nat) (x33 : Nat) (x45 : Int32) (x46 : Nat) (x52 : Nat) (x53 : Nat) (x61 : Nat) (x62 : Nat) (x63 : Nat) (x65 : Nat) (x66 : Int32) (f1 : Nat → Int32) (f2 : Nat → Int32) (f3 : Nat → Int32) (q4 : Nat → Nat) (q5 : Nat → Nat) (q6 : Nat → Nat) (q7 : Nat → Nat) (f8 : Nat → Int32) (q9 : Nat → Nat) (q10 : Nat → Nat) (f11 : Nat → Int32) (m12_0 m12_1 : Nat) (m13_0 m13_1 : Nat) (m14_0 m14_1 : Nat) (m15_0 m15_1 : Nat) (f17 : Nat → Int32) (q31 : Nat → Nat) (f32 : Nat → Int32) (f34 : Nat → Int32) (f35 : Nat → Int32) (f36 : Nat → Int32) (f37 : Nat → Int32) (q38 : Nat → Nat) (f39 : Nat → Int32) (f40 : Nat → Int32) (f41 : Nat → Int32) (m42_0 m42_1 : Nat) (f43 : Nat → Int32) (f44 : Nat → Int32) (f47 : Nat → Int32) (f48 : Nat → Int32) (f49 : Nat → Int32) (f50 : Nat → Int32) (f51 : Nat → Int32) (q54 : Nat → Nat) (q55 : Nat → Nat) (q56 : Nat → Nat) (f57 : Nat → Int32) (q58 : Nat → Nat) (f59 : Nat → Int32) (f60 : Nat → Int32) (f64 : Nat → Int32) (hx16 : x16 ≤ 1) (hx18 : x18 ≤ 900) (hx19 : x19 ≤ 900) (hx21 : x21 ≤ 900) (hx22 : x22 ≤ 4) (hx26 : x26 ≤ 6) (hx28 : x28 ≤ 1) (hx29 : x29 ≤ 1) (hx30 : x30 ≤ 1) (hx33 : x33 ≤ 20) (hx46 : x46 ≤ 5) (hx52 : x52 ≤ 2400) (hx53 : x53 ≤ 119) (hx61 : x61 ≤ 119) (hx62 : x62 ≤ 2000) (hx63 : x63 ≤ 1) (hx65 : x65 ≤ 7) (hm12_0 : m12_0 ≤ 3) (hm12_1 : m12_1 ≤ 3) (hm13_0 : m13_0 ≤ 8) (hm13_1 : m13_1 ≤ 8) (hm14_0 : m14_0 ≤ 14) (hm14_1 : m14_1 ≤ 14) (hm15_0 : m15_0 ≤ 8) (hm15_1 : m15_1 ≤ 8) (hm42_0 : m42_0 ≤ 120) (hm42_1 : m42_1 ≤ 400) (hbg : (x16 = 0 ∧ (m13_0 = 0 ∨ 1 ≤ m15_0)) ∨ (x16 = 1 ∧ (m13_1 = 0 ∨ 1 ≤ m15_1))) : Met l yX9_layGaps vs_M_layGaps ({ frames := 4, cells := 0, slots := 0, locals := 89 }) (va_Pc [.ref (ad 0)] (pu_B (dC, dI) (mo_w ad ck x0 (nI x16) (nI x18) (nI x19) x20 (nI x21) (nI x22) x23 x24 x25 (nI x26) x27 (nI x28) (nI x29) (nI x30) (nI x33) x45 (nI x46) (nI x52) (nI x53) (nI x61) (nI x62) (nI x63) (nI x65) x66 f1 f2 f3 (bN 3 q4) (bN 7 q5) (bN 7 q6) (bN 4 q7) f8 (bN 2 q9) (bH q10) f11 (b2 m12_0 m12_1) (b2 m13_0 m13_1) (b2 m14_0 m14_1) (b2m m15_0 m15_1) f17 (bA 159 q31) f32 f34 f35 f36 f37 (bN 7 q38) f39 f40 f41 (b2 m42_0 m42_1) f43 f44 f47 f48 f49 f50 f51 (bN 13 q54) (bN 120 q55) (bN 120 q56) f57 (bN 120 q58) f59 f60 f64) (mo_t ck) sz)) (va_Qv (fun (_ : Unit) => True) (fun _ t => ∃ (z55 : Nat → Nat) (z56 : Nat → Nat) (z57 : Nat → Int32) (z58 : Nat → Nat) (z62 : Nat) (z63 : Nat), pu_E (dC, dI) (mo_w ad ck x0 (nI x16) (nI x18) (nI x19) x20 (nI x21) (nI x22) x23 x24 x25 (nI x26) x27 (nI x28) (nI x29) (nI x30) (nI x33) x45 (nI x46) (nI x52) (nI x53) (nI x61) (nI z62) (nI z63) (nI x65) x66 f1 f2 f3 (bN 3 q4) (bN 7 q5) (bN 7 q6) (bN 4 q7) f8 (bN 2 q9) (bH q10) f11 (b2 m12_0 m12_1) (b2 m13_0 m13_1) (b2 m14_0 m14_1) (b2m m15_0 m15_1) f17 (bA 159 q31) f32 f34 f35 f36 f37 (bN 7 q38) f39 f40 f41 (b2 m42_0 m42_1) f43 f44 f47 f48 f49 f50 f51 (bN 13 q54) (bN 120 z55) (bN 120 z56) z57 (bN 120 z58) f59 f60 f64) (mo_t ck) (va_A ((mo_w ad ck x0 (nI x16) (nI x18) (nI x19) x20 (nI x21) (nI x22) x23 x24 x25 (nI x26) x27 (nI x28) (nI x29) (nI x30) (nI x33) x45 (nI x46) (nI x52) (nI x53) (nI x61) (nI x62) (nI x63) (nI x65) x66 f1 f2 f3 (bN 3 q4) (bN 7 q5) (bN 7 q6) (bN 4 q7) f8 (bN 2 q9) (bH q10) f11 (b2 m12_0 m12_1) (b2 m13_0 m13_1) (b2 m14_0 m14_1) (b2m m15_0 m15_1) f17 (bA 159 q31) f32 f34 f35 f36 f37 (bN 7 q38) f39 f40 f41 (b2 m42_0 m42_1) f43 f44 f47 f48 f49 f50 f51 (bN 13 q54) (bN 120 q55) (bN 120 q56) f57 (bN 120 q58) f59 f60 f64)) sz) t ∧ (z62 ≤ 2000) ∧ (z63 ≤ 1)) (va_A ((mo_w ad ck x0 (nI x16) (nI x18) (nI x19) x20 (nI x21) (nI x22) x23 x24 x25 (nI x26) x27 (nI x28) (nI x29) (nI x30) (nI x33) x45 (nI x46) (nI x52) (nI x53) (nI x61) (nI x62) (nI x63) (nI x65) x66 f1 f2 f3 (bN 3 q4) (bN 7 q5) (bN 7 q6) (bN 4 q7) f8 (bN 2 q9) (bH q10) f11 (b2 m12_0 m12_1) (b2 m13_0 m13_1) (b2 m14_0 m14_1) (b2m m15_0 m15_1) f17 (bA 159 q31) f32 f34 f35 f36 f37 (bN 7 q38) f39 f40 f41 (b2 m42_0 m42_1) f43 f44 f47 f48 f49 f50 f51 (bN 13 q54) (bN 120 q55) (bN 120 q56) f57 (bN 120 q58) f59 f60 f64)) sz)) 0 0 (va_A ((mo_w ad ck x0 (nI x16) (nI x18) (nI x19) x20 (nI x21) (nI x22) x23 x24 x25 (nI x26) x27 (nI x28) (nI x29) (nI x30) (nI x33) x45 (nI x46) (nI x52) (nI x53) (nI x61) (nI x62) (nI x63) (nI x65) x66 f1 f2 f3 (bN 3 q4) (bN 7 q5) (bN 7 q6) (bN 4 q7) f8 (bN 2 q9) (bH q10) f11 (b2 m12_0 m12_1) (b2 m13_0 m13_1) (b2 m14_0 m14_1) (b2m m15_0 m15_1) f17 (bA 159 q31) f32 f34 f35 f36 f37 (bN 7 q38) f39 f40 f41 (b2 m42_0 m42_1) f43 f44 f47 f48 f49 f50 f51 (bN 13 q54) (bN 120 q55) (bN 120 q56) f57 (bN 120 q58) f59 f60 f64)) sz) := by
  refine Met.ofW (cc := cX9_layGaps) (maxL := 4) (ret := none) (by decide) rfl ?_
  intro p e s m args below meth c s₁ B hml hv
  obtain ⟨rfl, rfl, hP, hK, hD0⟩ := hv
  have hx := B.exec
  have hb := B.bytes
  have hr := B.returns
  have hts := atoms_spec (ws := vs_M_layGaps) B.pre
  have v_1 := hts (.fieldLink RX9 432 "ClockReachModel" "gaps" "I") (List.mem_cons_of_mem _ vm_330)
  have v_2 := hts (.fieldLink RX9 435 "ClockReachModel" "isBroken" "Z") (List.mem_cons_of_mem _ vm_338)
  have v_3 := hts (.fieldLink RX9 130 "ClockReachModel" "setAt" "[I") (List.mem_cons_of_mem _ vm_334)
  have v_4 := hts (.fieldLink RX9 52 "ClockReachModel" "begins" "[I") (List.mem_cons_of_mem _ vm_133)
  have v_5 := hts (.fieldLink RX9 258 "ClockReachModel" "bank" "I") (List.mem_cons_of_mem _ vm_22)
  have v_11 := hts (.fieldLink RX9 429 "ClockReachModel" "pathMany" "I") (List.mem_cons_of_mem _ vm_326)
  have v_12 := hts (.fieldLink RX9 118 "ClockReachModel" "path" "[I") (List.mem_cons_of_mem _ vm_327)
  have hown : s.vm.findClass RX9 = some m.cls := findClass_of_methodNamed B.named
  have hlocks := B.notSynchronized
  have hiX9 : ∀ w ∈ wsX90, w ∈ vs_M_layGaps := fun _ h => List.mem_cons_of_mem _ (List.mem_append_right _ h)
  have hD := hD0.self (sz := s.heap.size)
  generalize hAe : va_A ((mo_w ad ck x0 (nI x16) (nI x18) (nI x19) x20 (nI x21) (nI x22) x23 x24 x25 (nI x26) x27 (nI x28) (nI x29) (nI x30) (nI x33) x45 (nI x46) (nI x52) (nI x53) (nI x61) (nI x62) (nI x63) (nI x65) x66 f1 f2 f3 (bN 3 q4) (bN 7 q5) (bN 7 q6) (bN 4 q7) f8 (bN 2 q9) (bH q10) f11 (b2 m12_0 m12_1) (b2 m13_0 m13_1) (b2 m14_0 m14_1) (b2m m15_0 m15_1) f17 (bA 159 q31) f32 f34 f35 f36 f37 (bN 7 q38) f39 f40 f41 (b2 m42_0 m42_1) f43 f44 f47 f48 f49 f50 f51 (bN 13 q54) (bN 120 q55) (bN 120 q56) f57 (bN 120 q58) f59 f60 f64)) s.heap.size = A at hD ⊢
  have hA : ∀ q : Nat, s.heap.size ≤ q → A q := fun q h => by rw [← hAe]; exact Or.inr h
  have hS : va_S A s.heap s.heap [] := va_S.rf
  have hl := lv_entry ([.ref (ad 0)]) (n := 4) (Nat.le_of_ble_eq_true rfl)
  rw [lg_entry_eq]
  generalize (lg_sl ([.ref (ad 0)]) ++ List.replicate (4 - (lg_sl ([.ref (ad 0)])).length) Slot.unset).toArray = ls at hl ⊢
  have hl : lv_has ls 4 [(0, .ref (ad 0))] := hl
  refine lv_aload_n hx hb dX9_layGaps_0 rfl (lv_at hl 0 rfl) ?_
  refine lv_iconst (v := 0) hx hb dX9_layGaps_1 (by decide) ?_
  refine va_put (D := (dC, dI)) (ci := 9) (v := .int 0) (ty := .int) (C := RX9) (T := TX9) (N := 67) hx hb hts hiX9 tyX9 tyX9_ok nmX9 hown hK hP hD hS 0 rfl rfl 62 (by decide) v_1 (fun _ h9 => h9) rfl (by decide +kernel) rfl rfl (Nat.le_of_ble_eq_true rfl) dX9_layGaps_2 (fun H locs hP hD hS => ?_)
  have hP : va_P (dC, dI) vwCl (mo_w ad ck x0 (nI x16) (nI x18) (nI x19) x20 (nI x21) (nI x22) x23 x24 x25 (nI x26) x27 (nI x28) (nI x29) (nI x30) (nI x33) x45 (nI x46) (nI x52) (nI x53) (nI x61) 0 (nI x63) (nI x65) x66 f1 f2 f3 (bN 3 q4) (bN 7 q5) (bN 7 q6) (bN 4 q7) f8 (bN 2 q9) (bH q10) f11 (b2 m12_0 m12_1) (b2 m13_0 m13_1) (b2 m14_0 m14_1) (b2m m15_0 m15_1) f17 (bA 159 q31) f32 f34 f35 f36 f37 (bN 7 q38) f39 f40 f41 (b2 m42_0 m42_1) f43 f44 f47 f48 f49 f50 f51 (bN 13 q54) (bN 120 q55) (bN 120 q56) f57 (bN 120 q58) f59 f60 f64) H := hP
  have hD : va_D A (mo_w ad ck x0 (nI x16) (nI x18) (nI x19) x20 (nI x21) (nI x22) x23 x24 x25 (nI x26) x27 (nI x28) (nI x29) (nI x30) (nI x33) x45 (nI x46) (nI x52) (nI x53) (nI x61) 0 (nI x63) (nI x65) x66 f1 f2 f3 (bN 3 q4) (bN 7 q5) (bN 7 q6) (bN 4 q7) f8 (bN 2 q9) (bH q10) f11 (b2 m12_0 m12_1) (b2 m13_0 m13_1) (b2 m14_0 m14_1) (b2m m15_0 m15_1) f17 (bA 159 q31) f32 f34 f35 f36 f37 (bN 7 q38) f39 f40 f41 (b2 m42_0 m42_1) f43 f44 f47 f48 f49 f50 f51 (bN 13 q54) (bN 120 q55) (bN 120 q56) f57 (bN 120 q58) f59 f60 f64) := hD
  refine lv_aload_n hx hb dX9_layGaps_5 rfl (lv_at hl 0 rfl) ?_
  refine lv_iconst (v := 0) hx hb dX9_layGaps_6 (by decide) ?_
  refine va_put (D := (dC, dI)) (ci := 9) (v := .int 0) (ty := .boolean) (C := RX9) (T := TX9) (N := 67) hx hb hts hiX9 tyX9 tyX9_ok nmX9 hown hK hP hD hS 0 rfl rfl 63 (by decide) v_2 (fun _ h9 => h9) rfl (by decide +kernel) rfl rfl (Nat.le_of_ble_eq_true rfl) dX9_layGaps_7 (fun H locs hP hD hS => ?_)
  have hP : va_P (dC, dI) vwCl (mo_w ad ck x0 (nI x16) (nI x18) (nI x19) x20 (nI x21) (nI x22) x23 x24 x25 (nI x26) x27 (nI x28) (nI x29) (nI x30) (nI x33) x45 (nI x46) (nI x52) (nI x53) (nI x61) 0 0 (nI x65) x66 f1 f2 f3 (bN 3 q4) (bN 7 q5) (bN 7 q6) (bN 4 q7) f8 (bN 2 q9) (bH q10) f11 (b2 m12_0 m12_1) (b2 m13_0 m13_1) (b2 m14_0 m14_1) (b2m m15_0 m15_1) f17 (bA 159 q31) f32 f34 f35 f36 f37 (bN 7 q38) f39 f40 f41 (b2 m42_0 m42_1) f43 f44 f47 f48 f49 f50 f51 (bN 13 q54) (bN 120 q55) (bN 120 q56) f57 (bN 120 q58) f59 f60 f64) H := hP
  have hD : va_D A (mo_w ad ck x0 (nI x16) (nI x18) (nI x19) x20 (nI x21) (nI x22) x23 x24 x25 (nI x26) x27 (nI x28) (nI x29) (nI x30) (nI x33) x45 (nI x46) (nI x52) (nI x53) (nI x61) 0 0 (nI x65) x66 f1 f2 f3 (bN 3 q4) (bN 7 q5) (bN 7 q6) (bN 4 q7) f8 (bN 2 q9) (bH q10) f11 (b2 m12_0 m12_1) (b2 m13_0 m13_1) (b2 m14_0 m14_1) (b2m m15_0 m15_1) f17 (bA 159 q31) f32 f34 f35 f36 f37 (bN 7 q38) f39 f40 f41 (b2 m42_0 m42_1) f43 f44 f47 f48 f49 f50 f51 (bN 13 q54) (bN 120 q55) (bN 120 q56) f57 (bN 120 q58) f59 f60 f64) := hD
  refine lv_iconst (v := 0) hx hb dX9_layGaps_10 (by decide) ?_
  refine lv_istore_n (lv' := [(1, .int 0), (0, .ref (ad 0))]) hx hb dX9_layGaps_11 rfl hl (by decide) rfl (fun ls hl => ?_)
  refine pu_while (fun nn H locs ls => ∃ (g_4 : Nat → Nat) (g_5 : Nat), nn = 3 - g_5 ∧ g_5 ≤ 3 ∧ 0 = 0 ∧ va_P (dC, dI) vwCl (mo_w ad ck x0 (nI x16) (nI x18) (nI x19) x20 (nI x21) (nI x22) x23 x24 x25 (nI x26) x27 (nI x28) (nI x29) (nI x30) (nI x33) x45 (nI x46) (nI x52) (nI x53) (nI x61) 0 0 (nI x65) x66 f1 f2 f3 (bN 3 q4) (bN 7 q5) (bN 7 q6) (bN 4 q7) f8 (bN 2 q9) (bH q10) f11 (b2 m12_0 m12_1) (b2 m13_0 m13_1) (b2 m14_0 m14_1) (b2m m15_0 m15_1) f17 (bA 159 q31) f32 f34 f35 f36 f37 (bN 7 q38) f39 f40 f41 (b2 m42_0 m42_1) f43 f44 f47 f48 f49 f50 f51 (bN 13 q54) (bN 120 q55) (bN 120 q56) f57 (bN 120 g_4) f59 f60 f64) H ∧ va_D A (mo_w ad ck x0 (nI x16) (nI x18) (nI x19) x20 (nI x21) (nI x22) x23 x24 x25 (nI x26) x27 (nI x28) (nI x29) (nI x30) (nI x33) x45 (nI x46) (nI x52) (nI x53) (nI x61) 0 0 (nI x65) x66 f1 f2 f3 (bN 3 q4) (bN 7 q5) (bN 7 q6) (bN 4 q7) f8 (bN 2 q9) (bH q10) f11 (b2 m12_0 m12_1) (b2 m13_0 m13_1) (b2 m14_0 m14_1) (b2m m15_0 m15_1) f17 (bA 159 q31) f32 f34 f35 f36 f37 (bN 7 q38) f39 f40 f41 (b2 m42_0 m42_1) f43 f44 f47 f48 f49 f50 f51 (bN 13 q54) (bN 120 q55) (bN 120 q56) f57 (bN 120 g_4) f59 f60 f64) ∧ va_S A s.heap H locs ∧ lv_has ls 4 [(0, .ref (ad 0)), (1, .int (nI g_5))]) 12 ?_ _ _ _ _ ⟨q58, 0, rfl, (Nat.le_of_ble_eq_true rfl), by omega, hP, hD, hS, lv_sub hl [1, 0] rfl⟩
  rintro nn ih_7 H locs ls ⟨g_4, g_5, rfl, hg_5, he_6, hP, hD, hS, hl⟩
  refine lv_iload_n hx hb dX9_layGaps_12 rfl (lv_at hl 1 rfl) ?_
  refine lv_iconst (v := 3) hx hb dX9_layGaps_13 (by decide) ?_
  refine lv_icmp_ge (tgt := 30) hx hb dX9_layGaps_14 (by decide) (fun c_8 => ?_) (fun c_8 => ?_)
  · have c_8 : 3 ≤ g_5 := (nI_leI (a := 3) (b := g_5) (Nat.le_of_ble_eq_true rfl) (Nat.lt_of_le_of_lt hg_5 (Nat.le_of_ble_eq_true rfl))).mp c_8
    refine lv_aload_n hx hb dX9_layGaps_30 rfl (lv_at hl 0 rfl) ?_
    refine lv_bipush (v := 100) hx hb dX9_layGaps_31 (by decide) ?_
    refine lv_aload_n hx hb dX9_layGaps_33 rfl (lv_at hl 0 rfl) ?_
    refine va_get (D := (dC, dI)) (ci := 9) (v := .ref (ad 15)) (C := RX9) (T := TX9) (N := 67) hx hb hts hiX9 hown hK hP 0 rfl rfl 15 (by decide) v_4 (fun _ h9 => h9) rfl dX9_layGaps_34 ?_
    refine lv_aload_n hx hb dX9_layGaps_37 rfl (lv_at hl 0 rfl) ?_
    refine va_get (D := (dC, dI)) (ci := 9) (v := .int (nI x16)) (C := RX9) (T := TX9) (N := 67) hx hb hts hiX9 hown hK hP 0 rfl rfl 16 (by decide) v_5 (fun _ h9 => h9) rfl dX9_layGaps_38 ?_
    refine va_iald hx hb hK hP 15 14 rfl rfl (vp_in_nI (n := x16) (Nat.lt_of_le_of_lt hx16 (Nat.le_of_ble_eq_true rfl)) (Nat.le_of_ble_eq_true rfl)) dX9_layGaps_41 ?_
    refine lv_topi (fun y_9 ey_9 => ?_)
    obtain ⟨u_10, hu_10, fu_10⟩ := b2m_get (a := m15_0) (b := m15_1) (i := x16) (by omega)
    have qy_9 := ey_9.trans fu_10
    rcases mI_get u_10 with ⟨zy_9, wy_9⟩ | ⟨vy_9, zy_9, wy_9⟩
    · obtain rfl : y_9 = -1 := qy_9.trans wy_9
      refine lv_iadd hx hb dX9_layGaps_42 ?_
      refine lv_topi (fun y_11 ey_11 => ?_)
      obtain rfl : y_11 = 99 := ey_11.trans (by decide)
      refine lv_iconst (v := 0) hx hb dX9_layGaps_43 (by decide) ?_
      refine va_callv (va_runV (As := [.int 99, .int 0]) (rest := []) ⟨hx, hb, hml, hown, hts⟩ (c_M_layConditions_z l dC dI _ ad ck x0 x16 x18 x19 x20 x21 x22 x23 x24 x25 x26 x27 x28 x29 x30 x33 x45 x46 x52 x53 x61 0 0 x65 x66 f1 f2 f3 q4 q5 q6 q7 f8 q9 q10 f11 m12_0 m12_1 m13_0 m13_1 m14_0 m14_1 m15_0 m15_1 f17 q31 f32 f34 f35 f36 f37 q38 f39 f40 f41 m42_0 m42_1 f43 f44 f47 f48 f49 f50 f51 q54 q55 q56 f57 g_4 f59 f60 f64 99 0 hx16 hx18 hx19 hx21 hx22 hx26 hx28 hx29 hx30 hx33 hx46 hx52 hx53 hx61 (Nat.le_of_ble_eq_true rfl) (Nat.le_of_ble_eq_true rfl) hx65 hm12_0 hm12_1 hm13_0 hm13_1 hm14_0 hm14_1 hm15_0 hm15_1 hm42_0 hm42_1 (Nat.le_of_ble_eq_true rfl) (by omega) (Nat.le_of_ble_eq_true rfl)) (cwV 2 hts g_M_layGaps_M_layConditions_z rfl rfl rfl (by decide +kernel) ⟨Nat.le_of_ble_eq_true rfl, Nat.le_of_ble_eq_true rfl⟩) ⟨pu_bl, va_recv hK hP (ci := 9) (q0 := 0) rfl rfl, pu_in hP hK hD⟩ rfl rfl hl.1 rfl (lv_room (Nat.le_of_ble_eq_true rfl)) dX9_layGaps_44 ⟨Nat.le_of_ble_eq_true rfl, Nat.le_of_ble_eq_true rfl⟩) hS (fun q _ h => pu_fr hS hA q h) (pu_fr hS hA) (fun u t H1 locs ht hvm hw hB hz1 hk1 hS => ?_)
      have hP := pu_keep hP hk1
      clear hk1 hz1 ht hvm
      generalize H1 = H at hP hS ⊢
      refine lv_iconst (v := 1) hx hb dX9_layGaps_47 (by decide) ?_
      refine lv_istore_n (lv' := [(1, .int 1), (0, .ref (ad 0))]) hx hb dX9_layGaps_48 rfl hl (by decide) rfl (fun ls hl => ?_)
      refine pu_while (fun nn H locs ls => ∃ (g_21 : Nat → Nat) (g_22 : Nat → Nat) (g_23 : Nat → Int32) (g_24 : Nat → Nat) (g_25 : Nat) (g_26 : Nat) (g_27 : Nat), nn = 120 - g_27 ∧ g_25 ≤ 1907 ∧ g_26 ≤ 1 ∧ (1 ≤ g_27 ∧ g_27 ≤ 120) ∧ g_25 + 13 ≤ 16 * g_27 ∧ va_P (dC, dI) vwCl (mo_w ad ck x0 (nI x16) (nI x18) (nI x19) x20 (nI x21) (nI x22) x23 x24 x25 (nI x26) x27 (nI x28) (nI x29) (nI x30) (nI x33) x45 (nI x46) (nI x52) (nI x53) (nI x61) (nI g_25) (nI g_26) (nI x65) x66 f1 f2 f3 (bN 3 q4) (bN 7 q5) (bN 7 q6) (bN 4 q7) f8 (bN 2 q9) (bH q10) f11 (b2 m12_0 m12_1) (b2 m13_0 m13_1) (b2 m14_0 m14_1) (b2m m15_0 m15_1) f17 (bA 159 q31) f32 f34 f35 f36 f37 (bN 7 q38) f39 f40 f41 (b2 m42_0 m42_1) f43 f44 f47 f48 f49 f50 f51 (bN 13 q54) (bN 120 g_21) (bN 120 g_22) g_23 (bN 120 g_24) f59 f60 f64) H ∧ va_D A (mo_w ad ck x0 (nI x16) (nI x18) (nI x19) x20 (nI x21) (nI x22) x23 x24 x25 (nI x26) x27 (nI x28) (nI x29) (nI x30) (nI x33) x45 (nI x46) (nI x52) (nI x53) (nI x61) (nI g_25) (nI g_26) (nI x65) x66 f1 f2 f3 (bN 3 q4) (bN 7 q5) (bN 7 q6) (bN 4 q7) f8 (bN 2 q9) (bH q10) f11 (b2 m12_0 m12_1) (b2 m13_0 m13_1) (b2 m14_0 m14_1) (b2m m15_0 m15_1) f17 (bA 159 q31) f32 f34 f35 f36 f37 (bN 7 q38) f39 f40 f41 (b2 m42_0 m42_1) f43 f44 f47 f48 f49 f50 f51 (bN 13 q54) (bN 120 g_21) (bN 120 g_22) g_23 (bN 120 g_24) f59 f60 f64) ∧ va_S A s.heap H locs ∧ lv_has ls 4 [(0, .ref (ad 0)), (1, .int (nI g_27))]) 49 ?_ _ _ _ _ ⟨q55, q56, f57, g_4, 0, 0, 1, rfl, (Nat.le_of_ble_eq_true rfl), (Nat.le_of_ble_eq_true rfl), ⟨by omega, by omega⟩, by omega, hP, hD, hS, lv_sub hl [1, 0] rfl⟩
      rintro nn ih_29 H locs ls ⟨g_21, g_22, g_23, g_24, g_25, g_26, g_27, rfl, hg_25, hg_26, hg_27, he_28, hP, hD, hS, hl⟩
      refine lv_iload_n hx hb dX9_layGaps_49 rfl (lv_at hl 1 rfl) ?_
      refine lv_aload_n hx hb dX9_layGaps_50 rfl (lv_at hl 0 rfl) ?_
      refine va_get (D := (dC, dI)) (ci := 9) (v := .int (nI x61)) (C := RX9) (T := TX9) (N := 67) hx hb hts hiX9 hown hK hP 0 rfl rfl 61 (by decide) v_11 (fun _ h9 => h9) rfl dX9_layGaps_51 ?_
      refine lv_icmp_gt (tgt := 178) hx hb dX9_layGaps_54 (by decide) (fun c_30 => ?_) (fun c_30 => ?_)
      · have c_30 : x61 < g_27 := (nI_ltI (a := x61) (b := g_27) (Nat.lt_of_le_of_lt hx61 (Nat.le_of_ble_eq_true rfl)) (Nat.lt_of_le_of_lt hg_27.2 (Nat.le_of_ble_eq_true rfl))).mp c_30
        exact W.vret hx hb hr (fun t ht hW => ⟨⟨(), rfl, trivial, ⟨g_21, g_22, g_23, g_24, g_25, g_26, ⟨by rw [ht]; exact hP, va_K.moved hW.alike hK, hD⟩, (Nat.le_trans hg_25 (Nat.le_of_ble_eq_true rfl)), hg_26⟩⟩, hS.F ht⟩) hS.2.2 dX9_layGaps_178
      · have c_30 : ¬ x61 < g_27 := fun z => c_30 ((nI_ltI (a := x61) (b := g_27) (Nat.lt_of_le_of_lt hx61 (Nat.le_of_ble_eq_true rfl)) (Nat.lt_of_le_of_lt hg_27.2 (Nat.le_of_ble_eq_true rfl))).mpr z)
        refine lv_aload_n hx hb dX9_layGaps_57 rfl (lv_at hl 0 rfl) ?_
        refine va_get (D := (dC, dI)) (ci := 9) (v := .ref (ad 54)) (C := RX9) (T := TX9) (N := 67) hx hb hts hiX9 hown hK hP 0 rfl rfl 54 (by decide) v_12 (fun _ h9 => h9) rfl dX9_layGaps_58 ?_
        refine lv_iload_n hx hb dX9_layGaps_61 rfl (lv_at hl 1 rfl) ?_
        refine lv_iconst (v := 1) hx hb dX9_layGaps_62 (by decide) ?_
        refine lv_isub hx hb dX9_layGaps_63 ?_
        refine lv_topi (fun y_31 ey_31 => ?_)
        obtain rfl : y_31 = (nI (g_27 - 1)) := ey_31.trans (pk_sub (a := g_27) (b := 1) (by omega))
        refine va_iald hx hb hK hP 35 34 rfl rfl (vp_in_nI (n := (g_27 - 1)) (by omega) (Nat.le_of_ble_eq_true rfl)) dX9_layGaps_64 ?_
        refine lv_topi (fun y_32 ey_32 => ?_)
        obtain ⟨u_33, hu_33, qu_33⟩ := bN_get 13 q54 (((nI (g_27 - 1)) : Int32).toNatClampNeg)
        obtain rfl : y_32 = nI u_33 := ey_32.trans qu_33
        refine lv_istore_n (lv' := [(2, .int (nI u_33)), (0, .ref (ad 0)), (1, .int (nI g_27))]) hx hb dX9_layGaps_65 rfl hl (by decide) rfl (fun ls hl => ?_)
        refine lv_aload_n hx hb dX9_layGaps_66 rfl (lv_at hl 1 rfl) ?_
        refine lv_iload_n hx hb dX9_layGaps_67 rfl (lv_at hl 2 rfl) ?_
        refine lv_iconst (v := 1) hx hb dX9_layGaps_68 (by decide) ?_
        refine lv_isub hx hb dX9_layGaps_69 ?_
        refine lv_topi (fun y_34 ey_34 => ?_)
        obtain rfl : y_34 = (nI (g_27 - 1)) := ey_34.trans (pk_sub (a := g_27) (b := 1) (by omega))
        refine lv_iload_n hx hb dX9_layGaps_70 rfl (lv_at hl 2 rfl) ?_
        refine lv_iconst (v := 1) hx hb dX9_layGaps_71 (by decide) ?_
        have hFc := pu_free hD hS hA
        refine va_callv (va_runV (As := [.int (nI (g_27 - 1)), .int (nI g_27), .int 1]) (rest := []) ⟨hx, hb, hml, hown, hts⟩ (c_M_holdsApart l dC dI _ ad ck x0 x16 x18 x19 x20 x21 x22 x23 x24 x25 x26 x27 x28 x29 x30 x33 x45 x46 x52 x53 x61 g_25 g_26 x65 x66 f1 f2 f3 q4 q5 q6 q7 f8 q9 q10 f11 m12_0 m12_1 m13_0 m13_1 m14_0 m14_1 m15_0 m15_1 f17 q31 f32 f34 f35 f36 f37 q38 f39 f40 f41 m42_0 m42_1 f43 f44 f47 f48 f49 f50 f51 q54 g_21 g_22 g_23 g_24 f59 f60 f64 (g_27 - 1) g_27 1 hx16 hx18 hx19 hx21 hx22 hx26 hx28 hx29 hx30 hx33 hx46 hx52 hx53 hx61 (Nat.le_trans hg_25 (Nat.le_of_ble_eq_true rfl)) hg_26 hx65 hm12_0 hm12_1 hm13_0 hm13_1 hm14_0 hm14_1 hm15_0 hm15_1 hm42_0 hm42_1 (by omega) hg_27.2) (cwV 3 hts g_M_layGaps_M_holdsApart rfl rfl rfl (by decide +kernel) ⟨Nat.le_of_ble_eq_true rfl, Nat.le_of_ble_eq_true rfl⟩) ⟨pu_bl, va_recv hK hP (ci := 9) (q0 := 0) rfl rfl, pu_in hP hK hD⟩ rfl rfl hl.1 rfl (lv_room (Nat.le_of_ble_eq_true rfl)) dX9_layGaps_72 ⟨Nat.le_of_ble_eq_true rfl, Nat.le_of_ble_eq_true rfl⟩) hS (fun q _ h => hFc q h) hFc (fun u t H1 locs ht hvm hw hB hz1 hk1 hS => ?_)
        obtain ⟨z55_36, z56_37, z57_38, ⟨hP1, -, hD1⟩⟩ := hB
        rw [ht] at hP1
        have hP := hP1
        have hD := pu_all hFc hD1
        clear hP1 hD1 hFc
        clear hk1 hz1 ht hvm
        generalize H1 = H at hP hS ⊢
        refine lv_aload_n hx hb dX9_layGaps_75 rfl (lv_at hl 1 rfl) ?_
        refine lv_aload_n hx hb dX9_layGaps_76 rfl (lv_at hl 1 rfl) ?_
        refine lv_iload_n hx hb dX9_layGaps_77 rfl (lv_at hl 0 rfl) ?_
        refine va_calli (va_runV (As := [.int (nI u_33)]) (rest := [.ref (ad 0)]) ⟨hx, hb, hml, hown, hts⟩ (c_M_outOf l dC dI _ ad ck x0 x16 x18 x19 x20 x21 x22 x23 x24 x25 x26 x27 x28 x29 x30 x33 x45 x46 x52 x53 x61 (g_25 + 1) g_26 x65 x66 f1 f2 f3 q4 q5 q6 q7 f8 q9 q10 f11 m12_0 m12_1 m13_0 m13_1 m14_0 m14_1 m15_0 m15_1 f17 q31 f32 f34 f35 f36 f37 q38 f39 f40 f41 m42_0 m42_1 f43 f44 f47 f48 f49 f50 f51 q54 z55_36 z56_37 z57_38 g_24 f59 f60 f64 u_33 hx16 hx18 hx19 hx21 hx22 hx26 hx28 hx29 hx30 hx33 hx46 hx52 hx53 hx61 (by omega) hg_26 hx65 hm12_0 hm12_1 hm13_0 hm13_1 hm14_0 hm14_1 hm15_0 hm15_1 hm42_0 hm42_1 hu_33) (cwV 1 hts g_M_layGaps_M_outOf rfl rfl rfl (by decide +kernel) ⟨Nat.le_of_ble_eq_true rfl, Nat.le_of_ble_eq_true rfl⟩) ⟨pu_bl, va_recv hK hP (ci := 9) (q0 := 0) rfl rfl, pu_in hP hK hD⟩ rfl rfl hl.1 rfl (lv_room (Nat.le_of_ble_eq_true rfl)) dX9_layGaps_78 ⟨Nat.le_of_ble_eq_true rfl, Nat.le_of_ble_eq_true rfl⟩) hS (fun q _ h => pu_fr hS hA q h) (pu_fr hS hA) (fun r_39 u t H1 locs ht hvm hw hB hz1 hk1 hS => ?_)
        have hP := pu_keep hP hk1
        clear hk1 hz1 ht hvm
        generalize H1 = H at hP hS ⊢
        obtain ⟨u_40, hu_40, rfl⟩ := hw
        refine va_calli (va_runV (As := [.int (nI u_40)]) (rest := []) ⟨hx, hb, hml, hown, hts⟩ (c_M_isUrgent l dC dI _ ad ck x0 x16 x18 x19 x20 x21 x22 x23 x24 x25 x26 x27 x28 x29 x30 x33 x45 x46 x52 x53 x61 (g_25 + 1) g_26 x65 x66 f1 f2 f3 q4 q5 q6 q7 f8 q9 q10 f11 m12_0 m12_1 m13_0 m13_1 m14_0 m14_1 m15_0 m15_1 f17 q31 f32 f34 f35 f36 f37 q38 f39 f40 f41 m42_0 m42_1 f43 f44 f47 f48 f49 f50 f51 q54 z55_36 z56_37 z57_38 g_24 f59 f60 f64 u_40 hx16 hx18 hx19 hx21 hx22 hx26 hx28 hx29 hx30 hx33 hx46 hx52 hx53 hx61 (by omega) hg_26 hx65 hm12_0 hm12_1 hm13_0 hm13_1 hm14_0 hm14_1 hm15_0 hm15_1 hm42_0 hm42_1 hu_40) (cwV 1 hts g_M_layGaps_M_isUrgent rfl rfl rfl (by decide +kernel) ⟨Nat.le_of_ble_eq_true rfl, Nat.le_of_ble_eq_true rfl⟩) ⟨pu_bl, va_recv hK hP (ci := 9) (q0 := 0) rfl rfl, pu_in hP hK hD⟩ rfl rfl hl.1 rfl (lv_room (Nat.le_of_ble_eq_true rfl)) dX9_layGaps_81 ⟨Nat.le_of_ble_eq_true rfl, Nat.le_of_ble_eq_true rfl⟩) hS (fun q _ h => pu_fr hS hA q h) (pu_fr hS hA) (fun r_41 u t H1 locs ht hvm hw hB hz1 hk1 hS => ?_)
        have hP := pu_keep hP hk1
        clear hk1 hz1 ht hvm
        generalize H1 = H at hP hS ⊢
        obtain ⟨u_42, hu_42, rfl⟩ := hw
        refine pu_join (fun H locs ls st => ∃ (g_43 : Nat) (g_44 : Nat → Nat) (g_45 : Nat → Nat) (g_46 : Nat → Int32), st = [] ∧ (1 ≤ g_43 ∧ g_43 ≤ 1909) ∧ g_43 + 13 ≤ 16 * g_27 + 2 ∧ va_P (dC, dI) vwCl (mo_w ad ck x0 (nI x16) (nI x18) (nI x19) x20 (nI x21) (nI x22) x23 x24 x25 (nI x26) x27 (nI x28) (nI x29) (nI x30) (nI x33) x45 (nI x46) (nI x52) (nI x53) (nI x61) (nI g_43) (nI g_26) (nI x65) x66 f1 f2 f3 (bN 3 q4) (bN 7 q5) (bN 7 q6) (bN 4 q7) f8 (bN 2 q9) (bH q10) f11 (b2 m12_0 m12_1) (b2 m13_0 m13_1) (b2 m14_0 m14_1) (b2m m15_0 m15_1) f17 (bA 159 q31) f32 f34 f35 f36 f37 (bN 7 q38) f39 f40 f41 (b2 m42_0 m42_1) f43 f44 f47 f48 f49 f50 f51 (bN 13 q54) (bN 120 g_44) (bN 120 g_45) g_46 (bN 120 g_24) f59 f60 f64) H ∧ va_D A (mo_w ad ck x0 (nI x16) (nI x18) (nI x19) x20 (nI x21) (nI x22) x23 x24 x25 (nI x26) x27 (nI x28) (nI x29) (nI x30) (nI x33) x45 (nI x46) (nI x52) (nI x53) (nI x61) (nI g_43) (nI g_26) (nI x65) x66 f1 f2 f3 (bN 3 q4) (bN 7 q5) (bN 7 q6) (bN 4 q7) f8 (bN 2 q9) (bH q10) f11 (b2 m12_0 m12_1) (b2 m13_0 m13_1) (b2 m14_0 m14_1) (b2m m15_0 m15_1) f17 (bA 159 q31) f32 f34 f35 f36 f37 (bN 7 q38) f39 f40 f41 (b2 m42_0 m42_1) f43 f44 f47 f48 f49 f50 f51 (bN 13 q54) (bN 120 g_44) (bN 120 g_45) g_46 (bN 120 g_24) f59 f60 f64) ∧ va_S A s.heap H locs ∧ lv_has ls 4 [(0, .ref (ad 0)), (1, .int (nI g_27)), (2, .int (nI u_33))]) 96 ?_ (fun j_48 => ?_)
        · rintro H locs ls st ⟨g_43, g_44, g_45, g_46, rfl, hg_43, he_47, hP, hD, hS, hl⟩
          refine lv_aload_n hx hb dX9_layGaps_96 rfl (lv_at hl 0 rfl) ?_
          refine lv_bipush (v := 100) hx hb dX9_layGaps_97 (by decide) ?_
          refine lv_aload_n hx hb dX9_layGaps_99 rfl (lv_at hl 0 rfl) ?_
          refine lv_iload_n hx hb dX9_layGaps_100 rfl (lv_at hl 2 rfl) ?_
          refine va_calli (va_runV (As := [.int (nI u_33)]) (rest := [.int 100, .ref (ad 0)]) ⟨hx, hb, hml, hown, hts⟩ (c_M_outOf l dC dI _ ad ck x0 x16 x18 x19 x20 x21 x22 x23 x24 x25 x26 x27 x28 x29 x30 x33 x45 x46 x52 x53 x61 g_43 g_26 x65 x66 f1 f2 f3 q4 q5 q6 q7 f8 q9 q10 f11 m12_0 m12_1 m13_0 m13_1 m14_0 m14_1 m15_0 m15_1 f17 q31 f32 f34 f35 f36 f37 q38 f39 f40 f41 m42_0 m42_1 f43 f44 f47 f48 f49 f50 f51 q54 g_44 g_45 g_46 g_24 f59 f60 f64 u_33 hx16 hx18 hx19 hx21 hx22 hx26 hx28 hx29 hx30 hx33 hx46 hx52 hx53 hx61 (Nat.le_trans hg_43.2 (Nat.le_of_ble_eq_true rfl)) hg_26 hx65 hm12_0 hm12_1 hm13_0 hm13_1 hm14_0 hm14_1 hm15_0 hm15_1 hm42_0 hm42_1 hu_33) (cwV 1 hts g_M_layGaps_M_outOf rfl rfl rfl (by decide +kernel) ⟨Nat.le_of_ble_eq_true rfl, Nat.le_of_ble_eq_true rfl⟩) ⟨pu_bl, va_recv hK hP (ci := 9) (q0 := 0) rfl rfl, pu_in hP hK hD⟩ rfl rfl hl.1 rfl (lv_room (Nat.le_of_ble_eq_true rfl)) dX9_layGaps_101 ⟨Nat.le_of_ble_eq_true rfl, Nat.le_of_ble_eq_true rfl⟩) hS (fun q _ h => pu_fr hS hA q h) (pu_fr hS hA) (fun r_49 u t H1 locs ht hvm hw hB hz1 hk1 hS => ?_)
          have hP := pu_keep hP hk1
          clear hk1 hz1 ht hvm
          generalize H1 = H at hP hS ⊢
          obtain ⟨u_50, hu_50, rfl⟩ := hw
          refine lv_iadd hx hb dX9_layGaps_104 ?_
          refine lv_topi (fun y_51 ey_51 => ?_)
          obtain rfl : y_51 = (nI (100 + u_50)) := ey_51.trans (nI_add 100 u_50)
          refine lv_iload_n hx hb dX9_layGaps_105 rfl (lv_at hl 1 rfl) ?_
          have hFc := pu_free hD hS hA
          refine va_callv (va_runV (As := [.int (nI (100 + u_50)), .int (nI g_27)]) (rest := []) ⟨hx, hb, hml, hown, hts⟩ (c_M_layConditions_p l dC dI _ ad ck x0 x16 x18 x19 x20 x21 x22 x23 x24 x25 x26 x27 x28 x29 x30 x33 x45 x46 x52 x53 x61 g_43 g_26 x65 x66 f1 f2 f3 q4 q5 q6 q7 f8 q9 q10 f11 m12_0 m12_1 m13_0 m13_1 m14_0 m14_1 m15_0 m15_1 f17 q31 f32 f34 f35 f36 f37 q38 f39 f40 f41 m42_0 m42_1 f43 f44 f47 f48 f49 f50 f51 q54 g_44 g_45 g_46 g_24 f59 f60 f64 (100 + u_50) g_27 hx16 hx18 hx19 hx21 hx22 hx26 hx28 hx29 hx30 hx33 hx46 hx52 hx53 hx61 (Nat.le_trans hg_43.2 (Nat.le_of_ble_eq_true rfl)) hg_26 hx65 hm12_0 hm12_1 hm13_0 hm13_1 hm14_0 hm14_1 hm15_0 hm15_1 hm42_0 hm42_1 (by omega) (by omega) (by omega)) (cwV 2 hts g_M_layGaps_M_layConditions_p rfl rfl rfl (by decide +kernel) ⟨Nat.le_of_ble_eq_true rfl, Nat.le_of_ble_eq_true rfl⟩) ⟨pu_bl, va_recv hK hP (ci := 9) (q0 := 0) rfl rfl, pu_in hP hK hD⟩ rfl rfl hl.1 rfl (lv_room (Nat.le_of_ble_eq_true rfl)) dX9_layGaps_106 ⟨Nat.le_of_ble_eq_true rfl, Nat.le_of_ble_eq_true rfl⟩) hS (fun q _ h => hFc q h) hFc (fun u t H1 locs ht hvm hw hB hz1 hk1 hS => ?_)
          obtain ⟨z55_53, z56_54, z57_55, z62_56, z63_57, ⟨hP1, -, hD1⟩, hz62_56, hz63_57, xr_52_0⟩ := hB
          rw [ht] at hP1
          have hP := hP1
          have hD := pu_all hFc hD1
          clear hP1 hD1 hFc
          clear hk1 hz1 ht hvm
          generalize H1 = H at hP hS ⊢
          refine lv_aload_n hx hb dX9_layGaps_109 rfl (lv_at hl 0 rfl) ?_
          refine lv_iload_n hx hb dX9_layGaps_110 rfl (lv_at hl 2 rfl) ?_
          refine lv_iload_n hx hb dX9_layGaps_111 rfl (lv_at hl 1 rfl) ?_
          have hFc := pu_free hD hS hA
          refine va_callv (va_runV (As := [.int (nI u_33), .int (nI g_27)]) (rest := []) ⟨hx, hb, hml, hown, hts⟩ (c_M_layConditions_e l dC dI _ ad ck x0 x16 x18 x19 x20 x21 x22 x23 x24 x25 x26 x27 x28 x29 x30 x33 x45 x46 x52 x53 x61 z62_56 z63_57 x65 x66 f1 f2 f3 q4 q5 q6 q7 f8 q9 q10 f11 m12_0 m12_1 m13_0 m13_1 m14_0 m14_1 m15_0 m15_1 f17 q31 f32 f34 f35 f36 f37 q38 f39 f40 f41 m42_0 m42_1 f43 f44 f47 f48 f49 f50 f51 q54 z55_53 z56_54 z57_55 g_24 f59 f60 f64 u_33 g_27 hx16 hx18 hx19 hx21 hx22 hx26 hx28 hx29 hx30 hx33 hx46 hx52 hx53 hx61 (by omega) hz63_57 hx65 hm12_0 hm12_1 hm13_0 hm13_1 hm14_0 hm14_1 hm15_0 hm15_1 hm42_0 hm42_1 hu_33 (by omega)) (cwV 2 hts g_M_layGaps_M_layConditions_e rfl rfl rfl (by decide +kernel) ⟨Nat.le_of_ble_eq_true rfl, Nat.le_of_ble_eq_true rfl⟩) ⟨pu_bl, va_recv hK hP (ci := 9) (q0 := 0) rfl rfl, pu_in hP hK hD⟩ rfl rfl hl.1 rfl (lv_room (Nat.le_of_ble_eq_true rfl)) dX9_layGaps_112 ⟨Nat.le_of_ble_eq_true rfl, Nat.le_of_ble_eq_true rfl⟩) hS (fun q _ h => hFc q h) hFc (fun u t H1 locs ht hvm hw hB hz1 hk1 hS => ?_)
          obtain ⟨z55_59, z56_60, z57_61, z62_62, z63_63, ⟨hP1, -, hD1⟩, hz62_62, hz63_63, xr_58_0⟩ := hB
          rw [ht] at hP1
          have hP := hP1
          have hD := pu_all hFc hD1
          clear hP1 hD1 hFc
          clear hk1 hz1 ht hvm
          generalize H1 = H at hP hS ⊢
          refine lv_iconst (v := 0) hx hb dX9_layGaps_115 (by decide) ?_
          refine lv_istore_n (lv' := [(3, .int 0), (0, .ref (ad 0)), (1, .int (nI g_27)), (2, .int (nI u_33))]) hx hb dX9_layGaps_116 rfl hl (by decide) rfl (fun ls hl => ?_)
          refine pu_while (fun nn H locs ls => ∃ (g_66 : Nat → Nat) (g_67 : Nat), nn = 3 - g_67 ∧ g_67 ≤ 3 ∧ va_P (dC, dI) vwCl (mo_w ad ck x0 (nI x16) (nI x18) (nI x19) x20 (nI x21) (nI x22) x23 x24 x25 (nI x26) x27 (nI x28) (nI x29) (nI x30) (nI x33) x45 (nI x46) (nI x52) (nI x53) (nI x61) (nI z62_62) (nI z63_63) (nI x65) x66 f1 f2 f3 (bN 3 q4) (bN 7 q5) (bN 7 q6) (bN 4 q7) f8 (bN 2 q9) (bH q10) f11 (b2 m12_0 m12_1) (b2 m13_0 m13_1) (b2 m14_0 m14_1) (b2m m15_0 m15_1) f17 (bA 159 q31) f32 f34 f35 f36 f37 (bN 7 q38) f39 f40 f41 (b2 m42_0 m42_1) f43 f44 f47 f48 f49 f50 f51 (bN 13 q54) (bN 120 z55_59) (bN 120 z56_60) z57_61 (bN 120 g_66) f59 f60 f64) H ∧ va_D A (mo_w ad ck x0 (nI x16) (nI x18) (nI x19) x20 (nI x21) (nI x22) x23 x24 x25 (nI x26) x27 (nI x28) (nI x29) (nI x30) (nI x33) x45 (nI x46) (nI x52) (nI x53) (nI x61) (nI z62_62) (nI z63_63) (nI x65) x66 f1 f2 f3 (bN 3 q4) (bN 7 q5) (bN 7 q6) (bN 4 q7) f8 (bN 2 q9) (bH q10) f11 (b2 m12_0 m12_1) (b2 m13_0 m13_1) (b2 m14_0 m14_1) (b2m m15_0 m15_1) f17 (bA 159 q31) f32 f34 f35 f36 f37 (bN 7 q38) f39 f40 f41 (b2 m42_0 m42_1) f43 f44 f47 f48 f49 f50 f51 (bN 13 q54) (bN 120 z55_59) (bN 120 z56_60) z57_61 (bN 120 g_66) f59 f60 f64) ∧ va_S A s.heap H locs ∧ lv_has ls 4 [(0, .ref (ad 0)), (1, .int (nI g_27)), (2, .int (nI u_33)), (3, .int (nI g_67))]) 117 ?_ _ _ _ _ ⟨g_24, 0, rfl, (Nat.le_of_ble_eq_true rfl), hP, hD, hS, lv_sub hl [1, 2, 3, 0] rfl⟩
          rintro nn ih_68 H locs ls ⟨g_66, g_67, rfl, hg_67, hP, hD, hS, hl⟩
          refine lv_iload_n hx hb dX9_layGaps_117 rfl (lv_at hl 3 rfl) ?_
          refine lv_aload_n hx hb dX9_layGaps_118 rfl (lv_at hl 0 rfl) ?_
          refine va_calli (va_runV (As := []) (rest := [.int (nI g_67)]) ⟨hx, hb, hml, hown, hts⟩ (c_M_clocks l dC dI _ ad ck x0 x16 x18 x19 x20 x21 x22 x23 x24 x25 x26 x27 x28 x29 x30 x33 x45 x46 x52 x53 x61 z62_62 z63_63 x65 x66 f1 f2 f3 q4 q5 q6 q7 f8 q9 q10 f11 m12_0 m12_1 m13_0 m13_1 m14_0 m14_1 m15_0 m15_1 f17 q31 f32 f34 f35 f36 f37 q38 f39 f40 f41 m42_0 m42_1 f43 f44 f47 f48 f49 f50 f51 q54 z55_59 z56_60 z57_61 g_66 f59 f60 f64 hx16 hx18 hx19 hx21 hx22 hx26 hx28 hx29 hx30 hx33 hx46 hx52 hx53 hx61 hz62_62 hz63_63 hx65 hm12_0 hm12_1 hm13_0 hm13_1 hm14_0 hm14_1 hm15_0 hm15_1 hm42_0 hm42_1) (cwV 0 hts g_M_layGaps_M_clocks rfl rfl rfl (by decide +kernel) ⟨Nat.le_of_ble_eq_true rfl, Nat.le_of_ble_eq_true rfl⟩) ⟨pu_bl, va_recv hK hP (ci := 9) (q0 := 0) rfl rfl, pu_in hP hK hD⟩ rfl rfl hl.1 rfl (lv_room (Nat.le_of_ble_eq_true rfl)) dX9_layGaps_119 ⟨Nat.le_of_ble_eq_true rfl, Nat.le_of_ble_eq_true rfl⟩) hS (fun q _ h => pu_fr hS hA q h) (pu_fr hS hA) (fun r_69 u t H1 locs ht hvm hw hB hz1 hk1 hS => ?_)
          have hP := pu_keep hP hk1
          clear hk1 hz1 ht hvm
          generalize H1 = H at hP hS ⊢
          obtain ⟨u_70, hu_70, rfl⟩ := hw
          refine lv_icmp_ge (tgt := 159) hx hb dX9_layGaps_122 (by decide) (fun c_71 => ?_) (fun c_71 => ?_)
          · have c_71 : u_70 ≤ g_67 := (nI_leI (a := u_70) (b := g_67) (Nat.lt_of_le_of_lt hu_70 (Nat.le_of_ble_eq_true rfl)) (Nat.lt_of_le_of_lt hg_67 (Nat.le_of_ble_eq_true rfl))).mp c_71
            refine lv_aload_n hx hb dX9_layGaps_159 rfl (lv_at hl 0 rfl) ?_
            refine lv_bipush (v := 100) hx hb dX9_layGaps_160 (by decide) ?_
            refine lv_aload_n hx hb dX9_layGaps_162 rfl (lv_at hl 0 rfl) ?_
            refine lv_iload_n hx hb dX9_layGaps_163 rfl (lv_at hl 2 rfl) ?_
            refine va_calli (va_runV (As := [.int (nI u_33)]) (rest := [.int 100, .ref (ad 0)]) ⟨hx, hb, hml, hown, hts⟩ (c_M_into l dC dI _ ad ck x0 x16 x18 x19 x20 x21 x22 x23 x24 x25 x26 x27 x28 x29 x30 x33 x45 x46 x52 x53 x61 z62_62 z63_63 x65 x66 f1 f2 f3 q4 q5 q6 q7 f8 q9 q10 f11 m12_0 m12_1 m13_0 m13_1 m14_0 m14_1 m15_0 m15_1 f17 q31 f32 f34 f35 f36 f37 q38 f39 f40 f41 m42_0 m42_1 f43 f44 f47 f48 f49 f50 f51 q54 z55_59 z56_60 z57_61 g_66 f59 f60 f64 u_33 hx16 hx18 hx19 hx21 hx22 hx26 hx28 hx29 hx30 hx33 hx46 hx52 hx53 hx61 hz62_62 hz63_63 hx65 hm12_0 hm12_1 hm13_0 hm13_1 hm14_0 hm14_1 hm15_0 hm15_1 hm42_0 hm42_1 hu_33) (cwV 1 hts g_M_layGaps_M_into rfl rfl rfl (by decide +kernel) ⟨Nat.le_of_ble_eq_true rfl, Nat.le_of_ble_eq_true rfl⟩) ⟨pu_bl, va_recv hK hP (ci := 9) (q0 := 0) rfl rfl, pu_in hP hK hD⟩ rfl rfl hl.1 rfl (lv_room (Nat.le_of_ble_eq_true rfl)) dX9_layGaps_164 ⟨Nat.le_of_ble_eq_true rfl, Nat.le_of_ble_eq_true rfl⟩) hS (fun q _ h => pu_fr hS hA q h) (pu_fr hS hA) (fun r_72 u t H1 locs ht hvm hw hB hz1 hk1 hS => ?_)
            have hP := pu_keep hP hk1
            clear hk1 hz1 ht hvm
            generalize H1 = H at hP hS ⊢
            obtain ⟨u_73, hu_73, rfl⟩ := hw
            refine lv_iadd hx hb dX9_layGaps_167 ?_
            refine lv_topi (fun y_74 ey_74 => ?_)
            obtain rfl : y_74 = (nI (100 + u_73)) := ey_74.trans (nI_add 100 u_73)
            refine lv_iload_n hx hb dX9_layGaps_168 rfl (lv_at hl 1 rfl) ?_
            have hFc := pu_free hD hS hA
            refine va_callv (va_runV (As := [.int (nI (100 + u_73)), .int (nI g_27)]) (rest := []) ⟨hx, hb, hml, hown, hts⟩ (c_M_layConditions_p l dC dI _ ad ck x0 x16 x18 x19 x20 x21 x22 x23 x24 x25 x26 x27 x28 x29 x30 x33 x45 x46 x52 x53 x61 z62_62 z63_63 x65 x66 f1 f2 f3 q4 q5 q6 q7 f8 q9 q10 f11 m12_0 m12_1 m13_0 m13_1 m14_0 m14_1 m15_0 m15_1 f17 q31 f32 f34 f35 f36 f37 q38 f39 f40 f41 m42_0 m42_1 f43 f44 f47 f48 f49 f50 f51 q54 z55_59 z56_60 z57_61 g_66 f59 f60 f64 (100 + u_73) g_27 hx16 hx18 hx19 hx21 hx22 hx26 hx28 hx29 hx30 hx33 hx46 hx52 hx53 hx61 (by omega) hz63_63 hx65 hm12_0 hm12_1 hm13_0 hm13_1 hm14_0 hm14_1 hm15_0 hm15_1 hm42_0 hm42_1 (by omega) (by omega) (by omega)) (cwV 2 hts g_M_layGaps_M_layConditions_p rfl rfl rfl (by decide +kernel) ⟨Nat.le_of_ble_eq_true rfl, Nat.le_of_ble_eq_true rfl⟩) ⟨pu_bl, va_recv hK hP (ci := 9) (q0 := 0) rfl rfl, pu_in hP hK hD⟩ rfl rfl hl.1 rfl (lv_room (Nat.le_of_ble_eq_true rfl)) dX9_layGaps_169 ⟨Nat.le_of_ble_eq_true rfl, Nat.le_of_ble_eq_true rfl⟩) hS (fun q _ h => hFc q h) hFc (fun u t H1 locs ht hvm hw hB hz1 hk1 hS => ?_)
            obtain ⟨z55_76, z56_77, z57_78, z62_79, z63_80, ⟨hP1, -, hD1⟩, hz62_79, hz63_80, xr_75_0⟩ := hB
            rw [ht] at hP1
            have hP := hP1
            have hD := pu_all hFc hD1
            clear hP1 hD1 hFc
            clear hk1 hz1 ht hvm
            generalize H1 = H at hP hS ⊢
            refine lv_iinc (v := (nI (g_27 + 1))) (lv' := [(1, .int (nI (g_27 + 1))), (0, .ref (ad 0)), (2, .int (nI u_33)), (3, .int (nI g_67))]) hx hb dX9_layGaps_172 hl (k := 1) rfl (nI_1 _) (by decide) rfl (fun ls hl => ?_)
            refine lv_goto (tgt := 49) hx hb dX9_layGaps_175 (by decide) ?_
            exact ih_29 (120 - (g_27 + 1)) (by omega) _ _ _ ⟨z55_76, z56_77, z57_78, g_66, z62_79, z63_80, (g_27 + 1), rfl, (by omega), hz63_80, ⟨by omega, by omega⟩, by omega, hP, hD, hS, lv_sub hl [1, 0] rfl⟩
          · have c_71 : ¬ u_70 ≤ g_67 := fun z => c_71 ((nI_leI (a := u_70) (b := g_67) (Nat.lt_of_le_of_lt hu_70 (Nat.le_of_ble_eq_true rfl)) (Nat.lt_of_le_of_lt hg_67 (Nat.le_of_ble_eq_true rfl))).mpr z)
            refine lv_aload_n hx hb dX9_layGaps_125 rfl (lv_at hl 0 rfl) ?_
            refine va_get (D := (dC, dI)) (ci := 9) (v := .ref (ad 58)) (C := RX9) (T := TX9) (N := 67) hx hb hts hiX9 hown hK hP 0 rfl rfl 58 (by decide) v_3 (fun _ h9 => h9) rfl dX9_layGaps_126 ?_
            refine lv_iload_n hx hb dX9_layGaps_129 rfl (lv_at hl 3 rfl) ?_
            refine lv_aload_n hx hb dX9_layGaps_130 rfl (lv_at hl 0 rfl) ?_
            refine lv_iload_n hx hb dX9_layGaps_131 rfl (lv_at hl 2 rfl) ?_
            refine va_calli (va_runV (As := [.int (nI u_33)]) (rest := [.int (nI g_67), .ref (ad 58)]) ⟨hx, hb, hml, hown, hts⟩ (c_M_setBy l dC dI _ ad ck x0 x16 x18 x19 x20 x21 x22 x23 x24 x25 x26 x27 x28 x29 x30 x33 x45 x46 x52 x53 x61 z62_62 z63_63 x65 x66 f1 f2 f3 q4 q5 q6 q7 f8 q9 q10 f11 m12_0 m12_1 m13_0 m13_1 m14_0 m14_1 m15_0 m15_1 f17 q31 f32 f34 f35 f36 f37 q38 f39 f40 f41 m42_0 m42_1 f43 f44 f47 f48 f49 f50 f51 q54 z55_59 z56_60 z57_61 g_66 f59 f60 f64 u_33 hx16 hx18 hx19 hx21 hx22 hx26 hx28 hx29 hx30 hx33 hx46 hx52 hx53 hx61 hz62_62 hz63_63 hx65 hm12_0 hm12_1 hm13_0 hm13_1 hm14_0 hm14_1 hm15_0 hm15_1 hm42_0 hm42_1 hu_33) (cwV 1 hts g_M_layGaps_M_setBy rfl rfl rfl (by decide +kernel) ⟨Nat.le_of_ble_eq_true rfl, Nat.le_of_ble_eq_true rfl⟩) ⟨pu_bl, va_recv hK hP (ci := 9) (q0 := 0) rfl rfl, pu_in hP hK hD⟩ rfl rfl hl.1 rfl (lv_room (Nat.le_of_ble_eq_true rfl)) dX9_layGaps_132 ⟨Nat.le_of_ble_eq_true rfl, Nat.le_of_ble_eq_true rfl⟩) hS (fun q _ h => pu_fr hS hA q h) (pu_fr hS hA) (fun r_81 u t H1 locs ht hvm hw hB hz1 hk1 hS => ?_)
            have hP := pu_keep hP hk1
            clear hk1 hz1 ht hvm
            generalize H1 = H at hP hS ⊢
            refine lv_iload_n hx hb dX9_layGaps_135 rfl (lv_at hl 3 rfl) ?_
            refine pu_join (fun H locs ls st => ∃ (g_82 : Nat), st = [.int (nI g_82), .int (nI g_67), .ref (ad 58)] ∧ g_82 ≤ 120 ∧ va_P (dC, dI) vwCl (mo_w ad ck x0 (nI x16) (nI x18) (nI x19) x20 (nI x21) (nI x22) x23 x24 x25 (nI x26) x27 (nI x28) (nI x29) (nI x30) (nI x33) x45 (nI x46) (nI x52) (nI x53) (nI x61) (nI z62_62) (nI z63_63) (nI x65) x66 f1 f2 f3 (bN 3 q4) (bN 7 q5) (bN 7 q6) (bN 4 q7) f8 (bN 2 q9) (bH q10) f11 (b2 m12_0 m12_1) (b2 m13_0 m13_1) (b2 m14_0 m14_1) (b2m m15_0 m15_1) f17 (bA 159 q31) f32 f34 f35 f36 f37 (bN 7 q38) f39 f40 f41 (b2 m42_0 m42_1) f43 f44 f47 f48 f49 f50 f51 (bN 13 q54) (bN 120 z55_59) (bN 120 z56_60) z57_61 (bN 120 g_66) f59 f60 f64) H ∧ va_D A (mo_w ad ck x0 (nI x16) (nI x18) (nI x19) x20 (nI x21) (nI x22) x23 x24 x25 (nI x26) x27 (nI x28) (nI x29) (nI x30) (nI x33) x45 (nI x46) (nI x52) (nI x53) (nI x61) (nI z62_62) (nI z63_63) (nI x65) x66 f1 f2 f3 (bN 3 q4) (bN 7 q5) (bN 7 q6) (bN 4 q7) f8 (bN 2 q9) (bH q10) f11 (b2 m12_0 m12_1) (b2 m13_0 m13_1) (b2 m14_0 m14_1) (b2m m15_0 m15_1) f17 (bA 159 q31) f32 f34 f35 f36 f37 (bN 7 q38) f39 f40 f41 (b2 m42_0 m42_1) f43 f44 f47 f48 f49 f50 f51 (bN 13 q54) (bN 120 z55_59) (bN 120 z56_60) z57_61 (bN 120 g_66) f59 f60 f64) ∧ va_S A s.heap H locs ∧ lv_has ls 4 [(0, .ref (ad 0)), (1, .int (nI g_27)), (2, .int (nI u_33)), (3, .int (nI g_67))]) 152 ?_ (fun j_83 => ?_)
            · rintro H locs ls st ⟨g_82, rfl, hg_82, hP, hD, hS, hl⟩
              refine va_iast hx hb hK hP hD hS 39 38 rfl rfl (vp_in_nI (n := g_67) (by omega) (Nat.le_of_ble_eq_true rfl)) dX9_layGaps_152 (fun H locs hP hD hS => ?_)
              obtain ⟨q_84, eq_84, kq_84⟩ := bN_up 120 g_66 (((nI g_67) : Int32).toNatClampNeg) (v := g_82) hg_82
              have hP : va_P (dC, dI) vwCl (mo_w ad ck x0 (nI x16) (nI x18) (nI x19) x20 (nI x21) (nI x22) x23 x24 x25 (nI x26) x27 (nI x28) (nI x29) (nI x30) (nI x33) x45 (nI x46) (nI x52) (nI x53) (nI x61) (nI z62_62) (nI z63_63) (nI x65) x66 f1 f2 f3 (bN 3 q4) (bN 7 q5) (bN 7 q6) (bN 4 q7) f8 (bN 2 q9) (bH q10) f11 (b2 m12_0 m12_1) (b2 m13_0 m13_1) (b2 m14_0 m14_1) (b2m m15_0 m15_1) f17 (bA 159 q31) f32 f34 f35 f36 f37 (bN 7 q38) f39 f40 f41 (b2 m42_0 m42_1) f43 f44 f47 f48 f49 f50 f51 (bN 13 q54) (bN 120 z55_59) (bN 120 z56_60) z57_61 (bN 120 q_84) f59 f60 f64) H := by rw [← eq_84]; exact hP
              have hD : va_D A (mo_w ad ck x0 (nI x16) (nI x18) (nI x19) x20 (nI x21) (nI x22) x23 x24 x25 (nI x26) x27 (nI x28) (nI x29) (nI x30) (nI x33) x45 (nI x46) (nI x52) (nI x53) (nI x61) (nI z62_62) (nI z63_63) (nI x65) x66 f1 f2 f3 (bN 3 q4) (bN 7 q5) (bN 7 q6) (bN 4 q7) f8 (bN 2 q9) (bH q10) f11 (b2 m12_0 m12_1) (b2 m13_0 m13_1) (b2 m14_0 m14_1) (b2m m15_0 m15_1) f17 (bA 159 q31) f32 f34 f35 f36 f37 (bN 7 q38) f39 f40 f41 (b2 m42_0 m42_1) f43 f44 f47 f48 f49 f50 f51 (bN 13 q54) (bN 120 z55_59) (bN 120 z56_60) z57_61 (bN 120 q_84) f59 f60 f64) := by rw [← eq_84]; exact hD
              refine lv_iinc (v := (nI (g_67 + 1))) (lv' := [(3, .int (nI (g_67 + 1))), (0, .ref (ad 0)), (1, .int (nI g_27)), (2, .int (nI u_33))]) hx hb dX9_layGaps_153 hl (k := 3) rfl (nI_1 _) (by decide) rfl (fun ls hl => ?_)
              refine lv_goto (tgt := 117) hx hb dX9_layGaps_156 (by decide) ?_
              exact ih_68 (3 - (g_67 + 1)) (by omega) _ _ _ ⟨q_84, (g_67 + 1), rfl, (by omega), hP, hD, hS, lv_sub hl [1, 2, 3, 0] rfl⟩
            refine va_calli (va_runS (As := [.int r_81, .int (nI g_67)]) (rest := [.int (nI g_67), .ref (ad 58)]) ⟨hx, hb, hml, hown, hts⟩ (c_X9_isOf l dC dI _ r_81 (nI g_67)) (va_cwS 2 hts g_M_layGaps_X9_isOf rfl rfl rfl (by decide +kernel) ⟨Nat.le_of_ble_eq_true rfl, Nat.le_of_ble_eq_true rfl⟩) ⟨pu_bl, pu_in (hP.sub [] rfl) (hK.sub [] rfl) (hD.sub [] (by decide) rfl)⟩ rfl rfl hl.1 rfl (lv_room (Nat.le_of_ble_eq_true rfl)) dX9_layGaps_136 ⟨Nat.le_of_ble_eq_true rfl, Nat.le_of_ble_eq_true rfl⟩) hS (fun q _ h => pu_fr hS hA q h) (pu_fr hS hA) (fun r_85 u t H1 locs ht hvm hw hB hz1 hk1 hS => ?_)
            have hP := pu_keep hP hk1
            clear hk1 hz1 ht hvm
            generalize H1 = H at hP hS ⊢
            obtain ⟨u_86, hu_86, rfl⟩ := pu_bn hw
            refine lv_if_eq (tgt := 146) hx hb dX9_layGaps_139 (by decide) (fun c_87 => ?_) (fun c_87 => ?_)
            · have c_87 : u_86 = 0 := (nI_eq (a := u_86) (b := 0) (Nat.lt_of_le_of_lt hu_86 (Nat.le_of_ble_eq_true rfl)) (Nat.le_of_ble_eq_true rfl)).mp c_87
              refine lv_aload_n hx hb dX9_layGaps_146 rfl (lv_at hl 0 rfl) ?_
              refine va_get (D := (dC, dI)) (ci := 9) (v := .ref (ad 58)) (C := RX9) (T := TX9) (N := 67) hx hb hts hiX9 hown hK hP 0 rfl rfl 58 (by decide) v_3 (fun _ h9 => h9) rfl dX9_layGaps_147 ?_
              refine lv_iload_n hx hb dX9_layGaps_150 rfl (lv_at hl 3 rfl) ?_
              refine va_iald hx hb hK hP 39 38 rfl rfl (vp_in_nI (n := g_67) (by omega) (Nat.le_of_ble_eq_true rfl)) dX9_layGaps_151 ?_
              refine lv_topi (fun y_88 ey_88 => ?_)
              obtain ⟨u_89, hu_89, qu_89⟩ := bN_get 120 g_66 (((nI g_67) : Int32).toNatClampNeg)
              obtain rfl : y_88 = nI u_89 := ey_88.trans qu_89
              exact j_83 _ _ _ _ ⟨u_89, rfl, hu_89, hP, hD, hS, lv_sub hl [0, 1, 2, 3] rfl⟩
            · have c_87 : ¬ u_86 = 0 := fun z => c_87 ((nI_eq (a := u_86) (b := 0) (Nat.lt_of_le_of_lt hu_86 (Nat.le_of_ble_eq_true rfl)) (Nat.le_of_ble_eq_true rfl)).mpr z)
              refine lv_iload_n hx hb dX9_layGaps_142 rfl (lv_at hl 1 rfl) ?_
              refine lv_goto (tgt := 152) hx hb dX9_layGaps_143 (by decide) ?_
              exact j_83 _ _ _ _ ⟨g_27, rfl, hg_27.2, hP, hD, hS, lv_sub hl [0, 1, 2, 3] rfl⟩
        refine lv_if_eq (tgt := 96) hx hb dX9_layGaps_84 (by decide) (fun c_90 => ?_) (fun c_90 => ?_)
        · have c_90 : u_42 = 0 := (nI_eq (a := u_42) (b := 0) (Nat.lt_of_le_of_lt hu_42 (Nat.le_of_ble_eq_true rfl)) (Nat.le_of_ble_eq_true rfl)).mp c_90
          exact j_48 _ _ _ _ ⟨(g_25 + 1), z55_36, z56_37, z57_38, rfl, ⟨by omega, by omega⟩, by omega, hP, hD, hS, lv_sub hl [1, 2, 0] rfl⟩
        · have c_90 : ¬ u_42 = 0 := fun z => c_90 ((nI_eq (a := u_42) (b := 0) (Nat.lt_of_le_of_lt hu_42 (Nat.le_of_ble_eq_true rfl)) (Nat.le_of_ble_eq_true rfl)).mpr z)
          refine lv_aload_n hx hb dX9_layGaps_87 rfl (lv_at hl 1 rfl) ?_
          refine lv_iload_n hx hb dX9_layGaps_88 rfl (lv_at hl 2 rfl) ?_
          refine lv_iload_n hx hb dX9_layGaps_89 rfl (lv_at hl 2 rfl) ?_
          refine lv_iconst (v := 1) hx hb dX9_layGaps_90 (by decide) ?_
          refine lv_isub hx hb dX9_layGaps_91 ?_
          refine lv_topi (fun y_91 ey_91 => ?_)
          obtain rfl : y_91 = (nI (g_27 - 1)) := ey_91.trans (pk_sub (a := g_27) (b := 1) (by omega))
          refine lv_iconst (v := 1) hx hb dX9_layGaps_92 (by decide) ?_
          have hFc := pu_free hD hS hA
          refine va_callv (va_runV (As := [.int (nI g_27), .int (nI (g_27 - 1)), .int 1]) (rest := []) ⟨hx, hb, hml, hown, hts⟩ (c_M_holdsApart l dC dI _ ad ck x0 x16 x18 x19 x20 x21 x22 x23 x24 x25 x26 x27 x28 x29 x30 x33 x45 x46 x52 x53 x61 (g_25 + 1) g_26 x65 x66 f1 f2 f3 q4 q5 q6 q7 f8 q9 q10 f11 m12_0 m12_1 m13_0 m13_1 m14_0 m14_1 m15_0 m15_1 f17 q31 f32 f34 f35 f36 f37 q38 f39 f40 f41 m42_0 m42_1 f43 f44 f47 f48 f49 f50 f51 q54 z55_36 z56_37 z57_38 g_24 f59 f60 f64 g_27 (g_27 - 1) 1 hx16 hx18 hx19 hx21 hx22 hx26 hx28 hx29 hx30 hx33 hx46 hx52 hx53 hx61 (by omega) hg_26 hx65 hm12_0 hm12_1 hm13_0 hm13_1 hm14_0 hm14_1 hm15_0 hm15_1 hm42_0 hm42_1 hg_27.2 (by omega)) (cwV 3 hts g_M_layGaps_M_holdsApart rfl rfl rfl (by decide +kernel) ⟨Nat.le_of_ble_eq_true rfl, Nat.le_of_ble_eq_true rfl⟩) ⟨pu_bl, va_recv hK hP (ci := 9) (q0 := 0) rfl rfl, pu_in hP hK hD⟩ rfl rfl hl.1 rfl (lv_room (Nat.le_of_ble_eq_true rfl)) dX9_layGaps_93 ⟨Nat.le_of_ble_eq_true rfl, Nat.le_of_ble_eq_true rfl⟩) hS (fun q _ h => hFc q h) hFc (fun u t H1 locs ht hvm hw hB hz1 hk1 hS => ?_)
          obtain ⟨z55_93, z56_94, z57_95, ⟨hP1, -, hD1⟩⟩ := hB
          rw [ht] at hP1
          have hP := hP1
          have hD := pu_all hFc hD1
          clear hP1 hD1 hFc
          clear hk1 hz1 ht hvm
          generalize H1 = H at hP hS ⊢
          exact j_48 _ _ _ _ ⟨((g_25 + 1) + 1), z55_93, z56_94, z57_95, rfl, ⟨by omega, by omega⟩, by omega, hP, hD, hS, lv_sub hl [1, 2, 0] rfl⟩
    · obtain rfl : y_9 = nI vy_9 := qy_9.trans wy_9
      refine lv_iadd hx hb dX9_layGaps_42 ?_
      refine lv_topi (fun y_96 ey_96 => ?_)
      obtain rfl : y_96 = (nI (100 + vy_9)) := ey_96.trans (nI_add 100 vy_9)
      refine lv_iconst (v := 0) hx hb dX9_layGaps_43 (by decide) ?_
      have hFc := pu_free hD hS hA
      refine va_callv (va_runV (As := [.int (nI (100 + vy_9)), .int 0]) (rest := []) ⟨hx, hb, hml, hown, hts⟩ (c_M_layConditions_p l dC dI _ ad ck x0 x16 x18 x19 x20 x21 x22 x23 x24 x25 x26 x27 x28 x29 x30 x33 x45 x46 x52 x53 x61 0 0 x65 x66 f1 f2 f3 q4 q5 q6 q7 f8 q9 q10 f11 m12_0 m12_1 m13_0 m13_1 m14_0 m14_1 m15_0 m15_1 f17 q31 f32 f34 f35 f36 f37 q38 f39 f40 f41 m42_0 m42_1 f43 f44 f47 f48 f49 f50 f51 q54 q55 q56 f57 g_4 f59 f60 f64 (100 + vy_9) 0 hx16 hx18 hx19 hx21 hx22 hx26 hx28 hx29 hx30 hx33 hx46 hx52 hx53 hx61 (Nat.le_of_ble_eq_true rfl) (Nat.le_of_ble_eq_true rfl) hx65 hm12_0 hm12_1 hm13_0 hm13_1 hm14_0 hm14_1 hm15_0 hm15_1 hm42_0 hm42_1 (by omega) (by omega) (Nat.le_of_ble_eq_true rfl)) (cwV 2 hts g_M_layGaps_M_layConditions_p rfl rfl rfl (by decide +kernel) ⟨Nat.le_of_ble_eq_true rfl, Nat.le_of_ble_eq_true rfl⟩) ⟨pu_bl, va_recv hK hP (ci := 9) (q0 := 0) rfl rfl, pu_in hP hK hD⟩ rfl rfl hl.1 rfl (lv_room (Nat.le_of_ble_eq_true rfl)) dX9_layGaps_44 ⟨Nat.le_of_ble_eq_true rfl, Nat.le_of_ble_eq_true rfl⟩) hS (fun q _ h => hFc q h) hFc (fun u t H1 locs ht hvm hw hB hz1 hk1 hS => ?_)
      obtain ⟨z55_98, z56_99, z57_100, z62_101, z63_102, ⟨hP1, -, hD1⟩, hz62_101, hz63_102, xr_97_0⟩ := hB
      rw [ht] at hP1
      have hP := hP1
      have hD := pu_all hFc hD1
      clear hP1 hD1 hFc
      clear hk1 hz1 ht hvm
      generalize H1 = H at hP hS ⊢
      refine lv_iconst (v := 1) hx hb dX9_layGaps_47 (by decide) ?_
      refine lv_istore_n (lv' := [(1, .int 1), (0, .ref (ad 0))]) hx hb dX9_layGaps_48 rfl hl (by decide) rfl (fun ls hl => ?_)
      refine pu_while (fun nn H locs ls => ∃ (g_111 : Nat → Nat) (g_112 : Nat → Nat) (g_113 : Nat → Int32) (g_114 : Nat → Nat) (g_115 : Nat) (g_116 : Nat) (g_117 : Nat), nn = 120 - g_117 ∧ g_115 ≤ 1907 ∧ g_116 ≤ 1 ∧ (1 ≤ g_117 ∧ g_117 ≤ 120) ∧ g_115 + 13 ≤ 16 * g_117 ∧ va_P (dC, dI) vwCl (mo_w ad ck x0 (nI x16) (nI x18) (nI x19) x20 (nI x21) (nI x22) x23 x24 x25 (nI x26) x27 (nI x28) (nI x29) (nI x30) (nI x33) x45 (nI x46) (nI x52) (nI x53) (nI x61) (nI g_115) (nI g_116) (nI x65) x66 f1 f2 f3 (bN 3 q4) (bN 7 q5) (bN 7 q6) (bN 4 q7) f8 (bN 2 q9) (bH q10) f11 (b2 m12_0 m12_1) (b2 m13_0 m13_1) (b2 m14_0 m14_1) (b2m m15_0 m15_1) f17 (bA 159 q31) f32 f34 f35 f36 f37 (bN 7 q38) f39 f40 f41 (b2 m42_0 m42_1) f43 f44 f47 f48 f49 f50 f51 (bN 13 q54) (bN 120 g_111) (bN 120 g_112) g_113 (bN 120 g_114) f59 f60 f64) H ∧ va_D A (mo_w ad ck x0 (nI x16) (nI x18) (nI x19) x20 (nI x21) (nI x22) x23 x24 x25 (nI x26) x27 (nI x28) (nI x29) (nI x30) (nI x33) x45 (nI x46) (nI x52) (nI x53) (nI x61) (nI g_115) (nI g_116) (nI x65) x66 f1 f2 f3 (bN 3 q4) (bN 7 q5) (bN 7 q6) (bN 4 q7) f8 (bN 2 q9) (bH q10) f11 (b2 m12_0 m12_1) (b2 m13_0 m13_1) (b2 m14_0 m14_1) (b2m m15_0 m15_1) f17 (bA 159 q31) f32 f34 f35 f36 f37 (bN 7 q38) f39 f40 f41 (b2 m42_0 m42_1) f43 f44 f47 f48 f49 f50 f51 (bN 13 q54) (bN 120 g_111) (bN 120 g_112) g_113 (bN 120 g_114) f59 f60 f64) ∧ va_S A s.heap H locs ∧ lv_has ls 4 [(0, .ref (ad 0)), (1, .int (nI g_117))]) 49 ?_ _ _ _ _ ⟨z55_98, z56_99, z57_100, g_4, z62_101, z63_102, 1, rfl, (by omega), hz63_102, ⟨by omega, by omega⟩, by omega, hP, hD, hS, lv_sub hl [1, 0] rfl⟩
      rintro nn ih_119 H locs ls ⟨g_111, g_112, g_113, g_114, g_115, g_116, g_117, rfl, hg_115, hg_116, hg_117, he_118, hP, hD, hS, hl⟩
      refine lv_iload_n hx hb dX9_layGaps_49 rfl (lv_at hl 1 rfl) ?_
      refine lv_aload_n hx hb dX9_layGaps_50 rfl (lv_at hl 0 rfl) ?_
      refine va_get (D := (dC, dI)) (ci := 9) (v := .int (nI x61)) (C := RX9) (T := TX9) (N := 67) hx hb hts hiX9 hown hK hP 0 rfl rfl 61 (by decide) v_11 (fun _ h9 => h9) rfl dX9_layGaps_51 ?_
      refine lv_icmp_gt (tgt := 178) hx hb dX9_layGaps_54 (by decide) (fun c_120 => ?_) (fun c_120 => ?_)
      · have c_120 : x61 < g_117 := (nI_ltI (a := x61) (b := g_117) (Nat.lt_of_le_of_lt hx61 (Nat.le_of_ble_eq_true rfl)) (Nat.lt_of_le_of_lt hg_117.2 (Nat.le_of_ble_eq_true rfl))).mp c_120
        exact W.vret hx hb hr (fun t ht hW => ⟨⟨(), rfl, trivial, ⟨g_111, g_112, g_113, g_114, g_115, g_116, ⟨by rw [ht]; exact hP, va_K.moved hW.alike hK, hD⟩, (Nat.le_trans hg_115 (Nat.le_of_ble_eq_true rfl)), hg_116⟩⟩, hS.F ht⟩) hS.2.2 dX9_layGaps_178
      · have c_120 : ¬ x61 < g_117 := fun z => c_120 ((nI_ltI (a := x61) (b := g_117) (Nat.lt_of_le_of_lt hx61 (Nat.le_of_ble_eq_true rfl)) (Nat.lt_of_le_of_lt hg_117.2 (Nat.le_of_ble_eq_true rfl))).mpr z)
        refine lv_aload_n hx hb dX9_layGaps_57 rfl (lv_at hl 0 rfl) ?_
        refine va_get (D := (dC, dI)) (ci := 9) (v := .ref (ad 54)) (C := RX9) (T := TX9) (N := 67) hx hb hts hiX9 hown hK hP 0 rfl rfl 54 (by decide) v_12 (fun _ h9 => h9) rfl dX9_layGaps_58 ?_
        refine lv_iload_n hx hb dX9_layGaps_61 rfl (lv_at hl 1 rfl) ?_
        refine lv_iconst (v := 1) hx hb dX9_layGaps_62 (by decide) ?_
        refine lv_isub hx hb dX9_layGaps_63 ?_
        refine lv_topi (fun y_121 ey_121 => ?_)
        obtain rfl : y_121 = (nI (g_117 - 1)) := ey_121.trans (pk_sub (a := g_117) (b := 1) (by omega))
        refine va_iald hx hb hK hP 35 34 rfl rfl (vp_in_nI (n := (g_117 - 1)) (by omega) (Nat.le_of_ble_eq_true rfl)) dX9_layGaps_64 ?_
        refine lv_topi (fun y_122 ey_122 => ?_)
        obtain ⟨u_123, hu_123, qu_123⟩ := bN_get 13 q54 (((nI (g_117 - 1)) : Int32).toNatClampNeg)
        obtain rfl : y_122 = nI u_123 := ey_122.trans qu_123
        refine lv_istore_n (lv' := [(2, .int (nI u_123)), (0, .ref (ad 0)), (1, .int (nI g_117))]) hx hb dX9_layGaps_65 rfl hl (by decide) rfl (fun ls hl => ?_)
        refine lv_aload_n hx hb dX9_layGaps_66 rfl (lv_at hl 1 rfl) ?_
        refine lv_iload_n hx hb dX9_layGaps_67 rfl (lv_at hl 2 rfl) ?_
        refine lv_iconst (v := 1) hx hb dX9_layGaps_68 (by decide) ?_
        refine lv_isub hx hb dX9_layGaps_69 ?_
        refine lv_topi (fun y_124 ey_124 => ?_)
        obtain rfl : y_124 = (nI (g_117 - 1)) := ey_124.trans (pk_sub (a := g_117) (b := 1) (by omega))
        refine lv_iload_n hx hb dX9_layGaps_70 rfl (lv_at hl 2 rfl) ?_
        refine lv_iconst (v := 1) hx hb dX9_layGaps_71 (by decide) ?_
        have hFc := pu_free hD hS hA
        refine va_callv (va_runV (As := [.int (nI (g_117 - 1)), .int (nI g_117), .int 1]) (rest := []) ⟨hx, hb, hml, hown, hts⟩ (c_M_holdsApart l dC dI _ ad ck x0 x16 x18 x19 x20 x21 x22 x23 x24 x25 x26 x27 x28 x29 x30 x33 x45 x46 x52 x53 x61 g_115 g_116 x65 x66 f1 f2 f3 q4 q5 q6 q7 f8 q9 q10 f11 m12_0 m12_1 m13_0 m13_1 m14_0 m14_1 m15_0 m15_1 f17 q31 f32 f34 f35 f36 f37 q38 f39 f40 f41 m42_0 m42_1 f43 f44 f47 f48 f49 f50 f51 q54 g_111 g_112 g_113 g_114 f59 f60 f64 (g_117 - 1) g_117 1 hx16 hx18 hx19 hx21 hx22 hx26 hx28 hx29 hx30 hx33 hx46 hx52 hx53 hx61 (Nat.le_trans hg_115 (Nat.le_of_ble_eq_true rfl)) hg_116 hx65 hm12_0 hm12_1 hm13_0 hm13_1 hm14_0 hm14_1 hm15_0 hm15_1 hm42_0 hm42_1 (by omega) hg_117.2) (cwV 3 hts g_M_layGaps_M_holdsApart rfl rfl rfl (by decide +kernel) ⟨Nat.le_of_ble_eq_true rfl, Nat.le_of_ble_eq_true rfl⟩) ⟨pu_bl, va_recv hK hP (ci := 9) (q0 := 0) rfl rfl, pu_in hP hK hD⟩ rfl rfl hl.1 rfl (lv_room (Nat.le_of_ble_eq_true rfl)) dX9_layGaps_72 ⟨Nat.le_of_ble_eq_true rfl, Nat.le_of_ble_eq_true rfl⟩) hS (fun q _ h => hFc q h) hFc (fun u t H1 locs ht hvm hw hB hz1 hk1 hS => ?_)
        obtain ⟨z55_126, z56_127, z57_128, ⟨hP1, -, hD1⟩⟩ := hB
        rw [ht] at hP1
        have hP := hP1
        have hD := pu_all hFc hD1
        clear hP1 hD1 hFc
        clear hk1 hz1 ht hvm
        generalize H1 = H at hP hS ⊢
        refine lv_aload_n hx hb dX9_layGaps_75 rfl (lv_at hl 1 rfl) ?_
        refine lv_aload_n hx hb dX9_layGaps_76 rfl (lv_at hl 1 rfl) ?_
        refine lv_iload_n hx hb dX9_layGaps_77 rfl (lv_at hl 0 rfl) ?_
        refine va_calli (va_runV (As := [.int (nI u_123)]) (rest := [.ref (ad 0)]) ⟨hx, hb, hml, hown, hts⟩ (c_M_outOf l dC dI _ ad ck x0 x16 x18 x19 x20 x21 x22 x23 x24 x25 x26 x27 x28 x29 x30 x33 x45 x46 x52 x53 x61 (g_115 + 1) g_116 x65 x66 f1 f2 f3 q4 q5 q6 q7 f8 q9 q10 f11 m12_0 m12_1 m13_0 m13_1 m14_0 m14_1 m15_0 m15_1 f17 q31 f32 f34 f35 f36 f37 q38 f39 f40 f41 m42_0 m42_1 f43 f44 f47 f48 f49 f50 f51 q54 z55_126 z56_127 z57_128 g_114 f59 f60 f64 u_123 hx16 hx18 hx19 hx21 hx22 hx26 hx28 hx29 hx30 hx33 hx46 hx52 hx53 hx61 (by omega) hg_116 hx65 hm12_0 hm12_1 hm13_0 hm13_1 hm14_0 hm14_1 hm15_0 hm15_1 hm42_0 hm42_1 hu_123) (cwV 1 hts g_M_layGaps_M_outOf rfl rfl rfl (by decide +kernel) ⟨Nat.le_of_ble_eq_true rfl, Nat.le_of_ble_eq_true rfl⟩) ⟨pu_bl, va_recv hK hP (ci := 9) (q0 := 0) rfl rfl, pu_in hP hK hD⟩ rfl rfl hl.1 rfl (lv_room (Nat.le_of_ble_eq_true rfl)) dX9_layGaps_78 ⟨Nat.le_of_ble_eq_true rfl, Nat.le_of_ble_eq_true rfl⟩) hS (fun q _ h => pu_fr hS hA q h) (pu_fr hS hA) (fun r_129 u t H1 locs ht hvm hw hB hz1 hk1 hS => ?_)
        have hP := pu_keep hP hk1
        clear hk1 hz1 ht hvm
        generalize H1 = H at hP hS ⊢
        obtain ⟨u_130, hu_130, rfl⟩ := hw
        refine va_calli (va_runV (As := [.int (nI u_130)]) (rest := []) ⟨hx, hb, hml, hown, hts⟩ (c_M_isUrgent l dC dI _ ad ck x0 x16 x18 x19 x20 x21 x22 x23 x24 x25 x26 x27 x28 x29 x30 x33 x45 x46 x52 x53 x61 (g_115 + 1) g_116 x65 x66 f1 f2 f3 q4 q5 q6 q7 f8 q9 q10 f11 m12_0 m12_1 m13_0 m13_1 m14_0 m14_1 m15_0 m15_1 f17 q31 f32 f34 f35 f36 f37 q38 f39 f40 f41 m42_0 m42_1 f43 f44 f47 f48 f49 f50 f51 q54 z55_126 z56_127 z57_128 g_114 f59 f60 f64 u_130 hx16 hx18 hx19 hx21 hx22 hx26 hx28 hx29 hx30 hx33 hx46 hx52 hx53 hx61 (by omega) hg_116 hx65 hm12_0 hm12_1 hm13_0 hm13_1 hm14_0 hm14_1 hm15_0 hm15_1 hm42_0 hm42_1 hu_130) (cwV 1 hts g_M_layGaps_M_isUrgent rfl rfl rfl (by decide +kernel) ⟨Nat.le_of_ble_eq_true rfl, Nat.le_of_ble_eq_true rfl⟩) ⟨pu_bl, va_recv hK hP (ci := 9) (q0 := 0) rfl rfl, pu_in hP hK hD⟩ rfl rfl hl.1 rfl (lv_room (Nat.le_of_ble_eq_true rfl)) dX9_layGaps_81 ⟨Nat.le_of_ble_eq_true rfl, Nat.le_of_ble_eq_true rfl⟩) hS (fun q _ h => pu_fr hS hA q h) (pu_fr hS hA) (fun r_131 u t H1 locs ht hvm hw hB hz1 hk1 hS => ?_)
        have hP := pu_keep hP hk1
        clear hk1 hz1 ht hvm
        generalize H1 = H at hP hS ⊢
        obtain ⟨u_132, hu_132, rfl⟩ := hw
        refine pu_join (fun H locs ls st => ∃ (g_133 : Nat) (g_134 : Nat → Nat) (g_135 : Nat → Nat) (g_136 : Nat → Int32), st = [] ∧ (1 ≤ g_133 ∧ g_133 ≤ 1909) ∧ g_133 + 13 ≤ 16 * g_117 + 2 ∧ va_P (dC, dI) vwCl (mo_w ad ck x0 (nI x16) (nI x18) (nI x19) x20 (nI x21) (nI x22) x23 x24 x25 (nI x26) x27 (nI x28) (nI x29) (nI x30) (nI x33) x45 (nI x46) (nI x52) (nI x53) (nI x61) (nI g_133) (nI g_116) (nI x65) x66 f1 f2 f3 (bN 3 q4) (bN 7 q5) (bN 7 q6) (bN 4 q7) f8 (bN 2 q9) (bH q10) f11 (b2 m12_0 m12_1) (b2 m13_0 m13_1) (b2 m14_0 m14_1) (b2m m15_0 m15_1) f17 (bA 159 q31) f32 f34 f35 f36 f37 (bN 7 q38) f39 f40 f41 (b2 m42_0 m42_1) f43 f44 f47 f48 f49 f50 f51 (bN 13 q54) (bN 120 g_134) (bN 120 g_135) g_136 (bN 120 g_114) f59 f60 f64) H ∧ va_D A (mo_w ad ck x0 (nI x16) (nI x18) (nI x19) x20 (nI x21) (nI x22) x23 x24 x25 (nI x26) x27 (nI x28) (nI x29) (nI x30) (nI x33) x45 (nI x46) (nI x52) (nI x53) (nI x61) (nI g_133) (nI g_116) (nI x65) x66 f1 f2 f3 (bN 3 q4) (bN 7 q5) (bN 7 q6) (bN 4 q7) f8 (bN 2 q9) (bH q10) f11 (b2 m12_0 m12_1) (b2 m13_0 m13_1) (b2 m14_0 m14_1) (b2m m15_0 m15_1) f17 (bA 159 q31) f32 f34 f35 f36 f37 (bN 7 q38) f39 f40 f41 (b2 m42_0 m42_1) f43 f44 f47 f48 f49 f50 f51 (bN 13 q54) (bN 120 g_134) (bN 120 g_135) g_136 (bN 120 g_114) f59 f60 f64) ∧ va_S A s.heap H locs ∧ lv_has ls 4 [(0, .ref (ad 0)), (1, .int (nI g_117)), (2, .int (nI u_123))]) 96 ?_ (fun j_138 => ?_)
        · rintro H locs ls st ⟨g_133, g_134, g_135, g_136, rfl, hg_133, he_137, hP, hD, hS, hl⟩
          refine lv_aload_n hx hb dX9_layGaps_96 rfl (lv_at hl 0 rfl) ?_
          refine lv_bipush (v := 100) hx hb dX9_layGaps_97 (by decide) ?_
          refine lv_aload_n hx hb dX9_layGaps_99 rfl (lv_at hl 0 rfl) ?_
          refine lv_iload_n hx hb dX9_layGaps_100 rfl (lv_at hl 2 rfl) ?_
          refine va_calli (va_runV (As := [.int (nI u_123)]) (rest := [.int 100, .ref (ad 0)]) ⟨hx, hb, hml, hown, hts⟩ (c_M_outOf l dC dI _ ad ck x0 x16 x18 x19 x20 x21 x22 x23 x24 x25 x26 x27 x28 x29 x30 x33 x45 x46 x52 x53 x61 g_133 g_116 x65 x66 f1 f2 f3 q4 q5 q6 q7 f8 q9 q10 f11 m12_0 m12_1 m13_0 m13_1 m14_0 m14_1 m15_0 m15_1 f17 q31 f32 f34 f35 f36 f37 q38 f39 f40 f41 m42_0 m42_1 f43 f44 f47 f48 f49 f50 f51 q54 g_134 g_135 g_136 g_114 f59 f60 f64 u_123 hx16 hx18 hx19 hx21 hx22 hx26 hx28 hx29 hx30 hx33 hx46 hx52 hx53 hx61 (Nat.le_trans hg_133.2 (Nat.le_of_ble_eq_true rfl)) hg_116 hx65 hm12_0 hm12_1 hm13_0 hm13_1 hm14_0 hm14_1 hm15_0 hm15_1 hm42_0 hm42_1 hu_123) (cwV 1 hts g_M_layGaps_M_outOf rfl rfl rfl (by decide +kernel) ⟨Nat.le_of_ble_eq_true rfl, Nat.le_of_ble_eq_true rfl⟩) ⟨pu_bl, va_recv hK hP (ci := 9) (q0 := 0) rfl rfl, pu_in hP hK hD⟩ rfl rfl hl.1 rfl (lv_room (Nat.le_of_ble_eq_true rfl)) dX9_layGaps_101 ⟨Nat.le_of_ble_eq_true rfl, Nat.le_of_ble_eq_true rfl⟩) hS (fun q _ h => pu_fr hS hA q h) (pu_fr hS hA) (fun r_139 u t H1 locs ht hvm hw hB hz1 hk1 hS => ?_)
          have hP := pu_keep hP hk1
          clear hk1 hz1 ht hvm
          generalize H1 = H at hP hS ⊢
          obtain ⟨u_140, hu_140, rfl⟩ := hw
          refine lv_iadd hx hb dX9_layGaps_104 ?_
          refine lv_topi (fun y_141 ey_141 => ?_)
          obtain rfl : y_141 = (nI (100 + u_140)) := ey_141.trans (nI_add 100 u_140)
          refine lv_iload_n hx hb dX9_layGaps_105 rfl (lv_at hl 1 rfl) ?_
          have hFc := pu_free hD hS hA
          refine va_callv (va_runV (As := [.int (nI (100 + u_140)), .int (nI g_117)]) (rest := []) ⟨hx, hb, hml, hown, hts⟩ (c_M_layConditions_p l dC dI _ ad ck x0 x16 x18 x19 x20 x21 x22 x23 x24 x25 x26 x27 x28 x29 x30 x33 x45 x46 x52 x53 x61 g_133 g_116 x65 x66 f1 f2 f3 q4 q5 q6 q7 f8 q9 q10 f11 m12_0 m12_1 m13_0 m13_1 m14_0 m14_1 m15_0 m15_1 f17 q31 f32 f34 f35 f36 f37 q38 f39 f40 f41 m42_0 m42_1 f43 f44 f47 f48 f49 f50 f51 q54 g_134 g_135 g_136 g_114 f59 f60 f64 (100 + u_140) g_117 hx16 hx18 hx19 hx21 hx22 hx26 hx28 hx29 hx30 hx33 hx46 hx52 hx53 hx61 (Nat.le_trans hg_133.2 (Nat.le_of_ble_eq_true rfl)) hg_116 hx65 hm12_0 hm12_1 hm13_0 hm13_1 hm14_0 hm14_1 hm15_0 hm15_1 hm42_0 hm42_1 (by omega) (by omega) (by omega)) (cwV 2 hts g_M_layGaps_M_layConditions_p rfl rfl rfl (by decide +kernel) ⟨Nat.le_of_ble_eq_true rfl, Nat.le_of_ble_eq_true rfl⟩) ⟨pu_bl, va_recv hK hP (ci := 9) (q0 := 0) rfl rfl, pu_in hP hK hD⟩ rfl rfl hl.1 rfl (lv_room (Nat.le_of_ble_eq_true rfl)) dX9_layGaps_106 ⟨Nat.le_of_ble_eq_true rfl, Nat.le_of_ble_eq_true rfl⟩) hS (fun q _ h => hFc q h) hFc (fun u t H1 locs ht hvm hw hB hz1 hk1 hS => ?_)
          obtain ⟨z55_143, z56_144, z57_145, z62_146, z63_147, ⟨hP1, -, hD1⟩, hz62_146, hz63_147, xr_142_0⟩ := hB
          rw [ht] at hP1
          have hP := hP1
          have hD := pu_all hFc hD1
          clear hP1 hD1 hFc
          clear hk1 hz1 ht hvm
          generalize H1 = H at hP hS ⊢
          refine lv_aload_n hx hb dX9_layGaps_109 rfl (lv_at hl 0 rfl) ?_
          refine lv_iload_n hx hb dX9_layGaps_110 rfl (lv_at hl 2 rfl) ?_
          refine lv_iload_n hx hb dX9_layGaps_111 rfl (lv_at hl 1 rfl) ?_
          have hFc := pu_free hD hS hA
          refine va_callv (va_runV (As := [.int (nI u_123), .int (nI g_117)]) (rest := []) ⟨hx, hb, hml, hown, hts⟩ (c_M_layConditions_e l dC dI _ ad ck x0 x16 x18 x19 x20 x21 x22 x23 x24 x25 x26 x27 x28 x29 x30 x33 x45 x46 x52 x53 x61 z62_146 z63_147 x65 x66 f1 f2 f3 q4 q5 q6 q7 f8 q9 q10 f11 m12_0 m12_1 m13_0 m13_1 m14_0 m14_1 m15_0 m15_1 f17 q31 f32 f34 f35 f36 f37 q38 f39 f40 f41 m42_0 m42_1 f43 f44 f47 f48 f49 f50 f51 q54 z55_143 z56_144 z57_145 g_114 f59 f60 f64 u_123 g_117 hx16 hx18 hx19 hx21 hx22 hx26 hx28 hx29 hx30 hx33 hx46 hx52 hx53 hx61 (by omega) hz63_147 hx65 hm12_0 hm12_1 hm13_0 hm13_1 hm14_0 hm14_1 hm15_0 hm15_1 hm42_0 hm42_1 hu_123 (by omega)) (cwV 2 hts g_M_layGaps_M_layConditions_e rfl rfl rfl (by decide +kernel) ⟨Nat.le_of_ble_eq_true rfl, Nat.le_of_ble_eq_true rfl⟩) ⟨pu_bl, va_recv hK hP (ci := 9) (q0 := 0) rfl rfl, pu_in hP hK hD⟩ rfl rfl hl.1 rfl (lv_room (Nat.le_of_ble_eq_true rfl)) dX9_layGaps_112 ⟨Nat.le_of_ble_eq_true rfl, Nat.le_of_ble_eq_true rfl⟩) hS (fun q _ h => hFc q h) hFc (fun u t H1 locs ht hvm hw hB hz1 hk1 hS => ?_)
          obtain ⟨z55_149, z56_150, z57_151, z62_152, z63_153, ⟨hP1, -, hD1⟩, hz62_152, hz63_153, xr_148_0⟩ := hB
          rw [ht] at hP1
          have hP := hP1
          have hD := pu_all hFc hD1
          clear hP1 hD1 hFc
          clear hk1 hz1 ht hvm
          generalize H1 = H at hP hS ⊢
          refine lv_iconst (v := 0) hx hb dX9_layGaps_115 (by decide) ?_
          refine lv_istore_n (lv' := [(3, .int 0), (0, .ref (ad 0)), (1, .int (nI g_117)), (2, .int (nI u_123))]) hx hb dX9_layGaps_116 rfl hl (by decide) rfl (fun ls hl => ?_)
          refine pu_while (fun nn H locs ls => ∃ (g_156 : Nat → Nat) (g_157 : Nat), nn = 3 - g_157 ∧ g_157 ≤ 3 ∧ va_P (dC, dI) vwCl (mo_w ad ck x0 (nI x16) (nI x18) (nI x19) x20 (nI x21) (nI x22) x23 x24 x25 (nI x26) x27 (nI x28) (nI x29) (nI x30) (nI x33) x45 (nI x46) (nI x52) (nI x53) (nI x61) (nI z62_152) (nI z63_153) (nI x65) x66 f1 f2 f3 (bN 3 q4) (bN 7 q5) (bN 7 q6) (bN 4 q7) f8 (bN 2 q9) (bH q10) f11 (b2 m12_0 m12_1) (b2 m13_0 m13_1) (b2 m14_0 m14_1) (b2m m15_0 m15_1) f17 (bA 159 q31) f32 f34 f35 f36 f37 (bN 7 q38) f39 f40 f41 (b2 m42_0 m42_1) f43 f44 f47 f48 f49 f50 f51 (bN 13 q54) (bN 120 z55_149) (bN 120 z56_150) z57_151 (bN 120 g_156) f59 f60 f64) H ∧ va_D A (mo_w ad ck x0 (nI x16) (nI x18) (nI x19) x20 (nI x21) (nI x22) x23 x24 x25 (nI x26) x27 (nI x28) (nI x29) (nI x30) (nI x33) x45 (nI x46) (nI x52) (nI x53) (nI x61) (nI z62_152) (nI z63_153) (nI x65) x66 f1 f2 f3 (bN 3 q4) (bN 7 q5) (bN 7 q6) (bN 4 q7) f8 (bN 2 q9) (bH q10) f11 (b2 m12_0 m12_1) (b2 m13_0 m13_1) (b2 m14_0 m14_1) (b2m m15_0 m15_1) f17 (bA 159 q31) f32 f34 f35 f36 f37 (bN 7 q38) f39 f40 f41 (b2 m42_0 m42_1) f43 f44 f47 f48 f49 f50 f51 (bN 13 q54) (bN 120 z55_149) (bN 120 z56_150) z57_151 (bN 120 g_156) f59 f60 f64) ∧ va_S A s.heap H locs ∧ lv_has ls 4 [(0, .ref (ad 0)), (1, .int (nI g_117)), (2, .int (nI u_123)), (3, .int (nI g_157))]) 117 ?_ _ _ _ _ ⟨g_114, 0, rfl, (Nat.le_of_ble_eq_true rfl), hP, hD, hS, lv_sub hl [1, 2, 3, 0] rfl⟩
          rintro nn ih_158 H locs ls ⟨g_156, g_157, rfl, hg_157, hP, hD, hS, hl⟩
          refine lv_iload_n hx hb dX9_layGaps_117 rfl (lv_at hl 3 rfl) ?_
          refine lv_aload_n hx hb dX9_layGaps_118 rfl (lv_at hl 0 rfl) ?_
          refine va_calli (va_runV (As := []) (rest := [.int (nI g_157)]) ⟨hx, hb, hml, hown, hts⟩ (c_M_clocks l dC dI _ ad ck x0 x16 x18 x19 x20 x21 x22 x23 x24 x25 x26 x27 x28 x29 x30 x33 x45 x46 x52 x53 x61 z62_152 z63_153 x65 x66 f1 f2 f3 q4 q5 q6 q7 f8 q9 q10 f11 m12_0 m12_1 m13_0 m13_1 m14_0 m14_1 m15_0 m15_1 f17 q31 f32 f34 f35 f36 f37 q38 f39 f40 f41 m42_0 m42_1 f43 f44 f47 f48 f49 f50 f51 q54 z55_149 z56_150 z57_151 g_156 f59 f60 f64 hx16 hx18 hx19 hx21 hx22 hx26 hx28 hx29 hx30 hx33 hx46 hx52 hx53 hx61 hz62_152 hz63_153 hx65 hm12_0 hm12_1 hm13_0 hm13_1 hm14_0 hm14_1 hm15_0 hm15_1 hm42_0 hm42_1) (cwV 0 hts g_M_layGaps_M_clocks rfl rfl rfl (by decide +kernel) ⟨Nat.le_of_ble_eq_true rfl, Nat.le_of_ble_eq_true rfl⟩) ⟨pu_bl, va_recv hK hP (ci := 9) (q0 := 0) rfl rfl, pu_in hP hK hD⟩ rfl rfl hl.1 rfl (lv_room (Nat.le_of_ble_eq_true rfl)) dX9_layGaps_119 ⟨Nat.le_of_ble_eq_true rfl, Nat.le_of_ble_eq_true rfl⟩) hS (fun q _ h => pu_fr hS hA q h) (pu_fr hS hA) (fun r_159 u t H1 locs ht hvm hw hB hz1 hk1 hS => ?_)
          have hP := pu_keep hP hk1
          clear hk1 hz1 ht hvm
          generalize H1 = H at hP hS ⊢
          obtain ⟨u_160, hu_160, rfl⟩ := hw
          refine lv_icmp_ge (tgt := 159) hx hb dX9_layGaps_122 (by decide) (fun c_161 => ?_) (fun c_161 => ?_)
          · have c_161 : u_160 ≤ g_157 := (nI_leI (a := u_160) (b := g_157) (Nat.lt_of_le_of_lt hu_160 (Nat.le_of_ble_eq_true rfl)) (Nat.lt_of_le_of_lt hg_157 (Nat.le_of_ble_eq_true rfl))).mp c_161
            refine lv_aload_n hx hb dX9_layGaps_159 rfl (lv_at hl 0 rfl) ?_
            refine lv_bipush (v := 100) hx hb dX9_layGaps_160 (by decide) ?_
            refine lv_aload_n hx hb dX9_layGaps_162 rfl (lv_at hl 0 rfl) ?_
            refine lv_iload_n hx hb dX9_layGaps_163 rfl (lv_at hl 2 rfl) ?_
            refine va_calli (va_runV (As := [.int (nI u_123)]) (rest := [.int 100, .ref (ad 0)]) ⟨hx, hb, hml, hown, hts⟩ (c_M_into l dC dI _ ad ck x0 x16 x18 x19 x20 x21 x22 x23 x24 x25 x26 x27 x28 x29 x30 x33 x45 x46 x52 x53 x61 z62_152 z63_153 x65 x66 f1 f2 f3 q4 q5 q6 q7 f8 q9 q10 f11 m12_0 m12_1 m13_0 m13_1 m14_0 m14_1 m15_0 m15_1 f17 q31 f32 f34 f35 f36 f37 q38 f39 f40 f41 m42_0 m42_1 f43 f44 f47 f48 f49 f50 f51 q54 z55_149 z56_150 z57_151 g_156 f59 f60 f64 u_123 hx16 hx18 hx19 hx21 hx22 hx26 hx28 hx29 hx30 hx33 hx46 hx52 hx53 hx61 hz62_152 hz63_153 hx65 hm12_0 hm12_1 hm13_0 hm13_1 hm14_0 hm14_1 hm15_0 hm15_1 hm42_0 hm42_1 hu_123) (cwV 1 hts g_M_layGaps_M_into rfl rfl rfl (by decide +kernel) ⟨Nat.le_of_ble_eq_true rfl, Nat.le_of_ble_eq_true rfl⟩) ⟨pu_bl, va_recv hK hP (ci := 9) (q0 := 0) rfl rfl, pu_in hP hK hD⟩ rfl rfl hl.1 rfl (lv_room (Nat.le_of_ble_eq_true rfl)) dX9_layGaps_164 ⟨Nat.le_of_ble_eq_true rfl, Nat.le_of_ble_eq_true rfl⟩) hS (fun q _ h => pu_fr hS hA q h) (pu_fr hS hA) (fun r_162 u t H1 locs ht hvm hw hB hz1 hk1 hS => ?_)
            have hP := pu_keep hP hk1
            clear hk1 hz1 ht hvm
            generalize H1 = H at hP hS ⊢
            obtain ⟨u_163, hu_163, rfl⟩ := hw
            refine lv_iadd hx hb dX9_layGaps_167 ?_
            refine lv_topi (fun y_164 ey_164 => ?_)
            obtain rfl : y_164 = (nI (100 + u_163)) := ey_164.trans (nI_add 100 u_163)
            refine lv_iload_n hx hb dX9_layGaps_168 rfl (lv_at hl 1 rfl) ?_
            have hFc := pu_free hD hS hA
            refine va_callv (va_runV (As := [.int (nI (100 + u_163)), .int (nI g_117)]) (rest := []) ⟨hx, hb, hml, hown, hts⟩ (c_M_layConditions_p l dC dI _ ad ck x0 x16 x18 x19 x20 x21 x22 x23 x24 x25 x26 x27 x28 x29 x30 x33 x45 x46 x52 x53 x61 z62_152 z63_153 x65 x66 f1 f2 f3 q4 q5 q6 q7 f8 q9 q10 f11 m12_0 m12_1 m13_0 m13_1 m14_0 m14_1 m15_0 m15_1 f17 q31 f32 f34 f35 f36 f37 q38 f39 f40 f41 m42_0 m42_1 f43 f44 f47 f48 f49 f50 f51 q54 z55_149 z56_150 z57_151 g_156 f59 f60 f64 (100 + u_163) g_117 hx16 hx18 hx19 hx21 hx22 hx26 hx28 hx29 hx30 hx33 hx46 hx52 hx53 hx61 (by omega) hz63_153 hx65 hm12_0 hm12_1 hm13_0 hm13_1 hm14_0 hm14_1 hm15_0 hm15_1 hm42_0 hm42_1 (by omega) (by omega) (by omega)) (cwV 2 hts g_M_layGaps_M_layConditions_p rfl rfl rfl (by decide +kernel) ⟨Nat.le_of_ble_eq_true rfl, Nat.le_of_ble_eq_true rfl⟩) ⟨pu_bl, va_recv hK hP (ci := 9) (q0 := 0) rfl rfl, pu_in hP hK hD⟩ rfl rfl hl.1 rfl (lv_room (Nat.le_of_ble_eq_true rfl)) dX9_layGaps_169 ⟨Nat.le_of_ble_eq_true rfl, Nat.le_of_ble_eq_true rfl⟩) hS (fun q _ h => hFc q h) hFc (fun u t H1 locs ht hvm hw hB hz1 hk1 hS => ?_)
            obtain ⟨z55_166, z56_167, z57_168, z62_169, z63_170, ⟨hP1, -, hD1⟩, hz62_169, hz63_170, xr_165_0⟩ := hB
            rw [ht] at hP1
            have hP := hP1
            have hD := pu_all hFc hD1
            clear hP1 hD1 hFc
            clear hk1 hz1 ht hvm
            generalize H1 = H at hP hS ⊢
            refine lv_iinc (v := (nI (g_117 + 1))) (lv' := [(1, .int (nI (g_117 + 1))), (0, .ref (ad 0)), (2, .int (nI u_123)), (3, .int (nI g_157))]) hx hb dX9_layGaps_172 hl (k := 1) rfl (nI_1 _) (by decide) rfl (fun ls hl => ?_)
            refine lv_goto (tgt := 49) hx hb dX9_layGaps_175 (by decide) ?_
            exact ih_119 (120 - (g_117 + 1)) (by omega) _ _ _ ⟨z55_166, z56_167, z57_168, g_156, z62_169, z63_170, (g_117 + 1), rfl, (by omega), hz63_170, ⟨by omega, by omega⟩, by omega, hP, hD, hS, lv_sub hl [1, 0] rfl⟩
          · have c_161 : ¬ u_160 ≤ g_157 := fun z => c_161 ((nI_leI (a := u_160) (b := g_157) (Nat.lt_of_le_of_lt hu_160 (Nat.le_of_ble_eq_true rfl)) (Nat.lt_of_le_of_lt hg_157 (Nat.le_of_ble_eq_true rfl))).mpr z)
            refine lv_aload_n hx hb dX9_layGaps_125 rfl (lv_at hl 0 rfl) ?_
            refine va_get (D := (dC, dI)) (ci := 9) (v := .ref (ad 58)) (C := RX9) (T := TX9) (N := 67) hx hb hts hiX9 hown hK hP 0 rfl rfl 58 (by decide) v_3 (fun _ h9 => h9) rfl dX9_layGaps_126 ?_
            refine lv_iload_n hx hb dX9_layGaps_129 rfl (lv_at hl 3 rfl) ?_
            refine lv_aload_n hx hb dX9_layGaps_130 rfl (lv_at hl 0 rfl) ?_
            refine lv_iload_n hx hb dX9_layGaps_131 rfl (lv_at hl 2 rfl) ?_
            refine va_calli (va_runV (As := [.int (nI u_123)]) (rest := [.int (nI g_157), .ref (ad 58)]) ⟨hx, hb, hml, hown, hts⟩ (c_M_setBy l dC dI _ ad ck x0 x16 x18 x19 x20 x21 x22 x23 x24 x25 x26 x27 x28 x29 x30 x33 x45 x46 x52 x53 x61 z62_152 z63_153 x65 x66 f1 f2 f3 q4 q5 q6 q7 f8 q9 q10 f11 m12_0 m12_1 m13_0 m13_1 m14_0 m14_1 m15_0 m15_1 f17 q31 f32 f34 f35 f36 f37 q38 f39 f40 f41 m42_0 m42_1 f43 f44 f47 f48 f49 f50 f51 q54 z55_149 z56_150 z57_151 g_156 f59 f60 f64 u_123 hx16 hx18 hx19 hx21 hx22 hx26 hx28 hx29 hx30 hx33 hx46 hx52 hx53 hx61 hz62_152 hz63_153 hx65 hm12_0 hm12_1 hm13_0 hm13_1 hm14_0 hm14_1 hm15_0 hm15_1 hm42_0 hm42_1 hu_123) (cwV 1 hts g_M_layGaps_M_setBy rfl rfl rfl (by decide +kernel) ⟨Nat.le_of_ble_eq_true rfl, Nat.le_of_ble_eq_true rfl⟩) ⟨pu_bl, va_recv hK hP (ci := 9) (q0 := 0) rfl rfl, pu_in hP hK hD⟩ rfl rfl hl.1 rfl (lv_room (Nat.le_of_ble_eq_true rfl)) dX9_layGaps_132 ⟨Nat.le_of_ble_eq_true rfl, Nat.le_of_ble_eq_true rfl⟩) hS (fun q _ h => pu_fr hS hA q h) (pu_fr hS hA) (fun r_171 u t H1 locs ht hvm hw hB hz1 hk1 hS => ?_)
            have hP := pu_keep hP hk1
            clear hk1 hz1 ht hvm
            generalize H1 = H at hP hS ⊢
            refine lv_iload_n hx hb dX9_layGaps_135 rfl (lv_at hl 3 rfl) ?_
            refine pu_join (fun H locs ls st => ∃ (g_172 : Nat), st = [.int (nI g_172), .int (nI g_157), .ref (ad 58)] ∧ g_172 ≤ 120 ∧ va_P (dC, dI) vwCl (mo_w ad ck x0 (nI x16) (nI x18) (nI x19) x20 (nI x21) (nI x22) x23 x24 x25 (nI x26) x27 (nI x28) (nI x29) (nI x30) (nI x33) x45 (nI x46) (nI x52) (nI x53) (nI x61) (nI z62_152) (nI z63_153) (nI x65) x66 f1 f2 f3 (bN 3 q4) (bN 7 q5) (bN 7 q6) (bN 4 q7) f8 (bN 2 q9) (bH q10) f11 (b2 m12_0 m12_1) (b2 m13_0 m13_1) (b2 m14_0 m14_1) (b2m m15_0 m15_1) f17 (bA 159 q31) f32 f34 f35 f36 f37 (bN 7 q38) f39 f40 f41 (b2 m42_0 m42_1) f43 f44 f47 f48 f49 f50 f51 (bN 13 q54) (bN 120 z55_149) (bN 120 z56_150) z57_151 (bN 120 g_156) f59 f60 f64) H ∧ va_D A (mo_w ad ck x0 (nI x16) (nI x18) (nI x19) x20 (nI x21) (nI x22) x23 x24 x25 (nI x26) x27 (nI x28) (nI x29) (nI x30) (nI x33) x45 (nI x46) (nI x52) (nI x53) (nI x61) (nI z62_152) (nI z63_153) (nI x65) x66 f1 f2 f3 (bN 3 q4) (bN 7 q5) (bN 7 q6) (bN 4 q7) f8 (bN 2 q9) (bH q10) f11 (b2 m12_0 m12_1) (b2 m13_0 m13_1) (b2 m14_0 m14_1) (b2m m15_0 m15_1) f17 (bA 159 q31) f32 f34 f35 f36 f37 (bN 7 q38) f39 f40 f41 (b2 m42_0 m42_1) f43 f44 f47 f48 f49 f50 f51 (bN 13 q54) (bN 120 z55_149) (bN 120 z56_150) z57_151 (bN 120 g_156) f59 f60 f64) ∧ va_S A s.heap H locs ∧ lv_has ls 4 [(0, .ref (ad 0)), (1, .int (nI g_117)), (2, .int (nI u_123)), (3, .int (nI g_157))]) 152 ?_ (fun j_173 => ?_)
            · rintro H locs ls st ⟨g_172, rfl, hg_172, hP, hD, hS, hl⟩
              refine va_iast hx hb hK hP hD hS 39 38 rfl rfl (vp_in_nI (n := g_157) (by omega) (Nat.le_of_ble_eq_true rfl)) dX9_layGaps_152 (fun H locs hP hD hS => ?_)
              obtain ⟨q_174, eq_174, kq_174⟩ := bN_up 120 g_156 (((nI g_157) : Int32).toNatClampNeg) (v := g_172) hg_172
              have hP : va_P (dC, dI) vwCl (mo_w ad ck x0 (nI x16) (nI x18) (nI x19) x20 (nI x21) (nI x22) x23 x24 x25 (nI x26) x27 (nI x28) (nI x29) (nI x30) (nI x33) x45 (nI x46) (nI x52) (nI x53) (nI x61) (nI z62_152) (nI z63_153) (nI x65) x66 f1 f2 f3 (bN 3 q4) (bN 7 q5) (bN 7 q6) (bN 4 q7) f8 (bN 2 q9) (bH q10) f11 (b2 m12_0 m12_1) (b2 m13_0 m13_1) (b2 m14_0 m14_1) (b2m m15_0 m15_1) f17 (bA 159 q31) f32 f34 f35 f36 f37 (bN 7 q38) f39 f40 f41 (b2 m42_0 m42_1) f43 f44 f47 f48 f49 f50 f51 (bN 13 q54) (bN 120 z55_149) (bN 120 z56_150) z57_151 (bN 120 q_174) f59 f60 f64) H := by rw [← eq_174]; exact hP
              have hD : va_D A (mo_w ad ck x0 (nI x16) (nI x18) (nI x19) x20 (nI x21) (nI x22) x23 x24 x25 (nI x26) x27 (nI x28) (nI x29) (nI x30) (nI x33) x45 (nI x46) (nI x52) (nI x53) (nI x61) (nI z62_152) (nI z63_153) (nI x65) x66 f1 f2 f3 (bN 3 q4) (bN 7 q5) (bN 7 q6) (bN 4 q7) f8 (bN 2 q9) (bH q10) f11 (b2 m12_0 m12_1) (b2 m13_0 m13_1) (b2 m14_0 m14_1) (b2m m15_0 m15_1) f17 (bA 159 q31) f32 f34 f35 f36 f37 (bN 7 q38) f39 f40 f41 (b2 m42_0 m42_1) f43 f44 f47 f48 f49 f50 f51 (bN 13 q54) (bN 120 z55_149) (bN 120 z56_150) z57_151 (bN 120 q_174) f59 f60 f64) := by rw [← eq_174]; exact hD
              refine lv_iinc (v := (nI (g_157 + 1))) (lv' := [(3, .int (nI (g_157 + 1))), (0, .ref (ad 0)), (1, .int (nI g_117)), (2, .int (nI u_123))]) hx hb dX9_layGaps_153 hl (k := 3) rfl (nI_1 _) (by decide) rfl (fun ls hl => ?_)
              refine lv_goto (tgt := 117) hx hb dX9_layGaps_156 (by decide) ?_
              exact ih_158 (3 - (g_157 + 1)) (by omega) _ _ _ ⟨q_174, (g_157 + 1), rfl, (by omega), hP, hD, hS, lv_sub hl [1, 2, 3, 0] rfl⟩
            refine va_calli (va_runS (As := [.int r_171, .int (nI g_157)]) (rest := [.int (nI g_157), .ref (ad 58)]) ⟨hx, hb, hml, hown, hts⟩ (c_X9_isOf l dC dI _ r_171 (nI g_157)) (va_cwS 2 hts g_M_layGaps_X9_isOf rfl rfl rfl (by decide +kernel) ⟨Nat.le_of_ble_eq_true rfl, Nat.le_of_ble_eq_true rfl⟩) ⟨pu_bl, pu_in (hP.sub [] rfl) (hK.sub [] rfl) (hD.sub [] (by decide) rfl)⟩ rfl rfl hl.1 rfl (lv_room (Nat.le_of_ble_eq_true rfl)) dX9_layGaps_136 ⟨Nat.le_of_ble_eq_true rfl, Nat.le_of_ble_eq_true rfl⟩) hS (fun q _ h => pu_fr hS hA q h) (pu_fr hS hA) (fun r_175 u t H1 locs ht hvm hw hB hz1 hk1 hS => ?_)
            have hP := pu_keep hP hk1
            clear hk1 hz1 ht hvm
            generalize H1 = H at hP hS ⊢
            obtain ⟨u_176, hu_176, rfl⟩ := pu_bn hw
            refine lv_if_eq (tgt := 146) hx hb dX9_layGaps_139 (by decide) (fun c_177 => ?_) (fun c_177 => ?_)
            · have c_177 : u_176 = 0 := (nI_eq (a := u_176) (b := 0) (Nat.lt_of_le_of_lt hu_176 (Nat.le_of_ble_eq_true rfl)) (Nat.le_of_ble_eq_true rfl)).mp c_177
              refine lv_aload_n hx hb dX9_layGaps_146 rfl (lv_at hl 0 rfl) ?_
              refine va_get (D := (dC, dI)) (ci := 9) (v := .ref (ad 58)) (C := RX9) (T := TX9) (N := 67) hx hb hts hiX9 hown hK hP 0 rfl rfl 58 (by decide) v_3 (fun _ h9 => h9) rfl dX9_layGaps_147 ?_
              refine lv_iload_n hx hb dX9_layGaps_150 rfl (lv_at hl 3 rfl) ?_
              refine va_iald hx hb hK hP 39 38 rfl rfl (vp_in_nI (n := g_157) (by omega) (Nat.le_of_ble_eq_true rfl)) dX9_layGaps_151 ?_
              refine lv_topi (fun y_178 ey_178 => ?_)
              obtain ⟨u_179, hu_179, qu_179⟩ := bN_get 120 g_156 (((nI g_157) : Int32).toNatClampNeg)
              obtain rfl : y_178 = nI u_179 := ey_178.trans qu_179
              exact j_173 _ _ _ _ ⟨u_179, rfl, hu_179, hP, hD, hS, lv_sub hl [0, 1, 2, 3] rfl⟩
            · have c_177 : ¬ u_176 = 0 := fun z => c_177 ((nI_eq (a := u_176) (b := 0) (Nat.lt_of_le_of_lt hu_176 (Nat.le_of_ble_eq_true rfl)) (Nat.le_of_ble_eq_true rfl)).mpr z)
              refine lv_iload_n hx hb dX9_layGaps_142 rfl (lv_at hl 1 rfl) ?_
              refine lv_goto (tgt := 152) hx hb dX9_layGaps_143 (by decide) ?_
              exact j_173 _ _ _ _ ⟨g_117, rfl, hg_117.2, hP, hD, hS, lv_sub hl [0, 1, 2, 3] rfl⟩
        refine lv_if_eq (tgt := 96) hx hb dX9_layGaps_84 (by decide) (fun c_180 => ?_) (fun c_180 => ?_)
        · have c_180 : u_132 = 0 := (nI_eq (a := u_132) (b := 0) (Nat.lt_of_le_of_lt hu_132 (Nat.le_of_ble_eq_true rfl)) (Nat.le_of_ble_eq_true rfl)).mp c_180
          exact j_138 _ _ _ _ ⟨(g_115 + 1), z55_126, z56_127, z57_128, rfl, ⟨by omega, by omega⟩, by omega, hP, hD, hS, lv_sub hl [1, 2, 0] rfl⟩
        · have c_180 : ¬ u_132 = 0 := fun z => c_180 ((nI_eq (a := u_132) (b := 0) (Nat.lt_of_le_of_lt hu_132 (Nat.le_of_ble_eq_true rfl)) (Nat.le_of_ble_eq_true rfl)).mpr z)
          refine lv_aload_n hx hb dX9_layGaps_87 rfl (lv_at hl 1 rfl) ?_
          refine lv_iload_n hx hb dX9_layGaps_88 rfl (lv_at hl 2 rfl) ?_
          refine lv_iload_n hx hb dX9_layGaps_89 rfl (lv_at hl 2 rfl) ?_
          refine lv_iconst (v := 1) hx hb dX9_layGaps_90 (by decide) ?_
          refine lv_isub hx hb dX9_layGaps_91 ?_
          refine lv_topi (fun y_181 ey_181 => ?_)
          obtain rfl : y_181 = (nI (g_117 - 1)) := ey_181.trans (pk_sub (a := g_117) (b := 1) (by omega))
          refine lv_iconst (v := 1) hx hb dX9_layGaps_92 (by decide) ?_
          have hFc := pu_free hD hS hA
          refine va_callv (va_runV (As := [.int (nI g_117), .int (nI (g_117 - 1)), .int 1]) (rest := []) ⟨hx, hb, hml, hown, hts⟩ (c_M_holdsApart l dC dI _ ad ck x0 x16 x18 x19 x20 x21 x22 x23 x24 x25 x26 x27 x28 x29 x30 x33 x45 x46 x52 x53 x61 (g_115 + 1) g_116 x65 x66 f1 f2 f3 q4 q5 q6 q7 f8 q9 q10 f11 m12_0 m12_1 m13_0 m13_1 m14_0 m14_1 m15_0 m15_1 f17 q31 f32 f34 f35 f36 f37 q38 f39 f40 f41 m42_0 m42_1 f43 f44 f47 f48 f49 f50 f51 q54 z55_126 z56_127 z57_128 g_114 f59 f60 f64 g_117 (g_117 - 1) 1 hx16 hx18 hx19 hx21 hx22 hx26 hx28 hx29 hx30 hx33 hx46 hx52 hx53 hx61 (by omega) hg_116 hx65 hm12_0 hm12_1 hm13_0 hm13_1 hm14_0 hm14_1 hm15_0 hm15_1 hm42_0 hm42_1 hg_117.2 (by omega)) (cwV 3 hts g_M_layGaps_M_holdsApart rfl rfl rfl (by decide +kernel) ⟨Nat.le_of_ble_eq_true rfl, Nat.le_of_ble_eq_true rfl⟩) ⟨pu_bl, va_recv hK hP (ci := 9) (q0 := 0) rfl rfl, pu_in hP hK hD⟩ rfl rfl hl.1 rfl (lv_room (Nat.le_of_ble_eq_true rfl)) dX9_layGaps_93 ⟨Nat.le_of_ble_eq_true rfl, Nat.le_of_ble_eq_true rfl⟩) hS (fun q _ h => hFc q h) hFc (fun u t H1 locs ht hvm hw hB hz1 hk1 hS => ?_)
          obtain ⟨z55_183, z56_184, z57_185, ⟨hP1, -, hD1⟩⟩ := hB
          rw [ht] at hP1
          have hP := hP1
          have hD := pu_all hFc hD1
          clear hP1 hD1 hFc
          clear hk1 hz1 ht hvm
          generalize H1 = H at hP hS ⊢
          exact j_138 _ _ _ _ ⟨((g_115 + 1) + 1), z55_183, z56_184, z57_185, rfl, ⟨by omega, by omega⟩, by omega, hP, hD, hS, lv_sub hl [1, 2, 0] rfl⟩
  · have c_8 : ¬ 3 ≤ g_5 := fun z => c_8 ((nI_leI (a := 3) (b := g_5) (Nat.le_of_ble_eq_true rfl) (Nat.lt_of_le_of_lt hg_5 (Nat.le_of_ble_eq_true rfl))).mpr z)
    refine lv_aload_n hx hb dX9_layGaps_17 rfl (lv_at hl 0 rfl) ?_
    refine va_get (D := (dC, dI)) (ci := 9) (v := .ref (ad 58)) (C := RX9) (T := TX9) (N := 67) hx hb hts hiX9 hown hK hP 0 rfl rfl 58 (by decide) v_3 (fun _ h9 => h9) rfl dX9_layGaps_18 ?_
    refine lv_iload_n hx hb dX9_layGaps_21 rfl (lv_at hl 1 rfl) ?_
    refine lv_iconst (v := 0) hx hb dX9_layGaps_22 (by decide) ?_
    refine va_iast hx hb hK hP hD hS 39 38 rfl rfl (vp_in_nI (n := g_5) (by omega) (Nat.le_of_ble_eq_true rfl)) dX9_layGaps_23 (fun H locs hP hD hS => ?_)
    obtain ⟨q_186, eq_186, kq_186⟩ := bN_up 120 g_4 (((nI g_5) : Int32).toNatClampNeg) (v := 0) (Nat.le_of_ble_eq_true rfl)
    have hP : va_P (dC, dI) vwCl (mo_w ad ck x0 (nI x16) (nI x18) (nI x19) x20 (nI x21) (nI x22) x23 x24 x25 (nI x26) x27 (nI x28) (nI x29) (nI x30) (nI x33) x45 (nI x46) (nI x52) (nI x53) (nI x61) 0 0 (nI x65) x66 f1 f2 f3 (bN 3 q4) (bN 7 q5) (bN 7 q6) (bN 4 q7) f8 (bN 2 q9) (bH q10) f11 (b2 m12_0 m12_1) (b2 m13_0 m13_1) (b2 m14_0 m14_1) (b2m m15_0 m15_1) f17 (bA 159 q31) f32 f34 f35 f36 f37 (bN 7 q38) f39 f40 f41 (b2 m42_0 m42_1) f43 f44 f47 f48 f49 f50 f51 (bN 13 q54) (bN 120 q55) (bN 120 q56) f57 (bN 120 q_186) f59 f60 f64) H := by rw [← eq_186]; exact hP
    have hD : va_D A (mo_w ad ck x0 (nI x16) (nI x18) (nI x19) x20 (nI x21) (nI x22) x23 x24 x25 (nI x26) x27 (nI x28) (nI x29) (nI x30) (nI x33) x45 (nI x46) (nI x52) (nI x53) (nI x61) 0 0 (nI x65) x66 f1 f2 f3 (bN 3 q4) (bN 7 q5) (bN 7 q6) (bN 4 q7) f8 (bN 2 q9) (bH q10) f11 (b2 m12_0 m12_1) (b2 m13_0 m13_1) (b2 m14_0 m14_1) (b2m m15_0 m15_1) f17 (bA 159 q31) f32 f34 f35 f36 f37 (bN 7 q38) f39 f40 f41 (b2 m42_0 m42_1) f43 f44 f47 f48 f49 f50 f51 (bN 13 q54) (bN 120 q55) (bN 120 q56) f57 (bN 120 q_186) f59 f60 f64) := by rw [← eq_186]; exact hD
    refine lv_iinc (v := (nI (g_5 + 1))) (lv' := [(1, .int (nI (g_5 + 1))), (0, .ref (ad 0))]) hx hb dX9_layGaps_24 hl (k := 1) rfl (nI_1 _) (by decide) rfl (fun ls hl => ?_)
    refine lv_goto (tgt := 12) hx hb dX9_layGaps_27 (by decide) ?_
    exact ih_7 (3 - (g_5 + 1)) (by omega) _ _ _ ⟨q_186, (g_5 + 1), rfl, (by omega), by omega, hP, hD, hS, lv_sub hl [1, 0] rfl⟩
theorem dX9_laysLeast_0 : decode cX9_laysLeast 0 = .ok (.aload_n 0, 1) := by decide +kernel
theorem dX9_laysLeast_1 : decode cX9_laysLeast 1 = .ok (.invokevirtual 444, 3) := by decide +kernel
theorem dX9_laysLeast_4 : decode cX9_laysLeast 4 = .ok (.iconst 0, 1) := by decide +kernel
theorem dX9_laysLeast_5 : decode cX9_laysLeast 5 = .ok (.istore_n 1, 1) := by decide +kernel
theorem dX9_laysLeast_6 : decode cX9_laysLeast 6 = .ok (.iload_n 1, 1) := by decide +kernel
theorem dX9_laysLeast_7 : decode cX9_laysLeast 7 = .ok (.aload_n 0, 1) := by decide +kernel
theorem dX9_laysLeast_8 : decode cX9_laysLeast 8 = .ok (.getfield 429, 3) := by decide +kernel
theorem dX9_laysLeast_11 : decode cX9_laysLeast 11 = .ok (.if_icmp .gt 16, 3) := by decide +kernel
theorem dX9_laysLeast_14 : decode cX9_laysLeast 14 = .ok (.aload_n 0, 1) := by decide +kernel
theorem dX9_laysLeast_15 : decode cX9_laysLeast 15 = .ok (.getfield 133, 3) := by decide +kernel
theorem dX9_laysLeast_18 : decode cX9_laysLeast 18 = .ok (.iload_n 1, 1) := by decide +kernel
theorem dX9_laysLeast_19 : decode cX9_laysLeast 19 = .ok (.iconst 0, 1) := by decide +kernel
theorem dX9_laysLeast_20 : decode cX9_laysLeast 20 = .ok (.iastore, 1) := by decide +kernel
theorem dX9_laysLeast_21 : decode cX9_laysLeast 21 = .ok (.iinc 1 1, 3) := by decide +kernel
theorem dX9_laysLeast_24 : decode cX9_laysLeast 24 = .ok (.goto (-18), 3) := by decide +kernel
theorem dX9_laysLeast_27 : decode cX9_laysLeast 27 = .ok (.aload_n 0, 1) := by decide +kernel
theorem dX9_laysLeast_28 : decode cX9_laysLeast 28 = .ok (.getfield 435, 3) := by decide +kernel
theorem dX9_laysLeast_31 : decode cX9_laysLeast 31 = .ok (.ifCond .ne 7, 3) := by decide +kernel
theorem dX9_laysLeast_34 : decode cX9_laysLeast 34 = .ok (.iconst 1, 1) := by decide +kernel
theorem dX9_laysLeast_35 : decode cX9_laysLeast 35 = .ok (.goto 4, 3) := by decide +kernel
theorem dX9_laysLeast_38 : decode cX9_laysLeast 38 = .ok (.iconst 0, 1) := by decide +kernel
theorem dX9_laysLeast_39 : decode cX9_laysLeast 39 = .ok (.istore_n 1, 1) := by decide +kernel
theorem dX9_laysLeast_40 : decode cX9_laysLeast 40 = .ok (.iconst 0, 1) := by decide +kernel
theorem dX9_laysLeast_41 : decode cX9_laysLeast 41 = .ok (.istore_n 2, 1) := by decide +kernel
theorem dX9_laysLeast_42 : decode cX9_laysLeast 42 = .ok (.iload_n 2, 1) := by decide +kernel
theorem dX9_laysLeast_43 : decode cX9_laysLeast 43 = .ok (.aload_n 0, 1) := by decide +kernel
theorem dX9_laysLeast_44 : decode cX9_laysLeast 44 = .ok (.getfield 429, 3) := by decide +kernel
theorem dX9_laysLeast_47 : decode cX9_laysLeast 47 = .ok (.iconst 1, 1) := by decide +kernel
theorem dX9_laysLeast_48 : decode cX9_laysLeast 48 = .ok (.iadd, 1) := by decide +kernel
theorem dX9_laysLeast_49 : decode cX9_laysLeast 49 = .ok (.if_icmp .gt 85, 3) := by decide +kernel
theorem dX9_laysLeast_52 : decode cX9_laysLeast 52 = .ok (.iload_n 1, 1) := by decide +kernel
theorem dX9_laysLeast_53 : decode cX9_laysLeast 53 = .ok (.ifCond .eq 81, 3) := by decide +kernel
theorem dX9_laysLeast_56 : decode cX9_laysLeast 56 = .ok (.iconst 0, 1) := by decide +kernel
theorem dX9_laysLeast_57 : decode cX9_laysLeast 57 = .ok (.istore_n 1, 1) := by decide +kernel
theorem dX9_laysLeast_58 : decode cX9_laysLeast 58 = .ok (.iconst 0, 1) := by decide +kernel
theorem dX9_laysLeast_59 : decode cX9_laysLeast 59 = .ok (.istore_n 3, 1) := by decide +kernel
theorem dX9_laysLeast_60 : decode cX9_laysLeast 60 = .ok (.iload_n 3, 1) := by decide +kernel
theorem dX9_laysLeast_61 : decode cX9_laysLeast 61 = .ok (.aload_n 0, 1) := by decide +kernel
theorem dX9_laysLeast_62 : decode cX9_laysLeast 62 = .ok (.getfield 432, 3) := by decide +kernel
theorem dX9_laysLeast_65 : decode cX9_laysLeast 65 = .ok (.if_icmp .ge 63, 3) := by decide +kernel
theorem dX9_laysLeast_68 : decode cX9_laysLeast 68 = .ok (.aload_n 0, 1) := by decide +kernel
theorem dX9_laysLeast_69 : decode cX9_laysLeast 69 = .ok (.getfield 133, 3) := by decide +kernel
theorem dX9_laysLeast_72 : decode cX9_laysLeast 72 = .ok (.aload_n 0, 1) := by decide +kernel
theorem dX9_laysLeast_73 : decode cX9_laysLeast 73 = .ok (.getfield 121, 3) := by decide +kernel
theorem dX9_laysLeast_76 : decode cX9_laysLeast 76 = .ok (.iload_n 3, 1) := by decide +kernel
theorem dX9_laysLeast_77 : decode cX9_laysLeast 77 = .ok (.iaload, 1) := by decide +kernel
theorem dX9_laysLeast_78 : decode cX9_laysLeast 78 = .ok (.iaload, 1) := by decide +kernel
theorem dX9_laysLeast_79 : decode cX9_laysLeast 79 = .ok (.aload_n 0, 1) := by decide +kernel
theorem dX9_laysLeast_80 : decode cX9_laysLeast 80 = .ok (.getfield 127, 3) := by decide +kernel
theorem dX9_laysLeast_83 : decode cX9_laysLeast 83 = .ok (.iload_n 3, 1) := by decide +kernel
theorem dX9_laysLeast_84 : decode cX9_laysLeast 84 = .ok (.iaload, 1) := by decide +kernel
theorem dX9_laysLeast_85 : decode cX9_laysLeast 85 = .ok (.invokestatic 447, 3) := by decide +kernel
theorem dX9_laysLeast_88 : decode cX9_laysLeast 88 = .ok (.isub, 1) := by decide +kernel
theorem dX9_laysLeast_89 : decode cX9_laysLeast 89 = .ok (.istore 4, 2) := by decide +kernel
theorem dX9_laysLeast_91 : decode cX9_laysLeast 91 = .ok (.iload 4, 2) := by decide +kernel
theorem dX9_laysLeast_93 : decode cX9_laysLeast 93 = .ok (.aload_n 0, 1) := by decide +kernel
theorem dX9_laysLeast_94 : decode cX9_laysLeast 94 = .ok (.getfield 133, 3) := by decide +kernel
theorem dX9_laysLeast_97 : decode cX9_laysLeast 97 = .ok (.aload_n 0, 1) := by decide +kernel
theorem dX9_laysLeast_98 : decode cX9_laysLeast 98 = .ok (.getfield 124, 3) := by decide +kernel
theorem dX9_laysLeast_101 : decode cX9_laysLeast 101 = .ok (.iload_n 3, 1) := by decide +kernel
theorem dX9_laysLeast_102 : decode cX9_laysLeast 102 = .ok (.iaload, 1) := by decide +kernel
theorem dX9_laysLeast_103 : decode cX9_laysLeast 103 = .ok (.iaload, 1) := by decide +kernel
theorem dX9_laysLeast_104 : decode cX9_laysLeast 104 = .ok (.if_icmp .le 18, 3) := by decide +kernel
theorem dX9_laysLeast_107 : decode cX9_laysLeast 107 = .ok (.aload_n 0, 1) := by decide +kernel
theorem dX9_laysLeast_108 : decode cX9_laysLeast 108 = .ok (.getfield 133, 3) := by decide +kernel
theorem dX9_laysLeast_111 : decode cX9_laysLeast 111 = .ok (.aload_n 0, 1) := by decide +kernel
theorem dX9_laysLeast_112 : decode cX9_laysLeast 112 = .ok (.getfield 124, 3) := by decide +kernel
theorem dX9_laysLeast_115 : decode cX9_laysLeast 115 = .ok (.iload_n 3, 1) := by decide +kernel
theorem dX9_laysLeast_116 : decode cX9_laysLeast 116 = .ok (.iaload, 1) := by decide +kernel
theorem dX9_laysLeast_117 : decode cX9_laysLeast 117 = .ok (.iload 4, 2) := by decide +kernel
theorem dX9_laysLeast_119 : decode cX9_laysLeast 119 = .ok (.iastore, 1) := by decide +kernel
theorem dX9_laysLeast_120 : decode cX9_laysLeast 120 = .ok (.iconst 1, 1) := by decide +kernel
theorem dX9_laysLeast_121 : decode cX9_laysLeast 121 = .ok (.istore_n 1, 1) := by decide +kernel
theorem dX9_laysLeast_122 : decode cX9_laysLeast 122 = .ok (.iinc 3 1, 3) := by decide +kernel
theorem dX9_laysLeast_125 : decode cX9_laysLeast 125 = .ok (.goto (-65), 3) := by decide +kernel
theorem dX9_laysLeast_128 : decode cX9_laysLeast 128 = .ok (.iinc 2 1, 3) := by decide +kernel
theorem dX9_laysLeast_131 : decode cX9_laysLeast 131 = .ok (.goto (-89), 3) := by decide +kernel
theorem dX9_laysLeast_134 : decode cX9_laysLeast 134 = .ok (.aload_n 0, 1) := by decide +kernel
theorem dX9_laysLeast_135 : decode cX9_laysLeast 135 = .ok (.getfield 435, 3) := by decide +kernel
theorem dX9_laysLeast_138 : decode cX9_laysLeast 138 = .ok (.ifCond .ne 20, 3) := by decide +kernel
theorem dX9_laysLeast_141 : decode cX9_laysLeast 141 = .ok (.iload_n 1, 1) := by decide +kernel
theorem dX9_laysLeast_142 : decode cX9_laysLeast 142 = .ok (.ifCond .ne 16, 3) := by decide +kernel
theorem dX9_laysLeast_145 : decode cX9_laysLeast 145 = .ok (.aload_n 0, 1) := by decide +kernel
theorem dX9_laysLeast_146 : decode cX9_laysLeast 146 = .ok (.getfield 133, 3) := by decide +kernel
theorem dX9_laysLeast_149 : decode cX9_laysLeast 149 = .ok (.iconst 0, 1) := by decide +kernel
theorem dX9_laysLeast_150 : decode cX9_laysLeast 150 = .ok (.iaload, 1) := by decide +kernel
theorem dX9_laysLeast_151 : decode cX9_laysLeast 151 = .ok (.ifCond .ne 7, 3) := by decide +kernel
theorem dX9_laysLeast_154 : decode cX9_laysLeast 154 = .ok (.iconst 1, 1) := by decide +kernel
theorem dX9_laysLeast_155 : decode cX9_laysLeast 155 = .ok (.goto 4, 3) := by decide +kernel
theorem dX9_laysLeast_158 : decode cX9_laysLeast 158 = .ok (.iconst 0, 1) := by decide +kernel
theorem dX9_laysLeast_159 : decode cX9_laysLeast 159 = .ok (.ireturn, 1) := by decide +kernel
abbrev vs_M_laysLeast : List Cond := .code yX9_laysLeast cX9_laysLeast 5 (some .boolean) :: VM
theorem g_M_laysLeast_X9_timesOf : GoodIn vs_M_laysLeast (va_wsS RX9 447 yX9_timesOf vs_X9_timesOf) := gm_0 (fun w h => by
  rcases List.mem_cons.mp h with rfl | h
  · exact vm_348
  rcases List.mem_cons.mp h with rfl | h
  · exact vm_349
  rcases List.mem_cons.mp h with rfl | h
  · exact vm_12
  rcases List.mem_cons.mp h with rfl | h
  · exact vm_7
  exact absurd h (List.not_mem_nil))
theorem g_M_laysLeast_M_layGaps : GoodIn vs_M_laysLeast (wsV RX9 444 RX9 yX9_layGaps vs_M_layGaps) := gm_V vm_344 vm_345 vm_346 vm_12 vm_339
set_option maxHeartbeats 4000000 in
set_option maxRecDepth 100000 in
theorem c_M_laysLeast (l : Launch) (dC : Nat → ClassId) (dI : Nat → Nat → Nat) (sz : Nat) (ad : Nat → Nat) (ck : Nat → ClassId) (x0 : Int32) (x16 : Nat) (x18 : Nat) (x19 : Nat) (x20 : Int32) (x21 : Nat) (x22 : Nat) (x23 : Int32) (x24 : Int32) (x25 : Int32) (x26 : Nat) (x27 : Int32) (x28 : Nat) (x29 : Nat) (x30 : Nat) (x33 : Nat) (x45 : Int32) (x46 : Nat) (x52 : Nat) (x53 : Nat) (x61 : Nat) (x62 : Nat) (x63 : Nat) (x65 : Nat) (x66 : Int32) (f1 : Nat → Int32) (f2 : Nat → Int32) (f3 : Nat → Int32) (q4 : Nat → Nat) (q5 : Nat → Nat) (q6 : Nat → Nat) (q7 : Nat → Nat) (f8 : Nat → Int32) (q9 : Nat → Nat) (q10 : Nat → Nat) (f11 : Nat → Int32) (m12_0 m12_1 : Nat) (m13_0 m13_1 : Nat) (m14_0 m14_1 : Nat) (m15_0 m15_1 : Nat) (f17 : Nat → Int32) (q31 : Nat → Nat) (f32 : Nat → Int32) (f34 : Nat → Int32) (f35 : Nat → Int32) (f36 : Nat → Int32) (f37 : Nat → Int32) (q38 : Nat → Nat) (f39 : Nat → Int32) (f40 : Nat → Int32) (f41 : Nat → Int32) (m42_0 m42_1 : Nat) (f43 : Nat → Int32) (f44 : Nat → Int32) (f47 : Nat → Int32) (f48 : Nat → Int32) (f49 : Nat → Int32) (f50 : Nat → Int32) (f51 : Nat → Int32) (q54 : Nat → Nat) (q55 : Nat → Nat) (q56 : Nat → Nat) (f57 : Nat → Int32) (q58 : Nat → Nat) (f59 : Nat → Int32) (f60 : Nat → Int32) (f64 : Nat → Int32) (hx16 : x16 ≤ 1) (hx18 : x18 ≤ 900) (hx19 : x19 ≤ 900) (hx21 : x21 ≤ 900) (hx22 : x22 ≤ 4) (hx26 : x26 ≤ 6) (hx28 : x28 ≤ 1) (hx29 : x29 ≤ 1) (hx30 : x30 ≤ 1) (hx33 : x33 ≤ 20) (hx46 : x46 ≤ 5) (hx52 : x52 ≤ 2400) (hx53 : x53 ≤ 119) (hx61 : x61 ≤ 119) (hx62 : x62 ≤ 2000) (hx63 : x63 ≤ 1) (hx65 : x65 ≤ 7) (hm12_0 : m12_0 ≤ 3) (hm12_1 : m12_1 ≤ 3) (hm13_0 : m13_0 ≤ 8) (hm13_1 : m13_1 ≤ 8) (hm14_0 : m14_0 ≤ 14) (hm14_1 : m14_1 ≤ 14) (hm15_0 : m15_0 ≤ 8) (hm15_1 : m15_1 ≤ 8) (hm42_0 : m42_0 ≤ 120) (hm42_1 : m42_1 ≤ 400) (hbg : (x16 = 0 ∧ (m13_0 = 0 ∨ 1 ≤ m15_0)) ∨ (x16 = 1 ∧ (m13_1 = 0 ∨ 1 ≤ m15_1))) : Met l yX9_laysLeast vs_M_laysLeast ({ frames := 5, cells := 0, slots := 0, locals := 112 }) (va_Pc [.ref (ad 0)] (pu_B (dC, dI) (mo_w ad ck x0 (nI x16) (nI x18) (nI x19) x20 (nI x21) (nI x22) x23 x24 x25 (nI x26) x27 (nI x28) (nI x29) (nI x30) (nI x33) x45 (nI x46) (nI x52) (nI x53) (nI x61) (nI x62) (nI x63) (nI x65) x66 f1 f2 f3 (bN 3 q4) (bN 7 q5) (bN 7 q6) (bN 4 q7) f8 (bN 2 q9) (bH q10) f11 (b2 m12_0 m12_1) (b2 m13_0 m13_1) (b2 m14_0 m14_1) (b2m m15_0 m15_1) f17 (bA 159 q31) f32 f34 f35 f36 f37 (bN 7 q38) f39 f40 f41 (b2 m42_0 m42_1) f43 f44 f47 f48 f49 f50 f51 (bN 13 q54) (bN 120 q55) (bN 120 q56) f57 (bN 120 q58) f59 f60 f64) (mo_t ck) sz)) (va_Qi (fun (r : Int32) (_ : Unit) => ∃ v : Nat, v ≤ 1 ∧ r = nI v) (fun _ t => ∃ (z55 : Nat → Nat) (z56 : Nat → Nat) (z57 : Nat → Int32) (z58 : Nat → Nat) (z59 : Nat → Int32) (z62 : Nat) (z63 : Nat), pu_E (dC, dI) (mo_w ad ck x0 (nI x16) (nI x18) (nI x19) x20 (nI x21) (nI x22) x23 x24 x25 (nI x26) x27 (nI x28) (nI x29) (nI x30) (nI x33) x45 (nI x46) (nI x52) (nI x53) (nI x61) (nI z62) (nI z63) (nI x65) x66 f1 f2 f3 (bN 3 q4) (bN 7 q5) (bN 7 q6) (bN 4 q7) f8 (bN 2 q9) (bH q10) f11 (b2 m12_0 m12_1) (b2 m13_0 m13_1) (b2 m14_0 m14_1) (b2m m15_0 m15_1) f17 (bA 159 q31) f32 f34 f35 f36 f37 (bN 7 q38) f39 f40 f41 (b2 m42_0 m42_1) f43 f44 f47 f48 f49 f50 f51 (bN 13 q54) (bN 120 z55) (bN 120 z56) z57 (bN 120 z58) z59 f60 f64) (mo_t ck) (va_A ((mo_w ad ck x0 (nI x16) (nI x18) (nI x19) x20 (nI x21) (nI x22) x23 x24 x25 (nI x26) x27 (nI x28) (nI x29) (nI x30) (nI x33) x45 (nI x46) (nI x52) (nI x53) (nI x61) (nI x62) (nI x63) (nI x65) x66 f1 f2 f3 (bN 3 q4) (bN 7 q5) (bN 7 q6) (bN 4 q7) f8 (bN 2 q9) (bH q10) f11 (b2 m12_0 m12_1) (b2 m13_0 m13_1) (b2 m14_0 m14_1) (b2m m15_0 m15_1) f17 (bA 159 q31) f32 f34 f35 f36 f37 (bN 7 q38) f39 f40 f41 (b2 m42_0 m42_1) f43 f44 f47 f48 f49 f50 f51 (bN 13 q54) (bN 120 q55) (bN 120 q56) f57 (bN 120 q58) f59 f60 f64)) sz) t ∧ (z62 ≤ 2000) ∧ (z63 ≤ 1)) (va_A ((mo_w ad ck x0 (nI x16) (nI x18) (nI x19) x20 (nI x21) (nI x22) x23 x24 x25 (nI x26) x27 (nI x28) (nI x29) (nI x30) (nI x33) x45 (nI x46) (nI x52) (nI x53) (nI x61) (nI x62) (nI x63) (nI x65) x66 f1 f2 f3 (bN 3 q4) (bN 7 q5) (bN 7 q6) (bN 4 q7) f8 (bN 2 q9) (bH q10) f11 (b2 m12_0 m12_1) (b2 m13_0 m13_1) (b2 m14_0 m14_1) (b2m m15_0 m15_1) f17 (bA 159 q31) f32 f34 f35 f36 f37 (bN 7 q38) f39 f40 f41 (b2 m42_0 m42_1) f43 f44 f47 f48 f49 f50 f51 (bN 13 q54) (bN 120 q55) (bN 120 q56) f57 (bN 120 q58) f59 f60 f64)) sz)) 0 0 (va_A ((mo_w ad ck x0 (nI x16) (nI x18) (nI x19) x20 (nI x21) (nI x22) x23 x24 x25 (nI x26) x27 (nI x28) (nI x29) (nI x30) (nI x33) x45 (nI x46) (nI x52) (nI x53) (nI x61) (nI x62) (nI x63) (nI x65) x66 f1 f2 f3 (bN 3 q4) (bN 7 q5) (bN 7 q6) (bN 4 q7) f8 (bN 2 q9) (bH q10) f11 (b2 m12_0 m12_1) (b2 m13_0 m13_1) (b2 m14_0 m14_1) (b2m m15_0 m15_1) f17 (bA 159 q31) f32 f34 f35 f36 f37 (bN 7 q38) f39 f40 f41 (b2 m42_0 m42_1) f43 f44 f47 f48 f49 f50 f51 (bN 13 q54) (bN 120 q55) (bN 120 q56) f57 (bN 120 q58) f59 f60 f64)) sz) := by
  refine Met.ofW (cc := cX9_laysLeast) (maxL := 5) (ret := (some .boolean)) (by decide) rfl ?_
  intro p e s m args below meth c s₁ B hml hv
  obtain ⟨rfl, rfl, hP, hK, hD0⟩ := hv
  have hx := B.exec
  have hb := B.bytes
  have hr := B.returns
  have hts := atoms_spec (ws := vs_M_laysLeast) B.pre
  have v_6 := hts (.fieldLink RX9 429 "ClockReachModel" "pathMany" "I") (List.mem_cons_of_mem _ vm_326)
  have v_7 := hts (.fieldLink RX9 133 "ClockReachModel" "time" "[I") (List.mem_cons_of_mem _ vm_347)
  have v_8 := hts (.fieldLink RX9 435 "ClockReachModel" "isBroken" "Z") (List.mem_cons_of_mem _ vm_338)
  have v_9 := hts (.fieldLink RX9 432 "ClockReachModel" "gaps" "I") (List.mem_cons_of_mem _ vm_330)
  have v_10 := hts (.fieldLink RX9 121 "ClockReachModel" "later" "[I") (List.mem_cons_of_mem _ vm_329)
  have v_11 := hts (.fieldLink RX9 127 "ClockReachModel" "gap" "[I") (List.mem_cons_of_mem _ vm_332)
  have v_15 := hts (.fieldLink RX9 124 "ClockReachModel" "sooner" "[I") (List.mem_cons_of_mem _ vm_331)
  have hown : s.vm.findClass RX9 = some m.cls := findClass_of_methodNamed B.named
  have hlocks := B.notSynchronized
  have hiX9 : ∀ w ∈ wsX90, w ∈ vs_M_laysLeast := fun _ h => List.mem_cons_of_mem _ (List.mem_append_right _ h)
  have hD := hD0.self (sz := s.heap.size)
  generalize hAe : va_A ((mo_w ad ck x0 (nI x16) (nI x18) (nI x19) x20 (nI x21) (nI x22) x23 x24 x25 (nI x26) x27 (nI x28) (nI x29) (nI x30) (nI x33) x45 (nI x46) (nI x52) (nI x53) (nI x61) (nI x62) (nI x63) (nI x65) x66 f1 f2 f3 (bN 3 q4) (bN 7 q5) (bN 7 q6) (bN 4 q7) f8 (bN 2 q9) (bH q10) f11 (b2 m12_0 m12_1) (b2 m13_0 m13_1) (b2 m14_0 m14_1) (b2m m15_0 m15_1) f17 (bA 159 q31) f32 f34 f35 f36 f37 (bN 7 q38) f39 f40 f41 (b2 m42_0 m42_1) f43 f44 f47 f48 f49 f50 f51 (bN 13 q54) (bN 120 q55) (bN 120 q56) f57 (bN 120 q58) f59 f60 f64)) s.heap.size = A at hD ⊢
  have hA : ∀ q : Nat, s.heap.size ≤ q → A q := fun q h => by rw [← hAe]; exact Or.inr h
  have hS : va_S A s.heap s.heap [] := va_S.rf
  have hl := lv_entry ([.ref (ad 0)]) (n := 5) (Nat.le_of_ble_eq_true rfl)
  rw [lg_entry_eq]
  generalize (lg_sl ([.ref (ad 0)]) ++ List.replicate (5 - (lg_sl ([.ref (ad 0)])).length) Slot.unset).toArray = ls at hl ⊢
  have hl : lv_has ls 5 [(0, .ref (ad 0))] := hl
  refine lv_aload_n hx hb dX9_laysLeast_0 rfl (lv_at hl 0 rfl) ?_
  have hFc := pu_free hD hS hA
  refine va_callv (va_runV (As := []) (rest := []) ⟨hx, hb, hml, hown, hts⟩ (c_M_layGaps l dC dI _ ad ck x0 x16 x18 x19 x20 x21 x22 x23 x24 x25 x26 x27 x28 x29 x30 x33 x45 x46 x52 x53 x61 x62 x63 x65 x66 f1 f2 f3 q4 q5 q6 q7 f8 q9 q10 f11 m12_0 m12_1 m13_0 m13_1 m14_0 m14_1 m15_0 m15_1 f17 q31 f32 f34 f35 f36 f37 q38 f39 f40 f41 m42_0 m42_1 f43 f44 f47 f48 f49 f50 f51 q54 q55 q56 f57 q58 f59 f60 f64 hx16 hx18 hx19 hx21 hx22 hx26 hx28 hx29 hx30 hx33 hx46 hx52 hx53 hx61 hx62 hx63 hx65 hm12_0 hm12_1 hm13_0 hm13_1 hm14_0 hm14_1 hm15_0 hm15_1 hm42_0 hm42_1 (by first | assumption | omega)) (cwV 0 hts g_M_laysLeast_M_layGaps rfl rfl rfl (by decide +kernel) ⟨Nat.le_of_ble_eq_true rfl, Nat.le_of_ble_eq_true rfl⟩) ⟨pu_bl, va_recv hK hP (ci := 9) (q0 := 0) rfl rfl, pu_in hP hK hD⟩ rfl rfl hl.1 rfl (lv_room (Nat.le_of_ble_eq_true rfl)) dX9_laysLeast_1 ⟨Nat.le_of_ble_eq_true rfl, Nat.le_of_ble_eq_true rfl⟩) hS (fun q _ h => hFc q h) hFc (fun u t H1 locs ht hvm hw hB hz1 hk1 hS => ?_)
  obtain ⟨z55_2, z56_3, z57_4, z58_5, z62_6, z63_7, ⟨hP1, -, hD1⟩, hz62_6, hz63_7⟩ := hB
  rw [ht] at hP1
  have hP := hP1
  have hD := pu_all hFc hD1
  clear hP1 hD1 hFc
  clear hk1 hz1 ht hvm
  generalize H1 = H at hP hS ⊢
  refine lv_iconst (v := 0) hx hb dX9_laysLeast_4 (by decide) ?_
  refine lv_istore_n (lv' := [(1, .int 0), (0, .ref (ad 0))]) hx hb dX9_laysLeast_5 rfl hl (by decide) rfl (fun ls hl => ?_)
  refine pu_while (fun nn H locs ls => ∃ (g_10 : Nat → Int32) (g_11 : Nat), nn = 120 - g_11 ∧ g_11 ≤ 120 ∧ va_P (dC, dI) vwCl (mo_w ad ck x0 (nI x16) (nI x18) (nI x19) x20 (nI x21) (nI x22) x23 x24 x25 (nI x26) x27 (nI x28) (nI x29) (nI x30) (nI x33) x45 (nI x46) (nI x52) (nI x53) (nI x61) (nI z62_6) (nI z63_7) (nI x65) x66 f1 f2 f3 (bN 3 q4) (bN 7 q5) (bN 7 q6) (bN 4 q7) f8 (bN 2 q9) (bH q10) f11 (b2 m12_0 m12_1) (b2 m13_0 m13_1) (b2 m14_0 m14_1) (b2m m15_0 m15_1) f17 (bA 159 q31) f32 f34 f35 f36 f37 (bN 7 q38) f39 f40 f41 (b2 m42_0 m42_1) f43 f44 f47 f48 f49 f50 f51 (bN 13 q54) (bN 120 z55_2) (bN 120 z56_3) z57_4 (bN 120 z58_5) g_10 f60 f64) H ∧ va_D A (mo_w ad ck x0 (nI x16) (nI x18) (nI x19) x20 (nI x21) (nI x22) x23 x24 x25 (nI x26) x27 (nI x28) (nI x29) (nI x30) (nI x33) x45 (nI x46) (nI x52) (nI x53) (nI x61) (nI z62_6) (nI z63_7) (nI x65) x66 f1 f2 f3 (bN 3 q4) (bN 7 q5) (bN 7 q6) (bN 4 q7) f8 (bN 2 q9) (bH q10) f11 (b2 m12_0 m12_1) (b2 m13_0 m13_1) (b2 m14_0 m14_1) (b2m m15_0 m15_1) f17 (bA 159 q31) f32 f34 f35 f36 f37 (bN 7 q38) f39 f40 f41 (b2 m42_0 m42_1) f43 f44 f47 f48 f49 f50 f51 (bN 13 q54) (bN 120 z55_2) (bN 120 z56_3) z57_4 (bN 120 z58_5) g_10 f60 f64) ∧ va_S A s.heap H locs ∧ lv_has ls 5 [(0, .ref (ad 0)), (1, .int (nI g_11))]) 6 ?_ _ _ _ _ ⟨f59, 0, rfl, (Nat.le_of_ble_eq_true rfl), hP, hD, hS, lv_sub hl [1, 0] rfl⟩
  rintro nn ih_12 H locs ls ⟨g_10, g_11, rfl, hg_11, hP, hD, hS, hl⟩
  refine lv_iload_n hx hb dX9_laysLeast_6 rfl (lv_at hl 1 rfl) ?_
  refine lv_aload_n hx hb dX9_laysLeast_7 rfl (lv_at hl 0 rfl) ?_
  refine va_get (D := (dC, dI)) (ci := 9) (v := .int (nI x61)) (C := RX9) (T := TX9) (N := 67) hx hb hts hiX9 hown hK hP 0 rfl rfl 61 (by decide) v_6 (fun _ h9 => h9) rfl dX9_laysLeast_8 ?_
  refine lv_icmp_gt (tgt := 27) hx hb dX9_laysLeast_11 (by decide) (fun c_13 => ?_) (fun c_13 => ?_)
  · have c_13 : x61 < g_11 := (nI_ltI (a := x61) (b := g_11) (Nat.lt_of_le_of_lt hx61 (Nat.le_of_ble_eq_true rfl)) (Nat.lt_of_le_of_lt hg_11 (Nat.le_of_ble_eq_true rfl))).mp c_13
    refine lv_aload_n hx hb dX9_laysLeast_27 rfl (lv_at hl 0 rfl) ?_
    refine va_get (D := (dC, dI)) (ci := 9) (v := .int (nI z63_7)) (C := RX9) (T := TX9) (N := 67) hx hb hts hiX9 hown hK hP 0 rfl rfl 63 (by decide) v_8 (fun _ h9 => h9) rfl dX9_laysLeast_28 ?_
    refine pu_join (fun H locs ls st => ∃ (g_14 : Nat), st = [.int (nI g_14)] ∧ g_14 ≤ 1 ∧ va_P (dC, dI) vwCl (mo_w ad ck x0 (nI x16) (nI x18) (nI x19) x20 (nI x21) (nI x22) x23 x24 x25 (nI x26) x27 (nI x28) (nI x29) (nI x30) (nI x33) x45 (nI x46) (nI x52) (nI x53) (nI x61) (nI z62_6) (nI z63_7) (nI x65) x66 f1 f2 f3 (bN 3 q4) (bN 7 q5) (bN 7 q6) (bN 4 q7) f8 (bN 2 q9) (bH q10) f11 (b2 m12_0 m12_1) (b2 m13_0 m13_1) (b2 m14_0 m14_1) (b2m m15_0 m15_1) f17 (bA 159 q31) f32 f34 f35 f36 f37 (bN 7 q38) f39 f40 f41 (b2 m42_0 m42_1) f43 f44 f47 f48 f49 f50 f51 (bN 13 q54) (bN 120 z55_2) (bN 120 z56_3) z57_4 (bN 120 z58_5) g_10 f60 f64) H ∧ va_D A (mo_w ad ck x0 (nI x16) (nI x18) (nI x19) x20 (nI x21) (nI x22) x23 x24 x25 (nI x26) x27 (nI x28) (nI x29) (nI x30) (nI x33) x45 (nI x46) (nI x52) (nI x53) (nI x61) (nI z62_6) (nI z63_7) (nI x65) x66 f1 f2 f3 (bN 3 q4) (bN 7 q5) (bN 7 q6) (bN 4 q7) f8 (bN 2 q9) (bH q10) f11 (b2 m12_0 m12_1) (b2 m13_0 m13_1) (b2 m14_0 m14_1) (b2m m15_0 m15_1) f17 (bA 159 q31) f32 f34 f35 f36 f37 (bN 7 q38) f39 f40 f41 (b2 m42_0 m42_1) f43 f44 f47 f48 f49 f50 f51 (bN 13 q54) (bN 120 z55_2) (bN 120 z56_3) z57_4 (bN 120 z58_5) g_10 f60 f64) ∧ va_S A s.heap H locs ∧ lv_has ls 5 [(0, .ref (ad 0)), (1, .int (nI g_11))]) 39 ?_ (fun j_15 => ?_)
    · rintro H locs ls st ⟨g_14, rfl, hg_14, hP, hD, hS, hl⟩
      refine lv_istore_n (lv' := [(1, .int (nI g_14)), (0, .ref (ad 0))]) hx hb dX9_laysLeast_39 rfl hl (by decide) rfl (fun ls hl => ?_)
      refine lv_iconst (v := 0) hx hb dX9_laysLeast_40 (by decide) ?_
      refine lv_istore_n (lv' := [(2, .int 0), (1, .int (nI g_14)), (0, .ref (ad 0))]) hx hb dX9_laysLeast_41 rfl hl (by decide) rfl (fun ls hl => ?_)
      refine pu_while (fun nn H locs ls => ∃ (g_19 : Nat → Int32) (g_20 : Int32) (g_21 : Nat), nn = 121 - g_21 ∧ g_21 ≤ 121 ∧ va_P (dC, dI) vwCl (mo_w ad ck x0 (nI x16) (nI x18) (nI x19) x20 (nI x21) (nI x22) x23 x24 x25 (nI x26) x27 (nI x28) (nI x29) (nI x30) (nI x33) x45 (nI x46) (nI x52) (nI x53) (nI x61) (nI z62_6) (nI z63_7) (nI x65) x66 f1 f2 f3 (bN 3 q4) (bN 7 q5) (bN 7 q6) (bN 4 q7) f8 (bN 2 q9) (bH q10) f11 (b2 m12_0 m12_1) (b2 m13_0 m13_1) (b2 m14_0 m14_1) (b2m m15_0 m15_1) f17 (bA 159 q31) f32 f34 f35 f36 f37 (bN 7 q38) f39 f40 f41 (b2 m42_0 m42_1) f43 f44 f47 f48 f49 f50 f51 (bN 13 q54) (bN 120 z55_2) (bN 120 z56_3) z57_4 (bN 120 z58_5) g_19 f60 f64) H ∧ va_D A (mo_w ad ck x0 (nI x16) (nI x18) (nI x19) x20 (nI x21) (nI x22) x23 x24 x25 (nI x26) x27 (nI x28) (nI x29) (nI x30) (nI x33) x45 (nI x46) (nI x52) (nI x53) (nI x61) (nI z62_6) (nI z63_7) (nI x65) x66 f1 f2 f3 (bN 3 q4) (bN 7 q5) (bN 7 q6) (bN 4 q7) f8 (bN 2 q9) (bH q10) f11 (b2 m12_0 m12_1) (b2 m13_0 m13_1) (b2 m14_0 m14_1) (b2m m15_0 m15_1) f17 (bA 159 q31) f32 f34 f35 f36 f37 (bN 7 q38) f39 f40 f41 (b2 m42_0 m42_1) f43 f44 f47 f48 f49 f50 f51 (bN 13 q54) (bN 120 z55_2) (bN 120 z56_3) z57_4 (bN 120 z58_5) g_19 f60 f64) ∧ va_S A s.heap H locs ∧ lv_has ls 5 [(0, .ref (ad 0)), (1, .int g_20), (2, .int (nI g_21))]) 42 ?_ _ _ _ _ ⟨g_10, (nI g_14), 0, rfl, (Nat.le_of_ble_eq_true rfl), hP, hD, hS, lv_sub hl [2, 1, 0] rfl⟩
      rintro nn ih_22 H locs ls ⟨g_19, g_20, g_21, rfl, hg_21, hP, hD, hS, hl⟩
      refine lv_iload_n hx hb dX9_laysLeast_42 rfl (lv_at hl 2 rfl) ?_
      refine lv_aload_n hx hb dX9_laysLeast_43 rfl (lv_at hl 0 rfl) ?_
      refine va_get (D := (dC, dI)) (ci := 9) (v := .int (nI x61)) (C := RX9) (T := TX9) (N := 67) hx hb hts hiX9 hown hK hP 0 rfl rfl 61 (by decide) v_6 (fun _ h9 => h9) rfl dX9_laysLeast_44 ?_
      refine lv_iconst (v := 1) hx hb dX9_laysLeast_47 (by decide) ?_
      refine lv_iadd hx hb dX9_laysLeast_48 ?_
      refine lv_topi (fun y_23 ey_23 => ?_)
      obtain rfl : y_23 = (nI (x61 + 1)) := ey_23.trans (nI_add x61 1)
      refine pu_join (fun H locs ls st => st = [] ∧ va_P (dC, dI) vwCl (mo_w ad ck x0 (nI x16) (nI x18) (nI x19) x20 (nI x21) (nI x22) x23 x24 x25 (nI x26) x27 (nI x28) (nI x29) (nI x30) (nI x33) x45 (nI x46) (nI x52) (nI x53) (nI x61) (nI z62_6) (nI z63_7) (nI x65) x66 f1 f2 f3 (bN 3 q4) (bN 7 q5) (bN 7 q6) (bN 4 q7) f8 (bN 2 q9) (bH q10) f11 (b2 m12_0 m12_1) (b2 m13_0 m13_1) (b2 m14_0 m14_1) (b2m m15_0 m15_1) f17 (bA 159 q31) f32 f34 f35 f36 f37 (bN 7 q38) f39 f40 f41 (b2 m42_0 m42_1) f43 f44 f47 f48 f49 f50 f51 (bN 13 q54) (bN 120 z55_2) (bN 120 z56_3) z57_4 (bN 120 z58_5) g_19 f60 f64) H ∧ va_D A (mo_w ad ck x0 (nI x16) (nI x18) (nI x19) x20 (nI x21) (nI x22) x23 x24 x25 (nI x26) x27 (nI x28) (nI x29) (nI x30) (nI x33) x45 (nI x46) (nI x52) (nI x53) (nI x61) (nI z62_6) (nI z63_7) (nI x65) x66 f1 f2 f3 (bN 3 q4) (bN 7 q5) (bN 7 q6) (bN 4 q7) f8 (bN 2 q9) (bH q10) f11 (b2 m12_0 m12_1) (b2 m13_0 m13_1) (b2 m14_0 m14_1) (b2m m15_0 m15_1) f17 (bA 159 q31) f32 f34 f35 f36 f37 (bN 7 q38) f39 f40 f41 (b2 m42_0 m42_1) f43 f44 f47 f48 f49 f50 f51 (bN 13 q54) (bN 120 z55_2) (bN 120 z56_3) z57_4 (bN 120 z58_5) g_19 f60 f64) ∧ va_S A s.heap H locs ∧ lv_has ls 5 [(0, .ref (ad 0)), (1, .int g_20), (2, .int (nI g_21))]) 134 ?_ (fun j_24 => ?_)
      · rintro H locs ls st ⟨rfl, hP, hD, hS, hl⟩
        refine lv_aload_n hx hb dX9_laysLeast_134 rfl (lv_at hl 0 rfl) ?_
        refine va_get (D := (dC, dI)) (ci := 9) (v := .int (nI z63_7)) (C := RX9) (T := TX9) (N := 67) hx hb hts hiX9 hown hK hP 0 rfl rfl 63 (by decide) v_8 (fun _ h9 => h9) rfl dX9_laysLeast_135 ?_
        refine lv_if_ne (tgt := 158) hx hb dX9_laysLeast_138 (by decide) (fun c_25 => ?_) (fun c_25 => ?_)
        · have c_25 : ¬ z63_7 = 0 := fun z => c_25 ((nI_eq (a := z63_7) (b := 0) (Nat.lt_of_le_of_lt hz63_7 (Nat.le_of_ble_eq_true rfl)) (Nat.le_of_ble_eq_true rfl)).mpr z)
          refine lv_iconst (v := 0) hx hb dX9_laysLeast_158 (by decide) ?_
          exact W.zret (v := 0) (ty := .boolean) hx hb hr (rfl) (fun t ht hW => ⟨⟨0, (), rfl, ⟨0, (Nat.le_of_ble_eq_true rfl), rfl⟩, ⟨z55_2, z56_3, z57_4, z58_5, g_19, z62_6, z63_7, ⟨by rw [ht]; exact hP, va_K.moved hW.alike hK, hD⟩, hz62_6, hz63_7⟩⟩, hS.F ht⟩) hS.2.2 dX9_laysLeast_159
        · have c_25 : z63_7 = 0 := (nI_eq (a := z63_7) (b := 0) (Nat.lt_of_le_of_lt hz63_7 (Nat.le_of_ble_eq_true rfl)) (Nat.le_of_ble_eq_true rfl)).mp c_25
          refine lv_iload_n hx hb dX9_laysLeast_141 rfl (lv_at hl 1 rfl) ?_
          refine lv_if_ne (tgt := 158) hx hb dX9_laysLeast_142 (by decide) (fun c_26 => ?_) (fun c_26 => ?_)
          · refine lv_iconst (v := 0) hx hb dX9_laysLeast_158 (by decide) ?_
            exact W.zret (v := 0) (ty := .boolean) hx hb hr (rfl) (fun t ht hW => ⟨⟨0, (), rfl, ⟨0, (Nat.le_of_ble_eq_true rfl), rfl⟩, ⟨z55_2, z56_3, z57_4, z58_5, g_19, z62_6, z63_7, ⟨by rw [ht]; exact hP, va_K.moved hW.alike hK, hD⟩, hz62_6, hz63_7⟩⟩, hS.F ht⟩) hS.2.2 dX9_laysLeast_159
          · refine lv_aload_n hx hb dX9_laysLeast_145 rfl (lv_at hl 0 rfl) ?_
            refine va_get (D := (dC, dI)) (ci := 9) (v := .ref (ad 59)) (C := RX9) (T := TX9) (N := 67) hx hb hts hiX9 hown hK hP 0 rfl rfl 59 (by decide) v_7 (fun _ h9 => h9) rfl dX9_laysLeast_146 ?_
            refine lv_iconst (v := 0) hx hb dX9_laysLeast_149 (by decide) ?_
            refine va_iald hx hb hK hP 40 39 rfl rfl (vp_in_nI (n := 0) (Nat.le_of_ble_eq_true rfl) (Nat.le_of_ble_eq_true rfl)) dX9_laysLeast_150 ?_
            refine lv_topi (fun y_27 ey_27 => ?_)
            refine lv_if_ne (tgt := 158) hx hb dX9_laysLeast_151 (by decide) (fun c_28 => ?_) (fun c_28 => ?_)
            · refine lv_iconst (v := 0) hx hb dX9_laysLeast_158 (by decide) ?_
              exact W.zret (v := 0) (ty := .boolean) hx hb hr (rfl) (fun t ht hW => ⟨⟨0, (), rfl, ⟨0, (Nat.le_of_ble_eq_true rfl), rfl⟩, ⟨z55_2, z56_3, z57_4, z58_5, g_19, z62_6, z63_7, ⟨by rw [ht]; exact hP, va_K.moved hW.alike hK, hD⟩, hz62_6, hz63_7⟩⟩, hS.F ht⟩) hS.2.2 dX9_laysLeast_159
            · refine lv_iconst (v := 1) hx hb dX9_laysLeast_154 (by decide) ?_
              refine lv_goto (tgt := 159) hx hb dX9_laysLeast_155 (by decide) ?_
              exact W.zret (v := 1) (ty := .boolean) hx hb hr (rfl) (fun t ht hW => ⟨⟨1, (), rfl, ⟨1, (Nat.le_of_ble_eq_true rfl), rfl⟩, ⟨z55_2, z56_3, z57_4, z58_5, g_19, z62_6, z63_7, ⟨by rw [ht]; exact hP, va_K.moved hW.alike hK, hD⟩, hz62_6, hz63_7⟩⟩, hS.F ht⟩) hS.2.2 dX9_laysLeast_159
      refine lv_icmp_gt (tgt := 134) hx hb dX9_laysLeast_49 (by decide) (fun c_29 => ?_) (fun c_29 => ?_)
      · have c_29 : (x61 + 1) < g_21 := (nI_ltI (a := (x61 + 1)) (b := g_21) (by omega) (Nat.lt_of_le_of_lt hg_21 (Nat.le_of_ble_eq_true rfl))).mp c_29
        exact j_24 _ _ _ _ ⟨rfl, hP, hD, hS, lv_sub hl [0, 1, 2] rfl⟩
      · have c_29 : ¬ (x61 + 1) < g_21 := fun z => c_29 ((nI_ltI (a := (x61 + 1)) (b := g_21) (by omega) (Nat.lt_of_le_of_lt hg_21 (Nat.le_of_ble_eq_true rfl))).mpr z)
        refine lv_iload_n hx hb dX9_laysLeast_52 rfl (lv_at hl 1 rfl) ?_
        refine lv_if_eq (tgt := 134) hx hb dX9_laysLeast_53 (by decide) (fun c_30 => ?_) (fun c_30 => ?_)
        · exact j_24 _ _ _ _ ⟨rfl, hP, hD, hS, lv_sub hl [0, 1, 2] rfl⟩
        · refine lv_iconst (v := 0) hx hb dX9_laysLeast_56 (by decide) ?_
          refine lv_istore_n (lv' := [(1, .int 0), (0, .ref (ad 0)), (2, .int (nI g_21))]) hx hb dX9_laysLeast_57 rfl hl (by decide) rfl (fun ls hl => ?_)
          refine lv_iconst (v := 0) hx hb dX9_laysLeast_58 (by decide) ?_
          refine lv_istore_n (lv' := [(3, .int 0), (1, .int 0), (0, .ref (ad 0)), (2, .int (nI g_21))]) hx hb dX9_laysLeast_59 rfl hl (by decide) rfl (fun ls hl => ?_)
          refine pu_while (fun nn H locs ls => ∃ (g_34 : Nat → Int32) (g_35 : Int32) (g_36 : Nat), nn = 2000 - g_36 ∧ g_36 ≤ 2000 ∧ va_P (dC, dI) vwCl (mo_w ad ck x0 (nI x16) (nI x18) (nI x19) x20 (nI x21) (nI x22) x23 x24 x25 (nI x26) x27 (nI x28) (nI x29) (nI x30) (nI x33) x45 (nI x46) (nI x52) (nI x53) (nI x61) (nI z62_6) (nI z63_7) (nI x65) x66 f1 f2 f3 (bN 3 q4) (bN 7 q5) (bN 7 q6) (bN 4 q7) f8 (bN 2 q9) (bH q10) f11 (b2 m12_0 m12_1) (b2 m13_0 m13_1) (b2 m14_0 m14_1) (b2m m15_0 m15_1) f17 (bA 159 q31) f32 f34 f35 f36 f37 (bN 7 q38) f39 f40 f41 (b2 m42_0 m42_1) f43 f44 f47 f48 f49 f50 f51 (bN 13 q54) (bN 120 z55_2) (bN 120 z56_3) z57_4 (bN 120 z58_5) g_34 f60 f64) H ∧ va_D A (mo_w ad ck x0 (nI x16) (nI x18) (nI x19) x20 (nI x21) (nI x22) x23 x24 x25 (nI x26) x27 (nI x28) (nI x29) (nI x30) (nI x33) x45 (nI x46) (nI x52) (nI x53) (nI x61) (nI z62_6) (nI z63_7) (nI x65) x66 f1 f2 f3 (bN 3 q4) (bN 7 q5) (bN 7 q6) (bN 4 q7) f8 (bN 2 q9) (bH q10) f11 (b2 m12_0 m12_1) (b2 m13_0 m13_1) (b2 m14_0 m14_1) (b2m m15_0 m15_1) f17 (bA 159 q31) f32 f34 f35 f36 f37 (bN 7 q38) f39 f40 f41 (b2 m42_0 m42_1) f43 f44 f47 f48 f49 f50 f51 (bN 13 q54) (bN 120 z55_2) (bN 120 z56_3) z57_4 (bN 120 z58_5) g_34 f60 f64) ∧ va_S A s.heap H locs ∧ lv_has ls 5 [(0, .ref (ad 0)), (1, .int g_35), (2, .int (nI g_21)), (3, .int (nI g_36))]) 60 ?_ _ _ _ _ ⟨g_19, 0, 0, rfl, (Nat.le_of_ble_eq_true rfl), hP, hD, hS, lv_sub hl [2, 1, 3, 0] rfl⟩
          rintro nn ih_37 H locs ls ⟨g_34, g_35, g_36, rfl, hg_36, hP, hD, hS, hl⟩
          refine lv_iload_n hx hb dX9_laysLeast_60 rfl (lv_at hl 3 rfl) ?_
          refine lv_aload_n hx hb dX9_laysLeast_61 rfl (lv_at hl 0 rfl) ?_
          refine va_get (D := (dC, dI)) (ci := 9) (v := .int (nI z62_6)) (C := RX9) (T := TX9) (N := 67) hx hb hts hiX9 hown hK hP 0 rfl rfl 62 (by decide) v_9 (fun _ h9 => h9) rfl dX9_laysLeast_62 ?_
          refine lv_icmp_ge (tgt := 128) hx hb dX9_laysLeast_65 (by decide) (fun c_38 => ?_) (fun c_38 => ?_)
          · have c_38 : z62_6 ≤ g_36 := (nI_leI (a := z62_6) (b := g_36) (Nat.lt_of_le_of_lt hz62_6 (Nat.le_of_ble_eq_true rfl)) (Nat.lt_of_le_of_lt hg_36 (Nat.le_of_ble_eq_true rfl))).mp c_38
            refine lv_iinc (v := (nI (g_21 + 1))) (lv' := [(2, .int (nI (g_21 + 1))), (0, .ref (ad 0)), (1, .int g_35), (3, .int (nI g_36))]) hx hb dX9_laysLeast_128 hl (k := 2) rfl (nI_1 _) (by decide) rfl (fun ls hl => ?_)
            refine lv_goto (tgt := 42) hx hb dX9_laysLeast_131 (by decide) ?_
            exact ih_22 (121 - (g_21 + 1)) (by omega) _ _ _ ⟨g_34, g_35, (g_21 + 1), rfl, (by omega), hP, hD, hS, lv_sub hl [1, 2, 0] rfl⟩
          · have c_38 : ¬ z62_6 ≤ g_36 := fun z => c_38 ((nI_leI (a := z62_6) (b := g_36) (Nat.lt_of_le_of_lt hz62_6 (Nat.le_of_ble_eq_true rfl)) (Nat.lt_of_le_of_lt hg_36 (Nat.le_of_ble_eq_true rfl))).mpr z)
            refine lv_aload_n hx hb dX9_laysLeast_68 rfl (lv_at hl 0 rfl) ?_
            refine va_get (D := (dC, dI)) (ci := 9) (v := .ref (ad 59)) (C := RX9) (T := TX9) (N := 67) hx hb hts hiX9 hown hK hP 0 rfl rfl 59 (by decide) v_7 (fun _ h9 => h9) rfl dX9_laysLeast_69 ?_
            refine lv_aload_n hx hb dX9_laysLeast_72 rfl (lv_at hl 0 rfl) ?_
            refine va_get (D := (dC, dI)) (ci := 9) (v := .ref (ad 55)) (C := RX9) (T := TX9) (N := 67) hx hb hts hiX9 hown hK hP 0 rfl rfl 55 (by decide) v_10 (fun _ h9 => h9) rfl dX9_laysLeast_73 ?_
            refine lv_iload_n hx hb dX9_laysLeast_76 rfl (lv_at hl 3 rfl) ?_
            refine va_iald hx hb hK hP 36 35 rfl rfl (vp_in_nI (n := g_36) (by omega) (Nat.le_of_ble_eq_true rfl)) dX9_laysLeast_77 ?_
            refine lv_topi (fun y_39 ey_39 => ?_)
            obtain ⟨u_40, hu_40, qu_40⟩ := bN_get 120 z55_2 (((nI g_36) : Int32).toNatClampNeg)
            obtain rfl : y_39 = nI u_40 := ey_39.trans qu_40
            refine va_iald hx hb hK hP 40 39 rfl rfl (vp_in_nI (n := u_40) (Nat.lt_of_le_of_lt hu_40 (Nat.le_of_ble_eq_true rfl)) (Nat.le_of_ble_eq_true rfl)) dX9_laysLeast_78 ?_
            refine lv_topi (fun y_41 ey_41 => ?_)
            refine lv_aload_n hx hb dX9_laysLeast_79 rfl (lv_at hl 0 rfl) ?_
            refine va_get (D := (dC, dI)) (ci := 9) (v := .ref (ad 57)) (C := RX9) (T := TX9) (N := 67) hx hb hts hiX9 hown hK hP 0 rfl rfl 57 (by decide) v_11 (fun _ h9 => h9) rfl dX9_laysLeast_80 ?_
            refine lv_iload_n hx hb dX9_laysLeast_83 rfl (lv_at hl 3 rfl) ?_
            refine va_iald hx hb hK hP 38 37 rfl rfl (vp_in_nI (n := g_36) (by omega) (Nat.le_of_ble_eq_true rfl)) dX9_laysLeast_84 ?_
            refine lv_topi (fun y_42 ey_42 => ?_)
            refine va_calli (va_runS (As := [.int y_42]) (rest := [.int y_41]) ⟨hx, hb, hml, hown, hts⟩ (c_X9_timesOf l dC dI _ y_42) (va_cwS 1 hts g_M_laysLeast_X9_timesOf rfl rfl rfl (by decide +kernel) ⟨Nat.le_of_ble_eq_true rfl, Nat.le_of_ble_eq_true rfl⟩) ⟨pu_bl, pu_in (hP.sub [] rfl) (hK.sub [] rfl) (hD.sub [] (by decide) rfl)⟩ rfl rfl hl.1 rfl (lv_room (Nat.le_of_ble_eq_true rfl)) dX9_laysLeast_85 ⟨Nat.le_of_ble_eq_true rfl, Nat.le_of_ble_eq_true rfl⟩) hS (fun q _ h => pu_fr hS hA q h) (pu_fr hS hA) (fun r_43 u t H1 locs ht hvm hw hB hz1 hk1 hS => ?_)
            have hP := pu_keep hP hk1
            clear hk1 hz1 ht hvm
            generalize H1 = H at hP hS ⊢
            clear hw
            refine lv_isub hx hb dX9_laysLeast_88 ?_
            refine lv_topi (fun y_44 ey_44 => ?_)
            refine lv_istore (lv' := [(4, .int y_44), (0, .ref (ad 0)), (1, .int g_35), (2, .int (nI g_21)), (3, .int (nI g_36))]) hx hb dX9_laysLeast_89 hl (by decide) rfl (fun ls hl => ?_)
            refine lv_iload hx hb dX9_laysLeast_91 (lv_at hl 0 rfl) ?_
            refine lv_aload_n hx hb dX9_laysLeast_93 rfl (lv_at hl 1 rfl) ?_
            refine va_get (D := (dC, dI)) (ci := 9) (v := .ref (ad 59)) (C := RX9) (T := TX9) (N := 67) hx hb hts hiX9 hown hK hP 0 rfl rfl 59 (by decide) v_7 (fun _ h9 => h9) rfl dX9_laysLeast_94 ?_
            refine lv_aload_n hx hb dX9_laysLeast_97 rfl (lv_at hl 1 rfl) ?_
            refine va_get (D := (dC, dI)) (ci := 9) (v := .ref (ad 56)) (C := RX9) (T := TX9) (N := 67) hx hb hts hiX9 hown hK hP 0 rfl rfl 56 (by decide) v_15 (fun _ h9 => h9) rfl dX9_laysLeast_98 ?_
            refine lv_iload_n hx hb dX9_laysLeast_101 rfl (lv_at hl 4 rfl) ?_
            refine va_iald hx hb hK hP 37 36 rfl rfl (vp_in_nI (n := g_36) (by omega) (Nat.le_of_ble_eq_true rfl)) dX9_laysLeast_102 ?_
            refine lv_topi (fun y_45 ey_45 => ?_)
            obtain ⟨u_46, hu_46, qu_46⟩ := bN_get 120 z56_3 (((nI g_36) : Int32).toNatClampNeg)
            obtain rfl : y_45 = nI u_46 := ey_45.trans qu_46
            refine va_iald hx hb hK hP 40 39 rfl rfl (vp_in_nI (n := u_46) (Nat.lt_of_le_of_lt hu_46 (Nat.le_of_ble_eq_true rfl)) (Nat.le_of_ble_eq_true rfl)) dX9_laysLeast_103 ?_
            refine lv_topi (fun y_47 ey_47 => ?_)
            refine pu_join (fun H locs ls st => ∃ (g_48 : Int32) (g_49 : Nat → Int32), st = [] ∧ va_P (dC, dI) vwCl (mo_w ad ck x0 (nI x16) (nI x18) (nI x19) x20 (nI x21) (nI x22) x23 x24 x25 (nI x26) x27 (nI x28) (nI x29) (nI x30) (nI x33) x45 (nI x46) (nI x52) (nI x53) (nI x61) (nI z62_6) (nI z63_7) (nI x65) x66 f1 f2 f3 (bN 3 q4) (bN 7 q5) (bN 7 q6) (bN 4 q7) f8 (bN 2 q9) (bH q10) f11 (b2 m12_0 m12_1) (b2 m13_0 m13_1) (b2 m14_0 m14_1) (b2m m15_0 m15_1) f17 (bA 159 q31) f32 f34 f35 f36 f37 (bN 7 q38) f39 f40 f41 (b2 m42_0 m42_1) f43 f44 f47 f48 f49 f50 f51 (bN 13 q54) (bN 120 z55_2) (bN 120 z56_3) z57_4 (bN 120 z58_5) g_49 f60 f64) H ∧ va_D A (mo_w ad ck x0 (nI x16) (nI x18) (nI x19) x20 (nI x21) (nI x22) x23 x24 x25 (nI x26) x27 (nI x28) (nI x29) (nI x30) (nI x33) x45 (nI x46) (nI x52) (nI x53) (nI x61) (nI z62_6) (nI z63_7) (nI x65) x66 f1 f2 f3 (bN 3 q4) (bN 7 q5) (bN 7 q6) (bN 4 q7) f8 (bN 2 q9) (bH q10) f11 (b2 m12_0 m12_1) (b2 m13_0 m13_1) (b2 m14_0 m14_1) (b2m m15_0 m15_1) f17 (bA 159 q31) f32 f34 f35 f36 f37 (bN 7 q38) f39 f40 f41 (b2 m42_0 m42_1) f43 f44 f47 f48 f49 f50 f51 (bN 13 q54) (bN 120 z55_2) (bN 120 z56_3) z57_4 (bN 120 z58_5) g_49 f60 f64) ∧ va_S A s.heap H locs ∧ lv_has ls 5 [(0, .ref (ad 0)), (1, .int g_48), (2, .int (nI g_21)), (3, .int (nI g_36)), (4, .int y_44)]) 122 ?_ (fun j_50 => ?_)
            · rintro H locs ls st ⟨g_48, g_49, rfl, hP, hD, hS, hl⟩
              refine lv_iinc (v := (nI (g_36 + 1))) (lv' := [(3, .int (nI (g_36 + 1))), (0, .ref (ad 0)), (1, .int g_48), (2, .int (nI g_21)), (4, .int y_44)]) hx hb dX9_laysLeast_122 hl (k := 3) rfl (nI_1 _) (by decide) rfl (fun ls hl => ?_)
              refine lv_goto (tgt := 60) hx hb dX9_laysLeast_125 (by decide) ?_
              exact ih_37 (2000 - (g_36 + 1)) (by omega) _ _ _ ⟨g_49, g_48, (g_36 + 1), rfl, (by omega), hP, hD, hS, lv_sub hl [1, 2, 3, 0] rfl⟩
            refine lv_icmp_le (tgt := 122) hx hb dX9_laysLeast_104 (by decide) (fun c_51 => ?_) (fun c_51 => ?_)
            · exact j_50 _ _ _ _ ⟨g_35, g_34, rfl, hP, hD, hS, lv_sub hl [1, 2, 3, 4, 0] rfl⟩
            · refine lv_aload_n hx hb dX9_laysLeast_107 rfl (lv_at hl 1 rfl) ?_
              refine va_get (D := (dC, dI)) (ci := 9) (v := .ref (ad 59)) (C := RX9) (T := TX9) (N := 67) hx hb hts hiX9 hown hK hP 0 rfl rfl 59 (by decide) v_7 (fun _ h9 => h9) rfl dX9_laysLeast_108 ?_
              refine lv_aload_n hx hb dX9_laysLeast_111 rfl (lv_at hl 1 rfl) ?_
              refine va_get (D := (dC, dI)) (ci := 9) (v := .ref (ad 56)) (C := RX9) (T := TX9) (N := 67) hx hb hts hiX9 hown hK hP 0 rfl rfl 56 (by decide) v_15 (fun _ h9 => h9) rfl dX9_laysLeast_112 ?_
              refine lv_iload_n hx hb dX9_laysLeast_115 rfl (lv_at hl 4 rfl) ?_
              refine va_iald hx hb hK hP 37 36 rfl rfl (vp_in_nI (n := g_36) (by omega) (Nat.le_of_ble_eq_true rfl)) dX9_laysLeast_116 ?_
              refine lv_topi (fun y_52 ey_52 => ?_)
              obtain rfl : y_52 = nI u_46 := ey_52.trans qu_46
              refine lv_iload hx hb dX9_laysLeast_117 (lv_at hl 0 rfl) ?_
              refine va_iast hx hb hK hP hD hS 40 39 rfl rfl (vp_in_nI (n := u_46) (Nat.lt_of_le_of_lt hu_46 (Nat.le_of_ble_eq_true rfl)) (Nat.le_of_ble_eq_true rfl)) dX9_laysLeast_119 (fun H locs hP hD hS => ?_)
              have hP : va_P (dC, dI) vwCl (mo_w ad ck x0 (nI x16) (nI x18) (nI x19) x20 (nI x21) (nI x22) x23 x24 x25 (nI x26) x27 (nI x28) (nI x29) (nI x30) (nI x33) x45 (nI x46) (nI x52) (nI x53) (nI x61) (nI z62_6) (nI z63_7) (nI x65) x66 f1 f2 f3 (bN 3 q4) (bN 7 q5) (bN 7 q6) (bN 4 q7) f8 (bN 2 q9) (bH q10) f11 (b2 m12_0 m12_1) (b2 m13_0 m13_1) (b2 m14_0 m14_1) (b2m m15_0 m15_1) f17 (bA 159 q31) f32 f34 f35 f36 f37 (bN 7 q38) f39 f40 f41 (b2 m42_0 m42_1) f43 f44 f47 f48 f49 f50 f51 (bN 13 q54) (bN 120 z55_2) (bN 120 z56_3) z57_4 (bN 120 z58_5) (upd g_34 ((nI u_46) : Int32).toNatClampNeg y_44) f60 f64) H := hP
              have hD : va_D A (mo_w ad ck x0 (nI x16) (nI x18) (nI x19) x20 (nI x21) (nI x22) x23 x24 x25 (nI x26) x27 (nI x28) (nI x29) (nI x30) (nI x33) x45 (nI x46) (nI x52) (nI x53) (nI x61) (nI z62_6) (nI z63_7) (nI x65) x66 f1 f2 f3 (bN 3 q4) (bN 7 q5) (bN 7 q6) (bN 4 q7) f8 (bN 2 q9) (bH q10) f11 (b2 m12_0 m12_1) (b2 m13_0 m13_1) (b2 m14_0 m14_1) (b2m m15_0 m15_1) f17 (bA 159 q31) f32 f34 f35 f36 f37 (bN 7 q38) f39 f40 f41 (b2 m42_0 m42_1) f43 f44 f47 f48 f49 f50 f51 (bN 13 q54) (bN 120 z55_2) (bN 120 z56_3) z57_4 (bN 120 z58_5) (upd g_34 ((nI u_46) : Int32).toNatClampNeg y_44) f60 f64) := hD
              refine lv_iconst (v := 1) hx hb dX9_laysLeast_120 (by decide) ?_
              refine lv_istore_n (lv' := [(1, .int 1), (4, .int y_44), (0, .ref (ad 0)), (2, .int (nI g_21)), (3, .int (nI g_36))]) hx hb dX9_laysLeast_121 rfl hl (by decide) rfl (fun ls hl => ?_)
              exact j_50 _ _ _ _ ⟨1, (upd g_34 ((nI u_46) : Int32).toNatClampNeg y_44), rfl, hP, hD, hS, lv_sub hl [2, 0, 3, 4, 1] rfl⟩
    refine lv_if_ne (tgt := 38) hx hb dX9_laysLeast_31 (by decide) (fun c_54 => ?_) (fun c_54 => ?_)
    · have c_54 : ¬ z63_7 = 0 := fun z => c_54 ((nI_eq (a := z63_7) (b := 0) (Nat.lt_of_le_of_lt hz63_7 (Nat.le_of_ble_eq_true rfl)) (Nat.le_of_ble_eq_true rfl)).mpr z)
      refine lv_iconst (v := 0) hx hb dX9_laysLeast_38 (by decide) ?_
      exact j_15 _ _ _ _ ⟨0, rfl, (Nat.le_of_ble_eq_true rfl), hP, hD, hS, lv_sub hl [0, 1] rfl⟩
    · have c_54 : z63_7 = 0 := (nI_eq (a := z63_7) (b := 0) (Nat.lt_of_le_of_lt hz63_7 (Nat.le_of_ble_eq_true rfl)) (Nat.le_of_ble_eq_true rfl)).mp c_54
      refine lv_iconst (v := 1) hx hb dX9_laysLeast_34 (by decide) ?_
      refine lv_goto (tgt := 39) hx hb dX9_laysLeast_35 (by decide) ?_
      exact j_15 _ _ _ _ ⟨1, rfl, (Nat.le_of_ble_eq_true rfl), hP, hD, hS, lv_sub hl [0, 1] rfl⟩
  · have c_13 : ¬ x61 < g_11 := fun z => c_13 ((nI_ltI (a := x61) (b := g_11) (Nat.lt_of_le_of_lt hx61 (Nat.le_of_ble_eq_true rfl)) (Nat.lt_of_le_of_lt hg_11 (Nat.le_of_ble_eq_true rfl))).mpr z)
    refine lv_aload_n hx hb dX9_laysLeast_14 rfl (lv_at hl 0 rfl) ?_
    refine va_get (D := (dC, dI)) (ci := 9) (v := .ref (ad 59)) (C := RX9) (T := TX9) (N := 67) hx hb hts hiX9 hown hK hP 0 rfl rfl 59 (by decide) v_7 (fun _ h9 => h9) rfl dX9_laysLeast_15 ?_
    refine lv_iload_n hx hb dX9_laysLeast_18 rfl (lv_at hl 1 rfl) ?_
    refine lv_iconst (v := 0) hx hb dX9_laysLeast_19 (by decide) ?_
    refine va_iast hx hb hK hP hD hS 40 39 rfl rfl (vp_in_nI (n := g_11) (Nat.lt_of_le_of_lt hg_11 (Nat.le_of_ble_eq_true rfl)) (Nat.le_of_ble_eq_true rfl)) dX9_laysLeast_20 (fun H locs hP hD hS => ?_)
    have hP : va_P (dC, dI) vwCl (mo_w ad ck x0 (nI x16) (nI x18) (nI x19) x20 (nI x21) (nI x22) x23 x24 x25 (nI x26) x27 (nI x28) (nI x29) (nI x30) (nI x33) x45 (nI x46) (nI x52) (nI x53) (nI x61) (nI z62_6) (nI z63_7) (nI x65) x66 f1 f2 f3 (bN 3 q4) (bN 7 q5) (bN 7 q6) (bN 4 q7) f8 (bN 2 q9) (bH q10) f11 (b2 m12_0 m12_1) (b2 m13_0 m13_1) (b2 m14_0 m14_1) (b2m m15_0 m15_1) f17 (bA 159 q31) f32 f34 f35 f36 f37 (bN 7 q38) f39 f40 f41 (b2 m42_0 m42_1) f43 f44 f47 f48 f49 f50 f51 (bN 13 q54) (bN 120 z55_2) (bN 120 z56_3) z57_4 (bN 120 z58_5) (upd g_10 ((nI g_11) : Int32).toNatClampNeg 0) f60 f64) H := hP
    have hD : va_D A (mo_w ad ck x0 (nI x16) (nI x18) (nI x19) x20 (nI x21) (nI x22) x23 x24 x25 (nI x26) x27 (nI x28) (nI x29) (nI x30) (nI x33) x45 (nI x46) (nI x52) (nI x53) (nI x61) (nI z62_6) (nI z63_7) (nI x65) x66 f1 f2 f3 (bN 3 q4) (bN 7 q5) (bN 7 q6) (bN 4 q7) f8 (bN 2 q9) (bH q10) f11 (b2 m12_0 m12_1) (b2 m13_0 m13_1) (b2 m14_0 m14_1) (b2m m15_0 m15_1) f17 (bA 159 q31) f32 f34 f35 f36 f37 (bN 7 q38) f39 f40 f41 (b2 m42_0 m42_1) f43 f44 f47 f48 f49 f50 f51 (bN 13 q54) (bN 120 z55_2) (bN 120 z56_3) z57_4 (bN 120 z58_5) (upd g_10 ((nI g_11) : Int32).toNatClampNeg 0) f60 f64) := hD
    refine lv_iinc (v := (nI (g_11 + 1))) (lv' := [(1, .int (nI (g_11 + 1))), (0, .ref (ad 0))]) hx hb dX9_laysLeast_21 hl (k := 1) rfl (nI_1 _) (by decide) rfl (fun ls hl => ?_)
    refine lv_goto (tgt := 6) hx hb dX9_laysLeast_24 (by decide) ?_
    exact ih_12 (120 - (g_11 + 1)) (by omega) _ _ _ ⟨(upd g_10 ((nI g_11) : Int32).toNatClampNeg 0), (g_11 + 1), rfl, (by omega), hP, hD, hS, lv_sub hl [1, 0] rfl⟩
theorem dX9_laysGreatest_0 : decode cX9_laysGreatest 0 = .ok (.aload_n 0, 1) := by decide +kernel
theorem dX9_laysGreatest_1 : decode cX9_laysGreatest 1 = .ok (.invokevirtual 444, 3) := by decide +kernel
theorem dX9_laysGreatest_4 : decode cX9_laysGreatest 4 = .ok (.iconst 0, 1) := by decide +kernel
theorem dX9_laysGreatest_5 : decode cX9_laysGreatest 5 = .ok (.istore_n 2, 1) := by decide +kernel
theorem dX9_laysGreatest_6 : decode cX9_laysGreatest 6 = .ok (.iload_n 2, 1) := by decide +kernel
theorem dX9_laysGreatest_7 : decode cX9_laysGreatest 7 = .ok (.aload_n 0, 1) := by decide +kernel
theorem dX9_laysGreatest_8 : decode cX9_laysGreatest 8 = .ok (.getfield 429, 3) := by decide +kernel
theorem dX9_laysGreatest_11 : decode cX9_laysGreatest 11 = .ok (.if_icmp .gt 18, 3) := by decide +kernel
theorem dX9_laysGreatest_14 : decode cX9_laysGreatest 14 = .ok (.aload_n 0, 1) := by decide +kernel
theorem dX9_laysGreatest_15 : decode cX9_laysGreatest 15 = .ok (.getfield 133, 3) := by decide +kernel
theorem dX9_laysGreatest_18 : decode cX9_laysGreatest 18 = .ok (.iload_n 2, 1) := by decide +kernel
theorem dX9_laysGreatest_19 : decode cX9_laysGreatest 19 = .ok (.ldc_w 450, 3) := by decide +kernel
theorem dX9_laysGreatest_22 : decode cX9_laysGreatest 22 = .ok (.iastore, 1) := by decide +kernel
theorem dX9_laysGreatest_23 : decode cX9_laysGreatest 23 = .ok (.iinc 2 1, 3) := by decide +kernel
theorem dX9_laysGreatest_26 : decode cX9_laysGreatest 26 = .ok (.goto (-20), 3) := by decide +kernel
theorem dX9_laysGreatest_29 : decode cX9_laysGreatest 29 = .ok (.aload_n 0, 1) := by decide +kernel
theorem dX9_laysGreatest_30 : decode cX9_laysGreatest 30 = .ok (.getfield 133, 3) := by decide +kernel
theorem dX9_laysGreatest_33 : decode cX9_laysGreatest 33 = .ok (.iconst 0, 1) := by decide +kernel
theorem dX9_laysGreatest_34 : decode cX9_laysGreatest 34 = .ok (.iconst 0, 1) := by decide +kernel
theorem dX9_laysGreatest_35 : decode cX9_laysGreatest 35 = .ok (.iastore, 1) := by decide +kernel
theorem dX9_laysGreatest_36 : decode cX9_laysGreatest 36 = .ok (.aload_n 0, 1) := by decide +kernel
theorem dX9_laysGreatest_37 : decode cX9_laysGreatest 37 = .ok (.getfield 133, 3) := by decide +kernel
theorem dX9_laysGreatest_40 : decode cX9_laysGreatest 40 = .ok (.aload_n 0, 1) := by decide +kernel
theorem dX9_laysGreatest_41 : decode cX9_laysGreatest 41 = .ok (.getfield 429, 3) := by decide +kernel
theorem dX9_laysGreatest_44 : decode cX9_laysGreatest 44 = .ok (.aload_n 0, 1) := by decide +kernel
theorem dX9_laysGreatest_45 : decode cX9_laysGreatest 45 = .ok (.getfield 133, 3) := by decide +kernel
theorem dX9_laysGreatest_48 : decode cX9_laysGreatest 48 = .ok (.aload_n 0, 1) := by decide +kernel
theorem dX9_laysGreatest_49 : decode cX9_laysGreatest 49 = .ok (.getfield 429, 3) := by decide +kernel
theorem dX9_laysGreatest_52 : decode cX9_laysGreatest 52 = .ok (.iaload, 1) := by decide +kernel
theorem dX9_laysGreatest_53 : decode cX9_laysGreatest 53 = .ok (.iload_n 1, 1) := by decide +kernel
theorem dX9_laysGreatest_54 : decode cX9_laysGreatest 54 = .ok (.invokestatic 182, 3) := by decide +kernel
theorem dX9_laysGreatest_57 : decode cX9_laysGreatest 57 = .ok (.iastore, 1) := by decide +kernel
theorem dX9_laysGreatest_58 : decode cX9_laysGreatest 58 = .ok (.aload_n 0, 1) := by decide +kernel
theorem dX9_laysGreatest_59 : decode cX9_laysGreatest 59 = .ok (.getfield 435, 3) := by decide +kernel
theorem dX9_laysGreatest_62 : decode cX9_laysGreatest 62 = .ok (.ifCond .ne 7, 3) := by decide +kernel
theorem dX9_laysGreatest_65 : decode cX9_laysGreatest 65 = .ok (.iconst 1, 1) := by decide +kernel
theorem dX9_laysGreatest_66 : decode cX9_laysGreatest 66 = .ok (.goto 4, 3) := by decide +kernel
theorem dX9_laysGreatest_69 : decode cX9_laysGreatest 69 = .ok (.iconst 0, 1) := by decide +kernel
theorem dX9_laysGreatest_70 : decode cX9_laysGreatest 70 = .ok (.istore_n 2, 1) := by decide +kernel
theorem dX9_laysGreatest_71 : decode cX9_laysGreatest 71 = .ok (.iconst 0, 1) := by decide +kernel
theorem dX9_laysGreatest_72 : decode cX9_laysGreatest 72 = .ok (.istore_n 3, 1) := by decide +kernel
theorem dX9_laysGreatest_73 : decode cX9_laysGreatest 73 = .ok (.iload_n 3, 1) := by decide +kernel
theorem dX9_laysGreatest_74 : decode cX9_laysGreatest 74 = .ok (.aload_n 0, 1) := by decide +kernel
theorem dX9_laysGreatest_75 : decode cX9_laysGreatest 75 = .ok (.getfield 429, 3) := by decide +kernel
theorem dX9_laysGreatest_78 : decode cX9_laysGreatest 78 = .ok (.iconst 1, 1) := by decide +kernel
theorem dX9_laysGreatest_79 : decode cX9_laysGreatest 79 = .ok (.iadd, 1) := by decide +kernel
theorem dX9_laysGreatest_80 : decode cX9_laysGreatest 80 = .ok (.if_icmp .gt 108, 3) := by decide +kernel
theorem dX9_laysGreatest_83 : decode cX9_laysGreatest 83 = .ok (.iload_n 2, 1) := by decide +kernel
theorem dX9_laysGreatest_84 : decode cX9_laysGreatest 84 = .ok (.ifCond .eq 104, 3) := by decide +kernel
theorem dX9_laysGreatest_87 : decode cX9_laysGreatest 87 = .ok (.iconst 0, 1) := by decide +kernel
theorem dX9_laysGreatest_88 : decode cX9_laysGreatest 88 = .ok (.istore_n 2, 1) := by decide +kernel
theorem dX9_laysGreatest_89 : decode cX9_laysGreatest 89 = .ok (.iconst 0, 1) := by decide +kernel
theorem dX9_laysGreatest_90 : decode cX9_laysGreatest 90 = .ok (.istore 4, 2) := by decide +kernel
theorem dX9_laysGreatest_92 : decode cX9_laysGreatest 92 = .ok (.iload 4, 2) := by decide +kernel
theorem dX9_laysGreatest_94 : decode cX9_laysGreatest 94 = .ok (.aload_n 0, 1) := by decide +kernel
theorem dX9_laysGreatest_95 : decode cX9_laysGreatest 95 = .ok (.getfield 432, 3) := by decide +kernel
theorem dX9_laysGreatest_98 : decode cX9_laysGreatest 98 = .ok (.if_icmp .ge 84, 3) := by decide +kernel
theorem dX9_laysGreatest_101 : decode cX9_laysGreatest 101 = .ok (.aload_n 0, 1) := by decide +kernel
theorem dX9_laysGreatest_102 : decode cX9_laysGreatest 102 = .ok (.getfield 133, 3) := by decide +kernel
theorem dX9_laysGreatest_105 : decode cX9_laysGreatest 105 = .ok (.aload_n 0, 1) := by decide +kernel
theorem dX9_laysGreatest_106 : decode cX9_laysGreatest 106 = .ok (.getfield 124, 3) := by decide +kernel
theorem dX9_laysGreatest_109 : decode cX9_laysGreatest 109 = .ok (.iload 4, 2) := by decide +kernel
theorem dX9_laysGreatest_111 : decode cX9_laysGreatest 111 = .ok (.iaload, 1) := by decide +kernel
theorem dX9_laysGreatest_112 : decode cX9_laysGreatest 112 = .ok (.iaload, 1) := by decide +kernel
theorem dX9_laysGreatest_113 : decode cX9_laysGreatest 113 = .ok (.istore 5, 2) := by decide +kernel
theorem dX9_laysGreatest_115 : decode cX9_laysGreatest 115 = .ok (.iload 5, 2) := by decide +kernel
theorem dX9_laysGreatest_117 : decode cX9_laysGreatest 117 = .ok (.ldc_w 450, 3) := by decide +kernel
theorem dX9_laysGreatest_120 : decode cX9_laysGreatest 120 = .ok (.if_icmp .ne 8, 3) := by decide +kernel
theorem dX9_laysGreatest_123 : decode cX9_laysGreatest 123 = .ok (.iload 5, 2) := by decide +kernel
theorem dX9_laysGreatest_125 : decode cX9_laysGreatest 125 = .ok (.goto 16, 3) := by decide +kernel
theorem dX9_laysGreatest_128 : decode cX9_laysGreatest 128 = .ok (.iload 5, 2) := by decide +kernel
theorem dX9_laysGreatest_130 : decode cX9_laysGreatest 130 = .ok (.aload_n 0, 1) := by decide +kernel
theorem dX9_laysGreatest_131 : decode cX9_laysGreatest 131 = .ok (.getfield 127, 3) := by decide +kernel
theorem dX9_laysGreatest_134 : decode cX9_laysGreatest 134 = .ok (.iload 4, 2) := by decide +kernel
theorem dX9_laysGreatest_136 : decode cX9_laysGreatest 136 = .ok (.iaload, 1) := by decide +kernel
theorem dX9_laysGreatest_137 : decode cX9_laysGreatest 137 = .ok (.invokestatic 447, 3) := by decide +kernel
theorem dX9_laysGreatest_140 : decode cX9_laysGreatest 140 = .ok (.iadd, 1) := by decide +kernel
theorem dX9_laysGreatest_141 : decode cX9_laysGreatest 141 = .ok (.istore 6, 2) := by decide +kernel
theorem dX9_laysGreatest_143 : decode cX9_laysGreatest 143 = .ok (.iload 6, 2) := by decide +kernel
theorem dX9_laysGreatest_145 : decode cX9_laysGreatest 145 = .ok (.aload_n 0, 1) := by decide +kernel
theorem dX9_laysGreatest_146 : decode cX9_laysGreatest 146 = .ok (.getfield 133, 3) := by decide +kernel
theorem dX9_laysGreatest_149 : decode cX9_laysGreatest 149 = .ok (.aload_n 0, 1) := by decide +kernel
theorem dX9_laysGreatest_150 : decode cX9_laysGreatest 150 = .ok (.getfield 121, 3) := by decide +kernel
theorem dX9_laysGreatest_153 : decode cX9_laysGreatest 153 = .ok (.iload 4, 2) := by decide +kernel
theorem dX9_laysGreatest_155 : decode cX9_laysGreatest 155 = .ok (.iaload, 1) := by decide +kernel
theorem dX9_laysGreatest_156 : decode cX9_laysGreatest 156 = .ok (.iaload, 1) := by decide +kernel
theorem dX9_laysGreatest_157 : decode cX9_laysGreatest 157 = .ok (.if_icmp .ge 19, 3) := by decide +kernel
theorem dX9_laysGreatest_160 : decode cX9_laysGreatest 160 = .ok (.aload_n 0, 1) := by decide +kernel
theorem dX9_laysGreatest_161 : decode cX9_laysGreatest 161 = .ok (.getfield 133, 3) := by decide +kernel
theorem dX9_laysGreatest_164 : decode cX9_laysGreatest 164 = .ok (.aload_n 0, 1) := by decide +kernel
theorem dX9_laysGreatest_165 : decode cX9_laysGreatest 165 = .ok (.getfield 121, 3) := by decide +kernel
theorem dX9_laysGreatest_168 : decode cX9_laysGreatest 168 = .ok (.iload 4, 2) := by decide +kernel
theorem dX9_laysGreatest_170 : decode cX9_laysGreatest 170 = .ok (.iaload, 1) := by decide +kernel
theorem dX9_laysGreatest_171 : decode cX9_laysGreatest 171 = .ok (.iload 6, 2) := by decide +kernel
theorem dX9_laysGreatest_173 : decode cX9_laysGreatest 173 = .ok (.iastore, 1) := by decide +kernel
theorem dX9_laysGreatest_174 : decode cX9_laysGreatest 174 = .ok (.iconst 1, 1) := by decide +kernel
theorem dX9_laysGreatest_175 : decode cX9_laysGreatest 175 = .ok (.istore_n 2, 1) := by decide +kernel
theorem dX9_laysGreatest_176 : decode cX9_laysGreatest 176 = .ok (.iinc 4 1, 3) := by decide +kernel
theorem dX9_laysGreatest_179 : decode cX9_laysGreatest 179 = .ok (.goto (-87), 3) := by decide +kernel
theorem dX9_laysGreatest_182 : decode cX9_laysGreatest 182 = .ok (.iinc 3 1, 3) := by decide +kernel
theorem dX9_laysGreatest_185 : decode cX9_laysGreatest 185 = .ok (.goto (-112), 3) := by decide +kernel
theorem dX9_laysGreatest_188 : decode cX9_laysGreatest 188 = .ok (.aload_n 0, 1) := by decide +kernel
theorem dX9_laysGreatest_189 : decode cX9_laysGreatest 189 = .ok (.getfield 435, 3) := by decide +kernel
theorem dX9_laysGreatest_192 : decode cX9_laysGreatest 192 = .ok (.ifCond .ne 20, 3) := by decide +kernel
theorem dX9_laysGreatest_195 : decode cX9_laysGreatest 195 = .ok (.iload_n 2, 1) := by decide +kernel
theorem dX9_laysGreatest_196 : decode cX9_laysGreatest 196 = .ok (.ifCond .ne 16, 3) := by decide +kernel
theorem dX9_laysGreatest_199 : decode cX9_laysGreatest 199 = .ok (.aload_n 0, 1) := by decide +kernel
theorem dX9_laysGreatest_200 : decode cX9_laysGreatest 200 = .ok (.getfield 133, 3) := by decide +kernel
theorem dX9_laysGreatest_203 : decode cX9_laysGreatest 203 = .ok (.iconst 0, 1) := by decide +kernel
theorem dX9_laysGreatest_204 : decode cX9_laysGreatest 204 = .ok (.iaload, 1) := by decide +kernel
theorem dX9_laysGreatest_205 : decode cX9_laysGreatest 205 = .ok (.ifCond .ne 7, 3) := by decide +kernel
theorem dX9_laysGreatest_208 : decode cX9_laysGreatest 208 = .ok (.iconst 1, 1) := by decide +kernel
theorem dX9_laysGreatest_209 : decode cX9_laysGreatest 209 = .ok (.goto 4, 3) := by decide +kernel
theorem dX9_laysGreatest_212 : decode cX9_laysGreatest 212 = .ok (.iconst 0, 1) := by decide +kernel
theorem dX9_laysGreatest_213 : decode cX9_laysGreatest 213 = .ok (.ireturn, 1) := by decide +kernel
abbrev vs_M_laysGreatest : List Cond := .code yX9_laysGreatest cX9_laysGreatest 7 (some .boolean) :: VM
theorem g_M_laysGreatest_X9_lesser : GoodIn vs_M_laysGreatest (va_wsS RX9 182 yX9_lesser vs_X9_lesser) := gm_0 (fun w h => by
  rcases List.mem_cons.mp h with rfl | h
  · exact vm_10
  rcases List.mem_cons.mp h with rfl | h
  · exact vm_11
  rcases List.mem_cons.mp h with rfl | h
  · exact vm_12
  rcases List.mem_cons.mp h with rfl | h
  · exact vm_3
  exact absurd h (List.not_mem_nil))
theorem g_M_laysGreatest_X9_timesOf : GoodIn vs_M_laysGreatest (va_wsS RX9 447 yX9_timesOf vs_X9_timesOf) := gm_0 (fun w h => by
  rcases List.mem_cons.mp h with rfl | h
  · exact vm_348
  rcases List.mem_cons.mp h with rfl | h
  · exact vm_349
  rcases List.mem_cons.mp h with rfl | h
  · exact vm_12
  rcases List.mem_cons.mp h with rfl | h
  · exact vm_7
  exact absurd h (List.not_mem_nil))
theorem g_M_laysGreatest_M_layGaps : GoodIn vs_M_laysGreatest (wsV RX9 444 RX9 yX9_layGaps vs_M_layGaps) := gm_V vm_344 vm_345 vm_346 vm_12 vm_339
set_option maxHeartbeats 4000000 in
set_option maxRecDepth 100000 in
theorem c_M_laysGreatest (l : Launch) (dC : Nat → ClassId) (dI : Nat → Nat → Nat) (sz : Nat) (ad : Nat → Nat) (ck : Nat → ClassId) (x0 : Int32) (x16 : Nat) (x18 : Nat) (x19 : Nat) (x20 : Int32) (x21 : Nat) (x22 : Nat) (x23 : Int32) (x24 : Int32) (x25 : Int32) (x26 : Nat) (x27 : Int32) (x28 : Nat) (x29 : Nat) (x30 : Nat) (x33 : Nat) (x45 : Int32) (x46 : Nat) (x52 : Nat) (x53 : Nat) (x61 : Nat) (x62 : Nat) (x63 : Nat) (x65 : Nat) (x66 : Int32) (f1 : Nat → Int32) (f2 : Nat → Int32) (f3 : Nat → Int32) (q4 : Nat → Nat) (q5 : Nat → Nat) (q6 : Nat → Nat) (q7 : Nat → Nat) (f8 : Nat → Int32) (q9 : Nat → Nat) (q10 : Nat → Nat) (f11 : Nat → Int32) (m12_0 m12_1 : Nat) (m13_0 m13_1 : Nat) (m14_0 m14_1 : Nat) (m15_0 m15_1 : Nat) (f17 : Nat → Int32) (q31 : Nat → Nat) (f32 : Nat → Int32) (f34 : Nat → Int32) (f35 : Nat → Int32) (f36 : Nat → Int32) (f37 : Nat → Int32) (q38 : Nat → Nat) (f39 : Nat → Int32) (f40 : Nat → Int32) (f41 : Nat → Int32) (m42_0 m42_1 : Nat) (f43 : Nat → Int32) (f44 : Nat → Int32) (f47 : Nat → Int32) (f48 : Nat → Int32) (f49 : Nat → Int32) (f50 : Nat → Int32) (f51 : Nat → Int32) (q54 : Nat → Nat) (q55 : Nat → Nat) (q56 : Nat → Nat) (f57 : Nat → Int32) (q58 : Nat → Nat) (f59 : Nat → Int32) (f60 : Nat → Int32) (f64 : Nat → Int32) (p0 : Int32) (hx16 : x16 ≤ 1) (hx18 : x18 ≤ 900) (hx19 : x19 ≤ 900) (hx21 : x21 ≤ 900) (hx22 : x22 ≤ 4) (hx26 : x26 ≤ 6) (hx28 : x28 ≤ 1) (hx29 : x29 ≤ 1) (hx30 : x30 ≤ 1) (hx33 : x33 ≤ 20) (hx46 : x46 ≤ 5) (hx52 : x52 ≤ 2400) (hx53 : x53 ≤ 119) (hx61 : x61 ≤ 119) (hx62 : x62 ≤ 2000) (hx63 : x63 ≤ 1) (hx65 : x65 ≤ 7) (hm12_0 : m12_0 ≤ 3) (hm12_1 : m12_1 ≤ 3) (hm13_0 : m13_0 ≤ 8) (hm13_1 : m13_1 ≤ 8) (hm14_0 : m14_0 ≤ 14) (hm14_1 : m14_1 ≤ 14) (hm15_0 : m15_0 ≤ 8) (hm15_1 : m15_1 ≤ 8) (hm42_0 : m42_0 ≤ 120) (hm42_1 : m42_1 ≤ 400) (hbg : (x16 = 0 ∧ (m13_0 = 0 ∨ 1 ≤ m15_0)) ∨ (x16 = 1 ∧ (m13_1 = 0 ∨ 1 ≤ m15_1))) : Met l yX9_laysGreatest vs_M_laysGreatest ({ frames := 5, cells := 0, slots := 0, locals := 112 }) (va_Pc [.ref (ad 0), .int p0] (pu_B (dC, dI) (mo_w ad ck x0 (nI x16) (nI x18) (nI x19) x20 (nI x21) (nI x22) x23 x24 x25 (nI x26) x27 (nI x28) (nI x29) (nI x30) (nI x33) x45 (nI x46) (nI x52) (nI x53) (nI x61) (nI x62) (nI x63) (nI x65) x66 f1 f2 f3 (bN 3 q4) (bN 7 q5) (bN 7 q6) (bN 4 q7) f8 (bN 2 q9) (bH q10) f11 (b2 m12_0 m12_1) (b2 m13_0 m13_1) (b2 m14_0 m14_1) (b2m m15_0 m15_1) f17 (bA 159 q31) f32 f34 f35 f36 f37 (bN 7 q38) f39 f40 f41 (b2 m42_0 m42_1) f43 f44 f47 f48 f49 f50 f51 (bN 13 q54) (bN 120 q55) (bN 120 q56) f57 (bN 120 q58) f59 f60 f64) (mo_t ck) sz)) (va_Qi (fun (r : Int32) (_ : Unit) => ∃ v : Nat, v ≤ 1 ∧ r = nI v) (fun _ t => ∃ (z55 : Nat → Nat) (z56 : Nat → Nat) (z57 : Nat → Int32) (z58 : Nat → Nat) (z59 : Nat → Int32) (z62 : Nat) (z63 : Nat), pu_E (dC, dI) (mo_w ad ck x0 (nI x16) (nI x18) (nI x19) x20 (nI x21) (nI x22) x23 x24 x25 (nI x26) x27 (nI x28) (nI x29) (nI x30) (nI x33) x45 (nI x46) (nI x52) (nI x53) (nI x61) (nI z62) (nI z63) (nI x65) x66 f1 f2 f3 (bN 3 q4) (bN 7 q5) (bN 7 q6) (bN 4 q7) f8 (bN 2 q9) (bH q10) f11 (b2 m12_0 m12_1) (b2 m13_0 m13_1) (b2 m14_0 m14_1) (b2m m15_0 m15_1) f17 (bA 159 q31) f32 f34 f35 f36 f37 (bN 7 q38) f39 f40 f41 (b2 m42_0 m42_1) f43 f44 f47 f48 f49 f50 f51 (bN 13 q54) (bN 120 z55) (bN 120 z56) z57 (bN 120 z58) z59 f60 f64) (mo_t ck) (va_A ((mo_w ad ck x0 (nI x16) (nI x18) (nI x19) x20 (nI x21) (nI x22) x23 x24 x25 (nI x26) x27 (nI x28) (nI x29) (nI x30) (nI x33) x45 (nI x46) (nI x52) (nI x53) (nI x61) (nI x62) (nI x63) (nI x65) x66 f1 f2 f3 (bN 3 q4) (bN 7 q5) (bN 7 q6) (bN 4 q7) f8 (bN 2 q9) (bH q10) f11 (b2 m12_0 m12_1) (b2 m13_0 m13_1) (b2 m14_0 m14_1) (b2m m15_0 m15_1) f17 (bA 159 q31) f32 f34 f35 f36 f37 (bN 7 q38) f39 f40 f41 (b2 m42_0 m42_1) f43 f44 f47 f48 f49 f50 f51 (bN 13 q54) (bN 120 q55) (bN 120 q56) f57 (bN 120 q58) f59 f60 f64)) sz) t ∧ (z62 ≤ 2000) ∧ (z63 ≤ 1)) (va_A ((mo_w ad ck x0 (nI x16) (nI x18) (nI x19) x20 (nI x21) (nI x22) x23 x24 x25 (nI x26) x27 (nI x28) (nI x29) (nI x30) (nI x33) x45 (nI x46) (nI x52) (nI x53) (nI x61) (nI x62) (nI x63) (nI x65) x66 f1 f2 f3 (bN 3 q4) (bN 7 q5) (bN 7 q6) (bN 4 q7) f8 (bN 2 q9) (bH q10) f11 (b2 m12_0 m12_1) (b2 m13_0 m13_1) (b2 m14_0 m14_1) (b2m m15_0 m15_1) f17 (bA 159 q31) f32 f34 f35 f36 f37 (bN 7 q38) f39 f40 f41 (b2 m42_0 m42_1) f43 f44 f47 f48 f49 f50 f51 (bN 13 q54) (bN 120 q55) (bN 120 q56) f57 (bN 120 q58) f59 f60 f64)) sz)) 0 0 (va_A ((mo_w ad ck x0 (nI x16) (nI x18) (nI x19) x20 (nI x21) (nI x22) x23 x24 x25 (nI x26) x27 (nI x28) (nI x29) (nI x30) (nI x33) x45 (nI x46) (nI x52) (nI x53) (nI x61) (nI x62) (nI x63) (nI x65) x66 f1 f2 f3 (bN 3 q4) (bN 7 q5) (bN 7 q6) (bN 4 q7) f8 (bN 2 q9) (bH q10) f11 (b2 m12_0 m12_1) (b2 m13_0 m13_1) (b2 m14_0 m14_1) (b2m m15_0 m15_1) f17 (bA 159 q31) f32 f34 f35 f36 f37 (bN 7 q38) f39 f40 f41 (b2 m42_0 m42_1) f43 f44 f47 f48 f49 f50 f51 (bN 13 q54) (bN 120 q55) (bN 120 q56) f57 (bN 120 q58) f59 f60 f64)) sz) := by
  refine Met.ofW (cc := cX9_laysGreatest) (maxL := 7) (ret := (some .boolean)) (by decide) rfl ?_
  intro p e s m args below meth c s₁ B hml hv
  obtain ⟨rfl, rfl, hP, hK, hD0⟩ := hv
  have hx := B.exec
  have hb := B.bytes
  have hr := B.returns
  have hts := atoms_spec (ws := vs_M_laysGreatest) B.pre
  have v_6 := hts (.fieldLink RX9 429 "ClockReachModel" "pathMany" "I") (List.mem_cons_of_mem _ vm_326)
  have v_7 := hts (.fieldLink RX9 133 "ClockReachModel" "time" "[I") (List.mem_cons_of_mem _ vm_347)
  have v_8 := hts (.constant RX9 450 (1073741824)) (List.mem_cons_of_mem _ vm_351)
  have v_12 := hts (.fieldLink RX9 435 "ClockReachModel" "isBroken" "Z") (List.mem_cons_of_mem _ vm_338)
  have v_13 := hts (.fieldLink RX9 432 "ClockReachModel" "gaps" "I") (List.mem_cons_of_mem _ vm_330)
  have v_14 := hts (.fieldLink RX9 124 "ClockReachModel" "sooner" "[I") (List.mem_cons_of_mem _ vm_331)
  have v_15 := hts (.fieldLink RX9 127 "ClockReachModel" "gap" "[I") (List.mem_cons_of_mem _ vm_332)
  have v_19 := hts (.fieldLink RX9 121 "ClockReachModel" "later" "[I") (List.mem_cons_of_mem _ vm_329)
  have hown : s.vm.findClass RX9 = some m.cls := findClass_of_methodNamed B.named
  have hlocks := B.notSynchronized
  have hiX9 : ∀ w ∈ wsX90, w ∈ vs_M_laysGreatest := fun _ h => List.mem_cons_of_mem _ (List.mem_append_right _ h)
  have hD := hD0.self (sz := s.heap.size)
  generalize hAe : va_A ((mo_w ad ck x0 (nI x16) (nI x18) (nI x19) x20 (nI x21) (nI x22) x23 x24 x25 (nI x26) x27 (nI x28) (nI x29) (nI x30) (nI x33) x45 (nI x46) (nI x52) (nI x53) (nI x61) (nI x62) (nI x63) (nI x65) x66 f1 f2 f3 (bN 3 q4) (bN 7 q5) (bN 7 q6) (bN 4 q7) f8 (bN 2 q9) (bH q10) f11 (b2 m12_0 m12_1) (b2 m13_0 m13_1) (b2 m14_0 m14_1) (b2m m15_0 m15_1) f17 (bA 159 q31) f32 f34 f35 f36 f37 (bN 7 q38) f39 f40 f41 (b2 m42_0 m42_1) f43 f44 f47 f48 f49 f50 f51 (bN 13 q54) (bN 120 q55) (bN 120 q56) f57 (bN 120 q58) f59 f60 f64)) s.heap.size = A at hD ⊢
  have hA : ∀ q : Nat, s.heap.size ≤ q → A q := fun q h => by rw [← hAe]; exact Or.inr h
  have hS : va_S A s.heap s.heap [] := va_S.rf
  have hl := lv_entry ([.ref (ad 0), .int p0]) (n := 7) (Nat.le_of_ble_eq_true rfl)
  rw [lg_entry_eq]
  generalize (lg_sl ([.ref (ad 0), .int p0]) ++ List.replicate (7 - (lg_sl ([.ref (ad 0), .int p0])).length) Slot.unset).toArray = ls at hl ⊢
  have hl : lv_has ls 7 [(0, .ref (ad 0)), (1, .int p0)] := hl
  refine lv_aload_n hx hb dX9_laysGreatest_0 rfl (lv_at hl 0 rfl) ?_
  have hFc := pu_free hD hS hA
  refine va_callv (va_runV (As := []) (rest := []) ⟨hx, hb, hml, hown, hts⟩ (c_M_layGaps l dC dI _ ad ck x0 x16 x18 x19 x20 x21 x22 x23 x24 x25 x26 x27 x28 x29 x30 x33 x45 x46 x52 x53 x61 x62 x63 x65 x66 f1 f2 f3 q4 q5 q6 q7 f8 q9 q10 f11 m12_0 m12_1 m13_0 m13_1 m14_0 m14_1 m15_0 m15_1 f17 q31 f32 f34 f35 f36 f37 q38 f39 f40 f41 m42_0 m42_1 f43 f44 f47 f48 f49 f50 f51 q54 q55 q56 f57 q58 f59 f60 f64 hx16 hx18 hx19 hx21 hx22 hx26 hx28 hx29 hx30 hx33 hx46 hx52 hx53 hx61 hx62 hx63 hx65 hm12_0 hm12_1 hm13_0 hm13_1 hm14_0 hm14_1 hm15_0 hm15_1 hm42_0 hm42_1 (by first | assumption | omega)) (cwV 0 hts g_M_laysGreatest_M_layGaps rfl rfl rfl (by decide +kernel) ⟨Nat.le_of_ble_eq_true rfl, Nat.le_of_ble_eq_true rfl⟩) ⟨pu_bl, va_recv hK hP (ci := 9) (q0 := 0) rfl rfl, pu_in hP hK hD⟩ rfl rfl hl.1 rfl (lv_room (Nat.le_of_ble_eq_true rfl)) dX9_laysGreatest_1 ⟨Nat.le_of_ble_eq_true rfl, Nat.le_of_ble_eq_true rfl⟩) hS (fun q _ h => hFc q h) hFc (fun u t H1 locs ht hvm hw hB hz1 hk1 hS => ?_)
  obtain ⟨z55_2, z56_3, z57_4, z58_5, z62_6, z63_7, ⟨hP1, -, hD1⟩, hz62_6, hz63_7⟩ := hB
  rw [ht] at hP1
  have hP := hP1
  have hD := pu_all hFc hD1
  clear hP1 hD1 hFc
  clear hk1 hz1 ht hvm
  generalize H1 = H at hP hS ⊢
  refine lv_iconst (v := 0) hx hb dX9_laysGreatest_4 (by decide) ?_
  refine lv_istore_n (lv' := [(2, .int 0), (0, .ref (ad 0)), (1, .int p0)]) hx hb dX9_laysGreatest_5 rfl hl (by decide) rfl (fun ls hl => ?_)
  refine pu_while (fun nn H locs ls => ∃ (g_10 : Nat → Int32) (g_11 : Nat), nn = 120 - g_11 ∧ g_11 ≤ 120 ∧ va_P (dC, dI) vwCl (mo_w ad ck x0 (nI x16) (nI x18) (nI x19) x20 (nI x21) (nI x22) x23 x24 x25 (nI x26) x27 (nI x28) (nI x29) (nI x30) (nI x33) x45 (nI x46) (nI x52) (nI x53) (nI x61) (nI z62_6) (nI z63_7) (nI x65) x66 f1 f2 f3 (bN 3 q4) (bN 7 q5) (bN 7 q6) (bN 4 q7) f8 (bN 2 q9) (bH q10) f11 (b2 m12_0 m12_1) (b2 m13_0 m13_1) (b2 m14_0 m14_1) (b2m m15_0 m15_1) f17 (bA 159 q31) f32 f34 f35 f36 f37 (bN 7 q38) f39 f40 f41 (b2 m42_0 m42_1) f43 f44 f47 f48 f49 f50 f51 (bN 13 q54) (bN 120 z55_2) (bN 120 z56_3) z57_4 (bN 120 z58_5) g_10 f60 f64) H ∧ va_D A (mo_w ad ck x0 (nI x16) (nI x18) (nI x19) x20 (nI x21) (nI x22) x23 x24 x25 (nI x26) x27 (nI x28) (nI x29) (nI x30) (nI x33) x45 (nI x46) (nI x52) (nI x53) (nI x61) (nI z62_6) (nI z63_7) (nI x65) x66 f1 f2 f3 (bN 3 q4) (bN 7 q5) (bN 7 q6) (bN 4 q7) f8 (bN 2 q9) (bH q10) f11 (b2 m12_0 m12_1) (b2 m13_0 m13_1) (b2 m14_0 m14_1) (b2m m15_0 m15_1) f17 (bA 159 q31) f32 f34 f35 f36 f37 (bN 7 q38) f39 f40 f41 (b2 m42_0 m42_1) f43 f44 f47 f48 f49 f50 f51 (bN 13 q54) (bN 120 z55_2) (bN 120 z56_3) z57_4 (bN 120 z58_5) g_10 f60 f64) ∧ va_S A s.heap H locs ∧ lv_has ls 7 [(0, .ref (ad 0)), (1, .int p0), (2, .int (nI g_11))]) 6 ?_ _ _ _ _ ⟨f59, 0, rfl, (Nat.le_of_ble_eq_true rfl), hP, hD, hS, lv_sub hl [1, 2, 0] rfl⟩
  rintro nn ih_12 H locs ls ⟨g_10, g_11, rfl, hg_11, hP, hD, hS, hl⟩
  refine lv_iload_n hx hb dX9_laysGreatest_6 rfl (lv_at hl 2 rfl) ?_
  refine lv_aload_n hx hb dX9_laysGreatest_7 rfl (lv_at hl 0 rfl) ?_
  refine va_get (D := (dC, dI)) (ci := 9) (v := .int (nI x61)) (C := RX9) (T := TX9) (N := 67) hx hb hts hiX9 hown hK hP 0 rfl rfl 61 (by decide) v_6 (fun _ h9 => h9) rfl dX9_laysGreatest_8 ?_
  refine lv_icmp_gt (tgt := 29) hx hb dX9_laysGreatest_11 (by decide) (fun c_13 => ?_) (fun c_13 => ?_)
  · have c_13 : x61 < g_11 := (nI_ltI (a := x61) (b := g_11) (Nat.lt_of_le_of_lt hx61 (Nat.le_of_ble_eq_true rfl)) (Nat.lt_of_le_of_lt hg_11 (Nat.le_of_ble_eq_true rfl))).mp c_13
    refine lv_aload_n hx hb dX9_laysGreatest_29 rfl (lv_at hl 0 rfl) ?_
    refine va_get (D := (dC, dI)) (ci := 9) (v := .ref (ad 59)) (C := RX9) (T := TX9) (N := 67) hx hb hts hiX9 hown hK hP 0 rfl rfl 59 (by decide) v_7 (fun _ h9 => h9) rfl dX9_laysGreatest_30 ?_
    refine lv_iconst (v := 0) hx hb dX9_laysGreatest_33 (by decide) ?_
    refine lv_iconst (v := 0) hx hb dX9_laysGreatest_34 (by decide) ?_
    refine va_iast hx hb hK hP hD hS 40 39 rfl rfl (vp_in_nI (n := 0) (Nat.le_of_ble_eq_true rfl) (Nat.le_of_ble_eq_true rfl)) dX9_laysGreatest_35 (fun H locs hP hD hS => ?_)
    have hP : va_P (dC, dI) vwCl (mo_w ad ck x0 (nI x16) (nI x18) (nI x19) x20 (nI x21) (nI x22) x23 x24 x25 (nI x26) x27 (nI x28) (nI x29) (nI x30) (nI x33) x45 (nI x46) (nI x52) (nI x53) (nI x61) (nI z62_6) (nI z63_7) (nI x65) x66 f1 f2 f3 (bN 3 q4) (bN 7 q5) (bN 7 q6) (bN 4 q7) f8 (bN 2 q9) (bH q10) f11 (b2 m12_0 m12_1) (b2 m13_0 m13_1) (b2 m14_0 m14_1) (b2m m15_0 m15_1) f17 (bA 159 q31) f32 f34 f35 f36 f37 (bN 7 q38) f39 f40 f41 (b2 m42_0 m42_1) f43 f44 f47 f48 f49 f50 f51 (bN 13 q54) (bN 120 z55_2) (bN 120 z56_3) z57_4 (bN 120 z58_5) (upd g_10 (0 : Int32).toNatClampNeg 0) f60 f64) H := hP
    have hD : va_D A (mo_w ad ck x0 (nI x16) (nI x18) (nI x19) x20 (nI x21) (nI x22) x23 x24 x25 (nI x26) x27 (nI x28) (nI x29) (nI x30) (nI x33) x45 (nI x46) (nI x52) (nI x53) (nI x61) (nI z62_6) (nI z63_7) (nI x65) x66 f1 f2 f3 (bN 3 q4) (bN 7 q5) (bN 7 q6) (bN 4 q7) f8 (bN 2 q9) (bH q10) f11 (b2 m12_0 m12_1) (b2 m13_0 m13_1) (b2 m14_0 m14_1) (b2m m15_0 m15_1) f17 (bA 159 q31) f32 f34 f35 f36 f37 (bN 7 q38) f39 f40 f41 (b2 m42_0 m42_1) f43 f44 f47 f48 f49 f50 f51 (bN 13 q54) (bN 120 z55_2) (bN 120 z56_3) z57_4 (bN 120 z58_5) (upd g_10 (0 : Int32).toNatClampNeg 0) f60 f64) := hD
    refine lv_aload_n hx hb dX9_laysGreatest_36 rfl (lv_at hl 0 rfl) ?_
    refine va_get (D := (dC, dI)) (ci := 9) (v := .ref (ad 59)) (C := RX9) (T := TX9) (N := 67) hx hb hts hiX9 hown hK hP 0 rfl rfl 59 (by decide) v_7 (fun _ h9 => h9) rfl dX9_laysGreatest_37 ?_
    refine lv_aload_n hx hb dX9_laysGreatest_40 rfl (lv_at hl 0 rfl) ?_
    refine va_get (D := (dC, dI)) (ci := 9) (v := .int (nI x61)) (C := RX9) (T := TX9) (N := 67) hx hb hts hiX9 hown hK hP 0 rfl rfl 61 (by decide) v_6 (fun _ h9 => h9) rfl dX9_laysGreatest_41 ?_
    refine lv_aload_n hx hb dX9_laysGreatest_44 rfl (lv_at hl 0 rfl) ?_
    refine va_get (D := (dC, dI)) (ci := 9) (v := .ref (ad 59)) (C := RX9) (T := TX9) (N := 67) hx hb hts hiX9 hown hK hP 0 rfl rfl 59 (by decide) v_7 (fun _ h9 => h9) rfl dX9_laysGreatest_45 ?_
    refine lv_aload_n hx hb dX9_laysGreatest_48 rfl (lv_at hl 0 rfl) ?_
    refine va_get (D := (dC, dI)) (ci := 9) (v := .int (nI x61)) (C := RX9) (T := TX9) (N := 67) hx hb hts hiX9 hown hK hP 0 rfl rfl 61 (by decide) v_6 (fun _ h9 => h9) rfl dX9_laysGreatest_49 ?_
    refine va_iald hx hb hK hP 40 39 rfl rfl (vp_in_nI (n := x61) (Nat.lt_of_le_of_lt hx61 (Nat.le_of_ble_eq_true rfl)) (Nat.le_of_ble_eq_true rfl)) dX9_laysGreatest_52 ?_
    refine lv_topi (fun y_14 ey_14 => ?_)
    refine lv_iload_n hx hb dX9_laysGreatest_53 rfl (lv_at hl 1 rfl) ?_
    refine va_calli (va_runS (As := [.int y_14, .int p0]) (rest := [.int (nI x61), .ref (ad 59)]) ⟨hx, hb, hml, hown, hts⟩ (c_X9_lesser l dC dI _ y_14 p0) (va_cwS 2 hts g_M_laysGreatest_X9_lesser rfl rfl rfl (by decide +kernel) ⟨Nat.le_of_ble_eq_true rfl, Nat.le_of_ble_eq_true rfl⟩) ⟨pu_bl, pu_in (hP.sub [] rfl) (hK.sub [] rfl) (hD.sub [] (by decide) rfl)⟩ rfl rfl hl.1 rfl (lv_room (Nat.le_of_ble_eq_true rfl)) dX9_laysGreatest_54 ⟨Nat.le_of_ble_eq_true rfl, Nat.le_of_ble_eq_true rfl⟩) hS (fun q _ h => pu_fr hS hA q h) (pu_fr hS hA) (fun r_15 u t H1 locs ht hvm hw hB hz1 hk1 hS => ?_)
    have hP := pu_keep hP hk1
    clear hk1 hz1 ht hvm
    generalize H1 = H at hP hS ⊢
    clear hw
    refine va_iast hx hb hK hP hD hS 40 39 rfl rfl (vp_in_nI (n := x61) (Nat.lt_of_le_of_lt hx61 (Nat.le_of_ble_eq_true rfl)) (Nat.le_of_ble_eq_true rfl)) dX9_laysGreatest_57 (fun H locs hP hD hS => ?_)
    have hP : va_P (dC, dI) vwCl (mo_w ad ck x0 (nI x16) (nI x18) (nI x19) x20 (nI x21) (nI x22) x23 x24 x25 (nI x26) x27 (nI x28) (nI x29) (nI x30) (nI x33) x45 (nI x46) (nI x52) (nI x53) (nI x61) (nI z62_6) (nI z63_7) (nI x65) x66 f1 f2 f3 (bN 3 q4) (bN 7 q5) (bN 7 q6) (bN 4 q7) f8 (bN 2 q9) (bH q10) f11 (b2 m12_0 m12_1) (b2 m13_0 m13_1) (b2 m14_0 m14_1) (b2m m15_0 m15_1) f17 (bA 159 q31) f32 f34 f35 f36 f37 (bN 7 q38) f39 f40 f41 (b2 m42_0 m42_1) f43 f44 f47 f48 f49 f50 f51 (bN 13 q54) (bN 120 z55_2) (bN 120 z56_3) z57_4 (bN 120 z58_5) (upd (upd g_10 (0 : Int32).toNatClampNeg 0) ((nI x61) : Int32).toNatClampNeg r_15) f60 f64) H := hP
    have hD : va_D A (mo_w ad ck x0 (nI x16) (nI x18) (nI x19) x20 (nI x21) (nI x22) x23 x24 x25 (nI x26) x27 (nI x28) (nI x29) (nI x30) (nI x33) x45 (nI x46) (nI x52) (nI x53) (nI x61) (nI z62_6) (nI z63_7) (nI x65) x66 f1 f2 f3 (bN 3 q4) (bN 7 q5) (bN 7 q6) (bN 4 q7) f8 (bN 2 q9) (bH q10) f11 (b2 m12_0 m12_1) (b2 m13_0 m13_1) (b2 m14_0 m14_1) (b2m m15_0 m15_1) f17 (bA 159 q31) f32 f34 f35 f36 f37 (bN 7 q38) f39 f40 f41 (b2 m42_0 m42_1) f43 f44 f47 f48 f49 f50 f51 (bN 13 q54) (bN 120 z55_2) (bN 120 z56_3) z57_4 (bN 120 z58_5) (upd (upd g_10 (0 : Int32).toNatClampNeg 0) ((nI x61) : Int32).toNatClampNeg r_15) f60 f64) := hD
    refine lv_aload_n hx hb dX9_laysGreatest_58 rfl (lv_at hl 0 rfl) ?_
    refine va_get (D := (dC, dI)) (ci := 9) (v := .int (nI z63_7)) (C := RX9) (T := TX9) (N := 67) hx hb hts hiX9 hown hK hP 0 rfl rfl 63 (by decide) v_12 (fun _ h9 => h9) rfl dX9_laysGreatest_59 ?_
    refine pu_join (fun H locs ls st => ∃ (g_16 : Nat), st = [.int (nI g_16)] ∧ g_16 ≤ 1 ∧ va_P (dC, dI) vwCl (mo_w ad ck x0 (nI x16) (nI x18) (nI x19) x20 (nI x21) (nI x22) x23 x24 x25 (nI x26) x27 (nI x28) (nI x29) (nI x30) (nI x33) x45 (nI x46) (nI x52) (nI x53) (nI x61) (nI z62_6) (nI z63_7) (nI x65) x66 f1 f2 f3 (bN 3 q4) (bN 7 q5) (bN 7 q6) (bN 4 q7) f8 (bN 2 q9) (bH q10) f11 (b2 m12_0 m12_1) (b2 m13_0 m13_1) (b2 m14_0 m14_1) (b2m m15_0 m15_1) f17 (bA 159 q31) f32 f34 f35 f36 f37 (bN 7 q38) f39 f40 f41 (b2 m42_0 m42_1) f43 f44 f47 f48 f49 f50 f51 (bN 13 q54) (bN 120 z55_2) (bN 120 z56_3) z57_4 (bN 120 z58_5) (upd (upd g_10 (0 : Int32).toNatClampNeg 0) ((nI x61) : Int32).toNatClampNeg r_15) f60 f64) H ∧ va_D A (mo_w ad ck x0 (nI x16) (nI x18) (nI x19) x20 (nI x21) (nI x22) x23 x24 x25 (nI x26) x27 (nI x28) (nI x29) (nI x30) (nI x33) x45 (nI x46) (nI x52) (nI x53) (nI x61) (nI z62_6) (nI z63_7) (nI x65) x66 f1 f2 f3 (bN 3 q4) (bN 7 q5) (bN 7 q6) (bN 4 q7) f8 (bN 2 q9) (bH q10) f11 (b2 m12_0 m12_1) (b2 m13_0 m13_1) (b2 m14_0 m14_1) (b2m m15_0 m15_1) f17 (bA 159 q31) f32 f34 f35 f36 f37 (bN 7 q38) f39 f40 f41 (b2 m42_0 m42_1) f43 f44 f47 f48 f49 f50 f51 (bN 13 q54) (bN 120 z55_2) (bN 120 z56_3) z57_4 (bN 120 z58_5) (upd (upd g_10 (0 : Int32).toNatClampNeg 0) ((nI x61) : Int32).toNatClampNeg r_15) f60 f64) ∧ va_S A s.heap H locs ∧ lv_has ls 7 [(0, .ref (ad 0)), (1, .int p0), (2, .int (nI g_11))]) 70 ?_ (fun j_17 => ?_)
    · rintro H locs ls st ⟨g_16, rfl, hg_16, hP, hD, hS, hl⟩
      refine lv_istore_n (lv' := [(2, .int (nI g_16)), (0, .ref (ad 0)), (1, .int p0)]) hx hb dX9_laysGreatest_70 rfl hl (by decide) rfl (fun ls hl => ?_)
      refine lv_iconst (v := 0) hx hb dX9_laysGreatest_71 (by decide) ?_
      refine lv_istore_n (lv' := [(3, .int 0), (2, .int (nI g_16)), (0, .ref (ad 0)), (1, .int p0)]) hx hb dX9_laysGreatest_72 rfl hl (by decide) rfl (fun ls hl => ?_)
      refine pu_while (fun nn H locs ls => ∃ (g_21 : Nat → Int32) (g_22 : Int32) (g_23 : Nat), nn = 121 - g_23 ∧ g_23 ≤ 121 ∧ va_P (dC, dI) vwCl (mo_w ad ck x0 (nI x16) (nI x18) (nI x19) x20 (nI x21) (nI x22) x23 x24 x25 (nI x26) x27 (nI x28) (nI x29) (nI x30) (nI x33) x45 (nI x46) (nI x52) (nI x53) (nI x61) (nI z62_6) (nI z63_7) (nI x65) x66 f1 f2 f3 (bN 3 q4) (bN 7 q5) (bN 7 q6) (bN 4 q7) f8 (bN 2 q9) (bH q10) f11 (b2 m12_0 m12_1) (b2 m13_0 m13_1) (b2 m14_0 m14_1) (b2m m15_0 m15_1) f17 (bA 159 q31) f32 f34 f35 f36 f37 (bN 7 q38) f39 f40 f41 (b2 m42_0 m42_1) f43 f44 f47 f48 f49 f50 f51 (bN 13 q54) (bN 120 z55_2) (bN 120 z56_3) z57_4 (bN 120 z58_5) g_21 f60 f64) H ∧ va_D A (mo_w ad ck x0 (nI x16) (nI x18) (nI x19) x20 (nI x21) (nI x22) x23 x24 x25 (nI x26) x27 (nI x28) (nI x29) (nI x30) (nI x33) x45 (nI x46) (nI x52) (nI x53) (nI x61) (nI z62_6) (nI z63_7) (nI x65) x66 f1 f2 f3 (bN 3 q4) (bN 7 q5) (bN 7 q6) (bN 4 q7) f8 (bN 2 q9) (bH q10) f11 (b2 m12_0 m12_1) (b2 m13_0 m13_1) (b2 m14_0 m14_1) (b2m m15_0 m15_1) f17 (bA 159 q31) f32 f34 f35 f36 f37 (bN 7 q38) f39 f40 f41 (b2 m42_0 m42_1) f43 f44 f47 f48 f49 f50 f51 (bN 13 q54) (bN 120 z55_2) (bN 120 z56_3) z57_4 (bN 120 z58_5) g_21 f60 f64) ∧ va_S A s.heap H locs ∧ lv_has ls 7 [(0, .ref (ad 0)), (1, .int p0), (2, .int g_22), (3, .int (nI g_23))]) 73 ?_ _ _ _ _ ⟨(upd (upd g_10 (0 : Int32).toNatClampNeg 0) ((nI x61) : Int32).toNatClampNeg r_15), (nI g_16), 0, rfl, (Nat.le_of_ble_eq_true rfl), hP, hD, hS, lv_sub hl [2, 3, 1, 0] rfl⟩
      rintro nn ih_24 H locs ls ⟨g_21, g_22, g_23, rfl, hg_23, hP, hD, hS, hl⟩
      refine lv_iload_n hx hb dX9_laysGreatest_73 rfl (lv_at hl 3 rfl) ?_
      refine lv_aload_n hx hb dX9_laysGreatest_74 rfl (lv_at hl 0 rfl) ?_
      refine va_get (D := (dC, dI)) (ci := 9) (v := .int (nI x61)) (C := RX9) (T := TX9) (N := 67) hx hb hts hiX9 hown hK hP 0 rfl rfl 61 (by decide) v_6 (fun _ h9 => h9) rfl dX9_laysGreatest_75 ?_
      refine lv_iconst (v := 1) hx hb dX9_laysGreatest_78 (by decide) ?_
      refine lv_iadd hx hb dX9_laysGreatest_79 ?_
      refine lv_topi (fun y_25 ey_25 => ?_)
      obtain rfl : y_25 = (nI (x61 + 1)) := ey_25.trans (nI_add x61 1)
      refine pu_join (fun H locs ls st => st = [] ∧ va_P (dC, dI) vwCl (mo_w ad ck x0 (nI x16) (nI x18) (nI x19) x20 (nI x21) (nI x22) x23 x24 x25 (nI x26) x27 (nI x28) (nI x29) (nI x30) (nI x33) x45 (nI x46) (nI x52) (nI x53) (nI x61) (nI z62_6) (nI z63_7) (nI x65) x66 f1 f2 f3 (bN 3 q4) (bN 7 q5) (bN 7 q6) (bN 4 q7) f8 (bN 2 q9) (bH q10) f11 (b2 m12_0 m12_1) (b2 m13_0 m13_1) (b2 m14_0 m14_1) (b2m m15_0 m15_1) f17 (bA 159 q31) f32 f34 f35 f36 f37 (bN 7 q38) f39 f40 f41 (b2 m42_0 m42_1) f43 f44 f47 f48 f49 f50 f51 (bN 13 q54) (bN 120 z55_2) (bN 120 z56_3) z57_4 (bN 120 z58_5) g_21 f60 f64) H ∧ va_D A (mo_w ad ck x0 (nI x16) (nI x18) (nI x19) x20 (nI x21) (nI x22) x23 x24 x25 (nI x26) x27 (nI x28) (nI x29) (nI x30) (nI x33) x45 (nI x46) (nI x52) (nI x53) (nI x61) (nI z62_6) (nI z63_7) (nI x65) x66 f1 f2 f3 (bN 3 q4) (bN 7 q5) (bN 7 q6) (bN 4 q7) f8 (bN 2 q9) (bH q10) f11 (b2 m12_0 m12_1) (b2 m13_0 m13_1) (b2 m14_0 m14_1) (b2m m15_0 m15_1) f17 (bA 159 q31) f32 f34 f35 f36 f37 (bN 7 q38) f39 f40 f41 (b2 m42_0 m42_1) f43 f44 f47 f48 f49 f50 f51 (bN 13 q54) (bN 120 z55_2) (bN 120 z56_3) z57_4 (bN 120 z58_5) g_21 f60 f64) ∧ va_S A s.heap H locs ∧ lv_has ls 7 [(0, .ref (ad 0)), (1, .int p0), (2, .int g_22), (3, .int (nI g_23))]) 188 ?_ (fun j_26 => ?_)
      · rintro H locs ls st ⟨rfl, hP, hD, hS, hl⟩
        refine lv_aload_n hx hb dX9_laysGreatest_188 rfl (lv_at hl 0 rfl) ?_
        refine va_get (D := (dC, dI)) (ci := 9) (v := .int (nI z63_7)) (C := RX9) (T := TX9) (N := 67) hx hb hts hiX9 hown hK hP 0 rfl rfl 63 (by decide) v_12 (fun _ h9 => h9) rfl dX9_laysGreatest_189 ?_
        refine lv_if_ne (tgt := 212) hx hb dX9_laysGreatest_192 (by decide) (fun c_27 => ?_) (fun c_27 => ?_)
        · have c_27 : ¬ z63_7 = 0 := fun z => c_27 ((nI_eq (a := z63_7) (b := 0) (Nat.lt_of_le_of_lt hz63_7 (Nat.le_of_ble_eq_true rfl)) (Nat.le_of_ble_eq_true rfl)).mpr z)
          refine lv_iconst (v := 0) hx hb dX9_laysGreatest_212 (by decide) ?_
          exact W.zret (v := 0) (ty := .boolean) hx hb hr (rfl) (fun t ht hW => ⟨⟨0, (), rfl, ⟨0, (Nat.le_of_ble_eq_true rfl), rfl⟩, ⟨z55_2, z56_3, z57_4, z58_5, g_21, z62_6, z63_7, ⟨by rw [ht]; exact hP, va_K.moved hW.alike hK, hD⟩, hz62_6, hz63_7⟩⟩, hS.F ht⟩) hS.2.2 dX9_laysGreatest_213
        · have c_27 : z63_7 = 0 := (nI_eq (a := z63_7) (b := 0) (Nat.lt_of_le_of_lt hz63_7 (Nat.le_of_ble_eq_true rfl)) (Nat.le_of_ble_eq_true rfl)).mp c_27
          refine lv_iload_n hx hb dX9_laysGreatest_195 rfl (lv_at hl 2 rfl) ?_
          refine lv_if_ne (tgt := 212) hx hb dX9_laysGreatest_196 (by decide) (fun c_28 => ?_) (fun c_28 => ?_)
          · refine lv_iconst (v := 0) hx hb dX9_laysGreatest_212 (by decide) ?_
            exact W.zret (v := 0) (ty := .boolean) hx hb hr (rfl) (fun t ht hW => ⟨⟨0, (), rfl, ⟨0, (Nat.le_of_ble_eq_true rfl), rfl⟩, ⟨z55_2, z56_3, z57_4, z58_5, g_21, z62_6, z63_7, ⟨by rw [ht]; exact hP, va_K.moved hW.alike hK, hD⟩, hz62_6, hz63_7⟩⟩, hS.F ht⟩) hS.2.2 dX9_laysGreatest_213
          · refine lv_aload_n hx hb dX9_laysGreatest_199 rfl (lv_at hl 0 rfl) ?_
            refine va_get (D := (dC, dI)) (ci := 9) (v := .ref (ad 59)) (C := RX9) (T := TX9) (N := 67) hx hb hts hiX9 hown hK hP 0 rfl rfl 59 (by decide) v_7 (fun _ h9 => h9) rfl dX9_laysGreatest_200 ?_
            refine lv_iconst (v := 0) hx hb dX9_laysGreatest_203 (by decide) ?_
            refine va_iald hx hb hK hP 40 39 rfl rfl (vp_in_nI (n := 0) (Nat.le_of_ble_eq_true rfl) (Nat.le_of_ble_eq_true rfl)) dX9_laysGreatest_204 ?_
            refine lv_topi (fun y_29 ey_29 => ?_)
            refine lv_if_ne (tgt := 212) hx hb dX9_laysGreatest_205 (by decide) (fun c_30 => ?_) (fun c_30 => ?_)
            · refine lv_iconst (v := 0) hx hb dX9_laysGreatest_212 (by decide) ?_
              exact W.zret (v := 0) (ty := .boolean) hx hb hr (rfl) (fun t ht hW => ⟨⟨0, (), rfl, ⟨0, (Nat.le_of_ble_eq_true rfl), rfl⟩, ⟨z55_2, z56_3, z57_4, z58_5, g_21, z62_6, z63_7, ⟨by rw [ht]; exact hP, va_K.moved hW.alike hK, hD⟩, hz62_6, hz63_7⟩⟩, hS.F ht⟩) hS.2.2 dX9_laysGreatest_213
            · refine lv_iconst (v := 1) hx hb dX9_laysGreatest_208 (by decide) ?_
              refine lv_goto (tgt := 213) hx hb dX9_laysGreatest_209 (by decide) ?_
              exact W.zret (v := 1) (ty := .boolean) hx hb hr (rfl) (fun t ht hW => ⟨⟨1, (), rfl, ⟨1, (Nat.le_of_ble_eq_true rfl), rfl⟩, ⟨z55_2, z56_3, z57_4, z58_5, g_21, z62_6, z63_7, ⟨by rw [ht]; exact hP, va_K.moved hW.alike hK, hD⟩, hz62_6, hz63_7⟩⟩, hS.F ht⟩) hS.2.2 dX9_laysGreatest_213
      refine lv_icmp_gt (tgt := 188) hx hb dX9_laysGreatest_80 (by decide) (fun c_31 => ?_) (fun c_31 => ?_)
      · have c_31 : (x61 + 1) < g_23 := (nI_ltI (a := (x61 + 1)) (b := g_23) (by omega) (Nat.lt_of_le_of_lt hg_23 (Nat.le_of_ble_eq_true rfl))).mp c_31
        exact j_26 _ _ _ _ ⟨rfl, hP, hD, hS, lv_sub hl [0, 1, 2, 3] rfl⟩
      · have c_31 : ¬ (x61 + 1) < g_23 := fun z => c_31 ((nI_ltI (a := (x61 + 1)) (b := g_23) (by omega) (Nat.lt_of_le_of_lt hg_23 (Nat.le_of_ble_eq_true rfl))).mpr z)
        refine lv_iload_n hx hb dX9_laysGreatest_83 rfl (lv_at hl 2 rfl) ?_
        refine lv_if_eq (tgt := 188) hx hb dX9_laysGreatest_84 (by decide) (fun c_32 => ?_) (fun c_32 => ?_)
        · exact j_26 _ _ _ _ ⟨rfl, hP, hD, hS, lv_sub hl [0, 1, 2, 3] rfl⟩
        · refine lv_iconst (v := 0) hx hb dX9_laysGreatest_87 (by decide) ?_
          refine lv_istore_n (lv' := [(2, .int 0), (0, .ref (ad 0)), (1, .int p0), (3, .int (nI g_23))]) hx hb dX9_laysGreatest_88 rfl hl (by decide) rfl (fun ls hl => ?_)
          refine lv_iconst (v := 0) hx hb dX9_laysGreatest_89 (by decide) ?_
          refine lv_istore (lv' := [(4, .int 0), (2, .int 0), (0, .ref (ad 0)), (1, .int p0), (3, .int (nI g_23))]) hx hb dX9_laysGreatest_90 hl (by decide) rfl (fun ls hl => ?_)
          refine pu_while (fun nn H locs ls => ∃ (g_36 : Nat → Int32) (g_37 : Int32) (g_38 : Nat), nn = 2000 - g_38 ∧ g_38 ≤ 2000 ∧ va_P (dC, dI) vwCl (mo_w ad ck x0 (nI x16) (nI x18) (nI x19) x20 (nI x21) (nI x22) x23 x24 x25 (nI x26) x27 (nI x28) (nI x29) (nI x30) (nI x33) x45 (nI x46) (nI x52) (nI x53) (nI x61) (nI z62_6) (nI z63_7) (nI x65) x66 f1 f2 f3 (bN 3 q4) (bN 7 q5) (bN 7 q6) (bN 4 q7) f8 (bN 2 q9) (bH q10) f11 (b2 m12_0 m12_1) (b2 m13_0 m13_1) (b2 m14_0 m14_1) (b2m m15_0 m15_1) f17 (bA 159 q31) f32 f34 f35 f36 f37 (bN 7 q38) f39 f40 f41 (b2 m42_0 m42_1) f43 f44 f47 f48 f49 f50 f51 (bN 13 q54) (bN 120 z55_2) (bN 120 z56_3) z57_4 (bN 120 z58_5) g_36 f60 f64) H ∧ va_D A (mo_w ad ck x0 (nI x16) (nI x18) (nI x19) x20 (nI x21) (nI x22) x23 x24 x25 (nI x26) x27 (nI x28) (nI x29) (nI x30) (nI x33) x45 (nI x46) (nI x52) (nI x53) (nI x61) (nI z62_6) (nI z63_7) (nI x65) x66 f1 f2 f3 (bN 3 q4) (bN 7 q5) (bN 7 q6) (bN 4 q7) f8 (bN 2 q9) (bH q10) f11 (b2 m12_0 m12_1) (b2 m13_0 m13_1) (b2 m14_0 m14_1) (b2m m15_0 m15_1) f17 (bA 159 q31) f32 f34 f35 f36 f37 (bN 7 q38) f39 f40 f41 (b2 m42_0 m42_1) f43 f44 f47 f48 f49 f50 f51 (bN 13 q54) (bN 120 z55_2) (bN 120 z56_3) z57_4 (bN 120 z58_5) g_36 f60 f64) ∧ va_S A s.heap H locs ∧ lv_has ls 7 [(0, .ref (ad 0)), (1, .int p0), (2, .int g_37), (3, .int (nI g_23)), (4, .int (nI g_38))]) 92 ?_ _ _ _ _ ⟨g_21, 0, 0, rfl, (Nat.le_of_ble_eq_true rfl), hP, hD, hS, lv_sub hl [2, 3, 1, 4, 0] rfl⟩
          rintro nn ih_39 H locs ls ⟨g_36, g_37, g_38, rfl, hg_38, hP, hD, hS, hl⟩
          refine lv_iload hx hb dX9_laysGreatest_92 (lv_at hl 4 rfl) ?_
          refine lv_aload_n hx hb dX9_laysGreatest_94 rfl (lv_at hl 0 rfl) ?_
          refine va_get (D := (dC, dI)) (ci := 9) (v := .int (nI z62_6)) (C := RX9) (T := TX9) (N := 67) hx hb hts hiX9 hown hK hP 0 rfl rfl 62 (by decide) v_13 (fun _ h9 => h9) rfl dX9_laysGreatest_95 ?_
          refine lv_icmp_ge (tgt := 182) hx hb dX9_laysGreatest_98 (by decide) (fun c_40 => ?_) (fun c_40 => ?_)
          · have c_40 : z62_6 ≤ g_38 := (nI_leI (a := z62_6) (b := g_38) (Nat.lt_of_le_of_lt hz62_6 (Nat.le_of_ble_eq_true rfl)) (Nat.lt_of_le_of_lt hg_38 (Nat.le_of_ble_eq_true rfl))).mp c_40
            refine lv_iinc (v := (nI (g_23 + 1))) (lv' := [(3, .int (nI (g_23 + 1))), (0, .ref (ad 0)), (1, .int p0), (2, .int g_37), (4, .int (nI g_38))]) hx hb dX9_laysGreatest_182 hl (k := 3) rfl (nI_1 _) (by decide) rfl (fun ls hl => ?_)
            refine lv_goto (tgt := 73) hx hb dX9_laysGreatest_185 (by decide) ?_
            exact ih_24 (121 - (g_23 + 1)) (by omega) _ _ _ ⟨g_36, g_37, (g_23 + 1), rfl, (by omega), hP, hD, hS, lv_sub hl [1, 2, 3, 0] rfl⟩
          · have c_40 : ¬ z62_6 ≤ g_38 := fun z => c_40 ((nI_leI (a := z62_6) (b := g_38) (Nat.lt_of_le_of_lt hz62_6 (Nat.le_of_ble_eq_true rfl)) (Nat.lt_of_le_of_lt hg_38 (Nat.le_of_ble_eq_true rfl))).mpr z)
            refine lv_aload_n hx hb dX9_laysGreatest_101 rfl (lv_at hl 0 rfl) ?_
            refine va_get (D := (dC, dI)) (ci := 9) (v := .ref (ad 59)) (C := RX9) (T := TX9) (N := 67) hx hb hts hiX9 hown hK hP 0 rfl rfl 59 (by decide) v_7 (fun _ h9 => h9) rfl dX9_laysGreatest_102 ?_
            refine lv_aload_n hx hb dX9_laysGreatest_105 rfl (lv_at hl 0 rfl) ?_
            refine va_get (D := (dC, dI)) (ci := 9) (v := .ref (ad 56)) (C := RX9) (T := TX9) (N := 67) hx hb hts hiX9 hown hK hP 0 rfl rfl 56 (by decide) v_14 (fun _ h9 => h9) rfl dX9_laysGreatest_106 ?_
            refine lv_iload hx hb dX9_laysGreatest_109 (lv_at hl 4 rfl) ?_
            refine va_iald hx hb hK hP 37 36 rfl rfl (vp_in_nI (n := g_38) (by omega) (Nat.le_of_ble_eq_true rfl)) dX9_laysGreatest_111 ?_
            refine lv_topi (fun y_41 ey_41 => ?_)
            obtain ⟨u_42, hu_42, qu_42⟩ := bN_get 120 z56_3 (((nI g_38) : Int32).toNatClampNeg)
            obtain rfl : y_41 = nI u_42 := ey_41.trans qu_42
            refine va_iald hx hb hK hP 40 39 rfl rfl (vp_in_nI (n := u_42) (Nat.lt_of_le_of_lt hu_42 (Nat.le_of_ble_eq_true rfl)) (Nat.le_of_ble_eq_true rfl)) dX9_laysGreatest_112 ?_
            refine lv_topi (fun y_43 ey_43 => ?_)
            refine lv_istore (lv' := [(5, .int y_43), (0, .ref (ad 0)), (1, .int p0), (2, .int g_37), (3, .int (nI g_23)), (4, .int (nI g_38))]) hx hb dX9_laysGreatest_113 hl (by decide) rfl (fun ls hl => ?_)
            refine lv_iload hx hb dX9_laysGreatest_115 (lv_at hl 0 rfl) ?_
            refine lv_ldcw hx hb hown v_8 dX9_laysGreatest_117 ?_
            refine pu_join (fun H locs ls st => ∃ (g_44 : Int32), st = [.int g_44] ∧ va_P (dC, dI) vwCl (mo_w ad ck x0 (nI x16) (nI x18) (nI x19) x20 (nI x21) (nI x22) x23 x24 x25 (nI x26) x27 (nI x28) (nI x29) (nI x30) (nI x33) x45 (nI x46) (nI x52) (nI x53) (nI x61) (nI z62_6) (nI z63_7) (nI x65) x66 f1 f2 f3 (bN 3 q4) (bN 7 q5) (bN 7 q6) (bN 4 q7) f8 (bN 2 q9) (bH q10) f11 (b2 m12_0 m12_1) (b2 m13_0 m13_1) (b2 m14_0 m14_1) (b2m m15_0 m15_1) f17 (bA 159 q31) f32 f34 f35 f36 f37 (bN 7 q38) f39 f40 f41 (b2 m42_0 m42_1) f43 f44 f47 f48 f49 f50 f51 (bN 13 q54) (bN 120 z55_2) (bN 120 z56_3) z57_4 (bN 120 z58_5) g_36 f60 f64) H ∧ va_D A (mo_w ad ck x0 (nI x16) (nI x18) (nI x19) x20 (nI x21) (nI x22) x23 x24 x25 (nI x26) x27 (nI x28) (nI x29) (nI x30) (nI x33) x45 (nI x46) (nI x52) (nI x53) (nI x61) (nI z62_6) (nI z63_7) (nI x65) x66 f1 f2 f3 (bN 3 q4) (bN 7 q5) (bN 7 q6) (bN 4 q7) f8 (bN 2 q9) (bH q10) f11 (b2 m12_0 m12_1) (b2 m13_0 m13_1) (b2 m14_0 m14_1) (b2m m15_0 m15_1) f17 (bA 159 q31) f32 f34 f35 f36 f37 (bN 7 q38) f39 f40 f41 (b2 m42_0 m42_1) f43 f44 f47 f48 f49 f50 f51 (bN 13 q54) (bN 120 z55_2) (bN 120 z56_3) z57_4 (bN 120 z58_5) g_36 f60 f64) ∧ va_S A s.heap H locs ∧ lv_has ls 7 [(0, .ref (ad 0)), (1, .int p0), (2, .int g_37), (3, .int (nI g_23)), (4, .int (nI g_38)), (5, .int y_43)]) 141 ?_ (fun j_45 => ?_)
            · rintro H locs ls st ⟨g_44, rfl, hP, hD, hS, hl⟩
              refine lv_istore (lv' := [(6, .int g_44), (0, .ref (ad 0)), (1, .int p0), (2, .int g_37), (3, .int (nI g_23)), (4, .int (nI g_38)), (5, .int y_43)]) hx hb dX9_laysGreatest_141 hl (by decide) rfl (fun ls hl => ?_)
              refine lv_iload hx hb dX9_laysGreatest_143 (lv_at hl 0 rfl) ?_
              refine lv_aload_n hx hb dX9_laysGreatest_145 rfl (lv_at hl 1 rfl) ?_
              refine va_get (D := (dC, dI)) (ci := 9) (v := .ref (ad 59)) (C := RX9) (T := TX9) (N := 67) hx hb hts hiX9 hown hK hP 0 rfl rfl 59 (by decide) v_7 (fun _ h9 => h9) rfl dX9_laysGreatest_146 ?_
              refine lv_aload_n hx hb dX9_laysGreatest_149 rfl (lv_at hl 1 rfl) ?_
              refine va_get (D := (dC, dI)) (ci := 9) (v := .ref (ad 55)) (C := RX9) (T := TX9) (N := 67) hx hb hts hiX9 hown hK hP 0 rfl rfl 55 (by decide) v_19 (fun _ h9 => h9) rfl dX9_laysGreatest_150 ?_
              refine lv_iload hx hb dX9_laysGreatest_153 (lv_at hl 5 rfl) ?_
              refine va_iald hx hb hK hP 36 35 rfl rfl (vp_in_nI (n := g_38) (by omega) (Nat.le_of_ble_eq_true rfl)) dX9_laysGreatest_155 ?_
              refine lv_topi (fun y_46 ey_46 => ?_)
              obtain ⟨u_47, hu_47, qu_47⟩ := bN_get 120 z55_2 (((nI g_38) : Int32).toNatClampNeg)
              obtain rfl : y_46 = nI u_47 := ey_46.trans qu_47
              refine va_iald hx hb hK hP 40 39 rfl rfl (vp_in_nI (n := u_47) (Nat.lt_of_le_of_lt hu_47 (Nat.le_of_ble_eq_true rfl)) (Nat.le_of_ble_eq_true rfl)) dX9_laysGreatest_156 ?_
              refine lv_topi (fun y_48 ey_48 => ?_)
              refine pu_join (fun H locs ls st => ∃ (g_49 : Int32) (g_50 : Nat → Int32), st = [] ∧ va_P (dC, dI) vwCl (mo_w ad ck x0 (nI x16) (nI x18) (nI x19) x20 (nI x21) (nI x22) x23 x24 x25 (nI x26) x27 (nI x28) (nI x29) (nI x30) (nI x33) x45 (nI x46) (nI x52) (nI x53) (nI x61) (nI z62_6) (nI z63_7) (nI x65) x66 f1 f2 f3 (bN 3 q4) (bN 7 q5) (bN 7 q6) (bN 4 q7) f8 (bN 2 q9) (bH q10) f11 (b2 m12_0 m12_1) (b2 m13_0 m13_1) (b2 m14_0 m14_1) (b2m m15_0 m15_1) f17 (bA 159 q31) f32 f34 f35 f36 f37 (bN 7 q38) f39 f40 f41 (b2 m42_0 m42_1) f43 f44 f47 f48 f49 f50 f51 (bN 13 q54) (bN 120 z55_2) (bN 120 z56_3) z57_4 (bN 120 z58_5) g_50 f60 f64) H ∧ va_D A (mo_w ad ck x0 (nI x16) (nI x18) (nI x19) x20 (nI x21) (nI x22) x23 x24 x25 (nI x26) x27 (nI x28) (nI x29) (nI x30) (nI x33) x45 (nI x46) (nI x52) (nI x53) (nI x61) (nI z62_6) (nI z63_7) (nI x65) x66 f1 f2 f3 (bN 3 q4) (bN 7 q5) (bN 7 q6) (bN 4 q7) f8 (bN 2 q9) (bH q10) f11 (b2 m12_0 m12_1) (b2 m13_0 m13_1) (b2 m14_0 m14_1) (b2m m15_0 m15_1) f17 (bA 159 q31) f32 f34 f35 f36 f37 (bN 7 q38) f39 f40 f41 (b2 m42_0 m42_1) f43 f44 f47 f48 f49 f50 f51 (bN 13 q54) (bN 120 z55_2) (bN 120 z56_3) z57_4 (bN 120 z58_5) g_50 f60 f64) ∧ va_S A s.heap H locs ∧ lv_has ls 7 [(0, .ref (ad 0)), (1, .int p0), (2, .int g_49), (3, .int (nI g_23)), (4, .int (nI g_38)), (5, .int y_43), (6, .int g_44)]) 176 ?_ (fun j_51 => ?_)
              · rintro H locs ls st ⟨g_49, g_50, rfl, hP, hD, hS, hl⟩
                refine lv_iinc (v := (nI (g_38 + 1))) (lv' := [(4, .int (nI (g_38 + 1))), (0, .ref (ad 0)), (1, .int p0), (2, .int g_49), (3, .int (nI g_23)), (5, .int y_43), (6, .int g_44)]) hx hb dX9_laysGreatest_176 hl (k := 4) rfl (nI_1 _) (by decide) rfl (fun ls hl => ?_)
                refine lv_goto (tgt := 92) hx hb dX9_laysGreatest_179 (by decide) ?_
                exact ih_39 (2000 - (g_38 + 1)) (by omega) _ _ _ ⟨g_50, g_49, (g_38 + 1), rfl, (by omega), hP, hD, hS, lv_sub hl [1, 2, 3, 4, 0] rfl⟩
              refine lv_icmp_ge (tgt := 176) hx hb dX9_laysGreatest_157 (by decide) (fun c_52 => ?_) (fun c_52 => ?_)
              · exact j_51 _ _ _ _ ⟨g_37, g_36, rfl, hP, hD, hS, lv_sub hl [1, 2, 3, 4, 5, 6, 0] rfl⟩
              · refine lv_aload_n hx hb dX9_laysGreatest_160 rfl (lv_at hl 1 rfl) ?_
                refine va_get (D := (dC, dI)) (ci := 9) (v := .ref (ad 59)) (C := RX9) (T := TX9) (N := 67) hx hb hts hiX9 hown hK hP 0 rfl rfl 59 (by decide) v_7 (fun _ h9 => h9) rfl dX9_laysGreatest_161 ?_
                refine lv_aload_n hx hb dX9_laysGreatest_164 rfl (lv_at hl 1 rfl) ?_
                refine va_get (D := (dC, dI)) (ci := 9) (v := .ref (ad 55)) (C := RX9) (T := TX9) (N := 67) hx hb hts hiX9 hown hK hP 0 rfl rfl 55 (by decide) v_19 (fun _ h9 => h9) rfl dX9_laysGreatest_165 ?_
                refine lv_iload hx hb dX9_laysGreatest_168 (lv_at hl 5 rfl) ?_
                refine va_iald hx hb hK hP 36 35 rfl rfl (vp_in_nI (n := g_38) (by omega) (Nat.le_of_ble_eq_true rfl)) dX9_laysGreatest_170 ?_
                refine lv_topi (fun y_53 ey_53 => ?_)
                obtain rfl : y_53 = nI u_47 := ey_53.trans qu_47
                refine lv_iload hx hb dX9_laysGreatest_171 (lv_at hl 0 rfl) ?_
                refine va_iast hx hb hK hP hD hS 40 39 rfl rfl (vp_in_nI (n := u_47) (Nat.lt_of_le_of_lt hu_47 (Nat.le_of_ble_eq_true rfl)) (Nat.le_of_ble_eq_true rfl)) dX9_laysGreatest_173 (fun H locs hP hD hS => ?_)
                have hP : va_P (dC, dI) vwCl (mo_w ad ck x0 (nI x16) (nI x18) (nI x19) x20 (nI x21) (nI x22) x23 x24 x25 (nI x26) x27 (nI x28) (nI x29) (nI x30) (nI x33) x45 (nI x46) (nI x52) (nI x53) (nI x61) (nI z62_6) (nI z63_7) (nI x65) x66 f1 f2 f3 (bN 3 q4) (bN 7 q5) (bN 7 q6) (bN 4 q7) f8 (bN 2 q9) (bH q10) f11 (b2 m12_0 m12_1) (b2 m13_0 m13_1) (b2 m14_0 m14_1) (b2m m15_0 m15_1) f17 (bA 159 q31) f32 f34 f35 f36 f37 (bN 7 q38) f39 f40 f41 (b2 m42_0 m42_1) f43 f44 f47 f48 f49 f50 f51 (bN 13 q54) (bN 120 z55_2) (bN 120 z56_3) z57_4 (bN 120 z58_5) (upd g_36 ((nI u_47) : Int32).toNatClampNeg g_44) f60 f64) H := hP
                have hD : va_D A (mo_w ad ck x0 (nI x16) (nI x18) (nI x19) x20 (nI x21) (nI x22) x23 x24 x25 (nI x26) x27 (nI x28) (nI x29) (nI x30) (nI x33) x45 (nI x46) (nI x52) (nI x53) (nI x61) (nI z62_6) (nI z63_7) (nI x65) x66 f1 f2 f3 (bN 3 q4) (bN 7 q5) (bN 7 q6) (bN 4 q7) f8 (bN 2 q9) (bH q10) f11 (b2 m12_0 m12_1) (b2 m13_0 m13_1) (b2 m14_0 m14_1) (b2m m15_0 m15_1) f17 (bA 159 q31) f32 f34 f35 f36 f37 (bN 7 q38) f39 f40 f41 (b2 m42_0 m42_1) f43 f44 f47 f48 f49 f50 f51 (bN 13 q54) (bN 120 z55_2) (bN 120 z56_3) z57_4 (bN 120 z58_5) (upd g_36 ((nI u_47) : Int32).toNatClampNeg g_44) f60 f64) := hD
                refine lv_iconst (v := 1) hx hb dX9_laysGreatest_174 (by decide) ?_
                refine lv_istore_n (lv' := [(2, .int 1), (6, .int g_44), (0, .ref (ad 0)), (1, .int p0), (3, .int (nI g_23)), (4, .int (nI g_38)), (5, .int y_43)]) hx hb dX9_laysGreatest_175 rfl hl (by decide) rfl (fun ls hl => ?_)
                exact j_51 _ _ _ _ ⟨1, (upd g_36 ((nI u_47) : Int32).toNatClampNeg g_44), rfl, hP, hD, hS, lv_sub hl [2, 3, 0, 4, 5, 6, 1] rfl⟩
            refine lv_icmp_ne (tgt := 128) hx hb dX9_laysGreatest_120 (by decide) (fun c_55 => ?_) (fun c_55 => ?_)
            · refine lv_iload hx hb dX9_laysGreatest_128 (lv_at hl 0 rfl) ?_
              refine lv_aload_n hx hb dX9_laysGreatest_130 rfl (lv_at hl 1 rfl) ?_
              refine va_get (D := (dC, dI)) (ci := 9) (v := .ref (ad 57)) (C := RX9) (T := TX9) (N := 67) hx hb hts hiX9 hown hK hP 0 rfl rfl 57 (by decide) v_15 (fun _ h9 => h9) rfl dX9_laysGreatest_131 ?_
              refine lv_iload hx hb dX9_laysGreatest_134 (lv_at hl 5 rfl) ?_
              refine va_iald hx hb hK hP 38 37 rfl rfl (vp_in_nI (n := g_38) (by omega) (Nat.le_of_ble_eq_true rfl)) dX9_laysGreatest_136 ?_
              refine lv_topi (fun y_56 ey_56 => ?_)
              refine va_calli (va_runS (As := [.int y_56]) (rest := [.int y_43]) ⟨hx, hb, hml, hown, hts⟩ (c_X9_timesOf l dC dI _ y_56) (va_cwS 1 hts g_M_laysGreatest_X9_timesOf rfl rfl rfl (by decide +kernel) ⟨Nat.le_of_ble_eq_true rfl, Nat.le_of_ble_eq_true rfl⟩) ⟨pu_bl, pu_in (hP.sub [] rfl) (hK.sub [] rfl) (hD.sub [] (by decide) rfl)⟩ rfl rfl hl.1 rfl (lv_room (Nat.le_of_ble_eq_true rfl)) dX9_laysGreatest_137 ⟨Nat.le_of_ble_eq_true rfl, Nat.le_of_ble_eq_true rfl⟩) hS (fun q _ h => pu_fr hS hA q h) (pu_fr hS hA) (fun r_57 u t H1 locs ht hvm hw hB hz1 hk1 hS => ?_)
              have hP := pu_keep hP hk1
              clear hk1 hz1 ht hvm
              generalize H1 = H at hP hS ⊢
              clear hw
              refine lv_iadd hx hb dX9_laysGreatest_140 ?_
              refine lv_topi (fun y_58 ey_58 => ?_)
              exact j_45 _ _ _ _ ⟨y_58, rfl, hP, hD, hS, lv_sub hl [1, 2, 3, 4, 5, 0] rfl⟩
            · refine lv_iload hx hb dX9_laysGreatest_123 (lv_at hl 0 rfl) ?_
              refine lv_goto (tgt := 141) hx hb dX9_laysGreatest_125 (by decide) ?_
              exact j_45 _ _ _ _ ⟨y_43, rfl, hP, hD, hS, lv_sub hl [1, 2, 3, 4, 5, 0] rfl⟩
    refine lv_if_ne (tgt := 69) hx hb dX9_laysGreatest_62 (by decide) (fun c_59 => ?_) (fun c_59 => ?_)
    · have c_59 : ¬ z63_7 = 0 := fun z => c_59 ((nI_eq (a := z63_7) (b := 0) (Nat.lt_of_le_of_lt hz63_7 (Nat.le_of_ble_eq_true rfl)) (Nat.le_of_ble_eq_true rfl)).mpr z)
      refine lv_iconst (v := 0) hx hb dX9_laysGreatest_69 (by decide) ?_
      exact j_17 _ _ _ _ ⟨0, rfl, (Nat.le_of_ble_eq_true rfl), hP, hD, hS, lv_sub hl [0, 1, 2] rfl⟩
    · have c_59 : z63_7 = 0 := (nI_eq (a := z63_7) (b := 0) (Nat.lt_of_le_of_lt hz63_7 (Nat.le_of_ble_eq_true rfl)) (Nat.le_of_ble_eq_true rfl)).mp c_59
      refine lv_iconst (v := 1) hx hb dX9_laysGreatest_65 (by decide) ?_
      refine lv_goto (tgt := 70) hx hb dX9_laysGreatest_66 (by decide) ?_
      exact j_17 _ _ _ _ ⟨1, rfl, (Nat.le_of_ble_eq_true rfl), hP, hD, hS, lv_sub hl [0, 1, 2] rfl⟩
  · have c_13 : ¬ x61 < g_11 := fun z => c_13 ((nI_ltI (a := x61) (b := g_11) (Nat.lt_of_le_of_lt hx61 (Nat.le_of_ble_eq_true rfl)) (Nat.lt_of_le_of_lt hg_11 (Nat.le_of_ble_eq_true rfl))).mpr z)
    refine lv_aload_n hx hb dX9_laysGreatest_14 rfl (lv_at hl 0 rfl) ?_
    refine va_get (D := (dC, dI)) (ci := 9) (v := .ref (ad 59)) (C := RX9) (T := TX9) (N := 67) hx hb hts hiX9 hown hK hP 0 rfl rfl 59 (by decide) v_7 (fun _ h9 => h9) rfl dX9_laysGreatest_15 ?_
    refine lv_iload_n hx hb dX9_laysGreatest_18 rfl (lv_at hl 2 rfl) ?_
    refine lv_ldcw hx hb hown v_8 dX9_laysGreatest_19 ?_
    refine va_iast hx hb hK hP hD hS 40 39 rfl rfl (vp_in_nI (n := g_11) (Nat.lt_of_le_of_lt hg_11 (Nat.le_of_ble_eq_true rfl)) (Nat.le_of_ble_eq_true rfl)) dX9_laysGreatest_22 (fun H locs hP hD hS => ?_)
    have hP : va_P (dC, dI) vwCl (mo_w ad ck x0 (nI x16) (nI x18) (nI x19) x20 (nI x21) (nI x22) x23 x24 x25 (nI x26) x27 (nI x28) (nI x29) (nI x30) (nI x33) x45 (nI x46) (nI x52) (nI x53) (nI x61) (nI z62_6) (nI z63_7) (nI x65) x66 f1 f2 f3 (bN 3 q4) (bN 7 q5) (bN 7 q6) (bN 4 q7) f8 (bN 2 q9) (bH q10) f11 (b2 m12_0 m12_1) (b2 m13_0 m13_1) (b2 m14_0 m14_1) (b2m m15_0 m15_1) f17 (bA 159 q31) f32 f34 f35 f36 f37 (bN 7 q38) f39 f40 f41 (b2 m42_0 m42_1) f43 f44 f47 f48 f49 f50 f51 (bN 13 q54) (bN 120 z55_2) (bN 120 z56_3) z57_4 (bN 120 z58_5) (upd g_10 ((nI g_11) : Int32).toNatClampNeg 1073741824) f60 f64) H := hP
    have hD : va_D A (mo_w ad ck x0 (nI x16) (nI x18) (nI x19) x20 (nI x21) (nI x22) x23 x24 x25 (nI x26) x27 (nI x28) (nI x29) (nI x30) (nI x33) x45 (nI x46) (nI x52) (nI x53) (nI x61) (nI z62_6) (nI z63_7) (nI x65) x66 f1 f2 f3 (bN 3 q4) (bN 7 q5) (bN 7 q6) (bN 4 q7) f8 (bN 2 q9) (bH q10) f11 (b2 m12_0 m12_1) (b2 m13_0 m13_1) (b2 m14_0 m14_1) (b2m m15_0 m15_1) f17 (bA 159 q31) f32 f34 f35 f36 f37 (bN 7 q38) f39 f40 f41 (b2 m42_0 m42_1) f43 f44 f47 f48 f49 f50 f51 (bN 13 q54) (bN 120 z55_2) (bN 120 z56_3) z57_4 (bN 120 z58_5) (upd g_10 ((nI g_11) : Int32).toNatClampNeg 1073741824) f60 f64) := hD
    refine lv_iinc (v := (nI (g_11 + 1))) (lv' := [(2, .int (nI (g_11 + 1))), (0, .ref (ad 0)), (1, .int p0)]) hx hb dX9_laysGreatest_23 hl (k := 2) rfl (nI_1 _) (by decide) rfl (fun ls hl => ?_)
    refine lv_goto (tgt := 6) hx hb dX9_laysGreatest_26 (by decide) ?_
    exact ih_12 (120 - (g_11 + 1)) (by omega) _ _ _ ⟨(upd g_10 ((nI g_11) : Int32).toNatClampNeg 1073741824), (g_11 + 1), rfl, (by omega), hP, hD, hS, lv_sub hl [1, 2, 0] rfl⟩
theorem dX9_isStep_0 : decode cX9_isStep 0 = .ok (.aload_n 0, 1) := by decide +kernel
theorem dX9_isStep_1 : decode cX9_isStep 1 = .ok (.iload_n 1, 1) := by decide +kernel
theorem dX9_isStep_2 : decode cX9_isStep 2 = .ok (.invokevirtual 387, 3) := by decide +kernel
theorem dX9_isStep_5 : decode cX9_isStep 5 = .ok (.ifCond .ne 5, 3) := by decide +kernel
theorem dX9_isStep_8 : decode cX9_isStep 8 = .ok (.iconst 0, 1) := by decide +kernel
theorem dX9_isStep_9 : decode cX9_isStep 9 = .ok (.ireturn, 1) := by decide +kernel
theorem dX9_isStep_10 : decode cX9_isStep 10 = .ok (.aload_n 0, 1) := by decide +kernel
theorem dX9_isStep_11 : decode cX9_isStep 11 = .ok (.iload_n 1, 1) := by decide +kernel
theorem dX9_isStep_12 : decode cX9_isStep 12 = .ok (.invokevirtual 451, 3) := by decide +kernel
theorem dX9_isStep_15 : decode cX9_isStep 15 = .ok (.iload_n 2, 1) := by decide +kernel
theorem dX9_isStep_16 : decode cX9_isStep 16 = .ok (.iconst 0, 1) := by decide +kernel
theorem dX9_isStep_17 : decode cX9_isStep 17 = .ok (.aload_n 0, 1) := by decide +kernel
theorem dX9_isStep_18 : decode cX9_isStep 18 = .ok (.getfield 429, 3) := by decide +kernel
theorem dX9_isStep_21 : decode cX9_isStep 21 = .ok (.iconst 1, 1) := by decide +kernel
theorem dX9_isStep_22 : decode cX9_isStep 22 = .ok (.isub, 1) := by decide +kernel
theorem dX9_isStep_23 : decode cX9_isStep 23 = .ok (.invokestatic 152, 3) := by decide +kernel
theorem dX9_isStep_26 : decode cX9_isStep 26 = .ok (.ireturn, 1) := by decide +kernel
abbrev vs_M_isStep : List Cond := .code yX9_isStep cX9_isStep 3 (some .boolean) :: VM
theorem g_M_isStep_X9_in : GoodIn vs_M_isStep (va_wsS RX9 152 yX9_in vs_X9_in) := gm_0 (fun w h => by
  rcases List.mem_cons.mp h with rfl | h
  · exact vm_153
  rcases List.mem_cons.mp h with rfl | h
  · exact vm_154
  rcases List.mem_cons.mp h with rfl | h
  · exact vm_12
  rcases List.mem_cons.mp h with rfl | h
  · exact vm_14
  exact absurd h (List.not_mem_nil))
theorem g_M_isStep_M_isState : GoodIn vs_M_isStep (wsV RX9 387 RX9 yX9_isState vs_M_isState) := gm_V vm_279 vm_280 vm_281 vm_12 vm_276
theorem g_M_isStep_M_layPath : GoodIn vs_M_isStep (wsV RX9 451 RX9 yX9_layPath vs_M_layPath) := gm_V vm_353 vm_354 vm_355 vm_12 vm_325
set_option maxHeartbeats 4000000 in
set_option maxRecDepth 100000 in
theorem c_M_isStep (l : Launch) (dC : Nat → ClassId) (dI : Nat → Nat → Nat) (sz : Nat) (ad : Nat → Nat) (ck : Nat → ClassId) (x0 : Int32) (x16 : Nat) (x18 : Nat) (x19 : Nat) (x20 : Int32) (x21 : Nat) (x22 : Nat) (x23 : Int32) (x24 : Int32) (x25 : Int32) (x26 : Nat) (x27 : Int32) (x28 : Nat) (x29 : Nat) (x30 : Nat) (x33 : Nat) (x45 : Int32) (x46 : Nat) (x52 : Nat) (x53 : Nat) (x61 : Nat) (x62 : Nat) (x63 : Nat) (x65 : Nat) (x66 : Int32) (f1 : Nat → Int32) (f2 : Nat → Int32) (f3 : Nat → Int32) (q4 : Nat → Nat) (q5 : Nat → Nat) (q6 : Nat → Nat) (q7 : Nat → Nat) (f8 : Nat → Int32) (q9 : Nat → Nat) (q10 : Nat → Nat) (f11 : Nat → Int32) (m12_0 m12_1 : Nat) (m13_0 m13_1 : Nat) (m14_0 m14_1 : Nat) (m15_0 m15_1 : Nat) (f17 : Nat → Int32) (q31 : Nat → Nat) (f32 : Nat → Int32) (f34 : Nat → Int32) (f35 : Nat → Int32) (f36 : Nat → Int32) (f37 : Nat → Int32) (q38 : Nat → Nat) (f39 : Nat → Int32) (f40 : Nat → Int32) (f41 : Nat → Int32) (m42_0 m42_1 : Nat) (f43 : Nat → Int32) (f44 : Nat → Int32) (f47 : Nat → Int32) (f48 : Nat → Int32) (f49 : Nat → Int32) (f50 : Nat → Int32) (f51 : Nat → Int32) (q54 : Nat → Nat) (q55 : Nat → Nat) (q56 : Nat → Nat) (f57 : Nat → Int32) (q58 : Nat → Nat) (f59 : Nat → Int32) (f60 : Nat → Int32) (f64 : Nat → Int32) (p0 : Int32) (p1 : Int32) (hx16 : x16 ≤ 1) (hx18 : x18 ≤ 900) (hx19 : x19 ≤ 900) (hx21 : x21 ≤ 900) (hx22 : x22 ≤ 4) (hx26 : x26 ≤ 6) (hx28 : x28 ≤ 1) (hx29 : x29 ≤ 1) (hx30 : x30 ≤ 1) (hx33 : x33 ≤ 20) (hx46 : x46 ≤ 5) (hx52 : x52 ≤ 2400) (hx53 : x53 ≤ 119) (hx61 : x61 ≤ 119) (hx62 : x62 ≤ 2000) (hx63 : x63 ≤ 1) (hx65 : x65 ≤ 7) (hm12_0 : m12_0 ≤ 3) (hm12_1 : m12_1 ≤ 3) (hm13_0 : m13_0 ≤ 8) (hm13_1 : m13_1 ≤ 8) (hm14_0 : m14_0 ≤ 14) (hm14_1 : m14_1 ≤ 14) (hm15_0 : m15_0 ≤ 8) (hm15_1 : m15_1 ≤ 8) (hm42_0 : m42_0 ≤ 120) (hm42_1 : m42_1 ≤ 400) (hgr : gz_ok m42_0 f39 f40 f41) : Met l yX9_isStep vs_M_isStep ({ frames := 2, cells := 0, slots := 0, locals := 43 }) (va_Pc [.ref (ad 0), .int p0, .int p1] (pu_B (dC, dI) (mo_w ad ck x0 (nI x16) (nI x18) (nI x19) x20 (nI x21) (nI x22) x23 x24 x25 (nI x26) x27 (nI x28) (nI x29) (nI x30) (nI x33) x45 (nI x46) (nI x52) (nI x53) (nI x61) (nI x62) (nI x63) (nI x65) x66 f1 f2 f3 (bN 3 q4) (bN 7 q5) (bN 7 q6) (bN 4 q7) f8 (bN 2 q9) (bH q10) f11 (b2 m12_0 m12_1) (b2 m13_0 m13_1) (b2 m14_0 m14_1) (b2m m15_0 m15_1) f17 (bA 159 q31) f32 f34 f35 f36 f37 (bN 7 q38) f39 f40 f41 (b2 m42_0 m42_1) f43 f44 f47 f48 f49 f50 f51 (bN 13 q54) (bN 120 q55) (bN 120 q56) f57 (bN 120 q58) f59 f60 f64) (mo_t ck) sz)) (va_Qi (fun (r : Int32) (_ : Unit) => (r = 1 ∧ ∃ q : Nat, q ≤ 118 ∧ p1 = nI q) ∨ r = 0) (fun _ t => ∃ (z54 : Nat → Nat) (z46 : Nat) (z61 : Nat), pu_E (dC, dI) (mo_w ad ck x0 (nI x16) (nI x18) (nI x19) x20 (nI x21) (nI x22) x23 x24 x25 (nI x26) x27 (nI x28) (nI x29) (nI x30) (nI x33) x45 (nI z46) (nI x52) (nI x53) (nI z61) (nI x62) (nI x63) (nI x65) x66 f1 f2 f3 (bN 3 q4) (bN 7 q5) (bN 7 q6) (bN 4 q7) f8 (bN 2 q9) (bH q10) f11 (b2 m12_0 m12_1) (b2 m13_0 m13_1) (b2 m14_0 m14_1) (b2m m15_0 m15_1) f17 (bA 159 q31) f32 f34 f35 f36 f37 (bN 7 q38) f39 f40 f41 (b2 m42_0 m42_1) f43 f44 f47 f48 f49 f50 f51 (bN 13 z54) (bN 120 q55) (bN 120 q56) f57 (bN 120 q58) f59 f60 f64) (mo_t ck) (va_A ((mo_w ad ck x0 (nI x16) (nI x18) (nI x19) x20 (nI x21) (nI x22) x23 x24 x25 (nI x26) x27 (nI x28) (nI x29) (nI x30) (nI x33) x45 (nI x46) (nI x52) (nI x53) (nI x61) (nI x62) (nI x63) (nI x65) x66 f1 f2 f3 (bN 3 q4) (bN 7 q5) (bN 7 q6) (bN 4 q7) f8 (bN 2 q9) (bH q10) f11 (b2 m12_0 m12_1) (b2 m13_0 m13_1) (b2 m14_0 m14_1) (b2m m15_0 m15_1) f17 (bA 159 q31) f32 f34 f35 f36 f37 (bN 7 q38) f39 f40 f41 (b2 m42_0 m42_1) f43 f44 f47 f48 f49 f50 f51 (bN 13 q54) (bN 120 q55) (bN 120 q56) f57 (bN 120 q58) f59 f60 f64)) sz) t ∧ (z46 ≤ 5) ∧ (z61 ≤ 119)) (va_A ((mo_w ad ck x0 (nI x16) (nI x18) (nI x19) x20 (nI x21) (nI x22) x23 x24 x25 (nI x26) x27 (nI x28) (nI x29) (nI x30) (nI x33) x45 (nI x46) (nI x52) (nI x53) (nI x61) (nI x62) (nI x63) (nI x65) x66 f1 f2 f3 (bN 3 q4) (bN 7 q5) (bN 7 q6) (bN 4 q7) f8 (bN 2 q9) (bH q10) f11 (b2 m12_0 m12_1) (b2 m13_0 m13_1) (b2 m14_0 m14_1) (b2m m15_0 m15_1) f17 (bA 159 q31) f32 f34 f35 f36 f37 (bN 7 q38) f39 f40 f41 (b2 m42_0 m42_1) f43 f44 f47 f48 f49 f50 f51 (bN 13 q54) (bN 120 q55) (bN 120 q56) f57 (bN 120 q58) f59 f60 f64)) sz)) 0 0 (va_A ((mo_w ad ck x0 (nI x16) (nI x18) (nI x19) x20 (nI x21) (nI x22) x23 x24 x25 (nI x26) x27 (nI x28) (nI x29) (nI x30) (nI x33) x45 (nI x46) (nI x52) (nI x53) (nI x61) (nI x62) (nI x63) (nI x65) x66 f1 f2 f3 (bN 3 q4) (bN 7 q5) (bN 7 q6) (bN 4 q7) f8 (bN 2 q9) (bH q10) f11 (b2 m12_0 m12_1) (b2 m13_0 m13_1) (b2 m14_0 m14_1) (b2m m15_0 m15_1) f17 (bA 159 q31) f32 f34 f35 f36 f37 (bN 7 q38) f39 f40 f41 (b2 m42_0 m42_1) f43 f44 f47 f48 f49 f50 f51 (bN 13 q54) (bN 120 q55) (bN 120 q56) f57 (bN 120 q58) f59 f60 f64)) sz) := by
  refine Met.ofW (cc := cX9_isStep) (maxL := 3) (ret := (some .boolean)) (by decide) rfl ?_
  intro p e s m args below meth c s₁ B hml hv
  obtain ⟨rfl, rfl, hP, hK, hD0⟩ := hv
  have hx := B.exec
  have hb := B.bytes
  have hr := B.returns
  have hts := atoms_spec (ws := vs_M_isStep) B.pre
  have v_10 := hts (.fieldLink RX9 429 "ClockReachModel" "pathMany" "I") (List.mem_cons_of_mem _ vm_326)
  have hown : s.vm.findClass RX9 = some m.cls := findClass_of_methodNamed B.named
  have hlocks := B.notSynchronized
  have hiX9 : ∀ w ∈ wsX90, w ∈ vs_M_isStep := fun _ h => List.mem_cons_of_mem _ (List.mem_append_right _ h)
  have hD := hD0.self (sz := s.heap.size)
  generalize hAe : va_A ((mo_w ad ck x0 (nI x16) (nI x18) (nI x19) x20 (nI x21) (nI x22) x23 x24 x25 (nI x26) x27 (nI x28) (nI x29) (nI x30) (nI x33) x45 (nI x46) (nI x52) (nI x53) (nI x61) (nI x62) (nI x63) (nI x65) x66 f1 f2 f3 (bN 3 q4) (bN 7 q5) (bN 7 q6) (bN 4 q7) f8 (bN 2 q9) (bH q10) f11 (b2 m12_0 m12_1) (b2 m13_0 m13_1) (b2 m14_0 m14_1) (b2m m15_0 m15_1) f17 (bA 159 q31) f32 f34 f35 f36 f37 (bN 7 q38) f39 f40 f41 (b2 m42_0 m42_1) f43 f44 f47 f48 f49 f50 f51 (bN 13 q54) (bN 120 q55) (bN 120 q56) f57 (bN 120 q58) f59 f60 f64)) s.heap.size = A at hD ⊢
  have hA : ∀ q : Nat, s.heap.size ≤ q → A q := fun q h => by rw [← hAe]; exact Or.inr h
  have hS : va_S A s.heap s.heap [] := va_S.rf
  have hl := lv_entry ([.ref (ad 0), .int p0, .int p1]) (n := 3) (Nat.le_of_ble_eq_true rfl)
  rw [lg_entry_eq]
  generalize (lg_sl ([.ref (ad 0), .int p0, .int p1]) ++ List.replicate (3 - (lg_sl ([.ref (ad 0), .int p0, .int p1])).length) Slot.unset).toArray = ls at hl ⊢
  have hl : lv_has ls 3 [(0, .ref (ad 0)), (1, .int p0), (2, .int p1)] := hl
  refine lv_aload_n hx hb dX9_isStep_0 rfl (lv_at hl 0 rfl) ?_
  refine lv_iload_n hx hb dX9_isStep_1 rfl (lv_at hl 1 rfl) ?_
  have hFc := pu_free hD hS hA
  refine va_calli (va_runV (As := [.int p0]) (rest := []) ⟨hx, hb, hml, hown, hts⟩ (c_M_isState l dC dI _ ad ck x0 x16 x18 x19 x20 x21 x22 x23 x24 x25 x26 x27 x28 x29 x30 x33 x45 x46 x52 x53 x61 x62 x63 x65 x66 f1 f2 f3 q4 q5 q6 q7 f8 q9 q10 f11 m12_0 m12_1 m13_0 m13_1 m14_0 m14_1 m15_0 m15_1 f17 q31 f32 f34 f35 f36 f37 q38 f39 f40 f41 m42_0 m42_1 f43 f44 f47 f48 f49 f50 f51 q54 q55 q56 f57 q58 f59 f60 f64 p0 hx16 hx18 hx19 hx21 hx22 hx26 hx28 hx29 hx30 hx33 hx46 hx52 hx53 hx61 hx62 hx63 hx65 hm12_0 hm12_1 hm13_0 hm13_1 hm14_0 hm14_1 hm15_0 hm15_1 hm42_0 hm42_1) (cwV 1 hts g_M_isStep_M_isState rfl rfl rfl (by decide +kernel) ⟨Nat.le_of_ble_eq_true rfl, Nat.le_of_ble_eq_true rfl⟩) ⟨pu_bl, va_recv hK hP (ci := 9) (q0 := 0) rfl rfl, pu_in hP hK hD⟩ rfl rfl hl.1 rfl (lv_room (Nat.le_of_ble_eq_true rfl)) dX9_isStep_2 ⟨Nat.le_of_ble_eq_true rfl, Nat.le_of_ble_eq_true rfl⟩) hS (fun q _ h => hFc q h) hFc (fun r_1 u t H1 locs ht hvm hw hB hz1 hk1 hS => ?_)
  obtain ⟨z46_2, ⟨hP1, -, hD1⟩, hz46_2⟩ := hB
  rw [ht] at hP1
  have hP := hP1
  have hD := pu_all hFc hD1
  clear hP1 hD1 hFc
  clear hk1 hz1 ht hvm
  generalize H1 = H at hP hS ⊢
  rcases hw with ⟨rfl, hw⟩ | rfl
  · obtain ⟨n_3, hn_3, rfl⟩ := hw
    refine lv_if_ne (tgt := 10) hx hb dX9_isStep_5 (by decide) (fun _ => ?_) (fun z => absurd z (by decide))
    refine lv_aload_n hx hb dX9_isStep_10 rfl (lv_at hl 0 rfl) ?_
    refine lv_iload_n hx hb dX9_isStep_11 rfl (lv_at hl 1 rfl) ?_
    have hFc := pu_free hD hS hA
    refine va_callv (va_runV (As := [.int (nI n_3)]) (rest := []) ⟨hx, hb, hml, hown, hts⟩ (c_M_layPath l dC dI _ ad ck x0 x16 x18 x19 x20 x21 x22 x23 x24 x25 x26 x27 x28 x29 x30 x33 x45 z46_2 x52 x53 x61 x62 x63 x65 x66 f1 f2 f3 q4 q5 q6 q7 f8 q9 q10 f11 m12_0 m12_1 m13_0 m13_1 m14_0 m14_1 m15_0 m15_1 f17 q31 f32 f34 f35 f36 f37 q38 f39 f40 f41 m42_0 m42_1 f43 f44 f47 f48 f49 f50 f51 q54 q55 q56 f57 q58 f59 f60 f64 n_3 hx16 hx18 hx19 hx21 hx22 hx26 hx28 hx29 hx30 hx33 (Nat.le_trans hz46_2 (Nat.le_of_ble_eq_true rfl)) hx52 hx53 hx61 hx62 hx63 hx65 hm12_0 hm12_1 hm13_0 hm13_1 hm14_0 hm14_1 hm15_0 hm15_1 hm42_0 hm42_1 (by omega) (by first | assumption | exact gz_0) (by omega)) (cwV 1 hts g_M_isStep_M_layPath rfl rfl rfl (by decide +kernel) ⟨Nat.le_of_ble_eq_true rfl, Nat.le_of_ble_eq_true rfl⟩) ⟨pu_bl, va_recv hK hP (ci := 9) (q0 := 0) rfl rfl, pu_in hP hK hD⟩ rfl rfl hl.1 rfl (lv_room (Nat.le_of_ble_eq_true rfl)) dX9_isStep_12 ⟨Nat.le_of_ble_eq_true rfl, Nat.le_of_ble_eq_true rfl⟩) hS (fun q _ h => hFc q h) hFc (fun u t H1 locs ht hvm hw hB hz1 hk1 hS => ?_)
    obtain ⟨z54_5, z61_6, ⟨hP1, -, hD1⟩, hz61_6⟩ := hB
    rw [ht] at hP1
    have hP := hP1
    have hD := pu_all hFc hD1
    clear hP1 hD1 hFc
    clear hk1 hz1 ht hvm
    generalize H1 = H at hP hS ⊢
    refine lv_iload_n hx hb dX9_isStep_15 rfl (lv_at hl 2 rfl) ?_
    refine lv_iconst (v := 0) hx hb dX9_isStep_16 (by decide) ?_
    refine lv_aload_n hx hb dX9_isStep_17 rfl (lv_at hl 0 rfl) ?_
    refine va_get (D := (dC, dI)) (ci := 9) (v := .int (nI z61_6)) (C := RX9) (T := TX9) (N := 67) hx hb hts hiX9 hown hK hP 0 rfl rfl 61 (by decide) v_10 (fun _ h9 => h9) rfl dX9_isStep_18 ?_
    refine lv_iconst (v := 1) hx hb dX9_isStep_21 (by decide) ?_
    refine lv_isub hx hb dX9_isStep_22 ?_
    refine va_calli (va_runS (As := [.int p1, .int 0, .int ((nI z61_6) - 1)]) (rest := []) ⟨hx, hb, hml, hown, hts⟩ (c_X9_in l dC dI _ p1 0 ((nI z61_6) - 1)) (va_cwS 3 hts g_M_isStep_X9_in rfl rfl rfl (by decide +kernel) ⟨Nat.le_of_ble_eq_true rfl, Nat.le_of_ble_eq_true rfl⟩) ⟨pu_bl, pu_in (hP.sub [] rfl) (hK.sub [] rfl) (hD.sub [] (by decide) rfl)⟩ rfl rfl hl.1 rfl (lv_room (Nat.le_of_ble_eq_true rfl)) dX9_isStep_23 ⟨Nat.le_of_ble_eq_true rfl, Nat.le_of_ble_eq_true rfl⟩) hS (fun q _ h => pu_fr hS hA q h) (pu_fr hS hA) (fun r_7 u t H1 locs ht hvm hw hB hz1 hk1 hS => ?_)
    have hP := pu_keep hP hk1
    clear hk1 hz1 ht hvm
    generalize H1 = H at hP hS ⊢
    rcases hw with ⟨rfl, hi1, hi2⟩ | ⟨rfl, hi3⟩
    · obtain ⟨n_8, hn_8, rfl⟩ := pu_in1 (n := z61_6) (by omega) hi1 hi2
      exact W.zret (v := 1) (ty := .boolean) hx hb hr (rfl) (fun t ht hW => ⟨⟨1, (), rfl, Or.inl ⟨rfl, n_8, by omega, rfl⟩, ⟨z54_5, z46_2, z61_6, ⟨by rw [ht]; exact hP, va_K.moved hW.alike hK, hD⟩, (Nat.le_trans hz46_2 (Nat.le_of_ble_eq_true rfl)), hz61_6⟩⟩, hS.F ht⟩) hS.2.2 dX9_isStep_26
    · exact W.zret (v := 0) (ty := .boolean) hx hb hr (rfl) (fun t ht hW => ⟨⟨0, (), rfl, Or.inr rfl, ⟨z54_5, z46_2, z61_6, ⟨by rw [ht]; exact hP, va_K.moved hW.alike hK, hD⟩, (Nat.le_trans hz46_2 (Nat.le_of_ble_eq_true rfl)), hz61_6⟩⟩, hS.F ht⟩) hS.2.2 dX9_isStep_26
  · refine lv_if_ne (tgt := 10) hx hb dX9_isStep_5 (by decide) (fun z => absurd z (by decide)) (fun _ => ?_)
    refine lv_iconst (v := 0) hx hb dX9_isStep_8 (by decide) ?_
    exact W.zret (v := 0) (ty := .boolean) hx hb hr (rfl) (fun t ht hW => ⟨⟨0, (), rfl, Or.inr rfl, ⟨q54, z46_2, x61, ⟨by rw [ht]; exact hP, va_K.moved hW.alike hK, hD⟩, (Nat.le_trans hz46_2 (Nat.le_of_ble_eq_true rfl)), hx61⟩⟩, hS.F ht⟩) hS.2.2 dX9_isStep_9
theorem dX9_run_0 : decode cX9_run 0 = .ok (.aload_n 0, 1) := by decide +kernel
theorem dX9_run_1 : decode cX9_run 1 = .ok (.iconst 0, 1) := by decide +kernel
theorem dX9_run_2 : decode cX9_run 2 = .ok (.putfield 142, 3) := by decide +kernel
theorem dX9_run_5 : decode cX9_run 5 = .ok (.aload_n 0, 1) := by decide +kernel
theorem dX9_run_6 : decode cX9_run 6 = .ok (.iload_n 1, 1) := by decide +kernel
theorem dX9_run_7 : decode cX9_run 7 = .ok (.iload_n 2, 1) := by decide +kernel
theorem dX9_run_8 : decode cX9_run 8 = .ok (.invokevirtual 454, 3) := by decide +kernel
theorem dX9_run_11 : decode cX9_run 11 = .ok (.ifCond .eq 12, 3) := by decide +kernel
theorem dX9_run_14 : decode cX9_run 14 = .ok (.aload_n 0, 1) := by decide +kernel
theorem dX9_run_15 : decode cX9_run 15 = .ok (.getfield 118, 3) := by decide +kernel
theorem dX9_run_18 : decode cX9_run 18 = .ok (.iload_n 2, 1) := by decide +kernel
theorem dX9_run_19 : decode cX9_run 19 = .ok (.iaload, 1) := by decide +kernel
theorem dX9_run_20 : decode cX9_run 20 = .ok (.goto 4, 3) := by decide +kernel
theorem dX9_run_23 : decode cX9_run 23 = .ok (.iconst (-1), 1) := by decide +kernel
theorem dX9_run_24 : decode cX9_run 24 = .ok (.ireturn, 1) := by decide +kernel
abbrev vs_M_run : List Cond := .code yX9_run cX9_run 3 (some .int) :: VM
theorem g_M_run_M_isStep : GoodIn vs_M_run (wsV RX9 454 RX9 yX9_isStep vs_M_isStep) := gm_V vm_357 vm_358 vm_359 vm_12 vm_352
set_option maxHeartbeats 4000000 in
set_option maxRecDepth 100000 in
theorem c_M_run (l : Launch) (dC : Nat → ClassId) (dI : Nat → Nat → Nat) (sz : Nat) (ad : Nat → Nat) (ck : Nat → ClassId) (x0 : Int32) (x16 : Nat) (x18 : Nat) (x19 : Nat) (x20 : Int32) (x21 : Nat) (x22 : Nat) (x23 : Int32) (x24 : Int32) (x25 : Int32) (x26 : Nat) (x27 : Int32) (x28 : Nat) (x29 : Nat) (x30 : Nat) (x33 : Nat) (x45 : Int32) (x46 : Nat) (x52 : Nat) (x53 : Nat) (x61 : Nat) (x62 : Nat) (x63 : Nat) (x65 : Nat) (x66 : Int32) (f1 : Nat → Int32) (f2 : Nat → Int32) (f3 : Nat → Int32) (q4 : Nat → Nat) (q5 : Nat → Nat) (q6 : Nat → Nat) (q7 : Nat → Nat) (f8 : Nat → Int32) (q9 : Nat → Nat) (q10 : Nat → Nat) (f11 : Nat → Int32) (m12_0 m12_1 : Nat) (m13_0 m13_1 : Nat) (m14_0 m14_1 : Nat) (m15_0 m15_1 : Nat) (f17 : Nat → Int32) (q31 : Nat → Nat) (f32 : Nat → Int32) (f34 : Nat → Int32) (f35 : Nat → Int32) (f36 : Nat → Int32) (f37 : Nat → Int32) (q38 : Nat → Nat) (f39 : Nat → Int32) (f40 : Nat → Int32) (f41 : Nat → Int32) (m42_0 m42_1 : Nat) (f43 : Nat → Int32) (f44 : Nat → Int32) (f47 : Nat → Int32) (f48 : Nat → Int32) (f49 : Nat → Int32) (f50 : Nat → Int32) (f51 : Nat → Int32) (q54 : Nat → Nat) (q55 : Nat → Nat) (q56 : Nat → Nat) (f57 : Nat → Int32) (q58 : Nat → Nat) (f59 : Nat → Int32) (f60 : Nat → Int32) (f64 : Nat → Int32) (p0 : Int32) (p1 : Int32) (hx16 : x16 ≤ 1) (hx18 : x18 ≤ 900) (hx19 : x19 ≤ 900) (hx21 : x21 ≤ 900) (hx22 : x22 ≤ 4) (hx26 : x26 ≤ 6) (hx28 : x28 ≤ 1) (hx29 : x29 ≤ 1) (hx30 : x30 ≤ 1) (hx33 : x33 ≤ 20) (hx46 : x46 ≤ 5) (hx52 : x52 ≤ 2400) (hx53 : x53 ≤ 119) (hx61 : x61 ≤ 119) (hx62 : x62 ≤ 2000) (hx63 : x63 ≤ 1) (hx65 : x65 ≤ 7) (hm12_0 : m12_0 ≤ 3) (hm12_1 : m12_1 ≤ 3) (hm13_0 : m13_0 ≤ 8) (hm13_1 : m13_1 ≤ 8) (hm14_0 : m14_0 ≤ 14) (hm14_1 : m14_1 ≤ 14) (hm15_0 : m15_0 ≤ 8) (hm15_1 : m15_1 ≤ 8) (hm42_0 : m42_0 ≤ 120) (hm42_1 : m42_1 ≤ 400) (hgr : gz_ok m42_0 f39 f40 f41) : Met l yX9_run vs_M_run ({ frames := 3, cells := 0, slots := 0, locals := 65 }) (va_Pc [.ref (ad 0), .int p0, .int p1] (pu_B (dC, dI) (mo_w ad ck x0 (nI x16) (nI x18) (nI x19) x20 (nI x21) (nI x22) x23 x24 x25 (nI x26) x27 (nI x28) (nI x29) (nI x30) (nI x33) x45 (nI x46) (nI x52) (nI x53) (nI x61) (nI x62) (nI x63) (nI x65) x66 f1 f2 f3 (bN 3 q4) (bN 7 q5) (bN 7 q6) (bN 4 q7) f8 (bN 2 q9) (bH q10) f11 (b2 m12_0 m12_1) (b2 m13_0 m13_1) (b2 m14_0 m14_1) (b2m m15_0 m15_1) f17 (bA 159 q31) f32 f34 f35 f36 f37 (bN 7 q38) f39 f40 f41 (b2 m42_0 m42_1) f43 f44 f47 f48 f49 f50 f51 (bN 13 q54) (bN 120 q55) (bN 120 q56) f57 (bN 120 q58) f59 f60 f64) (mo_t ck) sz)) (va_Qi (fun (r : Int32) (_ : Unit) => True) (fun _ t => ∃ (z54 : Nat → Nat) (z0 : Int32) (z46 : Nat) (z61 : Nat), pu_E (dC, dI) (mo_w ad ck z0 (nI x16) (nI x18) (nI x19) x20 (nI x21) (nI x22) x23 x24 x25 (nI x26) x27 (nI x28) (nI x29) (nI x30) (nI x33) x45 (nI z46) (nI x52) (nI x53) (nI z61) (nI x62) (nI x63) (nI x65) x66 f1 f2 f3 (bN 3 q4) (bN 7 q5) (bN 7 q6) (bN 4 q7) f8 (bN 2 q9) (bH q10) f11 (b2 m12_0 m12_1) (b2 m13_0 m13_1) (b2 m14_0 m14_1) (b2m m15_0 m15_1) f17 (bA 159 q31) f32 f34 f35 f36 f37 (bN 7 q38) f39 f40 f41 (b2 m42_0 m42_1) f43 f44 f47 f48 f49 f50 f51 (bN 13 z54) (bN 120 q55) (bN 120 q56) f57 (bN 120 q58) f59 f60 f64) (mo_t ck) (va_A ((mo_w ad ck x0 (nI x16) (nI x18) (nI x19) x20 (nI x21) (nI x22) x23 x24 x25 (nI x26) x27 (nI x28) (nI x29) (nI x30) (nI x33) x45 (nI x46) (nI x52) (nI x53) (nI x61) (nI x62) (nI x63) (nI x65) x66 f1 f2 f3 (bN 3 q4) (bN 7 q5) (bN 7 q6) (bN 4 q7) f8 (bN 2 q9) (bH q10) f11 (b2 m12_0 m12_1) (b2 m13_0 m13_1) (b2 m14_0 m14_1) (b2m m15_0 m15_1) f17 (bA 159 q31) f32 f34 f35 f36 f37 (bN 7 q38) f39 f40 f41 (b2 m42_0 m42_1) f43 f44 f47 f48 f49 f50 f51 (bN 13 q54) (bN 120 q55) (bN 120 q56) f57 (bN 120 q58) f59 f60 f64)) sz) t ∧ (z46 ≤ 5) ∧ (z61 ≤ 119)) (va_A ((mo_w ad ck x0 (nI x16) (nI x18) (nI x19) x20 (nI x21) (nI x22) x23 x24 x25 (nI x26) x27 (nI x28) (nI x29) (nI x30) (nI x33) x45 (nI x46) (nI x52) (nI x53) (nI x61) (nI x62) (nI x63) (nI x65) x66 f1 f2 f3 (bN 3 q4) (bN 7 q5) (bN 7 q6) (bN 4 q7) f8 (bN 2 q9) (bH q10) f11 (b2 m12_0 m12_1) (b2 m13_0 m13_1) (b2 m14_0 m14_1) (b2m m15_0 m15_1) f17 (bA 159 q31) f32 f34 f35 f36 f37 (bN 7 q38) f39 f40 f41 (b2 m42_0 m42_1) f43 f44 f47 f48 f49 f50 f51 (bN 13 q54) (bN 120 q55) (bN 120 q56) f57 (bN 120 q58) f59 f60 f64)) sz)) 0 0 (va_A ((mo_w ad ck x0 (nI x16) (nI x18) (nI x19) x20 (nI x21) (nI x22) x23 x24 x25 (nI x26) x27 (nI x28) (nI x29) (nI x30) (nI x33) x45 (nI x46) (nI x52) (nI x53) (nI x61) (nI x62) (nI x63) (nI x65) x66 f1 f2 f3 (bN 3 q4) (bN 7 q5) (bN 7 q6) (bN 4 q7) f8 (bN 2 q9) (bH q10) f11 (b2 m12_0 m12_1) (b2 m13_0 m13_1) (b2 m14_0 m14_1) (b2m m15_0 m15_1) f17 (bA 159 q31) f32 f34 f35 f36 f37 (bN 7 q38) f39 f40 f41 (b2 m42_0 m42_1) f43 f44 f47 f48 f49 f50 f51 (bN 13 q54) (bN 120 q55) (bN 120 q56) f57 (bN 120 q58) f59 f60 f64)) sz) := by
  refine Met.ofW (cc := cX9_run) (maxL := 3) (ret := (some .int)) (by decide) rfl ?_
  intro p e s m args below meth c s₁ B hml hv
  obtain ⟨rfl, rfl, hP, hK, hD0⟩ := hv
  have hx := B.exec
  have hb := B.bytes
  have hr := B.returns
  have hts := atoms_spec (ws := vs_M_run) B.pre
  have v_1 := hts (.fieldLink RX9 142 "ClockReachModel" "thrown" "I") (List.mem_cons_of_mem _ vm_24)
  have v_7 := hts (.fieldLink RX9 118 "ClockReachModel" "path" "[I") (List.mem_cons_of_mem _ vm_327)
  have hown : s.vm.findClass RX9 = some m.cls := findClass_of_methodNamed B.named
  have hlocks := B.notSynchronized
  have hiX9 : ∀ w ∈ wsX90, w ∈ vs_M_run := fun _ h => List.mem_cons_of_mem _ (List.mem_append_right _ h)
  have hD := hD0.self (sz := s.heap.size)
  generalize hAe : va_A ((mo_w ad ck x0 (nI x16) (nI x18) (nI x19) x20 (nI x21) (nI x22) x23 x24 x25 (nI x26) x27 (nI x28) (nI x29) (nI x30) (nI x33) x45 (nI x46) (nI x52) (nI x53) (nI x61) (nI x62) (nI x63) (nI x65) x66 f1 f2 f3 (bN 3 q4) (bN 7 q5) (bN 7 q6) (bN 4 q7) f8 (bN 2 q9) (bH q10) f11 (b2 m12_0 m12_1) (b2 m13_0 m13_1) (b2 m14_0 m14_1) (b2m m15_0 m15_1) f17 (bA 159 q31) f32 f34 f35 f36 f37 (bN 7 q38) f39 f40 f41 (b2 m42_0 m42_1) f43 f44 f47 f48 f49 f50 f51 (bN 13 q54) (bN 120 q55) (bN 120 q56) f57 (bN 120 q58) f59 f60 f64)) s.heap.size = A at hD ⊢
  have hA : ∀ q : Nat, s.heap.size ≤ q → A q := fun q h => by rw [← hAe]; exact Or.inr h
  have hS : va_S A s.heap s.heap [] := va_S.rf
  have hl := lv_entry ([.ref (ad 0), .int p0, .int p1]) (n := 3) (Nat.le_of_ble_eq_true rfl)
  rw [lg_entry_eq]
  generalize (lg_sl ([.ref (ad 0), .int p0, .int p1]) ++ List.replicate (3 - (lg_sl ([.ref (ad 0), .int p0, .int p1])).length) Slot.unset).toArray = ls at hl ⊢
  have hl : lv_has ls 3 [(0, .ref (ad 0)), (1, .int p0), (2, .int p1)] := hl
  refine lv_aload_n hx hb dX9_run_0 rfl (lv_at hl 0 rfl) ?_
  refine lv_iconst (v := 0) hx hb dX9_run_1 (by decide) ?_
  refine va_put (D := (dC, dI)) (ci := 9) (v := .int 0) (ty := .int) (C := RX9) (T := TX9) (N := 67) hx hb hts hiX9 tyX9 tyX9_ok nmX9 hown hK hP hD hS 0 rfl rfl 0 (by decide) v_1 (fun _ h9 => h9) rfl (by decide +kernel) rfl rfl (Nat.le_of_ble_eq_true rfl) dX9_run_2 (fun H locs hP hD hS => ?_)
  have hP : va_P (dC, dI) vwCl (mo_w ad ck 0 (nI x16) (nI x18) (nI x19) x20 (nI x21) (nI x22) x23 x24 x25 (nI x26) x27 (nI x28) (nI x29) (nI x30) (nI x33) x45 (nI x46) (nI x52) (nI x53) (nI x61) (nI x62) (nI x63) (nI x65) x66 f1 f2 f3 (bN 3 q4) (bN 7 q5) (bN 7 q6) (bN 4 q7) f8 (bN 2 q9) (bH q10) f11 (b2 m12_0 m12_1) (b2 m13_0 m13_1) (b2 m14_0 m14_1) (b2m m15_0 m15_1) f17 (bA 159 q31) f32 f34 f35 f36 f37 (bN 7 q38) f39 f40 f41 (b2 m42_0 m42_1) f43 f44 f47 f48 f49 f50 f51 (bN 13 q54) (bN 120 q55) (bN 120 q56) f57 (bN 120 q58) f59 f60 f64) H := hP
  have hD : va_D A (mo_w ad ck 0 (nI x16) (nI x18) (nI x19) x20 (nI x21) (nI x22) x23 x24 x25 (nI x26) x27 (nI x28) (nI x29) (nI x30) (nI x33) x45 (nI x46) (nI x52) (nI x53) (nI x61) (nI x62) (nI x63) (nI x65) x66 f1 f2 f3 (bN 3 q4) (bN 7 q5) (bN 7 q6) (bN 4 q7) f8 (bN 2 q9) (bH q10) f11 (b2 m12_0 m12_1) (b2 m13_0 m13_1) (b2 m14_0 m14_1) (b2m m15_0 m15_1) f17 (bA 159 q31) f32 f34 f35 f36 f37 (bN 7 q38) f39 f40 f41 (b2 m42_0 m42_1) f43 f44 f47 f48 f49 f50 f51 (bN 13 q54) (bN 120 q55) (bN 120 q56) f57 (bN 120 q58) f59 f60 f64) := hD
  refine lv_aload_n hx hb dX9_run_5 rfl (lv_at hl 0 rfl) ?_
  refine lv_iload_n hx hb dX9_run_6 rfl (lv_at hl 1 rfl) ?_
  refine lv_iload_n hx hb dX9_run_7 rfl (lv_at hl 2 rfl) ?_
  have hFc := pu_free hD hS hA
  refine va_calli (va_runV (As := [.int p0, .int p1]) (rest := []) ⟨hx, hb, hml, hown, hts⟩ (c_M_isStep l dC dI _ ad ck 0 x16 x18 x19 x20 x21 x22 x23 x24 x25 x26 x27 x28 x29 x30 x33 x45 x46 x52 x53 x61 x62 x63 x65 x66 f1 f2 f3 q4 q5 q6 q7 f8 q9 q10 f11 m12_0 m12_1 m13_0 m13_1 m14_0 m14_1 m15_0 m15_1 f17 q31 f32 f34 f35 f36 f37 q38 f39 f40 f41 m42_0 m42_1 f43 f44 f47 f48 f49 f50 f51 q54 q55 q56 f57 q58 f59 f60 f64 p0 p1 hx16 hx18 hx19 hx21 hx22 hx26 hx28 hx29 hx30 hx33 hx46 hx52 hx53 hx61 hx62 hx63 hx65 hm12_0 hm12_1 hm13_0 hm13_1 hm14_0 hm14_1 hm15_0 hm15_1 hm42_0 hm42_1 (by first | assumption | exact gz_0)) (cwV 2 hts g_M_run_M_isStep rfl rfl rfl (by decide +kernel) ⟨Nat.le_of_ble_eq_true rfl, Nat.le_of_ble_eq_true rfl⟩) ⟨pu_bl, va_recv hK hP (ci := 9) (q0 := 0) rfl rfl, pu_in hP hK hD⟩ rfl rfl hl.1 rfl (lv_room (Nat.le_of_ble_eq_true rfl)) dX9_run_8 ⟨Nat.le_of_ble_eq_true rfl, Nat.le_of_ble_eq_true rfl⟩) hS (fun q _ h => hFc q h) hFc (fun r_1 u t H1 locs ht hvm hw hB hz1 hk1 hS => ?_)
  obtain ⟨z54_2, z46_3, z61_4, ⟨hP1, -, hD1⟩, hz46_3, hz61_4⟩ := hB
  rw [ht] at hP1
  have hP := hP1
  have hD := pu_all hFc hD1
  clear hP1 hD1 hFc
  clear hk1 hz1 ht hvm
  generalize H1 = H at hP hS ⊢
  rcases hw with ⟨rfl, hw⟩ | rfl
  · obtain ⟨n_5, hn_5, rfl⟩ := hw
    refine lv_if_eq (tgt := 23) hx hb dX9_run_11 (by decide) (fun z => absurd z (by decide)) (fun _ => ?_)
    refine lv_aload_n hx hb dX9_run_14 rfl (lv_at hl 0 rfl) ?_
    refine va_get (D := (dC, dI)) (ci := 9) (v := .ref (ad 54)) (C := RX9) (T := TX9) (N := 67) hx hb hts hiX9 hown hK hP 0 rfl rfl 54 (by decide) v_7 (fun _ h9 => h9) rfl dX9_run_15 ?_
    refine lv_iload_n hx hb dX9_run_18 rfl (lv_at hl 2 rfl) ?_
    refine va_iald hx hb hK hP 35 34 rfl rfl (vp_in_nI (n := n_5) (by omega) (Nat.le_of_ble_eq_true rfl)) dX9_run_19 ?_
    refine lv_topi (fun y_6 ey_6 => ?_)
    obtain ⟨u_7, hu_7, qu_7⟩ := bN_get 13 z54_2 (((nI n_5) : Int32).toNatClampNeg)
    obtain rfl : y_6 = nI u_7 := ey_6.trans qu_7
    refine lv_goto (tgt := 24) hx hb dX9_run_20 (by decide) ?_
    exact W.iret (v := (nI u_7)) hx hb hr (fun t ht hW => ⟨⟨(nI u_7), (), rfl, trivial, ⟨z54_2, 0, z46_3, z61_4, ⟨by rw [ht]; exact hP, va_K.moved hW.alike hK, hD⟩, hz46_3, hz61_4⟩⟩, hS.F ht⟩) hS.2.2 dX9_run_24
  · refine lv_if_eq (tgt := 23) hx hb dX9_run_11 (by decide) (fun _ => ?_) (fun z => absurd z (by decide))
    refine lv_iconst (v := (-1)) hx hb dX9_run_23 (by decide) ?_
    exact W.iret (v := (-1)) hx hb hr (fun t ht hW => ⟨⟨(-1), (), rfl, trivial, ⟨z54_2, 0, z46_3, z61_4, ⟨by rw [ht]; exact hP, va_K.moved hW.alike hK, hD⟩, hz46_3, hz61_4⟩⟩, hS.F ht⟩) hS.2.2 dX9_run_24
theorem dX9_when_0 : decode cX9_when 0 = .ok (.aload_n 0, 1) := by decide +kernel
theorem dX9_when_1 : decode cX9_when 1 = .ok (.iconst 0, 1) := by decide +kernel
theorem dX9_when_2 : decode cX9_when 2 = .ok (.putfield 142, 3) := by decide +kernel
theorem dX9_when_5 : decode cX9_when 5 = .ok (.aload_n 0, 1) := by decide +kernel
theorem dX9_when_6 : decode cX9_when 6 = .ok (.iload_n 1, 1) := by decide +kernel
theorem dX9_when_7 : decode cX9_when 7 = .ok (.iload_n 2, 1) := by decide +kernel
theorem dX9_when_8 : decode cX9_when 8 = .ok (.invokevirtual 454, 3) := by decide +kernel
theorem dX9_when_11 : decode cX9_when 11 = .ok (.ifCond .eq 21, 3) := by decide +kernel
theorem dX9_when_14 : decode cX9_when 14 = .ok (.aload_n 0, 1) := by decide +kernel
theorem dX9_when_15 : decode cX9_when 15 = .ok (.invokevirtual 457, 3) := by decide +kernel
theorem dX9_when_18 : decode cX9_when 18 = .ok (.ifCond .eq 14, 3) := by decide +kernel
theorem dX9_when_21 : decode cX9_when 21 = .ok (.aload_n 0, 1) := by decide +kernel
theorem dX9_when_22 : decode cX9_when 22 = .ok (.getfield 133, 3) := by decide +kernel
theorem dX9_when_25 : decode cX9_when 25 = .ok (.iload_n 2, 1) := by decide +kernel
theorem dX9_when_26 : decode cX9_when 26 = .ok (.iconst 1, 1) := by decide +kernel
theorem dX9_when_27 : decode cX9_when 27 = .ok (.iadd, 1) := by decide +kernel
theorem dX9_when_28 : decode cX9_when 28 = .ok (.iaload, 1) := by decide +kernel
theorem dX9_when_29 : decode cX9_when 29 = .ok (.goto 4, 3) := by decide +kernel
theorem dX9_when_32 : decode cX9_when 32 = .ok (.iconst (-1), 1) := by decide +kernel
theorem dX9_when_33 : decode cX9_when 33 = .ok (.ireturn, 1) := by decide +kernel
abbrev vs_M_when : List Cond := .code yX9_when cX9_when 3 (some .int) :: VM
theorem g_M_when_M_isStep : GoodIn vs_M_when (wsV RX9 454 RX9 yX9_isStep vs_M_isStep) := gm_V vm_357 vm_358 vm_359 vm_12 vm_352
theorem g_M_when_M_laysLeast : GoodIn vs_M_when (wsV RX9 457 RX9 yX9_laysLeast vs_M_laysLeast) := gm_V vm_361 vm_362 vm_363 vm_12 vm_343
set_option maxHeartbeats 4000000 in
set_option maxRecDepth 100000 in
theorem c_M_when (l : Launch) (dC : Nat → ClassId) (dI : Nat → Nat → Nat) (sz : Nat) (ad : Nat → Nat) (ck : Nat → ClassId) (x0 : Int32) (x16 : Nat) (x18 : Nat) (x19 : Nat) (x20 : Int32) (x21 : Nat) (x22 : Nat) (x23 : Int32) (x24 : Int32) (x25 : Int32) (x26 : Nat) (x27 : Int32) (x28 : Nat) (x29 : Nat) (x30 : Nat) (x33 : Nat) (x45 : Int32) (x46 : Nat) (x52 : Nat) (x53 : Nat) (x61 : Nat) (x62 : Nat) (x63 : Nat) (x65 : Nat) (x66 : Int32) (f1 : Nat → Int32) (f2 : Nat → Int32) (f3 : Nat → Int32) (q4 : Nat → Nat) (q5 : Nat → Nat) (q6 : Nat → Nat) (q7 : Nat → Nat) (f8 : Nat → Int32) (q9 : Nat → Nat) (q10 : Nat → Nat) (f11 : Nat → Int32) (m12_0 m12_1 : Nat) (m13_0 m13_1 : Nat) (m14_0 m14_1 : Nat) (m15_0 m15_1 : Nat) (f17 : Nat → Int32) (q31 : Nat → Nat) (f32 : Nat → Int32) (f34 : Nat → Int32) (f35 : Nat → Int32) (f36 : Nat → Int32) (f37 : Nat → Int32) (q38 : Nat → Nat) (f39 : Nat → Int32) (f40 : Nat → Int32) (f41 : Nat → Int32) (m42_0 m42_1 : Nat) (f43 : Nat → Int32) (f44 : Nat → Int32) (f47 : Nat → Int32) (f48 : Nat → Int32) (f49 : Nat → Int32) (f50 : Nat → Int32) (f51 : Nat → Int32) (q54 : Nat → Nat) (q55 : Nat → Nat) (q56 : Nat → Nat) (f57 : Nat → Int32) (q58 : Nat → Nat) (f59 : Nat → Int32) (f60 : Nat → Int32) (f64 : Nat → Int32) (p0 : Int32) (p1 : Int32) (hx16 : x16 ≤ 1) (hx18 : x18 ≤ 900) (hx19 : x19 ≤ 900) (hx21 : x21 ≤ 900) (hx22 : x22 ≤ 4) (hx26 : x26 ≤ 6) (hx28 : x28 ≤ 1) (hx29 : x29 ≤ 1) (hx30 : x30 ≤ 1) (hx33 : x33 ≤ 20) (hx46 : x46 ≤ 5) (hx52 : x52 ≤ 2400) (hx53 : x53 ≤ 119) (hx61 : x61 ≤ 119) (hx62 : x62 ≤ 2000) (hx63 : x63 ≤ 1) (hx65 : x65 ≤ 7) (hm12_0 : m12_0 ≤ 3) (hm12_1 : m12_1 ≤ 3) (hm13_0 : m13_0 ≤ 8) (hm13_1 : m13_1 ≤ 8) (hm14_0 : m14_0 ≤ 14) (hm14_1 : m14_1 ≤ 14) (hm15_0 : m15_0 ≤ 8) (hm15_1 : m15_1 ≤ 8) (hm42_0 : m42_0 ≤ 120) (hm42_1 : m42_1 ≤ 400) (hbg : (x16 = 0 ∧ (m13_0 = 0 ∨ 1 ≤ m15_0)) ∨ (x16 = 1 ∧ (m13_1 = 0 ∨ 1 ≤ m15_1))) (hgr : gz_ok m42_0 f39 f40 f41) : Met l yX9_when vs_M_when ({ frames := 6, cells := 0, slots := 0, locals := 136 }) (va_Pc [.ref (ad 0), .int p0, .int p1] (pu_B (dC, dI) (mo_w ad ck x0 (nI x16) (nI x18) (nI x19) x20 (nI x21) (nI x22) x23 x24 x25 (nI x26) x27 (nI x28) (nI x29) (nI x30) (nI x33) x45 (nI x46) (nI x52) (nI x53) (nI x61) (nI x62) (nI x63) (nI x65) x66 f1 f2 f3 (bN 3 q4) (bN 7 q5) (bN 7 q6) (bN 4 q7) f8 (bN 2 q9) (bH q10) f11 (b2 m12_0 m12_1) (b2 m13_0 m13_1) (b2 m14_0 m14_1) (b2m m15_0 m15_1) f17 (bA 159 q31) f32 f34 f35 f36 f37 (bN 7 q38) f39 f40 f41 (b2 m42_0 m42_1) f43 f44 f47 f48 f49 f50 f51 (bN 13 q54) (bN 120 q55) (bN 120 q56) f57 (bN 120 q58) f59 f60 f64) (mo_t ck) sz)) (va_Qi (fun (r : Int32) (_ : Unit) => True) (fun _ t => ∃ (z54 : Nat → Nat) (z55 : Nat → Nat) (z56 : Nat → Nat) (z57 : Nat → Int32) (z58 : Nat → Nat) (z59 : Nat → Int32) (z0 : Int32) (z46 : Nat) (z61 : Nat) (z62 : Nat) (z63 : Nat), pu_E (dC, dI) (mo_w ad ck z0 (nI x16) (nI x18) (nI x19) x20 (nI x21) (nI x22) x23 x24 x25 (nI x26) x27 (nI x28) (nI x29) (nI x30) (nI x33) x45 (nI z46) (nI x52) (nI x53) (nI z61) (nI z62) (nI z63) (nI x65) x66 f1 f2 f3 (bN 3 q4) (bN 7 q5) (bN 7 q6) (bN 4 q7) f8 (bN 2 q9) (bH q10) f11 (b2 m12_0 m12_1) (b2 m13_0 m13_1) (b2 m14_0 m14_1) (b2m m15_0 m15_1) f17 (bA 159 q31) f32 f34 f35 f36 f37 (bN 7 q38) f39 f40 f41 (b2 m42_0 m42_1) f43 f44 f47 f48 f49 f50 f51 (bN 13 z54) (bN 120 z55) (bN 120 z56) z57 (bN 120 z58) z59 f60 f64) (mo_t ck) (va_A ((mo_w ad ck x0 (nI x16) (nI x18) (nI x19) x20 (nI x21) (nI x22) x23 x24 x25 (nI x26) x27 (nI x28) (nI x29) (nI x30) (nI x33) x45 (nI x46) (nI x52) (nI x53) (nI x61) (nI x62) (nI x63) (nI x65) x66 f1 f2 f3 (bN 3 q4) (bN 7 q5) (bN 7 q6) (bN 4 q7) f8 (bN 2 q9) (bH q10) f11 (b2 m12_0 m12_1) (b2 m13_0 m13_1) (b2 m14_0 m14_1) (b2m m15_0 m15_1) f17 (bA 159 q31) f32 f34 f35 f36 f37 (bN 7 q38) f39 f40 f41 (b2 m42_0 m42_1) f43 f44 f47 f48 f49 f50 f51 (bN 13 q54) (bN 120 q55) (bN 120 q56) f57 (bN 120 q58) f59 f60 f64)) sz) t ∧ (z46 ≤ 5) ∧ (z61 ≤ 119) ∧ (z62 ≤ 2000) ∧ (z63 ≤ 1)) (va_A ((mo_w ad ck x0 (nI x16) (nI x18) (nI x19) x20 (nI x21) (nI x22) x23 x24 x25 (nI x26) x27 (nI x28) (nI x29) (nI x30) (nI x33) x45 (nI x46) (nI x52) (nI x53) (nI x61) (nI x62) (nI x63) (nI x65) x66 f1 f2 f3 (bN 3 q4) (bN 7 q5) (bN 7 q6) (bN 4 q7) f8 (bN 2 q9) (bH q10) f11 (b2 m12_0 m12_1) (b2 m13_0 m13_1) (b2 m14_0 m14_1) (b2m m15_0 m15_1) f17 (bA 159 q31) f32 f34 f35 f36 f37 (bN 7 q38) f39 f40 f41 (b2 m42_0 m42_1) f43 f44 f47 f48 f49 f50 f51 (bN 13 q54) (bN 120 q55) (bN 120 q56) f57 (bN 120 q58) f59 f60 f64)) sz)) 0 0 (va_A ((mo_w ad ck x0 (nI x16) (nI x18) (nI x19) x20 (nI x21) (nI x22) x23 x24 x25 (nI x26) x27 (nI x28) (nI x29) (nI x30) (nI x33) x45 (nI x46) (nI x52) (nI x53) (nI x61) (nI x62) (nI x63) (nI x65) x66 f1 f2 f3 (bN 3 q4) (bN 7 q5) (bN 7 q6) (bN 4 q7) f8 (bN 2 q9) (bH q10) f11 (b2 m12_0 m12_1) (b2 m13_0 m13_1) (b2 m14_0 m14_1) (b2m m15_0 m15_1) f17 (bA 159 q31) f32 f34 f35 f36 f37 (bN 7 q38) f39 f40 f41 (b2 m42_0 m42_1) f43 f44 f47 f48 f49 f50 f51 (bN 13 q54) (bN 120 q55) (bN 120 q56) f57 (bN 120 q58) f59 f60 f64)) sz) := by
  refine Met.ofW (cc := cX9_when) (maxL := 3) (ret := (some .int)) (by decide) rfl ?_
  intro p e s m args below meth c s₁ B hml hv
  obtain ⟨rfl, rfl, hP, hK, hD0⟩ := hv
  have hx := B.exec
  have hb := B.bytes
  have hr := B.returns
  have hts := atoms_spec (ws := vs_M_when) B.pre
  have v_1 := hts (.fieldLink RX9 142 "ClockReachModel" "thrown" "I") (List.mem_cons_of_mem _ vm_24)
  have v_11 := hts (.fieldLink RX9 133 "ClockReachModel" "time" "[I") (List.mem_cons_of_mem _ vm_347)
  have hown : s.vm.findClass RX9 = some m.cls := findClass_of_methodNamed B.named
  have hlocks := B.notSynchronized
  have hiX9 : ∀ w ∈ wsX90, w ∈ vs_M_when := fun _ h => List.mem_cons_of_mem _ (List.mem_append_right _ h)
  have hD := hD0.self (sz := s.heap.size)
  generalize hAe : va_A ((mo_w ad ck x0 (nI x16) (nI x18) (nI x19) x20 (nI x21) (nI x22) x23 x24 x25 (nI x26) x27 (nI x28) (nI x29) (nI x30) (nI x33) x45 (nI x46) (nI x52) (nI x53) (nI x61) (nI x62) (nI x63) (nI x65) x66 f1 f2 f3 (bN 3 q4) (bN 7 q5) (bN 7 q6) (bN 4 q7) f8 (bN 2 q9) (bH q10) f11 (b2 m12_0 m12_1) (b2 m13_0 m13_1) (b2 m14_0 m14_1) (b2m m15_0 m15_1) f17 (bA 159 q31) f32 f34 f35 f36 f37 (bN 7 q38) f39 f40 f41 (b2 m42_0 m42_1) f43 f44 f47 f48 f49 f50 f51 (bN 13 q54) (bN 120 q55) (bN 120 q56) f57 (bN 120 q58) f59 f60 f64)) s.heap.size = A at hD ⊢
  have hA : ∀ q : Nat, s.heap.size ≤ q → A q := fun q h => by rw [← hAe]; exact Or.inr h
  have hS : va_S A s.heap s.heap [] := va_S.rf
  have hl := lv_entry ([.ref (ad 0), .int p0, .int p1]) (n := 3) (Nat.le_of_ble_eq_true rfl)
  rw [lg_entry_eq]
  generalize (lg_sl ([.ref (ad 0), .int p0, .int p1]) ++ List.replicate (3 - (lg_sl ([.ref (ad 0), .int p0, .int p1])).length) Slot.unset).toArray = ls at hl ⊢
  have hl : lv_has ls 3 [(0, .ref (ad 0)), (1, .int p0), (2, .int p1)] := hl
  refine lv_aload_n hx hb dX9_when_0 rfl (lv_at hl 0 rfl) ?_
  refine lv_iconst (v := 0) hx hb dX9_when_1 (by decide) ?_
  refine va_put (D := (dC, dI)) (ci := 9) (v := .int 0) (ty := .int) (C := RX9) (T := TX9) (N := 67) hx hb hts hiX9 tyX9 tyX9_ok nmX9 hown hK hP hD hS 0 rfl rfl 0 (by decide) v_1 (fun _ h9 => h9) rfl (by decide +kernel) rfl rfl (Nat.le_of_ble_eq_true rfl) dX9_when_2 (fun H locs hP hD hS => ?_)
  have hP : va_P (dC, dI) vwCl (mo_w ad ck 0 (nI x16) (nI x18) (nI x19) x20 (nI x21) (nI x22) x23 x24 x25 (nI x26) x27 (nI x28) (nI x29) (nI x30) (nI x33) x45 (nI x46) (nI x52) (nI x53) (nI x61) (nI x62) (nI x63) (nI x65) x66 f1 f2 f3 (bN 3 q4) (bN 7 q5) (bN 7 q6) (bN 4 q7) f8 (bN 2 q9) (bH q10) f11 (b2 m12_0 m12_1) (b2 m13_0 m13_1) (b2 m14_0 m14_1) (b2m m15_0 m15_1) f17 (bA 159 q31) f32 f34 f35 f36 f37 (bN 7 q38) f39 f40 f41 (b2 m42_0 m42_1) f43 f44 f47 f48 f49 f50 f51 (bN 13 q54) (bN 120 q55) (bN 120 q56) f57 (bN 120 q58) f59 f60 f64) H := hP
  have hD : va_D A (mo_w ad ck 0 (nI x16) (nI x18) (nI x19) x20 (nI x21) (nI x22) x23 x24 x25 (nI x26) x27 (nI x28) (nI x29) (nI x30) (nI x33) x45 (nI x46) (nI x52) (nI x53) (nI x61) (nI x62) (nI x63) (nI x65) x66 f1 f2 f3 (bN 3 q4) (bN 7 q5) (bN 7 q6) (bN 4 q7) f8 (bN 2 q9) (bH q10) f11 (b2 m12_0 m12_1) (b2 m13_0 m13_1) (b2 m14_0 m14_1) (b2m m15_0 m15_1) f17 (bA 159 q31) f32 f34 f35 f36 f37 (bN 7 q38) f39 f40 f41 (b2 m42_0 m42_1) f43 f44 f47 f48 f49 f50 f51 (bN 13 q54) (bN 120 q55) (bN 120 q56) f57 (bN 120 q58) f59 f60 f64) := hD
  refine lv_aload_n hx hb dX9_when_5 rfl (lv_at hl 0 rfl) ?_
  refine lv_iload_n hx hb dX9_when_6 rfl (lv_at hl 1 rfl) ?_
  refine lv_iload_n hx hb dX9_when_7 rfl (lv_at hl 2 rfl) ?_
  have hFc := pu_free hD hS hA
  refine va_calli (va_runV (As := [.int p0, .int p1]) (rest := []) ⟨hx, hb, hml, hown, hts⟩ (c_M_isStep l dC dI _ ad ck 0 x16 x18 x19 x20 x21 x22 x23 x24 x25 x26 x27 x28 x29 x30 x33 x45 x46 x52 x53 x61 x62 x63 x65 x66 f1 f2 f3 q4 q5 q6 q7 f8 q9 q10 f11 m12_0 m12_1 m13_0 m13_1 m14_0 m14_1 m15_0 m15_1 f17 q31 f32 f34 f35 f36 f37 q38 f39 f40 f41 m42_0 m42_1 f43 f44 f47 f48 f49 f50 f51 q54 q55 q56 f57 q58 f59 f60 f64 p0 p1 hx16 hx18 hx19 hx21 hx22 hx26 hx28 hx29 hx30 hx33 hx46 hx52 hx53 hx61 hx62 hx63 hx65 hm12_0 hm12_1 hm13_0 hm13_1 hm14_0 hm14_1 hm15_0 hm15_1 hm42_0 hm42_1 (by first | assumption | exact gz_0)) (cwV 2 hts g_M_when_M_isStep rfl rfl rfl (by decide +kernel) ⟨Nat.le_of_ble_eq_true rfl, Nat.le_of_ble_eq_true rfl⟩) ⟨pu_bl, va_recv hK hP (ci := 9) (q0 := 0) rfl rfl, pu_in hP hK hD⟩ rfl rfl hl.1 rfl (lv_room (Nat.le_of_ble_eq_true rfl)) dX9_when_8 ⟨Nat.le_of_ble_eq_true rfl, Nat.le_of_ble_eq_true rfl⟩) hS (fun q _ h => hFc q h) hFc (fun r_1 u t H1 locs ht hvm hw hB hz1 hk1 hS => ?_)
  obtain ⟨z54_2, z46_3, z61_4, ⟨hP1, -, hD1⟩, hz46_3, hz61_4⟩ := hB
  rw [ht] at hP1
  have hP := hP1
  have hD := pu_all hFc hD1
  clear hP1 hD1 hFc
  clear hk1 hz1 ht hvm
  generalize H1 = H at hP hS ⊢
  rcases hw with ⟨rfl, hw⟩ | rfl
  · obtain ⟨n_5, hn_5, rfl⟩ := hw
    refine lv_if_eq (tgt := 32) hx hb dX9_when_11 (by decide) (fun z => absurd z (by decide)) (fun _ => ?_)
    refine lv_aload_n hx hb dX9_when_14 rfl (lv_at hl 0 rfl) ?_
    have hFc := pu_free hD hS hA
    refine va_calli (va_runV (As := []) (rest := []) ⟨hx, hb, hml, hown, hts⟩ (c_M_laysLeast l dC dI _ ad ck 0 x16 x18 x19 x20 x21 x22 x23 x24 x25 x26 x27 x28 x29 x30 x33 x45 z46_3 x52 x53 z61_4 x62 x63 x65 x66 f1 f2 f3 q4 q5 q6 q7 f8 q9 q10 f11 m12_0 m12_1 m13_0 m13_1 m14_0 m14_1 m15_0 m15_1 f17 q31 f32 f34 f35 f36 f37 q38 f39 f40 f41 m42_0 m42_1 f43 f44 f47 f48 f49 f50 f51 z54_2 q55 q56 f57 q58 f59 f60 f64 hx16 hx18 hx19 hx21 hx22 hx26 hx28 hx29 hx30 hx33 hz46_3 hx52 hx53 hz61_4 hx62 hx63 hx65 hm12_0 hm12_1 hm13_0 hm13_1 hm14_0 hm14_1 hm15_0 hm15_1 hm42_0 hm42_1 (by first | assumption | omega)) (cwV 0 hts g_M_when_M_laysLeast rfl rfl rfl (by decide +kernel) ⟨Nat.le_of_ble_eq_true rfl, Nat.le_of_ble_eq_true rfl⟩) ⟨pu_bl, va_recv hK hP (ci := 9) (q0 := 0) rfl rfl, pu_in hP hK hD⟩ rfl rfl hl.1 rfl (lv_room (Nat.le_of_ble_eq_true rfl)) dX9_when_15 ⟨Nat.le_of_ble_eq_true rfl, Nat.le_of_ble_eq_true rfl⟩) hS (fun q _ h => hFc q h) hFc (fun r_6 u t H1 locs ht hvm hw hB hz1 hk1 hS => ?_)
    obtain ⟨z55_7, z56_8, z57_9, z58_10, z59_11, z62_12, z63_13, ⟨hP1, -, hD1⟩, hz62_12, hz63_13⟩ := hB
    rw [ht] at hP1
    have hP := hP1
    have hD := pu_all hFc hD1
    clear hP1 hD1 hFc
    clear hk1 hz1 ht hvm
    generalize H1 = H at hP hS ⊢
    obtain ⟨u_14, hu_14, rfl⟩ := hw
    refine lv_if_eq (tgt := 32) hx hb dX9_when_18 (by decide) (fun c_15 => ?_) (fun c_15 => ?_)
    · have c_15 : u_14 = 0 := (nI_eq (a := u_14) (b := 0) (Nat.lt_of_le_of_lt hu_14 (Nat.le_of_ble_eq_true rfl)) (Nat.le_of_ble_eq_true rfl)).mp c_15
      refine lv_iconst (v := (-1)) hx hb dX9_when_32 (by decide) ?_
      exact W.iret (v := (-1)) hx hb hr (fun t ht hW => ⟨⟨(-1), (), rfl, trivial, ⟨z54_2, z55_7, z56_8, z57_9, z58_10, z59_11, 0, z46_3, z61_4, z62_12, z63_13, ⟨by rw [ht]; exact hP, va_K.moved hW.alike hK, hD⟩, hz46_3, hz61_4, hz62_12, hz63_13⟩⟩, hS.F ht⟩) hS.2.2 dX9_when_33
    · have c_15 : ¬ u_14 = 0 := fun z => c_15 ((nI_eq (a := u_14) (b := 0) (Nat.lt_of_le_of_lt hu_14 (Nat.le_of_ble_eq_true rfl)) (Nat.le_of_ble_eq_true rfl)).mpr z)
      refine lv_aload_n hx hb dX9_when_21 rfl (lv_at hl 0 rfl) ?_
      refine va_get (D := (dC, dI)) (ci := 9) (v := .ref (ad 59)) (C := RX9) (T := TX9) (N := 67) hx hb hts hiX9 hown hK hP 0 rfl rfl 59 (by decide) v_11 (fun _ h9 => h9) rfl dX9_when_22 ?_
      refine lv_iload_n hx hb dX9_when_25 rfl (lv_at hl 2 rfl) ?_
      refine lv_iconst (v := 1) hx hb dX9_when_26 (by decide) ?_
      refine lv_iadd hx hb dX9_when_27 ?_
      refine lv_topi (fun y_16 ey_16 => ?_)
      obtain rfl : y_16 = (nI (n_5 + 1)) := ey_16.trans (nI_add n_5 1)
      refine va_iald hx hb hK hP 40 39 rfl rfl (vp_in_nI (n := (n_5 + 1)) (by omega) (Nat.le_of_ble_eq_true rfl)) dX9_when_28 ?_
      refine lv_topi (fun y_17 ey_17 => ?_)
      refine lv_goto (tgt := 33) hx hb dX9_when_29 (by decide) ?_
      exact W.iret (v := y_17) hx hb hr (fun t ht hW => ⟨⟨y_17, (), rfl, trivial, ⟨z54_2, z55_7, z56_8, z57_9, z58_10, z59_11, 0, z46_3, z61_4, z62_12, z63_13, ⟨by rw [ht]; exact hP, va_K.moved hW.alike hK, hD⟩, hz46_3, hz61_4, hz62_12, hz63_13⟩⟩, hS.F ht⟩) hS.2.2 dX9_when_33
  · refine lv_if_eq (tgt := 32) hx hb dX9_when_11 (by decide) (fun _ => ?_) (fun z => absurd z (by decide))
    refine lv_iconst (v := (-1)) hx hb dX9_when_32 (by decide) ?_
    exact W.iret (v := (-1)) hx hb hr (fun t ht hW => ⟨⟨(-1), (), rfl, trivial, ⟨z54_2, q55, q56, f57, q58, f59, 0, z46_3, z61_4, x62, x63, ⟨by rw [ht]; exact hP, va_K.moved hW.alike hK, hD⟩, hz46_3, hz61_4, hx62, hx63⟩⟩, hS.F ht⟩) hS.2.2 dX9_when_33
theorem dX9_then_0 : decode cX9_then 0 = .ok (.aload_n 0, 1) := by decide +kernel
theorem dX9_then_1 : decode cX9_then 1 = .ok (.iconst 0, 1) := by decide +kernel
theorem dX9_then_2 : decode cX9_then 2 = .ok (.putfield 142, 3) := by decide +kernel
theorem dX9_then_5 : decode cX9_then 5 = .ok (.aload_n 0, 1) := by decide +kernel
theorem dX9_then_6 : decode cX9_then 6 = .ok (.iload_n 1, 1) := by decide +kernel
theorem dX9_then_7 : decode cX9_then 7 = .ok (.iload_n 2, 1) := by decide +kernel
theorem dX9_then_8 : decode cX9_then 8 = .ok (.invokevirtual 454, 3) := by decide +kernel
theorem dX9_then_11 : decode cX9_then 11 = .ok (.ifCond .eq 18, 3) := by decide +kernel
theorem dX9_then_14 : decode cX9_then 14 = .ok (.aload_n 0, 1) := by decide +kernel
theorem dX9_then_15 : decode cX9_then 15 = .ok (.iload_n 3, 1) := by decide +kernel
theorem dX9_then_16 : decode cX9_then 16 = .ok (.invokevirtual 314, 3) := by decide +kernel
theorem dX9_then_19 : decode cX9_then 19 = .ok (.ifCond .eq 10, 3) := by decide +kernel
theorem dX9_then_22 : decode cX9_then 22 = .ok (.aload_n 0, 1) := by decide +kernel
theorem dX9_then_23 : decode cX9_then 23 = .ok (.invokevirtual 457, 3) := by decide +kernel
theorem dX9_then_26 : decode cX9_then 26 = .ok (.ifCond .ne 5, 3) := by decide +kernel
theorem dX9_then_29 : decode cX9_then 29 = .ok (.iconst (-1), 1) := by decide +kernel
theorem dX9_then_30 : decode cX9_then 30 = .ok (.ireturn, 1) := by decide +kernel
theorem dX9_then_31 : decode cX9_then 31 = .ok (.iconst 0, 1) := by decide +kernel
theorem dX9_then_32 : decode cX9_then 32 = .ok (.istore 4, 2) := by decide +kernel
theorem dX9_then_34 : decode cX9_then 34 = .ok (.iconst 0, 1) := by decide +kernel
theorem dX9_then_35 : decode cX9_then 35 = .ok (.istore 5, 2) := by decide +kernel
theorem dX9_then_37 : decode cX9_then 37 = .ok (.iload 5, 2) := by decide +kernel
theorem dX9_then_39 : decode cX9_then 39 = .ok (.iload_n 2, 1) := by decide +kernel
theorem dX9_then_40 : decode cX9_then 40 = .ok (.if_icmp .gt 38, 3) := by decide +kernel
theorem dX9_then_43 : decode cX9_then 43 = .ok (.aload_n 0, 1) := by decide +kernel
theorem dX9_then_44 : decode cX9_then 44 = .ok (.aload_n 0, 1) := by decide +kernel
theorem dX9_then_45 : decode cX9_then 45 = .ok (.getfield 118, 3) := by decide +kernel
theorem dX9_then_48 : decode cX9_then 48 = .ok (.iload 5, 2) := by decide +kernel
theorem dX9_then_50 : decode cX9_then 50 = .ok (.iaload, 1) := by decide +kernel
theorem dX9_then_51 : decode cX9_then 51 = .ok (.invokevirtual 305, 3) := by decide +kernel
theorem dX9_then_54 : decode cX9_then 54 = .ok (.iload_n 3, 1) := by decide +kernel
theorem dX9_then_55 : decode cX9_then 55 = .ok (.invokestatic 248, 3) := by decide +kernel
theorem dX9_then_58 : decode cX9_then 58 = .ok (.ifCond .eq 10, 3) := by decide +kernel
theorem dX9_then_61 : decode cX9_then 61 = .ok (.iload 5, 2) := by decide +kernel
theorem dX9_then_63 : decode cX9_then 63 = .ok (.iconst 1, 1) := by decide +kernel
theorem dX9_then_64 : decode cX9_then 64 = .ok (.iadd, 1) := by decide +kernel
theorem dX9_then_65 : decode cX9_then 65 = .ok (.goto 5, 3) := by decide +kernel
theorem dX9_then_68 : decode cX9_then 68 = .ok (.iload 4, 2) := by decide +kernel
theorem dX9_then_70 : decode cX9_then 70 = .ok (.istore 4, 2) := by decide +kernel
theorem dX9_then_72 : decode cX9_then 72 = .ok (.iinc 5 1, 3) := by decide +kernel
theorem dX9_then_75 : decode cX9_then 75 = .ok (.goto (-38), 3) := by decide +kernel
theorem dX9_then_78 : decode cX9_then 78 = .ok (.aload_n 0, 1) := by decide +kernel
theorem dX9_then_79 : decode cX9_then 79 = .ok (.getfield 133, 3) := by decide +kernel
theorem dX9_then_82 : decode cX9_then 82 = .ok (.iload_n 2, 1) := by decide +kernel
theorem dX9_then_83 : decode cX9_then 83 = .ok (.iconst 1, 1) := by decide +kernel
theorem dX9_then_84 : decode cX9_then 84 = .ok (.iadd, 1) := by decide +kernel
theorem dX9_then_85 : decode cX9_then 85 = .ok (.iaload, 1) := by decide +kernel
theorem dX9_then_86 : decode cX9_then 86 = .ok (.aload_n 0, 1) := by decide +kernel
theorem dX9_then_87 : decode cX9_then 87 = .ok (.getfield 133, 3) := by decide +kernel
theorem dX9_then_90 : decode cX9_then 90 = .ok (.iload 4, 2) := by decide +kernel
theorem dX9_then_92 : decode cX9_then 92 = .ok (.iaload, 1) := by decide +kernel
theorem dX9_then_93 : decode cX9_then 93 = .ok (.isub, 1) := by decide +kernel
theorem dX9_then_94 : decode cX9_then 94 = .ok (.ireturn, 1) := by decide +kernel
abbrev vs_M_then : List Cond := .code yX9_then cX9_then 6 (some .int) :: VM
theorem g_M_then_X9_isOf : GoodIn vs_M_then (va_wsS RX9 248 yX9_isOf vs_X9_isOf) := gm_0 (fun w h => by
  rcases List.mem_cons.mp h with rfl | h
  · exact vm_130
  rcases List.mem_cons.mp h with rfl | h
  · exact vm_131
  rcases List.mem_cons.mp h with rfl | h
  · exact vm_12
  rcases List.mem_cons.mp h with rfl | h
  · exact vm_0
  exact absurd h (List.not_mem_nil))
theorem g_M_then_M_isStep : GoodIn vs_M_then (wsV RX9 454 RX9 yX9_isStep vs_M_isStep) := gm_V vm_357 vm_358 vm_359 vm_12 vm_352
theorem g_M_then_M_isClock : GoodIn vs_M_then (wsV RX9 314 RX9 yX9_isClock vs_M_isClock) := gm_V vm_190 vm_191 vm_192 vm_12 vm_149
theorem g_M_then_M_laysLeast : GoodIn vs_M_then (wsV RX9 457 RX9 yX9_laysLeast vs_M_laysLeast) := gm_V vm_361 vm_362 vm_363 vm_12 vm_343
theorem g_M_then_M_setBy : GoodIn vs_M_then (wsV RX9 305 RX9 yX9_setBy vs_M_setBy) := gm_V vm_185 vm_186 vm_187 vm_12 vm_31
set_option maxHeartbeats 4000000 in
set_option maxRecDepth 100000 in
theorem c_M_then (l : Launch) (dC : Nat → ClassId) (dI : Nat → Nat → Nat) (sz : Nat) (ad : Nat → Nat) (ck : Nat → ClassId) (x0 : Int32) (x16 : Nat) (x18 : Nat) (x19 : Nat) (x20 : Int32) (x21 : Nat) (x22 : Nat) (x23 : Int32) (x24 : Int32) (x25 : Int32) (x26 : Nat) (x27 : Int32) (x28 : Nat) (x29 : Nat) (x30 : Nat) (x33 : Nat) (x45 : Int32) (x46 : Nat) (x52 : Nat) (x53 : Nat) (x61 : Nat) (x62 : Nat) (x63 : Nat) (x65 : Nat) (x66 : Int32) (f1 : Nat → Int32) (f2 : Nat → Int32) (f3 : Nat → Int32) (q4 : Nat → Nat) (q5 : Nat → Nat) (q6 : Nat → Nat) (q7 : Nat → Nat) (f8 : Nat → Int32) (q9 : Nat → Nat) (q10 : Nat → Nat) (f11 : Nat → Int32) (m12_0 m12_1 : Nat) (m13_0 m13_1 : Nat) (m14_0 m14_1 : Nat) (m15_0 m15_1 : Nat) (f17 : Nat → Int32) (q31 : Nat → Nat) (f32 : Nat → Int32) (f34 : Nat → Int32) (f35 : Nat → Int32) (f36 : Nat → Int32) (f37 : Nat → Int32) (q38 : Nat → Nat) (f39 : Nat → Int32) (f40 : Nat → Int32) (f41 : Nat → Int32) (m42_0 m42_1 : Nat) (f43 : Nat → Int32) (f44 : Nat → Int32) (f47 : Nat → Int32) (f48 : Nat → Int32) (f49 : Nat → Int32) (f50 : Nat → Int32) (f51 : Nat → Int32) (q54 : Nat → Nat) (q55 : Nat → Nat) (q56 : Nat → Nat) (f57 : Nat → Int32) (q58 : Nat → Nat) (f59 : Nat → Int32) (f60 : Nat → Int32) (f64 : Nat → Int32) (p0 : Int32) (p1 : Int32) (p2 : Int32) (hx16 : x16 ≤ 1) (hx18 : x18 ≤ 900) (hx19 : x19 ≤ 900) (hx21 : x21 ≤ 900) (hx22 : x22 ≤ 4) (hx26 : x26 ≤ 6) (hx28 : x28 ≤ 1) (hx29 : x29 ≤ 1) (hx30 : x30 ≤ 1) (hx33 : x33 ≤ 20) (hx46 : x46 ≤ 5) (hx52 : x52 ≤ 2400) (hx53 : x53 ≤ 119) (hx61 : x61 ≤ 119) (hx62 : x62 ≤ 2000) (hx63 : x63 ≤ 1) (hx65 : x65 ≤ 7) (hm12_0 : m12_0 ≤ 3) (hm12_1 : m12_1 ≤ 3) (hm13_0 : m13_0 ≤ 8) (hm13_1 : m13_1 ≤ 8) (hm14_0 : m14_0 ≤ 14) (hm14_1 : m14_1 ≤ 14) (hm15_0 : m15_0 ≤ 8) (hm15_1 : m15_1 ≤ 8) (hm42_0 : m42_0 ≤ 120) (hm42_1 : m42_1 ≤ 400) (hbg : (x16 = 0 ∧ (m13_0 = 0 ∨ 1 ≤ m15_0)) ∨ (x16 = 1 ∧ (m13_1 = 0 ∨ 1 ≤ m15_1))) (hgr : gz_ok m42_0 f39 f40 f41) : Met l yX9_then vs_M_then ({ frames := 6, cells := 0, slots := 0, locals := 136 }) (va_Pc [.ref (ad 0), .int p0, .int p1, .int p2] (pu_B (dC, dI) (mo_w ad ck x0 (nI x16) (nI x18) (nI x19) x20 (nI x21) (nI x22) x23 x24 x25 (nI x26) x27 (nI x28) (nI x29) (nI x30) (nI x33) x45 (nI x46) (nI x52) (nI x53) (nI x61) (nI x62) (nI x63) (nI x65) x66 f1 f2 f3 (bN 3 q4) (bN 7 q5) (bN 7 q6) (bN 4 q7) f8 (bN 2 q9) (bH q10) f11 (b2 m12_0 m12_1) (b2 m13_0 m13_1) (b2 m14_0 m14_1) (b2m m15_0 m15_1) f17 (bA 159 q31) f32 f34 f35 f36 f37 (bN 7 q38) f39 f40 f41 (b2 m42_0 m42_1) f43 f44 f47 f48 f49 f50 f51 (bN 13 q54) (bN 120 q55) (bN 120 q56) f57 (bN 120 q58) f59 f60 f64) (mo_t ck) sz)) (va_Qi (fun (r : Int32) (_ : Unit) => True) (fun _ t => ∃ (z54 : Nat → Nat) (z55 : Nat → Nat) (z56 : Nat → Nat) (z57 : Nat → Int32) (z58 : Nat → Nat) (z59 : Nat → Int32) (z0 : Int32) (z46 : Nat) (z61 : Nat) (z62 : Nat) (z63 : Nat), pu_E (dC, dI) (mo_w ad ck z0 (nI x16) (nI x18) (nI x19) x20 (nI x21) (nI x22) x23 x24 x25 (nI x26) x27 (nI x28) (nI x29) (nI x30) (nI x33) x45 (nI z46) (nI x52) (nI x53) (nI z61) (nI z62) (nI z63) (nI x65) x66 f1 f2 f3 (bN 3 q4) (bN 7 q5) (bN 7 q6) (bN 4 q7) f8 (bN 2 q9) (bH q10) f11 (b2 m12_0 m12_1) (b2 m13_0 m13_1) (b2 m14_0 m14_1) (b2m m15_0 m15_1) f17 (bA 159 q31) f32 f34 f35 f36 f37 (bN 7 q38) f39 f40 f41 (b2 m42_0 m42_1) f43 f44 f47 f48 f49 f50 f51 (bN 13 z54) (bN 120 z55) (bN 120 z56) z57 (bN 120 z58) z59 f60 f64) (mo_t ck) (va_A ((mo_w ad ck x0 (nI x16) (nI x18) (nI x19) x20 (nI x21) (nI x22) x23 x24 x25 (nI x26) x27 (nI x28) (nI x29) (nI x30) (nI x33) x45 (nI x46) (nI x52) (nI x53) (nI x61) (nI x62) (nI x63) (nI x65) x66 f1 f2 f3 (bN 3 q4) (bN 7 q5) (bN 7 q6) (bN 4 q7) f8 (bN 2 q9) (bH q10) f11 (b2 m12_0 m12_1) (b2 m13_0 m13_1) (b2 m14_0 m14_1) (b2m m15_0 m15_1) f17 (bA 159 q31) f32 f34 f35 f36 f37 (bN 7 q38) f39 f40 f41 (b2 m42_0 m42_1) f43 f44 f47 f48 f49 f50 f51 (bN 13 q54) (bN 120 q55) (bN 120 q56) f57 (bN 120 q58) f59 f60 f64)) sz) t ∧ (z46 ≤ 5) ∧ (z61 ≤ 119) ∧ (z62 ≤ 2000) ∧ (z63 ≤ 1)) (va_A ((mo_w ad ck x0 (nI x16) (nI x18) (nI x19) x20 (nI x21) (nI x22) x23 x24 x25 (nI x26) x27 (nI x28) (nI x29) (nI x30) (nI x33) x45 (nI x46) (nI x52) (nI x53) (nI x61) (nI x62) (nI x63) (nI x65) x66 f1 f2 f3 (bN 3 q4) (bN 7 q5) (bN 7 q6) (bN 4 q7) f8 (bN 2 q9) (bH q10) f11 (b2 m12_0 m12_1) (b2 m13_0 m13_1) (b2 m14_0 m14_1) (b2m m15_0 m15_1) f17 (bA 159 q31) f32 f34 f35 f36 f37 (bN 7 q38) f39 f40 f41 (b2 m42_0 m42_1) f43 f44 f47 f48 f49 f50 f51 (bN 13 q54) (bN 120 q55) (bN 120 q56) f57 (bN 120 q58) f59 f60 f64)) sz)) 0 0 (va_A ((mo_w ad ck x0 (nI x16) (nI x18) (nI x19) x20 (nI x21) (nI x22) x23 x24 x25 (nI x26) x27 (nI x28) (nI x29) (nI x30) (nI x33) x45 (nI x46) (nI x52) (nI x53) (nI x61) (nI x62) (nI x63) (nI x65) x66 f1 f2 f3 (bN 3 q4) (bN 7 q5) (bN 7 q6) (bN 4 q7) f8 (bN 2 q9) (bH q10) f11 (b2 m12_0 m12_1) (b2 m13_0 m13_1) (b2 m14_0 m14_1) (b2m m15_0 m15_1) f17 (bA 159 q31) f32 f34 f35 f36 f37 (bN 7 q38) f39 f40 f41 (b2 m42_0 m42_1) f43 f44 f47 f48 f49 f50 f51 (bN 13 q54) (bN 120 q55) (bN 120 q56) f57 (bN 120 q58) f59 f60 f64)) sz) := by
  refine Met.ofW (cc := cX9_then) (maxL := 6) (ret := (some .int)) (by decide) rfl ?_
  intro p e s m args below meth c s₁ B hml hv
  obtain ⟨rfl, rfl, hP, hK, hD0⟩ := hv
  have hx := B.exec
  have hb := B.bytes
  have hr := B.returns
  have hts := atoms_spec (ws := vs_M_then) B.pre
  have v_1 := hts (.fieldLink RX9 142 "ClockReachModel" "thrown" "I") (List.mem_cons_of_mem _ vm_24)
  have v_15 := hts (.fieldLink RX9 118 "ClockReachModel" "path" "[I") (List.mem_cons_of_mem _ vm_327)
  have v_23 := hts (.fieldLink RX9 133 "ClockReachModel" "time" "[I") (List.mem_cons_of_mem _ vm_347)
  have hown : s.vm.findClass RX9 = some m.cls := findClass_of_methodNamed B.named
  have hlocks := B.notSynchronized
  have hiX9 : ∀ w ∈ wsX90, w ∈ vs_M_then := fun _ h => List.mem_cons_of_mem _ (List.mem_append_right _ h)
  have hD := hD0.self (sz := s.heap.size)
  generalize hAe : va_A ((mo_w ad ck x0 (nI x16) (nI x18) (nI x19) x20 (nI x21) (nI x22) x23 x24 x25 (nI x26) x27 (nI x28) (nI x29) (nI x30) (nI x33) x45 (nI x46) (nI x52) (nI x53) (nI x61) (nI x62) (nI x63) (nI x65) x66 f1 f2 f3 (bN 3 q4) (bN 7 q5) (bN 7 q6) (bN 4 q7) f8 (bN 2 q9) (bH q10) f11 (b2 m12_0 m12_1) (b2 m13_0 m13_1) (b2 m14_0 m14_1) (b2m m15_0 m15_1) f17 (bA 159 q31) f32 f34 f35 f36 f37 (bN 7 q38) f39 f40 f41 (b2 m42_0 m42_1) f43 f44 f47 f48 f49 f50 f51 (bN 13 q54) (bN 120 q55) (bN 120 q56) f57 (bN 120 q58) f59 f60 f64)) s.heap.size = A at hD ⊢
  have hA : ∀ q : Nat, s.heap.size ≤ q → A q := fun q h => by rw [← hAe]; exact Or.inr h
  have hS : va_S A s.heap s.heap [] := va_S.rf
  have hl := lv_entry ([.ref (ad 0), .int p0, .int p1, .int p2]) (n := 6) (Nat.le_of_ble_eq_true rfl)
  rw [lg_entry_eq]
  generalize (lg_sl ([.ref (ad 0), .int p0, .int p1, .int p2]) ++ List.replicate (6 - (lg_sl ([.ref (ad 0), .int p0, .int p1, .int p2])).length) Slot.unset).toArray = ls at hl ⊢
  have hl : lv_has ls 6 [(0, .ref (ad 0)), (1, .int p0), (2, .int p1), (3, .int p2)] := hl
  refine lv_aload_n hx hb dX9_then_0 rfl (lv_at hl 0 rfl) ?_
  refine lv_iconst (v := 0) hx hb dX9_then_1 (by decide) ?_
  refine va_put (D := (dC, dI)) (ci := 9) (v := .int 0) (ty := .int) (C := RX9) (T := TX9) (N := 67) hx hb hts hiX9 tyX9 tyX9_ok nmX9 hown hK hP hD hS 0 rfl rfl 0 (by decide) v_1 (fun _ h9 => h9) rfl (by decide +kernel) rfl rfl (Nat.le_of_ble_eq_true rfl) dX9_then_2 (fun H locs hP hD hS => ?_)
  have hP : va_P (dC, dI) vwCl (mo_w ad ck 0 (nI x16) (nI x18) (nI x19) x20 (nI x21) (nI x22) x23 x24 x25 (nI x26) x27 (nI x28) (nI x29) (nI x30) (nI x33) x45 (nI x46) (nI x52) (nI x53) (nI x61) (nI x62) (nI x63) (nI x65) x66 f1 f2 f3 (bN 3 q4) (bN 7 q5) (bN 7 q6) (bN 4 q7) f8 (bN 2 q9) (bH q10) f11 (b2 m12_0 m12_1) (b2 m13_0 m13_1) (b2 m14_0 m14_1) (b2m m15_0 m15_1) f17 (bA 159 q31) f32 f34 f35 f36 f37 (bN 7 q38) f39 f40 f41 (b2 m42_0 m42_1) f43 f44 f47 f48 f49 f50 f51 (bN 13 q54) (bN 120 q55) (bN 120 q56) f57 (bN 120 q58) f59 f60 f64) H := hP
  have hD : va_D A (mo_w ad ck 0 (nI x16) (nI x18) (nI x19) x20 (nI x21) (nI x22) x23 x24 x25 (nI x26) x27 (nI x28) (nI x29) (nI x30) (nI x33) x45 (nI x46) (nI x52) (nI x53) (nI x61) (nI x62) (nI x63) (nI x65) x66 f1 f2 f3 (bN 3 q4) (bN 7 q5) (bN 7 q6) (bN 4 q7) f8 (bN 2 q9) (bH q10) f11 (b2 m12_0 m12_1) (b2 m13_0 m13_1) (b2 m14_0 m14_1) (b2m m15_0 m15_1) f17 (bA 159 q31) f32 f34 f35 f36 f37 (bN 7 q38) f39 f40 f41 (b2 m42_0 m42_1) f43 f44 f47 f48 f49 f50 f51 (bN 13 q54) (bN 120 q55) (bN 120 q56) f57 (bN 120 q58) f59 f60 f64) := hD
  refine lv_aload_n hx hb dX9_then_5 rfl (lv_at hl 0 rfl) ?_
  refine lv_iload_n hx hb dX9_then_6 rfl (lv_at hl 1 rfl) ?_
  refine lv_iload_n hx hb dX9_then_7 rfl (lv_at hl 2 rfl) ?_
  have hFc := pu_free hD hS hA
  refine va_calli (va_runV (As := [.int p0, .int p1]) (rest := []) ⟨hx, hb, hml, hown, hts⟩ (c_M_isStep l dC dI _ ad ck 0 x16 x18 x19 x20 x21 x22 x23 x24 x25 x26 x27 x28 x29 x30 x33 x45 x46 x52 x53 x61 x62 x63 x65 x66 f1 f2 f3 q4 q5 q6 q7 f8 q9 q10 f11 m12_0 m12_1 m13_0 m13_1 m14_0 m14_1 m15_0 m15_1 f17 q31 f32 f34 f35 f36 f37 q38 f39 f40 f41 m42_0 m42_1 f43 f44 f47 f48 f49 f50 f51 q54 q55 q56 f57 q58 f59 f60 f64 p0 p1 hx16 hx18 hx19 hx21 hx22 hx26 hx28 hx29 hx30 hx33 hx46 hx52 hx53 hx61 hx62 hx63 hx65 hm12_0 hm12_1 hm13_0 hm13_1 hm14_0 hm14_1 hm15_0 hm15_1 hm42_0 hm42_1 (by first | assumption | exact gz_0)) (cwV 2 hts g_M_then_M_isStep rfl rfl rfl (by decide +kernel) ⟨Nat.le_of_ble_eq_true rfl, Nat.le_of_ble_eq_true rfl⟩) ⟨pu_bl, va_recv hK hP (ci := 9) (q0 := 0) rfl rfl, pu_in hP hK hD⟩ rfl rfl hl.1 rfl (lv_room (Nat.le_of_ble_eq_true rfl)) dX9_then_8 ⟨Nat.le_of_ble_eq_true rfl, Nat.le_of_ble_eq_true rfl⟩) hS (fun q _ h => hFc q h) hFc (fun r_1 u t H1 locs ht hvm hw hB hz1 hk1 hS => ?_)
  obtain ⟨z54_2, z46_3, z61_4, ⟨hP1, -, hD1⟩, hz46_3, hz61_4⟩ := hB
  rw [ht] at hP1
  have hP := hP1
  have hD := pu_all hFc hD1
  clear hP1 hD1 hFc
  clear hk1 hz1 ht hvm
  generalize H1 = H at hP hS ⊢
  rcases hw with ⟨rfl, hw⟩ | rfl
  · obtain ⟨n_5, hn_5, rfl⟩ := hw
    refine lv_if_eq (tgt := 29) hx hb dX9_then_11 (by decide) (fun z => absurd z (by decide)) (fun _ => ?_)
    refine lv_aload_n hx hb dX9_then_14 rfl (lv_at hl 0 rfl) ?_
    refine lv_iload_n hx hb dX9_then_15 rfl (lv_at hl 3 rfl) ?_
    refine va_calli (va_runV (As := [.int p2]) (rest := []) ⟨hx, hb, hml, hown, hts⟩ (c_M_isClock l dC dI _ ad ck 0 x16 x18 x19 x20 x21 x22 x23 x24 x25 x26 x27 x28 x29 x30 x33 x45 z46_3 x52 x53 z61_4 x62 x63 x65 x66 f1 f2 f3 q4 q5 q6 q7 f8 q9 q10 f11 m12_0 m12_1 m13_0 m13_1 m14_0 m14_1 m15_0 m15_1 f17 q31 f32 f34 f35 f36 f37 q38 f39 f40 f41 m42_0 m42_1 f43 f44 f47 f48 f49 f50 f51 z54_2 q55 q56 f57 q58 f59 f60 f64 p2 hx16 hx18 hx19 hx21 hx22 hx26 hx28 hx29 hx30 hx33 hz46_3 hx52 hx53 hz61_4 hx62 hx63 hx65 hm12_0 hm12_1 hm13_0 hm13_1 hm14_0 hm14_1 hm15_0 hm15_1 hm42_0 hm42_1) (cwV 1 hts g_M_then_M_isClock rfl rfl rfl (by decide +kernel) ⟨Nat.le_of_ble_eq_true rfl, Nat.le_of_ble_eq_true rfl⟩) ⟨pu_bl, va_recv hK hP (ci := 9) (q0 := 0) rfl rfl, pu_in hP hK hD⟩ rfl rfl hl.1 rfl (lv_room (Nat.le_of_ble_eq_true rfl)) dX9_then_16 ⟨Nat.le_of_ble_eq_true rfl, Nat.le_of_ble_eq_true rfl⟩) hS (fun q _ h => pu_fr hS hA q h) (pu_fr hS hA) (fun r_6 u t H1 locs ht hvm hw hB hz1 hk1 hS => ?_)
    have hP := pu_keep hP hk1
    clear hk1 hz1 ht hvm
    generalize H1 = H at hP hS ⊢
    rcases hw with ⟨rfl, hw⟩ | rfl
    · obtain ⟨n_7, hn_7, rfl⟩ := hw
      refine lv_if_eq (tgt := 29) hx hb dX9_then_19 (by decide) (fun z => absurd z (by decide)) (fun _ => ?_)
      refine lv_aload_n hx hb dX9_then_22 rfl (lv_at hl 0 rfl) ?_
      have hFc := pu_free hD hS hA
      refine va_calli (va_runV (As := []) (rest := []) ⟨hx, hb, hml, hown, hts⟩ (c_M_laysLeast l dC dI _ ad ck 0 x16 x18 x19 x20 x21 x22 x23 x24 x25 x26 x27 x28 x29 x30 x33 x45 z46_3 x52 x53 z61_4 x62 x63 x65 x66 f1 f2 f3 q4 q5 q6 q7 f8 q9 q10 f11 m12_0 m12_1 m13_0 m13_1 m14_0 m14_1 m15_0 m15_1 f17 q31 f32 f34 f35 f36 f37 q38 f39 f40 f41 m42_0 m42_1 f43 f44 f47 f48 f49 f50 f51 z54_2 q55 q56 f57 q58 f59 f60 f64 hx16 hx18 hx19 hx21 hx22 hx26 hx28 hx29 hx30 hx33 hz46_3 hx52 hx53 hz61_4 hx62 hx63 hx65 hm12_0 hm12_1 hm13_0 hm13_1 hm14_0 hm14_1 hm15_0 hm15_1 hm42_0 hm42_1 (by first | assumption | omega)) (cwV 0 hts g_M_then_M_laysLeast rfl rfl rfl (by decide +kernel) ⟨Nat.le_of_ble_eq_true rfl, Nat.le_of_ble_eq_true rfl⟩) ⟨pu_bl, va_recv hK hP (ci := 9) (q0 := 0) rfl rfl, pu_in hP hK hD⟩ rfl rfl hl.1 rfl (lv_room (Nat.le_of_ble_eq_true rfl)) dX9_then_23 ⟨Nat.le_of_ble_eq_true rfl, Nat.le_of_ble_eq_true rfl⟩) hS (fun q _ h => hFc q h) hFc (fun r_8 u t H1 locs ht hvm hw hB hz1 hk1 hS => ?_)
      obtain ⟨z55_9, z56_10, z57_11, z58_12, z59_13, z62_14, z63_15, ⟨hP1, -, hD1⟩, hz62_14, hz63_15⟩ := hB
      rw [ht] at hP1
      have hP := hP1
      have hD := pu_all hFc hD1
      clear hP1 hD1 hFc
      clear hk1 hz1 ht hvm
      generalize H1 = H at hP hS ⊢
      obtain ⟨u_16, hu_16, rfl⟩ := hw
      refine lv_if_ne (tgt := 31) hx hb dX9_then_26 (by decide) (fun c_17 => ?_) (fun c_17 => ?_)
      · have c_17 : ¬ u_16 = 0 := fun z => c_17 ((nI_eq (a := u_16) (b := 0) (Nat.lt_of_le_of_lt hu_16 (Nat.le_of_ble_eq_true rfl)) (Nat.le_of_ble_eq_true rfl)).mpr z)
        refine lv_iconst (v := 0) hx hb dX9_then_31 (by decide) ?_
        refine lv_istore (lv' := [(4, .int 0), (0, .ref (ad 0)), (1, .int p0), (2, .int (nI n_5)), (3, .int (nI n_7))]) hx hb dX9_then_32 hl (by decide) rfl (fun ls hl => ?_)
        refine lv_iconst (v := 0) hx hb dX9_then_34 (by decide) ?_
        refine lv_istore (lv' := [(5, .int 0), (4, .int 0), (0, .ref (ad 0)), (1, .int p0), (2, .int (nI n_5)), (3, .int (nI n_7))]) hx hb dX9_then_35 hl (by decide) rfl (fun ls hl => ?_)
        refine pu_while (fun nn H locs ls => ∃ (g_20 : Nat) (g_21 : Nat), nn = 119 - g_21 ∧ g_20 ≤ 119 ∧ g_21 ≤ 119 ∧ va_P (dC, dI) vwCl (mo_w ad ck 0 (nI x16) (nI x18) (nI x19) x20 (nI x21) (nI x22) x23 x24 x25 (nI x26) x27 (nI x28) (nI x29) (nI x30) (nI x33) x45 (nI z46_3) (nI x52) (nI x53) (nI z61_4) (nI z62_14) (nI z63_15) (nI x65) x66 f1 f2 f3 (bN 3 q4) (bN 7 q5) (bN 7 q6) (bN 4 q7) f8 (bN 2 q9) (bH q10) f11 (b2 m12_0 m12_1) (b2 m13_0 m13_1) (b2 m14_0 m14_1) (b2m m15_0 m15_1) f17 (bA 159 q31) f32 f34 f35 f36 f37 (bN 7 q38) f39 f40 f41 (b2 m42_0 m42_1) f43 f44 f47 f48 f49 f50 f51 (bN 13 z54_2) (bN 120 z55_9) (bN 120 z56_10) z57_11 (bN 120 z58_12) z59_13 f60 f64) H ∧ va_D A (mo_w ad ck 0 (nI x16) (nI x18) (nI x19) x20 (nI x21) (nI x22) x23 x24 x25 (nI x26) x27 (nI x28) (nI x29) (nI x30) (nI x33) x45 (nI z46_3) (nI x52) (nI x53) (nI z61_4) (nI z62_14) (nI z63_15) (nI x65) x66 f1 f2 f3 (bN 3 q4) (bN 7 q5) (bN 7 q6) (bN 4 q7) f8 (bN 2 q9) (bH q10) f11 (b2 m12_0 m12_1) (b2 m13_0 m13_1) (b2 m14_0 m14_1) (b2m m15_0 m15_1) f17 (bA 159 q31) f32 f34 f35 f36 f37 (bN 7 q38) f39 f40 f41 (b2 m42_0 m42_1) f43 f44 f47 f48 f49 f50 f51 (bN 13 z54_2) (bN 120 z55_9) (bN 120 z56_10) z57_11 (bN 120 z58_12) z59_13 f60 f64) ∧ va_S A s.heap H locs ∧ lv_has ls 6 [(0, .ref (ad 0)), (1, .int p0), (2, .int (nI n_5)), (3, .int (nI n_7)), (4, .int (nI g_20)), (5, .int (nI g_21))]) 37 ?_ _ _ _ _ ⟨0, 0, rfl, (Nat.le_of_ble_eq_true rfl), (Nat.le_of_ble_eq_true rfl), hP, hD, hS, lv_sub hl [2, 3, 4, 5, 1, 0] rfl⟩
        rintro nn ih_22 H locs ls ⟨g_20, g_21, rfl, hg_20, hg_21, hP, hD, hS, hl⟩
        refine lv_iload hx hb dX9_then_37 (lv_at hl 5 rfl) ?_
        refine lv_iload_n hx hb dX9_then_39 rfl (lv_at hl 2 rfl) ?_
        refine lv_icmp_gt (tgt := 78) hx hb dX9_then_40 (by decide) (fun c_23 => ?_) (fun c_23 => ?_)
        · have c_23 : n_5 < g_21 := (nI_ltI (a := n_5) (b := g_21) (by omega) (Nat.lt_of_le_of_lt hg_21 (Nat.le_of_ble_eq_true rfl))).mp c_23
          refine lv_aload_n hx hb dX9_then_78 rfl (lv_at hl 0 rfl) ?_
          refine va_get (D := (dC, dI)) (ci := 9) (v := .ref (ad 59)) (C := RX9) (T := TX9) (N := 67) hx hb hts hiX9 hown hK hP 0 rfl rfl 59 (by decide) v_23 (fun _ h9 => h9) rfl dX9_then_79 ?_
          refine lv_iload_n hx hb dX9_then_82 rfl (lv_at hl 2 rfl) ?_
          refine lv_iconst (v := 1) hx hb dX9_then_83 (by decide) ?_
          refine lv_iadd hx hb dX9_then_84 ?_
          refine lv_topi (fun y_24 ey_24 => ?_)
          obtain rfl : y_24 = (nI (n_5 + 1)) := ey_24.trans (nI_add n_5 1)
          refine va_iald hx hb hK hP 40 39 rfl rfl (vp_in_nI (n := (n_5 + 1)) (by omega) (Nat.le_of_ble_eq_true rfl)) dX9_then_85 ?_
          refine lv_topi (fun y_25 ey_25 => ?_)
          refine lv_aload_n hx hb dX9_then_86 rfl (lv_at hl 0 rfl) ?_
          refine va_get (D := (dC, dI)) (ci := 9) (v := .ref (ad 59)) (C := RX9) (T := TX9) (N := 67) hx hb hts hiX9 hown hK hP 0 rfl rfl 59 (by decide) v_23 (fun _ h9 => h9) rfl dX9_then_87 ?_
          refine lv_iload hx hb dX9_then_90 (lv_at hl 4 rfl) ?_
          refine va_iald hx hb hK hP 40 39 rfl rfl (vp_in_nI (n := g_20) (Nat.lt_of_le_of_lt hg_20 (Nat.le_of_ble_eq_true rfl)) (Nat.le_of_ble_eq_true rfl)) dX9_then_92 ?_
          refine lv_topi (fun y_26 ey_26 => ?_)
          refine lv_isub hx hb dX9_then_93 ?_
          refine lv_topi (fun y_27 ey_27 => ?_)
          exact W.iret (v := y_27) hx hb hr (fun t ht hW => ⟨⟨y_27, (), rfl, trivial, ⟨z54_2, z55_9, z56_10, z57_11, z58_12, z59_13, 0, z46_3, z61_4, z62_14, z63_15, ⟨by rw [ht]; exact hP, va_K.moved hW.alike hK, hD⟩, hz46_3, hz61_4, hz62_14, hz63_15⟩⟩, hS.F ht⟩) hS.2.2 dX9_then_94
        · have c_23 : ¬ n_5 < g_21 := fun z => c_23 ((nI_ltI (a := n_5) (b := g_21) (by omega) (Nat.lt_of_le_of_lt hg_21 (Nat.le_of_ble_eq_true rfl))).mpr z)
          refine lv_aload_n hx hb dX9_then_43 rfl (lv_at hl 0 rfl) ?_
          refine lv_aload_n hx hb dX9_then_44 rfl (lv_at hl 0 rfl) ?_
          refine va_get (D := (dC, dI)) (ci := 9) (v := .ref (ad 54)) (C := RX9) (T := TX9) (N := 67) hx hb hts hiX9 hown hK hP 0 rfl rfl 54 (by decide) v_15 (fun _ h9 => h9) rfl dX9_then_45 ?_
          refine lv_iload hx hb dX9_then_48 (lv_at hl 5 rfl) ?_
          refine va_iald hx hb hK hP 35 34 rfl rfl (vp_in_nI (n := g_21) (Nat.lt_of_le_of_lt hg_21 (Nat.le_of_ble_eq_true rfl)) (Nat.le_of_ble_eq_true rfl)) dX9_then_50 ?_
          refine lv_topi (fun y_28 ey_28 => ?_)
          obtain ⟨u_29, hu_29, qu_29⟩ := bN_get 13 z54_2 (((nI g_21) : Int32).toNatClampNeg)
          obtain rfl : y_28 = nI u_29 := ey_28.trans qu_29
          refine va_calli (va_runV (As := [.int (nI u_29)]) (rest := []) ⟨hx, hb, hml, hown, hts⟩ (c_M_setBy l dC dI _ ad ck 0 x16 x18 x19 x20 x21 x22 x23 x24 x25 x26 x27 x28 x29 x30 x33 x45 z46_3 x52 x53 z61_4 z62_14 z63_15 x65 x66 f1 f2 f3 q4 q5 q6 q7 f8 q9 q10 f11 m12_0 m12_1 m13_0 m13_1 m14_0 m14_1 m15_0 m15_1 f17 q31 f32 f34 f35 f36 f37 q38 f39 f40 f41 m42_0 m42_1 f43 f44 f47 f48 f49 f50 f51 z54_2 z55_9 z56_10 z57_11 z58_12 z59_13 f60 f64 u_29 hx16 hx18 hx19 hx21 hx22 hx26 hx28 hx29 hx30 hx33 hz46_3 hx52 hx53 hz61_4 hz62_14 hz63_15 hx65 hm12_0 hm12_1 hm13_0 hm13_1 hm14_0 hm14_1 hm15_0 hm15_1 hm42_0 hm42_1 hu_29) (cwV 1 hts g_M_then_M_setBy rfl rfl rfl (by decide +kernel) ⟨Nat.le_of_ble_eq_true rfl, Nat.le_of_ble_eq_true rfl⟩) ⟨pu_bl, va_recv hK hP (ci := 9) (q0 := 0) rfl rfl, pu_in hP hK hD⟩ rfl rfl hl.1 rfl (lv_room (Nat.le_of_ble_eq_true rfl)) dX9_then_51 ⟨Nat.le_of_ble_eq_true rfl, Nat.le_of_ble_eq_true rfl⟩) hS (fun q _ h => pu_fr hS hA q h) (pu_fr hS hA) (fun r_30 u t H1 locs ht hvm hw hB hz1 hk1 hS => ?_)
          have hP := pu_keep hP hk1
          clear hk1 hz1 ht hvm
          generalize H1 = H at hP hS ⊢
          refine lv_iload_n hx hb dX9_then_54 rfl (lv_at hl 3 rfl) ?_
          refine pu_join (fun H locs ls st => ∃ (g_31 : Nat), st = [.int (nI g_31)] ∧ g_31 ≤ 119 ∧ va_P (dC, dI) vwCl (mo_w ad ck 0 (nI x16) (nI x18) (nI x19) x20 (nI x21) (nI x22) x23 x24 x25 (nI x26) x27 (nI x28) (nI x29) (nI x30) (nI x33) x45 (nI z46_3) (nI x52) (nI x53) (nI z61_4) (nI z62_14) (nI z63_15) (nI x65) x66 f1 f2 f3 (bN 3 q4) (bN 7 q5) (bN 7 q6) (bN 4 q7) f8 (bN 2 q9) (bH q10) f11 (b2 m12_0 m12_1) (b2 m13_0 m13_1) (b2 m14_0 m14_1) (b2m m15_0 m15_1) f17 (bA 159 q31) f32 f34 f35 f36 f37 (bN 7 q38) f39 f40 f41 (b2 m42_0 m42_1) f43 f44 f47 f48 f49 f50 f51 (bN 13 z54_2) (bN 120 z55_9) (bN 120 z56_10) z57_11 (bN 120 z58_12) z59_13 f60 f64) H ∧ va_D A (mo_w ad ck 0 (nI x16) (nI x18) (nI x19) x20 (nI x21) (nI x22) x23 x24 x25 (nI x26) x27 (nI x28) (nI x29) (nI x30) (nI x33) x45 (nI z46_3) (nI x52) (nI x53) (nI z61_4) (nI z62_14) (nI z63_15) (nI x65) x66 f1 f2 f3 (bN 3 q4) (bN 7 q5) (bN 7 q6) (bN 4 q7) f8 (bN 2 q9) (bH q10) f11 (b2 m12_0 m12_1) (b2 m13_0 m13_1) (b2 m14_0 m14_1) (b2m m15_0 m15_1) f17 (bA 159 q31) f32 f34 f35 f36 f37 (bN 7 q38) f39 f40 f41 (b2 m42_0 m42_1) f43 f44 f47 f48 f49 f50 f51 (bN 13 z54_2) (bN 120 z55_9) (bN 120 z56_10) z57_11 (bN 120 z58_12) z59_13 f60 f64) ∧ va_S A s.heap H locs ∧ lv_has ls 6 [(0, .ref (ad 0)), (1, .int p0), (2, .int (nI n_5)), (3, .int (nI n_7)), (4, .int (nI g_20)), (5, .int (nI g_21))]) 70 ?_ (fun j_32 => ?_)
          · rintro H locs ls st ⟨g_31, rfl, hg_31, hP, hD, hS, hl⟩
            refine lv_istore (lv' := [(4, .int (nI g_31)), (0, .ref (ad 0)), (1, .int p0), (2, .int (nI n_5)), (3, .int (nI n_7)), (5, .int (nI g_21))]) hx hb dX9_then_70 hl (by decide) rfl (fun ls hl => ?_)
            refine lv_iinc (v := (nI (g_21 + 1))) (lv' := [(5, .int (nI (g_21 + 1))), (4, .int (nI g_31)), (0, .ref (ad 0)), (1, .int p0), (2, .int (nI n_5)), (3, .int (nI n_7))]) hx hb dX9_then_72 hl (k := 5) rfl (nI_1 _) (by decide) rfl (fun ls hl => ?_)
            refine lv_goto (tgt := 37) hx hb dX9_then_75 (by decide) ?_
            exact ih_22 (119 - (g_21 + 1)) (by omega) _ _ _ ⟨g_31, (g_21 + 1), rfl, hg_31, (by omega), hP, hD, hS, lv_sub hl [2, 3, 4, 5, 1, 0] rfl⟩
          refine va_calli (va_runS (As := [.int r_30, .int (nI n_7)]) (rest := []) ⟨hx, hb, hml, hown, hts⟩ (c_X9_isOf l dC dI _ r_30 (nI n_7)) (va_cwS 2 hts g_M_then_X9_isOf rfl rfl rfl (by decide +kernel) ⟨Nat.le_of_ble_eq_true rfl, Nat.le_of_ble_eq_true rfl⟩) ⟨pu_bl, pu_in (hP.sub [] rfl) (hK.sub [] rfl) (hD.sub [] (by decide) rfl)⟩ rfl rfl hl.1 rfl (lv_room (Nat.le_of_ble_eq_true rfl)) dX9_then_55 ⟨Nat.le_of_ble_eq_true rfl, Nat.le_of_ble_eq_true rfl⟩) hS (fun q _ h => pu_fr hS hA q h) (pu_fr hS hA) (fun r_33 u t H1 locs ht hvm hw hB hz1 hk1 hS => ?_)
          have hP := pu_keep hP hk1
          clear hk1 hz1 ht hvm
          generalize H1 = H at hP hS ⊢
          obtain ⟨u_34, hu_34, rfl⟩ := pu_bn hw
          refine lv_if_eq (tgt := 68) hx hb dX9_then_58 (by decide) (fun c_35 => ?_) (fun c_35 => ?_)
          · have c_35 : u_34 = 0 := (nI_eq (a := u_34) (b := 0) (Nat.lt_of_le_of_lt hu_34 (Nat.le_of_ble_eq_true rfl)) (Nat.le_of_ble_eq_true rfl)).mp c_35
            refine lv_iload hx hb dX9_then_68 (lv_at hl 4 rfl) ?_
            exact j_32 _ _ _ _ ⟨g_20, rfl, hg_20, hP, hD, hS, lv_sub hl [0, 1, 2, 3, 4, 5] rfl⟩
          · have c_35 : ¬ u_34 = 0 := fun z => c_35 ((nI_eq (a := u_34) (b := 0) (Nat.lt_of_le_of_lt hu_34 (Nat.le_of_ble_eq_true rfl)) (Nat.le_of_ble_eq_true rfl)).mpr z)
            refine lv_iload hx hb dX9_then_61 (lv_at hl 5 rfl) ?_
            refine lv_iconst (v := 1) hx hb dX9_then_63 (by decide) ?_
            refine lv_iadd hx hb dX9_then_64 ?_
            refine lv_topi (fun y_36 ey_36 => ?_)
            obtain rfl : y_36 = (nI (g_21 + 1)) := ey_36.trans (nI_add g_21 1)
            refine lv_goto (tgt := 70) hx hb dX9_then_65 (by decide) ?_
            exact j_32 _ _ _ _ ⟨(g_21 + 1), rfl, (by omega), hP, hD, hS, lv_sub hl [0, 1, 2, 3, 4, 5] rfl⟩
      · have c_17 : u_16 = 0 := (nI_eq (a := u_16) (b := 0) (Nat.lt_of_le_of_lt hu_16 (Nat.le_of_ble_eq_true rfl)) (Nat.le_of_ble_eq_true rfl)).mp c_17
        refine lv_iconst (v := (-1)) hx hb dX9_then_29 (by decide) ?_
        exact W.iret (v := (-1)) hx hb hr (fun t ht hW => ⟨⟨(-1), (), rfl, trivial, ⟨z54_2, z55_9, z56_10, z57_11, z58_12, z59_13, 0, z46_3, z61_4, z62_14, z63_15, ⟨by rw [ht]; exact hP, va_K.moved hW.alike hK, hD⟩, hz46_3, hz61_4, hz62_14, hz63_15⟩⟩, hS.F ht⟩) hS.2.2 dX9_then_30
    · refine lv_if_eq (tgt := 29) hx hb dX9_then_19 (by decide) (fun _ => ?_) (fun z => absurd z (by decide))
      refine lv_iconst (v := (-1)) hx hb dX9_then_29 (by decide) ?_
      exact W.iret (v := (-1)) hx hb hr (fun t ht hW => ⟨⟨(-1), (), rfl, trivial, ⟨z54_2, q55, q56, f57, q58, f59, 0, z46_3, z61_4, x62, x63, ⟨by rw [ht]; exact hP, va_K.moved hW.alike hK, hD⟩, hz46_3, hz61_4, hx62, hx63⟩⟩, hS.F ht⟩) hS.2.2 dX9_then_30
  · refine lv_if_eq (tgt := 29) hx hb dX9_then_11 (by decide) (fun _ => ?_) (fun z => absurd z (by decide))
    refine lv_iconst (v := (-1)) hx hb dX9_then_29 (by decide) ?_
    exact W.iret (v := (-1)) hx hb hr (fun t ht hW => ⟨⟨(-1), (), rfl, trivial, ⟨z54_2, q55, q56, f57, q58, f59, 0, z46_3, z61_4, x62, x63, ⟨by rw [ht]; exact hP, va_K.moved hW.alike hK, hD⟩, hz46_3, hz61_4, hx62, hx63⟩⟩, hS.F ht⟩) hS.2.2 dX9_then_30
theorem dX9_latest_0 : decode cX9_latest 0 = .ok (.aload_n 0, 1) := by decide +kernel
theorem dX9_latest_1 : decode cX9_latest 1 = .ok (.iconst 0, 1) := by decide +kernel
theorem dX9_latest_2 : decode cX9_latest 2 = .ok (.putfield 142, 3) := by decide +kernel
theorem dX9_latest_5 : decode cX9_latest 5 = .ok (.iload_n 3, 1) := by decide +kernel
theorem dX9_latest_6 : decode cX9_latest 6 = .ok (.iconst 0, 1) := by decide +kernel
theorem dX9_latest_7 : decode cX9_latest 7 = .ok (.sipush 1000, 3) := by decide +kernel
theorem dX9_latest_10 : decode cX9_latest 10 = .ok (.invokestatic 152, 3) := by decide +kernel
theorem dX9_latest_13 : decode cX9_latest 13 = .ok (.ifCond .eq 35, 3) := by decide +kernel
theorem dX9_latest_16 : decode cX9_latest 16 = .ok (.aload_n 0, 1) := by decide +kernel
theorem dX9_latest_17 : decode cX9_latest 17 = .ok (.iload_n 1, 1) := by decide +kernel
theorem dX9_latest_18 : decode cX9_latest 18 = .ok (.iload_n 2, 1) := by decide +kernel
theorem dX9_latest_19 : decode cX9_latest 19 = .ok (.invokevirtual 454, 3) := by decide +kernel
theorem dX9_latest_22 : decode cX9_latest 22 = .ok (.ifCond .eq 26, 3) := by decide +kernel
theorem dX9_latest_25 : decode cX9_latest 25 = .ok (.aload_n 0, 1) := by decide +kernel
theorem dX9_latest_26 : decode cX9_latest 26 = .ok (.sipush 256, 3) := by decide +kernel
theorem dX9_latest_29 : decode cX9_latest 29 = .ok (.iload_n 3, 1) := by decide +kernel
theorem dX9_latest_30 : decode cX9_latest 30 = .ok (.imul, 1) := by decide +kernel
theorem dX9_latest_31 : decode cX9_latest 31 = .ok (.invokevirtual 460, 3) := by decide +kernel
theorem dX9_latest_34 : decode cX9_latest 34 = .ok (.ifCond .eq 14, 3) := by decide +kernel
theorem dX9_latest_37 : decode cX9_latest 37 = .ok (.aload_n 0, 1) := by decide +kernel
theorem dX9_latest_38 : decode cX9_latest 38 = .ok (.getfield 133, 3) := by decide +kernel
theorem dX9_latest_41 : decode cX9_latest 41 = .ok (.iload_n 2, 1) := by decide +kernel
theorem dX9_latest_42 : decode cX9_latest 42 = .ok (.iconst 1, 1) := by decide +kernel
theorem dX9_latest_43 : decode cX9_latest 43 = .ok (.iadd, 1) := by decide +kernel
theorem dX9_latest_44 : decode cX9_latest 44 = .ok (.iaload, 1) := by decide +kernel
theorem dX9_latest_45 : decode cX9_latest 45 = .ok (.goto 4, 3) := by decide +kernel
theorem dX9_latest_48 : decode cX9_latest 48 = .ok (.iconst (-1), 1) := by decide +kernel
theorem dX9_latest_49 : decode cX9_latest 49 = .ok (.ireturn, 1) := by decide +kernel
abbrev vs_M_latest : List Cond := .code yX9_latest cX9_latest 4 (some .int) :: VM
theorem g_M_latest_X9_in : GoodIn vs_M_latest (va_wsS RX9 152 yX9_in vs_X9_in) := gm_0 (fun w h => by
  rcases List.mem_cons.mp h with rfl | h
  · exact vm_153
  rcases List.mem_cons.mp h with rfl | h
  · exact vm_154
  rcases List.mem_cons.mp h with rfl | h
  · exact vm_12
  rcases List.mem_cons.mp h with rfl | h
  · exact vm_14
  exact absurd h (List.not_mem_nil))
theorem g_M_latest_M_isStep : GoodIn vs_M_latest (wsV RX9 454 RX9 yX9_isStep vs_M_isStep) := gm_V vm_357 vm_358 vm_359 vm_12 vm_352
theorem g_M_latest_M_laysGreatest : GoodIn vs_M_latest (wsV RX9 460 RX9 yX9_laysGreatest vs_M_laysGreatest) := gm_V vm_366 vm_367 vm_368 vm_12 vm_350
set_option maxHeartbeats 4000000 in
set_option maxRecDepth 100000 in
theorem c_M_latest (l : Launch) (dC : Nat → ClassId) (dI : Nat → Nat → Nat) (sz : Nat) (ad : Nat → Nat) (ck : Nat → ClassId) (x0 : Int32) (x16 : Nat) (x18 : Nat) (x19 : Nat) (x20 : Int32) (x21 : Nat) (x22 : Nat) (x23 : Int32) (x24 : Int32) (x25 : Int32) (x26 : Nat) (x27 : Int32) (x28 : Nat) (x29 : Nat) (x30 : Nat) (x33 : Nat) (x45 : Int32) (x46 : Nat) (x52 : Nat) (x53 : Nat) (x61 : Nat) (x62 : Nat) (x63 : Nat) (x65 : Nat) (x66 : Int32) (f1 : Nat → Int32) (f2 : Nat → Int32) (f3 : Nat → Int32) (q4 : Nat → Nat) (q5 : Nat → Nat) (q6 : Nat → Nat) (q7 : Nat → Nat) (f8 : Nat → Int32) (q9 : Nat → Nat) (q10 : Nat → Nat) (f11 : Nat → Int32) (m12_0 m12_1 : Nat) (m13_0 m13_1 : Nat) (m14_0 m14_1 : Nat) (m15_0 m15_1 : Nat) (f17 : Nat → Int32) (q31 : Nat → Nat) (f32 : Nat → Int32) (f34 : Nat → Int32) (f35 : Nat → Int32) (f36 : Nat → Int32) (f37 : Nat → Int32) (q38 : Nat → Nat) (f39 : Nat → Int32) (f40 : Nat → Int32) (f41 : Nat → Int32) (m42_0 m42_1 : Nat) (f43 : Nat → Int32) (f44 : Nat → Int32) (f47 : Nat → Int32) (f48 : Nat → Int32) (f49 : Nat → Int32) (f50 : Nat → Int32) (f51 : Nat → Int32) (q54 : Nat → Nat) (q55 : Nat → Nat) (q56 : Nat → Nat) (f57 : Nat → Int32) (q58 : Nat → Nat) (f59 : Nat → Int32) (f60 : Nat → Int32) (f64 : Nat → Int32) (p0 : Int32) (p1 : Int32) (p2 : Int32) (hx16 : x16 ≤ 1) (hx18 : x18 ≤ 900) (hx19 : x19 ≤ 900) (hx21 : x21 ≤ 900) (hx22 : x22 ≤ 4) (hx26 : x26 ≤ 6) (hx28 : x28 ≤ 1) (hx29 : x29 ≤ 1) (hx30 : x30 ≤ 1) (hx33 : x33 ≤ 20) (hx46 : x46 ≤ 5) (hx52 : x52 ≤ 2400) (hx53 : x53 ≤ 119) (hx61 : x61 ≤ 119) (hx62 : x62 ≤ 2000) (hx63 : x63 ≤ 1) (hx65 : x65 ≤ 7) (hm12_0 : m12_0 ≤ 3) (hm12_1 : m12_1 ≤ 3) (hm13_0 : m13_0 ≤ 8) (hm13_1 : m13_1 ≤ 8) (hm14_0 : m14_0 ≤ 14) (hm14_1 : m14_1 ≤ 14) (hm15_0 : m15_0 ≤ 8) (hm15_1 : m15_1 ≤ 8) (hm42_0 : m42_0 ≤ 120) (hm42_1 : m42_1 ≤ 400) (hbg : (x16 = 0 ∧ (m13_0 = 0 ∨ 1 ≤ m15_0)) ∨ (x16 = 1 ∧ (m13_1 = 0 ∨ 1 ≤ m15_1))) (hgr : gz_ok m42_0 f39 f40 f41) : Met l yX9_latest vs_M_latest ({ frames := 6, cells := 0, slots := 0, locals := 138 }) (va_Pc [.ref (ad 0), .int p0, .int p1, .int p2] (pu_B (dC, dI) (mo_w ad ck x0 (nI x16) (nI x18) (nI x19) x20 (nI x21) (nI x22) x23 x24 x25 (nI x26) x27 (nI x28) (nI x29) (nI x30) (nI x33) x45 (nI x46) (nI x52) (nI x53) (nI x61) (nI x62) (nI x63) (nI x65) x66 f1 f2 f3 (bN 3 q4) (bN 7 q5) (bN 7 q6) (bN 4 q7) f8 (bN 2 q9) (bH q10) f11 (b2 m12_0 m12_1) (b2 m13_0 m13_1) (b2 m14_0 m14_1) (b2m m15_0 m15_1) f17 (bA 159 q31) f32 f34 f35 f36 f37 (bN 7 q38) f39 f40 f41 (b2 m42_0 m42_1) f43 f44 f47 f48 f49 f50 f51 (bN 13 q54) (bN 120 q55) (bN 120 q56) f57 (bN 120 q58) f59 f60 f64) (mo_t ck) sz)) (va_Qi (fun (r : Int32) (_ : Unit) => True) (fun _ t => ∃ (z54 : Nat → Nat) (z55 : Nat → Nat) (z56 : Nat → Nat) (z57 : Nat → Int32) (z58 : Nat → Nat) (z59 : Nat → Int32) (z0 : Int32) (z46 : Nat) (z61 : Nat) (z62 : Nat) (z63 : Nat), pu_E (dC, dI) (mo_w ad ck z0 (nI x16) (nI x18) (nI x19) x20 (nI x21) (nI x22) x23 x24 x25 (nI x26) x27 (nI x28) (nI x29) (nI x30) (nI x33) x45 (nI z46) (nI x52) (nI x53) (nI z61) (nI z62) (nI z63) (nI x65) x66 f1 f2 f3 (bN 3 q4) (bN 7 q5) (bN 7 q6) (bN 4 q7) f8 (bN 2 q9) (bH q10) f11 (b2 m12_0 m12_1) (b2 m13_0 m13_1) (b2 m14_0 m14_1) (b2m m15_0 m15_1) f17 (bA 159 q31) f32 f34 f35 f36 f37 (bN 7 q38) f39 f40 f41 (b2 m42_0 m42_1) f43 f44 f47 f48 f49 f50 f51 (bN 13 z54) (bN 120 z55) (bN 120 z56) z57 (bN 120 z58) z59 f60 f64) (mo_t ck) (va_A ((mo_w ad ck x0 (nI x16) (nI x18) (nI x19) x20 (nI x21) (nI x22) x23 x24 x25 (nI x26) x27 (nI x28) (nI x29) (nI x30) (nI x33) x45 (nI x46) (nI x52) (nI x53) (nI x61) (nI x62) (nI x63) (nI x65) x66 f1 f2 f3 (bN 3 q4) (bN 7 q5) (bN 7 q6) (bN 4 q7) f8 (bN 2 q9) (bH q10) f11 (b2 m12_0 m12_1) (b2 m13_0 m13_1) (b2 m14_0 m14_1) (b2m m15_0 m15_1) f17 (bA 159 q31) f32 f34 f35 f36 f37 (bN 7 q38) f39 f40 f41 (b2 m42_0 m42_1) f43 f44 f47 f48 f49 f50 f51 (bN 13 q54) (bN 120 q55) (bN 120 q56) f57 (bN 120 q58) f59 f60 f64)) sz) t ∧ (z46 ≤ 5) ∧ (z61 ≤ 119) ∧ (z62 ≤ 2000) ∧ (z63 ≤ 1)) (va_A ((mo_w ad ck x0 (nI x16) (nI x18) (nI x19) x20 (nI x21) (nI x22) x23 x24 x25 (nI x26) x27 (nI x28) (nI x29) (nI x30) (nI x33) x45 (nI x46) (nI x52) (nI x53) (nI x61) (nI x62) (nI x63) (nI x65) x66 f1 f2 f3 (bN 3 q4) (bN 7 q5) (bN 7 q6) (bN 4 q7) f8 (bN 2 q9) (bH q10) f11 (b2 m12_0 m12_1) (b2 m13_0 m13_1) (b2 m14_0 m14_1) (b2m m15_0 m15_1) f17 (bA 159 q31) f32 f34 f35 f36 f37 (bN 7 q38) f39 f40 f41 (b2 m42_0 m42_1) f43 f44 f47 f48 f49 f50 f51 (bN 13 q54) (bN 120 q55) (bN 120 q56) f57 (bN 120 q58) f59 f60 f64)) sz)) 0 0 (va_A ((mo_w ad ck x0 (nI x16) (nI x18) (nI x19) x20 (nI x21) (nI x22) x23 x24 x25 (nI x26) x27 (nI x28) (nI x29) (nI x30) (nI x33) x45 (nI x46) (nI x52) (nI x53) (nI x61) (nI x62) (nI x63) (nI x65) x66 f1 f2 f3 (bN 3 q4) (bN 7 q5) (bN 7 q6) (bN 4 q7) f8 (bN 2 q9) (bH q10) f11 (b2 m12_0 m12_1) (b2 m13_0 m13_1) (b2 m14_0 m14_1) (b2m m15_0 m15_1) f17 (bA 159 q31) f32 f34 f35 f36 f37 (bN 7 q38) f39 f40 f41 (b2 m42_0 m42_1) f43 f44 f47 f48 f49 f50 f51 (bN 13 q54) (bN 120 q55) (bN 120 q56) f57 (bN 120 q58) f59 f60 f64)) sz) := by
  refine Met.ofW (cc := cX9_latest) (maxL := 4) (ret := (some .int)) (by decide) rfl ?_
  intro p e s m args below meth c s₁ B hml hv
  obtain ⟨rfl, rfl, hP, hK, hD0⟩ := hv
  have hx := B.exec
  have hb := B.bytes
  have hr := B.returns
  have hts := atoms_spec (ws := vs_M_latest) B.pre
  have v_1 := hts (.fieldLink RX9 142 "ClockReachModel" "thrown" "I") (List.mem_cons_of_mem _ vm_24)
  have v_14 := hts (.fieldLink RX9 133 "ClockReachModel" "time" "[I") (List.mem_cons_of_mem _ vm_347)
  have hown : s.vm.findClass RX9 = some m.cls := findClass_of_methodNamed B.named
  have hlocks := B.notSynchronized
  have hiX9 : ∀ w ∈ wsX90, w ∈ vs_M_latest := fun _ h => List.mem_cons_of_mem _ (List.mem_append_right _ h)
  have hD := hD0.self (sz := s.heap.size)
  generalize hAe : va_A ((mo_w ad ck x0 (nI x16) (nI x18) (nI x19) x20 (nI x21) (nI x22) x23 x24 x25 (nI x26) x27 (nI x28) (nI x29) (nI x30) (nI x33) x45 (nI x46) (nI x52) (nI x53) (nI x61) (nI x62) (nI x63) (nI x65) x66 f1 f2 f3 (bN 3 q4) (bN 7 q5) (bN 7 q6) (bN 4 q7) f8 (bN 2 q9) (bH q10) f11 (b2 m12_0 m12_1) (b2 m13_0 m13_1) (b2 m14_0 m14_1) (b2m m15_0 m15_1) f17 (bA 159 q31) f32 f34 f35 f36 f37 (bN 7 q38) f39 f40 f41 (b2 m42_0 m42_1) f43 f44 f47 f48 f49 f50 f51 (bN 13 q54) (bN 120 q55) (bN 120 q56) f57 (bN 120 q58) f59 f60 f64)) s.heap.size = A at hD ⊢
  have hA : ∀ q : Nat, s.heap.size ≤ q → A q := fun q h => by rw [← hAe]; exact Or.inr h
  have hS : va_S A s.heap s.heap [] := va_S.rf
  have hl := lv_entry ([.ref (ad 0), .int p0, .int p1, .int p2]) (n := 4) (Nat.le_of_ble_eq_true rfl)
  rw [lg_entry_eq]
  generalize (lg_sl ([.ref (ad 0), .int p0, .int p1, .int p2]) ++ List.replicate (4 - (lg_sl ([.ref (ad 0), .int p0, .int p1, .int p2])).length) Slot.unset).toArray = ls at hl ⊢
  have hl : lv_has ls 4 [(0, .ref (ad 0)), (1, .int p0), (2, .int p1), (3, .int p2)] := hl
  refine lv_aload_n hx hb dX9_latest_0 rfl (lv_at hl 0 rfl) ?_
  refine lv_iconst (v := 0) hx hb dX9_latest_1 (by decide) ?_
  refine va_put (D := (dC, dI)) (ci := 9) (v := .int 0) (ty := .int) (C := RX9) (T := TX9) (N := 67) hx hb hts hiX9 tyX9 tyX9_ok nmX9 hown hK hP hD hS 0 rfl rfl 0 (by decide) v_1 (fun _ h9 => h9) rfl (by decide +kernel) rfl rfl (Nat.le_of_ble_eq_true rfl) dX9_latest_2 (fun H locs hP hD hS => ?_)
  have hP : va_P (dC, dI) vwCl (mo_w ad ck 0 (nI x16) (nI x18) (nI x19) x20 (nI x21) (nI x22) x23 x24 x25 (nI x26) x27 (nI x28) (nI x29) (nI x30) (nI x33) x45 (nI x46) (nI x52) (nI x53) (nI x61) (nI x62) (nI x63) (nI x65) x66 f1 f2 f3 (bN 3 q4) (bN 7 q5) (bN 7 q6) (bN 4 q7) f8 (bN 2 q9) (bH q10) f11 (b2 m12_0 m12_1) (b2 m13_0 m13_1) (b2 m14_0 m14_1) (b2m m15_0 m15_1) f17 (bA 159 q31) f32 f34 f35 f36 f37 (bN 7 q38) f39 f40 f41 (b2 m42_0 m42_1) f43 f44 f47 f48 f49 f50 f51 (bN 13 q54) (bN 120 q55) (bN 120 q56) f57 (bN 120 q58) f59 f60 f64) H := hP
  have hD : va_D A (mo_w ad ck 0 (nI x16) (nI x18) (nI x19) x20 (nI x21) (nI x22) x23 x24 x25 (nI x26) x27 (nI x28) (nI x29) (nI x30) (nI x33) x45 (nI x46) (nI x52) (nI x53) (nI x61) (nI x62) (nI x63) (nI x65) x66 f1 f2 f3 (bN 3 q4) (bN 7 q5) (bN 7 q6) (bN 4 q7) f8 (bN 2 q9) (bH q10) f11 (b2 m12_0 m12_1) (b2 m13_0 m13_1) (b2 m14_0 m14_1) (b2m m15_0 m15_1) f17 (bA 159 q31) f32 f34 f35 f36 f37 (bN 7 q38) f39 f40 f41 (b2 m42_0 m42_1) f43 f44 f47 f48 f49 f50 f51 (bN 13 q54) (bN 120 q55) (bN 120 q56) f57 (bN 120 q58) f59 f60 f64) := hD
  refine lv_iload_n hx hb dX9_latest_5 rfl (lv_at hl 3 rfl) ?_
  refine lv_iconst (v := 0) hx hb dX9_latest_6 (by decide) ?_
  refine lv_sipush (v := 1000) hx hb dX9_latest_7 (by decide) ?_
  refine va_calli (va_runS (As := [.int p2, .int 0, .int 1000]) (rest := []) ⟨hx, hb, hml, hown, hts⟩ (c_X9_in l dC dI _ p2 0 1000) (va_cwS 3 hts g_M_latest_X9_in rfl rfl rfl (by decide +kernel) ⟨Nat.le_of_ble_eq_true rfl, Nat.le_of_ble_eq_true rfl⟩) ⟨pu_bl, pu_in (hP.sub [] rfl) (hK.sub [] rfl) (hD.sub [] (by decide) rfl)⟩ rfl rfl hl.1 rfl (lv_room (Nat.le_of_ble_eq_true rfl)) dX9_latest_10 ⟨Nat.le_of_ble_eq_true rfl, Nat.le_of_ble_eq_true rfl⟩) hS (fun q _ h => pu_fr hS hA q h) (pu_fr hS hA) (fun r_1 u t H1 locs ht hvm hw hB hz1 hk1 hS => ?_)
  have hP := pu_keep hP hk1
  clear hk1 hz1 ht hvm
  generalize H1 = H at hP hS ⊢
  rcases hw with ⟨rfl, hi1, hi2⟩ | ⟨rfl, hi3⟩
  · obtain ⟨n_2, hn_2, rfl⟩ := pu_in0 (n := 1000) (by omega) hi1 hi2
    refine lv_if_eq (tgt := 48) hx hb dX9_latest_13 (by decide) (fun z => absurd z (by decide)) (fun _ => ?_)
    refine lv_aload_n hx hb dX9_latest_16 rfl (lv_at hl 0 rfl) ?_
    refine lv_iload_n hx hb dX9_latest_17 rfl (lv_at hl 1 rfl) ?_
    refine lv_iload_n hx hb dX9_latest_18 rfl (lv_at hl 2 rfl) ?_
    have hFc := pu_free hD hS hA
    refine va_calli (va_runV (As := [.int p0, .int p1]) (rest := []) ⟨hx, hb, hml, hown, hts⟩ (c_M_isStep l dC dI _ ad ck 0 x16 x18 x19 x20 x21 x22 x23 x24 x25 x26 x27 x28 x29 x30 x33 x45 x46 x52 x53 x61 x62 x63 x65 x66 f1 f2 f3 q4 q5 q6 q7 f8 q9 q10 f11 m12_0 m12_1 m13_0 m13_1 m14_0 m14_1 m15_0 m15_1 f17 q31 f32 f34 f35 f36 f37 q38 f39 f40 f41 m42_0 m42_1 f43 f44 f47 f48 f49 f50 f51 q54 q55 q56 f57 q58 f59 f60 f64 p0 p1 hx16 hx18 hx19 hx21 hx22 hx26 hx28 hx29 hx30 hx33 hx46 hx52 hx53 hx61 hx62 hx63 hx65 hm12_0 hm12_1 hm13_0 hm13_1 hm14_0 hm14_1 hm15_0 hm15_1 hm42_0 hm42_1 (by first | assumption | exact gz_0)) (cwV 2 hts g_M_latest_M_isStep rfl rfl rfl (by decide +kernel) ⟨Nat.le_of_ble_eq_true rfl, Nat.le_of_ble_eq_true rfl⟩) ⟨pu_bl, va_recv hK hP (ci := 9) (q0 := 0) rfl rfl, pu_in hP hK hD⟩ rfl rfl hl.1 rfl (lv_room (Nat.le_of_ble_eq_true rfl)) dX9_latest_19 ⟨Nat.le_of_ble_eq_true rfl, Nat.le_of_ble_eq_true rfl⟩) hS (fun q _ h => hFc q h) hFc (fun r_3 u t H1 locs ht hvm hw hB hz1 hk1 hS => ?_)
    obtain ⟨z54_4, z46_5, z61_6, ⟨hP1, -, hD1⟩, hz46_5, hz61_6⟩ := hB
    rw [ht] at hP1
    have hP := hP1
    have hD := pu_all hFc hD1
    clear hP1 hD1 hFc
    clear hk1 hz1 ht hvm
    generalize H1 = H at hP hS ⊢
    rcases hw with ⟨rfl, hw⟩ | rfl
    · obtain ⟨n_7, hn_7, rfl⟩ := hw
      refine lv_if_eq (tgt := 48) hx hb dX9_latest_22 (by decide) (fun z => absurd z (by decide)) (fun _ => ?_)
      refine lv_aload_n hx hb dX9_latest_25 rfl (lv_at hl 0 rfl) ?_
      refine lv_sipush (v := 256) hx hb dX9_latest_26 (by decide) ?_
      refine lv_iload_n hx hb dX9_latest_29 rfl (lv_at hl 3 rfl) ?_
      refine lv_imul hx hb dX9_latest_30 ?_
      refine lv_topi (fun y_8 ey_8 => ?_)
      obtain rfl : y_8 = (nI (256 * n_2)) := ey_8.trans (pk_mul 256 n_2)
      have hFc := pu_free hD hS hA
      refine va_calli (va_runV (As := [.int (nI (256 * n_2))]) (rest := []) ⟨hx, hb, hml, hown, hts⟩ (c_M_laysGreatest l dC dI _ ad ck 0 x16 x18 x19 x20 x21 x22 x23 x24 x25 x26 x27 x28 x29 x30 x33 x45 z46_5 x52 x53 z61_6 x62 x63 x65 x66 f1 f2 f3 q4 q5 q6 q7 f8 q9 q10 f11 m12_0 m12_1 m13_0 m13_1 m14_0 m14_1 m15_0 m15_1 f17 q31 f32 f34 f35 f36 f37 q38 f39 f40 f41 m42_0 m42_1 f43 f44 f47 f48 f49 f50 f51 z54_4 q55 q56 f57 q58 f59 f60 f64 (nI (256 * n_2)) hx16 hx18 hx19 hx21 hx22 hx26 hx28 hx29 hx30 hx33 hz46_5 hx52 hx53 hz61_6 hx62 hx63 hx65 hm12_0 hm12_1 hm13_0 hm13_1 hm14_0 hm14_1 hm15_0 hm15_1 hm42_0 hm42_1 (by first | assumption | omega)) (cwV 1 hts g_M_latest_M_laysGreatest rfl rfl rfl (by decide +kernel) ⟨Nat.le_of_ble_eq_true rfl, Nat.le_of_ble_eq_true rfl⟩) ⟨pu_bl, va_recv hK hP (ci := 9) (q0 := 0) rfl rfl, pu_in hP hK hD⟩ rfl rfl hl.1 rfl (lv_room (Nat.le_of_ble_eq_true rfl)) dX9_latest_31 ⟨Nat.le_of_ble_eq_true rfl, Nat.le_of_ble_eq_true rfl⟩) hS (fun q _ h => hFc q h) hFc (fun r_9 u t H1 locs ht hvm hw hB hz1 hk1 hS => ?_)
      obtain ⟨z55_10, z56_11, z57_12, z58_13, z59_14, z62_15, z63_16, ⟨hP1, -, hD1⟩, hz62_15, hz63_16⟩ := hB
      rw [ht] at hP1
      have hP := hP1
      have hD := pu_all hFc hD1
      clear hP1 hD1 hFc
      clear hk1 hz1 ht hvm
      generalize H1 = H at hP hS ⊢
      obtain ⟨u_17, hu_17, rfl⟩ := hw
      refine lv_if_eq (tgt := 48) hx hb dX9_latest_34 (by decide) (fun c_18 => ?_) (fun c_18 => ?_)
      · have c_18 : u_17 = 0 := (nI_eq (a := u_17) (b := 0) (Nat.lt_of_le_of_lt hu_17 (Nat.le_of_ble_eq_true rfl)) (Nat.le_of_ble_eq_true rfl)).mp c_18
        refine lv_iconst (v := (-1)) hx hb dX9_latest_48 (by decide) ?_
        exact W.iret (v := (-1)) hx hb hr (fun t ht hW => ⟨⟨(-1), (), rfl, trivial, ⟨z54_4, z55_10, z56_11, z57_12, z58_13, z59_14, 0, z46_5, z61_6, z62_15, z63_16, ⟨by rw [ht]; exact hP, va_K.moved hW.alike hK, hD⟩, hz46_5, hz61_6, hz62_15, hz63_16⟩⟩, hS.F ht⟩) hS.2.2 dX9_latest_49
      · have c_18 : ¬ u_17 = 0 := fun z => c_18 ((nI_eq (a := u_17) (b := 0) (Nat.lt_of_le_of_lt hu_17 (Nat.le_of_ble_eq_true rfl)) (Nat.le_of_ble_eq_true rfl)).mpr z)
        refine lv_aload_n hx hb dX9_latest_37 rfl (lv_at hl 0 rfl) ?_
        refine va_get (D := (dC, dI)) (ci := 9) (v := .ref (ad 59)) (C := RX9) (T := TX9) (N := 67) hx hb hts hiX9 hown hK hP 0 rfl rfl 59 (by decide) v_14 (fun _ h9 => h9) rfl dX9_latest_38 ?_
        refine lv_iload_n hx hb dX9_latest_41 rfl (lv_at hl 2 rfl) ?_
        refine lv_iconst (v := 1) hx hb dX9_latest_42 (by decide) ?_
        refine lv_iadd hx hb dX9_latest_43 ?_
        refine lv_topi (fun y_19 ey_19 => ?_)
        obtain rfl : y_19 = (nI (n_7 + 1)) := ey_19.trans (nI_add n_7 1)
        refine va_iald hx hb hK hP 40 39 rfl rfl (vp_in_nI (n := (n_7 + 1)) (by omega) (Nat.le_of_ble_eq_true rfl)) dX9_latest_44 ?_
        refine lv_topi (fun y_20 ey_20 => ?_)
        refine lv_goto (tgt := 49) hx hb dX9_latest_45 (by decide) ?_
        exact W.iret (v := y_20) hx hb hr (fun t ht hW => ⟨⟨y_20, (), rfl, trivial, ⟨z54_4, z55_10, z56_11, z57_12, z58_13, z59_14, 0, z46_5, z61_6, z62_15, z63_16, ⟨by rw [ht]; exact hP, va_K.moved hW.alike hK, hD⟩, hz46_5, hz61_6, hz62_15, hz63_16⟩⟩, hS.F ht⟩) hS.2.2 dX9_latest_49
    · refine lv_if_eq (tgt := 48) hx hb dX9_latest_22 (by decide) (fun _ => ?_) (fun z => absurd z (by decide))
      refine lv_iconst (v := (-1)) hx hb dX9_latest_48 (by decide) ?_
      exact W.iret (v := (-1)) hx hb hr (fun t ht hW => ⟨⟨(-1), (), rfl, trivial, ⟨z54_4, q55, q56, f57, q58, f59, 0, z46_5, z61_6, x62, x63, ⟨by rw [ht]; exact hP, va_K.moved hW.alike hK, hD⟩, hz46_5, hz61_6, hx62, hx63⟩⟩, hS.F ht⟩) hS.2.2 dX9_latest_49
  · refine lv_if_eq (tgt := 48) hx hb dX9_latest_13 (by decide) (fun _ => ?_) (fun z => absurd z (by decide))
    refine lv_iconst (v := (-1)) hx hb dX9_latest_48 (by decide) ?_
    exact W.iret (v := (-1)) hx hb hr (fun t ht hW => ⟨⟨(-1), (), rfl, trivial, ⟨q54, q55, q56, f57, q58, f59, 0, x46, x61, x62, x63, ⟨by rw [ht]; exact hP, va_K.moved hW.alike hK, hD⟩, hx46, hx61, hx62, hx63⟩⟩, hS.F ht⟩) hS.2.2 dX9_latest_49
theorem dX9_spanned_0 : decode cX9_spanned 0 = .ok (.aload_n 0, 1) := by decide +kernel
theorem dX9_spanned_1 : decode cX9_spanned 1 = .ok (.invokevirtual 444, 3) := by decide +kernel
theorem dX9_spanned_4 : decode cX9_spanned 4 = .ok (.aload_n 0, 1) := by decide +kernel
theorem dX9_spanned_5 : decode cX9_spanned 5 = .ok (.getfield 435, 3) := by decide +kernel
theorem dX9_spanned_8 : decode cX9_spanned 8 = .ok (.ifCond .eq 5, 3) := by decide +kernel
theorem dX9_spanned_11 : decode cX9_spanned 11 = .ok (.iconst (-1), 1) := by decide +kernel
theorem dX9_spanned_12 : decode cX9_spanned 12 = .ok (.ireturn, 1) := by decide +kernel
theorem dX9_spanned_13 : decode cX9_spanned 13 = .ok (.aload_n 0, 1) := by decide +kernel
theorem dX9_spanned_14 : decode cX9_spanned 14 = .ok (.getfield 429, 3) := by decide +kernel
theorem dX9_spanned_17 : decode cX9_spanned 17 = .ok (.iconst 1, 1) := by decide +kernel
theorem dX9_spanned_18 : decode cX9_spanned 18 = .ok (.iadd, 1) := by decide +kernel
theorem dX9_spanned_19 : decode cX9_spanned 19 = .ok (.istore_n 2, 1) := by decide +kernel
theorem dX9_spanned_20 : decode cX9_spanned 20 = .ok (.iconst 0, 1) := by decide +kernel
theorem dX9_spanned_21 : decode cX9_spanned 21 = .ok (.istore_n 3, 1) := by decide +kernel
theorem dX9_spanned_22 : decode cX9_spanned 22 = .ok (.iload_n 3, 1) := by decide +kernel
theorem dX9_spanned_23 : decode cX9_spanned 23 = .ok (.iload_n 2, 1) := by decide +kernel
theorem dX9_spanned_24 : decode cX9_spanned 24 = .ok (.if_icmp .ge 48, 3) := by decide +kernel
theorem dX9_spanned_27 : decode cX9_spanned 27 = .ok (.iconst 0, 1) := by decide +kernel
theorem dX9_spanned_28 : decode cX9_spanned 28 = .ok (.istore 4, 2) := by decide +kernel
theorem dX9_spanned_30 : decode cX9_spanned 30 = .ok (.iload 4, 2) := by decide +kernel
theorem dX9_spanned_32 : decode cX9_spanned 32 = .ok (.iload_n 2, 1) := by decide +kernel
theorem dX9_spanned_33 : decode cX9_spanned 33 = .ok (.if_icmp .ge 33, 3) := by decide +kernel
theorem dX9_spanned_36 : decode cX9_spanned 36 = .ok (.aload_n 0, 1) := by decide +kernel
theorem dX9_spanned_37 : decode cX9_spanned 37 = .ok (.getfield 136, 3) := by decide +kernel
theorem dX9_spanned_40 : decode cX9_spanned 40 = .ok (.iload_n 2, 1) := by decide +kernel
theorem dX9_spanned_41 : decode cX9_spanned 41 = .ok (.iload_n 3, 1) := by decide +kernel
theorem dX9_spanned_42 : decode cX9_spanned 42 = .ok (.imul, 1) := by decide +kernel
theorem dX9_spanned_43 : decode cX9_spanned 43 = .ok (.iload 4, 2) := by decide +kernel
theorem dX9_spanned_45 : decode cX9_spanned 45 = .ok (.iadd, 1) := by decide +kernel
theorem dX9_spanned_46 : decode cX9_spanned 46 = .ok (.iload_n 3, 1) := by decide +kernel
theorem dX9_spanned_47 : decode cX9_spanned 47 = .ok (.iload 4, 2) := by decide +kernel
theorem dX9_spanned_49 : decode cX9_spanned 49 = .ok (.if_icmp .ne 7, 3) := by decide +kernel
theorem dX9_spanned_52 : decode cX9_spanned 52 = .ok (.iconst 1, 1) := by decide +kernel
theorem dX9_spanned_53 : decode cX9_spanned 53 = .ok (.goto 6, 3) := by decide +kernel
theorem dX9_spanned_56 : decode cX9_spanned 56 = .ok (.ldc_w 327, 3) := by decide +kernel
theorem dX9_spanned_59 : decode cX9_spanned 59 = .ok (.iastore, 1) := by decide +kernel
theorem dX9_spanned_60 : decode cX9_spanned 60 = .ok (.iinc 4 1, 3) := by decide +kernel
theorem dX9_spanned_63 : decode cX9_spanned 63 = .ok (.goto (-33), 3) := by decide +kernel
theorem dX9_spanned_66 : decode cX9_spanned 66 = .ok (.iinc 3 1, 3) := by decide +kernel
theorem dX9_spanned_69 : decode cX9_spanned 69 = .ok (.goto (-47), 3) := by decide +kernel
theorem dX9_spanned_72 : decode cX9_spanned 72 = .ok (.iconst 0, 1) := by decide +kernel
theorem dX9_spanned_73 : decode cX9_spanned 73 = .ok (.istore_n 3, 1) := by decide +kernel
theorem dX9_spanned_74 : decode cX9_spanned 74 = .ok (.iload_n 3, 1) := by decide +kernel
theorem dX9_spanned_75 : decode cX9_spanned 75 = .ok (.aload_n 0, 1) := by decide +kernel
theorem dX9_spanned_76 : decode cX9_spanned 76 = .ok (.getfield 432, 3) := by decide +kernel
theorem dX9_spanned_79 : decode cX9_spanned 79 = .ok (.if_icmp .ge 49, 3) := by decide +kernel
theorem dX9_spanned_82 : decode cX9_spanned 82 = .ok (.iload_n 2, 1) := by decide +kernel
theorem dX9_spanned_83 : decode cX9_spanned 83 = .ok (.aload_n 0, 1) := by decide +kernel
theorem dX9_spanned_84 : decode cX9_spanned 84 = .ok (.getfield 121, 3) := by decide +kernel
theorem dX9_spanned_87 : decode cX9_spanned 87 = .ok (.iload_n 3, 1) := by decide +kernel
theorem dX9_spanned_88 : decode cX9_spanned 88 = .ok (.iaload, 1) := by decide +kernel
theorem dX9_spanned_89 : decode cX9_spanned 89 = .ok (.imul, 1) := by decide +kernel
theorem dX9_spanned_90 : decode cX9_spanned 90 = .ok (.aload_n 0, 1) := by decide +kernel
theorem dX9_spanned_91 : decode cX9_spanned 91 = .ok (.getfield 124, 3) := by decide +kernel
theorem dX9_spanned_94 : decode cX9_spanned 94 = .ok (.iload_n 3, 1) := by decide +kernel
theorem dX9_spanned_95 : decode cX9_spanned 95 = .ok (.iaload, 1) := by decide +kernel
theorem dX9_spanned_96 : decode cX9_spanned 96 = .ok (.iadd, 1) := by decide +kernel
theorem dX9_spanned_97 : decode cX9_spanned 97 = .ok (.istore 4, 2) := by decide +kernel
theorem dX9_spanned_99 : decode cX9_spanned 99 = .ok (.aload_n 0, 1) := by decide +kernel
theorem dX9_spanned_100 : decode cX9_spanned 100 = .ok (.getfield 136, 3) := by decide +kernel
theorem dX9_spanned_103 : decode cX9_spanned 103 = .ok (.iload 4, 2) := by decide +kernel
theorem dX9_spanned_105 : decode cX9_spanned 105 = .ok (.aload_n 0, 1) := by decide +kernel
theorem dX9_spanned_106 : decode cX9_spanned 106 = .ok (.getfield 136, 3) := by decide +kernel
theorem dX9_spanned_109 : decode cX9_spanned 109 = .ok (.iload 4, 2) := by decide +kernel
theorem dX9_spanned_111 : decode cX9_spanned 111 = .ok (.iaload, 1) := by decide +kernel
theorem dX9_spanned_112 : decode cX9_spanned 112 = .ok (.aload_n 0, 1) := by decide +kernel
theorem dX9_spanned_113 : decode cX9_spanned 113 = .ok (.getfield 127, 3) := by decide +kernel
theorem dX9_spanned_116 : decode cX9_spanned 116 = .ok (.iload_n 3, 1) := by decide +kernel
theorem dX9_spanned_117 : decode cX9_spanned 117 = .ok (.iaload, 1) := by decide +kernel
theorem dX9_spanned_118 : decode cX9_spanned 118 = .ok (.invokestatic 182, 3) := by decide +kernel
theorem dX9_spanned_121 : decode cX9_spanned 121 = .ok (.iastore, 1) := by decide +kernel
theorem dX9_spanned_122 : decode cX9_spanned 122 = .ok (.iinc 3 1, 3) := by decide +kernel
theorem dX9_spanned_125 : decode cX9_spanned 125 = .ok (.goto (-51), 3) := by decide +kernel
theorem dX9_spanned_128 : decode cX9_spanned 128 = .ok (.iconst 0, 1) := by decide +kernel
theorem dX9_spanned_129 : decode cX9_spanned 129 = .ok (.istore_n 3, 1) := by decide +kernel
theorem dX9_spanned_130 : decode cX9_spanned 130 = .ok (.iload_n 3, 1) := by decide +kernel
theorem dX9_spanned_131 : decode cX9_spanned 131 = .ok (.iload_n 2, 1) := by decide +kernel
theorem dX9_spanned_132 : decode cX9_spanned 132 = .ok (.if_icmp .ge 136, 3) := by decide +kernel
theorem dX9_spanned_135 : decode cX9_spanned 135 = .ok (.iconst 0, 1) := by decide +kernel
theorem dX9_spanned_136 : decode cX9_spanned 136 = .ok (.istore 4, 2) := by decide +kernel
theorem dX9_spanned_138 : decode cX9_spanned 138 = .ok (.iload 4, 2) := by decide +kernel
theorem dX9_spanned_140 : decode cX9_spanned 140 = .ok (.iload_n 2, 1) := by decide +kernel
theorem dX9_spanned_141 : decode cX9_spanned 141 = .ok (.if_icmp .ge 88, 3) := by decide +kernel
theorem dX9_spanned_144 : decode cX9_spanned 144 = .ok (.aload_n 0, 1) := by decide +kernel
theorem dX9_spanned_145 : decode cX9_spanned 145 = .ok (.getfield 136, 3) := by decide +kernel
theorem dX9_spanned_148 : decode cX9_spanned 148 = .ok (.iload_n 2, 1) := by decide +kernel
theorem dX9_spanned_149 : decode cX9_spanned 149 = .ok (.iload 4, 2) := by decide +kernel
theorem dX9_spanned_151 : decode cX9_spanned 151 = .ok (.imul, 1) := by decide +kernel
theorem dX9_spanned_152 : decode cX9_spanned 152 = .ok (.iload_n 3, 1) := by decide +kernel
theorem dX9_spanned_153 : decode cX9_spanned 153 = .ok (.iadd, 1) := by decide +kernel
theorem dX9_spanned_154 : decode cX9_spanned 154 = .ok (.iaload, 1) := by decide +kernel
theorem dX9_spanned_155 : decode cX9_spanned 155 = .ok (.istore 5, 2) := by decide +kernel
theorem dX9_spanned_157 : decode cX9_spanned 157 = .ok (.iconst 0, 1) := by decide +kernel
theorem dX9_spanned_158 : decode cX9_spanned 158 = .ok (.istore 6, 2) := by decide +kernel
theorem dX9_spanned_160 : decode cX9_spanned 160 = .ok (.iload 5, 2) := by decide +kernel
theorem dX9_spanned_162 : decode cX9_spanned 162 = .ok (.ldc_w 327, 3) := by decide +kernel
theorem dX9_spanned_165 : decode cX9_spanned 165 = .ok (.if_icmp .ge 58, 3) := by decide +kernel
theorem dX9_spanned_168 : decode cX9_spanned 168 = .ok (.iload 6, 2) := by decide +kernel
theorem dX9_spanned_170 : decode cX9_spanned 170 = .ok (.iload_n 2, 1) := by decide +kernel
theorem dX9_spanned_171 : decode cX9_spanned 171 = .ok (.if_icmp .ge 52, 3) := by decide +kernel
theorem dX9_spanned_174 : decode cX9_spanned 174 = .ok (.aload_n 0, 1) := by decide +kernel
theorem dX9_spanned_175 : decode cX9_spanned 175 = .ok (.getfield 136, 3) := by decide +kernel
theorem dX9_spanned_178 : decode cX9_spanned 178 = .ok (.iload_n 2, 1) := by decide +kernel
theorem dX9_spanned_179 : decode cX9_spanned 179 = .ok (.iload 4, 2) := by decide +kernel
theorem dX9_spanned_181 : decode cX9_spanned 181 = .ok (.imul, 1) := by decide +kernel
theorem dX9_spanned_182 : decode cX9_spanned 182 = .ok (.iload 6, 2) := by decide +kernel
theorem dX9_spanned_184 : decode cX9_spanned 184 = .ok (.iadd, 1) := by decide +kernel
theorem dX9_spanned_185 : decode cX9_spanned 185 = .ok (.aload_n 0, 1) := by decide +kernel
theorem dX9_spanned_186 : decode cX9_spanned 186 = .ok (.getfield 136, 3) := by decide +kernel
theorem dX9_spanned_189 : decode cX9_spanned 189 = .ok (.iload_n 2, 1) := by decide +kernel
theorem dX9_spanned_190 : decode cX9_spanned 190 = .ok (.iload 4, 2) := by decide +kernel
theorem dX9_spanned_192 : decode cX9_spanned 192 = .ok (.imul, 1) := by decide +kernel
theorem dX9_spanned_193 : decode cX9_spanned 193 = .ok (.iload 6, 2) := by decide +kernel
theorem dX9_spanned_195 : decode cX9_spanned 195 = .ok (.iadd, 1) := by decide +kernel
theorem dX9_spanned_196 : decode cX9_spanned 196 = .ok (.iaload, 1) := by decide +kernel
theorem dX9_spanned_197 : decode cX9_spanned 197 = .ok (.iload 5, 2) := by decide +kernel
theorem dX9_spanned_199 : decode cX9_spanned 199 = .ok (.aload_n 0, 1) := by decide +kernel
theorem dX9_spanned_200 : decode cX9_spanned 200 = .ok (.getfield 136, 3) := by decide +kernel
theorem dX9_spanned_203 : decode cX9_spanned 203 = .ok (.iload_n 2, 1) := by decide +kernel
theorem dX9_spanned_204 : decode cX9_spanned 204 = .ok (.iload_n 3, 1) := by decide +kernel
theorem dX9_spanned_205 : decode cX9_spanned 205 = .ok (.imul, 1) := by decide +kernel
theorem dX9_spanned_206 : decode cX9_spanned 206 = .ok (.iload 6, 2) := by decide +kernel
theorem dX9_spanned_208 : decode cX9_spanned 208 = .ok (.iadd, 1) := by decide +kernel
theorem dX9_spanned_209 : decode cX9_spanned 209 = .ok (.iaload, 1) := by decide +kernel
theorem dX9_spanned_210 : decode cX9_spanned 210 = .ok (.invokestatic 331, 3) := by decide +kernel
theorem dX9_spanned_213 : decode cX9_spanned 213 = .ok (.invokestatic 182, 3) := by decide +kernel
theorem dX9_spanned_216 : decode cX9_spanned 216 = .ok (.iastore, 1) := by decide +kernel
theorem dX9_spanned_217 : decode cX9_spanned 217 = .ok (.iinc 6 1, 3) := by decide +kernel
theorem dX9_spanned_220 : decode cX9_spanned 220 = .ok (.goto (-60), 3) := by decide +kernel
theorem dX9_spanned_223 : decode cX9_spanned 223 = .ok (.iinc 4 1, 3) := by decide +kernel
theorem dX9_spanned_226 : decode cX9_spanned 226 = .ok (.goto (-88), 3) := by decide +kernel
theorem dX9_spanned_229 : decode cX9_spanned 229 = .ok (.iconst 0, 1) := by decide +kernel
theorem dX9_spanned_230 : decode cX9_spanned 230 = .ok (.istore 4, 2) := by decide +kernel
theorem dX9_spanned_232 : decode cX9_spanned 232 = .ok (.iload 4, 2) := by decide +kernel
theorem dX9_spanned_234 : decode cX9_spanned 234 = .ok (.iload_n 2, 1) := by decide +kernel
theorem dX9_spanned_235 : decode cX9_spanned 235 = .ok (.if_icmp .ge 27, 3) := by decide +kernel
theorem dX9_spanned_238 : decode cX9_spanned 238 = .ok (.aload_n 0, 1) := by decide +kernel
theorem dX9_spanned_239 : decode cX9_spanned 239 = .ok (.getfield 136, 3) := by decide +kernel
theorem dX9_spanned_242 : decode cX9_spanned 242 = .ok (.iload_n 2, 1) := by decide +kernel
theorem dX9_spanned_243 : decode cX9_spanned 243 = .ok (.iload 4, 2) := by decide +kernel
theorem dX9_spanned_245 : decode cX9_spanned 245 = .ok (.imul, 1) := by decide +kernel
theorem dX9_spanned_246 : decode cX9_spanned 246 = .ok (.iload 4, 2) := by decide +kernel
theorem dX9_spanned_248 : decode cX9_spanned 248 = .ok (.iadd, 1) := by decide +kernel
theorem dX9_spanned_249 : decode cX9_spanned 249 = .ok (.iaload, 1) := by decide +kernel
theorem dX9_spanned_250 : decode cX9_spanned 250 = .ok (.iconst 1, 1) := by decide +kernel
theorem dX9_spanned_251 : decode cX9_spanned 251 = .ok (.if_icmp .ge 5, 3) := by decide +kernel
theorem dX9_spanned_254 : decode cX9_spanned 254 = .ok (.iconst (-1), 1) := by decide +kernel
theorem dX9_spanned_255 : decode cX9_spanned 255 = .ok (.ireturn, 1) := by decide +kernel
theorem dX9_spanned_256 : decode cX9_spanned 256 = .ok (.iinc 4 1, 3) := by decide +kernel
theorem dX9_spanned_259 : decode cX9_spanned 259 = .ok (.goto (-27), 3) := by decide +kernel
theorem dX9_spanned_262 : decode cX9_spanned 262 = .ok (.iinc 3 1, 3) := by decide +kernel
theorem dX9_spanned_265 : decode cX9_spanned 265 = .ok (.goto (-135), 3) := by decide +kernel
theorem dX9_spanned_268 : decode cX9_spanned 268 = .ok (.aload_n 0, 1) := by decide +kernel
theorem dX9_spanned_269 : decode cX9_spanned 269 = .ok (.getfield 136, 3) := by decide +kernel
theorem dX9_spanned_272 : decode cX9_spanned 272 = .ok (.aload_n 0, 1) := by decide +kernel
theorem dX9_spanned_273 : decode cX9_spanned 273 = .ok (.getfield 429, 3) := by decide +kernel
theorem dX9_spanned_276 : decode cX9_spanned 276 = .ok (.iaload, 1) := by decide +kernel
theorem dX9_spanned_277 : decode cX9_spanned 277 = .ok (.istore_n 3, 1) := by decide +kernel
theorem dX9_spanned_278 : decode cX9_spanned 278 = .ok (.aload_n 0, 1) := by decide +kernel
theorem dX9_spanned_279 : decode cX9_spanned 279 = .ok (.getfield 136, 3) := by decide +kernel
theorem dX9_spanned_282 : decode cX9_spanned 282 = .ok (.iload_n 2, 1) := by decide +kernel
theorem dX9_spanned_283 : decode cX9_spanned 283 = .ok (.aload_n 0, 1) := by decide +kernel
theorem dX9_spanned_284 : decode cX9_spanned 284 = .ok (.getfield 429, 3) := by decide +kernel
theorem dX9_spanned_287 : decode cX9_spanned 287 = .ok (.imul, 1) := by decide +kernel
theorem dX9_spanned_288 : decode cX9_spanned 288 = .ok (.iaload, 1) := by decide +kernel
theorem dX9_spanned_289 : decode cX9_spanned 289 = .ok (.istore 4, 2) := by decide +kernel
theorem dX9_spanned_291 : decode cX9_spanned 291 = .ok (.iload_n 1, 1) := by decide +kernel
theorem dX9_spanned_292 : decode cX9_spanned 292 = .ok (.tableswitch 56 0 2 #[28, 33, 37], 28) := by decide +kernel
theorem dX9_spanned_320 : decode cX9_spanned 320 = .ok (.iload_n 3, 1) := by decide +kernel
theorem dX9_spanned_321 : decode cX9_spanned 321 = .ok (.iconst 1, 1) := by decide +kernel
theorem dX9_spanned_322 : decode cX9_spanned 322 = .ok (.ishr, 1) := by decide +kernel
theorem dX9_spanned_323 : decode cX9_spanned 323 = .ok (.ineg, 1) := by decide +kernel
theorem dX9_spanned_324 : decode cX9_spanned 324 = .ok (.ireturn, 1) := by decide +kernel
theorem dX9_spanned_325 : decode cX9_spanned 325 = .ok (.iload_n 3, 1) := by decide +kernel
theorem dX9_spanned_326 : decode cX9_spanned 326 = .ok (.iconst 1, 1) := by decide +kernel
theorem dX9_spanned_327 : decode cX9_spanned 327 = .ok (.iand, 1) := by decide +kernel
theorem dX9_spanned_328 : decode cX9_spanned 328 = .ok (.ireturn, 1) := by decide +kernel
theorem dX9_spanned_329 : decode cX9_spanned 329 = .ok (.iload 4, 2) := by decide +kernel
theorem dX9_spanned_331 : decode cX9_spanned 331 = .ok (.ldc_w 327, 3) := by decide +kernel
theorem dX9_spanned_334 : decode cX9_spanned 334 = .ok (.if_icmp .lt 9, 3) := by decide +kernel
theorem dX9_spanned_337 : decode cX9_spanned 337 = .ok (.ldc_w 398, 3) := by decide +kernel
theorem dX9_spanned_340 : decode cX9_spanned 340 = .ok (.goto 7, 3) := by decide +kernel
theorem dX9_spanned_343 : decode cX9_spanned 343 = .ok (.iload 4, 2) := by decide +kernel
theorem dX9_spanned_345 : decode cX9_spanned 345 = .ok (.iconst 1, 1) := by decide +kernel
theorem dX9_spanned_346 : decode cX9_spanned 346 = .ok (.ishr, 1) := by decide +kernel
theorem dX9_spanned_347 : decode cX9_spanned 347 = .ok (.ireturn, 1) := by decide +kernel
theorem dX9_spanned_348 : decode cX9_spanned 348 = .ok (.iload 4, 2) := by decide +kernel
theorem dX9_spanned_350 : decode cX9_spanned 350 = .ok (.ldc_w 327, 3) := by decide +kernel
theorem dX9_spanned_353 : decode cX9_spanned 353 = .ok (.if_icmp .lt 7, 3) := by decide +kernel
theorem dX9_spanned_356 : decode cX9_spanned 356 = .ok (.iconst 0, 1) := by decide +kernel
theorem dX9_spanned_357 : decode cX9_spanned 357 = .ok (.goto 7, 3) := by decide +kernel
theorem dX9_spanned_360 : decode cX9_spanned 360 = .ok (.iload 4, 2) := by decide +kernel
theorem dX9_spanned_362 : decode cX9_spanned 362 = .ok (.iconst 1, 1) := by decide +kernel
theorem dX9_spanned_363 : decode cX9_spanned 363 = .ok (.iand, 1) := by decide +kernel
theorem dX9_spanned_364 : decode cX9_spanned 364 = .ok (.ireturn, 1) := by decide +kernel
abbrev vs_M_spanned : List Cond := .code yX9_spanned cX9_spanned 7 (some .int) :: VM
theorem g_M_spanned_X9_lesser : GoodIn vs_M_spanned (va_wsS RX9 182 yX9_lesser vs_X9_lesser) := gm_0 (fun w h => by
  rcases List.mem_cons.mp h with rfl | h
  · exact vm_10
  rcases List.mem_cons.mp h with rfl | h
  · exact vm_11
  rcases List.mem_cons.mp h with rfl | h
  · exact vm_12
  rcases List.mem_cons.mp h with rfl | h
  · exact vm_3
  exact absurd h (List.not_mem_nil))
theorem g_M_spanned_X9_together : GoodIn vs_M_spanned (va_wsS RX9 331 yX9_together vs_X9_together) := gm_0 (fun w h => by
  rcases List.mem_cons.mp h with rfl | h
  · exact vm_210
  rcases List.mem_cons.mp h with rfl | h
  · exact vm_211
  rcases List.mem_cons.mp h with rfl | h
  · exact vm_12
  rcases List.mem_cons.mp h with rfl | h
  · exact vm_5
  rcases List.mem_cons.mp h with rfl | h
  · exact vm_6
  exact absurd h (List.not_mem_nil))
theorem g_M_spanned_M_layGaps : GoodIn vs_M_spanned (wsV RX9 444 RX9 yX9_layGaps vs_M_layGaps) := gm_V vm_344 vm_345 vm_346 vm_12 vm_339
set_option maxHeartbeats 4000000 in
set_option maxRecDepth 100000 in
theorem c_M_spanned (l : Launch) (dC : Nat → ClassId) (dI : Nat → Nat → Nat) (sz : Nat) (ad : Nat → Nat) (ck : Nat → ClassId) (x0 : Int32) (x16 : Nat) (x18 : Nat) (x19 : Nat) (x20 : Int32) (x21 : Nat) (x22 : Nat) (x23 : Int32) (x24 : Int32) (x25 : Int32) (x26 : Nat) (x27 : Int32) (x28 : Nat) (x29 : Nat) (x30 : Nat) (x33 : Nat) (x45 : Int32) (x46 : Nat) (x52 : Nat) (x53 : Nat) (x61 : Nat) (x62 : Nat) (x63 : Nat) (x65 : Nat) (x66 : Int32) (f1 : Nat → Int32) (f2 : Nat → Int32) (f3 : Nat → Int32) (q4 : Nat → Nat) (q5 : Nat → Nat) (q6 : Nat → Nat) (q7 : Nat → Nat) (f8 : Nat → Int32) (q9 : Nat → Nat) (q10 : Nat → Nat) (f11 : Nat → Int32) (m12_0 m12_1 : Nat) (m13_0 m13_1 : Nat) (m14_0 m14_1 : Nat) (m15_0 m15_1 : Nat) (f17 : Nat → Int32) (q31 : Nat → Nat) (f32 : Nat → Int32) (f34 : Nat → Int32) (f35 : Nat → Int32) (f36 : Nat → Int32) (f37 : Nat → Int32) (q38 : Nat → Nat) (f39 : Nat → Int32) (f40 : Nat → Int32) (f41 : Nat → Int32) (m42_0 m42_1 : Nat) (f43 : Nat → Int32) (f44 : Nat → Int32) (f47 : Nat → Int32) (f48 : Nat → Int32) (f49 : Nat → Int32) (f50 : Nat → Int32) (f51 : Nat → Int32) (q54 : Nat → Nat) (q55 : Nat → Nat) (q56 : Nat → Nat) (f57 : Nat → Int32) (q58 : Nat → Nat) (f59 : Nat → Int32) (f60 : Nat → Int32) (f64 : Nat → Int32) (p0 : Int32) (hx16 : x16 ≤ 1) (hx18 : x18 ≤ 900) (hx19 : x19 ≤ 900) (hx21 : x21 ≤ 900) (hx22 : x22 ≤ 4) (hx26 : x26 ≤ 6) (hx28 : x28 ≤ 1) (hx29 : x29 ≤ 1) (hx30 : x30 ≤ 1) (hx33 : x33 ≤ 20) (hx46 : x46 ≤ 5) (hx52 : x52 ≤ 2400) (hx53 : x53 ≤ 119) (hx61 : x61 ≤ 119) (hx62 : x62 ≤ 2000) (hx63 : x63 ≤ 1) (hx65 : x65 ≤ 7) (hm12_0 : m12_0 ≤ 3) (hm12_1 : m12_1 ≤ 3) (hm13_0 : m13_0 ≤ 8) (hm13_1 : m13_1 ≤ 8) (hm14_0 : m14_0 ≤ 14) (hm14_1 : m14_1 ≤ 14) (hm15_0 : m15_0 ≤ 8) (hm15_1 : m15_1 ≤ 8) (hm42_0 : m42_0 ≤ 120) (hm42_1 : m42_1 ≤ 400) (hbg : (x16 = 0 ∧ (m13_0 = 0 ∨ 1 ≤ m15_0)) ∨ (x16 = 1 ∧ (m13_1 = 0 ∨ 1 ≤ m15_1))) : Met l yX9_spanned vs_M_spanned ({ frames := 5, cells := 0, slots := 0, locals := 112 }) (va_Pc [.ref (ad 0), .int p0] (pu_B (dC, dI) (mo_w ad ck x0 (nI x16) (nI x18) (nI x19) x20 (nI x21) (nI x22) x23 x24 x25 (nI x26) x27 (nI x28) (nI x29) (nI x30) (nI x33) x45 (nI x46) (nI x52) (nI x53) (nI x61) (nI x62) (nI x63) (nI x65) x66 f1 f2 f3 (bN 3 q4) (bN 7 q5) (bN 7 q6) (bN 4 q7) f8 (bN 2 q9) (bH q10) f11 (b2 m12_0 m12_1) (b2 m13_0 m13_1) (b2 m14_0 m14_1) (b2m m15_0 m15_1) f17 (bA 159 q31) f32 f34 f35 f36 f37 (bN 7 q38) f39 f40 f41 (b2 m42_0 m42_1) f43 f44 f47 f48 f49 f50 f51 (bN 13 q54) (bN 120 q55) (bN 120 q56) f57 (bN 120 q58) f59 f60 f64) (mo_t ck) sz)) (va_Qi (fun (r : Int32) (_ : Unit) => True) (fun _ t => ∃ (z55 : Nat → Nat) (z56 : Nat → Nat) (z57 : Nat → Int32) (z58 : Nat → Nat) (z60 : Nat → Int32) (z62 : Nat) (z63 : Nat), pu_E (dC, dI) (mo_w ad ck x0 (nI x16) (nI x18) (nI x19) x20 (nI x21) (nI x22) x23 x24 x25 (nI x26) x27 (nI x28) (nI x29) (nI x30) (nI x33) x45 (nI x46) (nI x52) (nI x53) (nI x61) (nI z62) (nI z63) (nI x65) x66 f1 f2 f3 (bN 3 q4) (bN 7 q5) (bN 7 q6) (bN 4 q7) f8 (bN 2 q9) (bH q10) f11 (b2 m12_0 m12_1) (b2 m13_0 m13_1) (b2 m14_0 m14_1) (b2m m15_0 m15_1) f17 (bA 159 q31) f32 f34 f35 f36 f37 (bN 7 q38) f39 f40 f41 (b2 m42_0 m42_1) f43 f44 f47 f48 f49 f50 f51 (bN 13 q54) (bN 120 z55) (bN 120 z56) z57 (bN 120 z58) f59 z60 f64) (mo_t ck) (va_A ((mo_w ad ck x0 (nI x16) (nI x18) (nI x19) x20 (nI x21) (nI x22) x23 x24 x25 (nI x26) x27 (nI x28) (nI x29) (nI x30) (nI x33) x45 (nI x46) (nI x52) (nI x53) (nI x61) (nI x62) (nI x63) (nI x65) x66 f1 f2 f3 (bN 3 q4) (bN 7 q5) (bN 7 q6) (bN 4 q7) f8 (bN 2 q9) (bH q10) f11 (b2 m12_0 m12_1) (b2 m13_0 m13_1) (b2 m14_0 m14_1) (b2m m15_0 m15_1) f17 (bA 159 q31) f32 f34 f35 f36 f37 (bN 7 q38) f39 f40 f41 (b2 m42_0 m42_1) f43 f44 f47 f48 f49 f50 f51 (bN 13 q54) (bN 120 q55) (bN 120 q56) f57 (bN 120 q58) f59 f60 f64)) sz) t ∧ (z62 ≤ 2000) ∧ (z63 ≤ 1)) (va_A ((mo_w ad ck x0 (nI x16) (nI x18) (nI x19) x20 (nI x21) (nI x22) x23 x24 x25 (nI x26) x27 (nI x28) (nI x29) (nI x30) (nI x33) x45 (nI x46) (nI x52) (nI x53) (nI x61) (nI x62) (nI x63) (nI x65) x66 f1 f2 f3 (bN 3 q4) (bN 7 q5) (bN 7 q6) (bN 4 q7) f8 (bN 2 q9) (bH q10) f11 (b2 m12_0 m12_1) (b2 m13_0 m13_1) (b2 m14_0 m14_1) (b2m m15_0 m15_1) f17 (bA 159 q31) f32 f34 f35 f36 f37 (bN 7 q38) f39 f40 f41 (b2 m42_0 m42_1) f43 f44 f47 f48 f49 f50 f51 (bN 13 q54) (bN 120 q55) (bN 120 q56) f57 (bN 120 q58) f59 f60 f64)) sz)) 0 0 (va_A ((mo_w ad ck x0 (nI x16) (nI x18) (nI x19) x20 (nI x21) (nI x22) x23 x24 x25 (nI x26) x27 (nI x28) (nI x29) (nI x30) (nI x33) x45 (nI x46) (nI x52) (nI x53) (nI x61) (nI x62) (nI x63) (nI x65) x66 f1 f2 f3 (bN 3 q4) (bN 7 q5) (bN 7 q6) (bN 4 q7) f8 (bN 2 q9) (bH q10) f11 (b2 m12_0 m12_1) (b2 m13_0 m13_1) (b2 m14_0 m14_1) (b2m m15_0 m15_1) f17 (bA 159 q31) f32 f34 f35 f36 f37 (bN 7 q38) f39 f40 f41 (b2 m42_0 m42_1) f43 f44 f47 f48 f49 f50 f51 (bN 13 q54) (bN 120 q55) (bN 120 q56) f57 (bN 120 q58) f59 f60 f64)) sz) := by
  refine Met.ofW (cc := cX9_spanned) (maxL := 7) (ret := (some .int)) (by decide) rfl ?_
  intro p e s m args below meth c s₁ B hml hv
  obtain ⟨rfl, rfl, hP, hK, hD0⟩ := hv
  have hx := B.exec
  have hb := B.bytes
  have hr := B.returns
  have hts := atoms_spec (ws := vs_M_spanned) B.pre
  have v_6 := hts (.fieldLink RX9 435 "ClockReachModel" "isBroken" "Z") (List.mem_cons_of_mem _ vm_338)
  have v_7 := hts (.fieldLink RX9 429 "ClockReachModel" "pathMany" "I") (List.mem_cons_of_mem _ vm_326)
  have v_8 := hts (.fieldLink RX9 136 "ClockReachModel" "span" "[I") (List.mem_cons_of_mem _ vm_370)
  have v_9 := hts (.constant RX9 327 (1048576)) (List.mem_cons_of_mem _ vm_6)
  have v_10 := hts (.fieldLink RX9 432 "ClockReachModel" "gaps" "I") (List.mem_cons_of_mem _ vm_330)
  have v_11 := hts (.fieldLink RX9 121 "ClockReachModel" "later" "[I") (List.mem_cons_of_mem _ vm_329)
  have v_12 := hts (.fieldLink RX9 124 "ClockReachModel" "sooner" "[I") (List.mem_cons_of_mem _ vm_331)
  have v_13 := hts (.fieldLink RX9 127 "ClockReachModel" "gap" "[I") (List.mem_cons_of_mem _ vm_332)
  have v_20 := hts (.constant RX9 398 (2147483647)) (List.mem_cons_of_mem _ vm_285)
  have hown : s.vm.findClass RX9 = some m.cls := findClass_of_methodNamed B.named
  have hlocks := B.notSynchronized
  have hiX9 : ∀ w ∈ wsX90, w ∈ vs_M_spanned := fun _ h => List.mem_cons_of_mem _ (List.mem_append_right _ h)
  have hD := hD0.self (sz := s.heap.size)
  generalize hAe : va_A ((mo_w ad ck x0 (nI x16) (nI x18) (nI x19) x20 (nI x21) (nI x22) x23 x24 x25 (nI x26) x27 (nI x28) (nI x29) (nI x30) (nI x33) x45 (nI x46) (nI x52) (nI x53) (nI x61) (nI x62) (nI x63) (nI x65) x66 f1 f2 f3 (bN 3 q4) (bN 7 q5) (bN 7 q6) (bN 4 q7) f8 (bN 2 q9) (bH q10) f11 (b2 m12_0 m12_1) (b2 m13_0 m13_1) (b2 m14_0 m14_1) (b2m m15_0 m15_1) f17 (bA 159 q31) f32 f34 f35 f36 f37 (bN 7 q38) f39 f40 f41 (b2 m42_0 m42_1) f43 f44 f47 f48 f49 f50 f51 (bN 13 q54) (bN 120 q55) (bN 120 q56) f57 (bN 120 q58) f59 f60 f64)) s.heap.size = A at hD ⊢
  have hA : ∀ q : Nat, s.heap.size ≤ q → A q := fun q h => by rw [← hAe]; exact Or.inr h
  have hS : va_S A s.heap s.heap [] := va_S.rf
  have hl := lv_entry ([.ref (ad 0), .int p0]) (n := 7) (Nat.le_of_ble_eq_true rfl)
  rw [lg_entry_eq]
  generalize (lg_sl ([.ref (ad 0), .int p0]) ++ List.replicate (7 - (lg_sl ([.ref (ad 0), .int p0])).length) Slot.unset).toArray = ls at hl ⊢
  have hl : lv_has ls 7 [(0, .ref (ad 0)), (1, .int p0)] := hl
  refine lv_aload_n hx hb dX9_spanned_0 rfl (lv_at hl 0 rfl) ?_
  have hFc := pu_free hD hS hA
  refine va_callv (va_runV (As := []) (rest := []) ⟨hx, hb, hml, hown, hts⟩ (c_M_layGaps l dC dI _ ad ck x0 x16 x18 x19 x20 x21 x22 x23 x24 x25 x26 x27 x28 x29 x30 x33 x45 x46 x52 x53 x61 x62 x63 x65 x66 f1 f2 f3 q4 q5 q6 q7 f8 q9 q10 f11 m12_0 m12_1 m13_0 m13_1 m14_0 m14_1 m15_0 m15_1 f17 q31 f32 f34 f35 f36 f37 q38 f39 f40 f41 m42_0 m42_1 f43 f44 f47 f48 f49 f50 f51 q54 q55 q56 f57 q58 f59 f60 f64 hx16 hx18 hx19 hx21 hx22 hx26 hx28 hx29 hx30 hx33 hx46 hx52 hx53 hx61 hx62 hx63 hx65 hm12_0 hm12_1 hm13_0 hm13_1 hm14_0 hm14_1 hm15_0 hm15_1 hm42_0 hm42_1 (by first | assumption | omega)) (cwV 0 hts g_M_spanned_M_layGaps rfl rfl rfl (by decide +kernel) ⟨Nat.le_of_ble_eq_true rfl, Nat.le_of_ble_eq_true rfl⟩) ⟨pu_bl, va_recv hK hP (ci := 9) (q0 := 0) rfl rfl, pu_in hP hK hD⟩ rfl rfl hl.1 rfl (lv_room (Nat.le_of_ble_eq_true rfl)) dX9_spanned_1 ⟨Nat.le_of_ble_eq_true rfl, Nat.le_of_ble_eq_true rfl⟩) hS (fun q _ h => hFc q h) hFc (fun u t H1 locs ht hvm hw hB hz1 hk1 hS => ?_)
  obtain ⟨z55_2, z56_3, z57_4, z58_5, z62_6, z63_7, ⟨hP1, -, hD1⟩, hz62_6, hz63_7⟩ := hB
  rw [ht] at hP1
  have hP := hP1
  have hD := pu_all hFc hD1
  clear hP1 hD1 hFc
  clear hk1 hz1 ht hvm
  generalize H1 = H at hP hS ⊢
  refine lv_aload_n hx hb dX9_spanned_4 rfl (lv_at hl 0 rfl) ?_
  refine va_get (D := (dC, dI)) (ci := 9) (v := .int (nI z63_7)) (C := RX9) (T := TX9) (N := 67) hx hb hts hiX9 hown hK hP 0 rfl rfl 63 (by decide) v_6 (fun _ h9 => h9) rfl dX9_spanned_5 ?_
  refine lv_if_eq (tgt := 13) hx hb dX9_spanned_8 (by decide) (fun c_8 => ?_) (fun c_8 => ?_)
  · have c_8 : z63_7 = 0 := (nI_eq (a := z63_7) (b := 0) (Nat.lt_of_le_of_lt hz63_7 (Nat.le_of_ble_eq_true rfl)) (Nat.le_of_ble_eq_true rfl)).mp c_8
    refine lv_aload_n hx hb dX9_spanned_13 rfl (lv_at hl 0 rfl) ?_
    refine va_get (D := (dC, dI)) (ci := 9) (v := .int (nI x61)) (C := RX9) (T := TX9) (N := 67) hx hb hts hiX9 hown hK hP 0 rfl rfl 61 (by decide) v_7 (fun _ h9 => h9) rfl dX9_spanned_14 ?_
    refine lv_iconst (v := 1) hx hb dX9_spanned_17 (by decide) ?_
    refine lv_iadd hx hb dX9_spanned_18 ?_
    refine lv_topi (fun y_9 ey_9 => ?_)
    obtain rfl : y_9 = (nI (x61 + 1)) := ey_9.trans (nI_add x61 1)
    refine lv_istore_n (lv' := [(2, .int (nI (x61 + 1))), (0, .ref (ad 0)), (1, .int p0)]) hx hb dX9_spanned_19 rfl hl (by decide) rfl (fun ls hl => ?_)
    refine lv_iconst (v := 0) hx hb dX9_spanned_20 (by decide) ?_
    refine lv_istore_n (lv' := [(3, .int 0), (2, .int (nI (x61 + 1))), (0, .ref (ad 0)), (1, .int p0)]) hx hb dX9_spanned_21 rfl hl (by decide) rfl (fun ls hl => ?_)
    refine pu_while (fun nn H locs ls => ∃ (g_12 : Nat → Int32) (g_13 : Nat), nn = 120 - g_13 ∧ g_13 ≤ 120 ∧ va_P (dC, dI) vwCl (mo_w ad ck x0 (nI x16) (nI x18) (nI x19) x20 (nI x21) (nI x22) x23 x24 x25 (nI x26) x27 (nI x28) (nI x29) (nI x30) (nI x33) x45 (nI x46) (nI x52) (nI x53) (nI x61) (nI z62_6) (nI z63_7) (nI x65) x66 f1 f2 f3 (bN 3 q4) (bN 7 q5) (bN 7 q6) (bN 4 q7) f8 (bN 2 q9) (bH q10) f11 (b2 m12_0 m12_1) (b2 m13_0 m13_1) (b2 m14_0 m14_1) (b2m m15_0 m15_1) f17 (bA 159 q31) f32 f34 f35 f36 f37 (bN 7 q38) f39 f40 f41 (b2 m42_0 m42_1) f43 f44 f47 f48 f49 f50 f51 (bN 13 q54) (bN 120 z55_2) (bN 120 z56_3) z57_4 (bN 120 z58_5) f59 g_12 f64) H ∧ va_D A (mo_w ad ck x0 (nI x16) (nI x18) (nI x19) x20 (nI x21) (nI x22) x23 x24 x25 (nI x26) x27 (nI x28) (nI x29) (nI x30) (nI x33) x45 (nI x46) (nI x52) (nI x53) (nI x61) (nI z62_6) (nI z63_7) (nI x65) x66 f1 f2 f3 (bN 3 q4) (bN 7 q5) (bN 7 q6) (bN 4 q7) f8 (bN 2 q9) (bH q10) f11 (b2 m12_0 m12_1) (b2 m13_0 m13_1) (b2 m14_0 m14_1) (b2m m15_0 m15_1) f17 (bA 159 q31) f32 f34 f35 f36 f37 (bN 7 q38) f39 f40 f41 (b2 m42_0 m42_1) f43 f44 f47 f48 f49 f50 f51 (bN 13 q54) (bN 120 z55_2) (bN 120 z56_3) z57_4 (bN 120 z58_5) f59 g_12 f64) ∧ va_S A s.heap H locs ∧ lv_has ls 7 [(0, .ref (ad 0)), (1, .int p0), (2, .int (nI (x61 + 1))), (3, .int (nI g_13))]) 22 ?_ _ _ _ _ ⟨f60, 0, rfl, (Nat.le_of_ble_eq_true rfl), hP, hD, hS, lv_sub hl [2, 3, 1, 0] rfl⟩
    rintro nn ih_14 H locs ls ⟨g_12, g_13, rfl, hg_13, hP, hD, hS, hl⟩
    refine lv_iload_n hx hb dX9_spanned_22 rfl (lv_at hl 3 rfl) ?_
    refine lv_iload_n hx hb dX9_spanned_23 rfl (lv_at hl 2 rfl) ?_
    refine lv_icmp_ge (tgt := 72) hx hb dX9_spanned_24 (by decide) (fun c_15 => ?_) (fun c_15 => ?_)
    · have c_15 : (x61 + 1) ≤ g_13 := (nI_leI (a := (x61 + 1)) (b := g_13) (by omega) (Nat.lt_of_le_of_lt hg_13 (Nat.le_of_ble_eq_true rfl))).mp c_15
      refine lv_iconst (v := 0) hx hb dX9_spanned_72 (by decide) ?_
      refine lv_istore_n (lv' := [(3, .int 0), (0, .ref (ad 0)), (1, .int p0), (2, .int (nI (x61 + 1)))]) hx hb dX9_spanned_73 rfl hl (by decide) rfl (fun ls hl => ?_)
      refine pu_while (fun nn H locs ls => ∃ (g_18 : Nat → Int32) (g_19 : Nat), nn = 2000 - g_19 ∧ g_19 ≤ 2000 ∧ va_P (dC, dI) vwCl (mo_w ad ck x0 (nI x16) (nI x18) (nI x19) x20 (nI x21) (nI x22) x23 x24 x25 (nI x26) x27 (nI x28) (nI x29) (nI x30) (nI x33) x45 (nI x46) (nI x52) (nI x53) (nI x61) (nI z62_6) (nI z63_7) (nI x65) x66 f1 f2 f3 (bN 3 q4) (bN 7 q5) (bN 7 q6) (bN 4 q7) f8 (bN 2 q9) (bH q10) f11 (b2 m12_0 m12_1) (b2 m13_0 m13_1) (b2 m14_0 m14_1) (b2m m15_0 m15_1) f17 (bA 159 q31) f32 f34 f35 f36 f37 (bN 7 q38) f39 f40 f41 (b2 m42_0 m42_1) f43 f44 f47 f48 f49 f50 f51 (bN 13 q54) (bN 120 z55_2) (bN 120 z56_3) z57_4 (bN 120 z58_5) f59 g_18 f64) H ∧ va_D A (mo_w ad ck x0 (nI x16) (nI x18) (nI x19) x20 (nI x21) (nI x22) x23 x24 x25 (nI x26) x27 (nI x28) (nI x29) (nI x30) (nI x33) x45 (nI x46) (nI x52) (nI x53) (nI x61) (nI z62_6) (nI z63_7) (nI x65) x66 f1 f2 f3 (bN 3 q4) (bN 7 q5) (bN 7 q6) (bN 4 q7) f8 (bN 2 q9) (bH q10) f11 (b2 m12_0 m12_1) (b2 m13_0 m13_1) (b2 m14_0 m14_1) (b2m m15_0 m15_1) f17 (bA 159 q31) f32 f34 f35 f36 f37 (bN 7 q38) f39 f40 f41 (b2 m42_0 m42_1) f43 f44 f47 f48 f49 f50 f51 (bN 13 q54) (bN 120 z55_2) (bN 120 z56_3) z57_4 (bN 120 z58_5) f59 g_18 f64) ∧ va_S A s.heap H locs ∧ lv_has ls 7 [(0, .ref (ad 0)), (1, .int p0), (2, .int (nI (x61 + 1))), (3, .int (nI g_19))]) 74 ?_ _ _ _ _ ⟨g_12, 0, rfl, (Nat.le_of_ble_eq_true rfl), hP, hD, hS, lv_sub hl [1, 2, 3, 0] rfl⟩
      rintro nn ih_20 H locs ls ⟨g_18, g_19, rfl, hg_19, hP, hD, hS, hl⟩
      refine lv_iload_n hx hb dX9_spanned_74 rfl (lv_at hl 3 rfl) ?_
      refine lv_aload_n hx hb dX9_spanned_75 rfl (lv_at hl 0 rfl) ?_
      refine va_get (D := (dC, dI)) (ci := 9) (v := .int (nI z62_6)) (C := RX9) (T := TX9) (N := 67) hx hb hts hiX9 hown hK hP 0 rfl rfl 62 (by decide) v_10 (fun _ h9 => h9) rfl dX9_spanned_76 ?_
      refine lv_icmp_ge (tgt := 128) hx hb dX9_spanned_79 (by decide) (fun c_21 => ?_) (fun c_21 => ?_)
      · have c_21 : z62_6 ≤ g_19 := (nI_leI (a := z62_6) (b := g_19) (Nat.lt_of_le_of_lt hz62_6 (Nat.le_of_ble_eq_true rfl)) (Nat.lt_of_le_of_lt hg_19 (Nat.le_of_ble_eq_true rfl))).mp c_21
        refine lv_iconst (v := 0) hx hb dX9_spanned_128 (by decide) ?_
        refine lv_istore_n (lv' := [(3, .int 0), (0, .ref (ad 0)), (1, .int p0), (2, .int (nI (x61 + 1)))]) hx hb dX9_spanned_129 rfl hl (by decide) rfl (fun ls hl => ?_)
        refine pu_while (fun nn H locs ls => ∃ (g_24 : Nat → Int32) (g_25 : Nat), nn = 120 - g_25 ∧ g_25 ≤ 120 ∧ va_P (dC, dI) vwCl (mo_w ad ck x0 (nI x16) (nI x18) (nI x19) x20 (nI x21) (nI x22) x23 x24 x25 (nI x26) x27 (nI x28) (nI x29) (nI x30) (nI x33) x45 (nI x46) (nI x52) (nI x53) (nI x61) (nI z62_6) (nI z63_7) (nI x65) x66 f1 f2 f3 (bN 3 q4) (bN 7 q5) (bN 7 q6) (bN 4 q7) f8 (bN 2 q9) (bH q10) f11 (b2 m12_0 m12_1) (b2 m13_0 m13_1) (b2 m14_0 m14_1) (b2m m15_0 m15_1) f17 (bA 159 q31) f32 f34 f35 f36 f37 (bN 7 q38) f39 f40 f41 (b2 m42_0 m42_1) f43 f44 f47 f48 f49 f50 f51 (bN 13 q54) (bN 120 z55_2) (bN 120 z56_3) z57_4 (bN 120 z58_5) f59 g_24 f64) H ∧ va_D A (mo_w ad ck x0 (nI x16) (nI x18) (nI x19) x20 (nI x21) (nI x22) x23 x24 x25 (nI x26) x27 (nI x28) (nI x29) (nI x30) (nI x33) x45 (nI x46) (nI x52) (nI x53) (nI x61) (nI z62_6) (nI z63_7) (nI x65) x66 f1 f2 f3 (bN 3 q4) (bN 7 q5) (bN 7 q6) (bN 4 q7) f8 (bN 2 q9) (bH q10) f11 (b2 m12_0 m12_1) (b2 m13_0 m13_1) (b2 m14_0 m14_1) (b2m m15_0 m15_1) f17 (bA 159 q31) f32 f34 f35 f36 f37 (bN 7 q38) f39 f40 f41 (b2 m42_0 m42_1) f43 f44 f47 f48 f49 f50 f51 (bN 13 q54) (bN 120 z55_2) (bN 120 z56_3) z57_4 (bN 120 z58_5) f59 g_24 f64) ∧ va_S A s.heap H locs ∧ lv_has ls 7 [(0, .ref (ad 0)), (1, .int p0), (2, .int (nI (x61 + 1))), (3, .int (nI g_25))]) 130 ?_ _ _ _ _ ⟨g_18, 0, rfl, (Nat.le_of_ble_eq_true rfl), hP, hD, hS, lv_sub hl [1, 2, 3, 0] rfl⟩
        rintro nn ih_26 H locs ls ⟨g_24, g_25, rfl, hg_25, hP, hD, hS, hl⟩
        refine lv_iload_n hx hb dX9_spanned_130 rfl (lv_at hl 3 rfl) ?_
        refine lv_iload_n hx hb dX9_spanned_131 rfl (lv_at hl 2 rfl) ?_
        refine lv_icmp_ge (tgt := 268) hx hb dX9_spanned_132 (by decide) (fun c_27 => ?_) (fun c_27 => ?_)
        · have c_27 : (x61 + 1) ≤ g_25 := (nI_leI (a := (x61 + 1)) (b := g_25) (by omega) (Nat.lt_of_le_of_lt hg_25 (Nat.le_of_ble_eq_true rfl))).mp c_27
          refine lv_aload_n hx hb dX9_spanned_268 rfl (lv_at hl 0 rfl) ?_
          refine va_get (D := (dC, dI)) (ci := 9) (v := .ref (ad 60)) (C := RX9) (T := TX9) (N := 67) hx hb hts hiX9 hown hK hP 0 rfl rfl 60 (by decide) v_8 (fun _ h9 => h9) rfl dX9_spanned_269 ?_
          refine lv_aload_n hx hb dX9_spanned_272 rfl (lv_at hl 0 rfl) ?_
          refine va_get (D := (dC, dI)) (ci := 9) (v := .int (nI x61)) (C := RX9) (T := TX9) (N := 67) hx hb hts hiX9 hown hK hP 0 rfl rfl 61 (by decide) v_7 (fun _ h9 => h9) rfl dX9_spanned_273 ?_
          refine va_iald hx hb hK hP 41 40 rfl rfl (vp_in_nI (n := x61) (Nat.lt_of_le_of_lt hx61 (Nat.le_of_ble_eq_true rfl)) (Nat.le_of_ble_eq_true rfl)) dX9_spanned_276 ?_
          refine lv_topi (fun y_28 ey_28 => ?_)
          refine lv_istore_n (lv' := [(3, .int y_28), (0, .ref (ad 0)), (1, .int p0), (2, .int (nI (x61 + 1)))]) hx hb dX9_spanned_277 rfl hl (by decide) rfl (fun ls hl => ?_)
          refine lv_aload_n hx hb dX9_spanned_278 rfl (lv_at hl 1 rfl) ?_
          refine va_get (D := (dC, dI)) (ci := 9) (v := .ref (ad 60)) (C := RX9) (T := TX9) (N := 67) hx hb hts hiX9 hown hK hP 0 rfl rfl 60 (by decide) v_8 (fun _ h9 => h9) rfl dX9_spanned_279 ?_
          refine lv_iload_n hx hb dX9_spanned_282 rfl (lv_at hl 3 rfl) ?_
          refine lv_aload_n hx hb dX9_spanned_283 rfl (lv_at hl 1 rfl) ?_
          refine va_get (D := (dC, dI)) (ci := 9) (v := .int (nI x61)) (C := RX9) (T := TX9) (N := 67) hx hb hts hiX9 hown hK hP 0 rfl rfl 61 (by decide) v_7 (fun _ h9 => h9) rfl dX9_spanned_284 ?_
          refine lv_imul hx hb dX9_spanned_287 ?_
          refine lv_topi (fun y_29 ey_29 => ?_)
          obtain rfl : y_29 = (nI ((x61 + 1) * x61)) := ey_29.trans (pk_mul (x61 + 1) x61)
          refine va_iald hx hb hK hP 41 40 rfl rfl (vp_in_nI (n := ((x61 + 1) * x61)) (by first | exact sp_ix (by omega) (by omega) (by omega) | exact sp_ix0 (by omega) (by omega)) (by omega)) dX9_spanned_288 ?_
          refine lv_topi (fun y_30 ey_30 => ?_)
          refine lv_istore (lv' := [(4, .int y_30), (3, .int y_28), (0, .ref (ad 0)), (1, .int p0), (2, .int (nI (x61 + 1)))]) hx hb dX9_spanned_289 hl (by decide) rfl (fun ls hl => ?_)
          refine lv_iload_n hx hb dX9_spanned_291 rfl (lv_at hl 3 rfl) ?_
          by_cases w_31 : p0 = 0
          · subst w_31
            refine lv_tableIn (tgt := 320) (off := 28) hx hb dX9_spanned_292 (by decide) (by decide) rfl (by decide) ?_
            refine lv_iload_n hx hb dX9_spanned_320 rfl (lv_at hl 1 rfl) ?_
            refine lv_iconst (v := 1) hx hb dX9_spanned_321 (by decide) ?_
            refine lv_ishr hx hb dX9_spanned_322 ?_
            refine lv_topi (fun y_32 ey_32 => ?_)
            refine lv_ineg hx hb dX9_spanned_323 ?_
            refine lv_topi (fun y_33 ey_33 => ?_)
            exact W.iret (v := y_33) hx hb hr (fun t ht hW => ⟨⟨y_33, (), rfl, trivial, ⟨z55_2, z56_3, z57_4, z58_5, g_24, z62_6, z63_7, ⟨by rw [ht]; exact hP, va_K.moved hW.alike hK, hD⟩, hz62_6, hz63_7⟩⟩, hS.F ht⟩) hS.2.2 dX9_spanned_324
          by_cases w_34 : p0 = 1
          · subst w_34
            refine lv_tableIn (tgt := 325) (off := 33) hx hb dX9_spanned_292 (by decide) (by decide) rfl (by decide) ?_
            refine lv_iload_n hx hb dX9_spanned_325 rfl (lv_at hl 1 rfl) ?_
            refine lv_iconst (v := 1) hx hb dX9_spanned_326 (by decide) ?_
            refine lv_iand hx hb dX9_spanned_327 ?_
            refine lv_topi (fun y_35 ey_35 => ?_)
            exact W.iret (v := y_35) hx hb hr (fun t ht hW => ⟨⟨y_35, (), rfl, trivial, ⟨z55_2, z56_3, z57_4, z58_5, g_24, z62_6, z63_7, ⟨by rw [ht]; exact hP, va_K.moved hW.alike hK, hD⟩, hz62_6, hz63_7⟩⟩, hS.F ht⟩) hS.2.2 dX9_spanned_328
          by_cases w_36 : p0 = 2
          · subst w_36
            refine lv_tableIn (tgt := 329) (off := 37) hx hb dX9_spanned_292 (by decide) (by decide) rfl (by decide) ?_
            refine lv_iload hx hb dX9_spanned_329 (lv_at hl 0 rfl) ?_
            refine lv_ldcw hx hb hown v_9 dX9_spanned_331 ?_
            refine lv_icmp_lt (tgt := 343) hx hb dX9_spanned_334 (by decide) (fun c_37 => ?_) (fun c_37 => ?_)
            · refine lv_iload hx hb dX9_spanned_343 (lv_at hl 0 rfl) ?_
              refine lv_iconst (v := 1) hx hb dX9_spanned_345 (by decide) ?_
              refine lv_ishr hx hb dX9_spanned_346 ?_
              refine lv_topi (fun y_38 ey_38 => ?_)
              exact W.iret (v := y_38) hx hb hr (fun t ht hW => ⟨⟨y_38, (), rfl, trivial, ⟨z55_2, z56_3, z57_4, z58_5, g_24, z62_6, z63_7, ⟨by rw [ht]; exact hP, va_K.moved hW.alike hK, hD⟩, hz62_6, hz63_7⟩⟩, hS.F ht⟩) hS.2.2 dX9_spanned_347
            · refine lv_ldcw hx hb hown v_20 dX9_spanned_337 ?_
              refine lv_goto (tgt := 347) hx hb dX9_spanned_340 (by decide) ?_
              exact W.iret (v := 2147483647) hx hb hr (fun t ht hW => ⟨⟨2147483647, (), rfl, trivial, ⟨z55_2, z56_3, z57_4, z58_5, g_24, z62_6, z63_7, ⟨by rw [ht]; exact hP, va_K.moved hW.alike hK, hD⟩, hz62_6, hz63_7⟩⟩, hS.F ht⟩) hS.2.2 dX9_spanned_347
          refine lv_tableOut (tgt := 348) hx hb dX9_spanned_292 (by
              have zw_31 : Int32.toInt p0 ≠ 0 := fun g => w_31 ((fa_eq _ _).mpr g)
              have zw_34 : Int32.toInt p0 ≠ 1 := fun g => w_34 ((fa_eq _ _).mpr g)
              have zw_36 : Int32.toInt p0 ≠ 2 := fun g => w_36 ((fa_eq _ _).mpr g)
              omega) (by decide) ?_
          refine lv_iload hx hb dX9_spanned_348 (lv_at hl 0 rfl) ?_
          refine lv_ldcw hx hb hown v_9 dX9_spanned_350 ?_
          refine lv_icmp_lt (tgt := 360) hx hb dX9_spanned_353 (by decide) (fun c_39 => ?_) (fun c_39 => ?_)
          · refine lv_iload hx hb dX9_spanned_360 (lv_at hl 0 rfl) ?_
            refine lv_iconst (v := 1) hx hb dX9_spanned_362 (by decide) ?_
            refine lv_iand hx hb dX9_spanned_363 ?_
            refine lv_topi (fun y_40 ey_40 => ?_)
            exact W.iret (v := y_40) hx hb hr (fun t ht hW => ⟨⟨y_40, (), rfl, trivial, ⟨z55_2, z56_3, z57_4, z58_5, g_24, z62_6, z63_7, ⟨by rw [ht]; exact hP, va_K.moved hW.alike hK, hD⟩, hz62_6, hz63_7⟩⟩, hS.F ht⟩) hS.2.2 dX9_spanned_364
          · refine lv_iconst (v := 0) hx hb dX9_spanned_356 (by decide) ?_
            refine lv_goto (tgt := 364) hx hb dX9_spanned_357 (by decide) ?_
            exact W.iret (v := 0) hx hb hr (fun t ht hW => ⟨⟨0, (), rfl, trivial, ⟨z55_2, z56_3, z57_4, z58_5, g_24, z62_6, z63_7, ⟨by rw [ht]; exact hP, va_K.moved hW.alike hK, hD⟩, hz62_6, hz63_7⟩⟩, hS.F ht⟩) hS.2.2 dX9_spanned_364
        · have c_27 : ¬ (x61 + 1) ≤ g_25 := fun z => c_27 ((nI_leI (a := (x61 + 1)) (b := g_25) (by omega) (Nat.lt_of_le_of_lt hg_25 (Nat.le_of_ble_eq_true rfl))).mpr z)
          refine lv_iconst (v := 0) hx hb dX9_spanned_135 (by decide) ?_
          refine lv_istore (lv' := [(4, .int 0), (0, .ref (ad 0)), (1, .int p0), (2, .int (nI (x61 + 1))), (3, .int (nI g_25))]) hx hb dX9_spanned_136 hl (by decide) rfl (fun ls hl => ?_)
          refine pu_while (fun nn H locs ls => ∃ (g_43 : Nat → Int32) (g_44 : Nat), nn = 120 - g_44 ∧ g_44 ≤ 120 ∧ va_P (dC, dI) vwCl (mo_w ad ck x0 (nI x16) (nI x18) (nI x19) x20 (nI x21) (nI x22) x23 x24 x25 (nI x26) x27 (nI x28) (nI x29) (nI x30) (nI x33) x45 (nI x46) (nI x52) (nI x53) (nI x61) (nI z62_6) (nI z63_7) (nI x65) x66 f1 f2 f3 (bN 3 q4) (bN 7 q5) (bN 7 q6) (bN 4 q7) f8 (bN 2 q9) (bH q10) f11 (b2 m12_0 m12_1) (b2 m13_0 m13_1) (b2 m14_0 m14_1) (b2m m15_0 m15_1) f17 (bA 159 q31) f32 f34 f35 f36 f37 (bN 7 q38) f39 f40 f41 (b2 m42_0 m42_1) f43 f44 f47 f48 f49 f50 f51 (bN 13 q54) (bN 120 z55_2) (bN 120 z56_3) z57_4 (bN 120 z58_5) f59 g_43 f64) H ∧ va_D A (mo_w ad ck x0 (nI x16) (nI x18) (nI x19) x20 (nI x21) (nI x22) x23 x24 x25 (nI x26) x27 (nI x28) (nI x29) (nI x30) (nI x33) x45 (nI x46) (nI x52) (nI x53) (nI x61) (nI z62_6) (nI z63_7) (nI x65) x66 f1 f2 f3 (bN 3 q4) (bN 7 q5) (bN 7 q6) (bN 4 q7) f8 (bN 2 q9) (bH q10) f11 (b2 m12_0 m12_1) (b2 m13_0 m13_1) (b2 m14_0 m14_1) (b2m m15_0 m15_1) f17 (bA 159 q31) f32 f34 f35 f36 f37 (bN 7 q38) f39 f40 f41 (b2 m42_0 m42_1) f43 f44 f47 f48 f49 f50 f51 (bN 13 q54) (bN 120 z55_2) (bN 120 z56_3) z57_4 (bN 120 z58_5) f59 g_43 f64) ∧ va_S A s.heap H locs ∧ lv_has ls 7 [(0, .ref (ad 0)), (1, .int p0), (2, .int (nI (x61 + 1))), (3, .int (nI g_25)), (4, .int (nI g_44))]) 138 ?_ _ _ _ _ ⟨g_24, 0, rfl, (Nat.le_of_ble_eq_true rfl), hP, hD, hS, lv_sub hl [1, 2, 3, 4, 0] rfl⟩
          rintro nn ih_45 H locs ls ⟨g_43, g_44, rfl, hg_44, hP, hD, hS, hl⟩
          refine lv_iload hx hb dX9_spanned_138 (lv_at hl 4 rfl) ?_
          refine lv_iload_n hx hb dX9_spanned_140 rfl (lv_at hl 2 rfl) ?_
          refine lv_icmp_ge (tgt := 229) hx hb dX9_spanned_141 (by decide) (fun c_46 => ?_) (fun c_46 => ?_)
          · have c_46 : (x61 + 1) ≤ g_44 := (nI_leI (a := (x61 + 1)) (b := g_44) (by omega) (Nat.lt_of_le_of_lt hg_44 (Nat.le_of_ble_eq_true rfl))).mp c_46
            refine lv_iconst (v := 0) hx hb dX9_spanned_229 (by decide) ?_
            refine lv_istore (lv' := [(4, .int 0), (0, .ref (ad 0)), (1, .int p0), (2, .int (nI (x61 + 1))), (3, .int (nI g_25))]) hx hb dX9_spanned_230 hl (by decide) rfl (fun ls hl => ?_)
            refine pu_while (fun nn H locs ls => ∃ (g_48 : Nat), nn = 120 - g_48 ∧ g_48 ≤ 120 ∧ va_P (dC, dI) vwCl (mo_w ad ck x0 (nI x16) (nI x18) (nI x19) x20 (nI x21) (nI x22) x23 x24 x25 (nI x26) x27 (nI x28) (nI x29) (nI x30) (nI x33) x45 (nI x46) (nI x52) (nI x53) (nI x61) (nI z62_6) (nI z63_7) (nI x65) x66 f1 f2 f3 (bN 3 q4) (bN 7 q5) (bN 7 q6) (bN 4 q7) f8 (bN 2 q9) (bH q10) f11 (b2 m12_0 m12_1) (b2 m13_0 m13_1) (b2 m14_0 m14_1) (b2m m15_0 m15_1) f17 (bA 159 q31) f32 f34 f35 f36 f37 (bN 7 q38) f39 f40 f41 (b2 m42_0 m42_1) f43 f44 f47 f48 f49 f50 f51 (bN 13 q54) (bN 120 z55_2) (bN 120 z56_3) z57_4 (bN 120 z58_5) f59 g_43 f64) H ∧ va_D A (mo_w ad ck x0 (nI x16) (nI x18) (nI x19) x20 (nI x21) (nI x22) x23 x24 x25 (nI x26) x27 (nI x28) (nI x29) (nI x30) (nI x33) x45 (nI x46) (nI x52) (nI x53) (nI x61) (nI z62_6) (nI z63_7) (nI x65) x66 f1 f2 f3 (bN 3 q4) (bN 7 q5) (bN 7 q6) (bN 4 q7) f8 (bN 2 q9) (bH q10) f11 (b2 m12_0 m12_1) (b2 m13_0 m13_1) (b2 m14_0 m14_1) (b2m m15_0 m15_1) f17 (bA 159 q31) f32 f34 f35 f36 f37 (bN 7 q38) f39 f40 f41 (b2 m42_0 m42_1) f43 f44 f47 f48 f49 f50 f51 (bN 13 q54) (bN 120 z55_2) (bN 120 z56_3) z57_4 (bN 120 z58_5) f59 g_43 f64) ∧ va_S A s.heap H locs ∧ lv_has ls 7 [(0, .ref (ad 0)), (1, .int p0), (2, .int (nI (x61 + 1))), (3, .int (nI g_25)), (4, .int (nI g_48))]) 232 ?_ _ _ _ _ ⟨0, rfl, (Nat.le_of_ble_eq_true rfl), hP, hD, hS, lv_sub hl [1, 2, 3, 4, 0] rfl⟩
            rintro nn ih_49 H locs ls ⟨g_48, rfl, hg_48, hP, hD, hS, hl⟩
            refine lv_iload hx hb dX9_spanned_232 (lv_at hl 4 rfl) ?_
            refine lv_iload_n hx hb dX9_spanned_234 rfl (lv_at hl 2 rfl) ?_
            refine lv_icmp_ge (tgt := 262) hx hb dX9_spanned_235 (by decide) (fun c_50 => ?_) (fun c_50 => ?_)
            · have c_50 : (x61 + 1) ≤ g_48 := (nI_leI (a := (x61 + 1)) (b := g_48) (by omega) (Nat.lt_of_le_of_lt hg_48 (Nat.le_of_ble_eq_true rfl))).mp c_50
              refine lv_iinc (v := (nI (g_25 + 1))) (lv' := [(3, .int (nI (g_25 + 1))), (0, .ref (ad 0)), (1, .int p0), (2, .int (nI (x61 + 1))), (4, .int (nI g_48))]) hx hb dX9_spanned_262 hl (k := 3) rfl (nI_1 _) (by decide) rfl (fun ls hl => ?_)
              refine lv_goto (tgt := 130) hx hb dX9_spanned_265 (by decide) ?_
              exact ih_26 (120 - (g_25 + 1)) (by omega) _ _ _ ⟨g_43, (g_25 + 1), rfl, (by omega), hP, hD, hS, lv_sub hl [1, 2, 3, 0] rfl⟩
            · have c_50 : ¬ (x61 + 1) ≤ g_48 := fun z => c_50 ((nI_leI (a := (x61 + 1)) (b := g_48) (by omega) (Nat.lt_of_le_of_lt hg_48 (Nat.le_of_ble_eq_true rfl))).mpr z)
              refine lv_aload_n hx hb dX9_spanned_238 rfl (lv_at hl 0 rfl) ?_
              refine va_get (D := (dC, dI)) (ci := 9) (v := .ref (ad 60)) (C := RX9) (T := TX9) (N := 67) hx hb hts hiX9 hown hK hP 0 rfl rfl 60 (by decide) v_8 (fun _ h9 => h9) rfl dX9_spanned_239 ?_
              refine lv_iload_n hx hb dX9_spanned_242 rfl (lv_at hl 2 rfl) ?_
              refine lv_iload hx hb dX9_spanned_243 (lv_at hl 4 rfl) ?_
              refine lv_imul hx hb dX9_spanned_245 ?_
              refine lv_topi (fun y_51 ey_51 => ?_)
              obtain rfl : y_51 = (nI ((x61 + 1) * g_48)) := ey_51.trans (pk_mul (x61 + 1) g_48)
              refine lv_iload hx hb dX9_spanned_246 (lv_at hl 4 rfl) ?_
              refine lv_iadd hx hb dX9_spanned_248 ?_
              refine lv_topi (fun y_52 ey_52 => ?_)
              obtain rfl : y_52 = (nI (((x61 + 1) * g_48) + g_48)) := ey_52.trans (nI_add ((x61 + 1) * g_48) g_48)
              refine va_iald hx hb hK hP 41 40 rfl rfl (vp_in_nI (n := (((x61 + 1) * g_48) + g_48)) (by first | exact sp_ix (by omega) (by omega) (by omega) | exact sp_ix0 (by omega) (by omega)) (by omega)) dX9_spanned_249 ?_
              refine lv_topi (fun y_53 ey_53 => ?_)
              refine lv_iconst (v := 1) hx hb dX9_spanned_250 (by decide) ?_
              refine lv_icmp_ge (tgt := 256) hx hb dX9_spanned_251 (by decide) (fun c_54 => ?_) (fun c_54 => ?_)
              · refine lv_iinc (v := (nI (g_48 + 1))) (lv' := [(4, .int (nI (g_48 + 1))), (0, .ref (ad 0)), (1, .int p0), (2, .int (nI (x61 + 1))), (3, .int (nI g_25))]) hx hb dX9_spanned_256 hl (k := 4) rfl (nI_1 _) (by decide) rfl (fun ls hl => ?_)
                refine lv_goto (tgt := 232) hx hb dX9_spanned_259 (by decide) ?_
                exact ih_49 (120 - (g_48 + 1)) (by omega) _ _ _ ⟨(g_48 + 1), rfl, (by omega), hP, hD, hS, lv_sub hl [1, 2, 3, 4, 0] rfl⟩
              · refine lv_iconst (v := (-1)) hx hb dX9_spanned_254 (by decide) ?_
                exact W.iret (v := (-1)) hx hb hr (fun t ht hW => ⟨⟨(-1), (), rfl, trivial, ⟨z55_2, z56_3, z57_4, z58_5, g_43, z62_6, z63_7, ⟨by rw [ht]; exact hP, va_K.moved hW.alike hK, hD⟩, hz62_6, hz63_7⟩⟩, hS.F ht⟩) hS.2.2 dX9_spanned_255
          · have c_46 : ¬ (x61 + 1) ≤ g_44 := fun z => c_46 ((nI_leI (a := (x61 + 1)) (b := g_44) (by omega) (Nat.lt_of_le_of_lt hg_44 (Nat.le_of_ble_eq_true rfl))).mpr z)
            refine lv_aload_n hx hb dX9_spanned_144 rfl (lv_at hl 0 rfl) ?_
            refine va_get (D := (dC, dI)) (ci := 9) (v := .ref (ad 60)) (C := RX9) (T := TX9) (N := 67) hx hb hts hiX9 hown hK hP 0 rfl rfl 60 (by decide) v_8 (fun _ h9 => h9) rfl dX9_spanned_145 ?_
            refine lv_iload_n hx hb dX9_spanned_148 rfl (lv_at hl 2 rfl) ?_
            refine lv_iload hx hb dX9_spanned_149 (lv_at hl 4 rfl) ?_
            refine lv_imul hx hb dX9_spanned_151 ?_
            refine lv_topi (fun y_55 ey_55 => ?_)
            obtain rfl : y_55 = (nI ((x61 + 1) * g_44)) := ey_55.trans (pk_mul (x61 + 1) g_44)
            refine lv_iload_n hx hb dX9_spanned_152 rfl (lv_at hl 3 rfl) ?_
            refine lv_iadd hx hb dX9_spanned_153 ?_
            refine lv_topi (fun y_56 ey_56 => ?_)
            obtain rfl : y_56 = (nI (((x61 + 1) * g_44) + g_25)) := ey_56.trans (nI_add ((x61 + 1) * g_44) g_25)
            refine va_iald hx hb hK hP 41 40 rfl rfl (vp_in_nI (n := (((x61 + 1) * g_44) + g_25)) (by first | exact sp_ix (by omega) (by omega) (by omega) | exact sp_ix0 (by omega) (by omega)) (by omega)) dX9_spanned_154 ?_
            refine lv_topi (fun y_57 ey_57 => ?_)
            refine lv_istore (lv' := [(5, .int y_57), (0, .ref (ad 0)), (1, .int p0), (2, .int (nI (x61 + 1))), (3, .int (nI g_25)), (4, .int (nI g_44))]) hx hb dX9_spanned_155 hl (by decide) rfl (fun ls hl => ?_)
            refine lv_iconst (v := 0) hx hb dX9_spanned_157 (by decide) ?_
            refine lv_istore (lv' := [(6, .int 0), (5, .int y_57), (0, .ref (ad 0)), (1, .int p0), (2, .int (nI (x61 + 1))), (3, .int (nI g_25)), (4, .int (nI g_44))]) hx hb dX9_spanned_158 hl (by decide) rfl (fun ls hl => ?_)
            refine pu_while (fun nn H locs ls => ∃ (g_60 : Nat → Int32) (g_61 : Nat), nn = 120 - g_61 ∧ g_61 ≤ 120 ∧ va_P (dC, dI) vwCl (mo_w ad ck x0 (nI x16) (nI x18) (nI x19) x20 (nI x21) (nI x22) x23 x24 x25 (nI x26) x27 (nI x28) (nI x29) (nI x30) (nI x33) x45 (nI x46) (nI x52) (nI x53) (nI x61) (nI z62_6) (nI z63_7) (nI x65) x66 f1 f2 f3 (bN 3 q4) (bN 7 q5) (bN 7 q6) (bN 4 q7) f8 (bN 2 q9) (bH q10) f11 (b2 m12_0 m12_1) (b2 m13_0 m13_1) (b2 m14_0 m14_1) (b2m m15_0 m15_1) f17 (bA 159 q31) f32 f34 f35 f36 f37 (bN 7 q38) f39 f40 f41 (b2 m42_0 m42_1) f43 f44 f47 f48 f49 f50 f51 (bN 13 q54) (bN 120 z55_2) (bN 120 z56_3) z57_4 (bN 120 z58_5) f59 g_60 f64) H ∧ va_D A (mo_w ad ck x0 (nI x16) (nI x18) (nI x19) x20 (nI x21) (nI x22) x23 x24 x25 (nI x26) x27 (nI x28) (nI x29) (nI x30) (nI x33) x45 (nI x46) (nI x52) (nI x53) (nI x61) (nI z62_6) (nI z63_7) (nI x65) x66 f1 f2 f3 (bN 3 q4) (bN 7 q5) (bN 7 q6) (bN 4 q7) f8 (bN 2 q9) (bH q10) f11 (b2 m12_0 m12_1) (b2 m13_0 m13_1) (b2 m14_0 m14_1) (b2m m15_0 m15_1) f17 (bA 159 q31) f32 f34 f35 f36 f37 (bN 7 q38) f39 f40 f41 (b2 m42_0 m42_1) f43 f44 f47 f48 f49 f50 f51 (bN 13 q54) (bN 120 z55_2) (bN 120 z56_3) z57_4 (bN 120 z58_5) f59 g_60 f64) ∧ va_S A s.heap H locs ∧ lv_has ls 7 [(0, .ref (ad 0)), (1, .int p0), (2, .int (nI (x61 + 1))), (3, .int (nI g_25)), (4, .int (nI g_44)), (5, .int y_57), (6, .int (nI g_61))]) 160 ?_ _ _ _ _ ⟨g_43, 0, rfl, (Nat.le_of_ble_eq_true rfl), hP, hD, hS, lv_sub hl [2, 3, 4, 5, 6, 1, 0] rfl⟩
            rintro nn ih_62 H locs ls ⟨g_60, g_61, rfl, hg_61, hP, hD, hS, hl⟩
            refine lv_iload hx hb dX9_spanned_160 (lv_at hl 5 rfl) ?_
            refine lv_ldcw hx hb hown v_9 dX9_spanned_162 ?_
            refine pu_join (fun H locs ls st => st = [] ∧ va_P (dC, dI) vwCl (mo_w ad ck x0 (nI x16) (nI x18) (nI x19) x20 (nI x21) (nI x22) x23 x24 x25 (nI x26) x27 (nI x28) (nI x29) (nI x30) (nI x33) x45 (nI x46) (nI x52) (nI x53) (nI x61) (nI z62_6) (nI z63_7) (nI x65) x66 f1 f2 f3 (bN 3 q4) (bN 7 q5) (bN 7 q6) (bN 4 q7) f8 (bN 2 q9) (bH q10) f11 (b2 m12_0 m12_1) (b2 m13_0 m13_1) (b2 m14_0 m14_1) (b2m m15_0 m15_1) f17 (bA 159 q31) f32 f34 f35 f36 f37 (bN 7 q38) f39 f40 f41 (b2 m42_0 m42_1) f43 f44 f47 f48 f49 f50 f51 (bN 13 q54) (bN 120 z55_2) (bN 120 z56_3) z57_4 (bN 120 z58_5) f59 g_60 f64) H ∧ va_D A (mo_w ad ck x0 (nI x16) (nI x18) (nI x19) x20 (nI x21) (nI x22) x23 x24 x25 (nI x26) x27 (nI x28) (nI x29) (nI x30) (nI x33) x45 (nI x46) (nI x52) (nI x53) (nI x61) (nI z62_6) (nI z63_7) (nI x65) x66 f1 f2 f3 (bN 3 q4) (bN 7 q5) (bN 7 q6) (bN 4 q7) f8 (bN 2 q9) (bH q10) f11 (b2 m12_0 m12_1) (b2 m13_0 m13_1) (b2 m14_0 m14_1) (b2m m15_0 m15_1) f17 (bA 159 q31) f32 f34 f35 f36 f37 (bN 7 q38) f39 f40 f41 (b2 m42_0 m42_1) f43 f44 f47 f48 f49 f50 f51 (bN 13 q54) (bN 120 z55_2) (bN 120 z56_3) z57_4 (bN 120 z58_5) f59 g_60 f64) ∧ va_S A s.heap H locs ∧ lv_has ls 7 [(0, .ref (ad 0)), (1, .int p0), (2, .int (nI (x61 + 1))), (3, .int (nI g_25)), (4, .int (nI g_44)), (5, .int y_57), (6, .int (nI g_61))]) 223 ?_ (fun j_63 => ?_)
            · rintro H locs ls st ⟨rfl, hP, hD, hS, hl⟩
              refine lv_iinc (v := (nI (g_44 + 1))) (lv' := [(4, .int (nI (g_44 + 1))), (0, .ref (ad 0)), (1, .int p0), (2, .int (nI (x61 + 1))), (3, .int (nI g_25)), (5, .int y_57), (6, .int (nI g_61))]) hx hb dX9_spanned_223 hl (k := 4) rfl (nI_1 _) (by decide) rfl (fun ls hl => ?_)
              refine lv_goto (tgt := 138) hx hb dX9_spanned_226 (by decide) ?_
              exact ih_45 (120 - (g_44 + 1)) (by omega) _ _ _ ⟨g_60, (g_44 + 1), rfl, (by omega), hP, hD, hS, lv_sub hl [1, 2, 3, 4, 0] rfl⟩
            refine lv_icmp_ge (tgt := 223) hx hb dX9_spanned_165 (by decide) (fun c_64 => ?_) (fun c_64 => ?_)
            · exact j_63 _ _ _ _ ⟨rfl, hP, hD, hS, lv_sub hl [0, 1, 2, 3, 4, 5, 6] rfl⟩
            · refine lv_iload hx hb dX9_spanned_168 (lv_at hl 6 rfl) ?_
              refine lv_iload_n hx hb dX9_spanned_170 rfl (lv_at hl 2 rfl) ?_
              refine lv_icmp_ge (tgt := 223) hx hb dX9_spanned_171 (by decide) (fun c_65 => ?_) (fun c_65 => ?_)
              · have c_65 : (x61 + 1) ≤ g_61 := (nI_leI (a := (x61 + 1)) (b := g_61) (by omega) (Nat.lt_of_le_of_lt hg_61 (Nat.le_of_ble_eq_true rfl))).mp c_65
                exact j_63 _ _ _ _ ⟨rfl, hP, hD, hS, lv_sub hl [0, 1, 2, 3, 4, 5, 6] rfl⟩
              · have c_65 : ¬ (x61 + 1) ≤ g_61 := fun z => c_65 ((nI_leI (a := (x61 + 1)) (b := g_61) (by omega) (Nat.lt_of_le_of_lt hg_61 (Nat.le_of_ble_eq_true rfl))).mpr z)
                refine lv_aload_n hx hb dX9_spanned_174 rfl (lv_at hl 0 rfl) ?_
                refine va_get (D := (dC, dI)) (ci := 9) (v := .ref (ad 60)) (C := RX9) (T := TX9) (N := 67) hx hb hts hiX9 hown hK hP 0 rfl rfl 60 (by decide) v_8 (fun _ h9 => h9) rfl dX9_spanned_175 ?_
                refine lv_iload_n hx hb dX9_spanned_178 rfl (lv_at hl 2 rfl) ?_
                refine lv_iload hx hb dX9_spanned_179 (lv_at hl 4 rfl) ?_
                refine lv_imul hx hb dX9_spanned_181 ?_
                refine lv_topi (fun y_66 ey_66 => ?_)
                obtain rfl : y_66 = (nI ((x61 + 1) * g_44)) := ey_66.trans (pk_mul (x61 + 1) g_44)
                refine lv_iload hx hb dX9_spanned_182 (lv_at hl 6 rfl) ?_
                refine lv_iadd hx hb dX9_spanned_184 ?_
                refine lv_topi (fun y_67 ey_67 => ?_)
                obtain rfl : y_67 = (nI (((x61 + 1) * g_44) + g_61)) := ey_67.trans (nI_add ((x61 + 1) * g_44) g_61)
                refine lv_aload_n hx hb dX9_spanned_185 rfl (lv_at hl 0 rfl) ?_
                refine va_get (D := (dC, dI)) (ci := 9) (v := .ref (ad 60)) (C := RX9) (T := TX9) (N := 67) hx hb hts hiX9 hown hK hP 0 rfl rfl 60 (by decide) v_8 (fun _ h9 => h9) rfl dX9_spanned_186 ?_
                refine lv_iload_n hx hb dX9_spanned_189 rfl (lv_at hl 2 rfl) ?_
                refine lv_iload hx hb dX9_spanned_190 (lv_at hl 4 rfl) ?_
                refine lv_imul hx hb dX9_spanned_192 ?_
                refine lv_topi (fun y_68 ey_68 => ?_)
                obtain rfl : y_68 = (nI ((x61 + 1) * g_44)) := ey_68.trans (pk_mul (x61 + 1) g_44)
                refine lv_iload hx hb dX9_spanned_193 (lv_at hl 6 rfl) ?_
                refine lv_iadd hx hb dX9_spanned_195 ?_
                refine lv_topi (fun y_69 ey_69 => ?_)
                obtain rfl : y_69 = (nI (((x61 + 1) * g_44) + g_61)) := ey_69.trans (nI_add ((x61 + 1) * g_44) g_61)
                refine va_iald hx hb hK hP 41 40 rfl rfl (vp_in_nI (n := (((x61 + 1) * g_44) + g_61)) (by first | exact sp_ix (by omega) (by omega) (by omega) | exact sp_ix0 (by omega) (by omega)) (by omega)) dX9_spanned_196 ?_
                refine lv_topi (fun y_70 ey_70 => ?_)
                refine lv_iload hx hb dX9_spanned_197 (lv_at hl 5 rfl) ?_
                refine lv_aload_n hx hb dX9_spanned_199 rfl (lv_at hl 0 rfl) ?_
                refine va_get (D := (dC, dI)) (ci := 9) (v := .ref (ad 60)) (C := RX9) (T := TX9) (N := 67) hx hb hts hiX9 hown hK hP 0 rfl rfl 60 (by decide) v_8 (fun _ h9 => h9) rfl dX9_spanned_200 ?_
                refine lv_iload_n hx hb dX9_spanned_203 rfl (lv_at hl 2 rfl) ?_
                refine lv_iload_n hx hb dX9_spanned_204 rfl (lv_at hl 3 rfl) ?_
                refine lv_imul hx hb dX9_spanned_205 ?_
                refine lv_topi (fun y_71 ey_71 => ?_)
                obtain rfl : y_71 = (nI ((x61 + 1) * g_25)) := ey_71.trans (pk_mul (x61 + 1) g_25)
                refine lv_iload hx hb dX9_spanned_206 (lv_at hl 6 rfl) ?_
                refine lv_iadd hx hb dX9_spanned_208 ?_
                refine lv_topi (fun y_72 ey_72 => ?_)
                obtain rfl : y_72 = (nI (((x61 + 1) * g_25) + g_61)) := ey_72.trans (nI_add ((x61 + 1) * g_25) g_61)
                refine va_iald hx hb hK hP 41 40 rfl rfl (vp_in_nI (n := (((x61 + 1) * g_25) + g_61)) (by first | exact sp_ix (by omega) (by omega) (by omega) | exact sp_ix0 (by omega) (by omega)) (by omega)) dX9_spanned_209 ?_
                refine lv_topi (fun y_73 ey_73 => ?_)
                refine va_calli (va_runS (As := [.int y_57, .int y_73]) (rest := [.int y_70, .int (nI (((x61 + 1) * g_44) + g_61)), .ref (ad 60)]) ⟨hx, hb, hml, hown, hts⟩ (c_X9_together l dC dI _ y_57 y_73) (va_cwS 2 hts g_M_spanned_X9_together rfl rfl rfl (by decide +kernel) ⟨Nat.le_of_ble_eq_true rfl, Nat.le_of_ble_eq_true rfl⟩) ⟨pu_bl, pu_in (hP.sub [] rfl) (hK.sub [] rfl) (hD.sub [] (by decide) rfl)⟩ rfl rfl hl.1 rfl (lv_room (Nat.le_of_ble_eq_true rfl)) dX9_spanned_210 ⟨Nat.le_of_ble_eq_true rfl, Nat.le_of_ble_eq_true rfl⟩) hS (fun q _ h => pu_fr hS hA q h) (pu_fr hS hA) (fun r_74 u t H1 locs ht hvm hw hB hz1 hk1 hS => ?_)
                have hP := pu_keep hP hk1
                clear hk1 hz1 ht hvm
                generalize H1 = H at hP hS ⊢
                clear hw
                refine va_calli (va_runS (As := [.int y_70, .int r_74]) (rest := [.int (nI (((x61 + 1) * g_44) + g_61)), .ref (ad 60)]) ⟨hx, hb, hml, hown, hts⟩ (c_X9_lesser l dC dI _ y_70 r_74) (va_cwS 2 hts g_M_spanned_X9_lesser rfl rfl rfl (by decide +kernel) ⟨Nat.le_of_ble_eq_true rfl, Nat.le_of_ble_eq_true rfl⟩) ⟨pu_bl, pu_in (hP.sub [] rfl) (hK.sub [] rfl) (hD.sub [] (by decide) rfl)⟩ rfl rfl hl.1 rfl (lv_room (Nat.le_of_ble_eq_true rfl)) dX9_spanned_213 ⟨Nat.le_of_ble_eq_true rfl, Nat.le_of_ble_eq_true rfl⟩) hS (fun q _ h => pu_fr hS hA q h) (pu_fr hS hA) (fun r_75 u t H1 locs ht hvm hw hB hz1 hk1 hS => ?_)
                have hP := pu_keep hP hk1
                clear hk1 hz1 ht hvm
                generalize H1 = H at hP hS ⊢
                clear hw
                refine va_iast hx hb hK hP hD hS 41 40 rfl rfl (vp_in_nI (n := (((x61 + 1) * g_44) + g_61)) (by first | exact sp_ix (by omega) (by omega) (by omega) | exact sp_ix0 (by omega) (by omega)) (by omega)) dX9_spanned_216 (fun H locs hP hD hS => ?_)
                have hP : va_P (dC, dI) vwCl (mo_w ad ck x0 (nI x16) (nI x18) (nI x19) x20 (nI x21) (nI x22) x23 x24 x25 (nI x26) x27 (nI x28) (nI x29) (nI x30) (nI x33) x45 (nI x46) (nI x52) (nI x53) (nI x61) (nI z62_6) (nI z63_7) (nI x65) x66 f1 f2 f3 (bN 3 q4) (bN 7 q5) (bN 7 q6) (bN 4 q7) f8 (bN 2 q9) (bH q10) f11 (b2 m12_0 m12_1) (b2 m13_0 m13_1) (b2 m14_0 m14_1) (b2m m15_0 m15_1) f17 (bA 159 q31) f32 f34 f35 f36 f37 (bN 7 q38) f39 f40 f41 (b2 m42_0 m42_1) f43 f44 f47 f48 f49 f50 f51 (bN 13 q54) (bN 120 z55_2) (bN 120 z56_3) z57_4 (bN 120 z58_5) f59 (upd g_60 ((nI (((x61 + 1) * g_44) + g_61)) : Int32).toNatClampNeg r_75) f64) H := hP
                have hD : va_D A (mo_w ad ck x0 (nI x16) (nI x18) (nI x19) x20 (nI x21) (nI x22) x23 x24 x25 (nI x26) x27 (nI x28) (nI x29) (nI x30) (nI x33) x45 (nI x46) (nI x52) (nI x53) (nI x61) (nI z62_6) (nI z63_7) (nI x65) x66 f1 f2 f3 (bN 3 q4) (bN 7 q5) (bN 7 q6) (bN 4 q7) f8 (bN 2 q9) (bH q10) f11 (b2 m12_0 m12_1) (b2 m13_0 m13_1) (b2 m14_0 m14_1) (b2m m15_0 m15_1) f17 (bA 159 q31) f32 f34 f35 f36 f37 (bN 7 q38) f39 f40 f41 (b2 m42_0 m42_1) f43 f44 f47 f48 f49 f50 f51 (bN 13 q54) (bN 120 z55_2) (bN 120 z56_3) z57_4 (bN 120 z58_5) f59 (upd g_60 ((nI (((x61 + 1) * g_44) + g_61)) : Int32).toNatClampNeg r_75) f64) := hD
                refine lv_iinc (v := (nI (g_61 + 1))) (lv' := [(6, .int (nI (g_61 + 1))), (0, .ref (ad 0)), (1, .int p0), (2, .int (nI (x61 + 1))), (3, .int (nI g_25)), (4, .int (nI g_44)), (5, .int y_57)]) hx hb dX9_spanned_217 hl (k := 6) rfl (nI_1 _) (by decide) rfl (fun ls hl => ?_)
                refine lv_goto (tgt := 160) hx hb dX9_spanned_220 (by decide) ?_
                exact ih_62 (120 - (g_61 + 1)) (by omega) _ _ _ ⟨(upd g_60 ((nI (((x61 + 1) * g_44) + g_61)) : Int32).toNatClampNeg r_75), (g_61 + 1), rfl, (by omega), hP, hD, hS, lv_sub hl [1, 2, 3, 4, 5, 6, 0] rfl⟩
      · have c_21 : ¬ z62_6 ≤ g_19 := fun z => c_21 ((nI_leI (a := z62_6) (b := g_19) (Nat.lt_of_le_of_lt hz62_6 (Nat.le_of_ble_eq_true rfl)) (Nat.lt_of_le_of_lt hg_19 (Nat.le_of_ble_eq_true rfl))).mpr z)
        refine lv_iload_n hx hb dX9_spanned_82 rfl (lv_at hl 2 rfl) ?_
        refine lv_aload_n hx hb dX9_spanned_83 rfl (lv_at hl 0 rfl) ?_
        refine va_get (D := (dC, dI)) (ci := 9) (v := .ref (ad 55)) (C := RX9) (T := TX9) (N := 67) hx hb hts hiX9 hown hK hP 0 rfl rfl 55 (by decide) v_11 (fun _ h9 => h9) rfl dX9_spanned_84 ?_
        refine lv_iload_n hx hb dX9_spanned_87 rfl (lv_at hl 3 rfl) ?_
        refine va_iald hx hb hK hP 36 35 rfl rfl (vp_in_nI (n := g_19) (by omega) (Nat.le_of_ble_eq_true rfl)) dX9_spanned_88 ?_
        refine lv_topi (fun y_76 ey_76 => ?_)
        obtain ⟨u_77, hu_77, qu_77⟩ := bN_get 120 z55_2 (((nI g_19) : Int32).toNatClampNeg)
        obtain rfl : y_76 = nI u_77 := ey_76.trans qu_77
        refine lv_imul hx hb dX9_spanned_89 ?_
        refine lv_topi (fun y_78 ey_78 => ?_)
        obtain rfl : y_78 = (nI ((x61 + 1) * u_77)) := ey_78.trans (pk_mul (x61 + 1) u_77)
        refine lv_aload_n hx hb dX9_spanned_90 rfl (lv_at hl 0 rfl) ?_
        refine va_get (D := (dC, dI)) (ci := 9) (v := .ref (ad 56)) (C := RX9) (T := TX9) (N := 67) hx hb hts hiX9 hown hK hP 0 rfl rfl 56 (by decide) v_12 (fun _ h9 => h9) rfl dX9_spanned_91 ?_
        refine lv_iload_n hx hb dX9_spanned_94 rfl (lv_at hl 3 rfl) ?_
        refine va_iald hx hb hK hP 37 36 rfl rfl (vp_in_nI (n := g_19) (by omega) (Nat.le_of_ble_eq_true rfl)) dX9_spanned_95 ?_
        refine lv_topi (fun y_79 ey_79 => ?_)
        obtain ⟨u_80, hu_80, qu_80⟩ := bN_get 120 z56_3 (((nI g_19) : Int32).toNatClampNeg)
        obtain rfl : y_79 = nI u_80 := ey_79.trans qu_80
        refine lv_iadd hx hb dX9_spanned_96 ?_
        refine lv_topi (fun y_81 ey_81 => ?_)
        obtain rfl : y_81 = (nI (((x61 + 1) * u_77) + u_80)) := ey_81.trans (nI_add ((x61 + 1) * u_77) u_80)
        refine lv_istore (lv' := [(4, .int (nI (((x61 + 1) * u_77) + u_80))), (0, .ref (ad 0)), (1, .int p0), (2, .int (nI (x61 + 1))), (3, .int (nI g_19))]) hx hb dX9_spanned_97 hl (by decide) rfl (fun ls hl => ?_)
        refine lv_aload_n hx hb dX9_spanned_99 rfl (lv_at hl 1 rfl) ?_
        refine va_get (D := (dC, dI)) (ci := 9) (v := .ref (ad 60)) (C := RX9) (T := TX9) (N := 67) hx hb hts hiX9 hown hK hP 0 rfl rfl 60 (by decide) v_8 (fun _ h9 => h9) rfl dX9_spanned_100 ?_
        refine lv_iload hx hb dX9_spanned_103 (lv_at hl 0 rfl) ?_
        refine lv_aload_n hx hb dX9_spanned_105 rfl (lv_at hl 1 rfl) ?_
        refine va_get (D := (dC, dI)) (ci := 9) (v := .ref (ad 60)) (C := RX9) (T := TX9) (N := 67) hx hb hts hiX9 hown hK hP 0 rfl rfl 60 (by decide) v_8 (fun _ h9 => h9) rfl dX9_spanned_106 ?_
        refine lv_iload hx hb dX9_spanned_109 (lv_at hl 0 rfl) ?_
        refine va_iald hx hb hK hP 41 40 rfl rfl (vp_in_nI (n := (((x61 + 1) * u_77) + u_80)) (by first | exact sp_ix (by omega) (by omega) (by omega) | exact sp_ix0 (by omega) (by omega)) (by omega)) dX9_spanned_111 ?_
        refine lv_topi (fun y_82 ey_82 => ?_)
        refine lv_aload_n hx hb dX9_spanned_112 rfl (lv_at hl 1 rfl) ?_
        refine va_get (D := (dC, dI)) (ci := 9) (v := .ref (ad 57)) (C := RX9) (T := TX9) (N := 67) hx hb hts hiX9 hown hK hP 0 rfl rfl 57 (by decide) v_13 (fun _ h9 => h9) rfl dX9_spanned_113 ?_
        refine lv_iload_n hx hb dX9_spanned_116 rfl (lv_at hl 4 rfl) ?_
        refine va_iald hx hb hK hP 38 37 rfl rfl (vp_in_nI (n := g_19) (by omega) (Nat.le_of_ble_eq_true rfl)) dX9_spanned_117 ?_
        refine lv_topi (fun y_83 ey_83 => ?_)
        refine va_calli (va_runS (As := [.int y_82, .int y_83]) (rest := [.int (nI (((x61 + 1) * u_77) + u_80)), .ref (ad 60)]) ⟨hx, hb, hml, hown, hts⟩ (c_X9_lesser l dC dI _ y_82 y_83) (va_cwS 2 hts g_M_spanned_X9_lesser rfl rfl rfl (by decide +kernel) ⟨Nat.le_of_ble_eq_true rfl, Nat.le_of_ble_eq_true rfl⟩) ⟨pu_bl, pu_in (hP.sub [] rfl) (hK.sub [] rfl) (hD.sub [] (by decide) rfl)⟩ rfl rfl hl.1 rfl (lv_room (Nat.le_of_ble_eq_true rfl)) dX9_spanned_118 ⟨Nat.le_of_ble_eq_true rfl, Nat.le_of_ble_eq_true rfl⟩) hS (fun q _ h => pu_fr hS hA q h) (pu_fr hS hA) (fun r_84 u t H1 locs ht hvm hw hB hz1 hk1 hS => ?_)
        have hP := pu_keep hP hk1
        clear hk1 hz1 ht hvm
        generalize H1 = H at hP hS ⊢
        clear hw
        refine va_iast hx hb hK hP hD hS 41 40 rfl rfl (vp_in_nI (n := (((x61 + 1) * u_77) + u_80)) (by first | exact sp_ix (by omega) (by omega) (by omega) | exact sp_ix0 (by omega) (by omega)) (by omega)) dX9_spanned_121 (fun H locs hP hD hS => ?_)
        have hP : va_P (dC, dI) vwCl (mo_w ad ck x0 (nI x16) (nI x18) (nI x19) x20 (nI x21) (nI x22) x23 x24 x25 (nI x26) x27 (nI x28) (nI x29) (nI x30) (nI x33) x45 (nI x46) (nI x52) (nI x53) (nI x61) (nI z62_6) (nI z63_7) (nI x65) x66 f1 f2 f3 (bN 3 q4) (bN 7 q5) (bN 7 q6) (bN 4 q7) f8 (bN 2 q9) (bH q10) f11 (b2 m12_0 m12_1) (b2 m13_0 m13_1) (b2 m14_0 m14_1) (b2m m15_0 m15_1) f17 (bA 159 q31) f32 f34 f35 f36 f37 (bN 7 q38) f39 f40 f41 (b2 m42_0 m42_1) f43 f44 f47 f48 f49 f50 f51 (bN 13 q54) (bN 120 z55_2) (bN 120 z56_3) z57_4 (bN 120 z58_5) f59 (upd g_18 ((nI (((x61 + 1) * u_77) + u_80)) : Int32).toNatClampNeg r_84) f64) H := hP
        have hD : va_D A (mo_w ad ck x0 (nI x16) (nI x18) (nI x19) x20 (nI x21) (nI x22) x23 x24 x25 (nI x26) x27 (nI x28) (nI x29) (nI x30) (nI x33) x45 (nI x46) (nI x52) (nI x53) (nI x61) (nI z62_6) (nI z63_7) (nI x65) x66 f1 f2 f3 (bN 3 q4) (bN 7 q5) (bN 7 q6) (bN 4 q7) f8 (bN 2 q9) (bH q10) f11 (b2 m12_0 m12_1) (b2 m13_0 m13_1) (b2 m14_0 m14_1) (b2m m15_0 m15_1) f17 (bA 159 q31) f32 f34 f35 f36 f37 (bN 7 q38) f39 f40 f41 (b2 m42_0 m42_1) f43 f44 f47 f48 f49 f50 f51 (bN 13 q54) (bN 120 z55_2) (bN 120 z56_3) z57_4 (bN 120 z58_5) f59 (upd g_18 ((nI (((x61 + 1) * u_77) + u_80)) : Int32).toNatClampNeg r_84) f64) := hD
        refine lv_iinc (v := (nI (g_19 + 1))) (lv' := [(3, .int (nI (g_19 + 1))), (4, .int (nI (((x61 + 1) * u_77) + u_80))), (0, .ref (ad 0)), (1, .int p0), (2, .int (nI (x61 + 1)))]) hx hb dX9_spanned_122 hl (k := 4) rfl (nI_1 _) (by decide) rfl (fun ls hl => ?_)
        refine lv_goto (tgt := 74) hx hb dX9_spanned_125 (by decide) ?_
        exact ih_20 (2000 - (g_19 + 1)) (by omega) _ _ _ ⟨(upd g_18 ((nI (((x61 + 1) * u_77) + u_80)) : Int32).toNatClampNeg r_84), (g_19 + 1), rfl, (by omega), hP, hD, hS, lv_sub hl [2, 3, 4, 0] rfl⟩
    · have c_15 : ¬ (x61 + 1) ≤ g_13 := fun z => c_15 ((nI_leI (a := (x61 + 1)) (b := g_13) (by omega) (Nat.lt_of_le_of_lt hg_13 (Nat.le_of_ble_eq_true rfl))).mpr z)
      refine lv_iconst (v := 0) hx hb dX9_spanned_27 (by decide) ?_
      refine lv_istore (lv' := [(4, .int 0), (0, .ref (ad 0)), (1, .int p0), (2, .int (nI (x61 + 1))), (3, .int (nI g_13))]) hx hb dX9_spanned_28 hl (by decide) rfl (fun ls hl => ?_)
      refine pu_while (fun nn H locs ls => ∃ (g_87 : Nat → Int32) (g_88 : Nat), nn = 120 - g_88 ∧ g_88 ≤ 120 ∧ va_P (dC, dI) vwCl (mo_w ad ck x0 (nI x16) (nI x18) (nI x19) x20 (nI x21) (nI x22) x23 x24 x25 (nI x26) x27 (nI x28) (nI x29) (nI x30) (nI x33) x45 (nI x46) (nI x52) (nI x53) (nI x61) (nI z62_6) (nI z63_7) (nI x65) x66 f1 f2 f3 (bN 3 q4) (bN 7 q5) (bN 7 q6) (bN 4 q7) f8 (bN 2 q9) (bH q10) f11 (b2 m12_0 m12_1) (b2 m13_0 m13_1) (b2 m14_0 m14_1) (b2m m15_0 m15_1) f17 (bA 159 q31) f32 f34 f35 f36 f37 (bN 7 q38) f39 f40 f41 (b2 m42_0 m42_1) f43 f44 f47 f48 f49 f50 f51 (bN 13 q54) (bN 120 z55_2) (bN 120 z56_3) z57_4 (bN 120 z58_5) f59 g_87 f64) H ∧ va_D A (mo_w ad ck x0 (nI x16) (nI x18) (nI x19) x20 (nI x21) (nI x22) x23 x24 x25 (nI x26) x27 (nI x28) (nI x29) (nI x30) (nI x33) x45 (nI x46) (nI x52) (nI x53) (nI x61) (nI z62_6) (nI z63_7) (nI x65) x66 f1 f2 f3 (bN 3 q4) (bN 7 q5) (bN 7 q6) (bN 4 q7) f8 (bN 2 q9) (bH q10) f11 (b2 m12_0 m12_1) (b2 m13_0 m13_1) (b2 m14_0 m14_1) (b2m m15_0 m15_1) f17 (bA 159 q31) f32 f34 f35 f36 f37 (bN 7 q38) f39 f40 f41 (b2 m42_0 m42_1) f43 f44 f47 f48 f49 f50 f51 (bN 13 q54) (bN 120 z55_2) (bN 120 z56_3) z57_4 (bN 120 z58_5) f59 g_87 f64) ∧ va_S A s.heap H locs ∧ lv_has ls 7 [(0, .ref (ad 0)), (1, .int p0), (2, .int (nI (x61 + 1))), (3, .int (nI g_13)), (4, .int (nI g_88))]) 30 ?_ _ _ _ _ ⟨g_12, 0, rfl, (Nat.le_of_ble_eq_true rfl), hP, hD, hS, lv_sub hl [1, 2, 3, 4, 0] rfl⟩
      rintro nn ih_89 H locs ls ⟨g_87, g_88, rfl, hg_88, hP, hD, hS, hl⟩
      refine lv_iload hx hb dX9_spanned_30 (lv_at hl 4 rfl) ?_
      refine lv_iload_n hx hb dX9_spanned_32 rfl (lv_at hl 2 rfl) ?_
      refine lv_icmp_ge (tgt := 66) hx hb dX9_spanned_33 (by decide) (fun c_90 => ?_) (fun c_90 => ?_)
      · have c_90 : (x61 + 1) ≤ g_88 := (nI_leI (a := (x61 + 1)) (b := g_88) (by omega) (Nat.lt_of_le_of_lt hg_88 (Nat.le_of_ble_eq_true rfl))).mp c_90
        refine lv_iinc (v := (nI (g_13 + 1))) (lv' := [(3, .int (nI (g_13 + 1))), (0, .ref (ad 0)), (1, .int p0), (2, .int (nI (x61 + 1))), (4, .int (nI g_88))]) hx hb dX9_spanned_66 hl (k := 3) rfl (nI_1 _) (by decide) rfl (fun ls hl => ?_)
        refine lv_goto (tgt := 22) hx hb dX9_spanned_69 (by decide) ?_
        exact ih_14 (120 - (g_13 + 1)) (by omega) _ _ _ ⟨g_87, (g_13 + 1), rfl, (by omega), hP, hD, hS, lv_sub hl [1, 2, 3, 0] rfl⟩
      · have c_90 : ¬ (x61 + 1) ≤ g_88 := fun z => c_90 ((nI_leI (a := (x61 + 1)) (b := g_88) (by omega) (Nat.lt_of_le_of_lt hg_88 (Nat.le_of_ble_eq_true rfl))).mpr z)
        refine lv_aload_n hx hb dX9_spanned_36 rfl (lv_at hl 0 rfl) ?_
        refine va_get (D := (dC, dI)) (ci := 9) (v := .ref (ad 60)) (C := RX9) (T := TX9) (N := 67) hx hb hts hiX9 hown hK hP 0 rfl rfl 60 (by decide) v_8 (fun _ h9 => h9) rfl dX9_spanned_37 ?_
        refine lv_iload_n hx hb dX9_spanned_40 rfl (lv_at hl 2 rfl) ?_
        refine lv_iload_n hx hb dX9_spanned_41 rfl (lv_at hl 3 rfl) ?_
        refine lv_imul hx hb dX9_spanned_42 ?_
        refine lv_topi (fun y_91 ey_91 => ?_)
        obtain rfl : y_91 = (nI ((x61 + 1) * g_13)) := ey_91.trans (pk_mul (x61 + 1) g_13)
        refine lv_iload hx hb dX9_spanned_43 (lv_at hl 4 rfl) ?_
        refine lv_iadd hx hb dX9_spanned_45 ?_
        refine lv_topi (fun y_92 ey_92 => ?_)
        obtain rfl : y_92 = (nI (((x61 + 1) * g_13) + g_88)) := ey_92.trans (nI_add ((x61 + 1) * g_13) g_88)
        refine lv_iload_n hx hb dX9_spanned_46 rfl (lv_at hl 3 rfl) ?_
        refine lv_iload hx hb dX9_spanned_47 (lv_at hl 4 rfl) ?_
        refine pu_join (fun H locs ls st => ∃ (g_93 : Nat), st = [.int (nI g_93), .int (nI (((x61 + 1) * g_13) + g_88)), .ref (ad 60)] ∧ (1 ≤ g_93 ∧ g_93 ≤ 1048576) ∧ va_P (dC, dI) vwCl (mo_w ad ck x0 (nI x16) (nI x18) (nI x19) x20 (nI x21) (nI x22) x23 x24 x25 (nI x26) x27 (nI x28) (nI x29) (nI x30) (nI x33) x45 (nI x46) (nI x52) (nI x53) (nI x61) (nI z62_6) (nI z63_7) (nI x65) x66 f1 f2 f3 (bN 3 q4) (bN 7 q5) (bN 7 q6) (bN 4 q7) f8 (bN 2 q9) (bH q10) f11 (b2 m12_0 m12_1) (b2 m13_0 m13_1) (b2 m14_0 m14_1) (b2m m15_0 m15_1) f17 (bA 159 q31) f32 f34 f35 f36 f37 (bN 7 q38) f39 f40 f41 (b2 m42_0 m42_1) f43 f44 f47 f48 f49 f50 f51 (bN 13 q54) (bN 120 z55_2) (bN 120 z56_3) z57_4 (bN 120 z58_5) f59 g_87 f64) H ∧ va_D A (mo_w ad ck x0 (nI x16) (nI x18) (nI x19) x20 (nI x21) (nI x22) x23 x24 x25 (nI x26) x27 (nI x28) (nI x29) (nI x30) (nI x33) x45 (nI x46) (nI x52) (nI x53) (nI x61) (nI z62_6) (nI z63_7) (nI x65) x66 f1 f2 f3 (bN 3 q4) (bN 7 q5) (bN 7 q6) (bN 4 q7) f8 (bN 2 q9) (bH q10) f11 (b2 m12_0 m12_1) (b2 m13_0 m13_1) (b2 m14_0 m14_1) (b2m m15_0 m15_1) f17 (bA 159 q31) f32 f34 f35 f36 f37 (bN 7 q38) f39 f40 f41 (b2 m42_0 m42_1) f43 f44 f47 f48 f49 f50 f51 (bN 13 q54) (bN 120 z55_2) (bN 120 z56_3) z57_4 (bN 120 z58_5) f59 g_87 f64) ∧ va_S A s.heap H locs ∧ lv_has ls 7 [(0, .ref (ad 0)), (1, .int p0), (2, .int (nI (x61 + 1))), (3, .int (nI g_13)), (4, .int (nI g_88))]) 59 ?_ (fun j_94 => ?_)
        · rintro H locs ls st ⟨g_93, rfl, hg_93, hP, hD, hS, hl⟩
          refine va_iast hx hb hK hP hD hS 41 40 rfl rfl (vp_in_nI (n := (((x61 + 1) * g_13) + g_88)) (by first | exact sp_ix (by omega) (by omega) (by omega) | exact sp_ix0 (by omega) (by omega)) (by omega)) dX9_spanned_59 (fun H locs hP hD hS => ?_)
          have hP : va_P (dC, dI) vwCl (mo_w ad ck x0 (nI x16) (nI x18) (nI x19) x20 (nI x21) (nI x22) x23 x24 x25 (nI x26) x27 (nI x28) (nI x29) (nI x30) (nI x33) x45 (nI x46) (nI x52) (nI x53) (nI x61) (nI z62_6) (nI z63_7) (nI x65) x66 f1 f2 f3 (bN 3 q4) (bN 7 q5) (bN 7 q6) (bN 4 q7) f8 (bN 2 q9) (bH q10) f11 (b2 m12_0 m12_1) (b2 m13_0 m13_1) (b2 m14_0 m14_1) (b2m m15_0 m15_1) f17 (bA 159 q31) f32 f34 f35 f36 f37 (bN 7 q38) f39 f40 f41 (b2 m42_0 m42_1) f43 f44 f47 f48 f49 f50 f51 (bN 13 q54) (bN 120 z55_2) (bN 120 z56_3) z57_4 (bN 120 z58_5) f59 (upd g_87 ((nI (((x61 + 1) * g_13) + g_88)) : Int32).toNatClampNeg (nI g_93)) f64) H := hP
          have hD : va_D A (mo_w ad ck x0 (nI x16) (nI x18) (nI x19) x20 (nI x21) (nI x22) x23 x24 x25 (nI x26) x27 (nI x28) (nI x29) (nI x30) (nI x33) x45 (nI x46) (nI x52) (nI x53) (nI x61) (nI z62_6) (nI z63_7) (nI x65) x66 f1 f2 f3 (bN 3 q4) (bN 7 q5) (bN 7 q6) (bN 4 q7) f8 (bN 2 q9) (bH q10) f11 (b2 m12_0 m12_1) (b2 m13_0 m13_1) (b2 m14_0 m14_1) (b2m m15_0 m15_1) f17 (bA 159 q31) f32 f34 f35 f36 f37 (bN 7 q38) f39 f40 f41 (b2 m42_0 m42_1) f43 f44 f47 f48 f49 f50 f51 (bN 13 q54) (bN 120 z55_2) (bN 120 z56_3) z57_4 (bN 120 z58_5) f59 (upd g_87 ((nI (((x61 + 1) * g_13) + g_88)) : Int32).toNatClampNeg (nI g_93)) f64) := hD
          refine lv_iinc (v := (nI (g_88 + 1))) (lv' := [(4, .int (nI (g_88 + 1))), (0, .ref (ad 0)), (1, .int p0), (2, .int (nI (x61 + 1))), (3, .int (nI g_13))]) hx hb dX9_spanned_60 hl (k := 4) rfl (nI_1 _) (by decide) rfl (fun ls hl => ?_)
          refine lv_goto (tgt := 30) hx hb dX9_spanned_63 (by decide) ?_
          exact ih_89 (120 - (g_88 + 1)) (by omega) _ _ _ ⟨(upd g_87 ((nI (((x61 + 1) * g_13) + g_88)) : Int32).toNatClampNeg (nI g_93)), (g_88 + 1), rfl, (by omega), hP, hD, hS, lv_sub hl [1, 2, 3, 4, 0] rfl⟩
        refine lv_icmp_ne (tgt := 56) hx hb dX9_spanned_49 (by decide) (fun c_95 => ?_) (fun c_95 => ?_)
        · have c_95 : ¬ g_13 = g_88 := fun z => c_95 ((nI_eq (a := g_13) (b := g_88) (Nat.lt_of_le_of_lt hg_13 (Nat.le_of_ble_eq_true rfl)) (Nat.lt_of_le_of_lt hg_88 (Nat.le_of_ble_eq_true rfl))).mpr z)
          refine lv_ldcw hx hb hown v_9 dX9_spanned_56 ?_
          exact j_94 _ _ _ _ ⟨1048576, rfl, ⟨by omega, by omega⟩, hP, hD, hS, lv_sub hl [0, 1, 2, 3, 4] rfl⟩
        · have c_95 : g_13 = g_88 := (nI_eq (a := g_13) (b := g_88) (Nat.lt_of_le_of_lt hg_13 (Nat.le_of_ble_eq_true rfl)) (Nat.lt_of_le_of_lt hg_88 (Nat.le_of_ble_eq_true rfl))).mp c_95
          refine lv_iconst (v := 1) hx hb dX9_spanned_52 (by decide) ?_
          refine lv_goto (tgt := 59) hx hb dX9_spanned_53 (by decide) ?_
          exact j_94 _ _ _ _ ⟨1, rfl, ⟨by omega, by omega⟩, hP, hD, hS, lv_sub hl [0, 1, 2, 3, 4] rfl⟩
  · have c_8 : ¬ z63_7 = 0 := fun z => c_8 ((nI_eq (a := z63_7) (b := 0) (Nat.lt_of_le_of_lt hz63_7 (Nat.le_of_ble_eq_true rfl)) (Nat.le_of_ble_eq_true rfl)).mpr z)
    refine lv_iconst (v := (-1)) hx hb dX9_spanned_11 (by decide) ?_
    exact W.iret (v := (-1)) hx hb hr (fun t ht hW => ⟨⟨(-1), (), rfl, trivial, ⟨z55_2, z56_3, z57_4, z58_5, f60, z62_6, z63_7, ⟨by rw [ht]; exact hP, va_K.moved hW.alike hK, hD⟩, hz62_6, hz63_7⟩⟩, hS.F ht⟩) hS.2.2 dX9_spanned_12
theorem dX9_spans_0 : decode cX9_spans 0 = .ok (.aload_n 0, 1) := by decide +kernel
theorem dX9_spans_1 : decode cX9_spans 1 = .ok (.iconst 0, 1) := by decide +kernel
theorem dX9_spans_2 : decode cX9_spans 2 = .ok (.putfield 142, 3) := by decide +kernel
theorem dX9_spans_5 : decode cX9_spans 5 = .ok (.aload_n 0, 1) := by decide +kernel
theorem dX9_spans_6 : decode cX9_spans 6 = .ok (.iload_n 1, 1) := by decide +kernel
theorem dX9_spans_7 : decode cX9_spans 7 = .ok (.invokevirtual 387, 3) := by decide +kernel
theorem dX9_spans_10 : decode cX9_spans 10 = .ok (.ifCond .eq 12, 3) := by decide +kernel
theorem dX9_spans_13 : decode cX9_spans 13 = .ok (.iload_n 2, 1) := by decide +kernel
theorem dX9_spans_14 : decode cX9_spans 14 = .ok (.iconst 0, 1) := by decide +kernel
theorem dX9_spans_15 : decode cX9_spans 15 = .ok (.iconst 3, 1) := by decide +kernel
theorem dX9_spans_16 : decode cX9_spans 16 = .ok (.invokestatic 152, 3) := by decide +kernel
theorem dX9_spans_19 : decode cX9_spans 19 = .ok (.ifCond .ne 5, 3) := by decide +kernel
theorem dX9_spans_22 : decode cX9_spans 22 = .ok (.iconst (-1), 1) := by decide +kernel
theorem dX9_spans_23 : decode cX9_spans 23 = .ok (.ireturn, 1) := by decide +kernel
theorem dX9_spans_24 : decode cX9_spans 24 = .ok (.aload_n 0, 1) := by decide +kernel
theorem dX9_spans_25 : decode cX9_spans 25 = .ok (.iload_n 1, 1) := by decide +kernel
theorem dX9_spans_26 : decode cX9_spans 26 = .ok (.invokevirtual 451, 3) := by decide +kernel
theorem dX9_spans_29 : decode cX9_spans 29 = .ok (.aload_n 0, 1) := by decide +kernel
theorem dX9_spans_30 : decode cX9_spans 30 = .ok (.iload_n 2, 1) := by decide +kernel
theorem dX9_spans_31 : decode cX9_spans 31 = .ok (.invokevirtual 463, 3) := by decide +kernel
theorem dX9_spans_34 : decode cX9_spans 34 = .ok (.ireturn, 1) := by decide +kernel
abbrev vs_M_spans : List Cond := .code yX9_spans cX9_spans 3 (some .int) :: VM
theorem g_M_spans_X9_in : GoodIn vs_M_spans (va_wsS RX9 152 yX9_in vs_X9_in) := gm_0 (fun w h => by
  rcases List.mem_cons.mp h with rfl | h
  · exact vm_153
  rcases List.mem_cons.mp h with rfl | h
  · exact vm_154
  rcases List.mem_cons.mp h with rfl | h
  · exact vm_12
  rcases List.mem_cons.mp h with rfl | h
  · exact vm_14
  exact absurd h (List.not_mem_nil))
theorem g_M_spans_M_isState : GoodIn vs_M_spans (wsV RX9 387 RX9 yX9_isState vs_M_isState) := gm_V vm_279 vm_280 vm_281 vm_12 vm_276
theorem g_M_spans_M_layPath : GoodIn vs_M_spans (wsV RX9 451 RX9 yX9_layPath vs_M_layPath) := gm_V vm_353 vm_354 vm_355 vm_12 vm_325
theorem g_M_spans_M_spanned : GoodIn vs_M_spans (wsV RX9 463 RX9 yX9_spanned vs_M_spanned) := gm_V vm_372 vm_373 vm_374 vm_12 vm_369
set_option maxHeartbeats 4000000 in
set_option maxRecDepth 100000 in
theorem c_M_spans (l : Launch) (dC : Nat → ClassId) (dI : Nat → Nat → Nat) (sz : Nat) (ad : Nat → Nat) (ck : Nat → ClassId) (x0 : Int32) (x16 : Nat) (x18 : Nat) (x19 : Nat) (x20 : Int32) (x21 : Nat) (x22 : Nat) (x23 : Int32) (x24 : Int32) (x25 : Int32) (x26 : Nat) (x27 : Int32) (x28 : Nat) (x29 : Nat) (x30 : Nat) (x33 : Nat) (x45 : Int32) (x46 : Nat) (x52 : Nat) (x53 : Nat) (x61 : Nat) (x62 : Nat) (x63 : Nat) (x65 : Nat) (x66 : Int32) (f1 : Nat → Int32) (f2 : Nat → Int32) (f3 : Nat → Int32) (q4 : Nat → Nat) (q5 : Nat → Nat) (q6 : Nat → Nat) (q7 : Nat → Nat) (f8 : Nat → Int32) (q9 : Nat → Nat) (q10 : Nat → Nat) (f11 : Nat → Int32) (m12_0 m12_1 : Nat) (m13_0 m13_1 : Nat) (m14_0 m14_1 : Nat) (m15_0 m15_1 : Nat) (f17 : Nat → Int32) (q31 : Nat → Nat) (f32 : Nat → Int32) (f34 : Nat → Int32) (f35 : Nat → Int32) (f36 : Nat → Int32) (f37 : Nat → Int32) (q38 : Nat → Nat) (f39 : Nat → Int32) (f40 : Nat → Int32) (f41 : Nat → Int32) (m42_0 m42_1 : Nat) (f43 : Nat → Int32) (f44 : Nat → Int32) (f47 : Nat → Int32) (f48 : Nat → Int32) (f49 : Nat → Int32) (f50 : Nat → Int32) (f51 : Nat → Int32) (q54 : Nat → Nat) (q55 : Nat → Nat) (q56 : Nat → Nat) (f57 : Nat → Int32) (q58 : Nat → Nat) (f59 : Nat → Int32) (f60 : Nat → Int32) (f64 : Nat → Int32) (p0 : Int32) (p1 : Int32) (hx16 : x16 ≤ 1) (hx18 : x18 ≤ 900) (hx19 : x19 ≤ 900) (hx21 : x21 ≤ 900) (hx22 : x22 ≤ 4) (hx26 : x26 ≤ 6) (hx28 : x28 ≤ 1) (hx29 : x29 ≤ 1) (hx30 : x30 ≤ 1) (hx33 : x33 ≤ 20) (hx46 : x46 ≤ 5) (hx52 : x52 ≤ 2400) (hx53 : x53 ≤ 119) (hx61 : x61 ≤ 119) (hx62 : x62 ≤ 2000) (hx63 : x63 ≤ 1) (hx65 : x65 ≤ 7) (hm12_0 : m12_0 ≤ 3) (hm12_1 : m12_1 ≤ 3) (hm13_0 : m13_0 ≤ 8) (hm13_1 : m13_1 ≤ 8) (hm14_0 : m14_0 ≤ 14) (hm14_1 : m14_1 ≤ 14) (hm15_0 : m15_0 ≤ 8) (hm15_1 : m15_1 ≤ 8) (hm42_0 : m42_0 ≤ 120) (hm42_1 : m42_1 ≤ 400) (hbg : (x16 = 0 ∧ (m13_0 = 0 ∨ 1 ≤ m15_0)) ∨ (x16 = 1 ∧ (m13_1 = 0 ∨ 1 ≤ m15_1))) (hgr : gz_ok m42_0 f39 f40 f41) : Met l yX9_spans vs_M_spans ({ frames := 6, cells := 0, slots := 0, locals := 138 }) (va_Pc [.ref (ad 0), .int p0, .int p1] (pu_B (dC, dI) (mo_w ad ck x0 (nI x16) (nI x18) (nI x19) x20 (nI x21) (nI x22) x23 x24 x25 (nI x26) x27 (nI x28) (nI x29) (nI x30) (nI x33) x45 (nI x46) (nI x52) (nI x53) (nI x61) (nI x62) (nI x63) (nI x65) x66 f1 f2 f3 (bN 3 q4) (bN 7 q5) (bN 7 q6) (bN 4 q7) f8 (bN 2 q9) (bH q10) f11 (b2 m12_0 m12_1) (b2 m13_0 m13_1) (b2 m14_0 m14_1) (b2m m15_0 m15_1) f17 (bA 159 q31) f32 f34 f35 f36 f37 (bN 7 q38) f39 f40 f41 (b2 m42_0 m42_1) f43 f44 f47 f48 f49 f50 f51 (bN 13 q54) (bN 120 q55) (bN 120 q56) f57 (bN 120 q58) f59 f60 f64) (mo_t ck) sz)) (va_Qi (fun (r : Int32) (_ : Unit) => True) (fun _ t => ∃ (z54 : Nat → Nat) (z55 : Nat → Nat) (z56 : Nat → Nat) (z57 : Nat → Int32) (z58 : Nat → Nat) (z60 : Nat → Int32) (z0 : Int32) (z46 : Nat) (z61 : Nat) (z62 : Nat) (z63 : Nat), pu_E (dC, dI) (mo_w ad ck z0 (nI x16) (nI x18) (nI x19) x20 (nI x21) (nI x22) x23 x24 x25 (nI x26) x27 (nI x28) (nI x29) (nI x30) (nI x33) x45 (nI z46) (nI x52) (nI x53) (nI z61) (nI z62) (nI z63) (nI x65) x66 f1 f2 f3 (bN 3 q4) (bN 7 q5) (bN 7 q6) (bN 4 q7) f8 (bN 2 q9) (bH q10) f11 (b2 m12_0 m12_1) (b2 m13_0 m13_1) (b2 m14_0 m14_1) (b2m m15_0 m15_1) f17 (bA 159 q31) f32 f34 f35 f36 f37 (bN 7 q38) f39 f40 f41 (b2 m42_0 m42_1) f43 f44 f47 f48 f49 f50 f51 (bN 13 z54) (bN 120 z55) (bN 120 z56) z57 (bN 120 z58) f59 z60 f64) (mo_t ck) (va_A ((mo_w ad ck x0 (nI x16) (nI x18) (nI x19) x20 (nI x21) (nI x22) x23 x24 x25 (nI x26) x27 (nI x28) (nI x29) (nI x30) (nI x33) x45 (nI x46) (nI x52) (nI x53) (nI x61) (nI x62) (nI x63) (nI x65) x66 f1 f2 f3 (bN 3 q4) (bN 7 q5) (bN 7 q6) (bN 4 q7) f8 (bN 2 q9) (bH q10) f11 (b2 m12_0 m12_1) (b2 m13_0 m13_1) (b2 m14_0 m14_1) (b2m m15_0 m15_1) f17 (bA 159 q31) f32 f34 f35 f36 f37 (bN 7 q38) f39 f40 f41 (b2 m42_0 m42_1) f43 f44 f47 f48 f49 f50 f51 (bN 13 q54) (bN 120 q55) (bN 120 q56) f57 (bN 120 q58) f59 f60 f64)) sz) t ∧ (z46 ≤ 5) ∧ (z61 ≤ 119) ∧ (z62 ≤ 2000) ∧ (z63 ≤ 1)) (va_A ((mo_w ad ck x0 (nI x16) (nI x18) (nI x19) x20 (nI x21) (nI x22) x23 x24 x25 (nI x26) x27 (nI x28) (nI x29) (nI x30) (nI x33) x45 (nI x46) (nI x52) (nI x53) (nI x61) (nI x62) (nI x63) (nI x65) x66 f1 f2 f3 (bN 3 q4) (bN 7 q5) (bN 7 q6) (bN 4 q7) f8 (bN 2 q9) (bH q10) f11 (b2 m12_0 m12_1) (b2 m13_0 m13_1) (b2 m14_0 m14_1) (b2m m15_0 m15_1) f17 (bA 159 q31) f32 f34 f35 f36 f37 (bN 7 q38) f39 f40 f41 (b2 m42_0 m42_1) f43 f44 f47 f48 f49 f50 f51 (bN 13 q54) (bN 120 q55) (bN 120 q56) f57 (bN 120 q58) f59 f60 f64)) sz)) 0 0 (va_A ((mo_w ad ck x0 (nI x16) (nI x18) (nI x19) x20 (nI x21) (nI x22) x23 x24 x25 (nI x26) x27 (nI x28) (nI x29) (nI x30) (nI x33) x45 (nI x46) (nI x52) (nI x53) (nI x61) (nI x62) (nI x63) (nI x65) x66 f1 f2 f3 (bN 3 q4) (bN 7 q5) (bN 7 q6) (bN 4 q7) f8 (bN 2 q9) (bH q10) f11 (b2 m12_0 m12_1) (b2 m13_0 m13_1) (b2 m14_0 m14_1) (b2m m15_0 m15_1) f17 (bA 159 q31) f32 f34 f35 f36 f37 (bN 7 q38) f39 f40 f41 (b2 m42_0 m42_1) f43 f44 f47 f48 f49 f50 f51 (bN 13 q54) (bN 120 q55) (bN 120 q56) f57 (bN 120 q58) f59 f60 f64)) sz) := by
  refine Met.ofW (cc := cX9_spans) (maxL := 3) (ret := (some .int)) (by decide) rfl ?_
  intro p e s m args below meth c s₁ B hml hv
  obtain ⟨rfl, rfl, hP, hK, hD0⟩ := hv
  have hx := B.exec
  have hb := B.bytes
  have hr := B.returns
  have hts := atoms_spec (ws := vs_M_spans) B.pre
  have v_1 := hts (.fieldLink RX9 142 "ClockReachModel" "thrown" "I") (List.mem_cons_of_mem _ vm_24)
  have hown : s.vm.findClass RX9 = some m.cls := findClass_of_methodNamed B.named
  have hlocks := B.notSynchronized
  have hiX9 : ∀ w ∈ wsX90, w ∈ vs_M_spans := fun _ h => List.mem_cons_of_mem _ (List.mem_append_right _ h)
  have hD := hD0.self (sz := s.heap.size)
  generalize hAe : va_A ((mo_w ad ck x0 (nI x16) (nI x18) (nI x19) x20 (nI x21) (nI x22) x23 x24 x25 (nI x26) x27 (nI x28) (nI x29) (nI x30) (nI x33) x45 (nI x46) (nI x52) (nI x53) (nI x61) (nI x62) (nI x63) (nI x65) x66 f1 f2 f3 (bN 3 q4) (bN 7 q5) (bN 7 q6) (bN 4 q7) f8 (bN 2 q9) (bH q10) f11 (b2 m12_0 m12_1) (b2 m13_0 m13_1) (b2 m14_0 m14_1) (b2m m15_0 m15_1) f17 (bA 159 q31) f32 f34 f35 f36 f37 (bN 7 q38) f39 f40 f41 (b2 m42_0 m42_1) f43 f44 f47 f48 f49 f50 f51 (bN 13 q54) (bN 120 q55) (bN 120 q56) f57 (bN 120 q58) f59 f60 f64)) s.heap.size = A at hD ⊢
  have hA : ∀ q : Nat, s.heap.size ≤ q → A q := fun q h => by rw [← hAe]; exact Or.inr h
  have hS : va_S A s.heap s.heap [] := va_S.rf
  have hl := lv_entry ([.ref (ad 0), .int p0, .int p1]) (n := 3) (Nat.le_of_ble_eq_true rfl)
  rw [lg_entry_eq]
  generalize (lg_sl ([.ref (ad 0), .int p0, .int p1]) ++ List.replicate (3 - (lg_sl ([.ref (ad 0), .int p0, .int p1])).length) Slot.unset).toArray = ls at hl ⊢
  have hl : lv_has ls 3 [(0, .ref (ad 0)), (1, .int p0), (2, .int p1)] := hl
  refine lv_aload_n hx hb dX9_spans_0 rfl (lv_at hl 0 rfl) ?_
  refine lv_iconst (v := 0) hx hb dX9_spans_1 (by decide) ?_
  refine va_put (D := (dC, dI)) (ci := 9) (v := .int 0) (ty := .int) (C := RX9) (T := TX9) (N := 67) hx hb hts hiX9 tyX9 tyX9_ok nmX9 hown hK hP hD hS 0 rfl rfl 0 (by decide) v_1 (fun _ h9 => h9) rfl (by decide +kernel) rfl rfl (Nat.le_of_ble_eq_true rfl) dX9_spans_2 (fun H locs hP hD hS => ?_)
  have hP : va_P (dC, dI) vwCl (mo_w ad ck 0 (nI x16) (nI x18) (nI x19) x20 (nI x21) (nI x22) x23 x24 x25 (nI x26) x27 (nI x28) (nI x29) (nI x30) (nI x33) x45 (nI x46) (nI x52) (nI x53) (nI x61) (nI x62) (nI x63) (nI x65) x66 f1 f2 f3 (bN 3 q4) (bN 7 q5) (bN 7 q6) (bN 4 q7) f8 (bN 2 q9) (bH q10) f11 (b2 m12_0 m12_1) (b2 m13_0 m13_1) (b2 m14_0 m14_1) (b2m m15_0 m15_1) f17 (bA 159 q31) f32 f34 f35 f36 f37 (bN 7 q38) f39 f40 f41 (b2 m42_0 m42_1) f43 f44 f47 f48 f49 f50 f51 (bN 13 q54) (bN 120 q55) (bN 120 q56) f57 (bN 120 q58) f59 f60 f64) H := hP
  have hD : va_D A (mo_w ad ck 0 (nI x16) (nI x18) (nI x19) x20 (nI x21) (nI x22) x23 x24 x25 (nI x26) x27 (nI x28) (nI x29) (nI x30) (nI x33) x45 (nI x46) (nI x52) (nI x53) (nI x61) (nI x62) (nI x63) (nI x65) x66 f1 f2 f3 (bN 3 q4) (bN 7 q5) (bN 7 q6) (bN 4 q7) f8 (bN 2 q9) (bH q10) f11 (b2 m12_0 m12_1) (b2 m13_0 m13_1) (b2 m14_0 m14_1) (b2m m15_0 m15_1) f17 (bA 159 q31) f32 f34 f35 f36 f37 (bN 7 q38) f39 f40 f41 (b2 m42_0 m42_1) f43 f44 f47 f48 f49 f50 f51 (bN 13 q54) (bN 120 q55) (bN 120 q56) f57 (bN 120 q58) f59 f60 f64) := hD
  refine lv_aload_n hx hb dX9_spans_5 rfl (lv_at hl 0 rfl) ?_
  refine lv_iload_n hx hb dX9_spans_6 rfl (lv_at hl 1 rfl) ?_
  have hFc := pu_free hD hS hA
  refine va_calli (va_runV (As := [.int p0]) (rest := []) ⟨hx, hb, hml, hown, hts⟩ (c_M_isState l dC dI _ ad ck 0 x16 x18 x19 x20 x21 x22 x23 x24 x25 x26 x27 x28 x29 x30 x33 x45 x46 x52 x53 x61 x62 x63 x65 x66 f1 f2 f3 q4 q5 q6 q7 f8 q9 q10 f11 m12_0 m12_1 m13_0 m13_1 m14_0 m14_1 m15_0 m15_1 f17 q31 f32 f34 f35 f36 f37 q38 f39 f40 f41 m42_0 m42_1 f43 f44 f47 f48 f49 f50 f51 q54 q55 q56 f57 q58 f59 f60 f64 p0 hx16 hx18 hx19 hx21 hx22 hx26 hx28 hx29 hx30 hx33 hx46 hx52 hx53 hx61 hx62 hx63 hx65 hm12_0 hm12_1 hm13_0 hm13_1 hm14_0 hm14_1 hm15_0 hm15_1 hm42_0 hm42_1) (cwV 1 hts g_M_spans_M_isState rfl rfl rfl (by decide +kernel) ⟨Nat.le_of_ble_eq_true rfl, Nat.le_of_ble_eq_true rfl⟩) ⟨pu_bl, va_recv hK hP (ci := 9) (q0 := 0) rfl rfl, pu_in hP hK hD⟩ rfl rfl hl.1 rfl (lv_room (Nat.le_of_ble_eq_true rfl)) dX9_spans_7 ⟨Nat.le_of_ble_eq_true rfl, Nat.le_of_ble_eq_true rfl⟩) hS (fun q _ h => hFc q h) hFc (fun r_1 u t H1 locs ht hvm hw hB hz1 hk1 hS => ?_)
  obtain ⟨z46_2, ⟨hP1, -, hD1⟩, hz46_2⟩ := hB
  rw [ht] at hP1
  have hP := hP1
  have hD := pu_all hFc hD1
  clear hP1 hD1 hFc
  clear hk1 hz1 ht hvm
  generalize H1 = H at hP hS ⊢
  rcases hw with ⟨rfl, hw⟩ | rfl
  · obtain ⟨n_3, hn_3, rfl⟩ := hw
    refine lv_if_eq (tgt := 22) hx hb dX9_spans_10 (by decide) (fun z => absurd z (by decide)) (fun _ => ?_)
    refine lv_iload_n hx hb dX9_spans_13 rfl (lv_at hl 2 rfl) ?_
    refine lv_iconst (v := 0) hx hb dX9_spans_14 (by decide) ?_
    refine lv_iconst (v := 3) hx hb dX9_spans_15 (by decide) ?_
    refine va_calli (va_runS (As := [.int p1, .int 0, .int 3]) (rest := []) ⟨hx, hb, hml, hown, hts⟩ (c_X9_in l dC dI _ p1 0 3) (va_cwS 3 hts g_M_spans_X9_in rfl rfl rfl (by decide +kernel) ⟨Nat.le_of_ble_eq_true rfl, Nat.le_of_ble_eq_true rfl⟩) ⟨pu_bl, pu_in (hP.sub [] rfl) (hK.sub [] rfl) (hD.sub [] (by decide) rfl)⟩ rfl rfl hl.1 rfl (lv_room (Nat.le_of_ble_eq_true rfl)) dX9_spans_16 ⟨Nat.le_of_ble_eq_true rfl, Nat.le_of_ble_eq_true rfl⟩) hS (fun q _ h => pu_fr hS hA q h) (pu_fr hS hA) (fun r_4 u t H1 locs ht hvm hw hB hz1 hk1 hS => ?_)
    have hP := pu_keep hP hk1
    clear hk1 hz1 ht hvm
    generalize H1 = H at hP hS ⊢
    rcases hw with ⟨rfl, hi1, hi2⟩ | ⟨rfl, hi3⟩
    · obtain ⟨n_5, hn_5, rfl⟩ := pu_in0 (n := 3) (by omega) hi1 hi2
      refine lv_if_ne (tgt := 24) hx hb dX9_spans_19 (by decide) (fun _ => ?_) (fun z => absurd z (by decide))
      refine lv_aload_n hx hb dX9_spans_24 rfl (lv_at hl 0 rfl) ?_
      refine lv_iload_n hx hb dX9_spans_25 rfl (lv_at hl 1 rfl) ?_
      have hFc := pu_free hD hS hA
      refine va_callv (va_runV (As := [.int (nI n_3)]) (rest := []) ⟨hx, hb, hml, hown, hts⟩ (c_M_layPath l dC dI _ ad ck 0 x16 x18 x19 x20 x21 x22 x23 x24 x25 x26 x27 x28 x29 x30 x33 x45 z46_2 x52 x53 x61 x62 x63 x65 x66 f1 f2 f3 q4 q5 q6 q7 f8 q9 q10 f11 m12_0 m12_1 m13_0 m13_1 m14_0 m14_1 m15_0 m15_1 f17 q31 f32 f34 f35 f36 f37 q38 f39 f40 f41 m42_0 m42_1 f43 f44 f47 f48 f49 f50 f51 q54 q55 q56 f57 q58 f59 f60 f64 n_3 hx16 hx18 hx19 hx21 hx22 hx26 hx28 hx29 hx30 hx33 (Nat.le_trans hz46_2 (Nat.le_of_ble_eq_true rfl)) hx52 hx53 hx61 hx62 hx63 hx65 hm12_0 hm12_1 hm13_0 hm13_1 hm14_0 hm14_1 hm15_0 hm15_1 hm42_0 hm42_1 (by omega) (by first | assumption | exact gz_0) (by omega)) (cwV 1 hts g_M_spans_M_layPath rfl rfl rfl (by decide +kernel) ⟨Nat.le_of_ble_eq_true rfl, Nat.le_of_ble_eq_true rfl⟩) ⟨pu_bl, va_recv hK hP (ci := 9) (q0 := 0) rfl rfl, pu_in hP hK hD⟩ rfl rfl hl.1 rfl (lv_room (Nat.le_of_ble_eq_true rfl)) dX9_spans_26 ⟨Nat.le_of_ble_eq_true rfl, Nat.le_of_ble_eq_true rfl⟩) hS (fun q _ h => hFc q h) hFc (fun u t H1 locs ht hvm hw hB hz1 hk1 hS => ?_)
      obtain ⟨z54_7, z61_8, ⟨hP1, -, hD1⟩, hz61_8⟩ := hB
      rw [ht] at hP1
      have hP := hP1
      have hD := pu_all hFc hD1
      clear hP1 hD1 hFc
      clear hk1 hz1 ht hvm
      generalize H1 = H at hP hS ⊢
      refine lv_aload_n hx hb dX9_spans_29 rfl (lv_at hl 0 rfl) ?_
      refine lv_iload_n hx hb dX9_spans_30 rfl (lv_at hl 2 rfl) ?_
      have hFc := pu_free hD hS hA
      refine va_calli (va_runV (As := [.int (nI n_5)]) (rest := []) ⟨hx, hb, hml, hown, hts⟩ (c_M_spanned l dC dI _ ad ck 0 x16 x18 x19 x20 x21 x22 x23 x24 x25 x26 x27 x28 x29 x30 x33 x45 z46_2 x52 x53 z61_8 x62 x63 x65 x66 f1 f2 f3 q4 q5 q6 q7 f8 q9 q10 f11 m12_0 m12_1 m13_0 m13_1 m14_0 m14_1 m15_0 m15_1 f17 q31 f32 f34 f35 f36 f37 q38 f39 f40 f41 m42_0 m42_1 f43 f44 f47 f48 f49 f50 f51 z54_7 q55 q56 f57 q58 f59 f60 f64 (nI n_5) hx16 hx18 hx19 hx21 hx22 hx26 hx28 hx29 hx30 hx33 (Nat.le_trans hz46_2 (Nat.le_of_ble_eq_true rfl)) hx52 hx53 hz61_8 hx62 hx63 hx65 hm12_0 hm12_1 hm13_0 hm13_1 hm14_0 hm14_1 hm15_0 hm15_1 hm42_0 hm42_1 (by first | assumption | omega)) (cwV 1 hts g_M_spans_M_spanned rfl rfl rfl (by decide +kernel) ⟨Nat.le_of_ble_eq_true rfl, Nat.le_of_ble_eq_true rfl⟩) ⟨pu_bl, va_recv hK hP (ci := 9) (q0 := 0) rfl rfl, pu_in hP hK hD⟩ rfl rfl hl.1 rfl (lv_room (Nat.le_of_ble_eq_true rfl)) dX9_spans_31 ⟨Nat.le_of_ble_eq_true rfl, Nat.le_of_ble_eq_true rfl⟩) hS (fun q _ h => hFc q h) hFc (fun r_9 u t H1 locs ht hvm hw hB hz1 hk1 hS => ?_)
      obtain ⟨z55_10, z56_11, z57_12, z58_13, z60_14, z62_15, z63_16, ⟨hP1, -, hD1⟩, hz62_15, hz63_16⟩ := hB
      rw [ht] at hP1
      have hP := hP1
      have hD := pu_all hFc hD1
      clear hP1 hD1 hFc
      clear hk1 hz1 ht hvm
      generalize H1 = H at hP hS ⊢
      exact W.iret (v := r_9) hx hb hr (fun t ht hW => ⟨⟨r_9, (), rfl, trivial, ⟨z54_7, z55_10, z56_11, z57_12, z58_13, z60_14, 0, z46_2, z61_8, z62_15, z63_16, ⟨by rw [ht]; exact hP, va_K.moved hW.alike hK, hD⟩, (Nat.le_trans hz46_2 (Nat.le_of_ble_eq_true rfl)), hz61_8, hz62_15, hz63_16⟩⟩, hS.F ht⟩) hS.2.2 dX9_spans_34
    · refine lv_if_ne (tgt := 24) hx hb dX9_spans_19 (by decide) (fun z => absurd z (by decide)) (fun _ => ?_)
      refine lv_iconst (v := (-1)) hx hb dX9_spans_22 (by decide) ?_
      exact W.iret (v := (-1)) hx hb hr (fun t ht hW => ⟨⟨(-1), (), rfl, trivial, ⟨q54, q55, q56, f57, q58, f60, 0, z46_2, x61, x62, x63, ⟨by rw [ht]; exact hP, va_K.moved hW.alike hK, hD⟩, (Nat.le_trans hz46_2 (Nat.le_of_ble_eq_true rfl)), hx61, hx62, hx63⟩⟩, hS.F ht⟩) hS.2.2 dX9_spans_23
  · refine lv_if_eq (tgt := 22) hx hb dX9_spans_10 (by decide) (fun _ => ?_) (fun z => absurd z (by decide))
    refine lv_iconst (v := (-1)) hx hb dX9_spans_22 (by decide) ?_
    exact W.iret (v := (-1)) hx hb hr (fun t ht hW => ⟨⟨(-1), (), rfl, trivial, ⟨q54, q55, q56, f57, q58, f60, 0, z46_2, x61, x62, x63, ⟨by rw [ht]; exact hP, va_K.moved hW.alike hK, hD⟩, (Nat.le_trans hz46_2 (Nat.le_of_ble_eq_true rfl)), hx61, hx62, hx63⟩⟩, hS.F ht⟩) hS.2.2 dX9_spans_23
theorem dX9_tells_0 : decode cX9_tells 0 = .ok (.aload_n 0, 1) := by decide +kernel
theorem dX9_tells_1 : decode cX9_tells 1 = .ok (.iconst 0, 1) := by decide +kernel
theorem dX9_tells_2 : decode cX9_tells 2 = .ok (.putfield 142, 3) := by decide +kernel
theorem dX9_tells_5 : decode cX9_tells 5 = .ok (.aload_n 0, 1) := by decide +kernel
theorem dX9_tells_6 : decode cX9_tells 6 = .ok (.getfield 46, 3) := by decide +kernel
theorem dX9_tells_9 : decode cX9_tells 9 = .ok (.aload_n 0, 1) := by decide +kernel
theorem dX9_tells_10 : decode cX9_tells 10 = .ok (.getfield 258, 3) := by decide +kernel
theorem dX9_tells_13 : decode cX9_tells 13 = .ok (.iaload, 1) := by decide +kernel
theorem dX9_tells_14 : decode cX9_tells 14 = .ok (.ifCond .eq 13, 3) := by decide +kernel
theorem dX9_tells_17 : decode cX9_tells 17 = .ok (.iload 6, 2) := by decide +kernel
theorem dX9_tells_19 : decode cX9_tells 19 = .ok (.iconst 0, 1) := by decide +kernel
theorem dX9_tells_20 : decode cX9_tells 20 = .ok (.iconst 3, 1) := by decide +kernel
theorem dX9_tells_21 : decode cX9_tells 21 = .ok (.invokestatic 152, 3) := by decide +kernel
theorem dX9_tells_24 : decode cX9_tells 24 = .ok (.ifCond .ne 5, 3) := by decide +kernel
theorem dX9_tells_27 : decode cX9_tells 27 = .ok (.iconst (-1), 1) := by decide +kernel
theorem dX9_tells_28 : decode cX9_tells 28 = .ok (.ireturn, 1) := by decide +kernel
theorem dX9_tells_29 : decode cX9_tells 29 = .ok (.aload_n 0, 1) := by decide +kernel
theorem dX9_tells_30 : decode cX9_tells 30 = .ok (.iconst 0, 1) := by decide +kernel
theorem dX9_tells_31 : decode cX9_tells 31 = .ok (.putfield 429, 3) := by decide +kernel
theorem dX9_tells_34 : decode cX9_tells 34 = .ok (.aload_n 0, 1) := by decide +kernel
theorem dX9_tells_35 : decode cX9_tells 35 = .ok (.getfield 52, 3) := by decide +kernel
theorem dX9_tells_38 : decode cX9_tells 38 = .ok (.aload_n 0, 1) := by decide +kernel
theorem dX9_tells_39 : decode cX9_tells 39 = .ok (.getfield 258, 3) := by decide +kernel
theorem dX9_tells_42 : decode cX9_tells 42 = .ok (.iaload, 1) := by decide +kernel
theorem dX9_tells_43 : decode cX9_tells 43 = .ok (.istore 7, 2) := by decide +kernel
theorem dX9_tells_45 : decode cX9_tells 45 = .ok (.iconst 0, 1) := by decide +kernel
theorem dX9_tells_46 : decode cX9_tells 46 = .ok (.istore 8, 2) := by decide +kernel
theorem dX9_tells_48 : decode cX9_tells 48 = .ok (.iload 8, 2) := by decide +kernel
theorem dX9_tells_50 : decode cX9_tells 50 = .ok (.iconst 5, 1) := by decide +kernel
theorem dX9_tells_51 : decode cX9_tells 51 = .ok (.if_icmp .ge 113, 3) := by decide +kernel
theorem dX9_tells_54 : decode cX9_tells 54 = .ok (.iload 8, 2) := by decide +kernel
theorem dX9_tells_56 : decode cX9_tells 56 = .ok (.ifCond .ne 7, 3) := by decide +kernel
theorem dX9_tells_59 : decode cX9_tells 59 = .ok (.iload_n 1, 1) := by decide +kernel
theorem dX9_tells_60 : decode cX9_tells 60 = .ok (.goto 36, 3) := by decide +kernel
theorem dX9_tells_63 : decode cX9_tells 63 = .ok (.iload 8, 2) := by decide +kernel
theorem dX9_tells_65 : decode cX9_tells 65 = .ok (.iconst 1, 1) := by decide +kernel
theorem dX9_tells_66 : decode cX9_tells 66 = .ok (.if_icmp .ne 7, 3) := by decide +kernel
theorem dX9_tells_69 : decode cX9_tells 69 = .ok (.iload_n 2, 1) := by decide +kernel
theorem dX9_tells_70 : decode cX9_tells 70 = .ok (.goto 26, 3) := by decide +kernel
theorem dX9_tells_73 : decode cX9_tells 73 = .ok (.iload 8, 2) := by decide +kernel
theorem dX9_tells_75 : decode cX9_tells 75 = .ok (.iconst 2, 1) := by decide +kernel
theorem dX9_tells_76 : decode cX9_tells 76 = .ok (.if_icmp .ne 7, 3) := by decide +kernel
theorem dX9_tells_79 : decode cX9_tells 79 = .ok (.iload_n 3, 1) := by decide +kernel
theorem dX9_tells_80 : decode cX9_tells 80 = .ok (.goto 16, 3) := by decide +kernel
theorem dX9_tells_83 : decode cX9_tells 83 = .ok (.iload 8, 2) := by decide +kernel
theorem dX9_tells_85 : decode cX9_tells 85 = .ok (.iconst 3, 1) := by decide +kernel
theorem dX9_tells_86 : decode cX9_tells 86 = .ok (.if_icmp .ne 8, 3) := by decide +kernel
theorem dX9_tells_89 : decode cX9_tells 89 = .ok (.iload 4, 2) := by decide +kernel
theorem dX9_tells_91 : decode cX9_tells 91 = .ok (.goto 5, 3) := by decide +kernel
theorem dX9_tells_94 : decode cX9_tells 94 = .ok (.iload 5, 2) := by decide +kernel
theorem dX9_tells_96 : decode cX9_tells 96 = .ok (.istore 9, 2) := by decide +kernel
theorem dX9_tells_98 : decode cX9_tells 98 = .ok (.iload 9, 2) := by decide +kernel
theorem dX9_tells_100 : decode cX9_tells 100 = .ok (.iconst (-1), 1) := by decide +kernel
theorem dX9_tells_101 : decode cX9_tells 101 = .ok (.if_icmp .ne 6, 3) := by decide +kernel
theorem dX9_tells_104 : decode cX9_tells 104 = .ok (.goto 60, 3) := by decide +kernel
theorem dX9_tells_107 : decode cX9_tells 107 = .ok (.aload_n 0, 1) := by decide +kernel
theorem dX9_tells_108 : decode cX9_tells 108 = .ok (.iload 9, 2) := by decide +kernel
theorem dX9_tells_110 : decode cX9_tells 110 = .ok (.invokevirtual 283, 3) := by decide +kernel
theorem dX9_tells_113 : decode cX9_tells 113 = .ok (.ifCond .eq 14, 3) := by decide +kernel
theorem dX9_tells_116 : decode cX9_tells 116 = .ok (.aload_n 0, 1) := by decide +kernel
theorem dX9_tells_117 : decode cX9_tells 117 = .ok (.iload 9, 2) := by decide +kernel
theorem dX9_tells_119 : decode cX9_tells 119 = .ok (.invokevirtual 289, 3) := by decide +kernel
theorem dX9_tells_122 : decode cX9_tells 122 = .ok (.iload 7, 2) := by decide +kernel
theorem dX9_tells_124 : decode cX9_tells 124 = .ok (.if_icmp .eq 5, 3) := by decide +kernel
theorem dX9_tells_127 : decode cX9_tells 127 = .ok (.iconst (-1), 1) := by decide +kernel
theorem dX9_tells_128 : decode cX9_tells 128 = .ok (.ireturn, 1) := by decide +kernel
theorem dX9_tells_129 : decode cX9_tells 129 = .ok (.aload_n 0, 1) := by decide +kernel
theorem dX9_tells_130 : decode cX9_tells 130 = .ok (.getfield 118, 3) := by decide +kernel
theorem dX9_tells_133 : decode cX9_tells 133 = .ok (.aload_n 0, 1) := by decide +kernel
theorem dX9_tells_134 : decode cX9_tells 134 = .ok (.getfield 429, 3) := by decide +kernel
theorem dX9_tells_137 : decode cX9_tells 137 = .ok (.iload 9, 2) := by decide +kernel
theorem dX9_tells_139 : decode cX9_tells 139 = .ok (.iastore, 1) := by decide +kernel
theorem dX9_tells_140 : decode cX9_tells 140 = .ok (.aload_n 0, 1) := by decide +kernel
theorem dX9_tells_141 : decode cX9_tells 141 = .ok (.dup, 1) := by decide +kernel
theorem dX9_tells_142 : decode cX9_tells 142 = .ok (.getfield 429, 3) := by decide +kernel
theorem dX9_tells_145 : decode cX9_tells 145 = .ok (.iconst 1, 1) := by decide +kernel
theorem dX9_tells_146 : decode cX9_tells 146 = .ok (.iadd, 1) := by decide +kernel
theorem dX9_tells_147 : decode cX9_tells 147 = .ok (.putfield 429, 3) := by decide +kernel
theorem dX9_tells_150 : decode cX9_tells 150 = .ok (.aload_n 0, 1) := by decide +kernel
theorem dX9_tells_151 : decode cX9_tells 151 = .ok (.iload 9, 2) := by decide +kernel
theorem dX9_tells_153 : decode cX9_tells 153 = .ok (.invokevirtual 292, 3) := by decide +kernel
theorem dX9_tells_156 : decode cX9_tells 156 = .ok (.istore 7, 2) := by decide +kernel
theorem dX9_tells_158 : decode cX9_tells 158 = .ok (.iinc 8 1, 3) := by decide +kernel
theorem dX9_tells_161 : decode cX9_tells 161 = .ok (.goto (-113), 3) := by decide +kernel
theorem dX9_tells_164 : decode cX9_tells 164 = .ok (.aload_n 0, 1) := by decide +kernel
theorem dX9_tells_165 : decode cX9_tells 165 = .ok (.iload 6, 2) := by decide +kernel
theorem dX9_tells_167 : decode cX9_tells 167 = .ok (.invokevirtual 463, 3) := by decide +kernel
theorem dX9_tells_170 : decode cX9_tells 170 = .ok (.ireturn, 1) := by decide +kernel
abbrev vs_M_tells : List Cond := .code yX9_tells cX9_tells 10 (some .int) :: VM
theorem g_M_tells_X9_in : GoodIn vs_M_tells (va_wsS RX9 152 yX9_in vs_X9_in) := gm_0 (fun w h => by
  rcases List.mem_cons.mp h with rfl | h
  · exact vm_153
  rcases List.mem_cons.mp h with rfl | h
  · exact vm_154
  rcases List.mem_cons.mp h with rfl | h
  · exact vm_12
  rcases List.mem_cons.mp h with rfl | h
  · exact vm_14
  exact absurd h (List.not_mem_nil))
theorem g_M_tells_M_spanned : GoodIn vs_M_tells (wsV RX9 463 RX9 yX9_spanned vs_M_spanned) := gm_V vm_372 vm_373 vm_374 vm_12 vm_369
theorem g_M_tells_M_isEdge : GoodIn vs_M_tells (wsV RX9 283 RX9 yX9_isEdge vs_M_isEdge) := gm_V vm_158 vm_159 vm_160 vm_12 vm_156
theorem g_M_tells_M_outOf : GoodIn vs_M_tells (wsV RX9 289 RX9 yX9_outOf vs_M_outOf) := gm_V vm_66 vm_67 vm_68 vm_12 vm_27
theorem g_M_tells_M_into : GoodIn vs_M_tells (wsV RX9 292 RX9 yX9_into vs_M_into) := gm_V vm_63 vm_64 vm_65 vm_12 vm_29
set_option maxHeartbeats 4000000 in
set_option maxRecDepth 100000 in
theorem c_M_tells (l : Launch) (dC : Nat → ClassId) (dI : Nat → Nat → Nat) (sz : Nat) (ad : Nat → Nat) (ck : Nat → ClassId) (x0 : Int32) (x16 : Nat) (x18 : Nat) (x19 : Nat) (x20 : Int32) (x21 : Nat) (x22 : Nat) (x23 : Int32) (x24 : Int32) (x25 : Int32) (x26 : Nat) (x27 : Int32) (x28 : Nat) (x29 : Nat) (x30 : Nat) (x33 : Nat) (x45 : Int32) (x46 : Nat) (x52 : Nat) (x53 : Nat) (x61 : Nat) (x62 : Nat) (x63 : Nat) (x65 : Nat) (x66 : Int32) (f1 : Nat → Int32) (f2 : Nat → Int32) (f3 : Nat → Int32) (q4 : Nat → Nat) (q5 : Nat → Nat) (q6 : Nat → Nat) (q7 : Nat → Nat) (f8 : Nat → Int32) (q9 : Nat → Nat) (q10 : Nat → Nat) (f11 : Nat → Int32) (m12_0 m12_1 : Nat) (m13_0 m13_1 : Nat) (m14_0 m14_1 : Nat) (m15_0 m15_1 : Nat) (f17 : Nat → Int32) (q31 : Nat → Nat) (f32 : Nat → Int32) (f34 : Nat → Int32) (f35 : Nat → Int32) (f36 : Nat → Int32) (f37 : Nat → Int32) (q38 : Nat → Nat) (f39 : Nat → Int32) (f40 : Nat → Int32) (f41 : Nat → Int32) (m42_0 m42_1 : Nat) (f43 : Nat → Int32) (f44 : Nat → Int32) (f47 : Nat → Int32) (f48 : Nat → Int32) (f49 : Nat → Int32) (f50 : Nat → Int32) (f51 : Nat → Int32) (q54 : Nat → Nat) (q55 : Nat → Nat) (q56 : Nat → Nat) (f57 : Nat → Int32) (q58 : Nat → Nat) (f59 : Nat → Int32) (f60 : Nat → Int32) (f64 : Nat → Int32) (p0 : Int32) (p1 : Int32) (p2 : Int32) (p3 : Int32) (p4 : Int32) (p5 : Int32) (hx16 : x16 ≤ 1) (hx18 : x18 ≤ 900) (hx19 : x19 ≤ 900) (hx21 : x21 ≤ 900) (hx22 : x22 ≤ 4) (hx26 : x26 ≤ 6) (hx28 : x28 ≤ 1) (hx29 : x29 ≤ 1) (hx30 : x30 ≤ 1) (hx33 : x33 ≤ 20) (hx46 : x46 ≤ 5) (hx52 : x52 ≤ 2400) (hx53 : x53 ≤ 119) (hx61 : x61 ≤ 119) (hx62 : x62 ≤ 2000) (hx63 : x63 ≤ 1) (hx65 : x65 ≤ 7) (hm12_0 : m12_0 ≤ 3) (hm12_1 : m12_1 ≤ 3) (hm13_0 : m13_0 ≤ 8) (hm13_1 : m13_1 ≤ 8) (hm14_0 : m14_0 ≤ 14) (hm14_1 : m14_1 ≤ 14) (hm15_0 : m15_0 ≤ 8) (hm15_1 : m15_1 ≤ 8) (hm42_0 : m42_0 ≤ 120) (hm42_1 : m42_1 ≤ 400) (hbg : (x16 = 0 ∧ (m13_0 = 0 ∨ 1 ≤ m15_0)) ∨ (x16 = 1 ∧ (m13_1 = 0 ∨ 1 ≤ m15_1))) : Met l yX9_tells vs_M_tells ({ frames := 6, cells := 0, slots := 0, locals := 138 }) (va_Pc [.ref (ad 0), .int p0, .int p1, .int p2, .int p3, .int p4, .int p5] (pu_B (dC, dI) (mo_w ad ck x0 (nI x16) (nI x18) (nI x19) x20 (nI x21) (nI x22) x23 x24 x25 (nI x26) x27 (nI x28) (nI x29) (nI x30) (nI x33) x45 (nI x46) (nI x52) (nI x53) (nI x61) (nI x62) (nI x63) (nI x65) x66 f1 f2 f3 (bN 3 q4) (bN 7 q5) (bN 7 q6) (bN 4 q7) f8 (bN 2 q9) (bH q10) f11 (b2 m12_0 m12_1) (b2 m13_0 m13_1) (b2 m14_0 m14_1) (b2m m15_0 m15_1) f17 (bA 159 q31) f32 f34 f35 f36 f37 (bN 7 q38) f39 f40 f41 (b2 m42_0 m42_1) f43 f44 f47 f48 f49 f50 f51 (bN 13 q54) (bN 120 q55) (bN 120 q56) f57 (bN 120 q58) f59 f60 f64) (mo_t ck) sz)) (va_Qi (fun (r : Int32) (_ : Unit) => True) (fun _ t => ∃ (z54 : Nat → Nat) (z55 : Nat → Nat) (z56 : Nat → Nat) (z57 : Nat → Int32) (z58 : Nat → Nat) (z60 : Nat → Int32) (z0 : Int32) (z61 : Nat) (z62 : Nat) (z63 : Nat), pu_E (dC, dI) (mo_w ad ck z0 (nI x16) (nI x18) (nI x19) x20 (nI x21) (nI x22) x23 x24 x25 (nI x26) x27 (nI x28) (nI x29) (nI x30) (nI x33) x45 (nI x46) (nI x52) (nI x53) (nI z61) (nI z62) (nI z63) (nI x65) x66 f1 f2 f3 (bN 3 q4) (bN 7 q5) (bN 7 q6) (bN 4 q7) f8 (bN 2 q9) (bH q10) f11 (b2 m12_0 m12_1) (b2 m13_0 m13_1) (b2 m14_0 m14_1) (b2m m15_0 m15_1) f17 (bA 159 q31) f32 f34 f35 f36 f37 (bN 7 q38) f39 f40 f41 (b2 m42_0 m42_1) f43 f44 f47 f48 f49 f50 f51 (bN 13 z54) (bN 120 z55) (bN 120 z56) z57 (bN 120 z58) f59 z60 f64) (mo_t ck) (va_A ((mo_w ad ck x0 (nI x16) (nI x18) (nI x19) x20 (nI x21) (nI x22) x23 x24 x25 (nI x26) x27 (nI x28) (nI x29) (nI x30) (nI x33) x45 (nI x46) (nI x52) (nI x53) (nI x61) (nI x62) (nI x63) (nI x65) x66 f1 f2 f3 (bN 3 q4) (bN 7 q5) (bN 7 q6) (bN 4 q7) f8 (bN 2 q9) (bH q10) f11 (b2 m12_0 m12_1) (b2 m13_0 m13_1) (b2 m14_0 m14_1) (b2m m15_0 m15_1) f17 (bA 159 q31) f32 f34 f35 f36 f37 (bN 7 q38) f39 f40 f41 (b2 m42_0 m42_1) f43 f44 f47 f48 f49 f50 f51 (bN 13 q54) (bN 120 q55) (bN 120 q56) f57 (bN 120 q58) f59 f60 f64)) sz) t ∧ (z61 ≤ 119) ∧ (z62 ≤ 2000) ∧ (z63 ≤ 1)) (va_A ((mo_w ad ck x0 (nI x16) (nI x18) (nI x19) x20 (nI x21) (nI x22) x23 x24 x25 (nI x26) x27 (nI x28) (nI x29) (nI x30) (nI x33) x45 (nI x46) (nI x52) (nI x53) (nI x61) (nI x62) (nI x63) (nI x65) x66 f1 f2 f3 (bN 3 q4) (bN 7 q5) (bN 7 q6) (bN 4 q7) f8 (bN 2 q9) (bH q10) f11 (b2 m12_0 m12_1) (b2 m13_0 m13_1) (b2 m14_0 m14_1) (b2m m15_0 m15_1) f17 (bA 159 q31) f32 f34 f35 f36 f37 (bN 7 q38) f39 f40 f41 (b2 m42_0 m42_1) f43 f44 f47 f48 f49 f50 f51 (bN 13 q54) (bN 120 q55) (bN 120 q56) f57 (bN 120 q58) f59 f60 f64)) sz)) 0 0 (va_A ((mo_w ad ck x0 (nI x16) (nI x18) (nI x19) x20 (nI x21) (nI x22) x23 x24 x25 (nI x26) x27 (nI x28) (nI x29) (nI x30) (nI x33) x45 (nI x46) (nI x52) (nI x53) (nI x61) (nI x62) (nI x63) (nI x65) x66 f1 f2 f3 (bN 3 q4) (bN 7 q5) (bN 7 q6) (bN 4 q7) f8 (bN 2 q9) (bH q10) f11 (b2 m12_0 m12_1) (b2 m13_0 m13_1) (b2 m14_0 m14_1) (b2m m15_0 m15_1) f17 (bA 159 q31) f32 f34 f35 f36 f37 (bN 7 q38) f39 f40 f41 (b2 m42_0 m42_1) f43 f44 f47 f48 f49 f50 f51 (bN 13 q54) (bN 120 q55) (bN 120 q56) f57 (bN 120 q58) f59 f60 f64)) sz) := by
  refine Met.ofW (cc := cX9_tells) (maxL := 10) (ret := (some .int)) (by decide) rfl ?_
  intro p e s m args below meth c s₁ B hml hv
  obtain ⟨rfl, rfl, hP, hK, hD0⟩ := hv
  have hx := B.exec
  have hb := B.bytes
  have hr := B.returns
  have hts := atoms_spec (ws := vs_M_tells) B.pre
  have v_1 := hts (.fieldLink RX9 142 "ClockReachModel" "thrown" "I") (List.mem_cons_of_mem _ vm_24)
  have v_2 := hts (.fieldLink RX9 46 "ClockReachModel" "placeMany" "[I") (List.mem_cons_of_mem _ vm_85)
  have v_3 := hts (.fieldLink RX9 258 "ClockReachModel" "bank" "I") (List.mem_cons_of_mem _ vm_22)
  have v_8 := hts (.fieldLink RX9 429 "ClockReachModel" "pathMany" "I") (List.mem_cons_of_mem _ vm_326)
  have v_9 := hts (.fieldLink RX9 52 "ClockReachModel" "begins" "[I") (List.mem_cons_of_mem _ vm_133)
  have v_18 := hts (.fieldLink RX9 118 "ClockReachModel" "path" "[I") (List.mem_cons_of_mem _ vm_327)
  have hown : s.vm.findClass RX9 = some m.cls := findClass_of_methodNamed B.named
  have hlocks := B.notSynchronized
  have hiX9 : ∀ w ∈ wsX90, w ∈ vs_M_tells := fun _ h => List.mem_cons_of_mem _ (List.mem_append_right _ h)
  have hD := hD0.self (sz := s.heap.size)
  generalize hAe : va_A ((mo_w ad ck x0 (nI x16) (nI x18) (nI x19) x20 (nI x21) (nI x22) x23 x24 x25 (nI x26) x27 (nI x28) (nI x29) (nI x30) (nI x33) x45 (nI x46) (nI x52) (nI x53) (nI x61) (nI x62) (nI x63) (nI x65) x66 f1 f2 f3 (bN 3 q4) (bN 7 q5) (bN 7 q6) (bN 4 q7) f8 (bN 2 q9) (bH q10) f11 (b2 m12_0 m12_1) (b2 m13_0 m13_1) (b2 m14_0 m14_1) (b2m m15_0 m15_1) f17 (bA 159 q31) f32 f34 f35 f36 f37 (bN 7 q38) f39 f40 f41 (b2 m42_0 m42_1) f43 f44 f47 f48 f49 f50 f51 (bN 13 q54) (bN 120 q55) (bN 120 q56) f57 (bN 120 q58) f59 f60 f64)) s.heap.size = A at hD ⊢
  have hA : ∀ q : Nat, s.heap.size ≤ q → A q := fun q h => by rw [← hAe]; exact Or.inr h
  have hS : va_S A s.heap s.heap [] := va_S.rf
  have hl := lv_entry ([.ref (ad 0), .int p0, .int p1, .int p2, .int p3, .int p4, .int p5]) (n := 10) (Nat.le_of_ble_eq_true rfl)
  rw [lg_entry_eq]
  generalize (lg_sl ([.ref (ad 0), .int p0, .int p1, .int p2, .int p3, .int p4, .int p5]) ++ List.replicate (10 - (lg_sl ([.ref (ad 0), .int p0, .int p1, .int p2, .int p3, .int p4, .int p5])).length) Slot.unset).toArray = ls at hl ⊢
  have hl : lv_has ls 10 [(0, .ref (ad 0)), (1, .int p0), (2, .int p1), (3, .int p2), (4, .int p3), (5, .int p4), (6, .int p5)] := hl
  refine lv_aload_n hx hb dX9_tells_0 rfl (lv_at hl 0 rfl) ?_
  refine lv_iconst (v := 0) hx hb dX9_tells_1 (by decide) ?_
  refine va_put (D := (dC, dI)) (ci := 9) (v := .int 0) (ty := .int) (C := RX9) (T := TX9) (N := 67) hx hb hts hiX9 tyX9 tyX9_ok nmX9 hown hK hP hD hS 0 rfl rfl 0 (by decide) v_1 (fun _ h9 => h9) rfl (by decide +kernel) rfl rfl (Nat.le_of_ble_eq_true rfl) dX9_tells_2 (fun H locs hP hD hS => ?_)
  have hP : va_P (dC, dI) vwCl (mo_w ad ck 0 (nI x16) (nI x18) (nI x19) x20 (nI x21) (nI x22) x23 x24 x25 (nI x26) x27 (nI x28) (nI x29) (nI x30) (nI x33) x45 (nI x46) (nI x52) (nI x53) (nI x61) (nI x62) (nI x63) (nI x65) x66 f1 f2 f3 (bN 3 q4) (bN 7 q5) (bN 7 q6) (bN 4 q7) f8 (bN 2 q9) (bH q10) f11 (b2 m12_0 m12_1) (b2 m13_0 m13_1) (b2 m14_0 m14_1) (b2m m15_0 m15_1) f17 (bA 159 q31) f32 f34 f35 f36 f37 (bN 7 q38) f39 f40 f41 (b2 m42_0 m42_1) f43 f44 f47 f48 f49 f50 f51 (bN 13 q54) (bN 120 q55) (bN 120 q56) f57 (bN 120 q58) f59 f60 f64) H := hP
  have hD : va_D A (mo_w ad ck 0 (nI x16) (nI x18) (nI x19) x20 (nI x21) (nI x22) x23 x24 x25 (nI x26) x27 (nI x28) (nI x29) (nI x30) (nI x33) x45 (nI x46) (nI x52) (nI x53) (nI x61) (nI x62) (nI x63) (nI x65) x66 f1 f2 f3 (bN 3 q4) (bN 7 q5) (bN 7 q6) (bN 4 q7) f8 (bN 2 q9) (bH q10) f11 (b2 m12_0 m12_1) (b2 m13_0 m13_1) (b2 m14_0 m14_1) (b2m m15_0 m15_1) f17 (bA 159 q31) f32 f34 f35 f36 f37 (bN 7 q38) f39 f40 f41 (b2 m42_0 m42_1) f43 f44 f47 f48 f49 f50 f51 (bN 13 q54) (bN 120 q55) (bN 120 q56) f57 (bN 120 q58) f59 f60 f64) := hD
  refine lv_aload_n hx hb dX9_tells_5 rfl (lv_at hl 0 rfl) ?_
  refine va_get (D := (dC, dI)) (ci := 9) (v := .ref (ad 13)) (C := RX9) (T := TX9) (N := 67) hx hb hts hiX9 hown hK hP 0 rfl rfl 13 (by decide) v_2 (fun _ h9 => h9) rfl dX9_tells_6 ?_
  refine lv_aload_n hx hb dX9_tells_9 rfl (lv_at hl 0 rfl) ?_
  refine va_get (D := (dC, dI)) (ci := 9) (v := .int (nI x16)) (C := RX9) (T := TX9) (N := 67) hx hb hts hiX9 hown hK hP 0 rfl rfl 16 (by decide) v_3 (fun _ h9 => h9) rfl dX9_tells_10 ?_
  refine va_iald hx hb hK hP 13 12 rfl rfl (vp_in_nI (n := x16) (Nat.lt_of_le_of_lt hx16 (Nat.le_of_ble_eq_true rfl)) (Nat.le_of_ble_eq_true rfl)) dX9_tells_13 ?_
  refine lv_topi (fun y_1 ey_1 => ?_)
  obtain ⟨u_2, hu_2, fu_2⟩ := b2_get (a := m13_0) (b := m13_1) (i := x16) (by omega)
  have qy_1 := ey_1.trans fu_2
  obtain rfl : y_1 = nI u_2 := qy_1
  refine lv_if_eq (tgt := 27) hx hb dX9_tells_14 (by decide) (fun c_3 => ?_) (fun c_3 => ?_)
  · have c_3 : u_2 = 0 := (nI_eq (a := u_2) (b := 0) (by omega) (Nat.le_of_ble_eq_true rfl)).mp c_3
    refine lv_iconst (v := (-1)) hx hb dX9_tells_27 (by decide) ?_
    exact W.iret (v := (-1)) hx hb hr (fun t ht hW => ⟨⟨(-1), (), rfl, trivial, ⟨q54, q55, q56, f57, q58, f60, 0, x61, x62, x63, ⟨by rw [ht]; exact hP, va_K.moved hW.alike hK, hD⟩, hx61, hx62, hx63⟩⟩, hS.F ht⟩) hS.2.2 dX9_tells_28
  · have c_3 : ¬ u_2 = 0 := fun z => c_3 ((nI_eq (a := u_2) (b := 0) (by omega) (Nat.le_of_ble_eq_true rfl)).mpr z)
    refine lv_iload hx hb dX9_tells_17 (lv_at hl 6 rfl) ?_
    refine lv_iconst (v := 0) hx hb dX9_tells_19 (by decide) ?_
    refine lv_iconst (v := 3) hx hb dX9_tells_20 (by decide) ?_
    refine va_calli (va_runS (As := [.int p5, .int 0, .int 3]) (rest := []) ⟨hx, hb, hml, hown, hts⟩ (c_X9_in l dC dI _ p5 0 3) (va_cwS 3 hts g_M_tells_X9_in rfl rfl rfl (by decide +kernel) ⟨Nat.le_of_ble_eq_true rfl, Nat.le_of_ble_eq_true rfl⟩) ⟨pu_bl, pu_in (hP.sub [] rfl) (hK.sub [] rfl) (hD.sub [] (by decide) rfl)⟩ rfl rfl hl.1 rfl (lv_room (Nat.le_of_ble_eq_true rfl)) dX9_tells_21 ⟨Nat.le_of_ble_eq_true rfl, Nat.le_of_ble_eq_true rfl⟩) hS (fun q _ h => pu_fr hS hA q h) (pu_fr hS hA) (fun r_4 u t H1 locs ht hvm hw hB hz1 hk1 hS => ?_)
    have hP := pu_keep hP hk1
    clear hk1 hz1 ht hvm
    generalize H1 = H at hP hS ⊢
    rcases hw with ⟨rfl, hi1, hi2⟩ | ⟨rfl, hi3⟩
    · obtain ⟨n_5, hn_5, rfl⟩ := pu_in0 (n := 3) (by omega) hi1 hi2
      refine lv_if_ne (tgt := 29) hx hb dX9_tells_24 (by decide) (fun _ => ?_) (fun z => absurd z (by decide))
      refine lv_aload_n hx hb dX9_tells_29 rfl (lv_at hl 0 rfl) ?_
      refine lv_iconst (v := 0) hx hb dX9_tells_30 (by decide) ?_
      refine va_put (D := (dC, dI)) (ci := 9) (v := .int 0) (ty := .int) (C := RX9) (T := TX9) (N := 67) hx hb hts hiX9 tyX9 tyX9_ok nmX9 hown hK hP hD hS 0 rfl rfl 61 (by decide) v_8 (fun _ h9 => h9) rfl (by decide +kernel) rfl rfl (Nat.le_of_ble_eq_true rfl) dX9_tells_31 (fun H locs hP hD hS => ?_)
      have hP : va_P (dC, dI) vwCl (mo_w ad ck 0 (nI x16) (nI x18) (nI x19) x20 (nI x21) (nI x22) x23 x24 x25 (nI x26) x27 (nI x28) (nI x29) (nI x30) (nI x33) x45 (nI x46) (nI x52) (nI x53) 0 (nI x62) (nI x63) (nI x65) x66 f1 f2 f3 (bN 3 q4) (bN 7 q5) (bN 7 q6) (bN 4 q7) f8 (bN 2 q9) (bH q10) f11 (b2 m12_0 m12_1) (b2 m13_0 m13_1) (b2 m14_0 m14_1) (b2m m15_0 m15_1) f17 (bA 159 q31) f32 f34 f35 f36 f37 (bN 7 q38) f39 f40 f41 (b2 m42_0 m42_1) f43 f44 f47 f48 f49 f50 f51 (bN 13 q54) (bN 120 q55) (bN 120 q56) f57 (bN 120 q58) f59 f60 f64) H := hP
      have hD : va_D A (mo_w ad ck 0 (nI x16) (nI x18) (nI x19) x20 (nI x21) (nI x22) x23 x24 x25 (nI x26) x27 (nI x28) (nI x29) (nI x30) (nI x33) x45 (nI x46) (nI x52) (nI x53) 0 (nI x62) (nI x63) (nI x65) x66 f1 f2 f3 (bN 3 q4) (bN 7 q5) (bN 7 q6) (bN 4 q7) f8 (bN 2 q9) (bH q10) f11 (b2 m12_0 m12_1) (b2 m13_0 m13_1) (b2 m14_0 m14_1) (b2m m15_0 m15_1) f17 (bA 159 q31) f32 f34 f35 f36 f37 (bN 7 q38) f39 f40 f41 (b2 m42_0 m42_1) f43 f44 f47 f48 f49 f50 f51 (bN 13 q54) (bN 120 q55) (bN 120 q56) f57 (bN 120 q58) f59 f60 f64) := hD
      refine lv_aload_n hx hb dX9_tells_34 rfl (lv_at hl 0 rfl) ?_
      refine va_get (D := (dC, dI)) (ci := 9) (v := .ref (ad 15)) (C := RX9) (T := TX9) (N := 67) hx hb hts hiX9 hown hK hP 0 rfl rfl 15 (by decide) v_9 (fun _ h9 => h9) rfl dX9_tells_35 ?_
      refine lv_aload_n hx hb dX9_tells_38 rfl (lv_at hl 0 rfl) ?_
      refine va_get (D := (dC, dI)) (ci := 9) (v := .int (nI x16)) (C := RX9) (T := TX9) (N := 67) hx hb hts hiX9 hown hK hP 0 rfl rfl 16 (by decide) v_3 (fun _ h9 => h9) rfl dX9_tells_39 ?_
      refine va_iald hx hb hK hP 15 14 rfl rfl (vp_in_nI (n := x16) (Nat.lt_of_le_of_lt hx16 (Nat.le_of_ble_eq_true rfl)) (Nat.le_of_ble_eq_true rfl)) dX9_tells_42 ?_
      refine lv_topi (fun y_6 ey_6 => ?_)
      obtain ⟨u_7, hu_7, fu_7⟩ := b2m_get (a := m15_0) (b := m15_1) (i := x16) (by omega)
      have qy_6 := ey_6.trans fu_7
      rcases mI_get u_7 with ⟨zy_6, wy_6⟩ | ⟨vy_6, zy_6, wy_6⟩
      · exfalso
        omega
      · obtain rfl : y_6 = nI vy_6 := qy_6.trans wy_6
        refine lv_istore (lv' := [(7, .int (nI vy_6)), (0, .ref (ad 0)), (1, .int p0), (2, .int p1), (3, .int p2), (4, .int p3), (5, .int p4), (6, .int (nI n_5))]) hx hb dX9_tells_43 hl (by decide) rfl (fun ls hl => ?_)
        refine lv_iconst (v := 0) hx hb dX9_tells_45 (by decide) ?_
        refine lv_istore (lv' := [(8, .int 0), (7, .int (nI vy_6)), (0, .ref (ad 0)), (1, .int p0), (2, .int p1), (3, .int p2), (4, .int p3), (5, .int p4), (6, .int (nI n_5))]) hx hb dX9_tells_46 hl (by decide) rfl (fun ls hl => ?_)
        refine pu_while (fun nn H locs ls => ∃ (g_14 : Nat → Nat) (g_15 : Nat) (g_16 : Int32) (g_17 : Nat) (g_18 : Nat), nn = 5 - g_18 ∧ g_15 ≤ 5 ∧ g_17 ≤ 7 ∧ g_18 ≤ 5 ∧ g_15 ≤ g_18 ∧ va_P (dC, dI) vwCl (mo_w ad ck 0 (nI x16) (nI x18) (nI x19) x20 (nI x21) (nI x22) x23 x24 x25 (nI x26) x27 (nI x28) (nI x29) (nI x30) (nI x33) x45 (nI x46) (nI x52) (nI x53) (nI g_15) (nI x62) (nI x63) (nI x65) x66 f1 f2 f3 (bN 3 q4) (bN 7 q5) (bN 7 q6) (bN 4 q7) f8 (bN 2 q9) (bH q10) f11 (b2 m12_0 m12_1) (b2 m13_0 m13_1) (b2 m14_0 m14_1) (b2m m15_0 m15_1) f17 (bA 159 q31) f32 f34 f35 f36 f37 (bN 7 q38) f39 f40 f41 (b2 m42_0 m42_1) f43 f44 f47 f48 f49 f50 f51 (bN 13 g_14) (bN 120 q55) (bN 120 q56) f57 (bN 120 q58) f59 f60 f64) H ∧ va_D A (mo_w ad ck 0 (nI x16) (nI x18) (nI x19) x20 (nI x21) (nI x22) x23 x24 x25 (nI x26) x27 (nI x28) (nI x29) (nI x30) (nI x33) x45 (nI x46) (nI x52) (nI x53) (nI g_15) (nI x62) (nI x63) (nI x65) x66 f1 f2 f3 (bN 3 q4) (bN 7 q5) (bN 7 q6) (bN 4 q7) f8 (bN 2 q9) (bH q10) f11 (b2 m12_0 m12_1) (b2 m13_0 m13_1) (b2 m14_0 m14_1) (b2m m15_0 m15_1) f17 (bA 159 q31) f32 f34 f35 f36 f37 (bN 7 q38) f39 f40 f41 (b2 m42_0 m42_1) f43 f44 f47 f48 f49 f50 f51 (bN 13 g_14) (bN 120 q55) (bN 120 q56) f57 (bN 120 q58) f59 f60 f64) ∧ va_S A s.heap H locs ∧ lv_has ls 10 [(0, .ref (ad 0)), (1, .int g_16), (2, .int p1), (3, .int p2), (4, .int p3), (5, .int p4), (6, .int (nI n_5)), (7, .int (nI g_17)), (8, .int (nI g_18))]) 48 ?_ _ _ _ _ ⟨q54, 0, p0, vy_6, 0, rfl, (Nat.le_of_ble_eq_true rfl), (by omega), (Nat.le_of_ble_eq_true rfl), by omega, hP, hD, hS, lv_sub hl [2, 3, 4, 5, 6, 7, 8, 1, 0] rfl⟩
        rintro nn ih_20 H locs ls ⟨g_14, g_15, g_16, g_17, g_18, rfl, hg_15, hg_17, hg_18, he_19, hP, hD, hS, hl⟩
        refine lv_iload hx hb dX9_tells_48 (lv_at hl 8 rfl) ?_
        refine lv_iconst (v := 5) hx hb dX9_tells_50 (by decide) ?_
        refine lv_icmp_ge (tgt := 164) hx hb dX9_tells_51 (by decide) (fun c_21 => ?_) (fun c_21 => ?_)
        · have c_21 : 5 ≤ g_18 := (nI_leI (a := 5) (b := g_18) (Nat.le_of_ble_eq_true rfl) (Nat.lt_of_le_of_lt hg_18 (Nat.le_of_ble_eq_true rfl))).mp c_21
          refine lv_aload_n hx hb dX9_tells_164 rfl (lv_at hl 0 rfl) ?_
          refine lv_iload hx hb dX9_tells_165 (lv_at hl 6 rfl) ?_
          have hFc := pu_free hD hS hA
          refine va_calli (va_runV (As := [.int (nI n_5)]) (rest := []) ⟨hx, hb, hml, hown, hts⟩ (c_M_spanned l dC dI _ ad ck 0 x16 x18 x19 x20 x21 x22 x23 x24 x25 x26 x27 x28 x29 x30 x33 x45 x46 x52 x53 g_15 x62 x63 x65 x66 f1 f2 f3 q4 q5 q6 q7 f8 q9 q10 f11 m12_0 m12_1 m13_0 m13_1 m14_0 m14_1 m15_0 m15_1 f17 q31 f32 f34 f35 f36 f37 q38 f39 f40 f41 m42_0 m42_1 f43 f44 f47 f48 f49 f50 f51 g_14 q55 q56 f57 q58 f59 f60 f64 (nI n_5) hx16 hx18 hx19 hx21 hx22 hx26 hx28 hx29 hx30 hx33 hx46 hx52 hx53 (Nat.le_trans hg_15 (Nat.le_of_ble_eq_true rfl)) hx62 hx63 hx65 hm12_0 hm12_1 hm13_0 hm13_1 hm14_0 hm14_1 hm15_0 hm15_1 hm42_0 hm42_1 (by first | assumption | omega)) (cwV 1 hts g_M_tells_M_spanned rfl rfl rfl (by decide +kernel) ⟨Nat.le_of_ble_eq_true rfl, Nat.le_of_ble_eq_true rfl⟩) ⟨pu_bl, va_recv hK hP (ci := 9) (q0 := 0) rfl rfl, pu_in hP hK hD⟩ rfl rfl hl.1 rfl (lv_room (Nat.le_of_ble_eq_true rfl)) dX9_tells_167 ⟨Nat.le_of_ble_eq_true rfl, Nat.le_of_ble_eq_true rfl⟩) hS (fun q _ h => hFc q h) hFc (fun r_22 u t H1 locs ht hvm hw hB hz1 hk1 hS => ?_)
          obtain ⟨z55_23, z56_24, z57_25, z58_26, z60_27, z62_28, z63_29, ⟨hP1, -, hD1⟩, hz62_28, hz63_29⟩ := hB
          rw [ht] at hP1
          have hP := hP1
          have hD := pu_all hFc hD1
          clear hP1 hD1 hFc
          clear hk1 hz1 ht hvm
          generalize H1 = H at hP hS ⊢
          exact W.iret (v := r_22) hx hb hr (fun t ht hW => ⟨⟨r_22, (), rfl, trivial, ⟨g_14, z55_23, z56_24, z57_25, z58_26, z60_27, 0, g_15, z62_28, z63_29, ⟨by rw [ht]; exact hP, va_K.moved hW.alike hK, hD⟩, (Nat.le_trans hg_15 (Nat.le_of_ble_eq_true rfl)), hz62_28, hz63_29⟩⟩, hS.F ht⟩) hS.2.2 dX9_tells_170
        · have c_21 : ¬ 5 ≤ g_18 := fun z => c_21 ((nI_leI (a := 5) (b := g_18) (Nat.le_of_ble_eq_true rfl) (Nat.lt_of_le_of_lt hg_18 (Nat.le_of_ble_eq_true rfl))).mpr z)
          refine lv_iload hx hb dX9_tells_54 (lv_at hl 8 rfl) ?_
          refine pu_join (fun H locs ls st => ∃ (g_30 : Int32), st = [.int g_30] ∧ g_15 ≤ g_18 ∧ va_P (dC, dI) vwCl (mo_w ad ck 0 (nI x16) (nI x18) (nI x19) x20 (nI x21) (nI x22) x23 x24 x25 (nI x26) x27 (nI x28) (nI x29) (nI x30) (nI x33) x45 (nI x46) (nI x52) (nI x53) (nI g_15) (nI x62) (nI x63) (nI x65) x66 f1 f2 f3 (bN 3 q4) (bN 7 q5) (bN 7 q6) (bN 4 q7) f8 (bN 2 q9) (bH q10) f11 (b2 m12_0 m12_1) (b2 m13_0 m13_1) (b2 m14_0 m14_1) (b2m m15_0 m15_1) f17 (bA 159 q31) f32 f34 f35 f36 f37 (bN 7 q38) f39 f40 f41 (b2 m42_0 m42_1) f43 f44 f47 f48 f49 f50 f51 (bN 13 g_14) (bN 120 q55) (bN 120 q56) f57 (bN 120 q58) f59 f60 f64) H ∧ va_D A (mo_w ad ck 0 (nI x16) (nI x18) (nI x19) x20 (nI x21) (nI x22) x23 x24 x25 (nI x26) x27 (nI x28) (nI x29) (nI x30) (nI x33) x45 (nI x46) (nI x52) (nI x53) (nI g_15) (nI x62) (nI x63) (nI x65) x66 f1 f2 f3 (bN 3 q4) (bN 7 q5) (bN 7 q6) (bN 4 q7) f8 (bN 2 q9) (bH q10) f11 (b2 m12_0 m12_1) (b2 m13_0 m13_1) (b2 m14_0 m14_1) (b2m m15_0 m15_1) f17 (bA 159 q31) f32 f34 f35 f36 f37 (bN 7 q38) f39 f40 f41 (b2 m42_0 m42_1) f43 f44 f47 f48 f49 f50 f51 (bN 13 g_14) (bN 120 q55) (bN 120 q56) f57 (bN 120 q58) f59 f60 f64) ∧ va_S A s.heap H locs ∧ lv_has ls 10 [(0, .ref (ad 0)), (1, .int g_16), (2, .int p1), (3, .int p2), (4, .int p3), (5, .int p4), (6, .int (nI n_5)), (7, .int (nI g_17)), (8, .int (nI g_18))]) 96 ?_ (fun j_32 => ?_)
          · rintro H locs ls st ⟨g_30, rfl, he_31, hP, hD, hS, hl⟩
            refine lv_istore (lv' := [(9, .int g_30), (0, .ref (ad 0)), (1, .int g_16), (2, .int p1), (3, .int p2), (4, .int p3), (5, .int p4), (6, .int (nI n_5)), (7, .int (nI g_17)), (8, .int (nI g_18))]) hx hb dX9_tells_96 hl (by decide) rfl (fun ls hl => ?_)
            refine lv_iload hx hb dX9_tells_98 (lv_at hl 0 rfl) ?_
            refine lv_iconst (v := (-1)) hx hb dX9_tells_100 (by decide) ?_
            refine lv_icmp_ne (tgt := 107) hx hb dX9_tells_101 (by decide) (fun c_33 => ?_) (fun c_33 => ?_)
            · refine lv_aload_n hx hb dX9_tells_107 rfl (lv_at hl 1 rfl) ?_
              refine lv_iload hx hb dX9_tells_108 (lv_at hl 0 rfl) ?_
              refine va_calli (va_runV (As := [.int g_30]) (rest := []) ⟨hx, hb, hml, hown, hts⟩ (c_M_isEdge l dC dI _ ad ck 0 x16 x18 x19 x20 x21 x22 x23 x24 x25 x26 x27 x28 x29 x30 x33 x45 x46 x52 x53 g_15 x62 x63 x65 x66 f1 f2 f3 q4 q5 q6 q7 f8 q9 q10 f11 m12_0 m12_1 m13_0 m13_1 m14_0 m14_1 m15_0 m15_1 f17 q31 f32 f34 f35 f36 f37 q38 f39 f40 f41 m42_0 m42_1 f43 f44 f47 f48 f49 f50 f51 g_14 q55 q56 f57 q58 f59 f60 f64 g_30 hx16 hx18 hx19 hx21 hx22 hx26 hx28 hx29 hx30 hx33 hx46 hx52 hx53 (Nat.le_trans hg_15 (Nat.le_of_ble_eq_true rfl)) hx62 hx63 hx65 hm12_0 hm12_1 hm13_0 hm13_1 hm14_0 hm14_1 hm15_0 hm15_1 hm42_0 hm42_1) (cwV 1 hts g_M_tells_M_isEdge rfl rfl rfl (by decide +kernel) ⟨Nat.le_of_ble_eq_true rfl, Nat.le_of_ble_eq_true rfl⟩) ⟨pu_bl, va_recv hK hP (ci := 9) (q0 := 0) rfl rfl, pu_in hP hK hD⟩ rfl rfl hl.1 rfl (lv_room (Nat.le_of_ble_eq_true rfl)) dX9_tells_110 ⟨Nat.le_of_ble_eq_true rfl, Nat.le_of_ble_eq_true rfl⟩) hS (fun q _ h => pu_fr hS hA q h) (pu_fr hS hA) (fun r_34 u t H1 locs ht hvm hw hB hz1 hk1 hS => ?_)
              have hP := pu_keep hP hk1
              clear hk1 hz1 ht hvm
              generalize H1 = H at hP hS ⊢
              rcases hw with ⟨rfl, hw⟩ | rfl
              · obtain ⟨n_35, hn_35, rfl⟩ := hw
                refine lv_if_eq (tgt := 127) hx hb dX9_tells_113 (by decide) (fun z => absurd z (by decide)) (fun _ => ?_)
                refine lv_aload_n hx hb dX9_tells_116 rfl (lv_at hl 1 rfl) ?_
                refine lv_iload hx hb dX9_tells_117 (lv_at hl 0 rfl) ?_
                refine va_calli (va_runV (As := [.int (nI n_35)]) (rest := []) ⟨hx, hb, hml, hown, hts⟩ (c_M_outOf l dC dI _ ad ck 0 x16 x18 x19 x20 x21 x22 x23 x24 x25 x26 x27 x28 x29 x30 x33 x45 x46 x52 x53 g_15 x62 x63 x65 x66 f1 f2 f3 q4 q5 q6 q7 f8 q9 q10 f11 m12_0 m12_1 m13_0 m13_1 m14_0 m14_1 m15_0 m15_1 f17 q31 f32 f34 f35 f36 f37 q38 f39 f40 f41 m42_0 m42_1 f43 f44 f47 f48 f49 f50 f51 g_14 q55 q56 f57 q58 f59 f60 f64 n_35 hx16 hx18 hx19 hx21 hx22 hx26 hx28 hx29 hx30 hx33 hx46 hx52 hx53 (Nat.le_trans hg_15 (Nat.le_of_ble_eq_true rfl)) hx62 hx63 hx65 hm12_0 hm12_1 hm13_0 hm13_1 hm14_0 hm14_1 hm15_0 hm15_1 hm42_0 hm42_1 (by omega)) (cwV 1 hts g_M_tells_M_outOf rfl rfl rfl (by decide +kernel) ⟨Nat.le_of_ble_eq_true rfl, Nat.le_of_ble_eq_true rfl⟩) ⟨pu_bl, va_recv hK hP (ci := 9) (q0 := 0) rfl rfl, pu_in hP hK hD⟩ rfl rfl hl.1 rfl (lv_room (Nat.le_of_ble_eq_true rfl)) dX9_tells_119 ⟨Nat.le_of_ble_eq_true rfl, Nat.le_of_ble_eq_true rfl⟩) hS (fun q _ h => pu_fr hS hA q h) (pu_fr hS hA) (fun r_36 u t H1 locs ht hvm hw hB hz1 hk1 hS => ?_)
                have hP := pu_keep hP hk1
                clear hk1 hz1 ht hvm
                generalize H1 = H at hP hS ⊢
                obtain ⟨u_37, hu_37, rfl⟩ := hw
                refine lv_iload hx hb dX9_tells_122 (lv_at hl 8 rfl) ?_
                refine lv_icmp_eq (tgt := 129) hx hb dX9_tells_124 (by decide) (fun c_38 => ?_) (fun c_38 => ?_)
                · have c_38 : u_37 = g_17 := (nI_eq (a := u_37) (b := g_17) (Nat.lt_of_le_of_lt hu_37 (Nat.le_of_ble_eq_true rfl)) (Nat.lt_of_le_of_lt hg_17 (Nat.le_of_ble_eq_true rfl))).mp c_38
                  refine lv_aload_n hx hb dX9_tells_129 rfl (lv_at hl 1 rfl) ?_
                  refine va_get (D := (dC, dI)) (ci := 9) (v := .ref (ad 54)) (C := RX9) (T := TX9) (N := 67) hx hb hts hiX9 hown hK hP 0 rfl rfl 54 (by decide) v_18 (fun _ h9 => h9) rfl dX9_tells_130 ?_
                  refine lv_aload_n hx hb dX9_tells_133 rfl (lv_at hl 1 rfl) ?_
                  refine va_get (D := (dC, dI)) (ci := 9) (v := .int (nI g_15)) (C := RX9) (T := TX9) (N := 67) hx hb hts hiX9 hown hK hP 0 rfl rfl 61 (by decide) v_8 (fun _ h9 => h9) rfl dX9_tells_134 ?_
                  refine lv_iload hx hb dX9_tells_137 (lv_at hl 0 rfl) ?_
                  refine va_iast hx hb hK hP hD hS 35 34 rfl rfl (vp_in_nI (n := g_15) (Nat.lt_of_le_of_lt hg_15 (Nat.le_of_ble_eq_true rfl)) (Nat.le_of_ble_eq_true rfl)) dX9_tells_139 (fun H locs hP hD hS => ?_)
                  obtain ⟨q_39, eq_39, kq_39⟩ := bN_up 13 g_14 (((nI g_15) : Int32).toNatClampNeg) (v := n_35) (by omega)
                  have hP : va_P (dC, dI) vwCl (mo_w ad ck 0 (nI x16) (nI x18) (nI x19) x20 (nI x21) (nI x22) x23 x24 x25 (nI x26) x27 (nI x28) (nI x29) (nI x30) (nI x33) x45 (nI x46) (nI x52) (nI x53) (nI g_15) (nI x62) (nI x63) (nI x65) x66 f1 f2 f3 (bN 3 q4) (bN 7 q5) (bN 7 q6) (bN 4 q7) f8 (bN 2 q9) (bH q10) f11 (b2 m12_0 m12_1) (b2 m13_0 m13_1) (b2 m14_0 m14_1) (b2m m15_0 m15_1) f17 (bA 159 q31) f32 f34 f35 f36 f37 (bN 7 q38) f39 f40 f41 (b2 m42_0 m42_1) f43 f44 f47 f48 f49 f50 f51 (bN 13 q_39) (bN 120 q55) (bN 120 q56) f57 (bN 120 q58) f59 f60 f64) H := by rw [← eq_39]; exact hP
                  have hD : va_D A (mo_w ad ck 0 (nI x16) (nI x18) (nI x19) x20 (nI x21) (nI x22) x23 x24 x25 (nI x26) x27 (nI x28) (nI x29) (nI x30) (nI x33) x45 (nI x46) (nI x52) (nI x53) (nI g_15) (nI x62) (nI x63) (nI x65) x66 f1 f2 f3 (bN 3 q4) (bN 7 q5) (bN 7 q6) (bN 4 q7) f8 (bN 2 q9) (bH q10) f11 (b2 m12_0 m12_1) (b2 m13_0 m13_1) (b2 m14_0 m14_1) (b2m m15_0 m15_1) f17 (bA 159 q31) f32 f34 f35 f36 f37 (bN 7 q38) f39 f40 f41 (b2 m42_0 m42_1) f43 f44 f47 f48 f49 f50 f51 (bN 13 q_39) (bN 120 q55) (bN 120 q56) f57 (bN 120 q58) f59 f60 f64) := by rw [← eq_39]; exact hD
                  refine lv_aload_n hx hb dX9_tells_140 rfl (lv_at hl 1 rfl) ?_
                  refine lv_dup hx hb dX9_tells_141 rfl ?_
                  refine va_get (D := (dC, dI)) (ci := 9) (v := .int (nI g_15)) (C := RX9) (T := TX9) (N := 67) hx hb hts hiX9 hown hK hP 0 rfl rfl 61 (by decide) v_8 (fun _ h9 => h9) rfl dX9_tells_142 ?_
                  refine lv_iconst (v := 1) hx hb dX9_tells_145 (by decide) ?_
                  refine lv_iadd hx hb dX9_tells_146 ?_
                  refine lv_topi (fun y_40 ey_40 => ?_)
                  obtain rfl : y_40 = (nI (g_15 + 1)) := ey_40.trans (nI_add g_15 1)
                  refine va_put (D := (dC, dI)) (ci := 9) (v := .int (nI (g_15 + 1))) (ty := .int) (C := RX9) (T := TX9) (N := 67) hx hb hts hiX9 tyX9 tyX9_ok nmX9 hown hK hP hD hS 0 rfl rfl 61 (by decide) v_8 (fun _ h9 => h9) rfl (by decide +kernel) rfl rfl (Nat.le_of_ble_eq_true rfl) dX9_tells_147 (fun H locs hP hD hS => ?_)
                  have hP : va_P (dC, dI) vwCl (mo_w ad ck 0 (nI x16) (nI x18) (nI x19) x20 (nI x21) (nI x22) x23 x24 x25 (nI x26) x27 (nI x28) (nI x29) (nI x30) (nI x33) x45 (nI x46) (nI x52) (nI x53) (nI (g_15 + 1)) (nI x62) (nI x63) (nI x65) x66 f1 f2 f3 (bN 3 q4) (bN 7 q5) (bN 7 q6) (bN 4 q7) f8 (bN 2 q9) (bH q10) f11 (b2 m12_0 m12_1) (b2 m13_0 m13_1) (b2 m14_0 m14_1) (b2m m15_0 m15_1) f17 (bA 159 q31) f32 f34 f35 f36 f37 (bN 7 q38) f39 f40 f41 (b2 m42_0 m42_1) f43 f44 f47 f48 f49 f50 f51 (bN 13 q_39) (bN 120 q55) (bN 120 q56) f57 (bN 120 q58) f59 f60 f64) H := hP
                  have hD : va_D A (mo_w ad ck 0 (nI x16) (nI x18) (nI x19) x20 (nI x21) (nI x22) x23 x24 x25 (nI x26) x27 (nI x28) (nI x29) (nI x30) (nI x33) x45 (nI x46) (nI x52) (nI x53) (nI (g_15 + 1)) (nI x62) (nI x63) (nI x65) x66 f1 f2 f3 (bN 3 q4) (bN 7 q5) (bN 7 q6) (bN 4 q7) f8 (bN 2 q9) (bH q10) f11 (b2 m12_0 m12_1) (b2 m13_0 m13_1) (b2 m14_0 m14_1) (b2m m15_0 m15_1) f17 (bA 159 q31) f32 f34 f35 f36 f37 (bN 7 q38) f39 f40 f41 (b2 m42_0 m42_1) f43 f44 f47 f48 f49 f50 f51 (bN 13 q_39) (bN 120 q55) (bN 120 q56) f57 (bN 120 q58) f59 f60 f64) := hD
                  refine lv_aload_n hx hb dX9_tells_150 rfl (lv_at hl 1 rfl) ?_
                  refine lv_iload hx hb dX9_tells_151 (lv_at hl 0 rfl) ?_
                  refine va_calli (va_runV (As := [.int (nI n_35)]) (rest := []) ⟨hx, hb, hml, hown, hts⟩ (c_M_into l dC dI _ ad ck 0 x16 x18 x19 x20 x21 x22 x23 x24 x25 x26 x27 x28 x29 x30 x33 x45 x46 x52 x53 (g_15 + 1) x62 x63 x65 x66 f1 f2 f3 q4 q5 q6 q7 f8 q9 q10 f11 m12_0 m12_1 m13_0 m13_1 m14_0 m14_1 m15_0 m15_1 f17 q31 f32 f34 f35 f36 f37 q38 f39 f40 f41 m42_0 m42_1 f43 f44 f47 f48 f49 f50 f51 q_39 q55 q56 f57 q58 f59 f60 f64 n_35 hx16 hx18 hx19 hx21 hx22 hx26 hx28 hx29 hx30 hx33 hx46 hx52 hx53 (by omega) hx62 hx63 hx65 hm12_0 hm12_1 hm13_0 hm13_1 hm14_0 hm14_1 hm15_0 hm15_1 hm42_0 hm42_1 (by omega)) (cwV 1 hts g_M_tells_M_into rfl rfl rfl (by decide +kernel) ⟨Nat.le_of_ble_eq_true rfl, Nat.le_of_ble_eq_true rfl⟩) ⟨pu_bl, va_recv hK hP (ci := 9) (q0 := 0) rfl rfl, pu_in hP hK hD⟩ rfl rfl hl.1 rfl (lv_room (Nat.le_of_ble_eq_true rfl)) dX9_tells_153 ⟨Nat.le_of_ble_eq_true rfl, Nat.le_of_ble_eq_true rfl⟩) hS (fun q _ h => pu_fr hS hA q h) (pu_fr hS hA) (fun r_41 u t H1 locs ht hvm hw hB hz1 hk1 hS => ?_)
                  have hP := pu_keep hP hk1
                  clear hk1 hz1 ht hvm
                  generalize H1 = H at hP hS ⊢
                  obtain ⟨u_42, hu_42, rfl⟩ := hw
                  refine lv_istore (lv' := [(7, .int (nI u_42)), (9, .int (nI n_35)), (0, .ref (ad 0)), (1, .int g_16), (2, .int p1), (3, .int p2), (4, .int p3), (5, .int p4), (6, .int (nI n_5)), (8, .int (nI g_18))]) hx hb dX9_tells_156 hl (by decide) rfl (fun ls hl => ?_)
                  refine lv_iinc (v := (nI (g_18 + 1))) (lv' := [(8, .int (nI (g_18 + 1))), (7, .int (nI u_42)), (9, .int (nI n_35)), (0, .ref (ad 0)), (1, .int g_16), (2, .int p1), (3, .int p2), (4, .int p3), (5, .int p4), (6, .int (nI n_5))]) hx hb dX9_tells_158 hl (k := 9) rfl (nI_1 _) (by decide) rfl (fun ls hl => ?_)
                  refine lv_goto (tgt := 48) hx hb dX9_tells_161 (by decide) ?_
                  exact ih_20 (5 - (g_18 + 1)) (by omega) _ _ _ ⟨q_39, (g_15 + 1), g_16, u_42, (g_18 + 1), rfl, (by omega), hu_42, (by omega), by omega, hP, hD, hS, lv_sub hl [3, 4, 5, 6, 7, 8, 9, 1, 0] rfl⟩
                · have c_38 : ¬ u_37 = g_17 := fun z => c_38 ((nI_eq (a := u_37) (b := g_17) (Nat.lt_of_le_of_lt hu_37 (Nat.le_of_ble_eq_true rfl)) (Nat.lt_of_le_of_lt hg_17 (Nat.le_of_ble_eq_true rfl))).mpr z)
                  refine lv_iconst (v := (-1)) hx hb dX9_tells_127 (by decide) ?_
                  exact W.iret (v := (-1)) hx hb hr (fun t ht hW => ⟨⟨(-1), (), rfl, trivial, ⟨g_14, q55, q56, f57, q58, f60, 0, g_15, x62, x63, ⟨by rw [ht]; exact hP, va_K.moved hW.alike hK, hD⟩, (Nat.le_trans hg_15 (Nat.le_of_ble_eq_true rfl)), hx62, hx63⟩⟩, hS.F ht⟩) hS.2.2 dX9_tells_128
              · refine lv_if_eq (tgt := 127) hx hb dX9_tells_113 (by decide) (fun _ => ?_) (fun z => absurd z (by decide))
                refine lv_iconst (v := (-1)) hx hb dX9_tells_127 (by decide) ?_
                exact W.iret (v := (-1)) hx hb hr (fun t ht hW => ⟨⟨(-1), (), rfl, trivial, ⟨g_14, q55, q56, f57, q58, f60, 0, g_15, x62, x63, ⟨by rw [ht]; exact hP, va_K.moved hW.alike hK, hD⟩, (Nat.le_trans hg_15 (Nat.le_of_ble_eq_true rfl)), hx62, hx63⟩⟩, hS.F ht⟩) hS.2.2 dX9_tells_128
            · refine lv_goto (tgt := 164) hx hb dX9_tells_104 (by decide) ?_
              refine lv_aload_n hx hb dX9_tells_164 rfl (lv_at hl 1 rfl) ?_
              refine lv_iload hx hb dX9_tells_165 (lv_at hl 7 rfl) ?_
              have hFc := pu_free hD hS hA
              refine va_calli (va_runV (As := [.int (nI n_5)]) (rest := []) ⟨hx, hb, hml, hown, hts⟩ (c_M_spanned l dC dI _ ad ck 0 x16 x18 x19 x20 x21 x22 x23 x24 x25 x26 x27 x28 x29 x30 x33 x45 x46 x52 x53 g_15 x62 x63 x65 x66 f1 f2 f3 q4 q5 q6 q7 f8 q9 q10 f11 m12_0 m12_1 m13_0 m13_1 m14_0 m14_1 m15_0 m15_1 f17 q31 f32 f34 f35 f36 f37 q38 f39 f40 f41 m42_0 m42_1 f43 f44 f47 f48 f49 f50 f51 g_14 q55 q56 f57 q58 f59 f60 f64 (nI n_5) hx16 hx18 hx19 hx21 hx22 hx26 hx28 hx29 hx30 hx33 hx46 hx52 hx53 (Nat.le_trans hg_15 (Nat.le_of_ble_eq_true rfl)) hx62 hx63 hx65 hm12_0 hm12_1 hm13_0 hm13_1 hm14_0 hm14_1 hm15_0 hm15_1 hm42_0 hm42_1 (by first | assumption | omega)) (cwV 1 hts g_M_tells_M_spanned rfl rfl rfl (by decide +kernel) ⟨Nat.le_of_ble_eq_true rfl, Nat.le_of_ble_eq_true rfl⟩) ⟨pu_bl, va_recv hK hP (ci := 9) (q0 := 0) rfl rfl, pu_in hP hK hD⟩ rfl rfl hl.1 rfl (lv_room (Nat.le_of_ble_eq_true rfl)) dX9_tells_167 ⟨Nat.le_of_ble_eq_true rfl, Nat.le_of_ble_eq_true rfl⟩) hS (fun q _ h => hFc q h) hFc (fun r_43 u t H1 locs ht hvm hw hB hz1 hk1 hS => ?_)
              obtain ⟨z55_44, z56_45, z57_46, z58_47, z60_48, z62_49, z63_50, ⟨hP1, -, hD1⟩, hz62_49, hz63_50⟩ := hB
              rw [ht] at hP1
              have hP := hP1
              have hD := pu_all hFc hD1
              clear hP1 hD1 hFc
              clear hk1 hz1 ht hvm
              generalize H1 = H at hP hS ⊢
              exact W.iret (v := r_43) hx hb hr (fun t ht hW => ⟨⟨r_43, (), rfl, trivial, ⟨g_14, z55_44, z56_45, z57_46, z58_47, z60_48, 0, g_15, z62_49, z63_50, ⟨by rw [ht]; exact hP, va_K.moved hW.alike hK, hD⟩, (Nat.le_trans hg_15 (Nat.le_of_ble_eq_true rfl)), hz62_49, hz63_50⟩⟩, hS.F ht⟩) hS.2.2 dX9_tells_170
          refine lv_if_ne (tgt := 63) hx hb dX9_tells_56 (by decide) (fun c_51 => ?_) (fun c_51 => ?_)
          · have c_51 : ¬ g_18 = 0 := fun z => c_51 ((nI_eq (a := g_18) (b := 0) (Nat.lt_of_le_of_lt hg_18 (Nat.le_of_ble_eq_true rfl)) (Nat.le_of_ble_eq_true rfl)).mpr z)
            refine lv_iload hx hb dX9_tells_63 (lv_at hl 8 rfl) ?_
            refine lv_iconst (v := 1) hx hb dX9_tells_65 (by decide) ?_
            refine lv_icmp_ne (tgt := 73) hx hb dX9_tells_66 (by decide) (fun c_52 => ?_) (fun c_52 => ?_)
            · have c_52 : ¬ g_18 = 1 := fun z => c_52 ((nI_eq (a := g_18) (b := 1) (Nat.lt_of_le_of_lt hg_18 (Nat.le_of_ble_eq_true rfl)) (Nat.le_of_ble_eq_true rfl)).mpr z)
              refine lv_iload hx hb dX9_tells_73 (lv_at hl 8 rfl) ?_
              refine lv_iconst (v := 2) hx hb dX9_tells_75 (by decide) ?_
              refine lv_icmp_ne (tgt := 83) hx hb dX9_tells_76 (by decide) (fun c_53 => ?_) (fun c_53 => ?_)
              · have c_53 : ¬ g_18 = 2 := fun z => c_53 ((nI_eq (a := g_18) (b := 2) (Nat.lt_of_le_of_lt hg_18 (Nat.le_of_ble_eq_true rfl)) (Nat.le_of_ble_eq_true rfl)).mpr z)
                refine lv_iload hx hb dX9_tells_83 (lv_at hl 8 rfl) ?_
                refine lv_iconst (v := 3) hx hb dX9_tells_85 (by decide) ?_
                refine lv_icmp_ne (tgt := 94) hx hb dX9_tells_86 (by decide) (fun c_54 => ?_) (fun c_54 => ?_)
                · have c_54 : ¬ g_18 = 3 := fun z => c_54 ((nI_eq (a := g_18) (b := 3) (Nat.lt_of_le_of_lt hg_18 (Nat.le_of_ble_eq_true rfl)) (Nat.le_of_ble_eq_true rfl)).mpr z)
                  refine lv_iload hx hb dX9_tells_94 (lv_at hl 5 rfl) ?_
                  exact j_32 _ _ _ _ ⟨p4, rfl, by omega, hP, hD, hS, lv_sub hl [0, 1, 2, 3, 4, 5, 6, 7, 8] rfl⟩
                · have c_54 : g_18 = 3 := (nI_eq (a := g_18) (b := 3) (Nat.lt_of_le_of_lt hg_18 (Nat.le_of_ble_eq_true rfl)) (Nat.le_of_ble_eq_true rfl)).mp c_54
                  refine lv_iload hx hb dX9_tells_89 (lv_at hl 4 rfl) ?_
                  refine lv_goto (tgt := 96) hx hb dX9_tells_91 (by decide) ?_
                  exact j_32 _ _ _ _ ⟨p3, rfl, by omega, hP, hD, hS, lv_sub hl [0, 1, 2, 3, 4, 5, 6, 7, 8] rfl⟩
              · have c_53 : g_18 = 2 := (nI_eq (a := g_18) (b := 2) (Nat.lt_of_le_of_lt hg_18 (Nat.le_of_ble_eq_true rfl)) (Nat.le_of_ble_eq_true rfl)).mp c_53
                refine lv_iload_n hx hb dX9_tells_79 rfl (lv_at hl 3 rfl) ?_
                refine lv_goto (tgt := 96) hx hb dX9_tells_80 (by decide) ?_
                exact j_32 _ _ _ _ ⟨p2, rfl, by omega, hP, hD, hS, lv_sub hl [0, 1, 2, 3, 4, 5, 6, 7, 8] rfl⟩
            · have c_52 : g_18 = 1 := (nI_eq (a := g_18) (b := 1) (Nat.lt_of_le_of_lt hg_18 (Nat.le_of_ble_eq_true rfl)) (Nat.le_of_ble_eq_true rfl)).mp c_52
              refine lv_iload_n hx hb dX9_tells_69 rfl (lv_at hl 2 rfl) ?_
              refine lv_goto (tgt := 96) hx hb dX9_tells_70 (by decide) ?_
              exact j_32 _ _ _ _ ⟨p1, rfl, by omega, hP, hD, hS, lv_sub hl [0, 1, 2, 3, 4, 5, 6, 7, 8] rfl⟩
          · have c_51 : g_18 = 0 := (nI_eq (a := g_18) (b := 0) (Nat.lt_of_le_of_lt hg_18 (Nat.le_of_ble_eq_true rfl)) (Nat.le_of_ble_eq_true rfl)).mp c_51
            refine lv_iload_n hx hb dX9_tells_59 rfl (lv_at hl 1 rfl) ?_
            refine lv_goto (tgt := 96) hx hb dX9_tells_60 (by decide) ?_
            exact j_32 _ _ _ _ ⟨g_16, rfl, by omega, hP, hD, hS, lv_sub hl [0, 1, 2, 3, 4, 5, 6, 7, 8] rfl⟩
    · refine lv_if_ne (tgt := 29) hx hb dX9_tells_24 (by decide) (fun z => absurd z (by decide)) (fun _ => ?_)
      refine lv_iconst (v := (-1)) hx hb dX9_tells_27 (by decide) ?_
      exact W.iret (v := (-1)) hx hb hr (fun t ht hW => ⟨⟨(-1), (), rfl, trivial, ⟨q54, q55, q56, f57, q58, f60, 0, x61, x62, x63, ⟨by rw [ht]; exact hP, va_K.moved hW.alike hK, hD⟩, hx61, hx62, hx63⟩⟩, hS.F ht⟩) hS.2.2 dX9_tells_28
