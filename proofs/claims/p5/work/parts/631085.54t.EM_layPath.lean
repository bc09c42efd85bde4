theorem dX9_layPath_0 : decode cX9_layPath 0 = .ok (.aload_n 0, 1) := by decide +kernel
theorem dX9_layPath_1 : decode cX9_layPath 1 = .ok (.aload_n 0, 1) := by decide +kernel
theorem dX9_layPath_2 : decode cX9_layPath 2 = .ok (.getfield 89, 3) := by decide +kernel
theorem dX9_layPath_5 : decode cX9_layPath 5 = .ok (.iload_n 1, 1) := by decide +kernel
theorem dX9_layPath_6 : decode cX9_layPath 6 = .ok (.iaload, 1) := by decide +kernel
theorem dX9_layPath_7 : decode cX9_layPath 7 = .ok (.putfield 429, 3) := by decide +kernel
theorem dX9_layPath_10 : decode cX9_layPath 10 = .ok (.iload_n 1, 1) := by decide +kernel
theorem dX9_layPath_11 : decode cX9_layPath 11 = .ok (.istore_n 2, 1) := by decide +kernel
theorem dX9_layPath_12 : decode cX9_layPath 12 = .ok (.aload_n 0, 1) := by decide +kernel
theorem dX9_layPath_13 : decode cX9_layPath 13 = .ok (.getfield 429, 3) := by decide +kernel
theorem dX9_layPath_16 : decode cX9_layPath 16 = .ok (.iconst 1, 1) := by decide +kernel
theorem dX9_layPath_17 : decode cX9_layPath 17 = .ok (.isub, 1) := by decide +kernel
theorem dX9_layPath_18 : decode cX9_layPath 18 = .ok (.istore_n 3, 1) := by decide +kernel
theorem dX9_layPath_19 : decode cX9_layPath 19 = .ok (.iload_n 3, 1) := by decide +kernel
theorem dX9_layPath_20 : decode cX9_layPath 20 = .ok (.ifCond .lt 28, 3) := by decide +kernel
theorem dX9_layPath_23 : decode cX9_layPath 23 = .ok (.aload_n 0, 1) := by decide +kernel
theorem dX9_layPath_24 : decode cX9_layPath 24 = .ok (.getfield 118, 3) := by decide +kernel
theorem dX9_layPath_27 : decode cX9_layPath 27 = .ok (.iload_n 3, 1) := by decide +kernel
theorem dX9_layPath_28 : decode cX9_layPath 28 = .ok (.aload_n 0, 1) := by decide +kernel
theorem dX9_layPath_29 : decode cX9_layPath 29 = .ok (.getfield 86, 3) := by decide +kernel
theorem dX9_layPath_32 : decode cX9_layPath 32 = .ok (.iload_n 2, 1) := by decide +kernel
theorem dX9_layPath_33 : decode cX9_layPath 33 = .ok (.iaload, 1) := by decide +kernel
theorem dX9_layPath_34 : decode cX9_layPath 34 = .ok (.iastore, 1) := by decide +kernel
theorem dX9_layPath_35 : decode cX9_layPath 35 = .ok (.aload_n 0, 1) := by decide +kernel
theorem dX9_layPath_36 : decode cX9_layPath 36 = .ok (.getfield 83, 3) := by decide +kernel
theorem dX9_layPath_39 : decode cX9_layPath 39 = .ok (.iload_n 2, 1) := by decide +kernel
theorem dX9_layPath_40 : decode cX9_layPath 40 = .ok (.iaload, 1) := by decide +kernel
theorem dX9_layPath_41 : decode cX9_layPath 41 = .ok (.istore_n 2, 1) := by decide +kernel
theorem dX9_layPath_42 : decode cX9_layPath 42 = .ok (.iinc 3 (-1), 3) := by decide +kernel
theorem dX9_layPath_45 : decode cX9_layPath 45 = .ok (.goto (-26), 3) := by decide +kernel
theorem dX9_layPath_48 : decode cX9_layPath 48 = .ok (.return_, 1) := by decide +kernel
abbrev vs_EM_layPath : List Cond := .code yX9_layPath cX9_layPath 4 none :: VM
noncomputable def sp_EM_layPath_L1 (f39 : Nat → Int32) (f40 : Nat → Int32) (d_1 : Nat) : (Nat × Nat × (Nat → Nat)) → (Nat × Nat × (Nat → Nat)) ⊕ ((Nat → Nat) × Nat) := fun (kk_4, ss_5, q_6) => (if kk_4 = 0 then (Sum.inr (q_6, d_1)) else (slet (kk_4 - 1) (fun kk_4 => (slet ((f39 ss_5 : Int32).toNatClampNeg) (fun pp_13 => (slet ((f40 ss_5 : Int32).toNatClampNeg) (fun ee_14 => (slet (updN q_6 kk_4 ee_14) (fun q_17 => (Sum.inl (kk_4, pp_13, q_17)))))))))))
noncomputable def sp_EM_layPath (f39 : Nat → Int32) (f40 : Nat → Int32) (f41 : Nat → Int32) (q54 : Nat → Nat) (a0 : Nat) : (Nat → Nat) × Nat := (slet ((f41 a0 : Int32).toNatClampNeg) (fun d_1 => (itrv (α := Nat × Nat × (Nat → Nat)) (β := ((Nat → Nat) × Nat)) default (sp_EM_layPath_L1 f39 f40 d_1) (d_1, a0, q54))))
set_option maxHeartbeats 4000000 in
set_option maxRecDepth 100000 in
theorem c_EM_layPath (l : Launch) (dC : Nat → ClassId) (dI : Nat → Nat → Nat) (sz : Nat) (ad : Nat → Nat) (ck : Nat → ClassId) (x0 : Int32) (x16 : Nat) (x18 : Nat) (x19 : Nat) (x20 : Int32) (x21 : Nat) (x22 : Nat) (x23 : Int32) (x24 : Int32) (x25 : Int32) (x26 : Nat) (x27 : Int32) (x28 : Nat) (x29 : Nat) (x30 : Nat) (x33 : Nat) (x45 : Int32) (x46 : Nat) (x52 : Nat) (x53 : Nat) (x61 : Nat) (x62 : Nat) (x63 : Nat) (x65 : Nat) (x66 : Int32) (f1 : Nat → Int32) (f2 : Nat → Int32) (f3 : Nat → Int32) (q4 : Nat → Nat) (q5 : Nat → Nat) (q6 : Nat → Nat) (q7 : Nat → Nat) (f8 : Nat → Int32) (q9 : Nat → Nat) (q10 : Nat → Nat) (f11 : Nat → Int32) (m12_0 m12_1 : Nat) (m13_0 m13_1 : Nat) (m14_0 m14_1 : Nat) (m15_0 m15_1 : Nat) (f17 : Nat → Int32) (q31 : Nat → Nat) (f32 : Nat → Int32) (f34 : Nat → Int32) (f35 : Nat → Int32) (f36 : Nat → Int32) (f37 : Nat → Int32) (q38 : Nat → Nat) (f39 : Nat → Int32) (f40 : Nat → Int32) (f41 : Nat → Int32) (m42_0 m42_1 : Nat) (f43 : Nat → Int32) (f44 : Nat → Int32) (f47 : Nat → Int32) (f48 : Nat → Int32) (f49 : Nat → Int32) (f50 : Nat → Int32) (f51 : Nat → Int32) (q54 : Nat → Nat) (q55 : Nat → Nat) (q56 : Nat → Nat) (f57 : Nat → Int32) (q58 : Nat → Nat) (f59 : Nat → Int32) (f60 : Nat → Int32) (f64 : Nat → Int32) (a0 : Nat) (hx16 : x16 ≤ 1) (hx18 : x18 ≤ 900) (hx19 : x19 ≤ 900) (hx21 : x21 ≤ 900) (hx22 : x22 ≤ 4) (hx26 : x26 ≤ 6) (hx28 : x28 ≤ 1) (hx29 : x29 ≤ 1) (hx30 : x30 ≤ 1) (hx33 : x33 ≤ 20) (hx46 : x46 ≤ 5) (hx52 : x52 ≤ 2400) (hx53 : x53 ≤ 119) (hx61 : x61 ≤ 119) (hx62 : x62 ≤ 2000) (hx63 : x63 ≤ 1) (hx65 : x65 ≤ 7) (hm12_0 : m12_0 ≤ 3) (hm12_1 : m12_1 ≤ 3) (hm13_0 : m13_0 ≤ 8) (hm13_1 : m13_1 ≤ 8) (hm14_0 : m14_0 ≤ 14) (hm14_1 : m14_1 ≤ 14) (hm15_0 : m15_0 ≤ 8) (hm15_1 : m15_1 ≤ 8) (hm42_0 : m42_0 ≤ 120) (hm42_1 : m42_1 ≤ 400) (ha0 : a0 ≤ 119) (hgr : gz_ok m42_0 f39 f40 f41) (hq0 : a0 < m42_0) : Met l yX9_layPath vs_EM_layPath ({ frames := 0, cells := 0, slots := 0, locals := 0 }) (va_Pc [.ref (ad 0), .int (nI a0)] (pu_B (dC, dI) (mo_w ad ck x0 (nI x16) (nI x18) (nI x19) x20 (nI x21) (nI x22) x23 x24 x25 (nI x26) x27 (nI x28) (nI x29) (nI x30) (nI x33) x45 (nI x46) (nI x52) (nI x53) (nI x61) (nI x62) (nI x63) (nI x65) x66 f1 f2 f3 (bN 3 q4) (bN 7 q5) (bN 7 q6) (bN 4 q7) f8 (bN 2 q9) (bH q10) f11 (b2 m12_0 m12_1) (b2 m13_0 m13_1) (b2 m14_0 m14_1) (b2m m15_0 m15_1) f17 (bA 159 q31) f32 f34 f35 f36 f37 (bN 7 q38) f39 f40 f41 (b2 m42_0 m42_1) f43 f44 f47 f48 f49 f50 f51 (bN 13 q54) (bN 120 q55) (bN 120 q56) f57 (bN 120 q58) f59 f60 f64) (mo_t ck) sz)) (va_Qv (fun (_ : Unit) => True) (fun _ t => ∃ (z54 : Nat → Nat) (z61 : Nat), pu_E (dC, dI) (mo_w ad ck x0 (nI x16) (nI x18) (nI x19) x20 (nI x21) (nI x22) x23 x24 x25 (nI x26) x27 (nI x28) (nI x29) (nI x30) (nI x33) x45 (nI x46) (nI x52) (nI x53) (nI z61) (nI x62) (nI x63) (nI x65) x66 f1 f2 f3 (bN 3 q4) (bN 7 q5) (bN 7 q6) (bN 4 q7) f8 (bN 2 q9) (bH q10) f11 (b2 m12_0 m12_1) (b2 m13_0 m13_1) (b2 m14_0 m14_1) (b2m m15_0 m15_1) f17 (bA 159 q31) f32 f34 f35 f36 f37 (bN 7 q38) f39 f40 f41 (b2 m42_0 m42_1) f43 f44 f47 f48 f49 f50 f51 (bN 13 z54) (bN 120 q55) (bN 120 q56) f57 (bN 120 q58) f59 f60 f64) (mo_t ck) (va_A ((mo_w ad ck x0 (nI x16) (nI x18) (nI x19) x20 (nI x21) (nI x22) x23 x24 x25 (nI x26) x27 (nI x28) (nI x29) (nI x30) (nI x33) x45 (nI x46) (nI x52) (nI x53) (nI x61) (nI x62) (nI x63) (nI x65) x66 f1 f2 f3 (bN 3 q4) (bN 7 q5) (bN 7 q6) (bN 4 q7) f8 (bN 2 q9) (bH q10) f11 (b2 m12_0 m12_1) (b2 m13_0 m13_1) (b2 m14_0 m14_1) (b2m m15_0 m15_1) f17 (bA 159 q31) f32 f34 f35 f36 f37 (bN 7 q38) f39 f40 f41 (b2 m42_0 m42_1) f43 f44 f47 f48 f49 f50 f51 (bN 13 q54) (bN 120 q55) (bN 120 q56) f57 (bN 120 q58) f59 f60 f64)) sz) t ∧ (z61 ≤ 119) ∧ (f41 a0 = nI z61) ∧ ((z54, z61) = (sp_EM_layPath f39 f40 f41 q54 a0))) (va_A ((mo_w ad ck x0 (nI x16) (nI x18) (nI x19) x20 (nI x21) (nI x22) x23 x24 x25 (nI x26) x27 (nI x28) (nI x29) (nI x30) (nI x33) x45 (nI x46) (nI x52) (nI x53) (nI x61) (nI x62) (nI x63) (nI x65) x66 f1 f2 f3 (bN 3 q4) (bN 7 q5) (bN 7 q6) (bN 4 q7) f8 (bN 2 q9) (bH q10) f11 (b2 m12_0 m12_1) (b2 m13_0 m13_1) (b2 m14_0 m14_1) (b2m m15_0 m15_1) f17 (bA 159 q31) f32 f34 f35 f36 f37 (bN 7 q38) f39 f40 f41 (b2 m42_0 m42_1) f43 f44 f47 f48 f49 f50 f51 (bN 13 q54) (bN 120 q55) (bN 120 q56) f57 (bN 120 q58) f59 f60 f64)) sz)) 0 0 (va_A ((mo_w ad ck x0 (nI x16) (nI x18) (nI x19) x20 (nI x21) (nI x22) x23 x24 x25 (nI x26) x27 (nI x28) (nI x29) (nI x30) (nI x33) x45 (nI x46) (nI x52) (nI x53) (nI x61) (nI x62) (nI x63) (nI x65) x66 f1 f2 f3 (bN 3 q4) (bN 7 q5) (bN 7 q6) (bN 4 q7) f8 (bN 2 q9) (bH q10) f11 (b2 m12_0 m12_1) (b2 m13_0 m13_1) (b2 m14_0 m14_1) (b2m m15_0 m15_1) f17 (bA 159 q31) f32 f34 f35 f36 f37 (bN 7 q38) f39 f40 f41 (b2 m42_0 m42_1) f43 f44 f47 f48 f49 f50 f51 (bN 13 q54) (bN 120 q55) (bN 120 q56) f57 (bN 120 q58) f59 f60 f64)) sz) := by
  refine Met.ofW (cc := cX9_layPath) (maxL := 4) (ret := none) (by decide) rfl ?_
  intro p e s m args below meth c s₁ B hml hv
  obtain ⟨rfl, rfl, hP, hK, hD0⟩ := hv
  have hx := B.exec
  have hb := B.bytes
  have hr := B.returns
  have hts := atoms_spec (ws := vs_EM_layPath) B.pre
  have v_1 := hts (.fieldLink RX9 89 "ClockReachModel" "stateDeep" "[I") (List.mem_cons_of_mem _ vm_241)
  have v_2 := hts (.fieldLink RX9 429 "ClockReachModel" "pathMany" "I") (List.mem_cons_of_mem _ vm_303)
  have v_3 := hts (.fieldLink RX9 118 "ClockReachModel" "path" "[I") (List.mem_cons_of_mem _ vm_304)
  have v_4 := hts (.fieldLink RX9 86 "ClockReachModel" "stateBy" "[I") (List.mem_cons_of_mem _ vm_240)
  have v_5 := hts (.fieldLink RX9 83 "ClockReachModel" "stateFrom" "[I") (List.mem_cons_of_mem _ vm_239)
  have hown : s.vm.findClass RX9 = some m.cls := findClass_of_methodNamed B.named
  have hlocks := B.notSynchronized
  have hiX9 : ∀ w ∈ wsX90, w ∈ vs_EM_layPath := fun _ h => List.mem_cons_of_mem _ (vmi_L h)
  have hD := hD0.self (sz := s.heap.size)
  generalize hAe : va_A ((mo_w ad ck x0 (nI x16) (nI x18) (nI x19) x20 (nI x21) (nI x22) x23 x24 x25 (nI x26) x27 (nI x28) (nI x29) (nI x30) (nI x33) x45 (nI x46) (nI x52) (nI x53) (nI x61) (nI x62) (nI x63) (nI x65) x66 f1 f2 f3 (bN 3 q4) (bN 7 q5) (bN 7 q6) (bN 4 q7) f8 (bN 2 q9) (bH q10) f11 (b2 m12_0 m12_1) (b2 m13_0 m13_1) (b2 m14_0 m14_1) (b2m m15_0 m15_1) f17 (bA 159 q31) f32 f34 f35 f36 f37 (bN 7 q38) f39 f40 f41 (b2 m42_0 m42_1) f43 f44 f47 f48 f49 f50 f51 (bN 13 q54) (bN 120 q55) (bN 120 q56) f57 (bN 120 q58) f59 f60 f64)) s.heap.size = A at hD ⊢
  have hA : ∀ q : Nat, s.heap.size ≤ q → A q := fun q h => by rw [← hAe]; exact Or.inr h
  have hS : va_S A s.heap s.heap [] := va_S.rf
  have hl := lv_entry ([.ref (ad 0), .int (nI a0)]) (n := 4) (Nat.le_of_ble_eq_true rfl)
  rw [lg_entry_eq]
  generalize (lg_sl ([.ref (ad 0), .int (nI a0)]) ++ List.replicate (4 - (lg_sl ([.ref (ad 0), .int (nI a0)])).length) Slot.unset).toArray = ls at hl ⊢
  have hl : lv_has ls 4 [(0, .ref (ad 0)), (1, .int (nI a0))] := hl
  obtain ⟨RR, hRR⟩ : ∃ x, x = (sp_EM_layPath f39 f40 f41 q54 a0) := ⟨_, rfl⟩
  have hsp := hRR
  refine lv_aload_n hx hb dX9_layPath_0 rfl (lv_at hl 0 rfl) ?_
  refine lv_aload_n hx hb dX9_layPath_1 rfl (lv_at hl 0 rfl) ?_
  refine va_get (D := (dC, dI)) (ci := 9) (v := .ref (ad 41)) (C := RX9) (T := TX9) (N := 67) hx hb hts hiX9 hown hK hP 0 rfl rfl 41 (by decide) v_1 (fun _ h9 => h9) rfl dX9_layPath_2 ?_
  refine lv_iload_n hx hb dX9_layPath_5 rfl (lv_at hl 1 rfl) ?_
  obtain ⟨d_1, hd_1, fd_1, gd_1⟩ := gz_get hgr (i := a0) (by omega) (by omega)
  replace hsp := hsp.trans (slet_eq (by rw [gd_1]; exact nI_cl (n := d_1) (by omega) : d_1 = (f41 a0 : Int32).toNatClampNeg))
  refine va_iald hx hb hK hP 26 25 rfl rfl (vp_in_nI (n := a0) (Nat.lt_of_le_of_lt ha0 (Nat.le_of_ble_eq_true rfl)) (Nat.le_of_ble_eq_true rfl)) dX9_layPath_6 ?_
  refine lv_topi (fun y_2 ey_2 => ?_)
  obtain rfl : y_2 = nI d_1 := ey_2.trans fd_1
  refine va_put (D := (dC, dI)) (ci := 9) (v := .int (nI d_1)) (ty := .int) (C := RX9) (T := TX9) (N := 67) hx hb hts hiX9 tyX9 tyX9_ok nmX9 hown hK hP hD hS 0 rfl rfl 61 (by decide) v_2 (fun _ h9 => h9) rfl (by decide +kernel) rfl rfl (Nat.le_of_ble_eq_true rfl) dX9_layPath_7 (fun H locs hP hD hS => ?_)
  have hP : va_P (dC, dI) vwCl (mo_w ad ck x0 (nI x16) (nI x18) (nI x19) x20 (nI x21) (nI x22) x23 x24 x25 (nI x26) x27 (nI x28) (nI x29) (nI x30) (nI x33) x45 (nI x46) (nI x52) (nI x53) (nI d_1) (nI x62) (nI x63) (nI x65) x66 f1 f2 f3 (bN 3 q4) (bN 7 q5) (bN 7 q6) (bN 4 q7) f8 (bN 2 q9) (bH q10) f11 (b2 m12_0 m12_1) (b2 m13_0 m13_1) (b2 m14_0 m14_1) (b2m m15_0 m15_1) f17 (bA 159 q31) f32 f34 f35 f36 f37 (bN 7 q38) f39 f40 f41 (b2 m42_0 m42_1) f43 f44 f47 f48 f49 f50 f51 (bN 13 q54) (bN 120 q55) (bN 120 q56) f57 (bN 120 q58) f59 f60 f64) H := hP
  have hD : va_D A (mo_w ad ck x0 (nI x16) (nI x18) (nI x19) x20 (nI x21) (nI x22) x23 x24 x25 (nI x26) x27 (nI x28) (nI x29) (nI x30) (nI x33) x45 (nI x46) (nI x52) (nI x53) (nI d_1) (nI x62) (nI x63) (nI x65) x66 f1 f2 f3 (bN 3 q4) (bN 7 q5) (bN 7 q6) (bN 4 q7) f8 (bN 2 q9) (bH q10) f11 (b2 m12_0 m12_1) (b2 m13_0 m13_1) (b2 m14_0 m14_1) (b2m m15_0 m15_1) f17 (bA 159 q31) f32 f34 f35 f36 f37 (bN 7 q38) f39 f40 f41 (b2 m42_0 m42_1) f43 f44 f47 f48 f49 f50 f51 (bN 13 q54) (bN 120 q55) (bN 120 q56) f57 (bN 120 q58) f59 f60 f64) := hD
  refine lv_iload_n hx hb dX9_layPath_10 rfl (lv_at hl 1 rfl) ?_
  refine lv_istore_n (lv' := [(2, .int (nI a0)), (0, .ref (ad 0)), (1, .int (nI a0))]) hx hb dX9_layPath_11 rfl hl (by decide) rfl (fun ls hl => ?_)
  refine lv_aload_n hx hb dX9_layPath_12 rfl (lv_at hl 1 rfl) ?_
  refine va_get (D := (dC, dI)) (ci := 9) (v := .int (nI d_1)) (C := RX9) (T := TX9) (N := 67) hx hb hts hiX9 hown hK hP 0 rfl rfl 61 (by decide) v_2 (fun _ h9 => h9) rfl dX9_layPath_13 ?_
  refine lv_iconst (v := 1) hx hb dX9_layPath_16 (by decide) ?_
  refine lv_isub hx hb dX9_layPath_17 ?_
  refine lv_istore_n (lv' := [(3, .int ((nI d_1) - 1)), (2, .int (nI a0)), (0, .ref (ad 0)), (1, .int (nI a0))]) hx hb dX9_layPath_18 rfl hl (by decide) rfl (fun ls hl => ?_)
  obtain ⟨lf_7, dlf_7, hlf_7, hsp⟩ := itr_ex hsp
  delta sp_EM_layPath_L1 at hlf_7
  refine pu_while (fun nn H locs ls => ∃ (kk_4 ss_5 : Nat) (q_6 : Nat → Nat), RR = itrv dlf_7 lf_7 (kk_4, ss_5, q_6) ∧ nn = kk_4 + 0 ∧ ss_5 < m42_0 ∧ kk_4 ≤ 119 ∧ f41 ss_5 = nI kk_4 ∧ va_P (dC, dI) vwCl (mo_w ad ck x0 (nI x16) (nI x18) (nI x19) x20 (nI x21) (nI x22) x23 x24 x25 (nI x26) x27 (nI x28) (nI x29) (nI x30) (nI x33) x45 (nI x46) (nI x52) (nI x53) (nI d_1) (nI x62) (nI x63) (nI x65) x66 f1 f2 f3 (bN 3 q4) (bN 7 q5) (bN 7 q6) (bN 4 q7) f8 (bN 2 q9) (bH q10) f11 (b2 m12_0 m12_1) (b2 m13_0 m13_1) (b2 m14_0 m14_1) (b2m m15_0 m15_1) f17 (bA 159 q31) f32 f34 f35 f36 f37 (bN 7 q38) f39 f40 f41 (b2 m42_0 m42_1) f43 f44 f47 f48 f49 f50 f51 (bN 13 q_6) (bN 120 q55) (bN 120 q56) f57 (bN 120 q58) f59 f60 f64) H ∧ va_D A (mo_w ad ck x0 (nI x16) (nI x18) (nI x19) x20 (nI x21) (nI x22) x23 x24 x25 (nI x26) x27 (nI x28) (nI x29) (nI x30) (nI x33) x45 (nI x46) (nI x52) (nI x53) (nI d_1) (nI x62) (nI x63) (nI x65) x66 f1 f2 f3 (bN 3 q4) (bN 7 q5) (bN 7 q6) (bN 4 q7) f8 (bN 2 q9) (bH q10) f11 (b2 m12_0 m12_1) (b2 m13_0 m13_1) (b2 m14_0 m14_1) (b2m m15_0 m15_1) f17 (bA 159 q31) f32 f34 f35 f36 f37 (bN 7 q38) f39 f40 f41 (b2 m42_0 m42_1) f43 f44 f47 f48 f49 f50 f51 (bN 13 q_6) (bN 120 q55) (bN 120 q56) f57 (bN 120 q58) f59 f60 f64) ∧ va_S A s.heap H locs ∧ lv_has ls 4 [(0, .ref (ad 0)), (2, .int (nI ss_5)), (3, .int (nI kk_4 - 1))]) 19 ?_ _ _ _ _ ⟨d_1, a0, q54, hsp, rfl, by omega, by omega, by assumption, hP, hD, hS, lv_sub hl [2, 1, 0] rfl⟩
  rintro nn ih_9 H locs ls ⟨kk_4, ss_5, q_6, e_8, hnn, hss_5, hkk_4, fkk_4, hP, hD, hS, hl⟩
  obtain ⟨S_10, hsp, hin_11, hout_12⟩ := itr_step hlf_7 e_8
  rcases kk_4 with _ | kk_4
  · replace hsp := hsp.trans (if_pos rfl)
    rw [pu_k0] at hl
    have hsp := hout_12 _ hsp
    refine lv_iload_n hx hb dX9_layPath_19 rfl (lv_at hl 2 rfl) ?_
    refine lv_if_lt (tgt := 48) hx hb dX9_layPath_20 (by decide) (fun _ => ?_) (fun z => absurd z (by decide))
    exact W.vret hx hb hr (fun t ht hW => ⟨⟨(), rfl, trivial, ⟨q_6, d_1, ⟨by rw [ht]; exact hP, va_K.moved hW.alike hK, hD⟩, (by omega), by assumption, (hsp.symm.trans hRR)⟩⟩, hS.F ht⟩) hS.2.2 dX9_layPath_48
  · replace hsp := hsp.trans (if_neg (Nat.succ_ne_zero _))
    rw [nI_pred] at hl
    obtain ⟨pp_13, ee_14, hpp_13, hee_14, xpp_13, ypp_13, zpp_13⟩ := gz_up hgr hss_5 (by omega) fkk_4 (by omega)
    replace hsp := hsp.trans (slet_eq (by omega : kk_4 = kk_4 + 1 - 1))
    replace hsp := hsp.trans (slet_eq (cl_of xpp_13 (by omega) (by omega)))
    replace hsp := hsp.trans (slet_eq (cl_of ypp_13 (by omega) (by omega)))
    refine lv_iload_n hx hb dX9_layPath_19 rfl (lv_at hl 2 rfl) ?_
    refine lv_if_lt (tgt := 48) hx hb dX9_layPath_20 (by decide) (fun c_15 => ?_) (fun c_15 => ?_)
    · have c_15 : kk_4 < 0 := (nI_ltI (a := kk_4) (b := 0) (by omega) (Nat.le_of_ble_eq_true rfl)).mp c_15
      exfalso
      omega
    · have c_15 : ¬ kk_4 < 0 := fun z => c_15 ((nI_ltI (a := kk_4) (b := 0) (by omega) (Nat.le_of_ble_eq_true rfl)).mpr z)
      refine lv_aload_n hx hb dX9_layPath_23 rfl (lv_at hl 0 rfl) ?_
      refine va_get (D := (dC, dI)) (ci := 9) (v := .ref (ad 54)) (C := RX9) (T := TX9) (N := 67) hx hb hts hiX9 hown hK hP 0 rfl rfl 54 (by decide) v_3 (fun _ h9 => h9) rfl dX9_layPath_24 ?_
      refine lv_iload_n hx hb dX9_layPath_27 rfl (lv_at hl 2 rfl) ?_
      refine lv_aload_n hx hb dX9_layPath_28 rfl (lv_at hl 0 rfl) ?_
      refine va_get (D := (dC, dI)) (ci := 9) (v := .ref (ad 40)) (C := RX9) (T := TX9) (N := 67) hx hb hts hiX9 hown hK hP 0 rfl rfl 40 (by decide) v_4 (fun _ h9 => h9) rfl dX9_layPath_29 ?_
      refine lv_iload_n hx hb dX9_layPath_32 rfl (lv_at hl 1 rfl) ?_
      refine va_iald hx hb hK hP 25 24 rfl rfl (vp_in_nI (n := ss_5) (by omega) (Nat.le_of_ble_eq_true rfl)) dX9_layPath_33 ?_
      refine lv_topi (fun y_16 ey_16 => ?_)
      obtain rfl : y_16 = nI ee_14 := ey_16.trans ypp_13
      refine va_iast hx hb hK hP hD hS 35 34 rfl rfl (vp_in_nI (n := kk_4) (by omega) (Nat.le_of_ble_eq_true rfl)) dX9_layPath_34 (fun H locs hP hD hS => ?_)
      obtain ⟨q_17, eq_17, kq_17, oq_17, xq_17⟩ := bN_upx 13 q_6 (n := kk_4) (v := ee_14) (by omega) (by omega)
      have hP : va_P (dC, dI) vwCl (mo_w ad ck x0 (nI x16) (nI x18) (nI x19) x20 (nI x21) (nI x22) x23 x24 x25 (nI x26) x27 (nI x28) (nI x29) (nI x30) (nI x33) x45 (nI x46) (nI x52) (nI x53) (nI d_1) (nI x62) (nI x63) (nI x65) x66 f1 f2 f3 (bN 3 q4) (bN 7 q5) (bN 7 q6) (bN 4 q7) f8 (bN 2 q9) (bH q10) f11 (b2 m12_0 m12_1) (b2 m13_0 m13_1) (b2 m14_0 m14_1) (b2m m15_0 m15_1) f17 (bA 159 q31) f32 f34 f35 f36 f37 (bN 7 q38) f39 f40 f41 (b2 m42_0 m42_1) f43 f44 f47 f48 f49 f50 f51 (bN 13 q_17) (bN 120 q55) (bN 120 q56) f57 (bN 120 q58) f59 f60 f64) H := by rw [← eq_17]; exact hP
      have hD : va_D A (mo_w ad ck x0 (nI x16) (nI x18) (nI x19) x20 (nI x21) (nI x22) x23 x24 x25 (nI x26) x27 (nI x28) (nI x29) (nI x30) (nI x33) x45 (nI x46) (nI x52) (nI x53) (nI d_1) (nI x62) (nI x63) (nI x65) x66 f1 f2 f3 (bN 3 q4) (bN 7 q5) (bN 7 q6) (bN 4 q7) f8 (bN 2 q9) (bH q10) f11 (b2 m12_0 m12_1) (b2 m13_0 m13_1) (b2 m14_0 m14_1) (b2m m15_0 m15_1) f17 (bA 159 q31) f32 f34 f35 f36 f37 (bN 7 q38) f39 f40 f41 (b2 m42_0 m42_1) f43 f44 f47 f48 f49 f50 f51 (bN 13 q_17) (bN 120 q55) (bN 120 q56) f57 (bN 120 q58) f59 f60 f64) := by rw [← eq_17]; exact hD
      replace hsp := hsp.trans (slet_eq xq_17)
      refine lv_aload_n hx hb dX9_layPath_35 rfl (lv_at hl 0 rfl) ?_
      refine va_get (D := (dC, dI)) (ci := 9) (v := .ref (ad 39)) (C := RX9) (T := TX9) (N := 67) hx hb hts hiX9 hown hK hP 0 rfl rfl 39 (by decide) v_5 (fun _ h9 => h9) rfl dX9_layPath_36 ?_
      refine lv_iload_n hx hb dX9_layPath_39 rfl (lv_at hl 1 rfl) ?_
      refine va_iald hx hb hK hP 24 23 rfl rfl (vp_in_nI (n := ss_5) (by omega) (Nat.le_of_ble_eq_true rfl)) dX9_layPath_40 ?_
      refine lv_topi (fun y_18 ey_18 => ?_)
      obtain rfl : y_18 = nI pp_13 := ey_18.trans xpp_13
      refine lv_istore_n (lv' := [(2, .int (nI pp_13)), (0, .ref (ad 0)), (3, .int (nI kk_4))]) hx hb dX9_layPath_41 rfl hl (by decide) rfl (fun ls hl => ?_)
      refine lv_iinc (v := (nI kk_4 - 1)) (lv' := [(3, .int (nI kk_4 - 1)), (2, .int (nI pp_13)), (0, .ref (ad 0))]) hx hb dX9_layPath_42 hl (k := 2) rfl (pu_decm _) (by decide) rfl (fun ls hl => ?_)
      refine lv_goto (tgt := 19) hx hb dX9_layPath_45 (by decide) ?_
      exact ih_9 kk_4 (by omega) _ _ _ ⟨kk_4, pp_13, q_17, hin_11 _ hsp, rfl, by omega, by omega, by assumption, hP, hD, hS, lv_sub hl [2, 1, 0] rfl⟩
