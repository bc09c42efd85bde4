abbrev vs_EM_layConditions_p : List Cond := .code yX9_layConditions cX9_layConditions 6 none :: VM
theorem g_EM_layConditions_p_EM_manyOf_p : GoodIn vs_EM_layConditions_p (wsV RX9 295 RX9 yX9_manyOf vs_EM_manyOf_p) := gm_V vm_152 vm_153 vm_154 vm_19 vm_155
theorem g_EM_layConditions_p_EM_spot_p : GoodIn vs_EM_layConditions_p (wsV RX9 311 RX9 yX9_spot vs_EM_spot_p) := gm_V vm_160 vm_161 vm_162 vm_19 vm_163
theorem g_EM_layConditions_p_EM_holdsApart : GoodIn vs_EM_layConditions_p (wsV RX9 438 RX9 yX9_holdsApart vs_EM_holdsApart) := gm_V vm_309 vm_310 vm_311 vm_19 vm_312
noncomputable def sp_EM_layConditions_p_L1 (x16 : Nat) (q4 : Nat → Nat) (q9 : Nat → Nat) (q10 : Nat → Nat) (f11 : Nat → Int32) (m13_0 : Nat) (m13_1 : Nat) (q58 : Nat → Nat) (a0 : Nat) (a1 : Nat) : ((Nat → Nat) × (Nat → Nat) × (Nat → Int32) × Nat × Nat × Nat) → ((Nat → Nat) × (Nat → Nat) × (Nat → Int32) × Nat × Nat × Nat) ⊕ ((Nat → Nat) × (Nat → Nat) × (Nat → Int32) × Nat × Nat) := fun (g_8, g_9, g_10, g_11, g_12, g_13) => (slet (sp_EM_manyOf_p x16 q4 m13_0 m13_1 a0) (fun u_22 => (if u_22 = 0 then (Sum.inr (g_8, g_9, g_10, g_11, g_12)) else (slet (u_22 - 1) (fun n_23 => (if n_23 ≤ g_13 then (Sum.inr (g_8, g_9, g_10, g_11, g_12)) else (slet (min (q9 (80 * x16 + (56 + 3 * (a0 - 100)) + g_13)) 2) (fun u_27 => (slet (min (q58 u_27) 120) (fun u_29 => (if u_29 = a1 then (if g_12 = 0 then (slet (min (q10 (80 * x16 + (56 + 3 * (a0 - 100)) + g_13)) (if (80 * x16 + (56 + 3 * (a0 - 100)) + g_13) % 80 < 56 then 4 else 1)) (fun u_57 => (if u_57 = 0 then (slet (f11 (80 * x16 + (56 + 3 * (a0 - 100)) + g_13)) (fun y_59 => (if (y_59 : Int32) = 0 then (Sum.inl (g_8, g_9, g_10, g_11, 1, (g_13 + 1))) else (Sum.inl (g_8, g_9, g_10, g_11, 0, (g_13 + 1)))))) else (Sum.inl (g_8, g_9, g_10, g_11, 0, (g_13 + 1)))))) else (Sum.inl (g_8, g_9, g_10, g_11, 1, (g_13 + 1)))) else (slet (min (q10 (80 * x16 + (56 + 3 * (a0 - 100)) + g_13)) (if (80 * x16 + (56 + 3 * (a0 - 100)) + g_13) % 80 < 56 then 4 else 1)) (fun u_32 => (slet (f11 (80 * x16 + (56 + 3 * (a0 - 100)) + g_13)) (fun y_34 => (slet ((2 : Int32) * y_34) (fun y_35 => (if u_32 = 0 then (slet ((y_35 : Int32) + 0) (fun y_47 => (slet (sp_EM_holdsApart g_11 g_8 g_9 g_10 a1 u_29 y_47) (fun (z55_49, z56_50, z57_51) => (Sum.inl (z55_49, z56_50, z57_51, (g_11 + 1), g_12, (g_13 + 1))))))) else (slet ((y_35 : Int32) + 1) (fun y_39 => (slet (sp_EM_holdsApart g_11 g_8 g_9 g_10 a1 u_29 y_39) (fun (z55_41, z56_42, z57_43) => (Sum.inl (z55_41, z56_42, z57_43, (g_11 + 1), g_12, (g_13 + 1)))))))))))))))))))))))))
noncomputable def sp_EM_layConditions_p (x16 : Nat) (x62 : Nat) (x63 : Nat) (q4 : Nat → Nat) (q9 : Nat → Nat) (q10 : Nat → Nat) (f11 : Nat → Int32) (m13_0 : Nat) (m13_1 : Nat) (q55 : Nat → Nat) (q56 : Nat → Nat) (f57 : Nat → Int32) (q58 : Nat → Nat) (a0 : Nat) (a1 : Nat) : (Nat → Nat) × (Nat → Nat) × (Nat → Int32) × Nat × Nat := (itrv (α := (Nat → Nat) × (Nat → Nat) × (Nat → Int32) × Nat × Nat × Nat) (β := ((Nat → Nat) × (Nat → Nat) × (Nat → Int32) × Nat × Nat)) default (sp_EM_layConditions_p_L1 x16 q4 q9 q10 f11 m13_0 m13_1 q58 a0 a1) (q55, q56, f57, x62, x63, 0))
set_option maxHeartbeats 4000000 in
set_option maxRecDepth 100000 in
theorem c_EM_layConditions_p (l : Launch) (dC : Nat → ClassId) (dI : Nat → Nat → Nat) (sz : Nat) (ad : Nat → Nat) (ck : Nat → ClassId) (x0 : Int32) (x16 : Nat) (x18 : Nat) (x19 : Nat) (x20 : Int32) (x21 : Nat) (x22 : Nat) (x23 : Int32) (x24 : Int32) (x25 : Int32) (x26 : Nat) (x27 : Int32) (x28 : Nat) (x29 : Nat) (x30 : Nat) (x33 : Nat) (x45 : Int32) (x46 : Nat) (x52 : Nat) (x53 : Nat) (x61 : Nat) (x62 : Nat) (x63 : Nat) (x65 : Nat) (x66 : Int32) (f1 : Nat → Int32) (f2 : Nat → Int32) (f3 : Nat → Int32) (q4 : Nat → Nat) (q5 : Nat → Nat) (q6 : Nat → Nat) (q7 : Nat → Nat) (f8 : Nat → Int32) (q9 : Nat → Nat) (q10 : Nat → Nat) (f11 : Nat → Int32) (m12_0 m12_1 : Nat) (m13_0 m13_1 : Nat) (m14_0 m14_1 : Nat) (m15_0 m15_1 : Nat) (f17 : Nat → Int32) (q31 : Nat → Nat) (f32 : Nat → Int32) (f34 : Nat → Int32) (f35 : Nat → Int32) (f36 : Nat → Int32) (f37 : Nat → Int32) (q38 : Nat → Nat) (f39 : Nat → Int32) (f40 : Nat → Int32) (f41 : Nat → Int32) (m42_0 m42_1 : Nat) (f43 : Nat → Int32) (f44 : Nat → Int32) (f47 : Nat → Int32) (f48 : Nat → Int32) (f49 : Nat → Int32) (f50 : Nat → Int32) (f51 : Nat → Int32) (q54 : Nat → Nat) (q55 : Nat → Nat) (q56 : Nat → Nat) (f57 : Nat → Int32) (q58 : Nat → Nat) (f59 : Nat → Int32) (f60 : Nat → Int32) (f64 : Nat → Int32) (a0 : Nat) (a1 : Nat) (hx16 : x16 ≤ 1) (hx18 : x18 ≤ 900) (hx19 : x19 ≤ 900) (hx21 : x21 ≤ 900) (hx22 : x22 ≤ 4) (hx26 : x26 ≤ 6) (hx28 : x28 ≤ 1) (hx29 : x29 ≤ 1) (hx30 : x30 ≤ 1) (hx33 : x33 ≤ 20) (hx46 : x46 ≤ 5) (hx52 : x52 ≤ 2400) (hx53 : x53 ≤ 119) (hx61 : x61 ≤ 119) (hx62 : x62 ≤ 1990) (hx63 : x63 ≤ 1) (hx65 : x65 ≤ 7) (hm12_0 : m12_0 ≤ 3) (hm12_1 : m12_1 ≤ 3) (hm13_0 : m13_0 ≤ 8) (hm13_1 : m13_1 ≤ 8) (hm14_0 : m14_0 ≤ 14) (hm14_1 : m14_1 ≤ 14) (hm15_0 : m15_0 ≤ 8) (hm15_1 : m15_1 ≤ 8) (hm42_0 : m42_0 ≤ 120) (hm42_1 : m42_1 ≤ 400) (ha0 : a0 ≤ 107) (hb0 : 100 ≤ a0) (ha1 : a1 ≤ 119) : Met l yX9_layConditions vs_EM_layConditions_p ({ frames := 3, cells := 0, slots := 0, locals := 64 }) (va_Pc [.ref (ad 0), .int (nI a0), .int (nI a1)] (pu_B (dC, dI) (mo_w ad ck x0 (nI x16) (nI x18) (nI x19) x20 (nI x21) (nI x22) x23 x24 x25 (nI x26) x27 (nI x28) (nI x29) (nI x30) (nI x33) x45 (nI x46) (nI x52) (nI x53) (nI x61) (nI x62) (nI x63) (nI x65) x66 f1 f2 f3 (bN 3 q4) (bN 7 q5) (bN 7 q6) (bN 4 q7) f8 (bN 2 q9) (bH q10) f11 (b2 m12_0 m12_1) (b2 m13_0 m13_1) (b2 m14_0 m14_1) (b2m m15_0 m15_1) f17 (bA 159 q31) f32 f34 f35 f36 f37 (bN 7 q38) f39 f40 f41 (b2 m42_0 m42_1) f43 f44 f47 f48 f49 f50 f51 (bN 13 q54) (bN 120 q55) (bN 120 q56) f57 (bN 120 q58) f59 f60 f64) (mo_t ck) sz)) (va_Qv (fun (_ : Unit) => True) (fun _ t => ∃ (z55 : Nat → Nat) (z56 : Nat → Nat) (z57 : Nat → Int32) (z62 : Nat) (z63 : Nat), pu_E (dC, dI) (mo_w ad ck x0 (nI x16) (nI x18) (nI x19) x20 (nI x21) (nI x22) x23 x24 x25 (nI x26) x27 (nI x28) (nI x29) (nI x30) (nI x33) x45 (nI x46) (nI x52) (nI x53) (nI x61) (nI z62) (nI z63) (nI x65) x66 f1 f2 f3 (bN 3 q4) (bN 7 q5) (bN 7 q6) (bN 4 q7) f8 (bN 2 q9) (bH q10) f11 (b2 m12_0 m12_1) (b2 m13_0 m13_1) (b2 m14_0 m14_1) (b2m m15_0 m15_1) f17 (bA 159 q31) f32 f34 f35 f36 f37 (bN 7 q38) f39 f40 f41 (b2 m42_0 m42_1) f43 f44 f47 f48 f49 f50 f51 (bN 13 q54) (bN 120 z55) (bN 120 z56) z57 (bN 120 q58) f59 f60 f64) (mo_t ck) (va_A ((mo_w ad ck x0 (nI x16) (nI x18) (nI x19) x20 (nI x21) (nI x22) x23 x24 x25 (nI x26) x27 (nI x28) (nI x29) (nI x30) (nI x33) x45 (nI x46) (nI x52) (nI x53) (nI x61) (nI x62) (nI x63) (nI x65) x66 f1 f2 f3 (bN 3 q4) (bN 7 q5) (bN 7 q6) (bN 4 q7) f8 (bN 2 q9) (bH q10) f11 (b2 m12_0 m12_1) (b2 m13_0 m13_1) (b2 m14_0 m14_1) (b2m m15_0 m15_1) f17 (bA 159 q31) f32 f34 f35 f36 f37 (bN 7 q38) f39 f40 f41 (b2 m42_0 m42_1) f43 f44 f47 f48 f49 f50 f51 (bN 13 q54) (bN 120 q55) (bN 120 q56) f57 (bN 120 q58) f59 f60 f64)) sz) t ∧ (z62 ≤ 2000) ∧ (z63 ≤ 1) ∧ (z62 ≤ x62 + 3) ∧ ((z55, z56, z57, z62, z63) = (sp_EM_layConditions_p x16 x62 x63 q4 q9 q10 f11 m13_0 m13_1 q55 q56 f57 q58 a0 a1))) (va_A ((mo_w ad ck x0 (nI x16) (nI x18) (nI x19) x20 (nI x21) (nI x22) x23 x24 x25 (nI x26) x27 (nI x28) (nI x29) (nI x30) (nI x33) x45 (nI x46) (nI x52) (nI x53) (nI x61) (nI x62) (nI x63) (nI x65) x66 f1 f2 f3 (bN 3 q4) (bN 7 q5) (bN 7 q6) (bN 4 q7) f8 (bN 2 q9) (bH q10) f11 (b2 m12_0 m12_1) (b2 m13_0 m13_1) (b2 m14_0 m14_1) (b2m m15_0 m15_1) f17 (bA 159 q31) f32 f34 f35 f36 f37 (bN 7 q38) f39 f40 f41 (b2 m42_0 m42_1) f43 f44 f47 f48 f49 f50 f51 (bN 13 q54) (bN 120 q55) (bN 120 q56) f57 (bN 120 q58) f59 f60 f64)) sz)) 0 0 (va_A ((mo_w ad ck x0 (nI x16) (nI x18) (nI x19) x20 (nI x21) (nI x22) x23 x24 x25 (nI x26) x27 (nI x28) (nI x29) (nI x30) (nI x33) x45 (nI x46) (nI x52) (nI x53) (nI x61) (nI x62) (nI x63) (nI x65) x66 f1 f2 f3 (bN 3 q4) (bN 7 q5) (bN 7 q6) (bN 4 q7) f8 (bN 2 q9) (bH q10) f11 (b2 m12_0 m12_1) (b2 m13_0 m13_1) (b2 m14_0 m14_1) (b2m m15_0 m15_1) f17 (bA 159 q31) f32 f34 f35 f36 f37 (bN 7 q38) f39 f40 f41 (b2 m42_0 m42_1) f43 f44 f47 f48 f49 f50 f51 (bN 13 q54) (bN 120 q55) (bN 120 q56) f57 (bN 120 q58) f59 f60 f64)) sz) := by
  refine Met.ofW (cc := cX9_layConditions) (maxL := 6) (ret := none) (by decide) rfl ?_
  intro p e s m args below meth c s₁ B hml hv
  obtain ⟨rfl, rfl, hP, hK, hD0⟩ := hv
  have hx := B.exec
  have hb := B.bytes
  have hr := B.returns
  have hts := atoms_spec (ws := vs_EM_layConditions_p) B.pre
  have v_10 := hts (.fieldLink RX9 130 "ClockReachModel" "setAt" "[I") (List.mem_cons_of_mem _ vm_313)
  have v_11 := hts (.fieldLink RX9 34 "ClockReachModel" "ofClock" "[I") (List.mem_cons_of_mem _ vm_98)
  have v_12 := hts (.fieldLink RX9 37 "ClockReachModel" "how" "[I") (List.mem_cons_of_mem _ vm_99)
  have v_13 := hts (.fieldLink RX9 40 "ClockReachModel" "limit" "[I") (List.mem_cons_of_mem _ vm_100)
  have v_18 := hts (.fieldLink RX9 435 "ClockReachModel" "isBroken" "Z") (List.mem_cons_of_mem _ vm_314)
  have hown : s.vm.findClass RX9 = some m.cls := findClass_of_methodNamed B.named
  have hlocks := B.notSynchronized
  have hiX9 : ∀ w ∈ wsX90, w ∈ vs_EM_layConditions_p := fun _ h => List.mem_cons_of_mem _ (vmi_L h)
  have hD := hD0.self (sz := s.heap.size)
  generalize hAe : va_A ((mo_w ad ck x0 (nI x16) (nI x18) (nI x19) x20 (nI x21) (nI x22) x23 x24 x25 (nI x26) x27 (nI x28) (nI x29) (nI x30) (nI x33) x45 (nI x46) (nI x52) (nI x53) (nI x61) (nI x62) (nI x63) (nI x65) x66 f1 f2 f3 (bN 3 q4) (bN 7 q5) (bN 7 q6) (bN 4 q7) f8 (bN 2 q9) (bH q10) f11 (b2 m12_0 m12_1) (b2 m13_0 m13_1) (b2 m14_0 m14_1) (b2m m15_0 m15_1) f17 (bA 159 q31) f32 f34 f35 f36 f37 (bN 7 q38) f39 f40 f41 (b2 m42_0 m42_1) f43 f44 f47 f48 f49 f50 f51 (bN 13 q54) (bN 120 q55) (bN 120 q56) f57 (bN 120 q58) f59 f60 f64)) s.heap.size = A at hD ⊢
  have hA : ∀ q : Nat, s.heap.size ≤ q → A q := fun q h => by rw [← hAe]; exact Or.inr h
  have hS : va_S A s.heap s.heap [] := va_S.rf
  have hl := lv_entry ([.ref (ad 0), .int (nI a0), .int (nI a1)]) (n := 6) (Nat.le_of_ble_eq_true rfl)
  rw [lg_entry_eq]
  generalize (lg_sl ([.ref (ad 0), .int (nI a0), .int (nI a1)]) ++ List.replicate (6 - (lg_sl ([.ref (ad 0), .int (nI a0), .int (nI a1)])).length) Slot.unset).toArray = ls at hl ⊢
  have hl : lv_has ls 6 [(0, .ref (ad 0)), (1, .int (nI a0)), (2, .int (nI a1))] := hl
  obtain ⟨RR, hRR⟩ : ∃ x, x = (sp_EM_layConditions_p x16 x62 x63 q4 q9 q10 f11 m13_0 m13_1 q55 q56 f57 q58 a0 a1) := ⟨_, rfl⟩
  have hsp := hRR
  refine lv_iconst (v := 0) hx hb dX9_layConditions_0 (by decide) ?_
  refine lv_istore_n (lv' := [(3, .int 0), (0, .ref (ad 0)), (1, .int (nI a0)), (2, .int (nI a1))]) hx hb dX9_layConditions_1 rfl hl (by decide) rfl (fun ls hl => ?_)
  obtain ⟨lf_16, dlf_16, hlf_16, hsp⟩ := itr_ex hsp
  delta sp_EM_layConditions_p_L1 at hlf_16
  refine pu_while (fun nn H locs ls => ∃ (g_8 : Nat → Nat) (g_9 : Nat → Nat) (g_10 : Nat → Int32) (g_11 : Nat) (g_12 : Nat) (g_13 : Nat), nn = 3 - g_13 ∧ g_11 ≤ 1998 ∧ g_12 ≤ 1 ∧ g_13 ≤ 3 ∧ g_11 ≤ x62 + g_13 ∧ RR = itrv dlf_16 lf_16 (g_8, g_9, g_10, g_11, g_12, g_13) ∧ va_P (dC, dI) vwCl (mo_w ad ck x0 (nI x16) (nI x18) (nI x19) x20 (nI x21) (nI x22) x23 x24 x25 (nI x26) x27 (nI x28) (nI x29) (nI x30) (nI x33) x45 (nI x46) (nI x52) (nI x53) (nI x61) (nI g_11) (nI g_12) (nI x65) x66 f1 f2 f3 (bN 3 q4) (bN 7 q5) (bN 7 q6) (bN 4 q7) f8 (bN 2 q9) (bH q10) f11 (b2 m12_0 m12_1) (b2 m13_0 m13_1) (b2 m14_0 m14_1) (b2m m15_0 m15_1) f17 (bA 159 q31) f32 f34 f35 f36 f37 (bN 7 q38) f39 f40 f41 (b2 m42_0 m42_1) f43 f44 f47 f48 f49 f50 f51 (bN 13 q54) (bN 120 g_8) (bN 120 g_9) g_10 (bN 120 q58) f59 f60 f64) H ∧ va_D A (mo_w ad ck x0 (nI x16) (nI x18) (nI x19) x20 (nI x21) (nI x22) x23 x24 x25 (nI x26) x27 (nI x28) (nI x29) (nI x30) (nI x33) x45 (nI x46) (nI x52) (nI x53) (nI x61) (nI g_11) (nI g_12) (nI x65) x66 f1 f2 f3 (bN 3 q4) (bN 7 q5) (bN 7 q6) (bN 4 q7) f8 (bN 2 q9) (bH q10) f11 (b2 m12_0 m12_1) (b2 m13_0 m13_1) (b2 m14_0 m14_1) (b2m m15_0 m15_1) f17 (bA 159 q31) f32 f34 f35 f36 f37 (bN 7 q38) f39 f40 f41 (b2 m42_0 m42_1) f43 f44 f47 f48 f49 f50 f51 (bN 13 q54) (bN 120 g_8) (bN 120 g_9) g_10 (bN 120 q58) f59 f60 f64) ∧ va_S A s.heap H locs ∧ lv_has ls 6 [(0, .ref (ad 0)), (1, .int (nI a0)), (2, .int (nI a1)), (3, .int (nI g_13))]) 2 ?_ _ _ _ _ ⟨q55, q56, f57, x62, x63, 0, rfl, (Nat.le_trans hx62 (Nat.le_of_ble_eq_true rfl)), hx63, (Nat.le_of_ble_eq_true rfl), by omega, hsp, hP, hD, hS, lv_sub hl [1, 2, 3, 0] rfl⟩
  rintro nn ih_15 H locs ls ⟨g_8, g_9, g_10, g_11, g_12, g_13, rfl, hg_11, hg_12, hg_13, he_14, he_18, hP, hD, hS, hl⟩
  obtain ⟨S_17, hsp, hin_19, hout_20⟩ := itr_step hlf_16 he_18
  refine lv_iload_n hx hb dX9_layConditions_2 rfl (lv_at hl 3 rfl) ?_
  refine lv_aload_n hx hb dX9_layConditions_3 rfl (lv_at hl 0 rfl) ?_
  refine lv_iload_n hx hb dX9_layConditions_4 rfl (lv_at hl 1 rfl) ?_
  refine va_calli (va_runV (As := [.int (nI a0)]) (rest := [.int (nI g_13)]) ⟨hx, hb, hml, hown, hts⟩ (c_EM_manyOf_p l dC dI _ ad ck x0 x16 x18 x19 x20 x21 x22 x23 x24 x25 x26 x27 x28 x29 x30 x33 x45 x46 x52 x53 x61 g_11 g_12 x65 x66 f1 f2 f3 q4 q5 q6 q7 f8 q9 q10 f11 m12_0 m12_1 m13_0 m13_1 m14_0 m14_1 m15_0 m15_1 f17 q31 f32 f34 f35 f36 f37 q38 f39 f40 f41 m42_0 m42_1 f43 f44 f47 f48 f49 f50 f51 q54 g_8 g_9 g_10 q58 f59 f60 f64 a0 hx16 hx18 hx19 hx21 hx22 hx26 hx28 hx29 hx30 hx33 hx46 hx52 hx53 hx61 (Nat.le_trans hg_11 (Nat.le_of_ble_eq_true rfl)) hg_12 hx65 hm12_0 hm12_1 hm13_0 hm13_1 hm14_0 hm14_1 hm15_0 hm15_1 hm42_0 hm42_1 ha0 (by omega)) (cwV 1 hts g_EM_layConditions_p_EM_manyOf_p rfl rfl rfl (by decide +kernel) ⟨Nat.le_of_ble_eq_true rfl, Nat.le_of_ble_eq_true rfl⟩) ⟨pu_bl, va_recv hK hP (ci := 9) (q0 := 0) rfl rfl, pu_in hP hK hD⟩ rfl rfl hl.1 rfl (lv_room (Nat.le_of_ble_eq_true rfl)) dX9_layConditions_5 ⟨Nat.le_of_ble_eq_true rfl, Nat.le_of_ble_eq_true rfl⟩) hS (fun q _ h => pu_fr hS hA q h) (pu_fr hS hA) (fun r_21 u t H1 locs ht hvm hw hB hz1 hk1 hS => ?_)
  have hP := pu_keep hP hk1
  clear hk1 hz1 ht hvm
  generalize H1 = H at hP hS ⊢
  obtain ⟨u_22, hu_22, mu_22, iu_22⟩ := hw
  replace hsp := hsp.trans (slet_eq iu_22)
  rcases mI_get u_22 with ⟨zn_23, wn_23⟩ | ⟨n_23, zn_23, wn_23⟩
  · obtain rfl : r_21 = -1 := mu_22.trans wn_23
    replace hsp := hsp.trans (if_pos zn_23)
    refine lv_icmp_ge (tgt := 172) hx hb dX9_layConditions_8 (by decide) (fun _ => ?_) (fun z => absurd (pu_negle (n := g_13) (by omega) (by decide)) z)
    have hsp := hout_20 _ hsp
    exact W.vret hx hb hr (fun t ht hW => ⟨⟨(), rfl, trivial, ⟨g_8, g_9, g_10, g_11, g_12, ⟨by rw [ht]; exact hP, va_K.moved hW.alike hK, hD⟩, (Nat.le_trans hg_11 (Nat.le_of_ble_eq_true rfl)), hg_12, by omega, (hsp.symm.trans hRR)⟩⟩, hS.F ht⟩) hS.2.2 dX9_layConditions_172
  · obtain rfl : r_21 = nI n_23 := mu_22.trans wn_23
    have hn_23 : n_23 ≤ 3 := by omega
    replace hsp := hsp.trans (if_neg (by omega))
    replace hsp := hsp.trans (slet_eq (by omega : n_23 = u_22 - 1))
    refine lv_icmp_ge (tgt := 172) hx hb dX9_layConditions_8 (by decide) (fun c_24 => ?_) (fun c_24 => ?_)
    · have c_24 : n_23 ≤ g_13 := (nI_leI (a := n_23) (b := g_13) (Nat.lt_of_le_of_lt hn_23 (Nat.le_of_ble_eq_true rfl)) (Nat.lt_of_le_of_lt hg_13 (Nat.le_of_ble_eq_true rfl))).mp c_24
      replace hsp := hsp.trans (if_pos c_24)
      have hsp := hout_20 _ hsp
      exact W.vret hx hb hr (fun t ht hW => ⟨⟨(), rfl, trivial, ⟨g_8, g_9, g_10, g_11, g_12, ⟨by rw [ht]; exact hP, va_K.moved hW.alike hK, hD⟩, (Nat.le_trans hg_11 (Nat.le_of_ble_eq_true rfl)), hg_12, by omega, (hsp.symm.trans hRR)⟩⟩, hS.F ht⟩) hS.2.2 dX9_layConditions_172
    · have c_24 : ¬ n_23 ≤ g_13 := fun z => c_24 ((nI_leI (a := n_23) (b := g_13) (Nat.lt_of_le_of_lt hn_23 (Nat.le_of_ble_eq_true rfl)) (Nat.lt_of_le_of_lt hg_13 (Nat.le_of_ble_eq_true rfl))).mpr z)
      replace hsp := hsp.trans (if_neg c_24)
      refine lv_aload_n hx hb dX9_layConditions_11 rfl (lv_at hl 0 rfl) ?_
      refine lv_iload_n hx hb dX9_layConditions_12 rfl (lv_at hl 1 rfl) ?_
      refine lv_iload_n hx hb dX9_layConditions_13 rfl (lv_at hl 3 rfl) ?_
      refine va_calli (va_runV (As := [.int (nI a0), .int (nI g_13)]) (rest := []) ⟨hx, hb, hml, hown, hts⟩ (c_EM_spot_p l dC dI _ ad ck x0 x16 x18 x19 x20 x21 x22 x23 x24 x25 x26 x27 x28 x29 x30 x33 x45 x46 x52 x53 x61 g_11 g_12 x65 x66 f1 f2 f3 q4 q5 q6 q7 f8 q9 q10 f11 m12_0 m12_1 m13_0 m13_1 m14_0 m14_1 m15_0 m15_1 f17 q31 f32 f34 f35 f36 f37 q38 f39 f40 f41 m42_0 m42_1 f43 f44 f47 f48 f49 f50 f51 q54 g_8 g_9 g_10 q58 f59 f60 f64 a0 g_13 hx16 hx18 hx19 hx21 hx22 hx26 hx28 hx29 hx30 hx33 hx46 hx52 hx53 hx61 (Nat.le_trans hg_11 (Nat.le_of_ble_eq_true rfl)) hg_12 hx65 hm12_0 hm12_1 hm13_0 hm13_1 hm14_0 hm14_1 hm15_0 hm15_1 hm42_0 hm42_1 ha0 (by omega) (by omega)) (cwV 2 hts g_EM_layConditions_p_EM_spot_p rfl rfl rfl (by decide +kernel) ⟨Nat.le_of_ble_eq_true rfl, Nat.le_of_ble_eq_true rfl⟩) ⟨pu_bl, va_recv hK hP (ci := 9) (q0 := 0) rfl rfl, pu_in hP hK hD⟩ rfl rfl hl.1 rfl (lv_room (Nat.le_of_ble_eq_true rfl)) dX9_layConditions_14 ⟨Nat.le_of_ble_eq_true rfl, Nat.le_of_ble_eq_true rfl⟩) hS (fun q _ h => pu_fr hS hA q h) (pu_fr hS hA) (fun r_25 u t H1 locs ht hvm hw hB hz1 hk1 hS => ?_)
      have hP := pu_keep hP hk1
      clear hk1 hz1 ht hvm
      generalize H1 = H at hP hS ⊢
      obtain rfl : r_25 = nI (80 * x16 + (56 + 3 * (a0 - 100)) + g_13) := hw
      refine lv_istore (lv' := [(4, .int (nI (80 * x16 + (56 + 3 * (a0 - 100)) + g_13))), (0, .ref (ad 0)), (1, .int (nI a0)), (2, .int (nI a1)), (3, .int (nI g_13))]) hx hb dX9_layConditions_17 hl (by decide) rfl (fun ls hl => ?_)
      refine lv_aload_n hx hb dX9_layConditions_19 rfl (lv_at hl 1 rfl) ?_
      refine va_get (D := (dC, dI)) (ci := 9) (v := .ref (ad 58)) (C := RX9) (T := TX9) (N := 67) hx hb hts hiX9 hown hK hP 0 rfl rfl 58 (by decide) v_10 (fun _ h9 => h9) rfl dX9_layConditions_20 ?_
      refine lv_aload_n hx hb dX9_layConditions_23 rfl (lv_at hl 1 rfl) ?_
      refine va_get (D := (dC, dI)) (ci := 9) (v := .ref (ad 9)) (C := RX9) (T := TX9) (N := 67) hx hb hts hiX9 hown hK hP 0 rfl rfl 9 (by decide) v_11 (fun _ h9 => h9) rfl dX9_layConditions_24 ?_
      refine lv_iload hx hb dX9_layConditions_27 (lv_at hl 0 rfl) ?_
      refine va_iald hx hb hK hP 9 8 rfl rfl (vp_in_nI (n := (80 * x16 + (56 + 3 * (a0 - 100)) + g_13)) (by omega) (Nat.le_of_ble_eq_true rfl)) dX9_layConditions_29 ?_
      refine lv_topi (fun y_26 ey_26 => ?_)
      obtain ⟨u_27, hu_27, qu_27, xu_27⟩ := bN_getx 2 q9 (n := (80 * x16 + (56 + 3 * (a0 - 100)) + g_13)) (by first | omega | exact Nat.lt_trans (zx16 (by omega) (by omega) (by omega)) (Nat.le_of_ble_eq_true rfl) | exact Nat.lt_trans (zy16 (by omega) (by omega)) (Nat.le_of_ble_eq_true rfl) | exact Nat.lt_trans (zx25 (by omega) (by omega) (by omega)) (Nat.le_of_ble_eq_true rfl) | exact Nat.lt_trans (zy25 (by omega) (by omega)) (Nat.le_of_ble_eq_true rfl))
      obtain rfl : y_26 = nI u_27 := ey_26.trans qu_27
      replace hsp := hsp.trans (slet_eq xu_27)
      refine va_iald hx hb hK hP 39 38 rfl rfl (vp_in_nI (n := u_27) (Nat.lt_of_le_of_lt hu_27 (Nat.le_of_ble_eq_true rfl)) (Nat.le_of_ble_eq_true rfl)) dX9_layConditions_30 ?_
      refine lv_topi (fun y_28 ey_28 => ?_)
      obtain ⟨u_29, hu_29, qu_29, xu_29⟩ := bN_getx 120 q58 (n := u_27) (Nat.lt_of_le_of_lt hu_27 (Nat.le_of_ble_eq_true rfl))
      obtain rfl : y_28 = nI u_29 := ey_28.trans qu_29
      replace hsp := hsp.trans (slet_eq xu_29)
      refine lv_istore (lv' := [(5, .int (nI u_29)), (4, .int (nI (80 * x16 + (56 + 3 * (a0 - 100)) + g_13))), (0, .ref (ad 0)), (1, .int (nI a0)), (2, .int (nI a1)), (3, .int (nI g_13))]) hx hb dX9_layConditions_31 hl (by decide) rfl (fun ls hl => ?_)
      refine lv_iload hx hb dX9_layConditions_33 (lv_at hl 0 rfl) ?_
      refine lv_iload_n hx hb dX9_layConditions_35 rfl (lv_at hl 4 rfl) ?_
      refine lv_icmp_ne (tgt := 78) hx hb dX9_layConditions_36 (by decide) (fun c_30 => ?_) (fun c_30 => ?_)
      · have c_30 : ¬ u_29 = a1 := fun z => c_30 ((nI_eq (a := u_29) (b := a1) (Nat.lt_of_le_of_lt hu_29 (Nat.le_of_ble_eq_true rfl)) (Nat.lt_of_le_of_lt ha1 (Nat.le_of_ble_eq_true rfl))).mpr z)
        replace hsp := hsp.trans (if_neg c_30)
        refine lv_aload_n hx hb dX9_layConditions_78 rfl (lv_at hl 2 rfl) ?_
        refine va_get (D := (dC, dI)) (ci := 9) (v := .ref (ad 10)) (C := RX9) (T := TX9) (N := 67) hx hb hts hiX9 hown hK hP 0 rfl rfl 10 (by decide) v_12 (fun _ h9 => h9) rfl dX9_layConditions_79 ?_
        refine lv_iload hx hb dX9_layConditions_82 (lv_at hl 1 rfl) ?_
        refine va_iald hx hb hK hP 10 9 rfl rfl (vp_in_nI (n := (80 * x16 + (56 + 3 * (a0 - 100)) + g_13)) (by omega) (Nat.le_of_ble_eq_true rfl)) dX9_layConditions_84 ?_
        refine lv_topi (fun y_31 ey_31 => ?_)
        obtain ⟨u_32, hu_32, qu_32, xu_32⟩ := bH_getx q10 (i := (80 * x16 + (56 + 3 * (a0 - 100)) + g_13)) (by omega)
        obtain rfl : y_31 = nI u_32 := ey_31.trans qu_32
        have hu_32 : u_32 ≤ 1 := (hu_32.2).resolve_left (how_p hx16 (by omega) (by omega))
        replace hsp := hsp.trans (slet_eq xu_32)
        refine lv_iconst (v := 2) hx hb dX9_layConditions_85 (by decide) ?_
        refine lv_icmp_gt (tgt := 121) hx hb dX9_layConditions_86 (by decide) (fun c_33 => ?_) (fun c_33 => ?_)
        · have c_33 : 2 < u_32 := (nI_ltI (a := 2) (b := u_32) (Nat.le_of_ble_eq_true rfl) (by omega)).mp c_33
          exfalso
          omega
        · have c_33 : ¬ 2 < u_32 := fun z => c_33 ((nI_ltI (a := 2) (b := u_32) (Nat.le_of_ble_eq_true rfl) (by omega)).mpr z)
          refine lv_aload_n hx hb dX9_layConditions_89 rfl (lv_at hl 2 rfl) ?_
          refine lv_iload_n hx hb dX9_layConditions_90 rfl (lv_at hl 4 rfl) ?_
          refine lv_iload hx hb dX9_layConditions_91 (lv_at hl 0 rfl) ?_
          refine lv_iconst (v := 2) hx hb dX9_layConditions_93 (by decide) ?_
          refine lv_aload_n hx hb dX9_layConditions_94 rfl (lv_at hl 2 rfl) ?_
          refine va_get (D := (dC, dI)) (ci := 9) (v := .ref (ad 11)) (C := RX9) (T := TX9) (N := 67) hx hb hts hiX9 hown hK hP 0 rfl rfl 11 (by decide) v_13 (fun _ h9 => h9) rfl dX9_layConditions_95 ?_
          refine lv_iload hx hb dX9_layConditions_98 (lv_at hl 1 rfl) ?_
          refine va_iald hx hb hK hP 11 10 rfl rfl (vp_in_nI (n := (80 * x16 + (56 + 3 * (a0 - 100)) + g_13)) (by omega) (Nat.le_of_ble_eq_true rfl)) dX9_layConditions_100 ?_
          refine lv_topi (fun y_34 ey_34 => ?_)
          have ey_34 : y_34 = f11 (80 * x16 + (56 + 3 * (a0 - 100)) + g_13) := ey_34.trans (congrArg f11 (nI_clamp (n := (80 * x16 + (56 + 3 * (a0 - 100)) + g_13)) (by first | omega | exact Nat.lt_trans (zx16 (by omega) (by omega) (by omega)) (Nat.le_of_ble_eq_true rfl) | exact Nat.lt_trans (zy16 (by omega) (by omega)) (Nat.le_of_ble_eq_true rfl) | exact Nat.lt_trans (zx25 (by omega) (by omega) (by omega)) (Nat.le_of_ble_eq_true rfl) | exact Nat.lt_trans (zy25 (by omega) (by omega)) (Nat.le_of_ble_eq_true rfl))))
          replace hsp := hsp.trans (slet_eq ey_34)
          refine lv_imul hx hb dX9_layConditions_101 ?_
          refine lv_topi (fun y_35 ey_35 => ?_)
          replace hsp := hsp.trans (slet_eq ey_35)
          refine lv_aload_n hx hb dX9_layConditions_102 rfl (lv_at hl 2 rfl) ?_
          refine va_get (D := (dC, dI)) (ci := 9) (v := .ref (ad 10)) (C := RX9) (T := TX9) (N := 67) hx hb hts hiX9 hown hK hP 0 rfl rfl 10 (by decide) v_12 (fun _ h9 => h9) rfl dX9_layConditions_103 ?_
          refine lv_iload hx hb dX9_layConditions_106 (lv_at hl 1 rfl) ?_
          refine va_iald hx hb hK hP 10 9 rfl rfl (vp_in_nI (n := (80 * x16 + (56 + 3 * (a0 - 100)) + g_13)) (by omega) (Nat.le_of_ble_eq_true rfl)) dX9_layConditions_108 ?_
          refine lv_topi (fun y_36 ey_36 => ?_)
          obtain rfl : y_36 = nI u_32 := ey_36.trans qu_32
          refine lv_if_ne (tgt := 116) hx hb dX9_layConditions_109 (by decide) (fun c_38 => ?_) (fun c_38 => ?_)
          · have c_38 : ¬ u_32 = 0 := fun z => c_38 ((nI_eq (a := u_32) (b := 0) (by omega) (Nat.le_of_ble_eq_true rfl)).mpr z)
            replace hsp := hsp.trans (if_neg c_38)
            refine lv_iconst (v := 1) hx hb dX9_layConditions_116 (by decide) ?_
            refine lv_iadd hx hb dX9_layConditions_117 ?_
            refine lv_topi (fun y_39 ey_39 => ?_)
            replace hsp := hsp.trans (slet_eq ey_39)
            have hFc := pu_free hD hS hA
            refine va_callv (va_runV (As := [.int (nI a1), .int (nI u_29), .int y_39]) (rest := []) ⟨hx, hb, hml, hown, hts⟩ (c_EM_holdsApart l dC dI _ ad ck x0 x16 x18 x19 x20 x21 x22 x23 x24 x25 x26 x27 x28 x29 x30 x33 x45 x46 x52 x53 x61 g_11 g_12 x65 x66 f1 f2 f3 q4 q5 q6 q7 f8 q9 q10 f11 m12_0 m12_1 m13_0 m13_1 m14_0 m14_1 m15_0 m15_1 f17 q31 f32 f34 f35 f36 f37 q38 f39 f40 f41 m42_0 m42_1 f43 f44 f47 f48 f49 f50 f51 q54 g_8 g_9 g_10 q58 f59 f60 f64 a1 u_29 y_39 hx16 hx18 hx19 hx21 hx22 hx26 hx28 hx29 hx30 hx33 hx46 hx52 hx53 hx61 (Nat.le_trans hg_11 (Nat.le_of_ble_eq_true rfl)) hg_12 hx65 hm12_0 hm12_1 hm13_0 hm13_1 hm14_0 hm14_1 hm15_0 hm15_1 hm42_0 hm42_1 (Nat.le_trans ha1 (Nat.le_of_ble_eq_true rfl)) hu_29) (cwV 3 hts g_EM_layConditions_p_EM_holdsApart rfl rfl rfl (by decide +kernel) ⟨Nat.le_of_ble_eq_true rfl, Nat.le_of_ble_eq_true rfl⟩) ⟨pu_bl, va_recv hK hP (ci := 9) (q0 := 0) rfl rfl, pu_in hP hK hD⟩ rfl rfl hl.1 rfl (lv_room (Nat.le_of_ble_eq_true rfl)) dX9_layConditions_118 ⟨Nat.le_of_ble_eq_true rfl, Nat.le_of_ble_eq_true rfl⟩) hS (fun q _ h => hFc q h) hFc (fun u t H1 locs ht hvm hw hB hz1 hk1 hS => ?_)
            obtain ⟨z55_41, z56_42, z57_43, ⟨hP1, -, hD1⟩, xr_40_0⟩ := hB
            rw [ht] at hP1
            have hP := hP1
            have hD := pu_all hFc hD1
            clear hP1 hD1 hFc
            clear hk1 hz1 ht hvm
            generalize H1 = H at hP hS ⊢
            replace hsp := hsp.trans (slet_eq xr_40_0)
            refine lv_aload_n hx hb dX9_layConditions_121 rfl (lv_at hl 2 rfl) ?_
            refine va_get (D := (dC, dI)) (ci := 9) (v := .ref (ad 10)) (C := RX9) (T := TX9) (N := 67) hx hb hts hiX9 hown hK hP 0 rfl rfl 10 (by decide) v_12 (fun _ h9 => h9) rfl dX9_layConditions_122 ?_
            refine lv_iload hx hb dX9_layConditions_125 (lv_at hl 1 rfl) ?_
            refine va_iald hx hb hK hP 10 9 rfl rfl (vp_in_nI (n := (80 * x16 + (56 + 3 * (a0 - 100)) + g_13)) (by omega) (Nat.le_of_ble_eq_true rfl)) dX9_layConditions_127 ?_
            refine lv_topi (fun y_44 ey_44 => ?_)
            obtain rfl : y_44 = nI u_32 := ey_44.trans qu_32
            refine lv_iconst (v := 2) hx hb dX9_layConditions_128 (by decide) ?_
            refine lv_icmp_lt (tgt := 166) hx hb dX9_layConditions_129 (by decide) (fun c_46 => ?_) (fun c_46 => ?_)
            · have c_46 : u_32 < 2 := (nI_ltI (a := u_32) (b := 2) (by omega) (Nat.le_of_ble_eq_true rfl)).mp c_46
              refine lv_iinc (v := (nI (g_13 + 1))) (lv' := [(3, .int (nI (g_13 + 1))), (5, .int (nI u_29)), (4, .int (nI (80 * x16 + (56 + 3 * (a0 - 100)) + g_13))), (0, .ref (ad 0)), (1, .int (nI a0)), (2, .int (nI a1))]) hx hb dX9_layConditions_166 hl (k := 5) rfl (nI_1 _) (by decide) rfl (fun ls hl => ?_)
              refine lv_goto (tgt := 2) hx hb dX9_layConditions_169 (by decide) ?_
              exact ih_15 (3 - (g_13 + 1)) (by omega) _ _ _ ⟨z55_41, z56_42, z57_43, (g_11 + 1), g_12, (g_13 + 1), rfl, (by omega), hg_12, (by omega), by omega, hin_19 _ hsp, hP, hD, hS, lv_sub hl [3, 4, 5, 0] rfl⟩
            · have c_46 : ¬ u_32 < 2 := fun z => c_46 ((nI_ltI (a := u_32) (b := 2) (by omega) (Nat.le_of_ble_eq_true rfl)).mpr z)
              exfalso
              omega
          · have c_38 : u_32 = 0 := (nI_eq (a := u_32) (b := 0) (by omega) (Nat.le_of_ble_eq_true rfl)).mp c_38
            replace hsp := hsp.trans (if_pos c_38)
            refine lv_iconst (v := 0) hx hb dX9_layConditions_112 (by decide) ?_
            refine lv_goto (tgt := 117) hx hb dX9_layConditions_113 (by decide) ?_
            refine lv_iadd hx hb dX9_layConditions_117 ?_
            refine lv_topi (fun y_47 ey_47 => ?_)
            replace hsp := hsp.trans (slet_eq ey_47)
            have hFc := pu_free hD hS hA
            refine va_callv (va_runV (As := [.int (nI a1), .int (nI u_29), .int y_47]) (rest := []) ⟨hx, hb, hml, hown, hts⟩ (c_EM_holdsApart l dC dI _ ad ck x0 x16 x18 x19 x20 x21 x22 x23 x24 x25 x26 x27 x28 x29 x30 x33 x45 x46 x52 x53 x61 g_11 g_12 x65 x66 f1 f2 f3 q4 q5 q6 q7 f8 q9 q10 f11 m12_0 m12_1 m13_0 m13_1 m14_0 m14_1 m15_0 m15_1 f17 q31 f32 f34 f35 f36 f37 q38 f39 f40 f41 m42_0 m42_1 f43 f44 f47 f48 f49 f50 f51 q54 g_8 g_9 g_10 q58 f59 f60 f64 a1 u_29 y_47 hx16 hx18 hx19 hx21 hx22 hx26 hx28 hx29 hx30 hx33 hx46 hx52 hx53 hx61 (Nat.le_trans hg_11 (Nat.le_of_ble_eq_true rfl)) hg_12 hx65 hm12_0 hm12_1 hm13_0 hm13_1 hm14_0 hm14_1 hm15_0 hm15_1 hm42_0 hm42_1 (Nat.le_trans ha1 (Nat.le_of_ble_eq_true rfl)) hu_29) (cwV 3 hts g_EM_layConditions_p_EM_holdsApart rfl rfl rfl (by decide +kernel) ⟨Nat.le_of_ble_eq_true rfl, Nat.le_of_ble_eq_true rfl⟩) ⟨pu_bl, va_recv hK hP (ci := 9) (q0 := 0) rfl rfl, pu_in hP hK hD⟩ rfl rfl hl.1 rfl (lv_room (Nat.le_of_ble_eq_true rfl)) dX9_layConditions_118 ⟨Nat.le_of_ble_eq_true rfl, Nat.le_of_ble_eq_true rfl⟩) hS (fun q _ h => hFc q h) hFc (fun u t H1 locs ht hvm hw hB hz1 hk1 hS => ?_)
            obtain ⟨z55_49, z56_50, z57_51, ⟨hP1, -, hD1⟩, xr_48_0⟩ := hB
            rw [ht] at hP1
            have hP := hP1
            have hD := pu_all hFc hD1
            clear hP1 hD1 hFc
            clear hk1 hz1 ht hvm
            generalize H1 = H at hP hS ⊢
            replace hsp := hsp.trans (slet_eq xr_48_0)
            refine lv_aload_n hx hb dX9_layConditions_121 rfl (lv_at hl 2 rfl) ?_
            refine va_get (D := (dC, dI)) (ci := 9) (v := .ref (ad 10)) (C := RX9) (T := TX9) (N := 67) hx hb hts hiX9 hown hK hP 0 rfl rfl 10 (by decide) v_12 (fun _ h9 => h9) rfl dX9_layConditions_122 ?_
            refine lv_iload hx hb dX9_layConditions_125 (lv_at hl 1 rfl) ?_
            refine va_iald hx hb hK hP 10 9 rfl rfl (vp_in_nI (n := (80 * x16 + (56 + 3 * (a0 - 100)) + g_13)) (by omega) (Nat.le_of_ble_eq_true rfl)) dX9_layConditions_127 ?_
            refine lv_topi (fun y_52 ey_52 => ?_)
            obtain rfl : y_52 = nI u_32 := ey_52.trans qu_32
            refine lv_iconst (v := 2) hx hb dX9_layConditions_128 (by decide) ?_
            refine lv_icmp_lt (tgt := 166) hx hb dX9_layConditions_129 (by decide) (fun c_54 => ?_) (fun c_54 => ?_)
            · have c_54 : u_32 < 2 := (nI_ltI (a := u_32) (b := 2) (by omega) (Nat.le_of_ble_eq_true rfl)).mp c_54
              refine lv_iinc (v := (nI (g_13 + 1))) (lv' := [(3, .int (nI (g_13 + 1))), (5, .int (nI u_29)), (4, .int (nI (80 * x16 + (56 + 3 * (a0 - 100)) + g_13))), (0, .ref (ad 0)), (1, .int (nI a0)), (2, .int (nI a1))]) hx hb dX9_layConditions_166 hl (k := 5) rfl (nI_1 _) (by decide) rfl (fun ls hl => ?_)
              refine lv_goto (tgt := 2) hx hb dX9_layConditions_169 (by decide) ?_
              exact ih_15 (3 - (g_13 + 1)) (by omega) _ _ _ ⟨z55_49, z56_50, z57_51, (g_11 + 1), g_12, (g_13 + 1), rfl, (by omega), hg_12, (by omega), by omega, hin_19 _ hsp, hP, hD, hS, lv_sub hl [3, 4, 5, 0] rfl⟩
            · have c_54 : ¬ u_32 < 2 := fun z => c_54 ((nI_ltI (a := u_32) (b := 2) (by omega) (Nat.le_of_ble_eq_true rfl)).mpr z)
              exfalso
              omega
      · have c_30 : u_29 = a1 := (nI_eq (a := u_29) (b := a1) (Nat.lt_of_le_of_lt hu_29 (Nat.le_of_ble_eq_true rfl)) (Nat.lt_of_le_of_lt ha1 (Nat.le_of_ble_eq_true rfl))).mp c_30
        replace hsp := hsp.trans (if_pos c_30)
        refine lv_aload_n hx hb dX9_layConditions_39 rfl (lv_at hl 2 rfl) ?_
        refine lv_aload_n hx hb dX9_layConditions_40 rfl (lv_at hl 2 rfl) ?_
        refine va_get (D := (dC, dI)) (ci := 9) (v := .int (nI g_12)) (C := RX9) (T := TX9) (N := 67) hx hb hts hiX9 hown hK hP 0 rfl rfl 63 (by decide) v_18 (fun _ h9 => h9) rfl dX9_layConditions_41 ?_
        refine lv_if_ne (tgt := 67) hx hb dX9_layConditions_44 (by decide) (fun c_55 => ?_) (fun c_55 => ?_)
        · have c_55 : ¬ g_12 = 0 := fun z => c_55 ((nI_eq (a := g_12) (b := 0) (Nat.lt_of_le_of_lt hg_12 (Nat.le_of_ble_eq_true rfl)) (Nat.le_of_ble_eq_true rfl)).mpr z)
          replace hsp := hsp.trans (if_neg c_55)
          refine lv_iconst (v := 1) hx hb dX9_layConditions_67 (by decide) ?_
          refine lv_goto (tgt := 72) hx hb dX9_layConditions_68 (by decide) ?_
          refine va_put (D := (dC, dI)) (ci := 9) (v := .int 1) (ty := .boolean) (C := RX9) (T := TX9) (N := 67) hx hb hts hiX9 tyX9 tyX9_ok nmX9 hown hK hP hD hS 0 rfl rfl 63 (by decide) v_18 (fun _ h9 => h9) rfl (by decide +kernel) rfl rfl (Nat.le_of_ble_eq_true rfl) dX9_layConditions_72 (fun H locs hP hD hS => ?_)
          have hP : va_P (dC, dI) vwCl (mo_w ad ck x0 (nI x16) (nI x18) (nI x19) x20 (nI x21) (nI x22) x23 x24 x25 (nI x26) x27 (nI x28) (nI x29) (nI x30) (nI x33) x45 (nI x46) (nI x52) (nI x53) (nI x61) (nI g_11) 1 (nI x65) x66 f1 f2 f3 (bN 3 q4) (bN 7 q5) (bN 7 q6) (bN 4 q7) f8 (bN 2 q9) (bH q10) f11 (b2 m12_0 m12_1) (b2 m13_0 m13_1) (b2 m14_0 m14_1) (b2m m15_0 m15_1) f17 (bA 159 q31) f32 f34 f35 f36 f37 (bN 7 q38) f39 f40 f41 (b2 m42_0 m42_1) f43 f44 f47 f48 f49 f50 f51 (bN 13 q54) (bN 120 g_8) (bN 120 g_9) g_10 (bN 120 q58) f59 f60 f64) H := hP
          have hD : va_D A (mo_w ad ck x0 (nI x16) (nI x18) (nI x19) x20 (nI x21) (nI x22) x23 x24 x25 (nI x26) x27 (nI x28) (nI x29) (nI x30) (nI x33) x45 (nI x46) (nI x52) (nI x53) (nI x61) (nI g_11) 1 (nI x65) x66 f1 f2 f3 (bN 3 q4) (bN 7 q5) (bN 7 q6) (bN 4 q7) f8 (bN 2 q9) (bH q10) f11 (b2 m12_0 m12_1) (b2 m13_0 m13_1) (b2 m14_0 m14_1) (b2m m15_0 m15_1) f17 (bA 159 q31) f32 f34 f35 f36 f37 (bN 7 q38) f39 f40 f41 (b2 m42_0 m42_1) f43 f44 f47 f48 f49 f50 f51 (bN 13 q54) (bN 120 g_8) (bN 120 g_9) g_10 (bN 120 q58) f59 f60 f64) := hD
          refine lv_goto (tgt := 166) hx hb dX9_layConditions_75 (by decide) ?_
          refine lv_iinc (v := (nI (g_13 + 1))) (lv' := [(3, .int (nI (g_13 + 1))), (5, .int (nI u_29)), (4, .int (nI (80 * x16 + (56 + 3 * (a0 - 100)) + g_13))), (0, .ref (ad 0)), (1, .int (nI a0)), (2, .int (nI a1))]) hx hb dX9_layConditions_166 hl (k := 5) rfl (nI_1 _) (by decide) rfl (fun ls hl => ?_)
          refine lv_goto (tgt := 2) hx hb dX9_layConditions_169 (by decide) ?_
          exact ih_15 (3 - (g_13 + 1)) (by omega) _ _ _ ⟨g_8, g_9, g_10, g_11, 1, (g_13 + 1), rfl, hg_11, (Nat.le_of_ble_eq_true rfl), (by omega), by omega, hin_19 _ hsp, hP, hD, hS, lv_sub hl [3, 4, 5, 0] rfl⟩
        · have c_55 : g_12 = 0 := (nI_eq (a := g_12) (b := 0) (Nat.lt_of_le_of_lt hg_12 (Nat.le_of_ble_eq_true rfl)) (Nat.le_of_ble_eq_true rfl)).mp c_55
          replace hsp := hsp.trans (if_pos c_55)
          refine lv_aload_n hx hb dX9_layConditions_47 rfl (lv_at hl 2 rfl) ?_
          refine va_get (D := (dC, dI)) (ci := 9) (v := .ref (ad 10)) (C := RX9) (T := TX9) (N := 67) hx hb hts hiX9 hown hK hP 0 rfl rfl 10 (by decide) v_12 (fun _ h9 => h9) rfl dX9_layConditions_48 ?_
          refine lv_iload hx hb dX9_layConditions_51 (lv_at hl 1 rfl) ?_
          refine va_iald hx hb hK hP 10 9 rfl rfl (vp_in_nI (n := (80 * x16 + (56 + 3 * (a0 - 100)) + g_13)) (by omega) (Nat.le_of_ble_eq_true rfl)) dX9_layConditions_53 ?_
          refine lv_topi (fun y_56 ey_56 => ?_)
          obtain ⟨u_57, hu_57, qu_57, xu_57⟩ := bH_getx q10 (i := (80 * x16 + (56 + 3 * (a0 - 100)) + g_13)) (by omega)
          obtain rfl : y_56 = nI u_57 := ey_56.trans qu_57
          have hu_57 : u_57 ≤ 1 := (hu_57.2).resolve_left (how_p hx16 (by omega) (by omega))
          replace hsp := hsp.trans (slet_eq xu_57)
          refine lv_if_ne (tgt := 71) hx hb dX9_layConditions_54 (by decide) (fun c_58 => ?_) (fun c_58 => ?_)
          · have c_58 : ¬ u_57 = 0 := fun z => c_58 ((nI_eq (a := u_57) (b := 0) (by omega) (Nat.le_of_ble_eq_true rfl)).mpr z)
            replace hsp := hsp.trans (if_neg c_58)
            refine lv_iconst (v := 0) hx hb dX9_layConditions_71 (by decide) ?_
            refine va_put (D := (dC, dI)) (ci := 9) (v := .int 0) (ty := .boolean) (C := RX9) (T := TX9) (N := 67) hx hb hts hiX9 tyX9 tyX9_ok nmX9 hown hK hP hD hS 0 rfl rfl 63 (by decide) v_18 (fun _ h9 => h9) rfl (by decide +kernel) rfl rfl (Nat.le_of_ble_eq_true rfl) dX9_layConditions_72 (fun H locs hP hD hS => ?_)
            have hP : va_P (dC, dI) vwCl (mo_w ad ck x0 (nI x16) (nI x18) (nI x19) x20 (nI x21) (nI x22) x23 x24 x25 (nI x26) x27 (nI x28) (nI x29) (nI x30) (nI x33) x45 (nI x46) (nI x52) (nI x53) (nI x61) (nI g_11) 0 (nI x65) x66 f1 f2 f3 (bN 3 q4) (bN 7 q5) (bN 7 q6) (bN 4 q7) f8 (bN 2 q9) (bH q10) f11 (b2 m12_0 m12_1) (b2 m13_0 m13_1) (b2 m14_0 m14_1) (b2m m15_0 m15_1) f17 (bA 159 q31) f32 f34 f35 f36 f37 (bN 7 q38) f39 f40 f41 (b2 m42_0 m42_1) f43 f44 f47 f48 f49 f50 f51 (bN 13 q54) (bN 120 g_8) (bN 120 g_9) g_10 (bN 120 q58) f59 f60 f64) H := hP
            have hD : va_D A (mo_w ad ck x0 (nI x16) (nI x18) (nI x19) x20 (nI x21) (nI x22) x23 x24 x25 (nI x26) x27 (nI x28) (nI x29) (nI x30) (nI x33) x45 (nI x46) (nI x52) (nI x53) (nI x61) (nI g_11) 0 (nI x65) x66 f1 f2 f3 (bN 3 q4) (bN 7 q5) (bN 7 q6) (bN 4 q7) f8 (bN 2 q9) (bH q10) f11 (b2 m12_0 m12_1) (b2 m13_0 m13_1) (b2 m14_0 m14_1) (b2m m15_0 m15_1) f17 (bA 159 q31) f32 f34 f35 f36 f37 (bN 7 q38) f39 f40 f41 (b2 m42_0 m42_1) f43 f44 f47 f48 f49 f50 f51 (bN 13 q54) (bN 120 g_8) (bN 120 g_9) g_10 (bN 120 q58) f59 f60 f64) := hD
            refine lv_goto (tgt := 166) hx hb dX9_layConditions_75 (by decide) ?_
            refine lv_iinc (v := (nI (g_13 + 1))) (lv' := [(3, .int (nI (g_13 + 1))), (5, .int (nI u_29)), (4, .int (nI (80 * x16 + (56 + 3 * (a0 - 100)) + g_13))), (0, .ref (ad 0)), (1, .int (nI a0)), (2, .int (nI a1))]) hx hb dX9_layConditions_166 hl (k := 5) rfl (nI_1 _) (by decide) rfl (fun ls hl => ?_)
            refine lv_goto (tgt := 2) hx hb dX9_layConditions_169 (by decide) ?_
            exact ih_15 (3 - (g_13 + 1)) (by omega) _ _ _ ⟨g_8, g_9, g_10, g_11, 0, (g_13 + 1), rfl, hg_11, (Nat.le_of_ble_eq_true rfl), (by omega), by omega, hin_19 _ hsp, hP, hD, hS, lv_sub hl [3, 4, 5, 0] rfl⟩
          · have c_58 : u_57 = 0 := (nI_eq (a := u_57) (b := 0) (by omega) (Nat.le_of_ble_eq_true rfl)).mp c_58
            replace hsp := hsp.trans (if_pos c_58)
            refine lv_aload_n hx hb dX9_layConditions_57 rfl (lv_at hl 2 rfl) ?_
            refine va_get (D := (dC, dI)) (ci := 9) (v := .ref (ad 11)) (C := RX9) (T := TX9) (N := 67) hx hb hts hiX9 hown hK hP 0 rfl rfl 11 (by decide) v_13 (fun _ h9 => h9) rfl dX9_layConditions_58 ?_
            refine lv_iload hx hb dX9_layConditions_61 (lv_at hl 1 rfl) ?_
            refine va_iald hx hb hK hP 11 10 rfl rfl (vp_in_nI (n := (80 * x16 + (56 + 3 * (a0 - 100)) + g_13)) (by omega) (Nat.le_of_ble_eq_true rfl)) dX9_layConditions_63 ?_
            refine lv_topi (fun y_59 ey_59 => ?_)
            have ey_59 : y_59 = f11 (80 * x16 + (56 + 3 * (a0 - 100)) + g_13) := ey_59.trans (congrArg f11 (nI_clamp (n := (80 * x16 + (56 + 3 * (a0 - 100)) + g_13)) (by first | omega | exact Nat.lt_trans (zx16 (by omega) (by omega) (by omega)) (Nat.le_of_ble_eq_true rfl) | exact Nat.lt_trans (zy16 (by omega) (by omega)) (Nat.le_of_ble_eq_true rfl) | exact Nat.lt_trans (zx25 (by omega) (by omega) (by omega)) (Nat.le_of_ble_eq_true rfl) | exact Nat.lt_trans (zy25 (by omega) (by omega)) (Nat.le_of_ble_eq_true rfl))))
            replace hsp := hsp.trans (slet_eq ey_59)
            refine lv_if_ne (tgt := 71) hx hb dX9_layConditions_64 (by decide) (fun c_60 => ?_) (fun c_60 => ?_)
            · have hcc_60 := c_60
              replace hsp := hsp.trans (if_neg c_60)
              refine lv_iconst (v := 0) hx hb dX9_layConditions_71 (by decide) ?_
              refine va_put (D := (dC, dI)) (ci := 9) (v := .int 0) (ty := .boolean) (C := RX9) (T := TX9) (N := 67) hx hb hts hiX9 tyX9 tyX9_ok nmX9 hown hK hP hD hS 0 rfl rfl 63 (by decide) v_18 (fun _ h9 => h9) rfl (by decide +kernel) rfl rfl (Nat.le_of_ble_eq_true rfl) dX9_layConditions_72 (fun H locs hP hD hS => ?_)
              have hP : va_P (dC, dI) vwCl (mo_w ad ck x0 (nI x16) (nI x18) (nI x19) x20 (nI x21) (nI x22) x23 x24 x25 (nI x26) x27 (nI x28) (nI x29) (nI x30) (nI x33) x45 (nI x46) (nI x52) (nI x53) (nI x61) (nI g_11) 0 (nI x65) x66 f1 f2 f3 (bN 3 q4) (bN 7 q5) (bN 7 q6) (bN 4 q7) f8 (bN 2 q9) (bH q10) f11 (b2 m12_0 m12_1) (b2 m13_0 m13_1) (b2 m14_0 m14_1) (b2m m15_0 m15_1) f17 (bA 159 q31) f32 f34 f35 f36 f37 (bN 7 q38) f39 f40 f41 (b2 m42_0 m42_1) f43 f44 f47 f48 f49 f50 f51 (bN 13 q54) (bN 120 g_8) (bN 120 g_9) g_10 (bN 120 q58) f59 f60 f64) H := hP
              have hD : va_D A (mo_w ad ck x0 (nI x16) (nI x18) (nI x19) x20 (nI x21) (nI x22) x23 x24 x25 (nI x26) x27 (nI x28) (nI x29) (nI x30) (nI x33) x45 (nI x46) (nI x52) (nI x53) (nI x61) (nI g_11) 0 (nI x65) x66 f1 f2 f3 (bN 3 q4) (bN 7 q5) (bN 7 q6) (bN 4 q7) f8 (bN 2 q9) (bH q10) f11 (b2 m12_0 m12_1) (b2 m13_0 m13_1) (b2 m14_0 m14_1) (b2m m15_0 m15_1) f17 (bA 159 q31) f32 f34 f35 f36 f37 (bN 7 q38) f39 f40 f41 (b2 m42_0 m42_1) f43 f44 f47 f48 f49 f50 f51 (bN 13 q54) (bN 120 g_8) (bN 120 g_9) g_10 (bN 120 q58) f59 f60 f64) := hD
              refine lv_goto (tgt := 166) hx hb dX9_layConditions_75 (by decide) ?_
              refine lv_iinc (v := (nI (g_13 + 1))) (lv' := [(3, .int (nI (g_13 + 1))), (5, .int (nI u_29)), (4, .int (nI (80 * x16 + (56 + 3 * (a0 - 100)) + g_13))), (0, .ref (ad 0)), (1, .int (nI a0)), (2, .int (nI a1))]) hx hb dX9_layConditions_166 hl (k := 5) rfl (nI_1 _) (by decide) rfl (fun ls hl => ?_)
              refine lv_goto (tgt := 2) hx hb dX9_layConditions_169 (by decide) ?_
              exact ih_15 (3 - (g_13 + 1)) (by omega) _ _ _ ⟨g_8, g_9, g_10, g_11, 0, (g_13 + 1), rfl, hg_11, (Nat.le_of_ble_eq_true rfl), (by omega), by omega, hin_19 _ hsp, hP, hD, hS, lv_sub hl [3, 4, 5, 0] rfl⟩
            · have hcc_60 := c_60
              replace hsp := hsp.trans (if_pos c_60)
              refine lv_iconst (v := 1) hx hb dX9_layConditions_67 (by decide) ?_
              refine lv_goto (tgt := 72) hx hb dX9_layConditions_68 (by decide) ?_
              refine va_put (D := (dC, dI)) (ci := 9) (v := .int 1) (ty := .boolean) (C := RX9) (T := TX9) (N := 67) hx hb hts hiX9 tyX9 tyX9_ok nmX9 hown hK hP hD hS 0 rfl rfl 63 (by decide) v_18 (fun _ h9 => h9) rfl (by decide +kernel) rfl rfl (Nat.le_of_ble_eq_true rfl) dX9_layConditions_72 (fun H locs hP hD hS => ?_)
              have hP : va_P (dC, dI) vwCl (mo_w ad ck x0 (nI x16) (nI x18) (nI x19) x20 (nI x21) (nI x22) x23 x24 x25 (nI x26) x27 (nI x28) (nI x29) (nI x30) (nI x33) x45 (nI x46) (nI x52) (nI x53) (nI x61) (nI g_11) 1 (nI x65) x66 f1 f2 f3 (bN 3 q4) (bN 7 q5) (bN 7 q6) (bN 4 q7) f8 (bN 2 q9) (bH q10) f11 (b2 m12_0 m12_1) (b2 m13_0 m13_1) (b2 m14_0 m14_1) (b2m m15_0 m15_1) f17 (bA 159 q31) f32 f34 f35 f36 f37 (bN 7 q38) f39 f40 f41 (b2 m42_0 m42_1) f43 f44 f47 f48 f49 f50 f51 (bN 13 q54) (bN 120 g_8) (bN 120 g_9) g_10 (bN 120 q58) f59 f60 f64) H := hP
              have hD : va_D A (mo_w ad ck x0 (nI x16) (nI x18) (nI x19) x20 (nI x21) (nI x22) x23 x24 x25 (nI x26) x27 (nI x28) (nI x29) (nI x30) (nI x33) x45 (nI x46) (nI x52) (nI x53) (nI x61) (nI g_11) 1 (nI x65) x66 f1 f2 f3 (bN 3 q4) (bN 7 q5) (bN 7 q6) (bN 4 q7) f8 (bN 2 q9) (bH q10) f11 (b2 m12_0 m12_1) (b2 m13_0 m13_1) (b2 m14_0 m14_1) (b2m m15_0 m15_1) f17 (bA 159 q31) f32 f34 f35 f36 f37 (bN 7 q38) f39 f40 f41 (b2 m42_0 m42_1) f43 f44 f47 f48 f49 f50 f51 (bN 13 q54) (bN 120 g_8) (bN 120 g_9) g_10 (bN 120 q58) f59 f60 f64) := hD
              refine lv_goto (tgt := 166) hx hb dX9_layConditions_75 (by decide) ?_
              refine lv_iinc (v := (nI (g_13 + 1))) (lv' := [(3, .int (nI (g_13 + 1))), (5, .int (nI u_29)), (4, .int (nI (80 * x16 + (56 + 3 * (a0 - 100)) + g_13))), (0, .ref (ad 0)), (1, .int (nI a0)), (2, .int (nI a1))]) hx hb dX9_layConditions_166 hl (k := 5) rfl (nI_1 _) (by decide) rfl (fun ls hl => ?_)
              refine lv_goto (tgt := 2) hx hb dX9_layConditions_169 (by decide) ?_
              exact ih_15 (3 - (g_13 + 1)) (by omega) _ _ _ ⟨g_8, g_9, g_10, g_11, 1, (g_13 + 1), rfl, hg_11, (Nat.le_of_ble_eq_true rfl), (by omega), by omega, hin_19 _ hsp, hP, hD, hS, lv_sub hl [3, 4, 5, 0] rfl⟩
abbrev vs_EM_layConditions_z : List Cond := .code yX9_layConditions cX9_layConditions 6 none :: VM
theorem g_EM_layConditions_z_EM_manyOf_z : GoodIn vs_EM_layConditions_z (wsV RX9 295 RX9 yX9_manyOf vs_EM_manyOf_z) := gm_V vm_152 vm_153 vm_154 vm_19 vm_155
noncomputable def sp_EM_layConditions_z_L1 : (Unit) → (Unit) ⊕ (Unit) := fun () => (Sum.inr ())
noncomputable def sp_EM_layConditions_z : Unit := (itrv (α := Unit) (β := (Unit)) default sp_EM_layConditions_z_L1 ())
set_option maxHeartbeats 4000000 in
set_option maxRecDepth 100000 in
theorem c_EM_layConditions_z (l : Launch) (dC : Nat → ClassId) (dI : Nat → Nat → Nat) (sz : Nat) (ad : Nat → Nat) (ck : Nat → ClassId) (x0 : Int32) (x16 : Nat) (x18 : Nat) (x19 : Nat) (x20 : Int32) (x21 : Nat) (x22 : Nat) (x23 : Int32) (x24 : Int32) (x25 : Int32) (x26 : Nat) (x27 : Int32) (x28 : Nat) (x29 : Nat) (x30 : Nat) (x33 : Nat) (x45 : Int32) (x46 : Nat) (x52 : Nat) (x53 : Nat) (x61 : Nat) (x62 : Nat) (x63 : Nat) (x65 : Nat) (x66 : Int32) (f1 : Nat → Int32) (f2 : Nat → Int32) (f3 : Nat → Int32) (q4 : Nat → Nat) (q5 : Nat → Nat) (q6 : Nat → Nat) (q7 : Nat → Nat) (f8 : Nat → Int32) (q9 : Nat → Nat) (q10 : Nat → Nat) (f11 : Nat → Int32) (m12_0 m12_1 : Nat) (m13_0 m13_1 : Nat) (m14_0 m14_1 : Nat) (m15_0 m15_1 : Nat) (f17 : Nat → Int32) (q31 : Nat → Nat) (f32 : Nat → Int32) (f34 : Nat → Int32) (f35 : Nat → Int32) (f36 : Nat → Int32) (f37 : Nat → Int32) (q38 : Nat → Nat) (f39 : Nat → Int32) (f40 : Nat → Int32) (f41 : Nat → Int32) (m42_0 m42_1 : Nat) (f43 : Nat → Int32) (f44 : Nat → Int32) (f47 : Nat → Int32) (f48 : Nat → Int32) (f49 : Nat → Int32) (f50 : Nat → Int32) (f51 : Nat → Int32) (q54 : Nat → Nat) (q55 : Nat → Nat) (q56 : Nat → Nat) (f57 : Nat → Int32) (q58 : Nat → Nat) (f59 : Nat → Int32) (f60 : Nat → Int32) (f64 : Nat → Int32) (a0 : Nat) (a1 : Nat) (hx16 : x16 ≤ 1) (hx18 : x18 ≤ 900) (hx19 : x19 ≤ 900) (hx21 : x21 ≤ 900) (hx22 : x22 ≤ 4) (hx26 : x26 ≤ 6) (hx28 : x28 ≤ 1) (hx29 : x29 ≤ 1) (hx30 : x30 ≤ 1) (hx33 : x33 ≤ 20) (hx46 : x46 ≤ 5) (hx52 : x52 ≤ 2400) (hx53 : x53 ≤ 119) (hx61 : x61 ≤ 119) (hx62 : x62 ≤ 2000) (hx63 : x63 ≤ 1) (hx65 : x65 ≤ 7) (hm12_0 : m12_0 ≤ 3) (hm12_1 : m12_1 ≤ 3) (hm13_0 : m13_0 ≤ 8) (hm13_1 : m13_1 ≤ 8) (hm14_0 : m14_0 ≤ 14) (hm14_1 : m14_1 ≤ 14) (hm15_0 : m15_0 ≤ 8) (hm15_1 : m15_1 ≤ 8) (hm42_0 : m42_0 ≤ 120) (hm42_1 : m42_1 ≤ 400) (ha0 : a0 ≤ 99) (hb0 : 14 ≤ a0) (ha1 : a1 ≤ 119) : Met l yX9_layConditions vs_EM_layConditions_z ({ frames := 3, cells := 0, slots := 0, locals := 64 }) (va_Pc [.ref (ad 0), .int (nI a0), .int (nI a1)] (pu_B (dC, dI) (mo_w ad ck x0 (nI x16) (nI x18) (nI x19) x20 (nI x21) (nI x22) x23 x24 x25 (nI x26) x27 (nI x28) (nI x29) (nI x30) (nI x33) x45 (nI x46) (nI x52) (nI x53) (nI x61) (nI x62) (nI x63) (nI x65) x66 f1 f2 f3 (bN 3 q4) (bN 7 q5) (bN 7 q6) (bN 4 q7) f8 (bN 2 q9) (bH q10) f11 (b2 m12_0 m12_1) (b2 m13_0 m13_1) (b2 m14_0 m14_1) (b2m m15_0 m15_1) f17 (bA 159 q31) f32 f34 f35 f36 f37 (bN 7 q38) f39 f40 f41 (b2 m42_0 m42_1) f43 f44 f47 f48 f49 f50 f51 (bN 13 q54) (bN 120 q55) (bN 120 q56) f57 (bN 120 q58) f59 f60 f64) (mo_t ck) sz)) (va_Qv (fun (_ : Unit) => True) (fun _ _ => True) (va_A [] sz)) 0 0 (va_A [] sz) := by
  refine Met.ofW (cc := cX9_layConditions) (maxL := 6) (ret := none) (by decide) rfl ?_
  intro p e s m args below meth c s₁ B hml hv
  obtain ⟨rfl, rfl, hP, hK, hD0⟩ := hv
  have hx := B.exec
  have hb := B.bytes
  have hr := B.returns
  have hts := atoms_spec (ws := vs_EM_layConditions_z) B.pre
  have hown : s.vm.findClass RX9 = some m.cls := findClass_of_methodNamed B.named
  have hlocks := B.notSynchronized
  have hD := hD0
  have hA : ∀ q : Nat, s.heap.size ≤ q → va_A [] s.heap.size q := fun _ h => Or.inr h
  have hS : va_S (va_A [] s.heap.size) s.heap s.heap [] := va_S.rf
  have hl := lv_entry ([.ref (ad 0), .int (nI a0), .int (nI a1)]) (n := 6) (Nat.le_of_ble_eq_true rfl)
  rw [lg_entry_eq]
  generalize (lg_sl ([.ref (ad 0), .int (nI a0), .int (nI a1)]) ++ List.replicate (6 - (lg_sl ([.ref (ad 0), .int (nI a0), .int (nI a1)])).length) Slot.unset).toArray = ls at hl ⊢
  have hl : lv_has ls 6 [(0, .ref (ad 0)), (1, .int (nI a0)), (2, .int (nI a1))] := hl
  obtain ⟨RR, hRR⟩ : ∃ x, x = sp_EM_layConditions_z := ⟨_, rfl⟩
  have hsp := hRR
  refine lv_iconst (v := 0) hx hb dX9_layConditions_0 (by decide) ?_
  refine lv_istore_n (lv' := [(3, .int 0), (0, .ref (ad 0)), (1, .int (nI a0)), (2, .int (nI a1))]) hx hb dX9_layConditions_1 rfl hl (by decide) rfl (fun ls hl => ?_)
  obtain ⟨lf_2, dlf_2, hlf_2, hsp⟩ := itr_ex hsp
  delta sp_EM_layConditions_z_L1 at hlf_2
  refine pu_while (fun nn H locs ls => nn = 0 ∧ RR = itrv dlf_2 lf_2 () ∧ va_P (dC, dI) vwCl (mo_w ad ck x0 (nI x16) (nI x18) (nI x19) x20 (nI x21) (nI x22) x23 x24 x25 (nI x26) x27 (nI x28) (nI x29) (nI x30) (nI x33) x45 (nI x46) (nI x52) (nI x53) (nI x61) (nI x62) (nI x63) (nI x65) x66 f1 f2 f3 (bN 3 q4) (bN 7 q5) (bN 7 q6) (bN 4 q7) f8 (bN 2 q9) (bH q10) f11 (b2 m12_0 m12_1) (b2 m13_0 m13_1) (b2 m14_0 m14_1) (b2m m15_0 m15_1) f17 (bA 159 q31) f32 f34 f35 f36 f37 (bN 7 q38) f39 f40 f41 (b2 m42_0 m42_1) f43 f44 f47 f48 f49 f50 f51 (bN 13 q54) (bN 120 q55) (bN 120 q56) f57 (bN 120 q58) f59 f60 f64) H ∧ va_D (fun _ => True) (mo_w ad ck x0 (nI x16) (nI x18) (nI x19) x20 (nI x21) (nI x22) x23 x24 x25 (nI x26) x27 (nI x28) (nI x29) (nI x30) (nI x33) x45 (nI x46) (nI x52) (nI x53) (nI x61) (nI x62) (nI x63) (nI x65) x66 f1 f2 f3 (bN 3 q4) (bN 7 q5) (bN 7 q6) (bN 4 q7) f8 (bN 2 q9) (bH q10) f11 (b2 m12_0 m12_1) (b2 m13_0 m13_1) (b2 m14_0 m14_1) (b2m m15_0 m15_1) f17 (bA 159 q31) f32 f34 f35 f36 f37 (bN 7 q38) f39 f40 f41 (b2 m42_0 m42_1) f43 f44 f47 f48 f49 f50 f51 (bN 13 q54) (bN 120 q55) (bN 120 q56) f57 (bN 120 q58) f59 f60 f64) ∧ va_S (va_A [] s.heap.size) s.heap H locs ∧ lv_has ls 6 [(0, .ref (ad 0)), (1, .int (nI a0)), (2, .int (nI a1)), (3, .int 0)]) 2 ?_ _ _ _ _ ⟨rfl, hsp, hP, hD, hS, lv_sub hl [1, 2, 3, 0] rfl⟩
  rintro nn ih_1 H locs ls ⟨rfl, he_4, hP, hD, hS, hl⟩
  obtain ⟨S_3, hsp, hin_5, hout_6⟩ := itr_step hlf_2 he_4
  refine lv_iload_n hx hb dX9_layConditions_2 rfl (lv_at hl 3 rfl) ?_
  refine lv_aload_n hx hb dX9_layConditions_3 rfl (lv_at hl 0 rfl) ?_
  refine lv_iload_n hx hb dX9_layConditions_4 rfl (lv_at hl 1 rfl) ?_
  refine va_calli (va_runV (As := [.int (nI a0)]) (rest := [.int 0]) ⟨hx, hb, hml, hown, hts⟩ (c_EM_manyOf_z l dC dI _ ad ck x0 x16 x18 x19 x20 x21 x22 x23 x24 x25 x26 x27 x28 x29 x30 x33 x45 x46 x52 x53 x61 x62 x63 x65 x66 f1 f2 f3 q4 q5 q6 q7 f8 q9 q10 f11 m12_0 m12_1 m13_0 m13_1 m14_0 m14_1 m15_0 m15_1 f17 q31 f32 f34 f35 f36 f37 q38 f39 f40 f41 m42_0 m42_1 f43 f44 f47 f48 f49 f50 f51 q54 q55 q56 f57 q58 f59 f60 f64 a0 hx16 hx18 hx19 hx21 hx22 hx26 hx28 hx29 hx30 hx33 hx46 hx52 hx53 hx61 hx62 hx63 hx65 hm12_0 hm12_1 hm13_0 hm13_1 hm14_0 hm14_1 hm15_0 hm15_1 hm42_0 hm42_1 ha0 (by omega)) (cwV 1 hts g_EM_layConditions_z_EM_manyOf_z rfl rfl rfl (by decide +kernel) ⟨Nat.le_of_ble_eq_true rfl, Nat.le_of_ble_eq_true rfl⟩) ⟨pu_bl, va_recv hK hP (ci := 9) (q0 := 0) rfl rfl, pu_in hP hK hD⟩ rfl rfl hl.1 rfl (lv_room (Nat.le_of_ble_eq_true rfl)) dX9_layConditions_5 ⟨Nat.le_of_ble_eq_true rfl, Nat.le_of_ble_eq_true rfl⟩) hS (fun q _ h => pu_fr hS hA q h) (pu_fr hS hA) (fun r_7 u t H1 locs ht hvm hw hB hz1 hk1 hS => ?_)
  have hP := pu_keep hP hk1
  clear hk1 hz1 ht hvm
  generalize H1 = H at hP hS ⊢
  obtain rfl : r_7 = (-1) := hw
  refine lv_icmp_ge (tgt := 172) hx hb dX9_layConditions_8 (by decide) (fun _ => ?_) (fun z => absurd z (by decide))
  have hsp := hout_6 _ hsp
  exact W.vret hx hb hr (fun t ht hW => ⟨⟨(), rfl, trivial, trivial⟩, hS.F ht⟩) hS.2.2 dX9_layConditions_172
