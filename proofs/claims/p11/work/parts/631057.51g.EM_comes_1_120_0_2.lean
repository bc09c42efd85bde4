abbrev vs_EM_comes_1_120_0 : List Cond := .code yX9_comes cX9_comes 10 none :: VM
theorem g_EM_comes_1_120_0_EM_isUrgent : GoodIn vs_EM_comes_1_120_0 (wsV RX9 324 RX9 yX9_isUrgent vs_EM_isUrgent) := gm_V vm_189 vm_190 vm_191 vm_19 vm_192
theorem g_EM_comes_1_120_0_EM_forgets : GoodIn vs_EM_comes_1_120_0 (wsV RX9 352 RX9 yX9_forgets vs_EM_forgets) := gm_V vm_224 vm_225 vm_226 vm_19 vm_227
theorem g_EM_comes_1_120_0_EM_spotOf_1 : GoodIn vs_EM_comes_1_120_0 (va_wsS RX9 355 yX9_spotOf vs_EM_spotOf_1) := gm_S vm_220 vm_221 vm_19 vm_222
theorem g_EM_comes_1_120_0_EM_copies_zn : GoodIn vs_EM_comes_1_120_0 (va_wsS RX9 362 yX9_copies vs_EM_copies_zn) := gm_S vm_228 vm_229 vm_19 vm_230
theorem g_EM_comes_1_120_0_EM_hasAll : GoodIn vs_EM_comes_1_120_0 (wsV RX9 358 RX9 yX9_hasAll vs_EM_hasAll) := gm_V vm_231 vm_232 vm_233 vm_19 vm_234
theorem g_EM_comes_1_120_0_EM_delays : GoodIn vs_EM_comes_1_120_0 (wsV RX9 349 RX9 yX9_delays vs_EM_delays) := gm_V vm_235 vm_236 vm_237 vm_19 vm_238
noncomputable def sp_EM_comes_1_120_0_L1 (x46 : Nat) (f34 : Nat → Int32) (q38 : Nat → Nat) (f39 : Nat → Int32) (f40 : Nat → Int32) (f41 : Nat → Int32) (m42_1 : Nat) (f44 : Nat → Int32) (a1 : Nat) (a5 : Nat) (z35_8 : Nat → Int32) : (Nat) → (Nat) ⊕ ((Nat → Int32) × (Nat → Int32) × (Nat → Nat) × (Nat → Int32) × (Nat → Int32) × (Nat → Int32) × (Nat → Int32) × Nat) := fun g_10 => (if m42_1 ≤ g_10 then (Sum.inr (if m42_1 = 120 then (slet (upd f44 1 (vp_nar .boolean 1)) (fun f_21 => (f34, z35_8, q38, f39, f40, f41, f_21, m42_1))) else (slet (f44 1) (fun y_22 => (if (y_22 : Int32) = 0 then (slet (sp_EM_copies_zn f34 z35_8 (25 * (120 + m42_1))) (fun z34_28 => (slet (updN q38 (120 + m42_1) a1) (fun q_29 => (slet (upd f39 (120 + m42_1) (-1)) (fun f_30 => (slet (upd f40 (120 + m42_1) (-1)) (fun f_31 => (slet (upd f41 (120 + m42_1) 0) (fun f_32 => (z34_28, z35_8, q_29, f_30, f_31, f_32, f44, (m42_1 + 1)))))))))))) else (slet (upd f44 1 (vp_nar .boolean 1)) (fun f_35 => (f34, z35_8, q38, f39, f40, f41, f_35, m42_1)))))))) else (slet (min (q38 (120 + g_10)) 7) (fun u_38 => (if u_38 = a1 then (slet (α := Nat) (if a5 = 0 then 1 else 0) (fun g_40 => (slet (sp_EM_hasAll x46 f34 z35_8 (120 + g_10) g_40) (fun u_45 => (if u_45 = 0 then (Sum.inl (g_10 + 1)) else (Sum.inr (f34, z35_8, q38, f39, f40, f41, f44, m42_1))))))) else (Sum.inl (g_10 + 1))))))
noncomputable def sp_EM_comes_1_120_0 (x16 : Nat) (x46 : Nat) (f3 : Nat → Int32) (q4 : Nat → Nat) (q9 : Nat → Nat) (q10 : Nat → Nat) (f11 : Nat → Int32) (m13_0 : Nat) (m13_1 : Nat) (f34 : Nat → Int32) (f35 : Nat → Int32) (q38 : Nat → Nat) (f39 : Nat → Int32) (f40 : Nat → Int32) (f41 : Nat → Int32) (m42_1 : Nat) (f44 : Nat → Int32) (f47 : Nat → Int32) (f48 : Nat → Int32) (a1 : Nat) (p4 : Int32) (a5 : Nat) : (Nat → Int32) × (Nat → Int32) × (Nat → Nat) × (Nat → Int32) × (Nat → Int32) × (Nat → Int32) × (Nat → Int32) × Nat := (slet (sp_EM_isUrgent x16 f3 a1) (fun u_2 => (slet (α := (Nat → Int32)) (if u_2 = 0 then (slet (sp_EM_delays x16 x46 q4 q9 q10 f11 m13_0 m13_1 f35 a1) (fun z35_50 => z35_50)) else f35) (fun g_3 => (slet (sp_EM_forgets x46 g_3 f47 f48 p4) (fun z35_8 => (itrv (α := Nat) (β := ((Nat → Int32) × (Nat → Int32) × (Nat → Nat) × (Nat → Int32) × (Nat → Int32) × (Nat → Int32) × (Nat → Int32) × Nat)) default (sp_EM_comes_1_120_0_L1 x46 f34 q38 f39 f40 f41 m42_1 f44 a1 a5 z35_8) 0)))))))
set_option maxHeartbeats 4000000 in
set_option maxRecDepth 100000 in
theorem c_EM_comes_1_120_0 (l : Launch) (dC : Nat → ClassId) (dI : Nat → Nat → Nat) (sz : Nat) (ad : Nat → Nat) (ck : Nat → ClassId) (x0 : Int32) (x16 : Nat) (x18 : Nat) (x19 : Nat) (x20 : Int32) (x21 : Nat) (x22 : Nat) (x23 : Int32) (x24 : Int32) (x25 : Int32) (x26 : Nat) (x27 : Int32) (x28 : Nat) (x29 : Nat) (x30 : Nat) (x33 : Nat) (x45 : Int32) (x46 : Nat) (x52 : Nat) (x53 : Nat) (x61 : Nat) (x62 : Nat) (x63 : Nat) (x65 : Nat) (x66 : Int32) (f1 : Nat → Int32) (f2 : Nat → Int32) (f3 : Nat → Int32) (q4 : Nat → Nat) (q5 : Nat → Nat) (q6 : Nat → Nat) (q7 : Nat → Nat) (f8 : Nat → Int32) (q9 : Nat → Nat) (q10 : Nat → Nat) (f11 : Nat → Int32) (m12_0 m12_1 : Nat) (m13_0 m13_1 : Nat) (m14_0 m14_1 : Nat) (m15_0 m15_1 : Nat) (f17 : Nat → Int32) (q31 : Nat → Nat) (f32 : Nat → Int32) (f34 : Nat → Int32) (f35 : Nat → Int32) (f36 : Nat → Int32) (f37 : Nat → Int32) (q38 : Nat → Nat) (f39 : Nat → Int32) (f40 : Nat → Int32) (f41 : Nat → Int32) (m42_0 m42_1 : Nat) (f43 : Nat → Int32) (f44 : Nat → Int32) (f47 : Nat → Int32) (f48 : Nat → Int32) (f49 : Nat → Int32) (f50 : Nat → Int32) (f51 : Nat → Int32) (q54 : Nat → Nat) (q55 : Nat → Nat) (q56 : Nat → Nat) (f57 : Nat → Int32) (q58 : Nat → Nat) (f59 : Nat → Int32) (f60 : Nat → Int32) (f64 : Nat → Int32) (a1 : Nat) (p4 : Int32) (a5 : Nat) (hx16 : x16 ≤ 1) (hx18 : x18 ≤ 900) (hx19 : x19 ≤ 900) (hx21 : x21 ≤ 900) (hx22 : x22 ≤ 4) (hx26 : x26 ≤ 6) (hx28 : x28 ≤ 1) (hx29 : x29 ≤ 1) (hx30 : x30 ≤ 1) (hx33 : x33 ≤ 20) (hx46 : x46 ≤ 5) (hx52 : x52 ≤ 2400) (hx53 : x53 ≤ 119) (hx61 : x61 ≤ 119) (hx62 : x62 ≤ 2000) (hx63 : x63 ≤ 1) (hx65 : x65 ≤ 7) (hm12_0 : m12_0 ≤ 3) (hm12_1 : m12_1 ≤ 3) (hm13_0 : m13_0 ≤ 8) (hm13_1 : m13_1 ≤ 8) (hm14_0 : m14_0 ≤ 14) (hm14_1 : m14_1 ≤ 14) (hm15_0 : m15_0 ≤ 8) (hm15_1 : m15_1 ≤ 8) (hm42_0 : m42_0 ≤ 120) (hm42_1 : m42_1 ≤ 120) (ha1 : a1 ≤ 7) (ha5 : a5 ≤ 1) (hgr : gz_ok m42_0 f39 f40 f41) : Met l yX9_comes vs_EM_comes_1_120_0 ({ frames := 5, cells := 0, slots := 0, locals := 113 }) (va_Pc [.ref (ad 0), .int 1, .int (nI a1), .int (-1), .int (-1), .int p4, .int (nI a5), .int 120] (pu_B (dC, dI) (mo_w ad ck x0 (nI x16) (nI x18) (nI x19) x20 (nI x21) (nI x22) x23 x24 x25 (nI x26) x27 (nI x28) (nI x29) (nI x30) (nI x33) x45 (nI x46) (nI x52) (nI x53) (nI x61) (nI x62) (nI x63) (nI x65) x66 f1 f2 f3 (bN 3 q4) (bN 7 q5) (bN 7 q6) (bN 4 q7) f8 (bN 2 q9) (bH q10) f11 (b2 m12_0 m12_1) (b2 m13_0 m13_1) (b2 m14_0 m14_1) (b2m m15_0 m15_1) f17 (bA 159 q31) f32 f34 f35 f36 f37 (bN 7 q38) f39 f40 f41 (b2 m42_0 m42_1) f43 f44 f47 f48 f49 f50 f51 (bN 13 q54) (bN 120 q55) (bN 120 q56) f57 (bN 120 q58) f59 f60 f64) (mo_t ck) sz)) (va_Qv (fun (_ : Unit) => True) (fun _ t => ∃ (z34 : Nat → Int32) (z35 : Nat → Int32) (z38 : Nat → Nat) (z39 : Nat → Int32) (z40 : Nat → Int32) (z41 : Nat → Int32) (z44 : Nat → Int32) (z42_1 : Nat), pu_E (dC, dI) (mo_w ad ck x0 (nI x16) (nI x18) (nI x19) x20 (nI x21) (nI x22) x23 x24 x25 (nI x26) x27 (nI x28) (nI x29) (nI x30) (nI x33) x45 (nI x46) (nI x52) (nI x53) (nI x61) (nI x62) (nI x63) (nI x65) x66 f1 f2 f3 (bN 3 q4) (bN 7 q5) (bN 7 q6) (bN 4 q7) f8 (bN 2 q9) (bH q10) f11 (b2 m12_0 m12_1) (b2 m13_0 m13_1) (b2 m14_0 m14_1) (b2m m15_0 m15_1) f17 (bA 159 q31) f32 z34 z35 f36 f37 (bN 7 z38) z39 z40 z41 (b2 m42_0 z42_1) f43 z44 f47 f48 f49 f50 f51 (bN 13 q54) (bN 120 q55) (bN 120 q56) f57 (bN 120 q58) f59 f60 f64) (mo_t ck) (va_A ((mo_w ad ck x0 (nI x16) (nI x18) (nI x19) x20 (nI x21) (nI x22) x23 x24 x25 (nI x26) x27 (nI x28) (nI x29) (nI x30) (nI x33) x45 (nI x46) (nI x52) (nI x53) (nI x61) (nI x62) (nI x63) (nI x65) x66 f1 f2 f3 (bN 3 q4) (bN 7 q5) (bN 7 q6) (bN 4 q7) f8 (bN 2 q9) (bH q10) f11 (b2 m12_0 m12_1) (b2 m13_0 m13_1) (b2 m14_0 m14_1) (b2m m15_0 m15_1) f17 (bA 159 q31) f32 f34 f35 f36 f37 (bN 7 q38) f39 f40 f41 (b2 m42_0 m42_1) f43 f44 f47 f48 f49 f50 f51 (bN 13 q54) (bN 120 q55) (bN 120 q56) f57 (bN 120 q58) f59 f60 f64)) sz) t ∧ (z42_1 ≤ 120) ∧ (gz_ok m42_0 z39 z40 z41) ∧ (m42_1 ≤ z42_1) ∧ ((z34, z35, z38, z39, z40, z41, z44, z42_1) = (sp_EM_comes_1_120_0 x16 x46 f3 q4 q9 q10 f11 m13_0 m13_1 f34 f35 q38 f39 f40 f41 m42_1 f44 f47 f48 a1 p4 a5))) (va_A ((mo_w ad ck x0 (nI x16) (nI x18) (nI x19) x20 (nI x21) (nI x22) x23 x24 x25 (nI x26) x27 (nI x28) (nI x29) (nI x30) (nI x33) x45 (nI x46) (nI x52) (nI x53) (nI x61) (nI x62) (nI x63) (nI x65) x66 f1 f2 f3 (bN 3 q4) (bN 7 q5) (bN 7 q6) (bN 4 q7) f8 (bN 2 q9) (bH q10) f11 (b2 m12_0 m12_1) (b2 m13_0 m13_1) (b2 m14_0 m14_1) (b2m m15_0 m15_1) f17 (bA 159 q31) f32 f34 f35 f36 f37 (bN 7 q38) f39 f40 f41 (b2 m42_0 m42_1) f43 f44 f47 f48 f49 f50 f51 (bN 13 q54) (bN 120 q55) (bN 120 q56) f57 (bN 120 q58) f59 f60 f64)) sz)) 0 0 (va_A ((mo_w ad ck x0 (nI x16) (nI x18) (nI x19) x20 (nI x21) (nI x22) x23 x24 x25 (nI x26) x27 (nI x28) (nI x29) (nI x30) (nI x33) x45 (nI x46) (nI x52) (nI x53) (nI x61) (nI x62) (nI x63) (nI x65) x66 f1 f2 f3 (bN 3 q4) (bN 7 q5) (bN 7 q6) (bN 4 q7) f8 (bN 2 q9) (bH q10) f11 (b2 m12_0 m12_1) (b2 m13_0 m13_1) (b2 m14_0 m14_1) (b2m m15_0 m15_1) f17 (bA 159 q31) f32 f34 f35 f36 f37 (bN 7 q38) f39 f40 f41 (b2 m42_0 m42_1) f43 f44 f47 f48 f49 f50 f51 (bN 13 q54) (bN 120 q55) (bN 120 q56) f57 (bN 120 q58) f59 f60 f64)) sz) := by
  refine Met.ofW (cc := cX9_comes) (maxL := 10) (ret := none) (by decide) rfl ?_
  intro p e s m args below meth c s₁ B hml hv
  obtain ⟨rfl, rfl, hP, hK, hD0⟩ := hv
  have hx := B.exec
  have hb := B.bytes
  have hr := B.returns
  have hts := atoms_spec (ws := vs_EM_comes_1_120_0) B.pre
  have v_6 := hts (.fieldLink RX9 71 "ClockReachModel" "z" "[I") (List.mem_cons_of_mem _ vm_219)
  have v_15 := hts (.fieldLink RX9 92 "ClockReachModel" "stateMany" "[I") (List.mem_cons_of_mem _ vm_164)
  have v_16 := hts (.fieldLink RX9 98 "ClockReachModel" "isFull" "[Z") (List.mem_cons_of_mem _ vm_165)
  have v_20 := hts (.fieldLink RX9 68 "ClockReachModel" "zone" "[I") (List.mem_cons_of_mem _ vm_214)
  have v_24 := hts (.fieldLink RX9 80 "ClockReachModel" "statePlace" "[I") (List.mem_cons_of_mem _ vm_223)
  have v_25 := hts (.fieldLink RX9 83 "ClockReachModel" "stateFrom" "[I") (List.mem_cons_of_mem _ vm_239)
  have v_26 := hts (.fieldLink RX9 86 "ClockReachModel" "stateBy" "[I") (List.mem_cons_of_mem _ vm_240)
  have v_27 := hts (.fieldLink RX9 89 "ClockReachModel" "stateDeep" "[I") (List.mem_cons_of_mem _ vm_241)
  have hown : s.vm.findClass RX9 = some m.cls := findClass_of_methodNamed B.named
  have hlocks := B.notSynchronized
  have hiX9 : ∀ w ∈ wsX90, w ∈ vs_EM_comes_1_120_0 := fun _ h => List.mem_cons_of_mem _ (vmi_L h)
  have hD := hD0.self (sz := s.heap.size)
  generalize hAe : va_A ((mo_w ad ck x0 (nI x16) (nI x18) (nI x19) x20 (nI x21) (nI x22) x23 x24 x25 (nI x26) x27 (nI x28) (nI x29) (nI x30) (nI x33) x45 (nI x46) (nI x52) (nI x53) (nI x61) (nI x62) (nI x63) (nI x65) x66 f1 f2 f3 (bN 3 q4) (bN 7 q5) (bN 7 q6) (bN 4 q7) f8 (bN 2 q9) (bH q10) f11 (b2 m12_0 m12_1) (b2 m13_0 m13_1) (b2 m14_0 m14_1) (b2m m15_0 m15_1) f17 (bA 159 q31) f32 f34 f35 f36 f37 (bN 7 q38) f39 f40 f41 (b2 m42_0 m42_1) f43 f44 f47 f48 f49 f50 f51 (bN 13 q54) (bN 120 q55) (bN 120 q56) f57 (bN 120 q58) f59 f60 f64)) s.heap.size = A at hD ⊢
  have hA : ∀ q : Nat, s.heap.size ≤ q → A q := fun q h => by rw [← hAe]; exact Or.inr h
  have hS : va_S A s.heap s.heap [] := va_S.rf
  have hl := lv_entry ([.ref (ad 0), .int 1, .int (nI a1), .int (-1), .int (-1), .int p4, .int (nI a5), .int 120]) (n := 10) (Nat.le_of_ble_eq_true rfl)
  rw [lg_entry_eq]
  generalize (lg_sl ([.ref (ad 0), .int 1, .int (nI a1), .int (-1), .int (-1), .int p4, .int (nI a5), .int 120]) ++ List.replicate (10 - (lg_sl ([.ref (ad 0), .int 1, .int (nI a1), .int (-1), .int (-1), .int p4, .int (nI a5), .int 120])).length) Slot.unset).toArray = ls at hl ⊢
  have hl : lv_has ls 10 [(0, .ref (ad 0)), (1, .int 1), (2, .int (nI a1)), (3, .int (-1)), (4, .int (-1)), (5, .int p4), (6, .int (nI a5)), (7, .int 120)] := hl
  obtain ⟨RR, hRR⟩ : ∃ x, x = (sp_EM_comes_1_120_0 x16 x46 f3 q4 q9 q10 f11 m13_0 m13_1 f34 f35 q38 f39 f40 f41 m42_1 f44 f47 f48 a1 p4 a5) := ⟨_, rfl⟩
  have hsp := hRR
  refine lv_aload_n hx hb dX9_comes_0 rfl (lv_at hl 0 rfl) ?_
  refine lv_iload_n hx hb dX9_comes_1 rfl (lv_at hl 2 rfl) ?_
  refine va_calli (va_runV (As := [.int (nI a1)]) (rest := []) ⟨hx, hb, hml, hown, hts⟩ (c_EM_isUrgent l dC dI _ ad ck x0 x16 x18 x19 x20 x21 x22 x23 x24 x25 x26 x27 x28 x29 x30 x33 x45 x46 x52 x53 x61 x62 x63 x65 x66 f1 f2 f3 q4 q5 q6 q7 f8 q9 q10 f11 m12_0 m12_1 m13_0 m13_1 m14_0 m14_1 m15_0 m15_1 f17 q31 f32 f34 f35 f36 f37 q38 f39 f40 f41 m42_0 m42_1 f43 f44 f47 f48 f49 f50 f51 q54 q55 q56 f57 q58 f59 f60 f64 a1 hx16 hx18 hx19 hx21 hx22 hx26 hx28 hx29 hx30 hx33 hx46 hx52 hx53 hx61 hx62 hx63 hx65 hm12_0 hm12_1 hm13_0 hm13_1 hm14_0 hm14_1 hm15_0 hm15_1 hm42_0 (Nat.le_trans hm42_1 (Nat.le_of_ble_eq_true rfl)) ha1) (cwV 1 hts g_EM_comes_1_120_0_EM_isUrgent rfl rfl rfl (by decide +kernel) ⟨Nat.le_of_ble_eq_true rfl, Nat.le_of_ble_eq_true rfl⟩) ⟨pu_bl, va_recv hK hP (ci := 9) (q0 := 0) rfl rfl, pu_in hP hK hD⟩ rfl rfl hl.1 rfl (lv_room (Nat.le_of_ble_eq_true rfl)) dX9_comes_2 ⟨Nat.le_of_ble_eq_true rfl, Nat.le_of_ble_eq_true rfl⟩) hS (fun q _ h => pu_fr hS hA q h) (pu_fr hS hA) (fun r_1 u t H1 locs ht hvm hw hB hz1 hk1 hS => ?_)
  have hP := pu_keep hP hk1
  clear hk1 hz1 ht hvm
  generalize H1 = H at hP hS ⊢
  obtain ⟨u_2, hu_2, rfl, iu_2⟩ := hw
  replace hsp := hsp.trans (slet_eq iu_2)
  obtain ⟨JR_5, hJR_5, hsp⟩ := slet_ex hsp
  refine pu_join (fun H locs ls st => ∃ (g_3 : Nat → Int32), st = [] ∧ g_3 = JR_5 ∧ va_P (dC, dI) vwCl (mo_w ad ck x0 (nI x16) (nI x18) (nI x19) x20 (nI x21) (nI x22) x23 x24 x25 (nI x26) x27 (nI x28) (nI x29) (nI x30) (nI x33) x45 (nI x46) (nI x52) (nI x53) (nI x61) (nI x62) (nI x63) (nI x65) x66 f1 f2 f3 (bN 3 q4) (bN 7 q5) (bN 7 q6) (bN 4 q7) f8 (bN 2 q9) (bH q10) f11 (b2 m12_0 m12_1) (b2 m13_0 m13_1) (b2 m14_0 m14_1) (b2m m15_0 m15_1) f17 (bA 159 q31) f32 f34 g_3 f36 f37 (bN 7 q38) f39 f40 f41 (b2 m42_0 m42_1) f43 f44 f47 f48 f49 f50 f51 (bN 13 q54) (bN 120 q55) (bN 120 q56) f57 (bN 120 q58) f59 f60 f64) H ∧ va_D A (mo_w ad ck x0 (nI x16) (nI x18) (nI x19) x20 (nI x21) (nI x22) x23 x24 x25 (nI x26) x27 (nI x28) (nI x29) (nI x30) (nI x33) x45 (nI x46) (nI x52) (nI x53) (nI x61) (nI x62) (nI x63) (nI x65) x66 f1 f2 f3 (bN 3 q4) (bN 7 q5) (bN 7 q6) (bN 4 q7) f8 (bN 2 q9) (bH q10) f11 (b2 m12_0 m12_1) (b2 m13_0 m13_1) (b2 m14_0 m14_1) (b2m m15_0 m15_1) f17 (bA 159 q31) f32 f34 g_3 f36 f37 (bN 7 q38) f39 f40 f41 (b2 m42_0 m42_1) f43 f44 f47 f48 f49 f50 f51 (bN 13 q54) (bN 120 q55) (bN 120 q56) f57 (bN 120 q58) f59 f60 f64) ∧ va_S A s.heap H locs ∧ lv_has ls 10 [(0, .ref (ad 0)), (1, .int 1), (2, .int (nI a1)), (3, .int (-1)), (4, .int (-1)), (5, .int p4), (6, .int (nI a5)), (7, .int 120)]) 17 ?_ (fun j_4 => ?_)
  · rintro H locs ls st ⟨g_3, rfl, he_6, hP, hD, hS, hl⟩
    rw [← he_6] at hsp
    refine lv_aload_n hx hb dX9_comes_17 rfl (lv_at hl 0 rfl) ?_
    refine lv_aload_n hx hb dX9_comes_18 rfl (lv_at hl 0 rfl) ?_
    refine va_get (D := (dC, dI)) (ci := 9) (v := .ref (ad 35)) (C := RX9) (T := TX9) (N := 67) hx hb hts hiX9 hown hK hP 0 rfl rfl 35 (by decide) v_6 (fun _ h9 => h9) rfl dX9_comes_19 ?_
    refine lv_iload hx hb dX9_comes_22 (lv_at hl 5 rfl) ?_
    have hFc := pu_free hD hS hA
    refine va_callv (va_runV (As := [.ref (ad 35), .int p4]) (rest := []) ⟨hx, hb, hml, hown, hts⟩ (c_EM_forgets l dC dI _ ad ck x0 x16 x18 x19 x20 x21 x22 x23 x24 x25 x26 x27 x28 x29 x30 x33 x45 x46 x52 x53 x61 x62 x63 x65 x66 f1 f2 f3 q4 q5 q6 q7 f8 q9 q10 f11 m12_0 m12_1 m13_0 m13_1 m14_0 m14_1 m15_0 m15_1 f17 q31 f32 f34 g_3 f36 f37 q38 f39 f40 f41 m42_0 m42_1 f43 f44 f47 f48 f49 f50 f51 q54 q55 q56 f57 q58 f59 f60 f64 p4 hx16 hx18 hx19 hx21 hx22 hx26 hx28 hx29 hx30 hx33 hx46 hx52 hx53 hx61 hx62 hx63 hx65 hm12_0 hm12_1 hm13_0 hm13_1 hm14_0 hm14_1 hm15_0 hm15_1 hm42_0 (Nat.le_trans hm42_1 (Nat.le_of_ble_eq_true rfl))) (cwV 2 hts g_EM_comes_1_120_0_EM_forgets rfl rfl rfl (by decide +kernel) ⟨Nat.le_of_ble_eq_true rfl, Nat.le_of_ble_eq_true rfl⟩) ⟨pu_bl, va_recv hK hP (ci := 9) (q0 := 0) rfl rfl, pu_in hP hK hD⟩ rfl rfl hl.1 rfl (lv_room (Nat.le_of_ble_eq_true rfl)) dX9_comes_24 ⟨Nat.le_of_ble_eq_true rfl, Nat.le_of_ble_eq_true rfl⟩) hS (fun q _ h => hFc q h) hFc (fun u t H1 locs ht hvm hw hB hz1 hk1 hS => ?_)
    obtain ⟨z35_8, ⟨hP1, -, hD1⟩, xr_7_0⟩ := hB
    rw [ht] at hP1
    have hP := hP1
    have hD := pu_all hFc hD1
    clear hP1 hD1 hFc
    clear hk1 hz1 ht hvm
    generalize H1 = H at hP hS ⊢
    replace hsp := hsp.trans (slet_eq xr_7_0)
    refine lv_iconst (v := 0) hx hb dX9_comes_27 (by decide) ?_
    refine lv_istore (lv' := [(8, .int 0), (0, .ref (ad 0)), (1, .int 1), (2, .int (nI a1)), (3, .int (-1)), (4, .int (-1)), (5, .int p4), (6, .int (nI a5)), (7, .int 120)]) hx hb dX9_comes_28 hl (by decide) rfl (fun ls hl => ?_)
    obtain ⟨lf_12, dlf_12, hlf_12, hsp⟩ := itr_ex hsp
    delta sp_EM_comes_1_120_0_L1 at hlf_12
    refine pu_while (fun nn H locs ls => ∃ (g_10 : Nat), nn = 120 - g_10 ∧ g_10 ≤ 120 ∧ RR = itrv dlf_12 lf_12 g_10 ∧ va_P (dC, dI) vwCl (mo_w ad ck x0 (nI x16) (nI x18) (nI x19) x20 (nI x21) (nI x22) x23 x24 x25 (nI x26) x27 (nI x28) (nI x29) (nI x30) (nI x33) x45 (nI x46) (nI x52) (nI x53) (nI x61) (nI x62) (nI x63) (nI x65) x66 f1 f2 f3 (bN 3 q4) (bN 7 q5) (bN 7 q6) (bN 4 q7) f8 (bN 2 q9) (bH q10) f11 (b2 m12_0 m12_1) (b2 m13_0 m13_1) (b2 m14_0 m14_1) (b2m m15_0 m15_1) f17 (bA 159 q31) f32 f34 z35_8 f36 f37 (bN 7 q38) f39 f40 f41 (b2 m42_0 m42_1) f43 f44 f47 f48 f49 f50 f51 (bN 13 q54) (bN 120 q55) (bN 120 q56) f57 (bN 120 q58) f59 f60 f64) H ∧ va_D A (mo_w ad ck x0 (nI x16) (nI x18) (nI x19) x20 (nI x21) (nI x22) x23 x24 x25 (nI x26) x27 (nI x28) (nI x29) (nI x30) (nI x33) x45 (nI x46) (nI x52) (nI x53) (nI x61) (nI x62) (nI x63) (nI x65) x66 f1 f2 f3 (bN 3 q4) (bN 7 q5) (bN 7 q6) (bN 4 q7) f8 (bN 2 q9) (bH q10) f11 (b2 m12_0 m12_1) (b2 m13_0 m13_1) (b2 m14_0 m14_1) (b2m m15_0 m15_1) f17 (bA 159 q31) f32 f34 z35_8 f36 f37 (bN 7 q38) f39 f40 f41 (b2 m42_0 m42_1) f43 f44 f47 f48 f49 f50 f51 (bN 13 q54) (bN 120 q55) (bN 120 q56) f57 (bN 120 q58) f59 f60 f64) ∧ va_S A s.heap H locs ∧ lv_has ls 10 [(0, .ref (ad 0)), (1, .int 1), (2, .int (nI a1)), (3, .int (-1)), (4, .int (-1)), (5, .int p4), (6, .int (nI a5)), (7, .int 120), (8, .int (nI g_10))]) 30 ?_ _ _ _ _ ⟨0, rfl, (Nat.le_of_ble_eq_true rfl), hsp, hP, hD, hS, lv_sub hl [1, 2, 3, 4, 5, 6, 7, 8, 0] rfl⟩
    rintro nn ih_11 H locs ls ⟨g_10, rfl, hg_10, he_14, hP, hD, hS, hl⟩
    obtain ⟨S_13, hsp, hin_15, hout_16⟩ := itr_step hlf_12 he_14
    refine lv_iload hx hb dX9_comes_30 (lv_at hl 8 rfl) ?_
    refine lv_aload_n hx hb dX9_comes_32 rfl (lv_at hl 0 rfl) ?_
    refine va_get (D := (dC, dI)) (ci := 9) (v := .ref (ad 42)) (C := RX9) (T := TX9) (N := 67) hx hb hts hiX9 hown hK hP 0 rfl rfl 42 (by decide) v_15 (fun _ h9 => h9) rfl dX9_comes_33 ?_
    refine lv_iload_n hx hb dX9_comes_36 rfl (lv_at hl 1 rfl) ?_
    refine va_iald hx hb hK hP 27 26 rfl rfl (vp_in_nI (n := 1) (Nat.le_of_ble_eq_true rfl) (Nat.le_of_ble_eq_true rfl)) dX9_comes_37 ?_
    refine lv_topi (fun y_17 ey_17 => ?_)
    have qy_17 := ey_17.trans b2_1
    clear ey_17
    obtain rfl : y_17 = nI m42_1 := qy_17
    refine lv_icmp_ge (tgt := 90) hx hb dX9_comes_38 (by decide) (fun c_18 => ?_) (fun c_18 => ?_)
    · have c_18 : m42_1 ≤ g_10 := (nI_leI (a := m42_1) (b := g_10) (Nat.lt_of_le_of_lt hm42_1 (Nat.le_of_ble_eq_true rfl)) (Nat.lt_of_le_of_lt hg_10 (Nat.le_of_ble_eq_true rfl))).mp c_18
      replace hsp := hsp.trans (if_pos c_18)
      have hsp := hout_16 _ hsp
      refine lv_aload_n hx hb dX9_comes_90 rfl (lv_at hl 0 rfl) ?_
      refine va_get (D := (dC, dI)) (ci := 9) (v := .ref (ad 42)) (C := RX9) (T := TX9) (N := 67) hx hb hts hiX9 hown hK hP 0 rfl rfl 42 (by decide) v_15 (fun _ h9 => h9) rfl dX9_comes_91 ?_
      refine lv_iload_n hx hb dX9_comes_94 rfl (lv_at hl 1 rfl) ?_
      refine va_iald hx hb hK hP 27 26 rfl rfl (vp_in_nI (n := 1) (Nat.le_of_ble_eq_true rfl) (Nat.le_of_ble_eq_true rfl)) dX9_comes_95 ?_
      refine lv_topi (fun y_19 ey_19 => ?_)
      have qy_19 := ey_19.trans b2_1
      clear ey_19
      obtain rfl : y_19 = nI m42_1 := qy_19
      refine lv_iload hx hb dX9_comes_96 (lv_at hl 7 rfl) ?_
      refine lv_icmp_eq (tgt := 110) hx hb dX9_comes_98 (by decide) (fun c_20 => ?_) (fun c_20 => ?_)
      · have c_20 : m42_1 = 120 := (nI_eq (a := m42_1) (b := 120) (Nat.lt_of_le_of_lt hm42_1 (Nat.le_of_ble_eq_true rfl)) (Nat.le_of_ble_eq_true rfl)).mp c_20
        replace hsp := hsp.trans (if_pos c_20)
        refine lv_aload_n hx hb dX9_comes_110 rfl (lv_at hl 0 rfl) ?_
        refine va_get (D := (dC, dI)) (ci := 9) (v := .ref (ad 44)) (C := RX9) (T := TX9) (N := 67) hx hb hts hiX9 hown hK hP 0 rfl rfl 44 (by decide) v_16 (fun _ h9 => h9) rfl dX9_comes_111 ?_
        refine lv_iload_n hx hb dX9_comes_114 rfl (lv_at hl 1 rfl) ?_
        refine lv_iconst (v := 1) hx hb dX9_comes_115 (by decide) ?_
        refine va_zast hx hb hK hP hD hS 29 28 rfl rfl (vp_in_nI (n := 1) (Nat.le_of_ble_eq_true rfl) (Nat.le_of_ble_eq_true rfl)) dX9_comes_116 (fun H locs hP hD hS => ?_)
        obtain ⟨f_21, ef_21, xf_21⟩ := up_x f44 (n := 1) (vp_nar .boolean 1) (Nat.le_of_ble_eq_true rfl)
        have hP : va_P (dC, dI) vwCl (mo_w ad ck x0 (nI x16) (nI x18) (nI x19) x20 (nI x21) (nI x22) x23 x24 x25 (nI x26) x27 (nI x28) (nI x29) (nI x30) (nI x33) x45 (nI x46) (nI x52) (nI x53) (nI x61) (nI x62) (nI x63) (nI x65) x66 f1 f2 f3 (bN 3 q4) (bN 7 q5) (bN 7 q6) (bN 4 q7) f8 (bN 2 q9) (bH q10) f11 (b2 m12_0 m12_1) (b2 m13_0 m13_1) (b2 m14_0 m14_1) (b2m m15_0 m15_1) f17 (bA 159 q31) f32 f34 z35_8 f36 f37 (bN 7 q38) f39 f40 f41 (b2 m42_0 m42_1) f43 f_21 f47 f48 f49 f50 f51 (bN 13 q54) (bN 120 q55) (bN 120 q56) f57 (bN 120 q58) f59 f60 f64) H := by rw [← ef_21]; exact hP
        have hD : va_D A (mo_w ad ck x0 (nI x16) (nI x18) (nI x19) x20 (nI x21) (nI x22) x23 x24 x25 (nI x26) x27 (nI x28) (nI x29) (nI x30) (nI x33) x45 (nI x46) (nI x52) (nI x53) (nI x61) (nI x62) (nI x63) (nI x65) x66 f1 f2 f3 (bN 3 q4) (bN 7 q5) (bN 7 q6) (bN 4 q7) f8 (bN 2 q9) (bH q10) f11 (b2 m12_0 m12_1) (b2 m13_0 m13_1) (b2 m14_0 m14_1) (b2m m15_0 m15_1) f17 (bA 159 q31) f32 f34 z35_8 f36 f37 (bN 7 q38) f39 f40 f41 (b2 m42_0 m42_1) f43 f_21 f47 f48 f49 f50 f51 (bN 13 q54) (bN 120 q55) (bN 120 q56) f57 (bN 120 q58) f59 f60 f64) := by rw [← ef_21]; exact hD
        replace hsp := hsp.trans (slet_eq xf_21)
        exact W.vret hx hb hr (fun t ht hW => ⟨⟨(), rfl, trivial, ⟨f34, z35_8, q38, f39, f40, f41, f_21, m42_1, ⟨by rw [ht]; exact hP, va_K.moved hW.alike hK, hD⟩, hm42_1, hgr, by omega, (hsp.symm.trans hRR)⟩⟩, hS.F ht⟩) hS.2.2 dX9_comes_117
      · have c_20 : ¬ m42_1 = 120 := fun z => c_20 ((nI_eq (a := m42_1) (b := 120) (Nat.lt_of_le_of_lt hm42_1 (Nat.le_of_ble_eq_true rfl)) (Nat.le_of_ble_eq_true rfl)).mpr z)
        replace hsp := hsp.trans (if_neg c_20)
        refine lv_aload_n hx hb dX9_comes_101 rfl (lv_at hl 0 rfl) ?_
        refine va_get (D := (dC, dI)) (ci := 9) (v := .ref (ad 44)) (C := RX9) (T := TX9) (N := 67) hx hb hts hiX9 hown hK hP 0 rfl rfl 44 (by decide) v_16 (fun _ h9 => h9) rfl dX9_comes_102 ?_
        refine lv_iload_n hx hb dX9_comes_105 rfl (lv_at hl 1 rfl) ?_
        refine va_zald hx hb hK hP 29 28 rfl rfl (vp_in_nI (n := 1) (Nat.le_of_ble_eq_true rfl) (Nat.le_of_ble_eq_true rfl)) dX9_comes_106 ?_
        refine lv_topi (fun y_22 ey_22 => ?_)
        have ey_22 : y_22 = f44 1 := ey_22.trans (congrArg f44 (nI_clamp (n := 1) (Nat.le_of_ble_eq_true rfl)))
        replace hsp := hsp.trans (slet_eq ey_22)
        refine lv_if_eq (tgt := 118) hx hb dX9_comes_107 (by decide) (fun c_23 => ?_) (fun c_23 => ?_)
        · have hcc_23 := c_23
          replace hsp := hsp.trans (if_pos c_23)
          refine lv_iload_n hx hb dX9_comes_118 rfl (lv_at hl 1 rfl) ?_
          refine lv_aload_n hx hb dX9_comes_119 rfl (lv_at hl 0 rfl) ?_
          refine va_get (D := (dC, dI)) (ci := 9) (v := .ref (ad 42)) (C := RX9) (T := TX9) (N := 67) hx hb hts hiX9 hown hK hP 0 rfl rfl 42 (by decide) v_15 (fun _ h9 => h9) rfl dX9_comes_120 ?_
          refine lv_iload_n hx hb dX9_comes_123 rfl (lv_at hl 1 rfl) ?_
          refine va_iald hx hb hK hP 27 26 rfl rfl (vp_in_nI (n := 1) (Nat.le_of_ble_eq_true rfl) (Nat.le_of_ble_eq_true rfl)) dX9_comes_124 ?_
          refine lv_topi (fun y_24 ey_24 => ?_)
          have qy_24 := ey_24.trans b2_1
          clear ey_24
          obtain rfl : y_24 = nI m42_1 := qy_24
          refine va_calli (va_runS (As := [.int 1, .int (nI m42_1)]) (rest := []) ⟨hx, hb, hml, hown, hts⟩ (c_EM_spotOf_1 l dC dI _ ad ck x0 x16 x18 x19 x20 x21 x22 x23 x24 x25 x26 x27 x28 x29 x30 x33 x45 x46 x52 x53 x61 x62 x63 x65 x66 f1 f2 f3 q4 q5 q6 q7 f8 q9 q10 f11 m12_0 m12_1 m13_0 m13_1 m14_0 m14_1 m15_0 m15_1 f17 q31 f32 f34 z35_8 f36 f37 q38 f39 f40 f41 m42_0 m42_1 f43 f44 f47 f48 f49 f50 f51 q54 q55 q56 f57 q58 f59 f60 f64 m42_1 hx16 hx18 hx19 hx21 hx22 hx26 hx28 hx29 hx30 hx33 hx46 hx52 hx53 hx61 hx62 hx63 hx65 hm12_0 hm12_1 hm13_0 hm13_1 hm14_0 hm14_1 hm15_0 hm15_1 hm42_0 (Nat.le_trans hm42_1 (Nat.le_of_ble_eq_true rfl)) (Nat.le_trans hm42_1 (Nat.le_of_ble_eq_true rfl))) (va_cwS 2 hts g_EM_comes_1_120_0_EM_spotOf_1 rfl rfl rfl (by decide +kernel) ⟨Nat.le_of_ble_eq_true rfl, Nat.le_of_ble_eq_true rfl⟩) ⟨pu_bl, pu_in hP hK hD⟩ rfl rfl hl.1 rfl (lv_room (Nat.le_of_ble_eq_true rfl)) dX9_comes_125 ⟨Nat.le_of_ble_eq_true rfl, Nat.le_of_ble_eq_true rfl⟩) hS (fun q _ h => pu_fr hS hA q h) (pu_fr hS hA) (fun r_25 u t H1 locs ht hvm hw hB hz1 hk1 hS => ?_)
          have hP := pu_keep hP hk1
          clear hk1 hz1 ht hvm
          generalize H1 = H at hP hS ⊢
          obtain rfl : r_25 = nI (120 + m42_1) := hw
          refine lv_istore (lv' := [(8, .int (nI (120 + m42_1))), (0, .ref (ad 0)), (1, .int 1), (2, .int (nI a1)), (3, .int (-1)), (4, .int (-1)), (5, .int p4), (6, .int (nI a5)), (7, .int 120)]) hx hb dX9_comes_128 hl (by decide) rfl (fun ls hl => ?_)
          refine lv_aload_n hx hb dX9_comes_130 rfl (lv_at hl 1 rfl) ?_
          refine va_get (D := (dC, dI)) (ci := 9) (v := .ref (ad 35)) (C := RX9) (T := TX9) (N := 67) hx hb hts hiX9 hown hK hP 0 rfl rfl 35 (by decide) v_6 (fun _ h9 => h9) rfl dX9_comes_131 ?_
          refine lv_iconst (v := 0) hx hb dX9_comes_134 (by decide) ?_
          refine lv_aload_n hx hb dX9_comes_135 rfl (lv_at hl 1 rfl) ?_
          refine va_get (D := (dC, dI)) (ci := 9) (v := .ref (ad 34)) (C := RX9) (T := TX9) (N := 67) hx hb hts hiX9 hown hK hP 0 rfl rfl 34 (by decide) v_20 (fun _ h9 => h9) rfl dX9_comes_136 ?_
          refine lv_bipush (v := 25) hx hb dX9_comes_139 (by decide) ?_
          refine lv_iload hx hb dX9_comes_141 (lv_at hl 0 rfl) ?_
          refine lv_imul hx hb dX9_comes_143 ?_
          refine lv_topi (fun y_26 ey_26 => ?_)
          obtain rfl : y_26 = (nI (25 * (120 + m42_1))) := ey_26.trans (pk_mul 25 (120 + m42_1))
          have hFc := pu_free hD hS hA
          refine va_callv (va_runS (As := [.ref (ad 35), .int 0, .ref (ad 34), .int (nI (25 * (120 + m42_1)))]) (rest := []) ⟨hx, hb, hml, hown, hts⟩ (c_EM_copies_zn l dC dI _ ad ck x0 x16 x18 x19 x20 x21 x22 x23 x24 x25 x26 x27 x28 x29 x30 x33 x45 x46 x52 x53 x61 x62 x63 x65 x66 f1 f2 f3 q4 q5 q6 q7 f8 q9 q10 f11 m12_0 m12_1 m13_0 m13_1 m14_0 m14_1 m15_0 m15_1 f17 q31 f32 f34 z35_8 f36 f37 q38 f39 f40 f41 m42_0 m42_1 f43 f44 f47 f48 f49 f50 f51 q54 q55 q56 f57 q58 f59 f60 f64 (25 * (120 + m42_1)) hx16 hx18 hx19 hx21 hx22 hx26 hx28 hx29 hx30 hx33 hx46 hx52 hx53 hx61 hx62 hx63 hx65 hm12_0 hm12_1 hm13_0 hm13_1 hm14_0 hm14_1 hm15_0 hm15_1 hm42_0 (Nat.le_trans hm42_1 (Nat.le_of_ble_eq_true rfl)) (by omega)) (va_cwS 4 hts g_EM_comes_1_120_0_EM_copies_zn rfl rfl rfl (by decide +kernel) ⟨Nat.le_of_ble_eq_true rfl, Nat.le_of_ble_eq_true rfl⟩) ⟨pu_bl, pu_in hP hK hD⟩ rfl rfl hl.1 rfl (lv_room (Nat.le_of_ble_eq_true rfl)) dX9_comes_144 ⟨Nat.le_of_ble_eq_true rfl, Nat.le_of_ble_eq_true rfl⟩) hS (fun q _ h => hFc q h) hFc (fun u t H1 locs ht hvm hw hB hz1 hk1 hS => ?_)
          obtain ⟨z34_28, ⟨hP1, -, hD1⟩, xr_27_0⟩ := hB
          rw [ht] at hP1
          have hP := hP1
          have hD := pu_all hFc hD1
          clear hP1 hD1 hFc
          clear hk1 hz1 ht hvm
          generalize H1 = H at hP hS ⊢
          replace hsp := hsp.trans (slet_eq xr_27_0)
          refine lv_aload_n hx hb dX9_comes_147 rfl (lv_at hl 1 rfl) ?_
          refine va_get (D := (dC, dI)) (ci := 9) (v := .ref (ad 38)) (C := RX9) (T := TX9) (N := 67) hx hb hts hiX9 hown hK hP 0 rfl rfl 38 (by decide) v_24 (fun _ h9 => h9) rfl dX9_comes_148 ?_
          refine lv_iload hx hb dX9_comes_151 (lv_at hl 0 rfl) ?_
          refine lv_iload_n hx hb dX9_comes_153 rfl (lv_at hl 3 rfl) ?_
          refine va_iast hx hb hK hP hD hS 23 22 rfl rfl (vp_in_nI (n := (120 + m42_1)) (by omega) (Nat.le_of_ble_eq_true rfl)) dX9_comes_154 (fun H locs hP hD hS => ?_)
          obtain ⟨q_29, eq_29, kq_29, oq_29, xq_29⟩ := bN_upx 7 q38 (n := (120 + m42_1)) (v := a1) (by omega) ha1
          have hP : va_P (dC, dI) vwCl (mo_w ad ck x0 (nI x16) (nI x18) (nI x19) x20 (nI x21) (nI x22) x23 x24 x25 (nI x26) x27 (nI x28) (nI x29) (nI x30) (nI x33) x45 (nI x46) (nI x52) (nI x53) (nI x61) (nI x62) (nI x63) (nI x65) x66 f1 f2 f3 (bN 3 q4) (bN 7 q5) (bN 7 q6) (bN 4 q7) f8 (bN 2 q9) (bH q10) f11 (b2 m12_0 m12_1) (b2 m13_0 m13_1) (b2 m14_0 m14_1) (b2m m15_0 m15_1) f17 (bA 159 q31) f32 z34_28 z35_8 f36 f37 (bN 7 q_29) f39 f40 f41 (b2 m42_0 m42_1) f43 f44 f47 f48 f49 f50 f51 (bN 13 q54) (bN 120 q55) (bN 120 q56) f57 (bN 120 q58) f59 f60 f64) H := by rw [← eq_29]; exact hP
          have hD : va_D A (mo_w ad ck x0 (nI x16) (nI x18) (nI x19) x20 (nI x21) (nI x22) x23 x24 x25 (nI x26) x27 (nI x28) (nI x29) (nI x30) (nI x33) x45 (nI x46) (nI x52) (nI x53) (nI x61) (nI x62) (nI x63) (nI x65) x66 f1 f2 f3 (bN 3 q4) (bN 7 q5) (bN 7 q6) (bN 4 q7) f8 (bN 2 q9) (bH q10) f11 (b2 m12_0 m12_1) (b2 m13_0 m13_1) (b2 m14_0 m14_1) (b2m m15_0 m15_1) f17 (bA 159 q31) f32 z34_28 z35_8 f36 f37 (bN 7 q_29) f39 f40 f41 (b2 m42_0 m42_1) f43 f44 f47 f48 f49 f50 f51 (bN 13 q54) (bN 120 q55) (bN 120 q56) f57 (bN 120 q58) f59 f60 f64) := by rw [← eq_29]; exact hD
          replace hsp := hsp.trans (slet_eq xq_29)
          refine lv_aload_n hx hb dX9_comes_155 rfl (lv_at hl 1 rfl) ?_
          refine va_get (D := (dC, dI)) (ci := 9) (v := .ref (ad 39)) (C := RX9) (T := TX9) (N := 67) hx hb hts hiX9 hown hK hP 0 rfl rfl 39 (by decide) v_25 (fun _ h9 => h9) rfl dX9_comes_156 ?_
          refine lv_iload hx hb dX9_comes_159 (lv_at hl 0 rfl) ?_
          refine lv_iload_n hx hb dX9_comes_161 rfl (lv_at hl 4 rfl) ?_
          refine va_iast hx hb hK hP hD hS 24 23 rfl rfl (vp_in_nI (n := (120 + m42_1)) (by omega) (Nat.le_of_ble_eq_true rfl)) dX9_comes_162 (fun H locs hP hD hS => ?_)
          obtain ⟨f_30, ef_30, xf_30⟩ := up_x f39 (n := (120 + m42_1)) (-1) (by omega)
          have hP : va_P (dC, dI) vwCl (mo_w ad ck x0 (nI x16) (nI x18) (nI x19) x20 (nI x21) (nI x22) x23 x24 x25 (nI x26) x27 (nI x28) (nI x29) (nI x30) (nI x33) x45 (nI x46) (nI x52) (nI x53) (nI x61) (nI x62) (nI x63) (nI x65) x66 f1 f2 f3 (bN 3 q4) (bN 7 q5) (bN 7 q6) (bN 4 q7) f8 (bN 2 q9) (bH q10) f11 (b2 m12_0 m12_1) (b2 m13_0 m13_1) (b2 m14_0 m14_1) (b2m m15_0 m15_1) f17 (bA 159 q31) f32 z34_28 z35_8 f36 f37 (bN 7 q_29) f_30 f40 f41 (b2 m42_0 m42_1) f43 f44 f47 f48 f49 f50 f51 (bN 13 q54) (bN 120 q55) (bN 120 q56) f57 (bN 120 q58) f59 f60 f64) H := by rw [← ef_30]; exact hP
          have hD : va_D A (mo_w ad ck x0 (nI x16) (nI x18) (nI x19) x20 (nI x21) (nI x22) x23 x24 x25 (nI x26) x27 (nI x28) (nI x29) (nI x30) (nI x33) x45 (nI x46) (nI x52) (nI x53) (nI x61) (nI x62) (nI x63) (nI x65) x66 f1 f2 f3 (bN 3 q4) (bN 7 q5) (bN 7 q6) (bN 4 q7) f8 (bN 2 q9) (bH q10) f11 (b2 m12_0 m12_1) (b2 m13_0 m13_1) (b2 m14_0 m14_1) (b2m m15_0 m15_1) f17 (bA 159 q31) f32 z34_28 z35_8 f36 f37 (bN 7 q_29) f_30 f40 f41 (b2 m42_0 m42_1) f43 f44 f47 f48 f49 f50 f51 (bN 13 q54) (bN 120 q55) (bN 120 q56) f57 (bN 120 q58) f59 f60 f64) := by rw [← ef_30]; exact hD
          replace hsp := hsp.trans (slet_eq xf_30)
          refine lv_aload_n hx hb dX9_comes_163 rfl (lv_at hl 1 rfl) ?_
          refine va_get (D := (dC, dI)) (ci := 9) (v := .ref (ad 40)) (C := RX9) (T := TX9) (N := 67) hx hb hts hiX9 hown hK hP 0 rfl rfl 40 (by decide) v_26 (fun _ h9 => h9) rfl dX9_comes_164 ?_
          refine lv_iload hx hb dX9_comes_167 (lv_at hl 0 rfl) ?_
          refine lv_iload hx hb dX9_comes_169 (lv_at hl 5 rfl) ?_
          refine va_iast hx hb hK hP hD hS 25 24 rfl rfl (vp_in_nI (n := (120 + m42_1)) (by omega) (Nat.le_of_ble_eq_true rfl)) dX9_comes_171 (fun H locs hP hD hS => ?_)
          obtain ⟨f_31, ef_31, xf_31⟩ := up_x f40 (n := (120 + m42_1)) (-1) (by omega)
          have hP : va_P (dC, dI) vwCl (mo_w ad ck x0 (nI x16) (nI x18) (nI x19) x20 (nI x21) (nI x22) x23 x24 x25 (nI x26) x27 (nI x28) (nI x29) (nI x30) (nI x33) x45 (nI x46) (nI x52) (nI x53) (nI x61) (nI x62) (nI x63) (nI x65) x66 f1 f2 f3 (bN 3 q4) (bN 7 q5) (bN 7 q6) (bN 4 q7) f8 (bN 2 q9) (bH q10) f11 (b2 m12_0 m12_1) (b2 m13_0 m13_1) (b2 m14_0 m14_1) (b2m m15_0 m15_1) f17 (bA 159 q31) f32 z34_28 z35_8 f36 f37 (bN 7 q_29) f_30 f_31 f41 (b2 m42_0 m42_1) f43 f44 f47 f48 f49 f50 f51 (bN 13 q54) (bN 120 q55) (bN 120 q56) f57 (bN 120 q58) f59 f60 f64) H := by rw [← ef_31]; exact hP
          have hD : va_D A (mo_w ad ck x0 (nI x16) (nI x18) (nI x19) x20 (nI x21) (nI x22) x23 x24 x25 (nI x26) x27 (nI x28) (nI x29) (nI x30) (nI x33) x45 (nI x46) (nI x52) (nI x53) (nI x61) (nI x62) (nI x63) (nI x65) x66 f1 f2 f3 (bN 3 q4) (bN 7 q5) (bN 7 q6) (bN 4 q7) f8 (bN 2 q9) (bH q10) f11 (b2 m12_0 m12_1) (b2 m13_0 m13_1) (b2 m14_0 m14_1) (b2m m15_0 m15_1) f17 (bA 159 q31) f32 z34_28 z35_8 f36 f37 (bN 7 q_29) f_30 f_31 f41 (b2 m42_0 m42_1) f43 f44 f47 f48 f49 f50 f51 (bN 13 q54) (bN 120 q55) (bN 120 q56) f57 (bN 120 q58) f59 f60 f64) := by rw [← ef_31]; exact hD
          replace hsp := hsp.trans (slet_eq xf_31)
          refine lv_aload_n hx hb dX9_comes_172 rfl (lv_at hl 1 rfl) ?_
          refine va_get (D := (dC, dI)) (ci := 9) (v := .ref (ad 41)) (C := RX9) (T := TX9) (N := 67) hx hb hts hiX9 hown hK hP 0 rfl rfl 41 (by decide) v_27 (fun _ h9 => h9) rfl dX9_comes_173 ?_
          refine lv_iload hx hb dX9_comes_176 (lv_at hl 0 rfl) ?_
          refine lv_iload_n hx hb dX9_comes_178 rfl (lv_at hl 4 rfl) ?_
          refine lv_iconst (v := (-1)) hx hb dX9_comes_179 (by decide) ?_
          refine lv_icmp_ne (tgt := 187) hx hb dX9_comes_180 (by decide) (fun z => absurd z (by decide)) (fun _ => ?_)
          refine lv_iconst (v := 0) hx hb dX9_comes_183 (by decide) ?_
          refine lv_goto (tgt := 199) hx hb dX9_comes_184 (by decide) ?_
          refine va_iast hx hb hK hP hD hS 26 25 rfl rfl (vp_in_nI (n := (120 + m42_1)) (by omega) (Nat.le_of_ble_eq_true rfl)) dX9_comes_199 (fun H locs hP hD hS => ?_)
          obtain ⟨f_32, ef_32, xf_32⟩ := up_x f41 (n := (120 + m42_1)) 0 (by omega)
          have hP : va_P (dC, dI) vwCl (mo_w ad ck x0 (nI x16) (nI x18) (nI x19) x20 (nI x21) (nI x22) x23 x24 x25 (nI x26) x27 (nI x28) (nI x29) (nI x30) (nI x33) x45 (nI x46) (nI x52) (nI x53) (nI x61) (nI x62) (nI x63) (nI x65) x66 f1 f2 f3 (bN 3 q4) (bN 7 q5) (bN 7 q6) (bN 4 q7) f8 (bN 2 q9) (bH q10) f11 (b2 m12_0 m12_1) (b2 m13_0 m13_1) (b2 m14_0 m14_1) (b2m m15_0 m15_1) f17 (bA 159 q31) f32 z34_28 z35_8 f36 f37 (bN 7 q_29) f_30 f_31 f_32 (b2 m42_0 m42_1) f43 f44 f47 f48 f49 f50 f51 (bN 13 q54) (bN 120 q55) (bN 120 q56) f57 (bN 120 q58) f59 f60 f64) H := by rw [← ef_32]; exact hP
          have hD : va_D A (mo_w ad ck x0 (nI x16) (nI x18) (nI x19) x20 (nI x21) (nI x22) x23 x24 x25 (nI x26) x27 (nI x28) (nI x29) (nI x30) (nI x33) x45 (nI x46) (nI x52) (nI x53) (nI x61) (nI x62) (nI x63) (nI x65) x66 f1 f2 f3 (bN 3 q4) (bN 7 q5) (bN 7 q6) (bN 4 q7) f8 (bN 2 q9) (bH q10) f11 (b2 m12_0 m12_1) (b2 m13_0 m13_1) (b2 m14_0 m14_1) (b2m m15_0 m15_1) f17 (bA 159 q31) f32 z34_28 z35_8 f36 f37 (bN 7 q_29) f_30 f_31 f_32 (b2 m42_0 m42_1) f43 f44 f47 f48 f49 f50 f51 (bN 13 q54) (bN 120 q55) (bN 120 q56) f57 (bN 120 q58) f59 f60 f64) := by rw [← ef_32]; exact hD
          replace hsp := hsp.trans (slet_eq xf_32)
          refine lv_aload_n hx hb dX9_comes_200 rfl (lv_at hl 1 rfl) ?_
          refine va_get (D := (dC, dI)) (ci := 9) (v := .ref (ad 42)) (C := RX9) (T := TX9) (N := 67) hx hb hts hiX9 hown hK hP 0 rfl rfl 42 (by decide) v_15 (fun _ h9 => h9) rfl dX9_comes_201 ?_
          refine lv_iload_n hx hb dX9_comes_204 rfl (lv_at hl 2 rfl) ?_
          refine lv_dup2_11 hx hb dX9_comes_205 rfl rfl ?_
          refine va_iald hx hb hK hP 27 26 rfl rfl (vp_in_nI (n := 1) (Nat.le_of_ble_eq_true rfl) (Nat.le_of_ble_eq_true rfl)) dX9_comes_206 ?_
          refine lv_topi (fun y_33 ey_33 => ?_)
          have qy_33 := ey_33.trans b2_1
          clear ey_33
          obtain rfl : y_33 = nI m42_1 := qy_33
          refine lv_iconst (v := 1) hx hb dX9_comes_207 (by decide) ?_
          refine lv_iadd hx hb dX9_comes_208 ?_
          refine lv_topi (fun y_34 ey_34 => ?_)
          obtain rfl : y_34 = (nI (m42_1 + 1)) := ey_34.trans (nI_add m42_1 1)
          refine va_iast hx hb hK hP hD hS 27 26 rfl rfl (vp_in_nI (n := 1) (Nat.le_of_ble_eq_true rfl) (Nat.le_of_ble_eq_true rfl)) dX9_comes_209 (fun H locs hP hD hS => ?_)
          have hP : va_P (dC, dI) vwCl (mo_w ad ck x0 (nI x16) (nI x18) (nI x19) x20 (nI x21) (nI x22) x23 x24 x25 (nI x26) x27 (nI x28) (nI x29) (nI x30) (nI x33) x45 (nI x46) (nI x52) (nI x53) (nI x61) (nI x62) (nI x63) (nI x65) x66 f1 f2 f3 (bN 3 q4) (bN 7 q5) (bN 7 q6) (bN 4 q7) f8 (bN 2 q9) (bH q10) f11 (b2 m12_0 m12_1) (b2 m13_0 m13_1) (b2 m14_0 m14_1) (b2m m15_0 m15_1) f17 (bA 159 q31) f32 z34_28 z35_8 f36 f37 (bN 7 q_29) f_30 f_31 f_32 (b2 m42_0 (m42_1 + 1)) f43 f44 f47 f48 f49 f50 f51 (bN 13 q54) (bN 120 q55) (bN 120 q56) f57 (bN 120 q58) f59 f60 f64) H := by rw [← b2_up1 (a := m42_0) (b := m42_1) (v := (m42_1 + 1))]; exact hP
          have hD : va_D A (mo_w ad ck x0 (nI x16) (nI x18) (nI x19) x20 (nI x21) (nI x22) x23 x24 x25 (nI x26) x27 (nI x28) (nI x29) (nI x30) (nI x33) x45 (nI x46) (nI x52) (nI x53) (nI x61) (nI x62) (nI x63) (nI x65) x66 f1 f2 f3 (bN 3 q4) (bN 7 q5) (bN 7 q6) (bN 4 q7) f8 (bN 2 q9) (bH q10) f11 (b2 m12_0 m12_1) (b2 m13_0 m13_1) (b2 m14_0 m14_1) (b2m m15_0 m15_1) f17 (bA 159 q31) f32 z34_28 z35_8 f36 f37 (bN 7 q_29) f_30 f_31 f_32 (b2 m42_0 (m42_1 + 1)) f43 f44 f47 f48 f49 f50 f51 (bN 13 q54) (bN 120 q55) (bN 120 q56) f57 (bN 120 q58) f59 f60 f64) := by rw [← b2_up1 (a := m42_0) (b := m42_1) (v := (m42_1 + 1))]; exact hD
          exact W.vret hx hb hr (fun t ht hW => ⟨⟨(), rfl, trivial, ⟨z34_28, z35_8, q_29, f_30, f_31, f_32, f44, (m42_1 + 1), ⟨by rw [ht]; exact hP, va_K.moved hW.alike hK, hD⟩, (by omega), by simp only [xf_30, xf_31, xf_32]; exact gz_far hgr (by omega), by omega, (hsp.symm.trans hRR)⟩⟩, hS.F ht⟩) hS.2.2 dX9_comes_210
        · have hcc_23 := c_23
          replace hsp := hsp.trans (if_neg c_23)
          refine lv_aload_n hx hb dX9_comes_110 rfl (lv_at hl 0 rfl) ?_
          refine va_get (D := (dC, dI)) (ci := 9) (v := .ref (ad 44)) (C := RX9) (T := TX9) (N := 67) hx hb hts hiX9 hown hK hP 0 rfl rfl 44 (by decide) v_16 (fun _ h9 => h9) rfl dX9_comes_111 ?_
          refine lv_iload_n hx hb dX9_comes_114 rfl (lv_at hl 1 rfl) ?_
          refine lv_iconst (v := 1) hx hb dX9_comes_115 (by decide) ?_
          refine va_zast hx hb hK hP hD hS 29 28 rfl rfl (vp_in_nI (n := 1) (Nat.le_of_ble_eq_true rfl) (Nat.le_of_ble_eq_true rfl)) dX9_comes_116 (fun H locs hP hD hS => ?_)
          obtain ⟨f_35, ef_35, xf_35⟩ := up_x f44 (n := 1) (vp_nar .boolean 1) (Nat.le_of_ble_eq_true rfl)
          have hP : va_P (dC, dI) vwCl (mo_w ad ck x0 (nI x16) (nI x18) (nI x19) x20 (nI x21) (nI x22) x23 x24 x25 (nI x26) x27 (nI x28) (nI x29) (nI x30) (nI x33) x45 (nI x46) (nI x52) (nI x53) (nI x61) (nI x62) (nI x63) (nI x65) x66 f1 f2 f3 (bN 3 q4) (bN 7 q5) (bN 7 q6) (bN 4 q7) f8 (bN 2 q9) (bH q10) f11 (b2 m12_0 m12_1) (b2 m13_0 m13_1) (b2 m14_0 m14_1) (b2m m15_0 m15_1) f17 (bA 159 q31) f32 f34 z35_8 f36 f37 (bN 7 q38) f39 f40 f41 (b2 m42_0 m42_1) f43 f_35 f47 f48 f49 f50 f51 (bN 13 q54) (bN 120 q55) (bN 120 q56) f57 (bN 120 q58) f59 f60 f64) H := by rw [← ef_35]; exact hP
          have hD : va_D A (mo_w ad ck x0 (nI x16) (nI x18) (nI x19) x20 (nI x21) (nI x22) x23 x24 x25 (nI x26) x27 (nI x28) (nI x29) (nI x30) (nI x33) x45 (nI x46) (nI x52) (nI x53) (nI x61) (nI x62) (nI x63) (nI x65) x66 f1 f2 f3 (bN 3 q4) (bN 7 q5) (bN 7 q6) (bN 4 q7) f8 (bN 2 q9) (bH q10) f11 (b2 m12_0 m12_1) (b2 m13_0 m13_1) (b2 m14_0 m14_1) (b2m m15_0 m15_1) f17 (bA 159 q31) f32 f34 z35_8 f36 f37 (bN 7 q38) f39 f40 f41 (b2 m42_0 m42_1) f43 f_35 f47 f48 f49 f50 f51 (bN 13 q54) (bN 120 q55) (bN 120 q56) f57 (bN 120 q58) f59 f60 f64) := by rw [← ef_35]; exact hD
          replace hsp := hsp.trans (slet_eq xf_35)
          exact W.vret hx hb hr (fun t ht hW => ⟨⟨(), rfl, trivial, ⟨f34, z35_8, q38, f39, f40, f41, f_35, m42_1, ⟨by rw [ht]; exact hP, va_K.moved hW.alike hK, hD⟩, hm42_1, hgr, by omega, (hsp.symm.trans hRR)⟩⟩, hS.F ht⟩) hS.2.2 dX9_comes_117
    · have c_18 : ¬ m42_1 ≤ g_10 := fun z => c_18 ((nI_leI (a := m42_1) (b := g_10) (Nat.lt_of_le_of_lt hm42_1 (Nat.le_of_ble_eq_true rfl)) (Nat.lt_of_le_of_lt hg_10 (Nat.le_of_ble_eq_true rfl))).mpr z)
      replace hsp := hsp.trans (if_neg c_18)
      refine lv_iload_n hx hb dX9_comes_41 rfl (lv_at hl 1 rfl) ?_
      refine lv_iload hx hb dX9_comes_42 (lv_at hl 8 rfl) ?_
      refine va_calli (va_runS (As := [.int 1, .int (nI g_10)]) (rest := []) ⟨hx, hb, hml, hown, hts⟩ (c_EM_spotOf_1 l dC dI _ ad ck x0 x16 x18 x19 x20 x21 x22 x23 x24 x25 x26 x27 x28 x29 x30 x33 x45 x46 x52 x53 x61 x62 x63 x65 x66 f1 f2 f3 q4 q5 q6 q7 f8 q9 q10 f11 m12_0 m12_1 m13_0 m13_1 m14_0 m14_1 m15_0 m15_1 f17 q31 f32 f34 z35_8 f36 f37 q38 f39 f40 f41 m42_0 m42_1 f43 f44 f47 f48 f49 f50 f51 q54 q55 q56 f57 q58 f59 f60 f64 g_10 hx16 hx18 hx19 hx21 hx22 hx26 hx28 hx29 hx30 hx33 hx46 hx52 hx53 hx61 hx62 hx63 hx65 hm12_0 hm12_1 hm13_0 hm13_1 hm14_0 hm14_1 hm15_0 hm15_1 hm42_0 (Nat.le_trans hm42_1 (Nat.le_of_ble_eq_true rfl)) (Nat.le_trans hg_10 (Nat.le_of_ble_eq_true rfl))) (va_cwS 2 hts g_EM_comes_1_120_0_EM_spotOf_1 rfl rfl rfl (by decide +kernel) ⟨Nat.le_of_ble_eq_true rfl, Nat.le_of_ble_eq_true rfl⟩) ⟨pu_bl, pu_in hP hK hD⟩ rfl rfl hl.1 rfl (lv_room (Nat.le_of_ble_eq_true rfl)) dX9_comes_44 ⟨Nat.le_of_ble_eq_true rfl, Nat.le_of_ble_eq_true rfl⟩) hS (fun q _ h => pu_fr hS hA q h) (pu_fr hS hA) (fun r_36 u t H1 locs ht hvm hw hB hz1 hk1 hS => ?_)
      have hP := pu_keep hP hk1
      clear hk1 hz1 ht hvm
      generalize H1 = H at hP hS ⊢
      obtain rfl : r_36 = nI (120 + g_10) := hw
      refine lv_istore (lv' := [(9, .int (nI (120 + g_10))), (0, .ref (ad 0)), (1, .int 1), (2, .int (nI a1)), (3, .int (-1)), (4, .int (-1)), (5, .int p4), (6, .int (nI a5)), (7, .int 120), (8, .int (nI g_10))]) hx hb dX9_comes_47 hl (by decide) rfl (fun ls hl => ?_)
      refine lv_aload_n hx hb dX9_comes_49 rfl (lv_at hl 1 rfl) ?_
      refine va_get (D := (dC, dI)) (ci := 9) (v := .ref (ad 38)) (C := RX9) (T := TX9) (N := 67) hx hb hts hiX9 hown hK hP 0 rfl rfl 38 (by decide) v_24 (fun _ h9 => h9) rfl dX9_comes_50 ?_
      refine lv_iload hx hb dX9_comes_53 (lv_at hl 0 rfl) ?_
      refine va_iald hx hb hK hP 23 22 rfl rfl (vp_in_nI (n := (120 + g_10)) (by omega) (Nat.le_of_ble_eq_true rfl)) dX9_comes_55 ?_
      refine lv_topi (fun y_37 ey_37 => ?_)
      obtain ⟨u_38, hu_38, qu_38, xu_38⟩ := bN_getx 7 q38 (n := (120 + g_10)) (by omega)
      obtain rfl : y_37 = nI u_38 := ey_37.trans qu_38
      replace hsp := hsp.trans (slet_eq xu_38)
      refine lv_iload_n hx hb dX9_comes_56 rfl (lv_at hl 3 rfl) ?_
      refine lv_icmp_ne (tgt := 84) hx hb dX9_comes_57 (by decide) (fun c_39 => ?_) (fun c_39 => ?_)
      · have c_39 : ¬ u_38 = a1 := fun z => c_39 ((nI_eq (a := u_38) (b := a1) (Nat.lt_of_le_of_lt hu_38 (Nat.le_of_ble_eq_true rfl)) (Nat.lt_of_le_of_lt ha1 (Nat.le_of_ble_eq_true rfl))).mpr z)
        replace hsp := hsp.trans (if_neg c_39)
        refine lv_iinc (v := (nI (g_10 + 1))) (lv' := [(8, .int (nI (g_10 + 1))), (9, .int (nI (120 + g_10))), (0, .ref (ad 0)), (1, .int 1), (2, .int (nI a1)), (3, .int (-1)), (4, .int (-1)), (5, .int p4), (6, .int (nI a5)), (7, .int 120)]) hx hb dX9_comes_84 hl (k := 9) rfl (nI_1 _) (by decide) rfl (fun ls hl => ?_)
        refine lv_goto (tgt := 30) hx hb dX9_comes_87 (by decide) ?_
        exact ih_11 (120 - (g_10 + 1)) (by omega) _ _ _ ⟨(g_10 + 1), rfl, (by omega), hin_15 _ hsp, hP, hD, hS, lv_sub hl [2, 3, 4, 5, 6, 7, 8, 9, 0] rfl⟩
      · have c_39 : u_38 = a1 := (nI_eq (a := u_38) (b := a1) (Nat.lt_of_le_of_lt hu_38 (Nat.le_of_ble_eq_true rfl)) (Nat.lt_of_le_of_lt ha1 (Nat.le_of_ble_eq_true rfl))).mp c_39
        replace hsp := hsp.trans (if_pos c_39)
        refine lv_aload_n hx hb dX9_comes_60 rfl (lv_at hl 1 rfl) ?_
        refine lv_iload hx hb dX9_comes_61 (lv_at hl 0 rfl) ?_
        refine lv_aload_n hx hb dX9_comes_63 rfl (lv_at hl 1 rfl) ?_
        refine va_get (D := (dC, dI)) (ci := 9) (v := .ref (ad 35)) (C := RX9) (T := TX9) (N := 67) hx hb hts hiX9 hown hK hP 0 rfl rfl 35 (by decide) v_6 (fun _ h9 => h9) rfl dX9_comes_64 ?_
        refine lv_iload hx hb dX9_comes_67 (lv_at hl 7 rfl) ?_
        obtain ⟨JR_42, hJR_42, hsp⟩ := slet_ex hsp
        refine pu_join (fun H locs ls st => ∃ (g_40 : Nat), st = [.int (nI g_40), .ref (ad 35), .int (nI (120 + g_10)), .ref (ad 0)] ∧ g_40 ≤ 1 ∧ g_40 = JR_42 ∧ va_P (dC, dI) vwCl (mo_w ad ck x0 (nI x16) (nI x18) (nI x19) x20 (nI x21) (nI x22) x23 x24 x25 (nI x26) x27 (nI x28) (nI x29) (nI x30) (nI x33) x45 (nI x46) (nI x52) (nI x53) (nI x61) (nI x62) (nI x63) (nI x65) x66 f1 f2 f3 (bN 3 q4) (bN 7 q5) (bN 7 q6) (bN 4 q7) f8 (bN 2 q9) (bH q10) f11 (b2 m12_0 m12_1) (b2 m13_0 m13_1) (b2 m14_0 m14_1) (b2m m15_0 m15_1) f17 (bA 159 q31) f32 f34 z35_8 f36 f37 (bN 7 q38) f39 f40 f41 (b2 m42_0 m42_1) f43 f44 f47 f48 f49 f50 f51 (bN 13 q54) (bN 120 q55) (bN 120 q56) f57 (bN 120 q58) f59 f60 f64) H ∧ va_D A (mo_w ad ck x0 (nI x16) (nI x18) (nI x19) x20 (nI x21) (nI x22) x23 x24 x25 (nI x26) x27 (nI x28) (nI x29) (nI x30) (nI x33) x45 (nI x46) (nI x52) (nI x53) (nI x61) (nI x62) (nI x63) (nI x65) x66 f1 f2 f3 (bN 3 q4) (bN 7 q5) (bN 7 q6) (bN 4 q7) f8 (bN 2 q9) (bH q10) f11 (b2 m12_0 m12_1) (b2 m13_0 m13_1) (b2 m14_0 m14_1) (b2m m15_0 m15_1) f17 (bA 159 q31) f32 f34 z35_8 f36 f37 (bN 7 q38) f39 f40 f41 (b2 m42_0 m42_1) f43 f44 f47 f48 f49 f50 f51 (bN 13 q54) (bN 120 q55) (bN 120 q56) f57 (bN 120 q58) f59 f60 f64) ∧ va_S A s.heap H locs ∧ lv_has ls 10 [(0, .ref (ad 0)), (1, .int 1), (2, .int (nI a1)), (3, .int (-1)), (4, .int (-1)), (5, .int p4), (6, .int (nI a5)), (7, .int 120), (8, .int (nI g_10)), (9, .int (nI (120 + g_10)))]) 77 ?_ (fun j_41 => ?_)
        · rintro H locs ls st ⟨g_40, rfl, hg_40, he_43, hP, hD, hS, hl⟩
          rw [← he_43] at hsp
          refine va_calli (va_runV (As := [.int (nI (120 + g_10)), .ref (ad 35), .int (nI g_40)]) (rest := []) ⟨hx, hb, hml, hown, hts⟩ (c_EM_hasAll l dC dI _ ad ck x0 x16 x18 x19 x20 x21 x22 x23 x24 x25 x26 x27 x28 x29 x30 x33 x45 x46 x52 x53 x61 x62 x63 x65 x66 f1 f2 f3 q4 q5 q6 q7 f8 q9 q10 f11 m12_0 m12_1 m13_0 m13_1 m14_0 m14_1 m15_0 m15_1 f17 q31 f32 f34 z35_8 f36 f37 q38 f39 f40 f41 m42_0 m42_1 f43 f44 f47 f48 f49 f50 f51 q54 q55 q56 f57 q58 f59 f60 f64 (120 + g_10) g_40 hx16 hx18 hx19 hx21 hx22 hx26 hx28 hx29 hx30 hx33 hx46 hx52 hx53 hx61 hx62 hx63 hx65 hm12_0 hm12_1 hm13_0 hm13_1 hm14_0 hm14_1 hm15_0 hm15_1 hm42_0 (Nat.le_trans hm42_1 (Nat.le_of_ble_eq_true rfl)) (by omega) hg_40) (cwV 3 hts g_EM_comes_1_120_0_EM_hasAll rfl rfl rfl (by decide +kernel) ⟨Nat.le_of_ble_eq_true rfl, Nat.le_of_ble_eq_true rfl⟩) ⟨pu_bl, va_recv hK hP (ci := 9) (q0 := 0) rfl rfl, pu_in hP hK hD⟩ rfl rfl hl.1 rfl (lv_room (Nat.le_of_ble_eq_true rfl)) dX9_comes_77 ⟨Nat.le_of_ble_eq_true rfl, Nat.le_of_ble_eq_true rfl⟩) hS (fun q _ h => pu_fr hS hA q h) (pu_fr hS hA) (fun r_44 u t H1 locs ht hvm hw hB hz1 hk1 hS => ?_)
          have hP := pu_keep hP hk1
          clear hk1 hz1 ht hvm
          generalize H1 = H at hP hS ⊢
          obtain ⟨u_45, hu_45, rfl, iu_45⟩ := hw
          replace hsp := hsp.trans (slet_eq iu_45)
          refine lv_if_eq (tgt := 84) hx hb dX9_comes_80 (by decide) (fun c_46 => ?_) (fun c_46 => ?_)
          · have c_46 : u_45 = 0 := (nI_eq (a := u_45) (b := 0) (Nat.lt_of_le_of_lt hu_45 (Nat.le_of_ble_eq_true rfl)) (Nat.le_of_ble_eq_true rfl)).mp c_46
            replace hsp := hsp.trans (if_pos c_46)
            refine lv_iinc (v := (nI (g_10 + 1))) (lv' := [(8, .int (nI (g_10 + 1))), (0, .ref (ad 0)), (1, .int 1), (2, .int (nI a1)), (3, .int (-1)), (4, .int (-1)), (5, .int p4), (6, .int (nI a5)), (7, .int 120), (9, .int (nI (120 + g_10)))]) hx hb dX9_comes_84 hl (k := 8) rfl (nI_1 _) (by decide) rfl (fun ls hl => ?_)
            refine lv_goto (tgt := 30) hx hb dX9_comes_87 (by decide) ?_
            exact ih_11 (120 - (g_10 + 1)) (by omega) _ _ _ ⟨(g_10 + 1), rfl, (by omega), hin_15 _ hsp, hP, hD, hS, lv_sub hl [1, 2, 3, 4, 5, 6, 7, 8, 0] rfl⟩
          · have c_46 : ¬ u_45 = 0 := fun z => c_46 ((nI_eq (a := u_45) (b := 0) (Nat.lt_of_le_of_lt hu_45 (Nat.le_of_ble_eq_true rfl)) (Nat.le_of_ble_eq_true rfl)).mpr z)
            replace hsp := hsp.trans (if_neg c_46)
            have hsp := hout_16 _ hsp
            exact W.vret hx hb hr (fun t ht hW => ⟨⟨(), rfl, trivial, ⟨f34, z35_8, q38, f39, f40, f41, f44, m42_1, ⟨by rw [ht]; exact hP, va_K.moved hW.alike hK, hD⟩, hm42_1, hgr, by omega, (hsp.symm.trans hRR)⟩⟩, hS.F ht⟩) hS.2.2 dX9_comes_83
        have hsp := hJR_42
        refine lv_if_ne (tgt := 76) hx hb dX9_comes_69 (by decide) (fun c_47 => ?_) (fun c_47 => ?_)
        · have c_47 : ¬ a5 = 0 := fun z => c_47 ((nI_eq (a := a5) (b := 0) (Nat.lt_of_le_of_lt ha5 (Nat.le_of_ble_eq_true rfl)) (Nat.le_of_ble_eq_true rfl)).mpr z)
          replace hsp := hsp.trans (if_neg c_47)
          refine lv_iconst (v := 0) hx hb dX9_comes_76 (by decide) ?_
          exact j_41 _ _ _ _ ⟨0, rfl, (Nat.le_of_ble_eq_true rfl), hsp.symm, hP, hD, hS, lv_sub hl [1, 2, 3, 4, 5, 6, 7, 8, 9, 0] rfl⟩
        · have c_47 : a5 = 0 := (nI_eq (a := a5) (b := 0) (Nat.lt_of_le_of_lt ha5 (Nat.le_of_ble_eq_true rfl)) (Nat.le_of_ble_eq_true rfl)).mp c_47
          replace hsp := hsp.trans (if_pos c_47)
          refine lv_iconst (v := 1) hx hb dX9_comes_72 (by decide) ?_
          refine lv_goto (tgt := 77) hx hb dX9_comes_73 (by decide) ?_
          exact j_41 _ _ _ _ ⟨1, rfl, (Nat.le_of_ble_eq_true rfl), hsp.symm, hP, hD, hS, lv_sub hl [1, 2, 3, 4, 5, 6, 7, 8, 9, 0] rfl⟩
  have hsp := hJR_5
  refine lv_if_ne (tgt := 17) hx hb dX9_comes_5 (by decide) (fun c_48 => ?_) (fun c_48 => ?_)
  · have c_48 : ¬ u_2 = 0 := fun z => c_48 ((nI_eq (a := u_2) (b := 0) (Nat.lt_of_le_of_lt hu_2 (Nat.le_of_ble_eq_true rfl)) (Nat.le_of_ble_eq_true rfl)).mpr z)
    replace hsp := hsp.trans (if_neg c_48)
    exact j_4 _ _ _ _ ⟨f35, rfl, hsp.symm, hP, hD, hS, lv_sub hl [0, 1, 2, 3, 4, 5, 6, 7] rfl⟩
  · have c_48 : u_2 = 0 := (nI_eq (a := u_2) (b := 0) (Nat.lt_of_le_of_lt hu_2 (Nat.le_of_ble_eq_true rfl)) (Nat.le_of_ble_eq_true rfl)).mp c_48
    replace hsp := hsp.trans (if_pos c_48)
    refine lv_aload_n hx hb dX9_comes_8 rfl (lv_at hl 0 rfl) ?_
    refine lv_aload_n hx hb dX9_comes_9 rfl (lv_at hl 0 rfl) ?_
    refine va_get (D := (dC, dI)) (ci := 9) (v := .ref (ad 35)) (C := RX9) (T := TX9) (N := 67) hx hb hts hiX9 hown hK hP 0 rfl rfl 35 (by decide) v_6 (fun _ h9 => h9) rfl dX9_comes_10 ?_
    refine lv_iload_n hx hb dX9_comes_13 rfl (lv_at hl 2 rfl) ?_
    have hFc := pu_free hD hS hA
    refine va_callv (va_runV (As := [.ref (ad 35), .int (nI a1)]) (rest := []) ⟨hx, hb, hml, hown, hts⟩ (c_EM_delays l dC dI _ ad ck x0 x16 x18 x19 x20 x21 x22 x23 x24 x25 x26 x27 x28 x29 x30 x33 x45 x46 x52 x53 x61 x62 x63 x65 x66 f1 f2 f3 q4 q5 q6 q7 f8 q9 q10 f11 m12_0 m12_1 m13_0 m13_1 m14_0 m14_1 m15_0 m15_1 f17 q31 f32 f34 f35 f36 f37 q38 f39 f40 f41 m42_0 m42_1 f43 f44 f47 f48 f49 f50 f51 q54 q55 q56 f57 q58 f59 f60 f64 a1 hx16 hx18 hx19 hx21 hx22 hx26 hx28 hx29 hx30 hx33 hx46 hx52 hx53 hx61 hx62 hx63 hx65 hm12_0 hm12_1 hm13_0 hm13_1 hm14_0 hm14_1 hm15_0 hm15_1 hm42_0 (Nat.le_trans hm42_1 (Nat.le_of_ble_eq_true rfl)) ha1) (cwV 2 hts g_EM_comes_1_120_0_EM_delays rfl rfl rfl (by decide +kernel) ⟨Nat.le_of_ble_eq_true rfl, Nat.le_of_ble_eq_true rfl⟩) ⟨pu_bl, va_recv hK hP (ci := 9) (q0 := 0) rfl rfl, pu_in hP hK hD⟩ rfl rfl hl.1 rfl (lv_room (Nat.le_of_ble_eq_true rfl)) dX9_comes_14 ⟨Nat.le_of_ble_eq_true rfl, Nat.le_of_ble_eq_true rfl⟩) hS (fun q _ h => hFc q h) hFc (fun u t H1 locs ht hvm hw hB hz1 hk1 hS => ?_)
    obtain ⟨z35_50, ⟨hP1, -, hD1⟩, xr_49_0⟩ := hB
    rw [ht] at hP1
    have hP := hP1
    have hD := pu_all hFc hD1
    clear hP1 hD1 hFc
    clear hk1 hz1 ht hvm
    generalize H1 = H at hP hS ⊢
    replace hsp := hsp.trans (slet_eq xr_49_0)
    exact j_4 _ _ _ _ ⟨z35_50, rfl, hsp.symm, hP, hD, hS, lv_sub hl [0, 1, 2, 3, 4, 5, 6, 7] rfl⟩
abbrev vs_EM_comes_1_120_1 : List Cond := .code yX9_comes cX9_comes 10 none :: VM
theorem g_EM_comes_1_120_1_EM_isUrgent : GoodIn vs_EM_comes_1_120_1 (wsV RX9 324 RX9 yX9_isUrgent vs_EM_isUrgent) := gm_V vm_189 vm_190 vm_191 vm_19 vm_192
theorem g_EM_comes_1_120_1_EM_forgets : GoodIn vs_EM_comes_1_120_1 (wsV RX9 352 RX9 yX9_forgets vs_EM_forgets) := gm_V vm_224 vm_225 vm_226 vm_19 vm_227
theorem g_EM_comes_1_120_1_EM_spotOf_1 : GoodIn vs_EM_comes_1_120_1 (va_wsS RX9 355 yX9_spotOf vs_EM_spotOf_1) := gm_S vm_220 vm_221 vm_19 vm_222
theorem g_EM_comes_1_120_1_EM_copies_zn : GoodIn vs_EM_comes_1_120_1 (va_wsS RX9 362 yX9_copies vs_EM_copies_zn) := gm_S vm_228 vm_229 vm_19 vm_230
theorem g_EM_comes_1_120_1_EM_hasAll : GoodIn vs_EM_comes_1_120_1 (wsV RX9 358 RX9 yX9_hasAll vs_EM_hasAll) := gm_V vm_231 vm_232 vm_233 vm_19 vm_234
theorem g_EM_comes_1_120_1_EM_delays : GoodIn vs_EM_comes_1_120_1 (wsV RX9 349 RX9 yX9_delays vs_EM_delays) := gm_V vm_235 vm_236 vm_237 vm_19 vm_238
noncomputable def sp_EM_comes_1_120_1_L1 (x46 : Nat) (f34 : Nat → Int32) (q38 : Nat → Nat) (f39 : Nat → Int32) (f40 : Nat → Int32) (f41 : Nat → Int32) (m42_1 : Nat) (f44 : Nat → Int32) (a1 : Nat) (a2 : Nat) (a3 : Nat) (a5 : Nat) (z35_8 : Nat → Int32) : (Nat) → (Nat) ⊕ ((Nat → Int32) × (Nat → Int32) × (Nat → Nat) × (Nat → Int32) × (Nat → Int32) × (Nat → Int32) × (Nat → Int32) × Nat) := fun g_10 => (if m42_1 ≤ g_10 then (Sum.inr (if m42_1 = 120 then (slet (upd f44 1 (vp_nar .boolean 1)) (fun f_21 => (f34, z35_8, q38, f39, f40, f41, f_21, m42_1))) else (slet (f44 1) (fun y_22 => (if (y_22 : Int32) = 0 then (slet (sp_EM_copies_zn f34 z35_8 (25 * (120 + m42_1))) (fun z34_28 => (slet (updN q38 (120 + m42_1) a1) (fun q_29 => (slet (upd f39 (120 + m42_1) (nI a2)) (fun f_30 => (slet (upd f40 (120 + m42_1) (nI a3)) (fun f_31 => (slet (f41 (120 + a2)) (fun y_33 => (slet ((y_33 : Int32) + 1) (fun y_34 => (slet (upd f41 (120 + m42_1) y_34) (fun f_35 => (z34_28, z35_8, q_29, f_30, f_31, f_35, f44, (m42_1 + 1)))))))))))))))) else (slet (upd f44 1 (vp_nar .boolean 1)) (fun f_38 => (f34, z35_8, q38, f39, f40, f41, f_38, m42_1)))))))) else (slet (min (q38 (120 + g_10)) 7) (fun u_41 => (if u_41 = a1 then (slet (α := Nat) (if a5 = 0 then 1 else 0) (fun g_43 => (slet (sp_EM_hasAll x46 f34 z35_8 (120 + g_10) g_43) (fun u_48 => (if u_48 = 0 then (Sum.inl (g_10 + 1)) else (Sum.inr (f34, z35_8, q38, f39, f40, f41, f44, m42_1))))))) else (Sum.inl (g_10 + 1))))))
noncomputable def sp_EM_comes_1_120_1 (x16 : Nat) (x46 : Nat) (f3 : Nat → Int32) (q4 : Nat → Nat) (q9 : Nat → Nat) (q10 : Nat → Nat) (f11 : Nat → Int32) (m13_0 : Nat) (m13_1 : Nat) (f34 : Nat → Int32) (f35 : Nat → Int32) (q38 : Nat → Nat) (f39 : Nat → Int32) (f40 : Nat → Int32) (f41 : Nat → Int32) (m42_1 : Nat) (f44 : Nat → Int32) (f47 : Nat → Int32) (f48 : Nat → Int32) (a1 : Nat) (a2 : Nat) (a3 : Nat) (p4 : Int32) (a5 : Nat) : (Nat → Int32) × (Nat → Int32) × (Nat → Nat) × (Nat → Int32) × (Nat → Int32) × (Nat → Int32) × (Nat → Int32) × Nat := (slet (sp_EM_isUrgent x16 f3 a1) (fun u_2 => (slet (α := (Nat → Int32)) (if u_2 = 0 then (slet (sp_EM_delays x16 x46 q4 q9 q10 f11 m13_0 m13_1 f35 a1) (fun z35_53 => z35_53)) else f35) (fun g_3 => (slet (sp_EM_forgets x46 g_3 f47 f48 p4) (fun z35_8 => (itrv (α := Nat) (β := ((Nat → Int32) × (Nat → Int32) × (Nat → Nat) × (Nat → Int32) × (Nat → Int32) × (Nat → Int32) × (Nat → Int32) × Nat)) default (sp_EM_comes_1_120_1_L1 x46 f34 q38 f39 f40 f41 m42_1 f44 a1 a2 a3 a5 z35_8) 0)))))))
set_option maxHeartbeats 4000000 in
set_option maxRecDepth 100000 in
theorem c_EM_comes_1_120_1 (l : Launch) (dC : Nat → ClassId) (dI : Nat → Nat → Nat) (sz : Nat) (ad : Nat → Nat) (ck : Nat → ClassId) (x0 : Int32) (x16 : Nat) (x18 : Nat) (x19 : Nat) (x20 : Int32) (x21 : Nat) (x22 : Nat) (x23 : Int32) (x24 : Int32) (x25 : Int32) (x26 : Nat) (x27 : Int32) (x28 : Nat) (x29 : Nat) (x30 : Nat) (x33 : Nat) (x45 : Int32) (x46 : Nat) (x52 : Nat) (x53 : Nat) (x61 : Nat) (x62 : Nat) (x63 : Nat) (x65 : Nat) (x66 : Int32) (f1 : Nat → Int32) (f2 : Nat → Int32) (f3 : Nat → Int32) (q4 : Nat → Nat) (q5 : Nat → Nat) (q6 : Nat → Nat) (q7 : Nat → Nat) (f8 : Nat → Int32) (q9 : Nat → Nat) (q10 : Nat → Nat) (f11 : Nat → Int32) (m12_0 m12_1 : Nat) (m13_0 m13_1 : Nat) (m14_0 m14_1 : Nat) (m15_0 m15_1 : Nat) (f17 : Nat → Int32) (q31 : Nat → Nat) (f32 : Nat → Int32) (f34 : Nat → Int32) (f35 : Nat → Int32) (f36 : Nat → Int32) (f37 : Nat → Int32) (q38 : Nat → Nat) (f39 : Nat → Int32) (f40 : Nat → Int32) (f41 : Nat → Int32) (m42_0 m42_1 : Nat) (f43 : Nat → Int32) (f44 : Nat → Int32) (f47 : Nat → Int32) (f48 : Nat → Int32) (f49 : Nat → Int32) (f50 : Nat → Int32) (f51 : Nat → Int32) (q54 : Nat → Nat) (q55 : Nat → Nat) (q56 : Nat → Nat) (f57 : Nat → Int32) (q58 : Nat → Nat) (f59 : Nat → Int32) (f60 : Nat → Int32) (f64 : Nat → Int32) (a1 : Nat) (a2 : Nat) (a3 : Nat) (p4 : Int32) (a5 : Nat) (hx16 : x16 ≤ 1) (hx18 : x18 ≤ 900) (hx19 : x19 ≤ 900) (hx21 : x21 ≤ 900) (hx22 : x22 ≤ 4) (hx26 : x26 ≤ 6) (hx28 : x28 ≤ 1) (hx29 : x29 ≤ 1) (hx30 : x30 ≤ 1) (hx33 : x33 ≤ 20) (hx46 : x46 ≤ 5) (hx52 : x52 ≤ 2400) (hx53 : x53 ≤ 119) (hx61 : x61 ≤ 119) (hx62 : x62 ≤ 2000) (hx63 : x63 ≤ 1) (hx65 : x65 ≤ 7) (hm12_0 : m12_0 ≤ 3) (hm12_1 : m12_1 ≤ 3) (hm13_0 : m13_0 ≤ 8) (hm13_1 : m13_1 ≤ 8) (hm14_0 : m14_0 ≤ 14) (hm14_1 : m14_1 ≤ 14) (hm15_0 : m15_0 ≤ 8) (hm15_1 : m15_1 ≤ 8) (hm42_0 : m42_0 ≤ 120) (hm42_1 : m42_1 ≤ 120) (ha1 : a1 ≤ 7) (ha2 : a2 ≤ 119) (ha3 : a3 ≤ 13) (ha5 : a5 ≤ 1) (hgr : gz_ok m42_0 f39 f40 f41) : Met l yX9_comes vs_EM_comes_1_120_1 ({ frames := 5, cells := 0, slots := 0, locals := 113 }) (va_Pc [.ref (ad 0), .int 1, .int (nI a1), .int (nI a2), .int (nI a3), .int p4, .int (nI a5), .int 120] (pu_B (dC, dI) (mo_w ad ck x0 (nI x16) (nI x18) (nI x19) x20 (nI x21) (nI x22) x23 x24 x25 (nI x26) x27 (nI x28) (nI x29) (nI x30) (nI x33) x45 (nI x46) (nI x52) (nI x53) (nI x61) (nI x62) (nI x63) (nI x65) x66 f1 f2 f3 (bN 3 q4) (bN 7 q5) (bN 7 q6) (bN 4 q7) f8 (bN 2 q9) (bH q10) f11 (b2 m12_0 m12_1) (b2 m13_0 m13_1) (b2 m14_0 m14_1) (b2m m15_0 m15_1) f17 (bA 159 q31) f32 f34 f35 f36 f37 (bN 7 q38) f39 f40 f41 (b2 m42_0 m42_1) f43 f44 f47 f48 f49 f50 f51 (bN 13 q54) (bN 120 q55) (bN 120 q56) f57 (bN 120 q58) f59 f60 f64) (mo_t ck) sz)) (va_Qv (fun (_ : Unit) => True) (fun _ t => ∃ (z34 : Nat → Int32) (z35 : Nat → Int32) (z38 : Nat → Nat) (z39 : Nat → Int32) (z40 : Nat → Int32) (z41 : Nat → Int32) (z44 : Nat → Int32) (z42_1 : Nat), pu_E (dC, dI) (mo_w ad ck x0 (nI x16) (nI x18) (nI x19) x20 (nI x21) (nI x22) x23 x24 x25 (nI x26) x27 (nI x28) (nI x29) (nI x30) (nI x33) x45 (nI x46) (nI x52) (nI x53) (nI x61) (nI x62) (nI x63) (nI x65) x66 f1 f2 f3 (bN 3 q4) (bN 7 q5) (bN 7 q6) (bN 4 q7) f8 (bN 2 q9) (bH q10) f11 (b2 m12_0 m12_1) (b2 m13_0 m13_1) (b2 m14_0 m14_1) (b2m m15_0 m15_1) f17 (bA 159 q31) f32 z34 z35 f36 f37 (bN 7 z38) z39 z40 z41 (b2 m42_0 z42_1) f43 z44 f47 f48 f49 f50 f51 (bN 13 q54) (bN 120 q55) (bN 120 q56) f57 (bN 120 q58) f59 f60 f64) (mo_t ck) (va_A ((mo_w ad ck x0 (nI x16) (nI x18) (nI x19) x20 (nI x21) (nI x22) x23 x24 x25 (nI x26) x27 (nI x28) (nI x29) (nI x30) (nI x33) x45 (nI x46) (nI x52) (nI x53) (nI x61) (nI x62) (nI x63) (nI x65) x66 f1 f2 f3 (bN 3 q4) (bN 7 q5) (bN 7 q6) (bN 4 q7) f8 (bN 2 q9) (bH q10) f11 (b2 m12_0 m12_1) (b2 m13_0 m13_1) (b2 m14_0 m14_1) (b2m m15_0 m15_1) f17 (bA 159 q31) f32 f34 f35 f36 f37 (bN 7 q38) f39 f40 f41 (b2 m42_0 m42_1) f43 f44 f47 f48 f49 f50 f51 (bN 13 q54) (bN 120 q55) (bN 120 q56) f57 (bN 120 q58) f59 f60 f64)) sz) t ∧ (z42_1 ≤ 120) ∧ (gz_ok m42_0 z39 z40 z41) ∧ (m42_1 ≤ z42_1) ∧ ((z34, z35, z38, z39, z40, z41, z44, z42_1) = (sp_EM_comes_1_120_1 x16 x46 f3 q4 q9 q10 f11 m13_0 m13_1 f34 f35 q38 f39 f40 f41 m42_1 f44 f47 f48 a1 a2 a3 p4 a5))) (va_A ((mo_w ad ck x0 (nI x16) (nI x18) (nI x19) x20 (nI x21) (nI x22) x23 x24 x25 (nI x26) x27 (nI x28) (nI x29) (nI x30) (nI x33) x45 (nI x46) (nI x52) (nI x53) (nI x61) (nI x62) (nI x63) (nI x65) x66 f1 f2 f3 (bN 3 q4) (bN 7 q5) (bN 7 q6) (bN 4 q7) f8 (bN 2 q9) (bH q10) f11 (b2 m12_0 m12_1) (b2 m13_0 m13_1) (b2 m14_0 m14_1) (b2m m15_0 m15_1) f17 (bA 159 q31) f32 f34 f35 f36 f37 (bN 7 q38) f39 f40 f41 (b2 m42_0 m42_1) f43 f44 f47 f48 f49 f50 f51 (bN 13 q54) (bN 120 q55) (bN 120 q56) f57 (bN 120 q58) f59 f60 f64)) sz)) 0 0 (va_A ((mo_w ad ck x0 (nI x16) (nI x18) (nI x19) x20 (nI x21) (nI x22) x23 x24 x25 (nI x26) x27 (nI x28) (nI x29) (nI x30) (nI x33) x45 (nI x46) (nI x52) (nI x53) (nI x61) (nI x62) (nI x63) (nI x65) x66 f1 f2 f3 (bN 3 q4) (bN 7 q5) (bN 7 q6) (bN 4 q7) f8 (bN 2 q9) (bH q10) f11 (b2 m12_0 m12_1) (b2 m13_0 m13_1) (b2 m14_0 m14_1) (b2m m15_0 m15_1) f17 (bA 159 q31) f32 f34 f35 f36 f37 (bN 7 q38) f39 f40 f41 (b2 m42_0 m42_1) f43 f44 f47 f48 f49 f50 f51 (bN 13 q54) (bN 120 q55) (bN 120 q56) f57 (bN 120 q58) f59 f60 f64)) sz) := by
  refine Met.ofW (cc := cX9_comes) (maxL := 10) (ret := none) (by decide) rfl ?_
  intro p e s m args below meth c s₁ B hml hv
  obtain ⟨rfl, rfl, hP, hK, hD0⟩ := hv
  have hx := B.exec
  have hb := B.bytes
  have hr := B.returns
  have hts := atoms_spec (ws := vs_EM_comes_1_120_1) B.pre
  have v_6 := hts (.fieldLink RX9 71 "ClockReachModel" "z" "[I") (List.mem_cons_of_mem _ vm_219)
  have v_15 := hts (.fieldLink RX9 92 "ClockReachModel" "stateMany" "[I") (List.mem_cons_of_mem _ vm_164)
  have v_16 := hts (.fieldLink RX9 98 "ClockReachModel" "isFull" "[Z") (List.mem_cons_of_mem _ vm_165)
  have v_20 := hts (.fieldLink RX9 68 "ClockReachModel" "zone" "[I") (List.mem_cons_of_mem _ vm_214)
  have v_24 := hts (.fieldLink RX9 80 "ClockReachModel" "statePlace" "[I") (List.mem_cons_of_mem _ vm_223)
  have v_25 := hts (.fieldLink RX9 83 "ClockReachModel" "stateFrom" "[I") (List.mem_cons_of_mem _ vm_239)
  have v_26 := hts (.fieldLink RX9 86 "ClockReachModel" "stateBy" "[I") (List.mem_cons_of_mem _ vm_240)
  have v_27 := hts (.fieldLink RX9 89 "ClockReachModel" "stateDeep" "[I") (List.mem_cons_of_mem _ vm_241)
  have hown : s.vm.findClass RX9 = some m.cls := findClass_of_methodNamed B.named
  have hlocks := B.notSynchronized
  have hiX9 : ∀ w ∈ wsX90, w ∈ vs_EM_comes_1_120_1 := fun _ h => List.mem_cons_of_mem _ (vmi_L h)
  have hD := hD0.self (sz := s.heap.size)
  generalize hAe : va_A ((mo_w ad ck x0 (nI x16) (nI x18) (nI x19) x20 (nI x21) (nI x22) x23 x24 x25 (nI x26) x27 (nI x28) (nI x29) (nI x30) (nI x33) x45 (nI x46) (nI x52) (nI x53) (nI x61) (nI x62) (nI x63) (nI x65) x66 f1 f2 f3 (bN 3 q4) (bN 7 q5) (bN 7 q6) (bN 4 q7) f8 (bN 2 q9) (bH q10) f11 (b2 m12_0 m12_1) (b2 m13_0 m13_1) (b2 m14_0 m14_1) (b2m m15_0 m15_1) f17 (bA 159 q31) f32 f34 f35 f36 f37 (bN 7 q38) f39 f40 f41 (b2 m42_0 m42_1) f43 f44 f47 f48 f49 f50 f51 (bN 13 q54) (bN 120 q55) (bN 120 q56) f57 (bN 120 q58) f59 f60 f64)) s.heap.size = A at hD ⊢
  have hA : ∀ q : Nat, s.heap.size ≤ q → A q := fun q h => by rw [← hAe]; exact Or.inr h
  have hS : va_S A s.heap s.heap [] := va_S.rf
  have hl := lv_entry ([.ref (ad 0), .int 1, .int (nI a1), .int (nI a2), .int (nI a3), .int p4, .int (nI a5), .int 120]) (n := 10) (Nat.le_of_ble_eq_true rfl)
  rw [lg_entry_eq]
  generalize (lg_sl ([.ref (ad 0), .int 1, .int (nI a1), .int (nI a2), .int (nI a3), .int p4, .int (nI a5), .int 120]) ++ List.replicate (10 - (lg_sl ([.ref (ad 0), .int 1, .int (nI a1), .int (nI a2), .int (nI a3), .int p4, .int (nI a5), .int 120])).length) Slot.unset).toArray = ls at hl ⊢
  have hl : lv_has ls 10 [(0, .ref (ad 0)), (1, .int 1), (2, .int (nI a1)), (3, .int (nI a2)), (4, .int (nI a3)), (5, .int p4), (6, .int (nI a5)), (7, .int 120)] := hl
  obtain ⟨RR, hRR⟩ : ∃ x, x = (sp_EM_comes_1_120_1 x16 x46 f3 q4 q9 q10 f11 m13_0 m13_1 f34 f35 q38 f39 f40 f41 m42_1 f44 f47 f48 a1 a2 a3 p4 a5) := ⟨_, rfl⟩
  have hsp := hRR
  refine lv_aload_n hx hb dX9_comes_0 rfl (lv_at hl 0 rfl) ?_
  refine lv_iload_n hx hb dX9_comes_1 rfl (lv_at hl 2 rfl) ?_
  refine va_calli (va_runV (As := [.int (nI a1)]) (rest := []) ⟨hx, hb, hml, hown, hts⟩ (c_EM_isUrgent l dC dI _ ad ck x0 x16 x18 x19 x20 x21 x22 x23 x24 x25 x26 x27 x28 x29 x30 x33 x45 x46 x52 x53 x61 x62 x63 x65 x66 f1 f2 f3 q4 q5 q6 q7 f8 q9 q10 f11 m12_0 m12_1 m13_0 m13_1 m14_0 m14_1 m15_0 m15_1 f17 q31 f32 f34 f35 f36 f37 q38 f39 f40 f41 m42_0 m42_1 f43 f44 f47 f48 f49 f50 f51 q54 q55 q56 f57 q58 f59 f60 f64 a1 hx16 hx18 hx19 hx21 hx22 hx26 hx28 hx29 hx30 hx33 hx46 hx52 hx53 hx61 hx62 hx63 hx65 hm12_0 hm12_1 hm13_0 hm13_1 hm14_0 hm14_1 hm15_0 hm15_1 hm42_0 (Nat.le_trans hm42_1 (Nat.le_of_ble_eq_true rfl)) ha1) (cwV 1 hts g_EM_comes_1_120_1_EM_isUrgent rfl rfl rfl (by decide +kernel) ⟨Nat.le_of_ble_eq_true rfl, Nat.le_of_ble_eq_true rfl⟩) ⟨pu_bl, va_recv hK hP (ci := 9) (q0 := 0) rfl rfl, pu_in hP hK hD⟩ rfl rfl hl.1 rfl (lv_room (Nat.le_of_ble_eq_true rfl)) dX9_comes_2 ⟨Nat.le_of_ble_eq_true rfl, Nat.le_of_ble_eq_true rfl⟩) hS (fun q _ h => pu_fr hS hA q h) (pu_fr hS hA) (fun r_1 u t H1 locs ht hvm hw hB hz1 hk1 hS => ?_)
  have hP := pu_keep hP hk1
  clear hk1 hz1 ht hvm
  generalize H1 = H at hP hS ⊢
  obtain ⟨u_2, hu_2, rfl, iu_2⟩ := hw
  replace hsp := hsp.trans (slet_eq iu_2)
  obtain ⟨JR_5, hJR_5, hsp⟩ := slet_ex hsp
  refine pu_join (fun H locs ls st => ∃ (g_3 : Nat → Int32), st = [] ∧ g_3 = JR_5 ∧ va_P (dC, dI) vwCl (mo_w ad ck x0 (nI x16) (nI x18) (nI x19) x20 (nI x21) (nI x22) x23 x24 x25 (nI x26) x27 (nI x28) (nI x29) (nI x30) (nI x33) x45 (nI x46) (nI x52) (nI x53) (nI x61) (nI x62) (nI x63) (nI x65) x66 f1 f2 f3 (bN 3 q4) (bN 7 q5) (bN 7 q6) (bN 4 q7) f8 (bN 2 q9) (bH q10) f11 (b2 m12_0 m12_1) (b2 m13_0 m13_1) (b2 m14_0 m14_1) (b2m m15_0 m15_1) f17 (bA 159 q31) f32 f34 g_3 f36 f37 (bN 7 q38) f39 f40 f41 (b2 m42_0 m42_1) f43 f44 f47 f48 f49 f50 f51 (bN 13 q54) (bN 120 q55) (bN 120 q56) f57 (bN 120 q58) f59 f60 f64) H ∧ va_D A (mo_w ad ck x0 (nI x16) (nI x18) (nI x19) x20 (nI x21) (nI x22) x23 x24 x25 (nI x26) x27 (nI x28) (nI x29) (nI x30) (nI x33) x45 (nI x46) (nI x52) (nI x53) (nI x61) (nI x62) (nI x63) (nI x65) x66 f1 f2 f3 (bN 3 q4) (bN 7 q5) (bN 7 q6) (bN 4 q7) f8 (bN 2 q9) (bH q10) f11 (b2 m12_0 m12_1) (b2 m13_0 m13_1) (b2 m14_0 m14_1) (b2m m15_0 m15_1) f17 (bA 159 q31) f32 f34 g_3 f36 f37 (bN 7 q38) f39 f40 f41 (b2 m42_0 m42_1) f43 f44 f47 f48 f49 f50 f51 (bN 13 q54) (bN 120 q55) (bN 120 q56) f57 (bN 120 q58) f59 f60 f64) ∧ va_S A s.heap H locs ∧ lv_has ls 10 [(0, .ref (ad 0)), (1, .int 1), (2, .int (nI a1)), (3, .int (nI a2)), (4, .int (nI a3)), (5, .int p4), (6, .int (nI a5)), (7, .int 120)]) 17 ?_ (fun j_4 => ?_)
  · rintro H locs ls st ⟨g_3, rfl, he_6, hP, hD, hS, hl⟩
    rw [← he_6] at hsp
    refine lv_aload_n hx hb dX9_comes_17 rfl (lv_at hl 0 rfl) ?_
    refine lv_aload_n hx hb dX9_comes_18 rfl (lv_at hl 0 rfl) ?_
    refine va_get (D := (dC, dI)) (ci := 9) (v := .ref (ad 35)) (C := RX9) (T := TX9) (N := 67) hx hb hts hiX9 hown hK hP 0 rfl rfl 35 (by decide) v_6 (fun _ h9 => h9) rfl dX9_comes_19 ?_
    refine lv_iload hx hb dX9_comes_22 (lv_at hl 5 rfl) ?_
    have hFc := pu_free hD hS hA
    refine va_callv (va_runV (As := [.ref (ad 35), .int p4]) (rest := []) ⟨hx, hb, hml, hown, hts⟩ (c_EM_forgets l dC dI _ ad ck x0 x16 x18 x19 x20 x21 x22 x23 x24 x25 x26 x27 x28 x29 x30 x33 x45 x46 x52 x53 x61 x62 x63 x65 x66 f1 f2 f3 q4 q5 q6 q7 f8 q9 q10 f11 m12_0 m12_1 m13_0 m13_1 m14_0 m14_1 m15_0 m15_1 f17 q31 f32 f34 g_3 f36 f37 q38 f39 f40 f41 m42_0 m42_1 f43 f44 f47 f48 f49 f50 f51 q54 q55 q56 f57 q58 f59 f60 f64 p4 hx16 hx18 hx19 hx21 hx22 hx26 hx28 hx29 hx30 hx33 hx46 hx52 hx53 hx61 hx62 hx63 hx65 hm12_0 hm12_1 hm13_0 hm13_1 hm14_0 hm14_1 hm15_0 hm15_1 hm42_0 (Nat.le_trans hm42_1 (Nat.le_of_ble_eq_true rfl))) (cwV 2 hts g_EM_comes_1_120_1_EM_forgets rfl rfl rfl (by decide +kernel) ⟨Nat.le_of_ble_eq_true rfl, Nat.le_of_ble_eq_true rfl⟩) ⟨pu_bl, va_recv hK hP (ci := 9) (q0 := 0) rfl rfl, pu_in hP hK hD⟩ rfl rfl hl.1 rfl (lv_room (Nat.le_of_ble_eq_true rfl)) dX9_comes_24 ⟨Nat.le_of_ble_eq_true rfl, Nat.le_of_ble_eq_true rfl⟩) hS (fun q _ h => hFc q h) hFc (fun u t H1 locs ht hvm hw hB hz1 hk1 hS => ?_)
    obtain ⟨z35_8, ⟨hP1, -, hD1⟩, xr_7_0⟩ := hB
    rw [ht] at hP1
    have hP := hP1
    have hD := pu_all hFc hD1
    clear hP1 hD1 hFc
    clear hk1 hz1 ht hvm
    generalize H1 = H at hP hS ⊢
    replace hsp := hsp.trans (slet_eq xr_7_0)
    refine lv_iconst (v := 0) hx hb dX9_comes_27 (by decide) ?_
    refine lv_istore (lv' := [(8, .int 0), (0, .ref (ad 0)), (1, .int 1), (2, .int (nI a1)), (3, .int (nI a2)), (4, .int (nI a3)), (5, .int p4), (6, .int (nI a5)), (7, .int 120)]) hx hb dX9_comes_28 hl (by decide) rfl (fun ls hl => ?_)
    obtain ⟨lf_12, dlf_12, hlf_12, hsp⟩ := itr_ex hsp
    delta sp_EM_comes_1_120_1_L1 at hlf_12
    refine pu_while (fun nn H locs ls => ∃ (g_10 : Nat), nn = 120 - g_10 ∧ g_10 ≤ 120 ∧ RR = itrv dlf_12 lf_12 g_10 ∧ va_P (dC, dI) vwCl (mo_w ad ck x0 (nI x16) (nI x18) (nI x19) x20 (nI x21) (nI x22) x23 x24 x25 (nI x26) x27 (nI x28) (nI x29) (nI x30) (nI x33) x45 (nI x46) (nI x52) (nI x53) (nI x61) (nI x62) (nI x63) (nI x65) x66 f1 f2 f3 (bN 3 q4) (bN 7 q5) (bN 7 q6) (bN 4 q7) f8 (bN 2 q9) (bH q10) f11 (b2 m12_0 m12_1) (b2 m13_0 m13_1) (b2 m14_0 m14_1) (b2m m15_0 m15_1) f17 (bA 159 q31) f32 f34 z35_8 f36 f37 (bN 7 q38) f39 f40 f41 (b2 m42_0 m42_1) f43 f44 f47 f48 f49 f50 f51 (bN 13 q54) (bN 120 q55) (bN 120 q56) f57 (bN 120 q58) f59 f60 f64) H ∧ va_D A (mo_w ad ck x0 (nI x16) (nI x18) (nI x19) x20 (nI x21) (nI x22) x23 x24 x25 (nI x26) x27 (nI x28) (nI x29) (nI x30) (nI x33) x45 (nI x46) (nI x52) (nI x53) (nI x61) (nI x62) (nI x63) (nI x65) x66 f1 f2 f3 (bN 3 q4) (bN 7 q5) (bN 7 q6) (bN 4 q7) f8 (bN 2 q9) (bH q10) f11 (b2 m12_0 m12_1) (b2 m13_0 m13_1) (b2 m14_0 m14_1) (b2m m15_0 m15_1) f17 (bA 159 q31) f32 f34 z35_8 f36 f37 (bN 7 q38) f39 f40 f41 (b2 m42_0 m42_1) f43 f44 f47 f48 f49 f50 f51 (bN 13 q54) (bN 120 q55) (bN 120 q56) f57 (bN 120 q58) f59 f60 f64) ∧ va_S A s.heap H locs ∧ lv_has ls 10 [(0, .ref (ad 0)), (1, .int 1), (2, .int (nI a1)), (3, .int (nI a2)), (4, .int (nI a3)), (5, .int p4), (6, .int (nI a5)), (7, .int 120), (8, .int (nI g_10))]) 30 ?_ _ _ _ _ ⟨0, rfl, (Nat.le_of_ble_eq_true rfl), hsp, hP, hD, hS, lv_sub hl [1, 2, 3, 4, 5, 6, 7, 8, 0] rfl⟩
    rintro nn ih_11 H locs ls ⟨g_10, rfl, hg_10, he_14, hP, hD, hS, hl⟩
    obtain ⟨S_13, hsp, hin_15, hout_16⟩ := itr_step hlf_12 he_14
    refine lv_iload hx hb dX9_comes_30 (lv_at hl 8 rfl) ?_
    refine lv_aload_n hx hb dX9_comes_32 rfl (lv_at hl 0 rfl) ?_
    refine va_get (D := (dC, dI)) (ci := 9) (v := .ref (ad 42)) (C := RX9) (T := TX9) (N := 67) hx hb hts hiX9 hown hK hP 0 rfl rfl 42 (by decide) v_15 (fun _ h9 => h9) rfl dX9_comes_33 ?_
    refine lv_iload_n hx hb dX9_comes_36 rfl (lv_at hl 1 rfl) ?_
    refine va_iald hx hb hK hP 27 26 rfl rfl (vp_in_nI (n := 1) (Nat.le_of_ble_eq_true rfl) (Nat.le_of_ble_eq_true rfl)) dX9_comes_37 ?_
    refine lv_topi (fun y_17 ey_17 => ?_)
    have qy_17 := ey_17.trans b2_1
    clear ey_17
    obtain rfl : y_17 = nI m42_1 := qy_17
    refine lv_icmp_ge (tgt := 90) hx hb dX9_comes_38 (by decide) (fun c_18 => ?_) (fun c_18 => ?_)
    · have c_18 : m42_1 ≤ g_10 := (nI_leI (a := m42_1) (b := g_10) (Nat.lt_of_le_of_lt hm42_1 (Nat.le_of_ble_eq_true rfl)) (Nat.lt_of_le_of_lt hg_10 (Nat.le_of_ble_eq_true rfl))).mp c_18
      replace hsp := hsp.trans (if_pos c_18)
      have hsp := hout_16 _ hsp
      refine lv_aload_n hx hb dX9_comes_90 rfl (lv_at hl 0 rfl) ?_
      refine va_get (D := (dC, dI)) (ci := 9) (v := .ref (ad 42)) (C := RX9) (T := TX9) (N := 67) hx hb hts hiX9 hown hK hP 0 rfl rfl 42 (by decide) v_15 (fun _ h9 => h9) rfl dX9_comes_91 ?_
      refine lv_iload_n hx hb dX9_comes_94 rfl (lv_at hl 1 rfl) ?_
      refine va_iald hx hb hK hP 27 26 rfl rfl (vp_in_nI (n := 1) (Nat.le_of_ble_eq_true rfl) (Nat.le_of_ble_eq_true rfl)) dX9_comes_95 ?_
      refine lv_topi (fun y_19 ey_19 => ?_)
      have qy_19 := ey_19.trans b2_1
      clear ey_19
      obtain rfl : y_19 = nI m42_1 := qy_19
      refine lv_iload hx hb dX9_comes_96 (lv_at hl 7 rfl) ?_
      refine lv_icmp_eq (tgt := 110) hx hb dX9_comes_98 (by decide) (fun c_20 => ?_) (fun c_20 => ?_)
      · have c_20 : m42_1 = 120 := (nI_eq (a := m42_1) (b := 120) (Nat.lt_of_le_of_lt hm42_1 (Nat.le_of_ble_eq_true rfl)) (Nat.le_of_ble_eq_true rfl)).mp c_20
        replace hsp := hsp.trans (if_pos c_20)
        refine lv_aload_n hx hb dX9_comes_110 rfl (lv_at hl 0 rfl) ?_
        refine va_get (D := (dC, dI)) (ci := 9) (v := .ref (ad 44)) (C := RX9) (T := TX9) (N := 67) hx hb hts hiX9 hown hK hP 0 rfl rfl 44 (by decide) v_16 (fun _ h9 => h9) rfl dX9_comes_111 ?_
        refine lv_iload_n hx hb dX9_comes_114 rfl (lv_at hl 1 rfl) ?_
        refine lv_iconst (v := 1) hx hb dX9_comes_115 (by decide) ?_
        refine va_zast hx hb hK hP hD hS 29 28 rfl rfl (vp_in_nI (n := 1) (Nat.le_of_ble_eq_true rfl) (Nat.le_of_ble_eq_true rfl)) dX9_comes_116 (fun H locs hP hD hS => ?_)
        obtain ⟨f_21, ef_21, xf_21⟩ := up_x f44 (n := 1) (vp_nar .boolean 1) (Nat.le_of_ble_eq_true rfl)
        have hP : va_P (dC, dI) vwCl (mo_w ad ck x0 (nI x16) (nI x18) (nI x19) x20 (nI x21) (nI x22) x23 x24 x25 (nI x26) x27 (nI x28) (nI x29) (nI x30) (nI x33) x45 (nI x46) (nI x52) (nI x53) (nI x61) (nI x62) (nI x63) (nI x65) x66 f1 f2 f3 (bN 3 q4) (bN 7 q5) (bN 7 q6) (bN 4 q7) f8 (bN 2 q9) (bH q10) f11 (b2 m12_0 m12_1) (b2 m13_0 m13_1) (b2 m14_0 m14_1) (b2m m15_0 m15_1) f17 (bA 159 q31) f32 f34 z35_8 f36 f37 (bN 7 q38) f39 f40 f41 (b2 m42_0 m42_1) f43 f_21 f47 f48 f49 f50 f51 (bN 13 q54) (bN 120 q55) (bN 120 q56) f57 (bN 120 q58) f59 f60 f64) H := by rw [← ef_21]; exact hP
        have hD : va_D A (mo_w ad ck x0 (nI x16) (nI x18) (nI x19) x20 (nI x21) (nI x22) x23 x24 x25 (nI x26) x27 (nI x28) (nI x29) (nI x30) (nI x33) x45 (nI x46) (nI x52) (nI x53) (nI x61) (nI x62) (nI x63) (nI x65) x66 f1 f2 f3 (bN 3 q4) (bN 7 q5) (bN 7 q6) (bN 4 q7) f8 (bN 2 q9) (bH q10) f11 (b2 m12_0 m12_1) (b2 m13_0 m13_1) (b2 m14_0 m14_1) (b2m m15_0 m15_1) f17 (bA 159 q31) f32 f34 z35_8 f36 f37 (bN 7 q38) f39 f40 f41 (b2 m42_0 m42_1) f43 f_21 f47 f48 f49 f50 f51 (bN 13 q54) (bN 120 q55) (bN 120 q56) f57 (bN 120 q58) f59 f60 f64) := by rw [← ef_21]; exact hD
        replace hsp := hsp.trans (slet_eq xf_21)
        exact W.vret hx hb hr (fun t ht hW => ⟨⟨(), rfl, trivial, ⟨f34, z35_8, q38, f39, f40, f41, f_21, m42_1, ⟨by rw [ht]; exact hP, va_K.moved hW.alike hK, hD⟩, hm42_1, hgr, by omega, (hsp.symm.trans hRR)⟩⟩, hS.F ht⟩) hS.2.2 dX9_comes_117
      · have c_20 : ¬ m42_1 = 120 := fun z => c_20 ((nI_eq (a := m42_1) (b := 120) (Nat.lt_of_le_of_lt hm42_1 (Nat.le_of_ble_eq_true rfl)) (Nat.le_of_ble_eq_true rfl)).mpr z)
        replace hsp := hsp.trans (if_neg c_20)
        refine lv_aload_n hx hb dX9_comes_101 rfl (lv_at hl 0 rfl) ?_
        refine va_get (D := (dC, dI)) (ci := 9) (v := .ref (ad 44)) (C := RX9) (T := TX9) (N := 67) hx hb hts hiX9 hown hK hP 0 rfl rfl 44 (by decide) v_16 (fun _ h9 => h9) rfl dX9_comes_102 ?_
        refine lv_iload_n hx hb dX9_comes_105 rfl (lv_at hl 1 rfl) ?_
        refine va_zald hx hb hK hP 29 28 rfl rfl (vp_in_nI (n := 1) (Nat.le_of_ble_eq_true rfl) (Nat.le_of_ble_eq_true rfl)) dX9_comes_106 ?_
        refine lv_topi (fun y_22 ey_22 => ?_)
        have ey_22 : y_22 = f44 1 := ey_22.trans (congrArg f44 (nI_clamp (n := 1) (Nat.le_of_ble_eq_true rfl)))
        replace hsp := hsp.trans (slet_eq ey_22)
        refine lv_if_eq (tgt := 118) hx hb dX9_comes_107 (by decide) (fun c_23 => ?_) (fun c_23 => ?_)
        · have hcc_23 := c_23
          replace hsp := hsp.trans (if_pos c_23)
          refine lv_iload_n hx hb dX9_comes_118 rfl (lv_at hl 1 rfl) ?_
          refine lv_aload_n hx hb dX9_comes_119 rfl (lv_at hl 0 rfl) ?_
          refine va_get (D := (dC, dI)) (ci := 9) (v := .ref (ad 42)) (C := RX9) (T := TX9) (N := 67) hx hb hts hiX9 hown hK hP 0 rfl rfl 42 (by decide) v_15 (fun _ h9 => h9) rfl dX9_comes_120 ?_
          refine lv_iload_n hx hb dX9_comes_123 rfl (lv_at hl 1 rfl) ?_
          refine va_iald hx hb hK hP 27 26 rfl rfl (vp_in_nI (n := 1) (Nat.le_of_ble_eq_true rfl) (Nat.le_of_ble_eq_true rfl)) dX9_comes_124 ?_
          refine lv_topi (fun y_24 ey_24 => ?_)
          have qy_24 := ey_24.trans b2_1
          clear ey_24
          obtain rfl : y_24 = nI m42_1 := qy_24
          refine va_calli (va_runS (As := [.int 1, .int (nI m42_1)]) (rest := []) ⟨hx, hb, hml, hown, hts⟩ (c_EM_spotOf_1 l dC dI _ ad ck x0 x16 x18 x19 x20 x21 x22 x23 x24 x25 x26 x27 x28 x29 x30 x33 x45 x46 x52 x53 x61 x62 x63 x65 x66 f1 f2 f3 q4 q5 q6 q7 f8 q9 q10 f11 m12_0 m12_1 m13_0 m13_1 m14_0 m14_1 m15_0 m15_1 f17 q31 f32 f34 z35_8 f36 f37 q38 f39 f40 f41 m42_0 m42_1 f43 f44 f47 f48 f49 f50 f51 q54 q55 q56 f57 q58 f59 f60 f64 m42_1 hx16 hx18 hx19 hx21 hx22 hx26 hx28 hx29 hx30 hx33 hx46 hx52 hx53 hx61 hx62 hx63 hx65 hm12_0 hm12_1 hm13_0 hm13_1 hm14_0 hm14_1 hm15_0 hm15_1 hm42_0 (Nat.le_trans hm42_1 (Nat.le_of_ble_eq_true rfl)) (Nat.le_trans hm42_1 (Nat.le_of_ble_eq_true rfl))) (va_cwS 2 hts g_EM_comes_1_120_1_EM_spotOf_1 rfl rfl rfl (by decide +kernel) ⟨Nat.le_of_ble_eq_true rfl, Nat.le_of_ble_eq_true rfl⟩) ⟨pu_bl, pu_in hP hK hD⟩ rfl rfl hl.1 rfl (lv_room (Nat.le_of_ble_eq_true rfl)) dX9_comes_125 ⟨Nat.le_of_ble_eq_true rfl, Nat.le_of_ble_eq_true rfl⟩) hS (fun q _ h => pu_fr hS hA q h) (pu_fr hS hA) (fun r_25 u t H1 locs ht hvm hw hB hz1 hk1 hS => ?_)
          have hP := pu_keep hP hk1
          clear hk1 hz1 ht hvm
          generalize H1 = H at hP hS ⊢
          obtain rfl : r_25 = nI (120 + m42_1) := hw
          refine lv_istore (lv' := [(8, .int (nI (120 + m42_1))), (0, .ref (ad 0)), (1, .int 1), (2, .int (nI a1)), (3, .int (nI a2)), (4, .int (nI a3)), (5, .int p4), (6, .int (nI a5)), (7, .int 120)]) hx hb dX9_comes_128 hl (by decide) rfl (fun ls hl => ?_)
          refine lv_aload_n hx hb dX9_comes_130 rfl (lv_at hl 1 rfl) ?_
          refine va_get (D := (dC, dI)) (ci := 9) (v := .ref (ad 35)) (C := RX9) (T := TX9) (N := 67) hx hb hts hiX9 hown hK hP 0 rfl rfl 35 (by decide) v_6 (fun _ h9 => h9) rfl dX9_comes_131 ?_
          refine lv_iconst (v := 0) hx hb dX9_comes_134 (by decide) ?_
          refine lv_aload_n hx hb dX9_comes_135 rfl (lv_at hl 1 rfl) ?_
          refine va_get (D := (dC, dI)) (ci := 9) (v := .ref (ad 34)) (C := RX9) (T := TX9) (N := 67) hx hb hts hiX9 hown hK hP 0 rfl rfl 34 (by decide) v_20 (fun _ h9 => h9) rfl dX9_comes_136 ?_
          refine lv_bipush (v := 25) hx hb dX9_comes_139 (by decide) ?_
          refine lv_iload hx hb dX9_comes_141 (lv_at hl 0 rfl) ?_
          refine lv_imul hx hb dX9_comes_143 ?_
          refine lv_topi (fun y_26 ey_26 => ?_)
          obtain rfl : y_26 = (nI (25 * (120 + m42_1))) := ey_26.trans (pk_mul 25 (120 + m42_1))
          have hFc := pu_free hD hS hA
          refine va_callv (va_runS (As := [.ref (ad 35), .int 0, .ref (ad 34), .int (nI (25 * (120 + m42_1)))]) (rest := []) ⟨hx, hb, hml, hown, hts⟩ (c_EM_copies_zn l dC dI _ ad ck x0 x16 x18 x19 x20 x21 x22 x23 x24 x25 x26 x27 x28 x29 x30 x33 x45 x46 x52 x53 x61 x62 x63 x65 x66 f1 f2 f3 q4 q5 q6 q7 f8 q9 q10 f11 m12_0 m12_1 m13_0 m13_1 m14_0 m14_1 m15_0 m15_1 f17 q31 f32 f34 z35_8 f36 f37 q38 f39 f40 f41 m42_0 m42_1 f43 f44 f47 f48 f49 f50 f51 q54 q55 q56 f57 q58 f59 f60 f64 (25 * (120 + m42_1)) hx16 hx18 hx19 hx21 hx22 hx26 hx28 hx29 hx30 hx33 hx46 hx52 hx53 hx61 hx62 hx63 hx65 hm12_0 hm12_1 hm13_0 hm13_1 hm14_0 hm14_1 hm15_0 hm15_1 hm42_0 (Nat.le_trans hm42_1 (Nat.le_of_ble_eq_true rfl)) (by omega)) (va_cwS 4 hts g_EM_comes_1_120_1_EM_copies_zn rfl rfl rfl (by decide +kernel) ⟨Nat.le_of_ble_eq_true rfl, Nat.le_of_ble_eq_true rfl⟩) ⟨pu_bl, pu_in hP hK hD⟩ rfl rfl hl.1 rfl (lv_room (Nat.le_of_ble_eq_true rfl)) dX9_comes_144 ⟨Nat.le_of_ble_eq_true rfl, Nat.le_of_ble_eq_true rfl⟩) hS (fun q _ h => hFc q h) hFc (fun u t H1 locs ht hvm hw hB hz1 hk1 hS => ?_)
          obtain ⟨z34_28, ⟨hP1, -, hD1⟩, xr_27_0⟩ := hB
          rw [ht] at hP1
          have hP := hP1
          have hD := pu_all hFc hD1
          clear hP1 hD1 hFc
          clear hk1 hz1 ht hvm
          generalize H1 = H at hP hS ⊢
          replace hsp := hsp.trans (slet_eq xr_27_0)
          refine lv_aload_n hx hb dX9_comes_147 rfl (lv_at hl 1 rfl) ?_
          refine va_get (D := (dC, dI)) (ci := 9) (v := .ref (ad 38)) (C := RX9) (T := TX9) (N := 67) hx hb hts hiX9 hown hK hP 0 rfl rfl 38 (by decide) v_24 (fun _ h9 => h9) rfl dX9_comes_148 ?_
          refine lv_iload hx hb dX9_comes_151 (lv_at hl 0 rfl) ?_
          refine lv_iload_n hx hb dX9_comes_153 rfl (lv_at hl 3 rfl) ?_
          refine va_iast hx hb hK hP hD hS 23 22 rfl rfl (vp_in_nI (n := (120 + m42_1)) (by omega) (Nat.le_of_ble_eq_true rfl)) dX9_comes_154 (fun H locs hP hD hS => ?_)
          obtain ⟨q_29, eq_29, kq_29, oq_29, xq_29⟩ := bN_upx 7 q38 (n := (120 + m42_1)) (v := a1) (by omega) ha1
          have hP : va_P (dC, dI) vwCl (mo_w ad ck x0 (nI x16) (nI x18) (nI x19) x20 (nI x21) (nI x22) x23 x24 x25 (nI x26) x27 (nI x28) (nI x29) (nI x30) (nI x33) x45 (nI x46) (nI x52) (nI x53) (nI x61) (nI x62) (nI x63) (nI x65) x66 f1 f2 f3 (bN 3 q4) (bN 7 q5) (bN 7 q6) (bN 4 q7) f8 (bN 2 q9) (bH q10) f11 (b2 m12_0 m12_1) (b2 m13_0 m13_1) (b2 m14_0 m14_1) (b2m m15_0 m15_1) f17 (bA 159 q31) f32 z34_28 z35_8 f36 f37 (bN 7 q_29) f39 f40 f41 (b2 m42_0 m42_1) f43 f44 f47 f48 f49 f50 f51 (bN 13 q54) (bN 120 q55) (bN 120 q56) f57 (bN 120 q58) f59 f60 f64) H := by rw [← eq_29]; exact hP
          have hD : va_D A (mo_w ad ck x0 (nI x16) (nI x18) (nI x19) x20 (nI x21) (nI x22) x23 x24 x25 (nI x26) x27 (nI x28) (nI x29) (nI x30) (nI x33) x45 (nI x46) (nI x52) (nI x53) (nI x61) (nI x62) (nI x63) (nI x65) x66 f1 f2 f3 (bN 3 q4) (bN 7 q5) (bN 7 q6) (bN 4 q7) f8 (bN 2 q9) (bH q10) f11 (b2 m12_0 m12_1) (b2 m13_0 m13_1) (b2 m14_0 m14_1) (b2m m15_0 m15_1) f17 (bA 159 q31) f32 z34_28 z35_8 f36 f37 (bN 7 q_29) f39 f40 f41 (b2 m42_0 m42_1) f43 f44 f47 f48 f49 f50 f51 (bN 13 q54) (bN 120 q55) (bN 120 q56) f57 (bN 120 q58) f59 f60 f64) := by rw [← eq_29]; exact hD
          replace hsp := hsp.trans (slet_eq xq_29)
          refine lv_aload_n hx hb dX9_comes_155 rfl (lv_at hl 1 rfl) ?_
          refine va_get (D := (dC, dI)) (ci := 9) (v := .ref (ad 39)) (C := RX9) (T := TX9) (N := 67) hx hb hts hiX9 hown hK hP 0 rfl rfl 39 (by decide) v_25 (fun _ h9 => h9) rfl dX9_comes_156 ?_
          refine lv_iload hx hb dX9_comes_159 (lv_at hl 0 rfl) ?_
          refine lv_iload_n hx hb dX9_comes_161 rfl (lv_at hl 4 rfl) ?_
          refine va_iast hx hb hK hP hD hS 24 23 rfl rfl (vp_in_nI (n := (120 + m42_1)) (by omega) (Nat.le_of_ble_eq_true rfl)) dX9_comes_162 (fun H locs hP hD hS => ?_)
          obtain ⟨f_30, ef_30, xf_30⟩ := up_x f39 (n := (120 + m42_1)) (nI a2) (by omega)
          have hP : va_P (dC, dI) vwCl (mo_w ad ck x0 (nI x16) (nI x18) (nI x19) x20 (nI x21) (nI x22) x23 x24 x25 (nI x26) x27 (nI x28) (nI x29) (nI x30) (nI x33) x45 (nI x46) (nI x52) (nI x53) (nI x61) (nI x62) (nI x63) (nI x65) x66 f1 f2 f3 (bN 3 q4) (bN 7 q5) (bN 7 q6) (bN 4 q7) f8 (bN 2 q9) (bH q10) f11 (b2 m12_0 m12_1) (b2 m13_0 m13_1) (b2 m14_0 m14_1) (b2m m15_0 m15_1) f17 (bA 159 q31) f32 z34_28 z35_8 f36 f37 (bN 7 q_29) f_30 f40 f41 (b2 m42_0 m42_1) f43 f44 f47 f48 f49 f50 f51 (bN 13 q54) (bN 120 q55) (bN 120 q56) f57 (bN 120 q58) f59 f60 f64) H := by rw [← ef_30]; exact hP
          have hD : va_D A (mo_w ad ck x0 (nI x16) (nI x18) (nI x19) x20 (nI x21) (nI x22) x23 x24 x25 (nI x26) x27 (nI x28) (nI x29) (nI x30) (nI x33) x45 (nI x46) (nI x52) (nI x53) (nI x61) (nI x62) (nI x63) (nI x65) x66 f1 f2 f3 (bN 3 q4) (bN 7 q5) (bN 7 q6) (bN 4 q7) f8 (bN 2 q9) (bH q10) f11 (b2 m12_0 m12_1) (b2 m13_0 m13_1) (b2 m14_0 m14_1) (b2m m15_0 m15_1) f17 (bA 159 q31) f32 z34_28 z35_8 f36 f37 (bN 7 q_29) f_30 f40 f41 (b2 m42_0 m42_1) f43 f44 f47 f48 f49 f50 f51 (bN 13 q54) (bN 120 q55) (bN 120 q56) f57 (bN 120 q58) f59 f60 f64) := by rw [← ef_30]; exact hD
          replace hsp := hsp.trans (slet_eq xf_30)
          refine lv_aload_n hx hb dX9_comes_163 rfl (lv_at hl 1 rfl) ?_
          refine va_get (D := (dC, dI)) (ci := 9) (v := .ref (ad 40)) (C := RX9) (T := TX9) (N := 67) hx hb hts hiX9 hown hK hP 0 rfl rfl 40 (by decide) v_26 (fun _ h9 => h9) rfl dX9_comes_164 ?_
          refine lv_iload hx hb dX9_comes_167 (lv_at hl 0 rfl) ?_
          refine lv_iload hx hb dX9_comes_169 (lv_at hl 5 rfl) ?_
          refine va_iast hx hb hK hP hD hS 25 24 rfl rfl (vp_in_nI (n := (120 + m42_1)) (by omega) (Nat.le_of_ble_eq_true rfl)) dX9_comes_171 (fun H locs hP hD hS => ?_)
          obtain ⟨f_31, ef_31, xf_31⟩ := up_x f40 (n := (120 + m42_1)) (nI a3) (by omega)
          have hP : va_P (dC, dI) vwCl (mo_w ad ck x0 (nI x16) (nI x18) (nI x19) x20 (nI x21) (nI x22) x23 x24 x25 (nI x26) x27 (nI x28) (nI x29) (nI x30) (nI x33) x45 (nI x46) (nI x52) (nI x53) (nI x61) (nI x62) (nI x63) (nI x65) x66 f1 f2 f3 (bN 3 q4) (bN 7 q5) (bN 7 q6) (bN 4 q7) f8 (bN 2 q9) (bH q10) f11 (b2 m12_0 m12_1) (b2 m13_0 m13_1) (b2 m14_0 m14_1) (b2m m15_0 m15_1) f17 (bA 159 q31) f32 z34_28 z35_8 f36 f37 (bN 7 q_29) f_30 f_31 f41 (b2 m42_0 m42_1) f43 f44 f47 f48 f49 f50 f51 (bN 13 q54) (bN 120 q55) (bN 120 q56) f57 (bN 120 q58) f59 f60 f64) H := by rw [← ef_31]; exact hP
          have hD : va_D A (mo_w ad ck x0 (nI x16) (nI x18) (nI x19) x20 (nI x21) (nI x22) x23 x24 x25 (nI x26) x27 (nI x28) (nI x29) (nI x30) (nI x33) x45 (nI x46) (nI x52) (nI x53) (nI x61) (nI x62) (nI x63) (nI x65) x66 f1 f2 f3 (bN 3 q4) (bN 7 q5) (bN 7 q6) (bN 4 q7) f8 (bN 2 q9) (bH q10) f11 (b2 m12_0 m12_1) (b2 m13_0 m13_1) (b2 m14_0 m14_1) (b2m m15_0 m15_1) f17 (bA 159 q31) f32 z34_28 z35_8 f36 f37 (bN 7 q_29) f_30 f_31 f41 (b2 m42_0 m42_1) f43 f44 f47 f48 f49 f50 f51 (bN 13 q54) (bN 120 q55) (bN 120 q56) f57 (bN 120 q58) f59 f60 f64) := by rw [← ef_31]; exact hD
          replace hsp := hsp.trans (slet_eq xf_31)
          refine lv_aload_n hx hb dX9_comes_172 rfl (lv_at hl 1 rfl) ?_
          refine va_get (D := (dC, dI)) (ci := 9) (v := .ref (ad 41)) (C := RX9) (T := TX9) (N := 67) hx hb hts hiX9 hown hK hP 0 rfl rfl 41 (by decide) v_27 (fun _ h9 => h9) rfl dX9_comes_173 ?_
          refine lv_iload hx hb dX9_comes_176 (lv_at hl 0 rfl) ?_
          refine lv_iload_n hx hb dX9_comes_178 rfl (lv_at hl 4 rfl) ?_
          refine lv_iconst (v := (-1)) hx hb dX9_comes_179 (by decide) ?_
          refine lv_icmp_ne (tgt := 187) hx hb dX9_comes_180 (by decide) (fun _ => ?_) (fun z => absurd z (pu_nneg (n := a2) (by omega) (by decide)))
          refine lv_aload_n hx hb dX9_comes_187 rfl (lv_at hl 1 rfl) ?_
          refine va_get (D := (dC, dI)) (ci := 9) (v := .ref (ad 41)) (C := RX9) (T := TX9) (N := 67) hx hb hts hiX9 hown hK hP 0 rfl rfl 41 (by decide) v_27 (fun _ h9 => h9) rfl dX9_comes_188 ?_
          refine lv_iload_n hx hb dX9_comes_191 rfl (lv_at hl 2 rfl) ?_
          refine lv_iload_n hx hb dX9_comes_192 rfl (lv_at hl 4 rfl) ?_
          refine va_calli (va_runS (As := [.int 1, .int (nI a2)]) (rest := [.ref (ad 41), .int (nI (120 + m42_1)), .ref (ad 41)]) ⟨hx, hb, hml, hown, hts⟩ (c_EM_spotOf_1 l dC dI _ ad ck x0 x16 x18 x19 x20 x21 x22 x23 x24 x25 x26 x27 x28 x29 x30 x33 x45 x46 x52 x53 x61 x62 x63 x65 x66 f1 f2 f3 q4 q5 q6 q7 f8 q9 q10 f11 m12_0 m12_1 m13_0 m13_1 m14_0 m14_1 m15_0 m15_1 f17 q31 f32 z34_28 z35_8 f36 f37 q_29 f_30 f_31 f41 m42_0 m42_1 f43 f44 f47 f48 f49 f50 f51 q54 q55 q56 f57 q58 f59 f60 f64 a2 hx16 hx18 hx19 hx21 hx22 hx26 hx28 hx29 hx30 hx33 hx46 hx52 hx53 hx61 hx62 hx63 hx65 hm12_0 hm12_1 hm13_0 hm13_1 hm14_0 hm14_1 hm15_0 hm15_1 hm42_0 (Nat.le_trans hm42_1 (Nat.le_of_ble_eq_true rfl)) (Nat.le_trans ha2 (Nat.le_of_ble_eq_true rfl))) (va_cwS 2 hts g_EM_comes_1_120_1_EM_spotOf_1 rfl rfl rfl (by decide +kernel) ⟨Nat.le_of_ble_eq_true rfl, Nat.le_of_ble_eq_true rfl⟩) ⟨pu_bl, pu_in hP hK hD⟩ rfl rfl hl.1 rfl (lv_room (Nat.le_of_ble_eq_true rfl)) dX9_comes_193 ⟨Nat.le_of_ble_eq_true rfl, Nat.le_of_ble_eq_true rfl⟩) hS (fun q _ h => pu_fr hS hA q h) (pu_fr hS hA) (fun r_32 u t H1 locs ht hvm hw hB hz1 hk1 hS => ?_)
          have hP := pu_keep hP hk1
          clear hk1 hz1 ht hvm
          generalize H1 = H at hP hS ⊢
          obtain rfl : r_32 = nI (120 + a2) := hw
          refine va_iald hx hb hK hP 26 25 rfl rfl (vp_in_nI (n := (120 + a2)) (by omega) (Nat.le_of_ble_eq_true rfl)) dX9_comes_196 ?_
          refine lv_topi (fun y_33 ey_33 => ?_)
          have ey_33 : y_33 = f41 (120 + a2) := ey_33.trans (congrArg f41 (nI_clamp (n := (120 + a2)) (by omega)))
          replace hsp := hsp.trans (slet_eq ey_33)
          refine lv_iconst (v := 1) hx hb dX9_comes_197 (by decide) ?_
          refine lv_iadd hx hb dX9_comes_198 ?_
          refine lv_topi (fun y_34 ey_34 => ?_)
          replace hsp := hsp.trans (slet_eq ey_34)
          refine va_iast hx hb hK hP hD hS 26 25 rfl rfl (vp_in_nI (n := (120 + m42_1)) (by omega) (Nat.le_of_ble_eq_true rfl)) dX9_comes_199 (fun H locs hP hD hS => ?_)
          obtain ⟨f_35, ef_35, xf_35⟩ := up_x f41 (n := (120 + m42_1)) y_34 (by omega)
          have hP : va_P (dC, dI) vwCl (mo_w ad ck x0 (nI x16) (nI x18) (nI x19) x20 (nI x21) (nI x22) x23 x24 x25 (nI x26) x27 (nI x28) (nI x29) (nI x30) (nI x33) x45 (nI x46) (nI x52) (nI x53) (nI x61) (nI x62) (nI x63) (nI x65) x66 f1 f2 f3 (bN 3 q4) (bN 7 q5) (bN 7 q6) (bN 4 q7) f8 (bN 2 q9) (bH q10) f11 (b2 m12_0 m12_1) (b2 m13_0 m13_1) (b2 m14_0 m14_1) (b2m m15_0 m15_1) f17 (bA 159 q31) f32 z34_28 z35_8 f36 f37 (bN 7 q_29) f_30 f_31 f_35 (b2 m42_0 m42_1) f43 f44 f47 f48 f49 f50 f51 (bN 13 q54) (bN 120 q55) (bN 120 q56) f57 (bN 120 q58) f59 f60 f64) H := by rw [← ef_35]; exact hP
          have hD : va_D A (mo_w ad ck x0 (nI x16) (nI x18) (nI x19) x20 (nI x21) (nI x22) x23 x24 x25 (nI x26) x27 (nI x28) (nI x29) (nI x30) (nI x33) x45 (nI x46) (nI x52) (nI x53) (nI x61) (nI x62) (nI x63) (nI x65) x66 f1 f2 f3 (bN 3 q4) (bN 7 q5) (bN 7 q6) (bN 4 q7) f8 (bN 2 q9) (bH q10) f11 (b2 m12_0 m12_1) (b2 m13_0 m13_1) (b2 m14_0 m14_1) (b2m m15_0 m15_1) f17 (bA 159 q31) f32 z34_28 z35_8 f36 f37 (bN 7 q_29) f_30 f_31 f_35 (b2 m42_0 m42_1) f43 f44 f47 f48 f49 f50 f51 (bN 13 q54) (bN 120 q55) (bN 120 q56) f57 (bN 120 q58) f59 f60 f64) := by rw [← ef_35]; exact hD
          replace hsp := hsp.trans (slet_eq xf_35)
          refine lv_aload_n hx hb dX9_comes_200 rfl (lv_at hl 1 rfl) ?_
          refine va_get (D := (dC, dI)) (ci := 9) (v := .ref (ad 42)) (C := RX9) (T := TX9) (N := 67) hx hb hts hiX9 hown hK hP 0 rfl rfl 42 (by decide) v_15 (fun _ h9 => h9) rfl dX9_comes_201 ?_
          refine lv_iload_n hx hb dX9_comes_204 rfl (lv_at hl 2 rfl) ?_
          refine lv_dup2_11 hx hb dX9_comes_205 rfl rfl ?_
          refine va_iald hx hb hK hP 27 26 rfl rfl (vp_in_nI (n := 1) (Nat.le_of_ble_eq_true rfl) (Nat.le_of_ble_eq_true rfl)) dX9_comes_206 ?_
          refine lv_topi (fun y_36 ey_36 => ?_)
          have qy_36 := ey_36.trans b2_1
          clear ey_36
          obtain rfl : y_36 = nI m42_1 := qy_36
          refine lv_iconst (v := 1) hx hb dX9_comes_207 (by decide) ?_
          refine lv_iadd hx hb dX9_comes_208 ?_
          refine lv_topi (fun y_37 ey_37 => ?_)
          obtain rfl : y_37 = (nI (m42_1 + 1)) := ey_37.trans (nI_add m42_1 1)
          refine va_iast hx hb hK hP hD hS 27 26 rfl rfl (vp_in_nI (n := 1) (Nat.le_of_ble_eq_true rfl) (Nat.le_of_ble_eq_true rfl)) dX9_comes_209 (fun H locs hP hD hS => ?_)
          have hP : va_P (dC, dI) vwCl (mo_w ad ck x0 (nI x16) (nI x18) (nI x19) x20 (nI x21) (nI x22) x23 x24 x25 (nI x26) x27 (nI x28) (nI x29) (nI x30) (nI x33) x45 (nI x46) (nI x52) (nI x53) (nI x61) (nI x62) (nI x63) (nI x65) x66 f1 f2 f3 (bN 3 q4) (bN 7 q5) (bN 7 q6) (bN 4 q7) f8 (bN 2 q9) (bH q10) f11 (b2 m12_0 m12_1) (b2 m13_0 m13_1) (b2 m14_0 m14_1) (b2m m15_0 m15_1) f17 (bA 159 q31) f32 z34_28 z35_8 f36 f37 (bN 7 q_29) f_30 f_31 f_35 (b2 m42_0 (m42_1 + 1)) f43 f44 f47 f48 f49 f50 f51 (bN 13 q54) (bN 120 q55) (bN 120 q56) f57 (bN 120 q58) f59 f60 f64) H := by rw [← b2_up1 (a := m42_0) (b := m42_1) (v := (m42_1 + 1))]; exact hP
          have hD : va_D A (mo_w ad ck x0 (nI x16) (nI x18) (nI x19) x20 (nI x21) (nI x22) x23 x24 x25 (nI x26) x27 (nI x28) (nI x29) (nI x30) (nI x33) x45 (nI x46) (nI x52) (nI x53) (nI x61) (nI x62) (nI x63) (nI x65) x66 f1 f2 f3 (bN 3 q4) (bN 7 q5) (bN 7 q6) (bN 4 q7) f8 (bN 2 q9) (bH q10) f11 (b2 m12_0 m12_1) (b2 m13_0 m13_1) (b2 m14_0 m14_1) (b2m m15_0 m15_1) f17 (bA 159 q31) f32 z34_28 z35_8 f36 f37 (bN 7 q_29) f_30 f_31 f_35 (b2 m42_0 (m42_1 + 1)) f43 f44 f47 f48 f49 f50 f51 (bN 13 q54) (bN 120 q55) (bN 120 q56) f57 (bN 120 q58) f59 f60 f64) := by rw [← b2_up1 (a := m42_0) (b := m42_1) (v := (m42_1 + 1))]; exact hD
          exact W.vret hx hb hr (fun t ht hW => ⟨⟨(), rfl, trivial, ⟨z34_28, z35_8, q_29, f_30, f_31, f_35, f44, (m42_1 + 1), ⟨by rw [ht]; exact hP, va_K.moved hW.alike hK, hD⟩, (by omega), by simp only [xf_30, xf_31, xf_35, ey_34, ey_33]; exact gz_far hgr (by omega), by omega, (hsp.symm.trans hRR)⟩⟩, hS.F ht⟩) hS.2.2 dX9_comes_210
        · have hcc_23 := c_23
          replace hsp := hsp.trans (if_neg c_23)
          refine lv_aload_n hx hb dX9_comes_110 rfl (lv_at hl 0 rfl) ?_
          refine va_get (D := (dC, dI)) (ci := 9) (v := .ref (ad 44)) (C := RX9) (T := TX9) (N := 67) hx hb hts hiX9 hown hK hP 0 rfl rfl 44 (by decide) v_16 (fun _ h9 => h9) rfl dX9_comes_111 ?_
          refine lv_iload_n hx hb dX9_comes_114 rfl (lv_at hl 1 rfl) ?_
          refine lv_iconst (v := 1) hx hb dX9_comes_115 (by decide) ?_
          refine va_zast hx hb hK hP hD hS 29 28 rfl rfl (vp_in_nI (n := 1) (Nat.le_of_ble_eq_true rfl) (Nat.le_of_ble_eq_true rfl)) dX9_comes_116 (fun H locs hP hD hS => ?_)
          obtain ⟨f_38, ef_38, xf_38⟩ := up_x f44 (n := 1) (vp_nar .boolean 1) (Nat.le_of_ble_eq_true rfl)
          have hP : va_P (dC, dI) vwCl (mo_w ad ck x0 (nI x16) (nI x18) (nI x19) x20 (nI x21) (nI x22) x23 x24 x25 (nI x26) x27 (nI x28) (nI x29) (nI x30) (nI x33) x45 (nI x46) (nI x52) (nI x53) (nI x61) (nI x62) (nI x63) (nI x65) x66 f1 f2 f3 (bN 3 q4) (bN 7 q5) (bN 7 q6) (bN 4 q7) f8 (bN 2 q9) (bH q10) f11 (b2 m12_0 m12_1) (b2 m13_0 m13_1) (b2 m14_0 m14_1) (b2m m15_0 m15_1) f17 (bA 159 q31) f32 f34 z35_8 f36 f37 (bN 7 q38) f39 f40 f41 (b2 m42_0 m42_1) f43 f_38 f47 f48 f49 f50 f51 (bN 13 q54) (bN 120 q55) (bN 120 q56) f57 (bN 120 q58) f59 f60 f64) H := by rw [← ef_38]; exact hP
          have hD : va_D A (mo_w ad ck x0 (nI x16) (nI x18) (nI x19) x20 (nI x21) (nI x22) x23 x24 x25 (nI x26) x27 (nI x28) (nI x29) (nI x30) (nI x33) x45 (nI x46) (nI x52) (nI x53) (nI x61) (nI x62) (nI x63) (nI x65) x66 f1 f2 f3 (bN 3 q4) (bN 7 q5) (bN 7 q6) (bN 4 q7) f8 (bN 2 q9) (bH q10) f11 (b2 m12_0 m12_1) (b2 m13_0 m13_1) (b2 m14_0 m14_1) (b2m m15_0 m15_1) f17 (bA 159 q31) f32 f34 z35_8 f36 f37 (bN 7 q38) f39 f40 f41 (b2 m42_0 m42_1) f43 f_38 f47 f48 f49 f50 f51 (bN 13 q54) (bN 120 q55) (bN 120 q56) f57 (bN 120 q58) f59 f60 f64) := by rw [← ef_38]; exact hD
          replace hsp := hsp.trans (slet_eq xf_38)
          exact W.vret hx hb hr (fun t ht hW => ⟨⟨(), rfl, trivial, ⟨f34, z35_8, q38, f39, f40, f41, f_38, m42_1, ⟨by rw [ht]; exact hP, va_K.moved hW.alike hK, hD⟩, hm42_1, hgr, by omega, (hsp.symm.trans hRR)⟩⟩, hS.F ht⟩) hS.2.2 dX9_comes_117
    · have c_18 : ¬ m42_1 ≤ g_10 := fun z => c_18 ((nI_leI (a := m42_1) (b := g_10) (Nat.lt_of_le_of_lt hm42_1 (Nat.le_of_ble_eq_true rfl)) (Nat.lt_of_le_of_lt hg_10 (Nat.le_of_ble_eq_true rfl))).mpr z)
      replace hsp := hsp.trans (if_neg c_18)
      refine lv_iload_n hx hb dX9_comes_41 rfl (lv_at hl 1 rfl) ?_
      refine lv_iload hx hb dX9_comes_42 (lv_at hl 8 rfl) ?_
      refine va_calli (va_runS (As := [.int 1, .int (nI g_10)]) (rest := []) ⟨hx, hb, hml, hown, hts⟩ (c_EM_spotOf_1 l dC dI _ ad ck x0 x16 x18 x19 x20 x21 x22 x23 x24 x25 x26 x27 x28 x29 x30 x33 x45 x46 x52 x53 x61 x62 x63 x65 x66 f1 f2 f3 q4 q5 q6 q7 f8 q9 q10 f11 m12_0 m12_1 m13_0 m13_1 m14_0 m14_1 m15_0 m15_1 f17 q31 f32 f34 z35_8 f36 f37 q38 f39 f40 f41 m42_0 m42_1 f43 f44 f47 f48 f49 f50 f51 q54 q55 q56 f57 q58 f59 f60 f64 g_10 hx16 hx18 hx19 hx21 hx22 hx26 hx28 hx29 hx30 hx33 hx46 hx52 hx53 hx61 hx62 hx63 hx65 hm12_0 hm12_1 hm13_0 hm13_1 hm14_0 hm14_1 hm15_0 hm15_1 hm42_0 (Nat.le_trans hm42_1 (Nat.le_of_ble_eq_true rfl)) (Nat.le_trans hg_10 (Nat.le_of_ble_eq_true rfl))) (va_cwS 2 hts g_EM_comes_1_120_1_EM_spotOf_1 rfl rfl rfl (by decide +kernel) ⟨Nat.le_of_ble_eq_true rfl, Nat.le_of_ble_eq_true rfl⟩) ⟨pu_bl, pu_in hP hK hD⟩ rfl rfl hl.1 rfl (lv_room (Nat.le_of_ble_eq_true rfl)) dX9_comes_44 ⟨Nat.le_of_ble_eq_true rfl, Nat.le_of_ble_eq_true rfl⟩) hS (fun q _ h => pu_fr hS hA q h) (pu_fr hS hA) (fun r_39 u t H1 locs ht hvm hw hB hz1 hk1 hS => ?_)
      have hP := pu_keep hP hk1
      clear hk1 hz1 ht hvm
      generalize H1 = H at hP hS ⊢
      obtain rfl : r_39 = nI (120 + g_10) := hw
      refine lv_istore (lv' := [(9, .int (nI (120 + g_10))), (0, .ref (ad 0)), (1, .int 1), (2, .int (nI a1)), (3, .int (nI a2)), (4, .int (nI a3)), (5, .int p4), (6, .int (nI a5)), (7, .int 120), (8, .int (nI g_10))]) hx hb dX9_comes_47 hl (by decide) rfl (fun ls hl => ?_)
      refine lv_aload_n hx hb dX9_comes_49 rfl (lv_at hl 1 rfl) ?_
      refine va_get (D := (dC, dI)) (ci := 9) (v := .ref (ad 38)) (C := RX9) (T := TX9) (N := 67) hx hb hts hiX9 hown hK hP 0 rfl rfl 38 (by decide) v_24 (fun _ h9 => h9) rfl dX9_comes_50 ?_
      refine lv_iload hx hb dX9_comes_53 (lv_at hl 0 rfl) ?_
      refine va_iald hx hb hK hP 23 22 rfl rfl (vp_in_nI (n := (120 + g_10)) (by omega) (Nat.le_of_ble_eq_true rfl)) dX9_comes_55 ?_
      refine lv_topi (fun y_40 ey_40 => ?_)
      obtain ⟨u_41, hu_41, qu_41, xu_41⟩ := bN_getx 7 q38 (n := (120 + g_10)) (by omega)
      obtain rfl : y_40 = nI u_41 := ey_40.trans qu_41
      replace hsp := hsp.trans (slet_eq xu_41)
      refine lv_iload_n hx hb dX9_comes_56 rfl (lv_at hl 3 rfl) ?_
      refine lv_icmp_ne (tgt := 84) hx hb dX9_comes_57 (by decide) (fun c_42 => ?_) (fun c_42 => ?_)
      · have c_42 : ¬ u_41 = a1 := fun z => c_42 ((nI_eq (a := u_41) (b := a1) (Nat.lt_of_le_of_lt hu_41 (Nat.le_of_ble_eq_true rfl)) (Nat.lt_of_le_of_lt ha1 (Nat.le_of_ble_eq_true rfl))).mpr z)
        replace hsp := hsp.trans (if_neg c_42)
        refine lv_iinc (v := (nI (g_10 + 1))) (lv' := [(8, .int (nI (g_10 + 1))), (9, .int (nI (120 + g_10))), (0, .ref (ad 0)), (1, .int 1), (2, .int (nI a1)), (3, .int (nI a2)), (4, .int (nI a3)), (5, .int p4), (6, .int (nI a5)), (7, .int 120)]) hx hb dX9_comes_84 hl (k := 9) rfl (nI_1 _) (by decide) rfl (fun ls hl => ?_)
        refine lv_goto (tgt := 30) hx hb dX9_comes_87 (by decide) ?_
        exact ih_11 (120 - (g_10 + 1)) (by omega) _ _ _ ⟨(g_10 + 1), rfl, (by omega), hin_15 _ hsp, hP, hD, hS, lv_sub hl [2, 3, 4, 5, 6, 7, 8, 9, 0] rfl⟩
      · have c_42 : u_41 = a1 := (nI_eq (a := u_41) (b := a1) (Nat.lt_of_le_of_lt hu_41 (Nat.le_of_ble_eq_true rfl)) (Nat.lt_of_le_of_lt ha1 (Nat.le_of_ble_eq_true rfl))).mp c_42
        replace hsp := hsp.trans (if_pos c_42)
        refine lv_aload_n hx hb dX9_comes_60 rfl (lv_at hl 1 rfl) ?_
        refine lv_iload hx hb dX9_comes_61 (lv_at hl 0 rfl) ?_
        refine lv_aload_n hx hb dX9_comes_63 rfl (lv_at hl 1 rfl) ?_
        refine va_get (D := (dC, dI)) (ci := 9) (v := .ref (ad 35)) (C := RX9) (T := TX9) (N := 67) hx hb hts hiX9 hown hK hP 0 rfl rfl 35 (by decide) v_6 (fun _ h9 => h9) rfl dX9_comes_64 ?_
        refine lv_iload hx hb dX9_comes_67 (lv_at hl 7 rfl) ?_
        obtain ⟨JR_45, hJR_45, hsp⟩ := slet_ex hsp
        refine pu_join (fun H locs ls st => ∃ (g_43 : Nat), st = [.int (nI g_43), .ref (ad 35), .int (nI (120 + g_10)), .ref (ad 0)] ∧ g_43 ≤ 1 ∧ g_43 = JR_45 ∧ va_P (dC, dI) vwCl (mo_w ad ck x0 (nI x16) (nI x18) (nI x19) x20 (nI x21) (nI x22) x23 x24 x25 (nI x26) x27 (nI x28) (nI x29) (nI x30) (nI x33) x45 (nI x46) (nI x52) (nI x53) (nI x61) (nI x62) (nI x63) (nI x65) x66 f1 f2 f3 (bN 3 q4) (bN 7 q5) (bN 7 q6) (bN 4 q7) f8 (bN 2 q9) (bH q10) f11 (b2 m12_0 m12_1) (b2 m13_0 m13_1) (b2 m14_0 m14_1) (b2m m15_0 m15_1) f17 (bA 159 q31) f32 f34 z35_8 f36 f37 (bN 7 q38) f39 f40 f41 (b2 m42_0 m42_1) f43 f44 f47 f48 f49 f50 f51 (bN 13 q54) (bN 120 q55) (bN 120 q56) f57 (bN 120 q58) f59 f60 f64) H ∧ va_D A (mo_w ad ck x0 (nI x16) (nI x18) (nI x19) x20 (nI x21) (nI x22) x23 x24 x25 (nI x26) x27 (nI x28) (nI x29) (nI x30) (nI x33) x45 (nI x46) (nI x52) (nI x53) (nI x61) (nI x62) (nI x63) (nI x65) x66 f1 f2 f3 (bN 3 q4) (bN 7 q5) (bN 7 q6) (bN 4 q7) f8 (bN 2 q9) (bH q10) f11 (b2 m12_0 m12_1) (b2 m13_0 m13_1) (b2 m14_0 m14_1) (b2m m15_0 m15_1) f17 (bA 159 q31) f32 f34 z35_8 f36 f37 (bN 7 q38) f39 f40 f41 (b2 m42_0 m42_1) f43 f44 f47 f48 f49 f50 f51 (bN 13 q54) (bN 120 q55) (bN 120 q56) f57 (bN 120 q58) f59 f60 f64) ∧ va_S A s.heap H locs ∧ lv_has ls 10 [(0, .ref (ad 0)), (1, .int 1), (2, .int (nI a1)), (3, .int (nI a2)), (4, .int (nI a3)), (5, .int p4), (6, .int (nI a5)), (7, .int 120), (8, .int (nI g_10)), (9, .int (nI (120 + g_10)))]) 77 ?_ (fun j_44 => ?_)
        · rintro H locs ls st ⟨g_43, rfl, hg_43, he_46, hP, hD, hS, hl⟩
          rw [← he_46] at hsp
          refine va_calli (va_runV (As := [.int (nI (120 + g_10)), .ref (ad 35), .int (nI g_43)]) (rest := []) ⟨hx, hb, hml, hown, hts⟩ (c_EM_hasAll l dC dI _ ad ck x0 x16 x18 x19 x20 x21 x22 x23 x24 x25 x26 x27 x28 x29 x30 x33 x45 x46 x52 x53 x61 x62 x63 x65 x66 f1 f2 f3 q4 q5 q6 q7 f8 q9 q10 f11 m12_0 m12_1 m13_0 m13_1 m14_0 m14_1 m15_0 m15_1 f17 q31 f32 f34 z35_8 f36 f37 q38 f39 f40 f41 m42_0 m42_1 f43 f44 f47 f48 f49 f50 f51 q54 q55 q56 f57 q58 f59 f60 f64 (120 + g_10) g_43 hx16 hx18 hx19 hx21 hx22 hx26 hx28 hx29 hx30 hx33 hx46 hx52 hx53 hx61 hx62 hx63 hx65 hm12_0 hm12_1 hm13_0 hm13_1 hm14_0 hm14_1 hm15_0 hm15_1 hm42_0 (Nat.le_trans hm42_1 (Nat.le_of_ble_eq_true rfl)) (by omega) hg_43) (cwV 3 hts g_EM_comes_1_120_1_EM_hasAll rfl rfl rfl (by decide +kernel) ⟨Nat.le_of_ble_eq_true rfl, Nat.le_of_ble_eq_true rfl⟩) ⟨pu_bl, va_recv hK hP (ci := 9) (q0 := 0) rfl rfl, pu_in hP hK hD⟩ rfl rfl hl.1 rfl (lv_room (Nat.le_of_ble_eq_true rfl)) dX9_comes_77 ⟨Nat.le_of_ble_eq_true rfl, Nat.le_of_ble_eq_true rfl⟩) hS (fun q _ h => pu_fr hS hA q h) (pu_fr hS hA) (fun r_47 u t H1 locs ht hvm hw hB hz1 hk1 hS => ?_)
          have hP := pu_keep hP hk1
          clear hk1 hz1 ht hvm
          generalize H1 = H at hP hS ⊢
          obtain ⟨u_48, hu_48, rfl, iu_48⟩ := hw
          replace hsp := hsp.trans (slet_eq iu_48)
          refine lv_if_eq (tgt := 84) hx hb dX9_comes_80 (by decide) (fun c_49 => ?_) (fun c_49 => ?_)
          · have c_49 : u_48 = 0 := (nI_eq (a := u_48) (b := 0) (Nat.lt_of_le_of_lt hu_48 (Nat.le_of_ble_eq_true rfl)) (Nat.le_of_ble_eq_true rfl)).mp c_49
            replace hsp := hsp.trans (if_pos c_49)
            refine lv_iinc (v := (nI (g_10 + 1))) (lv' := [(8, .int (nI (g_10 + 1))), (0, .ref (ad 0)), (1, .int 1), (2, .int (nI a1)), (3, .int (nI a2)), (4, .int (nI a3)), (5, .int p4), (6, .int (nI a5)), (7, .int 120), (9, .int (nI (120 + g_10)))]) hx hb dX9_comes_84 hl (k := 8) rfl (nI_1 _) (by decide) rfl (fun ls hl => ?_)
            refine lv_goto (tgt := 30) hx hb dX9_comes_87 (by decide) ?_
            exact ih_11 (120 - (g_10 + 1)) (by omega) _ _ _ ⟨(g_10 + 1), rfl, (by omega), hin_15 _ hsp, hP, hD, hS, lv_sub hl [1, 2, 3, 4, 5, 6, 7, 8, 0] rfl⟩
          · have c_49 : ¬ u_48 = 0 := fun z => c_49 ((nI_eq (a := u_48) (b := 0) (Nat.lt_of_le_of_lt hu_48 (Nat.le_of_ble_eq_true rfl)) (Nat.le_of_ble_eq_true rfl)).mpr z)
            replace hsp := hsp.trans (if_neg c_49)
            have hsp := hout_16 _ hsp
            exact W.vret hx hb hr (fun t ht hW => ⟨⟨(), rfl, trivial, ⟨f34, z35_8, q38, f39, f40, f41, f44, m42_1, ⟨by rw [ht]; exact hP, va_K.moved hW.alike hK, hD⟩, hm42_1, hgr, by omega, (hsp.symm.trans hRR)⟩⟩, hS.F ht⟩) hS.2.2 dX9_comes_83
        have hsp := hJR_45
        refine lv_if_ne (tgt := 76) hx hb dX9_comes_69 (by decide) (fun c_50 => ?_) (fun c_50 => ?_)
        · have c_50 : ¬ a5 = 0 := fun z => c_50 ((nI_eq (a := a5) (b := 0) (Nat.lt_of_le_of_lt ha5 (Nat.le_of_ble_eq_true rfl)) (Nat.le_of_ble_eq_true rfl)).mpr z)
          replace hsp := hsp.trans (if_neg c_50)
          refine lv_iconst (v := 0) hx hb dX9_comes_76 (by decide) ?_
          exact j_44 _ _ _ _ ⟨0, rfl, (Nat.le_of_ble_eq_true rfl), hsp.symm, hP, hD, hS, lv_sub hl [1, 2, 3, 4, 5, 6, 7, 8, 9, 0] rfl⟩
        · have c_50 : a5 = 0 := (nI_eq (a := a5) (b := 0) (Nat.lt_of_le_of_lt ha5 (Nat.le_of_ble_eq_true rfl)) (Nat.le_of_ble_eq_true rfl)).mp c_50
          replace hsp := hsp.trans (if_pos c_50)
          refine lv_iconst (v := 1) hx hb dX9_comes_72 (by decide) ?_
          refine lv_goto (tgt := 77) hx hb dX9_comes_73 (by decide) ?_
          exact j_44 _ _ _ _ ⟨1, rfl, (Nat.le_of_ble_eq_true rfl), hsp.symm, hP, hD, hS, lv_sub hl [1, 2, 3, 4, 5, 6, 7, 8, 9, 0] rfl⟩
  have hsp := hJR_5
  refine lv_if_ne (tgt := 17) hx hb dX9_comes_5 (by decide) (fun c_51 => ?_) (fun c_51 => ?_)
  · have c_51 : ¬ u_2 = 0 := fun z => c_51 ((nI_eq (a := u_2) (b := 0) (Nat.lt_of_le_of_lt hu_2 (Nat.le_of_ble_eq_true rfl)) (Nat.le_of_ble_eq_true rfl)).mpr z)
    replace hsp := hsp.trans (if_neg c_51)
    exact j_4 _ _ _ _ ⟨f35, rfl, hsp.symm, hP, hD, hS, lv_sub hl [0, 1, 2, 3, 4, 5, 6, 7] rfl⟩
  · have c_51 : u_2 = 0 := (nI_eq (a := u_2) (b := 0) (Nat.lt_of_le_of_lt hu_2 (Nat.le_of_ble_eq_true rfl)) (Nat.le_of_ble_eq_true rfl)).mp c_51
    replace hsp := hsp.trans (if_pos c_51)
    refine lv_aload_n hx hb dX9_comes_8 rfl (lv_at hl 0 rfl) ?_
    refine lv_aload_n hx hb dX9_comes_9 rfl (lv_at hl 0 rfl) ?_
    refine va_get (D := (dC, dI)) (ci := 9) (v := .ref (ad 35)) (C := RX9) (T := TX9) (N := 67) hx hb hts hiX9 hown hK hP 0 rfl rfl 35 (by decide) v_6 (fun _ h9 => h9) rfl dX9_comes_10 ?_
    refine lv_iload_n hx hb dX9_comes_13 rfl (lv_at hl 2 rfl) ?_
    have hFc := pu_free hD hS hA
    refine va_callv (va_runV (As := [.ref (ad 35), .int (nI a1)]) (rest := []) ⟨hx, hb, hml, hown, hts⟩ (c_EM_delays l dC dI _ ad ck x0 x16 x18 x19 x20 x21 x22 x23 x24 x25 x26 x27 x28 x29 x30 x33 x45 x46 x52 x53 x61 x62 x63 x65 x66 f1 f2 f3 q4 q5 q6 q7 f8 q9 q10 f11 m12_0 m12_1 m13_0 m13_1 m14_0 m14_1 m15_0 m15_1 f17 q31 f32 f34 f35 f36 f37 q38 f39 f40 f41 m42_0 m42_1 f43 f44 f47 f48 f49 f50 f51 q54 q55 q56 f57 q58 f59 f60 f64 a1 hx16 hx18 hx19 hx21 hx22 hx26 hx28 hx29 hx30 hx33 hx46 hx52 hx53 hx61 hx62 hx63 hx65 hm12_0 hm12_1 hm13_0 hm13_1 hm14_0 hm14_1 hm15_0 hm15_1 hm42_0 (Nat.le_trans hm42_1 (Nat.le_of_ble_eq_true rfl)) ha1) (cwV 2 hts g_EM_comes_1_120_1_EM_delays rfl rfl rfl (by decide +kernel) ⟨Nat.le_of_ble_eq_true rfl, Nat.le_of_ble_eq_true rfl⟩) ⟨pu_bl, va_recv hK hP (ci := 9) (q0 := 0) rfl rfl, pu_in hP hK hD⟩ rfl rfl hl.1 rfl (lv_room (Nat.le_of_ble_eq_true rfl)) dX9_comes_14 ⟨Nat.le_of_ble_eq_true rfl, Nat.le_of_ble_eq_true rfl⟩) hS (fun q _ h => hFc q h) hFc (fun u t H1 locs ht hvm hw hB hz1 hk1 hS => ?_)
    obtain ⟨z35_53, ⟨hP1, -, hD1⟩, xr_52_0⟩ := hB
    rw [ht] at hP1
    have hP := hP1
    have hD := pu_all hFc hD1
    clear hP1 hD1 hFc
    clear hk1 hz1 ht hvm
    generalize H1 = H at hP hS ⊢
    replace hsp := hsp.trans (slet_eq xr_52_0)
    exact j_4 _ _ _ _ ⟨z35_53, rfl, hsp.symm, hP, hD, hS, lv_sub hl [0, 1, 2, 3, 4, 5, 6, 7] rfl⟩
