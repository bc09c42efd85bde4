abbrev vs_EM_readPlace_1 : List Cond := .code yX9_readPlace cX9_readPlace 2 none :: VM
theorem g_EM_readPlace_1_EM_freshName_1 : GoodIn vs_EM_readPlace_1 (wsV RX9 238 RX9 yX9_freshName vs_EM_freshName_1) := gm_V vm_118 vm_119 vm_120 vm_12 vm_87
theorem g_EM_readPlace_1_EM_isGood : GoodIn vs_EM_readPlace_1 (wsV RX9 216 RX9 yX9_isGood vs_EM_isGood) := gm_V vm_91 vm_92 vm_93 vm_12 vm_15
theorem g_EM_readPlace_1_EM_isWord : GoodIn vs_EM_readPlace_1 (wsV RX9 193 RX9 yX9_isWord vs_EM_isWord) := gm_V vm_44 vm_45 vm_46 vm_12 vm_35
theorem g_EM_readPlace_1_EM_readCondition1_1 : GoodIn vs_EM_readPlace_1 (wsV RX9 241 RX9 yX9_readCondition vs_EM_readCondition1_1) := gm_V vm_122 vm_123 vm_124 vm_12 vm_107
theorem g_EM_readPlace_1_EM_fails : GoodIn vs_EM_readPlace_1 (wsV RX9 210 RX9 yX9_fails vs_EM_fails) := gm_V vm_55 vm_56 vm_57 vm_12 vm_39
theorem g_EM_readPlace_1_EM_next : GoodIn vs_EM_readPlace_1 (wsV RX9 226 RX9 yX9_next vs_EM_next) := gm_V vm_100 vm_101 vm_102 vm_12 vm_72
noncomputable def sp_EM_readPlace_1_L1 (x19 : Nat) (f1 : Nat → Int32) (m12_1 : Nat) (m13_1 : Nat) (f17 : Nat → Int32) (f_11 : Nat → Int32) (g_20 : Nat → Int32) : ((Nat → Nat) × (Nat → Int32) × (Nat → Nat) × (Nat → Nat) × Int32 × Nat × Nat × Int32 × Nat × Int32) → ((Nat → Nat) × (Nat → Int32) × (Nat → Nat) × (Nat → Nat) × Int32 × Nat × Nat × Int32 × Nat × Int32) ⊕ ((Nat → Nat) × (Nat → Int32) × (Nat → Int32) × (Nat → Int32) × (Nat → Nat) × (Nat → Nat) × Nat × Int32 × Nat × Nat × Int32 × Nat × Int32) := fun (g_36, g_37, g_38, g_39, g_40, g_41, g_42, g_43, g_44, g_45) => (slet (sp_EM_isGood g_44) (fun u_54 => (if u_54 = 0 then (Sum.inr (g_36, g_37, f_11, g_20, g_38, g_39, (m13_1 + 1), g_40, g_41, g_42, g_43, g_44, g_45)) else (slet (sp_EM_isWord g_42 g_43 22499628) (fun u_59 => (if u_59 = 0 then (Sum.inr (g_36, g_37, f_11, g_20, g_38, g_39, (m13_1 + 1), g_40, g_41, g_42, g_43, g_44, g_45)) else (slet (min (g_38 (8 + m13_1)) 3) (fun u_64 => (if u_64 = 3 then (Sum.inr (slet (sp_EM_fails g_40 g_42 g_44 g_45 5) (fun (z26_89, z27_90) => (g_36, g_37, f_11, g_20, g_38, g_39, m13_1, g_40, g_41, g_42, g_43, z26_89, z27_90)))) else (slet (sp_EM_readCondition1_1 x19 g_41 g_44 g_45 f1 g_39 g_36 g_37 m12_1 f17 ((136 + (3 * m13_1)) + u_64)) (fun (z10_75, z11_76, z9_77, z20_78, z21_79, z22_80, z23_81, z26_82, z27_83) => (slet (updN g_38 (8 + m13_1) (u_64 + 1)) (fun q_87 => (Sum.inl (z10_75, z11_76, q_87, z9_77, z20_78, z21_79, z22_80, z23_81, z26_82, z27_83)))))))))))))))
noncomputable def sp_EM_readPlace_1 (x19 : Nat) (x20 : Int32) (x21 : Nat) (x22 : Nat) (x23 : Int32) (x26 : Nat) (x27 : Int32) (f1 : Nat → Int32) (f2 : Nat → Int32) (f3 : Nat → Int32) (q4 : Nat → Nat) (q9 : Nat → Nat) (q10 : Nat → Nat) (f11 : Nat → Int32) (m12_1 : Nat) (m13_1 : Nat) (f17 : Nat → Int32) : (Nat → Nat) × (Nat → Int32) × (Nat → Int32) × (Nat → Int32) × (Nat → Nat) × (Nat → Nat) × Nat × Int32 × Nat × Nat × Int32 × Nat × Int32 := (slet (sp_EM_freshName_1 x19 x20 x21 x22 x23 x26 x27 f1 f2 m12_1 m13_1 f17) (fun (r_4, z20_5, z21_6, z22_7, z23_8, z26_9, z27_10) => (slet (upd f2 (8 + m13_1) r_4) (fun f_11 => (slet (upd f3 (8 + m13_1) 0) (fun f_12 => (slet (updN q4 (8 + m13_1) 0) (fun q_13 => (slet (sp_EM_isGood z26_9) (fun u_15 => (slet (α := Int32 × Nat × Nat × Int32 × (Nat → Int32)) (if u_15 = 0 then (z20_5, z21_6, z22_7, z23_8, f_12) else (slet (sp_EM_isWord z22_7 z23_8 723752404) (fun u_93 => (if u_93 = 0 then (z20_5, z21_6, z22_7, z23_8, f_12) else (slet (upd f_12 (8 + m13_1) 1) (fun f_95 => (slet (sp_EM_next x19 z21_6 f17) (fun (z20_97, z21_98, z22_99, z23_100) => (z20_97, z21_98, z22_99, z23_100, f_95))))))))) (fun (g_16, g_17, g_18, g_19, g_20) => (itrv (α := (Nat → Nat) × (Nat → Int32) × (Nat → Nat) × (Nat → Nat) × Int32 × Nat × Nat × Int32 × Nat × Int32) (β := ((Nat → Nat) × (Nat → Int32) × (Nat → Int32) × (Nat → Int32) × (Nat → Nat) × (Nat → Nat) × Nat × Int32 × Nat × Nat × Int32 × Nat × Int32)) default (sp_EM_readPlace_1_L1 x19 f1 m12_1 m13_1 f17 f_11 g_20) (q10, f11, q_13, q9, g_16, g_17, g_18, g_19, z26_9, z27_10))))))))))))))
set_option maxHeartbeats 4000000 in
set_option maxRecDepth 100000 in
theorem c_EM_readPlace_1 (l : Launch) (dC : Nat → ClassId) (dI : Nat → Nat → Nat) (sz : Nat) (ad : Nat → Nat) (ck : Nat → ClassId) (x0 : Int32) (x16 : Nat) (x18 : Nat) (x19 : Nat) (x20 : Int32) (x21 : Nat) (x22 : Nat) (x23 : Int32) (x24 : Int32) (x25 : Int32) (x26 : Nat) (x27 : Int32) (x29 : Nat) (x30 : Nat) (x33 : Nat) (x45 : Int32) (x46 : Nat) (x52 : Nat) (x53 : Nat) (x61 : Nat) (x62 : Nat) (x63 : Nat) (x65 : Nat) (x66 : Int32) (f1 : Nat → Int32) (f2 : Nat → Int32) (f3 : Nat → Int32) (q4 : Nat → Nat) (q5 : Nat → Nat) (q6 : Nat → Nat) (q7 : Nat → Nat) (f8 : Nat → Int32) (q9 : Nat → Nat) (q10 : Nat → Nat) (f11 : Nat → Int32) (m12_0 m12_1 : Nat) (m13_0 m13_1 : Nat) (m14_0 m14_1 : Nat) (m15_0 m15_1 : Nat) (f17 : Nat → Int32) (q31 : Nat → Nat) (f32 : Nat → Int32) (f34 : Nat → Int32) (f35 : Nat → Int32) (f36 : Nat → Int32) (f37 : Nat → Int32) (q38 : Nat → Nat) (f39 : Nat → Int32) (f40 : Nat → Int32) (f41 : Nat → Int32) (m42_0 m42_1 : Nat) (f43 : Nat → Int32) (f44 : Nat → Int32) (f47 : Nat → Int32) (f48 : Nat → Int32) (f49 : Nat → Int32) (f50 : Nat → Int32) (f51 : Nat → Int32) (q54 : Nat → Nat) (q55 : Nat → Nat) (q56 : Nat → Nat) (f57 : Nat → Int32) (q58 : Nat → Nat) (f59 : Nat → Int32) (f60 : Nat → Int32) (f64 : Nat → Int32) (hx16 : x16 ≤ 1) (hx18 : x18 ≤ 900) (hx19 : x19 ≤ 900) (hx21 : x21 ≤ 900) (hx22 : x22 ≤ 4) (hx26 : x26 ≤ 6) (hx29 : x29 ≤ 1) (hx30 : x30 ≤ 1) (hx33 : x33 ≤ 20) (hx46 : x46 ≤ 5) (hx52 : x52 ≤ 2400) (hx53 : x53 ≤ 119) (hx61 : x61 ≤ 119) (hx62 : x62 ≤ 2000) (hx63 : x63 ≤ 1) (hx65 : x65 ≤ 7) (hm12_0 : m12_0 ≤ 3) (hm12_1 : m12_1 ≤ 3) (hm13_0 : m13_0 ≤ 8) (hm13_1 : m13_1 ≤ 7) (hm14_0 : m14_0 ≤ 14) (hm14_1 : m14_1 ≤ 14) (hm15_0 : m15_0 ≤ 8) (hm15_1 : m15_1 ≤ 8) (hm42_0 : m42_0 ≤ 120) (hm42_1 : m42_1 ≤ 400) : Met l yX9_readPlace vs_EM_readPlace_1 ({ frames := 5, cells := 0, slots := 0, locals := 108 }) (va_Pc [.ref (ad 0)] (pu_B (dC, dI) (mo_w ad ck x0 (nI x16) (nI x18) (nI x19) x20 (nI x21) (nI x22) x23 x24 x25 (nI x26) x27 1 (nI x29) (nI x30) (nI x33) x45 (nI x46) (nI x52) (nI x53) (nI x61) (nI x62) (nI x63) (nI x65) x66 f1 f2 f3 (bN 3 q4) (bN 7 q5) (bN 7 q6) (bN 4 q7) f8 (bN 2 q9) (bH q10) f11 (b2 m12_0 m12_1) (b2 m13_0 m13_1) (b2 m14_0 m14_1) (b2m m15_0 m15_1) f17 (bA 159 q31) f32 f34 f35 f36 f37 (bN 7 q38) f39 f40 f41 (b2 m42_0 m42_1) f43 f44 f47 f48 f49 f50 f51 (bN 13 q54) (bN 120 q55) (bN 120 q56) f57 (bN 120 q58) f59 f60 f64) (mo_t ck) sz)) (va_Qv (fun (_ : Unit) => True) (fun _ t => ∃ (z10 : Nat → Nat) (z11 : Nat → Int32) (z2 : Nat → Int32) (z3 : Nat → Int32) (z4 : Nat → Nat) (z9 : Nat → Nat) (z13_1 : Nat) (z20 : Int32) (z21 : Nat) (z22 : Nat) (z23 : Int32) (z26 : Nat) (z27 : Int32), pu_E (dC, dI) (mo_w ad ck x0 (nI x16) (nI x18) (nI x19) z20 (nI z21) (nI z22) z23 x24 x25 (nI z26) z27 1 (nI x29) (nI x30) (nI x33) x45 (nI x46) (nI x52) (nI x53) (nI x61) (nI x62) (nI x63) (nI x65) x66 f1 z2 z3 (bN 3 z4) (bN 7 q5) (bN 7 q6) (bN 4 q7) f8 (bN 2 z9) (bH z10) z11 (b2 m12_0 m12_1) (b2 m13_0 z13_1) (b2 m14_0 m14_1) (b2m m15_0 m15_1) f17 (bA 159 q31) f32 f34 f35 f36 f37 (bN 7 q38) f39 f40 f41 (b2 m42_0 m42_1) f43 f44 f47 f48 f49 f50 f51 (bN 13 q54) (bN 120 q55) (bN 120 q56) f57 (bN 120 q58) f59 f60 f64) (mo_t ck) (va_A ((mo_w ad ck x0 (nI x16) (nI x18) (nI x19) x20 (nI x21) (nI x22) x23 x24 x25 (nI x26) x27 1 (nI x29) (nI x30) (nI x33) x45 (nI x46) (nI x52) (nI x53) (nI x61) (nI x62) (nI x63) (nI x65) x66 f1 f2 f3 (bN 3 q4) (bN 7 q5) (bN 7 q6) (bN 4 q7) f8 (bN 2 q9) (bH q10) f11 (b2 m12_0 m12_1) (b2 m13_0 m13_1) (b2 m14_0 m14_1) (b2m m15_0 m15_1) f17 (bA 159 q31) f32 f34 f35 f36 f37 (bN 7 q38) f39 f40 f41 (b2 m42_0 m42_1) f43 f44 f47 f48 f49 f50 f51 (bN 13 q54) (bN 120 q55) (bN 120 q56) f57 (bN 120 q58) f59 f60 f64)) sz) t ∧ (z13_1 ≤ 8) ∧ (z21 ≤ 900) ∧ (z22 ≤ 4) ∧ (z26 ≤ 6) ∧ (mu z21 z22 ≤ mu x21 x22) ∧ ((z10, z11, z2, z3, z4, z9, z13_1, z20, z21, z22, z23, z26, z27) = (sp_EM_readPlace_1 x19 x20 x21 x22 x23 x26 x27 f1 f2 f3 q4 q9 q10 f11 m12_1 m13_1 f17))) (va_A ((mo_w ad ck x0 (nI x16) (nI x18) (nI x19) x20 (nI x21) (nI x22) x23 x24 x25 (nI x26) x27 1 (nI x29) (nI x30) (nI x33) x45 (nI x46) (nI x52) (nI x53) (nI x61) (nI x62) (nI x63) (nI x65) x66 f1 f2 f3 (bN 3 q4) (bN 7 q5) (bN 7 q6) (bN 4 q7) f8 (bN 2 q9) (bH q10) f11 (b2 m12_0 m12_1) (b2 m13_0 m13_1) (b2 m14_0 m14_1) (b2m m15_0 m15_1) f17 (bA 159 q31) f32 f34 f35 f36 f37 (bN 7 q38) f39 f40 f41 (b2 m42_0 m42_1) f43 f44 f47 f48 f49 f50 f51 (bN 13 q54) (bN 120 q55) (bN 120 q56) f57 (bN 120 q58) f59 f60 f64)) sz)) 0 0 (va_A ((mo_w ad ck x0 (nI x16) (nI x18) (nI x19) x20 (nI x21) (nI x22) x23 x24 x25 (nI x26) x27 1 (nI x29) (nI x30) (nI x33) x45 (nI x46) (nI x52) (nI x53) (nI x61) (nI x62) (nI x63) (nI x65) x66 f1 f2 f3 (bN 3 q4) (bN 7 q5) (bN 7 q6) (bN 4 q7) f8 (bN 2 q9) (bH q10) f11 (b2 m12_0 m12_1) (b2 m13_0 m13_1) (b2 m14_0 m14_1) (b2m m15_0 m15_1) f17 (bA 159 q31) f32 f34 f35 f36 f37 (bN 7 q38) f39 f40 f41 (b2 m42_0 m42_1) f43 f44 f47 f48 f49 f50 f51 (bN 13 q54) (bN 120 q55) (bN 120 q56) f57 (bN 120 q58) f59 f60 f64)) sz) := by
  refine Met.ofW (cc := cX9_readPlace) (maxL := 2) (ret := none) (by decide) rfl ?_
  intro p e s m args below meth c s₁ B hml hv
  obtain ⟨rfl, rfl, hP, hK, hD0⟩ := hv
  have hx := B.exec
  have hb := B.bytes
  have hr := B.returns
  have hts := atoms_spec (ws := vs_EM_readPlace_1) B.pre
  have v_1 := hts (.fieldLink RX9 203 "ClockReachModel" "rb" "I") (List.mem_cons_of_mem _ vm_82)
  have v_2 := hts (.fieldLink RX9 46 "ClockReachModel" "placeMany" "[I") (List.mem_cons_of_mem _ vm_85)
  have v_3 := hts (.fieldLink RX9 13 "ClockReachModel" "placeName" "[I") (List.mem_cons_of_mem _ vm_86)
  have v_9 := hts (.fieldLink RX9 16 "ClockReachModel" "urgent" "[I") (List.mem_cons_of_mem _ vm_34)
  have v_10 := hts (.fieldLink RX9 19 "ClockReachModel" "untils" "[I") (List.mem_cons_of_mem _ vm_121)
  have v_15 := hts (.constant RX9 197 (723752404)) (List.mem_cons_of_mem _ vm_48)
  have v_24 := hts (.constant RX9 198 (22499628)) (List.mem_cons_of_mem _ vm_49)
  have hown : s.vm.findClass RX9 = some m.cls := findClass_of_methodNamed B.named
  have hlocks := B.notSynchronized
  have hiX9 : ∀ w ∈ wsX90, w ∈ vs_EM_readPlace_1 := fun _ h => List.mem_cons_of_mem _ (List.mem_append_right _ h)
  have hD := hD0.self (sz := s.heap.size)
  generalize hAe : va_A ((mo_w ad ck x0 (nI x16) (nI x18) (nI x19) x20 (nI x21) (nI x22) x23 x24 x25 (nI x26) x27 1 (nI x29) (nI x30) (nI x33) x45 (nI x46) (nI x52) (nI x53) (nI x61) (nI x62) (nI x63) (nI x65) x66 f1 f2 f3 (bN 3 q4) (bN 7 q5) (bN 7 q6) (bN 4 q7) f8 (bN 2 q9) (bH q10) f11 (b2 m12_0 m12_1) (b2 m13_0 m13_1) (b2 m14_0 m14_1) (b2m m15_0 m15_1) f17 (bA 159 q31) f32 f34 f35 f36 f37 (bN 7 q38) f39 f40 f41 (b2 m42_0 m42_1) f43 f44 f47 f48 f49 f50 f51 (bN 13 q54) (bN 120 q55) (bN 120 q56) f57 (bN 120 q58) f59 f60 f64)) s.heap.size = A at hD ⊢
  have hA : ∀ q : Nat, s.heap.size ≤ q → A q := fun q h => by rw [← hAe]; exact Or.inr h
  have hS : va_S A s.heap s.heap [] := va_S.rf
  have hl := lv_entry ([.ref (ad 0)]) (n := 2) (Nat.le_of_ble_eq_true rfl)
  rw [lg_entry_eq]
  generalize (lg_sl ([.ref (ad 0)]) ++ List.replicate (2 - (lg_sl ([.ref (ad 0)])).length) Slot.unset).toArray = ls at hl ⊢
  have hl : lv_has ls 2 [(0, .ref (ad 0))] := hl
  obtain ⟨RR, hRR⟩ : ∃ x, x = (sp_EM_readPlace_1 x19 x20 x21 x22 x23 x26 x27 f1 f2 f3 q4 q9 q10 f11 m12_1 m13_1 f17) := ⟨_, rfl⟩
  have hsp := hRR
  refine lv_bipush (v := 8) hx hb dX9_readPlace_0 (by decide) ?_
  refine lv_aload_n hx hb dX9_readPlace_2 rfl (lv_at hl 0 rfl) ?_
  refine va_get (D := (dC, dI)) (ci := 9) (v := .int 1) (C := RX9) (T := TX9) (N := 67) hx hb hts hiX9 hown hK hP 0 rfl rfl 28 (by decide) v_1 (fun _ h9 => h9) rfl dX9_readPlace_3 ?_
  refine lv_imul hx hb dX9_readPlace_6 ?_
  refine lv_topi (fun y_1 ey_1 => ?_)
  obtain rfl : y_1 = 8 := ey_1.trans (by decide)
  refine lv_aload_n hx hb dX9_readPlace_7 rfl (lv_at hl 0 rfl) ?_
  refine va_get (D := (dC, dI)) (ci := 9) (v := .ref (ad 13)) (C := RX9) (T := TX9) (N := 67) hx hb hts hiX9 hown hK hP 0 rfl rfl 13 (by decide) v_2 (fun _ h9 => h9) rfl dX9_readPlace_8 ?_
  refine lv_aload_n hx hb dX9_readPlace_11 rfl (lv_at hl 0 rfl) ?_
  refine va_get (D := (dC, dI)) (ci := 9) (v := .int 1) (C := RX9) (T := TX9) (N := 67) hx hb hts hiX9 hown hK hP 0 rfl rfl 28 (by decide) v_1 (fun _ h9 => h9) rfl dX9_readPlace_12 ?_
  refine va_iald hx hb hK hP 13 12 rfl rfl (vp_in_nI (n := 1) (Nat.le_of_ble_eq_true rfl) (Nat.le_of_ble_eq_true rfl)) dX9_readPlace_15 ?_
  refine lv_topi (fun y_2 ey_2 => ?_)
  have qy_2 := ey_2.trans b2_1
  clear ey_2
  obtain rfl : y_2 = nI m13_1 := qy_2
  refine lv_iadd hx hb dX9_readPlace_16 ?_
  refine lv_topi (fun y_3 ey_3 => ?_)
  obtain rfl : y_3 = (nI (8 + m13_1)) := ey_3.trans (nI_add 8 m13_1)
  refine lv_istore_n (lv' := [(1, .int (nI (8 + m13_1))), (0, .ref (ad 0))]) hx hb dX9_readPlace_17 rfl hl (by decide) rfl (fun ls hl => ?_)
  refine lv_aload_n hx hb dX9_readPlace_18 rfl (lv_at hl 1 rfl) ?_
  refine va_get (D := (dC, dI)) (ci := 9) (v := .ref (ad 2)) (C := RX9) (T := TX9) (N := 67) hx hb hts hiX9 hown hK hP 0 rfl rfl 2 (by decide) v_3 (fun _ h9 => h9) rfl dX9_readPlace_19 ?_
  refine lv_iload_n hx hb dX9_readPlace_22 rfl (lv_at hl 0 rfl) ?_
  refine lv_aload_n hx hb dX9_readPlace_23 rfl (lv_at hl 1 rfl) ?_
  have hFc := pu_free hD hS hA
  refine va_calli (va_runV (As := []) (rest := [.int (nI (8 + m13_1)), .ref (ad 2)]) ⟨hx, hb, hml, hown, hts⟩ (c_EM_freshName_1 l dC dI _ ad ck x0 x16 x18 x19 x20 x21 x22 x23 x24 x25 x26 x27 x29 x30 x33 x45 x46 x52 x53 x61 x62 x63 x65 x66 f1 f2 f3 q4 q5 q6 q7 f8 q9 q10 f11 m12_0 m12_1 m13_0 m13_1 m14_0 m14_1 m15_0 m15_1 f17 q31 f32 f34 f35 f36 f37 q38 f39 f40 f41 m42_0 m42_1 f43 f44 f47 f48 f49 f50 f51 q54 q55 q56 f57 q58 f59 f60 f64 hx16 hx18 hx19 hx21 hx22 hx26 hx29 hx30 hx33 hx46 hx52 hx53 hx61 hx62 hx63 hx65 hm12_0 hm12_1 hm13_0 (Nat.le_trans hm13_1 (Nat.le_of_ble_eq_true rfl)) hm14_0 hm14_1 hm15_0 hm15_1 hm42_0 hm42_1) (cwV 0 hts g_EM_readPlace_1_EM_freshName_1 rfl rfl rfl (by decide +kernel) ⟨Nat.le_of_ble_eq_true rfl, Nat.le_of_ble_eq_true rfl⟩) ⟨pu_bl, va_recv hK hP (ci := 9) (q0 := 0) rfl rfl, pu_in hP hK hD⟩ rfl rfl hl.1 rfl (lv_room (Nat.le_of_ble_eq_true rfl)) dX9_readPlace_24 ⟨Nat.le_of_ble_eq_true rfl, Nat.le_of_ble_eq_true rfl⟩) hS (fun q _ h => hFc q h) hFc (fun r_4 u t H1 locs ht hvm hw hB hz1 hk1 hS => ?_)
  obtain ⟨z20_5, z21_6, z22_7, z23_8, z26_9, z27_10, ⟨hP1, -, hD1⟩, hz21_6, hz22_7, hz26_9, xr_4_0, xr_4_1⟩ := hB
  rw [ht] at hP1
  have hP := hP1
  have hD := pu_all hFc hD1
  clear hP1 hD1 hFc
  clear hk1 hz1 ht hvm
  generalize H1 = H at hP hS ⊢
  have ir_4 := hw
  have ir_4 : (r_4, z20_5, z21_6, z22_7, z23_8, z26_9, z27_10) = (sp_EM_freshName_1 x19 x20 x21 x22 x23 x26 x27 f1 f2 m12_1 m13_1 f17) := Prod.ext ir_4 xr_4_1
  have hsp := hsp.trans (slet_eq ir_4)
  refine va_iast hx hb hK hP hD hS 2 1 rfl rfl (vp_in_nI (n := (8 + m13_1)) (by omega) (Nat.le_of_ble_eq_true rfl)) dX9_readPlace_27 (fun H locs hP hD hS => ?_)
  obtain ⟨f_11, ef_11, xf_11⟩ := up_x f2 (n := (8 + m13_1)) r_4 (by omega)
  have hP : va_P (dC, dI) vwCl (mo_w ad ck x0 (nI x16) (nI x18) (nI x19) z20_5 (nI z21_6) (nI z22_7) z23_8 x24 x25 (nI z26_9) z27_10 1 (nI x29) (nI x30) (nI x33) x45 (nI x46) (nI x52) (nI x53) (nI x61) (nI x62) (nI x63) (nI x65) x66 f1 f_11 f3 (bN 3 q4) (bN 7 q5) (bN 7 q6) (bN 4 q7) f8 (bN 2 q9) (bH q10) f11 (b2 m12_0 m12_1) (b2 m13_0 m13_1) (b2 m14_0 m14_1) (b2m m15_0 m15_1) f17 (bA 159 q31) f32 f34 f35 f36 f37 (bN 7 q38) f39 f40 f41 (b2 m42_0 m42_1) f43 f44 f47 f48 f49 f50 f51 (bN 13 q54) (bN 120 q55) (bN 120 q56) f57 (bN 120 q58) f59 f60 f64) H := by rw [← ef_11]; exact hP
  have hD : va_D A (mo_w ad ck x0 (nI x16) (nI x18) (nI x19) z20_5 (nI z21_6) (nI z22_7) z23_8 x24 x25 (nI z26_9) z27_10 1 (nI x29) (nI x30) (nI x33) x45 (nI x46) (nI x52) (nI x53) (nI x61) (nI x62) (nI x63) (nI x65) x66 f1 f_11 f3 (bN 3 q4) (bN 7 q5) (bN 7 q6) (bN 4 q7) f8 (bN 2 q9) (bH q10) f11 (b2 m12_0 m12_1) (b2 m13_0 m13_1) (b2 m14_0 m14_1) (b2m m15_0 m15_1) f17 (bA 159 q31) f32 f34 f35 f36 f37 (bN 7 q38) f39 f40 f41 (b2 m42_0 m42_1) f43 f44 f47 f48 f49 f50 f51 (bN 13 q54) (bN 120 q55) (bN 120 q56) f57 (bN 120 q58) f59 f60 f64) := by rw [← ef_11]; exact hD
  have hsp := hsp.trans (slet_eq xf_11)
  refine lv_aload_n hx hb dX9_readPlace_28 rfl (lv_at hl 1 rfl) ?_
  refine va_get (D := (dC, dI)) (ci := 9) (v := .ref (ad 3)) (C := RX9) (T := TX9) (N := 67) hx hb hts hiX9 hown hK hP 0 rfl rfl 3 (by decide) v_9 (fun _ h9 => h9) rfl dX9_readPlace_29 ?_
  refine lv_iload_n hx hb dX9_readPlace_32 rfl (lv_at hl 0 rfl) ?_
  refine lv_iconst (v := 0) hx hb dX9_readPlace_33 (by decide) ?_
  refine va_iast hx hb hK hP hD hS 3 2 rfl rfl (vp_in_nI (n := (8 + m13_1)) (by omega) (Nat.le_of_ble_eq_true rfl)) dX9_readPlace_34 (fun H locs hP hD hS => ?_)
  obtain ⟨f_12, ef_12, xf_12⟩ := up_x f3 (n := (8 + m13_1)) 0 (by omega)
  have hP : va_P (dC, dI) vwCl (mo_w ad ck x0 (nI x16) (nI x18) (nI x19) z20_5 (nI z21_6) (nI z22_7) z23_8 x24 x25 (nI z26_9) z27_10 1 (nI x29) (nI x30) (nI x33) x45 (nI x46) (nI x52) (nI x53) (nI x61) (nI x62) (nI x63) (nI x65) x66 f1 f_11 f_12 (bN 3 q4) (bN 7 q5) (bN 7 q6) (bN 4 q7) f8 (bN 2 q9) (bH q10) f11 (b2 m12_0 m12_1) (b2 m13_0 m13_1) (b2 m14_0 m14_1) (b2m m15_0 m15_1) f17 (bA 159 q31) f32 f34 f35 f36 f37 (bN 7 q38) f39 f40 f41 (b2 m42_0 m42_1) f43 f44 f47 f48 f49 f50 f51 (bN 13 q54) (bN 120 q55) (bN 120 q56) f57 (bN 120 q58) f59 f60 f64) H := by rw [← ef_12]; exact hP
  have hD : va_D A (mo_w ad ck x0 (nI x16) (nI x18) (nI x19) z20_5 (nI z21_6) (nI z22_7) z23_8 x24 x25 (nI z26_9) z27_10 1 (nI x29) (nI x30) (nI x33) x45 (nI x46) (nI x52) (nI x53) (nI x61) (nI x62) (nI x63) (nI x65) x66 f1 f_11 f_12 (bN 3 q4) (bN 7 q5) (bN 7 q6) (bN 4 q7) f8 (bN 2 q9) (bH q10) f11 (b2 m12_0 m12_1) (b2 m13_0 m13_1) (b2 m14_0 m14_1) (b2m m15_0 m15_1) f17 (bA 159 q31) f32 f34 f35 f36 f37 (bN 7 q38) f39 f40 f41 (b2 m42_0 m42_1) f43 f44 f47 f48 f49 f50 f51 (bN 13 q54) (bN 120 q55) (bN 120 q56) f57 (bN 120 q58) f59 f60 f64) := by rw [← ef_12]; exact hD
  have hsp := hsp.trans (slet_eq xf_12)
  refine lv_aload_n hx hb dX9_readPlace_35 rfl (lv_at hl 1 rfl) ?_
  refine va_get (D := (dC, dI)) (ci := 9) (v := .ref (ad 4)) (C := RX9) (T := TX9) (N := 67) hx hb hts hiX9 hown hK hP 0 rfl rfl 4 (by decide) v_10 (fun _ h9 => h9) rfl dX9_readPlace_36 ?_
  refine lv_iload_n hx hb dX9_readPlace_39 rfl (lv_at hl 0 rfl) ?_
  refine lv_iconst (v := 0) hx hb dX9_readPlace_40 (by decide) ?_
  refine va_iast hx hb hK hP hD hS 4 3 rfl rfl (vp_in_nI (n := (8 + m13_1)) (by omega) (Nat.le_of_ble_eq_true rfl)) dX9_readPlace_41 (fun H locs hP hD hS => ?_)
  obtain ⟨q_13, eq_13, kq_13, oq_13, xq_13⟩ := bN_upx 3 q4 (n := (8 + m13_1)) (v := 0) (by omega) (Nat.le_of_ble_eq_true rfl)
  have hP : va_P (dC, dI) vwCl (mo_w ad ck x0 (nI x16) (nI x18) (nI x19) z20_5 (nI z21_6) (nI z22_7) z23_8 x24 x25 (nI z26_9) z27_10 1 (nI x29) (nI x30) (nI x33) x45 (nI x46) (nI x52) (nI x53) (nI x61) (nI x62) (nI x63) (nI x65) x66 f1 f_11 f_12 (bN 3 q_13) (bN 7 q5) (bN 7 q6) (bN 4 q7) f8 (bN 2 q9) (bH q10) f11 (b2 m12_0 m12_1) (b2 m13_0 m13_1) (b2 m14_0 m14_1) (b2m m15_0 m15_1) f17 (bA 159 q31) f32 f34 f35 f36 f37 (bN 7 q38) f39 f40 f41 (b2 m42_0 m42_1) f43 f44 f47 f48 f49 f50 f51 (bN 13 q54) (bN 120 q55) (bN 120 q56) f57 (bN 120 q58) f59 f60 f64) H := by rw [← eq_13]; exact hP
  have hD : va_D A (mo_w ad ck x0 (nI x16) (nI x18) (nI x19) z20_5 (nI z21_6) (nI z22_7) z23_8 x24 x25 (nI z26_9) z27_10 1 (nI x29) (nI x30) (nI x33) x45 (nI x46) (nI x52) (nI x53) (nI x61) (nI x62) (nI x63) (nI x65) x66 f1 f_11 f_12 (bN 3 q_13) (bN 7 q5) (bN 7 q6) (bN 4 q7) f8 (bN 2 q9) (bH q10) f11 (b2 m12_0 m12_1) (b2 m13_0 m13_1) (b2 m14_0 m14_1) (b2m m15_0 m15_1) f17 (bA 159 q31) f32 f34 f35 f36 f37 (bN 7 q38) f39 f40 f41 (b2 m42_0 m42_1) f43 f44 f47 f48 f49 f50 f51 (bN 13 q54) (bN 120 q55) (bN 120 q56) f57 (bN 120 q58) f59 f60 f64) := by rw [← eq_13]; exact hD
  have hsp := hsp.trans (slet_eq xq_13)
  refine lv_aload_n hx hb dX9_readPlace_42 rfl (lv_at hl 1 rfl) ?_
  refine va_calli (va_runV (As := []) (rest := []) ⟨hx, hb, hml, hown, hts⟩ (c_EM_isGood l dC dI _ ad ck x0 x16 x18 x19 z20_5 z21_6 z22_7 z23_8 x24 x25 z26_9 z27_10 1 x29 x30 x33 x45 x46 x52 x53 x61 x62 x63 x65 x66 f1 f_11 f_12 q_13 q5 q6 q7 f8 q9 q10 f11 m12_0 m12_1 m13_0 m13_1 m14_0 m14_1 m15_0 m15_1 f17 q31 f32 f34 f35 f36 f37 q38 f39 f40 f41 m42_0 m42_1 f43 f44 f47 f48 f49 f50 f51 q54 q55 q56 f57 q58 f59 f60 f64 hx16 hx18 hx19 hz21_6 hz22_7 hz26_9 (Nat.le_of_ble_eq_true rfl) hx29 hx30 hx33 hx46 hx52 hx53 hx61 hx62 hx63 hx65 hm12_0 hm12_1 hm13_0 (Nat.le_trans hm13_1 (Nat.le_of_ble_eq_true rfl)) hm14_0 hm14_1 hm15_0 hm15_1 hm42_0 hm42_1) (cwV 0 hts g_EM_readPlace_1_EM_isGood rfl rfl rfl (by decide +kernel) ⟨Nat.le_of_ble_eq_true rfl, Nat.le_of_ble_eq_true rfl⟩) ⟨pu_bl, va_recv hK hP (ci := 9) (q0 := 0) rfl rfl, pu_in hP hK hD⟩ rfl rfl hl.1 rfl (lv_room (Nat.le_of_ble_eq_true rfl)) dX9_readPlace_43 ⟨Nat.le_of_ble_eq_true rfl, Nat.le_of_ble_eq_true rfl⟩) hS (fun q _ h => pu_fr hS hA q h) (pu_fr hS hA) (fun r_14 u t H1 locs ht hvm hw hB hz1 hk1 hS => ?_)
  have hP := pu_keep hP hk1
  clear hk1 hz1 ht hvm
  generalize H1 = H at hP hS ⊢
  obtain ⟨u_15, hu_15, rfl, ju_15, iu_15⟩ := hw
  have hsp := hsp.trans (slet_eq iu_15)
  obtain ⟨JR_23, hJR_23, hsp⟩ := slet_ex hsp
  refine pu_join (fun H locs ls st => ∃ (g_16 : Int32) (g_17 : Nat) (g_18 : Nat) (g_19 : Int32) (g_20 : Nat → Int32), st = [] ∧ g_17 ≤ 900 ∧ g_18 ≤ 4 ∧ mu g_17 g_18 ≤ mu x21 x22 ∧ (g_16, g_17, g_18, g_19, g_20) = JR_23 ∧ va_P (dC, dI) vwCl (mo_w ad ck x0 (nI x16) (nI x18) (nI x19) g_16 (nI g_17) (nI g_18) g_19 x24 x25 (nI z26_9) z27_10 1 (nI x29) (nI x30) (nI x33) x45 (nI x46) (nI x52) (nI x53) (nI x61) (nI x62) (nI x63) (nI x65) x66 f1 f_11 g_20 (bN 3 q_13) (bN 7 q5) (bN 7 q6) (bN 4 q7) f8 (bN 2 q9) (bH q10) f11 (b2 m12_0 m12_1) (b2 m13_0 m13_1) (b2 m14_0 m14_1) (b2m m15_0 m15_1) f17 (bA 159 q31) f32 f34 f35 f36 f37 (bN 7 q38) f39 f40 f41 (b2 m42_0 m42_1) f43 f44 f47 f48 f49 f50 f51 (bN 13 q54) (bN 120 q55) (bN 120 q56) f57 (bN 120 q58) f59 f60 f64) H ∧ va_D A (mo_w ad ck x0 (nI x16) (nI x18) (nI x19) g_16 (nI g_17) (nI g_18) g_19 x24 x25 (nI z26_9) z27_10 1 (nI x29) (nI x30) (nI x33) x45 (nI x46) (nI x52) (nI x53) (nI x61) (nI x62) (nI x63) (nI x65) x66 f1 f_11 g_20 (bN 3 q_13) (bN 7 q5) (bN 7 q6) (bN 4 q7) f8 (bN 2 q9) (bH q10) f11 (b2 m12_0 m12_1) (b2 m13_0 m13_1) (b2 m14_0 m14_1) (b2m m15_0 m15_1) f17 (bA 159 q31) f32 f34 f35 f36 f37 (bN 7 q38) f39 f40 f41 (b2 m42_0 m42_1) f43 f44 f47 f48 f49 f50 f51 (bN 13 q54) (bN 120 q55) (bN 120 q56) f57 (bN 120 q58) f59 f60 f64) ∧ va_S A s.heap H locs ∧ lv_has ls 2 [(0, .ref (ad 0)), (1, .int (nI (8 + m13_1)))]) 69 ?_ (fun j_22 => ?_)
  · rintro H locs ls st ⟨g_16, g_17, g_18, g_19, g_20, rfl, hg_17, hg_18, he_21, he_24, hP, hD, hS, hl⟩
    rw [← he_24] at hsp
    obtain ⟨lf_48, dlf_48, hlf_48, hsp⟩ := itr_ex hsp
    delta sp_EM_readPlace_1_L1 at hlf_48
    refine pu_while (fun nn H locs ls => ∃ (g_36 : Nat → Nat) (g_37 : Nat → Int32) (g_38 : Nat → Nat) (g_39 : Nat → Nat) (g_40 : Int32) (g_41 : Nat) (g_42 : Nat) (g_43 : Int32) (g_44 : Nat) (g_45 : Int32), nn = mu g_41 g_42 ∧ g_41 ≤ 900 ∧ g_42 ≤ 4 ∧ g_44 ≤ 6 ∧ mu g_41 g_42 ≤ mu x21 x22 ∧ RR = itrv dlf_48 lf_48 (g_36, g_37, g_38, g_39, g_40, g_41, g_42, g_43, g_44, g_45) ∧ va_P (dC, dI) vwCl (mo_w ad ck x0 (nI x16) (nI x18) (nI x19) g_40 (nI g_41) (nI g_42) g_43 x24 x25 (nI g_44) g_45 1 (nI x29) (nI x30) (nI x33) x45 (nI x46) (nI x52) (nI x53) (nI x61) (nI x62) (nI x63) (nI x65) x66 f1 f_11 g_20 (bN 3 g_38) (bN 7 q5) (bN 7 q6) (bN 4 q7) f8 (bN 2 g_39) (bH g_36) g_37 (b2 m12_0 m12_1) (b2 m13_0 m13_1) (b2 m14_0 m14_1) (b2m m15_0 m15_1) f17 (bA 159 q31) f32 f34 f35 f36 f37 (bN 7 q38) f39 f40 f41 (b2 m42_0 m42_1) f43 f44 f47 f48 f49 f50 f51 (bN 13 q54) (bN 120 q55) (bN 120 q56) f57 (bN 120 q58) f59 f60 f64) H ∧ va_D A (mo_w ad ck x0 (nI x16) (nI x18) (nI x19) g_40 (nI g_41) (nI g_42) g_43 x24 x25 (nI g_44) g_45 1 (nI x29) (nI x30) (nI x33) x45 (nI x46) (nI x52) (nI x53) (nI x61) (nI x62) (nI x63) (nI x65) x66 f1 f_11 g_20 (bN 3 g_38) (bN 7 q5) (bN 7 q6) (bN 4 q7) f8 (bN 2 g_39) (bH g_36) g_37 (b2 m12_0 m12_1) (b2 m13_0 m13_1) (b2 m14_0 m14_1) (b2m m15_0 m15_1) f17 (bA 159 q31) f32 f34 f35 f36 f37 (bN 7 q38) f39 f40 f41 (b2 m42_0 m42_1) f43 f44 f47 f48 f49 f50 f51 (bN 13 q54) (bN 120 q55) (bN 120 q56) f57 (bN 120 q58) f59 f60 f64) ∧ va_S A s.heap H locs ∧ lv_has ls 2 [(0, .ref (ad 0)), (1, .int (nI (8 + m13_1)))]) 69 ?_ _ _ _ _ ⟨q10, f11, q_13, q9, g_16, g_17, g_18, g_19, z26_9, z27_10, rfl, hg_17, hg_18, hz26_9, by omega, hsp, hP, hD, hS, lv_sub hl [0, 1] rfl⟩
    rintro nn ih_47 H locs ls ⟨g_36, g_37, g_38, g_39, g_40, g_41, g_42, g_43, g_44, g_45, rfl, hg_41, hg_42, hg_44, he_46, he_50, hP, hD, hS, hl⟩
    obtain ⟨S_49, hsp, hin_51, hout_52⟩ := itr_step hlf_48 he_50
    refine lv_aload_n hx hb dX9_readPlace_69 rfl (lv_at hl 0 rfl) ?_
    refine va_calli (va_runV (As := []) (rest := []) ⟨hx, hb, hml, hown, hts⟩ (c_EM_isGood l dC dI _ ad ck x0 x16 x18 x19 g_40 g_41 g_42 g_43 x24 x25 g_44 g_45 1 x29 x30 x33 x45 x46 x52 x53 x61 x62 x63 x65 x66 f1 f_11 g_20 g_38 q5 q6 q7 f8 g_39 g_36 g_37 m12_0 m12_1 m13_0 m13_1 m14_0 m14_1 m15_0 m15_1 f17 q31 f32 f34 f35 f36 f37 q38 f39 f40 f41 m42_0 m42_1 f43 f44 f47 f48 f49 f50 f51 q54 q55 q56 f57 q58 f59 f60 f64 hx16 hx18 hx19 hg_41 hg_42 hg_44 (Nat.le_of_ble_eq_true rfl) hx29 hx30 hx33 hx46 hx52 hx53 hx61 hx62 hx63 hx65 hm12_0 hm12_1 hm13_0 (Nat.le_trans hm13_1 (Nat.le_of_ble_eq_true rfl)) hm14_0 hm14_1 hm15_0 hm15_1 hm42_0 hm42_1) (cwV 0 hts g_EM_readPlace_1_EM_isGood rfl rfl rfl (by decide +kernel) ⟨Nat.le_of_ble_eq_true rfl, Nat.le_of_ble_eq_true rfl⟩) ⟨pu_bl, va_recv hK hP (ci := 9) (q0 := 0) rfl rfl, pu_in hP hK hD⟩ rfl rfl hl.1 rfl (lv_room (Nat.le_of_ble_eq_true rfl)) dX9_readPlace_70 ⟨Nat.le_of_ble_eq_true rfl, Nat.le_of_ble_eq_true rfl⟩) hS (fun q _ h => pu_fr hS hA q h) (pu_fr hS hA) (fun r_53 u t H1 locs ht hvm hw hB hz1 hk1 hS => ?_)
    have hP := pu_keep hP hk1
    clear hk1 hz1 ht hvm
    generalize H1 = H at hP hS ⊢
    obtain ⟨u_54, hu_54, rfl, ju_54, iu_54⟩ := hw
    have hsp := hsp.trans (slet_eq iu_54)
    refine lv_if_eq (tgt := 148) hx hb dX9_readPlace_73 (by decide) (fun c_55 => ?_) (fun c_55 => ?_)
    · have c_55 : u_54 = 0 := (nI_eq (a := u_54) (b := 0) (Nat.lt_of_le_of_lt hu_54 (Nat.le_of_ble_eq_true rfl)) (Nat.le_of_ble_eq_true rfl)).mp c_55
      have hsp := hsp.trans (if_pos c_55)
      have hsp := hout_52 _ hsp
      refine lv_aload_n hx hb dX9_readPlace_148 rfl (lv_at hl 0 rfl) ?_
      refine va_get (D := (dC, dI)) (ci := 9) (v := .ref (ad 13)) (C := RX9) (T := TX9) (N := 67) hx hb hts hiX9 hown hK hP 0 rfl rfl 13 (by decide) v_2 (fun _ h9 => h9) rfl dX9_readPlace_149 ?_
      refine lv_aload_n hx hb dX9_readPlace_152 rfl (lv_at hl 0 rfl) ?_
      refine va_get (D := (dC, dI)) (ci := 9) (v := .int 1) (C := RX9) (T := TX9) (N := 67) hx hb hts hiX9 hown hK hP 0 rfl rfl 28 (by decide) v_1 (fun _ h9 => h9) rfl dX9_readPlace_153 ?_
      refine lv_dup2_11 hx hb dX9_readPlace_156 rfl rfl ?_
      refine va_iald hx hb hK hP 13 12 rfl rfl (vp_in_nI (n := 1) (Nat.le_of_ble_eq_true rfl) (Nat.le_of_ble_eq_true rfl)) dX9_readPlace_157 ?_
      refine lv_topi (fun y_56 ey_56 => ?_)
      have qy_56 := ey_56.trans b2_1
      clear ey_56
      obtain rfl : y_56 = nI m13_1 := qy_56
      refine lv_iconst (v := 1) hx hb dX9_readPlace_158 (by decide) ?_
      refine lv_iadd hx hb dX9_readPlace_159 ?_
      refine lv_topi (fun y_57 ey_57 => ?_)
      obtain rfl : y_57 = (nI (m13_1 + 1)) := ey_57.trans (nI_add m13_1 1)
      refine va_iast hx hb hK hP hD hS 13 12 rfl rfl (vp_in_nI (n := 1) (Nat.le_of_ble_eq_true rfl) (Nat.le_of_ble_eq_true rfl)) dX9_readPlace_160 (fun H locs hP hD hS => ?_)
      have hP : va_P (dC, dI) vwCl (mo_w ad ck x0 (nI x16) (nI x18) (nI x19) g_40 (nI g_41) (nI g_42) g_43 x24 x25 (nI g_44) g_45 1 (nI x29) (nI x30) (nI x33) x45 (nI x46) (nI x52) (nI x53) (nI x61) (nI x62) (nI x63) (nI x65) x66 f1 f_11 g_20 (bN 3 g_38) (bN 7 q5) (bN 7 q6) (bN 4 q7) f8 (bN 2 g_39) (bH g_36) g_37 (b2 m12_0 m12_1) (b2 m13_0 (m13_1 + 1)) (b2 m14_0 m14_1) (b2m m15_0 m15_1) f17 (bA 159 q31) f32 f34 f35 f36 f37 (bN 7 q38) f39 f40 f41 (b2 m42_0 m42_1) f43 f44 f47 f48 f49 f50 f51 (bN 13 q54) (bN 120 q55) (bN 120 q56) f57 (bN 120 q58) f59 f60 f64) H := by rw [← b2_up1 (a := m13_0) (b := m13_1) (v := (m13_1 + 1))]; exact hP
      have hD : va_D A (mo_w ad ck x0 (nI x16) (nI x18) (nI x19) g_40 (nI g_41) (nI g_42) g_43 x24 x25 (nI g_44) g_45 1 (nI x29) (nI x30) (nI x33) x45 (nI x46) (nI x52) (nI x53) (nI x61) (nI x62) (nI x63) (nI x65) x66 f1 f_11 g_20 (bN 3 g_38) (bN 7 q5) (bN 7 q6) (bN 4 q7) f8 (bN 2 g_39) (bH g_36) g_37 (b2 m12_0 m12_1) (b2 m13_0 (m13_1 + 1)) (b2 m14_0 m14_1) (b2m m15_0 m15_1) f17 (bA 159 q31) f32 f34 f35 f36 f37 (bN 7 q38) f39 f40 f41 (b2 m42_0 m42_1) f43 f44 f47 f48 f49 f50 f51 (bN 13 q54) (bN 120 q55) (bN 120 q56) f57 (bN 120 q58) f59 f60 f64) := by rw [← b2_up1 (a := m13_0) (b := m13_1) (v := (m13_1 + 1))]; exact hD
      exact W.vret hx hb hr (fun t ht hW => ⟨⟨(), rfl, trivial, ⟨g_36, g_37, f_11, g_20, g_38, g_39, (m13_1 + 1), g_40, g_41, g_42, g_43, g_44, g_45, ⟨by rw [ht]; exact hP, va_K.moved hW.alike hK, hD⟩, (by omega), hg_41, hg_42, hg_44, by omega, (hsp.symm.trans hRR)⟩⟩, hS.F ht⟩) hS.2.2 dX9_readPlace_161
    · have c_55 : ¬ u_54 = 0 := fun z => c_55 ((nI_eq (a := u_54) (b := 0) (Nat.lt_of_le_of_lt hu_54 (Nat.le_of_ble_eq_true rfl)) (Nat.le_of_ble_eq_true rfl)).mpr z)
      have hsp := hsp.trans (if_neg c_55)
      refine lv_aload_n hx hb dX9_readPlace_76 rfl (lv_at hl 0 rfl) ?_
      refine lv_ldc hx hb hown v_24 dX9_readPlace_77 ?_
      refine va_calli (va_runV (As := [.int 22499628]) (rest := []) ⟨hx, hb, hml, hown, hts⟩ (c_EM_isWord l dC dI _ ad ck x0 x16 x18 x19 g_40 g_41 g_42 g_43 x24 x25 g_44 g_45 1 x29 x30 x33 x45 x46 x52 x53 x61 x62 x63 x65 x66 f1 f_11 g_20 g_38 q5 q6 q7 f8 g_39 g_36 g_37 m12_0 m12_1 m13_0 m13_1 m14_0 m14_1 m15_0 m15_1 f17 q31 f32 f34 f35 f36 f37 q38 f39 f40 f41 m42_0 m42_1 f43 f44 f47 f48 f49 f50 f51 q54 q55 q56 f57 q58 f59 f60 f64 22499628 hx16 hx18 hx19 hg_41 hg_42 hg_44 (Nat.le_of_ble_eq_true rfl) hx29 hx30 hx33 hx46 hx52 hx53 hx61 hx62 hx63 hx65 hm12_0 hm12_1 hm13_0 (Nat.le_trans hm13_1 (Nat.le_of_ble_eq_true rfl)) hm14_0 hm14_1 hm15_0 hm15_1 hm42_0 hm42_1) (cwV 1 hts g_EM_readPlace_1_EM_isWord rfl rfl rfl (by decide +kernel) ⟨Nat.le_of_ble_eq_true rfl, Nat.le_of_ble_eq_true rfl⟩) ⟨pu_bl, va_recv hK hP (ci := 9) (q0 := 0) rfl rfl, pu_in hP hK hD⟩ rfl rfl hl.1 rfl (lv_room (Nat.le_of_ble_eq_true rfl)) dX9_readPlace_79 ⟨Nat.le_of_ble_eq_true rfl, Nat.le_of_ble_eq_true rfl⟩) hS (fun q _ h => pu_fr hS hA q h) (pu_fr hS hA) (fun r_58 u t H1 locs ht hvm hw hB hz1 hk1 hS => ?_)
      have hP := pu_keep hP hk1
      clear hk1 hz1 ht hvm
      generalize H1 = H at hP hS ⊢
      obtain ⟨u_59, hu_59, rfl, ju_59, iu_59⟩ := hw
      have hsp := hsp.trans (slet_eq iu_59)
      refine lv_if_eq (tgt := 148) hx hb dX9_readPlace_82 (by decide) (fun c_60 => ?_) (fun c_60 => ?_)
      · have c_60 : u_59 = 0 := (nI_eq (a := u_59) (b := 0) (Nat.lt_of_le_of_lt hu_59 (Nat.le_of_ble_eq_true rfl)) (Nat.le_of_ble_eq_true rfl)).mp c_60
        have hsp := hsp.trans (if_pos c_60)
        have hsp := hout_52 _ hsp
        refine lv_aload_n hx hb dX9_readPlace_148 rfl (lv_at hl 0 rfl) ?_
        refine va_get (D := (dC, dI)) (ci := 9) (v := .ref (ad 13)) (C := RX9) (T := TX9) (N := 67) hx hb hts hiX9 hown hK hP 0 rfl rfl 13 (by decide) v_2 (fun _ h9 => h9) rfl dX9_readPlace_149 ?_
        refine lv_aload_n hx hb dX9_readPlace_152 rfl (lv_at hl 0 rfl) ?_
        refine va_get (D := (dC, dI)) (ci := 9) (v := .int 1) (C := RX9) (T := TX9) (N := 67) hx hb hts hiX9 hown hK hP 0 rfl rfl 28 (by decide) v_1 (fun _ h9 => h9) rfl dX9_readPlace_153 ?_
        refine lv_dup2_11 hx hb dX9_readPlace_156 rfl rfl ?_
        refine va_iald hx hb hK hP 13 12 rfl rfl (vp_in_nI (n := 1) (Nat.le_of_ble_eq_true rfl) (Nat.le_of_ble_eq_true rfl)) dX9_readPlace_157 ?_
        refine lv_topi (fun y_61 ey_61 => ?_)
        have qy_61 := ey_61.trans b2_1
        clear ey_61
        obtain rfl : y_61 = nI m13_1 := qy_61
        refine lv_iconst (v := 1) hx hb dX9_readPlace_158 (by decide) ?_
        refine lv_iadd hx hb dX9_readPlace_159 ?_
        refine lv_topi (fun y_62 ey_62 => ?_)
        obtain rfl : y_62 = (nI (m13_1 + 1)) := ey_62.trans (nI_add m13_1 1)
        refine va_iast hx hb hK hP hD hS 13 12 rfl rfl (vp_in_nI (n := 1) (Nat.le_of_ble_eq_true rfl) (Nat.le_of_ble_eq_true rfl)) dX9_readPlace_160 (fun H locs hP hD hS => ?_)
        have hP : va_P (dC, dI) vwCl (mo_w ad ck x0 (nI x16) (nI x18) (nI x19) g_40 (nI g_41) (nI g_42) g_43 x24 x25 (nI g_44) g_45 1 (nI x29) (nI x30) (nI x33) x45 (nI x46) (nI x52) (nI x53) (nI x61) (nI x62) (nI x63) (nI x65) x66 f1 f_11 g_20 (bN 3 g_38) (bN 7 q5) (bN 7 q6) (bN 4 q7) f8 (bN 2 g_39) (bH g_36) g_37 (b2 m12_0 m12_1) (b2 m13_0 (m13_1 + 1)) (b2 m14_0 m14_1) (b2m m15_0 m15_1) f17 (bA 159 q31) f32 f34 f35 f36 f37 (bN 7 q38) f39 f40 f41 (b2 m42_0 m42_1) f43 f44 f47 f48 f49 f50 f51 (bN 13 q54) (bN 120 q55) (bN 120 q56) f57 (bN 120 q58) f59 f60 f64) H := by rw [← b2_up1 (a := m13_0) (b := m13_1) (v := (m13_1 + 1))]; exact hP
        have hD : va_D A (mo_w ad ck x0 (nI x16) (nI x18) (nI x19) g_40 (nI g_41) (nI g_42) g_43 x24 x25 (nI g_44) g_45 1 (nI x29) (nI x30) (nI x33) x45 (nI x46) (nI x52) (nI x53) (nI x61) (nI x62) (nI x63) (nI x65) x66 f1 f_11 g_20 (bN 3 g_38) (bN 7 q5) (bN 7 q6) (bN 4 q7) f8 (bN 2 g_39) (bH g_36) g_37 (b2 m12_0 m12_1) (b2 m13_0 (m13_1 + 1)) (b2 m14_0 m14_1) (b2m m15_0 m15_1) f17 (bA 159 q31) f32 f34 f35 f36 f37 (bN 7 q38) f39 f40 f41 (b2 m42_0 m42_1) f43 f44 f47 f48 f49 f50 f51 (bN 13 q54) (bN 120 q55) (bN 120 q56) f57 (bN 120 q58) f59 f60 f64) := by rw [← b2_up1 (a := m13_0) (b := m13_1) (v := (m13_1 + 1))]; exact hD
        exact W.vret hx hb hr (fun t ht hW => ⟨⟨(), rfl, trivial, ⟨g_36, g_37, f_11, g_20, g_38, g_39, (m13_1 + 1), g_40, g_41, g_42, g_43, g_44, g_45, ⟨by rw [ht]; exact hP, va_K.moved hW.alike hK, hD⟩, (by omega), hg_41, hg_42, hg_44, by omega, (hsp.symm.trans hRR)⟩⟩, hS.F ht⟩) hS.2.2 dX9_readPlace_161
      · have c_60 : ¬ u_59 = 0 := fun z => c_60 ((nI_eq (a := u_59) (b := 0) (Nat.lt_of_le_of_lt hu_59 (Nat.le_of_ble_eq_true rfl)) (Nat.le_of_ble_eq_true rfl)).mpr z)
        have hsp := hsp.trans (if_neg c_60)
        refine lv_aload_n hx hb dX9_readPlace_85 rfl (lv_at hl 0 rfl) ?_
        refine va_get (D := (dC, dI)) (ci := 9) (v := .ref (ad 4)) (C := RX9) (T := TX9) (N := 67) hx hb hts hiX9 hown hK hP 0 rfl rfl 4 (by decide) v_10 (fun _ h9 => h9) rfl dX9_readPlace_86 ?_
        refine lv_iload_n hx hb dX9_readPlace_89 rfl (lv_at hl 1 rfl) ?_
        refine va_iald hx hb hK hP 4 3 rfl rfl (vp_in_nI (n := (8 + m13_1)) (by omega) (Nat.le_of_ble_eq_true rfl)) dX9_readPlace_90 ?_
        refine lv_topi (fun y_63 ey_63 => ?_)
        obtain ⟨u_64, hu_64, qu_64, xu_64⟩ := bN_getx 3 g_38 (n := (8 + m13_1)) (by omega)
        obtain rfl : y_63 = nI u_64 := ey_63.trans qu_64
        have hsp := hsp.trans (slet_eq xu_64)
        refine lv_iconst (v := 3) hx hb dX9_readPlace_91 (by decide) ?_
        refine lv_icmp_ne (tgt := 101) hx hb dX9_readPlace_92 (by decide) (fun c_65 => ?_) (fun c_65 => ?_)
        · have c_65 : ¬ u_64 = 3 := fun z => c_65 ((nI_eq (a := u_64) (b := 3) (Nat.lt_of_le_of_lt hu_64 (Nat.le_of_ble_eq_true rfl)) (Nat.le_of_ble_eq_true rfl)).mpr z)
          have hsp := hsp.trans (if_neg c_65)
          refine lv_aload_n hx hb dX9_readPlace_101 rfl (lv_at hl 0 rfl) ?_
          refine lv_bipush (v := 80) hx hb dX9_readPlace_102 (by decide) ?_
          refine lv_aload_n hx hb dX9_readPlace_104 rfl (lv_at hl 0 rfl) ?_
          refine va_get (D := (dC, dI)) (ci := 9) (v := .int 1) (C := RX9) (T := TX9) (N := 67) hx hb hts hiX9 hown hK hP 0 rfl rfl 28 (by decide) v_1 (fun _ h9 => h9) rfl dX9_readPlace_105 ?_
          refine lv_imul hx hb dX9_readPlace_108 ?_
          refine lv_topi (fun y_66 ey_66 => ?_)
          obtain rfl : y_66 = 80 := ey_66.trans (by decide)
          refine lv_bipush (v := 56) hx hb dX9_readPlace_109 (by decide) ?_
          refine lv_iadd hx hb dX9_readPlace_111 ?_
          refine lv_topi (fun y_67 ey_67 => ?_)
          obtain rfl : y_67 = 136 := ey_67.trans (by decide)
          refine lv_iconst (v := 3) hx hb dX9_readPlace_112 (by decide) ?_
          refine lv_aload_n hx hb dX9_readPlace_113 rfl (lv_at hl 0 rfl) ?_
          refine va_get (D := (dC, dI)) (ci := 9) (v := .ref (ad 13)) (C := RX9) (T := TX9) (N := 67) hx hb hts hiX9 hown hK hP 0 rfl rfl 13 (by decide) v_2 (fun _ h9 => h9) rfl dX9_readPlace_114 ?_
          refine lv_aload_n hx hb dX9_readPlace_117 rfl (lv_at hl 0 rfl) ?_
          refine va_get (D := (dC, dI)) (ci := 9) (v := .int 1) (C := RX9) (T := TX9) (N := 67) hx hb hts hiX9 hown hK hP 0 rfl rfl 28 (by decide) v_1 (fun _ h9 => h9) rfl dX9_readPlace_118 ?_
          refine va_iald hx hb hK hP 13 12 rfl rfl (vp_in_nI (n := 1) (Nat.le_of_ble_eq_true rfl) (Nat.le_of_ble_eq_true rfl)) dX9_readPlace_121 ?_
          refine lv_topi (fun y_68 ey_68 => ?_)
          have qy_68 := ey_68.trans b2_1
          clear ey_68
          obtain rfl : y_68 = nI m13_1 := qy_68
          refine lv_imul hx hb dX9_readPlace_122 ?_
          refine lv_topi (fun y_69 ey_69 => ?_)
          obtain rfl : y_69 = (nI (3 * m13_1)) := ey_69.trans (pk_mul 3 m13_1)
          refine lv_iadd hx hb dX9_readPlace_123 ?_
          refine lv_topi (fun y_70 ey_70 => ?_)
          obtain rfl : y_70 = (nI (136 + (3 * m13_1))) := ey_70.trans (nI_add 136 (3 * m13_1))
          refine lv_aload_n hx hb dX9_readPlace_124 rfl (lv_at hl 0 rfl) ?_
          refine va_get (D := (dC, dI)) (ci := 9) (v := .ref (ad 4)) (C := RX9) (T := TX9) (N := 67) hx hb hts hiX9 hown hK hP 0 rfl rfl 4 (by decide) v_10 (fun _ h9 => h9) rfl dX9_readPlace_125 ?_
          refine lv_iload_n hx hb dX9_readPlace_128 rfl (lv_at hl 1 rfl) ?_
          refine va_iald hx hb hK hP 4 3 rfl rfl (vp_in_nI (n := (8 + m13_1)) (by omega) (Nat.le_of_ble_eq_true rfl)) dX9_readPlace_129 ?_
          refine lv_topi (fun y_71 ey_71 => ?_)
          obtain rfl : y_71 = nI u_64 := ey_71.trans qu_64
          refine lv_iadd hx hb dX9_readPlace_130 ?_
          refine lv_topi (fun y_73 ey_73 => ?_)
          obtain rfl : y_73 = (nI ((136 + (3 * m13_1)) + u_64)) := ey_73.trans (nI_add (136 + (3 * m13_1)) u_64)
          refine lv_iconst (v := 1) hx hb dX9_readPlace_131 (by decide) ?_
          have hFc := pu_free hD hS hA
          refine va_callv (va_runV (As := [.int (nI ((136 + (3 * m13_1)) + u_64)), .int 1]) (rest := []) ⟨hx, hb, hml, hown, hts⟩ (c_EM_readCondition1_1 l dC dI _ ad ck x0 x16 x18 x19 g_40 g_41 g_42 g_43 x24 x25 g_44 g_45 x29 x30 x33 x45 x46 x52 x53 x61 x62 x63 x65 x66 f1 f_11 g_20 g_38 q5 q6 q7 f8 g_39 g_36 g_37 m12_0 m12_1 m13_0 m13_1 m14_0 m14_1 m15_0 m15_1 f17 q31 f32 f34 f35 f36 f37 q38 f39 f40 f41 m42_0 m42_1 f43 f44 f47 f48 f49 f50 f51 q54 q55 q56 f57 q58 f59 f60 f64 ((136 + (3 * m13_1)) + u_64) hx16 hx18 hx19 hg_41 hg_42 hg_44 hx29 hx30 hx33 hx46 hx52 hx53 hx61 hx62 hx63 hx65 hm12_0 hm12_1 hm13_0 (Nat.le_trans hm13_1 (Nat.le_of_ble_eq_true rfl)) hm14_0 hm14_1 hm15_0 hm15_1 hm42_0 hm42_1 (by omega) (by omega)) (cwV 2 hts g_EM_readPlace_1_EM_readCondition1_1 rfl rfl rfl (by decide +kernel) ⟨Nat.le_of_ble_eq_true rfl, Nat.le_of_ble_eq_true rfl⟩) ⟨pu_bl, va_recv hK hP (ci := 9) (q0 := 0) rfl rfl, pu_in hP hK hD⟩ rfl rfl hl.1 rfl (lv_room (Nat.le_of_ble_eq_true rfl)) dX9_readPlace_132 ⟨Nat.le_of_ble_eq_true rfl, Nat.le_of_ble_eq_true rfl⟩) hS (fun q _ h => hFc q h) hFc (fun u t H1 locs ht hvm hw hB hz1 hk1 hS => ?_)
          obtain ⟨z10_75, z11_76, z9_77, z20_78, z21_79, z22_80, z23_81, z26_82, z27_83, ⟨hP1, -, hD1⟩, hz21_79, hz22_80, hz26_82, xr_74_0, xr_74_1, xr_74_2⟩ := hB
          rw [ht] at hP1
          have hP := hP1
          have hD := pu_all hFc hD1
          clear hP1 hD1 hFc
          clear hk1 hz1 ht hvm
          generalize H1 = H at hP hS ⊢
          have hsp := hsp.trans (slet_eq xr_74_2)
          refine lv_aload_n hx hb dX9_readPlace_135 rfl (lv_at hl 0 rfl) ?_
          refine va_get (D := (dC, dI)) (ci := 9) (v := .ref (ad 4)) (C := RX9) (T := TX9) (N := 67) hx hb hts hiX9 hown hK hP 0 rfl rfl 4 (by decide) v_10 (fun _ h9 => h9) rfl dX9_readPlace_136 ?_
          refine lv_iload_n hx hb dX9_readPlace_139 rfl (lv_at hl 1 rfl) ?_
          refine lv_dup2_11 hx hb dX9_readPlace_140 rfl rfl ?_
          refine va_iald hx hb hK hP 4 3 rfl rfl (vp_in_nI (n := (8 + m13_1)) (by omega) (Nat.le_of_ble_eq_true rfl)) dX9_readPlace_141 ?_
          refine lv_topi (fun y_84 ey_84 => ?_)
          obtain rfl : y_84 = nI u_64 := ey_84.trans qu_64
          refine lv_iconst (v := 1) hx hb dX9_readPlace_142 (by decide) ?_
          refine lv_iadd hx hb dX9_readPlace_143 ?_
          refine lv_topi (fun y_86 ey_86 => ?_)
          obtain rfl : y_86 = (nI (u_64 + 1)) := ey_86.trans (nI_add u_64 1)
          refine va_iast hx hb hK hP hD hS 4 3 rfl rfl (vp_in_nI (n := (8 + m13_1)) (by omega) (Nat.le_of_ble_eq_true rfl)) dX9_readPlace_144 (fun H locs hP hD hS => ?_)
          obtain ⟨q_87, eq_87, kq_87, oq_87, xq_87⟩ := bN_upx 3 g_38 (n := (8 + m13_1)) (v := (u_64 + 1)) (by omega) (by omega)
          have hP : va_P (dC, dI) vwCl (mo_w ad ck x0 (nI x16) (nI x18) (nI x19) z20_78 (nI z21_79) (nI z22_80) z23_81 x24 x25 (nI z26_82) z27_83 1 (nI x29) (nI x30) (nI x33) x45 (nI x46) (nI x52) (nI x53) (nI x61) (nI x62) (nI x63) (nI x65) x66 f1 f_11 g_20 (bN 3 q_87) (bN 7 q5) (bN 7 q6) (bN 4 q7) f8 (bN 2 z9_77) (bH z10_75) z11_76 (b2 m12_0 m12_1) (b2 m13_0 m13_1) (b2 m14_0 m14_1) (b2m m15_0 m15_1) f17 (bA 159 q31) f32 f34 f35 f36 f37 (bN 7 q38) f39 f40 f41 (b2 m42_0 m42_1) f43 f44 f47 f48 f49 f50 f51 (bN 13 q54) (bN 120 q55) (bN 120 q56) f57 (bN 120 q58) f59 f60 f64) H := by rw [← eq_87]; exact hP
          have hD : va_D A (mo_w ad ck x0 (nI x16) (nI x18) (nI x19) z20_78 (nI z21_79) (nI z22_80) z23_81 x24 x25 (nI z26_82) z27_83 1 (nI x29) (nI x30) (nI x33) x45 (nI x46) (nI x52) (nI x53) (nI x61) (nI x62) (nI x63) (nI x65) x66 f1 f_11 g_20 (bN 3 q_87) (bN 7 q5) (bN 7 q6) (bN 4 q7) f8 (bN 2 z9_77) (bH z10_75) z11_76 (b2 m12_0 m12_1) (b2 m13_0 m13_1) (b2 m14_0 m14_1) (b2m m15_0 m15_1) f17 (bA 159 q31) f32 f34 f35 f36 f37 (bN 7 q38) f39 f40 f41 (b2 m42_0 m42_1) f43 f44 f47 f48 f49 f50 f51 (bN 13 q54) (bN 120 q55) (bN 120 q56) f57 (bN 120 q58) f59 f60 f64) := by rw [← eq_87]; exact hD
          have hsp := hsp.trans (slet_eq xq_87)
          refine lv_goto (tgt := 69) hx hb dX9_readPlace_145 (by decide) ?_
          exact ih_47 (mu z21_79 z22_80) (by omega) _ _ _ ⟨z10_75, z11_76, q_87, z9_77, z20_78, z21_79, z22_80, z23_81, z26_82, z27_83, rfl, hz21_79, hz22_80, hz26_82, by omega, hin_51 _ hsp, hP, hD, hS, lv_sub hl [0, 1] rfl⟩
        · have c_65 : u_64 = 3 := (nI_eq (a := u_64) (b := 3) (Nat.lt_of_le_of_lt hu_64 (Nat.le_of_ble_eq_true rfl)) (Nat.le_of_ble_eq_true rfl)).mp c_65
          have hsp := hsp.trans (if_pos c_65)
          have hsp := hout_52 _ hsp
          refine lv_aload_n hx hb dX9_readPlace_95 rfl (lv_at hl 0 rfl) ?_
          refine lv_iconst (v := 5) hx hb dX9_readPlace_96 (by decide) ?_
          have hFc := pu_free hD hS hA
          refine va_callv (va_runV (As := [.int 5]) (rest := []) ⟨hx, hb, hml, hown, hts⟩ (c_EM_fails l dC dI _ ad ck x0 x16 x18 x19 g_40 g_41 g_42 g_43 x24 x25 g_44 g_45 1 x29 x30 x33 x45 x46 x52 x53 x61 x62 x63 x65 x66 f1 f_11 g_20 g_38 q5 q6 q7 f8 g_39 g_36 g_37 m12_0 m12_1 m13_0 m13_1 m14_0 m14_1 m15_0 m15_1 f17 q31 f32 f34 f35 f36 f37 q38 f39 f40 f41 m42_0 m42_1 f43 f44 f47 f48 f49 f50 f51 q54 q55 q56 f57 q58 f59 f60 f64 5 hx16 hx18 hx19 hg_41 hg_42 hg_44 (Nat.le_of_ble_eq_true rfl) hx29 hx30 hx33 hx46 hx52 hx53 hx61 hx62 hx63 hx65 hm12_0 hm12_1 hm13_0 (Nat.le_trans hm13_1 (Nat.le_of_ble_eq_true rfl)) hm14_0 hm14_1 hm15_0 hm15_1 hm42_0 hm42_1 (Nat.le_of_ble_eq_true rfl) (by omega)) (cwV 1 hts g_EM_readPlace_1_EM_fails rfl rfl rfl (by decide +kernel) ⟨Nat.le_of_ble_eq_true rfl, Nat.le_of_ble_eq_true rfl⟩) ⟨pu_bl, va_recv hK hP (ci := 9) (q0 := 0) rfl rfl, pu_in hP hK hD⟩ rfl rfl hl.1 rfl (lv_room (Nat.le_of_ble_eq_true rfl)) dX9_readPlace_97 ⟨Nat.le_of_ble_eq_true rfl, Nat.le_of_ble_eq_true rfl⟩) hS (fun q _ h => hFc q h) hFc (fun u t H1 locs ht hvm hw hB hz1 hk1 hS => ?_)
          obtain ⟨z26_89, z27_90, ⟨hP1, -, hD1⟩, hz26_89, xr_88_0, xr_88_1⟩ := hB
          rw [ht] at hP1
          have hP := hP1
          have hD := pu_all hFc hD1
          clear hP1 hD1 hFc
          clear hk1 hz1 ht hvm
          generalize H1 = H at hP hS ⊢
          have hsp := hsp.trans (slet_eq xr_88_1)
          exact W.vret hx hb hr (fun t ht hW => ⟨⟨(), rfl, trivial, ⟨g_36, g_37, f_11, g_20, g_38, g_39, m13_1, g_40, g_41, g_42, g_43, z26_89, z27_90, ⟨by rw [ht]; exact hP, va_K.moved hW.alike hK, hD⟩, (Nat.le_trans hm13_1 (Nat.le_of_ble_eq_true rfl)), hg_41, hg_42, hz26_89, by omega, (hsp.symm.trans hRR)⟩⟩, hS.F ht⟩) hS.2.2 dX9_readPlace_100
  have hsp := hJR_23
  refine lv_if_eq (tgt := 69) hx hb dX9_readPlace_46 (by decide) (fun c_91 => ?_) (fun c_91 => ?_)
  · have c_91 : u_15 = 0 := (nI_eq (a := u_15) (b := 0) (Nat.lt_of_le_of_lt hu_15 (Nat.le_of_ble_eq_true rfl)) (Nat.le_of_ble_eq_true rfl)).mp c_91
    have hsp := hsp.trans (if_pos c_91)
    exact j_22 _ _ _ _ ⟨z20_5, z21_6, z22_7, z23_8, f_12, rfl, hz21_6, hz22_7, by omega, hsp.symm, hP, hD, hS, lv_sub hl [1, 0] rfl⟩
  · have c_91 : ¬ u_15 = 0 := fun z => c_91 ((nI_eq (a := u_15) (b := 0) (Nat.lt_of_le_of_lt hu_15 (Nat.le_of_ble_eq_true rfl)) (Nat.le_of_ble_eq_true rfl)).mpr z)
    have hsp := hsp.trans (if_neg c_91)
    refine lv_aload_n hx hb dX9_readPlace_49 rfl (lv_at hl 1 rfl) ?_
    refine lv_ldc hx hb hown v_15 dX9_readPlace_50 ?_
    refine va_calli (va_runV (As := [.int 723752404]) (rest := []) ⟨hx, hb, hml, hown, hts⟩ (c_EM_isWord l dC dI _ ad ck x0 x16 x18 x19 z20_5 z21_6 z22_7 z23_8 x24 x25 z26_9 z27_10 1 x29 x30 x33 x45 x46 x52 x53 x61 x62 x63 x65 x66 f1 f_11 f_12 q_13 q5 q6 q7 f8 q9 q10 f11 m12_0 m12_1 m13_0 m13_1 m14_0 m14_1 m15_0 m15_1 f17 q31 f32 f34 f35 f36 f37 q38 f39 f40 f41 m42_0 m42_1 f43 f44 f47 f48 f49 f50 f51 q54 q55 q56 f57 q58 f59 f60 f64 723752404 hx16 hx18 hx19 hz21_6 hz22_7 hz26_9 (Nat.le_of_ble_eq_true rfl) hx29 hx30 hx33 hx46 hx52 hx53 hx61 hx62 hx63 hx65 hm12_0 hm12_1 hm13_0 (Nat.le_trans hm13_1 (Nat.le_of_ble_eq_true rfl)) hm14_0 hm14_1 hm15_0 hm15_1 hm42_0 hm42_1) (cwV 1 hts g_EM_readPlace_1_EM_isWord rfl rfl rfl (by decide +kernel) ⟨Nat.le_of_ble_eq_true rfl, Nat.le_of_ble_eq_true rfl⟩) ⟨pu_bl, va_recv hK hP (ci := 9) (q0 := 0) rfl rfl, pu_in hP hK hD⟩ rfl rfl hl.1 rfl (lv_room (Nat.le_of_ble_eq_true rfl)) dX9_readPlace_52 ⟨Nat.le_of_ble_eq_true rfl, Nat.le_of_ble_eq_true rfl⟩) hS (fun q _ h => pu_fr hS hA q h) (pu_fr hS hA) (fun r_92 u t H1 locs ht hvm hw hB hz1 hk1 hS => ?_)
    have hP := pu_keep hP hk1
    clear hk1 hz1 ht hvm
    generalize H1 = H at hP hS ⊢
    obtain ⟨u_93, hu_93, rfl, ju_93, iu_93⟩ := hw
    have hsp := hsp.trans (slet_eq iu_93)
    refine lv_if_eq (tgt := 69) hx hb dX9_readPlace_55 (by decide) (fun c_94 => ?_) (fun c_94 => ?_)
    · have c_94 : u_93 = 0 := (nI_eq (a := u_93) (b := 0) (Nat.lt_of_le_of_lt hu_93 (Nat.le_of_ble_eq_true rfl)) (Nat.le_of_ble_eq_true rfl)).mp c_94
      have hsp := hsp.trans (if_pos c_94)
      exact j_22 _ _ _ _ ⟨z20_5, z21_6, z22_7, z23_8, f_12, rfl, hz21_6, hz22_7, by omega, hsp.symm, hP, hD, hS, lv_sub hl [1, 0] rfl⟩
    · have c_94 : ¬ u_93 = 0 := fun z => c_94 ((nI_eq (a := u_93) (b := 0) (Nat.lt_of_le_of_lt hu_93 (Nat.le_of_ble_eq_true rfl)) (Nat.le_of_ble_eq_true rfl)).mpr z)
      have hsp := hsp.trans (if_neg c_94)
      refine lv_aload_n hx hb dX9_readPlace_58 rfl (lv_at hl 1 rfl) ?_
      refine va_get (D := (dC, dI)) (ci := 9) (v := .ref (ad 3)) (C := RX9) (T := TX9) (N := 67) hx hb hts hiX9 hown hK hP 0 rfl rfl 3 (by decide) v_9 (fun _ h9 => h9) rfl dX9_readPlace_59 ?_
      refine lv_iload_n hx hb dX9_readPlace_62 rfl (lv_at hl 0 rfl) ?_
      refine lv_iconst (v := 1) hx hb dX9_readPlace_63 (by decide) ?_
      refine va_iast hx hb hK hP hD hS 3 2 rfl rfl (vp_in_nI (n := (8 + m13_1)) (by omega) (Nat.le_of_ble_eq_true rfl)) dX9_readPlace_64 (fun H locs hP hD hS => ?_)
      obtain ⟨f_95, ef_95, xf_95⟩ := up_x f_12 (n := (8 + m13_1)) 1 (by omega)
      have hP : va_P (dC, dI) vwCl (mo_w ad ck x0 (nI x16) (nI x18) (nI x19) z20_5 (nI z21_6) (nI z22_7) z23_8 x24 x25 (nI z26_9) z27_10 1 (nI x29) (nI x30) (nI x33) x45 (nI x46) (nI x52) (nI x53) (nI x61) (nI x62) (nI x63) (nI x65) x66 f1 f_11 f_95 (bN 3 q_13) (bN 7 q5) (bN 7 q6) (bN 4 q7) f8 (bN 2 q9) (bH q10) f11 (b2 m12_0 m12_1) (b2 m13_0 m13_1) (b2 m14_0 m14_1) (b2m m15_0 m15_1) f17 (bA 159 q31) f32 f34 f35 f36 f37 (bN 7 q38) f39 f40 f41 (b2 m42_0 m42_1) f43 f44 f47 f48 f49 f50 f51 (bN 13 q54) (bN 120 q55) (bN 120 q56) f57 (bN 120 q58) f59 f60 f64) H := by rw [← ef_95]; exact hP
      have hD : va_D A (mo_w ad ck x0 (nI x16) (nI x18) (nI x19) z20_5 (nI z21_6) (nI z22_7) z23_8 x24 x25 (nI z26_9) z27_10 1 (nI x29) (nI x30) (nI x33) x45 (nI x46) (nI x52) (nI x53) (nI x61) (nI x62) (nI x63) (nI x65) x66 f1 f_11 f_95 (bN 3 q_13) (bN 7 q5) (bN 7 q6) (bN 4 q7) f8 (bN 2 q9) (bH q10) f11 (b2 m12_0 m12_1) (b2 m13_0 m13_1) (b2 m14_0 m14_1) (b2m m15_0 m15_1) f17 (bA 159 q31) f32 f34 f35 f36 f37 (bN 7 q38) f39 f40 f41 (b2 m42_0 m42_1) f43 f44 f47 f48 f49 f50 f51 (bN 13 q54) (bN 120 q55) (bN 120 q56) f57 (bN 120 q58) f59 f60 f64) := by rw [← ef_95]; exact hD
      have hsp := hsp.trans (slet_eq xf_95)
      refine lv_aload_n hx hb dX9_readPlace_65 rfl (lv_at hl 1 rfl) ?_
      have hFc := pu_free hD hS hA
      refine va_callv (va_runV (As := []) (rest := []) ⟨hx, hb, hml, hown, hts⟩ (c_EM_next l dC dI _ ad ck x0 x16 x18 x19 z20_5 z21_6 z22_7 z23_8 x24 x25 z26_9 z27_10 1 x29 x30 x33 x45 x46 x52 x53 x61 x62 x63 x65 x66 f1 f_11 f_95 q_13 q5 q6 q7 f8 q9 q10 f11 m12_0 m12_1 m13_0 m13_1 m14_0 m14_1 m15_0 m15_1 f17 q31 f32 f34 f35 f36 f37 q38 f39 f40 f41 m42_0 m42_1 f43 f44 f47 f48 f49 f50 f51 q54 q55 q56 f57 q58 f59 f60 f64 hx16 hx18 hx19 hz21_6 hz22_7 hz26_9 (Nat.le_of_ble_eq_true rfl) hx29 hx30 hx33 hx46 hx52 hx53 hx61 hx62 hx63 hx65 hm12_0 hm12_1 hm13_0 (Nat.le_trans hm13_1 (Nat.le_of_ble_eq_true rfl)) hm14_0 hm14_1 hm15_0 hm15_1 hm42_0 hm42_1) (cwV 0 hts g_EM_readPlace_1_EM_next rfl rfl rfl (by decide +kernel) ⟨Nat.le_of_ble_eq_true rfl, Nat.le_of_ble_eq_true rfl⟩) ⟨pu_bl, va_recv hK hP (ci := 9) (q0 := 0) rfl rfl, pu_in hP hK hD⟩ rfl rfl hl.1 rfl (lv_room (Nat.le_of_ble_eq_true rfl)) dX9_readPlace_66 ⟨Nat.le_of_ble_eq_true rfl, Nat.le_of_ble_eq_true rfl⟩) hS (fun q _ h => hFc q h) hFc (fun u t H1 locs ht hvm hw hB hz1 hk1 hS => ?_)
      obtain ⟨z20_97, z21_98, z22_99, z23_100, ⟨hP1, -, hD1⟩, hz21_98, hz22_99, xr_96_0, xr_96_1, xr_96_2⟩ := hB
      rw [ht] at hP1
      have hP := hP1
      have hD := pu_all hFc hD1
      clear hP1 hD1 hFc
      clear hk1 hz1 ht hvm
      generalize H1 = H at hP hS ⊢
      have hsp := hsp.trans (slet_eq xr_96_2)
      exact j_22 _ _ _ _ ⟨z20_97, z21_98, z22_99, z23_100, f_95, rfl, hz21_98, hz22_99, by omega, hsp.symm, hP, hD, hS, lv_sub hl [1, 0] rfl⟩
abbrev vs_EM_readEdge_1 : List Cond := .code yX9_readEdge cX9_readEdge 3 none :: VM
theorem g_EM_readEdge_1_EM_toldPlace_1 : GoodIn vs_EM_readEdge_1 (wsV RX9 245 RX9 yX9_toldPlace vs_EM_toldPlace_1) := gm_V vm_126 vm_127 vm_128 vm_12 vm_106
theorem g_EM_readEdge_1_EM_isGood : GoodIn vs_EM_readEdge_1 (wsV RX9 216 RX9 yX9_isGood vs_EM_isGood) := gm_V vm_91 vm_92 vm_93 vm_12 vm_15
theorem g_EM_readEdge_1_EM_isWord : GoodIn vs_EM_readEdge_1 (wsV RX9 193 RX9 yX9_isWord vs_EM_isWord) := gm_V vm_44 vm_45 vm_46 vm_12 vm_35
theorem g_EM_readEdge_1_EM_next : GoodIn vs_EM_readEdge_1 (wsV RX9 226 RX9 yX9_next vs_EM_next) := gm_V vm_100 vm_101 vm_102 vm_12 vm_72
theorem g_EM_readEdge_1_EM_toldClock_1 : GoodIn vs_EM_readEdge_1 (wsV RX9 232 RX9 yX9_toldClock vs_EM_toldClock_1) := gm_V vm_109 vm_110 vm_111 vm_12 vm_103
theorem g_EM_readEdge_1_EM_isOf : GoodIn vs_EM_readEdge_1 (va_wsS RX9 248 yX9_isOf vs_EM_isOf) := gm_S vm_130 vm_131 vm_12 vm_0
theorem g_EM_readEdge_1_EM_fails : GoodIn vs_EM_readEdge_1 (wsV RX9 210 RX9 yX9_fails vs_EM_fails) := gm_V vm_55 vm_56 vm_57 vm_12 vm_39
theorem g_EM_readEdge_1_EM_readCondition0_1 : GoodIn vs_EM_readEdge_1 (wsV RX9 241 RX9 yX9_readCondition vs_EM_readCondition0_1) := gm_V vm_122 vm_123 vm_124 vm_12 vm_107
noncomputable def sp_EM_readEdge_1_L1 (x19 : Nat) (f1 : Nat → Int32) (m12_1 : Nat) (m14_1 : Nat) (f17 : Nat → Int32) : ((Nat → Int32) × Int32 × Nat × Nat × Int32 × Nat × Int32) → ((Nat → Int32) × Int32 × Nat × Nat × Int32 × Nat × Int32) ⊕ (Int32 × Nat × Nat × Int32 × Nat × Int32 × (Nat → Int32)) := fun (g_81, g_82, g_83, g_84, g_85, g_86, g_87) => (slet (sp_EM_isGood g_86) (fun u_96 => (if u_96 = 0 then (Sum.inr (g_82, g_83, g_84, g_85, g_86, g_87, g_81)) else (slet (sp_EM_isWord g_84 g_85 19057844) (fun u_99 => (if u_99 = 0 then (Sum.inr (g_82, g_83, g_84, g_85, g_86, g_87, g_81)) else (slet (sp_EM_next x19 g_83 f17) (fun (z20_102, z21_103, z22_104, z23_105) => (slet (sp_EM_toldClock_1 z20_102 z22_104 z23_105 g_86 g_87 f1 m12_1) (fun (u_109, z26_107, z27_108) => (slet (sp_EM_isGood z26_107) (fun u_111 => (slet (α := Nat × Int32) (if u_111 = 0 then (z26_107, z27_108) else (slet (g_81 (14 + m14_1)) (fun y_141 => (slet (sp_EM_isOf y_141 (nI u_109)) (fun u_143 => (if u_143 = 0 then (z26_107, z27_108) else (slet (sp_EM_fails z20_102 z22_104 z26_107 z27_108 5) (fun (z26_146, z27_147) => (z26_146, z27_147))))))))) (fun (g_112, g_113) => (slet (g_81 (14 + m14_1)) (fun y_119 => (slet ((1 : Int32) <<< (((nI u_109) : Int32) &&& 31)) (fun y_120 => (slet ((y_119 : Int32) ||| (y_120 : Int32)) (fun y_121 => (slet (upd g_81 (14 + m14_1) y_121) (fun f_122 => (slet (sp_EM_isGood g_112) (fun u_124 => (slet (α := Int32 × Nat × Nat × Int32) (if u_124 = 0 then (z20_102, z21_103, z22_104, z23_105) else (slet (sp_EM_next x19 z21_103 f17) (fun (z20_136, z21_137, z22_138, z23_139) => (z20_136, z21_137, z22_138, z23_139)))) (fun (g_125, g_126, g_127, g_128) => (Sum.inl (f_122, g_125, g_126, g_127, g_128, g_112, g_113))))))))))))))))))))))))))))
noncomputable def sp_EM_readEdge_1_L2 (x19 : Nat) (f1 : Nat → Int32) (m12_1 : Nat) (m14_1 : Nat) (f17 : Nat → Int32) : ((Nat → Int32) × Int32 × Nat × Nat × Int32 × Nat × Int32) → ((Nat → Int32) × Int32 × Nat × Nat × Int32 × Nat × Int32) ⊕ (Int32 × Nat × Nat × Int32 × Nat × Int32 × (Nat → Int32)) := fun (g_172, g_173, g_174, g_175, g_176, g_177, g_178) => (slet (sp_EM_isGood g_177) (fun u_187 => (if u_187 = 0 then (Sum.inr (g_173, g_174, g_175, g_176, g_177, g_178, g_172)) else (slet (sp_EM_isWord g_175 g_176 19057844) (fun u_190 => (if u_190 = 0 then (Sum.inr (g_173, g_174, g_175, g_176, g_177, g_178, g_172)) else (slet (sp_EM_next x19 g_174 f17) (fun (z20_193, z21_194, z22_195, z23_196) => (slet (sp_EM_toldClock_1 z20_193 z22_195 z23_196 g_177 g_178 f1 m12_1) (fun (u_200, z26_198, z27_199) => (slet (sp_EM_isGood z26_198) (fun u_202 => (slet (α := Nat × Int32) (if u_202 = 0 then (z26_198, z27_199) else (slet (g_172 (14 + m14_1)) (fun y_232 => (slet (sp_EM_isOf y_232 (nI u_200)) (fun u_234 => (if u_234 = 0 then (z26_198, z27_199) else (slet (sp_EM_fails z20_193 z22_195 z26_198 z27_199 5) (fun (z26_237, z27_238) => (z26_237, z27_238))))))))) (fun (g_203, g_204) => (slet (g_172 (14 + m14_1)) (fun y_210 => (slet ((1 : Int32) <<< (((nI u_200) : Int32) &&& 31)) (fun y_211 => (slet ((y_210 : Int32) ||| (y_211 : Int32)) (fun y_212 => (slet (upd g_172 (14 + m14_1) y_212) (fun f_213 => (slet (sp_EM_isGood g_203) (fun u_215 => (slet (α := Int32 × Nat × Nat × Int32) (if u_215 = 0 then (z20_193, z21_194, z22_195, z23_196) else (slet (sp_EM_next x19 z21_194 f17) (fun (z20_227, z21_228, z22_229, z23_230) => (z20_227, z21_228, z22_229, z23_230)))) (fun (g_216, g_217, g_218, g_219) => (Sum.inl (f_213, g_216, g_217, g_218, g_219, g_203, g_204))))))))))))))))))))))))))))
noncomputable def sp_EM_readEdge_1_L3 (x19 : Nat) (f1 : Nat → Int32) (m12_1 : Nat) (m14_1 : Nat) (f17 : Nat → Int32) (q_12 : Nat → Nat) (q_26 : Nat → Nat) (f_28 : Nat → Int32) : ((Nat → Nat) × (Nat → Int32) × (Nat → Nat) × (Nat → Nat) × Int32 × Nat × Nat × Int32 × Nat × Int32) → ((Nat → Nat) × (Nat → Int32) × (Nat → Nat) × (Nat → Nat) × Int32 × Nat × Nat × Int32 × Nat × Int32) ⊕ ((Nat → Nat) × (Nat → Int32) × (Nat → Nat) × (Nat → Nat) × (Nat → Nat) × (Nat → Int32) × (Nat → Nat) × Nat × Int32 × Nat × Nat × Int32 × Nat × Int32) := fun (g_40, g_41, g_42, g_43, g_44, g_45, g_46, g_47, g_48, g_49) => (slet (sp_EM_isGood g_48) (fun u_58 => (if u_58 = 0 then (Sum.inr (slet (α := Int32 × Nat × Nat × Int32 × Nat × Int32 × (Nat → Int32)) (itrv (α := (Nat → Int32) × Int32 × Nat × Nat × Int32 × Nat × Int32) (β := (Int32 × Nat × Nat × Int32 × Nat × Int32 × (Nat → Int32))) default (sp_EM_readEdge_1_L1 x19 f1 m12_1 m14_1 f17) (f_28, g_44, g_45, g_46, g_47, g_48, g_49)) (fun (g_60, g_61, g_62, g_63, g_64, g_65, g_66) => (g_40, g_41, q_12, q_26, g_42, g_66, g_43, (m14_1 + 1), g_60, g_61, g_62, g_63, g_64, g_65)))) else (slet (sp_EM_isWord g_46 g_47 762030) (fun u_149 => (if u_149 = 0 then (Sum.inr (slet (α := Int32 × Nat × Nat × Int32 × Nat × Int32 × (Nat → Int32)) (itrv (α := (Nat → Int32) × Int32 × Nat × Nat × Int32 × Nat × Int32) (β := (Int32 × Nat × Nat × Int32 × Nat × Int32 × (Nat → Int32))) default (sp_EM_readEdge_1_L2 x19 f1 m12_1 m14_1 f17) (f_28, g_44, g_45, g_46, g_47, g_48, g_49)) (fun (g_151, g_152, g_153, g_154, g_155, g_156, g_157) => (g_40, g_41, q_12, q_26, g_42, g_157, g_43, (m14_1 + 1), g_151, g_152, g_153, g_154, g_155, g_156)))) else (slet (min (g_42 (14 + m14_1)) 4) (fun u_240 => (if u_240 = 4 then (Sum.inr (slet (sp_EM_fails g_44 g_46 g_48 g_49 5) (fun (z26_264, z27_265) => (g_40, g_41, q_12, q_26, g_42, f_28, g_43, m14_1, g_44, g_45, g_46, g_47, z26_264, z27_265)))) else (slet (sp_EM_readCondition0_1 x19 g_45 g_48 g_49 f1 g_43 g_40 g_41 m12_1 f17 ((80 + (4 * m14_1)) + u_240)) (fun (z10_250, z11_251, z9_252, z20_253, z21_254, z22_255, z23_256, z26_257, z27_258) => (slet (updN g_42 (14 + m14_1) (u_240 + 1)) (fun q_262 => (Sum.inl (z10_250, z11_251, q_262, z9_252, z20_253, z21_254, z22_255, z23_256, z26_257, z27_258)))))))))))))))
noncomputable def sp_EM_readEdge_1 (x19 : Nat) (x20 : Int32) (x21 : Nat) (x22 : Nat) (x23 : Int32) (x26 : Nat) (x27 : Int32) (f1 : Nat → Int32) (f2 : Nat → Int32) (q5 : Nat → Nat) (q6 : Nat → Nat) (q7 : Nat → Nat) (f8 : Nat → Int32) (q9 : Nat → Nat) (q10 : Nat → Nat) (f11 : Nat → Int32) (m12_1 : Nat) (m13_1 : Nat) (m14_1 : Nat) (f17 : Nat → Int32) : (Nat → Nat) × (Nat → Int32) × (Nat → Nat) × (Nat → Nat) × (Nat → Nat) × (Nat → Int32) × (Nat → Nat) × Nat × Int32 × Nat × Nat × Int32 × Nat × Int32 := (slet (sp_EM_toldPlace_1 x19 x20 x21 x22 x23 x26 x27 f2 m13_1 f17) (fun (u_11, z20_5, z21_6, z22_7, z23_8, z26_9, z27_10) => (slet (updN q5 (14 + m14_1) u_11) (fun q_12 => (slet (sp_EM_isGood z26_9) (fun u_14 => (slet (α := Int32 × Nat × Nat × Int32 × Nat × Int32 × Nat) (if u_14 = 0 then (z20_5, z21_6, z22_7, z23_8, z26_9, z27_10, 0) else (slet (sp_EM_toldPlace_1 x19 z20_5 z21_6 z22_7 z23_8 z26_9 z27_10 f2 m13_1 f17) (fun (u_274, z20_268, z21_269, z22_270, z23_271, z26_272, z27_273) => (z20_268, z21_269, z22_270, z23_271, z26_272, z27_273, u_274)))) (fun (g_15, g_16, g_17, g_18, g_19, g_20, g_21) => (slet (updN q6 (14 + m14_1) g_21) (fun q_26 => (slet (updN q7 (14 + m14_1) 0) (fun q_27 => (slet (upd f8 (14 + m14_1) 0) (fun f_28 => (itrv (α := (Nat → Nat) × (Nat → Int32) × (Nat → Nat) × (Nat → Nat) × Int32 × Nat × Nat × Int32 × Nat × Int32) (β := ((Nat → Nat) × (Nat → Int32) × (Nat → Nat) × (Nat → Nat) × (Nat → Nat) × (Nat → Int32) × (Nat → Nat) × Nat × Int32 × Nat × Nat × Int32 × Nat × Int32)) default (sp_EM_readEdge_1_L3 x19 f1 m12_1 m14_1 f17 q_12 q_26 f_28) (q10, f11, q_27, q9, g_15, g_16, g_17, g_18, g_19, g_20))))))))))))))))
set_option maxHeartbeats 4000000 in
set_option maxRecDepth 100000 in
theorem c_EM_readEdge_1 (l : Launch) (dC : Nat → ClassId) (dI : Nat → Nat → Nat) (sz : Nat) (ad : Nat → Nat) (ck : Nat → ClassId) (x0 : Int32) (x16 : Nat) (x18 : Nat) (x19 : Nat) (x20 : Int32) (x21 : Nat) (x22 : Nat) (x23 : Int32) (x24 : Int32) (x25 : Int32) (x26 : Nat) (x27 : Int32) (x29 : Nat) (x30 : Nat) (x33 : Nat) (x45 : Int32) (x46 : Nat) (x52 : Nat) (x53 : Nat) (x61 : Nat) (x62 : Nat) (x63 : Nat) (x65 : Nat) (x66 : Int32) (f1 : Nat → Int32) (f2 : Nat → Int32) (f3 : Nat → Int32) (q4 : Nat → Nat) (q5 : Nat → Nat) (q6 : Nat → Nat) (q7 : Nat → Nat) (f8 : Nat → Int32) (q9 : Nat → Nat) (q10 : Nat → Nat) (f11 : Nat → Int32) (m12_0 m12_1 : Nat) (m13_0 m13_1 : Nat) (m14_0 m14_1 : Nat) (m15_0 m15_1 : Nat) (f17 : Nat → Int32) (q31 : Nat → Nat) (f32 : Nat → Int32) (f34 : Nat → Int32) (f35 : Nat → Int32) (f36 : Nat → Int32) (f37 : Nat → Int32) (q38 : Nat → Nat) (f39 : Nat → Int32) (f40 : Nat → Int32) (f41 : Nat → Int32) (m42_0 m42_1 : Nat) (f43 : Nat → Int32) (f44 : Nat → Int32) (f47 : Nat → Int32) (f48 : Nat → Int32) (f49 : Nat → Int32) (f50 : Nat → Int32) (f51 : Nat → Int32) (q54 : Nat → Nat) (q55 : Nat → Nat) (q56 : Nat → Nat) (f57 : Nat → Int32) (q58 : Nat → Nat) (f59 : Nat → Int32) (f60 : Nat → Int32) (f64 : Nat → Int32) (hx16 : x16 ≤ 1) (hx18 : x18 ≤ 900) (hx19 : x19 ≤ 900) (hx21 : x21 ≤ 900) (hx22 : x22 ≤ 4) (hx26 : x26 ≤ 6) (hx29 : x29 ≤ 1) (hx30 : x30 ≤ 1) (hx33 : x33 ≤ 20) (hx46 : x46 ≤ 5) (hx52 : x52 ≤ 2400) (hx53 : x53 ≤ 119) (hx61 : x61 ≤ 119) (hx62 : x62 ≤ 2000) (hx63 : x63 ≤ 1) (hx65 : x65 ≤ 7) (hm12_0 : m12_0 ≤ 3) (hm12_1 : m12_1 ≤ 3) (hm13_0 : m13_0 ≤ 8) (hm13_1 : m13_1 ≤ 8) (hm14_0 : m14_0 ≤ 14) (hm14_1 : m14_1 ≤ 13) (hm15_0 : m15_0 ≤ 8) (hm15_1 : m15_1 ≤ 8) (hm42_0 : m42_0 ≤ 120) (hm42_1 : m42_1 ≤ 400) : Met l yX9_readEdge vs_EM_readEdge_1 ({ frames := 5, cells := 0, slots := 0, locals := 108 }) (va_Pc [.ref (ad 0)] (pu_B (dC, dI) (mo_w ad ck x0 (nI x16) (nI x18) (nI x19) x20 (nI x21) (nI x22) x23 x24 x25 (nI x26) x27 1 (nI x29) (nI x30) (nI x33) x45 (nI x46) (nI x52) (nI x53) (nI x61) (nI x62) (nI x63) (nI x65) x66 f1 f2 f3 (bN 3 q4) (bN 7 q5) (bN 7 q6) (bN 4 q7) f8 (bN 2 q9) (bH q10) f11 (b2 m12_0 m12_1) (b2 m13_0 m13_1) (b2 m14_0 m14_1) (b2m m15_0 m15_1) f17 (bA 159 q31) f32 f34 f35 f36 f37 (bN 7 q38) f39 f40 f41 (b2 m42_0 m42_1) f43 f44 f47 f48 f49 f50 f51 (bN 13 q54) (bN 120 q55) (bN 120 q56) f57 (bN 120 q58) f59 f60 f64) (mo_t ck) sz)) (va_Qv (fun (_ : Unit) => True) (fun _ t => ∃ (z10 : Nat → Nat) (z11 : Nat → Int32) (z5 : Nat → Nat) (z6 : Nat → Nat) (z7 : Nat → Nat) (z8 : Nat → Int32) (z9 : Nat → Nat) (z14_1 : Nat) (z20 : Int32) (z21 : Nat) (z22 : Nat) (z23 : Int32) (z26 : Nat) (z27 : Int32), pu_E (dC, dI) (mo_w ad ck x0 (nI x16) (nI x18) (nI x19) z20 (nI z21) (nI z22) z23 x24 x25 (nI z26) z27 1 (nI x29) (nI x30) (nI x33) x45 (nI x46) (nI x52) (nI x53) (nI x61) (nI x62) (nI x63) (nI x65) x66 f1 f2 f3 (bN 3 q4) (bN 7 z5) (bN 7 z6) (bN 4 z7) z8 (bN 2 z9) (bH z10) z11 (b2 m12_0 m12_1) (b2 m13_0 m13_1) (b2 m14_0 z14_1) (b2m m15_0 m15_1) f17 (bA 159 q31) f32 f34 f35 f36 f37 (bN 7 q38) f39 f40 f41 (b2 m42_0 m42_1) f43 f44 f47 f48 f49 f50 f51 (bN 13 q54) (bN 120 q55) (bN 120 q56) f57 (bN 120 q58) f59 f60 f64) (mo_t ck) (va_A ((mo_w ad ck x0 (nI x16) (nI x18) (nI x19) x20 (nI x21) (nI x22) x23 x24 x25 (nI x26) x27 1 (nI x29) (nI x30) (nI x33) x45 (nI x46) (nI x52) (nI x53) (nI x61) (nI x62) (nI x63) (nI x65) x66 f1 f2 f3 (bN 3 q4) (bN 7 q5) (bN 7 q6) (bN 4 q7) f8 (bN 2 q9) (bH q10) f11 (b2 m12_0 m12_1) (b2 m13_0 m13_1) (b2 m14_0 m14_1) (b2m m15_0 m15_1) f17 (bA 159 q31) f32 f34 f35 f36 f37 (bN 7 q38) f39 f40 f41 (b2 m42_0 m42_1) f43 f44 f47 f48 f49 f50 f51 (bN 13 q54) (bN 120 q55) (bN 120 q56) f57 (bN 120 q58) f59 f60 f64)) sz) t ∧ (z14_1 ≤ 14) ∧ (z21 ≤ 900) ∧ (z22 ≤ 4) ∧ (z26 ≤ 6) ∧ (mu z21 z22 ≤ mu x21 x22) ∧ ((z10, z11, z5, z6, z7, z8, z9, z14_1, z20, z21, z22, z23, z26, z27) = (sp_EM_readEdge_1 x19 x20 x21 x22 x23 x26 x27 f1 f2 q5 q6 q7 f8 q9 q10 f11 m12_1 m13_1 m14_1 f17))) (va_A ((mo_w ad ck x0 (nI x16) (nI x18) (nI x19) x20 (nI x21) (nI x22) x23 x24 x25 (nI x26) x27 1 (nI x29) (nI x30) (nI x33) x45 (nI x46) (nI x52) (nI x53) (nI x61) (nI x62) (nI x63) (nI x65) x66 f1 f2 f3 (bN 3 q4) (bN 7 q5) (bN 7 q6) (bN 4 q7) f8 (bN 2 q9) (bH q10) f11 (b2 m12_0 m12_1) (b2 m13_0 m13_1) (b2 m14_0 m14_1) (b2m m15_0 m15_1) f17 (bA 159 q31) f32 f34 f35 f36 f37 (bN 7 q38) f39 f40 f41 (b2 m42_0 m42_1) f43 f44 f47 f48 f49 f50 f51 (bN 13 q54) (bN 120 q55) (bN 120 q56) f57 (bN 120 q58) f59 f60 f64)) sz)) 0 0 (va_A ((mo_w ad ck x0 (nI x16) (nI x18) (nI x19) x20 (nI x21) (nI x22) x23 x24 x25 (nI x26) x27 1 (nI x29) (nI x30) (nI x33) x45 (nI x46) (nI x52) (nI x53) (nI x61) (nI x62) (nI x63) (nI x65) x66 f1 f2 f3 (bN 3 q4) (bN 7 q5) (bN 7 q6) (bN 4 q7) f8 (bN 2 q9) (bH q10) f11 (b2 m12_0 m12_1) (b2 m13_0 m13_1) (b2 m14_0 m14_1) (b2m m15_0 m15_1) f17 (bA 159 q31) f32 f34 f35 f36 f37 (bN 7 q38) f39 f40 f41 (b2 m42_0 m42_1) f43 f44 f47 f48 f49 f50 f51 (bN 13 q54) (bN 120 q55) (bN 120 q56) f57 (bN 120 q58) f59 f60 f64)) sz) := by
  refine Met.ofW (cc := cX9_readEdge) (maxL := 3) (ret := none) (by decide) rfl ?_
  intro p e s m args below meth c s₁ B hml hv
  obtain ⟨rfl, rfl, hP, hK, hD0⟩ := hv
  have hx := B.exec
  have hb := B.bytes
  have hr := B.returns
  have hts := atoms_spec (ws := vs_EM_readEdge_1) B.pre
  have v_1 := hts (.fieldLink RX9 203 "ClockReachModel" "rb" "I") (List.mem_cons_of_mem _ vm_82)
  have v_2 := hts (.fieldLink RX9 49 "ClockReachModel" "edgeMany" "[I") (List.mem_cons_of_mem _ vm_62)
  have v_3 := hts (.fieldLink RX9 22 "ClockReachModel" "edgeFrom" "[I") (List.mem_cons_of_mem _ vm_28)
  have v_9 := hts (.fieldLink RX9 25 "ClockReachModel" "edgeTo" "[I") (List.mem_cons_of_mem _ vm_30)
  have v_14 := hts (.fieldLink RX9 28 "ClockReachModel" "whens" "[I") (List.mem_cons_of_mem _ vm_129)
  have v_15 := hts (.fieldLink RX9 31 "ClockReachModel" "sets" "[I") (List.mem_cons_of_mem _ vm_32)
  have v_16 := hts (.constant RX9 202 (19057844)) (List.mem_cons_of_mem _ vm_53)
  have v_36 := hts (.constant RX9 201 (762030)) (List.mem_cons_of_mem _ vm_52)
  have hown : s.vm.findClass RX9 = some m.cls := findClass_of_methodNamed B.named
  have hlocks := B.notSynchronized
  have hiX9 : ∀ w ∈ wsX90, w ∈ vs_EM_readEdge_1 := fun _ h => List.mem_cons_of_mem _ (List.mem_append_right _ h)
  have hD := hD0.self (sz := s.heap.size)
  generalize hAe : va_A ((mo_w ad ck x0 (nI x16) (nI x18) (nI x19) x20 (nI x21) (nI x22) x23 x24 x25 (nI x26) x27 1 (nI x29) (nI x30) (nI x33) x45 (nI x46) (nI x52) (nI x53) (nI x61) (nI x62) (nI x63) (nI x65) x66 f1 f2 f3 (bN 3 q4) (bN 7 q5) (bN 7 q6) (bN 4 q7) f8 (bN 2 q9) (bH q10) f11 (b2 m12_0 m12_1) (b2 m13_0 m13_1) (b2 m14_0 m14_1) (b2m m15_0 m15_1) f17 (bA 159 q31) f32 f34 f35 f36 f37 (bN 7 q38) f39 f40 f41 (b2 m42_0 m42_1) f43 f44 f47 f48 f49 f50 f51 (bN 13 q54) (bN 120 q55) (bN 120 q56) f57 (bN 120 q58) f59 f60 f64)) s.heap.size = A at hD ⊢
  have hA : ∀ q : Nat, s.heap.size ≤ q → A q := fun q h => by rw [← hAe]; exact Or.inr h
  have hS : va_S A s.heap s.heap [] := va_S.rf
  have hl := lv_entry ([.ref (ad 0)]) (n := 3) (Nat.le_of_ble_eq_true rfl)
  rw [lg_entry_eq]
  generalize (lg_sl ([.ref (ad 0)]) ++ List.replicate (3 - (lg_sl ([.ref (ad 0)])).length) Slot.unset).toArray = ls at hl ⊢
  have hl : lv_has ls 3 [(0, .ref (ad 0))] := hl
  obtain ⟨RR, hRR⟩ : ∃ x, x = (sp_EM_readEdge_1 x19 x20 x21 x22 x23 x26 x27 f1 f2 q5 q6 q7 f8 q9 q10 f11 m12_1 m13_1 m14_1 f17) := ⟨_, rfl⟩
  have hsp := hRR
  refine lv_bipush (v := 14) hx hb dX9_readEdge_0 (by decide) ?_
  refine lv_aload_n hx hb dX9_readEdge_2 rfl (lv_at hl 0 rfl) ?_
  refine va_get (D := (dC, dI)) (ci := 9) (v := .int 1) (C := RX9) (T := TX9) (N := 67) hx hb hts hiX9 hown hK hP 0 rfl rfl 28 (by decide) v_1 (fun _ h9 => h9) rfl dX9_readEdge_3 ?_
  refine lv_imul hx hb dX9_readEdge_6 ?_
  refine lv_topi (fun y_1 ey_1 => ?_)
  obtain rfl : y_1 = 14 := ey_1.trans (by decide)
  refine lv_aload_n hx hb dX9_readEdge_7 rfl (lv_at hl 0 rfl) ?_
  refine va_get (D := (dC, dI)) (ci := 9) (v := .ref (ad 14)) (C := RX9) (T := TX9) (N := 67) hx hb hts hiX9 hown hK hP 0 rfl rfl 14 (by decide) v_2 (fun _ h9 => h9) rfl dX9_readEdge_8 ?_
  refine lv_aload_n hx hb dX9_readEdge_11 rfl (lv_at hl 0 rfl) ?_
  refine va_get (D := (dC, dI)) (ci := 9) (v := .int 1) (C := RX9) (T := TX9) (N := 67) hx hb hts hiX9 hown hK hP 0 rfl rfl 28 (by decide) v_1 (fun _ h9 => h9) rfl dX9_readEdge_12 ?_
  refine va_iald hx hb hK hP 14 13 rfl rfl (vp_in_nI (n := 1) (Nat.le_of_ble_eq_true rfl) (Nat.le_of_ble_eq_true rfl)) dX9_readEdge_15 ?_
  refine lv_topi (fun y_2 ey_2 => ?_)
  have qy_2 := ey_2.trans b2_1
  clear ey_2
  obtain rfl : y_2 = nI m14_1 := qy_2
  refine lv_iadd hx hb dX9_readEdge_16 ?_
  refine lv_topi (fun y_3 ey_3 => ?_)
  obtain rfl : y_3 = (nI (14 + m14_1)) := ey_3.trans (nI_add 14 m14_1)
  refine lv_istore_n (lv' := [(1, .int (nI (14 + m14_1))), (0, .ref (ad 0))]) hx hb dX9_readEdge_17 rfl hl (by decide) rfl (fun ls hl => ?_)
  refine lv_aload_n hx hb dX9_readEdge_18 rfl (lv_at hl 1 rfl) ?_
  refine va_get (D := (dC, dI)) (ci := 9) (v := .ref (ad 5)) (C := RX9) (T := TX9) (N := 67) hx hb hts hiX9 hown hK hP 0 rfl rfl 5 (by decide) v_3 (fun _ h9 => h9) rfl dX9_readEdge_19 ?_
  refine lv_iload_n hx hb dX9_readEdge_22 rfl (lv_at hl 0 rfl) ?_
  refine lv_aload_n hx hb dX9_readEdge_23 rfl (lv_at hl 1 rfl) ?_
  have hFc := pu_free hD hS hA
  refine va_calli (va_runV (As := []) (rest := [.int (nI (14 + m14_1)), .ref (ad 5)]) ⟨hx, hb, hml, hown, hts⟩ (c_EM_toldPlace_1 l dC dI _ ad ck x0 x16 x18 x19 x20 x21 x22 x23 x24 x25 x26 x27 x29 x30 x33 x45 x46 x52 x53 x61 x62 x63 x65 x66 f1 f2 f3 q4 q5 q6 q7 f8 q9 q10 f11 m12_0 m12_1 m13_0 m13_1 m14_0 m14_1 m15_0 m15_1 f17 q31 f32 f34 f35 f36 f37 q38 f39 f40 f41 m42_0 m42_1 f43 f44 f47 f48 f49 f50 f51 q54 q55 q56 f57 q58 f59 f60 f64 hx16 hx18 hx19 hx21 hx22 hx26 hx29 hx30 hx33 hx46 hx52 hx53 hx61 hx62 hx63 hx65 hm12_0 hm12_1 hm13_0 hm13_1 hm14_0 (Nat.le_trans hm14_1 (Nat.le_of_ble_eq_true rfl)) hm15_0 hm15_1 hm42_0 hm42_1) (cwV 0 hts g_EM_readEdge_1_EM_toldPlace_1 rfl rfl rfl (by decide +kernel) ⟨Nat.le_of_ble_eq_true rfl, Nat.le_of_ble_eq_true rfl⟩) ⟨pu_bl, va_recv hK hP (ci := 9) (q0 := 0) rfl rfl, pu_in hP hK hD⟩ rfl rfl hl.1 rfl (lv_room (Nat.le_of_ble_eq_true rfl)) dX9_readEdge_24 ⟨Nat.le_of_ble_eq_true rfl, Nat.le_of_ble_eq_true rfl⟩) hS (fun q _ h => hFc q h) hFc (fun r_4 u t H1 locs ht hvm hw hB hz1 hk1 hS => ?_)
  obtain ⟨z20_5, z21_6, z22_7, z23_8, z26_9, z27_10, ⟨hP1, -, hD1⟩, hz21_6, hz22_7, hz26_9, xr_4_0, xr_4_1⟩ := hB
  rw [ht] at hP1
  have hP := hP1
  have hD := pu_all hFc hD1
  clear hP1 hD1 hFc
  clear hk1 hz1 ht hvm
  generalize H1 = H at hP hS ⊢
  obtain ⟨u_11, hu_11, rfl, iu_11⟩ := hw
  have iu_11 : (u_11, z20_5, z21_6, z22_7, z23_8, z26_9, z27_10) = (sp_EM_toldPlace_1 x19 x20 x21 x22 x23 x26 x27 f2 m13_1 f17) := Prod.ext iu_11 xr_4_1
  have hsp := hsp.trans (slet_eq iu_11)
  refine va_iast hx hb hK hP hD hS 5 4 rfl rfl (vp_in_nI (n := (14 + m14_1)) (by omega) (Nat.le_of_ble_eq_true rfl)) dX9_readEdge_27 (fun H locs hP hD hS => ?_)
  obtain ⟨q_12, eq_12, kq_12, oq_12, xq_12⟩ := bN_upx 7 q5 (n := (14 + m14_1)) (v := u_11) (by omega) hu_11
  have hP : va_P (dC, dI) vwCl (mo_w ad ck x0 (nI x16) (nI x18) (nI x19) z20_5 (nI z21_6) (nI z22_7) z23_8 x24 x25 (nI z26_9) z27_10 1 (nI x29) (nI x30) (nI x33) x45 (nI x46) (nI x52) (nI x53) (nI x61) (nI x62) (nI x63) (nI x65) x66 f1 f2 f3 (bN 3 q4) (bN 7 q_12) (bN 7 q6) (bN 4 q7) f8 (bN 2 q9) (bH q10) f11 (b2 m12_0 m12_1) (b2 m13_0 m13_1) (b2 m14_0 m14_1) (b2m m15_0 m15_1) f17 (bA 159 q31) f32 f34 f35 f36 f37 (bN 7 q38) f39 f40 f41 (b2 m42_0 m42_1) f43 f44 f47 f48 f49 f50 f51 (bN 13 q54) (bN 120 q55) (bN 120 q56) f57 (bN 120 q58) f59 f60 f64) H := by rw [← eq_12]; exact hP
  have hD : va_D A (mo_w ad ck x0 (nI x16) (nI x18) (nI x19) z20_5 (nI z21_6) (nI z22_7) z23_8 x24 x25 (nI z26_9) z27_10 1 (nI x29) (nI x30) (nI x33) x45 (nI x46) (nI x52) (nI x53) (nI x61) (nI x62) (nI x63) (nI x65) x66 f1 f2 f3 (bN 3 q4) (bN 7 q_12) (bN 7 q6) (bN 4 q7) f8 (bN 2 q9) (bH q10) f11 (b2 m12_0 m12_1) (b2 m13_0 m13_1) (b2 m14_0 m14_1) (b2m m15_0 m15_1) f17 (bA 159 q31) f32 f34 f35 f36 f37 (bN 7 q38) f39 f40 f41 (b2 m42_0 m42_1) f43 f44 f47 f48 f49 f50 f51 (bN 13 q54) (bN 120 q55) (bN 120 q56) f57 (bN 120 q58) f59 f60 f64) := by rw [← eq_12]; exact hD
  have hsp := hsp.trans (slet_eq xq_12)
  refine lv_aload_n hx hb dX9_readEdge_28 rfl (lv_at hl 1 rfl) ?_
  refine va_get (D := (dC, dI)) (ci := 9) (v := .ref (ad 6)) (C := RX9) (T := TX9) (N := 67) hx hb hts hiX9 hown hK hP 0 rfl rfl 6 (by decide) v_9 (fun _ h9 => h9) rfl dX9_readEdge_29 ?_
  refine lv_iload_n hx hb dX9_readEdge_32 rfl (lv_at hl 0 rfl) ?_
  refine lv_aload_n hx hb dX9_readEdge_33 rfl (lv_at hl 1 rfl) ?_
  refine va_calli (va_runV (As := []) (rest := [.int (nI (14 + m14_1)), .ref (ad 6)]) ⟨hx, hb, hml, hown, hts⟩ (c_EM_isGood l dC dI _ ad ck x0 x16 x18 x19 z20_5 z21_6 z22_7 z23_8 x24 x25 z26_9 z27_10 1 x29 x30 x33 x45 x46 x52 x53 x61 x62 x63 x65 x66 f1 f2 f3 q4 q_12 q6 q7 f8 q9 q10 f11 m12_0 m12_1 m13_0 m13_1 m14_0 m14_1 m15_0 m15_1 f17 q31 f32 f34 f35 f36 f37 q38 f39 f40 f41 m42_0 m42_1 f43 f44 f47 f48 f49 f50 f51 q54 q55 q56 f57 q58 f59 f60 f64 hx16 hx18 hx19 hz21_6 hz22_7 hz26_9 (Nat.le_of_ble_eq_true rfl) hx29 hx30 hx33 hx46 hx52 hx53 hx61 hx62 hx63 hx65 hm12_0 hm12_1 hm13_0 hm13_1 hm14_0 (Nat.le_trans hm14_1 (Nat.le_of_ble_eq_true rfl)) hm15_0 hm15_1 hm42_0 hm42_1) (cwV 0 hts g_EM_readEdge_1_EM_isGood rfl rfl rfl (by decide +kernel) ⟨Nat.le_of_ble_eq_true rfl, Nat.le_of_ble_eq_true rfl⟩) ⟨pu_bl, va_recv hK hP (ci := 9) (q0 := 0) rfl rfl, pu_in hP hK hD⟩ rfl rfl hl.1 rfl (lv_room (Nat.le_of_ble_eq_true rfl)) dX9_readEdge_34 ⟨Nat.le_of_ble_eq_true rfl, Nat.le_of_ble_eq_true rfl⟩) hS (fun q _ h => pu_fr hS hA q h) (pu_fr hS hA) (fun r_13 u t H1 locs ht hvm hw hB hz1 hk1 hS => ?_)
  have hP := pu_keep hP hk1
  clear hk1 hz1 ht hvm
  generalize H1 = H at hP hS ⊢
  obtain ⟨u_14, hu_14, rfl, ju_14, iu_14⟩ := hw
  have hsp := hsp.trans (slet_eq iu_14)
  obtain ⟨JR_24, hJR_24, hsp⟩ := slet_ex hsp
  refine pu_join (fun H locs ls st => ∃ (g_15 : Int32) (g_16 : Nat) (g_17 : Nat) (g_18 : Int32) (g_19 : Nat) (g_20 : Int32) (g_21 : Nat), st = [.int (nI g_21), .int (nI (14 + m14_1)), .ref (ad 6)] ∧ g_16 ≤ 900 ∧ g_17 ≤ 4 ∧ g_19 ≤ 6 ∧ g_21 ≤ 7 ∧ mu g_16 g_17 ≤ mu x21 x22 ∧ (g_15, g_16, g_17, g_18, g_19, g_20, g_21) = JR_24 ∧ va_P (dC, dI) vwCl (mo_w ad ck x0 (nI x16) (nI x18) (nI x19) g_15 (nI g_16) (nI g_17) g_18 x24 x25 (nI g_19) g_20 1 (nI x29) (nI x30) (nI x33) x45 (nI x46) (nI x52) (nI x53) (nI x61) (nI x62) (nI x63) (nI x65) x66 f1 f2 f3 (bN 3 q4) (bN 7 q_12) (bN 7 q6) (bN 4 q7) f8 (bN 2 q9) (bH q10) f11 (b2 m12_0 m12_1) (b2 m13_0 m13_1) (b2 m14_0 m14_1) (b2m m15_0 m15_1) f17 (bA 159 q31) f32 f34 f35 f36 f37 (bN 7 q38) f39 f40 f41 (b2 m42_0 m42_1) f43 f44 f47 f48 f49 f50 f51 (bN 13 q54) (bN 120 q55) (bN 120 q56) f57 (bN 120 q58) f59 f60 f64) H ∧ va_D A (mo_w ad ck x0 (nI x16) (nI x18) (nI x19) g_15 (nI g_16) (nI g_17) g_18 x24 x25 (nI g_19) g_20 1 (nI x29) (nI x30) (nI x33) x45 (nI x46) (nI x52) (nI x53) (nI x61) (nI x62) (nI x63) (nI x65) x66 f1 f2 f3 (bN 3 q4) (bN 7 q_12) (bN 7 q6) (bN 4 q7) f8 (bN 2 q9) (bH q10) f11 (b2 m12_0 m12_1) (b2 m13_0 m13_1) (b2 m14_0 m14_1) (b2m m15_0 m15_1) f17 (bA 159 q31) f32 f34 f35 f36 f37 (bN 7 q38) f39 f40 f41 (b2 m42_0 m42_1) f43 f44 f47 f48 f49 f50 f51 (bN 13 q54) (bN 120 q55) (bN 120 q56) f57 (bN 120 q58) f59 f60 f64) ∧ va_S A s.heap H locs ∧ lv_has ls 3 [(0, .ref (ad 0)), (1, .int (nI (14 + m14_1)))]) 48 ?_ (fun j_23 => ?_)
  · rintro H locs ls st ⟨g_15, g_16, g_17, g_18, g_19, g_20, g_21, rfl, hg_16, hg_17, hg_19, hg_21, he_22, he_25, hP, hD, hS, hl⟩
    rw [← he_25] at hsp
    refine va_iast hx hb hK hP hD hS 6 5 rfl rfl (vp_in_nI (n := (14 + m14_1)) (by omega) (Nat.le_of_ble_eq_true rfl)) dX9_readEdge_48 (fun H locs hP hD hS => ?_)
    obtain ⟨q_26, eq_26, kq_26, oq_26, xq_26⟩ := bN_upx 7 q6 (n := (14 + m14_1)) (v := g_21) (by omega) hg_21
    have hP : va_P (dC, dI) vwCl (mo_w ad ck x0 (nI x16) (nI x18) (nI x19) g_15 (nI g_16) (nI g_17) g_18 x24 x25 (nI g_19) g_20 1 (nI x29) (nI x30) (nI x33) x45 (nI x46) (nI x52) (nI x53) (nI x61) (nI x62) (nI x63) (nI x65) x66 f1 f2 f3 (bN 3 q4) (bN 7 q_12) (bN 7 q_26) (bN 4 q7) f8 (bN 2 q9) (bH q10) f11 (b2 m12_0 m12_1) (b2 m13_0 m13_1) (b2 m14_0 m14_1) (b2m m15_0 m15_1) f17 (bA 159 q31) f32 f34 f35 f36 f37 (bN 7 q38) f39 f40 f41 (b2 m42_0 m42_1) f43 f44 f47 f48 f49 f50 f51 (bN 13 q54) (bN 120 q55) (bN 120 q56) f57 (bN 120 q58) f59 f60 f64) H := by rw [← eq_26]; exact hP
    have hD : va_D A (mo_w ad ck x0 (nI x16) (nI x18) (nI x19) g_15 (nI g_16) (nI g_17) g_18 x24 x25 (nI g_19) g_20 1 (nI x29) (nI x30) (nI x33) x45 (nI x46) (nI x52) (nI x53) (nI x61) (nI x62) (nI x63) (nI x65) x66 f1 f2 f3 (bN 3 q4) (bN 7 q_12) (bN 7 q_26) (bN 4 q7) f8 (bN 2 q9) (bH q10) f11 (b2 m12_0 m12_1) (b2 m13_0 m13_1) (b2 m14_0 m14_1) (b2m m15_0 m15_1) f17 (bA 159 q31) f32 f34 f35 f36 f37 (bN 7 q38) f39 f40 f41 (b2 m42_0 m42_1) f43 f44 f47 f48 f49 f50 f51 (bN 13 q54) (bN 120 q55) (bN 120 q56) f57 (bN 120 q58) f59 f60 f64) := by rw [← eq_26]; exact hD
    have hsp := hsp.trans (slet_eq xq_26)
    refine lv_aload_n hx hb dX9_readEdge_49 rfl (lv_at hl 0 rfl) ?_
    refine va_get (D := (dC, dI)) (ci := 9) (v := .ref (ad 7)) (C := RX9) (T := TX9) (N := 67) hx hb hts hiX9 hown hK hP 0 rfl rfl 7 (by decide) v_14 (fun _ h9 => h9) rfl dX9_readEdge_50 ?_
    refine lv_iload_n hx hb dX9_readEdge_53 rfl (lv_at hl 1 rfl) ?_
    refine lv_iconst (v := 0) hx hb dX9_readEdge_54 (by decide) ?_
    refine va_iast hx hb hK hP hD hS 7 6 rfl rfl (vp_in_nI (n := (14 + m14_1)) (by omega) (Nat.le_of_ble_eq_true rfl)) dX9_readEdge_55 (fun H locs hP hD hS => ?_)
    obtain ⟨q_27, eq_27, kq_27, oq_27, xq_27⟩ := bN_upx 4 q7 (n := (14 + m14_1)) (v := 0) (by omega) (Nat.le_of_ble_eq_true rfl)
    have hP : va_P (dC, dI) vwCl (mo_w ad ck x0 (nI x16) (nI x18) (nI x19) g_15 (nI g_16) (nI g_17) g_18 x24 x25 (nI g_19) g_20 1 (nI x29) (nI x30) (nI x33) x45 (nI x46) (nI x52) (nI x53) (nI x61) (nI x62) (nI x63) (nI x65) x66 f1 f2 f3 (bN 3 q4) (bN 7 q_12) (bN 7 q_26) (bN 4 q_27) f8 (bN 2 q9) (bH q10) f11 (b2 m12_0 m12_1) (b2 m13_0 m13_1) (b2 m14_0 m14_1) (b2m m15_0 m15_1) f17 (bA 159 q31) f32 f34 f35 f36 f37 (bN 7 q38) f39 f40 f41 (b2 m42_0 m42_1) f43 f44 f47 f48 f49 f50 f51 (bN 13 q54) (bN 120 q55) (bN 120 q56) f57 (bN 120 q58) f59 f60 f64) H := by rw [← eq_27]; exact hP
    have hD : va_D A (mo_w ad ck x0 (nI x16) (nI x18) (nI x19) g_15 (nI g_16) (nI g_17) g_18 x24 x25 (nI g_19) g_20 1 (nI x29) (nI x30) (nI x33) x45 (nI x46) (nI x52) (nI x53) (nI x61) (nI x62) (nI x63) (nI x65) x66 f1 f2 f3 (bN 3 q4) (bN 7 q_12) (bN 7 q_26) (bN 4 q_27) f8 (bN 2 q9) (bH q10) f11 (b2 m12_0 m12_1) (b2 m13_0 m13_1) (b2 m14_0 m14_1) (b2m m15_0 m15_1) f17 (bA 159 q31) f32 f34 f35 f36 f37 (bN 7 q38) f39 f40 f41 (b2 m42_0 m42_1) f43 f44 f47 f48 f49 f50 f51 (bN 13 q54) (bN 120 q55) (bN 120 q56) f57 (bN 120 q58) f59 f60 f64) := by rw [← eq_27]; exact hD
    have hsp := hsp.trans (slet_eq xq_27)
    refine lv_aload_n hx hb dX9_readEdge_56 rfl (lv_at hl 0 rfl) ?_
    refine va_get (D := (dC, dI)) (ci := 9) (v := .ref (ad 8)) (C := RX9) (T := TX9) (N := 67) hx hb hts hiX9 hown hK hP 0 rfl rfl 8 (by decide) v_15 (fun _ h9 => h9) rfl dX9_readEdge_57 ?_
    refine lv_iload_n hx hb dX9_readEdge_60 rfl (lv_at hl 1 rfl) ?_
    refine lv_iconst (v := 0) hx hb dX9_readEdge_61 (by decide) ?_
    refine va_iast hx hb hK hP hD hS 8 7 rfl rfl (vp_in_nI (n := (14 + m14_1)) (by omega) (Nat.le_of_ble_eq_true rfl)) dX9_readEdge_62 (fun H locs hP hD hS => ?_)
    obtain ⟨f_28, ef_28, xf_28⟩ := up_x f8 (n := (14 + m14_1)) 0 (by omega)
    have hP : va_P (dC, dI) vwCl (mo_w ad ck x0 (nI x16) (nI x18) (nI x19) g_15 (nI g_16) (nI g_17) g_18 x24 x25 (nI g_19) g_20 1 (nI x29) (nI x30) (nI x33) x45 (nI x46) (nI x52) (nI x53) (nI x61) (nI x62) (nI x63) (nI x65) x66 f1 f2 f3 (bN 3 q4) (bN 7 q_12) (bN 7 q_26) (bN 4 q_27) f_28 (bN 2 q9) (bH q10) f11 (b2 m12_0 m12_1) (b2 m13_0 m13_1) (b2 m14_0 m14_1) (b2m m15_0 m15_1) f17 (bA 159 q31) f32 f34 f35 f36 f37 (bN 7 q38) f39 f40 f41 (b2 m42_0 m42_1) f43 f44 f47 f48 f49 f50 f51 (bN 13 q54) (bN 120 q55) (bN 120 q56) f57 (bN 120 q58) f59 f60 f64) H := by rw [← ef_28]; exact hP
    have hD : va_D A (mo_w ad ck x0 (nI x16) (nI x18) (nI x19) g_15 (nI g_16) (nI g_17) g_18 x24 x25 (nI g_19) g_20 1 (nI x29) (nI x30) (nI x33) x45 (nI x46) (nI x52) (nI x53) (nI x61) (nI x62) (nI x63) (nI x65) x66 f1 f2 f3 (bN 3 q4) (bN 7 q_12) (bN 7 q_26) (bN 4 q_27) f_28 (bN 2 q9) (bH q10) f11 (b2 m12_0 m12_1) (b2 m13_0 m13_1) (b2 m14_0 m14_1) (b2m m15_0 m15_1) f17 (bA 159 q31) f32 f34 f35 f36 f37 (bN 7 q38) f39 f40 f41 (b2 m42_0 m42_1) f43 f44 f47 f48 f49 f50 f51 (bN 13 q54) (bN 120 q55) (bN 120 q56) f57 (bN 120 q58) f59 f60 f64) := by rw [← ef_28]; exact hD
    have hsp := hsp.trans (slet_eq xf_28)
    obtain ⟨lf_52, dlf_52, hlf_52, hsp⟩ := itr_ex hsp
    delta sp_EM_readEdge_1_L3 at hlf_52
    refine pu_while (fun nn H locs ls => ∃ (g_40 : Nat → Nat) (g_41 : Nat → Int32) (g_42 : Nat → Nat) (g_43 : Nat → Nat) (g_44 : Int32) (g_45 : Nat) (g_46 : Nat) (g_47 : Int32) (g_48 : Nat) (g_49 : Int32), nn = mu g_45 g_46 ∧ g_45 ≤ 900 ∧ g_46 ≤ 4 ∧ g_48 ≤ 6 ∧ mu g_45 g_46 ≤ mu x21 x22 ∧ RR = itrv dlf_52 lf_52 (g_40, g_41, g_42, g_43, g_44, g_45, g_46, g_47, g_48, g_49) ∧ va_P (dC, dI) vwCl (mo_w ad ck x0 (nI x16) (nI x18) (nI x19) g_44 (nI g_45) (nI g_46) g_47 x24 x25 (nI g_48) g_49 1 (nI x29) (nI x30) (nI x33) x45 (nI x46) (nI x52) (nI x53) (nI x61) (nI x62) (nI x63) (nI x65) x66 f1 f2 f3 (bN 3 q4) (bN 7 q_12) (bN 7 q_26) (bN 4 g_42) f_28 (bN 2 g_43) (bH g_40) g_41 (b2 m12_0 m12_1) (b2 m13_0 m13_1) (b2 m14_0 m14_1) (b2m m15_0 m15_1) f17 (bA 159 q31) f32 f34 f35 f36 f37 (bN 7 q38) f39 f40 f41 (b2 m42_0 m42_1) f43 f44 f47 f48 f49 f50 f51 (bN 13 q54) (bN 120 q55) (bN 120 q56) f57 (bN 120 q58) f59 f60 f64) H ∧ va_D A (mo_w ad ck x0 (nI x16) (nI x18) (nI x19) g_44 (nI g_45) (nI g_46) g_47 x24 x25 (nI g_48) g_49 1 (nI x29) (nI x30) (nI x33) x45 (nI x46) (nI x52) (nI x53) (nI x61) (nI x62) (nI x63) (nI x65) x66 f1 f2 f3 (bN 3 q4) (bN 7 q_12) (bN 7 q_26) (bN 4 g_42) f_28 (bN 2 g_43) (bH g_40) g_41 (b2 m12_0 m12_1) (b2 m13_0 m13_1) (b2 m14_0 m14_1) (b2m m15_0 m15_1) f17 (bA 159 q31) f32 f34 f35 f36 f37 (bN 7 q38) f39 f40 f41 (b2 m42_0 m42_1) f43 f44 f47 f48 f49 f50 f51 (bN 13 q54) (bN 120 q55) (bN 120 q56) f57 (bN 120 q58) f59 f60 f64) ∧ va_S A s.heap H locs ∧ lv_has ls 3 [(0, .ref (ad 0)), (1, .int (nI (14 + m14_1)))]) 63 ?_ _ _ _ _ ⟨q10, f11, q_27, q9, g_15, g_16, g_17, g_18, g_19, g_20, rfl, hg_16, hg_17, hg_19, by omega, hsp, hP, hD, hS, lv_sub hl [0, 1] rfl⟩
    rintro nn ih_51 H locs ls ⟨g_40, g_41, g_42, g_43, g_44, g_45, g_46, g_47, g_48, g_49, rfl, hg_45, hg_46, hg_48, he_50, he_54, hP, hD, hS, hl⟩
    obtain ⟨S_53, hsp, hin_55, hout_56⟩ := itr_step hlf_52 he_54
    refine lv_aload_n hx hb dX9_readEdge_63 rfl (lv_at hl 0 rfl) ?_
    refine va_calli (va_runV (As := []) (rest := []) ⟨hx, hb, hml, hown, hts⟩ (c_EM_isGood l dC dI _ ad ck x0 x16 x18 x19 g_44 g_45 g_46 g_47 x24 x25 g_48 g_49 1 x29 x30 x33 x45 x46 x52 x53 x61 x62 x63 x65 x66 f1 f2 f3 q4 q_12 q_26 g_42 f_28 g_43 g_40 g_41 m12_0 m12_1 m13_0 m13_1 m14_0 m14_1 m15_0 m15_1 f17 q31 f32 f34 f35 f36 f37 q38 f39 f40 f41 m42_0 m42_1 f43 f44 f47 f48 f49 f50 f51 q54 q55 q56 f57 q58 f59 f60 f64 hx16 hx18 hx19 hg_45 hg_46 hg_48 (Nat.le_of_ble_eq_true rfl) hx29 hx30 hx33 hx46 hx52 hx53 hx61 hx62 hx63 hx65 hm12_0 hm12_1 hm13_0 hm13_1 hm14_0 (Nat.le_trans hm14_1 (Nat.le_of_ble_eq_true rfl)) hm15_0 hm15_1 hm42_0 hm42_1) (cwV 0 hts g_EM_readEdge_1_EM_isGood rfl rfl rfl (by decide +kernel) ⟨Nat.le_of_ble_eq_true rfl, Nat.le_of_ble_eq_true rfl⟩) ⟨pu_bl, va_recv hK hP (ci := 9) (q0 := 0) rfl rfl, pu_in hP hK hD⟩ rfl rfl hl.1 rfl (lv_room (Nat.le_of_ble_eq_true rfl)) dX9_readEdge_64 ⟨Nat.le_of_ble_eq_true rfl, Nat.le_of_ble_eq_true rfl⟩) hS (fun q _ h => pu_fr hS hA q h) (pu_fr hS hA) (fun r_57 u t H1 locs ht hvm hw hB hz1 hk1 hS => ?_)
    have hP := pu_keep hP hk1
    clear hk1 hz1 ht hvm
    generalize H1 = H at hP hS ⊢
    obtain ⟨u_58, hu_58, rfl, ju_58, iu_58⟩ := hw
    have hsp := hsp.trans (slet_eq iu_58)
    refine lv_if_eq (tgt := 139) hx hb dX9_readEdge_67 (by decide) (fun c_59 => ?_) (fun c_59 => ?_)
    · have c_59 : u_58 = 0 := (nI_eq (a := u_58) (b := 0) (Nat.lt_of_le_of_lt hu_58 (Nat.le_of_ble_eq_true rfl)) (Nat.le_of_ble_eq_true rfl)).mp c_59
      have hsp := hsp.trans (if_pos c_59)
      have hsp := hout_56 _ hsp
      obtain ⟨JR_69, hJR_69, hsp⟩ := slet_ex hsp
      refine pu_join (fun H locs ls st => ∃ (g_60 : Int32) (g_61 : Nat) (g_62 : Nat) (g_63 : Int32) (g_64 : Nat) (g_65 : Int32) (g_66 : Nat → Int32), st = [] ∧ g_61 ≤ 900 ∧ g_62 ≤ 4 ∧ g_64 ≤ 6 ∧ mu g_61 g_62 ≤ mu x21 x22 ∧ (g_60, g_61, g_62, g_63, g_64, g_65, g_66) = JR_69 ∧ va_P (dC, dI) vwCl (mo_w ad ck x0 (nI x16) (nI x18) (nI x19) g_60 (nI g_61) (nI g_62) g_63 x24 x25 (nI g_64) g_65 1 (nI x29) (nI x30) (nI x33) x45 (nI x46) (nI x52) (nI x53) (nI x61) (nI x62) (nI x63) (nI x65) x66 f1 f2 f3 (bN 3 q4) (bN 7 q_12) (bN 7 q_26) (bN 4 g_42) g_66 (bN 2 g_43) (bH g_40) g_41 (b2 m12_0 m12_1) (b2 m13_0 m13_1) (b2 m14_0 m14_1) (b2m m15_0 m15_1) f17 (bA 159 q31) f32 f34 f35 f36 f37 (bN 7 q38) f39 f40 f41 (b2 m42_0 m42_1) f43 f44 f47 f48 f49 f50 f51 (bN 13 q54) (bN 120 q55) (bN 120 q56) f57 (bN 120 q58) f59 f60 f64) H ∧ va_D A (mo_w ad ck x0 (nI x16) (nI x18) (nI x19) g_60 (nI g_61) (nI g_62) g_63 x24 x25 (nI g_64) g_65 1 (nI x29) (nI x30) (nI x33) x45 (nI x46) (nI x52) (nI x53) (nI x61) (nI x62) (nI x63) (nI x65) x66 f1 f2 f3 (bN 3 q4) (bN 7 q_12) (bN 7 q_26) (bN 4 g_42) g_66 (bN 2 g_43) (bH g_40) g_41 (b2 m12_0 m12_1) (b2 m13_0 m13_1) (b2 m14_0 m14_1) (b2m m15_0 m15_1) f17 (bA 159 q31) f32 f34 f35 f36 f37 (bN 7 q38) f39 f40 f41 (b2 m42_0 m42_1) f43 f44 f47 f48 f49 f50 f51 (bN 13 q54) (bN 120 q55) (bN 120 q56) f57 (bN 120 q58) f59 f60 f64) ∧ va_S A s.heap H locs ∧ lv_has ls 3 [(0, .ref (ad 0)), (1, .int (nI (14 + m14_1)))]) 215 ?_ (fun j_68 => ?_)
      · rintro H locs ls st ⟨g_60, g_61, g_62, g_63, g_64, g_65, g_66, rfl, hg_61, hg_62, hg_64, he_67, he_70, hP, hD, hS, hl⟩
        rw [← he_70] at hsp
        refine lv_aload_n hx hb dX9_readEdge_215 rfl (lv_at hl 0 rfl) ?_
        refine va_get (D := (dC, dI)) (ci := 9) (v := .ref (ad 14)) (C := RX9) (T := TX9) (N := 67) hx hb hts hiX9 hown hK hP 0 rfl rfl 14 (by decide) v_2 (fun _ h9 => h9) rfl dX9_readEdge_216 ?_
        refine lv_aload_n hx hb dX9_readEdge_219 rfl (lv_at hl 0 rfl) ?_
        refine va_get (D := (dC, dI)) (ci := 9) (v := .int 1) (C := RX9) (T := TX9) (N := 67) hx hb hts hiX9 hown hK hP 0 rfl rfl 28 (by decide) v_1 (fun _ h9 => h9) rfl dX9_readEdge_220 ?_
        refine lv_dup2_11 hx hb dX9_readEdge_223 rfl rfl ?_
        refine va_iald hx hb hK hP 14 13 rfl rfl (vp_in_nI (n := 1) (Nat.le_of_ble_eq_true rfl) (Nat.le_of_ble_eq_true rfl)) dX9_readEdge_224 ?_
        refine lv_topi (fun y_71 ey_71 => ?_)
        have qy_71 := ey_71.trans b2_1
        clear ey_71
        obtain rfl : y_71 = nI m14_1 := qy_71
        refine lv_iconst (v := 1) hx hb dX9_readEdge_225 (by decide) ?_
        refine lv_iadd hx hb dX9_readEdge_226 ?_
        refine lv_topi (fun y_72 ey_72 => ?_)
        obtain rfl : y_72 = (nI (m14_1 + 1)) := ey_72.trans (nI_add m14_1 1)
        refine va_iast hx hb hK hP hD hS 14 13 rfl rfl (vp_in_nI (n := 1) (Nat.le_of_ble_eq_true rfl) (Nat.le_of_ble_eq_true rfl)) dX9_readEdge_227 (fun H locs hP hD hS => ?_)
        have hP : va_P (dC, dI) vwCl (mo_w ad ck x0 (nI x16) (nI x18) (nI x19) g_60 (nI g_61) (nI g_62) g_63 x24 x25 (nI g_64) g_65 1 (nI x29) (nI x30) (nI x33) x45 (nI x46) (nI x52) (nI x53) (nI x61) (nI x62) (nI x63) (nI x65) x66 f1 f2 f3 (bN 3 q4) (bN 7 q_12) (bN 7 q_26) (bN 4 g_42) g_66 (bN 2 g_43) (bH g_40) g_41 (b2 m12_0 m12_1) (b2 m13_0 m13_1) (b2 m14_0 (m14_1 + 1)) (b2m m15_0 m15_1) f17 (bA 159 q31) f32 f34 f35 f36 f37 (bN 7 q38) f39 f40 f41 (b2 m42_0 m42_1) f43 f44 f47 f48 f49 f50 f51 (bN 13 q54) (bN 120 q55) (bN 120 q56) f57 (bN 120 q58) f59 f60 f64) H := by rw [← b2_up1 (a := m14_0) (b := m14_1) (v := (m14_1 + 1))]; exact hP
        have hD : va_D A (mo_w ad ck x0 (nI x16) (nI x18) (nI x19) g_60 (nI g_61) (nI g_62) g_63 x24 x25 (nI g_64) g_65 1 (nI x29) (nI x30) (nI x33) x45 (nI x46) (nI x52) (nI x53) (nI x61) (nI x62) (nI x63) (nI x65) x66 f1 f2 f3 (bN 3 q4) (bN 7 q_12) (bN 7 q_26) (bN 4 g_42) g_66 (bN 2 g_43) (bH g_40) g_41 (b2 m12_0 m12_1) (b2 m13_0 m13_1) (b2 m14_0 (m14_1 + 1)) (b2m m15_0 m15_1) f17 (bA 159 q31) f32 f34 f35 f36 f37 (bN 7 q38) f39 f40 f41 (b2 m42_0 m42_1) f43 f44 f47 f48 f49 f50 f51 (bN 13 q54) (bN 120 q55) (bN 120 q56) f57 (bN 120 q58) f59 f60 f64) := by rw [← b2_up1 (a := m14_0) (b := m14_1) (v := (m14_1 + 1))]; exact hD
        exact W.vret hx hb hr (fun t ht hW => ⟨⟨(), rfl, trivial, ⟨g_40, g_41, q_12, q_26, g_42, g_66, g_43, (m14_1 + 1), g_60, g_61, g_62, g_63, g_64, g_65, ⟨by rw [ht]; exact hP, va_K.moved hW.alike hK, hD⟩, (by omega), hg_61, hg_62, hg_64, by omega, (hsp.symm.trans hRR)⟩⟩, hS.F ht⟩) hS.2.2 dX9_readEdge_228
      have hsp := hJR_69
      obtain ⟨lf_90, dlf_90, hlf_90, hsp⟩ := itr_ex hsp
      delta sp_EM_readEdge_1_L1 at hlf_90
      refine pu_while (fun nn H locs ls => ∃ (g_81 : Nat → Int32) (g_82 : Int32) (g_83 : Nat) (g_84 : Nat) (g_85 : Int32) (g_86 : Nat) (g_87 : Int32), nn = mu g_83 g_84 ∧ g_83 ≤ 900 ∧ g_84 ≤ 4 ∧ g_86 ≤ 6 ∧ mu g_83 g_84 ≤ mu x21 x22 ∧ JR_69 = itrv dlf_90 lf_90 (g_81, g_82, g_83, g_84, g_85, g_86, g_87) ∧ va_P (dC, dI) vwCl (mo_w ad ck x0 (nI x16) (nI x18) (nI x19) g_82 (nI g_83) (nI g_84) g_85 x24 x25 (nI g_86) g_87 1 (nI x29) (nI x30) (nI x33) x45 (nI x46) (nI x52) (nI x53) (nI x61) (nI x62) (nI x63) (nI x65) x66 f1 f2 f3 (bN 3 q4) (bN 7 q_12) (bN 7 q_26) (bN 4 g_42) g_81 (bN 2 g_43) (bH g_40) g_41 (b2 m12_0 m12_1) (b2 m13_0 m13_1) (b2 m14_0 m14_1) (b2m m15_0 m15_1) f17 (bA 159 q31) f32 f34 f35 f36 f37 (bN 7 q38) f39 f40 f41 (b2 m42_0 m42_1) f43 f44 f47 f48 f49 f50 f51 (bN 13 q54) (bN 120 q55) (bN 120 q56) f57 (bN 120 q58) f59 f60 f64) H ∧ va_D A (mo_w ad ck x0 (nI x16) (nI x18) (nI x19) g_82 (nI g_83) (nI g_84) g_85 x24 x25 (nI g_86) g_87 1 (nI x29) (nI x30) (nI x33) x45 (nI x46) (nI x52) (nI x53) (nI x61) (nI x62) (nI x63) (nI x65) x66 f1 f2 f3 (bN 3 q4) (bN 7 q_12) (bN 7 q_26) (bN 4 g_42) g_81 (bN 2 g_43) (bH g_40) g_41 (b2 m12_0 m12_1) (b2 m13_0 m13_1) (b2 m14_0 m14_1) (b2m m15_0 m15_1) f17 (bA 159 q31) f32 f34 f35 f36 f37 (bN 7 q38) f39 f40 f41 (b2 m42_0 m42_1) f43 f44 f47 f48 f49 f50 f51 (bN 13 q54) (bN 120 q55) (bN 120 q56) f57 (bN 120 q58) f59 f60 f64) ∧ va_S A s.heap H locs ∧ lv_has ls 3 [(0, .ref (ad 0)), (1, .int (nI (14 + m14_1)))]) 139 ?_ _ _ _ _ ⟨f_28, g_44, g_45, g_46, g_47, g_48, g_49, rfl, hg_45, hg_46, hg_48, by omega, hsp, hP, hD, hS, lv_sub hl [0, 1] rfl⟩
      rintro nn ih_89 H locs ls ⟨g_81, g_82, g_83, g_84, g_85, g_86, g_87, rfl, hg_83, hg_84, hg_86, he_88, he_92, hP, hD, hS, hl⟩
      obtain ⟨S_91, hsp, hin_93, hout_94⟩ := itr_step hlf_90 he_92
      refine lv_aload_n hx hb dX9_readEdge_139 rfl (lv_at hl 0 rfl) ?_
      refine va_calli (va_runV (As := []) (rest := []) ⟨hx, hb, hml, hown, hts⟩ (c_EM_isGood l dC dI _ ad ck x0 x16 x18 x19 g_82 g_83 g_84 g_85 x24 x25 g_86 g_87 1 x29 x30 x33 x45 x46 x52 x53 x61 x62 x63 x65 x66 f1 f2 f3 q4 q_12 q_26 g_42 g_81 g_43 g_40 g_41 m12_0 m12_1 m13_0 m13_1 m14_0 m14_1 m15_0 m15_1 f17 q31 f32 f34 f35 f36 f37 q38 f39 f40 f41 m42_0 m42_1 f43 f44 f47 f48 f49 f50 f51 q54 q55 q56 f57 q58 f59 f60 f64 hx16 hx18 hx19 hg_83 hg_84 hg_86 (Nat.le_of_ble_eq_true rfl) hx29 hx30 hx33 hx46 hx52 hx53 hx61 hx62 hx63 hx65 hm12_0 hm12_1 hm13_0 hm13_1 hm14_0 (Nat.le_trans hm14_1 (Nat.le_of_ble_eq_true rfl)) hm15_0 hm15_1 hm42_0 hm42_1) (cwV 0 hts g_EM_readEdge_1_EM_isGood rfl rfl rfl (by decide +kernel) ⟨Nat.le_of_ble_eq_true rfl, Nat.le_of_ble_eq_true rfl⟩) ⟨pu_bl, va_recv hK hP (ci := 9) (q0 := 0) rfl rfl, pu_in hP hK hD⟩ rfl rfl hl.1 rfl (lv_room (Nat.le_of_ble_eq_true rfl)) dX9_readEdge_140 ⟨Nat.le_of_ble_eq_true rfl, Nat.le_of_ble_eq_true rfl⟩) hS (fun q _ h => pu_fr hS hA q h) (pu_fr hS hA) (fun r_95 u t H1 locs ht hvm hw hB hz1 hk1 hS => ?_)
      have hP := pu_keep hP hk1
      clear hk1 hz1 ht hvm
      generalize H1 = H at hP hS ⊢
      obtain ⟨u_96, hu_96, rfl, ju_96, iu_96⟩ := hw
      have hsp := hsp.trans (slet_eq iu_96)
      refine lv_if_eq (tgt := 215) hx hb dX9_readEdge_143 (by decide) (fun c_97 => ?_) (fun c_97 => ?_)
      · have c_97 : u_96 = 0 := (nI_eq (a := u_96) (b := 0) (Nat.lt_of_le_of_lt hu_96 (Nat.le_of_ble_eq_true rfl)) (Nat.le_of_ble_eq_true rfl)).mp c_97
        have hsp := hsp.trans (if_pos c_97)
        have hsp := hout_94 _ hsp
        exact j_68 _ _ _ _ ⟨g_82, g_83, g_84, g_85, g_86, g_87, g_81, rfl, hg_83, hg_84, hg_86, by omega, hsp.symm, hP, hD, hS, lv_sub hl [0, 1] rfl⟩
      · have c_97 : ¬ u_96 = 0 := fun z => c_97 ((nI_eq (a := u_96) (b := 0) (Nat.lt_of_le_of_lt hu_96 (Nat.le_of_ble_eq_true rfl)) (Nat.le_of_ble_eq_true rfl)).mpr z)
        have hsp := hsp.trans (if_neg c_97)
        refine lv_aload_n hx hb dX9_readEdge_146 rfl (lv_at hl 0 rfl) ?_
        refine lv_ldc hx hb hown v_16 dX9_readEdge_147 ?_
        refine va_calli (va_runV (As := [.int 19057844]) (rest := []) ⟨hx, hb, hml, hown, hts⟩ (c_EM_isWord l dC dI _ ad ck x0 x16 x18 x19 g_82 g_83 g_84 g_85 x24 x25 g_86 g_87 1 x29 x30 x33 x45 x46 x52 x53 x61 x62 x63 x65 x66 f1 f2 f3 q4 q_12 q_26 g_42 g_81 g_43 g_40 g_41 m12_0 m12_1 m13_0 m13_1 m14_0 m14_1 m15_0 m15_1 f17 q31 f32 f34 f35 f36 f37 q38 f39 f40 f41 m42_0 m42_1 f43 f44 f47 f48 f49 f50 f51 q54 q55 q56 f57 q58 f59 f60 f64 19057844 hx16 hx18 hx19 hg_83 hg_84 hg_86 (Nat.le_of_ble_eq_true rfl) hx29 hx30 hx33 hx46 hx52 hx53 hx61 hx62 hx63 hx65 hm12_0 hm12_1 hm13_0 hm13_1 hm14_0 (Nat.le_trans hm14_1 (Nat.le_of_ble_eq_true rfl)) hm15_0 hm15_1 hm42_0 hm42_1) (cwV 1 hts g_EM_readEdge_1_EM_isWord rfl rfl rfl (by decide +kernel) ⟨Nat.le_of_ble_eq_true rfl, Nat.le_of_ble_eq_true rfl⟩) ⟨pu_bl, va_recv hK hP (ci := 9) (q0 := 0) rfl rfl, pu_in hP hK hD⟩ rfl rfl hl.1 rfl (lv_room (Nat.le_of_ble_eq_true rfl)) dX9_readEdge_149 ⟨Nat.le_of_ble_eq_true rfl, Nat.le_of_ble_eq_true rfl⟩) hS (fun q _ h => pu_fr hS hA q h) (pu_fr hS hA) (fun r_98 u t H1 locs ht hvm hw hB hz1 hk1 hS => ?_)
        have hP := pu_keep hP hk1
        clear hk1 hz1 ht hvm
        generalize H1 = H at hP hS ⊢
        obtain ⟨u_99, hu_99, rfl, ju_99, iu_99⟩ := hw
        have hsp := hsp.trans (slet_eq iu_99)
        refine lv_if_eq (tgt := 215) hx hb dX9_readEdge_152 (by decide) (fun c_100 => ?_) (fun c_100 => ?_)
        · have c_100 : u_99 = 0 := (nI_eq (a := u_99) (b := 0) (Nat.lt_of_le_of_lt hu_99 (Nat.le_of_ble_eq_true rfl)) (Nat.le_of_ble_eq_true rfl)).mp c_100
          have hsp := hsp.trans (if_pos c_100)
          have hsp := hout_94 _ hsp
          exact j_68 _ _ _ _ ⟨g_82, g_83, g_84, g_85, g_86, g_87, g_81, rfl, hg_83, hg_84, hg_86, by omega, hsp.symm, hP, hD, hS, lv_sub hl [0, 1] rfl⟩
        · have c_100 : ¬ u_99 = 0 := fun z => c_100 ((nI_eq (a := u_99) (b := 0) (Nat.lt_of_le_of_lt hu_99 (Nat.le_of_ble_eq_true rfl)) (Nat.le_of_ble_eq_true rfl)).mpr z)
          have hsp := hsp.trans (if_neg c_100)
          refine lv_aload_n hx hb dX9_readEdge_155 rfl (lv_at hl 0 rfl) ?_
          have hFc := pu_free hD hS hA
          refine va_callv (va_runV (As := []) (rest := []) ⟨hx, hb, hml, hown, hts⟩ (c_EM_next l dC dI _ ad ck x0 x16 x18 x19 g_82 g_83 g_84 g_85 x24 x25 g_86 g_87 1 x29 x30 x33 x45 x46 x52 x53 x61 x62 x63 x65 x66 f1 f2 f3 q4 q_12 q_26 g_42 g_81 g_43 g_40 g_41 m12_0 m12_1 m13_0 m13_1 m14_0 m14_1 m15_0 m15_1 f17 q31 f32 f34 f35 f36 f37 q38 f39 f40 f41 m42_0 m42_1 f43 f44 f47 f48 f49 f50 f51 q54 q55 q56 f57 q58 f59 f60 f64 hx16 hx18 hx19 hg_83 hg_84 hg_86 (Nat.le_of_ble_eq_true rfl) hx29 hx30 hx33 hx46 hx52 hx53 hx61 hx62 hx63 hx65 hm12_0 hm12_1 hm13_0 hm13_1 hm14_0 (Nat.le_trans hm14_1 (Nat.le_of_ble_eq_true rfl)) hm15_0 hm15_1 hm42_0 hm42_1) (cwV 0 hts g_EM_readEdge_1_EM_next rfl rfl rfl (by decide +kernel) ⟨Nat.le_of_ble_eq_true rfl, Nat.le_of_ble_eq_true rfl⟩) ⟨pu_bl, va_recv hK hP (ci := 9) (q0 := 0) rfl rfl, pu_in hP hK hD⟩ rfl rfl hl.1 rfl (lv_room (Nat.le_of_ble_eq_true rfl)) dX9_readEdge_156 ⟨Nat.le_of_ble_eq_true rfl, Nat.le_of_ble_eq_true rfl⟩) hS (fun q _ h => hFc q h) hFc (fun u t H1 locs ht hvm hw hB hz1 hk1 hS => ?_)
          obtain ⟨z20_102, z21_103, z22_104, z23_105, ⟨hP1, -, hD1⟩, hz21_103, hz22_104, xr_101_0, xr_101_1, xr_101_2⟩ := hB
          rw [ht] at hP1
          have hP := hP1
          have hD := pu_all hFc hD1
          clear hP1 hD1 hFc
          clear hk1 hz1 ht hvm
          generalize H1 = H at hP hS ⊢
          have hsp := hsp.trans (slet_eq xr_101_2)
          refine lv_aload_n hx hb dX9_readEdge_159 rfl (lv_at hl 0 rfl) ?_
          have hFc := pu_free hD hS hA
          refine va_calli (va_runV (As := []) (rest := []) ⟨hx, hb, hml, hown, hts⟩ (c_EM_toldClock_1 l dC dI _ ad ck x0 x16 x18 x19 z20_102 z21_103 z22_104 z23_105 x24 x25 g_86 g_87 x29 x30 x33 x45 x46 x52 x53 x61 x62 x63 x65 x66 f1 f2 f3 q4 q_12 q_26 g_42 g_81 g_43 g_40 g_41 m12_0 m12_1 m13_0 m13_1 m14_0 m14_1 m15_0 m15_1 f17 q31 f32 f34 f35 f36 f37 q38 f39 f40 f41 m42_0 m42_1 f43 f44 f47 f48 f49 f50 f51 q54 q55 q56 f57 q58 f59 f60 f64 hx16 hx18 hx19 hz21_103 hz22_104 hg_86 hx29 hx30 hx33 hx46 hx52 hx53 hx61 hx62 hx63 hx65 hm12_0 hm12_1 hm13_0 hm13_1 hm14_0 (Nat.le_trans hm14_1 (Nat.le_of_ble_eq_true rfl)) hm15_0 hm15_1 hm42_0 hm42_1) (cwV 0 hts g_EM_readEdge_1_EM_toldClock_1 rfl rfl rfl (by decide +kernel) ⟨Nat.le_of_ble_eq_true rfl, Nat.le_of_ble_eq_true rfl⟩) ⟨pu_bl, va_recv hK hP (ci := 9) (q0 := 0) rfl rfl, pu_in hP hK hD⟩ rfl rfl hl.1 rfl (lv_room (Nat.le_of_ble_eq_true rfl)) dX9_readEdge_160 ⟨Nat.le_of_ble_eq_true rfl, Nat.le_of_ble_eq_true rfl⟩) hS (fun q _ h => hFc q h) hFc (fun r_106 u t H1 locs ht hvm hw hB hz1 hk1 hS => ?_)
          obtain ⟨z26_107, z27_108, ⟨hP1, -, hD1⟩, hz26_107, xr_106_0⟩ := hB
          rw [ht] at hP1
          have hP := hP1
          have hD := pu_all hFc hD1
          clear hP1 hD1 hFc
          clear hk1 hz1 ht hvm
          generalize H1 = H at hP hS ⊢
          obtain ⟨u_109, hu_109, rfl, iu_109⟩ := hw
          have iu_109 : (u_109, z26_107, z27_108) = (sp_EM_toldClock_1 z20_102 z22_104 z23_105 g_86 g_87 f1 m12_1) := Prod.ext iu_109 xr_106_0
          have hsp := hsp.trans (slet_eq iu_109)
          refine lv_istore_n (lv' := [(2, .int (nI u_109)), (0, .ref (ad 0)), (1, .int (nI (14 + m14_1)))]) hx hb dX9_readEdge_163 rfl hl (by decide) rfl (fun ls hl => ?_)
          refine lv_aload_n hx hb dX9_readEdge_164 rfl (lv_at hl 1 rfl) ?_
          refine va_calli (va_runV (As := []) (rest := []) ⟨hx, hb, hml, hown, hts⟩ (c_EM_isGood l dC dI _ ad ck x0 x16 x18 x19 z20_102 z21_103 z22_104 z23_105 x24 x25 z26_107 z27_108 1 x29 x30 x33 x45 x46 x52 x53 x61 x62 x63 x65 x66 f1 f2 f3 q4 q_12 q_26 g_42 g_81 g_43 g_40 g_41 m12_0 m12_1 m13_0 m13_1 m14_0 m14_1 m15_0 m15_1 f17 q31 f32 f34 f35 f36 f37 q38 f39 f40 f41 m42_0 m42_1 f43 f44 f47 f48 f49 f50 f51 q54 q55 q56 f57 q58 f59 f60 f64 hx16 hx18 hx19 hz21_103 hz22_104 hz26_107 (Nat.le_of_ble_eq_true rfl) hx29 hx30 hx33 hx46 hx52 hx53 hx61 hx62 hx63 hx65 hm12_0 hm12_1 hm13_0 hm13_1 hm14_0 (Nat.le_trans hm14_1 (Nat.le_of_ble_eq_true rfl)) hm15_0 hm15_1 hm42_0 hm42_1) (cwV 0 hts g_EM_readEdge_1_EM_isGood rfl rfl rfl (by decide +kernel) ⟨Nat.le_of_ble_eq_true rfl, Nat.le_of_ble_eq_true rfl⟩) ⟨pu_bl, va_recv hK hP (ci := 9) (q0 := 0) rfl rfl, pu_in hP hK hD⟩ rfl rfl hl.1 rfl (lv_room (Nat.le_of_ble_eq_true rfl)) dX9_readEdge_165 ⟨Nat.le_of_ble_eq_true rfl, Nat.le_of_ble_eq_true rfl⟩) hS (fun q _ h => pu_fr hS hA q h) (pu_fr hS hA) (fun r_110 u t H1 locs ht hvm hw hB hz1 hk1 hS => ?_)
          have hP := pu_keep hP hk1
          clear hk1 hz1 ht hvm
          generalize H1 = H at hP hS ⊢
          obtain ⟨u_111, hu_111, rfl, ju_111, iu_111⟩ := hw
          have hsp := hsp.trans (slet_eq iu_111)
          obtain ⟨JR_117, hJR_117, hsp⟩ := slet_ex hsp
          refine pu_join (fun H locs ls st => ∃ (g_112 : Nat) (g_113 : Int32), st = [] ∧ g_112 ≤ 6 ∧ mu z21_103 z22_104 ≤ mu x21 x22 ∧ mu z21_103 z22_104 < mu g_83 g_84 ∧ (g_112, g_113) = JR_117 ∧ va_P (dC, dI) vwCl (mo_w ad ck x0 (nI x16) (nI x18) (nI x19) z20_102 (nI z21_103) (nI z22_104) z23_105 x24 x25 (nI g_112) g_113 1 (nI x29) (nI x30) (nI x33) x45 (nI x46) (nI x52) (nI x53) (nI x61) (nI x62) (nI x63) (nI x65) x66 f1 f2 f3 (bN 3 q4) (bN 7 q_12) (bN 7 q_26) (bN 4 g_42) g_81 (bN 2 g_43) (bH g_40) g_41 (b2 m12_0 m12_1) (b2 m13_0 m13_1) (b2 m14_0 m14_1) (b2m m15_0 m15_1) f17 (bA 159 q31) f32 f34 f35 f36 f37 (bN 7 q38) f39 f40 f41 (b2 m42_0 m42_1) f43 f44 f47 f48 f49 f50 f51 (bN 13 q54) (bN 120 q55) (bN 120 q56) f57 (bN 120 q58) f59 f60 f64) H ∧ va_D A (mo_w ad ck x0 (nI x16) (nI x18) (nI x19) z20_102 (nI z21_103) (nI z22_104) z23_105 x24 x25 (nI g_112) g_113 1 (nI x29) (nI x30) (nI x33) x45 (nI x46) (nI x52) (nI x53) (nI x61) (nI x62) (nI x63) (nI x65) x66 f1 f2 f3 (bN 3 q4) (bN 7 q_12) (bN 7 q_26) (bN 4 g_42) g_81 (bN 2 g_43) (bH g_40) g_41 (b2 m12_0 m12_1) (b2 m13_0 m13_1) (b2 m14_0 m14_1) (b2m m15_0 m15_1) f17 (bA 159 q31) f32 f34 f35 f36 f37 (bN 7 q38) f39 f40 f41 (b2 m42_0 m42_1) f43 f44 f47 f48 f49 f50 f51 (bN 13 q54) (bN 120 q55) (bN 120 q56) f57 (bN 120 q58) f59 f60 f64) ∧ va_S A s.heap H locs ∧ lv_has ls 3 [(0, .ref (ad 0)), (1, .int (nI (14 + m14_1))), (2, .int (nI u_109))]) 189 ?_ (fun j_116 => ?_)
          · rintro H locs ls st ⟨g_112, g_113, rfl, hg_112, he_114, he_115, he_118, hP, hD, hS, hl⟩
            rw [← he_118] at hsp
            refine lv_aload_n hx hb dX9_readEdge_189 rfl (lv_at hl 0 rfl) ?_
            refine va_get (D := (dC, dI)) (ci := 9) (v := .ref (ad 8)) (C := RX9) (T := TX9) (N := 67) hx hb hts hiX9 hown hK hP 0 rfl rfl 8 (by decide) v_15 (fun _ h9 => h9) rfl dX9_readEdge_190 ?_
            refine lv_iload_n hx hb dX9_readEdge_193 rfl (lv_at hl 1 rfl) ?_
            refine lv_dup2_11 hx hb dX9_readEdge_194 rfl rfl ?_
            refine va_iald hx hb hK hP 8 7 rfl rfl (vp_in_nI (n := (14 + m14_1)) (by omega) (Nat.le_of_ble_eq_true rfl)) dX9_readEdge_195 ?_
            refine lv_topi (fun y_119 ey_119 => ?_)
            have ey_119 : y_119 = g_81 (14 + m14_1) := ey_119.trans (congrArg g_81 (nI_clamp (n := (14 + m14_1)) (by omega)))
            have hsp := hsp.trans (slet_eq ey_119)
            refine lv_iconst (v := 1) hx hb dX9_readEdge_196 (by decide) ?_
            refine lv_iload_n hx hb dX9_readEdge_197 rfl (lv_at hl 2 rfl) ?_
            refine lv_ishl hx hb dX9_readEdge_198 ?_
            refine lv_topi (fun y_120 ey_120 => ?_)
            have hsp := hsp.trans (slet_eq ey_120)
            refine lv_ior hx hb dX9_readEdge_199 ?_
            refine lv_topi (fun y_121 ey_121 => ?_)
            have hsp := hsp.trans (slet_eq ey_121)
            refine va_iast hx hb hK hP hD hS 8 7 rfl rfl (vp_in_nI (n := (14 + m14_1)) (by omega) (Nat.le_of_ble_eq_true rfl)) dX9_readEdge_200 (fun H locs hP hD hS => ?_)
            obtain ⟨f_122, ef_122, xf_122⟩ := up_x g_81 (n := (14 + m14_1)) y_121 (by omega)
            have hP : va_P (dC, dI) vwCl (mo_w ad ck x0 (nI x16) (nI x18) (nI x19) z20_102 (nI z21_103) (nI z22_104) z23_105 x24 x25 (nI g_112) g_113 1 (nI x29) (nI x30) (nI x33) x45 (nI x46) (nI x52) (nI x53) (nI x61) (nI x62) (nI x63) (nI x65) x66 f1 f2 f3 (bN 3 q4) (bN 7 q_12) (bN 7 q_26) (bN 4 g_42) f_122 (bN 2 g_43) (bH g_40) g_41 (b2 m12_0 m12_1) (b2 m13_0 m13_1) (b2 m14_0 m14_1) (b2m m15_0 m15_1) f17 (bA 159 q31) f32 f34 f35 f36 f37 (bN 7 q38) f39 f40 f41 (b2 m42_0 m42_1) f43 f44 f47 f48 f49 f50 f51 (bN 13 q54) (bN 120 q55) (bN 120 q56) f57 (bN 120 q58) f59 f60 f64) H := by rw [← ef_122]; exact hP
            have hD : va_D A (mo_w ad ck x0 (nI x16) (nI x18) (nI x19) z20_102 (nI z21_103) (nI z22_104) z23_105 x24 x25 (nI g_112) g_113 1 (nI x29) (nI x30) (nI x33) x45 (nI x46) (nI x52) (nI x53) (nI x61) (nI x62) (nI x63) (nI x65) x66 f1 f2 f3 (bN 3 q4) (bN 7 q_12) (bN 7 q_26) (bN 4 g_42) f_122 (bN 2 g_43) (bH g_40) g_41 (b2 m12_0 m12_1) (b2 m13_0 m13_1) (b2 m14_0 m14_1) (b2m m15_0 m15_1) f17 (bA 159 q31) f32 f34 f35 f36 f37 (bN 7 q38) f39 f40 f41 (b2 m42_0 m42_1) f43 f44 f47 f48 f49 f50 f51 (bN 13 q54) (bN 120 q55) (bN 120 q56) f57 (bN 120 q58) f59 f60 f64) := by rw [← ef_122]; exact hD
            have hsp := hsp.trans (slet_eq xf_122)
            refine lv_aload_n hx hb dX9_readEdge_201 rfl (lv_at hl 0 rfl) ?_
            refine va_calli (va_runV (As := []) (rest := []) ⟨hx, hb, hml, hown, hts⟩ (c_EM_isGood l dC dI _ ad ck x0 x16 x18 x19 z20_102 z21_103 z22_104 z23_105 x24 x25 g_112 g_113 1 x29 x30 x33 x45 x46 x52 x53 x61 x62 x63 x65 x66 f1 f2 f3 q4 q_12 q_26 g_42 f_122 g_43 g_40 g_41 m12_0 m12_1 m13_0 m13_1 m14_0 m14_1 m15_0 m15_1 f17 q31 f32 f34 f35 f36 f37 q38 f39 f40 f41 m42_0 m42_1 f43 f44 f47 f48 f49 f50 f51 q54 q55 q56 f57 q58 f59 f60 f64 hx16 hx18 hx19 hz21_103 hz22_104 hg_112 (Nat.le_of_ble_eq_true rfl) hx29 hx30 hx33 hx46 hx52 hx53 hx61 hx62 hx63 hx65 hm12_0 hm12_1 hm13_0 hm13_1 hm14_0 (Nat.le_trans hm14_1 (Nat.le_of_ble_eq_true rfl)) hm15_0 hm15_1 hm42_0 hm42_1) (cwV 0 hts g_EM_readEdge_1_EM_isGood rfl rfl rfl (by decide +kernel) ⟨Nat.le_of_ble_eq_true rfl, Nat.le_of_ble_eq_true rfl⟩) ⟨pu_bl, va_recv hK hP (ci := 9) (q0 := 0) rfl rfl, pu_in hP hK hD⟩ rfl rfl hl.1 rfl (lv_room (Nat.le_of_ble_eq_true rfl)) dX9_readEdge_202 ⟨Nat.le_of_ble_eq_true rfl, Nat.le_of_ble_eq_true rfl⟩) hS (fun q _ h => pu_fr hS hA q h) (pu_fr hS hA) (fun r_123 u t H1 locs ht hvm hw hB hz1 hk1 hS => ?_)
            have hP := pu_keep hP hk1
            clear hk1 hz1 ht hvm
            generalize H1 = H at hP hS ⊢
            obtain ⟨u_124, hu_124, rfl, ju_124, iu_124⟩ := hw
            have hsp := hsp.trans (slet_eq iu_124)
            obtain ⟨JR_132, hJR_132, hsp⟩ := slet_ex hsp
            refine pu_join (fun H locs ls st => ∃ (g_125 : Int32) (g_126 : Nat) (g_127 : Nat) (g_128 : Int32), st = [] ∧ g_126 ≤ 900 ∧ g_127 ≤ 4 ∧ mu g_126 g_127 ≤ mu x21 x22 ∧ mu g_126 g_127 < mu g_83 g_84 ∧ (g_125, g_126, g_127, g_128) = JR_132 ∧ va_P (dC, dI) vwCl (mo_w ad ck x0 (nI x16) (nI x18) (nI x19) g_125 (nI g_126) (nI g_127) g_128 x24 x25 (nI g_112) g_113 1 (nI x29) (nI x30) (nI x33) x45 (nI x46) (nI x52) (nI x53) (nI x61) (nI x62) (nI x63) (nI x65) x66 f1 f2 f3 (bN 3 q4) (bN 7 q_12) (bN 7 q_26) (bN 4 g_42) f_122 (bN 2 g_43) (bH g_40) g_41 (b2 m12_0 m12_1) (b2 m13_0 m13_1) (b2 m14_0 m14_1) (b2m m15_0 m15_1) f17 (bA 159 q31) f32 f34 f35 f36 f37 (bN 7 q38) f39 f40 f41 (b2 m42_0 m42_1) f43 f44 f47 f48 f49 f50 f51 (bN 13 q54) (bN 120 q55) (bN 120 q56) f57 (bN 120 q58) f59 f60 f64) H ∧ va_D A (mo_w ad ck x0 (nI x16) (nI x18) (nI x19) g_125 (nI g_126) (nI g_127) g_128 x24 x25 (nI g_112) g_113 1 (nI x29) (nI x30) (nI x33) x45 (nI x46) (nI x52) (nI x53) (nI x61) (nI x62) (nI x63) (nI x65) x66 f1 f2 f3 (bN 3 q4) (bN 7 q_12) (bN 7 q_26) (bN 4 g_42) f_122 (bN 2 g_43) (bH g_40) g_41 (b2 m12_0 m12_1) (b2 m13_0 m13_1) (b2 m14_0 m14_1) (b2m m15_0 m15_1) f17 (bA 159 q31) f32 f34 f35 f36 f37 (bN 7 q38) f39 f40 f41 (b2 m42_0 m42_1) f43 f44 f47 f48 f49 f50 f51 (bN 13 q54) (bN 120 q55) (bN 120 q56) f57 (bN 120 q58) f59 f60 f64) ∧ va_S A s.heap H locs ∧ lv_has ls 3 [(0, .ref (ad 0)), (1, .int (nI (14 + m14_1))), (2, .int (nI u_109))]) 212 ?_ (fun j_131 => ?_)
            · rintro H locs ls st ⟨g_125, g_126, g_127, g_128, rfl, hg_126, hg_127, he_129, he_130, he_133, hP, hD, hS, hl⟩
              rw [← he_133] at hsp
              refine lv_goto (tgt := 139) hx hb dX9_readEdge_212 (by decide) ?_
              exact ih_89 (mu g_126 g_127) (by omega) _ _ _ ⟨f_122, g_125, g_126, g_127, g_128, g_112, g_113, rfl, hg_126, hg_127, hg_112, by omega, hin_93 _ hsp, hP, hD, hS, lv_sub hl [0, 1] rfl⟩
            have hsp := hJR_132
            refine lv_if_eq (tgt := 212) hx hb dX9_readEdge_205 (by decide) (fun c_134 => ?_) (fun c_134 => ?_)
            · have c_134 : u_124 = 0 := (nI_eq (a := u_124) (b := 0) (Nat.lt_of_le_of_lt hu_124 (Nat.le_of_ble_eq_true rfl)) (Nat.le_of_ble_eq_true rfl)).mp c_134
              have hsp := hsp.trans (if_pos c_134)
              exact j_131 _ _ _ _ ⟨z20_102, z21_103, z22_104, z23_105, rfl, hz21_103, hz22_104, by omega, by omega, hsp.symm, hP, hD, hS, lv_sub hl [0, 1, 2] rfl⟩
            · have c_134 : ¬ u_124 = 0 := fun z => c_134 ((nI_eq (a := u_124) (b := 0) (Nat.lt_of_le_of_lt hu_124 (Nat.le_of_ble_eq_true rfl)) (Nat.le_of_ble_eq_true rfl)).mpr z)
              have hsp := hsp.trans (if_neg c_134)
              refine lv_aload_n hx hb dX9_readEdge_208 rfl (lv_at hl 0 rfl) ?_
              have hFc := pu_free hD hS hA
              refine va_callv (va_runV (As := []) (rest := []) ⟨hx, hb, hml, hown, hts⟩ (c_EM_next l dC dI _ ad ck x0 x16 x18 x19 z20_102 z21_103 z22_104 z23_105 x24 x25 g_112 g_113 1 x29 x30 x33 x45 x46 x52 x53 x61 x62 x63 x65 x66 f1 f2 f3 q4 q_12 q_26 g_42 f_122 g_43 g_40 g_41 m12_0 m12_1 m13_0 m13_1 m14_0 m14_1 m15_0 m15_1 f17 q31 f32 f34 f35 f36 f37 q38 f39 f40 f41 m42_0 m42_1 f43 f44 f47 f48 f49 f50 f51 q54 q55 q56 f57 q58 f59 f60 f64 hx16 hx18 hx19 hz21_103 hz22_104 hg_112 (Nat.le_of_ble_eq_true rfl) hx29 hx30 hx33 hx46 hx52 hx53 hx61 hx62 hx63 hx65 hm12_0 hm12_1 hm13_0 hm13_1 hm14_0 (Nat.le_trans hm14_1 (Nat.le_of_ble_eq_true rfl)) hm15_0 hm15_1 hm42_0 hm42_1) (cwV 0 hts g_EM_readEdge_1_EM_next rfl rfl rfl (by decide +kernel) ⟨Nat.le_of_ble_eq_true rfl, Nat.le_of_ble_eq_true rfl⟩) ⟨pu_bl, va_recv hK hP (ci := 9) (q0 := 0) rfl rfl, pu_in hP hK hD⟩ rfl rfl hl.1 rfl (lv_room (Nat.le_of_ble_eq_true rfl)) dX9_readEdge_209 ⟨Nat.le_of_ble_eq_true rfl, Nat.le_of_ble_eq_true rfl⟩) hS (fun q _ h => hFc q h) hFc (fun u t H1 locs ht hvm hw hB hz1 hk1 hS => ?_)
              obtain ⟨z20_136, z21_137, z22_138, z23_139, ⟨hP1, -, hD1⟩, hz21_137, hz22_138, xr_135_0, xr_135_1, xr_135_2⟩ := hB
              rw [ht] at hP1
              have hP := hP1
              have hD := pu_all hFc hD1
              clear hP1 hD1 hFc
              clear hk1 hz1 ht hvm
              generalize H1 = H at hP hS ⊢
              have hsp := hsp.trans (slet_eq xr_135_2)
              exact j_131 _ _ _ _ ⟨z20_136, z21_137, z22_138, z23_139, rfl, hz21_137, hz22_138, by omega, by omega, hsp.symm, hP, hD, hS, lv_sub hl [0, 1, 2] rfl⟩
          have hsp := hJR_117
          refine lv_if_eq (tgt := 189) hx hb dX9_readEdge_168 (by decide) (fun c_140 => ?_) (fun c_140 => ?_)
          · have c_140 : u_111 = 0 := (nI_eq (a := u_111) (b := 0) (Nat.lt_of_le_of_lt hu_111 (Nat.le_of_ble_eq_true rfl)) (Nat.le_of_ble_eq_true rfl)).mp c_140
            have hsp := hsp.trans (if_pos c_140)
            exact j_116 _ _ _ _ ⟨z26_107, z27_108, rfl, hz26_107, by omega, by omega, hsp.symm, hP, hD, hS, lv_sub hl [1, 2, 0] rfl⟩
          · have c_140 : ¬ u_111 = 0 := fun z => c_140 ((nI_eq (a := u_111) (b := 0) (Nat.lt_of_le_of_lt hu_111 (Nat.le_of_ble_eq_true rfl)) (Nat.le_of_ble_eq_true rfl)).mpr z)
            have hsp := hsp.trans (if_neg c_140)
            refine lv_aload_n hx hb dX9_readEdge_171 rfl (lv_at hl 1 rfl) ?_
            refine va_get (D := (dC, dI)) (ci := 9) (v := .ref (ad 8)) (C := RX9) (T := TX9) (N := 67) hx hb hts hiX9 hown hK hP 0 rfl rfl 8 (by decide) v_15 (fun _ h9 => h9) rfl dX9_readEdge_172 ?_
            refine lv_iload_n hx hb dX9_readEdge_175 rfl (lv_at hl 2 rfl) ?_
            refine va_iald hx hb hK hP 8 7 rfl rfl (vp_in_nI (n := (14 + m14_1)) (by omega) (Nat.le_of_ble_eq_true rfl)) dX9_readEdge_176 ?_
            refine lv_topi (fun y_141 ey_141 => ?_)
            have ey_141 : y_141 = g_81 (14 + m14_1) := ey_141.trans (congrArg g_81 (nI_clamp (n := (14 + m14_1)) (by omega)))
            have hsp := hsp.trans (slet_eq ey_141)
            refine lv_iload_n hx hb dX9_readEdge_177 rfl (lv_at hl 0 rfl) ?_
            refine va_calli (va_runS (As := [.int y_141, .int (nI u_109)]) (rest := []) ⟨hx, hb, hml, hown, hts⟩ (c_EM_isOf l dC dI _ ad ck x0 x16 x18 x19 z20_102 z21_103 z22_104 z23_105 x24 x25 z26_107 z27_108 1 x29 x30 x33 x45 x46 x52 x53 x61 x62 x63 x65 x66 f1 f2 f3 q4 q_12 q_26 g_42 g_81 g_43 g_40 g_41 m12_0 m12_1 m13_0 m13_1 m14_0 m14_1 m15_0 m15_1 f17 q31 f32 f34 f35 f36 f37 q38 f39 f40 f41 m42_0 m42_1 f43 f44 f47 f48 f49 f50 f51 q54 q55 q56 f57 q58 f59 f60 f64 y_141 (nI u_109) hx16 hx18 hx19 hz21_103 hz22_104 hz26_107 (Nat.le_of_ble_eq_true rfl) hx29 hx30 hx33 hx46 hx52 hx53 hx61 hx62 hx63 hx65 hm12_0 hm12_1 hm13_0 hm13_1 hm14_0 (Nat.le_trans hm14_1 (Nat.le_of_ble_eq_true rfl)) hm15_0 hm15_1 hm42_0 hm42_1) (va_cwS 2 hts g_EM_readEdge_1_EM_isOf rfl rfl rfl (by decide +kernel) ⟨Nat.le_of_ble_eq_true rfl, Nat.le_of_ble_eq_true rfl⟩) ⟨pu_bl, pu_in hP hK hD⟩ rfl rfl hl.1 rfl (lv_room (Nat.le_of_ble_eq_true rfl)) dX9_readEdge_178 ⟨Nat.le_of_ble_eq_true rfl, Nat.le_of_ble_eq_true rfl⟩) hS (fun q _ h => pu_fr hS hA q h) (pu_fr hS hA) (fun r_142 u t H1 locs ht hvm hw hB hz1 hk1 hS => ?_)
            have hP := pu_keep hP hk1
            clear hk1 hz1 ht hvm
            generalize H1 = H at hP hS ⊢
            obtain ⟨u_143, hu_143, rfl, iu_143⟩ := hw
            have hsp := hsp.trans (slet_eq iu_143)
            refine lv_if_eq (tgt := 189) hx hb dX9_readEdge_181 (by decide) (fun c_144 => ?_) (fun c_144 => ?_)
            · have c_144 : u_143 = 0 := (nI_eq (a := u_143) (b := 0) (Nat.lt_of_le_of_lt hu_143 (Nat.le_of_ble_eq_true rfl)) (Nat.le_of_ble_eq_true rfl)).mp c_144
              have hsp := hsp.trans (if_pos c_144)
              exact j_116 _ _ _ _ ⟨z26_107, z27_108, rfl, hz26_107, by omega, by omega, hsp.symm, hP, hD, hS, lv_sub hl [1, 2, 0] rfl⟩
            · have c_144 : ¬ u_143 = 0 := fun z => c_144 ((nI_eq (a := u_143) (b := 0) (Nat.lt_of_le_of_lt hu_143 (Nat.le_of_ble_eq_true rfl)) (Nat.le_of_ble_eq_true rfl)).mpr z)
              have hsp := hsp.trans (if_neg c_144)
              refine lv_aload_n hx hb dX9_readEdge_184 rfl (lv_at hl 1 rfl) ?_
              refine lv_iconst (v := 5) hx hb dX9_readEdge_185 (by decide) ?_
              have hFc := pu_free hD hS hA
              refine va_callv (va_runV (As := [.int 5]) (rest := []) ⟨hx, hb, hml, hown, hts⟩ (c_EM_fails l dC dI _ ad ck x0 x16 x18 x19 z20_102 z21_103 z22_104 z23_105 x24 x25 z26_107 z27_108 1 x29 x30 x33 x45 x46 x52 x53 x61 x62 x63 x65 x66 f1 f2 f3 q4 q_12 q_26 g_42 g_81 g_43 g_40 g_41 m12_0 m12_1 m13_0 m13_1 m14_0 m14_1 m15_0 m15_1 f17 q31 f32 f34 f35 f36 f37 q38 f39 f40 f41 m42_0 m42_1 f43 f44 f47 f48 f49 f50 f51 q54 q55 q56 f57 q58 f59 f60 f64 5 hx16 hx18 hx19 hz21_103 hz22_104 hz26_107 (Nat.le_of_ble_eq_true rfl) hx29 hx30 hx33 hx46 hx52 hx53 hx61 hx62 hx63 hx65 hm12_0 hm12_1 hm13_0 hm13_1 hm14_0 (Nat.le_trans hm14_1 (Nat.le_of_ble_eq_true rfl)) hm15_0 hm15_1 hm42_0 hm42_1 (Nat.le_of_ble_eq_true rfl) (by omega)) (cwV 1 hts g_EM_readEdge_1_EM_fails rfl rfl rfl (by decide +kernel) ⟨Nat.le_of_ble_eq_true rfl, Nat.le_of_ble_eq_true rfl⟩) ⟨pu_bl, va_recv hK hP (ci := 9) (q0 := 0) rfl rfl, pu_in hP hK hD⟩ rfl rfl hl.1 rfl (lv_room (Nat.le_of_ble_eq_true rfl)) dX9_readEdge_186 ⟨Nat.le_of_ble_eq_true rfl, Nat.le_of_ble_eq_true rfl⟩) hS (fun q _ h => hFc q h) hFc (fun u t H1 locs ht hvm hw hB hz1 hk1 hS => ?_)
              obtain ⟨z26_146, z27_147, ⟨hP1, -, hD1⟩, hz26_146, xr_145_0, xr_145_1⟩ := hB
              rw [ht] at hP1
              have hP := hP1
              have hD := pu_all hFc hD1
              clear hP1 hD1 hFc
              clear hk1 hz1 ht hvm
              generalize H1 = H at hP hS ⊢
              have hsp := hsp.trans (slet_eq xr_145_1)
              exact j_116 _ _ _ _ ⟨z26_146, z27_147, rfl, hz26_146, by omega, by omega, hsp.symm, hP, hD, hS, lv_sub hl [1, 2, 0] rfl⟩
    · have c_59 : ¬ u_58 = 0 := fun z => c_59 ((nI_eq (a := u_58) (b := 0) (Nat.lt_of_le_of_lt hu_58 (Nat.le_of_ble_eq_true rfl)) (Nat.le_of_ble_eq_true rfl)).mpr z)
      have hsp := hsp.trans (if_neg c_59)
      refine lv_aload_n hx hb dX9_readEdge_70 rfl (lv_at hl 0 rfl) ?_
      refine lv_ldc hx hb hown v_36 dX9_readEdge_71 ?_
      refine va_calli (va_runV (As := [.int 762030]) (rest := []) ⟨hx, hb, hml, hown, hts⟩ (c_EM_isWord l dC dI _ ad ck x0 x16 x18 x19 g_44 g_45 g_46 g_47 x24 x25 g_48 g_49 1 x29 x30 x33 x45 x46 x52 x53 x61 x62 x63 x65 x66 f1 f2 f3 q4 q_12 q_26 g_42 f_28 g_43 g_40 g_41 m12_0 m12_1 m13_0 m13_1 m14_0 m14_1 m15_0 m15_1 f17 q31 f32 f34 f35 f36 f37 q38 f39 f40 f41 m42_0 m42_1 f43 f44 f47 f48 f49 f50 f51 q54 q55 q56 f57 q58 f59 f60 f64 762030 hx16 hx18 hx19 hg_45 hg_46 hg_48 (Nat.le_of_ble_eq_true rfl) hx29 hx30 hx33 hx46 hx52 hx53 hx61 hx62 hx63 hx65 hm12_0 hm12_1 hm13_0 hm13_1 hm14_0 (Nat.le_trans hm14_1 (Nat.le_of_ble_eq_true rfl)) hm15_0 hm15_1 hm42_0 hm42_1) (cwV 1 hts g_EM_readEdge_1_EM_isWord rfl rfl rfl (by decide +kernel) ⟨Nat.le_of_ble_eq_true rfl, Nat.le_of_ble_eq_true rfl⟩) ⟨pu_bl, va_recv hK hP (ci := 9) (q0 := 0) rfl rfl, pu_in hP hK hD⟩ rfl rfl hl.1 rfl (lv_room (Nat.le_of_ble_eq_true rfl)) dX9_readEdge_73 ⟨Nat.le_of_ble_eq_true rfl, Nat.le_of_ble_eq_true rfl⟩) hS (fun q _ h => pu_fr hS hA q h) (pu_fr hS hA) (fun r_148 u t H1 locs ht hvm hw hB hz1 hk1 hS => ?_)
      have hP := pu_keep hP hk1
      clear hk1 hz1 ht hvm
      generalize H1 = H at hP hS ⊢
      obtain ⟨u_149, hu_149, rfl, ju_149, iu_149⟩ := hw
      have hsp := hsp.trans (slet_eq iu_149)
      refine lv_if_eq (tgt := 139) hx hb dX9_readEdge_76 (by decide) (fun c_150 => ?_) (fun c_150 => ?_)
      · have c_150 : u_149 = 0 := (nI_eq (a := u_149) (b := 0) (Nat.lt_of_le_of_lt hu_149 (Nat.le_of_ble_eq_true rfl)) (Nat.le_of_ble_eq_true rfl)).mp c_150
        have hsp := hsp.trans (if_pos c_150)
        have hsp := hout_56 _ hsp
        obtain ⟨JR_160, hJR_160, hsp⟩ := slet_ex hsp
        refine pu_join (fun H locs ls st => ∃ (g_151 : Int32) (g_152 : Nat) (g_153 : Nat) (g_154 : Int32) (g_155 : Nat) (g_156 : Int32) (g_157 : Nat → Int32), st = [] ∧ g_152 ≤ 900 ∧ g_153 ≤ 4 ∧ g_155 ≤ 6 ∧ mu g_152 g_153 ≤ mu x21 x22 ∧ (g_151, g_152, g_153, g_154, g_155, g_156, g_157) = JR_160 ∧ va_P (dC, dI) vwCl (mo_w ad ck x0 (nI x16) (nI x18) (nI x19) g_151 (nI g_152) (nI g_153) g_154 x24 x25 (nI g_155) g_156 1 (nI x29) (nI x30) (nI x33) x45 (nI x46) (nI x52) (nI x53) (nI x61) (nI x62) (nI x63) (nI x65) x66 f1 f2 f3 (bN 3 q4) (bN 7 q_12) (bN 7 q_26) (bN 4 g_42) g_157 (bN 2 g_43) (bH g_40) g_41 (b2 m12_0 m12_1) (b2 m13_0 m13_1) (b2 m14_0 m14_1) (b2m m15_0 m15_1) f17 (bA 159 q31) f32 f34 f35 f36 f37 (bN 7 q38) f39 f40 f41 (b2 m42_0 m42_1) f43 f44 f47 f48 f49 f50 f51 (bN 13 q54) (bN 120 q55) (bN 120 q56) f57 (bN 120 q58) f59 f60 f64) H ∧ va_D A (mo_w ad ck x0 (nI x16) (nI x18) (nI x19) g_151 (nI g_152) (nI g_153) g_154 x24 x25 (nI g_155) g_156 1 (nI x29) (nI x30) (nI x33) x45 (nI x46) (nI x52) (nI x53) (nI x61) (nI x62) (nI x63) (nI x65) x66 f1 f2 f3 (bN 3 q4) (bN 7 q_12) (bN 7 q_26) (bN 4 g_42) g_157 (bN 2 g_43) (bH g_40) g_41 (b2 m12_0 m12_1) (b2 m13_0 m13_1) (b2 m14_0 m14_1) (b2m m15_0 m15_1) f17 (bA 159 q31) f32 f34 f35 f36 f37 (bN 7 q38) f39 f40 f41 (b2 m42_0 m42_1) f43 f44 f47 f48 f49 f50 f51 (bN 13 q54) (bN 120 q55) (bN 120 q56) f57 (bN 120 q58) f59 f60 f64) ∧ va_S A s.heap H locs ∧ lv_has ls 3 [(0, .ref (ad 0)), (1, .int (nI (14 + m14_1)))]) 215 ?_ (fun j_159 => ?_)
        · rintro H locs ls st ⟨g_151, g_152, g_153, g_154, g_155, g_156, g_157, rfl, hg_152, hg_153, hg_155, he_158, he_161, hP, hD, hS, hl⟩
          rw [← he_161] at hsp
          refine lv_aload_n hx hb dX9_readEdge_215 rfl (lv_at hl 0 rfl) ?_
          refine va_get (D := (dC, dI)) (ci := 9) (v := .ref (ad 14)) (C := RX9) (T := TX9) (N := 67) hx hb hts hiX9 hown hK hP 0 rfl rfl 14 (by decide) v_2 (fun _ h9 => h9) rfl dX9_readEdge_216 ?_
          refine lv_aload_n hx hb dX9_readEdge_219 rfl (lv_at hl 0 rfl) ?_
          refine va_get (D := (dC, dI)) (ci := 9) (v := .int 1) (C := RX9) (T := TX9) (N := 67) hx hb hts hiX9 hown hK hP 0 rfl rfl 28 (by decide) v_1 (fun _ h9 => h9) rfl dX9_readEdge_220 ?_
          refine lv_dup2_11 hx hb dX9_readEdge_223 rfl rfl ?_
          refine va_iald hx hb hK hP 14 13 rfl rfl (vp_in_nI (n := 1) (Nat.le_of_ble_eq_true rfl) (Nat.le_of_ble_eq_true rfl)) dX9_readEdge_224 ?_
          refine lv_topi (fun y_162 ey_162 => ?_)
          have qy_162 := ey_162.trans b2_1
          clear ey_162
          obtain rfl : y_162 = nI m14_1 := qy_162
          refine lv_iconst (v := 1) hx hb dX9_readEdge_225 (by decide) ?_
          refine lv_iadd hx hb dX9_readEdge_226 ?_
          refine lv_topi (fun y_163 ey_163 => ?_)
          obtain rfl : y_163 = (nI (m14_1 + 1)) := ey_163.trans (nI_add m14_1 1)
          refine va_iast hx hb hK hP hD hS 14 13 rfl rfl (vp_in_nI (n := 1) (Nat.le_of_ble_eq_true rfl) (Nat.le_of_ble_eq_true rfl)) dX9_readEdge_227 (fun H locs hP hD hS => ?_)
          have hP : va_P (dC, dI) vwCl (mo_w ad ck x0 (nI x16) (nI x18) (nI x19) g_151 (nI g_152) (nI g_153) g_154 x24 x25 (nI g_155) g_156 1 (nI x29) (nI x30) (nI x33) x45 (nI x46) (nI x52) (nI x53) (nI x61) (nI x62) (nI x63) (nI x65) x66 f1 f2 f3 (bN 3 q4) (bN 7 q_12) (bN 7 q_26) (bN 4 g_42) g_157 (bN 2 g_43) (bH g_40) g_41 (b2 m12_0 m12_1) (b2 m13_0 m13_1) (b2 m14_0 (m14_1 + 1)) (b2m m15_0 m15_1) f17 (bA 159 q31) f32 f34 f35 f36 f37 (bN 7 q38) f39 f40 f41 (b2 m42_0 m42_1) f43 f44 f47 f48 f49 f50 f51 (bN 13 q54) (bN 120 q55) (bN 120 q56) f57 (bN 120 q58) f59 f60 f64) H := by rw [← b2_up1 (a := m14_0) (b := m14_1) (v := (m14_1 + 1))]; exact hP
          have hD : va_D A (mo_w ad ck x0 (nI x16) (nI x18) (nI x19) g_151 (nI g_152) (nI g_153) g_154 x24 x25 (nI g_155) g_156 1 (nI x29) (nI x30) (nI x33) x45 (nI x46) (nI x52) (nI x53) (nI x61) (nI x62) (nI x63) (nI x65) x66 f1 f2 f3 (bN 3 q4) (bN 7 q_12) (bN 7 q_26) (bN 4 g_42) g_157 (bN 2 g_43) (bH g_40) g_41 (b2 m12_0 m12_1) (b2 m13_0 m13_1) (b2 m14_0 (m14_1 + 1)) (b2m m15_0 m15_1) f17 (bA 159 q31) f32 f34 f35 f36 f37 (bN 7 q38) f39 f40 f41 (b2 m42_0 m42_1) f43 f44 f47 f48 f49 f50 f51 (bN 13 q54) (bN 120 q55) (bN 120 q56) f57 (bN 120 q58) f59 f60 f64) := by rw [← b2_up1 (a := m14_0) (b := m14_1) (v := (m14_1 + 1))]; exact hD
          exact W.vret hx hb hr (fun t ht hW => ⟨⟨(), rfl, trivial, ⟨g_40, g_41, q_12, q_26, g_42, g_157, g_43, (m14_1 + 1), g_151, g_152, g_153, g_154, g_155, g_156, ⟨by rw [ht]; exact hP, va_K.moved hW.alike hK, hD⟩, (by omega), hg_152, hg_153, hg_155, by omega, (hsp.symm.trans hRR)⟩⟩, hS.F ht⟩) hS.2.2 dX9_readEdge_228
        have hsp := hJR_160
        obtain ⟨lf_181, dlf_181, hlf_181, hsp⟩ := itr_ex hsp
        delta sp_EM_readEdge_1_L2 at hlf_181
        refine pu_while (fun nn H locs ls => ∃ (g_172 : Nat → Int32) (g_173 : Int32) (g_174 : Nat) (g_175 : Nat) (g_176 : Int32) (g_177 : Nat) (g_178 : Int32), nn = mu g_174 g_175 ∧ g_174 ≤ 900 ∧ g_175 ≤ 4 ∧ g_177 ≤ 6 ∧ mu g_174 g_175 ≤ mu x21 x22 ∧ JR_160 = itrv dlf_181 lf_181 (g_172, g_173, g_174, g_175, g_176, g_177, g_178) ∧ va_P (dC, dI) vwCl (mo_w ad ck x0 (nI x16) (nI x18) (nI x19) g_173 (nI g_174) (nI g_175) g_176 x24 x25 (nI g_177) g_178 1 (nI x29) (nI x30) (nI x33) x45 (nI x46) (nI x52) (nI x53) (nI x61) (nI x62) (nI x63) (nI x65) x66 f1 f2 f3 (bN 3 q4) (bN 7 q_12) (bN 7 q_26) (bN 4 g_42) g_172 (bN 2 g_43) (bH g_40) g_41 (b2 m12_0 m12_1) (b2 m13_0 m13_1) (b2 m14_0 m14_1) (b2m m15_0 m15_1) f17 (bA 159 q31) f32 f34 f35 f36 f37 (bN 7 q38) f39 f40 f41 (b2 m42_0 m42_1) f43 f44 f47 f48 f49 f50 f51 (bN 13 q54) (bN 120 q55) (bN 120 q56) f57 (bN 120 q58) f59 f60 f64) H ∧ va_D A (mo_w ad ck x0 (nI x16) (nI x18) (nI x19) g_173 (nI g_174) (nI g_175) g_176 x24 x25 (nI g_177) g_178 1 (nI x29) (nI x30) (nI x33) x45 (nI x46) (nI x52) (nI x53) (nI x61) (nI x62) (nI x63) (nI x65) x66 f1 f2 f3 (bN 3 q4) (bN 7 q_12) (bN 7 q_26) (bN 4 g_42) g_172 (bN 2 g_43) (bH g_40) g_41 (b2 m12_0 m12_1) (b2 m13_0 m13_1) (b2 m14_0 m14_1) (b2m m15_0 m15_1) f17 (bA 159 q31) f32 f34 f35 f36 f37 (bN 7 q38) f39 f40 f41 (b2 m42_0 m42_1) f43 f44 f47 f48 f49 f50 f51 (bN 13 q54) (bN 120 q55) (bN 120 q56) f57 (bN 120 q58) f59 f60 f64) ∧ va_S A s.heap H locs ∧ lv_has ls 3 [(0, .ref (ad 0)), (1, .int (nI (14 + m14_1)))]) 139 ?_ _ _ _ _ ⟨f_28, g_44, g_45, g_46, g_47, g_48, g_49, rfl, hg_45, hg_46, hg_48, by omega, hsp, hP, hD, hS, lv_sub hl [0, 1] rfl⟩
        rintro nn ih_180 H locs ls ⟨g_172, g_173, g_174, g_175, g_176, g_177, g_178, rfl, hg_174, hg_175, hg_177, he_179, he_183, hP, hD, hS, hl⟩
        obtain ⟨S_182, hsp, hin_184, hout_185⟩ := itr_step hlf_181 he_183
        refine lv_aload_n hx hb dX9_readEdge_139 rfl (lv_at hl 0 rfl) ?_
        refine va_calli (va_runV (As := []) (rest := []) ⟨hx, hb, hml, hown, hts⟩ (c_EM_isGood l dC dI _ ad ck x0 x16 x18 x19 g_173 g_174 g_175 g_176 x24 x25 g_177 g_178 1 x29 x30 x33 x45 x46 x52 x53 x61 x62 x63 x65 x66 f1 f2 f3 q4 q_12 q_26 g_42 g_172 g_43 g_40 g_41 m12_0 m12_1 m13_0 m13_1 m14_0 m14_1 m15_0 m15_1 f17 q31 f32 f34 f35 f36 f37 q38 f39 f40 f41 m42_0 m42_1 f43 f44 f47 f48 f49 f50 f51 q54 q55 q56 f57 q58 f59 f60 f64 hx16 hx18 hx19 hg_174 hg_175 hg_177 (Nat.le_of_ble_eq_true rfl) hx29 hx30 hx33 hx46 hx52 hx53 hx61 hx62 hx63 hx65 hm12_0 hm12_1 hm13_0 hm13_1 hm14_0 (Nat.le_trans hm14_1 (Nat.le_of_ble_eq_true rfl)) hm15_0 hm15_1 hm42_0 hm42_1) (cwV 0 hts g_EM_readEdge_1_EM_isGood rfl rfl rfl (by decide +kernel) ⟨Nat.le_of_ble_eq_true rfl, Nat.le_of_ble_eq_true rfl⟩) ⟨pu_bl, va_recv hK hP (ci := 9) (q0 := 0) rfl rfl, pu_in hP hK hD⟩ rfl rfl hl.1 rfl (lv_room (Nat.le_of_ble_eq_true rfl)) dX9_readEdge_140 ⟨Nat.le_of_ble_eq_true rfl, Nat.le_of_ble_eq_true rfl⟩) hS (fun q _ h => pu_fr hS hA q h) (pu_fr hS hA) (fun r_186 u t H1 locs ht hvm hw hB hz1 hk1 hS => ?_)
        have hP := pu_keep hP hk1
        clear hk1 hz1 ht hvm
        generalize H1 = H at hP hS ⊢
        obtain ⟨u_187, hu_187, rfl, ju_187, iu_187⟩ := hw
        have hsp := hsp.trans (slet_eq iu_187)
        refine lv_if_eq (tgt := 215) hx hb dX9_readEdge_143 (by decide) (fun c_188 => ?_) (fun c_188 => ?_)
        · have c_188 : u_187 = 0 := (nI_eq (a := u_187) (b := 0) (Nat.lt_of_le_of_lt hu_187 (Nat.le_of_ble_eq_true rfl)) (Nat.le_of_ble_eq_true rfl)).mp c_188
          have hsp := hsp.trans (if_pos c_188)
          have hsp := hout_185 _ hsp
          exact j_159 _ _ _ _ ⟨g_173, g_174, g_175, g_176, g_177, g_178, g_172, rfl, hg_174, hg_175, hg_177, by omega, hsp.symm, hP, hD, hS, lv_sub hl [0, 1] rfl⟩
        · have c_188 : ¬ u_187 = 0 := fun z => c_188 ((nI_eq (a := u_187) (b := 0) (Nat.lt_of_le_of_lt hu_187 (Nat.le_of_ble_eq_true rfl)) (Nat.le_of_ble_eq_true rfl)).mpr z)
          have hsp := hsp.trans (if_neg c_188)
          refine lv_aload_n hx hb dX9_readEdge_146 rfl (lv_at hl 0 rfl) ?_
          refine lv_ldc hx hb hown v_16 dX9_readEdge_147 ?_
          refine va_calli (va_runV (As := [.int 19057844]) (rest := []) ⟨hx, hb, hml, hown, hts⟩ (c_EM_isWord l dC dI _ ad ck x0 x16 x18 x19 g_173 g_174 g_175 g_176 x24 x25 g_177 g_178 1 x29 x30 x33 x45 x46 x52 x53 x61 x62 x63 x65 x66 f1 f2 f3 q4 q_12 q_26 g_42 g_172 g_43 g_40 g_41 m12_0 m12_1 m13_0 m13_1 m14_0 m14_1 m15_0 m15_1 f17 q31 f32 f34 f35 f36 f37 q38 f39 f40 f41 m42_0 m42_1 f43 f44 f47 f48 f49 f50 f51 q54 q55 q56 f57 q58 f59 f60 f64 19057844 hx16 hx18 hx19 hg_174 hg_175 hg_177 (Nat.le_of_ble_eq_true rfl) hx29 hx30 hx33 hx46 hx52 hx53 hx61 hx62 hx63 hx65 hm12_0 hm12_1 hm13_0 hm13_1 hm14_0 (Nat.le_trans hm14_1 (Nat.le_of_ble_eq_true rfl)) hm15_0 hm15_1 hm42_0 hm42_1) (cwV 1 hts g_EM_readEdge_1_EM_isWord rfl rfl rfl (by decide +kernel) ⟨Nat.le_of_ble_eq_true rfl, Nat.le_of_ble_eq_true rfl⟩) ⟨pu_bl, va_recv hK hP (ci := 9) (q0 := 0) rfl rfl, pu_in hP hK hD⟩ rfl rfl hl.1 rfl (lv_room (Nat.le_of_ble_eq_true rfl)) dX9_readEdge_149 ⟨Nat.le_of_ble_eq_true rfl, Nat.le_of_ble_eq_true rfl⟩) hS (fun q _ h => pu_fr hS hA q h) (pu_fr hS hA) (fun r_189 u t H1 locs ht hvm hw hB hz1 hk1 hS => ?_)
          have hP := pu_keep hP hk1
          clear hk1 hz1 ht hvm
          generalize H1 = H at hP hS ⊢
          obtain ⟨u_190, hu_190, rfl, ju_190, iu_190⟩ := hw
          have hsp := hsp.trans (slet_eq iu_190)
          refine lv_if_eq (tgt := 215) hx hb dX9_readEdge_152 (by decide) (fun c_191 => ?_) (fun c_191 => ?_)
          · have c_191 : u_190 = 0 := (nI_eq (a := u_190) (b := 0) (Nat.lt_of_le_of_lt hu_190 (Nat.le_of_ble_eq_true rfl)) (Nat.le_of_ble_eq_true rfl)).mp c_191
            have hsp := hsp.trans (if_pos c_191)
            have hsp := hout_185 _ hsp
            exact j_159 _ _ _ _ ⟨g_173, g_174, g_175, g_176, g_177, g_178, g_172, rfl, hg_174, hg_175, hg_177, by omega, hsp.symm, hP, hD, hS, lv_sub hl [0, 1] rfl⟩
          · have c_191 : ¬ u_190 = 0 := fun z => c_191 ((nI_eq (a := u_190) (b := 0) (Nat.lt_of_le_of_lt hu_190 (Nat.le_of_ble_eq_true rfl)) (Nat.le_of_ble_eq_true rfl)).mpr z)
            have hsp := hsp.trans (if_neg c_191)
            refine lv_aload_n hx hb dX9_readEdge_155 rfl (lv_at hl 0 rfl) ?_
            have hFc := pu_free hD hS hA
            refine va_callv (va_runV (As := []) (rest := []) ⟨hx, hb, hml, hown, hts⟩ (c_EM_next l dC dI _ ad ck x0 x16 x18 x19 g_173 g_174 g_175 g_176 x24 x25 g_177 g_178 1 x29 x30 x33 x45 x46 x52 x53 x61 x62 x63 x65 x66 f1 f2 f3 q4 q_12 q_26 g_42 g_172 g_43 g_40 g_41 m12_0 m12_1 m13_0 m13_1 m14_0 m14_1 m15_0 m15_1 f17 q31 f32 f34 f35 f36 f37 q38 f39 f40 f41 m42_0 m42_1 f43 f44 f47 f48 f49 f50 f51 q54 q55 q56 f57 q58 f59 f60 f64 hx16 hx18 hx19 hg_174 hg_175 hg_177 (Nat.le_of_ble_eq_true rfl) hx29 hx30 hx33 hx46 hx52 hx53 hx61 hx62 hx63 hx65 hm12_0 hm12_1 hm13_0 hm13_1 hm14_0 (Nat.le_trans hm14_1 (Nat.le_of_ble_eq_true rfl)) hm15_0 hm15_1 hm42_0 hm42_1) (cwV 0 hts g_EM_readEdge_1_EM_next rfl rfl rfl (by decide +kernel) ⟨Nat.le_of_ble_eq_true rfl, Nat.le_of_ble_eq_true rfl⟩) ⟨pu_bl, va_recv hK hP (ci := 9) (q0 := 0) rfl rfl, pu_in hP hK hD⟩ rfl rfl hl.1 rfl (lv_room (Nat.le_of_ble_eq_true rfl)) dX9_readEdge_156 ⟨Nat.le_of_ble_eq_true rfl, Nat.le_of_ble_eq_true rfl⟩) hS (fun q _ h => hFc q h) hFc (fun u t H1 locs ht hvm hw hB hz1 hk1 hS => ?_)
            obtain ⟨z20_193, z21_194, z22_195, z23_196, ⟨hP1, -, hD1⟩, hz21_194, hz22_195, xr_192_0, xr_192_1, xr_192_2⟩ := hB
            rw [ht] at hP1
            have hP := hP1
            have hD := pu_all hFc hD1
            clear hP1 hD1 hFc
            clear hk1 hz1 ht hvm
            generalize H1 = H at hP hS ⊢
            have hsp := hsp.trans (slet_eq xr_192_2)
            refine lv_aload_n hx hb dX9_readEdge_159 rfl (lv_at hl 0 rfl) ?_
            have hFc := pu_free hD hS hA
            refine va_calli (va_runV (As := []) (rest := []) ⟨hx, hb, hml, hown, hts⟩ (c_EM_toldClock_1 l dC dI _ ad ck x0 x16 x18 x19 z20_193 z21_194 z22_195 z23_196 x24 x25 g_177 g_178 x29 x30 x33 x45 x46 x52 x53 x61 x62 x63 x65 x66 f1 f2 f3 q4 q_12 q_26 g_42 g_172 g_43 g_40 g_41 m12_0 m12_1 m13_0 m13_1 m14_0 m14_1 m15_0 m15_1 f17 q31 f32 f34 f35 f36 f37 q38 f39 f40 f41 m42_0 m42_1 f43 f44 f47 f48 f49 f50 f51 q54 q55 q56 f57 q58 f59 f60 f64 hx16 hx18 hx19 hz21_194 hz22_195 hg_177 hx29 hx30 hx33 hx46 hx52 hx53 hx61 hx62 hx63 hx65 hm12_0 hm12_1 hm13_0 hm13_1 hm14_0 (Nat.le_trans hm14_1 (Nat.le_of_ble_eq_true rfl)) hm15_0 hm15_1 hm42_0 hm42_1) (cwV 0 hts g_EM_readEdge_1_EM_toldClock_1 rfl rfl rfl (by decide +kernel) ⟨Nat.le_of_ble_eq_true rfl, Nat.le_of_ble_eq_true rfl⟩) ⟨pu_bl, va_recv hK hP (ci := 9) (q0 := 0) rfl rfl, pu_in hP hK hD⟩ rfl rfl hl.1 rfl (lv_room (Nat.le_of_ble_eq_true rfl)) dX9_readEdge_160 ⟨Nat.le_of_ble_eq_true rfl, Nat.le_of_ble_eq_true rfl⟩) hS (fun q _ h => hFc q h) hFc (fun r_197 u t H1 locs ht hvm hw hB hz1 hk1 hS => ?_)
            obtain ⟨z26_198, z27_199, ⟨hP1, -, hD1⟩, hz26_198, xr_197_0⟩ := hB
            rw [ht] at hP1
            have hP := hP1
            have hD := pu_all hFc hD1
            clear hP1 hD1 hFc
            clear hk1 hz1 ht hvm
            generalize H1 = H at hP hS ⊢
            obtain ⟨u_200, hu_200, rfl, iu_200⟩ := hw
            have iu_200 : (u_200, z26_198, z27_199) = (sp_EM_toldClock_1 z20_193 z22_195 z23_196 g_177 g_178 f1 m12_1) := Prod.ext iu_200 xr_197_0
            have hsp := hsp.trans (slet_eq iu_200)
            refine lv_istore_n (lv' := [(2, .int (nI u_200)), (0, .ref (ad 0)), (1, .int (nI (14 + m14_1)))]) hx hb dX9_readEdge_163 rfl hl (by decide) rfl (fun ls hl => ?_)
            refine lv_aload_n hx hb dX9_readEdge_164 rfl (lv_at hl 1 rfl) ?_
            refine va_calli (va_runV (As := []) (rest := []) ⟨hx, hb, hml, hown, hts⟩ (c_EM_isGood l dC dI _ ad ck x0 x16 x18 x19 z20_193 z21_194 z22_195 z23_196 x24 x25 z26_198 z27_199 1 x29 x30 x33 x45 x46 x52 x53 x61 x62 x63 x65 x66 f1 f2 f3 q4 q_12 q_26 g_42 g_172 g_43 g_40 g_41 m12_0 m12_1 m13_0 m13_1 m14_0 m14_1 m15_0 m15_1 f17 q31 f32 f34 f35 f36 f37 q38 f39 f40 f41 m42_0 m42_1 f43 f44 f47 f48 f49 f50 f51 q54 q55 q56 f57 q58 f59 f60 f64 hx16 hx18 hx19 hz21_194 hz22_195 hz26_198 (Nat.le_of_ble_eq_true rfl) hx29 hx30 hx33 hx46 hx52 hx53 hx61 hx62 hx63 hx65 hm12_0 hm12_1 hm13_0 hm13_1 hm14_0 (Nat.le_trans hm14_1 (Nat.le_of_ble_eq_true rfl)) hm15_0 hm15_1 hm42_0 hm42_1) (cwV 0 hts g_EM_readEdge_1_EM_isGood rfl rfl rfl (by decide +kernel) ⟨Nat.le_of_ble_eq_true rfl, Nat.le_of_ble_eq_true rfl⟩) ⟨pu_bl, va_recv hK hP (ci := 9) (q0 := 0) rfl rfl, pu_in hP hK hD⟩ rfl rfl hl.1 rfl (lv_room (Nat.le_of_ble_eq_true rfl)) dX9_readEdge_165 ⟨Nat.le_of_ble_eq_true rfl, Nat.le_of_ble_eq_true rfl⟩) hS (fun q _ h => pu_fr hS hA q h) (pu_fr hS hA) (fun r_201 u t H1 locs ht hvm hw hB hz1 hk1 hS => ?_)
            have hP := pu_keep hP hk1
            clear hk1 hz1 ht hvm
            generalize H1 = H at hP hS ⊢
            obtain ⟨u_202, hu_202, rfl, ju_202, iu_202⟩ := hw
            have hsp := hsp.trans (slet_eq iu_202)
            obtain ⟨JR_208, hJR_208, hsp⟩ := slet_ex hsp
            refine pu_join (fun H locs ls st => ∃ (g_203 : Nat) (g_204 : Int32), st = [] ∧ g_203 ≤ 6 ∧ mu z21_194 z22_195 ≤ mu x21 x22 ∧ mu z21_194 z22_195 < mu g_174 g_175 ∧ (g_203, g_204) = JR_208 ∧ va_P (dC, dI) vwCl (mo_w ad ck x0 (nI x16) (nI x18) (nI x19) z20_193 (nI z21_194) (nI z22_195) z23_196 x24 x25 (nI g_203) g_204 1 (nI x29) (nI x30) (nI x33) x45 (nI x46) (nI x52) (nI x53) (nI x61) (nI x62) (nI x63) (nI x65) x66 f1 f2 f3 (bN 3 q4) (bN 7 q_12) (bN 7 q_26) (bN 4 g_42) g_172 (bN 2 g_43) (bH g_40) g_41 (b2 m12_0 m12_1) (b2 m13_0 m13_1) (b2 m14_0 m14_1) (b2m m15_0 m15_1) f17 (bA 159 q31) f32 f34 f35 f36 f37 (bN 7 q38) f39 f40 f41 (b2 m42_0 m42_1) f43 f44 f47 f48 f49 f50 f51 (bN 13 q54) (bN 120 q55) (bN 120 q56) f57 (bN 120 q58) f59 f60 f64) H ∧ va_D A (mo_w ad ck x0 (nI x16) (nI x18) (nI x19) z20_193 (nI z21_194) (nI z22_195) z23_196 x24 x25 (nI g_203) g_204 1 (nI x29) (nI x30) (nI x33) x45 (nI x46) (nI x52) (nI x53) (nI x61) (nI x62) (nI x63) (nI x65) x66 f1 f2 f3 (bN 3 q4) (bN 7 q_12) (bN 7 q_26) (bN 4 g_42) g_172 (bN 2 g_43) (bH g_40) g_41 (b2 m12_0 m12_1) (b2 m13_0 m13_1) (b2 m14_0 m14_1) (b2m m15_0 m15_1) f17 (bA 159 q31) f32 f34 f35 f36 f37 (bN 7 q38) f39 f40 f41 (b2 m42_0 m42_1) f43 f44 f47 f48 f49 f50 f51 (bN 13 q54) (bN 120 q55) (bN 120 q56) f57 (bN 120 q58) f59 f60 f64) ∧ va_S A s.heap H locs ∧ lv_has ls 3 [(0, .ref (ad 0)), (1, .int (nI (14 + m14_1))), (2, .int (nI u_200))]) 189 ?_ (fun j_207 => ?_)
            · rintro H locs ls st ⟨g_203, g_204, rfl, hg_203, he_205, he_206, he_209, hP, hD, hS, hl⟩
              rw [← he_209] at hsp
              refine lv_aload_n hx hb dX9_readEdge_189 rfl (lv_at hl 0 rfl) ?_
              refine va_get (D := (dC, dI)) (ci := 9) (v := .ref (ad 8)) (C := RX9) (T := TX9) (N := 67) hx hb hts hiX9 hown hK hP 0 rfl rfl 8 (by decide) v_15 (fun _ h9 => h9) rfl dX9_readEdge_190 ?_
              refine lv_iload_n hx hb dX9_readEdge_193 rfl (lv_at hl 1 rfl) ?_
              refine lv_dup2_11 hx hb dX9_readEdge_194 rfl rfl ?_
              refine va_iald hx hb hK hP 8 7 rfl rfl (vp_in_nI (n := (14 + m14_1)) (by omega) (Nat.le_of_ble_eq_true rfl)) dX9_readEdge_195 ?_
              refine lv_topi (fun y_210 ey_210 => ?_)
              have ey_210 : y_210 = g_172 (14 + m14_1) := ey_210.trans (congrArg g_172 (nI_clamp (n := (14 + m14_1)) (by omega)))
              have hsp := hsp.trans (slet_eq ey_210)
              refine lv_iconst (v := 1) hx hb dX9_readEdge_196 (by decide) ?_
              refine lv_iload_n hx hb dX9_readEdge_197 rfl (lv_at hl 2 rfl) ?_
              refine lv_ishl hx hb dX9_readEdge_198 ?_
              refine lv_topi (fun y_211 ey_211 => ?_)
              have hsp := hsp.trans (slet_eq ey_211)
              refine lv_ior hx hb dX9_readEdge_199 ?_
              refine lv_topi (fun y_212 ey_212 => ?_)
              have hsp := hsp.trans (slet_eq ey_212)
              refine va_iast hx hb hK hP hD hS 8 7 rfl rfl (vp_in_nI (n := (14 + m14_1)) (by omega) (Nat.le_of_ble_eq_true rfl)) dX9_readEdge_200 (fun H locs hP hD hS => ?_)
              obtain ⟨f_213, ef_213, xf_213⟩ := up_x g_172 (n := (14 + m14_1)) y_212 (by omega)
              have hP : va_P (dC, dI) vwCl (mo_w ad ck x0 (nI x16) (nI x18) (nI x19) z20_193 (nI z21_194) (nI z22_195) z23_196 x24 x25 (nI g_203) g_204 1 (nI x29) (nI x30) (nI x33) x45 (nI x46) (nI x52) (nI x53) (nI x61) (nI x62) (nI x63) (nI x65) x66 f1 f2 f3 (bN 3 q4) (bN 7 q_12) (bN 7 q_26) (bN 4 g_42) f_213 (bN 2 g_43) (bH g_40) g_41 (b2 m12_0 m12_1) (b2 m13_0 m13_1) (b2 m14_0 m14_1) (b2m m15_0 m15_1) f17 (bA 159 q31) f32 f34 f35 f36 f37 (bN 7 q38) f39 f40 f41 (b2 m42_0 m42_1) f43 f44 f47 f48 f49 f50 f51 (bN 13 q54) (bN 120 q55) (bN 120 q56) f57 (bN 120 q58) f59 f60 f64) H := by rw [← ef_213]; exact hP
              have hD : va_D A (mo_w ad ck x0 (nI x16) (nI x18) (nI x19) z20_193 (nI z21_194) (nI z22_195) z23_196 x24 x25 (nI g_203) g_204 1 (nI x29) (nI x30) (nI x33) x45 (nI x46) (nI x52) (nI x53) (nI x61) (nI x62) (nI x63) (nI x65) x66 f1 f2 f3 (bN 3 q4) (bN 7 q_12) (bN 7 q_26) (bN 4 g_42) f_213 (bN 2 g_43) (bH g_40) g_41 (b2 m12_0 m12_1) (b2 m13_0 m13_1) (b2 m14_0 m14_1) (b2m m15_0 m15_1) f17 (bA 159 q31) f32 f34 f35 f36 f37 (bN 7 q38) f39 f40 f41 (b2 m42_0 m42_1) f43 f44 f47 f48 f49 f50 f51 (bN 13 q54) (bN 120 q55) (bN 120 q56) f57 (bN 120 q58) f59 f60 f64) := by rw [← ef_213]; exact hD
              have hsp := hsp.trans (slet_eq xf_213)
              refine lv_aload_n hx hb dX9_readEdge_201 rfl (lv_at hl 0 rfl) ?_
              refine va_calli (va_runV (As := []) (rest := []) ⟨hx, hb, hml, hown, hts⟩ (c_EM_isGood l dC dI _ ad ck x0 x16 x18 x19 z20_193 z21_194 z22_195 z23_196 x24 x25 g_203 g_204 1 x29 x30 x33 x45 x46 x52 x53 x61 x62 x63 x65 x66 f1 f2 f3 q4 q_12 q_26 g_42 f_213 g_43 g_40 g_41 m12_0 m12_1 m13_0 m13_1 m14_0 m14_1 m15_0 m15_1 f17 q31 f32 f34 f35 f36 f37 q38 f39 f40 f41 m42_0 m42_1 f43 f44 f47 f48 f49 f50 f51 q54 q55 q56 f57 q58 f59 f60 f64 hx16 hx18 hx19 hz21_194 hz22_195 hg_203 (Nat.le_of_ble_eq_true rfl) hx29 hx30 hx33 hx46 hx52 hx53 hx61 hx62 hx63 hx65 hm12_0 hm12_1 hm13_0 hm13_1 hm14_0 (Nat.le_trans hm14_1 (Nat.le_of_ble_eq_true rfl)) hm15_0 hm15_1 hm42_0 hm42_1) (cwV 0 hts g_EM_readEdge_1_EM_isGood rfl rfl rfl (by decide +kernel) ⟨Nat.le_of_ble_eq_true rfl, Nat.le_of_ble_eq_true rfl⟩) ⟨pu_bl, va_recv hK hP (ci := 9) (q0 := 0) rfl rfl, pu_in hP hK hD⟩ rfl rfl hl.1 rfl (lv_room (Nat.le_of_ble_eq_true rfl)) dX9_readEdge_202 ⟨Nat.le_of_ble_eq_true rfl, Nat.le_of_ble_eq_true rfl⟩) hS (fun q _ h => pu_fr hS hA q h) (pu_fr hS hA) (fun r_214 u t H1 locs ht hvm hw hB hz1 hk1 hS => ?_)
              have hP := pu_keep hP hk1
              clear hk1 hz1 ht hvm
              generalize H1 = H at hP hS ⊢
              obtain ⟨u_215, hu_215, rfl, ju_215, iu_215⟩ := hw
              have hsp := hsp.trans (slet_eq iu_215)
              obtain ⟨JR_223, hJR_223, hsp⟩ := slet_ex hsp
              refine pu_join (fun H locs ls st => ∃ (g_216 : Int32) (g_217 : Nat) (g_218 : Nat) (g_219 : Int32), st = [] ∧ g_217 ≤ 900 ∧ g_218 ≤ 4 ∧ mu g_217 g_218 ≤ mu x21 x22 ∧ mu g_217 g_218 < mu g_174 g_175 ∧ (g_216, g_217, g_218, g_219) = JR_223 ∧ va_P (dC, dI) vwCl (mo_w ad ck x0 (nI x16) (nI x18) (nI x19) g_216 (nI g_217) (nI g_218) g_219 x24 x25 (nI g_203) g_204 1 (nI x29) (nI x30) (nI x33) x45 (nI x46) (nI x52) (nI x53) (nI x61) (nI x62) (nI x63) (nI x65) x66 f1 f2 f3 (bN 3 q4) (bN 7 q_12) (bN 7 q_26) (bN 4 g_42) f_213 (bN 2 g_43) (bH g_40) g_41 (b2 m12_0 m12_1) (b2 m13_0 m13_1) (b2 m14_0 m14_1) (b2m m15_0 m15_1) f17 (bA 159 q31) f32 f34 f35 f36 f37 (bN 7 q38) f39 f40 f41 (b2 m42_0 m42_1) f43 f44 f47 f48 f49 f50 f51 (bN 13 q54) (bN 120 q55) (bN 120 q56) f57 (bN 120 q58) f59 f60 f64) H ∧ va_D A (mo_w ad ck x0 (nI x16) (nI x18) (nI x19) g_216 (nI g_217) (nI g_218) g_219 x24 x25 (nI g_203) g_204 1 (nI x29) (nI x30) (nI x33) x45 (nI x46) (nI x52) (nI x53) (nI x61) (nI x62) (nI x63) (nI x65) x66 f1 f2 f3 (bN 3 q4) (bN 7 q_12) (bN 7 q_26) (bN 4 g_42) f_213 (bN 2 g_43) (bH g_40) g_41 (b2 m12_0 m12_1) (b2 m13_0 m13_1) (b2 m14_0 m14_1) (b2m m15_0 m15_1) f17 (bA 159 q31) f32 f34 f35 f36 f37 (bN 7 q38) f39 f40 f41 (b2 m42_0 m42_1) f43 f44 f47 f48 f49 f50 f51 (bN 13 q54) (bN 120 q55) (bN 120 q56) f57 (bN 120 q58) f59 f60 f64) ∧ va_S A s.heap H locs ∧ lv_has ls 3 [(0, .ref (ad 0)), (1, .int (nI (14 + m14_1))), (2, .int (nI u_200))]) 212 ?_ (fun j_222 => ?_)
              · rintro H locs ls st ⟨g_216, g_217, g_218, g_219, rfl, hg_217, hg_218, he_220, he_221, he_224, hP, hD, hS, hl⟩
                rw [← he_224] at hsp
                refine lv_goto (tgt := 139) hx hb dX9_readEdge_212 (by decide) ?_
                exact ih_180 (mu g_217 g_218) (by omega) _ _ _ ⟨f_213, g_216, g_217, g_218, g_219, g_203, g_204, rfl, hg_217, hg_218, hg_203, by omega, hin_184 _ hsp, hP, hD, hS, lv_sub hl [0, 1] rfl⟩
              have hsp := hJR_223
              refine lv_if_eq (tgt := 212) hx hb dX9_readEdge_205 (by decide) (fun c_225 => ?_) (fun c_225 => ?_)
              · have c_225 : u_215 = 0 := (nI_eq (a := u_215) (b := 0) (Nat.lt_of_le_of_lt hu_215 (Nat.le_of_ble_eq_true rfl)) (Nat.le_of_ble_eq_true rfl)).mp c_225
                have hsp := hsp.trans (if_pos c_225)
                exact j_222 _ _ _ _ ⟨z20_193, z21_194, z22_195, z23_196, rfl, hz21_194, hz22_195, by omega, by omega, hsp.symm, hP, hD, hS, lv_sub hl [0, 1, 2] rfl⟩
              · have c_225 : ¬ u_215 = 0 := fun z => c_225 ((nI_eq (a := u_215) (b := 0) (Nat.lt_of_le_of_lt hu_215 (Nat.le_of_ble_eq_true rfl)) (Nat.le_of_ble_eq_true rfl)).mpr z)
                have hsp := hsp.trans (if_neg c_225)
                refine lv_aload_n hx hb dX9_readEdge_208 rfl (lv_at hl 0 rfl) ?_
                have hFc := pu_free hD hS hA
                refine va_callv (va_runV (As := []) (rest := []) ⟨hx, hb, hml, hown, hts⟩ (c_EM_next l dC dI _ ad ck x0 x16 x18 x19 z20_193 z21_194 z22_195 z23_196 x24 x25 g_203 g_204 1 x29 x30 x33 x45 x46 x52 x53 x61 x62 x63 x65 x66 f1 f2 f3 q4 q_12 q_26 g_42 f_213 g_43 g_40 g_41 m12_0 m12_1 m13_0 m13_1 m14_0 m14_1 m15_0 m15_1 f17 q31 f32 f34 f35 f36 f37 q38 f39 f40 f41 m42_0 m42_1 f43 f44 f47 f48 f49 f50 f51 q54 q55 q56 f57 q58 f59 f60 f64 hx16 hx18 hx19 hz21_194 hz22_195 hg_203 (Nat.le_of_ble_eq_true rfl) hx29 hx30 hx33 hx46 hx52 hx53 hx61 hx62 hx63 hx65 hm12_0 hm12_1 hm13_0 hm13_1 hm14_0 (Nat.le_trans hm14_1 (Nat.le_of_ble_eq_true rfl)) hm15_0 hm15_1 hm42_0 hm42_1) (cwV 0 hts g_EM_readEdge_1_EM_next rfl rfl rfl (by decide +kernel) ⟨Nat.le_of_ble_eq_true rfl, Nat.le_of_ble_eq_true rfl⟩) ⟨pu_bl, va_recv hK hP (ci := 9) (q0 := 0) rfl rfl, pu_in hP hK hD⟩ rfl rfl hl.1 rfl (lv_room (Nat.le_of_ble_eq_true rfl)) dX9_readEdge_209 ⟨Nat.le_of_ble_eq_true rfl, Nat.le_of_ble_eq_true rfl⟩) hS (fun q _ h => hFc q h) hFc (fun u t H1 locs ht hvm hw hB hz1 hk1 hS => ?_)
                obtain ⟨z20_227, z21_228, z22_229, z23_230, ⟨hP1, -, hD1⟩, hz21_228, hz22_229, xr_226_0, xr_226_1, xr_226_2⟩ := hB
                rw [ht] at hP1
                have hP := hP1
                have hD := pu_all hFc hD1
                clear hP1 hD1 hFc
                clear hk1 hz1 ht hvm
                generalize H1 = H at hP hS ⊢
                have hsp := hsp.trans (slet_eq xr_226_2)
                exact j_222 _ _ _ _ ⟨z20_227, z21_228, z22_229, z23_230, rfl, hz21_228, hz22_229, by omega, by omega, hsp.symm, hP, hD, hS, lv_sub hl [0, 1, 2] rfl⟩
            have hsp := hJR_208
            refine lv_if_eq (tgt := 189) hx hb dX9_readEdge_168 (by decide) (fun c_231 => ?_) (fun c_231 => ?_)
            · have c_231 : u_202 = 0 := (nI_eq (a := u_202) (b := 0) (Nat.lt_of_le_of_lt hu_202 (Nat.le_of_ble_eq_true rfl)) (Nat.le_of_ble_eq_true rfl)).mp c_231
              have hsp := hsp.trans (if_pos c_231)
              exact j_207 _ _ _ _ ⟨z26_198, z27_199, rfl, hz26_198, by omega, by omega, hsp.symm, hP, hD, hS, lv_sub hl [1, 2, 0] rfl⟩
            · have c_231 : ¬ u_202 = 0 := fun z => c_231 ((nI_eq (a := u_202) (b := 0) (Nat.lt_of_le_of_lt hu_202 (Nat.le_of_ble_eq_true rfl)) (Nat.le_of_ble_eq_true rfl)).mpr z)
              have hsp := hsp.trans (if_neg c_231)
              refine lv_aload_n hx hb dX9_readEdge_171 rfl (lv_at hl 1 rfl) ?_
              refine va_get (D := (dC, dI)) (ci := 9) (v := .ref (ad 8)) (C := RX9) (T := TX9) (N := 67) hx hb hts hiX9 hown hK hP 0 rfl rfl 8 (by decide) v_15 (fun _ h9 => h9) rfl dX9_readEdge_172 ?_
              refine lv_iload_n hx hb dX9_readEdge_175 rfl (lv_at hl 2 rfl) ?_
              refine va_iald hx hb hK hP 8 7 rfl rfl (vp_in_nI (n := (14 + m14_1)) (by omega) (Nat.le_of_ble_eq_true rfl)) dX9_readEdge_176 ?_
              refine lv_topi (fun y_232 ey_232 => ?_)
              have ey_232 : y_232 = g_172 (14 + m14_1) := ey_232.trans (congrArg g_172 (nI_clamp (n := (14 + m14_1)) (by omega)))
              have hsp := hsp.trans (slet_eq ey_232)
              refine lv_iload_n hx hb dX9_readEdge_177 rfl (lv_at hl 0 rfl) ?_
              refine va_calli (va_runS (As := [.int y_232, .int (nI u_200)]) (rest := []) ⟨hx, hb, hml, hown, hts⟩ (c_EM_isOf l dC dI _ ad ck x0 x16 x18 x19 z20_193 z21_194 z22_195 z23_196 x24 x25 z26_198 z27_199 1 x29 x30 x33 x45 x46 x52 x53 x61 x62 x63 x65 x66 f1 f2 f3 q4 q_12 q_26 g_42 g_172 g_43 g_40 g_41 m12_0 m12_1 m13_0 m13_1 m14_0 m14_1 m15_0 m15_1 f17 q31 f32 f34 f35 f36 f37 q38 f39 f40 f41 m42_0 m42_1 f43 f44 f47 f48 f49 f50 f51 q54 q55 q56 f57 q58 f59 f60 f64 y_232 (nI u_200) hx16 hx18 hx19 hz21_194 hz22_195 hz26_198 (Nat.le_of_ble_eq_true rfl) hx29 hx30 hx33 hx46 hx52 hx53 hx61 hx62 hx63 hx65 hm12_0 hm12_1 hm13_0 hm13_1 hm14_0 (Nat.le_trans hm14_1 (Nat.le_of_ble_eq_true rfl)) hm15_0 hm15_1 hm42_0 hm42_1) (va_cwS 2 hts g_EM_readEdge_1_EM_isOf rfl rfl rfl (by decide +kernel) ⟨Nat.le_of_ble_eq_true rfl, Nat.le_of_ble_eq_true rfl⟩) ⟨pu_bl, pu_in hP hK hD⟩ rfl rfl hl.1 rfl (lv_room (Nat.le_of_ble_eq_true rfl)) dX9_readEdge_178 ⟨Nat.le_of_ble_eq_true rfl, Nat.le_of_ble_eq_true rfl⟩) hS (fun q _ h => pu_fr hS hA q h) (pu_fr hS hA) (fun r_233 u t H1 locs ht hvm hw hB hz1 hk1 hS => ?_)
              have hP := pu_keep hP hk1
              clear hk1 hz1 ht hvm
              generalize H1 = H at hP hS ⊢
              obtain ⟨u_234, hu_234, rfl, iu_234⟩ := hw
              have hsp := hsp.trans (slet_eq iu_234)
              refine lv_if_eq (tgt := 189) hx hb dX9_readEdge_181 (by decide) (fun c_235 => ?_) (fun c_235 => ?_)
              · have c_235 : u_234 = 0 := (nI_eq (a := u_234) (b := 0) (Nat.lt_of_le_of_lt hu_234 (Nat.le_of_ble_eq_true rfl)) (Nat.le_of_ble_eq_true rfl)).mp c_235
                have hsp := hsp.trans (if_pos c_235)
                exact j_207 _ _ _ _ ⟨z26_198, z27_199, rfl, hz26_198, by omega, by omega, hsp.symm, hP, hD, hS, lv_sub hl [1, 2, 0] rfl⟩
              · have c_235 : ¬ u_234 = 0 := fun z => c_235 ((nI_eq (a := u_234) (b := 0) (Nat.lt_of_le_of_lt hu_234 (Nat.le_of_ble_eq_true rfl)) (Nat.le_of_ble_eq_true rfl)).mpr z)
                have hsp := hsp.trans (if_neg c_235)
                refine lv_aload_n hx hb dX9_readEdge_184 rfl (lv_at hl 1 rfl) ?_
                refine lv_iconst (v := 5) hx hb dX9_readEdge_185 (by decide) ?_
                have hFc := pu_free hD hS hA
                refine va_callv (va_runV (As := [.int 5]) (rest := []) ⟨hx, hb, hml, hown, hts⟩ (c_EM_fails l dC dI _ ad ck x0 x16 x18 x19 z20_193 z21_194 z22_195 z23_196 x24 x25 z26_198 z27_199 1 x29 x30 x33 x45 x46 x52 x53 x61 x62 x63 x65 x66 f1 f2 f3 q4 q_12 q_26 g_42 g_172 g_43 g_40 g_41 m12_0 m12_1 m13_0 m13_1 m14_0 m14_1 m15_0 m15_1 f17 q31 f32 f34 f35 f36 f37 q38 f39 f40 f41 m42_0 m42_1 f43 f44 f47 f48 f49 f50 f51 q54 q55 q56 f57 q58 f59 f60 f64 5 hx16 hx18 hx19 hz21_194 hz22_195 hz26_198 (Nat.le_of_ble_eq_true rfl) hx29 hx30 hx33 hx46 hx52 hx53 hx61 hx62 hx63 hx65 hm12_0 hm12_1 hm13_0 hm13_1 hm14_0 (Nat.le_trans hm14_1 (Nat.le_of_ble_eq_true rfl)) hm15_0 hm15_1 hm42_0 hm42_1 (Nat.le_of_ble_eq_true rfl) (by omega)) (cwV 1 hts g_EM_readEdge_1_EM_fails rfl rfl rfl (by decide +kernel) ⟨Nat.le_of_ble_eq_true rfl, Nat.le_of_ble_eq_true rfl⟩) ⟨pu_bl, va_recv hK hP (ci := 9) (q0 := 0) rfl rfl, pu_in hP hK hD⟩ rfl rfl hl.1 rfl (lv_room (Nat.le_of_ble_eq_true rfl)) dX9_readEdge_186 ⟨Nat.le_of_ble_eq_true rfl, Nat.le_of_ble_eq_true rfl⟩) hS (fun q _ h => hFc q h) hFc (fun u t H1 locs ht hvm hw hB hz1 hk1 hS => ?_)
                obtain ⟨z26_237, z27_238, ⟨hP1, -, hD1⟩, hz26_237, xr_236_0, xr_236_1⟩ := hB
                rw [ht] at hP1
                have hP := hP1
                have hD := pu_all hFc hD1
                clear hP1 hD1 hFc
                clear hk1 hz1 ht hvm
                generalize H1 = H at hP hS ⊢
                have hsp := hsp.trans (slet_eq xr_236_1)
                exact j_207 _ _ _ _ ⟨z26_237, z27_238, rfl, hz26_237, by omega, by omega, hsp.symm, hP, hD, hS, lv_sub hl [1, 2, 0] rfl⟩
      · have c_150 : ¬ u_149 = 0 := fun z => c_150 ((nI_eq (a := u_149) (b := 0) (Nat.lt_of_le_of_lt hu_149 (Nat.le_of_ble_eq_true rfl)) (Nat.le_of_ble_eq_true rfl)).mpr z)
        have hsp := hsp.trans (if_neg c_150)
        refine lv_aload_n hx hb dX9_readEdge_79 rfl (lv_at hl 0 rfl) ?_
        refine va_get (D := (dC, dI)) (ci := 9) (v := .ref (ad 7)) (C := RX9) (T := TX9) (N := 67) hx hb hts hiX9 hown hK hP 0 rfl rfl 7 (by decide) v_14 (fun _ h9 => h9) rfl dX9_readEdge_80 ?_
        refine lv_iload_n hx hb dX9_readEdge_83 rfl (lv_at hl 1 rfl) ?_
        refine va_iald hx hb hK hP 7 6 rfl rfl (vp_in_nI (n := (14 + m14_1)) (by omega) (Nat.le_of_ble_eq_true rfl)) dX9_readEdge_84 ?_
        refine lv_topi (fun y_239 ey_239 => ?_)
        obtain ⟨u_240, hu_240, qu_240, xu_240⟩ := bN_getx 4 g_42 (n := (14 + m14_1)) (by omega)
        obtain rfl : y_239 = nI u_240 := ey_239.trans qu_240
        have hsp := hsp.trans (slet_eq xu_240)
        refine lv_iconst (v := 4) hx hb dX9_readEdge_85 (by decide) ?_
        refine lv_icmp_ne (tgt := 95) hx hb dX9_readEdge_86 (by decide) (fun c_241 => ?_) (fun c_241 => ?_)
        · have c_241 : ¬ u_240 = 4 := fun z => c_241 ((nI_eq (a := u_240) (b := 4) (Nat.lt_of_le_of_lt hu_240 (Nat.le_of_ble_eq_true rfl)) (Nat.le_of_ble_eq_true rfl)).mpr z)
          have hsp := hsp.trans (if_neg c_241)
          refine lv_aload_n hx hb dX9_readEdge_95 rfl (lv_at hl 0 rfl) ?_
          refine lv_bipush (v := 80) hx hb dX9_readEdge_96 (by decide) ?_
          refine lv_aload_n hx hb dX9_readEdge_98 rfl (lv_at hl 0 rfl) ?_
          refine va_get (D := (dC, dI)) (ci := 9) (v := .int 1) (C := RX9) (T := TX9) (N := 67) hx hb hts hiX9 hown hK hP 0 rfl rfl 28 (by decide) v_1 (fun _ h9 => h9) rfl dX9_readEdge_99 ?_
          refine lv_imul hx hb dX9_readEdge_102 ?_
          refine lv_topi (fun y_242 ey_242 => ?_)
          obtain rfl : y_242 = 80 := ey_242.trans (by decide)
          refine lv_iconst (v := 4) hx hb dX9_readEdge_103 (by decide) ?_
          refine lv_aload_n hx hb dX9_readEdge_104 rfl (lv_at hl 0 rfl) ?_
          refine va_get (D := (dC, dI)) (ci := 9) (v := .ref (ad 14)) (C := RX9) (T := TX9) (N := 67) hx hb hts hiX9 hown hK hP 0 rfl rfl 14 (by decide) v_2 (fun _ h9 => h9) rfl dX9_readEdge_105 ?_
          refine lv_aload_n hx hb dX9_readEdge_108 rfl (lv_at hl 0 rfl) ?_
          refine va_get (D := (dC, dI)) (ci := 9) (v := .int 1) (C := RX9) (T := TX9) (N := 67) hx hb hts hiX9 hown hK hP 0 rfl rfl 28 (by decide) v_1 (fun _ h9 => h9) rfl dX9_readEdge_109 ?_
          refine va_iald hx hb hK hP 14 13 rfl rfl (vp_in_nI (n := 1) (Nat.le_of_ble_eq_true rfl) (Nat.le_of_ble_eq_true rfl)) dX9_readEdge_112 ?_
          refine lv_topi (fun y_243 ey_243 => ?_)
          have qy_243 := ey_243.trans b2_1
          clear ey_243
          obtain rfl : y_243 = nI m14_1 := qy_243
          refine lv_imul hx hb dX9_readEdge_113 ?_
          refine lv_topi (fun y_244 ey_244 => ?_)
          obtain rfl : y_244 = (nI (4 * m14_1)) := ey_244.trans (pk_mul 4 m14_1)
          refine lv_iadd hx hb dX9_readEdge_114 ?_
          refine lv_topi (fun y_245 ey_245 => ?_)
          obtain rfl : y_245 = (nI (80 + (4 * m14_1))) := ey_245.trans (nI_add 80 (4 * m14_1))
          refine lv_aload_n hx hb dX9_readEdge_115 rfl (lv_at hl 0 rfl) ?_
          refine va_get (D := (dC, dI)) (ci := 9) (v := .ref (ad 7)) (C := RX9) (T := TX9) (N := 67) hx hb hts hiX9 hown hK hP 0 rfl rfl 7 (by decide) v_14 (fun _ h9 => h9) rfl dX9_readEdge_116 ?_
          refine lv_iload_n hx hb dX9_readEdge_119 rfl (lv_at hl 1 rfl) ?_
          refine va_iald hx hb hK hP 7 6 rfl rfl (vp_in_nI (n := (14 + m14_1)) (by omega) (Nat.le_of_ble_eq_true rfl)) dX9_readEdge_120 ?_
          refine lv_topi (fun y_246 ey_246 => ?_)
          obtain rfl : y_246 = nI u_240 := ey_246.trans qu_240
          refine lv_iadd hx hb dX9_readEdge_121 ?_
          refine lv_topi (fun y_248 ey_248 => ?_)
          obtain rfl : y_248 = (nI ((80 + (4 * m14_1)) + u_240)) := ey_248.trans (nI_add (80 + (4 * m14_1)) u_240)
          refine lv_iconst (v := 0) hx hb dX9_readEdge_122 (by decide) ?_
          have hFc := pu_free hD hS hA
          refine va_callv (va_runV (As := [.int (nI ((80 + (4 * m14_1)) + u_240)), .int 0]) (rest := []) ⟨hx, hb, hml, hown, hts⟩ (c_EM_readCondition0_1 l dC dI _ ad ck x0 x16 x18 x19 g_44 g_45 g_46 g_47 x24 x25 g_48 g_49 x29 x30 x33 x45 x46 x52 x53 x61 x62 x63 x65 x66 f1 f2 f3 q4 q_12 q_26 g_42 f_28 g_43 g_40 g_41 m12_0 m12_1 m13_0 m13_1 m14_0 m14_1 m15_0 m15_1 f17 q31 f32 f34 f35 f36 f37 q38 f39 f40 f41 m42_0 m42_1 f43 f44 f47 f48 f49 f50 f51 q54 q55 q56 f57 q58 f59 f60 f64 ((80 + (4 * m14_1)) + u_240) hx16 hx18 hx19 hg_45 hg_46 hg_48 hx29 hx30 hx33 hx46 hx52 hx53 hx61 hx62 hx63 hx65 hm12_0 hm12_1 hm13_0 hm13_1 hm14_0 (Nat.le_trans hm14_1 (Nat.le_of_ble_eq_true rfl)) hm15_0 hm15_1 hm42_0 hm42_1 (by omega) (by omega)) (cwV 2 hts g_EM_readEdge_1_EM_readCondition0_1 rfl rfl rfl (by decide +kernel) ⟨Nat.le_of_ble_eq_true rfl, Nat.le_of_ble_eq_true rfl⟩) ⟨pu_bl, va_recv hK hP (ci := 9) (q0 := 0) rfl rfl, pu_in hP hK hD⟩ rfl rfl hl.1 rfl (lv_room (Nat.le_of_ble_eq_true rfl)) dX9_readEdge_123 ⟨Nat.le_of_ble_eq_true rfl, Nat.le_of_ble_eq_true rfl⟩) hS (fun q _ h => hFc q h) hFc (fun u t H1 locs ht hvm hw hB hz1 hk1 hS => ?_)
          obtain ⟨z10_250, z11_251, z9_252, z20_253, z21_254, z22_255, z23_256, z26_257, z27_258, ⟨hP1, -, hD1⟩, hz21_254, hz22_255, hz26_257, xr_249_0, xr_249_1, xr_249_2⟩ := hB
          rw [ht] at hP1
          have hP := hP1
          have hD := pu_all hFc hD1
          clear hP1 hD1 hFc
          clear hk1 hz1 ht hvm
          generalize H1 = H at hP hS ⊢
          have hsp := hsp.trans (slet_eq xr_249_2)
          refine lv_aload_n hx hb dX9_readEdge_126 rfl (lv_at hl 0 rfl) ?_
          refine va_get (D := (dC, dI)) (ci := 9) (v := .ref (ad 7)) (C := RX9) (T := TX9) (N := 67) hx hb hts hiX9 hown hK hP 0 rfl rfl 7 (by decide) v_14 (fun _ h9 => h9) rfl dX9_readEdge_127 ?_
          refine lv_iload_n hx hb dX9_readEdge_130 rfl (lv_at hl 1 rfl) ?_
          refine lv_dup2_11 hx hb dX9_readEdge_131 rfl rfl ?_
          refine va_iald hx hb hK hP 7 6 rfl rfl (vp_in_nI (n := (14 + m14_1)) (by omega) (Nat.le_of_ble_eq_true rfl)) dX9_readEdge_132 ?_
          refine lv_topi (fun y_259 ey_259 => ?_)
          obtain rfl : y_259 = nI u_240 := ey_259.trans qu_240
          refine lv_iconst (v := 1) hx hb dX9_readEdge_133 (by decide) ?_
          refine lv_iadd hx hb dX9_readEdge_134 ?_
          refine lv_topi (fun y_261 ey_261 => ?_)
          obtain rfl : y_261 = (nI (u_240 + 1)) := ey_261.trans (nI_add u_240 1)
          refine va_iast hx hb hK hP hD hS 7 6 rfl rfl (vp_in_nI (n := (14 + m14_1)) (by omega) (Nat.le_of_ble_eq_true rfl)) dX9_readEdge_135 (fun H locs hP hD hS => ?_)
          obtain ⟨q_262, eq_262, kq_262, oq_262, xq_262⟩ := bN_upx 4 g_42 (n := (14 + m14_1)) (v := (u_240 + 1)) (by omega) (by omega)
          have hP : va_P (dC, dI) vwCl (mo_w ad ck x0 (nI x16) (nI x18) (nI x19) z20_253 (nI z21_254) (nI z22_255) z23_256 x24 x25 (nI z26_257) z27_258 1 (nI x29) (nI x30) (nI x33) x45 (nI x46) (nI x52) (nI x53) (nI x61) (nI x62) (nI x63) (nI x65) x66 f1 f2 f3 (bN 3 q4) (bN 7 q_12) (bN 7 q_26) (bN 4 q_262) f_28 (bN 2 z9_252) (bH z10_250) z11_251 (b2 m12_0 m12_1) (b2 m13_0 m13_1) (b2 m14_0 m14_1) (b2m m15_0 m15_1) f17 (bA 159 q31) f32 f34 f35 f36 f37 (bN 7 q38) f39 f40 f41 (b2 m42_0 m42_1) f43 f44 f47 f48 f49 f50 f51 (bN 13 q54) (bN 120 q55) (bN 120 q56) f57 (bN 120 q58) f59 f60 f64) H := by rw [← eq_262]; exact hP
          have hD : va_D A (mo_w ad ck x0 (nI x16) (nI x18) (nI x19) z20_253 (nI z21_254) (nI z22_255) z23_256 x24 x25 (nI z26_257) z27_258 1 (nI x29) (nI x30) (nI x33) x45 (nI x46) (nI x52) (nI x53) (nI x61) (nI x62) (nI x63) (nI x65) x66 f1 f2 f3 (bN 3 q4) (bN 7 q_12) (bN 7 q_26) (bN 4 q_262) f_28 (bN 2 z9_252) (bH z10_250) z11_251 (b2 m12_0 m12_1) (b2 m13_0 m13_1) (b2 m14_0 m14_1) (b2m m15_0 m15_1) f17 (bA 159 q31) f32 f34 f35 f36 f37 (bN 7 q38) f39 f40 f41 (b2 m42_0 m42_1) f43 f44 f47 f48 f49 f50 f51 (bN 13 q54) (bN 120 q55) (bN 120 q56) f57 (bN 120 q58) f59 f60 f64) := by rw [← eq_262]; exact hD
          have hsp := hsp.trans (slet_eq xq_262)
          refine lv_goto (tgt := 63) hx hb dX9_readEdge_136 (by decide) ?_
          exact ih_51 (mu z21_254 z22_255) (by omega) _ _ _ ⟨z10_250, z11_251, q_262, z9_252, z20_253, z21_254, z22_255, z23_256, z26_257, z27_258, rfl, hz21_254, hz22_255, hz26_257, by omega, hin_55 _ hsp, hP, hD, hS, lv_sub hl [0, 1] rfl⟩
        · have c_241 : u_240 = 4 := (nI_eq (a := u_240) (b := 4) (Nat.lt_of_le_of_lt hu_240 (Nat.le_of_ble_eq_true rfl)) (Nat.le_of_ble_eq_true rfl)).mp c_241
          have hsp := hsp.trans (if_pos c_241)
          have hsp := hout_56 _ hsp
          refine lv_aload_n hx hb dX9_readEdge_89 rfl (lv_at hl 0 rfl) ?_
          refine lv_iconst (v := 5) hx hb dX9_readEdge_90 (by decide) ?_
          have hFc := pu_free hD hS hA
          refine va_callv (va_runV (As := [.int 5]) (rest := []) ⟨hx, hb, hml, hown, hts⟩ (c_EM_fails l dC dI _ ad ck x0 x16 x18 x19 g_44 g_45 g_46 g_47 x24 x25 g_48 g_49 1 x29 x30 x33 x45 x46 x52 x53 x61 x62 x63 x65 x66 f1 f2 f3 q4 q_12 q_26 g_42 f_28 g_43 g_40 g_41 m12_0 m12_1 m13_0 m13_1 m14_0 m14_1 m15_0 m15_1 f17 q31 f32 f34 f35 f36 f37 q38 f39 f40 f41 m42_0 m42_1 f43 f44 f47 f48 f49 f50 f51 q54 q55 q56 f57 q58 f59 f60 f64 5 hx16 hx18 hx19 hg_45 hg_46 hg_48 (Nat.le_of_ble_eq_true rfl) hx29 hx30 hx33 hx46 hx52 hx53 hx61 hx62 hx63 hx65 hm12_0 hm12_1 hm13_0 hm13_1 hm14_0 (Nat.le_trans hm14_1 (Nat.le_of_ble_eq_true rfl)) hm15_0 hm15_1 hm42_0 hm42_1 (Nat.le_of_ble_eq_true rfl) (by omega)) (cwV 1 hts g_EM_readEdge_1_EM_fails rfl rfl rfl (by decide +kernel) ⟨Nat.le_of_ble_eq_true rfl, Nat.le_of_ble_eq_true rfl⟩) ⟨pu_bl, va_recv hK hP (ci := 9) (q0 := 0) rfl rfl, pu_in hP hK hD⟩ rfl rfl hl.1 rfl (lv_room (Nat.le_of_ble_eq_true rfl)) dX9_readEdge_91 ⟨Nat.le_of_ble_eq_true rfl, Nat.le_of_ble_eq_true rfl⟩) hS (fun q _ h => hFc q h) hFc (fun u t H1 locs ht hvm hw hB hz1 hk1 hS => ?_)
          obtain ⟨z26_264, z27_265, ⟨hP1, -, hD1⟩, hz26_264, xr_263_0, xr_263_1⟩ := hB
          rw [ht] at hP1
          have hP := hP1
          have hD := pu_all hFc hD1
          clear hP1 hD1 hFc
          clear hk1 hz1 ht hvm
          generalize H1 = H at hP hS ⊢
          have hsp := hsp.trans (slet_eq xr_263_1)
          exact W.vret hx hb hr (fun t ht hW => ⟨⟨(), rfl, trivial, ⟨g_40, g_41, q_12, q_26, g_42, f_28, g_43, m14_1, g_44, g_45, g_46, g_47, z26_264, z27_265, ⟨by rw [ht]; exact hP, va_K.moved hW.alike hK, hD⟩, (Nat.le_trans hm14_1 (Nat.le_of_ble_eq_true rfl)), hg_45, hg_46, hz26_264, by omega, (hsp.symm.trans hRR)⟩⟩, hS.F ht⟩) hS.2.2 dX9_readEdge_94
  have hsp := hJR_24
  refine lv_if_eq (tgt := 47) hx hb dX9_readEdge_37 (by decide) (fun c_266 => ?_) (fun c_266 => ?_)
  · have c_266 : u_14 = 0 := (nI_eq (a := u_14) (b := 0) (Nat.lt_of_le_of_lt hu_14 (Nat.le_of_ble_eq_true rfl)) (Nat.le_of_ble_eq_true rfl)).mp c_266
    have hsp := hsp.trans (if_pos c_266)
    refine lv_iconst (v := 0) hx hb dX9_readEdge_47 (by decide) ?_
    exact j_23 _ _ _ _ ⟨z20_5, z21_6, z22_7, z23_8, z26_9, z27_10, 0, rfl, hz21_6, hz22_7, hz26_9, (Nat.le_of_ble_eq_true rfl), by omega, hsp.symm, hP, hD, hS, lv_sub hl [1, 0] rfl⟩
  · have c_266 : ¬ u_14 = 0 := fun z => c_266 ((nI_eq (a := u_14) (b := 0) (Nat.lt_of_le_of_lt hu_14 (Nat.le_of_ble_eq_true rfl)) (Nat.le_of_ble_eq_true rfl)).mpr z)
    have hsp := hsp.trans (if_neg c_266)
    refine lv_aload_n hx hb dX9_readEdge_40 rfl (lv_at hl 1 rfl) ?_
    have hFc := pu_free hD hS hA
    refine va_calli (va_runV (As := []) (rest := [.int (nI (14 + m14_1)), .ref (ad 6)]) ⟨hx, hb, hml, hown, hts⟩ (c_EM_toldPlace_1 l dC dI _ ad ck x0 x16 x18 x19 z20_5 z21_6 z22_7 z23_8 x24 x25 z26_9 z27_10 x29 x30 x33 x45 x46 x52 x53 x61 x62 x63 x65 x66 f1 f2 f3 q4 q_12 q6 q7 f8 q9 q10 f11 m12_0 m12_1 m13_0 m13_1 m14_0 m14_1 m15_0 m15_1 f17 q31 f32 f34 f35 f36 f37 q38 f39 f40 f41 m42_0 m42_1 f43 f44 f47 f48 f49 f50 f51 q54 q55 q56 f57 q58 f59 f60 f64 hx16 hx18 hx19 hz21_6 hz22_7 hz26_9 hx29 hx30 hx33 hx46 hx52 hx53 hx61 hx62 hx63 hx65 hm12_0 hm12_1 hm13_0 hm13_1 hm14_0 (Nat.le_trans hm14_1 (Nat.le_of_ble_eq_true rfl)) hm15_0 hm15_1 hm42_0 hm42_1) (cwV 0 hts g_EM_readEdge_1_EM_toldPlace_1 rfl rfl rfl (by decide +kernel) ⟨Nat.le_of_ble_eq_true rfl, Nat.le_of_ble_eq_true rfl⟩) ⟨pu_bl, va_recv hK hP (ci := 9) (q0 := 0) rfl rfl, pu_in hP hK hD⟩ rfl rfl hl.1 rfl (lv_room (Nat.le_of_ble_eq_true rfl)) dX9_readEdge_41 ⟨Nat.le_of_ble_eq_true rfl, Nat.le_of_ble_eq_true rfl⟩) hS (fun q _ h => hFc q h) hFc (fun r_267 u t H1 locs ht hvm hw hB hz1 hk1 hS => ?_)
    obtain ⟨z20_268, z21_269, z22_270, z23_271, z26_272, z27_273, ⟨hP1, -, hD1⟩, hz21_269, hz22_270, hz26_272, xr_267_0, xr_267_1⟩ := hB
    rw [ht] at hP1
    have hP := hP1
    have hD := pu_all hFc hD1
    clear hP1 hD1 hFc
    clear hk1 hz1 ht hvm
    generalize H1 = H at hP hS ⊢
    obtain ⟨u_274, hu_274, rfl, iu_274⟩ := hw
    have iu_274 : (u_274, z20_268, z21_269, z22_270, z23_271, z26_272, z27_273) = (sp_EM_toldPlace_1 x19 z20_5 z21_6 z22_7 z23_8 z26_9 z27_10 f2 m13_1 f17) := Prod.ext iu_274 xr_267_1
    have hsp := hsp.trans (slet_eq iu_274)
    refine lv_goto (tgt := 48) hx hb dX9_readEdge_44 (by decide) ?_
    exact j_23 _ _ _ _ ⟨z20_268, z21_269, z22_270, z23_271, z26_272, z27_273, u_274, rfl, hz21_269, hz22_270, hz26_272, hu_274, by omega, hsp.symm, hP, hD, hS, lv_sub hl [1, 0] rfl⟩
abbrev vs_EM_readLine_1 : List Cond := .code yX9_readLine cX9_readLine 5 none :: VM
theorem g_EM_readLine_1_EM_isWord : GoodIn vs_EM_readLine_1 (wsV RX9 193 RX9 yX9_isWord vs_EM_isWord) := gm_V vm_44 vm_45 vm_46 vm_12 vm_35
theorem g_EM_readLine_1_EM_isGood : GoodIn vs_EM_readLine_1 (wsV RX9 216 RX9 yX9_isGood vs_EM_isGood) := gm_V vm_91 vm_92 vm_93 vm_12 vm_15
theorem g_EM_readLine_1_EM_next : GoodIn vs_EM_readLine_1 (wsV RX9 226 RX9 yX9_next vs_EM_next) := gm_V vm_100 vm_101 vm_102 vm_12 vm_72
theorem g_EM_readLine_1_EM_readEdge_1 : GoodIn vs_EM_readLine_1 (wsV RX9 255 RX9 yX9_readEdge vs_EM_readEdge_1) := gm_V vm_134 vm_135 vm_136 vm_12 vm_125
theorem g_EM_readLine_1_EM_toldPlace_1 : GoodIn vs_EM_readLine_1 (wsV RX9 245 RX9 yX9_toldPlace vs_EM_toldPlace_1) := gm_V vm_126 vm_127 vm_128 vm_12 vm_106
theorem g_EM_readLine_1_EM_readPlace_1 : GoodIn vs_EM_readLine_1 (wsV RX9 252 RX9 yX9_readPlace vs_EM_readPlace_1) := gm_V vm_137 vm_138 vm_139 vm_12 vm_117
theorem g_EM_readLine_1_EM_freshName_1 : GoodIn vs_EM_readLine_1 (wsV RX9 238 RX9 yX9_freshName vs_EM_freshName_1) := gm_V vm_118 vm_119 vm_120 vm_12 vm_87
theorem g_EM_readLine_1_EM_fails : GoodIn vs_EM_readLine_1 (wsV RX9 210 RX9 yX9_fails vs_EM_fails) := gm_V vm_55 vm_56 vm_57 vm_12 vm_39
noncomputable def sp_EM_readLine_1 (x19 : Nat) (x20 : Int32) (x21 : Nat) (x22 : Nat) (x23 : Int32) (x26 : Nat) (x27 : Int32) (f1 : Nat → Int32) (f2 : Nat → Int32) (f3 : Nat → Int32) (q4 : Nat → Nat) (q5 : Nat → Nat) (q6 : Nat → Nat) (q7 : Nat → Nat) (f8 : Nat → Int32) (q9 : Nat → Nat) (q10 : Nat → Nat) (f11 : Nat → Int32) (m12_1 : Nat) (m13_1 : Nat) (m14_1 : Nat) (m15_1 : Nat) (f17 : Nat → Int32) : (Nat → Int32) × (Nat → Nat) × (Nat → Int32) × (Nat → Int32) × (Nat → Int32) × (Nat → Nat) × (Nat → Nat) × (Nat → Nat) × (Nat → Nat) × (Nat → Int32) × (Nat → Nat) × Nat × Nat × Nat × Nat × Int32 × Nat × Nat × Int32 × Nat × Int32 := (slet (sp_EM_isWord x22 x23 3554411) (fun u_2 => (slet (sp_EM_isWord x22 x23 17171557) (fun u_4 => (slet (sp_EM_isWord x22 x23 20579924) (fun u_6 => (slet (sp_EM_isWord x22 x23 168165) (fun u_8 => (slet (α := Nat × Int32) (if u_2 = 0 then (if u_4 = 0 then (if u_6 = 0 then (if u_8 = 0 then (slet (sp_EM_fails x20 x22 x26 x27 2) (fun (z26_181, z27_182) => (z26_181, z27_182))) else (if m14_1 = 14 then (slet (sp_EM_fails x20 x22 x26 x27 5) (fun (z26_178, z27_179) => (z26_178, z27_179))) else (x26, x27))) else (if m15_1 = 0 then (if u_8 = 0 then (x26, x27) else (if m14_1 = 14 then (slet (sp_EM_fails x20 x22 x26 x27 5) (fun (z26_164, z27_165) => (z26_164, z27_165))) else (x26, x27))) else (slet (m15_1 - 1) (fun vy_159 => (slet (sp_EM_fails x20 x22 x26 x27 5) (fun (z26_168, z27_169) => (z26_168, z27_169))))))) else (if m13_1 = 8 then (slet (sp_EM_fails x20 x22 x26 x27 5) (fun (z26_135, z27_136) => (z26_135, z27_136))) else (if u_6 = 0 then (if u_8 = 0 then (x26, x27) else (if m14_1 = 14 then (slet (sp_EM_fails x20 x22 x26 x27 5) (fun (z26_142, z27_143) => (z26_142, z27_143))) else (x26, x27))) else (if m15_1 = 0 then (if u_8 = 0 then (x26, x27) else (if m14_1 = 14 then (slet (sp_EM_fails x20 x22 x26 x27 5) (fun (z26_149, z27_150) => (z26_149, z27_150))) else (x26, x27))) else (slet (m15_1 - 1) (fun vy_144 => (slet (sp_EM_fails x20 x22 x26 x27 5) (fun (z26_153, z27_154) => (z26_153, z27_154))))))))) else (if m12_1 = 3 then (slet (sp_EM_fails x20 x22 x26 x27 5) (fun (z26_85, z27_86) => (z26_85, z27_86))) else (if u_4 = 0 then (if u_6 = 0 then (if u_8 = 0 then (x26, x27) else (if m14_1 = 14 then (slet (sp_EM_fails x20 x22 x26 x27 5) (fun (z26_93, z27_94) => (z26_93, z27_94))) else (x26, x27))) else (if m15_1 = 0 then (if u_8 = 0 then (x26, x27) else (if m14_1 = 14 then (slet (sp_EM_fails x20 x22 x26 x27 5) (fun (z26_100, z27_101) => (z26_100, z27_101))) else (x26, x27))) else (slet (m15_1 - 1) (fun vy_95 => (slet (sp_EM_fails x20 x22 x26 x27 5) (fun (z26_104, z27_105) => (z26_104, z27_105))))))) else (if m13_1 = 8 then (slet (sp_EM_fails x20 x22 x26 x27 5) (fun (z26_109, z27_110) => (z26_109, z27_110))) else (if u_6 = 0 then (if u_8 = 0 then (x26, x27) else (if m14_1 = 14 then (slet (sp_EM_fails x20 x22 x26 x27 5) (fun (z26_116, z27_117) => (z26_116, z27_117))) else (x26, x27))) else (if m15_1 = 0 then (if u_8 = 0 then (x26, x27) else (if m14_1 = 14 then (slet (sp_EM_fails x20 x22 x26 x27 5) (fun (z26_123, z27_124) => (z26_123, z27_124))) else (x26, x27))) else (slet (m15_1 - 1) (fun vy_118 => (slet (sp_EM_fails x20 x22 x26 x27 5) (fun (z26_127, z27_128) => (z26_127, z27_128))))))))))) (fun (g_9, g_10) => (slet (sp_EM_isGood g_9) (fun u_20 => (if u_20 = 0 then (f1, q10, f11, f2, f3, q4, q5, q6, q7, f8, q9, m12_1, m13_1, m14_1, m15_1, x20, x21, x22, x23, g_9, g_10) else (slet (sp_EM_next x19 x21 f17) (fun (z20_23, z21_24, z22_25, z23_26) => (if u_2 = 0 then (if u_4 = 0 then (if u_6 = 0 then (slet (sp_EM_readEdge_1 x19 z20_23 z21_24 z22_25 z23_26 g_9 g_10 f1 f2 q5 q6 q7 f8 q9 q10 f11 m12_1 m13_1 m14_1 f17) (fun (z10_31, z11_32, z5_33, z6_34, z7_35, z8_36, z9_37, z14_1_38, z20_39, z21_40, z22_41, z23_42, z26_43, z27_44) => (f1, z10_31, z11_32, f2, f3, q4, z5_33, z6_34, z7_35, z8_36, z9_37, m12_1, m13_1, z14_1_38, m15_1, z20_39, z21_40, z22_41, z23_42, z26_43, z27_44))) else (slet (sp_EM_toldPlace_1 x19 z20_23 z21_24 z22_25 z23_26 g_9 g_10 f2 m13_1 f17) (fun (u_52, z20_46, z21_47, z22_48, z23_49, z26_50, z27_51) => (f1, q10, f11, f2, f3, q4, q5, q6, q7, f8, q9, m12_1, m13_1, m14_1, (u_52 + 1), z20_46, z21_47, z22_48, z23_49, z26_50, z27_51)))) else (slet (sp_EM_readPlace_1 x19 z20_23 z21_24 z22_25 z23_26 g_9 g_10 f1 f2 f3 q4 q9 q10 f11 m12_1 m13_1 f17) (fun (z10_54, z11_55, z2_56, z3_57, z4_58, z9_59, z13_1_60, z20_61, z21_62, z22_63, z23_64, z26_65, z27_66) => (f1, z10_54, z11_55, z2_56, z3_57, z4_58, q5, q6, q7, f8, z9_59, m12_1, z13_1_60, m14_1, m15_1, z20_61, z21_62, z22_63, z23_64, z26_65, z27_66)))) else (slet (sp_EM_freshName_1 x19 z20_23 z21_24 z22_25 z23_26 g_9 g_10 f1 f2 m12_1 m13_1 f17) (fun (r_70, z20_71, z21_72, z22_73, z23_74, z26_75, z27_76) => (slet (upd f1 (3 + m12_1) r_70) (fun f_77 => (f_77, q10, f11, f2, f3, q4, q5, q6, q7, f8, q9, (m12_1 + 1), m13_1, m14_1, m15_1, z20_71, z21_72, z22_73, z23_74, z26_75, z27_76)))))))))))))))))))))
set_option maxHeartbeats 4000000 in
set_option maxRecDepth 100000 in
theorem c_EM_readLine_1 (l : Launch) (dC : Nat → ClassId) (dI : Nat → Nat → Nat) (sz : Nat) (ad : Nat → Nat) (ck : Nat → ClassId) (x0 : Int32) (x16 : Nat) (x18 : Nat) (x19 : Nat) (x20 : Int32) (x21 : Nat) (x22 : Nat) (x23 : Int32) (x24 : Int32) (x25 : Int32) (x26 : Nat) (x27 : Int32) (x29 : Nat) (x30 : Nat) (x33 : Nat) (x45 : Int32) (x46 : Nat) (x52 : Nat) (x53 : Nat) (x61 : Nat) (x62 : Nat) (x63 : Nat) (x65 : Nat) (x66 : Int32) (f1 : Nat → Int32) (f2 : Nat → Int32) (f3 : Nat → Int32) (q4 : Nat → Nat) (q5 : Nat → Nat) (q6 : Nat → Nat) (q7 : Nat → Nat) (f8 : Nat → Int32) (q9 : Nat → Nat) (q10 : Nat → Nat) (f11 : Nat → Int32) (m12_0 m12_1 : Nat) (m13_0 m13_1 : Nat) (m14_0 m14_1 : Nat) (m15_0 m15_1 : Nat) (f17 : Nat → Int32) (q31 : Nat → Nat) (f32 : Nat → Int32) (f34 : Nat → Int32) (f35 : Nat → Int32) (f36 : Nat → Int32) (f37 : Nat → Int32) (q38 : Nat → Nat) (f39 : Nat → Int32) (f40 : Nat → Int32) (f41 : Nat → Int32) (m42_0 m42_1 : Nat) (f43 : Nat → Int32) (f44 : Nat → Int32) (f47 : Nat → Int32) (f48 : Nat → Int32) (f49 : Nat → Int32) (f50 : Nat → Int32) (f51 : Nat → Int32) (q54 : Nat → Nat) (q55 : Nat → Nat) (q56 : Nat → Nat) (f57 : Nat → Int32) (q58 : Nat → Nat) (f59 : Nat → Int32) (f60 : Nat → Int32) (f64 : Nat → Int32) (hx16 : x16 ≤ 1) (hx18 : x18 ≤ 900) (hx19 : x19 ≤ 900) (hx21 : x21 ≤ 900) (hx22 : x22 ≤ 4) (hx26 : x26 ≤ 6) (hx29 : x29 ≤ 1) (hx30 : x30 ≤ 1) (hx33 : x33 ≤ 20) (hx46 : x46 ≤ 5) (hx52 : x52 ≤ 2400) (hx53 : x53 ≤ 119) (hx61 : x61 ≤ 119) (hx62 : x62 ≤ 2000) (hx63 : x63 ≤ 1) (hx65 : x65 ≤ 7) (hm12_0 : m12_0 ≤ 3) (hm12_1 : m12_1 ≤ 3) (hm13_0 : m13_0 ≤ 8) (hm13_1 : m13_1 ≤ 8) (hm14_0 : m14_0 ≤ 14) (hm14_1 : m14_1 ≤ 14) (hm15_0 : m15_0 ≤ 8) (hm15_1 : m15_1 ≤ 8) (hm42_0 : m42_0 ≤ 120) (hm42_1 : m42_1 ≤ 400) : Met l yX9_readLine vs_EM_readLine_1 ({ frames := 6, cells := 0, slots := 0, locals := 130 }) (va_Pc [.ref (ad 0)] (pu_B (dC, dI) (mo_w ad ck x0 (nI x16) (nI x18) (nI x19) x20 (nI x21) (nI x22) x23 x24 x25 (nI x26) x27 1 (nI x29) (nI x30) (nI x33) x45 (nI x46) (nI x52) (nI x53) (nI x61) (nI x62) (nI x63) (nI x65) x66 f1 f2 f3 (bN 3 q4) (bN 7 q5) (bN 7 q6) (bN 4 q7) f8 (bN 2 q9) (bH q10) f11 (b2 m12_0 m12_1) (b2 m13_0 m13_1) (b2 m14_0 m14_1) (b2m m15_0 m15_1) f17 (bA 159 q31) f32 f34 f35 f36 f37 (bN 7 q38) f39 f40 f41 (b2 m42_0 m42_1) f43 f44 f47 f48 f49 f50 f51 (bN 13 q54) (bN 120 q55) (bN 120 q56) f57 (bN 120 q58) f59 f60 f64) (mo_t ck) sz)) (va_Qv (fun (_ : Unit) => True) (fun _ t => ∃ (z1 : Nat → Int32) (z10 : Nat → Nat) (z11 : Nat → Int32) (z2 : Nat → Int32) (z3 : Nat → Int32) (z4 : Nat → Nat) (z5 : Nat → Nat) (z6 : Nat → Nat) (z7 : Nat → Nat) (z8 : Nat → Int32) (z9 : Nat → Nat) (z12_1 : Nat) (z13_1 : Nat) (z14_1 : Nat) (z15_1 : Nat) (z20 : Int32) (z21 : Nat) (z22 : Nat) (z23 : Int32) (z26 : Nat) (z27 : Int32), pu_E (dC, dI) (mo_w ad ck x0 (nI x16) (nI x18) (nI x19) z20 (nI z21) (nI z22) z23 x24 x25 (nI z26) z27 1 (nI x29) (nI x30) (nI x33) x45 (nI x46) (nI x52) (nI x53) (nI x61) (nI x62) (nI x63) (nI x65) x66 z1 z2 z3 (bN 3 z4) (bN 7 z5) (bN 7 z6) (bN 4 z7) z8 (bN 2 z9) (bH z10) z11 (b2 m12_0 z12_1) (b2 m13_0 z13_1) (b2 m14_0 z14_1) (b2m m15_0 z15_1) f17 (bA 159 q31) f32 f34 f35 f36 f37 (bN 7 q38) f39 f40 f41 (b2 m42_0 m42_1) f43 f44 f47 f48 f49 f50 f51 (bN 13 q54) (bN 120 q55) (bN 120 q56) f57 (bN 120 q58) f59 f60 f64) (mo_t ck) (va_A ((mo_w ad ck x0 (nI x16) (nI x18) (nI x19) x20 (nI x21) (nI x22) x23 x24 x25 (nI x26) x27 1 (nI x29) (nI x30) (nI x33) x45 (nI x46) (nI x52) (nI x53) (nI x61) (nI x62) (nI x63) (nI x65) x66 f1 f2 f3 (bN 3 q4) (bN 7 q5) (bN 7 q6) (bN 4 q7) f8 (bN 2 q9) (bH q10) f11 (b2 m12_0 m12_1) (b2 m13_0 m13_1) (b2 m14_0 m14_1) (b2m m15_0 m15_1) f17 (bA 159 q31) f32 f34 f35 f36 f37 (bN 7 q38) f39 f40 f41 (b2 m42_0 m42_1) f43 f44 f47 f48 f49 f50 f51 (bN 13 q54) (bN 120 q55) (bN 120 q56) f57 (bN 120 q58) f59 f60 f64)) sz) t ∧ (z12_1 ≤ 3) ∧ (z13_1 ≤ 8) ∧ (z14_1 ≤ 14) ∧ (z15_1 ≤ 8) ∧ (z21 ≤ 900) ∧ (z22 ≤ 4) ∧ (z26 ≤ 6) ∧ (mu z21 z22 ≤ mu x21 x22) ∧ (z26 ≠ 0 ∨ x22 = 0 ∨ mu z21 z22 < mu x21 x22) ∧ ((z1, z10, z11, z2, z3, z4, z5, z6, z7, z8, z9, z12_1, z13_1, z14_1, z15_1, z20, z21, z22, z23, z26, z27) = (sp_EM_readLine_1 x19 x20 x21 x22 x23 x26 x27 f1 f2 f3 q4 q5 q6 q7 f8 q9 q10 f11 m12_1 m13_1 m14_1 m15_1 f17))) (va_A ((mo_w ad ck x0 (nI x16) (nI x18) (nI x19) x20 (nI x21) (nI x22) x23 x24 x25 (nI x26) x27 1 (nI x29) (nI x30) (nI x33) x45 (nI x46) (nI x52) (nI x53) (nI x61) (nI x62) (nI x63) (nI x65) x66 f1 f2 f3 (bN 3 q4) (bN 7 q5) (bN 7 q6) (bN 4 q7) f8 (bN 2 q9) (bH q10) f11 (b2 m12_0 m12_1) (b2 m13_0 m13_1) (b2 m14_0 m14_1) (b2m m15_0 m15_1) f17 (bA 159 q31) f32 f34 f35 f36 f37 (bN 7 q38) f39 f40 f41 (b2 m42_0 m42_1) f43 f44 f47 f48 f49 f50 f51 (bN 13 q54) (bN 120 q55) (bN 120 q56) f57 (bN 120 q58) f59 f60 f64)) sz)) 0 0 (va_A ((mo_w ad ck x0 (nI x16) (nI x18) (nI x19) x20 (nI x21) (nI x22) x23 x24 x25 (nI x26) x27 1 (nI x29) (nI x30) (nI x33) x45 (nI x46) (nI x52) (nI x53) (nI x61) (nI x62) (nI x63) (nI x65) x66 f1 f2 f3 (bN 3 q4) (bN 7 q5) (bN 7 q6) (bN 4 q7) f8 (bN 2 q9) (bH q10) f11 (b2 m12_0 m12_1) (b2 m13_0 m13_1) (b2 m14_0 m14_1) (b2m m15_0 m15_1) f17 (bA 159 q31) f32 f34 f35 f36 f37 (bN 7 q38) f39 f40 f41 (b2 m42_0 m42_1) f43 f44 f47 f48 f49 f50 f51 (bN 13 q54) (bN 120 q55) (bN 120 q56) f57 (bN 120 q58) f59 f60 f64)) sz) := by
  refine Met.ofW (cc := cX9_readLine) (maxL := 5) (ret := none) (by decide) rfl ?_
  intro p e s m args below meth c s₁ B hml hv
  obtain ⟨rfl, rfl, hP, hK, hD0⟩ := hv
  have hx := B.exec
  have hb := B.bytes
  have hr := B.returns
  have hts := atoms_spec (ws := vs_EM_readLine_1) B.pre
  have v_1 := hts (.constant RX9 192 (3554411)) (List.mem_cons_of_mem _ vm_43)
  have v_7 := hts (.constant RX9 196 (17171557)) (List.mem_cons_of_mem _ vm_47)
  have v_8 := hts (.constant RX9 199 (20579924)) (List.mem_cons_of_mem _ vm_50)
  have v_9 := hts (.constant RX9 200 (168165)) (List.mem_cons_of_mem _ vm_51)
  have v_10 := hts (.fieldLink RX9 43 "ClockReachModel" "clockMany" "[I") (List.mem_cons_of_mem _ vm_21)
  have v_11 := hts (.fieldLink RX9 203 "ClockReachModel" "rb" "I") (List.mem_cons_of_mem _ vm_82)
  have v_16 := hts (.fieldLink RX9 49 "ClockReachModel" "edgeMany" "[I") (List.mem_cons_of_mem _ vm_62)
  have v_17 := hts (.fieldLink RX9 52 "ClockReachModel" "begins" "[I") (List.mem_cons_of_mem _ vm_133)
  have v_18 := hts (.fieldLink RX9 46 "ClockReachModel" "placeMany" "[I") (List.mem_cons_of_mem _ vm_85)
  have v_39 := hts (.fieldLink RX9 7 "ClockReachModel" "clockName" "[I") (List.mem_cons_of_mem _ vm_83)
  have hown : s.vm.findClass RX9 = some m.cls := findClass_of_methodNamed B.named
  have hlocks := B.notSynchronized
  have hiX9 : ∀ w ∈ wsX90, w ∈ vs_EM_readLine_1 := fun _ h => List.mem_cons_of_mem _ (List.mem_append_right _ h)
  have hD := hD0.self (sz := s.heap.size)
  generalize hAe : va_A ((mo_w ad ck x0 (nI x16) (nI x18) (nI x19) x20 (nI x21) (nI x22) x23 x24 x25 (nI x26) x27 1 (nI x29) (nI x30) (nI x33) x45 (nI x46) (nI x52) (nI x53) (nI x61) (nI x62) (nI x63) (nI x65) x66 f1 f2 f3 (bN 3 q4) (bN 7 q5) (bN 7 q6) (bN 4 q7) f8 (bN 2 q9) (bH q10) f11 (b2 m12_0 m12_1) (b2 m13_0 m13_1) (b2 m14_0 m14_1) (b2m m15_0 m15_1) f17 (bA 159 q31) f32 f34 f35 f36 f37 (bN 7 q38) f39 f40 f41 (b2 m42_0 m42_1) f43 f44 f47 f48 f49 f50 f51 (bN 13 q54) (bN 120 q55) (bN 120 q56) f57 (bN 120 q58) f59 f60 f64)) s.heap.size = A at hD ⊢
  have hA : ∀ q : Nat, s.heap.size ≤ q → A q := fun q h => by rw [← hAe]; exact Or.inr h
  have hS : va_S A s.heap s.heap [] := va_S.rf
  have hl := lv_entry ([.ref (ad 0)]) (n := 5) (Nat.le_of_ble_eq_true rfl)
  rw [lg_entry_eq]
  generalize (lg_sl ([.ref (ad 0)]) ++ List.replicate (5 - (lg_sl ([.ref (ad 0)])).length) Slot.unset).toArray = ls at hl ⊢
  have hl : lv_has ls 5 [(0, .ref (ad 0))] := hl
  obtain ⟨RR, hRR⟩ : ∃ x, x = (sp_EM_readLine_1 x19 x20 x21 x22 x23 x26 x27 f1 f2 f3 q4 q5 q6 q7 f8 q9 q10 f11 m12_1 m13_1 m14_1 m15_1 f17) := ⟨_, rfl⟩
  have hsp := hRR
  refine lv_aload_n hx hb dX9_readLine_0 rfl (lv_at hl 0 rfl) ?_
  refine lv_ldc hx hb hown v_1 dX9_readLine_1 ?_
  refine va_calli (va_runV (As := [.int 3554411]) (rest := []) ⟨hx, hb, hml, hown, hts⟩ (c_EM_isWord l dC dI _ ad ck x0 x16 x18 x19 x20 x21 x22 x23 x24 x25 x26 x27 1 x29 x30 x33 x45 x46 x52 x53 x61 x62 x63 x65 x66 f1 f2 f3 q4 q5 q6 q7 f8 q9 q10 f11 m12_0 m12_1 m13_0 m13_1 m14_0 m14_1 m15_0 m15_1 f17 q31 f32 f34 f35 f36 f37 q38 f39 f40 f41 m42_0 m42_1 f43 f44 f47 f48 f49 f50 f51 q54 q55 q56 f57 q58 f59 f60 f64 3554411 hx16 hx18 hx19 hx21 hx22 hx26 (Nat.le_of_ble_eq_true rfl) hx29 hx30 hx33 hx46 hx52 hx53 hx61 hx62 hx63 hx65 hm12_0 hm12_1 hm13_0 hm13_1 hm14_0 hm14_1 hm15_0 hm15_1 hm42_0 hm42_1) (cwV 1 hts g_EM_readLine_1_EM_isWord rfl rfl rfl (by decide +kernel) ⟨Nat.le_of_ble_eq_true rfl, Nat.le_of_ble_eq_true rfl⟩) ⟨pu_bl, va_recv hK hP (ci := 9) (q0 := 0) rfl rfl, pu_in hP hK hD⟩ rfl rfl hl.1 rfl (lv_room (Nat.le_of_ble_eq_true rfl)) dX9_readLine_3 ⟨Nat.le_of_ble_eq_true rfl, Nat.le_of_ble_eq_true rfl⟩) hS (fun q _ h => pu_fr hS hA q h) (pu_fr hS hA) (fun r_1 u t H1 locs ht hvm hw hB hz1 hk1 hS => ?_)
  have hP := pu_keep hP hk1
  clear hk1 hz1 ht hvm
  generalize H1 = H at hP hS ⊢
  obtain ⟨u_2, hu_2, rfl, ju_2, iu_2⟩ := hw
  have hsp := hsp.trans (slet_eq iu_2)
  refine lv_istore_n (lv' := [(1, .int (nI u_2)), (0, .ref (ad 0))]) hx hb dX9_readLine_6 rfl hl (by decide) rfl (fun ls hl => ?_)
  refine lv_aload_n hx hb dX9_readLine_7 rfl (lv_at hl 1 rfl) ?_
  refine lv_ldc hx hb hown v_7 dX9_readLine_8 ?_
  refine va_calli (va_runV (As := [.int 17171557]) (rest := []) ⟨hx, hb, hml, hown, hts⟩ (c_EM_isWord l dC dI _ ad ck x0 x16 x18 x19 x20 x21 x22 x23 x24 x25 x26 x27 1 x29 x30 x33 x45 x46 x52 x53 x61 x62 x63 x65 x66 f1 f2 f3 q4 q5 q6 q7 f8 q9 q10 f11 m12_0 m12_1 m13_0 m13_1 m14_0 m14_1 m15_0 m15_1 f17 q31 f32 f34 f35 f36 f37 q38 f39 f40 f41 m42_0 m42_1 f43 f44 f47 f48 f49 f50 f51 q54 q55 q56 f57 q58 f59 f60 f64 17171557 hx16 hx18 hx19 hx21 hx22 hx26 (Nat.le_of_ble_eq_true rfl) hx29 hx30 hx33 hx46 hx52 hx53 hx61 hx62 hx63 hx65 hm12_0 hm12_1 hm13_0 hm13_1 hm14_0 hm14_1 hm15_0 hm15_1 hm42_0 hm42_1) (cwV 1 hts g_EM_readLine_1_EM_isWord rfl rfl rfl (by decide +kernel) ⟨Nat.le_of_ble_eq_true rfl, Nat.le_of_ble_eq_true rfl⟩) ⟨pu_bl, va_recv hK hP (ci := 9) (q0 := 0) rfl rfl, pu_in hP hK hD⟩ rfl rfl hl.1 rfl (lv_room (Nat.le_of_ble_eq_true rfl)) dX9_readLine_10 ⟨Nat.le_of_ble_eq_true rfl, Nat.le_of_ble_eq_true rfl⟩) hS (fun q _ h => pu_fr hS hA q h) (pu_fr hS hA) (fun r_3 u t H1 locs ht hvm hw hB hz1 hk1 hS => ?_)
  have hP := pu_keep hP hk1
  clear hk1 hz1 ht hvm
  generalize H1 = H at hP hS ⊢
  obtain ⟨u_4, hu_4, rfl, ju_4, iu_4⟩ := hw
  have hsp := hsp.trans (slet_eq iu_4)
  refine lv_istore_n (lv' := [(2, .int (nI u_4)), (1, .int (nI u_2)), (0, .ref (ad 0))]) hx hb dX9_readLine_13 rfl hl (by decide) rfl (fun ls hl => ?_)
  refine lv_aload_n hx hb dX9_readLine_14 rfl (lv_at hl 2 rfl) ?_
  refine lv_ldc hx hb hown v_8 dX9_readLine_15 ?_
  refine va_calli (va_runV (As := [.int 20579924]) (rest := []) ⟨hx, hb, hml, hown, hts⟩ (c_EM_isWord l dC dI _ ad ck x0 x16 x18 x19 x20 x21 x22 x23 x24 x25 x26 x27 1 x29 x30 x33 x45 x46 x52 x53 x61 x62 x63 x65 x66 f1 f2 f3 q4 q5 q6 q7 f8 q9 q10 f11 m12_0 m12_1 m13_0 m13_1 m14_0 m14_1 m15_0 m15_1 f17 q31 f32 f34 f35 f36 f37 q38 f39 f40 f41 m42_0 m42_1 f43 f44 f47 f48 f49 f50 f51 q54 q55 q56 f57 q58 f59 f60 f64 20579924 hx16 hx18 hx19 hx21 hx22 hx26 (Nat.le_of_ble_eq_true rfl) hx29 hx30 hx33 hx46 hx52 hx53 hx61 hx62 hx63 hx65 hm12_0 hm12_1 hm13_0 hm13_1 hm14_0 hm14_1 hm15_0 hm15_1 hm42_0 hm42_1) (cwV 1 hts g_EM_readLine_1_EM_isWord rfl rfl rfl (by decide +kernel) ⟨Nat.le_of_ble_eq_true rfl, Nat.le_of_ble_eq_true rfl⟩) ⟨pu_bl, va_recv hK hP (ci := 9) (q0 := 0) rfl rfl, pu_in hP hK hD⟩ rfl rfl hl.1 rfl (lv_room (Nat.le_of_ble_eq_true rfl)) dX9_readLine_17 ⟨Nat.le_of_ble_eq_true rfl, Nat.le_of_ble_eq_true rfl⟩) hS (fun q _ h => pu_fr hS hA q h) (pu_fr hS hA) (fun r_5 u t H1 locs ht hvm hw hB hz1 hk1 hS => ?_)
  have hP := pu_keep hP hk1
  clear hk1 hz1 ht hvm
  generalize H1 = H at hP hS ⊢
  obtain ⟨u_6, hu_6, rfl, ju_6, iu_6⟩ := hw
  have hsp := hsp.trans (slet_eq iu_6)
  refine lv_istore_n (lv' := [(3, .int (nI u_6)), (2, .int (nI u_4)), (1, .int (nI u_2)), (0, .ref (ad 0))]) hx hb dX9_readLine_20 rfl hl (by decide) rfl (fun ls hl => ?_)
  refine lv_aload_n hx hb dX9_readLine_21 rfl (lv_at hl 3 rfl) ?_
  refine lv_ldc hx hb hown v_9 dX9_readLine_22 ?_
  refine va_calli (va_runV (As := [.int 168165]) (rest := []) ⟨hx, hb, hml, hown, hts⟩ (c_EM_isWord l dC dI _ ad ck x0 x16 x18 x19 x20 x21 x22 x23 x24 x25 x26 x27 1 x29 x30 x33 x45 x46 x52 x53 x61 x62 x63 x65 x66 f1 f2 f3 q4 q5 q6 q7 f8 q9 q10 f11 m12_0 m12_1 m13_0 m13_1 m14_0 m14_1 m15_0 m15_1 f17 q31 f32 f34 f35 f36 f37 q38 f39 f40 f41 m42_0 m42_1 f43 f44 f47 f48 f49 f50 f51 q54 q55 q56 f57 q58 f59 f60 f64 168165 hx16 hx18 hx19 hx21 hx22 hx26 (Nat.le_of_ble_eq_true rfl) hx29 hx30 hx33 hx46 hx52 hx53 hx61 hx62 hx63 hx65 hm12_0 hm12_1 hm13_0 hm13_1 hm14_0 hm14_1 hm15_0 hm15_1 hm42_0 hm42_1) (cwV 1 hts g_EM_readLine_1_EM_isWord rfl rfl rfl (by decide +kernel) ⟨Nat.le_of_ble_eq_true rfl, Nat.le_of_ble_eq_true rfl⟩) ⟨pu_bl, va_recv hK hP (ci := 9) (q0 := 0) rfl rfl, pu_in hP hK hD⟩ rfl rfl hl.1 rfl (lv_room (Nat.le_of_ble_eq_true rfl)) dX9_readLine_24 ⟨Nat.le_of_ble_eq_true rfl, Nat.le_of_ble_eq_true rfl⟩) hS (fun q _ h => pu_fr hS hA q h) (pu_fr hS hA) (fun r_7 u t H1 locs ht hvm hw hB hz1 hk1 hS => ?_)
  have hP := pu_keep hP hk1
  clear hk1 hz1 ht hvm
  generalize H1 = H at hP hS ⊢
  obtain ⟨u_8, hu_8, rfl, ju_8, iu_8⟩ := hw
  have hsp := hsp.trans (slet_eq iu_8)
  refine lv_istore (lv' := [(4, .int (nI u_8)), (3, .int (nI u_6)), (2, .int (nI u_4)), (1, .int (nI u_2)), (0, .ref (ad 0))]) hx hb dX9_readLine_27 hl (by decide) rfl (fun ls hl => ?_)
  refine lv_iload_n hx hb dX9_readLine_29 rfl (lv_at hl 3 rfl) ?_
  obtain ⟨JR_17, hJR_17, hsp⟩ := slet_ex hsp
  refine pu_join (fun H locs ls st => ∃ (g_9 : Nat) (g_10 : Int32), st = [] ∧ g_9 ≤ 6 ∧ mu x21 x22 ≤ mu x21 x22 ∧ (u_2 = 0 ∨ g_9 ≠ 0 ∨ m12_1 ≤ 2) ∧ (u_4 = 0 ∨ g_9 ≠ 0 ∨ m13_1 ≤ 7) ∧ (u_8 = 0 ∨ g_9 ≠ 0 ∨ m14_1 ≤ 13) ∧ (g_9 ≠ 0 ∨ u_2 = 1 ∨ u_4 = 1 ∨ u_6 = 1 ∨ u_8 = 1) ∧ (g_9, g_10) = JR_17 ∧ va_P (dC, dI) vwCl (mo_w ad ck x0 (nI x16) (nI x18) (nI x19) x20 (nI x21) (nI x22) x23 x24 x25 (nI g_9) g_10 1 (nI x29) (nI x30) (nI x33) x45 (nI x46) (nI x52) (nI x53) (nI x61) (nI x62) (nI x63) (nI x65) x66 f1 f2 f3 (bN 3 q4) (bN 7 q5) (bN 7 q6) (bN 4 q7) f8 (bN 2 q9) (bH q10) f11 (b2 m12_0 m12_1) (b2 m13_0 m13_1) (b2 m14_0 m14_1) (b2m m15_0 m15_1) f17 (bA 159 q31) f32 f34 f35 f36 f37 (bN 7 q38) f39 f40 f41 (b2 m42_0 m42_1) f43 f44 f47 f48 f49 f50 f51 (bN 13 q54) (bN 120 q55) (bN 120 q56) f57 (bN 120 q58) f59 f60 f64) H ∧ va_D A (mo_w ad ck x0 (nI x16) (nI x18) (nI x19) x20 (nI x21) (nI x22) x23 x24 x25 (nI g_9) g_10 1 (nI x29) (nI x30) (nI x33) x45 (nI x46) (nI x52) (nI x53) (nI x61) (nI x62) (nI x63) (nI x65) x66 f1 f2 f3 (bN 3 q4) (bN 7 q5) (bN 7 q6) (bN 4 q7) f8 (bN 2 q9) (bH q10) f11 (b2 m12_0 m12_1) (b2 m13_0 m13_1) (b2 m14_0 m14_1) (b2m m15_0 m15_1) f17 (bA 159 q31) f32 f34 f35 f36 f37 (bN 7 q38) f39 f40 f41 (b2 m42_0 m42_1) f43 f44 f47 f48 f49 f50 f51 (bN 13 q54) (bN 120 q55) (bN 120 q56) f57 (bN 120 q58) f59 f60 f64) ∧ va_S A s.heap H locs ∧ lv_has ls 5 [(0, .ref (ad 0)), (1, .int (nI u_2)), (2, .int (nI u_4)), (3, .int (nI u_6)), (4, .int (nI u_8))]) 129 ?_ (fun j_16 => ?_)
  · rintro H locs ls st ⟨g_9, g_10, rfl, hg_9, he_11, he_12, he_13, he_14, he_15, he_18, hP, hD, hS, hl⟩
    rw [← he_18] at hsp
    refine lv_aload_n hx hb dX9_readLine_129 rfl (lv_at hl 0 rfl) ?_
    refine va_calli (va_runV (As := []) (rest := []) ⟨hx, hb, hml, hown, hts⟩ (c_EM_isGood l dC dI _ ad ck x0 x16 x18 x19 x20 x21 x22 x23 x24 x25 g_9 g_10 1 x29 x30 x33 x45 x46 x52 x53 x61 x62 x63 x65 x66 f1 f2 f3 q4 q5 q6 q7 f8 q9 q10 f11 m12_0 m12_1 m13_0 m13_1 m14_0 m14_1 m15_0 m15_1 f17 q31 f32 f34 f35 f36 f37 q38 f39 f40 f41 m42_0 m42_1 f43 f44 f47 f48 f49 f50 f51 q54 q55 q56 f57 q58 f59 f60 f64 hx16 hx18 hx19 hx21 hx22 hg_9 (Nat.le_of_ble_eq_true rfl) hx29 hx30 hx33 hx46 hx52 hx53 hx61 hx62 hx63 hx65 hm12_0 hm12_1 hm13_0 hm13_1 hm14_0 hm14_1 hm15_0 hm15_1 hm42_0 hm42_1) (cwV 0 hts g_EM_readLine_1_EM_isGood rfl rfl rfl (by decide +kernel) ⟨Nat.le_of_ble_eq_true rfl, Nat.le_of_ble_eq_true rfl⟩) ⟨pu_bl, va_recv hK hP (ci := 9) (q0 := 0) rfl rfl, pu_in hP hK hD⟩ rfl rfl hl.1 rfl (lv_room (Nat.le_of_ble_eq_true rfl)) dX9_readLine_130 ⟨Nat.le_of_ble_eq_true rfl, Nat.le_of_ble_eq_true rfl⟩) hS (fun q _ h => pu_fr hS hA q h) (pu_fr hS hA) (fun r_19 u t H1 locs ht hvm hw hB hz1 hk1 hS => ?_)
    have hP := pu_keep hP hk1
    clear hk1 hz1 ht hvm
    generalize H1 = H at hP hS ⊢
    obtain ⟨u_20, hu_20, rfl, ju_20, iu_20⟩ := hw
    have hsp := hsp.trans (slet_eq iu_20)
    refine lv_if_ne (tgt := 137) hx hb dX9_readLine_133 (by decide) (fun c_21 => ?_) (fun c_21 => ?_)
    · have c_21 : ¬ u_20 = 0 := fun z => c_21 ((nI_eq (a := u_20) (b := 0) (Nat.lt_of_le_of_lt hu_20 (Nat.le_of_ble_eq_true rfl)) (Nat.le_of_ble_eq_true rfl)).mpr z)
      have hsp := hsp.trans (if_neg c_21)
      refine lv_aload_n hx hb dX9_readLine_137 rfl (lv_at hl 0 rfl) ?_
      have hFc := pu_free hD hS hA
      refine va_callv (va_runV (As := []) (rest := []) ⟨hx, hb, hml, hown, hts⟩ (c_EM_next l dC dI _ ad ck x0 x16 x18 x19 x20 x21 x22 x23 x24 x25 g_9 g_10 1 x29 x30 x33 x45 x46 x52 x53 x61 x62 x63 x65 x66 f1 f2 f3 q4 q5 q6 q7 f8 q9 q10 f11 m12_0 m12_1 m13_0 m13_1 m14_0 m14_1 m15_0 m15_1 f17 q31 f32 f34 f35 f36 f37 q38 f39 f40 f41 m42_0 m42_1 f43 f44 f47 f48 f49 f50 f51 q54 q55 q56 f57 q58 f59 f60 f64 hx16 hx18 hx19 hx21 hx22 hg_9 (Nat.le_of_ble_eq_true rfl) hx29 hx30 hx33 hx46 hx52 hx53 hx61 hx62 hx63 hx65 hm12_0 hm12_1 hm13_0 hm13_1 hm14_0 hm14_1 hm15_0 hm15_1 hm42_0 hm42_1) (cwV 0 hts g_EM_readLine_1_EM_next rfl rfl rfl (by decide +kernel) ⟨Nat.le_of_ble_eq_true rfl, Nat.le_of_ble_eq_true rfl⟩) ⟨pu_bl, va_recv hK hP (ci := 9) (q0 := 0) rfl rfl, pu_in hP hK hD⟩ rfl rfl hl.1 rfl (lv_room (Nat.le_of_ble_eq_true rfl)) dX9_readLine_138 ⟨Nat.le_of_ble_eq_true rfl, Nat.le_of_ble_eq_true rfl⟩) hS (fun q _ h => hFc q h) hFc (fun u t H1 locs ht hvm hw hB hz1 hk1 hS => ?_)
      obtain ⟨z20_23, z21_24, z22_25, z23_26, ⟨hP1, -, hD1⟩, hz21_24, hz22_25, xr_22_0, xr_22_1, xr_22_2⟩ := hB
      rw [ht] at hP1
      have hP := hP1
      have hD := pu_all hFc hD1
      clear hP1 hD1 hFc
      clear hk1 hz1 ht hvm
      generalize H1 = H at hP hS ⊢
      have hsp := hsp.trans (slet_eq xr_22_2)
      refine lv_iload_n hx hb dX9_readLine_141 rfl (lv_at hl 1 rfl) ?_
      refine lv_if_eq (tgt := 186) hx hb dX9_readLine_142 (by decide) (fun c_27 => ?_) (fun c_27 => ?_)
      · have c_27 : u_2 = 0 := (nI_eq (a := u_2) (b := 0) (Nat.lt_of_le_of_lt hu_2 (Nat.le_of_ble_eq_true rfl)) (Nat.le_of_ble_eq_true rfl)).mp c_27
        have hsp := hsp.trans (if_pos c_27)
        refine lv_iload_n hx hb dX9_readLine_186 rfl (lv_at hl 2 rfl) ?_
        refine lv_if_eq (tgt := 197) hx hb dX9_readLine_187 (by decide) (fun c_28 => ?_) (fun c_28 => ?_)
        · have c_28 : u_4 = 0 := (nI_eq (a := u_4) (b := 0) (Nat.lt_of_le_of_lt hu_4 (Nat.le_of_ble_eq_true rfl)) (Nat.le_of_ble_eq_true rfl)).mp c_28
          have hsp := hsp.trans (if_pos c_28)
          refine lv_iload_n hx hb dX9_readLine_197 rfl (lv_at hl 3 rfl) ?_
          refine lv_if_eq (tgt := 217) hx hb dX9_readLine_198 (by decide) (fun c_29 => ?_) (fun c_29 => ?_)
          · have c_29 : u_6 = 0 := (nI_eq (a := u_6) (b := 0) (Nat.lt_of_le_of_lt hu_6 (Nat.le_of_ble_eq_true rfl)) (Nat.le_of_ble_eq_true rfl)).mp c_29
            have hsp := hsp.trans (if_pos c_29)
            refine lv_aload_n hx hb dX9_readLine_217 rfl (lv_at hl 0 rfl) ?_
            have hFc := pu_free hD hS hA
            refine va_callv (va_runV (As := []) (rest := []) ⟨hx, hb, hml, hown, hts⟩ (c_EM_readEdge_1 l dC dI _ ad ck x0 x16 x18 x19 z20_23 z21_24 z22_25 z23_26 x24 x25 g_9 g_10 x29 x30 x33 x45 x46 x52 x53 x61 x62 x63 x65 x66 f1 f2 f3 q4 q5 q6 q7 f8 q9 q10 f11 m12_0 m12_1 m13_0 m13_1 m14_0 m14_1 m15_0 m15_1 f17 q31 f32 f34 f35 f36 f37 q38 f39 f40 f41 m42_0 m42_1 f43 f44 f47 f48 f49 f50 f51 q54 q55 q56 f57 q58 f59 f60 f64 hx16 hx18 hx19 hz21_24 hz22_25 hg_9 hx29 hx30 hx33 hx46 hx52 hx53 hx61 hx62 hx63 hx65 hm12_0 hm12_1 hm13_0 hm13_1 hm14_0 (by omega) hm15_0 hm15_1 hm42_0 hm42_1) (cwV 0 hts g_EM_readLine_1_EM_readEdge_1 rfl rfl rfl (by decide +kernel) ⟨Nat.le_of_ble_eq_true rfl, Nat.le_of_ble_eq_true rfl⟩) ⟨pu_bl, va_recv hK hP (ci := 9) (q0 := 0) rfl rfl, pu_in hP hK hD⟩ rfl rfl hl.1 rfl (lv_room (Nat.le_of_ble_eq_true rfl)) dX9_readLine_218 ⟨Nat.le_of_ble_eq_true rfl, Nat.le_of_ble_eq_true rfl⟩) hS (fun q _ h => hFc q h) hFc (fun u t H1 locs ht hvm hw hB hz1 hk1 hS => ?_)
            obtain ⟨z10_31, z11_32, z5_33, z6_34, z7_35, z8_36, z9_37, z14_1_38, z20_39, z21_40, z22_41, z23_42, z26_43, z27_44, ⟨hP1, -, hD1⟩, hz14_1_38, hz21_40, hz22_41, hz26_43, xr_30_0, xr_30_1⟩ := hB
            rw [ht] at hP1
            have hP := hP1
            have hD := pu_all hFc hD1
            clear hP1 hD1 hFc
            clear hk1 hz1 ht hvm
            generalize H1 = H at hP hS ⊢
            have hsp := hsp.trans (slet_eq xr_30_1)
            exact W.vret hx hb hr (fun t ht hW => ⟨⟨(), rfl, trivial, ⟨f1, z10_31, z11_32, f2, f3, q4, z5_33, z6_34, z7_35, z8_36, z9_37, m12_1, m13_1, z14_1_38, m15_1, z20_39, z21_40, z22_41, z23_42, z26_43, z27_44, ⟨by rw [ht]; exact hP, va_K.moved hW.alike hK, hD⟩, hm12_1, hm13_1, hz14_1_38, hm15_1, hz21_40, hz22_41, hz26_43, by omega, by omega, (hsp.symm.trans hRR)⟩⟩, hS.F ht⟩) hS.2.2 dX9_readLine_221
          · have c_29 : ¬ u_6 = 0 := fun z => c_29 ((nI_eq (a := u_6) (b := 0) (Nat.lt_of_le_of_lt hu_6 (Nat.le_of_ble_eq_true rfl)) (Nat.le_of_ble_eq_true rfl)).mpr z)
            have hsp := hsp.trans (if_neg c_29)
            refine lv_aload_n hx hb dX9_readLine_201 rfl (lv_at hl 0 rfl) ?_
            refine va_get (D := (dC, dI)) (ci := 9) (v := .ref (ad 15)) (C := RX9) (T := TX9) (N := 67) hx hb hts hiX9 hown hK hP 0 rfl rfl 15 (by decide) v_17 (fun _ h9 => h9) rfl dX9_readLine_202 ?_
            refine lv_aload_n hx hb dX9_readLine_205 rfl (lv_at hl 0 rfl) ?_
            refine va_get (D := (dC, dI)) (ci := 9) (v := .int 1) (C := RX9) (T := TX9) (N := 67) hx hb hts hiX9 hown hK hP 0 rfl rfl 28 (by decide) v_11 (fun _ h9 => h9) rfl dX9_readLine_206 ?_
            refine lv_aload_n hx hb dX9_readLine_209 rfl (lv_at hl 0 rfl) ?_
            have hFc := pu_free hD hS hA
            refine va_calli (va_runV (As := []) (rest := [.int 1, .ref (ad 15)]) ⟨hx, hb, hml, hown, hts⟩ (c_EM_toldPlace_1 l dC dI _ ad ck x0 x16 x18 x19 z20_23 z21_24 z22_25 z23_26 x24 x25 g_9 g_10 x29 x30 x33 x45 x46 x52 x53 x61 x62 x63 x65 x66 f1 f2 f3 q4 q5 q6 q7 f8 q9 q10 f11 m12_0 m12_1 m13_0 m13_1 m14_0 m14_1 m15_0 m15_1 f17 q31 f32 f34 f35 f36 f37 q38 f39 f40 f41 m42_0 m42_1 f43 f44 f47 f48 f49 f50 f51 q54 q55 q56 f57 q58 f59 f60 f64 hx16 hx18 hx19 hz21_24 hz22_25 hg_9 hx29 hx30 hx33 hx46 hx52 hx53 hx61 hx62 hx63 hx65 hm12_0 hm12_1 hm13_0 hm13_1 hm14_0 hm14_1 hm15_0 hm15_1 hm42_0 hm42_1) (cwV 0 hts g_EM_readLine_1_EM_toldPlace_1 rfl rfl rfl (by decide +kernel) ⟨Nat.le_of_ble_eq_true rfl, Nat.le_of_ble_eq_true rfl⟩) ⟨pu_bl, va_recv hK hP (ci := 9) (q0 := 0) rfl rfl, pu_in hP hK hD⟩ rfl rfl hl.1 rfl (lv_room (Nat.le_of_ble_eq_true rfl)) dX9_readLine_210 ⟨Nat.le_of_ble_eq_true rfl, Nat.le_of_ble_eq_true rfl⟩) hS (fun q _ h => hFc q h) hFc (fun r_45 u t H1 locs ht hvm hw hB hz1 hk1 hS => ?_)
            obtain ⟨z20_46, z21_47, z22_48, z23_49, z26_50, z27_51, ⟨hP1, -, hD1⟩, hz21_47, hz22_48, hz26_50, xr_45_0, xr_45_1⟩ := hB
            rw [ht] at hP1
            have hP := hP1
            have hD := pu_all hFc hD1
            clear hP1 hD1 hFc
            clear hk1 hz1 ht hvm
            generalize H1 = H at hP hS ⊢
            obtain ⟨u_52, hu_52, rfl, iu_52⟩ := hw
            have iu_52 : (u_52, z20_46, z21_47, z22_48, z23_49, z26_50, z27_51) = (sp_EM_toldPlace_1 x19 z20_23 z21_24 z22_25 z23_26 g_9 g_10 f2 m13_1 f17) := Prod.ext iu_52 xr_45_1
            have hsp := hsp.trans (slet_eq iu_52)
            refine va_iast hx hb hK hP hD hS 15 14 rfl rfl (vp_in_nI (n := 1) (Nat.le_of_ble_eq_true rfl) (Nat.le_of_ble_eq_true rfl)) dX9_readLine_213 (fun H locs hP hD hS => ?_)
            have hP : va_P (dC, dI) vwCl (mo_w ad ck x0 (nI x16) (nI x18) (nI x19) z20_46 (nI z21_47) (nI z22_48) z23_49 x24 x25 (nI z26_50) z27_51 1 (nI x29) (nI x30) (nI x33) x45 (nI x46) (nI x52) (nI x53) (nI x61) (nI x62) (nI x63) (nI x65) x66 f1 f2 f3 (bN 3 q4) (bN 7 q5) (bN 7 q6) (bN 4 q7) f8 (bN 2 q9) (bH q10) f11 (b2 m12_0 m12_1) (b2 m13_0 m13_1) (b2 m14_0 m14_1) (b2m m15_0 (u_52 + 1)) f17 (bA 159 q31) f32 f34 f35 f36 f37 (bN 7 q38) f39 f40 f41 (b2 m42_0 m42_1) f43 f44 f47 f48 f49 f50 f51 (bN 13 q54) (bN 120 q55) (bN 120 q56) f57 (bN 120 q58) f59 f60 f64) H := by rw [← b2m_up1 (a := m15_0) (b := m15_1) (v := u_52)]; exact hP
            have hD : va_D A (mo_w ad ck x0 (nI x16) (nI x18) (nI x19) z20_46 (nI z21_47) (nI z22_48) z23_49 x24 x25 (nI z26_50) z27_51 1 (nI x29) (nI x30) (nI x33) x45 (nI x46) (nI x52) (nI x53) (nI x61) (nI x62) (nI x63) (nI x65) x66 f1 f2 f3 (bN 3 q4) (bN 7 q5) (bN 7 q6) (bN 4 q7) f8 (bN 2 q9) (bH q10) f11 (b2 m12_0 m12_1) (b2 m13_0 m13_1) (b2 m14_0 m14_1) (b2m m15_0 (u_52 + 1)) f17 (bA 159 q31) f32 f34 f35 f36 f37 (bN 7 q38) f39 f40 f41 (b2 m42_0 m42_1) f43 f44 f47 f48 f49 f50 f51 (bN 13 q54) (bN 120 q55) (bN 120 q56) f57 (bN 120 q58) f59 f60 f64) := by rw [← b2m_up1 (a := m15_0) (b := m15_1) (v := u_52)]; exact hD
            refine lv_goto (tgt := 221) hx hb dX9_readLine_214 (by decide) ?_
            exact W.vret hx hb hr (fun t ht hW => ⟨⟨(), rfl, trivial, ⟨f1, q10, f11, f2, f3, q4, q5, q6, q7, f8, q9, m12_1, m13_1, m14_1, (u_52 + 1), z20_46, z21_47, z22_48, z23_49, z26_50, z27_51, ⟨by rw [ht]; exact hP, va_K.moved hW.alike hK, hD⟩, hm12_1, hm13_1, hm14_1, (by omega), hz21_47, hz22_48, hz26_50, by omega, by omega, (hsp.symm.trans hRR)⟩⟩, hS.F ht⟩) hS.2.2 dX9_readLine_221
        · have c_28 : ¬ u_4 = 0 := fun z => c_28 ((nI_eq (a := u_4) (b := 0) (Nat.lt_of_le_of_lt hu_4 (Nat.le_of_ble_eq_true rfl)) (Nat.le_of_ble_eq_true rfl)).mpr z)
          have hsp := hsp.trans (if_neg c_28)
          refine lv_aload_n hx hb dX9_readLine_190 rfl (lv_at hl 0 rfl) ?_
          have hFc := pu_free hD hS hA
          refine va_callv (va_runV (As := []) (rest := []) ⟨hx, hb, hml, hown, hts⟩ (c_EM_readPlace_1 l dC dI _ ad ck x0 x16 x18 x19 z20_23 z21_24 z22_25 z23_26 x24 x25 g_9 g_10 x29 x30 x33 x45 x46 x52 x53 x61 x62 x63 x65 x66 f1 f2 f3 q4 q5 q6 q7 f8 q9 q10 f11 m12_0 m12_1 m13_0 m13_1 m14_0 m14_1 m15_0 m15_1 f17 q31 f32 f34 f35 f36 f37 q38 f39 f40 f41 m42_0 m42_1 f43 f44 f47 f48 f49 f50 f51 q54 q55 q56 f57 q58 f59 f60 f64 hx16 hx18 hx19 hz21_24 hz22_25 hg_9 hx29 hx30 hx33 hx46 hx52 hx53 hx61 hx62 hx63 hx65 hm12_0 hm12_1 hm13_0 (by omega) hm14_0 hm14_1 hm15_0 hm15_1 hm42_0 hm42_1) (cwV 0 hts g_EM_readLine_1_EM_readPlace_1 rfl rfl rfl (by decide +kernel) ⟨Nat.le_of_ble_eq_true rfl, Nat.le_of_ble_eq_true rfl⟩) ⟨pu_bl, va_recv hK hP (ci := 9) (q0 := 0) rfl rfl, pu_in hP hK hD⟩ rfl rfl hl.1 rfl (lv_room (Nat.le_of_ble_eq_true rfl)) dX9_readLine_191 ⟨Nat.le_of_ble_eq_true rfl, Nat.le_of_ble_eq_true rfl⟩) hS (fun q _ h => hFc q h) hFc (fun u t H1 locs ht hvm hw hB hz1 hk1 hS => ?_)
          obtain ⟨z10_54, z11_55, z2_56, z3_57, z4_58, z9_59, z13_1_60, z20_61, z21_62, z22_63, z23_64, z26_65, z27_66, ⟨hP1, -, hD1⟩, hz13_1_60, hz21_62, hz22_63, hz26_65, xr_53_0, xr_53_1⟩ := hB
          rw [ht] at hP1
          have hP := hP1
          have hD := pu_all hFc hD1
          clear hP1 hD1 hFc
          clear hk1 hz1 ht hvm
          generalize H1 = H at hP hS ⊢
          have hsp := hsp.trans (slet_eq xr_53_1)
          refine lv_goto (tgt := 221) hx hb dX9_readLine_194 (by decide) ?_
          exact W.vret hx hb hr (fun t ht hW => ⟨⟨(), rfl, trivial, ⟨f1, z10_54, z11_55, z2_56, z3_57, z4_58, q5, q6, q7, f8, z9_59, m12_1, z13_1_60, m14_1, m15_1, z20_61, z21_62, z22_63, z23_64, z26_65, z27_66, ⟨by rw [ht]; exact hP, va_K.moved hW.alike hK, hD⟩, hm12_1, hz13_1_60, hm14_1, hm15_1, hz21_62, hz22_63, hz26_65, by omega, by omega, (hsp.symm.trans hRR)⟩⟩, hS.F ht⟩) hS.2.2 dX9_readLine_221
      · have c_27 : ¬ u_2 = 0 := fun z => c_27 ((nI_eq (a := u_2) (b := 0) (Nat.lt_of_le_of_lt hu_2 (Nat.le_of_ble_eq_true rfl)) (Nat.le_of_ble_eq_true rfl)).mpr z)
        have hsp := hsp.trans (if_neg c_27)
        refine lv_aload_n hx hb dX9_readLine_145 rfl (lv_at hl 0 rfl) ?_
        refine va_get (D := (dC, dI)) (ci := 9) (v := .ref (ad 1)) (C := RX9) (T := TX9) (N := 67) hx hb hts hiX9 hown hK hP 0 rfl rfl 1 (by decide) v_39 (fun _ h9 => h9) rfl dX9_readLine_146 ?_
        refine lv_iconst (v := 3) hx hb dX9_readLine_149 (by decide) ?_
        refine lv_aload_n hx hb dX9_readLine_150 rfl (lv_at hl 0 rfl) ?_
        refine va_get (D := (dC, dI)) (ci := 9) (v := .int 1) (C := RX9) (T := TX9) (N := 67) hx hb hts hiX9 hown hK hP 0 rfl rfl 28 (by decide) v_11 (fun _ h9 => h9) rfl dX9_readLine_151 ?_
        refine lv_imul hx hb dX9_readLine_154 ?_
        refine lv_topi (fun y_67 ey_67 => ?_)
        obtain rfl : y_67 = 3 := ey_67.trans (by decide)
        refine lv_aload_n hx hb dX9_readLine_155 rfl (lv_at hl 0 rfl) ?_
        refine va_get (D := (dC, dI)) (ci := 9) (v := .ref (ad 12)) (C := RX9) (T := TX9) (N := 67) hx hb hts hiX9 hown hK hP 0 rfl rfl 12 (by decide) v_10 (fun _ h9 => h9) rfl dX9_readLine_156 ?_
        refine lv_aload_n hx hb dX9_readLine_159 rfl (lv_at hl 0 rfl) ?_
        refine va_get (D := (dC, dI)) (ci := 9) (v := .int 1) (C := RX9) (T := TX9) (N := 67) hx hb hts hiX9 hown hK hP 0 rfl rfl 28 (by decide) v_11 (fun _ h9 => h9) rfl dX9_readLine_160 ?_
        refine va_iald hx hb hK hP 12 11 rfl rfl (vp_in_nI (n := 1) (Nat.le_of_ble_eq_true rfl) (Nat.le_of_ble_eq_true rfl)) dX9_readLine_163 ?_
        refine lv_topi (fun y_68 ey_68 => ?_)
        have qy_68 := ey_68.trans b2_1
        clear ey_68
        obtain rfl : y_68 = nI m12_1 := qy_68
        refine lv_iadd hx hb dX9_readLine_164 ?_
        refine lv_topi (fun y_69 ey_69 => ?_)
        obtain rfl : y_69 = (nI (3 + m12_1)) := ey_69.trans (nI_add 3 m12_1)
        refine lv_aload_n hx hb dX9_readLine_165 rfl (lv_at hl 0 rfl) ?_
        have hFc := pu_free hD hS hA
        refine va_calli (va_runV (As := []) (rest := [.int (nI (3 + m12_1)), .ref (ad 1)]) ⟨hx, hb, hml, hown, hts⟩ (c_EM_freshName_1 l dC dI _ ad ck x0 x16 x18 x19 z20_23 z21_24 z22_25 z23_26 x24 x25 g_9 g_10 x29 x30 x33 x45 x46 x52 x53 x61 x62 x63 x65 x66 f1 f2 f3 q4 q5 q6 q7 f8 q9 q10 f11 m12_0 m12_1 m13_0 m13_1 m14_0 m14_1 m15_0 m15_1 f17 q31 f32 f34 f35 f36 f37 q38 f39 f40 f41 m42_0 m42_1 f43 f44 f47 f48 f49 f50 f51 q54 q55 q56 f57 q58 f59 f60 f64 hx16 hx18 hx19 hz21_24 hz22_25 hg_9 hx29 hx30 hx33 hx46 hx52 hx53 hx61 hx62 hx63 hx65 hm12_0 hm12_1 hm13_0 hm13_1 hm14_0 hm14_1 hm15_0 hm15_1 hm42_0 hm42_1) (cwV 0 hts g_EM_readLine_1_EM_freshName_1 rfl rfl rfl (by decide +kernel) ⟨Nat.le_of_ble_eq_true rfl, Nat.le_of_ble_eq_true rfl⟩) ⟨pu_bl, va_recv hK hP (ci := 9) (q0 := 0) rfl rfl, pu_in hP hK hD⟩ rfl rfl hl.1 rfl (lv_room (Nat.le_of_ble_eq_true rfl)) dX9_readLine_166 ⟨Nat.le_of_ble_eq_true rfl, Nat.le_of_ble_eq_true rfl⟩) hS (fun q _ h => hFc q h) hFc (fun r_70 u t H1 locs ht hvm hw hB hz1 hk1 hS => ?_)
        obtain ⟨z20_71, z21_72, z22_73, z23_74, z26_75, z27_76, ⟨hP1, -, hD1⟩, hz21_72, hz22_73, hz26_75, xr_70_0, xr_70_1⟩ := hB
        rw [ht] at hP1
        have hP := hP1
        have hD := pu_all hFc hD1
        clear hP1 hD1 hFc
        clear hk1 hz1 ht hvm
        generalize H1 = H at hP hS ⊢
        have ir_70 := hw
        have ir_70 : (r_70, z20_71, z21_72, z22_73, z23_74, z26_75, z27_76) = (sp_EM_freshName_1 x19 z20_23 z21_24 z22_25 z23_26 g_9 g_10 f1 f2 m12_1 m13_1 f17) := Prod.ext ir_70 xr_70_1
        have hsp := hsp.trans (slet_eq ir_70)
        refine va_iast hx hb hK hP hD hS 1 0 rfl rfl (vp_in_nI (n := (3 + m12_1)) (by omega) (Nat.le_of_ble_eq_true rfl)) dX9_readLine_169 (fun H locs hP hD hS => ?_)
        obtain ⟨f_77, ef_77, xf_77⟩ := up_x f1 (n := (3 + m12_1)) r_70 (by omega)
        have hP : va_P (dC, dI) vwCl (mo_w ad ck x0 (nI x16) (nI x18) (nI x19) z20_71 (nI z21_72) (nI z22_73) z23_74 x24 x25 (nI z26_75) z27_76 1 (nI x29) (nI x30) (nI x33) x45 (nI x46) (nI x52) (nI x53) (nI x61) (nI x62) (nI x63) (nI x65) x66 f_77 f2 f3 (bN 3 q4) (bN 7 q5) (bN 7 q6) (bN 4 q7) f8 (bN 2 q9) (bH q10) f11 (b2 m12_0 m12_1) (b2 m13_0 m13_1) (b2 m14_0 m14_1) (b2m m15_0 m15_1) f17 (bA 159 q31) f32 f34 f35 f36 f37 (bN 7 q38) f39 f40 f41 (b2 m42_0 m42_1) f43 f44 f47 f48 f49 f50 f51 (bN 13 q54) (bN 120 q55) (bN 120 q56) f57 (bN 120 q58) f59 f60 f64) H := by rw [← ef_77]; exact hP
        have hD : va_D A (mo_w ad ck x0 (nI x16) (nI x18) (nI x19) z20_71 (nI z21_72) (nI z22_73) z23_74 x24 x25 (nI z26_75) z27_76 1 (nI x29) (nI x30) (nI x33) x45 (nI x46) (nI x52) (nI x53) (nI x61) (nI x62) (nI x63) (nI x65) x66 f_77 f2 f3 (bN 3 q4) (bN 7 q5) (bN 7 q6) (bN 4 q7) f8 (bN 2 q9) (bH q10) f11 (b2 m12_0 m12_1) (b2 m13_0 m13_1) (b2 m14_0 m14_1) (b2m m15_0 m15_1) f17 (bA 159 q31) f32 f34 f35 f36 f37 (bN 7 q38) f39 f40 f41 (b2 m42_0 m42_1) f43 f44 f47 f48 f49 f50 f51 (bN 13 q54) (bN 120 q55) (bN 120 q56) f57 (bN 120 q58) f59 f60 f64) := by rw [← ef_77]; exact hD
        have hsp := hsp.trans (slet_eq xf_77)
        refine lv_aload_n hx hb dX9_readLine_170 rfl (lv_at hl 0 rfl) ?_
        refine va_get (D := (dC, dI)) (ci := 9) (v := .ref (ad 12)) (C := RX9) (T := TX9) (N := 67) hx hb hts hiX9 hown hK hP 0 rfl rfl 12 (by decide) v_10 (fun _ h9 => h9) rfl dX9_readLine_171 ?_
        refine lv_aload_n hx hb dX9_readLine_174 rfl (lv_at hl 0 rfl) ?_
        refine va_get (D := (dC, dI)) (ci := 9) (v := .int 1) (C := RX9) (T := TX9) (N := 67) hx hb hts hiX9 hown hK hP 0 rfl rfl 28 (by decide) v_11 (fun _ h9 => h9) rfl dX9_readLine_175 ?_
        refine lv_dup2_11 hx hb dX9_readLine_178 rfl rfl ?_
        refine va_iald hx hb hK hP 12 11 rfl rfl (vp_in_nI (n := 1) (Nat.le_of_ble_eq_true rfl) (Nat.le_of_ble_eq_true rfl)) dX9_readLine_179 ?_
        refine lv_topi (fun y_78 ey_78 => ?_)
        have qy_78 := ey_78.trans b2_1
        clear ey_78
        obtain rfl : y_78 = nI m12_1 := qy_78
        refine lv_iconst (v := 1) hx hb dX9_readLine_180 (by decide) ?_
        refine lv_iadd hx hb dX9_readLine_181 ?_
        refine lv_topi (fun y_79 ey_79 => ?_)
        obtain rfl : y_79 = (nI (m12_1 + 1)) := ey_79.trans (nI_add m12_1 1)
        refine va_iast hx hb hK hP hD hS 12 11 rfl rfl (vp_in_nI (n := 1) (Nat.le_of_ble_eq_true rfl) (Nat.le_of_ble_eq_true rfl)) dX9_readLine_182 (fun H locs hP hD hS => ?_)
        have hP : va_P (dC, dI) vwCl (mo_w ad ck x0 (nI x16) (nI x18) (nI x19) z20_71 (nI z21_72) (nI z22_73) z23_74 x24 x25 (nI z26_75) z27_76 1 (nI x29) (nI x30) (nI x33) x45 (nI x46) (nI x52) (nI x53) (nI x61) (nI x62) (nI x63) (nI x65) x66 f_77 f2 f3 (bN 3 q4) (bN 7 q5) (bN 7 q6) (bN 4 q7) f8 (bN 2 q9) (bH q10) f11 (b2 m12_0 (m12_1 + 1)) (b2 m13_0 m13_1) (b2 m14_0 m14_1) (b2m m15_0 m15_1) f17 (bA 159 q31) f32 f34 f35 f36 f37 (bN 7 q38) f39 f40 f41 (b2 m42_0 m42_1) f43 f44 f47 f48 f49 f50 f51 (bN 13 q54) (bN 120 q55) (bN 120 q56) f57 (bN 120 q58) f59 f60 f64) H := by rw [← b2_up1 (a := m12_0) (b := m12_1) (v := (m12_1 + 1))]; exact hP
        have hD : va_D A (mo_w ad ck x0 (nI x16) (nI x18) (nI x19) z20_71 (nI z21_72) (nI z22_73) z23_74 x24 x25 (nI z26_75) z27_76 1 (nI x29) (nI x30) (nI x33) x45 (nI x46) (nI x52) (nI x53) (nI x61) (nI x62) (nI x63) (nI x65) x66 f_77 f2 f3 (bN 3 q4) (bN 7 q5) (bN 7 q6) (bN 4 q7) f8 (bN 2 q9) (bH q10) f11 (b2 m12_0 (m12_1 + 1)) (b2 m13_0 m13_1) (b2 m14_0 m14_1) (b2m m15_0 m15_1) f17 (bA 159 q31) f32 f34 f35 f36 f37 (bN 7 q38) f39 f40 f41 (b2 m42_0 m42_1) f43 f44 f47 f48 f49 f50 f51 (bN 13 q54) (bN 120 q55) (bN 120 q56) f57 (bN 120 q58) f59 f60 f64) := by rw [← b2_up1 (a := m12_0) (b := m12_1) (v := (m12_1 + 1))]; exact hD
        refine lv_goto (tgt := 221) hx hb dX9_readLine_183 (by decide) ?_
        exact W.vret hx hb hr (fun t ht hW => ⟨⟨(), rfl, trivial, ⟨f_77, q10, f11, f2, f3, q4, q5, q6, q7, f8, q9, (m12_1 + 1), m13_1, m14_1, m15_1, z20_71, z21_72, z22_73, z23_74, z26_75, z27_76, ⟨by rw [ht]; exact hP, va_K.moved hW.alike hK, hD⟩, (by omega), hm13_1, hm14_1, hm15_1, hz21_72, hz22_73, hz26_75, by omega, by omega, (hsp.symm.trans hRR)⟩⟩, hS.F ht⟩) hS.2.2 dX9_readLine_221
    · have c_21 : u_20 = 0 := (nI_eq (a := u_20) (b := 0) (Nat.lt_of_le_of_lt hu_20 (Nat.le_of_ble_eq_true rfl)) (Nat.le_of_ble_eq_true rfl)).mp c_21
      have hsp := hsp.trans (if_pos c_21)
      exact W.vret hx hb hr (fun t ht hW => ⟨⟨(), rfl, trivial, ⟨f1, q10, f11, f2, f3, q4, q5, q6, q7, f8, q9, m12_1, m13_1, m14_1, m15_1, x20, x21, x22, x23, g_9, g_10, ⟨by rw [ht]; exact hP, va_K.moved hW.alike hK, hD⟩, hm12_1, hm13_1, hm14_1, hm15_1, hx21, hx22, hg_9, by omega, by omega, (hsp.symm.trans hRR)⟩⟩, hS.F ht⟩) hS.2.2 dX9_readLine_136
  have hsp := hJR_17
  refine lv_if_ne (tgt := 54) hx hb dX9_readLine_30 (by decide) (fun c_80 => ?_) (fun c_80 => ?_)
  · have c_80 : ¬ u_2 = 0 := fun z => c_80 ((nI_eq (a := u_2) (b := 0) (Nat.lt_of_le_of_lt hu_2 (Nat.le_of_ble_eq_true rfl)) (Nat.le_of_ble_eq_true rfl)).mpr z)
    have hsp := hsp.trans (if_neg c_80)
    refine lv_iload_n hx hb dX9_readLine_54 rfl (lv_at hl 3 rfl) ?_
    refine lv_if_eq (tgt := 71) hx hb dX9_readLine_55 (by decide) (fun c_81 => ?_) (fun c_81 => ?_)
    · have c_81 : u_2 = 0 := (nI_eq (a := u_2) (b := 0) (Nat.lt_of_le_of_lt hu_2 (Nat.le_of_ble_eq_true rfl)) (Nat.le_of_ble_eq_true rfl)).mp c_81
      exfalso
      omega
    · have c_81 : ¬ u_2 = 0 := fun z => c_81 ((nI_eq (a := u_2) (b := 0) (Nat.lt_of_le_of_lt hu_2 (Nat.le_of_ble_eq_true rfl)) (Nat.le_of_ble_eq_true rfl)).mpr z)
      refine lv_aload_n hx hb dX9_readLine_58 rfl (lv_at hl 4 rfl) ?_
      refine va_get (D := (dC, dI)) (ci := 9) (v := .ref (ad 12)) (C := RX9) (T := TX9) (N := 67) hx hb hts hiX9 hown hK hP 0 rfl rfl 12 (by decide) v_10 (fun _ h9 => h9) rfl dX9_readLine_59 ?_
      refine lv_aload_n hx hb dX9_readLine_62 rfl (lv_at hl 4 rfl) ?_
      refine va_get (D := (dC, dI)) (ci := 9) (v := .int 1) (C := RX9) (T := TX9) (N := 67) hx hb hts hiX9 hown hK hP 0 rfl rfl 28 (by decide) v_11 (fun _ h9 => h9) rfl dX9_readLine_63 ?_
      refine va_iald hx hb hK hP 12 11 rfl rfl (vp_in_nI (n := 1) (Nat.le_of_ble_eq_true rfl) (Nat.le_of_ble_eq_true rfl)) dX9_readLine_66 ?_
      refine lv_topi (fun y_82 ey_82 => ?_)
      have qy_82 := ey_82.trans b2_1
      clear ey_82
      obtain rfl : y_82 = nI m12_1 := qy_82
      refine lv_iconst (v := 3) hx hb dX9_readLine_67 (by decide) ?_
      refine lv_icmp_eq (tgt := 124) hx hb dX9_readLine_68 (by decide) (fun c_83 => ?_) (fun c_83 => ?_)
      · have c_83 : m12_1 = 3 := (nI_eq (a := m12_1) (b := 3) (Nat.lt_of_le_of_lt hm12_1 (Nat.le_of_ble_eq_true rfl)) (Nat.le_of_ble_eq_true rfl)).mp c_83
        have hsp := hsp.trans (if_pos c_83)
        refine lv_aload_n hx hb dX9_readLine_124 rfl (lv_at hl 4 rfl) ?_
        refine lv_iconst (v := 5) hx hb dX9_readLine_125 (by decide) ?_
        have hFc := pu_free hD hS hA
        refine va_callv (va_runV (As := [.int 5]) (rest := []) ⟨hx, hb, hml, hown, hts⟩ (c_EM_fails l dC dI _ ad ck x0 x16 x18 x19 x20 x21 x22 x23 x24 x25 x26 x27 1 x29 x30 x33 x45 x46 x52 x53 x61 x62 x63 x65 x66 f1 f2 f3 q4 q5 q6 q7 f8 q9 q10 f11 m12_0 m12_1 m13_0 m13_1 m14_0 m14_1 m15_0 m15_1 f17 q31 f32 f34 f35 f36 f37 q38 f39 f40 f41 m42_0 m42_1 f43 f44 f47 f48 f49 f50 f51 q54 q55 q56 f57 q58 f59 f60 f64 5 hx16 hx18 hx19 hx21 hx22 hx26 (Nat.le_of_ble_eq_true rfl) hx29 hx30 hx33 hx46 hx52 hx53 hx61 hx62 hx63 hx65 hm12_0 hm12_1 hm13_0 hm13_1 hm14_0 hm14_1 hm15_0 hm15_1 hm42_0 hm42_1 (Nat.le_of_ble_eq_true rfl) (by omega)) (cwV 1 hts g_EM_readLine_1_EM_fails rfl rfl rfl (by decide +kernel) ⟨Nat.le_of_ble_eq_true rfl, Nat.le_of_ble_eq_true rfl⟩) ⟨pu_bl, va_recv hK hP (ci := 9) (q0 := 0) rfl rfl, pu_in hP hK hD⟩ rfl rfl hl.1 rfl (lv_room (Nat.le_of_ble_eq_true rfl)) dX9_readLine_126 ⟨Nat.le_of_ble_eq_true rfl, Nat.le_of_ble_eq_true rfl⟩) hS (fun q _ h => hFc q h) hFc (fun u t H1 locs ht hvm hw hB hz1 hk1 hS => ?_)
        obtain ⟨z26_85, z27_86, ⟨hP1, -, hD1⟩, hz26_85, xr_84_0, xr_84_1⟩ := hB
        rw [ht] at hP1
        have hP := hP1
        have hD := pu_all hFc hD1
        clear hP1 hD1 hFc
        clear hk1 hz1 ht hvm
        generalize H1 = H at hP hS ⊢
        have hsp := hsp.trans (slet_eq xr_84_1)
        exact j_16 _ _ _ _ ⟨z26_85, z27_86, rfl, hz26_85, by omega, by omega, by omega, by omega, by omega, hsp.symm, hP, hD, hS, lv_sub hl [4, 3, 2, 1, 0] rfl⟩
      · have c_83 : ¬ m12_1 = 3 := fun z => c_83 ((nI_eq (a := m12_1) (b := 3) (Nat.lt_of_le_of_lt hm12_1 (Nat.le_of_ble_eq_true rfl)) (Nat.le_of_ble_eq_true rfl)).mpr z)
        have hsp := hsp.trans (if_neg c_83)
        refine lv_iload_n hx hb dX9_readLine_71 rfl (lv_at hl 2 rfl) ?_
        refine lv_if_eq (tgt := 89) hx hb dX9_readLine_72 (by decide) (fun c_87 => ?_) (fun c_87 => ?_)
        · have c_87 : u_4 = 0 := (nI_eq (a := u_4) (b := 0) (Nat.lt_of_le_of_lt hu_4 (Nat.le_of_ble_eq_true rfl)) (Nat.le_of_ble_eq_true rfl)).mp c_87
          have hsp := hsp.trans (if_pos c_87)
          refine lv_iload_n hx hb dX9_readLine_89 rfl (lv_at hl 1 rfl) ?_
          refine lv_if_eq (tgt := 105) hx hb dX9_readLine_90 (by decide) (fun c_88 => ?_) (fun c_88 => ?_)
          · have c_88 : u_6 = 0 := (nI_eq (a := u_6) (b := 0) (Nat.lt_of_le_of_lt hu_6 (Nat.le_of_ble_eq_true rfl)) (Nat.le_of_ble_eq_true rfl)).mp c_88
            have hsp := hsp.trans (if_pos c_88)
            refine lv_iload hx hb dX9_readLine_105 (lv_at hl 0 rfl) ?_
            refine lv_if_eq (tgt := 129) hx hb dX9_readLine_107 (by decide) (fun c_89 => ?_) (fun c_89 => ?_)
            · have c_89 : u_8 = 0 := (nI_eq (a := u_8) (b := 0) (Nat.lt_of_le_of_lt hu_8 (Nat.le_of_ble_eq_true rfl)) (Nat.le_of_ble_eq_true rfl)).mp c_89
              have hsp := hsp.trans (if_pos c_89)
              exact j_16 _ _ _ _ ⟨x26, x27, rfl, hx26, by omega, by omega, by omega, by omega, by omega, hsp.symm, hP, hD, hS, lv_sub hl [4, 3, 2, 1, 0] rfl⟩
            · have c_89 : ¬ u_8 = 0 := fun z => c_89 ((nI_eq (a := u_8) (b := 0) (Nat.lt_of_le_of_lt hu_8 (Nat.le_of_ble_eq_true rfl)) (Nat.le_of_ble_eq_true rfl)).mpr z)
              have hsp := hsp.trans (if_neg c_89)
              refine lv_aload_n hx hb dX9_readLine_110 rfl (lv_at hl 4 rfl) ?_
              refine va_get (D := (dC, dI)) (ci := 9) (v := .ref (ad 14)) (C := RX9) (T := TX9) (N := 67) hx hb hts hiX9 hown hK hP 0 rfl rfl 14 (by decide) v_16 (fun _ h9 => h9) rfl dX9_readLine_111 ?_
              refine lv_aload_n hx hb dX9_readLine_114 rfl (lv_at hl 4 rfl) ?_
              refine va_get (D := (dC, dI)) (ci := 9) (v := .int 1) (C := RX9) (T := TX9) (N := 67) hx hb hts hiX9 hown hK hP 0 rfl rfl 28 (by decide) v_11 (fun _ h9 => h9) rfl dX9_readLine_115 ?_
              refine va_iald hx hb hK hP 14 13 rfl rfl (vp_in_nI (n := 1) (Nat.le_of_ble_eq_true rfl) (Nat.le_of_ble_eq_true rfl)) dX9_readLine_118 ?_
              refine lv_topi (fun y_90 ey_90 => ?_)
              have qy_90 := ey_90.trans b2_1
              clear ey_90
              obtain rfl : y_90 = nI m14_1 := qy_90
              refine lv_bipush (v := 14) hx hb dX9_readLine_119 (by decide) ?_
              refine lv_icmp_ne (tgt := 129) hx hb dX9_readLine_121 (by decide) (fun c_91 => ?_) (fun c_91 => ?_)
              · have c_91 : ¬ m14_1 = 14 := fun z => c_91 ((nI_eq (a := m14_1) (b := 14) (Nat.lt_of_le_of_lt hm14_1 (Nat.le_of_ble_eq_true rfl)) (Nat.le_of_ble_eq_true rfl)).mpr z)
                have hsp := hsp.trans (if_neg c_91)
                exact j_16 _ _ _ _ ⟨x26, x27, rfl, hx26, by omega, by omega, by omega, by omega, by omega, hsp.symm, hP, hD, hS, lv_sub hl [4, 3, 2, 1, 0] rfl⟩
              · have c_91 : m14_1 = 14 := (nI_eq (a := m14_1) (b := 14) (Nat.lt_of_le_of_lt hm14_1 (Nat.le_of_ble_eq_true rfl)) (Nat.le_of_ble_eq_true rfl)).mp c_91
                have hsp := hsp.trans (if_pos c_91)
                refine lv_aload_n hx hb dX9_readLine_124 rfl (lv_at hl 4 rfl) ?_
                refine lv_iconst (v := 5) hx hb dX9_readLine_125 (by decide) ?_
                have hFc := pu_free hD hS hA
                refine va_callv (va_runV (As := [.int 5]) (rest := []) ⟨hx, hb, hml, hown, hts⟩ (c_EM_fails l dC dI _ ad ck x0 x16 x18 x19 x20 x21 x22 x23 x24 x25 x26 x27 1 x29 x30 x33 x45 x46 x52 x53 x61 x62 x63 x65 x66 f1 f2 f3 q4 q5 q6 q7 f8 q9 q10 f11 m12_0 m12_1 m13_0 m13_1 m14_0 m14_1 m15_0 m15_1 f17 q31 f32 f34 f35 f36 f37 q38 f39 f40 f41 m42_0 m42_1 f43 f44 f47 f48 f49 f50 f51 q54 q55 q56 f57 q58 f59 f60 f64 5 hx16 hx18 hx19 hx21 hx22 hx26 (Nat.le_of_ble_eq_true rfl) hx29 hx30 hx33 hx46 hx52 hx53 hx61 hx62 hx63 hx65 hm12_0 hm12_1 hm13_0 hm13_1 hm14_0 hm14_1 hm15_0 hm15_1 hm42_0 hm42_1 (Nat.le_of_ble_eq_true rfl) (by omega)) (cwV 1 hts g_EM_readLine_1_EM_fails rfl rfl rfl (by decide +kernel) ⟨Nat.le_of_ble_eq_true rfl, Nat.le_of_ble_eq_true rfl⟩) ⟨pu_bl, va_recv hK hP (ci := 9) (q0 := 0) rfl rfl, pu_in hP hK hD⟩ rfl rfl hl.1 rfl (lv_room (Nat.le_of_ble_eq_true rfl)) dX9_readLine_126 ⟨Nat.le_of_ble_eq_true rfl, Nat.le_of_ble_eq_true rfl⟩) hS (fun q _ h => hFc q h) hFc (fun u t H1 locs ht hvm hw hB hz1 hk1 hS => ?_)
                obtain ⟨z26_93, z27_94, ⟨hP1, -, hD1⟩, hz26_93, xr_92_0, xr_92_1⟩ := hB
                rw [ht] at hP1
                have hP := hP1
                have hD := pu_all hFc hD1
                clear hP1 hD1 hFc
                clear hk1 hz1 ht hvm
                generalize H1 = H at hP hS ⊢
                have hsp := hsp.trans (slet_eq xr_92_1)
                exact j_16 _ _ _ _ ⟨z26_93, z27_94, rfl, hz26_93, by omega, by omega, by omega, by omega, by omega, hsp.symm, hP, hD, hS, lv_sub hl [4, 3, 2, 1, 0] rfl⟩
          · have c_88 : ¬ u_6 = 0 := fun z => c_88 ((nI_eq (a := u_6) (b := 0) (Nat.lt_of_le_of_lt hu_6 (Nat.le_of_ble_eq_true rfl)) (Nat.le_of_ble_eq_true rfl)).mpr z)
            have hsp := hsp.trans (if_neg c_88)
            refine lv_aload_n hx hb dX9_readLine_93 rfl (lv_at hl 4 rfl) ?_
            refine va_get (D := (dC, dI)) (ci := 9) (v := .ref (ad 15)) (C := RX9) (T := TX9) (N := 67) hx hb hts hiX9 hown hK hP 0 rfl rfl 15 (by decide) v_17 (fun _ h9 => h9) rfl dX9_readLine_94 ?_
            refine lv_aload_n hx hb dX9_readLine_97 rfl (lv_at hl 4 rfl) ?_
            refine va_get (D := (dC, dI)) (ci := 9) (v := .int 1) (C := RX9) (T := TX9) (N := 67) hx hb hts hiX9 hown hK hP 0 rfl rfl 28 (by decide) v_11 (fun _ h9 => h9) rfl dX9_readLine_98 ?_
            refine va_iald hx hb hK hP 15 14 rfl rfl (vp_in_nI (n := 1) (Nat.le_of_ble_eq_true rfl) (Nat.le_of_ble_eq_true rfl)) dX9_readLine_101 ?_
            refine lv_topi (fun y_95 ey_95 => ?_)
            have qy_95 := ey_95.trans b2m_1
            clear ey_95
            rcases mI_get m15_1 with ⟨zy_95, wy_95⟩ | ⟨vy_95, zy_95, wy_95⟩
            · obtain rfl : y_95 = -1 := qy_95.trans wy_95
              have hsp := hsp.trans (if_pos zy_95)
              refine lv_if_ge (tgt := 124) hx hb dX9_readLine_102 (by decide) (fun z => absurd z (by decide)) (fun _ => ?_)
              refine lv_iload hx hb dX9_readLine_105 (lv_at hl 0 rfl) ?_
              refine lv_if_eq (tgt := 129) hx hb dX9_readLine_107 (by decide) (fun c_96 => ?_) (fun c_96 => ?_)
              · have c_96 : u_8 = 0 := (nI_eq (a := u_8) (b := 0) (Nat.lt_of_le_of_lt hu_8 (Nat.le_of_ble_eq_true rfl)) (Nat.le_of_ble_eq_true rfl)).mp c_96
                have hsp := hsp.trans (if_pos c_96)
                exact j_16 _ _ _ _ ⟨x26, x27, rfl, hx26, by omega, by omega, by omega, by omega, by omega, hsp.symm, hP, hD, hS, lv_sub hl [4, 3, 2, 1, 0] rfl⟩
              · have c_96 : ¬ u_8 = 0 := fun z => c_96 ((nI_eq (a := u_8) (b := 0) (Nat.lt_of_le_of_lt hu_8 (Nat.le_of_ble_eq_true rfl)) (Nat.le_of_ble_eq_true rfl)).mpr z)
                have hsp := hsp.trans (if_neg c_96)
                refine lv_aload_n hx hb dX9_readLine_110 rfl (lv_at hl 4 rfl) ?_
                refine va_get (D := (dC, dI)) (ci := 9) (v := .ref (ad 14)) (C := RX9) (T := TX9) (N := 67) hx hb hts hiX9 hown hK hP 0 rfl rfl 14 (by decide) v_16 (fun _ h9 => h9) rfl dX9_readLine_111 ?_
                refine lv_aload_n hx hb dX9_readLine_114 rfl (lv_at hl 4 rfl) ?_
                refine va_get (D := (dC, dI)) (ci := 9) (v := .int 1) (C := RX9) (T := TX9) (N := 67) hx hb hts hiX9 hown hK hP 0 rfl rfl 28 (by decide) v_11 (fun _ h9 => h9) rfl dX9_readLine_115 ?_
                refine va_iald hx hb hK hP 14 13 rfl rfl (vp_in_nI (n := 1) (Nat.le_of_ble_eq_true rfl) (Nat.le_of_ble_eq_true rfl)) dX9_readLine_118 ?_
                refine lv_topi (fun y_97 ey_97 => ?_)
                have qy_97 := ey_97.trans b2_1
                clear ey_97
                obtain rfl : y_97 = nI m14_1 := qy_97
                refine lv_bipush (v := 14) hx hb dX9_readLine_119 (by decide) ?_
                refine lv_icmp_ne (tgt := 129) hx hb dX9_readLine_121 (by decide) (fun c_98 => ?_) (fun c_98 => ?_)
                · have c_98 : ¬ m14_1 = 14 := fun z => c_98 ((nI_eq (a := m14_1) (b := 14) (Nat.lt_of_le_of_lt hm14_1 (Nat.le_of_ble_eq_true rfl)) (Nat.le_of_ble_eq_true rfl)).mpr z)
                  have hsp := hsp.trans (if_neg c_98)
                  exact j_16 _ _ _ _ ⟨x26, x27, rfl, hx26, by omega, by omega, by omega, by omega, by omega, hsp.symm, hP, hD, hS, lv_sub hl [4, 3, 2, 1, 0] rfl⟩
                · have c_98 : m14_1 = 14 := (nI_eq (a := m14_1) (b := 14) (Nat.lt_of_le_of_lt hm14_1 (Nat.le_of_ble_eq_true rfl)) (Nat.le_of_ble_eq_true rfl)).mp c_98
                  have hsp := hsp.trans (if_pos c_98)
                  refine lv_aload_n hx hb dX9_readLine_124 rfl (lv_at hl 4 rfl) ?_
                  refine lv_iconst (v := 5) hx hb dX9_readLine_125 (by decide) ?_
                  have hFc := pu_free hD hS hA
                  refine va_callv (va_runV (As := [.int 5]) (rest := []) ⟨hx, hb, hml, hown, hts⟩ (c_EM_fails l dC dI _ ad ck x0 x16 x18 x19 x20 x21 x22 x23 x24 x25 x26 x27 1 x29 x30 x33 x45 x46 x52 x53 x61 x62 x63 x65 x66 f1 f2 f3 q4 q5 q6 q7 f8 q9 q10 f11 m12_0 m12_1 m13_0 m13_1 m14_0 m14_1 m15_0 m15_1 f17 q31 f32 f34 f35 f36 f37 q38 f39 f40 f41 m42_0 m42_1 f43 f44 f47 f48 f49 f50 f51 q54 q55 q56 f57 q58 f59 f60 f64 5 hx16 hx18 hx19 hx21 hx22 hx26 (Nat.le_of_ble_eq_true rfl) hx29 hx30 hx33 hx46 hx52 hx53 hx61 hx62 hx63 hx65 hm12_0 hm12_1 hm13_0 hm13_1 hm14_0 hm14_1 hm15_0 hm15_1 hm42_0 hm42_1 (Nat.le_of_ble_eq_true rfl) (by omega)) (cwV 1 hts g_EM_readLine_1_EM_fails rfl rfl rfl (by decide +kernel) ⟨Nat.le_of_ble_eq_true rfl, Nat.le_of_ble_eq_true rfl⟩) ⟨pu_bl, va_recv hK hP (ci := 9) (q0 := 0) rfl rfl, pu_in hP hK hD⟩ rfl rfl hl.1 rfl (lv_room (Nat.le_of_ble_eq_true rfl)) dX9_readLine_126 ⟨Nat.le_of_ble_eq_true rfl, Nat.le_of_ble_eq_true rfl⟩) hS (fun q _ h => hFc q h) hFc (fun u t H1 locs ht hvm hw hB hz1 hk1 hS => ?_)
                  obtain ⟨z26_100, z27_101, ⟨hP1, -, hD1⟩, hz26_100, xr_99_0, xr_99_1⟩ := hB
                  rw [ht] at hP1
                  have hP := hP1
                  have hD := pu_all hFc hD1
                  clear hP1 hD1 hFc
                  clear hk1 hz1 ht hvm
                  generalize H1 = H at hP hS ⊢
                  have hsp := hsp.trans (slet_eq xr_99_1)
                  exact j_16 _ _ _ _ ⟨z26_100, z27_101, rfl, hz26_100, by omega, by omega, by omega, by omega, by omega, hsp.symm, hP, hD, hS, lv_sub hl [4, 3, 2, 1, 0] rfl⟩
            · obtain rfl : y_95 = nI vy_95 := qy_95.trans wy_95
              have hsp := hsp.trans (if_neg (by omega))
              have hsp := hsp.trans (slet_eq (by omega : vy_95 = m15_1 - 1))
              refine lv_if_ge (tgt := 124) hx hb dX9_readLine_102 (by decide) (fun c_102 => ?_) (fun c_102 => ?_)
              · have c_102 : 0 ≤ vy_95 := (nI_leI (a := 0) (b := vy_95) (Nat.le_of_ble_eq_true rfl) (by omega)).mp c_102
                refine lv_aload_n hx hb dX9_readLine_124 rfl (lv_at hl 4 rfl) ?_
                refine lv_iconst (v := 5) hx hb dX9_readLine_125 (by decide) ?_
                have hFc := pu_free hD hS hA
                refine va_callv (va_runV (As := [.int 5]) (rest := []) ⟨hx, hb, hml, hown, hts⟩ (c_EM_fails l dC dI _ ad ck x0 x16 x18 x19 x20 x21 x22 x23 x24 x25 x26 x27 1 x29 x30 x33 x45 x46 x52 x53 x61 x62 x63 x65 x66 f1 f2 f3 q4 q5 q6 q7 f8 q9 q10 f11 m12_0 m12_1 m13_0 m13_1 m14_0 m14_1 m15_0 m15_1 f17 q31 f32 f34 f35 f36 f37 q38 f39 f40 f41 m42_0 m42_1 f43 f44 f47 f48 f49 f50 f51 q54 q55 q56 f57 q58 f59 f60 f64 5 hx16 hx18 hx19 hx21 hx22 hx26 (Nat.le_of_ble_eq_true rfl) hx29 hx30 hx33 hx46 hx52 hx53 hx61 hx62 hx63 hx65 hm12_0 hm12_1 hm13_0 hm13_1 hm14_0 hm14_1 hm15_0 hm15_1 hm42_0 hm42_1 (Nat.le_of_ble_eq_true rfl) (by omega)) (cwV 1 hts g_EM_readLine_1_EM_fails rfl rfl rfl (by decide +kernel) ⟨Nat.le_of_ble_eq_true rfl, Nat.le_of_ble_eq_true rfl⟩) ⟨pu_bl, va_recv hK hP (ci := 9) (q0 := 0) rfl rfl, pu_in hP hK hD⟩ rfl rfl hl.1 rfl (lv_room (Nat.le_of_ble_eq_true rfl)) dX9_readLine_126 ⟨Nat.le_of_ble_eq_true rfl, Nat.le_of_ble_eq_true rfl⟩) hS (fun q _ h => hFc q h) hFc (fun u t H1 locs ht hvm hw hB hz1 hk1 hS => ?_)
                obtain ⟨z26_104, z27_105, ⟨hP1, -, hD1⟩, hz26_104, xr_103_0, xr_103_1⟩ := hB
                rw [ht] at hP1
                have hP := hP1
                have hD := pu_all hFc hD1
                clear hP1 hD1 hFc
                clear hk1 hz1 ht hvm
                generalize H1 = H at hP hS ⊢
                have hsp := hsp.trans (slet_eq xr_103_1)
                exact j_16 _ _ _ _ ⟨z26_104, z27_105, rfl, hz26_104, by omega, by omega, by omega, by omega, by omega, hsp.symm, hP, hD, hS, lv_sub hl [4, 3, 2, 1, 0] rfl⟩
              · have c_102 : ¬ 0 ≤ vy_95 := fun z => c_102 ((nI_leI (a := 0) (b := vy_95) (Nat.le_of_ble_eq_true rfl) (by omega)).mpr z)
                exfalso
                omega
        · have c_87 : ¬ u_4 = 0 := fun z => c_87 ((nI_eq (a := u_4) (b := 0) (Nat.lt_of_le_of_lt hu_4 (Nat.le_of_ble_eq_true rfl)) (Nat.le_of_ble_eq_true rfl)).mpr z)
          have hsp := hsp.trans (if_neg c_87)
          refine lv_aload_n hx hb dX9_readLine_75 rfl (lv_at hl 4 rfl) ?_
          refine va_get (D := (dC, dI)) (ci := 9) (v := .ref (ad 13)) (C := RX9) (T := TX9) (N := 67) hx hb hts hiX9 hown hK hP 0 rfl rfl 13 (by decide) v_18 (fun _ h9 => h9) rfl dX9_readLine_76 ?_
          refine lv_aload_n hx hb dX9_readLine_79 rfl (lv_at hl 4 rfl) ?_
          refine va_get (D := (dC, dI)) (ci := 9) (v := .int 1) (C := RX9) (T := TX9) (N := 67) hx hb hts hiX9 hown hK hP 0 rfl rfl 28 (by decide) v_11 (fun _ h9 => h9) rfl dX9_readLine_80 ?_
          refine va_iald hx hb hK hP 13 12 rfl rfl (vp_in_nI (n := 1) (Nat.le_of_ble_eq_true rfl) (Nat.le_of_ble_eq_true rfl)) dX9_readLine_83 ?_
          refine lv_topi (fun y_106 ey_106 => ?_)
          have qy_106 := ey_106.trans b2_1
          clear ey_106
          obtain rfl : y_106 = nI m13_1 := qy_106
          refine lv_bipush (v := 8) hx hb dX9_readLine_84 (by decide) ?_
          refine lv_icmp_eq (tgt := 124) hx hb dX9_readLine_86 (by decide) (fun c_107 => ?_) (fun c_107 => ?_)
          · have c_107 : m13_1 = 8 := (nI_eq (a := m13_1) (b := 8) (Nat.lt_of_le_of_lt hm13_1 (Nat.le_of_ble_eq_true rfl)) (Nat.le_of_ble_eq_true rfl)).mp c_107
            have hsp := hsp.trans (if_pos c_107)
            refine lv_aload_n hx hb dX9_readLine_124 rfl (lv_at hl 4 rfl) ?_
            refine lv_iconst (v := 5) hx hb dX9_readLine_125 (by decide) ?_
            have hFc := pu_free hD hS hA
            refine va_callv (va_runV (As := [.int 5]) (rest := []) ⟨hx, hb, hml, hown, hts⟩ (c_EM_fails l dC dI _ ad ck x0 x16 x18 x19 x20 x21 x22 x23 x24 x25 x26 x27 1 x29 x30 x33 x45 x46 x52 x53 x61 x62 x63 x65 x66 f1 f2 f3 q4 q5 q6 q7 f8 q9 q10 f11 m12_0 m12_1 m13_0 m13_1 m14_0 m14_1 m15_0 m15_1 f17 q31 f32 f34 f35 f36 f37 q38 f39 f40 f41 m42_0 m42_1 f43 f44 f47 f48 f49 f50 f51 q54 q55 q56 f57 q58 f59 f60 f64 5 hx16 hx18 hx19 hx21 hx22 hx26 (Nat.le_of_ble_eq_true rfl) hx29 hx30 hx33 hx46 hx52 hx53 hx61 hx62 hx63 hx65 hm12_0 hm12_1 hm13_0 hm13_1 hm14_0 hm14_1 hm15_0 hm15_1 hm42_0 hm42_1 (Nat.le_of_ble_eq_true rfl) (by omega)) (cwV 1 hts g_EM_readLine_1_EM_fails rfl rfl rfl (by decide +kernel) ⟨Nat.le_of_ble_eq_true rfl, Nat.le_of_ble_eq_true rfl⟩) ⟨pu_bl, va_recv hK hP (ci := 9) (q0 := 0) rfl rfl, pu_in hP hK hD⟩ rfl rfl hl.1 rfl (lv_room (Nat.le_of_ble_eq_true rfl)) dX9_readLine_126 ⟨Nat.le_of_ble_eq_true rfl, Nat.le_of_ble_eq_true rfl⟩) hS (fun q _ h => hFc q h) hFc (fun u t H1 locs ht hvm hw hB hz1 hk1 hS => ?_)
            obtain ⟨z26_109, z27_110, ⟨hP1, -, hD1⟩, hz26_109, xr_108_0, xr_108_1⟩ := hB
            rw [ht] at hP1
            have hP := hP1
            have hD := pu_all hFc hD1
            clear hP1 hD1 hFc
            clear hk1 hz1 ht hvm
            generalize H1 = H at hP hS ⊢
            have hsp := hsp.trans (slet_eq xr_108_1)
            exact j_16 _ _ _ _ ⟨z26_109, z27_110, rfl, hz26_109, by omega, by omega, by omega, by omega, by omega, hsp.symm, hP, hD, hS, lv_sub hl [4, 3, 2, 1, 0] rfl⟩
          · have c_107 : ¬ m13_1 = 8 := fun z => c_107 ((nI_eq (a := m13_1) (b := 8) (Nat.lt_of_le_of_lt hm13_1 (Nat.le_of_ble_eq_true rfl)) (Nat.le_of_ble_eq_true rfl)).mpr z)
            have hsp := hsp.trans (if_neg c_107)
            refine lv_iload_n hx hb dX9_readLine_89 rfl (lv_at hl 1 rfl) ?_
            refine lv_if_eq (tgt := 105) hx hb dX9_readLine_90 (by decide) (fun c_111 => ?_) (fun c_111 => ?_)
            · have c_111 : u_6 = 0 := (nI_eq (a := u_6) (b := 0) (Nat.lt_of_le_of_lt hu_6 (Nat.le_of_ble_eq_true rfl)) (Nat.le_of_ble_eq_true rfl)).mp c_111
              have hsp := hsp.trans (if_pos c_111)
              refine lv_iload hx hb dX9_readLine_105 (lv_at hl 0 rfl) ?_
              refine lv_if_eq (tgt := 129) hx hb dX9_readLine_107 (by decide) (fun c_112 => ?_) (fun c_112 => ?_)
              · have c_112 : u_8 = 0 := (nI_eq (a := u_8) (b := 0) (Nat.lt_of_le_of_lt hu_8 (Nat.le_of_ble_eq_true rfl)) (Nat.le_of_ble_eq_true rfl)).mp c_112
                have hsp := hsp.trans (if_pos c_112)
                exact j_16 _ _ _ _ ⟨x26, x27, rfl, hx26, by omega, by omega, by omega, by omega, by omega, hsp.symm, hP, hD, hS, lv_sub hl [4, 3, 2, 1, 0] rfl⟩
              · have c_112 : ¬ u_8 = 0 := fun z => c_112 ((nI_eq (a := u_8) (b := 0) (Nat.lt_of_le_of_lt hu_8 (Nat.le_of_ble_eq_true rfl)) (Nat.le_of_ble_eq_true rfl)).mpr z)
                have hsp := hsp.trans (if_neg c_112)
                refine lv_aload_n hx hb dX9_readLine_110 rfl (lv_at hl 4 rfl) ?_
                refine va_get (D := (dC, dI)) (ci := 9) (v := .ref (ad 14)) (C := RX9) (T := TX9) (N := 67) hx hb hts hiX9 hown hK hP 0 rfl rfl 14 (by decide) v_16 (fun _ h9 => h9) rfl dX9_readLine_111 ?_
                refine lv_aload_n hx hb dX9_readLine_114 rfl (lv_at hl 4 rfl) ?_
                refine va_get (D := (dC, dI)) (ci := 9) (v := .int 1) (C := RX9) (T := TX9) (N := 67) hx hb hts hiX9 hown hK hP 0 rfl rfl 28 (by decide) v_11 (fun _ h9 => h9) rfl dX9_readLine_115 ?_
                refine va_iald hx hb hK hP 14 13 rfl rfl (vp_in_nI (n := 1) (Nat.le_of_ble_eq_true rfl) (Nat.le_of_ble_eq_true rfl)) dX9_readLine_118 ?_
                refine lv_topi (fun y_113 ey_113 => ?_)
                have qy_113 := ey_113.trans b2_1
                clear ey_113
                obtain rfl : y_113 = nI m14_1 := qy_113
                refine lv_bipush (v := 14) hx hb dX9_readLine_119 (by decide) ?_
                refine lv_icmp_ne (tgt := 129) hx hb dX9_readLine_121 (by decide) (fun c_114 => ?_) (fun c_114 => ?_)
                · have c_114 : ¬ m14_1 = 14 := fun z => c_114 ((nI_eq (a := m14_1) (b := 14) (Nat.lt_of_le_of_lt hm14_1 (Nat.le_of_ble_eq_true rfl)) (Nat.le_of_ble_eq_true rfl)).mpr z)
                  have hsp := hsp.trans (if_neg c_114)
                  exact j_16 _ _ _ _ ⟨x26, x27, rfl, hx26, by omega, by omega, by omega, by omega, by omega, hsp.symm, hP, hD, hS, lv_sub hl [4, 3, 2, 1, 0] rfl⟩
                · have c_114 : m14_1 = 14 := (nI_eq (a := m14_1) (b := 14) (Nat.lt_of_le_of_lt hm14_1 (Nat.le_of_ble_eq_true rfl)) (Nat.le_of_ble_eq_true rfl)).mp c_114
                  have hsp := hsp.trans (if_pos c_114)
                  refine lv_aload_n hx hb dX9_readLine_124 rfl (lv_at hl 4 rfl) ?_
                  refine lv_iconst (v := 5) hx hb dX9_readLine_125 (by decide) ?_
                  have hFc := pu_free hD hS hA
                  refine va_callv (va_runV (As := [.int 5]) (rest := []) ⟨hx, hb, hml, hown, hts⟩ (c_EM_fails l dC dI _ ad ck x0 x16 x18 x19 x20 x21 x22 x23 x24 x25 x26 x27 1 x29 x30 x33 x45 x46 x52 x53 x61 x62 x63 x65 x66 f1 f2 f3 q4 q5 q6 q7 f8 q9 q10 f11 m12_0 m12_1 m13_0 m13_1 m14_0 m14_1 m15_0 m15_1 f17 q31 f32 f34 f35 f36 f37 q38 f39 f40 f41 m42_0 m42_1 f43 f44 f47 f48 f49 f50 f51 q54 q55 q56 f57 q58 f59 f60 f64 5 hx16 hx18 hx19 hx21 hx22 hx26 (Nat.le_of_ble_eq_true rfl) hx29 hx30 hx33 hx46 hx52 hx53 hx61 hx62 hx63 hx65 hm12_0 hm12_1 hm13_0 hm13_1 hm14_0 hm14_1 hm15_0 hm15_1 hm42_0 hm42_1 (Nat.le_of_ble_eq_true rfl) (by omega)) (cwV 1 hts g_EM_readLine_1_EM_fails rfl rfl rfl (by decide +kernel) ⟨Nat.le_of_ble_eq_true rfl, Nat.le_of_ble_eq_true rfl⟩) ⟨pu_bl, va_recv hK hP (ci := 9) (q0 := 0) rfl rfl, pu_in hP hK hD⟩ rfl rfl hl.1 rfl (lv_room (Nat.le_of_ble_eq_true rfl)) dX9_readLine_126 ⟨Nat.le_of_ble_eq_true rfl, Nat.le_of_ble_eq_true rfl⟩) hS (fun q _ h => hFc q h) hFc (fun u t H1 locs ht hvm hw hB hz1 hk1 hS => ?_)
                  obtain ⟨z26_116, z27_117, ⟨hP1, -, hD1⟩, hz26_116, xr_115_0, xr_115_1⟩ := hB
                  rw [ht] at hP1
                  have hP := hP1
                  have hD := pu_all hFc hD1
                  clear hP1 hD1 hFc
                  clear hk1 hz1 ht hvm
                  generalize H1 = H at hP hS ⊢
                  have hsp := hsp.trans (slet_eq xr_115_1)
                  exact j_16 _ _ _ _ ⟨z26_116, z27_117, rfl, hz26_116, by omega, by omega, by omega, by omega, by omega, hsp.symm, hP, hD, hS, lv_sub hl [4, 3, 2, 1, 0] rfl⟩
            · have c_111 : ¬ u_6 = 0 := fun z => c_111 ((nI_eq (a := u_6) (b := 0) (Nat.lt_of_le_of_lt hu_6 (Nat.le_of_ble_eq_true rfl)) (Nat.le_of_ble_eq_true rfl)).mpr z)
              have hsp := hsp.trans (if_neg c_111)
              refine lv_aload_n hx hb dX9_readLine_93 rfl (lv_at hl 4 rfl) ?_
              refine va_get (D := (dC, dI)) (ci := 9) (v := .ref (ad 15)) (C := RX9) (T := TX9) (N := 67) hx hb hts hiX9 hown hK hP 0 rfl rfl 15 (by decide) v_17 (fun _ h9 => h9) rfl dX9_readLine_94 ?_
              refine lv_aload_n hx hb dX9_readLine_97 rfl (lv_at hl 4 rfl) ?_
              refine va_get (D := (dC, dI)) (ci := 9) (v := .int 1) (C := RX9) (T := TX9) (N := 67) hx hb hts hiX9 hown hK hP 0 rfl rfl 28 (by decide) v_11 (fun _ h9 => h9) rfl dX9_readLine_98 ?_
              refine va_iald hx hb hK hP 15 14 rfl rfl (vp_in_nI (n := 1) (Nat.le_of_ble_eq_true rfl) (Nat.le_of_ble_eq_true rfl)) dX9_readLine_101 ?_
              refine lv_topi (fun y_118 ey_118 => ?_)
              have qy_118 := ey_118.trans b2m_1
              clear ey_118
              rcases mI_get m15_1 with ⟨zy_118, wy_118⟩ | ⟨vy_118, zy_118, wy_118⟩
              · obtain rfl : y_118 = -1 := qy_118.trans wy_118
                have hsp := hsp.trans (if_pos zy_118)
                refine lv_if_ge (tgt := 124) hx hb dX9_readLine_102 (by decide) (fun z => absurd z (by decide)) (fun _ => ?_)
                refine lv_iload hx hb dX9_readLine_105 (lv_at hl 0 rfl) ?_
                refine lv_if_eq (tgt := 129) hx hb dX9_readLine_107 (by decide) (fun c_119 => ?_) (fun c_119 => ?_)
                · have c_119 : u_8 = 0 := (nI_eq (a := u_8) (b := 0) (Nat.lt_of_le_of_lt hu_8 (Nat.le_of_ble_eq_true rfl)) (Nat.le_of_ble_eq_true rfl)).mp c_119
                  have hsp := hsp.trans (if_pos c_119)
                  exact j_16 _ _ _ _ ⟨x26, x27, rfl, hx26, by omega, by omega, by omega, by omega, by omega, hsp.symm, hP, hD, hS, lv_sub hl [4, 3, 2, 1, 0] rfl⟩
                · have c_119 : ¬ u_8 = 0 := fun z => c_119 ((nI_eq (a := u_8) (b := 0) (Nat.lt_of_le_of_lt hu_8 (Nat.le_of_ble_eq_true rfl)) (Nat.le_of_ble_eq_true rfl)).mpr z)
                  have hsp := hsp.trans (if_neg c_119)
                  refine lv_aload_n hx hb dX9_readLine_110 rfl (lv_at hl 4 rfl) ?_
                  refine va_get (D := (dC, dI)) (ci := 9) (v := .ref (ad 14)) (C := RX9) (T := TX9) (N := 67) hx hb hts hiX9 hown hK hP 0 rfl rfl 14 (by decide) v_16 (fun _ h9 => h9) rfl dX9_readLine_111 ?_
                  refine lv_aload_n hx hb dX9_readLine_114 rfl (lv_at hl 4 rfl) ?_
                  refine va_get (D := (dC, dI)) (ci := 9) (v := .int 1) (C := RX9) (T := TX9) (N := 67) hx hb hts hiX9 hown hK hP 0 rfl rfl 28 (by decide) v_11 (fun _ h9 => h9) rfl dX9_readLine_115 ?_
                  refine va_iald hx hb hK hP 14 13 rfl rfl (vp_in_nI (n := 1) (Nat.le_of_ble_eq_true rfl) (Nat.le_of_ble_eq_true rfl)) dX9_readLine_118 ?_
                  refine lv_topi (fun y_120 ey_120 => ?_)
                  have qy_120 := ey_120.trans b2_1
                  clear ey_120
                  obtain rfl : y_120 = nI m14_1 := qy_120
                  refine lv_bipush (v := 14) hx hb dX9_readLine_119 (by decide) ?_
                  refine lv_icmp_ne (tgt := 129) hx hb dX9_readLine_121 (by decide) (fun c_121 => ?_) (fun c_121 => ?_)
                  · have c_121 : ¬ m14_1 = 14 := fun z => c_121 ((nI_eq (a := m14_1) (b := 14) (Nat.lt_of_le_of_lt hm14_1 (Nat.le_of_ble_eq_true rfl)) (Nat.le_of_ble_eq_true rfl)).mpr z)
                    have hsp := hsp.trans (if_neg c_121)
                    exact j_16 _ _ _ _ ⟨x26, x27, rfl, hx26, by omega, by omega, by omega, by omega, by omega, hsp.symm, hP, hD, hS, lv_sub hl [4, 3, 2, 1, 0] rfl⟩
                  · have c_121 : m14_1 = 14 := (nI_eq (a := m14_1) (b := 14) (Nat.lt_of_le_of_lt hm14_1 (Nat.le_of_ble_eq_true rfl)) (Nat.le_of_ble_eq_true rfl)).mp c_121
                    have hsp := hsp.trans (if_pos c_121)
                    refine lv_aload_n hx hb dX9_readLine_124 rfl (lv_at hl 4 rfl) ?_
                    refine lv_iconst (v := 5) hx hb dX9_readLine_125 (by decide) ?_
                    have hFc := pu_free hD hS hA
                    refine va_callv (va_runV (As := [.int 5]) (rest := []) ⟨hx, hb, hml, hown, hts⟩ (c_EM_fails l dC dI _ ad ck x0 x16 x18 x19 x20 x21 x22 x23 x24 x25 x26 x27 1 x29 x30 x33 x45 x46 x52 x53 x61 x62 x63 x65 x66 f1 f2 f3 q4 q5 q6 q7 f8 q9 q10 f11 m12_0 m12_1 m13_0 m13_1 m14_0 m14_1 m15_0 m15_1 f17 q31 f32 f34 f35 f36 f37 q38 f39 f40 f41 m42_0 m42_1 f43 f44 f47 f48 f49 f50 f51 q54 q55 q56 f57 q58 f59 f60 f64 5 hx16 hx18 hx19 hx21 hx22 hx26 (Nat.le_of_ble_eq_true rfl) hx29 hx30 hx33 hx46 hx52 hx53 hx61 hx62 hx63 hx65 hm12_0 hm12_1 hm13_0 hm13_1 hm14_0 hm14_1 hm15_0 hm15_1 hm42_0 hm42_1 (Nat.le_of_ble_eq_true rfl) (by omega)) (cwV 1 hts g_EM_readLine_1_EM_fails rfl rfl rfl (by decide +kernel) ⟨Nat.le_of_ble_eq_true rfl, Nat.le_of_ble_eq_true rfl⟩) ⟨pu_bl, va_recv hK hP (ci := 9) (q0 := 0) rfl rfl, pu_in hP hK hD⟩ rfl rfl hl.1 rfl (lv_room (Nat.le_of_ble_eq_true rfl)) dX9_readLine_126 ⟨Nat.le_of_ble_eq_true rfl, Nat.le_of_ble_eq_true rfl⟩) hS (fun q _ h => hFc q h) hFc (fun u t H1 locs ht hvm hw hB hz1 hk1 hS => ?_)
                    obtain ⟨z26_123, z27_124, ⟨hP1, -, hD1⟩, hz26_123, xr_122_0, xr_122_1⟩ := hB
                    rw [ht] at hP1
                    have hP := hP1
                    have hD := pu_all hFc hD1
                    clear hP1 hD1 hFc
                    clear hk1 hz1 ht hvm
                    generalize H1 = H at hP hS ⊢
                    have hsp := hsp.trans (slet_eq xr_122_1)
                    exact j_16 _ _ _ _ ⟨z26_123, z27_124, rfl, hz26_123, by omega, by omega, by omega, by omega, by omega, hsp.symm, hP, hD, hS, lv_sub hl [4, 3, 2, 1, 0] rfl⟩
              · obtain rfl : y_118 = nI vy_118 := qy_118.trans wy_118
                have hsp := hsp.trans (if_neg (by omega))
                have hsp := hsp.trans (slet_eq (by omega : vy_118 = m15_1 - 1))
                refine lv_if_ge (tgt := 124) hx hb dX9_readLine_102 (by decide) (fun c_125 => ?_) (fun c_125 => ?_)
                · have c_125 : 0 ≤ vy_118 := (nI_leI (a := 0) (b := vy_118) (Nat.le_of_ble_eq_true rfl) (by omega)).mp c_125
                  refine lv_aload_n hx hb dX9_readLine_124 rfl (lv_at hl 4 rfl) ?_
                  refine lv_iconst (v := 5) hx hb dX9_readLine_125 (by decide) ?_
                  have hFc := pu_free hD hS hA
                  refine va_callv (va_runV (As := [.int 5]) (rest := []) ⟨hx, hb, hml, hown, hts⟩ (c_EM_fails l dC dI _ ad ck x0 x16 x18 x19 x20 x21 x22 x23 x24 x25 x26 x27 1 x29 x30 x33 x45 x46 x52 x53 x61 x62 x63 x65 x66 f1 f2 f3 q4 q5 q6 q7 f8 q9 q10 f11 m12_0 m12_1 m13_0 m13_1 m14_0 m14_1 m15_0 m15_1 f17 q31 f32 f34 f35 f36 f37 q38 f39 f40 f41 m42_0 m42_1 f43 f44 f47 f48 f49 f50 f51 q54 q55 q56 f57 q58 f59 f60 f64 5 hx16 hx18 hx19 hx21 hx22 hx26 (Nat.le_of_ble_eq_true rfl) hx29 hx30 hx33 hx46 hx52 hx53 hx61 hx62 hx63 hx65 hm12_0 hm12_1 hm13_0 hm13_1 hm14_0 hm14_1 hm15_0 hm15_1 hm42_0 hm42_1 (Nat.le_of_ble_eq_true rfl) (by omega)) (cwV 1 hts g_EM_readLine_1_EM_fails rfl rfl rfl (by decide +kernel) ⟨Nat.le_of_ble_eq_true rfl, Nat.le_of_ble_eq_true rfl⟩) ⟨pu_bl, va_recv hK hP (ci := 9) (q0 := 0) rfl rfl, pu_in hP hK hD⟩ rfl rfl hl.1 rfl (lv_room (Nat.le_of_ble_eq_true rfl)) dX9_readLine_126 ⟨Nat.le_of_ble_eq_true rfl, Nat.le_of_ble_eq_true rfl⟩) hS (fun q _ h => hFc q h) hFc (fun u t H1 locs ht hvm hw hB hz1 hk1 hS => ?_)
                  obtain ⟨z26_127, z27_128, ⟨hP1, -, hD1⟩, hz26_127, xr_126_0, xr_126_1⟩ := hB
                  rw [ht] at hP1
                  have hP := hP1
                  have hD := pu_all hFc hD1
                  clear hP1 hD1 hFc
                  clear hk1 hz1 ht hvm
                  generalize H1 = H at hP hS ⊢
                  have hsp := hsp.trans (slet_eq xr_126_1)
                  exact j_16 _ _ _ _ ⟨z26_127, z27_128, rfl, hz26_127, by omega, by omega, by omega, by omega, by omega, hsp.symm, hP, hD, hS, lv_sub hl [4, 3, 2, 1, 0] rfl⟩
                · have c_125 : ¬ 0 ≤ vy_118 := fun z => c_125 ((nI_leI (a := 0) (b := vy_118) (Nat.le_of_ble_eq_true rfl) (by omega)).mpr z)
                  exfalso
                  omega
  · have c_80 : u_2 = 0 := (nI_eq (a := u_2) (b := 0) (Nat.lt_of_le_of_lt hu_2 (Nat.le_of_ble_eq_true rfl)) (Nat.le_of_ble_eq_true rfl)).mp c_80
    have hsp := hsp.trans (if_pos c_80)
    refine lv_iload_n hx hb dX9_readLine_33 rfl (lv_at hl 2 rfl) ?_
    refine lv_if_ne (tgt := 54) hx hb dX9_readLine_34 (by decide) (fun c_129 => ?_) (fun c_129 => ?_)
    · have c_129 : ¬ u_4 = 0 := fun z => c_129 ((nI_eq (a := u_4) (b := 0) (Nat.lt_of_le_of_lt hu_4 (Nat.le_of_ble_eq_true rfl)) (Nat.le_of_ble_eq_true rfl)).mpr z)
      have hsp := hsp.trans (if_neg c_129)
      refine lv_iload_n hx hb dX9_readLine_54 rfl (lv_at hl 3 rfl) ?_
      refine lv_if_eq (tgt := 71) hx hb dX9_readLine_55 (by decide) (fun c_130 => ?_) (fun c_130 => ?_)
      · have c_130 : u_2 = 0 := (nI_eq (a := u_2) (b := 0) (Nat.lt_of_le_of_lt hu_2 (Nat.le_of_ble_eq_true rfl)) (Nat.le_of_ble_eq_true rfl)).mp c_130
        refine lv_iload_n hx hb dX9_readLine_71 rfl (lv_at hl 2 rfl) ?_
        refine lv_if_eq (tgt := 89) hx hb dX9_readLine_72 (by decide) (fun c_131 => ?_) (fun c_131 => ?_)
        · have c_131 : u_4 = 0 := (nI_eq (a := u_4) (b := 0) (Nat.lt_of_le_of_lt hu_4 (Nat.le_of_ble_eq_true rfl)) (Nat.le_of_ble_eq_true rfl)).mp c_131
          exfalso
          omega
        · have c_131 : ¬ u_4 = 0 := fun z => c_131 ((nI_eq (a := u_4) (b := 0) (Nat.lt_of_le_of_lt hu_4 (Nat.le_of_ble_eq_true rfl)) (Nat.le_of_ble_eq_true rfl)).mpr z)
          refine lv_aload_n hx hb dX9_readLine_75 rfl (lv_at hl 4 rfl) ?_
          refine va_get (D := (dC, dI)) (ci := 9) (v := .ref (ad 13)) (C := RX9) (T := TX9) (N := 67) hx hb hts hiX9 hown hK hP 0 rfl rfl 13 (by decide) v_18 (fun _ h9 => h9) rfl dX9_readLine_76 ?_
          refine lv_aload_n hx hb dX9_readLine_79 rfl (lv_at hl 4 rfl) ?_
          refine va_get (D := (dC, dI)) (ci := 9) (v := .int 1) (C := RX9) (T := TX9) (N := 67) hx hb hts hiX9 hown hK hP 0 rfl rfl 28 (by decide) v_11 (fun _ h9 => h9) rfl dX9_readLine_80 ?_
          refine va_iald hx hb hK hP 13 12 rfl rfl (vp_in_nI (n := 1) (Nat.le_of_ble_eq_true rfl) (Nat.le_of_ble_eq_true rfl)) dX9_readLine_83 ?_
          refine lv_topi (fun y_132 ey_132 => ?_)
          have qy_132 := ey_132.trans b2_1
          clear ey_132
          obtain rfl : y_132 = nI m13_1 := qy_132
          refine lv_bipush (v := 8) hx hb dX9_readLine_84 (by decide) ?_
          refine lv_icmp_eq (tgt := 124) hx hb dX9_readLine_86 (by decide) (fun c_133 => ?_) (fun c_133 => ?_)
          · have c_133 : m13_1 = 8 := (nI_eq (a := m13_1) (b := 8) (Nat.lt_of_le_of_lt hm13_1 (Nat.le_of_ble_eq_true rfl)) (Nat.le_of_ble_eq_true rfl)).mp c_133
            have hsp := hsp.trans (if_pos c_133)
            refine lv_aload_n hx hb dX9_readLine_124 rfl (lv_at hl 4 rfl) ?_
            refine lv_iconst (v := 5) hx hb dX9_readLine_125 (by decide) ?_
            have hFc := pu_free hD hS hA
            refine va_callv (va_runV (As := [.int 5]) (rest := []) ⟨hx, hb, hml, hown, hts⟩ (c_EM_fails l dC dI _ ad ck x0 x16 x18 x19 x20 x21 x22 x23 x24 x25 x26 x27 1 x29 x30 x33 x45 x46 x52 x53 x61 x62 x63 x65 x66 f1 f2 f3 q4 q5 q6 q7 f8 q9 q10 f11 m12_0 m12_1 m13_0 m13_1 m14_0 m14_1 m15_0 m15_1 f17 q31 f32 f34 f35 f36 f37 q38 f39 f40 f41 m42_0 m42_1 f43 f44 f47 f48 f49 f50 f51 q54 q55 q56 f57 q58 f59 f60 f64 5 hx16 hx18 hx19 hx21 hx22 hx26 (Nat.le_of_ble_eq_true rfl) hx29 hx30 hx33 hx46 hx52 hx53 hx61 hx62 hx63 hx65 hm12_0 hm12_1 hm13_0 hm13_1 hm14_0 hm14_1 hm15_0 hm15_1 hm42_0 hm42_1 (Nat.le_of_ble_eq_true rfl) (by omega)) (cwV 1 hts g_EM_readLine_1_EM_fails rfl rfl rfl (by decide +kernel) ⟨Nat.le_of_ble_eq_true rfl, Nat.le_of_ble_eq_true rfl⟩) ⟨pu_bl, va_recv hK hP (ci := 9) (q0 := 0) rfl rfl, pu_in hP hK hD⟩ rfl rfl hl.1 rfl (lv_room (Nat.le_of_ble_eq_true rfl)) dX9_readLine_126 ⟨Nat.le_of_ble_eq_true rfl, Nat.le_of_ble_eq_true rfl⟩) hS (fun q _ h => hFc q h) hFc (fun u t H1 locs ht hvm hw hB hz1 hk1 hS => ?_)
            obtain ⟨z26_135, z27_136, ⟨hP1, -, hD1⟩, hz26_135, xr_134_0, xr_134_1⟩ := hB
            rw [ht] at hP1
            have hP := hP1
            have hD := pu_all hFc hD1
            clear hP1 hD1 hFc
            clear hk1 hz1 ht hvm
            generalize H1 = H at hP hS ⊢
            have hsp := hsp.trans (slet_eq xr_134_1)
            exact j_16 _ _ _ _ ⟨z26_135, z27_136, rfl, hz26_135, by omega, by omega, by omega, by omega, by omega, hsp.symm, hP, hD, hS, lv_sub hl [4, 3, 2, 1, 0] rfl⟩
          · have c_133 : ¬ m13_1 = 8 := fun z => c_133 ((nI_eq (a := m13_1) (b := 8) (Nat.lt_of_le_of_lt hm13_1 (Nat.le_of_ble_eq_true rfl)) (Nat.le_of_ble_eq_true rfl)).mpr z)
            have hsp := hsp.trans (if_neg c_133)
            refine lv_iload_n hx hb dX9_readLine_89 rfl (lv_at hl 1 rfl) ?_
            refine lv_if_eq (tgt := 105) hx hb dX9_readLine_90 (by decide) (fun c_137 => ?_) (fun c_137 => ?_)
            · have c_137 : u_6 = 0 := (nI_eq (a := u_6) (b := 0) (Nat.lt_of_le_of_lt hu_6 (Nat.le_of_ble_eq_true rfl)) (Nat.le_of_ble_eq_true rfl)).mp c_137
              have hsp := hsp.trans (if_pos c_137)
              refine lv_iload hx hb dX9_readLine_105 (lv_at hl 0 rfl) ?_
              refine lv_if_eq (tgt := 129) hx hb dX9_readLine_107 (by decide) (fun c_138 => ?_) (fun c_138 => ?_)
              · have c_138 : u_8 = 0 := (nI_eq (a := u_8) (b := 0) (Nat.lt_of_le_of_lt hu_8 (Nat.le_of_ble_eq_true rfl)) (Nat.le_of_ble_eq_true rfl)).mp c_138
                have hsp := hsp.trans (if_pos c_138)
                exact j_16 _ _ _ _ ⟨x26, x27, rfl, hx26, by omega, by omega, by omega, by omega, by omega, hsp.symm, hP, hD, hS, lv_sub hl [4, 3, 2, 1, 0] rfl⟩
              · have c_138 : ¬ u_8 = 0 := fun z => c_138 ((nI_eq (a := u_8) (b := 0) (Nat.lt_of_le_of_lt hu_8 (Nat.le_of_ble_eq_true rfl)) (Nat.le_of_ble_eq_true rfl)).mpr z)
                have hsp := hsp.trans (if_neg c_138)
                refine lv_aload_n hx hb dX9_readLine_110 rfl (lv_at hl 4 rfl) ?_
                refine va_get (D := (dC, dI)) (ci := 9) (v := .ref (ad 14)) (C := RX9) (T := TX9) (N := 67) hx hb hts hiX9 hown hK hP 0 rfl rfl 14 (by decide) v_16 (fun _ h9 => h9) rfl dX9_readLine_111 ?_
                refine lv_aload_n hx hb dX9_readLine_114 rfl (lv_at hl 4 rfl) ?_
                refine va_get (D := (dC, dI)) (ci := 9) (v := .int 1) (C := RX9) (T := TX9) (N := 67) hx hb hts hiX9 hown hK hP 0 rfl rfl 28 (by decide) v_11 (fun _ h9 => h9) rfl dX9_readLine_115 ?_
                refine va_iald hx hb hK hP 14 13 rfl rfl (vp_in_nI (n := 1) (Nat.le_of_ble_eq_true rfl) (Nat.le_of_ble_eq_true rfl)) dX9_readLine_118 ?_
                refine lv_topi (fun y_139 ey_139 => ?_)
                have qy_139 := ey_139.trans b2_1
                clear ey_139
                obtain rfl : y_139 = nI m14_1 := qy_139
                refine lv_bipush (v := 14) hx hb dX9_readLine_119 (by decide) ?_
                refine lv_icmp_ne (tgt := 129) hx hb dX9_readLine_121 (by decide) (fun c_140 => ?_) (fun c_140 => ?_)
                · have c_140 : ¬ m14_1 = 14 := fun z => c_140 ((nI_eq (a := m14_1) (b := 14) (Nat.lt_of_le_of_lt hm14_1 (Nat.le_of_ble_eq_true rfl)) (Nat.le_of_ble_eq_true rfl)).mpr z)
                  have hsp := hsp.trans (if_neg c_140)
                  exact j_16 _ _ _ _ ⟨x26, x27, rfl, hx26, by omega, by omega, by omega, by omega, by omega, hsp.symm, hP, hD, hS, lv_sub hl [4, 3, 2, 1, 0] rfl⟩
                · have c_140 : m14_1 = 14 := (nI_eq (a := m14_1) (b := 14) (Nat.lt_of_le_of_lt hm14_1 (Nat.le_of_ble_eq_true rfl)) (Nat.le_of_ble_eq_true rfl)).mp c_140
                  have hsp := hsp.trans (if_pos c_140)
                  refine lv_aload_n hx hb dX9_readLine_124 rfl (lv_at hl 4 rfl) ?_
                  refine lv_iconst (v := 5) hx hb dX9_readLine_125 (by decide) ?_
                  have hFc := pu_free hD hS hA
                  refine va_callv (va_runV (As := [.int 5]) (rest := []) ⟨hx, hb, hml, hown, hts⟩ (c_EM_fails l dC dI _ ad ck x0 x16 x18 x19 x20 x21 x22 x23 x24 x25 x26 x27 1 x29 x30 x33 x45 x46 x52 x53 x61 x62 x63 x65 x66 f1 f2 f3 q4 q5 q6 q7 f8 q9 q10 f11 m12_0 m12_1 m13_0 m13_1 m14_0 m14_1 m15_0 m15_1 f17 q31 f32 f34 f35 f36 f37 q38 f39 f40 f41 m42_0 m42_1 f43 f44 f47 f48 f49 f50 f51 q54 q55 q56 f57 q58 f59 f60 f64 5 hx16 hx18 hx19 hx21 hx22 hx26 (Nat.le_of_ble_eq_true rfl) hx29 hx30 hx33 hx46 hx52 hx53 hx61 hx62 hx63 hx65 hm12_0 hm12_1 hm13_0 hm13_1 hm14_0 hm14_1 hm15_0 hm15_1 hm42_0 hm42_1 (Nat.le_of_ble_eq_true rfl) (by omega)) (cwV 1 hts g_EM_readLine_1_EM_fails rfl rfl rfl (by decide +kernel) ⟨Nat.le_of_ble_eq_true rfl, Nat.le_of_ble_eq_true rfl⟩) ⟨pu_bl, va_recv hK hP (ci := 9) (q0 := 0) rfl rfl, pu_in hP hK hD⟩ rfl rfl hl.1 rfl (lv_room (Nat.le_of_ble_eq_true rfl)) dX9_readLine_126 ⟨Nat.le_of_ble_eq_true rfl, Nat.le_of_ble_eq_true rfl⟩) hS (fun q _ h => hFc q h) hFc (fun u t H1 locs ht hvm hw hB hz1 hk1 hS => ?_)
                  obtain ⟨z26_142, z27_143, ⟨hP1, -, hD1⟩, hz26_142, xr_141_0, xr_141_1⟩ := hB
                  rw [ht] at hP1
                  have hP := hP1
                  have hD := pu_all hFc hD1
                  clear hP1 hD1 hFc
                  clear hk1 hz1 ht hvm
                  generalize H1 = H at hP hS ⊢
                  have hsp := hsp.trans (slet_eq xr_141_1)
                  exact j_16 _ _ _ _ ⟨z26_142, z27_143, rfl, hz26_142, by omega, by omega, by omega, by omega, by omega, hsp.symm, hP, hD, hS, lv_sub hl [4, 3, 2, 1, 0] rfl⟩
            · have c_137 : ¬ u_6 = 0 := fun z => c_137 ((nI_eq (a := u_6) (b := 0) (Nat.lt_of_le_of_lt hu_6 (Nat.le_of_ble_eq_true rfl)) (Nat.le_of_ble_eq_true rfl)).mpr z)
              have hsp := hsp.trans (if_neg c_137)
              refine lv_aload_n hx hb dX9_readLine_93 rfl (lv_at hl 4 rfl) ?_
              refine va_get (D := (dC, dI)) (ci := 9) (v := .ref (ad 15)) (C := RX9) (T := TX9) (N := 67) hx hb hts hiX9 hown hK hP 0 rfl rfl 15 (by decide) v_17 (fun _ h9 => h9) rfl dX9_readLine_94 ?_
              refine lv_aload_n hx hb dX9_readLine_97 rfl (lv_at hl 4 rfl) ?_
              refine va_get (D := (dC, dI)) (ci := 9) (v := .int 1) (C := RX9) (T := TX9) (N := 67) hx hb hts hiX9 hown hK hP 0 rfl rfl 28 (by decide) v_11 (fun _ h9 => h9) rfl dX9_readLine_98 ?_
              refine va_iald hx hb hK hP 15 14 rfl rfl (vp_in_nI (n := 1) (Nat.le_of_ble_eq_true rfl) (Nat.le_of_ble_eq_true rfl)) dX9_readLine_101 ?_
              refine lv_topi (fun y_144 ey_144 => ?_)
              have qy_144 := ey_144.trans b2m_1
              clear ey_144
              rcases mI_get m15_1 with ⟨zy_144, wy_144⟩ | ⟨vy_144, zy_144, wy_144⟩
              · obtain rfl : y_144 = -1 := qy_144.trans wy_144
                have hsp := hsp.trans (if_pos zy_144)
                refine lv_if_ge (tgt := 124) hx hb dX9_readLine_102 (by decide) (fun z => absurd z (by decide)) (fun _ => ?_)
                refine lv_iload hx hb dX9_readLine_105 (lv_at hl 0 rfl) ?_
                refine lv_if_eq (tgt := 129) hx hb dX9_readLine_107 (by decide) (fun c_145 => ?_) (fun c_145 => ?_)
                · have c_145 : u_8 = 0 := (nI_eq (a := u_8) (b := 0) (Nat.lt_of_le_of_lt hu_8 (Nat.le_of_ble_eq_true rfl)) (Nat.le_of_ble_eq_true rfl)).mp c_145
                  have hsp := hsp.trans (if_pos c_145)
                  exact j_16 _ _ _ _ ⟨x26, x27, rfl, hx26, by omega, by omega, by omega, by omega, by omega, hsp.symm, hP, hD, hS, lv_sub hl [4, 3, 2, 1, 0] rfl⟩
                · have c_145 : ¬ u_8 = 0 := fun z => c_145 ((nI_eq (a := u_8) (b := 0) (Nat.lt_of_le_of_lt hu_8 (Nat.le_of_ble_eq_true rfl)) (Nat.le_of_ble_eq_true rfl)).mpr z)
                  have hsp := hsp.trans (if_neg c_145)
                  refine lv_aload_n hx hb dX9_readLine_110 rfl (lv_at hl 4 rfl) ?_
                  refine va_get (D := (dC, dI)) (ci := 9) (v := .ref (ad 14)) (C := RX9) (T := TX9) (N := 67) hx hb hts hiX9 hown hK hP 0 rfl rfl 14 (by decide) v_16 (fun _ h9 => h9) rfl dX9_readLine_111 ?_
                  refine lv_aload_n hx hb dX9_readLine_114 rfl (lv_at hl 4 rfl) ?_
                  refine va_get (D := (dC, dI)) (ci := 9) (v := .int 1) (C := RX9) (T := TX9) (N := 67) hx hb hts hiX9 hown hK hP 0 rfl rfl 28 (by decide) v_11 (fun _ h9 => h9) rfl dX9_readLine_115 ?_
                  refine va_iald hx hb hK hP 14 13 rfl rfl (vp_in_nI (n := 1) (Nat.le_of_ble_eq_true rfl) (Nat.le_of_ble_eq_true rfl)) dX9_readLine_118 ?_
                  refine lv_topi (fun y_146 ey_146 => ?_)
                  have qy_146 := ey_146.trans b2_1
                  clear ey_146
                  obtain rfl : y_146 = nI m14_1 := qy_146
                  refine lv_bipush (v := 14) hx hb dX9_readLine_119 (by decide) ?_
                  refine lv_icmp_ne (tgt := 129) hx hb dX9_readLine_121 (by decide) (fun c_147 => ?_) (fun c_147 => ?_)
                  · have c_147 : ¬ m14_1 = 14 := fun z => c_147 ((nI_eq (a := m14_1) (b := 14) (Nat.lt_of_le_of_lt hm14_1 (Nat.le_of_ble_eq_true rfl)) (Nat.le_of_ble_eq_true rfl)).mpr z)
                    have hsp := hsp.trans (if_neg c_147)
                    exact j_16 _ _ _ _ ⟨x26, x27, rfl, hx26, by omega, by omega, by omega, by omega, by omega, hsp.symm, hP, hD, hS, lv_sub hl [4, 3, 2, 1, 0] rfl⟩
                  · have c_147 : m14_1 = 14 := (nI_eq (a := m14_1) (b := 14) (Nat.lt_of_le_of_lt hm14_1 (Nat.le_of_ble_eq_true rfl)) (Nat.le_of_ble_eq_true rfl)).mp c_147
                    have hsp := hsp.trans (if_pos c_147)
                    refine lv_aload_n hx hb dX9_readLine_124 rfl (lv_at hl 4 rfl) ?_
                    refine lv_iconst (v := 5) hx hb dX9_readLine_125 (by decide) ?_
                    have hFc := pu_free hD hS hA
                    refine va_callv (va_runV (As := [.int 5]) (rest := []) ⟨hx, hb, hml, hown, hts⟩ (c_EM_fails l dC dI _ ad ck x0 x16 x18 x19 x20 x21 x22 x23 x24 x25 x26 x27 1 x29 x30 x33 x45 x46 x52 x53 x61 x62 x63 x65 x66 f1 f2 f3 q4 q5 q6 q7 f8 q9 q10 f11 m12_0 m12_1 m13_0 m13_1 m14_0 m14_1 m15_0 m15_1 f17 q31 f32 f34 f35 f36 f37 q38 f39 f40 f41 m42_0 m42_1 f43 f44 f47 f48 f49 f50 f51 q54 q55 q56 f57 q58 f59 f60 f64 5 hx16 hx18 hx19 hx21 hx22 hx26 (Nat.le_of_ble_eq_true rfl) hx29 hx30 hx33 hx46 hx52 hx53 hx61 hx62 hx63 hx65 hm12_0 hm12_1 hm13_0 hm13_1 hm14_0 hm14_1 hm15_0 hm15_1 hm42_0 hm42_1 (Nat.le_of_ble_eq_true rfl) (by omega)) (cwV 1 hts g_EM_readLine_1_EM_fails rfl rfl rfl (by decide +kernel) ⟨Nat.le_of_ble_eq_true rfl, Nat.le_of_ble_eq_true rfl⟩) ⟨pu_bl, va_recv hK hP (ci := 9) (q0 := 0) rfl rfl, pu_in hP hK hD⟩ rfl rfl hl.1 rfl (lv_room (Nat.le_of_ble_eq_true rfl)) dX9_readLine_126 ⟨Nat.le_of_ble_eq_true rfl, Nat.le_of_ble_eq_true rfl⟩) hS (fun q _ h => hFc q h) hFc (fun u t H1 locs ht hvm hw hB hz1 hk1 hS => ?_)
                    obtain ⟨z26_149, z27_150, ⟨hP1, -, hD1⟩, hz26_149, xr_148_0, xr_148_1⟩ := hB
                    rw [ht] at hP1
                    have hP := hP1
                    have hD := pu_all hFc hD1
                    clear hP1 hD1 hFc
                    clear hk1 hz1 ht hvm
                    generalize H1 = H at hP hS ⊢
                    have hsp := hsp.trans (slet_eq xr_148_1)
                    exact j_16 _ _ _ _ ⟨z26_149, z27_150, rfl, hz26_149, by omega, by omega, by omega, by omega, by omega, hsp.symm, hP, hD, hS, lv_sub hl [4, 3, 2, 1, 0] rfl⟩
              · obtain rfl : y_144 = nI vy_144 := qy_144.trans wy_144
                have hsp := hsp.trans (if_neg (by omega))
                have hsp := hsp.trans (slet_eq (by omega : vy_144 = m15_1 - 1))
                refine lv_if_ge (tgt := 124) hx hb dX9_readLine_102 (by decide) (fun c_151 => ?_) (fun c_151 => ?_)
                · have c_151 : 0 ≤ vy_144 := (nI_leI (a := 0) (b := vy_144) (Nat.le_of_ble_eq_true rfl) (by omega)).mp c_151
                  refine lv_aload_n hx hb dX9_readLine_124 rfl (lv_at hl 4 rfl) ?_
                  refine lv_iconst (v := 5) hx hb dX9_readLine_125 (by decide) ?_
                  have hFc := pu_free hD hS hA
                  refine va_callv (va_runV (As := [.int 5]) (rest := []) ⟨hx, hb, hml, hown, hts⟩ (c_EM_fails l dC dI _ ad ck x0 x16 x18 x19 x20 x21 x22 x23 x24 x25 x26 x27 1 x29 x30 x33 x45 x46 x52 x53 x61 x62 x63 x65 x66 f1 f2 f3 q4 q5 q6 q7 f8 q9 q10 f11 m12_0 m12_1 m13_0 m13_1 m14_0 m14_1 m15_0 m15_1 f17 q31 f32 f34 f35 f36 f37 q38 f39 f40 f41 m42_0 m42_1 f43 f44 f47 f48 f49 f50 f51 q54 q55 q56 f57 q58 f59 f60 f64 5 hx16 hx18 hx19 hx21 hx22 hx26 (Nat.le_of_ble_eq_true rfl) hx29 hx30 hx33 hx46 hx52 hx53 hx61 hx62 hx63 hx65 hm12_0 hm12_1 hm13_0 hm13_1 hm14_0 hm14_1 hm15_0 hm15_1 hm42_0 hm42_1 (Nat.le_of_ble_eq_true rfl) (by omega)) (cwV 1 hts g_EM_readLine_1_EM_fails rfl rfl rfl (by decide +kernel) ⟨Nat.le_of_ble_eq_true rfl, Nat.le_of_ble_eq_true rfl⟩) ⟨pu_bl, va_recv hK hP (ci := 9) (q0 := 0) rfl rfl, pu_in hP hK hD⟩ rfl rfl hl.1 rfl (lv_room (Nat.le_of_ble_eq_true rfl)) dX9_readLine_126 ⟨Nat.le_of_ble_eq_true rfl, Nat.le_of_ble_eq_true rfl⟩) hS (fun q _ h => hFc q h) hFc (fun u t H1 locs ht hvm hw hB hz1 hk1 hS => ?_)
                  obtain ⟨z26_153, z27_154, ⟨hP1, -, hD1⟩, hz26_153, xr_152_0, xr_152_1⟩ := hB
                  rw [ht] at hP1
                  have hP := hP1
                  have hD := pu_all hFc hD1
                  clear hP1 hD1 hFc
                  clear hk1 hz1 ht hvm
                  generalize H1 = H at hP hS ⊢
                  have hsp := hsp.trans (slet_eq xr_152_1)
                  exact j_16 _ _ _ _ ⟨z26_153, z27_154, rfl, hz26_153, by omega, by omega, by omega, by omega, by omega, hsp.symm, hP, hD, hS, lv_sub hl [4, 3, 2, 1, 0] rfl⟩
                · have c_151 : ¬ 0 ≤ vy_144 := fun z => c_151 ((nI_leI (a := 0) (b := vy_144) (Nat.le_of_ble_eq_true rfl) (by omega)).mpr z)
                  exfalso
                  omega
      · have c_130 : ¬ u_2 = 0 := fun z => c_130 ((nI_eq (a := u_2) (b := 0) (Nat.lt_of_le_of_lt hu_2 (Nat.le_of_ble_eq_true rfl)) (Nat.le_of_ble_eq_true rfl)).mpr z)
        exfalso
        omega
    · have c_129 : u_4 = 0 := (nI_eq (a := u_4) (b := 0) (Nat.lt_of_le_of_lt hu_4 (Nat.le_of_ble_eq_true rfl)) (Nat.le_of_ble_eq_true rfl)).mp c_129
      have hsp := hsp.trans (if_pos c_129)
      refine lv_iload_n hx hb dX9_readLine_37 rfl (lv_at hl 1 rfl) ?_
      refine lv_if_ne (tgt := 54) hx hb dX9_readLine_38 (by decide) (fun c_155 => ?_) (fun c_155 => ?_)
      · have c_155 : ¬ u_6 = 0 := fun z => c_155 ((nI_eq (a := u_6) (b := 0) (Nat.lt_of_le_of_lt hu_6 (Nat.le_of_ble_eq_true rfl)) (Nat.le_of_ble_eq_true rfl)).mpr z)
        have hsp := hsp.trans (if_neg c_155)
        refine lv_iload_n hx hb dX9_readLine_54 rfl (lv_at hl 3 rfl) ?_
        refine lv_if_eq (tgt := 71) hx hb dX9_readLine_55 (by decide) (fun c_156 => ?_) (fun c_156 => ?_)
        · have c_156 : u_2 = 0 := (nI_eq (a := u_2) (b := 0) (Nat.lt_of_le_of_lt hu_2 (Nat.le_of_ble_eq_true rfl)) (Nat.le_of_ble_eq_true rfl)).mp c_156
          refine lv_iload_n hx hb dX9_readLine_71 rfl (lv_at hl 2 rfl) ?_
          refine lv_if_eq (tgt := 89) hx hb dX9_readLine_72 (by decide) (fun c_157 => ?_) (fun c_157 => ?_)
          · have c_157 : u_4 = 0 := (nI_eq (a := u_4) (b := 0) (Nat.lt_of_le_of_lt hu_4 (Nat.le_of_ble_eq_true rfl)) (Nat.le_of_ble_eq_true rfl)).mp c_157
            refine lv_iload_n hx hb dX9_readLine_89 rfl (lv_at hl 1 rfl) ?_
            refine lv_if_eq (tgt := 105) hx hb dX9_readLine_90 (by decide) (fun c_158 => ?_) (fun c_158 => ?_)
            · have c_158 : u_6 = 0 := (nI_eq (a := u_6) (b := 0) (Nat.lt_of_le_of_lt hu_6 (Nat.le_of_ble_eq_true rfl)) (Nat.le_of_ble_eq_true rfl)).mp c_158
              exfalso
              omega
            · have c_158 : ¬ u_6 = 0 := fun z => c_158 ((nI_eq (a := u_6) (b := 0) (Nat.lt_of_le_of_lt hu_6 (Nat.le_of_ble_eq_true rfl)) (Nat.le_of_ble_eq_true rfl)).mpr z)
              refine lv_aload_n hx hb dX9_readLine_93 rfl (lv_at hl 4 rfl) ?_
              refine va_get (D := (dC, dI)) (ci := 9) (v := .ref (ad 15)) (C := RX9) (T := TX9) (N := 67) hx hb hts hiX9 hown hK hP 0 rfl rfl 15 (by decide) v_17 (fun _ h9 => h9) rfl dX9_readLine_94 ?_
              refine lv_aload_n hx hb dX9_readLine_97 rfl (lv_at hl 4 rfl) ?_
              refine va_get (D := (dC, dI)) (ci := 9) (v := .int 1) (C := RX9) (T := TX9) (N := 67) hx hb hts hiX9 hown hK hP 0 rfl rfl 28 (by decide) v_11 (fun _ h9 => h9) rfl dX9_readLine_98 ?_
              refine va_iald hx hb hK hP 15 14 rfl rfl (vp_in_nI (n := 1) (Nat.le_of_ble_eq_true rfl) (Nat.le_of_ble_eq_true rfl)) dX9_readLine_101 ?_
              refine lv_topi (fun y_159 ey_159 => ?_)
              have qy_159 := ey_159.trans b2m_1
              clear ey_159
              rcases mI_get m15_1 with ⟨zy_159, wy_159⟩ | ⟨vy_159, zy_159, wy_159⟩
              · obtain rfl : y_159 = -1 := qy_159.trans wy_159
                have hsp := hsp.trans (if_pos zy_159)
                refine lv_if_ge (tgt := 124) hx hb dX9_readLine_102 (by decide) (fun z => absurd z (by decide)) (fun _ => ?_)
                refine lv_iload hx hb dX9_readLine_105 (lv_at hl 0 rfl) ?_
                refine lv_if_eq (tgt := 129) hx hb dX9_readLine_107 (by decide) (fun c_160 => ?_) (fun c_160 => ?_)
                · have c_160 : u_8 = 0 := (nI_eq (a := u_8) (b := 0) (Nat.lt_of_le_of_lt hu_8 (Nat.le_of_ble_eq_true rfl)) (Nat.le_of_ble_eq_true rfl)).mp c_160
                  have hsp := hsp.trans (if_pos c_160)
                  exact j_16 _ _ _ _ ⟨x26, x27, rfl, hx26, by omega, by omega, by omega, by omega, by omega, hsp.symm, hP, hD, hS, lv_sub hl [4, 3, 2, 1, 0] rfl⟩
                · have c_160 : ¬ u_8 = 0 := fun z => c_160 ((nI_eq (a := u_8) (b := 0) (Nat.lt_of_le_of_lt hu_8 (Nat.le_of_ble_eq_true rfl)) (Nat.le_of_ble_eq_true rfl)).mpr z)
                  have hsp := hsp.trans (if_neg c_160)
                  refine lv_aload_n hx hb dX9_readLine_110 rfl (lv_at hl 4 rfl) ?_
                  refine va_get (D := (dC, dI)) (ci := 9) (v := .ref (ad 14)) (C := RX9) (T := TX9) (N := 67) hx hb hts hiX9 hown hK hP 0 rfl rfl 14 (by decide) v_16 (fun _ h9 => h9) rfl dX9_readLine_111 ?_
                  refine lv_aload_n hx hb dX9_readLine_114 rfl (lv_at hl 4 rfl) ?_
                  refine va_get (D := (dC, dI)) (ci := 9) (v := .int 1) (C := RX9) (T := TX9) (N := 67) hx hb hts hiX9 hown hK hP 0 rfl rfl 28 (by decide) v_11 (fun _ h9 => h9) rfl dX9_readLine_115 ?_
                  refine va_iald hx hb hK hP 14 13 rfl rfl (vp_in_nI (n := 1) (Nat.le_of_ble_eq_true rfl) (Nat.le_of_ble_eq_true rfl)) dX9_readLine_118 ?_
                  refine lv_topi (fun y_161 ey_161 => ?_)
                  have qy_161 := ey_161.trans b2_1
                  clear ey_161
                  obtain rfl : y_161 = nI m14_1 := qy_161
                  refine lv_bipush (v := 14) hx hb dX9_readLine_119 (by decide) ?_
                  refine lv_icmp_ne (tgt := 129) hx hb dX9_readLine_121 (by decide) (fun c_162 => ?_) (fun c_162 => ?_)
                  · have c_162 : ¬ m14_1 = 14 := fun z => c_162 ((nI_eq (a := m14_1) (b := 14) (Nat.lt_of_le_of_lt hm14_1 (Nat.le_of_ble_eq_true rfl)) (Nat.le_of_ble_eq_true rfl)).mpr z)
                    have hsp := hsp.trans (if_neg c_162)
                    exact j_16 _ _ _ _ ⟨x26, x27, rfl, hx26, by omega, by omega, by omega, by omega, by omega, hsp.symm, hP, hD, hS, lv_sub hl [4, 3, 2, 1, 0] rfl⟩
                  · have c_162 : m14_1 = 14 := (nI_eq (a := m14_1) (b := 14) (Nat.lt_of_le_of_lt hm14_1 (Nat.le_of_ble_eq_true rfl)) (Nat.le_of_ble_eq_true rfl)).mp c_162
                    have hsp := hsp.trans (if_pos c_162)
                    refine lv_aload_n hx hb dX9_readLine_124 rfl (lv_at hl 4 rfl) ?_
                    refine lv_iconst (v := 5) hx hb dX9_readLine_125 (by decide) ?_
                    have hFc := pu_free hD hS hA
                    refine va_callv (va_runV (As := [.int 5]) (rest := []) ⟨hx, hb, hml, hown, hts⟩ (c_EM_fails l dC dI _ ad ck x0 x16 x18 x19 x20 x21 x22 x23 x24 x25 x26 x27 1 x29 x30 x33 x45 x46 x52 x53 x61 x62 x63 x65 x66 f1 f2 f3 q4 q5 q6 q7 f8 q9 q10 f11 m12_0 m12_1 m13_0 m13_1 m14_0 m14_1 m15_0 m15_1 f17 q31 f32 f34 f35 f36 f37 q38 f39 f40 f41 m42_0 m42_1 f43 f44 f47 f48 f49 f50 f51 q54 q55 q56 f57 q58 f59 f60 f64 5 hx16 hx18 hx19 hx21 hx22 hx26 (Nat.le_of_ble_eq_true rfl) hx29 hx30 hx33 hx46 hx52 hx53 hx61 hx62 hx63 hx65 hm12_0 hm12_1 hm13_0 hm13_1 hm14_0 hm14_1 hm15_0 hm15_1 hm42_0 hm42_1 (Nat.le_of_ble_eq_true rfl) (by omega)) (cwV 1 hts g_EM_readLine_1_EM_fails rfl rfl rfl (by decide +kernel) ⟨Nat.le_of_ble_eq_true rfl, Nat.le_of_ble_eq_true rfl⟩) ⟨pu_bl, va_recv hK hP (ci := 9) (q0 := 0) rfl rfl, pu_in hP hK hD⟩ rfl rfl hl.1 rfl (lv_room (Nat.le_of_ble_eq_true rfl)) dX9_readLine_126 ⟨Nat.le_of_ble_eq_true rfl, Nat.le_of_ble_eq_true rfl⟩) hS (fun q _ h => hFc q h) hFc (fun u t H1 locs ht hvm hw hB hz1 hk1 hS => ?_)
                    obtain ⟨z26_164, z27_165, ⟨hP1, -, hD1⟩, hz26_164, xr_163_0, xr_163_1⟩ := hB
                    rw [ht] at hP1
                    have hP := hP1
                    have hD := pu_all hFc hD1
                    clear hP1 hD1 hFc
                    clear hk1 hz1 ht hvm
                    generalize H1 = H at hP hS ⊢
                    have hsp := hsp.trans (slet_eq xr_163_1)
                    exact j_16 _ _ _ _ ⟨z26_164, z27_165, rfl, hz26_164, by omega, by omega, by omega, by omega, by omega, hsp.symm, hP, hD, hS, lv_sub hl [4, 3, 2, 1, 0] rfl⟩
              · obtain rfl : y_159 = nI vy_159 := qy_159.trans wy_159
                have hsp := hsp.trans (if_neg (by omega))
                have hsp := hsp.trans (slet_eq (by omega : vy_159 = m15_1 - 1))
                refine lv_if_ge (tgt := 124) hx hb dX9_readLine_102 (by decide) (fun c_166 => ?_) (fun c_166 => ?_)
                · have c_166 : 0 ≤ vy_159 := (nI_leI (a := 0) (b := vy_159) (Nat.le_of_ble_eq_true rfl) (by omega)).mp c_166
                  refine lv_aload_n hx hb dX9_readLine_124 rfl (lv_at hl 4 rfl) ?_
                  refine lv_iconst (v := 5) hx hb dX9_readLine_125 (by decide) ?_
                  have hFc := pu_free hD hS hA
                  refine va_callv (va_runV (As := [.int 5]) (rest := []) ⟨hx, hb, hml, hown, hts⟩ (c_EM_fails l dC dI _ ad ck x0 x16 x18 x19 x20 x21 x22 x23 x24 x25 x26 x27 1 x29 x30 x33 x45 x46 x52 x53 x61 x62 x63 x65 x66 f1 f2 f3 q4 q5 q6 q7 f8 q9 q10 f11 m12_0 m12_1 m13_0 m13_1 m14_0 m14_1 m15_0 m15_1 f17 q31 f32 f34 f35 f36 f37 q38 f39 f40 f41 m42_0 m42_1 f43 f44 f47 f48 f49 f50 f51 q54 q55 q56 f57 q58 f59 f60 f64 5 hx16 hx18 hx19 hx21 hx22 hx26 (Nat.le_of_ble_eq_true rfl) hx29 hx30 hx33 hx46 hx52 hx53 hx61 hx62 hx63 hx65 hm12_0 hm12_1 hm13_0 hm13_1 hm14_0 hm14_1 hm15_0 hm15_1 hm42_0 hm42_1 (Nat.le_of_ble_eq_true rfl) (by omega)) (cwV 1 hts g_EM_readLine_1_EM_fails rfl rfl rfl (by decide +kernel) ⟨Nat.le_of_ble_eq_true rfl, Nat.le_of_ble_eq_true rfl⟩) ⟨pu_bl, va_recv hK hP (ci := 9) (q0 := 0) rfl rfl, pu_in hP hK hD⟩ rfl rfl hl.1 rfl (lv_room (Nat.le_of_ble_eq_true rfl)) dX9_readLine_126 ⟨Nat.le_of_ble_eq_true rfl, Nat.le_of_ble_eq_true rfl⟩) hS (fun q _ h => hFc q h) hFc (fun u t H1 locs ht hvm hw hB hz1 hk1 hS => ?_)
                  obtain ⟨z26_168, z27_169, ⟨hP1, -, hD1⟩, hz26_168, xr_167_0, xr_167_1⟩ := hB
                  rw [ht] at hP1
                  have hP := hP1
                  have hD := pu_all hFc hD1
                  clear hP1 hD1 hFc
                  clear hk1 hz1 ht hvm
                  generalize H1 = H at hP hS ⊢
                  have hsp := hsp.trans (slet_eq xr_167_1)
                  exact j_16 _ _ _ _ ⟨z26_168, z27_169, rfl, hz26_168, by omega, by omega, by omega, by omega, by omega, hsp.symm, hP, hD, hS, lv_sub hl [4, 3, 2, 1, 0] rfl⟩
                · have c_166 : ¬ 0 ≤ vy_159 := fun z => c_166 ((nI_leI (a := 0) (b := vy_159) (Nat.le_of_ble_eq_true rfl) (by omega)).mpr z)
                  exfalso
                  omega
          · have c_157 : ¬ u_4 = 0 := fun z => c_157 ((nI_eq (a := u_4) (b := 0) (Nat.lt_of_le_of_lt hu_4 (Nat.le_of_ble_eq_true rfl)) (Nat.le_of_ble_eq_true rfl)).mpr z)
            exfalso
            omega
        · have c_156 : ¬ u_2 = 0 := fun z => c_156 ((nI_eq (a := u_2) (b := 0) (Nat.lt_of_le_of_lt hu_2 (Nat.le_of_ble_eq_true rfl)) (Nat.le_of_ble_eq_true rfl)).mpr z)
          exfalso
          omega
      · have c_155 : u_6 = 0 := (nI_eq (a := u_6) (b := 0) (Nat.lt_of_le_of_lt hu_6 (Nat.le_of_ble_eq_true rfl)) (Nat.le_of_ble_eq_true rfl)).mp c_155
        have hsp := hsp.trans (if_pos c_155)
        refine lv_iload hx hb dX9_readLine_41 (lv_at hl 0 rfl) ?_
        refine lv_if_ne (tgt := 54) hx hb dX9_readLine_43 (by decide) (fun c_170 => ?_) (fun c_170 => ?_)
        · have c_170 : ¬ u_8 = 0 := fun z => c_170 ((nI_eq (a := u_8) (b := 0) (Nat.lt_of_le_of_lt hu_8 (Nat.le_of_ble_eq_true rfl)) (Nat.le_of_ble_eq_true rfl)).mpr z)
          have hsp := hsp.trans (if_neg c_170)
          refine lv_iload_n hx hb dX9_readLine_54 rfl (lv_at hl 3 rfl) ?_
          refine lv_if_eq (tgt := 71) hx hb dX9_readLine_55 (by decide) (fun c_171 => ?_) (fun c_171 => ?_)
          · have c_171 : u_2 = 0 := (nI_eq (a := u_2) (b := 0) (Nat.lt_of_le_of_lt hu_2 (Nat.le_of_ble_eq_true rfl)) (Nat.le_of_ble_eq_true rfl)).mp c_171
            refine lv_iload_n hx hb dX9_readLine_71 rfl (lv_at hl 2 rfl) ?_
            refine lv_if_eq (tgt := 89) hx hb dX9_readLine_72 (by decide) (fun c_172 => ?_) (fun c_172 => ?_)
            · have c_172 : u_4 = 0 := (nI_eq (a := u_4) (b := 0) (Nat.lt_of_le_of_lt hu_4 (Nat.le_of_ble_eq_true rfl)) (Nat.le_of_ble_eq_true rfl)).mp c_172
              refine lv_iload_n hx hb dX9_readLine_89 rfl (lv_at hl 1 rfl) ?_
              refine lv_if_eq (tgt := 105) hx hb dX9_readLine_90 (by decide) (fun c_173 => ?_) (fun c_173 => ?_)
              · have c_173 : u_6 = 0 := (nI_eq (a := u_6) (b := 0) (Nat.lt_of_le_of_lt hu_6 (Nat.le_of_ble_eq_true rfl)) (Nat.le_of_ble_eq_true rfl)).mp c_173
                refine lv_iload hx hb dX9_readLine_105 (lv_at hl 0 rfl) ?_
                refine lv_if_eq (tgt := 129) hx hb dX9_readLine_107 (by decide) (fun c_174 => ?_) (fun c_174 => ?_)
                · have c_174 : u_8 = 0 := (nI_eq (a := u_8) (b := 0) (Nat.lt_of_le_of_lt hu_8 (Nat.le_of_ble_eq_true rfl)) (Nat.le_of_ble_eq_true rfl)).mp c_174
                  exfalso
                  omega
                · have c_174 : ¬ u_8 = 0 := fun z => c_174 ((nI_eq (a := u_8) (b := 0) (Nat.lt_of_le_of_lt hu_8 (Nat.le_of_ble_eq_true rfl)) (Nat.le_of_ble_eq_true rfl)).mpr z)
                  refine lv_aload_n hx hb dX9_readLine_110 rfl (lv_at hl 4 rfl) ?_
                  refine va_get (D := (dC, dI)) (ci := 9) (v := .ref (ad 14)) (C := RX9) (T := TX9) (N := 67) hx hb hts hiX9 hown hK hP 0 rfl rfl 14 (by decide) v_16 (fun _ h9 => h9) rfl dX9_readLine_111 ?_
                  refine lv_aload_n hx hb dX9_readLine_114 rfl (lv_at hl 4 rfl) ?_
                  refine va_get (D := (dC, dI)) (ci := 9) (v := .int 1) (C := RX9) (T := TX9) (N := 67) hx hb hts hiX9 hown hK hP 0 rfl rfl 28 (by decide) v_11 (fun _ h9 => h9) rfl dX9_readLine_115 ?_
                  refine va_iald hx hb hK hP 14 13 rfl rfl (vp_in_nI (n := 1) (Nat.le_of_ble_eq_true rfl) (Nat.le_of_ble_eq_true rfl)) dX9_readLine_118 ?_
                  refine lv_topi (fun y_175 ey_175 => ?_)
                  have qy_175 := ey_175.trans b2_1
                  clear ey_175
                  obtain rfl : y_175 = nI m14_1 := qy_175
                  refine lv_bipush (v := 14) hx hb dX9_readLine_119 (by decide) ?_
                  refine lv_icmp_ne (tgt := 129) hx hb dX9_readLine_121 (by decide) (fun c_176 => ?_) (fun c_176 => ?_)
                  · have c_176 : ¬ m14_1 = 14 := fun z => c_176 ((nI_eq (a := m14_1) (b := 14) (Nat.lt_of_le_of_lt hm14_1 (Nat.le_of_ble_eq_true rfl)) (Nat.le_of_ble_eq_true rfl)).mpr z)
                    have hsp := hsp.trans (if_neg c_176)
                    exact j_16 _ _ _ _ ⟨x26, x27, rfl, hx26, by omega, by omega, by omega, by omega, by omega, hsp.symm, hP, hD, hS, lv_sub hl [4, 3, 2, 1, 0] rfl⟩
                  · have c_176 : m14_1 = 14 := (nI_eq (a := m14_1) (b := 14) (Nat.lt_of_le_of_lt hm14_1 (Nat.le_of_ble_eq_true rfl)) (Nat.le_of_ble_eq_true rfl)).mp c_176
                    have hsp := hsp.trans (if_pos c_176)
                    refine lv_aload_n hx hb dX9_readLine_124 rfl (lv_at hl 4 rfl) ?_
                    refine lv_iconst (v := 5) hx hb dX9_readLine_125 (by decide) ?_
                    have hFc := pu_free hD hS hA
                    refine va_callv (va_runV (As := [.int 5]) (rest := []) ⟨hx, hb, hml, hown, hts⟩ (c_EM_fails l dC dI _ ad ck x0 x16 x18 x19 x20 x21 x22 x23 x24 x25 x26 x27 1 x29 x30 x33 x45 x46 x52 x53 x61 x62 x63 x65 x66 f1 f2 f3 q4 q5 q6 q7 f8 q9 q10 f11 m12_0 m12_1 m13_0 m13_1 m14_0 m14_1 m15_0 m15_1 f17 q31 f32 f34 f35 f36 f37 q38 f39 f40 f41 m42_0 m42_1 f43 f44 f47 f48 f49 f50 f51 q54 q55 q56 f57 q58 f59 f60 f64 5 hx16 hx18 hx19 hx21 hx22 hx26 (Nat.le_of_ble_eq_true rfl) hx29 hx30 hx33 hx46 hx52 hx53 hx61 hx62 hx63 hx65 hm12_0 hm12_1 hm13_0 hm13_1 hm14_0 hm14_1 hm15_0 hm15_1 hm42_0 hm42_1 (Nat.le_of_ble_eq_true rfl) (by omega)) (cwV 1 hts g_EM_readLine_1_EM_fails rfl rfl rfl (by decide +kernel) ⟨Nat.le_of_ble_eq_true rfl, Nat.le_of_ble_eq_true rfl⟩) ⟨pu_bl, va_recv hK hP (ci := 9) (q0 := 0) rfl rfl, pu_in hP hK hD⟩ rfl rfl hl.1 rfl (lv_room (Nat.le_of_ble_eq_true rfl)) dX9_readLine_126 ⟨Nat.le_of_ble_eq_true rfl, Nat.le_of_ble_eq_true rfl⟩) hS (fun q _ h => hFc q h) hFc (fun u t H1 locs ht hvm hw hB hz1 hk1 hS => ?_)
                    obtain ⟨z26_178, z27_179, ⟨hP1, -, hD1⟩, hz26_178, xr_177_0, xr_177_1⟩ := hB
                    rw [ht] at hP1
                    have hP := hP1
                    have hD := pu_all hFc hD1
                    clear hP1 hD1 hFc
                    clear hk1 hz1 ht hvm
                    generalize H1 = H at hP hS ⊢
                    have hsp := hsp.trans (slet_eq xr_177_1)
                    exact j_16 _ _ _ _ ⟨z26_178, z27_179, rfl, hz26_178, by omega, by omega, by omega, by omega, by omega, hsp.symm, hP, hD, hS, lv_sub hl [4, 3, 2, 1, 0] rfl⟩
              · have c_173 : ¬ u_6 = 0 := fun z => c_173 ((nI_eq (a := u_6) (b := 0) (Nat.lt_of_le_of_lt hu_6 (Nat.le_of_ble_eq_true rfl)) (Nat.le_of_ble_eq_true rfl)).mpr z)
                exfalso
                omega
            · have c_172 : ¬ u_4 = 0 := fun z => c_172 ((nI_eq (a := u_4) (b := 0) (Nat.lt_of_le_of_lt hu_4 (Nat.le_of_ble_eq_true rfl)) (Nat.le_of_ble_eq_true rfl)).mpr z)
              exfalso
              omega
          · have c_171 : ¬ u_2 = 0 := fun z => c_171 ((nI_eq (a := u_2) (b := 0) (Nat.lt_of_le_of_lt hu_2 (Nat.le_of_ble_eq_true rfl)) (Nat.le_of_ble_eq_true rfl)).mpr z)
            exfalso
            omega
        · have c_170 : u_8 = 0 := (nI_eq (a := u_8) (b := 0) (Nat.lt_of_le_of_lt hu_8 (Nat.le_of_ble_eq_true rfl)) (Nat.le_of_ble_eq_true rfl)).mp c_170
          have hsp := hsp.trans (if_pos c_170)
          refine lv_aload_n hx hb dX9_readLine_46 rfl (lv_at hl 4 rfl) ?_
          refine lv_iconst (v := 2) hx hb dX9_readLine_47 (by decide) ?_
          have hFc := pu_free hD hS hA
          refine va_callv (va_runV (As := [.int 2]) (rest := []) ⟨hx, hb, hml, hown, hts⟩ (c_EM_fails l dC dI _ ad ck x0 x16 x18 x19 x20 x21 x22 x23 x24 x25 x26 x27 1 x29 x30 x33 x45 x46 x52 x53 x61 x62 x63 x65 x66 f1 f2 f3 q4 q5 q6 q7 f8 q9 q10 f11 m12_0 m12_1 m13_0 m13_1 m14_0 m14_1 m15_0 m15_1 f17 q31 f32 f34 f35 f36 f37 q38 f39 f40 f41 m42_0 m42_1 f43 f44 f47 f48 f49 f50 f51 q54 q55 q56 f57 q58 f59 f60 f64 2 hx16 hx18 hx19 hx21 hx22 hx26 (Nat.le_of_ble_eq_true rfl) hx29 hx30 hx33 hx46 hx52 hx53 hx61 hx62 hx63 hx65 hm12_0 hm12_1 hm13_0 hm13_1 hm14_0 hm14_1 hm15_0 hm15_1 hm42_0 hm42_1 (Nat.le_of_ble_eq_true rfl) (by omega)) (cwV 1 hts g_EM_readLine_1_EM_fails rfl rfl rfl (by decide +kernel) ⟨Nat.le_of_ble_eq_true rfl, Nat.le_of_ble_eq_true rfl⟩) ⟨pu_bl, va_recv hK hP (ci := 9) (q0 := 0) rfl rfl, pu_in hP hK hD⟩ rfl rfl hl.1 rfl (lv_room (Nat.le_of_ble_eq_true rfl)) dX9_readLine_48 ⟨Nat.le_of_ble_eq_true rfl, Nat.le_of_ble_eq_true rfl⟩) hS (fun q _ h => hFc q h) hFc (fun u t H1 locs ht hvm hw hB hz1 hk1 hS => ?_)
          obtain ⟨z26_181, z27_182, ⟨hP1, -, hD1⟩, hz26_181, xr_180_0, xr_180_1⟩ := hB
          rw [ht] at hP1
          have hP := hP1
          have hD := pu_all hFc hD1
          clear hP1 hD1 hFc
          clear hk1 hz1 ht hvm
          generalize H1 = H at hP hS ⊢
          have hsp := hsp.trans (slet_eq xr_180_1)
          refine lv_goto (tgt := 129) hx hb dX9_readLine_51 (by decide) ?_
          exact j_16 _ _ _ _ ⟨z26_181, z27_182, rfl, hz26_181, by omega, by omega, by omega, by omega, by omega, hsp.symm, hP, hD, hS, lv_sub hl [4, 3, 2, 1, 0] rfl⟩
