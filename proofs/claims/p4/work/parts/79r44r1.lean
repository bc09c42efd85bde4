abbrev vs_M_readPlace_1 : List Cond := .code yX9_readPlace cX9_readPlace 2 none :: VM
theorem g_M_readPlace_1_M_freshName_1 : GoodIn vs_M_readPlace_1 (wsV RX9 238 RX9 yX9_freshName vs_M_freshName_1) := gm_V vm_118 vm_119 vm_120 vm_12 vm_87
theorem g_M_readPlace_1_M_isGood : GoodIn vs_M_readPlace_1 (wsV RX9 216 RX9 yX9_isGood vs_M_isGood) := gm_V vm_91 vm_92 vm_93 vm_12 vm_15
theorem g_M_readPlace_1_M_isWord : GoodIn vs_M_readPlace_1 (wsV RX9 193 RX9 yX9_isWord vs_M_isWord) := gm_V vm_44 vm_45 vm_46 vm_12 vm_35
theorem g_M_readPlace_1_M_readCondition1_1 : GoodIn vs_M_readPlace_1 (wsV RX9 241 RX9 yX9_readCondition vs_M_readCondition1_1) := gm_V vm_122 vm_123 vm_124 vm_12 vm_107
theorem g_M_readPlace_1_M_fails : GoodIn vs_M_readPlace_1 (wsV RX9 210 RX9 yX9_fails vs_M_fails) := gm_V vm_55 vm_56 vm_57 vm_12 vm_39
theorem g_M_readPlace_1_M_next : GoodIn vs_M_readPlace_1 (wsV RX9 226 RX9 yX9_next vs_M_next) := gm_V vm_100 vm_101 vm_102 vm_12 vm_72
set_option maxHeartbeats 4000000 in
set_option maxRecDepth 100000 in
theorem c_M_readPlace_1 (l : Launch) (dC : Nat → ClassId) (dI : Nat → Nat → Nat) (sz : Nat) (ad : Nat → Nat) (ck : Nat → ClassId) (x0 : Int32) (x16 : Nat) (x18 : Nat) (x19 : Nat) (x20 : Int32) (x21 : Nat) (x22 : Nat) (x23 : Int32) (x24 : Int32) (x25 : Int32) (x26 : Nat) (x27 : Int32) (x29 : Nat) (x30 : Nat) (x33 : Nat) (x45 : Int32) (x46 : Nat) (x52 : Nat) (x53 : Nat) (x61 : Nat) (x62 : Nat) (x63 : Nat) (x65 : Nat) (x66 : Int32) (f1 : Nat → Int32) (f2 : Nat → Int32) (f3 : Nat → Int32) (q4 : Nat → Nat) (q5 : Nat → Nat) (q6 : Nat → Nat) (q7 : Nat → Nat) (f8 : Nat → Int32) (q9 : Nat → Nat) (q10 : Nat → Nat) (f11 : Nat → Int32) (m12_0 m12_1 : Nat) (m13_0 m13_1 : Nat) (m14_0 m14_1 : Nat) (m15_0 m15_1 : Nat) (f17 : Nat → Int32) (q31 : Nat → Nat) (f32 : Nat → Int32) (f34 : Nat → Int32) (f35 : Nat → Int32) (f36 : Nat → Int32) (f37 : Nat → Int32) (q38 : Nat → Nat) (f39 : Nat → Int32) (f40 : Nat → Int32) (f41 : Nat → Int32) (m42_0 m42_1 : Nat) (f43 : Nat → Int32) (f44 : Nat → Int32) (f47 : Nat → Int32) (f48 : Nat → Int32) (f49 : Nat → Int32) (f50 : Nat → Int32) (f51 : Nat → Int32) (q54 : Nat → Nat) (q55 : Nat → Nat) (q56 : Nat → Nat) (f57 : Nat → Int32) (q58 : Nat → Nat) (f59 : Nat → Int32) (f60 : Nat → Int32) (f64 : Nat → Int32) (hx16 : x16 ≤ 1) (hx18 : x18 ≤ 900) (hx19 : x19 ≤ 900) (hx21 : x21 ≤ 900) (hx22 : x22 ≤ 4) (hx26 : x26 ≤ 6) (hx29 : x29 ≤ 1) (hx30 : x30 ≤ 1) (hx33 : x33 ≤ 20) (hx46 : x46 ≤ 5) (hx52 : x52 ≤ 2400) (hx53 : x53 ≤ 119) (hx61 : x61 ≤ 119) (hx62 : x62 ≤ 2000) (hx63 : x63 ≤ 1) (hx65 : x65 ≤ 7) (hm12_0 : m12_0 ≤ 3) (hm12_1 : m12_1 ≤ 3) (hm13_0 : m13_0 ≤ 8) (hm13_1 : m13_1 ≤ 7) (hm14_0 : m14_0 ≤ 14) (hm14_1 : m14_1 ≤ 14) (hm15_0 : m15_0 ≤ 8) (hm15_1 : m15_1 ≤ 8) (hm42_0 : m42_0 ≤ 120) (hm42_1 : m42_1 ≤ 400) : Met l yX9_readPlace vs_M_readPlace_1 ({ frames := 5, cells := 0, slots := 0, locals := 108 }) (va_Pc [.ref (ad 0)] (pu_B (dC, dI) (mo_w ad ck x0 (nI x16) (nI x18) (nI x19) x20 (nI x21) (nI x22) x23 x24 x25 (nI x26) x27 1 (nI x29) (nI x30) (nI x33) x45 (nI x46) (nI x52) (nI x53) (nI x61) (nI x62) (nI x63) (nI x65) x66 f1 f2 f3 (bN 3 q4) (bN 7 q5) (bN 7 q6) (bN 4 q7) f8 (bN 2 q9) (bH q10) f11 (b2 m12_0 m12_1) (b2 m13_0 m13_1) (b2 m14_0 m14_1) (b2m m15_0 m15_1) f17 (bA 159 q31) f32 f34 f35 f36 f37 (bN 7 q38) f39 f40 f41 (b2 m42_0 m42_1) f43 f44 f47 f48 f49 f50 f51 (bN 13 q54) (bN 120 q55) (bN 120 q56) f57 (bN 120 q58) f59 f60 f64) (mo_t ck) sz)) (va_Qv (fun (_ : Unit) => True) (fun _ t => ∃ (z10 : Nat → Nat) (z11 : Nat → Int32) (z2 : Nat → Int32) (z3 : Nat → Int32) (z4 : Nat → Nat) (z9 : Nat → Nat) (z13_1 : Nat) (z20 : Int32) (z21 : Nat) (z22 : Nat) (z23 : Int32) (z26 : Nat) (z27 : Int32), pu_E (dC, dI) (mo_w ad ck x0 (nI x16) (nI x18) (nI x19) z20 (nI z21) (nI z22) z23 x24 x25 (nI z26) z27 1 (nI x29) (nI x30) (nI x33) x45 (nI x46) (nI x52) (nI x53) (nI x61) (nI x62) (nI x63) (nI x65) x66 f1 z2 z3 (bN 3 z4) (bN 7 q5) (bN 7 q6) (bN 4 q7) f8 (bN 2 z9) (bH z10) z11 (b2 m12_0 m12_1) (b2 m13_0 z13_1) (b2 m14_0 m14_1) (b2m m15_0 m15_1) f17 (bA 159 q31) f32 f34 f35 f36 f37 (bN 7 q38) f39 f40 f41 (b2 m42_0 m42_1) f43 f44 f47 f48 f49 f50 f51 (bN 13 q54) (bN 120 q55) (bN 120 q56) f57 (bN 120 q58) f59 f60 f64) (mo_t ck) (va_A ((mo_w ad ck x0 (nI x16) (nI x18) (nI x19) x20 (nI x21) (nI x22) x23 x24 x25 (nI x26) x27 1 (nI x29) (nI x30) (nI x33) x45 (nI x46) (nI x52) (nI x53) (nI x61) (nI x62) (nI x63) (nI x65) x66 f1 f2 f3 (bN 3 q4) (bN 7 q5) (bN 7 q6) (bN 4 q7) f8 (bN 2 q9) (bH q10) f11 (b2 m12_0 m12_1) (b2 m13_0 m13_1) (b2 m14_0 m14_1) (b2m m15_0 m15_1) f17 (bA 159 q31) f32 f34 f35 f36 f37 (bN 7 q38) f39 f40 f41 (b2 m42_0 m42_1) f43 f44 f47 f48 f49 f50 f51 (bN 13 q54) (bN 120 q55) (bN 120 q56) f57 (bN 120 q58) f59 f60 f64)) sz) t ∧ (z13_1 ≤ 8) ∧ (z21 ≤ 900) ∧ (z22 ≤ 4) ∧ (z26 ≤ 6) ∧ (mu z21 z22 ≤ mu x21 x22)) (va_A ((mo_w ad ck x0 (nI x16) (nI x18) (nI x19) x20 (nI x21) (nI x22) x23 x24 x25 (nI x26) x27 1 (nI x29) (nI x30) (nI x33) x45 (nI x46) (nI x52) (nI x53) (nI x61) (nI x62) (nI x63) (nI x65) x66 f1 f2 f3 (bN 3 q4) (bN 7 q5) (bN 7 q6) (bN 4 q7) f8 (bN 2 q9) (bH q10) f11 (b2 m12_0 m12_1) (b2 m13_0 m13_1) (b2 m14_0 m14_1) (b2m m15_0 m15_1) f17 (bA 159 q31) f32 f34 f35 f36 f37 (bN 7 q38) f39 f40 f41 (b2 m42_0 m42_1) f43 f44 f47 f48 f49 f50 f51 (bN 13 q54) (bN 120 q55) (bN 120 q56) f57 (bN 120 q58) f59 f60 f64)) sz)) 0 0 (va_A ((mo_w ad ck x0 (nI x16) (nI x18) (nI x19) x20 (nI x21) (nI x22) x23 x24 x25 (nI x26) x27 1 (nI x29) (nI x30) (nI x33) x45 (nI x46) (nI x52) (nI x53) (nI x61) (nI x62) (nI x63) (nI x65) x66 f1 f2 f3 (bN 3 q4) (bN 7 q5) (bN 7 q6) (bN 4 q7) f8 (bN 2 q9) (bH q10) f11 (b2 m12_0 m12_1) (b2 m13_0 m13_1) (b2 m14_0 m14_1) (b2m m15_0 m15_1) f17 (bA 159 q31) f32 f34 f35 f36 f37 (bN 7 q38) f39 f40 f41 (b2 m42_0 m42_1) f43 f44 f47 f48 f49 f50 f51 (bN 13 q54) (bN 120 q55) (bN 120 q56) f57 (bN 120 q58) f59 f60 f64)) sz) := by
  refine Met.ofW (cc := cX9_readPlace) (maxL := 2) (ret := none) (by decide) rfl ?_
  intro p e s m args below meth c s₁ B hml hv
  obtain ⟨rfl, rfl, hP, hK, hD0⟩ := hv
  have hx := B.exec
  have hb := B.bytes
  have hr := B.returns
  have hts := atoms_spec (ws := vs_M_readPlace_1) B.pre
  have v_1 := hts (.fieldLink RX9 203 "ClockReachModel" "rb" "I") (List.mem_cons_of_mem _ vm_82)
  have v_2 := hts (.fieldLink RX9 46 "ClockReachModel" "placeMany" "[I") (List.mem_cons_of_mem _ vm_85)
  have v_3 := hts (.fieldLink RX9 13 "ClockReachModel" "placeName" "[I") (List.mem_cons_of_mem _ vm_86)
  have v_9 := hts (.fieldLink RX9 16 "ClockReachModel" "urgent" "[I") (List.mem_cons_of_mem _ vm_34)
  have v_10 := hts (.fieldLink RX9 19 "ClockReachModel" "untils" "[I") (List.mem_cons_of_mem _ vm_121)
  have v_15 := hts (.constant RX9 197 (723752404)) (List.mem_cons_of_mem _ vm_48)
  have v_24 := hts (.constant RX9 198 (22499628)) (List.mem_cons_of_mem _ vm_49)
  have hown : s.vm.findClass RX9 = some m.cls := findClass_of_methodNamed B.named
  have hlocks := B.notSynchronized
  have hiX9 : ∀ w ∈ wsX90, w ∈ vs_M_readPlace_1 := fun _ h => List.mem_cons_of_mem _ (List.mem_append_right _ h)
  have hD := hD0.self (sz := s.heap.size)
  generalize hAe : va_A ((mo_w ad ck x0 (nI x16) (nI x18) (nI x19) x20 (nI x21) (nI x22) x23 x24 x25 (nI x26) x27 1 (nI x29) (nI x30) (nI x33) x45 (nI x46) (nI x52) (nI x53) (nI x61) (nI x62) (nI x63) (nI x65) x66 f1 f2 f3 (bN 3 q4) (bN 7 q5) (bN 7 q6) (bN 4 q7) f8 (bN 2 q9) (bH q10) f11 (b2 m12_0 m12_1) (b2 m13_0 m13_1) (b2 m14_0 m14_1) (b2m m15_0 m15_1) f17 (bA 159 q31) f32 f34 f35 f36 f37 (bN 7 q38) f39 f40 f41 (b2 m42_0 m42_1) f43 f44 f47 f48 f49 f50 f51 (bN 13 q54) (bN 120 q55) (bN 120 q56) f57 (bN 120 q58) f59 f60 f64)) s.heap.size = A at hD ⊢
  have hA : ∀ q : Nat, s.heap.size ≤ q → A q := fun q h => by rw [← hAe]; exact Or.inr h
  have hS : va_S A s.heap s.heap [] := va_S.rf
  have hl := lv_entry ([.ref (ad 0)]) (n := 2) (Nat.le_of_ble_eq_true rfl)
  rw [lg_entry_eq]
  generalize (lg_sl ([.ref (ad 0)]) ++ List.replicate (2 - (lg_sl ([.ref (ad 0)])).length) Slot.unset).toArray = ls at hl ⊢
  have hl : lv_has ls 2 [(0, .ref (ad 0))] := hl
  refine lv_bipush (v := 8) hx hb dX9_readPlace_0 (by decide) ?_
  refine lv_aload_n hx hb dX9_readPlace_2 rfl (lv_at hl 0 rfl) ?_
  refine va_get (D := (dC, dI)) (ci := 9) (v := .int 1) (C := RX9) (T := TX9) (N := 67) hx hb hts hiX9 hown hK hP 0 rfl rfl 28 (by decide) v_1 (fun _ h9 => h9) rfl dX9_readPlace_3 ?_
  refine lv_imul hx hb dX9_readPlace_6 ?_
  refine lv_topi (fun y_1 ey_1 => ?_)
  obtain rfl : y_1 = 8 := ey_1.trans (by decide)
  refine lv_aload_n hx hb dX9_readPlace_7 rfl (lv_at hl 0 rfl) ?_
  refine va_get (D := (dC, dI)) (ci := 9) (v := .ref (ad 13)) (C := RX9) (T := TX9) (N := 67) hx hb hts hiX9 hown hK hP 0 rfl rfl 13 (by decide) v_2 (fun _ h9 => h9) rfl dX9_readPlace_8 ?_
  refine lv_aload_n hx hb dX9_readPlace_11 rfl (lv_at hl 0 rfl) ?_
  refine va_get (D := (dC, dI)) (ci := 9) (v := .int 1) (C := RX9) (T := TX9) (N := 67) hx hb hts hiX9 hown hK hP 0 rfl rfl 28 (by decide) v_1 (fun _ h9 => h9) rfl dX9_readPlace_12 ?_
  refine va_iald hx hb hK hP 13 12 rfl rfl (vp_in_nI (n := 1) (Nat.le_of_ble_eq_true rfl) (Nat.le_of_ble_eq_true rfl)) dX9_readPlace_15 ?_
  refine lv_topi (fun y_2 ey_2 => ?_)
  have qy_2 := ey_2.trans b2_1
  clear ey_2
  obtain rfl : y_2 = nI m13_1 := qy_2
  refine lv_iadd hx hb dX9_readPlace_16 ?_
  refine lv_topi (fun y_3 ey_3 => ?_)
  obtain rfl : y_3 = (nI (8 + m13_1)) := ey_3.trans (nI_add 8 m13_1)
  refine lv_istore_n (lv' := [(1, .int (nI (8 + m13_1))), (0, .ref (ad 0))]) hx hb dX9_readPlace_17 rfl hl (by decide) rfl (fun ls hl => ?_)
  refine lv_aload_n hx hb dX9_readPlace_18 rfl (lv_at hl 1 rfl) ?_
  refine va_get (D := (dC, dI)) (ci := 9) (v := .ref (ad 2)) (C := RX9) (T := TX9) (N := 67) hx hb hts hiX9 hown hK hP 0 rfl rfl 2 (by decide) v_3 (fun _ h9 => h9) rfl dX9_readPlace_19 ?_
  refine lv_iload_n hx hb dX9_readPlace_22 rfl (lv_at hl 0 rfl) ?_
  refine lv_aload_n hx hb dX9_readPlace_23 rfl (lv_at hl 1 rfl) ?_
  have hFc := pu_free hD hS hA
  refine va_calli (va_runV (As := []) (rest := [.int (nI (8 + m13_1)), .ref (ad 2)]) ⟨hx, hb, hml, hown, hts⟩ (c_M_freshName_1 l dC dI _ ad ck x0 x16 x18 x19 x20 x21 x22 x23 x24 x25 x26 x27 x29 x30 x33 x45 x46 x52 x53 x61 x62 x63 x65 x66 f1 f2 f3 q4 q5 q6 q7 f8 q9 q10 f11 m12_0 m12_1 m13_0 m13_1 m14_0 m14_1 m15_0 m15_1 f17 q31 f32 f34 f35 f36 f37 q38 f39 f40 f41 m42_0 m42_1 f43 f44 f47 f48 f49 f50 f51 q54 q55 q56 f57 q58 f59 f60 f64 hx16 hx18 hx19 hx21 hx22 hx26 hx29 hx30 hx33 hx46 hx52 hx53 hx61 hx62 hx63 hx65 hm12_0 hm12_1 hm13_0 (Nat.le_trans hm13_1 (Nat.le_of_ble_eq_true rfl)) hm14_0 hm14_1 hm15_0 hm15_1 hm42_0 hm42_1) (cwV 0 hts g_M_readPlace_1_M_freshName_1 rfl rfl rfl (by decide +kernel) ⟨Nat.le_of_ble_eq_true rfl, Nat.le_of_ble_eq_true rfl⟩) ⟨pu_bl, va_recv hK hP (ci := 9) (q0 := 0) rfl rfl, pu_in hP hK hD⟩ rfl rfl hl.1 rfl (lv_room (Nat.le_of_ble_eq_true rfl)) dX9_readPlace_24 ⟨Nat.le_of_ble_eq_true rfl, Nat.le_of_ble_eq_true rfl⟩) hS (fun q _ h => hFc q h) hFc (fun r_4 u t H1 locs ht hvm hw hB hz1 hk1 hS => ?_)
  obtain ⟨z20_5, z21_6, z22_7, z23_8, z26_9, z27_10, ⟨hP1, -, hD1⟩, hz21_6, hz22_7, hz26_9, xr_4_0⟩ := hB
  rw [ht] at hP1
  have hP := hP1
  have hD := pu_all hFc hD1
  clear hP1 hD1 hFc
  clear hk1 hz1 ht hvm
  generalize H1 = H at hP hS ⊢
  refine va_iast hx hb hK hP hD hS 2 1 rfl rfl (vp_in_nI (n := (8 + m13_1)) (by omega) (Nat.le_of_ble_eq_true rfl)) dX9_readPlace_27 (fun H locs hP hD hS => ?_)
  have hP : va_P (dC, dI) vwCl (mo_w ad ck x0 (nI x16) (nI x18) (nI x19) z20_5 (nI z21_6) (nI z22_7) z23_8 x24 x25 (nI z26_9) z27_10 1 (nI x29) (nI x30) (nI x33) x45 (nI x46) (nI x52) (nI x53) (nI x61) (nI x62) (nI x63) (nI x65) x66 f1 (upd f2 ((nI (8 + m13_1)) : Int32).toNatClampNeg r_4) f3 (bN 3 q4) (bN 7 q5) (bN 7 q6) (bN 4 q7) f8 (bN 2 q9) (bH q10) f11 (b2 m12_0 m12_1) (b2 m13_0 m13_1) (b2 m14_0 m14_1) (b2m m15_0 m15_1) f17 (bA 159 q31) f32 f34 f35 f36 f37 (bN 7 q38) f39 f40 f41 (b2 m42_0 m42_1) f43 f44 f47 f48 f49 f50 f51 (bN 13 q54) (bN 120 q55) (bN 120 q56) f57 (bN 120 q58) f59 f60 f64) H := hP
  have hD : va_D A (mo_w ad ck x0 (nI x16) (nI x18) (nI x19) z20_5 (nI z21_6) (nI z22_7) z23_8 x24 x25 (nI z26_9) z27_10 1 (nI x29) (nI x30) (nI x33) x45 (nI x46) (nI x52) (nI x53) (nI x61) (nI x62) (nI x63) (nI x65) x66 f1 (upd f2 ((nI (8 + m13_1)) : Int32).toNatClampNeg r_4) f3 (bN 3 q4) (bN 7 q5) (bN 7 q6) (bN 4 q7) f8 (bN 2 q9) (bH q10) f11 (b2 m12_0 m12_1) (b2 m13_0 m13_1) (b2 m14_0 m14_1) (b2m m15_0 m15_1) f17 (bA 159 q31) f32 f34 f35 f36 f37 (bN 7 q38) f39 f40 f41 (b2 m42_0 m42_1) f43 f44 f47 f48 f49 f50 f51 (bN 13 q54) (bN 120 q55) (bN 120 q56) f57 (bN 120 q58) f59 f60 f64) := hD
  refine lv_aload_n hx hb dX9_readPlace_28 rfl (lv_at hl 1 rfl) ?_
  refine va_get (D := (dC, dI)) (ci := 9) (v := .ref (ad 3)) (C := RX9) (T := TX9) (N := 67) hx hb hts hiX9 hown hK hP 0 rfl rfl 3 (by decide) v_9 (fun _ h9 => h9) rfl dX9_readPlace_29 ?_
  refine lv_iload_n hx hb dX9_readPlace_32 rfl (lv_at hl 0 rfl) ?_
  refine lv_iconst (v := 0) hx hb dX9_readPlace_33 (by decide) ?_
  refine va_iast hx hb hK hP hD hS 3 2 rfl rfl (vp_in_nI (n := (8 + m13_1)) (by omega) (Nat.le_of_ble_eq_true rfl)) dX9_readPlace_34 (fun H locs hP hD hS => ?_)
  have hP : va_P (dC, dI) vwCl (mo_w ad ck x0 (nI x16) (nI x18) (nI x19) z20_5 (nI z21_6) (nI z22_7) z23_8 x24 x25 (nI z26_9) z27_10 1 (nI x29) (nI x30) (nI x33) x45 (nI x46) (nI x52) (nI x53) (nI x61) (nI x62) (nI x63) (nI x65) x66 f1 (upd f2 ((nI (8 + m13_1)) : Int32).toNatClampNeg r_4) (upd f3 ((nI (8 + m13_1)) : Int32).toNatClampNeg 0) (bN 3 q4) (bN 7 q5) (bN 7 q6) (bN 4 q7) f8 (bN 2 q9) (bH q10) f11 (b2 m12_0 m12_1) (b2 m13_0 m13_1) (b2 m14_0 m14_1) (b2m m15_0 m15_1) f17 (bA 159 q31) f32 f34 f35 f36 f37 (bN 7 q38) f39 f40 f41 (b2 m42_0 m42_1) f43 f44 f47 f48 f49 f50 f51 (bN 13 q54) (bN 120 q55) (bN 120 q56) f57 (bN 120 q58) f59 f60 f64) H := hP
  have hD : va_D A (mo_w ad ck x0 (nI x16) (nI x18) (nI x19) z20_5 (nI z21_6) (nI z22_7) z23_8 x24 x25 (nI z26_9) z27_10 1 (nI x29) (nI x30) (nI x33) x45 (nI x46) (nI x52) (nI x53) (nI x61) (nI x62) (nI x63) (nI x65) x66 f1 (upd f2 ((nI (8 + m13_1)) : Int32).toNatClampNeg r_4) (upd f3 ((nI (8 + m13_1)) : Int32).toNatClampNeg 0) (bN 3 q4) (bN 7 q5) (bN 7 q6) (bN 4 q7) f8 (bN 2 q9) (bH q10) f11 (b2 m12_0 m12_1) (b2 m13_0 m13_1) (b2 m14_0 m14_1) (b2m m15_0 m15_1) f17 (bA 159 q31) f32 f34 f35 f36 f37 (bN 7 q38) f39 f40 f41 (b2 m42_0 m42_1) f43 f44 f47 f48 f49 f50 f51 (bN 13 q54) (bN 120 q55) (bN 120 q56) f57 (bN 120 q58) f59 f60 f64) := hD
  refine lv_aload_n hx hb dX9_readPlace_35 rfl (lv_at hl 1 rfl) ?_
  refine va_get (D := (dC, dI)) (ci := 9) (v := .ref (ad 4)) (C := RX9) (T := TX9) (N := 67) hx hb hts hiX9 hown hK hP 0 rfl rfl 4 (by decide) v_10 (fun _ h9 => h9) rfl dX9_readPlace_36 ?_
  refine lv_iload_n hx hb dX9_readPlace_39 rfl (lv_at hl 0 rfl) ?_
  refine lv_iconst (v := 0) hx hb dX9_readPlace_40 (by decide) ?_
  refine va_iast hx hb hK hP hD hS 4 3 rfl rfl (vp_in_nI (n := (8 + m13_1)) (by omega) (Nat.le_of_ble_eq_true rfl)) dX9_readPlace_41 (fun H locs hP hD hS => ?_)
  obtain ⟨q_11, eq_11, kq_11⟩ := bN_up 3 q4 (((nI (8 + m13_1)) : Int32).toNatClampNeg) (v := 0) (Nat.le_of_ble_eq_true rfl)
  have hP : va_P (dC, dI) vwCl (mo_w ad ck x0 (nI x16) (nI x18) (nI x19) z20_5 (nI z21_6) (nI z22_7) z23_8 x24 x25 (nI z26_9) z27_10 1 (nI x29) (nI x30) (nI x33) x45 (nI x46) (nI x52) (nI x53) (nI x61) (nI x62) (nI x63) (nI x65) x66 f1 (upd f2 ((nI (8 + m13_1)) : Int32).toNatClampNeg r_4) (upd f3 ((nI (8 + m13_1)) : Int32).toNatClampNeg 0) (bN 3 q_11) (bN 7 q5) (bN 7 q6) (bN 4 q7) f8 (bN 2 q9) (bH q10) f11 (b2 m12_0 m12_1) (b2 m13_0 m13_1) (b2 m14_0 m14_1) (b2m m15_0 m15_1) f17 (bA 159 q31) f32 f34 f35 f36 f37 (bN 7 q38) f39 f40 f41 (b2 m42_0 m42_1) f43 f44 f47 f48 f49 f50 f51 (bN 13 q54) (bN 120 q55) (bN 120 q56) f57 (bN 120 q58) f59 f60 f64) H := by rw [← eq_11]; exact hP
  have hD : va_D A (mo_w ad ck x0 (nI x16) (nI x18) (nI x19) z20_5 (nI z21_6) (nI z22_7) z23_8 x24 x25 (nI z26_9) z27_10 1 (nI x29) (nI x30) (nI x33) x45 (nI x46) (nI x52) (nI x53) (nI x61) (nI x62) (nI x63) (nI x65) x66 f1 (upd f2 ((nI (8 + m13_1)) : Int32).toNatClampNeg r_4) (upd f3 ((nI (8 + m13_1)) : Int32).toNatClampNeg 0) (bN 3 q_11) (bN 7 q5) (bN 7 q6) (bN 4 q7) f8 (bN 2 q9) (bH q10) f11 (b2 m12_0 m12_1) (b2 m13_0 m13_1) (b2 m14_0 m14_1) (b2m m15_0 m15_1) f17 (bA 159 q31) f32 f34 f35 f36 f37 (bN 7 q38) f39 f40 f41 (b2 m42_0 m42_1) f43 f44 f47 f48 f49 f50 f51 (bN 13 q54) (bN 120 q55) (bN 120 q56) f57 (bN 120 q58) f59 f60 f64) := by rw [← eq_11]; exact hD
  refine lv_aload_n hx hb dX9_readPlace_42 rfl (lv_at hl 1 rfl) ?_
  refine va_calli (va_runV (As := []) (rest := []) ⟨hx, hb, hml, hown, hts⟩ (c_M_isGood l dC dI _ ad ck x0 x16 x18 x19 z20_5 z21_6 z22_7 z23_8 x24 x25 z26_9 z27_10 1 x29 x30 x33 x45 x46 x52 x53 x61 x62 x63 x65 x66 f1 (upd f2 ((nI (8 + m13_1)) : Int32).toNatClampNeg r_4) (upd f3 ((nI (8 + m13_1)) : Int32).toNatClampNeg 0) q_11 q5 q6 q7 f8 q9 q10 f11 m12_0 m12_1 m13_0 m13_1 m14_0 m14_1 m15_0 m15_1 f17 q31 f32 f34 f35 f36 f37 q38 f39 f40 f41 m42_0 m42_1 f43 f44 f47 f48 f49 f50 f51 q54 q55 q56 f57 q58 f59 f60 f64 hx16 hx18 hx19 hz21_6 hz22_7 hz26_9 (Nat.le_of_ble_eq_true rfl) hx29 hx30 hx33 hx46 hx52 hx53 hx61 hx62 hx63 hx65 hm12_0 hm12_1 hm13_0 (Nat.le_trans hm13_1 (Nat.le_of_ble_eq_true rfl)) hm14_0 hm14_1 hm15_0 hm15_1 hm42_0 hm42_1) (cwV 0 hts g_M_readPlace_1_M_isGood rfl rfl rfl (by decide +kernel) ⟨Nat.le_of_ble_eq_true rfl, Nat.le_of_ble_eq_true rfl⟩) ⟨pu_bl, va_recv hK hP (ci := 9) (q0 := 0) rfl rfl, pu_in hP hK hD⟩ rfl rfl hl.1 rfl (lv_room (Nat.le_of_ble_eq_true rfl)) dX9_readPlace_43 ⟨Nat.le_of_ble_eq_true rfl, Nat.le_of_ble_eq_true rfl⟩) hS (fun q _ h => pu_fr hS hA q h) (pu_fr hS hA) (fun r_12 u t H1 locs ht hvm hw hB hz1 hk1 hS => ?_)
  have hP := pu_keep hP hk1
  clear hk1 hz1 ht hvm
  generalize H1 = H at hP hS ⊢
  obtain ⟨u_13, hu_13, rfl, iu_13⟩ := hw
  refine pu_join (fun H locs ls st => ∃ (g_14 : Int32) (g_15 : Nat) (g_16 : Nat) (g_17 : Int32) (g_18 : Nat → Int32), st = [] ∧ g_15 ≤ 900 ∧ g_16 ≤ 4 ∧ mu g_15 g_16 ≤ mu x21 x22 ∧ va_P (dC, dI) vwCl (mo_w ad ck x0 (nI x16) (nI x18) (nI x19) g_14 (nI g_15) (nI g_16) g_17 x24 x25 (nI z26_9) z27_10 1 (nI x29) (nI x30) (nI x33) x45 (nI x46) (nI x52) (nI x53) (nI x61) (nI x62) (nI x63) (nI x65) x66 f1 (upd f2 ((nI (8 + m13_1)) : Int32).toNatClampNeg r_4) g_18 (bN 3 q_11) (bN 7 q5) (bN 7 q6) (bN 4 q7) f8 (bN 2 q9) (bH q10) f11 (b2 m12_0 m12_1) (b2 m13_0 m13_1) (b2 m14_0 m14_1) (b2m m15_0 m15_1) f17 (bA 159 q31) f32 f34 f35 f36 f37 (bN 7 q38) f39 f40 f41 (b2 m42_0 m42_1) f43 f44 f47 f48 f49 f50 f51 (bN 13 q54) (bN 120 q55) (bN 120 q56) f57 (bN 120 q58) f59 f60 f64) H ∧ va_D A (mo_w ad ck x0 (nI x16) (nI x18) (nI x19) g_14 (nI g_15) (nI g_16) g_17 x24 x25 (nI z26_9) z27_10 1 (nI x29) (nI x30) (nI x33) x45 (nI x46) (nI x52) (nI x53) (nI x61) (nI x62) (nI x63) (nI x65) x66 f1 (upd f2 ((nI (8 + m13_1)) : Int32).toNatClampNeg r_4) g_18 (bN 3 q_11) (bN 7 q5) (bN 7 q6) (bN 4 q7) f8 (bN 2 q9) (bH q10) f11 (b2 m12_0 m12_1) (b2 m13_0 m13_1) (b2 m14_0 m14_1) (b2m m15_0 m15_1) f17 (bA 159 q31) f32 f34 f35 f36 f37 (bN 7 q38) f39 f40 f41 (b2 m42_0 m42_1) f43 f44 f47 f48 f49 f50 f51 (bN 13 q54) (bN 120 q55) (bN 120 q56) f57 (bN 120 q58) f59 f60 f64) ∧ va_S A s.heap H locs ∧ lv_has ls 2 [(0, .ref (ad 0)), (1, .int (nI (8 + m13_1)))]) 69 ?_ (fun j_20 => ?_)
  · rintro H locs ls st ⟨g_14, g_15, g_16, g_17, g_18, rfl, hg_15, hg_16, he_19, hP, hD, hS, hl⟩
    refine pu_while (fun nn H locs ls => ∃ (g_32 : Nat → Nat) (g_33 : Nat → Int32) (g_34 : Nat → Nat) (g_35 : Nat → Nat) (g_36 : Int32) (g_37 : Nat) (g_38 : Nat) (g_39 : Int32) (g_40 : Nat) (g_41 : Int32), nn = mu g_37 g_38 ∧ g_37 ≤ 900 ∧ g_38 ≤ 4 ∧ g_40 ≤ 6 ∧ mu g_37 g_38 ≤ mu x21 x22 ∧ va_P (dC, dI) vwCl (mo_w ad ck x0 (nI x16) (nI x18) (nI x19) g_36 (nI g_37) (nI g_38) g_39 x24 x25 (nI g_40) g_41 1 (nI x29) (nI x30) (nI x33) x45 (nI x46) (nI x52) (nI x53) (nI x61) (nI x62) (nI x63) (nI x65) x66 f1 (upd f2 ((nI (8 + m13_1)) : Int32).toNatClampNeg r_4) g_18 (bN 3 g_34) (bN 7 q5) (bN 7 q6) (bN 4 q7) f8 (bN 2 g_35) (bH g_32) g_33 (b2 m12_0 m12_1) (b2 m13_0 m13_1) (b2 m14_0 m14_1) (b2m m15_0 m15_1) f17 (bA 159 q31) f32 f34 f35 f36 f37 (bN 7 q38) f39 f40 f41 (b2 m42_0 m42_1) f43 f44 f47 f48 f49 f50 f51 (bN 13 q54) (bN 120 q55) (bN 120 q56) f57 (bN 120 q58) f59 f60 f64) H ∧ va_D A (mo_w ad ck x0 (nI x16) (nI x18) (nI x19) g_36 (nI g_37) (nI g_38) g_39 x24 x25 (nI g_40) g_41 1 (nI x29) (nI x30) (nI x33) x45 (nI x46) (nI x52) (nI x53) (nI x61) (nI x62) (nI x63) (nI x65) x66 f1 (upd f2 ((nI (8 + m13_1)) : Int32).toNatClampNeg r_4) g_18 (bN 3 g_34) (bN 7 q5) (bN 7 q6) (bN 4 q7) f8 (bN 2 g_35) (bH g_32) g_33 (b2 m12_0 m12_1) (b2 m13_0 m13_1) (b2 m14_0 m14_1) (b2m m15_0 m15_1) f17 (bA 159 q31) f32 f34 f35 f36 f37 (bN 7 q38) f39 f40 f41 (b2 m42_0 m42_1) f43 f44 f47 f48 f49 f50 f51 (bN 13 q54) (bN 120 q55) (bN 120 q56) f57 (bN 120 q58) f59 f60 f64) ∧ va_S A s.heap H locs ∧ lv_has ls 2 [(0, .ref (ad 0)), (1, .int (nI (8 + m13_1)))]) 69 ?_ _ _ _ _ ⟨q10, f11, q_11, q9, g_14, g_15, g_16, g_17, z26_9, z27_10, rfl, hg_15, hg_16, hz26_9, by omega, hP, hD, hS, lv_sub hl [0, 1] rfl⟩
    rintro nn ih_43 H locs ls ⟨g_32, g_33, g_34, g_35, g_36, g_37, g_38, g_39, g_40, g_41, rfl, hg_37, hg_38, hg_40, he_42, hP, hD, hS, hl⟩
    refine lv_aload_n hx hb dX9_readPlace_69 rfl (lv_at hl 0 rfl) ?_
    refine va_calli (va_runV (As := []) (rest := []) ⟨hx, hb, hml, hown, hts⟩ (c_M_isGood l dC dI _ ad ck x0 x16 x18 x19 g_36 g_37 g_38 g_39 x24 x25 g_40 g_41 1 x29 x30 x33 x45 x46 x52 x53 x61 x62 x63 x65 x66 f1 (upd f2 ((nI (8 + m13_1)) : Int32).toNatClampNeg r_4) g_18 g_34 q5 q6 q7 f8 g_35 g_32 g_33 m12_0 m12_1 m13_0 m13_1 m14_0 m14_1 m15_0 m15_1 f17 q31 f32 f34 f35 f36 f37 q38 f39 f40 f41 m42_0 m42_1 f43 f44 f47 f48 f49 f50 f51 q54 q55 q56 f57 q58 f59 f60 f64 hx16 hx18 hx19 hg_37 hg_38 hg_40 (Nat.le_of_ble_eq_true rfl) hx29 hx30 hx33 hx46 hx52 hx53 hx61 hx62 hx63 hx65 hm12_0 hm12_1 hm13_0 (Nat.le_trans hm13_1 (Nat.le_of_ble_eq_true rfl)) hm14_0 hm14_1 hm15_0 hm15_1 hm42_0 hm42_1) (cwV 0 hts g_M_readPlace_1_M_isGood rfl rfl rfl (by decide +kernel) ⟨Nat.le_of_ble_eq_true rfl, Nat.le_of_ble_eq_true rfl⟩) ⟨pu_bl, va_recv hK hP (ci := 9) (q0 := 0) rfl rfl, pu_in hP hK hD⟩ rfl rfl hl.1 rfl (lv_room (Nat.le_of_ble_eq_true rfl)) dX9_readPlace_70 ⟨Nat.le_of_ble_eq_true rfl, Nat.le_of_ble_eq_true rfl⟩) hS (fun q _ h => pu_fr hS hA q h) (pu_fr hS hA) (fun r_44 u t H1 locs ht hvm hw hB hz1 hk1 hS => ?_)
    have hP := pu_keep hP hk1
    clear hk1 hz1 ht hvm
    generalize H1 = H at hP hS ⊢
    obtain ⟨u_45, hu_45, rfl, iu_45⟩ := hw
    refine lv_if_eq (tgt := 148) hx hb dX9_readPlace_73 (by decide) (fun c_46 => ?_) (fun c_46 => ?_)
    · have c_46 : u_45 = 0 := (nI_eq (a := u_45) (b := 0) (Nat.lt_of_le_of_lt hu_45 (Nat.le_of_ble_eq_true rfl)) (Nat.le_of_ble_eq_true rfl)).mp c_46
      refine lv_aload_n hx hb dX9_readPlace_148 rfl (lv_at hl 0 rfl) ?_
      refine va_get (D := (dC, dI)) (ci := 9) (v := .ref (ad 13)) (C := RX9) (T := TX9) (N := 67) hx hb hts hiX9 hown hK hP 0 rfl rfl 13 (by decide) v_2 (fun _ h9 => h9) rfl dX9_readPlace_149 ?_
      refine lv_aload_n hx hb dX9_readPlace_152 rfl (lv_at hl 0 rfl) ?_
      refine va_get (D := (dC, dI)) (ci := 9) (v := .int 1) (C := RX9) (T := TX9) (N := 67) hx hb hts hiX9 hown hK hP 0 rfl rfl 28 (by decide) v_1 (fun _ h9 => h9) rfl dX9_readPlace_153 ?_
      refine lv_dup2_11 hx hb dX9_readPlace_156 rfl rfl ?_
      refine va_iald hx hb hK hP 13 12 rfl rfl (vp_in_nI (n := 1) (Nat.le_of_ble_eq_true rfl) (Nat.le_of_ble_eq_true rfl)) dX9_readPlace_157 ?_
      refine lv_topi (fun y_47 ey_47 => ?_)
      have qy_47 := ey_47.trans b2_1
      clear ey_47
      obtain rfl : y_47 = nI m13_1 := qy_47
      refine lv_iconst (v := 1) hx hb dX9_readPlace_158 (by decide) ?_
      refine lv_iadd hx hb dX9_readPlace_159 ?_
      refine lv_topi (fun y_48 ey_48 => ?_)
      obtain rfl : y_48 = (nI (m13_1 + 1)) := ey_48.trans (nI_add m13_1 1)
      refine va_iast hx hb hK hP hD hS 13 12 rfl rfl (vp_in_nI (n := 1) (Nat.le_of_ble_eq_true rfl) (Nat.le_of_ble_eq_true rfl)) dX9_readPlace_160 (fun H locs hP hD hS => ?_)
      have hP : va_P (dC, dI) vwCl (mo_w ad ck x0 (nI x16) (nI x18) (nI x19) g_36 (nI g_37) (nI g_38) g_39 x24 x25 (nI g_40) g_41 1 (nI x29) (nI x30) (nI x33) x45 (nI x46) (nI x52) (nI x53) (nI x61) (nI x62) (nI x63) (nI x65) x66 f1 (upd f2 ((nI (8 + m13_1)) : Int32).toNatClampNeg r_4) g_18 (bN 3 g_34) (bN 7 q5) (bN 7 q6) (bN 4 q7) f8 (bN 2 g_35) (bH g_32) g_33 (b2 m12_0 m12_1) (b2 m13_0 (m13_1 + 1)) (b2 m14_0 m14_1) (b2m m15_0 m15_1) f17 (bA 159 q31) f32 f34 f35 f36 f37 (bN 7 q38) f39 f40 f41 (b2 m42_0 m42_1) f43 f44 f47 f48 f49 f50 f51 (bN 13 q54) (bN 120 q55) (bN 120 q56) f57 (bN 120 q58) f59 f60 f64) H := by rw [← b2_up1 (a := m13_0) (b := m13_1) (v := (m13_1 + 1))]; exact hP
      have hD : va_D A (mo_w ad ck x0 (nI x16) (nI x18) (nI x19) g_36 (nI g_37) (nI g_38) g_39 x24 x25 (nI g_40) g_41 1 (nI x29) (nI x30) (nI x33) x45 (nI x46) (nI x52) (nI x53) (nI x61) (nI x62) (nI x63) (nI x65) x66 f1 (upd f2 ((nI (8 + m13_1)) : Int32).toNatClampNeg r_4) g_18 (bN 3 g_34) (bN 7 q5) (bN 7 q6) (bN 4 q7) f8 (bN 2 g_35) (bH g_32) g_33 (b2 m12_0 m12_1) (b2 m13_0 (m13_1 + 1)) (b2 m14_0 m14_1) (b2m m15_0 m15_1) f17 (bA 159 q31) f32 f34 f35 f36 f37 (bN 7 q38) f39 f40 f41 (b2 m42_0 m42_1) f43 f44 f47 f48 f49 f50 f51 (bN 13 q54) (bN 120 q55) (bN 120 q56) f57 (bN 120 q58) f59 f60 f64) := by rw [← b2_up1 (a := m13_0) (b := m13_1) (v := (m13_1 + 1))]; exact hD
      exact W.vret hx hb hr (fun t ht hW => ⟨⟨(), rfl, trivial, ⟨g_32, g_33, (upd f2 ((nI (8 + m13_1)) : Int32).toNatClampNeg r_4), g_18, g_34, g_35, (m13_1 + 1), g_36, g_37, g_38, g_39, g_40, g_41, ⟨by rw [ht]; exact hP, va_K.moved hW.alike hK, hD⟩, (by omega), hg_37, hg_38, hg_40, by omega⟩⟩, hS.F ht⟩) hS.2.2 dX9_readPlace_161
    · have c_46 : ¬ u_45 = 0 := fun z => c_46 ((nI_eq (a := u_45) (b := 0) (Nat.lt_of_le_of_lt hu_45 (Nat.le_of_ble_eq_true rfl)) (Nat.le_of_ble_eq_true rfl)).mpr z)
      refine lv_aload_n hx hb dX9_readPlace_76 rfl (lv_at hl 0 rfl) ?_
      refine lv_ldc hx hb hown v_24 dX9_readPlace_77 ?_
      refine va_calli (va_runV (As := [.int 22499628]) (rest := []) ⟨hx, hb, hml, hown, hts⟩ (c_M_isWord l dC dI _ ad ck x0 x16 x18 x19 g_36 g_37 g_38 g_39 x24 x25 g_40 g_41 1 x29 x30 x33 x45 x46 x52 x53 x61 x62 x63 x65 x66 f1 (upd f2 ((nI (8 + m13_1)) : Int32).toNatClampNeg r_4) g_18 g_34 q5 q6 q7 f8 g_35 g_32 g_33 m12_0 m12_1 m13_0 m13_1 m14_0 m14_1 m15_0 m15_1 f17 q31 f32 f34 f35 f36 f37 q38 f39 f40 f41 m42_0 m42_1 f43 f44 f47 f48 f49 f50 f51 q54 q55 q56 f57 q58 f59 f60 f64 22499628 hx16 hx18 hx19 hg_37 hg_38 hg_40 (Nat.le_of_ble_eq_true rfl) hx29 hx30 hx33 hx46 hx52 hx53 hx61 hx62 hx63 hx65 hm12_0 hm12_1 hm13_0 (Nat.le_trans hm13_1 (Nat.le_of_ble_eq_true rfl)) hm14_0 hm14_1 hm15_0 hm15_1 hm42_0 hm42_1) (cwV 1 hts g_M_readPlace_1_M_isWord rfl rfl rfl (by decide +kernel) ⟨Nat.le_of_ble_eq_true rfl, Nat.le_of_ble_eq_true rfl⟩) ⟨pu_bl, va_recv hK hP (ci := 9) (q0 := 0) rfl rfl, pu_in hP hK hD⟩ rfl rfl hl.1 rfl (lv_room (Nat.le_of_ble_eq_true rfl)) dX9_readPlace_79 ⟨Nat.le_of_ble_eq_true rfl, Nat.le_of_ble_eq_true rfl⟩) hS (fun q _ h => pu_fr hS hA q h) (pu_fr hS hA) (fun r_49 u t H1 locs ht hvm hw hB hz1 hk1 hS => ?_)
      have hP := pu_keep hP hk1
      clear hk1 hz1 ht hvm
      generalize H1 = H at hP hS ⊢
      obtain ⟨u_50, hu_50, rfl, iu_50⟩ := hw
      refine lv_if_eq (tgt := 148) hx hb dX9_readPlace_82 (by decide) (fun c_51 => ?_) (fun c_51 => ?_)
      · have c_51 : u_50 = 0 := (nI_eq (a := u_50) (b := 0) (Nat.lt_of_le_of_lt hu_50 (Nat.le_of_ble_eq_true rfl)) (Nat.le_of_ble_eq_true rfl)).mp c_51
        refine lv_aload_n hx hb dX9_readPlace_148 rfl (lv_at hl 0 rfl) ?_
        refine va_get (D := (dC, dI)) (ci := 9) (v := .ref (ad 13)) (C := RX9) (T := TX9) (N := 67) hx hb hts hiX9 hown hK hP 0 rfl rfl 13 (by decide) v_2 (fun _ h9 => h9) rfl dX9_readPlace_149 ?_
        refine lv_aload_n hx hb dX9_readPlace_152 rfl (lv_at hl 0 rfl) ?_
        refine va_get (D := (dC, dI)) (ci := 9) (v := .int 1) (C := RX9) (T := TX9) (N := 67) hx hb hts hiX9 hown hK hP 0 rfl rfl 28 (by decide) v_1 (fun _ h9 => h9) rfl dX9_readPlace_153 ?_
        refine lv_dup2_11 hx hb dX9_readPlace_156 rfl rfl ?_
        refine va_iald hx hb hK hP 13 12 rfl rfl (vp_in_nI (n := 1) (Nat.le_of_ble_eq_true rfl) (Nat.le_of_ble_eq_true rfl)) dX9_readPlace_157 ?_
        refine lv_topi (fun y_52 ey_52 => ?_)
        have qy_52 := ey_52.trans b2_1
        clear ey_52
        obtain rfl : y_52 = nI m13_1 := qy_52
        refine lv_iconst (v := 1) hx hb dX9_readPlace_158 (by decide) ?_
        refine lv_iadd hx hb dX9_readPlace_159 ?_
        refine lv_topi (fun y_53 ey_53 => ?_)
        obtain rfl : y_53 = (nI (m13_1 + 1)) := ey_53.trans (nI_add m13_1 1)
        refine va_iast hx hb hK hP hD hS 13 12 rfl rfl (vp_in_nI (n := 1) (Nat.le_of_ble_eq_true rfl) (Nat.le_of_ble_eq_true rfl)) dX9_readPlace_160 (fun H locs hP hD hS => ?_)
        have hP : va_P (dC, dI) vwCl (mo_w ad ck x0 (nI x16) (nI x18) (nI x19) g_36 (nI g_37) (nI g_38) g_39 x24 x25 (nI g_40) g_41 1 (nI x29) (nI x30) (nI x33) x45 (nI x46) (nI x52) (nI x53) (nI x61) (nI x62) (nI x63) (nI x65) x66 f1 (upd f2 ((nI (8 + m13_1)) : Int32).toNatClampNeg r_4) g_18 (bN 3 g_34) (bN 7 q5) (bN 7 q6) (bN 4 q7) f8 (bN 2 g_35) (bH g_32) g_33 (b2 m12_0 m12_1) (b2 m13_0 (m13_1 + 1)) (b2 m14_0 m14_1) (b2m m15_0 m15_1) f17 (bA 159 q31) f32 f34 f35 f36 f37 (bN 7 q38) f39 f40 f41 (b2 m42_0 m42_1) f43 f44 f47 f48 f49 f50 f51 (bN 13 q54) (bN 120 q55) (bN 120 q56) f57 (bN 120 q58) f59 f60 f64) H := by rw [← b2_up1 (a := m13_0) (b := m13_1) (v := (m13_1 + 1))]; exact hP
        have hD : va_D A (mo_w ad ck x0 (nI x16) (nI x18) (nI x19) g_36 (nI g_37) (nI g_38) g_39 x24 x25 (nI g_40) g_41 1 (nI x29) (nI x30) (nI x33) x45 (nI x46) (nI x52) (nI x53) (nI x61) (nI x62) (nI x63) (nI x65) x66 f1 (upd f2 ((nI (8 + m13_1)) : Int32).toNatClampNeg r_4) g_18 (bN 3 g_34) (bN 7 q5) (bN 7 q6) (bN 4 q7) f8 (bN 2 g_35) (bH g_32) g_33 (b2 m12_0 m12_1) (b2 m13_0 (m13_1 + 1)) (b2 m14_0 m14_1) (b2m m15_0 m15_1) f17 (bA 159 q31) f32 f34 f35 f36 f37 (bN 7 q38) f39 f40 f41 (b2 m42_0 m42_1) f43 f44 f47 f48 f49 f50 f51 (bN 13 q54) (bN 120 q55) (bN 120 q56) f57 (bN 120 q58) f59 f60 f64) := by rw [← b2_up1 (a := m13_0) (b := m13_1) (v := (m13_1 + 1))]; exact hD
        exact W.vret hx hb hr (fun t ht hW => ⟨⟨(), rfl, trivial, ⟨g_32, g_33, (upd f2 ((nI (8 + m13_1)) : Int32).toNatClampNeg r_4), g_18, g_34, g_35, (m13_1 + 1), g_36, g_37, g_38, g_39, g_40, g_41, ⟨by rw [ht]; exact hP, va_K.moved hW.alike hK, hD⟩, (by omega), hg_37, hg_38, hg_40, by omega⟩⟩, hS.F ht⟩) hS.2.2 dX9_readPlace_161
      · have c_51 : ¬ u_50 = 0 := fun z => c_51 ((nI_eq (a := u_50) (b := 0) (Nat.lt_of_le_of_lt hu_50 (Nat.le_of_ble_eq_true rfl)) (Nat.le_of_ble_eq_true rfl)).mpr z)
        refine lv_aload_n hx hb dX9_readPlace_85 rfl (lv_at hl 0 rfl) ?_
        refine va_get (D := (dC, dI)) (ci := 9) (v := .ref (ad 4)) (C := RX9) (T := TX9) (N := 67) hx hb hts hiX9 hown hK hP 0 rfl rfl 4 (by decide) v_10 (fun _ h9 => h9) rfl dX9_readPlace_86 ?_
        refine lv_iload_n hx hb dX9_readPlace_89 rfl (lv_at hl 1 rfl) ?_
        refine va_iald hx hb hK hP 4 3 rfl rfl (vp_in_nI (n := (8 + m13_1)) (by omega) (Nat.le_of_ble_eq_true rfl)) dX9_readPlace_90 ?_
        refine lv_topi (fun y_54 ey_54 => ?_)
        obtain ⟨u_55, hu_55, qu_55⟩ := bN_get 3 g_34 (((nI (8 + m13_1)) : Int32).toNatClampNeg)
        obtain rfl : y_54 = nI u_55 := ey_54.trans qu_55
        refine lv_iconst (v := 3) hx hb dX9_readPlace_91 (by decide) ?_
        refine lv_icmp_ne (tgt := 101) hx hb dX9_readPlace_92 (by decide) (fun c_56 => ?_) (fun c_56 => ?_)
        · have c_56 : ¬ u_55 = 3 := fun z => c_56 ((nI_eq (a := u_55) (b := 3) (Nat.lt_of_le_of_lt hu_55 (Nat.le_of_ble_eq_true rfl)) (Nat.le_of_ble_eq_true rfl)).mpr z)
          refine lv_aload_n hx hb dX9_readPlace_101 rfl (lv_at hl 0 rfl) ?_
          refine lv_bipush (v := 80) hx hb dX9_readPlace_102 (by decide) ?_
          refine lv_aload_n hx hb dX9_readPlace_104 rfl (lv_at hl 0 rfl) ?_
          refine va_get (D := (dC, dI)) (ci := 9) (v := .int 1) (C := RX9) (T := TX9) (N := 67) hx hb hts hiX9 hown hK hP 0 rfl rfl 28 (by decide) v_1 (fun _ h9 => h9) rfl dX9_readPlace_105 ?_
          refine lv_imul hx hb dX9_readPlace_108 ?_
          refine lv_topi (fun y_57 ey_57 => ?_)
          obtain rfl : y_57 = 80 := ey_57.trans (by decide)
          refine lv_bipush (v := 56) hx hb dX9_readPlace_109 (by decide) ?_
          refine lv_iadd hx hb dX9_readPlace_111 ?_
          refine lv_topi (fun y_58 ey_58 => ?_)
          obtain rfl : y_58 = 136 := ey_58.trans (by decide)
          refine lv_iconst (v := 3) hx hb dX9_readPlace_112 (by decide) ?_
          refine lv_aload_n hx hb dX9_readPlace_113 rfl (lv_at hl 0 rfl) ?_
          refine va_get (D := (dC, dI)) (ci := 9) (v := .ref (ad 13)) (C := RX9) (T := TX9) (N := 67) hx hb hts hiX9 hown hK hP 0 rfl rfl 13 (by decide) v_2 (fun _ h9 => h9) rfl dX9_readPlace_114 ?_
          refine lv_aload_n hx hb dX9_readPlace_117 rfl (lv_at hl 0 rfl) ?_
          refine va_get (D := (dC, dI)) (ci := 9) (v := .int 1) (C := RX9) (T := TX9) (N := 67) hx hb hts hiX9 hown hK hP 0 rfl rfl 28 (by decide) v_1 (fun _ h9 => h9) rfl dX9_readPlace_118 ?_
          refine va_iald hx hb hK hP 13 12 rfl rfl (vp_in_nI (n := 1) (Nat.le_of_ble_eq_true rfl) (Nat.le_of_ble_eq_true rfl)) dX9_readPlace_121 ?_
          refine lv_topi (fun y_59 ey_59 => ?_)
          have qy_59 := ey_59.trans b2_1
          clear ey_59
          obtain rfl : y_59 = nI m13_1 := qy_59
          refine lv_imul hx hb dX9_readPlace_122 ?_
          refine lv_topi (fun y_60 ey_60 => ?_)
          obtain rfl : y_60 = (nI (3 * m13_1)) := ey_60.trans (pk_mul 3 m13_1)
          refine lv_iadd hx hb dX9_readPlace_123 ?_
          refine lv_topi (fun y_61 ey_61 => ?_)
          obtain rfl : y_61 = (nI (136 + (3 * m13_1))) := ey_61.trans (nI_add 136 (3 * m13_1))
          refine lv_aload_n hx hb dX9_readPlace_124 rfl (lv_at hl 0 rfl) ?_
          refine va_get (D := (dC, dI)) (ci := 9) (v := .ref (ad 4)) (C := RX9) (T := TX9) (N := 67) hx hb hts hiX9 hown hK hP 0 rfl rfl 4 (by decide) v_10 (fun _ h9 => h9) rfl dX9_readPlace_125 ?_
          refine lv_iload_n hx hb dX9_readPlace_128 rfl (lv_at hl 1 rfl) ?_
          refine va_iald hx hb hK hP 4 3 rfl rfl (vp_in_nI (n := (8 + m13_1)) (by omega) (Nat.le_of_ble_eq_true rfl)) dX9_readPlace_129 ?_
          refine lv_topi (fun y_62 ey_62 => ?_)
          obtain rfl : y_62 = nI u_55 := ey_62.trans qu_55
          refine lv_iadd hx hb dX9_readPlace_130 ?_
          refine lv_topi (fun y_64 ey_64 => ?_)
          obtain rfl : y_64 = (nI ((136 + (3 * m13_1)) + u_55)) := ey_64.trans (nI_add (136 + (3 * m13_1)) u_55)
          refine lv_iconst (v := 1) hx hb dX9_readPlace_131 (by decide) ?_
          have hFc := pu_free hD hS hA
          refine va_callv (va_runV (As := [.int (nI ((136 + (3 * m13_1)) + u_55)), .int 1]) (rest := []) ⟨hx, hb, hml, hown, hts⟩ (c_M_readCondition1_1 l dC dI _ ad ck x0 x16 x18 x19 g_36 g_37 g_38 g_39 x24 x25 g_40 g_41 x29 x30 x33 x45 x46 x52 x53 x61 x62 x63 x65 x66 f1 (upd f2 ((nI (8 + m13_1)) : Int32).toNatClampNeg r_4) g_18 g_34 q5 q6 q7 f8 g_35 g_32 g_33 m12_0 m12_1 m13_0 m13_1 m14_0 m14_1 m15_0 m15_1 f17 q31 f32 f34 f35 f36 f37 q38 f39 f40 f41 m42_0 m42_1 f43 f44 f47 f48 f49 f50 f51 q54 q55 q56 f57 q58 f59 f60 f64 ((136 + (3 * m13_1)) + u_55) hx16 hx18 hx19 hg_37 hg_38 hg_40 hx29 hx30 hx33 hx46 hx52 hx53 hx61 hx62 hx63 hx65 hm12_0 hm12_1 hm13_0 (Nat.le_trans hm13_1 (Nat.le_of_ble_eq_true rfl)) hm14_0 hm14_1 hm15_0 hm15_1 hm42_0 hm42_1 (by omega) (by omega)) (cwV 2 hts g_M_readPlace_1_M_readCondition1_1 rfl rfl rfl (by decide +kernel) ⟨Nat.le_of_ble_eq_true rfl, Nat.le_of_ble_eq_true rfl⟩) ⟨pu_bl, va_recv hK hP (ci := 9) (q0 := 0) rfl rfl, pu_in hP hK hD⟩ rfl rfl hl.1 rfl (lv_room (Nat.le_of_ble_eq_true rfl)) dX9_readPlace_132 ⟨Nat.le_of_ble_eq_true rfl, Nat.le_of_ble_eq_true rfl⟩) hS (fun q _ h => hFc q h) hFc (fun u t H1 locs ht hvm hw hB hz1 hk1 hS => ?_)
          obtain ⟨z10_66, z11_67, z9_68, z20_69, z21_70, z22_71, z23_72, z26_73, z27_74, ⟨hP1, -, hD1⟩, hz21_70, hz22_71, hz26_73, xr_65_0, xr_65_1⟩ := hB
          rw [ht] at hP1
          have hP := hP1
          have hD := pu_all hFc hD1
          clear hP1 hD1 hFc
          clear hk1 hz1 ht hvm
          generalize H1 = H at hP hS ⊢
          refine lv_aload_n hx hb dX9_readPlace_135 rfl (lv_at hl 0 rfl) ?_
          refine va_get (D := (dC, dI)) (ci := 9) (v := .ref (ad 4)) (C := RX9) (T := TX9) (N := 67) hx hb hts hiX9 hown hK hP 0 rfl rfl 4 (by decide) v_10 (fun _ h9 => h9) rfl dX9_readPlace_136 ?_
          refine lv_iload_n hx hb dX9_readPlace_139 rfl (lv_at hl 1 rfl) ?_
          refine lv_dup2_11 hx hb dX9_readPlace_140 rfl rfl ?_
          refine va_iald hx hb hK hP 4 3 rfl rfl (vp_in_nI (n := (8 + m13_1)) (by omega) (Nat.le_of_ble_eq_true rfl)) dX9_readPlace_141 ?_
          refine lv_topi (fun y_75 ey_75 => ?_)
          obtain rfl : y_75 = nI u_55 := ey_75.trans qu_55
          refine lv_iconst (v := 1) hx hb dX9_readPlace_142 (by decide) ?_
          refine lv_iadd hx hb dX9_readPlace_143 ?_
          refine lv_topi (fun y_77 ey_77 => ?_)
          obtain rfl : y_77 = (nI (u_55 + 1)) := ey_77.trans (nI_add u_55 1)
          refine va_iast hx hb hK hP hD hS 4 3 rfl rfl (vp_in_nI (n := (8 + m13_1)) (by omega) (Nat.le_of_ble_eq_true rfl)) dX9_readPlace_144 (fun H locs hP hD hS => ?_)
          obtain ⟨q_78, eq_78, kq_78⟩ := bN_up 3 g_34 (((nI (8 + m13_1)) : Int32).toNatClampNeg) (v := (u_55 + 1)) (by omega)
          have hP : va_P (dC, dI) vwCl (mo_w ad ck x0 (nI x16) (nI x18) (nI x19) z20_69 (nI z21_70) (nI z22_71) z23_72 x24 x25 (nI z26_73) z27_74 1 (nI x29) (nI x30) (nI x33) x45 (nI x46) (nI x52) (nI x53) (nI x61) (nI x62) (nI x63) (nI x65) x66 f1 (upd f2 ((nI (8 + m13_1)) : Int32).toNatClampNeg r_4) g_18 (bN 3 q_78) (bN 7 q5) (bN 7 q6) (bN 4 q7) f8 (bN 2 z9_68) (bH z10_66) z11_67 (b2 m12_0 m12_1) (b2 m13_0 m13_1) (b2 m14_0 m14_1) (b2m m15_0 m15_1) f17 (bA 159 q31) f32 f34 f35 f36 f37 (bN 7 q38) f39 f40 f41 (b2 m42_0 m42_1) f43 f44 f47 f48 f49 f50 f51 (bN 13 q54) (bN 120 q55) (bN 120 q56) f57 (bN 120 q58) f59 f60 f64) H := by rw [← eq_78]; exact hP
          have hD : va_D A (mo_w ad ck x0 (nI x16) (nI x18) (nI x19) z20_69 (nI z21_70) (nI z22_71) z23_72 x24 x25 (nI z26_73) z27_74 1 (nI x29) (nI x30) (nI x33) x45 (nI x46) (nI x52) (nI x53) (nI x61) (nI x62) (nI x63) (nI x65) x66 f1 (upd f2 ((nI (8 + m13_1)) : Int32).toNatClampNeg r_4) g_18 (bN 3 q_78) (bN 7 q5) (bN 7 q6) (bN 4 q7) f8 (bN 2 z9_68) (bH z10_66) z11_67 (b2 m12_0 m12_1) (b2 m13_0 m13_1) (b2 m14_0 m14_1) (b2m m15_0 m15_1) f17 (bA 159 q31) f32 f34 f35 f36 f37 (bN 7 q38) f39 f40 f41 (b2 m42_0 m42_1) f43 f44 f47 f48 f49 f50 f51 (bN 13 q54) (bN 120 q55) (bN 120 q56) f57 (bN 120 q58) f59 f60 f64) := by rw [← eq_78]; exact hD
          refine lv_goto (tgt := 69) hx hb dX9_readPlace_145 (by decide) ?_
          exact ih_43 (mu z21_70 z22_71) (by omega) _ _ _ ⟨z10_66, z11_67, q_78, z9_68, z20_69, z21_70, z22_71, z23_72, z26_73, z27_74, rfl, hz21_70, hz22_71, hz26_73, by omega, hP, hD, hS, lv_sub hl [0, 1] rfl⟩
        · have c_56 : u_55 = 3 := (nI_eq (a := u_55) (b := 3) (Nat.lt_of_le_of_lt hu_55 (Nat.le_of_ble_eq_true rfl)) (Nat.le_of_ble_eq_true rfl)).mp c_56
          refine lv_aload_n hx hb dX9_readPlace_95 rfl (lv_at hl 0 rfl) ?_
          refine lv_iconst (v := 5) hx hb dX9_readPlace_96 (by decide) ?_
          have hFc := pu_free hD hS hA
          refine va_callv (va_runV (As := [.int 5]) (rest := []) ⟨hx, hb, hml, hown, hts⟩ (c_M_fails l dC dI _ ad ck x0 x16 x18 x19 g_36 g_37 g_38 g_39 x24 x25 g_40 g_41 1 x29 x30 x33 x45 x46 x52 x53 x61 x62 x63 x65 x66 f1 (upd f2 ((nI (8 + m13_1)) : Int32).toNatClampNeg r_4) g_18 g_34 q5 q6 q7 f8 g_35 g_32 g_33 m12_0 m12_1 m13_0 m13_1 m14_0 m14_1 m15_0 m15_1 f17 q31 f32 f34 f35 f36 f37 q38 f39 f40 f41 m42_0 m42_1 f43 f44 f47 f48 f49 f50 f51 q54 q55 q56 f57 q58 f59 f60 f64 5 hx16 hx18 hx19 hg_37 hg_38 hg_40 (Nat.le_of_ble_eq_true rfl) hx29 hx30 hx33 hx46 hx52 hx53 hx61 hx62 hx63 hx65 hm12_0 hm12_1 hm13_0 (Nat.le_trans hm13_1 (Nat.le_of_ble_eq_true rfl)) hm14_0 hm14_1 hm15_0 hm15_1 hm42_0 hm42_1 (Nat.le_of_ble_eq_true rfl) (by omega)) (cwV 1 hts g_M_readPlace_1_M_fails rfl rfl rfl (by decide +kernel) ⟨Nat.le_of_ble_eq_true rfl, Nat.le_of_ble_eq_true rfl⟩) ⟨pu_bl, va_recv hK hP (ci := 9) (q0 := 0) rfl rfl, pu_in hP hK hD⟩ rfl rfl hl.1 rfl (lv_room (Nat.le_of_ble_eq_true rfl)) dX9_readPlace_97 ⟨Nat.le_of_ble_eq_true rfl, Nat.le_of_ble_eq_true rfl⟩) hS (fun q _ h => hFc q h) hFc (fun u t H1 locs ht hvm hw hB hz1 hk1 hS => ?_)
          obtain ⟨z26_80, z27_81, ⟨hP1, -, hD1⟩, hz26_80, xr_79_0⟩ := hB
          rw [ht] at hP1
          have hP := hP1
          have hD := pu_all hFc hD1
          clear hP1 hD1 hFc
          clear hk1 hz1 ht hvm
          generalize H1 = H at hP hS ⊢
          exact W.vret hx hb hr (fun t ht hW => ⟨⟨(), rfl, trivial, ⟨g_32, g_33, (upd f2 ((nI (8 + m13_1)) : Int32).toNatClampNeg r_4), g_18, g_34, g_35, m13_1, g_36, g_37, g_38, g_39, z26_80, z27_81, ⟨by rw [ht]; exact hP, va_K.moved hW.alike hK, hD⟩, (Nat.le_trans hm13_1 (Nat.le_of_ble_eq_true rfl)), hg_37, hg_38, hz26_80, by omega⟩⟩, hS.F ht⟩) hS.2.2 dX9_readPlace_100
  refine lv_if_eq (tgt := 69) hx hb dX9_readPlace_46 (by decide) (fun c_82 => ?_) (fun c_82 => ?_)
  · have c_82 : u_13 = 0 := (nI_eq (a := u_13) (b := 0) (Nat.lt_of_le_of_lt hu_13 (Nat.le_of_ble_eq_true rfl)) (Nat.le_of_ble_eq_true rfl)).mp c_82
    exact j_20 _ _ _ _ ⟨z20_5, z21_6, z22_7, z23_8, (upd f3 ((nI (8 + m13_1)) : Int32).toNatClampNeg 0), rfl, hz21_6, hz22_7, by omega, hP, hD, hS, lv_sub hl [1, 0] rfl⟩
  · have c_82 : ¬ u_13 = 0 := fun z => c_82 ((nI_eq (a := u_13) (b := 0) (Nat.lt_of_le_of_lt hu_13 (Nat.le_of_ble_eq_true rfl)) (Nat.le_of_ble_eq_true rfl)).mpr z)
    refine lv_aload_n hx hb dX9_readPlace_49 rfl (lv_at hl 1 rfl) ?_
    refine lv_ldc hx hb hown v_15 dX9_readPlace_50 ?_
    refine va_calli (va_runV (As := [.int 723752404]) (rest := []) ⟨hx, hb, hml, hown, hts⟩ (c_M_isWord l dC dI _ ad ck x0 x16 x18 x19 z20_5 z21_6 z22_7 z23_8 x24 x25 z26_9 z27_10 1 x29 x30 x33 x45 x46 x52 x53 x61 x62 x63 x65 x66 f1 (upd f2 ((nI (8 + m13_1)) : Int32).toNatClampNeg r_4) (upd f3 ((nI (8 + m13_1)) : Int32).toNatClampNeg 0) q_11 q5 q6 q7 f8 q9 q10 f11 m12_0 m12_1 m13_0 m13_1 m14_0 m14_1 m15_0 m15_1 f17 q31 f32 f34 f35 f36 f37 q38 f39 f40 f41 m42_0 m42_1 f43 f44 f47 f48 f49 f50 f51 q54 q55 q56 f57 q58 f59 f60 f64 723752404 hx16 hx18 hx19 hz21_6 hz22_7 hz26_9 (Nat.le_of_ble_eq_true rfl) hx29 hx30 hx33 hx46 hx52 hx53 hx61 hx62 hx63 hx65 hm12_0 hm12_1 hm13_0 (Nat.le_trans hm13_1 (Nat.le_of_ble_eq_true rfl)) hm14_0 hm14_1 hm15_0 hm15_1 hm42_0 hm42_1) (cwV 1 hts g_M_readPlace_1_M_isWord rfl rfl rfl (by decide +kernel) ⟨Nat.le_of_ble_eq_true rfl, Nat.le_of_ble_eq_true rfl⟩) ⟨pu_bl, va_recv hK hP (ci := 9) (q0 := 0) rfl rfl, pu_in hP hK hD⟩ rfl rfl hl.1 rfl (lv_room (Nat.le_of_ble_eq_true rfl)) dX9_readPlace_52 ⟨Nat.le_of_ble_eq_true rfl, Nat.le_of_ble_eq_true rfl⟩) hS (fun q _ h => pu_fr hS hA q h) (pu_fr hS hA) (fun r_83 u t H1 locs ht hvm hw hB hz1 hk1 hS => ?_)
    have hP := pu_keep hP hk1
    clear hk1 hz1 ht hvm
    generalize H1 = H at hP hS ⊢
    obtain ⟨u_84, hu_84, rfl, iu_84⟩ := hw
    refine lv_if_eq (tgt := 69) hx hb dX9_readPlace_55 (by decide) (fun c_85 => ?_) (fun c_85 => ?_)
    · have c_85 : u_84 = 0 := (nI_eq (a := u_84) (b := 0) (Nat.lt_of_le_of_lt hu_84 (Nat.le_of_ble_eq_true rfl)) (Nat.le_of_ble_eq_true rfl)).mp c_85
      exact j_20 _ _ _ _ ⟨z20_5, z21_6, z22_7, z23_8, (upd f3 ((nI (8 + m13_1)) : Int32).toNatClampNeg 0), rfl, hz21_6, hz22_7, by omega, hP, hD, hS, lv_sub hl [1, 0] rfl⟩
    · have c_85 : ¬ u_84 = 0 := fun z => c_85 ((nI_eq (a := u_84) (b := 0) (Nat.lt_of_le_of_lt hu_84 (Nat.le_of_ble_eq_true rfl)) (Nat.le_of_ble_eq_true rfl)).mpr z)
      refine lv_aload_n hx hb dX9_readPlace_58 rfl (lv_at hl 1 rfl) ?_
      refine va_get (D := (dC, dI)) (ci := 9) (v := .ref (ad 3)) (C := RX9) (T := TX9) (N := 67) hx hb hts hiX9 hown hK hP 0 rfl rfl 3 (by decide) v_9 (fun _ h9 => h9) rfl dX9_readPlace_59 ?_
      refine lv_iload_n hx hb dX9_readPlace_62 rfl (lv_at hl 0 rfl) ?_
      refine lv_iconst (v := 1) hx hb dX9_readPlace_63 (by decide) ?_
      refine va_iast hx hb hK hP hD hS 3 2 rfl rfl (vp_in_nI (n := (8 + m13_1)) (by omega) (Nat.le_of_ble_eq_true rfl)) dX9_readPlace_64 (fun H locs hP hD hS => ?_)
      have hP : va_P (dC, dI) vwCl (mo_w ad ck x0 (nI x16) (nI x18) (nI x19) z20_5 (nI z21_6) (nI z22_7) z23_8 x24 x25 (nI z26_9) z27_10 1 (nI x29) (nI x30) (nI x33) x45 (nI x46) (nI x52) (nI x53) (nI x61) (nI x62) (nI x63) (nI x65) x66 f1 (upd f2 ((nI (8 + m13_1)) : Int32).toNatClampNeg r_4) (upd (upd f3 ((nI (8 + m13_1)) : Int32).toNatClampNeg 0) ((nI (8 + m13_1)) : Int32).toNatClampNeg 1) (bN 3 q_11) (bN 7 q5) (bN 7 q6) (bN 4 q7) f8 (bN 2 q9) (bH q10) f11 (b2 m12_0 m12_1) (b2 m13_0 m13_1) (b2 m14_0 m14_1) (b2m m15_0 m15_1) f17 (bA 159 q31) f32 f34 f35 f36 f37 (bN 7 q38) f39 f40 f41 (b2 m42_0 m42_1) f43 f44 f47 f48 f49 f50 f51 (bN 13 q54) (bN 120 q55) (bN 120 q56) f57 (bN 120 q58) f59 f60 f64) H := hP
      have hD : va_D A (mo_w ad ck x0 (nI x16) (nI x18) (nI x19) z20_5 (nI z21_6) (nI z22_7) z23_8 x24 x25 (nI z26_9) z27_10 1 (nI x29) (nI x30) (nI x33) x45 (nI x46) (nI x52) (nI x53) (nI x61) (nI x62) (nI x63) (nI x65) x66 f1 (upd f2 ((nI (8 + m13_1)) : Int32).toNatClampNeg r_4) (upd (upd f3 ((nI (8 + m13_1)) : Int32).toNatClampNeg 0) ((nI (8 + m13_1)) : Int32).toNatClampNeg 1) (bN 3 q_11) (bN 7 q5) (bN 7 q6) (bN 4 q7) f8 (bN 2 q9) (bH q10) f11 (b2 m12_0 m12_1) (b2 m13_0 m13_1) (b2 m14_0 m14_1) (b2m m15_0 m15_1) f17 (bA 159 q31) f32 f34 f35 f36 f37 (bN 7 q38) f39 f40 f41 (b2 m42_0 m42_1) f43 f44 f47 f48 f49 f50 f51 (bN 13 q54) (bN 120 q55) (bN 120 q56) f57 (bN 120 q58) f59 f60 f64) := hD
      refine lv_aload_n hx hb dX9_readPlace_65 rfl (lv_at hl 1 rfl) ?_
      have hFc := pu_free hD hS hA
      refine va_callv (va_runV (As := []) (rest := []) ⟨hx, hb, hml, hown, hts⟩ (c_M_next l dC dI _ ad ck x0 x16 x18 x19 z20_5 z21_6 z22_7 z23_8 x24 x25 z26_9 z27_10 1 x29 x30 x33 x45 x46 x52 x53 x61 x62 x63 x65 x66 f1 (upd f2 ((nI (8 + m13_1)) : Int32).toNatClampNeg r_4) (upd (upd f3 ((nI (8 + m13_1)) : Int32).toNatClampNeg 0) ((nI (8 + m13_1)) : Int32).toNatClampNeg 1) q_11 q5 q6 q7 f8 q9 q10 f11 m12_0 m12_1 m13_0 m13_1 m14_0 m14_1 m15_0 m15_1 f17 q31 f32 f34 f35 f36 f37 q38 f39 f40 f41 m42_0 m42_1 f43 f44 f47 f48 f49 f50 f51 q54 q55 q56 f57 q58 f59 f60 f64 hx16 hx18 hx19 hz21_6 hz22_7 hz26_9 (Nat.le_of_ble_eq_true rfl) hx29 hx30 hx33 hx46 hx52 hx53 hx61 hx62 hx63 hx65 hm12_0 hm12_1 hm13_0 (Nat.le_trans hm13_1 (Nat.le_of_ble_eq_true rfl)) hm14_0 hm14_1 hm15_0 hm15_1 hm42_0 hm42_1) (cwV 0 hts g_M_readPlace_1_M_next rfl rfl rfl (by decide +kernel) ⟨Nat.le_of_ble_eq_true rfl, Nat.le_of_ble_eq_true rfl⟩) ⟨pu_bl, va_recv hK hP (ci := 9) (q0 := 0) rfl rfl, pu_in hP hK hD⟩ rfl rfl hl.1 rfl (lv_room (Nat.le_of_ble_eq_true rfl)) dX9_readPlace_66 ⟨Nat.le_of_ble_eq_true rfl, Nat.le_of_ble_eq_true rfl⟩) hS (fun q _ h => hFc q h) hFc (fun u t H1 locs ht hvm hw hB hz1 hk1 hS => ?_)
      obtain ⟨z20_87, z21_88, z22_89, z23_90, ⟨hP1, -, hD1⟩, hz21_88, hz22_89, xr_86_0, xr_86_1⟩ := hB
      rw [ht] at hP1
      have hP := hP1
      have hD := pu_all hFc hD1
      clear hP1 hD1 hFc
      clear hk1 hz1 ht hvm
      generalize H1 = H at hP hS ⊢
      exact j_20 _ _ _ _ ⟨z20_87, z21_88, z22_89, z23_90, (upd (upd f3 ((nI (8 + m13_1)) : Int32).toNatClampNeg 0) ((nI (8 + m13_1)) : Int32).toNatClampNeg 1), rfl, hz21_88, hz22_89, by omega, hP, hD, hS, lv_sub hl [1, 0] rfl⟩
abbrev vs_M_readEdge_1 : List Cond := .code yX9_readEdge cX9_readEdge 3 none :: VM
theorem g_M_readEdge_1_X9_isOf : GoodIn vs_M_readEdge_1 (va_wsS RX9 248 yX9_isOf vs_X9_isOf) := gm_0 (fun w h => by
  rcases List.mem_cons.mp h with rfl | h
  · exact vm_130
  rcases List.mem_cons.mp h with rfl | h
  · exact vm_131
  rcases List.mem_cons.mp h with rfl | h
  · exact vm_12
  rcases List.mem_cons.mp h with rfl | h
  · exact vm_0
  exact absurd h (List.not_mem_nil))
theorem g_M_readEdge_1_M_toldPlace_1 : GoodIn vs_M_readEdge_1 (wsV RX9 245 RX9 yX9_toldPlace vs_M_toldPlace_1) := gm_V vm_126 vm_127 vm_128 vm_12 vm_106
theorem g_M_readEdge_1_M_isGood : GoodIn vs_M_readEdge_1 (wsV RX9 216 RX9 yX9_isGood vs_M_isGood) := gm_V vm_91 vm_92 vm_93 vm_12 vm_15
theorem g_M_readEdge_1_M_isWord : GoodIn vs_M_readEdge_1 (wsV RX9 193 RX9 yX9_isWord vs_M_isWord) := gm_V vm_44 vm_45 vm_46 vm_12 vm_35
theorem g_M_readEdge_1_M_next : GoodIn vs_M_readEdge_1 (wsV RX9 226 RX9 yX9_next vs_M_next) := gm_V vm_100 vm_101 vm_102 vm_12 vm_72
theorem g_M_readEdge_1_M_toldClock_1 : GoodIn vs_M_readEdge_1 (wsV RX9 232 RX9 yX9_toldClock vs_M_toldClock_1) := gm_V vm_109 vm_110 vm_111 vm_12 vm_103
theorem g_M_readEdge_1_M_fails : GoodIn vs_M_readEdge_1 (wsV RX9 210 RX9 yX9_fails vs_M_fails) := gm_V vm_55 vm_56 vm_57 vm_12 vm_39
theorem g_M_readEdge_1_M_readCondition0_1 : GoodIn vs_M_readEdge_1 (wsV RX9 241 RX9 yX9_readCondition vs_M_readCondition0_1) := gm_V vm_122 vm_123 vm_124 vm_12 vm_107
set_option maxHeartbeats 4000000 in
set_option maxRecDepth 100000 in
theorem c_M_readEdge_1 (l : Launch) (dC : Nat → ClassId) (dI : Nat → Nat → Nat) (sz : Nat) (ad : Nat → Nat) (ck : Nat → ClassId) (x0 : Int32) (x16 : Nat) (x18 : Nat) (x19 : Nat) (x20 : Int32) (x21 : Nat) (x22 : Nat) (x23 : Int32) (x24 : Int32) (x25 : Int32) (x26 : Nat) (x27 : Int32) (x29 : Nat) (x30 : Nat) (x33 : Nat) (x45 : Int32) (x46 : Nat) (x52 : Nat) (x53 : Nat) (x61 : Nat) (x62 : Nat) (x63 : Nat) (x65 : Nat) (x66 : Int32) (f1 : Nat → Int32) (f2 : Nat → Int32) (f3 : Nat → Int32) (q4 : Nat → Nat) (q5 : Nat → Nat) (q6 : Nat → Nat) (q7 : Nat → Nat) (f8 : Nat → Int32) (q9 : Nat → Nat) (q10 : Nat → Nat) (f11 : Nat → Int32) (m12_0 m12_1 : Nat) (m13_0 m13_1 : Nat) (m14_0 m14_1 : Nat) (m15_0 m15_1 : Nat) (f17 : Nat → Int32) (q31 : Nat → Nat) (f32 : Nat → Int32) (f34 : Nat → Int32) (f35 : Nat → Int32) (f36 : Nat → Int32) (f37 : Nat → Int32) (q38 : Nat → Nat) (f39 : Nat → Int32) (f40 : Nat → Int32) (f41 : Nat → Int32) (m42_0 m42_1 : Nat) (f43 : Nat → Int32) (f44 : Nat → Int32) (f47 : Nat → Int32) (f48 : Nat → Int32) (f49 : Nat → Int32) (f50 : Nat → Int32) (f51 : Nat → Int32) (q54 : Nat → Nat) (q55 : Nat → Nat) (q56 : Nat → Nat) (f57 : Nat → Int32) (q58 : Nat → Nat) (f59 : Nat → Int32) (f60 : Nat → Int32) (f64 : Nat → Int32) (hx16 : x16 ≤ 1) (hx18 : x18 ≤ 900) (hx19 : x19 ≤ 900) (hx21 : x21 ≤ 900) (hx22 : x22 ≤ 4) (hx26 : x26 ≤ 6) (hx29 : x29 ≤ 1) (hx30 : x30 ≤ 1) (hx33 : x33 ≤ 20) (hx46 : x46 ≤ 5) (hx52 : x52 ≤ 2400) (hx53 : x53 ≤ 119) (hx61 : x61 ≤ 119) (hx62 : x62 ≤ 2000) (hx63 : x63 ≤ 1) (hx65 : x65 ≤ 7) (hm12_0 : m12_0 ≤ 3) (hm12_1 : m12_1 ≤ 3) (hm13_0 : m13_0 ≤ 8) (hm13_1 : m13_1 ≤ 8) (hm14_0 : m14_0 ≤ 14) (hm14_1 : m14_1 ≤ 13) (hm15_0 : m15_0 ≤ 8) (hm15_1 : m15_1 ≤ 8) (hm42_0 : m42_0 ≤ 120) (hm42_1 : m42_1 ≤ 400) : Met l yX9_readEdge vs_M_readEdge_1 ({ frames := 5, cells := 0, slots := 0, locals := 108 }) (va_Pc [.ref (ad 0)] (pu_B (dC, dI) (mo_w ad ck x0 (nI x16) (nI x18) (nI x19) x20 (nI x21) (nI x22) x23 x24 x25 (nI x26) x27 1 (nI x29) (nI x30) (nI x33) x45 (nI x46) (nI x52) (nI x53) (nI x61) (nI x62) (nI x63) (nI x65) x66 f1 f2 f3 (bN 3 q4) (bN 7 q5) (bN 7 q6) (bN 4 q7) f8 (bN 2 q9) (bH q10) f11 (b2 m12_0 m12_1) (b2 m13_0 m13_1) (b2 m14_0 m14_1) (b2m m15_0 m15_1) f17 (bA 159 q31) f32 f34 f35 f36 f37 (bN 7 q38) f39 f40 f41 (b2 m42_0 m42_1) f43 f44 f47 f48 f49 f50 f51 (bN 13 q54) (bN 120 q55) (bN 120 q56) f57 (bN 120 q58) f59 f60 f64) (mo_t ck) sz)) (va_Qv (fun (_ : Unit) => True) (fun _ t => ∃ (z10 : Nat → Nat) (z11 : Nat → Int32) (z5 : Nat → Nat) (z6 : Nat → Nat) (z7 : Nat → Nat) (z8 : Nat → Int32) (z9 : Nat → Nat) (z14_1 : Nat) (z20 : Int32) (z21 : Nat) (z22 : Nat) (z23 : Int32) (z26 : Nat) (z27 : Int32), pu_E (dC, dI) (mo_w ad ck x0 (nI x16) (nI x18) (nI x19) z20 (nI z21) (nI z22) z23 x24 x25 (nI z26) z27 1 (nI x29) (nI x30) (nI x33) x45 (nI x46) (nI x52) (nI x53) (nI x61) (nI x62) (nI x63) (nI x65) x66 f1 f2 f3 (bN 3 q4) (bN 7 z5) (bN 7 z6) (bN 4 z7) z8 (bN 2 z9) (bH z10) z11 (b2 m12_0 m12_1) (b2 m13_0 m13_1) (b2 m14_0 z14_1) (b2m m15_0 m15_1) f17 (bA 159 q31) f32 f34 f35 f36 f37 (bN 7 q38) f39 f40 f41 (b2 m42_0 m42_1) f43 f44 f47 f48 f49 f50 f51 (bN 13 q54) (bN 120 q55) (bN 120 q56) f57 (bN 120 q58) f59 f60 f64) (mo_t ck) (va_A ((mo_w ad ck x0 (nI x16) (nI x18) (nI x19) x20 (nI x21) (nI x22) x23 x24 x25 (nI x26) x27 1 (nI x29) (nI x30) (nI x33) x45 (nI x46) (nI x52) (nI x53) (nI x61) (nI x62) (nI x63) (nI x65) x66 f1 f2 f3 (bN 3 q4) (bN 7 q5) (bN 7 q6) (bN 4 q7) f8 (bN 2 q9) (bH q10) f11 (b2 m12_0 m12_1) (b2 m13_0 m13_1) (b2 m14_0 m14_1) (b2m m15_0 m15_1) f17 (bA 159 q31) f32 f34 f35 f36 f37 (bN 7 q38) f39 f40 f41 (b2 m42_0 m42_1) f43 f44 f47 f48 f49 f50 f51 (bN 13 q54) (bN 120 q55) (bN 120 q56) f57 (bN 120 q58) f59 f60 f64)) sz) t ∧ (z14_1 ≤ 14) ∧ (z21 ≤ 900) ∧ (z22 ≤ 4) ∧ (z26 ≤ 6) ∧ (mu z21 z22 ≤ mu x21 x22)) (va_A ((mo_w ad ck x0 (nI x16) (nI x18) (nI x19) x20 (nI x21) (nI x22) x23 x24 x25 (nI x26) x27 1 (nI x29) (nI x30) (nI x33) x45 (nI x46) (nI x52) (nI x53) (nI x61) (nI x62) (nI x63) (nI x65) x66 f1 f2 f3 (bN 3 q4) (bN 7 q5) (bN 7 q6) (bN 4 q7) f8 (bN 2 q9) (bH q10) f11 (b2 m12_0 m12_1) (b2 m13_0 m13_1) (b2 m14_0 m14_1) (b2m m15_0 m15_1) f17 (bA 159 q31) f32 f34 f35 f36 f37 (bN 7 q38) f39 f40 f41 (b2 m42_0 m42_1) f43 f44 f47 f48 f49 f50 f51 (bN 13 q54) (bN 120 q55) (bN 120 q56) f57 (bN 120 q58) f59 f60 f64)) sz)) 0 0 (va_A ((mo_w ad ck x0 (nI x16) (nI x18) (nI x19) x20 (nI x21) (nI x22) x23 x24 x25 (nI x26) x27 1 (nI x29) (nI x30) (nI x33) x45 (nI x46) (nI x52) (nI x53) (nI x61) (nI x62) (nI x63) (nI x65) x66 f1 f2 f3 (bN 3 q4) (bN 7 q5) (bN 7 q6) (bN 4 q7) f8 (bN 2 q9) (bH q10) f11 (b2 m12_0 m12_1) (b2 m13_0 m13_1) (b2 m14_0 m14_1) (b2m m15_0 m15_1) f17 (bA 159 q31) f32 f34 f35 f36 f37 (bN 7 q38) f39 f40 f41 (b2 m42_0 m42_1) f43 f44 f47 f48 f49 f50 f51 (bN 13 q54) (bN 120 q55) (bN 120 q56) f57 (bN 120 q58) f59 f60 f64)) sz) := by
  refine Met.ofW (cc := cX9_readEdge) (maxL := 3) (ret := none) (by decide) rfl ?_
  intro p e s m args below meth c s₁ B hml hv
  obtain ⟨rfl, rfl, hP, hK, hD0⟩ := hv
  have hx := B.exec
  have hb := B.bytes
  have hr := B.returns
  have hts := atoms_spec (ws := vs_M_readEdge_1) B.pre
  have v_1 := hts (.fieldLink RX9 203 "ClockReachModel" "rb" "I") (List.mem_cons_of_mem _ vm_82)
  have v_2 := hts (.fieldLink RX9 49 "ClockReachModel" "edgeMany" "[I") (List.mem_cons_of_mem _ vm_62)
  have v_3 := hts (.fieldLink RX9 22 "ClockReachModel" "edgeFrom" "[I") (List.mem_cons_of_mem _ vm_28)
  have v_9 := hts (.fieldLink RX9 25 "ClockReachModel" "edgeTo" "[I") (List.mem_cons_of_mem _ vm_30)
  have v_14 := hts (.fieldLink RX9 28 "ClockReachModel" "whens" "[I") (List.mem_cons_of_mem _ vm_129)
  have v_15 := hts (.fieldLink RX9 31 "ClockReachModel" "sets" "[I") (List.mem_cons_of_mem _ vm_32)
  have v_16 := hts (.constant RX9 202 (19057844)) (List.mem_cons_of_mem _ vm_53)
  have v_36 := hts (.constant RX9 201 (762030)) (List.mem_cons_of_mem _ vm_52)
  have hown : s.vm.findClass RX9 = some m.cls := findClass_of_methodNamed B.named
  have hlocks := B.notSynchronized
  have hiX9 : ∀ w ∈ wsX90, w ∈ vs_M_readEdge_1 := fun _ h => List.mem_cons_of_mem _ (List.mem_append_right _ h)
  have hD := hD0.self (sz := s.heap.size)
  generalize hAe : va_A ((mo_w ad ck x0 (nI x16) (nI x18) (nI x19) x20 (nI x21) (nI x22) x23 x24 x25 (nI x26) x27 1 (nI x29) (nI x30) (nI x33) x45 (nI x46) (nI x52) (nI x53) (nI x61) (nI x62) (nI x63) (nI x65) x66 f1 f2 f3 (bN 3 q4) (bN 7 q5) (bN 7 q6) (bN 4 q7) f8 (bN 2 q9) (bH q10) f11 (b2 m12_0 m12_1) (b2 m13_0 m13_1) (b2 m14_0 m14_1) (b2m m15_0 m15_1) f17 (bA 159 q31) f32 f34 f35 f36 f37 (bN 7 q38) f39 f40 f41 (b2 m42_0 m42_1) f43 f44 f47 f48 f49 f50 f51 (bN 13 q54) (bN 120 q55) (bN 120 q56) f57 (bN 120 q58) f59 f60 f64)) s.heap.size = A at hD ⊢
  have hA : ∀ q : Nat, s.heap.size ≤ q → A q := fun q h => by rw [← hAe]; exact Or.inr h
  have hS : va_S A s.heap s.heap [] := va_S.rf
  have hl := lv_entry ([.ref (ad 0)]) (n := 3) (Nat.le_of_ble_eq_true rfl)
  rw [lg_entry_eq]
  generalize (lg_sl ([.ref (ad 0)]) ++ List.replicate (3 - (lg_sl ([.ref (ad 0)])).length) Slot.unset).toArray = ls at hl ⊢
  have hl : lv_has ls 3 [(0, .ref (ad 0))] := hl
  refine lv_bipush (v := 14) hx hb dX9_readEdge_0 (by decide) ?_
  refine lv_aload_n hx hb dX9_readEdge_2 rfl (lv_at hl 0 rfl) ?_
  refine va_get (D := (dC, dI)) (ci := 9) (v := .int 1) (C := RX9) (T := TX9) (N := 67) hx hb hts hiX9 hown hK hP 0 rfl rfl 28 (by decide) v_1 (fun _ h9 => h9) rfl dX9_readEdge_3 ?_
  refine lv_imul hx hb dX9_readEdge_6 ?_
  refine lv_topi (fun y_1 ey_1 => ?_)
  obtain rfl : y_1 = 14 := ey_1.trans (by decide)
  refine lv_aload_n hx hb dX9_readEdge_7 rfl (lv_at hl 0 rfl) ?_
  refine va_get (D := (dC, dI)) (ci := 9) (v := .ref (ad 14)) (C := RX9) (T := TX9) (N := 67) hx hb hts hiX9 hown hK hP 0 rfl rfl 14 (by decide) v_2 (fun _ h9 => h9) rfl dX9_readEdge_8 ?_
  refine lv_aload_n hx hb dX9_readEdge_11 rfl (lv_at hl 0 rfl) ?_
  refine va_get (D := (dC, dI)) (ci := 9) (v := .int 1) (C := RX9) (T := TX9) (N := 67) hx hb hts hiX9 hown hK hP 0 rfl rfl 28 (by decide) v_1 (fun _ h9 => h9) rfl dX9_readEdge_12 ?_
  refine va_iald hx hb hK hP 14 13 rfl rfl (vp_in_nI (n := 1) (Nat.le_of_ble_eq_true rfl) (Nat.le_of_ble_eq_true rfl)) dX9_readEdge_15 ?_
  refine lv_topi (fun y_2 ey_2 => ?_)
  have qy_2 := ey_2.trans b2_1
  clear ey_2
  obtain rfl : y_2 = nI m14_1 := qy_2
  refine lv_iadd hx hb dX9_readEdge_16 ?_
  refine lv_topi (fun y_3 ey_3 => ?_)
  obtain rfl : y_3 = (nI (14 + m14_1)) := ey_3.trans (nI_add 14 m14_1)
  refine lv_istore_n (lv' := [(1, .int (nI (14 + m14_1))), (0, .ref (ad 0))]) hx hb dX9_readEdge_17 rfl hl (by decide) rfl (fun ls hl => ?_)
  refine lv_aload_n hx hb dX9_readEdge_18 rfl (lv_at hl 1 rfl) ?_
  refine va_get (D := (dC, dI)) (ci := 9) (v := .ref (ad 5)) (C := RX9) (T := TX9) (N := 67) hx hb hts hiX9 hown hK hP 0 rfl rfl 5 (by decide) v_3 (fun _ h9 => h9) rfl dX9_readEdge_19 ?_
  refine lv_iload_n hx hb dX9_readEdge_22 rfl (lv_at hl 0 rfl) ?_
  refine lv_aload_n hx hb dX9_readEdge_23 rfl (lv_at hl 1 rfl) ?_
  have hFc := pu_free hD hS hA
  refine va_calli (va_runV (As := []) (rest := [.int (nI (14 + m14_1)), .ref (ad 5)]) ⟨hx, hb, hml, hown, hts⟩ (c_M_toldPlace_1 l dC dI _ ad ck x0 x16 x18 x19 x20 x21 x22 x23 x24 x25 x26 x27 x29 x30 x33 x45 x46 x52 x53 x61 x62 x63 x65 x66 f1 f2 f3 q4 q5 q6 q7 f8 q9 q10 f11 m12_0 m12_1 m13_0 m13_1 m14_0 m14_1 m15_0 m15_1 f17 q31 f32 f34 f35 f36 f37 q38 f39 f40 f41 m42_0 m42_1 f43 f44 f47 f48 f49 f50 f51 q54 q55 q56 f57 q58 f59 f60 f64 hx16 hx18 hx19 hx21 hx22 hx26 hx29 hx30 hx33 hx46 hx52 hx53 hx61 hx62 hx63 hx65 hm12_0 hm12_1 hm13_0 hm13_1 hm14_0 (Nat.le_trans hm14_1 (Nat.le_of_ble_eq_true rfl)) hm15_0 hm15_1 hm42_0 hm42_1) (cwV 0 hts g_M_readEdge_1_M_toldPlace_1 rfl rfl rfl (by decide +kernel) ⟨Nat.le_of_ble_eq_true rfl, Nat.le_of_ble_eq_true rfl⟩) ⟨pu_bl, va_recv hK hP (ci := 9) (q0 := 0) rfl rfl, pu_in hP hK hD⟩ rfl rfl hl.1 rfl (lv_room (Nat.le_of_ble_eq_true rfl)) dX9_readEdge_24 ⟨Nat.le_of_ble_eq_true rfl, Nat.le_of_ble_eq_true rfl⟩) hS (fun q _ h => hFc q h) hFc (fun r_4 u t H1 locs ht hvm hw hB hz1 hk1 hS => ?_)
  obtain ⟨z20_5, z21_6, z22_7, z23_8, z26_9, z27_10, ⟨hP1, -, hD1⟩, hz21_6, hz22_7, hz26_9, xr_4_0⟩ := hB
  rw [ht] at hP1
  have hP := hP1
  have hD := pu_all hFc hD1
  clear hP1 hD1 hFc
  clear hk1 hz1 ht hvm
  generalize H1 = H at hP hS ⊢
  obtain ⟨u_11, hu_11, rfl⟩ := hw
  refine va_iast hx hb hK hP hD hS 5 4 rfl rfl (vp_in_nI (n := (14 + m14_1)) (by omega) (Nat.le_of_ble_eq_true rfl)) dX9_readEdge_27 (fun H locs hP hD hS => ?_)
  obtain ⟨q_12, eq_12, kq_12⟩ := bN_up 7 q5 (((nI (14 + m14_1)) : Int32).toNatClampNeg) (v := u_11) hu_11
  have hP : va_P (dC, dI) vwCl (mo_w ad ck x0 (nI x16) (nI x18) (nI x19) z20_5 (nI z21_6) (nI z22_7) z23_8 x24 x25 (nI z26_9) z27_10 1 (nI x29) (nI x30) (nI x33) x45 (nI x46) (nI x52) (nI x53) (nI x61) (nI x62) (nI x63) (nI x65) x66 f1 f2 f3 (bN 3 q4) (bN 7 q_12) (bN 7 q6) (bN 4 q7) f8 (bN 2 q9) (bH q10) f11 (b2 m12_0 m12_1) (b2 m13_0 m13_1) (b2 m14_0 m14_1) (b2m m15_0 m15_1) f17 (bA 159 q31) f32 f34 f35 f36 f37 (bN 7 q38) f39 f40 f41 (b2 m42_0 m42_1) f43 f44 f47 f48 f49 f50 f51 (bN 13 q54) (bN 120 q55) (bN 120 q56) f57 (bN 120 q58) f59 f60 f64) H := by rw [← eq_12]; exact hP
  have hD : va_D A (mo_w ad ck x0 (nI x16) (nI x18) (nI x19) z20_5 (nI z21_6) (nI z22_7) z23_8 x24 x25 (nI z26_9) z27_10 1 (nI x29) (nI x30) (nI x33) x45 (nI x46) (nI x52) (nI x53) (nI x61) (nI x62) (nI x63) (nI x65) x66 f1 f2 f3 (bN 3 q4) (bN 7 q_12) (bN 7 q6) (bN 4 q7) f8 (bN 2 q9) (bH q10) f11 (b2 m12_0 m12_1) (b2 m13_0 m13_1) (b2 m14_0 m14_1) (b2m m15_0 m15_1) f17 (bA 159 q31) f32 f34 f35 f36 f37 (bN 7 q38) f39 f40 f41 (b2 m42_0 m42_1) f43 f44 f47 f48 f49 f50 f51 (bN 13 q54) (bN 120 q55) (bN 120 q56) f57 (bN 120 q58) f59 f60 f64) := by rw [← eq_12]; exact hD
  refine lv_aload_n hx hb dX9_readEdge_28 rfl (lv_at hl 1 rfl) ?_
  refine va_get (D := (dC, dI)) (ci := 9) (v := .ref (ad 6)) (C := RX9) (T := TX9) (N := 67) hx hb hts hiX9 hown hK hP 0 rfl rfl 6 (by decide) v_9 (fun _ h9 => h9) rfl dX9_readEdge_29 ?_
  refine lv_iload_n hx hb dX9_readEdge_32 rfl (lv_at hl 0 rfl) ?_
  refine lv_aload_n hx hb dX9_readEdge_33 rfl (lv_at hl 1 rfl) ?_
  refine va_calli (va_runV (As := []) (rest := [.int (nI (14 + m14_1)), .ref (ad 6)]) ⟨hx, hb, hml, hown, hts⟩ (c_M_isGood l dC dI _ ad ck x0 x16 x18 x19 z20_5 z21_6 z22_7 z23_8 x24 x25 z26_9 z27_10 1 x29 x30 x33 x45 x46 x52 x53 x61 x62 x63 x65 x66 f1 f2 f3 q4 q_12 q6 q7 f8 q9 q10 f11 m12_0 m12_1 m13_0 m13_1 m14_0 m14_1 m15_0 m15_1 f17 q31 f32 f34 f35 f36 f37 q38 f39 f40 f41 m42_0 m42_1 f43 f44 f47 f48 f49 f50 f51 q54 q55 q56 f57 q58 f59 f60 f64 hx16 hx18 hx19 hz21_6 hz22_7 hz26_9 (Nat.le_of_ble_eq_true rfl) hx29 hx30 hx33 hx46 hx52 hx53 hx61 hx62 hx63 hx65 hm12_0 hm12_1 hm13_0 hm13_1 hm14_0 (Nat.le_trans hm14_1 (Nat.le_of_ble_eq_true rfl)) hm15_0 hm15_1 hm42_0 hm42_1) (cwV 0 hts g_M_readEdge_1_M_isGood rfl rfl rfl (by decide +kernel) ⟨Nat.le_of_ble_eq_true rfl, Nat.le_of_ble_eq_true rfl⟩) ⟨pu_bl, va_recv hK hP (ci := 9) (q0 := 0) rfl rfl, pu_in hP hK hD⟩ rfl rfl hl.1 rfl (lv_room (Nat.le_of_ble_eq_true rfl)) dX9_readEdge_34 ⟨Nat.le_of_ble_eq_true rfl, Nat.le_of_ble_eq_true rfl⟩) hS (fun q _ h => pu_fr hS hA q h) (pu_fr hS hA) (fun r_13 u t H1 locs ht hvm hw hB hz1 hk1 hS => ?_)
  have hP := pu_keep hP hk1
  clear hk1 hz1 ht hvm
  generalize H1 = H at hP hS ⊢
  obtain ⟨u_14, hu_14, rfl, iu_14⟩ := hw
  refine pu_join (fun H locs ls st => ∃ (g_15 : Int32) (g_16 : Nat) (g_17 : Nat) (g_18 : Int32) (g_19 : Nat) (g_20 : Int32) (g_21 : Nat), st = [.int (nI g_21), .int (nI (14 + m14_1)), .ref (ad 6)] ∧ g_16 ≤ 900 ∧ g_17 ≤ 4 ∧ g_19 ≤ 6 ∧ g_21 ≤ 7 ∧ mu g_16 g_17 ≤ mu x21 x22 ∧ va_P (dC, dI) vwCl (mo_w ad ck x0 (nI x16) (nI x18) (nI x19) g_15 (nI g_16) (nI g_17) g_18 x24 x25 (nI g_19) g_20 1 (nI x29) (nI x30) (nI x33) x45 (nI x46) (nI x52) (nI x53) (nI x61) (nI x62) (nI x63) (nI x65) x66 f1 f2 f3 (bN 3 q4) (bN 7 q_12) (bN 7 q6) (bN 4 q7) f8 (bN 2 q9) (bH q10) f11 (b2 m12_0 m12_1) (b2 m13_0 m13_1) (b2 m14_0 m14_1) (b2m m15_0 m15_1) f17 (bA 159 q31) f32 f34 f35 f36 f37 (bN 7 q38) f39 f40 f41 (b2 m42_0 m42_1) f43 f44 f47 f48 f49 f50 f51 (bN 13 q54) (bN 120 q55) (bN 120 q56) f57 (bN 120 q58) f59 f60 f64) H ∧ va_D A (mo_w ad ck x0 (nI x16) (nI x18) (nI x19) g_15 (nI g_16) (nI g_17) g_18 x24 x25 (nI g_19) g_20 1 (nI x29) (nI x30) (nI x33) x45 (nI x46) (nI x52) (nI x53) (nI x61) (nI x62) (nI x63) (nI x65) x66 f1 f2 f3 (bN 3 q4) (bN 7 q_12) (bN 7 q6) (bN 4 q7) f8 (bN 2 q9) (bH q10) f11 (b2 m12_0 m12_1) (b2 m13_0 m13_1) (b2 m14_0 m14_1) (b2m m15_0 m15_1) f17 (bA 159 q31) f32 f34 f35 f36 f37 (bN 7 q38) f39 f40 f41 (b2 m42_0 m42_1) f43 f44 f47 f48 f49 f50 f51 (bN 13 q54) (bN 120 q55) (bN 120 q56) f57 (bN 120 q58) f59 f60 f64) ∧ va_S A s.heap H locs ∧ lv_has ls 3 [(0, .ref (ad 0)), (1, .int (nI (14 + m14_1)))]) 48 ?_ (fun j_23 => ?_)
  · rintro H locs ls st ⟨g_15, g_16, g_17, g_18, g_19, g_20, g_21, rfl, hg_16, hg_17, hg_19, hg_21, he_22, hP, hD, hS, hl⟩
    refine va_iast hx hb hK hP hD hS 6 5 rfl rfl (vp_in_nI (n := (14 + m14_1)) (by omega) (Nat.le_of_ble_eq_true rfl)) dX9_readEdge_48 (fun H locs hP hD hS => ?_)
    obtain ⟨q_24, eq_24, kq_24⟩ := bN_up 7 q6 (((nI (14 + m14_1)) : Int32).toNatClampNeg) (v := g_21) hg_21
    have hP : va_P (dC, dI) vwCl (mo_w ad ck x0 (nI x16) (nI x18) (nI x19) g_15 (nI g_16) (nI g_17) g_18 x24 x25 (nI g_19) g_20 1 (nI x29) (nI x30) (nI x33) x45 (nI x46) (nI x52) (nI x53) (nI x61) (nI x62) (nI x63) (nI x65) x66 f1 f2 f3 (bN 3 q4) (bN 7 q_12) (bN 7 q_24) (bN 4 q7) f8 (bN 2 q9) (bH q10) f11 (b2 m12_0 m12_1) (b2 m13_0 m13_1) (b2 m14_0 m14_1) (b2m m15_0 m15_1) f17 (bA 159 q31) f32 f34 f35 f36 f37 (bN 7 q38) f39 f40 f41 (b2 m42_0 m42_1) f43 f44 f47 f48 f49 f50 f51 (bN 13 q54) (bN 120 q55) (bN 120 q56) f57 (bN 120 q58) f59 f60 f64) H := by rw [← eq_24]; exact hP
    have hD : va_D A (mo_w ad ck x0 (nI x16) (nI x18) (nI x19) g_15 (nI g_16) (nI g_17) g_18 x24 x25 (nI g_19) g_20 1 (nI x29) (nI x30) (nI x33) x45 (nI x46) (nI x52) (nI x53) (nI x61) (nI x62) (nI x63) (nI x65) x66 f1 f2 f3 (bN 3 q4) (bN 7 q_12) (bN 7 q_24) (bN 4 q7) f8 (bN 2 q9) (bH q10) f11 (b2 m12_0 m12_1) (b2 m13_0 m13_1) (b2 m14_0 m14_1) (b2m m15_0 m15_1) f17 (bA 159 q31) f32 f34 f35 f36 f37 (bN 7 q38) f39 f40 f41 (b2 m42_0 m42_1) f43 f44 f47 f48 f49 f50 f51 (bN 13 q54) (bN 120 q55) (bN 120 q56) f57 (bN 120 q58) f59 f60 f64) := by rw [← eq_24]; exact hD
    refine lv_aload_n hx hb dX9_readEdge_49 rfl (lv_at hl 0 rfl) ?_
    refine va_get (D := (dC, dI)) (ci := 9) (v := .ref (ad 7)) (C := RX9) (T := TX9) (N := 67) hx hb hts hiX9 hown hK hP 0 rfl rfl 7 (by decide) v_14 (fun _ h9 => h9) rfl dX9_readEdge_50 ?_
    refine lv_iload_n hx hb dX9_readEdge_53 rfl (lv_at hl 1 rfl) ?_
    refine lv_iconst (v := 0) hx hb dX9_readEdge_54 (by decide) ?_
    refine va_iast hx hb hK hP hD hS 7 6 rfl rfl (vp_in_nI (n := (14 + m14_1)) (by omega) (Nat.le_of_ble_eq_true rfl)) dX9_readEdge_55 (fun H locs hP hD hS => ?_)
    obtain ⟨q_25, eq_25, kq_25⟩ := bN_up 4 q7 (((nI (14 + m14_1)) : Int32).toNatClampNeg) (v := 0) (Nat.le_of_ble_eq_true rfl)
    have hP : va_P (dC, dI) vwCl (mo_w ad ck x0 (nI x16) (nI x18) (nI x19) g_15 (nI g_16) (nI g_17) g_18 x24 x25 (nI g_19) g_20 1 (nI x29) (nI x30) (nI x33) x45 (nI x46) (nI x52) (nI x53) (nI x61) (nI x62) (nI x63) (nI x65) x66 f1 f2 f3 (bN 3 q4) (bN 7 q_12) (bN 7 q_24) (bN 4 q_25) f8 (bN 2 q9) (bH q10) f11 (b2 m12_0 m12_1) (b2 m13_0 m13_1) (b2 m14_0 m14_1) (b2m m15_0 m15_1) f17 (bA 159 q31) f32 f34 f35 f36 f37 (bN 7 q38) f39 f40 f41 (b2 m42_0 m42_1) f43 f44 f47 f48 f49 f50 f51 (bN 13 q54) (bN 120 q55) (bN 120 q56) f57 (bN 120 q58) f59 f60 f64) H := by rw [← eq_25]; exact hP
    have hD : va_D A (mo_w ad ck x0 (nI x16) (nI x18) (nI x19) g_15 (nI g_16) (nI g_17) g_18 x24 x25 (nI g_19) g_20 1 (nI x29) (nI x30) (nI x33) x45 (nI x46) (nI x52) (nI x53) (nI x61) (nI x62) (nI x63) (nI x65) x66 f1 f2 f3 (bN 3 q4) (bN 7 q_12) (bN 7 q_24) (bN 4 q_25) f8 (bN 2 q9) (bH q10) f11 (b2 m12_0 m12_1) (b2 m13_0 m13_1) (b2 m14_0 m14_1) (b2m m15_0 m15_1) f17 (bA 159 q31) f32 f34 f35 f36 f37 (bN 7 q38) f39 f40 f41 (b2 m42_0 m42_1) f43 f44 f47 f48 f49 f50 f51 (bN 13 q54) (bN 120 q55) (bN 120 q56) f57 (bN 120 q58) f59 f60 f64) := by rw [← eq_25]; exact hD
    refine lv_aload_n hx hb dX9_readEdge_56 rfl (lv_at hl 0 rfl) ?_
    refine va_get (D := (dC, dI)) (ci := 9) (v := .ref (ad 8)) (C := RX9) (T := TX9) (N := 67) hx hb hts hiX9 hown hK hP 0 rfl rfl 8 (by decide) v_15 (fun _ h9 => h9) rfl dX9_readEdge_57 ?_
    refine lv_iload_n hx hb dX9_readEdge_60 rfl (lv_at hl 1 rfl) ?_
    refine lv_iconst (v := 0) hx hb dX9_readEdge_61 (by decide) ?_
    refine va_iast hx hb hK hP hD hS 8 7 rfl rfl (vp_in_nI (n := (14 + m14_1)) (by omega) (Nat.le_of_ble_eq_true rfl)) dX9_readEdge_62 (fun H locs hP hD hS => ?_)
    have hP : va_P (dC, dI) vwCl (mo_w ad ck x0 (nI x16) (nI x18) (nI x19) g_15 (nI g_16) (nI g_17) g_18 x24 x25 (nI g_19) g_20 1 (nI x29) (nI x30) (nI x33) x45 (nI x46) (nI x52) (nI x53) (nI x61) (nI x62) (nI x63) (nI x65) x66 f1 f2 f3 (bN 3 q4) (bN 7 q_12) (bN 7 q_24) (bN 4 q_25) (upd f8 ((nI (14 + m14_1)) : Int32).toNatClampNeg 0) (bN 2 q9) (bH q10) f11 (b2 m12_0 m12_1) (b2 m13_0 m13_1) (b2 m14_0 m14_1) (b2m m15_0 m15_1) f17 (bA 159 q31) f32 f34 f35 f36 f37 (bN 7 q38) f39 f40 f41 (b2 m42_0 m42_1) f43 f44 f47 f48 f49 f50 f51 (bN 13 q54) (bN 120 q55) (bN 120 q56) f57 (bN 120 q58) f59 f60 f64) H := hP
    have hD : va_D A (mo_w ad ck x0 (nI x16) (nI x18) (nI x19) g_15 (nI g_16) (nI g_17) g_18 x24 x25 (nI g_19) g_20 1 (nI x29) (nI x30) (nI x33) x45 (nI x46) (nI x52) (nI x53) (nI x61) (nI x62) (nI x63) (nI x65) x66 f1 f2 f3 (bN 3 q4) (bN 7 q_12) (bN 7 q_24) (bN 4 q_25) (upd f8 ((nI (14 + m14_1)) : Int32).toNatClampNeg 0) (bN 2 q9) (bH q10) f11 (b2 m12_0 m12_1) (b2 m13_0 m13_1) (b2 m14_0 m14_1) (b2m m15_0 m15_1) f17 (bA 159 q31) f32 f34 f35 f36 f37 (bN 7 q38) f39 f40 f41 (b2 m42_0 m42_1) f43 f44 f47 f48 f49 f50 f51 (bN 13 q54) (bN 120 q55) (bN 120 q56) f57 (bN 120 q58) f59 f60 f64) := hD
    refine pu_while (fun nn H locs ls => ∃ (g_37 : Nat → Nat) (g_38 : Nat → Int32) (g_39 : Nat → Nat) (g_40 : Nat → Nat) (g_41 : Int32) (g_42 : Nat) (g_43 : Nat) (g_44 : Int32) (g_45 : Nat) (g_46 : Int32), nn = mu g_42 g_43 ∧ g_42 ≤ 900 ∧ g_43 ≤ 4 ∧ g_45 ≤ 6 ∧ mu g_42 g_43 ≤ mu x21 x22 ∧ va_P (dC, dI) vwCl (mo_w ad ck x0 (nI x16) (nI x18) (nI x19) g_41 (nI g_42) (nI g_43) g_44 x24 x25 (nI g_45) g_46 1 (nI x29) (nI x30) (nI x33) x45 (nI x46) (nI x52) (nI x53) (nI x61) (nI x62) (nI x63) (nI x65) x66 f1 f2 f3 (bN 3 q4) (bN 7 q_12) (bN 7 q_24) (bN 4 g_39) (upd f8 ((nI (14 + m14_1)) : Int32).toNatClampNeg 0) (bN 2 g_40) (bH g_37) g_38 (b2 m12_0 m12_1) (b2 m13_0 m13_1) (b2 m14_0 m14_1) (b2m m15_0 m15_1) f17 (bA 159 q31) f32 f34 f35 f36 f37 (bN 7 q38) f39 f40 f41 (b2 m42_0 m42_1) f43 f44 f47 f48 f49 f50 f51 (bN 13 q54) (bN 120 q55) (bN 120 q56) f57 (bN 120 q58) f59 f60 f64) H ∧ va_D A (mo_w ad ck x0 (nI x16) (nI x18) (nI x19) g_41 (nI g_42) (nI g_43) g_44 x24 x25 (nI g_45) g_46 1 (nI x29) (nI x30) (nI x33) x45 (nI x46) (nI x52) (nI x53) (nI x61) (nI x62) (nI x63) (nI x65) x66 f1 f2 f3 (bN 3 q4) (bN 7 q_12) (bN 7 q_24) (bN 4 g_39) (upd f8 ((nI (14 + m14_1)) : Int32).toNatClampNeg 0) (bN 2 g_40) (bH g_37) g_38 (b2 m12_0 m12_1) (b2 m13_0 m13_1) (b2 m14_0 m14_1) (b2m m15_0 m15_1) f17 (bA 159 q31) f32 f34 f35 f36 f37 (bN 7 q38) f39 f40 f41 (b2 m42_0 m42_1) f43 f44 f47 f48 f49 f50 f51 (bN 13 q54) (bN 120 q55) (bN 120 q56) f57 (bN 120 q58) f59 f60 f64) ∧ va_S A s.heap H locs ∧ lv_has ls 3 [(0, .ref (ad 0)), (1, .int (nI (14 + m14_1)))]) 63 ?_ _ _ _ _ ⟨q10, f11, q_25, q9, g_15, g_16, g_17, g_18, g_19, g_20, rfl, hg_16, hg_17, hg_19, by omega, hP, hD, hS, lv_sub hl [0, 1] rfl⟩
    rintro nn ih_48 H locs ls ⟨g_37, g_38, g_39, g_40, g_41, g_42, g_43, g_44, g_45, g_46, rfl, hg_42, hg_43, hg_45, he_47, hP, hD, hS, hl⟩
    refine lv_aload_n hx hb dX9_readEdge_63 rfl (lv_at hl 0 rfl) ?_
    refine va_calli (va_runV (As := []) (rest := []) ⟨hx, hb, hml, hown, hts⟩ (c_M_isGood l dC dI _ ad ck x0 x16 x18 x19 g_41 g_42 g_43 g_44 x24 x25 g_45 g_46 1 x29 x30 x33 x45 x46 x52 x53 x61 x62 x63 x65 x66 f1 f2 f3 q4 q_12 q_24 g_39 (upd f8 ((nI (14 + m14_1)) : Int32).toNatClampNeg 0) g_40 g_37 g_38 m12_0 m12_1 m13_0 m13_1 m14_0 m14_1 m15_0 m15_1 f17 q31 f32 f34 f35 f36 f37 q38 f39 f40 f41 m42_0 m42_1 f43 f44 f47 f48 f49 f50 f51 q54 q55 q56 f57 q58 f59 f60 f64 hx16 hx18 hx19 hg_42 hg_43 hg_45 (Nat.le_of_ble_eq_true rfl) hx29 hx30 hx33 hx46 hx52 hx53 hx61 hx62 hx63 hx65 hm12_0 hm12_1 hm13_0 hm13_1 hm14_0 (Nat.le_trans hm14_1 (Nat.le_of_ble_eq_true rfl)) hm15_0 hm15_1 hm42_0 hm42_1) (cwV 0 hts g_M_readEdge_1_M_isGood rfl rfl rfl (by decide +kernel) ⟨Nat.le_of_ble_eq_true rfl, Nat.le_of_ble_eq_true rfl⟩) ⟨pu_bl, va_recv hK hP (ci := 9) (q0 := 0) rfl rfl, pu_in hP hK hD⟩ rfl rfl hl.1 rfl (lv_room (Nat.le_of_ble_eq_true rfl)) dX9_readEdge_64 ⟨Nat.le_of_ble_eq_true rfl, Nat.le_of_ble_eq_true rfl⟩) hS (fun q _ h => pu_fr hS hA q h) (pu_fr hS hA) (fun r_49 u t H1 locs ht hvm hw hB hz1 hk1 hS => ?_)
    have hP := pu_keep hP hk1
    clear hk1 hz1 ht hvm
    generalize H1 = H at hP hS ⊢
    obtain ⟨u_50, hu_50, rfl, iu_50⟩ := hw
    refine lv_if_eq (tgt := 139) hx hb dX9_readEdge_67 (by decide) (fun c_51 => ?_) (fun c_51 => ?_)
    · have c_51 : u_50 = 0 := (nI_eq (a := u_50) (b := 0) (Nat.lt_of_le_of_lt hu_50 (Nat.le_of_ble_eq_true rfl)) (Nat.le_of_ble_eq_true rfl)).mp c_51
      refine pu_while (fun nn H locs ls => ∃ (g_60 : Nat → Int32) (g_61 : Int32) (g_62 : Nat) (g_63 : Nat) (g_64 : Int32) (g_65 : Nat) (g_66 : Int32), nn = mu g_62 g_63 ∧ g_62 ≤ 900 ∧ g_63 ≤ 4 ∧ g_65 ≤ 6 ∧ mu g_62 g_63 ≤ mu x21 x22 ∧ va_P (dC, dI) vwCl (mo_w ad ck x0 (nI x16) (nI x18) (nI x19) g_61 (nI g_62) (nI g_63) g_64 x24 x25 (nI g_65) g_66 1 (nI x29) (nI x30) (nI x33) x45 (nI x46) (nI x52) (nI x53) (nI x61) (nI x62) (nI x63) (nI x65) x66 f1 f2 f3 (bN 3 q4) (bN 7 q_12) (bN 7 q_24) (bN 4 g_39) g_60 (bN 2 g_40) (bH g_37) g_38 (b2 m12_0 m12_1) (b2 m13_0 m13_1) (b2 m14_0 m14_1) (b2m m15_0 m15_1) f17 (bA 159 q31) f32 f34 f35 f36 f37 (bN 7 q38) f39 f40 f41 (b2 m42_0 m42_1) f43 f44 f47 f48 f49 f50 f51 (bN 13 q54) (bN 120 q55) (bN 120 q56) f57 (bN 120 q58) f59 f60 f64) H ∧ va_D A (mo_w ad ck x0 (nI x16) (nI x18) (nI x19) g_61 (nI g_62) (nI g_63) g_64 x24 x25 (nI g_65) g_66 1 (nI x29) (nI x30) (nI x33) x45 (nI x46) (nI x52) (nI x53) (nI x61) (nI x62) (nI x63) (nI x65) x66 f1 f2 f3 (bN 3 q4) (bN 7 q_12) (bN 7 q_24) (bN 4 g_39) g_60 (bN 2 g_40) (bH g_37) g_38 (b2 m12_0 m12_1) (b2 m13_0 m13_1) (b2 m14_0 m14_1) (b2m m15_0 m15_1) f17 (bA 159 q31) f32 f34 f35 f36 f37 (bN 7 q38) f39 f40 f41 (b2 m42_0 m42_1) f43 f44 f47 f48 f49 f50 f51 (bN 13 q54) (bN 120 q55) (bN 120 q56) f57 (bN 120 q58) f59 f60 f64) ∧ va_S A s.heap H locs ∧ lv_has ls 3 [(0, .ref (ad 0)), (1, .int (nI (14 + m14_1)))]) 139 ?_ _ _ _ _ ⟨(upd f8 ((nI (14 + m14_1)) : Int32).toNatClampNeg 0), g_41, g_42, g_43, g_44, g_45, g_46, rfl, hg_42, hg_43, hg_45, by omega, hP, hD, hS, lv_sub hl [0, 1] rfl⟩
      rintro nn ih_68 H locs ls ⟨g_60, g_61, g_62, g_63, g_64, g_65, g_66, rfl, hg_62, hg_63, hg_65, he_67, hP, hD, hS, hl⟩
      refine lv_aload_n hx hb dX9_readEdge_139 rfl (lv_at hl 0 rfl) ?_
      refine va_calli (va_runV (As := []) (rest := []) ⟨hx, hb, hml, hown, hts⟩ (c_M_isGood l dC dI _ ad ck x0 x16 x18 x19 g_61 g_62 g_63 g_64 x24 x25 g_65 g_66 1 x29 x30 x33 x45 x46 x52 x53 x61 x62 x63 x65 x66 f1 f2 f3 q4 q_12 q_24 g_39 g_60 g_40 g_37 g_38 m12_0 m12_1 m13_0 m13_1 m14_0 m14_1 m15_0 m15_1 f17 q31 f32 f34 f35 f36 f37 q38 f39 f40 f41 m42_0 m42_1 f43 f44 f47 f48 f49 f50 f51 q54 q55 q56 f57 q58 f59 f60 f64 hx16 hx18 hx19 hg_62 hg_63 hg_65 (Nat.le_of_ble_eq_true rfl) hx29 hx30 hx33 hx46 hx52 hx53 hx61 hx62 hx63 hx65 hm12_0 hm12_1 hm13_0 hm13_1 hm14_0 (Nat.le_trans hm14_1 (Nat.le_of_ble_eq_true rfl)) hm15_0 hm15_1 hm42_0 hm42_1) (cwV 0 hts g_M_readEdge_1_M_isGood rfl rfl rfl (by decide +kernel) ⟨Nat.le_of_ble_eq_true rfl, Nat.le_of_ble_eq_true rfl⟩) ⟨pu_bl, va_recv hK hP (ci := 9) (q0 := 0) rfl rfl, pu_in hP hK hD⟩ rfl rfl hl.1 rfl (lv_room (Nat.le_of_ble_eq_true rfl)) dX9_readEdge_140 ⟨Nat.le_of_ble_eq_true rfl, Nat.le_of_ble_eq_true rfl⟩) hS (fun q _ h => pu_fr hS hA q h) (pu_fr hS hA) (fun r_69 u t H1 locs ht hvm hw hB hz1 hk1 hS => ?_)
      have hP := pu_keep hP hk1
      clear hk1 hz1 ht hvm
      generalize H1 = H at hP hS ⊢
      obtain ⟨u_70, hu_70, rfl, iu_70⟩ := hw
      refine pu_join (fun H locs ls st => st = [] ∧ mu g_62 g_63 ≤ mu x21 x22 ∧ va_P (dC, dI) vwCl (mo_w ad ck x0 (nI x16) (nI x18) (nI x19) g_61 (nI g_62) (nI g_63) g_64 x24 x25 (nI g_65) g_66 1 (nI x29) (nI x30) (nI x33) x45 (nI x46) (nI x52) (nI x53) (nI x61) (nI x62) (nI x63) (nI x65) x66 f1 f2 f3 (bN 3 q4) (bN 7 q_12) (bN 7 q_24) (bN 4 g_39) g_60 (bN 2 g_40) (bH g_37) g_38 (b2 m12_0 m12_1) (b2 m13_0 m13_1) (b2 m14_0 m14_1) (b2m m15_0 m15_1) f17 (bA 159 q31) f32 f34 f35 f36 f37 (bN 7 q38) f39 f40 f41 (b2 m42_0 m42_1) f43 f44 f47 f48 f49 f50 f51 (bN 13 q54) (bN 120 q55) (bN 120 q56) f57 (bN 120 q58) f59 f60 f64) H ∧ va_D A (mo_w ad ck x0 (nI x16) (nI x18) (nI x19) g_61 (nI g_62) (nI g_63) g_64 x24 x25 (nI g_65) g_66 1 (nI x29) (nI x30) (nI x33) x45 (nI x46) (nI x52) (nI x53) (nI x61) (nI x62) (nI x63) (nI x65) x66 f1 f2 f3 (bN 3 q4) (bN 7 q_12) (bN 7 q_24) (bN 4 g_39) g_60 (bN 2 g_40) (bH g_37) g_38 (b2 m12_0 m12_1) (b2 m13_0 m13_1) (b2 m14_0 m14_1) (b2m m15_0 m15_1) f17 (bA 159 q31) f32 f34 f35 f36 f37 (bN 7 q38) f39 f40 f41 (b2 m42_0 m42_1) f43 f44 f47 f48 f49 f50 f51 (bN 13 q54) (bN 120 q55) (bN 120 q56) f57 (bN 120 q58) f59 f60 f64) ∧ va_S A s.heap H locs ∧ lv_has ls 3 [(0, .ref (ad 0)), (1, .int (nI (14 + m14_1)))]) 215 ?_ (fun j_72 => ?_)
      · rintro H locs ls st ⟨rfl, he_71, hP, hD, hS, hl⟩
        refine lv_aload_n hx hb dX9_readEdge_215 rfl (lv_at hl 0 rfl) ?_
        refine va_get (D := (dC, dI)) (ci := 9) (v := .ref (ad 14)) (C := RX9) (T := TX9) (N := 67) hx hb hts hiX9 hown hK hP 0 rfl rfl 14 (by decide) v_2 (fun _ h9 => h9) rfl dX9_readEdge_216 ?_
        refine lv_aload_n hx hb dX9_readEdge_219 rfl (lv_at hl 0 rfl) ?_
        refine va_get (D := (dC, dI)) (ci := 9) (v := .int 1) (C := RX9) (T := TX9) (N := 67) hx hb hts hiX9 hown hK hP 0 rfl rfl 28 (by decide) v_1 (fun _ h9 => h9) rfl dX9_readEdge_220 ?_
        refine lv_dup2_11 hx hb dX9_readEdge_223 rfl rfl ?_
        refine va_iald hx hb hK hP 14 13 rfl rfl (vp_in_nI (n := 1) (Nat.le_of_ble_eq_true rfl) (Nat.le_of_ble_eq_true rfl)) dX9_readEdge_224 ?_
        refine lv_topi (fun y_73 ey_73 => ?_)
        have qy_73 := ey_73.trans b2_1
        clear ey_73
        obtain rfl : y_73 = nI m14_1 := qy_73
        refine lv_iconst (v := 1) hx hb dX9_readEdge_225 (by decide) ?_
        refine lv_iadd hx hb dX9_readEdge_226 ?_
        refine lv_topi (fun y_74 ey_74 => ?_)
        obtain rfl : y_74 = (nI (m14_1 + 1)) := ey_74.trans (nI_add m14_1 1)
        refine va_iast hx hb hK hP hD hS 14 13 rfl rfl (vp_in_nI (n := 1) (Nat.le_of_ble_eq_true rfl) (Nat.le_of_ble_eq_true rfl)) dX9_readEdge_227 (fun H locs hP hD hS => ?_)
        have hP : va_P (dC, dI) vwCl (mo_w ad ck x0 (nI x16) (nI x18) (nI x19) g_61 (nI g_62) (nI g_63) g_64 x24 x25 (nI g_65) g_66 1 (nI x29) (nI x30) (nI x33) x45 (nI x46) (nI x52) (nI x53) (nI x61) (nI x62) (nI x63) (nI x65) x66 f1 f2 f3 (bN 3 q4) (bN 7 q_12) (bN 7 q_24) (bN 4 g_39) g_60 (bN 2 g_40) (bH g_37) g_38 (b2 m12_0 m12_1) (b2 m13_0 m13_1) (b2 m14_0 (m14_1 + 1)) (b2m m15_0 m15_1) f17 (bA 159 q31) f32 f34 f35 f36 f37 (bN 7 q38) f39 f40 f41 (b2 m42_0 m42_1) f43 f44 f47 f48 f49 f50 f51 (bN 13 q54) (bN 120 q55) (bN 120 q56) f57 (bN 120 q58) f59 f60 f64) H := by rw [← b2_up1 (a := m14_0) (b := m14_1) (v := (m14_1 + 1))]; exact hP
        have hD : va_D A (mo_w ad ck x0 (nI x16) (nI x18) (nI x19) g_61 (nI g_62) (nI g_63) g_64 x24 x25 (nI g_65) g_66 1 (nI x29) (nI x30) (nI x33) x45 (nI x46) (nI x52) (nI x53) (nI x61) (nI x62) (nI x63) (nI x65) x66 f1 f2 f3 (bN 3 q4) (bN 7 q_12) (bN 7 q_24) (bN 4 g_39) g_60 (bN 2 g_40) (bH g_37) g_38 (b2 m12_0 m12_1) (b2 m13_0 m13_1) (b2 m14_0 (m14_1 + 1)) (b2m m15_0 m15_1) f17 (bA 159 q31) f32 f34 f35 f36 f37 (bN 7 q38) f39 f40 f41 (b2 m42_0 m42_1) f43 f44 f47 f48 f49 f50 f51 (bN 13 q54) (bN 120 q55) (bN 120 q56) f57 (bN 120 q58) f59 f60 f64) := by rw [← b2_up1 (a := m14_0) (b := m14_1) (v := (m14_1 + 1))]; exact hD
        exact W.vret hx hb hr (fun t ht hW => ⟨⟨(), rfl, trivial, ⟨g_37, g_38, q_12, q_24, g_39, g_60, g_40, (m14_1 + 1), g_61, g_62, g_63, g_64, g_65, g_66, ⟨by rw [ht]; exact hP, va_K.moved hW.alike hK, hD⟩, (by omega), hg_62, hg_63, hg_65, by omega⟩⟩, hS.F ht⟩) hS.2.2 dX9_readEdge_228
      refine lv_if_eq (tgt := 215) hx hb dX9_readEdge_143 (by decide) (fun c_75 => ?_) (fun c_75 => ?_)
      · have c_75 : u_70 = 0 := (nI_eq (a := u_70) (b := 0) (Nat.lt_of_le_of_lt hu_70 (Nat.le_of_ble_eq_true rfl)) (Nat.le_of_ble_eq_true rfl)).mp c_75
        exact j_72 _ _ _ _ ⟨rfl, by omega, hP, hD, hS, lv_sub hl [0, 1] rfl⟩
      · have c_75 : ¬ u_70 = 0 := fun z => c_75 ((nI_eq (a := u_70) (b := 0) (Nat.lt_of_le_of_lt hu_70 (Nat.le_of_ble_eq_true rfl)) (Nat.le_of_ble_eq_true rfl)).mpr z)
        refine lv_aload_n hx hb dX9_readEdge_146 rfl (lv_at hl 0 rfl) ?_
        refine lv_ldc hx hb hown v_16 dX9_readEdge_147 ?_
        refine va_calli (va_runV (As := [.int 19057844]) (rest := []) ⟨hx, hb, hml, hown, hts⟩ (c_M_isWord l dC dI _ ad ck x0 x16 x18 x19 g_61 g_62 g_63 g_64 x24 x25 g_65 g_66 1 x29 x30 x33 x45 x46 x52 x53 x61 x62 x63 x65 x66 f1 f2 f3 q4 q_12 q_24 g_39 g_60 g_40 g_37 g_38 m12_0 m12_1 m13_0 m13_1 m14_0 m14_1 m15_0 m15_1 f17 q31 f32 f34 f35 f36 f37 q38 f39 f40 f41 m42_0 m42_1 f43 f44 f47 f48 f49 f50 f51 q54 q55 q56 f57 q58 f59 f60 f64 19057844 hx16 hx18 hx19 hg_62 hg_63 hg_65 (Nat.le_of_ble_eq_true rfl) hx29 hx30 hx33 hx46 hx52 hx53 hx61 hx62 hx63 hx65 hm12_0 hm12_1 hm13_0 hm13_1 hm14_0 (Nat.le_trans hm14_1 (Nat.le_of_ble_eq_true rfl)) hm15_0 hm15_1 hm42_0 hm42_1) (cwV 1 hts g_M_readEdge_1_M_isWord rfl rfl rfl (by decide +kernel) ⟨Nat.le_of_ble_eq_true rfl, Nat.le_of_ble_eq_true rfl⟩) ⟨pu_bl, va_recv hK hP (ci := 9) (q0 := 0) rfl rfl, pu_in hP hK hD⟩ rfl rfl hl.1 rfl (lv_room (Nat.le_of_ble_eq_true rfl)) dX9_readEdge_149 ⟨Nat.le_of_ble_eq_true rfl, Nat.le_of_ble_eq_true rfl⟩) hS (fun q _ h => pu_fr hS hA q h) (pu_fr hS hA) (fun r_76 u t H1 locs ht hvm hw hB hz1 hk1 hS => ?_)
        have hP := pu_keep hP hk1
        clear hk1 hz1 ht hvm
        generalize H1 = H at hP hS ⊢
        obtain ⟨u_77, hu_77, rfl, iu_77⟩ := hw
        refine lv_if_eq (tgt := 215) hx hb dX9_readEdge_152 (by decide) (fun c_78 => ?_) (fun c_78 => ?_)
        · have c_78 : u_77 = 0 := (nI_eq (a := u_77) (b := 0) (Nat.lt_of_le_of_lt hu_77 (Nat.le_of_ble_eq_true rfl)) (Nat.le_of_ble_eq_true rfl)).mp c_78
          exact j_72 _ _ _ _ ⟨rfl, by omega, hP, hD, hS, lv_sub hl [0, 1] rfl⟩
        · have c_78 : ¬ u_77 = 0 := fun z => c_78 ((nI_eq (a := u_77) (b := 0) (Nat.lt_of_le_of_lt hu_77 (Nat.le_of_ble_eq_true rfl)) (Nat.le_of_ble_eq_true rfl)).mpr z)
          refine lv_aload_n hx hb dX9_readEdge_155 rfl (lv_at hl 0 rfl) ?_
          have hFc := pu_free hD hS hA
          refine va_callv (va_runV (As := []) (rest := []) ⟨hx, hb, hml, hown, hts⟩ (c_M_next l dC dI _ ad ck x0 x16 x18 x19 g_61 g_62 g_63 g_64 x24 x25 g_65 g_66 1 x29 x30 x33 x45 x46 x52 x53 x61 x62 x63 x65 x66 f1 f2 f3 q4 q_12 q_24 g_39 g_60 g_40 g_37 g_38 m12_0 m12_1 m13_0 m13_1 m14_0 m14_1 m15_0 m15_1 f17 q31 f32 f34 f35 f36 f37 q38 f39 f40 f41 m42_0 m42_1 f43 f44 f47 f48 f49 f50 f51 q54 q55 q56 f57 q58 f59 f60 f64 hx16 hx18 hx19 hg_62 hg_63 hg_65 (Nat.le_of_ble_eq_true rfl) hx29 hx30 hx33 hx46 hx52 hx53 hx61 hx62 hx63 hx65 hm12_0 hm12_1 hm13_0 hm13_1 hm14_0 (Nat.le_trans hm14_1 (Nat.le_of_ble_eq_true rfl)) hm15_0 hm15_1 hm42_0 hm42_1) (cwV 0 hts g_M_readEdge_1_M_next rfl rfl rfl (by decide +kernel) ⟨Nat.le_of_ble_eq_true rfl, Nat.le_of_ble_eq_true rfl⟩) ⟨pu_bl, va_recv hK hP (ci := 9) (q0 := 0) rfl rfl, pu_in hP hK hD⟩ rfl rfl hl.1 rfl (lv_room (Nat.le_of_ble_eq_true rfl)) dX9_readEdge_156 ⟨Nat.le_of_ble_eq_true rfl, Nat.le_of_ble_eq_true rfl⟩) hS (fun q _ h => hFc q h) hFc (fun u t H1 locs ht hvm hw hB hz1 hk1 hS => ?_)
          obtain ⟨z20_80, z21_81, z22_82, z23_83, ⟨hP1, -, hD1⟩, hz21_81, hz22_82, xr_79_0, xr_79_1⟩ := hB
          rw [ht] at hP1
          have hP := hP1
          have hD := pu_all hFc hD1
          clear hP1 hD1 hFc
          clear hk1 hz1 ht hvm
          generalize H1 = H at hP hS ⊢
          refine lv_aload_n hx hb dX9_readEdge_159 rfl (lv_at hl 0 rfl) ?_
          have hFc := pu_free hD hS hA
          refine va_calli (va_runV (As := []) (rest := []) ⟨hx, hb, hml, hown, hts⟩ (c_M_toldClock_1 l dC dI _ ad ck x0 x16 x18 x19 z20_80 z21_81 z22_82 z23_83 x24 x25 g_65 g_66 x29 x30 x33 x45 x46 x52 x53 x61 x62 x63 x65 x66 f1 f2 f3 q4 q_12 q_24 g_39 g_60 g_40 g_37 g_38 m12_0 m12_1 m13_0 m13_1 m14_0 m14_1 m15_0 m15_1 f17 q31 f32 f34 f35 f36 f37 q38 f39 f40 f41 m42_0 m42_1 f43 f44 f47 f48 f49 f50 f51 q54 q55 q56 f57 q58 f59 f60 f64 hx16 hx18 hx19 hz21_81 hz22_82 hg_65 hx29 hx30 hx33 hx46 hx52 hx53 hx61 hx62 hx63 hx65 hm12_0 hm12_1 hm13_0 hm13_1 hm14_0 (Nat.le_trans hm14_1 (Nat.le_of_ble_eq_true rfl)) hm15_0 hm15_1 hm42_0 hm42_1) (cwV 0 hts g_M_readEdge_1_M_toldClock_1 rfl rfl rfl (by decide +kernel) ⟨Nat.le_of_ble_eq_true rfl, Nat.le_of_ble_eq_true rfl⟩) ⟨pu_bl, va_recv hK hP (ci := 9) (q0 := 0) rfl rfl, pu_in hP hK hD⟩ rfl rfl hl.1 rfl (lv_room (Nat.le_of_ble_eq_true rfl)) dX9_readEdge_160 ⟨Nat.le_of_ble_eq_true rfl, Nat.le_of_ble_eq_true rfl⟩) hS (fun q _ h => hFc q h) hFc (fun r_84 u t H1 locs ht hvm hw hB hz1 hk1 hS => ?_)
          obtain ⟨z26_85, z27_86, ⟨hP1, -, hD1⟩, hz26_85⟩ := hB
          rw [ht] at hP1
          have hP := hP1
          have hD := pu_all hFc hD1
          clear hP1 hD1 hFc
          clear hk1 hz1 ht hvm
          generalize H1 = H at hP hS ⊢
          obtain ⟨u_87, hu_87, rfl⟩ := hw
          refine lv_istore_n (lv' := [(2, .int (nI u_87)), (0, .ref (ad 0)), (1, .int (nI (14 + m14_1)))]) hx hb dX9_readEdge_163 rfl hl (by decide) rfl (fun ls hl => ?_)
          refine lv_aload_n hx hb dX9_readEdge_164 rfl (lv_at hl 1 rfl) ?_
          refine va_calli (va_runV (As := []) (rest := []) ⟨hx, hb, hml, hown, hts⟩ (c_M_isGood l dC dI _ ad ck x0 x16 x18 x19 z20_80 z21_81 z22_82 z23_83 x24 x25 z26_85 z27_86 1 x29 x30 x33 x45 x46 x52 x53 x61 x62 x63 x65 x66 f1 f2 f3 q4 q_12 q_24 g_39 g_60 g_40 g_37 g_38 m12_0 m12_1 m13_0 m13_1 m14_0 m14_1 m15_0 m15_1 f17 q31 f32 f34 f35 f36 f37 q38 f39 f40 f41 m42_0 m42_1 f43 f44 f47 f48 f49 f50 f51 q54 q55 q56 f57 q58 f59 f60 f64 hx16 hx18 hx19 hz21_81 hz22_82 hz26_85 (Nat.le_of_ble_eq_true rfl) hx29 hx30 hx33 hx46 hx52 hx53 hx61 hx62 hx63 hx65 hm12_0 hm12_1 hm13_0 hm13_1 hm14_0 (Nat.le_trans hm14_1 (Nat.le_of_ble_eq_true rfl)) hm15_0 hm15_1 hm42_0 hm42_1) (cwV 0 hts g_M_readEdge_1_M_isGood rfl rfl rfl (by decide +kernel) ⟨Nat.le_of_ble_eq_true rfl, Nat.le_of_ble_eq_true rfl⟩) ⟨pu_bl, va_recv hK hP (ci := 9) (q0 := 0) rfl rfl, pu_in hP hK hD⟩ rfl rfl hl.1 rfl (lv_room (Nat.le_of_ble_eq_true rfl)) dX9_readEdge_165 ⟨Nat.le_of_ble_eq_true rfl, Nat.le_of_ble_eq_true rfl⟩) hS (fun q _ h => pu_fr hS hA q h) (pu_fr hS hA) (fun r_88 u t H1 locs ht hvm hw hB hz1 hk1 hS => ?_)
          have hP := pu_keep hP hk1
          clear hk1 hz1 ht hvm
          generalize H1 = H at hP hS ⊢
          obtain ⟨u_89, hu_89, rfl, iu_89⟩ := hw
          refine pu_join (fun H locs ls st => ∃ (g_90 : Nat) (g_91 : Int32), st = [] ∧ g_90 ≤ 6 ∧ mu z21_81 z22_82 ≤ mu x21 x22 ∧ mu z21_81 z22_82 < mu g_62 g_63 ∧ va_P (dC, dI) vwCl (mo_w ad ck x0 (nI x16) (nI x18) (nI x19) z20_80 (nI z21_81) (nI z22_82) z23_83 x24 x25 (nI g_90) g_91 1 (nI x29) (nI x30) (nI x33) x45 (nI x46) (nI x52) (nI x53) (nI x61) (nI x62) (nI x63) (nI x65) x66 f1 f2 f3 (bN 3 q4) (bN 7 q_12) (bN 7 q_24) (bN 4 g_39) g_60 (bN 2 g_40) (bH g_37) g_38 (b2 m12_0 m12_1) (b2 m13_0 m13_1) (b2 m14_0 m14_1) (b2m m15_0 m15_1) f17 (bA 159 q31) f32 f34 f35 f36 f37 (bN 7 q38) f39 f40 f41 (b2 m42_0 m42_1) f43 f44 f47 f48 f49 f50 f51 (bN 13 q54) (bN 120 q55) (bN 120 q56) f57 (bN 120 q58) f59 f60 f64) H ∧ va_D A (mo_w ad ck x0 (nI x16) (nI x18) (nI x19) z20_80 (nI z21_81) (nI z22_82) z23_83 x24 x25 (nI g_90) g_91 1 (nI x29) (nI x30) (nI x33) x45 (nI x46) (nI x52) (nI x53) (nI x61) (nI x62) (nI x63) (nI x65) x66 f1 f2 f3 (bN 3 q4) (bN 7 q_12) (bN 7 q_24) (bN 4 g_39) g_60 (bN 2 g_40) (bH g_37) g_38 (b2 m12_0 m12_1) (b2 m13_0 m13_1) (b2 m14_0 m14_1) (b2m m15_0 m15_1) f17 (bA 159 q31) f32 f34 f35 f36 f37 (bN 7 q38) f39 f40 f41 (b2 m42_0 m42_1) f43 f44 f47 f48 f49 f50 f51 (bN 13 q54) (bN 120 q55) (bN 120 q56) f57 (bN 120 q58) f59 f60 f64) ∧ va_S A s.heap H locs ∧ lv_has ls 3 [(0, .ref (ad 0)), (1, .int (nI (14 + m14_1))), (2, .int (nI u_87))]) 189 ?_ (fun j_94 => ?_)
          · rintro H locs ls st ⟨g_90, g_91, rfl, hg_90, he_92, he_93, hP, hD, hS, hl⟩
            refine lv_aload_n hx hb dX9_readEdge_189 rfl (lv_at hl 0 rfl) ?_
            refine va_get (D := (dC, dI)) (ci := 9) (v := .ref (ad 8)) (C := RX9) (T := TX9) (N := 67) hx hb hts hiX9 hown hK hP 0 rfl rfl 8 (by decide) v_15 (fun _ h9 => h9) rfl dX9_readEdge_190 ?_
            refine lv_iload_n hx hb dX9_readEdge_193 rfl (lv_at hl 1 rfl) ?_
            refine lv_dup2_11 hx hb dX9_readEdge_194 rfl rfl ?_
            refine va_iald hx hb hK hP 8 7 rfl rfl (vp_in_nI (n := (14 + m14_1)) (by omega) (Nat.le_of_ble_eq_true rfl)) dX9_readEdge_195 ?_
            refine lv_topi (fun y_95 ey_95 => ?_)
            refine lv_iconst (v := 1) hx hb dX9_readEdge_196 (by decide) ?_
            refine lv_iload_n hx hb dX9_readEdge_197 rfl (lv_at hl 2 rfl) ?_
            refine lv_ishl hx hb dX9_readEdge_198 ?_
            refine lv_topi (fun y_96 ey_96 => ?_)
            refine lv_ior hx hb dX9_readEdge_199 ?_
            refine lv_topi (fun y_97 ey_97 => ?_)
            refine va_iast hx hb hK hP hD hS 8 7 rfl rfl (vp_in_nI (n := (14 + m14_1)) (by omega) (Nat.le_of_ble_eq_true rfl)) dX9_readEdge_200 (fun H locs hP hD hS => ?_)
            have hP : va_P (dC, dI) vwCl (mo_w ad ck x0 (nI x16) (nI x18) (nI x19) z20_80 (nI z21_81) (nI z22_82) z23_83 x24 x25 (nI g_90) g_91 1 (nI x29) (nI x30) (nI x33) x45 (nI x46) (nI x52) (nI x53) (nI x61) (nI x62) (nI x63) (nI x65) x66 f1 f2 f3 (bN 3 q4) (bN 7 q_12) (bN 7 q_24) (bN 4 g_39) (upd g_60 ((nI (14 + m14_1)) : Int32).toNatClampNeg y_97) (bN 2 g_40) (bH g_37) g_38 (b2 m12_0 m12_1) (b2 m13_0 m13_1) (b2 m14_0 m14_1) (b2m m15_0 m15_1) f17 (bA 159 q31) f32 f34 f35 f36 f37 (bN 7 q38) f39 f40 f41 (b2 m42_0 m42_1) f43 f44 f47 f48 f49 f50 f51 (bN 13 q54) (bN 120 q55) (bN 120 q56) f57 (bN 120 q58) f59 f60 f64) H := hP
            have hD : va_D A (mo_w ad ck x0 (nI x16) (nI x18) (nI x19) z20_80 (nI z21_81) (nI z22_82) z23_83 x24 x25 (nI g_90) g_91 1 (nI x29) (nI x30) (nI x33) x45 (nI x46) (nI x52) (nI x53) (nI x61) (nI x62) (nI x63) (nI x65) x66 f1 f2 f3 (bN 3 q4) (bN 7 q_12) (bN 7 q_24) (bN 4 g_39) (upd g_60 ((nI (14 + m14_1)) : Int32).toNatClampNeg y_97) (bN 2 g_40) (bH g_37) g_38 (b2 m12_0 m12_1) (b2 m13_0 m13_1) (b2 m14_0 m14_1) (b2m m15_0 m15_1) f17 (bA 159 q31) f32 f34 f35 f36 f37 (bN 7 q38) f39 f40 f41 (b2 m42_0 m42_1) f43 f44 f47 f48 f49 f50 f51 (bN 13 q54) (bN 120 q55) (bN 120 q56) f57 (bN 120 q58) f59 f60 f64) := hD
            refine lv_aload_n hx hb dX9_readEdge_201 rfl (lv_at hl 0 rfl) ?_
            refine va_calli (va_runV (As := []) (rest := []) ⟨hx, hb, hml, hown, hts⟩ (c_M_isGood l dC dI _ ad ck x0 x16 x18 x19 z20_80 z21_81 z22_82 z23_83 x24 x25 g_90 g_91 1 x29 x30 x33 x45 x46 x52 x53 x61 x62 x63 x65 x66 f1 f2 f3 q4 q_12 q_24 g_39 (upd g_60 ((nI (14 + m14_1)) : Int32).toNatClampNeg y_97) g_40 g_37 g_38 m12_0 m12_1 m13_0 m13_1 m14_0 m14_1 m15_0 m15_1 f17 q31 f32 f34 f35 f36 f37 q38 f39 f40 f41 m42_0 m42_1 f43 f44 f47 f48 f49 f50 f51 q54 q55 q56 f57 q58 f59 f60 f64 hx16 hx18 hx19 hz21_81 hz22_82 hg_90 (Nat.le_of_ble_eq_true rfl) hx29 hx30 hx33 hx46 hx52 hx53 hx61 hx62 hx63 hx65 hm12_0 hm12_1 hm13_0 hm13_1 hm14_0 (Nat.le_trans hm14_1 (Nat.le_of_ble_eq_true rfl)) hm15_0 hm15_1 hm42_0 hm42_1) (cwV 0 hts g_M_readEdge_1_M_isGood rfl rfl rfl (by decide +kernel) ⟨Nat.le_of_ble_eq_true rfl, Nat.le_of_ble_eq_true rfl⟩) ⟨pu_bl, va_recv hK hP (ci := 9) (q0 := 0) rfl rfl, pu_in hP hK hD⟩ rfl rfl hl.1 rfl (lv_room (Nat.le_of_ble_eq_true rfl)) dX9_readEdge_202 ⟨Nat.le_of_ble_eq_true rfl, Nat.le_of_ble_eq_true rfl⟩) hS (fun q _ h => pu_fr hS hA q h) (pu_fr hS hA) (fun r_98 u t H1 locs ht hvm hw hB hz1 hk1 hS => ?_)
            have hP := pu_keep hP hk1
            clear hk1 hz1 ht hvm
            generalize H1 = H at hP hS ⊢
            obtain ⟨u_99, hu_99, rfl, iu_99⟩ := hw
            refine pu_join (fun H locs ls st => ∃ (g_100 : Int32) (g_101 : Nat) (g_102 : Nat) (g_103 : Int32), st = [] ∧ g_101 ≤ 900 ∧ g_102 ≤ 4 ∧ mu g_101 g_102 ≤ mu x21 x22 ∧ mu g_101 g_102 < mu g_62 g_63 ∧ va_P (dC, dI) vwCl (mo_w ad ck x0 (nI x16) (nI x18) (nI x19) g_100 (nI g_101) (nI g_102) g_103 x24 x25 (nI g_90) g_91 1 (nI x29) (nI x30) (nI x33) x45 (nI x46) (nI x52) (nI x53) (nI x61) (nI x62) (nI x63) (nI x65) x66 f1 f2 f3 (bN 3 q4) (bN 7 q_12) (bN 7 q_24) (bN 4 g_39) (upd g_60 ((nI (14 + m14_1)) : Int32).toNatClampNeg y_97) (bN 2 g_40) (bH g_37) g_38 (b2 m12_0 m12_1) (b2 m13_0 m13_1) (b2 m14_0 m14_1) (b2m m15_0 m15_1) f17 (bA 159 q31) f32 f34 f35 f36 f37 (bN 7 q38) f39 f40 f41 (b2 m42_0 m42_1) f43 f44 f47 f48 f49 f50 f51 (bN 13 q54) (bN 120 q55) (bN 120 q56) f57 (bN 120 q58) f59 f60 f64) H ∧ va_D A (mo_w ad ck x0 (nI x16) (nI x18) (nI x19) g_100 (nI g_101) (nI g_102) g_103 x24 x25 (nI g_90) g_91 1 (nI x29) (nI x30) (nI x33) x45 (nI x46) (nI x52) (nI x53) (nI x61) (nI x62) (nI x63) (nI x65) x66 f1 f2 f3 (bN 3 q4) (bN 7 q_12) (bN 7 q_24) (bN 4 g_39) (upd g_60 ((nI (14 + m14_1)) : Int32).toNatClampNeg y_97) (bN 2 g_40) (bH g_37) g_38 (b2 m12_0 m12_1) (b2 m13_0 m13_1) (b2 m14_0 m14_1) (b2m m15_0 m15_1) f17 (bA 159 q31) f32 f34 f35 f36 f37 (bN 7 q38) f39 f40 f41 (b2 m42_0 m42_1) f43 f44 f47 f48 f49 f50 f51 (bN 13 q54) (bN 120 q55) (bN 120 q56) f57 (bN 120 q58) f59 f60 f64) ∧ va_S A s.heap H locs ∧ lv_has ls 3 [(0, .ref (ad 0)), (1, .int (nI (14 + m14_1))), (2, .int (nI u_87))]) 212 ?_ (fun j_106 => ?_)
            · rintro H locs ls st ⟨g_100, g_101, g_102, g_103, rfl, hg_101, hg_102, he_104, he_105, hP, hD, hS, hl⟩
              refine lv_goto (tgt := 139) hx hb dX9_readEdge_212 (by decide) ?_
              exact ih_68 (mu g_101 g_102) (by omega) _ _ _ ⟨(upd g_60 ((nI (14 + m14_1)) : Int32).toNatClampNeg y_97), g_100, g_101, g_102, g_103, g_90, g_91, rfl, hg_101, hg_102, hg_90, by omega, hP, hD, hS, lv_sub hl [0, 1] rfl⟩
            refine lv_if_eq (tgt := 212) hx hb dX9_readEdge_205 (by decide) (fun c_107 => ?_) (fun c_107 => ?_)
            · have c_107 : u_99 = 0 := (nI_eq (a := u_99) (b := 0) (Nat.lt_of_le_of_lt hu_99 (Nat.le_of_ble_eq_true rfl)) (Nat.le_of_ble_eq_true rfl)).mp c_107
              exact j_106 _ _ _ _ ⟨z20_80, z21_81, z22_82, z23_83, rfl, hz21_81, hz22_82, by omega, by omega, hP, hD, hS, lv_sub hl [0, 1, 2] rfl⟩
            · have c_107 : ¬ u_99 = 0 := fun z => c_107 ((nI_eq (a := u_99) (b := 0) (Nat.lt_of_le_of_lt hu_99 (Nat.le_of_ble_eq_true rfl)) (Nat.le_of_ble_eq_true rfl)).mpr z)
              refine lv_aload_n hx hb dX9_readEdge_208 rfl (lv_at hl 0 rfl) ?_
              have hFc := pu_free hD hS hA
              refine va_callv (va_runV (As := []) (rest := []) ⟨hx, hb, hml, hown, hts⟩ (c_M_next l dC dI _ ad ck x0 x16 x18 x19 z20_80 z21_81 z22_82 z23_83 x24 x25 g_90 g_91 1 x29 x30 x33 x45 x46 x52 x53 x61 x62 x63 x65 x66 f1 f2 f3 q4 q_12 q_24 g_39 (upd g_60 ((nI (14 + m14_1)) : Int32).toNatClampNeg y_97) g_40 g_37 g_38 m12_0 m12_1 m13_0 m13_1 m14_0 m14_1 m15_0 m15_1 f17 q31 f32 f34 f35 f36 f37 q38 f39 f40 f41 m42_0 m42_1 f43 f44 f47 f48 f49 f50 f51 q54 q55 q56 f57 q58 f59 f60 f64 hx16 hx18 hx19 hz21_81 hz22_82 hg_90 (Nat.le_of_ble_eq_true rfl) hx29 hx30 hx33 hx46 hx52 hx53 hx61 hx62 hx63 hx65 hm12_0 hm12_1 hm13_0 hm13_1 hm14_0 (Nat.le_trans hm14_1 (Nat.le_of_ble_eq_true rfl)) hm15_0 hm15_1 hm42_0 hm42_1) (cwV 0 hts g_M_readEdge_1_M_next rfl rfl rfl (by decide +kernel) ⟨Nat.le_of_ble_eq_true rfl, Nat.le_of_ble_eq_true rfl⟩) ⟨pu_bl, va_recv hK hP (ci := 9) (q0 := 0) rfl rfl, pu_in hP hK hD⟩ rfl rfl hl.1 rfl (lv_room (Nat.le_of_ble_eq_true rfl)) dX9_readEdge_209 ⟨Nat.le_of_ble_eq_true rfl, Nat.le_of_ble_eq_true rfl⟩) hS (fun q _ h => hFc q h) hFc (fun u t H1 locs ht hvm hw hB hz1 hk1 hS => ?_)
              obtain ⟨z20_109, z21_110, z22_111, z23_112, ⟨hP1, -, hD1⟩, hz21_110, hz22_111, xr_108_0, xr_108_1⟩ := hB
              rw [ht] at hP1
              have hP := hP1
              have hD := pu_all hFc hD1
              clear hP1 hD1 hFc
              clear hk1 hz1 ht hvm
              generalize H1 = H at hP hS ⊢
              exact j_106 _ _ _ _ ⟨z20_109, z21_110, z22_111, z23_112, rfl, hz21_110, hz22_111, by omega, by omega, hP, hD, hS, lv_sub hl [0, 1, 2] rfl⟩
          refine lv_if_eq (tgt := 189) hx hb dX9_readEdge_168 (by decide) (fun c_113 => ?_) (fun c_113 => ?_)
          · have c_113 : u_89 = 0 := (nI_eq (a := u_89) (b := 0) (Nat.lt_of_le_of_lt hu_89 (Nat.le_of_ble_eq_true rfl)) (Nat.le_of_ble_eq_true rfl)).mp c_113
            exact j_94 _ _ _ _ ⟨z26_85, z27_86, rfl, hz26_85, by omega, by omega, hP, hD, hS, lv_sub hl [1, 2, 0] rfl⟩
          · have c_113 : ¬ u_89 = 0 := fun z => c_113 ((nI_eq (a := u_89) (b := 0) (Nat.lt_of_le_of_lt hu_89 (Nat.le_of_ble_eq_true rfl)) (Nat.le_of_ble_eq_true rfl)).mpr z)
            refine lv_aload_n hx hb dX9_readEdge_171 rfl (lv_at hl 1 rfl) ?_
            refine va_get (D := (dC, dI)) (ci := 9) (v := .ref (ad 8)) (C := RX9) (T := TX9) (N := 67) hx hb hts hiX9 hown hK hP 0 rfl rfl 8 (by decide) v_15 (fun _ h9 => h9) rfl dX9_readEdge_172 ?_
            refine lv_iload_n hx hb dX9_readEdge_175 rfl (lv_at hl 2 rfl) ?_
            refine va_iald hx hb hK hP 8 7 rfl rfl (vp_in_nI (n := (14 + m14_1)) (by omega) (Nat.le_of_ble_eq_true rfl)) dX9_readEdge_176 ?_
            refine lv_topi (fun y_114 ey_114 => ?_)
            refine lv_iload_n hx hb dX9_readEdge_177 rfl (lv_at hl 0 rfl) ?_
            refine va_calli (va_runS (As := [.int y_114, .int (nI u_87)]) (rest := []) ⟨hx, hb, hml, hown, hts⟩ (c_X9_isOf l dC dI _ y_114 (nI u_87)) (va_cwS 2 hts g_M_readEdge_1_X9_isOf rfl rfl rfl (by decide +kernel) ⟨Nat.le_of_ble_eq_true rfl, Nat.le_of_ble_eq_true rfl⟩) ⟨pu_bl, pu_in (hP.sub [] rfl) (hK.sub [] rfl) (hD.sub [] (by decide) rfl)⟩ rfl rfl hl.1 rfl (lv_room (Nat.le_of_ble_eq_true rfl)) dX9_readEdge_178 ⟨Nat.le_of_ble_eq_true rfl, Nat.le_of_ble_eq_true rfl⟩) hS (fun q _ h => pu_fr hS hA q h) (pu_fr hS hA) (fun r_115 u t H1 locs ht hvm hw hB hz1 hk1 hS => ?_)
            have hP := pu_keep hP hk1
            clear hk1 hz1 ht hvm
            generalize H1 = H at hP hS ⊢
            obtain ⟨u_116, hu_116, rfl⟩ := pu_bn hw
            refine lv_if_eq (tgt := 189) hx hb dX9_readEdge_181 (by decide) (fun c_117 => ?_) (fun c_117 => ?_)
            · have c_117 : u_116 = 0 := (nI_eq (a := u_116) (b := 0) (Nat.lt_of_le_of_lt hu_116 (Nat.le_of_ble_eq_true rfl)) (Nat.le_of_ble_eq_true rfl)).mp c_117
              exact j_94 _ _ _ _ ⟨z26_85, z27_86, rfl, hz26_85, by omega, by omega, hP, hD, hS, lv_sub hl [1, 2, 0] rfl⟩
            · have c_117 : ¬ u_116 = 0 := fun z => c_117 ((nI_eq (a := u_116) (b := 0) (Nat.lt_of_le_of_lt hu_116 (Nat.le_of_ble_eq_true rfl)) (Nat.le_of_ble_eq_true rfl)).mpr z)
              refine lv_aload_n hx hb dX9_readEdge_184 rfl (lv_at hl 1 rfl) ?_
              refine lv_iconst (v := 5) hx hb dX9_readEdge_185 (by decide) ?_
              have hFc := pu_free hD hS hA
              refine va_callv (va_runV (As := [.int 5]) (rest := []) ⟨hx, hb, hml, hown, hts⟩ (c_M_fails l dC dI _ ad ck x0 x16 x18 x19 z20_80 z21_81 z22_82 z23_83 x24 x25 z26_85 z27_86 1 x29 x30 x33 x45 x46 x52 x53 x61 x62 x63 x65 x66 f1 f2 f3 q4 q_12 q_24 g_39 g_60 g_40 g_37 g_38 m12_0 m12_1 m13_0 m13_1 m14_0 m14_1 m15_0 m15_1 f17 q31 f32 f34 f35 f36 f37 q38 f39 f40 f41 m42_0 m42_1 f43 f44 f47 f48 f49 f50 f51 q54 q55 q56 f57 q58 f59 f60 f64 5 hx16 hx18 hx19 hz21_81 hz22_82 hz26_85 (Nat.le_of_ble_eq_true rfl) hx29 hx30 hx33 hx46 hx52 hx53 hx61 hx62 hx63 hx65 hm12_0 hm12_1 hm13_0 hm13_1 hm14_0 (Nat.le_trans hm14_1 (Nat.le_of_ble_eq_true rfl)) hm15_0 hm15_1 hm42_0 hm42_1 (Nat.le_of_ble_eq_true rfl) (by omega)) (cwV 1 hts g_M_readEdge_1_M_fails rfl rfl rfl (by decide +kernel) ⟨Nat.le_of_ble_eq_true rfl, Nat.le_of_ble_eq_true rfl⟩) ⟨pu_bl, va_recv hK hP (ci := 9) (q0 := 0) rfl rfl, pu_in hP hK hD⟩ rfl rfl hl.1 rfl (lv_room (Nat.le_of_ble_eq_true rfl)) dX9_readEdge_186 ⟨Nat.le_of_ble_eq_true rfl, Nat.le_of_ble_eq_true rfl⟩) hS (fun q _ h => hFc q h) hFc (fun u t H1 locs ht hvm hw hB hz1 hk1 hS => ?_)
              obtain ⟨z26_119, z27_120, ⟨hP1, -, hD1⟩, hz26_119, xr_118_0⟩ := hB
              rw [ht] at hP1
              have hP := hP1
              have hD := pu_all hFc hD1
              clear hP1 hD1 hFc
              clear hk1 hz1 ht hvm
              generalize H1 = H at hP hS ⊢
              exact j_94 _ _ _ _ ⟨z26_119, z27_120, rfl, hz26_119, by omega, by omega, hP, hD, hS, lv_sub hl [1, 2, 0] rfl⟩
    · have c_51 : ¬ u_50 = 0 := fun z => c_51 ((nI_eq (a := u_50) (b := 0) (Nat.lt_of_le_of_lt hu_50 (Nat.le_of_ble_eq_true rfl)) (Nat.le_of_ble_eq_true rfl)).mpr z)
      refine lv_aload_n hx hb dX9_readEdge_70 rfl (lv_at hl 0 rfl) ?_
      refine lv_ldc hx hb hown v_36 dX9_readEdge_71 ?_
      refine va_calli (va_runV (As := [.int 762030]) (rest := []) ⟨hx, hb, hml, hown, hts⟩ (c_M_isWord l dC dI _ ad ck x0 x16 x18 x19 g_41 g_42 g_43 g_44 x24 x25 g_45 g_46 1 x29 x30 x33 x45 x46 x52 x53 x61 x62 x63 x65 x66 f1 f2 f3 q4 q_12 q_24 g_39 (upd f8 ((nI (14 + m14_1)) : Int32).toNatClampNeg 0) g_40 g_37 g_38 m12_0 m12_1 m13_0 m13_1 m14_0 m14_1 m15_0 m15_1 f17 q31 f32 f34 f35 f36 f37 q38 f39 f40 f41 m42_0 m42_1 f43 f44 f47 f48 f49 f50 f51 q54 q55 q56 f57 q58 f59 f60 f64 762030 hx16 hx18 hx19 hg_42 hg_43 hg_45 (Nat.le_of_ble_eq_true rfl) hx29 hx30 hx33 hx46 hx52 hx53 hx61 hx62 hx63 hx65 hm12_0 hm12_1 hm13_0 hm13_1 hm14_0 (Nat.le_trans hm14_1 (Nat.le_of_ble_eq_true rfl)) hm15_0 hm15_1 hm42_0 hm42_1) (cwV 1 hts g_M_readEdge_1_M_isWord rfl rfl rfl (by decide +kernel) ⟨Nat.le_of_ble_eq_true rfl, Nat.le_of_ble_eq_true rfl⟩) ⟨pu_bl, va_recv hK hP (ci := 9) (q0 := 0) rfl rfl, pu_in hP hK hD⟩ rfl rfl hl.1 rfl (lv_room (Nat.le_of_ble_eq_true rfl)) dX9_readEdge_73 ⟨Nat.le_of_ble_eq_true rfl, Nat.le_of_ble_eq_true rfl⟩) hS (fun q _ h => pu_fr hS hA q h) (pu_fr hS hA) (fun r_121 u t H1 locs ht hvm hw hB hz1 hk1 hS => ?_)
      have hP := pu_keep hP hk1
      clear hk1 hz1 ht hvm
      generalize H1 = H at hP hS ⊢
      obtain ⟨u_122, hu_122, rfl, iu_122⟩ := hw
      refine lv_if_eq (tgt := 139) hx hb dX9_readEdge_76 (by decide) (fun c_123 => ?_) (fun c_123 => ?_)
      · have c_123 : u_122 = 0 := (nI_eq (a := u_122) (b := 0) (Nat.lt_of_le_of_lt hu_122 (Nat.le_of_ble_eq_true rfl)) (Nat.le_of_ble_eq_true rfl)).mp c_123
        refine pu_while (fun nn H locs ls => ∃ (g_132 : Nat → Int32) (g_133 : Int32) (g_134 : Nat) (g_135 : Nat) (g_136 : Int32) (g_137 : Nat) (g_138 : Int32), nn = mu g_134 g_135 ∧ g_134 ≤ 900 ∧ g_135 ≤ 4 ∧ g_137 ≤ 6 ∧ mu g_134 g_135 ≤ mu x21 x22 ∧ va_P (dC, dI) vwCl (mo_w ad ck x0 (nI x16) (nI x18) (nI x19) g_133 (nI g_134) (nI g_135) g_136 x24 x25 (nI g_137) g_138 1 (nI x29) (nI x30) (nI x33) x45 (nI x46) (nI x52) (nI x53) (nI x61) (nI x62) (nI x63) (nI x65) x66 f1 f2 f3 (bN 3 q4) (bN 7 q_12) (bN 7 q_24) (bN 4 g_39) g_132 (bN 2 g_40) (bH g_37) g_38 (b2 m12_0 m12_1) (b2 m13_0 m13_1) (b2 m14_0 m14_1) (b2m m15_0 m15_1) f17 (bA 159 q31) f32 f34 f35 f36 f37 (bN 7 q38) f39 f40 f41 (b2 m42_0 m42_1) f43 f44 f47 f48 f49 f50 f51 (bN 13 q54) (bN 120 q55) (bN 120 q56) f57 (bN 120 q58) f59 f60 f64) H ∧ va_D A (mo_w ad ck x0 (nI x16) (nI x18) (nI x19) g_133 (nI g_134) (nI g_135) g_136 x24 x25 (nI g_137) g_138 1 (nI x29) (nI x30) (nI x33) x45 (nI x46) (nI x52) (nI x53) (nI x61) (nI x62) (nI x63) (nI x65) x66 f1 f2 f3 (bN 3 q4) (bN 7 q_12) (bN 7 q_24) (bN 4 g_39) g_132 (bN 2 g_40) (bH g_37) g_38 (b2 m12_0 m12_1) (b2 m13_0 m13_1) (b2 m14_0 m14_1) (b2m m15_0 m15_1) f17 (bA 159 q31) f32 f34 f35 f36 f37 (bN 7 q38) f39 f40 f41 (b2 m42_0 m42_1) f43 f44 f47 f48 f49 f50 f51 (bN 13 q54) (bN 120 q55) (bN 120 q56) f57 (bN 120 q58) f59 f60 f64) ∧ va_S A s.heap H locs ∧ lv_has ls 3 [(0, .ref (ad 0)), (1, .int (nI (14 + m14_1)))]) 139 ?_ _ _ _ _ ⟨(upd f8 ((nI (14 + m14_1)) : Int32).toNatClampNeg 0), g_41, g_42, g_43, g_44, g_45, g_46, rfl, hg_42, hg_43, hg_45, by omega, hP, hD, hS, lv_sub hl [0, 1] rfl⟩
        rintro nn ih_140 H locs ls ⟨g_132, g_133, g_134, g_135, g_136, g_137, g_138, rfl, hg_134, hg_135, hg_137, he_139, hP, hD, hS, hl⟩
        refine lv_aload_n hx hb dX9_readEdge_139 rfl (lv_at hl 0 rfl) ?_
        refine va_calli (va_runV (As := []) (rest := []) ⟨hx, hb, hml, hown, hts⟩ (c_M_isGood l dC dI _ ad ck x0 x16 x18 x19 g_133 g_134 g_135 g_136 x24 x25 g_137 g_138 1 x29 x30 x33 x45 x46 x52 x53 x61 x62 x63 x65 x66 f1 f2 f3 q4 q_12 q_24 g_39 g_132 g_40 g_37 g_38 m12_0 m12_1 m13_0 m13_1 m14_0 m14_1 m15_0 m15_1 f17 q31 f32 f34 f35 f36 f37 q38 f39 f40 f41 m42_0 m42_1 f43 f44 f47 f48 f49 f50 f51 q54 q55 q56 f57 q58 f59 f60 f64 hx16 hx18 hx19 hg_134 hg_135 hg_137 (Nat.le_of_ble_eq_true rfl) hx29 hx30 hx33 hx46 hx52 hx53 hx61 hx62 hx63 hx65 hm12_0 hm12_1 hm13_0 hm13_1 hm14_0 (Nat.le_trans hm14_1 (Nat.le_of_ble_eq_true rfl)) hm15_0 hm15_1 hm42_0 hm42_1) (cwV 0 hts g_M_readEdge_1_M_isGood rfl rfl rfl (by decide +kernel) ⟨Nat.le_of_ble_eq_true rfl, Nat.le_of_ble_eq_true rfl⟩) ⟨pu_bl, va_recv hK hP (ci := 9) (q0 := 0) rfl rfl, pu_in hP hK hD⟩ rfl rfl hl.1 rfl (lv_room (Nat.le_of_ble_eq_true rfl)) dX9_readEdge_140 ⟨Nat.le_of_ble_eq_true rfl, Nat.le_of_ble_eq_true rfl⟩) hS (fun q _ h => pu_fr hS hA q h) (pu_fr hS hA) (fun r_141 u t H1 locs ht hvm hw hB hz1 hk1 hS => ?_)
        have hP := pu_keep hP hk1
        clear hk1 hz1 ht hvm
        generalize H1 = H at hP hS ⊢
        obtain ⟨u_142, hu_142, rfl, iu_142⟩ := hw
        refine pu_join (fun H locs ls st => st = [] ∧ mu g_134 g_135 ≤ mu x21 x22 ∧ va_P (dC, dI) vwCl (mo_w ad ck x0 (nI x16) (nI x18) (nI x19) g_133 (nI g_134) (nI g_135) g_136 x24 x25 (nI g_137) g_138 1 (nI x29) (nI x30) (nI x33) x45 (nI x46) (nI x52) (nI x53) (nI x61) (nI x62) (nI x63) (nI x65) x66 f1 f2 f3 (bN 3 q4) (bN 7 q_12) (bN 7 q_24) (bN 4 g_39) g_132 (bN 2 g_40) (bH g_37) g_38 (b2 m12_0 m12_1) (b2 m13_0 m13_1) (b2 m14_0 m14_1) (b2m m15_0 m15_1) f17 (bA 159 q31) f32 f34 f35 f36 f37 (bN 7 q38) f39 f40 f41 (b2 m42_0 m42_1) f43 f44 f47 f48 f49 f50 f51 (bN 13 q54) (bN 120 q55) (bN 120 q56) f57 (bN 120 q58) f59 f60 f64) H ∧ va_D A (mo_w ad ck x0 (nI x16) (nI x18) (nI x19) g_133 (nI g_134) (nI g_135) g_136 x24 x25 (nI g_137) g_138 1 (nI x29) (nI x30) (nI x33) x45 (nI x46) (nI x52) (nI x53) (nI x61) (nI x62) (nI x63) (nI x65) x66 f1 f2 f3 (bN 3 q4) (bN 7 q_12) (bN 7 q_24) (bN 4 g_39) g_132 (bN 2 g_40) (bH g_37) g_38 (b2 m12_0 m12_1) (b2 m13_0 m13_1) (b2 m14_0 m14_1) (b2m m15_0 m15_1) f17 (bA 159 q31) f32 f34 f35 f36 f37 (bN 7 q38) f39 f40 f41 (b2 m42_0 m42_1) f43 f44 f47 f48 f49 f50 f51 (bN 13 q54) (bN 120 q55) (bN 120 q56) f57 (bN 120 q58) f59 f60 f64) ∧ va_S A s.heap H locs ∧ lv_has ls 3 [(0, .ref (ad 0)), (1, .int (nI (14 + m14_1)))]) 215 ?_ (fun j_144 => ?_)
        · rintro H locs ls st ⟨rfl, he_143, hP, hD, hS, hl⟩
          refine lv_aload_n hx hb dX9_readEdge_215 rfl (lv_at hl 0 rfl) ?_
          refine va_get (D := (dC, dI)) (ci := 9) (v := .ref (ad 14)) (C := RX9) (T := TX9) (N := 67) hx hb hts hiX9 hown hK hP 0 rfl rfl 14 (by decide) v_2 (fun _ h9 => h9) rfl dX9_readEdge_216 ?_
          refine lv_aload_n hx hb dX9_readEdge_219 rfl (lv_at hl 0 rfl) ?_
          refine va_get (D := (dC, dI)) (ci := 9) (v := .int 1) (C := RX9) (T := TX9) (N := 67) hx hb hts hiX9 hown hK hP 0 rfl rfl 28 (by decide) v_1 (fun _ h9 => h9) rfl dX9_readEdge_220 ?_
          refine lv_dup2_11 hx hb dX9_readEdge_223 rfl rfl ?_
          refine va_iald hx hb hK hP 14 13 rfl rfl (vp_in_nI (n := 1) (Nat.le_of_ble_eq_true rfl) (Nat.le_of_ble_eq_true rfl)) dX9_readEdge_224 ?_
          refine lv_topi (fun y_145 ey_145 => ?_)
          have qy_145 := ey_145.trans b2_1
          clear ey_145
          obtain rfl : y_145 = nI m14_1 := qy_145
          refine lv_iconst (v := 1) hx hb dX9_readEdge_225 (by decide) ?_
          refine lv_iadd hx hb dX9_readEdge_226 ?_
          refine lv_topi (fun y_146 ey_146 => ?_)
          obtain rfl : y_146 = (nI (m14_1 + 1)) := ey_146.trans (nI_add m14_1 1)
          refine va_iast hx hb hK hP hD hS 14 13 rfl rfl (vp_in_nI (n := 1) (Nat.le_of_ble_eq_true rfl) (Nat.le_of_ble_eq_true rfl)) dX9_readEdge_227 (fun H locs hP hD hS => ?_)
          have hP : va_P (dC, dI) vwCl (mo_w ad ck x0 (nI x16) (nI x18) (nI x19) g_133 (nI g_134) (nI g_135) g_136 x24 x25 (nI g_137) g_138 1 (nI x29) (nI x30) (nI x33) x45 (nI x46) (nI x52) (nI x53) (nI x61) (nI x62) (nI x63) (nI x65) x66 f1 f2 f3 (bN 3 q4) (bN 7 q_12) (bN 7 q_24) (bN 4 g_39) g_132 (bN 2 g_40) (bH g_37) g_38 (b2 m12_0 m12_1) (b2 m13_0 m13_1) (b2 m14_0 (m14_1 + 1)) (b2m m15_0 m15_1) f17 (bA 159 q31) f32 f34 f35 f36 f37 (bN 7 q38) f39 f40 f41 (b2 m42_0 m42_1) f43 f44 f47 f48 f49 f50 f51 (bN 13 q54) (bN 120 q55) (bN 120 q56) f57 (bN 120 q58) f59 f60 f64) H := by rw [← b2_up1 (a := m14_0) (b := m14_1) (v := (m14_1 + 1))]; exact hP
          have hD : va_D A (mo_w ad ck x0 (nI x16) (nI x18) (nI x19) g_133 (nI g_134) (nI g_135) g_136 x24 x25 (nI g_137) g_138 1 (nI x29) (nI x30) (nI x33) x45 (nI x46) (nI x52) (nI x53) (nI x61) (nI x62) (nI x63) (nI x65) x66 f1 f2 f3 (bN 3 q4) (bN 7 q_12) (bN 7 q_24) (bN 4 g_39) g_132 (bN 2 g_40) (bH g_37) g_38 (b2 m12_0 m12_1) (b2 m13_0 m13_1) (b2 m14_0 (m14_1 + 1)) (b2m m15_0 m15_1) f17 (bA 159 q31) f32 f34 f35 f36 f37 (bN 7 q38) f39 f40 f41 (b2 m42_0 m42_1) f43 f44 f47 f48 f49 f50 f51 (bN 13 q54) (bN 120 q55) (bN 120 q56) f57 (bN 120 q58) f59 f60 f64) := by rw [← b2_up1 (a := m14_0) (b := m14_1) (v := (m14_1 + 1))]; exact hD
          exact W.vret hx hb hr (fun t ht hW => ⟨⟨(), rfl, trivial, ⟨g_37, g_38, q_12, q_24, g_39, g_132, g_40, (m14_1 + 1), g_133, g_134, g_135, g_136, g_137, g_138, ⟨by rw [ht]; exact hP, va_K.moved hW.alike hK, hD⟩, (by omega), hg_134, hg_135, hg_137, by omega⟩⟩, hS.F ht⟩) hS.2.2 dX9_readEdge_228
        refine lv_if_eq (tgt := 215) hx hb dX9_readEdge_143 (by decide) (fun c_147 => ?_) (fun c_147 => ?_)
        · have c_147 : u_142 = 0 := (nI_eq (a := u_142) (b := 0) (Nat.lt_of_le_of_lt hu_142 (Nat.le_of_ble_eq_true rfl)) (Nat.le_of_ble_eq_true rfl)).mp c_147
          exact j_144 _ _ _ _ ⟨rfl, by omega, hP, hD, hS, lv_sub hl [0, 1] rfl⟩
        · have c_147 : ¬ u_142 = 0 := fun z => c_147 ((nI_eq (a := u_142) (b := 0) (Nat.lt_of_le_of_lt hu_142 (Nat.le_of_ble_eq_true rfl)) (Nat.le_of_ble_eq_true rfl)).mpr z)
          refine lv_aload_n hx hb dX9_readEdge_146 rfl (lv_at hl 0 rfl) ?_
          refine lv_ldc hx hb hown v_16 dX9_readEdge_147 ?_
          refine va_calli (va_runV (As := [.int 19057844]) (rest := []) ⟨hx, hb, hml, hown, hts⟩ (c_M_isWord l dC dI _ ad ck x0 x16 x18 x19 g_133 g_134 g_135 g_136 x24 x25 g_137 g_138 1 x29 x30 x33 x45 x46 x52 x53 x61 x62 x63 x65 x66 f1 f2 f3 q4 q_12 q_24 g_39 g_132 g_40 g_37 g_38 m12_0 m12_1 m13_0 m13_1 m14_0 m14_1 m15_0 m15_1 f17 q31 f32 f34 f35 f36 f37 q38 f39 f40 f41 m42_0 m42_1 f43 f44 f47 f48 f49 f50 f51 q54 q55 q56 f57 q58 f59 f60 f64 19057844 hx16 hx18 hx19 hg_134 hg_135 hg_137 (Nat.le_of_ble_eq_true rfl) hx29 hx30 hx33 hx46 hx52 hx53 hx61 hx62 hx63 hx65 hm12_0 hm12_1 hm13_0 hm13_1 hm14_0 (Nat.le_trans hm14_1 (Nat.le_of_ble_eq_true rfl)) hm15_0 hm15_1 hm42_0 hm42_1) (cwV 1 hts g_M_readEdge_1_M_isWord rfl rfl rfl (by decide +kernel) ⟨Nat.le_of_ble_eq_true rfl, Nat.le_of_ble_eq_true rfl⟩) ⟨pu_bl, va_recv hK hP (ci := 9) (q0 := 0) rfl rfl, pu_in hP hK hD⟩ rfl rfl hl.1 rfl (lv_room (Nat.le_of_ble_eq_true rfl)) dX9_readEdge_149 ⟨Nat.le_of_ble_eq_true rfl, Nat.le_of_ble_eq_true rfl⟩) hS (fun q _ h => pu_fr hS hA q h) (pu_fr hS hA) (fun r_148 u t H1 locs ht hvm hw hB hz1 hk1 hS => ?_)
          have hP := pu_keep hP hk1
          clear hk1 hz1 ht hvm
          generalize H1 = H at hP hS ⊢
          obtain ⟨u_149, hu_149, rfl, iu_149⟩ := hw
          refine lv_if_eq (tgt := 215) hx hb dX9_readEdge_152 (by decide) (fun c_150 => ?_) (fun c_150 => ?_)
          · have c_150 : u_149 = 0 := (nI_eq (a := u_149) (b := 0) (Nat.lt_of_le_of_lt hu_149 (Nat.le_of_ble_eq_true rfl)) (Nat.le_of_ble_eq_true rfl)).mp c_150
            exact j_144 _ _ _ _ ⟨rfl, by omega, hP, hD, hS, lv_sub hl [0, 1] rfl⟩
          · have c_150 : ¬ u_149 = 0 := fun z => c_150 ((nI_eq (a := u_149) (b := 0) (Nat.lt_of_le_of_lt hu_149 (Nat.le_of_ble_eq_true rfl)) (Nat.le_of_ble_eq_true rfl)).mpr z)
            refine lv_aload_n hx hb dX9_readEdge_155 rfl (lv_at hl 0 rfl) ?_
            have hFc := pu_free hD hS hA
            refine va_callv (va_runV (As := []) (rest := []) ⟨hx, hb, hml, hown, hts⟩ (c_M_next l dC dI _ ad ck x0 x16 x18 x19 g_133 g_134 g_135 g_136 x24 x25 g_137 g_138 1 x29 x30 x33 x45 x46 x52 x53 x61 x62 x63 x65 x66 f1 f2 f3 q4 q_12 q_24 g_39 g_132 g_40 g_37 g_38 m12_0 m12_1 m13_0 m13_1 m14_0 m14_1 m15_0 m15_1 f17 q31 f32 f34 f35 f36 f37 q38 f39 f40 f41 m42_0 m42_1 f43 f44 f47 f48 f49 f50 f51 q54 q55 q56 f57 q58 f59 f60 f64 hx16 hx18 hx19 hg_134 hg_135 hg_137 (Nat.le_of_ble_eq_true rfl) hx29 hx30 hx33 hx46 hx52 hx53 hx61 hx62 hx63 hx65 hm12_0 hm12_1 hm13_0 hm13_1 hm14_0 (Nat.le_trans hm14_1 (Nat.le_of_ble_eq_true rfl)) hm15_0 hm15_1 hm42_0 hm42_1) (cwV 0 hts g_M_readEdge_1_M_next rfl rfl rfl (by decide +kernel) ⟨Nat.le_of_ble_eq_true rfl, Nat.le_of_ble_eq_true rfl⟩) ⟨pu_bl, va_recv hK hP (ci := 9) (q0 := 0) rfl rfl, pu_in hP hK hD⟩ rfl rfl hl.1 rfl (lv_room (Nat.le_of_ble_eq_true rfl)) dX9_readEdge_156 ⟨Nat.le_of_ble_eq_true rfl, Nat.le_of_ble_eq_true rfl⟩) hS (fun q _ h => hFc q h) hFc (fun u t H1 locs ht hvm hw hB hz1 hk1 hS => ?_)
            obtain ⟨z20_152, z21_153, z22_154, z23_155, ⟨hP1, -, hD1⟩, hz21_153, hz22_154, xr_151_0, xr_151_1⟩ := hB
            rw [ht] at hP1
            have hP := hP1
            have hD := pu_all hFc hD1
            clear hP1 hD1 hFc
            clear hk1 hz1 ht hvm
            generalize H1 = H at hP hS ⊢
            refine lv_aload_n hx hb dX9_readEdge_159 rfl (lv_at hl 0 rfl) ?_
            have hFc := pu_free hD hS hA
            refine va_calli (va_runV (As := []) (rest := []) ⟨hx, hb, hml, hown, hts⟩ (c_M_toldClock_1 l dC dI _ ad ck x0 x16 x18 x19 z20_152 z21_153 z22_154 z23_155 x24 x25 g_137 g_138 x29 x30 x33 x45 x46 x52 x53 x61 x62 x63 x65 x66 f1 f2 f3 q4 q_12 q_24 g_39 g_132 g_40 g_37 g_38 m12_0 m12_1 m13_0 m13_1 m14_0 m14_1 m15_0 m15_1 f17 q31 f32 f34 f35 f36 f37 q38 f39 f40 f41 m42_0 m42_1 f43 f44 f47 f48 f49 f50 f51 q54 q55 q56 f57 q58 f59 f60 f64 hx16 hx18 hx19 hz21_153 hz22_154 hg_137 hx29 hx30 hx33 hx46 hx52 hx53 hx61 hx62 hx63 hx65 hm12_0 hm12_1 hm13_0 hm13_1 hm14_0 (Nat.le_trans hm14_1 (Nat.le_of_ble_eq_true rfl)) hm15_0 hm15_1 hm42_0 hm42_1) (cwV 0 hts g_M_readEdge_1_M_toldClock_1 rfl rfl rfl (by decide +kernel) ⟨Nat.le_of_ble_eq_true rfl, Nat.le_of_ble_eq_true rfl⟩) ⟨pu_bl, va_recv hK hP (ci := 9) (q0 := 0) rfl rfl, pu_in hP hK hD⟩ rfl rfl hl.1 rfl (lv_room (Nat.le_of_ble_eq_true rfl)) dX9_readEdge_160 ⟨Nat.le_of_ble_eq_true rfl, Nat.le_of_ble_eq_true rfl⟩) hS (fun q _ h => hFc q h) hFc (fun r_156 u t H1 locs ht hvm hw hB hz1 hk1 hS => ?_)
            obtain ⟨z26_157, z27_158, ⟨hP1, -, hD1⟩, hz26_157⟩ := hB
            rw [ht] at hP1
            have hP := hP1
            have hD := pu_all hFc hD1
            clear hP1 hD1 hFc
            clear hk1 hz1 ht hvm
            generalize H1 = H at hP hS ⊢
            obtain ⟨u_159, hu_159, rfl⟩ := hw
            refine lv_istore_n (lv' := [(2, .int (nI u_159)), (0, .ref (ad 0)), (1, .int (nI (14 + m14_1)))]) hx hb dX9_readEdge_163 rfl hl (by decide) rfl (fun ls hl => ?_)
            refine lv_aload_n hx hb dX9_readEdge_164 rfl (lv_at hl 1 rfl) ?_
            refine va_calli (va_runV (As := []) (rest := []) ⟨hx, hb, hml, hown, hts⟩ (c_M_isGood l dC dI _ ad ck x0 x16 x18 x19 z20_152 z21_153 z22_154 z23_155 x24 x25 z26_157 z27_158 1 x29 x30 x33 x45 x46 x52 x53 x61 x62 x63 x65 x66 f1 f2 f3 q4 q_12 q_24 g_39 g_132 g_40 g_37 g_38 m12_0 m12_1 m13_0 m13_1 m14_0 m14_1 m15_0 m15_1 f17 q31 f32 f34 f35 f36 f37 q38 f39 f40 f41 m42_0 m42_1 f43 f44 f47 f48 f49 f50 f51 q54 q55 q56 f57 q58 f59 f60 f64 hx16 hx18 hx19 hz21_153 hz22_154 hz26_157 (Nat.le_of_ble_eq_true rfl) hx29 hx30 hx33 hx46 hx52 hx53 hx61 hx62 hx63 hx65 hm12_0 hm12_1 hm13_0 hm13_1 hm14_0 (Nat.le_trans hm14_1 (Nat.le_of_ble_eq_true rfl)) hm15_0 hm15_1 hm42_0 hm42_1) (cwV 0 hts g_M_readEdge_1_M_isGood rfl rfl rfl (by decide +kernel) ⟨Nat.le_of_ble_eq_true rfl, Nat.le_of_ble_eq_true rfl⟩) ⟨pu_bl, va_recv hK hP (ci := 9) (q0 := 0) rfl rfl, pu_in hP hK hD⟩ rfl rfl hl.1 rfl (lv_room (Nat.le_of_ble_eq_true rfl)) dX9_readEdge_165 ⟨Nat.le_of_ble_eq_true rfl, Nat.le_of_ble_eq_true rfl⟩) hS (fun q _ h => pu_fr hS hA q h) (pu_fr hS hA) (fun r_160 u t H1 locs ht hvm hw hB hz1 hk1 hS => ?_)
            have hP := pu_keep hP hk1
            clear hk1 hz1 ht hvm
            generalize H1 = H at hP hS ⊢
            obtain ⟨u_161, hu_161, rfl, iu_161⟩ := hw
            refine pu_join (fun H locs ls st => ∃ (g_162 : Nat) (g_163 : Int32), st = [] ∧ g_162 ≤ 6 ∧ mu z21_153 z22_154 ≤ mu x21 x22 ∧ mu z21_153 z22_154 < mu g_134 g_135 ∧ va_P (dC, dI) vwCl (mo_w ad ck x0 (nI x16) (nI x18) (nI x19) z20_152 (nI z21_153) (nI z22_154) z23_155 x24 x25 (nI g_162) g_163 1 (nI x29) (nI x30) (nI x33) x45 (nI x46) (nI x52) (nI x53) (nI x61) (nI x62) (nI x63) (nI x65) x66 f1 f2 f3 (bN 3 q4) (bN 7 q_12) (bN 7 q_24) (bN 4 g_39) g_132 (bN 2 g_40) (bH g_37) g_38 (b2 m12_0 m12_1) (b2 m13_0 m13_1) (b2 m14_0 m14_1) (b2m m15_0 m15_1) f17 (bA 159 q31) f32 f34 f35 f36 f37 (bN 7 q38) f39 f40 f41 (b2 m42_0 m42_1) f43 f44 f47 f48 f49 f50 f51 (bN 13 q54) (bN 120 q55) (bN 120 q56) f57 (bN 120 q58) f59 f60 f64) H ∧ va_D A (mo_w ad ck x0 (nI x16) (nI x18) (nI x19) z20_152 (nI z21_153) (nI z22_154) z23_155 x24 x25 (nI g_162) g_163 1 (nI x29) (nI x30) (nI x33) x45 (nI x46) (nI x52) (nI x53) (nI x61) (nI x62) (nI x63) (nI x65) x66 f1 f2 f3 (bN 3 q4) (bN 7 q_12) (bN 7 q_24) (bN 4 g_39) g_132 (bN 2 g_40) (bH g_37) g_38 (b2 m12_0 m12_1) (b2 m13_0 m13_1) (b2 m14_0 m14_1) (b2m m15_0 m15_1) f17 (bA 159 q31) f32 f34 f35 f36 f37 (bN 7 q38) f39 f40 f41 (b2 m42_0 m42_1) f43 f44 f47 f48 f49 f50 f51 (bN 13 q54) (bN 120 q55) (bN 120 q56) f57 (bN 120 q58) f59 f60 f64) ∧ va_S A s.heap H locs ∧ lv_has ls 3 [(0, .ref (ad 0)), (1, .int (nI (14 + m14_1))), (2, .int (nI u_159))]) 189 ?_ (fun j_166 => ?_)
            · rintro H locs ls st ⟨g_162, g_163, rfl, hg_162, he_164, he_165, hP, hD, hS, hl⟩
              refine lv_aload_n hx hb dX9_readEdge_189 rfl (lv_at hl 0 rfl) ?_
              refine va_get (D := (dC, dI)) (ci := 9) (v := .ref (ad 8)) (C := RX9) (T := TX9) (N := 67) hx hb hts hiX9 hown hK hP 0 rfl rfl 8 (by decide) v_15 (fun _ h9 => h9) rfl dX9_readEdge_190 ?_
              refine lv_iload_n hx hb dX9_readEdge_193 rfl (lv_at hl 1 rfl) ?_
              refine lv_dup2_11 hx hb dX9_readEdge_194 rfl rfl ?_
              refine va_iald hx hb hK hP 8 7 rfl rfl (vp_in_nI (n := (14 + m14_1)) (by omega) (Nat.le_of_ble_eq_true rfl)) dX9_readEdge_195 ?_
              refine lv_topi (fun y_167 ey_167 => ?_)
              refine lv_iconst (v := 1) hx hb dX9_readEdge_196 (by decide) ?_
              refine lv_iload_n hx hb dX9_readEdge_197 rfl (lv_at hl 2 rfl) ?_
              refine lv_ishl hx hb dX9_readEdge_198 ?_
              refine lv_topi (fun y_168 ey_168 => ?_)
              refine lv_ior hx hb dX9_readEdge_199 ?_
              refine lv_topi (fun y_169 ey_169 => ?_)
              refine va_iast hx hb hK hP hD hS 8 7 rfl rfl (vp_in_nI (n := (14 + m14_1)) (by omega) (Nat.le_of_ble_eq_true rfl)) dX9_readEdge_200 (fun H locs hP hD hS => ?_)
              have hP : va_P (dC, dI) vwCl (mo_w ad ck x0 (nI x16) (nI x18) (nI x19) z20_152 (nI z21_153) (nI z22_154) z23_155 x24 x25 (nI g_162) g_163 1 (nI x29) (nI x30) (nI x33) x45 (nI x46) (nI x52) (nI x53) (nI x61) (nI x62) (nI x63) (nI x65) x66 f1 f2 f3 (bN 3 q4) (bN 7 q_12) (bN 7 q_24) (bN 4 g_39) (upd g_132 ((nI (14 + m14_1)) : Int32).toNatClampNeg y_169) (bN 2 g_40) (bH g_37) g_38 (b2 m12_0 m12_1) (b2 m13_0 m13_1) (b2 m14_0 m14_1) (b2m m15_0 m15_1) f17 (bA 159 q31) f32 f34 f35 f36 f37 (bN 7 q38) f39 f40 f41 (b2 m42_0 m42_1) f43 f44 f47 f48 f49 f50 f51 (bN 13 q54) (bN 120 q55) (bN 120 q56) f57 (bN 120 q58) f59 f60 f64) H := hP
              have hD : va_D A (mo_w ad ck x0 (nI x16) (nI x18) (nI x19) z20_152 (nI z21_153) (nI z22_154) z23_155 x24 x25 (nI g_162) g_163 1 (nI x29) (nI x30) (nI x33) x45 (nI x46) (nI x52) (nI x53) (nI x61) (nI x62) (nI x63) (nI x65) x66 f1 f2 f3 (bN 3 q4) (bN 7 q_12) (bN 7 q_24) (bN 4 g_39) (upd g_132 ((nI (14 + m14_1)) : Int32).toNatClampNeg y_169) (bN 2 g_40) (bH g_37) g_38 (b2 m12_0 m12_1) (b2 m13_0 m13_1) (b2 m14_0 m14_1) (b2m m15_0 m15_1) f17 (bA 159 q31) f32 f34 f35 f36 f37 (bN 7 q38) f39 f40 f41 (b2 m42_0 m42_1) f43 f44 f47 f48 f49 f50 f51 (bN 13 q54) (bN 120 q55) (bN 120 q56) f57 (bN 120 q58) f59 f60 f64) := hD
              refine lv_aload_n hx hb dX9_readEdge_201 rfl (lv_at hl 0 rfl) ?_
              refine va_calli (va_runV (As := []) (rest := []) ⟨hx, hb, hml, hown, hts⟩ (c_M_isGood l dC dI _ ad ck x0 x16 x18 x19 z20_152 z21_153 z22_154 z23_155 x24 x25 g_162 g_163 1 x29 x30 x33 x45 x46 x52 x53 x61 x62 x63 x65 x66 f1 f2 f3 q4 q_12 q_24 g_39 (upd g_132 ((nI (14 + m14_1)) : Int32).toNatClampNeg y_169) g_40 g_37 g_38 m12_0 m12_1 m13_0 m13_1 m14_0 m14_1 m15_0 m15_1 f17 q31 f32 f34 f35 f36 f37 q38 f39 f40 f41 m42_0 m42_1 f43 f44 f47 f48 f49 f50 f51 q54 q55 q56 f57 q58 f59 f60 f64 hx16 hx18 hx19 hz21_153 hz22_154 hg_162 (Nat.le_of_ble_eq_true rfl) hx29 hx30 hx33 hx46 hx52 hx53 hx61 hx62 hx63 hx65 hm12_0 hm12_1 hm13_0 hm13_1 hm14_0 (Nat.le_trans hm14_1 (Nat.le_of_ble_eq_true rfl)) hm15_0 hm15_1 hm42_0 hm42_1) (cwV 0 hts g_M_readEdge_1_M_isGood rfl rfl rfl (by decide +kernel) ⟨Nat.le_of_ble_eq_true rfl, Nat.le_of_ble_eq_true rfl⟩) ⟨pu_bl, va_recv hK hP (ci := 9) (q0 := 0) rfl rfl, pu_in hP hK hD⟩ rfl rfl hl.1 rfl (lv_room (Nat.le_of_ble_eq_true rfl)) dX9_readEdge_202 ⟨Nat.le_of_ble_eq_true rfl, Nat.le_of_ble_eq_true rfl⟩) hS (fun q _ h => pu_fr hS hA q h) (pu_fr hS hA) (fun r_170 u t H1 locs ht hvm hw hB hz1 hk1 hS => ?_)
              have hP := pu_keep hP hk1
              clear hk1 hz1 ht hvm
              generalize H1 = H at hP hS ⊢
              obtain ⟨u_171, hu_171, rfl, iu_171⟩ := hw
              refine pu_join (fun H locs ls st => ∃ (g_172 : Int32) (g_173 : Nat) (g_174 : Nat) (g_175 : Int32), st = [] ∧ g_173 ≤ 900 ∧ g_174 ≤ 4 ∧ mu g_173 g_174 ≤ mu x21 x22 ∧ mu g_173 g_174 < mu g_134 g_135 ∧ va_P (dC, dI) vwCl (mo_w ad ck x0 (nI x16) (nI x18) (nI x19) g_172 (nI g_173) (nI g_174) g_175 x24 x25 (nI g_162) g_163 1 (nI x29) (nI x30) (nI x33) x45 (nI x46) (nI x52) (nI x53) (nI x61) (nI x62) (nI x63) (nI x65) x66 f1 f2 f3 (bN 3 q4) (bN 7 q_12) (bN 7 q_24) (bN 4 g_39) (upd g_132 ((nI (14 + m14_1)) : Int32).toNatClampNeg y_169) (bN 2 g_40) (bH g_37) g_38 (b2 m12_0 m12_1) (b2 m13_0 m13_1) (b2 m14_0 m14_1) (b2m m15_0 m15_1) f17 (bA 159 q31) f32 f34 f35 f36 f37 (bN 7 q38) f39 f40 f41 (b2 m42_0 m42_1) f43 f44 f47 f48 f49 f50 f51 (bN 13 q54) (bN 120 q55) (bN 120 q56) f57 (bN 120 q58) f59 f60 f64) H ∧ va_D A (mo_w ad ck x0 (nI x16) (nI x18) (nI x19) g_172 (nI g_173) (nI g_174) g_175 x24 x25 (nI g_162) g_163 1 (nI x29) (nI x30) (nI x33) x45 (nI x46) (nI x52) (nI x53) (nI x61) (nI x62) (nI x63) (nI x65) x66 f1 f2 f3 (bN 3 q4) (bN 7 q_12) (bN 7 q_24) (bN 4 g_39) (upd g_132 ((nI (14 + m14_1)) : Int32).toNatClampNeg y_169) (bN 2 g_40) (bH g_37) g_38 (b2 m12_0 m12_1) (b2 m13_0 m13_1) (b2 m14_0 m14_1) (b2m m15_0 m15_1) f17 (bA 159 q31) f32 f34 f35 f36 f37 (bN 7 q38) f39 f40 f41 (b2 m42_0 m42_1) f43 f44 f47 f48 f49 f50 f51 (bN 13 q54) (bN 120 q55) (bN 120 q56) f57 (bN 120 q58) f59 f60 f64) ∧ va_S A s.heap H locs ∧ lv_has ls 3 [(0, .ref (ad 0)), (1, .int (nI (14 + m14_1))), (2, .int (nI u_159))]) 212 ?_ (fun j_178 => ?_)
              · rintro H locs ls st ⟨g_172, g_173, g_174, g_175, rfl, hg_173, hg_174, he_176, he_177, hP, hD, hS, hl⟩
                refine lv_goto (tgt := 139) hx hb dX9_readEdge_212 (by decide) ?_
                exact ih_140 (mu g_173 g_174) (by omega) _ _ _ ⟨(upd g_132 ((nI (14 + m14_1)) : Int32).toNatClampNeg y_169), g_172, g_173, g_174, g_175, g_162, g_163, rfl, hg_173, hg_174, hg_162, by omega, hP, hD, hS, lv_sub hl [0, 1] rfl⟩
              refine lv_if_eq (tgt := 212) hx hb dX9_readEdge_205 (by decide) (fun c_179 => ?_) (fun c_179 => ?_)
              · have c_179 : u_171 = 0 := (nI_eq (a := u_171) (b := 0) (Nat.lt_of_le_of_lt hu_171 (Nat.le_of_ble_eq_true rfl)) (Nat.le_of_ble_eq_true rfl)).mp c_179
                exact j_178 _ _ _ _ ⟨z20_152, z21_153, z22_154, z23_155, rfl, hz21_153, hz22_154, by omega, by omega, hP, hD, hS, lv_sub hl [0, 1, 2] rfl⟩
              · have c_179 : ¬ u_171 = 0 := fun z => c_179 ((nI_eq (a := u_171) (b := 0) (Nat.lt_of_le_of_lt hu_171 (Nat.le_of_ble_eq_true rfl)) (Nat.le_of_ble_eq_true rfl)).mpr z)
                refine lv_aload_n hx hb dX9_readEdge_208 rfl (lv_at hl 0 rfl) ?_
                have hFc := pu_free hD hS hA
                refine va_callv (va_runV (As := []) (rest := []) ⟨hx, hb, hml, hown, hts⟩ (c_M_next l dC dI _ ad ck x0 x16 x18 x19 z20_152 z21_153 z22_154 z23_155 x24 x25 g_162 g_163 1 x29 x30 x33 x45 x46 x52 x53 x61 x62 x63 x65 x66 f1 f2 f3 q4 q_12 q_24 g_39 (upd g_132 ((nI (14 + m14_1)) : Int32).toNatClampNeg y_169) g_40 g_37 g_38 m12_0 m12_1 m13_0 m13_1 m14_0 m14_1 m15_0 m15_1 f17 q31 f32 f34 f35 f36 f37 q38 f39 f40 f41 m42_0 m42_1 f43 f44 f47 f48 f49 f50 f51 q54 q55 q56 f57 q58 f59 f60 f64 hx16 hx18 hx19 hz21_153 hz22_154 hg_162 (Nat.le_of_ble_eq_true rfl) hx29 hx30 hx33 hx46 hx52 hx53 hx61 hx62 hx63 hx65 hm12_0 hm12_1 hm13_0 hm13_1 hm14_0 (Nat.le_trans hm14_1 (Nat.le_of_ble_eq_true rfl)) hm15_0 hm15_1 hm42_0 hm42_1) (cwV 0 hts g_M_readEdge_1_M_next rfl rfl rfl (by decide +kernel) ⟨Nat.le_of_ble_eq_true rfl, Nat.le_of_ble_eq_true rfl⟩) ⟨pu_bl, va_recv hK hP (ci := 9) (q0 := 0) rfl rfl, pu_in hP hK hD⟩ rfl rfl hl.1 rfl (lv_room (Nat.le_of_ble_eq_true rfl)) dX9_readEdge_209 ⟨Nat.le_of_ble_eq_true rfl, Nat.le_of_ble_eq_true rfl⟩) hS (fun q _ h => hFc q h) hFc (fun u t H1 locs ht hvm hw hB hz1 hk1 hS => ?_)
                obtain ⟨z20_181, z21_182, z22_183, z23_184, ⟨hP1, -, hD1⟩, hz21_182, hz22_183, xr_180_0, xr_180_1⟩ := hB
                rw [ht] at hP1
                have hP := hP1
                have hD := pu_all hFc hD1
                clear hP1 hD1 hFc
                clear hk1 hz1 ht hvm
                generalize H1 = H at hP hS ⊢
                exact j_178 _ _ _ _ ⟨z20_181, z21_182, z22_183, z23_184, rfl, hz21_182, hz22_183, by omega, by omega, hP, hD, hS, lv_sub hl [0, 1, 2] rfl⟩
            refine lv_if_eq (tgt := 189) hx hb dX9_readEdge_168 (by decide) (fun c_185 => ?_) (fun c_185 => ?_)
            · have c_185 : u_161 = 0 := (nI_eq (a := u_161) (b := 0) (Nat.lt_of_le_of_lt hu_161 (Nat.le_of_ble_eq_true rfl)) (Nat.le_of_ble_eq_true rfl)).mp c_185
              exact j_166 _ _ _ _ ⟨z26_157, z27_158, rfl, hz26_157, by omega, by omega, hP, hD, hS, lv_sub hl [1, 2, 0] rfl⟩
            · have c_185 : ¬ u_161 = 0 := fun z => c_185 ((nI_eq (a := u_161) (b := 0) (Nat.lt_of_le_of_lt hu_161 (Nat.le_of_ble_eq_true rfl)) (Nat.le_of_ble_eq_true rfl)).mpr z)
              refine lv_aload_n hx hb dX9_readEdge_171 rfl (lv_at hl 1 rfl) ?_
              refine va_get (D := (dC, dI)) (ci := 9) (v := .ref (ad 8)) (C := RX9) (T := TX9) (N := 67) hx hb hts hiX9 hown hK hP 0 rfl rfl 8 (by decide) v_15 (fun _ h9 => h9) rfl dX9_readEdge_172 ?_
              refine lv_iload_n hx hb dX9_readEdge_175 rfl (lv_at hl 2 rfl) ?_
              refine va_iald hx hb hK hP 8 7 rfl rfl (vp_in_nI (n := (14 + m14_1)) (by omega) (Nat.le_of_ble_eq_true rfl)) dX9_readEdge_176 ?_
              refine lv_topi (fun y_186 ey_186 => ?_)
              refine lv_iload_n hx hb dX9_readEdge_177 rfl (lv_at hl 0 rfl) ?_
              refine va_calli (va_runS (As := [.int y_186, .int (nI u_159)]) (rest := []) ⟨hx, hb, hml, hown, hts⟩ (c_X9_isOf l dC dI _ y_186 (nI u_159)) (va_cwS 2 hts g_M_readEdge_1_X9_isOf rfl rfl rfl (by decide +kernel) ⟨Nat.le_of_ble_eq_true rfl, Nat.le_of_ble_eq_true rfl⟩) ⟨pu_bl, pu_in (hP.sub [] rfl) (hK.sub [] rfl) (hD.sub [] (by decide) rfl)⟩ rfl rfl hl.1 rfl (lv_room (Nat.le_of_ble_eq_true rfl)) dX9_readEdge_178 ⟨Nat.le_of_ble_eq_true rfl, Nat.le_of_ble_eq_true rfl⟩) hS (fun q _ h => pu_fr hS hA q h) (pu_fr hS hA) (fun r_187 u t H1 locs ht hvm hw hB hz1 hk1 hS => ?_)
              have hP := pu_keep hP hk1
              clear hk1 hz1 ht hvm
              generalize H1 = H at hP hS ⊢
              obtain ⟨u_188, hu_188, rfl⟩ := pu_bn hw
              refine lv_if_eq (tgt := 189) hx hb dX9_readEdge_181 (by decide) (fun c_189 => ?_) (fun c_189 => ?_)
              · have c_189 : u_188 = 0 := (nI_eq (a := u_188) (b := 0) (Nat.lt_of_le_of_lt hu_188 (Nat.le_of_ble_eq_true rfl)) (Nat.le_of_ble_eq_true rfl)).mp c_189
                exact j_166 _ _ _ _ ⟨z26_157, z27_158, rfl, hz26_157, by omega, by omega, hP, hD, hS, lv_sub hl [1, 2, 0] rfl⟩
              · have c_189 : ¬ u_188 = 0 := fun z => c_189 ((nI_eq (a := u_188) (b := 0) (Nat.lt_of_le_of_lt hu_188 (Nat.le_of_ble_eq_true rfl)) (Nat.le_of_ble_eq_true rfl)).mpr z)
                refine lv_aload_n hx hb dX9_readEdge_184 rfl (lv_at hl 1 rfl) ?_
                refine lv_iconst (v := 5) hx hb dX9_readEdge_185 (by decide) ?_
                have hFc := pu_free hD hS hA
                refine va_callv (va_runV (As := [.int 5]) (rest := []) ⟨hx, hb, hml, hown, hts⟩ (c_M_fails l dC dI _ ad ck x0 x16 x18 x19 z20_152 z21_153 z22_154 z23_155 x24 x25 z26_157 z27_158 1 x29 x30 x33 x45 x46 x52 x53 x61 x62 x63 x65 x66 f1 f2 f3 q4 q_12 q_24 g_39 g_132 g_40 g_37 g_38 m12_0 m12_1 m13_0 m13_1 m14_0 m14_1 m15_0 m15_1 f17 q31 f32 f34 f35 f36 f37 q38 f39 f40 f41 m42_0 m42_1 f43 f44 f47 f48 f49 f50 f51 q54 q55 q56 f57 q58 f59 f60 f64 5 hx16 hx18 hx19 hz21_153 hz22_154 hz26_157 (Nat.le_of_ble_eq_true rfl) hx29 hx30 hx33 hx46 hx52 hx53 hx61 hx62 hx63 hx65 hm12_0 hm12_1 hm13_0 hm13_1 hm14_0 (Nat.le_trans hm14_1 (Nat.le_of_ble_eq_true rfl)) hm15_0 hm15_1 hm42_0 hm42_1 (Nat.le_of_ble_eq_true rfl) (by omega)) (cwV 1 hts g_M_readEdge_1_M_fails rfl rfl rfl (by decide +kernel) ⟨Nat.le_of_ble_eq_true rfl, Nat.le_of_ble_eq_true rfl⟩) ⟨pu_bl, va_recv hK hP (ci := 9) (q0 := 0) rfl rfl, pu_in hP hK hD⟩ rfl rfl hl.1 rfl (lv_room (Nat.le_of_ble_eq_true rfl)) dX9_readEdge_186 ⟨Nat.le_of_ble_eq_true rfl, Nat.le_of_ble_eq_true rfl⟩) hS (fun q _ h => hFc q h) hFc (fun u t H1 locs ht hvm hw hB hz1 hk1 hS => ?_)
                obtain ⟨z26_191, z27_192, ⟨hP1, -, hD1⟩, hz26_191, xr_190_0⟩ := hB
                rw [ht] at hP1
                have hP := hP1
                have hD := pu_all hFc hD1
                clear hP1 hD1 hFc
                clear hk1 hz1 ht hvm
                generalize H1 = H at hP hS ⊢
                exact j_166 _ _ _ _ ⟨z26_191, z27_192, rfl, hz26_191, by omega, by omega, hP, hD, hS, lv_sub hl [1, 2, 0] rfl⟩
      · have c_123 : ¬ u_122 = 0 := fun z => c_123 ((nI_eq (a := u_122) (b := 0) (Nat.lt_of_le_of_lt hu_122 (Nat.le_of_ble_eq_true rfl)) (Nat.le_of_ble_eq_true rfl)).mpr z)
        refine lv_aload_n hx hb dX9_readEdge_79 rfl (lv_at hl 0 rfl) ?_
        refine va_get (D := (dC, dI)) (ci := 9) (v := .ref (ad 7)) (C := RX9) (T := TX9) (N := 67) hx hb hts hiX9 hown hK hP 0 rfl rfl 7 (by decide) v_14 (fun _ h9 => h9) rfl dX9_readEdge_80 ?_
        refine lv_iload_n hx hb dX9_readEdge_83 rfl (lv_at hl 1 rfl) ?_
        refine va_iald hx hb hK hP 7 6 rfl rfl (vp_in_nI (n := (14 + m14_1)) (by omega) (Nat.le_of_ble_eq_true rfl)) dX9_readEdge_84 ?_
        refine lv_topi (fun y_193 ey_193 => ?_)
        obtain ⟨u_194, hu_194, qu_194⟩ := bN_get 4 g_39 (((nI (14 + m14_1)) : Int32).toNatClampNeg)
        obtain rfl : y_193 = nI u_194 := ey_193.trans qu_194
        refine lv_iconst (v := 4) hx hb dX9_readEdge_85 (by decide) ?_
        refine lv_icmp_ne (tgt := 95) hx hb dX9_readEdge_86 (by decide) (fun c_195 => ?_) (fun c_195 => ?_)
        · have c_195 : ¬ u_194 = 4 := fun z => c_195 ((nI_eq (a := u_194) (b := 4) (Nat.lt_of_le_of_lt hu_194 (Nat.le_of_ble_eq_true rfl)) (Nat.le_of_ble_eq_true rfl)).mpr z)
          refine lv_aload_n hx hb dX9_readEdge_95 rfl (lv_at hl 0 rfl) ?_
          refine lv_bipush (v := 80) hx hb dX9_readEdge_96 (by decide) ?_
          refine lv_aload_n hx hb dX9_readEdge_98 rfl (lv_at hl 0 rfl) ?_
          refine va_get (D := (dC, dI)) (ci := 9) (v := .int 1) (C := RX9) (T := TX9) (N := 67) hx hb hts hiX9 hown hK hP 0 rfl rfl 28 (by decide) v_1 (fun _ h9 => h9) rfl dX9_readEdge_99 ?_
          refine lv_imul hx hb dX9_readEdge_102 ?_
          refine lv_topi (fun y_196 ey_196 => ?_)
          obtain rfl : y_196 = 80 := ey_196.trans (by decide)
          refine lv_iconst (v := 4) hx hb dX9_readEdge_103 (by decide) ?_
          refine lv_aload_n hx hb dX9_readEdge_104 rfl (lv_at hl 0 rfl) ?_
          refine va_get (D := (dC, dI)) (ci := 9) (v := .ref (ad 14)) (C := RX9) (T := TX9) (N := 67) hx hb hts hiX9 hown hK hP 0 rfl rfl 14 (by decide) v_2 (fun _ h9 => h9) rfl dX9_readEdge_105 ?_
          refine lv_aload_n hx hb dX9_readEdge_108 rfl (lv_at hl 0 rfl) ?_
          refine va_get (D := (dC, dI)) (ci := 9) (v := .int 1) (C := RX9) (T := TX9) (N := 67) hx hb hts hiX9 hown hK hP 0 rfl rfl 28 (by decide) v_1 (fun _ h9 => h9) rfl dX9_readEdge_109 ?_
          refine va_iald hx hb hK hP 14 13 rfl rfl (vp_in_nI (n := 1) (Nat.le_of_ble_eq_true rfl) (Nat.le_of_ble_eq_true rfl)) dX9_readEdge_112 ?_
          refine lv_topi (fun y_197 ey_197 => ?_)
          have qy_197 := ey_197.trans b2_1
          clear ey_197
          obtain rfl : y_197 = nI m14_1 := qy_197
          refine lv_imul hx hb dX9_readEdge_113 ?_
          refine lv_topi (fun y_198 ey_198 => ?_)
          obtain rfl : y_198 = (nI (4 * m14_1)) := ey_198.trans (pk_mul 4 m14_1)
          refine lv_iadd hx hb dX9_readEdge_114 ?_
          refine lv_topi (fun y_199 ey_199 => ?_)
          obtain rfl : y_199 = (nI (80 + (4 * m14_1))) := ey_199.trans (nI_add 80 (4 * m14_1))
          refine lv_aload_n hx hb dX9_readEdge_115 rfl (lv_at hl 0 rfl) ?_
          refine va_get (D := (dC, dI)) (ci := 9) (v := .ref (ad 7)) (C := RX9) (T := TX9) (N := 67) hx hb hts hiX9 hown hK hP 0 rfl rfl 7 (by decide) v_14 (fun _ h9 => h9) rfl dX9_readEdge_116 ?_
          refine lv_iload_n hx hb dX9_readEdge_119 rfl (lv_at hl 1 rfl) ?_
          refine va_iald hx hb hK hP 7 6 rfl rfl (vp_in_nI (n := (14 + m14_1)) (by omega) (Nat.le_of_ble_eq_true rfl)) dX9_readEdge_120 ?_
          refine lv_topi (fun y_200 ey_200 => ?_)
          obtain rfl : y_200 = nI u_194 := ey_200.trans qu_194
          refine lv_iadd hx hb dX9_readEdge_121 ?_
          refine lv_topi (fun y_202 ey_202 => ?_)
          obtain rfl : y_202 = (nI ((80 + (4 * m14_1)) + u_194)) := ey_202.trans (nI_add (80 + (4 * m14_1)) u_194)
          refine lv_iconst (v := 0) hx hb dX9_readEdge_122 (by decide) ?_
          have hFc := pu_free hD hS hA
          refine va_callv (va_runV (As := [.int (nI ((80 + (4 * m14_1)) + u_194)), .int 0]) (rest := []) ⟨hx, hb, hml, hown, hts⟩ (c_M_readCondition0_1 l dC dI _ ad ck x0 x16 x18 x19 g_41 g_42 g_43 g_44 x24 x25 g_45 g_46 x29 x30 x33 x45 x46 x52 x53 x61 x62 x63 x65 x66 f1 f2 f3 q4 q_12 q_24 g_39 (upd f8 ((nI (14 + m14_1)) : Int32).toNatClampNeg 0) g_40 g_37 g_38 m12_0 m12_1 m13_0 m13_1 m14_0 m14_1 m15_0 m15_1 f17 q31 f32 f34 f35 f36 f37 q38 f39 f40 f41 m42_0 m42_1 f43 f44 f47 f48 f49 f50 f51 q54 q55 q56 f57 q58 f59 f60 f64 ((80 + (4 * m14_1)) + u_194) hx16 hx18 hx19 hg_42 hg_43 hg_45 hx29 hx30 hx33 hx46 hx52 hx53 hx61 hx62 hx63 hx65 hm12_0 hm12_1 hm13_0 hm13_1 hm14_0 (Nat.le_trans hm14_1 (Nat.le_of_ble_eq_true rfl)) hm15_0 hm15_1 hm42_0 hm42_1 (by omega) (by omega)) (cwV 2 hts g_M_readEdge_1_M_readCondition0_1 rfl rfl rfl (by decide +kernel) ⟨Nat.le_of_ble_eq_true rfl, Nat.le_of_ble_eq_true rfl⟩) ⟨pu_bl, va_recv hK hP (ci := 9) (q0 := 0) rfl rfl, pu_in hP hK hD⟩ rfl rfl hl.1 rfl (lv_room (Nat.le_of_ble_eq_true rfl)) dX9_readEdge_123 ⟨Nat.le_of_ble_eq_true rfl, Nat.le_of_ble_eq_true rfl⟩) hS (fun q _ h => hFc q h) hFc (fun u t H1 locs ht hvm hw hB hz1 hk1 hS => ?_)
          obtain ⟨z10_204, z11_205, z9_206, z20_207, z21_208, z22_209, z23_210, z26_211, z27_212, ⟨hP1, -, hD1⟩, hz21_208, hz22_209, hz26_211, xr_203_0, xr_203_1⟩ := hB
          rw [ht] at hP1
          have hP := hP1
          have hD := pu_all hFc hD1
          clear hP1 hD1 hFc
          clear hk1 hz1 ht hvm
          generalize H1 = H at hP hS ⊢
          refine lv_aload_n hx hb dX9_readEdge_126 rfl (lv_at hl 0 rfl) ?_
          refine va_get (D := (dC, dI)) (ci := 9) (v := .ref (ad 7)) (C := RX9) (T := TX9) (N := 67) hx hb hts hiX9 hown hK hP 0 rfl rfl 7 (by decide) v_14 (fun _ h9 => h9) rfl dX9_readEdge_127 ?_
          refine lv_iload_n hx hb dX9_readEdge_130 rfl (lv_at hl 1 rfl) ?_
          refine lv_dup2_11 hx hb dX9_readEdge_131 rfl rfl ?_
          refine va_iald hx hb hK hP 7 6 rfl rfl (vp_in_nI (n := (14 + m14_1)) (by omega) (Nat.le_of_ble_eq_true rfl)) dX9_readEdge_132 ?_
          refine lv_topi (fun y_213 ey_213 => ?_)
          obtain rfl : y_213 = nI u_194 := ey_213.trans qu_194
          refine lv_iconst (v := 1) hx hb dX9_readEdge_133 (by decide) ?_
          refine lv_iadd hx hb dX9_readEdge_134 ?_
          refine lv_topi (fun y_215 ey_215 => ?_)
          obtain rfl : y_215 = (nI (u_194 + 1)) := ey_215.trans (nI_add u_194 1)
          refine va_iast hx hb hK hP hD hS 7 6 rfl rfl (vp_in_nI (n := (14 + m14_1)) (by omega) (Nat.le_of_ble_eq_true rfl)) dX9_readEdge_135 (fun H locs hP hD hS => ?_)
          obtain ⟨q_216, eq_216, kq_216⟩ := bN_up 4 g_39 (((nI (14 + m14_1)) : Int32).toNatClampNeg) (v := (u_194 + 1)) (by omega)
          have hP : va_P (dC, dI) vwCl (mo_w ad ck x0 (nI x16) (nI x18) (nI x19) z20_207 (nI z21_208) (nI z22_209) z23_210 x24 x25 (nI z26_211) z27_212 1 (nI x29) (nI x30) (nI x33) x45 (nI x46) (nI x52) (nI x53) (nI x61) (nI x62) (nI x63) (nI x65) x66 f1 f2 f3 (bN 3 q4) (bN 7 q_12) (bN 7 q_24) (bN 4 q_216) (upd f8 ((nI (14 + m14_1)) : Int32).toNatClampNeg 0) (bN 2 z9_206) (bH z10_204) z11_205 (b2 m12_0 m12_1) (b2 m13_0 m13_1) (b2 m14_0 m14_1) (b2m m15_0 m15_1) f17 (bA 159 q31) f32 f34 f35 f36 f37 (bN 7 q38) f39 f40 f41 (b2 m42_0 m42_1) f43 f44 f47 f48 f49 f50 f51 (bN 13 q54) (bN 120 q55) (bN 120 q56) f57 (bN 120 q58) f59 f60 f64) H := by rw [← eq_216]; exact hP
          have hD : va_D A (mo_w ad ck x0 (nI x16) (nI x18) (nI x19) z20_207 (nI z21_208) (nI z22_209) z23_210 x24 x25 (nI z26_211) z27_212 1 (nI x29) (nI x30) (nI x33) x45 (nI x46) (nI x52) (nI x53) (nI x61) (nI x62) (nI x63) (nI x65) x66 f1 f2 f3 (bN 3 q4) (bN 7 q_12) (bN 7 q_24) (bN 4 q_216) (upd f8 ((nI (14 + m14_1)) : Int32).toNatClampNeg 0) (bN 2 z9_206) (bH z10_204) z11_205 (b2 m12_0 m12_1) (b2 m13_0 m13_1) (b2 m14_0 m14_1) (b2m m15_0 m15_1) f17 (bA 159 q31) f32 f34 f35 f36 f37 (bN 7 q38) f39 f40 f41 (b2 m42_0 m42_1) f43 f44 f47 f48 f49 f50 f51 (bN 13 q54) (bN 120 q55) (bN 120 q56) f57 (bN 120 q58) f59 f60 f64) := by rw [← eq_216]; exact hD
          refine lv_goto (tgt := 63) hx hb dX9_readEdge_136 (by decide) ?_
          exact ih_48 (mu z21_208 z22_209) (by omega) _ _ _ ⟨z10_204, z11_205, q_216, z9_206, z20_207, z21_208, z22_209, z23_210, z26_211, z27_212, rfl, hz21_208, hz22_209, hz26_211, by omega, hP, hD, hS, lv_sub hl [0, 1] rfl⟩
        · have c_195 : u_194 = 4 := (nI_eq (a := u_194) (b := 4) (Nat.lt_of_le_of_lt hu_194 (Nat.le_of_ble_eq_true rfl)) (Nat.le_of_ble_eq_true rfl)).mp c_195
          refine lv_aload_n hx hb dX9_readEdge_89 rfl (lv_at hl 0 rfl) ?_
          refine lv_iconst (v := 5) hx hb dX9_readEdge_90 (by decide) ?_
          have hFc := pu_free hD hS hA
          refine va_callv (va_runV (As := [.int 5]) (rest := []) ⟨hx, hb, hml, hown, hts⟩ (c_M_fails l dC dI _ ad ck x0 x16 x18 x19 g_41 g_42 g_43 g_44 x24 x25 g_45 g_46 1 x29 x30 x33 x45 x46 x52 x53 x61 x62 x63 x65 x66 f1 f2 f3 q4 q_12 q_24 g_39 (upd f8 ((nI (14 + m14_1)) : Int32).toNatClampNeg 0) g_40 g_37 g_38 m12_0 m12_1 m13_0 m13_1 m14_0 m14_1 m15_0 m15_1 f17 q31 f32 f34 f35 f36 f37 q38 f39 f40 f41 m42_0 m42_1 f43 f44 f47 f48 f49 f50 f51 q54 q55 q56 f57 q58 f59 f60 f64 5 hx16 hx18 hx19 hg_42 hg_43 hg_45 (Nat.le_of_ble_eq_true rfl) hx29 hx30 hx33 hx46 hx52 hx53 hx61 hx62 hx63 hx65 hm12_0 hm12_1 hm13_0 hm13_1 hm14_0 (Nat.le_trans hm14_1 (Nat.le_of_ble_eq_true rfl)) hm15_0 hm15_1 hm42_0 hm42_1 (Nat.le_of_ble_eq_true rfl) (by omega)) (cwV 1 hts g_M_readEdge_1_M_fails rfl rfl rfl (by decide +kernel) ⟨Nat.le_of_ble_eq_true rfl, Nat.le_of_ble_eq_true rfl⟩) ⟨pu_bl, va_recv hK hP (ci := 9) (q0 := 0) rfl rfl, pu_in hP hK hD⟩ rfl rfl hl.1 rfl (lv_room (Nat.le_of_ble_eq_true rfl)) dX9_readEdge_91 ⟨Nat.le_of_ble_eq_true rfl, Nat.le_of_ble_eq_true rfl⟩) hS (fun q _ h => hFc q h) hFc (fun u t H1 locs ht hvm hw hB hz1 hk1 hS => ?_)
          obtain ⟨z26_218, z27_219, ⟨hP1, -, hD1⟩, hz26_218, xr_217_0⟩ := hB
          rw [ht] at hP1
          have hP := hP1
          have hD := pu_all hFc hD1
          clear hP1 hD1 hFc
          clear hk1 hz1 ht hvm
          generalize H1 = H at hP hS ⊢
          exact W.vret hx hb hr (fun t ht hW => ⟨⟨(), rfl, trivial, ⟨g_37, g_38, q_12, q_24, g_39, (upd f8 ((nI (14 + m14_1)) : Int32).toNatClampNeg 0), g_40, m14_1, g_41, g_42, g_43, g_44, z26_218, z27_219, ⟨by rw [ht]; exact hP, va_K.moved hW.alike hK, hD⟩, (Nat.le_trans hm14_1 (Nat.le_of_ble_eq_true rfl)), hg_42, hg_43, hz26_218, by omega⟩⟩, hS.F ht⟩) hS.2.2 dX9_readEdge_94
  refine lv_if_eq (tgt := 47) hx hb dX9_readEdge_37 (by decide) (fun c_220 => ?_) (fun c_220 => ?_)
  · have c_220 : u_14 = 0 := (nI_eq (a := u_14) (b := 0) (Nat.lt_of_le_of_lt hu_14 (Nat.le_of_ble_eq_true rfl)) (Nat.le_of_ble_eq_true rfl)).mp c_220
    refine lv_iconst (v := 0) hx hb dX9_readEdge_47 (by decide) ?_
    exact j_23 _ _ _ _ ⟨z20_5, z21_6, z22_7, z23_8, z26_9, z27_10, 0, rfl, hz21_6, hz22_7, hz26_9, (Nat.le_of_ble_eq_true rfl), by omega, hP, hD, hS, lv_sub hl [1, 0] rfl⟩
  · have c_220 : ¬ u_14 = 0 := fun z => c_220 ((nI_eq (a := u_14) (b := 0) (Nat.lt_of_le_of_lt hu_14 (Nat.le_of_ble_eq_true rfl)) (Nat.le_of_ble_eq_true rfl)).mpr z)
    refine lv_aload_n hx hb dX9_readEdge_40 rfl (lv_at hl 1 rfl) ?_
    have hFc := pu_free hD hS hA
    refine va_calli (va_runV (As := []) (rest := [.int (nI (14 + m14_1)), .ref (ad 6)]) ⟨hx, hb, hml, hown, hts⟩ (c_M_toldPlace_1 l dC dI _ ad ck x0 x16 x18 x19 z20_5 z21_6 z22_7 z23_8 x24 x25 z26_9 z27_10 x29 x30 x33 x45 x46 x52 x53 x61 x62 x63 x65 x66 f1 f2 f3 q4 q_12 q6 q7 f8 q9 q10 f11 m12_0 m12_1 m13_0 m13_1 m14_0 m14_1 m15_0 m15_1 f17 q31 f32 f34 f35 f36 f37 q38 f39 f40 f41 m42_0 m42_1 f43 f44 f47 f48 f49 f50 f51 q54 q55 q56 f57 q58 f59 f60 f64 hx16 hx18 hx19 hz21_6 hz22_7 hz26_9 hx29 hx30 hx33 hx46 hx52 hx53 hx61 hx62 hx63 hx65 hm12_0 hm12_1 hm13_0 hm13_1 hm14_0 (Nat.le_trans hm14_1 (Nat.le_of_ble_eq_true rfl)) hm15_0 hm15_1 hm42_0 hm42_1) (cwV 0 hts g_M_readEdge_1_M_toldPlace_1 rfl rfl rfl (by decide +kernel) ⟨Nat.le_of_ble_eq_true rfl, Nat.le_of_ble_eq_true rfl⟩) ⟨pu_bl, va_recv hK hP (ci := 9) (q0 := 0) rfl rfl, pu_in hP hK hD⟩ rfl rfl hl.1 rfl (lv_room (Nat.le_of_ble_eq_true rfl)) dX9_readEdge_41 ⟨Nat.le_of_ble_eq_true rfl, Nat.le_of_ble_eq_true rfl⟩) hS (fun q _ h => hFc q h) hFc (fun r_221 u t H1 locs ht hvm hw hB hz1 hk1 hS => ?_)
    obtain ⟨z20_222, z21_223, z22_224, z23_225, z26_226, z27_227, ⟨hP1, -, hD1⟩, hz21_223, hz22_224, hz26_226, xr_221_0⟩ := hB
    rw [ht] at hP1
    have hP := hP1
    have hD := pu_all hFc hD1
    clear hP1 hD1 hFc
    clear hk1 hz1 ht hvm
    generalize H1 = H at hP hS ⊢
    obtain ⟨u_228, hu_228, rfl⟩ := hw
    refine lv_goto (tgt := 48) hx hb dX9_readEdge_44 (by decide) ?_
    exact j_23 _ _ _ _ ⟨z20_222, z21_223, z22_224, z23_225, z26_226, z27_227, u_228, rfl, hz21_223, hz22_224, hz26_226, hu_228, by omega, hP, hD, hS, lv_sub hl [1, 0] rfl⟩
abbrev vs_M_readLine_1 : List Cond := .code yX9_readLine cX9_readLine 5 none :: VM
theorem g_M_readLine_1_M_isWord : GoodIn vs_M_readLine_1 (wsV RX9 193 RX9 yX9_isWord vs_M_isWord) := gm_V vm_44 vm_45 vm_46 vm_12 vm_35
theorem g_M_readLine_1_M_isGood : GoodIn vs_M_readLine_1 (wsV RX9 216 RX9 yX9_isGood vs_M_isGood) := gm_V vm_91 vm_92 vm_93 vm_12 vm_15
theorem g_M_readLine_1_M_next : GoodIn vs_M_readLine_1 (wsV RX9 226 RX9 yX9_next vs_M_next) := gm_V vm_100 vm_101 vm_102 vm_12 vm_72
theorem g_M_readLine_1_M_readEdge_1 : GoodIn vs_M_readLine_1 (wsV RX9 255 RX9 yX9_readEdge vs_M_readEdge_1) := gm_V vm_134 vm_135 vm_136 vm_12 vm_125
theorem g_M_readLine_1_M_toldPlace_1 : GoodIn vs_M_readLine_1 (wsV RX9 245 RX9 yX9_toldPlace vs_M_toldPlace_1) := gm_V vm_126 vm_127 vm_128 vm_12 vm_106
theorem g_M_readLine_1_M_readPlace_1 : GoodIn vs_M_readLine_1 (wsV RX9 252 RX9 yX9_readPlace vs_M_readPlace_1) := gm_V vm_137 vm_138 vm_139 vm_12 vm_117
theorem g_M_readLine_1_M_freshName_1 : GoodIn vs_M_readLine_1 (wsV RX9 238 RX9 yX9_freshName vs_M_freshName_1) := gm_V vm_118 vm_119 vm_120 vm_12 vm_87
theorem g_M_readLine_1_M_fails : GoodIn vs_M_readLine_1 (wsV RX9 210 RX9 yX9_fails vs_M_fails) := gm_V vm_55 vm_56 vm_57 vm_12 vm_39
set_option maxHeartbeats 4000000 in
set_option maxRecDepth 100000 in
theorem c_M_readLine_1 (l : Launch) (dC : Nat → ClassId) (dI : Nat → Nat → Nat) (sz : Nat) (ad : Nat → Nat) (ck : Nat → ClassId) (x0 : Int32) (x16 : Nat) (x18 : Nat) (x19 : Nat) (x20 : Int32) (x21 : Nat) (x22 : Nat) (x23 : Int32) (x24 : Int32) (x25 : Int32) (x26 : Nat) (x27 : Int32) (x29 : Nat) (x30 : Nat) (x33 : Nat) (x45 : Int32) (x46 : Nat) (x52 : Nat) (x53 : Nat) (x61 : Nat) (x62 : Nat) (x63 : Nat) (x65 : Nat) (x66 : Int32) (f1 : Nat → Int32) (f2 : Nat → Int32) (f3 : Nat → Int32) (q4 : Nat → Nat) (q5 : Nat → Nat) (q6 : Nat → Nat) (q7 : Nat → Nat) (f8 : Nat → Int32) (q9 : Nat → Nat) (q10 : Nat → Nat) (f11 : Nat → Int32) (m12_0 m12_1 : Nat) (m13_0 m13_1 : Nat) (m14_0 m14_1 : Nat) (m15_0 m15_1 : Nat) (f17 : Nat → Int32) (q31 : Nat → Nat) (f32 : Nat → Int32) (f34 : Nat → Int32) (f35 : Nat → Int32) (f36 : Nat → Int32) (f37 : Nat → Int32) (q38 : Nat → Nat) (f39 : Nat → Int32) (f40 : Nat → Int32) (f41 : Nat → Int32) (m42_0 m42_1 : Nat) (f43 : Nat → Int32) (f44 : Nat → Int32) (f47 : Nat → Int32) (f48 : Nat → Int32) (f49 : Nat → Int32) (f50 : Nat → Int32) (f51 : Nat → Int32) (q54 : Nat → Nat) (q55 : Nat → Nat) (q56 : Nat → Nat) (f57 : Nat → Int32) (q58 : Nat → Nat) (f59 : Nat → Int32) (f60 : Nat → Int32) (f64 : Nat → Int32) (hx16 : x16 ≤ 1) (hx18 : x18 ≤ 900) (hx19 : x19 ≤ 900) (hx21 : x21 ≤ 900) (hx22 : x22 ≤ 4) (hx26 : x26 ≤ 6) (hx29 : x29 ≤ 1) (hx30 : x30 ≤ 1) (hx33 : x33 ≤ 20) (hx46 : x46 ≤ 5) (hx52 : x52 ≤ 2400) (hx53 : x53 ≤ 119) (hx61 : x61 ≤ 119) (hx62 : x62 ≤ 2000) (hx63 : x63 ≤ 1) (hx65 : x65 ≤ 7) (hm12_0 : m12_0 ≤ 3) (hm12_1 : m12_1 ≤ 3) (hm13_0 : m13_0 ≤ 8) (hm13_1 : m13_1 ≤ 8) (hm14_0 : m14_0 ≤ 14) (hm14_1 : m14_1 ≤ 14) (hm15_0 : m15_0 ≤ 8) (hm15_1 : m15_1 ≤ 8) (hm42_0 : m42_0 ≤ 120) (hm42_1 : m42_1 ≤ 400) : Met l yX9_readLine vs_M_readLine_1 ({ frames := 6, cells := 0, slots := 0, locals := 130 }) (va_Pc [.ref (ad 0)] (pu_B (dC, dI) (mo_w ad ck x0 (nI x16) (nI x18) (nI x19) x20 (nI x21) (nI x22) x23 x24 x25 (nI x26) x27 1 (nI x29) (nI x30) (nI x33) x45 (nI x46) (nI x52) (nI x53) (nI x61) (nI x62) (nI x63) (nI x65) x66 f1 f2 f3 (bN 3 q4) (bN 7 q5) (bN 7 q6) (bN 4 q7) f8 (bN 2 q9) (bH q10) f11 (b2 m12_0 m12_1) (b2 m13_0 m13_1) (b2 m14_0 m14_1) (b2m m15_0 m15_1) f17 (bA 159 q31) f32 f34 f35 f36 f37 (bN 7 q38) f39 f40 f41 (b2 m42_0 m42_1) f43 f44 f47 f48 f49 f50 f51 (bN 13 q54) (bN 120 q55) (bN 120 q56) f57 (bN 120 q58) f59 f60 f64) (mo_t ck) sz)) (va_Qv (fun (_ : Unit) => True) (fun _ t => ∃ (z1 : Nat → Int32) (z10 : Nat → Nat) (z11 : Nat → Int32) (z2 : Nat → Int32) (z3 : Nat → Int32) (z4 : Nat → Nat) (z5 : Nat → Nat) (z6 : Nat → Nat) (z7 : Nat → Nat) (z8 : Nat → Int32) (z9 : Nat → Nat) (z12_1 : Nat) (z13_1 : Nat) (z14_1 : Nat) (z15_1 : Nat) (z20 : Int32) (z21 : Nat) (z22 : Nat) (z23 : Int32) (z26 : Nat) (z27 : Int32), pu_E (dC, dI) (mo_w ad ck x0 (nI x16) (nI x18) (nI x19) z20 (nI z21) (nI z22) z23 x24 x25 (nI z26) z27 1 (nI x29) (nI x30) (nI x33) x45 (nI x46) (nI x52) (nI x53) (nI x61) (nI x62) (nI x63) (nI x65) x66 z1 z2 z3 (bN 3 z4) (bN 7 z5) (bN 7 z6) (bN 4 z7) z8 (bN 2 z9) (bH z10) z11 (b2 m12_0 z12_1) (b2 m13_0 z13_1) (b2 m14_0 z14_1) (b2m m15_0 z15_1) f17 (bA 159 q31) f32 f34 f35 f36 f37 (bN 7 q38) f39 f40 f41 (b2 m42_0 m42_1) f43 f44 f47 f48 f49 f50 f51 (bN 13 q54) (bN 120 q55) (bN 120 q56) f57 (bN 120 q58) f59 f60 f64) (mo_t ck) (va_A ((mo_w ad ck x0 (nI x16) (nI x18) (nI x19) x20 (nI x21) (nI x22) x23 x24 x25 (nI x26) x27 1 (nI x29) (nI x30) (nI x33) x45 (nI x46) (nI x52) (nI x53) (nI x61) (nI x62) (nI x63) (nI x65) x66 f1 f2 f3 (bN 3 q4) (bN 7 q5) (bN 7 q6) (bN 4 q7) f8 (bN 2 q9) (bH q10) f11 (b2 m12_0 m12_1) (b2 m13_0 m13_1) (b2 m14_0 m14_1) (b2m m15_0 m15_1) f17 (bA 159 q31) f32 f34 f35 f36 f37 (bN 7 q38) f39 f40 f41 (b2 m42_0 m42_1) f43 f44 f47 f48 f49 f50 f51 (bN 13 q54) (bN 120 q55) (bN 120 q56) f57 (bN 120 q58) f59 f60 f64)) sz) t ∧ (z12_1 ≤ 3) ∧ (z13_1 ≤ 8) ∧ (z14_1 ≤ 14) ∧ (z15_1 ≤ 8) ∧ (z21 ≤ 900) ∧ (z22 ≤ 4) ∧ (z26 ≤ 6) ∧ (mu z21 z22 ≤ mu x21 x22) ∧ (z26 ≠ 0 ∨ x22 = 0 ∨ mu z21 z22 < mu x21 x22)) (va_A ((mo_w ad ck x0 (nI x16) (nI x18) (nI x19) x20 (nI x21) (nI x22) x23 x24 x25 (nI x26) x27 1 (nI x29) (nI x30) (nI x33) x45 (nI x46) (nI x52) (nI x53) (nI x61) (nI x62) (nI x63) (nI x65) x66 f1 f2 f3 (bN 3 q4) (bN 7 q5) (bN 7 q6) (bN 4 q7) f8 (bN 2 q9) (bH q10) f11 (b2 m12_0 m12_1) (b2 m13_0 m13_1) (b2 m14_0 m14_1) (b2m m15_0 m15_1) f17 (bA 159 q31) f32 f34 f35 f36 f37 (bN 7 q38) f39 f40 f41 (b2 m42_0 m42_1) f43 f44 f47 f48 f49 f50 f51 (bN 13 q54) (bN 120 q55) (bN 120 q56) f57 (bN 120 q58) f59 f60 f64)) sz)) 0 0 (va_A ((mo_w ad ck x0 (nI x16) (nI x18) (nI x19) x20 (nI x21) (nI x22) x23 x24 x25 (nI x26) x27 1 (nI x29) (nI x30) (nI x33) x45 (nI x46) (nI x52) (nI x53) (nI x61) (nI x62) (nI x63) (nI x65) x66 f1 f2 f3 (bN 3 q4) (bN 7 q5) (bN 7 q6) (bN 4 q7) f8 (bN 2 q9) (bH q10) f11 (b2 m12_0 m12_1) (b2 m13_0 m13_1) (b2 m14_0 m14_1) (b2m m15_0 m15_1) f17 (bA 159 q31) f32 f34 f35 f36 f37 (bN 7 q38) f39 f40 f41 (b2 m42_0 m42_1) f43 f44 f47 f48 f49 f50 f51 (bN 13 q54) (bN 120 q55) (bN 120 q56) f57 (bN 120 q58) f59 f60 f64)) sz) := by
  refine Met.ofW (cc := cX9_readLine) (maxL := 5) (ret := none) (by decide) rfl ?_
  intro p e s m args below meth c s₁ B hml hv
  obtain ⟨rfl, rfl, hP, hK, hD0⟩ := hv
  have hx := B.exec
  have hb := B.bytes
  have hr := B.returns
  have hts := atoms_spec (ws := vs_M_readLine_1) B.pre
  have v_1 := hts (.constant RX9 192 (3554411)) (List.mem_cons_of_mem _ vm_43)
  have v_7 := hts (.constant RX9 196 (17171557)) (List.mem_cons_of_mem _ vm_47)
  have v_8 := hts (.constant RX9 199 (20579924)) (List.mem_cons_of_mem _ vm_50)
  have v_9 := hts (.constant RX9 200 (168165)) (List.mem_cons_of_mem _ vm_51)
  have v_10 := hts (.fieldLink RX9 43 "ClockReachModel" "clockMany" "[I") (List.mem_cons_of_mem _ vm_21)
  have v_11 := hts (.fieldLink RX9 203 "ClockReachModel" "rb" "I") (List.mem_cons_of_mem _ vm_82)
  have v_16 := hts (.fieldLink RX9 49 "ClockReachModel" "edgeMany" "[I") (List.mem_cons_of_mem _ vm_62)
  have v_17 := hts (.fieldLink RX9 52 "ClockReachModel" "begins" "[I") (List.mem_cons_of_mem _ vm_133)
  have v_18 := hts (.fieldLink RX9 46 "ClockReachModel" "placeMany" "[I") (List.mem_cons_of_mem _ vm_85)
  have v_39 := hts (.fieldLink RX9 7 "ClockReachModel" "clockName" "[I") (List.mem_cons_of_mem _ vm_83)
  have hown : s.vm.findClass RX9 = some m.cls := findClass_of_methodNamed B.named
  have hlocks := B.notSynchronized
  have hiX9 : ∀ w ∈ wsX90, w ∈ vs_M_readLine_1 := fun _ h => List.mem_cons_of_mem _ (List.mem_append_right _ h)
  have hD := hD0.self (sz := s.heap.size)
  generalize hAe : va_A ((mo_w ad ck x0 (nI x16) (nI x18) (nI x19) x20 (nI x21) (nI x22) x23 x24 x25 (nI x26) x27 1 (nI x29) (nI x30) (nI x33) x45 (nI x46) (nI x52) (nI x53) (nI x61) (nI x62) (nI x63) (nI x65) x66 f1 f2 f3 (bN 3 q4) (bN 7 q5) (bN 7 q6) (bN 4 q7) f8 (bN 2 q9) (bH q10) f11 (b2 m12_0 m12_1) (b2 m13_0 m13_1) (b2 m14_0 m14_1) (b2m m15_0 m15_1) f17 (bA 159 q31) f32 f34 f35 f36 f37 (bN 7 q38) f39 f40 f41 (b2 m42_0 m42_1) f43 f44 f47 f48 f49 f50 f51 (bN 13 q54) (bN 120 q55) (bN 120 q56) f57 (bN 120 q58) f59 f60 f64)) s.heap.size = A at hD ⊢
  have hA : ∀ q : Nat, s.heap.size ≤ q → A q := fun q h => by rw [← hAe]; exact Or.inr h
  have hS : va_S A s.heap s.heap [] := va_S.rf
  have hl := lv_entry ([.ref (ad 0)]) (n := 5) (Nat.le_of_ble_eq_true rfl)
  rw [lg_entry_eq]
  generalize (lg_sl ([.ref (ad 0)]) ++ List.replicate (5 - (lg_sl ([.ref (ad 0)])).length) Slot.unset).toArray = ls at hl ⊢
  have hl : lv_has ls 5 [(0, .ref (ad 0))] := hl
  refine lv_aload_n hx hb dX9_readLine_0 rfl (lv_at hl 0 rfl) ?_
  refine lv_ldc hx hb hown v_1 dX9_readLine_1 ?_
  refine va_calli (va_runV (As := [.int 3554411]) (rest := []) ⟨hx, hb, hml, hown, hts⟩ (c_M_isWord l dC dI _ ad ck x0 x16 x18 x19 x20 x21 x22 x23 x24 x25 x26 x27 1 x29 x30 x33 x45 x46 x52 x53 x61 x62 x63 x65 x66 f1 f2 f3 q4 q5 q6 q7 f8 q9 q10 f11 m12_0 m12_1 m13_0 m13_1 m14_0 m14_1 m15_0 m15_1 f17 q31 f32 f34 f35 f36 f37 q38 f39 f40 f41 m42_0 m42_1 f43 f44 f47 f48 f49 f50 f51 q54 q55 q56 f57 q58 f59 f60 f64 3554411 hx16 hx18 hx19 hx21 hx22 hx26 (Nat.le_of_ble_eq_true rfl) hx29 hx30 hx33 hx46 hx52 hx53 hx61 hx62 hx63 hx65 hm12_0 hm12_1 hm13_0 hm13_1 hm14_0 hm14_1 hm15_0 hm15_1 hm42_0 hm42_1) (cwV 1 hts g_M_readLine_1_M_isWord rfl rfl rfl (by decide +kernel) ⟨Nat.le_of_ble_eq_true rfl, Nat.le_of_ble_eq_true rfl⟩) ⟨pu_bl, va_recv hK hP (ci := 9) (q0 := 0) rfl rfl, pu_in hP hK hD⟩ rfl rfl hl.1 rfl (lv_room (Nat.le_of_ble_eq_true rfl)) dX9_readLine_3 ⟨Nat.le_of_ble_eq_true rfl, Nat.le_of_ble_eq_true rfl⟩) hS (fun q _ h => pu_fr hS hA q h) (pu_fr hS hA) (fun r_1 u t H1 locs ht hvm hw hB hz1 hk1 hS => ?_)
  have hP := pu_keep hP hk1
  clear hk1 hz1 ht hvm
  generalize H1 = H at hP hS ⊢
  obtain ⟨u_2, hu_2, rfl, iu_2⟩ := hw
  refine lv_istore_n (lv' := [(1, .int (nI u_2)), (0, .ref (ad 0))]) hx hb dX9_readLine_6 rfl hl (by decide) rfl (fun ls hl => ?_)
  refine lv_aload_n hx hb dX9_readLine_7 rfl (lv_at hl 1 rfl) ?_
  refine lv_ldc hx hb hown v_7 dX9_readLine_8 ?_
  refine va_calli (va_runV (As := [.int 17171557]) (rest := []) ⟨hx, hb, hml, hown, hts⟩ (c_M_isWord l dC dI _ ad ck x0 x16 x18 x19 x20 x21 x22 x23 x24 x25 x26 x27 1 x29 x30 x33 x45 x46 x52 x53 x61 x62 x63 x65 x66 f1 f2 f3 q4 q5 q6 q7 f8 q9 q10 f11 m12_0 m12_1 m13_0 m13_1 m14_0 m14_1 m15_0 m15_1 f17 q31 f32 f34 f35 f36 f37 q38 f39 f40 f41 m42_0 m42_1 f43 f44 f47 f48 f49 f50 f51 q54 q55 q56 f57 q58 f59 f60 f64 17171557 hx16 hx18 hx19 hx21 hx22 hx26 (Nat.le_of_ble_eq_true rfl) hx29 hx30 hx33 hx46 hx52 hx53 hx61 hx62 hx63 hx65 hm12_0 hm12_1 hm13_0 hm13_1 hm14_0 hm14_1 hm15_0 hm15_1 hm42_0 hm42_1) (cwV 1 hts g_M_readLine_1_M_isWord rfl rfl rfl (by decide +kernel) ⟨Nat.le_of_ble_eq_true rfl, Nat.le_of_ble_eq_true rfl⟩) ⟨pu_bl, va_recv hK hP (ci := 9) (q0 := 0) rfl rfl, pu_in hP hK hD⟩ rfl rfl hl.1 rfl (lv_room (Nat.le_of_ble_eq_true rfl)) dX9_readLine_10 ⟨Nat.le_of_ble_eq_true rfl, Nat.le_of_ble_eq_true rfl⟩) hS (fun q _ h => pu_fr hS hA q h) (pu_fr hS hA) (fun r_3 u t H1 locs ht hvm hw hB hz1 hk1 hS => ?_)
  have hP := pu_keep hP hk1
  clear hk1 hz1 ht hvm
  generalize H1 = H at hP hS ⊢
  obtain ⟨u_4, hu_4, rfl, iu_4⟩ := hw
  refine lv_istore_n (lv' := [(2, .int (nI u_4)), (1, .int (nI u_2)), (0, .ref (ad 0))]) hx hb dX9_readLine_13 rfl hl (by decide) rfl (fun ls hl => ?_)
  refine lv_aload_n hx hb dX9_readLine_14 rfl (lv_at hl 2 rfl) ?_
  refine lv_ldc hx hb hown v_8 dX9_readLine_15 ?_
  refine va_calli (va_runV (As := [.int 20579924]) (rest := []) ⟨hx, hb, hml, hown, hts⟩ (c_M_isWord l dC dI _ ad ck x0 x16 x18 x19 x20 x21 x22 x23 x24 x25 x26 x27 1 x29 x30 x33 x45 x46 x52 x53 x61 x62 x63 x65 x66 f1 f2 f3 q4 q5 q6 q7 f8 q9 q10 f11 m12_0 m12_1 m13_0 m13_1 m14_0 m14_1 m15_0 m15_1 f17 q31 f32 f34 f35 f36 f37 q38 f39 f40 f41 m42_0 m42_1 f43 f44 f47 f48 f49 f50 f51 q54 q55 q56 f57 q58 f59 f60 f64 20579924 hx16 hx18 hx19 hx21 hx22 hx26 (Nat.le_of_ble_eq_true rfl) hx29 hx30 hx33 hx46 hx52 hx53 hx61 hx62 hx63 hx65 hm12_0 hm12_1 hm13_0 hm13_1 hm14_0 hm14_1 hm15_0 hm15_1 hm42_0 hm42_1) (cwV 1 hts g_M_readLine_1_M_isWord rfl rfl rfl (by decide +kernel) ⟨Nat.le_of_ble_eq_true rfl, Nat.le_of_ble_eq_true rfl⟩) ⟨pu_bl, va_recv hK hP (ci := 9) (q0 := 0) rfl rfl, pu_in hP hK hD⟩ rfl rfl hl.1 rfl (lv_room (Nat.le_of_ble_eq_true rfl)) dX9_readLine_17 ⟨Nat.le_of_ble_eq_true rfl, Nat.le_of_ble_eq_true rfl⟩) hS (fun q _ h => pu_fr hS hA q h) (pu_fr hS hA) (fun r_5 u t H1 locs ht hvm hw hB hz1 hk1 hS => ?_)
  have hP := pu_keep hP hk1
  clear hk1 hz1 ht hvm
  generalize H1 = H at hP hS ⊢
  obtain ⟨u_6, hu_6, rfl, iu_6⟩ := hw
  refine lv_istore_n (lv' := [(3, .int (nI u_6)), (2, .int (nI u_4)), (1, .int (nI u_2)), (0, .ref (ad 0))]) hx hb dX9_readLine_20 rfl hl (by decide) rfl (fun ls hl => ?_)
  refine lv_aload_n hx hb dX9_readLine_21 rfl (lv_at hl 3 rfl) ?_
  refine lv_ldc hx hb hown v_9 dX9_readLine_22 ?_
  refine va_calli (va_runV (As := [.int 168165]) (rest := []) ⟨hx, hb, hml, hown, hts⟩ (c_M_isWord l dC dI _ ad ck x0 x16 x18 x19 x20 x21 x22 x23 x24 x25 x26 x27 1 x29 x30 x33 x45 x46 x52 x53 x61 x62 x63 x65 x66 f1 f2 f3 q4 q5 q6 q7 f8 q9 q10 f11 m12_0 m12_1 m13_0 m13_1 m14_0 m14_1 m15_0 m15_1 f17 q31 f32 f34 f35 f36 f37 q38 f39 f40 f41 m42_0 m42_1 f43 f44 f47 f48 f49 f50 f51 q54 q55 q56 f57 q58 f59 f60 f64 168165 hx16 hx18 hx19 hx21 hx22 hx26 (Nat.le_of_ble_eq_true rfl) hx29 hx30 hx33 hx46 hx52 hx53 hx61 hx62 hx63 hx65 hm12_0 hm12_1 hm13_0 hm13_1 hm14_0 hm14_1 hm15_0 hm15_1 hm42_0 hm42_1) (cwV 1 hts g_M_readLine_1_M_isWord rfl rfl rfl (by decide +kernel) ⟨Nat.le_of_ble_eq_true rfl, Nat.le_of_ble_eq_true rfl⟩) ⟨pu_bl, va_recv hK hP (ci := 9) (q0 := 0) rfl rfl, pu_in hP hK hD⟩ rfl rfl hl.1 rfl (lv_room (Nat.le_of_ble_eq_true rfl)) dX9_readLine_24 ⟨Nat.le_of_ble_eq_true rfl, Nat.le_of_ble_eq_true rfl⟩) hS (fun q _ h => pu_fr hS hA q h) (pu_fr hS hA) (fun r_7 u t H1 locs ht hvm hw hB hz1 hk1 hS => ?_)
  have hP := pu_keep hP hk1
  clear hk1 hz1 ht hvm
  generalize H1 = H at hP hS ⊢
  obtain ⟨u_8, hu_8, rfl, iu_8⟩ := hw
  refine lv_istore (lv' := [(4, .int (nI u_8)), (3, .int (nI u_6)), (2, .int (nI u_4)), (1, .int (nI u_2)), (0, .ref (ad 0))]) hx hb dX9_readLine_27 hl (by decide) rfl (fun ls hl => ?_)
  refine lv_iload_n hx hb dX9_readLine_29 rfl (lv_at hl 3 rfl) ?_
  refine pu_join (fun H locs ls st => ∃ (g_9 : Nat) (g_10 : Int32), st = [] ∧ g_9 ≤ 6 ∧ mu x21 x22 ≤ mu x21 x22 ∧ (u_2 = 0 ∨ g_9 ≠ 0 ∨ m12_1 ≤ 2) ∧ (u_4 = 0 ∨ g_9 ≠ 0 ∨ m13_1 ≤ 7) ∧ (u_8 = 0 ∨ g_9 ≠ 0 ∨ m14_1 ≤ 13) ∧ (g_9 ≠ 0 ∨ u_2 = 1 ∨ u_4 = 1 ∨ u_6 = 1 ∨ u_8 = 1) ∧ va_P (dC, dI) vwCl (mo_w ad ck x0 (nI x16) (nI x18) (nI x19) x20 (nI x21) (nI x22) x23 x24 x25 (nI g_9) g_10 1 (nI x29) (nI x30) (nI x33) x45 (nI x46) (nI x52) (nI x53) (nI x61) (nI x62) (nI x63) (nI x65) x66 f1 f2 f3 (bN 3 q4) (bN 7 q5) (bN 7 q6) (bN 4 q7) f8 (bN 2 q9) (bH q10) f11 (b2 m12_0 m12_1) (b2 m13_0 m13_1) (b2 m14_0 m14_1) (b2m m15_0 m15_1) f17 (bA 159 q31) f32 f34 f35 f36 f37 (bN 7 q38) f39 f40 f41 (b2 m42_0 m42_1) f43 f44 f47 f48 f49 f50 f51 (bN 13 q54) (bN 120 q55) (bN 120 q56) f57 (bN 120 q58) f59 f60 f64) H ∧ va_D A (mo_w ad ck x0 (nI x16) (nI x18) (nI x19) x20 (nI x21) (nI x22) x23 x24 x25 (nI g_9) g_10 1 (nI x29) (nI x30) (nI x33) x45 (nI x46) (nI x52) (nI x53) (nI x61) (nI x62) (nI x63) (nI x65) x66 f1 f2 f3 (bN 3 q4) (bN 7 q5) (bN 7 q6) (bN 4 q7) f8 (bN 2 q9) (bH q10) f11 (b2 m12_0 m12_1) (b2 m13_0 m13_1) (b2 m14_0 m14_1) (b2m m15_0 m15_1) f17 (bA 159 q31) f32 f34 f35 f36 f37 (bN 7 q38) f39 f40 f41 (b2 m42_0 m42_1) f43 f44 f47 f48 f49 f50 f51 (bN 13 q54) (bN 120 q55) (bN 120 q56) f57 (bN 120 q58) f59 f60 f64) ∧ va_S A s.heap H locs ∧ lv_has ls 5 [(0, .ref (ad 0)), (1, .int (nI u_2)), (2, .int (nI u_4)), (3, .int (nI u_6)), (4, .int (nI u_8))]) 129 ?_ (fun j_16 => ?_)
  · rintro H locs ls st ⟨g_9, g_10, rfl, hg_9, he_11, he_12, he_13, he_14, he_15, hP, hD, hS, hl⟩
    refine lv_aload_n hx hb dX9_readLine_129 rfl (lv_at hl 0 rfl) ?_
    refine va_calli (va_runV (As := []) (rest := []) ⟨hx, hb, hml, hown, hts⟩ (c_M_isGood l dC dI _ ad ck x0 x16 x18 x19 x20 x21 x22 x23 x24 x25 g_9 g_10 1 x29 x30 x33 x45 x46 x52 x53 x61 x62 x63 x65 x66 f1 f2 f3 q4 q5 q6 q7 f8 q9 q10 f11 m12_0 m12_1 m13_0 m13_1 m14_0 m14_1 m15_0 m15_1 f17 q31 f32 f34 f35 f36 f37 q38 f39 f40 f41 m42_0 m42_1 f43 f44 f47 f48 f49 f50 f51 q54 q55 q56 f57 q58 f59 f60 f64 hx16 hx18 hx19 hx21 hx22 hg_9 (Nat.le_of_ble_eq_true rfl) hx29 hx30 hx33 hx46 hx52 hx53 hx61 hx62 hx63 hx65 hm12_0 hm12_1 hm13_0 hm13_1 hm14_0 hm14_1 hm15_0 hm15_1 hm42_0 hm42_1) (cwV 0 hts g_M_readLine_1_M_isGood rfl rfl rfl (by decide +kernel) ⟨Nat.le_of_ble_eq_true rfl, Nat.le_of_ble_eq_true rfl⟩) ⟨pu_bl, va_recv hK hP (ci := 9) (q0 := 0) rfl rfl, pu_in hP hK hD⟩ rfl rfl hl.1 rfl (lv_room (Nat.le_of_ble_eq_true rfl)) dX9_readLine_130 ⟨Nat.le_of_ble_eq_true rfl, Nat.le_of_ble_eq_true rfl⟩) hS (fun q _ h => pu_fr hS hA q h) (pu_fr hS hA) (fun r_17 u t H1 locs ht hvm hw hB hz1 hk1 hS => ?_)
    have hP := pu_keep hP hk1
    clear hk1 hz1 ht hvm
    generalize H1 = H at hP hS ⊢
    obtain ⟨u_18, hu_18, rfl, iu_18⟩ := hw
    refine lv_if_ne (tgt := 137) hx hb dX9_readLine_133 (by decide) (fun c_19 => ?_) (fun c_19 => ?_)
    · have c_19 : ¬ u_18 = 0 := fun z => c_19 ((nI_eq (a := u_18) (b := 0) (Nat.lt_of_le_of_lt hu_18 (Nat.le_of_ble_eq_true rfl)) (Nat.le_of_ble_eq_true rfl)).mpr z)
      refine lv_aload_n hx hb dX9_readLine_137 rfl (lv_at hl 0 rfl) ?_
      have hFc := pu_free hD hS hA
      refine va_callv (va_runV (As := []) (rest := []) ⟨hx, hb, hml, hown, hts⟩ (c_M_next l dC dI _ ad ck x0 x16 x18 x19 x20 x21 x22 x23 x24 x25 g_9 g_10 1 x29 x30 x33 x45 x46 x52 x53 x61 x62 x63 x65 x66 f1 f2 f3 q4 q5 q6 q7 f8 q9 q10 f11 m12_0 m12_1 m13_0 m13_1 m14_0 m14_1 m15_0 m15_1 f17 q31 f32 f34 f35 f36 f37 q38 f39 f40 f41 m42_0 m42_1 f43 f44 f47 f48 f49 f50 f51 q54 q55 q56 f57 q58 f59 f60 f64 hx16 hx18 hx19 hx21 hx22 hg_9 (Nat.le_of_ble_eq_true rfl) hx29 hx30 hx33 hx46 hx52 hx53 hx61 hx62 hx63 hx65 hm12_0 hm12_1 hm13_0 hm13_1 hm14_0 hm14_1 hm15_0 hm15_1 hm42_0 hm42_1) (cwV 0 hts g_M_readLine_1_M_next rfl rfl rfl (by decide +kernel) ⟨Nat.le_of_ble_eq_true rfl, Nat.le_of_ble_eq_true rfl⟩) ⟨pu_bl, va_recv hK hP (ci := 9) (q0 := 0) rfl rfl, pu_in hP hK hD⟩ rfl rfl hl.1 rfl (lv_room (Nat.le_of_ble_eq_true rfl)) dX9_readLine_138 ⟨Nat.le_of_ble_eq_true rfl, Nat.le_of_ble_eq_true rfl⟩) hS (fun q _ h => hFc q h) hFc (fun u t H1 locs ht hvm hw hB hz1 hk1 hS => ?_)
      obtain ⟨z20_21, z21_22, z22_23, z23_24, ⟨hP1, -, hD1⟩, hz21_22, hz22_23, xr_20_0, xr_20_1⟩ := hB
      rw [ht] at hP1
      have hP := hP1
      have hD := pu_all hFc hD1
      clear hP1 hD1 hFc
      clear hk1 hz1 ht hvm
      generalize H1 = H at hP hS ⊢
      refine lv_iload_n hx hb dX9_readLine_141 rfl (lv_at hl 1 rfl) ?_
      refine lv_if_eq (tgt := 186) hx hb dX9_readLine_142 (by decide) (fun c_25 => ?_) (fun c_25 => ?_)
      · have c_25 : u_2 = 0 := (nI_eq (a := u_2) (b := 0) (Nat.lt_of_le_of_lt hu_2 (Nat.le_of_ble_eq_true rfl)) (Nat.le_of_ble_eq_true rfl)).mp c_25
        refine lv_iload_n hx hb dX9_readLine_186 rfl (lv_at hl 2 rfl) ?_
        refine lv_if_eq (tgt := 197) hx hb dX9_readLine_187 (by decide) (fun c_26 => ?_) (fun c_26 => ?_)
        · have c_26 : u_4 = 0 := (nI_eq (a := u_4) (b := 0) (Nat.lt_of_le_of_lt hu_4 (Nat.le_of_ble_eq_true rfl)) (Nat.le_of_ble_eq_true rfl)).mp c_26
          refine lv_iload_n hx hb dX9_readLine_197 rfl (lv_at hl 3 rfl) ?_
          refine lv_if_eq (tgt := 217) hx hb dX9_readLine_198 (by decide) (fun c_27 => ?_) (fun c_27 => ?_)
          · have c_27 : u_6 = 0 := (nI_eq (a := u_6) (b := 0) (Nat.lt_of_le_of_lt hu_6 (Nat.le_of_ble_eq_true rfl)) (Nat.le_of_ble_eq_true rfl)).mp c_27
            refine lv_aload_n hx hb dX9_readLine_217 rfl (lv_at hl 0 rfl) ?_
            have hFc := pu_free hD hS hA
            refine va_callv (va_runV (As := []) (rest := []) ⟨hx, hb, hml, hown, hts⟩ (c_M_readEdge_1 l dC dI _ ad ck x0 x16 x18 x19 z20_21 z21_22 z22_23 z23_24 x24 x25 g_9 g_10 x29 x30 x33 x45 x46 x52 x53 x61 x62 x63 x65 x66 f1 f2 f3 q4 q5 q6 q7 f8 q9 q10 f11 m12_0 m12_1 m13_0 m13_1 m14_0 m14_1 m15_0 m15_1 f17 q31 f32 f34 f35 f36 f37 q38 f39 f40 f41 m42_0 m42_1 f43 f44 f47 f48 f49 f50 f51 q54 q55 q56 f57 q58 f59 f60 f64 hx16 hx18 hx19 hz21_22 hz22_23 hg_9 hx29 hx30 hx33 hx46 hx52 hx53 hx61 hx62 hx63 hx65 hm12_0 hm12_1 hm13_0 hm13_1 hm14_0 (by omega) hm15_0 hm15_1 hm42_0 hm42_1) (cwV 0 hts g_M_readLine_1_M_readEdge_1 rfl rfl rfl (by decide +kernel) ⟨Nat.le_of_ble_eq_true rfl, Nat.le_of_ble_eq_true rfl⟩) ⟨pu_bl, va_recv hK hP (ci := 9) (q0 := 0) rfl rfl, pu_in hP hK hD⟩ rfl rfl hl.1 rfl (lv_room (Nat.le_of_ble_eq_true rfl)) dX9_readLine_218 ⟨Nat.le_of_ble_eq_true rfl, Nat.le_of_ble_eq_true rfl⟩) hS (fun q _ h => hFc q h) hFc (fun u t H1 locs ht hvm hw hB hz1 hk1 hS => ?_)
            obtain ⟨z10_29, z11_30, z5_31, z6_32, z7_33, z8_34, z9_35, z14_1_36, z20_37, z21_38, z22_39, z23_40, z26_41, z27_42, ⟨hP1, -, hD1⟩, hz14_1_36, hz21_38, hz22_39, hz26_41, xr_28_0⟩ := hB
            rw [ht] at hP1
            have hP := hP1
            have hD := pu_all hFc hD1
            clear hP1 hD1 hFc
            clear hk1 hz1 ht hvm
            generalize H1 = H at hP hS ⊢
            exact W.vret hx hb hr (fun t ht hW => ⟨⟨(), rfl, trivial, ⟨f1, z10_29, z11_30, f2, f3, q4, z5_31, z6_32, z7_33, z8_34, z9_35, m12_1, m13_1, z14_1_36, m15_1, z20_37, z21_38, z22_39, z23_40, z26_41, z27_42, ⟨by rw [ht]; exact hP, va_K.moved hW.alike hK, hD⟩, hm12_1, hm13_1, hz14_1_36, hm15_1, hz21_38, hz22_39, hz26_41, by omega, by omega⟩⟩, hS.F ht⟩) hS.2.2 dX9_readLine_221
          · have c_27 : ¬ u_6 = 0 := fun z => c_27 ((nI_eq (a := u_6) (b := 0) (Nat.lt_of_le_of_lt hu_6 (Nat.le_of_ble_eq_true rfl)) (Nat.le_of_ble_eq_true rfl)).mpr z)
            refine lv_aload_n hx hb dX9_readLine_201 rfl (lv_at hl 0 rfl) ?_
            refine va_get (D := (dC, dI)) (ci := 9) (v := .ref (ad 15)) (C := RX9) (T := TX9) (N := 67) hx hb hts hiX9 hown hK hP 0 rfl rfl 15 (by decide) v_17 (fun _ h9 => h9) rfl dX9_readLine_202 ?_
            refine lv_aload_n hx hb dX9_readLine_205 rfl (lv_at hl 0 rfl) ?_
            refine va_get (D := (dC, dI)) (ci := 9) (v := .int 1) (C := RX9) (T := TX9) (N := 67) hx hb hts hiX9 hown hK hP 0 rfl rfl 28 (by decide) v_11 (fun _ h9 => h9) rfl dX9_readLine_206 ?_
            refine lv_aload_n hx hb dX9_readLine_209 rfl (lv_at hl 0 rfl) ?_
            have hFc := pu_free hD hS hA
            refine va_calli (va_runV (As := []) (rest := [.int 1, .ref (ad 15)]) ⟨hx, hb, hml, hown, hts⟩ (c_M_toldPlace_1 l dC dI _ ad ck x0 x16 x18 x19 z20_21 z21_22 z22_23 z23_24 x24 x25 g_9 g_10 x29 x30 x33 x45 x46 x52 x53 x61 x62 x63 x65 x66 f1 f2 f3 q4 q5 q6 q7 f8 q9 q10 f11 m12_0 m12_1 m13_0 m13_1 m14_0 m14_1 m15_0 m15_1 f17 q31 f32 f34 f35 f36 f37 q38 f39 f40 f41 m42_0 m42_1 f43 f44 f47 f48 f49 f50 f51 q54 q55 q56 f57 q58 f59 f60 f64 hx16 hx18 hx19 hz21_22 hz22_23 hg_9 hx29 hx30 hx33 hx46 hx52 hx53 hx61 hx62 hx63 hx65 hm12_0 hm12_1 hm13_0 hm13_1 hm14_0 hm14_1 hm15_0 hm15_1 hm42_0 hm42_1) (cwV 0 hts g_M_readLine_1_M_toldPlace_1 rfl rfl rfl (by decide +kernel) ⟨Nat.le_of_ble_eq_true rfl, Nat.le_of_ble_eq_true rfl⟩) ⟨pu_bl, va_recv hK hP (ci := 9) (q0 := 0) rfl rfl, pu_in hP hK hD⟩ rfl rfl hl.1 rfl (lv_room (Nat.le_of_ble_eq_true rfl)) dX9_readLine_210 ⟨Nat.le_of_ble_eq_true rfl, Nat.le_of_ble_eq_true rfl⟩) hS (fun q _ h => hFc q h) hFc (fun r_43 u t H1 locs ht hvm hw hB hz1 hk1 hS => ?_)
            obtain ⟨z20_44, z21_45, z22_46, z23_47, z26_48, z27_49, ⟨hP1, -, hD1⟩, hz21_45, hz22_46, hz26_48, xr_43_0⟩ := hB
            rw [ht] at hP1
            have hP := hP1
            have hD := pu_all hFc hD1
            clear hP1 hD1 hFc
            clear hk1 hz1 ht hvm
            generalize H1 = H at hP hS ⊢
            obtain ⟨u_50, hu_50, rfl⟩ := hw
            refine va_iast hx hb hK hP hD hS 15 14 rfl rfl (vp_in_nI (n := 1) (Nat.le_of_ble_eq_true rfl) (Nat.le_of_ble_eq_true rfl)) dX9_readLine_213 (fun H locs hP hD hS => ?_)
            have hP : va_P (dC, dI) vwCl (mo_w ad ck x0 (nI x16) (nI x18) (nI x19) z20_44 (nI z21_45) (nI z22_46) z23_47 x24 x25 (nI z26_48) z27_49 1 (nI x29) (nI x30) (nI x33) x45 (nI x46) (nI x52) (nI x53) (nI x61) (nI x62) (nI x63) (nI x65) x66 f1 f2 f3 (bN 3 q4) (bN 7 q5) (bN 7 q6) (bN 4 q7) f8 (bN 2 q9) (bH q10) f11 (b2 m12_0 m12_1) (b2 m13_0 m13_1) (b2 m14_0 m14_1) (b2m m15_0 (u_50 + 1)) f17 (bA 159 q31) f32 f34 f35 f36 f37 (bN 7 q38) f39 f40 f41 (b2 m42_0 m42_1) f43 f44 f47 f48 f49 f50 f51 (bN 13 q54) (bN 120 q55) (bN 120 q56) f57 (bN 120 q58) f59 f60 f64) H := by rw [← b2m_up1 (a := m15_0) (b := m15_1) (v := u_50)]; exact hP
            have hD : va_D A (mo_w ad ck x0 (nI x16) (nI x18) (nI x19) z20_44 (nI z21_45) (nI z22_46) z23_47 x24 x25 (nI z26_48) z27_49 1 (nI x29) (nI x30) (nI x33) x45 (nI x46) (nI x52) (nI x53) (nI x61) (nI x62) (nI x63) (nI x65) x66 f1 f2 f3 (bN 3 q4) (bN 7 q5) (bN 7 q6) (bN 4 q7) f8 (bN 2 q9) (bH q10) f11 (b2 m12_0 m12_1) (b2 m13_0 m13_1) (b2 m14_0 m14_1) (b2m m15_0 (u_50 + 1)) f17 (bA 159 q31) f32 f34 f35 f36 f37 (bN 7 q38) f39 f40 f41 (b2 m42_0 m42_1) f43 f44 f47 f48 f49 f50 f51 (bN 13 q54) (bN 120 q55) (bN 120 q56) f57 (bN 120 q58) f59 f60 f64) := by rw [← b2m_up1 (a := m15_0) (b := m15_1) (v := u_50)]; exact hD
            refine lv_goto (tgt := 221) hx hb dX9_readLine_214 (by decide) ?_
            exact W.vret hx hb hr (fun t ht hW => ⟨⟨(), rfl, trivial, ⟨f1, q10, f11, f2, f3, q4, q5, q6, q7, f8, q9, m12_1, m13_1, m14_1, (u_50 + 1), z20_44, z21_45, z22_46, z23_47, z26_48, z27_49, ⟨by rw [ht]; exact hP, va_K.moved hW.alike hK, hD⟩, hm12_1, hm13_1, hm14_1, (by omega), hz21_45, hz22_46, hz26_48, by omega, by omega⟩⟩, hS.F ht⟩) hS.2.2 dX9_readLine_221
        · have c_26 : ¬ u_4 = 0 := fun z => c_26 ((nI_eq (a := u_4) (b := 0) (Nat.lt_of_le_of_lt hu_4 (Nat.le_of_ble_eq_true rfl)) (Nat.le_of_ble_eq_true rfl)).mpr z)
          refine lv_aload_n hx hb dX9_readLine_190 rfl (lv_at hl 0 rfl) ?_
          have hFc := pu_free hD hS hA
          refine va_callv (va_runV (As := []) (rest := []) ⟨hx, hb, hml, hown, hts⟩ (c_M_readPlace_1 l dC dI _ ad ck x0 x16 x18 x19 z20_21 z21_22 z22_23 z23_24 x24 x25 g_9 g_10 x29 x30 x33 x45 x46 x52 x53 x61 x62 x63 x65 x66 f1 f2 f3 q4 q5 q6 q7 f8 q9 q10 f11 m12_0 m12_1 m13_0 m13_1 m14_0 m14_1 m15_0 m15_1 f17 q31 f32 f34 f35 f36 f37 q38 f39 f40 f41 m42_0 m42_1 f43 f44 f47 f48 f49 f50 f51 q54 q55 q56 f57 q58 f59 f60 f64 hx16 hx18 hx19 hz21_22 hz22_23 hg_9 hx29 hx30 hx33 hx46 hx52 hx53 hx61 hx62 hx63 hx65 hm12_0 hm12_1 hm13_0 (by omega) hm14_0 hm14_1 hm15_0 hm15_1 hm42_0 hm42_1) (cwV 0 hts g_M_readLine_1_M_readPlace_1 rfl rfl rfl (by decide +kernel) ⟨Nat.le_of_ble_eq_true rfl, Nat.le_of_ble_eq_true rfl⟩) ⟨pu_bl, va_recv hK hP (ci := 9) (q0 := 0) rfl rfl, pu_in hP hK hD⟩ rfl rfl hl.1 rfl (lv_room (Nat.le_of_ble_eq_true rfl)) dX9_readLine_191 ⟨Nat.le_of_ble_eq_true rfl, Nat.le_of_ble_eq_true rfl⟩) hS (fun q _ h => hFc q h) hFc (fun u t H1 locs ht hvm hw hB hz1 hk1 hS => ?_)
          obtain ⟨z10_52, z11_53, z2_54, z3_55, z4_56, z9_57, z13_1_58, z20_59, z21_60, z22_61, z23_62, z26_63, z27_64, ⟨hP1, -, hD1⟩, hz13_1_58, hz21_60, hz22_61, hz26_63, xr_51_0⟩ := hB
          rw [ht] at hP1
          have hP := hP1
          have hD := pu_all hFc hD1
          clear hP1 hD1 hFc
          clear hk1 hz1 ht hvm
          generalize H1 = H at hP hS ⊢
          refine lv_goto (tgt := 221) hx hb dX9_readLine_194 (by decide) ?_
          exact W.vret hx hb hr (fun t ht hW => ⟨⟨(), rfl, trivial, ⟨f1, z10_52, z11_53, z2_54, z3_55, z4_56, q5, q6, q7, f8, z9_57, m12_1, z13_1_58, m14_1, m15_1, z20_59, z21_60, z22_61, z23_62, z26_63, z27_64, ⟨by rw [ht]; exact hP, va_K.moved hW.alike hK, hD⟩, hm12_1, hz13_1_58, hm14_1, hm15_1, hz21_60, hz22_61, hz26_63, by omega, by omega⟩⟩, hS.F ht⟩) hS.2.2 dX9_readLine_221
      · have c_25 : ¬ u_2 = 0 := fun z => c_25 ((nI_eq (a := u_2) (b := 0) (Nat.lt_of_le_of_lt hu_2 (Nat.le_of_ble_eq_true rfl)) (Nat.le_of_ble_eq_true rfl)).mpr z)
        refine lv_aload_n hx hb dX9_readLine_145 rfl (lv_at hl 0 rfl) ?_
        refine va_get (D := (dC, dI)) (ci := 9) (v := .ref (ad 1)) (C := RX9) (T := TX9) (N := 67) hx hb hts hiX9 hown hK hP 0 rfl rfl 1 (by decide) v_39 (fun _ h9 => h9) rfl dX9_readLine_146 ?_
        refine lv_iconst (v := 3) hx hb dX9_readLine_149 (by decide) ?_
        refine lv_aload_n hx hb dX9_readLine_150 rfl (lv_at hl 0 rfl) ?_
        refine va_get (D := (dC, dI)) (ci := 9) (v := .int 1) (C := RX9) (T := TX9) (N := 67) hx hb hts hiX9 hown hK hP 0 rfl rfl 28 (by decide) v_11 (fun _ h9 => h9) rfl dX9_readLine_151 ?_
        refine lv_imul hx hb dX9_readLine_154 ?_
        refine lv_topi (fun y_65 ey_65 => ?_)
        obtain rfl : y_65 = 3 := ey_65.trans (by decide)
        refine lv_aload_n hx hb dX9_readLine_155 rfl (lv_at hl 0 rfl) ?_
        refine va_get (D := (dC, dI)) (ci := 9) (v := .ref (ad 12)) (C := RX9) (T := TX9) (N := 67) hx hb hts hiX9 hown hK hP 0 rfl rfl 12 (by decide) v_10 (fun _ h9 => h9) rfl dX9_readLine_156 ?_
        refine lv_aload_n hx hb dX9_readLine_159 rfl (lv_at hl 0 rfl) ?_
        refine va_get (D := (dC, dI)) (ci := 9) (v := .int 1) (C := RX9) (T := TX9) (N := 67) hx hb hts hiX9 hown hK hP 0 rfl rfl 28 (by decide) v_11 (fun _ h9 => h9) rfl dX9_readLine_160 ?_
        refine va_iald hx hb hK hP 12 11 rfl rfl (vp_in_nI (n := 1) (Nat.le_of_ble_eq_true rfl) (Nat.le_of_ble_eq_true rfl)) dX9_readLine_163 ?_
        refine lv_topi (fun y_66 ey_66 => ?_)
        have qy_66 := ey_66.trans b2_1
        clear ey_66
        obtain rfl : y_66 = nI m12_1 := qy_66
        refine lv_iadd hx hb dX9_readLine_164 ?_
        refine lv_topi (fun y_67 ey_67 => ?_)
        obtain rfl : y_67 = (nI (3 + m12_1)) := ey_67.trans (nI_add 3 m12_1)
        refine lv_aload_n hx hb dX9_readLine_165 rfl (lv_at hl 0 rfl) ?_
        have hFc := pu_free hD hS hA
        refine va_calli (va_runV (As := []) (rest := [.int (nI (3 + m12_1)), .ref (ad 1)]) ⟨hx, hb, hml, hown, hts⟩ (c_M_freshName_1 l dC dI _ ad ck x0 x16 x18 x19 z20_21 z21_22 z22_23 z23_24 x24 x25 g_9 g_10 x29 x30 x33 x45 x46 x52 x53 x61 x62 x63 x65 x66 f1 f2 f3 q4 q5 q6 q7 f8 q9 q10 f11 m12_0 m12_1 m13_0 m13_1 m14_0 m14_1 m15_0 m15_1 f17 q31 f32 f34 f35 f36 f37 q38 f39 f40 f41 m42_0 m42_1 f43 f44 f47 f48 f49 f50 f51 q54 q55 q56 f57 q58 f59 f60 f64 hx16 hx18 hx19 hz21_22 hz22_23 hg_9 hx29 hx30 hx33 hx46 hx52 hx53 hx61 hx62 hx63 hx65 hm12_0 hm12_1 hm13_0 hm13_1 hm14_0 hm14_1 hm15_0 hm15_1 hm42_0 hm42_1) (cwV 0 hts g_M_readLine_1_M_freshName_1 rfl rfl rfl (by decide +kernel) ⟨Nat.le_of_ble_eq_true rfl, Nat.le_of_ble_eq_true rfl⟩) ⟨pu_bl, va_recv hK hP (ci := 9) (q0 := 0) rfl rfl, pu_in hP hK hD⟩ rfl rfl hl.1 rfl (lv_room (Nat.le_of_ble_eq_true rfl)) dX9_readLine_166 ⟨Nat.le_of_ble_eq_true rfl, Nat.le_of_ble_eq_true rfl⟩) hS (fun q _ h => hFc q h) hFc (fun r_68 u t H1 locs ht hvm hw hB hz1 hk1 hS => ?_)
        obtain ⟨z20_69, z21_70, z22_71, z23_72, z26_73, z27_74, ⟨hP1, -, hD1⟩, hz21_70, hz22_71, hz26_73, xr_68_0⟩ := hB
        rw [ht] at hP1
        have hP := hP1
        have hD := pu_all hFc hD1
        clear hP1 hD1 hFc
        clear hk1 hz1 ht hvm
        generalize H1 = H at hP hS ⊢
        refine va_iast hx hb hK hP hD hS 1 0 rfl rfl (vp_in_nI (n := (3 + m12_1)) (by omega) (Nat.le_of_ble_eq_true rfl)) dX9_readLine_169 (fun H locs hP hD hS => ?_)
        have hP : va_P (dC, dI) vwCl (mo_w ad ck x0 (nI x16) (nI x18) (nI x19) z20_69 (nI z21_70) (nI z22_71) z23_72 x24 x25 (nI z26_73) z27_74 1 (nI x29) (nI x30) (nI x33) x45 (nI x46) (nI x52) (nI x53) (nI x61) (nI x62) (nI x63) (nI x65) x66 (upd f1 ((nI (3 + m12_1)) : Int32).toNatClampNeg r_68) f2 f3 (bN 3 q4) (bN 7 q5) (bN 7 q6) (bN 4 q7) f8 (bN 2 q9) (bH q10) f11 (b2 m12_0 m12_1) (b2 m13_0 m13_1) (b2 m14_0 m14_1) (b2m m15_0 m15_1) f17 (bA 159 q31) f32 f34 f35 f36 f37 (bN 7 q38) f39 f40 f41 (b2 m42_0 m42_1) f43 f44 f47 f48 f49 f50 f51 (bN 13 q54) (bN 120 q55) (bN 120 q56) f57 (bN 120 q58) f59 f60 f64) H := hP
        have hD : va_D A (mo_w ad ck x0 (nI x16) (nI x18) (nI x19) z20_69 (nI z21_70) (nI z22_71) z23_72 x24 x25 (nI z26_73) z27_74 1 (nI x29) (nI x30) (nI x33) x45 (nI x46) (nI x52) (nI x53) (nI x61) (nI x62) (nI x63) (nI x65) x66 (upd f1 ((nI (3 + m12_1)) : Int32).toNatClampNeg r_68) f2 f3 (bN 3 q4) (bN 7 q5) (bN 7 q6) (bN 4 q7) f8 (bN 2 q9) (bH q10) f11 (b2 m12_0 m12_1) (b2 m13_0 m13_1) (b2 m14_0 m14_1) (b2m m15_0 m15_1) f17 (bA 159 q31) f32 f34 f35 f36 f37 (bN 7 q38) f39 f40 f41 (b2 m42_0 m42_1) f43 f44 f47 f48 f49 f50 f51 (bN 13 q54) (bN 120 q55) (bN 120 q56) f57 (bN 120 q58) f59 f60 f64) := hD
        refine lv_aload_n hx hb dX9_readLine_170 rfl (lv_at hl 0 rfl) ?_
        refine va_get (D := (dC, dI)) (ci := 9) (v := .ref (ad 12)) (C := RX9) (T := TX9) (N := 67) hx hb hts hiX9 hown hK hP 0 rfl rfl 12 (by decide) v_10 (fun _ h9 => h9) rfl dX9_readLine_171 ?_
        refine lv_aload_n hx hb dX9_readLine_174 rfl (lv_at hl 0 rfl) ?_
        refine va_get (D := (dC, dI)) (ci := 9) (v := .int 1) (C := RX9) (T := TX9) (N := 67) hx hb hts hiX9 hown hK hP 0 rfl rfl 28 (by decide) v_11 (fun _ h9 => h9) rfl dX9_readLine_175 ?_
        refine lv_dup2_11 hx hb dX9_readLine_178 rfl rfl ?_
        refine va_iald hx hb hK hP 12 11 rfl rfl (vp_in_nI (n := 1) (Nat.le_of_ble_eq_true rfl) (Nat.le_of_ble_eq_true rfl)) dX9_readLine_179 ?_
        refine lv_topi (fun y_75 ey_75 => ?_)
        have qy_75 := ey_75.trans b2_1
        clear ey_75
        obtain rfl : y_75 = nI m12_1 := qy_75
        refine lv_iconst (v := 1) hx hb dX9_readLine_180 (by decide) ?_
        refine lv_iadd hx hb dX9_readLine_181 ?_
        refine lv_topi (fun y_76 ey_76 => ?_)
        obtain rfl : y_76 = (nI (m12_1 + 1)) := ey_76.trans (nI_add m12_1 1)
        refine va_iast hx hb hK hP hD hS 12 11 rfl rfl (vp_in_nI (n := 1) (Nat.le_of_ble_eq_true rfl) (Nat.le_of_ble_eq_true rfl)) dX9_readLine_182 (fun H locs hP hD hS => ?_)
        have hP : va_P (dC, dI) vwCl (mo_w ad ck x0 (nI x16) (nI x18) (nI x19) z20_69 (nI z21_70) (nI z22_71) z23_72 x24 x25 (nI z26_73) z27_74 1 (nI x29) (nI x30) (nI x33) x45 (nI x46) (nI x52) (nI x53) (nI x61) (nI x62) (nI x63) (nI x65) x66 (upd f1 ((nI (3 + m12_1)) : Int32).toNatClampNeg r_68) f2 f3 (bN 3 q4) (bN 7 q5) (bN 7 q6) (bN 4 q7) f8 (bN 2 q9) (bH q10) f11 (b2 m12_0 (m12_1 + 1)) (b2 m13_0 m13_1) (b2 m14_0 m14_1) (b2m m15_0 m15_1) f17 (bA 159 q31) f32 f34 f35 f36 f37 (bN 7 q38) f39 f40 f41 (b2 m42_0 m42_1) f43 f44 f47 f48 f49 f50 f51 (bN 13 q54) (bN 120 q55) (bN 120 q56) f57 (bN 120 q58) f59 f60 f64) H := by rw [← b2_up1 (a := m12_0) (b := m12_1) (v := (m12_1 + 1))]; exact hP
        have hD : va_D A (mo_w ad ck x0 (nI x16) (nI x18) (nI x19) z20_69 (nI z21_70) (nI z22_71) z23_72 x24 x25 (nI z26_73) z27_74 1 (nI x29) (nI x30) (nI x33) x45 (nI x46) (nI x52) (nI x53) (nI x61) (nI x62) (nI x63) (nI x65) x66 (upd f1 ((nI (3 + m12_1)) : Int32).toNatClampNeg r_68) f2 f3 (bN 3 q4) (bN 7 q5) (bN 7 q6) (bN 4 q7) f8 (bN 2 q9) (bH q10) f11 (b2 m12_0 (m12_1 + 1)) (b2 m13_0 m13_1) (b2 m14_0 m14_1) (b2m m15_0 m15_1) f17 (bA 159 q31) f32 f34 f35 f36 f37 (bN 7 q38) f39 f40 f41 (b2 m42_0 m42_1) f43 f44 f47 f48 f49 f50 f51 (bN 13 q54) (bN 120 q55) (bN 120 q56) f57 (bN 120 q58) f59 f60 f64) := by rw [← b2_up1 (a := m12_0) (b := m12_1) (v := (m12_1 + 1))]; exact hD
        refine lv_goto (tgt := 221) hx hb dX9_readLine_183 (by decide) ?_
        exact W.vret hx hb hr (fun t ht hW => ⟨⟨(), rfl, trivial, ⟨(upd f1 ((nI (3 + m12_1)) : Int32).toNatClampNeg r_68), q10, f11, f2, f3, q4, q5, q6, q7, f8, q9, (m12_1 + 1), m13_1, m14_1, m15_1, z20_69, z21_70, z22_71, z23_72, z26_73, z27_74, ⟨by rw [ht]; exact hP, va_K.moved hW.alike hK, hD⟩, (by omega), hm13_1, hm14_1, hm15_1, hz21_70, hz22_71, hz26_73, by omega, by omega⟩⟩, hS.F ht⟩) hS.2.2 dX9_readLine_221
    · have c_19 : u_18 = 0 := (nI_eq (a := u_18) (b := 0) (Nat.lt_of_le_of_lt hu_18 (Nat.le_of_ble_eq_true rfl)) (Nat.le_of_ble_eq_true rfl)).mp c_19
      exact W.vret hx hb hr (fun t ht hW => ⟨⟨(), rfl, trivial, ⟨f1, q10, f11, f2, f3, q4, q5, q6, q7, f8, q9, m12_1, m13_1, m14_1, m15_1, x20, x21, x22, x23, g_9, g_10, ⟨by rw [ht]; exact hP, va_K.moved hW.alike hK, hD⟩, hm12_1, hm13_1, hm14_1, hm15_1, hx21, hx22, hg_9, by omega, by omega⟩⟩, hS.F ht⟩) hS.2.2 dX9_readLine_136
  refine lv_if_ne (tgt := 54) hx hb dX9_readLine_30 (by decide) (fun c_77 => ?_) (fun c_77 => ?_)
  · have c_77 : ¬ u_2 = 0 := fun z => c_77 ((nI_eq (a := u_2) (b := 0) (Nat.lt_of_le_of_lt hu_2 (Nat.le_of_ble_eq_true rfl)) (Nat.le_of_ble_eq_true rfl)).mpr z)
    refine lv_iload_n hx hb dX9_readLine_54 rfl (lv_at hl 3 rfl) ?_
    refine lv_if_eq (tgt := 71) hx hb dX9_readLine_55 (by decide) (fun c_78 => ?_) (fun c_78 => ?_)
    · have c_78 : u_2 = 0 := (nI_eq (a := u_2) (b := 0) (Nat.lt_of_le_of_lt hu_2 (Nat.le_of_ble_eq_true rfl)) (Nat.le_of_ble_eq_true rfl)).mp c_78
      exfalso
      omega
    · have c_78 : ¬ u_2 = 0 := fun z => c_78 ((nI_eq (a := u_2) (b := 0) (Nat.lt_of_le_of_lt hu_2 (Nat.le_of_ble_eq_true rfl)) (Nat.le_of_ble_eq_true rfl)).mpr z)
      refine lv_aload_n hx hb dX9_readLine_58 rfl (lv_at hl 4 rfl) ?_
      refine va_get (D := (dC, dI)) (ci := 9) (v := .ref (ad 12)) (C := RX9) (T := TX9) (N := 67) hx hb hts hiX9 hown hK hP 0 rfl rfl 12 (by decide) v_10 (fun _ h9 => h9) rfl dX9_readLine_59 ?_
      refine lv_aload_n hx hb dX9_readLine_62 rfl (lv_at hl 4 rfl) ?_
      refine va_get (D := (dC, dI)) (ci := 9) (v := .int 1) (C := RX9) (T := TX9) (N := 67) hx hb hts hiX9 hown hK hP 0 rfl rfl 28 (by decide) v_11 (fun _ h9 => h9) rfl dX9_readLine_63 ?_
      refine va_iald hx hb hK hP 12 11 rfl rfl (vp_in_nI (n := 1) (Nat.le_of_ble_eq_true rfl) (Nat.le_of_ble_eq_true rfl)) dX9_readLine_66 ?_
      refine lv_topi (fun y_79 ey_79 => ?_)
      have qy_79 := ey_79.trans b2_1
      clear ey_79
      obtain rfl : y_79 = nI m12_1 := qy_79
      refine lv_iconst (v := 3) hx hb dX9_readLine_67 (by decide) ?_
      refine lv_icmp_eq (tgt := 124) hx hb dX9_readLine_68 (by decide) (fun c_80 => ?_) (fun c_80 => ?_)
      · have c_80 : m12_1 = 3 := (nI_eq (a := m12_1) (b := 3) (Nat.lt_of_le_of_lt hm12_1 (Nat.le_of_ble_eq_true rfl)) (Nat.le_of_ble_eq_true rfl)).mp c_80
        refine lv_aload_n hx hb dX9_readLine_124 rfl (lv_at hl 4 rfl) ?_
        refine lv_iconst (v := 5) hx hb dX9_readLine_125 (by decide) ?_
        have hFc := pu_free hD hS hA
        refine va_callv (va_runV (As := [.int 5]) (rest := []) ⟨hx, hb, hml, hown, hts⟩ (c_M_fails l dC dI _ ad ck x0 x16 x18 x19 x20 x21 x22 x23 x24 x25 x26 x27 1 x29 x30 x33 x45 x46 x52 x53 x61 x62 x63 x65 x66 f1 f2 f3 q4 q5 q6 q7 f8 q9 q10 f11 m12_0 m12_1 m13_0 m13_1 m14_0 m14_1 m15_0 m15_1 f17 q31 f32 f34 f35 f36 f37 q38 f39 f40 f41 m42_0 m42_1 f43 f44 f47 f48 f49 f50 f51 q54 q55 q56 f57 q58 f59 f60 f64 5 hx16 hx18 hx19 hx21 hx22 hx26 (Nat.le_of_ble_eq_true rfl) hx29 hx30 hx33 hx46 hx52 hx53 hx61 hx62 hx63 hx65 hm12_0 hm12_1 hm13_0 hm13_1 hm14_0 hm14_1 hm15_0 hm15_1 hm42_0 hm42_1 (Nat.le_of_ble_eq_true rfl) (by omega)) (cwV 1 hts g_M_readLine_1_M_fails rfl rfl rfl (by decide +kernel) ⟨Nat.le_of_ble_eq_true rfl, Nat.le_of_ble_eq_true rfl⟩) ⟨pu_bl, va_recv hK hP (ci := 9) (q0 := 0) rfl rfl, pu_in hP hK hD⟩ rfl rfl hl.1 rfl (lv_room (Nat.le_of_ble_eq_true rfl)) dX9_readLine_126 ⟨Nat.le_of_ble_eq_true rfl, Nat.le_of_ble_eq_true rfl⟩) hS (fun q _ h => hFc q h) hFc (fun u t H1 locs ht hvm hw hB hz1 hk1 hS => ?_)
        obtain ⟨z26_82, z27_83, ⟨hP1, -, hD1⟩, hz26_82, xr_81_0⟩ := hB
        rw [ht] at hP1
        have hP := hP1
        have hD := pu_all hFc hD1
        clear hP1 hD1 hFc
        clear hk1 hz1 ht hvm
        generalize H1 = H at hP hS ⊢
        exact j_16 _ _ _ _ ⟨z26_82, z27_83, rfl, hz26_82, by omega, by omega, by omega, by omega, by omega, hP, hD, hS, lv_sub hl [4, 3, 2, 1, 0] rfl⟩
      · have c_80 : ¬ m12_1 = 3 := fun z => c_80 ((nI_eq (a := m12_1) (b := 3) (Nat.lt_of_le_of_lt hm12_1 (Nat.le_of_ble_eq_true rfl)) (Nat.le_of_ble_eq_true rfl)).mpr z)
        refine lv_iload_n hx hb dX9_readLine_71 rfl (lv_at hl 2 rfl) ?_
        refine lv_if_eq (tgt := 89) hx hb dX9_readLine_72 (by decide) (fun c_84 => ?_) (fun c_84 => ?_)
        · have c_84 : u_4 = 0 := (nI_eq (a := u_4) (b := 0) (Nat.lt_of_le_of_lt hu_4 (Nat.le_of_ble_eq_true rfl)) (Nat.le_of_ble_eq_true rfl)).mp c_84
          refine lv_iload_n hx hb dX9_readLine_89 rfl (lv_at hl 1 rfl) ?_
          refine lv_if_eq (tgt := 105) hx hb dX9_readLine_90 (by decide) (fun c_85 => ?_) (fun c_85 => ?_)
          · have c_85 : u_6 = 0 := (nI_eq (a := u_6) (b := 0) (Nat.lt_of_le_of_lt hu_6 (Nat.le_of_ble_eq_true rfl)) (Nat.le_of_ble_eq_true rfl)).mp c_85
            refine lv_iload hx hb dX9_readLine_105 (lv_at hl 0 rfl) ?_
            refine lv_if_eq (tgt := 129) hx hb dX9_readLine_107 (by decide) (fun c_86 => ?_) (fun c_86 => ?_)
            · have c_86 : u_8 = 0 := (nI_eq (a := u_8) (b := 0) (Nat.lt_of_le_of_lt hu_8 (Nat.le_of_ble_eq_true rfl)) (Nat.le_of_ble_eq_true rfl)).mp c_86
              exact j_16 _ _ _ _ ⟨x26, x27, rfl, hx26, by omega, by omega, by omega, by omega, by omega, hP, hD, hS, lv_sub hl [4, 3, 2, 1, 0] rfl⟩
            · have c_86 : ¬ u_8 = 0 := fun z => c_86 ((nI_eq (a := u_8) (b := 0) (Nat.lt_of_le_of_lt hu_8 (Nat.le_of_ble_eq_true rfl)) (Nat.le_of_ble_eq_true rfl)).mpr z)
              refine lv_aload_n hx hb dX9_readLine_110 rfl (lv_at hl 4 rfl) ?_
              refine va_get (D := (dC, dI)) (ci := 9) (v := .ref (ad 14)) (C := RX9) (T := TX9) (N := 67) hx hb hts hiX9 hown hK hP 0 rfl rfl 14 (by decide) v_16 (fun _ h9 => h9) rfl dX9_readLine_111 ?_
              refine lv_aload_n hx hb dX9_readLine_114 rfl (lv_at hl 4 rfl) ?_
              refine va_get (D := (dC, dI)) (ci := 9) (v := .int 1) (C := RX9) (T := TX9) (N := 67) hx hb hts hiX9 hown hK hP 0 rfl rfl 28 (by decide) v_11 (fun _ h9 => h9) rfl dX9_readLine_115 ?_
              refine va_iald hx hb hK hP 14 13 rfl rfl (vp_in_nI (n := 1) (Nat.le_of_ble_eq_true rfl) (Nat.le_of_ble_eq_true rfl)) dX9_readLine_118 ?_
              refine lv_topi (fun y_87 ey_87 => ?_)
              have qy_87 := ey_87.trans b2_1
              clear ey_87
              obtain rfl : y_87 = nI m14_1 := qy_87
              refine lv_bipush (v := 14) hx hb dX9_readLine_119 (by decide) ?_
              refine lv_icmp_ne (tgt := 129) hx hb dX9_readLine_121 (by decide) (fun c_88 => ?_) (fun c_88 => ?_)
              · have c_88 : ¬ m14_1 = 14 := fun z => c_88 ((nI_eq (a := m14_1) (b := 14) (Nat.lt_of_le_of_lt hm14_1 (Nat.le_of_ble_eq_true rfl)) (Nat.le_of_ble_eq_true rfl)).mpr z)
                exact j_16 _ _ _ _ ⟨x26, x27, rfl, hx26, by omega, by omega, by omega, by omega, by omega, hP, hD, hS, lv_sub hl [4, 3, 2, 1, 0] rfl⟩
              · have c_88 : m14_1 = 14 := (nI_eq (a := m14_1) (b := 14) (Nat.lt_of_le_of_lt hm14_1 (Nat.le_of_ble_eq_true rfl)) (Nat.le_of_ble_eq_true rfl)).mp c_88
                refine lv_aload_n hx hb dX9_readLine_124 rfl (lv_at hl 4 rfl) ?_
                refine lv_iconst (v := 5) hx hb dX9_readLine_125 (by decide) ?_
                have hFc := pu_free hD hS hA
                refine va_callv (va_runV (As := [.int 5]) (rest := []) ⟨hx, hb, hml, hown, hts⟩ (c_M_fails l dC dI _ ad ck x0 x16 x18 x19 x20 x21 x22 x23 x24 x25 x26 x27 1 x29 x30 x33 x45 x46 x52 x53 x61 x62 x63 x65 x66 f1 f2 f3 q4 q5 q6 q7 f8 q9 q10 f11 m12_0 m12_1 m13_0 m13_1 m14_0 m14_1 m15_0 m15_1 f17 q31 f32 f34 f35 f36 f37 q38 f39 f40 f41 m42_0 m42_1 f43 f44 f47 f48 f49 f50 f51 q54 q55 q56 f57 q58 f59 f60 f64 5 hx16 hx18 hx19 hx21 hx22 hx26 (Nat.le_of_ble_eq_true rfl) hx29 hx30 hx33 hx46 hx52 hx53 hx61 hx62 hx63 hx65 hm12_0 hm12_1 hm13_0 hm13_1 hm14_0 hm14_1 hm15_0 hm15_1 hm42_0 hm42_1 (Nat.le_of_ble_eq_true rfl) (by omega)) (cwV 1 hts g_M_readLine_1_M_fails rfl rfl rfl (by decide +kernel) ⟨Nat.le_of_ble_eq_true rfl, Nat.le_of_ble_eq_true rfl⟩) ⟨pu_bl, va_recv hK hP (ci := 9) (q0 := 0) rfl rfl, pu_in hP hK hD⟩ rfl rfl hl.1 rfl (lv_room (Nat.le_of_ble_eq_true rfl)) dX9_readLine_126 ⟨Nat.le_of_ble_eq_true rfl, Nat.le_of_ble_eq_true rfl⟩) hS (fun q _ h => hFc q h) hFc (fun u t H1 locs ht hvm hw hB hz1 hk1 hS => ?_)
                obtain ⟨z26_90, z27_91, ⟨hP1, -, hD1⟩, hz26_90, xr_89_0⟩ := hB
                rw [ht] at hP1
                have hP := hP1
                have hD := pu_all hFc hD1
                clear hP1 hD1 hFc
                clear hk1 hz1 ht hvm
                generalize H1 = H at hP hS ⊢
                exact j_16 _ _ _ _ ⟨z26_90, z27_91, rfl, hz26_90, by omega, by omega, by omega, by omega, by omega, hP, hD, hS, lv_sub hl [4, 3, 2, 1, 0] rfl⟩
          · have c_85 : ¬ u_6 = 0 := fun z => c_85 ((nI_eq (a := u_6) (b := 0) (Nat.lt_of_le_of_lt hu_6 (Nat.le_of_ble_eq_true rfl)) (Nat.le_of_ble_eq_true rfl)).mpr z)
            refine lv_aload_n hx hb dX9_readLine_93 rfl (lv_at hl 4 rfl) ?_
            refine va_get (D := (dC, dI)) (ci := 9) (v := .ref (ad 15)) (C := RX9) (T := TX9) (N := 67) hx hb hts hiX9 hown hK hP 0 rfl rfl 15 (by decide) v_17 (fun _ h9 => h9) rfl dX9_readLine_94 ?_
            refine lv_aload_n hx hb dX9_readLine_97 rfl (lv_at hl 4 rfl) ?_
            refine va_get (D := (dC, dI)) (ci := 9) (v := .int 1) (C := RX9) (T := TX9) (N := 67) hx hb hts hiX9 hown hK hP 0 rfl rfl 28 (by decide) v_11 (fun _ h9 => h9) rfl dX9_readLine_98 ?_
            refine va_iald hx hb hK hP 15 14 rfl rfl (vp_in_nI (n := 1) (Nat.le_of_ble_eq_true rfl) (Nat.le_of_ble_eq_true rfl)) dX9_readLine_101 ?_
            refine lv_topi (fun y_92 ey_92 => ?_)
            have qy_92 := ey_92.trans b2m_1
            clear ey_92
            rcases mI_get m15_1 with ⟨zy_92, wy_92⟩ | ⟨vy_92, zy_92, wy_92⟩
            · obtain rfl : y_92 = -1 := qy_92.trans wy_92
              refine lv_if_ge (tgt := 124) hx hb dX9_readLine_102 (by decide) (fun z => absurd z (by decide)) (fun _ => ?_)
              refine lv_iload hx hb dX9_readLine_105 (lv_at hl 0 rfl) ?_
              refine lv_if_eq (tgt := 129) hx hb dX9_readLine_107 (by decide) (fun c_93 => ?_) (fun c_93 => ?_)
              · have c_93 : u_8 = 0 := (nI_eq (a := u_8) (b := 0) (Nat.lt_of_le_of_lt hu_8 (Nat.le_of_ble_eq_true rfl)) (Nat.le_of_ble_eq_true rfl)).mp c_93
                exact j_16 _ _ _ _ ⟨x26, x27, rfl, hx26, by omega, by omega, by omega, by omega, by omega, hP, hD, hS, lv_sub hl [4, 3, 2, 1, 0] rfl⟩
              · have c_93 : ¬ u_8 = 0 := fun z => c_93 ((nI_eq (a := u_8) (b := 0) (Nat.lt_of_le_of_lt hu_8 (Nat.le_of_ble_eq_true rfl)) (Nat.le_of_ble_eq_true rfl)).mpr z)
                refine lv_aload_n hx hb dX9_readLine_110 rfl (lv_at hl 4 rfl) ?_
                refine va_get (D := (dC, dI)) (ci := 9) (v := .ref (ad 14)) (C := RX9) (T := TX9) (N := 67) hx hb hts hiX9 hown hK hP 0 rfl rfl 14 (by decide) v_16 (fun _ h9 => h9) rfl dX9_readLine_111 ?_
                refine lv_aload_n hx hb dX9_readLine_114 rfl (lv_at hl 4 rfl) ?_
                refine va_get (D := (dC, dI)) (ci := 9) (v := .int 1) (C := RX9) (T := TX9) (N := 67) hx hb hts hiX9 hown hK hP 0 rfl rfl 28 (by decide) v_11 (fun _ h9 => h9) rfl dX9_readLine_115 ?_
                refine va_iald hx hb hK hP 14 13 rfl rfl (vp_in_nI (n := 1) (Nat.le_of_ble_eq_true rfl) (Nat.le_of_ble_eq_true rfl)) dX9_readLine_118 ?_
                refine lv_topi (fun y_94 ey_94 => ?_)
                have qy_94 := ey_94.trans b2_1
                clear ey_94
                obtain rfl : y_94 = nI m14_1 := qy_94
                refine lv_bipush (v := 14) hx hb dX9_readLine_119 (by decide) ?_
                refine lv_icmp_ne (tgt := 129) hx hb dX9_readLine_121 (by decide) (fun c_95 => ?_) (fun c_95 => ?_)
                · have c_95 : ¬ m14_1 = 14 := fun z => c_95 ((nI_eq (a := m14_1) (b := 14) (Nat.lt_of_le_of_lt hm14_1 (Nat.le_of_ble_eq_true rfl)) (Nat.le_of_ble_eq_true rfl)).mpr z)
                  exact j_16 _ _ _ _ ⟨x26, x27, rfl, hx26, by omega, by omega, by omega, by omega, by omega, hP, hD, hS, lv_sub hl [4, 3, 2, 1, 0] rfl⟩
                · have c_95 : m14_1 = 14 := (nI_eq (a := m14_1) (b := 14) (Nat.lt_of_le_of_lt hm14_1 (Nat.le_of_ble_eq_true rfl)) (Nat.le_of_ble_eq_true rfl)).mp c_95
                  refine lv_aload_n hx hb dX9_readLine_124 rfl (lv_at hl 4 rfl) ?_
                  refine lv_iconst (v := 5) hx hb dX9_readLine_125 (by decide) ?_
                  have hFc := pu_free hD hS hA
                  refine va_callv (va_runV (As := [.int 5]) (rest := []) ⟨hx, hb, hml, hown, hts⟩ (c_M_fails l dC dI _ ad ck x0 x16 x18 x19 x20 x21 x22 x23 x24 x25 x26 x27 1 x29 x30 x33 x45 x46 x52 x53 x61 x62 x63 x65 x66 f1 f2 f3 q4 q5 q6 q7 f8 q9 q10 f11 m12_0 m12_1 m13_0 m13_1 m14_0 m14_1 m15_0 m15_1 f17 q31 f32 f34 f35 f36 f37 q38 f39 f40 f41 m42_0 m42_1 f43 f44 f47 f48 f49 f50 f51 q54 q55 q56 f57 q58 f59 f60 f64 5 hx16 hx18 hx19 hx21 hx22 hx26 (Nat.le_of_ble_eq_true rfl) hx29 hx30 hx33 hx46 hx52 hx53 hx61 hx62 hx63 hx65 hm12_0 hm12_1 hm13_0 hm13_1 hm14_0 hm14_1 hm15_0 hm15_1 hm42_0 hm42_1 (Nat.le_of_ble_eq_true rfl) (by omega)) (cwV 1 hts g_M_readLine_1_M_fails rfl rfl rfl (by decide +kernel) ⟨Nat.le_of_ble_eq_true rfl, Nat.le_of_ble_eq_true rfl⟩) ⟨pu_bl, va_recv hK hP (ci := 9) (q0 := 0) rfl rfl, pu_in hP hK hD⟩ rfl rfl hl.1 rfl (lv_room (Nat.le_of_ble_eq_true rfl)) dX9_readLine_126 ⟨Nat.le_of_ble_eq_true rfl, Nat.le_of_ble_eq_true rfl⟩) hS (fun q _ h => hFc q h) hFc (fun u t H1 locs ht hvm hw hB hz1 hk1 hS => ?_)
                  obtain ⟨z26_97, z27_98, ⟨hP1, -, hD1⟩, hz26_97, xr_96_0⟩ := hB
                  rw [ht] at hP1
                  have hP := hP1
                  have hD := pu_all hFc hD1
                  clear hP1 hD1 hFc
                  clear hk1 hz1 ht hvm
                  generalize H1 = H at hP hS ⊢
                  exact j_16 _ _ _ _ ⟨z26_97, z27_98, rfl, hz26_97, by omega, by omega, by omega, by omega, by omega, hP, hD, hS, lv_sub hl [4, 3, 2, 1, 0] rfl⟩
            · obtain rfl : y_92 = nI vy_92 := qy_92.trans wy_92
              refine lv_if_ge (tgt := 124) hx hb dX9_readLine_102 (by decide) (fun c_99 => ?_) (fun c_99 => ?_)
              · have c_99 : 0 ≤ vy_92 := (nI_leI (a := 0) (b := vy_92) (Nat.le_of_ble_eq_true rfl) (by omega)).mp c_99
                refine lv_aload_n hx hb dX9_readLine_124 rfl (lv_at hl 4 rfl) ?_
                refine lv_iconst (v := 5) hx hb dX9_readLine_125 (by decide) ?_
                have hFc := pu_free hD hS hA
                refine va_callv (va_runV (As := [.int 5]) (rest := []) ⟨hx, hb, hml, hown, hts⟩ (c_M_fails l dC dI _ ad ck x0 x16 x18 x19 x20 x21 x22 x23 x24 x25 x26 x27 1 x29 x30 x33 x45 x46 x52 x53 x61 x62 x63 x65 x66 f1 f2 f3 q4 q5 q6 q7 f8 q9 q10 f11 m12_0 m12_1 m13_0 m13_1 m14_0 m14_1 m15_0 m15_1 f17 q31 f32 f34 f35 f36 f37 q38 f39 f40 f41 m42_0 m42_1 f43 f44 f47 f48 f49 f50 f51 q54 q55 q56 f57 q58 f59 f60 f64 5 hx16 hx18 hx19 hx21 hx22 hx26 (Nat.le_of_ble_eq_true rfl) hx29 hx30 hx33 hx46 hx52 hx53 hx61 hx62 hx63 hx65 hm12_0 hm12_1 hm13_0 hm13_1 hm14_0 hm14_1 hm15_0 hm15_1 hm42_0 hm42_1 (Nat.le_of_ble_eq_true rfl) (by omega)) (cwV 1 hts g_M_readLine_1_M_fails rfl rfl rfl (by decide +kernel) ⟨Nat.le_of_ble_eq_true rfl, Nat.le_of_ble_eq_true rfl⟩) ⟨pu_bl, va_recv hK hP (ci := 9) (q0 := 0) rfl rfl, pu_in hP hK hD⟩ rfl rfl hl.1 rfl (lv_room (Nat.le_of_ble_eq_true rfl)) dX9_readLine_126 ⟨Nat.le_of_ble_eq_true rfl, Nat.le_of_ble_eq_true rfl⟩) hS (fun q _ h => hFc q h) hFc (fun u t H1 locs ht hvm hw hB hz1 hk1 hS => ?_)
                obtain ⟨z26_101, z27_102, ⟨hP1, -, hD1⟩, hz26_101, xr_100_0⟩ := hB
                rw [ht] at hP1
                have hP := hP1
                have hD := pu_all hFc hD1
                clear hP1 hD1 hFc
                clear hk1 hz1 ht hvm
                generalize H1 = H at hP hS ⊢
                exact j_16 _ _ _ _ ⟨z26_101, z27_102, rfl, hz26_101, by omega, by omega, by omega, by omega, by omega, hP, hD, hS, lv_sub hl [4, 3, 2, 1, 0] rfl⟩
              · have c_99 : ¬ 0 ≤ vy_92 := fun z => c_99 ((nI_leI (a := 0) (b := vy_92) (Nat.le_of_ble_eq_true rfl) (by omega)).mpr z)
                exfalso
                omega
        · have c_84 : ¬ u_4 = 0 := fun z => c_84 ((nI_eq (a := u_4) (b := 0) (Nat.lt_of_le_of_lt hu_4 (Nat.le_of_ble_eq_true rfl)) (Nat.le_of_ble_eq_true rfl)).mpr z)
          refine lv_aload_n hx hb dX9_readLine_75 rfl (lv_at hl 4 rfl) ?_
          refine va_get (D := (dC, dI)) (ci := 9) (v := .ref (ad 13)) (C := RX9) (T := TX9) (N := 67) hx hb hts hiX9 hown hK hP 0 rfl rfl 13 (by decide) v_18 (fun _ h9 => h9) rfl dX9_readLine_76 ?_
          refine lv_aload_n hx hb dX9_readLine_79 rfl (lv_at hl 4 rfl) ?_
          refine va_get (D := (dC, dI)) (ci := 9) (v := .int 1) (C := RX9) (T := TX9) (N := 67) hx hb hts hiX9 hown hK hP 0 rfl rfl 28 (by decide) v_11 (fun _ h9 => h9) rfl dX9_readLine_80 ?_
          refine va_iald hx hb hK hP 13 12 rfl rfl (vp_in_nI (n := 1) (Nat.le_of_ble_eq_true rfl) (Nat.le_of_ble_eq_true rfl)) dX9_readLine_83 ?_
          refine lv_topi (fun y_103 ey_103 => ?_)
          have qy_103 := ey_103.trans b2_1
          clear ey_103
          obtain rfl : y_103 = nI m13_1 := qy_103
          refine lv_bipush (v := 8) hx hb dX9_readLine_84 (by decide) ?_
          refine lv_icmp_eq (tgt := 124) hx hb dX9_readLine_86 (by decide) (fun c_104 => ?_) (fun c_104 => ?_)
          · have c_104 : m13_1 = 8 := (nI_eq (a := m13_1) (b := 8) (Nat.lt_of_le_of_lt hm13_1 (Nat.le_of_ble_eq_true rfl)) (Nat.le_of_ble_eq_true rfl)).mp c_104
            refine lv_aload_n hx hb dX9_readLine_124 rfl (lv_at hl 4 rfl) ?_
            refine lv_iconst (v := 5) hx hb dX9_readLine_125 (by decide) ?_
            have hFc := pu_free hD hS hA
            refine va_callv (va_runV (As := [.int 5]) (rest := []) ⟨hx, hb, hml, hown, hts⟩ (c_M_fails l dC dI _ ad ck x0 x16 x18 x19 x20 x21 x22 x23 x24 x25 x26 x27 1 x29 x30 x33 x45 x46 x52 x53 x61 x62 x63 x65 x66 f1 f2 f3 q4 q5 q6 q7 f8 q9 q10 f11 m12_0 m12_1 m13_0 m13_1 m14_0 m14_1 m15_0 m15_1 f17 q31 f32 f34 f35 f36 f37 q38 f39 f40 f41 m42_0 m42_1 f43 f44 f47 f48 f49 f50 f51 q54 q55 q56 f57 q58 f59 f60 f64 5 hx16 hx18 hx19 hx21 hx22 hx26 (Nat.le_of_ble_eq_true rfl) hx29 hx30 hx33 hx46 hx52 hx53 hx61 hx62 hx63 hx65 hm12_0 hm12_1 hm13_0 hm13_1 hm14_0 hm14_1 hm15_0 hm15_1 hm42_0 hm42_1 (Nat.le_of_ble_eq_true rfl) (by omega)) (cwV 1 hts g_M_readLine_1_M_fails rfl rfl rfl (by decide +kernel) ⟨Nat.le_of_ble_eq_true rfl, Nat.le_of_ble_eq_true rfl⟩) ⟨pu_bl, va_recv hK hP (ci := 9) (q0 := 0) rfl rfl, pu_in hP hK hD⟩ rfl rfl hl.1 rfl (lv_room (Nat.le_of_ble_eq_true rfl)) dX9_readLine_126 ⟨Nat.le_of_ble_eq_true rfl, Nat.le_of_ble_eq_true rfl⟩) hS (fun q _ h => hFc q h) hFc (fun u t H1 locs ht hvm hw hB hz1 hk1 hS => ?_)
            obtain ⟨z26_106, z27_107, ⟨hP1, -, hD1⟩, hz26_106, xr_105_0⟩ := hB
            rw [ht] at hP1
            have hP := hP1
            have hD := pu_all hFc hD1
            clear hP1 hD1 hFc
            clear hk1 hz1 ht hvm
            generalize H1 = H at hP hS ⊢
            exact j_16 _ _ _ _ ⟨z26_106, z27_107, rfl, hz26_106, by omega, by omega, by omega, by omega, by omega, hP, hD, hS, lv_sub hl [4, 3, 2, 1, 0] rfl⟩
          · have c_104 : ¬ m13_1 = 8 := fun z => c_104 ((nI_eq (a := m13_1) (b := 8) (Nat.lt_of_le_of_lt hm13_1 (Nat.le_of_ble_eq_true rfl)) (Nat.le_of_ble_eq_true rfl)).mpr z)
            refine lv_iload_n hx hb dX9_readLine_89 rfl (lv_at hl 1 rfl) ?_
            refine lv_if_eq (tgt := 105) hx hb dX9_readLine_90 (by decide) (fun c_108 => ?_) (fun c_108 => ?_)
            · have c_108 : u_6 = 0 := (nI_eq (a := u_6) (b := 0) (Nat.lt_of_le_of_lt hu_6 (Nat.le_of_ble_eq_true rfl)) (Nat.le_of_ble_eq_true rfl)).mp c_108
              refine lv_iload hx hb dX9_readLine_105 (lv_at hl 0 rfl) ?_
              refine lv_if_eq (tgt := 129) hx hb dX9_readLine_107 (by decide) (fun c_109 => ?_) (fun c_109 => ?_)
              · have c_109 : u_8 = 0 := (nI_eq (a := u_8) (b := 0) (Nat.lt_of_le_of_lt hu_8 (Nat.le_of_ble_eq_true rfl)) (Nat.le_of_ble_eq_true rfl)).mp c_109
                exact j_16 _ _ _ _ ⟨x26, x27, rfl, hx26, by omega, by omega, by omega, by omega, by omega, hP, hD, hS, lv_sub hl [4, 3, 2, 1, 0] rfl⟩
              · have c_109 : ¬ u_8 = 0 := fun z => c_109 ((nI_eq (a := u_8) (b := 0) (Nat.lt_of_le_of_lt hu_8 (Nat.le_of_ble_eq_true rfl)) (Nat.le_of_ble_eq_true rfl)).mpr z)
                refine lv_aload_n hx hb dX9_readLine_110 rfl (lv_at hl 4 rfl) ?_
                refine va_get (D := (dC, dI)) (ci := 9) (v := .ref (ad 14)) (C := RX9) (T := TX9) (N := 67) hx hb hts hiX9 hown hK hP 0 rfl rfl 14 (by decide) v_16 (fun _ h9 => h9) rfl dX9_readLine_111 ?_
                refine lv_aload_n hx hb dX9_readLine_114 rfl (lv_at hl 4 rfl) ?_
                refine va_get (D := (dC, dI)) (ci := 9) (v := .int 1) (C := RX9) (T := TX9) (N := 67) hx hb hts hiX9 hown hK hP 0 rfl rfl 28 (by decide) v_11 (fun _ h9 => h9) rfl dX9_readLine_115 ?_
                refine va_iald hx hb hK hP 14 13 rfl rfl (vp_in_nI (n := 1) (Nat.le_of_ble_eq_true rfl) (Nat.le_of_ble_eq_true rfl)) dX9_readLine_118 ?_
                refine lv_topi (fun y_110 ey_110 => ?_)
                have qy_110 := ey_110.trans b2_1
                clear ey_110
                obtain rfl : y_110 = nI m14_1 := qy_110
                refine lv_bipush (v := 14) hx hb dX9_readLine_119 (by decide) ?_
                refine lv_icmp_ne (tgt := 129) hx hb dX9_readLine_121 (by decide) (fun c_111 => ?_) (fun c_111 => ?_)
                · have c_111 : ¬ m14_1 = 14 := fun z => c_111 ((nI_eq (a := m14_1) (b := 14) (Nat.lt_of_le_of_lt hm14_1 (Nat.le_of_ble_eq_true rfl)) (Nat.le_of_ble_eq_true rfl)).mpr z)
                  exact j_16 _ _ _ _ ⟨x26, x27, rfl, hx26, by omega, by omega, by omega, by omega, by omega, hP, hD, hS, lv_sub hl [4, 3, 2, 1, 0] rfl⟩
                · have c_111 : m14_1 = 14 := (nI_eq (a := m14_1) (b := 14) (Nat.lt_of_le_of_lt hm14_1 (Nat.le_of_ble_eq_true rfl)) (Nat.le_of_ble_eq_true rfl)).mp c_111
                  refine lv_aload_n hx hb dX9_readLine_124 rfl (lv_at hl 4 rfl) ?_
                  refine lv_iconst (v := 5) hx hb dX9_readLine_125 (by decide) ?_
                  have hFc := pu_free hD hS hA
                  refine va_callv (va_runV (As := [.int 5]) (rest := []) ⟨hx, hb, hml, hown, hts⟩ (c_M_fails l dC dI _ ad ck x0 x16 x18 x19 x20 x21 x22 x23 x24 x25 x26 x27 1 x29 x30 x33 x45 x46 x52 x53 x61 x62 x63 x65 x66 f1 f2 f3 q4 q5 q6 q7 f8 q9 q10 f11 m12_0 m12_1 m13_0 m13_1 m14_0 m14_1 m15_0 m15_1 f17 q31 f32 f34 f35 f36 f37 q38 f39 f40 f41 m42_0 m42_1 f43 f44 f47 f48 f49 f50 f51 q54 q55 q56 f57 q58 f59 f60 f64 5 hx16 hx18 hx19 hx21 hx22 hx26 (Nat.le_of_ble_eq_true rfl) hx29 hx30 hx33 hx46 hx52 hx53 hx61 hx62 hx63 hx65 hm12_0 hm12_1 hm13_0 hm13_1 hm14_0 hm14_1 hm15_0 hm15_1 hm42_0 hm42_1 (Nat.le_of_ble_eq_true rfl) (by omega)) (cwV 1 hts g_M_readLine_1_M_fails rfl rfl rfl (by decide +kernel) ⟨Nat.le_of_ble_eq_true rfl, Nat.le_of_ble_eq_true rfl⟩) ⟨pu_bl, va_recv hK hP (ci := 9) (q0 := 0) rfl rfl, pu_in hP hK hD⟩ rfl rfl hl.1 rfl (lv_room (Nat.le_of_ble_eq_true rfl)) dX9_readLine_126 ⟨Nat.le_of_ble_eq_true rfl, Nat.le_of_ble_eq_true rfl⟩) hS (fun q _ h => hFc q h) hFc (fun u t H1 locs ht hvm hw hB hz1 hk1 hS => ?_)
                  obtain ⟨z26_113, z27_114, ⟨hP1, -, hD1⟩, hz26_113, xr_112_0⟩ := hB
                  rw [ht] at hP1
                  have hP := hP1
                  have hD := pu_all hFc hD1
                  clear hP1 hD1 hFc
                  clear hk1 hz1 ht hvm
                  generalize H1 = H at hP hS ⊢
                  exact j_16 _ _ _ _ ⟨z26_113, z27_114, rfl, hz26_113, by omega, by omega, by omega, by omega, by omega, hP, hD, hS, lv_sub hl [4, 3, 2, 1, 0] rfl⟩
            · have c_108 : ¬ u_6 = 0 := fun z => c_108 ((nI_eq (a := u_6) (b := 0) (Nat.lt_of_le_of_lt hu_6 (Nat.le_of_ble_eq_true rfl)) (Nat.le_of_ble_eq_true rfl)).mpr z)
              refine lv_aload_n hx hb dX9_readLine_93 rfl (lv_at hl 4 rfl) ?_
              refine va_get (D := (dC, dI)) (ci := 9) (v := .ref (ad 15)) (C := RX9) (T := TX9) (N := 67) hx hb hts hiX9 hown hK hP 0 rfl rfl 15 (by decide) v_17 (fun _ h9 => h9) rfl dX9_readLine_94 ?_
              refine lv_aload_n hx hb dX9_readLine_97 rfl (lv_at hl 4 rfl) ?_
              refine va_get (D := (dC, dI)) (ci := 9) (v := .int 1) (C := RX9) (T := TX9) (N := 67) hx hb hts hiX9 hown hK hP 0 rfl rfl 28 (by decide) v_11 (fun _ h9 => h9) rfl dX9_readLine_98 ?_
              refine va_iald hx hb hK hP 15 14 rfl rfl (vp_in_nI (n := 1) (Nat.le_of_ble_eq_true rfl) (Nat.le_of_ble_eq_true rfl)) dX9_readLine_101 ?_
              refine lv_topi (fun y_115 ey_115 => ?_)
              have qy_115 := ey_115.trans b2m_1
              clear ey_115
              rcases mI_get m15_1 with ⟨zy_115, wy_115⟩ | ⟨vy_115, zy_115, wy_115⟩
              · obtain rfl : y_115 = -1 := qy_115.trans wy_115
                refine lv_if_ge (tgt := 124) hx hb dX9_readLine_102 (by decide) (fun z => absurd z (by decide)) (fun _ => ?_)
                refine lv_iload hx hb dX9_readLine_105 (lv_at hl 0 rfl) ?_
                refine lv_if_eq (tgt := 129) hx hb dX9_readLine_107 (by decide) (fun c_116 => ?_) (fun c_116 => ?_)
                · have c_116 : u_8 = 0 := (nI_eq (a := u_8) (b := 0) (Nat.lt_of_le_of_lt hu_8 (Nat.le_of_ble_eq_true rfl)) (Nat.le_of_ble_eq_true rfl)).mp c_116
                  exact j_16 _ _ _ _ ⟨x26, x27, rfl, hx26, by omega, by omega, by omega, by omega, by omega, hP, hD, hS, lv_sub hl [4, 3, 2, 1, 0] rfl⟩
                · have c_116 : ¬ u_8 = 0 := fun z => c_116 ((nI_eq (a := u_8) (b := 0) (Nat.lt_of_le_of_lt hu_8 (Nat.le_of_ble_eq_true rfl)) (Nat.le_of_ble_eq_true rfl)).mpr z)
                  refine lv_aload_n hx hb dX9_readLine_110 rfl (lv_at hl 4 rfl) ?_
                  refine va_get (D := (dC, dI)) (ci := 9) (v := .ref (ad 14)) (C := RX9) (T := TX9) (N := 67) hx hb hts hiX9 hown hK hP 0 rfl rfl 14 (by decide) v_16 (fun _ h9 => h9) rfl dX9_readLine_111 ?_
                  refine lv_aload_n hx hb dX9_readLine_114 rfl (lv_at hl 4 rfl) ?_
                  refine va_get (D := (dC, dI)) (ci := 9) (v := .int 1) (C := RX9) (T := TX9) (N := 67) hx hb hts hiX9 hown hK hP 0 rfl rfl 28 (by decide) v_11 (fun _ h9 => h9) rfl dX9_readLine_115 ?_
                  refine va_iald hx hb hK hP 14 13 rfl rfl (vp_in_nI (n := 1) (Nat.le_of_ble_eq_true rfl) (Nat.le_of_ble_eq_true rfl)) dX9_readLine_118 ?_
                  refine lv_topi (fun y_117 ey_117 => ?_)
                  have qy_117 := ey_117.trans b2_1
                  clear ey_117
                  obtain rfl : y_117 = nI m14_1 := qy_117
                  refine lv_bipush (v := 14) hx hb dX9_readLine_119 (by decide) ?_
                  refine lv_icmp_ne (tgt := 129) hx hb dX9_readLine_121 (by decide) (fun c_118 => ?_) (fun c_118 => ?_)
                  · have c_118 : ¬ m14_1 = 14 := fun z => c_118 ((nI_eq (a := m14_1) (b := 14) (Nat.lt_of_le_of_lt hm14_1 (Nat.le_of_ble_eq_true rfl)) (Nat.le_of_ble_eq_true rfl)).mpr z)
                    exact j_16 _ _ _ _ ⟨x26, x27, rfl, hx26, by omega, by omega, by omega, by omega, by omega, hP, hD, hS, lv_sub hl [4, 3, 2, 1, 0] rfl⟩
                  · have c_118 : m14_1 = 14 := (nI_eq (a := m14_1) (b := 14) (Nat.lt_of_le_of_lt hm14_1 (Nat.le_of_ble_eq_true rfl)) (Nat.le_of_ble_eq_true rfl)).mp c_118
                    refine lv_aload_n hx hb dX9_readLine_124 rfl (lv_at hl 4 rfl) ?_
                    refine lv_iconst (v := 5) hx hb dX9_readLine_125 (by decide) ?_
                    have hFc := pu_free hD hS hA
                    refine va_callv (va_runV (As := [.int 5]) (rest := []) ⟨hx, hb, hml, hown, hts⟩ (c_M_fails l dC dI _ ad ck x0 x16 x18 x19 x20 x21 x22 x23 x24 x25 x26 x27 1 x29 x30 x33 x45 x46 x52 x53 x61 x62 x63 x65 x66 f1 f2 f3 q4 q5 q6 q7 f8 q9 q10 f11 m12_0 m12_1 m13_0 m13_1 m14_0 m14_1 m15_0 m15_1 f17 q31 f32 f34 f35 f36 f37 q38 f39 f40 f41 m42_0 m42_1 f43 f44 f47 f48 f49 f50 f51 q54 q55 q56 f57 q58 f59 f60 f64 5 hx16 hx18 hx19 hx21 hx22 hx26 (Nat.le_of_ble_eq_true rfl) hx29 hx30 hx33 hx46 hx52 hx53 hx61 hx62 hx63 hx65 hm12_0 hm12_1 hm13_0 hm13_1 hm14_0 hm14_1 hm15_0 hm15_1 hm42_0 hm42_1 (Nat.le_of_ble_eq_true rfl) (by omega)) (cwV 1 hts g_M_readLine_1_M_fails rfl rfl rfl (by decide +kernel) ⟨Nat.le_of_ble_eq_true rfl, Nat.le_of_ble_eq_true rfl⟩) ⟨pu_bl, va_recv hK hP (ci := 9) (q0 := 0) rfl rfl, pu_in hP hK hD⟩ rfl rfl hl.1 rfl (lv_room (Nat.le_of_ble_eq_true rfl)) dX9_readLine_126 ⟨Nat.le_of_ble_eq_true rfl, Nat.le_of_ble_eq_true rfl⟩) hS (fun q _ h => hFc q h) hFc (fun u t H1 locs ht hvm hw hB hz1 hk1 hS => ?_)
                    obtain ⟨z26_120, z27_121, ⟨hP1, -, hD1⟩, hz26_120, xr_119_0⟩ := hB
                    rw [ht] at hP1
                    have hP := hP1
                    have hD := pu_all hFc hD1
                    clear hP1 hD1 hFc
                    clear hk1 hz1 ht hvm
                    generalize H1 = H at hP hS ⊢
                    exact j_16 _ _ _ _ ⟨z26_120, z27_121, rfl, hz26_120, by omega, by omega, by omega, by omega, by omega, hP, hD, hS, lv_sub hl [4, 3, 2, 1, 0] rfl⟩
              · obtain rfl : y_115 = nI vy_115 := qy_115.trans wy_115
                refine lv_if_ge (tgt := 124) hx hb dX9_readLine_102 (by decide) (fun c_122 => ?_) (fun c_122 => ?_)
                · have c_122 : 0 ≤ vy_115 := (nI_leI (a := 0) (b := vy_115) (Nat.le_of_ble_eq_true rfl) (by omega)).mp c_122
                  refine lv_aload_n hx hb dX9_readLine_124 rfl (lv_at hl 4 rfl) ?_
                  refine lv_iconst (v := 5) hx hb dX9_readLine_125 (by decide) ?_
                  have hFc := pu_free hD hS hA
                  refine va_callv (va_runV (As := [.int 5]) (rest := []) ⟨hx, hb, hml, hown, hts⟩ (c_M_fails l dC dI _ ad ck x0 x16 x18 x19 x20 x21 x22 x23 x24 x25 x26 x27 1 x29 x30 x33 x45 x46 x52 x53 x61 x62 x63 x65 x66 f1 f2 f3 q4 q5 q6 q7 f8 q9 q10 f11 m12_0 m12_1 m13_0 m13_1 m14_0 m14_1 m15_0 m15_1 f17 q31 f32 f34 f35 f36 f37 q38 f39 f40 f41 m42_0 m42_1 f43 f44 f47 f48 f49 f50 f51 q54 q55 q56 f57 q58 f59 f60 f64 5 hx16 hx18 hx19 hx21 hx22 hx26 (Nat.le_of_ble_eq_true rfl) hx29 hx30 hx33 hx46 hx52 hx53 hx61 hx62 hx63 hx65 hm12_0 hm12_1 hm13_0 hm13_1 hm14_0 hm14_1 hm15_0 hm15_1 hm42_0 hm42_1 (Nat.le_of_ble_eq_true rfl) (by omega)) (cwV 1 hts g_M_readLine_1_M_fails rfl rfl rfl (by decide +kernel) ⟨Nat.le_of_ble_eq_true rfl, Nat.le_of_ble_eq_true rfl⟩) ⟨pu_bl, va_recv hK hP (ci := 9) (q0 := 0) rfl rfl, pu_in hP hK hD⟩ rfl rfl hl.1 rfl (lv_room (Nat.le_of_ble_eq_true rfl)) dX9_readLine_126 ⟨Nat.le_of_ble_eq_true rfl, Nat.le_of_ble_eq_true rfl⟩) hS (fun q _ h => hFc q h) hFc (fun u t H1 locs ht hvm hw hB hz1 hk1 hS => ?_)
                  obtain ⟨z26_124, z27_125, ⟨hP1, -, hD1⟩, hz26_124, xr_123_0⟩ := hB
                  rw [ht] at hP1
                  have hP := hP1
                  have hD := pu_all hFc hD1
                  clear hP1 hD1 hFc
                  clear hk1 hz1 ht hvm
                  generalize H1 = H at hP hS ⊢
                  exact j_16 _ _ _ _ ⟨z26_124, z27_125, rfl, hz26_124, by omega, by omega, by omega, by omega, by omega, hP, hD, hS, lv_sub hl [4, 3, 2, 1, 0] rfl⟩
                · have c_122 : ¬ 0 ≤ vy_115 := fun z => c_122 ((nI_leI (a := 0) (b := vy_115) (Nat.le_of_ble_eq_true rfl) (by omega)).mpr z)
                  exfalso
                  omega
  · have c_77 : u_2 = 0 := (nI_eq (a := u_2) (b := 0) (Nat.lt_of_le_of_lt hu_2 (Nat.le_of_ble_eq_true rfl)) (Nat.le_of_ble_eq_true rfl)).mp c_77
    refine lv_iload_n hx hb dX9_readLine_33 rfl (lv_at hl 2 rfl) ?_
    refine lv_if_ne (tgt := 54) hx hb dX9_readLine_34 (by decide) (fun c_126 => ?_) (fun c_126 => ?_)
    · have c_126 : ¬ u_4 = 0 := fun z => c_126 ((nI_eq (a := u_4) (b := 0) (Nat.lt_of_le_of_lt hu_4 (Nat.le_of_ble_eq_true rfl)) (Nat.le_of_ble_eq_true rfl)).mpr z)
      refine lv_iload_n hx hb dX9_readLine_54 rfl (lv_at hl 3 rfl) ?_
      refine lv_if_eq (tgt := 71) hx hb dX9_readLine_55 (by decide) (fun c_127 => ?_) (fun c_127 => ?_)
      · have c_127 : u_2 = 0 := (nI_eq (a := u_2) (b := 0) (Nat.lt_of_le_of_lt hu_2 (Nat.le_of_ble_eq_true rfl)) (Nat.le_of_ble_eq_true rfl)).mp c_127
        refine lv_iload_n hx hb dX9_readLine_71 rfl (lv_at hl 2 rfl) ?_
        refine lv_if_eq (tgt := 89) hx hb dX9_readLine_72 (by decide) (fun c_128 => ?_) (fun c_128 => ?_)
        · have c_128 : u_4 = 0 := (nI_eq (a := u_4) (b := 0) (Nat.lt_of_le_of_lt hu_4 (Nat.le_of_ble_eq_true rfl)) (Nat.le_of_ble_eq_true rfl)).mp c_128
          exfalso
          omega
        · have c_128 : ¬ u_4 = 0 := fun z => c_128 ((nI_eq (a := u_4) (b := 0) (Nat.lt_of_le_of_lt hu_4 (Nat.le_of_ble_eq_true rfl)) (Nat.le_of_ble_eq_true rfl)).mpr z)
          refine lv_aload_n hx hb dX9_readLine_75 rfl (lv_at hl 4 rfl) ?_
          refine va_get (D := (dC, dI)) (ci := 9) (v := .ref (ad 13)) (C := RX9) (T := TX9) (N := 67) hx hb hts hiX9 hown hK hP 0 rfl rfl 13 (by decide) v_18 (fun _ h9 => h9) rfl dX9_readLine_76 ?_
          refine lv_aload_n hx hb dX9_readLine_79 rfl (lv_at hl 4 rfl) ?_
          refine va_get (D := (dC, dI)) (ci := 9) (v := .int 1) (C := RX9) (T := TX9) (N := 67) hx hb hts hiX9 hown hK hP 0 rfl rfl 28 (by decide) v_11 (fun _ h9 => h9) rfl dX9_readLine_80 ?_
          refine va_iald hx hb hK hP 13 12 rfl rfl (vp_in_nI (n := 1) (Nat.le_of_ble_eq_true rfl) (Nat.le_of_ble_eq_true rfl)) dX9_readLine_83 ?_
          refine lv_topi (fun y_129 ey_129 => ?_)
          have qy_129 := ey_129.trans b2_1
          clear ey_129
          obtain rfl : y_129 = nI m13_1 := qy_129
          refine lv_bipush (v := 8) hx hb dX9_readLine_84 (by decide) ?_
          refine lv_icmp_eq (tgt := 124) hx hb dX9_readLine_86 (by decide) (fun c_130 => ?_) (fun c_130 => ?_)
          · have c_130 : m13_1 = 8 := (nI_eq (a := m13_1) (b := 8) (Nat.lt_of_le_of_lt hm13_1 (Nat.le_of_ble_eq_true rfl)) (Nat.le_of_ble_eq_true rfl)).mp c_130
            refine lv_aload_n hx hb dX9_readLine_124 rfl (lv_at hl 4 rfl) ?_
            refine lv_iconst (v := 5) hx hb dX9_readLine_125 (by decide) ?_
            have hFc := pu_free hD hS hA
            refine va_callv (va_runV (As := [.int 5]) (rest := []) ⟨hx, hb, hml, hown, hts⟩ (c_M_fails l dC dI _ ad ck x0 x16 x18 x19 x20 x21 x22 x23 x24 x25 x26 x27 1 x29 x30 x33 x45 x46 x52 x53 x61 x62 x63 x65 x66 f1 f2 f3 q4 q5 q6 q7 f8 q9 q10 f11 m12_0 m12_1 m13_0 m13_1 m14_0 m14_1 m15_0 m15_1 f17 q31 f32 f34 f35 f36 f37 q38 f39 f40 f41 m42_0 m42_1 f43 f44 f47 f48 f49 f50 f51 q54 q55 q56 f57 q58 f59 f60 f64 5 hx16 hx18 hx19 hx21 hx22 hx26 (Nat.le_of_ble_eq_true rfl) hx29 hx30 hx33 hx46 hx52 hx53 hx61 hx62 hx63 hx65 hm12_0 hm12_1 hm13_0 hm13_1 hm14_0 hm14_1 hm15_0 hm15_1 hm42_0 hm42_1 (Nat.le_of_ble_eq_true rfl) (by omega)) (cwV 1 hts g_M_readLine_1_M_fails rfl rfl rfl (by decide +kernel) ⟨Nat.le_of_ble_eq_true rfl, Nat.le_of_ble_eq_true rfl⟩) ⟨pu_bl, va_recv hK hP (ci := 9) (q0 := 0) rfl rfl, pu_in hP hK hD⟩ rfl rfl hl.1 rfl (lv_room (Nat.le_of_ble_eq_true rfl)) dX9_readLine_126 ⟨Nat.le_of_ble_eq_true rfl, Nat.le_of_ble_eq_true rfl⟩) hS (fun q _ h => hFc q h) hFc (fun u t H1 locs ht hvm hw hB hz1 hk1 hS => ?_)
            obtain ⟨z26_132, z27_133, ⟨hP1, -, hD1⟩, hz26_132, xr_131_0⟩ := hB
            rw [ht] at hP1
            have hP := hP1
            have hD := pu_all hFc hD1
            clear hP1 hD1 hFc
            clear hk1 hz1 ht hvm
            generalize H1 = H at hP hS ⊢
            exact j_16 _ _ _ _ ⟨z26_132, z27_133, rfl, hz26_132, by omega, by omega, by omega, by omega, by omega, hP, hD, hS, lv_sub hl [4, 3, 2, 1, 0] rfl⟩
          · have c_130 : ¬ m13_1 = 8 := fun z => c_130 ((nI_eq (a := m13_1) (b := 8) (Nat.lt_of_le_of_lt hm13_1 (Nat.le_of_ble_eq_true rfl)) (Nat.le_of_ble_eq_true rfl)).mpr z)
            refine lv_iload_n hx hb dX9_readLine_89 rfl (lv_at hl 1 rfl) ?_
            refine lv_if_eq (tgt := 105) hx hb dX9_readLine_90 (by decide) (fun c_134 => ?_) (fun c_134 => ?_)
            · have c_134 : u_6 = 0 := (nI_eq (a := u_6) (b := 0) (Nat.lt_of_le_of_lt hu_6 (Nat.le_of_ble_eq_true rfl)) (Nat.le_of_ble_eq_true rfl)).mp c_134
              refine lv_iload hx hb dX9_readLine_105 (lv_at hl 0 rfl) ?_
              refine lv_if_eq (tgt := 129) hx hb dX9_readLine_107 (by decide) (fun c_135 => ?_) (fun c_135 => ?_)
              · have c_135 : u_8 = 0 := (nI_eq (a := u_8) (b := 0) (Nat.lt_of_le_of_lt hu_8 (Nat.le_of_ble_eq_true rfl)) (Nat.le_of_ble_eq_true rfl)).mp c_135
                exact j_16 _ _ _ _ ⟨x26, x27, rfl, hx26, by omega, by omega, by omega, by omega, by omega, hP, hD, hS, lv_sub hl [4, 3, 2, 1, 0] rfl⟩
              · have c_135 : ¬ u_8 = 0 := fun z => c_135 ((nI_eq (a := u_8) (b := 0) (Nat.lt_of_le_of_lt hu_8 (Nat.le_of_ble_eq_true rfl)) (Nat.le_of_ble_eq_true rfl)).mpr z)
                refine lv_aload_n hx hb dX9_readLine_110 rfl (lv_at hl 4 rfl) ?_
                refine va_get (D := (dC, dI)) (ci := 9) (v := .ref (ad 14)) (C := RX9) (T := TX9) (N := 67) hx hb hts hiX9 hown hK hP 0 rfl rfl 14 (by decide) v_16 (fun _ h9 => h9) rfl dX9_readLine_111 ?_
                refine lv_aload_n hx hb dX9_readLine_114 rfl (lv_at hl 4 rfl) ?_
                refine va_get (D := (dC, dI)) (ci := 9) (v := .int 1) (C := RX9) (T := TX9) (N := 67) hx hb hts hiX9 hown hK hP 0 rfl rfl 28 (by decide) v_11 (fun _ h9 => h9) rfl dX9_readLine_115 ?_
                refine va_iald hx hb hK hP 14 13 rfl rfl (vp_in_nI (n := 1) (Nat.le_of_ble_eq_true rfl) (Nat.le_of_ble_eq_true rfl)) dX9_readLine_118 ?_
                refine lv_topi (fun y_136 ey_136 => ?_)
                have qy_136 := ey_136.trans b2_1
                clear ey_136
                obtain rfl : y_136 = nI m14_1 := qy_136
                refine lv_bipush (v := 14) hx hb dX9_readLine_119 (by decide) ?_
                refine lv_icmp_ne (tgt := 129) hx hb dX9_readLine_121 (by decide) (fun c_137 => ?_) (fun c_137 => ?_)
                · have c_137 : ¬ m14_1 = 14 := fun z => c_137 ((nI_eq (a := m14_1) (b := 14) (Nat.lt_of_le_of_lt hm14_1 (Nat.le_of_ble_eq_true rfl)) (Nat.le_of_ble_eq_true rfl)).mpr z)
                  exact j_16 _ _ _ _ ⟨x26, x27, rfl, hx26, by omega, by omega, by omega, by omega, by omega, hP, hD, hS, lv_sub hl [4, 3, 2, 1, 0] rfl⟩
                · have c_137 : m14_1 = 14 := (nI_eq (a := m14_1) (b := 14) (Nat.lt_of_le_of_lt hm14_1 (Nat.le_of_ble_eq_true rfl)) (Nat.le_of_ble_eq_true rfl)).mp c_137
                  refine lv_aload_n hx hb dX9_readLine_124 rfl (lv_at hl 4 rfl) ?_
                  refine lv_iconst (v := 5) hx hb dX9_readLine_125 (by decide) ?_
                  have hFc := pu_free hD hS hA
                  refine va_callv (va_runV (As := [.int 5]) (rest := []) ⟨hx, hb, hml, hown, hts⟩ (c_M_fails l dC dI _ ad ck x0 x16 x18 x19 x20 x21 x22 x23 x24 x25 x26 x27 1 x29 x30 x33 x45 x46 x52 x53 x61 x62 x63 x65 x66 f1 f2 f3 q4 q5 q6 q7 f8 q9 q10 f11 m12_0 m12_1 m13_0 m13_1 m14_0 m14_1 m15_0 m15_1 f17 q31 f32 f34 f35 f36 f37 q38 f39 f40 f41 m42_0 m42_1 f43 f44 f47 f48 f49 f50 f51 q54 q55 q56 f57 q58 f59 f60 f64 5 hx16 hx18 hx19 hx21 hx22 hx26 (Nat.le_of_ble_eq_true rfl) hx29 hx30 hx33 hx46 hx52 hx53 hx61 hx62 hx63 hx65 hm12_0 hm12_1 hm13_0 hm13_1 hm14_0 hm14_1 hm15_0 hm15_1 hm42_0 hm42_1 (Nat.le_of_ble_eq_true rfl) (by omega)) (cwV 1 hts g_M_readLine_1_M_fails rfl rfl rfl (by decide +kernel) ⟨Nat.le_of_ble_eq_true rfl, Nat.le_of_ble_eq_true rfl⟩) ⟨pu_bl, va_recv hK hP (ci := 9) (q0 := 0) rfl rfl, pu_in hP hK hD⟩ rfl rfl hl.1 rfl (lv_room (Nat.le_of_ble_eq_true rfl)) dX9_readLine_126 ⟨Nat.le_of_ble_eq_true rfl, Nat.le_of_ble_eq_true rfl⟩) hS (fun q _ h => hFc q h) hFc (fun u t H1 locs ht hvm hw hB hz1 hk1 hS => ?_)
                  obtain ⟨z26_139, z27_140, ⟨hP1, -, hD1⟩, hz26_139, xr_138_0⟩ := hB
                  rw [ht] at hP1
                  have hP := hP1
                  have hD := pu_all hFc hD1
                  clear hP1 hD1 hFc
                  clear hk1 hz1 ht hvm
                  generalize H1 = H at hP hS ⊢
                  exact j_16 _ _ _ _ ⟨z26_139, z27_140, rfl, hz26_139, by omega, by omega, by omega, by omega, by omega, hP, hD, hS, lv_sub hl [4, 3, 2, 1, 0] rfl⟩
            · have c_134 : ¬ u_6 = 0 := fun z => c_134 ((nI_eq (a := u_6) (b := 0) (Nat.lt_of_le_of_lt hu_6 (Nat.le_of_ble_eq_true rfl)) (Nat.le_of_ble_eq_true rfl)).mpr z)
              refine lv_aload_n hx hb dX9_readLine_93 rfl (lv_at hl 4 rfl) ?_
              refine va_get (D := (dC, dI)) (ci := 9) (v := .ref (ad 15)) (C := RX9) (T := TX9) (N := 67) hx hb hts hiX9 hown hK hP 0 rfl rfl 15 (by decide) v_17 (fun _ h9 => h9) rfl dX9_readLine_94 ?_
              refine lv_aload_n hx hb dX9_readLine_97 rfl (lv_at hl 4 rfl) ?_
              refine va_get (D := (dC, dI)) (ci := 9) (v := .int 1) (C := RX9) (T := TX9) (N := 67) hx hb hts hiX9 hown hK hP 0 rfl rfl 28 (by decide) v_11 (fun _ h9 => h9) rfl dX9_readLine_98 ?_
              refine va_iald hx hb hK hP 15 14 rfl rfl (vp_in_nI (n := 1) (Nat.le_of_ble_eq_true rfl) (Nat.le_of_ble_eq_true rfl)) dX9_readLine_101 ?_
              refine lv_topi (fun y_141 ey_141 => ?_)
              have qy_141 := ey_141.trans b2m_1
              clear ey_141
              rcases mI_get m15_1 with ⟨zy_141, wy_141⟩ | ⟨vy_141, zy_141, wy_141⟩
              · obtain rfl : y_141 = -1 := qy_141.trans wy_141
                refine lv_if_ge (tgt := 124) hx hb dX9_readLine_102 (by decide) (fun z => absurd z (by decide)) (fun _ => ?_)
                refine lv_iload hx hb dX9_readLine_105 (lv_at hl 0 rfl) ?_
                refine lv_if_eq (tgt := 129) hx hb dX9_readLine_107 (by decide) (fun c_142 => ?_) (fun c_142 => ?_)
                · have c_142 : u_8 = 0 := (nI_eq (a := u_8) (b := 0) (Nat.lt_of_le_of_lt hu_8 (Nat.le_of_ble_eq_true rfl)) (Nat.le_of_ble_eq_true rfl)).mp c_142
                  exact j_16 _ _ _ _ ⟨x26, x27, rfl, hx26, by omega, by omega, by omega, by omega, by omega, hP, hD, hS, lv_sub hl [4, 3, 2, 1, 0] rfl⟩
                · have c_142 : ¬ u_8 = 0 := fun z => c_142 ((nI_eq (a := u_8) (b := 0) (Nat.lt_of_le_of_lt hu_8 (Nat.le_of_ble_eq_true rfl)) (Nat.le_of_ble_eq_true rfl)).mpr z)
                  refine lv_aload_n hx hb dX9_readLine_110 rfl (lv_at hl 4 rfl) ?_
                  refine va_get (D := (dC, dI)) (ci := 9) (v := .ref (ad 14)) (C := RX9) (T := TX9) (N := 67) hx hb hts hiX9 hown hK hP 0 rfl rfl 14 (by decide) v_16 (fun _ h9 => h9) rfl dX9_readLine_111 ?_
                  refine lv_aload_n hx hb dX9_readLine_114 rfl (lv_at hl 4 rfl) ?_
                  refine va_get (D := (dC, dI)) (ci := 9) (v := .int 1) (C := RX9) (T := TX9) (N := 67) hx hb hts hiX9 hown hK hP 0 rfl rfl 28 (by decide) v_11 (fun _ h9 => h9) rfl dX9_readLine_115 ?_
                  refine va_iald hx hb hK hP 14 13 rfl rfl (vp_in_nI (n := 1) (Nat.le_of_ble_eq_true rfl) (Nat.le_of_ble_eq_true rfl)) dX9_readLine_118 ?_
                  refine lv_topi (fun y_143 ey_143 => ?_)
                  have qy_143 := ey_143.trans b2_1
                  clear ey_143
                  obtain rfl : y_143 = nI m14_1 := qy_143
                  refine lv_bipush (v := 14) hx hb dX9_readLine_119 (by decide) ?_
                  refine lv_icmp_ne (tgt := 129) hx hb dX9_readLine_121 (by decide) (fun c_144 => ?_) (fun c_144 => ?_)
                  · have c_144 : ¬ m14_1 = 14 := fun z => c_144 ((nI_eq (a := m14_1) (b := 14) (Nat.lt_of_le_of_lt hm14_1 (Nat.le_of_ble_eq_true rfl)) (Nat.le_of_ble_eq_true rfl)).mpr z)
                    exact j_16 _ _ _ _ ⟨x26, x27, rfl, hx26, by omega, by omega, by omega, by omega, by omega, hP, hD, hS, lv_sub hl [4, 3, 2, 1, 0] rfl⟩
                  · have c_144 : m14_1 = 14 := (nI_eq (a := m14_1) (b := 14) (Nat.lt_of_le_of_lt hm14_1 (Nat.le_of_ble_eq_true rfl)) (Nat.le_of_ble_eq_true rfl)).mp c_144
                    refine lv_aload_n hx hb dX9_readLine_124 rfl (lv_at hl 4 rfl) ?_
                    refine lv_iconst (v := 5) hx hb dX9_readLine_125 (by decide) ?_
                    have hFc := pu_free hD hS hA
                    refine va_callv (va_runV (As := [.int 5]) (rest := []) ⟨hx, hb, hml, hown, hts⟩ (c_M_fails l dC dI _ ad ck x0 x16 x18 x19 x20 x21 x22 x23 x24 x25 x26 x27 1 x29 x30 x33 x45 x46 x52 x53 x61 x62 x63 x65 x66 f1 f2 f3 q4 q5 q6 q7 f8 q9 q10 f11 m12_0 m12_1 m13_0 m13_1 m14_0 m14_1 m15_0 m15_1 f17 q31 f32 f34 f35 f36 f37 q38 f39 f40 f41 m42_0 m42_1 f43 f44 f47 f48 f49 f50 f51 q54 q55 q56 f57 q58 f59 f60 f64 5 hx16 hx18 hx19 hx21 hx22 hx26 (Nat.le_of_ble_eq_true rfl) hx29 hx30 hx33 hx46 hx52 hx53 hx61 hx62 hx63 hx65 hm12_0 hm12_1 hm13_0 hm13_1 hm14_0 hm14_1 hm15_0 hm15_1 hm42_0 hm42_1 (Nat.le_of_ble_eq_true rfl) (by omega)) (cwV 1 hts g_M_readLine_1_M_fails rfl rfl rfl (by decide +kernel) ⟨Nat.le_of_ble_eq_true rfl, Nat.le_of_ble_eq_true rfl⟩) ⟨pu_bl, va_recv hK hP (ci := 9) (q0 := 0) rfl rfl, pu_in hP hK hD⟩ rfl rfl hl.1 rfl (lv_room (Nat.le_of_ble_eq_true rfl)) dX9_readLine_126 ⟨Nat.le_of_ble_eq_true rfl, Nat.le_of_ble_eq_true rfl⟩) hS (fun q _ h => hFc q h) hFc (fun u t H1 locs ht hvm hw hB hz1 hk1 hS => ?_)
                    obtain ⟨z26_146, z27_147, ⟨hP1, -, hD1⟩, hz26_146, xr_145_0⟩ := hB
                    rw [ht] at hP1
                    have hP := hP1
                    have hD := pu_all hFc hD1
                    clear hP1 hD1 hFc
                    clear hk1 hz1 ht hvm
                    generalize H1 = H at hP hS ⊢
                    exact j_16 _ _ _ _ ⟨z26_146, z27_147, rfl, hz26_146, by omega, by omega, by omega, by omega, by omega, hP, hD, hS, lv_sub hl [4, 3, 2, 1, 0] rfl⟩
              · obtain rfl : y_141 = nI vy_141 := qy_141.trans wy_141
                refine lv_if_ge (tgt := 124) hx hb dX9_readLine_102 (by decide) (fun c_148 => ?_) (fun c_148 => ?_)
                · have c_148 : 0 ≤ vy_141 := (nI_leI (a := 0) (b := vy_141) (Nat.le_of_ble_eq_true rfl) (by omega)).mp c_148
                  refine lv_aload_n hx hb dX9_readLine_124 rfl (lv_at hl 4 rfl) ?_
                  refine lv_iconst (v := 5) hx hb dX9_readLine_125 (by decide) ?_
                  have hFc := pu_free hD hS hA
                  refine va_callv (va_runV (As := [.int 5]) (rest := []) ⟨hx, hb, hml, hown, hts⟩ (c_M_fails l dC dI _ ad ck x0 x16 x18 x19 x20 x21 x22 x23 x24 x25 x26 x27 1 x29 x30 x33 x45 x46 x52 x53 x61 x62 x63 x65 x66 f1 f2 f3 q4 q5 q6 q7 f8 q9 q10 f11 m12_0 m12_1 m13_0 m13_1 m14_0 m14_1 m15_0 m15_1 f17 q31 f32 f34 f35 f36 f37 q38 f39 f40 f41 m42_0 m42_1 f43 f44 f47 f48 f49 f50 f51 q54 q55 q56 f57 q58 f59 f60 f64 5 hx16 hx18 hx19 hx21 hx22 hx26 (Nat.le_of_ble_eq_true rfl) hx29 hx30 hx33 hx46 hx52 hx53 hx61 hx62 hx63 hx65 hm12_0 hm12_1 hm13_0 hm13_1 hm14_0 hm14_1 hm15_0 hm15_1 hm42_0 hm42_1 (Nat.le_of_ble_eq_true rfl) (by omega)) (cwV 1 hts g_M_readLine_1_M_fails rfl rfl rfl (by decide +kernel) ⟨Nat.le_of_ble_eq_true rfl, Nat.le_of_ble_eq_true rfl⟩) ⟨pu_bl, va_recv hK hP (ci := 9) (q0 := 0) rfl rfl, pu_in hP hK hD⟩ rfl rfl hl.1 rfl (lv_room (Nat.le_of_ble_eq_true rfl)) dX9_readLine_126 ⟨Nat.le_of_ble_eq_true rfl, Nat.le_of_ble_eq_true rfl⟩) hS (fun q _ h => hFc q h) hFc (fun u t H1 locs ht hvm hw hB hz1 hk1 hS => ?_)
                  obtain ⟨z26_150, z27_151, ⟨hP1, -, hD1⟩, hz26_150, xr_149_0⟩ := hB
                  rw [ht] at hP1
                  have hP := hP1
                  have hD := pu_all hFc hD1
                  clear hP1 hD1 hFc
                  clear hk1 hz1 ht hvm
                  generalize H1 = H at hP hS ⊢
                  exact j_16 _ _ _ _ ⟨z26_150, z27_151, rfl, hz26_150, by omega, by omega, by omega, by omega, by omega, hP, hD, hS, lv_sub hl [4, 3, 2, 1, 0] rfl⟩
                · have c_148 : ¬ 0 ≤ vy_141 := fun z => c_148 ((nI_leI (a := 0) (b := vy_141) (Nat.le_of_ble_eq_true rfl) (by omega)).mpr z)
                  exfalso
                  omega
      · have c_127 : ¬ u_2 = 0 := fun z => c_127 ((nI_eq (a := u_2) (b := 0) (Nat.lt_of_le_of_lt hu_2 (Nat.le_of_ble_eq_true rfl)) (Nat.le_of_ble_eq_true rfl)).mpr z)
        exfalso
        omega
    · have c_126 : u_4 = 0 := (nI_eq (a := u_4) (b := 0) (Nat.lt_of_le_of_lt hu_4 (Nat.le_of_ble_eq_true rfl)) (Nat.le_of_ble_eq_true rfl)).mp c_126
      refine lv_iload_n hx hb dX9_readLine_37 rfl (lv_at hl 1 rfl) ?_
      refine lv_if_ne (tgt := 54) hx hb dX9_readLine_38 (by decide) (fun c_152 => ?_) (fun c_152 => ?_)
      · have c_152 : ¬ u_6 = 0 := fun z => c_152 ((nI_eq (a := u_6) (b := 0) (Nat.lt_of_le_of_lt hu_6 (Nat.le_of_ble_eq_true rfl)) (Nat.le_of_ble_eq_true rfl)).mpr z)
        refine lv_iload_n hx hb dX9_readLine_54 rfl (lv_at hl 3 rfl) ?_
        refine lv_if_eq (tgt := 71) hx hb dX9_readLine_55 (by decide) (fun c_153 => ?_) (fun c_153 => ?_)
        · have c_153 : u_2 = 0 := (nI_eq (a := u_2) (b := 0) (Nat.lt_of_le_of_lt hu_2 (Nat.le_of_ble_eq_true rfl)) (Nat.le_of_ble_eq_true rfl)).mp c_153
          refine lv_iload_n hx hb dX9_readLine_71 rfl (lv_at hl 2 rfl) ?_
          refine lv_if_eq (tgt := 89) hx hb dX9_readLine_72 (by decide) (fun c_154 => ?_) (fun c_154 => ?_)
          · have c_154 : u_4 = 0 := (nI_eq (a := u_4) (b := 0) (Nat.lt_of_le_of_lt hu_4 (Nat.le_of_ble_eq_true rfl)) (Nat.le_of_ble_eq_true rfl)).mp c_154
            refine lv_iload_n hx hb dX9_readLine_89 rfl (lv_at hl 1 rfl) ?_
            refine lv_if_eq (tgt := 105) hx hb dX9_readLine_90 (by decide) (fun c_155 => ?_) (fun c_155 => ?_)
            · have c_155 : u_6 = 0 := (nI_eq (a := u_6) (b := 0) (Nat.lt_of_le_of_lt hu_6 (Nat.le_of_ble_eq_true rfl)) (Nat.le_of_ble_eq_true rfl)).mp c_155
              exfalso
              omega
            · have c_155 : ¬ u_6 = 0 := fun z => c_155 ((nI_eq (a := u_6) (b := 0) (Nat.lt_of_le_of_lt hu_6 (Nat.le_of_ble_eq_true rfl)) (Nat.le_of_ble_eq_true rfl)).mpr z)
              refine lv_aload_n hx hb dX9_readLine_93 rfl (lv_at hl 4 rfl) ?_
              refine va_get (D := (dC, dI)) (ci := 9) (v := .ref (ad 15)) (C := RX9) (T := TX9) (N := 67) hx hb hts hiX9 hown hK hP 0 rfl rfl 15 (by decide) v_17 (fun _ h9 => h9) rfl dX9_readLine_94 ?_
              refine lv_aload_n hx hb dX9_readLine_97 rfl (lv_at hl 4 rfl) ?_
              refine va_get (D := (dC, dI)) (ci := 9) (v := .int 1) (C := RX9) (T := TX9) (N := 67) hx hb hts hiX9 hown hK hP 0 rfl rfl 28 (by decide) v_11 (fun _ h9 => h9) rfl dX9_readLine_98 ?_
              refine va_iald hx hb hK hP 15 14 rfl rfl (vp_in_nI (n := 1) (Nat.le_of_ble_eq_true rfl) (Nat.le_of_ble_eq_true rfl)) dX9_readLine_101 ?_
              refine lv_topi (fun y_156 ey_156 => ?_)
              have qy_156 := ey_156.trans b2m_1
              clear ey_156
              rcases mI_get m15_1 with ⟨zy_156, wy_156⟩ | ⟨vy_156, zy_156, wy_156⟩
              · obtain rfl : y_156 = -1 := qy_156.trans wy_156
                refine lv_if_ge (tgt := 124) hx hb dX9_readLine_102 (by decide) (fun z => absurd z (by decide)) (fun _ => ?_)
                refine lv_iload hx hb dX9_readLine_105 (lv_at hl 0 rfl) ?_
                refine lv_if_eq (tgt := 129) hx hb dX9_readLine_107 (by decide) (fun c_157 => ?_) (fun c_157 => ?_)
                · have c_157 : u_8 = 0 := (nI_eq (a := u_8) (b := 0) (Nat.lt_of_le_of_lt hu_8 (Nat.le_of_ble_eq_true rfl)) (Nat.le_of_ble_eq_true rfl)).mp c_157
                  exact j_16 _ _ _ _ ⟨x26, x27, rfl, hx26, by omega, by omega, by omega, by omega, by omega, hP, hD, hS, lv_sub hl [4, 3, 2, 1, 0] rfl⟩
                · have c_157 : ¬ u_8 = 0 := fun z => c_157 ((nI_eq (a := u_8) (b := 0) (Nat.lt_of_le_of_lt hu_8 (Nat.le_of_ble_eq_true rfl)) (Nat.le_of_ble_eq_true rfl)).mpr z)
                  refine lv_aload_n hx hb dX9_readLine_110 rfl (lv_at hl 4 rfl) ?_
                  refine va_get (D := (dC, dI)) (ci := 9) (v := .ref (ad 14)) (C := RX9) (T := TX9) (N := 67) hx hb hts hiX9 hown hK hP 0 rfl rfl 14 (by decide) v_16 (fun _ h9 => h9) rfl dX9_readLine_111 ?_
                  refine lv_aload_n hx hb dX9_readLine_114 rfl (lv_at hl 4 rfl) ?_
                  refine va_get (D := (dC, dI)) (ci := 9) (v := .int 1) (C := RX9) (T := TX9) (N := 67) hx hb hts hiX9 hown hK hP 0 rfl rfl 28 (by decide) v_11 (fun _ h9 => h9) rfl dX9_readLine_115 ?_
                  refine va_iald hx hb hK hP 14 13 rfl rfl (vp_in_nI (n := 1) (Nat.le_of_ble_eq_true rfl) (Nat.le_of_ble_eq_true rfl)) dX9_readLine_118 ?_
                  refine lv_topi (fun y_158 ey_158 => ?_)
                  have qy_158 := ey_158.trans b2_1
                  clear ey_158
                  obtain rfl : y_158 = nI m14_1 := qy_158
                  refine lv_bipush (v := 14) hx hb dX9_readLine_119 (by decide) ?_
                  refine lv_icmp_ne (tgt := 129) hx hb dX9_readLine_121 (by decide) (fun c_159 => ?_) (fun c_159 => ?_)
                  · have c_159 : ¬ m14_1 = 14 := fun z => c_159 ((nI_eq (a := m14_1) (b := 14) (Nat.lt_of_le_of_lt hm14_1 (Nat.le_of_ble_eq_true rfl)) (Nat.le_of_ble_eq_true rfl)).mpr z)
                    exact j_16 _ _ _ _ ⟨x26, x27, rfl, hx26, by omega, by omega, by omega, by omega, by omega, hP, hD, hS, lv_sub hl [4, 3, 2, 1, 0] rfl⟩
                  · have c_159 : m14_1 = 14 := (nI_eq (a := m14_1) (b := 14) (Nat.lt_of_le_of_lt hm14_1 (Nat.le_of_ble_eq_true rfl)) (Nat.le_of_ble_eq_true rfl)).mp c_159
                    refine lv_aload_n hx hb dX9_readLine_124 rfl (lv_at hl 4 rfl) ?_
                    refine lv_iconst (v := 5) hx hb dX9_readLine_125 (by decide) ?_
                    have hFc := pu_free hD hS hA
                    refine va_callv (va_runV (As := [.int 5]) (rest := []) ⟨hx, hb, hml, hown, hts⟩ (c_M_fails l dC dI _ ad ck x0 x16 x18 x19 x20 x21 x22 x23 x24 x25 x26 x27 1 x29 x30 x33 x45 x46 x52 x53 x61 x62 x63 x65 x66 f1 f2 f3 q4 q5 q6 q7 f8 q9 q10 f11 m12_0 m12_1 m13_0 m13_1 m14_0 m14_1 m15_0 m15_1 f17 q31 f32 f34 f35 f36 f37 q38 f39 f40 f41 m42_0 m42_1 f43 f44 f47 f48 f49 f50 f51 q54 q55 q56 f57 q58 f59 f60 f64 5 hx16 hx18 hx19 hx21 hx22 hx26 (Nat.le_of_ble_eq_true rfl) hx29 hx30 hx33 hx46 hx52 hx53 hx61 hx62 hx63 hx65 hm12_0 hm12_1 hm13_0 hm13_1 hm14_0 hm14_1 hm15_0 hm15_1 hm42_0 hm42_1 (Nat.le_of_ble_eq_true rfl) (by omega)) (cwV 1 hts g_M_readLine_1_M_fails rfl rfl rfl (by decide +kernel) ⟨Nat.le_of_ble_eq_true rfl, Nat.le_of_ble_eq_true rfl⟩) ⟨pu_bl, va_recv hK hP (ci := 9) (q0 := 0) rfl rfl, pu_in hP hK hD⟩ rfl rfl hl.1 rfl (lv_room (Nat.le_of_ble_eq_true rfl)) dX9_readLine_126 ⟨Nat.le_of_ble_eq_true rfl, Nat.le_of_ble_eq_true rfl⟩) hS (fun q _ h => hFc q h) hFc (fun u t H1 locs ht hvm hw hB hz1 hk1 hS => ?_)
                    obtain ⟨z26_161, z27_162, ⟨hP1, -, hD1⟩, hz26_161, xr_160_0⟩ := hB
                    rw [ht] at hP1
                    have hP := hP1
                    have hD := pu_all hFc hD1
                    clear hP1 hD1 hFc
                    clear hk1 hz1 ht hvm
                    generalize H1 = H at hP hS ⊢
                    exact j_16 _ _ _ _ ⟨z26_161, z27_162, rfl, hz26_161, by omega, by omega, by omega, by omega, by omega, hP, hD, hS, lv_sub hl [4, 3, 2, 1, 0] rfl⟩
              · obtain rfl : y_156 = nI vy_156 := qy_156.trans wy_156
                refine lv_if_ge (tgt := 124) hx hb dX9_readLine_102 (by decide) (fun c_163 => ?_) (fun c_163 => ?_)
                · have c_163 : 0 ≤ vy_156 := (nI_leI (a := 0) (b := vy_156) (Nat.le_of_ble_eq_true rfl) (by omega)).mp c_163
                  refine lv_aload_n hx hb dX9_readLine_124 rfl (lv_at hl 4 rfl) ?_
                  refine lv_iconst (v := 5) hx hb dX9_readLine_125 (by decide) ?_
                  have hFc := pu_free hD hS hA
                  refine va_callv (va_runV (As := [.int 5]) (rest := []) ⟨hx, hb, hml, hown, hts⟩ (c_M_fails l dC dI _ ad ck x0 x16 x18 x19 x20 x21 x22 x23 x24 x25 x26 x27 1 x29 x30 x33 x45 x46 x52 x53 x61 x62 x63 x65 x66 f1 f2 f3 q4 q5 q6 q7 f8 q9 q10 f11 m12_0 m12_1 m13_0 m13_1 m14_0 m14_1 m15_0 m15_1 f17 q31 f32 f34 f35 f36 f37 q38 f39 f40 f41 m42_0 m42_1 f43 f44 f47 f48 f49 f50 f51 q54 q55 q56 f57 q58 f59 f60 f64 5 hx16 hx18 hx19 hx21 hx22 hx26 (Nat.le_of_ble_eq_true rfl) hx29 hx30 hx33 hx46 hx52 hx53 hx61 hx62 hx63 hx65 hm12_0 hm12_1 hm13_0 hm13_1 hm14_0 hm14_1 hm15_0 hm15_1 hm42_0 hm42_1 (Nat.le_of_ble_eq_true rfl) (by omega)) (cwV 1 hts g_M_readLine_1_M_fails rfl rfl rfl (by decide +kernel) ⟨Nat.le_of_ble_eq_true rfl, Nat.le_of_ble_eq_true rfl⟩) ⟨pu_bl, va_recv hK hP (ci := 9) (q0 := 0) rfl rfl, pu_in hP hK hD⟩ rfl rfl hl.1 rfl (lv_room (Nat.le_of_ble_eq_true rfl)) dX9_readLine_126 ⟨Nat.le_of_ble_eq_true rfl, Nat.le_of_ble_eq_true rfl⟩) hS (fun q _ h => hFc q h) hFc (fun u t H1 locs ht hvm hw hB hz1 hk1 hS => ?_)
                  obtain ⟨z26_165, z27_166, ⟨hP1, -, hD1⟩, hz26_165, xr_164_0⟩ := hB
                  rw [ht] at hP1
                  have hP := hP1
                  have hD := pu_all hFc hD1
                  clear hP1 hD1 hFc
                  clear hk1 hz1 ht hvm
                  generalize H1 = H at hP hS ⊢
                  exact j_16 _ _ _ _ ⟨z26_165, z27_166, rfl, hz26_165, by omega, by omega, by omega, by omega, by omega, hP, hD, hS, lv_sub hl [4, 3, 2, 1, 0] rfl⟩
                · have c_163 : ¬ 0 ≤ vy_156 := fun z => c_163 ((nI_leI (a := 0) (b := vy_156) (Nat.le_of_ble_eq_true rfl) (by omega)).mpr z)
                  exfalso
                  omega
          · have c_154 : ¬ u_4 = 0 := fun z => c_154 ((nI_eq (a := u_4) (b := 0) (Nat.lt_of_le_of_lt hu_4 (Nat.le_of_ble_eq_true rfl)) (Nat.le_of_ble_eq_true rfl)).mpr z)
            exfalso
            omega
        · have c_153 : ¬ u_2 = 0 := fun z => c_153 ((nI_eq (a := u_2) (b := 0) (Nat.lt_of_le_of_lt hu_2 (Nat.le_of_ble_eq_true rfl)) (Nat.le_of_ble_eq_true rfl)).mpr z)
          exfalso
          omega
      · have c_152 : u_6 = 0 := (nI_eq (a := u_6) (b := 0) (Nat.lt_of_le_of_lt hu_6 (Nat.le_of_ble_eq_true rfl)) (Nat.le_of_ble_eq_true rfl)).mp c_152
        refine lv_iload hx hb dX9_readLine_41 (lv_at hl 0 rfl) ?_
        refine lv_if_ne (tgt := 54) hx hb dX9_readLine_43 (by decide) (fun c_167 => ?_) (fun c_167 => ?_)
        · have c_167 : ¬ u_8 = 0 := fun z => c_167 ((nI_eq (a := u_8) (b := 0) (Nat.lt_of_le_of_lt hu_8 (Nat.le_of_ble_eq_true rfl)) (Nat.le_of_ble_eq_true rfl)).mpr z)
          refine lv_iload_n hx hb dX9_readLine_54 rfl (lv_at hl 3 rfl) ?_
          refine lv_if_eq (tgt := 71) hx hb dX9_readLine_55 (by decide) (fun c_168 => ?_) (fun c_168 => ?_)
          · have c_168 : u_2 = 0 := (nI_eq (a := u_2) (b := 0) (Nat.lt_of_le_of_lt hu_2 (Nat.le_of_ble_eq_true rfl)) (Nat.le_of_ble_eq_true rfl)).mp c_168
            refine lv_iload_n hx hb dX9_readLine_71 rfl (lv_at hl 2 rfl) ?_
            refine lv_if_eq (tgt := 89) hx hb dX9_readLine_72 (by decide) (fun c_169 => ?_) (fun c_169 => ?_)
            · have c_169 : u_4 = 0 := (nI_eq (a := u_4) (b := 0) (Nat.lt_of_le_of_lt hu_4 (Nat.le_of_ble_eq_true rfl)) (Nat.le_of_ble_eq_true rfl)).mp c_169
              refine lv_iload_n hx hb dX9_readLine_89 rfl (lv_at hl 1 rfl) ?_
              refine lv_if_eq (tgt := 105) hx hb dX9_readLine_90 (by decide) (fun c_170 => ?_) (fun c_170 => ?_)
              · have c_170 : u_6 = 0 := (nI_eq (a := u_6) (b := 0) (Nat.lt_of_le_of_lt hu_6 (Nat.le_of_ble_eq_true rfl)) (Nat.le_of_ble_eq_true rfl)).mp c_170
                refine lv_iload hx hb dX9_readLine_105 (lv_at hl 0 rfl) ?_
                refine lv_if_eq (tgt := 129) hx hb dX9_readLine_107 (by decide) (fun c_171 => ?_) (fun c_171 => ?_)
                · have c_171 : u_8 = 0 := (nI_eq (a := u_8) (b := 0) (Nat.lt_of_le_of_lt hu_8 (Nat.le_of_ble_eq_true rfl)) (Nat.le_of_ble_eq_true rfl)).mp c_171
                  exfalso
                  omega
                · have c_171 : ¬ u_8 = 0 := fun z => c_171 ((nI_eq (a := u_8) (b := 0) (Nat.lt_of_le_of_lt hu_8 (Nat.le_of_ble_eq_true rfl)) (Nat.le_of_ble_eq_true rfl)).mpr z)
                  refine lv_aload_n hx hb dX9_readLine_110 rfl (lv_at hl 4 rfl) ?_
                  refine va_get (D := (dC, dI)) (ci := 9) (v := .ref (ad 14)) (C := RX9) (T := TX9) (N := 67) hx hb hts hiX9 hown hK hP 0 rfl rfl 14 (by decide) v_16 (fun _ h9 => h9) rfl dX9_readLine_111 ?_
                  refine lv_aload_n hx hb dX9_readLine_114 rfl (lv_at hl 4 rfl) ?_
                  refine va_get (D := (dC, dI)) (ci := 9) (v := .int 1) (C := RX9) (T := TX9) (N := 67) hx hb hts hiX9 hown hK hP 0 rfl rfl 28 (by decide) v_11 (fun _ h9 => h9) rfl dX9_readLine_115 ?_
                  refine va_iald hx hb hK hP 14 13 rfl rfl (vp_in_nI (n := 1) (Nat.le_of_ble_eq_true rfl) (Nat.le_of_ble_eq_true rfl)) dX9_readLine_118 ?_
                  refine lv_topi (fun y_172 ey_172 => ?_)
                  have qy_172 := ey_172.trans b2_1
                  clear ey_172
                  obtain rfl : y_172 = nI m14_1 := qy_172
                  refine lv_bipush (v := 14) hx hb dX9_readLine_119 (by decide) ?_
                  refine lv_icmp_ne (tgt := 129) hx hb dX9_readLine_121 (by decide) (fun c_173 => ?_) (fun c_173 => ?_)
                  · have c_173 : ¬ m14_1 = 14 := fun z => c_173 ((nI_eq (a := m14_1) (b := 14) (Nat.lt_of_le_of_lt hm14_1 (Nat.le_of_ble_eq_true rfl)) (Nat.le_of_ble_eq_true rfl)).mpr z)
                    exact j_16 _ _ _ _ ⟨x26, x27, rfl, hx26, by omega, by omega, by omega, by omega, by omega, hP, hD, hS, lv_sub hl [4, 3, 2, 1, 0] rfl⟩
                  · have c_173 : m14_1 = 14 := (nI_eq (a := m14_1) (b := 14) (Nat.lt_of_le_of_lt hm14_1 (Nat.le_of_ble_eq_true rfl)) (Nat.le_of_ble_eq_true rfl)).mp c_173
                    refine lv_aload_n hx hb dX9_readLine_124 rfl (lv_at hl 4 rfl) ?_
                    refine lv_iconst (v := 5) hx hb dX9_readLine_125 (by decide) ?_
                    have hFc := pu_free hD hS hA
                    refine va_callv (va_runV (As := [.int 5]) (rest := []) ⟨hx, hb, hml, hown, hts⟩ (c_M_fails l dC dI _ ad ck x0 x16 x18 x19 x20 x21 x22 x23 x24 x25 x26 x27 1 x29 x30 x33 x45 x46 x52 x53 x61 x62 x63 x65 x66 f1 f2 f3 q4 q5 q6 q7 f8 q9 q10 f11 m12_0 m12_1 m13_0 m13_1 m14_0 m14_1 m15_0 m15_1 f17 q31 f32 f34 f35 f36 f37 q38 f39 f40 f41 m42_0 m42_1 f43 f44 f47 f48 f49 f50 f51 q54 q55 q56 f57 q58 f59 f60 f64 5 hx16 hx18 hx19 hx21 hx22 hx26 (Nat.le_of_ble_eq_true rfl) hx29 hx30 hx33 hx46 hx52 hx53 hx61 hx62 hx63 hx65 hm12_0 hm12_1 hm13_0 hm13_1 hm14_0 hm14_1 hm15_0 hm15_1 hm42_0 hm42_1 (Nat.le_of_ble_eq_true rfl) (by omega)) (cwV 1 hts g_M_readLine_1_M_fails rfl rfl rfl (by decide +kernel) ⟨Nat.le_of_ble_eq_true rfl, Nat.le_of_ble_eq_true rfl⟩) ⟨pu_bl, va_recv hK hP (ci := 9) (q0 := 0) rfl rfl, pu_in hP hK hD⟩ rfl rfl hl.1 rfl (lv_room (Nat.le_of_ble_eq_true rfl)) dX9_readLine_126 ⟨Nat.le_of_ble_eq_true rfl, Nat.le_of_ble_eq_true rfl⟩) hS (fun q _ h => hFc q h) hFc (fun u t H1 locs ht hvm hw hB hz1 hk1 hS => ?_)
                    obtain ⟨z26_175, z27_176, ⟨hP1, -, hD1⟩, hz26_175, xr_174_0⟩ := hB
                    rw [ht] at hP1
                    have hP := hP1
                    have hD := pu_all hFc hD1
                    clear hP1 hD1 hFc
                    clear hk1 hz1 ht hvm
                    generalize H1 = H at hP hS ⊢
                    exact j_16 _ _ _ _ ⟨z26_175, z27_176, rfl, hz26_175, by omega, by omega, by omega, by omega, by omega, hP, hD, hS, lv_sub hl [4, 3, 2, 1, 0] rfl⟩
              · have c_170 : ¬ u_6 = 0 := fun z => c_170 ((nI_eq (a := u_6) (b := 0) (Nat.lt_of_le_of_lt hu_6 (Nat.le_of_ble_eq_true rfl)) (Nat.le_of_ble_eq_true rfl)).mpr z)
                exfalso
                omega
            · have c_169 : ¬ u_4 = 0 := fun z => c_169 ((nI_eq (a := u_4) (b := 0) (Nat.lt_of_le_of_lt hu_4 (Nat.le_of_ble_eq_true rfl)) (Nat.le_of_ble_eq_true rfl)).mpr z)
              exfalso
              omega
          · have c_168 : ¬ u_2 = 0 := fun z => c_168 ((nI_eq (a := u_2) (b := 0) (Nat.lt_of_le_of_lt hu_2 (Nat.le_of_ble_eq_true rfl)) (Nat.le_of_ble_eq_true rfl)).mpr z)
            exfalso
            omega
        · have c_167 : u_8 = 0 := (nI_eq (a := u_8) (b := 0) (Nat.lt_of_le_of_lt hu_8 (Nat.le_of_ble_eq_true rfl)) (Nat.le_of_ble_eq_true rfl)).mp c_167
          refine lv_aload_n hx hb dX9_readLine_46 rfl (lv_at hl 4 rfl) ?_
          refine lv_iconst (v := 2) hx hb dX9_readLine_47 (by decide) ?_
          have hFc := pu_free hD hS hA
          refine va_callv (va_runV (As := [.int 2]) (rest := []) ⟨hx, hb, hml, hown, hts⟩ (c_M_fails l dC dI _ ad ck x0 x16 x18 x19 x20 x21 x22 x23 x24 x25 x26 x27 1 x29 x30 x33 x45 x46 x52 x53 x61 x62 x63 x65 x66 f1 f2 f3 q4 q5 q6 q7 f8 q9 q10 f11 m12_0 m12_1 m13_0 m13_1 m14_0 m14_1 m15_0 m15_1 f17 q31 f32 f34 f35 f36 f37 q38 f39 f40 f41 m42_0 m42_1 f43 f44 f47 f48 f49 f50 f51 q54 q55 q56 f57 q58 f59 f60 f64 2 hx16 hx18 hx19 hx21 hx22 hx26 (Nat.le_of_ble_eq_true rfl) hx29 hx30 hx33 hx46 hx52 hx53 hx61 hx62 hx63 hx65 hm12_0 hm12_1 hm13_0 hm13_1 hm14_0 hm14_1 hm15_0 hm15_1 hm42_0 hm42_1 (Nat.le_of_ble_eq_true rfl) (by omega)) (cwV 1 hts g_M_readLine_1_M_fails rfl rfl rfl (by decide +kernel) ⟨Nat.le_of_ble_eq_true rfl, Nat.le_of_ble_eq_true rfl⟩) ⟨pu_bl, va_recv hK hP (ci := 9) (q0 := 0) rfl rfl, pu_in hP hK hD⟩ rfl rfl hl.1 rfl (lv_room (Nat.le_of_ble_eq_true rfl)) dX9_readLine_48 ⟨Nat.le_of_ble_eq_true rfl, Nat.le_of_ble_eq_true rfl⟩) hS (fun q _ h => hFc q h) hFc (fun u t H1 locs ht hvm hw hB hz1 hk1 hS => ?_)
          obtain ⟨z26_178, z27_179, ⟨hP1, -, hD1⟩, hz26_178, xr_177_0⟩ := hB
          rw [ht] at hP1
          have hP := hP1
          have hD := pu_all hFc hD1
          clear hP1 hD1 hFc
          clear hk1 hz1 ht hvm
          generalize H1 = H at hP hS ⊢
          refine lv_goto (tgt := 129) hx hb dX9_readLine_51 (by decide) ?_
          exact j_16 _ _ _ _ ⟨z26_178, z27_179, rfl, hz26_178, by omega, by omega, by omega, by omega, by omega, hP, hD, hS, lv_sub hl [4, 3, 2, 1, 0] rfl⟩
