theorem dX0_setNumber_0 : decode cX0_setNumber 0 = .ok (.aload_n 0, 1) := by decide +kernel
theorem dX0_setNumber_1 : decode cX0_setNumber 1 = .ok (.getfield 38, 3) := by decide +kernel
theorem dX0_setNumber_4 : decode cX0_setNumber 4 = .ok (.iload_n 1, 1) := by decide +kernel
theorem dX0_setNumber_5 : decode cX0_setNumber 5 = .ok (.iload_n 2, 1) := by decide +kernel
theorem dX0_setNumber_6 : decode cX0_setNumber 6 = .ok (.iastore, 1) := by decide +kernel
theorem dX0_setNumber_7 : decode cX0_setNumber 7 = .ok (.aload_n 0, 1) := by decide +kernel
theorem dX0_setNumber_8 : decode cX0_setNumber 8 = .ok (.iload_n 1, 1) := by decide +kernel
theorem dX0_setNumber_9 : decode cX0_setNumber 9 = .ok (.invokevirtual 69, 3) := by decide +kernel
theorem dX0_setNumber_12 : decode cX0_setNumber 12 = .ok (.aload_n 0, 1) := by decide +kernel
theorem dX0_setNumber_13 : decode cX0_setNumber 13 = .ok (.invokevirtual 76, 3) := by decide +kernel
theorem dX0_setNumber_16 : decode cX0_setNumber 16 = .ok (.return_, 1) := by decide +kernel
def vs_X0_setNumber : List Cond := .code yX0_setNumber cX0_setNumber 3 none :: ([.fieldLink RX0 38 "ClockReach$Automaton" "numbers" "[I", .methodLink RX0 69 yX0_setBounds, .instanceMethod yX0_setBounds, .selects RX0 yX0_setBounds yX0_setBounds, .initialized RX0, .code yX0_setBounds cX0_setBounds 4 none, .fieldLink RX0 35 "ClockReach$Automaton" "hows" "[I", .fieldLink RX0 41 "ClockReach$Automaton" "ceilings" "[I", .fieldLink RX0 44 "ClockReach$Automaton" "floors" "[I", .constant RX0 75 (2147483647), .methodLink RX0 76 yX0_measure, .instanceMethod yX0_measure, .selects RX0 yX0_measure yX0_measure, .code yX0_measure cX0_measure 5 none, .fieldLink RX0 29 "ClockReach$Automaton" "counts" "[I", .methodLink RX0 65 yX0_slot, .static yX0_slot, .code yX0_slot cX0_slot 2 (some .int), .fieldLink RX0 32 "ClockReach$Automaton" "conditionClocks" "[I", .fieldLink RX0 47 "ClockReach$Automaton" "greatest" "[I", .methodLink RX0 79 Lib.Math.max.name, .static Lib.Math.max.name, .initialized "java/lang/Math", .code Lib.Math.max.name Lib.Math.max.code 2 (some .int), .fieldLink RX0 53 "ClockReach$Automaton" "upper" "[I", .fieldLink RX0 50 "ClockReach$Automaton" "lower" "[I"] ++ wsX00)
theorem g_X0_setNumber_X0_setBounds : GoodIn vs_X0_setNumber (wsV RX0 69 RX0 yX0_setBounds vs_X0_setBounds) := goodIn_r _ [2, 3, 4, 5, 6, 7, 1, 8, 9, 10, 27, 28, 29, 30, 31, 32, 33, 34, 35, 36, 37, 38, 39, 40, 41, 42, 43] (by decide +kernel) (by decide +kernel)
theorem g_X0_setNumber_X0_measure : GoodIn vs_X0_setNumber (wsV RX0 76 RX0 yX0_measure vs_X0_measure) := goodIn_r _ [11, 12, 13, 5, 14, 15, 16, 17, 5, 18, 19, 20, 1, 21, 22, 23, 24, 7, 25, 26, 27, 28, 29, 30, 31, 32, 33, 34, 35, 36, 37, 38, 39, 40, 41, 42, 43] (by decide +kernel) (by decide +kernel)
set_option maxHeartbeats 4000000 in
set_option maxRecDepth 100000 in
theorem c_X0_setNumber (l : Launch) (dC : Nat → ClassId) (dI : Nat → Nat → Nat) (sz : Nat) (au q4 q5 q6 q7 q8 q9 q10 q11 q12 q13 q14 q15 q16 : Nat) (nc np ne : Nat) (st0 : Int32) (k8 k9 k10 k11 k12 k13 k14 k15 k16 : ClassId) (f8 f9 f10 f11 f12 f13 f14 f15 f16 : Nat → Int32) (hc : ao_c nc f8 f9) (hnc : nc ≤ 3) (i : Nat) (hi : i < 88) (p0 : Int32) : Met l yX0_setNumber vs_X0_setNumber ({ frames := 2, cells := 0, slots := 0, locals := 45 }) (va_Pc [.ref au, .int (nI i), .int p0] (pu_B (dC, dI) [(au, .inr (0, [.int (nI nc), .int (nI np), .int (nI ne), .int st0, .ref q4, .ref q5, .ref q6, .ref q7, .ref q8, .ref q9, .ref q10, .ref q11, .ref q12, .ref q13, .ref q14, .ref q15, .ref q16])), (q8, .inl (k8, 22, .inl f8)), (q9, .inl (k9, 88, .inl f9)), (q10, .inl (k10, 88, .inl f10)), (q11, .inl (k11, 88, .inl f11)), (q12, .inl (k12, 88, .inl f12)), (q13, .inl (k13, 88, .inl f13)), (q14, .inl (k14, 4, .inl f14)), (q15, .inl (k15, 4, .inl f15)), (q16, .inl (k16, 4, .inl f16))] [(k8, .int), (k9, .int), (k10, .int), (k11, .int), (k12, .int), (k13, .int), (k14, .int), (k15, .int), (k16, .int)] sz)) (va_Qv (fun (_ : Unit) => True) (fun _ t => ∃ (g0 g1 g2 g3 g4 g5 : Nat → Int32), pu_E (dC, dI) [(au, .inr (0, [.int (nI nc), .int (nI np), .int (nI ne), .int st0, .ref q4, .ref q5, .ref q6, .ref q7, .ref q8, .ref q9, .ref q10, .ref q11, .ref q12, .ref q13, .ref q14, .ref q15, .ref q16])), (q8, .inl (k8, 22, .inl f8)), (q9, .inl (k9, 88, .inl f9)), (q10, .inl (k10, 88, .inl f10)), (q11, .inl (k11, 88, .inl g0)), (q12, .inl (k12, 88, .inl g1)), (q13, .inl (k13, 88, .inl g2)), (q14, .inl (k14, 4, .inl g3)), (q15, .inl (k15, 4, .inl g4)), (q16, .inl (k16, 4, .inl g5))] [(k8, .int), (k9, .int), (k10, .int), (k11, .int), (k12, .int), (k13, .int), (k14, .int), (k15, .int), (k16, .int)] (va_A ([(au, .inr (0, [.int (nI nc), .int (nI np), .int (nI ne), .int st0, .ref q4, .ref q5, .ref q6, .ref q7, .ref q8, .ref q9, .ref q10, .ref q11, .ref q12, .ref q13, .ref q14, .ref q15, .ref q16])), (q8, .inl (k8, 22, .inl f8)), (q9, .inl (k9, 88, .inl f9)), (q10, .inl (k10, 88, .inl f10)), (q11, .inl (k11, 88, .inl f11)), (q12, .inl (k12, 88, .inl f12)), (q13, .inl (k13, 88, .inl f13)), (q14, .inl (k14, 4, .inl f14)), (q15, .inl (k15, 4, .inl f15)), (q16, .inl (k16, 4, .inl f16))]) sz) t) (va_A ([(au, .inr (0, [.int (nI nc), .int (nI np), .int (nI ne), .int st0, .ref q4, .ref q5, .ref q6, .ref q7, .ref q8, .ref q9, .ref q10, .ref q11, .ref q12, .ref q13, .ref q14, .ref q15, .ref q16])), (q8, .inl (k8, 22, .inl f8)), (q9, .inl (k9, 88, .inl f9)), (q10, .inl (k10, 88, .inl f10)), (q11, .inl (k11, 88, .inl f11)), (q12, .inl (k12, 88, .inl f12)), (q13, .inl (k13, 88, .inl f13)), (q14, .inl (k14, 4, .inl f14)), (q15, .inl (k15, 4, .inl f15)), (q16, .inl (k16, 4, .inl f16))]) sz)) 0 0 (va_A ([(au, .inr (0, [.int (nI nc), .int (nI np), .int (nI ne), .int st0, .ref q4, .ref q5, .ref q6, .ref q7, .ref q8, .ref q9, .ref q10, .ref q11, .ref q12, .ref q13, .ref q14, .ref q15, .ref q16])), (q8, .inl (k8, 22, .inl f8)), (q9, .inl (k9, 88, .inl f9)), (q10, .inl (k10, 88, .inl f10)), (q11, .inl (k11, 88, .inl f11)), (q12, .inl (k12, 88, .inl f12)), (q13, .inl (k13, 88, .inl f13)), (q14, .inl (k14, 4, .inl f14)), (q15, .inl (k15, 4, .inl f15)), (q16, .inl (k16, 4, .inl f16))]) sz) := by
  refine Met.ofW (cc := cX0_setNumber) (maxL := 3) (ret := none) (by decide) rfl ?_
  intro p e s m args below meth c s₁ B hml hv
  obtain ⟨rfl, rfl, hP, hK, hD0⟩ := hv
  have hx := B.exec
  have hb := B.bytes
  have hr := B.returns
  have hts := atoms_spec (ws := vs_X0_setNumber) B.pre
  have v_1 := hts (.fieldLink RX0 38 "ClockReach$Automaton" "numbers" "[I") (List.mem_of_getElem? (i := 1) rfl)
  have hown : s.vm.findClass RX0 = some m.cls := findClass_of_methodNamed B.named
  have hlocks := B.notSynchronized
  have hiX0 : ∀ w ∈ wsX00, w ∈ vs_X0_setNumber := fun _ h => List.mem_cons_of_mem _ (List.mem_append_right _ h)
  have hD := hD0.self (sz := s.heap.size)
  generalize hAe : va_A ([(au, .inr (0, [.int (nI nc), .int (nI np), .int (nI ne), .int st0, .ref q4, .ref q5, .ref q6, .ref q7, .ref q8, .ref q9, .ref q10, .ref q11, .ref q12, .ref q13, .ref q14, .ref q15, .ref q16])), (q8, .inl (k8, 22, .inl f8)), (q9, .inl (k9, 88, .inl f9)), (q10, .inl (k10, 88, .inl f10)), (q11, .inl (k11, 88, .inl f11)), (q12, .inl (k12, 88, .inl f12)), (q13, .inl (k13, 88, .inl f13)), (q14, .inl (k14, 4, .inl f14)), (q15, .inl (k15, 4, .inl f15)), (q16, .inl (k16, 4, .inl f16))]) s.heap.size = A at hD ⊢
  have hA : ∀ q : Nat, s.heap.size ≤ q → A q := fun q h => by rw [← hAe]; exact Or.inr h
  have hS : va_S A s.heap s.heap [] := va_S.rf
  have hl := lv_entry ([.ref au, .int (nI i), .int p0]) (n := 3) (Nat.le_of_ble_eq_true rfl)
  rw [lg_entry_eq]
  generalize (lg_sl ([.ref au, .int (nI i), .int p0]) ++ List.replicate (3 - (lg_sl ([.ref au, .int (nI i), .int p0])).length) Slot.unset).toArray = ls at hl ⊢
  have hl : lv_has ls 3 [(0, .ref au), (1, .int (nI i)), (2, .int p0)] := hl
  refine lv_aload_n hx hb dX0_setNumber_0 rfl (lv_at hl 0 rfl) ?_
  refine va_get (D := (dC, dI)) (ci := 0) (v := .ref q11) (C := RX0) (T := TX0) (N := 17) hx hb hts hiX0 hown hK hP 0 rfl rfl 11 (by decide) v_1 (fun _ h9 => h9) rfl dX0_setNumber_1 ?_
  refine lv_iload_n hx hb dX0_setNumber_4 rfl (lv_at hl 1 rfl) ?_
  refine lv_iload_n hx hb dX0_setNumber_5 rfl (lv_at hl 2 rfl) ?_
  refine va_iast hx hb hK hP hD hS 4 3 rfl rfl (vp_in_nI (n := i) (by first | omega | exact ix_lt (by omega) (by omega) hn | exact ix_lt0 (by omega) hn | exact ix_ltq (by omega) hn | exact ix_lt1 (by omega) hn) (by omega)) dX0_setNumber_6 (fun H locs hP hD hS => ?_)
  have hP : va_P (dC, dI) vwCl [(au, .inr (0, [.int (nI nc), .int (nI np), .int (nI ne), .int st0, .ref q4, .ref q5, .ref q6, .ref q7, .ref q8, .ref q9, .ref q10, .ref q11, .ref q12, .ref q13, .ref q14, .ref q15, .ref q16])), (q8, .inl (k8, 22, .inl f8)), (q9, .inl (k9, 88, .inl f9)), (q10, .inl (k10, 88, .inl f10)), (q11, .inl (k11, 88, .inl (upd f11 ((nI i) : Int32).toNatClampNeg p0))), (q12, .inl (k12, 88, .inl f12)), (q13, .inl (k13, 88, .inl f13)), (q14, .inl (k14, 4, .inl f14)), (q15, .inl (k15, 4, .inl f15)), (q16, .inl (k16, 4, .inl f16))] H := hP
  have hD : va_D A [(au, .inr (0, [.int (nI nc), .int (nI np), .int (nI ne), .int st0, .ref q4, .ref q5, .ref q6, .ref q7, .ref q8, .ref q9, .ref q10, .ref q11, .ref q12, .ref q13, .ref q14, .ref q15, .ref q16])), (q8, .inl (k8, 22, .inl f8)), (q9, .inl (k9, 88, .inl f9)), (q10, .inl (k10, 88, .inl f10)), (q11, .inl (k11, 88, .inl (upd f11 ((nI i) : Int32).toNatClampNeg p0))), (q12, .inl (k12, 88, .inl f12)), (q13, .inl (k13, 88, .inl f13)), (q14, .inl (k14, 4, .inl f14)), (q15, .inl (k15, 4, .inl f15)), (q16, .inl (k16, 4, .inl f16))] := hD
  refine lv_aload_n hx hb dX0_setNumber_7 rfl (lv_at hl 0 rfl) ?_
  refine lv_iload_n hx hb dX0_setNumber_8 rfl (lv_at hl 1 rfl) ?_
  have hFc := va_free (wc := [(au, .inr (0, [.int (nI nc), .int (nI np), .int (nI ne), .int st0, .ref q4, .ref q5, .ref q6, .ref q7, .ref q8, .ref q9, .ref q10, .ref q11, .ref q12, .ref q13, .ref q14, .ref q15, .ref q16])), (q10, .inl (k10, 88, .inl f10)), (q11, .inl (k11, 88, .inl (upd f11 ((nI i) : Int32).toNatClampNeg p0))), (q12, .inl (k12, 88, .inl f12)), (q13, .inl (k13, 88, .inl f13))]) hD hS hA [0, 3, 4, 5, 6] rfl
  refine va_callv (va_runV (As := [.int (nI i)]) (rest := []) ⟨hx, hb, hml, hown, hts⟩ (c_X0_setBounds l dC dI _ au q4 q5 q6 q7 q8 q9 q10 q11 q12 q13 q14 q15 q16 nc np ne st0 k10 k11 k12 k13 f10 (upd f11 ((nI i) : Int32).toNatClampNeg p0) f12 f13 i (by omega)) (cwV 1 hts g_X0_setNumber_X0_setBounds rfl rfl rfl (by decide +kernel) ⟨Nat.le_of_ble_eq_true rfl, Nat.le_of_ble_eq_true rfl⟩) ⟨pu_bl, va_recv hK hP (ci := 0) (q0 := 0) rfl rfl, pu_in (hP.sub [0, 3, 4, 5, 6] rfl) (hK.sub [2, 3, 4, 5] rfl) (hD.sub [0, 3, 4, 5, 6] (by decide) rfl)⟩ rfl rfl hl.1 rfl (lv_room (Nat.le_of_ble_eq_true rfl)) dX0_setNumber_9 ⟨Nat.le_of_ble_eq_true rfl, Nat.le_of_ble_eq_true rfl⟩) hS (fun q _ h => hFc q h) hFc (fun u t H1 locs ht hvm hw hB hz1 hk1 hS => ?_)
  obtain ⟨g1_2, g2_3, ⟨hP1, hK1, hD1⟩⟩ := hB
  rw [ht] at hP1
  have hK1 := va_K.moved hvm.symm hK1
  obtain ⟨hP, hD⟩ := va_join (wr := [(q8, .inl (k8, 22, .inl f8)), (q9, .inl (k9, 88, .inl f9)), (q14, .inl (k14, 4, .inl f14)), (q15, .inl (k15, 4, .inl f15)), (q16, .inl (k16, 4, .inl f16))]) (w1 := [(au, .inr (0, [.int (nI nc), .int (nI np), .int (nI ne), .int st0, .ref q4, .ref q5, .ref q6, .ref q7, .ref q8, .ref q9, .ref q10, .ref q11, .ref q12, .ref q13, .ref q14, .ref q15, .ref q16])), (q10, .inl (k10, 88, .inl f10)), (q11, .inl (k11, 88, .inl (upd f11 ((nI i) : Int32).toNatClampNeg p0))), (q12, .inl (k12, 88, .inl g1_2)), (q13, .inl (k13, 88, .inl g2_3))]) hP hD [0, 3, 4, 5, 6] [1, 2, 7, 8, 9] rfl rfl (by decide) (by decide) hk1 hFc hP1 hD1
  have hK := hK.app hK1
  clear hk1 hz1 ht hvm
  generalize H1 = H at hP hS ⊢
  have hP : va_P (dC, dI) vwCl [(q8, .inl (k8, 22, .inl f8)), (q9, .inl (k9, 88, .inl f9)), (q14, .inl (k14, 4, .inl f14)), (q15, .inl (k15, 4, .inl f15)), (q16, .inl (k16, 4, .inl f16)), (au, .inr (0, [.int (nI nc), .int (nI np), .int (nI ne), .int st0, .ref q4, .ref q5, .ref q6, .ref q7, .ref q8, .ref q9, .ref q10, .ref q11, .ref q12, .ref q13, .ref q14, .ref q15, .ref q16])), (q10, .inl (k10, 88, .inl f10)), (q11, .inl (k11, 88, .inl (upd f11 ((nI i) : Int32).toNatClampNeg p0))), (q12, .inl (k12, 88, .inl g1_2)), (q13, .inl (k13, 88, .inl g2_3))] H := hP
  have hD : va_D A [(q8, .inl (k8, 22, .inl f8)), (q9, .inl (k9, 88, .inl f9)), (q14, .inl (k14, 4, .inl f14)), (q15, .inl (k15, 4, .inl f15)), (q16, .inl (k16, 4, .inl f16)), (au, .inr (0, [.int (nI nc), .int (nI np), .int (nI ne), .int st0, .ref q4, .ref q5, .ref q6, .ref q7, .ref q8, .ref q9, .ref q10, .ref q11, .ref q12, .ref q13, .ref q14, .ref q15, .ref q16])), (q10, .inl (k10, 88, .inl f10)), (q11, .inl (k11, 88, .inl (upd f11 ((nI i) : Int32).toNatClampNeg p0))), (q12, .inl (k12, 88, .inl g1_2)), (q13, .inl (k13, 88, .inl g2_3))] := hD
  have hK : va_K (dC, dI) vwCl [(k8, .int), (k9, .int), (k10, .int), (k11, .int), (k12, .int), (k13, .int), (k14, .int), (k15, .int), (k16, .int), (k10, .int), (k11, .int), (k12, .int), (k13, .int)] s := hK
  refine lv_aload_n hx hb dX0_setNumber_12 rfl (lv_at hl 0 rfl) ?_
  have hFc := va_free (wc := [(au, .inr (0, [.int (nI nc), .int (nI np), .int (nI ne), .int st0, .ref q4, .ref q5, .ref q6, .ref q7, .ref q8, .ref q9, .ref q10, .ref q11, .ref q12, .ref q13, .ref q14, .ref q15, .ref q16])), (q8, .inl (k8, 22, .inl f8)), (q9, .inl (k9, 88, .inl f9)), (q10, .inl (k10, 88, .inl f10)), (q11, .inl (k11, 88, .inl (upd f11 ((nI i) : Int32).toNatClampNeg p0))), (q14, .inl (k14, 4, .inl f14)), (q15, .inl (k15, 4, .inl f15)), (q16, .inl (k16, 4, .inl f16))]) hD hS hA [5, 0, 1, 6, 7, 2, 3, 4] rfl
  refine va_callv (va_runV (As := []) (rest := []) ⟨hx, hb, hml, hown, hts⟩ (c_X0_measure l dC dI _ au q4 q5 q6 q7 q8 q9 q10 q11 q12 q13 q14 q15 q16 nc np ne st0 k8 k9 k10 k11 k14 k15 k16 f8 f9 f10 (upd f11 ((nI i) : Int32).toNatClampNeg p0) f14 f15 f16 hc hnc) (cwV 0 hts g_X0_setNumber_X0_measure rfl rfl rfl (by decide +kernel) ⟨Nat.le_of_ble_eq_true rfl, Nat.le_of_ble_eq_true rfl⟩) ⟨pu_bl, va_recv hK hP (ci := 0) (q0 := 5) rfl rfl, pu_in (hP.sub [5, 0, 1, 6, 7, 2, 3, 4] rfl) (hK.sub [0, 1, 2, 3, 6, 7, 8] rfl) (hD.sub [5, 0, 1, 6, 7, 2, 3, 4] (by decide) rfl)⟩ rfl rfl hl.1 rfl (lv_room (Nat.le_of_ble_eq_true rfl)) dX0_setNumber_13 ⟨Nat.le_of_ble_eq_true rfl, Nat.le_of_ble_eq_true rfl⟩) hS (fun q _ h => hFc q h) hFc (fun u t H1 locs ht hvm hw hB hz1 hk1 hS => ?_)
  obtain ⟨g1_5, g2_6, g3_7, ⟨hP1, hK1, hD1⟩⟩ := hB
  rw [ht] at hP1
  have hK1 := va_K.moved hvm.symm hK1
  obtain ⟨hP, hD⟩ := va_join (wr := [(q12, .inl (k12, 88, .inl g1_2)), (q13, .inl (k13, 88, .inl g2_3))]) (w1 := [(au, .inr (0, [.int (nI nc), .int (nI np), .int (nI ne), .int st0, .ref q4, .ref q5, .ref q6, .ref q7, .ref q8, .ref q9, .ref q10, .ref q11, .ref q12, .ref q13, .ref q14, .ref q15, .ref q16])), (q8, .inl (k8, 22, .inl f8)), (q9, .inl (k9, 88, .inl f9)), (q10, .inl (k10, 88, .inl f10)), (q11, .inl (k11, 88, .inl (upd f11 ((nI i) : Int32).toNatClampNeg p0))), (q14, .inl (k14, 4, .inl g1_5)), (q15, .inl (k15, 4, .inl g2_6)), (q16, .inl (k16, 4, .inl g3_7))]) hP hD [5, 0, 1, 6, 7, 2, 3, 4] [8, 9] rfl rfl (by decide) (by decide) hk1 hFc hP1 hD1
  have hK := hK.app hK1
  clear hk1 hz1 ht hvm
  generalize H1 = H at hP hS ⊢
  have hP : va_P (dC, dI) vwCl [(q12, .inl (k12, 88, .inl g1_2)), (q13, .inl (k13, 88, .inl g2_3)), (au, .inr (0, [.int (nI nc), .int (nI np), .int (nI ne), .int st0, .ref q4, .ref q5, .ref q6, .ref q7, .ref q8, .ref q9, .ref q10, .ref q11, .ref q12, .ref q13, .ref q14, .ref q15, .ref q16])), (q8, .inl (k8, 22, .inl f8)), (q9, .inl (k9, 88, .inl f9)), (q10, .inl (k10, 88, .inl f10)), (q11, .inl (k11, 88, .inl (upd f11 ((nI i) : Int32).toNatClampNeg p0))), (q14, .inl (k14, 4, .inl g1_5)), (q15, .inl (k15, 4, .inl g2_6)), (q16, .inl (k16, 4, .inl g3_7))] H := hP
  have hD : va_D A [(q12, .inl (k12, 88, .inl g1_2)), (q13, .inl (k13, 88, .inl g2_3)), (au, .inr (0, [.int (nI nc), .int (nI np), .int (nI ne), .int st0, .ref q4, .ref q5, .ref q6, .ref q7, .ref q8, .ref q9, .ref q10, .ref q11, .ref q12, .ref q13, .ref q14, .ref q15, .ref q16])), (q8, .inl (k8, 22, .inl f8)), (q9, .inl (k9, 88, .inl f9)), (q10, .inl (k10, 88, .inl f10)), (q11, .inl (k11, 88, .inl (upd f11 ((nI i) : Int32).toNatClampNeg p0))), (q14, .inl (k14, 4, .inl g1_5)), (q15, .inl (k15, 4, .inl g2_6)), (q16, .inl (k16, 4, .inl g3_7))] := hD
  have hK : va_K (dC, dI) vwCl [(k8, .int), (k9, .int), (k10, .int), (k11, .int), (k12, .int), (k13, .int), (k14, .int), (k15, .int), (k16, .int), (k10, .int), (k11, .int), (k12, .int), (k13, .int), (k8, .int), (k9, .int), (k10, .int), (k11, .int), (k14, .int), (k15, .int), (k16, .int)] s := hK
  have hP9 := hP.sub (ws' := [(au, .inr (0, [.int (nI nc), .int (nI np), .int (nI ne), .int st0, .ref q4, .ref q5, .ref q6, .ref q7, .ref q8, .ref q9, .ref q10, .ref q11, .ref q12, .ref q13, .ref q14, .ref q15, .ref q16])), (q8, .inl (k8, 22, .inl f8)), (q9, .inl (k9, 88, .inl f9)), (q10, .inl (k10, 88, .inl f10)), (q11, .inl (k11, 88, .inl (upd f11 ((nI i) : Int32).toNatClampNeg p0))), (q12, .inl (k12, 88, .inl g1_2)), (q13, .inl (k13, 88, .inl g2_3)), (q14, .inl (k14, 4, .inl g1_5)), (q15, .inl (k15, 4, .inl g2_6)), (q16, .inl (k16, 4, .inl g3_7))]) [2, 3, 4, 5, 6, 0, 1, 7, 8, 9] rfl
  have hD9 := hD.sub (ws' := [(au, .inr (0, [.int (nI nc), .int (nI np), .int (nI ne), .int st0, .ref q4, .ref q5, .ref q6, .ref q7, .ref q8, .ref q9, .ref q10, .ref q11, .ref q12, .ref q13, .ref q14, .ref q15, .ref q16])), (q8, .inl (k8, 22, .inl f8)), (q9, .inl (k9, 88, .inl f9)), (q10, .inl (k10, 88, .inl f10)), (q11, .inl (k11, 88, .inl (upd f11 ((nI i) : Int32).toNatClampNeg p0))), (q12, .inl (k12, 88, .inl g1_2)), (q13, .inl (k13, 88, .inl g2_3)), (q14, .inl (k14, 4, .inl g1_5)), (q15, .inl (k15, 4, .inl g2_6)), (q16, .inl (k16, 4, .inl g3_7))]) [2, 3, 4, 5, 6, 0, 1, 7, 8, 9] (by decide) rfl
  have hK9 := hK.sub (tys' := [(k8, .int), (k9, .int), (k10, .int), (k11, .int), (k12, .int), (k13, .int), (k14, .int), (k15, .int), (k16, .int)]) [0, 1, 2, 3, 4, 5, 6, 7, 8] rfl
  exact W.vret hx hb hr (fun t ht hW => ⟨⟨(), rfl, trivial, ⟨(upd f11 ((nI i) : Int32).toNatClampNeg p0), g1_2, g2_3, g1_5, g2_6, g3_7, by rw [ht]; exact hP9, va_K.moved hW.alike hK9, hD9⟩⟩, hS.F ht⟩) hS.2.2 dX0_setNumber_16
theorem dX0_addEdge_0 : decode cX0_addEdge 0 = .ok (.aload_n 0, 1) := by decide +kernel
theorem dX0_addEdge_1 : decode cX0_addEdge 1 = .ok (.getfield 19, 3) := by decide +kernel
theorem dX0_addEdge_4 : decode cX0_addEdge 4 = .ok (.aload_n 0, 1) := by decide +kernel
theorem dX0_addEdge_5 : decode cX0_addEdge 5 = .ok (.getfield 62, 3) := by decide +kernel
theorem dX0_addEdge_8 : decode cX0_addEdge 8 = .ok (.iload_n 1, 1) := by decide +kernel
theorem dX0_addEdge_9 : decode cX0_addEdge 9 = .ok (.iastore, 1) := by decide +kernel
theorem dX0_addEdge_10 : decode cX0_addEdge 10 = .ok (.aload_n 0, 1) := by decide +kernel
theorem dX0_addEdge_11 : decode cX0_addEdge 11 = .ok (.getfield 23, 3) := by decide +kernel
theorem dX0_addEdge_14 : decode cX0_addEdge 14 = .ok (.aload_n 0, 1) := by decide +kernel
theorem dX0_addEdge_15 : decode cX0_addEdge 15 = .ok (.getfield 62, 3) := by decide +kernel
theorem dX0_addEdge_18 : decode cX0_addEdge 18 = .ok (.iload_n 2, 1) := by decide +kernel
theorem dX0_addEdge_19 : decode cX0_addEdge 19 = .ok (.iastore, 1) := by decide +kernel
theorem dX0_addEdge_20 : decode cX0_addEdge 20 = .ok (.aload_n 0, 1) := by decide +kernel
theorem dX0_addEdge_21 : decode cX0_addEdge 21 = .ok (.getfield 26, 3) := by decide +kernel
theorem dX0_addEdge_24 : decode cX0_addEdge 24 = .ok (.aload_n 0, 1) := by decide +kernel
theorem dX0_addEdge_25 : decode cX0_addEdge 25 = .ok (.getfield 62, 3) := by decide +kernel
theorem dX0_addEdge_28 : decode cX0_addEdge 28 = .ok (.iconst 0, 1) := by decide +kernel
theorem dX0_addEdge_29 : decode cX0_addEdge 29 = .ok (.iastore, 1) := by decide +kernel
theorem dX0_addEdge_30 : decode cX0_addEdge 30 = .ok (.aload_n 0, 1) := by decide +kernel
theorem dX0_addEdge_31 : decode cX0_addEdge 31 = .ok (.dup, 1) := by decide +kernel
theorem dX0_addEdge_32 : decode cX0_addEdge 32 = .ok (.getfield 62, 3) := by decide +kernel
theorem dX0_addEdge_35 : decode cX0_addEdge 35 = .ok (.iconst 1, 1) := by decide +kernel
theorem dX0_addEdge_36 : decode cX0_addEdge 36 = .ok (.iadd, 1) := by decide +kernel
theorem dX0_addEdge_37 : decode cX0_addEdge 37 = .ok (.putfield 62, 3) := by decide +kernel
theorem dX0_addEdge_40 : decode cX0_addEdge 40 = .ok (.return_, 1) := by decide +kernel
def vs_X0_addEdge : List Cond := .code yX0_addEdge cX0_addEdge 3 none :: ([.fieldLink RX0 19 "ClockReach$Automaton" "sources" "[I", .fieldLink RX0 62 "ClockReach$Automaton" "edges" "I", .fieldLink RX0 23 "ClockReach$Automaton" "targets" "[I", .fieldLink RX0 26 "ClockReach$Automaton" "resets" "[I"] ++ wsX00)
set_option maxHeartbeats 4000000 in
set_option maxRecDepth 100000 in
theorem c_X0_addEdge (l : Launch) (dC : Nat → ClassId) (dI : Nat → Nat → Nat) (sz : Nat) (au q4 q5 q6 q7 q8 q9 q10 q11 q12 q13 q14 q15 q16 : Nat) (nc np ne : Nat) (st0 : Int32) (k5 k6 k7 : ClassId) (f5 f6 f7 : Nat → Int32) (he : ne < 14) (sa ta : Nat) : Met l yX0_addEdge vs_X0_addEdge ({ frames := 0, cells := 0, slots := 0, locals := 0 }) (va_Pc [.ref au, .int (nI sa), .int (nI ta)] (pu_B (dC, dI) [(au, .inr (0, [.int (nI nc), .int (nI np), .int (nI ne), .int st0, .ref q4, .ref q5, .ref q6, .ref q7, .ref q8, .ref q9, .ref q10, .ref q11, .ref q12, .ref q13, .ref q14, .ref q15, .ref q16])), (q5, .inl (k5, 14, .inl f5)), (q6, .inl (k6, 14, .inl f6)), (q7, .inl (k7, 14, .inl f7))] [(k5, .int), (k6, .int), (k7, .int)] sz)) (va_Qv (fun (_ : Unit) => True) (fun _ t => pu_E (dC, dI) [(au, .inr (0, [.int (nI nc), .int (nI np), .int (nI (ne + 1)), .int st0, .ref q4, .ref q5, .ref q6, .ref q7, .ref q8, .ref q9, .ref q10, .ref q11, .ref q12, .ref q13, .ref q14, .ref q15, .ref q16])), (q5, .inl (k5, 14, .inl (upd f5 (nI ne : Int32).toNatClampNeg (nI sa)))), (q6, .inl (k6, 14, .inl (upd f6 (nI ne : Int32).toNatClampNeg (nI ta)))), (q7, .inl (k7, 14, .inl (upd f7 (nI ne : Int32).toNatClampNeg 0)))] [(k5, .int), (k6, .int), (k7, .int)] (va_A ([(au, .inr (0, [.int (nI nc), .int (nI np), .int (nI ne), .int st0, .ref q4, .ref q5, .ref q6, .ref q7, .ref q8, .ref q9, .ref q10, .ref q11, .ref q12, .ref q13, .ref q14, .ref q15, .ref q16])), (q5, .inl (k5, 14, .inl f5)), (q6, .inl (k6, 14, .inl f6)), (q7, .inl (k7, 14, .inl f7))]) sz) t) (va_A ([(au, .inr (0, [.int (nI nc), .int (nI np), .int (nI ne), .int st0, .ref q4, .ref q5, .ref q6, .ref q7, .ref q8, .ref q9, .ref q10, .ref q11, .ref q12, .ref q13, .ref q14, .ref q15, .ref q16])), (q5, .inl (k5, 14, .inl f5)), (q6, .inl (k6, 14, .inl f6)), (q7, .inl (k7, 14, .inl f7))]) sz)) 0 0 (va_A ([(au, .inr (0, [.int (nI nc), .int (nI np), .int (nI ne), .int st0, .ref q4, .ref q5, .ref q6, .ref q7, .ref q8, .ref q9, .ref q10, .ref q11, .ref q12, .ref q13, .ref q14, .ref q15, .ref q16])), (q5, .inl (k5, 14, .inl f5)), (q6, .inl (k6, 14, .inl f6)), (q7, .inl (k7, 14, .inl f7))]) sz) := by
  refine Met.ofW (cc := cX0_addEdge) (maxL := 3) (ret := none) (by decide) rfl ?_
  intro p e s m args below meth c s₁ B hml hv
  obtain ⟨rfl, rfl, hP, hK, hD0⟩ := hv
  have hx := B.exec
  have hb := B.bytes
  have hr := B.returns
  have hts := atoms_spec (ws := vs_X0_addEdge) B.pre
  have v_1 := hts (.fieldLink RX0 19 "ClockReach$Automaton" "sources" "[I") (List.mem_of_getElem? (i := 1) rfl)
  have v_2 := hts (.fieldLink RX0 62 "ClockReach$Automaton" "edges" "I") (List.mem_of_getElem? (i := 2) rfl)
  have v_3 := hts (.fieldLink RX0 23 "ClockReach$Automaton" "targets" "[I") (List.mem_of_getElem? (i := 3) rfl)
  have v_4 := hts (.fieldLink RX0 26 "ClockReach$Automaton" "resets" "[I") (List.mem_of_getElem? (i := 4) rfl)
  have hown : s.vm.findClass RX0 = some m.cls := findClass_of_methodNamed B.named
  have hlocks := B.notSynchronized
  have hiX0 : ∀ w ∈ wsX00, w ∈ vs_X0_addEdge := fun _ h => List.mem_cons_of_mem _ (List.mem_append_right _ h)
  have hD := hD0.self (sz := s.heap.size)
  generalize hAe : va_A ([(au, .inr (0, [.int (nI nc), .int (nI np), .int (nI ne), .int st0, .ref q4, .ref q5, .ref q6, .ref q7, .ref q8, .ref q9, .ref q10, .ref q11, .ref q12, .ref q13, .ref q14, .ref q15, .ref q16])), (q5, .inl (k5, 14, .inl f5)), (q6, .inl (k6, 14, .inl f6)), (q7, .inl (k7, 14, .inl f7))]) s.heap.size = A at hD ⊢
  have hA : ∀ q : Nat, s.heap.size ≤ q → A q := fun q h => by rw [← hAe]; exact Or.inr h
  have hS : va_S A s.heap s.heap [] := va_S.rf
  have hl := lv_entry ([.ref au, .int (nI sa), .int (nI ta)]) (n := 3) (Nat.le_of_ble_eq_true rfl)
  rw [lg_entry_eq]
  generalize (lg_sl ([.ref au, .int (nI sa), .int (nI ta)]) ++ List.replicate (3 - (lg_sl ([.ref au, .int (nI sa), .int (nI ta)])).length) Slot.unset).toArray = ls at hl ⊢
  have hl : lv_has ls 3 [(0, .ref au), (1, .int (nI sa)), (2, .int (nI ta))] := hl
  refine lv_aload_n hx hb dX0_addEdge_0 rfl (lv_at hl 0 rfl) ?_
  refine va_get (D := (dC, dI)) (ci := 0) (v := .ref q5) (C := RX0) (T := TX0) (N := 17) hx hb hts hiX0 hown hK hP 0 rfl rfl 5 (by decide) v_1 (fun _ h9 => h9) rfl dX0_addEdge_1 ?_
  refine lv_aload_n hx hb dX0_addEdge_4 rfl (lv_at hl 0 rfl) ?_
  refine va_get (D := (dC, dI)) (ci := 0) (v := .int (nI ne)) (C := RX0) (T := TX0) (N := 17) hx hb hts hiX0 hown hK hP 0 rfl rfl 2 (by decide) v_2 (fun _ h9 => h9) rfl dX0_addEdge_5 ?_
  refine lv_iload_n hx hb dX0_addEdge_8 rfl (lv_at hl 1 rfl) ?_
  refine va_iast hx hb hK hP hD hS 1 0 rfl rfl (vp_in_nI (n := ne) (by first | omega | exact ix_lt (by omega) (by omega) hn | exact ix_lt0 (by omega) hn | exact ix_ltq (by omega) hn | exact ix_lt1 (by omega) hn) (by omega)) dX0_addEdge_9 (fun H locs hP hD hS => ?_)
  have hP : va_P (dC, dI) vwCl [(au, .inr (0, [.int (nI nc), .int (nI np), .int (nI ne), .int st0, .ref q4, .ref q5, .ref q6, .ref q7, .ref q8, .ref q9, .ref q10, .ref q11, .ref q12, .ref q13, .ref q14, .ref q15, .ref q16])), (q5, .inl (k5, 14, .inl (upd f5 ((nI ne) : Int32).toNatClampNeg (nI sa)))), (q6, .inl (k6, 14, .inl f6)), (q7, .inl (k7, 14, .inl f7))] H := hP
  have hD : va_D A [(au, .inr (0, [.int (nI nc), .int (nI np), .int (nI ne), .int st0, .ref q4, .ref q5, .ref q6, .ref q7, .ref q8, .ref q9, .ref q10, .ref q11, .ref q12, .ref q13, .ref q14, .ref q15, .ref q16])), (q5, .inl (k5, 14, .inl (upd f5 ((nI ne) : Int32).toNatClampNeg (nI sa)))), (q6, .inl (k6, 14, .inl f6)), (q7, .inl (k7, 14, .inl f7))] := hD
  refine lv_aload_n hx hb dX0_addEdge_10 rfl (lv_at hl 0 rfl) ?_
  refine va_get (D := (dC, dI)) (ci := 0) (v := .ref q6) (C := RX0) (T := TX0) (N := 17) hx hb hts hiX0 hown hK hP 0 rfl rfl 6 (by decide) v_3 (fun _ h9 => h9) rfl dX0_addEdge_11 ?_
  refine lv_aload_n hx hb dX0_addEdge_14 rfl (lv_at hl 0 rfl) ?_
  refine va_get (D := (dC, dI)) (ci := 0) (v := .int (nI ne)) (C := RX0) (T := TX0) (N := 17) hx hb hts hiX0 hown hK hP 0 rfl rfl 2 (by decide) v_2 (fun _ h9 => h9) rfl dX0_addEdge_15 ?_
  refine lv_iload_n hx hb dX0_addEdge_18 rfl (lv_at hl 2 rfl) ?_
  refine va_iast hx hb hK hP hD hS 2 1 rfl rfl (vp_in_nI (n := ne) (by first | omega | exact ix_lt (by omega) (by omega) hn | exact ix_lt0 (by omega) hn | exact ix_ltq (by omega) hn | exact ix_lt1 (by omega) hn) (by omega)) dX0_addEdge_19 (fun H locs hP hD hS => ?_)
  have hP : va_P (dC, dI) vwCl [(au, .inr (0, [.int (nI nc), .int (nI np), .int (nI ne), .int st0, .ref q4, .ref q5, .ref q6, .ref q7, .ref q8, .ref q9, .ref q10, .ref q11, .ref q12, .ref q13, .ref q14, .ref q15, .ref q16])), (q5, .inl (k5, 14, .inl (upd f5 ((nI ne) : Int32).toNatClampNeg (nI sa)))), (q6, .inl (k6, 14, .inl (upd f6 ((nI ne) : Int32).toNatClampNeg (nI ta)))), (q7, .inl (k7, 14, .inl f7))] H := hP
  have hD : va_D A [(au, .inr (0, [.int (nI nc), .int (nI np), .int (nI ne), .int st0, .ref q4, .ref q5, .ref q6, .ref q7, .ref q8, .ref q9, .ref q10, .ref q11, .ref q12, .ref q13, .ref q14, .ref q15, .ref q16])), (q5, .inl (k5, 14, .inl (upd f5 ((nI ne) : Int32).toNatClampNeg (nI sa)))), (q6, .inl (k6, 14, .inl (upd f6 ((nI ne) : Int32).toNatClampNeg (nI ta)))), (q7, .inl (k7, 14, .inl f7))] := hD
  refine lv_aload_n hx hb dX0_addEdge_20 rfl (lv_at hl 0 rfl) ?_
  refine va_get (D := (dC, dI)) (ci := 0) (v := .ref q7) (C := RX0) (T := TX0) (N := 17) hx hb hts hiX0 hown hK hP 0 rfl rfl 7 (by decide) v_4 (fun _ h9 => h9) rfl dX0_addEdge_21 ?_
  refine lv_aload_n hx hb dX0_addEdge_24 rfl (lv_at hl 0 rfl) ?_
  refine va_get (D := (dC, dI)) (ci := 0) (v := .int (nI ne)) (C := RX0) (T := TX0) (N := 17) hx hb hts hiX0 hown hK hP 0 rfl rfl 2 (by decide) v_2 (fun _ h9 => h9) rfl dX0_addEdge_25 ?_
  refine lv_iconst (v := 0) hx hb dX0_addEdge_28 (by decide) ?_
  refine va_iast hx hb hK hP hD hS 3 2 rfl rfl (vp_in_nI (n := ne) (by first | omega | exact ix_lt (by omega) (by omega) hn | exact ix_lt0 (by omega) hn | exact ix_ltq (by omega) hn | exact ix_lt1 (by omega) hn) (by omega)) dX0_addEdge_29 (fun H locs hP hD hS => ?_)
  have hP : va_P (dC, dI) vwCl [(au, .inr (0, [.int (nI nc), .int (nI np), .int (nI ne), .int st0, .ref q4, .ref q5, .ref q6, .ref q7, .ref q8, .ref q9, .ref q10, .ref q11, .ref q12, .ref q13, .ref q14, .ref q15, .ref q16])), (q5, .inl (k5, 14, .inl (upd f5 ((nI ne) : Int32).toNatClampNeg (nI sa)))), (q6, .inl (k6, 14, .inl (upd f6 ((nI ne) : Int32).toNatClampNeg (nI ta)))), (q7, .inl (k7, 14, .inl (upd f7 ((nI ne) : Int32).toNatClampNeg 0)))] H := hP
  have hD : va_D A [(au, .inr (0, [.int (nI nc), .int (nI np), .int (nI ne), .int st0, .ref q4, .ref q5, .ref q6, .ref q7, .ref q8, .ref q9, .ref q10, .ref q11, .ref q12, .ref q13, .ref q14, .ref q15, .ref q16])), (q5, .inl (k5, 14, .inl (upd f5 ((nI ne) : Int32).toNatClampNeg (nI sa)))), (q6, .inl (k6, 14, .inl (upd f6 ((nI ne) : Int32).toNatClampNeg (nI ta)))), (q7, .inl (k7, 14, .inl (upd f7 ((nI ne) : Int32).toNatClampNeg 0)))] := hD
  refine lv_aload_n hx hb dX0_addEdge_30 rfl (lv_at hl 0 rfl) ?_
  refine lv_dup hx hb dX0_addEdge_31 rfl ?_
  refine va_get (D := (dC, dI)) (ci := 0) (v := .int (nI ne)) (C := RX0) (T := TX0) (N := 17) hx hb hts hiX0 hown hK hP 0 rfl rfl 2 (by decide) v_2 (fun _ h9 => h9) rfl dX0_addEdge_32 ?_
  refine lv_iconst (v := 1) hx hb dX0_addEdge_35 (by decide) ?_
  refine lv_iadd hx hb dX0_addEdge_36 ?_
  refine lv_topi (fun y_1 ey_1 => ?_)
  obtain rfl : y_1 = (nI (ne + 1)) := ey_1.trans (nI_add ne 1)
  refine va_put (D := (dC, dI)) (ci := 0) (v := .int (nI (ne + 1))) (ty := .int) (C := RX0) (T := TX0) (N := 17) hx hb hts hiX0 tyX0 tyX0_ok nmX0 hown hK hP hD hS 0 rfl rfl 2 (by decide) v_2 (fun _ h9 => h9) rfl (by decide +kernel) rfl rfl (Nat.le_of_ble_eq_true rfl) dX0_addEdge_37 (fun H locs hP hD hS => ?_)
  have hP : va_P (dC, dI) vwCl [(au, .inr (0, [.int (nI nc), .int (nI np), .int (nI (ne + 1)), .int st0, .ref q4, .ref q5, .ref q6, .ref q7, .ref q8, .ref q9, .ref q10, .ref q11, .ref q12, .ref q13, .ref q14, .ref q15, .ref q16])), (q5, .inl (k5, 14, .inl (upd f5 ((nI ne) : Int32).toNatClampNeg (nI sa)))), (q6, .inl (k6, 14, .inl (upd f6 ((nI ne) : Int32).toNatClampNeg (nI ta)))), (q7, .inl (k7, 14, .inl (upd f7 ((nI ne) : Int32).toNatClampNeg 0)))] H := hP
  have hD : va_D A [(au, .inr (0, [.int (nI nc), .int (nI np), .int (nI (ne + 1)), .int st0, .ref q4, .ref q5, .ref q6, .ref q7, .ref q8, .ref q9, .ref q10, .ref q11, .ref q12, .ref q13, .ref q14, .ref q15, .ref q16])), (q5, .inl (k5, 14, .inl (upd f5 ((nI ne) : Int32).toNatClampNeg (nI sa)))), (q6, .inl (k6, 14, .inl (upd f6 ((nI ne) : Int32).toNatClampNeg (nI ta)))), (q7, .inl (k7, 14, .inl (upd f7 ((nI ne) : Int32).toNatClampNeg 0)))] := hD
  have hP9 := hP.sub (ws' := [(au, .inr (0, [.int (nI nc), .int (nI np), .int (nI (ne + 1)), .int st0, .ref q4, .ref q5, .ref q6, .ref q7, .ref q8, .ref q9, .ref q10, .ref q11, .ref q12, .ref q13, .ref q14, .ref q15, .ref q16])), (q5, .inl (k5, 14, .inl (upd f5 (nI ne : Int32).toNatClampNeg (nI sa)))), (q6, .inl (k6, 14, .inl (upd f6 (nI ne : Int32).toNatClampNeg (nI ta)))), (q7, .inl (k7, 14, .inl (upd f7 (nI ne : Int32).toNatClampNeg 0)))]) [0, 1, 2, 3] rfl
  have hD9 := hD.sub (ws' := [(au, .inr (0, [.int (nI nc), .int (nI np), .int (nI (ne + 1)), .int st0, .ref q4, .ref q5, .ref q6, .ref q7, .ref q8, .ref q9, .ref q10, .ref q11, .ref q12, .ref q13, .ref q14, .ref q15, .ref q16])), (q5, .inl (k5, 14, .inl (upd f5 (nI ne : Int32).toNatClampNeg (nI sa)))), (q6, .inl (k6, 14, .inl (upd f6 (nI ne : Int32).toNatClampNeg (nI ta)))), (q7, .inl (k7, 14, .inl (upd f7 (nI ne : Int32).toNatClampNeg 0)))]) [0, 1, 2, 3] (by decide) rfl
  have hK9 := hK.sub (tys' := [(k5, .int), (k6, .int), (k7, .int)]) [0, 1, 2] rfl
  exact W.vret hx hb hr (fun t ht hW => ⟨⟨(), rfl, trivial, ⟨by rw [ht]; exact hP9, va_K.moved hW.alike hK9, hD9⟩⟩, hS.F ht⟩) hS.2.2 dX0_addEdge_40
theorem dX0_clear_0 : decode cX0_clear 0 = .ok (.aload_n 0, 1) := by decide +kernel
theorem dX0_clear_1 : decode cX0_clear 1 = .ok (.iconst 0, 1) := by decide +kernel
theorem dX0_clear_2 : decode cX0_clear 2 = .ok (.putfield 56, 3) := by decide +kernel
theorem dX0_clear_5 : decode cX0_clear 5 = .ok (.aload_n 0, 1) := by decide +kernel
theorem dX0_clear_6 : decode cX0_clear 6 = .ok (.iconst 0, 1) := by decide +kernel
theorem dX0_clear_7 : decode cX0_clear 7 = .ok (.putfield 59, 3) := by decide +kernel
theorem dX0_clear_10 : decode cX0_clear 10 = .ok (.aload_n 0, 1) := by decide +kernel
theorem dX0_clear_11 : decode cX0_clear 11 = .ok (.iconst 0, 1) := by decide +kernel
theorem dX0_clear_12 : decode cX0_clear 12 = .ok (.putfield 62, 3) := by decide +kernel
theorem dX0_clear_15 : decode cX0_clear 15 = .ok (.aload_n 0, 1) := by decide +kernel
theorem dX0_clear_16 : decode cX0_clear 16 = .ok (.iconst (-1), 1) := by decide +kernel
theorem dX0_clear_17 : decode cX0_clear 17 = .ok (.putfield 9, 3) := by decide +kernel
theorem dX0_clear_20 : decode cX0_clear 20 = .ok (.iconst 0, 1) := by decide +kernel
theorem dX0_clear_21 : decode cX0_clear 21 = .ok (.istore_n 1, 1) := by decide +kernel
theorem dX0_clear_22 : decode cX0_clear 22 = .ok (.iload_n 1, 1) := by decide +kernel
theorem dX0_clear_23 : decode cX0_clear 23 = .ok (.bipush 8, 2) := by decide +kernel
theorem dX0_clear_25 : decode cX0_clear 25 = .ok (.if_icmp .ge 16, 3) := by decide +kernel
theorem dX0_clear_28 : decode cX0_clear 28 = .ok (.aload_n 0, 1) := by decide +kernel
theorem dX0_clear_29 : decode cX0_clear 29 = .ok (.getfield 15, 3) := by decide +kernel
theorem dX0_clear_32 : decode cX0_clear 32 = .ok (.iload_n 1, 1) := by decide +kernel
theorem dX0_clear_33 : decode cX0_clear 33 = .ok (.iconst 0, 1) := by decide +kernel
theorem dX0_clear_34 : decode cX0_clear 34 = .ok (.bastore, 1) := by decide +kernel
theorem dX0_clear_35 : decode cX0_clear 35 = .ok (.iinc 1 1, 3) := by decide +kernel
theorem dX0_clear_38 : decode cX0_clear 38 = .ok (.goto (-16), 3) := by decide +kernel
theorem dX0_clear_41 : decode cX0_clear 41 = .ok (.iconst 0, 1) := by decide +kernel
theorem dX0_clear_42 : decode cX0_clear 42 = .ok (.istore_n 1, 1) := by decide +kernel
theorem dX0_clear_43 : decode cX0_clear 43 = .ok (.iload_n 1, 1) := by decide +kernel
theorem dX0_clear_44 : decode cX0_clear 44 = .ok (.bipush 22, 2) := by decide +kernel
theorem dX0_clear_46 : decode cX0_clear 46 = .ok (.if_icmp .ge 16, 3) := by decide +kernel
theorem dX0_clear_49 : decode cX0_clear 49 = .ok (.aload_n 0, 1) := by decide +kernel
theorem dX0_clear_50 : decode cX0_clear 50 = .ok (.getfield 29, 3) := by decide +kernel
theorem dX0_clear_53 : decode cX0_clear 53 = .ok (.iload_n 1, 1) := by decide +kernel
theorem dX0_clear_54 : decode cX0_clear 54 = .ok (.iconst 0, 1) := by decide +kernel
theorem dX0_clear_55 : decode cX0_clear 55 = .ok (.iastore, 1) := by decide +kernel
theorem dX0_clear_56 : decode cX0_clear 56 = .ok (.iinc 1 1, 3) := by decide +kernel
theorem dX0_clear_59 : decode cX0_clear 59 = .ok (.goto (-16), 3) := by decide +kernel
theorem dX0_clear_62 : decode cX0_clear 62 = .ok (.return_, 1) := by decide +kernel
def vs_X0_clear : List Cond := .code yX0_clear cX0_clear 2 none :: ([.fieldLink RX0 56 "ClockReach$Automaton" "clocks" "I", .fieldLink RX0 59 "ClockReach$Automaton" "places" "I", .fieldLink RX0 62 "ClockReach$Automaton" "edges" "I", .fieldLink RX0 9 "ClockReach$Automaton" "start" "I", .fieldLink RX0 29 "ClockReach$Automaton" "counts" "[I", .fieldLink RX0 15 "ClockReach$Automaton" "hurried" "[Z"] ++ wsX00)
set_option maxHeartbeats 4000000 in
set_option maxRecDepth 100000 in
theorem c_X0_clear (l : Launch) (dC : Nat → ClassId) (dI : Nat → Nat → Nat) (sz : Nat) (au q4 q5 q6 q7 q8 q9 q10 q11 q12 q13 q14 q15 q16 : Nat) (nc np ne : Nat) (st0 : Int32) (k4 k8 : ClassId) (f4 f8 : Nat → Int32) : Met l yX0_clear vs_X0_clear ({ frames := 0, cells := 0, slots := 0, locals := 0 }) (va_Pc [.ref au] (pu_B (dC, dI) [(au, .inr (0, [.int (nI nc), .int (nI np), .int (nI ne), .int st0, .ref q4, .ref q5, .ref q6, .ref q7, .ref q8, .ref q9, .ref q10, .ref q11, .ref q12, .ref q13, .ref q14, .ref q15, .ref q16])), (q4, .inl (k4, 8, .inl f4)), (q8, .inl (k8, 22, .inl f8))] [(k4, .boolean), (k8, .int)] sz)) (va_Qv (fun (_ : Unit) => True) (fun _ t => ∃ (g1 g2 : Nat → Int32), pu_E (dC, dI) [(au, .inr (0, [.int 0, .int 0, .int 0, .int (-1), .ref q4, .ref q5, .ref q6, .ref q7, .ref q8, .ref q9, .ref q10, .ref q11, .ref q12, .ref q13, .ref q14, .ref q15, .ref q16])), (q4, .inl (k4, 8, .inl g1)), (q8, .inl (k8, 22, .inl g2))] [(k4, .boolean), (k8, .int)] (va_A ([(au, .inr (0, [.int (nI nc), .int (nI np), .int (nI ne), .int st0, .ref q4, .ref q5, .ref q6, .ref q7, .ref q8, .ref q9, .ref q10, .ref q11, .ref q12, .ref q13, .ref q14, .ref q15, .ref q16])), (q4, .inl (k4, 8, .inl f4)), (q8, .inl (k8, 22, .inl f8))]) sz) t ∧ (∀ j : Nat, j < 22 → g2 j = 0)) (va_A ([(au, .inr (0, [.int (nI nc), .int (nI np), .int (nI ne), .int st0, .ref q4, .ref q5, .ref q6, .ref q7, .ref q8, .ref q9, .ref q10, .ref q11, .ref q12, .ref q13, .ref q14, .ref q15, .ref q16])), (q4, .inl (k4, 8, .inl f4)), (q8, .inl (k8, 22, .inl f8))]) sz)) 0 0 (va_A ([(au, .inr (0, [.int (nI nc), .int (nI np), .int (nI ne), .int st0, .ref q4, .ref q5, .ref q6, .ref q7, .ref q8, .ref q9, .ref q10, .ref q11, .ref q12, .ref q13, .ref q14, .ref q15, .ref q16])), (q4, .inl (k4, 8, .inl f4)), (q8, .inl (k8, 22, .inl f8))]) sz) := by
  refine Met.ofW (cc := cX0_clear) (maxL := 2) (ret := none) (by decide) rfl ?_
  intro p e s m args below meth c s₁ B hml hv
  obtain ⟨rfl, rfl, hP, hK, hD0⟩ := hv
  have hx := B.exec
  have hb := B.bytes
  have hr := B.returns
  have hts := atoms_spec (ws := vs_X0_clear) B.pre
  have v_1 := hts (.fieldLink RX0 56 "ClockReach$Automaton" "clocks" "I") (List.mem_of_getElem? (i := 1) rfl)
  have v_2 := hts (.fieldLink RX0 59 "ClockReach$Automaton" "places" "I") (List.mem_of_getElem? (i := 2) rfl)
  have v_3 := hts (.fieldLink RX0 62 "ClockReach$Automaton" "edges" "I") (List.mem_of_getElem? (i := 3) rfl)
  have v_4 := hts (.fieldLink RX0 9 "ClockReach$Automaton" "start" "I") (List.mem_of_getElem? (i := 4) rfl)
  have v_5 := hts (.fieldLink RX0 29 "ClockReach$Automaton" "counts" "[I") (List.mem_of_getElem? (i := 5) rfl)
  have v_6 := hts (.fieldLink RX0 15 "ClockReach$Automaton" "hurried" "[Z") (List.mem_of_getElem? (i := 6) rfl)
  have hown : s.vm.findClass RX0 = some m.cls := findClass_of_methodNamed B.named
  have hlocks := B.notSynchronized
  have hiX0 : ∀ w ∈ wsX00, w ∈ vs_X0_clear := fun _ h => List.mem_cons_of_mem _ (List.mem_append_right _ h)
  have hD := hD0.self (sz := s.heap.size)
  generalize hAe : va_A ([(au, .inr (0, [.int (nI nc), .int (nI np), .int (nI ne), .int st0, .ref q4, .ref q5, .ref q6, .ref q7, .ref q8, .ref q9, .ref q10, .ref q11, .ref q12, .ref q13, .ref q14, .ref q15, .ref q16])), (q4, .inl (k4, 8, .inl f4)), (q8, .inl (k8, 22, .inl f8))]) s.heap.size = A at hD ⊢
  have hA : ∀ q : Nat, s.heap.size ≤ q → A q := fun q h => by rw [← hAe]; exact Or.inr h
  have hS : va_S A s.heap s.heap [] := va_S.rf
  have hl := lv_entry ([.ref au]) (n := 2) (Nat.le_of_ble_eq_true rfl)
  rw [lg_entry_eq]
  generalize (lg_sl ([.ref au]) ++ List.replicate (2 - (lg_sl ([.ref au])).length) Slot.unset).toArray = ls at hl ⊢
  have hl : lv_has ls 2 [(0, .ref au)] := hl
  refine lv_aload_n hx hb dX0_clear_0 rfl (lv_at hl 0 rfl) ?_
  refine lv_iconst (v := 0) hx hb dX0_clear_1 (by decide) ?_
  refine va_put (D := (dC, dI)) (ci := 0) (v := .int 0) (ty := .int) (C := RX0) (T := TX0) (N := 17) hx hb hts hiX0 tyX0 tyX0_ok nmX0 hown hK hP hD hS 0 rfl rfl 0 (by decide) v_1 (fun _ h9 => h9) rfl (by decide +kernel) rfl rfl (Nat.le_of_ble_eq_true rfl) dX0_clear_2 (fun H locs hP hD hS => ?_)
  have hP : va_P (dC, dI) vwCl [(au, .inr (0, [.int 0, .int (nI np), .int (nI ne), .int st0, .ref q4, .ref q5, .ref q6, .ref q7, .ref q8, .ref q9, .ref q10, .ref q11, .ref q12, .ref q13, .ref q14, .ref q15, .ref q16])), (q4, .inl (k4, 8, .inl f4)), (q8, .inl (k8, 22, .inl f8))] H := hP
  have hD : va_D A [(au, .inr (0, [.int 0, .int (nI np), .int (nI ne), .int st0, .ref q4, .ref q5, .ref q6, .ref q7, .ref q8, .ref q9, .ref q10, .ref q11, .ref q12, .ref q13, .ref q14, .ref q15, .ref q16])), (q4, .inl (k4, 8, .inl f4)), (q8, .inl (k8, 22, .inl f8))] := hD
  refine lv_aload_n hx hb dX0_clear_5 rfl (lv_at hl 0 rfl) ?_
  refine lv_iconst (v := 0) hx hb dX0_clear_6 (by decide) ?_
  refine va_put (D := (dC, dI)) (ci := 0) (v := .int 0) (ty := .int) (C := RX0) (T := TX0) (N := 17) hx hb hts hiX0 tyX0 tyX0_ok nmX0 hown hK hP hD hS 0 rfl rfl 1 (by decide) v_2 (fun _ h9 => h9) rfl (by decide +kernel) rfl rfl (Nat.le_of_ble_eq_true rfl) dX0_clear_7 (fun H locs hP hD hS => ?_)
  have hP : va_P (dC, dI) vwCl [(au, .inr (0, [.int 0, .int 0, .int (nI ne), .int st0, .ref q4, .ref q5, .ref q6, .ref q7, .ref q8, .ref q9, .ref q10, .ref q11, .ref q12, .ref q13, .ref q14, .ref q15, .ref q16])), (q4, .inl (k4, 8, .inl f4)), (q8, .inl (k8, 22, .inl f8))] H := hP
  have hD : va_D A [(au, .inr (0, [.int 0, .int 0, .int (nI ne), .int st0, .ref q4, .ref q5, .ref q6, .ref q7, .ref q8, .ref q9, .ref q10, .ref q11, .ref q12, .ref q13, .ref q14, .ref q15, .ref q16])), (q4, .inl (k4, 8, .inl f4)), (q8, .inl (k8, 22, .inl f8))] := hD
  refine lv_aload_n hx hb dX0_clear_10 rfl (lv_at hl 0 rfl) ?_
  refine lv_iconst (v := 0) hx hb dX0_clear_11 (by decide) ?_
  refine va_put (D := (dC, dI)) (ci := 0) (v := .int 0) (ty := .int) (C := RX0) (T := TX0) (N := 17) hx hb hts hiX0 tyX0 tyX0_ok nmX0 hown hK hP hD hS 0 rfl rfl 2 (by decide) v_3 (fun _ h9 => h9) rfl (by decide +kernel) rfl rfl (Nat.le_of_ble_eq_true rfl) dX0_clear_12 (fun H locs hP hD hS => ?_)
  have hP : va_P (dC, dI) vwCl [(au, .inr (0, [.int 0, .int 0, .int 0, .int st0, .ref q4, .ref q5, .ref q6, .ref q7, .ref q8, .ref q9, .ref q10, .ref q11, .ref q12, .ref q13, .ref q14, .ref q15, .ref q16])), (q4, .inl (k4, 8, .inl f4)), (q8, .inl (k8, 22, .inl f8))] H := hP
  have hD : va_D A [(au, .inr (0, [.int 0, .int 0, .int 0, .int st0, .ref q4, .ref q5, .ref q6, .ref q7, .ref q8, .ref q9, .ref q10, .ref q11, .ref q12, .ref q13, .ref q14, .ref q15, .ref q16])), (q4, .inl (k4, 8, .inl f4)), (q8, .inl (k8, 22, .inl f8))] := hD
  refine lv_aload_n hx hb dX0_clear_15 rfl (lv_at hl 0 rfl) ?_
  refine lv_iconst (v := (-1)) hx hb dX0_clear_16 (by decide) ?_
  refine va_put (D := (dC, dI)) (ci := 0) (v := .int (-1)) (ty := .int) (C := RX0) (T := TX0) (N := 17) hx hb hts hiX0 tyX0 tyX0_ok nmX0 hown hK hP hD hS 0 rfl rfl 3 (by decide) v_4 (fun _ h9 => h9) rfl (by decide +kernel) rfl rfl (Nat.le_of_ble_eq_true rfl) dX0_clear_17 (fun H locs hP hD hS => ?_)
  have hP : va_P (dC, dI) vwCl [(au, .inr (0, [.int 0, .int 0, .int 0, .int (-1), .ref q4, .ref q5, .ref q6, .ref q7, .ref q8, .ref q9, .ref q10, .ref q11, .ref q12, .ref q13, .ref q14, .ref q15, .ref q16])), (q4, .inl (k4, 8, .inl f4)), (q8, .inl (k8, 22, .inl f8))] H := hP
  have hD : va_D A [(au, .inr (0, [.int 0, .int 0, .int 0, .int (-1), .ref q4, .ref q5, .ref q6, .ref q7, .ref q8, .ref q9, .ref q10, .ref q11, .ref q12, .ref q13, .ref q14, .ref q15, .ref q16])), (q4, .inl (k4, 8, .inl f4)), (q8, .inl (k8, 22, .inl f8))] := hD
  refine lv_iconst (v := 0) hx hb dX0_clear_20 (by decide) ?_
  refine lv_istore_n (lv' := [(1, .int 0), (0, .ref au)]) hx hb dX0_clear_21 rfl hl (by decide) rfl (fun ls hl => ?_)
  refine pu_loop (8) (fun ii H locs ls => ∃ f0 : Nat → Int32, va_P (dC, dI) vwCl [(au, .inr (0, [.int 0, .int 0, .int 0, .int (-1), .ref q4, .ref q5, .ref q6, .ref q7, .ref q8, .ref q9, .ref q10, .ref q11, .ref q12, .ref q13, .ref q14, .ref q15, .ref q16])), (q4, .inl (k4, 8, .inl f0)), (q8, .inl (k8, 22, .inl f8))] H ∧ va_D A [(au, .inr (0, [.int 0, .int 0, .int 0, .int (-1), .ref q4, .ref q5, .ref q6, .ref q7, .ref q8, .ref q9, .ref q10, .ref q11, .ref q12, .ref q13, .ref q14, .ref q15, .ref q16])), (q4, .inl (k4, 8, .inl f0)), (q8, .inl (k8, 22, .inl f8))] ∧ va_S A s.heap H locs ∧ lv_has ls 2 [(0, .ref au), (1, .int (nI ii))]) (fun _ => 0) (fun _ => 0) 22 [] ?_ ?_ _ _ _ ⟨_, hP, hD, hS, lv_sub hl [1, 0] rfl⟩
  · rintro H locs ls ⟨f_1, hP, hD, hS, hl⟩
    refine lv_iload_n hx hb dX0_clear_22 rfl (lv_at hl 1 rfl) ?_
    refine lv_bipush (v := 8) hx hb dX0_clear_23 (by decide) ?_
    refine lv_icmp_ge (tgt := 41) hx hb dX0_clear_25 (by decide) (fun _ => ?_) (fun z => absurd (nI_le (a := 8) (b := 8) (by omega) (by omega)) z)
    refine lv_iconst (v := 0) hx hb dX0_clear_41 (by decide) ?_
    refine lv_istore_n (lv' := [(1, .int 0), (0, .ref au)]) hx hb dX0_clear_42 rfl hl (by decide) rfl (fun ls hl => ?_)
    refine pu_loop (22) (fun ii H locs ls => ∃ f0 : Nat → Int32, va_P (dC, dI) vwCl [(au, .inr (0, [.int 0, .int 0, .int 0, .int (-1), .ref q4, .ref q5, .ref q6, .ref q7, .ref q8, .ref q9, .ref q10, .ref q11, .ref q12, .ref q13, .ref q14, .ref q15, .ref q16])), (q4, .inl (k4, 8, .inl f_1)), (q8, .inl (k8, 22, .inl f0))] H ∧ va_D A [(au, .inr (0, [.int 0, .int 0, .int 0, .int (-1), .ref q4, .ref q5, .ref q6, .ref q7, .ref q8, .ref q9, .ref q10, .ref q11, .ref q12, .ref q13, .ref q14, .ref q15, .ref q16])), (q4, .inl (k4, 8, .inl f_1)), (q8, .inl (k8, 22, .inl f0))] ∧ va_S A s.heap H locs ∧ lv_has ls 2 [(0, .ref au), (1, .int (nI ii))] ∧ (∀ j : Nat, j < ii → f0 j = 0)) (fun _ => 0) (fun _ => 0) 43 [] ?_ ?_ _ _ _ ⟨_, hP, hD, hS, lv_sub hl [1, 0] rfl, fun j h => absurd h (Nat.not_lt_zero j)⟩
    · rintro H locs ls ⟨f_5, hP, hD, hS, hl, hpr_9⟩
      refine lv_iload_n hx hb dX0_clear_43 rfl (lv_at hl 1 rfl) ?_
      refine lv_bipush (v := 22) hx hb dX0_clear_44 (by decide) ?_
      refine lv_icmp_ge (tgt := 62) hx hb dX0_clear_46 (by decide) (fun _ => ?_) (fun z => absurd (nI_le (a := 22) (b := 22) (by omega) (by omega)) z)
      have hP9 := hP.sub (ws' := [(au, .inr (0, [.int 0, .int 0, .int 0, .int (-1), .ref q4, .ref q5, .ref q6, .ref q7, .ref q8, .ref q9, .ref q10, .ref q11, .ref q12, .ref q13, .ref q14, .ref q15, .ref q16])), (q4, .inl (k4, 8, .inl f_1)), (q8, .inl (k8, 22, .inl f_5))]) [0, 1, 2] rfl
      have hD9 := hD.sub (ws' := [(au, .inr (0, [.int 0, .int 0, .int 0, .int (-1), .ref q4, .ref q5, .ref q6, .ref q7, .ref q8, .ref q9, .ref q10, .ref q11, .ref q12, .ref q13, .ref q14, .ref q15, .ref q16])), (q4, .inl (k4, 8, .inl f_1)), (q8, .inl (k8, 22, .inl f_5))]) [0, 1, 2] (by decide) rfl
      have hK9 := hK.sub (tys' := [(k4, .boolean), (k8, .int)]) [0, 1] rfl
      exact W.vret hx hb hr (fun t ht hW => ⟨⟨(), rfl, trivial, ⟨f_1, f_5, ⟨by rw [ht]; exact hP9, va_K.moved hW.alike hK9, hD9⟩, hpr_9⟩⟩, hS.F ht⟩) hS.2.2 dX0_clear_62
    · rintro i_6 h_7 ih_8 H locs ls ⟨f_5, hP, hD, hS, hl, hpr_9⟩
      refine lv_iload_n hx hb dX0_clear_43 rfl (lv_at hl 1 rfl) ?_
      refine lv_bipush (v := 22) hx hb dX0_clear_44 (by decide) ?_
      refine lv_icmp_ge (tgt := 62) hx hb dX0_clear_46 (by decide) (fun z => absurd z (nI_ge (a := i_6) (b := 22) (by omega) (by omega))) (fun _ => ?_)
      refine lv_aload_n hx hb dX0_clear_49 rfl (lv_at hl 0 rfl) ?_
      refine va_get (D := (dC, dI)) (ci := 0) (v := .ref q8) (C := RX0) (T := TX0) (N := 17) hx hb hts hiX0 hown hK hP 0 rfl rfl 8 (by decide) v_5 (fun _ h9 => h9) rfl dX0_clear_50 ?_
      refine lv_iload_n hx hb dX0_clear_53 rfl (lv_at hl 1 rfl) ?_
      refine lv_iconst (v := 0) hx hb dX0_clear_54 (by decide) ?_
      refine va_iast hx hb hK hP hD hS 2 1 rfl rfl (vp_in_nI (n := i_6) (by first | omega | exact ix_lt (by omega) (by omega) hn | exact ix_lt0 (by omega) hn | exact ix_ltq (by omega) hn | exact ix_lt1 (by omega) hn) (by omega)) dX0_clear_55 (fun H locs hP hD hS => ?_)
      have hP : va_P (dC, dI) vwCl [(au, .inr (0, [.int 0, .int 0, .int 0, .int (-1), .ref q4, .ref q5, .ref q6, .ref q7, .ref q8, .ref q9, .ref q10, .ref q11, .ref q12, .ref q13, .ref q14, .ref q15, .ref q16])), (q4, .inl (k4, 8, .inl f_1)), (q8, .inl (k8, 22, .inl (upd f_5 ((nI i_6) : Int32).toNatClampNeg 0)))] H := hP
      have hD : va_D A [(au, .inr (0, [.int 0, .int 0, .int 0, .int (-1), .ref q4, .ref q5, .ref q6, .ref q7, .ref q8, .ref q9, .ref q10, .ref q11, .ref q12, .ref q13, .ref q14, .ref q15, .ref q16])), (q4, .inl (k4, 8, .inl f_1)), (q8, .inl (k8, 22, .inl (upd f_5 ((nI i_6) : Int32).toNatClampNeg 0)))] := hD
      refine lv_iinc (v := (nI (i_6 + 1))) (lv' := [(1, .int (nI (i_6 + 1))), (0, .ref au)]) hx hb dX0_clear_56 hl (k := 1) rfl (nI_1 _) (by decide) rfl (fun ls hl => ?_)
      refine lv_goto (tgt := 43) hx hb dX0_clear_59 (by decide) ?_
      exact ih_8 _ _ _ ⟨_, hP, hD, hS, lv_sub hl [1, 0] rfl, up_all (by omega) hpr_9⟩
  · rintro i_2 h_3 ih_4 H locs ls ⟨f_1, hP, hD, hS, hl⟩
    refine lv_iload_n hx hb dX0_clear_22 rfl (lv_at hl 1 rfl) ?_
    refine lv_bipush (v := 8) hx hb dX0_clear_23 (by decide) ?_
    refine lv_icmp_ge (tgt := 41) hx hb dX0_clear_25 (by decide) (fun z => absurd z (nI_ge (a := i_2) (b := 8) (by omega) (by omega))) (fun _ => ?_)
    refine lv_aload_n hx hb dX0_clear_28 rfl (lv_at hl 0 rfl) ?_
    refine va_get (D := (dC, dI)) (ci := 0) (v := .ref q4) (C := RX0) (T := TX0) (N := 17) hx hb hts hiX0 hown hK hP 0 rfl rfl 4 (by decide) v_6 (fun _ h9 => h9) rfl dX0_clear_29 ?_
    refine lv_iload_n hx hb dX0_clear_32 rfl (lv_at hl 1 rfl) ?_
    refine lv_iconst (v := 0) hx hb dX0_clear_33 (by decide) ?_
    refine va_zast hx hb hK hP hD hS 1 0 rfl rfl (vp_in_nI (n := i_2) (by first | omega | exact ix_lt (by omega) (by omega) hn | exact ix_lt0 (by omega) hn | exact ix_ltq (by omega) hn | exact ix_lt1 (by omega) hn) (by omega)) dX0_clear_34 (fun H locs hP hD hS => ?_)
    have hP : va_P (dC, dI) vwCl [(au, .inr (0, [.int 0, .int 0, .int 0, .int (-1), .ref q4, .ref q5, .ref q6, .ref q7, .ref q8, .ref q9, .ref q10, .ref q11, .ref q12, .ref q13, .ref q14, .ref q15, .ref q16])), (q4, .inl (k4, 8, .inl (upd f_1 ((nI i_2) : Int32).toNatClampNeg (vp_nar .boolean 0)))), (q8, .inl (k8, 22, .inl f8))] H := hP
    have hD : va_D A [(au, .inr (0, [.int 0, .int 0, .int 0, .int (-1), .ref q4, .ref q5, .ref q6, .ref q7, .ref q8, .ref q9, .ref q10, .ref q11, .ref q12, .ref q13, .ref q14, .ref q15, .ref q16])), (q4, .inl (k4, 8, .inl (upd f_1 ((nI i_2) : Int32).toNatClampNeg (vp_nar .boolean 0)))), (q8, .inl (k8, 22, .inl f8))] := hD
    refine lv_iinc (v := (nI (i_2 + 1))) (lv' := [(1, .int (nI (i_2 + 1))), (0, .ref au)]) hx hb dX0_clear_35 hl (k := 1) rfl (nI_1 _) (by decide) rfl (fun ls hl => ?_)
    refine lv_goto (tgt := 22) hx hb dX0_clear_38 (by decide) ?_
    exact ih_4 _ _ _ ⟨_, hP, hD, hS, lv_sub hl [1, 0] rfl⟩
