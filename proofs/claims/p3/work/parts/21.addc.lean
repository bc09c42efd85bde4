theorem dX0_addCondition_0 : decode cX0_addCondition 0 = .ok (.iload_n 1, 1) := by decide +kernel
theorem dX0_addCondition_1 : decode cX0_addCondition 1 = .ok (.aload_n 0, 1) := by decide +kernel
theorem dX0_addCondition_2 : decode cX0_addCondition 2 = .ok (.getfield 29, 3) := by decide +kernel
theorem dX0_addCondition_5 : decode cX0_addCondition 5 = .ok (.iload_n 1, 1) := by decide +kernel
theorem dX0_addCondition_6 : decode cX0_addCondition 6 = .ok (.iaload, 1) := by decide +kernel
theorem dX0_addCondition_7 : decode cX0_addCondition 7 = .ok (.invokestatic 65, 3) := by decide +kernel
theorem dX0_addCondition_10 : decode cX0_addCondition 10 = .ok (.istore 5, 2) := by decide +kernel
theorem dX0_addCondition_12 : decode cX0_addCondition 12 = .ok (.aload_n 0, 1) := by decide +kernel
theorem dX0_addCondition_13 : decode cX0_addCondition 13 = .ok (.getfield 32, 3) := by decide +kernel
theorem dX0_addCondition_16 : decode cX0_addCondition 16 = .ok (.iload 5, 2) := by decide +kernel
theorem dX0_addCondition_18 : decode cX0_addCondition 18 = .ok (.iload_n 2, 1) := by decide +kernel
theorem dX0_addCondition_19 : decode cX0_addCondition 19 = .ok (.iastore, 1) := by decide +kernel
theorem dX0_addCondition_20 : decode cX0_addCondition 20 = .ok (.aload_n 0, 1) := by decide +kernel
theorem dX0_addCondition_21 : decode cX0_addCondition 21 = .ok (.getfield 35, 3) := by decide +kernel
theorem dX0_addCondition_24 : decode cX0_addCondition 24 = .ok (.iload 5, 2) := by decide +kernel
theorem dX0_addCondition_26 : decode cX0_addCondition 26 = .ok (.iload_n 3, 1) := by decide +kernel
theorem dX0_addCondition_27 : decode cX0_addCondition 27 = .ok (.iastore, 1) := by decide +kernel
theorem dX0_addCondition_28 : decode cX0_addCondition 28 = .ok (.aload_n 0, 1) := by decide +kernel
theorem dX0_addCondition_29 : decode cX0_addCondition 29 = .ok (.getfield 38, 3) := by decide +kernel
theorem dX0_addCondition_32 : decode cX0_addCondition 32 = .ok (.iload 5, 2) := by decide +kernel
theorem dX0_addCondition_34 : decode cX0_addCondition 34 = .ok (.iload 4, 2) := by decide +kernel
theorem dX0_addCondition_36 : decode cX0_addCondition 36 = .ok (.iastore, 1) := by decide +kernel
theorem dX0_addCondition_37 : decode cX0_addCondition 37 = .ok (.aload_n 0, 1) := by decide +kernel
theorem dX0_addCondition_38 : decode cX0_addCondition 38 = .ok (.iload 5, 2) := by decide +kernel
theorem dX0_addCondition_40 : decode cX0_addCondition 40 = .ok (.invokevirtual 69, 3) := by decide +kernel
theorem dX0_addCondition_43 : decode cX0_addCondition 43 = .ok (.aload_n 0, 1) := by decide +kernel
theorem dX0_addCondition_44 : decode cX0_addCondition 44 = .ok (.getfield 29, 3) := by decide +kernel
theorem dX0_addCondition_47 : decode cX0_addCondition 47 = .ok (.iload_n 1, 1) := by decide +kernel
theorem dX0_addCondition_48 : decode cX0_addCondition 48 = .ok (.dup2, 1) := by decide +kernel
theorem dX0_addCondition_49 : decode cX0_addCondition 49 = .ok (.iaload, 1) := by decide +kernel
theorem dX0_addCondition_50 : decode cX0_addCondition 50 = .ok (.iconst 1, 1) := by decide +kernel
theorem dX0_addCondition_51 : decode cX0_addCondition 51 = .ok (.iadd, 1) := by decide +kernel
theorem dX0_addCondition_52 : decode cX0_addCondition 52 = .ok (.iastore, 1) := by decide +kernel
theorem dX0_addCondition_53 : decode cX0_addCondition 53 = .ok (.return_, 1) := by decide +kernel
def vs_X0_addCondition : List Cond := .code yX0_addCondition cX0_addCondition 6 none :: ([.fieldLink RX0 29 "ClockReach$Automaton" "counts" "[I", .methodLink RX0 65 yX0_slot, .static yX0_slot, .initialized RX0, .code yX0_slot cX0_slot 2 (some .int), .fieldLink RX0 32 "ClockReach$Automaton" "conditionClocks" "[I", .fieldLink RX0 35 "ClockReach$Automaton" "hows" "[I", .fieldLink RX0 38 "ClockReach$Automaton" "numbers" "[I", .methodLink RX0 69 yX0_setBounds, .instanceMethod yX0_setBounds, .selects RX0 yX0_setBounds yX0_setBounds, .code yX0_setBounds cX0_setBounds 4 none, .fieldLink RX0 41 "ClockReach$Automaton" "ceilings" "[I", .fieldLink RX0 44 "ClockReach$Automaton" "floors" "[I", .constant RX0 75 (2147483647)] ++ wsX00)
theorem g_X0_addCondition_X0_slot : GoodIn vs_X0_addCondition (va_wsS RX0 65 yX0_slot vs_X0_slot) := goodIn_r _ [2, 3, 4, 5] (by decide +kernel) (by decide +kernel)
theorem g_X0_addCondition_X0_setBounds : GoodIn vs_X0_addCondition (wsV RX0 69 RX0 yX0_setBounds vs_X0_setBounds) := goodIn_r _ [9, 10, 11, 4, 12, 7, 8, 13, 14, 15, 16, 17, 18, 19, 20, 21, 22, 23, 24, 25, 26, 27, 28, 29, 30, 31, 32] (by decide +kernel) (by decide +kernel)
set_option maxHeartbeats 4000000 in
set_option maxRecDepth 100000 in
theorem c_X0_addCondition (l : Launch) (dC : Nat → ClassId) (dI : Nat → Nat → Nat) (sz : Nat) (au q4 q5 q6 q7 q8 q9 q10 q11 q12 q13 q14 q15 q16 : Nat) (nc np ne : Nat) (st0 : Int32) (k8 k9 k10 k11 k12 k13 : ClassId) (f8 f9 f10 f11 f12 f13 : Nat → Int32) (h q cl : Nat) (hh : h < 22) (hq : q ≤ 3) (e8 : f8 h = nI q) (p0 p1 : Int32) : Met l yX0_addCondition vs_X0_addCondition ({ frames := 1, cells := 0, slots := 0, locals := 23 }) (va_Pc [.ref au, .int (nI h), .int (nI cl), .int p0, .int p1] (pu_B (dC, dI) [(au, .inr (0, [.int (nI nc), .int (nI np), .int (nI ne), .int st0, .ref q4, .ref q5, .ref q6, .ref q7, .ref q8, .ref q9, .ref q10, .ref q11, .ref q12, .ref q13, .ref q14, .ref q15, .ref q16])), (q8, .inl (k8, 22, .inl f8)), (q9, .inl (k9, 88, .inl f9)), (q10, .inl (k10, 88, .inl f10)), (q11, .inl (k11, 88, .inl f11)), (q12, .inl (k12, 88, .inl f12)), (q13, .inl (k13, 88, .inl f13))] [(k8, .int), (k9, .int), (k10, .int), (k11, .int), (k12, .int), (k13, .int)] sz)) (va_Qv (fun (_ : Unit) => True) (fun _ t => ∃ (g0 g1 g2 g3 : Nat → Int32), pu_E (dC, dI) [(au, .inr (0, [.int (nI nc), .int (nI np), .int (nI ne), .int st0, .ref q4, .ref q5, .ref q6, .ref q7, .ref q8, .ref q9, .ref q10, .ref q11, .ref q12, .ref q13, .ref q14, .ref q15, .ref q16])), (q8, .inl (k8, 22, .inl (upd f8 (nI h : Int32).toNatClampNeg (nI (q + 1))))), (q9, .inl (k9, 88, .inl (upd f9 (nI (h * 4 + q) : Int32).toNatClampNeg (nI cl)))), (q10, .inl (k10, 88, .inl g0)), (q11, .inl (k11, 88, .inl g1)), (q12, .inl (k12, 88, .inl g2)), (q13, .inl (k13, 88, .inl g3))] [(k8, .int), (k9, .int), (k10, .int), (k11, .int), (k12, .int), (k13, .int)] (va_A ([(au, .inr (0, [.int (nI nc), .int (nI np), .int (nI ne), .int st0, .ref q4, .ref q5, .ref q6, .ref q7, .ref q8, .ref q9, .ref q10, .ref q11, .ref q12, .ref q13, .ref q14, .ref q15, .ref q16])), (q8, .inl (k8, 22, .inl f8)), (q9, .inl (k9, 88, .inl f9)), (q10, .inl (k10, 88, .inl f10)), (q11, .inl (k11, 88, .inl f11)), (q12, .inl (k12, 88, .inl f12)), (q13, .inl (k13, 88, .inl f13))]) sz) t) (va_A ([(au, .inr (0, [.int (nI nc), .int (nI np), .int (nI ne), .int st0, .ref q4, .ref q5, .ref q6, .ref q7, .ref q8, .ref q9, .ref q10, .ref q11, .ref q12, .ref q13, .ref q14, .ref q15, .ref q16])), (q8, .inl (k8, 22, .inl f8)), (q9, .inl (k9, 88, .inl f9)), (q10, .inl (k10, 88, .inl f10)), (q11, .inl (k11, 88, .inl f11)), (q12, .inl (k12, 88, .inl f12)), (q13, .inl (k13, 88, .inl f13))]) sz)) 0 0 (va_A ([(au, .inr (0, [.int (nI nc), .int (nI np), .int (nI ne), .int st0, .ref q4, .ref q5, .ref q6, .ref q7, .ref q8, .ref q9, .ref q10, .ref q11, .ref q12, .ref q13, .ref q14, .ref q15, .ref q16])), (q8, .inl (k8, 22, .inl f8)), (q9, .inl (k9, 88, .inl f9)), (q10, .inl (k10, 88, .inl f10)), (q11, .inl (k11, 88, .inl f11)), (q12, .inl (k12, 88, .inl f12)), (q13, .inl (k13, 88, .inl f13))]) sz) := by
  refine Met.ofW (cc := cX0_addCondition) (maxL := 6) (ret := none) (by decide) rfl ?_
  intro p e s m args below meth c s₁ B hml hv
  obtain ⟨rfl, rfl, hP, hK, hD0⟩ := hv
  have hx := B.exec
  have hb := B.bytes
  have hr := B.returns
  have hts := atoms_spec (ws := vs_X0_addCondition) B.pre
  have v_1 := hts (.fieldLink RX0 29 "ClockReach$Automaton" "counts" "[I") (List.mem_of_getElem? (i := 1) rfl)
  have v_6 := hts (.fieldLink RX0 32 "ClockReach$Automaton" "conditionClocks" "[I") (List.mem_of_getElem? (i := 6) rfl)
  have v_7 := hts (.fieldLink RX0 35 "ClockReach$Automaton" "hows" "[I") (List.mem_of_getElem? (i := 7) rfl)
  have v_8 := hts (.fieldLink RX0 38 "ClockReach$Automaton" "numbers" "[I") (List.mem_of_getElem? (i := 8) rfl)
  have hown : s.vm.findClass RX0 = some m.cls := findClass_of_methodNamed B.named
  have hlocks := B.notSynchronized
  have hiX0 : ∀ w ∈ wsX00, w ∈ vs_X0_addCondition := fun _ h => List.mem_cons_of_mem _ (List.mem_append_right _ h)
  have hD := hD0.self (sz := s.heap.size)
  generalize hAe : va_A ([(au, .inr (0, [.int (nI nc), .int (nI np), .int (nI ne), .int st0, .ref q4, .ref q5, .ref q6, .ref q7, .ref q8, .ref q9, .ref q10, .ref q11, .ref q12, .ref q13, .ref q14, .ref q15, .ref q16])), (q8, .inl (k8, 22, .inl f8)), (q9, .inl (k9, 88, .inl f9)), (q10, .inl (k10, 88, .inl f10)), (q11, .inl (k11, 88, .inl f11)), (q12, .inl (k12, 88, .inl f12)), (q13, .inl (k13, 88, .inl f13))]) s.heap.size = A at hD ⊢
  have hA : ∀ q : Nat, s.heap.size ≤ q → A q := fun q h => by rw [← hAe]; exact Or.inr h
  have hS : va_S A s.heap s.heap [] := va_S.rf
  have hl := lv_entry ([.ref au, .int (nI h), .int (nI cl), .int p0, .int p1]) (n := 6) (Nat.le_of_ble_eq_true rfl)
  rw [lg_entry_eq]
  generalize (lg_sl ([.ref au, .int (nI h), .int (nI cl), .int p0, .int p1]) ++ List.replicate (6 - (lg_sl ([.ref au, .int (nI h), .int (nI cl), .int p0, .int p1])).length) Slot.unset).toArray = ls at hl ⊢
  have hl : lv_has ls 6 [(0, .ref au), (1, .int (nI h)), (2, .int (nI cl)), (3, .int p0), (4, .int p1)] := hl
  refine lv_iload_n hx hb dX0_addCondition_0 rfl (lv_at hl 1 rfl) ?_
  refine lv_aload_n hx hb dX0_addCondition_1 rfl (lv_at hl 0 rfl) ?_
  refine va_get (D := (dC, dI)) (ci := 0) (v := .ref q8) (C := RX0) (T := TX0) (N := 17) hx hb hts hiX0 hown hK hP 0 rfl rfl 8 (by decide) v_1 (fun _ h9 => h9) rfl dX0_addCondition_2 ?_
  refine lv_iload_n hx hb dX0_addCondition_5 rfl (lv_at hl 1 rfl) ?_
  refine va_iald hx hb hK hP 1 0 rfl rfl (vp_in_nI (n := h) (by first | omega | exact ix_lt (by omega) (by omega) hn | exact ix_lt0 (by omega) hn | exact ix_ltq (by omega) hn | exact ix_lt1 (by omega) hn) (by omega)) dX0_addCondition_6 ?_
  refine lv_topi (fun y_1 ey_1 => ?_)
  have ey_1 : y_1 = f8 h := ey_1.trans (congrArg f8 (nI_clamp (n := h) (by omega)))
  obtain rfl : y_1 = nI q := ey_1.trans e8
  refine va_calli (va_runS (As := [.int (nI h), .int (nI q)]) (rest := []) ⟨hx, hb, hml, hown, hts⟩ (c_X0_slot l dC dI _ h q) (va_cwS 2 hts g_X0_addCondition_X0_slot rfl rfl rfl (by decide +kernel) ⟨Nat.le_of_ble_eq_true rfl, Nat.le_of_ble_eq_true rfl⟩) ⟨pu_bl, pu_in (hP.sub [] rfl) (hK.sub [] rfl) (hD.sub [] (by decide) rfl)⟩ rfl rfl hl.1 rfl (lv_room (Nat.le_of_ble_eq_true rfl)) dX0_addCondition_7 ⟨Nat.le_of_ble_eq_true rfl, Nat.le_of_ble_eq_true rfl⟩) hS (fun q _ h => pu_fr hS hA q h) (pu_fr hS hA) (fun r_2 u t H1 locs ht hvm hw hB hz1 hk1 hS => ?_)
  have hP := pu_keep hP hk1
  clear hk1 hz1 ht hvm
  generalize H1 = H at hP hS ⊢
  obtain rfl : r_2 = (nI (h * 4 + q)) := hw
  refine lv_istore (lv' := [(5, .int (nI (h * 4 + q))), (0, .ref au), (1, .int (nI h)), (2, .int (nI cl)), (3, .int p0), (4, .int p1)]) hx hb dX0_addCondition_10 hl (by decide) rfl (fun ls hl => ?_)
  refine lv_aload_n hx hb dX0_addCondition_12 rfl (lv_at hl 1 rfl) ?_
  refine va_get (D := (dC, dI)) (ci := 0) (v := .ref q9) (C := RX0) (T := TX0) (N := 17) hx hb hts hiX0 hown hK hP 0 rfl rfl 9 (by decide) v_6 (fun _ h9 => h9) rfl dX0_addCondition_13 ?_
  refine lv_iload hx hb dX0_addCondition_16 (lv_at hl 0 rfl) ?_
  refine lv_iload_n hx hb dX0_addCondition_18 rfl (lv_at hl 3 rfl) ?_
  refine va_iast hx hb hK hP hD hS 2 1 rfl rfl (vp_in_nI (n := (h * 4 + q)) (by first | omega | exact ix_lt (by omega) (by omega) hn | exact ix_lt0 (by omega) hn | exact ix_ltq (by omega) hn | exact ix_lt1 (by omega) hn) (by omega)) dX0_addCondition_19 (fun H locs hP hD hS => ?_)
  have hP : va_P (dC, dI) vwCl [(au, .inr (0, [.int (nI nc), .int (nI np), .int (nI ne), .int st0, .ref q4, .ref q5, .ref q6, .ref q7, .ref q8, .ref q9, .ref q10, .ref q11, .ref q12, .ref q13, .ref q14, .ref q15, .ref q16])), (q8, .inl (k8, 22, .inl f8)), (q9, .inl (k9, 88, .inl (upd f9 ((nI (h * 4 + q)) : Int32).toNatClampNeg (nI cl)))), (q10, .inl (k10, 88, .inl f10)), (q11, .inl (k11, 88, .inl f11)), (q12, .inl (k12, 88, .inl f12)), (q13, .inl (k13, 88, .inl f13))] H := hP
  have hD : va_D A [(au, .inr (0, [.int (nI nc), .int (nI np), .int (nI ne), .int st0, .ref q4, .ref q5, .ref q6, .ref q7, .ref q8, .ref q9, .ref q10, .ref q11, .ref q12, .ref q13, .ref q14, .ref q15, .ref q16])), (q8, .inl (k8, 22, .inl f8)), (q9, .inl (k9, 88, .inl (upd f9 ((nI (h * 4 + q)) : Int32).toNatClampNeg (nI cl)))), (q10, .inl (k10, 88, .inl f10)), (q11, .inl (k11, 88, .inl f11)), (q12, .inl (k12, 88, .inl f12)), (q13, .inl (k13, 88, .inl f13))] := hD
  refine lv_aload_n hx hb dX0_addCondition_20 rfl (lv_at hl 1 rfl) ?_
  refine va_get (D := (dC, dI)) (ci := 0) (v := .ref q10) (C := RX0) (T := TX0) (N := 17) hx hb hts hiX0 hown hK hP 0 rfl rfl 10 (by decide) v_7 (fun _ h9 => h9) rfl dX0_addCondition_21 ?_
  refine lv_iload hx hb dX0_addCondition_24 (lv_at hl 0 rfl) ?_
  refine lv_iload_n hx hb dX0_addCondition_26 rfl (lv_at hl 4 rfl) ?_
  refine va_iast hx hb hK hP hD hS 3 2 rfl rfl (vp_in_nI (n := (h * 4 + q)) (by first | omega | exact ix_lt (by omega) (by omega) hn | exact ix_lt0 (by omega) hn | exact ix_ltq (by omega) hn | exact ix_lt1 (by omega) hn) (by omega)) dX0_addCondition_27 (fun H locs hP hD hS => ?_)
  have hP : va_P (dC, dI) vwCl [(au, .inr (0, [.int (nI nc), .int (nI np), .int (nI ne), .int st0, .ref q4, .ref q5, .ref q6, .ref q7, .ref q8, .ref q9, .ref q10, .ref q11, .ref q12, .ref q13, .ref q14, .ref q15, .ref q16])), (q8, .inl (k8, 22, .inl f8)), (q9, .inl (k9, 88, .inl (upd f9 ((nI (h * 4 + q)) : Int32).toNatClampNeg (nI cl)))), (q10, .inl (k10, 88, .inl (upd f10 ((nI (h * 4 + q)) : Int32).toNatClampNeg p0))), (q11, .inl (k11, 88, .inl f11)), (q12, .inl (k12, 88, .inl f12)), (q13, .inl (k13, 88, .inl f13))] H := hP
  have hD : va_D A [(au, .inr (0, [.int (nI nc), .int (nI np), .int (nI ne), .int st0, .ref q4, .ref q5, .ref q6, .ref q7, .ref q8, .ref q9, .ref q10, .ref q11, .ref q12, .ref q13, .ref q14, .ref q15, .ref q16])), (q8, .inl (k8, 22, .inl f8)), (q9, .inl (k9, 88, .inl (upd f9 ((nI (h * 4 + q)) : Int32).toNatClampNeg (nI cl)))), (q10, .inl (k10, 88, .inl (upd f10 ((nI (h * 4 + q)) : Int32).toNatClampNeg p0))), (q11, .inl (k11, 88, .inl f11)), (q12, .inl (k12, 88, .inl f12)), (q13, .inl (k13, 88, .inl f13))] := hD
  refine lv_aload_n hx hb dX0_addCondition_28 rfl (lv_at hl 1 rfl) ?_
  refine va_get (D := (dC, dI)) (ci := 0) (v := .ref q11) (C := RX0) (T := TX0) (N := 17) hx hb hts hiX0 hown hK hP 0 rfl rfl 11 (by decide) v_8 (fun _ h9 => h9) rfl dX0_addCondition_29 ?_
  refine lv_iload hx hb dX0_addCondition_32 (lv_at hl 0 rfl) ?_
  refine lv_iload hx hb dX0_addCondition_34 (lv_at hl 5 rfl) ?_
  refine va_iast hx hb hK hP hD hS 4 3 rfl rfl (vp_in_nI (n := (h * 4 + q)) (by first | omega | exact ix_lt (by omega) (by omega) hn | exact ix_lt0 (by omega) hn | exact ix_ltq (by omega) hn | exact ix_lt1 (by omega) hn) (by omega)) dX0_addCondition_36 (fun H locs hP hD hS => ?_)
  have hP : va_P (dC, dI) vwCl [(au, .inr (0, [.int (nI nc), .int (nI np), .int (nI ne), .int st0, .ref q4, .ref q5, .ref q6, .ref q7, .ref q8, .ref q9, .ref q10, .ref q11, .ref q12, .ref q13, .ref q14, .ref q15, .ref q16])), (q8, .inl (k8, 22, .inl f8)), (q9, .inl (k9, 88, .inl (upd f9 ((nI (h * 4 + q)) : Int32).toNatClampNeg (nI cl)))), (q10, .inl (k10, 88, .inl (upd f10 ((nI (h * 4 + q)) : Int32).toNatClampNeg p0))), (q11, .inl (k11, 88, .inl (upd f11 ((nI (h * 4 + q)) : Int32).toNatClampNeg p1))), (q12, .inl (k12, 88, .inl f12)), (q13, .inl (k13, 88, .inl f13))] H := hP
  have hD : va_D A [(au, .inr (0, [.int (nI nc), .int (nI np), .int (nI ne), .int st0, .ref q4, .ref q5, .ref q6, .ref q7, .ref q8, .ref q9, .ref q10, .ref q11, .ref q12, .ref q13, .ref q14, .ref q15, .ref q16])), (q8, .inl (k8, 22, .inl f8)), (q9, .inl (k9, 88, .inl (upd f9 ((nI (h * 4 + q)) : Int32).toNatClampNeg (nI cl)))), (q10, .inl (k10, 88, .inl (upd f10 ((nI (h * 4 + q)) : Int32).toNatClampNeg p0))), (q11, .inl (k11, 88, .inl (upd f11 ((nI (h * 4 + q)) : Int32).toNatClampNeg p1))), (q12, .inl (k12, 88, .inl f12)), (q13, .inl (k13, 88, .inl f13))] := hD
  refine lv_aload_n hx hb dX0_addCondition_37 rfl (lv_at hl 1 rfl) ?_
  refine lv_iload hx hb dX0_addCondition_38 (lv_at hl 0 rfl) ?_
  have hFc := va_free (wc := [(au, .inr (0, [.int (nI nc), .int (nI np), .int (nI ne), .int st0, .ref q4, .ref q5, .ref q6, .ref q7, .ref q8, .ref q9, .ref q10, .ref q11, .ref q12, .ref q13, .ref q14, .ref q15, .ref q16])), (q10, .inl (k10, 88, .inl (upd f10 ((nI (h * 4 + q)) : Int32).toNatClampNeg p0))), (q11, .inl (k11, 88, .inl (upd f11 ((nI (h * 4 + q)) : Int32).toNatClampNeg p1))), (q12, .inl (k12, 88, .inl f12)), (q13, .inl (k13, 88, .inl f13))]) hD hS hA [0, 3, 4, 5, 6] rfl
  refine va_callv (va_runV (As := [.int (nI (h * 4 + q))]) (rest := []) ⟨hx, hb, hml, hown, hts⟩ (c_X0_setBounds l dC dI _ au q4 q5 q6 q7 q8 q9 q10 q11 q12 q13 q14 q15 q16 nc np ne st0 k10 k11 k12 k13 (upd f10 ((nI (h * 4 + q)) : Int32).toNatClampNeg p0) (upd f11 ((nI (h * 4 + q)) : Int32).toNatClampNeg p1) f12 f13 (h * 4 + q) (by omega)) (cwV 1 hts g_X0_addCondition_X0_setBounds rfl rfl rfl (by decide +kernel) ⟨Nat.le_of_ble_eq_true rfl, Nat.le_of_ble_eq_true rfl⟩) ⟨pu_bl, va_recv hK hP (ci := 0) (q0 := 0) rfl rfl, pu_in (hP.sub [0, 3, 4, 5, 6] rfl) (hK.sub [2, 3, 4, 5] rfl) (hD.sub [0, 3, 4, 5, 6] (by decide) rfl)⟩ rfl rfl hl.1 rfl (lv_room (Nat.le_of_ble_eq_true rfl)) dX0_addCondition_40 ⟨Nat.le_of_ble_eq_true rfl, Nat.le_of_ble_eq_true rfl⟩) hS (fun q _ h => hFc q h) hFc (fun u t H1 locs ht hvm hw hB hz1 hk1 hS => ?_)
  obtain ⟨g1_4, g2_5, ⟨hP1, hK1, hD1⟩⟩ := hB
  rw [ht] at hP1
  have hK1 := va_K.moved hvm.symm hK1
  obtain ⟨hP, hD⟩ := va_join (wr := [(q8, .inl (k8, 22, .inl f8)), (q9, .inl (k9, 88, .inl (upd f9 ((nI (h * 4 + q)) : Int32).toNatClampNeg (nI cl))))]) (w1 := [(au, .inr (0, [.int (nI nc), .int (nI np), .int (nI ne), .int st0, .ref q4, .ref q5, .ref q6, .ref q7, .ref q8, .ref q9, .ref q10, .ref q11, .ref q12, .ref q13, .ref q14, .ref q15, .ref q16])), (q10, .inl (k10, 88, .inl (upd f10 ((nI (h * 4 + q)) : Int32).toNatClampNeg p0))), (q11, .inl (k11, 88, .inl (upd f11 ((nI (h * 4 + q)) : Int32).toNatClampNeg p1))), (q12, .inl (k12, 88, .inl g1_4)), (q13, .inl (k13, 88, .inl g2_5))]) hP hD [0, 3, 4, 5, 6] [1, 2] rfl rfl (by decide) (by decide) hk1 hFc hP1 hD1
  have hK := hK.app hK1
  clear hk1 hz1 ht hvm
  generalize H1 = H at hP hS ⊢
  have hP : va_P (dC, dI) vwCl [(q8, .inl (k8, 22, .inl f8)), (q9, .inl (k9, 88, .inl (upd f9 ((nI (h * 4 + q)) : Int32).toNatClampNeg (nI cl)))), (au, .inr (0, [.int (nI nc), .int (nI np), .int (nI ne), .int st0, .ref q4, .ref q5, .ref q6, .ref q7, .ref q8, .ref q9, .ref q10, .ref q11, .ref q12, .ref q13, .ref q14, .ref q15, .ref q16])), (q10, .inl (k10, 88, .inl (upd f10 ((nI (h * 4 + q)) : Int32).toNatClampNeg p0))), (q11, .inl (k11, 88, .inl (upd f11 ((nI (h * 4 + q)) : Int32).toNatClampNeg p1))), (q12, .inl (k12, 88, .inl g1_4)), (q13, .inl (k13, 88, .inl g2_5))] H := hP
  have hD : va_D A [(q8, .inl (k8, 22, .inl f8)), (q9, .inl (k9, 88, .inl (upd f9 ((nI (h * 4 + q)) : Int32).toNatClampNeg (nI cl)))), (au, .inr (0, [.int (nI nc), .int (nI np), .int (nI ne), .int st0, .ref q4, .ref q5, .ref q6, .ref q7, .ref q8, .ref q9, .ref q10, .ref q11, .ref q12, .ref q13, .ref q14, .ref q15, .ref q16])), (q10, .inl (k10, 88, .inl (upd f10 ((nI (h * 4 + q)) : Int32).toNatClampNeg p0))), (q11, .inl (k11, 88, .inl (upd f11 ((nI (h * 4 + q)) : Int32).toNatClampNeg p1))), (q12, .inl (k12, 88, .inl g1_4)), (q13, .inl (k13, 88, .inl g2_5))] := hD
  have hK : va_K (dC, dI) vwCl [(k8, .int), (k9, .int), (k10, .int), (k11, .int), (k12, .int), (k13, .int), (k10, .int), (k11, .int), (k12, .int), (k13, .int)] s := hK
  refine lv_aload_n hx hb dX0_addCondition_43 rfl (lv_at hl 1 rfl) ?_
  refine va_get (D := (dC, dI)) (ci := 0) (v := .ref q8) (C := RX0) (T := TX0) (N := 17) hx hb hts hiX0 hown hK hP 2 rfl rfl 8 (by decide) v_1 (fun _ h9 => h9) rfl dX0_addCondition_44 ?_
  refine lv_iload_n hx hb dX0_addCondition_47 rfl (lv_at hl 2 rfl) ?_
  refine lv_dup2_11 hx hb dX0_addCondition_48 rfl rfl ?_
  refine va_iald hx hb hK hP 0 0 rfl rfl (vp_in_nI (n := h) (by first | omega | exact ix_lt (by omega) (by omega) hn | exact ix_lt0 (by omega) hn | exact ix_ltq (by omega) hn | exact ix_lt1 (by omega) hn) (by omega)) dX0_addCondition_49 ?_
  refine lv_topi (fun y_6 ey_6 => ?_)
  have ey_6 : y_6 = f8 h := ey_6.trans (congrArg f8 (nI_clamp (n := h) (by omega)))
  obtain rfl : y_6 = nI q := ey_6.trans e8
  refine lv_iconst (v := 1) hx hb dX0_addCondition_50 (by decide) ?_
  refine lv_iadd hx hb dX0_addCondition_51 ?_
  refine lv_topi (fun y_7 ey_7 => ?_)
  obtain rfl : y_7 = (nI (q + 1)) := ey_7.trans (nI_add q 1)
  refine va_iast hx hb hK hP hD hS 0 0 rfl rfl (vp_in_nI (n := h) (by first | omega | exact ix_lt (by omega) (by omega) hn | exact ix_lt0 (by omega) hn | exact ix_ltq (by omega) hn | exact ix_lt1 (by omega) hn) (by omega)) dX0_addCondition_52 (fun H locs hP hD hS => ?_)
  have hP : va_P (dC, dI) vwCl [(q8, .inl (k8, 22, .inl (upd f8 ((nI h) : Int32).toNatClampNeg (nI (q + 1))))), (q9, .inl (k9, 88, .inl (upd f9 ((nI (h * 4 + q)) : Int32).toNatClampNeg (nI cl)))), (au, .inr (0, [.int (nI nc), .int (nI np), .int (nI ne), .int st0, .ref q4, .ref q5, .ref q6, .ref q7, .ref q8, .ref q9, .ref q10, .ref q11, .ref q12, .ref q13, .ref q14, .ref q15, .ref q16])), (q10, .inl (k10, 88, .inl (upd f10 ((nI (h * 4 + q)) : Int32).toNatClampNeg p0))), (q11, .inl (k11, 88, .inl (upd f11 ((nI (h * 4 + q)) : Int32).toNatClampNeg p1))), (q12, .inl (k12, 88, .inl g1_4)), (q13, .inl (k13, 88, .inl g2_5))] H := hP
  have hD : va_D A [(q8, .inl (k8, 22, .inl (upd f8 ((nI h) : Int32).toNatClampNeg (nI (q + 1))))), (q9, .inl (k9, 88, .inl (upd f9 ((nI (h * 4 + q)) : Int32).toNatClampNeg (nI cl)))), (au, .inr (0, [.int (nI nc), .int (nI np), .int (nI ne), .int st0, .ref q4, .ref q5, .ref q6, .ref q7, .ref q8, .ref q9, .ref q10, .ref q11, .ref q12, .ref q13, .ref q14, .ref q15, .ref q16])), (q10, .inl (k10, 88, .inl (upd f10 ((nI (h * 4 + q)) : Int32).toNatClampNeg p0))), (q11, .inl (k11, 88, .inl (upd f11 ((nI (h * 4 + q)) : Int32).toNatClampNeg p1))), (q12, .inl (k12, 88, .inl g1_4)), (q13, .inl (k13, 88, .inl g2_5))] := hD
  have hP9 := hP.sub (ws' := [(au, .inr (0, [.int (nI nc), .int (nI np), .int (nI ne), .int st0, .ref q4, .ref q5, .ref q6, .ref q7, .ref q8, .ref q9, .ref q10, .ref q11, .ref q12, .ref q13, .ref q14, .ref q15, .ref q16])), (q8, .inl (k8, 22, .inl (upd f8 (nI h : Int32).toNatClampNeg (nI (q + 1))))), (q9, .inl (k9, 88, .inl (upd f9 (nI (h * 4 + q) : Int32).toNatClampNeg (nI cl)))), (q10, .inl (k10, 88, .inl (upd f10 ((nI (h * 4 + q)) : Int32).toNatClampNeg p0))), (q11, .inl (k11, 88, .inl (upd f11 ((nI (h * 4 + q)) : Int32).toNatClampNeg p1))), (q12, .inl (k12, 88, .inl g1_4)), (q13, .inl (k13, 88, .inl g2_5))]) [2, 0, 1, 3, 4, 5, 6] rfl
  have hD9 := hD.sub (ws' := [(au, .inr (0, [.int (nI nc), .int (nI np), .int (nI ne), .int st0, .ref q4, .ref q5, .ref q6, .ref q7, .ref q8, .ref q9, .ref q10, .ref q11, .ref q12, .ref q13, .ref q14, .ref q15, .ref q16])), (q8, .inl (k8, 22, .inl (upd f8 (nI h : Int32).toNatClampNeg (nI (q + 1))))), (q9, .inl (k9, 88, .inl (upd f9 (nI (h * 4 + q) : Int32).toNatClampNeg (nI cl)))), (q10, .inl (k10, 88, .inl (upd f10 ((nI (h * 4 + q)) : Int32).toNatClampNeg p0))), (q11, .inl (k11, 88, .inl (upd f11 ((nI (h * 4 + q)) : Int32).toNatClampNeg p1))), (q12, .inl (k12, 88, .inl g1_4)), (q13, .inl (k13, 88, .inl g2_5))]) [2, 0, 1, 3, 4, 5, 6] (by decide) rfl
  have hK9 := hK.sub (tys' := [(k8, .int), (k9, .int), (k10, .int), (k11, .int), (k12, .int), (k13, .int)]) [0, 1, 2, 3, 4, 5] rfl
  exact W.vret hx hb hr (fun t ht hW => ⟨⟨(), rfl, trivial, ⟨(upd f10 ((nI (h * 4 + q)) : Int32).toNatClampNeg p0), (upd f11 ((nI (h * 4 + q)) : Int32).toNatClampNeg p1), g1_4, g2_5, by rw [ht]; exact hP9, va_K.moved hW.alike hK9, hD9⟩⟩, hS.F ht⟩) hS.2.2 dX0_addCondition_53
