theorem dX6_layConditions_0 : decode cX6_layConditions 0 = .ok (.iconst 0, 1) := by decide +kernel
theorem dX6_layConditions_1 : decode cX6_layConditions 1 = .ok (.istore 4, 2) := by decide +kernel
theorem dX6_layConditions_3 : decode cX6_layConditions 3 = .ok (.iload 4, 2) := by decide +kernel
theorem dX6_layConditions_5 : decode cX6_layConditions 5 = .ok (.aload_n 1, 1) := by decide +kernel
theorem dX6_layConditions_6 : decode cX6_layConditions 6 = .ok (.getfield 93, 3) := by decide +kernel
theorem dX6_layConditions_9 : decode cX6_layConditions 9 = .ok (.iload_n 2, 1) := by decide +kernel
theorem dX6_layConditions_10 : decode cX6_layConditions 10 = .ok (.iaload, 1) := by decide +kernel
theorem dX6_layConditions_11 : decode cX6_layConditions 11 = .ok (.if_icmp .ge 91, 3) := by decide +kernel
theorem dX6_layConditions_14 : decode cX6_layConditions 14 = .ok (.iload_n 2, 1) := by decide +kernel
theorem dX6_layConditions_15 : decode cX6_layConditions 15 = .ok (.iload 4, 2) := by decide +kernel
theorem dX6_layConditions_17 : decode cX6_layConditions 17 = .ok (.invokestatic 96, 3) := by decide +kernel
theorem dX6_layConditions_20 : decode cX6_layConditions 20 = .ok (.istore 5, 2) := by decide +kernel
theorem dX6_layConditions_22 : decode cX6_layConditions 22 = .ok (.aload_n 0, 1) := by decide +kernel
theorem dX6_layConditions_23 : decode cX6_layConditions 23 = .ok (.getfield 27, 3) := by decide +kernel
theorem dX6_layConditions_26 : decode cX6_layConditions 26 = .ok (.aload_n 1, 1) := by decide +kernel
theorem dX6_layConditions_27 : decode cX6_layConditions 27 = .ok (.getfield 100, 3) := by decide +kernel
theorem dX6_layConditions_30 : decode cX6_layConditions 30 = .ok (.iload 5, 2) := by decide +kernel
theorem dX6_layConditions_32 : decode cX6_layConditions 32 = .ok (.iaload, 1) := by decide +kernel
theorem dX6_layConditions_33 : decode cX6_layConditions 33 = .ok (.iaload, 1) := by decide +kernel
theorem dX6_layConditions_34 : decode cX6_layConditions 34 = .ok (.istore 6, 2) := by decide +kernel
theorem dX6_layConditions_36 : decode cX6_layConditions 36 = .ok (.aload_n 1, 1) := by decide +kernel
theorem dX6_layConditions_37 : decode cX6_layConditions 37 = .ok (.getfield 103, 3) := by decide +kernel
theorem dX6_layConditions_40 : decode cX6_layConditions 40 = .ok (.iload 5, 2) := by decide +kernel
theorem dX6_layConditions_42 : decode cX6_layConditions 42 = .ok (.iaload, 1) := by decide +kernel
theorem dX6_layConditions_43 : decode cX6_layConditions 43 = .ok (.ldc 106, 2) := by decide +kernel
theorem dX6_layConditions_45 : decode cX6_layConditions 45 = .ok (.if_icmp .eq 21, 3) := by decide +kernel
theorem dX6_layConditions_48 : decode cX6_layConditions 48 = .ok (.aload_n 0, 1) := by decide +kernel
theorem dX6_layConditions_49 : decode cX6_layConditions 49 = .ok (.iload 6, 2) := by decide +kernel
theorem dX6_layConditions_51 : decode cX6_layConditions 51 = .ok (.iload_n 3, 1) := by decide +kernel
theorem dX6_layConditions_52 : decode cX6_layConditions 52 = .ok (.aload_n 1, 1) := by decide +kernel
theorem dX6_layConditions_53 : decode cX6_layConditions 53 = .ok (.getfield 103, 3) := by decide +kernel
theorem dX6_layConditions_56 : decode cX6_layConditions 56 = .ok (.iload 5, 2) := by decide +kernel
theorem dX6_layConditions_58 : decode cX6_layConditions 58 = .ok (.iaload, 1) := by decide +kernel
theorem dX6_layConditions_59 : decode cX6_layConditions 59 = .ok (.invokestatic 107, 3) := by decide +kernel
theorem dX6_layConditions_62 : decode cX6_layConditions 62 = .ok (.ineg, 1) := by decide +kernel
theorem dX6_layConditions_63 : decode cX6_layConditions 63 = .ok (.invokevirtual 76, 3) := by decide +kernel
theorem dX6_layConditions_66 : decode cX6_layConditions 66 = .ok (.aload_n 1, 1) := by decide +kernel
theorem dX6_layConditions_67 : decode cX6_layConditions 67 = .ok (.getfield 110, 3) := by decide +kernel
theorem dX6_layConditions_70 : decode cX6_layConditions 70 = .ok (.iload 5, 2) := by decide +kernel
theorem dX6_layConditions_72 : decode cX6_layConditions 72 = .ok (.iaload, 1) := by decide +kernel
theorem dX6_layConditions_73 : decode cX6_layConditions 73 = .ok (.ldc 106, 2) := by decide +kernel
theorem dX6_layConditions_75 : decode cX6_layConditions 75 = .ok (.if_icmp .eq 21, 3) := by decide +kernel
theorem dX6_layConditions_78 : decode cX6_layConditions 78 = .ok (.aload_n 0, 1) := by decide +kernel
theorem dX6_layConditions_79 : decode cX6_layConditions 79 = .ok (.iload_n 3, 1) := by decide +kernel
theorem dX6_layConditions_80 : decode cX6_layConditions 80 = .ok (.iload 6, 2) := by decide +kernel
theorem dX6_layConditions_82 : decode cX6_layConditions 82 = .ok (.aload_n 1, 1) := by decide +kernel
theorem dX6_layConditions_83 : decode cX6_layConditions 83 = .ok (.getfield 110, 3) := by decide +kernel
theorem dX6_layConditions_86 : decode cX6_layConditions 86 = .ok (.iload 5, 2) := by decide +kernel
theorem dX6_layConditions_88 : decode cX6_layConditions 88 = .ok (.iaload, 1) := by decide +kernel
theorem dX6_layConditions_89 : decode cX6_layConditions 89 = .ok (.invokestatic 107, 3) := by decide +kernel
theorem dX6_layConditions_92 : decode cX6_layConditions 92 = .ok (.ineg, 1) := by decide +kernel
theorem dX6_layConditions_93 : decode cX6_layConditions 93 = .ok (.invokevirtual 76, 3) := by decide +kernel
theorem dX6_layConditions_96 : decode cX6_layConditions 96 = .ok (.iinc 4 1, 3) := by decide +kernel
theorem dX6_layConditions_99 : decode cX6_layConditions 99 = .ok (.goto (-96), 3) := by decide +kernel
theorem dX6_layConditions_102 : decode cX6_layConditions 102 = .ok (.return_, 1) := by decide +kernel
def vs_X6_layConditions : List Cond := .code yX6_layConditions cX6_layConditions 7 none :: ([.fieldLink RX6 93 "ClockReach$Automaton" "counts" "[I", .methodLink RX6 96 yX0_slot, .static yX0_slot, .initialized RX0, .code yX0_slot cX0_slot 2 (some .int), .fieldLink RX6 27 "ClockReach$Timing" "since" "[I", .fieldLink RX6 100 "ClockReach$Automaton" "conditionClocks" "[I", .fieldLink RX6 103 "ClockReach$Automaton" "ceilings" "[I", .constant RX6 106 (2147483647), .fieldLink RX6 110 "ClockReach$Automaton" "floors" "[I", .methodLink RX6 107 yX7_ticks, .static yX7_ticks, .initialized RX7, .code yX7_ticks cX7_ticks 1 (some .int), .constant RX7 17 (2147483647), .methodLink RX6 76 yX6_layRule, .instanceMethod yX6_layRule, .selects RX6 yX6_layRule yX6_layRule, .initialized RX6, .code yX6_layRule cX6_layRule 4 none, .fieldLink RX6 57 "ClockReach$Timing" "rules" "I", .fieldLink RX6 18 "ClockReach$Timing" "laters" "[I", .fieldLink RX6 21 "ClockReach$Timing" "earliers" "[I", .fieldLink RX6 24 "ClockReach$Timing" "gaps" "[I"] ++ wsX00 ++ wsX60)
theorem g_X6_layConditions_X0_slot : GoodIn vs_X6_layConditions (va_wsS RX6 96 yX0_slot vs_X0_slot) := goodIn_r _ [2, 3, 4, 5] (by decide +kernel) (by decide +kernel)
theorem g_X6_layConditions_X7_ticks : GoodIn vs_X6_layConditions (va_wsS RX6 107 yX7_ticks vs_X7_ticks) := goodIn_r _ [11, 12, 13, 14, 15] (by decide +kernel) (by decide +kernel)
theorem g_X6_layConditions_X6_layRule : GoodIn vs_X6_layConditions (wsV RX6 76 RX6 yX6_layRule vs_X6_layRule) := goodIn_r _ [16, 17, 18, 19, 20, 21, 22, 23, 24, 42, 43, 44, 45, 46, 47, 48, 49, 50, 51] (by decide +kernel) (by decide +kernel)
set_option maxHeartbeats 4000000 in
set_option maxRecDepth 100000 in
theorem c_X6_layConditions (l : Launch) (dC : Nat → ClassId) (dI : Nat → Nat → Nat) (sz : Nat) (au q4 q5 q6 q7 q8 q9 q10 q11 q12 q13 q14 q15 q16 : Nat) (nc np ne : Nat) (st0 : Int32) (k8 k9 k12 k13 : ClassId) (f8 f9 f12 f13 : Nat → Int32) (ti r0 r2 r3 r4 r5 r7 r8 r9 : Nat) (ln nr : Nat) (j3 j4 j5 j7 : ClassId) (h3 h4 h5 h7 : Nat → Int32) (M : Nat) (hc : ao_c nc f8 f9) (hnc : nc ≤ 3) (hM : M ≤ 121) (hnr : nr ≤ 1920) (h3e : ao_e M nr h3) (h4e : ao_e M nr h4) (hsi : ao_e M 3 h7) (h : Nat) (hh : h < 22) (vb : Nat) (hb9 : vb < M) : Met l yX6_layConditions vs_X6_layConditions ({ frames := 1, cells := 0, slots := 0, locals := 23 }) (va_Pc [.ref ti, .ref au, .int (nI h), .int (nI vb)] (pu_B (dC, dI) [(au, .inr (0, [.int (nI nc), .int (nI np), .int (nI ne), .int st0, .ref q4, .ref q5, .ref q6, .ref q7, .ref q8, .ref q9, .ref q10, .ref q11, .ref q12, .ref q13, .ref q14, .ref q15, .ref q16])), (q8, .inl (k8, 22, .inl f8)), (q9, .inl (k9, 88, .inl f9)), (q12, .inl (k12, 88, .inl f12)), (q13, .inl (k13, 88, .inl f13)), (ti, .inr (6, [.ref r0, .int (nI ln), .ref r2, .ref r3, .ref r4, .ref r5, .int (nI nr), .ref r7, .ref r8, .ref r9])), (r3, .inl (j3, 1920, .inl h3)), (r4, .inl (j4, 1920, .inl h4)), (r5, .inl (j5, 1920, .inl h5)), (r7, .inl (j7, 3, .inl h7))] [(k8, .int), (k9, .int), (k12, .int), (k13, .int), (j3, .int), (j4, .int), (j5, .int), (j7, .int)] sz)) (va_Qv (fun (_ : Unit) => True) (fun _ t => ∃ (k1 : Nat) (g3 g4 g5 : Nat → Int32), pu_E (dC, dI) [(au, .inr (0, [.int (nI nc), .int (nI np), .int (nI ne), .int st0, .ref q4, .ref q5, .ref q6, .ref q7, .ref q8, .ref q9, .ref q10, .ref q11, .ref q12, .ref q13, .ref q14, .ref q15, .ref q16])), (q8, .inl (k8, 22, .inl f8)), (q9, .inl (k9, 88, .inl f9)), (q12, .inl (k12, 88, .inl f12)), (q13, .inl (k13, 88, .inl f13)), (ti, .inr (6, [.ref r0, .int (nI ln), .ref r2, .ref r3, .ref r4, .ref r5, .int (nI k1), .ref r7, .ref r8, .ref r9])), (r3, .inl (j3, 1920, .inl g3)), (r4, .inl (j4, 1920, .inl g4)), (r5, .inl (j5, 1920, .inl g5)), (r7, .inl (j7, 3, .inl h7))] [(k8, .int), (k9, .int), (k12, .int), (k13, .int), (j3, .int), (j4, .int), (j5, .int), (j7, .int)] (va_A ([(au, .inr (0, [.int (nI nc), .int (nI np), .int (nI ne), .int st0, .ref q4, .ref q5, .ref q6, .ref q7, .ref q8, .ref q9, .ref q10, .ref q11, .ref q12, .ref q13, .ref q14, .ref q15, .ref q16])), (q8, .inl (k8, 22, .inl f8)), (q9, .inl (k9, 88, .inl f9)), (q12, .inl (k12, 88, .inl f12)), (q13, .inl (k13, 88, .inl f13)), (ti, .inr (6, [.ref r0, .int (nI ln), .ref r2, .ref r3, .ref r4, .ref r5, .int (nI nr), .ref r7, .ref r8, .ref r9])), (r3, .inl (j3, 1920, .inl h3)), (r4, .inl (j4, 1920, .inl h4)), (r5, .inl (j5, 1920, .inl h5)), (r7, .inl (j7, 3, .inl h7))]) sz) t ∧ k1 ≤ 1920 ∧ ao_e M k1 g3 ∧ ao_e M k1 g4) (va_A ([(au, .inr (0, [.int (nI nc), .int (nI np), .int (nI ne), .int st0, .ref q4, .ref q5, .ref q6, .ref q7, .ref q8, .ref q9, .ref q10, .ref q11, .ref q12, .ref q13, .ref q14, .ref q15, .ref q16])), (q8, .inl (k8, 22, .inl f8)), (q9, .inl (k9, 88, .inl f9)), (q12, .inl (k12, 88, .inl f12)), (q13, .inl (k13, 88, .inl f13)), (ti, .inr (6, [.ref r0, .int (nI ln), .ref r2, .ref r3, .ref r4, .ref r5, .int (nI nr), .ref r7, .ref r8, .ref r9])), (r3, .inl (j3, 1920, .inl h3)), (r4, .inl (j4, 1920, .inl h4)), (r5, .inl (j5, 1920, .inl h5)), (r7, .inl (j7, 3, .inl h7))]) sz)) 0 0 (va_A ([(au, .inr (0, [.int (nI nc), .int (nI np), .int (nI ne), .int st0, .ref q4, .ref q5, .ref q6, .ref q7, .ref q8, .ref q9, .ref q10, .ref q11, .ref q12, .ref q13, .ref q14, .ref q15, .ref q16])), (q8, .inl (k8, 22, .inl f8)), (q9, .inl (k9, 88, .inl f9)), (q12, .inl (k12, 88, .inl f12)), (q13, .inl (k13, 88, .inl f13)), (ti, .inr (6, [.ref r0, .int (nI ln), .ref r2, .ref r3, .ref r4, .ref r5, .int (nI nr), .ref r7, .ref r8, .ref r9])), (r3, .inl (j3, 1920, .inl h3)), (r4, .inl (j4, 1920, .inl h4)), (r5, .inl (j5, 1920, .inl h5)), (r7, .inl (j7, 3, .inl h7))]) sz) := by
  refine Met.ofW (cc := cX6_layConditions) (maxL := 7) (ret := none) (by decide) rfl ?_
  intro p e s m args below meth c s₁ B hml hv
  obtain ⟨rfl, rfl, hP, hK, hD0⟩ := hv
  have hx := B.exec
  have hb := B.bytes
  have hr := B.returns
  have hts := atoms_spec (ws := vs_X6_layConditions) B.pre
  have v_1 := hts (.fieldLink RX6 93 "ClockReach$Automaton" "counts" "[I") (List.mem_of_getElem? (i := 1) rfl)
  have v_6 := hts (.fieldLink RX6 27 "ClockReach$Timing" "since" "[I") (List.mem_of_getElem? (i := 6) rfl)
  have v_7 := hts (.fieldLink RX6 100 "ClockReach$Automaton" "conditionClocks" "[I") (List.mem_of_getElem? (i := 7) rfl)
  have v_8 := hts (.fieldLink RX6 103 "ClockReach$Automaton" "ceilings" "[I") (List.mem_of_getElem? (i := 8) rfl)
  have v_9 := hts (.constant RX6 106 (2147483647)) (List.mem_of_getElem? (i := 9) rfl)
  have v_10 := hts (.fieldLink RX6 110 "ClockReach$Automaton" "floors" "[I") (List.mem_of_getElem? (i := 10) rfl)
  have hown : s.vm.findClass RX6 = some m.cls := findClass_of_methodNamed B.named
  have hlocks := B.notSynchronized
  have hiX0 : ∀ w ∈ wsX00, w ∈ vs_X6_layConditions := fun _ h => List.mem_cons_of_mem _ (List.mem_append_left _ (List.mem_append_right _ h))
  have hiX6 : ∀ w ∈ wsX60, w ∈ vs_X6_layConditions := fun _ h => List.mem_cons_of_mem _ (List.mem_append_right _ h)
  have hD := hD0.self (sz := s.heap.size)
  generalize hAe : va_A ([(au, .inr (0, [.int (nI nc), .int (nI np), .int (nI ne), .int st0, .ref q4, .ref q5, .ref q6, .ref q7, .ref q8, .ref q9, .ref q10, .ref q11, .ref q12, .ref q13, .ref q14, .ref q15, .ref q16])), (q8, .inl (k8, 22, .inl f8)), (q9, .inl (k9, 88, .inl f9)), (q12, .inl (k12, 88, .inl f12)), (q13, .inl (k13, 88, .inl f13)), (ti, .inr (6, [.ref r0, .int (nI ln), .ref r2, .ref r3, .ref r4, .ref r5, .int (nI nr), .ref r7, .ref r8, .ref r9])), (r3, .inl (j3, 1920, .inl h3)), (r4, .inl (j4, 1920, .inl h4)), (r5, .inl (j5, 1920, .inl h5)), (r7, .inl (j7, 3, .inl h7))]) s.heap.size = A at hD ⊢
  have hA : ∀ q : Nat, s.heap.size ≤ q → A q := fun q h => by rw [← hAe]; exact Or.inr h
  have hS : va_S A s.heap s.heap [] := va_S.rf
  have hl := lv_entry ([.ref ti, .ref au, .int (nI h), .int (nI vb)]) (n := 7) (Nat.le_of_ble_eq_true rfl)
  rw [lg_entry_eq]
  generalize (lg_sl ([.ref ti, .ref au, .int (nI h), .int (nI vb)]) ++ List.replicate (7 - (lg_sl ([.ref ti, .ref au, .int (nI h), .int (nI vb)])).length) Slot.unset).toArray = ls at hl ⊢
  have hl : lv_has ls 7 [(0, .ref ti), (1, .ref au), (2, .int (nI h)), (3, .int (nI vb))] := hl
  refine lv_iconst (v := 0) hx hb dX6_layConditions_0 (by decide) ?_
  refine lv_istore (lv' := [(4, .int 0), (0, .ref ti), (1, .ref au), (2, .int (nI h)), (3, .int (nI vb))]) hx hb dX6_layConditions_1 hl (by decide) rfl (fun ls hl => ?_)
  obtain ⟨qc_1, hq_2, eq_3, hcc_4⟩ := hc h (by omega)
  refine pu_loop (qc_1) (fun ii H locs ls => ∃ n0_ : Nat, ∃ f0 : Nat → Int32, ∃ f1 : Nat → Int32, ∃ f2 : Nat → Int32, va_P (dC, dI) vwCl [(au, .inr (0, [.int (nI nc), .int (nI np), .int (nI ne), .int st0, .ref q4, .ref q5, .ref q6, .ref q7, .ref q8, .ref q9, .ref q10, .ref q11, .ref q12, .ref q13, .ref q14, .ref q15, .ref q16])), (q8, .inl (k8, 22, .inl f8)), (q9, .inl (k9, 88, .inl f9)), (q12, .inl (k12, 88, .inl f12)), (q13, .inl (k13, 88, .inl f13)), (ti, .inr (6, [.ref r0, .int (nI ln), .ref r2, .ref r3, .ref r4, .ref r5, .int (nI n0_), .ref r7, .ref r8, .ref r9])), (r3, .inl (j3, 1920, .inl f0)), (r4, .inl (j4, 1920, .inl f1)), (r5, .inl (j5, 1920, .inl f2)), (r7, .inl (j7, 3, .inl h7))] H ∧ va_D A [(au, .inr (0, [.int (nI nc), .int (nI np), .int (nI ne), .int st0, .ref q4, .ref q5, .ref q6, .ref q7, .ref q8, .ref q9, .ref q10, .ref q11, .ref q12, .ref q13, .ref q14, .ref q15, .ref q16])), (q8, .inl (k8, 22, .inl f8)), (q9, .inl (k9, 88, .inl f9)), (q12, .inl (k12, 88, .inl f12)), (q13, .inl (k13, 88, .inl f13)), (ti, .inr (6, [.ref r0, .int (nI ln), .ref r2, .ref r3, .ref r4, .ref r5, .int (nI n0_), .ref r7, .ref r8, .ref r9])), (r3, .inl (j3, 1920, .inl f0)), (r4, .inl (j4, 1920, .inl f1)), (r5, .inl (j5, 1920, .inl f2)), (r7, .inl (j7, 3, .inl h7))] ∧ va_S A s.heap H locs ∧ lv_has ls 7 [(0, .ref ti), (1, .ref au), (2, .int (nI h)), (3, .int (nI vb)), (4, .int (nI ii))] ∧ (n0_ ≤ 1920 ∧ ao_e M n0_ f0 ∧ ao_e M n0_ f1)) (fun _ => 0) (fun _ => 0) 3 [] ?_ ?_ _ _ _ ⟨_, _, _, _, hP, hD, hS, lv_sub hl [1, 2, 3, 4, 0] rfl, ⟨hnr, h3e, h4e⟩⟩
  · rintro H locs ls ⟨nk_5, f_6, f_7, f_8, hP, hD, hS, hl, ⟨hnr, h3e, h4e⟩⟩
    refine lv_iload hx hb dX6_layConditions_3 (lv_at hl 4 rfl) ?_
    refine lv_aload_n hx hb dX6_layConditions_5 rfl (lv_at hl 1 rfl) ?_
    refine va_get (D := (dC, dI)) (ci := 0) (v := .ref q8) (C := RX0) (T := TX0) (N := 17) hx hb hts hiX0 hown hK hP 0 rfl rfl 8 (by decide) v_1 (fun _ h9 => h9) rfl dX6_layConditions_6 ?_
    refine lv_iload_n hx hb dX6_layConditions_9 rfl (lv_at hl 2 rfl) ?_
    refine va_iald hx hb hK hP 1 0 rfl rfl (vp_in_nI (n := h) (by first | omega | exact ix_lt (by omega) (by omega) hn | exact ix_lt0 (by omega) hn | exact ix_ltq (by omega) hn | exact ix_lt1 (by omega) hn) (by omega)) dX6_layConditions_10 ?_
    refine lv_topi (fun y_13 ey_13 => ?_)
    have ey_13 : y_13 = f8 h := ey_13.trans (congrArg f8 (nI_clamp (n := h) (by omega)))
    obtain rfl : y_13 = nI qc_1 := ey_13.trans eq_3
    refine lv_icmp_ge (tgt := 102) hx hb dX6_layConditions_11 (by decide) (fun _ => ?_) (fun z => absurd (nI_le (a := qc_1) (b := qc_1) (by omega) (by omega)) z)
    have hP9 := hP.sub (ws' := [(au, .inr (0, [.int (nI nc), .int (nI np), .int (nI ne), .int st0, .ref q4, .ref q5, .ref q6, .ref q7, .ref q8, .ref q9, .ref q10, .ref q11, .ref q12, .ref q13, .ref q14, .ref q15, .ref q16])), (q8, .inl (k8, 22, .inl f8)), (q9, .inl (k9, 88, .inl f9)), (q12, .inl (k12, 88, .inl f12)), (q13, .inl (k13, 88, .inl f13)), (ti, .inr (6, [.ref r0, .int (nI ln), .ref r2, .ref r3, .ref r4, .ref r5, .int (nI nk_5), .ref r7, .ref r8, .ref r9])), (r3, .inl (j3, 1920, .inl f_6)), (r4, .inl (j4, 1920, .inl f_7)), (r5, .inl (j5, 1920, .inl f_8)), (r7, .inl (j7, 3, .inl h7))]) [0, 1, 2, 3, 4, 5, 6, 7, 8, 9] rfl
    have hD9 := hD.sub (ws' := [(au, .inr (0, [.int (nI nc), .int (nI np), .int (nI ne), .int st0, .ref q4, .ref q5, .ref q6, .ref q7, .ref q8, .ref q9, .ref q10, .ref q11, .ref q12, .ref q13, .ref q14, .ref q15, .ref q16])), (q8, .inl (k8, 22, .inl f8)), (q9, .inl (k9, 88, .inl f9)), (q12, .inl (k12, 88, .inl f12)), (q13, .inl (k13, 88, .inl f13)), (ti, .inr (6, [.ref r0, .int (nI ln), .ref r2, .ref r3, .ref r4, .ref r5, .int (nI nk_5), .ref r7, .ref r8, .ref r9])), (r3, .inl (j3, 1920, .inl f_6)), (r4, .inl (j4, 1920, .inl f_7)), (r5, .inl (j5, 1920, .inl f_8)), (r7, .inl (j7, 3, .inl h7))]) [0, 1, 2, 3, 4, 5, 6, 7, 8, 9] (by decide) rfl
    have hK9 := hK.sub (tys' := [(k8, .int), (k9, .int), (k12, .int), (k13, .int), (j3, .int), (j4, .int), (j5, .int), (j7, .int)]) [0, 1, 2, 3, 4, 5, 6, 7] rfl
    exact W.vret hx hb hr (fun t ht hW => ⟨⟨(), rfl, trivial, ⟨nk_5, f_6, f_7, f_8, ⟨by rw [ht]; exact hP9, va_K.moved hW.alike hK9, hD9⟩, ⟨by assumption, by assumption, by assumption⟩⟩⟩, hS.F ht⟩) hS.2.2 dX6_layConditions_102
  · rintro i_9 h_10 ih_11 H locs ls ⟨nk_5, f_6, f_7, f_8, hP, hD, hS, hl, ⟨hnr, h3e, h4e⟩⟩
    refine lv_iload hx hb dX6_layConditions_3 (lv_at hl 4 rfl) ?_
    refine lv_aload_n hx hb dX6_layConditions_5 rfl (lv_at hl 1 rfl) ?_
    refine va_get (D := (dC, dI)) (ci := 0) (v := .ref q8) (C := RX0) (T := TX0) (N := 17) hx hb hts hiX0 hown hK hP 0 rfl rfl 8 (by decide) v_1 (fun _ h9 => h9) rfl dX6_layConditions_6 ?_
    refine lv_iload_n hx hb dX6_layConditions_9 rfl (lv_at hl 2 rfl) ?_
    refine va_iald hx hb hK hP 1 0 rfl rfl (vp_in_nI (n := h) (by first | omega | exact ix_lt (by omega) (by omega) hn | exact ix_lt0 (by omega) hn | exact ix_ltq (by omega) hn | exact ix_lt1 (by omega) hn) (by omega)) dX6_layConditions_10 ?_
    refine lv_topi (fun y_14 ey_14 => ?_)
    have ey_14 : y_14 = f8 h := ey_14.trans (congrArg f8 (nI_clamp (n := h) (by omega)))
    obtain rfl : y_14 = nI qc_1 := ey_14.trans eq_3
    refine lv_icmp_ge (tgt := 102) hx hb dX6_layConditions_11 (by decide) (fun z => absurd z (nI_ge (a := i_9) (b := qc_1) (by omega) (by omega))) (fun _ => ?_)
    refine lv_iload_n hx hb dX6_layConditions_14 rfl (lv_at hl 2 rfl) ?_
    refine lv_iload hx hb dX6_layConditions_15 (lv_at hl 4 rfl) ?_
    refine va_calli (va_runS (As := [.int (nI h), .int (nI i_9)]) (rest := []) ⟨hx, hb, hml, hown, hts⟩ (c_X0_slot l dC dI _ h i_9) (va_cwS 2 hts g_X6_layConditions_X0_slot rfl rfl rfl (by decide +kernel) ⟨Nat.le_of_ble_eq_true rfl, Nat.le_of_ble_eq_true rfl⟩) ⟨pu_bl, pu_in (hP.sub [] rfl) (hK.sub [] rfl) (hD.sub [] (by decide) rfl)⟩ rfl rfl hl.1 rfl (lv_room (Nat.le_of_ble_eq_true rfl)) dX6_layConditions_17 ⟨Nat.le_of_ble_eq_true rfl, Nat.le_of_ble_eq_true rfl⟩) hS (fun q _ h => pu_fr hS hA q h) (pu_fr hS hA) (fun r_15 u t H1 locs ht hvm hw hB hz1 hk1 hS => ?_)
    have hP := pu_keep hP hk1
    clear hk1 hz1 ht hvm
    generalize H1 = H at hP hS ⊢
    obtain rfl : r_15 = (nI (h * 4 + i_9)) := hw
    refine lv_istore (lv' := [(5, .int (nI (h * 4 + i_9))), (0, .ref ti), (1, .ref au), (2, .int (nI h)), (3, .int (nI vb)), (4, .int (nI i_9))]) hx hb dX6_layConditions_20 hl (by decide) rfl (fun ls hl => ?_)
    refine lv_aload_n hx hb dX6_layConditions_22 rfl (lv_at hl 1 rfl) ?_
    refine va_get (D := (dC, dI)) (ci := 6) (v := .ref r7) (C := RX6) (T := TX6) (N := 10) hx hb hts hiX6 hown hK hP 5 rfl rfl 7 (by decide) v_6 (fun _ h9 => h9) rfl dX6_layConditions_23 ?_
    refine lv_aload_n hx hb dX6_layConditions_26 rfl (lv_at hl 2 rfl) ?_
    refine va_get (D := (dC, dI)) (ci := 0) (v := .ref q9) (C := RX0) (T := TX0) (N := 17) hx hb hts hiX0 hown hK hP 0 rfl rfl 9 (by decide) v_7 (fun _ h9 => h9) rfl dX6_layConditions_27 ?_
    refine lv_iload hx hb dX6_layConditions_30 (lv_at hl 0 rfl) ?_
    refine va_iald hx hb hK hP 2 1 rfl rfl (vp_in_nI (n := (h * 4 + i_9)) (by first | omega | exact ix_lt (by omega) (by omega) hn | exact ix_lt0 (by omega) hn | exact ix_ltq (by omega) hn | exact ix_lt1 (by omega) hn) (by omega)) dX6_layConditions_32 ?_
    refine lv_topi (fun y_16 ey_16 => ?_)
    have ey_16 : y_16 = f9 (h * 4 + i_9) := ey_16.trans (congrArg f9 (nI_clamp (n := (h * 4 + i_9)) (by omega)))
    obtain ⟨cq_17, hq_18, eq_19⟩ := hcc_4 i_9 (by omega)
    obtain rfl : y_16 = nI cq_17 := ey_16.trans eq_19
    refine va_iald hx hb hK hP 9 7 rfl rfl (vp_in_nI (n := cq_17) (by first | omega | exact ix_lt (by omega) (by omega) hn | exact ix_lt0 (by omega) hn | exact ix_ltq (by omega) hn | exact ix_lt1 (by omega) hn) (by omega)) dX6_layConditions_33 ?_
    refine lv_topi (fun y_20 ey_20 => ?_)
    have ey_20 : y_20 = h7 cq_17 := ey_20.trans (congrArg h7 (nI_clamp (n := cq_17) (by omega)))
    obtain ⟨eq_21, hq_22, ee_23⟩ := hsi cq_17 (by omega)
    obtain rfl : y_20 = nI eq_21 := ey_20.trans ee_23
    refine lv_istore (lv' := [(6, .int (nI eq_21)), (5, .int (nI (h * 4 + i_9))), (0, .ref ti), (1, .ref au), (2, .int (nI h)), (3, .int (nI vb)), (4, .int (nI i_9))]) hx hb dX6_layConditions_34 hl (by decide) rfl (fun ls hl => ?_)
    refine lv_aload_n hx hb dX6_layConditions_36 rfl (lv_at hl 3 rfl) ?_
    refine va_get (D := (dC, dI)) (ci := 0) (v := .ref q12) (C := RX0) (T := TX0) (N := 17) hx hb hts hiX0 hown hK hP 0 rfl rfl 12 (by decide) v_8 (fun _ h9 => h9) rfl dX6_layConditions_37 ?_
    refine lv_iload hx hb dX6_layConditions_40 (lv_at hl 1 rfl) ?_
    refine va_iald hx hb hK hP 3 2 rfl rfl (vp_in_nI (n := (h * 4 + i_9)) (by first | omega | exact ix_lt (by omega) (by omega) hn | exact ix_lt0 (by omega) hn | exact ix_ltq (by omega) hn | exact ix_lt1 (by omega) hn) (by omega)) dX6_layConditions_42 ?_
    refine lv_ldc hx hb hown v_9 dX6_layConditions_43 ?_
    refine lv_icmp_eq (tgt := 66) hx hb dX6_layConditions_45 (by decide) (fun c_24 => ?_) (fun c_24 => ?_)
    · refine lv_aload_n hx hb dX6_layConditions_66 rfl (lv_at hl 3 rfl) ?_
      refine va_get (D := (dC, dI)) (ci := 0) (v := .ref q13) (C := RX0) (T := TX0) (N := 17) hx hb hts hiX0 hown hK hP 0 rfl rfl 13 (by decide) v_10 (fun _ h9 => h9) rfl dX6_layConditions_67 ?_
      refine lv_iload hx hb dX6_layConditions_70 (lv_at hl 1 rfl) ?_
      refine va_iald hx hb hK hP 4 3 rfl rfl (vp_in_nI (n := (h * 4 + i_9)) (by first | omega | exact ix_lt (by omega) (by omega) hn | exact ix_lt0 (by omega) hn | exact ix_ltq (by omega) hn | exact ix_lt1 (by omega) hn) (by omega)) dX6_layConditions_72 ?_
      refine lv_ldc hx hb hown v_9 dX6_layConditions_73 ?_
      refine lv_icmp_eq (tgt := 96) hx hb dX6_layConditions_75 (by decide) (fun c_25 => ?_) (fun c_25 => ?_)
      · refine lv_iinc (v := (nI (i_9 + 1))) (lv' := [(4, .int (nI (i_9 + 1))), (6, .int (nI eq_21)), (5, .int (nI (h * 4 + i_9))), (0, .ref ti), (1, .ref au), (2, .int (nI h)), (3, .int (nI vb))]) hx hb dX6_layConditions_96 hl (k := 6) rfl (nI_1 _) (by decide) rfl (fun ls hl => ?_)
        refine lv_goto (tgt := 3) hx hb dX6_layConditions_99 (by decide) ?_
        exact ih_11 _ _ _ ⟨_, _, _, _, hP, hD, hS, lv_sub hl [3, 4, 5, 6, 0] rfl, ⟨by assumption, by assumption, by assumption⟩⟩
      · refine lv_aload_n hx hb dX6_layConditions_78 rfl (lv_at hl 2 rfl) ?_
        refine lv_iload_n hx hb dX6_layConditions_79 rfl (lv_at hl 5 rfl) ?_
        refine lv_iload hx hb dX6_layConditions_80 (lv_at hl 0 rfl) ?_
        refine lv_aload_n hx hb dX6_layConditions_82 rfl (lv_at hl 3 rfl) ?_
        refine va_get (D := (dC, dI)) (ci := 0) (v := .ref q13) (C := RX0) (T := TX0) (N := 17) hx hb hts hiX0 hown hK hP 0 rfl rfl 13 (by decide) v_10 (fun _ h9 => h9) rfl dX6_layConditions_83 ?_
        refine lv_iload hx hb dX6_layConditions_86 (lv_at hl 1 rfl) ?_
        refine va_iald hx hb hK hP 4 3 rfl rfl (vp_in_nI (n := (h * 4 + i_9)) (by first | omega | exact ix_lt (by omega) (by omega) hn | exact ix_lt0 (by omega) hn | exact ix_ltq (by omega) hn | exact ix_lt1 (by omega) hn) (by omega)) dX6_layConditions_88 ?_
        refine va_calli (va_runS (As := [.int (f13 ((nI (h * 4 + i_9))).toNatClampNeg)]) (rest := [.int (nI eq_21), .int (nI vb), .ref ti]) ⟨hx, hb, hml, hown, hts⟩ (c_X7_ticks l dC dI _ (f13 ((nI (h * 4 + i_9))).toNatClampNeg)) (va_cwS 1 hts g_X6_layConditions_X7_ticks rfl rfl rfl (by decide +kernel) ⟨Nat.le_of_ble_eq_true rfl, Nat.le_of_ble_eq_true rfl⟩) ⟨pu_bl, pu_in (hP.sub [] rfl) (hK.sub [] rfl) (hD.sub [] (by decide) rfl)⟩ rfl rfl hl.1 rfl (lv_room (Nat.le_of_ble_eq_true rfl)) dX6_layConditions_89 ⟨Nat.le_of_ble_eq_true rfl, Nat.le_of_ble_eq_true rfl⟩) hS (fun q _ h => pu_fr hS hA q h) (pu_fr hS hA) (fun r_26 u t H1 locs ht hvm hw hB hz1 hk1 hS => ?_)
        have hP := pu_keep hP hk1
        clear hk1 hz1 ht hvm
        generalize H1 = H at hP hS ⊢
        refine lv_ineg hx hb dX6_layConditions_92 ?_
        refine lv_topi (fun y_27 ey_27 => ?_)
        have hFc := va_free (wc := [(ti, .inr (6, [.ref r0, .int (nI ln), .ref r2, .ref r3, .ref r4, .ref r5, .int (nI nk_5), .ref r7, .ref r8, .ref r9])), (r3, .inl (j3, 1920, .inl f_6)), (r4, .inl (j4, 1920, .inl f_7)), (r5, .inl (j5, 1920, .inl f_8))]) hD hS hA [5, 6, 7, 8] rfl
        refine va_callv (va_runV (As := [.int (nI vb), .int (nI eq_21), .int y_27]) (rest := []) ⟨hx, hb, hml, hown, hts⟩ (c_X6_layRule l dC dI _ ti r0 r2 r3 r4 r5 r7 r8 r9 ln nk_5 j3 j4 j5 f_6 f_7 f_8 M (by assumption) (by assumption) (by assumption) vb eq_21 (by omega) (by omega) y_27) (cwV 3 hts g_X6_layConditions_X6_layRule rfl rfl rfl (by decide +kernel) ⟨Nat.le_of_ble_eq_true rfl, Nat.le_of_ble_eq_true rfl⟩) ⟨pu_bl, va_recv hK hP (ci := 6) (q0 := 5) rfl rfl, pu_in (hP.sub [5, 6, 7, 8] rfl) (hK.sub [4, 5, 6] rfl) (hD.sub [5, 6, 7, 8] (by decide) rfl)⟩ rfl rfl hl.1 rfl (lv_room (Nat.le_of_ble_eq_true rfl)) dX6_layConditions_93 ⟨Nat.le_of_ble_eq_true rfl, Nat.le_of_ble_eq_true rfl⟩) hS (fun q _ h => hFc q h) hFc (fun u t H1 locs ht hvm hw hB hz1 hk1 hS => ?_)
        obtain ⟨k1_29, g3_30, g4_31, g5_32, ⟨hP1, hK1, hD1⟩, hkx, hg3, hg4⟩ := hB
        rw [ht] at hP1
        have hK1 := va_K.moved hvm.symm hK1
        obtain ⟨hP, hD⟩ := va_join (wr := [(au, .inr (0, [.int (nI nc), .int (nI np), .int (nI ne), .int st0, .ref q4, .ref q5, .ref q6, .ref q7, .ref q8, .ref q9, .ref q10, .ref q11, .ref q12, .ref q13, .ref q14, .ref q15, .ref q16])), (q8, .inl (k8, 22, .inl f8)), (q9, .inl (k9, 88, .inl f9)), (q12, .inl (k12, 88, .inl f12)), (q13, .inl (k13, 88, .inl f13)), (r7, .inl (j7, 3, .inl h7))]) (w1 := [(ti, .inr (6, [.ref r0, .int (nI ln), .ref r2, .ref r3, .ref r4, .ref r5, .int (nI k1_29), .ref r7, .ref r8, .ref r9])), (r3, .inl (j3, 1920, .inl g3_30)), (r4, .inl (j4, 1920, .inl g4_31)), (r5, .inl (j5, 1920, .inl g5_32))]) hP hD [5, 6, 7, 8] [0, 1, 2, 3, 4, 9] rfl rfl (by decide) (by decide) hk1 hFc hP1 hD1
        have hK := hK.app hK1
        clear hk1 hz1 ht hvm
        generalize H1 = H at hP hS ⊢
        have hP : va_P (dC, dI) vwCl [(au, .inr (0, [.int (nI nc), .int (nI np), .int (nI ne), .int st0, .ref q4, .ref q5, .ref q6, .ref q7, .ref q8, .ref q9, .ref q10, .ref q11, .ref q12, .ref q13, .ref q14, .ref q15, .ref q16])), (q8, .inl (k8, 22, .inl f8)), (q9, .inl (k9, 88, .inl f9)), (q12, .inl (k12, 88, .inl f12)), (q13, .inl (k13, 88, .inl f13)), (r7, .inl (j7, 3, .inl h7)), (ti, .inr (6, [.ref r0, .int (nI ln), .ref r2, .ref r3, .ref r4, .ref r5, .int (nI k1_29), .ref r7, .ref r8, .ref r9])), (r3, .inl (j3, 1920, .inl g3_30)), (r4, .inl (j4, 1920, .inl g4_31)), (r5, .inl (j5, 1920, .inl g5_32))] H := hP
        have hD : va_D A [(au, .inr (0, [.int (nI nc), .int (nI np), .int (nI ne), .int st0, .ref q4, .ref q5, .ref q6, .ref q7, .ref q8, .ref q9, .ref q10, .ref q11, .ref q12, .ref q13, .ref q14, .ref q15, .ref q16])), (q8, .inl (k8, 22, .inl f8)), (q9, .inl (k9, 88, .inl f9)), (q12, .inl (k12, 88, .inl f12)), (q13, .inl (k13, 88, .inl f13)), (r7, .inl (j7, 3, .inl h7)), (ti, .inr (6, [.ref r0, .int (nI ln), .ref r2, .ref r3, .ref r4, .ref r5, .int (nI k1_29), .ref r7, .ref r8, .ref r9])), (r3, .inl (j3, 1920, .inl g3_30)), (r4, .inl (j4, 1920, .inl g4_31)), (r5, .inl (j5, 1920, .inl g5_32))] := hD
        have hK : va_K (dC, dI) vwCl [(k8, .int), (k9, .int), (k12, .int), (k13, .int), (j3, .int), (j4, .int), (j5, .int), (j7, .int), (j3, .int), (j4, .int), (j5, .int)] s := hK
        refine lv_iinc (v := (nI (i_9 + 1))) (lv' := [(4, .int (nI (i_9 + 1))), (6, .int (nI eq_21)), (5, .int (nI (h * 4 + i_9))), (0, .ref ti), (1, .ref au), (2, .int (nI h)), (3, .int (nI vb))]) hx hb dX6_layConditions_96 hl (k := 6) rfl (nI_1 _) (by decide) rfl (fun ls hl => ?_)
        refine lv_goto (tgt := 3) hx hb dX6_layConditions_99 (by decide) ?_
        exact ih_11 _ _ _ ⟨_, _, _, _, hP.sub [0, 1, 2, 3, 4, 6, 7, 8, 9, 5] rfl, hD.sub [0, 1, 2, 3, 4, 6, 7, 8, 9, 5] (by decide) rfl, hS, lv_sub hl [3, 4, 5, 6, 0] rfl, ⟨by assumption, by assumption, by assumption⟩⟩
    · refine lv_aload_n hx hb dX6_layConditions_48 rfl (lv_at hl 2 rfl) ?_
      refine lv_iload hx hb dX6_layConditions_49 (lv_at hl 0 rfl) ?_
      refine lv_iload_n hx hb dX6_layConditions_51 rfl (lv_at hl 5 rfl) ?_
      refine lv_aload_n hx hb dX6_layConditions_52 rfl (lv_at hl 3 rfl) ?_
      refine va_get (D := (dC, dI)) (ci := 0) (v := .ref q12) (C := RX0) (T := TX0) (N := 17) hx hb hts hiX0 hown hK hP 0 rfl rfl 12 (by decide) v_8 (fun _ h9 => h9) rfl dX6_layConditions_53 ?_
      refine lv_iload hx hb dX6_layConditions_56 (lv_at hl 1 rfl) ?_
      refine va_iald hx hb hK hP 3 2 rfl rfl (vp_in_nI (n := (h * 4 + i_9)) (by first | omega | exact ix_lt (by omega) (by omega) hn | exact ix_lt0 (by omega) hn | exact ix_ltq (by omega) hn | exact ix_lt1 (by omega) hn) (by omega)) dX6_layConditions_58 ?_
      refine va_calli (va_runS (As := [.int (f12 ((nI (h * 4 + i_9))).toNatClampNeg)]) (rest := [.int (nI vb), .int (nI eq_21), .ref ti]) ⟨hx, hb, hml, hown, hts⟩ (c_X7_ticks l dC dI _ (f12 ((nI (h * 4 + i_9))).toNatClampNeg)) (va_cwS 1 hts g_X6_layConditions_X7_ticks rfl rfl rfl (by decide +kernel) ⟨Nat.le_of_ble_eq_true rfl, Nat.le_of_ble_eq_true rfl⟩) ⟨pu_bl, pu_in (hP.sub [] rfl) (hK.sub [] rfl) (hD.sub [] (by decide) rfl)⟩ rfl rfl hl.1 rfl (lv_room (Nat.le_of_ble_eq_true rfl)) dX6_layConditions_59 ⟨Nat.le_of_ble_eq_true rfl, Nat.le_of_ble_eq_true rfl⟩) hS (fun q _ h => pu_fr hS hA q h) (pu_fr hS hA) (fun r_33 u t H1 locs ht hvm hw hB hz1 hk1 hS => ?_)
      have hP := pu_keep hP hk1
      clear hk1 hz1 ht hvm
      generalize H1 = H at hP hS ⊢
      refine lv_ineg hx hb dX6_layConditions_62 ?_
      refine lv_topi (fun y_34 ey_34 => ?_)
      have hFc := va_free (wc := [(ti, .inr (6, [.ref r0, .int (nI ln), .ref r2, .ref r3, .ref r4, .ref r5, .int (nI nk_5), .ref r7, .ref r8, .ref r9])), (r3, .inl (j3, 1920, .inl f_6)), (r4, .inl (j4, 1920, .inl f_7)), (r5, .inl (j5, 1920, .inl f_8))]) hD hS hA [5, 6, 7, 8] rfl
      refine va_callv (va_runV (As := [.int (nI eq_21), .int (nI vb), .int y_34]) (rest := []) ⟨hx, hb, hml, hown, hts⟩ (c_X6_layRule l dC dI _ ti r0 r2 r3 r4 r5 r7 r8 r9 ln nk_5 j3 j4 j5 f_6 f_7 f_8 M (by assumption) (by assumption) (by assumption) eq_21 vb (by omega) (by omega) y_34) (cwV 3 hts g_X6_layConditions_X6_layRule rfl rfl rfl (by decide +kernel) ⟨Nat.le_of_ble_eq_true rfl, Nat.le_of_ble_eq_true rfl⟩) ⟨pu_bl, va_recv hK hP (ci := 6) (q0 := 5) rfl rfl, pu_in (hP.sub [5, 6, 7, 8] rfl) (hK.sub [4, 5, 6] rfl) (hD.sub [5, 6, 7, 8] (by decide) rfl)⟩ rfl rfl hl.1 rfl (lv_room (Nat.le_of_ble_eq_true rfl)) dX6_layConditions_63 ⟨Nat.le_of_ble_eq_true rfl, Nat.le_of_ble_eq_true rfl⟩) hS (fun q _ h => hFc q h) hFc (fun u t H1 locs ht hvm hw hB hz1 hk1 hS => ?_)
      obtain ⟨k1_36, g3_37, g4_38, g5_39, ⟨hP1, hK1, hD1⟩, hkx, hg3, hg4⟩ := hB
      rw [ht] at hP1
      have hK1 := va_K.moved hvm.symm hK1
      obtain ⟨hP, hD⟩ := va_join (wr := [(au, .inr (0, [.int (nI nc), .int (nI np), .int (nI ne), .int st0, .ref q4, .ref q5, .ref q6, .ref q7, .ref q8, .ref q9, .ref q10, .ref q11, .ref q12, .ref q13, .ref q14, .ref q15, .ref q16])), (q8, .inl (k8, 22, .inl f8)), (q9, .inl (k9, 88, .inl f9)), (q12, .inl (k12, 88, .inl f12)), (q13, .inl (k13, 88, .inl f13)), (r7, .inl (j7, 3, .inl h7))]) (w1 := [(ti, .inr (6, [.ref r0, .int (nI ln), .ref r2, .ref r3, .ref r4, .ref r5, .int (nI k1_36), .ref r7, .ref r8, .ref r9])), (r3, .inl (j3, 1920, .inl g3_37)), (r4, .inl (j4, 1920, .inl g4_38)), (r5, .inl (j5, 1920, .inl g5_39))]) hP hD [5, 6, 7, 8] [0, 1, 2, 3, 4, 9] rfl rfl (by decide) (by decide) hk1 hFc hP1 hD1
      have hK := hK.app hK1
      clear hk1 hz1 ht hvm
      generalize H1 = H at hP hS ⊢
      have hP : va_P (dC, dI) vwCl [(au, .inr (0, [.int (nI nc), .int (nI np), .int (nI ne), .int st0, .ref q4, .ref q5, .ref q6, .ref q7, .ref q8, .ref q9, .ref q10, .ref q11, .ref q12, .ref q13, .ref q14, .ref q15, .ref q16])), (q8, .inl (k8, 22, .inl f8)), (q9, .inl (k9, 88, .inl f9)), (q12, .inl (k12, 88, .inl f12)), (q13, .inl (k13, 88, .inl f13)), (r7, .inl (j7, 3, .inl h7)), (ti, .inr (6, [.ref r0, .int (nI ln), .ref r2, .ref r3, .ref r4, .ref r5, .int (nI k1_36), .ref r7, .ref r8, .ref r9])), (r3, .inl (j3, 1920, .inl g3_37)), (r4, .inl (j4, 1920, .inl g4_38)), (r5, .inl (j5, 1920, .inl g5_39))] H := hP
      have hD : va_D A [(au, .inr (0, [.int (nI nc), .int (nI np), .int (nI ne), .int st0, .ref q4, .ref q5, .ref q6, .ref q7, .ref q8, .ref q9, .ref q10, .ref q11, .ref q12, .ref q13, .ref q14, .ref q15, .ref q16])), (q8, .inl (k8, 22, .inl f8)), (q9, .inl (k9, 88, .inl f9)), (q12, .inl (k12, 88, .inl f12)), (q13, .inl (k13, 88, .inl f13)), (r7, .inl (j7, 3, .inl h7)), (ti, .inr (6, [.ref r0, .int (nI ln), .ref r2, .ref r3, .ref r4, .ref r5, .int (nI k1_36), .ref r7, .ref r8, .ref r9])), (r3, .inl (j3, 1920, .inl g3_37)), (r4, .inl (j4, 1920, .inl g4_38)), (r5, .inl (j5, 1920, .inl g5_39))] := hD
      have hK : va_K (dC, dI) vwCl [(k8, .int), (k9, .int), (k12, .int), (k13, .int), (j3, .int), (j4, .int), (j5, .int), (j7, .int), (j3, .int), (j4, .int), (j5, .int)] s := hK
      refine lv_aload_n hx hb dX6_layConditions_66 rfl (lv_at hl 3 rfl) ?_
      refine va_get (D := (dC, dI)) (ci := 0) (v := .ref q13) (C := RX0) (T := TX0) (N := 17) hx hb hts hiX0 hown hK hP 0 rfl rfl 13 (by decide) v_10 (fun _ h9 => h9) rfl dX6_layConditions_67 ?_
      refine lv_iload hx hb dX6_layConditions_70 (lv_at hl 1 rfl) ?_
      refine va_iald hx hb hK hP 4 3 rfl rfl (vp_in_nI (n := (h * 4 + i_9)) (by first | omega | exact ix_lt (by omega) (by omega) hn | exact ix_lt0 (by omega) hn | exact ix_ltq (by omega) hn | exact ix_lt1 (by omega) hn) (by omega)) dX6_layConditions_72 ?_
      refine lv_ldc hx hb hown v_9 dX6_layConditions_73 ?_
      refine lv_icmp_eq (tgt := 96) hx hb dX6_layConditions_75 (by decide) (fun c_40 => ?_) (fun c_40 => ?_)
      · refine lv_iinc (v := (nI (i_9 + 1))) (lv' := [(4, .int (nI (i_9 + 1))), (6, .int (nI eq_21)), (5, .int (nI (h * 4 + i_9))), (0, .ref ti), (1, .ref au), (2, .int (nI h)), (3, .int (nI vb))]) hx hb dX6_layConditions_96 hl (k := 6) rfl (nI_1 _) (by decide) rfl (fun ls hl => ?_)
        refine lv_goto (tgt := 3) hx hb dX6_layConditions_99 (by decide) ?_
        exact ih_11 _ _ _ ⟨_, _, _, _, hP.sub [0, 1, 2, 3, 4, 6, 7, 8, 9, 5] rfl, hD.sub [0, 1, 2, 3, 4, 6, 7, 8, 9, 5] (by decide) rfl, hS, lv_sub hl [3, 4, 5, 6, 0] rfl, ⟨by assumption, by assumption, by assumption⟩⟩
      · refine lv_aload_n hx hb dX6_layConditions_78 rfl (lv_at hl 2 rfl) ?_
        refine lv_iload_n hx hb dX6_layConditions_79 rfl (lv_at hl 5 rfl) ?_
        refine lv_iload hx hb dX6_layConditions_80 (lv_at hl 0 rfl) ?_
        refine lv_aload_n hx hb dX6_layConditions_82 rfl (lv_at hl 3 rfl) ?_
        refine va_get (D := (dC, dI)) (ci := 0) (v := .ref q13) (C := RX0) (T := TX0) (N := 17) hx hb hts hiX0 hown hK hP 0 rfl rfl 13 (by decide) v_10 (fun _ h9 => h9) rfl dX6_layConditions_83 ?_
        refine lv_iload hx hb dX6_layConditions_86 (lv_at hl 1 rfl) ?_
        refine va_iald hx hb hK hP 4 3 rfl rfl (vp_in_nI (n := (h * 4 + i_9)) (by first | omega | exact ix_lt (by omega) (by omega) hn | exact ix_lt0 (by omega) hn | exact ix_ltq (by omega) hn | exact ix_lt1 (by omega) hn) (by omega)) dX6_layConditions_88 ?_
        refine va_calli (va_runS (As := [.int (f13 ((nI (h * 4 + i_9))).toNatClampNeg)]) (rest := [.int (nI eq_21), .int (nI vb), .ref ti]) ⟨hx, hb, hml, hown, hts⟩ (c_X7_ticks l dC dI _ (f13 ((nI (h * 4 + i_9))).toNatClampNeg)) (va_cwS 1 hts g_X6_layConditions_X7_ticks rfl rfl rfl (by decide +kernel) ⟨Nat.le_of_ble_eq_true rfl, Nat.le_of_ble_eq_true rfl⟩) ⟨pu_bl, pu_in (hP.sub [] rfl) (hK.sub [] rfl) (hD.sub [] (by decide) rfl)⟩ rfl rfl hl.1 rfl (lv_room (Nat.le_of_ble_eq_true rfl)) dX6_layConditions_89 ⟨Nat.le_of_ble_eq_true rfl, Nat.le_of_ble_eq_true rfl⟩) hS (fun q _ h => pu_fr hS hA q h) (pu_fr hS hA) (fun r_41 u t H1 locs ht hvm hw hB hz1 hk1 hS => ?_)
        have hP := pu_keep hP hk1
        clear hk1 hz1 ht hvm
        generalize H1 = H at hP hS ⊢
        refine lv_ineg hx hb dX6_layConditions_92 ?_
        refine lv_topi (fun y_42 ey_42 => ?_)
        have hFc := va_free (wc := [(ti, .inr (6, [.ref r0, .int (nI ln), .ref r2, .ref r3, .ref r4, .ref r5, .int (nI k1_36), .ref r7, .ref r8, .ref r9])), (r3, .inl (j3, 1920, .inl g3_37)), (r4, .inl (j4, 1920, .inl g4_38)), (r5, .inl (j5, 1920, .inl g5_39))]) hD hS hA [6, 7, 8, 9] rfl
        refine va_callv (va_runV (As := [.int (nI vb), .int (nI eq_21), .int y_42]) (rest := []) ⟨hx, hb, hml, hown, hts⟩ (c_X6_layRule l dC dI _ ti r0 r2 r3 r4 r5 r7 r8 r9 ln k1_36 j3 j4 j5 g3_37 g4_38 g5_39 M (by assumption) (by assumption) (by assumption) vb eq_21 (by omega) (by omega) y_42) (cwV 3 hts g_X6_layConditions_X6_layRule rfl rfl rfl (by decide +kernel) ⟨Nat.le_of_ble_eq_true rfl, Nat.le_of_ble_eq_true rfl⟩) ⟨pu_bl, va_recv hK hP (ci := 6) (q0 := 6) rfl rfl, pu_in (hP.sub [6, 7, 8, 9] rfl) (hK.sub [4, 5, 6] rfl) (hD.sub [6, 7, 8, 9] (by decide) rfl)⟩ rfl rfl hl.1 rfl (lv_room (Nat.le_of_ble_eq_true rfl)) dX6_layConditions_93 ⟨Nat.le_of_ble_eq_true rfl, Nat.le_of_ble_eq_true rfl⟩) hS (fun q _ h => hFc q h) hFc (fun u t H1 locs ht hvm hw hB hz1 hk1 hS => ?_)
        obtain ⟨k1_44, g3_45, g4_46, g5_47, ⟨hP1, hK1, hD1⟩, hkx, hg3, hg4⟩ := hB
        rw [ht] at hP1
        have hK1 := va_K.moved hvm.symm hK1
        obtain ⟨hP, hD⟩ := va_join (wr := [(au, .inr (0, [.int (nI nc), .int (nI np), .int (nI ne), .int st0, .ref q4, .ref q5, .ref q6, .ref q7, .ref q8, .ref q9, .ref q10, .ref q11, .ref q12, .ref q13, .ref q14, .ref q15, .ref q16])), (q8, .inl (k8, 22, .inl f8)), (q9, .inl (k9, 88, .inl f9)), (q12, .inl (k12, 88, .inl f12)), (q13, .inl (k13, 88, .inl f13)), (r7, .inl (j7, 3, .inl h7))]) (w1 := [(ti, .inr (6, [.ref r0, .int (nI ln), .ref r2, .ref r3, .ref r4, .ref r5, .int (nI k1_44), .ref r7, .ref r8, .ref r9])), (r3, .inl (j3, 1920, .inl g3_45)), (r4, .inl (j4, 1920, .inl g4_46)), (r5, .inl (j5, 1920, .inl g5_47))]) hP hD [6, 7, 8, 9] [0, 1, 2, 3, 4, 5] rfl rfl (by decide) (by decide) hk1 hFc hP1 hD1
        have hK := hK.app hK1
        clear hk1 hz1 ht hvm
        generalize H1 = H at hP hS ⊢
        have hP : va_P (dC, dI) vwCl [(au, .inr (0, [.int (nI nc), .int (nI np), .int (nI ne), .int st0, .ref q4, .ref q5, .ref q6, .ref q7, .ref q8, .ref q9, .ref q10, .ref q11, .ref q12, .ref q13, .ref q14, .ref q15, .ref q16])), (q8, .inl (k8, 22, .inl f8)), (q9, .inl (k9, 88, .inl f9)), (q12, .inl (k12, 88, .inl f12)), (q13, .inl (k13, 88, .inl f13)), (r7, .inl (j7, 3, .inl h7)), (ti, .inr (6, [.ref r0, .int (nI ln), .ref r2, .ref r3, .ref r4, .ref r5, .int (nI k1_44), .ref r7, .ref r8, .ref r9])), (r3, .inl (j3, 1920, .inl g3_45)), (r4, .inl (j4, 1920, .inl g4_46)), (r5, .inl (j5, 1920, .inl g5_47))] H := hP
        have hD : va_D A [(au, .inr (0, [.int (nI nc), .int (nI np), .int (nI ne), .int st0, .ref q4, .ref q5, .ref q6, .ref q7, .ref q8, .ref q9, .ref q10, .ref q11, .ref q12, .ref q13, .ref q14, .ref q15, .ref q16])), (q8, .inl (k8, 22, .inl f8)), (q9, .inl (k9, 88, .inl f9)), (q12, .inl (k12, 88, .inl f12)), (q13, .inl (k13, 88, .inl f13)), (r7, .inl (j7, 3, .inl h7)), (ti, .inr (6, [.ref r0, .int (nI ln), .ref r2, .ref r3, .ref r4, .ref r5, .int (nI k1_44), .ref r7, .ref r8, .ref r9])), (r3, .inl (j3, 1920, .inl g3_45)), (r4, .inl (j4, 1920, .inl g4_46)), (r5, .inl (j5, 1920, .inl g5_47))] := hD
        have hK : va_K (dC, dI) vwCl [(k8, .int), (k9, .int), (k12, .int), (k13, .int), (j3, .int), (j4, .int), (j5, .int), (j7, .int), (j3, .int), (j4, .int), (j5, .int), (j3, .int), (j4, .int), (j5, .int)] s := hK
        refine lv_iinc (v := (nI (i_9 + 1))) (lv' := [(4, .int (nI (i_9 + 1))), (6, .int (nI eq_21)), (5, .int (nI (h * 4 + i_9))), (0, .ref ti), (1, .ref au), (2, .int (nI h)), (3, .int (nI vb))]) hx hb dX6_layConditions_96 hl (k := 6) rfl (nI_1 _) (by decide) rfl (fun ls hl => ?_)
        refine lv_goto (tgt := 3) hx hb dX6_layConditions_99 (by decide) ?_
        exact ih_11 _ _ _ ⟨_, _, _, _, hP.sub [0, 1, 2, 3, 4, 6, 7, 8, 9, 5] rfl, hD.sub [0, 1, 2, 3, 4, 6, 7, 8, 9, 5] (by decide) rfl, hS, lv_sub hl [3, 4, 5, 6, 0] rfl, ⟨by assumption, by assumption, by assumption⟩⟩
