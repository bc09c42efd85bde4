theorem dX0_measure_0 : decode cX0_measure 0 = .ok (.iconst 0, 1) := by decide +kernel
theorem dX0_measure_1 : decode cX0_measure 1 = .ok (.istore_n 1, 1) := by decide +kernel
theorem dX0_measure_2 : decode cX0_measure 2 = .ok (.iload_n 1, 1) := by decide +kernel
theorem dX0_measure_3 : decode cX0_measure 3 = .ok (.iconst 3, 1) := by decide +kernel
theorem dX0_measure_4 : decode cX0_measure 4 = .ok (.if_icmp .gt 30, 3) := by decide +kernel
theorem dX0_measure_7 : decode cX0_measure 7 = .ok (.aload_n 0, 1) := by decide +kernel
theorem dX0_measure_8 : decode cX0_measure 8 = .ok (.getfield 47, 3) := by decide +kernel
theorem dX0_measure_11 : decode cX0_measure 11 = .ok (.iload_n 1, 1) := by decide +kernel
theorem dX0_measure_12 : decode cX0_measure 12 = .ok (.iconst 0, 1) := by decide +kernel
theorem dX0_measure_13 : decode cX0_measure 13 = .ok (.iastore, 1) := by decide +kernel
theorem dX0_measure_14 : decode cX0_measure 14 = .ok (.aload_n 0, 1) := by decide +kernel
theorem dX0_measure_15 : decode cX0_measure 15 = .ok (.getfield 50, 3) := by decide +kernel
theorem dX0_measure_18 : decode cX0_measure 18 = .ok (.iload_n 1, 1) := by decide +kernel
theorem dX0_measure_19 : decode cX0_measure 19 = .ok (.iconst 0, 1) := by decide +kernel
theorem dX0_measure_20 : decode cX0_measure 20 = .ok (.iastore, 1) := by decide +kernel
theorem dX0_measure_21 : decode cX0_measure 21 = .ok (.aload_n 0, 1) := by decide +kernel
theorem dX0_measure_22 : decode cX0_measure 22 = .ok (.getfield 53, 3) := by decide +kernel
theorem dX0_measure_25 : decode cX0_measure 25 = .ok (.iload_n 1, 1) := by decide +kernel
theorem dX0_measure_26 : decode cX0_measure 26 = .ok (.iconst 0, 1) := by decide +kernel
theorem dX0_measure_27 : decode cX0_measure 27 = .ok (.iastore, 1) := by decide +kernel
theorem dX0_measure_28 : decode cX0_measure 28 = .ok (.iinc 1 1, 3) := by decide +kernel
theorem dX0_measure_31 : decode cX0_measure 31 = .ok (.goto (-29), 3) := by decide +kernel
theorem dX0_measure_34 : decode cX0_measure 34 = .ok (.iconst 0, 1) := by decide +kernel
theorem dX0_measure_35 : decode cX0_measure 35 = .ok (.istore_n 1, 1) := by decide +kernel
theorem dX0_measure_36 : decode cX0_measure 36 = .ok (.iload_n 1, 1) := by decide +kernel
theorem dX0_measure_37 : decode cX0_measure 37 = .ok (.bipush 22, 2) := by decide +kernel
theorem dX0_measure_39 : decode cX0_measure 39 = .ok (.if_icmp .ge 132, 3) := by decide +kernel
theorem dX0_measure_42 : decode cX0_measure 42 = .ok (.iconst 0, 1) := by decide +kernel
theorem dX0_measure_43 : decode cX0_measure 43 = .ok (.istore_n 2, 1) := by decide +kernel
theorem dX0_measure_44 : decode cX0_measure 44 = .ok (.iload_n 2, 1) := by decide +kernel
theorem dX0_measure_45 : decode cX0_measure 45 = .ok (.aload_n 0, 1) := by decide +kernel
theorem dX0_measure_46 : decode cX0_measure 46 = .ok (.getfield 29, 3) := by decide +kernel
theorem dX0_measure_49 : decode cX0_measure 49 = .ok (.iload_n 1, 1) := by decide +kernel
theorem dX0_measure_50 : decode cX0_measure 50 = .ok (.iaload, 1) := by decide +kernel
theorem dX0_measure_51 : decode cX0_measure 51 = .ok (.if_icmp .ge 114, 3) := by decide +kernel
theorem dX0_measure_54 : decode cX0_measure 54 = .ok (.iload_n 1, 1) := by decide +kernel
theorem dX0_measure_55 : decode cX0_measure 55 = .ok (.iload_n 2, 1) := by decide +kernel
theorem dX0_measure_56 : decode cX0_measure 56 = .ok (.invokestatic 65, 3) := by decide +kernel
theorem dX0_measure_59 : decode cX0_measure 59 = .ok (.istore_n 3, 1) := by decide +kernel
theorem dX0_measure_60 : decode cX0_measure 60 = .ok (.aload_n 0, 1) := by decide +kernel
theorem dX0_measure_61 : decode cX0_measure 61 = .ok (.getfield 32, 3) := by decide +kernel
theorem dX0_measure_64 : decode cX0_measure 64 = .ok (.iload_n 3, 1) := by decide +kernel
theorem dX0_measure_65 : decode cX0_measure 65 = .ok (.iaload, 1) := by decide +kernel
theorem dX0_measure_66 : decode cX0_measure 66 = .ok (.iconst 1, 1) := by decide +kernel
theorem dX0_measure_67 : decode cX0_measure 67 = .ok (.iadd, 1) := by decide +kernel
theorem dX0_measure_68 : decode cX0_measure 68 = .ok (.istore 4, 2) := by decide +kernel
theorem dX0_measure_70 : decode cX0_measure 70 = .ok (.aload_n 0, 1) := by decide +kernel
theorem dX0_measure_71 : decode cX0_measure 71 = .ok (.getfield 47, 3) := by decide +kernel
theorem dX0_measure_74 : decode cX0_measure 74 = .ok (.iload 4, 2) := by decide +kernel
theorem dX0_measure_76 : decode cX0_measure 76 = .ok (.aload_n 0, 1) := by decide +kernel
theorem dX0_measure_77 : decode cX0_measure 77 = .ok (.getfield 47, 3) := by decide +kernel
theorem dX0_measure_80 : decode cX0_measure 80 = .ok (.iload 4, 2) := by decide +kernel
theorem dX0_measure_82 : decode cX0_measure 82 = .ok (.iaload, 1) := by decide +kernel
theorem dX0_measure_83 : decode cX0_measure 83 = .ok (.aload_n 0, 1) := by decide +kernel
theorem dX0_measure_84 : decode cX0_measure 84 = .ok (.getfield 38, 3) := by decide +kernel
theorem dX0_measure_87 : decode cX0_measure 87 = .ok (.iload_n 3, 1) := by decide +kernel
theorem dX0_measure_88 : decode cX0_measure 88 = .ok (.iaload, 1) := by decide +kernel
theorem dX0_measure_89 : decode cX0_measure 89 = .ok (.invokestatic 79, 3) := by decide +kernel
theorem dX0_measure_92 : decode cX0_measure 92 = .ok (.iastore, 1) := by decide +kernel
theorem dX0_measure_93 : decode cX0_measure 93 = .ok (.aload_n 0, 1) := by decide +kernel
theorem dX0_measure_94 : decode cX0_measure 94 = .ok (.getfield 35, 3) := by decide +kernel
theorem dX0_measure_97 : decode cX0_measure 97 = .ok (.iload_n 3, 1) := by decide +kernel
theorem dX0_measure_98 : decode cX0_measure 98 = .ok (.iaload, 1) := by decide +kernel
theorem dX0_measure_99 : decode cX0_measure 99 = .ok (.iconst 2, 1) := by decide +kernel
theorem dX0_measure_100 : decode cX0_measure 100 = .ok (.if_icmp .lt 26, 3) := by decide +kernel
theorem dX0_measure_103 : decode cX0_measure 103 = .ok (.aload_n 0, 1) := by decide +kernel
theorem dX0_measure_104 : decode cX0_measure 104 = .ok (.getfield 50, 3) := by decide +kernel
theorem dX0_measure_107 : decode cX0_measure 107 = .ok (.iload 4, 2) := by decide +kernel
theorem dX0_measure_109 : decode cX0_measure 109 = .ok (.aload_n 0, 1) := by decide +kernel
theorem dX0_measure_110 : decode cX0_measure 110 = .ok (.getfield 50, 3) := by decide +kernel
theorem dX0_measure_113 : decode cX0_measure 113 = .ok (.iload 4, 2) := by decide +kernel
theorem dX0_measure_115 : decode cX0_measure 115 = .ok (.iaload, 1) := by decide +kernel
theorem dX0_measure_116 : decode cX0_measure 116 = .ok (.aload_n 0, 1) := by decide +kernel
theorem dX0_measure_117 : decode cX0_measure 117 = .ok (.getfield 38, 3) := by decide +kernel
theorem dX0_measure_120 : decode cX0_measure 120 = .ok (.iload_n 3, 1) := by decide +kernel
theorem dX0_measure_121 : decode cX0_measure 121 = .ok (.iaload, 1) := by decide +kernel
theorem dX0_measure_122 : decode cX0_measure 122 = .ok (.invokestatic 79, 3) := by decide +kernel
theorem dX0_measure_125 : decode cX0_measure 125 = .ok (.iastore, 1) := by decide +kernel
theorem dX0_measure_126 : decode cX0_measure 126 = .ok (.aload_n 0, 1) := by decide +kernel
theorem dX0_measure_127 : decode cX0_measure 127 = .ok (.getfield 35, 3) := by decide +kernel
theorem dX0_measure_130 : decode cX0_measure 130 = .ok (.iload_n 3, 1) := by decide +kernel
theorem dX0_measure_131 : decode cX0_measure 131 = .ok (.iaload, 1) := by decide +kernel
theorem dX0_measure_132 : decode cX0_measure 132 = .ok (.iconst 2, 1) := by decide +kernel
theorem dX0_measure_133 : decode cX0_measure 133 = .ok (.if_icmp .gt 26, 3) := by decide +kernel
theorem dX0_measure_136 : decode cX0_measure 136 = .ok (.aload_n 0, 1) := by decide +kernel
theorem dX0_measure_137 : decode cX0_measure 137 = .ok (.getfield 53, 3) := by decide +kernel
theorem dX0_measure_140 : decode cX0_measure 140 = .ok (.iload 4, 2) := by decide +kernel
theorem dX0_measure_142 : decode cX0_measure 142 = .ok (.aload_n 0, 1) := by decide +kernel
theorem dX0_measure_143 : decode cX0_measure 143 = .ok (.getfield 53, 3) := by decide +kernel
theorem dX0_measure_146 : decode cX0_measure 146 = .ok (.iload 4, 2) := by decide +kernel
theorem dX0_measure_148 : decode cX0_measure 148 = .ok (.iaload, 1) := by decide +kernel
theorem dX0_measure_149 : decode cX0_measure 149 = .ok (.aload_n 0, 1) := by decide +kernel
theorem dX0_measure_150 : decode cX0_measure 150 = .ok (.getfield 38, 3) := by decide +kernel
theorem dX0_measure_153 : decode cX0_measure 153 = .ok (.iload_n 3, 1) := by decide +kernel
theorem dX0_measure_154 : decode cX0_measure 154 = .ok (.iaload, 1) := by decide +kernel
theorem dX0_measure_155 : decode cX0_measure 155 = .ok (.invokestatic 79, 3) := by decide +kernel
theorem dX0_measure_158 : decode cX0_measure 158 = .ok (.iastore, 1) := by decide +kernel
theorem dX0_measure_159 : decode cX0_measure 159 = .ok (.iinc 2 1, 3) := by decide +kernel
theorem dX0_measure_162 : decode cX0_measure 162 = .ok (.goto (-118), 3) := by decide +kernel
theorem dX0_measure_165 : decode cX0_measure 165 = .ok (.iinc 1 1, 3) := by decide +kernel
theorem dX0_measure_168 : decode cX0_measure 168 = .ok (.goto (-132), 3) := by decide +kernel
theorem dX0_measure_171 : decode cX0_measure 171 = .ok (.return_, 1) := by decide +kernel
def vs_X0_measure : List Cond := .code yX0_measure cX0_measure 5 none :: ([.fieldLink RX0 29 "ClockReach$Automaton" "counts" "[I", .methodLink RX0 65 yX0_slot, .static yX0_slot, .initialized RX0, .code yX0_slot cX0_slot 2 (some .int), .fieldLink RX0 32 "ClockReach$Automaton" "conditionClocks" "[I", .fieldLink RX0 47 "ClockReach$Automaton" "greatest" "[I", .fieldLink RX0 38 "ClockReach$Automaton" "numbers" "[I", .methodLink RX0 79 Lib.Math.max.name, .static Lib.Math.max.name, .initialized "java/lang/Math", .code Lib.Math.max.name Lib.Math.max.code 2 (some .int), .fieldLink RX0 35 "ClockReach$Automaton" "hows" "[I", .fieldLink RX0 53 "ClockReach$Automaton" "upper" "[I", .fieldLink RX0 50 "ClockReach$Automaton" "lower" "[I"] ++ wsX00)
theorem g_X0_measure_X0_slot : GoodIn vs_X0_measure (va_wsS RX0 65 yX0_slot vs_X0_slot) := goodIn_r _ [2, 3, 4, 5] (by decide +kernel) (by decide +kernel)
set_option maxHeartbeats 4000000 in
set_option maxRecDepth 100000 in
theorem c_X0_measure (l : Launch) (dC : Nat → ClassId) (dI : Nat → Nat → Nat) (sz : Nat) (au q4 q5 q6 q7 q8 q9 q10 q11 q12 q13 q14 q15 q16 : Nat) (nc np ne : Nat) (st0 : Int32) (k8 k9 k10 k11 k14 k15 k16 : ClassId) (f8 f9 f10 f11 f14 f15 f16 : Nat → Int32) (hc : ao_c nc f8 f9) (hnc : nc ≤ 3) : Met l yX0_measure vs_X0_measure ({ frames := 1, cells := 0, slots := 0, locals := 21 }) (va_Pc [.ref au] (pu_B (dC, dI) [(au, .inr (0, [.int (nI nc), .int (nI np), .int (nI ne), .int st0, .ref q4, .ref q5, .ref q6, .ref q7, .ref q8, .ref q9, .ref q10, .ref q11, .ref q12, .ref q13, .ref q14, .ref q15, .ref q16])), (q8, .inl (k8, 22, .inl f8)), (q9, .inl (k9, 88, .inl f9)), (q10, .inl (k10, 88, .inl f10)), (q11, .inl (k11, 88, .inl f11)), (q14, .inl (k14, 4, .inl f14)), (q15, .inl (k15, 4, .inl f15)), (q16, .inl (k16, 4, .inl f16))] [(k8, .int), (k9, .int), (k10, .int), (k11, .int), (k14, .int), (k15, .int), (k16, .int)] sz)) (va_Qv (fun (_ : Unit) => True) (fun _ t => ∃ (g1 g2 g3 : Nat → Int32), pu_E (dC, dI) [(au, .inr (0, [.int (nI nc), .int (nI np), .int (nI ne), .int st0, .ref q4, .ref q5, .ref q6, .ref q7, .ref q8, .ref q9, .ref q10, .ref q11, .ref q12, .ref q13, .ref q14, .ref q15, .ref q16])), (q8, .inl (k8, 22, .inl f8)), (q9, .inl (k9, 88, .inl f9)), (q10, .inl (k10, 88, .inl f10)), (q11, .inl (k11, 88, .inl f11)), (q14, .inl (k14, 4, .inl g1)), (q15, .inl (k15, 4, .inl g2)), (q16, .inl (k16, 4, .inl g3))] [(k8, .int), (k9, .int), (k10, .int), (k11, .int), (k14, .int), (k15, .int), (k16, .int)] (va_A ([(au, .inr (0, [.int (nI nc), .int (nI np), .int (nI ne), .int st0, .ref q4, .ref q5, .ref q6, .ref q7, .ref q8, .ref q9, .ref q10, .ref q11, .ref q12, .ref q13, .ref q14, .ref q15, .ref q16])), (q8, .inl (k8, 22, .inl f8)), (q9, .inl (k9, 88, .inl f9)), (q10, .inl (k10, 88, .inl f10)), (q11, .inl (k11, 88, .inl f11)), (q14, .inl (k14, 4, .inl f14)), (q15, .inl (k15, 4, .inl f15)), (q16, .inl (k16, 4, .inl f16))]) sz) t) (va_A ([(au, .inr (0, [.int (nI nc), .int (nI np), .int (nI ne), .int st0, .ref q4, .ref q5, .ref q6, .ref q7, .ref q8, .ref q9, .ref q10, .ref q11, .ref q12, .ref q13, .ref q14, .ref q15, .ref q16])), (q8, .inl (k8, 22, .inl f8)), (q9, .inl (k9, 88, .inl f9)), (q10, .inl (k10, 88, .inl f10)), (q11, .inl (k11, 88, .inl f11)), (q14, .inl (k14, 4, .inl f14)), (q15, .inl (k15, 4, .inl f15)), (q16, .inl (k16, 4, .inl f16))]) sz)) 0 0 (va_A ([(au, .inr (0, [.int (nI nc), .int (nI np), .int (nI ne), .int st0, .ref q4, .ref q5, .ref q6, .ref q7, .ref q8, .ref q9, .ref q10, .ref q11, .ref q12, .ref q13, .ref q14, .ref q15, .ref q16])), (q8, .inl (k8, 22, .inl f8)), (q9, .inl (k9, 88, .inl f9)), (q10, .inl (k10, 88, .inl f10)), (q11, .inl (k11, 88, .inl f11)), (q14, .inl (k14, 4, .inl f14)), (q15, .inl (k15, 4, .inl f15)), (q16, .inl (k16, 4, .inl f16))]) sz) := by
  refine Met.ofW (cc := cX0_measure) (maxL := 5) (ret := none) (by decide) rfl ?_
  intro p e s m args below meth c s₁ B hml hv
  obtain ⟨rfl, rfl, hP, hK, hD0⟩ := hv
  have hx := B.exec
  have hb := B.bytes
  have hr := B.returns
  have hts := atoms_spec (ws := vs_X0_measure) B.pre
  have v_1 := hts (.fieldLink RX0 29 "ClockReach$Automaton" "counts" "[I") (List.mem_of_getElem? (i := 1) rfl)
  have v_6 := hts (.fieldLink RX0 32 "ClockReach$Automaton" "conditionClocks" "[I") (List.mem_of_getElem? (i := 6) rfl)
  have v_7 := hts (.fieldLink RX0 47 "ClockReach$Automaton" "greatest" "[I") (List.mem_of_getElem? (i := 7) rfl)
  have v_8 := hts (.fieldLink RX0 38 "ClockReach$Automaton" "numbers" "[I") (List.mem_of_getElem? (i := 8) rfl)
  have v_9 := hts (.methodLink RX0 79 Lib.Math.max.name) (List.mem_of_getElem? (i := 9) rfl)
  have v_10 := hts (.static Lib.Math.max.name) (List.mem_of_getElem? (i := 10) rfl)
  have v_11 := hts (.initialized "java/lang/Math") (List.mem_of_getElem? (i := 11) rfl)
  have v_12 := hts (.code Lib.Math.max.name Lib.Math.max.code 2 (some .int)) (List.mem_of_getElem? (i := 12) rfl)
  have v_13 := hts (.fieldLink RX0 35 "ClockReach$Automaton" "hows" "[I") (List.mem_of_getElem? (i := 13) rfl)
  have v_14 := hts (.fieldLink RX0 53 "ClockReach$Automaton" "upper" "[I") (List.mem_of_getElem? (i := 14) rfl)
  have v_15 := hts (.fieldLink RX0 50 "ClockReach$Automaton" "lower" "[I") (List.mem_of_getElem? (i := 15) rfl)
  have hown : s.vm.findClass RX0 = some m.cls := findClass_of_methodNamed B.named
  have hlocks := B.notSynchronized
  have hiX0 : ∀ w ∈ wsX00, w ∈ vs_X0_measure := fun _ h => List.mem_cons_of_mem _ (List.mem_append_right _ h)
  have hD := hD0.self (sz := s.heap.size)
  generalize hAe : va_A ([(au, .inr (0, [.int (nI nc), .int (nI np), .int (nI ne), .int st0, .ref q4, .ref q5, .ref q6, .ref q7, .ref q8, .ref q9, .ref q10, .ref q11, .ref q12, .ref q13, .ref q14, .ref q15, .ref q16])), (q8, .inl (k8, 22, .inl f8)), (q9, .inl (k9, 88, .inl f9)), (q10, .inl (k10, 88, .inl f10)), (q11, .inl (k11, 88, .inl f11)), (q14, .inl (k14, 4, .inl f14)), (q15, .inl (k15, 4, .inl f15)), (q16, .inl (k16, 4, .inl f16))]) s.heap.size = A at hD ⊢
  have hA : ∀ q : Nat, s.heap.size ≤ q → A q := fun q h => by rw [← hAe]; exact Or.inr h
  have hS : va_S A s.heap s.heap [] := va_S.rf
  have hl := lv_entry ([.ref au]) (n := 5) (Nat.le_of_ble_eq_true rfl)
  rw [lg_entry_eq]
  generalize (lg_sl ([.ref au]) ++ List.replicate (5 - (lg_sl ([.ref au])).length) Slot.unset).toArray = ls at hl ⊢
  have hl : lv_has ls 5 [(0, .ref au)] := hl
  refine lv_iconst (v := 0) hx hb dX0_measure_0 (by decide) ?_
  refine lv_istore_n (lv' := [(1, .int 0), (0, .ref au)]) hx hb dX0_measure_1 rfl hl (by decide) rfl (fun ls hl => ?_)
  refine pu_loop (4) (fun ii H locs ls => ∃ f0 : Nat → Int32, ∃ f1 : Nat → Int32, ∃ f2 : Nat → Int32, va_P (dC, dI) vwCl [(au, .inr (0, [.int (nI nc), .int (nI np), .int (nI ne), .int st0, .ref q4, .ref q5, .ref q6, .ref q7, .ref q8, .ref q9, .ref q10, .ref q11, .ref q12, .ref q13, .ref q14, .ref q15, .ref q16])), (q8, .inl (k8, 22, .inl f8)), (q9, .inl (k9, 88, .inl f9)), (q10, .inl (k10, 88, .inl f10)), (q11, .inl (k11, 88, .inl f11)), (q14, .inl (k14, 4, .inl f0)), (q15, .inl (k15, 4, .inl f1)), (q16, .inl (k16, 4, .inl f2))] H ∧ va_D A [(au, .inr (0, [.int (nI nc), .int (nI np), .int (nI ne), .int st0, .ref q4, .ref q5, .ref q6, .ref q7, .ref q8, .ref q9, .ref q10, .ref q11, .ref q12, .ref q13, .ref q14, .ref q15, .ref q16])), (q8, .inl (k8, 22, .inl f8)), (q9, .inl (k9, 88, .inl f9)), (q10, .inl (k10, 88, .inl f10)), (q11, .inl (k11, 88, .inl f11)), (q14, .inl (k14, 4, .inl f0)), (q15, .inl (k15, 4, .inl f1)), (q16, .inl (k16, 4, .inl f2))] ∧ va_S A s.heap H locs ∧ lv_has ls 5 [(0, .ref au), (1, .int (nI ii))]) (fun _ => 0) (fun _ => 0) 2 [] ?_ ?_ _ _ _ ⟨_, _, _, hP, hD, hS, lv_sub hl [1, 0] rfl⟩
  · rintro H locs ls ⟨f_1, f_2, f_3, hP, hD, hS, hl⟩
    refine lv_iload_n hx hb dX0_measure_2 rfl (lv_at hl 1 rfl) ?_
    refine lv_iconst (v := 3) hx hb dX0_measure_3 (by decide) ?_
    refine lv_icmp_gt (tgt := 34) hx hb dX0_measure_4 (by decide) (fun _ => ?_) (fun z => absurd (nI_lt (a := 3) (b := 4) (by omega) (by omega)) z)
    refine lv_iconst (v := 0) hx hb dX0_measure_34 (by decide) ?_
    refine lv_istore_n (lv' := [(1, .int 0), (0, .ref au)]) hx hb dX0_measure_35 rfl hl (by decide) rfl (fun ls hl => ?_)
    refine pu_loop (22) (fun ii H locs ls => ∃ f0 : Nat → Int32, ∃ f1 : Nat → Int32, ∃ f2 : Nat → Int32, va_P (dC, dI) vwCl [(au, .inr (0, [.int (nI nc), .int (nI np), .int (nI ne), .int st0, .ref q4, .ref q5, .ref q6, .ref q7, .ref q8, .ref q9, .ref q10, .ref q11, .ref q12, .ref q13, .ref q14, .ref q15, .ref q16])), (q8, .inl (k8, 22, .inl f8)), (q9, .inl (k9, 88, .inl f9)), (q10, .inl (k10, 88, .inl f10)), (q11, .inl (k11, 88, .inl f11)), (q14, .inl (k14, 4, .inl f0)), (q15, .inl (k15, 4, .inl f1)), (q16, .inl (k16, 4, .inl f2))] H ∧ va_D A [(au, .inr (0, [.int (nI nc), .int (nI np), .int (nI ne), .int st0, .ref q4, .ref q5, .ref q6, .ref q7, .ref q8, .ref q9, .ref q10, .ref q11, .ref q12, .ref q13, .ref q14, .ref q15, .ref q16])), (q8, .inl (k8, 22, .inl f8)), (q9, .inl (k9, 88, .inl f9)), (q10, .inl (k10, 88, .inl f10)), (q11, .inl (k11, 88, .inl f11)), (q14, .inl (k14, 4, .inl f0)), (q15, .inl (k15, 4, .inl f1)), (q16, .inl (k16, 4, .inl f2))] ∧ va_S A s.heap H locs ∧ lv_has ls 5 [(0, .ref au), (1, .int (nI ii))]) (fun _ => 0) (fun _ => 0) 36 [] ?_ ?_ _ _ _ ⟨_, _, _, hP, hD, hS, lv_sub hl [1, 0] rfl⟩
    · rintro H locs ls ⟨f_7, f_8, f_9, hP, hD, hS, hl⟩
      refine lv_iload_n hx hb dX0_measure_36 rfl (lv_at hl 1 rfl) ?_
      refine lv_bipush (v := 22) hx hb dX0_measure_37 (by decide) ?_
      refine lv_icmp_ge (tgt := 171) hx hb dX0_measure_39 (by decide) (fun _ => ?_) (fun z => absurd (nI_le (a := 22) (b := 22) (by omega) (by omega)) z)
      have hP9 := hP.sub (ws' := [(au, .inr (0, [.int (nI nc), .int (nI np), .int (nI ne), .int st0, .ref q4, .ref q5, .ref q6, .ref q7, .ref q8, .ref q9, .ref q10, .ref q11, .ref q12, .ref q13, .ref q14, .ref q15, .ref q16])), (q8, .inl (k8, 22, .inl f8)), (q9, .inl (k9, 88, .inl f9)), (q10, .inl (k10, 88, .inl f10)), (q11, .inl (k11, 88, .inl f11)), (q14, .inl (k14, 4, .inl f_7)), (q15, .inl (k15, 4, .inl f_8)), (q16, .inl (k16, 4, .inl f_9))]) [0, 1, 2, 3, 4, 5, 6, 7] rfl
      have hD9 := hD.sub (ws' := [(au, .inr (0, [.int (nI nc), .int (nI np), .int (nI ne), .int st0, .ref q4, .ref q5, .ref q6, .ref q7, .ref q8, .ref q9, .ref q10, .ref q11, .ref q12, .ref q13, .ref q14, .ref q15, .ref q16])), (q8, .inl (k8, 22, .inl f8)), (q9, .inl (k9, 88, .inl f9)), (q10, .inl (k10, 88, .inl f10)), (q11, .inl (k11, 88, .inl f11)), (q14, .inl (k14, 4, .inl f_7)), (q15, .inl (k15, 4, .inl f_8)), (q16, .inl (k16, 4, .inl f_9))]) [0, 1, 2, 3, 4, 5, 6, 7] (by decide) rfl
      have hK9 := hK.sub (tys' := [(k8, .int), (k9, .int), (k10, .int), (k11, .int), (k14, .int), (k15, .int), (k16, .int)]) [0, 1, 2, 3, 4, 5, 6] rfl
      exact W.vret hx hb hr (fun t ht hW => ⟨⟨(), rfl, trivial, ⟨f_7, f_8, f_9, by rw [ht]; exact hP9, va_K.moved hW.alike hK9, hD9⟩⟩, hS.F ht⟩) hS.2.2 dX0_measure_171
    · rintro i_10 h_11 ih_12 H locs ls ⟨f_7, f_8, f_9, hP, hD, hS, hl⟩
      refine lv_iload_n hx hb dX0_measure_36 rfl (lv_at hl 1 rfl) ?_
      refine lv_bipush (v := 22) hx hb dX0_measure_37 (by decide) ?_
      refine lv_icmp_ge (tgt := 171) hx hb dX0_measure_39 (by decide) (fun z => absurd z (nI_ge (a := i_10) (b := 22) (by omega) (by omega))) (fun _ => ?_)
      refine lv_iconst (v := 0) hx hb dX0_measure_42 (by decide) ?_
      refine lv_istore_n (lv' := [(2, .int 0), (0, .ref au), (1, .int (nI i_10))]) hx hb dX0_measure_43 rfl hl (by decide) rfl (fun ls hl => ?_)
      obtain ⟨qc_13, hq_14, eq_15, hcc_16⟩ := hc i_10 (by omega)
      refine pu_loop (qc_13) (fun ii H locs ls => ∃ f0 : Nat → Int32, ∃ f1 : Nat → Int32, ∃ f2 : Nat → Int32, va_P (dC, dI) vwCl [(au, .inr (0, [.int (nI nc), .int (nI np), .int (nI ne), .int st0, .ref q4, .ref q5, .ref q6, .ref q7, .ref q8, .ref q9, .ref q10, .ref q11, .ref q12, .ref q13, .ref q14, .ref q15, .ref q16])), (q8, .inl (k8, 22, .inl f8)), (q9, .inl (k9, 88, .inl f9)), (q10, .inl (k10, 88, .inl f10)), (q11, .inl (k11, 88, .inl f11)), (q14, .inl (k14, 4, .inl f0)), (q15, .inl (k15, 4, .inl f1)), (q16, .inl (k16, 4, .inl f2))] H ∧ va_D A [(au, .inr (0, [.int (nI nc), .int (nI np), .int (nI ne), .int st0, .ref q4, .ref q5, .ref q6, .ref q7, .ref q8, .ref q9, .ref q10, .ref q11, .ref q12, .ref q13, .ref q14, .ref q15, .ref q16])), (q8, .inl (k8, 22, .inl f8)), (q9, .inl (k9, 88, .inl f9)), (q10, .inl (k10, 88, .inl f10)), (q11, .inl (k11, 88, .inl f11)), (q14, .inl (k14, 4, .inl f0)), (q15, .inl (k15, 4, .inl f1)), (q16, .inl (k16, 4, .inl f2))] ∧ va_S A s.heap H locs ∧ lv_has ls 5 [(0, .ref au), (1, .int (nI i_10)), (2, .int (nI ii))]) (fun _ => 0) (fun _ => 0) 44 [] ?_ ?_ _ _ _ ⟨_, _, _, hP, hD, hS, lv_sub hl [1, 2, 0] rfl⟩
      · rintro H locs ls ⟨f_17, f_18, f_19, hP, hD, hS, hl⟩
        refine lv_iload_n hx hb dX0_measure_44 rfl (lv_at hl 2 rfl) ?_
        refine lv_aload_n hx hb dX0_measure_45 rfl (lv_at hl 0 rfl) ?_
        refine va_get (D := (dC, dI)) (ci := 0) (v := .ref q8) (C := RX0) (T := TX0) (N := 17) hx hb hts hiX0 hown hK hP 0 rfl rfl 8 (by decide) v_1 (fun _ h9 => h9) rfl dX0_measure_46 ?_
        refine lv_iload_n hx hb dX0_measure_49 rfl (lv_at hl 1 rfl) ?_
        refine va_iald hx hb hK hP 1 0 rfl rfl (vp_in_nI (n := i_10) (by first | omega | exact ix_lt (by omega) (by omega) hn | exact ix_lt0 (by omega) hn | exact ix_ltq (by omega) hn | exact ix_lt1 (by omega) hn) (by omega)) dX0_measure_50 ?_
        refine lv_topi (fun y_23 ey_23 => ?_)
        have ey_23 : y_23 = f8 i_10 := ey_23.trans (congrArg f8 (nI_clamp (n := i_10) (by omega)))
        obtain rfl : y_23 = nI qc_13 := ey_23.trans eq_15
        refine lv_icmp_ge (tgt := 165) hx hb dX0_measure_51 (by decide) (fun _ => ?_) (fun z => absurd (nI_le (a := qc_13) (b := qc_13) (by omega) (by omega)) z)
        refine lv_iinc (v := (nI (i_10 + 1))) (lv' := [(1, .int (nI (i_10 + 1))), (0, .ref au), (2, .int (nI qc_13))]) hx hb dX0_measure_165 hl (k := 1) rfl (nI_1 _) (by decide) rfl (fun ls hl => ?_)
        refine lv_goto (tgt := 36) hx hb dX0_measure_168 (by decide) ?_
        exact ih_12 _ _ _ ⟨_, _, _, hP, hD, hS, lv_sub hl [1, 0] rfl⟩
      · rintro i_20 h_21 ih_22 H locs ls ⟨f_17, f_18, f_19, hP, hD, hS, hl⟩
        refine lv_iload_n hx hb dX0_measure_44 rfl (lv_at hl 2 rfl) ?_
        refine lv_aload_n hx hb dX0_measure_45 rfl (lv_at hl 0 rfl) ?_
        refine va_get (D := (dC, dI)) (ci := 0) (v := .ref q8) (C := RX0) (T := TX0) (N := 17) hx hb hts hiX0 hown hK hP 0 rfl rfl 8 (by decide) v_1 (fun _ h9 => h9) rfl dX0_measure_46 ?_
        refine lv_iload_n hx hb dX0_measure_49 rfl (lv_at hl 1 rfl) ?_
        refine va_iald hx hb hK hP 1 0 rfl rfl (vp_in_nI (n := i_10) (by first | omega | exact ix_lt (by omega) (by omega) hn | exact ix_lt0 (by omega) hn | exact ix_ltq (by omega) hn | exact ix_lt1 (by omega) hn) (by omega)) dX0_measure_50 ?_
        refine lv_topi (fun y_24 ey_24 => ?_)
        have ey_24 : y_24 = f8 i_10 := ey_24.trans (congrArg f8 (nI_clamp (n := i_10) (by omega)))
        obtain rfl : y_24 = nI qc_13 := ey_24.trans eq_15
        refine lv_icmp_ge (tgt := 165) hx hb dX0_measure_51 (by decide) (fun z => absurd z (nI_ge (a := i_20) (b := qc_13) (by omega) (by omega))) (fun _ => ?_)
        refine lv_iload_n hx hb dX0_measure_54 rfl (lv_at hl 1 rfl) ?_
        refine lv_iload_n hx hb dX0_measure_55 rfl (lv_at hl 2 rfl) ?_
        refine va_calli (va_runS (As := [.int (nI i_10), .int (nI i_20)]) (rest := []) ⟨hx, hb, hml, hown, hts⟩ (c_X0_slot l dC dI _ i_10 i_20) (va_cwS 2 hts g_X0_measure_X0_slot rfl rfl rfl (by decide +kernel) ⟨Nat.le_of_ble_eq_true rfl, Nat.le_of_ble_eq_true rfl⟩) ⟨pu_bl, pu_in (hP.sub [] rfl) (hK.sub [] rfl) (hD.sub [] (by decide) rfl)⟩ rfl rfl hl.1 rfl (lv_room (Nat.le_of_ble_eq_true rfl)) dX0_measure_56 ⟨Nat.le_of_ble_eq_true rfl, Nat.le_of_ble_eq_true rfl⟩) hS (fun q _ h => pu_fr hS hA q h) (pu_fr hS hA) (fun r_25 u t H1 locs ht hvm hw hB hz1 hk1 hS => ?_)
        have hP := pu_keep hP hk1
        clear hk1 hz1 ht hvm
        generalize H1 = H at hP hS ⊢
        obtain rfl : r_25 = (nI (i_10 * 4 + i_20)) := hw
        refine lv_istore_n (lv' := [(3, .int (nI (i_10 * 4 + i_20))), (0, .ref au), (1, .int (nI i_10)), (2, .int (nI i_20))]) hx hb dX0_measure_59 rfl hl (by decide) rfl (fun ls hl => ?_)
        refine lv_aload_n hx hb dX0_measure_60 rfl (lv_at hl 1 rfl) ?_
        refine va_get (D := (dC, dI)) (ci := 0) (v := .ref q9) (C := RX0) (T := TX0) (N := 17) hx hb hts hiX0 hown hK hP 0 rfl rfl 9 (by decide) v_6 (fun _ h9 => h9) rfl dX0_measure_61 ?_
        refine lv_iload_n hx hb dX0_measure_64 rfl (lv_at hl 0 rfl) ?_
        refine va_iald hx hb hK hP 2 1 rfl rfl (vp_in_nI (n := (i_10 * 4 + i_20)) (by first | omega | exact ix_lt (by omega) (by omega) hn | exact ix_lt0 (by omega) hn | exact ix_ltq (by omega) hn | exact ix_lt1 (by omega) hn) (by omega)) dX0_measure_65 ?_
        refine lv_topi (fun y_26 ey_26 => ?_)
        have ey_26 : y_26 = f9 (i_10 * 4 + i_20) := ey_26.trans (congrArg f9 (nI_clamp (n := (i_10 * 4 + i_20)) (by omega)))
        obtain ⟨cq_27, hq_28, eq_29⟩ := hcc_16 i_20 (by omega)
        obtain rfl : y_26 = nI cq_27 := ey_26.trans eq_29
        refine lv_iconst (v := 1) hx hb dX0_measure_66 (by decide) ?_
        refine lv_iadd hx hb dX0_measure_67 ?_
        refine lv_topi (fun y_30 ey_30 => ?_)
        obtain rfl : y_30 = (nI (cq_27 + 1)) := ey_30.trans (nI_add cq_27 1)
        refine lv_istore (lv' := [(4, .int (nI (cq_27 + 1))), (3, .int (nI (i_10 * 4 + i_20))), (0, .ref au), (1, .int (nI i_10)), (2, .int (nI i_20))]) hx hb dX0_measure_68 hl (by decide) rfl (fun ls hl => ?_)
        refine lv_aload_n hx hb dX0_measure_70 rfl (lv_at hl 2 rfl) ?_
        refine va_get (D := (dC, dI)) (ci := 0) (v := .ref q14) (C := RX0) (T := TX0) (N := 17) hx hb hts hiX0 hown hK hP 0 rfl rfl 14 (by decide) v_7 (fun _ h9 => h9) rfl dX0_measure_71 ?_
        refine lv_iload hx hb dX0_measure_74 (lv_at hl 0 rfl) ?_
        refine lv_aload_n hx hb dX0_measure_76 rfl (lv_at hl 2 rfl) ?_
        refine va_get (D := (dC, dI)) (ci := 0) (v := .ref q14) (C := RX0) (T := TX0) (N := 17) hx hb hts hiX0 hown hK hP 0 rfl rfl 14 (by decide) v_7 (fun _ h9 => h9) rfl dX0_measure_77 ?_
        refine lv_iload hx hb dX0_measure_80 (lv_at hl 0 rfl) ?_
        refine va_iald hx hb hK hP 5 4 rfl rfl (vp_in_nI (n := (cq_27 + 1)) (by first | omega | exact ix_lt (by omega) (by omega) hn | exact ix_lt0 (by omega) hn | exact ix_ltq (by omega) hn | exact ix_lt1 (by omega) hn) (by omega)) dX0_measure_82 ?_
        refine lv_aload_n hx hb dX0_measure_83 rfl (lv_at hl 2 rfl) ?_
        refine va_get (D := (dC, dI)) (ci := 0) (v := .ref q11) (C := RX0) (T := TX0) (N := 17) hx hb hts hiX0 hown hK hP 0 rfl rfl 11 (by decide) v_8 (fun _ h9 => h9) rfl dX0_measure_84 ?_
        refine lv_iload_n hx hb dX0_measure_87 rfl (lv_at hl 1 rfl) ?_
        refine va_iald hx hb hK hP 4 3 rfl rfl (vp_in_nI (n := (i_10 * 4 + i_20)) (by first | omega | exact ix_lt (by omega) (by omega) hn | exact ix_lt0 (by omega) hn | exact ix_ltq (by omega) hn | exact ix_lt1 (by omega) hn) (by omega)) dX0_measure_88 ?_
        refine va_mmax hx hb (hml.trans hl.1.symm) hown v_9 v_10 v_11 v_12 (Nat.le_of_ble_eq_true rfl) (Nat.le_of_ble_eq_true rfl) (Nat.le_of_ble_eq_true rfl) (Nat.le_of_ble_eq_true rfl) dX0_measure_89 ?_
        refine lv_topi (fun y_31 ey_31 => ?_)
        refine va_iast hx hb hK hP hD hS 5 4 rfl rfl (vp_in_nI (n := (cq_27 + 1)) (by first | omega | exact ix_lt (by omega) (by omega) hn | exact ix_lt0 (by omega) hn | exact ix_ltq (by omega) hn | exact ix_lt1 (by omega) hn) (by omega)) dX0_measure_92 (fun H locs hP hD hS => ?_)
        have hP : va_P (dC, dI) vwCl [(au, .inr (0, [.int (nI nc), .int (nI np), .int (nI ne), .int st0, .ref q4, .ref q5, .ref q6, .ref q7, .ref q8, .ref q9, .ref q10, .ref q11, .ref q12, .ref q13, .ref q14, .ref q15, .ref q16])), (q8, .inl (k8, 22, .inl f8)), (q9, .inl (k9, 88, .inl f9)), (q10, .inl (k10, 88, .inl f10)), (q11, .inl (k11, 88, .inl f11)), (q14, .inl (k14, 4, .inl (upd f_17 ((nI (cq_27 + 1)) : Int32).toNatClampNeg y_31))), (q15, .inl (k15, 4, .inl f_18)), (q16, .inl (k16, 4, .inl f_19))] H := hP
        have hD : va_D A [(au, .inr (0, [.int (nI nc), .int (nI np), .int (nI ne), .int st0, .ref q4, .ref q5, .ref q6, .ref q7, .ref q8, .ref q9, .ref q10, .ref q11, .ref q12, .ref q13, .ref q14, .ref q15, .ref q16])), (q8, .inl (k8, 22, .inl f8)), (q9, .inl (k9, 88, .inl f9)), (q10, .inl (k10, 88, .inl f10)), (q11, .inl (k11, 88, .inl f11)), (q14, .inl (k14, 4, .inl (upd f_17 ((nI (cq_27 + 1)) : Int32).toNatClampNeg y_31))), (q15, .inl (k15, 4, .inl f_18)), (q16, .inl (k16, 4, .inl f_19))] := hD
        refine lv_aload_n hx hb dX0_measure_93 rfl (lv_at hl 2 rfl) ?_
        refine va_get (D := (dC, dI)) (ci := 0) (v := .ref q10) (C := RX0) (T := TX0) (N := 17) hx hb hts hiX0 hown hK hP 0 rfl rfl 10 (by decide) v_13 (fun _ h9 => h9) rfl dX0_measure_94 ?_
        refine lv_iload_n hx hb dX0_measure_97 rfl (lv_at hl 1 rfl) ?_
        refine va_iald hx hb hK hP 3 2 rfl rfl (vp_in_nI (n := (i_10 * 4 + i_20)) (by first | omega | exact ix_lt (by omega) (by omega) hn | exact ix_lt0 (by omega) hn | exact ix_ltq (by omega) hn | exact ix_lt1 (by omega) hn) (by omega)) dX0_measure_98 ?_
        refine lv_iconst (v := 2) hx hb dX0_measure_99 (by decide) ?_
        refine lv_icmp_lt (tgt := 126) hx hb dX0_measure_100 (by decide) (fun c_32 => ?_) (fun c_32 => ?_)
        · refine lv_aload_n hx hb dX0_measure_126 rfl (lv_at hl 2 rfl) ?_
          refine va_get (D := (dC, dI)) (ci := 0) (v := .ref q10) (C := RX0) (T := TX0) (N := 17) hx hb hts hiX0 hown hK hP 0 rfl rfl 10 (by decide) v_13 (fun _ h9 => h9) rfl dX0_measure_127 ?_
          refine lv_iload_n hx hb dX0_measure_130 rfl (lv_at hl 1 rfl) ?_
          refine va_iald hx hb hK hP 3 2 rfl rfl (vp_in_nI (n := (i_10 * 4 + i_20)) (by first | omega | exact ix_lt (by omega) (by omega) hn | exact ix_lt0 (by omega) hn | exact ix_ltq (by omega) hn | exact ix_lt1 (by omega) hn) (by omega)) dX0_measure_131 ?_
          refine lv_iconst (v := 2) hx hb dX0_measure_132 (by decide) ?_
          refine lv_icmp_gt (tgt := 159) hx hb dX0_measure_133 (by decide) (fun c_33 => ?_) (fun c_33 => ?_)
          · have z_0 := c_32
            have z_1 := c_33
            exfalso
            simp only [fa_lt, fa_le, fa_eq] at z_0 z_1
            have y_0 : (0 : Int32).toInt = 0 := by decide
            have y_2 : (2 : Int32).toInt = 2 := by decide
            omega
          · refine lv_aload_n hx hb dX0_measure_136 rfl (lv_at hl 2 rfl) ?_
            refine va_get (D := (dC, dI)) (ci := 0) (v := .ref q16) (C := RX0) (T := TX0) (N := 17) hx hb hts hiX0 hown hK hP 0 rfl rfl 16 (by decide) v_14 (fun _ h9 => h9) rfl dX0_measure_137 ?_
            refine lv_iload hx hb dX0_measure_140 (lv_at hl 0 rfl) ?_
            refine lv_aload_n hx hb dX0_measure_142 rfl (lv_at hl 2 rfl) ?_
            refine va_get (D := (dC, dI)) (ci := 0) (v := .ref q16) (C := RX0) (T := TX0) (N := 17) hx hb hts hiX0 hown hK hP 0 rfl rfl 16 (by decide) v_14 (fun _ h9 => h9) rfl dX0_measure_143 ?_
            refine lv_iload hx hb dX0_measure_146 (lv_at hl 0 rfl) ?_
            refine va_iald hx hb hK hP 7 6 rfl rfl (vp_in_nI (n := (cq_27 + 1)) (by first | omega | exact ix_lt (by omega) (by omega) hn | exact ix_lt0 (by omega) hn | exact ix_ltq (by omega) hn | exact ix_lt1 (by omega) hn) (by omega)) dX0_measure_148 ?_
            refine lv_aload_n hx hb dX0_measure_149 rfl (lv_at hl 2 rfl) ?_
            refine va_get (D := (dC, dI)) (ci := 0) (v := .ref q11) (C := RX0) (T := TX0) (N := 17) hx hb hts hiX0 hown hK hP 0 rfl rfl 11 (by decide) v_8 (fun _ h9 => h9) rfl dX0_measure_150 ?_
            refine lv_iload_n hx hb dX0_measure_153 rfl (lv_at hl 1 rfl) ?_
            refine va_iald hx hb hK hP 4 3 rfl rfl (vp_in_nI (n := (i_10 * 4 + i_20)) (by first | omega | exact ix_lt (by omega) (by omega) hn | exact ix_lt0 (by omega) hn | exact ix_ltq (by omega) hn | exact ix_lt1 (by omega) hn) (by omega)) dX0_measure_154 ?_
            refine va_mmax hx hb (hml.trans hl.1.symm) hown v_9 v_10 v_11 v_12 (Nat.le_of_ble_eq_true rfl) (Nat.le_of_ble_eq_true rfl) (Nat.le_of_ble_eq_true rfl) (Nat.le_of_ble_eq_true rfl) dX0_measure_155 ?_
            refine lv_topi (fun y_34 ey_34 => ?_)
            refine va_iast hx hb hK hP hD hS 7 6 rfl rfl (vp_in_nI (n := (cq_27 + 1)) (by first | omega | exact ix_lt (by omega) (by omega) hn | exact ix_lt0 (by omega) hn | exact ix_ltq (by omega) hn | exact ix_lt1 (by omega) hn) (by omega)) dX0_measure_158 (fun H locs hP hD hS => ?_)
            have hP : va_P (dC, dI) vwCl [(au, .inr (0, [.int (nI nc), .int (nI np), .int (nI ne), .int st0, .ref q4, .ref q5, .ref q6, .ref q7, .ref q8, .ref q9, .ref q10, .ref q11, .ref q12, .ref q13, .ref q14, .ref q15, .ref q16])), (q8, .inl (k8, 22, .inl f8)), (q9, .inl (k9, 88, .inl f9)), (q10, .inl (k10, 88, .inl f10)), (q11, .inl (k11, 88, .inl f11)), (q14, .inl (k14, 4, .inl (upd f_17 ((nI (cq_27 + 1)) : Int32).toNatClampNeg y_31))), (q15, .inl (k15, 4, .inl f_18)), (q16, .inl (k16, 4, .inl (upd f_19 ((nI (cq_27 + 1)) : Int32).toNatClampNeg y_34)))] H := hP
            have hD : va_D A [(au, .inr (0, [.int (nI nc), .int (nI np), .int (nI ne), .int st0, .ref q4, .ref q5, .ref q6, .ref q7, .ref q8, .ref q9, .ref q10, .ref q11, .ref q12, .ref q13, .ref q14, .ref q15, .ref q16])), (q8, .inl (k8, 22, .inl f8)), (q9, .inl (k9, 88, .inl f9)), (q10, .inl (k10, 88, .inl f10)), (q11, .inl (k11, 88, .inl f11)), (q14, .inl (k14, 4, .inl (upd f_17 ((nI (cq_27 + 1)) : Int32).toNatClampNeg y_31))), (q15, .inl (k15, 4, .inl f_18)), (q16, .inl (k16, 4, .inl (upd f_19 ((nI (cq_27 + 1)) : Int32).toNatClampNeg y_34)))] := hD
            refine lv_iinc (v := (nI (i_20 + 1))) (lv' := [(2, .int (nI (i_20 + 1))), (4, .int (nI (cq_27 + 1))), (3, .int (nI (i_10 * 4 + i_20))), (0, .ref au), (1, .int (nI i_10))]) hx hb dX0_measure_159 hl (k := 4) rfl (nI_1 _) (by decide) rfl (fun ls hl => ?_)
            refine lv_goto (tgt := 44) hx hb dX0_measure_162 (by decide) ?_
            exact ih_22 _ _ _ ⟨_, _, _, hP, hD, hS, lv_sub hl [3, 4, 0] rfl⟩
        · refine lv_aload_n hx hb dX0_measure_103 rfl (lv_at hl 2 rfl) ?_
          refine va_get (D := (dC, dI)) (ci := 0) (v := .ref q15) (C := RX0) (T := TX0) (N := 17) hx hb hts hiX0 hown hK hP 0 rfl rfl 15 (by decide) v_15 (fun _ h9 => h9) rfl dX0_measure_104 ?_
          refine lv_iload hx hb dX0_measure_107 (lv_at hl 0 rfl) ?_
          refine lv_aload_n hx hb dX0_measure_109 rfl (lv_at hl 2 rfl) ?_
          refine va_get (D := (dC, dI)) (ci := 0) (v := .ref q15) (C := RX0) (T := TX0) (N := 17) hx hb hts hiX0 hown hK hP 0 rfl rfl 15 (by decide) v_15 (fun _ h9 => h9) rfl dX0_measure_110 ?_
          refine lv_iload hx hb dX0_measure_113 (lv_at hl 0 rfl) ?_
          refine va_iald hx hb hK hP 6 5 rfl rfl (vp_in_nI (n := (cq_27 + 1)) (by first | omega | exact ix_lt (by omega) (by omega) hn | exact ix_lt0 (by omega) hn | exact ix_ltq (by omega) hn | exact ix_lt1 (by omega) hn) (by omega)) dX0_measure_115 ?_
          refine lv_aload_n hx hb dX0_measure_116 rfl (lv_at hl 2 rfl) ?_
          refine va_get (D := (dC, dI)) (ci := 0) (v := .ref q11) (C := RX0) (T := TX0) (N := 17) hx hb hts hiX0 hown hK hP 0 rfl rfl 11 (by decide) v_8 (fun _ h9 => h9) rfl dX0_measure_117 ?_
          refine lv_iload_n hx hb dX0_measure_120 rfl (lv_at hl 1 rfl) ?_
          refine va_iald hx hb hK hP 4 3 rfl rfl (vp_in_nI (n := (i_10 * 4 + i_20)) (by first | omega | exact ix_lt (by omega) (by omega) hn | exact ix_lt0 (by omega) hn | exact ix_ltq (by omega) hn | exact ix_lt1 (by omega) hn) (by omega)) dX0_measure_121 ?_
          refine va_mmax hx hb (hml.trans hl.1.symm) hown v_9 v_10 v_11 v_12 (Nat.le_of_ble_eq_true rfl) (Nat.le_of_ble_eq_true rfl) (Nat.le_of_ble_eq_true rfl) (Nat.le_of_ble_eq_true rfl) dX0_measure_122 ?_
          refine lv_topi (fun y_35 ey_35 => ?_)
          refine va_iast hx hb hK hP hD hS 6 5 rfl rfl (vp_in_nI (n := (cq_27 + 1)) (by first | omega | exact ix_lt (by omega) (by omega) hn | exact ix_lt0 (by omega) hn | exact ix_ltq (by omega) hn | exact ix_lt1 (by omega) hn) (by omega)) dX0_measure_125 (fun H locs hP hD hS => ?_)
          have hP : va_P (dC, dI) vwCl [(au, .inr (0, [.int (nI nc), .int (nI np), .int (nI ne), .int st0, .ref q4, .ref q5, .ref q6, .ref q7, .ref q8, .ref q9, .ref q10, .ref q11, .ref q12, .ref q13, .ref q14, .ref q15, .ref q16])), (q8, .inl (k8, 22, .inl f8)), (q9, .inl (k9, 88, .inl f9)), (q10, .inl (k10, 88, .inl f10)), (q11, .inl (k11, 88, .inl f11)), (q14, .inl (k14, 4, .inl (upd f_17 ((nI (cq_27 + 1)) : Int32).toNatClampNeg y_31))), (q15, .inl (k15, 4, .inl (upd f_18 ((nI (cq_27 + 1)) : Int32).toNatClampNeg y_35))), (q16, .inl (k16, 4, .inl f_19))] H := hP
          have hD : va_D A [(au, .inr (0, [.int (nI nc), .int (nI np), .int (nI ne), .int st0, .ref q4, .ref q5, .ref q6, .ref q7, .ref q8, .ref q9, .ref q10, .ref q11, .ref q12, .ref q13, .ref q14, .ref q15, .ref q16])), (q8, .inl (k8, 22, .inl f8)), (q9, .inl (k9, 88, .inl f9)), (q10, .inl (k10, 88, .inl f10)), (q11, .inl (k11, 88, .inl f11)), (q14, .inl (k14, 4, .inl (upd f_17 ((nI (cq_27 + 1)) : Int32).toNatClampNeg y_31))), (q15, .inl (k15, 4, .inl (upd f_18 ((nI (cq_27 + 1)) : Int32).toNatClampNeg y_35))), (q16, .inl (k16, 4, .inl f_19))] := hD
          refine lv_aload_n hx hb dX0_measure_126 rfl (lv_at hl 2 rfl) ?_
          refine va_get (D := (dC, dI)) (ci := 0) (v := .ref q10) (C := RX0) (T := TX0) (N := 17) hx hb hts hiX0 hown hK hP 0 rfl rfl 10 (by decide) v_13 (fun _ h9 => h9) rfl dX0_measure_127 ?_
          refine lv_iload_n hx hb dX0_measure_130 rfl (lv_at hl 1 rfl) ?_
          refine va_iald hx hb hK hP 3 2 rfl rfl (vp_in_nI (n := (i_10 * 4 + i_20)) (by first | omega | exact ix_lt (by omega) (by omega) hn | exact ix_lt0 (by omega) hn | exact ix_ltq (by omega) hn | exact ix_lt1 (by omega) hn) (by omega)) dX0_measure_131 ?_
          refine lv_iconst (v := 2) hx hb dX0_measure_132 (by decide) ?_
          refine lv_icmp_gt (tgt := 159) hx hb dX0_measure_133 (by decide) (fun c_36 => ?_) (fun c_36 => ?_)
          · refine lv_iinc (v := (nI (i_20 + 1))) (lv' := [(2, .int (nI (i_20 + 1))), (4, .int (nI (cq_27 + 1))), (3, .int (nI (i_10 * 4 + i_20))), (0, .ref au), (1, .int (nI i_10))]) hx hb dX0_measure_159 hl (k := 4) rfl (nI_1 _) (by decide) rfl (fun ls hl => ?_)
            refine lv_goto (tgt := 44) hx hb dX0_measure_162 (by decide) ?_
            exact ih_22 _ _ _ ⟨_, _, _, hP, hD, hS, lv_sub hl [3, 4, 0] rfl⟩
          · refine lv_aload_n hx hb dX0_measure_136 rfl (lv_at hl 2 rfl) ?_
            refine va_get (D := (dC, dI)) (ci := 0) (v := .ref q16) (C := RX0) (T := TX0) (N := 17) hx hb hts hiX0 hown hK hP 0 rfl rfl 16 (by decide) v_14 (fun _ h9 => h9) rfl dX0_measure_137 ?_
            refine lv_iload hx hb dX0_measure_140 (lv_at hl 0 rfl) ?_
            refine lv_aload_n hx hb dX0_measure_142 rfl (lv_at hl 2 rfl) ?_
            refine va_get (D := (dC, dI)) (ci := 0) (v := .ref q16) (C := RX0) (T := TX0) (N := 17) hx hb hts hiX0 hown hK hP 0 rfl rfl 16 (by decide) v_14 (fun _ h9 => h9) rfl dX0_measure_143 ?_
            refine lv_iload hx hb dX0_measure_146 (lv_at hl 0 rfl) ?_
            refine va_iald hx hb hK hP 7 6 rfl rfl (vp_in_nI (n := (cq_27 + 1)) (by first | omega | exact ix_lt (by omega) (by omega) hn | exact ix_lt0 (by omega) hn | exact ix_ltq (by omega) hn | exact ix_lt1 (by omega) hn) (by omega)) dX0_measure_148 ?_
            refine lv_aload_n hx hb dX0_measure_149 rfl (lv_at hl 2 rfl) ?_
            refine va_get (D := (dC, dI)) (ci := 0) (v := .ref q11) (C := RX0) (T := TX0) (N := 17) hx hb hts hiX0 hown hK hP 0 rfl rfl 11 (by decide) v_8 (fun _ h9 => h9) rfl dX0_measure_150 ?_
            refine lv_iload_n hx hb dX0_measure_153 rfl (lv_at hl 1 rfl) ?_
            refine va_iald hx hb hK hP 4 3 rfl rfl (vp_in_nI (n := (i_10 * 4 + i_20)) (by first | omega | exact ix_lt (by omega) (by omega) hn | exact ix_lt0 (by omega) hn | exact ix_ltq (by omega) hn | exact ix_lt1 (by omega) hn) (by omega)) dX0_measure_154 ?_
            refine va_mmax hx hb (hml.trans hl.1.symm) hown v_9 v_10 v_11 v_12 (Nat.le_of_ble_eq_true rfl) (Nat.le_of_ble_eq_true rfl) (Nat.le_of_ble_eq_true rfl) (Nat.le_of_ble_eq_true rfl) dX0_measure_155 ?_
            refine lv_topi (fun y_37 ey_37 => ?_)
            refine va_iast hx hb hK hP hD hS 7 6 rfl rfl (vp_in_nI (n := (cq_27 + 1)) (by first | omega | exact ix_lt (by omega) (by omega) hn | exact ix_lt0 (by omega) hn | exact ix_ltq (by omega) hn | exact ix_lt1 (by omega) hn) (by omega)) dX0_measure_158 (fun H locs hP hD hS => ?_)
            have hP : va_P (dC, dI) vwCl [(au, .inr (0, [.int (nI nc), .int (nI np), .int (nI ne), .int st0, .ref q4, .ref q5, .ref q6, .ref q7, .ref q8, .ref q9, .ref q10, .ref q11, .ref q12, .ref q13, .ref q14, .ref q15, .ref q16])), (q8, .inl (k8, 22, .inl f8)), (q9, .inl (k9, 88, .inl f9)), (q10, .inl (k10, 88, .inl f10)), (q11, .inl (k11, 88, .inl f11)), (q14, .inl (k14, 4, .inl (upd f_17 ((nI (cq_27 + 1)) : Int32).toNatClampNeg y_31))), (q15, .inl (k15, 4, .inl (upd f_18 ((nI (cq_27 + 1)) : Int32).toNatClampNeg y_35))), (q16, .inl (k16, 4, .inl (upd f_19 ((nI (cq_27 + 1)) : Int32).toNatClampNeg y_37)))] H := hP
            have hD : va_D A [(au, .inr (0, [.int (nI nc), .int (nI np), .int (nI ne), .int st0, .ref q4, .ref q5, .ref q6, .ref q7, .ref q8, .ref q9, .ref q10, .ref q11, .ref q12, .ref q13, .ref q14, .ref q15, .ref q16])), (q8, .inl (k8, 22, .inl f8)), (q9, .inl (k9, 88, .inl f9)), (q10, .inl (k10, 88, .inl f10)), (q11, .inl (k11, 88, .inl f11)), (q14, .inl (k14, 4, .inl (upd f_17 ((nI (cq_27 + 1)) : Int32).toNatClampNeg y_31))), (q15, .inl (k15, 4, .inl (upd f_18 ((nI (cq_27 + 1)) : Int32).toNatClampNeg y_35))), (q16, .inl (k16, 4, .inl (upd f_19 ((nI (cq_27 + 1)) : Int32).toNatClampNeg y_37)))] := hD
            refine lv_iinc (v := (nI (i_20 + 1))) (lv' := [(2, .int (nI (i_20 + 1))), (4, .int (nI (cq_27 + 1))), (3, .int (nI (i_10 * 4 + i_20))), (0, .ref au), (1, .int (nI i_10))]) hx hb dX0_measure_159 hl (k := 4) rfl (nI_1 _) (by decide) rfl (fun ls hl => ?_)
            refine lv_goto (tgt := 44) hx hb dX0_measure_162 (by decide) ?_
            exact ih_22 _ _ _ ⟨_, _, _, hP, hD, hS, lv_sub hl [3, 4, 0] rfl⟩
  · rintro i_4 h_5 ih_6 H locs ls ⟨f_1, f_2, f_3, hP, hD, hS, hl⟩
    refine lv_iload_n hx hb dX0_measure_2 rfl (lv_at hl 1 rfl) ?_
    refine lv_iconst (v := 3) hx hb dX0_measure_3 (by decide) ?_
    refine lv_icmp_gt (tgt := 34) hx hb dX0_measure_4 (by decide) (fun z => absurd z (nI_nlt (a := 3) (b := i_4) (by omega) (by omega))) (fun _ => ?_)
    refine lv_aload_n hx hb dX0_measure_7 rfl (lv_at hl 0 rfl) ?_
    refine va_get (D := (dC, dI)) (ci := 0) (v := .ref q14) (C := RX0) (T := TX0) (N := 17) hx hb hts hiX0 hown hK hP 0 rfl rfl 14 (by decide) v_7 (fun _ h9 => h9) rfl dX0_measure_8 ?_
    refine lv_iload_n hx hb dX0_measure_11 rfl (lv_at hl 1 rfl) ?_
    refine lv_iconst (v := 0) hx hb dX0_measure_12 (by decide) ?_
    refine va_iast hx hb hK hP hD hS 5 4 rfl rfl (vp_in_nI (n := i_4) (by first | omega | exact ix_lt (by omega) (by omega) hn | exact ix_lt0 (by omega) hn | exact ix_ltq (by omega) hn | exact ix_lt1 (by omega) hn) (by omega)) dX0_measure_13 (fun H locs hP hD hS => ?_)
    have hP : va_P (dC, dI) vwCl [(au, .inr (0, [.int (nI nc), .int (nI np), .int (nI ne), .int st0, .ref q4, .ref q5, .ref q6, .ref q7, .ref q8, .ref q9, .ref q10, .ref q11, .ref q12, .ref q13, .ref q14, .ref q15, .ref q16])), (q8, .inl (k8, 22, .inl f8)), (q9, .inl (k9, 88, .inl f9)), (q10, .inl (k10, 88, .inl f10)), (q11, .inl (k11, 88, .inl f11)), (q14, .inl (k14, 4, .inl (upd f_1 ((nI i_4) : Int32).toNatClampNeg 0))), (q15, .inl (k15, 4, .inl f_2)), (q16, .inl (k16, 4, .inl f_3))] H := hP
    have hD : va_D A [(au, .inr (0, [.int (nI nc), .int (nI np), .int (nI ne), .int st0, .ref q4, .ref q5, .ref q6, .ref q7, .ref q8, .ref q9, .ref q10, .ref q11, .ref q12, .ref q13, .ref q14, .ref q15, .ref q16])), (q8, .inl (k8, 22, .inl f8)), (q9, .inl (k9, 88, .inl f9)), (q10, .inl (k10, 88, .inl f10)), (q11, .inl (k11, 88, .inl f11)), (q14, .inl (k14, 4, .inl (upd f_1 ((nI i_4) : Int32).toNatClampNeg 0))), (q15, .inl (k15, 4, .inl f_2)), (q16, .inl (k16, 4, .inl f_3))] := hD
    refine lv_aload_n hx hb dX0_measure_14 rfl (lv_at hl 0 rfl) ?_
    refine va_get (D := (dC, dI)) (ci := 0) (v := .ref q15) (C := RX0) (T := TX0) (N := 17) hx hb hts hiX0 hown hK hP 0 rfl rfl 15 (by decide) v_15 (fun _ h9 => h9) rfl dX0_measure_15 ?_
    refine lv_iload_n hx hb dX0_measure_18 rfl (lv_at hl 1 rfl) ?_
    refine lv_iconst (v := 0) hx hb dX0_measure_19 (by decide) ?_
    refine va_iast hx hb hK hP hD hS 6 5 rfl rfl (vp_in_nI (n := i_4) (by first | omega | exact ix_lt (by omega) (by omega) hn | exact ix_lt0 (by omega) hn | exact ix_ltq (by omega) hn | exact ix_lt1 (by omega) hn) (by omega)) dX0_measure_20 (fun H locs hP hD hS => ?_)
    have hP : va_P (dC, dI) vwCl [(au, .inr (0, [.int (nI nc), .int (nI np), .int (nI ne), .int st0, .ref q4, .ref q5, .ref q6, .ref q7, .ref q8, .ref q9, .ref q10, .ref q11, .ref q12, .ref q13, .ref q14, .ref q15, .ref q16])), (q8, .inl (k8, 22, .inl f8)), (q9, .inl (k9, 88, .inl f9)), (q10, .inl (k10, 88, .inl f10)), (q11, .inl (k11, 88, .inl f11)), (q14, .inl (k14, 4, .inl (upd f_1 ((nI i_4) : Int32).toNatClampNeg 0))), (q15, .inl (k15, 4, .inl (upd f_2 ((nI i_4) : Int32).toNatClampNeg 0))), (q16, .inl (k16, 4, .inl f_3))] H := hP
    have hD : va_D A [(au, .inr (0, [.int (nI nc), .int (nI np), .int (nI ne), .int st0, .ref q4, .ref q5, .ref q6, .ref q7, .ref q8, .ref q9, .ref q10, .ref q11, .ref q12, .ref q13, .ref q14, .ref q15, .ref q16])), (q8, .inl (k8, 22, .inl f8)), (q9, .inl (k9, 88, .inl f9)), (q10, .inl (k10, 88, .inl f10)), (q11, .inl (k11, 88, .inl f11)), (q14, .inl (k14, 4, .inl (upd f_1 ((nI i_4) : Int32).toNatClampNeg 0))), (q15, .inl (k15, 4, .inl (upd f_2 ((nI i_4) : Int32).toNatClampNeg 0))), (q16, .inl (k16, 4, .inl f_3))] := hD
    refine lv_aload_n hx hb dX0_measure_21 rfl (lv_at hl 0 rfl) ?_
    refine va_get (D := (dC, dI)) (ci := 0) (v := .ref q16) (C := RX0) (T := TX0) (N := 17) hx hb hts hiX0 hown hK hP 0 rfl rfl 16 (by decide) v_14 (fun _ h9 => h9) rfl dX0_measure_22 ?_
    refine lv_iload_n hx hb dX0_measure_25 rfl (lv_at hl 1 rfl) ?_
    refine lv_iconst (v := 0) hx hb dX0_measure_26 (by decide) ?_
    refine va_iast hx hb hK hP hD hS 7 6 rfl rfl (vp_in_nI (n := i_4) (by first | omega | exact ix_lt (by omega) (by omega) hn | exact ix_lt0 (by omega) hn | exact ix_ltq (by omega) hn | exact ix_lt1 (by omega) hn) (by omega)) dX0_measure_27 (fun H locs hP hD hS => ?_)
    have hP : va_P (dC, dI) vwCl [(au, .inr (0, [.int (nI nc), .int (nI np), .int (nI ne), .int st0, .ref q4, .ref q5, .ref q6, .ref q7, .ref q8, .ref q9, .ref q10, .ref q11, .ref q12, .ref q13, .ref q14, .ref q15, .ref q16])), (q8, .inl (k8, 22, .inl f8)), (q9, .inl (k9, 88, .inl f9)), (q10, .inl (k10, 88, .inl f10)), (q11, .inl (k11, 88, .inl f11)), (q14, .inl (k14, 4, .inl (upd f_1 ((nI i_4) : Int32).toNatClampNeg 0))), (q15, .inl (k15, 4, .inl (upd f_2 ((nI i_4) : Int32).toNatClampNeg 0))), (q16, .inl (k16, 4, .inl (upd f_3 ((nI i_4) : Int32).toNatClampNeg 0)))] H := hP
    have hD : va_D A [(au, .inr (0, [.int (nI nc), .int (nI np), .int (nI ne), .int st0, .ref q4, .ref q5, .ref q6, .ref q7, .ref q8, .ref q9, .ref q10, .ref q11, .ref q12, .ref q13, .ref q14, .ref q15, .ref q16])), (q8, .inl (k8, 22, .inl f8)), (q9, .inl (k9, 88, .inl f9)), (q10, .inl (k10, 88, .inl f10)), (q11, .inl (k11, 88, .inl f11)), (q14, .inl (k14, 4, .inl (upd f_1 ((nI i_4) : Int32).toNatClampNeg 0))), (q15, .inl (k15, 4, .inl (upd f_2 ((nI i_4) : Int32).toNatClampNeg 0))), (q16, .inl (k16, 4, .inl (upd f_3 ((nI i_4) : Int32).toNatClampNeg 0)))] := hD
    refine lv_iinc (v := (nI (i_4 + 1))) (lv' := [(1, .int (nI (i_4 + 1))), (0, .ref au)]) hx hb dX0_measure_28 hl (k := 1) rfl (nI_1 _) (by decide) rfl (fun ls hl => ?_)
    refine lv_goto (tgt := 2) hx hb dX0_measure_31 (by decide) ?_
    exact ih_6 _ _ _ ⟨_, _, _, hP, hD, hS, lv_sub hl [1, 0] rfl⟩
